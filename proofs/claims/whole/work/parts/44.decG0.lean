/-! DECODE ROWS. Printed by wip/make.py. -/
theorem d_G_init_0 : decode mt_G_init.2.1 0 = .ok (.aload_n 0, 1) := by decide +kernel
theorem d_G_init_1 : decode mt_G_init.2.1 1 = .ok (.invokespecial 3, 3) := by decide +kernel
theorem d_G_init_4 : decode mt_G_init.2.1 4 = .ok (.aload_n 0, 1) := by decide +kernel
theorem d_G_init_5 : decode mt_G_init.2.1 5 = .ok (.iconst 4, 1) := by decide +kernel
theorem d_G_init_6 : decode mt_G_init.2.1 6 = .ok (.anewarray 9, 3) := by decide +kernel
theorem d_G_init_9 : decode mt_G_init.2.1 9 = .ok (.putfield 11, 3) := by decide +kernel
theorem d_G_init_12 : decode mt_G_init.2.1 12 = .ok (.aload_n 0, 1) := by decide +kernel
theorem d_G_init_13 : decode mt_G_init.2.1 13 = .ok (.iconst 0, 1) := by decide +kernel
theorem d_G_init_14 : decode mt_G_init.2.1 14 = .ok (.putfield 17, 3) := by decide +kernel
theorem d_G_init_17 : decode mt_G_init.2.1 17 = .ok (.aload_n 0, 1) := by decide +kernel
theorem d_G_init_18 : decode mt_G_init.2.1 18 = .ok (.iconst 0, 1) := by decide +kernel
theorem d_G_init_19 : decode mt_G_init.2.1 19 = .ok (.putfield 21, 3) := by decide +kernel
theorem d_G_init_22 : decode mt_G_init.2.1 22 = .ok (.aload_n 0, 1) := by decide +kernel
theorem d_G_init_23 : decode mt_G_init.2.1 23 = .ok (.lconst 0, 1) := by decide +kernel
theorem d_G_init_24 : decode mt_G_init.2.1 24 = .ok (.putfield 24, 3) := by decide +kernel
theorem d_G_init_27 : decode mt_G_init.2.1 27 = .ok (.aload_n 0, 1) := by decide +kernel
theorem d_G_init_28 : decode mt_G_init.2.1 28 = .ok (.iconst 0, 1) := by decide +kernel
theorem d_G_init_29 : decode mt_G_init.2.1 29 = .ok (.putfield 28, 3) := by decide +kernel
theorem d_G_init_32 : decode mt_G_init.2.1 32 = .ok (.aload_n 0, 1) := by decide +kernel
theorem d_G_init_33 : decode mt_G_init.2.1 33 = .ok (.iconst 0, 1) := by decide +kernel
theorem d_G_init_34 : decode mt_G_init.2.1 34 = .ok (.putfield 31, 3) := by decide +kernel
theorem d_G_init_37 : decode mt_G_init.2.1 37 = .ok (.aload_n 0, 1) := by decide +kernel
theorem d_G_init_38 : decode mt_G_init.2.1 38 = .ok (.iconst 0, 1) := by decide +kernel
theorem d_G_init_39 : decode mt_G_init.2.1 39 = .ok (.putfield 34, 3) := by decide +kernel
theorem d_G_init_42 : decode mt_G_init.2.1 42 = .ok (.iconst 0, 1) := by decide +kernel
theorem d_G_init_43 : decode mt_G_init.2.1 43 = .ok (.istore_n 1, 1) := by decide +kernel
theorem d_G_init_44 : decode mt_G_init.2.1 44 = .ok (.iload_n 1, 1) := by decide +kernel
theorem d_G_init_45 : decode mt_G_init.2.1 45 = .ok (.iconst 4, 1) := by decide +kernel
theorem d_G_init_46 : decode mt_G_init.2.1 46 = .ok (.if_icmp .ge (22), 3) := by decide +kernel
theorem d_G_init_49 : decode mt_G_init.2.1 49 = .ok (.aload_n 0, 1) := by decide +kernel
theorem d_G_init_50 : decode mt_G_init.2.1 50 = .ok (.getfield 11, 3) := by decide +kernel
theorem d_G_init_53 : decode mt_G_init.2.1 53 = .ok (.iload_n 1, 1) := by decide +kernel
theorem d_G_init_54 : decode mt_G_init.2.1 54 = .ok (.new 9, 3) := by decide +kernel
theorem d_G_init_57 : decode mt_G_init.2.1 57 = .ok (.dup, 1) := by decide +kernel
theorem d_G_init_58 : decode mt_G_init.2.1 58 = .ok (.invokespecial 38, 3) := by decide +kernel
theorem d_G_init_61 : decode mt_G_init.2.1 61 = .ok (.aastore, 1) := by decide +kernel
theorem d_G_init_62 : decode mt_G_init.2.1 62 = .ok (.iinc 1 (1), 3) := by decide +kernel
theorem d_G_init_65 : decode mt_G_init.2.1 65 = .ok (.goto (-21), 3) := by decide +kernel
theorem d_G_init_68 : decode mt_G_init.2.1 68 = .ok (.return_, 1) := by decide +kernel
theorem d_G_addPattern_0 : decode mt_G_addPattern.2.1 0 = .ok (.aload_n 0, 1) := by decide +kernel
theorem d_G_addPattern_1 : decode mt_G_addPattern.2.1 1 = .ok (.getfield 17, 3) := by decide +kernel
theorem d_G_addPattern_4 : decode mt_G_addPattern.2.1 4 = .ok (.iconst 4, 1) := by decide +kernel
theorem d_G_addPattern_5 : decode mt_G_addPattern.2.1 5 = .ok (.if_icmp .lt (5), 3) := by decide +kernel
theorem d_G_addPattern_8 : decode mt_G_addPattern.2.1 8 = .ok (.iconst (-1), 1) := by decide +kernel
theorem d_G_addPattern_9 : decode mt_G_addPattern.2.1 9 = .ok (.ireturn, 1) := by decide +kernel
theorem d_G_addPattern_10 : decode mt_G_addPattern.2.1 10 = .ok (.aload_n 0, 1) := by decide +kernel
theorem d_G_addPattern_11 : decode mt_G_addPattern.2.1 11 = .ok (.getfield 11, 3) := by decide +kernel
theorem d_G_addPattern_14 : decode mt_G_addPattern.2.1 14 = .ok (.aload_n 0, 1) := by decide +kernel
theorem d_G_addPattern_15 : decode mt_G_addPattern.2.1 15 = .ok (.getfield 17, 3) := by decide +kernel
theorem d_G_addPattern_18 : decode mt_G_addPattern.2.1 18 = .ok (.aaload, 1) := by decide +kernel
theorem d_G_addPattern_19 : decode mt_G_addPattern.2.1 19 = .ok (.iload_n 1, 1) := by decide +kernel
theorem d_G_addPattern_20 : decode mt_G_addPattern.2.1 20 = .ok (.invokevirtual 39, 3) := by decide +kernel
theorem d_G_addPattern_23 : decode mt_G_addPattern.2.1 23 = .ok (.aload_n 0, 1) := by decide +kernel
theorem d_G_addPattern_24 : decode mt_G_addPattern.2.1 24 = .ok (.dup, 1) := by decide +kernel
theorem d_G_addPattern_25 : decode mt_G_addPattern.2.1 25 = .ok (.getfield 17, 3) := by decide +kernel
theorem d_G_addPattern_28 : decode mt_G_addPattern.2.1 28 = .ok (.iconst 1, 1) := by decide +kernel
theorem d_G_addPattern_29 : decode mt_G_addPattern.2.1 29 = .ok (.iadd, 1) := by decide +kernel
theorem d_G_addPattern_30 : decode mt_G_addPattern.2.1 30 = .ok (.putfield 17, 3) := by decide +kernel
theorem d_G_addPattern_33 : decode mt_G_addPattern.2.1 33 = .ok (.aload_n 0, 1) := by decide +kernel
theorem d_G_addPattern_34 : decode mt_G_addPattern.2.1 34 = .ok (.getfield 17, 3) := by decide +kernel
theorem d_G_addPattern_37 : decode mt_G_addPattern.2.1 37 = .ok (.iconst 1, 1) := by decide +kernel
theorem d_G_addPattern_38 : decode mt_G_addPattern.2.1 38 = .ok (.isub, 1) := by decide +kernel
theorem d_G_addPattern_39 : decode mt_G_addPattern.2.1 39 = .ok (.ireturn, 1) := by decide +kernel
theorem d_G_hasPlaceFor_0 : decode mt_G_hasPlaceFor.2.1 0 = .ok (.iconst 0, 1) := by decide +kernel
theorem d_G_hasPlaceFor_1 : decode mt_G_hasPlaceFor.2.1 1 = .ok (.istore_n 2, 1) := by decide +kernel
theorem d_G_hasPlaceFor_2 : decode mt_G_hasPlaceFor.2.1 2 = .ok (.iload_n 2, 1) := by decide +kernel
theorem d_G_hasPlaceFor_3 : decode mt_G_hasPlaceFor.2.1 3 = .ok (.aload_n 0, 1) := by decide +kernel
theorem d_G_hasPlaceFor_4 : decode mt_G_hasPlaceFor.2.1 4 = .ok (.getfield 17, 3) := by decide +kernel
theorem d_G_hasPlaceFor_7 : decode mt_G_hasPlaceFor.2.1 7 = .ok (.if_icmp .ge (25), 3) := by decide +kernel
theorem d_G_hasPlaceFor_10 : decode mt_G_hasPlaceFor.2.1 10 = .ok (.aload_n 0, 1) := by decide +kernel
theorem d_G_hasPlaceFor_11 : decode mt_G_hasPlaceFor.2.1 11 = .ok (.getfield 11, 3) := by decide +kernel
theorem d_G_hasPlaceFor_14 : decode mt_G_hasPlaceFor.2.1 14 = .ok (.iload_n 2, 1) := by decide +kernel
theorem d_G_hasPlaceFor_15 : decode mt_G_hasPlaceFor.2.1 15 = .ok (.aaload, 1) := by decide +kernel
theorem d_G_hasPlaceFor_16 : decode mt_G_hasPlaceFor.2.1 16 = .ok (.getfield 43, 3) := by decide +kernel
theorem d_G_hasPlaceFor_19 : decode mt_G_hasPlaceFor.2.1 19 = .ok (.iload_n 1, 1) := by decide +kernel
theorem d_G_hasPlaceFor_20 : decode mt_G_hasPlaceFor.2.1 20 = .ok (.iaload, 1) := by decide +kernel
theorem d_G_hasPlaceFor_21 : decode mt_G_hasPlaceFor.2.1 21 = .ok (.ifCond .le (5), 3) := by decide +kernel
theorem d_G_hasPlaceFor_24 : decode mt_G_hasPlaceFor.2.1 24 = .ok (.iconst 1, 1) := by decide +kernel
theorem d_G_hasPlaceFor_25 : decode mt_G_hasPlaceFor.2.1 25 = .ok (.ireturn, 1) := by decide +kernel
theorem d_G_hasPlaceFor_26 : decode mt_G_hasPlaceFor.2.1 26 = .ok (.iinc 2 (1), 3) := by decide +kernel
theorem d_G_hasPlaceFor_29 : decode mt_G_hasPlaceFor.2.1 29 = .ok (.goto (-27), 3) := by decide +kernel
theorem d_G_hasPlaceFor_32 : decode mt_G_hasPlaceFor.2.1 32 = .ok (.iconst 0, 1) := by decide +kernel
theorem d_G_hasPlaceFor_33 : decode mt_G_hasPlaceFor.2.1 33 = .ok (.ireturn, 1) := by decide +kernel
theorem d_G_leastPattern_0 : decode mt_G_leastPattern.2.1 0 = .ok (.iconst 0, 1) := by decide +kernel
theorem d_G_leastPattern_1 : decode mt_G_leastPattern.2.1 1 = .ok (.istore_n 3, 1) := by decide +kernel
theorem d_G_leastPattern_2 : decode mt_G_leastPattern.2.1 2 = .ok (.iload_n 3, 1) := by decide +kernel
theorem d_G_leastPattern_3 : decode mt_G_leastPattern.2.1 3 = .ok (.aload_n 0, 1) := by decide +kernel
theorem d_G_leastPattern_4 : decode mt_G_leastPattern.2.1 4 = .ok (.getfield 17, 3) := by decide +kernel
theorem d_G_leastPattern_7 : decode mt_G_leastPattern.2.1 7 = .ok (.if_icmp .ge (25), 3) := by decide +kernel
theorem d_G_leastPattern_10 : decode mt_G_leastPattern.2.1 10 = .ok (.aload_n 0, 1) := by decide +kernel
theorem d_G_leastPattern_11 : decode mt_G_leastPattern.2.1 11 = .ok (.getfield 11, 3) := by decide +kernel
theorem d_G_leastPattern_14 : decode mt_G_leastPattern.2.1 14 = .ok (.iload_n 3, 1) := by decide +kernel
theorem d_G_leastPattern_15 : decode mt_G_leastPattern.2.1 15 = .ok (.aaload, 1) := by decide +kernel
theorem d_G_leastPattern_16 : decode mt_G_leastPattern.2.1 16 = .ok (.aload_n 1, 1) := by decide +kernel
theorem d_G_leastPattern_17 : decode mt_G_leastPattern.2.1 17 = .ok (.iload_n 2, 1) := by decide +kernel
theorem d_G_leastPattern_18 : decode mt_G_leastPattern.2.1 18 = .ok (.invokevirtual 47, 3) := by decide +kernel
theorem d_G_leastPattern_21 : decode mt_G_leastPattern.2.1 21 = .ok (.ifCond .eq (5), 3) := by decide +kernel
theorem d_G_leastPattern_24 : decode mt_G_leastPattern.2.1 24 = .ok (.iload_n 3, 1) := by decide +kernel
theorem d_G_leastPattern_25 : decode mt_G_leastPattern.2.1 25 = .ok (.ireturn, 1) := by decide +kernel
theorem d_G_leastPattern_26 : decode mt_G_leastPattern.2.1 26 = .ok (.iinc 3 (1), 3) := by decide +kernel
theorem d_G_leastPattern_29 : decode mt_G_leastPattern.2.1 29 = .ok (.goto (-27), 3) := by decide +kernel
theorem d_G_leastPattern_32 : decode mt_G_leastPattern.2.1 32 = .ok (.iconst (-1), 1) := by decide +kernel
theorem d_G_leastPattern_33 : decode mt_G_leastPattern.2.1 33 = .ok (.ireturn, 1) := by decide +kernel
theorem d_G_reasonAgainst_0 : decode mt_G_reasonAgainst.2.1 0 = .ok (.aload_n 0, 1) := by decide +kernel
theorem d_G_reasonAgainst_1 : decode mt_G_reasonAgainst.2.1 1 = .ok (.aload_n 1, 1) := by decide +kernel
theorem d_G_reasonAgainst_2 : decode mt_G_reasonAgainst.2.1 2 = .ok (.getfield 51, 3) := by decide +kernel
theorem d_G_reasonAgainst_5 : decode mt_G_reasonAgainst.2.1 5 = .ok (.invokevirtual 56, 3) := by decide +kernel
theorem d_G_reasonAgainst_8 : decode mt_G_reasonAgainst.2.1 8 = .ok (.ifCond .ne (5), 3) := by decide +kernel
theorem d_G_reasonAgainst_11 : decode mt_G_reasonAgainst.2.1 11 = .ok (.iconst 1, 1) := by decide +kernel
theorem d_G_reasonAgainst_12 : decode mt_G_reasonAgainst.2.1 12 = .ok (.ireturn, 1) := by decide +kernel
theorem d_G_reasonAgainst_13 : decode mt_G_reasonAgainst.2.1 13 = .ok (.aload_n 1, 1) := by decide +kernel
theorem d_G_reasonAgainst_14 : decode mt_G_reasonAgainst.2.1 14 = .ok (.getfield 60, 3) := by decide +kernel
theorem d_G_reasonAgainst_17 : decode mt_G_reasonAgainst.2.1 17 = .ok (.aload_n 0, 1) := by decide +kernel
theorem d_G_reasonAgainst_18 : decode mt_G_reasonAgainst.2.1 18 = .ok (.getfield 31, 3) := by decide +kernel
theorem d_G_reasonAgainst_21 : decode mt_G_reasonAgainst.2.1 21 = .ok (.if_icmp .le (5), 3) := by decide +kernel
theorem d_G_reasonAgainst_24 : decode mt_G_reasonAgainst.2.1 24 = .ok (.iconst 2, 1) := by decide +kernel
theorem d_G_reasonAgainst_25 : decode mt_G_reasonAgainst.2.1 25 = .ok (.ireturn, 1) := by decide +kernel
theorem d_G_reasonAgainst_26 : decode mt_G_reasonAgainst.2.1 26 = .ok (.aload_n 1, 1) := by decide +kernel
theorem d_G_reasonAgainst_27 : decode mt_G_reasonAgainst.2.1 27 = .ok (.getfield 63, 3) := by decide +kernel
theorem d_G_reasonAgainst_30 : decode mt_G_reasonAgainst.2.1 30 = .ok (.aload_n 0, 1) := by decide +kernel
theorem d_G_reasonAgainst_31 : decode mt_G_reasonAgainst.2.1 31 = .ok (.getfield 24, 3) := by decide +kernel
theorem d_G_reasonAgainst_34 : decode mt_G_reasonAgainst.2.1 34 = .ok (.lcmp, 1) := by decide +kernel
theorem d_G_reasonAgainst_35 : decode mt_G_reasonAgainst.2.1 35 = .ok (.ifCond .le (7), 3) := by decide +kernel
theorem d_G_reasonAgainst_38 : decode mt_G_reasonAgainst.2.1 38 = .ok (.iconst 3, 1) := by decide +kernel
theorem d_G_reasonAgainst_39 : decode mt_G_reasonAgainst.2.1 39 = .ok (.goto (4), 3) := by decide +kernel
theorem d_G_reasonAgainst_42 : decode mt_G_reasonAgainst.2.1 42 = .ok (.iconst 0, 1) := by decide +kernel
theorem d_G_reasonAgainst_43 : decode mt_G_reasonAgainst.2.1 43 = .ok (.ireturn, 1) := by decide +kernel
