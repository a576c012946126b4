/-! DECODE ROWS. Printed by wip/make.py. -/
theorem d_P_init_0 : decode mt_P_init.2.1 0 = .ok (.aload_n 0, 1) := by decide +kernel
theorem d_P_init_1 : decode mt_P_init.2.1 1 = .ok (.invokespecial 3, 3) := by decide +kernel
theorem d_P_init_4 : decode mt_P_init.2.1 4 = .ok (.aload_n 0, 1) := by decide +kernel
theorem d_P_init_5 : decode mt_P_init.2.1 5 = .ok (.iconst 4, 1) := by decide +kernel
theorem d_P_init_6 : decode mt_P_init.2.1 6 = .ok (.newarray .int, 2) := by decide +kernel
theorem d_P_init_8 : decode mt_P_init.2.1 8 = .ok (.putfield 9, 3) := by decide +kernel
theorem d_P_init_11 : decode mt_P_init.2.1 11 = .ok (.aload_n 0, 1) := by decide +kernel
theorem d_P_init_12 : decode mt_P_init.2.1 12 = .ok (.iconst 4, 1) := by decide +kernel
theorem d_P_init_13 : decode mt_P_init.2.1 13 = .ok (.newarray .int, 2) := by decide +kernel
theorem d_P_init_15 : decode mt_P_init.2.1 15 = .ok (.putfield 15, 3) := by decide +kernel
theorem d_P_init_18 : decode mt_P_init.2.1 18 = .ok (.aload_n 0, 1) := by decide +kernel
theorem d_P_init_19 : decode mt_P_init.2.1 19 = .ok (.iconst 0, 1) := by decide +kernel
theorem d_P_init_20 : decode mt_P_init.2.1 20 = .ok (.putfield 18, 3) := by decide +kernel
theorem d_P_init_23 : decode mt_P_init.2.1 23 = .ok (.return_, 1) := by decide +kernel
theorem d_P_addPlaces_0 : decode mt_P_addPlaces.2.1 0 = .ok (.sipush (1000), 3) := by decide +kernel
theorem d_P_addPlaces_3 : decode mt_P_addPlaces.2.1 3 = .ok (.istore_n 2, 1) := by decide +kernel
theorem d_P_addPlaces_4 : decode mt_P_addPlaces.2.1 4 = .ok (.iload_n 2, 1) := by decide +kernel
theorem d_P_addPlaces_5 : decode mt_P_addPlaces.2.1 5 = .ok (.ifCond .le (68), 3) := by decide +kernel
theorem d_P_addPlaces_8 : decode mt_P_addPlaces.2.1 8 = .ok (.iload_n 1, 1) := by decide +kernel
theorem d_P_addPlaces_9 : decode mt_P_addPlaces.2.1 9 = .ok (.iload_n 2, 1) := by decide +kernel
theorem d_P_addPlaces_10 : decode mt_P_addPlaces.2.1 10 = .ok (.idiv, 1) := by decide +kernel
theorem d_P_addPlaces_11 : decode mt_P_addPlaces.2.1 11 = .ok (.bipush (10), 2) := by decide +kernel
theorem d_P_addPlaces_13 : decode mt_P_addPlaces.2.1 13 = .ok (.irem, 1) := by decide +kernel
theorem d_P_addPlaces_14 : decode mt_P_addPlaces.2.1 14 = .ok (.istore_n 3, 1) := by decide +kernel
theorem d_P_addPlaces_15 : decode mt_P_addPlaces.2.1 15 = .ok (.iload_n 3, 1) := by decide +kernel
theorem d_P_addPlaces_16 : decode mt_P_addPlaces.2.1 16 = .ok (.i2l, 1) := by decide +kernel
theorem d_P_addPlaces_17 : decode mt_P_addPlaces.2.1 17 = .ok (.lconst 1, 1) := by decide +kernel
theorem d_P_addPlaces_18 : decode mt_P_addPlaces.2.1 18 = .ok (.ldc2_w 22, 3) := by decide +kernel
theorem d_P_addPlaces_21 : decode mt_P_addPlaces.2.1 21 = .ok (.invokestatic 24, 3) := by decide +kernel
theorem d_P_addPlaces_24 : decode mt_P_addPlaces.2.1 24 = .ok (.ifCond .eq (41), 3) := by decide +kernel
theorem d_P_addPlaces_27 : decode mt_P_addPlaces.2.1 27 = .ok (.aload_n 0, 1) := by decide +kernel
theorem d_P_addPlaces_28 : decode mt_P_addPlaces.2.1 28 = .ok (.getfield 18, 3) := by decide +kernel
theorem d_P_addPlaces_31 : decode mt_P_addPlaces.2.1 31 = .ok (.iconst 4, 1) := by decide +kernel
theorem d_P_addPlaces_32 : decode mt_P_addPlaces.2.1 32 = .ok (.if_icmp .ge (33), 3) := by decide +kernel
theorem d_P_addPlaces_35 : decode mt_P_addPlaces.2.1 35 = .ok (.aload_n 0, 1) := by decide +kernel
theorem d_P_addPlaces_36 : decode mt_P_addPlaces.2.1 36 = .ok (.getfield 9, 3) := by decide +kernel
theorem d_P_addPlaces_39 : decode mt_P_addPlaces.2.1 39 = .ok (.aload_n 0, 1) := by decide +kernel
theorem d_P_addPlaces_40 : decode mt_P_addPlaces.2.1 40 = .ok (.getfield 18, 3) := by decide +kernel
theorem d_P_addPlaces_43 : decode mt_P_addPlaces.2.1 43 = .ok (.iload_n 3, 1) := by decide +kernel
theorem d_P_addPlaces_44 : decode mt_P_addPlaces.2.1 44 = .ok (.iastore, 1) := by decide +kernel
theorem d_P_addPlaces_45 : decode mt_P_addPlaces.2.1 45 = .ok (.aload_n 0, 1) := by decide +kernel
theorem d_P_addPlaces_46 : decode mt_P_addPlaces.2.1 46 = .ok (.getfield 15, 3) := by decide +kernel
theorem d_P_addPlaces_49 : decode mt_P_addPlaces.2.1 49 = .ok (.iload_n 3, 1) := by decide +kernel
theorem d_P_addPlaces_50 : decode mt_P_addPlaces.2.1 50 = .ok (.dup2, 1) := by decide +kernel
theorem d_P_addPlaces_51 : decode mt_P_addPlaces.2.1 51 = .ok (.iaload, 1) := by decide +kernel
theorem d_P_addPlaces_52 : decode mt_P_addPlaces.2.1 52 = .ok (.iconst 1, 1) := by decide +kernel
theorem d_P_addPlaces_53 : decode mt_P_addPlaces.2.1 53 = .ok (.iadd, 1) := by decide +kernel
theorem d_P_addPlaces_54 : decode mt_P_addPlaces.2.1 54 = .ok (.iastore, 1) := by decide +kernel
theorem d_P_addPlaces_55 : decode mt_P_addPlaces.2.1 55 = .ok (.aload_n 0, 1) := by decide +kernel
theorem d_P_addPlaces_56 : decode mt_P_addPlaces.2.1 56 = .ok (.dup, 1) := by decide +kernel
theorem d_P_addPlaces_57 : decode mt_P_addPlaces.2.1 57 = .ok (.getfield 18, 3) := by decide +kernel
theorem d_P_addPlaces_60 : decode mt_P_addPlaces.2.1 60 = .ok (.iconst 1, 1) := by decide +kernel
theorem d_P_addPlaces_61 : decode mt_P_addPlaces.2.1 61 = .ok (.iadd, 1) := by decide +kernel
theorem d_P_addPlaces_62 : decode mt_P_addPlaces.2.1 62 = .ok (.putfield 18, 3) := by decide +kernel
theorem d_P_addPlaces_65 : decode mt_P_addPlaces.2.1 65 = .ok (.iload_n 2, 1) := by decide +kernel
theorem d_P_addPlaces_66 : decode mt_P_addPlaces.2.1 66 = .ok (.bipush (10), 2) := by decide +kernel
theorem d_P_addPlaces_68 : decode mt_P_addPlaces.2.1 68 = .ok (.idiv, 1) := by decide +kernel
theorem d_P_addPlaces_69 : decode mt_P_addPlaces.2.1 69 = .ok (.istore_n 2, 1) := by decide +kernel
theorem d_P_addPlaces_70 : decode mt_P_addPlaces.2.1 70 = .ok (.goto (-66), 3) := by decide +kernel
theorem d_P_addPlaces_73 : decode mt_P_addPlaces.2.1 73 = .ok (.return_, 1) := by decide +kernel
theorem d_P_holds_0 : decode mt_P_holds.2.1 0 = .ok (.iconst 1, 1) := by decide +kernel
theorem d_P_holds_1 : decode mt_P_holds.2.1 1 = .ok (.istore_n 3, 1) := by decide +kernel
theorem d_P_holds_2 : decode mt_P_holds.2.1 2 = .ok (.iload_n 3, 1) := by decide +kernel
theorem d_P_holds_3 : decode mt_P_holds.2.1 3 = .ok (.iconst 3, 1) := by decide +kernel
theorem d_P_holds_4 : decode mt_P_holds.2.1 4 = .ok (.if_icmp .gt (41), 3) := by decide +kernel
theorem d_P_holds_7 : decode mt_P_holds.2.1 7 = .ok (.aload_n 1, 1) := by decide +kernel
theorem d_P_holds_8 : decode mt_P_holds.2.1 8 = .ok (.getfield 28, 3) := by decide +kernel
theorem d_P_holds_11 : decode mt_P_holds.2.1 11 = .ok (.iload_n 3, 1) := by decide +kernel
theorem d_P_holds_12 : decode mt_P_holds.2.1 12 = .ok (.iaload, 1) := by decide +kernel
theorem d_P_holds_13 : decode mt_P_holds.2.1 13 = .ok (.iload_n 3, 1) := by decide +kernel
theorem d_P_holds_14 : decode mt_P_holds.2.1 14 = .ok (.iload_n 2, 1) := by decide +kernel
theorem d_P_holds_15 : decode mt_P_holds.2.1 15 = .ok (.if_icmp .ne (7), 3) := by decide +kernel
theorem d_P_holds_18 : decode mt_P_holds.2.1 18 = .ok (.iconst 1, 1) := by decide +kernel
theorem d_P_holds_19 : decode mt_P_holds.2.1 19 = .ok (.goto (4), 3) := by decide +kernel
theorem d_P_holds_22 : decode mt_P_holds.2.1 22 = .ok (.iconst 0, 1) := by decide +kernel
theorem d_P_holds_23 : decode mt_P_holds.2.1 23 = .ok (.iadd, 1) := by decide +kernel
theorem d_P_holds_24 : decode mt_P_holds.2.1 24 = .ok (.istore 4, 2) := by decide +kernel
theorem d_P_holds_26 : decode mt_P_holds.2.1 26 = .ok (.iload 4, 2) := by decide +kernel
theorem d_P_holds_28 : decode mt_P_holds.2.1 28 = .ok (.aload_n 0, 1) := by decide +kernel
theorem d_P_holds_29 : decode mt_P_holds.2.1 29 = .ok (.getfield 15, 3) := by decide +kernel
theorem d_P_holds_32 : decode mt_P_holds.2.1 32 = .ok (.iload_n 3, 1) := by decide +kernel
theorem d_P_holds_33 : decode mt_P_holds.2.1 33 = .ok (.iaload, 1) := by decide +kernel
theorem d_P_holds_34 : decode mt_P_holds.2.1 34 = .ok (.if_icmp .le (5), 3) := by decide +kernel
theorem d_P_holds_37 : decode mt_P_holds.2.1 37 = .ok (.iconst 0, 1) := by decide +kernel
theorem d_P_holds_38 : decode mt_P_holds.2.1 38 = .ok (.ireturn, 1) := by decide +kernel
theorem d_P_holds_39 : decode mt_P_holds.2.1 39 = .ok (.iinc 3 (1), 3) := by decide +kernel
theorem d_P_holds_42 : decode mt_P_holds.2.1 42 = .ok (.goto (-40), 3) := by decide +kernel
theorem d_P_holds_45 : decode mt_P_holds.2.1 45 = .ok (.iconst 1, 1) := by decide +kernel
theorem d_P_holds_46 : decode mt_P_holds.2.1 46 = .ok (.ireturn, 1) := by decide +kernel
theorem d_P_placeBehind_0 : decode mt_P_placeBehind.2.1 0 = .ok (.iconst 0, 1) := by decide +kernel
theorem d_P_placeBehind_1 : decode mt_P_placeBehind.2.1 1 = .ok (.istore_n 3, 1) := by decide +kernel
theorem d_P_placeBehind_2 : decode mt_P_placeBehind.2.1 2 = .ok (.iconst 0, 1) := by decide +kernel
theorem d_P_placeBehind_3 : decode mt_P_placeBehind.2.1 3 = .ok (.istore 4, 2) := by decide +kernel
theorem d_P_placeBehind_5 : decode mt_P_placeBehind.2.1 5 = .ok (.iload 4, 2) := by decide +kernel
theorem d_P_placeBehind_7 : decode mt_P_placeBehind.2.1 7 = .ok (.aload_n 0, 1) := by decide +kernel
theorem d_P_placeBehind_8 : decode mt_P_placeBehind.2.1 8 = .ok (.getfield 18, 3) := by decide +kernel
theorem d_P_placeBehind_11 : decode mt_P_placeBehind.2.1 11 = .ok (.if_icmp .ge (31), 3) := by decide +kernel
theorem d_P_placeBehind_14 : decode mt_P_placeBehind.2.1 14 = .ok (.aload_n 0, 1) := by decide +kernel
theorem d_P_placeBehind_15 : decode mt_P_placeBehind.2.1 15 = .ok (.getfield 9, 3) := by decide +kernel
theorem d_P_placeBehind_18 : decode mt_P_placeBehind.2.1 18 = .ok (.iload 4, 2) := by decide +kernel
theorem d_P_placeBehind_20 : decode mt_P_placeBehind.2.1 20 = .ok (.iaload, 1) := by decide +kernel
theorem d_P_placeBehind_21 : decode mt_P_placeBehind.2.1 21 = .ok (.iload_n 1, 1) := by decide +kernel
theorem d_P_placeBehind_22 : decode mt_P_placeBehind.2.1 22 = .ok (.if_icmp .ne (14), 3) := by decide +kernel
theorem d_P_placeBehind_25 : decode mt_P_placeBehind.2.1 25 = .ok (.iload_n 3, 1) := by decide +kernel
theorem d_P_placeBehind_26 : decode mt_P_placeBehind.2.1 26 = .ok (.iload_n 2, 1) := by decide +kernel
theorem d_P_placeBehind_27 : decode mt_P_placeBehind.2.1 27 = .ok (.if_icmp .ne (6), 3) := by decide +kernel
theorem d_P_placeBehind_30 : decode mt_P_placeBehind.2.1 30 = .ok (.iload 4, 2) := by decide +kernel
theorem d_P_placeBehind_32 : decode mt_P_placeBehind.2.1 32 = .ok (.ireturn, 1) := by decide +kernel
theorem d_P_placeBehind_33 : decode mt_P_placeBehind.2.1 33 = .ok (.iinc 3 (1), 3) := by decide +kernel
theorem d_P_placeBehind_36 : decode mt_P_placeBehind.2.1 36 = .ok (.iinc 4 (1), 3) := by decide +kernel
theorem d_P_placeBehind_39 : decode mt_P_placeBehind.2.1 39 = .ok (.goto (-34), 3) := by decide +kernel
theorem d_P_placeBehind_42 : decode mt_P_placeBehind.2.1 42 = .ok (.iconst (-1), 1) := by decide +kernel
theorem d_P_placeBehind_43 : decode mt_P_placeBehind.2.1 43 = .ok (.ireturn, 1) := by decide +kernel
