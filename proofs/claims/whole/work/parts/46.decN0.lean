/-! DECODE ROWS. Printed by wip/make.py. -/
theorem d_N_init_0 : decode mt_N_init.2.1 0 = .ok (.aload_n 0, 1) := by decide +kernel
theorem d_N_init_1 : decode mt_N_init.2.1 1 = .ok (.invokespecial 3, 3) := by decide +kernel
theorem d_N_init_4 : decode mt_N_init.2.1 4 = .ok (.aload_n 0, 1) := by decide +kernel
theorem d_N_init_5 : decode mt_N_init.2.1 5 = .ok (.iconst 3, 1) := by decide +kernel
theorem d_N_init_6 : decode mt_N_init.2.1 6 = .ok (.anewarray 9, 3) := by decide +kernel
theorem d_N_init_9 : decode mt_N_init.2.1 9 = .ok (.putfield 11, 3) := by decide +kernel
theorem d_N_init_12 : decode mt_N_init.2.1 12 = .ok (.aload_n 0, 1) := by decide +kernel
theorem d_N_init_13 : decode mt_N_init.2.1 13 = .ok (.bipush (8), 2) := by decide +kernel
theorem d_N_init_15 : decode mt_N_init.2.1 15 = .ok (.newarray .int, 2) := by decide +kernel
theorem d_N_init_17 : decode mt_N_init.2.1 17 = .ok (.putfield 17, 3) := by decide +kernel
theorem d_N_init_20 : decode mt_N_init.2.1 20 = .ok (.aload_n 0, 1) := by decide +kernel
theorem d_N_init_21 : decode mt_N_init.2.1 21 = .ok (.bipush (8), 2) := by decide +kernel
theorem d_N_init_23 : decode mt_N_init.2.1 23 = .ok (.newarray .int, 2) := by decide +kernel
theorem d_N_init_25 : decode mt_N_init.2.1 25 = .ok (.putfield 21, 3) := by decide +kernel
theorem d_N_init_28 : decode mt_N_init.2.1 28 = .ok (.aload_n 0, 1) := by decide +kernel
theorem d_N_init_29 : decode mt_N_init.2.1 29 = .ok (.bipush (9), 2) := by decide +kernel
theorem d_N_init_31 : decode mt_N_init.2.1 31 = .ok (.newarray .int, 2) := by decide +kernel
theorem d_N_init_33 : decode mt_N_init.2.1 33 = .ok (.putfield 24, 3) := by decide +kernel
theorem d_N_init_36 : decode mt_N_init.2.1 36 = .ok (.aload_n 0, 1) := by decide +kernel
theorem d_N_init_37 : decode mt_N_init.2.1 37 = .ok (.bipush (8), 2) := by decide +kernel
theorem d_N_init_39 : decode mt_N_init.2.1 39 = .ok (.newarray .int, 2) := by decide +kernel
theorem d_N_init_41 : decode mt_N_init.2.1 41 = .ok (.putfield 27, 3) := by decide +kernel
theorem d_N_init_44 : decode mt_N_init.2.1 44 = .ok (.aload_n 0, 1) := by decide +kernel
theorem d_N_init_45 : decode mt_N_init.2.1 45 = .ok (.bipush (8), 2) := by decide +kernel
theorem d_N_init_47 : decode mt_N_init.2.1 47 = .ok (.newarray .int, 2) := by decide +kernel
theorem d_N_init_49 : decode mt_N_init.2.1 49 = .ok (.putfield 30, 3) := by decide +kernel
theorem d_N_init_52 : decode mt_N_init.2.1 52 = .ok (.aload_n 0, 1) := by decide +kernel
theorem d_N_init_53 : decode mt_N_init.2.1 53 = .ok (.iconst 0, 1) := by decide +kernel
theorem d_N_init_54 : decode mt_N_init.2.1 54 = .ok (.putfield 33, 3) := by decide +kernel
theorem d_N_init_57 : decode mt_N_init.2.1 57 = .ok (.aload_n 0, 1) := by decide +kernel
theorem d_N_init_58 : decode mt_N_init.2.1 58 = .ok (.iconst 0, 1) := by decide +kernel
theorem d_N_init_59 : decode mt_N_init.2.1 59 = .ok (.putfield 37, 3) := by decide +kernel
theorem d_N_init_62 : decode mt_N_init.2.1 62 = .ok (.aload_n 0, 1) := by decide +kernel
theorem d_N_init_63 : decode mt_N_init.2.1 63 = .ok (.aload_n 1, 1) := by decide +kernel
theorem d_N_init_64 : decode mt_N_init.2.1 64 = .ok (.putfield 40, 3) := by decide +kernel
theorem d_N_init_67 : decode mt_N_init.2.1 67 = .ok (.iconst 0, 1) := by decide +kernel
theorem d_N_init_68 : decode mt_N_init.2.1 68 = .ok (.istore_n 2, 1) := by decide +kernel
theorem d_N_init_69 : decode mt_N_init.2.1 69 = .ok (.iload_n 2, 1) := by decide +kernel
theorem d_N_init_70 : decode mt_N_init.2.1 70 = .ok (.iconst 3, 1) := by decide +kernel
theorem d_N_init_71 : decode mt_N_init.2.1 71 = .ok (.if_icmp .ge (22), 3) := by decide +kernel
theorem d_N_init_74 : decode mt_N_init.2.1 74 = .ok (.aload_n 0, 1) := by decide +kernel
theorem d_N_init_75 : decode mt_N_init.2.1 75 = .ok (.getfield 11, 3) := by decide +kernel
theorem d_N_init_78 : decode mt_N_init.2.1 78 = .ok (.iload_n 2, 1) := by decide +kernel
theorem d_N_init_79 : decode mt_N_init.2.1 79 = .ok (.new 9, 3) := by decide +kernel
theorem d_N_init_82 : decode mt_N_init.2.1 82 = .ok (.dup, 1) := by decide +kernel
theorem d_N_init_83 : decode mt_N_init.2.1 83 = .ok (.invokespecial 44, 3) := by decide +kernel
theorem d_N_init_86 : decode mt_N_init.2.1 86 = .ok (.aastore, 1) := by decide +kernel
theorem d_N_init_87 : decode mt_N_init.2.1 87 = .ok (.iinc 2 (1), 3) := by decide +kernel
theorem d_N_init_90 : decode mt_N_init.2.1 90 = .ok (.goto (-21), 3) := by decide +kernel
theorem d_N_init_93 : decode mt_N_init.2.1 93 = .ok (.return_, 1) := by decide +kernel
theorem d_N_makePlan_0 : decode mt_N_makePlan.2.1 0 = .ok (.aload_n 0, 1) := by decide +kernel
theorem d_N_makePlan_1 : decode mt_N_makePlan.2.1 1 = .ok (.invokevirtual 45, 3) := by decide +kernel
theorem d_N_makePlan_4 : decode mt_N_makePlan.2.1 4 = .ok (.aload_n 0, 1) := by decide +kernel
theorem d_N_makePlan_5 : decode mt_N_makePlan.2.1 5 = .ok (.invokevirtual 48, 3) := by decide +kernel
theorem d_N_makePlan_8 : decode mt_N_makePlan.2.1 8 = .ok (.aload_n 0, 1) := by decide +kernel
theorem d_N_makePlan_9 : decode mt_N_makePlan.2.1 9 = .ok (.getfield 27, 3) := by decide +kernel
theorem d_N_makePlan_12 : decode mt_N_makePlan.2.1 12 = .ok (.iconst (-1), 1) := by decide +kernel
theorem d_N_makePlan_13 : decode mt_N_makePlan.2.1 13 = .ok (.invokestatic 51, 3) := by decide +kernel
theorem d_N_makePlan_16 : decode mt_N_makePlan.2.1 16 = .ok (.aload_n 0, 1) := by decide +kernel
theorem d_N_makePlan_17 : decode mt_N_makePlan.2.1 17 = .ok (.iconst 0, 1) := by decide +kernel
theorem d_N_makePlan_18 : decode mt_N_makePlan.2.1 18 = .ok (.putfield 33, 3) := by decide +kernel
theorem d_N_makePlan_21 : decode mt_N_makePlan.2.1 21 = .ok (.aload_n 0, 1) := by decide +kernel
theorem d_N_makePlan_22 : decode mt_N_makePlan.2.1 22 = .ok (.iconst (-1), 1) := by decide +kernel
theorem d_N_makePlan_23 : decode mt_N_makePlan.2.1 23 = .ok (.putfield 37, 3) := by decide +kernel
theorem d_N_makePlan_26 : decode mt_N_makePlan.2.1 26 = .ok (.aload_n 0, 1) := by decide +kernel
theorem d_N_makePlan_27 : decode mt_N_makePlan.2.1 27 = .ok (.iconst 0, 1) := by decide +kernel
theorem d_N_makePlan_28 : decode mt_N_makePlan.2.1 28 = .ok (.invokevirtual 57, 3) := by decide +kernel
theorem d_N_makePlan_31 : decode mt_N_makePlan.2.1 31 = .ok (.aload_n 0, 1) := by decide +kernel
theorem d_N_makePlan_32 : decode mt_N_makePlan.2.1 32 = .ok (.invokevirtual 61, 3) := by decide +kernel
theorem d_N_makePlan_35 : decode mt_N_makePlan.2.1 35 = .ok (.return_, 1) := by decide +kernel
theorem d_N_lengthUsed_0 : decode mt_N_lengthUsed.2.1 0 = .ok (.iconst 0, 1) := by decide +kernel
theorem d_N_lengthUsed_1 : decode mt_N_lengthUsed.2.1 1 = .ok (.istore_n 1, 1) := by decide +kernel
theorem d_N_lengthUsed_2 : decode mt_N_lengthUsed.2.1 2 = .ok (.iconst 0, 1) := by decide +kernel
theorem d_N_lengthUsed_3 : decode mt_N_lengthUsed.2.1 3 = .ok (.istore_n 2, 1) := by decide +kernel
theorem d_N_lengthUsed_4 : decode mt_N_lengthUsed.2.1 4 = .ok (.iload_n 2, 1) := by decide +kernel
theorem d_N_lengthUsed_5 : decode mt_N_lengthUsed.2.1 5 = .ok (.aload_n 0, 1) := by decide +kernel
theorem d_N_lengthUsed_6 : decode mt_N_lengthUsed.2.1 6 = .ok (.getfield 40, 3) := by decide +kernel
theorem d_N_lengthUsed_9 : decode mt_N_lengthUsed.2.1 9 = .ok (.getfield 64, 3) := by decide +kernel
theorem d_N_lengthUsed_12 : decode mt_N_lengthUsed.2.1 12 = .ok (.if_icmp .ge (21), 3) := by decide +kernel
theorem d_N_lengthUsed_15 : decode mt_N_lengthUsed.2.1 15 = .ok (.iload_n 1, 1) := by decide +kernel
theorem d_N_lengthUsed_16 : decode mt_N_lengthUsed.2.1 16 = .ok (.aload_n 0, 1) := by decide +kernel
theorem d_N_lengthUsed_17 : decode mt_N_lengthUsed.2.1 17 = .ok (.getfield 11, 3) := by decide +kernel
theorem d_N_lengthUsed_20 : decode mt_N_lengthUsed.2.1 20 = .ok (.iload_n 2, 1) := by decide +kernel
theorem d_N_lengthUsed_21 : decode mt_N_lengthUsed.2.1 21 = .ok (.aaload, 1) := by decide +kernel
theorem d_N_lengthUsed_22 : decode mt_N_lengthUsed.2.1 22 = .ok (.getfield 69, 3) := by decide +kernel
theorem d_N_lengthUsed_25 : decode mt_N_lengthUsed.2.1 25 = .ok (.iadd, 1) := by decide +kernel
theorem d_N_lengthUsed_26 : decode mt_N_lengthUsed.2.1 26 = .ok (.istore_n 1, 1) := by decide +kernel
theorem d_N_lengthUsed_27 : decode mt_N_lengthUsed.2.1 27 = .ok (.iinc 2 (1), 3) := by decide +kernel
theorem d_N_lengthUsed_30 : decode mt_N_lengthUsed.2.1 30 = .ok (.goto (-26), 3) := by decide +kernel
theorem d_N_lengthUsed_33 : decode mt_N_lengthUsed.2.1 33 = .ok (.iload_n 1, 1) := by decide +kernel
theorem d_N_lengthUsed_34 : decode mt_N_lengthUsed.2.1 34 = .ok (.ireturn, 1) := by decide +kernel
theorem d_N_boxesLoaded_0 : decode mt_N_boxesLoaded.2.1 0 = .ok (.iconst 0, 1) := by decide +kernel
theorem d_N_boxesLoaded_1 : decode mt_N_boxesLoaded.2.1 1 = .ok (.istore_n 1, 1) := by decide +kernel
theorem d_N_boxesLoaded_2 : decode mt_N_boxesLoaded.2.1 2 = .ok (.iconst 0, 1) := by decide +kernel
theorem d_N_boxesLoaded_3 : decode mt_N_boxesLoaded.2.1 3 = .ok (.istore_n 2, 1) := by decide +kernel
theorem d_N_boxesLoaded_4 : decode mt_N_boxesLoaded.2.1 4 = .ok (.iload_n 2, 1) := by decide +kernel
theorem d_N_boxesLoaded_5 : decode mt_N_boxesLoaded.2.1 5 = .ok (.aload_n 0, 1) := by decide +kernel
theorem d_N_boxesLoaded_6 : decode mt_N_boxesLoaded.2.1 6 = .ok (.getfield 40, 3) := by decide +kernel
theorem d_N_boxesLoaded_9 : decode mt_N_boxesLoaded.2.1 9 = .ok (.getfield 64, 3) := by decide +kernel
theorem d_N_boxesLoaded_12 : decode mt_N_boxesLoaded.2.1 12 = .ok (.if_icmp .ge (21), 3) := by decide +kernel
theorem d_N_boxesLoaded_15 : decode mt_N_boxesLoaded.2.1 15 = .ok (.iload_n 1, 1) := by decide +kernel
theorem d_N_boxesLoaded_16 : decode mt_N_boxesLoaded.2.1 16 = .ok (.aload_n 0, 1) := by decide +kernel
theorem d_N_boxesLoaded_17 : decode mt_N_boxesLoaded.2.1 17 = .ok (.getfield 11, 3) := by decide +kernel
theorem d_N_boxesLoaded_20 : decode mt_N_boxesLoaded.2.1 20 = .ok (.iload_n 2, 1) := by decide +kernel
theorem d_N_boxesLoaded_21 : decode mt_N_boxesLoaded.2.1 21 = .ok (.aaload, 1) := by decide +kernel
theorem d_N_boxesLoaded_22 : decode mt_N_boxesLoaded.2.1 22 = .ok (.getfield 72, 3) := by decide +kernel
theorem d_N_boxesLoaded_25 : decode mt_N_boxesLoaded.2.1 25 = .ok (.iadd, 1) := by decide +kernel
theorem d_N_boxesLoaded_26 : decode mt_N_boxesLoaded.2.1 26 = .ok (.istore_n 1, 1) := by decide +kernel
theorem d_N_boxesLoaded_27 : decode mt_N_boxesLoaded.2.1 27 = .ok (.iinc 2 (1), 3) := by decide +kernel
theorem d_N_boxesLoaded_30 : decode mt_N_boxesLoaded.2.1 30 = .ok (.goto (-26), 3) := by decide +kernel
theorem d_N_boxesLoaded_33 : decode mt_N_boxesLoaded.2.1 33 = .ok (.iload_n 1, 1) := by decide +kernel
theorem d_N_boxesLoaded_34 : decode mt_N_boxesLoaded.2.1 34 = .ok (.ireturn, 1) := by decide +kernel
theorem d_N_wagonOf_0 : decode mt_N_wagonOf.2.1 0 = .ok (.aload_n 0, 1) := by decide +kernel
theorem d_N_wagonOf_1 : decode mt_N_wagonOf.2.1 1 = .ok (.getfield 40, 3) := by decide +kernel
theorem d_N_wagonOf_4 : decode mt_N_wagonOf.2.1 4 = .ok (.iload_n 1, 1) := by decide +kernel
theorem d_N_wagonOf_5 : decode mt_N_wagonOf.2.1 5 = .ok (.invokevirtual 75, 3) := by decide +kernel
theorem d_N_wagonOf_8 : decode mt_N_wagonOf.2.1 8 = .ok (.ifCond .eq (12), 3) := by decide +kernel
theorem d_N_wagonOf_11 : decode mt_N_wagonOf.2.1 11 = .ok (.aload_n 0, 1) := by decide +kernel
theorem d_N_wagonOf_12 : decode mt_N_wagonOf.2.1 12 = .ok (.getfield 30, 3) := by decide +kernel
theorem d_N_wagonOf_15 : decode mt_N_wagonOf.2.1 15 = .ok (.iload_n 1, 1) := by decide +kernel
theorem d_N_wagonOf_16 : decode mt_N_wagonOf.2.1 16 = .ok (.iaload, 1) := by decide +kernel
theorem d_N_wagonOf_17 : decode mt_N_wagonOf.2.1 17 = .ok (.goto (4), 3) := by decide +kernel
theorem d_N_wagonOf_20 : decode mt_N_wagonOf.2.1 20 = .ok (.iconst (-1), 1) := by decide +kernel
theorem d_N_wagonOf_21 : decode mt_N_wagonOf.2.1 21 = .ok (.ireturn, 1) := by decide +kernel
theorem d_N_patternOf_0 : decode mt_N_patternOf.2.1 0 = .ok (.aload_n 0, 1) := by decide +kernel
theorem d_N_patternOf_1 : decode mt_N_patternOf.2.1 1 = .ok (.getfield 40, 3) := by decide +kernel
theorem d_N_patternOf_4 : decode mt_N_patternOf.2.1 4 = .ok (.iload_n 1, 1) := by decide +kernel
theorem d_N_patternOf_5 : decode mt_N_patternOf.2.1 5 = .ok (.invokevirtual 79, 3) := by decide +kernel
theorem d_N_patternOf_8 : decode mt_N_patternOf.2.1 8 = .ok (.ifCond .eq (15), 3) := by decide +kernel
theorem d_N_patternOf_11 : decode mt_N_patternOf.2.1 11 = .ok (.aload_n 0, 1) := by decide +kernel
theorem d_N_patternOf_12 : decode mt_N_patternOf.2.1 12 = .ok (.getfield 11, 3) := by decide +kernel
theorem d_N_patternOf_15 : decode mt_N_patternOf.2.1 15 = .ok (.iload_n 1, 1) := by decide +kernel
theorem d_N_patternOf_16 : decode mt_N_patternOf.2.1 16 = .ok (.aaload, 1) := by decide +kernel
theorem d_N_patternOf_17 : decode mt_N_patternOf.2.1 17 = .ok (.getfield 72, 3) := by decide +kernel
theorem d_N_patternOf_20 : decode mt_N_patternOf.2.1 20 = .ok (.ifCond .ne (5), 3) := by decide +kernel
theorem d_N_patternOf_23 : decode mt_N_patternOf.2.1 23 = .ok (.iconst (-1), 1) := by decide +kernel
theorem d_N_patternOf_24 : decode mt_N_patternOf.2.1 24 = .ok (.ireturn, 1) := by decide +kernel
theorem d_N_patternOf_25 : decode mt_N_patternOf.2.1 25 = .ok (.aload_n 0, 1) := by decide +kernel
theorem d_N_patternOf_26 : decode mt_N_patternOf.2.1 26 = .ok (.getfield 40, 3) := by decide +kernel
theorem d_N_patternOf_29 : decode mt_N_patternOf.2.1 29 = .ok (.getfield 82, 3) := by decide +kernel
theorem d_N_patternOf_32 : decode mt_N_patternOf.2.1 32 = .ok (.iload_n 1, 1) := by decide +kernel
theorem d_N_patternOf_33 : decode mt_N_patternOf.2.1 33 = .ok (.aaload, 1) := by decide +kernel
theorem d_N_patternOf_34 : decode mt_N_patternOf.2.1 34 = .ok (.aload_n 0, 1) := by decide +kernel
theorem d_N_patternOf_35 : decode mt_N_patternOf.2.1 35 = .ok (.getfield 11, 3) := by decide +kernel
theorem d_N_patternOf_38 : decode mt_N_patternOf.2.1 38 = .ok (.iload_n 1, 1) := by decide +kernel
theorem d_N_patternOf_39 : decode mt_N_patternOf.2.1 39 = .ok (.aaload, 1) := by decide +kernel
theorem d_N_patternOf_40 : decode mt_N_patternOf.2.1 40 = .ok (.iconst 0, 1) := by decide +kernel
theorem d_N_patternOf_41 : decode mt_N_patternOf.2.1 41 = .ok (.invokevirtual 86, 3) := by decide +kernel
theorem d_N_patternOf_44 : decode mt_N_patternOf.2.1 44 = .ok (.ireturn, 1) := by decide +kernel
theorem d_N_placeOf_0 : decode mt_N_placeOf.2.1 0 = .ok (.aload_n 0, 1) := by decide +kernel
theorem d_N_placeOf_1 : decode mt_N_placeOf.2.1 1 = .ok (.iload_n 1, 1) := by decide +kernel
theorem d_N_placeOf_2 : decode mt_N_placeOf.2.1 2 = .ok (.invokevirtual 92, 3) := by decide +kernel
theorem d_N_placeOf_5 : decode mt_N_placeOf.2.1 5 = .ok (.istore_n 2, 1) := by decide +kernel
theorem d_N_placeOf_6 : decode mt_N_placeOf.2.1 6 = .ok (.aload_n 0, 1) := by decide +kernel
theorem d_N_placeOf_7 : decode mt_N_placeOf.2.1 7 = .ok (.iload_n 2, 1) := by decide +kernel
theorem d_N_placeOf_8 : decode mt_N_placeOf.2.1 8 = .ok (.invokevirtual 96, 3) := by decide +kernel
theorem d_N_placeOf_11 : decode mt_N_placeOf.2.1 11 = .ok (.istore_n 3, 1) := by decide +kernel
theorem d_N_placeOf_12 : decode mt_N_placeOf.2.1 12 = .ok (.iload_n 3, 1) := by decide +kernel
theorem d_N_placeOf_13 : decode mt_N_placeOf.2.1 13 = .ok (.iconst (-1), 1) := by decide +kernel
theorem d_N_placeOf_14 : decode mt_N_placeOf.2.1 14 = .ok (.if_icmp .ne (5), 3) := by decide +kernel
theorem d_N_placeOf_17 : decode mt_N_placeOf.2.1 17 = .ok (.iconst (-1), 1) := by decide +kernel
theorem d_N_placeOf_18 : decode mt_N_placeOf.2.1 18 = .ok (.ireturn, 1) := by decide +kernel
theorem d_N_placeOf_19 : decode mt_N_placeOf.2.1 19 = .ok (.aload_n 0, 1) := by decide +kernel
theorem d_N_placeOf_20 : decode mt_N_placeOf.2.1 20 = .ok (.getfield 40, 3) := by decide +kernel
theorem d_N_placeOf_23 : decode mt_N_placeOf.2.1 23 = .ok (.getfield 99, 3) := by decide +kernel
theorem d_N_placeOf_26 : decode mt_N_placeOf.2.1 26 = .ok (.iload_n 1, 1) := by decide +kernel
theorem d_N_placeOf_27 : decode mt_N_placeOf.2.1 27 = .ok (.aaload, 1) := by decide +kernel
theorem d_N_placeOf_28 : decode mt_N_placeOf.2.1 28 = .ok (.getfield 103, 3) := by decide +kernel
theorem d_N_placeOf_31 : decode mt_N_placeOf.2.1 31 = .ok (.istore 4, 2) := by decide +kernel
theorem d_N_placeOf_33 : decode mt_N_placeOf.2.1 33 = .ok (.iconst 0, 1) := by decide +kernel
theorem d_N_placeOf_34 : decode mt_N_placeOf.2.1 34 = .ok (.istore 5, 2) := by decide +kernel
theorem d_N_placeOf_36 : decode mt_N_placeOf.2.1 36 = .ok (.iconst 0, 1) := by decide +kernel
theorem d_N_placeOf_37 : decode mt_N_placeOf.2.1 37 = .ok (.istore 6, 2) := by decide +kernel
theorem d_N_placeOf_39 : decode mt_N_placeOf.2.1 39 = .ok (.iload 6, 2) := by decide +kernel
theorem d_N_placeOf_41 : decode mt_N_placeOf.2.1 41 = .ok (.iload_n 1, 1) := by decide +kernel
theorem d_N_placeOf_42 : decode mt_N_placeOf.2.1 42 = .ok (.if_icmp .ge (41), 3) := by decide +kernel
theorem d_N_placeOf_45 : decode mt_N_placeOf.2.1 45 = .ok (.aload_n 0, 1) := by decide +kernel
theorem d_N_placeOf_46 : decode mt_N_placeOf.2.1 46 = .ok (.getfield 30, 3) := by decide +kernel
theorem d_N_placeOf_49 : decode mt_N_placeOf.2.1 49 = .ok (.iload 6, 2) := by decide +kernel
theorem d_N_placeOf_51 : decode mt_N_placeOf.2.1 51 = .ok (.iaload, 1) := by decide +kernel
theorem d_N_placeOf_52 : decode mt_N_placeOf.2.1 52 = .ok (.iload_n 2, 1) := by decide +kernel
theorem d_N_placeOf_53 : decode mt_N_placeOf.2.1 53 = .ok (.if_icmp .ne (24), 3) := by decide +kernel
theorem d_N_placeOf_56 : decode mt_N_placeOf.2.1 56 = .ok (.aload_n 0, 1) := by decide +kernel
theorem d_N_placeOf_57 : decode mt_N_placeOf.2.1 57 = .ok (.getfield 40, 3) := by decide +kernel
theorem d_N_placeOf_60 : decode mt_N_placeOf.2.1 60 = .ok (.getfield 99, 3) := by decide +kernel
theorem d_N_placeOf_63 : decode mt_N_placeOf.2.1 63 = .ok (.iload 6, 2) := by decide +kernel
theorem d_N_placeOf_65 : decode mt_N_placeOf.2.1 65 = .ok (.aaload, 1) := by decide +kernel
theorem d_N_placeOf_66 : decode mt_N_placeOf.2.1 66 = .ok (.getfield 103, 3) := by decide +kernel
theorem d_N_placeOf_69 : decode mt_N_placeOf.2.1 69 = .ok (.iload 4, 2) := by decide +kernel
theorem d_N_placeOf_71 : decode mt_N_placeOf.2.1 71 = .ok (.if_icmp .ne (6), 3) := by decide +kernel
theorem d_N_placeOf_74 : decode mt_N_placeOf.2.1 74 = .ok (.iinc 5 (1), 3) := by decide +kernel
theorem d_N_placeOf_77 : decode mt_N_placeOf.2.1 77 = .ok (.iinc 6 (1), 3) := by decide +kernel
theorem d_N_placeOf_80 : decode mt_N_placeOf.2.1 80 = .ok (.goto (-41), 3) := by decide +kernel
theorem d_N_placeOf_83 : decode mt_N_placeOf.2.1 83 = .ok (.aload_n 0, 1) := by decide +kernel
theorem d_N_placeOf_84 : decode mt_N_placeOf.2.1 84 = .ok (.getfield 40, 3) := by decide +kernel
theorem d_N_placeOf_87 : decode mt_N_placeOf.2.1 87 = .ok (.getfield 82, 3) := by decide +kernel
theorem d_N_placeOf_90 : decode mt_N_placeOf.2.1 90 = .ok (.iload_n 2, 1) := by decide +kernel
theorem d_N_placeOf_91 : decode mt_N_placeOf.2.1 91 = .ok (.aaload, 1) := by decide +kernel
theorem d_N_placeOf_92 : decode mt_N_placeOf.2.1 92 = .ok (.getfield 108, 3) := by decide +kernel
theorem d_N_placeOf_95 : decode mt_N_placeOf.2.1 95 = .ok (.iload_n 3, 1) := by decide +kernel
theorem d_N_placeOf_96 : decode mt_N_placeOf.2.1 96 = .ok (.aaload, 1) := by decide +kernel
theorem d_N_placeOf_97 : decode mt_N_placeOf.2.1 97 = .ok (.iload 4, 2) := by decide +kernel
theorem d_N_placeOf_99 : decode mt_N_placeOf.2.1 99 = .ok (.iload 5, 2) := by decide +kernel
theorem d_N_placeOf_101 : decode mt_N_placeOf.2.1 101 = .ok (.invokevirtual 112, 3) := by decide +kernel
theorem d_N_placeOf_104 : decode mt_N_placeOf.2.1 104 = .ok (.ireturn, 1) := by decide +kernel
theorem d_N_leftBehind_0 : decode mt_N_leftBehind.2.1 0 = .ok (.iconst 0, 1) := by decide +kernel
theorem d_N_leftBehind_1 : decode mt_N_leftBehind.2.1 1 = .ok (.istore_n 2, 1) := by decide +kernel
theorem d_N_leftBehind_2 : decode mt_N_leftBehind.2.1 2 = .ok (.iconst 0, 1) := by decide +kernel
theorem d_N_leftBehind_3 : decode mt_N_leftBehind.2.1 3 = .ok (.istore_n 3, 1) := by decide +kernel
theorem d_N_leftBehind_4 : decode mt_N_leftBehind.2.1 4 = .ok (.iload_n 3, 1) := by decide +kernel
theorem d_N_leftBehind_5 : decode mt_N_leftBehind.2.1 5 = .ok (.aload_n 0, 1) := by decide +kernel
theorem d_N_leftBehind_6 : decode mt_N_leftBehind.2.1 6 = .ok (.getfield 40, 3) := by decide +kernel
theorem d_N_leftBehind_9 : decode mt_N_leftBehind.2.1 9 = .ok (.getfield 118, 3) := by decide +kernel
theorem d_N_leftBehind_12 : decode mt_N_leftBehind.2.1 12 = .ok (.if_icmp .ge (39), 3) := by decide +kernel
theorem d_N_leftBehind_15 : decode mt_N_leftBehind.2.1 15 = .ok (.aload_n 0, 1) := by decide +kernel
theorem d_N_leftBehind_16 : decode mt_N_leftBehind.2.1 16 = .ok (.getfield 17, 3) := by decide +kernel
theorem d_N_leftBehind_19 : decode mt_N_leftBehind.2.1 19 = .ok (.iload_n 3, 1) := by decide +kernel
theorem d_N_leftBehind_20 : decode mt_N_leftBehind.2.1 20 = .ok (.iaload, 1) := by decide +kernel
theorem d_N_leftBehind_21 : decode mt_N_leftBehind.2.1 21 = .ok (.istore 4, 2) := by decide +kernel
theorem d_N_leftBehind_23 : decode mt_N_leftBehind.2.1 23 = .ok (.aload_n 0, 1) := by decide +kernel
theorem d_N_leftBehind_24 : decode mt_N_leftBehind.2.1 24 = .ok (.getfield 30, 3) := by decide +kernel
theorem d_N_leftBehind_27 : decode mt_N_leftBehind.2.1 27 = .ok (.iload 4, 2) := by decide +kernel
theorem d_N_leftBehind_29 : decode mt_N_leftBehind.2.1 29 = .ok (.iaload, 1) := by decide +kernel
theorem d_N_leftBehind_30 : decode mt_N_leftBehind.2.1 30 = .ok (.iconst (-1), 1) := by decide +kernel
theorem d_N_leftBehind_31 : decode mt_N_leftBehind.2.1 31 = .ok (.if_icmp .ne (14), 3) := by decide +kernel
theorem d_N_leftBehind_34 : decode mt_N_leftBehind.2.1 34 = .ok (.iload_n 2, 1) := by decide +kernel
theorem d_N_leftBehind_35 : decode mt_N_leftBehind.2.1 35 = .ok (.iload_n 1, 1) := by decide +kernel
theorem d_N_leftBehind_36 : decode mt_N_leftBehind.2.1 36 = .ok (.if_icmp .ne (6), 3) := by decide +kernel
theorem d_N_leftBehind_39 : decode mt_N_leftBehind.2.1 39 = .ok (.iload 4, 2) := by decide +kernel
theorem d_N_leftBehind_41 : decode mt_N_leftBehind.2.1 41 = .ok (.ireturn, 1) := by decide +kernel
theorem d_N_leftBehind_42 : decode mt_N_leftBehind.2.1 42 = .ok (.iinc 2 (1), 3) := by decide +kernel
theorem d_N_leftBehind_45 : decode mt_N_leftBehind.2.1 45 = .ok (.iinc 3 (1), 3) := by decide +kernel
theorem d_N_leftBehind_48 : decode mt_N_leftBehind.2.1 48 = .ok (.goto (-44), 3) := by decide +kernel
theorem d_N_leftBehind_51 : decode mt_N_leftBehind.2.1 51 = .ok (.iconst (-1), 1) := by decide +kernel
theorem d_N_leftBehind_52 : decode mt_N_leftBehind.2.1 52 = .ok (.ireturn, 1) := by decide +kernel
theorem d_N_clearLoads_0 : decode mt_N_clearLoads.2.1 0 = .ok (.iconst 0, 1) := by decide +kernel
theorem d_N_clearLoads_1 : decode mt_N_clearLoads.2.1 1 = .ok (.istore_n 1, 1) := by decide +kernel
theorem d_N_clearLoads_2 : decode mt_N_clearLoads.2.1 2 = .ok (.iload_n 1, 1) := by decide +kernel
theorem d_N_clearLoads_3 : decode mt_N_clearLoads.2.1 3 = .ok (.iconst 3, 1) := by decide +kernel
theorem d_N_clearLoads_4 : decode mt_N_clearLoads.2.1 4 = .ok (.if_icmp .ge (18), 3) := by decide +kernel
theorem d_N_clearLoads_7 : decode mt_N_clearLoads.2.1 7 = .ok (.aload_n 0, 1) := by decide +kernel
theorem d_N_clearLoads_8 : decode mt_N_clearLoads.2.1 8 = .ok (.getfield 11, 3) := by decide +kernel
theorem d_N_clearLoads_11 : decode mt_N_clearLoads.2.1 11 = .ok (.iload_n 1, 1) := by decide +kernel
theorem d_N_clearLoads_12 : decode mt_N_clearLoads.2.1 12 = .ok (.aaload, 1) := by decide +kernel
theorem d_N_clearLoads_13 : decode mt_N_clearLoads.2.1 13 = .ok (.invokevirtual 119, 3) := by decide +kernel
theorem d_N_clearLoads_16 : decode mt_N_clearLoads.2.1 16 = .ok (.iinc 1 (1), 3) := by decide +kernel
theorem d_N_clearLoads_19 : decode mt_N_clearLoads.2.1 19 = .ok (.goto (-17), 3) := by decide +kernel
theorem d_N_clearLoads_22 : decode mt_N_clearLoads.2.1 22 = .ok (.return_, 1) := by decide +kernel
theorem d_N_weighBoxes_0 : decode mt_N_weighBoxes.2.1 0 = .ok (.aload_n 0, 1) := by decide +kernel
theorem d_N_weighBoxes_1 : decode mt_N_weighBoxes.2.1 1 = .ok (.getfield 24, 3) := by decide +kernel
theorem d_N_weighBoxes_4 : decode mt_N_weighBoxes.2.1 4 = .ok (.aload_n 0, 1) := by decide +kernel
theorem d_N_weighBoxes_5 : decode mt_N_weighBoxes.2.1 5 = .ok (.getfield 40, 3) := by decide +kernel
theorem d_N_weighBoxes_8 : decode mt_N_weighBoxes.2.1 8 = .ok (.getfield 118, 3) := by decide +kernel
theorem d_N_weighBoxes_11 : decode mt_N_weighBoxes.2.1 11 = .ok (.iconst 0, 1) := by decide +kernel
theorem d_N_weighBoxes_12 : decode mt_N_weighBoxes.2.1 12 = .ok (.iastore, 1) := by decide +kernel
theorem d_N_weighBoxes_13 : decode mt_N_weighBoxes.2.1 13 = .ok (.aload_n 0, 1) := by decide +kernel
theorem d_N_weighBoxes_14 : decode mt_N_weighBoxes.2.1 14 = .ok (.getfield 40, 3) := by decide +kernel
theorem d_N_weighBoxes_17 : decode mt_N_weighBoxes.2.1 17 = .ok (.getfield 118, 3) := by decide +kernel
theorem d_N_weighBoxes_20 : decode mt_N_weighBoxes.2.1 20 = .ok (.iconst 1, 1) := by decide +kernel
theorem d_N_weighBoxes_21 : decode mt_N_weighBoxes.2.1 21 = .ok (.isub, 1) := by decide +kernel
theorem d_N_weighBoxes_22 : decode mt_N_weighBoxes.2.1 22 = .ok (.istore_n 1, 1) := by decide +kernel
theorem d_N_weighBoxes_23 : decode mt_N_weighBoxes.2.1 23 = .ok (.iload_n 1, 1) := by decide +kernel
theorem d_N_weighBoxes_24 : decode mt_N_weighBoxes.2.1 24 = .ok (.ifCond .lt (91), 3) := by decide +kernel
theorem d_N_weighBoxes_27 : decode mt_N_weighBoxes.2.1 27 = .ok (.aload_n 0, 1) := by decide +kernel
theorem d_N_weighBoxes_28 : decode mt_N_weighBoxes.2.1 28 = .ok (.getfield 40, 3) := by decide +kernel
theorem d_N_weighBoxes_31 : decode mt_N_weighBoxes.2.1 31 = .ok (.iload_n 1, 1) := by decide +kernel
theorem d_N_weighBoxes_32 : decode mt_N_weighBoxes.2.1 32 = .ok (.invokevirtual 122, 3) := by decide +kernel
theorem d_N_weighBoxes_35 : decode mt_N_weighBoxes.2.1 35 = .ok (.istore_n 2, 1) := by decide +kernel
theorem d_N_weighBoxes_36 : decode mt_N_weighBoxes.2.1 36 = .ok (.aload_n 0, 1) := by decide +kernel
theorem d_N_weighBoxes_37 : decode mt_N_weighBoxes.2.1 37 = .ok (.getfield 17, 3) := by decide +kernel
theorem d_N_weighBoxes_40 : decode mt_N_weighBoxes.2.1 40 = .ok (.iload_n 2, 1) := by decide +kernel
theorem d_N_weighBoxes_41 : decode mt_N_weighBoxes.2.1 41 = .ok (.iload_n 1, 1) := by decide +kernel
theorem d_N_weighBoxes_42 : decode mt_N_weighBoxes.2.1 42 = .ok (.iastore, 1) := by decide +kernel
theorem d_N_weighBoxes_43 : decode mt_N_weighBoxes.2.1 43 = .ok (.aload_n 0, 1) := by decide +kernel
theorem d_N_weighBoxes_44 : decode mt_N_weighBoxes.2.1 44 = .ok (.getfield 21, 3) := by decide +kernel
theorem d_N_weighBoxes_47 : decode mt_N_weighBoxes.2.1 47 = .ok (.iload_n 1, 1) := by decide +kernel
theorem d_N_weighBoxes_48 : decode mt_N_weighBoxes.2.1 48 = .ok (.aload_n 0, 1) := by decide +kernel
theorem d_N_weighBoxes_49 : decode mt_N_weighBoxes.2.1 49 = .ok (.getfield 40, 3) := by decide +kernel
theorem d_N_weighBoxes_52 : decode mt_N_weighBoxes.2.1 52 = .ok (.getfield 99, 3) := by decide +kernel
theorem d_N_weighBoxes_55 : decode mt_N_weighBoxes.2.1 55 = .ok (.iload_n 1, 1) := by decide +kernel
theorem d_N_weighBoxes_56 : decode mt_N_weighBoxes.2.1 56 = .ok (.aaload, 1) := by decide +kernel
theorem d_N_weighBoxes_57 : decode mt_N_weighBoxes.2.1 57 = .ok (.getfield 103, 3) := by decide +kernel
theorem d_N_weighBoxes_60 : decode mt_N_weighBoxes.2.1 60 = .ok (.invokestatic 125, 3) := by decide +kernel
theorem d_N_weighBoxes_63 : decode mt_N_weighBoxes.2.1 63 = .ok (.sipush (256), 3) := by decide +kernel
theorem d_N_weighBoxes_66 : decode mt_N_weighBoxes.2.1 66 = .ok (.imul, 1) := by decide +kernel
theorem d_N_weighBoxes_67 : decode mt_N_weighBoxes.2.1 67 = .ok (.sipush (256), 3) := by decide +kernel
theorem d_N_weighBoxes_70 : decode mt_N_weighBoxes.2.1 70 = .ok (.iload_n 2, 1) := by decide +kernel
theorem d_N_weighBoxes_71 : decode mt_N_weighBoxes.2.1 71 = .ok (.iconst 1, 1) := by decide +kernel
theorem d_N_weighBoxes_72 : decode mt_N_weighBoxes.2.1 72 = .ok (.iadd, 1) := by decide +kernel
theorem d_N_weighBoxes_73 : decode mt_N_weighBoxes.2.1 73 = .ok (.ishr, 1) := by decide +kernel
theorem d_N_weighBoxes_74 : decode mt_N_weighBoxes.2.1 74 = .ok (.iadd, 1) := by decide +kernel
theorem d_N_weighBoxes_75 : decode mt_N_weighBoxes.2.1 75 = .ok (.iastore, 1) := by decide +kernel
theorem d_N_weighBoxes_76 : decode mt_N_weighBoxes.2.1 76 = .ok (.aload_n 0, 1) := by decide +kernel
theorem d_N_weighBoxes_77 : decode mt_N_weighBoxes.2.1 77 = .ok (.getfield 24, 3) := by decide +kernel
theorem d_N_weighBoxes_80 : decode mt_N_weighBoxes.2.1 80 = .ok (.iload_n 1, 1) := by decide +kernel
theorem d_N_weighBoxes_81 : decode mt_N_weighBoxes.2.1 81 = .ok (.aload_n 0, 1) := by decide +kernel
theorem d_N_weighBoxes_82 : decode mt_N_weighBoxes.2.1 82 = .ok (.getfield 24, 3) := by decide +kernel
theorem d_N_weighBoxes_85 : decode mt_N_weighBoxes.2.1 85 = .ok (.iload_n 1, 1) := by decide +kernel
theorem d_N_weighBoxes_86 : decode mt_N_weighBoxes.2.1 86 = .ok (.iconst 1, 1) := by decide +kernel
theorem d_N_weighBoxes_87 : decode mt_N_weighBoxes.2.1 87 = .ok (.iadd, 1) := by decide +kernel
