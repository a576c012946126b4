/-! DECODE ROWS. Printed by wip/make.py. -/
theorem d_T_init_0 : decode mt_T_init.2.1 0 = .ok (.aload_n 0, 1) := by decide +kernel
theorem d_T_init_1 : decode mt_T_init.2.1 1 = .ok (.invokespecial 3, 3) := by decide +kernel
theorem d_T_init_4 : decode mt_T_init.2.1 4 = .ok (.aload_n 0, 1) := by decide +kernel
theorem d_T_init_5 : decode mt_T_init.2.1 5 = .ok (.iconst 3, 1) := by decide +kernel
theorem d_T_init_6 : decode mt_T_init.2.1 6 = .ok (.anewarray 9, 3) := by decide +kernel
theorem d_T_init_9 : decode mt_T_init.2.1 9 = .ok (.putfield 11, 3) := by decide +kernel
theorem d_T_init_12 : decode mt_T_init.2.1 12 = .ok (.aload_n 0, 1) := by decide +kernel
theorem d_T_init_13 : decode mt_T_init.2.1 13 = .ok (.iconst 0, 1) := by decide +kernel
theorem d_T_init_14 : decode mt_T_init.2.1 14 = .ok (.putfield 17, 3) := by decide +kernel
theorem d_T_init_17 : decode mt_T_init.2.1 17 = .ok (.aload_n 0, 1) := by decide +kernel
theorem d_T_init_18 : decode mt_T_init.2.1 18 = .ok (.bipush (8), 2) := by decide +kernel
theorem d_T_init_20 : decode mt_T_init.2.1 20 = .ok (.anewarray 21, 3) := by decide +kernel
theorem d_T_init_23 : decode mt_T_init.2.1 23 = .ok (.putfield 23, 3) := by decide +kernel
theorem d_T_init_26 : decode mt_T_init.2.1 26 = .ok (.aload_n 0, 1) := by decide +kernel
theorem d_T_init_27 : decode mt_T_init.2.1 27 = .ok (.iconst 0, 1) := by decide +kernel
theorem d_T_init_28 : decode mt_T_init.2.1 28 = .ok (.putfield 27, 3) := by decide +kernel
theorem d_T_init_31 : decode mt_T_init.2.1 31 = .ok (.aload_n 0, 1) := by decide +kernel
theorem d_T_init_32 : decode mt_T_init.2.1 32 = .ok (.iconst 4, 1) := by decide +kernel
theorem d_T_init_33 : decode mt_T_init.2.1 33 = .ok (.iconst 4, 1) := by decide +kernel
theorem d_T_init_34 : decode mt_T_init.2.1 34 = .ok (.multianewarray 30 2, 4) := by decide +kernel
theorem d_T_init_38 : decode mt_T_init.2.1 38 = .ok (.putfield 32, 3) := by decide +kernel
theorem d_T_init_41 : decode mt_T_init.2.1 41 = .ok (.aload_n 0, 1) := by decide +kernel
theorem d_T_init_42 : decode mt_T_init.2.1 42 = .ok (.ldc2_w 35, 3) := by decide +kernel
theorem d_T_init_45 : decode mt_T_init.2.1 45 = .ok (.putfield 37, 3) := by decide +kernel
theorem d_T_init_48 : decode mt_T_init.2.1 48 = .ok (.iconst 0, 1) := by decide +kernel
theorem d_T_init_49 : decode mt_T_init.2.1 49 = .ok (.istore_n 1, 1) := by decide +kernel
theorem d_T_init_50 : decode mt_T_init.2.1 50 = .ok (.iload_n 1, 1) := by decide +kernel
theorem d_T_init_51 : decode mt_T_init.2.1 51 = .ok (.iconst 3, 1) := by decide +kernel
theorem d_T_init_52 : decode mt_T_init.2.1 52 = .ok (.if_icmp .ge (22), 3) := by decide +kernel
theorem d_T_init_55 : decode mt_T_init.2.1 55 = .ok (.aload_n 0, 1) := by decide +kernel
theorem d_T_init_56 : decode mt_T_init.2.1 56 = .ok (.getfield 11, 3) := by decide +kernel
theorem d_T_init_59 : decode mt_T_init.2.1 59 = .ok (.iload_n 1, 1) := by decide +kernel
theorem d_T_init_60 : decode mt_T_init.2.1 60 = .ok (.new 9, 3) := by decide +kernel
theorem d_T_init_63 : decode mt_T_init.2.1 63 = .ok (.dup, 1) := by decide +kernel
theorem d_T_init_64 : decode mt_T_init.2.1 64 = .ok (.invokespecial 41, 3) := by decide +kernel
theorem d_T_init_67 : decode mt_T_init.2.1 67 = .ok (.aastore, 1) := by decide +kernel
theorem d_T_init_68 : decode mt_T_init.2.1 68 = .ok (.iinc 1 (1), 3) := by decide +kernel
theorem d_T_init_71 : decode mt_T_init.2.1 71 = .ok (.goto (-21), 3) := by decide +kernel
theorem d_T_init_74 : decode mt_T_init.2.1 74 = .ok (.iconst 0, 1) := by decide +kernel
theorem d_T_init_75 : decode mt_T_init.2.1 75 = .ok (.istore_n 1, 1) := by decide +kernel
theorem d_T_init_76 : decode mt_T_init.2.1 76 = .ok (.iload_n 1, 1) := by decide +kernel
theorem d_T_init_77 : decode mt_T_init.2.1 77 = .ok (.bipush (8), 2) := by decide +kernel
theorem d_T_init_79 : decode mt_T_init.2.1 79 = .ok (.if_icmp .ge (22), 3) := by decide +kernel
theorem d_T_init_82 : decode mt_T_init.2.1 82 = .ok (.aload_n 0, 1) := by decide +kernel
theorem d_T_init_83 : decode mt_T_init.2.1 83 = .ok (.getfield 23, 3) := by decide +kernel
theorem d_T_init_86 : decode mt_T_init.2.1 86 = .ok (.iload_n 1, 1) := by decide +kernel
theorem d_T_init_87 : decode mt_T_init.2.1 87 = .ok (.new 21, 3) := by decide +kernel
theorem d_T_init_90 : decode mt_T_init.2.1 90 = .ok (.dup, 1) := by decide +kernel
theorem d_T_init_91 : decode mt_T_init.2.1 91 = .ok (.invokespecial 42, 3) := by decide +kernel
theorem d_T_init_94 : decode mt_T_init.2.1 94 = .ok (.aastore, 1) := by decide +kernel
theorem d_T_init_95 : decode mt_T_init.2.1 95 = .ok (.iinc 1 (1), 3) := by decide +kernel
theorem d_T_init_98 : decode mt_T_init.2.1 98 = .ok (.goto (-22), 3) := by decide +kernel
theorem d_T_init_101 : decode mt_T_init.2.1 101 = .ok (.return_, 1) := by decide +kernel
theorem d_T_hasWagon_0 : decode mt_T_hasWagon.2.1 0 = .ok (.iconst 0, 1) := by decide +kernel
theorem d_T_hasWagon_1 : decode mt_T_hasWagon.2.1 1 = .ok (.iload_n 1, 1) := by decide +kernel
theorem d_T_hasWagon_2 : decode mt_T_hasWagon.2.1 2 = .ok (.if_icmp .gt (15), 3) := by decide +kernel
theorem d_T_hasWagon_5 : decode mt_T_hasWagon.2.1 5 = .ok (.iload_n 1, 1) := by decide +kernel
theorem d_T_hasWagon_6 : decode mt_T_hasWagon.2.1 6 = .ok (.aload_n 0, 1) := by decide +kernel
theorem d_T_hasWagon_7 : decode mt_T_hasWagon.2.1 7 = .ok (.getfield 17, 3) := by decide +kernel
theorem d_T_hasWagon_10 : decode mt_T_hasWagon.2.1 10 = .ok (.if_icmp .ge (7), 3) := by decide +kernel
theorem d_T_hasWagon_13 : decode mt_T_hasWagon.2.1 13 = .ok (.iconst 1, 1) := by decide +kernel
theorem d_T_hasWagon_14 : decode mt_T_hasWagon.2.1 14 = .ok (.goto (4), 3) := by decide +kernel
theorem d_T_hasWagon_17 : decode mt_T_hasWagon.2.1 17 = .ok (.iconst 0, 1) := by decide +kernel
theorem d_T_hasWagon_18 : decode mt_T_hasWagon.2.1 18 = .ok (.ireturn, 1) := by decide +kernel
theorem d_T_hasBox_0 : decode mt_T_hasBox.2.1 0 = .ok (.iconst 0, 1) := by decide +kernel
theorem d_T_hasBox_1 : decode mt_T_hasBox.2.1 1 = .ok (.iload_n 1, 1) := by decide +kernel
theorem d_T_hasBox_2 : decode mt_T_hasBox.2.1 2 = .ok (.if_icmp .gt (15), 3) := by decide +kernel
theorem d_T_hasBox_5 : decode mt_T_hasBox.2.1 5 = .ok (.iload_n 1, 1) := by decide +kernel
theorem d_T_hasBox_6 : decode mt_T_hasBox.2.1 6 = .ok (.aload_n 0, 1) := by decide +kernel
theorem d_T_hasBox_7 : decode mt_T_hasBox.2.1 7 = .ok (.getfield 27, 3) := by decide +kernel
theorem d_T_hasBox_10 : decode mt_T_hasBox.2.1 10 = .ok (.if_icmp .ge (7), 3) := by decide +kernel
theorem d_T_hasBox_13 : decode mt_T_hasBox.2.1 13 = .ok (.iconst 1, 1) := by decide +kernel
theorem d_T_hasBox_14 : decode mt_T_hasBox.2.1 14 = .ok (.goto (4), 3) := by decide +kernel
theorem d_T_hasBox_17 : decode mt_T_hasBox.2.1 17 = .ok (.iconst 0, 1) := by decide +kernel
theorem d_T_hasBox_18 : decode mt_T_hasBox.2.1 18 = .ok (.ireturn, 1) := by decide +kernel
theorem d_T_addWagon_0 : decode mt_T_addWagon.2.1 0 = .ok (.aload_n 0, 1) := by decide +kernel
theorem d_T_addWagon_1 : decode mt_T_addWagon.2.1 1 = .ok (.getfield 17, 3) := by decide +kernel
theorem d_T_addWagon_4 : decode mt_T_addWagon.2.1 4 = .ok (.iconst 3, 1) := by decide +kernel
theorem d_T_addWagon_5 : decode mt_T_addWagon.2.1 5 = .ok (.if_icmp .lt (5), 3) := by decide +kernel
theorem d_T_addWagon_8 : decode mt_T_addWagon.2.1 8 = .ok (.iconst (-1), 1) := by decide +kernel
theorem d_T_addWagon_9 : decode mt_T_addWagon.2.1 9 = .ok (.ireturn, 1) := by decide +kernel
theorem d_T_addWagon_10 : decode mt_T_addWagon.2.1 10 = .ok (.aload_n 0, 1) := by decide +kernel
theorem d_T_addWagon_11 : decode mt_T_addWagon.2.1 11 = .ok (.getfield 11, 3) := by decide +kernel
theorem d_T_addWagon_14 : decode mt_T_addWagon.2.1 14 = .ok (.aload_n 0, 1) := by decide +kernel
theorem d_T_addWagon_15 : decode mt_T_addWagon.2.1 15 = .ok (.getfield 17, 3) := by decide +kernel
theorem d_T_addWagon_18 : decode mt_T_addWagon.2.1 18 = .ok (.aaload, 1) := by decide +kernel
theorem d_T_addWagon_19 : decode mt_T_addWagon.2.1 19 = .ok (.astore 6, 2) := by decide +kernel
theorem d_T_addWagon_21 : decode mt_T_addWagon.2.1 21 = .ok (.aload 6, 2) := by decide +kernel
theorem d_T_addWagon_23 : decode mt_T_addWagon.2.1 23 = .ok (.iload_n 1, 1) := by decide +kernel
theorem d_T_addWagon_24 : decode mt_T_addWagon.2.1 24 = .ok (.putfield 43, 3) := by decide +kernel
theorem d_T_addWagon_27 : decode mt_T_addWagon.2.1 27 = .ok (.aload 6, 2) := by decide +kernel
theorem d_T_addWagon_29 : decode mt_T_addWagon.2.1 29 = .ok (.lload_n 2, 1) := by decide +kernel
theorem d_T_addWagon_30 : decode mt_T_addWagon.2.1 30 = .ok (.putfield 46, 3) := by decide +kernel
theorem d_T_addWagon_33 : decode mt_T_addWagon.2.1 33 = .ok (.aload 6, 2) := by decide +kernel
theorem d_T_addWagon_35 : decode mt_T_addWagon.2.1 35 = .ok (.iload 4, 2) := by decide +kernel
theorem d_T_addWagon_37 : decode mt_T_addWagon.2.1 37 = .ok (.putfield 49, 3) := by decide +kernel
theorem d_T_addWagon_40 : decode mt_T_addWagon.2.1 40 = .ok (.aload 6, 2) := by decide +kernel
theorem d_T_addWagon_42 : decode mt_T_addWagon.2.1 42 = .ok (.iload 5, 2) := by decide +kernel
theorem d_T_addWagon_44 : decode mt_T_addWagon.2.1 44 = .ok (.putfield 52, 3) := by decide +kernel
theorem d_T_addWagon_47 : decode mt_T_addWagon.2.1 47 = .ok (.aload_n 0, 1) := by decide +kernel
theorem d_T_addWagon_48 : decode mt_T_addWagon.2.1 48 = .ok (.dup, 1) := by decide +kernel
theorem d_T_addWagon_49 : decode mt_T_addWagon.2.1 49 = .ok (.getfield 17, 3) := by decide +kernel
theorem d_T_addWagon_52 : decode mt_T_addWagon.2.1 52 = .ok (.iconst 1, 1) := by decide +kernel
theorem d_T_addWagon_53 : decode mt_T_addWagon.2.1 53 = .ok (.iadd, 1) := by decide +kernel
theorem d_T_addWagon_54 : decode mt_T_addWagon.2.1 54 = .ok (.putfield 17, 3) := by decide +kernel
theorem d_T_addWagon_57 : decode mt_T_addWagon.2.1 57 = .ok (.aload_n 0, 1) := by decide +kernel
theorem d_T_addWagon_58 : decode mt_T_addWagon.2.1 58 = .ok (.getfield 17, 3) := by decide +kernel
theorem d_T_addWagon_61 : decode mt_T_addWagon.2.1 61 = .ok (.iconst 1, 1) := by decide +kernel
theorem d_T_addWagon_62 : decode mt_T_addWagon.2.1 62 = .ok (.isub, 1) := by decide +kernel
theorem d_T_addWagon_63 : decode mt_T_addWagon.2.1 63 = .ok (.ireturn, 1) := by decide +kernel
theorem d_T_addBox_0 : decode mt_T_addBox.2.1 0 = .ok (.aload_n 0, 1) := by decide +kernel
theorem d_T_addBox_1 : decode mt_T_addBox.2.1 1 = .ok (.getfield 27, 3) := by decide +kernel
theorem d_T_addBox_4 : decode mt_T_addBox.2.1 4 = .ok (.bipush (8), 2) := by decide +kernel
theorem d_T_addBox_6 : decode mt_T_addBox.2.1 6 = .ok (.if_icmp .lt (5), 3) := by decide +kernel
theorem d_T_addBox_9 : decode mt_T_addBox.2.1 9 = .ok (.iconst (-1), 1) := by decide +kernel
theorem d_T_addBox_10 : decode mt_T_addBox.2.1 10 = .ok (.ireturn, 1) := by decide +kernel
theorem d_T_addBox_11 : decode mt_T_addBox.2.1 11 = .ok (.aload_n 0, 1) := by decide +kernel
theorem d_T_addBox_12 : decode mt_T_addBox.2.1 12 = .ok (.getfield 23, 3) := by decide +kernel
theorem d_T_addBox_15 : decode mt_T_addBox.2.1 15 = .ok (.aload_n 0, 1) := by decide +kernel
theorem d_T_addBox_16 : decode mt_T_addBox.2.1 16 = .ok (.getfield 27, 3) := by decide +kernel
theorem d_T_addBox_19 : decode mt_T_addBox.2.1 19 = .ok (.aaload, 1) := by decide +kernel
theorem d_T_addBox_20 : decode mt_T_addBox.2.1 20 = .ok (.astore 8, 2) := by decide +kernel
theorem d_T_addBox_22 : decode mt_T_addBox.2.1 22 = .ok (.aload 8, 2) := by decide +kernel
theorem d_T_addBox_24 : decode mt_T_addBox.2.1 24 = .ok (.iload_n 1, 1) := by decide +kernel
theorem d_T_addBox_25 : decode mt_T_addBox.2.1 25 = .ok (.putfield 55, 3) := by decide +kernel
theorem d_T_addBox_28 : decode mt_T_addBox.2.1 28 = .ok (.aload 8, 2) := by decide +kernel
theorem d_T_addBox_30 : decode mt_T_addBox.2.1 30 = .ok (.lload_n 2, 1) := by decide +kernel
theorem d_T_addBox_31 : decode mt_T_addBox.2.1 31 = .ok (.putfield 58, 3) := by decide +kernel
theorem d_T_addBox_34 : decode mt_T_addBox.2.1 34 = .ok (.aload 8, 2) := by decide +kernel
theorem d_T_addBox_36 : decode mt_T_addBox.2.1 36 = .ok (.iload 4, 2) := by decide +kernel
theorem d_T_addBox_38 : decode mt_T_addBox.2.1 38 = .ok (.putfield 61, 3) := by decide +kernel
theorem d_T_addBox_41 : decode mt_T_addBox.2.1 41 = .ok (.aload 8, 2) := by decide +kernel
theorem d_T_addBox_43 : decode mt_T_addBox.2.1 43 = .ok (.iload 5, 2) := by decide +kernel
theorem d_T_addBox_45 : decode mt_T_addBox.2.1 45 = .ok (.putfield 64, 3) := by decide +kernel
theorem d_T_addBox_48 : decode mt_T_addBox.2.1 48 = .ok (.aload 8, 2) := by decide +kernel
theorem d_T_addBox_50 : decode mt_T_addBox.2.1 50 = .ok (.lload 6, 2) := by decide +kernel
theorem d_T_addBox_52 : decode mt_T_addBox.2.1 52 = .ok (.putfield 67, 3) := by decide +kernel
theorem d_T_addBox_55 : decode mt_T_addBox.2.1 55 = .ok (.aload_n 0, 1) := by decide +kernel
theorem d_T_addBox_56 : decode mt_T_addBox.2.1 56 = .ok (.dup, 1) := by decide +kernel
theorem d_T_addBox_57 : decode mt_T_addBox.2.1 57 = .ok (.getfield 27, 3) := by decide +kernel
theorem d_T_addBox_60 : decode mt_T_addBox.2.1 60 = .ok (.iconst 1, 1) := by decide +kernel
theorem d_T_addBox_61 : decode mt_T_addBox.2.1 61 = .ok (.iadd, 1) := by decide +kernel
theorem d_T_addBox_62 : decode mt_T_addBox.2.1 62 = .ok (.putfield 27, 3) := by decide +kernel
theorem d_T_addBox_65 : decode mt_T_addBox.2.1 65 = .ok (.aload_n 0, 1) := by decide +kernel
theorem d_T_addBox_66 : decode mt_T_addBox.2.1 66 = .ok (.getfield 27, 3) := by decide +kernel
theorem d_T_addBox_69 : decode mt_T_addBox.2.1 69 = .ok (.iconst 1, 1) := by decide +kernel
theorem d_T_addBox_70 : decode mt_T_addBox.2.1 70 = .ok (.isub, 1) := by decide +kernel
theorem d_T_addBox_71 : decode mt_T_addBox.2.1 71 = .ok (.ireturn, 1) := by decide +kernel
theorem d_T_rankOf_0 : decode mt_T_rankOf.2.1 0 = .ok (.iconst 0, 1) := by decide +kernel
theorem d_T_rankOf_1 : decode mt_T_rankOf.2.1 1 = .ok (.istore_n 2, 1) := by decide +kernel
theorem d_T_rankOf_2 : decode mt_T_rankOf.2.1 2 = .ok (.iconst 0, 1) := by decide +kernel
theorem d_T_rankOf_3 : decode mt_T_rankOf.2.1 3 = .ok (.istore_n 3, 1) := by decide +kernel
theorem d_T_rankOf_4 : decode mt_T_rankOf.2.1 4 = .ok (.iload_n 3, 1) := by decide +kernel
theorem d_T_rankOf_5 : decode mt_T_rankOf.2.1 5 = .ok (.aload_n 0, 1) := by decide +kernel
theorem d_T_rankOf_6 : decode mt_T_rankOf.2.1 6 = .ok (.getfield 27, 3) := by decide +kernel
theorem d_T_rankOf_9 : decode mt_T_rankOf.2.1 9 = .ok (.if_icmp .ge (52), 3) := by decide +kernel
theorem d_T_rankOf_12 : decode mt_T_rankOf.2.1 12 = .ok (.aload_n 0, 1) := by decide +kernel
theorem d_T_rankOf_13 : decode mt_T_rankOf.2.1 13 = .ok (.getfield 23, 3) := by decide +kernel
theorem d_T_rankOf_16 : decode mt_T_rankOf.2.1 16 = .ok (.iload_n 1, 1) := by decide +kernel
theorem d_T_rankOf_17 : decode mt_T_rankOf.2.1 17 = .ok (.aaload, 1) := by decide +kernel
theorem d_T_rankOf_18 : decode mt_T_rankOf.2.1 18 = .ok (.getfield 67, 3) := by decide +kernel
theorem d_T_rankOf_21 : decode mt_T_rankOf.2.1 21 = .ok (.aload_n 0, 1) := by decide +kernel
theorem d_T_rankOf_22 : decode mt_T_rankOf.2.1 22 = .ok (.getfield 23, 3) := by decide +kernel
theorem d_T_rankOf_25 : decode mt_T_rankOf.2.1 25 = .ok (.iload_n 3, 1) := by decide +kernel
theorem d_T_rankOf_26 : decode mt_T_rankOf.2.1 26 = .ok (.aaload, 1) := by decide +kernel
theorem d_T_rankOf_27 : decode mt_T_rankOf.2.1 27 = .ok (.getfield 67, 3) := by decide +kernel
theorem d_T_rankOf_30 : decode mt_T_rankOf.2.1 30 = .ok (.lsub, 1) := by decide +kernel
theorem d_T_rankOf_31 : decode mt_T_rankOf.2.1 31 = .ok (.lstore 4, 2) := by decide +kernel
theorem d_T_rankOf_33 : decode mt_T_rankOf.2.1 33 = .ok (.lload 4, 2) := by decide +kernel
theorem d_T_rankOf_35 : decode mt_T_rankOf.2.1 35 = .ok (.lconst 0, 1) := by decide +kernel
theorem d_T_rankOf_36 : decode mt_T_rankOf.2.1 36 = .ok (.lcmp, 1) := by decide +kernel
theorem d_T_rankOf_37 : decode mt_T_rankOf.2.1 37 = .ok (.ifCond .gt (15), 3) := by decide +kernel
theorem d_T_rankOf_40 : decode mt_T_rankOf.2.1 40 = .ok (.lload 4, 2) := by decide +kernel
theorem d_T_rankOf_42 : decode mt_T_rankOf.2.1 42 = .ok (.lconst 0, 1) := by decide +kernel
theorem d_T_rankOf_43 : decode mt_T_rankOf.2.1 43 = .ok (.lcmp, 1) := by decide +kernel
theorem d_T_rankOf_44 : decode mt_T_rankOf.2.1 44 = .ok (.ifCond .ne (11), 3) := by decide +kernel
theorem d_T_rankOf_47 : decode mt_T_rankOf.2.1 47 = .ok (.iload_n 3, 1) := by decide +kernel
theorem d_T_rankOf_48 : decode mt_T_rankOf.2.1 48 = .ok (.iload_n 1, 1) := by decide +kernel
theorem d_T_rankOf_49 : decode mt_T_rankOf.2.1 49 = .ok (.if_icmp .ge (6), 3) := by decide +kernel
theorem d_T_rankOf_52 : decode mt_T_rankOf.2.1 52 = .ok (.iinc 2 (1), 3) := by decide +kernel
theorem d_T_rankOf_55 : decode mt_T_rankOf.2.1 55 = .ok (.iinc 3 (1), 3) := by decide +kernel
theorem d_T_rankOf_58 : decode mt_T_rankOf.2.1 58 = .ok (.goto (-54), 3) := by decide +kernel
theorem d_T_rankOf_61 : decode mt_T_rankOf.2.1 61 = .ok (.iload_n 2, 1) := by decide +kernel
theorem d_T_rankOf_62 : decode mt_T_rankOf.2.1 62 = .ok (.ireturn, 1) := by decide +kernel
theorem d_T_reasonAgainst_0 : decode mt_T_reasonAgainst.2.1 0 = .ok (.aload_n 0, 1) := by decide +kernel
theorem d_T_reasonAgainst_1 : decode mt_T_reasonAgainst.2.1 1 = .ok (.getfield 17, 3) := by decide +kernel
theorem d_T_reasonAgainst_4 : decode mt_T_reasonAgainst.2.1 4 = .ok (.ifCond .ne (7), 3) := by decide +kernel
theorem d_T_reasonAgainst_7 : decode mt_T_reasonAgainst.2.1 7 = .ok (.iconst 4, 1) := by decide +kernel
theorem d_T_reasonAgainst_8 : decode mt_T_reasonAgainst.2.1 8 = .ok (.goto (4), 3) := by decide +kernel
theorem d_T_reasonAgainst_11 : decode mt_T_reasonAgainst.2.1 11 = .ok (.iconst 0, 1) := by decide +kernel
theorem d_T_reasonAgainst_12 : decode mt_T_reasonAgainst.2.1 12 = .ok (.istore_n 2, 1) := by decide +kernel
theorem d_T_reasonAgainst_13 : decode mt_T_reasonAgainst.2.1 13 = .ok (.iconst 0, 1) := by decide +kernel
theorem d_T_reasonAgainst_14 : decode mt_T_reasonAgainst.2.1 14 = .ok (.istore_n 3, 1) := by decide +kernel
theorem d_T_reasonAgainst_15 : decode mt_T_reasonAgainst.2.1 15 = .ok (.iload_n 3, 1) := by decide +kernel
theorem d_T_reasonAgainst_16 : decode mt_T_reasonAgainst.2.1 16 = .ok (.aload_n 0, 1) := by decide +kernel
theorem d_T_reasonAgainst_17 : decode mt_T_reasonAgainst.2.1 17 = .ok (.getfield 17, 3) := by decide +kernel
theorem d_T_reasonAgainst_20 : decode mt_T_reasonAgainst.2.1 20 = .ok (.if_icmp .ge (35), 3) := by decide +kernel
theorem d_T_reasonAgainst_23 : decode mt_T_reasonAgainst.2.1 23 = .ok (.aload_n 0, 1) := by decide +kernel
theorem d_T_reasonAgainst_24 : decode mt_T_reasonAgainst.2.1 24 = .ok (.getfield 11, 3) := by decide +kernel
theorem d_T_reasonAgainst_27 : decode mt_T_reasonAgainst.2.1 27 = .ok (.iload_n 3, 1) := by decide +kernel
theorem d_T_reasonAgainst_28 : decode mt_T_reasonAgainst.2.1 28 = .ok (.aaload, 1) := by decide +kernel
theorem d_T_reasonAgainst_29 : decode mt_T_reasonAgainst.2.1 29 = .ok (.aload_n 1, 1) := by decide +kernel
theorem d_T_reasonAgainst_30 : decode mt_T_reasonAgainst.2.1 30 = .ok (.invokevirtual 70, 3) := by decide +kernel
theorem d_T_reasonAgainst_33 : decode mt_T_reasonAgainst.2.1 33 = .ok (.istore 4, 2) := by decide +kernel
theorem d_T_reasonAgainst_35 : decode mt_T_reasonAgainst.2.1 35 = .ok (.iload 4, 2) := by decide +kernel
theorem d_T_reasonAgainst_37 : decode mt_T_reasonAgainst.2.1 37 = .ok (.ifCond .ne (5), 3) := by decide +kernel
theorem d_T_reasonAgainst_40 : decode mt_T_reasonAgainst.2.1 40 = .ok (.iconst 0, 1) := by decide +kernel
theorem d_T_reasonAgainst_41 : decode mt_T_reasonAgainst.2.1 41 = .ok (.ireturn, 1) := by decide +kernel
theorem d_T_reasonAgainst_42 : decode mt_T_reasonAgainst.2.1 42 = .ok (.iload_n 2, 1) := by decide +kernel
theorem d_T_reasonAgainst_43 : decode mt_T_reasonAgainst.2.1 43 = .ok (.iload 4, 2) := by decide +kernel
theorem d_T_reasonAgainst_45 : decode mt_T_reasonAgainst.2.1 45 = .ok (.invokestatic 74, 3) := by decide +kernel
theorem d_T_reasonAgainst_48 : decode mt_T_reasonAgainst.2.1 48 = .ok (.istore_n 2, 1) := by decide +kernel
theorem d_T_reasonAgainst_49 : decode mt_T_reasonAgainst.2.1 49 = .ok (.iinc 3 (1), 3) := by decide +kernel
theorem d_T_reasonAgainst_52 : decode mt_T_reasonAgainst.2.1 52 = .ok (.goto (-37), 3) := by decide +kernel
theorem d_T_reasonAgainst_55 : decode mt_T_reasonAgainst.2.1 55 = .ok (.iload_n 2, 1) := by decide +kernel
theorem d_T_reasonAgainst_56 : decode mt_T_reasonAgainst.2.1 56 = .ok (.ireturn, 1) := by decide +kernel
