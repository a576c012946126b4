/-! DECODE ROWS. Printed by wip/make.py. -/
theorem d_X_init_0 : decode mt_X_init.2.1 0 = .ok (.aload_n 0, 1) := by decide +kernel
theorem d_X_init_1 : decode mt_X_init.2.1 1 = .ok (.invokespecial 1, 3) := by decide +kernel
theorem d_X_init_4 : decode mt_X_init.2.1 4 = .ok (.aload_n 0, 1) := by decide +kernel
theorem d_X_init_5 : decode mt_X_init.2.1 5 = .ok (.new 7, 3) := by decide +kernel
theorem d_X_init_8 : decode mt_X_init.2.1 8 = .ok (.dup, 1) := by decide +kernel
theorem d_X_init_9 : decode mt_X_init.2.1 9 = .ok (.invokespecial 9, 3) := by decide +kernel
theorem d_X_init_12 : decode mt_X_init.2.1 12 = .ok (.putfield 10, 3) := by decide +kernel
theorem d_X_init_15 : decode mt_X_init.2.1 15 = .ok (.aload_n 0, 1) := by decide +kernel
theorem d_X_init_16 : decode mt_X_init.2.1 16 = .ok (.new 16, 3) := by decide +kernel
theorem d_X_init_19 : decode mt_X_init.2.1 19 = .ok (.dup, 1) := by decide +kernel
theorem d_X_init_20 : decode mt_X_init.2.1 20 = .ok (.aload_n 0, 1) := by decide +kernel
theorem d_X_init_21 : decode mt_X_init.2.1 21 = .ok (.getfield 10, 3) := by decide +kernel
theorem d_X_init_24 : decode mt_X_init.2.1 24 = .ok (.invokespecial 18, 3) := by decide +kernel
theorem d_X_init_27 : decode mt_X_init.2.1 27 = .ok (.putfield 21, 3) := by decide +kernel
theorem d_X_init_30 : decode mt_X_init.2.1 30 = .ok (.aload_n 0, 1) := by decide +kernel
theorem d_X_init_31 : decode mt_X_init.2.1 31 = .ok (.iconst 0, 1) := by decide +kernel
theorem d_X_init_32 : decode mt_X_init.2.1 32 = .ok (.putfield 25, 3) := by decide +kernel
theorem d_X_init_35 : decode mt_X_init.2.1 35 = .ok (.return_, 1) := by decide +kernel
theorem d_X_wagon_0 : decode mt_X_wagon.2.1 0 = .ok (.iload_n 1, 1) := by decide +kernel
theorem d_X_wagon_1 : decode mt_X_wagon.2.1 1 = .ok (.i2l, 1) := by decide +kernel
theorem d_X_wagon_2 : decode mt_X_wagon.2.1 2 = .ok (.lconst 1, 1) := by decide +kernel
theorem d_X_wagon_3 : decode mt_X_wagon.2.1 3 = .ok (.ldc2_w 29, 3) := by decide +kernel
theorem d_X_wagon_6 : decode mt_X_wagon.2.1 6 = .ok (.invokestatic 31, 3) := by decide +kernel
theorem d_X_wagon_9 : decode mt_X_wagon.2.1 9 = .ok (.ifCond .eq (40), 3) := by decide +kernel
theorem d_X_wagon_12 : decode mt_X_wagon.2.1 12 = .ok (.lload_n 2, 1) := by decide +kernel
theorem d_X_wagon_13 : decode mt_X_wagon.2.1 13 = .ok (.lconst 0, 1) := by decide +kernel
theorem d_X_wagon_14 : decode mt_X_wagon.2.1 14 = .ok (.ldc2_w 35, 3) := by decide +kernel
theorem d_X_wagon_17 : decode mt_X_wagon.2.1 17 = .ok (.invokestatic 31, 3) := by decide +kernel
theorem d_X_wagon_20 : decode mt_X_wagon.2.1 20 = .ok (.ifCond .eq (29), 3) := by decide +kernel
theorem d_X_wagon_23 : decode mt_X_wagon.2.1 23 = .ok (.iload 4, 2) := by decide +kernel
theorem d_X_wagon_25 : decode mt_X_wagon.2.1 25 = .ok (.i2l, 1) := by decide +kernel
theorem d_X_wagon_26 : decode mt_X_wagon.2.1 26 = .ok (.lconst 0, 1) := by decide +kernel
theorem d_X_wagon_27 : decode mt_X_wagon.2.1 27 = .ok (.ldc2_w 37, 3) := by decide +kernel
theorem d_X_wagon_30 : decode mt_X_wagon.2.1 30 = .ok (.invokestatic 31, 3) := by decide +kernel
theorem d_X_wagon_33 : decode mt_X_wagon.2.1 33 = .ok (.ifCond .eq (16), 3) := by decide +kernel
theorem d_X_wagon_36 : decode mt_X_wagon.2.1 36 = .ok (.iload 5, 2) := by decide +kernel
theorem d_X_wagon_38 : decode mt_X_wagon.2.1 38 = .ok (.i2l, 1) := by decide +kernel
theorem d_X_wagon_39 : decode mt_X_wagon.2.1 39 = .ok (.lconst 1, 1) := by decide +kernel
theorem d_X_wagon_40 : decode mt_X_wagon.2.1 40 = .ok (.ldc2_w 39, 3) := by decide +kernel
theorem d_X_wagon_43 : decode mt_X_wagon.2.1 43 = .ok (.invokestatic 31, 3) := by decide +kernel
theorem d_X_wagon_46 : decode mt_X_wagon.2.1 46 = .ok (.ifCond .ne (13), 3) := by decide +kernel
theorem d_X_wagon_49 : decode mt_X_wagon.2.1 49 = .ok (.new 41, 3) := by decide +kernel
theorem d_X_wagon_52 : decode mt_X_wagon.2.1 52 = .ok (.dup, 1) := by decide +kernel
theorem d_X_wagon_53 : decode mt_X_wagon.2.1 53 = .ok (.ldc 43, 2) := by decide +kernel
theorem d_X_wagon_55 : decode mt_X_wagon.2.1 55 = .ok (.invokespecial 45, 3) := by decide +kernel
theorem d_X_wagon_58 : decode mt_X_wagon.2.1 58 = .ok (.athrow, 1) := by decide +kernel
theorem d_X_wagon_59 : decode mt_X_wagon.2.1 59 = .ok (.aload_n 0, 1) := by decide +kernel
theorem d_X_wagon_60 : decode mt_X_wagon.2.1 60 = .ok (.getfield 10, 3) := by decide +kernel
theorem d_X_wagon_63 : decode mt_X_wagon.2.1 63 = .ok (.getfield 48, 3) := by decide +kernel
theorem d_X_wagon_66 : decode mt_X_wagon.2.1 66 = .ok (.iconst 3, 1) := by decide +kernel
theorem d_X_wagon_67 : decode mt_X_wagon.2.1 67 = .ok (.if_icmp .lt (13), 3) := by decide +kernel
theorem d_X_wagon_70 : decode mt_X_wagon.2.1 70 = .ok (.new 52, 3) := by decide +kernel
theorem d_X_wagon_73 : decode mt_X_wagon.2.1 73 = .ok (.dup, 1) := by decide +kernel
theorem d_X_wagon_74 : decode mt_X_wagon.2.1 74 = .ok (.ldc 54, 2) := by decide +kernel
theorem d_X_wagon_76 : decode mt_X_wagon.2.1 76 = .ok (.invokespecial 56, 3) := by decide +kernel
theorem d_X_wagon_79 : decode mt_X_wagon.2.1 79 = .ok (.athrow, 1) := by decide +kernel
theorem d_X_wagon_80 : decode mt_X_wagon.2.1 80 = .ok (.aload_n 0, 1) := by decide +kernel
theorem d_X_wagon_81 : decode mt_X_wagon.2.1 81 = .ok (.iconst 0, 1) := by decide +kernel
theorem d_X_wagon_82 : decode mt_X_wagon.2.1 82 = .ok (.putfield 25, 3) := by decide +kernel
theorem d_X_wagon_85 : decode mt_X_wagon.2.1 85 = .ok (.aload_n 0, 1) := by decide +kernel
theorem d_X_wagon_86 : decode mt_X_wagon.2.1 86 = .ok (.getfield 10, 3) := by decide +kernel
theorem d_X_wagon_89 : decode mt_X_wagon.2.1 89 = .ok (.iload_n 1, 1) := by decide +kernel
theorem d_X_wagon_90 : decode mt_X_wagon.2.1 90 = .ok (.lload_n 2, 1) := by decide +kernel
theorem d_X_wagon_91 : decode mt_X_wagon.2.1 91 = .ok (.iload 4, 2) := by decide +kernel
theorem d_X_wagon_93 : decode mt_X_wagon.2.1 93 = .ok (.iload 5, 2) := by decide +kernel
theorem d_X_wagon_95 : decode mt_X_wagon.2.1 95 = .ok (.invokevirtual 57, 3) := by decide +kernel
theorem d_X_wagon_98 : decode mt_X_wagon.2.1 98 = .ok (.ireturn, 1) := by decide +kernel
theorem d_X_pattern_0 : decode mt_X_pattern.2.1 0 = .ok (.aload_n 0, 1) := by decide +kernel
theorem d_X_pattern_1 : decode mt_X_pattern.2.1 1 = .ok (.getfield 10, 3) := by decide +kernel
theorem d_X_pattern_4 : decode mt_X_pattern.2.1 4 = .ok (.iload_n 1, 1) := by decide +kernel
theorem d_X_pattern_5 : decode mt_X_pattern.2.1 5 = .ok (.invokevirtual 61, 3) := by decide +kernel
theorem d_X_pattern_8 : decode mt_X_pattern.2.1 8 = .ok (.ifCond .ne (13), 3) := by decide +kernel
theorem d_X_pattern_11 : decode mt_X_pattern.2.1 11 = .ok (.new 41, 3) := by decide +kernel
theorem d_X_pattern_14 : decode mt_X_pattern.2.1 14 = .ok (.dup, 1) := by decide +kernel
theorem d_X_pattern_15 : decode mt_X_pattern.2.1 15 = .ok (.ldc 65, 2) := by decide +kernel
theorem d_X_pattern_17 : decode mt_X_pattern.2.1 17 = .ok (.invokespecial 45, 3) := by decide +kernel
theorem d_X_pattern_20 : decode mt_X_pattern.2.1 20 = .ok (.athrow, 1) := by decide +kernel
theorem d_X_pattern_21 : decode mt_X_pattern.2.1 21 = .ok (.aload_n 0, 1) := by decide +kernel
theorem d_X_pattern_22 : decode mt_X_pattern.2.1 22 = .ok (.getfield 10, 3) := by decide +kernel
theorem d_X_pattern_25 : decode mt_X_pattern.2.1 25 = .ok (.getfield 67, 3) := by decide +kernel
theorem d_X_pattern_28 : decode mt_X_pattern.2.1 28 = .ok (.iload_n 1, 1) := by decide +kernel
theorem d_X_pattern_29 : decode mt_X_pattern.2.1 29 = .ok (.aaload, 1) := by decide +kernel
theorem d_X_pattern_30 : decode mt_X_pattern.2.1 30 = .ok (.astore_n 3, 1) := by decide +kernel
theorem d_X_pattern_31 : decode mt_X_pattern.2.1 31 = .ok (.iload_n 2, 1) := by decide +kernel
theorem d_X_pattern_32 : decode mt_X_pattern.2.1 32 = .ok (.invokestatic 71, 3) := by decide +kernel
theorem d_X_pattern_35 : decode mt_X_pattern.2.1 35 = .ok (.ifCond .eq (14), 3) := by decide +kernel
theorem d_X_pattern_38 : decode mt_X_pattern.2.1 38 = .ok (.iload_n 2, 1) := by decide +kernel
theorem d_X_pattern_39 : decode mt_X_pattern.2.1 39 = .ok (.invokestatic 74, 3) := by decide +kernel
theorem d_X_pattern_42 : decode mt_X_pattern.2.1 42 = .ok (.aload_n 3, 1) := by decide +kernel
theorem d_X_pattern_43 : decode mt_X_pattern.2.1 43 = .ok (.getfield 78, 3) := by decide +kernel
theorem d_X_pattern_46 : decode mt_X_pattern.2.1 46 = .ok (.if_icmp .le (13), 3) := by decide +kernel
theorem d_X_pattern_49 : decode mt_X_pattern.2.1 49 = .ok (.new 41, 3) := by decide +kernel
theorem d_X_pattern_52 : decode mt_X_pattern.2.1 52 = .ok (.dup, 1) := by decide +kernel
theorem d_X_pattern_53 : decode mt_X_pattern.2.1 53 = .ok (.ldc 83, 2) := by decide +kernel
theorem d_X_pattern_55 : decode mt_X_pattern.2.1 55 = .ok (.invokespecial 45, 3) := by decide +kernel
theorem d_X_pattern_58 : decode mt_X_pattern.2.1 58 = .ok (.athrow, 1) := by decide +kernel
theorem d_X_pattern_59 : decode mt_X_pattern.2.1 59 = .ok (.aload_n 3, 1) := by decide +kernel
theorem d_X_pattern_60 : decode mt_X_pattern.2.1 60 = .ok (.getfield 85, 3) := by decide +kernel
theorem d_X_pattern_63 : decode mt_X_pattern.2.1 63 = .ok (.iconst 4, 1) := by decide +kernel
theorem d_X_pattern_64 : decode mt_X_pattern.2.1 64 = .ok (.if_icmp .lt (13), 3) := by decide +kernel
theorem d_X_pattern_67 : decode mt_X_pattern.2.1 67 = .ok (.new 52, 3) := by decide +kernel
theorem d_X_pattern_70 : decode mt_X_pattern.2.1 70 = .ok (.dup, 1) := by decide +kernel
theorem d_X_pattern_71 : decode mt_X_pattern.2.1 71 = .ok (.ldc 88, 2) := by decide +kernel
theorem d_X_pattern_73 : decode mt_X_pattern.2.1 73 = .ok (.invokespecial 56, 3) := by decide +kernel
theorem d_X_pattern_76 : decode mt_X_pattern.2.1 76 = .ok (.athrow, 1) := by decide +kernel
theorem d_X_pattern_77 : decode mt_X_pattern.2.1 77 = .ok (.aload_n 0, 1) := by decide +kernel
theorem d_X_pattern_78 : decode mt_X_pattern.2.1 78 = .ok (.iconst 0, 1) := by decide +kernel
theorem d_X_pattern_79 : decode mt_X_pattern.2.1 79 = .ok (.putfield 25, 3) := by decide +kernel
theorem d_X_pattern_82 : decode mt_X_pattern.2.1 82 = .ok (.aload_n 3, 1) := by decide +kernel
theorem d_X_pattern_83 : decode mt_X_pattern.2.1 83 = .ok (.iload_n 2, 1) := by decide +kernel
theorem d_X_pattern_84 : decode mt_X_pattern.2.1 84 = .ok (.invokevirtual 90, 3) := by decide +kernel
theorem d_X_pattern_87 : decode mt_X_pattern.2.1 87 = .ok (.ireturn, 1) := by decide +kernel
theorem d_X_box_0 : decode mt_X_box.2.1 0 = .ok (.iload_n 1, 1) := by decide +kernel
theorem d_X_box_1 : decode mt_X_box.2.1 1 = .ok (.i2l, 1) := by decide +kernel
theorem d_X_box_2 : decode mt_X_box.2.1 2 = .ok (.lconst 1, 1) := by decide +kernel
theorem d_X_box_3 : decode mt_X_box.2.1 3 = .ok (.ldc2_w 93, 3) := by decide +kernel
theorem d_X_box_6 : decode mt_X_box.2.1 6 = .ok (.invokestatic 31, 3) := by decide +kernel
theorem d_X_box_9 : decode mt_X_box.2.1 9 = .ok (.ifCond .eq (52), 3) := by decide +kernel
theorem d_X_box_12 : decode mt_X_box.2.1 12 = .ok (.lload_n 2, 1) := by decide +kernel
theorem d_X_box_13 : decode mt_X_box.2.1 13 = .ok (.lconst 0, 1) := by decide +kernel
theorem d_X_box_14 : decode mt_X_box.2.1 14 = .ok (.ldc2_w 35, 3) := by decide +kernel
theorem d_X_box_17 : decode mt_X_box.2.1 17 = .ok (.invokestatic 31, 3) := by decide +kernel
theorem d_X_box_20 : decode mt_X_box.2.1 20 = .ok (.ifCond .eq (41), 3) := by decide +kernel
theorem d_X_box_23 : decode mt_X_box.2.1 23 = .ok (.iload 4, 2) := by decide +kernel
theorem d_X_box_25 : decode mt_X_box.2.1 25 = .ok (.i2l, 1) := by decide +kernel
theorem d_X_box_26 : decode mt_X_box.2.1 26 = .ok (.lconst 1, 1) := by decide +kernel
theorem d_X_box_27 : decode mt_X_box.2.1 27 = .ok (.ldc2_w 39, 3) := by decide +kernel
theorem d_X_box_30 : decode mt_X_box.2.1 30 = .ok (.invokestatic 31, 3) := by decide +kernel
theorem d_X_box_33 : decode mt_X_box.2.1 33 = .ok (.ifCond .eq (28), 3) := by decide +kernel
theorem d_X_box_36 : decode mt_X_box.2.1 36 = .ok (.iload 5, 2) := by decide +kernel
theorem d_X_box_38 : decode mt_X_box.2.1 38 = .ok (.i2l, 1) := by decide +kernel
theorem d_X_box_39 : decode mt_X_box.2.1 39 = .ok (.lconst 0, 1) := by decide +kernel
theorem d_X_box_40 : decode mt_X_box.2.1 40 = .ok (.ldc2_w 93, 3) := by decide +kernel
theorem d_X_box_43 : decode mt_X_box.2.1 43 = .ok (.invokestatic 31, 3) := by decide +kernel
theorem d_X_box_46 : decode mt_X_box.2.1 46 = .ok (.ifCond .eq (15), 3) := by decide +kernel
theorem d_X_box_49 : decode mt_X_box.2.1 49 = .ok (.lload 6, 2) := by decide +kernel
theorem d_X_box_51 : decode mt_X_box.2.1 51 = .ok (.lconst 0, 1) := by decide +kernel
theorem d_X_box_52 : decode mt_X_box.2.1 52 = .ok (.ldc2_w 95, 3) := by decide +kernel
theorem d_X_box_55 : decode mt_X_box.2.1 55 = .ok (.invokestatic 31, 3) := by decide +kernel
theorem d_X_box_58 : decode mt_X_box.2.1 58 = .ok (.ifCond .ne (13), 3) := by decide +kernel
theorem d_X_box_61 : decode mt_X_box.2.1 61 = .ok (.new 41, 3) := by decide +kernel
theorem d_X_box_64 : decode mt_X_box.2.1 64 = .ok (.dup, 1) := by decide +kernel
theorem d_X_box_65 : decode mt_X_box.2.1 65 = .ok (.ldc 97, 2) := by decide +kernel
theorem d_X_box_67 : decode mt_X_box.2.1 67 = .ok (.invokespecial 45, 3) := by decide +kernel
theorem d_X_box_70 : decode mt_X_box.2.1 70 = .ok (.athrow, 1) := by decide +kernel
theorem d_X_box_71 : decode mt_X_box.2.1 71 = .ok (.aload_n 0, 1) := by decide +kernel
theorem d_X_box_72 : decode mt_X_box.2.1 72 = .ok (.getfield 10, 3) := by decide +kernel
theorem d_X_box_75 : decode mt_X_box.2.1 75 = .ok (.getfield 99, 3) := by decide +kernel
theorem d_X_box_78 : decode mt_X_box.2.1 78 = .ok (.bipush (8), 2) := by decide +kernel
theorem d_X_box_80 : decode mt_X_box.2.1 80 = .ok (.if_icmp .lt (13), 3) := by decide +kernel
theorem d_X_box_83 : decode mt_X_box.2.1 83 = .ok (.new 52, 3) := by decide +kernel
theorem d_X_box_86 : decode mt_X_box.2.1 86 = .ok (.dup, 1) := by decide +kernel
theorem d_X_box_87 : decode mt_X_box.2.1 87 = .ok (.ldc 102, 2) := by decide +kernel
theorem d_X_box_89 : decode mt_X_box.2.1 89 = .ok (.invokespecial 56, 3) := by decide +kernel
theorem d_X_box_92 : decode mt_X_box.2.1 92 = .ok (.athrow, 1) := by decide +kernel
theorem d_X_box_93 : decode mt_X_box.2.1 93 = .ok (.aload_n 0, 1) := by decide +kernel
theorem d_X_box_94 : decode mt_X_box.2.1 94 = .ok (.iconst 0, 1) := by decide +kernel
theorem d_X_box_95 : decode mt_X_box.2.1 95 = .ok (.putfield 25, 3) := by decide +kernel
theorem d_X_box_98 : decode mt_X_box.2.1 98 = .ok (.aload_n 0, 1) := by decide +kernel
theorem d_X_box_99 : decode mt_X_box.2.1 99 = .ok (.getfield 10, 3) := by decide +kernel
theorem d_X_box_102 : decode mt_X_box.2.1 102 = .ok (.iload_n 1, 1) := by decide +kernel
theorem d_X_box_103 : decode mt_X_box.2.1 103 = .ok (.lload_n 2, 1) := by decide +kernel
theorem d_X_box_104 : decode mt_X_box.2.1 104 = .ok (.iload 4, 2) := by decide +kernel
theorem d_X_box_106 : decode mt_X_box.2.1 106 = .ok (.iload 5, 2) := by decide +kernel
theorem d_X_box_108 : decode mt_X_box.2.1 108 = .ok (.lload 6, 2) := by decide +kernel
theorem d_X_box_110 : decode mt_X_box.2.1 110 = .ok (.invokevirtual 104, 3) := by decide +kernel
theorem d_X_box_113 : decode mt_X_box.2.1 113 = .ok (.ireturn, 1) := by decide +kernel
theorem d_X_rule_0 : decode mt_X_rule.2.1 0 = .ok (.iload_n 1, 1) := by decide +kernel
theorem d_X_rule_1 : decode mt_X_rule.2.1 1 = .ok (.i2l, 1) := by decide +kernel
theorem d_X_rule_2 : decode mt_X_rule.2.1 2 = .ok (.lconst 1, 1) := by decide +kernel
theorem d_X_rule_3 : decode mt_X_rule.2.1 3 = .ok (.ldc2_w 93, 3) := by decide +kernel
theorem d_X_rule_6 : decode mt_X_rule.2.1 6 = .ok (.invokestatic 31, 3) := by decide +kernel
theorem d_X_rule_9 : decode mt_X_rule.2.1 9 = .ok (.ifCond .eq (27), 3) := by decide +kernel
theorem d_X_rule_12 : decode mt_X_rule.2.1 12 = .ok (.iload_n 2, 1) := by decide +kernel
theorem d_X_rule_13 : decode mt_X_rule.2.1 13 = .ok (.i2l, 1) := by decide +kernel
theorem d_X_rule_14 : decode mt_X_rule.2.1 14 = .ok (.lconst 1, 1) := by decide +kernel
theorem d_X_rule_15 : decode mt_X_rule.2.1 15 = .ok (.ldc2_w 93, 3) := by decide +kernel
theorem d_X_rule_18 : decode mt_X_rule.2.1 18 = .ok (.invokestatic 31, 3) := by decide +kernel
theorem d_X_rule_21 : decode mt_X_rule.2.1 21 = .ok (.ifCond .eq (15), 3) := by decide +kernel
theorem d_X_rule_24 : decode mt_X_rule.2.1 24 = .ok (.iload_n 3, 1) := by decide +kernel
theorem d_X_rule_25 : decode mt_X_rule.2.1 25 = .ok (.i2l, 1) := by decide +kernel
theorem d_X_rule_26 : decode mt_X_rule.2.1 26 = .ok (.lconst 0, 1) := by decide +kernel
theorem d_X_rule_27 : decode mt_X_rule.2.1 27 = .ok (.ldc2_w 108, 3) := by decide +kernel
theorem d_X_rule_30 : decode mt_X_rule.2.1 30 = .ok (.invokestatic 31, 3) := by decide +kernel
theorem d_X_rule_33 : decode mt_X_rule.2.1 33 = .ok (.ifCond .ne (5), 3) := by decide +kernel
theorem d_X_rule_36 : decode mt_X_rule.2.1 36 = .ok (.iconst 0, 1) := by decide +kernel
theorem d_X_rule_37 : decode mt_X_rule.2.1 37 = .ok (.ireturn, 1) := by decide +kernel
theorem d_X_rule_38 : decode mt_X_rule.2.1 38 = .ok (.aload_n 0, 1) := by decide +kernel
theorem d_X_rule_39 : decode mt_X_rule.2.1 39 = .ok (.iconst 0, 1) := by decide +kernel
theorem d_X_rule_40 : decode mt_X_rule.2.1 40 = .ok (.putfield 25, 3) := by decide +kernel
theorem d_X_rule_43 : decode mt_X_rule.2.1 43 = .ok (.aload_n 0, 1) := by decide +kernel
theorem d_X_rule_44 : decode mt_X_rule.2.1 44 = .ok (.getfield 10, 3) := by decide +kernel
theorem d_X_rule_47 : decode mt_X_rule.2.1 47 = .ok (.getfield 110, 3) := by decide +kernel
theorem d_X_rule_50 : decode mt_X_rule.2.1 50 = .ok (.iload_n 1, 1) := by decide +kernel
theorem d_X_rule_51 : decode mt_X_rule.2.1 51 = .ok (.aaload, 1) := by decide +kernel
theorem d_X_rule_52 : decode mt_X_rule.2.1 52 = .ok (.iload_n 2, 1) := by decide +kernel
theorem d_X_rule_53 : decode mt_X_rule.2.1 53 = .ok (.iload_n 3, 1) := by decide +kernel
theorem d_X_rule_54 : decode mt_X_rule.2.1 54 = .ok (.iastore, 1) := by decide +kernel
theorem d_X_rule_55 : decode mt_X_rule.2.1 55 = .ok (.aload_n 0, 1) := by decide +kernel
theorem d_X_rule_56 : decode mt_X_rule.2.1 56 = .ok (.getfield 10, 3) := by decide +kernel
theorem d_X_rule_59 : decode mt_X_rule.2.1 59 = .ok (.getfield 110, 3) := by decide +kernel
theorem d_X_rule_62 : decode mt_X_rule.2.1 62 = .ok (.iload_n 2, 1) := by decide +kernel
theorem d_X_rule_63 : decode mt_X_rule.2.1 63 = .ok (.aaload, 1) := by decide +kernel
theorem d_X_rule_64 : decode mt_X_rule.2.1 64 = .ok (.iload_n 1, 1) := by decide +kernel
theorem d_X_rule_65 : decode mt_X_rule.2.1 65 = .ok (.iload_n 3, 1) := by decide +kernel
theorem d_X_rule_66 : decode mt_X_rule.2.1 66 = .ok (.iastore, 1) := by decide +kernel
theorem d_X_rule_67 : decode mt_X_rule.2.1 67 = .ok (.iconst 1, 1) := by decide +kernel
theorem d_X_rule_68 : decode mt_X_rule.2.1 68 = .ok (.ireturn, 1) := by decide +kernel
theorem d_X_cut_0 : decode mt_X_cut.2.1 0 = .ok (.lload_n 1, 1) := by decide +kernel
theorem d_X_cut_1 : decode mt_X_cut.2.1 1 = .ok (.lconst 0, 1) := by decide +kernel
theorem d_X_cut_2 : decode mt_X_cut.2.1 2 = .ok (.ldc2_w 95, 3) := by decide +kernel
theorem d_X_cut_5 : decode mt_X_cut.2.1 5 = .ok (.invokestatic 31, 3) := by decide +kernel
theorem d_X_cut_8 : decode mt_X_cut.2.1 8 = .ok (.ifCond .ne (5), 3) := by decide +kernel
theorem d_X_cut_11 : decode mt_X_cut.2.1 11 = .ok (.iconst 0, 1) := by decide +kernel
theorem d_X_cut_12 : decode mt_X_cut.2.1 12 = .ok (.ireturn, 1) := by decide +kernel
theorem d_X_cut_13 : decode mt_X_cut.2.1 13 = .ok (.aload_n 0, 1) := by decide +kernel
theorem d_X_cut_14 : decode mt_X_cut.2.1 14 = .ok (.iconst 0, 1) := by decide +kernel
theorem d_X_cut_15 : decode mt_X_cut.2.1 15 = .ok (.putfield 25, 3) := by decide +kernel
theorem d_X_cut_18 : decode mt_X_cut.2.1 18 = .ok (.aload_n 0, 1) := by decide +kernel
theorem d_X_cut_19 : decode mt_X_cut.2.1 19 = .ok (.getfield 10, 3) := by decide +kernel
theorem d_X_cut_22 : decode mt_X_cut.2.1 22 = .ok (.lload_n 1, 1) := by decide +kernel
theorem d_X_cut_23 : decode mt_X_cut.2.1 23 = .ok (.putfield 114, 3) := by decide +kernel
theorem d_X_cut_26 : decode mt_X_cut.2.1 26 = .ok (.iconst 1, 1) := by decide +kernel
theorem d_X_cut_27 : decode mt_X_cut.2.1 27 = .ok (.ireturn, 1) := by decide +kernel
theorem d_X_out_0 : decode mt_X_out.2.1 0 = .ok (.aload_n 0, 1) := by decide +kernel
theorem d_X_out_1 : decode mt_X_out.2.1 1 = .ok (.getfield 10, 3) := by decide +kernel
theorem d_X_out_4 : decode mt_X_out.2.1 4 = .ok (.iload_n 1, 1) := by decide +kernel
theorem d_X_out_5 : decode mt_X_out.2.1 5 = .ok (.invokevirtual 61, 3) := by decide +kernel
theorem d_X_out_8 : decode mt_X_out.2.1 8 = .ok (.ifCond .eq (19), 3) := by decide +kernel
theorem d_X_out_11 : decode mt_X_out.2.1 11 = .ok (.aload_n 0, 1) := by decide +kernel
theorem d_X_out_12 : decode mt_X_out.2.1 12 = .ok (.getfield 10, 3) := by decide +kernel
theorem d_X_out_15 : decode mt_X_out.2.1 15 = .ok (.getfield 67, 3) := by decide +kernel
theorem d_X_out_18 : decode mt_X_out.2.1 18 = .ok (.iload_n 1, 1) := by decide +kernel
theorem d_X_out_19 : decode mt_X_out.2.1 19 = .ok (.aaload, 1) := by decide +kernel
theorem d_X_out_20 : decode mt_X_out.2.1 20 = .ok (.getfield 118, 3) := by decide +kernel
theorem d_X_out_23 : decode mt_X_out.2.1 23 = .ok (.iload_n 2, 1) := by decide +kernel
theorem d_X_out_24 : decode mt_X_out.2.1 24 = .ok (.if_icmp .ne (5), 3) := by decide +kernel
theorem d_X_out_27 : decode mt_X_out.2.1 27 = .ok (.iconst 0, 1) := by decide +kernel
theorem d_X_out_28 : decode mt_X_out.2.1 28 = .ok (.ireturn, 1) := by decide +kernel
theorem d_X_out_29 : decode mt_X_out.2.1 29 = .ok (.aload_n 0, 1) := by decide +kernel
theorem d_X_out_30 : decode mt_X_out.2.1 30 = .ok (.iconst 0, 1) := by decide +kernel
theorem d_X_out_31 : decode mt_X_out.2.1 31 = .ok (.putfield 25, 3) := by decide +kernel
theorem d_X_out_34 : decode mt_X_out.2.1 34 = .ok (.aload_n 0, 1) := by decide +kernel
theorem d_X_out_35 : decode mt_X_out.2.1 35 = .ok (.getfield 10, 3) := by decide +kernel
theorem d_X_out_38 : decode mt_X_out.2.1 38 = .ok (.getfield 67, 3) := by decide +kernel
theorem d_X_out_41 : decode mt_X_out.2.1 41 = .ok (.iload_n 1, 1) := by decide +kernel
theorem d_X_out_42 : decode mt_X_out.2.1 42 = .ok (.aaload, 1) := by decide +kernel
theorem d_X_out_43 : decode mt_X_out.2.1 43 = .ok (.iload_n 2, 1) := by decide +kernel
theorem d_X_out_44 : decode mt_X_out.2.1 44 = .ok (.putfield 118, 3) := by decide +kernel
theorem d_X_out_47 : decode mt_X_out.2.1 47 = .ok (.iconst 1, 1) := by decide +kernel
theorem d_X_out_48 : decode mt_X_out.2.1 48 = .ok (.ireturn, 1) := by decide +kernel
theorem d_X_plan_0 : decode mt_X_plan.2.1 0 = .ok (.aload_n 0, 1) := by decide +kernel
theorem d_X_plan_1 : decode mt_X_plan.2.1 1 = .ok (.getfield 25, 3) := by decide +kernel
theorem d_X_plan_4 : decode mt_X_plan.2.1 4 = .ok (.ifCond .ne (15), 3) := by decide +kernel
theorem d_X_plan_7 : decode mt_X_plan.2.1 7 = .ok (.aload_n 0, 1) := by decide +kernel
theorem d_X_plan_8 : decode mt_X_plan.2.1 8 = .ok (.getfield 21, 3) := by decide +kernel
theorem d_X_plan_11 : decode mt_X_plan.2.1 11 = .ok (.invokevirtual 121, 3) := by decide +kernel
theorem d_X_plan_14 : decode mt_X_plan.2.1 14 = .ok (.aload_n 0, 1) := by decide +kernel
theorem d_X_plan_15 : decode mt_X_plan.2.1 15 = .ok (.iconst 1, 1) := by decide +kernel
theorem d_X_plan_16 : decode mt_X_plan.2.1 16 = .ok (.putfield 25, 3) := by decide +kernel
theorem d_X_plan_19 : decode mt_X_plan.2.1 19 = .ok (.aload_n 0, 1) := by decide +kernel
theorem d_X_plan_20 : decode mt_X_plan.2.1 20 = .ok (.getfield 21, 3) := by decide +kernel
theorem d_X_plan_23 : decode mt_X_plan.2.1 23 = .ok (.invokevirtual 124, 3) := by decide +kernel
theorem d_X_plan_26 : decode mt_X_plan.2.1 26 = .ok (.ireturn, 1) := by decide +kernel
theorem d_X_at_0 : decode mt_X_at.2.1 0 = .ok (.aload_n 0, 1) := by decide +kernel
theorem d_X_at_1 : decode mt_X_at.2.1 1 = .ok (.getfield 10, 3) := by decide +kernel
theorem d_X_at_4 : decode mt_X_at.2.1 4 = .ok (.iload_n 1, 1) := by decide +kernel
theorem d_X_at_5 : decode mt_X_at.2.1 5 = .ok (.invokevirtual 128, 3) := by decide +kernel
theorem d_X_at_8 : decode mt_X_at.2.1 8 = .ok (.ifCond .eq (13), 3) := by decide +kernel
theorem d_X_at_11 : decode mt_X_at.2.1 11 = .ok (.iload_n 2, 1) := by decide +kernel
theorem d_X_at_12 : decode mt_X_at.2.1 12 = .ok (.i2l, 1) := by decide +kernel
theorem d_X_at_13 : decode mt_X_at.2.1 13 = .ok (.lconst 0, 1) := by decide +kernel
theorem d_X_at_14 : decode mt_X_at.2.1 14 = .ok (.lconst 1, 1) := by decide +kernel
theorem d_X_at_15 : decode mt_X_at.2.1 15 = .ok (.invokestatic 31, 3) := by decide +kernel
theorem d_X_at_18 : decode mt_X_at.2.1 18 = .ok (.ifCond .ne (13), 3) := by decide +kernel
theorem d_X_at_21 : decode mt_X_at.2.1 21 = .ok (.new 131, 3) := by decide +kernel
theorem d_X_at_24 : decode mt_X_at.2.1 24 = .ok (.dup, 1) := by decide +kernel
theorem d_X_at_25 : decode mt_X_at.2.1 25 = .ok (.ldc 133, 2) := by decide +kernel
theorem d_X_at_27 : decode mt_X_at.2.1 27 = .ok (.invokespecial 135, 3) := by decide +kernel
theorem d_X_at_30 : decode mt_X_at.2.1 30 = .ok (.athrow, 1) := by decide +kernel
theorem d_X_at_31 : decode mt_X_at.2.1 31 = .ok (.aload_n 0, 1) := by decide +kernel
theorem d_X_at_32 : decode mt_X_at.2.1 32 = .ok (.invokevirtual 136, 3) := by decide +kernel
theorem d_X_at_35 : decode mt_X_at.2.1 35 = .ok (.iload_n 2, 1) := by decide +kernel
theorem d_X_at_36 : decode mt_X_at.2.1 36 = .ok (.ifCond .ne (14), 3) := by decide +kernel
theorem d_X_at_39 : decode mt_X_at.2.1 39 = .ok (.aload_n 0, 1) := by decide +kernel
theorem d_X_at_40 : decode mt_X_at.2.1 40 = .ok (.getfield 21, 3) := by decide +kernel
theorem d_X_at_43 : decode mt_X_at.2.1 43 = .ok (.iload_n 1, 1) := by decide +kernel
theorem d_X_at_44 : decode mt_X_at.2.1 44 = .ok (.invokevirtual 139, 3) := by decide +kernel
theorem d_X_at_47 : decode mt_X_at.2.1 47 = .ok (.goto (11), 3) := by decide +kernel
theorem d_X_at_50 : decode mt_X_at.2.1 50 = .ok (.aload_n 0, 1) := by decide +kernel
theorem d_X_at_51 : decode mt_X_at.2.1 51 = .ok (.getfield 21, 3) := by decide +kernel
theorem d_X_at_54 : decode mt_X_at.2.1 54 = .ok (.iload_n 1, 1) := by decide +kernel
theorem d_X_at_55 : decode mt_X_at.2.1 55 = .ok (.invokevirtual 142, 3) := by decide +kernel
theorem d_X_at_58 : decode mt_X_at.2.1 58 = .ok (.ireturn, 1) := by decide +kernel
theorem d_X_load_0 : decode mt_X_load.2.1 0 = .ok (.aload_n 0, 1) := by decide +kernel
theorem d_X_load_1 : decode mt_X_load.2.1 1 = .ok (.getfield 10, 3) := by decide +kernel
theorem d_X_load_4 : decode mt_X_load.2.1 4 = .ok (.iload_n 1, 1) := by decide +kernel
theorem d_X_load_5 : decode mt_X_load.2.1 5 = .ok (.invokevirtual 61, 3) := by decide +kernel
theorem d_X_load_8 : decode mt_X_load.2.1 8 = .ok (.ifCond .eq (15), 3) := by decide +kernel
theorem d_X_load_11 : decode mt_X_load.2.1 11 = .ok (.iload_n 2, 1) := by decide +kernel
