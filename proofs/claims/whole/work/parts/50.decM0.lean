/-! DECODE ROWS. Printed by wip/make.py. -/
theorem d_M_init_0 : decode mt_M_init.2.1 0 = .ok (.aload_n 0, 1) := by decide +kernel
theorem d_M_init_1 : decode mt_M_init.2.1 1 = .ok (.invokespecial 1, 3) := by decide +kernel
theorem d_M_init_4 : decode mt_M_init.2.1 4 = .ok (.aload_n 0, 1) := by decide +kernel
theorem d_M_init_5 : decode mt_M_init.2.1 5 = .ok (.iconst 3, 1) := by decide +kernel
theorem d_M_init_6 : decode mt_M_init.2.1 6 = .ok (.newarray .int, 2) := by decide +kernel
theorem d_M_init_8 : decode mt_M_init.2.1 8 = .ok (.putfield 7, 3) := by decide +kernel
theorem d_M_init_11 : decode mt_M_init.2.1 11 = .ok (.aload_n 0, 1) := by decide +kernel
theorem d_M_init_12 : decode mt_M_init.2.1 12 = .ok (.iconst 3, 1) := by decide +kernel
theorem d_M_init_13 : decode mt_M_init.2.1 13 = .ok (.newarray .long, 2) := by decide +kernel
theorem d_M_init_15 : decode mt_M_init.2.1 15 = .ok (.putfield 13, 3) := by decide +kernel
theorem d_M_init_18 : decode mt_M_init.2.1 18 = .ok (.aload_n 0, 1) := by decide +kernel
theorem d_M_init_19 : decode mt_M_init.2.1 19 = .ok (.iconst 3, 1) := by decide +kernel
theorem d_M_init_20 : decode mt_M_init.2.1 20 = .ok (.newarray .int, 2) := by decide +kernel
theorem d_M_init_22 : decode mt_M_init.2.1 22 = .ok (.putfield 17, 3) := by decide +kernel
theorem d_M_init_25 : decode mt_M_init.2.1 25 = .ok (.aload_n 0, 1) := by decide +kernel
theorem d_M_init_26 : decode mt_M_init.2.1 26 = .ok (.iconst 3, 1) := by decide +kernel
theorem d_M_init_27 : decode mt_M_init.2.1 27 = .ok (.newarray .int, 2) := by decide +kernel
theorem d_M_init_29 : decode mt_M_init.2.1 29 = .ok (.putfield 20, 3) := by decide +kernel
theorem d_M_init_32 : decode mt_M_init.2.1 32 = .ok (.aload_n 0, 1) := by decide +kernel
theorem d_M_init_33 : decode mt_M_init.2.1 33 = .ok (.iconst 3, 1) := by decide +kernel
theorem d_M_init_34 : decode mt_M_init.2.1 34 = .ok (.newarray .boolean, 2) := by decide +kernel
theorem d_M_init_36 : decode mt_M_init.2.1 36 = .ok (.putfield 23, 3) := by decide +kernel
theorem d_M_init_39 : decode mt_M_init.2.1 39 = .ok (.aload_n 0, 1) := by decide +kernel
theorem d_M_init_40 : decode mt_M_init.2.1 40 = .ok (.iconst 3, 1) := by decide +kernel
theorem d_M_init_41 : decode mt_M_init.2.1 41 = .ok (.newarray .int, 2) := by decide +kernel
theorem d_M_init_43 : decode mt_M_init.2.1 43 = .ok (.putfield 27, 3) := by decide +kernel
theorem d_M_init_46 : decode mt_M_init.2.1 46 = .ok (.aload_n 0, 1) := by decide +kernel
theorem d_M_init_47 : decode mt_M_init.2.1 47 = .ok (.bipush (12), 2) := by decide +kernel
theorem d_M_init_49 : decode mt_M_init.2.1 49 = .ok (.newarray .int, 2) := by decide +kernel
theorem d_M_init_51 : decode mt_M_init.2.1 51 = .ok (.putfield 30, 3) := by decide +kernel
theorem d_M_init_54 : decode mt_M_init.2.1 54 = .ok (.aload_n 0, 1) := by decide +kernel
theorem d_M_init_55 : decode mt_M_init.2.1 55 = .ok (.bipush (8), 2) := by decide +kernel
theorem d_M_init_57 : decode mt_M_init.2.1 57 = .ok (.newarray .int, 2) := by decide +kernel
theorem d_M_init_59 : decode mt_M_init.2.1 59 = .ok (.putfield 33, 3) := by decide +kernel
theorem d_M_init_62 : decode mt_M_init.2.1 62 = .ok (.aload_n 0, 1) := by decide +kernel
theorem d_M_init_63 : decode mt_M_init.2.1 63 = .ok (.bipush (8), 2) := by decide +kernel
theorem d_M_init_65 : decode mt_M_init.2.1 65 = .ok (.newarray .long, 2) := by decide +kernel
theorem d_M_init_67 : decode mt_M_init.2.1 67 = .ok (.putfield 36, 3) := by decide +kernel
theorem d_M_init_70 : decode mt_M_init.2.1 70 = .ok (.aload_n 0, 1) := by decide +kernel
theorem d_M_init_71 : decode mt_M_init.2.1 71 = .ok (.bipush (8), 2) := by decide +kernel
theorem d_M_init_73 : decode mt_M_init.2.1 73 = .ok (.newarray .int, 2) := by decide +kernel
theorem d_M_init_75 : decode mt_M_init.2.1 75 = .ok (.putfield 39, 3) := by decide +kernel
theorem d_M_init_78 : decode mt_M_init.2.1 78 = .ok (.aload_n 0, 1) := by decide +kernel
theorem d_M_init_79 : decode mt_M_init.2.1 79 = .ok (.bipush (8), 2) := by decide +kernel
theorem d_M_init_81 : decode mt_M_init.2.1 81 = .ok (.newarray .int, 2) := by decide +kernel
theorem d_M_init_83 : decode mt_M_init.2.1 83 = .ok (.putfield 42, 3) := by decide +kernel
theorem d_M_init_86 : decode mt_M_init.2.1 86 = .ok (.aload_n 0, 1) := by decide +kernel
theorem d_M_init_87 : decode mt_M_init.2.1 87 = .ok (.bipush (8), 2) := by decide +kernel
theorem d_M_init_89 : decode mt_M_init.2.1 89 = .ok (.newarray .long, 2) := by decide +kernel
theorem d_M_init_91 : decode mt_M_init.2.1 91 = .ok (.putfield 45, 3) := by decide +kernel
theorem d_M_init_94 : decode mt_M_init.2.1 94 = .ok (.aload_n 0, 1) := by decide +kernel
theorem d_M_init_95 : decode mt_M_init.2.1 95 = .ok (.bipush (16), 2) := by decide +kernel
theorem d_M_init_97 : decode mt_M_init.2.1 97 = .ok (.newarray .int, 2) := by decide +kernel
theorem d_M_init_99 : decode mt_M_init.2.1 99 = .ok (.putfield 48, 3) := by decide +kernel
theorem d_M_init_102 : decode mt_M_init.2.1 102 = .ok (.aload_n 0, 1) := by decide +kernel
theorem d_M_init_103 : decode mt_M_init.2.1 103 = .ok (.ldc2_w 51, 3) := by decide +kernel
theorem d_M_init_106 : decode mt_M_init.2.1 106 = .ok (.putfield 53, 3) := by decide +kernel
theorem d_M_init_109 : decode mt_M_init.2.1 109 = .ok (.aload_n 0, 1) := by decide +kernel
theorem d_M_init_110 : decode mt_M_init.2.1 110 = .ok (.bipush (8), 2) := by decide +kernel
theorem d_M_init_112 : decode mt_M_init.2.1 112 = .ok (.newarray .int, 2) := by decide +kernel
theorem d_M_init_114 : decode mt_M_init.2.1 114 = .ok (.putfield 57, 3) := by decide +kernel
theorem d_M_init_117 : decode mt_M_init.2.1 117 = .ok (.aload_n 0, 1) := by decide +kernel
theorem d_M_init_118 : decode mt_M_init.2.1 118 = .ok (.bipush (8), 2) := by decide +kernel
theorem d_M_init_120 : decode mt_M_init.2.1 120 = .ok (.newarray .int, 2) := by decide +kernel
theorem d_M_init_122 : decode mt_M_init.2.1 122 = .ok (.putfield 60, 3) := by decide +kernel
theorem d_M_init_125 : decode mt_M_init.2.1 125 = .ok (.return_, 1) := by decide +kernel
theorem d_M_thrown_0 : decode mt_M_thrown.2.1 0 = .ok (.aload_n 0, 1) := by decide +kernel
theorem d_M_thrown_1 : decode mt_M_thrown.2.1 1 = .ok (.getfield 63, 3) := by decide +kernel
theorem d_M_thrown_4 : decode mt_M_thrown.2.1 4 = .ok (.ireturn, 1) := by decide +kernel
theorem d_M_in_0 : decode mt_M_in.2.1 0 = .ok (.lload_n 0, 1) := by decide +kernel
theorem d_M_in_1 : decode mt_M_in.2.1 1 = .ok (.lload_n 2, 1) := by decide +kernel
theorem d_M_in_2 : decode mt_M_in.2.1 2 = .ok (.lcmp, 1) := by decide +kernel
theorem d_M_in_3 : decode mt_M_in.2.1 3 = .ok (.ifCond .lt (14), 3) := by decide +kernel
theorem d_M_in_6 : decode mt_M_in.2.1 6 = .ok (.lload_n 0, 1) := by decide +kernel
theorem d_M_in_7 : decode mt_M_in.2.1 7 = .ok (.lload 4, 2) := by decide +kernel
theorem d_M_in_9 : decode mt_M_in.2.1 9 = .ok (.lcmp, 1) := by decide +kernel
theorem d_M_in_10 : decode mt_M_in.2.1 10 = .ok (.ifCond .gt (7), 3) := by decide +kernel
theorem d_M_in_13 : decode mt_M_in.2.1 13 = .ok (.iconst 1, 1) := by decide +kernel
theorem d_M_in_14 : decode mt_M_in.2.1 14 = .ok (.goto (4), 3) := by decide +kernel
theorem d_M_in_17 : decode mt_M_in.2.1 17 = .ok (.iconst 0, 1) := by decide +kernel
theorem d_M_in_18 : decode mt_M_in.2.1 18 = .ok (.ireturn, 1) := by decide +kernel
theorem d_M_lengthOf_0 : decode mt_M_lengthOf.2.1 0 = .ok (.iload_n 0, 1) := by decide +kernel
theorem d_M_lengthOf_1 : decode mt_M_lengthOf.2.1 1 = .ok (.iconst 1, 1) := by decide +kernel
theorem d_M_lengthOf_2 : decode mt_M_lengthOf.2.1 2 = .ok (.if_icmp .ne (7), 3) := by decide +kernel
theorem d_M_lengthOf_5 : decode mt_M_lengthOf.2.1 5 = .ok (.iconst 4, 1) := by decide +kernel
theorem d_M_lengthOf_6 : decode mt_M_lengthOf.2.1 6 = .ok (.goto (15), 3) := by decide +kernel
theorem d_M_lengthOf_9 : decode mt_M_lengthOf.2.1 9 = .ok (.iload_n 0, 1) := by decide +kernel
theorem d_M_lengthOf_10 : decode mt_M_lengthOf.2.1 10 = .ok (.iconst 2, 1) := by decide +kernel
theorem d_M_lengthOf_11 : decode mt_M_lengthOf.2.1 11 = .ok (.if_icmp .ne (8), 3) := by decide +kernel
theorem d_M_lengthOf_14 : decode mt_M_lengthOf.2.1 14 = .ok (.bipush (8), 2) := by decide +kernel
theorem d_M_lengthOf_16 : decode mt_M_lengthOf.2.1 16 = .ok (.goto (5), 3) := by decide +kernel
theorem d_M_lengthOf_19 : decode mt_M_lengthOf.2.1 19 = .ok (.bipush (9), 2) := by decide +kernel
theorem d_M_lengthOf_21 : decode mt_M_lengthOf.2.1 21 = .ok (.ireturn, 1) := by decide +kernel
theorem d_M_isWagon_0 : decode mt_M_isWagon.2.1 0 = .ok (.iload_n 1, 1) := by decide +kernel
theorem d_M_isWagon_1 : decode mt_M_isWagon.2.1 1 = .ok (.ifCond .lt (15), 3) := by decide +kernel
theorem d_M_isWagon_4 : decode mt_M_isWagon.2.1 4 = .ok (.iload_n 1, 1) := by decide +kernel
theorem d_M_isWagon_5 : decode mt_M_isWagon.2.1 5 = .ok (.aload_n 0, 1) := by decide +kernel
theorem d_M_isWagon_6 : decode mt_M_isWagon.2.1 6 = .ok (.getfield 67, 3) := by decide +kernel
theorem d_M_isWagon_9 : decode mt_M_isWagon.2.1 9 = .ok (.if_icmp .ge (7), 3) := by decide +kernel
theorem d_M_isWagon_12 : decode mt_M_isWagon.2.1 12 = .ok (.iconst 1, 1) := by decide +kernel
theorem d_M_isWagon_13 : decode mt_M_isWagon.2.1 13 = .ok (.goto (4), 3) := by decide +kernel
theorem d_M_isWagon_16 : decode mt_M_isWagon.2.1 16 = .ok (.iconst 0, 1) := by decide +kernel
theorem d_M_isWagon_17 : decode mt_M_isWagon.2.1 17 = .ok (.ireturn, 1) := by decide +kernel
theorem d_M_isBox_0 : decode mt_M_isBox.2.1 0 = .ok (.iload_n 1, 1) := by decide +kernel
theorem d_M_isBox_1 : decode mt_M_isBox.2.1 1 = .ok (.ifCond .lt (15), 3) := by decide +kernel
theorem d_M_isBox_4 : decode mt_M_isBox.2.1 4 = .ok (.iload_n 1, 1) := by decide +kernel
theorem d_M_isBox_5 : decode mt_M_isBox.2.1 5 = .ok (.aload_n 0, 1) := by decide +kernel
theorem d_M_isBox_6 : decode mt_M_isBox.2.1 6 = .ok (.getfield 70, 3) := by decide +kernel
theorem d_M_isBox_9 : decode mt_M_isBox.2.1 9 = .ok (.if_icmp .ge (7), 3) := by decide +kernel
theorem d_M_isBox_12 : decode mt_M_isBox.2.1 12 = .ok (.iconst 1, 1) := by decide +kernel
theorem d_M_isBox_13 : decode mt_M_isBox.2.1 13 = .ok (.goto (4), 3) := by decide +kernel
theorem d_M_isBox_16 : decode mt_M_isBox.2.1 16 = .ok (.iconst 0, 1) := by decide +kernel
theorem d_M_isBox_17 : decode mt_M_isBox.2.1 17 = .ok (.ireturn, 1) := by decide +kernel
theorem d_M_wagon_0 : decode mt_M_wagon.2.1 0 = .ok (.aload_n 0, 1) := by decide +kernel
theorem d_M_wagon_1 : decode mt_M_wagon.2.1 1 = .ok (.iload_n 1, 1) := by decide +kernel
theorem d_M_wagon_2 : decode mt_M_wagon.2.1 2 = .ok (.i2l, 1) := by decide +kernel
theorem d_M_wagon_3 : decode mt_M_wagon.2.1 3 = .ok (.lconst 1, 1) := by decide +kernel
theorem d_M_wagon_4 : decode mt_M_wagon.2.1 4 = .ok (.ldc2_w 73, 3) := by decide +kernel
theorem d_M_wagon_7 : decode mt_M_wagon.2.1 7 = .ok (.invokestatic 75, 3) := by decide +kernel
theorem d_M_wagon_10 : decode mt_M_wagon.2.1 10 = .ok (.ifCond .eq (40), 3) := by decide +kernel
theorem d_M_wagon_13 : decode mt_M_wagon.2.1 13 = .ok (.lload_n 2, 1) := by decide +kernel
theorem d_M_wagon_14 : decode mt_M_wagon.2.1 14 = .ok (.lconst 0, 1) := by decide +kernel
theorem d_M_wagon_15 : decode mt_M_wagon.2.1 15 = .ok (.ldc2_w 79, 3) := by decide +kernel
theorem d_M_wagon_18 : decode mt_M_wagon.2.1 18 = .ok (.invokestatic 75, 3) := by decide +kernel
theorem d_M_wagon_21 : decode mt_M_wagon.2.1 21 = .ok (.ifCond .eq (29), 3) := by decide +kernel
theorem d_M_wagon_24 : decode mt_M_wagon.2.1 24 = .ok (.iload 4, 2) := by decide +kernel
theorem d_M_wagon_26 : decode mt_M_wagon.2.1 26 = .ok (.i2l, 1) := by decide +kernel
theorem d_M_wagon_27 : decode mt_M_wagon.2.1 27 = .ok (.lconst 0, 1) := by decide +kernel
theorem d_M_wagon_28 : decode mt_M_wagon.2.1 28 = .ok (.ldc2_w 81, 3) := by decide +kernel
theorem d_M_wagon_31 : decode mt_M_wagon.2.1 31 = .ok (.invokestatic 75, 3) := by decide +kernel
theorem d_M_wagon_34 : decode mt_M_wagon.2.1 34 = .ok (.ifCond .eq (16), 3) := by decide +kernel
theorem d_M_wagon_37 : decode mt_M_wagon.2.1 37 = .ok (.iload 5, 2) := by decide +kernel
theorem d_M_wagon_39 : decode mt_M_wagon.2.1 39 = .ok (.i2l, 1) := by decide +kernel
theorem d_M_wagon_40 : decode mt_M_wagon.2.1 40 = .ok (.lconst 1, 1) := by decide +kernel
theorem d_M_wagon_41 : decode mt_M_wagon.2.1 41 = .ok (.ldc2_w 83, 3) := by decide +kernel
theorem d_M_wagon_44 : decode mt_M_wagon.2.1 44 = .ok (.invokestatic 75, 3) := by decide +kernel
theorem d_M_wagon_47 : decode mt_M_wagon.2.1 47 = .ok (.ifCond .ne (7), 3) := by decide +kernel
theorem d_M_wagon_50 : decode mt_M_wagon.2.1 50 = .ok (.iconst 1, 1) := by decide +kernel
theorem d_M_wagon_51 : decode mt_M_wagon.2.1 51 = .ok (.goto (16), 3) := by decide +kernel
theorem d_M_wagon_54 : decode mt_M_wagon.2.1 54 = .ok (.aload_n 0, 1) := by decide +kernel
theorem d_M_wagon_55 : decode mt_M_wagon.2.1 55 = .ok (.getfield 67, 3) := by decide +kernel
theorem d_M_wagon_58 : decode mt_M_wagon.2.1 58 = .ok (.iconst 3, 1) := by decide +kernel
theorem d_M_wagon_59 : decode mt_M_wagon.2.1 59 = .ok (.if_icmp .ne (7), 3) := by decide +kernel
theorem d_M_wagon_62 : decode mt_M_wagon.2.1 62 = .ok (.iconst 2, 1) := by decide +kernel
theorem d_M_wagon_63 : decode mt_M_wagon.2.1 63 = .ok (.goto (4), 3) := by decide +kernel
theorem d_M_wagon_66 : decode mt_M_wagon.2.1 66 = .ok (.iconst 0, 1) := by decide +kernel
theorem d_M_wagon_67 : decode mt_M_wagon.2.1 67 = .ok (.putfield 63, 3) := by decide +kernel
theorem d_M_wagon_70 : decode mt_M_wagon.2.1 70 = .ok (.aload_n 0, 1) := by decide +kernel
theorem d_M_wagon_71 : decode mt_M_wagon.2.1 71 = .ok (.getfield 63, 3) := by decide +kernel
theorem d_M_wagon_74 : decode mt_M_wagon.2.1 74 = .ok (.ifCond .le (5), 3) := by decide +kernel
theorem d_M_wagon_77 : decode mt_M_wagon.2.1 77 = .ok (.iconst 0, 1) := by decide +kernel
theorem d_M_wagon_78 : decode mt_M_wagon.2.1 78 = .ok (.ireturn, 1) := by decide +kernel
theorem d_M_wagon_79 : decode mt_M_wagon.2.1 79 = .ok (.aload_n 0, 1) := by decide +kernel
theorem d_M_wagon_80 : decode mt_M_wagon.2.1 80 = .ok (.getfield 7, 3) := by decide +kernel
theorem d_M_wagon_83 : decode mt_M_wagon.2.1 83 = .ok (.aload_n 0, 1) := by decide +kernel
theorem d_M_wagon_84 : decode mt_M_wagon.2.1 84 = .ok (.getfield 67, 3) := by decide +kernel
theorem d_M_wagon_87 : decode mt_M_wagon.2.1 87 = .ok (.iload_n 1, 1) := by decide +kernel
theorem d_M_wagon_88 : decode mt_M_wagon.2.1 88 = .ok (.iastore, 1) := by decide +kernel
theorem d_M_wagon_89 : decode mt_M_wagon.2.1 89 = .ok (.aload_n 0, 1) := by decide +kernel
theorem d_M_wagon_90 : decode mt_M_wagon.2.1 90 = .ok (.getfield 13, 3) := by decide +kernel
theorem d_M_wagon_93 : decode mt_M_wagon.2.1 93 = .ok (.aload_n 0, 1) := by decide +kernel
theorem d_M_wagon_94 : decode mt_M_wagon.2.1 94 = .ok (.getfield 67, 3) := by decide +kernel
theorem d_M_wagon_97 : decode mt_M_wagon.2.1 97 = .ok (.lload_n 2, 1) := by decide +kernel
theorem d_M_wagon_98 : decode mt_M_wagon.2.1 98 = .ok (.lastore, 1) := by decide +kernel
theorem d_M_wagon_99 : decode mt_M_wagon.2.1 99 = .ok (.aload_n 0, 1) := by decide +kernel
theorem d_M_wagon_100 : decode mt_M_wagon.2.1 100 = .ok (.getfield 17, 3) := by decide +kernel
theorem d_M_wagon_103 : decode mt_M_wagon.2.1 103 = .ok (.aload_n 0, 1) := by decide +kernel
theorem d_M_wagon_104 : decode mt_M_wagon.2.1 104 = .ok (.getfield 67, 3) := by decide +kernel
theorem d_M_wagon_107 : decode mt_M_wagon.2.1 107 = .ok (.iload 4, 2) := by decide +kernel
theorem d_M_wagon_109 : decode mt_M_wagon.2.1 109 = .ok (.iastore, 1) := by decide +kernel
theorem d_M_wagon_110 : decode mt_M_wagon.2.1 110 = .ok (.aload_n 0, 1) := by decide +kernel
theorem d_M_wagon_111 : decode mt_M_wagon.2.1 111 = .ok (.getfield 20, 3) := by decide +kernel
theorem d_M_wagon_114 : decode mt_M_wagon.2.1 114 = .ok (.aload_n 0, 1) := by decide +kernel
theorem d_M_wagon_115 : decode mt_M_wagon.2.1 115 = .ok (.getfield 67, 3) := by decide +kernel
theorem d_M_wagon_118 : decode mt_M_wagon.2.1 118 = .ok (.iload 5, 2) := by decide +kernel
theorem d_M_wagon_120 : decode mt_M_wagon.2.1 120 = .ok (.iastore, 1) := by decide +kernel
theorem d_M_wagon_121 : decode mt_M_wagon.2.1 121 = .ok (.aload_n 0, 1) := by decide +kernel
theorem d_M_wagon_122 : decode mt_M_wagon.2.1 122 = .ok (.dup, 1) := by decide +kernel
theorem d_M_wagon_123 : decode mt_M_wagon.2.1 123 = .ok (.getfield 67, 3) := by decide +kernel
theorem d_M_wagon_126 : decode mt_M_wagon.2.1 126 = .ok (.iconst 1, 1) := by decide +kernel
theorem d_M_wagon_127 : decode mt_M_wagon.2.1 127 = .ok (.iadd, 1) := by decide +kernel
theorem d_M_wagon_128 : decode mt_M_wagon.2.1 128 = .ok (.putfield 67, 3) := by decide +kernel
theorem d_M_wagon_131 : decode mt_M_wagon.2.1 131 = .ok (.aload_n 0, 1) := by decide +kernel
theorem d_M_wagon_132 : decode mt_M_wagon.2.1 132 = .ok (.iconst 0, 1) := by decide +kernel
theorem d_M_wagon_133 : decode mt_M_wagon.2.1 133 = .ok (.putfield 85, 3) := by decide +kernel
theorem d_M_wagon_136 : decode mt_M_wagon.2.1 136 = .ok (.aload_n 0, 1) := by decide +kernel
theorem d_M_wagon_137 : decode mt_M_wagon.2.1 137 = .ok (.getfield 67, 3) := by decide +kernel
theorem d_M_wagon_140 : decode mt_M_wagon.2.1 140 = .ok (.iconst 1, 1) := by decide +kernel
theorem d_M_wagon_141 : decode mt_M_wagon.2.1 141 = .ok (.isub, 1) := by decide +kernel
theorem d_M_wagon_142 : decode mt_M_wagon.2.1 142 = .ok (.ireturn, 1) := by decide +kernel
theorem d_M_pattern_0 : decode mt_M_pattern.2.1 0 = .ok (.aload_n 0, 1) := by decide +kernel
theorem d_M_pattern_1 : decode mt_M_pattern.2.1 1 = .ok (.iload_n 1, 1) := by decide +kernel
theorem d_M_pattern_2 : decode mt_M_pattern.2.1 2 = .ok (.invokevirtual 89, 3) := by decide +kernel
theorem d_M_pattern_5 : decode mt_M_pattern.2.1 5 = .ok (.ifCond .eq (19), 3) := by decide +kernel
theorem d_M_pattern_8 : decode mt_M_pattern.2.1 8 = .ok (.iload_n 2, 1) := by decide +kernel
theorem d_M_pattern_9 : decode mt_M_pattern.2.1 9 = .ok (.i2l, 1) := by decide +kernel
theorem d_M_pattern_10 : decode mt_M_pattern.2.1 10 = .ok (.lconst 1, 1) := by decide +kernel
theorem d_M_pattern_11 : decode mt_M_pattern.2.1 11 = .ok (.ldc2_w 93, 3) := by decide +kernel
theorem d_M_pattern_14 : decode mt_M_pattern.2.1 14 = .ok (.invokestatic 75, 3) := by decide +kernel
theorem d_M_pattern_17 : decode mt_M_pattern.2.1 17 = .ok (.ifCond .eq (7), 3) := by decide +kernel
theorem d_M_pattern_20 : decode mt_M_pattern.2.1 20 = .ok (.iconst 1, 1) := by decide +kernel
theorem d_M_pattern_21 : decode mt_M_pattern.2.1 21 = .ok (.goto (4), 3) := by decide +kernel
theorem d_M_pattern_24 : decode mt_M_pattern.2.1 24 = .ok (.iconst 0, 1) := by decide +kernel
theorem d_M_pattern_25 : decode mt_M_pattern.2.1 25 = .ok (.istore_n 3, 1) := by decide +kernel
theorem d_M_pattern_26 : decode mt_M_pattern.2.1 26 = .ok (.iconst 0, 1) := by decide +kernel
theorem d_M_pattern_27 : decode mt_M_pattern.2.1 27 = .ok (.istore 4, 2) := by decide +kernel
theorem d_M_pattern_29 : decode mt_M_pattern.2.1 29 = .ok (.iload_n 2, 1) := by decide +kernel
theorem d_M_pattern_30 : decode mt_M_pattern.2.1 30 = .ok (.istore 5, 2) := by decide +kernel
theorem d_M_pattern_32 : decode mt_M_pattern.2.1 32 = .ok (.iload 5, 2) := by decide +kernel
theorem d_M_pattern_34 : decode mt_M_pattern.2.1 34 = .ok (.ifCond .le (44), 3) := by decide +kernel
theorem d_M_pattern_37 : decode mt_M_pattern.2.1 37 = .ok (.iload_n 3, 1) := by decide +kernel
theorem d_M_pattern_38 : decode mt_M_pattern.2.1 38 = .ok (.ifCond .eq (40), 3) := by decide +kernel
theorem d_M_pattern_41 : decode mt_M_pattern.2.1 41 = .ok (.iload 5, 2) := by decide +kernel
theorem d_M_pattern_43 : decode mt_M_pattern.2.1 43 = .ok (.bipush (10), 2) := by decide +kernel
theorem d_M_pattern_45 : decode mt_M_pattern.2.1 45 = .ok (.irem, 1) := by decide +kernel
theorem d_M_pattern_46 : decode mt_M_pattern.2.1 46 = .ok (.i2l, 1) := by decide +kernel
theorem d_M_pattern_47 : decode mt_M_pattern.2.1 47 = .ok (.lconst 1, 1) := by decide +kernel
theorem d_M_pattern_48 : decode mt_M_pattern.2.1 48 = .ok (.ldc2_w 95, 3) := by decide +kernel
theorem d_M_pattern_51 : decode mt_M_pattern.2.1 51 = .ok (.invokestatic 75, 3) := by decide +kernel
theorem d_M_pattern_54 : decode mt_M_pattern.2.1 54 = .ok (.istore_n 3, 1) := by decide +kernel
theorem d_M_pattern_55 : decode mt_M_pattern.2.1 55 = .ok (.iload 4, 2) := by decide +kernel
theorem d_M_pattern_57 : decode mt_M_pattern.2.1 57 = .ok (.iload 5, 2) := by decide +kernel
theorem d_M_pattern_59 : decode mt_M_pattern.2.1 59 = .ok (.bipush (10), 2) := by decide +kernel
theorem d_M_pattern_61 : decode mt_M_pattern.2.1 61 = .ok (.irem, 1) := by decide +kernel
theorem d_M_pattern_62 : decode mt_M_pattern.2.1 62 = .ok (.invokestatic 97, 3) := by decide +kernel
theorem d_M_pattern_65 : decode mt_M_pattern.2.1 65 = .ok (.iadd, 1) := by decide +kernel
theorem d_M_pattern_66 : decode mt_M_pattern.2.1 66 = .ok (.istore 4, 2) := by decide +kernel
theorem d_M_pattern_68 : decode mt_M_pattern.2.1 68 = .ok (.iload 5, 2) := by decide +kernel
theorem d_M_pattern_70 : decode mt_M_pattern.2.1 70 = .ok (.bipush (10), 2) := by decide +kernel
theorem d_M_pattern_72 : decode mt_M_pattern.2.1 72 = .ok (.idiv, 1) := by decide +kernel
theorem d_M_pattern_73 : decode mt_M_pattern.2.1 73 = .ok (.istore 5, 2) := by decide +kernel
theorem d_M_pattern_75 : decode mt_M_pattern.2.1 75 = .ok (.goto (-43), 3) := by decide +kernel
theorem d_M_pattern_78 : decode mt_M_pattern.2.1 78 = .ok (.iload_n 3, 1) := by decide +kernel
theorem d_M_pattern_79 : decode mt_M_pattern.2.1 79 = .ok (.ifCond .eq (18), 3) := by decide +kernel
theorem d_M_pattern_82 : decode mt_M_pattern.2.1 82 = .ok (.iload 4, 2) := by decide +kernel
theorem d_M_pattern_84 : decode mt_M_pattern.2.1 84 = .ok (.aload_n 0, 1) := by decide +kernel
theorem d_M_pattern_85 : decode mt_M_pattern.2.1 85 = .ok (.getfield 7, 3) := by decide +kernel
theorem d_M_pattern_88 : decode mt_M_pattern.2.1 88 = .ok (.iload_n 1, 1) := by decide +kernel
theorem d_M_pattern_89 : decode mt_M_pattern.2.1 89 = .ok (.iaload, 1) := by decide +kernel
theorem d_M_pattern_90 : decode mt_M_pattern.2.1 90 = .ok (.if_icmp .gt (7), 3) := by decide +kernel
theorem d_M_pattern_93 : decode mt_M_pattern.2.1 93 = .ok (.iconst 1, 1) := by decide +kernel
theorem d_M_pattern_94 : decode mt_M_pattern.2.1 94 = .ok (.goto (4), 3) := by decide +kernel
theorem d_M_pattern_97 : decode mt_M_pattern.2.1 97 = .ok (.iconst 0, 1) := by decide +kernel
theorem d_M_pattern_98 : decode mt_M_pattern.2.1 98 = .ok (.istore_n 3, 1) := by decide +kernel
theorem d_M_pattern_99 : decode mt_M_pattern.2.1 99 = .ok (.aload_n 0, 1) := by decide +kernel
theorem d_M_pattern_100 : decode mt_M_pattern.2.1 100 = .ok (.iload_n 3, 1) := by decide +kernel
theorem d_M_pattern_101 : decode mt_M_pattern.2.1 101 = .ok (.ifCond .ne (7), 3) := by decide +kernel
theorem d_M_pattern_104 : decode mt_M_pattern.2.1 104 = .ok (.iconst 1, 1) := by decide +kernel
theorem d_M_pattern_105 : decode mt_M_pattern.2.1 105 = .ok (.goto (18), 3) := by decide +kernel
theorem d_M_pattern_108 : decode mt_M_pattern.2.1 108 = .ok (.aload_n 0, 1) := by decide +kernel
theorem d_M_pattern_109 : decode mt_M_pattern.2.1 109 = .ok (.getfield 27, 3) := by decide +kernel
theorem d_M_pattern_112 : decode mt_M_pattern.2.1 112 = .ok (.iload_n 1, 1) := by decide +kernel
theorem d_M_pattern_113 : decode mt_M_pattern.2.1 113 = .ok (.iaload, 1) := by decide +kernel
theorem d_M_pattern_114 : decode mt_M_pattern.2.1 114 = .ok (.iconst 4, 1) := by decide +kernel
theorem d_M_pattern_115 : decode mt_M_pattern.2.1 115 = .ok (.if_icmp .ne (7), 3) := by decide +kernel
theorem d_M_pattern_118 : decode mt_M_pattern.2.1 118 = .ok (.iconst 2, 1) := by decide +kernel
theorem d_M_pattern_119 : decode mt_M_pattern.2.1 119 = .ok (.goto (4), 3) := by decide +kernel
theorem d_M_pattern_122 : decode mt_M_pattern.2.1 122 = .ok (.iconst 0, 1) := by decide +kernel
theorem d_M_pattern_123 : decode mt_M_pattern.2.1 123 = .ok (.putfield 63, 3) := by decide +kernel
theorem d_M_pattern_126 : decode mt_M_pattern.2.1 126 = .ok (.aload_n 0, 1) := by decide +kernel
theorem d_M_pattern_127 : decode mt_M_pattern.2.1 127 = .ok (.getfield 63, 3) := by decide +kernel
theorem d_M_pattern_130 : decode mt_M_pattern.2.1 130 = .ok (.ifCond .le (5), 3) := by decide +kernel
theorem d_M_pattern_133 : decode mt_M_pattern.2.1 133 = .ok (.iconst 0, 1) := by decide +kernel
theorem d_M_pattern_134 : decode mt_M_pattern.2.1 134 = .ok (.ireturn, 1) := by decide +kernel
theorem d_M_pattern_135 : decode mt_M_pattern.2.1 135 = .ok (.aload_n 0, 1) := by decide +kernel
theorem d_M_pattern_136 : decode mt_M_pattern.2.1 136 = .ok (.getfield 30, 3) := by decide +kernel
theorem d_M_pattern_139 : decode mt_M_pattern.2.1 139 = .ok (.iconst 4, 1) := by decide +kernel
theorem d_M_pattern_140 : decode mt_M_pattern.2.1 140 = .ok (.iload_n 1, 1) := by decide +kernel
theorem d_M_pattern_141 : decode mt_M_pattern.2.1 141 = .ok (.imul, 1) := by decide +kernel
theorem d_M_pattern_142 : decode mt_M_pattern.2.1 142 = .ok (.aload_n 0, 1) := by decide +kernel
theorem d_M_pattern_143 : decode mt_M_pattern.2.1 143 = .ok (.getfield 27, 3) := by decide +kernel
theorem d_M_pattern_146 : decode mt_M_pattern.2.1 146 = .ok (.iload_n 1, 1) := by decide +kernel
theorem d_M_pattern_147 : decode mt_M_pattern.2.1 147 = .ok (.iaload, 1) := by decide +kernel
theorem d_M_pattern_148 : decode mt_M_pattern.2.1 148 = .ok (.iadd, 1) := by decide +kernel
theorem d_M_pattern_149 : decode mt_M_pattern.2.1 149 = .ok (.iload_n 2, 1) := by decide +kernel
theorem d_M_pattern_150 : decode mt_M_pattern.2.1 150 = .ok (.iastore, 1) := by decide +kernel
theorem d_M_pattern_151 : decode mt_M_pattern.2.1 151 = .ok (.aload_n 0, 1) := by decide +kernel
theorem d_M_pattern_152 : decode mt_M_pattern.2.1 152 = .ok (.getfield 27, 3) := by decide +kernel
theorem d_M_pattern_155 : decode mt_M_pattern.2.1 155 = .ok (.iload_n 1, 1) := by decide +kernel
theorem d_M_pattern_156 : decode mt_M_pattern.2.1 156 = .ok (.dup2, 1) := by decide +kernel
theorem d_M_pattern_157 : decode mt_M_pattern.2.1 157 = .ok (.iaload, 1) := by decide +kernel
theorem d_M_pattern_158 : decode mt_M_pattern.2.1 158 = .ok (.iconst 1, 1) := by decide +kernel
theorem d_M_pattern_159 : decode mt_M_pattern.2.1 159 = .ok (.iadd, 1) := by decide +kernel
theorem d_M_pattern_160 : decode mt_M_pattern.2.1 160 = .ok (.iastore, 1) := by decide +kernel
theorem d_M_pattern_161 : decode mt_M_pattern.2.1 161 = .ok (.aload_n 0, 1) := by decide +kernel
theorem d_M_pattern_162 : decode mt_M_pattern.2.1 162 = .ok (.iconst 0, 1) := by decide +kernel
theorem d_M_pattern_163 : decode mt_M_pattern.2.1 163 = .ok (.putfield 85, 3) := by decide +kernel
theorem d_M_pattern_166 : decode mt_M_pattern.2.1 166 = .ok (.aload_n 0, 1) := by decide +kernel
theorem d_M_pattern_167 : decode mt_M_pattern.2.1 167 = .ok (.getfield 27, 3) := by decide +kernel
theorem d_M_pattern_170 : decode mt_M_pattern.2.1 170 = .ok (.iload_n 1, 1) := by decide +kernel
theorem d_M_pattern_171 : decode mt_M_pattern.2.1 171 = .ok (.iaload, 1) := by decide +kernel
theorem d_M_pattern_172 : decode mt_M_pattern.2.1 172 = .ok (.iconst 1, 1) := by decide +kernel
theorem d_M_pattern_173 : decode mt_M_pattern.2.1 173 = .ok (.isub, 1) := by decide +kernel
theorem d_M_pattern_174 : decode mt_M_pattern.2.1 174 = .ok (.ireturn, 1) := by decide +kernel
theorem d_M_box_0 : decode mt_M_box.2.1 0 = .ok (.aload_n 0, 1) := by decide +kernel
theorem d_M_box_1 : decode mt_M_box.2.1 1 = .ok (.iload_n 1, 1) := by decide +kernel
theorem d_M_box_2 : decode mt_M_box.2.1 2 = .ok (.i2l, 1) := by decide +kernel
theorem d_M_box_3 : decode mt_M_box.2.1 3 = .ok (.lconst 1, 1) := by decide +kernel
theorem d_M_box_4 : decode mt_M_box.2.1 4 = .ok (.ldc2_w 95, 3) := by decide +kernel
theorem d_M_box_7 : decode mt_M_box.2.1 7 = .ok (.invokestatic 75, 3) := by decide +kernel
