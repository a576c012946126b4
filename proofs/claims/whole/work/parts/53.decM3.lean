/-! DECODE ROWS. Printed by wip/make.py. -/
theorem d_M_isAhead_20 : decode mt_M_isAhead.2.1 20 = .ok (.iload_n 2, 1) := by decide +kernel
theorem d_M_isAhead_21 : decode mt_M_isAhead.2.1 21 = .ok (.iaload, 1) := by decide +kernel
theorem d_M_isAhead_22 : decode mt_M_isAhead.2.1 22 = .ok (.ifCond .le (7), 3) := by decide +kernel
theorem d_M_isAhead_25 : decode mt_M_isAhead.2.1 25 = .ok (.iconst 1, 1) := by decide +kernel
theorem d_M_isAhead_26 : decode mt_M_isAhead.2.1 26 = .ok (.goto (4), 3) := by decide +kernel
theorem d_M_isAhead_29 : decode mt_M_isAhead.2.1 29 = .ok (.iconst 0, 1) := by decide +kernel
theorem d_M_isAhead_30 : decode mt_M_isAhead.2.1 30 = .ok (.aload_n 0, 1) := by decide +kernel
theorem d_M_isAhead_31 : decode mt_M_isAhead.2.1 31 = .ok (.getfield 60, 3) := by decide +kernel
theorem d_M_isAhead_34 : decode mt_M_isAhead.2.1 34 = .ok (.iload_n 2, 1) := by decide +kernel
theorem d_M_isAhead_35 : decode mt_M_isAhead.2.1 35 = .ok (.iaload, 1) := by decide +kernel
theorem d_M_isAhead_36 : decode mt_M_isAhead.2.1 36 = .ok (.ifCond .le (7), 3) := by decide +kernel
theorem d_M_isAhead_39 : decode mt_M_isAhead.2.1 39 = .ok (.iconst 1, 1) := by decide +kernel
theorem d_M_isAhead_40 : decode mt_M_isAhead.2.1 40 = .ok (.goto (4), 3) := by decide +kernel
theorem d_M_isAhead_43 : decode mt_M_isAhead.2.1 43 = .ok (.iconst 0, 1) := by decide +kernel
theorem d_M_isAhead_44 : decode mt_M_isAhead.2.1 44 = .ok (.if_icmp .eq (18), 3) := by decide +kernel
theorem d_M_isAhead_47 : decode mt_M_isAhead.2.1 47 = .ok (.aload_n 0, 1) := by decide +kernel
theorem d_M_isAhead_48 : decode mt_M_isAhead.2.1 48 = .ok (.getfield 57, 3) := by decide +kernel
theorem d_M_isAhead_51 : decode mt_M_isAhead.2.1 51 = .ok (.iload_n 2, 1) := by decide +kernel
theorem d_M_isAhead_52 : decode mt_M_isAhead.2.1 52 = .ok (.iaload, 1) := by decide +kernel
theorem d_M_isAhead_53 : decode mt_M_isAhead.2.1 53 = .ok (.ifCond .le (7), 3) := by decide +kernel
theorem d_M_isAhead_56 : decode mt_M_isAhead.2.1 56 = .ok (.iconst 1, 1) := by decide +kernel
theorem d_M_isAhead_57 : decode mt_M_isAhead.2.1 57 = .ok (.goto (4), 3) := by decide +kernel
theorem d_M_isAhead_60 : decode mt_M_isAhead.2.1 60 = .ok (.iconst 0, 1) := by decide +kernel
theorem d_M_isAhead_61 : decode mt_M_isAhead.2.1 61 = .ok (.ireturn, 1) := by decide +kernel
theorem d_M_isAhead_62 : decode mt_M_isAhead.2.1 62 = .ok (.iinc 1 (1), 3) := by decide +kernel
theorem d_M_isAhead_65 : decode mt_M_isAhead.2.1 65 = .ok (.goto (-63), 3) := by decide +kernel
theorem d_M_isAhead_68 : decode mt_M_isAhead.2.1 68 = .ok (.iconst 0, 1) := by decide +kernel
theorem d_M_isAhead_69 : decode mt_M_isAhead.2.1 69 = .ok (.istore_n 1, 1) := by decide +kernel
theorem d_M_isAhead_70 : decode mt_M_isAhead.2.1 70 = .ok (.iload_n 1, 1) := by decide +kernel
theorem d_M_isAhead_71 : decode mt_M_isAhead.2.1 71 = .ok (.aload_n 0, 1) := by decide +kernel
theorem d_M_isAhead_72 : decode mt_M_isAhead.2.1 72 = .ok (.getfield 70, 3) := by decide +kernel
theorem d_M_isAhead_75 : decode mt_M_isAhead.2.1 75 = .ok (.if_icmp .ge (45), 3) := by decide +kernel
theorem d_M_isAhead_78 : decode mt_M_isAhead.2.1 78 = .ok (.aload_n 0, 1) := by decide +kernel
theorem d_M_isAhead_79 : decode mt_M_isAhead.2.1 79 = .ok (.getfield 57, 3) := by decide +kernel
theorem d_M_isAhead_82 : decode mt_M_isAhead.2.1 82 = .ok (.iload_n 1, 1) := by decide +kernel
theorem d_M_isAhead_83 : decode mt_M_isAhead.2.1 83 = .ok (.iaload, 1) := by decide +kernel
theorem d_M_isAhead_84 : decode mt_M_isAhead.2.1 84 = .ok (.aload_n 0, 1) := by decide +kernel
theorem d_M_isAhead_85 : decode mt_M_isAhead.2.1 85 = .ok (.getfield 60, 3) := by decide +kernel
theorem d_M_isAhead_88 : decode mt_M_isAhead.2.1 88 = .ok (.iload_n 1, 1) := by decide +kernel
theorem d_M_isAhead_89 : decode mt_M_isAhead.2.1 89 = .ok (.iaload, 1) := by decide +kernel
theorem d_M_isAhead_90 : decode mt_M_isAhead.2.1 90 = .ok (.if_icmp .eq (24), 3) := by decide +kernel
theorem d_M_isAhead_93 : decode mt_M_isAhead.2.1 93 = .ok (.aload_n 0, 1) := by decide +kernel
theorem d_M_isAhead_94 : decode mt_M_isAhead.2.1 94 = .ok (.getfield 57, 3) := by decide +kernel
theorem d_M_isAhead_97 : decode mt_M_isAhead.2.1 97 = .ok (.iload_n 1, 1) := by decide +kernel
theorem d_M_isAhead_98 : decode mt_M_isAhead.2.1 98 = .ok (.iaload, 1) := by decide +kernel
theorem d_M_isAhead_99 : decode mt_M_isAhead.2.1 99 = .ok (.aload_n 0, 1) := by decide +kernel
theorem d_M_isAhead_100 : decode mt_M_isAhead.2.1 100 = .ok (.getfield 60, 3) := by decide +kernel
theorem d_M_isAhead_103 : decode mt_M_isAhead.2.1 103 = .ok (.iload_n 1, 1) := by decide +kernel
theorem d_M_isAhead_104 : decode mt_M_isAhead.2.1 104 = .ok (.iaload, 1) := by decide +kernel
theorem d_M_isAhead_105 : decode mt_M_isAhead.2.1 105 = .ok (.if_icmp .ge (7), 3) := by decide +kernel
theorem d_M_isAhead_108 : decode mt_M_isAhead.2.1 108 = .ok (.iconst 1, 1) := by decide +kernel
theorem d_M_isAhead_109 : decode mt_M_isAhead.2.1 109 = .ok (.goto (4), 3) := by decide +kernel
theorem d_M_isAhead_112 : decode mt_M_isAhead.2.1 112 = .ok (.iconst 0, 1) := by decide +kernel
theorem d_M_isAhead_113 : decode mt_M_isAhead.2.1 113 = .ok (.ireturn, 1) := by decide +kernel
theorem d_M_isAhead_114 : decode mt_M_isAhead.2.1 114 = .ok (.iinc 1 (1), 3) := by decide +kernel
theorem d_M_isAhead_117 : decode mt_M_isAhead.2.1 117 = .ok (.goto (-47), 3) := by decide +kernel
theorem d_M_isAhead_120 : decode mt_M_isAhead.2.1 120 = .ok (.iconst 0, 1) := by decide +kernel
theorem d_M_isAhead_121 : decode mt_M_isAhead.2.1 121 = .ok (.ireturn, 1) := by decide +kernel
theorem d_M_plan_0 : decode mt_M_plan.2.1 0 = .ok (.aload_n 0, 1) := by decide +kernel
theorem d_M_plan_1 : decode mt_M_plan.2.1 1 = .ok (.iconst 0, 1) := by decide +kernel
theorem d_M_plan_2 : decode mt_M_plan.2.1 2 = .ok (.putfield 63, 3) := by decide +kernel
theorem d_M_plan_5 : decode mt_M_plan.2.1 5 = .ok (.iconst 1, 1) := by decide +kernel
theorem d_M_plan_6 : decode mt_M_plan.2.1 6 = .ok (.istore_n 1, 1) := by decide +kernel
theorem d_M_plan_7 : decode mt_M_plan.2.1 7 = .ok (.iconst 0, 1) := by decide +kernel
theorem d_M_plan_8 : decode mt_M_plan.2.1 8 = .ok (.istore_n 2, 1) := by decide +kernel
theorem d_M_plan_9 : decode mt_M_plan.2.1 9 = .ok (.iload_n 2, 1) := by decide +kernel
theorem d_M_plan_10 : decode mt_M_plan.2.1 10 = .ok (.aload_n 0, 1) := by decide +kernel
theorem d_M_plan_11 : decode mt_M_plan.2.1 11 = .ok (.getfield 70, 3) := by decide +kernel
theorem d_M_plan_14 : decode mt_M_plan.2.1 14 = .ok (.if_icmp .ge (25), 3) := by decide +kernel
theorem d_M_plan_17 : decode mt_M_plan.2.1 17 = .ok (.iload_n 1, 1) := by decide +kernel
theorem d_M_plan_18 : decode mt_M_plan.2.1 18 = .ok (.aload_n 0, 1) := by decide +kernel
theorem d_M_plan_19 : decode mt_M_plan.2.1 19 = .ok (.getfield 67, 3) := by decide +kernel
theorem d_M_plan_22 : decode mt_M_plan.2.1 22 = .ok (.iconst 1, 1) := by decide +kernel
theorem d_M_plan_23 : decode mt_M_plan.2.1 23 = .ok (.iadd, 1) := by decide +kernel
theorem d_M_plan_24 : decode mt_M_plan.2.1 24 = .ok (.imul, 1) := by decide +kernel
theorem d_M_plan_25 : decode mt_M_plan.2.1 25 = .ok (.istore_n 1, 1) := by decide +kernel
theorem d_M_plan_26 : decode mt_M_plan.2.1 26 = .ok (.aload_n 0, 1) := by decide +kernel
theorem d_M_plan_27 : decode mt_M_plan.2.1 27 = .ok (.getfield 60, 3) := by decide +kernel
theorem d_M_plan_30 : decode mt_M_plan.2.1 30 = .ok (.iload_n 2, 1) := by decide +kernel
theorem d_M_plan_31 : decode mt_M_plan.2.1 31 = .ok (.iconst 0, 1) := by decide +kernel
theorem d_M_plan_32 : decode mt_M_plan.2.1 32 = .ok (.iastore, 1) := by decide +kernel
theorem d_M_plan_33 : decode mt_M_plan.2.1 33 = .ok (.iinc 2 (1), 3) := by decide +kernel
theorem d_M_plan_36 : decode mt_M_plan.2.1 36 = .ok (.goto (-27), 3) := by decide +kernel
theorem d_M_plan_39 : decode mt_M_plan.2.1 39 = .ok (.aload_n 0, 1) := by decide +kernel
theorem d_M_plan_40 : decode mt_M_plan.2.1 40 = .ok (.iconst 0, 1) := by decide +kernel
theorem d_M_plan_41 : decode mt_M_plan.2.1 41 = .ok (.putfield 127, 3) := by decide +kernel
theorem d_M_plan_44 : decode mt_M_plan.2.1 44 = .ok (.iconst 0, 1) := by decide +kernel
theorem d_M_plan_45 : decode mt_M_plan.2.1 45 = .ok (.istore_n 2, 1) := by decide +kernel
theorem d_M_plan_46 : decode mt_M_plan.2.1 46 = .ok (.iload_n 2, 1) := by decide +kernel
theorem d_M_plan_47 : decode mt_M_plan.2.1 47 = .ok (.iload_n 1, 1) := by decide +kernel
theorem d_M_plan_48 : decode mt_M_plan.2.1 48 = .ok (.if_icmp .ge (132), 3) := by decide +kernel
theorem d_M_plan_51 : decode mt_M_plan.2.1 51 = .ok (.iload_n 2, 1) := by decide +kernel
theorem d_M_plan_52 : decode mt_M_plan.2.1 52 = .ok (.istore_n 3, 1) := by decide +kernel
theorem d_M_plan_53 : decode mt_M_plan.2.1 53 = .ok (.iconst 0, 1) := by decide +kernel
theorem d_M_plan_54 : decode mt_M_plan.2.1 54 = .ok (.istore 4, 2) := by decide +kernel
theorem d_M_plan_56 : decode mt_M_plan.2.1 56 = .ok (.iload 4, 2) := by decide +kernel
theorem d_M_plan_58 : decode mt_M_plan.2.1 58 = .ok (.aload_n 0, 1) := by decide +kernel
theorem d_M_plan_59 : decode mt_M_plan.2.1 59 = .ok (.getfield 70, 3) := by decide +kernel
theorem d_M_plan_62 : decode mt_M_plan.2.1 62 = .ok (.if_icmp .ge (33), 3) := by decide +kernel
theorem d_M_plan_65 : decode mt_M_plan.2.1 65 = .ok (.aload_n 0, 1) := by decide +kernel
theorem d_M_plan_66 : decode mt_M_plan.2.1 66 = .ok (.getfield 57, 3) := by decide +kernel
theorem d_M_plan_69 : decode mt_M_plan.2.1 69 = .ok (.iload 4, 2) := by decide +kernel
theorem d_M_plan_71 : decode mt_M_plan.2.1 71 = .ok (.iload_n 3, 1) := by decide +kernel
theorem d_M_plan_72 : decode mt_M_plan.2.1 72 = .ok (.aload_n 0, 1) := by decide +kernel
theorem d_M_plan_73 : decode mt_M_plan.2.1 73 = .ok (.getfield 67, 3) := by decide +kernel
theorem d_M_plan_76 : decode mt_M_plan.2.1 76 = .ok (.iconst 1, 1) := by decide +kernel
theorem d_M_plan_77 : decode mt_M_plan.2.1 77 = .ok (.iadd, 1) := by decide +kernel
theorem d_M_plan_78 : decode mt_M_plan.2.1 78 = .ok (.irem, 1) := by decide +kernel
theorem d_M_plan_79 : decode mt_M_plan.2.1 79 = .ok (.iastore, 1) := by decide +kernel
theorem d_M_plan_80 : decode mt_M_plan.2.1 80 = .ok (.iload_n 3, 1) := by decide +kernel
theorem d_M_plan_81 : decode mt_M_plan.2.1 81 = .ok (.aload_n 0, 1) := by decide +kernel
theorem d_M_plan_82 : decode mt_M_plan.2.1 82 = .ok (.getfield 67, 3) := by decide +kernel
theorem d_M_plan_85 : decode mt_M_plan.2.1 85 = .ok (.iconst 1, 1) := by decide +kernel
theorem d_M_plan_86 : decode mt_M_plan.2.1 86 = .ok (.iadd, 1) := by decide +kernel
theorem d_M_plan_87 : decode mt_M_plan.2.1 87 = .ok (.idiv, 1) := by decide +kernel
theorem d_M_plan_88 : decode mt_M_plan.2.1 88 = .ok (.istore_n 3, 1) := by decide +kernel
theorem d_M_plan_89 : decode mt_M_plan.2.1 89 = .ok (.iinc 4 (1), 3) := by decide +kernel
theorem d_M_plan_92 : decode mt_M_plan.2.1 92 = .ok (.goto (-36), 3) := by decide +kernel
theorem d_M_plan_95 : decode mt_M_plan.2.1 95 = .ok (.aload_n 0, 1) := by decide +kernel
theorem d_M_plan_96 : decode mt_M_plan.2.1 96 = .ok (.invokevirtual 130, 3) := by decide +kernel
theorem d_M_plan_99 : decode mt_M_plan.2.1 99 = .ok (.istore 4, 2) := by decide +kernel
theorem d_M_plan_101 : decode mt_M_plan.2.1 101 = .ok (.iload 4, 2) := by decide +kernel
theorem d_M_plan_103 : decode mt_M_plan.2.1 103 = .ok (.aload_n 0, 1) := by decide +kernel
theorem d_M_plan_104 : decode mt_M_plan.2.1 104 = .ok (.getfield 127, 3) := by decide +kernel
theorem d_M_plan_107 : decode mt_M_plan.2.1 107 = .ok (.if_icmp .lt (67), 3) := by decide +kernel
theorem d_M_plan_110 : decode mt_M_plan.2.1 110 = .ok (.iload 4, 2) := by decide +kernel
theorem d_M_plan_112 : decode mt_M_plan.2.1 112 = .ok (.aload_n 0, 1) := by decide +kernel
theorem d_M_plan_113 : decode mt_M_plan.2.1 113 = .ok (.getfield 127, 3) := by decide +kernel
theorem d_M_plan_116 : decode mt_M_plan.2.1 116 = .ok (.if_icmp .ne (10), 3) := by decide +kernel
theorem d_M_plan_119 : decode mt_M_plan.2.1 119 = .ok (.aload_n 0, 1) := by decide +kernel
theorem d_M_plan_120 : decode mt_M_plan.2.1 120 = .ok (.invokevirtual 134, 3) := by decide +kernel
theorem d_M_plan_123 : decode mt_M_plan.2.1 123 = .ok (.ifCond .eq (51), 3) := by decide +kernel
theorem d_M_plan_126 : decode mt_M_plan.2.1 126 = .ok (.aload_n 0, 1) := by decide +kernel
theorem d_M_plan_127 : decode mt_M_plan.2.1 127 = .ok (.invokevirtual 138, 3) := by decide +kernel
theorem d_M_plan_130 : decode mt_M_plan.2.1 130 = .ok (.ifCond .ne (6), 3) := by decide +kernel
theorem d_M_plan_133 : decode mt_M_plan.2.1 133 = .ok (.goto (41), 3) := by decide +kernel
theorem d_M_plan_136 : decode mt_M_plan.2.1 136 = .ok (.aload_n 0, 1) := by decide +kernel
theorem d_M_plan_137 : decode mt_M_plan.2.1 137 = .ok (.iload 4, 2) := by decide +kernel
theorem d_M_plan_139 : decode mt_M_plan.2.1 139 = .ok (.putfield 127, 3) := by decide +kernel
theorem d_M_plan_142 : decode mt_M_plan.2.1 142 = .ok (.iconst 0, 1) := by decide +kernel
theorem d_M_plan_143 : decode mt_M_plan.2.1 143 = .ok (.istore 5, 2) := by decide +kernel
theorem d_M_plan_145 : decode mt_M_plan.2.1 145 = .ok (.iload 5, 2) := by decide +kernel
theorem d_M_plan_147 : decode mt_M_plan.2.1 147 = .ok (.aload_n 0, 1) := by decide +kernel
theorem d_M_plan_148 : decode mt_M_plan.2.1 148 = .ok (.getfield 70, 3) := by decide +kernel
theorem d_M_plan_151 : decode mt_M_plan.2.1 151 = .ok (.if_icmp .ge (23), 3) := by decide +kernel
theorem d_M_plan_154 : decode mt_M_plan.2.1 154 = .ok (.aload_n 0, 1) := by decide +kernel
theorem d_M_plan_155 : decode mt_M_plan.2.1 155 = .ok (.getfield 60, 3) := by decide +kernel
theorem d_M_plan_158 : decode mt_M_plan.2.1 158 = .ok (.iload 5, 2) := by decide +kernel
theorem d_M_plan_160 : decode mt_M_plan.2.1 160 = .ok (.aload_n 0, 1) := by decide +kernel
theorem d_M_plan_161 : decode mt_M_plan.2.1 161 = .ok (.getfield 57, 3) := by decide +kernel
theorem d_M_plan_164 : decode mt_M_plan.2.1 164 = .ok (.iload 5, 2) := by decide +kernel
theorem d_M_plan_166 : decode mt_M_plan.2.1 166 = .ok (.iaload, 1) := by decide +kernel
theorem d_M_plan_167 : decode mt_M_plan.2.1 167 = .ok (.iastore, 1) := by decide +kernel
theorem d_M_plan_168 : decode mt_M_plan.2.1 168 = .ok (.iinc 5 (1), 3) := by decide +kernel
theorem d_M_plan_171 : decode mt_M_plan.2.1 171 = .ok (.goto (-26), 3) := by decide +kernel
theorem d_M_plan_174 : decode mt_M_plan.2.1 174 = .ok (.iinc 2 (1), 3) := by decide +kernel
theorem d_M_plan_177 : decode mt_M_plan.2.1 177 = .ok (.goto (-131), 3) := by decide +kernel
theorem d_M_plan_180 : decode mt_M_plan.2.1 180 = .ok (.aload_n 0, 1) := by decide +kernel
theorem d_M_plan_181 : decode mt_M_plan.2.1 181 = .ok (.iconst 1, 1) := by decide +kernel
theorem d_M_plan_182 : decode mt_M_plan.2.1 182 = .ok (.putfield 85, 3) := by decide +kernel
theorem d_M_plan_185 : decode mt_M_plan.2.1 185 = .ok (.aload_n 0, 1) := by decide +kernel
theorem d_M_plan_186 : decode mt_M_plan.2.1 186 = .ok (.getfield 127, 3) := by decide +kernel
theorem d_M_plan_189 : decode mt_M_plan.2.1 189 = .ok (.ireturn, 1) := by decide +kernel
theorem d_M_patternOf_0 : decode mt_M_patternOf.2.1 0 = .ok (.aload_n 0, 1) := by decide +kernel
theorem d_M_patternOf_1 : decode mt_M_patternOf.2.1 1 = .ok (.aload_n 0, 1) := by decide +kernel
theorem d_M_patternOf_2 : decode mt_M_patternOf.2.1 2 = .ok (.getfield 60, 3) := by decide +kernel
theorem d_M_patternOf_5 : decode mt_M_patternOf.2.1 5 = .ok (.iload_n 1, 1) := by decide +kernel
theorem d_M_patternOf_6 : decode mt_M_patternOf.2.1 6 = .ok (.iconst 0, 1) := by decide +kernel
theorem d_M_patternOf_7 : decode mt_M_patternOf.2.1 7 = .ok (.invokevirtual 107, 3) := by decide +kernel
theorem d_M_patternOf_10 : decode mt_M_patternOf.2.1 10 = .ok (.ifCond .ne (7), 3) := by decide +kernel
theorem d_M_patternOf_13 : decode mt_M_patternOf.2.1 13 = .ok (.iconst (-1), 1) := by decide +kernel
theorem d_M_patternOf_14 : decode mt_M_patternOf.2.1 14 = .ok (.goto (38), 3) := by decide +kernel
theorem d_M_patternOf_17 : decode mt_M_patternOf.2.1 17 = .ok (.aload_n 0, 1) := by decide +kernel
theorem d_M_patternOf_18 : decode mt_M_patternOf.2.1 18 = .ok (.iload_n 1, 1) := by decide +kernel
theorem d_M_patternOf_19 : decode mt_M_patternOf.2.1 19 = .ok (.aload_n 0, 1) := by decide +kernel
theorem d_M_patternOf_20 : decode mt_M_patternOf.2.1 20 = .ok (.aload_n 0, 1) := by decide +kernel
theorem d_M_patternOf_21 : decode mt_M_patternOf.2.1 21 = .ok (.getfield 60, 3) := by decide +kernel
theorem d_M_patternOf_24 : decode mt_M_patternOf.2.1 24 = .ok (.iload_n 1, 1) := by decide +kernel
theorem d_M_patternOf_25 : decode mt_M_patternOf.2.1 25 = .ok (.iconst 1, 1) := by decide +kernel
theorem d_M_patternOf_26 : decode mt_M_patternOf.2.1 26 = .ok (.invokevirtual 107, 3) := by decide +kernel
theorem d_M_patternOf_29 : decode mt_M_patternOf.2.1 29 = .ok (.aload_n 0, 1) := by decide +kernel
theorem d_M_patternOf_30 : decode mt_M_patternOf.2.1 30 = .ok (.aload_n 0, 1) := by decide +kernel
theorem d_M_patternOf_31 : decode mt_M_patternOf.2.1 31 = .ok (.getfield 60, 3) := by decide +kernel
theorem d_M_patternOf_34 : decode mt_M_patternOf.2.1 34 = .ok (.iload_n 1, 1) := by decide +kernel
theorem d_M_patternOf_35 : decode mt_M_patternOf.2.1 35 = .ok (.iconst 2, 1) := by decide +kernel
theorem d_M_patternOf_36 : decode mt_M_patternOf.2.1 36 = .ok (.invokevirtual 107, 3) := by decide +kernel
theorem d_M_patternOf_39 : decode mt_M_patternOf.2.1 39 = .ok (.aload_n 0, 1) := by decide +kernel
theorem d_M_patternOf_40 : decode mt_M_patternOf.2.1 40 = .ok (.aload_n 0, 1) := by decide +kernel
theorem d_M_patternOf_41 : decode mt_M_patternOf.2.1 41 = .ok (.getfield 60, 3) := by decide +kernel
theorem d_M_patternOf_44 : decode mt_M_patternOf.2.1 44 = .ok (.iload_n 1, 1) := by decide +kernel
theorem d_M_patternOf_45 : decode mt_M_patternOf.2.1 45 = .ok (.iconst 3, 1) := by decide +kernel
theorem d_M_patternOf_46 : decode mt_M_patternOf.2.1 46 = .ok (.invokevirtual 107, 3) := by decide +kernel
theorem d_M_patternOf_49 : decode mt_M_patternOf.2.1 49 = .ok (.invokevirtual 111, 3) := by decide +kernel
theorem d_M_patternOf_52 : decode mt_M_patternOf.2.1 52 = .ok (.ireturn, 1) := by decide +kernel
theorem d_M_placeIn_0 : decode mt_M_placeIn.2.1 0 = .ok (.aload_n 0, 1) := by decide +kernel
theorem d_M_placeIn_1 : decode mt_M_placeIn.2.1 1 = .ok (.getfield 60, 3) := by decide +kernel
theorem d_M_placeIn_4 : decode mt_M_placeIn.2.1 4 = .ok (.iload_n 1, 1) := by decide +kernel
theorem d_M_placeIn_5 : decode mt_M_placeIn.2.1 5 = .ok (.iaload, 1) := by decide +kernel
theorem d_M_placeIn_6 : decode mt_M_placeIn.2.1 6 = .ok (.iconst 1, 1) := by decide +kernel
theorem d_M_placeIn_7 : decode mt_M_placeIn.2.1 7 = .ok (.isub, 1) := by decide +kernel
theorem d_M_placeIn_8 : decode mt_M_placeIn.2.1 8 = .ok (.istore_n 2, 1) := by decide +kernel
theorem d_M_placeIn_9 : decode mt_M_placeIn.2.1 9 = .ok (.iconst 0, 1) := by decide +kernel
theorem d_M_placeIn_10 : decode mt_M_placeIn.2.1 10 = .ok (.istore_n 3, 1) := by decide +kernel
theorem d_M_placeIn_11 : decode mt_M_placeIn.2.1 11 = .ok (.iconst 0, 1) := by decide +kernel
theorem d_M_placeIn_12 : decode mt_M_placeIn.2.1 12 = .ok (.istore 4, 2) := by decide +kernel
theorem d_M_placeIn_14 : decode mt_M_placeIn.2.1 14 = .ok (.iload 4, 2) := by decide +kernel
theorem d_M_placeIn_16 : decode mt_M_placeIn.2.1 16 = .ok (.iload_n 1, 1) := by decide +kernel
theorem d_M_placeIn_17 : decode mt_M_placeIn.2.1 17 = .ok (.if_icmp .ge (49), 3) := by decide +kernel
theorem d_M_placeIn_20 : decode mt_M_placeIn.2.1 20 = .ok (.iload_n 3, 1) := by decide +kernel
theorem d_M_placeIn_21 : decode mt_M_placeIn.2.1 21 = .ok (.aload_n 0, 1) := by decide +kernel
theorem d_M_placeIn_22 : decode mt_M_placeIn.2.1 22 = .ok (.getfield 60, 3) := by decide +kernel
theorem d_M_placeIn_25 : decode mt_M_placeIn.2.1 25 = .ok (.iload 4, 2) := by decide +kernel
theorem d_M_placeIn_27 : decode mt_M_placeIn.2.1 27 = .ok (.iaload, 1) := by decide +kernel
theorem d_M_placeIn_28 : decode mt_M_placeIn.2.1 28 = .ok (.aload_n 0, 1) := by decide +kernel
theorem d_M_placeIn_29 : decode mt_M_placeIn.2.1 29 = .ok (.getfield 60, 3) := by decide +kernel
theorem d_M_placeIn_32 : decode mt_M_placeIn.2.1 32 = .ok (.iload_n 1, 1) := by decide +kernel
theorem d_M_placeIn_33 : decode mt_M_placeIn.2.1 33 = .ok (.iaload, 1) := by decide +kernel
theorem d_M_placeIn_34 : decode mt_M_placeIn.2.1 34 = .ok (.if_icmp .ne (23), 3) := by decide +kernel
theorem d_M_placeIn_37 : decode mt_M_placeIn.2.1 37 = .ok (.aload_n 0, 1) := by decide +kernel
theorem d_M_placeIn_38 : decode mt_M_placeIn.2.1 38 = .ok (.getfield 33, 3) := by decide +kernel
theorem d_M_placeIn_41 : decode mt_M_placeIn.2.1 41 = .ok (.iload 4, 2) := by decide +kernel
theorem d_M_placeIn_43 : decode mt_M_placeIn.2.1 43 = .ok (.iaload, 1) := by decide +kernel
theorem d_M_placeIn_44 : decode mt_M_placeIn.2.1 44 = .ok (.aload_n 0, 1) := by decide +kernel
theorem d_M_placeIn_45 : decode mt_M_placeIn.2.1 45 = .ok (.getfield 33, 3) := by decide +kernel
theorem d_M_placeIn_48 : decode mt_M_placeIn.2.1 48 = .ok (.iload_n 1, 1) := by decide +kernel
theorem d_M_placeIn_49 : decode mt_M_placeIn.2.1 49 = .ok (.iaload, 1) := by decide +kernel
theorem d_M_placeIn_50 : decode mt_M_placeIn.2.1 50 = .ok (.if_icmp .ne (7), 3) := by decide +kernel
theorem d_M_placeIn_53 : decode mt_M_placeIn.2.1 53 = .ok (.iconst 1, 1) := by decide +kernel
theorem d_M_placeIn_54 : decode mt_M_placeIn.2.1 54 = .ok (.goto (4), 3) := by decide +kernel
theorem d_M_placeIn_57 : decode mt_M_placeIn.2.1 57 = .ok (.iconst 0, 1) := by decide +kernel
theorem d_M_placeIn_58 : decode mt_M_placeIn.2.1 58 = .ok (.iadd, 1) := by decide +kernel
theorem d_M_placeIn_59 : decode mt_M_placeIn.2.1 59 = .ok (.istore_n 3, 1) := by decide +kernel
theorem d_M_placeIn_60 : decode mt_M_placeIn.2.1 60 = .ok (.iinc 4 (1), 3) := by decide +kernel
theorem d_M_placeIn_63 : decode mt_M_placeIn.2.1 63 = .ok (.goto (-49), 3) := by decide +kernel
theorem d_M_placeIn_66 : decode mt_M_placeIn.2.1 66 = .ok (.aload_n 0, 1) := by decide +kernel
theorem d_M_placeIn_67 : decode mt_M_placeIn.2.1 67 = .ok (.getfield 30, 3) := by decide +kernel
theorem d_M_placeIn_70 : decode mt_M_placeIn.2.1 70 = .ok (.iconst 4, 1) := by decide +kernel
theorem d_M_placeIn_71 : decode mt_M_placeIn.2.1 71 = .ok (.iload_n 2, 1) := by decide +kernel
theorem d_M_placeIn_72 : decode mt_M_placeIn.2.1 72 = .ok (.imul, 1) := by decide +kernel
theorem d_M_placeIn_73 : decode mt_M_placeIn.2.1 73 = .ok (.aload_n 0, 1) := by decide +kernel
theorem d_M_placeIn_74 : decode mt_M_placeIn.2.1 74 = .ok (.iload_n 2, 1) := by decide +kernel
theorem d_M_placeIn_75 : decode mt_M_placeIn.2.1 75 = .ok (.invokevirtual 141, 3) := by decide +kernel
theorem d_M_placeIn_78 : decode mt_M_placeIn.2.1 78 = .ok (.iadd, 1) := by decide +kernel
theorem d_M_placeIn_79 : decode mt_M_placeIn.2.1 79 = .ok (.iaload, 1) := by decide +kernel
theorem d_M_placeIn_80 : decode mt_M_placeIn.2.1 80 = .ok (.istore 4, 2) := by decide +kernel
theorem d_M_placeIn_82 : decode mt_M_placeIn.2.1 82 = .ok (.iconst 1, 1) := by decide +kernel
theorem d_M_placeIn_83 : decode mt_M_placeIn.2.1 83 = .ok (.istore 5, 2) := by decide +kernel
theorem d_M_placeIn_85 : decode mt_M_placeIn.2.1 85 = .ok (.iload 4, 2) := by decide +kernel
theorem d_M_placeIn_87 : decode mt_M_placeIn.2.1 87 = .ok (.iload 5, 2) := by decide +kernel
theorem d_M_placeIn_89 : decode mt_M_placeIn.2.1 89 = .ok (.idiv, 1) := by decide +kernel
theorem d_M_placeIn_90 : decode mt_M_placeIn.2.1 90 = .ok (.bipush (10), 2) := by decide +kernel
theorem d_M_placeIn_92 : decode mt_M_placeIn.2.1 92 = .ok (.if_icmp .lt (13), 3) := by decide +kernel
theorem d_M_placeIn_95 : decode mt_M_placeIn.2.1 95 = .ok (.iload 5, 2) := by decide +kernel
theorem d_M_placeIn_97 : decode mt_M_placeIn.2.1 97 = .ok (.bipush (10), 2) := by decide +kernel
theorem d_M_placeIn_99 : decode mt_M_placeIn.2.1 99 = .ok (.imul, 1) := by decide +kernel
theorem d_M_placeIn_100 : decode mt_M_placeIn.2.1 100 = .ok (.istore 5, 2) := by decide +kernel
theorem d_M_placeIn_102 : decode mt_M_placeIn.2.1 102 = .ok (.goto (-17), 3) := by decide +kernel
theorem d_M_placeIn_105 : decode mt_M_placeIn.2.1 105 = .ok (.iconst 0, 1) := by decide +kernel
theorem d_M_placeIn_106 : decode mt_M_placeIn.2.1 106 = .ok (.istore 6, 2) := by decide +kernel
theorem d_M_placeIn_108 : decode mt_M_placeIn.2.1 108 = .ok (.iload_n 3, 1) := by decide +kernel
theorem d_M_placeIn_109 : decode mt_M_placeIn.2.1 109 = .ok (.ifCond .gt (20), 3) := by decide +kernel
theorem d_M_placeIn_112 : decode mt_M_placeIn.2.1 112 = .ok (.iload 4, 2) := by decide +kernel
theorem d_M_placeIn_114 : decode mt_M_placeIn.2.1 114 = .ok (.iload 5, 2) := by decide +kernel
theorem d_M_placeIn_116 : decode mt_M_placeIn.2.1 116 = .ok (.idiv, 1) := by decide +kernel
theorem d_M_placeIn_117 : decode mt_M_placeIn.2.1 117 = .ok (.bipush (10), 2) := by decide +kernel
theorem d_M_placeIn_119 : decode mt_M_placeIn.2.1 119 = .ok (.irem, 1) := by decide +kernel
theorem d_M_placeIn_120 : decode mt_M_placeIn.2.1 120 = .ok (.aload_n 0, 1) := by decide +kernel
theorem d_M_placeIn_121 : decode mt_M_placeIn.2.1 121 = .ok (.getfield 33, 3) := by decide +kernel
theorem d_M_placeIn_124 : decode mt_M_placeIn.2.1 124 = .ok (.iload_n 1, 1) := by decide +kernel
theorem d_M_placeIn_125 : decode mt_M_placeIn.2.1 125 = .ok (.iaload, 1) := by decide +kernel
theorem d_M_placeIn_126 : decode mt_M_placeIn.2.1 126 = .ok (.if_icmp .eq (41), 3) := by decide +kernel
theorem d_M_placeIn_129 : decode mt_M_placeIn.2.1 129 = .ok (.iload_n 3, 1) := by decide +kernel
theorem d_M_placeIn_130 : decode mt_M_placeIn.2.1 130 = .ok (.iload 4, 2) := by decide +kernel
theorem d_M_placeIn_132 : decode mt_M_placeIn.2.1 132 = .ok (.iload 5, 2) := by decide +kernel
theorem d_M_placeIn_134 : decode mt_M_placeIn.2.1 134 = .ok (.idiv, 1) := by decide +kernel
theorem d_M_placeIn_135 : decode mt_M_placeIn.2.1 135 = .ok (.bipush (10), 2) := by decide +kernel
theorem d_M_placeIn_137 : decode mt_M_placeIn.2.1 137 = .ok (.irem, 1) := by decide +kernel
theorem d_M_placeIn_138 : decode mt_M_placeIn.2.1 138 = .ok (.aload_n 0, 1) := by decide +kernel
theorem d_M_placeIn_139 : decode mt_M_placeIn.2.1 139 = .ok (.getfield 33, 3) := by decide +kernel
theorem d_M_placeIn_142 : decode mt_M_placeIn.2.1 142 = .ok (.iload_n 1, 1) := by decide +kernel
theorem d_M_placeIn_143 : decode mt_M_placeIn.2.1 143 = .ok (.iaload, 1) := by decide +kernel
theorem d_M_placeIn_144 : decode mt_M_placeIn.2.1 144 = .ok (.if_icmp .ne (7), 3) := by decide +kernel
theorem d_M_placeIn_147 : decode mt_M_placeIn.2.1 147 = .ok (.iconst 1, 1) := by decide +kernel
theorem d_M_placeIn_148 : decode mt_M_placeIn.2.1 148 = .ok (.goto (4), 3) := by decide +kernel
theorem d_M_placeIn_151 : decode mt_M_placeIn.2.1 151 = .ok (.iconst 0, 1) := by decide +kernel
theorem d_M_placeIn_152 : decode mt_M_placeIn.2.1 152 = .ok (.isub, 1) := by decide +kernel
theorem d_M_placeIn_153 : decode mt_M_placeIn.2.1 153 = .ok (.istore_n 3, 1) := by decide +kernel
theorem d_M_placeIn_154 : decode mt_M_placeIn.2.1 154 = .ok (.iload 5, 2) := by decide +kernel
theorem d_M_placeIn_156 : decode mt_M_placeIn.2.1 156 = .ok (.bipush (10), 2) := by decide +kernel
theorem d_M_placeIn_158 : decode mt_M_placeIn.2.1 158 = .ok (.idiv, 1) := by decide +kernel
theorem d_M_placeIn_159 : decode mt_M_placeIn.2.1 159 = .ok (.istore 5, 2) := by decide +kernel
theorem d_M_placeIn_161 : decode mt_M_placeIn.2.1 161 = .ok (.iinc 6 (1), 3) := by decide +kernel
theorem d_M_placeIn_164 : decode mt_M_placeIn.2.1 164 = .ok (.goto (-56), 3) := by decide +kernel
theorem d_M_placeIn_167 : decode mt_M_placeIn.2.1 167 = .ok (.iload 6, 2) := by decide +kernel
theorem d_M_placeIn_169 : decode mt_M_placeIn.2.1 169 = .ok (.ireturn, 1) := by decide +kernel
theorem d_M_at_0 : decode mt_M_at.2.1 0 = .ok (.aload_n 0, 1) := by decide +kernel
theorem d_M_at_1 : decode mt_M_at.2.1 1 = .ok (.aload_n 0, 1) := by decide +kernel
theorem d_M_at_2 : decode mt_M_at.2.1 2 = .ok (.iload_n 1, 1) := by decide +kernel
theorem d_M_at_3 : decode mt_M_at.2.1 3 = .ok (.invokevirtual 144, 3) := by decide +kernel
theorem d_M_at_6 : decode mt_M_at.2.1 6 = .ok (.ifCond .eq (12), 3) := by decide +kernel
