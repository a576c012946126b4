/-! DECODE ROWS. Printed by wip/make.py. -/
theorem d_M_refused_67 : decode mt_M_refused.2.1 67 = .ok (.goto (4), 3) := by decide +kernel
theorem d_M_refused_70 : decode mt_M_refused.2.1 70 = .ok (.iconst 0, 1) := by decide +kernel
theorem d_M_refused_71 : decode mt_M_refused.2.1 71 = .ok (.aload_n 0, 1) := by decide +kernel
theorem d_M_refused_72 : decode mt_M_refused.2.1 72 = .ok (.getfield 33, 3) := by decide +kernel
theorem d_M_refused_75 : decode mt_M_refused.2.1 75 = .ok (.iload_n 1, 1) := by decide +kernel
theorem d_M_refused_76 : decode mt_M_refused.2.1 76 = .ok (.iaload, 1) := by decide +kernel
theorem d_M_refused_77 : decode mt_M_refused.2.1 77 = .ok (.iconst 2, 1) := by decide +kernel
theorem d_M_refused_78 : decode mt_M_refused.2.1 78 = .ok (.if_icmp .ne (7), 3) := by decide +kernel
theorem d_M_refused_81 : decode mt_M_refused.2.1 81 = .ok (.iconst 1, 1) := by decide +kernel
theorem d_M_refused_82 : decode mt_M_refused.2.1 82 = .ok (.goto (4), 3) := by decide +kernel
theorem d_M_refused_85 : decode mt_M_refused.2.1 85 = .ok (.iconst 0, 1) := by decide +kernel
theorem d_M_refused_86 : decode mt_M_refused.2.1 86 = .ok (.aload_n 0, 1) := by decide +kernel
theorem d_M_refused_87 : decode mt_M_refused.2.1 87 = .ok (.getfield 33, 3) := by decide +kernel
theorem d_M_refused_90 : decode mt_M_refused.2.1 90 = .ok (.iload_n 1, 1) := by decide +kernel
theorem d_M_refused_91 : decode mt_M_refused.2.1 91 = .ok (.iaload, 1) := by decide +kernel
theorem d_M_refused_92 : decode mt_M_refused.2.1 92 = .ok (.iconst 3, 1) := by decide +kernel
theorem d_M_refused_93 : decode mt_M_refused.2.1 93 = .ok (.if_icmp .ne (7), 3) := by decide +kernel
theorem d_M_refused_96 : decode mt_M_refused.2.1 96 = .ok (.iconst 1, 1) := by decide +kernel
theorem d_M_refused_97 : decode mt_M_refused.2.1 97 = .ok (.goto (4), 3) := by decide +kernel
theorem d_M_refused_100 : decode mt_M_refused.2.1 100 = .ok (.iconst 0, 1) := by decide +kernel
theorem d_M_refused_101 : decode mt_M_refused.2.1 101 = .ok (.invokevirtual 111, 3) := by decide +kernel
theorem d_M_refused_104 : decode mt_M_refused.2.1 104 = .ok (.ifCond .lt (7), 3) := by decide +kernel
theorem d_M_refused_107 : decode mt_M_refused.2.1 107 = .ok (.iconst 1, 1) := by decide +kernel
theorem d_M_refused_108 : decode mt_M_refused.2.1 108 = .ok (.goto (4), 3) := by decide +kernel
theorem d_M_refused_111 : decode mt_M_refused.2.1 111 = .ok (.iconst 0, 1) := by decide +kernel
theorem d_M_refused_112 : decode mt_M_refused.2.1 112 = .ok (.istore 5, 2) := by decide +kernel
theorem d_M_refused_114 : decode mt_M_refused.2.1 114 = .ok (.iload 5, 2) := by decide +kernel
theorem d_M_refused_116 : decode mt_M_refused.2.1 116 = .ok (.ifCond .ne (7), 3) := by decide +kernel
theorem d_M_refused_119 : decode mt_M_refused.2.1 119 = .ok (.iconst 1, 1) := by decide +kernel
theorem d_M_refused_120 : decode mt_M_refused.2.1 120 = .ok (.goto (45), 3) := by decide +kernel
theorem d_M_refused_123 : decode mt_M_refused.2.1 123 = .ok (.aload_n 0, 1) := by decide +kernel
theorem d_M_refused_124 : decode mt_M_refused.2.1 124 = .ok (.getfield 39, 3) := by decide +kernel
theorem d_M_refused_127 : decode mt_M_refused.2.1 127 = .ok (.iload_n 1, 1) := by decide +kernel
theorem d_M_refused_128 : decode mt_M_refused.2.1 128 = .ok (.iaload, 1) := by decide +kernel
theorem d_M_refused_129 : decode mt_M_refused.2.1 129 = .ok (.aload_n 0, 1) := by decide +kernel
theorem d_M_refused_130 : decode mt_M_refused.2.1 130 = .ok (.getfield 20, 3) := by decide +kernel
theorem d_M_refused_133 : decode mt_M_refused.2.1 133 = .ok (.iload 4, 2) := by decide +kernel
theorem d_M_refused_135 : decode mt_M_refused.2.1 135 = .ok (.iaload, 1) := by decide +kernel
theorem d_M_refused_136 : decode mt_M_refused.2.1 136 = .ok (.if_icmp .le (7), 3) := by decide +kernel
theorem d_M_refused_139 : decode mt_M_refused.2.1 139 = .ok (.iconst 2, 1) := by decide +kernel
theorem d_M_refused_140 : decode mt_M_refused.2.1 140 = .ok (.goto (25), 3) := by decide +kernel
theorem d_M_refused_143 : decode mt_M_refused.2.1 143 = .ok (.aload_n 0, 1) := by decide +kernel
theorem d_M_refused_144 : decode mt_M_refused.2.1 144 = .ok (.getfield 36, 3) := by decide +kernel
theorem d_M_refused_147 : decode mt_M_refused.2.1 147 = .ok (.iload_n 1, 1) := by decide +kernel
theorem d_M_refused_148 : decode mt_M_refused.2.1 148 = .ok (.laload, 1) := by decide +kernel
theorem d_M_refused_149 : decode mt_M_refused.2.1 149 = .ok (.aload_n 0, 1) := by decide +kernel
theorem d_M_refused_150 : decode mt_M_refused.2.1 150 = .ok (.getfield 13, 3) := by decide +kernel
theorem d_M_refused_153 : decode mt_M_refused.2.1 153 = .ok (.iload 4, 2) := by decide +kernel
theorem d_M_refused_155 : decode mt_M_refused.2.1 155 = .ok (.laload, 1) := by decide +kernel
theorem d_M_refused_156 : decode mt_M_refused.2.1 156 = .ok (.lcmp, 1) := by decide +kernel
theorem d_M_refused_157 : decode mt_M_refused.2.1 157 = .ok (.ifCond .le (7), 3) := by decide +kernel
theorem d_M_refused_160 : decode mt_M_refused.2.1 160 = .ok (.iconst 3, 1) := by decide +kernel
theorem d_M_refused_161 : decode mt_M_refused.2.1 161 = .ok (.goto (4), 3) := by decide +kernel
theorem d_M_refused_164 : decode mt_M_refused.2.1 164 = .ok (.iconst 0, 1) := by decide +kernel
theorem d_M_refused_165 : decode mt_M_refused.2.1 165 = .ok (.istore 6, 2) := by decide +kernel
theorem d_M_refused_167 : decode mt_M_refused.2.1 167 = .ok (.iload_n 3, 1) := by decide +kernel
theorem d_M_refused_168 : decode mt_M_refused.2.1 168 = .ok (.ifCond .ne (8), 3) := by decide +kernel
theorem d_M_refused_171 : decode mt_M_refused.2.1 171 = .ok (.iload 6, 2) := by decide +kernel
theorem d_M_refused_173 : decode mt_M_refused.2.1 173 = .ok (.ifCond .ne (7), 3) := by decide +kernel
theorem d_M_refused_176 : decode mt_M_refused.2.1 176 = .ok (.iconst 1, 1) := by decide +kernel
theorem d_M_refused_177 : decode mt_M_refused.2.1 177 = .ok (.goto (4), 3) := by decide +kernel
theorem d_M_refused_180 : decode mt_M_refused.2.1 180 = .ok (.iconst 0, 1) := by decide +kernel
theorem d_M_refused_181 : decode mt_M_refused.2.1 181 = .ok (.istore_n 3, 1) := by decide +kernel
theorem d_M_refused_182 : decode mt_M_refused.2.1 182 = .ok (.iload 6, 2) := by decide +kernel
theorem d_M_refused_184 : decode mt_M_refused.2.1 184 = .ok (.iload_n 2, 1) := by decide +kernel
theorem d_M_refused_185 : decode mt_M_refused.2.1 185 = .ok (.if_icmp .le (8), 3) := by decide +kernel
theorem d_M_refused_188 : decode mt_M_refused.2.1 188 = .ok (.iload 6, 2) := by decide +kernel
theorem d_M_refused_190 : decode mt_M_refused.2.1 190 = .ok (.goto (4), 3) := by decide +kernel
theorem d_M_refused_193 : decode mt_M_refused.2.1 193 = .ok (.iload_n 2, 1) := by decide +kernel
theorem d_M_refused_194 : decode mt_M_refused.2.1 194 = .ok (.istore_n 2, 1) := by decide +kernel
theorem d_M_refused_195 : decode mt_M_refused.2.1 195 = .ok (.iinc 4 (1), 3) := by decide +kernel
theorem d_M_refused_198 : decode mt_M_refused.2.1 198 = .ok (.goto (-154), 3) := by decide +kernel
theorem d_M_refused_201 : decode mt_M_refused.2.1 201 = .ok (.iload_n 3, 1) := by decide +kernel
theorem d_M_refused_202 : decode mt_M_refused.2.1 202 = .ok (.ifCond .eq (7), 3) := by decide +kernel
theorem d_M_refused_205 : decode mt_M_refused.2.1 205 = .ok (.iconst 0, 1) := by decide +kernel
theorem d_M_refused_206 : decode mt_M_refused.2.1 206 = .ok (.goto (4), 3) := by decide +kernel
theorem d_M_refused_209 : decode mt_M_refused.2.1 209 = .ok (.iload_n 2, 1) := by decide +kernel
theorem d_M_refused_210 : decode mt_M_refused.2.1 210 = .ok (.ireturn, 1) := by decide +kernel
theorem d_M_together_0 : decode mt_M_together.2.1 0 = .ok (.aload_n 0, 1) := by decide +kernel
theorem d_M_together_1 : decode mt_M_together.2.1 1 = .ok (.aload_n 0, 1) := by decide +kernel
theorem d_M_together_2 : decode mt_M_together.2.1 2 = .ok (.iload_n 1, 1) := by decide +kernel
theorem d_M_together_3 : decode mt_M_together.2.1 3 = .ok (.invokevirtual 144, 3) := by decide +kernel
theorem d_M_together_6 : decode mt_M_together.2.1 6 = .ok (.ifCond .eq (15), 3) := by decide +kernel
theorem d_M_together_9 : decode mt_M_together.2.1 9 = .ok (.aload_n 0, 1) := by decide +kernel
theorem d_M_together_10 : decode mt_M_together.2.1 10 = .ok (.iload_n 2, 1) := by decide +kernel
theorem d_M_together_11 : decode mt_M_together.2.1 11 = .ok (.invokevirtual 144, 3) := by decide +kernel
theorem d_M_together_14 : decode mt_M_together.2.1 14 = .ok (.ifCond .eq (7), 3) := by decide +kernel
theorem d_M_together_17 : decode mt_M_together.2.1 17 = .ok (.iconst 0, 1) := by decide +kernel
theorem d_M_together_18 : decode mt_M_together.2.1 18 = .ok (.goto (4), 3) := by decide +kernel
theorem d_M_together_21 : decode mt_M_together.2.1 21 = .ok (.iconst 1, 1) := by decide +kernel
theorem d_M_together_22 : decode mt_M_together.2.1 22 = .ok (.putfield 63, 3) := by decide +kernel
theorem d_M_together_25 : decode mt_M_together.2.1 25 = .ok (.aload_n 0, 1) := by decide +kernel
theorem d_M_together_26 : decode mt_M_together.2.1 26 = .ok (.getfield 63, 3) := by decide +kernel
theorem d_M_together_29 : decode mt_M_together.2.1 29 = .ok (.ifCond .ne (16), 3) := by decide +kernel
theorem d_M_together_32 : decode mt_M_together.2.1 32 = .ok (.aload_n 0, 1) := by decide +kernel
theorem d_M_together_33 : decode mt_M_together.2.1 33 = .ok (.iload_n 1, 1) := by decide +kernel
theorem d_M_together_34 : decode mt_M_together.2.1 34 = .ok (.iload_n 2, 1) := by decide +kernel
theorem d_M_together_35 : decode mt_M_together.2.1 35 = .ok (.invokevirtual 115, 3) := by decide +kernel
theorem d_M_together_38 : decode mt_M_together.2.1 38 = .ok (.ifCond .ne (7), 3) := by decide +kernel
theorem d_M_together_41 : decode mt_M_together.2.1 41 = .ok (.iconst 1, 1) := by decide +kernel
theorem d_M_together_42 : decode mt_M_together.2.1 42 = .ok (.goto (4), 3) := by decide +kernel
theorem d_M_together_45 : decode mt_M_together.2.1 45 = .ok (.iconst 0, 1) := by decide +kernel
theorem d_M_together_46 : decode mt_M_together.2.1 46 = .ok (.ireturn, 1) := by decide +kernel
theorem d_M_count_0 : decode mt_M_count.2.1 0 = .ok (.aload_n 0, 1) := by decide +kernel
theorem d_M_count_1 : decode mt_M_count.2.1 1 = .ok (.iconst 0, 1) := by decide +kernel
theorem d_M_count_2 : decode mt_M_count.2.1 2 = .ok (.putfield 63, 3) := by decide +kernel
theorem d_M_count_5 : decode mt_M_count.2.1 5 = .ok (.iload_n 1, 1) := by decide +kernel
theorem d_M_count_6 : decode mt_M_count.2.1 6 = .ok (.bipush (10), 2) := by decide +kernel
theorem d_M_count_8 : decode mt_M_count.2.1 8 = .ok (.if_icmp .lt (28), 3) := by decide +kernel
theorem d_M_count_11 : decode mt_M_count.2.1 11 = .ok (.aload_n 0, 1) := by decide +kernel
theorem d_M_count_12 : decode mt_M_count.2.1 12 = .ok (.iload_n 1, 1) := by decide +kernel
theorem d_M_count_13 : decode mt_M_count.2.1 13 = .ok (.bipush (10), 2) := by decide +kernel
theorem d_M_count_15 : decode mt_M_count.2.1 15 = .ok (.isub, 1) := by decide +kernel
theorem d_M_count_16 : decode mt_M_count.2.1 16 = .ok (.invokevirtual 89, 3) := by decide +kernel
theorem d_M_count_19 : decode mt_M_count.2.1 19 = .ok (.ifCond .eq (15), 3) := by decide +kernel
theorem d_M_count_22 : decode mt_M_count.2.1 22 = .ok (.aload_n 0, 1) := by decide +kernel
theorem d_M_count_23 : decode mt_M_count.2.1 23 = .ok (.getfield 27, 3) := by decide +kernel
theorem d_M_count_26 : decode mt_M_count.2.1 26 = .ok (.iload_n 1, 1) := by decide +kernel
theorem d_M_count_27 : decode mt_M_count.2.1 27 = .ok (.bipush (10), 2) := by decide +kernel
theorem d_M_count_29 : decode mt_M_count.2.1 29 = .ok (.isub, 1) := by decide +kernel
theorem d_M_count_30 : decode mt_M_count.2.1 30 = .ok (.iaload, 1) := by decide +kernel
theorem d_M_count_31 : decode mt_M_count.2.1 31 = .ok (.goto (4), 3) := by decide +kernel
theorem d_M_count_34 : decode mt_M_count.2.1 34 = .ok (.iconst (-1), 1) := by decide +kernel
theorem d_M_count_35 : decode mt_M_count.2.1 35 = .ok (.ireturn, 1) := by decide +kernel
theorem d_M_count_36 : decode mt_M_count.2.1 36 = .ok (.iconst 0, 1) := by decide +kernel
theorem d_M_count_37 : decode mt_M_count.2.1 37 = .ok (.istore_n 2, 1) := by decide +kernel
theorem d_M_count_38 : decode mt_M_count.2.1 38 = .ok (.iconst 0, 1) := by decide +kernel
theorem d_M_count_39 : decode mt_M_count.2.1 39 = .ok (.istore_n 3, 1) := by decide +kernel
theorem d_M_count_40 : decode mt_M_count.2.1 40 = .ok (.iload_n 3, 1) := by decide +kernel
theorem d_M_count_41 : decode mt_M_count.2.1 41 = .ok (.aload_n 0, 1) := by decide +kernel
theorem d_M_count_42 : decode mt_M_count.2.1 42 = .ok (.getfield 70, 3) := by decide +kernel
theorem d_M_count_45 : decode mt_M_count.2.1 45 = .ok (.if_icmp .ge (26), 3) := by decide +kernel
theorem d_M_count_48 : decode mt_M_count.2.1 48 = .ok (.iload_n 2, 1) := by decide +kernel
theorem d_M_count_49 : decode mt_M_count.2.1 49 = .ok (.aload_n 0, 1) := by decide +kernel
theorem d_M_count_50 : decode mt_M_count.2.1 50 = .ok (.getfield 60, 3) := by decide +kernel
theorem d_M_count_53 : decode mt_M_count.2.1 53 = .ok (.iload_n 3, 1) := by decide +kernel
theorem d_M_count_54 : decode mt_M_count.2.1 54 = .ok (.iaload, 1) := by decide +kernel
theorem d_M_count_55 : decode mt_M_count.2.1 55 = .ok (.ifCond .le (7), 3) := by decide +kernel
theorem d_M_count_58 : decode mt_M_count.2.1 58 = .ok (.iconst 1, 1) := by decide +kernel
theorem d_M_count_59 : decode mt_M_count.2.1 59 = .ok (.goto (4), 3) := by decide +kernel
theorem d_M_count_62 : decode mt_M_count.2.1 62 = .ok (.iconst 0, 1) := by decide +kernel
theorem d_M_count_63 : decode mt_M_count.2.1 63 = .ok (.iadd, 1) := by decide +kernel
theorem d_M_count_64 : decode mt_M_count.2.1 64 = .ok (.istore_n 2, 1) := by decide +kernel
theorem d_M_count_65 : decode mt_M_count.2.1 65 = .ok (.iinc 3 (1), 3) := by decide +kernel
theorem d_M_count_68 : decode mt_M_count.2.1 68 = .ok (.goto (-28), 3) := by decide +kernel
theorem d_M_count_71 : decode mt_M_count.2.1 71 = .ok (.iload_n 1, 1) := by decide +kernel
theorem d_M_count_72 : decode mt_M_count.2.1 72 = .ok (.tableswitch (88) (0) (4) #[36, 41, 46, 59, 75], 36) := by decide +kernel
theorem d_M_count_108 : decode mt_M_count.2.1 108 = .ok (.aload_n 0, 1) := by decide +kernel
theorem d_M_count_109 : decode mt_M_count.2.1 109 = .ok (.getfield 67, 3) := by decide +kernel
theorem d_M_count_112 : decode mt_M_count.2.1 112 = .ok (.ireturn, 1) := by decide +kernel
theorem d_M_count_113 : decode mt_M_count.2.1 113 = .ok (.aload_n 0, 1) := by decide +kernel
theorem d_M_count_114 : decode mt_M_count.2.1 114 = .ok (.getfield 70, 3) := by decide +kernel
theorem d_M_count_117 : decode mt_M_count.2.1 117 = .ok (.ireturn, 1) := by decide +kernel
theorem d_M_count_118 : decode mt_M_count.2.1 118 = .ok (.aload_n 0, 1) := by decide +kernel
theorem d_M_count_119 : decode mt_M_count.2.1 119 = .ok (.getfield 85, 3) := by decide +kernel
theorem d_M_count_122 : decode mt_M_count.2.1 122 = .ok (.ifCond .eq (7), 3) := by decide +kernel
theorem d_M_count_125 : decode mt_M_count.2.1 125 = .ok (.iload_n 2, 1) := by decide +kernel
theorem d_M_count_126 : decode mt_M_count.2.1 126 = .ok (.goto (4), 3) := by decide +kernel
theorem d_M_count_129 : decode mt_M_count.2.1 129 = .ok (.iconst (-1), 1) := by decide +kernel
theorem d_M_count_130 : decode mt_M_count.2.1 130 = .ok (.ireturn, 1) := by decide +kernel
theorem d_M_count_131 : decode mt_M_count.2.1 131 = .ok (.aload_n 0, 1) := by decide +kernel
theorem d_M_count_132 : decode mt_M_count.2.1 132 = .ok (.getfield 85, 3) := by decide +kernel
theorem d_M_count_135 : decode mt_M_count.2.1 135 = .ok (.ifCond .eq (10), 3) := by decide +kernel
theorem d_M_count_138 : decode mt_M_count.2.1 138 = .ok (.aload_n 0, 1) := by decide +kernel
theorem d_M_count_139 : decode mt_M_count.2.1 139 = .ok (.getfield 127, 3) := by decide +kernel
theorem d_M_count_142 : decode mt_M_count.2.1 142 = .ok (.goto (4), 3) := by decide +kernel
theorem d_M_count_145 : decode mt_M_count.2.1 145 = .ok (.iconst (-1), 1) := by decide +kernel
theorem d_M_count_146 : decode mt_M_count.2.1 146 = .ok (.ireturn, 1) := by decide +kernel
theorem d_M_count_147 : decode mt_M_count.2.1 147 = .ok (.aload_n 0, 1) := by decide +kernel
theorem d_M_count_148 : decode mt_M_count.2.1 148 = .ok (.getfield 85, 3) := by decide +kernel
theorem d_M_count_151 : decode mt_M_count.2.1 151 = .ok (.ifCond .eq (7), 3) := by decide +kernel
theorem d_M_count_154 : decode mt_M_count.2.1 154 = .ok (.iconst 1, 1) := by decide +kernel
theorem d_M_count_155 : decode mt_M_count.2.1 155 = .ok (.goto (4), 3) := by decide +kernel
theorem d_M_count_158 : decode mt_M_count.2.1 158 = .ok (.iconst 0, 1) := by decide +kernel
theorem d_M_count_159 : decode mt_M_count.2.1 159 = .ok (.ireturn, 1) := by decide +kernel
theorem d_M_count_160 : decode mt_M_count.2.1 160 = .ok (.iconst (-1), 1) := by decide +kernel
theorem d_M_count_161 : decode mt_M_count.2.1 161 = .ok (.ireturn, 1) := by decide +kernel
