/-! DECODE ROWS. Printed by wip/make.py. -/
theorem d_M_isGood_1 : decode mt_M_isGood.2.1 1 = .ok (.aload_n 0, 1) := by decide +kernel
theorem d_M_isGood_2 : decode mt_M_isGood.2.1 2 = .ok (.getfield 57, 3) := by decide +kernel
theorem d_M_isGood_5 : decode mt_M_isGood.2.1 5 = .ok (.iload_n 1, 1) := by decide +kernel
theorem d_M_isGood_6 : decode mt_M_isGood.2.1 6 = .ok (.iconst 0, 1) := by decide +kernel
theorem d_M_isGood_7 : decode mt_M_isGood.2.1 7 = .ok (.invokevirtual 107, 3) := by decide +kernel
theorem d_M_isGood_10 : decode mt_M_isGood.2.1 10 = .ok (.ifCond .ne (5), 3) := by decide +kernel
theorem d_M_isGood_13 : decode mt_M_isGood.2.1 13 = .ok (.iconst 1, 1) := by decide +kernel
theorem d_M_isGood_14 : decode mt_M_isGood.2.1 14 = .ok (.ireturn, 1) := by decide +kernel
theorem d_M_isGood_15 : decode mt_M_isGood.2.1 15 = .ok (.aload_n 0, 1) := by decide +kernel
theorem d_M_isGood_16 : decode mt_M_isGood.2.1 16 = .ok (.getfield 23, 3) := by decide +kernel
theorem d_M_isGood_19 : decode mt_M_isGood.2.1 19 = .ok (.iload_n 1, 1) := by decide +kernel
theorem d_M_isGood_20 : decode mt_M_isGood.2.1 20 = .ok (.baload, 1) := by decide +kernel
theorem d_M_isGood_21 : decode mt_M_isGood.2.1 21 = .ok (.ifCond .ne (41), 3) := by decide +kernel
theorem d_M_isGood_24 : decode mt_M_isGood.2.1 24 = .ok (.aload_n 0, 1) := by decide +kernel
theorem d_M_isGood_25 : decode mt_M_isGood.2.1 25 = .ok (.iload_n 1, 1) := by decide +kernel
theorem d_M_isGood_26 : decode mt_M_isGood.2.1 26 = .ok (.aload_n 0, 1) := by decide +kernel
theorem d_M_isGood_27 : decode mt_M_isGood.2.1 27 = .ok (.aload_n 0, 1) := by decide +kernel
theorem d_M_isGood_28 : decode mt_M_isGood.2.1 28 = .ok (.getfield 57, 3) := by decide +kernel
theorem d_M_isGood_31 : decode mt_M_isGood.2.1 31 = .ok (.iload_n 1, 1) := by decide +kernel
theorem d_M_isGood_32 : decode mt_M_isGood.2.1 32 = .ok (.iconst 1, 1) := by decide +kernel
theorem d_M_isGood_33 : decode mt_M_isGood.2.1 33 = .ok (.invokevirtual 107, 3) := by decide +kernel
theorem d_M_isGood_36 : decode mt_M_isGood.2.1 36 = .ok (.aload_n 0, 1) := by decide +kernel
theorem d_M_isGood_37 : decode mt_M_isGood.2.1 37 = .ok (.aload_n 0, 1) := by decide +kernel
theorem d_M_isGood_38 : decode mt_M_isGood.2.1 38 = .ok (.getfield 57, 3) := by decide +kernel
theorem d_M_isGood_41 : decode mt_M_isGood.2.1 41 = .ok (.iload_n 1, 1) := by decide +kernel
theorem d_M_isGood_42 : decode mt_M_isGood.2.1 42 = .ok (.iconst 2, 1) := by decide +kernel
theorem d_M_isGood_43 : decode mt_M_isGood.2.1 43 = .ok (.invokevirtual 107, 3) := by decide +kernel
theorem d_M_isGood_46 : decode mt_M_isGood.2.1 46 = .ok (.aload_n 0, 1) := by decide +kernel
theorem d_M_isGood_47 : decode mt_M_isGood.2.1 47 = .ok (.aload_n 0, 1) := by decide +kernel
theorem d_M_isGood_48 : decode mt_M_isGood.2.1 48 = .ok (.getfield 57, 3) := by decide +kernel
theorem d_M_isGood_51 : decode mt_M_isGood.2.1 51 = .ok (.iload_n 1, 1) := by decide +kernel
theorem d_M_isGood_52 : decode mt_M_isGood.2.1 52 = .ok (.iconst 3, 1) := by decide +kernel
theorem d_M_isGood_53 : decode mt_M_isGood.2.1 53 = .ok (.invokevirtual 107, 3) := by decide +kernel
theorem d_M_isGood_56 : decode mt_M_isGood.2.1 56 = .ok (.invokevirtual 111, 3) := by decide +kernel
theorem d_M_isGood_59 : decode mt_M_isGood.2.1 59 = .ok (.ifCond .ge (5), 3) := by decide +kernel
theorem d_M_isGood_62 : decode mt_M_isGood.2.1 62 = .ok (.iconst 0, 1) := by decide +kernel
theorem d_M_isGood_63 : decode mt_M_isGood.2.1 63 = .ok (.ireturn, 1) := by decide +kernel
theorem d_M_isGood_64 : decode mt_M_isGood.2.1 64 = .ok (.lconst 0, 1) := by decide +kernel
theorem d_M_isGood_65 : decode mt_M_isGood.2.1 65 = .ok (.lstore_n 2, 1) := by decide +kernel
theorem d_M_isGood_66 : decode mt_M_isGood.2.1 66 = .ok (.iconst 1, 1) := by decide +kernel
theorem d_M_isGood_67 : decode mt_M_isGood.2.1 67 = .ok (.istore 4, 2) := by decide +kernel
theorem d_M_isGood_69 : decode mt_M_isGood.2.1 69 = .ok (.iconst 0, 1) := by decide +kernel
theorem d_M_isGood_70 : decode mt_M_isGood.2.1 70 = .ok (.istore 5, 2) := by decide +kernel
theorem d_M_isGood_72 : decode mt_M_isGood.2.1 72 = .ok (.iload 5, 2) := by decide +kernel
theorem d_M_isGood_74 : decode mt_M_isGood.2.1 74 = .ok (.aload_n 0, 1) := by decide +kernel
theorem d_M_isGood_75 : decode mt_M_isGood.2.1 75 = .ok (.getfield 70, 3) := by decide +kernel
theorem d_M_isGood_78 : decode mt_M_isGood.2.1 78 = .ok (.if_icmp .ge (77), 3) := by decide +kernel
theorem d_M_isGood_81 : decode mt_M_isGood.2.1 81 = .ok (.lload_n 2, 1) := by decide +kernel
theorem d_M_isGood_82 : decode mt_M_isGood.2.1 82 = .ok (.aload_n 0, 1) := by decide +kernel
theorem d_M_isGood_83 : decode mt_M_isGood.2.1 83 = .ok (.getfield 57, 3) := by decide +kernel
theorem d_M_isGood_86 : decode mt_M_isGood.2.1 86 = .ok (.iload 5, 2) := by decide +kernel
theorem d_M_isGood_88 : decode mt_M_isGood.2.1 88 = .ok (.iaload, 1) := by decide +kernel
theorem d_M_isGood_89 : decode mt_M_isGood.2.1 89 = .ok (.iload_n 1, 1) := by decide +kernel
theorem d_M_isGood_90 : decode mt_M_isGood.2.1 90 = .ok (.iconst 1, 1) := by decide +kernel
theorem d_M_isGood_91 : decode mt_M_isGood.2.1 91 = .ok (.iadd, 1) := by decide +kernel
theorem d_M_isGood_92 : decode mt_M_isGood.2.1 92 = .ok (.if_icmp .ne (13), 3) := by decide +kernel
theorem d_M_isGood_95 : decode mt_M_isGood.2.1 95 = .ok (.aload_n 0, 1) := by decide +kernel
theorem d_M_isGood_96 : decode mt_M_isGood.2.1 96 = .ok (.getfield 36, 3) := by decide +kernel
theorem d_M_isGood_99 : decode mt_M_isGood.2.1 99 = .ok (.iload 5, 2) := by decide +kernel
theorem d_M_isGood_101 : decode mt_M_isGood.2.1 101 = .ok (.laload, 1) := by decide +kernel
theorem d_M_isGood_102 : decode mt_M_isGood.2.1 102 = .ok (.goto (4), 3) := by decide +kernel
theorem d_M_isGood_105 : decode mt_M_isGood.2.1 105 = .ok (.lconst 0, 1) := by decide +kernel
theorem d_M_isGood_106 : decode mt_M_isGood.2.1 106 = .ok (.ladd, 1) := by decide +kernel
theorem d_M_isGood_107 : decode mt_M_isGood.2.1 107 = .ok (.lstore_n 2, 1) := by decide +kernel
theorem d_M_isGood_108 : decode mt_M_isGood.2.1 108 = .ok (.iload 4, 2) := by decide +kernel
theorem d_M_isGood_110 : decode mt_M_isGood.2.1 110 = .ok (.ifCond .eq (36), 3) := by decide +kernel
theorem d_M_isGood_113 : decode mt_M_isGood.2.1 113 = .ok (.aload_n 0, 1) := by decide +kernel
theorem d_M_isGood_114 : decode mt_M_isGood.2.1 114 = .ok (.getfield 57, 3) := by decide +kernel
theorem d_M_isGood_117 : decode mt_M_isGood.2.1 117 = .ok (.iload 5, 2) := by decide +kernel
theorem d_M_isGood_119 : decode mt_M_isGood.2.1 119 = .ok (.iaload, 1) := by decide +kernel
theorem d_M_isGood_120 : decode mt_M_isGood.2.1 120 = .ok (.iload_n 1, 1) := by decide +kernel
theorem d_M_isGood_121 : decode mt_M_isGood.2.1 121 = .ok (.iconst 1, 1) := by decide +kernel
theorem d_M_isGood_122 : decode mt_M_isGood.2.1 122 = .ok (.iadd, 1) := by decide +kernel
theorem d_M_isGood_123 : decode mt_M_isGood.2.1 123 = .ok (.if_icmp .ne (19), 3) := by decide +kernel
theorem d_M_isGood_126 : decode mt_M_isGood.2.1 126 = .ok (.aload_n 0, 1) := by decide +kernel
theorem d_M_isGood_127 : decode mt_M_isGood.2.1 127 = .ok (.getfield 39, 3) := by decide +kernel
theorem d_M_isGood_130 : decode mt_M_isGood.2.1 130 = .ok (.iload 5, 2) := by decide +kernel
theorem d_M_isGood_132 : decode mt_M_isGood.2.1 132 = .ok (.iaload, 1) := by decide +kernel
theorem d_M_isGood_133 : decode mt_M_isGood.2.1 133 = .ok (.aload_n 0, 1) := by decide +kernel
theorem d_M_isGood_134 : decode mt_M_isGood.2.1 134 = .ok (.getfield 20, 3) := by decide +kernel
theorem d_M_isGood_137 : decode mt_M_isGood.2.1 137 = .ok (.iload_n 1, 1) := by decide +kernel
theorem d_M_isGood_138 : decode mt_M_isGood.2.1 138 = .ok (.iaload, 1) := by decide +kernel
theorem d_M_isGood_139 : decode mt_M_isGood.2.1 139 = .ok (.if_icmp .gt (7), 3) := by decide +kernel
theorem d_M_isGood_142 : decode mt_M_isGood.2.1 142 = .ok (.iconst 1, 1) := by decide +kernel
theorem d_M_isGood_143 : decode mt_M_isGood.2.1 143 = .ok (.goto (4), 3) := by decide +kernel
theorem d_M_isGood_146 : decode mt_M_isGood.2.1 146 = .ok (.iconst 0, 1) := by decide +kernel
theorem d_M_isGood_147 : decode mt_M_isGood.2.1 147 = .ok (.istore 4, 2) := by decide +kernel
theorem d_M_isGood_149 : decode mt_M_isGood.2.1 149 = .ok (.iinc 5 (1), 3) := by decide +kernel
theorem d_M_isGood_152 : decode mt_M_isGood.2.1 152 = .ok (.goto (-80), 3) := by decide +kernel
theorem d_M_isGood_155 : decode mt_M_isGood.2.1 155 = .ok (.iload 4, 2) := by decide +kernel
theorem d_M_isGood_157 : decode mt_M_isGood.2.1 157 = .ok (.ifCond .eq (18), 3) := by decide +kernel
theorem d_M_isGood_160 : decode mt_M_isGood.2.1 160 = .ok (.lload_n 2, 1) := by decide +kernel
theorem d_M_isGood_161 : decode mt_M_isGood.2.1 161 = .ok (.aload_n 0, 1) := by decide +kernel
theorem d_M_isGood_162 : decode mt_M_isGood.2.1 162 = .ok (.getfield 13, 3) := by decide +kernel
theorem d_M_isGood_165 : decode mt_M_isGood.2.1 165 = .ok (.iload_n 1, 1) := by decide +kernel
theorem d_M_isGood_166 : decode mt_M_isGood.2.1 166 = .ok (.laload, 1) := by decide +kernel
theorem d_M_isGood_167 : decode mt_M_isGood.2.1 167 = .ok (.lcmp, 1) := by decide +kernel
theorem d_M_isGood_168 : decode mt_M_isGood.2.1 168 = .ok (.ifCond .gt (7), 3) := by decide +kernel
theorem d_M_isGood_171 : decode mt_M_isGood.2.1 171 = .ok (.iconst 1, 1) := by decide +kernel
theorem d_M_isGood_172 : decode mt_M_isGood.2.1 172 = .ok (.goto (4), 3) := by decide +kernel
theorem d_M_isGood_175 : decode mt_M_isGood.2.1 175 = .ok (.iconst 0, 1) := by decide +kernel
theorem d_M_isGood_176 : decode mt_M_isGood.2.1 176 = .ok (.ireturn, 1) := by decide +kernel
theorem d_M_mayBe_0 : decode mt_M_mayBe.2.1 0 = .ok (.iconst 1, 1) := by decide +kernel
theorem d_M_mayBe_1 : decode mt_M_mayBe.2.1 1 = .ok (.istore_n 1, 1) := by decide +kernel
theorem d_M_mayBe_2 : decode mt_M_mayBe.2.1 2 = .ok (.iconst 0, 1) := by decide +kernel
theorem d_M_mayBe_3 : decode mt_M_mayBe.2.1 3 = .ok (.istore_n 2, 1) := by decide +kernel
theorem d_M_mayBe_4 : decode mt_M_mayBe.2.1 4 = .ok (.iload_n 2, 1) := by decide +kernel
theorem d_M_mayBe_5 : decode mt_M_mayBe.2.1 5 = .ok (.aload_n 0, 1) := by decide +kernel
theorem d_M_mayBe_6 : decode mt_M_mayBe.2.1 6 = .ok (.getfield 70, 3) := by decide +kernel
theorem d_M_mayBe_9 : decode mt_M_mayBe.2.1 9 = .ok (.if_icmp .ge (149), 3) := by decide +kernel
theorem d_M_mayBe_12 : decode mt_M_mayBe.2.1 12 = .ok (.iload_n 1, 1) := by decide +kernel
theorem d_M_mayBe_13 : decode mt_M_mayBe.2.1 13 = .ok (.ifCond .eq (145), 3) := by decide +kernel
theorem d_M_mayBe_16 : decode mt_M_mayBe.2.1 16 = .ok (.aload_n 0, 1) := by decide +kernel
theorem d_M_mayBe_17 : decode mt_M_mayBe.2.1 17 = .ok (.getfield 57, 3) := by decide +kernel
theorem d_M_mayBe_20 : decode mt_M_mayBe.2.1 20 = .ok (.iload_n 2, 1) := by decide +kernel
theorem d_M_mayBe_21 : decode mt_M_mayBe.2.1 21 = .ok (.iaload, 1) := by decide +kernel
theorem d_M_mayBe_22 : decode mt_M_mayBe.2.1 22 = .ok (.ifCond .eq (17), 3) := by decide +kernel
theorem d_M_mayBe_25 : decode mt_M_mayBe.2.1 25 = .ok (.aload_n 0, 1) := by decide +kernel
theorem d_M_mayBe_26 : decode mt_M_mayBe.2.1 26 = .ok (.getfield 45, 3) := by decide +kernel
theorem d_M_mayBe_29 : decode mt_M_mayBe.2.1 29 = .ok (.iload_n 2, 1) := by decide +kernel
theorem d_M_mayBe_30 : decode mt_M_mayBe.2.1 30 = .ok (.laload, 1) := by decide +kernel
theorem d_M_mayBe_31 : decode mt_M_mayBe.2.1 31 = .ok (.aload_n 0, 1) := by decide +kernel
theorem d_M_mayBe_32 : decode mt_M_mayBe.2.1 32 = .ok (.getfield 53, 3) := by decide +kernel
theorem d_M_mayBe_35 : decode mt_M_mayBe.2.1 35 = .ok (.lcmp, 1) := by decide +kernel
theorem d_M_mayBe_36 : decode mt_M_mayBe.2.1 36 = .ok (.ifCond .gt (7), 3) := by decide +kernel
theorem d_M_mayBe_39 : decode mt_M_mayBe.2.1 39 = .ok (.iconst 1, 1) := by decide +kernel
theorem d_M_mayBe_40 : decode mt_M_mayBe.2.1 40 = .ok (.goto (4), 3) := by decide +kernel
theorem d_M_mayBe_43 : decode mt_M_mayBe.2.1 43 = .ok (.iconst 0, 1) := by decide +kernel
theorem d_M_mayBe_44 : decode mt_M_mayBe.2.1 44 = .ok (.istore_n 1, 1) := by decide +kernel
theorem d_M_mayBe_45 : decode mt_M_mayBe.2.1 45 = .ok (.iconst 0, 1) := by decide +kernel
theorem d_M_mayBe_46 : decode mt_M_mayBe.2.1 46 = .ok (.istore_n 3, 1) := by decide +kernel
theorem d_M_mayBe_47 : decode mt_M_mayBe.2.1 47 = .ok (.iload_n 3, 1) := by decide +kernel
theorem d_M_mayBe_48 : decode mt_M_mayBe.2.1 48 = .ok (.iload_n 2, 1) := by decide +kernel
theorem d_M_mayBe_49 : decode mt_M_mayBe.2.1 49 = .ok (.if_icmp .ge (103), 3) := by decide +kernel
theorem d_M_mayBe_52 : decode mt_M_mayBe.2.1 52 = .ok (.iload_n 1, 1) := by decide +kernel
theorem d_M_mayBe_53 : decode mt_M_mayBe.2.1 53 = .ok (.ifCond .eq (99), 3) := by decide +kernel
theorem d_M_mayBe_56 : decode mt_M_mayBe.2.1 56 = .ok (.aload_n 0, 1) := by decide +kernel
theorem d_M_mayBe_57 : decode mt_M_mayBe.2.1 57 = .ok (.iload_n 2, 1) := by decide +kernel
theorem d_M_mayBe_58 : decode mt_M_mayBe.2.1 58 = .ok (.iload_n 3, 1) := by decide +kernel
theorem d_M_mayBe_59 : decode mt_M_mayBe.2.1 59 = .ok (.invokevirtual 115, 3) := by decide +kernel
theorem d_M_mayBe_62 : decode mt_M_mayBe.2.1 62 = .ok (.istore 4, 2) := by decide +kernel
theorem d_M_mayBe_64 : decode mt_M_mayBe.2.1 64 = .ok (.aload_n 0, 1) := by decide +kernel
theorem d_M_mayBe_65 : decode mt_M_mayBe.2.1 65 = .ok (.getfield 57, 3) := by decide +kernel
theorem d_M_mayBe_68 : decode mt_M_mayBe.2.1 68 = .ok (.iload_n 2, 1) := by decide +kernel
theorem d_M_mayBe_69 : decode mt_M_mayBe.2.1 69 = .ok (.iaload, 1) := by decide +kernel
theorem d_M_mayBe_70 : decode mt_M_mayBe.2.1 70 = .ok (.aload_n 0, 1) := by decide +kernel
theorem d_M_mayBe_71 : decode mt_M_mayBe.2.1 71 = .ok (.getfield 57, 3) := by decide +kernel
theorem d_M_mayBe_74 : decode mt_M_mayBe.2.1 74 = .ok (.iload_n 3, 1) := by decide +kernel
theorem d_M_mayBe_75 : decode mt_M_mayBe.2.1 75 = .ok (.iaload, 1) := by decide +kernel
theorem d_M_mayBe_76 : decode mt_M_mayBe.2.1 76 = .ok (.if_icmp .le (19), 3) := by decide +kernel
theorem d_M_mayBe_79 : decode mt_M_mayBe.2.1 79 = .ok (.aload_n 0, 1) := by decide +kernel
theorem d_M_mayBe_80 : decode mt_M_mayBe.2.1 80 = .ok (.getfield 57, 3) := by decide +kernel
theorem d_M_mayBe_83 : decode mt_M_mayBe.2.1 83 = .ok (.iload_n 2, 1) := by decide +kernel
theorem d_M_mayBe_84 : decode mt_M_mayBe.2.1 84 = .ok (.iaload, 1) := by decide +kernel
theorem d_M_mayBe_85 : decode mt_M_mayBe.2.1 85 = .ok (.aload_n 0, 1) := by decide +kernel
theorem d_M_mayBe_86 : decode mt_M_mayBe.2.1 86 = .ok (.getfield 57, 3) := by decide +kernel
theorem d_M_mayBe_89 : decode mt_M_mayBe.2.1 89 = .ok (.iload_n 3, 1) := by decide +kernel
theorem d_M_mayBe_90 : decode mt_M_mayBe.2.1 90 = .ok (.iaload, 1) := by decide +kernel
theorem d_M_mayBe_91 : decode mt_M_mayBe.2.1 91 = .ok (.isub, 1) := by decide +kernel
theorem d_M_mayBe_92 : decode mt_M_mayBe.2.1 92 = .ok (.goto (16), 3) := by decide +kernel
theorem d_M_mayBe_95 : decode mt_M_mayBe.2.1 95 = .ok (.aload_n 0, 1) := by decide +kernel
theorem d_M_mayBe_96 : decode mt_M_mayBe.2.1 96 = .ok (.getfield 57, 3) := by decide +kernel
theorem d_M_mayBe_99 : decode mt_M_mayBe.2.1 99 = .ok (.iload_n 3, 1) := by decide +kernel
theorem d_M_mayBe_100 : decode mt_M_mayBe.2.1 100 = .ok (.iaload, 1) := by decide +kernel
theorem d_M_mayBe_101 : decode mt_M_mayBe.2.1 101 = .ok (.aload_n 0, 1) := by decide +kernel
theorem d_M_mayBe_102 : decode mt_M_mayBe.2.1 102 = .ok (.getfield 57, 3) := by decide +kernel
theorem d_M_mayBe_105 : decode mt_M_mayBe.2.1 105 = .ok (.iload_n 2, 1) := by decide +kernel
theorem d_M_mayBe_106 : decode mt_M_mayBe.2.1 106 = .ok (.iaload, 1) := by decide +kernel
theorem d_M_mayBe_107 : decode mt_M_mayBe.2.1 107 = .ok (.isub, 1) := by decide +kernel
theorem d_M_mayBe_108 : decode mt_M_mayBe.2.1 108 = .ok (.istore 5, 2) := by decide +kernel
theorem d_M_mayBe_110 : decode mt_M_mayBe.2.1 110 = .ok (.iload 4, 2) := by decide +kernel
theorem d_M_mayBe_112 : decode mt_M_mayBe.2.1 112 = .ok (.ifCond .eq (28), 3) := by decide +kernel
theorem d_M_mayBe_115 : decode mt_M_mayBe.2.1 115 = .ok (.aload_n 0, 1) := by decide +kernel
theorem d_M_mayBe_116 : decode mt_M_mayBe.2.1 116 = .ok (.getfield 57, 3) := by decide +kernel
theorem d_M_mayBe_119 : decode mt_M_mayBe.2.1 119 = .ok (.iload_n 2, 1) := by decide +kernel
theorem d_M_mayBe_120 : decode mt_M_mayBe.2.1 120 = .ok (.iaload, 1) := by decide +kernel
theorem d_M_mayBe_121 : decode mt_M_mayBe.2.1 121 = .ok (.ifCond .eq (19), 3) := by decide +kernel
theorem d_M_mayBe_124 : decode mt_M_mayBe.2.1 124 = .ok (.aload_n 0, 1) := by decide +kernel
theorem d_M_mayBe_125 : decode mt_M_mayBe.2.1 125 = .ok (.getfield 57, 3) := by decide +kernel
theorem d_M_mayBe_128 : decode mt_M_mayBe.2.1 128 = .ok (.iload_n 3, 1) := by decide +kernel
theorem d_M_mayBe_129 : decode mt_M_mayBe.2.1 129 = .ok (.iaload, 1) := by decide +kernel
theorem d_M_mayBe_130 : decode mt_M_mayBe.2.1 130 = .ok (.ifCond .eq (10), 3) := by decide +kernel
theorem d_M_mayBe_133 : decode mt_M_mayBe.2.1 133 = .ok (.iload 5, 2) := by decide +kernel
theorem d_M_mayBe_135 : decode mt_M_mayBe.2.1 135 = .ok (.iload 4, 2) := by decide +kernel
theorem d_M_mayBe_137 : decode mt_M_mayBe.2.1 137 = .ok (.if_icmp .lt (7), 3) := by decide +kernel
theorem d_M_mayBe_140 : decode mt_M_mayBe.2.1 140 = .ok (.iconst 1, 1) := by decide +kernel
theorem d_M_mayBe_141 : decode mt_M_mayBe.2.1 141 = .ok (.goto (4), 3) := by decide +kernel
theorem d_M_mayBe_144 : decode mt_M_mayBe.2.1 144 = .ok (.iconst 0, 1) := by decide +kernel
theorem d_M_mayBe_145 : decode mt_M_mayBe.2.1 145 = .ok (.istore_n 1, 1) := by decide +kernel
theorem d_M_mayBe_146 : decode mt_M_mayBe.2.1 146 = .ok (.iinc 3 (1), 3) := by decide +kernel
theorem d_M_mayBe_149 : decode mt_M_mayBe.2.1 149 = .ok (.goto (-102), 3) := by decide +kernel
theorem d_M_mayBe_152 : decode mt_M_mayBe.2.1 152 = .ok (.iinc 2 (1), 3) := by decide +kernel
theorem d_M_mayBe_155 : decode mt_M_mayBe.2.1 155 = .ok (.goto (-151), 3) := by decide +kernel
theorem d_M_mayBe_158 : decode mt_M_mayBe.2.1 158 = .ok (.iconst 0, 1) := by decide +kernel
theorem d_M_mayBe_159 : decode mt_M_mayBe.2.1 159 = .ok (.istore_n 2, 1) := by decide +kernel
theorem d_M_mayBe_160 : decode mt_M_mayBe.2.1 160 = .ok (.iload_n 2, 1) := by decide +kernel
theorem d_M_mayBe_161 : decode mt_M_mayBe.2.1 161 = .ok (.aload_n 0, 1) := by decide +kernel
theorem d_M_mayBe_162 : decode mt_M_mayBe.2.1 162 = .ok (.getfield 67, 3) := by decide +kernel
theorem d_M_mayBe_165 : decode mt_M_mayBe.2.1 165 = .ok (.if_icmp .ge (19), 3) := by decide +kernel
theorem d_M_mayBe_168 : decode mt_M_mayBe.2.1 168 = .ok (.iload_n 1, 1) := by decide +kernel
theorem d_M_mayBe_169 : decode mt_M_mayBe.2.1 169 = .ok (.ifCond .eq (15), 3) := by decide +kernel
theorem d_M_mayBe_172 : decode mt_M_mayBe.2.1 172 = .ok (.aload_n 0, 1) := by decide +kernel
theorem d_M_mayBe_173 : decode mt_M_mayBe.2.1 173 = .ok (.iload_n 2, 1) := by decide +kernel
theorem d_M_mayBe_174 : decode mt_M_mayBe.2.1 174 = .ok (.invokevirtual 118, 3) := by decide +kernel
theorem d_M_mayBe_177 : decode mt_M_mayBe.2.1 177 = .ok (.istore_n 1, 1) := by decide +kernel
theorem d_M_mayBe_178 : decode mt_M_mayBe.2.1 178 = .ok (.iinc 2 (1), 3) := by decide +kernel
theorem d_M_mayBe_181 : decode mt_M_mayBe.2.1 181 = .ok (.goto (-21), 3) := by decide +kernel
theorem d_M_mayBe_184 : decode mt_M_mayBe.2.1 184 = .ok (.iload_n 1, 1) := by decide +kernel
theorem d_M_mayBe_185 : decode mt_M_mayBe.2.1 185 = .ok (.ireturn, 1) := by decide +kernel
theorem d_M_used_0 : decode mt_M_used.2.1 0 = .ok (.iconst 0, 1) := by decide +kernel
theorem d_M_used_1 : decode mt_M_used.2.1 1 = .ok (.istore_n 1, 1) := by decide +kernel
theorem d_M_used_2 : decode mt_M_used.2.1 2 = .ok (.iconst 0, 1) := by decide +kernel
theorem d_M_used_3 : decode mt_M_used.2.1 3 = .ok (.istore_n 2, 1) := by decide +kernel
theorem d_M_used_4 : decode mt_M_used.2.1 4 = .ok (.iload_n 2, 1) := by decide +kernel
theorem d_M_used_5 : decode mt_M_used.2.1 5 = .ok (.aload_n 0, 1) := by decide +kernel
theorem d_M_used_6 : decode mt_M_used.2.1 6 = .ok (.getfield 70, 3) := by decide +kernel
theorem d_M_used_9 : decode mt_M_used.2.1 9 = .ok (.if_icmp .ge (34), 3) := by decide +kernel
theorem d_M_used_12 : decode mt_M_used.2.1 12 = .ok (.iload_n 1, 1) := by decide +kernel
theorem d_M_used_13 : decode mt_M_used.2.1 13 = .ok (.aload_n 0, 1) := by decide +kernel
theorem d_M_used_14 : decode mt_M_used.2.1 14 = .ok (.getfield 57, 3) := by decide +kernel
theorem d_M_used_17 : decode mt_M_used.2.1 17 = .ok (.iload_n 2, 1) := by decide +kernel
theorem d_M_used_18 : decode mt_M_used.2.1 18 = .ok (.iaload, 1) := by decide +kernel
theorem d_M_used_19 : decode mt_M_used.2.1 19 = .ok (.ifCond .le (15), 3) := by decide +kernel
theorem d_M_used_22 : decode mt_M_used.2.1 22 = .ok (.aload_n 0, 1) := by decide +kernel
theorem d_M_used_23 : decode mt_M_used.2.1 23 = .ok (.getfield 33, 3) := by decide +kernel
theorem d_M_used_26 : decode mt_M_used.2.1 26 = .ok (.iload_n 2, 1) := by decide +kernel
theorem d_M_used_27 : decode mt_M_used.2.1 27 = .ok (.iaload, 1) := by decide +kernel
theorem d_M_used_28 : decode mt_M_used.2.1 28 = .ok (.invokestatic 97, 3) := by decide +kernel
theorem d_M_used_31 : decode mt_M_used.2.1 31 = .ok (.goto (4), 3) := by decide +kernel
theorem d_M_used_34 : decode mt_M_used.2.1 34 = .ok (.iconst 0, 1) := by decide +kernel
theorem d_M_used_35 : decode mt_M_used.2.1 35 = .ok (.iadd, 1) := by decide +kernel
theorem d_M_used_36 : decode mt_M_used.2.1 36 = .ok (.istore_n 1, 1) := by decide +kernel
theorem d_M_used_37 : decode mt_M_used.2.1 37 = .ok (.iinc 2 (1), 3) := by decide +kernel
theorem d_M_used_40 : decode mt_M_used.2.1 40 = .ok (.goto (-36), 3) := by decide +kernel
theorem d_M_used_43 : decode mt_M_used.2.1 43 = .ok (.iload_n 1, 1) := by decide +kernel
theorem d_M_used_44 : decode mt_M_used.2.1 44 = .ok (.ireturn, 1) := by decide +kernel
theorem d_M_placeOf_0 : decode mt_M_placeOf.2.1 0 = .ok (.iconst 0, 1) := by decide +kernel
theorem d_M_placeOf_1 : decode mt_M_placeOf.2.1 1 = .ok (.istore_n 2, 1) := by decide +kernel
theorem d_M_placeOf_2 : decode mt_M_placeOf.2.1 2 = .ok (.iconst 0, 1) := by decide +kernel
theorem d_M_placeOf_3 : decode mt_M_placeOf.2.1 3 = .ok (.istore_n 3, 1) := by decide +kernel
theorem d_M_placeOf_4 : decode mt_M_placeOf.2.1 4 = .ok (.iload_n 3, 1) := by decide +kernel
theorem d_M_placeOf_5 : decode mt_M_placeOf.2.1 5 = .ok (.aload_n 0, 1) := by decide +kernel
theorem d_M_placeOf_6 : decode mt_M_placeOf.2.1 6 = .ok (.getfield 70, 3) := by decide +kernel
theorem d_M_placeOf_9 : decode mt_M_placeOf.2.1 9 = .ok (.if_icmp .ge (54), 3) := by decide +kernel
theorem d_M_placeOf_12 : decode mt_M_placeOf.2.1 12 = .ok (.iload_n 2, 1) := by decide +kernel
theorem d_M_placeOf_13 : decode mt_M_placeOf.2.1 13 = .ok (.aload_n 0, 1) := by decide +kernel
theorem d_M_placeOf_14 : decode mt_M_placeOf.2.1 14 = .ok (.getfield 45, 3) := by decide +kernel
theorem d_M_placeOf_17 : decode mt_M_placeOf.2.1 17 = .ok (.iload_n 3, 1) := by decide +kernel
theorem d_M_placeOf_18 : decode mt_M_placeOf.2.1 18 = .ok (.laload, 1) := by decide +kernel
theorem d_M_placeOf_19 : decode mt_M_placeOf.2.1 19 = .ok (.aload_n 0, 1) := by decide +kernel
theorem d_M_placeOf_20 : decode mt_M_placeOf.2.1 20 = .ok (.getfield 45, 3) := by decide +kernel
theorem d_M_placeOf_23 : decode mt_M_placeOf.2.1 23 = .ok (.iload_n 1, 1) := by decide +kernel
theorem d_M_placeOf_24 : decode mt_M_placeOf.2.1 24 = .ok (.laload, 1) := by decide +kernel
theorem d_M_placeOf_25 : decode mt_M_placeOf.2.1 25 = .ok (.lcmp, 1) := by decide +kernel
theorem d_M_placeOf_26 : decode mt_M_placeOf.2.1 26 = .ok (.ifCond .lt (24), 3) := by decide +kernel
theorem d_M_placeOf_29 : decode mt_M_placeOf.2.1 29 = .ok (.aload_n 0, 1) := by decide +kernel
theorem d_M_placeOf_30 : decode mt_M_placeOf.2.1 30 = .ok (.getfield 45, 3) := by decide +kernel
theorem d_M_placeOf_33 : decode mt_M_placeOf.2.1 33 = .ok (.iload_n 3, 1) := by decide +kernel
theorem d_M_placeOf_34 : decode mt_M_placeOf.2.1 34 = .ok (.laload, 1) := by decide +kernel
theorem d_M_placeOf_35 : decode mt_M_placeOf.2.1 35 = .ok (.aload_n 0, 1) := by decide +kernel
theorem d_M_placeOf_36 : decode mt_M_placeOf.2.1 36 = .ok (.getfield 45, 3) := by decide +kernel
theorem d_M_placeOf_39 : decode mt_M_placeOf.2.1 39 = .ok (.iload_n 1, 1) := by decide +kernel
theorem d_M_placeOf_40 : decode mt_M_placeOf.2.1 40 = .ok (.laload, 1) := by decide +kernel
theorem d_M_placeOf_41 : decode mt_M_placeOf.2.1 41 = .ok (.lcmp, 1) := by decide +kernel
theorem d_M_placeOf_42 : decode mt_M_placeOf.2.1 42 = .ok (.ifCond .ne (12), 3) := by decide +kernel
theorem d_M_placeOf_45 : decode mt_M_placeOf.2.1 45 = .ok (.iload_n 3, 1) := by decide +kernel
theorem d_M_placeOf_46 : decode mt_M_placeOf.2.1 46 = .ok (.iload_n 1, 1) := by decide +kernel
theorem d_M_placeOf_47 : decode mt_M_placeOf.2.1 47 = .ok (.if_icmp .ge (7), 3) := by decide +kernel
theorem d_M_placeOf_50 : decode mt_M_placeOf.2.1 50 = .ok (.iconst 1, 1) := by decide +kernel
theorem d_M_placeOf_51 : decode mt_M_placeOf.2.1 51 = .ok (.goto (4), 3) := by decide +kernel
theorem d_M_placeOf_54 : decode mt_M_placeOf.2.1 54 = .ok (.iconst 0, 1) := by decide +kernel
theorem d_M_placeOf_55 : decode mt_M_placeOf.2.1 55 = .ok (.iadd, 1) := by decide +kernel
theorem d_M_placeOf_56 : decode mt_M_placeOf.2.1 56 = .ok (.istore_n 2, 1) := by decide +kernel
theorem d_M_placeOf_57 : decode mt_M_placeOf.2.1 57 = .ok (.iinc 3 (1), 3) := by decide +kernel
theorem d_M_placeOf_60 : decode mt_M_placeOf.2.1 60 = .ok (.goto (-56), 3) := by decide +kernel
theorem d_M_placeOf_63 : decode mt_M_placeOf.2.1 63 = .ok (.iload_n 2, 1) := by decide +kernel
theorem d_M_placeOf_64 : decode mt_M_placeOf.2.1 64 = .ok (.ireturn, 1) := by decide +kernel
theorem d_M_boxAt_0 : decode mt_M_boxAt.2.1 0 = .ok (.iconst 0, 1) := by decide +kernel
theorem d_M_boxAt_1 : decode mt_M_boxAt.2.1 1 = .ok (.istore_n 2, 1) := by decide +kernel
theorem d_M_boxAt_2 : decode mt_M_boxAt.2.1 2 = .ok (.aload_n 0, 1) := by decide +kernel
theorem d_M_boxAt_3 : decode mt_M_boxAt.2.1 3 = .ok (.iload_n 2, 1) := by decide +kernel
theorem d_M_boxAt_4 : decode mt_M_boxAt.2.1 4 = .ok (.invokevirtual 121, 3) := by decide +kernel
theorem d_M_boxAt_7 : decode mt_M_boxAt.2.1 7 = .ok (.iload_n 1, 1) := by decide +kernel
theorem d_M_boxAt_8 : decode mt_M_boxAt.2.1 8 = .ok (.if_icmp .eq (9), 3) := by decide +kernel
theorem d_M_boxAt_11 : decode mt_M_boxAt.2.1 11 = .ok (.iinc 2 (1), 3) := by decide +kernel
theorem d_M_boxAt_14 : decode mt_M_boxAt.2.1 14 = .ok (.goto (-12), 3) := by decide +kernel
theorem d_M_boxAt_17 : decode mt_M_boxAt.2.1 17 = .ok (.iload_n 2, 1) := by decide +kernel
theorem d_M_boxAt_18 : decode mt_M_boxAt.2.1 18 = .ok (.ireturn, 1) := by decide +kernel
theorem d_M_isAhead_0 : decode mt_M_isAhead.2.1 0 = .ok (.iconst 0, 1) := by decide +kernel
theorem d_M_isAhead_1 : decode mt_M_isAhead.2.1 1 = .ok (.istore_n 1, 1) := by decide +kernel
theorem d_M_isAhead_2 : decode mt_M_isAhead.2.1 2 = .ok (.iload_n 1, 1) := by decide +kernel
theorem d_M_isAhead_3 : decode mt_M_isAhead.2.1 3 = .ok (.aload_n 0, 1) := by decide +kernel
theorem d_M_isAhead_4 : decode mt_M_isAhead.2.1 4 = .ok (.getfield 70, 3) := by decide +kernel
theorem d_M_isAhead_7 : decode mt_M_isAhead.2.1 7 = .ok (.if_icmp .ge (61), 3) := by decide +kernel
theorem d_M_isAhead_10 : decode mt_M_isAhead.2.1 10 = .ok (.aload_n 0, 1) := by decide +kernel
theorem d_M_isAhead_11 : decode mt_M_isAhead.2.1 11 = .ok (.iload_n 1, 1) := by decide +kernel
theorem d_M_isAhead_12 : decode mt_M_isAhead.2.1 12 = .ok (.invokevirtual 124, 3) := by decide +kernel
theorem d_M_isAhead_15 : decode mt_M_isAhead.2.1 15 = .ok (.istore_n 2, 1) := by decide +kernel
theorem d_M_isAhead_16 : decode mt_M_isAhead.2.1 16 = .ok (.aload_n 0, 1) := by decide +kernel
theorem d_M_isAhead_17 : decode mt_M_isAhead.2.1 17 = .ok (.getfield 57, 3) := by decide +kernel
