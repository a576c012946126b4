/-! DECODE ROWS. Printed by wip/make.py. -/
theorem d_M_box_10 : decode mt_M_box.2.1 10 = .ok (.ifCond .eq (52), 3) := by decide +kernel
theorem d_M_box_13 : decode mt_M_box.2.1 13 = .ok (.lload_n 2, 1) := by decide +kernel
theorem d_M_box_14 : decode mt_M_box.2.1 14 = .ok (.lconst 0, 1) := by decide +kernel
theorem d_M_box_15 : decode mt_M_box.2.1 15 = .ok (.ldc2_w 79, 3) := by decide +kernel
theorem d_M_box_18 : decode mt_M_box.2.1 18 = .ok (.invokestatic 75, 3) := by decide +kernel
theorem d_M_box_21 : decode mt_M_box.2.1 21 = .ok (.ifCond .eq (41), 3) := by decide +kernel
theorem d_M_box_24 : decode mt_M_box.2.1 24 = .ok (.iload 4, 2) := by decide +kernel
theorem d_M_box_26 : decode mt_M_box.2.1 26 = .ok (.i2l, 1) := by decide +kernel
theorem d_M_box_27 : decode mt_M_box.2.1 27 = .ok (.lconst 1, 1) := by decide +kernel
theorem d_M_box_28 : decode mt_M_box.2.1 28 = .ok (.ldc2_w 83, 3) := by decide +kernel
theorem d_M_box_31 : decode mt_M_box.2.1 31 = .ok (.invokestatic 75, 3) := by decide +kernel
theorem d_M_box_34 : decode mt_M_box.2.1 34 = .ok (.ifCond .eq (28), 3) := by decide +kernel
theorem d_M_box_37 : decode mt_M_box.2.1 37 = .ok (.iload 5, 2) := by decide +kernel
theorem d_M_box_39 : decode mt_M_box.2.1 39 = .ok (.i2l, 1) := by decide +kernel
theorem d_M_box_40 : decode mt_M_box.2.1 40 = .ok (.lconst 0, 1) := by decide +kernel
theorem d_M_box_41 : decode mt_M_box.2.1 41 = .ok (.ldc2_w 95, 3) := by decide +kernel
theorem d_M_box_44 : decode mt_M_box.2.1 44 = .ok (.invokestatic 75, 3) := by decide +kernel
theorem d_M_box_47 : decode mt_M_box.2.1 47 = .ok (.ifCond .eq (15), 3) := by decide +kernel
theorem d_M_box_50 : decode mt_M_box.2.1 50 = .ok (.lload 6, 2) := by decide +kernel
theorem d_M_box_52 : decode mt_M_box.2.1 52 = .ok (.lconst 0, 1) := by decide +kernel
theorem d_M_box_53 : decode mt_M_box.2.1 53 = .ok (.ldc2_w 51, 3) := by decide +kernel
theorem d_M_box_56 : decode mt_M_box.2.1 56 = .ok (.invokestatic 75, 3) := by decide +kernel
theorem d_M_box_59 : decode mt_M_box.2.1 59 = .ok (.ifCond .ne (7), 3) := by decide +kernel
theorem d_M_box_62 : decode mt_M_box.2.1 62 = .ok (.iconst 1, 1) := by decide +kernel
theorem d_M_box_63 : decode mt_M_box.2.1 63 = .ok (.goto (17), 3) := by decide +kernel
theorem d_M_box_66 : decode mt_M_box.2.1 66 = .ok (.aload_n 0, 1) := by decide +kernel
theorem d_M_box_67 : decode mt_M_box.2.1 67 = .ok (.getfield 70, 3) := by decide +kernel
theorem d_M_box_70 : decode mt_M_box.2.1 70 = .ok (.bipush (8), 2) := by decide +kernel
theorem d_M_box_72 : decode mt_M_box.2.1 72 = .ok (.if_icmp .ne (7), 3) := by decide +kernel
theorem d_M_box_75 : decode mt_M_box.2.1 75 = .ok (.iconst 2, 1) := by decide +kernel
theorem d_M_box_76 : decode mt_M_box.2.1 76 = .ok (.goto (4), 3) := by decide +kernel
theorem d_M_box_79 : decode mt_M_box.2.1 79 = .ok (.iconst 0, 1) := by decide +kernel
theorem d_M_box_80 : decode mt_M_box.2.1 80 = .ok (.putfield 63, 3) := by decide +kernel
theorem d_M_box_83 : decode mt_M_box.2.1 83 = .ok (.aload_n 0, 1) := by decide +kernel
theorem d_M_box_84 : decode mt_M_box.2.1 84 = .ok (.getfield 63, 3) := by decide +kernel
theorem d_M_box_87 : decode mt_M_box.2.1 87 = .ok (.ifCond .le (5), 3) := by decide +kernel
theorem d_M_box_90 : decode mt_M_box.2.1 90 = .ok (.iconst 0, 1) := by decide +kernel
theorem d_M_box_91 : decode mt_M_box.2.1 91 = .ok (.ireturn, 1) := by decide +kernel
theorem d_M_box_92 : decode mt_M_box.2.1 92 = .ok (.aload_n 0, 1) := by decide +kernel
theorem d_M_box_93 : decode mt_M_box.2.1 93 = .ok (.getfield 33, 3) := by decide +kernel
theorem d_M_box_96 : decode mt_M_box.2.1 96 = .ok (.aload_n 0, 1) := by decide +kernel
theorem d_M_box_97 : decode mt_M_box.2.1 97 = .ok (.getfield 70, 3) := by decide +kernel
theorem d_M_box_100 : decode mt_M_box.2.1 100 = .ok (.iload_n 1, 1) := by decide +kernel
theorem d_M_box_101 : decode mt_M_box.2.1 101 = .ok (.iastore, 1) := by decide +kernel
theorem d_M_box_102 : decode mt_M_box.2.1 102 = .ok (.aload_n 0, 1) := by decide +kernel
theorem d_M_box_103 : decode mt_M_box.2.1 103 = .ok (.getfield 36, 3) := by decide +kernel
theorem d_M_box_106 : decode mt_M_box.2.1 106 = .ok (.aload_n 0, 1) := by decide +kernel
theorem d_M_box_107 : decode mt_M_box.2.1 107 = .ok (.getfield 70, 3) := by decide +kernel
theorem d_M_box_110 : decode mt_M_box.2.1 110 = .ok (.lload_n 2, 1) := by decide +kernel
theorem d_M_box_111 : decode mt_M_box.2.1 111 = .ok (.lastore, 1) := by decide +kernel
theorem d_M_box_112 : decode mt_M_box.2.1 112 = .ok (.aload_n 0, 1) := by decide +kernel
theorem d_M_box_113 : decode mt_M_box.2.1 113 = .ok (.getfield 39, 3) := by decide +kernel
theorem d_M_box_116 : decode mt_M_box.2.1 116 = .ok (.aload_n 0, 1) := by decide +kernel
theorem d_M_box_117 : decode mt_M_box.2.1 117 = .ok (.getfield 70, 3) := by decide +kernel
theorem d_M_box_120 : decode mt_M_box.2.1 120 = .ok (.iload 4, 2) := by decide +kernel
theorem d_M_box_122 : decode mt_M_box.2.1 122 = .ok (.iastore, 1) := by decide +kernel
theorem d_M_box_123 : decode mt_M_box.2.1 123 = .ok (.aload_n 0, 1) := by decide +kernel
theorem d_M_box_124 : decode mt_M_box.2.1 124 = .ok (.getfield 42, 3) := by decide +kernel
theorem d_M_box_127 : decode mt_M_box.2.1 127 = .ok (.aload_n 0, 1) := by decide +kernel
theorem d_M_box_128 : decode mt_M_box.2.1 128 = .ok (.getfield 70, 3) := by decide +kernel
theorem d_M_box_131 : decode mt_M_box.2.1 131 = .ok (.iload 5, 2) := by decide +kernel
theorem d_M_box_133 : decode mt_M_box.2.1 133 = .ok (.iastore, 1) := by decide +kernel
theorem d_M_box_134 : decode mt_M_box.2.1 134 = .ok (.aload_n 0, 1) := by decide +kernel
theorem d_M_box_135 : decode mt_M_box.2.1 135 = .ok (.getfield 45, 3) := by decide +kernel
theorem d_M_box_138 : decode mt_M_box.2.1 138 = .ok (.aload_n 0, 1) := by decide +kernel
theorem d_M_box_139 : decode mt_M_box.2.1 139 = .ok (.getfield 70, 3) := by decide +kernel
theorem d_M_box_142 : decode mt_M_box.2.1 142 = .ok (.lload 6, 2) := by decide +kernel
theorem d_M_box_144 : decode mt_M_box.2.1 144 = .ok (.lastore, 1) := by decide +kernel
theorem d_M_box_145 : decode mt_M_box.2.1 145 = .ok (.aload_n 0, 1) := by decide +kernel
theorem d_M_box_146 : decode mt_M_box.2.1 146 = .ok (.dup, 1) := by decide +kernel
theorem d_M_box_147 : decode mt_M_box.2.1 147 = .ok (.getfield 70, 3) := by decide +kernel
theorem d_M_box_150 : decode mt_M_box.2.1 150 = .ok (.iconst 1, 1) := by decide +kernel
theorem d_M_box_151 : decode mt_M_box.2.1 151 = .ok (.iadd, 1) := by decide +kernel
theorem d_M_box_152 : decode mt_M_box.2.1 152 = .ok (.putfield 70, 3) := by decide +kernel
theorem d_M_box_155 : decode mt_M_box.2.1 155 = .ok (.aload_n 0, 1) := by decide +kernel
theorem d_M_box_156 : decode mt_M_box.2.1 156 = .ok (.iconst 0, 1) := by decide +kernel
theorem d_M_box_157 : decode mt_M_box.2.1 157 = .ok (.putfield 85, 3) := by decide +kernel
theorem d_M_box_160 : decode mt_M_box.2.1 160 = .ok (.aload_n 0, 1) := by decide +kernel
theorem d_M_box_161 : decode mt_M_box.2.1 161 = .ok (.getfield 70, 3) := by decide +kernel
theorem d_M_box_164 : decode mt_M_box.2.1 164 = .ok (.iconst 1, 1) := by decide +kernel
theorem d_M_box_165 : decode mt_M_box.2.1 165 = .ok (.isub, 1) := by decide +kernel
theorem d_M_box_166 : decode mt_M_box.2.1 166 = .ok (.ireturn, 1) := by decide +kernel
theorem d_M_rule_0 : decode mt_M_rule.2.1 0 = .ok (.aload_n 0, 1) := by decide +kernel
theorem d_M_rule_1 : decode mt_M_rule.2.1 1 = .ok (.iconst 0, 1) := by decide +kernel
theorem d_M_rule_2 : decode mt_M_rule.2.1 2 = .ok (.putfield 63, 3) := by decide +kernel
theorem d_M_rule_5 : decode mt_M_rule.2.1 5 = .ok (.iload_n 1, 1) := by decide +kernel
theorem d_M_rule_6 : decode mt_M_rule.2.1 6 = .ok (.i2l, 1) := by decide +kernel
theorem d_M_rule_7 : decode mt_M_rule.2.1 7 = .ok (.lconst 1, 1) := by decide +kernel
theorem d_M_rule_8 : decode mt_M_rule.2.1 8 = .ok (.ldc2_w 95, 3) := by decide +kernel
theorem d_M_rule_11 : decode mt_M_rule.2.1 11 = .ok (.invokestatic 75, 3) := by decide +kernel
theorem d_M_rule_14 : decode mt_M_rule.2.1 14 = .ok (.ifCond .eq (27), 3) := by decide +kernel
theorem d_M_rule_17 : decode mt_M_rule.2.1 17 = .ok (.iload_n 2, 1) := by decide +kernel
theorem d_M_rule_18 : decode mt_M_rule.2.1 18 = .ok (.i2l, 1) := by decide +kernel
theorem d_M_rule_19 : decode mt_M_rule.2.1 19 = .ok (.lconst 1, 1) := by decide +kernel
theorem d_M_rule_20 : decode mt_M_rule.2.1 20 = .ok (.ldc2_w 95, 3) := by decide +kernel
theorem d_M_rule_23 : decode mt_M_rule.2.1 23 = .ok (.invokestatic 75, 3) := by decide +kernel
theorem d_M_rule_26 : decode mt_M_rule.2.1 26 = .ok (.ifCond .eq (15), 3) := by decide +kernel
theorem d_M_rule_29 : decode mt_M_rule.2.1 29 = .ok (.iload_n 3, 1) := by decide +kernel
theorem d_M_rule_30 : decode mt_M_rule.2.1 30 = .ok (.i2l, 1) := by decide +kernel
theorem d_M_rule_31 : decode mt_M_rule.2.1 31 = .ok (.lconst 0, 1) := by decide +kernel
theorem d_M_rule_32 : decode mt_M_rule.2.1 32 = .ok (.ldc2_w 101, 3) := by decide +kernel
theorem d_M_rule_35 : decode mt_M_rule.2.1 35 = .ok (.invokestatic 75, 3) := by decide +kernel
theorem d_M_rule_38 : decode mt_M_rule.2.1 38 = .ok (.ifCond .ne (5), 3) := by decide +kernel
theorem d_M_rule_41 : decode mt_M_rule.2.1 41 = .ok (.iconst 0, 1) := by decide +kernel
theorem d_M_rule_42 : decode mt_M_rule.2.1 42 = .ok (.ireturn, 1) := by decide +kernel
theorem d_M_rule_43 : decode mt_M_rule.2.1 43 = .ok (.aload_n 0, 1) := by decide +kernel
theorem d_M_rule_44 : decode mt_M_rule.2.1 44 = .ok (.getfield 48, 3) := by decide +kernel
theorem d_M_rule_47 : decode mt_M_rule.2.1 47 = .ok (.iconst 4, 1) := by decide +kernel
theorem d_M_rule_48 : decode mt_M_rule.2.1 48 = .ok (.iload_n 1, 1) := by decide +kernel
theorem d_M_rule_49 : decode mt_M_rule.2.1 49 = .ok (.imul, 1) := by decide +kernel
theorem d_M_rule_50 : decode mt_M_rule.2.1 50 = .ok (.iload_n 2, 1) := by decide +kernel
theorem d_M_rule_51 : decode mt_M_rule.2.1 51 = .ok (.iadd, 1) := by decide +kernel
theorem d_M_rule_52 : decode mt_M_rule.2.1 52 = .ok (.iload_n 3, 1) := by decide +kernel
theorem d_M_rule_53 : decode mt_M_rule.2.1 53 = .ok (.iastore, 1) := by decide +kernel
theorem d_M_rule_54 : decode mt_M_rule.2.1 54 = .ok (.aload_n 0, 1) := by decide +kernel
theorem d_M_rule_55 : decode mt_M_rule.2.1 55 = .ok (.getfield 48, 3) := by decide +kernel
theorem d_M_rule_58 : decode mt_M_rule.2.1 58 = .ok (.iconst 4, 1) := by decide +kernel
theorem d_M_rule_59 : decode mt_M_rule.2.1 59 = .ok (.iload_n 2, 1) := by decide +kernel
theorem d_M_rule_60 : decode mt_M_rule.2.1 60 = .ok (.imul, 1) := by decide +kernel
theorem d_M_rule_61 : decode mt_M_rule.2.1 61 = .ok (.iload_n 1, 1) := by decide +kernel
theorem d_M_rule_62 : decode mt_M_rule.2.1 62 = .ok (.iadd, 1) := by decide +kernel
theorem d_M_rule_63 : decode mt_M_rule.2.1 63 = .ok (.iload_n 3, 1) := by decide +kernel
theorem d_M_rule_64 : decode mt_M_rule.2.1 64 = .ok (.iastore, 1) := by decide +kernel
theorem d_M_rule_65 : decode mt_M_rule.2.1 65 = .ok (.aload_n 0, 1) := by decide +kernel
theorem d_M_rule_66 : decode mt_M_rule.2.1 66 = .ok (.iconst 0, 1) := by decide +kernel
theorem d_M_rule_67 : decode mt_M_rule.2.1 67 = .ok (.putfield 85, 3) := by decide +kernel
theorem d_M_rule_70 : decode mt_M_rule.2.1 70 = .ok (.iconst 1, 1) := by decide +kernel
theorem d_M_rule_71 : decode mt_M_rule.2.1 71 = .ok (.ireturn, 1) := by decide +kernel
theorem d_M_cut_0 : decode mt_M_cut.2.1 0 = .ok (.aload_n 0, 1) := by decide +kernel
theorem d_M_cut_1 : decode mt_M_cut.2.1 1 = .ok (.iconst 0, 1) := by decide +kernel
theorem d_M_cut_2 : decode mt_M_cut.2.1 2 = .ok (.putfield 63, 3) := by decide +kernel
theorem d_M_cut_5 : decode mt_M_cut.2.1 5 = .ok (.lload_n 1, 1) := by decide +kernel
theorem d_M_cut_6 : decode mt_M_cut.2.1 6 = .ok (.lconst 0, 1) := by decide +kernel
theorem d_M_cut_7 : decode mt_M_cut.2.1 7 = .ok (.ldc2_w 51, 3) := by decide +kernel
theorem d_M_cut_10 : decode mt_M_cut.2.1 10 = .ok (.invokestatic 75, 3) := by decide +kernel
theorem d_M_cut_13 : decode mt_M_cut.2.1 13 = .ok (.ifCond .ne (5), 3) := by decide +kernel
theorem d_M_cut_16 : decode mt_M_cut.2.1 16 = .ok (.iconst 0, 1) := by decide +kernel
theorem d_M_cut_17 : decode mt_M_cut.2.1 17 = .ok (.ireturn, 1) := by decide +kernel
theorem d_M_cut_18 : decode mt_M_cut.2.1 18 = .ok (.aload_n 0, 1) := by decide +kernel
theorem d_M_cut_19 : decode mt_M_cut.2.1 19 = .ok (.lload_n 1, 1) := by decide +kernel
theorem d_M_cut_20 : decode mt_M_cut.2.1 20 = .ok (.putfield 53, 3) := by decide +kernel
theorem d_M_cut_23 : decode mt_M_cut.2.1 23 = .ok (.aload_n 0, 1) := by decide +kernel
theorem d_M_cut_24 : decode mt_M_cut.2.1 24 = .ok (.iconst 0, 1) := by decide +kernel
theorem d_M_cut_25 : decode mt_M_cut.2.1 25 = .ok (.putfield 85, 3) := by decide +kernel
theorem d_M_cut_28 : decode mt_M_cut.2.1 28 = .ok (.iconst 1, 1) := by decide +kernel
theorem d_M_cut_29 : decode mt_M_cut.2.1 29 = .ok (.ireturn, 1) := by decide +kernel
theorem d_M_out_0 : decode mt_M_out.2.1 0 = .ok (.aload_n 0, 1) := by decide +kernel
theorem d_M_out_1 : decode mt_M_out.2.1 1 = .ok (.iconst 0, 1) := by decide +kernel
theorem d_M_out_2 : decode mt_M_out.2.1 2 = .ok (.putfield 63, 3) := by decide +kernel
theorem d_M_out_5 : decode mt_M_out.2.1 5 = .ok (.aload_n 0, 1) := by decide +kernel
theorem d_M_out_6 : decode mt_M_out.2.1 6 = .ok (.iload_n 1, 1) := by decide +kernel
theorem d_M_out_7 : decode mt_M_out.2.1 7 = .ok (.invokevirtual 89, 3) := by decide +kernel
theorem d_M_out_10 : decode mt_M_out.2.1 10 = .ok (.ifCond .eq (13), 3) := by decide +kernel
theorem d_M_out_13 : decode mt_M_out.2.1 13 = .ok (.aload_n 0, 1) := by decide +kernel
theorem d_M_out_14 : decode mt_M_out.2.1 14 = .ok (.getfield 23, 3) := by decide +kernel
theorem d_M_out_17 : decode mt_M_out.2.1 17 = .ok (.iload_n 1, 1) := by decide +kernel
theorem d_M_out_18 : decode mt_M_out.2.1 18 = .ok (.baload, 1) := by decide +kernel
theorem d_M_out_19 : decode mt_M_out.2.1 19 = .ok (.iload_n 2, 1) := by decide +kernel
theorem d_M_out_20 : decode mt_M_out.2.1 20 = .ok (.if_icmp .ne (5), 3) := by decide +kernel
theorem d_M_out_23 : decode mt_M_out.2.1 23 = .ok (.iconst 0, 1) := by decide +kernel
theorem d_M_out_24 : decode mt_M_out.2.1 24 = .ok (.ireturn, 1) := by decide +kernel
theorem d_M_out_25 : decode mt_M_out.2.1 25 = .ok (.aload_n 0, 1) := by decide +kernel
theorem d_M_out_26 : decode mt_M_out.2.1 26 = .ok (.getfield 23, 3) := by decide +kernel
theorem d_M_out_29 : decode mt_M_out.2.1 29 = .ok (.iload_n 1, 1) := by decide +kernel
theorem d_M_out_30 : decode mt_M_out.2.1 30 = .ok (.iload_n 2, 1) := by decide +kernel
theorem d_M_out_31 : decode mt_M_out.2.1 31 = .ok (.bastore, 1) := by decide +kernel
theorem d_M_out_32 : decode mt_M_out.2.1 32 = .ok (.aload_n 0, 1) := by decide +kernel
theorem d_M_out_33 : decode mt_M_out.2.1 33 = .ok (.iconst 0, 1) := by decide +kernel
theorem d_M_out_34 : decode mt_M_out.2.1 34 = .ok (.putfield 85, 3) := by decide +kernel
theorem d_M_out_37 : decode mt_M_out.2.1 37 = .ok (.iconst 1, 1) := by decide +kernel
theorem d_M_out_38 : decode mt_M_out.2.1 38 = .ok (.ireturn, 1) := by decide +kernel
theorem d_M_rulesOf_0 : decode mt_M_rulesOf.2.1 0 = .ok (.aload_n 0, 1) := by decide +kernel
theorem d_M_rulesOf_1 : decode mt_M_rulesOf.2.1 1 = .ok (.getfield 48, 3) := by decide +kernel
theorem d_M_rulesOf_4 : decode mt_M_rulesOf.2.1 4 = .ok (.iconst 4, 1) := by decide +kernel
theorem d_M_rulesOf_5 : decode mt_M_rulesOf.2.1 5 = .ok (.aload_n 0, 1) := by decide +kernel
theorem d_M_rulesOf_6 : decode mt_M_rulesOf.2.1 6 = .ok (.getfield 42, 3) := by decide +kernel
theorem d_M_rulesOf_9 : decode mt_M_rulesOf.2.1 9 = .ok (.iload_n 1, 1) := by decide +kernel
theorem d_M_rulesOf_10 : decode mt_M_rulesOf.2.1 10 = .ok (.iaload, 1) := by decide +kernel
theorem d_M_rulesOf_11 : decode mt_M_rulesOf.2.1 11 = .ok (.imul, 1) := by decide +kernel
theorem d_M_rulesOf_12 : decode mt_M_rulesOf.2.1 12 = .ok (.aload_n 0, 1) := by decide +kernel
theorem d_M_rulesOf_13 : decode mt_M_rulesOf.2.1 13 = .ok (.getfield 42, 3) := by decide +kernel
theorem d_M_rulesOf_16 : decode mt_M_rulesOf.2.1 16 = .ok (.iload_n 2, 1) := by decide +kernel
theorem d_M_rulesOf_17 : decode mt_M_rulesOf.2.1 17 = .ok (.iaload, 1) := by decide +kernel
theorem d_M_rulesOf_18 : decode mt_M_rulesOf.2.1 18 = .ok (.iadd, 1) := by decide +kernel
theorem d_M_rulesOf_19 : decode mt_M_rulesOf.2.1 19 = .ok (.iaload, 1) := by decide +kernel
theorem d_M_rulesOf_20 : decode mt_M_rulesOf.2.1 20 = .ok (.ireturn, 1) := by decide +kernel
theorem d_M_placesOf_0 : decode mt_M_placesOf.2.1 0 = .ok (.iconst 0, 1) := by decide +kernel
theorem d_M_placesOf_1 : decode mt_M_placesOf.2.1 1 = .ok (.istore_n 2, 1) := by decide +kernel
theorem d_M_placesOf_2 : decode mt_M_placesOf.2.1 2 = .ok (.iload_n 0, 1) := by decide +kernel
theorem d_M_placesOf_3 : decode mt_M_placesOf.2.1 3 = .ok (.istore_n 3, 1) := by decide +kernel
theorem d_M_placesOf_4 : decode mt_M_placesOf.2.1 4 = .ok (.iload_n 3, 1) := by decide +kernel
theorem d_M_placesOf_5 : decode mt_M_placesOf.2.1 5 = .ok (.ifCond .le (27), 3) := by decide +kernel
theorem d_M_placesOf_8 : decode mt_M_placesOf.2.1 8 = .ok (.iload_n 2, 1) := by decide +kernel
theorem d_M_placesOf_9 : decode mt_M_placesOf.2.1 9 = .ok (.iload_n 3, 1) := by decide +kernel
theorem d_M_placesOf_10 : decode mt_M_placesOf.2.1 10 = .ok (.bipush (10), 2) := by decide +kernel
theorem d_M_placesOf_12 : decode mt_M_placesOf.2.1 12 = .ok (.irem, 1) := by decide +kernel
theorem d_M_placesOf_13 : decode mt_M_placesOf.2.1 13 = .ok (.iload_n 1, 1) := by decide +kernel
theorem d_M_placesOf_14 : decode mt_M_placesOf.2.1 14 = .ok (.if_icmp .ne (7), 3) := by decide +kernel
theorem d_M_placesOf_17 : decode mt_M_placesOf.2.1 17 = .ok (.iconst 1, 1) := by decide +kernel
theorem d_M_placesOf_18 : decode mt_M_placesOf.2.1 18 = .ok (.goto (4), 3) := by decide +kernel
theorem d_M_placesOf_21 : decode mt_M_placesOf.2.1 21 = .ok (.iconst 0, 1) := by decide +kernel
theorem d_M_placesOf_22 : decode mt_M_placesOf.2.1 22 = .ok (.iadd, 1) := by decide +kernel
theorem d_M_placesOf_23 : decode mt_M_placesOf.2.1 23 = .ok (.istore_n 2, 1) := by decide +kernel
theorem d_M_placesOf_24 : decode mt_M_placesOf.2.1 24 = .ok (.iload_n 3, 1) := by decide +kernel
theorem d_M_placesOf_25 : decode mt_M_placesOf.2.1 25 = .ok (.bipush (10), 2) := by decide +kernel
theorem d_M_placesOf_27 : decode mt_M_placesOf.2.1 27 = .ok (.idiv, 1) := by decide +kernel
theorem d_M_placesOf_28 : decode mt_M_placesOf.2.1 28 = .ok (.istore_n 3, 1) := by decide +kernel
theorem d_M_placesOf_29 : decode mt_M_placesOf.2.1 29 = .ok (.goto (-25), 3) := by decide +kernel
theorem d_M_placesOf_32 : decode mt_M_placesOf.2.1 32 = .ok (.iload_n 2, 1) := by decide +kernel
theorem d_M_placesOf_33 : decode mt_M_placesOf.2.1 33 = .ok (.ireturn, 1) := by decide +kernel
theorem d_M_patternFor_0 : decode mt_M_patternFor.2.1 0 = .ok (.iconst 0, 1) := by decide +kernel
theorem d_M_patternFor_1 : decode mt_M_patternFor.2.1 1 = .ok (.istore 5, 2) := by decide +kernel
theorem d_M_patternFor_3 : decode mt_M_patternFor.2.1 3 = .ok (.iload 5, 2) := by decide +kernel
theorem d_M_patternFor_5 : decode mt_M_patternFor.2.1 5 = .ok (.aload_n 0, 1) := by decide +kernel
theorem d_M_patternFor_6 : decode mt_M_patternFor.2.1 6 = .ok (.getfield 27, 3) := by decide +kernel
theorem d_M_patternFor_9 : decode mt_M_patternFor.2.1 9 = .ok (.iload_n 1, 1) := by decide +kernel
theorem d_M_patternFor_10 : decode mt_M_patternFor.2.1 10 = .ok (.iaload, 1) := by decide +kernel
theorem d_M_patternFor_11 : decode mt_M_patternFor.2.1 11 = .ok (.if_icmp .ge (67), 3) := by decide +kernel
theorem d_M_patternFor_14 : decode mt_M_patternFor.2.1 14 = .ok (.aload_n 0, 1) := by decide +kernel
theorem d_M_patternFor_15 : decode mt_M_patternFor.2.1 15 = .ok (.getfield 30, 3) := by decide +kernel
theorem d_M_patternFor_18 : decode mt_M_patternFor.2.1 18 = .ok (.iconst 4, 1) := by decide +kernel
theorem d_M_patternFor_19 : decode mt_M_patternFor.2.1 19 = .ok (.iload_n 1, 1) := by decide +kernel
theorem d_M_patternFor_20 : decode mt_M_patternFor.2.1 20 = .ok (.imul, 1) := by decide +kernel
theorem d_M_patternFor_21 : decode mt_M_patternFor.2.1 21 = .ok (.iload 5, 2) := by decide +kernel
theorem d_M_patternFor_23 : decode mt_M_patternFor.2.1 23 = .ok (.iadd, 1) := by decide +kernel
theorem d_M_patternFor_24 : decode mt_M_patternFor.2.1 24 = .ok (.iaload, 1) := by decide +kernel
theorem d_M_patternFor_25 : decode mt_M_patternFor.2.1 25 = .ok (.iconst 1, 1) := by decide +kernel
theorem d_M_patternFor_26 : decode mt_M_patternFor.2.1 26 = .ok (.invokestatic 103, 3) := by decide +kernel
theorem d_M_patternFor_29 : decode mt_M_patternFor.2.1 29 = .ok (.iload_n 2, 1) := by decide +kernel
theorem d_M_patternFor_30 : decode mt_M_patternFor.2.1 30 = .ok (.if_icmp .lt (42), 3) := by decide +kernel
theorem d_M_patternFor_33 : decode mt_M_patternFor.2.1 33 = .ok (.aload_n 0, 1) := by decide +kernel
theorem d_M_patternFor_34 : decode mt_M_patternFor.2.1 34 = .ok (.getfield 30, 3) := by decide +kernel
theorem d_M_patternFor_37 : decode mt_M_patternFor.2.1 37 = .ok (.iconst 4, 1) := by decide +kernel
theorem d_M_patternFor_38 : decode mt_M_patternFor.2.1 38 = .ok (.iload_n 1, 1) := by decide +kernel
theorem d_M_patternFor_39 : decode mt_M_patternFor.2.1 39 = .ok (.imul, 1) := by decide +kernel
theorem d_M_patternFor_40 : decode mt_M_patternFor.2.1 40 = .ok (.iload 5, 2) := by decide +kernel
theorem d_M_patternFor_42 : decode mt_M_patternFor.2.1 42 = .ok (.iadd, 1) := by decide +kernel
theorem d_M_patternFor_43 : decode mt_M_patternFor.2.1 43 = .ok (.iaload, 1) := by decide +kernel
theorem d_M_patternFor_44 : decode mt_M_patternFor.2.1 44 = .ok (.iconst 2, 1) := by decide +kernel
theorem d_M_patternFor_45 : decode mt_M_patternFor.2.1 45 = .ok (.invokestatic 103, 3) := by decide +kernel
theorem d_M_patternFor_48 : decode mt_M_patternFor.2.1 48 = .ok (.iload_n 3, 1) := by decide +kernel
theorem d_M_patternFor_49 : decode mt_M_patternFor.2.1 49 = .ok (.if_icmp .lt (23), 3) := by decide +kernel
theorem d_M_patternFor_52 : decode mt_M_patternFor.2.1 52 = .ok (.aload_n 0, 1) := by decide +kernel
theorem d_M_patternFor_53 : decode mt_M_patternFor.2.1 53 = .ok (.getfield 30, 3) := by decide +kernel
theorem d_M_patternFor_56 : decode mt_M_patternFor.2.1 56 = .ok (.iconst 4, 1) := by decide +kernel
theorem d_M_patternFor_57 : decode mt_M_patternFor.2.1 57 = .ok (.iload_n 1, 1) := by decide +kernel
theorem d_M_patternFor_58 : decode mt_M_patternFor.2.1 58 = .ok (.imul, 1) := by decide +kernel
theorem d_M_patternFor_59 : decode mt_M_patternFor.2.1 59 = .ok (.iload 5, 2) := by decide +kernel
theorem d_M_patternFor_61 : decode mt_M_patternFor.2.1 61 = .ok (.iadd, 1) := by decide +kernel
theorem d_M_patternFor_62 : decode mt_M_patternFor.2.1 62 = .ok (.iaload, 1) := by decide +kernel
theorem d_M_patternFor_63 : decode mt_M_patternFor.2.1 63 = .ok (.iconst 3, 1) := by decide +kernel
theorem d_M_patternFor_64 : decode mt_M_patternFor.2.1 64 = .ok (.invokestatic 103, 3) := by decide +kernel
theorem d_M_patternFor_67 : decode mt_M_patternFor.2.1 67 = .ok (.iload 4, 2) := by decide +kernel
theorem d_M_patternFor_69 : decode mt_M_patternFor.2.1 69 = .ok (.if_icmp .ge (9), 3) := by decide +kernel
theorem d_M_patternFor_72 : decode mt_M_patternFor.2.1 72 = .ok (.iinc 5 (1), 3) := by decide +kernel
theorem d_M_patternFor_75 : decode mt_M_patternFor.2.1 75 = .ok (.goto (-72), 3) := by decide +kernel
theorem d_M_patternFor_78 : decode mt_M_patternFor.2.1 78 = .ok (.iload 5, 2) := by decide +kernel
theorem d_M_patternFor_80 : decode mt_M_patternFor.2.1 80 = .ok (.aload_n 0, 1) := by decide +kernel
theorem d_M_patternFor_81 : decode mt_M_patternFor.2.1 81 = .ok (.getfield 27, 3) := by decide +kernel
theorem d_M_patternFor_84 : decode mt_M_patternFor.2.1 84 = .ok (.iload_n 1, 1) := by decide +kernel
theorem d_M_patternFor_85 : decode mt_M_patternFor.2.1 85 = .ok (.iaload, 1) := by decide +kernel
theorem d_M_patternFor_86 : decode mt_M_patternFor.2.1 86 = .ok (.if_icmp .ge (8), 3) := by decide +kernel
theorem d_M_patternFor_89 : decode mt_M_patternFor.2.1 89 = .ok (.iload 5, 2) := by decide +kernel
theorem d_M_patternFor_91 : decode mt_M_patternFor.2.1 91 = .ok (.goto (4), 3) := by decide +kernel
theorem d_M_patternFor_94 : decode mt_M_patternFor.2.1 94 = .ok (.iconst (-1), 1) := by decide +kernel
theorem d_M_patternFor_95 : decode mt_M_patternFor.2.1 95 = .ok (.ireturn, 1) := by decide +kernel
theorem d_M_countOf_0 : decode mt_M_countOf.2.1 0 = .ok (.iconst 0, 1) := by decide +kernel
theorem d_M_countOf_1 : decode mt_M_countOf.2.1 1 = .ok (.istore 4, 2) := by decide +kernel
theorem d_M_countOf_3 : decode mt_M_countOf.2.1 3 = .ok (.iconst 0, 1) := by decide +kernel
theorem d_M_countOf_4 : decode mt_M_countOf.2.1 4 = .ok (.istore 5, 2) := by decide +kernel
theorem d_M_countOf_6 : decode mt_M_countOf.2.1 6 = .ok (.iload 5, 2) := by decide +kernel
theorem d_M_countOf_8 : decode mt_M_countOf.2.1 8 = .ok (.aload_n 0, 1) := by decide +kernel
theorem d_M_countOf_9 : decode mt_M_countOf.2.1 9 = .ok (.getfield 70, 3) := by decide +kernel
theorem d_M_countOf_12 : decode mt_M_countOf.2.1 12 = .ok (.if_icmp .ge (44), 3) := by decide +kernel
theorem d_M_countOf_15 : decode mt_M_countOf.2.1 15 = .ok (.iload 4, 2) := by decide +kernel
theorem d_M_countOf_17 : decode mt_M_countOf.2.1 17 = .ok (.aload_n 1, 1) := by decide +kernel
theorem d_M_countOf_18 : decode mt_M_countOf.2.1 18 = .ok (.iload 5, 2) := by decide +kernel
theorem d_M_countOf_20 : decode mt_M_countOf.2.1 20 = .ok (.iaload, 1) := by decide +kernel
theorem d_M_countOf_21 : decode mt_M_countOf.2.1 21 = .ok (.iload_n 2, 1) := by decide +kernel
theorem d_M_countOf_22 : decode mt_M_countOf.2.1 22 = .ok (.iconst 1, 1) := by decide +kernel
theorem d_M_countOf_23 : decode mt_M_countOf.2.1 23 = .ok (.iadd, 1) := by decide +kernel
theorem d_M_countOf_24 : decode mt_M_countOf.2.1 24 = .ok (.if_icmp .ne (22), 3) := by decide +kernel
theorem d_M_countOf_27 : decode mt_M_countOf.2.1 27 = .ok (.iload_n 3, 1) := by decide +kernel
theorem d_M_countOf_28 : decode mt_M_countOf.2.1 28 = .ok (.ifCond .eq (14), 3) := by decide +kernel
theorem d_M_countOf_31 : decode mt_M_countOf.2.1 31 = .ok (.aload_n 0, 1) := by decide +kernel
theorem d_M_countOf_32 : decode mt_M_countOf.2.1 32 = .ok (.getfield 33, 3) := by decide +kernel
theorem d_M_countOf_35 : decode mt_M_countOf.2.1 35 = .ok (.iload 5, 2) := by decide +kernel
theorem d_M_countOf_37 : decode mt_M_countOf.2.1 37 = .ok (.iaload, 1) := by decide +kernel
theorem d_M_countOf_38 : decode mt_M_countOf.2.1 38 = .ok (.iload_n 3, 1) := by decide +kernel
theorem d_M_countOf_39 : decode mt_M_countOf.2.1 39 = .ok (.if_icmp .ne (7), 3) := by decide +kernel
theorem d_M_countOf_42 : decode mt_M_countOf.2.1 42 = .ok (.iconst 1, 1) := by decide +kernel
theorem d_M_countOf_43 : decode mt_M_countOf.2.1 43 = .ok (.goto (4), 3) := by decide +kernel
theorem d_M_countOf_46 : decode mt_M_countOf.2.1 46 = .ok (.iconst 0, 1) := by decide +kernel
theorem d_M_countOf_47 : decode mt_M_countOf.2.1 47 = .ok (.iadd, 1) := by decide +kernel
theorem d_M_countOf_48 : decode mt_M_countOf.2.1 48 = .ok (.istore 4, 2) := by decide +kernel
theorem d_M_countOf_50 : decode mt_M_countOf.2.1 50 = .ok (.iinc 5 (1), 3) := by decide +kernel
theorem d_M_countOf_53 : decode mt_M_countOf.2.1 53 = .ok (.goto (-47), 3) := by decide +kernel
theorem d_M_countOf_56 : decode mt_M_countOf.2.1 56 = .ok (.iload 4, 2) := by decide +kernel
theorem d_M_countOf_58 : decode mt_M_countOf.2.1 58 = .ok (.ireturn, 1) := by decide +kernel
theorem d_M_isGood_0 : decode mt_M_isGood.2.1 0 = .ok (.aload_n 0, 1) := by decide +kernel
