/-! DECODE ROWS. Printed by wip/make.py. -/
theorem d_A_wagon_0 : decode mt_A_wagon.2.1 0 = .ok (.aload 6, 2) := by decide +kernel
theorem d_A_wagon_2 : decode mt_A_wagon.2.1 2 = .ok (.iconst 0, 1) := by decide +kernel
theorem d_A_wagon_3 : decode mt_A_wagon.2.1 3 = .ok (.aload_n 0, 1) := by decide +kernel
theorem d_A_wagon_4 : decode mt_A_wagon.2.1 4 = .ok (.iload_n 1, 1) := by decide +kernel
theorem d_A_wagon_5 : decode mt_A_wagon.2.1 5 = .ok (.lload_n 2, 1) := by decide +kernel
theorem d_A_wagon_6 : decode mt_A_wagon.2.1 6 = .ok (.iload 4, 2) := by decide +kernel
theorem d_A_wagon_8 : decode mt_A_wagon.2.1 8 = .ok (.iload 5, 2) := by decide +kernel
theorem d_A_wagon_10 : decode mt_A_wagon.2.1 10 = .ok (.invokevirtual 7, 3) := by decide +kernel
theorem d_A_wagon_13 : decode mt_A_wagon.2.1 13 = .ok (.i2l, 1) := by decide +kernel
theorem d_A_wagon_14 : decode mt_A_wagon.2.1 14 = .ok (.lastore, 1) := by decide +kernel
theorem d_A_wagon_15 : decode mt_A_wagon.2.1 15 = .ok (.goto (11), 3) := by decide +kernel
theorem d_A_wagon_18 : decode mt_A_wagon.2.1 18 = .ok (.astore 7, 2) := by decide +kernel
theorem d_A_wagon_20 : decode mt_A_wagon.2.1 20 = .ok (.iconst 1, 1) := by decide +kernel
theorem d_A_wagon_21 : decode mt_A_wagon.2.1 21 = .ok (.ireturn, 1) := by decide +kernel
theorem d_A_wagon_22 : decode mt_A_wagon.2.1 22 = .ok (.astore 7, 2) := by decide +kernel
theorem d_A_wagon_24 : decode mt_A_wagon.2.1 24 = .ok (.iconst 2, 1) := by decide +kernel
theorem d_A_wagon_25 : decode mt_A_wagon.2.1 25 = .ok (.ireturn, 1) := by decide +kernel
theorem d_A_wagon_26 : decode mt_A_wagon.2.1 26 = .ok (.iconst 0, 1) := by decide +kernel
theorem d_A_wagon_27 : decode mt_A_wagon.2.1 27 = .ok (.ireturn, 1) := by decide +kernel
theorem d_A_pattern_0 : decode mt_A_pattern.2.1 0 = .ok (.aload_n 3, 1) := by decide +kernel
theorem d_A_pattern_1 : decode mt_A_pattern.2.1 1 = .ok (.iconst 0, 1) := by decide +kernel
theorem d_A_pattern_2 : decode mt_A_pattern.2.1 2 = .ok (.aload_n 0, 1) := by decide +kernel
theorem d_A_pattern_3 : decode mt_A_pattern.2.1 3 = .ok (.iload_n 1, 1) := by decide +kernel
theorem d_A_pattern_4 : decode mt_A_pattern.2.1 4 = .ok (.iload_n 2, 1) := by decide +kernel
theorem d_A_pattern_5 : decode mt_A_pattern.2.1 5 = .ok (.invokevirtual 17, 3) := by decide +kernel
theorem d_A_pattern_8 : decode mt_A_pattern.2.1 8 = .ok (.i2l, 1) := by decide +kernel
theorem d_A_pattern_9 : decode mt_A_pattern.2.1 9 = .ok (.lastore, 1) := by decide +kernel
theorem d_A_pattern_10 : decode mt_A_pattern.2.1 10 = .ok (.goto (11), 3) := by decide +kernel
theorem d_A_pattern_13 : decode mt_A_pattern.2.1 13 = .ok (.astore 4, 2) := by decide +kernel
theorem d_A_pattern_15 : decode mt_A_pattern.2.1 15 = .ok (.iconst 1, 1) := by decide +kernel
theorem d_A_pattern_16 : decode mt_A_pattern.2.1 16 = .ok (.ireturn, 1) := by decide +kernel
theorem d_A_pattern_17 : decode mt_A_pattern.2.1 17 = .ok (.astore 4, 2) := by decide +kernel
theorem d_A_pattern_19 : decode mt_A_pattern.2.1 19 = .ok (.iconst 2, 1) := by decide +kernel
theorem d_A_pattern_20 : decode mt_A_pattern.2.1 20 = .ok (.ireturn, 1) := by decide +kernel
theorem d_A_pattern_21 : decode mt_A_pattern.2.1 21 = .ok (.iconst 0, 1) := by decide +kernel
theorem d_A_pattern_22 : decode mt_A_pattern.2.1 22 = .ok (.ireturn, 1) := by decide +kernel
theorem d_A_box_0 : decode mt_A_box.2.1 0 = .ok (.aload 8, 2) := by decide +kernel
theorem d_A_box_2 : decode mt_A_box.2.1 2 = .ok (.iconst 0, 1) := by decide +kernel
theorem d_A_box_3 : decode mt_A_box.2.1 3 = .ok (.aload_n 0, 1) := by decide +kernel
theorem d_A_box_4 : decode mt_A_box.2.1 4 = .ok (.iload_n 1, 1) := by decide +kernel
theorem d_A_box_5 : decode mt_A_box.2.1 5 = .ok (.lload_n 2, 1) := by decide +kernel
theorem d_A_box_6 : decode mt_A_box.2.1 6 = .ok (.iload 4, 2) := by decide +kernel
theorem d_A_box_8 : decode mt_A_box.2.1 8 = .ok (.iload 5, 2) := by decide +kernel
theorem d_A_box_10 : decode mt_A_box.2.1 10 = .ok (.lload 6, 2) := by decide +kernel
theorem d_A_box_12 : decode mt_A_box.2.1 12 = .ok (.invokevirtual 21, 3) := by decide +kernel
theorem d_A_box_15 : decode mt_A_box.2.1 15 = .ok (.i2l, 1) := by decide +kernel
theorem d_A_box_16 : decode mt_A_box.2.1 16 = .ok (.lastore, 1) := by decide +kernel
theorem d_A_box_17 : decode mt_A_box.2.1 17 = .ok (.goto (11), 3) := by decide +kernel
theorem d_A_box_20 : decode mt_A_box.2.1 20 = .ok (.astore 9, 2) := by decide +kernel
theorem d_A_box_22 : decode mt_A_box.2.1 22 = .ok (.iconst 1, 1) := by decide +kernel
theorem d_A_box_23 : decode mt_A_box.2.1 23 = .ok (.ireturn, 1) := by decide +kernel
theorem d_A_box_24 : decode mt_A_box.2.1 24 = .ok (.astore 9, 2) := by decide +kernel
theorem d_A_box_26 : decode mt_A_box.2.1 26 = .ok (.iconst 2, 1) := by decide +kernel
theorem d_A_box_27 : decode mt_A_box.2.1 27 = .ok (.ireturn, 1) := by decide +kernel
theorem d_A_box_28 : decode mt_A_box.2.1 28 = .ok (.iconst 0, 1) := by decide +kernel
theorem d_A_box_29 : decode mt_A_box.2.1 29 = .ok (.ireturn, 1) := by decide +kernel
theorem d_A_at_0 : decode mt_A_at.2.1 0 = .ok (.aload_n 3, 1) := by decide +kernel
theorem d_A_at_1 : decode mt_A_at.2.1 1 = .ok (.iconst 0, 1) := by decide +kernel
theorem d_A_at_2 : decode mt_A_at.2.1 2 = .ok (.aload_n 0, 1) := by decide +kernel
theorem d_A_at_3 : decode mt_A_at.2.1 3 = .ok (.iload_n 1, 1) := by decide +kernel
theorem d_A_at_4 : decode mt_A_at.2.1 4 = .ok (.iload_n 2, 1) := by decide +kernel
theorem d_A_at_5 : decode mt_A_at.2.1 5 = .ok (.invokevirtual 25, 3) := by decide +kernel
theorem d_A_at_8 : decode mt_A_at.2.1 8 = .ok (.i2l, 1) := by decide +kernel
theorem d_A_at_9 : decode mt_A_at.2.1 9 = .ok (.lastore, 1) := by decide +kernel
theorem d_A_at_10 : decode mt_A_at.2.1 10 = .ok (.goto (11), 3) := by decide +kernel
theorem d_A_at_13 : decode mt_A_at.2.1 13 = .ok (.astore 4, 2) := by decide +kernel
theorem d_A_at_15 : decode mt_A_at.2.1 15 = .ok (.iconst 1, 1) := by decide +kernel
theorem d_A_at_16 : decode mt_A_at.2.1 16 = .ok (.ireturn, 1) := by decide +kernel
theorem d_A_at_17 : decode mt_A_at.2.1 17 = .ok (.astore 4, 2) := by decide +kernel
theorem d_A_at_19 : decode mt_A_at.2.1 19 = .ok (.iconst 2, 1) := by decide +kernel
theorem d_A_at_20 : decode mt_A_at.2.1 20 = .ok (.ireturn, 1) := by decide +kernel
theorem d_A_at_21 : decode mt_A_at.2.1 21 = .ok (.iconst 0, 1) := by decide +kernel
theorem d_A_at_22 : decode mt_A_at.2.1 22 = .ok (.ireturn, 1) := by decide +kernel
theorem d_A_load_0 : decode mt_A_load.2.1 0 = .ok (.aload_n 3, 1) := by decide +kernel
theorem d_A_load_1 : decode mt_A_load.2.1 1 = .ok (.iconst 0, 1) := by decide +kernel
theorem d_A_load_2 : decode mt_A_load.2.1 2 = .ok (.aload_n 0, 1) := by decide +kernel
theorem d_A_load_3 : decode mt_A_load.2.1 3 = .ok (.iload_n 1, 1) := by decide +kernel
theorem d_A_load_4 : decode mt_A_load.2.1 4 = .ok (.iload_n 2, 1) := by decide +kernel
theorem d_A_load_5 : decode mt_A_load.2.1 5 = .ok (.invokevirtual 32, 3) := by decide +kernel
theorem d_A_load_8 : decode mt_A_load.2.1 8 = .ok (.lastore, 1) := by decide +kernel
theorem d_A_load_9 : decode mt_A_load.2.1 9 = .ok (.goto (11), 3) := by decide +kernel
theorem d_A_load_12 : decode mt_A_load.2.1 12 = .ok (.astore 4, 2) := by decide +kernel
theorem d_A_load_14 : decode mt_A_load.2.1 14 = .ok (.iconst 1, 1) := by decide +kernel
theorem d_A_load_15 : decode mt_A_load.2.1 15 = .ok (.ireturn, 1) := by decide +kernel
theorem d_A_load_16 : decode mt_A_load.2.1 16 = .ok (.astore 4, 2) := by decide +kernel
theorem d_A_load_18 : decode mt_A_load.2.1 18 = .ok (.iconst 2, 1) := by decide +kernel
theorem d_A_load_19 : decode mt_A_load.2.1 19 = .ok (.ireturn, 1) := by decide +kernel
theorem d_A_load_20 : decode mt_A_load.2.1 20 = .ok (.iconst 0, 1) := by decide +kernel
theorem d_A_load_21 : decode mt_A_load.2.1 21 = .ok (.ireturn, 1) := by decide +kernel
theorem d_A_axle_0 : decode mt_A_axle.2.1 0 = .ok (.aload_n 3, 1) := by decide +kernel
theorem d_A_axle_1 : decode mt_A_axle.2.1 1 = .ok (.iconst 0, 1) := by decide +kernel
theorem d_A_axle_2 : decode mt_A_axle.2.1 2 = .ok (.aload_n 0, 1) := by decide +kernel
theorem d_A_axle_3 : decode mt_A_axle.2.1 3 = .ok (.iload_n 1, 1) := by decide +kernel
theorem d_A_axle_4 : decode mt_A_axle.2.1 4 = .ok (.iload_n 2, 1) := by decide +kernel
theorem d_A_axle_5 : decode mt_A_axle.2.1 5 = .ok (.invokevirtual 36, 3) := by decide +kernel
theorem d_A_axle_8 : decode mt_A_axle.2.1 8 = .ok (.lastore, 1) := by decide +kernel
theorem d_A_axle_9 : decode mt_A_axle.2.1 9 = .ok (.goto (15), 3) := by decide +kernel
theorem d_A_axle_12 : decode mt_A_axle.2.1 12 = .ok (.astore 4, 2) := by decide +kernel
theorem d_A_axle_14 : decode mt_A_axle.2.1 14 = .ok (.iconst 1, 1) := by decide +kernel
theorem d_A_axle_15 : decode mt_A_axle.2.1 15 = .ok (.ireturn, 1) := by decide +kernel
theorem d_A_axle_16 : decode mt_A_axle.2.1 16 = .ok (.astore 4, 2) := by decide +kernel
theorem d_A_axle_18 : decode mt_A_axle.2.1 18 = .ok (.iconst 2, 1) := by decide +kernel
theorem d_A_axle_19 : decode mt_A_axle.2.1 19 = .ok (.ireturn, 1) := by decide +kernel
theorem d_A_axle_20 : decode mt_A_axle.2.1 20 = .ok (.astore 4, 2) := by decide +kernel
theorem d_A_axle_22 : decode mt_A_axle.2.1 22 = .ok (.iconst 3, 1) := by decide +kernel
theorem d_A_axle_23 : decode mt_A_axle.2.1 23 = .ok (.ireturn, 1) := by decide +kernel
theorem d_A_axle_24 : decode mt_A_axle.2.1 24 = .ok (.iconst 0, 1) := by decide +kernel
theorem d_A_axle_25 : decode mt_A_axle.2.1 25 = .ok (.ireturn, 1) := by decide +kernel
theorem d_A_standby_0 : decode mt_A_standby.2.1 0 = .ok (.aload_n 2, 1) := by decide +kernel
theorem d_A_standby_1 : decode mt_A_standby.2.1 1 = .ok (.iconst 0, 1) := by decide +kernel
theorem d_A_standby_2 : decode mt_A_standby.2.1 2 = .ok (.aload_n 0, 1) := by decide +kernel
theorem d_A_standby_3 : decode mt_A_standby.2.1 3 = .ok (.iload_n 1, 1) := by decide +kernel
theorem d_A_standby_4 : decode mt_A_standby.2.1 4 = .ok (.invokevirtual 41, 3) := by decide +kernel
theorem d_A_standby_7 : decode mt_A_standby.2.1 7 = .ok (.i2l, 1) := by decide +kernel
theorem d_A_standby_8 : decode mt_A_standby.2.1 8 = .ok (.lastore, 1) := by decide +kernel
theorem d_A_standby_9 : decode mt_A_standby.2.1 9 = .ok (.goto (6), 3) := by decide +kernel
theorem d_A_standby_12 : decode mt_A_standby.2.1 12 = .ok (.astore_n 3, 1) := by decide +kernel
theorem d_A_standby_13 : decode mt_A_standby.2.1 13 = .ok (.iconst 1, 1) := by decide +kernel
theorem d_A_standby_14 : decode mt_A_standby.2.1 14 = .ok (.ireturn, 1) := by decide +kernel
theorem d_A_standby_15 : decode mt_A_standby.2.1 15 = .ok (.iconst 0, 1) := by decide +kernel
theorem d_A_standby_16 : decode mt_A_standby.2.1 16 = .ok (.ireturn, 1) := by decide +kernel
theorem d_A_refused_0 : decode mt_A_refused.2.1 0 = .ok (.aload_n 2, 1) := by decide +kernel
theorem d_A_refused_1 : decode mt_A_refused.2.1 1 = .ok (.iconst 0, 1) := by decide +kernel
theorem d_A_refused_2 : decode mt_A_refused.2.1 2 = .ok (.aload_n 0, 1) := by decide +kernel
theorem d_A_refused_3 : decode mt_A_refused.2.1 3 = .ok (.iload_n 1, 1) := by decide +kernel
theorem d_A_refused_4 : decode mt_A_refused.2.1 4 = .ok (.invokevirtual 45, 3) := by decide +kernel
theorem d_A_refused_7 : decode mt_A_refused.2.1 7 = .ok (.i2l, 1) := by decide +kernel
theorem d_A_refused_8 : decode mt_A_refused.2.1 8 = .ok (.lastore, 1) := by decide +kernel
theorem d_A_refused_9 : decode mt_A_refused.2.1 9 = .ok (.goto (6), 3) := by decide +kernel
theorem d_A_refused_12 : decode mt_A_refused.2.1 12 = .ok (.astore_n 3, 1) := by decide +kernel
theorem d_A_refused_13 : decode mt_A_refused.2.1 13 = .ok (.iconst 1, 1) := by decide +kernel
theorem d_A_refused_14 : decode mt_A_refused.2.1 14 = .ok (.ireturn, 1) := by decide +kernel
theorem d_A_refused_15 : decode mt_A_refused.2.1 15 = .ok (.iconst 0, 1) := by decide +kernel
theorem d_A_refused_16 : decode mt_A_refused.2.1 16 = .ok (.ireturn, 1) := by decide +kernel
theorem d_A_together_0 : decode mt_A_together.2.1 0 = .ok (.aload_n 3, 1) := by decide +kernel
theorem d_A_together_1 : decode mt_A_together.2.1 1 = .ok (.iconst 0, 1) := by decide +kernel
theorem d_A_together_2 : decode mt_A_together.2.1 2 = .ok (.aload_n 0, 1) := by decide +kernel
theorem d_A_together_3 : decode mt_A_together.2.1 3 = .ok (.iload_n 1, 1) := by decide +kernel
theorem d_A_together_4 : decode mt_A_together.2.1 4 = .ok (.iload_n 2, 1) := by decide +kernel
theorem d_A_together_5 : decode mt_A_together.2.1 5 = .ok (.invokevirtual 48, 3) := by decide +kernel
theorem d_A_together_8 : decode mt_A_together.2.1 8 = .ok (.ifCond .eq (7), 3) := by decide +kernel
theorem d_A_together_11 : decode mt_A_together.2.1 11 = .ok (.lconst 1, 1) := by decide +kernel
theorem d_A_together_12 : decode mt_A_together.2.1 12 = .ok (.goto (4), 3) := by decide +kernel
theorem d_A_together_15 : decode mt_A_together.2.1 15 = .ok (.lconst 0, 1) := by decide +kernel
theorem d_A_together_16 : decode mt_A_together.2.1 16 = .ok (.lastore, 1) := by decide +kernel
theorem d_A_together_17 : decode mt_A_together.2.1 17 = .ok (.goto (7), 3) := by decide +kernel
theorem d_A_together_20 : decode mt_A_together.2.1 20 = .ok (.astore 4, 2) := by decide +kernel
theorem d_A_together_22 : decode mt_A_together.2.1 22 = .ok (.iconst 1, 1) := by decide +kernel
theorem d_A_together_23 : decode mt_A_together.2.1 23 = .ok (.ireturn, 1) := by decide +kernel
theorem d_A_together_24 : decode mt_A_together.2.1 24 = .ok (.iconst 0, 1) := by decide +kernel
theorem d_A_together_25 : decode mt_A_together.2.1 25 = .ok (.ireturn, 1) := by decide +kernel
theorem d_A_law_0 : decode mt_A_law.2.1 0 = .ok (.new 8, 3) := by decide +kernel
theorem d_A_law_3 : decode mt_A_law.2.1 3 = .ok (.dup, 1) := by decide +kernel
theorem d_A_law_4 : decode mt_A_law.2.1 4 = .ok (.invokespecial 52, 3) := by decide +kernel
theorem d_A_law_7 : decode mt_A_law.2.1 7 = .ok (.astore_n 1, 1) := by decide +kernel
theorem d_A_law_8 : decode mt_A_law.2.1 8 = .ok (.new 53, 3) := by decide +kernel
theorem d_A_law_11 : decode mt_A_law.2.1 11 = .ok (.dup, 1) := by decide +kernel
theorem d_A_law_12 : decode mt_A_law.2.1 12 = .ok (.invokespecial 55, 3) := by decide +kernel
theorem d_A_law_15 : decode mt_A_law.2.1 15 = .ok (.astore_n 2, 1) := by decide +kernel
theorem d_A_law_16 : decode mt_A_law.2.1 16 = .ok (.iconst 1, 1) := by decide +kernel
theorem d_A_law_17 : decode mt_A_law.2.1 17 = .ok (.newarray .long, 2) := by decide +kernel
theorem d_A_law_19 : decode mt_A_law.2.1 19 = .ok (.astore_n 3, 1) := by decide +kernel
theorem d_A_law_20 : decode mt_A_law.2.1 20 = .ok (.iconst 0, 1) := by decide +kernel
theorem d_A_law_21 : decode mt_A_law.2.1 21 = .ok (.istore 4, 2) := by decide +kernel
theorem d_A_law_23 : decode mt_A_law.2.1 23 = .ok (.iload 4, 2) := by decide +kernel
theorem d_A_law_25 : decode mt_A_law.2.1 25 = .ok (.aload_n 0, 1) := by decide +kernel
theorem d_A_law_26 : decode mt_A_law.2.1 26 = .ok (.arraylength, 1) := by decide +kernel
theorem d_A_law_27 : decode mt_A_law.2.1 27 = .ok (.bipush (8), 2) := by decide +kernel
theorem d_A_law_29 : decode mt_A_law.2.1 29 = .ok (.isub, 1) := by decide +kernel
theorem d_A_law_30 : decode mt_A_law.2.1 30 = .ok (.if_icmp .gt (1038), 3) := by decide +kernel
theorem d_A_law_33 : decode mt_A_law.2.1 33 = .ok (.aload_n 0, 1) := by decide +kernel
theorem d_A_law_34 : decode mt_A_law.2.1 34 = .ok (.iload 4, 2) := by decide +kernel
theorem d_A_law_36 : decode mt_A_law.2.1 36 = .ok (.iaload, 1) := by decide +kernel
theorem d_A_law_37 : decode mt_A_law.2.1 37 = .ok (.bipush (15), 2) := by decide +kernel
theorem d_A_law_39 : decode mt_A_law.2.1 39 = .ok (.iand, 1) := by decide +kernel
theorem d_A_law_40 : decode mt_A_law.2.1 40 = .ok (.tableswitch (1022) (0) (13) #[72, 196, 264, 436, 485, 542, 595, 608, 676, 743, 810, 866, 922, 997], 72) := by decide +kernel
theorem d_A_law_112 : decode mt_A_law.2.1 112 = .ok (.aload_n 1, 1) := by decide +kernel
theorem d_A_law_113 : decode mt_A_law.2.1 113 = .ok (.aload_n 0, 1) := by decide +kernel
theorem d_A_law_114 : decode mt_A_law.2.1 114 = .ok (.iload 4, 2) := by decide +kernel
theorem d_A_law_116 : decode mt_A_law.2.1 116 = .ok (.iconst 1, 1) := by decide +kernel
theorem d_A_law_117 : decode mt_A_law.2.1 117 = .ok (.iadd, 1) := by decide +kernel
theorem d_A_law_118 : decode mt_A_law.2.1 118 = .ok (.iaload, 1) := by decide +kernel
theorem d_A_law_119 : decode mt_A_law.2.1 119 = .ok (.aload_n 0, 1) := by decide +kernel
theorem d_A_law_120 : decode mt_A_law.2.1 120 = .ok (.iload 4, 2) := by decide +kernel
theorem d_A_law_122 : decode mt_A_law.2.1 122 = .ok (.iconst 2, 1) := by decide +kernel
theorem d_A_law_123 : decode mt_A_law.2.1 123 = .ok (.iadd, 1) := by decide +kernel
theorem d_A_law_124 : decode mt_A_law.2.1 124 = .ok (.iaload, 1) := by decide +kernel
theorem d_A_law_125 : decode mt_A_law.2.1 125 = .ok (.i2l, 1) := by decide +kernel
theorem d_A_law_126 : decode mt_A_law.2.1 126 = .ok (.bipush (32), 2) := by decide +kernel
theorem d_A_law_128 : decode mt_A_law.2.1 128 = .ok (.lshl, 1) := by decide +kernel
theorem d_A_law_129 : decode mt_A_law.2.1 129 = .ok (.aload_n 0, 1) := by decide +kernel
theorem d_A_law_130 : decode mt_A_law.2.1 130 = .ok (.iload 4, 2) := by decide +kernel
theorem d_A_law_132 : decode mt_A_law.2.1 132 = .ok (.iconst 3, 1) := by decide +kernel
theorem d_A_law_133 : decode mt_A_law.2.1 133 = .ok (.iadd, 1) := by decide +kernel
theorem d_A_law_134 : decode mt_A_law.2.1 134 = .ok (.iaload, 1) := by decide +kernel
theorem d_A_law_135 : decode mt_A_law.2.1 135 = .ok (.i2l, 1) := by decide +kernel
theorem d_A_law_136 : decode mt_A_law.2.1 136 = .ok (.ldc2_w 56, 3) := by decide +kernel
theorem d_A_law_139 : decode mt_A_law.2.1 139 = .ok (.land, 1) := by decide +kernel
theorem d_A_law_140 : decode mt_A_law.2.1 140 = .ok (.lor, 1) := by decide +kernel
theorem d_A_law_141 : decode mt_A_law.2.1 141 = .ok (.aload_n 0, 1) := by decide +kernel
theorem d_A_law_142 : decode mt_A_law.2.1 142 = .ok (.iload 4, 2) := by decide +kernel
theorem d_A_law_144 : decode mt_A_law.2.1 144 = .ok (.iconst 4, 1) := by decide +kernel
theorem d_A_law_145 : decode mt_A_law.2.1 145 = .ok (.iadd, 1) := by decide +kernel
theorem d_A_law_146 : decode mt_A_law.2.1 146 = .ok (.iaload, 1) := by decide +kernel
theorem d_A_law_147 : decode mt_A_law.2.1 147 = .ok (.aload_n 0, 1) := by decide +kernel
theorem d_A_law_148 : decode mt_A_law.2.1 148 = .ok (.iload 4, 2) := by decide +kernel
theorem d_A_law_150 : decode mt_A_law.2.1 150 = .ok (.iconst 5, 1) := by decide +kernel
theorem d_A_law_151 : decode mt_A_law.2.1 151 = .ok (.iadd, 1) := by decide +kernel
theorem d_A_law_152 : decode mt_A_law.2.1 152 = .ok (.iaload, 1) := by decide +kernel
theorem d_A_law_153 : decode mt_A_law.2.1 153 = .ok (.aload_n 3, 1) := by decide +kernel
theorem d_A_law_154 : decode mt_A_law.2.1 154 = .ok (.invokestatic 58, 3) := by decide +kernel
theorem d_A_law_157 : decode mt_A_law.2.1 157 = .ok (.istore 5, 2) := by decide +kernel
theorem d_A_law_159 : decode mt_A_law.2.1 159 = .ok (.aload_n 2, 1) := by decide +kernel
theorem d_A_law_160 : decode mt_A_law.2.1 160 = .ok (.aload_n 0, 1) := by decide +kernel
theorem d_A_law_161 : decode mt_A_law.2.1 161 = .ok (.iload 4, 2) := by decide +kernel
theorem d_A_law_163 : decode mt_A_law.2.1 163 = .ok (.iconst 1, 1) := by decide +kernel
theorem d_A_law_164 : decode mt_A_law.2.1 164 = .ok (.iadd, 1) := by decide +kernel
theorem d_A_law_165 : decode mt_A_law.2.1 165 = .ok (.iaload, 1) := by decide +kernel
theorem d_A_law_166 : decode mt_A_law.2.1 166 = .ok (.aload_n 0, 1) := by decide +kernel
theorem d_A_law_167 : decode mt_A_law.2.1 167 = .ok (.iload 4, 2) := by decide +kernel
theorem d_A_law_169 : decode mt_A_law.2.1 169 = .ok (.iconst 2, 1) := by decide +kernel
theorem d_A_law_170 : decode mt_A_law.2.1 170 = .ok (.iadd, 1) := by decide +kernel
theorem d_A_law_171 : decode mt_A_law.2.1 171 = .ok (.iaload, 1) := by decide +kernel
theorem d_A_law_172 : decode mt_A_law.2.1 172 = .ok (.i2l, 1) := by decide +kernel
theorem d_A_law_173 : decode mt_A_law.2.1 173 = .ok (.bipush (32), 2) := by decide +kernel
theorem d_A_law_175 : decode mt_A_law.2.1 175 = .ok (.lshl, 1) := by decide +kernel
theorem d_A_law_176 : decode mt_A_law.2.1 176 = .ok (.aload_n 0, 1) := by decide +kernel
theorem d_A_law_177 : decode mt_A_law.2.1 177 = .ok (.iload 4, 2) := by decide +kernel
theorem d_A_law_179 : decode mt_A_law.2.1 179 = .ok (.iconst 3, 1) := by decide +kernel
theorem d_A_law_180 : decode mt_A_law.2.1 180 = .ok (.iadd, 1) := by decide +kernel
theorem d_A_law_181 : decode mt_A_law.2.1 181 = .ok (.iaload, 1) := by decide +kernel
theorem d_A_law_182 : decode mt_A_law.2.1 182 = .ok (.i2l, 1) := by decide +kernel
theorem d_A_law_183 : decode mt_A_law.2.1 183 = .ok (.ldc2_w 56, 3) := by decide +kernel
theorem d_A_law_186 : decode mt_A_law.2.1 186 = .ok (.land, 1) := by decide +kernel
theorem d_A_law_187 : decode mt_A_law.2.1 187 = .ok (.lor, 1) := by decide +kernel
theorem d_A_law_188 : decode mt_A_law.2.1 188 = .ok (.aload_n 0, 1) := by decide +kernel
theorem d_A_law_189 : decode mt_A_law.2.1 189 = .ok (.iload 4, 2) := by decide +kernel
theorem d_A_law_191 : decode mt_A_law.2.1 191 = .ok (.iconst 4, 1) := by decide +kernel
theorem d_A_law_192 : decode mt_A_law.2.1 192 = .ok (.iadd, 1) := by decide +kernel
theorem d_A_law_193 : decode mt_A_law.2.1 193 = .ok (.iaload, 1) := by decide +kernel
theorem d_A_law_194 : decode mt_A_law.2.1 194 = .ok (.aload_n 0, 1) := by decide +kernel
theorem d_A_law_195 : decode mt_A_law.2.1 195 = .ok (.iload 4, 2) := by decide +kernel
theorem d_A_law_197 : decode mt_A_law.2.1 197 = .ok (.iconst 5, 1) := by decide +kernel
theorem d_A_law_198 : decode mt_A_law.2.1 198 = .ok (.iadd, 1) := by decide +kernel
theorem d_A_law_199 : decode mt_A_law.2.1 199 = .ok (.iaload, 1) := by decide +kernel
theorem d_A_law_200 : decode mt_A_law.2.1 200 = .ok (.invokevirtual 63, 3) := by decide +kernel
theorem d_A_law_203 : decode mt_A_law.2.1 203 = .ok (.istore 6, 2) := by decide +kernel
theorem d_A_law_205 : decode mt_A_law.2.1 205 = .ok (.aload_n 2, 1) := by decide +kernel
theorem d_A_law_206 : decode mt_A_law.2.1 206 = .ok (.invokevirtual 64, 3) := by decide +kernel
theorem d_A_law_209 : decode mt_A_law.2.1 209 = .ok (.iload 5, 2) := by decide +kernel
theorem d_A_law_211 : decode mt_A_law.2.1 211 = .ok (.if_icmp .eq (5), 3) := by decide +kernel
theorem d_A_law_214 : decode mt_A_law.2.1 214 = .ok (.iconst 0, 1) := by decide +kernel
theorem d_A_law_215 : decode mt_A_law.2.1 215 = .ok (.ireturn, 1) := by decide +kernel
theorem d_A_law_216 : decode mt_A_law.2.1 216 = .ok (.iload 5, 2) := by decide +kernel
theorem d_A_law_218 : decode mt_A_law.2.1 218 = .ok (.ifCond .ne (15), 3) := by decide +kernel
theorem d_A_law_221 : decode mt_A_law.2.1 221 = .ok (.aload_n 3, 1) := by decide +kernel
theorem d_A_law_222 : decode mt_A_law.2.1 222 = .ok (.iconst 0, 1) := by decide +kernel
theorem d_A_law_223 : decode mt_A_law.2.1 223 = .ok (.laload, 1) := by decide +kernel
theorem d_A_law_224 : decode mt_A_law.2.1 224 = .ok (.iload 6, 2) := by decide +kernel
theorem d_A_law_226 : decode mt_A_law.2.1 226 = .ok (.i2l, 1) := by decide +kernel
theorem d_A_law_227 : decode mt_A_law.2.1 227 = .ok (.lcmp, 1) := by decide +kernel
theorem d_A_law_228 : decode mt_A_law.2.1 228 = .ok (.ifCond .eq (5), 3) := by decide +kernel
theorem d_A_law_231 : decode mt_A_law.2.1 231 = .ok (.iconst 0, 1) := by decide +kernel
theorem d_A_law_232 : decode mt_A_law.2.1 232 = .ok (.ireturn, 1) := by decide +kernel
theorem d_A_law_233 : decode mt_A_law.2.1 233 = .ok (.goto (829), 3) := by decide +kernel
theorem d_A_law_236 : decode mt_A_law.2.1 236 = .ok (.aload_n 1, 1) := by decide +kernel
theorem d_A_law_237 : decode mt_A_law.2.1 237 = .ok (.aload_n 0, 1) := by decide +kernel
theorem d_A_law_238 : decode mt_A_law.2.1 238 = .ok (.iload 4, 2) := by decide +kernel
theorem d_A_law_240 : decode mt_A_law.2.1 240 = .ok (.iconst 1, 1) := by decide +kernel
theorem d_A_law_241 : decode mt_A_law.2.1 241 = .ok (.iadd, 1) := by decide +kernel
theorem d_A_law_242 : decode mt_A_law.2.1 242 = .ok (.iaload, 1) := by decide +kernel
theorem d_A_law_243 : decode mt_A_law.2.1 243 = .ok (.aload_n 0, 1) := by decide +kernel
theorem d_A_law_244 : decode mt_A_law.2.1 244 = .ok (.iload 4, 2) := by decide +kernel
theorem d_A_law_246 : decode mt_A_law.2.1 246 = .ok (.iconst 2, 1) := by decide +kernel
theorem d_A_law_247 : decode mt_A_law.2.1 247 = .ok (.iadd, 1) := by decide +kernel
theorem d_A_law_248 : decode mt_A_law.2.1 248 = .ok (.iaload, 1) := by decide +kernel
theorem d_A_law_249 : decode mt_A_law.2.1 249 = .ok (.aload_n 3, 1) := by decide +kernel
theorem d_A_law_250 : decode mt_A_law.2.1 250 = .ok (.invokestatic 68, 3) := by decide +kernel
theorem d_A_law_253 : decode mt_A_law.2.1 253 = .ok (.istore 5, 2) := by decide +kernel
theorem d_A_law_255 : decode mt_A_law.2.1 255 = .ok (.aload_n 2, 1) := by decide +kernel
theorem d_A_law_256 : decode mt_A_law.2.1 256 = .ok (.aload_n 0, 1) := by decide +kernel
theorem d_A_law_257 : decode mt_A_law.2.1 257 = .ok (.iload 4, 2) := by decide +kernel
theorem d_A_law_259 : decode mt_A_law.2.1 259 = .ok (.iconst 1, 1) := by decide +kernel
theorem d_A_law_260 : decode mt_A_law.2.1 260 = .ok (.iadd, 1) := by decide +kernel
theorem d_A_law_261 : decode mt_A_law.2.1 261 = .ok (.iaload, 1) := by decide +kernel
theorem d_A_law_262 : decode mt_A_law.2.1 262 = .ok (.aload_n 0, 1) := by decide +kernel
theorem d_A_law_263 : decode mt_A_law.2.1 263 = .ok (.iload 4, 2) := by decide +kernel
theorem d_A_law_265 : decode mt_A_law.2.1 265 = .ok (.iconst 2, 1) := by decide +kernel
theorem d_A_law_266 : decode mt_A_law.2.1 266 = .ok (.iadd, 1) := by decide +kernel
theorem d_A_law_267 : decode mt_A_law.2.1 267 = .ok (.iaload, 1) := by decide +kernel
theorem d_A_law_268 : decode mt_A_law.2.1 268 = .ok (.invokevirtual 71, 3) := by decide +kernel
theorem d_A_law_271 : decode mt_A_law.2.1 271 = .ok (.istore 6, 2) := by decide +kernel
theorem d_A_law_273 : decode mt_A_law.2.1 273 = .ok (.aload_n 2, 1) := by decide +kernel
theorem d_A_law_274 : decode mt_A_law.2.1 274 = .ok (.invokevirtual 64, 3) := by decide +kernel
theorem d_A_law_277 : decode mt_A_law.2.1 277 = .ok (.iload 5, 2) := by decide +kernel
theorem d_A_law_279 : decode mt_A_law.2.1 279 = .ok (.if_icmp .eq (5), 3) := by decide +kernel
theorem d_A_law_282 : decode mt_A_law.2.1 282 = .ok (.iconst 0, 1) := by decide +kernel
theorem d_A_law_283 : decode mt_A_law.2.1 283 = .ok (.ireturn, 1) := by decide +kernel
theorem d_A_law_284 : decode mt_A_law.2.1 284 = .ok (.iload 5, 2) := by decide +kernel
theorem d_A_law_286 : decode mt_A_law.2.1 286 = .ok (.ifCond .ne (15), 3) := by decide +kernel
