/-! DECODE ROWS. Printed by wip/make.py. -/
theorem d_X_load_12 : decode mt_X_load.2.1 12 = .ok (.i2l, 1) := by decide +kernel
theorem d_X_load_13 : decode mt_X_load.2.1 13 = .ok (.lconst 0, 1) := by decide +kernel
theorem d_X_load_14 : decode mt_X_load.2.1 14 = .ok (.ldc2_w 93, 3) := by decide +kernel
theorem d_X_load_17 : decode mt_X_load.2.1 17 = .ok (.invokestatic 31, 3) := by decide +kernel
theorem d_X_load_20 : decode mt_X_load.2.1 20 = .ok (.ifCond .ne (13), 3) := by decide +kernel
theorem d_X_load_23 : decode mt_X_load.2.1 23 = .ok (.new 131, 3) := by decide +kernel
theorem d_X_load_26 : decode mt_X_load.2.1 26 = .ok (.dup, 1) := by decide +kernel
theorem d_X_load_27 : decode mt_X_load.2.1 27 = .ok (.ldc 145, 2) := by decide +kernel
theorem d_X_load_29 : decode mt_X_load.2.1 29 = .ok (.invokespecial 135, 3) := by decide +kernel
theorem d_X_load_32 : decode mt_X_load.2.1 32 = .ok (.athrow, 1) := by decide +kernel
theorem d_X_load_33 : decode mt_X_load.2.1 33 = .ok (.aload_n 0, 1) := by decide +kernel
theorem d_X_load_34 : decode mt_X_load.2.1 34 = .ok (.invokevirtual 136, 3) := by decide +kernel
theorem d_X_load_37 : decode mt_X_load.2.1 37 = .ok (.aload_n 0, 1) := by decide +kernel
theorem d_X_load_38 : decode mt_X_load.2.1 38 = .ok (.getfield 21, 3) := by decide +kernel
theorem d_X_load_41 : decode mt_X_load.2.1 41 = .ok (.getfield 147, 3) := by decide +kernel
theorem d_X_load_44 : decode mt_X_load.2.1 44 = .ok (.iload_n 1, 1) := by decide +kernel
theorem d_X_load_45 : decode mt_X_load.2.1 45 = .ok (.aaload, 1) := by decide +kernel
theorem d_X_load_46 : decode mt_X_load.2.1 46 = .ok (.astore_n 3, 1) := by decide +kernel
theorem d_X_load_47 : decode mt_X_load.2.1 47 = .ok (.iload_n 2, 1) := by decide +kernel
theorem d_X_load_48 : decode mt_X_load.2.1 48 = .ok (.tableswitch (50) (0) (2) #[28, 38, 44], 28) := by decide +kernel
theorem d_X_load_76 : decode mt_X_load.2.1 76 = .ok (.aload_n 0, 1) := by decide +kernel
theorem d_X_load_77 : decode mt_X_load.2.1 77 = .ok (.getfield 21, 3) := by decide +kernel
theorem d_X_load_80 : decode mt_X_load.2.1 80 = .ok (.iload_n 1, 1) := by decide +kernel
theorem d_X_load_81 : decode mt_X_load.2.1 81 = .ok (.invokevirtual 151, 3) := by decide +kernel
theorem d_X_load_84 : decode mt_X_load.2.1 84 = .ok (.i2l, 1) := by decide +kernel
theorem d_X_load_85 : decode mt_X_load.2.1 85 = .ok (.lreturn, 1) := by decide +kernel
theorem d_X_load_86 : decode mt_X_load.2.1 86 = .ok (.aload_n 3, 1) := by decide +kernel
theorem d_X_load_87 : decode mt_X_load.2.1 87 = .ok (.getfield 154, 3) := by decide +kernel
theorem d_X_load_90 : decode mt_X_load.2.1 90 = .ok (.i2l, 1) := by decide +kernel
theorem d_X_load_91 : decode mt_X_load.2.1 91 = .ok (.lreturn, 1) := by decide +kernel
theorem d_X_load_92 : decode mt_X_load.2.1 92 = .ok (.aload_n 3, 1) := by decide +kernel
theorem d_X_load_93 : decode mt_X_load.2.1 93 = .ok (.getfield 157, 3) := by decide +kernel
theorem d_X_load_96 : decode mt_X_load.2.1 96 = .ok (.i2l, 1) := by decide +kernel
theorem d_X_load_97 : decode mt_X_load.2.1 97 = .ok (.lreturn, 1) := by decide +kernel
theorem d_X_load_98 : decode mt_X_load.2.1 98 = .ok (.aload_n 3, 1) := by decide +kernel
theorem d_X_load_99 : decode mt_X_load.2.1 99 = .ok (.getfield 158, 3) := by decide +kernel
theorem d_X_load_102 : decode mt_X_load.2.1 102 = .ok (.lreturn, 1) := by decide +kernel
theorem d_X_axle_0 : decode mt_X_axle.2.1 0 = .ok (.aload_n 0, 1) := by decide +kernel
theorem d_X_axle_1 : decode mt_X_axle.2.1 1 = .ok (.getfield 10, 3) := by decide +kernel
theorem d_X_axle_4 : decode mt_X_axle.2.1 4 = .ok (.iload_n 1, 1) := by decide +kernel
theorem d_X_axle_5 : decode mt_X_axle.2.1 5 = .ok (.invokevirtual 61, 3) := by decide +kernel
theorem d_X_axle_8 : decode mt_X_axle.2.1 8 = .ok (.ifCond .eq (13), 3) := by decide +kernel
theorem d_X_axle_11 : decode mt_X_axle.2.1 11 = .ok (.iload_n 2, 1) := by decide +kernel
theorem d_X_axle_12 : decode mt_X_axle.2.1 12 = .ok (.i2l, 1) := by decide +kernel
theorem d_X_axle_13 : decode mt_X_axle.2.1 13 = .ok (.lconst 0, 1) := by decide +kernel
theorem d_X_axle_14 : decode mt_X_axle.2.1 14 = .ok (.lconst 1, 1) := by decide +kernel
theorem d_X_axle_15 : decode mt_X_axle.2.1 15 = .ok (.invokestatic 31, 3) := by decide +kernel
theorem d_X_axle_18 : decode mt_X_axle.2.1 18 = .ok (.ifCond .ne (13), 3) := by decide +kernel
theorem d_X_axle_21 : decode mt_X_axle.2.1 21 = .ok (.new 131, 3) := by decide +kernel
theorem d_X_axle_24 : decode mt_X_axle.2.1 24 = .ok (.dup, 1) := by decide +kernel
theorem d_X_axle_25 : decode mt_X_axle.2.1 25 = .ok (.ldc 161, 2) := by decide +kernel
theorem d_X_axle_27 : decode mt_X_axle.2.1 27 = .ok (.invokespecial 135, 3) := by decide +kernel
theorem d_X_axle_30 : decode mt_X_axle.2.1 30 = .ok (.athrow, 1) := by decide +kernel
theorem d_X_axle_31 : decode mt_X_axle.2.1 31 = .ok (.aload_n 0, 1) := by decide +kernel
theorem d_X_axle_32 : decode mt_X_axle.2.1 32 = .ok (.invokevirtual 136, 3) := by decide +kernel
theorem d_X_axle_35 : decode mt_X_axle.2.1 35 = .ok (.aload_n 0, 1) := by decide +kernel
theorem d_X_axle_36 : decode mt_X_axle.2.1 36 = .ok (.getfield 10, 3) := by decide +kernel
theorem d_X_axle_39 : decode mt_X_axle.2.1 39 = .ok (.getfield 67, 3) := by decide +kernel
theorem d_X_axle_42 : decode mt_X_axle.2.1 42 = .ok (.iload_n 1, 1) := by decide +kernel
theorem d_X_axle_43 : decode mt_X_axle.2.1 43 = .ok (.aaload, 1) := by decide +kernel
theorem d_X_axle_44 : decode mt_X_axle.2.1 44 = .ok (.getfield 163, 3) := by decide +kernel
theorem d_X_axle_47 : decode mt_X_axle.2.1 47 = .ok (.istore_n 3, 1) := by decide +kernel
theorem d_X_axle_48 : decode mt_X_axle.2.1 48 = .ok (.iload_n 3, 1) := by decide +kernel
theorem d_X_axle_49 : decode mt_X_axle.2.1 49 = .ok (.ifCond .ne (13), 3) := by decide +kernel
theorem d_X_axle_52 : decode mt_X_axle.2.1 52 = .ok (.new 166, 3) := by decide +kernel
theorem d_X_axle_55 : decode mt_X_axle.2.1 55 = .ok (.dup, 1) := by decide +kernel
theorem d_X_axle_56 : decode mt_X_axle.2.1 56 = .ok (.ldc 168, 2) := by decide +kernel
theorem d_X_axle_58 : decode mt_X_axle.2.1 58 = .ok (.invokespecial 170, 3) := by decide +kernel
theorem d_X_axle_61 : decode mt_X_axle.2.1 61 = .ok (.athrow, 1) := by decide +kernel
theorem d_X_axle_62 : decode mt_X_axle.2.1 62 = .ok (.aload_n 0, 1) := by decide +kernel
theorem d_X_axle_63 : decode mt_X_axle.2.1 63 = .ok (.getfield 21, 3) := by decide +kernel
theorem d_X_axle_66 : decode mt_X_axle.2.1 66 = .ok (.getfield 147, 3) := by decide +kernel
theorem d_X_axle_69 : decode mt_X_axle.2.1 69 = .ok (.iload_n 1, 1) := by decide +kernel
theorem d_X_axle_70 : decode mt_X_axle.2.1 70 = .ok (.aaload, 1) := by decide +kernel
theorem d_X_axle_71 : decode mt_X_axle.2.1 71 = .ok (.getfield 158, 3) := by decide +kernel
theorem d_X_axle_74 : decode mt_X_axle.2.1 74 = .ok (.lstore 4, 2) := by decide +kernel
theorem d_X_axle_76 : decode mt_X_axle.2.1 76 = .ok (.iload_n 2, 1) := by decide +kernel
theorem d_X_axle_77 : decode mt_X_axle.2.1 77 = .ok (.ifCond .ne (11), 3) := by decide +kernel
theorem d_X_axle_80 : decode mt_X_axle.2.1 80 = .ok (.lload 4, 2) := by decide +kernel
theorem d_X_axle_82 : decode mt_X_axle.2.1 82 = .ok (.iload_n 3, 1) := by decide +kernel
theorem d_X_axle_83 : decode mt_X_axle.2.1 83 = .ok (.i2l, 1) := by decide +kernel
theorem d_X_axle_84 : decode mt_X_axle.2.1 84 = .ok (.ldiv, 1) := by decide +kernel
theorem d_X_axle_85 : decode mt_X_axle.2.1 85 = .ok (.goto (8), 3) := by decide +kernel
theorem d_X_axle_88 : decode mt_X_axle.2.1 88 = .ok (.lload 4, 2) := by decide +kernel
theorem d_X_axle_90 : decode mt_X_axle.2.1 90 = .ok (.iload_n 3, 1) := by decide +kernel
theorem d_X_axle_91 : decode mt_X_axle.2.1 91 = .ok (.i2l, 1) := by decide +kernel
theorem d_X_axle_92 : decode mt_X_axle.2.1 92 = .ok (.lrem, 1) := by decide +kernel
theorem d_X_axle_93 : decode mt_X_axle.2.1 93 = .ok (.lreturn, 1) := by decide +kernel
theorem d_X_standby_0 : decode mt_X_standby.2.1 0 = .ok (.aload_n 0, 1) := by decide +kernel
theorem d_X_standby_1 : decode mt_X_standby.2.1 1 = .ok (.invokevirtual 136, 3) := by decide +kernel
theorem d_X_standby_4 : decode mt_X_standby.2.1 4 = .ok (.aload_n 0, 1) := by decide +kernel
theorem d_X_standby_5 : decode mt_X_standby.2.1 5 = .ok (.getfield 21, 3) := by decide +kernel
theorem d_X_standby_8 : decode mt_X_standby.2.1 8 = .ok (.iload_n 1, 1) := by decide +kernel
theorem d_X_standby_9 : decode mt_X_standby.2.1 9 = .ok (.invokevirtual 171, 3) := by decide +kernel
theorem d_X_standby_12 : decode mt_X_standby.2.1 12 = .ok (.ireturn, 1) := by decide +kernel
theorem d_X_refused_0 : decode mt_X_refused.2.1 0 = .ok (.aload_n 0, 1) := by decide +kernel
theorem d_X_refused_1 : decode mt_X_refused.2.1 1 = .ok (.getfield 10, 3) := by decide +kernel
theorem d_X_refused_4 : decode mt_X_refused.2.1 4 = .ok (.iload_n 1, 1) := by decide +kernel
theorem d_X_refused_5 : decode mt_X_refused.2.1 5 = .ok (.invokevirtual 128, 3) := by decide +kernel
theorem d_X_refused_8 : decode mt_X_refused.2.1 8 = .ok (.ifCond .ne (13), 3) := by decide +kernel
theorem d_X_refused_11 : decode mt_X_refused.2.1 11 = .ok (.new 131, 3) := by decide +kernel
theorem d_X_refused_14 : decode mt_X_refused.2.1 14 = .ok (.dup, 1) := by decide +kernel
theorem d_X_refused_15 : decode mt_X_refused.2.1 15 = .ok (.ldc 174, 2) := by decide +kernel
theorem d_X_refused_17 : decode mt_X_refused.2.1 17 = .ok (.invokespecial 135, 3) := by decide +kernel
theorem d_X_refused_20 : decode mt_X_refused.2.1 20 = .ok (.athrow, 1) := by decide +kernel
theorem d_X_refused_21 : decode mt_X_refused.2.1 21 = .ok (.aload_n 0, 1) := by decide +kernel
theorem d_X_refused_22 : decode mt_X_refused.2.1 22 = .ok (.getfield 10, 3) := by decide +kernel
theorem d_X_refused_25 : decode mt_X_refused.2.1 25 = .ok (.aload_n 0, 1) := by decide +kernel
theorem d_X_refused_26 : decode mt_X_refused.2.1 26 = .ok (.getfield 10, 3) := by decide +kernel
theorem d_X_refused_29 : decode mt_X_refused.2.1 29 = .ok (.getfield 176, 3) := by decide +kernel
theorem d_X_refused_32 : decode mt_X_refused.2.1 32 = .ok (.iload_n 1, 1) := by decide +kernel
theorem d_X_refused_33 : decode mt_X_refused.2.1 33 = .ok (.aaload, 1) := by decide +kernel
theorem d_X_refused_34 : decode mt_X_refused.2.1 34 = .ok (.invokevirtual 180, 3) := by decide +kernel
theorem d_X_refused_37 : decode mt_X_refused.2.1 37 = .ok (.ireturn, 1) := by decide +kernel
theorem d_X_together_0 : decode mt_X_together.2.1 0 = .ok (.aload_n 0, 1) := by decide +kernel
theorem d_X_together_1 : decode mt_X_together.2.1 1 = .ok (.getfield 10, 3) := by decide +kernel
theorem d_X_together_4 : decode mt_X_together.2.1 4 = .ok (.iload_n 1, 1) := by decide +kernel
theorem d_X_together_5 : decode mt_X_together.2.1 5 = .ok (.invokevirtual 128, 3) := by decide +kernel
theorem d_X_together_8 : decode mt_X_together.2.1 8 = .ok (.ifCond .eq (14), 3) := by decide +kernel
theorem d_X_together_11 : decode mt_X_together.2.1 11 = .ok (.aload_n 0, 1) := by decide +kernel
theorem d_X_together_12 : decode mt_X_together.2.1 12 = .ok (.getfield 10, 3) := by decide +kernel
theorem d_X_together_15 : decode mt_X_together.2.1 15 = .ok (.iload_n 2, 1) := by decide +kernel
theorem d_X_together_16 : decode mt_X_together.2.1 16 = .ok (.invokevirtual 128, 3) := by decide +kernel
theorem d_X_together_19 : decode mt_X_together.2.1 19 = .ok (.ifCond .ne (13), 3) := by decide +kernel
theorem d_X_together_22 : decode mt_X_together.2.1 22 = .ok (.new 131, 3) := by decide +kernel
theorem d_X_together_25 : decode mt_X_together.2.1 25 = .ok (.dup, 1) := by decide +kernel
theorem d_X_together_26 : decode mt_X_together.2.1 26 = .ok (.ldc 184, 2) := by decide +kernel
theorem d_X_together_28 : decode mt_X_together.2.1 28 = .ok (.invokespecial 135, 3) := by decide +kernel
theorem d_X_together_31 : decode mt_X_together.2.1 31 = .ok (.athrow, 1) := by decide +kernel
theorem d_X_together_32 : decode mt_X_together.2.1 32 = .ok (.aload_n 0, 1) := by decide +kernel
theorem d_X_together_33 : decode mt_X_together.2.1 33 = .ok (.getfield 10, 3) := by decide +kernel
theorem d_X_together_36 : decode mt_X_together.2.1 36 = .ok (.getfield 110, 3) := by decide +kernel
theorem d_X_together_39 : decode mt_X_together.2.1 39 = .ok (.aload_n 0, 1) := by decide +kernel
theorem d_X_together_40 : decode mt_X_together.2.1 40 = .ok (.getfield 10, 3) := by decide +kernel
theorem d_X_together_43 : decode mt_X_together.2.1 43 = .ok (.getfield 176, 3) := by decide +kernel
theorem d_X_together_46 : decode mt_X_together.2.1 46 = .ok (.iload_n 1, 1) := by decide +kernel
theorem d_X_together_47 : decode mt_X_together.2.1 47 = .ok (.aaload, 1) := by decide +kernel
theorem d_X_together_48 : decode mt_X_together.2.1 48 = .ok (.getfield 186, 3) := by decide +kernel
theorem d_X_together_51 : decode mt_X_together.2.1 51 = .ok (.aaload, 1) := by decide +kernel
theorem d_X_together_52 : decode mt_X_together.2.1 52 = .ok (.aload_n 0, 1) := by decide +kernel
theorem d_X_together_53 : decode mt_X_together.2.1 53 = .ok (.getfield 10, 3) := by decide +kernel
theorem d_X_together_56 : decode mt_X_together.2.1 56 = .ok (.getfield 176, 3) := by decide +kernel
theorem d_X_together_59 : decode mt_X_together.2.1 59 = .ok (.iload_n 2, 1) := by decide +kernel
theorem d_X_together_60 : decode mt_X_together.2.1 60 = .ok (.aaload, 1) := by decide +kernel
theorem d_X_together_61 : decode mt_X_together.2.1 61 = .ok (.getfield 186, 3) := by decide +kernel
theorem d_X_together_64 : decode mt_X_together.2.1 64 = .ok (.iaload, 1) := by decide +kernel
theorem d_X_together_65 : decode mt_X_together.2.1 65 = .ok (.iconst 1, 1) := by decide +kernel
theorem d_X_together_66 : decode mt_X_together.2.1 66 = .ok (.if_icmp .ge (7), 3) := by decide +kernel
theorem d_X_together_69 : decode mt_X_together.2.1 69 = .ok (.iconst 1, 1) := by decide +kernel
theorem d_X_together_70 : decode mt_X_together.2.1 70 = .ok (.goto (4), 3) := by decide +kernel
theorem d_X_together_73 : decode mt_X_together.2.1 73 = .ok (.iconst 0, 1) := by decide +kernel
theorem d_X_together_74 : decode mt_X_together.2.1 74 = .ok (.ireturn, 1) := by decide +kernel
theorem d_X_count_0 : decode mt_X_count.2.1 0 = .ok (.iload_n 1, 1) := by decide +kernel
theorem d_X_count_1 : decode mt_X_count.2.1 1 = .ok (.tableswitch (102) (0) (4) #[35, 43, 51, 70, 89], 35) := by decide +kernel
theorem d_X_count_36 : decode mt_X_count.2.1 36 = .ok (.aload_n 0, 1) := by decide +kernel
theorem d_X_count_37 : decode mt_X_count.2.1 37 = .ok (.getfield 10, 3) := by decide +kernel
theorem d_X_count_40 : decode mt_X_count.2.1 40 = .ok (.getfield 48, 3) := by decide +kernel
theorem d_X_count_43 : decode mt_X_count.2.1 43 = .ok (.ireturn, 1) := by decide +kernel
theorem d_X_count_44 : decode mt_X_count.2.1 44 = .ok (.aload_n 0, 1) := by decide +kernel
theorem d_X_count_45 : decode mt_X_count.2.1 45 = .ok (.getfield 10, 3) := by decide +kernel
theorem d_X_count_48 : decode mt_X_count.2.1 48 = .ok (.getfield 99, 3) := by decide +kernel
theorem d_X_count_51 : decode mt_X_count.2.1 51 = .ok (.ireturn, 1) := by decide +kernel
theorem d_X_count_52 : decode mt_X_count.2.1 52 = .ok (.aload_n 0, 1) := by decide +kernel
theorem d_X_count_53 : decode mt_X_count.2.1 53 = .ok (.getfield 25, 3) := by decide +kernel
theorem d_X_count_56 : decode mt_X_count.2.1 56 = .ok (.ifCond .eq (13), 3) := by decide +kernel
theorem d_X_count_59 : decode mt_X_count.2.1 59 = .ok (.aload_n 0, 1) := by decide +kernel
theorem d_X_count_60 : decode mt_X_count.2.1 60 = .ok (.getfield 21, 3) := by decide +kernel
theorem d_X_count_63 : decode mt_X_count.2.1 63 = .ok (.invokevirtual 191, 3) := by decide +kernel
theorem d_X_count_66 : decode mt_X_count.2.1 66 = .ok (.goto (4), 3) := by decide +kernel
theorem d_X_count_69 : decode mt_X_count.2.1 69 = .ok (.iconst (-1), 1) := by decide +kernel
theorem d_X_count_70 : decode mt_X_count.2.1 70 = .ok (.ireturn, 1) := by decide +kernel
theorem d_X_count_71 : decode mt_X_count.2.1 71 = .ok (.aload_n 0, 1) := by decide +kernel
theorem d_X_count_72 : decode mt_X_count.2.1 72 = .ok (.getfield 25, 3) := by decide +kernel
theorem d_X_count_75 : decode mt_X_count.2.1 75 = .ok (.ifCond .eq (13), 3) := by decide +kernel
theorem d_X_count_78 : decode mt_X_count.2.1 78 = .ok (.aload_n 0, 1) := by decide +kernel
theorem d_X_count_79 : decode mt_X_count.2.1 79 = .ok (.getfield 21, 3) := by decide +kernel
theorem d_X_count_82 : decode mt_X_count.2.1 82 = .ok (.invokevirtual 124, 3) := by decide +kernel
theorem d_X_count_85 : decode mt_X_count.2.1 85 = .ok (.goto (4), 3) := by decide +kernel
theorem d_X_count_88 : decode mt_X_count.2.1 88 = .ok (.iconst (-1), 1) := by decide +kernel
theorem d_X_count_89 : decode mt_X_count.2.1 89 = .ok (.ireturn, 1) := by decide +kernel
theorem d_X_count_90 : decode mt_X_count.2.1 90 = .ok (.aload_n 0, 1) := by decide +kernel
theorem d_X_count_91 : decode mt_X_count.2.1 91 = .ok (.getfield 25, 3) := by decide +kernel
theorem d_X_count_94 : decode mt_X_count.2.1 94 = .ok (.ifCond .eq (7), 3) := by decide +kernel
theorem d_X_count_97 : decode mt_X_count.2.1 97 = .ok (.iconst 1, 1) := by decide +kernel
theorem d_X_count_98 : decode mt_X_count.2.1 98 = .ok (.goto (4), 3) := by decide +kernel
theorem d_X_count_101 : decode mt_X_count.2.1 101 = .ok (.iconst 0, 1) := by decide +kernel
theorem d_X_count_102 : decode mt_X_count.2.1 102 = .ok (.ireturn, 1) := by decide +kernel
theorem d_X_count_103 : decode mt_X_count.2.1 103 = .ok (.aload_n 0, 1) := by decide +kernel
theorem d_X_count_104 : decode mt_X_count.2.1 104 = .ok (.iload_n 1, 1) := by decide +kernel
theorem d_X_count_105 : decode mt_X_count.2.1 105 = .ok (.invokevirtual 194, 3) := by decide +kernel
theorem d_X_count_108 : decode mt_X_count.2.1 108 = .ok (.ireturn, 1) := by decide +kernel
theorem d_X_patternsOf_0 : decode mt_X_patternsOf.2.1 0 = .ok (.iload_n 1, 1) := by decide +kernel
theorem d_X_patternsOf_1 : decode mt_X_patternsOf.2.1 1 = .ok (.bipush (10), 2) := by decide +kernel
theorem d_X_patternsOf_3 : decode mt_X_patternsOf.2.1 3 = .ok (.isub, 1) := by decide +kernel
theorem d_X_patternsOf_4 : decode mt_X_patternsOf.2.1 4 = .ok (.istore_n 2, 1) := by decide +kernel
theorem d_X_patternsOf_5 : decode mt_X_patternsOf.2.1 5 = .ok (.aload_n 0, 1) := by decide +kernel
theorem d_X_patternsOf_6 : decode mt_X_patternsOf.2.1 6 = .ok (.getfield 10, 3) := by decide +kernel
theorem d_X_patternsOf_9 : decode mt_X_patternsOf.2.1 9 = .ok (.iload_n 2, 1) := by decide +kernel
theorem d_X_patternsOf_10 : decode mt_X_patternsOf.2.1 10 = .ok (.invokevirtual 61, 3) := by decide +kernel
theorem d_X_patternsOf_13 : decode mt_X_patternsOf.2.1 13 = .ok (.ifCond .eq (18), 3) := by decide +kernel
theorem d_X_patternsOf_16 : decode mt_X_patternsOf.2.1 16 = .ok (.aload_n 0, 1) := by decide +kernel
theorem d_X_patternsOf_17 : decode mt_X_patternsOf.2.1 17 = .ok (.getfield 10, 3) := by decide +kernel
theorem d_X_patternsOf_20 : decode mt_X_patternsOf.2.1 20 = .ok (.getfield 67, 3) := by decide +kernel
theorem d_X_patternsOf_23 : decode mt_X_patternsOf.2.1 23 = .ok (.iload_n 2, 1) := by decide +kernel
theorem d_X_patternsOf_24 : decode mt_X_patternsOf.2.1 24 = .ok (.aaload, 1) := by decide +kernel
theorem d_X_patternsOf_25 : decode mt_X_patternsOf.2.1 25 = .ok (.getfield 85, 3) := by decide +kernel
theorem d_X_patternsOf_28 : decode mt_X_patternsOf.2.1 28 = .ok (.goto (4), 3) := by decide +kernel
theorem d_X_patternsOf_31 : decode mt_X_patternsOf.2.1 31 = .ok (.iconst (-1), 1) := by decide +kernel
theorem d_X_patternsOf_32 : decode mt_X_patternsOf.2.1 32 = .ok (.ireturn, 1) := by decide +kernel
theorem d_X_needPlan_0 : decode mt_X_needPlan.2.1 0 = .ok (.aload_n 0, 1) := by decide +kernel
theorem d_X_needPlan_1 : decode mt_X_needPlan.2.1 1 = .ok (.getfield 25, 3) := by decide +kernel
theorem d_X_needPlan_4 : decode mt_X_needPlan.2.1 4 = .ok (.ifCond .ne (13), 3) := by decide +kernel
theorem d_X_needPlan_7 : decode mt_X_needPlan.2.1 7 = .ok (.new 197, 3) := by decide +kernel
theorem d_X_needPlan_10 : decode mt_X_needPlan.2.1 10 = .ok (.dup, 1) := by decide +kernel
theorem d_X_needPlan_11 : decode mt_X_needPlan.2.1 11 = .ok (.ldc 199, 2) := by decide +kernel
theorem d_X_needPlan_13 : decode mt_X_needPlan.2.1 13 = .ok (.invokespecial 201, 3) := by decide +kernel
theorem d_X_needPlan_16 : decode mt_X_needPlan.2.1 16 = .ok (.athrow, 1) := by decide +kernel
theorem d_X_needPlan_17 : decode mt_X_needPlan.2.1 17 = .ok (.return_, 1) := by decide +kernel
theorem d_X_isBetween_0 : decode mt_X_isBetween.2.1 0 = .ok (.lload_n 2, 1) := by decide +kernel
theorem d_X_isBetween_1 : decode mt_X_isBetween.2.1 1 = .ok (.lload_n 0, 1) := by decide +kernel
theorem d_X_isBetween_2 : decode mt_X_isBetween.2.1 2 = .ok (.lcmp, 1) := by decide +kernel
theorem d_X_isBetween_3 : decode mt_X_isBetween.2.1 3 = .ok (.ifCond .gt (14), 3) := by decide +kernel
theorem d_X_isBetween_6 : decode mt_X_isBetween.2.1 6 = .ok (.lload_n 0, 1) := by decide +kernel
theorem d_X_isBetween_7 : decode mt_X_isBetween.2.1 7 = .ok (.lload 4, 2) := by decide +kernel
theorem d_X_isBetween_9 : decode mt_X_isBetween.2.1 9 = .ok (.lcmp, 1) := by decide +kernel
theorem d_X_isBetween_10 : decode mt_X_isBetween.2.1 10 = .ok (.ifCond .gt (7), 3) := by decide +kernel
theorem d_X_isBetween_13 : decode mt_X_isBetween.2.1 13 = .ok (.iconst 1, 1) := by decide +kernel
theorem d_X_isBetween_14 : decode mt_X_isBetween.2.1 14 = .ok (.goto (4), 3) := by decide +kernel
theorem d_X_isBetween_17 : decode mt_X_isBetween.2.1 17 = .ok (.iconst 0, 1) := by decide +kernel
theorem d_X_isBetween_18 : decode mt_X_isBetween.2.1 18 = .ok (.ireturn, 1) := by decide +kernel
theorem d_X_lengthOfSize_0 : decode mt_X_lengthOfSize.2.1 0 = .ok (.iload_n 0, 1) := by decide +kernel
theorem d_X_lengthOfSize_1 : decode mt_X_lengthOfSize.2.1 1 = .ok (.tableswitch (35) (1) (3) #[27, 29, 32], 27) := by decide +kernel
theorem d_X_lengthOfSize_28 : decode mt_X_lengthOfSize.2.1 28 = .ok (.iconst 4, 1) := by decide +kernel
theorem d_X_lengthOfSize_29 : decode mt_X_lengthOfSize.2.1 29 = .ok (.ireturn, 1) := by decide +kernel
theorem d_X_lengthOfSize_30 : decode mt_X_lengthOfSize.2.1 30 = .ok (.bipush (8), 2) := by decide +kernel
theorem d_X_lengthOfSize_32 : decode mt_X_lengthOfSize.2.1 32 = .ok (.ireturn, 1) := by decide +kernel
theorem d_X_lengthOfSize_33 : decode mt_X_lengthOfSize.2.1 33 = .ok (.bipush (9), 2) := by decide +kernel
theorem d_X_lengthOfSize_35 : decode mt_X_lengthOfSize.2.1 35 = .ok (.ireturn, 1) := by decide +kernel
theorem d_X_lengthOfSize_36 : decode mt_X_lengthOfSize.2.1 36 = .ok (.iconst 0, 1) := by decide +kernel
theorem d_X_lengthOfSize_37 : decode mt_X_lengthOfSize.2.1 37 = .ok (.ireturn, 1) := by decide +kernel
theorem d_X_isRowOfSizes_0 : decode mt_X_isRowOfSizes.2.1 0 = .ok (.iload_n 0, 1) := by decide +kernel
theorem d_X_isRowOfSizes_1 : decode mt_X_isRowOfSizes.2.1 1 = .ok (.istore_n 1, 1) := by decide +kernel
theorem d_X_isRowOfSizes_2 : decode mt_X_isRowOfSizes.2.1 2 = .ok (.iconst 0, 1) := by decide +kernel
theorem d_X_isRowOfSizes_3 : decode mt_X_isRowOfSizes.2.1 3 = .ok (.istore_n 2, 1) := by decide +kernel
theorem d_X_isRowOfSizes_4 : decode mt_X_isRowOfSizes.2.1 4 = .ok (.iload_n 2, 1) := by decide +kernel
theorem d_X_isRowOfSizes_5 : decode mt_X_isRowOfSizes.2.1 5 = .ok (.iconst 4, 1) := by decide +kernel
theorem d_X_isRowOfSizes_6 : decode mt_X_isRowOfSizes.2.1 6 = .ok (.if_icmp .ge (35), 3) := by decide +kernel
theorem d_X_isRowOfSizes_9 : decode mt_X_isRowOfSizes.2.1 9 = .ok (.iload_n 1, 1) := by decide +kernel
theorem d_X_isRowOfSizes_10 : decode mt_X_isRowOfSizes.2.1 10 = .ok (.ifCond .le (31), 3) := by decide +kernel
theorem d_X_isRowOfSizes_13 : decode mt_X_isRowOfSizes.2.1 13 = .ok (.iload_n 1, 1) := by decide +kernel
theorem d_X_isRowOfSizes_14 : decode mt_X_isRowOfSizes.2.1 14 = .ok (.bipush (10), 2) := by decide +kernel
theorem d_X_isRowOfSizes_16 : decode mt_X_isRowOfSizes.2.1 16 = .ok (.irem, 1) := by decide +kernel
theorem d_X_isRowOfSizes_17 : decode mt_X_isRowOfSizes.2.1 17 = .ok (.i2l, 1) := by decide +kernel
theorem d_X_isRowOfSizes_18 : decode mt_X_isRowOfSizes.2.1 18 = .ok (.lconst 1, 1) := by decide +kernel
theorem d_X_isRowOfSizes_19 : decode mt_X_isRowOfSizes.2.1 19 = .ok (.ldc2_w 93, 3) := by decide +kernel
theorem d_X_isRowOfSizes_22 : decode mt_X_isRowOfSizes.2.1 22 = .ok (.invokestatic 31, 3) := by decide +kernel
theorem d_X_isRowOfSizes_25 : decode mt_X_isRowOfSizes.2.1 25 = .ok (.ifCond .ne (5), 3) := by decide +kernel
theorem d_X_isRowOfSizes_28 : decode mt_X_isRowOfSizes.2.1 28 = .ok (.iconst 0, 1) := by decide +kernel
theorem d_X_isRowOfSizes_29 : decode mt_X_isRowOfSizes.2.1 29 = .ok (.ireturn, 1) := by decide +kernel
theorem d_X_isRowOfSizes_30 : decode mt_X_isRowOfSizes.2.1 30 = .ok (.iload_n 1, 1) := by decide +kernel
theorem d_X_isRowOfSizes_31 : decode mt_X_isRowOfSizes.2.1 31 = .ok (.bipush (10), 2) := by decide +kernel
theorem d_X_isRowOfSizes_33 : decode mt_X_isRowOfSizes.2.1 33 = .ok (.idiv, 1) := by decide +kernel
theorem d_X_isRowOfSizes_34 : decode mt_X_isRowOfSizes.2.1 34 = .ok (.istore_n 1, 1) := by decide +kernel
theorem d_X_isRowOfSizes_35 : decode mt_X_isRowOfSizes.2.1 35 = .ok (.iinc 2 (1), 3) := by decide +kernel
theorem d_X_isRowOfSizes_38 : decode mt_X_isRowOfSizes.2.1 38 = .ok (.goto (-34), 3) := by decide +kernel
theorem d_X_isRowOfSizes_41 : decode mt_X_isRowOfSizes.2.1 41 = .ok (.iload_n 0, 1) := by decide +kernel
theorem d_X_isRowOfSizes_42 : decode mt_X_isRowOfSizes.2.1 42 = .ok (.ifCond .le (11), 3) := by decide +kernel
theorem d_X_isRowOfSizes_45 : decode mt_X_isRowOfSizes.2.1 45 = .ok (.iload_n 1, 1) := by decide +kernel
theorem d_X_isRowOfSizes_46 : decode mt_X_isRowOfSizes.2.1 46 = .ok (.ifCond .ne (7), 3) := by decide +kernel
theorem d_X_isRowOfSizes_49 : decode mt_X_isRowOfSizes.2.1 49 = .ok (.iconst 1, 1) := by decide +kernel
theorem d_X_isRowOfSizes_50 : decode mt_X_isRowOfSizes.2.1 50 = .ok (.goto (4), 3) := by decide +kernel
theorem d_X_isRowOfSizes_53 : decode mt_X_isRowOfSizes.2.1 53 = .ok (.iconst 0, 1) := by decide +kernel
theorem d_X_isRowOfSizes_54 : decode mt_X_isRowOfSizes.2.1 54 = .ok (.ireturn, 1) := by decide +kernel
theorem d_X_lengthOfRow_0 : decode mt_X_lengthOfRow.2.1 0 = .ok (.iconst 0, 1) := by decide +kernel
theorem d_X_lengthOfRow_1 : decode mt_X_lengthOfRow.2.1 1 = .ok (.istore_n 1, 1) := by decide +kernel
theorem d_X_lengthOfRow_2 : decode mt_X_lengthOfRow.2.1 2 = .ok (.iload_n 0, 1) := by decide +kernel
theorem d_X_lengthOfRow_3 : decode mt_X_lengthOfRow.2.1 3 = .ok (.istore_n 2, 1) := by decide +kernel
theorem d_X_lengthOfRow_4 : decode mt_X_lengthOfRow.2.1 4 = .ok (.iconst 0, 1) := by decide +kernel
theorem d_X_lengthOfRow_5 : decode mt_X_lengthOfRow.2.1 5 = .ok (.istore_n 3, 1) := by decide +kernel
theorem d_X_lengthOfRow_6 : decode mt_X_lengthOfRow.2.1 6 = .ok (.iload_n 3, 1) := by decide +kernel
theorem d_X_lengthOfRow_7 : decode mt_X_lengthOfRow.2.1 7 = .ok (.iconst 4, 1) := by decide +kernel
theorem d_X_lengthOfRow_8 : decode mt_X_lengthOfRow.2.1 8 = .ok (.if_icmp .ge (28), 3) := by decide +kernel
theorem d_X_lengthOfRow_11 : decode mt_X_lengthOfRow.2.1 11 = .ok (.iload_n 2, 1) := by decide +kernel
theorem d_X_lengthOfRow_12 : decode mt_X_lengthOfRow.2.1 12 = .ok (.ifCond .le (24), 3) := by decide +kernel
theorem d_X_lengthOfRow_15 : decode mt_X_lengthOfRow.2.1 15 = .ok (.iload_n 1, 1) := by decide +kernel
theorem d_X_lengthOfRow_16 : decode mt_X_lengthOfRow.2.1 16 = .ok (.iload_n 2, 1) := by decide +kernel
theorem d_X_lengthOfRow_17 : decode mt_X_lengthOfRow.2.1 17 = .ok (.bipush (10), 2) := by decide +kernel
theorem d_X_lengthOfRow_19 : decode mt_X_lengthOfRow.2.1 19 = .ok (.irem, 1) := by decide +kernel
theorem d_X_lengthOfRow_20 : decode mt_X_lengthOfRow.2.1 20 = .ok (.invokestatic 202, 3) := by decide +kernel
theorem d_X_lengthOfRow_23 : decode mt_X_lengthOfRow.2.1 23 = .ok (.iadd, 1) := by decide +kernel
theorem d_X_lengthOfRow_24 : decode mt_X_lengthOfRow.2.1 24 = .ok (.istore_n 1, 1) := by decide +kernel
theorem d_X_lengthOfRow_25 : decode mt_X_lengthOfRow.2.1 25 = .ok (.iload_n 2, 1) := by decide +kernel
theorem d_X_lengthOfRow_26 : decode mt_X_lengthOfRow.2.1 26 = .ok (.bipush (10), 2) := by decide +kernel
theorem d_X_lengthOfRow_28 : decode mt_X_lengthOfRow.2.1 28 = .ok (.idiv, 1) := by decide +kernel
theorem d_X_lengthOfRow_29 : decode mt_X_lengthOfRow.2.1 29 = .ok (.istore_n 2, 1) := by decide +kernel
theorem d_X_lengthOfRow_30 : decode mt_X_lengthOfRow.2.1 30 = .ok (.iinc 3 (1), 3) := by decide +kernel
theorem d_X_lengthOfRow_33 : decode mt_X_lengthOfRow.2.1 33 = .ok (.goto (-27), 3) := by decide +kernel
theorem d_X_lengthOfRow_36 : decode mt_X_lengthOfRow.2.1 36 = .ok (.iload_n 1, 1) := by decide +kernel
theorem d_X_lengthOfRow_37 : decode mt_X_lengthOfRow.2.1 37 = .ok (.ireturn, 1) := by decide +kernel
