/-! DECODE ROWS. Printed by wip/make.py. -/
theorem d_M_at_9 : decode mt_M_at.2.1 9 = .ok (.iload_n 2, 1) := by decide +kernel
theorem d_M_at_10 : decode mt_M_at.2.1 10 = .ok (.ifCond .lt (8), 3) := by decide +kernel
theorem d_M_at_13 : decode mt_M_at.2.1 13 = .ok (.iload_n 2, 1) := by decide +kernel
theorem d_M_at_14 : decode mt_M_at.2.1 14 = .ok (.iconst 1, 1) := by decide +kernel
theorem d_M_at_15 : decode mt_M_at.2.1 15 = .ok (.if_icmp .le (7), 3) := by decide +kernel
theorem d_M_at_18 : decode mt_M_at.2.1 18 = .ok (.iconst 1, 1) := by decide +kernel
theorem d_M_at_19 : decode mt_M_at.2.1 19 = .ok (.goto (15), 3) := by decide +kernel
theorem d_M_at_22 : decode mt_M_at.2.1 22 = .ok (.aload_n 0, 1) := by decide +kernel
theorem d_M_at_23 : decode mt_M_at.2.1 23 = .ok (.getfield 85, 3) := by decide +kernel
theorem d_M_at_26 : decode mt_M_at.2.1 26 = .ok (.ifCond .eq (7), 3) := by decide +kernel
theorem d_M_at_29 : decode mt_M_at.2.1 29 = .ok (.iconst 0, 1) := by decide +kernel
theorem d_M_at_30 : decode mt_M_at.2.1 30 = .ok (.goto (4), 3) := by decide +kernel
theorem d_M_at_33 : decode mt_M_at.2.1 33 = .ok (.iconst 2, 1) := by decide +kernel
theorem d_M_at_34 : decode mt_M_at.2.1 34 = .ok (.putfield 63, 3) := by decide +kernel
theorem d_M_at_37 : decode mt_M_at.2.1 37 = .ok (.aload_n 0, 1) := by decide +kernel
theorem d_M_at_38 : decode mt_M_at.2.1 38 = .ok (.getfield 63, 3) := by decide +kernel
theorem d_M_at_41 : decode mt_M_at.2.1 41 = .ok (.ifCond .le (5), 3) := by decide +kernel
theorem d_M_at_44 : decode mt_M_at.2.1 44 = .ok (.iconst 0, 1) := by decide +kernel
theorem d_M_at_45 : decode mt_M_at.2.1 45 = .ok (.ireturn, 1) := by decide +kernel
theorem d_M_at_46 : decode mt_M_at.2.1 46 = .ok (.aload_n 0, 1) := by decide +kernel
theorem d_M_at_47 : decode mt_M_at.2.1 47 = .ok (.getfield 60, 3) := by decide +kernel
theorem d_M_at_50 : decode mt_M_at.2.1 50 = .ok (.iload_n 1, 1) := by decide +kernel
theorem d_M_at_51 : decode mt_M_at.2.1 51 = .ok (.iaload, 1) := by decide +kernel
theorem d_M_at_52 : decode mt_M_at.2.1 52 = .ok (.ifCond .ne (7), 3) := by decide +kernel
theorem d_M_at_55 : decode mt_M_at.2.1 55 = .ok (.iconst (-1), 1) := by decide +kernel
theorem d_M_at_56 : decode mt_M_at.2.1 56 = .ok (.goto (23), 3) := by decide +kernel
theorem d_M_at_59 : decode mt_M_at.2.1 59 = .ok (.iload_n 2, 1) := by decide +kernel
theorem d_M_at_60 : decode mt_M_at.2.1 60 = .ok (.ifCond .ne (14), 3) := by decide +kernel
theorem d_M_at_63 : decode mt_M_at.2.1 63 = .ok (.aload_n 0, 1) := by decide +kernel
theorem d_M_at_64 : decode mt_M_at.2.1 64 = .ok (.getfield 60, 3) := by decide +kernel
theorem d_M_at_67 : decode mt_M_at.2.1 67 = .ok (.iload_n 1, 1) := by decide +kernel
theorem d_M_at_68 : decode mt_M_at.2.1 68 = .ok (.iaload, 1) := by decide +kernel
theorem d_M_at_69 : decode mt_M_at.2.1 69 = .ok (.iconst 1, 1) := by decide +kernel
theorem d_M_at_70 : decode mt_M_at.2.1 70 = .ok (.isub, 1) := by decide +kernel
theorem d_M_at_71 : decode mt_M_at.2.1 71 = .ok (.goto (8), 3) := by decide +kernel
theorem d_M_at_74 : decode mt_M_at.2.1 74 = .ok (.aload_n 0, 1) := by decide +kernel
theorem d_M_at_75 : decode mt_M_at.2.1 75 = .ok (.iload_n 1, 1) := by decide +kernel
theorem d_M_at_76 : decode mt_M_at.2.1 76 = .ok (.invokevirtual 147, 3) := by decide +kernel
theorem d_M_at_79 : decode mt_M_at.2.1 79 = .ok (.ireturn, 1) := by decide +kernel
theorem d_M_weightOn_0 : decode mt_M_weightOn.2.1 0 = .ok (.lconst 0, 1) := by decide +kernel
theorem d_M_weightOn_1 : decode mt_M_weightOn.2.1 1 = .ok (.lstore_n 2, 1) := by decide +kernel
theorem d_M_weightOn_2 : decode mt_M_weightOn.2.1 2 = .ok (.iconst 0, 1) := by decide +kernel
theorem d_M_weightOn_3 : decode mt_M_weightOn.2.1 3 = .ok (.istore 4, 2) := by decide +kernel
theorem d_M_weightOn_5 : decode mt_M_weightOn.2.1 5 = .ok (.iload 4, 2) := by decide +kernel
theorem d_M_weightOn_7 : decode mt_M_weightOn.2.1 7 = .ok (.aload_n 0, 1) := by decide +kernel
theorem d_M_weightOn_8 : decode mt_M_weightOn.2.1 8 = .ok (.getfield 70, 3) := by decide +kernel
theorem d_M_weightOn_11 : decode mt_M_weightOn.2.1 11 = .ok (.if_icmp .ge (36), 3) := by decide +kernel
theorem d_M_weightOn_14 : decode mt_M_weightOn.2.1 14 = .ok (.lload_n 2, 1) := by decide +kernel
theorem d_M_weightOn_15 : decode mt_M_weightOn.2.1 15 = .ok (.aload_n 0, 1) := by decide +kernel
theorem d_M_weightOn_16 : decode mt_M_weightOn.2.1 16 = .ok (.getfield 60, 3) := by decide +kernel
theorem d_M_weightOn_19 : decode mt_M_weightOn.2.1 19 = .ok (.iload 4, 2) := by decide +kernel
theorem d_M_weightOn_21 : decode mt_M_weightOn.2.1 21 = .ok (.iaload, 1) := by decide +kernel
theorem d_M_weightOn_22 : decode mt_M_weightOn.2.1 22 = .ok (.iload_n 1, 1) := by decide +kernel
theorem d_M_weightOn_23 : decode mt_M_weightOn.2.1 23 = .ok (.iconst 1, 1) := by decide +kernel
theorem d_M_weightOn_24 : decode mt_M_weightOn.2.1 24 = .ok (.iadd, 1) := by decide +kernel
theorem d_M_weightOn_25 : decode mt_M_weightOn.2.1 25 = .ok (.if_icmp .ne (13), 3) := by decide +kernel
theorem d_M_weightOn_28 : decode mt_M_weightOn.2.1 28 = .ok (.aload_n 0, 1) := by decide +kernel
theorem d_M_weightOn_29 : decode mt_M_weightOn.2.1 29 = .ok (.getfield 36, 3) := by decide +kernel
theorem d_M_weightOn_32 : decode mt_M_weightOn.2.1 32 = .ok (.iload 4, 2) := by decide +kernel
theorem d_M_weightOn_34 : decode mt_M_weightOn.2.1 34 = .ok (.laload, 1) := by decide +kernel
theorem d_M_weightOn_35 : decode mt_M_weightOn.2.1 35 = .ok (.goto (4), 3) := by decide +kernel
theorem d_M_weightOn_38 : decode mt_M_weightOn.2.1 38 = .ok (.lconst 0, 1) := by decide +kernel
theorem d_M_weightOn_39 : decode mt_M_weightOn.2.1 39 = .ok (.ladd, 1) := by decide +kernel
theorem d_M_weightOn_40 : decode mt_M_weightOn.2.1 40 = .ok (.lstore_n 2, 1) := by decide +kernel
theorem d_M_weightOn_41 : decode mt_M_weightOn.2.1 41 = .ok (.iinc 4 (1), 3) := by decide +kernel
theorem d_M_weightOn_44 : decode mt_M_weightOn.2.1 44 = .ok (.goto (-39), 3) := by decide +kernel
theorem d_M_weightOn_47 : decode mt_M_weightOn.2.1 47 = .ok (.lload_n 2, 1) := by decide +kernel
theorem d_M_weightOn_48 : decode mt_M_weightOn.2.1 48 = .ok (.lreturn, 1) := by decide +kernel
theorem d_M_load_0 : decode mt_M_load.2.1 0 = .ok (.aload_n 0, 1) := by decide +kernel
theorem d_M_load_1 : decode mt_M_load.2.1 1 = .ok (.aload_n 0, 1) := by decide +kernel
theorem d_M_load_2 : decode mt_M_load.2.1 2 = .ok (.iload_n 1, 1) := by decide +kernel
theorem d_M_load_3 : decode mt_M_load.2.1 3 = .ok (.invokevirtual 89, 3) := by decide +kernel
theorem d_M_load_6 : decode mt_M_load.2.1 6 = .ok (.ifCond .eq (12), 3) := by decide +kernel
theorem d_M_load_9 : decode mt_M_load.2.1 9 = .ok (.iload_n 2, 1) := by decide +kernel
theorem d_M_load_10 : decode mt_M_load.2.1 10 = .ok (.ifCond .lt (8), 3) := by decide +kernel
theorem d_M_load_13 : decode mt_M_load.2.1 13 = .ok (.iload_n 2, 1) := by decide +kernel
theorem d_M_load_14 : decode mt_M_load.2.1 14 = .ok (.iconst 3, 1) := by decide +kernel
theorem d_M_load_15 : decode mt_M_load.2.1 15 = .ok (.if_icmp .le (7), 3) := by decide +kernel
theorem d_M_load_18 : decode mt_M_load.2.1 18 = .ok (.iconst 1, 1) := by decide +kernel
theorem d_M_load_19 : decode mt_M_load.2.1 19 = .ok (.goto (15), 3) := by decide +kernel
theorem d_M_load_22 : decode mt_M_load.2.1 22 = .ok (.aload_n 0, 1) := by decide +kernel
theorem d_M_load_23 : decode mt_M_load.2.1 23 = .ok (.getfield 85, 3) := by decide +kernel
theorem d_M_load_26 : decode mt_M_load.2.1 26 = .ok (.ifCond .eq (7), 3) := by decide +kernel
theorem d_M_load_29 : decode mt_M_load.2.1 29 = .ok (.iconst 0, 1) := by decide +kernel
theorem d_M_load_30 : decode mt_M_load.2.1 30 = .ok (.goto (4), 3) := by decide +kernel
theorem d_M_load_33 : decode mt_M_load.2.1 33 = .ok (.iconst 2, 1) := by decide +kernel
theorem d_M_load_34 : decode mt_M_load.2.1 34 = .ok (.putfield 63, 3) := by decide +kernel
theorem d_M_load_37 : decode mt_M_load.2.1 37 = .ok (.aload_n 0, 1) := by decide +kernel
theorem d_M_load_38 : decode mt_M_load.2.1 38 = .ok (.getfield 63, 3) := by decide +kernel
theorem d_M_load_41 : decode mt_M_load.2.1 41 = .ok (.ifCond .le (5), 3) := by decide +kernel
theorem d_M_load_44 : decode mt_M_load.2.1 44 = .ok (.lconst 0, 1) := by decide +kernel
theorem d_M_load_45 : decode mt_M_load.2.1 45 = .ok (.lreturn, 1) := by decide +kernel
theorem d_M_load_46 : decode mt_M_load.2.1 46 = .ok (.lconst 0, 1) := by decide +kernel
theorem d_M_load_47 : decode mt_M_load.2.1 47 = .ok (.lstore_n 3, 1) := by decide +kernel
theorem d_M_load_48 : decode mt_M_load.2.1 48 = .ok (.iconst 0, 1) := by decide +kernel
theorem d_M_load_49 : decode mt_M_load.2.1 49 = .ok (.istore 5, 2) := by decide +kernel
theorem d_M_load_51 : decode mt_M_load.2.1 51 = .ok (.iload 5, 2) := by decide +kernel
theorem d_M_load_53 : decode mt_M_load.2.1 53 = .ok (.aload_n 0, 1) := by decide +kernel
theorem d_M_load_54 : decode mt_M_load.2.1 54 = .ok (.getfield 70, 3) := by decide +kernel
theorem d_M_load_57 : decode mt_M_load.2.1 57 = .ok (.if_icmp .ge (40), 3) := by decide +kernel
theorem d_M_load_60 : decode mt_M_load.2.1 60 = .ok (.lload_n 3, 1) := by decide +kernel
theorem d_M_load_61 : decode mt_M_load.2.1 61 = .ok (.aload_n 0, 1) := by decide +kernel
theorem d_M_load_62 : decode mt_M_load.2.1 62 = .ok (.getfield 60, 3) := by decide +kernel
theorem d_M_load_65 : decode mt_M_load.2.1 65 = .ok (.iload 5, 2) := by decide +kernel
theorem d_M_load_67 : decode mt_M_load.2.1 67 = .ok (.iaload, 1) := by decide +kernel
theorem d_M_load_68 : decode mt_M_load.2.1 68 = .ok (.iload_n 1, 1) := by decide +kernel
theorem d_M_load_69 : decode mt_M_load.2.1 69 = .ok (.iconst 1, 1) := by decide +kernel
theorem d_M_load_70 : decode mt_M_load.2.1 70 = .ok (.iadd, 1) := by decide +kernel
theorem d_M_load_71 : decode mt_M_load.2.1 71 = .ok (.if_icmp .ne (17), 3) := by decide +kernel
theorem d_M_load_74 : decode mt_M_load.2.1 74 = .ok (.aload_n 0, 1) := by decide +kernel
theorem d_M_load_75 : decode mt_M_load.2.1 75 = .ok (.getfield 33, 3) := by decide +kernel
theorem d_M_load_78 : decode mt_M_load.2.1 78 = .ok (.iload 5, 2) := by decide +kernel
theorem d_M_load_80 : decode mt_M_load.2.1 80 = .ok (.iaload, 1) := by decide +kernel
theorem d_M_load_81 : decode mt_M_load.2.1 81 = .ok (.invokestatic 97, 3) := by decide +kernel
theorem d_M_load_84 : decode mt_M_load.2.1 84 = .ok (.i2l, 1) := by decide +kernel
theorem d_M_load_85 : decode mt_M_load.2.1 85 = .ok (.goto (4), 3) := by decide +kernel
theorem d_M_load_88 : decode mt_M_load.2.1 88 = .ok (.lconst 0, 1) := by decide +kernel
theorem d_M_load_89 : decode mt_M_load.2.1 89 = .ok (.ladd, 1) := by decide +kernel
theorem d_M_load_90 : decode mt_M_load.2.1 90 = .ok (.lstore_n 3, 1) := by decide +kernel
theorem d_M_load_91 : decode mt_M_load.2.1 91 = .ok (.iinc 5 (1), 3) := by decide +kernel
theorem d_M_load_94 : decode mt_M_load.2.1 94 = .ok (.goto (-43), 3) := by decide +kernel
theorem d_M_load_97 : decode mt_M_load.2.1 97 = .ok (.iload_n 2, 1) := by decide +kernel
theorem d_M_load_98 : decode mt_M_load.2.1 98 = .ok (.ifCond .ne (12), 3) := by decide +kernel
theorem d_M_load_101 : decode mt_M_load.2.1 101 = .ok (.aload_n 0, 1) := by decide +kernel
theorem d_M_load_102 : decode mt_M_load.2.1 102 = .ok (.iload_n 1, 1) := by decide +kernel
theorem d_M_load_103 : decode mt_M_load.2.1 103 = .ok (.invokevirtual 141, 3) := by decide +kernel
theorem d_M_load_106 : decode mt_M_load.2.1 106 = .ok (.i2l, 1) := by decide +kernel
theorem d_M_load_107 : decode mt_M_load.2.1 107 = .ok (.goto (36), 3) := by decide +kernel
theorem d_M_load_110 : decode mt_M_load.2.1 110 = .ok (.iload_n 2, 1) := by decide +kernel
theorem d_M_load_111 : decode mt_M_load.2.1 111 = .ok (.iconst 1, 1) := by decide +kernel
theorem d_M_load_112 : decode mt_M_load.2.1 112 = .ok (.if_icmp .ne (17), 3) := by decide +kernel
theorem d_M_load_115 : decode mt_M_load.2.1 115 = .ok (.aload_n 0, 1) := by decide +kernel
theorem d_M_load_116 : decode mt_M_load.2.1 116 = .ok (.aload_n 0, 1) := by decide +kernel
theorem d_M_load_117 : decode mt_M_load.2.1 117 = .ok (.getfield 60, 3) := by decide +kernel
theorem d_M_load_120 : decode mt_M_load.2.1 120 = .ok (.iload_n 1, 1) := by decide +kernel
theorem d_M_load_121 : decode mt_M_load.2.1 121 = .ok (.iconst 0, 1) := by decide +kernel
theorem d_M_load_122 : decode mt_M_load.2.1 122 = .ok (.invokevirtual 107, 3) := by decide +kernel
theorem d_M_load_125 : decode mt_M_load.2.1 125 = .ok (.i2l, 1) := by decide +kernel
theorem d_M_load_126 : decode mt_M_load.2.1 126 = .ok (.goto (17), 3) := by decide +kernel
theorem d_M_load_129 : decode mt_M_load.2.1 129 = .ok (.iload_n 2, 1) := by decide +kernel
theorem d_M_load_130 : decode mt_M_load.2.1 130 = .ok (.iconst 2, 1) := by decide +kernel
theorem d_M_load_131 : decode mt_M_load.2.1 131 = .ok (.if_icmp .ne (7), 3) := by decide +kernel
theorem d_M_load_134 : decode mt_M_load.2.1 134 = .ok (.lload_n 3, 1) := by decide +kernel
theorem d_M_load_135 : decode mt_M_load.2.1 135 = .ok (.goto (8), 3) := by decide +kernel
theorem d_M_load_138 : decode mt_M_load.2.1 138 = .ok (.aload_n 0, 1) := by decide +kernel
theorem d_M_load_139 : decode mt_M_load.2.1 139 = .ok (.iload_n 1, 1) := by decide +kernel
theorem d_M_load_140 : decode mt_M_load.2.1 140 = .ok (.invokevirtual 150, 3) := by decide +kernel
theorem d_M_load_143 : decode mt_M_load.2.1 143 = .ok (.lreturn, 1) := by decide +kernel
theorem d_M_axle_0 : decode mt_M_axle.2.1 0 = .ok (.aload_n 0, 1) := by decide +kernel
theorem d_M_axle_1 : decode mt_M_axle.2.1 1 = .ok (.aload_n 0, 1) := by decide +kernel
theorem d_M_axle_2 : decode mt_M_axle.2.1 2 = .ok (.iload_n 1, 1) := by decide +kernel
theorem d_M_axle_3 : decode mt_M_axle.2.1 3 = .ok (.invokevirtual 89, 3) := by decide +kernel
theorem d_M_axle_6 : decode mt_M_axle.2.1 6 = .ok (.ifCond .eq (12), 3) := by decide +kernel
theorem d_M_axle_9 : decode mt_M_axle.2.1 9 = .ok (.iload_n 2, 1) := by decide +kernel
theorem d_M_axle_10 : decode mt_M_axle.2.1 10 = .ok (.ifCond .lt (8), 3) := by decide +kernel
theorem d_M_axle_13 : decode mt_M_axle.2.1 13 = .ok (.iload_n 2, 1) := by decide +kernel
theorem d_M_axle_14 : decode mt_M_axle.2.1 14 = .ok (.iconst 1, 1) := by decide +kernel
theorem d_M_axle_15 : decode mt_M_axle.2.1 15 = .ok (.if_icmp .le (7), 3) := by decide +kernel
theorem d_M_axle_18 : decode mt_M_axle.2.1 18 = .ok (.iconst 1, 1) := by decide +kernel
theorem d_M_axle_19 : decode mt_M_axle.2.1 19 = .ok (.goto (40), 3) := by decide +kernel
theorem d_M_axle_22 : decode mt_M_axle.2.1 22 = .ok (.aload_n 0, 1) := by decide +kernel
theorem d_M_axle_23 : decode mt_M_axle.2.1 23 = .ok (.getfield 85, 3) := by decide +kernel
theorem d_M_axle_26 : decode mt_M_axle.2.1 26 = .ok (.ifCond .ne (7), 3) := by decide +kernel
theorem d_M_axle_29 : decode mt_M_axle.2.1 29 = .ok (.iconst 2, 1) := by decide +kernel
theorem d_M_axle_30 : decode mt_M_axle.2.1 30 = .ok (.goto (29), 3) := by decide +kernel
theorem d_M_axle_33 : decode mt_M_axle.2.1 33 = .ok (.aload_n 0, 1) := by decide +kernel
theorem d_M_axle_34 : decode mt_M_axle.2.1 34 = .ok (.getfield 17, 3) := by decide +kernel
theorem d_M_axle_37 : decode mt_M_axle.2.1 37 = .ok (.aload_n 0, 1) := by decide +kernel
theorem d_M_axle_38 : decode mt_M_axle.2.1 38 = .ok (.iload_n 1, 1) := by decide +kernel
theorem d_M_axle_39 : decode mt_M_axle.2.1 39 = .ok (.invokevirtual 89, 3) := by decide +kernel
theorem d_M_axle_42 : decode mt_M_axle.2.1 42 = .ok (.ifCond .eq (7), 3) := by decide +kernel
theorem d_M_axle_45 : decode mt_M_axle.2.1 45 = .ok (.iload_n 1, 1) := by decide +kernel
theorem d_M_axle_46 : decode mt_M_axle.2.1 46 = .ok (.goto (4), 3) := by decide +kernel
theorem d_M_axle_49 : decode mt_M_axle.2.1 49 = .ok (.iconst 0, 1) := by decide +kernel
theorem d_M_axle_50 : decode mt_M_axle.2.1 50 = .ok (.iaload, 1) := by decide +kernel
theorem d_M_axle_51 : decode mt_M_axle.2.1 51 = .ok (.ifCond .ne (7), 3) := by decide +kernel
theorem d_M_axle_54 : decode mt_M_axle.2.1 54 = .ok (.iconst 3, 1) := by decide +kernel
theorem d_M_axle_55 : decode mt_M_axle.2.1 55 = .ok (.goto (4), 3) := by decide +kernel
theorem d_M_axle_58 : decode mt_M_axle.2.1 58 = .ok (.iconst 0, 1) := by decide +kernel
theorem d_M_axle_59 : decode mt_M_axle.2.1 59 = .ok (.putfield 63, 3) := by decide +kernel
theorem d_M_axle_62 : decode mt_M_axle.2.1 62 = .ok (.aload_n 0, 1) := by decide +kernel
theorem d_M_axle_63 : decode mt_M_axle.2.1 63 = .ok (.getfield 63, 3) := by decide +kernel
theorem d_M_axle_66 : decode mt_M_axle.2.1 66 = .ok (.ifCond .le (7), 3) := by decide +kernel
theorem d_M_axle_69 : decode mt_M_axle.2.1 69 = .ok (.lconst 0, 1) := by decide +kernel
theorem d_M_axle_70 : decode mt_M_axle.2.1 70 = .ok (.goto (36), 3) := by decide +kernel
theorem d_M_axle_73 : decode mt_M_axle.2.1 73 = .ok (.iload_n 2, 1) := by decide +kernel
theorem d_M_axle_74 : decode mt_M_axle.2.1 74 = .ok (.ifCond .ne (19), 3) := by decide +kernel
theorem d_M_axle_77 : decode mt_M_axle.2.1 77 = .ok (.aload_n 0, 1) := by decide +kernel
theorem d_M_axle_78 : decode mt_M_axle.2.1 78 = .ok (.iload_n 1, 1) := by decide +kernel
theorem d_M_axle_79 : decode mt_M_axle.2.1 79 = .ok (.invokevirtual 150, 3) := by decide +kernel
theorem d_M_axle_82 : decode mt_M_axle.2.1 82 = .ok (.aload_n 0, 1) := by decide +kernel
theorem d_M_axle_83 : decode mt_M_axle.2.1 83 = .ok (.getfield 17, 3) := by decide +kernel
theorem d_M_axle_86 : decode mt_M_axle.2.1 86 = .ok (.iload_n 1, 1) := by decide +kernel
theorem d_M_axle_87 : decode mt_M_axle.2.1 87 = .ok (.iaload, 1) := by decide +kernel
theorem d_M_axle_88 : decode mt_M_axle.2.1 88 = .ok (.i2l, 1) := by decide +kernel
theorem d_M_axle_89 : decode mt_M_axle.2.1 89 = .ok (.ldiv, 1) := by decide +kernel
theorem d_M_axle_90 : decode mt_M_axle.2.1 90 = .ok (.goto (16), 3) := by decide +kernel
theorem d_M_axle_93 : decode mt_M_axle.2.1 93 = .ok (.aload_n 0, 1) := by decide +kernel
theorem d_M_axle_94 : decode mt_M_axle.2.1 94 = .ok (.iload_n 1, 1) := by decide +kernel
theorem d_M_axle_95 : decode mt_M_axle.2.1 95 = .ok (.invokevirtual 150, 3) := by decide +kernel
theorem d_M_axle_98 : decode mt_M_axle.2.1 98 = .ok (.aload_n 0, 1) := by decide +kernel
theorem d_M_axle_99 : decode mt_M_axle.2.1 99 = .ok (.getfield 17, 3) := by decide +kernel
theorem d_M_axle_102 : decode mt_M_axle.2.1 102 = .ok (.iload_n 1, 1) := by decide +kernel
theorem d_M_axle_103 : decode mt_M_axle.2.1 103 = .ok (.iaload, 1) := by decide +kernel
theorem d_M_axle_104 : decode mt_M_axle.2.1 104 = .ok (.i2l, 1) := by decide +kernel
theorem d_M_axle_105 : decode mt_M_axle.2.1 105 = .ok (.lrem, 1) := by decide +kernel
theorem d_M_axle_106 : decode mt_M_axle.2.1 106 = .ok (.lreturn, 1) := by decide +kernel
theorem d_M_standby_0 : decode mt_M_standby.2.1 0 = .ok (.aload_n 0, 1) := by decide +kernel
theorem d_M_standby_1 : decode mt_M_standby.2.1 1 = .ok (.aload_n 0, 1) := by decide +kernel
theorem d_M_standby_2 : decode mt_M_standby.2.1 2 = .ok (.getfield 85, 3) := by decide +kernel
theorem d_M_standby_5 : decode mt_M_standby.2.1 5 = .ok (.ifCond .eq (7), 3) := by decide +kernel
theorem d_M_standby_8 : decode mt_M_standby.2.1 8 = .ok (.iconst 0, 1) := by decide +kernel
theorem d_M_standby_9 : decode mt_M_standby.2.1 9 = .ok (.goto (4), 3) := by decide +kernel
theorem d_M_standby_12 : decode mt_M_standby.2.1 12 = .ok (.iconst 1, 1) := by decide +kernel
theorem d_M_standby_13 : decode mt_M_standby.2.1 13 = .ok (.putfield 63, 3) := by decide +kernel
theorem d_M_standby_16 : decode mt_M_standby.2.1 16 = .ok (.aload_n 0, 1) := by decide +kernel
theorem d_M_standby_17 : decode mt_M_standby.2.1 17 = .ok (.getfield 63, 3) := by decide +kernel
theorem d_M_standby_20 : decode mt_M_standby.2.1 20 = .ok (.ifCond .le (5), 3) := by decide +kernel
theorem d_M_standby_23 : decode mt_M_standby.2.1 23 = .ok (.iconst 0, 1) := by decide +kernel
theorem d_M_standby_24 : decode mt_M_standby.2.1 24 = .ok (.ireturn, 1) := by decide +kernel
theorem d_M_standby_25 : decode mt_M_standby.2.1 25 = .ok (.iload_n 1, 1) := by decide +kernel
theorem d_M_standby_26 : decode mt_M_standby.2.1 26 = .ok (.istore_n 2, 1) := by decide +kernel
theorem d_M_standby_27 : decode mt_M_standby.2.1 27 = .ok (.iconst (-1), 1) := by decide +kernel
theorem d_M_standby_28 : decode mt_M_standby.2.1 28 = .ok (.istore_n 3, 1) := by decide +kernel
theorem d_M_standby_29 : decode mt_M_standby.2.1 29 = .ok (.iconst 0, 1) := by decide +kernel
theorem d_M_standby_30 : decode mt_M_standby.2.1 30 = .ok (.istore 4, 2) := by decide +kernel
theorem d_M_standby_32 : decode mt_M_standby.2.1 32 = .ok (.iload 4, 2) := by decide +kernel
theorem d_M_standby_34 : decode mt_M_standby.2.1 34 = .ok (.aload_n 0, 1) := by decide +kernel
theorem d_M_standby_35 : decode mt_M_standby.2.1 35 = .ok (.getfield 70, 3) := by decide +kernel
theorem d_M_standby_38 : decode mt_M_standby.2.1 38 = .ok (.if_icmp .ge (60), 3) := by decide +kernel
theorem d_M_standby_41 : decode mt_M_standby.2.1 41 = .ok (.iload_n 1, 1) := by decide +kernel
theorem d_M_standby_42 : decode mt_M_standby.2.1 42 = .ok (.ifCond .lt (56), 3) := by decide +kernel
theorem d_M_standby_45 : decode mt_M_standby.2.1 45 = .ok (.aload_n 0, 1) := by decide +kernel
theorem d_M_standby_46 : decode mt_M_standby.2.1 46 = .ok (.iload 4, 2) := by decide +kernel
theorem d_M_standby_48 : decode mt_M_standby.2.1 48 = .ok (.invokevirtual 124, 3) := by decide +kernel
theorem d_M_standby_51 : decode mt_M_standby.2.1 51 = .ok (.istore 5, 2) := by decide +kernel
theorem d_M_standby_53 : decode mt_M_standby.2.1 53 = .ok (.aload_n 0, 1) := by decide +kernel
theorem d_M_standby_54 : decode mt_M_standby.2.1 54 = .ok (.getfield 60, 3) := by decide +kernel
theorem d_M_standby_57 : decode mt_M_standby.2.1 57 = .ok (.iload 5, 2) := by decide +kernel
theorem d_M_standby_59 : decode mt_M_standby.2.1 59 = .ok (.iaload, 1) := by decide +kernel
theorem d_M_standby_60 : decode mt_M_standby.2.1 60 = .ok (.ifCond .ne (12), 3) := by decide +kernel
theorem d_M_standby_63 : decode mt_M_standby.2.1 63 = .ok (.iload_n 2, 1) := by decide +kernel
theorem d_M_standby_64 : decode mt_M_standby.2.1 64 = .ok (.ifCond .ne (8), 3) := by decide +kernel
theorem d_M_standby_67 : decode mt_M_standby.2.1 67 = .ok (.iload 5, 2) := by decide +kernel
theorem d_M_standby_69 : decode mt_M_standby.2.1 69 = .ok (.goto (4), 3) := by decide +kernel
theorem d_M_standby_72 : decode mt_M_standby.2.1 72 = .ok (.iload_n 3, 1) := by decide +kernel
theorem d_M_standby_73 : decode mt_M_standby.2.1 73 = .ok (.istore_n 3, 1) := by decide +kernel
theorem d_M_standby_74 : decode mt_M_standby.2.1 74 = .ok (.iload_n 2, 1) := by decide +kernel
theorem d_M_standby_75 : decode mt_M_standby.2.1 75 = .ok (.aload_n 0, 1) := by decide +kernel
theorem d_M_standby_76 : decode mt_M_standby.2.1 76 = .ok (.getfield 60, 3) := by decide +kernel
theorem d_M_standby_79 : decode mt_M_standby.2.1 79 = .ok (.iload 5, 2) := by decide +kernel
theorem d_M_standby_81 : decode mt_M_standby.2.1 81 = .ok (.iaload, 1) := by decide +kernel
theorem d_M_standby_82 : decode mt_M_standby.2.1 82 = .ok (.ifCond .ne (7), 3) := by decide +kernel
theorem d_M_standby_85 : decode mt_M_standby.2.1 85 = .ok (.iconst 1, 1) := by decide +kernel
theorem d_M_standby_86 : decode mt_M_standby.2.1 86 = .ok (.goto (4), 3) := by decide +kernel
theorem d_M_standby_89 : decode mt_M_standby.2.1 89 = .ok (.iconst 0, 1) := by decide +kernel
theorem d_M_standby_90 : decode mt_M_standby.2.1 90 = .ok (.isub, 1) := by decide +kernel
theorem d_M_standby_91 : decode mt_M_standby.2.1 91 = .ok (.istore_n 2, 1) := by decide +kernel
theorem d_M_standby_92 : decode mt_M_standby.2.1 92 = .ok (.iinc 4 (1), 3) := by decide +kernel
theorem d_M_standby_95 : decode mt_M_standby.2.1 95 = .ok (.goto (-63), 3) := by decide +kernel
theorem d_M_standby_98 : decode mt_M_standby.2.1 98 = .ok (.iload_n 3, 1) := by decide +kernel
theorem d_M_standby_99 : decode mt_M_standby.2.1 99 = .ok (.ireturn, 1) := by decide +kernel
theorem d_M_refused_0 : decode mt_M_refused.2.1 0 = .ok (.aload_n 0, 1) := by decide +kernel
theorem d_M_refused_1 : decode mt_M_refused.2.1 1 = .ok (.aload_n 0, 1) := by decide +kernel
theorem d_M_refused_2 : decode mt_M_refused.2.1 2 = .ok (.iload_n 1, 1) := by decide +kernel
theorem d_M_refused_3 : decode mt_M_refused.2.1 3 = .ok (.invokevirtual 144, 3) := by decide +kernel
theorem d_M_refused_6 : decode mt_M_refused.2.1 6 = .ok (.ifCond .eq (7), 3) := by decide +kernel
theorem d_M_refused_9 : decode mt_M_refused.2.1 9 = .ok (.iconst 0, 1) := by decide +kernel
theorem d_M_refused_10 : decode mt_M_refused.2.1 10 = .ok (.goto (4), 3) := by decide +kernel
theorem d_M_refused_13 : decode mt_M_refused.2.1 13 = .ok (.iconst 1, 1) := by decide +kernel
theorem d_M_refused_14 : decode mt_M_refused.2.1 14 = .ok (.putfield 63, 3) := by decide +kernel
theorem d_M_refused_17 : decode mt_M_refused.2.1 17 = .ok (.aload_n 0, 1) := by decide +kernel
theorem d_M_refused_18 : decode mt_M_refused.2.1 18 = .ok (.getfield 63, 3) := by decide +kernel
theorem d_M_refused_21 : decode mt_M_refused.2.1 21 = .ok (.ifCond .le (5), 3) := by decide +kernel
theorem d_M_refused_24 : decode mt_M_refused.2.1 24 = .ok (.iconst 0, 1) := by decide +kernel
theorem d_M_refused_25 : decode mt_M_refused.2.1 25 = .ok (.ireturn, 1) := by decide +kernel
theorem d_M_refused_26 : decode mt_M_refused.2.1 26 = .ok (.aload_n 0, 1) := by decide +kernel
theorem d_M_refused_27 : decode mt_M_refused.2.1 27 = .ok (.getfield 67, 3) := by decide +kernel
theorem d_M_refused_30 : decode mt_M_refused.2.1 30 = .ok (.ifCond .ne (7), 3) := by decide +kernel
theorem d_M_refused_33 : decode mt_M_refused.2.1 33 = .ok (.iconst 4, 1) := by decide +kernel
theorem d_M_refused_34 : decode mt_M_refused.2.1 34 = .ok (.goto (4), 3) := by decide +kernel
theorem d_M_refused_37 : decode mt_M_refused.2.1 37 = .ok (.iconst 0, 1) := by decide +kernel
theorem d_M_refused_38 : decode mt_M_refused.2.1 38 = .ok (.istore_n 2, 1) := by decide +kernel
theorem d_M_refused_39 : decode mt_M_refused.2.1 39 = .ok (.iconst 0, 1) := by decide +kernel
theorem d_M_refused_40 : decode mt_M_refused.2.1 40 = .ok (.istore_n 3, 1) := by decide +kernel
theorem d_M_refused_41 : decode mt_M_refused.2.1 41 = .ok (.iconst 0, 1) := by decide +kernel
theorem d_M_refused_42 : decode mt_M_refused.2.1 42 = .ok (.istore 4, 2) := by decide +kernel
theorem d_M_refused_44 : decode mt_M_refused.2.1 44 = .ok (.iload 4, 2) := by decide +kernel
theorem d_M_refused_46 : decode mt_M_refused.2.1 46 = .ok (.aload_n 0, 1) := by decide +kernel
theorem d_M_refused_47 : decode mt_M_refused.2.1 47 = .ok (.getfield 67, 3) := by decide +kernel
theorem d_M_refused_50 : decode mt_M_refused.2.1 50 = .ok (.if_icmp .ge (151), 3) := by decide +kernel
theorem d_M_refused_53 : decode mt_M_refused.2.1 53 = .ok (.aload_n 0, 1) := by decide +kernel
theorem d_M_refused_54 : decode mt_M_refused.2.1 54 = .ok (.iload 4, 2) := by decide +kernel
theorem d_M_refused_56 : decode mt_M_refused.2.1 56 = .ok (.aload_n 0, 1) := by decide +kernel
theorem d_M_refused_57 : decode mt_M_refused.2.1 57 = .ok (.getfield 33, 3) := by decide +kernel
theorem d_M_refused_60 : decode mt_M_refused.2.1 60 = .ok (.iload_n 1, 1) := by decide +kernel
theorem d_M_refused_61 : decode mt_M_refused.2.1 61 = .ok (.iaload, 1) := by decide +kernel
theorem d_M_refused_62 : decode mt_M_refused.2.1 62 = .ok (.iconst 1, 1) := by decide +kernel
theorem d_M_refused_63 : decode mt_M_refused.2.1 63 = .ok (.if_icmp .ne (7), 3) := by decide +kernel
theorem d_M_refused_66 : decode mt_M_refused.2.1 66 = .ok (.iconst 1, 1) := by decide +kernel
