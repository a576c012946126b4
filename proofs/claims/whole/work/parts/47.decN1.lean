/-! DECODE ROWS. Printed by wip/make.py. -/
theorem d_N_weighBoxes_88 : decode mt_N_weighBoxes.2.1 88 = .ok (.iaload, 1) := by decide +kernel
theorem d_N_weighBoxes_89 : decode mt_N_weighBoxes.2.1 89 = .ok (.aload_n 0, 1) := by decide +kernel
theorem d_N_weighBoxes_90 : decode mt_N_weighBoxes.2.1 90 = .ok (.iload_n 1, 1) := by decide +kernel
theorem d_N_weighBoxes_91 : decode mt_N_weighBoxes.2.1 91 = .ok (.invokevirtual 128, 3) := by decide +kernel
theorem d_N_weighBoxes_94 : decode mt_N_weighBoxes.2.1 94 = .ok (.ifCond .eq (12), 3) := by decide +kernel
theorem d_N_weighBoxes_97 : decode mt_N_weighBoxes.2.1 97 = .ok (.aload_n 0, 1) := by decide +kernel
theorem d_N_weighBoxes_98 : decode mt_N_weighBoxes.2.1 98 = .ok (.getfield 21, 3) := by decide +kernel
theorem d_N_weighBoxes_101 : decode mt_N_weighBoxes.2.1 101 = .ok (.iload_n 1, 1) := by decide +kernel
theorem d_N_weighBoxes_102 : decode mt_N_weighBoxes.2.1 102 = .ok (.iaload, 1) := by decide +kernel
theorem d_N_weighBoxes_103 : decode mt_N_weighBoxes.2.1 103 = .ok (.goto (4), 3) := by decide +kernel
theorem d_N_weighBoxes_106 : decode mt_N_weighBoxes.2.1 106 = .ok (.iconst 0, 1) := by decide +kernel
theorem d_N_weighBoxes_107 : decode mt_N_weighBoxes.2.1 107 = .ok (.iadd, 1) := by decide +kernel
theorem d_N_weighBoxes_108 : decode mt_N_weighBoxes.2.1 108 = .ok (.iastore, 1) := by decide +kernel
theorem d_N_weighBoxes_109 : decode mt_N_weighBoxes.2.1 109 = .ok (.iinc 1 (-1), 3) := by decide +kernel
theorem d_N_weighBoxes_112 : decode mt_N_weighBoxes.2.1 112 = .ok (.goto (-89), 3) := by decide +kernel
theorem d_N_weighBoxes_115 : decode mt_N_weighBoxes.2.1 115 = .ok (.return_, 1) := by decide +kernel
theorem d_N_someWagonTakes_0 : decode mt_N_someWagonTakes.2.1 0 = .ok (.iconst 0, 1) := by decide +kernel
theorem d_N_someWagonTakes_1 : decode mt_N_someWagonTakes.2.1 1 = .ok (.istore_n 2, 1) := by decide +kernel
theorem d_N_someWagonTakes_2 : decode mt_N_someWagonTakes.2.1 2 = .ok (.iload_n 2, 1) := by decide +kernel
theorem d_N_someWagonTakes_3 : decode mt_N_someWagonTakes.2.1 3 = .ok (.aload_n 0, 1) := by decide +kernel
theorem d_N_someWagonTakes_4 : decode mt_N_someWagonTakes.2.1 4 = .ok (.getfield 40, 3) := by decide +kernel
theorem d_N_someWagonTakes_7 : decode mt_N_someWagonTakes.2.1 7 = .ok (.getfield 64, 3) := by decide +kernel
theorem d_N_someWagonTakes_10 : decode mt_N_someWagonTakes.2.1 10 = .ok (.if_icmp .ge (20), 3) := by decide +kernel
theorem d_N_someWagonTakes_13 : decode mt_N_someWagonTakes.2.1 13 = .ok (.aload_n 0, 1) := by decide +kernel
theorem d_N_someWagonTakes_14 : decode mt_N_someWagonTakes.2.1 14 = .ok (.iload_n 1, 1) := by decide +kernel
theorem d_N_someWagonTakes_15 : decode mt_N_someWagonTakes.2.1 15 = .ok (.iload_n 2, 1) := by decide +kernel
theorem d_N_someWagonTakes_16 : decode mt_N_someWagonTakes.2.1 16 = .ok (.invokevirtual 131, 3) := by decide +kernel
theorem d_N_someWagonTakes_19 : decode mt_N_someWagonTakes.2.1 19 = .ok (.ifCond .eq (5), 3) := by decide +kernel
theorem d_N_someWagonTakes_22 : decode mt_N_someWagonTakes.2.1 22 = .ok (.iconst 1, 1) := by decide +kernel
theorem d_N_someWagonTakes_23 : decode mt_N_someWagonTakes.2.1 23 = .ok (.ireturn, 1) := by decide +kernel
theorem d_N_someWagonTakes_24 : decode mt_N_someWagonTakes.2.1 24 = .ok (.iinc 2 (1), 3) := by decide +kernel
theorem d_N_someWagonTakes_27 : decode mt_N_someWagonTakes.2.1 27 = .ok (.goto (-25), 3) := by decide +kernel
theorem d_N_someWagonTakes_30 : decode mt_N_someWagonTakes.2.1 30 = .ok (.iconst 0, 1) := by decide +kernel
theorem d_N_someWagonTakes_31 : decode mt_N_someWagonTakes.2.1 31 = .ok (.ireturn, 1) := by decide +kernel
theorem d_N_tryFrom_0 : decode mt_N_tryFrom.2.1 0 = .ok (.iload_n 1, 1) := by decide +kernel
theorem d_N_tryFrom_1 : decode mt_N_tryFrom.2.1 1 = .ok (.aload_n 0, 1) := by decide +kernel
theorem d_N_tryFrom_2 : decode mt_N_tryFrom.2.1 2 = .ok (.getfield 40, 3) := by decide +kernel
theorem d_N_tryFrom_5 : decode mt_N_tryFrom.2.1 5 = .ok (.getfield 118, 3) := by decide +kernel
theorem d_N_tryFrom_8 : decode mt_N_tryFrom.2.1 8 = .ok (.if_icmp .gt (21), 3) := by decide +kernel
theorem d_N_tryFrom_11 : decode mt_N_tryFrom.2.1 11 = .ok (.aload_n 0, 1) := by decide +kernel
theorem d_N_tryFrom_12 : decode mt_N_tryFrom.2.1 12 = .ok (.getfield 33, 3) := by decide +kernel
theorem d_N_tryFrom_15 : decode mt_N_tryFrom.2.1 15 = .ok (.aload_n 0, 1) := by decide +kernel
theorem d_N_tryFrom_16 : decode mt_N_tryFrom.2.1 16 = .ok (.getfield 24, 3) := by decide +kernel
theorem d_N_tryFrom_19 : decode mt_N_tryFrom.2.1 19 = .ok (.iload_n 1, 1) := by decide +kernel
theorem d_N_tryFrom_20 : decode mt_N_tryFrom.2.1 20 = .ok (.iaload, 1) := by decide +kernel
theorem d_N_tryFrom_21 : decode mt_N_tryFrom.2.1 21 = .ok (.iadd, 1) := by decide +kernel
theorem d_N_tryFrom_22 : decode mt_N_tryFrom.2.1 22 = .ok (.aload_n 0, 1) := by decide +kernel
theorem d_N_tryFrom_23 : decode mt_N_tryFrom.2.1 23 = .ok (.getfield 37, 3) := by decide +kernel
theorem d_N_tryFrom_26 : decode mt_N_tryFrom.2.1 26 = .ok (.if_icmp .gt (4), 3) := by decide +kernel
theorem d_N_tryFrom_29 : decode mt_N_tryFrom.2.1 29 = .ok (.return_, 1) := by decide +kernel
theorem d_N_tryFrom_30 : decode mt_N_tryFrom.2.1 30 = .ok (.iload_n 1, 1) := by decide +kernel
theorem d_N_tryFrom_31 : decode mt_N_tryFrom.2.1 31 = .ok (.aload_n 0, 1) := by decide +kernel
theorem d_N_tryFrom_32 : decode mt_N_tryFrom.2.1 32 = .ok (.getfield 40, 3) := by decide +kernel
theorem d_N_tryFrom_35 : decode mt_N_tryFrom.2.1 35 = .ok (.getfield 118, 3) := by decide +kernel
theorem d_N_tryFrom_38 : decode mt_N_tryFrom.2.1 38 = .ok (.if_icmp .ne (27), 3) := by decide +kernel
theorem d_N_tryFrom_41 : decode mt_N_tryFrom.2.1 41 = .ok (.aload_n 0, 1) := by decide +kernel
theorem d_N_tryFrom_42 : decode mt_N_tryFrom.2.1 42 = .ok (.aload_n 0, 1) := by decide +kernel
theorem d_N_tryFrom_43 : decode mt_N_tryFrom.2.1 43 = .ok (.getfield 33, 3) := by decide +kernel
theorem d_N_tryFrom_46 : decode mt_N_tryFrom.2.1 46 = .ok (.putfield 37, 3) := by decide +kernel
theorem d_N_tryFrom_49 : decode mt_N_tryFrom.2.1 49 = .ok (.aload_n 0, 1) := by decide +kernel
theorem d_N_tryFrom_50 : decode mt_N_tryFrom.2.1 50 = .ok (.getfield 27, 3) := by decide +kernel
theorem d_N_tryFrom_53 : decode mt_N_tryFrom.2.1 53 = .ok (.iconst 0, 1) := by decide +kernel
theorem d_N_tryFrom_54 : decode mt_N_tryFrom.2.1 54 = .ok (.aload_n 0, 1) := by decide +kernel
theorem d_N_tryFrom_55 : decode mt_N_tryFrom.2.1 55 = .ok (.getfield 30, 3) := by decide +kernel
theorem d_N_tryFrom_58 : decode mt_N_tryFrom.2.1 58 = .ok (.iconst 0, 1) := by decide +kernel
theorem d_N_tryFrom_59 : decode mt_N_tryFrom.2.1 59 = .ok (.bipush (8), 2) := by decide +kernel
theorem d_N_tryFrom_61 : decode mt_N_tryFrom.2.1 61 = .ok (.invokestatic 135, 3) := by decide +kernel
theorem d_N_tryFrom_64 : decode mt_N_tryFrom.2.1 64 = .ok (.return_, 1) := by decide +kernel
theorem d_N_tryFrom_65 : decode mt_N_tryFrom.2.1 65 = .ok (.iconst 0, 1) := by decide +kernel
theorem d_N_tryFrom_66 : decode mt_N_tryFrom.2.1 66 = .ok (.istore_n 2, 1) := by decide +kernel
theorem d_N_tryFrom_67 : decode mt_N_tryFrom.2.1 67 = .ok (.iload_n 2, 1) := by decide +kernel
theorem d_N_tryFrom_68 : decode mt_N_tryFrom.2.1 68 = .ok (.aload_n 0, 1) := by decide +kernel
theorem d_N_tryFrom_69 : decode mt_N_tryFrom.2.1 69 = .ok (.getfield 40, 3) := by decide +kernel
theorem d_N_tryFrom_72 : decode mt_N_tryFrom.2.1 72 = .ok (.getfield 64, 3) := by decide +kernel
theorem d_N_tryFrom_75 : decode mt_N_tryFrom.2.1 75 = .ok (.if_icmp .ge (24), 3) := by decide +kernel
theorem d_N_tryFrom_78 : decode mt_N_tryFrom.2.1 78 = .ok (.aload_n 0, 1) := by decide +kernel
theorem d_N_tryFrom_79 : decode mt_N_tryFrom.2.1 79 = .ok (.iload_n 1, 1) := by decide +kernel
theorem d_N_tryFrom_80 : decode mt_N_tryFrom.2.1 80 = .ok (.iload_n 2, 1) := by decide +kernel
theorem d_N_tryFrom_81 : decode mt_N_tryFrom.2.1 81 = .ok (.invokevirtual 131, 3) := by decide +kernel
theorem d_N_tryFrom_84 : decode mt_N_tryFrom.2.1 84 = .ok (.ifCond .eq (9), 3) := by decide +kernel
theorem d_N_tryFrom_87 : decode mt_N_tryFrom.2.1 87 = .ok (.aload_n 0, 1) := by decide +kernel
theorem d_N_tryFrom_88 : decode mt_N_tryFrom.2.1 88 = .ok (.iload_n 1, 1) := by decide +kernel
theorem d_N_tryFrom_89 : decode mt_N_tryFrom.2.1 89 = .ok (.iload_n 2, 1) := by decide +kernel
theorem d_N_tryFrom_90 : decode mt_N_tryFrom.2.1 90 = .ok (.invokevirtual 141, 3) := by decide +kernel
theorem d_N_tryFrom_93 : decode mt_N_tryFrom.2.1 93 = .ok (.iinc 2 (1), 3) := by decide +kernel
theorem d_N_tryFrom_96 : decode mt_N_tryFrom.2.1 96 = .ok (.goto (-29), 3) := by decide +kernel
theorem d_N_tryFrom_99 : decode mt_N_tryFrom.2.1 99 = .ok (.aload_n 0, 1) := by decide +kernel
theorem d_N_tryFrom_100 : decode mt_N_tryFrom.2.1 100 = .ok (.iload_n 1, 1) := by decide +kernel
theorem d_N_tryFrom_101 : decode mt_N_tryFrom.2.1 101 = .ok (.iconst 1, 1) := by decide +kernel
theorem d_N_tryFrom_102 : decode mt_N_tryFrom.2.1 102 = .ok (.iadd, 1) := by decide +kernel
theorem d_N_tryFrom_103 : decode mt_N_tryFrom.2.1 103 = .ok (.invokevirtual 57, 3) := by decide +kernel
theorem d_N_tryFrom_106 : decode mt_N_tryFrom.2.1 106 = .ok (.return_, 1) := by decide +kernel
theorem d_N_tryOn_0 : decode mt_N_tryOn.2.1 0 = .ok (.aload_n 0, 1) := by decide +kernel
theorem d_N_tryOn_1 : decode mt_N_tryOn.2.1 1 = .ok (.getfield 11, 3) := by decide +kernel
theorem d_N_tryOn_4 : decode mt_N_tryOn.2.1 4 = .ok (.iload_n 2, 1) := by decide +kernel
theorem d_N_tryOn_5 : decode mt_N_tryOn.2.1 5 = .ok (.aaload, 1) := by decide +kernel
theorem d_N_tryOn_6 : decode mt_N_tryOn.2.1 6 = .ok (.aload_n 0, 1) := by decide +kernel
theorem d_N_tryOn_7 : decode mt_N_tryOn.2.1 7 = .ok (.getfield 40, 3) := by decide +kernel
theorem d_N_tryOn_10 : decode mt_N_tryOn.2.1 10 = .ok (.getfield 99, 3) := by decide +kernel
theorem d_N_tryOn_13 : decode mt_N_tryOn.2.1 13 = .ok (.iload_n 1, 1) := by decide +kernel
theorem d_N_tryOn_14 : decode mt_N_tryOn.2.1 14 = .ok (.aaload, 1) := by decide +kernel
theorem d_N_tryOn_15 : decode mt_N_tryOn.2.1 15 = .ok (.invokevirtual 145, 3) := by decide +kernel
theorem d_N_tryOn_18 : decode mt_N_tryOn.2.1 18 = .ok (.aload_n 0, 1) := by decide +kernel
theorem d_N_tryOn_19 : decode mt_N_tryOn.2.1 19 = .ok (.dup, 1) := by decide +kernel
theorem d_N_tryOn_20 : decode mt_N_tryOn.2.1 20 = .ok (.getfield 33, 3) := by decide +kernel
theorem d_N_tryOn_23 : decode mt_N_tryOn.2.1 23 = .ok (.aload_n 0, 1) := by decide +kernel
theorem d_N_tryOn_24 : decode mt_N_tryOn.2.1 24 = .ok (.getfield 21, 3) := by decide +kernel
theorem d_N_tryOn_27 : decode mt_N_tryOn.2.1 27 = .ok (.iload_n 1, 1) := by decide +kernel
theorem d_N_tryOn_28 : decode mt_N_tryOn.2.1 28 = .ok (.iaload, 1) := by decide +kernel
theorem d_N_tryOn_29 : decode mt_N_tryOn.2.1 29 = .ok (.iadd, 1) := by decide +kernel
theorem d_N_tryOn_30 : decode mt_N_tryOn.2.1 30 = .ok (.putfield 33, 3) := by decide +kernel
theorem d_N_tryOn_33 : decode mt_N_tryOn.2.1 33 = .ok (.aload_n 0, 1) := by decide +kernel
theorem d_N_tryOn_34 : decode mt_N_tryOn.2.1 34 = .ok (.getfield 27, 3) := by decide +kernel
theorem d_N_tryOn_37 : decode mt_N_tryOn.2.1 37 = .ok (.iload_n 1, 1) := by decide +kernel
theorem d_N_tryOn_38 : decode mt_N_tryOn.2.1 38 = .ok (.iload_n 2, 1) := by decide +kernel
theorem d_N_tryOn_39 : decode mt_N_tryOn.2.1 39 = .ok (.iastore, 1) := by decide +kernel
theorem d_N_tryOn_40 : decode mt_N_tryOn.2.1 40 = .ok (.aload_n 0, 1) := by decide +kernel
theorem d_N_tryOn_41 : decode mt_N_tryOn.2.1 41 = .ok (.iload_n 1, 1) := by decide +kernel
theorem d_N_tryOn_42 : decode mt_N_tryOn.2.1 42 = .ok (.iconst 1, 1) := by decide +kernel
theorem d_N_tryOn_43 : decode mt_N_tryOn.2.1 43 = .ok (.iadd, 1) := by decide +kernel
theorem d_N_tryOn_44 : decode mt_N_tryOn.2.1 44 = .ok (.invokevirtual 57, 3) := by decide +kernel
theorem d_N_tryOn_47 : decode mt_N_tryOn.2.1 47 = .ok (.aload_n 0, 1) := by decide +kernel
theorem d_N_tryOn_48 : decode mt_N_tryOn.2.1 48 = .ok (.getfield 27, 3) := by decide +kernel
theorem d_N_tryOn_51 : decode mt_N_tryOn.2.1 51 = .ok (.iload_n 1, 1) := by decide +kernel
theorem d_N_tryOn_52 : decode mt_N_tryOn.2.1 52 = .ok (.iconst (-1), 1) := by decide +kernel
theorem d_N_tryOn_53 : decode mt_N_tryOn.2.1 53 = .ok (.iastore, 1) := by decide +kernel
theorem d_N_tryOn_54 : decode mt_N_tryOn.2.1 54 = .ok (.aload_n 0, 1) := by decide +kernel
theorem d_N_tryOn_55 : decode mt_N_tryOn.2.1 55 = .ok (.dup, 1) := by decide +kernel
theorem d_N_tryOn_56 : decode mt_N_tryOn.2.1 56 = .ok (.getfield 33, 3) := by decide +kernel
theorem d_N_tryOn_59 : decode mt_N_tryOn.2.1 59 = .ok (.aload_n 0, 1) := by decide +kernel
theorem d_N_tryOn_60 : decode mt_N_tryOn.2.1 60 = .ok (.getfield 21, 3) := by decide +kernel
theorem d_N_tryOn_63 : decode mt_N_tryOn.2.1 63 = .ok (.iload_n 1, 1) := by decide +kernel
theorem d_N_tryOn_64 : decode mt_N_tryOn.2.1 64 = .ok (.iaload, 1) := by decide +kernel
theorem d_N_tryOn_65 : decode mt_N_tryOn.2.1 65 = .ok (.isub, 1) := by decide +kernel
theorem d_N_tryOn_66 : decode mt_N_tryOn.2.1 66 = .ok (.putfield 33, 3) := by decide +kernel
theorem d_N_tryOn_69 : decode mt_N_tryOn.2.1 69 = .ok (.aload_n 0, 1) := by decide +kernel
theorem d_N_tryOn_70 : decode mt_N_tryOn.2.1 70 = .ok (.getfield 11, 3) := by decide +kernel
theorem d_N_tryOn_73 : decode mt_N_tryOn.2.1 73 = .ok (.iload_n 2, 1) := by decide +kernel
theorem d_N_tryOn_74 : decode mt_N_tryOn.2.1 74 = .ok (.aaload, 1) := by decide +kernel
theorem d_N_tryOn_75 : decode mt_N_tryOn.2.1 75 = .ok (.aload_n 0, 1) := by decide +kernel
theorem d_N_tryOn_76 : decode mt_N_tryOn.2.1 76 = .ok (.getfield 40, 3) := by decide +kernel
theorem d_N_tryOn_79 : decode mt_N_tryOn.2.1 79 = .ok (.getfield 99, 3) := by decide +kernel
theorem d_N_tryOn_82 : decode mt_N_tryOn.2.1 82 = .ok (.iload_n 1, 1) := by decide +kernel
theorem d_N_tryOn_83 : decode mt_N_tryOn.2.1 83 = .ok (.aaload, 1) := by decide +kernel
theorem d_N_tryOn_84 : decode mt_N_tryOn.2.1 84 = .ok (.invokevirtual 149, 3) := by decide +kernel
theorem d_N_tryOn_87 : decode mt_N_tryOn.2.1 87 = .ok (.return_, 1) := by decide +kernel
theorem d_N_putBestOn_0 : decode mt_N_putBestOn.2.1 0 = .ok (.iconst 0, 1) := by decide +kernel
theorem d_N_putBestOn_1 : decode mt_N_putBestOn.2.1 1 = .ok (.istore_n 1, 1) := by decide +kernel
theorem d_N_putBestOn_2 : decode mt_N_putBestOn.2.1 2 = .ok (.iload_n 1, 1) := by decide +kernel
theorem d_N_putBestOn_3 : decode mt_N_putBestOn.2.1 3 = .ok (.aload_n 0, 1) := by decide +kernel
theorem d_N_putBestOn_4 : decode mt_N_putBestOn.2.1 4 = .ok (.getfield 40, 3) := by decide +kernel
theorem d_N_putBestOn_7 : decode mt_N_putBestOn.2.1 7 = .ok (.getfield 118, 3) := by decide +kernel
theorem d_N_putBestOn_10 : decode mt_N_putBestOn.2.1 10 = .ok (.if_icmp .ge (48), 3) := by decide +kernel
theorem d_N_putBestOn_13 : decode mt_N_putBestOn.2.1 13 = .ok (.aload_n 0, 1) := by decide +kernel
theorem d_N_putBestOn_14 : decode mt_N_putBestOn.2.1 14 = .ok (.getfield 40, 3) := by decide +kernel
theorem d_N_putBestOn_17 : decode mt_N_putBestOn.2.1 17 = .ok (.aload_n 0, 1) := by decide +kernel
theorem d_N_putBestOn_18 : decode mt_N_putBestOn.2.1 18 = .ok (.getfield 30, 3) := by decide +kernel
theorem d_N_putBestOn_21 : decode mt_N_putBestOn.2.1 21 = .ok (.iload_n 1, 1) := by decide +kernel
theorem d_N_putBestOn_22 : decode mt_N_putBestOn.2.1 22 = .ok (.iaload, 1) := by decide +kernel
theorem d_N_putBestOn_23 : decode mt_N_putBestOn.2.1 23 = .ok (.invokevirtual 79, 3) := by decide +kernel
theorem d_N_putBestOn_26 : decode mt_N_putBestOn.2.1 26 = .ok (.ifCond .eq (26), 3) := by decide +kernel
theorem d_N_putBestOn_29 : decode mt_N_putBestOn.2.1 29 = .ok (.aload_n 0, 1) := by decide +kernel
theorem d_N_putBestOn_30 : decode mt_N_putBestOn.2.1 30 = .ok (.getfield 11, 3) := by decide +kernel
theorem d_N_putBestOn_33 : decode mt_N_putBestOn.2.1 33 = .ok (.aload_n 0, 1) := by decide +kernel
theorem d_N_putBestOn_34 : decode mt_N_putBestOn.2.1 34 = .ok (.getfield 30, 3) := by decide +kernel
theorem d_N_putBestOn_37 : decode mt_N_putBestOn.2.1 37 = .ok (.iload_n 1, 1) := by decide +kernel
theorem d_N_putBestOn_38 : decode mt_N_putBestOn.2.1 38 = .ok (.iaload, 1) := by decide +kernel
theorem d_N_putBestOn_39 : decode mt_N_putBestOn.2.1 39 = .ok (.aaload, 1) := by decide +kernel
theorem d_N_putBestOn_40 : decode mt_N_putBestOn.2.1 40 = .ok (.aload_n 0, 1) := by decide +kernel
theorem d_N_putBestOn_41 : decode mt_N_putBestOn.2.1 41 = .ok (.getfield 40, 3) := by decide +kernel
theorem d_N_putBestOn_44 : decode mt_N_putBestOn.2.1 44 = .ok (.getfield 99, 3) := by decide +kernel
theorem d_N_putBestOn_47 : decode mt_N_putBestOn.2.1 47 = .ok (.iload_n 1, 1) := by decide +kernel
theorem d_N_putBestOn_48 : decode mt_N_putBestOn.2.1 48 = .ok (.aaload, 1) := by decide +kernel
theorem d_N_putBestOn_49 : decode mt_N_putBestOn.2.1 49 = .ok (.invokevirtual 145, 3) := by decide +kernel
theorem d_N_putBestOn_52 : decode mt_N_putBestOn.2.1 52 = .ok (.iinc 1 (1), 3) := by decide +kernel
theorem d_N_putBestOn_55 : decode mt_N_putBestOn.2.1 55 = .ok (.goto (-53), 3) := by decide +kernel
theorem d_N_putBestOn_58 : decode mt_N_putBestOn.2.1 58 = .ok (.return_, 1) := by decide +kernel
theorem d_N_mayPutOn_0 : decode mt_N_mayPutOn.2.1 0 = .ok (.aload_n 0, 1) := by decide +kernel
theorem d_N_mayPutOn_1 : decode mt_N_mayPutOn.2.1 1 = .ok (.getfield 40, 3) := by decide +kernel
theorem d_N_mayPutOn_4 : decode mt_N_mayPutOn.2.1 4 = .ok (.getfield 99, 3) := by decide +kernel
theorem d_N_mayPutOn_7 : decode mt_N_mayPutOn.2.1 7 = .ok (.iload_n 1, 1) := by decide +kernel
theorem d_N_mayPutOn_8 : decode mt_N_mayPutOn.2.1 8 = .ok (.aaload, 1) := by decide +kernel
theorem d_N_mayPutOn_9 : decode mt_N_mayPutOn.2.1 9 = .ok (.astore_n 3, 1) := by decide +kernel
theorem d_N_mayPutOn_10 : decode mt_N_mayPutOn.2.1 10 = .ok (.aload_n 0, 1) := by decide +kernel
theorem d_N_mayPutOn_11 : decode mt_N_mayPutOn.2.1 11 = .ok (.getfield 40, 3) := by decide +kernel
theorem d_N_mayPutOn_14 : decode mt_N_mayPutOn.2.1 14 = .ok (.getfield 82, 3) := by decide +kernel
theorem d_N_mayPutOn_17 : decode mt_N_mayPutOn.2.1 17 = .ok (.iload_n 2, 1) := by decide +kernel
theorem d_N_mayPutOn_18 : decode mt_N_mayPutOn.2.1 18 = .ok (.aaload, 1) := by decide +kernel
theorem d_N_mayPutOn_19 : decode mt_N_mayPutOn.2.1 19 = .ok (.astore 4, 2) := by decide +kernel
theorem d_N_mayPutOn_21 : decode mt_N_mayPutOn.2.1 21 = .ok (.aload_n 0, 1) := by decide +kernel
theorem d_N_mayPutOn_22 : decode mt_N_mayPutOn.2.1 22 = .ok (.getfield 11, 3) := by decide +kernel
theorem d_N_mayPutOn_25 : decode mt_N_mayPutOn.2.1 25 = .ok (.iload_n 2, 1) := by decide +kernel
theorem d_N_mayPutOn_26 : decode mt_N_mayPutOn.2.1 26 = .ok (.aaload, 1) := by decide +kernel
theorem d_N_mayPutOn_27 : decode mt_N_mayPutOn.2.1 27 = .ok (.astore 5, 2) := by decide +kernel
theorem d_N_mayPutOn_29 : decode mt_N_mayPutOn.2.1 29 = .ok (.aload 4, 2) := by decide +kernel
theorem d_N_mayPutOn_31 : decode mt_N_mayPutOn.2.1 31 = .ok (.getfield 152, 3) := by decide +kernel
theorem d_N_mayPutOn_34 : decode mt_N_mayPutOn.2.1 34 = .ok (.ifCond .ne (80), 3) := by decide +kernel
theorem d_N_mayPutOn_37 : decode mt_N_mayPutOn.2.1 37 = .ok (.aload_n 3, 1) := by decide +kernel
theorem d_N_mayPutOn_38 : decode mt_N_mayPutOn.2.1 38 = .ok (.getfield 156, 3) := by decide +kernel
theorem d_N_mayPutOn_41 : decode mt_N_mayPutOn.2.1 41 = .ok (.aload_n 0, 1) := by decide +kernel
theorem d_N_mayPutOn_42 : decode mt_N_mayPutOn.2.1 42 = .ok (.getfield 40, 3) := by decide +kernel
theorem d_N_mayPutOn_45 : decode mt_N_mayPutOn.2.1 45 = .ok (.getfield 160, 3) := by decide +kernel
theorem d_N_mayPutOn_48 : decode mt_N_mayPutOn.2.1 48 = .ok (.lcmp, 1) := by decide +kernel
theorem d_N_mayPutOn_49 : decode mt_N_mayPutOn.2.1 49 = .ok (.ifCond .gt (65), 3) := by decide +kernel
theorem d_N_mayPutOn_52 : decode mt_N_mayPutOn.2.1 52 = .ok (.aload_n 3, 1) := by decide +kernel
theorem d_N_mayPutOn_53 : decode mt_N_mayPutOn.2.1 53 = .ok (.getfield 163, 3) := by decide +kernel
theorem d_N_mayPutOn_56 : decode mt_N_mayPutOn.2.1 56 = .ok (.aload 4, 2) := by decide +kernel
theorem d_N_mayPutOn_58 : decode mt_N_mayPutOn.2.1 58 = .ok (.getfield 166, 3) := by decide +kernel
theorem d_N_mayPutOn_61 : decode mt_N_mayPutOn.2.1 61 = .ok (.if_icmp .gt (53), 3) := by decide +kernel
theorem d_N_mayPutOn_64 : decode mt_N_mayPutOn.2.1 64 = .ok (.aload 5, 2) := by decide +kernel
theorem d_N_mayPutOn_66 : decode mt_N_mayPutOn.2.1 66 = .ok (.getfield 169, 3) := by decide +kernel
theorem d_N_mayPutOn_69 : decode mt_N_mayPutOn.2.1 69 = .ok (.aload_n 3, 1) := by decide +kernel
theorem d_N_mayPutOn_70 : decode mt_N_mayPutOn.2.1 70 = .ok (.getfield 172, 3) := by decide +kernel
theorem d_N_mayPutOn_73 : decode mt_N_mayPutOn.2.1 73 = .ok (.ladd, 1) := by decide +kernel
theorem d_N_mayPutOn_74 : decode mt_N_mayPutOn.2.1 74 = .ok (.aload 4, 2) := by decide +kernel
theorem d_N_mayPutOn_76 : decode mt_N_mayPutOn.2.1 76 = .ok (.getfield 173, 3) := by decide +kernel
theorem d_N_mayPutOn_79 : decode mt_N_mayPutOn.2.1 79 = .ok (.lcmp, 1) := by decide +kernel
theorem d_N_mayPutOn_80 : decode mt_N_mayPutOn.2.1 80 = .ok (.ifCond .gt (34), 3) := by decide +kernel
theorem d_N_mayPutOn_83 : decode mt_N_mayPutOn.2.1 83 = .ok (.aload 4, 2) := by decide +kernel
theorem d_N_mayPutOn_85 : decode mt_N_mayPutOn.2.1 85 = .ok (.aload 5, 2) := by decide +kernel
theorem d_N_mayPutOn_87 : decode mt_N_mayPutOn.2.1 87 = .ok (.aload_n 3, 1) := by decide +kernel
theorem d_N_mayPutOn_88 : decode mt_N_mayPutOn.2.1 88 = .ok (.getfield 103, 3) := by decide +kernel
theorem d_N_mayPutOn_91 : decode mt_N_mayPutOn.2.1 91 = .ok (.invokevirtual 86, 3) := by decide +kernel
theorem d_N_mayPutOn_94 : decode mt_N_mayPutOn.2.1 94 = .ok (.iconst (-1), 1) := by decide +kernel
theorem d_N_mayPutOn_95 : decode mt_N_mayPutOn.2.1 95 = .ok (.if_icmp .eq (19), 3) := by decide +kernel
theorem d_N_mayPutOn_98 : decode mt_N_mayPutOn.2.1 98 = .ok (.aload_n 0, 1) := by decide +kernel
theorem d_N_mayPutOn_99 : decode mt_N_mayPutOn.2.1 99 = .ok (.aload_n 3, 1) := by decide +kernel
theorem d_N_mayPutOn_100 : decode mt_N_mayPutOn.2.1 100 = .ok (.getfield 176, 3) := by decide +kernel
theorem d_N_mayPutOn_103 : decode mt_N_mayPutOn.2.1 103 = .ok (.iload_n 2, 1) := by decide +kernel
theorem d_N_mayPutOn_104 : decode mt_N_mayPutOn.2.1 104 = .ok (.invokevirtual 179, 3) := by decide +kernel
theorem d_N_mayPutOn_107 : decode mt_N_mayPutOn.2.1 107 = .ok (.ifCond .eq (7), 3) := by decide +kernel
theorem d_N_mayPutOn_110 : decode mt_N_mayPutOn.2.1 110 = .ok (.iconst 1, 1) := by decide +kernel
theorem d_N_mayPutOn_111 : decode mt_N_mayPutOn.2.1 111 = .ok (.goto (4), 3) := by decide +kernel
theorem d_N_mayPutOn_114 : decode mt_N_mayPutOn.2.1 114 = .ok (.iconst 0, 1) := by decide +kernel
theorem d_N_mayPutOn_115 : decode mt_N_mayPutOn.2.1 115 = .ok (.ireturn, 1) := by decide +kernel
theorem d_N_rulesAllow_0 : decode mt_N_rulesAllow.2.1 0 = .ok (.iload_n 2, 1) := by decide +kernel
theorem d_N_rulesAllow_1 : decode mt_N_rulesAllow.2.1 1 = .ok (.iconst 1, 1) := by decide +kernel
theorem d_N_rulesAllow_2 : decode mt_N_rulesAllow.2.1 2 = .ok (.isub, 1) := by decide +kernel
theorem d_N_rulesAllow_3 : decode mt_N_rulesAllow.2.1 3 = .ok (.istore_n 3, 1) := by decide +kernel
theorem d_N_rulesAllow_4 : decode mt_N_rulesAllow.2.1 4 = .ok (.iload_n 3, 1) := by decide +kernel
theorem d_N_rulesAllow_5 : decode mt_N_rulesAllow.2.1 5 = .ok (.iload_n 2, 1) := by decide +kernel
theorem d_N_rulesAllow_6 : decode mt_N_rulesAllow.2.1 6 = .ok (.iconst 1, 1) := by decide +kernel
theorem d_N_rulesAllow_7 : decode mt_N_rulesAllow.2.1 7 = .ok (.iadd, 1) := by decide +kernel
theorem d_N_rulesAllow_8 : decode mt_N_rulesAllow.2.1 8 = .ok (.if_icmp .gt (50), 3) := by decide +kernel
theorem d_N_rulesAllow_11 : decode mt_N_rulesAllow.2.1 11 = .ok (.iload_n 3, 1) := by decide +kernel
theorem d_N_rulesAllow_12 : decode mt_N_rulesAllow.2.1 12 = .ok (.iload_n 2, 1) := by decide +kernel
theorem d_N_rulesAllow_13 : decode mt_N_rulesAllow.2.1 13 = .ok (.if_icmp .ne (7), 3) := by decide +kernel
theorem d_N_rulesAllow_16 : decode mt_N_rulesAllow.2.1 16 = .ok (.iconst 1, 1) := by decide +kernel
theorem d_N_rulesAllow_17 : decode mt_N_rulesAllow.2.1 17 = .ok (.goto (4), 3) := by decide +kernel
theorem d_N_rulesAllow_20 : decode mt_N_rulesAllow.2.1 20 = .ok (.iconst 2, 1) := by decide +kernel
theorem d_N_rulesAllow_21 : decode mt_N_rulesAllow.2.1 21 = .ok (.istore 4, 2) := by decide +kernel
theorem d_N_rulesAllow_23 : decode mt_N_rulesAllow.2.1 23 = .ok (.aload_n 0, 1) := by decide +kernel
theorem d_N_rulesAllow_24 : decode mt_N_rulesAllow.2.1 24 = .ok (.getfield 40, 3) := by decide +kernel
theorem d_N_rulesAllow_27 : decode mt_N_rulesAllow.2.1 27 = .ok (.iload_n 3, 1) := by decide +kernel
theorem d_N_rulesAllow_28 : decode mt_N_rulesAllow.2.1 28 = .ok (.invokevirtual 79, 3) := by decide +kernel
theorem d_N_rulesAllow_31 : decode mt_N_rulesAllow.2.1 31 = .ok (.ifCond .eq (21), 3) := by decide +kernel
theorem d_N_rulesAllow_34 : decode mt_N_rulesAllow.2.1 34 = .ok (.aload_n 0, 1) := by decide +kernel
theorem d_N_rulesAllow_35 : decode mt_N_rulesAllow.2.1 35 = .ok (.iload_n 1, 1) := by decide +kernel
theorem d_N_rulesAllow_36 : decode mt_N_rulesAllow.2.1 36 = .ok (.aload_n 0, 1) := by decide +kernel
theorem d_N_rulesAllow_37 : decode mt_N_rulesAllow.2.1 37 = .ok (.getfield 11, 3) := by decide +kernel
theorem d_N_rulesAllow_40 : decode mt_N_rulesAllow.2.1 40 = .ok (.iload_n 3, 1) := by decide +kernel
theorem d_N_rulesAllow_41 : decode mt_N_rulesAllow.2.1 41 = .ok (.aaload, 1) := by decide +kernel
theorem d_N_rulesAllow_42 : decode mt_N_rulesAllow.2.1 42 = .ok (.iload 4, 2) := by decide +kernel
theorem d_N_rulesAllow_44 : decode mt_N_rulesAllow.2.1 44 = .ok (.invokevirtual 182, 3) := by decide +kernel
theorem d_N_rulesAllow_47 : decode mt_N_rulesAllow.2.1 47 = .ok (.ifCond .eq (5), 3) := by decide +kernel
theorem d_N_rulesAllow_50 : decode mt_N_rulesAllow.2.1 50 = .ok (.iconst 0, 1) := by decide +kernel
theorem d_N_rulesAllow_51 : decode mt_N_rulesAllow.2.1 51 = .ok (.ireturn, 1) := by decide +kernel
theorem d_N_rulesAllow_52 : decode mt_N_rulesAllow.2.1 52 = .ok (.iinc 3 (1), 3) := by decide +kernel
theorem d_N_rulesAllow_55 : decode mt_N_rulesAllow.2.1 55 = .ok (.goto (-51), 3) := by decide +kernel
theorem d_N_rulesAllow_58 : decode mt_N_rulesAllow.2.1 58 = .ok (.iconst 1, 1) := by decide +kernel
theorem d_N_rulesAllow_59 : decode mt_N_rulesAllow.2.1 59 = .ok (.ireturn, 1) := by decide +kernel
theorem d_N_isBarred_0 : decode mt_N_isBarred.2.1 0 = .ok (.iconst 1, 1) := by decide +kernel
theorem d_N_isBarred_1 : decode mt_N_isBarred.2.1 1 = .ok (.istore 4, 2) := by decide +kernel
theorem d_N_isBarred_3 : decode mt_N_isBarred.2.1 3 = .ok (.iload 4, 2) := by decide +kernel
theorem d_N_isBarred_5 : decode mt_N_isBarred.2.1 5 = .ok (.iconst 3, 1) := by decide +kernel
theorem d_N_isBarred_6 : decode mt_N_isBarred.2.1 6 = .ok (.if_icmp .gt (37), 3) := by decide +kernel
theorem d_N_isBarred_9 : decode mt_N_isBarred.2.1 9 = .ok (.aload_n 2, 1) := by decide +kernel
theorem d_N_isBarred_10 : decode mt_N_isBarred.2.1 10 = .ok (.getfield 186, 3) := by decide +kernel
theorem d_N_isBarred_13 : decode mt_N_isBarred.2.1 13 = .ok (.iload 4, 2) := by decide +kernel
theorem d_N_isBarred_15 : decode mt_N_isBarred.2.1 15 = .ok (.iaload, 1) := by decide +kernel
theorem d_N_isBarred_16 : decode mt_N_isBarred.2.1 16 = .ok (.ifCond .le (21), 3) := by decide +kernel
theorem d_N_isBarred_19 : decode mt_N_isBarred.2.1 19 = .ok (.aload_n 0, 1) := by decide +kernel
theorem d_N_isBarred_20 : decode mt_N_isBarred.2.1 20 = .ok (.getfield 40, 3) := by decide +kernel
theorem d_N_isBarred_23 : decode mt_N_isBarred.2.1 23 = .ok (.getfield 189, 3) := by decide +kernel
theorem d_N_isBarred_26 : decode mt_N_isBarred.2.1 26 = .ok (.iload_n 1, 1) := by decide +kernel
theorem d_N_isBarred_27 : decode mt_N_isBarred.2.1 27 = .ok (.aaload, 1) := by decide +kernel
theorem d_N_isBarred_28 : decode mt_N_isBarred.2.1 28 = .ok (.iload 4, 2) := by decide +kernel
theorem d_N_isBarred_30 : decode mt_N_isBarred.2.1 30 = .ok (.iaload, 1) := by decide +kernel
theorem d_N_isBarred_31 : decode mt_N_isBarred.2.1 31 = .ok (.iload_n 3, 1) := by decide +kernel
theorem d_N_isBarred_32 : decode mt_N_isBarred.2.1 32 = .ok (.if_icmp .lt (5), 3) := by decide +kernel
theorem d_N_isBarred_35 : decode mt_N_isBarred.2.1 35 = .ok (.iconst 1, 1) := by decide +kernel
theorem d_N_isBarred_36 : decode mt_N_isBarred.2.1 36 = .ok (.ireturn, 1) := by decide +kernel
theorem d_N_isBarred_37 : decode mt_N_isBarred.2.1 37 = .ok (.iinc 4 (1), 3) := by decide +kernel
theorem d_N_isBarred_40 : decode mt_N_isBarred.2.1 40 = .ok (.goto (-37), 3) := by decide +kernel
theorem d_N_isBarred_43 : decode mt_N_isBarred.2.1 43 = .ok (.iconst 0, 1) := by decide +kernel
theorem d_N_isBarred_44 : decode mt_N_isBarred.2.1 44 = .ok (.ireturn, 1) := by decide +kernel
