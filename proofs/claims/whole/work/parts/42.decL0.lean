/-! DECODE ROWS. Printed by wip/make.py. -/
theorem d_L_init_0 : decode mt_L_init.2.1 0 = .ok (.aload_n 0, 1) := by decide +kernel
theorem d_L_init_1 : decode mt_L_init.2.1 1 = .ok (.invokespecial 3, 3) := by decide +kernel
theorem d_L_init_4 : decode mt_L_init.2.1 4 = .ok (.aload_n 0, 1) := by decide +kernel
theorem d_L_init_5 : decode mt_L_init.2.1 5 = .ok (.iconst 4, 1) := by decide +kernel
theorem d_L_init_6 : decode mt_L_init.2.1 6 = .ok (.newarray .int, 2) := by decide +kernel
theorem d_L_init_8 : decode mt_L_init.2.1 8 = .ok (.putfield 9, 3) := by decide +kernel
theorem d_L_init_11 : decode mt_L_init.2.1 11 = .ok (.aload_n 0, 1) := by decide +kernel
theorem d_L_init_12 : decode mt_L_init.2.1 12 = .ok (.iconst 4, 1) := by decide +kernel
theorem d_L_init_13 : decode mt_L_init.2.1 13 = .ok (.newarray .int, 2) := by decide +kernel
theorem d_L_init_15 : decode mt_L_init.2.1 15 = .ok (.putfield 15, 3) := by decide +kernel
theorem d_L_init_18 : decode mt_L_init.2.1 18 = .ok (.aload_n 0, 1) := by decide +kernel
theorem d_L_init_19 : decode mt_L_init.2.1 19 = .ok (.iconst 0, 1) := by decide +kernel
theorem d_L_init_20 : decode mt_L_init.2.1 20 = .ok (.putfield 18, 3) := by decide +kernel
theorem d_L_init_23 : decode mt_L_init.2.1 23 = .ok (.aload_n 0, 1) := by decide +kernel
theorem d_L_init_24 : decode mt_L_init.2.1 24 = .ok (.iconst 0, 1) := by decide +kernel
theorem d_L_init_25 : decode mt_L_init.2.1 25 = .ok (.putfield 22, 3) := by decide +kernel
theorem d_L_init_28 : decode mt_L_init.2.1 28 = .ok (.aload_n 0, 1) := by decide +kernel
theorem d_L_init_29 : decode mt_L_init.2.1 29 = .ok (.lconst 0, 1) := by decide +kernel
theorem d_L_init_30 : decode mt_L_init.2.1 30 = .ok (.putfield 25, 3) := by decide +kernel
theorem d_L_init_33 : decode mt_L_init.2.1 33 = .ok (.return_, 1) := by decide +kernel
theorem d_L_clear_0 : decode mt_L_clear.2.1 0 = .ok (.aload_n 0, 1) := by decide +kernel
theorem d_L_clear_1 : decode mt_L_clear.2.1 1 = .ok (.getfield 9, 3) := by decide +kernel
theorem d_L_clear_4 : decode mt_L_clear.2.1 4 = .ok (.iconst 0, 1) := by decide +kernel
theorem d_L_clear_5 : decode mt_L_clear.2.1 5 = .ok (.invokestatic 29, 3) := by decide +kernel
theorem d_L_clear_8 : decode mt_L_clear.2.1 8 = .ok (.aload_n 0, 1) := by decide +kernel
theorem d_L_clear_9 : decode mt_L_clear.2.1 9 = .ok (.getfield 15, 3) := by decide +kernel
theorem d_L_clear_12 : decode mt_L_clear.2.1 12 = .ok (.iconst 0, 1) := by decide +kernel
theorem d_L_clear_13 : decode mt_L_clear.2.1 13 = .ok (.invokestatic 29, 3) := by decide +kernel
theorem d_L_clear_16 : decode mt_L_clear.2.1 16 = .ok (.aload_n 0, 1) := by decide +kernel
theorem d_L_clear_17 : decode mt_L_clear.2.1 17 = .ok (.iconst 0, 1) := by decide +kernel
theorem d_L_clear_18 : decode mt_L_clear.2.1 18 = .ok (.putfield 18, 3) := by decide +kernel
theorem d_L_clear_21 : decode mt_L_clear.2.1 21 = .ok (.aload_n 0, 1) := by decide +kernel
theorem d_L_clear_22 : decode mt_L_clear.2.1 22 = .ok (.iconst 0, 1) := by decide +kernel
theorem d_L_clear_23 : decode mt_L_clear.2.1 23 = .ok (.putfield 22, 3) := by decide +kernel
theorem d_L_clear_26 : decode mt_L_clear.2.1 26 = .ok (.aload_n 0, 1) := by decide +kernel
theorem d_L_clear_27 : decode mt_L_clear.2.1 27 = .ok (.lconst 0, 1) := by decide +kernel
theorem d_L_clear_28 : decode mt_L_clear.2.1 28 = .ok (.putfield 25, 3) := by decide +kernel
theorem d_L_clear_31 : decode mt_L_clear.2.1 31 = .ok (.return_, 1) := by decide +kernel
theorem d_L_putOn_0 : decode mt_L_putOn.2.1 0 = .ok (.aload_n 0, 1) := by decide +kernel
theorem d_L_putOn_1 : decode mt_L_putOn.2.1 1 = .ok (.aload_n 1, 1) := by decide +kernel
theorem d_L_putOn_2 : decode mt_L_putOn.2.1 2 = .ok (.iconst 1, 1) := by decide +kernel
theorem d_L_putOn_3 : decode mt_L_putOn.2.1 3 = .ok (.invokevirtual 35, 3) := by decide +kernel
theorem d_L_putOn_6 : decode mt_L_putOn.2.1 6 = .ok (.return_, 1) := by decide +kernel
theorem d_L_takeOff_0 : decode mt_L_takeOff.2.1 0 = .ok (.aload_n 0, 1) := by decide +kernel
theorem d_L_takeOff_1 : decode mt_L_takeOff.2.1 1 = .ok (.aload_n 1, 1) := by decide +kernel
theorem d_L_takeOff_2 : decode mt_L_takeOff.2.1 2 = .ok (.iconst (-1), 1) := by decide +kernel
theorem d_L_takeOff_3 : decode mt_L_takeOff.2.1 3 = .ok (.invokevirtual 35, 3) := by decide +kernel
theorem d_L_takeOff_6 : decode mt_L_takeOff.2.1 6 = .ok (.return_, 1) := by decide +kernel
theorem d_L_change_0 : decode mt_L_change.2.1 0 = .ok (.aload_n 0, 1) := by decide +kernel
theorem d_L_change_1 : decode mt_L_change.2.1 1 = .ok (.getfield 9, 3) := by decide +kernel
theorem d_L_change_4 : decode mt_L_change.2.1 4 = .ok (.aload_n 1, 1) := by decide +kernel
theorem d_L_change_5 : decode mt_L_change.2.1 5 = .ok (.getfield 39, 3) := by decide +kernel
theorem d_L_change_8 : decode mt_L_change.2.1 8 = .ok (.dup2, 1) := by decide +kernel
theorem d_L_change_9 : decode mt_L_change.2.1 9 = .ok (.iaload, 1) := by decide +kernel
theorem d_L_change_10 : decode mt_L_change.2.1 10 = .ok (.iload_n 2, 1) := by decide +kernel
theorem d_L_change_11 : decode mt_L_change.2.1 11 = .ok (.iadd, 1) := by decide +kernel
theorem d_L_change_12 : decode mt_L_change.2.1 12 = .ok (.iastore, 1) := by decide +kernel
theorem d_L_change_13 : decode mt_L_change.2.1 13 = .ok (.aload_n 0, 1) := by decide +kernel
theorem d_L_change_14 : decode mt_L_change.2.1 14 = .ok (.getfield 15, 3) := by decide +kernel
theorem d_L_change_17 : decode mt_L_change.2.1 17 = .ok (.aload_n 1, 1) := by decide +kernel
theorem d_L_change_18 : decode mt_L_change.2.1 18 = .ok (.getfield 44, 3) := by decide +kernel
theorem d_L_change_21 : decode mt_L_change.2.1 21 = .ok (.dup2, 1) := by decide +kernel
theorem d_L_change_22 : decode mt_L_change.2.1 22 = .ok (.iaload, 1) := by decide +kernel
theorem d_L_change_23 : decode mt_L_change.2.1 23 = .ok (.iload_n 2, 1) := by decide +kernel
theorem d_L_change_24 : decode mt_L_change.2.1 24 = .ok (.iadd, 1) := by decide +kernel
theorem d_L_change_25 : decode mt_L_change.2.1 25 = .ok (.iastore, 1) := by decide +kernel
theorem d_L_change_26 : decode mt_L_change.2.1 26 = .ok (.aload_n 0, 1) := by decide +kernel
theorem d_L_change_27 : decode mt_L_change.2.1 27 = .ok (.dup, 1) := by decide +kernel
theorem d_L_change_28 : decode mt_L_change.2.1 28 = .ok (.getfield 18, 3) := by decide +kernel
theorem d_L_change_31 : decode mt_L_change.2.1 31 = .ok (.iload_n 2, 1) := by decide +kernel
theorem d_L_change_32 : decode mt_L_change.2.1 32 = .ok (.iadd, 1) := by decide +kernel
theorem d_L_change_33 : decode mt_L_change.2.1 33 = .ok (.putfield 18, 3) := by decide +kernel
theorem d_L_change_36 : decode mt_L_change.2.1 36 = .ok (.aload_n 0, 1) := by decide +kernel
theorem d_L_change_37 : decode mt_L_change.2.1 37 = .ok (.dup, 1) := by decide +kernel
theorem d_L_change_38 : decode mt_L_change.2.1 38 = .ok (.getfield 22, 3) := by decide +kernel
theorem d_L_change_41 : decode mt_L_change.2.1 41 = .ok (.iload_n 2, 1) := by decide +kernel
theorem d_L_change_42 : decode mt_L_change.2.1 42 = .ok (.aload_n 1, 1) := by decide +kernel
theorem d_L_change_43 : decode mt_L_change.2.1 43 = .ok (.getfield 39, 3) := by decide +kernel
theorem d_L_change_46 : decode mt_L_change.2.1 46 = .ok (.invokestatic 47, 3) := by decide +kernel
theorem d_L_change_49 : decode mt_L_change.2.1 49 = .ok (.imul, 1) := by decide +kernel
theorem d_L_change_50 : decode mt_L_change.2.1 50 = .ok (.iadd, 1) := by decide +kernel
theorem d_L_change_51 : decode mt_L_change.2.1 51 = .ok (.putfield 22, 3) := by decide +kernel
theorem d_L_change_54 : decode mt_L_change.2.1 54 = .ok (.aload_n 0, 1) := by decide +kernel
theorem d_L_change_55 : decode mt_L_change.2.1 55 = .ok (.dup, 1) := by decide +kernel
theorem d_L_change_56 : decode mt_L_change.2.1 56 = .ok (.getfield 25, 3) := by decide +kernel
theorem d_L_change_59 : decode mt_L_change.2.1 59 = .ok (.iload_n 2, 1) := by decide +kernel
theorem d_L_change_60 : decode mt_L_change.2.1 60 = .ok (.i2l, 1) := by decide +kernel
theorem d_L_change_61 : decode mt_L_change.2.1 61 = .ok (.aload_n 1, 1) := by decide +kernel
theorem d_L_change_62 : decode mt_L_change.2.1 62 = .ok (.getfield 51, 3) := by decide +kernel
theorem d_L_change_65 : decode mt_L_change.2.1 65 = .ok (.lmul, 1) := by decide +kernel
theorem d_L_change_66 : decode mt_L_change.2.1 66 = .ok (.ladd, 1) := by decide +kernel
theorem d_L_change_67 : decode mt_L_change.2.1 67 = .ok (.putfield 25, 3) := by decide +kernel
theorem d_L_change_70 : decode mt_L_change.2.1 70 = .ok (.return_, 1) := by decide +kernel
