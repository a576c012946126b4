/-! DECODE ROWS. Printed by wip/make.py. -/
theorem d_B_init_0 : decode mt_B_init.2.1 0 = .ok (.aload_n 0, 1) := by decide +kernel
theorem d_B_init_1 : decode mt_B_init.2.1 1 = .ok (.invokespecial 1, 3) := by decide +kernel
theorem d_B_init_4 : decode mt_B_init.2.1 4 = .ok (.aload_n 0, 1) := by decide +kernel
theorem d_B_init_5 : decode mt_B_init.2.1 5 = .ok (.iconst 0, 1) := by decide +kernel
theorem d_B_init_6 : decode mt_B_init.2.1 6 = .ok (.putfield 7, 3) := by decide +kernel
theorem d_B_init_9 : decode mt_B_init.2.1 9 = .ok (.aload_n 0, 1) := by decide +kernel
theorem d_B_init_10 : decode mt_B_init.2.1 10 = .ok (.lconst 0, 1) := by decide +kernel
theorem d_B_init_11 : decode mt_B_init.2.1 11 = .ok (.putfield 13, 3) := by decide +kernel
theorem d_B_init_14 : decode mt_B_init.2.1 14 = .ok (.aload_n 0, 1) := by decide +kernel
theorem d_B_init_15 : decode mt_B_init.2.1 15 = .ok (.iconst 0, 1) := by decide +kernel
theorem d_B_init_16 : decode mt_B_init.2.1 16 = .ok (.putfield 17, 3) := by decide +kernel
theorem d_B_init_19 : decode mt_B_init.2.1 19 = .ok (.aload_n 0, 1) := by decide +kernel
theorem d_B_init_20 : decode mt_B_init.2.1 20 = .ok (.iconst 0, 1) := by decide +kernel
theorem d_B_init_21 : decode mt_B_init.2.1 21 = .ok (.putfield 20, 3) := by decide +kernel
theorem d_B_init_24 : decode mt_B_init.2.1 24 = .ok (.aload_n 0, 1) := by decide +kernel
theorem d_B_init_25 : decode mt_B_init.2.1 25 = .ok (.lconst 0, 1) := by decide +kernel
theorem d_B_init_26 : decode mt_B_init.2.1 26 = .ok (.putfield 23, 3) := by decide +kernel
theorem d_B_init_29 : decode mt_B_init.2.1 29 = .ok (.return_, 1) := by decide +kernel
