theorem dd_L_init_0 : decode cb_L_init 0 = .ok (.aload_n 0, 1) := by decide +kernel
theorem dd_L_init_1 : decode cb_L_init 1 = .ok (.invokespecial 1, 3) := by decide +kernel
theorem dd_L_init_4 : decode cb_L_init 4 = .ok (.aload_n 0, 1) := by decide +kernel
theorem dd_L_init_5 : decode cb_L_init 5 = .ok (.iload_n 1, 1) := by decide +kernel
theorem dd_L_init_6 : decode cb_L_init 6 = .ok (.putfield 7, 3) := by decide +kernel
theorem dd_L_init_9 : decode cb_L_init 9 = .ok (.aload_n 0, 1) := by decide +kernel
theorem dd_L_init_10 : decode cb_L_init 10 = .ok (.iload_n 2, 1) := by decide +kernel
theorem dd_L_init_11 : decode cb_L_init 11 = .ok (.putfield 13, 3) := by decide +kernel
theorem dd_L_init_14 : decode cb_L_init 14 = .ok (.aload_n 0, 1) := by decide +kernel
theorem dd_L_init_15 : decode cb_L_init 15 = .ok (.iload_n 3, 1) := by decide +kernel
theorem dd_L_init_16 : decode cb_L_init 16 = .ok (.putfield 16, 3) := by decide +kernel
theorem dd_L_init_19 : decode cb_L_init 19 = .ok (.return_, 1) := by decide +kernel
