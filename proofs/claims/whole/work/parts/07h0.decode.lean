theorem dd_W_cell_0 : decode cb_W_cell 0 = .ok (.iload_n 1, 1) := by decide +kernel
theorem dd_W_cell_1 : decode cb_W_cell 1 = .ok (.aload_n 0, 1) := by decide +kernel
theorem dd_W_cell_2 : decode cb_W_cell 2 = .ok (.arraylength, 1) := by decide +kernel
theorem dd_W_cell_3 : decode cb_W_cell 3 = .ok (.if_icmp .ge 9, 3) := by decide +kernel
theorem dd_W_cell_6 : decode cb_W_cell 6 = .ok (.aload_n 0, 1) := by decide +kernel
theorem dd_W_cell_7 : decode cb_W_cell 7 = .ok (.iload_n 1, 1) := by decide +kernel
theorem dd_W_cell_8 : decode cb_W_cell 8 = .ok (.iaload, 1) := by decide +kernel
theorem dd_W_cell_9 : decode cb_W_cell 9 = .ok (.goto 4, 3) := by decide +kernel
theorem dd_W_cell_12 : decode cb_W_cell 12 = .ok (.iconst 0, 1) := by decide +kernel
theorem dd_W_cell_13 : decode cb_W_cell 13 = .ok (.ireturn, 1) := by decide +kernel
theorem dd_W_law_0 : decode cb_W_law 0 = .ok (.new 7, 3) := by decide +kernel
theorem dd_W_law_3 : decode cb_W_law 3 = .ok (.dup, 1) := by decide +kernel
theorem dd_W_law_4 : decode cb_W_law 4 = .ok (.aload_n 0, 1) := by decide +kernel
theorem dd_W_law_5 : decode cb_W_law 5 = .ok (.iconst 0, 1) := by decide +kernel
theorem dd_W_law_6 : decode cb_W_law 6 = .ok (.invokestatic 9, 3) := by decide +kernel
theorem dd_W_law_9 : decode cb_W_law 9 = .ok (.aload_n 0, 1) := by decide +kernel
theorem dd_W_law_10 : decode cb_W_law 10 = .ok (.iconst 1, 1) := by decide +kernel
theorem dd_W_law_11 : decode cb_W_law 11 = .ok (.invokestatic 9, 3) := by decide +kernel
theorem dd_W_law_14 : decode cb_W_law 14 = .ok (.aload_n 0, 1) := by decide +kernel
theorem dd_W_law_15 : decode cb_W_law 15 = .ok (.iconst 2, 1) := by decide +kernel
theorem dd_W_law_16 : decode cb_W_law 16 = .ok (.invokestatic 9, 3) := by decide +kernel
theorem dd_W_law_19 : decode cb_W_law 19 = .ok (.invokespecial 15, 3) := by decide +kernel
theorem dd_W_law_22 : decode cb_W_law 22 = .ok (.astore_n 1, 1) := by decide +kernel
theorem dd_W_law_23 : decode cb_W_law 23 = .ok (.new 18, 3) := by decide +kernel
theorem dd_W_law_26 : decode cb_W_law 26 = .ok (.dup, 1) := by decide +kernel
theorem dd_W_law_27 : decode cb_W_law 27 = .ok (.aload_n 0, 1) := by decide +kernel
theorem dd_W_law_28 : decode cb_W_law 28 = .ok (.iconst 0, 1) := by decide +kernel
theorem dd_W_law_29 : decode cb_W_law 29 = .ok (.invokestatic 9, 3) := by decide +kernel
theorem dd_W_law_32 : decode cb_W_law 32 = .ok (.aload_n 0, 1) := by decide +kernel
theorem dd_W_law_33 : decode cb_W_law 33 = .ok (.iconst 1, 1) := by decide +kernel
theorem dd_W_law_34 : decode cb_W_law 34 = .ok (.invokestatic 9, 3) := by decide +kernel
theorem dd_W_law_37 : decode cb_W_law 37 = .ok (.aload_n 0, 1) := by decide +kernel
theorem dd_W_law_38 : decode cb_W_law 38 = .ok (.iconst 2, 1) := by decide +kernel
theorem dd_W_law_39 : decode cb_W_law 39 = .ok (.invokestatic 9, 3) := by decide +kernel
theorem dd_W_law_42 : decode cb_W_law 42 = .ok (.invokespecial 20, 3) := by decide +kernel
theorem dd_W_law_45 : decode cb_W_law 45 = .ok (.astore_n 2, 1) := by decide +kernel
theorem dd_W_law_46 : decode cb_W_law 46 = .ok (.iconst 3, 1) := by decide +kernel
theorem dd_W_law_47 : decode cb_W_law 47 = .ok (.istore_n 3, 1) := by decide +kernel
theorem dd_W_law_48 : decode cb_W_law 48 = .ok (.iload_n 3, 1) := by decide +kernel
theorem dd_W_law_49 : decode cb_W_law 49 = .ok (.aload_n 0, 1) := by decide +kernel
theorem dd_W_law_50 : decode cb_W_law 50 = .ok (.arraylength, 1) := by decide +kernel
theorem dd_W_law_51 : decode cb_W_law 51 = .ok (.iconst 4, 1) := by decide +kernel
theorem dd_W_law_52 : decode cb_W_law 52 = .ok (.isub, 1) := by decide +kernel
theorem dd_W_law_53 : decode cb_W_law 53 = .ok (.if_icmp .gt 663, 3) := by decide +kernel
theorem dd_W_law_56 : decode cb_W_law 56 = .ok (.aload_n 0, 1) := by decide +kernel
theorem dd_W_law_57 : decode cb_W_law 57 = .ok (.iload_n 3, 1) := by decide +kernel
theorem dd_W_law_58 : decode cb_W_law 58 = .ok (.iaload, 1) := by decide +kernel
theorem dd_W_law_59 : decode cb_W_law 59 = .ok (.bipush 31, 2) := by decide +kernel
theorem dd_W_law_61 : decode cb_W_law 61 = .ok (.iand, 1) := by decide +kernel
theorem dd_W_law_62 : decode cb_W_law 62 = .ok (.tableswitch 648 0 18 #[90, 153, 176, 199, 242, 285, 308, 331, 354, 377, 400, 424, 447, 470, 503, 546, 569, 602, 635], 90) := by decide +kernel
theorem dd_W_law_152 : decode cb_W_law 152 = .ok (.aload_n 1, 1) := by decide +kernel
theorem dd_W_law_153 : decode cb_W_law 153 = .ok (.aload_n 0, 1) := by decide +kernel
theorem dd_W_law_154 : decode cb_W_law 154 = .ok (.iload_n 3, 1) := by decide +kernel
theorem dd_W_law_155 : decode cb_W_law 155 = .ok (.iconst 1, 1) := by decide +kernel
theorem dd_W_law_156 : decode cb_W_law 156 = .ok (.iadd, 1) := by decide +kernel
theorem dd_W_law_157 : decode cb_W_law 157 = .ok (.iaload, 1) := by decide +kernel
theorem dd_W_law_158 : decode cb_W_law 158 = .ok (.aload_n 0, 1) := by decide +kernel
theorem dd_W_law_159 : decode cb_W_law 159 = .ok (.iload_n 3, 1) := by decide +kernel
theorem dd_W_law_160 : decode cb_W_law 160 = .ok (.iconst 2, 1) := by decide +kernel
theorem dd_W_law_161 : decode cb_W_law 161 = .ok (.iadd, 1) := by decide +kernel
