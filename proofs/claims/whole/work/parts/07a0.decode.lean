theorem dd_C_init_0 : decode cb_C_init 0 = .ok (.aload_n 0, 1) := by decide +kernel
theorem dd_C_init_1 : decode cb_C_init 1 = .ok (.invokespecial 3, 3) := by decide +kernel
theorem dd_C_init_4 : decode cb_C_init 4 = .ok (.aload_n 0, 1) := by decide +kernel
theorem dd_C_init_5 : decode cb_C_init 5 = .ok (.iconst 0, 1) := by decide +kernel
theorem dd_C_init_6 : decode cb_C_init 6 = .ok (.putfield 9, 3) := by decide +kernel
theorem dd_C_init_9 : decode cb_C_init 9 = .ok (.aload_n 0, 1) := by decide +kernel
theorem dd_C_init_10 : decode cb_C_init 10 = .ok (.iload_n 1, 1) := by decide +kernel
theorem dd_C_init_11 : decode cb_C_init 11 = .ok (.putfield 15, 3) := by decide +kernel
theorem dd_C_init_14 : decode cb_C_init 14 = .ok (.aload_n 0, 1) := by decide +kernel
theorem dd_C_init_15 : decode cb_C_init 15 = .ok (.iload_n 2, 1) := by decide +kernel
theorem dd_C_init_16 : decode cb_C_init 16 = .ok (.newarray .int, 2) := by decide +kernel
theorem dd_C_init_18 : decode cb_C_init 18 = .ok (.putfield 18, 3) := by decide +kernel
theorem dd_C_init_21 : decode cb_C_init 21 = .ok (.aload_n 0, 1) := by decide +kernel
theorem dd_C_init_22 : decode cb_C_init 22 = .ok (.iload_n 2, 1) := by decide +kernel
theorem dd_C_init_23 : decode cb_C_init 23 = .ok (.newarray .long, 2) := by decide +kernel
theorem dd_C_init_25 : decode cb_C_init 25 = .ok (.putfield 22, 3) := by decide +kernel
theorem dd_C_init_28 : decode cb_C_init 28 = .ok (.return_, 1) := by decide +kernel
theorem dd_C_isAtWork_0 : decode cb_C_isAtWork 0 = .ok (.aload_n 0, 1) := by decide +kernel
theorem dd_C_isAtWork_1 : decode cb_C_isAtWork 1 = .ok (.getfield 26, 3) := by decide +kernel
theorem dd_C_isAtWork_4 : decode cb_C_isAtWork 4 = .ok (.ifCond .ne 14, 3) := by decide +kernel
theorem dd_C_isAtWork_7 : decode cb_C_isAtWork 7 = .ok (.aload_n 0, 1) := by decide +kernel
theorem dd_C_isAtWork_8 : decode cb_C_isAtWork 8 = .ok (.getfield 9, 3) := by decide +kernel
theorem dd_C_isAtWork_11 : decode cb_C_isAtWork 11 = .ok (.ifCond .eq 7, 3) := by decide +kernel
theorem dd_C_isAtWork_14 : decode cb_C_isAtWork 14 = .ok (.iconst 1, 1) := by decide +kernel
theorem dd_C_isAtWork_15 : decode cb_C_isAtWork 15 = .ok (.goto 4, 3) := by decide +kernel
theorem dd_C_isAtWork_18 : decode cb_C_isAtWork 18 = .ok (.iconst 0, 1) := by decide +kernel
theorem dd_C_isAtWork_19 : decode cb_C_isAtWork 19 = .ok (.ireturn, 1) := by decide +kernel
theorem dd_C_enter_0 : decode cb_C_enter 0 = .ok (.aload_n 0, 1) := by decide +kernel
theorem dd_C_enter_1 : decode cb_C_enter 1 = .ok (.iload_n 1, 1) := by decide +kernel
theorem dd_C_enter_2 : decode cb_C_enter 2 = .ok (.putfield 9, 3) := by decide +kernel
theorem dd_C_enter_5 : decode cb_C_enter 5 = .ok (.aload_n 0, 1) := by decide +kernel
theorem dd_C_enter_6 : decode cb_C_enter 6 = .ok (.dup, 1) := by decide +kernel
theorem dd_C_enter_7 : decode cb_C_enter 7 = .ok (.getfield 30, 3) := by decide +kernel
theorem dd_C_enter_10 : decode cb_C_enter 10 = .ok (.iconst 1, 1) := by decide +kernel
theorem dd_C_enter_11 : decode cb_C_enter 11 = .ok (.iadd, 1) := by decide +kernel
theorem dd_C_enter_12 : decode cb_C_enter 12 = .ok (.putfield 30, 3) := by decide +kernel
theorem dd_C_enter_15 : decode cb_C_enter 15 = .ok (.aload_n 0, 1) := by decide +kernel
theorem dd_C_enter_16 : decode cb_C_enter 16 = .ok (.iconst 0, 1) := by decide +kernel
theorem dd_C_enter_17 : decode cb_C_enter 17 = .ok (.putfield 33, 3) := by decide +kernel
theorem dd_C_enter_20 : decode cb_C_enter 20 = .ok (.aload_n 0, 1) := by decide +kernel
theorem dd_C_enter_21 : decode cb_C_enter 21 = .ok (.iconst 0, 1) := by decide +kernel
theorem dd_C_enter_22 : decode cb_C_enter 22 = .ok (.putfield 36, 3) := by decide +kernel
theorem dd_C_enter_25 : decode cb_C_enter 25 = .ok (.aload_n 0, 1) := by decide +kernel
theorem dd_C_enter_26 : decode cb_C_enter 26 = .ok (.iconst 0, 1) := by decide +kernel
theorem dd_C_enter_27 : decode cb_C_enter 27 = .ok (.putfield 39, 3) := by decide +kernel
theorem dd_C_enter_30 : decode cb_C_enter 30 = .ok (.return_, 1) := by decide +kernel
theorem dd_C_counts_0 : decode cb_C_counts 0 = .ok (.aload_n 0, 1) := by decide +kernel
theorem dd_C_counts_1 : decode cb_C_counts 1 = .ok (.invokevirtual 42, 3) := by decide +kernel
theorem dd_C_counts_4 : decode cb_C_counts 4 = .ok (.ifCond .eq 18, 3) := by decide +kernel
theorem dd_C_counts_7 : decode cb_C_counts 7 = .ok (.aload_n 1, 1) := by decide +kernel
theorem dd_C_counts_8 : decode cb_C_counts 8 = .ok (.getfield 46, 3) := by decide +kernel
theorem dd_C_counts_11 : decode cb_C_counts 11 = .ok (.aload_n 0, 1) := by decide +kernel
theorem dd_C_counts_12 : decode cb_C_counts 12 = .ok (.getfield 30, 3) := by decide +kernel
theorem dd_C_counts_15 : decode cb_C_counts 15 = .ok (.if_icmp .ne 7, 3) := by decide +kernel
theorem dd_C_counts_18 : decode cb_C_counts 18 = .ok (.iconst 1, 1) := by decide +kernel
theorem dd_C_counts_19 : decode cb_C_counts 19 = .ok (.goto 4, 3) := by decide +kernel
theorem dd_C_counts_22 : decode cb_C_counts 22 = .ok (.iconst 0, 1) := by decide +kernel
theorem dd_C_counts_23 : decode cb_C_counts 23 = .ok (.ireturn, 1) := by decide +kernel
theorem dd_C_take_0 : decode cb_C_take 0 = .ok (.aload_n 0, 1) := by decide +kernel
theorem dd_C_take_1 : decode cb_C_take 1 = .ok (.dup, 1) := by decide +kernel
theorem dd_C_take_2 : decode cb_C_take 2 = .ok (.getfield 33, 3) := by decide +kernel
theorem dd_C_take_5 : decode cb_C_take 5 = .ok (.iconst 1, 1) := by decide +kernel
theorem dd_C_take_6 : decode cb_C_take 6 = .ok (.iadd, 1) := by decide +kernel
theorem dd_C_take_7 : decode cb_C_take 7 = .ok (.putfield 33, 3) := by decide +kernel
theorem dd_C_take_10 : decode cb_C_take 10 = .ok (.aload_n 0, 1) := by decide +kernel
theorem dd_C_take_11 : decode cb_C_take 11 = .ok (.aload_n 0, 1) := by decide +kernel
theorem dd_C_take_12 : decode cb_C_take 12 = .ok (.getfield 36, 3) := by decide +kernel
theorem dd_C_take_15 : decode cb_C_take 15 = .ok (.aload_n 1, 1) := by decide +kernel
theorem dd_C_take_16 : decode cb_C_take 16 = .ok (.getfield 49, 3) := by decide +kernel
theorem dd_C_take_19 : decode cb_C_take 19 = .ok (.invokestatic 52, 3) := by decide +kernel
theorem dd_C_take_22 : decode cb_C_take 22 = .ok (.putfield 36, 3) := by decide +kernel
theorem dd_C_take_25 : decode cb_C_take 25 = .ok (.aload_n 1, 1) := by decide +kernel
theorem dd_C_take_26 : decode cb_C_take 26 = .ok (.getfield 58, 3) := by decide +kernel
theorem dd_C_take_29 : decode cb_C_take 29 = .ok (.ifCond .eq 48, 3) := by decide +kernel
theorem dd_C_take_32 : decode cb_C_take 32 = .ok (.aload_n 0, 1) := by decide +kernel
theorem dd_C_take_33 : decode cb_C_take 33 = .ok (.getfield 39, 3) := by decide +kernel
theorem dd_C_take_36 : decode cb_C_take 36 = .ok (.aload_n 0, 1) := by decide +kernel
theorem dd_C_take_37 : decode cb_C_take 37 = .ok (.getfield 22, 3) := by decide +kernel
theorem dd_C_take_40 : decode cb_C_take 40 = .ok (.arraylength, 1) := by decide +kernel
theorem dd_C_take_41 : decode cb_C_take 41 = .ok (.if_icmp .ge 36, 3) := by decide +kernel
theorem dd_C_take_44 : decode cb_C_take 44 = .ok (.aload_n 0, 1) := by decide +kernel
theorem dd_C_take_45 : decode cb_C_take 45 = .ok (.getfield 18, 3) := by decide +kernel
theorem dd_C_take_48 : decode cb_C_take 48 = .ok (.aload_n 0, 1) := by decide +kernel
theorem dd_C_take_49 : decode cb_C_take 49 = .ok (.getfield 39, 3) := by decide +kernel
theorem dd_C_take_52 : decode cb_C_take 52 = .ok (.iload_n 2, 1) := by decide +kernel
theorem dd_C_take_53 : decode cb_C_take 53 = .ok (.iastore, 1) := by decide +kernel
theorem dd_C_take_54 : decode cb_C_take 54 = .ok (.aload_n 0, 1) := by decide +kernel
theorem dd_C_take_55 : decode cb_C_take 55 = .ok (.getfield 22, 3) := by decide +kernel
theorem dd_C_take_58 : decode cb_C_take 58 = .ok (.aload_n 0, 1) := by decide +kernel
theorem dd_C_take_59 : decode cb_C_take 59 = .ok (.getfield 39, 3) := by decide +kernel
theorem dd_C_take_62 : decode cb_C_take 62 = .ok (.aload_n 1, 1) := by decide +kernel
theorem dd_C_take_63 : decode cb_C_take 63 = .ok (.getfield 61, 3) := by decide +kernel
theorem dd_C_take_66 : decode cb_C_take 66 = .ok (.lastore, 1) := by decide +kernel
theorem dd_C_take_67 : decode cb_C_take 67 = .ok (.aload_n 0, 1) := by decide +kernel
theorem dd_C_take_68 : decode cb_C_take 68 = .ok (.dup, 1) := by decide +kernel
theorem dd_C_take_69 : decode cb_C_take 69 = .ok (.getfield 39, 3) := by decide +kernel
theorem dd_C_take_72 : decode cb_C_take 72 = .ok (.iconst 1, 1) := by decide +kernel
theorem dd_C_take_73 : decode cb_C_take 73 = .ok (.iadd, 1) := by decide +kernel
theorem dd_C_take_74 : decode cb_C_take 74 = .ok (.putfield 39, 3) := by decide +kernel
theorem dd_C_take_77 : decode cb_C_take 77 = .ok (.return_, 1) := by decide +kernel
theorem dd_C_hasAllFragments_0 : decode cb_C_hasAllFragments 0 = .ok (.aload_n 0, 1) := by decide +kernel
theorem dd_C_hasAllFragments_1 : decode cb_C_hasAllFragments 1 = .ok (.getfield 39, 3) := by decide +kernel
theorem dd_C_hasAllFragments_4 : decode cb_C_hasAllFragments 4 = .ok (.aload_n 0, 1) := by decide +kernel
theorem dd_C_hasAllFragments_5 : decode cb_C_hasAllFragments 5 = .ok (.getfield 22, 3) := by decide +kernel
theorem dd_C_hasAllFragments_8 : decode cb_C_hasAllFragments 8 = .ok (.arraylength, 1) := by decide +kernel
theorem dd_C_hasAllFragments_9 : decode cb_C_hasAllFragments 9 = .ok (.if_icmp .ne 7, 3) := by decide +kernel
theorem dd_C_hasAllFragments_12 : decode cb_C_hasAllFragments 12 = .ok (.iconst 1, 1) := by decide +kernel
theorem dd_C_hasAllFragments_13 : decode cb_C_hasAllFragments 13 = .ok (.goto 4, 3) := by decide +kernel
theorem dd_C_hasAllFragments_16 : decode cb_C_hasAllFragments 16 = .ok (.iconst 0, 1) := by decide +kernel
theorem dd_C_hasAllFragments_17 : decode cb_C_hasAllFragments 17 = .ok (.ireturn, 1) := by decide +kernel
theorem dd_C_finish_0 : decode cb_C_finish 0 = .ok (.aload_n 0, 1) := by decide +kernel
theorem dd_C_finish_1 : decode cb_C_finish 1 = .ok (.iconst 0, 1) := by decide +kernel
theorem dd_C_finish_2 : decode cb_C_finish 2 = .ok (.putfield 9, 3) := by decide +kernel
theorem dd_C_finish_5 : decode cb_C_finish 5 = .ok (.aload_n 0, 1) := by decide +kernel
theorem dd_C_finish_6 : decode cb_C_finish 6 = .ok (.dup, 1) := by decide +kernel
theorem dd_C_finish_7 : decode cb_C_finish 7 = .ok (.getfield 65, 3) := by decide +kernel
theorem dd_C_finish_10 : decode cb_C_finish 10 = .ok (.iconst 1, 1) := by decide +kernel
theorem dd_C_finish_11 : decode cb_C_finish 11 = .ok (.iadd, 1) := by decide +kernel
theorem dd_C_finish_12 : decode cb_C_finish 12 = .ok (.putfield 65, 3) := by decide +kernel
theorem dd_C_finish_15 : decode cb_C_finish 15 = .ok (.return_, 1) := by decide +kernel
