theorem dd_R_init_0 : decode cb_R_init 0 = .ok (.aload_n 0, 1) := by decide +kernel
theorem dd_R_init_1 : decode cb_R_init 1 = .ok (.invokespecial 3, 3) := by decide +kernel
theorem dd_R_init_4 : decode cb_R_init 4 = .ok (.aload_n 0, 1) := by decide +kernel
theorem dd_R_init_5 : decode cb_R_init 5 = .ok (.bipush 7, 2) := by decide +kernel
theorem dd_R_init_7 : decode cb_R_init 7 = .ok (.anewarray 9, 3) := by decide +kernel
theorem dd_R_init_10 : decode cb_R_init 10 = .ok (.putfield 11, 3) := by decide +kernel
theorem dd_R_init_13 : decode cb_R_init 13 = .ok (.return_, 1) := by decide +kernel
theorem dd_R_append_0 : decode cb_R_append 0 = .ok (.aload_n 0, 1) := by decide +kernel
theorem dd_R_append_1 : decode cb_R_append 1 = .ok (.getfield 17, 3) := by decide +kernel
theorem dd_R_append_4 : decode cb_R_append 4 = .ok (.aload_n 0, 1) := by decide +kernel
theorem dd_R_append_5 : decode cb_R_append 5 = .ok (.getfield 11, 3) := by decide +kernel
theorem dd_R_append_8 : decode cb_R_append 8 = .ok (.arraylength, 1) := by decide +kernel
theorem dd_R_append_9 : decode cb_R_append 9 = .ok (.if_icmp .ge 23, 3) := by decide +kernel
theorem dd_R_append_12 : decode cb_R_append 12 = .ok (.aload_n 0, 1) := by decide +kernel
theorem dd_R_append_13 : decode cb_R_append 13 = .ok (.getfield 11, 3) := by decide +kernel
theorem dd_R_append_16 : decode cb_R_append 16 = .ok (.aload_n 0, 1) := by decide +kernel
theorem dd_R_append_17 : decode cb_R_append 17 = .ok (.getfield 17, 3) := by decide +kernel
theorem dd_R_append_20 : decode cb_R_append 20 = .ok (.aload_n 1, 1) := by decide +kernel
theorem dd_R_append_21 : decode cb_R_append 21 = .ok (.aastore, 1) := by decide +kernel
theorem dd_R_append_22 : decode cb_R_append 22 = .ok (.aload_n 0, 1) := by decide +kernel
theorem dd_R_append_23 : decode cb_R_append 23 = .ok (.dup, 1) := by decide +kernel
theorem dd_R_append_24 : decode cb_R_append 24 = .ok (.getfield 17, 3) := by decide +kernel
theorem dd_R_append_27 : decode cb_R_append 27 = .ok (.iconst 1, 1) := by decide +kernel
theorem dd_R_append_28 : decode cb_R_append 28 = .ok (.iadd, 1) := by decide +kernel
theorem dd_R_append_29 : decode cb_R_append 29 = .ok (.putfield 17, 3) := by decide +kernel
theorem dd_R_append_32 : decode cb_R_append 32 = .ok (.return_, 1) := by decide +kernel
theorem dd_R_take_0 : decode cb_R_take 0 = .ok (.iload_n 1, 1) := by decide +kernel
theorem dd_R_take_1 : decode cb_R_take 1 = .ok (.ifCond .lt 11, 3) := by decide +kernel
theorem dd_R_take_4 : decode cb_R_take 4 = .ok (.iload_n 1, 1) := by decide +kernel
theorem dd_R_take_5 : decode cb_R_take 5 = .ok (.aload_n 0, 1) := by decide +kernel
theorem dd_R_take_6 : decode cb_R_take 6 = .ok (.getfield 17, 3) := by decide +kernel
theorem dd_R_take_9 : decode cb_R_take 9 = .ok (.if_icmp .lt 5, 3) := by decide +kernel
theorem dd_R_take_12 : decode cb_R_take 12 = .ok (.aconst_null, 1) := by decide +kernel
theorem dd_R_take_13 : decode cb_R_take 13 = .ok (.areturn, 1) := by decide +kernel
theorem dd_R_take_14 : decode cb_R_take 14 = .ok (.aload_n 0, 1) := by decide +kernel
theorem dd_R_take_15 : decode cb_R_take 15 = .ok (.getfield 11, 3) := by decide +kernel
theorem dd_R_take_18 : decode cb_R_take 18 = .ok (.iload_n 1, 1) := by decide +kernel
theorem dd_R_take_19 : decode cb_R_take 19 = .ok (.aaload, 1) := by decide +kernel
theorem dd_R_take_20 : decode cb_R_take 20 = .ok (.astore_n 2, 1) := by decide +kernel
theorem dd_R_take_21 : decode cb_R_take 21 = .ok (.aload_n 0, 1) := by decide +kernel
theorem dd_R_take_22 : decode cb_R_take 22 = .ok (.dup, 1) := by decide +kernel
theorem dd_R_take_23 : decode cb_R_take 23 = .ok (.getfield 17, 3) := by decide +kernel
theorem dd_R_take_26 : decode cb_R_take 26 = .ok (.iconst 1, 1) := by decide +kernel
theorem dd_R_take_27 : decode cb_R_take 27 = .ok (.isub, 1) := by decide +kernel
theorem dd_R_take_28 : decode cb_R_take 28 = .ok (.putfield 17, 3) := by decide +kernel
theorem dd_R_take_31 : decode cb_R_take 31 = .ok (.iload_n 1, 1) := by decide +kernel
theorem dd_R_take_32 : decode cb_R_take 32 = .ok (.istore_n 3, 1) := by decide +kernel
theorem dd_R_take_33 : decode cb_R_take 33 = .ok (.iload_n 3, 1) := by decide +kernel
theorem dd_R_take_34 : decode cb_R_take 34 = .ok (.aload_n 0, 1) := by decide +kernel
theorem dd_R_take_35 : decode cb_R_take 35 = .ok (.getfield 17, 3) := by decide +kernel
theorem dd_R_take_38 : decode cb_R_take 38 = .ok (.if_icmp .ge 23, 3) := by decide +kernel
theorem dd_R_take_41 : decode cb_R_take 41 = .ok (.aload_n 0, 1) := by decide +kernel
theorem dd_R_take_42 : decode cb_R_take 42 = .ok (.getfield 11, 3) := by decide +kernel
theorem dd_R_take_45 : decode cb_R_take 45 = .ok (.iload_n 3, 1) := by decide +kernel
theorem dd_R_take_46 : decode cb_R_take 46 = .ok (.aload_n 0, 1) := by decide +kernel
theorem dd_R_take_47 : decode cb_R_take 47 = .ok (.getfield 11, 3) := by decide +kernel
theorem dd_R_take_50 : decode cb_R_take 50 = .ok (.iload_n 3, 1) := by decide +kernel
theorem dd_R_take_51 : decode cb_R_take 51 = .ok (.iconst 1, 1) := by decide +kernel
theorem dd_R_take_52 : decode cb_R_take 52 = .ok (.iadd, 1) := by decide +kernel
theorem dd_R_take_53 : decode cb_R_take 53 = .ok (.aaload, 1) := by decide +kernel
theorem dd_R_take_54 : decode cb_R_take 54 = .ok (.aastore, 1) := by decide +kernel
theorem dd_R_take_55 : decode cb_R_take 55 = .ok (.iinc 3 1, 3) := by decide +kernel
theorem dd_R_take_58 : decode cb_R_take 58 = .ok (.goto (-25), 3) := by decide +kernel
theorem dd_R_take_61 : decode cb_R_take 61 = .ok (.aload_n 0, 1) := by decide +kernel
theorem dd_R_take_62 : decode cb_R_take 62 = .ok (.getfield 11, 3) := by decide +kernel
theorem dd_R_take_65 : decode cb_R_take 65 = .ok (.aload_n 0, 1) := by decide +kernel
theorem dd_R_take_66 : decode cb_R_take 66 = .ok (.getfield 17, 3) := by decide +kernel
theorem dd_R_take_69 : decode cb_R_take 69 = .ok (.aconst_null, 1) := by decide +kernel
theorem dd_R_take_70 : decode cb_R_take 70 = .ok (.aastore, 1) := by decide +kernel
theorem dd_R_take_71 : decode cb_R_take 71 = .ok (.aload_n 2, 1) := by decide +kernel
theorem dd_R_take_72 : decode cb_R_take 72 = .ok (.areturn, 1) := by decide +kernel
theorem dd_R_lose_0 : decode cb_R_lose 0 = .ok (.iconst 0, 1) := by decide +kernel
theorem dd_R_lose_1 : decode cb_R_lose 1 = .ok (.istore_n 1, 1) := by decide +kernel
theorem dd_R_lose_2 : decode cb_R_lose 2 = .ok (.iload_n 1, 1) := by decide +kernel
theorem dd_R_lose_3 : decode cb_R_lose 3 = .ok (.aload_n 0, 1) := by decide +kernel
theorem dd_R_lose_4 : decode cb_R_lose 4 = .ok (.getfield 11, 3) := by decide +kernel
theorem dd_R_lose_7 : decode cb_R_lose 7 = .ok (.arraylength, 1) := by decide +kernel
theorem dd_R_lose_8 : decode cb_R_lose 8 = .ok (.if_icmp .ge 16, 3) := by decide +kernel
theorem dd_R_lose_11 : decode cb_R_lose 11 = .ok (.aload_n 0, 1) := by decide +kernel
theorem dd_R_lose_12 : decode cb_R_lose 12 = .ok (.getfield 11, 3) := by decide +kernel
theorem dd_R_lose_15 : decode cb_R_lose 15 = .ok (.iload_n 1, 1) := by decide +kernel
theorem dd_R_lose_16 : decode cb_R_lose 16 = .ok (.aconst_null, 1) := by decide +kernel
theorem dd_R_lose_17 : decode cb_R_lose 17 = .ok (.aastore, 1) := by decide +kernel
theorem dd_R_lose_18 : decode cb_R_lose 18 = .ok (.iinc 1 1, 3) := by decide +kernel
theorem dd_R_lose_21 : decode cb_R_lose 21 = .ok (.goto (-19), 3) := by decide +kernel
theorem dd_R_lose_24 : decode cb_R_lose 24 = .ok (.aload_n 0, 1) := by decide +kernel
theorem dd_R_lose_25 : decode cb_R_lose 25 = .ok (.iconst 0, 1) := by decide +kernel
theorem dd_R_lose_26 : decode cb_R_lose 26 = .ok (.putfield 17, 3) := by decide +kernel
theorem dd_R_lose_29 : decode cb_R_lose 29 = .ok (.return_, 1) := by decide +kernel
