theorem dd_S_init_0 : decode cb_S_init 0 = .ok (.aload_n 0, 1) := by decide +kernel
theorem dd_S_init_1 : decode cb_S_init 1 = .ok (.invokespecial 3, 3) := by decide +kernel
theorem dd_S_init_4 : decode cb_S_init 4 = .ok (.aload_n 0, 1) := by decide +kernel
theorem dd_S_init_5 : decode cb_S_init 5 = .ok (.iconst 1, 1) := by decide +kernel
theorem dd_S_init_6 : decode cb_S_init 6 = .ok (.putfield 9, 3) := by decide +kernel
theorem dd_S_init_9 : decode cb_S_init 9 = .ok (.aload_n 0, 1) := by decide +kernel
theorem dd_S_init_10 : decode cb_S_init 10 = .ok (.iload_n 1, 1) := by decide +kernel
theorem dd_S_init_11 : decode cb_S_init 11 = .ok (.putfield 15, 3) := by decide +kernel
theorem dd_S_init_14 : decode cb_S_init 14 = .ok (.aload_n 0, 1) := by decide +kernel
theorem dd_S_init_15 : decode cb_S_init 15 = .ok (.iload_n 1, 1) := by decide +kernel
theorem dd_S_init_16 : decode cb_S_init 16 = .ok (.iconst 1, 1) := by decide +kernel
theorem dd_S_init_17 : decode cb_S_init 17 = .ok (.iadd, 1) := by decide +kernel
theorem dd_S_init_18 : decode cb_S_init 18 = .ok (.newarray .int, 2) := by decide +kernel
theorem dd_S_init_20 : decode cb_S_init 20 = .ok (.putfield 18, 3) := by decide +kernel
theorem dd_S_init_23 : decode cb_S_init 23 = .ok (.aload_n 0, 1) := by decide +kernel
theorem dd_S_init_24 : decode cb_S_init 24 = .ok (.iload_n 1, 1) := by decide +kernel
theorem dd_S_init_25 : decode cb_S_init 25 = .ok (.iconst 1, 1) := by decide +kernel
theorem dd_S_init_26 : decode cb_S_init 26 = .ok (.iadd, 1) := by decide +kernel
theorem dd_S_init_27 : decode cb_S_init 27 = .ok (.newarray .long, 2) := by decide +kernel
theorem dd_S_init_29 : decode cb_S_init 29 = .ok (.putfield 22, 3) := by decide +kernel
theorem dd_S_init_32 : decode cb_S_init 32 = .ok (.return_, 1) := by decide +kernel
theorem dd_S_answer_0 : decode cb_S_answer 0 = .ok (.aload_n 1, 1) := by decide +kernel
theorem dd_S_answer_1 : decode cb_S_answer 1 = .ok (.getfield 26, 3) := by decide +kernel
theorem dd_S_answer_4 : decode cb_S_answer 4 = .ok (.tableswitch 74 2 5 #[32, 47, 74, 58], 32) := by decide +kernel
theorem dd_S_answer_36 : decode cb_S_answer 36 = .ok (.aload_n 0, 1) := by decide +kernel
theorem dd_S_answer_37 : decode cb_S_answer 37 = .ok (.aload_n 1, 1) := by decide +kernel
theorem dd_S_answer_38 : decode cb_S_answer 38 = .ok (.getfield 31, 3) := by decide +kernel
theorem dd_S_answer_41 : decode cb_S_answer 41 = .ok (.aload_n 1, 1) := by decide +kernel
theorem dd_S_answer_42 : decode cb_S_answer 42 = .ok (.getfield 34, 3) := by decide +kernel
theorem dd_S_answer_45 : decode cb_S_answer 45 = .ok (.invokevirtual 38, 3) := by decide +kernel
theorem dd_S_answer_48 : decode cb_S_answer 48 = .ok (.goto 38, 3) := by decide +kernel
theorem dd_S_answer_51 : decode cb_S_answer 51 = .ok (.aload_n 0, 1) := by decide +kernel
theorem dd_S_answer_52 : decode cb_S_answer 52 = .ok (.aload_n 1, 1) := by decide +kernel
theorem dd_S_answer_53 : decode cb_S_answer 53 = .ok (.getfield 31, 3) := by decide +kernel
theorem dd_S_answer_56 : decode cb_S_answer 56 = .ok (.invokevirtual 42, 3) := by decide +kernel
theorem dd_S_answer_59 : decode cb_S_answer 59 = .ok (.goto 27, 3) := by decide +kernel
theorem dd_S_answer_62 : decode cb_S_answer 62 = .ok (.aload_n 0, 1) := by decide +kernel
theorem dd_S_answer_63 : decode cb_S_answer 63 = .ok (.aload_n 1, 1) := by decide +kernel
theorem dd_S_answer_64 : decode cb_S_answer 64 = .ok (.getfield 31, 3) := by decide +kernel
theorem dd_S_answer_67 : decode cb_S_answer 67 = .ok (.invokevirtual 42, 3) := by decide +kernel
theorem dd_S_answer_70 : decode cb_S_answer 70 = .ok (.aload_n 0, 1) := by decide +kernel
theorem dd_S_answer_71 : decode cb_S_answer 71 = .ok (.aload_n 1, 1) := by decide +kernel
theorem dd_S_answer_72 : decode cb_S_answer 72 = .ok (.invokevirtual 46, 3) := by decide +kernel
theorem dd_S_answer_75 : decode cb_S_answer 75 = .ok (.goto 11, 3) := by decide +kernel
theorem dd_S_answer_78 : decode cb_S_answer 78 = .ok (.aload_n 1, 1) := by decide +kernel
theorem dd_S_answer_79 : decode cb_S_answer 79 = .ok (.aload_n 0, 1) := by decide +kernel
theorem dd_S_answer_80 : decode cb_S_answer 80 = .ok (.getfield 50, 3) := by decide +kernel
theorem dd_S_answer_83 : decode cb_S_answer 83 = .ok (.putfield 53, 3) := by decide +kernel
theorem dd_S_answer_86 : decode cb_S_answer 86 = .ok (.return_, 1) := by decide +kernel
theorem dd_S_store_0 : decode cb_S_store 0 = .ok (.aload_n 0, 1) := by decide +kernel
theorem dd_S_store_1 : decode cb_S_store 1 = .ok (.getfield 9, 3) := by decide +kernel
theorem dd_S_store_4 : decode cb_S_store 4 = .ok (.istore 4, 2) := by decide +kernel
theorem dd_S_store_6 : decode cb_S_store 6 = .ok (.iload 4, 2) := by decide +kernel
theorem dd_S_store_8 : decode cb_S_store 8 = .ok (.ifCond .le 54, 3) := by decide +kernel
theorem dd_S_store_11 : decode cb_S_store 11 = .ok (.aload_n 0, 1) := by decide +kernel
theorem dd_S_store_12 : decode cb_S_store 12 = .ok (.getfield 18, 3) := by decide +kernel
theorem dd_S_store_15 : decode cb_S_store 15 = .ok (.iload 4, 2) := by decide +kernel
theorem dd_S_store_17 : decode cb_S_store 17 = .ok (.iconst 1, 1) := by decide +kernel
theorem dd_S_store_18 : decode cb_S_store 18 = .ok (.isub, 1) := by decide +kernel
theorem dd_S_store_19 : decode cb_S_store 19 = .ok (.iaload, 1) := by decide +kernel
theorem dd_S_store_20 : decode cb_S_store 20 = .ok (.iload_n 1, 1) := by decide +kernel
theorem dd_S_store_21 : decode cb_S_store 21 = .ok (.if_icmp .ge 41, 3) := by decide +kernel
theorem dd_S_store_24 : decode cb_S_store 24 = .ok (.aload_n 0, 1) := by decide +kernel
theorem dd_S_store_25 : decode cb_S_store 25 = .ok (.getfield 18, 3) := by decide +kernel
theorem dd_S_store_28 : decode cb_S_store 28 = .ok (.iload 4, 2) := by decide +kernel
theorem dd_S_store_30 : decode cb_S_store 30 = .ok (.aload_n 0, 1) := by decide +kernel
theorem dd_S_store_31 : decode cb_S_store 31 = .ok (.getfield 18, 3) := by decide +kernel
theorem dd_S_store_34 : decode cb_S_store 34 = .ok (.iload 4, 2) := by decide +kernel
theorem dd_S_store_36 : decode cb_S_store 36 = .ok (.iconst 1, 1) := by decide +kernel
theorem dd_S_store_37 : decode cb_S_store 37 = .ok (.isub, 1) := by decide +kernel
theorem dd_S_store_38 : decode cb_S_store 38 = .ok (.iaload, 1) := by decide +kernel
theorem dd_S_store_39 : decode cb_S_store 39 = .ok (.iastore, 1) := by decide +kernel
theorem dd_S_store_40 : decode cb_S_store 40 = .ok (.aload_n 0, 1) := by decide +kernel
theorem dd_S_store_41 : decode cb_S_store 41 = .ok (.getfield 22, 3) := by decide +kernel
theorem dd_S_store_44 : decode cb_S_store 44 = .ok (.iload 4, 2) := by decide +kernel
theorem dd_S_store_46 : decode cb_S_store 46 = .ok (.aload_n 0, 1) := by decide +kernel
theorem dd_S_store_47 : decode cb_S_store 47 = .ok (.getfield 22, 3) := by decide +kernel
theorem dd_S_store_50 : decode cb_S_store 50 = .ok (.iload 4, 2) := by decide +kernel
theorem dd_S_store_52 : decode cb_S_store 52 = .ok (.iconst 1, 1) := by decide +kernel
theorem dd_S_store_53 : decode cb_S_store 53 = .ok (.isub, 1) := by decide +kernel
theorem dd_S_store_54 : decode cb_S_store 54 = .ok (.laload, 1) := by decide +kernel
theorem dd_S_store_55 : decode cb_S_store 55 = .ok (.lastore, 1) := by decide +kernel
theorem dd_S_store_56 : decode cb_S_store 56 = .ok (.iinc 4 (-1), 3) := by decide +kernel
theorem dd_S_store_59 : decode cb_S_store 59 = .ok (.goto (-53), 3) := by decide +kernel
theorem dd_S_store_62 : decode cb_S_store 62 = .ok (.aload_n 0, 1) := by decide +kernel
theorem dd_S_store_63 : decode cb_S_store 63 = .ok (.getfield 18, 3) := by decide +kernel
theorem dd_S_store_66 : decode cb_S_store 66 = .ok (.iload 4, 2) := by decide +kernel
theorem dd_S_store_68 : decode cb_S_store 68 = .ok (.iload_n 1, 1) := by decide +kernel
theorem dd_S_store_69 : decode cb_S_store 69 = .ok (.iastore, 1) := by decide +kernel
theorem dd_S_store_70 : decode cb_S_store 70 = .ok (.aload_n 0, 1) := by decide +kernel
theorem dd_S_store_71 : decode cb_S_store 71 = .ok (.getfield 22, 3) := by decide +kernel
theorem dd_S_store_74 : decode cb_S_store 74 = .ok (.iload 4, 2) := by decide +kernel
theorem dd_S_store_76 : decode cb_S_store 76 = .ok (.lload_n 2, 1) := by decide +kernel
theorem dd_S_store_77 : decode cb_S_store 77 = .ok (.lastore, 1) := by decide +kernel
theorem dd_S_store_78 : decode cb_S_store 78 = .ok (.aload_n 0, 1) := by decide +kernel
theorem dd_S_store_79 : decode cb_S_store 79 = .ok (.aload_n 0, 1) := by decide +kernel
theorem dd_S_store_80 : decode cb_S_store 80 = .ok (.getfield 9, 3) := by decide +kernel
theorem dd_S_store_83 : decode cb_S_store 83 = .ok (.iconst 1, 1) := by decide +kernel
theorem dd_S_store_84 : decode cb_S_store 84 = .ok (.iadd, 1) := by decide +kernel
theorem dd_S_store_85 : decode cb_S_store 85 = .ok (.aload_n 0, 1) := by decide +kernel
theorem dd_S_store_86 : decode cb_S_store 86 = .ok (.getfield 15, 3) := by decide +kernel
theorem dd_S_store_89 : decode cb_S_store 89 = .ok (.invokestatic 54, 3) := by decide +kernel
theorem dd_S_store_92 : decode cb_S_store 92 = .ok (.putfield 9, 3) := by decide +kernel
theorem dd_S_store_95 : decode cb_S_store 95 = .ok (.return_, 1) := by decide +kernel
theorem dd_S_raiseSeal_0 : decode cb_S_raiseSeal 0 = .ok (.aload_n 0, 1) := by decide +kernel
theorem dd_S_raiseSeal_1 : decode cb_S_raiseSeal 1 = .ok (.aload_n 0, 1) := by decide +kernel
theorem dd_S_raiseSeal_2 : decode cb_S_raiseSeal 2 = .ok (.getfield 50, 3) := by decide +kernel
theorem dd_S_raiseSeal_5 : decode cb_S_raiseSeal 5 = .ok (.iload_n 1, 1) := by decide +kernel
theorem dd_S_raiseSeal_6 : decode cb_S_raiseSeal 6 = .ok (.invokestatic 60, 3) := by decide +kernel
theorem dd_S_raiseSeal_9 : decode cb_S_raiseSeal 9 = .ok (.putfield 50, 3) := by decide +kernel
theorem dd_S_raiseSeal_12 : decode cb_S_raiseSeal 12 = .ok (.return_, 1) := by decide +kernel
theorem dd_S_enclose_0 : decode cb_S_enclose 0 = .ok (.aload_n 0, 1) := by decide +kernel
theorem dd_S_enclose_1 : decode cb_S_enclose 1 = .ok (.aload_n 1, 1) := by decide +kernel
theorem dd_S_enclose_2 : decode cb_S_enclose 2 = .ok (.getfield 31, 3) := by decide +kernel
theorem dd_S_enclose_5 : decode cb_S_enclose 5 = .ok (.invokevirtual 63, 3) := by decide +kernel
theorem dd_S_enclose_8 : decode cb_S_enclose 8 = .ok (.istore_n 2, 1) := by decide +kernel
theorem dd_S_enclose_9 : decode cb_S_enclose 9 = .ok (.iload_n 2, 1) := by decide +kernel
theorem dd_S_enclose_10 : decode cb_S_enclose 10 = .ok (.ifCond .lt 18, 3) := by decide +kernel
theorem dd_S_enclose_13 : decode cb_S_enclose 13 = .ok (.aload_n 1, 1) := by decide +kernel
theorem dd_S_enclose_14 : decode cb_S_enclose 14 = .ok (.iconst 1, 1) := by decide +kernel
theorem dd_S_enclose_15 : decode cb_S_enclose 15 = .ok (.putfield 67, 3) := by decide +kernel
theorem dd_S_enclose_18 : decode cb_S_enclose 18 = .ok (.aload_n 1, 1) := by decide +kernel
theorem dd_S_enclose_19 : decode cb_S_enclose 19 = .ok (.aload_n 0, 1) := by decide +kernel
theorem dd_S_enclose_20 : decode cb_S_enclose 20 = .ok (.getfield 22, 3) := by decide +kernel
theorem dd_S_enclose_23 : decode cb_S_enclose 23 = .ok (.iload_n 2, 1) := by decide +kernel
theorem dd_S_enclose_24 : decode cb_S_enclose 24 = .ok (.laload, 1) := by decide +kernel
theorem dd_S_enclose_25 : decode cb_S_enclose 25 = .ok (.putfield 34, 3) := by decide +kernel
theorem dd_S_enclose_28 : decode cb_S_enclose 28 = .ok (.return_, 1) := by decide +kernel
theorem dd_S_placeOf_0 : decode cb_S_placeOf 0 = .ok (.iconst 0, 1) := by decide +kernel
theorem dd_S_placeOf_1 : decode cb_S_placeOf 1 = .ok (.istore_n 2, 1) := by decide +kernel
theorem dd_S_placeOf_2 : decode cb_S_placeOf 2 = .ok (.iload_n 2, 1) := by decide +kernel
theorem dd_S_placeOf_3 : decode cb_S_placeOf 3 = .ok (.aload_n 0, 1) := by decide +kernel
theorem dd_S_placeOf_4 : decode cb_S_placeOf 4 = .ok (.getfield 9, 3) := by decide +kernel
theorem dd_S_placeOf_7 : decode cb_S_placeOf 7 = .ok (.if_icmp .ge 21, 3) := by decide +kernel
theorem dd_S_placeOf_10 : decode cb_S_placeOf 10 = .ok (.aload_n 0, 1) := by decide +kernel
theorem dd_S_placeOf_11 : decode cb_S_placeOf 11 = .ok (.getfield 18, 3) := by decide +kernel
theorem dd_S_placeOf_14 : decode cb_S_placeOf 14 = .ok (.iload_n 2, 1) := by decide +kernel
theorem dd_S_placeOf_15 : decode cb_S_placeOf 15 = .ok (.iaload, 1) := by decide +kernel
theorem dd_S_placeOf_16 : decode cb_S_placeOf 16 = .ok (.iload_n 1, 1) := by decide +kernel
theorem dd_S_placeOf_17 : decode cb_S_placeOf 17 = .ok (.if_icmp .ne 5, 3) := by decide +kernel
theorem dd_S_placeOf_20 : decode cb_S_placeOf 20 = .ok (.iload_n 2, 1) := by decide +kernel
theorem dd_S_placeOf_21 : decode cb_S_placeOf 21 = .ok (.ireturn, 1) := by decide +kernel
theorem dd_S_placeOf_22 : decode cb_S_placeOf 22 = .ok (.iinc 2 1, 3) := by decide +kernel
theorem dd_S_placeOf_25 : decode cb_S_placeOf 25 = .ok (.goto (-23), 3) := by decide +kernel
theorem dd_S_placeOf_28 : decode cb_S_placeOf 28 = .ok (.iconst (-1), 1) := by decide +kernel
theorem dd_S_placeOf_29 : decode cb_S_placeOf 29 = .ok (.ireturn, 1) := by decide +kernel
