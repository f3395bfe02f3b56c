theorem dd_X_init_0 : decode cb_X_init 0 = .ok (.aload_n 0, 1) := by decide +kernel
theorem dd_X_init_1 : decode cb_X_init 1 = .ok (.invokespecial 3, 3) := by decide +kernel
theorem dd_X_init_4 : decode cb_X_init 4 = .ok (.iconst 3, 1) := by decide +kernel
theorem dd_X_init_5 : decode cb_X_init 5 = .ok (.iload_n 1, 1) := by decide +kernel
theorem dd_X_init_6 : decode cb_X_init 6 = .ok (.bipush 7, 2) := by decide +kernel
theorem dd_X_init_8 : decode cb_X_init 8 = .ok (.invokestatic 9, 3) := by decide +kernel
theorem dd_X_init_11 : decode cb_X_init 11 = .ok (.istore 4, 2) := by decide +kernel
theorem dd_X_init_13 : decode cb_X_init 13 = .ok (.iconst 1, 1) := by decide +kernel
theorem dd_X_init_14 : decode cb_X_init 14 = .ok (.iload_n 2, 1) := by decide +kernel
theorem dd_X_init_15 : decode cb_X_init 15 = .ok (.iload 4, 2) := by decide +kernel
theorem dd_X_init_17 : decode cb_X_init 17 = .ok (.invokestatic 9, 3) := by decide +kernel
theorem dd_X_init_20 : decode cb_X_init 20 = .ok (.istore 5, 2) := by decide +kernel
theorem dd_X_init_22 : decode cb_X_init 22 = .ok (.iconst 0, 1) := by decide +kernel
theorem dd_X_init_23 : decode cb_X_init 23 = .ok (.iload_n 3, 1) := by decide +kernel
theorem dd_X_init_24 : decode cb_X_init 24 = .ok (.iconst 3, 1) := by decide +kernel
theorem dd_X_init_25 : decode cb_X_init 25 = .ok (.invokestatic 9, 3) := by decide +kernel
theorem dd_X_init_28 : decode cb_X_init 28 = .ok (.istore 6, 2) := by decide +kernel
theorem dd_X_init_30 : decode cb_X_init 30 = .ok (.aload_n 0, 1) := by decide +kernel
theorem dd_X_init_31 : decode cb_X_init 31 = .ok (.iload 4, 2) := by decide +kernel
theorem dd_X_init_33 : decode cb_X_init 33 = .ok (.iload 5, 2) := by decide +kernel
theorem dd_X_init_35 : decode cb_X_init 35 = .ok (.isub, 1) := by decide +kernel
theorem dd_X_init_36 : decode cb_X_init 36 = .ok (.iconst 2, 1) := by decide +kernel
theorem dd_X_init_37 : decode cb_X_init 37 = .ok (.idiv, 1) := by decide +kernel
theorem dd_X_init_38 : decode cb_X_init 38 = .ok (.putfield 13, 3) := by decide +kernel
theorem dd_X_init_41 : decode cb_X_init 41 = .ok (.aload_n 0, 1) := by decide +kernel
theorem dd_X_init_42 : decode cb_X_init 42 = .ok (.iload 4, 2) := by decide +kernel
theorem dd_X_init_44 : decode cb_X_init 44 = .ok (.aload_n 0, 1) := by decide +kernel
theorem dd_X_init_45 : decode cb_X_init 45 = .ok (.getfield 13, 3) := by decide +kernel
theorem dd_X_init_48 : decode cb_X_init 48 = .ok (.isub, 1) := by decide +kernel
theorem dd_X_init_49 : decode cb_X_init 49 = .ok (.putfield 17, 3) := by decide +kernel
theorem dd_X_init_52 : decode cb_X_init 52 = .ok (.aload_n 0, 1) := by decide +kernel
theorem dd_X_init_53 : decode cb_X_init 53 = .ok (.new 20, 3) := by decide +kernel
theorem dd_X_init_56 : decode cb_X_init 56 = .ok (.dup, 1) := by decide +kernel
theorem dd_X_init_57 : decode cb_X_init 57 = .ok (.iload 5, 2) := by decide +kernel
theorem dd_X_init_59 : decode cb_X_init 59 = .ok (.invokespecial 22, 3) := by decide +kernel
theorem dd_X_init_62 : decode cb_X_init 62 = .ok (.putfield 25, 3) := by decide +kernel
theorem dd_X_init_65 : decode cb_X_init 65 = .ok (.aload_n 0, 1) := by decide +kernel
theorem dd_X_init_66 : decode cb_X_init 66 = .ok (.iconst 5, 1) := by decide +kernel
theorem dd_X_init_67 : decode cb_X_init 67 = .ok (.anewarray 29, 3) := by decide +kernel
theorem dd_X_init_70 : decode cb_X_init 70 = .ok (.putfield 31, 3) := by decide +kernel
theorem dd_X_init_73 : decode cb_X_init 73 = .ok (.iconst 0, 1) := by decide +kernel
theorem dd_X_init_74 : decode cb_X_init 74 = .ok (.istore 7, 2) := by decide +kernel
theorem dd_X_init_76 : decode cb_X_init 76 = .ok (.iload 7, 2) := by decide +kernel
theorem dd_X_init_78 : decode cb_X_init 78 = .ok (.iconst 5, 1) := by decide +kernel
theorem dd_X_init_79 : decode cb_X_init 79 = .ok (.if_icmp .ge 27, 3) := by decide +kernel
theorem dd_X_init_82 : decode cb_X_init 82 = .ok (.aload_n 0, 1) := by decide +kernel
theorem dd_X_init_83 : decode cb_X_init 83 = .ok (.getfield 31, 3) := by decide +kernel
theorem dd_X_init_86 : decode cb_X_init 86 = .ok (.iload 7, 2) := by decide +kernel
theorem dd_X_init_88 : decode cb_X_init 88 = .ok (.new 29, 3) := by decide +kernel
theorem dd_X_init_91 : decode cb_X_init 91 = .ok (.dup, 1) := by decide +kernel
theorem dd_X_init_92 : decode cb_X_init 92 = .ok (.iload 7, 2) := by decide +kernel
theorem dd_X_init_94 : decode cb_X_init 94 = .ok (.iload 5, 2) := by decide +kernel
theorem dd_X_init_96 : decode cb_X_init 96 = .ok (.invokespecial 35, 3) := by decide +kernel
theorem dd_X_init_99 : decode cb_X_init 99 = .ok (.aastore, 1) := by decide +kernel
theorem dd_X_init_100 : decode cb_X_init 100 = .ok (.iinc 7 1, 3) := by decide +kernel
theorem dd_X_init_103 : decode cb_X_init 103 = .ok (.goto (-27), 3) := by decide +kernel
theorem dd_X_init_106 : decode cb_X_init 106 = .ok (.aload_n 0, 1) := by decide +kernel
theorem dd_X_init_107 : decode cb_X_init 107 = .ok (.iload 4, 2) := by decide +kernel
theorem dd_X_init_109 : decode cb_X_init 109 = .ok (.anewarray 38, 3) := by decide +kernel
theorem dd_X_init_112 : decode cb_X_init 112 = .ok (.putfield 40, 3) := by decide +kernel
theorem dd_X_init_115 : decode cb_X_init 115 = .ok (.iconst 0, 1) := by decide +kernel
theorem dd_X_init_116 : decode cb_X_init 116 = .ok (.istore 7, 2) := by decide +kernel
theorem dd_X_init_118 : decode cb_X_init 118 = .ok (.iload 7, 2) := by decide +kernel
theorem dd_X_init_120 : decode cb_X_init 120 = .ok (.iload 4, 2) := by decide +kernel
theorem dd_X_init_122 : decode cb_X_init 122 = .ok (.if_icmp .ge 27, 3) := by decide +kernel
theorem dd_X_init_125 : decode cb_X_init 125 = .ok (.aload_n 0, 1) := by decide +kernel
theorem dd_X_init_126 : decode cb_X_init 126 = .ok (.getfield 40, 3) := by decide +kernel
theorem dd_X_init_129 : decode cb_X_init 129 = .ok (.iload 7, 2) := by decide +kernel
theorem dd_X_init_131 : decode cb_X_init 131 = .ok (.new 38, 3) := by decide +kernel
theorem dd_X_init_134 : decode cb_X_init 134 = .ok (.dup, 1) := by decide +kernel
theorem dd_X_init_135 : decode cb_X_init 135 = .ok (.iload 6, 2) := by decide +kernel
theorem dd_X_init_137 : decode cb_X_init 137 = .ok (.iconst 1, 1) := by decide +kernel
theorem dd_X_init_138 : decode cb_X_init 138 = .ok (.iadd, 1) := by decide +kernel
theorem dd_X_init_139 : decode cb_X_init 139 = .ok (.invokespecial 44, 3) := by decide +kernel
theorem dd_X_init_142 : decode cb_X_init 142 = .ok (.aastore, 1) := by decide +kernel
theorem dd_X_init_143 : decode cb_X_init 143 = .ok (.iinc 7 1, 3) := by decide +kernel
theorem dd_X_init_146 : decode cb_X_init 146 = .ok (.goto (-28), 3) := by decide +kernel
theorem dd_X_init_149 : decode cb_X_init 149 = .ok (.aload_n 0, 1) := by decide +kernel
theorem dd_X_init_150 : decode cb_X_init 150 = .ok (.iconst 5, 1) := by decide +kernel
theorem dd_X_init_151 : decode cb_X_init 151 = .ok (.iload 4, 2) := by decide +kernel
theorem dd_X_init_153 : decode cb_X_init 153 = .ok (.imul, 1) := by decide +kernel
theorem dd_X_init_154 : decode cb_X_init 154 = .ok (.invokestatic 45, 3) := by decide +kernel
theorem dd_X_init_157 : decode cb_X_init 157 = .ok (.putfield 49, 3) := by decide +kernel
theorem dd_X_init_160 : decode cb_X_init 160 = .ok (.aload_n 0, 1) := by decide +kernel
theorem dd_X_init_161 : decode cb_X_init 161 = .ok (.iconst 5, 1) := by decide +kernel
theorem dd_X_init_162 : decode cb_X_init 162 = .ok (.iload 4, 2) := by decide +kernel
theorem dd_X_init_164 : decode cb_X_init 164 = .ok (.imul, 1) := by decide +kernel
theorem dd_X_init_165 : decode cb_X_init 165 = .ok (.invokestatic 45, 3) := by decide +kernel
theorem dd_X_init_168 : decode cb_X_init 168 = .ok (.putfield 53, 3) := by decide +kernel
theorem dd_X_init_171 : decode cb_X_init 171 = .ok (.return_, 1) := by decide +kernel
theorem dd_X_write_0 : decode cb_X_write 0 = .ok (.aload_n 0, 1) := by decide +kernel
theorem dd_X_write_1 : decode cb_X_write 1 = .ok (.iload_n 1, 1) := by decide +kernel
theorem dd_X_write_2 : decode cb_X_write 2 = .ok (.invokevirtual 56, 3) := by decide +kernel
theorem dd_X_write_5 : decode cb_X_write 5 = .ok (.istore 4, 2) := by decide +kernel
theorem dd_X_write_7 : decode cb_X_write 7 = .ok (.iload 4, 2) := by decide +kernel
theorem dd_X_write_9 : decode cb_X_write 9 = .ok (.ifCond .eq 6, 3) := by decide +kernel
theorem dd_X_write_12 : decode cb_X_write 12 = .ok (.iload 4, 2) := by decide +kernel
theorem dd_X_write_14 : decode cb_X_write 14 = .ok (.ireturn, 1) := by decide +kernel
theorem dd_X_write_15 : decode cb_X_write 15 = .ok (.aload_n 0, 1) := by decide +kernel
theorem dd_X_write_16 : decode cb_X_write 16 = .ok (.getfield 31, 3) := by decide +kernel
theorem dd_X_write_19 : decode cb_X_write 19 = .ok (.iload_n 1, 1) := by decide +kernel
theorem dd_X_write_20 : decode cb_X_write 20 = .ok (.aaload, 1) := by decide +kernel
theorem dd_X_write_21 : decode cb_X_write 21 = .ok (.lload_n 2, 1) := by decide +kernel
theorem dd_X_write_22 : decode cb_X_write 22 = .ok (.putfield 60, 3) := by decide +kernel
theorem dd_X_write_25 : decode cb_X_write 25 = .ok (.aload_n 0, 1) := by decide +kernel
theorem dd_X_write_26 : decode cb_X_write 26 = .ok (.aload_n 0, 1) := by decide +kernel
theorem dd_X_write_27 : decode cb_X_write 27 = .ok (.getfield 31, 3) := by decide +kernel
theorem dd_X_write_30 : decode cb_X_write 30 = .ok (.iload_n 1, 1) := by decide +kernel
theorem dd_X_write_31 : decode cb_X_write 31 = .ok (.aaload, 1) := by decide +kernel
theorem dd_X_write_32 : decode cb_X_write 32 = .ok (.iconst 1, 1) := by decide +kernel
theorem dd_X_write_33 : decode cb_X_write 33 = .ok (.invokevirtual 64, 3) := by decide +kernel
theorem dd_X_write_36 : decode cb_X_write 36 = .ok (.iconst 0, 1) := by decide +kernel
theorem dd_X_write_37 : decode cb_X_write 37 = .ok (.ireturn, 1) := by decide +kernel
theorem dd_X_read_0 : decode cb_X_read 0 = .ok (.aload_n 0, 1) := by decide +kernel
theorem dd_X_read_1 : decode cb_X_read 1 = .ok (.iload_n 1, 1) := by decide +kernel
theorem dd_X_read_2 : decode cb_X_read 2 = .ok (.invokevirtual 56, 3) := by decide +kernel
theorem dd_X_read_5 : decode cb_X_read 5 = .ok (.istore_n 2, 1) := by decide +kernel
theorem dd_X_read_6 : decode cb_X_read 6 = .ok (.iload_n 2, 1) := by decide +kernel
theorem dd_X_read_7 : decode cb_X_read 7 = .ok (.ifCond .eq 5, 3) := by decide +kernel
theorem dd_X_read_10 : decode cb_X_read 10 = .ok (.iload_n 2, 1) := by decide +kernel
theorem dd_X_read_11 : decode cb_X_read 11 = .ok (.ireturn, 1) := by decide +kernel
theorem dd_X_read_12 : decode cb_X_read 12 = .ok (.aload_n 0, 1) := by decide +kernel
theorem dd_X_read_13 : decode cb_X_read 13 = .ok (.aload_n 0, 1) := by decide +kernel
theorem dd_X_read_14 : decode cb_X_read 14 = .ok (.getfield 31, 3) := by decide +kernel
theorem dd_X_read_17 : decode cb_X_read 17 = .ok (.iload_n 1, 1) := by decide +kernel
theorem dd_X_read_18 : decode cb_X_read 18 = .ok (.aaload, 1) := by decide +kernel
theorem dd_X_read_19 : decode cb_X_read 19 = .ok (.iconst 4, 1) := by decide +kernel
theorem dd_X_read_20 : decode cb_X_read 20 = .ok (.invokevirtual 64, 3) := by decide +kernel
theorem dd_X_read_23 : decode cb_X_read 23 = .ok (.iconst 0, 1) := by decide +kernel
theorem dd_X_read_24 : decode cb_X_read 24 = .ok (.ireturn, 1) := by decide +kernel
theorem dd_X_again_0 : decode cb_X_again 0 = .ok (.aload_n 0, 1) := by decide +kernel
theorem dd_X_again_1 : decode cb_X_again 1 = .ok (.iload_n 1, 1) := by decide +kernel
theorem dd_X_again_2 : decode cb_X_again 2 = .ok (.invokevirtual 68, 3) := by decide +kernel
theorem dd_X_again_5 : decode cb_X_again 5 = .ok (.ifCond .ne 5, 3) := by decide +kernel
theorem dd_X_again_8 : decode cb_X_again 8 = .ok (.iconst (-1), 1) := by decide +kernel
theorem dd_X_again_9 : decode cb_X_again 9 = .ok (.ireturn, 1) := by decide +kernel
theorem dd_X_again_10 : decode cb_X_again 10 = .ok (.aload_n 0, 1) := by decide +kernel
theorem dd_X_again_11 : decode cb_X_again 11 = .ok (.getfield 31, 3) := by decide +kernel
theorem dd_X_again_14 : decode cb_X_again 14 = .ok (.iload_n 1, 1) := by decide +kernel
theorem dd_X_again_15 : decode cb_X_again 15 = .ok (.aaload, 1) := by decide +kernel
theorem dd_X_again_16 : decode cb_X_again 16 = .ok (.astore_n 2, 1) := by decide +kernel
theorem dd_X_again_17 : decode cb_X_again 17 = .ok (.aload_n 2, 1) := by decide +kernel
theorem dd_X_again_18 : decode cb_X_again 18 = .ok (.getfield 72, 3) := by decide +kernel
theorem dd_X_again_21 : decode cb_X_again 21 = .ok (.ifCond .eq 6, 3) := by decide +kernel
theorem dd_X_again_24 : decode cb_X_again 24 = .ok (.bipush (-2), 2) := by decide +kernel
theorem dd_X_again_26 : decode cb_X_again 26 = .ok (.ireturn, 1) := by decide +kernel
theorem dd_X_again_27 : decode cb_X_again 27 = .ok (.aload_n 2, 1) := by decide +kernel
theorem dd_X_again_28 : decode cb_X_again 28 = .ok (.getfield 76, 3) := by decide +kernel
theorem dd_X_again_31 : decode cb_X_again 31 = .ok (.iconst 5, 1) := by decide +kernel
theorem dd_X_again_32 : decode cb_X_again 32 = .ok (.if_icmp .ne 14, 3) := by decide +kernel
theorem dd_X_again_35 : decode cb_X_again 35 = .ok (.aload_n 2, 1) := by decide +kernel
theorem dd_X_again_36 : decode cb_X_again 36 = .ok (.getfield 79, 3) := by decide +kernel
theorem dd_X_again_39 : decode cb_X_again 39 = .ok (.aload_n 0, 1) := by decide +kernel
theorem dd_X_again_40 : decode cb_X_again 40 = .ok (.getfield 17, 3) := by decide +kernel
theorem dd_X_again_43 : decode cb_X_again 43 = .ok (.if_icmp .ge 6, 3) := by decide +kernel
theorem dd_X_again_46 : decode cb_X_again 46 = .ok (.bipush (-3), 2) := by decide +kernel
theorem dd_X_again_48 : decode cb_X_again 48 = .ok (.ireturn, 1) := by decide +kernel
theorem dd_X_again_49 : decode cb_X_again 49 = .ok (.aload_n 0, 1) := by decide +kernel
theorem dd_X_again_50 : decode cb_X_again 50 = .ok (.iload_n 1, 1) := by decide +kernel
theorem dd_X_again_51 : decode cb_X_again 51 = .ok (.invokevirtual 82, 3) := by decide +kernel
theorem dd_X_again_54 : decode cb_X_again 54 = .ok (.ifCond .eq 6, 3) := by decide +kernel
theorem dd_X_again_57 : decode cb_X_again 57 = .ok (.bipush (-4), 2) := by decide +kernel
theorem dd_X_again_59 : decode cb_X_again 59 = .ok (.ireturn, 1) := by decide +kernel
theorem dd_X_again_60 : decode cb_X_again 60 = .ok (.aload_n 0, 1) := by decide +kernel
theorem dd_X_again_61 : decode cb_X_again 61 = .ok (.aload_n 2, 1) := by decide +kernel
theorem dd_X_again_62 : decode cb_X_again 62 = .ok (.iconst 4, 1) := by decide +kernel
theorem dd_X_again_63 : decode cb_X_again 63 = .ok (.invokevirtual 64, 3) := by decide +kernel
theorem dd_X_again_66 : decode cb_X_again 66 = .ok (.iconst 0, 1) := by decide +kernel
theorem dd_X_again_67 : decode cb_X_again 67 = .ok (.ireturn, 1) := by decide +kernel
theorem dd_X_deliver_0 : decode cb_X_deliver 0 = .ok (.aload_n 0, 1) := by decide +kernel
theorem dd_X_deliver_1 : decode cb_X_deliver 1 = .ok (.iload_n 1, 1) := by decide +kernel
theorem dd_X_deliver_2 : decode cb_X_deliver 2 = .ok (.invokevirtual 68, 3) := by decide +kernel
theorem dd_X_deliver_5 : decode cb_X_deliver 5 = .ok (.ifCond .eq 11, 3) := by decide +kernel
theorem dd_X_deliver_8 : decode cb_X_deliver 8 = .ok (.aload_n 0, 1) := by decide +kernel
theorem dd_X_deliver_9 : decode cb_X_deliver 9 = .ok (.iload_n 2, 1) := by decide +kernel
theorem dd_X_deliver_10 : decode cb_X_deliver 10 = .ok (.invokevirtual 85, 3) := by decide +kernel
theorem dd_X_deliver_13 : decode cb_X_deliver 13 = .ok (.ifCond .ne 5, 3) := by decide +kernel
theorem dd_X_deliver_16 : decode cb_X_deliver 16 = .ok (.iconst (-1), 1) := by decide +kernel
theorem dd_X_deliver_17 : decode cb_X_deliver 17 = .ok (.ireturn, 1) := by decide +kernel
theorem dd_X_deliver_18 : decode cb_X_deliver 18 = .ok (.aload_n 0, 1) := by decide +kernel
theorem dd_X_deliver_19 : decode cb_X_deliver 19 = .ok (.getfield 49, 3) := by decide +kernel
theorem dd_X_deliver_22 : decode cb_X_deliver 22 = .ok (.aload_n 0, 1) := by decide +kernel
theorem dd_X_deliver_23 : decode cb_X_deliver 23 = .ok (.iload_n 1, 1) := by decide +kernel
theorem dd_X_deliver_24 : decode cb_X_deliver 24 = .ok (.iload_n 2, 1) := by decide +kernel
theorem dd_X_deliver_25 : decode cb_X_deliver 25 = .ok (.invokevirtual 88, 3) := by decide +kernel
theorem dd_X_deliver_28 : decode cb_X_deliver 28 = .ok (.aaload, 1) := by decide +kernel
theorem dd_X_deliver_29 : decode cb_X_deliver 29 = .ok (.iload_n 3, 1) := by decide +kernel
theorem dd_X_deliver_30 : decode cb_X_deliver 30 = .ok (.invokevirtual 92, 3) := by decide +kernel
theorem dd_X_deliver_33 : decode cb_X_deliver 33 = .ok (.astore 4, 2) := by decide +kernel
theorem dd_X_deliver_35 : decode cb_X_deliver 35 = .ok (.aload 4, 2) := by decide +kernel
theorem dd_X_deliver_37 : decode cb_X_deliver 37 = .ok (.ifnonnull 6, 3) := by decide +kernel
theorem dd_X_deliver_40 : decode cb_X_deliver 40 = .ok (.bipush (-2), 2) := by decide +kernel
theorem dd_X_deliver_42 : decode cb_X_deliver 42 = .ok (.ireturn, 1) := by decide +kernel
theorem dd_X_deliver_43 : decode cb_X_deliver 43 = .ok (.aload_n 0, 1) := by decide +kernel
theorem dd_X_deliver_44 : decode cb_X_deliver 44 = .ok (.getfield 40, 3) := by decide +kernel
theorem dd_X_deliver_47 : decode cb_X_deliver 47 = .ok (.iload_n 2, 1) := by decide +kernel
theorem dd_X_deliver_48 : decode cb_X_deliver 48 = .ok (.aaload, 1) := by decide +kernel
theorem dd_X_deliver_49 : decode cb_X_deliver 49 = .ok (.aload 4, 2) := by decide +kernel
theorem dd_X_deliver_51 : decode cb_X_deliver 51 = .ok (.invokevirtual 98, 3) := by decide +kernel
theorem dd_X_deliver_54 : decode cb_X_deliver 54 = .ok (.aload_n 0, 1) := by decide +kernel
theorem dd_X_deliver_55 : decode cb_X_deliver 55 = .ok (.getfield 53, 3) := by decide +kernel
theorem dd_X_deliver_58 : decode cb_X_deliver 58 = .ok (.aload_n 0, 1) := by decide +kernel
theorem dd_X_deliver_59 : decode cb_X_deliver 59 = .ok (.iload_n 1, 1) := by decide +kernel
theorem dd_X_deliver_60 : decode cb_X_deliver 60 = .ok (.iload_n 2, 1) := by decide +kernel
theorem dd_X_deliver_61 : decode cb_X_deliver 61 = .ok (.invokevirtual 88, 3) := by decide +kernel
theorem dd_X_deliver_64 : decode cb_X_deliver 64 = .ok (.aaload, 1) := by decide +kernel
theorem dd_X_deliver_65 : decode cb_X_deliver 65 = .ok (.aload 4, 2) := by decide +kernel
theorem dd_X_deliver_67 : decode cb_X_deliver 67 = .ok (.invokevirtual 102, 3) := by decide +kernel
theorem dd_X_deliver_70 : decode cb_X_deliver 70 = .ok (.aload 4, 2) := by decide +kernel
theorem dd_X_deliver_72 : decode cb_X_deliver 72 = .ok (.getfield 105, 3) := by decide +kernel
theorem dd_X_deliver_75 : decode cb_X_deliver 75 = .ok (.ireturn, 1) := by decide +kernel
theorem dd_X_hear_0 : decode cb_X_hear 0 = .ok (.aload_n 0, 1) := by decide +kernel
theorem dd_X_hear_1 : decode cb_X_hear 1 = .ok (.iload_n 1, 1) := by decide +kernel
theorem dd_X_hear_2 : decode cb_X_hear 2 = .ok (.invokevirtual 68, 3) := by decide +kernel
theorem dd_X_hear_5 : decode cb_X_hear 5 = .ok (.ifCond .eq 11, 3) := by decide +kernel
theorem dd_X_hear_8 : decode cb_X_hear 8 = .ok (.aload_n 0, 1) := by decide +kernel
theorem dd_X_hear_9 : decode cb_X_hear 9 = .ok (.iload_n 2, 1) := by decide +kernel
theorem dd_X_hear_10 : decode cb_X_hear 10 = .ok (.invokevirtual 85, 3) := by decide +kernel
theorem dd_X_hear_13 : decode cb_X_hear 13 = .ok (.ifCond .ne 5, 3) := by decide +kernel
theorem dd_X_hear_16 : decode cb_X_hear 16 = .ok (.iconst (-1), 1) := by decide +kernel
theorem dd_X_hear_17 : decode cb_X_hear 17 = .ok (.ireturn, 1) := by decide +kernel
theorem dd_X_hear_18 : decode cb_X_hear 18 = .ok (.aload_n 0, 1) := by decide +kernel
theorem dd_X_hear_19 : decode cb_X_hear 19 = .ok (.getfield 53, 3) := by decide +kernel
theorem dd_X_hear_22 : decode cb_X_hear 22 = .ok (.aload_n 0, 1) := by decide +kernel
theorem dd_X_hear_23 : decode cb_X_hear 23 = .ok (.iload_n 1, 1) := by decide +kernel
theorem dd_X_hear_24 : decode cb_X_hear 24 = .ok (.iload_n 2, 1) := by decide +kernel
theorem dd_X_hear_25 : decode cb_X_hear 25 = .ok (.invokevirtual 88, 3) := by decide +kernel
theorem dd_X_hear_28 : decode cb_X_hear 28 = .ok (.aaload, 1) := by decide +kernel
theorem dd_X_hear_29 : decode cb_X_hear 29 = .ok (.iload_n 3, 1) := by decide +kernel
theorem dd_X_hear_30 : decode cb_X_hear 30 = .ok (.invokevirtual 92, 3) := by decide +kernel
theorem dd_X_hear_33 : decode cb_X_hear 33 = .ok (.astore 4, 2) := by decide +kernel
theorem dd_X_hear_35 : decode cb_X_hear 35 = .ok (.aload 4, 2) := by decide +kernel
theorem dd_X_hear_37 : decode cb_X_hear 37 = .ok (.ifnonnull 6, 3) := by decide +kernel
theorem dd_X_hear_40 : decode cb_X_hear 40 = .ok (.bipush (-2), 2) := by decide +kernel
theorem dd_X_hear_42 : decode cb_X_hear 42 = .ok (.ireturn, 1) := by decide +kernel
theorem dd_X_hear_43 : decode cb_X_hear 43 = .ok (.aload_n 0, 1) := by decide +kernel
theorem dd_X_hear_44 : decode cb_X_hear 44 = .ok (.getfield 31, 3) := by decide +kernel
theorem dd_X_hear_47 : decode cb_X_hear 47 = .ok (.iload_n 1, 1) := by decide +kernel
theorem dd_X_hear_48 : decode cb_X_hear 48 = .ok (.aaload, 1) := by decide +kernel
theorem dd_X_hear_49 : decode cb_X_hear 49 = .ok (.astore 5, 2) := by decide +kernel
theorem dd_X_hear_51 : decode cb_X_hear 51 = .ok (.aload 5, 2) := by decide +kernel
theorem dd_X_hear_53 : decode cb_X_hear 53 = .ok (.aload 4, 2) := by decide +kernel
theorem dd_X_hear_55 : decode cb_X_hear 55 = .ok (.invokevirtual 108, 3) := by decide +kernel
theorem dd_X_hear_58 : decode cb_X_hear 58 = .ok (.ifCond .ne 5, 3) := by decide +kernel
theorem dd_X_hear_61 : decode cb_X_hear 61 = .ok (.iconst 0, 1) := by decide +kernel
theorem dd_X_hear_62 : decode cb_X_hear 62 = .ok (.ireturn, 1) := by decide +kernel
theorem dd_X_hear_63 : decode cb_X_hear 63 = .ok (.aload 5, 2) := by decide +kernel
theorem dd_X_hear_65 : decode cb_X_hear 65 = .ok (.aload 4, 2) := by decide +kernel
theorem dd_X_hear_67 : decode cb_X_hear 67 = .ok (.iload_n 2, 1) := by decide +kernel
theorem dd_X_hear_68 : decode cb_X_hear 68 = .ok (.invokevirtual 112, 3) := by decide +kernel
theorem dd_X_hear_71 : decode cb_X_hear 71 = .ok (.aload_n 0, 1) := by decide +kernel
theorem dd_X_hear_72 : decode cb_X_hear 72 = .ok (.aload 5, 2) := by decide +kernel
theorem dd_X_hear_74 : decode cb_X_hear 74 = .ok (.invokevirtual 115, 3) := by decide +kernel
theorem dd_X_hear_77 : decode cb_X_hear 77 = .ok (.ifCond .eq 12, 3) := by decide +kernel
theorem dd_X_hear_80 : decode cb_X_hear 80 = .ok (.aload_n 0, 1) := by decide +kernel
theorem dd_X_hear_81 : decode cb_X_hear 81 = .ok (.aload 5, 2) := by decide +kernel
theorem dd_X_hear_83 : decode cb_X_hear 83 = .ok (.invokevirtual 119, 3) := by decide +kernel
theorem dd_X_hear_86 : decode cb_X_hear 86 = .ok (.goto 4, 3) := by decide +kernel
theorem dd_X_hear_89 : decode cb_X_hear 89 = .ok (.iconst 1, 1) := by decide +kernel
theorem dd_X_hear_90 : decode cb_X_hear 90 = .ok (.ireturn, 1) := by decide +kernel
theorem dd_X_crash_0 : decode cb_X_crash 0 = .ok (.aload_n 0, 1) := by decide +kernel
theorem dd_X_crash_1 : decode cb_X_crash 1 = .ok (.iload_n 1, 1) := by decide +kernel
theorem dd_X_crash_2 : decode cb_X_crash 2 = .ok (.invokevirtual 85, 3) := by decide +kernel
theorem dd_X_crash_5 : decode cb_X_crash 5 = .ok (.ifCond .eq 26, 3) := by decide +kernel
theorem dd_X_crash_8 : decode cb_X_crash 8 = .ok (.aload_n 0, 1) := by decide +kernel
theorem dd_X_crash_9 : decode cb_X_crash 9 = .ok (.getfield 40, 3) := by decide +kernel
theorem dd_X_crash_12 : decode cb_X_crash 12 = .ok (.iload_n 1, 1) := by decide +kernel
theorem dd_X_crash_13 : decode cb_X_crash 13 = .ok (.aaload, 1) := by decide +kernel
theorem dd_X_crash_14 : decode cb_X_crash 14 = .ok (.getfield 123, 3) := by decide +kernel
theorem dd_X_crash_17 : decode cb_X_crash 17 = .ok (.ifCond .ne 14, 3) := by decide +kernel
theorem dd_X_crash_20 : decode cb_X_crash 20 = .ok (.aload_n 0, 1) := by decide +kernel
theorem dd_X_crash_21 : decode cb_X_crash 21 = .ok (.getfield 124, 3) := by decide +kernel
theorem dd_X_crash_24 : decode cb_X_crash 24 = .ok (.aload_n 0, 1) := by decide +kernel
theorem dd_X_crash_25 : decode cb_X_crash 25 = .ok (.getfield 13, 3) := by decide +kernel
theorem dd_X_crash_28 : decode cb_X_crash 28 = .ok (.if_icmp .lt 5, 3) := by decide +kernel
theorem dd_X_crash_31 : decode cb_X_crash 31 = .ok (.iconst 0, 1) := by decide +kernel
theorem dd_X_crash_32 : decode cb_X_crash 32 = .ok (.ireturn, 1) := by decide +kernel
theorem dd_X_crash_33 : decode cb_X_crash 33 = .ok (.aload_n 0, 1) := by decide +kernel
theorem dd_X_crash_34 : decode cb_X_crash 34 = .ok (.getfield 40, 3) := by decide +kernel
theorem dd_X_crash_37 : decode cb_X_crash 37 = .ok (.iload_n 1, 1) := by decide +kernel
theorem dd_X_crash_38 : decode cb_X_crash 38 = .ok (.aaload, 1) := by decide +kernel
theorem dd_X_crash_39 : decode cb_X_crash 39 = .ok (.iconst 1, 1) := by decide +kernel
theorem dd_X_crash_40 : decode cb_X_crash 40 = .ok (.putfield 123, 3) := by decide +kernel
theorem dd_X_crash_43 : decode cb_X_crash 43 = .ok (.aload_n 0, 1) := by decide +kernel
theorem dd_X_crash_44 : decode cb_X_crash 44 = .ok (.dup, 1) := by decide +kernel
theorem dd_X_crash_45 : decode cb_X_crash 45 = .ok (.getfield 124, 3) := by decide +kernel
theorem dd_X_crash_48 : decode cb_X_crash 48 = .ok (.iconst 1, 1) := by decide +kernel
theorem dd_X_crash_49 : decode cb_X_crash 49 = .ok (.iadd, 1) := by decide +kernel
theorem dd_X_crash_50 : decode cb_X_crash 50 = .ok (.putfield 124, 3) := by decide +kernel
theorem dd_X_crash_53 : decode cb_X_crash 53 = .ok (.iconst 0, 1) := by decide +kernel
theorem dd_X_crash_54 : decode cb_X_crash 54 = .ok (.istore_n 2, 1) := by decide +kernel
theorem dd_X_crash_55 : decode cb_X_crash 55 = .ok (.iload_n 2, 1) := by decide +kernel
theorem dd_X_crash_56 : decode cb_X_crash 56 = .ok (.iconst 5, 1) := by decide +kernel
theorem dd_X_crash_57 : decode cb_X_crash 57 = .ok (.if_icmp .ge 23, 3) := by decide +kernel
theorem dd_X_crash_60 : decode cb_X_crash 60 = .ok (.aload_n 0, 1) := by decide +kernel
theorem dd_X_crash_61 : decode cb_X_crash 61 = .ok (.getfield 49, 3) := by decide +kernel
theorem dd_X_crash_64 : decode cb_X_crash 64 = .ok (.aload_n 0, 1) := by decide +kernel
theorem dd_X_crash_65 : decode cb_X_crash 65 = .ok (.iload_n 2, 1) := by decide +kernel
theorem dd_X_crash_66 : decode cb_X_crash 66 = .ok (.iload_n 1, 1) := by decide +kernel
theorem dd_X_crash_67 : decode cb_X_crash 67 = .ok (.invokevirtual 88, 3) := by decide +kernel
theorem dd_X_crash_70 : decode cb_X_crash 70 = .ok (.aaload, 1) := by decide +kernel
theorem dd_X_crash_71 : decode cb_X_crash 71 = .ok (.invokevirtual 127, 3) := by decide +kernel
theorem dd_X_crash_74 : decode cb_X_crash 74 = .ok (.iinc 2 1, 3) := by decide +kernel
theorem dd_X_crash_77 : decode cb_X_crash 77 = .ok (.goto (-22), 3) := by decide +kernel
theorem dd_X_crash_80 : decode cb_X_crash 80 = .ok (.iconst 1, 1) := by decide +kernel
theorem dd_X_crash_81 : decode cb_X_crash 81 = .ok (.ireturn, 1) := by decide +kernel
theorem dd_X_stop_0 : decode cb_X_stop 0 = .ok (.aload_n 0, 1) := by decide +kernel
theorem dd_X_stop_1 : decode cb_X_stop 1 = .ok (.iload_n 1, 1) := by decide +kernel
theorem dd_X_stop_2 : decode cb_X_stop 2 = .ok (.invokevirtual 68, 3) := by decide +kernel
theorem dd_X_stop_5 : decode cb_X_stop 5 = .ok (.ifCond .eq 15, 3) := by decide +kernel
theorem dd_X_stop_8 : decode cb_X_stop 8 = .ok (.aload_n 0, 1) := by decide +kernel
theorem dd_X_stop_9 : decode cb_X_stop 9 = .ok (.getfield 31, 3) := by decide +kernel
theorem dd_X_stop_12 : decode cb_X_stop 12 = .ok (.iload_n 1, 1) := by decide +kernel
theorem dd_X_stop_13 : decode cb_X_stop 13 = .ok (.aaload, 1) := by decide +kernel
theorem dd_X_stop_14 : decode cb_X_stop 14 = .ok (.getfield 72, 3) := by decide +kernel
theorem dd_X_stop_17 : decode cb_X_stop 17 = .ok (.ifCond .eq 5, 3) := by decide +kernel
theorem dd_X_stop_20 : decode cb_X_stop 20 = .ok (.iconst 0, 1) := by decide +kernel
theorem dd_X_stop_21 : decode cb_X_stop 21 = .ok (.ireturn, 1) := by decide +kernel
theorem dd_X_stop_22 : decode cb_X_stop 22 = .ok (.aload_n 0, 1) := by decide +kernel
theorem dd_X_stop_23 : decode cb_X_stop 23 = .ok (.getfield 31, 3) := by decide +kernel
theorem dd_X_stop_26 : decode cb_X_stop 26 = .ok (.iload_n 1, 1) := by decide +kernel
theorem dd_X_stop_27 : decode cb_X_stop 27 = .ok (.aaload, 1) := by decide +kernel
theorem dd_X_stop_28 : decode cb_X_stop 28 = .ok (.iconst 1, 1) := by decide +kernel
theorem dd_X_stop_29 : decode cb_X_stop 29 = .ok (.putfield 72, 3) := by decide +kernel
theorem dd_X_stop_32 : decode cb_X_stop 32 = .ok (.iconst 1, 1) := by decide +kernel
theorem dd_X_stop_33 : decode cb_X_stop 33 = .ok (.ireturn, 1) := by decide +kernel
theorem dd_X_phase_0 : decode cb_X_phase 0 = .ok (.aload_n 0, 1) := by decide +kernel
theorem dd_X_phase_1 : decode cb_X_phase 1 = .ok (.iload_n 1, 1) := by decide +kernel
theorem dd_X_phase_2 : decode cb_X_phase 2 = .ok (.invokevirtual 68, 3) := by decide +kernel
theorem dd_X_phase_5 : decode cb_X_phase 5 = .ok (.ifCond .ne 5, 3) := by decide +kernel
theorem dd_X_phase_8 : decode cb_X_phase 8 = .ok (.iconst (-1), 1) := by decide +kernel
theorem dd_X_phase_9 : decode cb_X_phase 9 = .ok (.ireturn, 1) := by decide +kernel
theorem dd_X_phase_10 : decode cb_X_phase 10 = .ok (.aload_n 0, 1) := by decide +kernel
theorem dd_X_phase_11 : decode cb_X_phase 11 = .ok (.getfield 31, 3) := by decide +kernel
theorem dd_X_phase_14 : decode cb_X_phase 14 = .ok (.iload_n 1, 1) := by decide +kernel
theorem dd_X_phase_15 : decode cb_X_phase 15 = .ok (.aaload, 1) := by decide +kernel
theorem dd_X_phase_16 : decode cb_X_phase 16 = .ok (.getfield 72, 3) := by decide +kernel
theorem dd_X_phase_19 : decode cb_X_phase 19 = .ok (.ifCond .eq 8, 3) := by decide +kernel
theorem dd_X_phase_22 : decode cb_X_phase 22 = .ok (.bipush 6, 2) := by decide +kernel
theorem dd_X_phase_24 : decode cb_X_phase 24 = .ok (.goto 12, 3) := by decide +kernel
theorem dd_X_phase_27 : decode cb_X_phase 27 = .ok (.aload_n 0, 1) := by decide +kernel
theorem dd_X_phase_28 : decode cb_X_phase 28 = .ok (.getfield 31, 3) := by decide +kernel
theorem dd_X_phase_31 : decode cb_X_phase 31 = .ok (.iload_n 1, 1) := by decide +kernel
theorem dd_X_phase_32 : decode cb_X_phase 32 = .ok (.aaload, 1) := by decide +kernel
theorem dd_X_phase_33 : decode cb_X_phase 33 = .ok (.getfield 76, 3) := by decide +kernel
theorem dd_X_phase_36 : decode cb_X_phase 36 = .ok (.ireturn, 1) := by decide +kernel
theorem dd_X_heard_0 : decode cb_X_heard 0 = .ok (.aload_n 0, 1) := by decide +kernel
theorem dd_X_heard_1 : decode cb_X_heard 1 = .ok (.iload_n 1, 1) := by decide +kernel
theorem dd_X_heard_2 : decode cb_X_heard 2 = .ok (.invokevirtual 68, 3) := by decide +kernel
theorem dd_X_heard_5 : decode cb_X_heard 5 = .ok (.ifCond .ne 5, 3) := by decide +kernel
theorem dd_X_heard_8 : decode cb_X_heard 8 = .ok (.iconst (-1), 1) := by decide +kernel
theorem dd_X_heard_9 : decode cb_X_heard 9 = .ok (.ireturn, 1) := by decide +kernel
theorem dd_X_heard_10 : decode cb_X_heard 10 = .ok (.aload_n 0, 1) := by decide +kernel
theorem dd_X_heard_11 : decode cb_X_heard 11 = .ok (.getfield 31, 3) := by decide +kernel
theorem dd_X_heard_14 : decode cb_X_heard 14 = .ok (.iload_n 1, 1) := by decide +kernel
theorem dd_X_heard_15 : decode cb_X_heard 15 = .ok (.aaload, 1) := by decide +kernel
theorem dd_X_heard_16 : decode cb_X_heard 16 = .ok (.invokevirtual 130, 3) := by decide +kernel
theorem dd_X_heard_19 : decode cb_X_heard 19 = .ok (.ifCond .eq 15, 3) := by decide +kernel
theorem dd_X_heard_22 : decode cb_X_heard 22 = .ok (.aload_n 0, 1) := by decide +kernel
theorem dd_X_heard_23 : decode cb_X_heard 23 = .ok (.getfield 31, 3) := by decide +kernel
theorem dd_X_heard_26 : decode cb_X_heard 26 = .ok (.iload_n 1, 1) := by decide +kernel
theorem dd_X_heard_27 : decode cb_X_heard 27 = .ok (.aaload, 1) := by decide +kernel
theorem dd_X_heard_28 : decode cb_X_heard 28 = .ok (.getfield 79, 3) := by decide +kernel
theorem dd_X_heard_31 : decode cb_X_heard 31 = .ok (.goto 4, 3) := by decide +kernel
theorem dd_X_heard_34 : decode cb_X_heard 34 = .ok (.iconst 0, 1) := by decide +kernel
theorem dd_X_heard_35 : decode cb_X_heard 35 = .ok (.ireturn, 1) := by decide +kernel
theorem dd_X_tag_0 : decode cb_X_tag 0 = .ok (.aload_n 0, 1) := by decide +kernel
theorem dd_X_tag_1 : decode cb_X_tag 1 = .ok (.iload_n 1, 1) := by decide +kernel
theorem dd_X_tag_2 : decode cb_X_tag 2 = .ok (.invokevirtual 68, 3) := by decide +kernel
theorem dd_X_tag_5 : decode cb_X_tag 5 = .ok (.ifCond .eq 15, 3) := by decide +kernel
theorem dd_X_tag_8 : decode cb_X_tag 8 = .ok (.aload_n 0, 1) := by decide +kernel
theorem dd_X_tag_9 : decode cb_X_tag 9 = .ok (.getfield 31, 3) := by decide +kernel
theorem dd_X_tag_12 : decode cb_X_tag 12 = .ok (.iload_n 1, 1) := by decide +kernel
theorem dd_X_tag_13 : decode cb_X_tag 13 = .ok (.aaload, 1) := by decide +kernel
theorem dd_X_tag_14 : decode cb_X_tag 14 = .ok (.getfield 134, 3) := by decide +kernel
theorem dd_X_tag_17 : decode cb_X_tag 17 = .ok (.goto 4, 3) := by decide +kernel
theorem dd_X_tag_20 : decode cb_X_tag 20 = .ok (.iconst (-1), 1) := by decide +kernel
theorem dd_X_tag_21 : decode cb_X_tag 21 = .ok (.ireturn, 1) := by decide +kernel
theorem dd_X_result_0 : decode cb_X_result 0 = .ok (.aload_n 0, 1) := by decide +kernel
theorem dd_X_result_1 : decode cb_X_result 1 = .ok (.iload_n 1, 1) := by decide +kernel
theorem dd_X_result_2 : decode cb_X_result 2 = .ok (.invokevirtual 68, 3) := by decide +kernel
theorem dd_X_result_5 : decode cb_X_result 5 = .ok (.ifCond .eq 15, 3) := by decide +kernel
theorem dd_X_result_8 : decode cb_X_result 8 = .ok (.aload_n 0, 1) := by decide +kernel
theorem dd_X_result_9 : decode cb_X_result 9 = .ok (.getfield 31, 3) := by decide +kernel
theorem dd_X_result_12 : decode cb_X_result 12 = .ok (.iload_n 1, 1) := by decide +kernel
theorem dd_X_result_13 : decode cb_X_result 13 = .ok (.aaload, 1) := by decide +kernel
theorem dd_X_result_14 : decode cb_X_result 14 = .ok (.getfield 137, 3) := by decide +kernel
theorem dd_X_result_17 : decode cb_X_result 17 = .ok (.goto 4, 3) := by decide +kernel
theorem dd_X_result_20 : decode cb_X_result 20 = .ok (.lconst 0, 1) := by decide +kernel
theorem dd_X_result_21 : decode cb_X_result 21 = .ok (.lreturn, 1) := by decide +kernel
theorem dd_X_finished_0 : decode cb_X_finished 0 = .ok (.aload_n 0, 1) := by decide +kernel
theorem dd_X_finished_1 : decode cb_X_finished 1 = .ok (.iload_n 1, 1) := by decide +kernel
theorem dd_X_finished_2 : decode cb_X_finished 2 = .ok (.invokevirtual 68, 3) := by decide +kernel
theorem dd_X_finished_5 : decode cb_X_finished 5 = .ok (.ifCond .eq 15, 3) := by decide +kernel
theorem dd_X_finished_8 : decode cb_X_finished 8 = .ok (.aload_n 0, 1) := by decide +kernel
theorem dd_X_finished_9 : decode cb_X_finished 9 = .ok (.getfield 31, 3) := by decide +kernel
theorem dd_X_finished_12 : decode cb_X_finished 12 = .ok (.iload_n 1, 1) := by decide +kernel
theorem dd_X_finished_13 : decode cb_X_finished 13 = .ok (.aaload, 1) := by decide +kernel
theorem dd_X_finished_14 : decode cb_X_finished 14 = .ok (.getfield 140, 3) := by decide +kernel
theorem dd_X_finished_17 : decode cb_X_finished 17 = .ok (.goto 4, 3) := by decide +kernel
