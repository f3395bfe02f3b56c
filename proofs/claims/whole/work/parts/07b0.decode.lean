theorem dd_K_init_0 : decode cb_K_init 0 = .ok (.aload_n 0, 1) := by decide +kernel
theorem dd_K_init_1 : decode cb_K_init 1 = .ok (.invokespecial 3, 3) := by decide +kernel
theorem dd_K_init_4 : decode cb_K_init 4 = .ok (.aload_n 0, 1) := by decide +kernel
theorem dd_K_init_5 : decode cb_K_init 5 = .ok (.iload_n 1, 1) := by decide +kernel
theorem dd_K_init_6 : decode cb_K_init 6 = .ok (.putfield 9, 3) := by decide +kernel
theorem dd_K_init_9 : decode cb_K_init 9 = .ok (.aload_n 0, 1) := by decide +kernel
theorem dd_K_init_10 : decode cb_K_init 10 = .ok (.bipush 8, 2) := by decide +kernel
theorem dd_K_init_12 : decode cb_K_init 12 = .ok (.iload_n 1, 1) := by decide +kernel
theorem dd_K_init_13 : decode cb_K_init 13 = .ok (.iadd, 1) := by decide +kernel
theorem dd_K_init_14 : decode cb_K_init 14 = .ok (.iconst 1, 1) := by decide +kernel
theorem dd_K_init_15 : decode cb_K_init 15 = .ok (.isub, 1) := by decide +kernel
theorem dd_K_init_16 : decode cb_K_init 16 = .ok (.iload_n 1, 1) := by decide +kernel
theorem dd_K_init_17 : decode cb_K_init 17 = .ok (.idiv, 1) := by decide +kernel
theorem dd_K_init_18 : decode cb_K_init 18 = .ok (.putfield 15, 3) := by decide +kernel
theorem dd_K_init_21 : decode cb_K_init 21 = .ok (.aload_n 0, 1) := by decide +kernel
theorem dd_K_init_22 : decode cb_K_init 22 = .ok (.iload_n 1, 1) := by decide +kernel
theorem dd_K_init_23 : decode cb_K_init 23 = .ok (.newarray .int, 2) := by decide +kernel
theorem dd_K_init_25 : decode cb_K_init 25 = .ok (.putfield 18, 3) := by decide +kernel
theorem dd_K_init_28 : decode cb_K_init 28 = .ok (.return_, 1) := by decide +kernel
theorem dd_K_encode_0 : decode cb_K_encode 0 = .ok (.lconst 0, 1) := by decide +kernel
theorem dd_K_encode_1 : decode cb_K_encode 1 = .ok (.lstore 4, 2) := by decide +kernel
theorem dd_K_encode_3 : decode cb_K_encode 3 = .ok (.iconst 0, 1) := by decide +kernel
theorem dd_K_encode_4 : decode cb_K_encode 4 = .ok (.istore 6, 2) := by decide +kernel
theorem dd_K_encode_6 : decode cb_K_encode 6 = .ok (.iload 6, 2) := by decide +kernel
theorem dd_K_encode_8 : decode cb_K_encode 8 = .ok (.aload_n 0, 1) := by decide +kernel
theorem dd_K_encode_9 : decode cb_K_encode 9 = .ok (.getfield 15, 3) := by decide +kernel
theorem dd_K_encode_12 : decode cb_K_encode 12 = .ok (.if_icmp .ge 69, 3) := by decide +kernel
theorem dd_K_encode_15 : decode cb_K_encode 15 = .ok (.iconst 0, 1) := by decide +kernel
theorem dd_K_encode_16 : decode cb_K_encode 16 = .ok (.istore 7, 2) := by decide +kernel
theorem dd_K_encode_18 : decode cb_K_encode 18 = .ok (.aload_n 0, 1) := by decide +kernel
theorem dd_K_encode_19 : decode cb_K_encode 19 = .ok (.getfield 9, 3) := by decide +kernel
theorem dd_K_encode_22 : decode cb_K_encode 22 = .ok (.iconst 1, 1) := by decide +kernel
theorem dd_K_encode_23 : decode cb_K_encode 23 = .ok (.isub, 1) := by decide +kernel
theorem dd_K_encode_24 : decode cb_K_encode 24 = .ok (.istore 8, 2) := by decide +kernel
theorem dd_K_encode_26 : decode cb_K_encode 26 = .ok (.iload 8, 2) := by decide +kernel
theorem dd_K_encode_28 : decode cb_K_encode 28 = .ok (.ifCond .lt 35, 3) := by decide +kernel
theorem dd_K_encode_31 : decode cb_K_encode 31 = .ok (.iload 7, 2) := by decide +kernel
theorem dd_K_encode_33 : decode cb_K_encode 33 = .ok (.iload_n 3, 1) := by decide +kernel
theorem dd_K_encode_34 : decode cb_K_encode 34 = .ok (.invokestatic 22, 3) := by decide +kernel
theorem dd_K_encode_37 : decode cb_K_encode 37 = .ok (.invokestatic 26, 3) := by decide +kernel
theorem dd_K_encode_40 : decode cb_K_encode 40 = .ok (.lload_n 1, 1) := by decide +kernel
theorem dd_K_encode_41 : decode cb_K_encode 41 = .ok (.iload 6, 2) := by decide +kernel
theorem dd_K_encode_43 : decode cb_K_encode 43 = .ok (.aload_n 0, 1) := by decide +kernel
theorem dd_K_encode_44 : decode cb_K_encode 44 = .ok (.getfield 9, 3) := by decide +kernel
theorem dd_K_encode_47 : decode cb_K_encode 47 = .ok (.imul, 1) := by decide +kernel
theorem dd_K_encode_48 : decode cb_K_encode 48 = .ok (.iload 8, 2) := by decide +kernel
theorem dd_K_encode_50 : decode cb_K_encode 50 = .ok (.iadd, 1) := by decide +kernel
theorem dd_K_encode_51 : decode cb_K_encode 51 = .ok (.invokestatic 30, 3) := by decide +kernel
theorem dd_K_encode_54 : decode cb_K_encode 54 = .ok (.ixor, 1) := by decide +kernel
theorem dd_K_encode_55 : decode cb_K_encode 55 = .ok (.istore 7, 2) := by decide +kernel
theorem dd_K_encode_57 : decode cb_K_encode 57 = .ok (.iinc 8 (-1), 3) := by decide +kernel
theorem dd_K_encode_60 : decode cb_K_encode 60 = .ok (.goto (-34), 3) := by decide +kernel
theorem dd_K_encode_63 : decode cb_K_encode 63 = .ok (.lload 4, 2) := by decide +kernel
theorem dd_K_encode_65 : decode cb_K_encode 65 = .ok (.iload 7, 2) := by decide +kernel
theorem dd_K_encode_67 : decode cb_K_encode 67 = .ok (.iload 6, 2) := by decide +kernel
theorem dd_K_encode_69 : decode cb_K_encode 69 = .ok (.invokestatic 34, 3) := by decide +kernel
theorem dd_K_encode_72 : decode cb_K_encode 72 = .ok (.lor, 1) := by decide +kernel
theorem dd_K_encode_73 : decode cb_K_encode 73 = .ok (.lstore 4, 2) := by decide +kernel
theorem dd_K_encode_75 : decode cb_K_encode 75 = .ok (.iinc 6 1, 3) := by decide +kernel
theorem dd_K_encode_78 : decode cb_K_encode 78 = .ok (.goto (-72), 3) := by decide +kernel
theorem dd_K_encode_81 : decode cb_K_encode 81 = .ok (.lload 4, 2) := by decide +kernel
theorem dd_K_encode_83 : decode cb_K_encode 83 = .ok (.lreturn, 1) := by decide +kernel
theorem dd_K_decode_0 : decode cb_K_decode 0 = .ok (.lconst 0, 1) := by decide +kernel
theorem dd_K_decode_1 : decode cb_K_decode 1 = .ok (.lstore_n 3, 1) := by decide +kernel
theorem dd_K_decode_2 : decode cb_K_decode 2 = .ok (.iconst 0, 1) := by decide +kernel
theorem dd_K_decode_3 : decode cb_K_decode 3 = .ok (.istore 5, 2) := by decide +kernel
theorem dd_K_decode_5 : decode cb_K_decode 5 = .ok (.iload 5, 2) := by decide +kernel
theorem dd_K_decode_7 : decode cb_K_decode 7 = .ok (.aload_n 0, 1) := by decide +kernel
theorem dd_K_decode_8 : decode cb_K_decode 8 = .ok (.getfield 15, 3) := by decide +kernel
theorem dd_K_decode_11 : decode cb_K_decode 11 = .ok (.if_icmp .ge 89, 3) := by decide +kernel
theorem dd_K_decode_14 : decode cb_K_decode 14 = .ok (.iconst 0, 1) := by decide +kernel
theorem dd_K_decode_15 : decode cb_K_decode 15 = .ok (.istore 6, 2) := by decide +kernel
theorem dd_K_decode_17 : decode cb_K_decode 17 = .ok (.iload 6, 2) := by decide +kernel
theorem dd_K_decode_19 : decode cb_K_decode 19 = .ok (.aload_n 0, 1) := by decide +kernel
theorem dd_K_decode_20 : decode cb_K_decode 20 = .ok (.getfield 9, 3) := by decide +kernel
theorem dd_K_decode_23 : decode cb_K_decode 23 = .ok (.if_icmp .ge 25, 3) := by decide +kernel
theorem dd_K_decode_26 : decode cb_K_decode 26 = .ok (.aload_n 0, 1) := by decide +kernel
theorem dd_K_decode_27 : decode cb_K_decode 27 = .ok (.getfield 18, 3) := by decide +kernel
theorem dd_K_decode_30 : decode cb_K_decode 30 = .ok (.iload 6, 2) := by decide +kernel
theorem dd_K_decode_32 : decode cb_K_decode 32 = .ok (.aload_n 2, 1) := by decide +kernel
theorem dd_K_decode_33 : decode cb_K_decode 33 = .ok (.iload 6, 2) := by decide +kernel
theorem dd_K_decode_35 : decode cb_K_decode 35 = .ok (.laload, 1) := by decide +kernel
theorem dd_K_decode_36 : decode cb_K_decode 36 = .ok (.iload 5, 2) := by decide +kernel
theorem dd_K_decode_38 : decode cb_K_decode 38 = .ok (.invokestatic 30, 3) := by decide +kernel
theorem dd_K_decode_41 : decode cb_K_decode 41 = .ok (.iastore, 1) := by decide +kernel
theorem dd_K_decode_42 : decode cb_K_decode 42 = .ok (.iinc 6 1, 3) := by decide +kernel
theorem dd_K_decode_45 : decode cb_K_decode 45 = .ok (.goto (-28), 3) := by decide +kernel
theorem dd_K_decode_48 : decode cb_K_decode 48 = .ok (.aload_n 0, 1) := by decide +kernel
theorem dd_K_decode_49 : decode cb_K_decode 49 = .ok (.aload_n 1, 1) := by decide +kernel
theorem dd_K_decode_50 : decode cb_K_decode 50 = .ok (.invokevirtual 38, 3) := by decide +kernel
theorem dd_K_decode_53 : decode cb_K_decode 53 = .ok (.iconst 0, 1) := by decide +kernel
theorem dd_K_decode_54 : decode cb_K_decode 54 = .ok (.istore 6, 2) := by decide +kernel
theorem dd_K_decode_56 : decode cb_K_decode 56 = .ok (.iload 6, 2) := by decide +kernel
theorem dd_K_decode_58 : decode cb_K_decode 58 = .ok (.aload_n 0, 1) := by decide +kernel
theorem dd_K_decode_59 : decode cb_K_decode 59 = .ok (.getfield 9, 3) := by decide +kernel
theorem dd_K_decode_62 : decode cb_K_decode 62 = .ok (.if_icmp .ge 32, 3) := by decide +kernel
theorem dd_K_decode_65 : decode cb_K_decode 65 = .ok (.lload_n 3, 1) := by decide +kernel
theorem dd_K_decode_66 : decode cb_K_decode 66 = .ok (.aload_n 0, 1) := by decide +kernel
theorem dd_K_decode_67 : decode cb_K_decode 67 = .ok (.getfield 18, 3) := by decide +kernel
theorem dd_K_decode_70 : decode cb_K_decode 70 = .ok (.iload 6, 2) := by decide +kernel
theorem dd_K_decode_72 : decode cb_K_decode 72 = .ok (.iaload, 1) := by decide +kernel
theorem dd_K_decode_73 : decode cb_K_decode 73 = .ok (.iload 5, 2) := by decide +kernel
theorem dd_K_decode_75 : decode cb_K_decode 75 = .ok (.aload_n 0, 1) := by decide +kernel
theorem dd_K_decode_76 : decode cb_K_decode 76 = .ok (.getfield 9, 3) := by decide +kernel
theorem dd_K_decode_79 : decode cb_K_decode 79 = .ok (.imul, 1) := by decide +kernel
theorem dd_K_decode_80 : decode cb_K_decode 80 = .ok (.iload 6, 2) := by decide +kernel
theorem dd_K_decode_82 : decode cb_K_decode 82 = .ok (.iadd, 1) := by decide +kernel
theorem dd_K_decode_83 : decode cb_K_decode 83 = .ok (.invokestatic 34, 3) := by decide +kernel
theorem dd_K_decode_86 : decode cb_K_decode 86 = .ok (.lor, 1) := by decide +kernel
theorem dd_K_decode_87 : decode cb_K_decode 87 = .ok (.lstore_n 3, 1) := by decide +kernel
theorem dd_K_decode_88 : decode cb_K_decode 88 = .ok (.iinc 6 1, 3) := by decide +kernel
theorem dd_K_decode_91 : decode cb_K_decode 91 = .ok (.goto (-35), 3) := by decide +kernel
theorem dd_K_decode_94 : decode cb_K_decode 94 = .ok (.iinc 5 1, 3) := by decide +kernel
theorem dd_K_decode_97 : decode cb_K_decode 97 = .ok (.goto (-92), 3) := by decide +kernel
theorem dd_K_decode_100 : decode cb_K_decode 100 = .ok (.lload_n 3, 1) := by decide +kernel
theorem dd_K_decode_101 : decode cb_K_decode 101 = .ok (.lreturn, 1) := by decide +kernel
theorem dd_K_interpolate_0 : decode cb_K_interpolate 0 = .ok (.iconst 1, 1) := by decide +kernel
theorem dd_K_interpolate_1 : decode cb_K_interpolate 1 = .ok (.istore_n 2, 1) := by decide +kernel
theorem dd_K_interpolate_2 : decode cb_K_interpolate 2 = .ok (.iload_n 2, 1) := by decide +kernel
theorem dd_K_interpolate_3 : decode cb_K_interpolate 3 = .ok (.aload_n 0, 1) := by decide +kernel
theorem dd_K_interpolate_4 : decode cb_K_interpolate 4 = .ok (.getfield 9, 3) := by decide +kernel
theorem dd_K_interpolate_7 : decode cb_K_interpolate 7 = .ok (.if_icmp .ge 73, 3) := by decide +kernel
theorem dd_K_interpolate_10 : decode cb_K_interpolate 10 = .ok (.aload_n 0, 1) := by decide +kernel
theorem dd_K_interpolate_11 : decode cb_K_interpolate 11 = .ok (.getfield 9, 3) := by decide +kernel
theorem dd_K_interpolate_14 : decode cb_K_interpolate 14 = .ok (.iconst 1, 1) := by decide +kernel
theorem dd_K_interpolate_15 : decode cb_K_interpolate 15 = .ok (.isub, 1) := by decide +kernel
theorem dd_K_interpolate_16 : decode cb_K_interpolate 16 = .ok (.istore_n 3, 1) := by decide +kernel
theorem dd_K_interpolate_17 : decode cb_K_interpolate 17 = .ok (.iload_n 3, 1) := by decide +kernel
theorem dd_K_interpolate_18 : decode cb_K_interpolate 18 = .ok (.iload_n 2, 1) := by decide +kernel
theorem dd_K_interpolate_19 : decode cb_K_interpolate 19 = .ok (.if_icmp .lt 55, 3) := by decide +kernel
theorem dd_K_interpolate_22 : decode cb_K_interpolate 22 = .ok (.aload_n 1, 1) := by decide +kernel
theorem dd_K_interpolate_23 : decode cb_K_interpolate 23 = .ok (.iload_n 3, 1) := by decide +kernel
theorem dd_K_interpolate_24 : decode cb_K_interpolate 24 = .ok (.iaload, 1) := by decide +kernel
theorem dd_K_interpolate_25 : decode cb_K_interpolate 25 = .ok (.invokestatic 22, 3) := by decide +kernel
theorem dd_K_interpolate_28 : decode cb_K_interpolate 28 = .ok (.aload_n 1, 1) := by decide +kernel
theorem dd_K_interpolate_29 : decode cb_K_interpolate 29 = .ok (.iload_n 3, 1) := by decide +kernel
theorem dd_K_interpolate_30 : decode cb_K_interpolate 30 = .ok (.iload_n 2, 1) := by decide +kernel
theorem dd_K_interpolate_31 : decode cb_K_interpolate 31 = .ok (.isub, 1) := by decide +kernel
theorem dd_K_interpolate_32 : decode cb_K_interpolate 32 = .ok (.iaload, 1) := by decide +kernel
theorem dd_K_interpolate_33 : decode cb_K_interpolate 33 = .ok (.invokestatic 22, 3) := by decide +kernel
theorem dd_K_interpolate_36 : decode cb_K_interpolate 36 = .ok (.ixor, 1) := by decide +kernel
theorem dd_K_interpolate_37 : decode cb_K_interpolate 37 = .ok (.istore 4, 2) := by decide +kernel
theorem dd_K_interpolate_39 : decode cb_K_interpolate 39 = .ok (.aload_n 0, 1) := by decide +kernel
theorem dd_K_interpolate_40 : decode cb_K_interpolate 40 = .ok (.getfield 18, 3) := by decide +kernel
theorem dd_K_interpolate_43 : decode cb_K_interpolate 43 = .ok (.iload_n 3, 1) := by decide +kernel
theorem dd_K_interpolate_44 : decode cb_K_interpolate 44 = .ok (.aload_n 0, 1) := by decide +kernel
theorem dd_K_interpolate_45 : decode cb_K_interpolate 45 = .ok (.getfield 18, 3) := by decide +kernel
theorem dd_K_interpolate_48 : decode cb_K_interpolate 48 = .ok (.iload_n 3, 1) := by decide +kernel
theorem dd_K_interpolate_49 : decode cb_K_interpolate 49 = .ok (.iaload, 1) := by decide +kernel
theorem dd_K_interpolate_50 : decode cb_K_interpolate 50 = .ok (.aload_n 0, 1) := by decide +kernel
theorem dd_K_interpolate_51 : decode cb_K_interpolate 51 = .ok (.getfield 18, 3) := by decide +kernel
theorem dd_K_interpolate_54 : decode cb_K_interpolate 54 = .ok (.iload_n 3, 1) := by decide +kernel
theorem dd_K_interpolate_55 : decode cb_K_interpolate 55 = .ok (.iconst 1, 1) := by decide +kernel
theorem dd_K_interpolate_56 : decode cb_K_interpolate 56 = .ok (.isub, 1) := by decide +kernel
theorem dd_K_interpolate_57 : decode cb_K_interpolate 57 = .ok (.iaload, 1) := by decide +kernel
theorem dd_K_interpolate_58 : decode cb_K_interpolate 58 = .ok (.ixor, 1) := by decide +kernel
theorem dd_K_interpolate_59 : decode cb_K_interpolate 59 = .ok (.iload 4, 2) := by decide +kernel
theorem dd_K_interpolate_61 : decode cb_K_interpolate 61 = .ok (.invokestatic 42, 3) := by decide +kernel
theorem dd_K_interpolate_64 : decode cb_K_interpolate 64 = .ok (.invokestatic 26, 3) := by decide +kernel
theorem dd_K_interpolate_67 : decode cb_K_interpolate 67 = .ok (.iastore, 1) := by decide +kernel
theorem dd_K_interpolate_68 : decode cb_K_interpolate 68 = .ok (.iinc 3 (-1), 3) := by decide +kernel
theorem dd_K_interpolate_71 : decode cb_K_interpolate 71 = .ok (.goto (-54), 3) := by decide +kernel
theorem dd_K_interpolate_74 : decode cb_K_interpolate 74 = .ok (.iinc 2 1, 3) := by decide +kernel
theorem dd_K_interpolate_77 : decode cb_K_interpolate 77 = .ok (.goto (-75), 3) := by decide +kernel
theorem dd_K_interpolate_80 : decode cb_K_interpolate 80 = .ok (.aload_n 0, 1) := by decide +kernel
theorem dd_K_interpolate_81 : decode cb_K_interpolate 81 = .ok (.getfield 9, 3) := by decide +kernel
theorem dd_K_interpolate_84 : decode cb_K_interpolate 84 = .ok (.iconst 2, 1) := by decide +kernel
theorem dd_K_interpolate_85 : decode cb_K_interpolate 85 = .ok (.isub, 1) := by decide +kernel
theorem dd_K_interpolate_86 : decode cb_K_interpolate 86 = .ok (.istore_n 2, 1) := by decide +kernel
theorem dd_K_interpolate_87 : decode cb_K_interpolate 87 = .ok (.iload_n 2, 1) := by decide +kernel
theorem dd_K_interpolate_88 : decode cb_K_interpolate 88 = .ok (.ifCond .lt 53, 3) := by decide +kernel
theorem dd_K_interpolate_91 : decode cb_K_interpolate 91 = .ok (.iload_n 2, 1) := by decide +kernel
theorem dd_K_interpolate_92 : decode cb_K_interpolate 92 = .ok (.istore_n 3, 1) := by decide +kernel
theorem dd_K_interpolate_93 : decode cb_K_interpolate 93 = .ok (.iload_n 3, 1) := by decide +kernel
theorem dd_K_interpolate_94 : decode cb_K_interpolate 94 = .ok (.aload_n 0, 1) := by decide +kernel
theorem dd_K_interpolate_95 : decode cb_K_interpolate 95 = .ok (.getfield 9, 3) := by decide +kernel
theorem dd_K_interpolate_98 : decode cb_K_interpolate 98 = .ok (.iconst 1, 1) := by decide +kernel
theorem dd_K_interpolate_99 : decode cb_K_interpolate 99 = .ok (.isub, 1) := by decide +kernel
theorem dd_K_interpolate_100 : decode cb_K_interpolate 100 = .ok (.if_icmp .ge 35, 3) := by decide +kernel
theorem dd_K_interpolate_103 : decode cb_K_interpolate 103 = .ok (.aload_n 0, 1) := by decide +kernel
theorem dd_K_interpolate_104 : decode cb_K_interpolate 104 = .ok (.getfield 18, 3) := by decide +kernel
theorem dd_K_interpolate_107 : decode cb_K_interpolate 107 = .ok (.iload_n 3, 1) := by decide +kernel
theorem dd_K_interpolate_108 : decode cb_K_interpolate 108 = .ok (.dup2, 1) := by decide +kernel
theorem dd_K_interpolate_109 : decode cb_K_interpolate 109 = .ok (.iaload, 1) := by decide +kernel
theorem dd_K_interpolate_110 : decode cb_K_interpolate 110 = .ok (.aload_n 1, 1) := by decide +kernel
theorem dd_K_interpolate_111 : decode cb_K_interpolate 111 = .ok (.iload_n 2, 1) := by decide +kernel
theorem dd_K_interpolate_112 : decode cb_K_interpolate 112 = .ok (.iaload, 1) := by decide +kernel
theorem dd_K_interpolate_113 : decode cb_K_interpolate 113 = .ok (.invokestatic 22, 3) := by decide +kernel
theorem dd_K_interpolate_116 : decode cb_K_interpolate 116 = .ok (.aload_n 0, 1) := by decide +kernel
theorem dd_K_interpolate_117 : decode cb_K_interpolate 117 = .ok (.getfield 18, 3) := by decide +kernel
theorem dd_K_interpolate_120 : decode cb_K_interpolate 120 = .ok (.iload_n 3, 1) := by decide +kernel
theorem dd_K_interpolate_121 : decode cb_K_interpolate 121 = .ok (.iconst 1, 1) := by decide +kernel
theorem dd_K_interpolate_122 : decode cb_K_interpolate 122 = .ok (.iadd, 1) := by decide +kernel
theorem dd_K_interpolate_123 : decode cb_K_interpolate 123 = .ok (.iaload, 1) := by decide +kernel
theorem dd_K_interpolate_124 : decode cb_K_interpolate 124 = .ok (.invokestatic 26, 3) := by decide +kernel
theorem dd_K_interpolate_127 : decode cb_K_interpolate 127 = .ok (.ixor, 1) := by decide +kernel
theorem dd_K_interpolate_128 : decode cb_K_interpolate 128 = .ok (.iastore, 1) := by decide +kernel
theorem dd_K_interpolate_129 : decode cb_K_interpolate 129 = .ok (.iinc 3 1, 3) := by decide +kernel
theorem dd_K_interpolate_132 : decode cb_K_interpolate 132 = .ok (.goto (-39), 3) := by decide +kernel
theorem dd_K_interpolate_135 : decode cb_K_interpolate 135 = .ok (.iinc 2 (-1), 3) := by decide +kernel
theorem dd_K_interpolate_138 : decode cb_K_interpolate 138 = .ok (.goto (-51), 3) := by decide +kernel
theorem dd_K_interpolate_141 : decode cb_K_interpolate 141 = .ok (.return_, 1) := by decide +kernel
theorem dd_K_pointOf_0 : decode cb_K_pointOf 0 = .ok (.iload_n 0, 1) := by decide +kernel
theorem dd_K_pointOf_1 : decode cb_K_pointOf 1 = .ok (.iconst 1, 1) := by decide +kernel
theorem dd_K_pointOf_2 : decode cb_K_pointOf 2 = .ok (.iadd, 1) := by decide +kernel
theorem dd_K_pointOf_3 : decode cb_K_pointOf 3 = .ok (.ireturn, 1) := by decide +kernel
theorem dd_K_byteAt_0 : decode cb_K_byteAt 0 = .ok (.iload_n 2, 1) := by decide +kernel
theorem dd_K_byteAt_1 : decode cb_K_byteAt 1 = .ok (.ifCond .lt 23, 3) := by decide +kernel
theorem dd_K_byteAt_4 : decode cb_K_byteAt 4 = .ok (.iload_n 2, 1) := by decide +kernel
theorem dd_K_byteAt_5 : decode cb_K_byteAt 5 = .ok (.bipush 8, 2) := by decide +kernel
theorem dd_K_byteAt_7 : decode cb_K_byteAt 7 = .ok (.if_icmp .ge 17, 3) := by decide +kernel
theorem dd_K_byteAt_10 : decode cb_K_byteAt 10 = .ok (.lload_n 0, 1) := by decide +kernel
theorem dd_K_byteAt_11 : decode cb_K_byteAt 11 = .ok (.bipush 8, 2) := by decide +kernel
theorem dd_K_byteAt_13 : decode cb_K_byteAt 13 = .ok (.iload_n 2, 1) := by decide +kernel
theorem dd_K_byteAt_14 : decode cb_K_byteAt 14 = .ok (.imul, 1) := by decide +kernel
theorem dd_K_byteAt_15 : decode cb_K_byteAt 15 = .ok (.lushr, 1) := by decide +kernel
theorem dd_K_byteAt_16 : decode cb_K_byteAt 16 = .ok (.l2i, 1) := by decide +kernel
theorem dd_K_byteAt_17 : decode cb_K_byteAt 17 = .ok (.sipush 255, 3) := by decide +kernel
theorem dd_K_byteAt_20 : decode cb_K_byteAt 20 = .ok (.iand, 1) := by decide +kernel
theorem dd_K_byteAt_21 : decode cb_K_byteAt 21 = .ok (.goto 4, 3) := by decide +kernel
theorem dd_K_byteAt_24 : decode cb_K_byteAt 24 = .ok (.iconst 0, 1) := by decide +kernel
theorem dd_K_byteAt_25 : decode cb_K_byteAt 25 = .ok (.ireturn, 1) := by decide +kernel
theorem dd_K_placed_0 : decode cb_K_placed 0 = .ok (.iload_n 1, 1) := by decide +kernel
theorem dd_K_placed_1 : decode cb_K_placed 1 = .ok (.ifCond .lt 19, 3) := by decide +kernel
theorem dd_K_placed_4 : decode cb_K_placed 4 = .ok (.iload_n 1, 1) := by decide +kernel
theorem dd_K_placed_5 : decode cb_K_placed 5 = .ok (.bipush 8, 2) := by decide +kernel
theorem dd_K_placed_7 : decode cb_K_placed 7 = .ok (.if_icmp .ge 13, 3) := by decide +kernel
theorem dd_K_placed_10 : decode cb_K_placed 10 = .ok (.iload_n 0, 1) := by decide +kernel
theorem dd_K_placed_11 : decode cb_K_placed 11 = .ok (.i2l, 1) := by decide +kernel
theorem dd_K_placed_12 : decode cb_K_placed 12 = .ok (.bipush 8, 2) := by decide +kernel
theorem dd_K_placed_14 : decode cb_K_placed 14 = .ok (.iload_n 1, 1) := by decide +kernel
theorem dd_K_placed_15 : decode cb_K_placed 15 = .ok (.imul, 1) := by decide +kernel
theorem dd_K_placed_16 : decode cb_K_placed 16 = .ok (.lshl, 1) := by decide +kernel
theorem dd_K_placed_17 : decode cb_K_placed 17 = .ok (.goto 4, 3) := by decide +kernel
theorem dd_K_placed_20 : decode cb_K_placed 20 = .ok (.lconst 0, 1) := by decide +kernel
theorem dd_K_placed_21 : decode cb_K_placed 21 = .ok (.lreturn, 1) := by decide +kernel
theorem dd_K_times_0 : decode cb_K_times 0 = .ok (.iconst 0, 1) := by decide +kernel
theorem dd_K_times_1 : decode cb_K_times 1 = .ok (.istore_n 2, 1) := by decide +kernel
theorem dd_K_times_2 : decode cb_K_times 2 = .ok (.iload_n 0, 1) := by decide +kernel
theorem dd_K_times_3 : decode cb_K_times 3 = .ok (.istore_n 3, 1) := by decide +kernel
theorem dd_K_times_4 : decode cb_K_times 4 = .ok (.iconst 0, 1) := by decide +kernel
theorem dd_K_times_5 : decode cb_K_times 5 = .ok (.istore 4, 2) := by decide +kernel
theorem dd_K_times_7 : decode cb_K_times 7 = .ok (.iload 4, 2) := by decide +kernel
theorem dd_K_times_9 : decode cb_K_times 9 = .ok (.bipush 8, 2) := by decide +kernel
theorem dd_K_times_11 : decode cb_K_times 11 = .ok (.if_icmp .ge 40, 3) := by decide +kernel
theorem dd_K_times_14 : decode cb_K_times 14 = .ok (.iload_n 1, 1) := by decide +kernel
theorem dd_K_times_15 : decode cb_K_times 15 = .ok (.iload 4, 2) := by decide +kernel
theorem dd_K_times_17 : decode cb_K_times 17 = .ok (.ishr, 1) := by decide +kernel
theorem dd_K_times_18 : decode cb_K_times 18 = .ok (.iconst 1, 1) := by decide +kernel
theorem dd_K_times_19 : decode cb_K_times 19 = .ok (.iand, 1) := by decide +kernel
theorem dd_K_times_20 : decode cb_K_times 20 = .ok (.ifCond .eq 7, 3) := by decide +kernel
theorem dd_K_times_23 : decode cb_K_times 23 = .ok (.iload_n 2, 1) := by decide +kernel
theorem dd_K_times_24 : decode cb_K_times 24 = .ok (.iload_n 3, 1) := by decide +kernel
theorem dd_K_times_25 : decode cb_K_times 25 = .ok (.ixor, 1) := by decide +kernel
theorem dd_K_times_26 : decode cb_K_times 26 = .ok (.istore_n 2, 1) := by decide +kernel
theorem dd_K_times_27 : decode cb_K_times 27 = .ok (.iload_n 3, 1) := by decide +kernel
theorem dd_K_times_28 : decode cb_K_times 28 = .ok (.iconst 1, 1) := by decide +kernel
theorem dd_K_times_29 : decode cb_K_times 29 = .ok (.ishl, 1) := by decide +kernel
theorem dd_K_times_30 : decode cb_K_times 30 = .ok (.istore_n 3, 1) := by decide +kernel
theorem dd_K_times_31 : decode cb_K_times 31 = .ok (.iload_n 3, 1) := by decide +kernel
theorem dd_K_times_32 : decode cb_K_times 32 = .ok (.sipush 256, 3) := by decide +kernel
theorem dd_K_times_35 : decode cb_K_times 35 = .ok (.iand, 1) := by decide +kernel
theorem dd_K_times_36 : decode cb_K_times 36 = .ok (.ifCond .eq 9, 3) := by decide +kernel
theorem dd_K_times_39 : decode cb_K_times 39 = .ok (.iload_n 3, 1) := by decide +kernel
theorem dd_K_times_40 : decode cb_K_times 40 = .ok (.sipush 285, 3) := by decide +kernel
theorem dd_K_times_43 : decode cb_K_times 43 = .ok (.ixor, 1) := by decide +kernel
theorem dd_K_times_44 : decode cb_K_times 44 = .ok (.istore_n 3, 1) := by decide +kernel
theorem dd_K_times_45 : decode cb_K_times 45 = .ok (.iinc 4 1, 3) := by decide +kernel
theorem dd_K_times_48 : decode cb_K_times 48 = .ok (.goto (-41), 3) := by decide +kernel
theorem dd_K_times_51 : decode cb_K_times 51 = .ok (.iload_n 2, 1) := by decide +kernel
theorem dd_K_times_52 : decode cb_K_times 52 = .ok (.ireturn, 1) := by decide +kernel
theorem dd_K_inverse_0 : decode cb_K_inverse 0 = .ok (.iload_n 0, 1) := by decide +kernel
theorem dd_K_inverse_1 : decode cb_K_inverse 1 = .ok (.istore_n 1, 1) := by decide +kernel
theorem dd_K_inverse_2 : decode cb_K_inverse 2 = .ok (.iconst 1, 1) := by decide +kernel
theorem dd_K_inverse_3 : decode cb_K_inverse 3 = .ok (.istore_n 2, 1) := by decide +kernel
theorem dd_K_inverse_4 : decode cb_K_inverse 4 = .ok (.iconst 1, 1) := by decide +kernel
theorem dd_K_inverse_5 : decode cb_K_inverse 5 = .ok (.istore_n 3, 1) := by decide +kernel
theorem dd_K_inverse_6 : decode cb_K_inverse 6 = .ok (.iload_n 3, 1) := by decide +kernel
theorem dd_K_inverse_7 : decode cb_K_inverse 7 = .ok (.bipush 8, 2) := by decide +kernel
theorem dd_K_inverse_9 : decode cb_K_inverse 9 = .ok (.if_icmp .ge 21, 3) := by decide +kernel
theorem dd_K_inverse_12 : decode cb_K_inverse 12 = .ok (.iload_n 1, 1) := by decide +kernel
theorem dd_K_inverse_13 : decode cb_K_inverse 13 = .ok (.iload_n 1, 1) := by decide +kernel
theorem dd_K_inverse_14 : decode cb_K_inverse 14 = .ok (.invokestatic 26, 3) := by decide +kernel
theorem dd_K_inverse_17 : decode cb_K_inverse 17 = .ok (.istore_n 1, 1) := by decide +kernel
theorem dd_K_inverse_18 : decode cb_K_inverse 18 = .ok (.iload_n 2, 1) := by decide +kernel
theorem dd_K_inverse_19 : decode cb_K_inverse 19 = .ok (.iload_n 1, 1) := by decide +kernel
theorem dd_K_inverse_20 : decode cb_K_inverse 20 = .ok (.invokestatic 26, 3) := by decide +kernel
theorem dd_K_inverse_23 : decode cb_K_inverse 23 = .ok (.istore_n 2, 1) := by decide +kernel
theorem dd_K_inverse_24 : decode cb_K_inverse 24 = .ok (.iinc 3 1, 3) := by decide +kernel
theorem dd_K_inverse_27 : decode cb_K_inverse 27 = .ok (.goto (-21), 3) := by decide +kernel
theorem dd_K_inverse_30 : decode cb_K_inverse 30 = .ok (.iload_n 2, 1) := by decide +kernel
theorem dd_K_inverse_31 : decode cb_K_inverse 31 = .ok (.ireturn, 1) := by decide +kernel
