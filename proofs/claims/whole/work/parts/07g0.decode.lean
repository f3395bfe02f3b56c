theorem dd_M_init_0 : decode cb_M_init 0 = .ok (.aload_n 0, 1) := by decide +kernel
theorem dd_M_init_1 : decode cb_M_init 1 = .ok (.invokespecial 1, 3) := by decide +kernel
theorem dd_M_init_4 : decode cb_M_init 4 = .ok (.aload_n 0, 1) := by decide +kernel
theorem dd_M_init_5 : decode cb_M_init 5 = .ok (.iconst 5, 1) := by decide +kernel
theorem dd_M_init_6 : decode cb_M_init 6 = .ok (.newarray .int, 2) := by decide +kernel
theorem dd_M_init_8 : decode cb_M_init 8 = .ok (.putfield 7, 3) := by decide +kernel
theorem dd_M_init_11 : decode cb_M_init 11 = .ok (.aload_n 0, 1) := by decide +kernel
theorem dd_M_init_12 : decode cb_M_init 12 = .ok (.iconst 5, 1) := by decide +kernel
theorem dd_M_init_13 : decode cb_M_init 13 = .ok (.newarray .int, 2) := by decide +kernel
theorem dd_M_init_15 : decode cb_M_init 15 = .ok (.putfield 13, 3) := by decide +kernel
theorem dd_M_init_18 : decode cb_M_init 18 = .ok (.aload_n 0, 1) := by decide +kernel
theorem dd_M_init_19 : decode cb_M_init 19 = .ok (.iconst 5, 1) := by decide +kernel
theorem dd_M_init_20 : decode cb_M_init 20 = .ok (.newarray .int, 2) := by decide +kernel
theorem dd_M_init_22 : decode cb_M_init 22 = .ok (.putfield 16, 3) := by decide +kernel
theorem dd_M_init_25 : decode cb_M_init 25 = .ok (.aload_n 0, 1) := by decide +kernel
theorem dd_M_init_26 : decode cb_M_init 26 = .ok (.iconst 5, 1) := by decide +kernel
theorem dd_M_init_27 : decode cb_M_init 27 = .ok (.newarray .int, 2) := by decide +kernel
theorem dd_M_init_29 : decode cb_M_init 29 = .ok (.putfield 19, 3) := by decide +kernel
theorem dd_M_init_32 : decode cb_M_init 32 = .ok (.aload_n 0, 1) := by decide +kernel
theorem dd_M_init_33 : decode cb_M_init 33 = .ok (.iconst 5, 1) := by decide +kernel
theorem dd_M_init_34 : decode cb_M_init 34 = .ok (.newarray .int, 2) := by decide +kernel
theorem dd_M_init_36 : decode cb_M_init 36 = .ok (.putfield 22, 3) := by decide +kernel
theorem dd_M_init_39 : decode cb_M_init 39 = .ok (.aload_n 0, 1) := by decide +kernel
theorem dd_M_init_40 : decode cb_M_init 40 = .ok (.iconst 5, 1) := by decide +kernel
theorem dd_M_init_41 : decode cb_M_init 41 = .ok (.newarray .int, 2) := by decide +kernel
theorem dd_M_init_43 : decode cb_M_init 43 = .ok (.putfield 25, 3) := by decide +kernel
theorem dd_M_init_46 : decode cb_M_init 46 = .ok (.aload_n 0, 1) := by decide +kernel
theorem dd_M_init_47 : decode cb_M_init 47 = .ok (.iconst 5, 1) := by decide +kernel
theorem dd_M_init_48 : decode cb_M_init 48 = .ok (.newarray .int, 2) := by decide +kernel
theorem dd_M_init_50 : decode cb_M_init 50 = .ok (.putfield 28, 3) := by decide +kernel
theorem dd_M_init_53 : decode cb_M_init 53 = .ok (.aload_n 0, 1) := by decide +kernel
theorem dd_M_init_54 : decode cb_M_init 54 = .ok (.iconst 5, 1) := by decide +kernel
theorem dd_M_init_55 : decode cb_M_init 55 = .ok (.newarray .long, 2) := by decide +kernel
theorem dd_M_init_57 : decode cb_M_init 57 = .ok (.putfield 31, 3) := by decide +kernel
theorem dd_M_init_60 : decode cb_M_init 60 = .ok (.aload_n 0, 1) := by decide +kernel
theorem dd_M_init_61 : decode cb_M_init 61 = .ok (.iconst 5, 1) := by decide +kernel
theorem dd_M_init_62 : decode cb_M_init 62 = .ok (.newarray .long, 2) := by decide +kernel
theorem dd_M_init_64 : decode cb_M_init 64 = .ok (.putfield 35, 3) := by decide +kernel
theorem dd_M_init_67 : decode cb_M_init 67 = .ok (.aload_n 0, 1) := by decide +kernel
theorem dd_M_init_68 : decode cb_M_init 68 = .ok (.iconst 5, 1) := by decide +kernel
theorem dd_M_init_69 : decode cb_M_init 69 = .ok (.newarray .long, 2) := by decide +kernel
theorem dd_M_init_71 : decode cb_M_init 71 = .ok (.putfield 38, 3) := by decide +kernel
theorem dd_M_init_74 : decode cb_M_init 74 = .ok (.aload_n 0, 1) := by decide +kernel
theorem dd_M_init_75 : decode cb_M_init 75 = .ok (.bipush 7, 2) := by decide +kernel
theorem dd_M_init_77 : decode cb_M_init 77 = .ok (.newarray .boolean, 2) := by decide +kernel
theorem dd_M_init_79 : decode cb_M_init 79 = .ok (.putfield 41, 3) := by decide +kernel
theorem dd_M_init_82 : decode cb_M_init 82 = .ok (.aload_n 0, 1) := by decide +kernel
theorem dd_M_init_83 : decode cb_M_init 83 = .ok (.bipush 7, 2) := by decide +kernel
theorem dd_M_init_85 : decode cb_M_init 85 = .ok (.newarray .int, 2) := by decide +kernel
theorem dd_M_init_87 : decode cb_M_init 87 = .ok (.putfield 45, 3) := by decide +kernel
theorem dd_M_init_90 : decode cb_M_init 90 = .ok (.aload_n 0, 1) := by decide +kernel
theorem dd_M_init_91 : decode cb_M_init 91 = .ok (.bipush 7, 2) := by decide +kernel
theorem dd_M_init_93 : decode cb_M_init 93 = .ok (.newarray .int, 2) := by decide +kernel
theorem dd_M_init_95 : decode cb_M_init 95 = .ok (.putfield 48, 3) := by decide +kernel
theorem dd_M_init_98 : decode cb_M_init 98 = .ok (.aload_n 0, 1) := by decide +kernel
theorem dd_M_init_99 : decode cb_M_init 99 = .ok (.bipush 35, 2) := by decide +kernel
theorem dd_M_init_101 : decode cb_M_init 101 = .ok (.newarray .int, 2) := by decide +kernel
theorem dd_M_init_103 : decode cb_M_init 103 = .ok (.putfield 51, 3) := by decide +kernel
theorem dd_M_init_106 : decode cb_M_init 106 = .ok (.aload_n 0, 1) := by decide +kernel
theorem dd_M_init_107 : decode cb_M_init 107 = .ok (.bipush 35, 2) := by decide +kernel
theorem dd_M_init_109 : decode cb_M_init 109 = .ok (.newarray .long, 2) := by decide +kernel
theorem dd_M_init_111 : decode cb_M_init 111 = .ok (.putfield 54, 3) := by decide +kernel
theorem dd_M_init_114 : decode cb_M_init 114 = .ok (.aload_n 0, 1) := by decide +kernel
theorem dd_M_init_115 : decode cb_M_init 115 = .ok (.sipush 256, 3) := by decide +kernel
theorem dd_M_init_118 : decode cb_M_init 118 = .ok (.newarray .boolean, 2) := by decide +kernel
theorem dd_M_init_120 : decode cb_M_init 120 = .ok (.putfield 57, 3) := by decide +kernel
theorem dd_M_init_123 : decode cb_M_init 123 = .ok (.aload_n 0, 1) := by decide +kernel
theorem dd_M_init_124 : decode cb_M_init 124 = .ok (.sipush 256, 3) := by decide +kernel
theorem dd_M_init_127 : decode cb_M_init 127 = .ok (.newarray .boolean, 2) := by decide +kernel
theorem dd_M_init_129 : decode cb_M_init 129 = .ok (.putfield 60, 3) := by decide +kernel
theorem dd_M_init_132 : decode cb_M_init 132 = .ok (.aload_n 0, 1) := by decide +kernel
theorem dd_M_init_133 : decode cb_M_init 133 = .ok (.sipush 256, 3) := by decide +kernel
theorem dd_M_init_136 : decode cb_M_init 136 = .ok (.newarray .int, 2) := by decide +kernel
theorem dd_M_init_138 : decode cb_M_init 138 = .ok (.putfield 63, 3) := by decide +kernel
theorem dd_M_init_141 : decode cb_M_init 141 = .ok (.aload_n 0, 1) := by decide +kernel
theorem dd_M_init_142 : decode cb_M_init 142 = .ok (.sipush 256, 3) := by decide +kernel
theorem dd_M_init_145 : decode cb_M_init 145 = .ok (.newarray .int, 2) := by decide +kernel
theorem dd_M_init_147 : decode cb_M_init 147 = .ok (.putfield 66, 3) := by decide +kernel
theorem dd_M_init_150 : decode cb_M_init 150 = .ok (.aload_n 0, 1) := by decide +kernel
theorem dd_M_init_151 : decode cb_M_init 151 = .ok (.sipush 256, 3) := by decide +kernel
theorem dd_M_init_154 : decode cb_M_init 154 = .ok (.newarray .int, 2) := by decide +kernel
theorem dd_M_init_156 : decode cb_M_init 156 = .ok (.putfield 69, 3) := by decide +kernel
theorem dd_M_init_159 : decode cb_M_init 159 = .ok (.aload_n 0, 1) := by decide +kernel
theorem dd_M_init_160 : decode cb_M_init 160 = .ok (.sipush 256, 3) := by decide +kernel
theorem dd_M_init_163 : decode cb_M_init 163 = .ok (.newarray .int, 2) := by decide +kernel
theorem dd_M_init_165 : decode cb_M_init 165 = .ok (.putfield 72, 3) := by decide +kernel
theorem dd_M_init_168 : decode cb_M_init 168 = .ok (.aload_n 0, 1) := by decide +kernel
theorem dd_M_init_169 : decode cb_M_init 169 = .ok (.sipush 256, 3) := by decide +kernel
theorem dd_M_init_172 : decode cb_M_init 172 = .ok (.newarray .int, 2) := by decide +kernel
theorem dd_M_init_174 : decode cb_M_init 174 = .ok (.putfield 75, 3) := by decide +kernel
theorem dd_M_init_177 : decode cb_M_init 177 = .ok (.aload_n 0, 1) := by decide +kernel
theorem dd_M_init_178 : decode cb_M_init 178 = .ok (.sipush 256, 3) := by decide +kernel
theorem dd_M_init_181 : decode cb_M_init 181 = .ok (.newarray .long, 2) := by decide +kernel
theorem dd_M_init_183 : decode cb_M_init 183 = .ok (.putfield 78, 3) := by decide +kernel
theorem dd_M_init_186 : decode cb_M_init 186 = .ok (.aload_n 0, 1) := by decide +kernel
theorem dd_M_init_187 : decode cb_M_init 187 = .ok (.iload_n 1, 1) := by decide +kernel
theorem dd_M_init_188 : decode cb_M_init 188 = .ok (.iconst 3, 1) := by decide +kernel
theorem dd_M_init_189 : decode cb_M_init 189 = .ok (.if_icmp .ge 7, 3) := by decide +kernel
theorem dd_M_init_192 : decode cb_M_init 192 = .ok (.iconst 3, 1) := by decide +kernel
theorem dd_M_init_193 : decode cb_M_init 193 = .ok (.goto 15, 3) := by decide +kernel
theorem dd_M_init_196 : decode cb_M_init 196 = .ok (.iload_n 1, 1) := by decide +kernel
theorem dd_M_init_197 : decode cb_M_init 197 = .ok (.bipush 7, 2) := by decide +kernel
theorem dd_M_init_199 : decode cb_M_init 199 = .ok (.if_icmp .le 8, 3) := by decide +kernel
theorem dd_M_init_202 : decode cb_M_init 202 = .ok (.bipush 7, 2) := by decide +kernel
theorem dd_M_init_204 : decode cb_M_init 204 = .ok (.goto 4, 3) := by decide +kernel
theorem dd_M_init_207 : decode cb_M_init 207 = .ok (.iload_n 1, 1) := by decide +kernel
theorem dd_M_init_208 : decode cb_M_init 208 = .ok (.putfield 81, 3) := by decide +kernel
theorem dd_M_init_211 : decode cb_M_init 211 = .ok (.aload_n 0, 1) := by decide +kernel
theorem dd_M_init_212 : decode cb_M_init 212 = .ok (.iload_n 2, 1) := by decide +kernel
theorem dd_M_init_213 : decode cb_M_init 213 = .ok (.iconst 1, 1) := by decide +kernel
theorem dd_M_init_214 : decode cb_M_init 214 = .ok (.if_icmp .ge 7, 3) := by decide +kernel
theorem dd_M_init_217 : decode cb_M_init 217 = .ok (.iconst 1, 1) := by decide +kernel
theorem dd_M_init_218 : decode cb_M_init 218 = .ok (.goto 19, 3) := by decide +kernel
theorem dd_M_init_221 : decode cb_M_init 221 = .ok (.iload_n 2, 1) := by decide +kernel
theorem dd_M_init_222 : decode cb_M_init 222 = .ok (.aload_n 0, 1) := by decide +kernel
theorem dd_M_init_223 : decode cb_M_init 223 = .ok (.getfield 81, 3) := by decide +kernel
theorem dd_M_init_226 : decode cb_M_init 226 = .ok (.if_icmp .le 10, 3) := by decide +kernel
theorem dd_M_init_229 : decode cb_M_init 229 = .ok (.aload_n 0, 1) := by decide +kernel
theorem dd_M_init_230 : decode cb_M_init 230 = .ok (.getfield 81, 3) := by decide +kernel
theorem dd_M_init_233 : decode cb_M_init 233 = .ok (.goto 4, 3) := by decide +kernel
theorem dd_M_init_236 : decode cb_M_init 236 = .ok (.iload_n 2, 1) := by decide +kernel
theorem dd_M_init_237 : decode cb_M_init 237 = .ok (.putfield 85, 3) := by decide +kernel
theorem dd_M_init_240 : decode cb_M_init 240 = .ok (.aload_n 0, 1) := by decide +kernel
theorem dd_M_init_241 : decode cb_M_init 241 = .ok (.iload_n 3, 1) := by decide +kernel
theorem dd_M_init_242 : decode cb_M_init 242 = .ok (.ifCond .ge 7, 3) := by decide +kernel
theorem dd_M_init_245 : decode cb_M_init 245 = .ok (.iconst 0, 1) := by decide +kernel
theorem dd_M_init_246 : decode cb_M_init 246 = .ok (.goto 13, 3) := by decide +kernel
theorem dd_M_init_249 : decode cb_M_init 249 = .ok (.iload_n 3, 1) := by decide +kernel
theorem dd_M_init_250 : decode cb_M_init 250 = .ok (.iconst 3, 1) := by decide +kernel
theorem dd_M_init_251 : decode cb_M_init 251 = .ok (.if_icmp .le 7, 3) := by decide +kernel
theorem dd_M_init_254 : decode cb_M_init 254 = .ok (.iconst 3, 1) := by decide +kernel
theorem dd_M_init_255 : decode cb_M_init 255 = .ok (.goto 4, 3) := by decide +kernel
theorem dd_M_init_258 : decode cb_M_init 258 = .ok (.iload_n 3, 1) := by decide +kernel
theorem dd_M_init_259 : decode cb_M_init 259 = .ok (.putfield 88, 3) := by decide +kernel
theorem dd_M_init_262 : decode cb_M_init 262 = .ok (.iconst 0, 1) := by decide +kernel
theorem dd_M_init_263 : decode cb_M_init 263 = .ok (.istore 4, 2) := by decide +kernel
theorem dd_M_init_265 : decode cb_M_init 265 = .ok (.iload 4, 2) := by decide +kernel
theorem dd_M_init_267 : decode cb_M_init 267 = .ok (.aload_n 0, 1) := by decide +kernel
theorem dd_M_init_268 : decode cb_M_init 268 = .ok (.getfield 81, 3) := by decide +kernel
theorem dd_M_init_271 : decode cb_M_init 271 = .ok (.if_icmp .ge 17, 3) := by decide +kernel
theorem dd_M_init_274 : decode cb_M_init 274 = .ok (.aload_n 0, 1) := by decide +kernel
theorem dd_M_init_275 : decode cb_M_init 275 = .ok (.getfield 48, 3) := by decide +kernel
theorem dd_M_init_278 : decode cb_M_init 278 = .ok (.iload 4, 2) := by decide +kernel
theorem dd_M_init_280 : decode cb_M_init 280 = .ok (.iconst 1, 1) := by decide +kernel
theorem dd_M_init_281 : decode cb_M_init 281 = .ok (.iastore, 1) := by decide +kernel
theorem dd_M_init_282 : decode cb_M_init 282 = .ok (.iinc 4 1, 3) := by decide +kernel
theorem dd_M_init_285 : decode cb_M_init 285 = .ok (.goto (-20), 3) := by decide +kernel
theorem dd_M_init_288 : decode cb_M_init 288 = .ok (.return_, 1) := by decide +kernel
theorem dd_M_noClient_0 : decode cb_M_noClient 0 = .ok (.iload_n 1, 1) := by decide +kernel
theorem dd_M_noClient_1 : decode cb_M_noClient 1 = .ok (.ifCond .lt 8, 3) := by decide +kernel
theorem dd_M_noClient_4 : decode cb_M_noClient 4 = .ok (.iload_n 1, 1) := by decide +kernel
theorem dd_M_noClient_5 : decode cb_M_noClient 5 = .ok (.iconst 4, 1) := by decide +kernel
theorem dd_M_noClient_6 : decode cb_M_noClient 6 = .ok (.if_icmp .le 7, 3) := by decide +kernel
theorem dd_M_noClient_9 : decode cb_M_noClient 9 = .ok (.iconst 1, 1) := by decide +kernel
theorem dd_M_noClient_10 : decode cb_M_noClient 10 = .ok (.goto 4, 3) := by decide +kernel
theorem dd_M_noClient_13 : decode cb_M_noClient 13 = .ok (.iconst 0, 1) := by decide +kernel
theorem dd_M_noClient_14 : decode cb_M_noClient 14 = .ok (.ireturn, 1) := by decide +kernel
theorem dd_M_noServer_0 : decode cb_M_noServer 0 = .ok (.iload_n 1, 1) := by decide +kernel
theorem dd_M_noServer_1 : decode cb_M_noServer 1 = .ok (.ifCond .lt 11, 3) := by decide +kernel
theorem dd_M_noServer_4 : decode cb_M_noServer 4 = .ok (.iload_n 1, 1) := by decide +kernel
theorem dd_M_noServer_5 : decode cb_M_noServer 5 = .ok (.aload_n 0, 1) := by decide +kernel
theorem dd_M_noServer_6 : decode cb_M_noServer 6 = .ok (.getfield 81, 3) := by decide +kernel
theorem dd_M_noServer_9 : decode cb_M_noServer 9 = .ok (.if_icmp .lt 7, 3) := by decide +kernel
theorem dd_M_noServer_12 : decode cb_M_noServer 12 = .ok (.iconst 1, 1) := by decide +kernel
theorem dd_M_noServer_13 : decode cb_M_noServer 13 = .ok (.goto 4, 3) := by decide +kernel
theorem dd_M_noServer_16 : decode cb_M_noServer 16 = .ok (.iconst 0, 1) := by decide +kernel
theorem dd_M_noServer_17 : decode cb_M_noServer 17 = .ok (.ireturn, 1) := by decide +kernel
theorem dd_M_quorum_0 : decode cb_M_quorum 0 = .ok (.aload_n 0, 1) := by decide +kernel
theorem dd_M_quorum_1 : decode cb_M_quorum 1 = .ok (.getfield 81, 3) := by decide +kernel
theorem dd_M_quorum_4 : decode cb_M_quorum 4 = .ok (.aload_n 0, 1) := by decide +kernel
theorem dd_M_quorum_5 : decode cb_M_quorum 5 = .ok (.getfield 81, 3) := by decide +kernel
theorem dd_M_quorum_8 : decode cb_M_quorum 8 = .ok (.aload_n 0, 1) := by decide +kernel
theorem dd_M_quorum_9 : decode cb_M_quorum 9 = .ok (.getfield 85, 3) := by decide +kernel
theorem dd_M_quorum_12 : decode cb_M_quorum 12 = .ok (.isub, 1) := by decide +kernel
theorem dd_M_quorum_13 : decode cb_M_quorum 13 = .ok (.iconst 2, 1) := by decide +kernel
theorem dd_M_quorum_14 : decode cb_M_quorum 14 = .ok (.idiv, 1) := by decide +kernel
theorem dd_M_quorum_15 : decode cb_M_quorum 15 = .ok (.isub, 1) := by decide +kernel
theorem dd_M_quorum_16 : decode cb_M_quorum 16 = .ok (.ireturn, 1) := by decide +kernel
theorem dd_M_send_0 : decode cb_M_send 0 = .ok (.aload_n 0, 1) := by decide +kernel
theorem dd_M_send_1 : decode cb_M_send 1 = .ok (.getfield 57, 3) := by decide +kernel
theorem dd_M_send_4 : decode cb_M_send 4 = .ok (.aload_n 0, 1) := by decide +kernel
theorem dd_M_send_5 : decode cb_M_send 5 = .ok (.getfield 91, 3) := by decide +kernel
theorem dd_M_send_8 : decode cb_M_send 8 = .ok (.iload_n 1, 1) := by decide +kernel
theorem dd_M_send_9 : decode cb_M_send 9 = .ok (.bastore, 1) := by decide +kernel
theorem dd_M_send_10 : decode cb_M_send 10 = .ok (.aload_n 0, 1) := by decide +kernel
theorem dd_M_send_11 : decode cb_M_send 11 = .ok (.getfield 63, 3) := by decide +kernel
theorem dd_M_send_14 : decode cb_M_send 14 = .ok (.aload_n 0, 1) := by decide +kernel
theorem dd_M_send_15 : decode cb_M_send 15 = .ok (.getfield 91, 3) := by decide +kernel
theorem dd_M_send_18 : decode cb_M_send 18 = .ok (.iload_n 2, 1) := by decide +kernel
theorem dd_M_send_19 : decode cb_M_send 19 = .ok (.iastore, 1) := by decide +kernel
theorem dd_M_send_20 : decode cb_M_send 20 = .ok (.aload_n 0, 1) := by decide +kernel
theorem dd_M_send_21 : decode cb_M_send 21 = .ok (.getfield 66, 3) := by decide +kernel
theorem dd_M_send_24 : decode cb_M_send 24 = .ok (.aload_n 0, 1) := by decide +kernel
theorem dd_M_send_25 : decode cb_M_send 25 = .ok (.getfield 91, 3) := by decide +kernel
theorem dd_M_send_28 : decode cb_M_send 28 = .ok (.iload_n 3, 1) := by decide +kernel
theorem dd_M_send_29 : decode cb_M_send 29 = .ok (.iastore, 1) := by decide +kernel
theorem dd_M_send_30 : decode cb_M_send 30 = .ok (.aload_n 0, 1) := by decide +kernel
theorem dd_M_send_31 : decode cb_M_send 31 = .ok (.getfield 72, 3) := by decide +kernel
theorem dd_M_send_34 : decode cb_M_send 34 = .ok (.aload_n 0, 1) := by decide +kernel
theorem dd_M_send_35 : decode cb_M_send 35 = .ok (.getfield 91, 3) := by decide +kernel
theorem dd_M_send_38 : decode cb_M_send 38 = .ok (.iload 4, 2) := by decide +kernel
theorem dd_M_send_40 : decode cb_M_send 40 = .ok (.iastore, 1) := by decide +kernel
theorem dd_M_send_41 : decode cb_M_send 41 = .ok (.aload_n 0, 1) := by decide +kernel
theorem dd_M_send_42 : decode cb_M_send 42 = .ok (.getfield 69, 3) := by decide +kernel
theorem dd_M_send_45 : decode cb_M_send 45 = .ok (.aload_n 0, 1) := by decide +kernel
theorem dd_M_send_46 : decode cb_M_send 46 = .ok (.getfield 91, 3) := by decide +kernel
theorem dd_M_send_49 : decode cb_M_send 49 = .ok (.iload 5, 2) := by decide +kernel
theorem dd_M_send_51 : decode cb_M_send 51 = .ok (.iastore, 1) := by decide +kernel
theorem dd_M_send_52 : decode cb_M_send 52 = .ok (.aload_n 0, 1) := by decide +kernel
theorem dd_M_send_53 : decode cb_M_send 53 = .ok (.getfield 60, 3) := by decide +kernel
theorem dd_M_send_56 : decode cb_M_send 56 = .ok (.aload_n 0, 1) := by decide +kernel
theorem dd_M_send_57 : decode cb_M_send 57 = .ok (.getfield 91, 3) := by decide +kernel
theorem dd_M_send_60 : decode cb_M_send 60 = .ok (.iconst 0, 1) := by decide +kernel
theorem dd_M_send_61 : decode cb_M_send 61 = .ok (.bastore, 1) := by decide +kernel
theorem dd_M_send_62 : decode cb_M_send 62 = .ok (.aload_n 0, 1) := by decide +kernel
theorem dd_M_send_63 : decode cb_M_send 63 = .ok (.getfield 75, 3) := by decide +kernel
theorem dd_M_send_66 : decode cb_M_send 66 = .ok (.aload_n 0, 1) := by decide +kernel
theorem dd_M_send_67 : decode cb_M_send 67 = .ok (.getfield 91, 3) := by decide +kernel
theorem dd_M_send_70 : decode cb_M_send 70 = .ok (.aload_n 0, 1) := by decide +kernel
theorem dd_M_send_71 : decode cb_M_send 71 = .ok (.getfield 25, 3) := by decide +kernel
theorem dd_M_send_74 : decode cb_M_send 74 = .ok (.iload_n 2, 1) := by decide +kernel
theorem dd_M_send_75 : decode cb_M_send 75 = .ok (.iaload, 1) := by decide +kernel
theorem dd_M_send_76 : decode cb_M_send 76 = .ok (.iastore, 1) := by decide +kernel
theorem dd_M_send_77 : decode cb_M_send 77 = .ok (.aload_n 0, 1) := by decide +kernel
theorem dd_M_send_78 : decode cb_M_send 78 = .ok (.getfield 78, 3) := by decide +kernel
theorem dd_M_send_81 : decode cb_M_send 81 = .ok (.aload_n 0, 1) := by decide +kernel
theorem dd_M_send_82 : decode cb_M_send 82 = .ok (.getfield 91, 3) := by decide +kernel
theorem dd_M_send_85 : decode cb_M_send 85 = .ok (.aload_n 0, 1) := by decide +kernel
theorem dd_M_send_86 : decode cb_M_send 86 = .ok (.getfield 31, 3) := by decide +kernel
theorem dd_M_send_89 : decode cb_M_send 89 = .ok (.iload_n 2, 1) := by decide +kernel
theorem dd_M_send_90 : decode cb_M_send 90 = .ok (.laload, 1) := by decide +kernel
theorem dd_M_send_91 : decode cb_M_send 91 = .ok (.lastore, 1) := by decide +kernel
theorem dd_M_send_92 : decode cb_M_send 92 = .ok (.aload_n 0, 1) := by decide +kernel
theorem dd_M_send_93 : decode cb_M_send 93 = .ok (.dup, 1) := by decide +kernel
theorem dd_M_send_94 : decode cb_M_send 94 = .ok (.getfield 91, 3) := by decide +kernel
theorem dd_M_send_97 : decode cb_M_send 97 = .ok (.iconst 1, 1) := by decide +kernel
theorem dd_M_send_98 : decode cb_M_send 98 = .ok (.iadd, 1) := by decide +kernel
theorem dd_M_send_99 : decode cb_M_send 99 = .ok (.putfield 91, 3) := by decide +kernel
theorem dd_M_send_102 : decode cb_M_send 102 = .ok (.return_, 1) := by decide +kernel
theorem dd_M_lose_0 : decode cb_M_lose 0 = .ok (.aload_n 0, 1) := by decide +kernel
theorem dd_M_lose_1 : decode cb_M_lose 1 = .ok (.dup, 1) := by decide +kernel
theorem dd_M_lose_2 : decode cb_M_lose 2 = .ok (.getfield 91, 3) := by decide +kernel
theorem dd_M_lose_5 : decode cb_M_lose 5 = .ok (.iconst 1, 1) := by decide +kernel
theorem dd_M_lose_6 : decode cb_M_lose 6 = .ok (.isub, 1) := by decide +kernel
theorem dd_M_lose_7 : decode cb_M_lose 7 = .ok (.putfield 91, 3) := by decide +kernel
theorem dd_M_lose_10 : decode cb_M_lose 10 = .ok (.iload_n 1, 1) := by decide +kernel
theorem dd_M_lose_11 : decode cb_M_lose 11 = .ok (.istore_n 2, 1) := by decide +kernel
theorem dd_M_lose_12 : decode cb_M_lose 12 = .ok (.iload_n 2, 1) := by decide +kernel
theorem dd_M_lose_13 : decode cb_M_lose 13 = .ok (.aload_n 0, 1) := by decide +kernel
theorem dd_M_lose_14 : decode cb_M_lose 14 = .ok (.getfield 91, 3) := by decide +kernel
theorem dd_M_lose_17 : decode cb_M_lose 17 = .ok (.if_icmp .ge 121, 3) := by decide +kernel
theorem dd_M_lose_20 : decode cb_M_lose 20 = .ok (.aload_n 0, 1) := by decide +kernel
theorem dd_M_lose_21 : decode cb_M_lose 21 = .ok (.getfield 57, 3) := by decide +kernel
theorem dd_M_lose_24 : decode cb_M_lose 24 = .ok (.iload_n 2, 1) := by decide +kernel
theorem dd_M_lose_25 : decode cb_M_lose 25 = .ok (.aload_n 0, 1) := by decide +kernel
theorem dd_M_lose_26 : decode cb_M_lose 26 = .ok (.getfield 57, 3) := by decide +kernel
theorem dd_M_lose_29 : decode cb_M_lose 29 = .ok (.iload_n 2, 1) := by decide +kernel
theorem dd_M_lose_30 : decode cb_M_lose 30 = .ok (.iconst 1, 1) := by decide +kernel
theorem dd_M_lose_31 : decode cb_M_lose 31 = .ok (.iadd, 1) := by decide +kernel
theorem dd_M_lose_32 : decode cb_M_lose 32 = .ok (.baload, 1) := by decide +kernel
theorem dd_M_lose_33 : decode cb_M_lose 33 = .ok (.bastore, 1) := by decide +kernel
theorem dd_M_lose_34 : decode cb_M_lose 34 = .ok (.aload_n 0, 1) := by decide +kernel
theorem dd_M_lose_35 : decode cb_M_lose 35 = .ok (.getfield 60, 3) := by decide +kernel
theorem dd_M_lose_38 : decode cb_M_lose 38 = .ok (.iload_n 2, 1) := by decide +kernel
theorem dd_M_lose_39 : decode cb_M_lose 39 = .ok (.aload_n 0, 1) := by decide +kernel
theorem dd_M_lose_40 : decode cb_M_lose 40 = .ok (.getfield 60, 3) := by decide +kernel
theorem dd_M_lose_43 : decode cb_M_lose 43 = .ok (.iload_n 2, 1) := by decide +kernel
theorem dd_M_lose_44 : decode cb_M_lose 44 = .ok (.iconst 1, 1) := by decide +kernel
theorem dd_M_lose_45 : decode cb_M_lose 45 = .ok (.iadd, 1) := by decide +kernel
theorem dd_M_lose_46 : decode cb_M_lose 46 = .ok (.baload, 1) := by decide +kernel
theorem dd_M_lose_47 : decode cb_M_lose 47 = .ok (.bastore, 1) := by decide +kernel
theorem dd_M_lose_48 : decode cb_M_lose 48 = .ok (.aload_n 0, 1) := by decide +kernel
theorem dd_M_lose_49 : decode cb_M_lose 49 = .ok (.getfield 63, 3) := by decide +kernel
theorem dd_M_lose_52 : decode cb_M_lose 52 = .ok (.iload_n 2, 1) := by decide +kernel
theorem dd_M_lose_53 : decode cb_M_lose 53 = .ok (.aload_n 0, 1) := by decide +kernel
theorem dd_M_lose_54 : decode cb_M_lose 54 = .ok (.getfield 63, 3) := by decide +kernel
theorem dd_M_lose_57 : decode cb_M_lose 57 = .ok (.iload_n 2, 1) := by decide +kernel
theorem dd_M_lose_58 : decode cb_M_lose 58 = .ok (.iconst 1, 1) := by decide +kernel
theorem dd_M_lose_59 : decode cb_M_lose 59 = .ok (.iadd, 1) := by decide +kernel
theorem dd_M_lose_60 : decode cb_M_lose 60 = .ok (.iaload, 1) := by decide +kernel
theorem dd_M_lose_61 : decode cb_M_lose 61 = .ok (.iastore, 1) := by decide +kernel
theorem dd_M_lose_62 : decode cb_M_lose 62 = .ok (.aload_n 0, 1) := by decide +kernel
theorem dd_M_lose_63 : decode cb_M_lose 63 = .ok (.getfield 66, 3) := by decide +kernel
theorem dd_M_lose_66 : decode cb_M_lose 66 = .ok (.iload_n 2, 1) := by decide +kernel
theorem dd_M_lose_67 : decode cb_M_lose 67 = .ok (.aload_n 0, 1) := by decide +kernel
theorem dd_M_lose_68 : decode cb_M_lose 68 = .ok (.getfield 66, 3) := by decide +kernel
theorem dd_M_lose_71 : decode cb_M_lose 71 = .ok (.iload_n 2, 1) := by decide +kernel
theorem dd_M_lose_72 : decode cb_M_lose 72 = .ok (.iconst 1, 1) := by decide +kernel
theorem dd_M_lose_73 : decode cb_M_lose 73 = .ok (.iadd, 1) := by decide +kernel
theorem dd_M_lose_74 : decode cb_M_lose 74 = .ok (.iaload, 1) := by decide +kernel
theorem dd_M_lose_75 : decode cb_M_lose 75 = .ok (.iastore, 1) := by decide +kernel
theorem dd_M_lose_76 : decode cb_M_lose 76 = .ok (.aload_n 0, 1) := by decide +kernel
theorem dd_M_lose_77 : decode cb_M_lose 77 = .ok (.getfield 69, 3) := by decide +kernel
theorem dd_M_lose_80 : decode cb_M_lose 80 = .ok (.iload_n 2, 1) := by decide +kernel
theorem dd_M_lose_81 : decode cb_M_lose 81 = .ok (.aload_n 0, 1) := by decide +kernel
theorem dd_M_lose_82 : decode cb_M_lose 82 = .ok (.getfield 69, 3) := by decide +kernel
theorem dd_M_lose_85 : decode cb_M_lose 85 = .ok (.iload_n 2, 1) := by decide +kernel
theorem dd_M_lose_86 : decode cb_M_lose 86 = .ok (.iconst 1, 1) := by decide +kernel
theorem dd_M_lose_87 : decode cb_M_lose 87 = .ok (.iadd, 1) := by decide +kernel
theorem dd_M_lose_88 : decode cb_M_lose 88 = .ok (.iaload, 1) := by decide +kernel
theorem dd_M_lose_89 : decode cb_M_lose 89 = .ok (.iastore, 1) := by decide +kernel
theorem dd_M_lose_90 : decode cb_M_lose 90 = .ok (.aload_n 0, 1) := by decide +kernel
theorem dd_M_lose_91 : decode cb_M_lose 91 = .ok (.getfield 72, 3) := by decide +kernel
theorem dd_M_lose_94 : decode cb_M_lose 94 = .ok (.iload_n 2, 1) := by decide +kernel
theorem dd_M_lose_95 : decode cb_M_lose 95 = .ok (.aload_n 0, 1) := by decide +kernel
theorem dd_M_lose_96 : decode cb_M_lose 96 = .ok (.getfield 72, 3) := by decide +kernel
theorem dd_M_lose_99 : decode cb_M_lose 99 = .ok (.iload_n 2, 1) := by decide +kernel
theorem dd_M_lose_100 : decode cb_M_lose 100 = .ok (.iconst 1, 1) := by decide +kernel
theorem dd_M_lose_101 : decode cb_M_lose 101 = .ok (.iadd, 1) := by decide +kernel
theorem dd_M_lose_102 : decode cb_M_lose 102 = .ok (.iaload, 1) := by decide +kernel
theorem dd_M_lose_103 : decode cb_M_lose 103 = .ok (.iastore, 1) := by decide +kernel
theorem dd_M_lose_104 : decode cb_M_lose 104 = .ok (.aload_n 0, 1) := by decide +kernel
theorem dd_M_lose_105 : decode cb_M_lose 105 = .ok (.getfield 75, 3) := by decide +kernel
theorem dd_M_lose_108 : decode cb_M_lose 108 = .ok (.iload_n 2, 1) := by decide +kernel
theorem dd_M_lose_109 : decode cb_M_lose 109 = .ok (.aload_n 0, 1) := by decide +kernel
theorem dd_M_lose_110 : decode cb_M_lose 110 = .ok (.getfield 75, 3) := by decide +kernel
theorem dd_M_lose_113 : decode cb_M_lose 113 = .ok (.iload_n 2, 1) := by decide +kernel
theorem dd_M_lose_114 : decode cb_M_lose 114 = .ok (.iconst 1, 1) := by decide +kernel
theorem dd_M_lose_115 : decode cb_M_lose 115 = .ok (.iadd, 1) := by decide +kernel
theorem dd_M_lose_116 : decode cb_M_lose 116 = .ok (.iaload, 1) := by decide +kernel
theorem dd_M_lose_117 : decode cb_M_lose 117 = .ok (.iastore, 1) := by decide +kernel
theorem dd_M_lose_118 : decode cb_M_lose 118 = .ok (.aload_n 0, 1) := by decide +kernel
theorem dd_M_lose_119 : decode cb_M_lose 119 = .ok (.getfield 78, 3) := by decide +kernel
theorem dd_M_lose_122 : decode cb_M_lose 122 = .ok (.iload_n 2, 1) := by decide +kernel
theorem dd_M_lose_123 : decode cb_M_lose 123 = .ok (.aload_n 0, 1) := by decide +kernel
theorem dd_M_lose_124 : decode cb_M_lose 124 = .ok (.getfield 78, 3) := by decide +kernel
theorem dd_M_lose_127 : decode cb_M_lose 127 = .ok (.iload_n 2, 1) := by decide +kernel
theorem dd_M_lose_128 : decode cb_M_lose 128 = .ok (.iconst 1, 1) := by decide +kernel
theorem dd_M_lose_129 : decode cb_M_lose 129 = .ok (.iadd, 1) := by decide +kernel
theorem dd_M_lose_130 : decode cb_M_lose 130 = .ok (.laload, 1) := by decide +kernel
theorem dd_M_lose_131 : decode cb_M_lose 131 = .ok (.lastore, 1) := by decide +kernel
theorem dd_M_lose_132 : decode cb_M_lose 132 = .ok (.iinc 2 1, 3) := by decide +kernel
theorem dd_M_lose_135 : decode cb_M_lose 135 = .ok (.goto (-123), 3) := by decide +kernel
theorem dd_M_lose_138 : decode cb_M_lose 138 = .ok (.return_, 1) := by decide +kernel
theorem dd_M_count_0 : decode cb_M_count 0 = .ok (.iconst 0, 1) := by decide +kernel
theorem dd_M_count_1 : decode cb_M_count 1 = .ok (.istore 4, 2) := by decide +kernel
theorem dd_M_count_3 : decode cb_M_count 3 = .ok (.iconst 0, 1) := by decide +kernel
theorem dd_M_count_4 : decode cb_M_count 4 = .ok (.istore 5, 2) := by decide +kernel
theorem dd_M_count_6 : decode cb_M_count 6 = .ok (.iload 5, 2) := by decide +kernel
theorem dd_M_count_8 : decode cb_M_count 8 = .ok (.aload_n 0, 1) := by decide +kernel
theorem dd_M_count_9 : decode cb_M_count 9 = .ok (.getfield 91, 3) := by decide +kernel
theorem dd_M_count_12 : decode cb_M_count 12 = .ok (.if_icmp .ge 45, 3) := by decide +kernel
theorem dd_M_count_15 : decode cb_M_count 15 = .ok (.aload_n 0, 1) := by decide +kernel
theorem dd_M_count_16 : decode cb_M_count 16 = .ok (.getfield 57, 3) := by decide +kernel
theorem dd_M_count_19 : decode cb_M_count 19 = .ok (.iload 5, 2) := by decide +kernel
theorem dd_M_count_21 : decode cb_M_count 21 = .ok (.baload, 1) := by decide +kernel
theorem dd_M_count_22 : decode cb_M_count 22 = .ok (.iload_n 1, 1) := by decide +kernel
theorem dd_M_count_23 : decode cb_M_count 23 = .ok (.if_icmp .ne 28, 3) := by decide +kernel
theorem dd_M_count_26 : decode cb_M_count 26 = .ok (.aload_n 0, 1) := by decide +kernel
theorem dd_M_count_27 : decode cb_M_count 27 = .ok (.getfield 63, 3) := by decide +kernel
theorem dd_M_count_30 : decode cb_M_count 30 = .ok (.iload 5, 2) := by decide +kernel
theorem dd_M_count_32 : decode cb_M_count 32 = .ok (.iaload, 1) := by decide +kernel
theorem dd_M_count_33 : decode cb_M_count 33 = .ok (.iload_n 2, 1) := by decide +kernel
theorem dd_M_count_34 : decode cb_M_count 34 = .ok (.if_icmp .ne 17, 3) := by decide +kernel
theorem dd_M_count_37 : decode cb_M_count 37 = .ok (.aload_n 0, 1) := by decide +kernel
theorem dd_M_count_38 : decode cb_M_count 38 = .ok (.getfield 66, 3) := by decide +kernel
theorem dd_M_count_41 : decode cb_M_count 41 = .ok (.iload 5, 2) := by decide +kernel
theorem dd_M_count_43 : decode cb_M_count 43 = .ok (.iaload, 1) := by decide +kernel
theorem dd_M_count_44 : decode cb_M_count 44 = .ok (.iload_n 3, 1) := by decide +kernel
theorem dd_M_count_45 : decode cb_M_count 45 = .ok (.if_icmp .ne 6, 3) := by decide +kernel
theorem dd_M_count_48 : decode cb_M_count 48 = .ok (.iinc 4 1, 3) := by decide +kernel
theorem dd_M_count_51 : decode cb_M_count 51 = .ok (.iinc 5 1, 3) := by decide +kernel
theorem dd_M_count_54 : decode cb_M_count 54 = .ok (.goto (-48), 3) := by decide +kernel
theorem dd_M_count_57 : decode cb_M_count 57 = .ok (.iload 4, 2) := by decide +kernel
theorem dd_M_count_59 : decode cb_M_count 59 = .ok (.ireturn, 1) := by decide +kernel
theorem dd_M_seek_0 : decode cb_M_seek 0 = .ok (.iconst 0, 1) := by decide +kernel
theorem dd_M_seek_1 : decode cb_M_seek 1 = .ok (.istore 5, 2) := by decide +kernel
theorem dd_M_seek_3 : decode cb_M_seek 3 = .ok (.iconst 0, 1) := by decide +kernel
theorem dd_M_seek_4 : decode cb_M_seek 4 = .ok (.istore 6, 2) := by decide +kernel
theorem dd_M_seek_6 : decode cb_M_seek 6 = .ok (.iload 6, 2) := by decide +kernel
theorem dd_M_seek_8 : decode cb_M_seek 8 = .ok (.aload_n 0, 1) := by decide +kernel
theorem dd_M_seek_9 : decode cb_M_seek 9 = .ok (.getfield 91, 3) := by decide +kernel
theorem dd_M_seek_12 : decode cb_M_seek 12 = .ok (.if_icmp .ge 55, 3) := by decide +kernel
theorem dd_M_seek_15 : decode cb_M_seek 15 = .ok (.aload_n 0, 1) := by decide +kernel
theorem dd_M_seek_16 : decode cb_M_seek 16 = .ok (.getfield 57, 3) := by decide +kernel
theorem dd_M_seek_19 : decode cb_M_seek 19 = .ok (.iload 6, 2) := by decide +kernel
theorem dd_M_seek_21 : decode cb_M_seek 21 = .ok (.baload, 1) := by decide +kernel
theorem dd_M_seek_22 : decode cb_M_seek 22 = .ok (.iload_n 1, 1) := by decide +kernel
theorem dd_M_seek_23 : decode cb_M_seek 23 = .ok (.if_icmp .ne 38, 3) := by decide +kernel
theorem dd_M_seek_26 : decode cb_M_seek 26 = .ok (.aload_n 0, 1) := by decide +kernel
theorem dd_M_seek_27 : decode cb_M_seek 27 = .ok (.getfield 63, 3) := by decide +kernel
theorem dd_M_seek_30 : decode cb_M_seek 30 = .ok (.iload 6, 2) := by decide +kernel
theorem dd_M_seek_32 : decode cb_M_seek 32 = .ok (.iaload, 1) := by decide +kernel
theorem dd_M_seek_33 : decode cb_M_seek 33 = .ok (.iload_n 2, 1) := by decide +kernel
theorem dd_M_seek_34 : decode cb_M_seek 34 = .ok (.if_icmp .ne 27, 3) := by decide +kernel
theorem dd_M_seek_37 : decode cb_M_seek 37 = .ok (.aload_n 0, 1) := by decide +kernel
theorem dd_M_seek_38 : decode cb_M_seek 38 = .ok (.getfield 66, 3) := by decide +kernel
theorem dd_M_seek_41 : decode cb_M_seek 41 = .ok (.iload 6, 2) := by decide +kernel
theorem dd_M_seek_43 : decode cb_M_seek 43 = .ok (.iaload, 1) := by decide +kernel
theorem dd_M_seek_44 : decode cb_M_seek 44 = .ok (.iload_n 3, 1) := by decide +kernel
theorem dd_M_seek_45 : decode cb_M_seek 45 = .ok (.if_icmp .ne 16, 3) := by decide +kernel
theorem dd_M_seek_48 : decode cb_M_seek 48 = .ok (.iload 5, 2) := by decide +kernel
theorem dd_M_seek_50 : decode cb_M_seek 50 = .ok (.iload 4, 2) := by decide +kernel
theorem dd_M_seek_52 : decode cb_M_seek 52 = .ok (.if_icmp .ne 6, 3) := by decide +kernel
theorem dd_M_seek_55 : decode cb_M_seek 55 = .ok (.iload 6, 2) := by decide +kernel
theorem dd_M_seek_57 : decode cb_M_seek 57 = .ok (.ireturn, 1) := by decide +kernel
theorem dd_M_seek_58 : decode cb_M_seek 58 = .ok (.iinc 5 1, 3) := by decide +kernel
theorem dd_M_seek_61 : decode cb_M_seek 61 = .ok (.iinc 6 1, 3) := by decide +kernel
theorem dd_M_seek_64 : decode cb_M_seek 64 = .ok (.goto (-58), 3) := by decide +kernel
theorem dd_M_seek_67 : decode cb_M_seek 67 = .ok (.iconst (-1), 1) := by decide +kernel
