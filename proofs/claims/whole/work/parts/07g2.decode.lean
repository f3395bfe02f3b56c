theorem dd_M_deliver_64 : decode cb_M_deliver 64 = .ok (.getfield 69, 3) := by decide +kernel
theorem dd_M_deliver_67 : decode cb_M_deliver 67 = .ok (.iload 4, 2) := by decide +kernel
theorem dd_M_deliver_69 : decode cb_M_deliver 69 = .ok (.iaload, 1) := by decide +kernel
theorem dd_M_deliver_70 : decode cb_M_deliver 70 = .ok (.istore 9, 2) := by decide +kernel
theorem dd_M_deliver_72 : decode cb_M_deliver 72 = .ok (.aload_n 0, 1) := by decide +kernel
theorem dd_M_deliver_73 : decode cb_M_deliver 73 = .ok (.iload 4, 2) := by decide +kernel
theorem dd_M_deliver_75 : decode cb_M_deliver 75 = .ok (.invokevirtual 132, 3) := by decide +kernel
theorem dd_M_deliver_78 : decode cb_M_deliver 78 = .ok (.iload 5, 2) := by decide +kernel
theorem dd_M_deliver_80 : decode cb_M_deliver 80 = .ok (.iconst 2, 1) := by decide +kernel
theorem dd_M_deliver_81 : decode cb_M_deliver 81 = .ok (.if_icmp .ne 12, 3) := by decide +kernel
theorem dd_M_deliver_84 : decode cb_M_deliver 84 = .ok (.aload_n 0, 1) := by decide +kernel
theorem dd_M_deliver_85 : decode cb_M_deliver 85 = .ok (.iload_n 2, 1) := by decide +kernel
theorem dd_M_deliver_86 : decode cb_M_deliver 86 = .ok (.iload 6, 2) := by decide +kernel
theorem dd_M_deliver_88 : decode cb_M_deliver 88 = .ok (.lload 7, 2) := by decide +kernel
theorem dd_M_deliver_90 : decode cb_M_deliver 90 = .ok (.invokevirtual 136, 3) := by decide +kernel
theorem dd_M_deliver_93 : decode cb_M_deliver 93 = .ok (.iload 5, 2) := by decide +kernel
theorem dd_M_deliver_95 : decode cb_M_deliver 95 = .ok (.iconst 3, 1) := by decide +kernel
theorem dd_M_deliver_96 : decode cb_M_deliver 96 = .ok (.if_icmp .eq 9, 3) := by decide +kernel
theorem dd_M_deliver_99 : decode cb_M_deliver 99 = .ok (.iload 5, 2) := by decide +kernel
theorem dd_M_deliver_101 : decode cb_M_deliver 101 = .ok (.iconst 5, 1) := by decide +kernel
theorem dd_M_deliver_102 : decode cb_M_deliver 102 = .ok (.if_icmp .ne 22, 3) := by decide +kernel
theorem dd_M_deliver_105 : decode cb_M_deliver 105 = .ok (.iload 6, 2) := by decide +kernel
theorem dd_M_deliver_107 : decode cb_M_deliver 107 = .ok (.aload_n 0, 1) := by decide +kernel
theorem dd_M_deliver_108 : decode cb_M_deliver 108 = .ok (.getfield 45, 3) := by decide +kernel
theorem dd_M_deliver_111 : decode cb_M_deliver 111 = .ok (.iload_n 2, 1) := by decide +kernel
theorem dd_M_deliver_112 : decode cb_M_deliver 112 = .ok (.iaload, 1) := by decide +kernel
theorem dd_M_deliver_113 : decode cb_M_deliver 113 = .ok (.if_icmp .le 11, 3) := by decide +kernel
theorem dd_M_deliver_116 : decode cb_M_deliver 116 = .ok (.aload_n 0, 1) := by decide +kernel
theorem dd_M_deliver_117 : decode cb_M_deliver 117 = .ok (.getfield 45, 3) := by decide +kernel
theorem dd_M_deliver_120 : decode cb_M_deliver 120 = .ok (.iload_n 2, 1) := by decide +kernel
theorem dd_M_deliver_121 : decode cb_M_deliver 121 = .ok (.iload 6, 2) := by decide +kernel
theorem dd_M_deliver_123 : decode cb_M_deliver 123 = .ok (.iastore, 1) := by decide +kernel
theorem dd_M_deliver_124 : decode cb_M_deliver 124 = .ok (.iload 5, 2) := by decide +kernel
theorem dd_M_deliver_126 : decode cb_M_deliver 126 = .ok (.iconst 5, 1) := by decide +kernel
theorem dd_M_deliver_127 : decode cb_M_deliver 127 = .ok (.if_icmp .ne 13, 3) := by decide +kernel
theorem dd_M_deliver_130 : decode cb_M_deliver 130 = .ok (.aload_n 0, 1) := by decide +kernel
theorem dd_M_deliver_131 : decode cb_M_deliver 131 = .ok (.iload_n 2, 1) := by decide +kernel
theorem dd_M_deliver_132 : decode cb_M_deliver 132 = .ok (.iload 6, 2) := by decide +kernel
theorem dd_M_deliver_134 : decode cb_M_deliver 134 = .ok (.invokevirtual 124, 3) := by decide +kernel
theorem dd_M_deliver_137 : decode cb_M_deliver 137 = .ok (.goto 4, 3) := by decide +kernel
theorem dd_M_deliver_140 : decode cb_M_deliver 140 = .ok (.iconst (-1), 1) := by decide +kernel
theorem dd_M_deliver_141 : decode cb_M_deliver 141 = .ok (.istore 10, 2) := by decide +kernel
theorem dd_M_deliver_143 : decode cb_M_deliver 143 = .ok (.aload_n 0, 1) := by decide +kernel
theorem dd_M_deliver_144 : decode cb_M_deliver 144 = .ok (.iconst 1, 1) := by decide +kernel
theorem dd_M_deliver_145 : decode cb_M_deliver 145 = .ok (.iload_n 1, 1) := by decide +kernel
theorem dd_M_deliver_146 : decode cb_M_deliver 146 = .ok (.iload_n 2, 1) := by decide +kernel
theorem dd_M_deliver_147 : decode cb_M_deliver 147 = .ok (.iload 5, 2) := by decide +kernel
theorem dd_M_deliver_149 : decode cb_M_deliver 149 = .ok (.iload 9, 2) := by decide +kernel
theorem dd_M_deliver_151 : decode cb_M_deliver 151 = .ok (.invokevirtual 105, 3) := by decide +kernel
theorem dd_M_deliver_154 : decode cb_M_deliver 154 = .ok (.aload_n 0, 1) := by decide +kernel
theorem dd_M_deliver_155 : decode cb_M_deliver 155 = .ok (.getfield 75, 3) := by decide +kernel
theorem dd_M_deliver_158 : decode cb_M_deliver 158 = .ok (.aload_n 0, 1) := by decide +kernel
theorem dd_M_deliver_159 : decode cb_M_deliver 159 = .ok (.getfield 91, 3) := by decide +kernel
theorem dd_M_deliver_162 : decode cb_M_deliver 162 = .ok (.iconst 1, 1) := by decide +kernel
theorem dd_M_deliver_163 : decode cb_M_deliver 163 = .ok (.isub, 1) := by decide +kernel
theorem dd_M_deliver_164 : decode cb_M_deliver 164 = .ok (.aload_n 0, 1) := by decide +kernel
theorem dd_M_deliver_165 : decode cb_M_deliver 165 = .ok (.getfield 45, 3) := by decide +kernel
theorem dd_M_deliver_168 : decode cb_M_deliver 168 = .ok (.iload_n 2, 1) := by decide +kernel
theorem dd_M_deliver_169 : decode cb_M_deliver 169 = .ok (.iaload, 1) := by decide +kernel
theorem dd_M_deliver_170 : decode cb_M_deliver 170 = .ok (.iastore, 1) := by decide +kernel
theorem dd_M_deliver_171 : decode cb_M_deliver 171 = .ok (.aload_n 0, 1) := by decide +kernel
theorem dd_M_deliver_172 : decode cb_M_deliver 172 = .ok (.getfield 60, 3) := by decide +kernel
theorem dd_M_deliver_175 : decode cb_M_deliver 175 = .ok (.aload_n 0, 1) := by decide +kernel
theorem dd_M_deliver_176 : decode cb_M_deliver 176 = .ok (.getfield 91, 3) := by decide +kernel
theorem dd_M_deliver_179 : decode cb_M_deliver 179 = .ok (.iconst 1, 1) := by decide +kernel
theorem dd_M_deliver_180 : decode cb_M_deliver 180 = .ok (.isub, 1) := by decide +kernel
theorem dd_M_deliver_181 : decode cb_M_deliver 181 = .ok (.iload 10, 2) := by decide +kernel
theorem dd_M_deliver_183 : decode cb_M_deliver 183 = .ok (.ifCond .lt 7, 3) := by decide +kernel
theorem dd_M_deliver_186 : decode cb_M_deliver 186 = .ok (.iconst 1, 1) := by decide +kernel
theorem dd_M_deliver_187 : decode cb_M_deliver 187 = .ok (.goto 4, 3) := by decide +kernel
theorem dd_M_deliver_190 : decode cb_M_deliver 190 = .ok (.iconst 0, 1) := by decide +kernel
theorem dd_M_deliver_191 : decode cb_M_deliver 191 = .ok (.bastore, 1) := by decide +kernel
theorem dd_M_deliver_192 : decode cb_M_deliver 192 = .ok (.aload_n 0, 1) := by decide +kernel
theorem dd_M_deliver_193 : decode cb_M_deliver 193 = .ok (.getfield 78, 3) := by decide +kernel
theorem dd_M_deliver_196 : decode cb_M_deliver 196 = .ok (.aload_n 0, 1) := by decide +kernel
theorem dd_M_deliver_197 : decode cb_M_deliver 197 = .ok (.getfield 91, 3) := by decide +kernel
theorem dd_M_deliver_200 : decode cb_M_deliver 200 = .ok (.iconst 1, 1) := by decide +kernel
theorem dd_M_deliver_201 : decode cb_M_deliver 201 = .ok (.isub, 1) := by decide +kernel
theorem dd_M_deliver_202 : decode cb_M_deliver 202 = .ok (.iload 10, 2) := by decide +kernel
theorem dd_M_deliver_204 : decode cb_M_deliver 204 = .ok (.ifCond .lt 13, 3) := by decide +kernel
theorem dd_M_deliver_207 : decode cb_M_deliver 207 = .ok (.aload_n 0, 1) := by decide +kernel
theorem dd_M_deliver_208 : decode cb_M_deliver 208 = .ok (.getfield 54, 3) := by decide +kernel
theorem dd_M_deliver_211 : decode cb_M_deliver 211 = .ok (.iload 10, 2) := by decide +kernel
theorem dd_M_deliver_213 : decode cb_M_deliver 213 = .ok (.laload, 1) := by decide +kernel
theorem dd_M_deliver_214 : decode cb_M_deliver 214 = .ok (.goto 4, 3) := by decide +kernel
theorem dd_M_deliver_217 : decode cb_M_deliver 217 = .ok (.lconst 0, 1) := by decide +kernel
theorem dd_M_deliver_218 : decode cb_M_deliver 218 = .ok (.lastore, 1) := by decide +kernel
theorem dd_M_deliver_219 : decode cb_M_deliver 219 = .ok (.iload 5, 2) := by decide +kernel
theorem dd_M_deliver_221 : decode cb_M_deliver 221 = .ok (.ireturn, 1) := by decide +kernel
theorem dd_M_hear_0 : decode cb_M_hear 0 = .ok (.aload_n 0, 1) := by decide +kernel
theorem dd_M_hear_1 : decode cb_M_hear 1 = .ok (.iload_n 1, 1) := by decide +kernel
theorem dd_M_hear_2 : decode cb_M_hear 2 = .ok (.invokevirtual 94, 3) := by decide +kernel
theorem dd_M_hear_5 : decode cb_M_hear 5 = .ok (.ifCond .ne 11, 3) := by decide +kernel
theorem dd_M_hear_8 : decode cb_M_hear 8 = .ok (.aload_n 0, 1) := by decide +kernel
theorem dd_M_hear_9 : decode cb_M_hear 9 = .ok (.iload_n 2, 1) := by decide +kernel
theorem dd_M_hear_10 : decode cb_M_hear 10 = .ok (.invokevirtual 98, 3) := by decide +kernel
theorem dd_M_hear_13 : decode cb_M_hear 13 = .ok (.ifCond .eq 5, 3) := by decide +kernel
theorem dd_M_hear_16 : decode cb_M_hear 16 = .ok (.iconst (-1), 1) := by decide +kernel
theorem dd_M_hear_17 : decode cb_M_hear 17 = .ok (.ireturn, 1) := by decide +kernel
theorem dd_M_hear_18 : decode cb_M_hear 18 = .ok (.aload_n 0, 1) := by decide +kernel
theorem dd_M_hear_19 : decode cb_M_hear 19 = .ok (.iconst 1, 1) := by decide +kernel
theorem dd_M_hear_20 : decode cb_M_hear 20 = .ok (.iload_n 1, 1) := by decide +kernel
theorem dd_M_hear_21 : decode cb_M_hear 21 = .ok (.iload_n 2, 1) := by decide +kernel
theorem dd_M_hear_22 : decode cb_M_hear 22 = .ok (.iload_n 3, 1) := by decide +kernel
theorem dd_M_hear_23 : decode cb_M_hear 23 = .ok (.invokevirtual 128, 3) := by decide +kernel
theorem dd_M_hear_26 : decode cb_M_hear 26 = .ok (.istore 4, 2) := by decide +kernel
theorem dd_M_hear_28 : decode cb_M_hear 28 = .ok (.iload 4, 2) := by decide +kernel
theorem dd_M_hear_30 : decode cb_M_hear 30 = .ok (.ifCond .ge 6, 3) := by decide +kernel
theorem dd_M_hear_33 : decode cb_M_hear 33 = .ok (.bipush (-2), 2) := by decide +kernel
theorem dd_M_hear_35 : decode cb_M_hear 35 = .ok (.ireturn, 1) := by decide +kernel
theorem dd_M_hear_36 : decode cb_M_hear 36 = .ok (.aload_n 0, 1) := by decide +kernel
theorem dd_M_hear_37 : decode cb_M_hear 37 = .ok (.getfield 7, 3) := by decide +kernel
theorem dd_M_hear_40 : decode cb_M_hear 40 = .ok (.iload_n 1, 1) := by decide +kernel
theorem dd_M_hear_41 : decode cb_M_hear 41 = .ok (.iaload, 1) := by decide +kernel
theorem dd_M_hear_42 : decode cb_M_hear 42 = .ok (.ifCond .eq 34, 3) := by decide +kernel
theorem dd_M_hear_45 : decode cb_M_hear 45 = .ok (.aload_n 0, 1) := by decide +kernel
theorem dd_M_hear_46 : decode cb_M_hear 46 = .ok (.getfield 7, 3) := by decide +kernel
theorem dd_M_hear_49 : decode cb_M_hear 49 = .ok (.iload_n 1, 1) := by decide +kernel
theorem dd_M_hear_50 : decode cb_M_hear 50 = .ok (.iaload, 1) := by decide +kernel
theorem dd_M_hear_51 : decode cb_M_hear 51 = .ok (.bipush 6, 2) := by decide +kernel
theorem dd_M_hear_53 : decode cb_M_hear 53 = .ok (.if_icmp .eq 23, 3) := by decide +kernel
theorem dd_M_hear_56 : decode cb_M_hear 56 = .ok (.aload_n 0, 1) := by decide +kernel
theorem dd_M_hear_57 : decode cb_M_hear 57 = .ok (.getfield 69, 3) := by decide +kernel
theorem dd_M_hear_60 : decode cb_M_hear 60 = .ok (.iload 4, 2) := by decide +kernel
theorem dd_M_hear_62 : decode cb_M_hear 62 = .ok (.iaload, 1) := by decide +kernel
theorem dd_M_hear_63 : decode cb_M_hear 63 = .ok (.aload_n 0, 1) := by decide +kernel
theorem dd_M_hear_64 : decode cb_M_hear 64 = .ok (.getfield 13, 3) := by decide +kernel
theorem dd_M_hear_67 : decode cb_M_hear 67 = .ok (.iload_n 1, 1) := by decide +kernel
theorem dd_M_hear_68 : decode cb_M_hear 68 = .ok (.iaload, 1) := by decide +kernel
theorem dd_M_hear_69 : decode cb_M_hear 69 = .ok (.if_icmp .ne 7, 3) := by decide +kernel
theorem dd_M_hear_72 : decode cb_M_hear 72 = .ok (.iconst 1, 1) := by decide +kernel
theorem dd_M_hear_73 : decode cb_M_hear 73 = .ok (.goto 4, 3) := by decide +kernel
theorem dd_M_hear_76 : decode cb_M_hear 76 = .ok (.iconst 0, 1) := by decide +kernel
theorem dd_M_hear_77 : decode cb_M_hear 77 = .ok (.istore 5, 2) := by decide +kernel
theorem dd_M_hear_79 : decode cb_M_hear 79 = .ok (.aload_n 0, 1) := by decide +kernel
theorem dd_M_hear_80 : decode cb_M_hear 80 = .ok (.getfield 75, 3) := by decide +kernel
theorem dd_M_hear_83 : decode cb_M_hear 83 = .ok (.iload 4, 2) := by decide +kernel
theorem dd_M_hear_85 : decode cb_M_hear 85 = .ok (.iaload, 1) := by decide +kernel
theorem dd_M_hear_86 : decode cb_M_hear 86 = .ok (.istore 6, 2) := by decide +kernel
theorem dd_M_hear_88 : decode cb_M_hear 88 = .ok (.aload_n 0, 1) := by decide +kernel
theorem dd_M_hear_89 : decode cb_M_hear 89 = .ok (.getfield 60, 3) := by decide +kernel
theorem dd_M_hear_92 : decode cb_M_hear 92 = .ok (.iload 4, 2) := by decide +kernel
theorem dd_M_hear_94 : decode cb_M_hear 94 = .ok (.baload, 1) := by decide +kernel
theorem dd_M_hear_95 : decode cb_M_hear 95 = .ok (.istore 7, 2) := by decide +kernel
theorem dd_M_hear_97 : decode cb_M_hear 97 = .ok (.aload_n 0, 1) := by decide +kernel
theorem dd_M_hear_98 : decode cb_M_hear 98 = .ok (.getfield 78, 3) := by decide +kernel
theorem dd_M_hear_101 : decode cb_M_hear 101 = .ok (.iload 4, 2) := by decide +kernel
theorem dd_M_hear_103 : decode cb_M_hear 103 = .ok (.laload, 1) := by decide +kernel
theorem dd_M_hear_104 : decode cb_M_hear 104 = .ok (.lstore 8, 2) := by decide +kernel
theorem dd_M_hear_106 : decode cb_M_hear 106 = .ok (.aload_n 0, 1) := by decide +kernel
theorem dd_M_hear_107 : decode cb_M_hear 107 = .ok (.iload 4, 2) := by decide +kernel
theorem dd_M_hear_109 : decode cb_M_hear 109 = .ok (.invokevirtual 132, 3) := by decide +kernel
theorem dd_M_hear_112 : decode cb_M_hear 112 = .ok (.iload 5, 2) := by decide +kernel
theorem dd_M_hear_114 : decode cb_M_hear 114 = .ok (.ifCond .ne 5, 3) := by decide +kernel
theorem dd_M_hear_117 : decode cb_M_hear 117 = .ok (.iconst 0, 1) := by decide +kernel
theorem dd_M_hear_118 : decode cb_M_hear 118 = .ok (.ireturn, 1) := by decide +kernel
theorem dd_M_hear_119 : decode cb_M_hear 119 = .ok (.aload_n 0, 1) := by decide +kernel
theorem dd_M_hear_120 : decode cb_M_hear 120 = .ok (.getfield 16, 3) := by decide +kernel
theorem dd_M_hear_123 : decode cb_M_hear 123 = .ok (.iload_n 1, 1) := by decide +kernel
theorem dd_M_hear_124 : decode cb_M_hear 124 = .ok (.dup2, 1) := by decide +kernel
theorem dd_M_hear_125 : decode cb_M_hear 125 = .ok (.iaload, 1) := by decide +kernel
theorem dd_M_hear_126 : decode cb_M_hear 126 = .ok (.iconst 1, 1) := by decide +kernel
theorem dd_M_hear_127 : decode cb_M_hear 127 = .ok (.iadd, 1) := by decide +kernel
theorem dd_M_hear_128 : decode cb_M_hear 128 = .ok (.iastore, 1) := by decide +kernel
theorem dd_M_hear_129 : decode cb_M_hear 129 = .ok (.aload_n 0, 1) := by decide +kernel
theorem dd_M_hear_130 : decode cb_M_hear 130 = .ok (.getfield 22, 3) := by decide +kernel
theorem dd_M_hear_133 : decode cb_M_hear 133 = .ok (.iload_n 1, 1) := by decide +kernel
theorem dd_M_hear_134 : decode cb_M_hear 134 = .ok (.iload 6, 2) := by decide +kernel
theorem dd_M_hear_136 : decode cb_M_hear 136 = .ok (.aload_n 0, 1) := by decide +kernel
theorem dd_M_hear_137 : decode cb_M_hear 137 = .ok (.getfield 22, 3) := by decide +kernel
theorem dd_M_hear_140 : decode cb_M_hear 140 = .ok (.iload_n 1, 1) := by decide +kernel
theorem dd_M_hear_141 : decode cb_M_hear 141 = .ok (.iaload, 1) := by decide +kernel
theorem dd_M_hear_142 : decode cb_M_hear 142 = .ok (.if_icmp .le 8, 3) := by decide +kernel
theorem dd_M_hear_145 : decode cb_M_hear 145 = .ok (.iload 6, 2) := by decide +kernel
theorem dd_M_hear_147 : decode cb_M_hear 147 = .ok (.goto 9, 3) := by decide +kernel
theorem dd_M_hear_150 : decode cb_M_hear 150 = .ok (.aload_n 0, 1) := by decide +kernel
theorem dd_M_hear_151 : decode cb_M_hear 151 = .ok (.getfield 22, 3) := by decide +kernel
theorem dd_M_hear_154 : decode cb_M_hear 154 = .ok (.iload_n 1, 1) := by decide +kernel
theorem dd_M_hear_155 : decode cb_M_hear 155 = .ok (.iaload, 1) := by decide +kernel
theorem dd_M_hear_156 : decode cb_M_hear 156 = .ok (.iastore, 1) := by decide +kernel
theorem dd_M_hear_157 : decode cb_M_hear 157 = .ok (.iload 7, 2) := by decide +kernel
theorem dd_M_hear_159 : decode cb_M_hear 159 = .ok (.ifCond .eq 21, 3) := by decide +kernel
theorem dd_M_hear_162 : decode cb_M_hear 162 = .ok (.aload_n 0, 1) := by decide +kernel
theorem dd_M_hear_163 : decode cb_M_hear 163 = .ok (.getfield 19, 3) := by decide +kernel
theorem dd_M_hear_166 : decode cb_M_hear 166 = .ok (.iload_n 1, 1) := by decide +kernel
theorem dd_M_hear_167 : decode cb_M_hear 167 = .ok (.dup2, 1) := by decide +kernel
theorem dd_M_hear_168 : decode cb_M_hear 168 = .ok (.iaload, 1) := by decide +kernel
theorem dd_M_hear_169 : decode cb_M_hear 169 = .ok (.iconst 1, 1) := by decide +kernel
theorem dd_M_hear_170 : decode cb_M_hear 170 = .ok (.iadd, 1) := by decide +kernel
theorem dd_M_hear_171 : decode cb_M_hear 171 = .ok (.iastore, 1) := by decide +kernel
theorem dd_M_hear_172 : decode cb_M_hear 172 = .ok (.aload_n 0, 1) := by decide +kernel
theorem dd_M_hear_173 : decode cb_M_hear 173 = .ok (.getfield 35, 3) := by decide +kernel
theorem dd_M_hear_176 : decode cb_M_hear 176 = .ok (.iload_n 1, 1) := by decide +kernel
theorem dd_M_hear_177 : decode cb_M_hear 177 = .ok (.lload 8, 2) := by decide +kernel
theorem dd_M_hear_179 : decode cb_M_hear 179 = .ok (.lastore, 1) := by decide +kernel
theorem dd_M_hear_180 : decode cb_M_hear 180 = .ok (.aload_n 0, 1) := by decide +kernel
theorem dd_M_hear_181 : decode cb_M_hear 181 = .ok (.iload_n 1, 1) := by decide +kernel
theorem dd_M_hear_182 : decode cb_M_hear 182 = .ok (.invokevirtual 140, 3) := by decide +kernel
theorem dd_M_hear_185 : decode cb_M_hear 185 = .ok (.ireturn, 1) := by decide +kernel
theorem dd_M_onwards_0 : decode cb_M_onwards 0 = .ok (.aload_n 0, 1) := by decide +kernel
theorem dd_M_onwards_1 : decode cb_M_onwards 1 = .ok (.getfield 7, 3) := by decide +kernel
theorem dd_M_onwards_4 : decode cb_M_onwards 4 = .ok (.iload_n 1, 1) := by decide +kernel
theorem dd_M_onwards_5 : decode cb_M_onwards 5 = .ok (.iaload, 1) := by decide +kernel
theorem dd_M_onwards_6 : decode cb_M_onwards 6 = .ok (.istore_n 2, 1) := by decide +kernel
theorem dd_M_onwards_7 : decode cb_M_onwards 7 = .ok (.aload_n 0, 1) := by decide +kernel
theorem dd_M_onwards_8 : decode cb_M_onwards 8 = .ok (.getfield 16, 3) := by decide +kernel
theorem dd_M_onwards_11 : decode cb_M_onwards 11 = .ok (.iload_n 1, 1) := by decide +kernel
theorem dd_M_onwards_12 : decode cb_M_onwards 12 = .ok (.iaload, 1) := by decide +kernel
theorem dd_M_onwards_13 : decode cb_M_onwards 13 = .ok (.aload_n 0, 1) := by decide +kernel
theorem dd_M_onwards_14 : decode cb_M_onwards 14 = .ok (.invokevirtual 120, 3) := by decide +kernel
theorem dd_M_onwards_17 : decode cb_M_onwards 17 = .ok (.if_icmp .lt 21, 3) := by decide +kernel
theorem dd_M_onwards_20 : decode cb_M_onwards 20 = .ok (.iload_n 2, 1) := by decide +kernel
theorem dd_M_onwards_21 : decode cb_M_onwards 21 = .ok (.iconst 5, 1) := by decide +kernel
theorem dd_M_onwards_22 : decode cb_M_onwards 22 = .ok (.if_icmp .ne 18, 3) := by decide +kernel
theorem dd_M_onwards_25 : decode cb_M_onwards 25 = .ok (.aload_n 0, 1) := by decide +kernel
theorem dd_M_onwards_26 : decode cb_M_onwards 26 = .ok (.getfield 19, 3) := by decide +kernel
theorem dd_M_onwards_29 : decode cb_M_onwards 29 = .ok (.iload_n 1, 1) := by decide +kernel
theorem dd_M_onwards_30 : decode cb_M_onwards 30 = .ok (.iaload, 1) := by decide +kernel
theorem dd_M_onwards_31 : decode cb_M_onwards 31 = .ok (.aload_n 0, 1) := by decide +kernel
theorem dd_M_onwards_32 : decode cb_M_onwards 32 = .ok (.getfield 85, 3) := by decide +kernel
theorem dd_M_onwards_35 : decode cb_M_onwards 35 = .ok (.if_icmp .ge 5, 3) := by decide +kernel
theorem dd_M_onwards_38 : decode cb_M_onwards 38 = .ok (.iconst 1, 1) := by decide +kernel
theorem dd_M_onwards_39 : decode cb_M_onwards 39 = .ok (.ireturn, 1) := by decide +kernel
theorem dd_M_onwards_40 : decode cb_M_onwards 40 = .ok (.iload_n 2, 1) := by decide +kernel
theorem dd_M_onwards_41 : decode cb_M_onwards 41 = .ok (.iconst 3, 1) := by decide +kernel
theorem dd_M_onwards_42 : decode cb_M_onwards 42 = .ok (.if_icmp .eq 8, 3) := by decide +kernel
theorem dd_M_onwards_45 : decode cb_M_onwards 45 = .ok (.iload_n 2, 1) := by decide +kernel
theorem dd_M_onwards_46 : decode cb_M_onwards 46 = .ok (.iconst 5, 1) := by decide +kernel
theorem dd_M_onwards_47 : decode cb_M_onwards 47 = .ok (.if_icmp .ne 48, 3) := by decide +kernel
theorem dd_M_onwards_50 : decode cb_M_onwards 50 = .ok (.aload_n 0, 1) := by decide +kernel
theorem dd_M_onwards_51 : decode cb_M_onwards 51 = .ok (.getfield 38, 3) := by decide +kernel
theorem dd_M_onwards_54 : decode cb_M_onwards 54 = .ok (.iload_n 1, 1) := by decide +kernel
theorem dd_M_onwards_55 : decode cb_M_onwards 55 = .ok (.iload_n 2, 1) := by decide +kernel
theorem dd_M_onwards_56 : decode cb_M_onwards 56 = .ok (.iconst 5, 1) := by decide +kernel
theorem dd_M_onwards_57 : decode cb_M_onwards 57 = .ok (.if_icmp .ne 12, 3) := by decide +kernel
theorem dd_M_onwards_60 : decode cb_M_onwards 60 = .ok (.aload_n 0, 1) := by decide +kernel
theorem dd_M_onwards_61 : decode cb_M_onwards 61 = .ok (.getfield 35, 3) := by decide +kernel
theorem dd_M_onwards_64 : decode cb_M_onwards 64 = .ok (.iload_n 1, 1) := by decide +kernel
theorem dd_M_onwards_65 : decode cb_M_onwards 65 = .ok (.laload, 1) := by decide +kernel
theorem dd_M_onwards_66 : decode cb_M_onwards 66 = .ok (.goto 9, 3) := by decide +kernel
theorem dd_M_onwards_69 : decode cb_M_onwards 69 = .ok (.aload_n 0, 1) := by decide +kernel
theorem dd_M_onwards_70 : decode cb_M_onwards 70 = .ok (.getfield 38, 3) := by decide +kernel
theorem dd_M_onwards_73 : decode cb_M_onwards 73 = .ok (.iload_n 1, 1) := by decide +kernel
theorem dd_M_onwards_74 : decode cb_M_onwards 74 = .ok (.laload, 1) := by decide +kernel
theorem dd_M_onwards_75 : decode cb_M_onwards 75 = .ok (.lastore, 1) := by decide +kernel
theorem dd_M_onwards_76 : decode cb_M_onwards 76 = .ok (.aload_n 0, 1) := by decide +kernel
theorem dd_M_onwards_77 : decode cb_M_onwards 77 = .ok (.getfield 7, 3) := by decide +kernel
theorem dd_M_onwards_80 : decode cb_M_onwards 80 = .ok (.iload_n 1, 1) := by decide +kernel
theorem dd_M_onwards_81 : decode cb_M_onwards 81 = .ok (.iconst 0, 1) := by decide +kernel
theorem dd_M_onwards_82 : decode cb_M_onwards 82 = .ok (.iastore, 1) := by decide +kernel
theorem dd_M_onwards_83 : decode cb_M_onwards 83 = .ok (.aload_n 0, 1) := by decide +kernel
theorem dd_M_onwards_84 : decode cb_M_onwards 84 = .ok (.getfield 28, 3) := by decide +kernel
theorem dd_M_onwards_87 : decode cb_M_onwards 87 = .ok (.iload_n 1, 1) := by decide +kernel
theorem dd_M_onwards_88 : decode cb_M_onwards 88 = .ok (.dup2, 1) := by decide +kernel
theorem dd_M_onwards_89 : decode cb_M_onwards 89 = .ok (.iaload, 1) := by decide +kernel
theorem dd_M_onwards_90 : decode cb_M_onwards 90 = .ok (.iconst 1, 1) := by decide +kernel
theorem dd_M_onwards_91 : decode cb_M_onwards 91 = .ok (.iadd, 1) := by decide +kernel
theorem dd_M_onwards_92 : decode cb_M_onwards 92 = .ok (.iastore, 1) := by decide +kernel
theorem dd_M_onwards_93 : decode cb_M_onwards 93 = .ok (.iconst 3, 1) := by decide +kernel
theorem dd_M_onwards_94 : decode cb_M_onwards 94 = .ok (.ireturn, 1) := by decide +kernel
theorem dd_M_onwards_95 : decode cb_M_onwards 95 = .ok (.iload_n 2, 1) := by decide +kernel
theorem dd_M_onwards_96 : decode cb_M_onwards 96 = .ok (.iconst 1, 1) := by decide +kernel
theorem dd_M_onwards_97 : decode cb_M_onwards 97 = .ok (.if_icmp .ne 25, 3) := by decide +kernel
theorem dd_M_onwards_100 : decode cb_M_onwards 100 = .ok (.aload_n 0, 1) := by decide +kernel
theorem dd_M_onwards_101 : decode cb_M_onwards 101 = .ok (.getfield 25, 3) := by decide +kernel
theorem dd_M_onwards_104 : decode cb_M_onwards 104 = .ok (.iload_n 1, 1) := by decide +kernel
theorem dd_M_onwards_105 : decode cb_M_onwards 105 = .ok (.bipush 8, 2) := by decide +kernel
theorem dd_M_onwards_107 : decode cb_M_onwards 107 = .ok (.aload_n 0, 1) := by decide +kernel
theorem dd_M_onwards_108 : decode cb_M_onwards 108 = .ok (.getfield 22, 3) := by decide +kernel
theorem dd_M_onwards_111 : decode cb_M_onwards 111 = .ok (.iload_n 1, 1) := by decide +kernel
theorem dd_M_onwards_112 : decode cb_M_onwards 112 = .ok (.iaload, 1) := by decide +kernel
theorem dd_M_onwards_113 : decode cb_M_onwards 113 = .ok (.bipush 8, 2) := by decide +kernel
theorem dd_M_onwards_115 : decode cb_M_onwards 115 = .ok (.idiv, 1) := by decide +kernel
theorem dd_M_onwards_116 : decode cb_M_onwards 116 = .ok (.iconst 1, 1) := by decide +kernel
theorem dd_M_onwards_117 : decode cb_M_onwards 117 = .ok (.iadd, 1) := by decide +kernel
theorem dd_M_onwards_118 : decode cb_M_onwards 118 = .ok (.imul, 1) := by decide +kernel
theorem dd_M_onwards_119 : decode cb_M_onwards 119 = .ok (.iload_n 1, 1) := by decide +kernel
theorem dd_M_onwards_120 : decode cb_M_onwards 120 = .ok (.iadd, 1) := by decide +kernel
theorem dd_M_onwards_121 : decode cb_M_onwards 121 = .ok (.iastore, 1) := by decide +kernel
theorem dd_M_onwards_122 : decode cb_M_onwards 122 = .ok (.iload_n 2, 1) := by decide +kernel
theorem dd_M_onwards_123 : decode cb_M_onwards 123 = .ok (.iconst 4, 1) := by decide +kernel
theorem dd_M_onwards_124 : decode cb_M_onwards 124 = .ok (.if_icmp .ne 15, 3) := by decide +kernel
theorem dd_M_onwards_127 : decode cb_M_onwards 127 = .ok (.aload_n 0, 1) := by decide +kernel
theorem dd_M_onwards_128 : decode cb_M_onwards 128 = .ok (.getfield 25, 3) := by decide +kernel
theorem dd_M_onwards_131 : decode cb_M_onwards 131 = .ok (.iload_n 1, 1) := by decide +kernel
theorem dd_M_onwards_132 : decode cb_M_onwards 132 = .ok (.aload_n 0, 1) := by decide +kernel
theorem dd_M_onwards_133 : decode cb_M_onwards 133 = .ok (.getfield 22, 3) := by decide +kernel
theorem dd_M_onwards_136 : decode cb_M_onwards 136 = .ok (.iload_n 1, 1) := by decide +kernel
theorem dd_M_onwards_137 : decode cb_M_onwards 137 = .ok (.iaload, 1) := by decide +kernel
theorem dd_M_onwards_138 : decode cb_M_onwards 138 = .ok (.iastore, 1) := by decide +kernel
theorem dd_M_onwards_139 : decode cb_M_onwards 139 = .ok (.aload_n 0, 1) := by decide +kernel
theorem dd_M_onwards_140 : decode cb_M_onwards 140 = .ok (.iload_n 1, 1) := by decide +kernel
theorem dd_M_onwards_141 : decode cb_M_onwards 141 = .ok (.iload_n 2, 1) := by decide +kernel
theorem dd_M_onwards_142 : decode cb_M_onwards 142 = .ok (.iconst 1, 1) := by decide +kernel
theorem dd_M_onwards_143 : decode cb_M_onwards 143 = .ok (.iadd, 1) := by decide +kernel
theorem dd_M_onwards_144 : decode cb_M_onwards 144 = .ok (.invokevirtual 116, 3) := by decide +kernel
theorem dd_M_onwards_147 : decode cb_M_onwards 147 = .ok (.iconst 2, 1) := by decide +kernel
theorem dd_M_onwards_148 : decode cb_M_onwards 148 = .ok (.ireturn, 1) := by decide +kernel
theorem dd_M_crash_0 : decode cb_M_crash 0 = .ok (.iconst 0, 1) := by decide +kernel
theorem dd_M_crash_1 : decode cb_M_crash 1 = .ok (.istore_n 2, 1) := by decide +kernel
theorem dd_M_crash_2 : decode cb_M_crash 2 = .ok (.iconst 0, 1) := by decide +kernel
theorem dd_M_crash_3 : decode cb_M_crash 3 = .ok (.istore_n 3, 1) := by decide +kernel
theorem dd_M_crash_4 : decode cb_M_crash 4 = .ok (.iload_n 3, 1) := by decide +kernel
theorem dd_M_crash_5 : decode cb_M_crash 5 = .ok (.aload_n 0, 1) := by decide +kernel
theorem dd_M_crash_6 : decode cb_M_crash 6 = .ok (.getfield 81, 3) := by decide +kernel
theorem dd_M_crash_9 : decode cb_M_crash 9 = .ok (.if_icmp .ge 26, 3) := by decide +kernel
theorem dd_M_crash_12 : decode cb_M_crash 12 = .ok (.iload_n 2, 1) := by decide +kernel
theorem dd_M_crash_13 : decode cb_M_crash 13 = .ok (.aload_n 0, 1) := by decide +kernel
theorem dd_M_crash_14 : decode cb_M_crash 14 = .ok (.getfield 41, 3) := by decide +kernel
theorem dd_M_crash_17 : decode cb_M_crash 17 = .ok (.iload_n 3, 1) := by decide +kernel
theorem dd_M_crash_18 : decode cb_M_crash 18 = .ok (.baload, 1) := by decide +kernel
theorem dd_M_crash_19 : decode cb_M_crash 19 = .ok (.ifCond .eq 7, 3) := by decide +kernel
theorem dd_M_crash_22 : decode cb_M_crash 22 = .ok (.iconst 1, 1) := by decide +kernel
theorem dd_M_crash_23 : decode cb_M_crash 23 = .ok (.goto 4, 3) := by decide +kernel
theorem dd_M_crash_26 : decode cb_M_crash 26 = .ok (.iconst 0, 1) := by decide +kernel
theorem dd_M_crash_27 : decode cb_M_crash 27 = .ok (.iadd, 1) := by decide +kernel
theorem dd_M_crash_28 : decode cb_M_crash 28 = .ok (.istore_n 2, 1) := by decide +kernel
theorem dd_M_crash_29 : decode cb_M_crash 29 = .ok (.iinc 3 1, 3) := by decide +kernel
theorem dd_M_crash_32 : decode cb_M_crash 32 = .ok (.goto (-28), 3) := by decide +kernel
theorem dd_M_crash_35 : decode cb_M_crash 35 = .ok (.aload_n 0, 1) := by decide +kernel
theorem dd_M_crash_36 : decode cb_M_crash 36 = .ok (.iload_n 1, 1) := by decide +kernel
theorem dd_M_crash_37 : decode cb_M_crash 37 = .ok (.invokevirtual 98, 3) := by decide +kernel
theorem dd_M_crash_40 : decode cb_M_crash 40 = .ok (.ifCond .ne 27, 3) := by decide +kernel
theorem dd_M_crash_43 : decode cb_M_crash 43 = .ok (.aload_n 0, 1) := by decide +kernel
theorem dd_M_crash_44 : decode cb_M_crash 44 = .ok (.getfield 41, 3) := by decide +kernel
theorem dd_M_crash_47 : decode cb_M_crash 47 = .ok (.iload_n 1, 1) := by decide +kernel
theorem dd_M_crash_48 : decode cb_M_crash 48 = .ok (.baload, 1) := by decide +kernel
theorem dd_M_crash_49 : decode cb_M_crash 49 = .ok (.ifCond .ne 18, 3) := by decide +kernel
theorem dd_M_crash_52 : decode cb_M_crash 52 = .ok (.iload_n 2, 1) := by decide +kernel
theorem dd_M_crash_53 : decode cb_M_crash 53 = .ok (.aload_n 0, 1) := by decide +kernel
theorem dd_M_crash_54 : decode cb_M_crash 54 = .ok (.getfield 81, 3) := by decide +kernel
theorem dd_M_crash_57 : decode cb_M_crash 57 = .ok (.aload_n 0, 1) := by decide +kernel
theorem dd_M_crash_58 : decode cb_M_crash 58 = .ok (.getfield 85, 3) := by decide +kernel
theorem dd_M_crash_61 : decode cb_M_crash 61 = .ok (.isub, 1) := by decide +kernel
theorem dd_M_crash_62 : decode cb_M_crash 62 = .ok (.iconst 2, 1) := by decide +kernel
theorem dd_M_crash_63 : decode cb_M_crash 63 = .ok (.idiv, 1) := by decide +kernel
theorem dd_M_crash_64 : decode cb_M_crash 64 = .ok (.if_icmp .lt 5, 3) := by decide +kernel
theorem dd_M_crash_67 : decode cb_M_crash 67 = .ok (.iconst 0, 1) := by decide +kernel
theorem dd_M_crash_68 : decode cb_M_crash 68 = .ok (.ireturn, 1) := by decide +kernel
theorem dd_M_crash_69 : decode cb_M_crash 69 = .ok (.aload_n 0, 1) := by decide +kernel
theorem dd_M_crash_70 : decode cb_M_crash 70 = .ok (.getfield 41, 3) := by decide +kernel
theorem dd_M_crash_73 : decode cb_M_crash 73 = .ok (.iload_n 1, 1) := by decide +kernel
theorem dd_M_crash_74 : decode cb_M_crash 74 = .ok (.iconst 1, 1) := by decide +kernel
theorem dd_M_crash_75 : decode cb_M_crash 75 = .ok (.bastore, 1) := by decide +kernel
theorem dd_M_crash_76 : decode cb_M_crash 76 = .ok (.aload_n 0, 1) := by decide +kernel
theorem dd_M_crash_77 : decode cb_M_crash 77 = .ok (.getfield 91, 3) := by decide +kernel
theorem dd_M_crash_80 : decode cb_M_crash 80 = .ok (.iconst 1, 1) := by decide +kernel
theorem dd_M_crash_81 : decode cb_M_crash 81 = .ok (.isub, 1) := by decide +kernel
theorem dd_M_crash_82 : decode cb_M_crash 82 = .ok (.istore_n 3, 1) := by decide +kernel
theorem dd_M_crash_83 : decode cb_M_crash 83 = .ok (.iload_n 3, 1) := by decide +kernel
theorem dd_M_crash_84 : decode cb_M_crash 84 = .ok (.ifCond .lt 33, 3) := by decide +kernel
theorem dd_M_crash_87 : decode cb_M_crash 87 = .ok (.aload_n 0, 1) := by decide +kernel
theorem dd_M_crash_88 : decode cb_M_crash 88 = .ok (.getfield 57, 3) := by decide +kernel
theorem dd_M_crash_91 : decode cb_M_crash 91 = .ok (.iload_n 3, 1) := by decide +kernel
theorem dd_M_crash_92 : decode cb_M_crash 92 = .ok (.baload, 1) := by decide +kernel
theorem dd_M_crash_93 : decode cb_M_crash 93 = .ok (.ifCond .ne 18, 3) := by decide +kernel
theorem dd_M_crash_96 : decode cb_M_crash 96 = .ok (.aload_n 0, 1) := by decide +kernel
theorem dd_M_crash_97 : decode cb_M_crash 97 = .ok (.getfield 66, 3) := by decide +kernel
theorem dd_M_crash_100 : decode cb_M_crash 100 = .ok (.iload_n 3, 1) := by decide +kernel
theorem dd_M_crash_101 : decode cb_M_crash 101 = .ok (.iaload, 1) := by decide +kernel
theorem dd_M_crash_102 : decode cb_M_crash 102 = .ok (.iload_n 1, 1) := by decide +kernel
theorem dd_M_crash_103 : decode cb_M_crash 103 = .ok (.if_icmp .ne 8, 3) := by decide +kernel
theorem dd_M_crash_106 : decode cb_M_crash 106 = .ok (.aload_n 0, 1) := by decide +kernel
theorem dd_M_crash_107 : decode cb_M_crash 107 = .ok (.iload_n 3, 1) := by decide +kernel
theorem dd_M_crash_108 : decode cb_M_crash 108 = .ok (.invokevirtual 132, 3) := by decide +kernel
theorem dd_M_crash_111 : decode cb_M_crash 111 = .ok (.iinc 3 (-1), 3) := by decide +kernel
theorem dd_M_crash_114 : decode cb_M_crash 114 = .ok (.goto (-31), 3) := by decide +kernel
theorem dd_M_crash_117 : decode cb_M_crash 117 = .ok (.iconst 1, 1) := by decide +kernel
theorem dd_M_crash_118 : decode cb_M_crash 118 = .ok (.ireturn, 1) := by decide +kernel
theorem dd_M_stop_0 : decode cb_M_stop 0 = .ok (.aload_n 0, 1) := by decide +kernel
theorem dd_M_stop_1 : decode cb_M_stop 1 = .ok (.iload_n 1, 1) := by decide +kernel
theorem dd_M_stop_2 : decode cb_M_stop 2 = .ok (.invokevirtual 94, 3) := by decide +kernel
theorem dd_M_stop_5 : decode cb_M_stop 5 = .ok (.ifCond .ne 14, 3) := by decide +kernel
theorem dd_M_stop_8 : decode cb_M_stop 8 = .ok (.aload_n 0, 1) := by decide +kernel
theorem dd_M_stop_9 : decode cb_M_stop 9 = .ok (.getfield 7, 3) := by decide +kernel
theorem dd_M_stop_12 : decode cb_M_stop 12 = .ok (.iload_n 1, 1) := by decide +kernel
theorem dd_M_stop_13 : decode cb_M_stop 13 = .ok (.iaload, 1) := by decide +kernel
theorem dd_M_stop_14 : decode cb_M_stop 14 = .ok (.bipush 6, 2) := by decide +kernel
theorem dd_M_stop_16 : decode cb_M_stop 16 = .ok (.if_icmp .ne 5, 3) := by decide +kernel
theorem dd_M_stop_19 : decode cb_M_stop 19 = .ok (.iconst 0, 1) := by decide +kernel
theorem dd_M_stop_20 : decode cb_M_stop 20 = .ok (.ireturn, 1) := by decide +kernel
theorem dd_M_stop_21 : decode cb_M_stop 21 = .ok (.aload_n 0, 1) := by decide +kernel
theorem dd_M_stop_22 : decode cb_M_stop 22 = .ok (.getfield 7, 3) := by decide +kernel
theorem dd_M_stop_25 : decode cb_M_stop 25 = .ok (.iload_n 1, 1) := by decide +kernel
theorem dd_M_stop_26 : decode cb_M_stop 26 = .ok (.bipush 6, 2) := by decide +kernel
theorem dd_M_stop_28 : decode cb_M_stop 28 = .ok (.iastore, 1) := by decide +kernel
theorem dd_M_stop_29 : decode cb_M_stop 29 = .ok (.iconst 1, 1) := by decide +kernel
theorem dd_M_stop_30 : decode cb_M_stop 30 = .ok (.ireturn, 1) := by decide +kernel
theorem dd_M_phase_0 : decode cb_M_phase 0 = .ok (.aload_n 0, 1) := by decide +kernel
theorem dd_M_phase_1 : decode cb_M_phase 1 = .ok (.iload_n 1, 1) := by decide +kernel
theorem dd_M_phase_2 : decode cb_M_phase 2 = .ok (.invokevirtual 94, 3) := by decide +kernel
theorem dd_M_phase_5 : decode cb_M_phase 5 = .ok (.ifCond .eq 7, 3) := by decide +kernel
theorem dd_M_phase_8 : decode cb_M_phase 8 = .ok (.iconst (-1), 1) := by decide +kernel
theorem dd_M_phase_9 : decode cb_M_phase 9 = .ok (.goto 9, 3) := by decide +kernel
theorem dd_M_phase_12 : decode cb_M_phase 12 = .ok (.aload_n 0, 1) := by decide +kernel
theorem dd_M_phase_13 : decode cb_M_phase 13 = .ok (.getfield 7, 3) := by decide +kernel
theorem dd_M_phase_16 : decode cb_M_phase 16 = .ok (.iload_n 1, 1) := by decide +kernel
theorem dd_M_phase_17 : decode cb_M_phase 17 = .ok (.iaload, 1) := by decide +kernel
theorem dd_M_phase_18 : decode cb_M_phase 18 = .ok (.ireturn, 1) := by decide +kernel
theorem dd_M_heard_0 : decode cb_M_heard 0 = .ok (.aload_n 0, 1) := by decide +kernel
