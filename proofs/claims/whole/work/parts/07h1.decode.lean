theorem dd_W_law_162 : decode cb_W_law 162 = .ok (.iaload, 1) := by decide +kernel
theorem dd_W_law_163 : decode cb_W_law 163 = .ok (.i2l, 1) := by decide +kernel
theorem dd_W_law_164 : decode cb_W_law 164 = .ok (.bipush 32, 2) := by decide +kernel
theorem dd_W_law_166 : decode cb_W_law 166 = .ok (.lshl, 1) := by decide +kernel
theorem dd_W_law_167 : decode cb_W_law 167 = .ok (.aload_n 0, 1) := by decide +kernel
theorem dd_W_law_168 : decode cb_W_law 168 = .ok (.iload_n 3, 1) := by decide +kernel
theorem dd_W_law_169 : decode cb_W_law 169 = .ok (.iconst 3, 1) := by decide +kernel
theorem dd_W_law_170 : decode cb_W_law 170 = .ok (.iadd, 1) := by decide +kernel
theorem dd_W_law_171 : decode cb_W_law 171 = .ok (.iaload, 1) := by decide +kernel
theorem dd_W_law_172 : decode cb_W_law 172 = .ok (.i2l, 1) := by decide +kernel
theorem dd_W_law_173 : decode cb_W_law 173 = .ok (.ldc2_w 21, 3) := by decide +kernel
theorem dd_W_law_176 : decode cb_W_law 176 = .ok (.land, 1) := by decide +kernel
theorem dd_W_law_177 : decode cb_W_law 177 = .ok (.lor, 1) := by decide +kernel
theorem dd_W_law_178 : decode cb_W_law 178 = .ok (.invokevirtual 23, 3) := by decide +kernel
theorem dd_W_law_181 : decode cb_W_law 181 = .ok (.aload_n 2, 1) := by decide +kernel
theorem dd_W_law_182 : decode cb_W_law 182 = .ok (.aload_n 0, 1) := by decide +kernel
theorem dd_W_law_183 : decode cb_W_law 183 = .ok (.iload_n 3, 1) := by decide +kernel
theorem dd_W_law_184 : decode cb_W_law 184 = .ok (.iconst 1, 1) := by decide +kernel
theorem dd_W_law_185 : decode cb_W_law 185 = .ok (.iadd, 1) := by decide +kernel
theorem dd_W_law_186 : decode cb_W_law 186 = .ok (.iaload, 1) := by decide +kernel
theorem dd_W_law_187 : decode cb_W_law 187 = .ok (.aload_n 0, 1) := by decide +kernel
theorem dd_W_law_188 : decode cb_W_law 188 = .ok (.iload_n 3, 1) := by decide +kernel
theorem dd_W_law_189 : decode cb_W_law 189 = .ok (.iconst 2, 1) := by decide +kernel
theorem dd_W_law_190 : decode cb_W_law 190 = .ok (.iadd, 1) := by decide +kernel
theorem dd_W_law_191 : decode cb_W_law 191 = .ok (.iaload, 1) := by decide +kernel
theorem dd_W_law_192 : decode cb_W_law 192 = .ok (.i2l, 1) := by decide +kernel
theorem dd_W_law_193 : decode cb_W_law 193 = .ok (.bipush 32, 2) := by decide +kernel
theorem dd_W_law_195 : decode cb_W_law 195 = .ok (.lshl, 1) := by decide +kernel
theorem dd_W_law_196 : decode cb_W_law 196 = .ok (.aload_n 0, 1) := by decide +kernel
theorem dd_W_law_197 : decode cb_W_law 197 = .ok (.iload_n 3, 1) := by decide +kernel
theorem dd_W_law_198 : decode cb_W_law 198 = .ok (.iconst 3, 1) := by decide +kernel
theorem dd_W_law_199 : decode cb_W_law 199 = .ok (.iadd, 1) := by decide +kernel
theorem dd_W_law_200 : decode cb_W_law 200 = .ok (.iaload, 1) := by decide +kernel
theorem dd_W_law_201 : decode cb_W_law 201 = .ok (.i2l, 1) := by decide +kernel
theorem dd_W_law_202 : decode cb_W_law 202 = .ok (.ldc2_w 21, 3) := by decide +kernel
theorem dd_W_law_205 : decode cb_W_law 205 = .ok (.land, 1) := by decide +kernel
theorem dd_W_law_206 : decode cb_W_law 206 = .ok (.lor, 1) := by decide +kernel
theorem dd_W_law_207 : decode cb_W_law 207 = .ok (.invokevirtual 27, 3) := by decide +kernel
theorem dd_W_law_210 : decode cb_W_law 210 = .ok (.if_icmp .eq 500, 3) := by decide +kernel
theorem dd_W_law_213 : decode cb_W_law 213 = .ok (.iconst 0, 1) := by decide +kernel
theorem dd_W_law_214 : decode cb_W_law 214 = .ok (.ireturn, 1) := by decide +kernel
theorem dd_W_law_215 : decode cb_W_law 215 = .ok (.aload_n 1, 1) := by decide +kernel
theorem dd_W_law_216 : decode cb_W_law 216 = .ok (.aload_n 0, 1) := by decide +kernel
theorem dd_W_law_217 : decode cb_W_law 217 = .ok (.iload_n 3, 1) := by decide +kernel
theorem dd_W_law_218 : decode cb_W_law 218 = .ok (.iconst 1, 1) := by decide +kernel
theorem dd_W_law_219 : decode cb_W_law 219 = .ok (.iadd, 1) := by decide +kernel
theorem dd_W_law_220 : decode cb_W_law 220 = .ok (.iaload, 1) := by decide +kernel
theorem dd_W_law_221 : decode cb_W_law 221 = .ok (.invokevirtual 28, 3) := by decide +kernel
theorem dd_W_law_224 : decode cb_W_law 224 = .ok (.aload_n 2, 1) := by decide +kernel
theorem dd_W_law_225 : decode cb_W_law 225 = .ok (.aload_n 0, 1) := by decide +kernel
theorem dd_W_law_226 : decode cb_W_law 226 = .ok (.iload_n 3, 1) := by decide +kernel
theorem dd_W_law_227 : decode cb_W_law 227 = .ok (.iconst 1, 1) := by decide +kernel
theorem dd_W_law_228 : decode cb_W_law 228 = .ok (.iadd, 1) := by decide +kernel
theorem dd_W_law_229 : decode cb_W_law 229 = .ok (.iaload, 1) := by decide +kernel
theorem dd_W_law_230 : decode cb_W_law 230 = .ok (.invokevirtual 32, 3) := by decide +kernel
theorem dd_W_law_233 : decode cb_W_law 233 = .ok (.if_icmp .eq 477, 3) := by decide +kernel
theorem dd_W_law_236 : decode cb_W_law 236 = .ok (.iconst 0, 1) := by decide +kernel
theorem dd_W_law_237 : decode cb_W_law 237 = .ok (.ireturn, 1) := by decide +kernel
theorem dd_W_law_238 : decode cb_W_law 238 = .ok (.aload_n 1, 1) := by decide +kernel
theorem dd_W_law_239 : decode cb_W_law 239 = .ok (.aload_n 0, 1) := by decide +kernel
