theorem dd_W_law_240 : decode cb_W_law 240 = .ok (.iload_n 3, 1) := by decide +kernel
theorem dd_W_law_241 : decode cb_W_law 241 = .ok (.iconst 1, 1) := by decide +kernel
theorem dd_W_law_242 : decode cb_W_law 242 = .ok (.iadd, 1) := by decide +kernel
theorem dd_W_law_243 : decode cb_W_law 243 = .ok (.iaload, 1) := by decide +kernel
theorem dd_W_law_244 : decode cb_W_law 244 = .ok (.invokevirtual 33, 3) := by decide +kernel
theorem dd_W_law_247 : decode cb_W_law 247 = .ok (.aload_n 2, 1) := by decide +kernel
theorem dd_W_law_248 : decode cb_W_law 248 = .ok (.aload_n 0, 1) := by decide +kernel
theorem dd_W_law_249 : decode cb_W_law 249 = .ok (.iload_n 3, 1) := by decide +kernel
theorem dd_W_law_250 : decode cb_W_law 250 = .ok (.iconst 1, 1) := by decide +kernel
theorem dd_W_law_251 : decode cb_W_law 251 = .ok (.iadd, 1) := by decide +kernel
theorem dd_W_law_252 : decode cb_W_law 252 = .ok (.iaload, 1) := by decide +kernel
theorem dd_W_law_253 : decode cb_W_law 253 = .ok (.invokevirtual 36, 3) := by decide +kernel
theorem dd_W_law_256 : decode cb_W_law 256 = .ok (.if_icmp .eq 454, 3) := by decide +kernel
theorem dd_W_law_259 : decode cb_W_law 259 = .ok (.iconst 0, 1) := by decide +kernel
theorem dd_W_law_260 : decode cb_W_law 260 = .ok (.ireturn, 1) := by decide +kernel
theorem dd_W_law_261 : decode cb_W_law 261 = .ok (.aload_n 1, 1) := by decide +kernel
theorem dd_W_law_262 : decode cb_W_law 262 = .ok (.aload_n 0, 1) := by decide +kernel
theorem dd_W_law_263 : decode cb_W_law 263 = .ok (.iload_n 3, 1) := by decide +kernel
theorem dd_W_law_264 : decode cb_W_law 264 = .ok (.iconst 1, 1) := by decide +kernel
theorem dd_W_law_265 : decode cb_W_law 265 = .ok (.iadd, 1) := by decide +kernel
theorem dd_W_law_266 : decode cb_W_law 266 = .ok (.iaload, 1) := by decide +kernel
theorem dd_W_law_267 : decode cb_W_law 267 = .ok (.aload_n 0, 1) := by decide +kernel
theorem dd_W_law_268 : decode cb_W_law 268 = .ok (.iload_n 3, 1) := by decide +kernel
theorem dd_W_law_269 : decode cb_W_law 269 = .ok (.iconst 2, 1) := by decide +kernel
theorem dd_W_law_270 : decode cb_W_law 270 = .ok (.iadd, 1) := by decide +kernel
theorem dd_W_law_271 : decode cb_W_law 271 = .ok (.iaload, 1) := by decide +kernel
theorem dd_W_law_272 : decode cb_W_law 272 = .ok (.aload_n 0, 1) := by decide +kernel
theorem dd_W_law_273 : decode cb_W_law 273 = .ok (.iload_n 3, 1) := by decide +kernel
theorem dd_W_law_274 : decode cb_W_law 274 = .ok (.iconst 3, 1) := by decide +kernel
theorem dd_W_law_275 : decode cb_W_law 275 = .ok (.iadd, 1) := by decide +kernel
theorem dd_W_law_276 : decode cb_W_law 276 = .ok (.iaload, 1) := by decide +kernel
theorem dd_W_law_277 : decode cb_W_law 277 = .ok (.invokevirtual 37, 3) := by decide +kernel
theorem dd_W_law_280 : decode cb_W_law 280 = .ok (.aload_n 2, 1) := by decide +kernel
theorem dd_W_law_281 : decode cb_W_law 281 = .ok (.aload_n 0, 1) := by decide +kernel
theorem dd_W_law_282 : decode cb_W_law 282 = .ok (.iload_n 3, 1) := by decide +kernel
theorem dd_W_law_283 : decode cb_W_law 283 = .ok (.iconst 1, 1) := by decide +kernel
theorem dd_W_law_284 : decode cb_W_law 284 = .ok (.iadd, 1) := by decide +kernel
theorem dd_W_law_285 : decode cb_W_law 285 = .ok (.iaload, 1) := by decide +kernel
theorem dd_W_law_286 : decode cb_W_law 286 = .ok (.aload_n 0, 1) := by decide +kernel
theorem dd_W_law_287 : decode cb_W_law 287 = .ok (.iload_n 3, 1) := by decide +kernel
theorem dd_W_law_288 : decode cb_W_law 288 = .ok (.iconst 2, 1) := by decide +kernel
theorem dd_W_law_289 : decode cb_W_law 289 = .ok (.iadd, 1) := by decide +kernel
theorem dd_W_law_290 : decode cb_W_law 290 = .ok (.iaload, 1) := by decide +kernel
theorem dd_W_law_291 : decode cb_W_law 291 = .ok (.aload_n 0, 1) := by decide +kernel
theorem dd_W_law_292 : decode cb_W_law 292 = .ok (.iload_n 3, 1) := by decide +kernel
theorem dd_W_law_293 : decode cb_W_law 293 = .ok (.iconst 3, 1) := by decide +kernel
theorem dd_W_law_294 : decode cb_W_law 294 = .ok (.iadd, 1) := by decide +kernel
theorem dd_W_law_295 : decode cb_W_law 295 = .ok (.iaload, 1) := by decide +kernel
theorem dd_W_law_296 : decode cb_W_law 296 = .ok (.invokevirtual 41, 3) := by decide +kernel
theorem dd_W_law_299 : decode cb_W_law 299 = .ok (.if_icmp .eq 411, 3) := by decide +kernel
theorem dd_W_law_302 : decode cb_W_law 302 = .ok (.iconst 0, 1) := by decide +kernel
theorem dd_W_law_303 : decode cb_W_law 303 = .ok (.ireturn, 1) := by decide +kernel
theorem dd_W_law_304 : decode cb_W_law 304 = .ok (.aload_n 1, 1) := by decide +kernel
theorem dd_W_law_305 : decode cb_W_law 305 = .ok (.aload_n 0, 1) := by decide +kernel
theorem dd_W_law_306 : decode cb_W_law 306 = .ok (.iload_n 3, 1) := by decide +kernel
theorem dd_W_law_307 : decode cb_W_law 307 = .ok (.iconst 1, 1) := by decide +kernel
theorem dd_W_law_308 : decode cb_W_law 308 = .ok (.iadd, 1) := by decide +kernel
theorem dd_W_law_309 : decode cb_W_law 309 = .ok (.iaload, 1) := by decide +kernel
theorem dd_W_law_310 : decode cb_W_law 310 = .ok (.aload_n 0, 1) := by decide +kernel
theorem dd_W_law_311 : decode cb_W_law 311 = .ok (.iload_n 3, 1) := by decide +kernel
