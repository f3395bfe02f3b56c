theorem dd_W_law_312 : decode cb_W_law 312 = .ok (.iconst 2, 1) := by decide +kernel
theorem dd_W_law_313 : decode cb_W_law 313 = .ok (.iadd, 1) := by decide +kernel
theorem dd_W_law_314 : decode cb_W_law 314 = .ok (.iaload, 1) := by decide +kernel
theorem dd_W_law_315 : decode cb_W_law 315 = .ok (.aload_n 0, 1) := by decide +kernel
theorem dd_W_law_316 : decode cb_W_law 316 = .ok (.iload_n 3, 1) := by decide +kernel
theorem dd_W_law_317 : decode cb_W_law 317 = .ok (.iconst 3, 1) := by decide +kernel
theorem dd_W_law_318 : decode cb_W_law 318 = .ok (.iadd, 1) := by decide +kernel
theorem dd_W_law_319 : decode cb_W_law 319 = .ok (.iaload, 1) := by decide +kernel
theorem dd_W_law_320 : decode cb_W_law 320 = .ok (.invokevirtual 42, 3) := by decide +kernel
theorem dd_W_law_323 : decode cb_W_law 323 = .ok (.aload_n 2, 1) := by decide +kernel
theorem dd_W_law_324 : decode cb_W_law 324 = .ok (.aload_n 0, 1) := by decide +kernel
theorem dd_W_law_325 : decode cb_W_law 325 = .ok (.iload_n 3, 1) := by decide +kernel
theorem dd_W_law_326 : decode cb_W_law 326 = .ok (.iconst 1, 1) := by decide +kernel
theorem dd_W_law_327 : decode cb_W_law 327 = .ok (.iadd, 1) := by decide +kernel
theorem dd_W_law_328 : decode cb_W_law 328 = .ok (.iaload, 1) := by decide +kernel
theorem dd_W_law_329 : decode cb_W_law 329 = .ok (.aload_n 0, 1) := by decide +kernel
theorem dd_W_law_330 : decode cb_W_law 330 = .ok (.iload_n 3, 1) := by decide +kernel
theorem dd_W_law_331 : decode cb_W_law 331 = .ok (.iconst 2, 1) := by decide +kernel
theorem dd_W_law_332 : decode cb_W_law 332 = .ok (.iadd, 1) := by decide +kernel
theorem dd_W_law_333 : decode cb_W_law 333 = .ok (.iaload, 1) := by decide +kernel
theorem dd_W_law_334 : decode cb_W_law 334 = .ok (.aload_n 0, 1) := by decide +kernel
theorem dd_W_law_335 : decode cb_W_law 335 = .ok (.iload_n 3, 1) := by decide +kernel
theorem dd_W_law_336 : decode cb_W_law 336 = .ok (.iconst 3, 1) := by decide +kernel
theorem dd_W_law_337 : decode cb_W_law 337 = .ok (.iadd, 1) := by decide +kernel
theorem dd_W_law_338 : decode cb_W_law 338 = .ok (.iaload, 1) := by decide +kernel
theorem dd_W_law_339 : decode cb_W_law 339 = .ok (.invokevirtual 45, 3) := by decide +kernel
theorem dd_W_law_342 : decode cb_W_law 342 = .ok (.if_icmp .eq 368, 3) := by decide +kernel
theorem dd_W_law_345 : decode cb_W_law 345 = .ok (.iconst 0, 1) := by decide +kernel
theorem dd_W_law_346 : decode cb_W_law 346 = .ok (.ireturn, 1) := by decide +kernel
theorem dd_W_law_347 : decode cb_W_law 347 = .ok (.aload_n 1, 1) := by decide +kernel
theorem dd_W_law_348 : decode cb_W_law 348 = .ok (.aload_n 0, 1) := by decide +kernel
theorem dd_W_law_349 : decode cb_W_law 349 = .ok (.iload_n 3, 1) := by decide +kernel
theorem dd_W_law_350 : decode cb_W_law 350 = .ok (.iconst 1, 1) := by decide +kernel
theorem dd_W_law_351 : decode cb_W_law 351 = .ok (.iadd, 1) := by decide +kernel
theorem dd_W_law_352 : decode cb_W_law 352 = .ok (.iaload, 1) := by decide +kernel
theorem dd_W_law_353 : decode cb_W_law 353 = .ok (.invokevirtual 46, 3) := by decide +kernel
theorem dd_W_law_356 : decode cb_W_law 356 = .ok (.aload_n 2, 1) := by decide +kernel
theorem dd_W_law_357 : decode cb_W_law 357 = .ok (.aload_n 0, 1) := by decide +kernel
theorem dd_W_law_358 : decode cb_W_law 358 = .ok (.iload_n 3, 1) := by decide +kernel
theorem dd_W_law_359 : decode cb_W_law 359 = .ok (.iconst 1, 1) := by decide +kernel
theorem dd_W_law_360 : decode cb_W_law 360 = .ok (.iadd, 1) := by decide +kernel
theorem dd_W_law_361 : decode cb_W_law 361 = .ok (.iaload, 1) := by decide +kernel
theorem dd_W_law_362 : decode cb_W_law 362 = .ok (.invokevirtual 50, 3) := by decide +kernel
theorem dd_W_law_365 : decode cb_W_law 365 = .ok (.if_icmp .eq 345, 3) := by decide +kernel
theorem dd_W_law_368 : decode cb_W_law 368 = .ok (.iconst 0, 1) := by decide +kernel
theorem dd_W_law_369 : decode cb_W_law 369 = .ok (.ireturn, 1) := by decide +kernel
theorem dd_W_law_370 : decode cb_W_law 370 = .ok (.aload_n 1, 1) := by decide +kernel
theorem dd_W_law_371 : decode cb_W_law 371 = .ok (.aload_n 0, 1) := by decide +kernel
theorem dd_W_law_372 : decode cb_W_law 372 = .ok (.iload_n 3, 1) := by decide +kernel
theorem dd_W_law_373 : decode cb_W_law 373 = .ok (.iconst 1, 1) := by decide +kernel
theorem dd_W_law_374 : decode cb_W_law 374 = .ok (.iadd, 1) := by decide +kernel
theorem dd_W_law_375 : decode cb_W_law 375 = .ok (.iaload, 1) := by decide +kernel
theorem dd_W_law_376 : decode cb_W_law 376 = .ok (.invokevirtual 51, 3) := by decide +kernel
theorem dd_W_law_379 : decode cb_W_law 379 = .ok (.aload_n 2, 1) := by decide +kernel
theorem dd_W_law_380 : decode cb_W_law 380 = .ok (.aload_n 0, 1) := by decide +kernel
theorem dd_W_law_381 : decode cb_W_law 381 = .ok (.iload_n 3, 1) := by decide +kernel
theorem dd_W_law_382 : decode cb_W_law 382 = .ok (.iconst 1, 1) := by decide +kernel
theorem dd_W_law_383 : decode cb_W_law 383 = .ok (.iadd, 1) := by decide +kernel
theorem dd_W_law_384 : decode cb_W_law 384 = .ok (.iaload, 1) := by decide +kernel
theorem dd_W_law_385 : decode cb_W_law 385 = .ok (.invokevirtual 54, 3) := by decide +kernel
