theorem dd_W_law_388 : decode cb_W_law 388 = .ok (.if_icmp .eq 322, 3) := by decide +kernel
theorem dd_W_law_391 : decode cb_W_law 391 = .ok (.iconst 0, 1) := by decide +kernel
theorem dd_W_law_392 : decode cb_W_law 392 = .ok (.ireturn, 1) := by decide +kernel
theorem dd_W_law_393 : decode cb_W_law 393 = .ok (.aload_n 1, 1) := by decide +kernel
theorem dd_W_law_394 : decode cb_W_law 394 = .ok (.aload_n 0, 1) := by decide +kernel
theorem dd_W_law_395 : decode cb_W_law 395 = .ok (.iload_n 3, 1) := by decide +kernel
theorem dd_W_law_396 : decode cb_W_law 396 = .ok (.iconst 1, 1) := by decide +kernel
theorem dd_W_law_397 : decode cb_W_law 397 = .ok (.iadd, 1) := by decide +kernel
theorem dd_W_law_398 : decode cb_W_law 398 = .ok (.iaload, 1) := by decide +kernel
theorem dd_W_law_399 : decode cb_W_law 399 = .ok (.invokevirtual 55, 3) := by decide +kernel
theorem dd_W_law_402 : decode cb_W_law 402 = .ok (.aload_n 2, 1) := by decide +kernel
theorem dd_W_law_403 : decode cb_W_law 403 = .ok (.aload_n 0, 1) := by decide +kernel
theorem dd_W_law_404 : decode cb_W_law 404 = .ok (.iload_n 3, 1) := by decide +kernel
theorem dd_W_law_405 : decode cb_W_law 405 = .ok (.iconst 1, 1) := by decide +kernel
theorem dd_W_law_406 : decode cb_W_law 406 = .ok (.iadd, 1) := by decide +kernel
theorem dd_W_law_407 : decode cb_W_law 407 = .ok (.iaload, 1) := by decide +kernel
theorem dd_W_law_408 : decode cb_W_law 408 = .ok (.invokevirtual 58, 3) := by decide +kernel
theorem dd_W_law_411 : decode cb_W_law 411 = .ok (.if_icmp .eq 299, 3) := by decide +kernel
theorem dd_W_law_414 : decode cb_W_law 414 = .ok (.iconst 0, 1) := by decide +kernel
theorem dd_W_law_415 : decode cb_W_law 415 = .ok (.ireturn, 1) := by decide +kernel
theorem dd_W_law_416 : decode cb_W_law 416 = .ok (.aload_n 1, 1) := by decide +kernel
theorem dd_W_law_417 : decode cb_W_law 417 = .ok (.aload_n 0, 1) := by decide +kernel
theorem dd_W_law_418 : decode cb_W_law 418 = .ok (.iload_n 3, 1) := by decide +kernel
theorem dd_W_law_419 : decode cb_W_law 419 = .ok (.iconst 1, 1) := by decide +kernel
theorem dd_W_law_420 : decode cb_W_law 420 = .ok (.iadd, 1) := by decide +kernel
theorem dd_W_law_421 : decode cb_W_law 421 = .ok (.iaload, 1) := by decide +kernel
theorem dd_W_law_422 : decode cb_W_law 422 = .ok (.invokevirtual 59, 3) := by decide +kernel
theorem dd_W_law_425 : decode cb_W_law 425 = .ok (.aload_n 2, 1) := by decide +kernel
theorem dd_W_law_426 : decode cb_W_law 426 = .ok (.aload_n 0, 1) := by decide +kernel
theorem dd_W_law_427 : decode cb_W_law 427 = .ok (.iload_n 3, 1) := by decide +kernel
theorem dd_W_law_428 : decode cb_W_law 428 = .ok (.iconst 1, 1) := by decide +kernel
theorem dd_W_law_429 : decode cb_W_law 429 = .ok (.iadd, 1) := by decide +kernel
theorem dd_W_law_430 : decode cb_W_law 430 = .ok (.iaload, 1) := by decide +kernel
theorem dd_W_law_431 : decode cb_W_law 431 = .ok (.invokevirtual 62, 3) := by decide +kernel
theorem dd_W_law_434 : decode cb_W_law 434 = .ok (.if_icmp .eq 276, 3) := by decide +kernel
theorem dd_W_law_437 : decode cb_W_law 437 = .ok (.iconst 0, 1) := by decide +kernel
theorem dd_W_law_438 : decode cb_W_law 438 = .ok (.ireturn, 1) := by decide +kernel
theorem dd_W_law_439 : decode cb_W_law 439 = .ok (.aload_n 1, 1) := by decide +kernel
theorem dd_W_law_440 : decode cb_W_law 440 = .ok (.aload_n 0, 1) := by decide +kernel
theorem dd_W_law_441 : decode cb_W_law 441 = .ok (.iload_n 3, 1) := by decide +kernel
theorem dd_W_law_442 : decode cb_W_law 442 = .ok (.iconst 1, 1) := by decide +kernel
theorem dd_W_law_443 : decode cb_W_law 443 = .ok (.iadd, 1) := by decide +kernel
theorem dd_W_law_444 : decode cb_W_law 444 = .ok (.iaload, 1) := by decide +kernel
theorem dd_W_law_445 : decode cb_W_law 445 = .ok (.invokevirtual 63, 3) := by decide +kernel
theorem dd_W_law_448 : decode cb_W_law 448 = .ok (.aload_n 2, 1) := by decide +kernel
theorem dd_W_law_449 : decode cb_W_law 449 = .ok (.aload_n 0, 1) := by decide +kernel
theorem dd_W_law_450 : decode cb_W_law 450 = .ok (.iload_n 3, 1) := by decide +kernel
theorem dd_W_law_451 : decode cb_W_law 451 = .ok (.iconst 1, 1) := by decide +kernel
theorem dd_W_law_452 : decode cb_W_law 452 = .ok (.iadd, 1) := by decide +kernel
theorem dd_W_law_453 : decode cb_W_law 453 = .ok (.iaload, 1) := by decide +kernel
theorem dd_W_law_454 : decode cb_W_law 454 = .ok (.invokevirtual 66, 3) := by decide +kernel
theorem dd_W_law_457 : decode cb_W_law 457 = .ok (.if_icmp .eq 253, 3) := by decide +kernel
theorem dd_W_law_460 : decode cb_W_law 460 = .ok (.iconst 0, 1) := by decide +kernel
theorem dd_W_law_461 : decode cb_W_law 461 = .ok (.ireturn, 1) := by decide +kernel
theorem dd_W_law_462 : decode cb_W_law 462 = .ok (.aload_n 1, 1) := by decide +kernel
theorem dd_W_law_463 : decode cb_W_law 463 = .ok (.aload_n 0, 1) := by decide +kernel
theorem dd_W_law_464 : decode cb_W_law 464 = .ok (.iload_n 3, 1) := by decide +kernel
theorem dd_W_law_465 : decode cb_W_law 465 = .ok (.iconst 1, 1) := by decide +kernel
theorem dd_W_law_466 : decode cb_W_law 466 = .ok (.iadd, 1) := by decide +kernel
theorem dd_W_law_467 : decode cb_W_law 467 = .ok (.iaload, 1) := by decide +kernel
