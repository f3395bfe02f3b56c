theorem dd_W_law_468 : decode cb_W_law 468 = .ok (.invokevirtual 67, 3) := by decide +kernel
theorem dd_W_law_471 : decode cb_W_law 471 = .ok (.aload_n 2, 1) := by decide +kernel
theorem dd_W_law_472 : decode cb_W_law 472 = .ok (.aload_n 0, 1) := by decide +kernel
theorem dd_W_law_473 : decode cb_W_law 473 = .ok (.iload_n 3, 1) := by decide +kernel
theorem dd_W_law_474 : decode cb_W_law 474 = .ok (.iconst 1, 1) := by decide +kernel
theorem dd_W_law_475 : decode cb_W_law 475 = .ok (.iadd, 1) := by decide +kernel
theorem dd_W_law_476 : decode cb_W_law 476 = .ok (.iaload, 1) := by decide +kernel
theorem dd_W_law_477 : decode cb_W_law 477 = .ok (.invokevirtual 71, 3) := by decide +kernel
theorem dd_W_law_480 : decode cb_W_law 480 = .ok (.lcmp, 1) := by decide +kernel
theorem dd_W_law_481 : decode cb_W_law 481 = .ok (.ifCond .eq 229, 3) := by decide +kernel
theorem dd_W_law_484 : decode cb_W_law 484 = .ok (.iconst 0, 1) := by decide +kernel
theorem dd_W_law_485 : decode cb_W_law 485 = .ok (.ireturn, 1) := by decide +kernel
theorem dd_W_law_486 : decode cb_W_law 486 = .ok (.aload_n 1, 1) := by decide +kernel
theorem dd_W_law_487 : decode cb_W_law 487 = .ok (.aload_n 0, 1) := by decide +kernel
theorem dd_W_law_488 : decode cb_W_law 488 = .ok (.iload_n 3, 1) := by decide +kernel
theorem dd_W_law_489 : decode cb_W_law 489 = .ok (.iconst 1, 1) := by decide +kernel
theorem dd_W_law_490 : decode cb_W_law 490 = .ok (.iadd, 1) := by decide +kernel
theorem dd_W_law_491 : decode cb_W_law 491 = .ok (.iaload, 1) := by decide +kernel
theorem dd_W_law_492 : decode cb_W_law 492 = .ok (.invokevirtual 72, 3) := by decide +kernel
theorem dd_W_law_495 : decode cb_W_law 495 = .ok (.aload_n 2, 1) := by decide +kernel
theorem dd_W_law_496 : decode cb_W_law 496 = .ok (.aload_n 0, 1) := by decide +kernel
theorem dd_W_law_497 : decode cb_W_law 497 = .ok (.iload_n 3, 1) := by decide +kernel
theorem dd_W_law_498 : decode cb_W_law 498 = .ok (.iconst 1, 1) := by decide +kernel
theorem dd_W_law_499 : decode cb_W_law 499 = .ok (.iadd, 1) := by decide +kernel
theorem dd_W_law_500 : decode cb_W_law 500 = .ok (.iaload, 1) := by decide +kernel
theorem dd_W_law_501 : decode cb_W_law 501 = .ok (.invokevirtual 75, 3) := by decide +kernel
theorem dd_W_law_504 : decode cb_W_law 504 = .ok (.if_icmp .eq 206, 3) := by decide +kernel
theorem dd_W_law_507 : decode cb_W_law 507 = .ok (.iconst 0, 1) := by decide +kernel
theorem dd_W_law_508 : decode cb_W_law 508 = .ok (.ireturn, 1) := by decide +kernel
theorem dd_W_law_509 : decode cb_W_law 509 = .ok (.aload_n 1, 1) := by decide +kernel
theorem dd_W_law_510 : decode cb_W_law 510 = .ok (.aload_n 0, 1) := by decide +kernel
theorem dd_W_law_511 : decode cb_W_law 511 = .ok (.iload_n 3, 1) := by decide +kernel
theorem dd_W_law_512 : decode cb_W_law 512 = .ok (.iconst 1, 1) := by decide +kernel
theorem dd_W_law_513 : decode cb_W_law 513 = .ok (.iadd, 1) := by decide +kernel
theorem dd_W_law_514 : decode cb_W_law 514 = .ok (.iaload, 1) := by decide +kernel
theorem dd_W_law_515 : decode cb_W_law 515 = .ok (.invokevirtual 76, 3) := by decide +kernel
theorem dd_W_law_518 : decode cb_W_law 518 = .ok (.aload_n 2, 1) := by decide +kernel
theorem dd_W_law_519 : decode cb_W_law 519 = .ok (.aload_n 0, 1) := by decide +kernel
theorem dd_W_law_520 : decode cb_W_law 520 = .ok (.iload_n 3, 1) := by decide +kernel
theorem dd_W_law_521 : decode cb_W_law 521 = .ok (.iconst 1, 1) := by decide +kernel
theorem dd_W_law_522 : decode cb_W_law 522 = .ok (.iadd, 1) := by decide +kernel
theorem dd_W_law_523 : decode cb_W_law 523 = .ok (.iaload, 1) := by decide +kernel
theorem dd_W_law_524 : decode cb_W_law 524 = .ok (.invokevirtual 79, 3) := by decide +kernel
theorem dd_W_law_527 : decode cb_W_law 527 = .ok (.if_icmp .eq 183, 3) := by decide +kernel
theorem dd_W_law_530 : decode cb_W_law 530 = .ok (.iconst 0, 1) := by decide +kernel
theorem dd_W_law_531 : decode cb_W_law 531 = .ok (.ireturn, 1) := by decide +kernel
theorem dd_W_law_532 : decode cb_W_law 532 = .ok (.aload_n 1, 1) := by decide +kernel
theorem dd_W_law_533 : decode cb_W_law 533 = .ok (.aload_n 0, 1) := by decide +kernel
theorem dd_W_law_534 : decode cb_W_law 534 = .ok (.iload_n 3, 1) := by decide +kernel
theorem dd_W_law_535 : decode cb_W_law 535 = .ok (.iconst 1, 1) := by decide +kernel
theorem dd_W_law_536 : decode cb_W_law 536 = .ok (.iadd, 1) := by decide +kernel
theorem dd_W_law_537 : decode cb_W_law 537 = .ok (.iaload, 1) := by decide +kernel
theorem dd_W_law_538 : decode cb_W_law 538 = .ok (.aload_n 0, 1) := by decide +kernel
theorem dd_W_law_539 : decode cb_W_law 539 = .ok (.iload_n 3, 1) := by decide +kernel
theorem dd_W_law_540 : decode cb_W_law 540 = .ok (.iconst 2, 1) := by decide +kernel
theorem dd_W_law_541 : decode cb_W_law 541 = .ok (.iadd, 1) := by decide +kernel
theorem dd_W_law_542 : decode cb_W_law 542 = .ok (.iaload, 1) := by decide +kernel
theorem dd_W_law_543 : decode cb_W_law 543 = .ok (.invokevirtual 80, 3) := by decide +kernel
theorem dd_W_law_546 : decode cb_W_law 546 = .ok (.aload_n 2, 1) := by decide +kernel
theorem dd_W_law_547 : decode cb_W_law 547 = .ok (.aload_n 0, 1) := by decide +kernel
