theorem dd_W_law_548 : decode cb_W_law 548 = .ok (.iload_n 3, 1) := by decide +kernel
theorem dd_W_law_549 : decode cb_W_law 549 = .ok (.iconst 1, 1) := by decide +kernel
theorem dd_W_law_550 : decode cb_W_law 550 = .ok (.iadd, 1) := by decide +kernel
theorem dd_W_law_551 : decode cb_W_law 551 = .ok (.iaload, 1) := by decide +kernel
theorem dd_W_law_552 : decode cb_W_law 552 = .ok (.aload_n 0, 1) := by decide +kernel
theorem dd_W_law_553 : decode cb_W_law 553 = .ok (.iload_n 3, 1) := by decide +kernel
theorem dd_W_law_554 : decode cb_W_law 554 = .ok (.iconst 2, 1) := by decide +kernel
theorem dd_W_law_555 : decode cb_W_law 555 = .ok (.iadd, 1) := by decide +kernel
theorem dd_W_law_556 : decode cb_W_law 556 = .ok (.iaload, 1) := by decide +kernel
theorem dd_W_law_557 : decode cb_W_law 557 = .ok (.invokevirtual 84, 3) := by decide +kernel
theorem dd_W_law_560 : decode cb_W_law 560 = .ok (.if_icmp .eq 150, 3) := by decide +kernel
theorem dd_W_law_563 : decode cb_W_law 563 = .ok (.iconst 0, 1) := by decide +kernel
theorem dd_W_law_564 : decode cb_W_law 564 = .ok (.ireturn, 1) := by decide +kernel
theorem dd_W_law_565 : decode cb_W_law 565 = .ok (.aload_n 1, 1) := by decide +kernel
theorem dd_W_law_566 : decode cb_W_law 566 = .ok (.aload_n 0, 1) := by decide +kernel
theorem dd_W_law_567 : decode cb_W_law 567 = .ok (.iload_n 3, 1) := by decide +kernel
theorem dd_W_law_568 : decode cb_W_law 568 = .ok (.iconst 1, 1) := by decide +kernel
theorem dd_W_law_569 : decode cb_W_law 569 = .ok (.iadd, 1) := by decide +kernel
theorem dd_W_law_570 : decode cb_W_law 570 = .ok (.iaload, 1) := by decide +kernel
theorem dd_W_law_571 : decode cb_W_law 571 = .ok (.aload_n 0, 1) := by decide +kernel
theorem dd_W_law_572 : decode cb_W_law 572 = .ok (.iload_n 3, 1) := by decide +kernel
theorem dd_W_law_573 : decode cb_W_law 573 = .ok (.iconst 2, 1) := by decide +kernel
theorem dd_W_law_574 : decode cb_W_law 574 = .ok (.iadd, 1) := by decide +kernel
theorem dd_W_law_575 : decode cb_W_law 575 = .ok (.iaload, 1) := by decide +kernel
theorem dd_W_law_576 : decode cb_W_law 576 = .ok (.aload_n 0, 1) := by decide +kernel
theorem dd_W_law_577 : decode cb_W_law 577 = .ok (.iload_n 3, 1) := by decide +kernel
theorem dd_W_law_578 : decode cb_W_law 578 = .ok (.iconst 3, 1) := by decide +kernel
theorem dd_W_law_579 : decode cb_W_law 579 = .ok (.iadd, 1) := by decide +kernel
theorem dd_W_law_580 : decode cb_W_law 580 = .ok (.iaload, 1) := by decide +kernel
theorem dd_W_law_581 : decode cb_W_law 581 = .ok (.invokevirtual 85, 3) := by decide +kernel
theorem dd_W_law_584 : decode cb_W_law 584 = .ok (.aload_n 2, 1) := by decide +kernel
theorem dd_W_law_585 : decode cb_W_law 585 = .ok (.aload_n 0, 1) := by decide +kernel
theorem dd_W_law_586 : decode cb_W_law 586 = .ok (.iload_n 3, 1) := by decide +kernel
theorem dd_W_law_587 : decode cb_W_law 587 = .ok (.iconst 1, 1) := by decide +kernel
theorem dd_W_law_588 : decode cb_W_law 588 = .ok (.iadd, 1) := by decide +kernel
theorem dd_W_law_589 : decode cb_W_law 589 = .ok (.iaload, 1) := by decide +kernel
theorem dd_W_law_590 : decode cb_W_law 590 = .ok (.aload_n 0, 1) := by decide +kernel
theorem dd_W_law_591 : decode cb_W_law 591 = .ok (.iload_n 3, 1) := by decide +kernel
theorem dd_W_law_592 : decode cb_W_law 592 = .ok (.iconst 2, 1) := by decide +kernel
theorem dd_W_law_593 : decode cb_W_law 593 = .ok (.iadd, 1) := by decide +kernel
theorem dd_W_law_594 : decode cb_W_law 594 = .ok (.iaload, 1) := by decide +kernel
theorem dd_W_law_595 : decode cb_W_law 595 = .ok (.aload_n 0, 1) := by decide +kernel
theorem dd_W_law_596 : decode cb_W_law 596 = .ok (.iload_n 3, 1) := by decide +kernel
theorem dd_W_law_597 : decode cb_W_law 597 = .ok (.iconst 3, 1) := by decide +kernel
theorem dd_W_law_598 : decode cb_W_law 598 = .ok (.iadd, 1) := by decide +kernel
theorem dd_W_law_599 : decode cb_W_law 599 = .ok (.iaload, 1) := by decide +kernel
theorem dd_W_law_600 : decode cb_W_law 600 = .ok (.invokevirtual 88, 3) := by decide +kernel
theorem dd_W_law_603 : decode cb_W_law 603 = .ok (.if_icmp .eq 107, 3) := by decide +kernel
theorem dd_W_law_606 : decode cb_W_law 606 = .ok (.iconst 0, 1) := by decide +kernel
theorem dd_W_law_607 : decode cb_W_law 607 = .ok (.ireturn, 1) := by decide +kernel
theorem dd_W_law_608 : decode cb_W_law 608 = .ok (.aload_n 1, 1) := by decide +kernel
theorem dd_W_law_609 : decode cb_W_law 609 = .ok (.aload_n 0, 1) := by decide +kernel
theorem dd_W_law_610 : decode cb_W_law 610 = .ok (.iload_n 3, 1) := by decide +kernel
theorem dd_W_law_611 : decode cb_W_law 611 = .ok (.iconst 1, 1) := by decide +kernel
theorem dd_W_law_612 : decode cb_W_law 612 = .ok (.iadd, 1) := by decide +kernel
theorem dd_W_law_613 : decode cb_W_law 613 = .ok (.iaload, 1) := by decide +kernel
theorem dd_W_law_614 : decode cb_W_law 614 = .ok (.invokevirtual 89, 3) := by decide +kernel
theorem dd_W_law_617 : decode cb_W_law 617 = .ok (.aload_n 2, 1) := by decide +kernel
theorem dd_W_law_618 : decode cb_W_law 618 = .ok (.aload_n 0, 1) := by decide +kernel
theorem dd_W_law_619 : decode cb_W_law 619 = .ok (.iload_n 3, 1) := by decide +kernel
