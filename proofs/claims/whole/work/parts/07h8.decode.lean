theorem dd_W_law_696 : decode cb_W_law 696 = .ok (.ireturn, 1) := by decide +kernel
theorem dd_W_law_697 : decode cb_W_law 697 = .ok (.aload_n 1, 1) := by decide +kernel
theorem dd_W_law_698 : decode cb_W_law 698 = .ok (.invokevirtual 101, 3) := by decide +kernel
theorem dd_W_law_701 : decode cb_W_law 701 = .ok (.aload_n 2, 1) := by decide +kernel
theorem dd_W_law_702 : decode cb_W_law 702 = .ok (.invokevirtual 105, 3) := by decide +kernel
theorem dd_W_law_705 : decode cb_W_law 705 = .ok (.if_icmp .eq 5, 3) := by decide +kernel
theorem dd_W_law_708 : decode cb_W_law 708 = .ok (.iconst 0, 1) := by decide +kernel
theorem dd_W_law_709 : decode cb_W_law 709 = .ok (.ireturn, 1) := by decide +kernel
theorem dd_W_law_710 : decode cb_W_law 710 = .ok (.iinc 3 4, 3) := by decide +kernel
theorem dd_W_law_713 : decode cb_W_law 713 = .ok (.goto (-665), 3) := by decide +kernel
theorem dd_W_law_716 : decode cb_W_law 716 = .ok (.iconst 1, 1) := by decide +kernel
theorem dd_W_law_717 : decode cb_W_law 717 = .ok (.ireturn, 1) := by decide +kernel
