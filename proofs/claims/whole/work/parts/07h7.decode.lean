theorem dd_W_law_620 : decode cb_W_law 620 = .ok (.iconst 1, 1) := by decide +kernel
theorem dd_W_law_621 : decode cb_W_law 621 = .ok (.iadd, 1) := by decide +kernel
theorem dd_W_law_622 : decode cb_W_law 622 = .ok (.iaload, 1) := by decide +kernel
theorem dd_W_law_623 : decode cb_W_law 623 = .ok (.invokevirtual 92, 3) := by decide +kernel
theorem dd_W_law_626 : decode cb_W_law 626 = .ok (.if_icmp .eq 84, 3) := by decide +kernel
theorem dd_W_law_629 : decode cb_W_law 629 = .ok (.iconst 0, 1) := by decide +kernel
theorem dd_W_law_630 : decode cb_W_law 630 = .ok (.ireturn, 1) := by decide +kernel
theorem dd_W_law_631 : decode cb_W_law 631 = .ok (.aload_n 1, 1) := by decide +kernel
theorem dd_W_law_632 : decode cb_W_law 632 = .ok (.aload_n 0, 1) := by decide +kernel
theorem dd_W_law_633 : decode cb_W_law 633 = .ok (.iload_n 3, 1) := by decide +kernel
theorem dd_W_law_634 : decode cb_W_law 634 = .ok (.iconst 1, 1) := by decide +kernel
theorem dd_W_law_635 : decode cb_W_law 635 = .ok (.iadd, 1) := by decide +kernel
theorem dd_W_law_636 : decode cb_W_law 636 = .ok (.iaload, 1) := by decide +kernel
theorem dd_W_law_637 : decode cb_W_law 637 = .ok (.aload_n 0, 1) := by decide +kernel
theorem dd_W_law_638 : decode cb_W_law 638 = .ok (.iload_n 3, 1) := by decide +kernel
theorem dd_W_law_639 : decode cb_W_law 639 = .ok (.iconst 2, 1) := by decide +kernel
theorem dd_W_law_640 : decode cb_W_law 640 = .ok (.iadd, 1) := by decide +kernel
theorem dd_W_law_641 : decode cb_W_law 641 = .ok (.iaload, 1) := by decide +kernel
theorem dd_W_law_642 : decode cb_W_law 642 = .ok (.invokevirtual 93, 3) := by decide +kernel
theorem dd_W_law_645 : decode cb_W_law 645 = .ok (.aload_n 2, 1) := by decide +kernel
theorem dd_W_law_646 : decode cb_W_law 646 = .ok (.aload_n 0, 1) := by decide +kernel
theorem dd_W_law_647 : decode cb_W_law 647 = .ok (.iload_n 3, 1) := by decide +kernel
theorem dd_W_law_648 : decode cb_W_law 648 = .ok (.iconst 1, 1) := by decide +kernel
theorem dd_W_law_649 : decode cb_W_law 649 = .ok (.iadd, 1) := by decide +kernel
theorem dd_W_law_650 : decode cb_W_law 650 = .ok (.iaload, 1) := by decide +kernel
theorem dd_W_law_651 : decode cb_W_law 651 = .ok (.aload_n 0, 1) := by decide +kernel
theorem dd_W_law_652 : decode cb_W_law 652 = .ok (.iload_n 3, 1) := by decide +kernel
theorem dd_W_law_653 : decode cb_W_law 653 = .ok (.iconst 2, 1) := by decide +kernel
theorem dd_W_law_654 : decode cb_W_law 654 = .ok (.iadd, 1) := by decide +kernel
theorem dd_W_law_655 : decode cb_W_law 655 = .ok (.iaload, 1) := by decide +kernel
theorem dd_W_law_656 : decode cb_W_law 656 = .ok (.invokevirtual 96, 3) := by decide +kernel
theorem dd_W_law_659 : decode cb_W_law 659 = .ok (.if_icmp .eq 51, 3) := by decide +kernel
theorem dd_W_law_662 : decode cb_W_law 662 = .ok (.iconst 0, 1) := by decide +kernel
theorem dd_W_law_663 : decode cb_W_law 663 = .ok (.ireturn, 1) := by decide +kernel
theorem dd_W_law_664 : decode cb_W_law 664 = .ok (.aload_n 1, 1) := by decide +kernel
theorem dd_W_law_665 : decode cb_W_law 665 = .ok (.aload_n 0, 1) := by decide +kernel
theorem dd_W_law_666 : decode cb_W_law 666 = .ok (.iload_n 3, 1) := by decide +kernel
theorem dd_W_law_667 : decode cb_W_law 667 = .ok (.iconst 1, 1) := by decide +kernel
theorem dd_W_law_668 : decode cb_W_law 668 = .ok (.iadd, 1) := by decide +kernel
theorem dd_W_law_669 : decode cb_W_law 669 = .ok (.iaload, 1) := by decide +kernel
theorem dd_W_law_670 : decode cb_W_law 670 = .ok (.aload_n 0, 1) := by decide +kernel
theorem dd_W_law_671 : decode cb_W_law 671 = .ok (.iload_n 3, 1) := by decide +kernel
theorem dd_W_law_672 : decode cb_W_law 672 = .ok (.iconst 2, 1) := by decide +kernel
theorem dd_W_law_673 : decode cb_W_law 673 = .ok (.iadd, 1) := by decide +kernel
theorem dd_W_law_674 : decode cb_W_law 674 = .ok (.iaload, 1) := by decide +kernel
theorem dd_W_law_675 : decode cb_W_law 675 = .ok (.invokevirtual 97, 3) := by decide +kernel
theorem dd_W_law_678 : decode cb_W_law 678 = .ok (.aload_n 2, 1) := by decide +kernel
theorem dd_W_law_679 : decode cb_W_law 679 = .ok (.aload_n 0, 1) := by decide +kernel
theorem dd_W_law_680 : decode cb_W_law 680 = .ok (.iload_n 3, 1) := by decide +kernel
theorem dd_W_law_681 : decode cb_W_law 681 = .ok (.iconst 1, 1) := by decide +kernel
theorem dd_W_law_682 : decode cb_W_law 682 = .ok (.iadd, 1) := by decide +kernel
theorem dd_W_law_683 : decode cb_W_law 683 = .ok (.iaload, 1) := by decide +kernel
theorem dd_W_law_684 : decode cb_W_law 684 = .ok (.aload_n 0, 1) := by decide +kernel
theorem dd_W_law_685 : decode cb_W_law 685 = .ok (.iload_n 3, 1) := by decide +kernel
theorem dd_W_law_686 : decode cb_W_law 686 = .ok (.iconst 2, 1) := by decide +kernel
theorem dd_W_law_687 : decode cb_W_law 687 = .ok (.iadd, 1) := by decide +kernel
theorem dd_W_law_688 : decode cb_W_law 688 = .ok (.iaload, 1) := by decide +kernel
theorem dd_W_law_689 : decode cb_W_law 689 = .ok (.invokevirtual 100, 3) := by decide +kernel
theorem dd_W_law_692 : decode cb_W_law 692 = .ok (.if_icmp .eq 18, 3) := by decide +kernel
theorem dd_W_law_695 : decode cb_W_law 695 = .ok (.iconst 0, 1) := by decide +kernel
