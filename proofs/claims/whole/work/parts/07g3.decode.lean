theorem dd_M_heard_1 : decode cb_M_heard 1 = .ok (.iload_n 1, 1) := by decide +kernel
theorem dd_M_heard_2 : decode cb_M_heard 2 = .ok (.invokevirtual 94, 3) := by decide +kernel
theorem dd_M_heard_5 : decode cb_M_heard 5 = .ok (.ifCond .eq 7, 3) := by decide +kernel
theorem dd_M_heard_8 : decode cb_M_heard 8 = .ok (.iconst (-1), 1) := by decide +kernel
theorem dd_M_heard_9 : decode cb_M_heard 9 = .ok (.goto 33, 3) := by decide +kernel
theorem dd_M_heard_12 : decode cb_M_heard 12 = .ok (.aload_n 0, 1) := by decide +kernel
theorem dd_M_heard_13 : decode cb_M_heard 13 = .ok (.getfield 7, 3) := by decide +kernel
theorem dd_M_heard_16 : decode cb_M_heard 16 = .ok (.iload_n 1, 1) := by decide +kernel
theorem dd_M_heard_17 : decode cb_M_heard 17 = .ok (.iaload, 1) := by decide +kernel
theorem dd_M_heard_18 : decode cb_M_heard 18 = .ok (.ifCond .eq 14, 3) := by decide +kernel
theorem dd_M_heard_21 : decode cb_M_heard 21 = .ok (.aload_n 0, 1) := by decide +kernel
theorem dd_M_heard_22 : decode cb_M_heard 22 = .ok (.getfield 7, 3) := by decide +kernel
theorem dd_M_heard_25 : decode cb_M_heard 25 = .ok (.iload_n 1, 1) := by decide +kernel
theorem dd_M_heard_26 : decode cb_M_heard 26 = .ok (.iaload, 1) := by decide +kernel
theorem dd_M_heard_27 : decode cb_M_heard 27 = .ok (.bipush 6, 2) := by decide +kernel
theorem dd_M_heard_29 : decode cb_M_heard 29 = .ok (.if_icmp .ne 7, 3) := by decide +kernel
theorem dd_M_heard_32 : decode cb_M_heard 32 = .ok (.iconst 0, 1) := by decide +kernel
theorem dd_M_heard_33 : decode cb_M_heard 33 = .ok (.goto 9, 3) := by decide +kernel
theorem dd_M_heard_36 : decode cb_M_heard 36 = .ok (.aload_n 0, 1) := by decide +kernel
theorem dd_M_heard_37 : decode cb_M_heard 37 = .ok (.getfield 16, 3) := by decide +kernel
theorem dd_M_heard_40 : decode cb_M_heard 40 = .ok (.iload_n 1, 1) := by decide +kernel
theorem dd_M_heard_41 : decode cb_M_heard 41 = .ok (.iaload, 1) := by decide +kernel
theorem dd_M_heard_42 : decode cb_M_heard 42 = .ok (.ireturn, 1) := by decide +kernel
theorem dd_M_tag_0 : decode cb_M_tag 0 = .ok (.aload_n 0, 1) := by decide +kernel
theorem dd_M_tag_1 : decode cb_M_tag 1 = .ok (.iload_n 1, 1) := by decide +kernel
theorem dd_M_tag_2 : decode cb_M_tag 2 = .ok (.invokevirtual 94, 3) := by decide +kernel
theorem dd_M_tag_5 : decode cb_M_tag 5 = .ok (.ifCond .eq 7, 3) := by decide +kernel
theorem dd_M_tag_8 : decode cb_M_tag 8 = .ok (.iconst (-1), 1) := by decide +kernel
theorem dd_M_tag_9 : decode cb_M_tag 9 = .ok (.goto 9, 3) := by decide +kernel
theorem dd_M_tag_12 : decode cb_M_tag 12 = .ok (.aload_n 0, 1) := by decide +kernel
theorem dd_M_tag_13 : decode cb_M_tag 13 = .ok (.getfield 25, 3) := by decide +kernel
theorem dd_M_tag_16 : decode cb_M_tag 16 = .ok (.iload_n 1, 1) := by decide +kernel
theorem dd_M_tag_17 : decode cb_M_tag 17 = .ok (.iaload, 1) := by decide +kernel
theorem dd_M_tag_18 : decode cb_M_tag 18 = .ok (.ireturn, 1) := by decide +kernel
theorem dd_M_result_0 : decode cb_M_result 0 = .ok (.aload_n 0, 1) := by decide +kernel
theorem dd_M_result_1 : decode cb_M_result 1 = .ok (.iload_n 1, 1) := by decide +kernel
theorem dd_M_result_2 : decode cb_M_result 2 = .ok (.invokevirtual 94, 3) := by decide +kernel
theorem dd_M_result_5 : decode cb_M_result 5 = .ok (.ifCond .eq 7, 3) := by decide +kernel
theorem dd_M_result_8 : decode cb_M_result 8 = .ok (.lconst 0, 1) := by decide +kernel
theorem dd_M_result_9 : decode cb_M_result 9 = .ok (.goto 9, 3) := by decide +kernel
theorem dd_M_result_12 : decode cb_M_result 12 = .ok (.aload_n 0, 1) := by decide +kernel
theorem dd_M_result_13 : decode cb_M_result 13 = .ok (.getfield 38, 3) := by decide +kernel
theorem dd_M_result_16 : decode cb_M_result 16 = .ok (.iload_n 1, 1) := by decide +kernel
theorem dd_M_result_17 : decode cb_M_result 17 = .ok (.laload, 1) := by decide +kernel
theorem dd_M_result_18 : decode cb_M_result 18 = .ok (.lreturn, 1) := by decide +kernel
theorem dd_M_finished_0 : decode cb_M_finished 0 = .ok (.aload_n 0, 1) := by decide +kernel
theorem dd_M_finished_1 : decode cb_M_finished 1 = .ok (.iload_n 1, 1) := by decide +kernel
theorem dd_M_finished_2 : decode cb_M_finished 2 = .ok (.invokevirtual 94, 3) := by decide +kernel
theorem dd_M_finished_5 : decode cb_M_finished 5 = .ok (.ifCond .eq 7, 3) := by decide +kernel
theorem dd_M_finished_8 : decode cb_M_finished 8 = .ok (.iconst (-1), 1) := by decide +kernel
theorem dd_M_finished_9 : decode cb_M_finished 9 = .ok (.goto 9, 3) := by decide +kernel
theorem dd_M_finished_12 : decode cb_M_finished 12 = .ok (.aload_n 0, 1) := by decide +kernel
theorem dd_M_finished_13 : decode cb_M_finished 13 = .ok (.getfield 28, 3) := by decide +kernel
theorem dd_M_finished_16 : decode cb_M_finished 16 = .ok (.iload_n 1, 1) := by decide +kernel
theorem dd_M_finished_17 : decode cb_M_finished 17 = .ok (.iaload, 1) := by decide +kernel
theorem dd_M_finished_18 : decode cb_M_finished 18 = .ok (.ireturn, 1) := by decide +kernel
theorem dd_M_held_0 : decode cb_M_held 0 = .ok (.aload_n 0, 1) := by decide +kernel
theorem dd_M_held_1 : decode cb_M_held 1 = .ok (.iload_n 1, 1) := by decide +kernel
theorem dd_M_held_2 : decode cb_M_held 2 = .ok (.invokevirtual 98, 3) := by decide +kernel
theorem dd_M_held_5 : decode cb_M_held 5 = .ok (.ifCond .eq 7, 3) := by decide +kernel
theorem dd_M_held_8 : decode cb_M_held 8 = .ok (.iconst (-1), 1) := by decide +kernel
theorem dd_M_held_9 : decode cb_M_held 9 = .ok (.goto 9, 3) := by decide +kernel
theorem dd_M_held_12 : decode cb_M_held 12 = .ok (.aload_n 0, 1) := by decide +kernel
theorem dd_M_held_13 : decode cb_M_held 13 = .ok (.getfield 48, 3) := by decide +kernel
theorem dd_M_held_16 : decode cb_M_held 16 = .ok (.iload_n 1, 1) := by decide +kernel
theorem dd_M_held_17 : decode cb_M_held 17 = .ok (.iaload, 1) := by decide +kernel
theorem dd_M_held_18 : decode cb_M_held 18 = .ok (.ireturn, 1) := by decide +kernel
theorem dd_M_heldTag_0 : decode cb_M_heldTag 0 = .ok (.aload_n 0, 1) := by decide +kernel
theorem dd_M_heldTag_1 : decode cb_M_heldTag 1 = .ok (.iload_n 1, 1) := by decide +kernel
theorem dd_M_heldTag_2 : decode cb_M_heldTag 2 = .ok (.invokevirtual 98, 3) := by decide +kernel
theorem dd_M_heldTag_5 : decode cb_M_heldTag 5 = .ok (.ifCond .eq 5, 3) := by decide +kernel
theorem dd_M_heldTag_8 : decode cb_M_heldTag 8 = .ok (.iconst (-1), 1) := by decide +kernel
theorem dd_M_heldTag_9 : decode cb_M_heldTag 9 = .ok (.ireturn, 1) := by decide +kernel
theorem dd_M_heldTag_10 : decode cb_M_heldTag 10 = .ok (.iconst 5, 1) := by decide +kernel
theorem dd_M_heldTag_11 : decode cb_M_heldTag 11 = .ok (.iload_n 1, 1) := by decide +kernel
theorem dd_M_heldTag_12 : decode cb_M_heldTag 12 = .ok (.imul, 1) := by decide +kernel
theorem dd_M_heldTag_13 : decode cb_M_heldTag 13 = .ok (.istore_n 3, 1) := by decide +kernel
theorem dd_M_heldTag_14 : decode cb_M_heldTag 14 = .ok (.iload_n 3, 1) := by decide +kernel
theorem dd_M_heldTag_15 : decode cb_M_heldTag 15 = .ok (.iconst 5, 1) := by decide +kernel
theorem dd_M_heldTag_16 : decode cb_M_heldTag 16 = .ok (.iload_n 1, 1) := by decide +kernel
theorem dd_M_heldTag_17 : decode cb_M_heldTag 17 = .ok (.imul, 1) := by decide +kernel
theorem dd_M_heldTag_18 : decode cb_M_heldTag 18 = .ok (.aload_n 0, 1) := by decide +kernel
theorem dd_M_heldTag_19 : decode cb_M_heldTag 19 = .ok (.getfield 48, 3) := by decide +kernel
theorem dd_M_heldTag_22 : decode cb_M_heldTag 22 = .ok (.iload_n 1, 1) := by decide +kernel
theorem dd_M_heldTag_23 : decode cb_M_heldTag 23 = .ok (.iaload, 1) := by decide +kernel
theorem dd_M_heldTag_24 : decode cb_M_heldTag 24 = .ok (.iadd, 1) := by decide +kernel
theorem dd_M_heldTag_25 : decode cb_M_heldTag 25 = .ok (.if_icmp .ge 77, 3) := by decide +kernel
theorem dd_M_heldTag_28 : decode cb_M_heldTag 28 = .ok (.iconst 0, 1) := by decide +kernel
theorem dd_M_heldTag_29 : decode cb_M_heldTag 29 = .ok (.istore 4, 2) := by decide +kernel
theorem dd_M_heldTag_31 : decode cb_M_heldTag 31 = .ok (.iconst 5, 1) := by decide +kernel
theorem dd_M_heldTag_32 : decode cb_M_heldTag 32 = .ok (.iload_n 1, 1) := by decide +kernel
theorem dd_M_heldTag_33 : decode cb_M_heldTag 33 = .ok (.imul, 1) := by decide +kernel
theorem dd_M_heldTag_34 : decode cb_M_heldTag 34 = .ok (.istore 5, 2) := by decide +kernel
theorem dd_M_heldTag_36 : decode cb_M_heldTag 36 = .ok (.iload 5, 2) := by decide +kernel
theorem dd_M_heldTag_38 : decode cb_M_heldTag 38 = .ok (.iconst 5, 1) := by decide +kernel
theorem dd_M_heldTag_39 : decode cb_M_heldTag 39 = .ok (.iload_n 1, 1) := by decide +kernel
theorem dd_M_heldTag_40 : decode cb_M_heldTag 40 = .ok (.imul, 1) := by decide +kernel
theorem dd_M_heldTag_41 : decode cb_M_heldTag 41 = .ok (.aload_n 0, 1) := by decide +kernel
theorem dd_M_heldTag_42 : decode cb_M_heldTag 42 = .ok (.getfield 48, 3) := by decide +kernel
theorem dd_M_heldTag_45 : decode cb_M_heldTag 45 = .ok (.iload_n 1, 1) := by decide +kernel
theorem dd_M_heldTag_46 : decode cb_M_heldTag 46 = .ok (.iaload, 1) := by decide +kernel
theorem dd_M_heldTag_47 : decode cb_M_heldTag 47 = .ok (.iadd, 1) := by decide +kernel
theorem dd_M_heldTag_48 : decode cb_M_heldTag 48 = .ok (.if_icmp .ge 35, 3) := by decide +kernel
theorem dd_M_heldTag_51 : decode cb_M_heldTag 51 = .ok (.iload 4, 2) := by decide +kernel
theorem dd_M_heldTag_53 : decode cb_M_heldTag 53 = .ok (.aload_n 0, 1) := by decide +kernel
theorem dd_M_heldTag_54 : decode cb_M_heldTag 54 = .ok (.getfield 51, 3) := by decide +kernel
theorem dd_M_heldTag_57 : decode cb_M_heldTag 57 = .ok (.iload 5, 2) := by decide +kernel
theorem dd_M_heldTag_59 : decode cb_M_heldTag 59 = .ok (.iaload, 1) := by decide +kernel
theorem dd_M_heldTag_60 : decode cb_M_heldTag 60 = .ok (.aload_n 0, 1) := by decide +kernel
theorem dd_M_heldTag_61 : decode cb_M_heldTag 61 = .ok (.getfield 51, 3) := by decide +kernel
theorem dd_M_heldTag_64 : decode cb_M_heldTag 64 = .ok (.iload_n 3, 1) := by decide +kernel
theorem dd_M_heldTag_65 : decode cb_M_heldTag 65 = .ok (.iaload, 1) := by decide +kernel
theorem dd_M_heldTag_66 : decode cb_M_heldTag 66 = .ok (.if_icmp .le 7, 3) := by decide +kernel
theorem dd_M_heldTag_69 : decode cb_M_heldTag 69 = .ok (.iconst 1, 1) := by decide +kernel
theorem dd_M_heldTag_70 : decode cb_M_heldTag 70 = .ok (.goto 4, 3) := by decide +kernel
theorem dd_M_heldTag_73 : decode cb_M_heldTag 73 = .ok (.iconst 0, 1) := by decide +kernel
theorem dd_M_heldTag_74 : decode cb_M_heldTag 74 = .ok (.iadd, 1) := by decide +kernel
theorem dd_M_heldTag_75 : decode cb_M_heldTag 75 = .ok (.istore 4, 2) := by decide +kernel
theorem dd_M_heldTag_77 : decode cb_M_heldTag 77 = .ok (.iinc 5 1, 3) := by decide +kernel
theorem dd_M_heldTag_80 : decode cb_M_heldTag 80 = .ok (.goto (-44), 3) := by decide +kernel
theorem dd_M_heldTag_83 : decode cb_M_heldTag 83 = .ok (.iload 4, 2) := by decide +kernel
theorem dd_M_heldTag_85 : decode cb_M_heldTag 85 = .ok (.iload_n 2, 1) := by decide +kernel
theorem dd_M_heldTag_86 : decode cb_M_heldTag 86 = .ok (.if_icmp .ne 10, 3) := by decide +kernel
theorem dd_M_heldTag_89 : decode cb_M_heldTag 89 = .ok (.aload_n 0, 1) := by decide +kernel
theorem dd_M_heldTag_90 : decode cb_M_heldTag 90 = .ok (.getfield 51, 3) := by decide +kernel
theorem dd_M_heldTag_93 : decode cb_M_heldTag 93 = .ok (.iload_n 3, 1) := by decide +kernel
theorem dd_M_heldTag_94 : decode cb_M_heldTag 94 = .ok (.iaload, 1) := by decide +kernel
theorem dd_M_heldTag_95 : decode cb_M_heldTag 95 = .ok (.ireturn, 1) := by decide +kernel
theorem dd_M_heldTag_96 : decode cb_M_heldTag 96 = .ok (.iinc 3 1, 3) := by decide +kernel
theorem dd_M_heldTag_99 : decode cb_M_heldTag 99 = .ok (.goto (-85), 3) := by decide +kernel
theorem dd_M_heldTag_102 : decode cb_M_heldTag 102 = .ok (.iconst (-1), 1) := by decide +kernel
theorem dd_M_heldTag_103 : decode cb_M_heldTag 103 = .ok (.ireturn, 1) := by decide +kernel
theorem dd_M_product_0 : decode cb_M_product 0 = .ok (.iconst 0, 1) := by decide +kernel
theorem dd_M_product_1 : decode cb_M_product 1 = .ok (.istore_n 3, 1) := by decide +kernel
theorem dd_M_product_2 : decode cb_M_product 2 = .ok (.iconst 0, 1) := by decide +kernel
theorem dd_M_product_3 : decode cb_M_product 3 = .ok (.istore 4, 2) := by decide +kernel
theorem dd_M_product_5 : decode cb_M_product 5 = .ok (.iload 4, 2) := by decide +kernel
theorem dd_M_product_7 : decode cb_M_product 7 = .ok (.bipush 8, 2) := by decide +kernel
theorem dd_M_product_9 : decode cb_M_product 9 = .ok (.if_icmp .ge 26, 3) := by decide +kernel
theorem dd_M_product_12 : decode cb_M_product 12 = .ok (.iload_n 2, 1) := by decide +kernel
theorem dd_M_product_13 : decode cb_M_product 13 = .ok (.iload 4, 2) := by decide +kernel
theorem dd_M_product_15 : decode cb_M_product 15 = .ok (.ishr, 1) := by decide +kernel
theorem dd_M_product_16 : decode cb_M_product 16 = .ok (.iconst 1, 1) := by decide +kernel
theorem dd_M_product_17 : decode cb_M_product 17 = .ok (.iand, 1) := by decide +kernel
theorem dd_M_product_18 : decode cb_M_product 18 = .ok (.iconst 1, 1) := by decide +kernel
theorem dd_M_product_19 : decode cb_M_product 19 = .ok (.if_icmp .ne 10, 3) := by decide +kernel
theorem dd_M_product_22 : decode cb_M_product 22 = .ok (.iload_n 3, 1) := by decide +kernel
theorem dd_M_product_23 : decode cb_M_product 23 = .ok (.iload_n 1, 1) := by decide +kernel
theorem dd_M_product_24 : decode cb_M_product 24 = .ok (.iload 4, 2) := by decide +kernel
theorem dd_M_product_26 : decode cb_M_product 26 = .ok (.ishl, 1) := by decide +kernel
theorem dd_M_product_27 : decode cb_M_product 27 = .ok (.ixor, 1) := by decide +kernel
theorem dd_M_product_28 : decode cb_M_product 28 = .ok (.istore_n 3, 1) := by decide +kernel
theorem dd_M_product_29 : decode cb_M_product 29 = .ok (.iinc 4 1, 3) := by decide +kernel
theorem dd_M_product_32 : decode cb_M_product 32 = .ok (.goto (-27), 3) := by decide +kernel
theorem dd_M_product_35 : decode cb_M_product 35 = .ok (.bipush 14, 2) := by decide +kernel
theorem dd_M_product_37 : decode cb_M_product 37 = .ok (.istore 4, 2) := by decide +kernel
theorem dd_M_product_39 : decode cb_M_product 39 = .ok (.iload 4, 2) := by decide +kernel
theorem dd_M_product_41 : decode cb_M_product 41 = .ok (.bipush 8, 2) := by decide +kernel
theorem dd_M_product_43 : decode cb_M_product 43 = .ok (.if_icmp .lt 31, 3) := by decide +kernel
theorem dd_M_product_46 : decode cb_M_product 46 = .ok (.iload_n 3, 1) := by decide +kernel
theorem dd_M_product_47 : decode cb_M_product 47 = .ok (.iload 4, 2) := by decide +kernel
theorem dd_M_product_49 : decode cb_M_product 49 = .ok (.ishr, 1) := by decide +kernel
theorem dd_M_product_50 : decode cb_M_product 50 = .ok (.iconst 1, 1) := by decide +kernel
theorem dd_M_product_51 : decode cb_M_product 51 = .ok (.iand, 1) := by decide +kernel
theorem dd_M_product_52 : decode cb_M_product 52 = .ok (.iconst 1, 1) := by decide +kernel
theorem dd_M_product_53 : decode cb_M_product 53 = .ok (.if_icmp .ne 15, 3) := by decide +kernel
theorem dd_M_product_56 : decode cb_M_product 56 = .ok (.iload_n 3, 1) := by decide +kernel
theorem dd_M_product_57 : decode cb_M_product 57 = .ok (.sipush 285, 3) := by decide +kernel
theorem dd_M_product_60 : decode cb_M_product 60 = .ok (.iload 4, 2) := by decide +kernel
theorem dd_M_product_62 : decode cb_M_product 62 = .ok (.bipush 8, 2) := by decide +kernel
theorem dd_M_product_64 : decode cb_M_product 64 = .ok (.isub, 1) := by decide +kernel
theorem dd_M_product_65 : decode cb_M_product 65 = .ok (.ishl, 1) := by decide +kernel
theorem dd_M_product_66 : decode cb_M_product 66 = .ok (.ixor, 1) := by decide +kernel
theorem dd_M_product_67 : decode cb_M_product 67 = .ok (.istore_n 3, 1) := by decide +kernel
theorem dd_M_product_68 : decode cb_M_product 68 = .ok (.iinc 4 (-1), 3) := by decide +kernel
theorem dd_M_product_71 : decode cb_M_product 71 = .ok (.goto (-32), 3) := by decide +kernel
theorem dd_M_product_74 : decode cb_M_product 74 = .ok (.iload_n 3, 1) := by decide +kernel
theorem dd_M_product_75 : decode cb_M_product 75 = .ok (.ireturn, 1) := by decide +kernel
theorem dd_M_fragment_0 : decode cb_M_fragment 0 = .ok (.aload_n 0, 1) := by decide +kernel
theorem dd_M_fragment_1 : decode cb_M_fragment 1 = .ok (.iload_n 1, 1) := by decide +kernel
theorem dd_M_fragment_2 : decode cb_M_fragment 2 = .ok (.invokevirtual 98, 3) := by decide +kernel
theorem dd_M_fragment_5 : decode cb_M_fragment 5 = .ok (.ifCond .ne 25, 3) := by decide +kernel
theorem dd_M_fragment_8 : decode cb_M_fragment 8 = .ok (.iload_n 3, 1) := by decide +kernel
theorem dd_M_fragment_9 : decode cb_M_fragment 9 = .ok (.ifCond .lt 21, 3) := by decide +kernel
theorem dd_M_fragment_12 : decode cb_M_fragment 12 = .ok (.iload_n 3, 1) := by decide +kernel
theorem dd_M_fragment_13 : decode cb_M_fragment 13 = .ok (.bipush 8, 2) := by decide +kernel
theorem dd_M_fragment_15 : decode cb_M_fragment 15 = .ok (.aload_n 0, 1) := by decide +kernel
theorem dd_M_fragment_16 : decode cb_M_fragment 16 = .ok (.getfield 85, 3) := by decide +kernel
theorem dd_M_fragment_19 : decode cb_M_fragment 19 = .ok (.iadd, 1) := by decide +kernel
theorem dd_M_fragment_20 : decode cb_M_fragment 20 = .ok (.iconst 1, 1) := by decide +kernel
theorem dd_M_fragment_21 : decode cb_M_fragment 21 = .ok (.isub, 1) := by decide +kernel
theorem dd_M_fragment_22 : decode cb_M_fragment 22 = .ok (.aload_n 0, 1) := by decide +kernel
theorem dd_M_fragment_23 : decode cb_M_fragment 23 = .ok (.getfield 85, 3) := by decide +kernel
theorem dd_M_fragment_26 : decode cb_M_fragment 26 = .ok (.idiv, 1) := by decide +kernel
theorem dd_M_fragment_27 : decode cb_M_fragment 27 = .ok (.if_icmp .lt 5, 3) := by decide +kernel
theorem dd_M_fragment_30 : decode cb_M_fragment 30 = .ok (.iconst (-1), 1) := by decide +kernel
theorem dd_M_fragment_31 : decode cb_M_fragment 31 = .ok (.ireturn, 1) := by decide +kernel
theorem dd_M_fragment_32 : decode cb_M_fragment 32 = .ok (.aload_n 0, 1) := by decide +kernel
theorem dd_M_fragment_33 : decode cb_M_fragment 33 = .ok (.iload_n 1, 1) := by decide +kernel
theorem dd_M_fragment_34 : decode cb_M_fragment 34 = .ok (.iload_n 2, 1) := by decide +kernel
theorem dd_M_fragment_35 : decode cb_M_fragment 35 = .ok (.invokevirtual 124, 3) := by decide +kernel
theorem dd_M_fragment_38 : decode cb_M_fragment 38 = .ok (.istore 4, 2) := by decide +kernel
theorem dd_M_fragment_40 : decode cb_M_fragment 40 = .ok (.iload 4, 2) := by decide +kernel
theorem dd_M_fragment_42 : decode cb_M_fragment 42 = .ok (.ifCond .ge 5, 3) := by decide +kernel
theorem dd_M_fragment_45 : decode cb_M_fragment 45 = .ok (.iconst (-1), 1) := by decide +kernel
theorem dd_M_fragment_46 : decode cb_M_fragment 46 = .ok (.ireturn, 1) := by decide +kernel
theorem dd_M_fragment_47 : decode cb_M_fragment 47 = .ok (.iconst 0, 1) := by decide +kernel
theorem dd_M_fragment_48 : decode cb_M_fragment 48 = .ok (.istore 5, 2) := by decide +kernel
theorem dd_M_fragment_50 : decode cb_M_fragment 50 = .ok (.iconst 1, 1) := by decide +kernel
theorem dd_M_fragment_51 : decode cb_M_fragment 51 = .ok (.istore 6, 2) := by decide +kernel
theorem dd_M_fragment_53 : decode cb_M_fragment 53 = .ok (.iconst 0, 1) := by decide +kernel
theorem dd_M_fragment_54 : decode cb_M_fragment 54 = .ok (.istore 7, 2) := by decide +kernel
theorem dd_M_fragment_56 : decode cb_M_fragment 56 = .ok (.iload 7, 2) := by decide +kernel
theorem dd_M_fragment_58 : decode cb_M_fragment 58 = .ok (.aload_n 0, 1) := by decide +kernel
theorem dd_M_fragment_59 : decode cb_M_fragment 59 = .ok (.getfield 85, 3) := by decide +kernel
theorem dd_M_fragment_62 : decode cb_M_fragment 62 = .ok (.if_icmp .ge 75, 3) := by decide +kernel
theorem dd_M_fragment_65 : decode cb_M_fragment 65 = .ok (.iload_n 3, 1) := by decide +kernel
theorem dd_M_fragment_66 : decode cb_M_fragment 66 = .ok (.aload_n 0, 1) := by decide +kernel
theorem dd_M_fragment_67 : decode cb_M_fragment 67 = .ok (.getfield 85, 3) := by decide +kernel
theorem dd_M_fragment_70 : decode cb_M_fragment 70 = .ok (.imul, 1) := by decide +kernel
theorem dd_M_fragment_71 : decode cb_M_fragment 71 = .ok (.iload 7, 2) := by decide +kernel
theorem dd_M_fragment_73 : decode cb_M_fragment 73 = .ok (.iadd, 1) := by decide +kernel
theorem dd_M_fragment_74 : decode cb_M_fragment 74 = .ok (.istore 8, 2) := by decide +kernel
theorem dd_M_fragment_76 : decode cb_M_fragment 76 = .ok (.iload 8, 2) := by decide +kernel
theorem dd_M_fragment_78 : decode cb_M_fragment 78 = .ok (.bipush 8, 2) := by decide +kernel
theorem dd_M_fragment_80 : decode cb_M_fragment 80 = .ok (.if_icmp .ge 24, 3) := by decide +kernel
theorem dd_M_fragment_83 : decode cb_M_fragment 83 = .ok (.aload_n 0, 1) := by decide +kernel
theorem dd_M_fragment_84 : decode cb_M_fragment 84 = .ok (.getfield 54, 3) := by decide +kernel
theorem dd_M_fragment_87 : decode cb_M_fragment 87 = .ok (.iload 4, 2) := by decide +kernel
theorem dd_M_fragment_89 : decode cb_M_fragment 89 = .ok (.laload, 1) := by decide +kernel
theorem dd_M_fragment_90 : decode cb_M_fragment 90 = .ok (.bipush 8, 2) := by decide +kernel
theorem dd_M_fragment_92 : decode cb_M_fragment 92 = .ok (.iload 8, 2) := by decide +kernel
theorem dd_M_fragment_94 : decode cb_M_fragment 94 = .ok (.imul, 1) := by decide +kernel
theorem dd_M_fragment_95 : decode cb_M_fragment 95 = .ok (.lshr, 1) := by decide +kernel
theorem dd_M_fragment_96 : decode cb_M_fragment 96 = .ok (.ldc2_w 143, 3) := by decide +kernel
theorem dd_M_fragment_99 : decode cb_M_fragment 99 = .ok (.land, 1) := by decide +kernel
theorem dd_M_fragment_100 : decode cb_M_fragment 100 = .ok (.l2i, 1) := by decide +kernel
theorem dd_M_fragment_101 : decode cb_M_fragment 101 = .ok (.goto 4, 3) := by decide +kernel
theorem dd_M_fragment_104 : decode cb_M_fragment 104 = .ok (.iconst 0, 1) := by decide +kernel
theorem dd_M_fragment_105 : decode cb_M_fragment 105 = .ok (.istore 9, 2) := by decide +kernel
theorem dd_M_fragment_107 : decode cb_M_fragment 107 = .ok (.iload 5, 2) := by decide +kernel
theorem dd_M_fragment_109 : decode cb_M_fragment 109 = .ok (.aload_n 0, 1) := by decide +kernel
theorem dd_M_fragment_110 : decode cb_M_fragment 110 = .ok (.iload 9, 2) := by decide +kernel
theorem dd_M_fragment_112 : decode cb_M_fragment 112 = .ok (.iload 6, 2) := by decide +kernel
theorem dd_M_fragment_114 : decode cb_M_fragment 114 = .ok (.invokevirtual 145, 3) := by decide +kernel
theorem dd_M_fragment_117 : decode cb_M_fragment 117 = .ok (.ixor, 1) := by decide +kernel
theorem dd_M_fragment_118 : decode cb_M_fragment 118 = .ok (.istore 5, 2) := by decide +kernel
theorem dd_M_fragment_120 : decode cb_M_fragment 120 = .ok (.aload_n 0, 1) := by decide +kernel
theorem dd_M_fragment_121 : decode cb_M_fragment 121 = .ok (.iload 6, 2) := by decide +kernel
theorem dd_M_fragment_123 : decode cb_M_fragment 123 = .ok (.iload_n 1, 1) := by decide +kernel
theorem dd_M_fragment_124 : decode cb_M_fragment 124 = .ok (.iconst 1, 1) := by decide +kernel
theorem dd_M_fragment_125 : decode cb_M_fragment 125 = .ok (.iadd, 1) := by decide +kernel
theorem dd_M_fragment_126 : decode cb_M_fragment 126 = .ok (.invokevirtual 145, 3) := by decide +kernel
theorem dd_M_fragment_129 : decode cb_M_fragment 129 = .ok (.istore 6, 2) := by decide +kernel
theorem dd_M_fragment_131 : decode cb_M_fragment 131 = .ok (.iinc 7 1, 3) := by decide +kernel
theorem dd_M_fragment_134 : decode cb_M_fragment 134 = .ok (.goto (-78), 3) := by decide +kernel
theorem dd_M_fragment_137 : decode cb_M_fragment 137 = .ok (.iload 5, 2) := by decide +kernel
theorem dd_M_fragment_139 : decode cb_M_fragment 139 = .ok (.ireturn, 1) := by decide +kernel
theorem dd_M_seal_0 : decode cb_M_seal 0 = .ok (.aload_n 0, 1) := by decide +kernel
theorem dd_M_seal_1 : decode cb_M_seal 1 = .ok (.iload_n 1, 1) := by decide +kernel
theorem dd_M_seal_2 : decode cb_M_seal 2 = .ok (.invokevirtual 98, 3) := by decide +kernel
theorem dd_M_seal_5 : decode cb_M_seal 5 = .ok (.ifCond .eq 7, 3) := by decide +kernel
theorem dd_M_seal_8 : decode cb_M_seal 8 = .ok (.iconst (-1), 1) := by decide +kernel
theorem dd_M_seal_9 : decode cb_M_seal 9 = .ok (.goto 9, 3) := by decide +kernel
theorem dd_M_seal_12 : decode cb_M_seal 12 = .ok (.aload_n 0, 1) := by decide +kernel
theorem dd_M_seal_13 : decode cb_M_seal 13 = .ok (.getfield 45, 3) := by decide +kernel
theorem dd_M_seal_16 : decode cb_M_seal 16 = .ok (.iload_n 1, 1) := by decide +kernel
theorem dd_M_seal_17 : decode cb_M_seal 17 = .ok (.iaload, 1) := by decide +kernel
theorem dd_M_seal_18 : decode cb_M_seal 18 = .ok (.ireturn, 1) := by decide +kernel
