theorem dd_X_finished_20 : decode cb_X_finished 20 = .ok (.iconst (-1), 1) := by decide +kernel
theorem dd_X_finished_21 : decode cb_X_finished 21 = .ok (.ireturn, 1) := by decide +kernel
theorem dd_X_held_0 : decode cb_X_held 0 = .ok (.aload_n 0, 1) := by decide +kernel
theorem dd_X_held_1 : decode cb_X_held 1 = .ok (.iload_n 1, 1) := by decide +kernel
theorem dd_X_held_2 : decode cb_X_held 2 = .ok (.invokevirtual 85, 3) := by decide +kernel
theorem dd_X_held_5 : decode cb_X_held 5 = .ok (.ifCond .eq 15, 3) := by decide +kernel
theorem dd_X_held_8 : decode cb_X_held 8 = .ok (.aload_n 0, 1) := by decide +kernel
theorem dd_X_held_9 : decode cb_X_held 9 = .ok (.getfield 40, 3) := by decide +kernel
theorem dd_X_held_12 : decode cb_X_held 12 = .ok (.iload_n 1, 1) := by decide +kernel
theorem dd_X_held_13 : decode cb_X_held 13 = .ok (.aaload, 1) := by decide +kernel
theorem dd_X_held_14 : decode cb_X_held 14 = .ok (.getfield 143, 3) := by decide +kernel
theorem dd_X_held_17 : decode cb_X_held 17 = .ok (.goto 4, 3) := by decide +kernel
theorem dd_X_held_20 : decode cb_X_held 20 = .ok (.iconst (-1), 1) := by decide +kernel
theorem dd_X_held_21 : decode cb_X_held 21 = .ok (.ireturn, 1) := by decide +kernel
theorem dd_X_heldTag_0 : decode cb_X_heldTag 0 = .ok (.aload_n 0, 1) := by decide +kernel
theorem dd_X_heldTag_1 : decode cb_X_heldTag 1 = .ok (.iload_n 1, 1) := by decide +kernel
theorem dd_X_heldTag_2 : decode cb_X_heldTag 2 = .ok (.invokevirtual 85, 3) := by decide +kernel
theorem dd_X_heldTag_5 : decode cb_X_heldTag 5 = .ok (.ifCond .eq 20, 3) := by decide +kernel
theorem dd_X_heldTag_8 : decode cb_X_heldTag 8 = .ok (.iload_n 2, 1) := by decide +kernel
theorem dd_X_heldTag_9 : decode cb_X_heldTag 9 = .ok (.ifCond .lt 16, 3) := by decide +kernel
theorem dd_X_heldTag_12 : decode cb_X_heldTag 12 = .ok (.iload_n 2, 1) := by decide +kernel
theorem dd_X_heldTag_13 : decode cb_X_heldTag 13 = .ok (.aload_n 0, 1) := by decide +kernel
theorem dd_X_heldTag_14 : decode cb_X_heldTag 14 = .ok (.getfield 40, 3) := by decide +kernel
theorem dd_X_heldTag_17 : decode cb_X_heldTag 17 = .ok (.iload_n 1, 1) := by decide +kernel
theorem dd_X_heldTag_18 : decode cb_X_heldTag 18 = .ok (.aaload, 1) := by decide +kernel
theorem dd_X_heldTag_19 : decode cb_X_heldTag 19 = .ok (.getfield 143, 3) := by decide +kernel
theorem dd_X_heldTag_22 : decode cb_X_heldTag 22 = .ok (.if_icmp .lt 5, 3) := by decide +kernel
theorem dd_X_heldTag_25 : decode cb_X_heldTag 25 = .ok (.iconst (-1), 1) := by decide +kernel
theorem dd_X_heldTag_26 : decode cb_X_heldTag 26 = .ok (.ireturn, 1) := by decide +kernel
theorem dd_X_heldTag_27 : decode cb_X_heldTag 27 = .ok (.aload_n 0, 1) := by decide +kernel
theorem dd_X_heldTag_28 : decode cb_X_heldTag 28 = .ok (.getfield 40, 3) := by decide +kernel
theorem dd_X_heldTag_31 : decode cb_X_heldTag 31 = .ok (.iload_n 1, 1) := by decide +kernel
theorem dd_X_heldTag_32 : decode cb_X_heldTag 32 = .ok (.aaload, 1) := by decide +kernel
theorem dd_X_heldTag_33 : decode cb_X_heldTag 33 = .ok (.getfield 146, 3) := by decide +kernel
theorem dd_X_heldTag_36 : decode cb_X_heldTag 36 = .ok (.iload_n 2, 1) := by decide +kernel
theorem dd_X_heldTag_37 : decode cb_X_heldTag 37 = .ok (.iaload, 1) := by decide +kernel
theorem dd_X_heldTag_38 : decode cb_X_heldTag 38 = .ok (.ireturn, 1) := by decide +kernel
theorem dd_X_fragment_0 : decode cb_X_fragment 0 = .ok (.aload_n 0, 1) := by decide +kernel
theorem dd_X_fragment_1 : decode cb_X_fragment 1 = .ok (.iload_n 1, 1) := by decide +kernel
theorem dd_X_fragment_2 : decode cb_X_fragment 2 = .ok (.invokevirtual 85, 3) := by decide +kernel
theorem dd_X_fragment_5 : decode cb_X_fragment 5 = .ok (.ifCond .eq 18, 3) := by decide +kernel
theorem dd_X_fragment_8 : decode cb_X_fragment 8 = .ok (.iload_n 3, 1) := by decide +kernel
theorem dd_X_fragment_9 : decode cb_X_fragment 9 = .ok (.ifCond .lt 14, 3) := by decide +kernel
theorem dd_X_fragment_12 : decode cb_X_fragment 12 = .ok (.iload_n 3, 1) := by decide +kernel
theorem dd_X_fragment_13 : decode cb_X_fragment 13 = .ok (.aload_n 0, 1) := by decide +kernel
theorem dd_X_fragment_14 : decode cb_X_fragment 14 = .ok (.getfield 25, 3) := by decide +kernel
theorem dd_X_fragment_17 : decode cb_X_fragment 17 = .ok (.getfield 150, 3) := by decide +kernel
theorem dd_X_fragment_20 : decode cb_X_fragment 20 = .ok (.if_icmp .lt 5, 3) := by decide +kernel
theorem dd_X_fragment_23 : decode cb_X_fragment 23 = .ok (.iconst (-1), 1) := by decide +kernel
theorem dd_X_fragment_24 : decode cb_X_fragment 24 = .ok (.ireturn, 1) := by decide +kernel
theorem dd_X_fragment_25 : decode cb_X_fragment 25 = .ok (.aload_n 0, 1) := by decide +kernel
theorem dd_X_fragment_26 : decode cb_X_fragment 26 = .ok (.getfield 40, 3) := by decide +kernel
theorem dd_X_fragment_29 : decode cb_X_fragment 29 = .ok (.iload_n 1, 1) := by decide +kernel
theorem dd_X_fragment_30 : decode cb_X_fragment 30 = .ok (.aaload, 1) := by decide +kernel
theorem dd_X_fragment_31 : decode cb_X_fragment 31 = .ok (.iload_n 2, 1) := by decide +kernel
theorem dd_X_fragment_32 : decode cb_X_fragment 32 = .ok (.invokevirtual 153, 3) := by decide +kernel
theorem dd_X_fragment_35 : decode cb_X_fragment 35 = .ok (.istore 4, 2) := by decide +kernel
theorem dd_X_fragment_37 : decode cb_X_fragment 37 = .ok (.iload 4, 2) := by decide +kernel
theorem dd_X_fragment_39 : decode cb_X_fragment 39 = .ok (.ifCond .ge 7, 3) := by decide +kernel
theorem dd_X_fragment_42 : decode cb_X_fragment 42 = .ok (.iconst (-1), 1) := by decide +kernel
theorem dd_X_fragment_43 : decode cb_X_fragment 43 = .ok (.goto 19, 3) := by decide +kernel
theorem dd_X_fragment_46 : decode cb_X_fragment 46 = .ok (.aload_n 0, 1) := by decide +kernel
theorem dd_X_fragment_47 : decode cb_X_fragment 47 = .ok (.getfield 40, 3) := by decide +kernel
theorem dd_X_fragment_50 : decode cb_X_fragment 50 = .ok (.iload_n 1, 1) := by decide +kernel
theorem dd_X_fragment_51 : decode cb_X_fragment 51 = .ok (.aaload, 1) := by decide +kernel
theorem dd_X_fragment_52 : decode cb_X_fragment 52 = .ok (.getfield 156, 3) := by decide +kernel
theorem dd_X_fragment_55 : decode cb_X_fragment 55 = .ok (.iload 4, 2) := by decide +kernel
theorem dd_X_fragment_57 : decode cb_X_fragment 57 = .ok (.laload, 1) := by decide +kernel
theorem dd_X_fragment_58 : decode cb_X_fragment 58 = .ok (.iload_n 3, 1) := by decide +kernel
theorem dd_X_fragment_59 : decode cb_X_fragment 59 = .ok (.invokestatic 160, 3) := by decide +kernel
theorem dd_X_fragment_62 : decode cb_X_fragment 62 = .ok (.ireturn, 1) := by decide +kernel
theorem dd_X_seal_0 : decode cb_X_seal 0 = .ok (.aload_n 0, 1) := by decide +kernel
theorem dd_X_seal_1 : decode cb_X_seal 1 = .ok (.iload_n 1, 1) := by decide +kernel
theorem dd_X_seal_2 : decode cb_X_seal 2 = .ok (.invokevirtual 85, 3) := by decide +kernel
theorem dd_X_seal_5 : decode cb_X_seal 5 = .ok (.ifCond .eq 15, 3) := by decide +kernel
theorem dd_X_seal_8 : decode cb_X_seal 8 = .ok (.aload_n 0, 1) := by decide +kernel
theorem dd_X_seal_9 : decode cb_X_seal 9 = .ok (.getfield 40, 3) := by decide +kernel
theorem dd_X_seal_12 : decode cb_X_seal 12 = .ok (.iload_n 1, 1) := by decide +kernel
theorem dd_X_seal_13 : decode cb_X_seal 13 = .ok (.aaload, 1) := by decide +kernel
theorem dd_X_seal_14 : decode cb_X_seal 14 = .ok (.getfield 164, 3) := by decide +kernel
theorem dd_X_seal_17 : decode cb_X_seal 17 = .ok (.goto 4, 3) := by decide +kernel
theorem dd_X_seal_20 : decode cb_X_seal 20 = .ok (.iconst (-1), 1) := by decide +kernel
theorem dd_X_seal_21 : decode cb_X_seal 21 = .ok (.ireturn, 1) := by decide +kernel
theorem dd_X_requests_0 : decode cb_X_requests 0 = .ok (.aload_n 0, 1) := by decide +kernel
theorem dd_X_requests_1 : decode cb_X_requests 1 = .ok (.iload_n 1, 1) := by decide +kernel
theorem dd_X_requests_2 : decode cb_X_requests 2 = .ok (.invokevirtual 68, 3) := by decide +kernel
theorem dd_X_requests_5 : decode cb_X_requests 5 = .ok (.ifCond .eq 28, 3) := by decide +kernel
theorem dd_X_requests_8 : decode cb_X_requests 8 = .ok (.aload_n 0, 1) := by decide +kernel
theorem dd_X_requests_9 : decode cb_X_requests 9 = .ok (.iload_n 2, 1) := by decide +kernel
theorem dd_X_requests_10 : decode cb_X_requests 10 = .ok (.invokevirtual 85, 3) := by decide +kernel
theorem dd_X_requests_13 : decode cb_X_requests 13 = .ok (.ifCond .eq 20, 3) := by decide +kernel
theorem dd_X_requests_16 : decode cb_X_requests 16 = .ok (.aload_n 0, 1) := by decide +kernel
theorem dd_X_requests_17 : decode cb_X_requests 17 = .ok (.getfield 49, 3) := by decide +kernel
theorem dd_X_requests_20 : decode cb_X_requests 20 = .ok (.aload_n 0, 1) := by decide +kernel
theorem dd_X_requests_21 : decode cb_X_requests 21 = .ok (.iload_n 1, 1) := by decide +kernel
theorem dd_X_requests_22 : decode cb_X_requests 22 = .ok (.iload_n 2, 1) := by decide +kernel
theorem dd_X_requests_23 : decode cb_X_requests 23 = .ok (.invokevirtual 88, 3) := by decide +kernel
theorem dd_X_requests_26 : decode cb_X_requests 26 = .ok (.aaload, 1) := by decide +kernel
theorem dd_X_requests_27 : decode cb_X_requests 27 = .ok (.getfield 167, 3) := by decide +kernel
theorem dd_X_requests_30 : decode cb_X_requests 30 = .ok (.goto 4, 3) := by decide +kernel
theorem dd_X_requests_33 : decode cb_X_requests 33 = .ok (.iconst (-1), 1) := by decide +kernel
theorem dd_X_requests_34 : decode cb_X_requests 34 = .ok (.ireturn, 1) := by decide +kernel
theorem dd_X_replies_0 : decode cb_X_replies 0 = .ok (.aload_n 0, 1) := by decide +kernel
theorem dd_X_replies_1 : decode cb_X_replies 1 = .ok (.iload_n 1, 1) := by decide +kernel
theorem dd_X_replies_2 : decode cb_X_replies 2 = .ok (.invokevirtual 68, 3) := by decide +kernel
theorem dd_X_replies_5 : decode cb_X_replies 5 = .ok (.ifCond .eq 28, 3) := by decide +kernel
theorem dd_X_replies_8 : decode cb_X_replies 8 = .ok (.aload_n 0, 1) := by decide +kernel
theorem dd_X_replies_9 : decode cb_X_replies 9 = .ok (.iload_n 2, 1) := by decide +kernel
theorem dd_X_replies_10 : decode cb_X_replies 10 = .ok (.invokevirtual 85, 3) := by decide +kernel
theorem dd_X_replies_13 : decode cb_X_replies 13 = .ok (.ifCond .eq 20, 3) := by decide +kernel
theorem dd_X_replies_16 : decode cb_X_replies 16 = .ok (.aload_n 0, 1) := by decide +kernel
theorem dd_X_replies_17 : decode cb_X_replies 17 = .ok (.getfield 53, 3) := by decide +kernel
theorem dd_X_replies_20 : decode cb_X_replies 20 = .ok (.aload_n 0, 1) := by decide +kernel
theorem dd_X_replies_21 : decode cb_X_replies 21 = .ok (.iload_n 1, 1) := by decide +kernel
theorem dd_X_replies_22 : decode cb_X_replies 22 = .ok (.iload_n 2, 1) := by decide +kernel
theorem dd_X_replies_23 : decode cb_X_replies 23 = .ok (.invokevirtual 88, 3) := by decide +kernel
theorem dd_X_replies_26 : decode cb_X_replies 26 = .ok (.aaload, 1) := by decide +kernel
theorem dd_X_replies_27 : decode cb_X_replies 27 = .ok (.getfield 167, 3) := by decide +kernel
theorem dd_X_replies_30 : decode cb_X_replies 30 = .ok (.goto 4, 3) := by decide +kernel
theorem dd_X_replies_33 : decode cb_X_replies 33 = .ok (.iconst (-1), 1) := by decide +kernel
theorem dd_X_replies_34 : decode cb_X_replies 34 = .ok (.ireturn, 1) := by decide +kernel
theorem dd_X_quorum_0 : decode cb_X_quorum 0 = .ok (.aload_n 0, 1) := by decide +kernel
theorem dd_X_quorum_1 : decode cb_X_quorum 1 = .ok (.getfield 17, 3) := by decide +kernel
theorem dd_X_quorum_4 : decode cb_X_quorum 4 = .ok (.ireturn, 1) := by decide +kernel
theorem dd_X_between_0 : decode cb_X_between 0 = .ok (.iload_n 0, 1) := by decide +kernel
theorem dd_X_between_1 : decode cb_X_between 1 = .ok (.iload_n 1, 1) := by decide +kernel
theorem dd_X_between_2 : decode cb_X_between 2 = .ok (.iload_n 2, 1) := by decide +kernel
theorem dd_X_between_3 : decode cb_X_between 3 = .ok (.invokestatic 170, 3) := by decide +kernel
theorem dd_X_between_6 : decode cb_X_between 6 = .ok (.invokestatic 175, 3) := by decide +kernel
theorem dd_X_between_9 : decode cb_X_between 9 = .ok (.ireturn, 1) := by decide +kernel
theorem dd_X_emptyRows_0 : decode cb_X_emptyRows 0 = .ok (.iload_n 0, 1) := by decide +kernel
theorem dd_X_emptyRows_1 : decode cb_X_emptyRows 1 = .ok (.anewarray 93, 3) := by decide +kernel
theorem dd_X_emptyRows_4 : decode cb_X_emptyRows 4 = .ok (.astore_n 1, 1) := by decide +kernel
theorem dd_X_emptyRows_5 : decode cb_X_emptyRows 5 = .ok (.iconst 0, 1) := by decide +kernel
theorem dd_X_emptyRows_6 : decode cb_X_emptyRows 6 = .ok (.istore_n 2, 1) := by decide +kernel
theorem dd_X_emptyRows_7 : decode cb_X_emptyRows 7 = .ok (.iload_n 2, 1) := by decide +kernel
theorem dd_X_emptyRows_8 : decode cb_X_emptyRows 8 = .ok (.iload_n 0, 1) := by decide +kernel
theorem dd_X_emptyRows_9 : decode cb_X_emptyRows 9 = .ok (.if_icmp .ge 19, 3) := by decide +kernel
theorem dd_X_emptyRows_12 : decode cb_X_emptyRows 12 = .ok (.aload_n 1, 1) := by decide +kernel
theorem dd_X_emptyRows_13 : decode cb_X_emptyRows 13 = .ok (.iload_n 2, 1) := by decide +kernel
theorem dd_X_emptyRows_14 : decode cb_X_emptyRows 14 = .ok (.new 93, 3) := by decide +kernel
theorem dd_X_emptyRows_17 : decode cb_X_emptyRows 17 = .ok (.dup, 1) := by decide +kernel
theorem dd_X_emptyRows_18 : decode cb_X_emptyRows 18 = .ok (.invokespecial 178, 3) := by decide +kernel
theorem dd_X_emptyRows_21 : decode cb_X_emptyRows 21 = .ok (.aastore, 1) := by decide +kernel
theorem dd_X_emptyRows_22 : decode cb_X_emptyRows 22 = .ok (.iinc 2 1, 3) := by decide +kernel
theorem dd_X_emptyRows_25 : decode cb_X_emptyRows 25 = .ok (.goto (-18), 3) := by decide +kernel
theorem dd_X_emptyRows_28 : decode cb_X_emptyRows 28 = .ok (.aload_n 1, 1) := by decide +kernel
theorem dd_X_emptyRows_29 : decode cb_X_emptyRows 29 = .ok (.areturn, 1) := by decide +kernel
theorem dd_X_isClient_0 : decode cb_X_isClient 0 = .ok (.iload_n 1, 1) := by decide +kernel
theorem dd_X_isClient_1 : decode cb_X_isClient 1 = .ok (.ifCond .lt 12, 3) := by decide +kernel
theorem dd_X_isClient_4 : decode cb_X_isClient 4 = .ok (.iload_n 1, 1) := by decide +kernel
theorem dd_X_isClient_5 : decode cb_X_isClient 5 = .ok (.iconst 5, 1) := by decide +kernel
theorem dd_X_isClient_6 : decode cb_X_isClient 6 = .ok (.if_icmp .ge 7, 3) := by decide +kernel
theorem dd_X_isClient_9 : decode cb_X_isClient 9 = .ok (.iconst 1, 1) := by decide +kernel
theorem dd_X_isClient_10 : decode cb_X_isClient 10 = .ok (.goto 4, 3) := by decide +kernel
theorem dd_X_isClient_13 : decode cb_X_isClient 13 = .ok (.iconst 0, 1) := by decide +kernel
theorem dd_X_isClient_14 : decode cb_X_isClient 14 = .ok (.ireturn, 1) := by decide +kernel
theorem dd_X_isServer_0 : decode cb_X_isServer 0 = .ok (.iload_n 1, 1) := by decide +kernel
theorem dd_X_isServer_1 : decode cb_X_isServer 1 = .ok (.ifCond .lt 16, 3) := by decide +kernel
theorem dd_X_isServer_4 : decode cb_X_isServer 4 = .ok (.iload_n 1, 1) := by decide +kernel
theorem dd_X_isServer_5 : decode cb_X_isServer 5 = .ok (.aload_n 0, 1) := by decide +kernel
theorem dd_X_isServer_6 : decode cb_X_isServer 6 = .ok (.getfield 40, 3) := by decide +kernel
theorem dd_X_isServer_9 : decode cb_X_isServer 9 = .ok (.arraylength, 1) := by decide +kernel
theorem dd_X_isServer_10 : decode cb_X_isServer 10 = .ok (.if_icmp .ge 7, 3) := by decide +kernel
theorem dd_X_isServer_13 : decode cb_X_isServer 13 = .ok (.iconst 1, 1) := by decide +kernel
theorem dd_X_isServer_14 : decode cb_X_isServer 14 = .ok (.goto 4, 3) := by decide +kernel
theorem dd_X_isServer_17 : decode cb_X_isServer 17 = .ok (.iconst 0, 1) := by decide +kernel
theorem dd_X_isServer_18 : decode cb_X_isServer 18 = .ok (.ireturn, 1) := by decide +kernel
theorem dd_X_rowOf_0 : decode cb_X_rowOf 0 = .ok (.iload_n 1, 1) := by decide +kernel
theorem dd_X_rowOf_1 : decode cb_X_rowOf 1 = .ok (.aload_n 0, 1) := by decide +kernel
theorem dd_X_rowOf_2 : decode cb_X_rowOf 2 = .ok (.getfield 40, 3) := by decide +kernel
theorem dd_X_rowOf_5 : decode cb_X_rowOf 5 = .ok (.arraylength, 1) := by decide +kernel
theorem dd_X_rowOf_6 : decode cb_X_rowOf 6 = .ok (.imul, 1) := by decide +kernel
theorem dd_X_rowOf_7 : decode cb_X_rowOf 7 = .ok (.iload_n 2, 1) := by decide +kernel
theorem dd_X_rowOf_8 : decode cb_X_rowOf 8 = .ok (.iadd, 1) := by decide +kernel
theorem dd_X_rowOf_9 : decode cb_X_rowOf 9 = .ok (.ireturn, 1) := by decide +kernel
theorem dd_X_refusalToBegin_0 : decode cb_X_refusalToBegin 0 = .ok (.aload_n 0, 1) := by decide +kernel
theorem dd_X_refusalToBegin_1 : decode cb_X_refusalToBegin 1 = .ok (.iload_n 1, 1) := by decide +kernel
theorem dd_X_refusalToBegin_2 : decode cb_X_refusalToBegin 2 = .ok (.invokevirtual 68, 3) := by decide +kernel
theorem dd_X_refusalToBegin_5 : decode cb_X_refusalToBegin 5 = .ok (.ifCond .ne 5, 3) := by decide +kernel
theorem dd_X_refusalToBegin_8 : decode cb_X_refusalToBegin 8 = .ok (.iconst (-1), 1) := by decide +kernel
theorem dd_X_refusalToBegin_9 : decode cb_X_refusalToBegin 9 = .ok (.ireturn, 1) := by decide +kernel
theorem dd_X_refusalToBegin_10 : decode cb_X_refusalToBegin 10 = .ok (.aload_n 0, 1) := by decide +kernel
theorem dd_X_refusalToBegin_11 : decode cb_X_refusalToBegin 11 = .ok (.getfield 31, 3) := by decide +kernel
theorem dd_X_refusalToBegin_14 : decode cb_X_refusalToBegin 14 = .ok (.iload_n 1, 1) := by decide +kernel
theorem dd_X_refusalToBegin_15 : decode cb_X_refusalToBegin 15 = .ok (.aaload, 1) := by decide +kernel
theorem dd_X_refusalToBegin_16 : decode cb_X_refusalToBegin 16 = .ok (.getfield 72, 3) := by decide +kernel
theorem dd_X_refusalToBegin_19 : decode cb_X_refusalToBegin 19 = .ok (.ifCond .eq 6, 3) := by decide +kernel
theorem dd_X_refusalToBegin_22 : decode cb_X_refusalToBegin 22 = .ok (.bipush (-2), 2) := by decide +kernel
theorem dd_X_refusalToBegin_24 : decode cb_X_refusalToBegin 24 = .ok (.ireturn, 1) := by decide +kernel
theorem dd_X_refusalToBegin_25 : decode cb_X_refusalToBegin 25 = .ok (.aload_n 0, 1) := by decide +kernel
theorem dd_X_refusalToBegin_26 : decode cb_X_refusalToBegin 26 = .ok (.getfield 31, 3) := by decide +kernel
theorem dd_X_refusalToBegin_29 : decode cb_X_refusalToBegin 29 = .ok (.iload_n 1, 1) := by decide +kernel
theorem dd_X_refusalToBegin_30 : decode cb_X_refusalToBegin 30 = .ok (.aaload, 1) := by decide +kernel
theorem dd_X_refusalToBegin_31 : decode cb_X_refusalToBegin 31 = .ok (.invokevirtual 130, 3) := by decide +kernel
theorem dd_X_refusalToBegin_34 : decode cb_X_refusalToBegin 34 = .ok (.ifCond .eq 6, 3) := by decide +kernel
theorem dd_X_refusalToBegin_37 : decode cb_X_refusalToBegin 37 = .ok (.bipush (-3), 2) := by decide +kernel
theorem dd_X_refusalToBegin_39 : decode cb_X_refusalToBegin 39 = .ok (.ireturn, 1) := by decide +kernel
theorem dd_X_refusalToBegin_40 : decode cb_X_refusalToBegin 40 = .ok (.aload_n 0, 1) := by decide +kernel
theorem dd_X_refusalToBegin_41 : decode cb_X_refusalToBegin 41 = .ok (.iload_n 1, 1) := by decide +kernel
theorem dd_X_refusalToBegin_42 : decode cb_X_refusalToBegin 42 = .ok (.invokevirtual 82, 3) := by decide +kernel
theorem dd_X_refusalToBegin_45 : decode cb_X_refusalToBegin 45 = .ok (.ifCond .eq 8, 3) := by decide +kernel
theorem dd_X_refusalToBegin_48 : decode cb_X_refusalToBegin 48 = .ok (.bipush (-4), 2) := by decide +kernel
theorem dd_X_refusalToBegin_50 : decode cb_X_refusalToBegin 50 = .ok (.goto 4, 3) := by decide +kernel
theorem dd_X_refusalToBegin_53 : decode cb_X_refusalToBegin 53 = .ok (.iconst 0, 1) := by decide +kernel
theorem dd_X_refusalToBegin_54 : decode cb_X_refusalToBegin 54 = .ok (.ireturn, 1) := by decide +kernel
theorem dd_X_isCrowded_0 : decode cb_X_isCrowded 0 = .ok (.iconst 0, 1) := by decide +kernel
theorem dd_X_isCrowded_1 : decode cb_X_isCrowded 1 = .ok (.istore_n 2, 1) := by decide +kernel
theorem dd_X_isCrowded_2 : decode cb_X_isCrowded 2 = .ok (.iload_n 2, 1) := by decide +kernel
theorem dd_X_isCrowded_3 : decode cb_X_isCrowded 3 = .ok (.aload_n 0, 1) := by decide +kernel
theorem dd_X_isCrowded_4 : decode cb_X_isCrowded 4 = .ok (.getfield 40, 3) := by decide +kernel
theorem dd_X_isCrowded_7 : decode cb_X_isCrowded 7 = .ok (.arraylength, 1) := by decide +kernel
theorem dd_X_isCrowded_8 : decode cb_X_isCrowded 8 = .ok (.if_icmp .ge 58, 3) := by decide +kernel
theorem dd_X_isCrowded_11 : decode cb_X_isCrowded 11 = .ok (.aload_n 0, 1) := by decide +kernel
theorem dd_X_isCrowded_12 : decode cb_X_isCrowded 12 = .ok (.getfield 49, 3) := by decide +kernel
theorem dd_X_isCrowded_15 : decode cb_X_isCrowded 15 = .ok (.aload_n 0, 1) := by decide +kernel
theorem dd_X_isCrowded_16 : decode cb_X_isCrowded 16 = .ok (.iload_n 1, 1) := by decide +kernel
theorem dd_X_isCrowded_17 : decode cb_X_isCrowded 17 = .ok (.iload_n 2, 1) := by decide +kernel
theorem dd_X_isCrowded_18 : decode cb_X_isCrowded 18 = .ok (.invokevirtual 88, 3) := by decide +kernel
theorem dd_X_isCrowded_21 : decode cb_X_isCrowded 21 = .ok (.aaload, 1) := by decide +kernel
theorem dd_X_isCrowded_22 : decode cb_X_isCrowded 22 = .ok (.getfield 167, 3) := by decide +kernel
theorem dd_X_isCrowded_25 : decode cb_X_isCrowded 25 = .ok (.aload_n 0, 1) := by decide +kernel
theorem dd_X_isCrowded_26 : decode cb_X_isCrowded 26 = .ok (.getfield 53, 3) := by decide +kernel
theorem dd_X_isCrowded_29 : decode cb_X_isCrowded 29 = .ok (.aload_n 0, 1) := by decide +kernel
theorem dd_X_isCrowded_30 : decode cb_X_isCrowded 30 = .ok (.iload_n 1, 1) := by decide +kernel
theorem dd_X_isCrowded_31 : decode cb_X_isCrowded 31 = .ok (.iload_n 2, 1) := by decide +kernel
theorem dd_X_isCrowded_32 : decode cb_X_isCrowded 32 = .ok (.invokevirtual 88, 3) := by decide +kernel
theorem dd_X_isCrowded_35 : decode cb_X_isCrowded 35 = .ok (.aaload, 1) := by decide +kernel
theorem dd_X_isCrowded_36 : decode cb_X_isCrowded 36 = .ok (.getfield 167, 3) := by decide +kernel
theorem dd_X_isCrowded_39 : decode cb_X_isCrowded 39 = .ok (.iadd, 1) := by decide +kernel
theorem dd_X_isCrowded_40 : decode cb_X_isCrowded 40 = .ok (.istore_n 3, 1) := by decide +kernel
theorem dd_X_isCrowded_41 : decode cb_X_isCrowded 41 = .ok (.aload_n 0, 1) := by decide +kernel
theorem dd_X_isCrowded_42 : decode cb_X_isCrowded 42 = .ok (.getfield 40, 3) := by decide +kernel
theorem dd_X_isCrowded_45 : decode cb_X_isCrowded 45 = .ok (.iload_n 2, 1) := by decide +kernel
theorem dd_X_isCrowded_46 : decode cb_X_isCrowded 46 = .ok (.aaload, 1) := by decide +kernel
theorem dd_X_isCrowded_47 : decode cb_X_isCrowded 47 = .ok (.getfield 123, 3) := by decide +kernel
theorem dd_X_isCrowded_50 : decode cb_X_isCrowded 50 = .ok (.ifCond .ne 10, 3) := by decide +kernel
theorem dd_X_isCrowded_53 : decode cb_X_isCrowded 53 = .ok (.iload_n 3, 1) := by decide +kernel
theorem dd_X_isCrowded_54 : decode cb_X_isCrowded 54 = .ok (.iconst 4, 1) := by decide +kernel
theorem dd_X_isCrowded_55 : decode cb_X_isCrowded 55 = .ok (.if_icmp .le 5, 3) := by decide +kernel
theorem dd_X_isCrowded_58 : decode cb_X_isCrowded 58 = .ok (.iconst 1, 1) := by decide +kernel
theorem dd_X_isCrowded_59 : decode cb_X_isCrowded 59 = .ok (.ireturn, 1) := by decide +kernel
theorem dd_X_isCrowded_60 : decode cb_X_isCrowded 60 = .ok (.iinc 2 1, 3) := by decide +kernel
theorem dd_X_isCrowded_63 : decode cb_X_isCrowded 63 = .ok (.goto (-61), 3) := by decide +kernel
theorem dd_X_isCrowded_66 : decode cb_X_isCrowded 66 = .ok (.iconst 0, 1) := by decide +kernel
theorem dd_X_isCrowded_67 : decode cb_X_isCrowded 67 = .ok (.ireturn, 1) := by decide +kernel
theorem dd_X_beginPhase_0 : decode cb_X_beginPhase 0 = .ok (.aload_n 1, 1) := by decide +kernel
theorem dd_X_beginPhase_1 : decode cb_X_beginPhase 1 = .ok (.iload_n 2, 1) := by decide +kernel
theorem dd_X_beginPhase_2 : decode cb_X_beginPhase 2 = .ok (.invokevirtual 179, 3) := by decide +kernel
theorem dd_X_beginPhase_5 : decode cb_X_beginPhase 5 = .ok (.iconst 0, 1) := by decide +kernel
theorem dd_X_beginPhase_6 : decode cb_X_beginPhase 6 = .ok (.istore_n 3, 1) := by decide +kernel
theorem dd_X_beginPhase_7 : decode cb_X_beginPhase 7 = .ok (.iload_n 3, 1) := by decide +kernel
theorem dd_X_beginPhase_8 : decode cb_X_beginPhase 8 = .ok (.aload_n 0, 1) := by decide +kernel
theorem dd_X_beginPhase_9 : decode cb_X_beginPhase 9 = .ok (.getfield 40, 3) := by decide +kernel
theorem dd_X_beginPhase_12 : decode cb_X_beginPhase 12 = .ok (.arraylength, 1) := by decide +kernel
theorem dd_X_beginPhase_13 : decode cb_X_beginPhase 13 = .ok (.if_icmp .ge 44, 3) := by decide +kernel
theorem dd_X_beginPhase_16 : decode cb_X_beginPhase 16 = .ok (.aload_n 0, 1) := by decide +kernel
theorem dd_X_beginPhase_17 : decode cb_X_beginPhase 17 = .ok (.getfield 40, 3) := by decide +kernel
theorem dd_X_beginPhase_20 : decode cb_X_beginPhase 20 = .ok (.iload_n 3, 1) := by decide +kernel
theorem dd_X_beginPhase_21 : decode cb_X_beginPhase 21 = .ok (.aaload, 1) := by decide +kernel
theorem dd_X_beginPhase_22 : decode cb_X_beginPhase 22 = .ok (.getfield 123, 3) := by decide +kernel
theorem dd_X_beginPhase_25 : decode cb_X_beginPhase 25 = .ok (.ifCond .ne 26, 3) := by decide +kernel
theorem dd_X_beginPhase_28 : decode cb_X_beginPhase 28 = .ok (.aload_n 0, 1) := by decide +kernel
theorem dd_X_beginPhase_29 : decode cb_X_beginPhase 29 = .ok (.getfield 49, 3) := by decide +kernel
theorem dd_X_beginPhase_32 : decode cb_X_beginPhase 32 = .ok (.aload_n 0, 1) := by decide +kernel
theorem dd_X_beginPhase_33 : decode cb_X_beginPhase 33 = .ok (.aload_n 1, 1) := by decide +kernel
theorem dd_X_beginPhase_34 : decode cb_X_beginPhase 34 = .ok (.getfield 182, 3) := by decide +kernel
theorem dd_X_beginPhase_37 : decode cb_X_beginPhase 37 = .ok (.iload_n 3, 1) := by decide +kernel
theorem dd_X_beginPhase_38 : decode cb_X_beginPhase 38 = .ok (.invokevirtual 88, 3) := by decide +kernel
theorem dd_X_beginPhase_41 : decode cb_X_beginPhase 41 = .ok (.aaload, 1) := by decide +kernel
theorem dd_X_beginPhase_42 : decode cb_X_beginPhase 42 = .ok (.aload_n 0, 1) := by decide +kernel
theorem dd_X_beginPhase_43 : decode cb_X_beginPhase 43 = .ok (.iload_n 3, 1) := by decide +kernel
theorem dd_X_beginPhase_44 : decode cb_X_beginPhase 44 = .ok (.aload_n 1, 1) := by decide +kernel
theorem dd_X_beginPhase_45 : decode cb_X_beginPhase 45 = .ok (.invokevirtual 185, 3) := by decide +kernel
theorem dd_X_beginPhase_48 : decode cb_X_beginPhase 48 = .ok (.invokevirtual 102, 3) := by decide +kernel
theorem dd_X_beginPhase_51 : decode cb_X_beginPhase 51 = .ok (.iinc 3 1, 3) := by decide +kernel
theorem dd_X_beginPhase_54 : decode cb_X_beginPhase 54 = .ok (.goto (-47), 3) := by decide +kernel
theorem dd_X_beginPhase_57 : decode cb_X_beginPhase 57 = .ok (.return_, 1) := by decide +kernel
theorem dd_X_requestTo_0 : decode cb_X_requestTo 0 = .ok (.new 106, 3) := by decide +kernel
theorem dd_X_requestTo_3 : decode cb_X_requestTo 3 = .ok (.dup, 1) := by decide +kernel
theorem dd_X_requestTo_4 : decode cb_X_requestTo 4 = .ok (.aload_n 2, 1) := by decide +kernel
theorem dd_X_requestTo_5 : decode cb_X_requestTo 5 = .ok (.getfield 76, 3) := by decide +kernel
theorem dd_X_requestTo_8 : decode cb_X_requestTo 8 = .ok (.aload_n 2, 1) := by decide +kernel
theorem dd_X_requestTo_9 : decode cb_X_requestTo 9 = .ok (.getfield 189, 3) := by decide +kernel
theorem dd_X_requestTo_12 : decode cb_X_requestTo 12 = .ok (.aload_n 2, 1) := by decide +kernel
theorem dd_X_requestTo_13 : decode cb_X_requestTo 13 = .ok (.getfield 134, 3) := by decide +kernel
theorem dd_X_requestTo_16 : decode cb_X_requestTo 16 = .ok (.invokespecial 192, 3) := by decide +kernel
theorem dd_X_requestTo_19 : decode cb_X_requestTo 19 = .ok (.astore_n 3, 1) := by decide +kernel
theorem dd_X_requestTo_20 : decode cb_X_requestTo 20 = .ok (.aload_n 2, 1) := by decide +kernel
theorem dd_X_requestTo_21 : decode cb_X_requestTo 21 = .ok (.getfield 76, 3) := by decide +kernel
theorem dd_X_requestTo_24 : decode cb_X_requestTo 24 = .ok (.iconst 2, 1) := by decide +kernel
theorem dd_X_requestTo_25 : decode cb_X_requestTo 25 = .ok (.if_icmp .ne 19, 3) := by decide +kernel
theorem dd_X_requestTo_28 : decode cb_X_requestTo 28 = .ok (.aload_n 3, 1) := by decide +kernel
theorem dd_X_requestTo_29 : decode cb_X_requestTo 29 = .ok (.aload_n 0, 1) := by decide +kernel
theorem dd_X_requestTo_30 : decode cb_X_requestTo 30 = .ok (.getfield 25, 3) := by decide +kernel
theorem dd_X_requestTo_33 : decode cb_X_requestTo 33 = .ok (.aload_n 2, 1) := by decide +kernel
theorem dd_X_requestTo_34 : decode cb_X_requestTo 34 = .ok (.getfield 60, 3) := by decide +kernel
theorem dd_X_requestTo_37 : decode cb_X_requestTo 37 = .ok (.iload_n 1, 1) := by decide +kernel
theorem dd_X_requestTo_38 : decode cb_X_requestTo 38 = .ok (.invokevirtual 195, 3) := by decide +kernel
theorem dd_X_requestTo_41 : decode cb_X_requestTo 41 = .ok (.putfield 199, 3) := by decide +kernel
theorem dd_X_requestTo_44 : decode cb_X_requestTo 44 = .ok (.aload_n 3, 1) := by decide +kernel
theorem dd_X_requestTo_45 : decode cb_X_requestTo 45 = .ok (.areturn, 1) := by decide +kernel
theorem dd_X_hasHeardEnough_0 : decode cb_X_hasHeardEnough 0 = .ok (.aload_n 1, 1) := by decide +kernel
theorem dd_X_hasHeardEnough_1 : decode cb_X_hasHeardEnough 1 = .ok (.getfield 79, 3) := by decide +kernel
theorem dd_X_hasHeardEnough_4 : decode cb_X_hasHeardEnough 4 = .ok (.aload_n 0, 1) := by decide +kernel
theorem dd_X_hasHeardEnough_5 : decode cb_X_hasHeardEnough 5 = .ok (.getfield 17, 3) := by decide +kernel
theorem dd_X_hasHeardEnough_8 : decode cb_X_hasHeardEnough 8 = .ok (.if_icmp .lt 22, 3) := by decide +kernel
theorem dd_X_hasHeardEnough_11 : decode cb_X_hasHeardEnough 11 = .ok (.aload_n 1, 1) := by decide +kernel
theorem dd_X_hasHeardEnough_12 : decode cb_X_hasHeardEnough 12 = .ok (.getfield 76, 3) := by decide +kernel
theorem dd_X_hasHeardEnough_15 : decode cb_X_hasHeardEnough 15 = .ok (.iconst 5, 1) := by decide +kernel
theorem dd_X_hasHeardEnough_16 : decode cb_X_hasHeardEnough 16 = .ok (.if_icmp .ne 10, 3) := by decide +kernel
theorem dd_X_hasHeardEnough_19 : decode cb_X_hasHeardEnough 19 = .ok (.aload_n 1, 1) := by decide +kernel
theorem dd_X_hasHeardEnough_20 : decode cb_X_hasHeardEnough 20 = .ok (.invokevirtual 202, 3) := by decide +kernel
theorem dd_X_hasHeardEnough_23 : decode cb_X_hasHeardEnough 23 = .ok (.ifCond .eq 7, 3) := by decide +kernel
theorem dd_X_hasHeardEnough_26 : decode cb_X_hasHeardEnough 26 = .ok (.iconst 1, 1) := by decide +kernel
theorem dd_X_hasHeardEnough_27 : decode cb_X_hasHeardEnough 27 = .ok (.goto 4, 3) := by decide +kernel
theorem dd_X_hasHeardEnough_30 : decode cb_X_hasHeardEnough 30 = .ok (.iconst 0, 1) := by decide +kernel
theorem dd_X_hasHeardEnough_31 : decode cb_X_hasHeardEnough 31 = .ok (.ireturn, 1) := by decide +kernel
theorem dd_X_endPhase_0 : decode cb_X_endPhase 0 = .ok (.aload_n 1, 1) := by decide +kernel
theorem dd_X_endPhase_1 : decode cb_X_endPhase 1 = .ok (.getfield 76, 3) := by decide +kernel
theorem dd_X_endPhase_4 : decode cb_X_endPhase 4 = .ok (.tableswitch 116 1 5 #[36, 67, 116, 75, 91], 36) := by decide +kernel
theorem dd_X_endPhase_40 : decode cb_X_endPhase 40 = .ok (.aload_n 1, 1) := by decide +kernel
theorem dd_X_endPhase_41 : decode cb_X_endPhase 41 = .ok (.getfield 205, 3) := by decide +kernel
theorem dd_X_endPhase_44 : decode cb_X_endPhase 44 = .ok (.bipush 8, 2) := by decide +kernel
theorem dd_X_endPhase_46 : decode cb_X_endPhase 46 = .ok (.idiv, 1) := by decide +kernel
theorem dd_X_endPhase_47 : decode cb_X_endPhase 47 = .ok (.iconst 1, 1) := by decide +kernel
theorem dd_X_endPhase_48 : decode cb_X_endPhase 48 = .ok (.iadd, 1) := by decide +kernel
theorem dd_X_endPhase_49 : decode cb_X_endPhase 49 = .ok (.istore_n 2, 1) := by decide +kernel
theorem dd_X_endPhase_50 : decode cb_X_endPhase 50 = .ok (.aload_n 1, 1) := by decide +kernel
theorem dd_X_endPhase_51 : decode cb_X_endPhase 51 = .ok (.bipush 8, 2) := by decide +kernel
theorem dd_X_endPhase_53 : decode cb_X_endPhase 53 = .ok (.iload_n 2, 1) := by decide +kernel
theorem dd_X_endPhase_54 : decode cb_X_endPhase 54 = .ok (.imul, 1) := by decide +kernel
theorem dd_X_endPhase_55 : decode cb_X_endPhase 55 = .ok (.aload_n 1, 1) := by decide +kernel
theorem dd_X_endPhase_56 : decode cb_X_endPhase 56 = .ok (.getfield 182, 3) := by decide +kernel
theorem dd_X_endPhase_59 : decode cb_X_endPhase 59 = .ok (.iadd, 1) := by decide +kernel
theorem dd_X_endPhase_60 : decode cb_X_endPhase 60 = .ok (.putfield 134, 3) := by decide +kernel
theorem dd_X_endPhase_63 : decode cb_X_endPhase 63 = .ok (.aload_n 0, 1) := by decide +kernel
theorem dd_X_endPhase_64 : decode cb_X_endPhase 64 = .ok (.aload_n 1, 1) := by decide +kernel
theorem dd_X_endPhase_65 : decode cb_X_endPhase 65 = .ok (.iconst 2, 1) := by decide +kernel
theorem dd_X_endPhase_66 : decode cb_X_endPhase 66 = .ok (.invokevirtual 64, 3) := by decide +kernel
theorem dd_X_endPhase_69 : decode cb_X_endPhase 69 = .ok (.iconst 2, 1) := by decide +kernel
theorem dd_X_endPhase_70 : decode cb_X_endPhase 70 = .ok (.ireturn, 1) := by decide +kernel
theorem dd_X_endPhase_71 : decode cb_X_endPhase 71 = .ok (.aload_n 0, 1) := by decide +kernel
theorem dd_X_endPhase_72 : decode cb_X_endPhase 72 = .ok (.aload_n 1, 1) := by decide +kernel
theorem dd_X_endPhase_73 : decode cb_X_endPhase 73 = .ok (.iconst 3, 1) := by decide +kernel
theorem dd_X_endPhase_74 : decode cb_X_endPhase 74 = .ok (.invokevirtual 64, 3) := by decide +kernel
theorem dd_X_endPhase_77 : decode cb_X_endPhase 77 = .ok (.iconst 2, 1) := by decide +kernel
theorem dd_X_endPhase_78 : decode cb_X_endPhase 78 = .ok (.ireturn, 1) := by decide +kernel
theorem dd_X_endPhase_79 : decode cb_X_endPhase 79 = .ok (.aload_n 1, 1) := by decide +kernel
theorem dd_X_endPhase_80 : decode cb_X_endPhase 80 = .ok (.aload_n 1, 1) := by decide +kernel
theorem dd_X_endPhase_81 : decode cb_X_endPhase 81 = .ok (.getfield 205, 3) := by decide +kernel
theorem dd_X_endPhase_84 : decode cb_X_endPhase 84 = .ok (.putfield 134, 3) := by decide +kernel
theorem dd_X_endPhase_87 : decode cb_X_endPhase 87 = .ok (.aload_n 0, 1) := by decide +kernel
theorem dd_X_endPhase_88 : decode cb_X_endPhase 88 = .ok (.aload_n 1, 1) := by decide +kernel
theorem dd_X_endPhase_89 : decode cb_X_endPhase 89 = .ok (.iconst 5, 1) := by decide +kernel
theorem dd_X_endPhase_90 : decode cb_X_endPhase 90 = .ok (.invokevirtual 64, 3) := by decide +kernel
theorem dd_X_endPhase_93 : decode cb_X_endPhase 93 = .ok (.iconst 2, 1) := by decide +kernel
theorem dd_X_endPhase_94 : decode cb_X_endPhase 94 = .ok (.ireturn, 1) := by decide +kernel
theorem dd_X_endPhase_95 : decode cb_X_endPhase 95 = .ok (.aload_n 1, 1) := by decide +kernel
theorem dd_X_endPhase_96 : decode cb_X_endPhase 96 = .ok (.aload_n 0, 1) := by decide +kernel
theorem dd_X_endPhase_97 : decode cb_X_endPhase 97 = .ok (.getfield 25, 3) := by decide +kernel
theorem dd_X_endPhase_100 : decode cb_X_endPhase 100 = .ok (.aload_n 1, 1) := by decide +kernel
theorem dd_X_endPhase_101 : decode cb_X_endPhase 101 = .ok (.getfield 208, 3) := by decide +kernel
theorem dd_X_endPhase_104 : decode cb_X_endPhase 104 = .ok (.aload_n 1, 1) := by decide +kernel
theorem dd_X_endPhase_105 : decode cb_X_endPhase 105 = .ok (.getfield 211, 3) := by decide +kernel
theorem dd_X_endPhase_108 : decode cb_X_endPhase 108 = .ok (.invokevirtual 212, 3) := by decide +kernel
theorem dd_X_endPhase_111 : decode cb_X_endPhase 111 = .ok (.putfield 137, 3) := by decide +kernel
theorem dd_X_endPhase_114 : decode cb_X_endPhase 114 = .ok (.aload_n 1, 1) := by decide +kernel
theorem dd_X_endPhase_115 : decode cb_X_endPhase 115 = .ok (.invokevirtual 216, 3) := by decide +kernel
theorem dd_X_endPhase_118 : decode cb_X_endPhase 118 = .ok (.iconst 3, 1) := by decide +kernel
theorem dd_X_endPhase_119 : decode cb_X_endPhase 119 = .ok (.ireturn, 1) := by decide +kernel
theorem dd_X_endPhase_120 : decode cb_X_endPhase 120 = .ok (.aload_n 1, 1) := by decide +kernel
theorem dd_X_endPhase_121 : decode cb_X_endPhase 121 = .ok (.invokevirtual 216, 3) := by decide +kernel
theorem dd_X_endPhase_124 : decode cb_X_endPhase 124 = .ok (.iconst 3, 1) := by decide +kernel
theorem dd_X_endPhase_125 : decode cb_X_endPhase 125 = .ok (.ireturn, 1) := by decide +kernel
