theorem dd_M_seek_68 : decode cb_M_seek 68 = .ok (.ireturn, 1) := by decide +kernel
theorem dd_M_requests_0 : decode cb_M_requests 0 = .ok (.aload_n 0, 1) := by decide +kernel
theorem dd_M_requests_1 : decode cb_M_requests 1 = .ok (.iload_n 1, 1) := by decide +kernel
theorem dd_M_requests_2 : decode cb_M_requests 2 = .ok (.invokevirtual 94, 3) := by decide +kernel
theorem dd_M_requests_5 : decode cb_M_requests 5 = .ok (.ifCond .ne 11, 3) := by decide +kernel
theorem dd_M_requests_8 : decode cb_M_requests 8 = .ok (.aload_n 0, 1) := by decide +kernel
theorem dd_M_requests_9 : decode cb_M_requests 9 = .ok (.iload_n 2, 1) := by decide +kernel
theorem dd_M_requests_10 : decode cb_M_requests 10 = .ok (.invokevirtual 98, 3) := by decide +kernel
theorem dd_M_requests_13 : decode cb_M_requests 13 = .ok (.ifCond .eq 7, 3) := by decide +kernel
theorem dd_M_requests_16 : decode cb_M_requests 16 = .ok (.iconst (-1), 1) := by decide +kernel
theorem dd_M_requests_17 : decode cb_M_requests 17 = .ok (.goto 10, 3) := by decide +kernel
theorem dd_M_requests_20 : decode cb_M_requests 20 = .ok (.aload_n 0, 1) := by decide +kernel
theorem dd_M_requests_21 : decode cb_M_requests 21 = .ok (.iconst 0, 1) := by decide +kernel
theorem dd_M_requests_22 : decode cb_M_requests 22 = .ok (.iload_n 1, 1) := by decide +kernel
theorem dd_M_requests_23 : decode cb_M_requests 23 = .ok (.iload_n 2, 1) := by decide +kernel
theorem dd_M_requests_24 : decode cb_M_requests 24 = .ok (.invokevirtual 101, 3) := by decide +kernel
theorem dd_M_requests_27 : decode cb_M_requests 27 = .ok (.ireturn, 1) := by decide +kernel
theorem dd_M_replies_0 : decode cb_M_replies 0 = .ok (.aload_n 0, 1) := by decide +kernel
theorem dd_M_replies_1 : decode cb_M_replies 1 = .ok (.iload_n 1, 1) := by decide +kernel
theorem dd_M_replies_2 : decode cb_M_replies 2 = .ok (.invokevirtual 94, 3) := by decide +kernel
theorem dd_M_replies_5 : decode cb_M_replies 5 = .ok (.ifCond .ne 11, 3) := by decide +kernel
theorem dd_M_replies_8 : decode cb_M_replies 8 = .ok (.aload_n 0, 1) := by decide +kernel
theorem dd_M_replies_9 : decode cb_M_replies 9 = .ok (.iload_n 2, 1) := by decide +kernel
theorem dd_M_replies_10 : decode cb_M_replies 10 = .ok (.invokevirtual 98, 3) := by decide +kernel
theorem dd_M_replies_13 : decode cb_M_replies 13 = .ok (.ifCond .eq 7, 3) := by decide +kernel
theorem dd_M_replies_16 : decode cb_M_replies 16 = .ok (.iconst (-1), 1) := by decide +kernel
theorem dd_M_replies_17 : decode cb_M_replies 17 = .ok (.goto 10, 3) := by decide +kernel
theorem dd_M_replies_20 : decode cb_M_replies 20 = .ok (.aload_n 0, 1) := by decide +kernel
theorem dd_M_replies_21 : decode cb_M_replies 21 = .ok (.iconst 1, 1) := by decide +kernel
theorem dd_M_replies_22 : decode cb_M_replies 22 = .ok (.iload_n 1, 1) := by decide +kernel
theorem dd_M_replies_23 : decode cb_M_replies 23 = .ok (.iload_n 2, 1) := by decide +kernel
theorem dd_M_replies_24 : decode cb_M_replies 24 = .ok (.invokevirtual 101, 3) := by decide +kernel
theorem dd_M_replies_27 : decode cb_M_replies 27 = .ok (.ireturn, 1) := by decide +kernel
theorem dd_M_crowded_0 : decode cb_M_crowded 0 = .ok (.iconst 0, 1) := by decide +kernel
theorem dd_M_crowded_1 : decode cb_M_crowded 1 = .ok (.istore_n 2, 1) := by decide +kernel
theorem dd_M_crowded_2 : decode cb_M_crowded 2 = .ok (.iconst 0, 1) := by decide +kernel
theorem dd_M_crowded_3 : decode cb_M_crowded 3 = .ok (.istore_n 3, 1) := by decide +kernel
theorem dd_M_crowded_4 : decode cb_M_crowded 4 = .ok (.iload_n 3, 1) := by decide +kernel
theorem dd_M_crowded_5 : decode cb_M_crowded 5 = .ok (.aload_n 0, 1) := by decide +kernel
theorem dd_M_crowded_6 : decode cb_M_crowded 6 = .ok (.getfield 81, 3) := by decide +kernel
theorem dd_M_crowded_9 : decode cb_M_crowded 9 = .ok (.if_icmp .ge 51, 3) := by decide +kernel
theorem dd_M_crowded_12 : decode cb_M_crowded 12 = .ok (.aload_n 0, 1) := by decide +kernel
theorem dd_M_crowded_13 : decode cb_M_crowded 13 = .ok (.iconst 0, 1) := by decide +kernel
theorem dd_M_crowded_14 : decode cb_M_crowded 14 = .ok (.iload_n 1, 1) := by decide +kernel
theorem dd_M_crowded_15 : decode cb_M_crowded 15 = .ok (.iload_n 3, 1) := by decide +kernel
theorem dd_M_crowded_16 : decode cb_M_crowded 16 = .ok (.invokevirtual 101, 3) := by decide +kernel
theorem dd_M_crowded_19 : decode cb_M_crowded 19 = .ok (.aload_n 0, 1) := by decide +kernel
theorem dd_M_crowded_20 : decode cb_M_crowded 20 = .ok (.iconst 1, 1) := by decide +kernel
theorem dd_M_crowded_21 : decode cb_M_crowded 21 = .ok (.iload_n 1, 1) := by decide +kernel
theorem dd_M_crowded_22 : decode cb_M_crowded 22 = .ok (.iload_n 3, 1) := by decide +kernel
theorem dd_M_crowded_23 : decode cb_M_crowded 23 = .ok (.invokevirtual 101, 3) := by decide +kernel
theorem dd_M_crowded_26 : decode cb_M_crowded 26 = .ok (.iadd, 1) := by decide +kernel
theorem dd_M_crowded_27 : decode cb_M_crowded 27 = .ok (.istore 4, 2) := by decide +kernel
theorem dd_M_crowded_29 : decode cb_M_crowded 29 = .ok (.iload_n 2, 1) := by decide +kernel
theorem dd_M_crowded_30 : decode cb_M_crowded 30 = .ok (.ifCond .ne 18, 3) := by decide +kernel
theorem dd_M_crowded_33 : decode cb_M_crowded 33 = .ok (.aload_n 0, 1) := by decide +kernel
theorem dd_M_crowded_34 : decode cb_M_crowded 34 = .ok (.getfield 41, 3) := by decide +kernel
theorem dd_M_crowded_37 : decode cb_M_crowded 37 = .ok (.iload_n 3, 1) := by decide +kernel
theorem dd_M_crowded_38 : decode cb_M_crowded 38 = .ok (.baload, 1) := by decide +kernel
theorem dd_M_crowded_39 : decode cb_M_crowded 39 = .ok (.ifCond .ne 13, 3) := by decide +kernel
theorem dd_M_crowded_42 : decode cb_M_crowded 42 = .ok (.iload 4, 2) := by decide +kernel
theorem dd_M_crowded_44 : decode cb_M_crowded 44 = .ok (.iconst 4, 1) := by decide +kernel
theorem dd_M_crowded_45 : decode cb_M_crowded 45 = .ok (.if_icmp .le 7, 3) := by decide +kernel
theorem dd_M_crowded_48 : decode cb_M_crowded 48 = .ok (.iconst 1, 1) := by decide +kernel
theorem dd_M_crowded_49 : decode cb_M_crowded 49 = .ok (.goto 4, 3) := by decide +kernel
theorem dd_M_crowded_52 : decode cb_M_crowded 52 = .ok (.iconst 0, 1) := by decide +kernel
theorem dd_M_crowded_53 : decode cb_M_crowded 53 = .ok (.istore_n 2, 1) := by decide +kernel
theorem dd_M_crowded_54 : decode cb_M_crowded 54 = .ok (.iinc 3 1, 3) := by decide +kernel
theorem dd_M_crowded_57 : decode cb_M_crowded 57 = .ok (.goto (-53), 3) := by decide +kernel
theorem dd_M_crowded_60 : decode cb_M_crowded 60 = .ok (.iload_n 2, 1) := by decide +kernel
theorem dd_M_crowded_61 : decode cb_M_crowded 61 = .ok (.ireturn, 1) := by decide +kernel
theorem dd_M_begin_0 : decode cb_M_begin 0 = .ok (.aload_n 0, 1) := by decide +kernel
theorem dd_M_begin_1 : decode cb_M_begin 1 = .ok (.getfield 7, 3) := by decide +kernel
theorem dd_M_begin_4 : decode cb_M_begin 4 = .ok (.iload_n 1, 1) := by decide +kernel
theorem dd_M_begin_5 : decode cb_M_begin 5 = .ok (.iload_n 2, 1) := by decide +kernel
theorem dd_M_begin_6 : decode cb_M_begin 6 = .ok (.iastore, 1) := by decide +kernel
theorem dd_M_begin_7 : decode cb_M_begin 7 = .ok (.aload_n 0, 1) := by decide +kernel
theorem dd_M_begin_8 : decode cb_M_begin 8 = .ok (.getfield 13, 3) := by decide +kernel
theorem dd_M_begin_11 : decode cb_M_begin 11 = .ok (.iload_n 1, 1) := by decide +kernel
theorem dd_M_begin_12 : decode cb_M_begin 12 = .ok (.dup2, 1) := by decide +kernel
theorem dd_M_begin_13 : decode cb_M_begin 13 = .ok (.iaload, 1) := by decide +kernel
theorem dd_M_begin_14 : decode cb_M_begin 14 = .ok (.iconst 1, 1) := by decide +kernel
theorem dd_M_begin_15 : decode cb_M_begin 15 = .ok (.iadd, 1) := by decide +kernel
theorem dd_M_begin_16 : decode cb_M_begin 16 = .ok (.iastore, 1) := by decide +kernel
theorem dd_M_begin_17 : decode cb_M_begin 17 = .ok (.aload_n 0, 1) := by decide +kernel
theorem dd_M_begin_18 : decode cb_M_begin 18 = .ok (.getfield 16, 3) := by decide +kernel
theorem dd_M_begin_21 : decode cb_M_begin 21 = .ok (.iload_n 1, 1) := by decide +kernel
theorem dd_M_begin_22 : decode cb_M_begin 22 = .ok (.iconst 0, 1) := by decide +kernel
theorem dd_M_begin_23 : decode cb_M_begin 23 = .ok (.iastore, 1) := by decide +kernel
theorem dd_M_begin_24 : decode cb_M_begin 24 = .ok (.aload_n 0, 1) := by decide +kernel
theorem dd_M_begin_25 : decode cb_M_begin 25 = .ok (.getfield 19, 3) := by decide +kernel
theorem dd_M_begin_28 : decode cb_M_begin 28 = .ok (.iload_n 1, 1) := by decide +kernel
theorem dd_M_begin_29 : decode cb_M_begin 29 = .ok (.iconst 0, 1) := by decide +kernel
theorem dd_M_begin_30 : decode cb_M_begin 30 = .ok (.iastore, 1) := by decide +kernel
theorem dd_M_begin_31 : decode cb_M_begin 31 = .ok (.aload_n 0, 1) := by decide +kernel
theorem dd_M_begin_32 : decode cb_M_begin 32 = .ok (.getfield 22, 3) := by decide +kernel
theorem dd_M_begin_35 : decode cb_M_begin 35 = .ok (.iload_n 1, 1) := by decide +kernel
theorem dd_M_begin_36 : decode cb_M_begin 36 = .ok (.iconst 0, 1) := by decide +kernel
theorem dd_M_begin_37 : decode cb_M_begin 37 = .ok (.iastore, 1) := by decide +kernel
theorem dd_M_begin_38 : decode cb_M_begin 38 = .ok (.iconst 0, 1) := by decide +kernel
theorem dd_M_begin_39 : decode cb_M_begin 39 = .ok (.istore_n 3, 1) := by decide +kernel
theorem dd_M_begin_40 : decode cb_M_begin 40 = .ok (.iload_n 3, 1) := by decide +kernel
theorem dd_M_begin_41 : decode cb_M_begin 41 = .ok (.aload_n 0, 1) := by decide +kernel
theorem dd_M_begin_42 : decode cb_M_begin 42 = .ok (.getfield 81, 3) := by decide +kernel
theorem dd_M_begin_45 : decode cb_M_begin 45 = .ok (.if_icmp .ge 32, 3) := by decide +kernel
theorem dd_M_begin_48 : decode cb_M_begin 48 = .ok (.aload_n 0, 1) := by decide +kernel
theorem dd_M_begin_49 : decode cb_M_begin 49 = .ok (.getfield 41, 3) := by decide +kernel
theorem dd_M_begin_52 : decode cb_M_begin 52 = .ok (.iload_n 3, 1) := by decide +kernel
theorem dd_M_begin_53 : decode cb_M_begin 53 = .ok (.baload, 1) := by decide +kernel
theorem dd_M_begin_54 : decode cb_M_begin 54 = .ok (.ifCond .ne 17, 3) := by decide +kernel
theorem dd_M_begin_57 : decode cb_M_begin 57 = .ok (.aload_n 0, 1) := by decide +kernel
theorem dd_M_begin_58 : decode cb_M_begin 58 = .ok (.iconst 0, 1) := by decide +kernel
theorem dd_M_begin_59 : decode cb_M_begin 59 = .ok (.iload_n 1, 1) := by decide +kernel
theorem dd_M_begin_60 : decode cb_M_begin 60 = .ok (.iload_n 3, 1) := by decide +kernel
theorem dd_M_begin_61 : decode cb_M_begin 61 = .ok (.iload_n 2, 1) := by decide +kernel
theorem dd_M_begin_62 : decode cb_M_begin 62 = .ok (.aload_n 0, 1) := by decide +kernel
theorem dd_M_begin_63 : decode cb_M_begin 63 = .ok (.getfield 13, 3) := by decide +kernel
theorem dd_M_begin_66 : decode cb_M_begin 66 = .ok (.iload_n 1, 1) := by decide +kernel
theorem dd_M_begin_67 : decode cb_M_begin 67 = .ok (.iaload, 1) := by decide +kernel
theorem dd_M_begin_68 : decode cb_M_begin 68 = .ok (.invokevirtual 105, 3) := by decide +kernel
theorem dd_M_begin_71 : decode cb_M_begin 71 = .ok (.iinc 3 1, 3) := by decide +kernel
theorem dd_M_begin_74 : decode cb_M_begin 74 = .ok (.goto (-34), 3) := by decide +kernel
theorem dd_M_begin_77 : decode cb_M_begin 77 = .ok (.return_, 1) := by decide +kernel
theorem dd_M_refusal_0 : decode cb_M_refusal 0 = .ok (.aload_n 0, 1) := by decide +kernel
theorem dd_M_refusal_1 : decode cb_M_refusal 1 = .ok (.iload_n 1, 1) := by decide +kernel
theorem dd_M_refusal_2 : decode cb_M_refusal 2 = .ok (.invokevirtual 94, 3) := by decide +kernel
theorem dd_M_refusal_5 : decode cb_M_refusal 5 = .ok (.ifCond .eq 5, 3) := by decide +kernel
theorem dd_M_refusal_8 : decode cb_M_refusal 8 = .ok (.iconst (-1), 1) := by decide +kernel
theorem dd_M_refusal_9 : decode cb_M_refusal 9 = .ok (.ireturn, 1) := by decide +kernel
theorem dd_M_refusal_10 : decode cb_M_refusal 10 = .ok (.aload_n 0, 1) := by decide +kernel
theorem dd_M_refusal_11 : decode cb_M_refusal 11 = .ok (.getfield 7, 3) := by decide +kernel
theorem dd_M_refusal_14 : decode cb_M_refusal 14 = .ok (.iload_n 1, 1) := by decide +kernel
theorem dd_M_refusal_15 : decode cb_M_refusal 15 = .ok (.iaload, 1) := by decide +kernel
theorem dd_M_refusal_16 : decode cb_M_refusal 16 = .ok (.bipush 6, 2) := by decide +kernel
theorem dd_M_refusal_18 : decode cb_M_refusal 18 = .ok (.if_icmp .ne 6, 3) := by decide +kernel
theorem dd_M_refusal_21 : decode cb_M_refusal 21 = .ok (.bipush (-2), 2) := by decide +kernel
theorem dd_M_refusal_23 : decode cb_M_refusal 23 = .ok (.ireturn, 1) := by decide +kernel
theorem dd_M_refusal_24 : decode cb_M_refusal 24 = .ok (.aload_n 0, 1) := by decide +kernel
theorem dd_M_refusal_25 : decode cb_M_refusal 25 = .ok (.getfield 7, 3) := by decide +kernel
theorem dd_M_refusal_28 : decode cb_M_refusal 28 = .ok (.iload_n 1, 1) := by decide +kernel
theorem dd_M_refusal_29 : decode cb_M_refusal 29 = .ok (.iaload, 1) := by decide +kernel
theorem dd_M_refusal_30 : decode cb_M_refusal 30 = .ok (.ifCond .eq 6, 3) := by decide +kernel
theorem dd_M_refusal_33 : decode cb_M_refusal 33 = .ok (.bipush (-3), 2) := by decide +kernel
theorem dd_M_refusal_35 : decode cb_M_refusal 35 = .ok (.ireturn, 1) := by decide +kernel
theorem dd_M_refusal_36 : decode cb_M_refusal 36 = .ok (.aload_n 0, 1) := by decide +kernel
theorem dd_M_refusal_37 : decode cb_M_refusal 37 = .ok (.iload_n 1, 1) := by decide +kernel
theorem dd_M_refusal_38 : decode cb_M_refusal 38 = .ok (.invokevirtual 109, 3) := by decide +kernel
theorem dd_M_refusal_41 : decode cb_M_refusal 41 = .ok (.ifCond .eq 8, 3) := by decide +kernel
theorem dd_M_refusal_44 : decode cb_M_refusal 44 = .ok (.bipush (-4), 2) := by decide +kernel
theorem dd_M_refusal_46 : decode cb_M_refusal 46 = .ok (.goto 4, 3) := by decide +kernel
theorem dd_M_refusal_49 : decode cb_M_refusal 49 = .ok (.iconst 0, 1) := by decide +kernel
theorem dd_M_refusal_50 : decode cb_M_refusal 50 = .ok (.ireturn, 1) := by decide +kernel
theorem dd_M_write_0 : decode cb_M_write 0 = .ok (.aload_n 0, 1) := by decide +kernel
theorem dd_M_write_1 : decode cb_M_write 1 = .ok (.iload_n 1, 1) := by decide +kernel
theorem dd_M_write_2 : decode cb_M_write 2 = .ok (.invokevirtual 112, 3) := by decide +kernel
theorem dd_M_write_5 : decode cb_M_write 5 = .ok (.istore 4, 2) := by decide +kernel
theorem dd_M_write_7 : decode cb_M_write 7 = .ok (.iload 4, 2) := by decide +kernel
theorem dd_M_write_9 : decode cb_M_write 9 = .ok (.ifCond .ne 16, 3) := by decide +kernel
theorem dd_M_write_12 : decode cb_M_write 12 = .ok (.aload_n 0, 1) := by decide +kernel
theorem dd_M_write_13 : decode cb_M_write 13 = .ok (.getfield 31, 3) := by decide +kernel
theorem dd_M_write_16 : decode cb_M_write 16 = .ok (.iload_n 1, 1) := by decide +kernel
theorem dd_M_write_17 : decode cb_M_write 17 = .ok (.lload_n 2, 1) := by decide +kernel
theorem dd_M_write_18 : decode cb_M_write 18 = .ok (.lastore, 1) := by decide +kernel
theorem dd_M_write_19 : decode cb_M_write 19 = .ok (.aload_n 0, 1) := by decide +kernel
theorem dd_M_write_20 : decode cb_M_write 20 = .ok (.iload_n 1, 1) := by decide +kernel
theorem dd_M_write_21 : decode cb_M_write 21 = .ok (.iconst 1, 1) := by decide +kernel
theorem dd_M_write_22 : decode cb_M_write 22 = .ok (.invokevirtual 116, 3) := by decide +kernel
theorem dd_M_write_25 : decode cb_M_write 25 = .ok (.iload 4, 2) := by decide +kernel
theorem dd_M_write_27 : decode cb_M_write 27 = .ok (.ireturn, 1) := by decide +kernel
theorem dd_M_read_0 : decode cb_M_read 0 = .ok (.aload_n 0, 1) := by decide +kernel
theorem dd_M_read_1 : decode cb_M_read 1 = .ok (.iload_n 1, 1) := by decide +kernel
theorem dd_M_read_2 : decode cb_M_read 2 = .ok (.invokevirtual 112, 3) := by decide +kernel
theorem dd_M_read_5 : decode cb_M_read 5 = .ok (.istore_n 2, 1) := by decide +kernel
theorem dd_M_read_6 : decode cb_M_read 6 = .ok (.iload_n 2, 1) := by decide +kernel
theorem dd_M_read_7 : decode cb_M_read 7 = .ok (.ifCond .ne 9, 3) := by decide +kernel
theorem dd_M_read_10 : decode cb_M_read 10 = .ok (.aload_n 0, 1) := by decide +kernel
theorem dd_M_read_11 : decode cb_M_read 11 = .ok (.iload_n 1, 1) := by decide +kernel
theorem dd_M_read_12 : decode cb_M_read 12 = .ok (.iconst 4, 1) := by decide +kernel
theorem dd_M_read_13 : decode cb_M_read 13 = .ok (.invokevirtual 116, 3) := by decide +kernel
theorem dd_M_read_16 : decode cb_M_read 16 = .ok (.iload_n 2, 1) := by decide +kernel
theorem dd_M_read_17 : decode cb_M_read 17 = .ok (.ireturn, 1) := by decide +kernel
theorem dd_M_again_0 : decode cb_M_again 0 = .ok (.aload_n 0, 1) := by decide +kernel
theorem dd_M_again_1 : decode cb_M_again 1 = .ok (.iload_n 1, 1) := by decide +kernel
theorem dd_M_again_2 : decode cb_M_again 2 = .ok (.invokevirtual 94, 3) := by decide +kernel
theorem dd_M_again_5 : decode cb_M_again 5 = .ok (.ifCond .eq 5, 3) := by decide +kernel
theorem dd_M_again_8 : decode cb_M_again 8 = .ok (.iconst (-1), 1) := by decide +kernel
theorem dd_M_again_9 : decode cb_M_again 9 = .ok (.ireturn, 1) := by decide +kernel
theorem dd_M_again_10 : decode cb_M_again 10 = .ok (.aload_n 0, 1) := by decide +kernel
theorem dd_M_again_11 : decode cb_M_again 11 = .ok (.getfield 7, 3) := by decide +kernel
theorem dd_M_again_14 : decode cb_M_again 14 = .ok (.iload_n 1, 1) := by decide +kernel
theorem dd_M_again_15 : decode cb_M_again 15 = .ok (.iaload, 1) := by decide +kernel
theorem dd_M_again_16 : decode cb_M_again 16 = .ok (.bipush 6, 2) := by decide +kernel
theorem dd_M_again_18 : decode cb_M_again 18 = .ok (.if_icmp .ne 6, 3) := by decide +kernel
theorem dd_M_again_21 : decode cb_M_again 21 = .ok (.bipush (-2), 2) := by decide +kernel
theorem dd_M_again_23 : decode cb_M_again 23 = .ok (.ireturn, 1) := by decide +kernel
theorem dd_M_again_24 : decode cb_M_again 24 = .ok (.aload_n 0, 1) := by decide +kernel
theorem dd_M_again_25 : decode cb_M_again 25 = .ok (.getfield 7, 3) := by decide +kernel
theorem dd_M_again_28 : decode cb_M_again 28 = .ok (.iload_n 1, 1) := by decide +kernel
theorem dd_M_again_29 : decode cb_M_again 29 = .ok (.iaload, 1) := by decide +kernel
theorem dd_M_again_30 : decode cb_M_again 30 = .ok (.iconst 5, 1) := by decide +kernel
theorem dd_M_again_31 : decode cb_M_again 31 = .ok (.if_icmp .ne 16, 3) := by decide +kernel
theorem dd_M_again_34 : decode cb_M_again 34 = .ok (.aload_n 0, 1) := by decide +kernel
theorem dd_M_again_35 : decode cb_M_again 35 = .ok (.getfield 16, 3) := by decide +kernel
theorem dd_M_again_38 : decode cb_M_again 38 = .ok (.iload_n 1, 1) := by decide +kernel
theorem dd_M_again_39 : decode cb_M_again 39 = .ok (.iaload, 1) := by decide +kernel
theorem dd_M_again_40 : decode cb_M_again 40 = .ok (.aload_n 0, 1) := by decide +kernel
theorem dd_M_again_41 : decode cb_M_again 41 = .ok (.invokevirtual 120, 3) := by decide +kernel
theorem dd_M_again_44 : decode cb_M_again 44 = .ok (.if_icmp .ge 6, 3) := by decide +kernel
theorem dd_M_again_47 : decode cb_M_again 47 = .ok (.bipush (-3), 2) := by decide +kernel
theorem dd_M_again_49 : decode cb_M_again 49 = .ok (.ireturn, 1) := by decide +kernel
theorem dd_M_again_50 : decode cb_M_again 50 = .ok (.aload_n 0, 1) := by decide +kernel
theorem dd_M_again_51 : decode cb_M_again 51 = .ok (.iload_n 1, 1) := by decide +kernel
theorem dd_M_again_52 : decode cb_M_again 52 = .ok (.invokevirtual 109, 3) := by decide +kernel
theorem dd_M_again_55 : decode cb_M_again 55 = .ok (.ifCond .eq 6, 3) := by decide +kernel
theorem dd_M_again_58 : decode cb_M_again 58 = .ok (.bipush (-4), 2) := by decide +kernel
theorem dd_M_again_60 : decode cb_M_again 60 = .ok (.ireturn, 1) := by decide +kernel
theorem dd_M_again_61 : decode cb_M_again 61 = .ok (.aload_n 0, 1) := by decide +kernel
theorem dd_M_again_62 : decode cb_M_again 62 = .ok (.iload_n 1, 1) := by decide +kernel
theorem dd_M_again_63 : decode cb_M_again 63 = .ok (.iconst 4, 1) := by decide +kernel
theorem dd_M_again_64 : decode cb_M_again 64 = .ok (.invokevirtual 116, 3) := by decide +kernel
theorem dd_M_again_67 : decode cb_M_again 67 = .ok (.iconst 0, 1) := by decide +kernel
theorem dd_M_again_68 : decode cb_M_again 68 = .ok (.ireturn, 1) := by decide +kernel
theorem dd_M_place_0 : decode cb_M_place 0 = .ok (.iconst 5, 1) := by decide +kernel
theorem dd_M_place_1 : decode cb_M_place 1 = .ok (.iload_n 1, 1) := by decide +kernel
theorem dd_M_place_2 : decode cb_M_place 2 = .ok (.imul, 1) := by decide +kernel
theorem dd_M_place_3 : decode cb_M_place 3 = .ok (.istore_n 3, 1) := by decide +kernel
theorem dd_M_place_4 : decode cb_M_place 4 = .ok (.iload_n 3, 1) := by decide +kernel
theorem dd_M_place_5 : decode cb_M_place 5 = .ok (.iconst 5, 1) := by decide +kernel
theorem dd_M_place_6 : decode cb_M_place 6 = .ok (.iload_n 1, 1) := by decide +kernel
theorem dd_M_place_7 : decode cb_M_place 7 = .ok (.imul, 1) := by decide +kernel
theorem dd_M_place_8 : decode cb_M_place 8 = .ok (.aload_n 0, 1) := by decide +kernel
theorem dd_M_place_9 : decode cb_M_place 9 = .ok (.getfield 48, 3) := by decide +kernel
theorem dd_M_place_12 : decode cb_M_place 12 = .ok (.iload_n 1, 1) := by decide +kernel
theorem dd_M_place_13 : decode cb_M_place 13 = .ok (.iaload, 1) := by decide +kernel
theorem dd_M_place_14 : decode cb_M_place 14 = .ok (.iadd, 1) := by decide +kernel
theorem dd_M_place_15 : decode cb_M_place 15 = .ok (.if_icmp .ge 21, 3) := by decide +kernel
theorem dd_M_place_18 : decode cb_M_place 18 = .ok (.aload_n 0, 1) := by decide +kernel
theorem dd_M_place_19 : decode cb_M_place 19 = .ok (.getfield 51, 3) := by decide +kernel
theorem dd_M_place_22 : decode cb_M_place 22 = .ok (.iload_n 3, 1) := by decide +kernel
theorem dd_M_place_23 : decode cb_M_place 23 = .ok (.iaload, 1) := by decide +kernel
theorem dd_M_place_24 : decode cb_M_place 24 = .ok (.iload_n 2, 1) := by decide +kernel
theorem dd_M_place_25 : decode cb_M_place 25 = .ok (.if_icmp .ne 5, 3) := by decide +kernel
theorem dd_M_place_28 : decode cb_M_place 28 = .ok (.iload_n 3, 1) := by decide +kernel
theorem dd_M_place_29 : decode cb_M_place 29 = .ok (.ireturn, 1) := by decide +kernel
theorem dd_M_place_30 : decode cb_M_place 30 = .ok (.iinc 3 1, 3) := by decide +kernel
theorem dd_M_place_33 : decode cb_M_place 33 = .ok (.goto (-29), 3) := by decide +kernel
theorem dd_M_place_36 : decode cb_M_place 36 = .ok (.iconst (-1), 1) := by decide +kernel
theorem dd_M_place_37 : decode cb_M_place 37 = .ok (.ireturn, 1) := by decide +kernel
theorem dd_M_store_0 : decode cb_M_store 0 = .ok (.aload_n 0, 1) := by decide +kernel
theorem dd_M_store_1 : decode cb_M_store 1 = .ok (.iload_n 1, 1) := by decide +kernel
theorem dd_M_store_2 : decode cb_M_store 2 = .ok (.iload_n 2, 1) := by decide +kernel
theorem dd_M_store_3 : decode cb_M_store 3 = .ok (.invokevirtual 124, 3) := by decide +kernel
theorem dd_M_store_6 : decode cb_M_store 6 = .ok (.istore 5, 2) := by decide +kernel
theorem dd_M_store_8 : decode cb_M_store 8 = .ok (.iload 5, 2) := by decide +kernel
theorem dd_M_store_10 : decode cb_M_store 10 = .ok (.ifCond .ge 25, 3) := by decide +kernel
theorem dd_M_store_13 : decode cb_M_store 13 = .ok (.iconst 5, 1) := by decide +kernel
theorem dd_M_store_14 : decode cb_M_store 14 = .ok (.iload_n 1, 1) := by decide +kernel
theorem dd_M_store_15 : decode cb_M_store 15 = .ok (.imul, 1) := by decide +kernel
theorem dd_M_store_16 : decode cb_M_store 16 = .ok (.aload_n 0, 1) := by decide +kernel
theorem dd_M_store_17 : decode cb_M_store 17 = .ok (.getfield 48, 3) := by decide +kernel
theorem dd_M_store_20 : decode cb_M_store 20 = .ok (.iload_n 1, 1) := by decide +kernel
theorem dd_M_store_21 : decode cb_M_store 21 = .ok (.iaload, 1) := by decide +kernel
theorem dd_M_store_22 : decode cb_M_store 22 = .ok (.iadd, 1) := by decide +kernel
theorem dd_M_store_23 : decode cb_M_store 23 = .ok (.istore 5, 2) := by decide +kernel
theorem dd_M_store_25 : decode cb_M_store 25 = .ok (.aload_n 0, 1) := by decide +kernel
theorem dd_M_store_26 : decode cb_M_store 26 = .ok (.getfield 48, 3) := by decide +kernel
theorem dd_M_store_29 : decode cb_M_store 29 = .ok (.iload_n 1, 1) := by decide +kernel
theorem dd_M_store_30 : decode cb_M_store 30 = .ok (.dup2, 1) := by decide +kernel
theorem dd_M_store_31 : decode cb_M_store 31 = .ok (.iaload, 1) := by decide +kernel
theorem dd_M_store_32 : decode cb_M_store 32 = .ok (.iconst 1, 1) := by decide +kernel
theorem dd_M_store_33 : decode cb_M_store 33 = .ok (.iadd, 1) := by decide +kernel
theorem dd_M_store_34 : decode cb_M_store 34 = .ok (.iastore, 1) := by decide +kernel
theorem dd_M_store_35 : decode cb_M_store 35 = .ok (.aload_n 0, 1) := by decide +kernel
theorem dd_M_store_36 : decode cb_M_store 36 = .ok (.getfield 51, 3) := by decide +kernel
theorem dd_M_store_39 : decode cb_M_store 39 = .ok (.iload 5, 2) := by decide +kernel
theorem dd_M_store_41 : decode cb_M_store 41 = .ok (.iload_n 2, 1) := by decide +kernel
theorem dd_M_store_42 : decode cb_M_store 42 = .ok (.iastore, 1) := by decide +kernel
theorem dd_M_store_43 : decode cb_M_store 43 = .ok (.aload_n 0, 1) := by decide +kernel
theorem dd_M_store_44 : decode cb_M_store 44 = .ok (.getfield 54, 3) := by decide +kernel
theorem dd_M_store_47 : decode cb_M_store 47 = .ok (.iload 5, 2) := by decide +kernel
theorem dd_M_store_49 : decode cb_M_store 49 = .ok (.lload_n 3, 1) := by decide +kernel
theorem dd_M_store_50 : decode cb_M_store 50 = .ok (.lastore, 1) := by decide +kernel
theorem dd_M_store_51 : decode cb_M_store 51 = .ok (.aload_n 0, 1) := by decide +kernel
theorem dd_M_store_52 : decode cb_M_store 52 = .ok (.getfield 48, 3) := by decide +kernel
theorem dd_M_store_55 : decode cb_M_store 55 = .ok (.iload_n 1, 1) := by decide +kernel
theorem dd_M_store_56 : decode cb_M_store 56 = .ok (.iaload, 1) := by decide +kernel
theorem dd_M_store_57 : decode cb_M_store 57 = .ok (.aload_n 0, 1) := by decide +kernel
theorem dd_M_store_58 : decode cb_M_store 58 = .ok (.getfield 88, 3) := by decide +kernel
theorem dd_M_store_61 : decode cb_M_store 61 = .ok (.iconst 1, 1) := by decide +kernel
theorem dd_M_store_62 : decode cb_M_store 62 = .ok (.iadd, 1) := by decide +kernel
theorem dd_M_store_63 : decode cb_M_store 63 = .ok (.if_icmp .le 114, 3) := by decide +kernel
theorem dd_M_store_66 : decode cb_M_store 66 = .ok (.iconst 5, 1) := by decide +kernel
theorem dd_M_store_67 : decode cb_M_store 67 = .ok (.iload_n 1, 1) := by decide +kernel
theorem dd_M_store_68 : decode cb_M_store 68 = .ok (.imul, 1) := by decide +kernel
theorem dd_M_store_69 : decode cb_M_store 69 = .ok (.istore 6, 2) := by decide +kernel
theorem dd_M_store_71 : decode cb_M_store 71 = .ok (.iconst 5, 1) := by decide +kernel
theorem dd_M_store_72 : decode cb_M_store 72 = .ok (.iload_n 1, 1) := by decide +kernel
theorem dd_M_store_73 : decode cb_M_store 73 = .ok (.imul, 1) := by decide +kernel
theorem dd_M_store_74 : decode cb_M_store 74 = .ok (.istore 7, 2) := by decide +kernel
theorem dd_M_store_76 : decode cb_M_store 76 = .ok (.iload 7, 2) := by decide +kernel
theorem dd_M_store_78 : decode cb_M_store 78 = .ok (.iconst 5, 1) := by decide +kernel
theorem dd_M_store_79 : decode cb_M_store 79 = .ok (.iload_n 1, 1) := by decide +kernel
theorem dd_M_store_80 : decode cb_M_store 80 = .ok (.imul, 1) := by decide +kernel
theorem dd_M_store_81 : decode cb_M_store 81 = .ok (.aload_n 0, 1) := by decide +kernel
theorem dd_M_store_82 : decode cb_M_store 82 = .ok (.getfield 48, 3) := by decide +kernel
theorem dd_M_store_85 : decode cb_M_store 85 = .ok (.iload_n 1, 1) := by decide +kernel
theorem dd_M_store_86 : decode cb_M_store 86 = .ok (.iaload, 1) := by decide +kernel
theorem dd_M_store_87 : decode cb_M_store 87 = .ok (.iadd, 1) := by decide +kernel
theorem dd_M_store_88 : decode cb_M_store 88 = .ok (.if_icmp .ge 35, 3) := by decide +kernel
theorem dd_M_store_91 : decode cb_M_store 91 = .ok (.aload_n 0, 1) := by decide +kernel
theorem dd_M_store_92 : decode cb_M_store 92 = .ok (.getfield 51, 3) := by decide +kernel
theorem dd_M_store_95 : decode cb_M_store 95 = .ok (.iload 7, 2) := by decide +kernel
theorem dd_M_store_97 : decode cb_M_store 97 = .ok (.iaload, 1) := by decide +kernel
theorem dd_M_store_98 : decode cb_M_store 98 = .ok (.aload_n 0, 1) := by decide +kernel
theorem dd_M_store_99 : decode cb_M_store 99 = .ok (.getfield 51, 3) := by decide +kernel
theorem dd_M_store_102 : decode cb_M_store 102 = .ok (.iload 6, 2) := by decide +kernel
theorem dd_M_store_104 : decode cb_M_store 104 = .ok (.iaload, 1) := by decide +kernel
theorem dd_M_store_105 : decode cb_M_store 105 = .ok (.if_icmp .ge 8, 3) := by decide +kernel
theorem dd_M_store_108 : decode cb_M_store 108 = .ok (.iload 7, 2) := by decide +kernel
theorem dd_M_store_110 : decode cb_M_store 110 = .ok (.goto 5, 3) := by decide +kernel
theorem dd_M_store_113 : decode cb_M_store 113 = .ok (.iload 6, 2) := by decide +kernel
theorem dd_M_store_115 : decode cb_M_store 115 = .ok (.istore 6, 2) := by decide +kernel
theorem dd_M_store_117 : decode cb_M_store 117 = .ok (.iinc 7 1, 3) := by decide +kernel
theorem dd_M_store_120 : decode cb_M_store 120 = .ok (.goto (-44), 3) := by decide +kernel
theorem dd_M_store_123 : decode cb_M_store 123 = .ok (.aload_n 0, 1) := by decide +kernel
theorem dd_M_store_124 : decode cb_M_store 124 = .ok (.getfield 48, 3) := by decide +kernel
theorem dd_M_store_127 : decode cb_M_store 127 = .ok (.iload_n 1, 1) := by decide +kernel
theorem dd_M_store_128 : decode cb_M_store 128 = .ok (.dup2, 1) := by decide +kernel
theorem dd_M_store_129 : decode cb_M_store 129 = .ok (.iaload, 1) := by decide +kernel
theorem dd_M_store_130 : decode cb_M_store 130 = .ok (.iconst 1, 1) := by decide +kernel
theorem dd_M_store_131 : decode cb_M_store 131 = .ok (.isub, 1) := by decide +kernel
theorem dd_M_store_132 : decode cb_M_store 132 = .ok (.iastore, 1) := by decide +kernel
theorem dd_M_store_133 : decode cb_M_store 133 = .ok (.aload_n 0, 1) := by decide +kernel
theorem dd_M_store_134 : decode cb_M_store 134 = .ok (.getfield 51, 3) := by decide +kernel
theorem dd_M_store_137 : decode cb_M_store 137 = .ok (.iload 6, 2) := by decide +kernel
theorem dd_M_store_139 : decode cb_M_store 139 = .ok (.aload_n 0, 1) := by decide +kernel
theorem dd_M_store_140 : decode cb_M_store 140 = .ok (.getfield 51, 3) := by decide +kernel
theorem dd_M_store_143 : decode cb_M_store 143 = .ok (.iconst 5, 1) := by decide +kernel
theorem dd_M_store_144 : decode cb_M_store 144 = .ok (.iload_n 1, 1) := by decide +kernel
theorem dd_M_store_145 : decode cb_M_store 145 = .ok (.imul, 1) := by decide +kernel
theorem dd_M_store_146 : decode cb_M_store 146 = .ok (.aload_n 0, 1) := by decide +kernel
theorem dd_M_store_147 : decode cb_M_store 147 = .ok (.getfield 48, 3) := by decide +kernel
theorem dd_M_store_150 : decode cb_M_store 150 = .ok (.iload_n 1, 1) := by decide +kernel
theorem dd_M_store_151 : decode cb_M_store 151 = .ok (.iaload, 1) := by decide +kernel
theorem dd_M_store_152 : decode cb_M_store 152 = .ok (.iadd, 1) := by decide +kernel
theorem dd_M_store_153 : decode cb_M_store 153 = .ok (.iaload, 1) := by decide +kernel
theorem dd_M_store_154 : decode cb_M_store 154 = .ok (.iastore, 1) := by decide +kernel
theorem dd_M_store_155 : decode cb_M_store 155 = .ok (.aload_n 0, 1) := by decide +kernel
theorem dd_M_store_156 : decode cb_M_store 156 = .ok (.getfield 54, 3) := by decide +kernel
theorem dd_M_store_159 : decode cb_M_store 159 = .ok (.iload 6, 2) := by decide +kernel
theorem dd_M_store_161 : decode cb_M_store 161 = .ok (.aload_n 0, 1) := by decide +kernel
theorem dd_M_store_162 : decode cb_M_store 162 = .ok (.getfield 54, 3) := by decide +kernel
theorem dd_M_store_165 : decode cb_M_store 165 = .ok (.iconst 5, 1) := by decide +kernel
theorem dd_M_store_166 : decode cb_M_store 166 = .ok (.iload_n 1, 1) := by decide +kernel
theorem dd_M_store_167 : decode cb_M_store 167 = .ok (.imul, 1) := by decide +kernel
theorem dd_M_store_168 : decode cb_M_store 168 = .ok (.aload_n 0, 1) := by decide +kernel
theorem dd_M_store_169 : decode cb_M_store 169 = .ok (.getfield 48, 3) := by decide +kernel
theorem dd_M_store_172 : decode cb_M_store 172 = .ok (.iload_n 1, 1) := by decide +kernel
theorem dd_M_store_173 : decode cb_M_store 173 = .ok (.iaload, 1) := by decide +kernel
theorem dd_M_store_174 : decode cb_M_store 174 = .ok (.iadd, 1) := by decide +kernel
theorem dd_M_store_175 : decode cb_M_store 175 = .ok (.laload, 1) := by decide +kernel
theorem dd_M_store_176 : decode cb_M_store 176 = .ok (.lastore, 1) := by decide +kernel
theorem dd_M_store_177 : decode cb_M_store 177 = .ok (.return_, 1) := by decide +kernel
theorem dd_M_deliver_0 : decode cb_M_deliver 0 = .ok (.aload_n 0, 1) := by decide +kernel
theorem dd_M_deliver_1 : decode cb_M_deliver 1 = .ok (.iload_n 1, 1) := by decide +kernel
theorem dd_M_deliver_2 : decode cb_M_deliver 2 = .ok (.invokevirtual 94, 3) := by decide +kernel
theorem dd_M_deliver_5 : decode cb_M_deliver 5 = .ok (.ifCond .ne 11, 3) := by decide +kernel
theorem dd_M_deliver_8 : decode cb_M_deliver 8 = .ok (.aload_n 0, 1) := by decide +kernel
theorem dd_M_deliver_9 : decode cb_M_deliver 9 = .ok (.iload_n 2, 1) := by decide +kernel
theorem dd_M_deliver_10 : decode cb_M_deliver 10 = .ok (.invokevirtual 98, 3) := by decide +kernel
theorem dd_M_deliver_13 : decode cb_M_deliver 13 = .ok (.ifCond .eq 5, 3) := by decide +kernel
theorem dd_M_deliver_16 : decode cb_M_deliver 16 = .ok (.iconst (-1), 1) := by decide +kernel
theorem dd_M_deliver_17 : decode cb_M_deliver 17 = .ok (.ireturn, 1) := by decide +kernel
theorem dd_M_deliver_18 : decode cb_M_deliver 18 = .ok (.aload_n 0, 1) := by decide +kernel
theorem dd_M_deliver_19 : decode cb_M_deliver 19 = .ok (.iconst 0, 1) := by decide +kernel
theorem dd_M_deliver_20 : decode cb_M_deliver 20 = .ok (.iload_n 1, 1) := by decide +kernel
theorem dd_M_deliver_21 : decode cb_M_deliver 21 = .ok (.iload_n 2, 1) := by decide +kernel
theorem dd_M_deliver_22 : decode cb_M_deliver 22 = .ok (.iload_n 3, 1) := by decide +kernel
theorem dd_M_deliver_23 : decode cb_M_deliver 23 = .ok (.invokevirtual 128, 3) := by decide +kernel
theorem dd_M_deliver_26 : decode cb_M_deliver 26 = .ok (.istore 4, 2) := by decide +kernel
theorem dd_M_deliver_28 : decode cb_M_deliver 28 = .ok (.iload 4, 2) := by decide +kernel
theorem dd_M_deliver_30 : decode cb_M_deliver 30 = .ok (.ifCond .ge 6, 3) := by decide +kernel
theorem dd_M_deliver_33 : decode cb_M_deliver 33 = .ok (.bipush (-2), 2) := by decide +kernel
theorem dd_M_deliver_35 : decode cb_M_deliver 35 = .ok (.ireturn, 1) := by decide +kernel
theorem dd_M_deliver_36 : decode cb_M_deliver 36 = .ok (.aload_n 0, 1) := by decide +kernel
theorem dd_M_deliver_37 : decode cb_M_deliver 37 = .ok (.getfield 72, 3) := by decide +kernel
theorem dd_M_deliver_40 : decode cb_M_deliver 40 = .ok (.iload 4, 2) := by decide +kernel
theorem dd_M_deliver_42 : decode cb_M_deliver 42 = .ok (.iaload, 1) := by decide +kernel
theorem dd_M_deliver_43 : decode cb_M_deliver 43 = .ok (.istore 5, 2) := by decide +kernel
theorem dd_M_deliver_45 : decode cb_M_deliver 45 = .ok (.aload_n 0, 1) := by decide +kernel
theorem dd_M_deliver_46 : decode cb_M_deliver 46 = .ok (.getfield 75, 3) := by decide +kernel
theorem dd_M_deliver_49 : decode cb_M_deliver 49 = .ok (.iload 4, 2) := by decide +kernel
theorem dd_M_deliver_51 : decode cb_M_deliver 51 = .ok (.iaload, 1) := by decide +kernel
theorem dd_M_deliver_52 : decode cb_M_deliver 52 = .ok (.istore 6, 2) := by decide +kernel
theorem dd_M_deliver_54 : decode cb_M_deliver 54 = .ok (.aload_n 0, 1) := by decide +kernel
theorem dd_M_deliver_55 : decode cb_M_deliver 55 = .ok (.getfield 78, 3) := by decide +kernel
theorem dd_M_deliver_58 : decode cb_M_deliver 58 = .ok (.iload 4, 2) := by decide +kernel
theorem dd_M_deliver_60 : decode cb_M_deliver 60 = .ok (.laload, 1) := by decide +kernel
theorem dd_M_deliver_61 : decode cb_M_deliver 61 = .ok (.lstore 7, 2) := by decide +kernel
theorem dd_M_deliver_63 : decode cb_M_deliver 63 = .ok (.aload_n 0, 1) := by decide +kernel
