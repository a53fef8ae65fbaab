theorem dX3_init_0 : decode cX3_init 0 = .ok (.aload_n 0, 1) := by decide +kernel
theorem dX3_init_1 : decode cX3_init 1 = .ok (.invokespecial 1, 3) := by decide +kernel
theorem dX3_init_4 : decode cX3_init 4 = .ok (.aload_n 0, 1) := by decide +kernel
theorem dX3_init_5 : decode cX3_init 5 = .ok (.new 7, 3) := by decide +kernel
theorem dX3_init_8 : decode cX3_init 8 = .ok (.dup, 1) := by decide +kernel
theorem dX3_init_9 : decode cX3_init 9 = .ok (.invokespecial 9, 3) := by decide +kernel
theorem dX3_init_12 : decode cX3_init 12 = .ok (.putfield 10, 3) := by decide +kernel
theorem dX3_init_15 : decode cX3_init 15 = .ok (.aload_n 0, 1) := by decide +kernel
theorem dX3_init_16 : decode cX3_init 16 = .ok (.new 16, 3) := by decide +kernel
theorem dX3_init_19 : decode cX3_init 19 = .ok (.dup, 1) := by decide +kernel
theorem dX3_init_20 : decode cX3_init 20 = .ok (.invokespecial 18, 3) := by decide +kernel
theorem dX3_init_23 : decode cX3_init 23 = .ok (.putfield 19, 3) := by decide +kernel
theorem dX3_init_26 : decode cX3_init 26 = .ok (.aload_n 0, 1) := by decide +kernel
theorem dX3_init_27 : decode cX3_init 27 = .ok (.new 23, 3) := by decide +kernel
theorem dX3_init_30 : decode cX3_init 30 = .ok (.dup, 1) := by decide +kernel
theorem dX3_init_31 : decode cX3_init 31 = .ok (.invokespecial 25, 3) := by decide +kernel
theorem dX3_init_34 : decode cX3_init 34 = .ok (.putfield 26, 3) := by decide +kernel
theorem dX3_init_37 : decode cX3_init 37 = .ok (.aload_n 0, 1) := by decide +kernel
theorem dX3_init_38 : decode cX3_init 38 = .ok (.iconst 2, 1) := by decide +kernel
theorem dX3_init_39 : decode cX3_init 39 = .ok (.anewarray 7, 3) := by decide +kernel
theorem dX3_init_42 : decode cX3_init 42 = .ok (.putfield 30, 3) := by decide +kernel
theorem dX3_init_45 : decode cX3_init 45 = .ok (.aload_n 0, 1) := by decide +kernel
theorem dX3_init_46 : decode cX3_init 46 = .ok (.iconst 2, 1) := by decide +kernel
theorem dX3_init_47 : decode cX3_init 47 = .ok (.newarray .boolean, 2) := by decide +kernel
theorem dX3_init_49 : decode cX3_init 49 = .ok (.putfield 34, 3) := by decide +kernel
theorem dX3_init_52 : decode cX3_init 52 = .ok (.iconst 0, 1) := by decide +kernel
theorem dX3_init_53 : decode cX3_init 53 = .ok (.istore_n 1, 1) := by decide +kernel
theorem dX3_init_54 : decode cX3_init 54 = .ok (.iload_n 1, 1) := by decide +kernel
theorem dX3_init_55 : decode cX3_init 55 = .ok (.iconst 2, 1) := by decide +kernel
theorem dX3_init_56 : decode cX3_init 56 = .ok (.if_icmp .ge 22, 3) := by decide +kernel
theorem dX3_init_59 : decode cX3_init 59 = .ok (.aload_n 0, 1) := by decide +kernel
theorem dX3_init_60 : decode cX3_init 60 = .ok (.getfield 30, 3) := by decide +kernel
theorem dX3_init_63 : decode cX3_init 63 = .ok (.iload_n 1, 1) := by decide +kernel
theorem dX3_init_64 : decode cX3_init 64 = .ok (.new 7, 3) := by decide +kernel
theorem dX3_init_67 : decode cX3_init 67 = .ok (.dup, 1) := by decide +kernel
theorem dX3_init_68 : decode cX3_init 68 = .ok (.invokespecial 9, 3) := by decide +kernel
theorem dX3_init_71 : decode cX3_init 71 = .ok (.aastore, 1) := by decide +kernel
theorem dX3_init_72 : decode cX3_init 72 = .ok (.iinc 1 1, 3) := by decide +kernel
theorem dX3_init_75 : decode cX3_init 75 = .ok (.goto (-21), 3) := by decide +kernel
theorem dX3_init_78 : decode cX3_init 78 = .ok (.return_, 1) := by decide +kernel
theorem dX3_set_0 : decode cX3_set 0 = .ok (.aload_n 0, 1) := by decide +kernel
theorem dX3_set_1 : decode cX3_set 1 = .ok (.getfield 19, 3) := by decide +kernel
theorem dX3_set_4 : decode cX3_set 4 = .ok (.aload_n 0, 1) := by decide +kernel
theorem dX3_set_5 : decode cX3_set 5 = .ok (.getfield 10, 3) := by decide +kernel
theorem dX3_set_8 : decode cX3_set 8 = .ok (.invokevirtual 38, 3) := by decide +kernel
theorem dX3_set_11 : decode cX3_set 11 = .ok (.aload_n 0, 1) := by decide +kernel
theorem dX3_set_12 : decode cX3_set 12 = .ok (.aload_n 0, 1) := by decide +kernel
theorem dX3_set_13 : decode cX3_set 13 = .ok (.getfield 10, 3) := by decide +kernel
theorem dX3_set_16 : decode cX3_set 16 = .ok (.iload_n 1, 1) := by decide +kernel
theorem dX3_set_17 : decode cX3_set 17 = .ok (.iload_n 2, 1) := by decide +kernel
theorem dX3_set_18 : decode cX3_set 18 = .ok (.invokevirtual 42, 3) := by decide +kernel
theorem dX3_set_21 : decode cX3_set 21 = .ok (.invokevirtual 46, 3) := by decide +kernel
theorem dX3_set_24 : decode cX3_set 24 = .ok (.ireturn, 1) := by decide +kernel
theorem dX3_mark_0 : decode cX3_mark 0 = .ok (.aload_n 0, 1) := by decide +kernel
theorem dX3_mark_1 : decode cX3_mark 1 = .ok (.getfield 19, 3) := by decide +kernel
theorem dX3_mark_4 : decode cX3_mark 4 = .ok (.aload_n 0, 1) := by decide +kernel
theorem dX3_mark_5 : decode cX3_mark 5 = .ok (.getfield 10, 3) := by decide +kernel
theorem dX3_mark_8 : decode cX3_mark 8 = .ok (.invokevirtual 38, 3) := by decide +kernel
theorem dX3_mark_11 : decode cX3_mark 11 = .ok (.aload_n 0, 1) := by decide +kernel
theorem dX3_mark_12 : decode cX3_mark 12 = .ok (.aload_n 0, 1) := by decide +kernel
theorem dX3_mark_13 : decode cX3_mark 13 = .ok (.getfield 10, 3) := by decide +kernel
theorem dX3_mark_16 : decode cX3_mark 16 = .ok (.iload_n 1, 1) := by decide +kernel
theorem dX3_mark_17 : decode cX3_mark 17 = .ok (.iload_n 2, 1) := by decide +kernel
theorem dX3_mark_18 : decode cX3_mark 18 = .ok (.iload_n 3, 1) := by decide +kernel
theorem dX3_mark_19 : decode cX3_mark 19 = .ok (.invokevirtual 50, 3) := by decide +kernel
theorem dX3_mark_22 : decode cX3_mark 22 = .ok (.invokevirtual 46, 3) := by decide +kernel
theorem dX3_mark_25 : decode cX3_mark 25 = .ok (.ireturn, 1) := by decide +kernel
theorem dX3_argue_0 : decode cX3_argue 0 = .ok (.aload_n 0, 1) := by decide +kernel
theorem dX3_argue_1 : decode cX3_argue 1 = .ok (.getfield 19, 3) := by decide +kernel
theorem dX3_argue_4 : decode cX3_argue 4 = .ok (.aload_n 0, 1) := by decide +kernel
theorem dX3_argue_5 : decode cX3_argue 5 = .ok (.getfield 10, 3) := by decide +kernel
theorem dX3_argue_8 : decode cX3_argue 8 = .ok (.invokevirtual 38, 3) := by decide +kernel
theorem dX3_argue_11 : decode cX3_argue 11 = .ok (.aload_n 0, 1) := by decide +kernel
theorem dX3_argue_12 : decode cX3_argue 12 = .ok (.aload_n 0, 1) := by decide +kernel
theorem dX3_argue_13 : decode cX3_argue 13 = .ok (.getfield 10, 3) := by decide +kernel
theorem dX3_argue_16 : decode cX3_argue 16 = .ok (.iload_n 1, 1) := by decide +kernel
theorem dX3_argue_17 : decode cX3_argue 17 = .ok (.iload_n 2, 1) := by decide +kernel
theorem dX3_argue_18 : decode cX3_argue 18 = .ok (.iload_n 3, 1) := by decide +kernel
theorem dX3_argue_19 : decode cX3_argue 19 = .ok (.invokevirtual 54, 3) := by decide +kernel
theorem dX3_argue_22 : decode cX3_argue 22 = .ok (.invokevirtual 46, 3) := by decide +kernel
theorem dX3_argue_25 : decode cX3_argue 25 = .ok (.ireturn, 1) := by decide +kernel
theorem dX3_round_0 : decode cX3_round 0 = .ok (.aload_n 0, 1) := by decide +kernel
theorem dX3_round_1 : decode cX3_round 1 = .ok (.getfield 19, 3) := by decide +kernel
theorem dX3_round_4 : decode cX3_round 4 = .ok (.aload_n 0, 1) := by decide +kernel
theorem dX3_round_5 : decode cX3_round 5 = .ok (.getfield 10, 3) := by decide +kernel
theorem dX3_round_8 : decode cX3_round 8 = .ok (.invokevirtual 38, 3) := by decide +kernel
theorem dX3_round_11 : decode cX3_round 11 = .ok (.aload_n 0, 1) := by decide +kernel
theorem dX3_round_12 : decode cX3_round 12 = .ok (.aload_n 0, 1) := by decide +kernel
theorem dX3_round_13 : decode cX3_round 13 = .ok (.getfield 10, 3) := by decide +kernel
theorem dX3_round_16 : decode cX3_round 16 = .ok (.invokevirtual 57, 3) := by decide +kernel
theorem dX3_round_19 : decode cX3_round 19 = .ok (.invokevirtual 46, 3) := by decide +kernel
theorem dX3_round_22 : decode cX3_round 22 = .ok (.ireturn, 1) := by decide +kernel
theorem dX3_print_0 : decode cX3_print 0 = .ok (.aload_n 0, 1) := by decide +kernel
theorem dX3_print_1 : decode cX3_print 1 = .ok (.getfield 19, 3) := by decide +kernel
theorem dX3_print_4 : decode cX3_print 4 = .ok (.aload_n 0, 1) := by decide +kernel
theorem dX3_print_5 : decode cX3_print 5 = .ok (.getfield 10, 3) := by decide +kernel
theorem dX3_print_8 : decode cX3_print 8 = .ok (.invokevirtual 38, 3) := by decide +kernel
theorem dX3_print_11 : decode cX3_print 11 = .ok (.aload_n 0, 1) := by decide +kernel
theorem dX3_print_12 : decode cX3_print 12 = .ok (.aload_n 0, 1) := by decide +kernel
theorem dX3_print_13 : decode cX3_print 13 = .ok (.getfield 10, 3) := by decide +kernel
theorem dX3_print_16 : decode cX3_print 16 = .ok (.iload_n 1, 1) := by decide +kernel
theorem dX3_print_17 : decode cX3_print 17 = .ok (.iload_n 2, 1) := by decide +kernel
theorem dX3_print_18 : decode cX3_print 18 = .ok (.invokevirtual 61, 3) := by decide +kernel
theorem dX3_print_21 : decode cX3_print 21 = .ok (.invokevirtual 46, 3) := by decide +kernel
theorem dX3_print_24 : decode cX3_print 24 = .ok (.ireturn, 1) := by decide +kernel
theorem dX3_buy_0 : decode cX3_buy 0 = .ok (.aload_n 0, 1) := by decide +kernel
theorem dX3_buy_1 : decode cX3_buy 1 = .ok (.getfield 19, 3) := by decide +kernel
theorem dX3_buy_4 : decode cX3_buy 4 = .ok (.aload_n 0, 1) := by decide +kernel
theorem dX3_buy_5 : decode cX3_buy 5 = .ok (.getfield 10, 3) := by decide +kernel
theorem dX3_buy_8 : decode cX3_buy 8 = .ok (.invokevirtual 38, 3) := by decide +kernel
theorem dX3_buy_11 : decode cX3_buy 11 = .ok (.aload_n 0, 1) := by decide +kernel
theorem dX3_buy_12 : decode cX3_buy 12 = .ok (.aload_n 0, 1) := by decide +kernel
theorem dX3_buy_13 : decode cX3_buy 13 = .ok (.getfield 10, 3) := by decide +kernel
theorem dX3_buy_16 : decode cX3_buy 16 = .ok (.iload_n 1, 1) := by decide +kernel
theorem dX3_buy_17 : decode cX3_buy 17 = .ok (.invokevirtual 64, 3) := by decide +kernel
theorem dX3_buy_20 : decode cX3_buy 20 = .ok (.invokevirtual 46, 3) := by decide +kernel
theorem dX3_buy_23 : decode cX3_buy 23 = .ok (.ireturn, 1) := by decide +kernel
theorem dX3_reopen_0 : decode cX3_reopen 0 = .ok (.aload_n 0, 1) := by decide +kernel
theorem dX3_reopen_1 : decode cX3_reopen 1 = .ok (.getfield 19, 3) := by decide +kernel
theorem dX3_reopen_4 : decode cX3_reopen 4 = .ok (.aload_n 0, 1) := by decide +kernel
theorem dX3_reopen_5 : decode cX3_reopen 5 = .ok (.getfield 10, 3) := by decide +kernel
theorem dX3_reopen_8 : decode cX3_reopen 8 = .ok (.invokevirtual 38, 3) := by decide +kernel
theorem dX3_reopen_11 : decode cX3_reopen 11 = .ok (.aload_n 0, 1) := by decide +kernel
theorem dX3_reopen_12 : decode cX3_reopen 12 = .ok (.aload_n 0, 1) := by decide +kernel
theorem dX3_reopen_13 : decode cX3_reopen 13 = .ok (.getfield 10, 3) := by decide +kernel
theorem dX3_reopen_16 : decode cX3_reopen 16 = .ok (.iload_n 1, 1) := by decide +kernel
theorem dX3_reopen_17 : decode cX3_reopen 17 = .ok (.invokevirtual 67, 3) := by decide +kernel
theorem dX3_reopen_20 : decode cX3_reopen 20 = .ok (.invokevirtual 46, 3) := by decide +kernel
theorem dX3_reopen_23 : decode cX3_reopen 23 = .ok (.ireturn, 1) := by decide +kernel
theorem dX3_of_0 : decode cX3_of 0 = .ok (.aload_n 0, 1) := by decide +kernel
theorem dX3_of_1 : decode cX3_of 1 = .ok (.getfield 10, 3) := by decide +kernel
theorem dX3_of_4 : decode cX3_of 4 = .ok (.iload_n 1, 1) := by decide +kernel
theorem dX3_of_5 : decode cX3_of 5 = .ok (.iload_n 2, 1) := by decide +kernel
theorem dX3_of_6 : decode cX3_of 6 = .ok (.invokevirtual 70, 3) := by decide +kernel
theorem dX3_of_9 : decode cX3_of 9 = .ok (.ireturn, 1) := by decide +kernel
theorem dX3_editor_0 : decode cX3_editor 0 = .ok (.aload_n 0, 1) := by decide +kernel
theorem dX3_editor_1 : decode cX3_editor 1 = .ok (.getfield 10, 3) := by decide +kernel
theorem dX3_editor_4 : decode cX3_editor 4 = .ok (.iload_n 1, 1) := by decide +kernel
theorem dX3_editor_5 : decode cX3_editor 5 = .ok (.iload_n 2, 1) := by decide +kernel
theorem dX3_editor_6 : decode cX3_editor 6 = .ok (.invokevirtual 73, 3) := by decide +kernel
theorem dX3_editor_9 : decode cX3_editor 9 = .ok (.ireturn, 1) := by decide +kernel
theorem dX3_chosen_0 : decode cX3_chosen 0 = .ok (.aload_n 0, 1) := by decide +kernel
theorem dX3_chosen_1 : decode cX3_chosen 1 = .ok (.getfield 10, 3) := by decide +kernel
theorem dX3_chosen_4 : decode cX3_chosen 4 = .ok (.iload_n 1, 1) := by decide +kernel
theorem dX3_chosen_5 : decode cX3_chosen 5 = .ok (.invokevirtual 76, 3) := by decide +kernel
theorem dX3_chosen_8 : decode cX3_chosen 8 = .ok (.ireturn, 1) := by decide +kernel
theorem dX3_count_0 : decode cX3_count 0 = .ok (.iload_n 1, 1) := by decide +kernel
theorem dX3_count_1 : decode cX3_count 1 = .ok (.bipush 15, 2) := by decide +kernel
theorem dX3_count_3 : decode cX3_count 3 = .ok (.if_icmp .ne 11, 3) := by decide +kernel
theorem dX3_count_6 : decode cX3_count 6 = .ok (.aload_n 0, 1) := by decide +kernel
theorem dX3_count_7 : decode cX3_count 7 = .ok (.getfield 26, 3) := by decide +kernel
theorem dX3_count_10 : decode cX3_count 10 = .ok (.getfield 79, 3) := by decide +kernel
theorem dX3_count_13 : decode cX3_count 13 = .ok (.ireturn, 1) := by decide +kernel
theorem dX3_count_14 : decode cX3_count 14 = .ok (.iload_n 1, 1) := by decide +kernel
theorem dX3_count_15 : decode cX3_count 15 = .ok (.bipush 16, 2) := by decide +kernel
theorem dX3_count_17 : decode cX3_count 17 = .ok (.if_icmp .ne 11, 3) := by decide +kernel
theorem dX3_count_20 : decode cX3_count 20 = .ok (.aload_n 0, 1) := by decide +kernel
theorem dX3_count_21 : decode cX3_count 21 = .ok (.getfield 19, 3) := by decide +kernel
theorem dX3_count_24 : decode cX3_count 24 = .ok (.getfield 83, 3) := by decide +kernel
theorem dX3_count_27 : decode cX3_count 27 = .ok (.ireturn, 1) := by decide +kernel
theorem dX3_count_28 : decode cX3_count 28 = .ok (.aload_n 0, 1) := by decide +kernel
theorem dX3_count_29 : decode cX3_count 29 = .ok (.getfield 10, 3) := by decide +kernel
theorem dX3_count_32 : decode cX3_count 32 = .ok (.iload_n 1, 1) := by decide +kernel
theorem dX3_count_33 : decode cX3_count 33 = .ok (.invokevirtual 86, 3) := by decide +kernel
theorem dX3_count_36 : decode cX3_count 36 = .ok (.ireturn, 1) := by decide +kernel
theorem dX3_why_0 : decode cX3_why 0 = .ok (.aload_n 0, 1) := by decide +kernel
theorem dX3_why_1 : decode cX3_why 1 = .ok (.getfield 10, 3) := by decide +kernel
theorem dX3_why_4 : decode cX3_why 4 = .ok (.iload_n 1, 1) := by decide +kernel
theorem dX3_why_5 : decode cX3_why 5 = .ok (.invokevirtual 89, 3) := by decide +kernel
theorem dX3_why_8 : decode cX3_why 8 = .ok (.ireturn, 1) := by decide +kernel
theorem dX3_ifRound_0 : decode cX3_ifRound 0 = .ok (.aload_n 0, 1) := by decide +kernel
theorem dX3_ifRound_1 : decode cX3_ifRound 1 = .ok (.getfield 10, 3) := by decide +kernel
theorem dX3_ifRound_4 : decode cX3_ifRound 4 = .ok (.iload_n 1, 1) := by decide +kernel
theorem dX3_ifRound_5 : decode cX3_ifRound 5 = .ok (.invokevirtual 92, 3) := by decide +kernel
theorem dX3_ifRound_8 : decode cX3_ifRound 8 = .ok (.ireturn, 1) := by decide +kernel
theorem dX3_decides_0 : decode cX3_decides 0 = .ok (.aload_n 0, 1) := by decide +kernel
theorem dX3_decides_1 : decode cX3_decides 1 = .ok (.getfield 10, 3) := by decide +kernel
theorem dX3_decides_4 : decode cX3_decides 4 = .ok (.iload_n 1, 1) := by decide +kernel
theorem dX3_decides_5 : decode cX3_decides 5 = .ok (.invokevirtual 95, 3) := by decide +kernel
theorem dX3_decides_8 : decode cX3_decides 8 = .ok (.ireturn, 1) := by decide +kernel
theorem dX3_agree_0 : decode cX3_agree 0 = .ok (.aload_n 0, 1) := by decide +kernel
theorem dX3_agree_1 : decode cX3_agree 1 = .ok (.getfield 10, 3) := by decide +kernel
theorem dX3_agree_4 : decode cX3_agree 4 = .ok (.iload_n 1, 1) := by decide +kernel
theorem dX3_agree_5 : decode cX3_agree 5 = .ok (.iload_n 2, 1) := by decide +kernel
theorem dX3_agree_6 : decode cX3_agree 6 = .ok (.invokevirtual 98, 3) := by decide +kernel
theorem dX3_agree_9 : decode cX3_agree 9 = .ok (.ireturn, 1) := by decide +kernel
theorem dX3_paperFor_0 : decode cX3_paperFor 0 = .ok (.aload_n 0, 1) := by decide +kernel
theorem dX3_paperFor_1 : decode cX3_paperFor 1 = .ok (.getfield 10, 3) := by decide +kernel
theorem dX3_paperFor_4 : decode cX3_paperFor 4 = .ok (.invokevirtual 101, 3) := by decide +kernel
theorem dX3_paperFor_7 : decode cX3_paperFor 7 = .ok (.ireturn, 1) := by decide +kernel
theorem dX3_undo_0 : decode cX3_undo 0 = .ok (.aload_n 0, 1) := by decide +kernel
theorem dX3_undo_1 : decode cX3_undo 1 = .ok (.getfield 19, 3) := by decide +kernel
theorem dX3_undo_4 : decode cX3_undo 4 = .ok (.getfield 83, 3) := by decide +kernel
theorem dX3_undo_7 : decode cX3_undo 7 = .ok (.ifCond .ne 6, 3) := by decide +kernel
theorem dX3_undo_10 : decode cX3_undo 10 = .ok (.bipush (-5), 2) := by decide +kernel
theorem dX3_undo_12 : decode cX3_undo 12 = .ok (.ireturn, 1) := by decide +kernel
theorem dX3_undo_13 : decode cX3_undo 13 = .ok (.aload_n 0, 1) := by decide +kernel
theorem dX3_undo_14 : decode cX3_undo 14 = .ok (.getfield 19, 3) := by decide +kernel
theorem dX3_undo_17 : decode cX3_undo 17 = .ok (.aload_n 0, 1) := by decide +kernel
theorem dX3_undo_18 : decode cX3_undo 18 = .ok (.getfield 10, 3) := by decide +kernel
theorem dX3_undo_21 : decode cX3_undo 21 = .ok (.invokevirtual 117, 3) := by decide +kernel
theorem dX3_undo_24 : decode cX3_undo 24 = .ok (.aload_n 0, 1) := by decide +kernel
theorem dX3_undo_25 : decode cX3_undo 25 = .ok (.getfield 19, 3) := by decide +kernel
theorem dX3_undo_28 : decode cX3_undo 28 = .ok (.getfield 83, 3) := by decide +kernel
theorem dX3_undo_31 : decode cX3_undo 31 = .ok (.ireturn, 1) := by decide +kernel
theorem dX3_recorded_0 : decode cX3_recorded 0 = .ok (.iload_n 1, 1) := by decide +kernel
theorem dX3_recorded_1 : decode cX3_recorded 1 = .ok (.ifCond .lt 10, 3) := by decide +kernel
theorem dX3_recorded_4 : decode cX3_recorded 4 = .ok (.aload_n 0, 1) := by decide +kernel
theorem dX3_recorded_5 : decode cX3_recorded 5 = .ok (.getfield 19, 3) := by decide +kernel
theorem dX3_recorded_8 : decode cX3_recorded 8 = .ok (.invokevirtual 130, 3) := by decide +kernel
theorem dX3_recorded_11 : decode cX3_recorded 11 = .ok (.iload_n 1, 1) := by decide +kernel
theorem dX3_recorded_12 : decode cX3_recorded 12 = .ok (.ireturn, 1) := by decide +kernel
