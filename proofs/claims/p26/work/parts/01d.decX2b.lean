theorem dX2_markDecides_72 : decode cX2_markDecides 72 = .ok (.aload_n 0, 1) := by decide +kernel
theorem dX2_markDecides_73 : decode cX2_markDecides 73 = .ok (.iload 5, 2) := by decide +kernel
theorem dX2_markDecides_75 : decode cX2_markDecides 75 = .ok (.iload 6, 2) := by decide +kernel
theorem dX2_markDecides_77 : decode cX2_markDecides 77 = .ok (.invokevirtual 113, 3) := by decide +kernel
theorem dX2_markDecides_80 : decode cX2_markDecides 80 = .ok (.iload_n 3, 1) := by decide +kernel
theorem dX2_markDecides_81 : decode cX2_markDecides 81 = .ok (.if_icmp .eq 5, 3) := by decide +kernel
theorem dX2_markDecides_84 : decode cX2_markDecides 84 = .ok (.iconst 1, 1) := by decide +kernel
theorem dX2_markDecides_85 : decode cX2_markDecides 85 = .ok (.ireturn, 1) := by decide +kernel
theorem dX2_markDecides_86 : decode cX2_markDecides 86 = .ok (.iinc 4 1, 3) := by decide +kernel
theorem dX2_markDecides_89 : decode cX2_markDecides 89 = .ok (.goto (-69), 3) := by decide +kernel
theorem dX2_markDecides_92 : decode cX2_markDecides 92 = .ok (.iconst 0, 1) := by decide +kernel
theorem dX2_markDecides_93 : decode cX2_markDecides 93 = .ok (.ireturn, 1) := by decide +kernel
theorem dX2_framesThatAre_0 : decode cX2_framesThatAre 0 = .ok (.iconst 0, 1) := by decide +kernel
theorem dX2_framesThatAre_1 : decode cX2_framesThatAre 1 = .ok (.istore_n 2, 1) := by decide +kernel
theorem dX2_framesThatAre_2 : decode cX2_framesThatAre 2 = .ok (.iconst 0, 1) := by decide +kernel
theorem dX2_framesThatAre_3 : decode cX2_framesThatAre 3 = .ok (.istore_n 3, 1) := by decide +kernel
theorem dX2_framesThatAre_4 : decode cX2_framesThatAre 4 = .ok (.iload_n 3, 1) := by decide +kernel
theorem dX2_framesThatAre_5 : decode cX2_framesThatAre 5 = .ok (.bipush 30, 2) := by decide +kernel
theorem dX2_framesThatAre_7 : decode cX2_framesThatAre 7 = .ok (.if_icmp .ge 27, 3) := by decide +kernel
theorem dX2_framesThatAre_10 : decode cX2_framesThatAre 10 = .ok (.iload_n 2, 1) := by decide +kernel
theorem dX2_framesThatAre_11 : decode cX2_framesThatAre 11 = .ok (.aload_n 0, 1) := by decide +kernel
theorem dX2_framesThatAre_12 : decode cX2_framesThatAre 12 = .ok (.getfield 15, 3) := by decide +kernel
theorem dX2_framesThatAre_15 : decode cX2_framesThatAre 15 = .ok (.iload_n 3, 1) := by decide +kernel
theorem dX2_framesThatAre_16 : decode cX2_framesThatAre 16 = .ok (.iaload, 1) := by decide +kernel
theorem dX2_framesThatAre_17 : decode cX2_framesThatAre 17 = .ok (.iload_n 1, 1) := by decide +kernel
theorem dX2_framesThatAre_18 : decode cX2_framesThatAre 18 = .ok (.if_icmp .ne 7, 3) := by decide +kernel
theorem dX2_framesThatAre_21 : decode cX2_framesThatAre 21 = .ok (.iconst 1, 1) := by decide +kernel
theorem dX2_framesThatAre_22 : decode cX2_framesThatAre 22 = .ok (.goto 4, 3) := by decide +kernel
theorem dX2_framesThatAre_25 : decode cX2_framesThatAre 25 = .ok (.iconst 0, 1) := by decide +kernel
theorem dX2_framesThatAre_26 : decode cX2_framesThatAre 26 = .ok (.iadd, 1) := by decide +kernel
theorem dX2_framesThatAre_27 : decode cX2_framesThatAre 27 = .ok (.istore_n 2, 1) := by decide +kernel
theorem dX2_framesThatAre_28 : decode cX2_framesThatAre 28 = .ok (.iinc 3 1, 3) := by decide +kernel
theorem dX2_framesThatAre_31 : decode cX2_framesThatAre 31 = .ok (.goto (-27), 3) := by decide +kernel
theorem dX2_framesThatAre_34 : decode cX2_framesThatAre 34 = .ok (.iload_n 2, 1) := by decide +kernel
theorem dX2_framesThatAre_35 : decode cX2_framesThatAre 35 = .ok (.ireturn, 1) := by decide +kernel
theorem dX2_framesThatBecome_0 : decode cX2_framesThatBecome 0 = .ok (.iconst 0, 1) := by decide +kernel
theorem dX2_framesThatBecome_1 : decode cX2_framesThatBecome 1 = .ok (.istore_n 2, 1) := by decide +kernel
theorem dX2_framesThatBecome_2 : decode cX2_framesThatBecome 2 = .ok (.iconst 0, 1) := by decide +kernel
theorem dX2_framesThatBecome_3 : decode cX2_framesThatBecome 3 = .ok (.istore_n 3, 1) := by decide +kernel
theorem dX2_framesThatBecome_4 : decode cX2_framesThatBecome 4 = .ok (.iload_n 3, 1) := by decide +kernel
theorem dX2_framesThatBecome_5 : decode cX2_framesThatBecome 5 = .ok (.bipush 30, 2) := by decide +kernel
theorem dX2_framesThatBecome_7 : decode cX2_framesThatBecome 7 = .ok (.if_icmp .ge 35, 3) := by decide +kernel
theorem dX2_framesThatBecome_10 : decode cX2_framesThatBecome 10 = .ok (.iload_n 2, 1) := by decide +kernel
theorem dX2_framesThatBecome_11 : decode cX2_framesThatBecome 11 = .ok (.aload_n 0, 1) := by decide +kernel
theorem dX2_framesThatBecome_12 : decode cX2_framesThatBecome 12 = .ok (.getfield 15, 3) := by decide +kernel
theorem dX2_framesThatBecome_15 : decode cX2_framesThatBecome 15 = .ok (.iload_n 3, 1) := by decide +kernel
theorem dX2_framesThatBecome_16 : decode cX2_framesThatBecome 16 = .ok (.iaload, 1) := by decide +kernel
theorem dX2_framesThatBecome_17 : decode cX2_framesThatBecome 17 = .ok (.ifCond .ne 16, 3) := by decide +kernel
theorem dX2_framesThatBecome_20 : decode cX2_framesThatBecome 20 = .ok (.aload_n 0, 1) := by decide +kernel
theorem dX2_framesThatBecome_21 : decode cX2_framesThatBecome 21 = .ok (.iload_n 3, 1) := by decide +kernel
theorem dX2_framesThatBecome_22 : decode cX2_framesThatBecome 22 = .ok (.invokevirtual 123, 3) := by decide +kernel
theorem dX2_framesThatBecome_25 : decode cX2_framesThatBecome 25 = .ok (.iload_n 1, 1) := by decide +kernel
theorem dX2_framesThatBecome_26 : decode cX2_framesThatBecome 26 = .ok (.if_icmp .ne 7, 3) := by decide +kernel
theorem dX2_framesThatBecome_29 : decode cX2_framesThatBecome 29 = .ok (.iconst 1, 1) := by decide +kernel
theorem dX2_framesThatBecome_30 : decode cX2_framesThatBecome 30 = .ok (.goto 4, 3) := by decide +kernel
theorem dX2_framesThatBecome_33 : decode cX2_framesThatBecome 33 = .ok (.iconst 0, 1) := by decide +kernel
theorem dX2_framesThatBecome_34 : decode cX2_framesThatBecome 34 = .ok (.iadd, 1) := by decide +kernel
theorem dX2_framesThatBecome_35 : decode cX2_framesThatBecome 35 = .ok (.istore_n 2, 1) := by decide +kernel
theorem dX2_framesThatBecome_36 : decode cX2_framesThatBecome 36 = .ok (.iinc 3 1, 3) := by decide +kernel
theorem dX2_framesThatBecome_39 : decode cX2_framesThatBecome 39 = .ok (.goto (-35), 3) := by decide +kernel
theorem dX2_framesThatBecome_42 : decode cX2_framesThatBecome 42 = .ok (.iload_n 2, 1) := by decide +kernel
theorem dX2_framesThatBecome_43 : decode cX2_framesThatBecome 43 = .ok (.ireturn, 1) := by decide +kernel
theorem dX2_longestRow_0 : decode cX2_longestRow 0 = .ok (.iconst 0, 1) := by decide +kernel
theorem dX2_longestRow_1 : decode cX2_longestRow 1 = .ok (.istore_n 1, 1) := by decide +kernel
theorem dX2_longestRow_2 : decode cX2_longestRow 2 = .ok (.iconst 0, 1) := by decide +kernel
theorem dX2_longestRow_3 : decode cX2_longestRow 3 = .ok (.istore_n 2, 1) := by decide +kernel
theorem dX2_longestRow_4 : decode cX2_longestRow 4 = .ok (.iconst 0, 1) := by decide +kernel
theorem dX2_longestRow_5 : decode cX2_longestRow 5 = .ok (.istore_n 3, 1) := by decide +kernel
theorem dX2_longestRow_6 : decode cX2_longestRow 6 = .ok (.iload_n 3, 1) := by decide +kernel
theorem dX2_longestRow_7 : decode cX2_longestRow 7 = .ok (.bipush 30, 2) := by decide +kernel
theorem dX2_longestRow_9 : decode cX2_longestRow 9 = .ok (.if_icmp .ge 40, 3) := by decide +kernel
theorem dX2_longestRow_12 : decode cX2_longestRow 12 = .ok (.iload_n 3, 1) := by decide +kernel
theorem dX2_longestRow_13 : decode cX2_longestRow 13 = .ok (.bipush 6, 2) := by decide +kernel
theorem dX2_longestRow_15 : decode cX2_longestRow 15 = .ok (.irem, 1) := by decide +kernel
theorem dX2_longestRow_16 : decode cX2_longestRow 16 = .ok (.ifCond .ne 5, 3) := by decide +kernel
theorem dX2_longestRow_19 : decode cX2_longestRow 19 = .ok (.iconst 0, 1) := by decide +kernel
theorem dX2_longestRow_20 : decode cX2_longestRow 20 = .ok (.istore_n 2, 1) := by decide +kernel
theorem dX2_longestRow_21 : decode cX2_longestRow 21 = .ok (.aload_n 0, 1) := by decide +kernel
theorem dX2_longestRow_22 : decode cX2_longestRow 22 = .ok (.iload_n 3, 1) := by decide +kernel
theorem dX2_longestRow_23 : decode cX2_longestRow 23 = .ok (.invokevirtual 103, 3) := by decide +kernel
theorem dX2_longestRow_26 : decode cX2_longestRow 26 = .ok (.ifCond .eq 9, 3) := by decide +kernel
theorem dX2_longestRow_29 : decode cX2_longestRow 29 = .ok (.iload_n 2, 1) := by decide +kernel
theorem dX2_longestRow_30 : decode cX2_longestRow 30 = .ok (.iconst 1, 1) := by decide +kernel
theorem dX2_longestRow_31 : decode cX2_longestRow 31 = .ok (.iadd, 1) := by decide +kernel
theorem dX2_longestRow_32 : decode cX2_longestRow 32 = .ok (.goto 4, 3) := by decide +kernel
theorem dX2_longestRow_35 : decode cX2_longestRow 35 = .ok (.iconst 0, 1) := by decide +kernel
theorem dX2_longestRow_36 : decode cX2_longestRow 36 = .ok (.istore_n 2, 1) := by decide +kernel
theorem dX2_longestRow_37 : decode cX2_longestRow 37 = .ok (.iload_n 1, 1) := by decide +kernel
theorem dX2_longestRow_38 : decode cX2_longestRow 38 = .ok (.iload_n 2, 1) := by decide +kernel
theorem dX2_longestRow_39 : decode cX2_longestRow 39 = .ok (.invokestatic 138, 3) := by decide +kernel
theorem dX2_longestRow_42 : decode cX2_longestRow 42 = .ok (.istore_n 1, 1) := by decide +kernel
theorem dX2_longestRow_43 : decode cX2_longestRow 43 = .ok (.iinc 3 1, 3) := by decide +kernel
theorem dX2_longestRow_46 : decode cX2_longestRow 46 = .ok (.goto (-40), 3) := by decide +kernel
theorem dX2_longestRow_49 : decode cX2_longestRow 49 = .ok (.iload_n 1, 1) := by decide +kernel
theorem dX2_longestRow_50 : decode cX2_longestRow 50 = .ok (.ireturn, 1) := by decide +kernel
theorem dX2_marksOf_0 : decode cX2_marksOf 0 = .ok (.iconst 0, 1) := by decide +kernel
theorem dX2_marksOf_1 : decode cX2_marksOf 1 = .ok (.istore_n 3, 1) := by decide +kernel
theorem dX2_marksOf_2 : decode cX2_marksOf 2 = .ok (.iconst 0, 1) := by decide +kernel
theorem dX2_marksOf_3 : decode cX2_marksOf 3 = .ok (.istore 4, 2) := by decide +kernel
theorem dX2_marksOf_5 : decode cX2_marksOf 5 = .ok (.iload 4, 2) := by decide +kernel
theorem dX2_marksOf_7 : decode cX2_marksOf 7 = .ok (.bipush 30, 2) := by decide +kernel
theorem dX2_marksOf_9 : decode cX2_marksOf 9 = .ok (.if_icmp .ge 28, 3) := by decide +kernel
theorem dX2_marksOf_12 : decode cX2_marksOf 12 = .ok (.iload_n 3, 1) := by decide +kernel
theorem dX2_marksOf_13 : decode cX2_marksOf 13 = .ok (.aload_n 0, 1) := by decide +kernel
theorem dX2_marksOf_14 : decode cX2_marksOf 14 = .ok (.iload_n 1, 1) := by decide +kernel
theorem dX2_marksOf_15 : decode cX2_marksOf 15 = .ok (.iload 4, 2) := by decide +kernel
theorem dX2_marksOf_17 : decode cX2_marksOf 17 = .ok (.invokevirtual 77, 3) := by decide +kernel
theorem dX2_marksOf_20 : decode cX2_marksOf 20 = .ok (.iload_n 2, 1) := by decide +kernel
theorem dX2_marksOf_21 : decode cX2_marksOf 21 = .ok (.if_icmp .ne 7, 3) := by decide +kernel
theorem dX2_marksOf_24 : decode cX2_marksOf 24 = .ok (.iconst 1, 1) := by decide +kernel
theorem dX2_marksOf_25 : decode cX2_marksOf 25 = .ok (.goto 4, 3) := by decide +kernel
theorem dX2_marksOf_28 : decode cX2_marksOf 28 = .ok (.iconst 0, 1) := by decide +kernel
theorem dX2_marksOf_29 : decode cX2_marksOf 29 = .ok (.iadd, 1) := by decide +kernel
theorem dX2_marksOf_30 : decode cX2_marksOf 30 = .ok (.istore_n 3, 1) := by decide +kernel
theorem dX2_marksOf_31 : decode cX2_marksOf 31 = .ok (.iinc 4 1, 3) := by decide +kernel
theorem dX2_marksOf_34 : decode cX2_marksOf 34 = .ok (.goto (-29), 3) := by decide +kernel
theorem dX2_marksOf_37 : decode cX2_marksOf 37 = .ok (.iload_n 3, 1) := by decide +kernel
theorem dX2_marksOf_38 : decode cX2_marksOf 38 = .ok (.ireturn, 1) := by decide +kernel
theorem dX2_vetoesLeft_0 : decode cX2_vetoesLeft 0 = .ok (.aload_n 0, 1) := by decide +kernel
theorem dX2_vetoesLeft_1 : decode cX2_vetoesLeft 1 = .ok (.getfield 11, 3) := by decide +kernel
theorem dX2_vetoesLeft_4 : decode cX2_vetoesLeft 4 = .ok (.iconst 1, 1) := by decide +kernel
theorem dX2_vetoesLeft_5 : decode cX2_vetoesLeft 5 = .ok (.iaload, 1) := by decide +kernel
theorem dX2_vetoesLeft_6 : decode cX2_vetoesLeft 6 = .ok (.aload_n 0, 1) := by decide +kernel
theorem dX2_vetoesLeft_7 : decode cX2_vetoesLeft 7 = .ok (.iload_n 1, 1) := by decide +kernel
theorem dX2_vetoesLeft_8 : decode cX2_vetoesLeft 8 = .ok (.iconst 2, 1) := by decide +kernel
theorem dX2_vetoesLeft_9 : decode cX2_vetoesLeft 9 = .ok (.invokevirtual 100, 3) := by decide +kernel
theorem dX2_vetoesLeft_12 : decode cX2_vetoesLeft 12 = .ok (.isub, 1) := by decide +kernel
theorem dX2_vetoesLeft_13 : decode cX2_vetoesLeft 13 = .ok (.iconst 0, 1) := by decide +kernel
theorem dX2_vetoesLeft_14 : decode cX2_vetoesLeft 14 = .ok (.invokestatic 138, 3) := by decide +kernel
theorem dX2_vetoesLeft_17 : decode cX2_vetoesLeft 17 = .ok (.ireturn, 1) := by decide +kernel
theorem dX2_markOf_0 : decode cX2_markOf 0 = .ok (.iconst 1, 1) := by decide +kernel
theorem dX2_markOf_1 : decode cX2_markOf 1 = .ok (.iload_n 1, 1) := by decide +kernel
theorem dX2_markOf_2 : decode cX2_markOf 2 = .ok (.ishl, 1) := by decide +kernel
theorem dX2_markOf_3 : decode cX2_markOf 3 = .ok (.istore_n 3, 1) := by decide +kernel
theorem dX2_markOf_4 : decode cX2_markOf 4 = .ok (.aload_n 0, 1) := by decide +kernel
theorem dX2_markOf_5 : decode cX2_markOf 5 = .ok (.getfield 18, 3) := by decide +kernel
theorem dX2_markOf_8 : decode cX2_markOf 8 = .ok (.iload_n 2, 1) := by decide +kernel
theorem dX2_markOf_9 : decode cX2_markOf 9 = .ok (.iaload, 1) := by decide +kernel
theorem dX2_markOf_10 : decode cX2_markOf 10 = .ok (.iload_n 3, 1) := by decide +kernel
theorem dX2_markOf_11 : decode cX2_markOf 11 = .ok (.iand, 1) := by decide +kernel
theorem dX2_markOf_12 : decode cX2_markOf 12 = .ok (.ifCond .eq 5, 3) := by decide +kernel
theorem dX2_markOf_15 : decode cX2_markOf 15 = .ok (.iconst 1, 1) := by decide +kernel
theorem dX2_markOf_16 : decode cX2_markOf 16 = .ok (.ireturn, 1) := by decide +kernel
theorem dX2_markOf_17 : decode cX2_markOf 17 = .ok (.aload_n 0, 1) := by decide +kernel
theorem dX2_markOf_18 : decode cX2_markOf 18 = .ok (.getfield 21, 3) := by decide +kernel
theorem dX2_markOf_21 : decode cX2_markOf 21 = .ok (.iload_n 2, 1) := by decide +kernel
theorem dX2_markOf_22 : decode cX2_markOf 22 = .ok (.iaload, 1) := by decide +kernel
theorem dX2_markOf_23 : decode cX2_markOf 23 = .ok (.iload_n 3, 1) := by decide +kernel
theorem dX2_markOf_24 : decode cX2_markOf 24 = .ok (.iand, 1) := by decide +kernel
theorem dX2_markOf_25 : decode cX2_markOf 25 = .ok (.ifCond .eq 7, 3) := by decide +kernel
theorem dX2_markOf_28 : decode cX2_markOf 28 = .ok (.iconst 2, 1) := by decide +kernel
theorem dX2_markOf_29 : decode cX2_markOf 29 = .ok (.goto 4, 3) := by decide +kernel
theorem dX2_markOf_32 : decode cX2_markOf 32 = .ok (.iconst 0, 1) := by decide +kernel
theorem dX2_markOf_33 : decode cX2_markOf 33 = .ok (.ireturn, 1) := by decide +kernel
theorem dX2_isPicked_0 : decode cX2_isPicked 0 = .ok (.aload_n 0, 1) := by decide +kernel
theorem dX2_isPicked_1 : decode cX2_isPicked 1 = .ok (.getfield 15, 3) := by decide +kernel
theorem dX2_isPicked_4 : decode cX2_isPicked 4 = .ok (.iload_n 1, 1) := by decide +kernel
theorem dX2_isPicked_5 : decode cX2_isPicked 5 = .ok (.iaload, 1) := by decide +kernel
theorem dX2_isPicked_6 : decode cX2_isPicked 6 = .ok (.iconst 1, 1) := by decide +kernel
theorem dX2_isPicked_7 : decode cX2_isPicked 7 = .ok (.if_icmp .eq 13, 3) := by decide +kernel
theorem dX2_isPicked_10 : decode cX2_isPicked 10 = .ok (.aload_n 0, 1) := by decide +kernel
theorem dX2_isPicked_11 : decode cX2_isPicked 11 = .ok (.getfield 15, 3) := by decide +kernel
theorem dX2_isPicked_14 : decode cX2_isPicked 14 = .ok (.iload_n 1, 1) := by decide +kernel
theorem dX2_isPicked_15 : decode cX2_isPicked 15 = .ok (.iaload, 1) := by decide +kernel
theorem dX2_isPicked_16 : decode cX2_isPicked 16 = .ok (.iconst 3, 1) := by decide +kernel
theorem dX2_isPicked_17 : decode cX2_isPicked 17 = .ok (.if_icmp .ne 7, 3) := by decide +kernel
theorem dX2_isPicked_20 : decode cX2_isPicked 20 = .ok (.iconst 1, 1) := by decide +kernel
theorem dX2_isPicked_21 : decode cX2_isPicked 21 = .ok (.goto 4, 3) := by decide +kernel
theorem dX2_isPicked_24 : decode cX2_isPicked 24 = .ok (.iconst 0, 1) := by decide +kernel
theorem dX2_isPicked_25 : decode cX2_isPicked 25 = .ok (.ireturn, 1) := by decide +kernel
theorem dX2_withEditor_0 : decode cX2_withEditor 0 = .ok (.iconst 1, 1) := by decide +kernel
theorem dX2_withEditor_1 : decode cX2_withEditor 1 = .ok (.iload_n 1, 1) := by decide +kernel
theorem dX2_withEditor_2 : decode cX2_withEditor 2 = .ok (.ishl, 1) := by decide +kernel
theorem dX2_withEditor_3 : decode cX2_withEditor 3 = .ok (.istore_n 3, 1) := by decide +kernel
theorem dX2_withEditor_4 : decode cX2_withEditor 4 = .ok (.iload_n 2, 1) := by decide +kernel
theorem dX2_withEditor_5 : decode cX2_withEditor 5 = .ok (.ifCond .eq 9, 3) := by decide +kernel
theorem dX2_withEditor_8 : decode cX2_withEditor 8 = .ok (.iload_n 0, 1) := by decide +kernel
theorem dX2_withEditor_9 : decode cX2_withEditor 9 = .ok (.iload_n 3, 1) := by decide +kernel
theorem dX2_withEditor_10 : decode cX2_withEditor 10 = .ok (.ior, 1) := by decide +kernel
theorem dX2_withEditor_11 : decode cX2_withEditor 11 = .ok (.goto 8, 3) := by decide +kernel
theorem dX2_withEditor_14 : decode cX2_withEditor 14 = .ok (.iload_n 0, 1) := by decide +kernel
theorem dX2_withEditor_15 : decode cX2_withEditor 15 = .ok (.iload_n 3, 1) := by decide +kernel
theorem dX2_withEditor_16 : decode cX2_withEditor 16 = .ok (.iconst (-1), 1) := by decide +kernel
theorem dX2_withEditor_17 : decode cX2_withEditor 17 = .ok (.ixor, 1) := by decide +kernel
theorem dX2_withEditor_18 : decode cX2_withEditor 18 = .ok (.iand, 1) := by decide +kernel
theorem dX2_withEditor_19 : decode cX2_withEditor 19 = .ok (.ireturn, 1) := by decide +kernel
theorem dX2_paperOf_0 : decode cX2_paperOf 0 = .ok (.bipush 10, 2) := by decide +kernel
theorem dX2_paperOf_2 : decode cX2_paperOf 2 = .ok (.iload_n 0, 1) := by decide +kernel
theorem dX2_paperOf_3 : decode cX2_paperOf 3 = .ok (.imul, 1) := by decide +kernel
theorem dX2_paperOf_4 : decode cX2_paperOf 4 = .ok (.iload_n 0, 1) := by decide +kernel
theorem dX2_paperOf_5 : decode cX2_paperOf 5 = .ok (.imul, 1) := by decide +kernel
theorem dX2_paperOf_6 : decode cX2_paperOf 6 = .ok (.ireturn, 1) := by decide +kernel
theorem dX2_isFrame_0 : decode cX2_isFrame 0 = .ok (.iload_n 0, 1) := by decide +kernel
theorem dX2_isFrame_1 : decode cX2_isFrame 1 = .ok (.ifCond .lt 13, 3) := by decide +kernel
theorem dX2_isFrame_4 : decode cX2_isFrame 4 = .ok (.iload_n 0, 1) := by decide +kernel
theorem dX2_isFrame_5 : decode cX2_isFrame 5 = .ok (.bipush 30, 2) := by decide +kernel
theorem dX2_isFrame_7 : decode cX2_isFrame 7 = .ok (.if_icmp .ge 7, 3) := by decide +kernel
theorem dX2_isFrame_10 : decode cX2_isFrame 10 = .ok (.iconst 1, 1) := by decide +kernel
theorem dX2_isFrame_11 : decode cX2_isFrame 11 = .ok (.goto 4, 3) := by decide +kernel
theorem dX2_isFrame_14 : decode cX2_isFrame 14 = .ok (.iconst 0, 1) := by decide +kernel
theorem dX2_isFrame_15 : decode cX2_isFrame 15 = .ok (.ireturn, 1) := by decide +kernel
theorem dX2_isEditor_0 : decode cX2_isEditor 0 = .ok (.iload_n 0, 1) := by decide +kernel
theorem dX2_isEditor_1 : decode cX2_isEditor 1 = .ok (.ifCond .lt 12, 3) := by decide +kernel
theorem dX2_isEditor_4 : decode cX2_isEditor 4 = .ok (.iload_n 0, 1) := by decide +kernel
theorem dX2_isEditor_5 : decode cX2_isEditor 5 = .ok (.iconst 3, 1) := by decide +kernel
theorem dX2_isEditor_6 : decode cX2_isEditor 6 = .ok (.if_icmp .ge 7, 3) := by decide +kernel
theorem dX2_isEditor_9 : decode cX2_isEditor 9 = .ok (.iconst 1, 1) := by decide +kernel
theorem dX2_isEditor_10 : decode cX2_isEditor 10 = .ok (.goto 4, 3) := by decide +kernel
theorem dX2_isEditor_13 : decode cX2_isEditor 13 = .ok (.iconst 0, 1) := by decide +kernel
theorem dX2_isEditor_14 : decode cX2_isEditor 14 = .ok (.ireturn, 1) := by decide +kernel
