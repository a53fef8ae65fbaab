theorem dX4_init_0 : decode cX4_init 0 = .ok (.aload_n 0, 1) := by decide +kernel
theorem dX4_init_1 : decode cX4_init 1 = .ok (.invokespecial 1, 3) := by decide +kernel
theorem dX4_init_4 : decode cX4_init 4 = .ok (.aload_n 0, 1) := by decide +kernel
theorem dX4_init_5 : decode cX4_init 5 = .ok (.sipush 172, 3) := by decide +kernel
theorem dX4_init_8 : decode cX4_init 8 = .ok (.newarray .int, 2) := by decide +kernel
theorem dX4_init_10 : decode cX4_init 10 = .ok (.putfield 7, 3) := by decide +kernel
theorem dX4_init_13 : decode cX4_init 13 = .ok (.aload_n 0, 1) := by decide +kernel
theorem dX4_init_14 : decode cX4_init 14 = .ok (.sipush 1032, 3) := by decide +kernel
theorem dX4_init_17 : decode cX4_init 17 = .ok (.newarray .int, 2) := by decide +kernel
theorem dX4_init_19 : decode cX4_init 19 = .ok (.putfield 13, 3) := by decide +kernel
theorem dX4_init_22 : decode cX4_init 22 = .ok (.aload_n 0, 1) := by decide +kernel
theorem dX4_init_23 : decode cX4_init 23 = .ok (.sipush 344, 3) := by decide +kernel
theorem dX4_init_26 : decode cX4_init 26 = .ok (.newarray .int, 2) := by decide +kernel
theorem dX4_init_28 : decode cX4_init 28 = .ok (.putfield 16, 3) := by decide +kernel
theorem dX4_init_31 : decode cX4_init 31 = .ok (.aload_n 0, 1) := by decide +kernel
theorem dX4_init_32 : decode cX4_init 32 = .ok (.iconst 2, 1) := by decide +kernel
theorem dX4_init_33 : decode cX4_init 33 = .ok (.newarray .boolean, 2) := by decide +kernel
theorem dX4_init_35 : decode cX4_init 35 = .ok (.putfield 19, 3) := by decide +kernel
theorem dX4_init_38 : decode cX4_init 38 = .ok (.aload_n 0, 1) := by decide +kernel
theorem dX4_init_39 : decode cX4_init 39 = .ok (.bipush 80, 2) := by decide +kernel
theorem dX4_init_41 : decode cX4_init 41 = .ok (.newarray .int, 2) := by decide +kernel
theorem dX4_init_43 : decode cX4_init 43 = .ok (.putfield 23, 3) := by decide +kernel
theorem dX4_init_46 : decode cX4_init 46 = .ok (.iconst 0, 1) := by decide +kernel
theorem dX4_init_47 : decode cX4_init 47 = .ok (.istore_n 1, 1) := by decide +kernel
theorem dX4_init_48 : decode cX4_init 48 = .ok (.iload_n 1, 1) := by decide +kernel
theorem dX4_init_49 : decode cX4_init 49 = .ok (.bipush 30, 2) := by decide +kernel
theorem dX4_init_51 : decode cX4_init 51 = .ok (.if_icmp .ge 20, 3) := by decide +kernel
theorem dX4_init_54 : decode cX4_init 54 = .ok (.aload_n 0, 1) := by decide +kernel
theorem dX4_init_55 : decode cX4_init 55 = .ok (.getfield 7, 3) := by decide +kernel
theorem dX4_init_58 : decode cX4_init 58 = .ok (.iload_n 1, 1) := by decide +kernel
theorem dX4_init_59 : decode cX4_init 59 = .ok (.iconst 3, 1) := by decide +kernel
theorem dX4_init_60 : decode cX4_init 60 = .ok (.invokestatic 26, 3) := by decide +kernel
theorem dX4_init_63 : decode cX4_init 63 = .ok (.iconst (-1), 1) := by decide +kernel
theorem dX4_init_64 : decode cX4_init 64 = .ok (.iastore, 1) := by decide +kernel
theorem dX4_init_65 : decode cX4_init 65 = .ok (.iinc 1 1, 3) := by decide +kernel
theorem dX4_init_68 : decode cX4_init 68 = .ok (.goto (-20), 3) := by decide +kernel
theorem dX4_init_71 : decode cX4_init 71 = .ok (.iconst 0, 1) := by decide +kernel
theorem dX4_init_72 : decode cX4_init 72 = .ok (.istore_n 1, 1) := by decide +kernel
theorem dX4_init_73 : decode cX4_init 73 = .ok (.iload_n 1, 1) := by decide +kernel
theorem dX4_init_74 : decode cX4_init 74 = .ok (.iconst 3, 1) := by decide +kernel
theorem dX4_init_75 : decode cX4_init 75 = .ok (.if_icmp .ge 20, 3) := by decide +kernel
theorem dX4_init_78 : decode cX4_init 78 = .ok (.aload_n 0, 1) := by decide +kernel
theorem dX4_init_79 : decode cX4_init 79 = .ok (.getfield 7, 3) := by decide +kernel
theorem dX4_init_82 : decode cX4_init 82 = .ok (.iload_n 1, 1) := by decide +kernel
theorem dX4_init_83 : decode cX4_init 83 = .ok (.iconst 0, 1) := by decide +kernel
theorem dX4_init_84 : decode cX4_init 84 = .ok (.invokestatic 30, 3) := by decide +kernel
theorem dX4_init_87 : decode cX4_init 87 = .ok (.iconst 5, 1) := by decide +kernel
theorem dX4_init_88 : decode cX4_init 88 = .ok (.iastore, 1) := by decide +kernel
theorem dX4_init_89 : decode cX4_init 89 = .ok (.iinc 1 1, 3) := by decide +kernel
theorem dX4_init_92 : decode cX4_init 92 = .ok (.goto (-19), 3) := by decide +kernel
theorem dX4_init_95 : decode cX4_init 95 = .ok (.aload_n 0, 1) := by decide +kernel
theorem dX4_init_96 : decode cX4_init 96 = .ok (.getfield 7, 3) := by decide +kernel
theorem dX4_init_99 : decode cX4_init 99 = .ok (.sipush 162, 3) := by decide +kernel
theorem dX4_init_102 : decode cX4_init 102 = .ok (.iconst 2, 1) := by decide +kernel
theorem dX4_init_103 : decode cX4_init 103 = .ok (.iastore, 1) := by decide +kernel
theorem dX4_init_104 : decode cX4_init 104 = .ok (.aload_n 0, 1) := by decide +kernel
theorem dX4_init_105 : decode cX4_init 105 = .ok (.getfield 7, 3) := by decide +kernel
theorem dX4_init_108 : decode cX4_init 108 = .ok (.sipush 163, 3) := by decide +kernel
theorem dX4_init_111 : decode cX4_init 111 = .ok (.iconst 3, 1) := by decide +kernel
theorem dX4_init_112 : decode cX4_init 112 = .ok (.iastore, 1) := by decide +kernel
theorem dX4_init_113 : decode cX4_init 113 = .ok (.aload_n 0, 1) := by decide +kernel
theorem dX4_init_114 : decode cX4_init 114 = .ok (.getfield 7, 3) := by decide +kernel
theorem dX4_init_117 : decode cX4_init 117 = .ok (.sipush 164, 3) := by decide +kernel
theorem dX4_init_120 : decode cX4_init 120 = .ok (.iconst 2, 1) := by decide +kernel
theorem dX4_init_121 : decode cX4_init 121 = .ok (.iastore, 1) := by decide +kernel
theorem dX4_init_122 : decode cX4_init 122 = .ok (.aload_n 0, 1) := by decide +kernel
theorem dX4_init_123 : decode cX4_init 123 = .ok (.getfield 7, 3) := by decide +kernel
theorem dX4_init_126 : decode cX4_init 126 = .ok (.sipush 165, 3) := by decide +kernel
theorem dX4_init_129 : decode cX4_init 129 = .ok (.iconst 2, 1) := by decide +kernel
theorem dX4_init_130 : decode cX4_init 130 = .ok (.iastore, 1) := by decide +kernel
theorem dX4_init_131 : decode cX4_init 131 = .ok (.aload_n 0, 1) := by decide +kernel
theorem dX4_init_132 : decode cX4_init 132 = .ok (.getfield 7, 3) := by decide +kernel
theorem dX4_init_135 : decode cX4_init 135 = .ok (.sipush 167, 3) := by decide +kernel
theorem dX4_init_138 : decode cX4_init 138 = .ok (.sipush 300, 3) := by decide +kernel
theorem dX4_init_141 : decode cX4_init 141 = .ok (.iastore, 1) := by decide +kernel
theorem dX4_init_142 : decode cX4_init 142 = .ok (.return_, 1) := by decide +kernel
theorem dX4_in_0 : decode cX4_in 0 = .ok (.iload_n 0, 1) := by decide +kernel
theorem dX4_in_1 : decode cX4_in 1 = .ok (.iload_n 1, 1) := by decide +kernel
theorem dX4_in_2 : decode cX4_in 2 = .ok (.if_icmp .lt 12, 3) := by decide +kernel
theorem dX4_in_5 : decode cX4_in 5 = .ok (.iload_n 0, 1) := by decide +kernel
theorem dX4_in_6 : decode cX4_in 6 = .ok (.iload_n 2, 1) := by decide +kernel
theorem dX4_in_7 : decode cX4_in 7 = .ok (.if_icmp .gt 7, 3) := by decide +kernel
theorem dX4_in_10 : decode cX4_in 10 = .ok (.iconst 1, 1) := by decide +kernel
theorem dX4_in_11 : decode cX4_in 11 = .ok (.goto 4, 3) := by decide +kernel
theorem dX4_in_14 : decode cX4_in 14 = .ok (.iconst 0, 1) := by decide +kernel
theorem dX4_in_15 : decode cX4_in 15 = .ok (.ireturn, 1) := by decide +kernel
theorem dX4_isFrame_0 : decode cX4_isFrame 0 = .ok (.iload_n 0, 1) := by decide +kernel
theorem dX4_isFrame_1 : decode cX4_isFrame 1 = .ok (.iconst 0, 1) := by decide +kernel
theorem dX4_isFrame_2 : decode cX4_isFrame 2 = .ok (.bipush 29, 2) := by decide +kernel
theorem dX4_isFrame_4 : decode cX4_isFrame 4 = .ok (.invokestatic 33, 3) := by decide +kernel
theorem dX4_isFrame_7 : decode cX4_isFrame 7 = .ok (.ireturn, 1) := by decide +kernel
theorem dX4_isEditor_0 : decode cX4_isEditor 0 = .ok (.iload_n 0, 1) := by decide +kernel
theorem dX4_isEditor_1 : decode cX4_isEditor 1 = .ok (.iconst 0, 1) := by decide +kernel
theorem dX4_isEditor_2 : decode cX4_isEditor 2 = .ok (.iconst 2, 1) := by decide +kernel
theorem dX4_isEditor_3 : decode cX4_isEditor 3 = .ok (.invokestatic 33, 3) := by decide +kernel
theorem dX4_isEditor_6 : decode cX4_isEditor 6 = .ok (.ireturn, 1) := by decide +kernel
theorem dX4_at_0 : decode cX4_at 0 = .ok (.iconst 0, 1) := by decide +kernel
theorem dX4_at_1 : decode cX4_at 1 = .ok (.iconst 5, 1) := by decide +kernel
theorem dX4_at_2 : decode cX4_at 2 = .ok (.iload_n 0, 1) := by decide +kernel
theorem dX4_at_3 : decode cX4_at 3 = .ok (.imul, 1) := by decide +kernel
theorem dX4_at_4 : decode cX4_at 4 = .ok (.iadd, 1) := by decide +kernel
theorem dX4_at_5 : decode cX4_at 5 = .ok (.iload_n 1, 1) := by decide +kernel
theorem dX4_at_6 : decode cX4_at 6 = .ok (.iadd, 1) := by decide +kernel
theorem dX4_at_7 : decode cX4_at 7 = .ok (.ireturn, 1) := by decide +kernel
theorem dX4_of3_0 : decode cX4_of3 0 = .ok (.sipush 150, 3) := by decide +kernel
theorem dX4_of3_3 : decode cX4_of3 3 = .ok (.iconst 4, 1) := by decide +kernel
theorem dX4_of3_4 : decode cX4_of3 4 = .ok (.iload_n 0, 1) := by decide +kernel
theorem dX4_of3_5 : decode cX4_of3 5 = .ok (.imul, 1) := by decide +kernel
theorem dX4_of3_6 : decode cX4_of3 6 = .ok (.iadd, 1) := by decide +kernel
theorem dX4_of3_7 : decode cX4_of3 7 = .ok (.iload_n 1, 1) := by decide +kernel
theorem dX4_of3_8 : decode cX4_of3 8 = .ok (.iadd, 1) := by decide +kernel
theorem dX4_of3_9 : decode cX4_of3 9 = .ok (.ireturn, 1) := by decide +kernel
theorem dX4_remembers_0 : decode cX4_remembers 0 = .ok (.aload_n 0, 1) := by decide +kernel
theorem dX4_remembers_1 : decode cX4_remembers 1 = .ok (.getfield 37, 3) := by decide +kernel
theorem dX4_remembers_4 : decode cX4_remembers 4 = .ok (.bipush 6, 2) := by decide +kernel
theorem dX4_remembers_6 : decode cX4_remembers 6 = .ok (.if_icmp .ne 44, 3) := by decide +kernel
theorem dX4_remembers_9 : decode cX4_remembers 9 = .ok (.iconst 0, 1) := by decide +kernel
theorem dX4_remembers_10 : decode cX4_remembers 10 = .ok (.istore_n 1, 1) := by decide +kernel
theorem dX4_remembers_11 : decode cX4_remembers 11 = .ok (.iload_n 1, 1) := by decide +kernel
theorem dX4_remembers_12 : decode cX4_remembers 12 = .ok (.sipush 860, 3) := by decide +kernel
theorem dX4_remembers_15 : decode cX4_remembers 15 = .ok (.if_icmp .ge 25, 3) := by decide +kernel
theorem dX4_remembers_18 : decode cX4_remembers 18 = .ok (.aload_n 0, 1) := by decide +kernel
theorem dX4_remembers_19 : decode cX4_remembers 19 = .ok (.getfield 13, 3) := by decide +kernel
theorem dX4_remembers_22 : decode cX4_remembers 22 = .ok (.iload_n 1, 1) := by decide +kernel
theorem dX4_remembers_23 : decode cX4_remembers 23 = .ok (.aload_n 0, 1) := by decide +kernel
theorem dX4_remembers_24 : decode cX4_remembers 24 = .ok (.getfield 13, 3) := by decide +kernel
theorem dX4_remembers_27 : decode cX4_remembers 27 = .ok (.sipush 172, 3) := by decide +kernel
theorem dX4_remembers_30 : decode cX4_remembers 30 = .ok (.iload_n 1, 1) := by decide +kernel
theorem dX4_remembers_31 : decode cX4_remembers 31 = .ok (.iadd, 1) := by decide +kernel
theorem dX4_remembers_32 : decode cX4_remembers 32 = .ok (.iaload, 1) := by decide +kernel
theorem dX4_remembers_33 : decode cX4_remembers 33 = .ok (.iastore, 1) := by decide +kernel
theorem dX4_remembers_34 : decode cX4_remembers 34 = .ok (.iinc 1 1, 3) := by decide +kernel
theorem dX4_remembers_37 : decode cX4_remembers 37 = .ok (.goto (-26), 3) := by decide +kernel
theorem dX4_remembers_40 : decode cX4_remembers 40 = .ok (.aload_n 0, 1) := by decide +kernel
theorem dX4_remembers_41 : decode cX4_remembers 41 = .ok (.dup, 1) := by decide +kernel
theorem dX4_remembers_42 : decode cX4_remembers 42 = .ok (.getfield 37, 3) := by decide +kernel
theorem dX4_remembers_45 : decode cX4_remembers 45 = .ok (.iconst 1, 1) := by decide +kernel
theorem dX4_remembers_46 : decode cX4_remembers 46 = .ok (.isub, 1) := by decide +kernel
theorem dX4_remembers_47 : decode cX4_remembers 47 = .ok (.putfield 37, 3) := by decide +kernel
theorem dX4_remembers_50 : decode cX4_remembers 50 = .ok (.iconst 0, 1) := by decide +kernel
theorem dX4_remembers_51 : decode cX4_remembers 51 = .ok (.istore_n 1, 1) := by decide +kernel
theorem dX4_remembers_52 : decode cX4_remembers 52 = .ok (.iload_n 1, 1) := by decide +kernel
theorem dX4_remembers_53 : decode cX4_remembers 53 = .ok (.sipush 172, 3) := by decide +kernel
theorem dX4_remembers_56 : decode cX4_remembers 56 = .ok (.if_icmp .ge 30, 3) := by decide +kernel
theorem dX4_remembers_59 : decode cX4_remembers 59 = .ok (.aload_n 0, 1) := by decide +kernel
theorem dX4_remembers_60 : decode cX4_remembers 60 = .ok (.getfield 13, 3) := by decide +kernel
theorem dX4_remembers_63 : decode cX4_remembers 63 = .ok (.sipush 172, 3) := by decide +kernel
theorem dX4_remembers_66 : decode cX4_remembers 66 = .ok (.aload_n 0, 1) := by decide +kernel
theorem dX4_remembers_67 : decode cX4_remembers 67 = .ok (.getfield 37, 3) := by decide +kernel
theorem dX4_remembers_70 : decode cX4_remembers 70 = .ok (.imul, 1) := by decide +kernel
theorem dX4_remembers_71 : decode cX4_remembers 71 = .ok (.iload_n 1, 1) := by decide +kernel
theorem dX4_remembers_72 : decode cX4_remembers 72 = .ok (.iadd, 1) := by decide +kernel
theorem dX4_remembers_73 : decode cX4_remembers 73 = .ok (.aload_n 0, 1) := by decide +kernel
theorem dX4_remembers_74 : decode cX4_remembers 74 = .ok (.getfield 7, 3) := by decide +kernel
theorem dX4_remembers_77 : decode cX4_remembers 77 = .ok (.iload_n 1, 1) := by decide +kernel
theorem dX4_remembers_78 : decode cX4_remembers 78 = .ok (.iaload, 1) := by decide +kernel
theorem dX4_remembers_79 : decode cX4_remembers 79 = .ok (.iastore, 1) := by decide +kernel
theorem dX4_remembers_80 : decode cX4_remembers 80 = .ok (.iinc 1 1, 3) := by decide +kernel
theorem dX4_remembers_83 : decode cX4_remembers 83 = .ok (.goto (-31), 3) := by decide +kernel
theorem dX4_remembers_86 : decode cX4_remembers 86 = .ok (.aload_n 0, 1) := by decide +kernel
theorem dX4_remembers_87 : decode cX4_remembers 87 = .ok (.dup, 1) := by decide +kernel
theorem dX4_remembers_88 : decode cX4_remembers 88 = .ok (.getfield 37, 3) := by decide +kernel
theorem dX4_remembers_91 : decode cX4_remembers 91 = .ok (.iconst 1, 1) := by decide +kernel
theorem dX4_remembers_92 : decode cX4_remembers 92 = .ok (.iadd, 1) := by decide +kernel
theorem dX4_remembers_93 : decode cX4_remembers 93 = .ok (.putfield 37, 3) := by decide +kernel
theorem dX4_remembers_96 : decode cX4_remembers 96 = .ok (.return_, 1) := by decide +kernel
theorem dX4_power_0 : decode cX4_power 0 = .ok (.iload_n 0, 1) := by decide +kernel
theorem dX4_power_1 : decode cX4_power 1 = .ok (.ifCond .ne 7, 3) := by decide +kernel
theorem dX4_power_4 : decode cX4_power 4 = .ok (.iconst 1, 1) := by decide +kernel
theorem dX4_power_5 : decode cX4_power 5 = .ok (.goto 14, 3) := by decide +kernel
theorem dX4_power_8 : decode cX4_power 8 = .ok (.iload_n 0, 1) := by decide +kernel
theorem dX4_power_9 : decode cX4_power 9 = .ok (.iconst 1, 1) := by decide +kernel
theorem dX4_power_10 : decode cX4_power 10 = .ok (.if_icmp .ne 7, 3) := by decide +kernel
theorem dX4_power_13 : decode cX4_power 13 = .ok (.iconst 4, 1) := by decide +kernel
theorem dX4_power_14 : decode cX4_power 14 = .ok (.goto 5, 3) := by decide +kernel
theorem dX4_power_17 : decode cX4_power 17 = .ok (.bipush 16, 2) := by decide +kernel
theorem dX4_power_19 : decode cX4_power 19 = .ok (.ireturn, 1) := by decide +kernel
theorem dX4_markOf_0 : decode cX4_markOf 0 = .ok (.aload_n 0, 1) := by decide +kernel
theorem dX4_markOf_1 : decode cX4_markOf 1 = .ok (.getfield 7, 3) := by decide +kernel
theorem dX4_markOf_4 : decode cX4_markOf 4 = .ok (.iload_n 2, 1) := by decide +kernel
theorem dX4_markOf_5 : decode cX4_markOf 5 = .ok (.iconst 4, 1) := by decide +kernel
theorem dX4_markOf_6 : decode cX4_markOf 6 = .ok (.invokestatic 26, 3) := by decide +kernel
theorem dX4_markOf_9 : decode cX4_markOf 9 = .ok (.iaload, 1) := by decide +kernel
theorem dX4_markOf_10 : decode cX4_markOf 10 = .ok (.iload_n 1, 1) := by decide +kernel
theorem dX4_markOf_11 : decode cX4_markOf 11 = .ok (.invokestatic 41, 3) := by decide +kernel
theorem dX4_markOf_14 : decode cX4_markOf 14 = .ok (.idiv, 1) := by decide +kernel
theorem dX4_markOf_15 : decode cX4_markOf 15 = .ok (.iconst 4, 1) := by decide +kernel
theorem dX4_markOf_16 : decode cX4_markOf 16 = .ok (.irem, 1) := by decide +kernel
theorem dX4_markOf_17 : decode cX4_markOf 17 = .ok (.ireturn, 1) := by decide +kernel
theorem dX4_marks_0 : decode cX4_marks 0 = .ok (.aload_n 0, 1) := by decide +kernel
theorem dX4_marks_1 : decode cX4_marks 1 = .ok (.getfield 7, 3) := by decide +kernel
theorem dX4_marks_4 : decode cX4_marks 4 = .ok (.iload_n 2, 1) := by decide +kernel
theorem dX4_marks_5 : decode cX4_marks 5 = .ok (.iconst 4, 1) := by decide +kernel
theorem dX4_marks_6 : decode cX4_marks 6 = .ok (.invokestatic 26, 3) := by decide +kernel
theorem dX4_marks_9 : decode cX4_marks 9 = .ok (.dup2, 1) := by decide +kernel
theorem dX4_marks_10 : decode cX4_marks 10 = .ok (.iaload, 1) := by decide +kernel
theorem dX4_marks_11 : decode cX4_marks 11 = .ok (.iload_n 1, 1) := by decide +kernel
theorem dX4_marks_12 : decode cX4_marks 12 = .ok (.invokestatic 41, 3) := by decide +kernel
theorem dX4_marks_15 : decode cX4_marks 15 = .ok (.iload_n 3, 1) := by decide +kernel
theorem dX4_marks_16 : decode cX4_marks 16 = .ok (.aload_n 0, 1) := by decide +kernel
theorem dX4_marks_17 : decode cX4_marks 17 = .ok (.iload_n 1, 1) := by decide +kernel
theorem dX4_marks_18 : decode cX4_marks 18 = .ok (.iload_n 2, 1) := by decide +kernel
theorem dX4_marks_19 : decode cX4_marks 19 = .ok (.invokevirtual 45, 3) := by decide +kernel
theorem dX4_marks_22 : decode cX4_marks 22 = .ok (.isub, 1) := by decide +kernel
theorem dX4_marks_23 : decode cX4_marks 23 = .ok (.imul, 1) := by decide +kernel
theorem dX4_marks_24 : decode cX4_marks 24 = .ok (.iadd, 1) := by decide +kernel
theorem dX4_marks_25 : decode cX4_marks 25 = .ok (.iastore, 1) := by decide +kernel
theorem dX4_marks_26 : decode cX4_marks 26 = .ok (.return_, 1) := by decide +kernel
theorem dX4_withMark_0 : decode cX4_withMark 0 = .ok (.iconst 0, 1) := by decide +kernel
theorem dX4_withMark_1 : decode cX4_withMark 1 = .ok (.istore_n 3, 1) := by decide +kernel
theorem dX4_withMark_2 : decode cX4_withMark 2 = .ok (.iconst 0, 1) := by decide +kernel
theorem dX4_withMark_3 : decode cX4_withMark 3 = .ok (.istore 4, 2) := by decide +kernel
theorem dX4_withMark_5 : decode cX4_withMark 5 = .ok (.iload 4, 2) := by decide +kernel
theorem dX4_withMark_7 : decode cX4_withMark 7 = .ok (.iconst 3, 1) := by decide +kernel
theorem dX4_withMark_8 : decode cX4_withMark 8 = .ok (.if_icmp .ge 31, 3) := by decide +kernel
theorem dX4_withMark_11 : decode cX4_withMark 11 = .ok (.iload_n 3, 1) := by decide +kernel
theorem dX4_withMark_12 : decode cX4_withMark 12 = .ok (.aload_n 0, 1) := by decide +kernel
theorem dX4_withMark_13 : decode cX4_withMark 13 = .ok (.iload 4, 2) := by decide +kernel
theorem dX4_withMark_15 : decode cX4_withMark 15 = .ok (.iload_n 1, 1) := by decide +kernel
theorem dX4_withMark_16 : decode cX4_withMark 16 = .ok (.invokevirtual 45, 3) := by decide +kernel
theorem dX4_withMark_19 : decode cX4_withMark 19 = .ok (.iload_n 2, 1) := by decide +kernel
theorem dX4_withMark_20 : decode cX4_withMark 20 = .ok (.if_icmp .ne 10, 3) := by decide +kernel
theorem dX4_withMark_23 : decode cX4_withMark 23 = .ok (.iconst 1, 1) := by decide +kernel
theorem dX4_withMark_24 : decode cX4_withMark 24 = .ok (.iload 4, 2) := by decide +kernel
theorem dX4_withMark_26 : decode cX4_withMark 26 = .ok (.ishl, 1) := by decide +kernel
theorem dX4_withMark_27 : decode cX4_withMark 27 = .ok (.goto 4, 3) := by decide +kernel
theorem dX4_withMark_30 : decode cX4_withMark 30 = .ok (.iconst 0, 1) := by decide +kernel
theorem dX4_withMark_31 : decode cX4_withMark 31 = .ok (.ior, 1) := by decide +kernel
theorem dX4_withMark_32 : decode cX4_withMark 32 = .ok (.istore_n 3, 1) := by decide +kernel
theorem dX4_withMark_33 : decode cX4_withMark 33 = .ok (.iinc 4 1, 3) := by decide +kernel
theorem dX4_withMark_36 : decode cX4_withMark 36 = .ok (.goto (-31), 3) := by decide +kernel
theorem dX4_withMark_39 : decode cX4_withMark 39 = .ok (.iload_n 3, 1) := by decide +kernel
theorem dX4_withMark_40 : decode cX4_withMark 40 = .ok (.ireturn, 1) := by decide +kernel
theorem dX4_ones_0 : decode cX4_ones 0 = .ok (.iload_n 0, 1) := by decide +kernel
theorem dX4_ones_1 : decode cX4_ones 1 = .ok (.iconst 1, 1) := by decide +kernel
theorem dX4_ones_2 : decode cX4_ones 2 = .ok (.iand, 1) := by decide +kernel
theorem dX4_ones_3 : decode cX4_ones 3 = .ok (.iload_n 0, 1) := by decide +kernel
theorem dX4_ones_4 : decode cX4_ones 4 = .ok (.iconst 1, 1) := by decide +kernel
theorem dX4_ones_5 : decode cX4_ones 5 = .ok (.ishr, 1) := by decide +kernel
theorem dX4_ones_6 : decode cX4_ones 6 = .ok (.iconst 1, 1) := by decide +kernel
theorem dX4_ones_7 : decode cX4_ones 7 = .ok (.iand, 1) := by decide +kernel
theorem dX4_ones_8 : decode cX4_ones 8 = .ok (.iadd, 1) := by decide +kernel
theorem dX4_ones_9 : decode cX4_ones 9 = .ok (.iload_n 0, 1) := by decide +kernel
theorem dX4_ones_10 : decode cX4_ones 10 = .ok (.iconst 2, 1) := by decide +kernel
theorem dX4_ones_11 : decode cX4_ones 11 = .ok (.ishr, 1) := by decide +kernel
theorem dX4_ones_12 : decode cX4_ones 12 = .ok (.iconst 1, 1) := by decide +kernel
theorem dX4_ones_13 : decode cX4_ones 13 = .ok (.iand, 1) := by decide +kernel
theorem dX4_ones_14 : decode cX4_ones 14 = .ok (.iadd, 1) := by decide +kernel
theorem dX4_ones_15 : decode cX4_ones 15 = .ok (.ireturn, 1) := by decide +kernel
theorem dX4_marked_0 : decode cX4_marked 0 = .ok (.iconst 0, 1) := by decide +kernel
theorem dX4_marked_1 : decode cX4_marked 1 = .ok (.istore_n 3, 1) := by decide +kernel
theorem dX4_marked_2 : decode cX4_marked 2 = .ok (.iconst 0, 1) := by decide +kernel
theorem dX4_marked_3 : decode cX4_marked 3 = .ok (.istore 4, 2) := by decide +kernel
theorem dX4_marked_5 : decode cX4_marked 5 = .ok (.iload 4, 2) := by decide +kernel
theorem dX4_marked_7 : decode cX4_marked 7 = .ok (.bipush 30, 2) := by decide +kernel
theorem dX4_marked_9 : decode cX4_marked 9 = .ok (.if_icmp .ge 28, 3) := by decide +kernel
theorem dX4_marked_12 : decode cX4_marked 12 = .ok (.iload_n 3, 1) := by decide +kernel
theorem dX4_marked_13 : decode cX4_marked 13 = .ok (.aload_n 0, 1) := by decide +kernel
theorem dX4_marked_14 : decode cX4_marked 14 = .ok (.iload_n 1, 1) := by decide +kernel
theorem dX4_marked_15 : decode cX4_marked 15 = .ok (.iload 4, 2) := by decide +kernel
theorem dX4_marked_17 : decode cX4_marked 17 = .ok (.invokevirtual 45, 3) := by decide +kernel
theorem dX4_marked_20 : decode cX4_marked 20 = .ok (.iload_n 2, 1) := by decide +kernel
theorem dX4_marked_21 : decode cX4_marked 21 = .ok (.if_icmp .ne 7, 3) := by decide +kernel
theorem dX4_marked_24 : decode cX4_marked 24 = .ok (.iconst 1, 1) := by decide +kernel
theorem dX4_marked_25 : decode cX4_marked 25 = .ok (.goto 4, 3) := by decide +kernel
theorem dX4_marked_28 : decode cX4_marked 28 = .ok (.iconst 0, 1) := by decide +kernel
theorem dX4_marked_29 : decode cX4_marked 29 = .ok (.iadd, 1) := by decide +kernel
theorem dX4_marked_30 : decode cX4_marked 30 = .ok (.istore_n 3, 1) := by decide +kernel
theorem dX4_marked_31 : decode cX4_marked 31 = .ok (.iinc 4 1, 3) := by decide +kernel
theorem dX4_marked_34 : decode cX4_marked 34 = .ok (.goto (-29), 3) := by decide +kernel
theorem dX4_marked_37 : decode cX4_marked 37 = .ok (.iload_n 3, 1) := by decide +kernel
theorem dX4_marked_38 : decode cX4_marked 38 = .ok (.ireturn, 1) := by decide +kernel
theorem dX4_isOpen_0 : decode cX4_isOpen 0 = .ok (.aload_n 0, 1) := by decide +kernel
theorem dX4_isOpen_1 : decode cX4_isOpen 1 = .ok (.getfield 7, 3) := by decide +kernel
theorem dX4_isOpen_4 : decode cX4_isOpen 4 = .ok (.iload_n 1, 1) := by decide +kernel
theorem dX4_isOpen_5 : decode cX4_isOpen 5 = .ok (.iconst 0, 1) := by decide +kernel
theorem dX4_isOpen_6 : decode cX4_isOpen 6 = .ok (.invokestatic 26, 3) := by decide +kernel
theorem dX4_isOpen_9 : decode cX4_isOpen 9 = .ok (.iaload, 1) := by decide +kernel
theorem dX4_isOpen_10 : decode cX4_isOpen 10 = .ok (.ifCond .ne 7, 3) := by decide +kernel
theorem dX4_isOpen_13 : decode cX4_isOpen 13 = .ok (.iconst 1, 1) := by decide +kernel
theorem dX4_isOpen_14 : decode cX4_isOpen 14 = .ok (.goto 4, 3) := by decide +kernel
theorem dX4_isOpen_17 : decode cX4_isOpen 17 = .ok (.iconst 0, 1) := by decide +kernel
theorem dX4_isOpen_18 : decode cX4_isOpen 18 = .ok (.ireturn, 1) := by decide +kernel
theorem dX4_whyNotMark_0 : decode cX4_whyNotMark 0 = .ok (.iload_n 1, 1) := by decide +kernel
theorem dX4_whyNotMark_1 : decode cX4_whyNotMark 1 = .ok (.invokestatic 48, 3) := by decide +kernel
theorem dX4_whyNotMark_4 : decode cX4_whyNotMark 4 = .ok (.ifCond .eq 10, 3) := by decide +kernel
theorem dX4_whyNotMark_7 : decode cX4_whyNotMark 7 = .ok (.iload_n 2, 1) := by decide +kernel
theorem dX4_whyNotMark_8 : decode cX4_whyNotMark 8 = .ok (.invokestatic 52, 3) := by decide +kernel
theorem dX4_whyNotMark_11 : decode cX4_whyNotMark 11 = .ok (.ifCond .ne 5, 3) := by decide +kernel
theorem dX4_whyNotMark_14 : decode cX4_whyNotMark 14 = .ok (.iconst (-1), 1) := by decide +kernel
theorem dX4_whyNotMark_15 : decode cX4_whyNotMark 15 = .ok (.ireturn, 1) := by decide +kernel
theorem dX4_whyNotMark_16 : decode cX4_whyNotMark 16 = .ok (.iload_n 3, 1) := by decide +kernel
theorem dX4_whyNotMark_17 : decode cX4_whyNotMark 17 = .ok (.iconst 0, 1) := by decide +kernel
theorem dX4_whyNotMark_18 : decode cX4_whyNotMark 18 = .ok (.iconst 2, 1) := by decide +kernel
theorem dX4_whyNotMark_19 : decode cX4_whyNotMark 19 = .ok (.invokestatic 33, 3) := by decide +kernel
theorem dX4_whyNotMark_22 : decode cX4_whyNotMark 22 = .ok (.ifCond .ne 6, 3) := by decide +kernel
theorem dX4_whyNotMark_25 : decode cX4_whyNotMark 25 = .ok (.bipush (-2), 2) := by decide +kernel
theorem dX4_whyNotMark_27 : decode cX4_whyNotMark 27 = .ok (.ireturn, 1) := by decide +kernel
theorem dX4_whyNotMark_28 : decode cX4_whyNotMark 28 = .ok (.aload_n 0, 1) := by decide +kernel
theorem dX4_whyNotMark_29 : decode cX4_whyNotMark 29 = .ok (.iload_n 2, 1) := by decide +kernel
theorem dX4_whyNotMark_30 : decode cX4_whyNotMark 30 = .ok (.invokevirtual 55, 3) := by decide +kernel
theorem dX4_whyNotMark_33 : decode cX4_whyNotMark 33 = .ok (.ifCond .ne 6, 3) := by decide +kernel
theorem dX4_whyNotMark_36 : decode cX4_whyNotMark 36 = .ok (.bipush (-5), 2) := by decide +kernel
theorem dX4_whyNotMark_38 : decode cX4_whyNotMark 38 = .ok (.ireturn, 1) := by decide +kernel
theorem dX4_whyNotMark_39 : decode cX4_whyNotMark 39 = .ok (.iload_n 3, 1) := by decide +kernel
theorem dX4_whyNotMark_40 : decode cX4_whyNotMark 40 = .ok (.iconst 2, 1) := by decide +kernel
theorem dX4_whyNotMark_41 : decode cX4_whyNotMark 41 = .ok (.if_icmp .ne 17, 3) := by decide +kernel
theorem dX4_whyNotMark_44 : decode cX4_whyNotMark 44 = .ok (.aload_n 0, 1) := by decide +kernel
theorem dX4_whyNotMark_45 : decode cX4_whyNotMark 45 = .ok (.iload_n 1, 1) := by decide +kernel
theorem dX4_whyNotMark_46 : decode cX4_whyNotMark 46 = .ok (.iload_n 2, 1) := by decide +kernel
theorem dX4_whyNotMark_47 : decode cX4_whyNotMark 47 = .ok (.invokevirtual 45, 3) := by decide +kernel
theorem dX4_whyNotMark_50 : decode cX4_whyNotMark 50 = .ok (.iconst 2, 1) := by decide +kernel
theorem dX4_whyNotMark_51 : decode cX4_whyNotMark 51 = .ok (.if_icmp .eq 7, 3) := by decide +kernel
theorem dX4_whyNotMark_54 : decode cX4_whyNotMark 54 = .ok (.iconst 1, 1) := by decide +kernel
theorem dX4_whyNotMark_55 : decode cX4_whyNotMark 55 = .ok (.goto 4, 3) := by decide +kernel
theorem dX4_whyNotMark_58 : decode cX4_whyNotMark 58 = .ok (.iconst 0, 1) := by decide +kernel
theorem dX4_whyNotMark_59 : decode cX4_whyNotMark 59 = .ok (.istore 4, 2) := by decide +kernel
theorem dX4_whyNotMark_61 : decode cX4_whyNotMark 61 = .ok (.iload 4, 2) := by decide +kernel
theorem dX4_whyNotMark_63 : decode cX4_whyNotMark 63 = .ok (.ifCond .eq 25, 3) := by decide +kernel
theorem dX4_whyNotMark_66 : decode cX4_whyNotMark 66 = .ok (.aload_n 0, 1) := by decide +kernel
theorem dX4_whyNotMark_67 : decode cX4_whyNotMark 67 = .ok (.iload_n 1, 1) := by decide +kernel
theorem dX4_whyNotMark_68 : decode cX4_whyNotMark 68 = .ok (.iconst 2, 1) := by decide +kernel
theorem dX4_whyNotMark_69 : decode cX4_whyNotMark 69 = .ok (.invokevirtual 58, 3) := by decide +kernel
theorem dX4_whyNotMark_72 : decode cX4_whyNotMark 72 = .ok (.aload_n 0, 1) := by decide +kernel
theorem dX4_whyNotMark_73 : decode cX4_whyNotMark 73 = .ok (.getfield 7, 3) := by decide +kernel
theorem dX4_whyNotMark_76 : decode cX4_whyNotMark 76 = .ok (.sipush 163, 3) := by decide +kernel
theorem dX4_whyNotMark_79 : decode cX4_whyNotMark 79 = .ok (.iaload, 1) := by decide +kernel
theorem dX4_whyNotMark_80 : decode cX4_whyNotMark 80 = .ok (.if_icmp .lt 8, 3) := by decide +kernel
theorem dX4_whyNotMark_83 : decode cX4_whyNotMark 83 = .ok (.bipush (-4), 2) := by decide +kernel
theorem dX4_whyNotMark_85 : decode cX4_whyNotMark 85 = .ok (.goto 4, 3) := by decide +kernel
theorem dX4_whyNotMark_88 : decode cX4_whyNotMark 88 = .ok (.iconst 0, 1) := by decide +kernel
theorem dX4_whyNotMark_89 : decode cX4_whyNotMark 89 = .ok (.ireturn, 1) := by decide +kernel
theorem dX4_mark_0 : decode cX4_mark 0 = .ok (.aload_n 0, 1) := by decide +kernel
theorem dX4_mark_1 : decode cX4_mark 1 = .ok (.iload_n 1, 1) := by decide +kernel
theorem dX4_mark_2 : decode cX4_mark 2 = .ok (.iload_n 2, 1) := by decide +kernel
theorem dX4_mark_3 : decode cX4_mark 3 = .ok (.iload_n 3, 1) := by decide +kernel
theorem dX4_mark_4 : decode cX4_mark 4 = .ok (.invokevirtual 61, 3) := by decide +kernel
theorem dX4_mark_7 : decode cX4_mark 7 = .ok (.istore 4, 2) := by decide +kernel
theorem dX4_mark_9 : decode cX4_mark 9 = .ok (.iload 4, 2) := by decide +kernel
theorem dX4_mark_11 : decode cX4_mark 11 = .ok (.ifCond .ge 6, 3) := by decide +kernel
theorem dX4_mark_14 : decode cX4_mark 14 = .ok (.iload 4, 2) := by decide +kernel
theorem dX4_mark_16 : decode cX4_mark 16 = .ok (.ireturn, 1) := by decide +kernel
theorem dX4_mark_17 : decode cX4_mark 17 = .ok (.aload_n 0, 1) := by decide +kernel
theorem dX4_mark_18 : decode cX4_mark 18 = .ok (.invokevirtual 65, 3) := by decide +kernel
theorem dX4_mark_21 : decode cX4_mark 21 = .ok (.aload_n 0, 1) := by decide +kernel
theorem dX4_mark_22 : decode cX4_mark 22 = .ok (.iload_n 1, 1) := by decide +kernel
theorem dX4_mark_23 : decode cX4_mark 23 = .ok (.iload_n 2, 1) := by decide +kernel
theorem dX4_mark_24 : decode cX4_mark 24 = .ok (.invokevirtual 45, 3) := by decide +kernel
theorem dX4_mark_27 : decode cX4_mark 27 = .ok (.istore 5, 2) := by decide +kernel
theorem dX4_mark_29 : decode cX4_mark 29 = .ok (.aload_n 0, 1) := by decide +kernel
theorem dX4_mark_30 : decode cX4_mark 30 = .ok (.iload_n 1, 1) := by decide +kernel
theorem dX4_mark_31 : decode cX4_mark 31 = .ok (.iload_n 2, 1) := by decide +kernel
theorem dX4_mark_32 : decode cX4_mark 32 = .ok (.iload_n 3, 1) := by decide +kernel
theorem dX4_mark_33 : decode cX4_mark 33 = .ok (.invokevirtual 68, 3) := by decide +kernel
theorem dX4_mark_36 : decode cX4_mark 36 = .ok (.iload 5, 2) := by decide +kernel
theorem dX4_mark_38 : decode cX4_mark 38 = .ok (.ireturn, 1) := by decide +kernel
theorem dX4_whyNotArgue_0 : decode cX4_whyNotArgue 0 = .ok (.iload_n 1, 1) := by decide +kernel
theorem dX4_whyNotArgue_1 : decode cX4_whyNotArgue 1 = .ok (.invokestatic 48, 3) := by decide +kernel
theorem dX4_whyNotArgue_4 : decode cX4_whyNotArgue 4 = .ok (.ifCond .eq 17, 3) := by decide +kernel
theorem dX4_whyNotArgue_7 : decode cX4_whyNotArgue 7 = .ok (.iload_n 2, 1) := by decide +kernel
theorem dX4_whyNotArgue_8 : decode cX4_whyNotArgue 8 = .ok (.invokestatic 48, 3) := by decide +kernel
theorem dX4_whyNotArgue_11 : decode cX4_whyNotArgue 11 = .ok (.ifCond .eq 10, 3) := by decide +kernel
theorem dX4_whyNotArgue_14 : decode cX4_whyNotArgue 14 = .ok (.iload_n 3, 1) := by decide +kernel
theorem dX4_whyNotArgue_15 : decode cX4_whyNotArgue 15 = .ok (.invokestatic 52, 3) := by decide +kernel
theorem dX4_whyNotArgue_18 : decode cX4_whyNotArgue 18 = .ok (.ifCond .ne 5, 3) := by decide +kernel
theorem dX4_whyNotArgue_21 : decode cX4_whyNotArgue 21 = .ok (.iconst (-1), 1) := by decide +kernel
theorem dX4_whyNotArgue_22 : decode cX4_whyNotArgue 22 = .ok (.ireturn, 1) := by decide +kernel
theorem dX4_whyNotArgue_23 : decode cX4_whyNotArgue 23 = .ok (.iload_n 1, 1) := by decide +kernel
theorem dX4_whyNotArgue_24 : decode cX4_whyNotArgue 24 = .ok (.iload_n 2, 1) := by decide +kernel
theorem dX4_whyNotArgue_25 : decode cX4_whyNotArgue 25 = .ok (.if_icmp .ne 6, 3) := by decide +kernel
theorem dX4_whyNotArgue_28 : decode cX4_whyNotArgue 28 = .ok (.bipush (-2), 2) := by decide +kernel
theorem dX4_whyNotArgue_30 : decode cX4_whyNotArgue 30 = .ok (.ireturn, 1) := by decide +kernel
theorem dX4_whyNotArgue_31 : decode cX4_whyNotArgue 31 = .ok (.aload_n 0, 1) := by decide +kernel
theorem dX4_whyNotArgue_32 : decode cX4_whyNotArgue 32 = .ok (.iload_n 2, 1) := by decide +kernel
theorem dX4_whyNotArgue_33 : decode cX4_whyNotArgue 33 = .ok (.iload_n 3, 1) := by decide +kernel
theorem dX4_whyNotArgue_34 : decode cX4_whyNotArgue 34 = .ok (.invokevirtual 45, 3) := by decide +kernel
theorem dX4_whyNotArgue_37 : decode cX4_whyNotArgue 37 = .ok (.iconst 2, 1) := by decide +kernel
theorem dX4_whyNotArgue_38 : decode cX4_whyNotArgue 38 = .ok (.if_icmp .ne 28, 3) := by decide +kernel
theorem dX4_whyNotArgue_41 : decode cX4_whyNotArgue 41 = .ok (.aload_n 0, 1) := by decide +kernel
theorem dX4_whyNotArgue_42 : decode cX4_whyNotArgue 42 = .ok (.getfield 7, 3) := by decide +kernel
theorem dX4_whyNotArgue_45 : decode cX4_whyNotArgue 45 = .ok (.iload_n 1, 1) := by decide +kernel
theorem dX4_whyNotArgue_46 : decode cX4_whyNotArgue 46 = .ok (.iconst 0, 1) := by decide +kernel
theorem dX4_whyNotArgue_47 : decode cX4_whyNotArgue 47 = .ok (.invokestatic 30, 3) := by decide +kernel
theorem dX4_whyNotArgue_50 : decode cX4_whyNotArgue 50 = .ok (.iaload, 1) := by decide +kernel
theorem dX4_whyNotArgue_51 : decode cX4_whyNotArgue 51 = .ok (.aload_n 0, 1) := by decide +kernel
theorem dX4_whyNotArgue_52 : decode cX4_whyNotArgue 52 = .ok (.getfield 7, 3) := by decide +kernel
theorem dX4_whyNotArgue_55 : decode cX4_whyNotArgue 55 = .ok (.sipush 164, 3) := by decide +kernel
theorem dX4_whyNotArgue_58 : decode cX4_whyNotArgue 58 = .ok (.iaload, 1) := by decide +kernel
theorem dX4_whyNotArgue_59 : decode cX4_whyNotArgue 59 = .ok (.if_icmp .lt 7, 3) := by decide +kernel
theorem dX4_whyNotArgue_62 : decode cX4_whyNotArgue 62 = .ok (.iconst 1, 1) := by decide +kernel
theorem dX4_whyNotArgue_63 : decode cX4_whyNotArgue 63 = .ok (.goto 4, 3) := by decide +kernel
theorem dX4_whyNotArgue_66 : decode cX4_whyNotArgue 66 = .ok (.iconst 0, 1) := by decide +kernel
theorem dX4_whyNotArgue_67 : decode cX4_whyNotArgue 67 = .ok (.istore 4, 2) := by decide +kernel
theorem dX4_whyNotArgue_69 : decode cX4_whyNotArgue 69 = .ok (.iload 4, 2) := by decide +kernel
theorem dX4_whyNotArgue_71 : decode cX4_whyNotArgue 71 = .ok (.ifCond .eq 7, 3) := by decide +kernel
theorem dX4_whyNotArgue_74 : decode cX4_whyNotArgue 74 = .ok (.iconst 0, 1) := by decide +kernel
theorem dX4_whyNotArgue_75 : decode cX4_whyNotArgue 75 = .ok (.goto 5, 3) := by decide +kernel
theorem dX4_whyNotArgue_78 : decode cX4_whyNotArgue 78 = .ok (.bipush (-5), 2) := by decide +kernel
theorem dX4_whyNotArgue_80 : decode cX4_whyNotArgue 80 = .ok (.ireturn, 1) := by decide +kernel
theorem dX4_argues_0 : decode cX4_argues 0 = .ok (.aload_n 0, 1) := by decide +kernel
theorem dX4_argues_1 : decode cX4_argues 1 = .ok (.getfield 7, 3) := by decide +kernel
theorem dX4_argues_4 : decode cX4_argues 4 = .ok (.sipush 164, 3) := by decide +kernel
theorem dX4_argues_7 : decode cX4_argues 7 = .ok (.iaload, 1) := by decide +kernel
theorem dX4_argues_8 : decode cX4_argues 8 = .ok (.istore 4, 2) := by decide +kernel
theorem dX4_argues_10 : decode cX4_argues 10 = .ok (.aload_n 0, 1) := by decide +kernel
theorem dX4_argues_11 : decode cX4_argues 11 = .ok (.getfield 7, 3) := by decide +kernel
theorem dX4_argues_14 : decode cX4_argues 14 = .ok (.iload_n 1, 1) := by decide +kernel
theorem dX4_argues_15 : decode cX4_argues 15 = .ok (.iconst 0, 1) := by decide +kernel
theorem dX4_argues_16 : decode cX4_argues 16 = .ok (.invokestatic 30, 3) := by decide +kernel
theorem dX4_argues_19 : decode cX4_argues 19 = .ok (.dup2, 1) := by decide +kernel
theorem dX4_argues_20 : decode cX4_argues 20 = .ok (.iaload, 1) := by decide +kernel
theorem dX4_argues_21 : decode cX4_argues 21 = .ok (.iload 4, 2) := by decide +kernel
theorem dX4_argues_23 : decode cX4_argues 23 = .ok (.isub, 1) := by decide +kernel
theorem dX4_argues_24 : decode cX4_argues 24 = .ok (.iastore, 1) := by decide +kernel
theorem dX4_argues_25 : decode cX4_argues 25 = .ok (.aload_n 0, 1) := by decide +kernel
theorem dX4_argues_26 : decode cX4_argues 26 = .ok (.getfield 7, 3) := by decide +kernel
theorem dX4_argues_29 : decode cX4_argues 29 = .ok (.iload_n 1, 1) := by decide +kernel
theorem dX4_argues_30 : decode cX4_argues 30 = .ok (.iconst 1, 1) := by decide +kernel
theorem dX4_argues_31 : decode cX4_argues 31 = .ok (.invokestatic 30, 3) := by decide +kernel
theorem dX4_argues_34 : decode cX4_argues 34 = .ok (.dup2, 1) := by decide +kernel
theorem dX4_argues_35 : decode cX4_argues 35 = .ok (.iaload, 1) := by decide +kernel
theorem dX4_argues_36 : decode cX4_argues 36 = .ok (.iconst 1, 1) := by decide +kernel
theorem dX4_argues_37 : decode cX4_argues 37 = .ok (.iadd, 1) := by decide +kernel
theorem dX4_argues_38 : decode cX4_argues 38 = .ok (.iastore, 1) := by decide +kernel
theorem dX4_argues_39 : decode cX4_argues 39 = .ok (.aload_n 0, 1) := by decide +kernel
theorem dX4_argues_40 : decode cX4_argues 40 = .ok (.getfield 7, 3) := by decide +kernel
theorem dX4_argues_43 : decode cX4_argues 43 = .ok (.iload_n 2, 1) := by decide +kernel
theorem dX4_argues_44 : decode cX4_argues 44 = .ok (.iconst 0, 1) := by decide +kernel
theorem dX4_argues_45 : decode cX4_argues 45 = .ok (.invokestatic 30, 3) := by decide +kernel
theorem dX4_argues_48 : decode cX4_argues 48 = .ok (.iaload, 1) := by decide +kernel
theorem dX4_argues_49 : decode cX4_argues 49 = .ok (.iload 4, 2) := by decide +kernel
theorem dX4_argues_51 : decode cX4_argues 51 = .ok (.if_icmp .lt 20, 3) := by decide +kernel
theorem dX4_argues_54 : decode cX4_argues 54 = .ok (.aload_n 0, 1) := by decide +kernel
theorem dX4_argues_55 : decode cX4_argues 55 = .ok (.getfield 7, 3) := by decide +kernel
theorem dX4_argues_58 : decode cX4_argues 58 = .ok (.iload_n 2, 1) := by decide +kernel
theorem dX4_argues_59 : decode cX4_argues 59 = .ok (.iconst 0, 1) := by decide +kernel
theorem dX4_argues_60 : decode cX4_argues 60 = .ok (.invokestatic 30, 3) := by decide +kernel
theorem dX4_argues_63 : decode cX4_argues 63 = .ok (.dup2, 1) := by decide +kernel
theorem dX4_argues_64 : decode cX4_argues 64 = .ok (.iaload, 1) := by decide +kernel
theorem dX4_argues_65 : decode cX4_argues 65 = .ok (.iload 4, 2) := by decide +kernel
theorem dX4_argues_67 : decode cX4_argues 67 = .ok (.isub, 1) := by decide +kernel
theorem dX4_argues_68 : decode cX4_argues 68 = .ok (.iastore, 1) := by decide +kernel
theorem dX4_argues_69 : decode cX4_argues 69 = .ok (.iconst 0, 1) := by decide +kernel
theorem dX4_argues_70 : decode cX4_argues 70 = .ok (.ireturn, 1) := by decide +kernel
theorem dX4_argues_71 : decode cX4_argues 71 = .ok (.aload_n 0, 1) := by decide +kernel
theorem dX4_argues_72 : decode cX4_argues 72 = .ok (.iload_n 2, 1) := by decide +kernel
theorem dX4_argues_73 : decode cX4_argues 73 = .ok (.iload_n 3, 1) := by decide +kernel
theorem dX4_argues_74 : decode cX4_argues 74 = .ok (.iconst 0, 1) := by decide +kernel
theorem dX4_argues_75 : decode cX4_argues 75 = .ok (.invokevirtual 68, 3) := by decide +kernel
theorem dX4_argues_78 : decode cX4_argues 78 = .ok (.aload_n 0, 1) := by decide +kernel
theorem dX4_argues_79 : decode cX4_argues 79 = .ok (.getfield 7, 3) := by decide +kernel
theorem dX4_argues_82 : decode cX4_argues 82 = .ok (.iload_n 2, 1) := by decide +kernel
theorem dX4_argues_83 : decode cX4_argues 83 = .ok (.iconst 2, 1) := by decide +kernel
theorem dX4_argues_84 : decode cX4_argues 84 = .ok (.invokestatic 30, 3) := by decide +kernel
theorem dX4_argues_87 : decode cX4_argues 87 = .ok (.dup2, 1) := by decide +kernel
theorem dX4_argues_88 : decode cX4_argues 88 = .ok (.iaload, 1) := by decide +kernel
theorem dX4_argues_89 : decode cX4_argues 89 = .ok (.iconst 1, 1) := by decide +kernel
theorem dX4_argues_90 : decode cX4_argues 90 = .ok (.iadd, 1) := by decide +kernel
theorem dX4_argues_91 : decode cX4_argues 91 = .ok (.iastore, 1) := by decide +kernel
theorem dX4_argues_92 : decode cX4_argues 92 = .ok (.iconst 1, 1) := by decide +kernel
theorem dX4_argues_93 : decode cX4_argues 93 = .ok (.ireturn, 1) := by decide +kernel
theorem dX4_argue_0 : decode cX4_argue 0 = .ok (.aload_n 0, 1) := by decide +kernel
theorem dX4_argue_1 : decode cX4_argue 1 = .ok (.iload_n 1, 1) := by decide +kernel
theorem dX4_argue_2 : decode cX4_argue 2 = .ok (.iload_n 2, 1) := by decide +kernel
theorem dX4_argue_3 : decode cX4_argue 3 = .ok (.iload_n 3, 1) := by decide +kernel
theorem dX4_argue_4 : decode cX4_argue 4 = .ok (.invokevirtual 72, 3) := by decide +kernel
theorem dX4_argue_7 : decode cX4_argue 7 = .ok (.istore 4, 2) := by decide +kernel
theorem dX4_argue_9 : decode cX4_argue 9 = .ok (.iload 4, 2) := by decide +kernel
theorem dX4_argue_11 : decode cX4_argue 11 = .ok (.ifCond .ge 6, 3) := by decide +kernel
theorem dX4_argue_14 : decode cX4_argue 14 = .ok (.iload 4, 2) := by decide +kernel
theorem dX4_argue_16 : decode cX4_argue 16 = .ok (.ireturn, 1) := by decide +kernel
theorem dX4_argue_17 : decode cX4_argue 17 = .ok (.aload_n 0, 1) := by decide +kernel
theorem dX4_argue_18 : decode cX4_argue 18 = .ok (.invokevirtual 65, 3) := by decide +kernel
theorem dX4_argue_21 : decode cX4_argue 21 = .ok (.aload_n 0, 1) := by decide +kernel
theorem dX4_argue_22 : decode cX4_argue 22 = .ok (.iload_n 1, 1) := by decide +kernel
theorem dX4_argue_23 : decode cX4_argue 23 = .ok (.iload_n 2, 1) := by decide +kernel
theorem dX4_argue_24 : decode cX4_argue 24 = .ok (.iload_n 3, 1) := by decide +kernel
theorem dX4_argue_25 : decode cX4_argue 25 = .ok (.invokevirtual 75, 3) := by decide +kernel
theorem dX4_argue_28 : decode cX4_argue 28 = .ok (.ireturn, 1) := by decide +kernel
theorem dX4_then_0 : decode cX4_then 0 = .ok (.aload_n 0, 1) := by decide +kernel
theorem dX4_then_1 : decode cX4_then 1 = .ok (.iload_n 1, 1) := by decide +kernel
theorem dX4_then_2 : decode cX4_then 2 = .ok (.iconst 1, 1) := by decide +kernel
theorem dX4_then_3 : decode cX4_then 3 = .ok (.invokevirtual 78, 3) := by decide +kernel
theorem dX4_then_6 : decode cX4_then 6 = .ok (.invokestatic 81, 3) := by decide +kernel
theorem dX4_then_9 : decode cX4_then 9 = .ok (.istore_n 2, 1) := by decide +kernel
theorem dX4_then_10 : decode cX4_then 10 = .ok (.aload_n 0, 1) := by decide +kernel
theorem dX4_then_11 : decode cX4_then 11 = .ok (.iload_n 1, 1) := by decide +kernel
theorem dX4_then_12 : decode cX4_then 12 = .ok (.iconst 2, 1) := by decide +kernel
theorem dX4_then_13 : decode cX4_then 13 = .ok (.invokevirtual 78, 3) := by decide +kernel
theorem dX4_then_16 : decode cX4_then 16 = .ok (.invokestatic 81, 3) := by decide +kernel
theorem dX4_then_19 : decode cX4_then 19 = .ok (.istore_n 3, 1) := by decide +kernel
theorem dX4_then_20 : decode cX4_then 20 = .ok (.iload_n 2, 1) := by decide +kernel
theorem dX4_then_21 : decode cX4_then 21 = .ok (.iload_n 3, 1) := by decide +kernel
theorem dX4_then_22 : decode cX4_then 22 = .ok (.iadd, 1) := by decide +kernel
theorem dX4_then_23 : decode cX4_then 23 = .ok (.ifCond .ne 18, 3) := by decide +kernel
theorem dX4_then_26 : decode cX4_then 26 = .ok (.aload_n 0, 1) := by decide +kernel
theorem dX4_then_27 : decode cX4_then 27 = .ok (.getfield 7, 3) := by decide +kernel
theorem dX4_then_30 : decode cX4_then 30 = .ok (.iload_n 1, 1) := by decide +kernel
theorem dX4_then_31 : decode cX4_then 31 = .ok (.iconst 1, 1) := by decide +kernel
theorem dX4_then_32 : decode cX4_then 32 = .ok (.invokestatic 26, 3) := by decide +kernel
theorem dX4_then_35 : decode cX4_then 35 = .ok (.iaload, 1) := by decide +kernel
theorem dX4_then_36 : decode cX4_then 36 = .ok (.iconst 1, 1) := by decide +kernel
theorem dX4_then_37 : decode cX4_then 37 = .ok (.iadd, 1) := by decide +kernel
theorem dX4_then_38 : decode cX4_then 38 = .ok (.goto 4, 3) := by decide +kernel
theorem dX4_then_41 : decode cX4_then 41 = .ok (.iconst 0, 1) := by decide +kernel
theorem dX4_then_42 : decode cX4_then 42 = .ok (.istore 4, 2) := by decide +kernel
theorem dX4_then_44 : decode cX4_then 44 = .ok (.iload_n 3, 1) := by decide +kernel
theorem dX4_then_45 : decode cX4_then 45 = .ok (.ifCond .le 14, 3) := by decide +kernel
theorem dX4_then_48 : decode cX4_then 48 = .ok (.iload_n 3, 1) := by decide +kernel
theorem dX4_then_49 : decode cX4_then 49 = .ok (.iconst 1, 1) := by decide +kernel
theorem dX4_then_50 : decode cX4_then 50 = .ok (.if_icmp .le 7, 3) := by decide +kernel
theorem dX4_then_53 : decode cX4_then 53 = .ok (.iconst 2, 1) := by decide +kernel
theorem dX4_then_54 : decode cX4_then 54 = .ok (.goto 4, 3) := by decide +kernel
theorem dX4_then_57 : decode cX4_then 57 = .ok (.iconst 0, 1) := by decide +kernel
theorem dX4_then_58 : decode cX4_then 58 = .ok (.ireturn, 1) := by decide +kernel
theorem dX4_then_59 : decode cX4_then 59 = .ok (.iload_n 2, 1) := by decide +kernel
theorem dX4_then_60 : decode cX4_then 60 = .ok (.aload_n 0, 1) := by decide +kernel
theorem dX4_then_61 : decode cX4_then 61 = .ok (.getfield 7, 3) := by decide +kernel
theorem dX4_then_64 : decode cX4_then 64 = .ok (.sipush 162, 3) := by decide +kernel
theorem dX4_then_67 : decode cX4_then 67 = .ok (.iaload, 1) := by decide +kernel
theorem dX4_then_68 : decode cX4_then 68 = .ok (.if_icmp .lt 7, 3) := by decide +kernel
theorem dX4_then_71 : decode cX4_then 71 = .ok (.iconst 1, 1) := by decide +kernel
theorem dX4_then_72 : decode cX4_then 72 = .ok (.goto 21, 3) := by decide +kernel
theorem dX4_then_75 : decode cX4_then 75 = .ok (.iload 4, 2) := by decide +kernel
theorem dX4_then_77 : decode cX4_then 77 = .ok (.aload_n 0, 1) := by decide +kernel
theorem dX4_then_78 : decode cX4_then 78 = .ok (.getfield 7, 3) := by decide +kernel
theorem dX4_then_81 : decode cX4_then 81 = .ok (.sipush 165, 3) := by decide +kernel
theorem dX4_then_84 : decode cX4_then 84 = .ok (.iaload, 1) := by decide +kernel
theorem dX4_then_85 : decode cX4_then 85 = .ok (.if_icmp .lt 7, 3) := by decide +kernel
theorem dX4_then_88 : decode cX4_then 88 = .ok (.iconst 2, 1) := by decide +kernel
theorem dX4_then_89 : decode cX4_then 89 = .ok (.goto 4, 3) := by decide +kernel
theorem dX4_then_92 : decode cX4_then 92 = .ok (.iconst 0, 1) := by decide +kernel
theorem dX4_then_93 : decode cX4_then 93 = .ok (.ireturn, 1) := by decide +kernel
theorem dX4_judges_0 : decode cX4_judges 0 = .ok (.aload_n 0, 1) := by decide +kernel
theorem dX4_judges_1 : decode cX4_judges 1 = .ok (.iload_n 1, 1) := by decide +kernel
theorem dX4_judges_2 : decode cX4_judges 2 = .ok (.invokevirtual 84, 3) := by decide +kernel
theorem dX4_judges_5 : decode cX4_judges 5 = .ok (.istore_n 2, 1) := by decide +kernel
theorem dX4_judges_6 : decode cX4_judges 6 = .ok (.aload_n 0, 1) := by decide +kernel
theorem dX4_judges_7 : decode cX4_judges 7 = .ok (.iload_n 1, 1) := by decide +kernel
theorem dX4_judges_8 : decode cX4_judges 8 = .ok (.iconst 1, 1) := by decide +kernel
theorem dX4_judges_9 : decode cX4_judges 9 = .ok (.invokevirtual 78, 3) := by decide +kernel
theorem dX4_judges_12 : decode cX4_judges 12 = .ok (.istore_n 3, 1) := by decide +kernel
theorem dX4_judges_13 : decode cX4_judges 13 = .ok (.aload_n 0, 1) := by decide +kernel
theorem dX4_judges_14 : decode cX4_judges 14 = .ok (.getfield 7, 3) := by decide +kernel
theorem dX4_judges_17 : decode cX4_judges 17 = .ok (.iload_n 1, 1) := by decide +kernel
theorem dX4_judges_18 : decode cX4_judges 18 = .ok (.iconst 4, 1) := by decide +kernel
theorem dX4_judges_19 : decode cX4_judges 19 = .ok (.invokestatic 26, 3) := by decide +kernel
theorem dX4_judges_22 : decode cX4_judges 22 = .ok (.iaload, 1) := by decide +kernel
theorem dX4_judges_23 : decode cX4_judges 23 = .ok (.ifCond .ne 7, 3) := by decide +kernel
theorem dX4_judges_26 : decode cX4_judges 26 = .ok (.iconst 1, 1) := by decide +kernel
theorem dX4_judges_27 : decode cX4_judges 27 = .ok (.goto 4, 3) := by decide +kernel
theorem dX4_judges_30 : decode cX4_judges 30 = .ok (.iconst 0, 1) := by decide +kernel
theorem dX4_judges_31 : decode cX4_judges 31 = .ok (.istore 4, 2) := by decide +kernel
theorem dX4_judges_33 : decode cX4_judges 33 = .ok (.aload_n 0, 1) := by decide +kernel
theorem dX4_judges_34 : decode cX4_judges 34 = .ok (.getfield 7, 3) := by decide +kernel
theorem dX4_judges_37 : decode cX4_judges 37 = .ok (.iload_n 1, 1) := by decide +kernel
theorem dX4_judges_38 : decode cX4_judges 38 = .ok (.iconst 1, 1) := by decide +kernel
theorem dX4_judges_39 : decode cX4_judges 39 = .ok (.invokestatic 26, 3) := by decide +kernel
theorem dX4_judges_42 : decode cX4_judges 42 = .ok (.iload 4, 2) := by decide +kernel
theorem dX4_judges_44 : decode cX4_judges 44 = .ok (.ifCond .eq 18, 3) := by decide +kernel
theorem dX4_judges_47 : decode cX4_judges 47 = .ok (.aload_n 0, 1) := by decide +kernel
theorem dX4_judges_48 : decode cX4_judges 48 = .ok (.getfield 7, 3) := by decide +kernel
theorem dX4_judges_51 : decode cX4_judges 51 = .ok (.iload_n 1, 1) := by decide +kernel
theorem dX4_judges_52 : decode cX4_judges 52 = .ok (.iconst 1, 1) := by decide +kernel
theorem dX4_judges_53 : decode cX4_judges 53 = .ok (.invokestatic 26, 3) := by decide +kernel
theorem dX4_judges_56 : decode cX4_judges 56 = .ok (.iaload, 1) := by decide +kernel
theorem dX4_judges_57 : decode cX4_judges 57 = .ok (.iconst 1, 1) := by decide +kernel
theorem dX4_judges_58 : decode cX4_judges 58 = .ok (.iadd, 1) := by decide +kernel
theorem dX4_judges_59 : decode cX4_judges 59 = .ok (.goto 4, 3) := by decide +kernel
theorem dX4_judges_62 : decode cX4_judges 62 = .ok (.iconst 0, 1) := by decide +kernel
theorem dX4_judges_63 : decode cX4_judges 63 = .ok (.iastore, 1) := by decide +kernel
theorem dX4_judges_64 : decode cX4_judges 64 = .ok (.aload_n 0, 1) := by decide +kernel
theorem dX4_judges_65 : decode cX4_judges 65 = .ok (.getfield 7, 3) := by decide +kernel
theorem dX4_judges_68 : decode cX4_judges 68 = .ok (.iload_n 1, 1) := by decide +kernel
theorem dX4_judges_69 : decode cX4_judges 69 = .ok (.iconst 0, 1) := by decide +kernel
theorem dX4_judges_70 : decode cX4_judges 70 = .ok (.invokestatic 26, 3) := by decide +kernel
theorem dX4_judges_73 : decode cX4_judges 73 = .ok (.iload_n 2, 1) := by decide +kernel
theorem dX4_judges_74 : decode cX4_judges 74 = .ok (.iastore, 1) := by decide +kernel
theorem dX4_judges_75 : decode cX4_judges 75 = .ok (.iload_n 2, 1) := by decide +kernel
theorem dX4_judges_76 : decode cX4_judges 76 = .ok (.iconst 1, 1) := by decide +kernel
theorem dX4_judges_77 : decode cX4_judges 77 = .ok (.if_icmp .ne 70, 3) := by decide +kernel
theorem dX4_judges_80 : decode cX4_judges 80 = .ok (.aload_n 0, 1) := by decide +kernel
theorem dX4_judges_81 : decode cX4_judges 81 = .ok (.getfield 7, 3) := by decide +kernel
theorem dX4_judges_84 : decode cX4_judges 84 = .ok (.iload_n 1, 1) := by decide +kernel
theorem dX4_judges_85 : decode cX4_judges 85 = .ok (.iconst 2, 1) := by decide +kernel
theorem dX4_judges_86 : decode cX4_judges 86 = .ok (.invokestatic 26, 3) := by decide +kernel
theorem dX4_judges_89 : decode cX4_judges 89 = .ok (.iload_n 3, 1) := by decide +kernel
theorem dX4_judges_90 : decode cX4_judges 90 = .ok (.invokestatic 81, 3) := by decide +kernel
theorem dX4_judges_93 : decode cX4_judges 93 = .ok (.iastore, 1) := by decide +kernel
theorem dX4_judges_94 : decode cX4_judges 94 = .ok (.aload_n 0, 1) := by decide +kernel
theorem dX4_judges_95 : decode cX4_judges 95 = .ok (.getfield 7, 3) := by decide +kernel
theorem dX4_judges_98 : decode cX4_judges 98 = .ok (.iload_n 1, 1) := by decide +kernel
theorem dX4_judges_99 : decode cX4_judges 99 = .ok (.iconst 3, 1) := by decide +kernel
theorem dX4_judges_100 : decode cX4_judges 100 = .ok (.invokestatic 26, 3) := by decide +kernel
theorem dX4_judges_103 : decode cX4_judges 103 = .ok (.aload_n 0, 1) := by decide +kernel
theorem dX4_judges_104 : decode cX4_judges 104 = .ok (.getfield 7, 3) := by decide +kernel
theorem dX4_judges_107 : decode cX4_judges 107 = .ok (.sipush 166, 3) := by decide +kernel
theorem dX4_judges_110 : decode cX4_judges 110 = .ok (.iaload, 1) := by decide +kernel
theorem dX4_judges_111 : decode cX4_judges 111 = .ok (.iastore, 1) := by decide +kernel
theorem dX4_judges_112 : decode cX4_judges 112 = .ok (.iconst 0, 1) := by decide +kernel
theorem dX4_judges_113 : decode cX4_judges 113 = .ok (.istore 5, 2) := by decide +kernel
theorem dX4_judges_115 : decode cX4_judges 115 = .ok (.iload 5, 2) := by decide +kernel
theorem dX4_judges_117 : decode cX4_judges 117 = .ok (.iconst 3, 1) := by decide +kernel
theorem dX4_judges_118 : decode cX4_judges 118 = .ok (.if_icmp .ge 29, 3) := by decide +kernel
theorem dX4_judges_121 : decode cX4_judges 121 = .ok (.aload_n 0, 1) := by decide +kernel
theorem dX4_judges_122 : decode cX4_judges 122 = .ok (.getfield 7, 3) := by decide +kernel
theorem dX4_judges_125 : decode cX4_judges 125 = .ok (.iload 5, 2) := by decide +kernel
theorem dX4_judges_127 : decode cX4_judges 127 = .ok (.iconst 3, 1) := by decide +kernel
theorem dX4_judges_128 : decode cX4_judges 128 = .ok (.invokestatic 30, 3) := by decide +kernel
theorem dX4_judges_131 : decode cX4_judges 131 = .ok (.dup2, 1) := by decide +kernel
theorem dX4_judges_132 : decode cX4_judges 132 = .ok (.iaload, 1) := by decide +kernel
theorem dX4_judges_133 : decode cX4_judges 133 = .ok (.iload_n 3, 1) := by decide +kernel
theorem dX4_judges_134 : decode cX4_judges 134 = .ok (.iload 5, 2) := by decide +kernel
theorem dX4_judges_136 : decode cX4_judges 136 = .ok (.ishr, 1) := by decide +kernel
theorem dX4_judges_137 : decode cX4_judges 137 = .ok (.iconst 1, 1) := by decide +kernel
theorem dX4_judges_138 : decode cX4_judges 138 = .ok (.iand, 1) := by decide +kernel
theorem dX4_judges_139 : decode cX4_judges 139 = .ok (.iadd, 1) := by decide +kernel
theorem dX4_judges_140 : decode cX4_judges 140 = .ok (.iastore, 1) := by decide +kernel
theorem dX4_judges_141 : decode cX4_judges 141 = .ok (.iinc 5 1, 3) := by decide +kernel
theorem dX4_judges_144 : decode cX4_judges 144 = .ok (.goto (-29), 3) := by decide +kernel
theorem dX4_judges_147 : decode cX4_judges 147 = .ok (.aload_n 0, 1) := by decide +kernel
theorem dX4_judges_148 : decode cX4_judges 148 = .ok (.getfield 7, 3) := by decide +kernel
theorem dX4_judges_151 : decode cX4_judges 151 = .ok (.iload_n 1, 1) := by decide +kernel
theorem dX4_judges_152 : decode cX4_judges 152 = .ok (.iconst 4, 1) := by decide +kernel
theorem dX4_judges_153 : decode cX4_judges 153 = .ok (.invokestatic 26, 3) := by decide +kernel
theorem dX4_judges_156 : decode cX4_judges 156 = .ok (.iconst 0, 1) := by decide +kernel
theorem dX4_judges_157 : decode cX4_judges 157 = .ok (.iastore, 1) := by decide +kernel
theorem dX4_judges_158 : decode cX4_judges 158 = .ok (.return_, 1) := by decide +kernel
theorem dX4_rounds_0 : decode cX4_rounds 0 = .ok (.iconst 0, 1) := by decide +kernel
theorem dX4_rounds_1 : decode cX4_rounds 1 = .ok (.istore_n 1, 1) := by decide +kernel
theorem dX4_rounds_2 : decode cX4_rounds 2 = .ok (.iconst 0, 1) := by decide +kernel
theorem dX4_rounds_3 : decode cX4_rounds 3 = .ok (.istore_n 2, 1) := by decide +kernel
theorem dX4_rounds_4 : decode cX4_rounds 4 = .ok (.iload_n 2, 1) := by decide +kernel
theorem dX4_rounds_5 : decode cX4_rounds 5 = .ok (.bipush 30, 2) := by decide +kernel
theorem dX4_rounds_7 : decode cX4_rounds 7 = .ok (.if_icmp .ge 44, 3) := by decide +kernel
theorem dX4_rounds_10 : decode cX4_rounds 10 = .ok (.aload_n 0, 1) := by decide +kernel
theorem dX4_rounds_11 : decode cX4_rounds 11 = .ok (.iload_n 2, 1) := by decide +kernel
theorem dX4_rounds_12 : decode cX4_rounds 12 = .ok (.invokevirtual 55, 3) := by decide +kernel
theorem dX4_rounds_15 : decode cX4_rounds 15 = .ok (.ifCond .eq 30, 3) := by decide +kernel
theorem dX4_rounds_18 : decode cX4_rounds 18 = .ok (.aload_n 0, 1) := by decide +kernel
theorem dX4_rounds_19 : decode cX4_rounds 19 = .ok (.iload_n 2, 1) := by decide +kernel
theorem dX4_rounds_20 : decode cX4_rounds 20 = .ok (.invokevirtual 87, 3) := by decide +kernel
theorem dX4_rounds_23 : decode cX4_rounds 23 = .ok (.iload_n 1, 1) := by decide +kernel
theorem dX4_rounds_24 : decode cX4_rounds 24 = .ok (.aload_n 0, 1) := by decide +kernel
theorem dX4_rounds_25 : decode cX4_rounds 25 = .ok (.getfield 7, 3) := by decide +kernel
theorem dX4_rounds_28 : decode cX4_rounds 28 = .ok (.iload_n 2, 1) := by decide +kernel
theorem dX4_rounds_29 : decode cX4_rounds 29 = .ok (.iconst 0, 1) := by decide +kernel
theorem dX4_rounds_30 : decode cX4_rounds 30 = .ok (.invokestatic 26, 3) := by decide +kernel
theorem dX4_rounds_33 : decode cX4_rounds 33 = .ok (.iaload, 1) := by decide +kernel
theorem dX4_rounds_34 : decode cX4_rounds 34 = .ok (.iconst 1, 1) := by decide +kernel
theorem dX4_rounds_35 : decode cX4_rounds 35 = .ok (.if_icmp .ne 7, 3) := by decide +kernel
theorem dX4_rounds_38 : decode cX4_rounds 38 = .ok (.iconst 1, 1) := by decide +kernel
theorem dX4_rounds_39 : decode cX4_rounds 39 = .ok (.goto 4, 3) := by decide +kernel
theorem dX4_rounds_42 : decode cX4_rounds 42 = .ok (.iconst 0, 1) := by decide +kernel
theorem dX4_rounds_43 : decode cX4_rounds 43 = .ok (.iadd, 1) := by decide +kernel
theorem dX4_rounds_44 : decode cX4_rounds 44 = .ok (.istore_n 1, 1) := by decide +kernel
theorem dX4_rounds_45 : decode cX4_rounds 45 = .ok (.iinc 2 1, 3) := by decide +kernel
theorem dX4_rounds_48 : decode cX4_rounds 48 = .ok (.goto (-44), 3) := by decide +kernel
theorem dX4_rounds_51 : decode cX4_rounds 51 = .ok (.iconst 0, 1) := by decide +kernel
theorem dX4_rounds_52 : decode cX4_rounds 52 = .ok (.istore_n 2, 1) := by decide +kernel
theorem dX4_rounds_53 : decode cX4_rounds 53 = .ok (.iload_n 2, 1) := by decide +kernel
theorem dX4_rounds_54 : decode cX4_rounds 54 = .ok (.iconst 3, 1) := by decide +kernel
theorem dX4_rounds_55 : decode cX4_rounds 55 = .ok (.if_icmp .ge 44, 3) := by decide +kernel
theorem dX4_rounds_58 : decode cX4_rounds 58 = .ok (.aload_n 0, 1) := by decide +kernel
theorem dX4_rounds_59 : decode cX4_rounds 59 = .ok (.getfield 7, 3) := by decide +kernel
theorem dX4_rounds_62 : decode cX4_rounds 62 = .ok (.iload_n 2, 1) := by decide +kernel
theorem dX4_rounds_63 : decode cX4_rounds 63 = .ok (.iconst 0, 1) := by decide +kernel
theorem dX4_rounds_64 : decode cX4_rounds 64 = .ok (.invokestatic 30, 3) := by decide +kernel
theorem dX4_rounds_67 : decode cX4_rounds 67 = .ok (.iaload, 1) := by decide +kernel
theorem dX4_rounds_68 : decode cX4_rounds 68 = .ok (.iconst 2, 1) := by decide +kernel
theorem dX4_rounds_69 : decode cX4_rounds 69 = .ok (.iadd, 1) := by decide +kernel
theorem dX4_rounds_70 : decode cX4_rounds 70 = .ok (.istore_n 3, 1) := by decide +kernel
theorem dX4_rounds_71 : decode cX4_rounds 71 = .ok (.aload_n 0, 1) := by decide +kernel
theorem dX4_rounds_72 : decode cX4_rounds 72 = .ok (.getfield 7, 3) := by decide +kernel
theorem dX4_rounds_75 : decode cX4_rounds 75 = .ok (.iload_n 2, 1) := by decide +kernel
theorem dX4_rounds_76 : decode cX4_rounds 76 = .ok (.iconst 0, 1) := by decide +kernel
theorem dX4_rounds_77 : decode cX4_rounds 77 = .ok (.invokestatic 30, 3) := by decide +kernel
theorem dX4_rounds_80 : decode cX4_rounds 80 = .ok (.iload_n 3, 1) := by decide +kernel
theorem dX4_rounds_81 : decode cX4_rounds 81 = .ok (.bipush 20, 2) := by decide +kernel
theorem dX4_rounds_83 : decode cX4_rounds 83 = .ok (.if_icmp .le 8, 3) := by decide +kernel
theorem dX4_rounds_86 : decode cX4_rounds 86 = .ok (.bipush 20, 2) := by decide +kernel
theorem dX4_rounds_88 : decode cX4_rounds 88 = .ok (.goto 4, 3) := by decide +kernel
theorem dX4_rounds_91 : decode cX4_rounds 91 = .ok (.iload_n 3, 1) := by decide +kernel
theorem dX4_rounds_92 : decode cX4_rounds 92 = .ok (.iastore, 1) := by decide +kernel
theorem dX4_rounds_93 : decode cX4_rounds 93 = .ok (.iinc 2 1, 3) := by decide +kernel
theorem dX4_rounds_96 : decode cX4_rounds 96 = .ok (.goto (-43), 3) := by decide +kernel
theorem dX4_rounds_99 : decode cX4_rounds 99 = .ok (.aload_n 0, 1) := by decide +kernel
theorem dX4_rounds_100 : decode cX4_rounds 100 = .ok (.getfield 7, 3) := by decide +kernel
theorem dX4_rounds_103 : decode cX4_rounds 103 = .ok (.sipush 166, 3) := by decide +kernel
theorem dX4_rounds_106 : decode cX4_rounds 106 = .ok (.dup2, 1) := by decide +kernel
theorem dX4_rounds_107 : decode cX4_rounds 107 = .ok (.iaload, 1) := by decide +kernel
theorem dX4_rounds_108 : decode cX4_rounds 108 = .ok (.iconst 1, 1) := by decide +kernel
theorem dX4_rounds_109 : decode cX4_rounds 109 = .ok (.iadd, 1) := by decide +kernel
theorem dX4_rounds_110 : decode cX4_rounds 110 = .ok (.iastore, 1) := by decide +kernel
theorem dX4_rounds_111 : decode cX4_rounds 111 = .ok (.iload_n 1, 1) := by decide +kernel
theorem dX4_rounds_112 : decode cX4_rounds 112 = .ok (.ireturn, 1) := by decide +kernel
theorem dX4_round_0 : decode cX4_round 0 = .ok (.aload_n 0, 1) := by decide +kernel
theorem dX4_round_1 : decode cX4_round 1 = .ok (.getfield 7, 3) := by decide +kernel
theorem dX4_round_4 : decode cX4_round 4 = .ok (.sipush 166, 3) := by decide +kernel
theorem dX4_round_7 : decode cX4_round 7 = .ok (.iaload, 1) := by decide +kernel
theorem dX4_round_8 : decode cX4_round 8 = .ok (.bipush 99, 2) := by decide +kernel
theorem dX4_round_10 : decode cX4_round 10 = .ok (.if_icmp .ne 6, 3) := by decide +kernel
theorem dX4_round_13 : decode cX4_round 13 = .ok (.bipush (-5), 2) := by decide +kernel
theorem dX4_round_15 : decode cX4_round 15 = .ok (.ireturn, 1) := by decide +kernel
theorem dX4_round_16 : decode cX4_round 16 = .ok (.aload_n 0, 1) := by decide +kernel
theorem dX4_round_17 : decode cX4_round 17 = .ok (.invokevirtual 65, 3) := by decide +kernel
theorem dX4_round_20 : decode cX4_round 20 = .ok (.aload_n 0, 1) := by decide +kernel
theorem dX4_round_21 : decode cX4_round 21 = .ok (.invokevirtual 91, 3) := by decide +kernel
theorem dX4_round_24 : decode cX4_round 24 = .ok (.ireturn, 1) := by decide +kernel
theorem dX4_paperOf_0 : decode cX4_paperOf 0 = .ok (.bipush 10, 2) := by decide +kernel
theorem dX4_paperOf_2 : decode cX4_paperOf 2 = .ok (.iload_n 0, 1) := by decide +kernel
theorem dX4_paperOf_3 : decode cX4_paperOf 3 = .ok (.imul, 1) := by decide +kernel
theorem dX4_paperOf_4 : decode cX4_paperOf 4 = .ok (.iload_n 0, 1) := by decide +kernel
theorem dX4_paperOf_5 : decode cX4_paperOf 5 = .ok (.imul, 1) := by decide +kernel
theorem dX4_paperOf_6 : decode cX4_paperOf 6 = .ok (.ireturn, 1) := by decide +kernel
theorem dX4_whyNotPrint_0 : decode cX4_whyNotPrint 0 = .ok (.iload_n 1, 1) := by decide +kernel
theorem dX4_whyNotPrint_1 : decode cX4_whyNotPrint 1 = .ok (.invokestatic 52, 3) := by decide +kernel
theorem dX4_whyNotPrint_4 : decode cX4_whyNotPrint 4 = .ok (.ifCond .ne 5, 3) := by decide +kernel
theorem dX4_whyNotPrint_7 : decode cX4_whyNotPrint 7 = .ok (.iconst (-1), 1) := by decide +kernel
theorem dX4_whyNotPrint_8 : decode cX4_whyNotPrint 8 = .ok (.ireturn, 1) := by decide +kernel
theorem dX4_whyNotPrint_9 : decode cX4_whyNotPrint 9 = .ok (.iload_n 2, 1) := by decide +kernel
theorem dX4_whyNotPrint_10 : decode cX4_whyNotPrint 10 = .ok (.iconst 1, 1) := by decide +kernel
theorem dX4_whyNotPrint_11 : decode cX4_whyNotPrint 11 = .ok (.iconst 3, 1) := by decide +kernel
theorem dX4_whyNotPrint_12 : decode cX4_whyNotPrint 12 = .ok (.invokestatic 33, 3) := by decide +kernel
theorem dX4_whyNotPrint_15 : decode cX4_whyNotPrint 15 = .ok (.ifCond .ne 6, 3) := by decide +kernel
theorem dX4_whyNotPrint_18 : decode cX4_whyNotPrint 18 = .ok (.bipush (-2), 2) := by decide +kernel
theorem dX4_whyNotPrint_20 : decode cX4_whyNotPrint 20 = .ok (.ireturn, 1) := by decide +kernel
theorem dX4_whyNotPrint_21 : decode cX4_whyNotPrint 21 = .ok (.aload_n 0, 1) := by decide +kernel
theorem dX4_whyNotPrint_22 : decode cX4_whyNotPrint 22 = .ok (.getfield 7, 3) := by decide +kernel
theorem dX4_whyNotPrint_25 : decode cX4_whyNotPrint 25 = .ok (.iload_n 1, 1) := by decide +kernel
theorem dX4_whyNotPrint_26 : decode cX4_whyNotPrint 26 = .ok (.iconst 0, 1) := by decide +kernel
theorem dX4_whyNotPrint_27 : decode cX4_whyNotPrint 27 = .ok (.invokestatic 26, 3) := by decide +kernel
theorem dX4_whyNotPrint_30 : decode cX4_whyNotPrint 30 = .ok (.iaload, 1) := by decide +kernel
theorem dX4_whyNotPrint_31 : decode cX4_whyNotPrint 31 = .ok (.iconst 1, 1) := by decide +kernel
theorem dX4_whyNotPrint_32 : decode cX4_whyNotPrint 32 = .ok (.if_icmp .ne 36, 3) := by decide +kernel
theorem dX4_whyNotPrint_35 : decode cX4_whyNotPrint 35 = .ok (.iload_n 2, 1) := by decide +kernel
theorem dX4_whyNotPrint_36 : decode cX4_whyNotPrint 36 = .ok (.aload_n 0, 1) := by decide +kernel
theorem dX4_whyNotPrint_37 : decode cX4_whyNotPrint 37 = .ok (.getfield 7, 3) := by decide +kernel
theorem dX4_whyNotPrint_40 : decode cX4_whyNotPrint 40 = .ok (.iload_n 1, 1) := by decide +kernel
theorem dX4_whyNotPrint_41 : decode cX4_whyNotPrint 41 = .ok (.iconst 2, 1) := by decide +kernel
theorem dX4_whyNotPrint_42 : decode cX4_whyNotPrint 42 = .ok (.invokestatic 26, 3) := by decide +kernel
theorem dX4_whyNotPrint_45 : decode cX4_whyNotPrint 45 = .ok (.iaload, 1) := by decide +kernel
theorem dX4_whyNotPrint_46 : decode cX4_whyNotPrint 46 = .ok (.if_icmp .gt 22, 3) := by decide +kernel
theorem dX4_whyNotPrint_49 : decode cX4_whyNotPrint 49 = .ok (.iload_n 2, 1) := by decide +kernel
theorem dX4_whyNotPrint_50 : decode cX4_whyNotPrint 50 = .ok (.invokestatic 95, 3) := by decide +kernel
theorem dX4_whyNotPrint_53 : decode cX4_whyNotPrint 53 = .ok (.aload_n 0, 1) := by decide +kernel
theorem dX4_whyNotPrint_54 : decode cX4_whyNotPrint 54 = .ok (.getfield 7, 3) := by decide +kernel
theorem dX4_whyNotPrint_57 : decode cX4_whyNotPrint 57 = .ok (.sipush 167, 3) := by decide +kernel
theorem dX4_whyNotPrint_60 : decode cX4_whyNotPrint 60 = .ok (.iaload, 1) := by decide +kernel
theorem dX4_whyNotPrint_61 : decode cX4_whyNotPrint 61 = .ok (.if_icmp .gt 7, 3) := by decide +kernel
theorem dX4_whyNotPrint_64 : decode cX4_whyNotPrint 64 = .ok (.iconst 1, 1) := by decide +kernel
theorem dX4_whyNotPrint_65 : decode cX4_whyNotPrint 65 = .ok (.goto 4, 3) := by decide +kernel
theorem dX4_whyNotPrint_68 : decode cX4_whyNotPrint 68 = .ok (.iconst 0, 1) := by decide +kernel
theorem dX4_whyNotPrint_69 : decode cX4_whyNotPrint 69 = .ok (.istore_n 3, 1) := by decide +kernel
theorem dX4_whyNotPrint_70 : decode cX4_whyNotPrint 70 = .ok (.iload_n 3, 1) := by decide +kernel
theorem dX4_whyNotPrint_71 : decode cX4_whyNotPrint 71 = .ok (.ifCond .eq 7, 3) := by decide +kernel
theorem dX4_whyNotPrint_74 : decode cX4_whyNotPrint 74 = .ok (.iconst 0, 1) := by decide +kernel
theorem dX4_whyNotPrint_75 : decode cX4_whyNotPrint 75 = .ok (.goto 5, 3) := by decide +kernel
theorem dX4_whyNotPrint_78 : decode cX4_whyNotPrint 78 = .ok (.bipush (-5), 2) := by decide +kernel
theorem dX4_whyNotPrint_80 : decode cX4_whyNotPrint 80 = .ok (.ireturn, 1) := by decide +kernel
theorem dX4_prints_0 : decode cX4_prints 0 = .ok (.aload_n 0, 1) := by decide +kernel
theorem dX4_prints_1 : decode cX4_prints 1 = .ok (.getfield 7, 3) := by decide +kernel
theorem dX4_prints_4 : decode cX4_prints 4 = .ok (.iload_n 1, 1) := by decide +kernel
theorem dX4_prints_5 : decode cX4_prints 5 = .ok (.iconst 0, 1) := by decide +kernel
theorem dX4_prints_6 : decode cX4_prints 6 = .ok (.invokestatic 26, 3) := by decide +kernel
theorem dX4_prints_9 : decode cX4_prints 9 = .ok (.iconst 3, 1) := by decide +kernel
theorem dX4_prints_10 : decode cX4_prints 10 = .ok (.iastore, 1) := by decide +kernel
theorem dX4_prints_11 : decode cX4_prints 11 = .ok (.aload_n 0, 1) := by decide +kernel
theorem dX4_prints_12 : decode cX4_prints 12 = .ok (.getfield 7, 3) := by decide +kernel
theorem dX4_prints_15 : decode cX4_prints 15 = .ok (.iload_n 1, 1) := by decide +kernel
theorem dX4_prints_16 : decode cX4_prints 16 = .ok (.iconst 2, 1) := by decide +kernel
theorem dX4_prints_17 : decode cX4_prints 17 = .ok (.invokestatic 26, 3) := by decide +kernel
theorem dX4_prints_20 : decode cX4_prints 20 = .ok (.iload_n 2, 1) := by decide +kernel
theorem dX4_prints_21 : decode cX4_prints 21 = .ok (.iastore, 1) := by decide +kernel
theorem dX4_prints_22 : decode cX4_prints 22 = .ok (.aload_n 0, 1) := by decide +kernel
theorem dX4_prints_23 : decode cX4_prints 23 = .ok (.getfield 7, 3) := by decide +kernel
theorem dX4_prints_26 : decode cX4_prints 26 = .ok (.sipush 167, 3) := by decide +kernel
theorem dX4_prints_29 : decode cX4_prints 29 = .ok (.dup2, 1) := by decide +kernel
theorem dX4_prints_30 : decode cX4_prints 30 = .ok (.iaload, 1) := by decide +kernel
theorem dX4_prints_31 : decode cX4_prints 31 = .ok (.iload_n 2, 1) := by decide +kernel
theorem dX4_prints_32 : decode cX4_prints 32 = .ok (.invokestatic 95, 3) := by decide +kernel
theorem dX4_prints_35 : decode cX4_prints 35 = .ok (.isub, 1) := by decide +kernel
theorem dX4_prints_36 : decode cX4_prints 36 = .ok (.iastore, 1) := by decide +kernel
theorem dX4_prints_37 : decode cX4_prints 37 = .ok (.aload_n 0, 1) := by decide +kernel
theorem dX4_prints_38 : decode cX4_prints 38 = .ok (.getfield 7, 3) := by decide +kernel
theorem dX4_prints_41 : decode cX4_prints 41 = .ok (.sipush 168, 3) := by decide +kernel
theorem dX4_prints_44 : decode cX4_prints 44 = .ok (.dup2, 1) := by decide +kernel
theorem dX4_prints_45 : decode cX4_prints 45 = .ok (.iaload, 1) := by decide +kernel
theorem dX4_prints_46 : decode cX4_prints 46 = .ok (.iload_n 2, 1) := by decide +kernel
theorem dX4_prints_47 : decode cX4_prints 47 = .ok (.invokestatic 95, 3) := by decide +kernel
theorem dX4_prints_50 : decode cX4_prints 50 = .ok (.iadd, 1) := by decide +kernel
theorem dX4_prints_51 : decode cX4_prints 51 = .ok (.iastore, 1) := by decide +kernel
theorem dX4_prints_52 : decode cX4_prints 52 = .ok (.aload_n 0, 1) := by decide +kernel
theorem dX4_prints_53 : decode cX4_prints 53 = .ok (.getfield 7, 3) := by decide +kernel
theorem dX4_prints_56 : decode cX4_prints 56 = .ok (.sipush 169, 3) := by decide +kernel
theorem dX4_prints_59 : decode cX4_prints 59 = .ok (.iload_n 2, 1) := by decide +kernel
theorem dX4_prints_60 : decode cX4_prints 60 = .ok (.iadd, 1) := by decide +kernel
theorem dX4_prints_61 : decode cX4_prints 61 = .ok (.iconst 1, 1) := by decide +kernel
theorem dX4_prints_62 : decode cX4_prints 62 = .ok (.isub, 1) := by decide +kernel
theorem dX4_prints_63 : decode cX4_prints 63 = .ok (.dup2, 1) := by decide +kernel
theorem dX4_prints_64 : decode cX4_prints 64 = .ok (.iaload, 1) := by decide +kernel
theorem dX4_prints_65 : decode cX4_prints 65 = .ok (.iconst 1, 1) := by decide +kernel
theorem dX4_prints_66 : decode cX4_prints 66 = .ok (.iadd, 1) := by decide +kernel
theorem dX4_prints_67 : decode cX4_prints 67 = .ok (.iastore, 1) := by decide +kernel
theorem dX4_prints_68 : decode cX4_prints 68 = .ok (.aload_n 0, 1) := by decide +kernel
theorem dX4_prints_69 : decode cX4_prints 69 = .ok (.getfield 7, 3) := by decide +kernel
theorem dX4_prints_72 : decode cX4_prints 72 = .ok (.sipush 167, 3) := by decide +kernel
theorem dX4_prints_75 : decode cX4_prints 75 = .ok (.iaload, 1) := by decide +kernel
theorem dX4_prints_76 : decode cX4_prints 76 = .ok (.ireturn, 1) := by decide +kernel
theorem dX4_print_0 : decode cX4_print 0 = .ok (.aload_n 0, 1) := by decide +kernel
theorem dX4_print_1 : decode cX4_print 1 = .ok (.iload_n 1, 1) := by decide +kernel
theorem dX4_print_2 : decode cX4_print 2 = .ok (.iload_n 2, 1) := by decide +kernel
theorem dX4_print_3 : decode cX4_print 3 = .ok (.invokevirtual 98, 3) := by decide +kernel
theorem dX4_print_6 : decode cX4_print 6 = .ok (.istore_n 3, 1) := by decide +kernel
theorem dX4_print_7 : decode cX4_print 7 = .ok (.iload_n 3, 1) := by decide +kernel
theorem dX4_print_8 : decode cX4_print 8 = .ok (.ifCond .ge 5, 3) := by decide +kernel
theorem dX4_print_11 : decode cX4_print 11 = .ok (.iload_n 3, 1) := by decide +kernel
theorem dX4_print_12 : decode cX4_print 12 = .ok (.ireturn, 1) := by decide +kernel
theorem dX4_print_13 : decode cX4_print 13 = .ok (.aload_n 0, 1) := by decide +kernel
theorem dX4_print_14 : decode cX4_print 14 = .ok (.invokevirtual 65, 3) := by decide +kernel
theorem dX4_print_17 : decode cX4_print 17 = .ok (.aload_n 0, 1) := by decide +kernel
theorem dX4_print_18 : decode cX4_print 18 = .ok (.iload_n 1, 1) := by decide +kernel
theorem dX4_print_19 : decode cX4_print 19 = .ok (.iload_n 2, 1) := by decide +kernel
theorem dX4_print_20 : decode cX4_print 20 = .ok (.invokevirtual 101, 3) := by decide +kernel
theorem dX4_print_23 : decode cX4_print 23 = .ok (.ireturn, 1) := by decide +kernel
theorem dX4_buys_0 : decode cX4_buys 0 = .ok (.aload_n 0, 1) := by decide +kernel
theorem dX4_buys_1 : decode cX4_buys 1 = .ok (.getfield 7, 3) := by decide +kernel
theorem dX4_buys_4 : decode cX4_buys 4 = .ok (.sipush 167, 3) := by decide +kernel
theorem dX4_buys_7 : decode cX4_buys 7 = .ok (.aload_n 0, 1) := by decide +kernel
theorem dX4_buys_8 : decode cX4_buys 8 = .ok (.getfield 7, 3) := by decide +kernel
theorem dX4_buys_11 : decode cX4_buys 11 = .ok (.sipush 167, 3) := by decide +kernel
theorem dX4_buys_14 : decode cX4_buys 14 = .ok (.iaload, 1) := by decide +kernel
theorem dX4_buys_15 : decode cX4_buys 15 = .ok (.iload_n 1, 1) := by decide +kernel
theorem dX4_buys_16 : decode cX4_buys 16 = .ok (.iadd, 1) := by decide +kernel
theorem dX4_buys_17 : decode cX4_buys 17 = .ok (.sipush 999, 3) := by decide +kernel
theorem dX4_buys_20 : decode cX4_buys 20 = .ok (.if_icmp .le 9, 3) := by decide +kernel
theorem dX4_buys_23 : decode cX4_buys 23 = .ok (.sipush 999, 3) := by decide +kernel
theorem dX4_buys_26 : decode cX4_buys 26 = .ok (.goto 13, 3) := by decide +kernel
theorem dX4_buys_29 : decode cX4_buys 29 = .ok (.aload_n 0, 1) := by decide +kernel
theorem dX4_buys_30 : decode cX4_buys 30 = .ok (.getfield 7, 3) := by decide +kernel
theorem dX4_buys_33 : decode cX4_buys 33 = .ok (.sipush 167, 3) := by decide +kernel
theorem dX4_buys_36 : decode cX4_buys 36 = .ok (.iaload, 1) := by decide +kernel
theorem dX4_buys_37 : decode cX4_buys 37 = .ok (.iload_n 1, 1) := by decide +kernel
theorem dX4_buys_38 : decode cX4_buys 38 = .ok (.iadd, 1) := by decide +kernel
theorem dX4_buys_39 : decode cX4_buys 39 = .ok (.iastore, 1) := by decide +kernel
theorem dX4_buys_40 : decode cX4_buys 40 = .ok (.aload_n 0, 1) := by decide +kernel
theorem dX4_buys_41 : decode cX4_buys 41 = .ok (.getfield 7, 3) := by decide +kernel
theorem dX4_buys_44 : decode cX4_buys 44 = .ok (.sipush 167, 3) := by decide +kernel
theorem dX4_buys_47 : decode cX4_buys 47 = .ok (.iaload, 1) := by decide +kernel
theorem dX4_buys_48 : decode cX4_buys 48 = .ok (.ireturn, 1) := by decide +kernel
theorem dX4_buy_0 : decode cX4_buy 0 = .ok (.iload_n 1, 1) := by decide +kernel
theorem dX4_buy_1 : decode cX4_buy 1 = .ok (.iconst 1, 1) := by decide +kernel
theorem dX4_buy_2 : decode cX4_buy 2 = .ok (.bipush 99, 2) := by decide +kernel
theorem dX4_buy_4 : decode cX4_buy 4 = .ok (.invokestatic 33, 3) := by decide +kernel
theorem dX4_buy_7 : decode cX4_buy 7 = .ok (.ifCond .ne 6, 3) := by decide +kernel
theorem dX4_buy_10 : decode cX4_buy 10 = .ok (.bipush (-2), 2) := by decide +kernel
theorem dX4_buy_12 : decode cX4_buy 12 = .ok (.ireturn, 1) := by decide +kernel
theorem dX4_buy_13 : decode cX4_buy 13 = .ok (.aload_n 0, 1) := by decide +kernel
theorem dX4_buy_14 : decode cX4_buy 14 = .ok (.invokevirtual 65, 3) := by decide +kernel
theorem dX4_buy_17 : decode cX4_buy 17 = .ok (.aload_n 0, 1) := by decide +kernel
theorem dX4_buy_18 : decode cX4_buy 18 = .ok (.iload_n 1, 1) := by decide +kernel
theorem dX4_buy_19 : decode cX4_buy 19 = .ok (.invokevirtual 104, 3) := by decide +kernel
theorem dX4_buy_22 : decode cX4_buy 22 = .ok (.ireturn, 1) := by decide +kernel
theorem dX4_reopen_0 : decode cX4_reopen 0 = .ok (.iload_n 1, 1) := by decide +kernel
theorem dX4_reopen_1 : decode cX4_reopen 1 = .ok (.invokestatic 52, 3) := by decide +kernel
theorem dX4_reopen_4 : decode cX4_reopen 4 = .ok (.ifCond .ne 5, 3) := by decide +kernel
theorem dX4_reopen_7 : decode cX4_reopen 7 = .ok (.iconst (-1), 1) := by decide +kernel
theorem dX4_reopen_8 : decode cX4_reopen 8 = .ok (.ireturn, 1) := by decide +kernel
theorem dX4_reopen_9 : decode cX4_reopen 9 = .ok (.aload_n 0, 1) := by decide +kernel
theorem dX4_reopen_10 : decode cX4_reopen 10 = .ok (.getfield 7, 3) := by decide +kernel
theorem dX4_reopen_13 : decode cX4_reopen 13 = .ok (.iload_n 1, 1) := by decide +kernel
theorem dX4_reopen_14 : decode cX4_reopen 14 = .ok (.iconst 0, 1) := by decide +kernel
theorem dX4_reopen_15 : decode cX4_reopen 15 = .ok (.invokestatic 26, 3) := by decide +kernel
theorem dX4_reopen_18 : decode cX4_reopen 18 = .ok (.iaload, 1) := by decide +kernel
theorem dX4_reopen_19 : decode cX4_reopen 19 = .ok (.istore_n 2, 1) := by decide +kernel
theorem dX4_reopen_20 : decode cX4_reopen 20 = .ok (.iload_n 2, 1) := by decide +kernel
theorem dX4_reopen_21 : decode cX4_reopen 21 = .ok (.ifCond .eq 8, 3) := by decide +kernel
theorem dX4_reopen_24 : decode cX4_reopen 24 = .ok (.iload_n 2, 1) := by decide +kernel
theorem dX4_reopen_25 : decode cX4_reopen 25 = .ok (.iconst 3, 1) := by decide +kernel
theorem dX4_reopen_26 : decode cX4_reopen 26 = .ok (.if_icmp .ne 6, 3) := by decide +kernel
theorem dX4_reopen_29 : decode cX4_reopen 29 = .ok (.bipush (-5), 2) := by decide +kernel
theorem dX4_reopen_31 : decode cX4_reopen 31 = .ok (.ireturn, 1) := by decide +kernel
theorem dX4_reopen_32 : decode cX4_reopen 32 = .ok (.aload_n 0, 1) := by decide +kernel
theorem dX4_reopen_33 : decode cX4_reopen 33 = .ok (.invokevirtual 65, 3) := by decide +kernel
theorem dX4_reopen_36 : decode cX4_reopen 36 = .ok (.aload_n 0, 1) := by decide +kernel
theorem dX4_reopen_37 : decode cX4_reopen 37 = .ok (.getfield 7, 3) := by decide +kernel
theorem dX4_reopen_40 : decode cX4_reopen 40 = .ok (.iload_n 1, 1) := by decide +kernel
theorem dX4_reopen_41 : decode cX4_reopen 41 = .ok (.iconst 0, 1) := by decide +kernel
theorem dX4_reopen_42 : decode cX4_reopen 42 = .ok (.invokestatic 26, 3) := by decide +kernel
theorem dX4_reopen_45 : decode cX4_reopen 45 = .ok (.iconst 0, 1) := by decide +kernel
theorem dX4_reopen_46 : decode cX4_reopen 46 = .ok (.iastore, 1) := by decide +kernel
theorem dX4_reopen_47 : decode cX4_reopen 47 = .ok (.aload_n 0, 1) := by decide +kernel
theorem dX4_reopen_48 : decode cX4_reopen 48 = .ok (.getfield 7, 3) := by decide +kernel
theorem dX4_reopen_51 : decode cX4_reopen 51 = .ok (.iload_n 1, 1) := by decide +kernel
theorem dX4_reopen_52 : decode cX4_reopen 52 = .ok (.iconst 1, 1) := by decide +kernel
theorem dX4_reopen_53 : decode cX4_reopen 53 = .ok (.invokestatic 26, 3) := by decide +kernel
theorem dX4_reopen_56 : decode cX4_reopen 56 = .ok (.iconst 0, 1) := by decide +kernel
theorem dX4_reopen_57 : decode cX4_reopen 57 = .ok (.iastore, 1) := by decide +kernel
theorem dX4_reopen_58 : decode cX4_reopen 58 = .ok (.aload_n 0, 1) := by decide +kernel
theorem dX4_reopen_59 : decode cX4_reopen 59 = .ok (.getfield 7, 3) := by decide +kernel
theorem dX4_reopen_62 : decode cX4_reopen 62 = .ok (.iload_n 1, 1) := by decide +kernel
theorem dX4_reopen_63 : decode cX4_reopen 63 = .ok (.iconst 2, 1) := by decide +kernel
theorem dX4_reopen_64 : decode cX4_reopen 64 = .ok (.invokestatic 26, 3) := by decide +kernel
theorem dX4_reopen_67 : decode cX4_reopen 67 = .ok (.iconst 0, 1) := by decide +kernel
theorem dX4_reopen_68 : decode cX4_reopen 68 = .ok (.iastore, 1) := by decide +kernel
theorem dX4_reopen_69 : decode cX4_reopen 69 = .ok (.aload_n 0, 1) := by decide +kernel
theorem dX4_reopen_70 : decode cX4_reopen 70 = .ok (.getfield 7, 3) := by decide +kernel
theorem dX4_reopen_73 : decode cX4_reopen 73 = .ok (.iload_n 1, 1) := by decide +kernel
theorem dX4_reopen_74 : decode cX4_reopen 74 = .ok (.iconst 4, 1) := by decide +kernel
theorem dX4_reopen_75 : decode cX4_reopen 75 = .ok (.invokestatic 26, 3) := by decide +kernel
theorem dX4_reopen_78 : decode cX4_reopen 78 = .ok (.iconst 0, 1) := by decide +kernel
theorem dX4_reopen_79 : decode cX4_reopen 79 = .ok (.iastore, 1) := by decide +kernel
theorem dX4_reopen_80 : decode cX4_reopen 80 = .ok (.iload_n 2, 1) := by decide +kernel
theorem dX4_reopen_81 : decode cX4_reopen 81 = .ok (.ireturn, 1) := by decide +kernel
theorem dX4_canSet_0 : decode cX4_canSet 0 = .ok (.iload_n 0, 1) := by decide +kernel
theorem dX4_canSet_1 : decode cX4_canSet 1 = .ok (.tableswitch 50 0 2 #[27, 34, 42], 27) := by decide +kernel
theorem dX4_canSet_28 : decode cX4_canSet 28 = .ok (.iload_n 1, 1) := by decide +kernel
theorem dX4_canSet_29 : decode cX4_canSet 29 = .ok (.iconst 1, 1) := by decide +kernel
theorem dX4_canSet_30 : decode cX4_canSet 30 = .ok (.iconst 3, 1) := by decide +kernel
theorem dX4_canSet_31 : decode cX4_canSet 31 = .ok (.invokestatic 33, 3) := by decide +kernel
theorem dX4_canSet_34 : decode cX4_canSet 34 = .ok (.ireturn, 1) := by decide +kernel
theorem dX4_canSet_35 : decode cX4_canSet 35 = .ok (.iload_n 1, 1) := by decide +kernel
theorem dX4_canSet_36 : decode cX4_canSet 36 = .ok (.iconst 0, 1) := by decide +kernel
theorem dX4_canSet_37 : decode cX4_canSet 37 = .ok (.bipush 9, 2) := by decide +kernel
theorem dX4_canSet_39 : decode cX4_canSet 39 = .ok (.invokestatic 33, 3) := by decide +kernel
theorem dX4_canSet_42 : decode cX4_canSet 42 = .ok (.ireturn, 1) := by decide +kernel
theorem dX4_canSet_43 : decode cX4_canSet 43 = .ok (.iload_n 1, 1) := by decide +kernel
theorem dX4_canSet_44 : decode cX4_canSet 44 = .ok (.iconst 1, 1) := by decide +kernel
theorem dX4_canSet_45 : decode cX4_canSet 45 = .ok (.bipush 9, 2) := by decide +kernel
theorem dX4_canSet_47 : decode cX4_canSet 47 = .ok (.invokestatic 33, 3) := by decide +kernel
theorem dX4_canSet_50 : decode cX4_canSet 50 = .ok (.ireturn, 1) := by decide +kernel
theorem dX4_canSet_51 : decode cX4_canSet 51 = .ok (.iload_n 0, 1) := by decide +kernel
theorem dX4_canSet_52 : decode cX4_canSet 52 = .ok (.iconst 3, 1) := by decide +kernel
theorem dX4_canSet_53 : decode cX4_canSet 53 = .ok (.if_icmp .ne 16, 3) := by decide +kernel
theorem dX4_canSet_56 : decode cX4_canSet 56 = .ok (.iload_n 1, 1) := by decide +kernel
theorem dX4_canSet_57 : decode cX4_canSet 57 = .ok (.iconst 1, 1) := by decide +kernel
theorem dX4_canSet_58 : decode cX4_canSet 58 = .ok (.iconst 5, 1) := by decide +kernel
theorem dX4_canSet_59 : decode cX4_canSet 59 = .ok (.invokestatic 33, 3) := by decide +kernel
theorem dX4_canSet_62 : decode cX4_canSet 62 = .ok (.ifCond .eq 7, 3) := by decide +kernel
theorem dX4_canSet_65 : decode cX4_canSet 65 = .ok (.iconst 1, 1) := by decide +kernel
theorem dX4_canSet_66 : decode cX4_canSet 66 = .ok (.goto 4, 3) := by decide +kernel
theorem dX4_canSet_69 : decode cX4_canSet 69 = .ok (.iconst 0, 1) := by decide +kernel
theorem dX4_canSet_70 : decode cX4_canSet 70 = .ok (.ireturn, 1) := by decide +kernel
theorem dX4_set_0 : decode cX4_set 0 = .ok (.iload_n 1, 1) := by decide +kernel
theorem dX4_set_1 : decode cX4_set 1 = .ok (.iload_n 2, 1) := by decide +kernel
theorem dX4_set_2 : decode cX4_set 2 = .ok (.invokestatic 107, 3) := by decide +kernel
theorem dX4_set_5 : decode cX4_set 5 = .ok (.ifCond .ne 6, 3) := by decide +kernel
theorem dX4_set_8 : decode cX4_set 8 = .ok (.bipush (-2), 2) := by decide +kernel
theorem dX4_set_10 : decode cX4_set 10 = .ok (.ireturn, 1) := by decide +kernel
theorem dX4_set_11 : decode cX4_set 11 = .ok (.aload_n 0, 1) := by decide +kernel
theorem dX4_set_12 : decode cX4_set 12 = .ok (.invokevirtual 65, 3) := by decide +kernel
theorem dX4_set_15 : decode cX4_set 15 = .ok (.aload_n 0, 1) := by decide +kernel
theorem dX4_set_16 : decode cX4_set 16 = .ok (.getfield 7, 3) := by decide +kernel
theorem dX4_set_19 : decode cX4_set 19 = .ok (.sipush 162, 3) := by decide +kernel
theorem dX4_set_22 : decode cX4_set 22 = .ok (.iload_n 1, 1) := by decide +kernel
theorem dX4_set_23 : decode cX4_set 23 = .ok (.iadd, 1) := by decide +kernel
theorem dX4_set_24 : decode cX4_set 24 = .ok (.iaload, 1) := by decide +kernel
theorem dX4_set_25 : decode cX4_set 25 = .ok (.istore_n 3, 1) := by decide +kernel
theorem dX4_set_26 : decode cX4_set 26 = .ok (.aload_n 0, 1) := by decide +kernel
theorem dX4_set_27 : decode cX4_set 27 = .ok (.getfield 7, 3) := by decide +kernel
theorem dX4_set_30 : decode cX4_set 30 = .ok (.sipush 162, 3) := by decide +kernel
theorem dX4_set_33 : decode cX4_set 33 = .ok (.iload_n 1, 1) := by decide +kernel
theorem dX4_set_34 : decode cX4_set 34 = .ok (.iadd, 1) := by decide +kernel
theorem dX4_set_35 : decode cX4_set 35 = .ok (.iload_n 2, 1) := by decide +kernel
theorem dX4_set_36 : decode cX4_set 36 = .ok (.iastore, 1) := by decide +kernel
theorem dX4_set_37 : decode cX4_set 37 = .ok (.iload_n 3, 1) := by decide +kernel
theorem dX4_set_38 : decode cX4_set 38 = .ok (.ireturn, 1) := by decide +kernel
theorem dX4_of_0 : decode cX4_of 0 = .ok (.iload_n 1, 1) := by decide +kernel
theorem dX4_of_1 : decode cX4_of 1 = .ok (.invokestatic 52, 3) := by decide +kernel
theorem dX4_of_4 : decode cX4_of 4 = .ok (.ifCond .ne 5, 3) := by decide +kernel
theorem dX4_of_7 : decode cX4_of 7 = .ok (.iconst (-1), 1) := by decide +kernel
theorem dX4_of_8 : decode cX4_of 8 = .ok (.ireturn, 1) := by decide +kernel
theorem dX4_of_9 : decode cX4_of 9 = .ok (.iload_n 2, 1) := by decide +kernel
theorem dX4_of_10 : decode cX4_of 10 = .ok (.tableswitch 107 0 5 #[38, 49, 49, 56, 67, 78], 38) := by decide +kernel
theorem dX4_of_48 : decode cX4_of 48 = .ok (.aload_n 0, 1) := by decide +kernel
theorem dX4_of_49 : decode cX4_of 49 = .ok (.getfield 7, 3) := by decide +kernel
theorem dX4_of_52 : decode cX4_of 52 = .ok (.iload_n 1, 1) := by decide +kernel
theorem dX4_of_53 : decode cX4_of 53 = .ok (.iconst 0, 1) := by decide +kernel
theorem dX4_of_54 : decode cX4_of 54 = .ok (.invokestatic 26, 3) := by decide +kernel
theorem dX4_of_57 : decode cX4_of 57 = .ok (.iaload, 1) := by decide +kernel
theorem dX4_of_58 : decode cX4_of 58 = .ok (.ireturn, 1) := by decide +kernel
theorem dX4_of_59 : decode cX4_of 59 = .ok (.aload_n 0, 1) := by decide +kernel
theorem dX4_of_60 : decode cX4_of 60 = .ok (.iload_n 1, 1) := by decide +kernel
theorem dX4_of_61 : decode cX4_of 61 = .ok (.iload_n 2, 1) := by decide +kernel
theorem dX4_of_62 : decode cX4_of 62 = .ok (.invokevirtual 78, 3) := by decide +kernel
theorem dX4_of_65 : decode cX4_of 65 = .ok (.ireturn, 1) := by decide +kernel
theorem dX4_of_66 : decode cX4_of 66 = .ok (.aload_n 0, 1) := by decide +kernel
theorem dX4_of_67 : decode cX4_of 67 = .ok (.getfield 7, 3) := by decide +kernel
theorem dX4_of_70 : decode cX4_of 70 = .ok (.iload_n 1, 1) := by decide +kernel
theorem dX4_of_71 : decode cX4_of 71 = .ok (.iconst 1, 1) := by decide +kernel
theorem dX4_of_72 : decode cX4_of 72 = .ok (.invokestatic 26, 3) := by decide +kernel
theorem dX4_of_75 : decode cX4_of 75 = .ok (.iaload, 1) := by decide +kernel
theorem dX4_of_76 : decode cX4_of 76 = .ok (.ireturn, 1) := by decide +kernel
theorem dX4_of_77 : decode cX4_of 77 = .ok (.aload_n 0, 1) := by decide +kernel
theorem dX4_of_78 : decode cX4_of 78 = .ok (.getfield 7, 3) := by decide +kernel
theorem dX4_of_81 : decode cX4_of 81 = .ok (.iload_n 1, 1) := by decide +kernel
theorem dX4_of_82 : decode cX4_of 82 = .ok (.iconst 2, 1) := by decide +kernel
theorem dX4_of_83 : decode cX4_of 83 = .ok (.invokestatic 26, 3) := by decide +kernel
theorem dX4_of_86 : decode cX4_of 86 = .ok (.iaload, 1) := by decide +kernel
theorem dX4_of_87 : decode cX4_of 87 = .ok (.ireturn, 1) := by decide +kernel
theorem dX4_of_88 : decode cX4_of 88 = .ok (.aload_n 0, 1) := by decide +kernel
theorem dX4_of_89 : decode cX4_of 89 = .ok (.getfield 7, 3) := by decide +kernel
theorem dX4_of_92 : decode cX4_of 92 = .ok (.iload_n 1, 1) := by decide +kernel
theorem dX4_of_93 : decode cX4_of 93 = .ok (.iconst 3, 1) := by decide +kernel
theorem dX4_of_94 : decode cX4_of 94 = .ok (.invokestatic 26, 3) := by decide +kernel
theorem dX4_of_97 : decode cX4_of 97 = .ok (.iaload, 1) := by decide +kernel
theorem dX4_of_98 : decode cX4_of 98 = .ok (.ifCond .ge 8, 3) := by decide +kernel
theorem dX4_of_101 : decode cX4_of 101 = .ok (.bipush (-6), 2) := by decide +kernel
theorem dX4_of_103 : decode cX4_of 103 = .ok (.goto 13, 3) := by decide +kernel
theorem dX4_of_106 : decode cX4_of 106 = .ok (.aload_n 0, 1) := by decide +kernel
theorem dX4_of_107 : decode cX4_of 107 = .ok (.getfield 7, 3) := by decide +kernel
theorem dX4_of_110 : decode cX4_of 110 = .ok (.iload_n 1, 1) := by decide +kernel
theorem dX4_of_111 : decode cX4_of 111 = .ok (.iconst 3, 1) := by decide +kernel
theorem dX4_of_112 : decode cX4_of 112 = .ok (.invokestatic 26, 3) := by decide +kernel
theorem dX4_of_115 : decode cX4_of 115 = .ok (.iaload, 1) := by decide +kernel
theorem dX4_of_116 : decode cX4_of 116 = .ok (.ireturn, 1) := by decide +kernel
theorem dX4_of_117 : decode cX4_of 117 = .ok (.bipush (-2), 2) := by decide +kernel
theorem dX4_of_119 : decode cX4_of 119 = .ok (.ireturn, 1) := by decide +kernel
theorem dX4_vetoesLeft_0 : decode cX4_vetoesLeft 0 = .ok (.aload_n 0, 1) := by decide +kernel
theorem dX4_vetoesLeft_1 : decode cX4_vetoesLeft 1 = .ok (.getfield 7, 3) := by decide +kernel
theorem dX4_vetoesLeft_4 : decode cX4_vetoesLeft 4 = .ok (.sipush 163, 3) := by decide +kernel
theorem dX4_vetoesLeft_7 : decode cX4_vetoesLeft 7 = .ok (.iaload, 1) := by decide +kernel
theorem dX4_vetoesLeft_8 : decode cX4_vetoesLeft 8 = .ok (.aload_n 0, 1) := by decide +kernel
theorem dX4_vetoesLeft_9 : decode cX4_vetoesLeft 9 = .ok (.iload_n 1, 1) := by decide +kernel
theorem dX4_vetoesLeft_10 : decode cX4_vetoesLeft 10 = .ok (.iconst 2, 1) := by decide +kernel
theorem dX4_vetoesLeft_11 : decode cX4_vetoesLeft 11 = .ok (.invokevirtual 58, 3) := by decide +kernel
theorem dX4_vetoesLeft_14 : decode cX4_vetoesLeft 14 = .ok (.isub, 1) := by decide +kernel
theorem dX4_vetoesLeft_15 : decode cX4_vetoesLeft 15 = .ok (.istore_n 2, 1) := by decide +kernel
theorem dX4_vetoesLeft_16 : decode cX4_vetoesLeft 16 = .ok (.iload_n 2, 1) := by decide +kernel
theorem dX4_vetoesLeft_17 : decode cX4_vetoesLeft 17 = .ok (.ifCond .ge 7, 3) := by decide +kernel
theorem dX4_vetoesLeft_20 : decode cX4_vetoesLeft 20 = .ok (.iconst 0, 1) := by decide +kernel
theorem dX4_vetoesLeft_21 : decode cX4_vetoesLeft 21 = .ok (.goto 4, 3) := by decide +kernel
theorem dX4_vetoesLeft_24 : decode cX4_vetoesLeft 24 = .ok (.iload_n 2, 1) := by decide +kernel
theorem dX4_vetoesLeft_25 : decode cX4_vetoesLeft 25 = .ok (.ireturn, 1) := by decide +kernel
theorem dX4_editor_0 : decode cX4_editor 0 = .ok (.iload_n 1, 1) := by decide +kernel
theorem dX4_editor_1 : decode cX4_editor 1 = .ok (.invokestatic 48, 3) := by decide +kernel
theorem dX4_editor_4 : decode cX4_editor 4 = .ok (.ifCond .ne 5, 3) := by decide +kernel
theorem dX4_editor_7 : decode cX4_editor 7 = .ok (.iconst (-1), 1) := by decide +kernel
theorem dX4_editor_8 : decode cX4_editor 8 = .ok (.ireturn, 1) := by decide +kernel
theorem dX4_editor_9 : decode cX4_editor 9 = .ok (.iload_n 2, 1) := by decide +kernel
theorem dX4_editor_10 : decode cX4_editor 10 = .ok (.tableswitch 79 0 6 #[42, 53, 53, 60, 66, 66, 66], 42) := by decide +kernel
theorem dX4_editor_52 : decode cX4_editor 52 = .ok (.aload_n 0, 1) := by decide +kernel
theorem dX4_editor_53 : decode cX4_editor 53 = .ok (.getfield 7, 3) := by decide +kernel
theorem dX4_editor_56 : decode cX4_editor 56 = .ok (.iload_n 1, 1) := by decide +kernel
theorem dX4_editor_57 : decode cX4_editor 57 = .ok (.iconst 0, 1) := by decide +kernel
theorem dX4_editor_58 : decode cX4_editor 58 = .ok (.invokestatic 30, 3) := by decide +kernel
theorem dX4_editor_61 : decode cX4_editor 61 = .ok (.iaload, 1) := by decide +kernel
theorem dX4_editor_62 : decode cX4_editor 62 = .ok (.ireturn, 1) := by decide +kernel
theorem dX4_editor_63 : decode cX4_editor 63 = .ok (.aload_n 0, 1) := by decide +kernel
theorem dX4_editor_64 : decode cX4_editor 64 = .ok (.iload_n 1, 1) := by decide +kernel
theorem dX4_editor_65 : decode cX4_editor 65 = .ok (.iload_n 2, 1) := by decide +kernel
theorem dX4_editor_66 : decode cX4_editor 66 = .ok (.invokevirtual 58, 3) := by decide +kernel
theorem dX4_editor_69 : decode cX4_editor 69 = .ok (.ireturn, 1) := by decide +kernel
theorem dX4_editor_70 : decode cX4_editor 70 = .ok (.aload_n 0, 1) := by decide +kernel
theorem dX4_editor_71 : decode cX4_editor 71 = .ok (.iload_n 1, 1) := by decide +kernel
theorem dX4_editor_72 : decode cX4_editor 72 = .ok (.invokevirtual 111, 3) := by decide +kernel
theorem dX4_editor_75 : decode cX4_editor 75 = .ok (.ireturn, 1) := by decide +kernel
theorem dX4_editor_76 : decode cX4_editor 76 = .ok (.aload_n 0, 1) := by decide +kernel
theorem dX4_editor_77 : decode cX4_editor 77 = .ok (.getfield 7, 3) := by decide +kernel
theorem dX4_editor_80 : decode cX4_editor 80 = .ok (.iload_n 1, 1) := by decide +kernel
theorem dX4_editor_81 : decode cX4_editor 81 = .ok (.iload_n 2, 1) := by decide +kernel
theorem dX4_editor_82 : decode cX4_editor 82 = .ok (.iconst 3, 1) := by decide +kernel
theorem dX4_editor_83 : decode cX4_editor 83 = .ok (.isub, 1) := by decide +kernel
theorem dX4_editor_84 : decode cX4_editor 84 = .ok (.invokestatic 30, 3) := by decide +kernel
theorem dX4_editor_87 : decode cX4_editor 87 = .ok (.iaload, 1) := by decide +kernel
theorem dX4_editor_88 : decode cX4_editor 88 = .ok (.ireturn, 1) := by decide +kernel
theorem dX4_editor_89 : decode cX4_editor 89 = .ok (.bipush (-2), 2) := by decide +kernel
theorem dX4_editor_91 : decode cX4_editor 91 = .ok (.ireturn, 1) := by decide +kernel
theorem dX4_isTaken_0 : decode cX4_isTaken 0 = .ok (.aload_n 0, 1) := by decide +kernel
theorem dX4_isTaken_1 : decode cX4_isTaken 1 = .ok (.getfield 7, 3) := by decide +kernel
theorem dX4_isTaken_4 : decode cX4_isTaken 4 = .ok (.iload_n 1, 1) := by decide +kernel
theorem dX4_isTaken_5 : decode cX4_isTaken 5 = .ok (.iconst 0, 1) := by decide +kernel
theorem dX4_isTaken_6 : decode cX4_isTaken 6 = .ok (.invokestatic 26, 3) := by decide +kernel
theorem dX4_isTaken_9 : decode cX4_isTaken 9 = .ok (.iaload, 1) := by decide +kernel
theorem dX4_isTaken_10 : decode cX4_isTaken 10 = .ok (.iconst 1, 1) := by decide +kernel
theorem dX4_isTaken_11 : decode cX4_isTaken 11 = .ok (.if_icmp .eq 17, 3) := by decide +kernel
theorem dX4_isTaken_14 : decode cX4_isTaken 14 = .ok (.aload_n 0, 1) := by decide +kernel
theorem dX4_isTaken_15 : decode cX4_isTaken 15 = .ok (.getfield 7, 3) := by decide +kernel
theorem dX4_isTaken_18 : decode cX4_isTaken 18 = .ok (.iload_n 1, 1) := by decide +kernel
theorem dX4_isTaken_19 : decode cX4_isTaken 19 = .ok (.iconst 0, 1) := by decide +kernel
theorem dX4_isTaken_20 : decode cX4_isTaken 20 = .ok (.invokestatic 26, 3) := by decide +kernel
theorem dX4_isTaken_23 : decode cX4_isTaken 23 = .ok (.iaload, 1) := by decide +kernel
theorem dX4_isTaken_24 : decode cX4_isTaken 24 = .ok (.iconst 3, 1) := by decide +kernel
theorem dX4_isTaken_25 : decode cX4_isTaken 25 = .ok (.if_icmp .ne 7, 3) := by decide +kernel
theorem dX4_isTaken_28 : decode cX4_isTaken 28 = .ok (.iconst 1, 1) := by decide +kernel
theorem dX4_isTaken_29 : decode cX4_isTaken 29 = .ok (.goto 4, 3) := by decide +kernel
theorem dX4_isTaken_32 : decode cX4_isTaken 32 = .ok (.iconst 0, 1) := by decide +kernel
theorem dX4_isTaken_33 : decode cX4_isTaken 33 = .ok (.ireturn, 1) := by decide +kernel
theorem dX4_ahead_0 : decode cX4_ahead 0 = .ok (.iconst 0, 1) := by decide +kernel
theorem dX4_ahead_1 : decode cX4_ahead 1 = .ok (.istore_n 2, 1) := by decide +kernel
theorem dX4_ahead_2 : decode cX4_ahead 2 = .ok (.iconst 0, 1) := by decide +kernel
theorem dX4_ahead_3 : decode cX4_ahead 3 = .ok (.istore_n 3, 1) := by decide +kernel
theorem dX4_ahead_4 : decode cX4_ahead 4 = .ok (.iload_n 3, 1) := by decide +kernel
theorem dX4_ahead_5 : decode cX4_ahead 5 = .ok (.bipush 30, 2) := by decide +kernel
theorem dX4_ahead_7 : decode cX4_ahead 7 = .ok (.if_icmp .ge 63, 3) := by decide +kernel
theorem dX4_ahead_10 : decode cX4_ahead 10 = .ok (.aload_n 0, 1) := by decide +kernel
theorem dX4_ahead_11 : decode cX4_ahead 11 = .ok (.getfield 7, 3) := by decide +kernel
theorem dX4_ahead_14 : decode cX4_ahead 14 = .ok (.iload_n 3, 1) := by decide +kernel
theorem dX4_ahead_15 : decode cX4_ahead 15 = .ok (.iconst 3, 1) := by decide +kernel
theorem dX4_ahead_16 : decode cX4_ahead 16 = .ok (.invokestatic 26, 3) := by decide +kernel
theorem dX4_ahead_19 : decode cX4_ahead 19 = .ok (.iaload, 1) := by decide +kernel
theorem dX4_ahead_20 : decode cX4_ahead 20 = .ok (.aload_n 0, 1) := by decide +kernel
theorem dX4_ahead_21 : decode cX4_ahead 21 = .ok (.getfield 7, 3) := by decide +kernel
theorem dX4_ahead_24 : decode cX4_ahead 24 = .ok (.iload_n 1, 1) := by decide +kernel
theorem dX4_ahead_25 : decode cX4_ahead 25 = .ok (.iconst 3, 1) := by decide +kernel
theorem dX4_ahead_26 : decode cX4_ahead 26 = .ok (.invokestatic 26, 3) := by decide +kernel
theorem dX4_ahead_29 : decode cX4_ahead 29 = .ok (.iaload, 1) := by decide +kernel
theorem dX4_ahead_30 : decode cX4_ahead 30 = .ok (.isub, 1) := by decide +kernel
theorem dX4_ahead_31 : decode cX4_ahead 31 = .ok (.istore 4, 2) := by decide +kernel
theorem dX4_ahead_33 : decode cX4_ahead 33 = .ok (.iload_n 2, 1) := by decide +kernel
theorem dX4_ahead_34 : decode cX4_ahead 34 = .ok (.aload_n 0, 1) := by decide +kernel
theorem dX4_ahead_35 : decode cX4_ahead 35 = .ok (.iload_n 3, 1) := by decide +kernel
theorem dX4_ahead_36 : decode cX4_ahead 36 = .ok (.invokevirtual 114, 3) := by decide +kernel
theorem dX4_ahead_39 : decode cX4_ahead 39 = .ok (.ifCond .eq 22, 3) := by decide +kernel
theorem dX4_ahead_42 : decode cX4_ahead 42 = .ok (.iload 4, 2) := by decide +kernel
theorem dX4_ahead_44 : decode cX4_ahead 44 = .ok (.ifCond .lt 13, 3) := by decide +kernel
theorem dX4_ahead_47 : decode cX4_ahead 47 = .ok (.iload 4, 2) := by decide +kernel
theorem dX4_ahead_49 : decode cX4_ahead 49 = .ok (.ifCond .ne 12, 3) := by decide +kernel
theorem dX4_ahead_52 : decode cX4_ahead 52 = .ok (.iload_n 3, 1) := by decide +kernel
theorem dX4_ahead_53 : decode cX4_ahead 53 = .ok (.iload_n 1, 1) := by decide +kernel
theorem dX4_ahead_54 : decode cX4_ahead 54 = .ok (.if_icmp .ge 7, 3) := by decide +kernel
theorem dX4_ahead_57 : decode cX4_ahead 57 = .ok (.iconst 1, 1) := by decide +kernel
theorem dX4_ahead_58 : decode cX4_ahead 58 = .ok (.goto 4, 3) := by decide +kernel
theorem dX4_ahead_61 : decode cX4_ahead 61 = .ok (.iconst 0, 1) := by decide +kernel
theorem dX4_ahead_62 : decode cX4_ahead 62 = .ok (.iadd, 1) := by decide +kernel
theorem dX4_ahead_63 : decode cX4_ahead 63 = .ok (.istore_n 2, 1) := by decide +kernel
theorem dX4_ahead_64 : decode cX4_ahead 64 = .ok (.iinc 3 1, 3) := by decide +kernel
theorem dX4_ahead_67 : decode cX4_ahead 67 = .ok (.goto (-63), 3) := by decide +kernel
theorem dX4_ahead_70 : decode cX4_ahead 70 = .ok (.iload_n 2, 1) := by decide +kernel
theorem dX4_ahead_71 : decode cX4_ahead 71 = .ok (.ireturn, 1) := by decide +kernel
theorem dX4_chosen_0 : decode cX4_chosen 0 = .ok (.iconst 0, 1) := by decide +kernel
theorem dX4_chosen_1 : decode cX4_chosen 1 = .ok (.istore_n 2, 1) := by decide +kernel
theorem dX4_chosen_2 : decode cX4_chosen 2 = .ok (.iload_n 2, 1) := by decide +kernel
theorem dX4_chosen_3 : decode cX4_chosen 3 = .ok (.bipush 30, 2) := by decide +kernel
theorem dX4_chosen_5 : decode cX4_chosen 5 = .ok (.if_icmp .ge 28, 3) := by decide +kernel
theorem dX4_chosen_8 : decode cX4_chosen 8 = .ok (.aload_n 0, 1) := by decide +kernel
theorem dX4_chosen_9 : decode cX4_chosen 9 = .ok (.iload_n 2, 1) := by decide +kernel
theorem dX4_chosen_10 : decode cX4_chosen 10 = .ok (.invokevirtual 114, 3) := by decide +kernel
theorem dX4_chosen_13 : decode cX4_chosen 13 = .ok (.ifCond .eq 14, 3) := by decide +kernel
theorem dX4_chosen_16 : decode cX4_chosen 16 = .ok (.aload_n 0, 1) := by decide +kernel
theorem dX4_chosen_17 : decode cX4_chosen 17 = .ok (.iload_n 2, 1) := by decide +kernel
theorem dX4_chosen_18 : decode cX4_chosen 18 = .ok (.invokevirtual 117, 3) := by decide +kernel
theorem dX4_chosen_21 : decode cX4_chosen 21 = .ok (.iload_n 1, 1) := by decide +kernel
theorem dX4_chosen_22 : decode cX4_chosen 22 = .ok (.if_icmp .ne 5, 3) := by decide +kernel
theorem dX4_chosen_25 : decode cX4_chosen 25 = .ok (.iload_n 2, 1) := by decide +kernel
theorem dX4_chosen_26 : decode cX4_chosen 26 = .ok (.ireturn, 1) := by decide +kernel
theorem dX4_chosen_27 : decode cX4_chosen 27 = .ok (.iinc 2 1, 3) := by decide +kernel
theorem dX4_chosen_30 : decode cX4_chosen 30 = .ok (.goto (-28), 3) := by decide +kernel
theorem dX4_chosen_33 : decode cX4_chosen 33 = .ok (.iconst (-1), 1) := by decide +kernel
theorem dX4_chosen_34 : decode cX4_chosen 34 = .ok (.ireturn, 1) := by decide +kernel
theorem dX4_howMany_0 : decode cX4_howMany 0 = .ok (.iconst 0, 1) := by decide +kernel
theorem dX4_howMany_1 : decode cX4_howMany 1 = .ok (.istore_n 2, 1) := by decide +kernel
theorem dX4_howMany_2 : decode cX4_howMany 2 = .ok (.iconst 0, 1) := by decide +kernel
theorem dX4_howMany_3 : decode cX4_howMany 3 = .ok (.istore_n 3, 1) := by decide +kernel
theorem dX4_howMany_4 : decode cX4_howMany 4 = .ok (.iload_n 3, 1) := by decide +kernel
theorem dX4_howMany_5 : decode cX4_howMany 5 = .ok (.bipush 30, 2) := by decide +kernel
theorem dX4_howMany_7 : decode cX4_howMany 7 = .ok (.if_icmp .ge 31, 3) := by decide +kernel
theorem dX4_howMany_10 : decode cX4_howMany 10 = .ok (.iload_n 2, 1) := by decide +kernel
theorem dX4_howMany_11 : decode cX4_howMany 11 = .ok (.aload_n 0, 1) := by decide +kernel
theorem dX4_howMany_12 : decode cX4_howMany 12 = .ok (.getfield 7, 3) := by decide +kernel
theorem dX4_howMany_15 : decode cX4_howMany 15 = .ok (.iload_n 3, 1) := by decide +kernel
theorem dX4_howMany_16 : decode cX4_howMany 16 = .ok (.iconst 0, 1) := by decide +kernel
theorem dX4_howMany_17 : decode cX4_howMany 17 = .ok (.invokestatic 26, 3) := by decide +kernel
theorem dX4_howMany_20 : decode cX4_howMany 20 = .ok (.iaload, 1) := by decide +kernel
theorem dX4_howMany_21 : decode cX4_howMany 21 = .ok (.iload_n 1, 1) := by decide +kernel
theorem dX4_howMany_22 : decode cX4_howMany 22 = .ok (.if_icmp .ne 7, 3) := by decide +kernel
theorem dX4_howMany_25 : decode cX4_howMany 25 = .ok (.iconst 1, 1) := by decide +kernel
theorem dX4_howMany_26 : decode cX4_howMany 26 = .ok (.goto 4, 3) := by decide +kernel
theorem dX4_howMany_29 : decode cX4_howMany 29 = .ok (.iconst 0, 1) := by decide +kernel
theorem dX4_howMany_30 : decode cX4_howMany 30 = .ok (.iadd, 1) := by decide +kernel
theorem dX4_howMany_31 : decode cX4_howMany 31 = .ok (.istore_n 2, 1) := by decide +kernel
theorem dX4_howMany_32 : decode cX4_howMany 32 = .ok (.iinc 3 1, 3) := by decide +kernel
theorem dX4_howMany_35 : decode cX4_howMany 35 = .ok (.goto (-31), 3) := by decide +kernel
theorem dX4_howMany_38 : decode cX4_howMany 38 = .ok (.iload_n 2, 1) := by decide +kernel
theorem dX4_howMany_39 : decode cX4_howMany 39 = .ok (.ireturn, 1) := by decide +kernel
theorem dX4_longestRow_0 : decode cX4_longestRow 0 = .ok (.iconst 0, 1) := by decide +kernel
theorem dX4_longestRow_1 : decode cX4_longestRow 1 = .ok (.istore_n 1, 1) := by decide +kernel
theorem dX4_longestRow_2 : decode cX4_longestRow 2 = .ok (.iconst 0, 1) := by decide +kernel
theorem dX4_longestRow_3 : decode cX4_longestRow 3 = .ok (.istore_n 2, 1) := by decide +kernel
theorem dX4_longestRow_4 : decode cX4_longestRow 4 = .ok (.iconst 0, 1) := by decide +kernel
theorem dX4_longestRow_5 : decode cX4_longestRow 5 = .ok (.istore_n 3, 1) := by decide +kernel
theorem dX4_longestRow_6 : decode cX4_longestRow 6 = .ok (.iload_n 3, 1) := by decide +kernel
theorem dX4_longestRow_7 : decode cX4_longestRow 7 = .ok (.bipush 30, 2) := by decide +kernel
theorem dX4_longestRow_9 : decode cX4_longestRow 9 = .ok (.if_icmp .ge 47, 3) := by decide +kernel
theorem dX4_longestRow_12 : decode cX4_longestRow 12 = .ok (.aload_n 0, 1) := by decide +kernel
theorem dX4_longestRow_13 : decode cX4_longestRow 13 = .ok (.iload_n 3, 1) := by decide +kernel
theorem dX4_longestRow_14 : decode cX4_longestRow 14 = .ok (.invokevirtual 114, 3) := by decide +kernel
theorem dX4_longestRow_17 : decode cX4_longestRow 17 = .ok (.ifCond .ne 7, 3) := by decide +kernel
theorem dX4_longestRow_20 : decode cX4_longestRow 20 = .ok (.iconst 0, 1) := by decide +kernel
theorem dX4_longestRow_21 : decode cX4_longestRow 21 = .ok (.goto 17, 3) := by decide +kernel
theorem dX4_longestRow_24 : decode cX4_longestRow 24 = .ok (.iload_n 3, 1) := by decide +kernel
theorem dX4_longestRow_25 : decode cX4_longestRow 25 = .ok (.bipush 6, 2) := by decide +kernel
theorem dX4_longestRow_27 : decode cX4_longestRow 27 = .ok (.irem, 1) := by decide +kernel
theorem dX4_longestRow_28 : decode cX4_longestRow 28 = .ok (.ifCond .ne 7, 3) := by decide +kernel
theorem dX4_longestRow_31 : decode cX4_longestRow 31 = .ok (.iconst 1, 1) := by decide +kernel
theorem dX4_longestRow_32 : decode cX4_longestRow 32 = .ok (.goto 6, 3) := by decide +kernel
theorem dX4_longestRow_35 : decode cX4_longestRow 35 = .ok (.iload_n 2, 1) := by decide +kernel
theorem dX4_longestRow_36 : decode cX4_longestRow 36 = .ok (.iconst 1, 1) := by decide +kernel
theorem dX4_longestRow_37 : decode cX4_longestRow 37 = .ok (.iadd, 1) := by decide +kernel
theorem dX4_longestRow_38 : decode cX4_longestRow 38 = .ok (.istore_n 2, 1) := by decide +kernel
theorem dX4_longestRow_39 : decode cX4_longestRow 39 = .ok (.iload_n 2, 1) := by decide +kernel
theorem dX4_longestRow_40 : decode cX4_longestRow 40 = .ok (.iload_n 1, 1) := by decide +kernel
theorem dX4_longestRow_41 : decode cX4_longestRow 41 = .ok (.if_icmp .le 7, 3) := by decide +kernel
theorem dX4_longestRow_44 : decode cX4_longestRow 44 = .ok (.iload_n 2, 1) := by decide +kernel
theorem dX4_longestRow_45 : decode cX4_longestRow 45 = .ok (.goto 4, 3) := by decide +kernel
theorem dX4_longestRow_48 : decode cX4_longestRow 48 = .ok (.iload_n 1, 1) := by decide +kernel
theorem dX4_longestRow_49 : decode cX4_longestRow 49 = .ok (.istore_n 1, 1) := by decide +kernel
theorem dX4_longestRow_50 : decode cX4_longestRow 50 = .ok (.iinc 3 1, 3) := by decide +kernel
theorem dX4_longestRow_53 : decode cX4_longestRow 53 = .ok (.goto (-47), 3) := by decide +kernel
theorem dX4_longestRow_56 : decode cX4_longestRow 56 = .ok (.iload_n 1, 1) := by decide +kernel
theorem dX4_longestRow_57 : decode cX4_longestRow 57 = .ok (.ireturn, 1) := by decide +kernel
theorem dX4_count_0 : decode cX4_count 0 = .ok (.iload_n 1, 1) := by decide +kernel
theorem dX4_count_1 : decode cX4_count 1 = .ok (.tableswitch 128 0 16 #[83, 92, 92, 92, 92, 100, 100, 100, 100, 100, 113, 128, 128, 128, 128, 118, 123], 83) := by decide +kernel
theorem dX4_count_84 : decode cX4_count 84 = .ok (.aload_n 0, 1) := by decide +kernel
theorem dX4_count_85 : decode cX4_count 85 = .ok (.getfield 7, 3) := by decide +kernel
theorem dX4_count_88 : decode cX4_count 88 = .ok (.sipush 166, 3) := by decide +kernel
theorem dX4_count_91 : decode cX4_count 91 = .ok (.iaload, 1) := by decide +kernel
theorem dX4_count_92 : decode cX4_count 92 = .ok (.ireturn, 1) := by decide +kernel
theorem dX4_count_93 : decode cX4_count 93 = .ok (.aload_n 0, 1) := by decide +kernel
theorem dX4_count_94 : decode cX4_count 94 = .ok (.iload_n 1, 1) := by decide +kernel
theorem dX4_count_95 : decode cX4_count 95 = .ok (.iconst 1, 1) := by decide +kernel
theorem dX4_count_96 : decode cX4_count 96 = .ok (.isub, 1) := by decide +kernel
theorem dX4_count_97 : decode cX4_count 97 = .ok (.invokevirtual 120, 3) := by decide +kernel
theorem dX4_count_100 : decode cX4_count 100 = .ok (.ireturn, 1) := by decide +kernel
theorem dX4_count_101 : decode cX4_count 101 = .ok (.aload_n 0, 1) := by decide +kernel
theorem dX4_count_102 : decode cX4_count 102 = .ok (.getfield 7, 3) := by decide +kernel
theorem dX4_count_105 : decode cX4_count 105 = .ok (.sipush 167, 3) := by decide +kernel
theorem dX4_count_108 : decode cX4_count 108 = .ok (.iload_n 1, 1) := by decide +kernel
theorem dX4_count_109 : decode cX4_count 109 = .ok (.iadd, 1) := by decide +kernel
theorem dX4_count_110 : decode cX4_count 110 = .ok (.iconst 5, 1) := by decide +kernel
theorem dX4_count_111 : decode cX4_count 111 = .ok (.isub, 1) := by decide +kernel
theorem dX4_count_112 : decode cX4_count 112 = .ok (.iaload, 1) := by decide +kernel
theorem dX4_count_113 : decode cX4_count 113 = .ok (.ireturn, 1) := by decide +kernel
theorem dX4_count_114 : decode cX4_count 114 = .ok (.aload_n 0, 1) := by decide +kernel
theorem dX4_count_115 : decode cX4_count 115 = .ok (.invokevirtual 123, 3) := by decide +kernel
theorem dX4_count_118 : decode cX4_count 118 = .ok (.ireturn, 1) := by decide +kernel
theorem dX4_count_119 : decode cX4_count 119 = .ok (.aload_n 0, 1) := by decide +kernel
theorem dX4_count_120 : decode cX4_count 120 = .ok (.getfield 126, 3) := by decide +kernel
theorem dX4_count_123 : decode cX4_count 123 = .ok (.ireturn, 1) := by decide +kernel
theorem dX4_count_124 : decode cX4_count 124 = .ok (.aload_n 0, 1) := by decide +kernel
theorem dX4_count_125 : decode cX4_count 125 = .ok (.getfield 37, 3) := by decide +kernel
theorem dX4_count_128 : decode cX4_count 128 = .ok (.ireturn, 1) := by decide +kernel
theorem dX4_count_129 : decode cX4_count 129 = .ok (.iload_n 1, 1) := by decide +kernel
theorem dX4_count_130 : decode cX4_count 130 = .ok (.bipush 11, 2) := by decide +kernel
theorem dX4_count_132 : decode cX4_count 132 = .ok (.bipush 14, 2) := by decide +kernel
theorem dX4_count_134 : decode cX4_count 134 = .ok (.invokestatic 33, 3) := by decide +kernel
theorem dX4_count_137 : decode cX4_count 137 = .ok (.ifCond .eq 19, 3) := by decide +kernel
theorem dX4_count_140 : decode cX4_count 140 = .ok (.aload_n 0, 1) := by decide +kernel
theorem dX4_count_141 : decode cX4_count 141 = .ok (.getfield 7, 3) := by decide +kernel
theorem dX4_count_144 : decode cX4_count 144 = .ok (.sipush 162, 3) := by decide +kernel
theorem dX4_count_147 : decode cX4_count 147 = .ok (.iload_n 1, 1) := by decide +kernel
theorem dX4_count_148 : decode cX4_count 148 = .ok (.iadd, 1) := by decide +kernel
theorem dX4_count_149 : decode cX4_count 149 = .ok (.bipush 11, 2) := by decide +kernel
theorem dX4_count_151 : decode cX4_count 151 = .ok (.isub, 1) := by decide +kernel
theorem dX4_count_152 : decode cX4_count 152 = .ok (.iaload, 1) := by decide +kernel
theorem dX4_count_153 : decode cX4_count 153 = .ok (.goto 5, 3) := by decide +kernel
theorem dX4_count_156 : decode cX4_count 156 = .ok (.bipush (-2), 2) := by decide +kernel
theorem dX4_count_158 : decode cX4_count 158 = .ok (.ireturn, 1) := by decide +kernel
theorem dX4_reason_0 : decode cX4_reason 0 = .ok (.aload_n 0, 1) := by decide +kernel
theorem dX4_reason_1 : decode cX4_reason 1 = .ok (.iload_n 1, 1) := by decide +kernel
theorem dX4_reason_2 : decode cX4_reason 2 = .ok (.invokevirtual 55, 3) := by decide +kernel
theorem dX4_reason_5 : decode cX4_reason 5 = .ok (.ifCond .ne 5, 3) := by decide +kernel
theorem dX4_reason_8 : decode cX4_reason 8 = .ok (.iconst 1, 1) := by decide +kernel
theorem dX4_reason_9 : decode cX4_reason 9 = .ok (.ireturn, 1) := by decide +kernel
theorem dX4_reason_10 : decode cX4_reason 10 = .ok (.aload_n 0, 1) := by decide +kernel
theorem dX4_reason_11 : decode cX4_reason 11 = .ok (.iload_n 1, 1) := by decide +kernel
theorem dX4_reason_12 : decode cX4_reason 12 = .ok (.iconst 2, 1) := by decide +kernel
theorem dX4_reason_13 : decode cX4_reason 13 = .ok (.invokevirtual 78, 3) := by decide +kernel
theorem dX4_reason_16 : decode cX4_reason 16 = .ok (.ifCond .eq 7, 3) := by decide +kernel
theorem dX4_reason_19 : decode cX4_reason 19 = .ok (.iconst 2, 1) := by decide +kernel
theorem dX4_reason_20 : decode cX4_reason 20 = .ok (.goto 28, 3) := by decide +kernel
theorem dX4_reason_23 : decode cX4_reason 23 = .ok (.aload_n 0, 1) := by decide +kernel
theorem dX4_reason_24 : decode cX4_reason 24 = .ok (.iload_n 1, 1) := by decide +kernel
theorem dX4_reason_25 : decode cX4_reason 25 = .ok (.iconst 1, 1) := by decide +kernel
theorem dX4_reason_26 : decode cX4_reason 26 = .ok (.invokevirtual 78, 3) := by decide +kernel
theorem dX4_reason_29 : decode cX4_reason 29 = .ok (.invokestatic 81, 3) := by decide +kernel
theorem dX4_reason_32 : decode cX4_reason 32 = .ok (.aload_n 0, 1) := by decide +kernel
theorem dX4_reason_33 : decode cX4_reason 33 = .ok (.getfield 7, 3) := by decide +kernel
theorem dX4_reason_36 : decode cX4_reason 36 = .ok (.sipush 162, 3) := by decide +kernel
theorem dX4_reason_39 : decode cX4_reason 39 = .ok (.iaload, 1) := by decide +kernel
theorem dX4_reason_40 : decode cX4_reason 40 = .ok (.if_icmp .ge 7, 3) := by decide +kernel
theorem dX4_reason_43 : decode cX4_reason 43 = .ok (.iconst 3, 1) := by decide +kernel
theorem dX4_reason_44 : decode cX4_reason 44 = .ok (.goto 4, 3) := by decide +kernel
theorem dX4_reason_47 : decode cX4_reason 47 = .ok (.iconst 0, 1) := by decide +kernel
theorem dX4_reason_48 : decode cX4_reason 48 = .ok (.ireturn, 1) := by decide +kernel
theorem dX4_why_0 : decode cX4_why 0 = .ok (.iload_n 1, 1) := by decide +kernel
theorem dX4_why_1 : decode cX4_why 1 = .ok (.invokestatic 52, 3) := by decide +kernel
theorem dX4_why_4 : decode cX4_why 4 = .ok (.ifCond .eq 11, 3) := by decide +kernel
theorem dX4_why_7 : decode cX4_why 7 = .ok (.aload_n 0, 1) := by decide +kernel
theorem dX4_why_8 : decode cX4_why 8 = .ok (.iload_n 1, 1) := by decide +kernel
theorem dX4_why_9 : decode cX4_why 9 = .ok (.invokevirtual 129, 3) := by decide +kernel
theorem dX4_why_12 : decode cX4_why 12 = .ok (.goto 4, 3) := by decide +kernel
theorem dX4_why_15 : decode cX4_why 15 = .ok (.iconst (-1), 1) := by decide +kernel
theorem dX4_why_16 : decode cX4_why 16 = .ok (.ireturn, 1) := by decide +kernel
theorem dX4_ifRound_0 : decode cX4_ifRound 0 = .ok (.iload_n 1, 1) := by decide +kernel
theorem dX4_ifRound_1 : decode cX4_ifRound 1 = .ok (.iconst 0, 1) := by decide +kernel
theorem dX4_ifRound_2 : decode cX4_ifRound 2 = .ok (.iconst 2, 1) := by decide +kernel
theorem dX4_ifRound_3 : decode cX4_ifRound 3 = .ok (.invokestatic 33, 3) := by decide +kernel
theorem dX4_ifRound_6 : decode cX4_ifRound 6 = .ok (.ifCond .ne 6, 3) := by decide +kernel
theorem dX4_ifRound_9 : decode cX4_ifRound 9 = .ok (.bipush (-2), 2) := by decide +kernel
theorem dX4_ifRound_11 : decode cX4_ifRound 11 = .ok (.ireturn, 1) := by decide +kernel
theorem dX4_ifRound_12 : decode cX4_ifRound 12 = .ok (.iload_n 1, 1) := by decide +kernel
theorem dX4_ifRound_13 : decode cX4_ifRound 13 = .ok (.ifCond .ne 7, 3) := by decide +kernel
theorem dX4_ifRound_16 : decode cX4_ifRound 16 = .ok (.iconst 1, 1) := by decide +kernel
theorem dX4_ifRound_17 : decode cX4_ifRound 17 = .ok (.goto 13, 3) := by decide +kernel
theorem dX4_ifRound_20 : decode cX4_ifRound 20 = .ok (.iload_n 1, 1) := by decide +kernel
theorem dX4_ifRound_21 : decode cX4_ifRound 21 = .ok (.iconst 1, 1) := by decide +kernel
theorem dX4_ifRound_22 : decode cX4_ifRound 22 = .ok (.if_icmp .ne 7, 3) := by decide +kernel
theorem dX4_ifRound_25 : decode cX4_ifRound 25 = .ok (.iconst 2, 1) := by decide +kernel
theorem dX4_ifRound_26 : decode cX4_ifRound 26 = .ok (.goto 4, 3) := by decide +kernel
theorem dX4_ifRound_29 : decode cX4_ifRound 29 = .ok (.iconst 0, 1) := by decide +kernel
theorem dX4_ifRound_30 : decode cX4_ifRound 30 = .ok (.istore_n 2, 1) := by decide +kernel
theorem dX4_ifRound_31 : decode cX4_ifRound 31 = .ok (.iconst 0, 1) := by decide +kernel
theorem dX4_ifRound_32 : decode cX4_ifRound 32 = .ok (.istore_n 3, 1) := by decide +kernel
theorem dX4_ifRound_33 : decode cX4_ifRound 33 = .ok (.iconst 0, 1) := by decide +kernel
theorem dX4_ifRound_34 : decode cX4_ifRound 34 = .ok (.istore 4, 2) := by decide +kernel
theorem dX4_ifRound_36 : decode cX4_ifRound 36 = .ok (.iload 4, 2) := by decide +kernel
theorem dX4_ifRound_38 : decode cX4_ifRound 38 = .ok (.bipush 30, 2) := by decide +kernel
theorem dX4_ifRound_40 : decode cX4_ifRound 40 = .ok (.if_icmp .ge 36, 3) := by decide +kernel
theorem dX4_ifRound_43 : decode cX4_ifRound 43 = .ok (.iload_n 3, 1) := by decide +kernel
theorem dX4_ifRound_44 : decode cX4_ifRound 44 = .ok (.aload_n 0, 1) := by decide +kernel
theorem dX4_ifRound_45 : decode cX4_ifRound 45 = .ok (.iload 4, 2) := by decide +kernel
theorem dX4_ifRound_47 : decode cX4_ifRound 47 = .ok (.invokevirtual 55, 3) := by decide +kernel
theorem dX4_ifRound_50 : decode cX4_ifRound 50 = .ok (.ifCond .eq 17, 3) := by decide +kernel
theorem dX4_ifRound_53 : decode cX4_ifRound 53 = .ok (.aload_n 0, 1) := by decide +kernel
theorem dX4_ifRound_54 : decode cX4_ifRound 54 = .ok (.iload 4, 2) := by decide +kernel
theorem dX4_ifRound_56 : decode cX4_ifRound 56 = .ok (.invokevirtual 84, 3) := by decide +kernel
theorem dX4_ifRound_59 : decode cX4_ifRound 59 = .ok (.iload_n 2, 1) := by decide +kernel
theorem dX4_ifRound_60 : decode cX4_ifRound 60 = .ok (.if_icmp .ne 7, 3) := by decide +kernel
theorem dX4_ifRound_63 : decode cX4_ifRound 63 = .ok (.iconst 1, 1) := by decide +kernel
theorem dX4_ifRound_64 : decode cX4_ifRound 64 = .ok (.goto 4, 3) := by decide +kernel
theorem dX4_ifRound_67 : decode cX4_ifRound 67 = .ok (.iconst 0, 1) := by decide +kernel
theorem dX4_ifRound_68 : decode cX4_ifRound 68 = .ok (.iadd, 1) := by decide +kernel
theorem dX4_ifRound_69 : decode cX4_ifRound 69 = .ok (.istore_n 3, 1) := by decide +kernel
theorem dX4_ifRound_70 : decode cX4_ifRound 70 = .ok (.iinc 4 1, 3) := by decide +kernel
theorem dX4_ifRound_73 : decode cX4_ifRound 73 = .ok (.goto (-37), 3) := by decide +kernel
theorem dX4_ifRound_76 : decode cX4_ifRound 76 = .ok (.iload_n 3, 1) := by decide +kernel
theorem dX4_ifRound_77 : decode cX4_ifRound 77 = .ok (.ireturn, 1) := by decide +kernel
theorem dX4_matters_0 : decode cX4_matters 0 = .ok (.aload_n 0, 1) := by decide +kernel
theorem dX4_matters_1 : decode cX4_matters 1 = .ok (.iload_n 1, 1) := by decide +kernel
theorem dX4_matters_2 : decode cX4_matters 2 = .ok (.iload_n 2, 1) := by decide +kernel
theorem dX4_matters_3 : decode cX4_matters 3 = .ok (.invokevirtual 45, 3) := by decide +kernel
theorem dX4_matters_6 : decode cX4_matters 6 = .ok (.istore_n 3, 1) := by decide +kernel
theorem dX4_matters_7 : decode cX4_matters 7 = .ok (.iconst 0, 1) := by decide +kernel
theorem dX4_matters_8 : decode cX4_matters 8 = .ok (.istore 4, 2) := by decide +kernel
theorem dX4_matters_10 : decode cX4_matters 10 = .ok (.iconst 0, 1) := by decide +kernel
theorem dX4_matters_11 : decode cX4_matters 11 = .ok (.istore 5, 2) := by decide +kernel
theorem dX4_matters_13 : decode cX4_matters 13 = .ok (.iload 5, 2) := by decide +kernel
theorem dX4_matters_15 : decode cX4_matters 15 = .ok (.iconst 3, 1) := by decide +kernel
theorem dX4_matters_16 : decode cX4_matters 16 = .ok (.if_icmp .ge 35, 3) := by decide +kernel
theorem dX4_matters_19 : decode cX4_matters 19 = .ok (.aload_n 0, 1) := by decide +kernel
theorem dX4_matters_20 : decode cX4_matters 20 = .ok (.iload_n 1, 1) := by decide +kernel
theorem dX4_matters_21 : decode cX4_matters 21 = .ok (.iload_n 2, 1) := by decide +kernel
theorem dX4_matters_22 : decode cX4_matters 22 = .ok (.iload 5, 2) := by decide +kernel
theorem dX4_matters_24 : decode cX4_matters 24 = .ok (.invokevirtual 68, 3) := by decide +kernel
theorem dX4_matters_27 : decode cX4_matters 27 = .ok (.iload 4, 2) := by decide +kernel
theorem dX4_matters_29 : decode cX4_matters 29 = .ok (.aload_n 0, 1) := by decide +kernel
theorem dX4_matters_30 : decode cX4_matters 30 = .ok (.iload_n 2, 1) := by decide +kernel
theorem dX4_matters_31 : decode cX4_matters 31 = .ok (.invokevirtual 129, 3) := by decide +kernel
theorem dX4_matters_34 : decode cX4_matters 34 = .ok (.ifCond .ne 7, 3) := by decide +kernel
theorem dX4_matters_37 : decode cX4_matters 37 = .ok (.iconst 1, 1) := by decide +kernel
theorem dX4_matters_38 : decode cX4_matters 38 = .ok (.goto 4, 3) := by decide +kernel
theorem dX4_matters_41 : decode cX4_matters 41 = .ok (.iconst 0, 1) := by decide +kernel
theorem dX4_matters_42 : decode cX4_matters 42 = .ok (.iadd, 1) := by decide +kernel
theorem dX4_matters_43 : decode cX4_matters 43 = .ok (.istore 4, 2) := by decide +kernel
theorem dX4_matters_45 : decode cX4_matters 45 = .ok (.iinc 5 1, 3) := by decide +kernel
theorem dX4_matters_48 : decode cX4_matters 48 = .ok (.goto (-35), 3) := by decide +kernel
theorem dX4_matters_51 : decode cX4_matters 51 = .ok (.aload_n 0, 1) := by decide +kernel
theorem dX4_matters_52 : decode cX4_matters 52 = .ok (.iload_n 1, 1) := by decide +kernel
theorem dX4_matters_53 : decode cX4_matters 53 = .ok (.iload_n 2, 1) := by decide +kernel
theorem dX4_matters_54 : decode cX4_matters 54 = .ok (.iload_n 3, 1) := by decide +kernel
theorem dX4_matters_55 : decode cX4_matters 55 = .ok (.invokevirtual 68, 3) := by decide +kernel
theorem dX4_matters_58 : decode cX4_matters 58 = .ok (.iload 4, 2) := by decide +kernel
theorem dX4_matters_60 : decode cX4_matters 60 = .ok (.ifCond .le 13, 3) := by decide +kernel
theorem dX4_matters_63 : decode cX4_matters 63 = .ok (.iload 4, 2) := by decide +kernel
theorem dX4_matters_65 : decode cX4_matters 65 = .ok (.iconst 3, 1) := by decide +kernel
theorem dX4_matters_66 : decode cX4_matters 66 = .ok (.if_icmp .ge 7, 3) := by decide +kernel
theorem dX4_matters_69 : decode cX4_matters 69 = .ok (.iconst 1, 1) := by decide +kernel
theorem dX4_matters_70 : decode cX4_matters 70 = .ok (.goto 4, 3) := by decide +kernel
theorem dX4_matters_73 : decode cX4_matters 73 = .ok (.iconst 0, 1) := by decide +kernel
theorem dX4_matters_74 : decode cX4_matters 74 = .ok (.ireturn, 1) := by decide +kernel
theorem dX4_decides_0 : decode cX4_decides 0 = .ok (.iload_n 1, 1) := by decide +kernel
theorem dX4_decides_1 : decode cX4_decides 1 = .ok (.invokestatic 52, 3) := by decide +kernel
theorem dX4_decides_4 : decode cX4_decides 4 = .ok (.ifCond .ne 5, 3) := by decide +kernel
theorem dX4_decides_7 : decode cX4_decides 7 = .ok (.iconst (-1), 1) := by decide +kernel
theorem dX4_decides_8 : decode cX4_decides 8 = .ok (.ireturn, 1) := by decide +kernel
theorem dX4_decides_9 : decode cX4_decides 9 = .ok (.iconst 0, 1) := by decide +kernel
theorem dX4_decides_10 : decode cX4_decides 10 = .ok (.istore_n 2, 1) := by decide +kernel
theorem dX4_decides_11 : decode cX4_decides 11 = .ok (.iconst 0, 1) := by decide +kernel
theorem dX4_decides_12 : decode cX4_decides 12 = .ok (.istore_n 3, 1) := by decide +kernel
theorem dX4_decides_13 : decode cX4_decides 13 = .ok (.iload_n 3, 1) := by decide +kernel
theorem dX4_decides_14 : decode cX4_decides 14 = .ok (.iconst 3, 1) := by decide +kernel
theorem dX4_decides_15 : decode cX4_decides 15 = .ok (.if_icmp .ge 36, 3) := by decide +kernel
theorem dX4_decides_18 : decode cX4_decides 18 = .ok (.aload_n 0, 1) := by decide +kernel
theorem dX4_decides_19 : decode cX4_decides 19 = .ok (.iload_n 1, 1) := by decide +kernel
theorem dX4_decides_20 : decode cX4_decides 20 = .ok (.invokevirtual 55, 3) := by decide +kernel
theorem dX4_decides_23 : decode cX4_decides 23 = .ok (.ifCond .eq 28, 3) := by decide +kernel
theorem dX4_decides_26 : decode cX4_decides 26 = .ok (.iload_n 2, 1) := by decide +kernel
theorem dX4_decides_27 : decode cX4_decides 27 = .ok (.aload_n 0, 1) := by decide +kernel
theorem dX4_decides_28 : decode cX4_decides 28 = .ok (.iload_n 3, 1) := by decide +kernel
theorem dX4_decides_29 : decode cX4_decides 29 = .ok (.iload_n 1, 1) := by decide +kernel
theorem dX4_decides_30 : decode cX4_decides 30 = .ok (.invokevirtual 132, 3) := by decide +kernel
theorem dX4_decides_33 : decode cX4_decides 33 = .ok (.ifCond .eq 9, 3) := by decide +kernel
theorem dX4_decides_36 : decode cX4_decides 36 = .ok (.iconst 1, 1) := by decide +kernel
theorem dX4_decides_37 : decode cX4_decides 37 = .ok (.iload_n 3, 1) := by decide +kernel
theorem dX4_decides_38 : decode cX4_decides 38 = .ok (.ishl, 1) := by decide +kernel
theorem dX4_decides_39 : decode cX4_decides 39 = .ok (.goto 4, 3) := by decide +kernel
theorem dX4_decides_42 : decode cX4_decides 42 = .ok (.iconst 0, 1) := by decide +kernel
theorem dX4_decides_43 : decode cX4_decides 43 = .ok (.ior, 1) := by decide +kernel
theorem dX4_decides_44 : decode cX4_decides 44 = .ok (.istore_n 2, 1) := by decide +kernel
theorem dX4_decides_45 : decode cX4_decides 45 = .ok (.iinc 3 1, 3) := by decide +kernel
theorem dX4_decides_48 : decode cX4_decides 48 = .ok (.goto (-35), 3) := by decide +kernel
theorem dX4_decides_51 : decode cX4_decides 51 = .ok (.iload_n 2, 1) := by decide +kernel
theorem dX4_decides_52 : decode cX4_decides 52 = .ok (.ireturn, 1) := by decide +kernel
theorem dX4_agree_0 : decode cX4_agree 0 = .ok (.iload_n 1, 1) := by decide +kernel
theorem dX4_agree_1 : decode cX4_agree 1 = .ok (.invokestatic 48, 3) := by decide +kernel
theorem dX4_agree_4 : decode cX4_agree 4 = .ok (.ifCond .eq 10, 3) := by decide +kernel
theorem dX4_agree_7 : decode cX4_agree 7 = .ok (.iload_n 2, 1) := by decide +kernel
theorem dX4_agree_8 : decode cX4_agree 8 = .ok (.invokestatic 48, 3) := by decide +kernel
theorem dX4_agree_11 : decode cX4_agree 11 = .ok (.ifCond .ne 5, 3) := by decide +kernel
theorem dX4_agree_14 : decode cX4_agree 14 = .ok (.iconst (-1), 1) := by decide +kernel
theorem dX4_agree_15 : decode cX4_agree 15 = .ok (.ireturn, 1) := by decide +kernel
theorem dX4_agree_16 : decode cX4_agree 16 = .ok (.iconst 0, 1) := by decide +kernel
theorem dX4_agree_17 : decode cX4_agree 17 = .ok (.istore_n 3, 1) := by decide +kernel
theorem dX4_agree_18 : decode cX4_agree 18 = .ok (.iconst 0, 1) := by decide +kernel
theorem dX4_agree_19 : decode cX4_agree 19 = .ok (.istore 4, 2) := by decide +kernel
theorem dX4_agree_21 : decode cX4_agree 21 = .ok (.iconst 0, 1) := by decide +kernel
theorem dX4_agree_22 : decode cX4_agree 22 = .ok (.istore 5, 2) := by decide +kernel
theorem dX4_agree_24 : decode cX4_agree 24 = .ok (.iload 5, 2) := by decide +kernel
theorem dX4_agree_26 : decode cX4_agree 26 = .ok (.bipush 30, 2) := by decide +kernel
theorem dX4_agree_28 : decode cX4_agree 28 = .ok (.if_icmp .ge 90, 3) := by decide +kernel
theorem dX4_agree_31 : decode cX4_agree 31 = .ok (.aload_n 0, 1) := by decide +kernel
theorem dX4_agree_32 : decode cX4_agree 32 = .ok (.iload 5, 2) := by decide +kernel
theorem dX4_agree_34 : decode cX4_agree 34 = .ok (.invokevirtual 55, 3) := by decide +kernel
theorem dX4_agree_37 : decode cX4_agree 37 = .ok (.ifCond .eq 27, 3) := by decide +kernel
theorem dX4_agree_40 : decode cX4_agree 40 = .ok (.aload_n 0, 1) := by decide +kernel
theorem dX4_agree_41 : decode cX4_agree 41 = .ok (.iload_n 1, 1) := by decide +kernel
theorem dX4_agree_42 : decode cX4_agree 42 = .ok (.iload 5, 2) := by decide +kernel
theorem dX4_agree_44 : decode cX4_agree 44 = .ok (.invokevirtual 45, 3) := by decide +kernel
theorem dX4_agree_47 : decode cX4_agree 47 = .ok (.ifCond .le 17, 3) := by decide +kernel
theorem dX4_agree_50 : decode cX4_agree 50 = .ok (.aload_n 0, 1) := by decide +kernel
theorem dX4_agree_51 : decode cX4_agree 51 = .ok (.iload_n 2, 1) := by decide +kernel
theorem dX4_agree_52 : decode cX4_agree 52 = .ok (.iload 5, 2) := by decide +kernel
theorem dX4_agree_54 : decode cX4_agree 54 = .ok (.invokevirtual 45, 3) := by decide +kernel
theorem dX4_agree_57 : decode cX4_agree 57 = .ok (.ifCond .le 7, 3) := by decide +kernel
theorem dX4_agree_60 : decode cX4_agree 60 = .ok (.iconst 1, 1) := by decide +kernel
theorem dX4_agree_61 : decode cX4_agree 61 = .ok (.goto 4, 3) := by decide +kernel
theorem dX4_agree_64 : decode cX4_agree 64 = .ok (.iconst 0, 1) := by decide +kernel
theorem dX4_agree_65 : decode cX4_agree 65 = .ok (.istore 6, 2) := by decide +kernel
theorem dX4_agree_67 : decode cX4_agree 67 = .ok (.iload_n 3, 1) := by decide +kernel
theorem dX4_agree_68 : decode cX4_agree 68 = .ok (.iload 6, 2) := by decide +kernel
theorem dX4_agree_70 : decode cX4_agree 70 = .ok (.ifCond .eq 7, 3) := by decide +kernel
theorem dX4_agree_73 : decode cX4_agree 73 = .ok (.iconst 1, 1) := by decide +kernel
theorem dX4_agree_74 : decode cX4_agree 74 = .ok (.goto 4, 3) := by decide +kernel
theorem dX4_agree_77 : decode cX4_agree 77 = .ok (.iconst 0, 1) := by decide +kernel
theorem dX4_agree_78 : decode cX4_agree 78 = .ok (.iadd, 1) := by decide +kernel
theorem dX4_agree_79 : decode cX4_agree 79 = .ok (.istore_n 3, 1) := by decide +kernel
theorem dX4_agree_80 : decode cX4_agree 80 = .ok (.iload 4, 2) := by decide +kernel
theorem dX4_agree_82 : decode cX4_agree 82 = .ok (.iload 6, 2) := by decide +kernel
theorem dX4_agree_84 : decode cX4_agree 84 = .ok (.ifCond .eq 24, 3) := by decide +kernel
theorem dX4_agree_87 : decode cX4_agree 87 = .ok (.aload_n 0, 1) := by decide +kernel
theorem dX4_agree_88 : decode cX4_agree 88 = .ok (.iload_n 1, 1) := by decide +kernel
theorem dX4_agree_89 : decode cX4_agree 89 = .ok (.iload 5, 2) := by decide +kernel
theorem dX4_agree_91 : decode cX4_agree 91 = .ok (.invokevirtual 45, 3) := by decide +kernel
theorem dX4_agree_94 : decode cX4_agree 94 = .ok (.aload_n 0, 1) := by decide +kernel
theorem dX4_agree_95 : decode cX4_agree 95 = .ok (.iload_n 2, 1) := by decide +kernel
theorem dX4_agree_96 : decode cX4_agree 96 = .ok (.iload 5, 2) := by decide +kernel
theorem dX4_agree_98 : decode cX4_agree 98 = .ok (.invokevirtual 45, 3) := by decide +kernel
theorem dX4_agree_101 : decode cX4_agree 101 = .ok (.if_icmp .ne 7, 3) := by decide +kernel
theorem dX4_agree_104 : decode cX4_agree 104 = .ok (.iconst 1, 1) := by decide +kernel
theorem dX4_agree_105 : decode cX4_agree 105 = .ok (.goto 4, 3) := by decide +kernel
theorem dX4_agree_108 : decode cX4_agree 108 = .ok (.iconst 0, 1) := by decide +kernel
theorem dX4_agree_109 : decode cX4_agree 109 = .ok (.iadd, 1) := by decide +kernel
theorem dX4_agree_110 : decode cX4_agree 110 = .ok (.istore 4, 2) := by decide +kernel
theorem dX4_agree_112 : decode cX4_agree 112 = .ok (.iinc 5 1, 3) := by decide +kernel
theorem dX4_agree_115 : decode cX4_agree 115 = .ok (.goto (-91), 3) := by decide +kernel
theorem dX4_agree_118 : decode cX4_agree 118 = .ok (.iload_n 3, 1) := by decide +kernel
theorem dX4_agree_119 : decode cX4_agree 119 = .ok (.ifCond .ne 8, 3) := by decide +kernel
theorem dX4_agree_122 : decode cX4_agree 122 = .ok (.bipush 100, 2) := by decide +kernel
theorem dX4_agree_124 : decode cX4_agree 124 = .ok (.goto 10, 3) := by decide +kernel
theorem dX4_agree_127 : decode cX4_agree 127 = .ok (.bipush 100, 2) := by decide +kernel
theorem dX4_agree_129 : decode cX4_agree 129 = .ok (.iload 4, 2) := by decide +kernel
theorem dX4_agree_131 : decode cX4_agree 131 = .ok (.imul, 1) := by decide +kernel
theorem dX4_agree_132 : decode cX4_agree 132 = .ok (.iload_n 3, 1) := by decide +kernel
theorem dX4_agree_133 : decode cX4_agree 133 = .ok (.idiv, 1) := by decide +kernel
theorem dX4_agree_134 : decode cX4_agree 134 = .ok (.ireturn, 1) := by decide +kernel
theorem dX4_paperFor_0 : decode cX4_paperFor 0 = .ok (.iconst 0, 1) := by decide +kernel
theorem dX4_paperFor_1 : decode cX4_paperFor 1 = .ok (.istore_n 1, 1) := by decide +kernel
theorem dX4_paperFor_2 : decode cX4_paperFor 2 = .ok (.iconst 0, 1) := by decide +kernel
theorem dX4_paperFor_3 : decode cX4_paperFor 3 = .ok (.istore_n 2, 1) := by decide +kernel
theorem dX4_paperFor_4 : decode cX4_paperFor 4 = .ok (.iload_n 2, 1) := by decide +kernel
theorem dX4_paperFor_5 : decode cX4_paperFor 5 = .ok (.bipush 30, 2) := by decide +kernel
theorem dX4_paperFor_7 : decode cX4_paperFor 7 = .ok (.if_icmp .ge 43, 3) := by decide +kernel
theorem dX4_paperFor_10 : decode cX4_paperFor 10 = .ok (.iload_n 1, 1) := by decide +kernel
theorem dX4_paperFor_11 : decode cX4_paperFor 11 = .ok (.aload_n 0, 1) := by decide +kernel
theorem dX4_paperFor_12 : decode cX4_paperFor 12 = .ok (.getfield 7, 3) := by decide +kernel
theorem dX4_paperFor_15 : decode cX4_paperFor 15 = .ok (.iload_n 2, 1) := by decide +kernel
theorem dX4_paperFor_16 : decode cX4_paperFor 16 = .ok (.iconst 0, 1) := by decide +kernel
theorem dX4_paperFor_17 : decode cX4_paperFor 17 = .ok (.invokestatic 26, 3) := by decide +kernel
theorem dX4_paperFor_20 : decode cX4_paperFor 20 = .ok (.iaload, 1) := by decide +kernel
theorem dX4_paperFor_21 : decode cX4_paperFor 21 = .ok (.iconst 1, 1) := by decide +kernel
theorem dX4_paperFor_22 : decode cX4_paperFor 22 = .ok (.if_icmp .ne 19, 3) := by decide +kernel
theorem dX4_paperFor_25 : decode cX4_paperFor 25 = .ok (.aload_n 0, 1) := by decide +kernel
theorem dX4_paperFor_26 : decode cX4_paperFor 26 = .ok (.getfield 7, 3) := by decide +kernel
theorem dX4_paperFor_29 : decode cX4_paperFor 29 = .ok (.iload_n 2, 1) := by decide +kernel
theorem dX4_paperFor_30 : decode cX4_paperFor 30 = .ok (.iconst 2, 1) := by decide +kernel
theorem dX4_paperFor_31 : decode cX4_paperFor 31 = .ok (.invokestatic 26, 3) := by decide +kernel
theorem dX4_paperFor_34 : decode cX4_paperFor 34 = .ok (.iaload, 1) := by decide +kernel
theorem dX4_paperFor_35 : decode cX4_paperFor 35 = .ok (.invokestatic 95, 3) := by decide +kernel
theorem dX4_paperFor_38 : decode cX4_paperFor 38 = .ok (.goto 4, 3) := by decide +kernel
theorem dX4_paperFor_41 : decode cX4_paperFor 41 = .ok (.iconst 0, 1) := by decide +kernel
theorem dX4_paperFor_42 : decode cX4_paperFor 42 = .ok (.iadd, 1) := by decide +kernel
theorem dX4_paperFor_43 : decode cX4_paperFor 43 = .ok (.istore_n 1, 1) := by decide +kernel
theorem dX4_paperFor_44 : decode cX4_paperFor 44 = .ok (.iinc 2 1, 3) := by decide +kernel
theorem dX4_paperFor_47 : decode cX4_paperFor 47 = .ok (.goto (-43), 3) := by decide +kernel
theorem dX4_paperFor_50 : decode cX4_paperFor 50 = .ok (.iload_n 1, 1) := by decide +kernel
theorem dX4_paperFor_51 : decode cX4_paperFor 51 = .ok (.ireturn, 1) := by decide +kernel
theorem dX4_put_0 : decode cX4_put 0 = .ok (.iconst 0, 1) := by decide +kernel
theorem dX4_put_1 : decode cX4_put 1 = .ok (.istore_n 3, 1) := by decide +kernel
theorem dX4_put_2 : decode cX4_put 2 = .ok (.iconst 1, 1) := by decide +kernel
theorem dX4_put_3 : decode cX4_put 3 = .ok (.istore 4, 2) := by decide +kernel
theorem dX4_put_5 : decode cX4_put 5 = .ok (.iconst 0, 1) := by decide +kernel
theorem dX4_put_6 : decode cX4_put 6 = .ok (.istore 5, 2) := by decide +kernel
theorem dX4_put_8 : decode cX4_put 8 = .ok (.iconst 0, 1) := by decide +kernel
theorem dX4_put_9 : decode cX4_put 9 = .ok (.istore 6, 2) := by decide +kernel
theorem dX4_put_11 : decode cX4_put 11 = .ok (.iload 6, 2) := by decide +kernel
theorem dX4_put_13 : decode cX4_put 13 = .ok (.bipush 8, 2) := by decide +kernel
theorem dX4_put_15 : decode cX4_put 15 = .ok (.if_icmp .ge 90, 3) := by decide +kernel
theorem dX4_put_18 : decode cX4_put 18 = .ok (.lload_n 1, 1) := by decide +kernel
theorem dX4_put_19 : decode cX4_put 19 = .ok (.bipush 8, 2) := by decide +kernel
theorem dX4_put_21 : decode cX4_put 21 = .ok (.iload 6, 2) := by decide +kernel
theorem dX4_put_23 : decode cX4_put 23 = .ok (.imul, 1) := by decide +kernel
theorem dX4_put_24 : decode cX4_put 24 = .ok (.lshr, 1) := by decide +kernel
theorem dX4_put_25 : decode cX4_put 25 = .ok (.ldc2_w 135, 3) := by decide +kernel
theorem dX4_put_28 : decode cX4_put 28 = .ok (.land, 1) := by decide +kernel
theorem dX4_put_29 : decode cX4_put 29 = .ok (.l2i, 1) := by decide +kernel
theorem dX4_put_30 : decode cX4_put 30 = .ok (.istore 7, 2) := by decide +kernel
theorem dX4_put_32 : decode cX4_put 32 = .ok (.iload 5, 2) := by decide +kernel
theorem dX4_put_34 : decode cX4_put 34 = .ok (.ifCond .ne 8, 3) := by decide +kernel
theorem dX4_put_37 : decode cX4_put 37 = .ok (.iload 7, 2) := by decide +kernel
theorem dX4_put_39 : decode cX4_put 39 = .ok (.ifCond .ne 7, 3) := by decide +kernel
theorem dX4_put_42 : decode cX4_put 42 = .ok (.iconst 1, 1) := by decide +kernel
theorem dX4_put_43 : decode cX4_put 43 = .ok (.goto 4, 3) := by decide +kernel
theorem dX4_put_46 : decode cX4_put 46 = .ok (.iconst 0, 1) := by decide +kernel
theorem dX4_put_47 : decode cX4_put 47 = .ok (.istore 5, 2) := by decide +kernel
theorem dX4_put_49 : decode cX4_put 49 = .ok (.iload 4, 2) := by decide +kernel
theorem dX4_put_51 : decode cX4_put 51 = .ok (.ifCond .eq 32, 3) := by decide +kernel
theorem dX4_put_54 : decode cX4_put 54 = .ok (.iload 5, 2) := by decide +kernel
theorem dX4_put_56 : decode cX4_put 56 = .ok (.ifCond .eq 11, 3) := by decide +kernel
theorem dX4_put_59 : decode cX4_put 59 = .ok (.iload 7, 2) := by decide +kernel
theorem dX4_put_61 : decode cX4_put 61 = .ok (.ifCond .ne 22, 3) := by decide +kernel
theorem dX4_put_64 : decode cX4_put 64 = .ok (.goto 15, 3) := by decide +kernel
theorem dX4_put_67 : decode cX4_put 67 = .ok (.iload 7, 2) := by decide +kernel
theorem dX4_put_69 : decode cX4_put 69 = .ok (.bipush 33, 2) := by decide +kernel
theorem dX4_put_71 : decode cX4_put 71 = .ok (.bipush 126, 2) := by decide +kernel
theorem dX4_put_73 : decode cX4_put 73 = .ok (.invokestatic 33, 3) := by decide +kernel
theorem dX4_put_76 : decode cX4_put 76 = .ok (.ifCond .eq 7, 3) := by decide +kernel
theorem dX4_put_79 : decode cX4_put 79 = .ok (.iconst 1, 1) := by decide +kernel
theorem dX4_put_80 : decode cX4_put 80 = .ok (.goto 4, 3) := by decide +kernel
theorem dX4_put_83 : decode cX4_put 83 = .ok (.iconst 0, 1) := by decide +kernel
theorem dX4_put_84 : decode cX4_put 84 = .ok (.istore 4, 2) := by decide +kernel
theorem dX4_put_86 : decode cX4_put 86 = .ok (.iload_n 3, 1) := by decide +kernel
theorem dX4_put_87 : decode cX4_put 87 = .ok (.iload 5, 2) := by decide +kernel
theorem dX4_put_89 : decode cX4_put 89 = .ok (.ifCond .eq 7, 3) := by decide +kernel
theorem dX4_put_92 : decode cX4_put 92 = .ok (.iconst 0, 1) := by decide +kernel
theorem dX4_put_93 : decode cX4_put 93 = .ok (.goto 4, 3) := by decide +kernel
theorem dX4_put_96 : decode cX4_put 96 = .ok (.iconst 1, 1) := by decide +kernel
theorem dX4_put_97 : decode cX4_put 97 = .ok (.iadd, 1) := by decide +kernel
theorem dX4_put_98 : decode cX4_put 98 = .ok (.istore_n 3, 1) := by decide +kernel
theorem dX4_put_99 : decode cX4_put 99 = .ok (.iinc 6 1, 3) := by decide +kernel
theorem dX4_put_102 : decode cX4_put 102 = .ok (.goto (-91), 3) := by decide +kernel
theorem dX4_put_105 : decode cX4_put 105 = .ok (.iload 4, 2) := by decide +kernel
theorem dX4_put_107 : decode cX4_put 107 = .ok (.ifCond .eq 7, 3) := by decide +kernel
theorem dX4_put_110 : decode cX4_put 110 = .ok (.iload_n 3, 1) := by decide +kernel
theorem dX4_put_111 : decode cX4_put 111 = .ok (.ifCond .ne 6, 3) := by decide +kernel
theorem dX4_put_114 : decode cX4_put 114 = .ok (.bipush (-2), 2) := by decide +kernel
theorem dX4_put_116 : decode cX4_put 116 = .ok (.ireturn, 1) := by decide +kernel
theorem dX4_put_117 : decode cX4_put 117 = .ok (.aload_n 0, 1) := by decide +kernel
theorem dX4_put_118 : decode cX4_put 118 = .ok (.getfield 126, 3) := by decide +kernel
theorem dX4_put_121 : decode cX4_put 121 = .ok (.iload_n 3, 1) := by decide +kernel
theorem dX4_put_122 : decode cX4_put 122 = .ok (.iadd, 1) := by decide +kernel
theorem dX4_put_123 : decode cX4_put 123 = .ok (.bipush 80, 2) := by decide +kernel
theorem dX4_put_125 : decode cX4_put 125 = .ok (.if_icmp .le 6, 3) := by decide +kernel
theorem dX4_put_128 : decode cX4_put 128 = .ok (.bipush (-4), 2) := by decide +kernel
theorem dX4_put_130 : decode cX4_put 130 = .ok (.ireturn, 1) := by decide +kernel
theorem dX4_put_131 : decode cX4_put 131 = .ok (.iload_n 3, 1) := by decide +kernel
theorem dX4_put_132 : decode cX4_put 132 = .ok (.iconst 1, 1) := by decide +kernel
theorem dX4_put_133 : decode cX4_put 133 = .ok (.isub, 1) := by decide +kernel
theorem dX4_put_134 : decode cX4_put 134 = .ok (.istore 6, 2) := by decide +kernel
theorem dX4_put_136 : decode cX4_put 136 = .ok (.iload 6, 2) := by decide +kernel
theorem dX4_put_138 : decode cX4_put 138 = .ok (.ifCond .lt 40, 3) := by decide +kernel
theorem dX4_put_141 : decode cX4_put 141 = .ok (.aload_n 0, 1) := by decide +kernel
theorem dX4_put_142 : decode cX4_put 142 = .ok (.getfield 23, 3) := by decide +kernel
theorem dX4_put_145 : decode cX4_put 145 = .ok (.aload_n 0, 1) := by decide +kernel
theorem dX4_put_146 : decode cX4_put 146 = .ok (.getfield 126, 3) := by decide +kernel
theorem dX4_put_149 : decode cX4_put 149 = .ok (.lload_n 1, 1) := by decide +kernel
theorem dX4_put_150 : decode cX4_put 150 = .ok (.bipush 8, 2) := by decide +kernel
theorem dX4_put_152 : decode cX4_put 152 = .ok (.iload 6, 2) := by decide +kernel
theorem dX4_put_154 : decode cX4_put 154 = .ok (.imul, 1) := by decide +kernel
theorem dX4_put_155 : decode cX4_put 155 = .ok (.lshr, 1) := by decide +kernel
theorem dX4_put_156 : decode cX4_put 156 = .ok (.ldc2_w 135, 3) := by decide +kernel
theorem dX4_put_159 : decode cX4_put 159 = .ok (.land, 1) := by decide +kernel
theorem dX4_put_160 : decode cX4_put 160 = .ok (.l2i, 1) := by decide +kernel
theorem dX4_put_161 : decode cX4_put 161 = .ok (.iastore, 1) := by decide +kernel
theorem dX4_put_162 : decode cX4_put 162 = .ok (.aload_n 0, 1) := by decide +kernel
theorem dX4_put_163 : decode cX4_put 163 = .ok (.dup, 1) := by decide +kernel
theorem dX4_put_164 : decode cX4_put 164 = .ok (.getfield 126, 3) := by decide +kernel
theorem dX4_put_167 : decode cX4_put 167 = .ok (.iconst 1, 1) := by decide +kernel
theorem dX4_put_168 : decode cX4_put 168 = .ok (.iadd, 1) := by decide +kernel
theorem dX4_put_169 : decode cX4_put 169 = .ok (.putfield 126, 3) := by decide +kernel
theorem dX4_put_172 : decode cX4_put 172 = .ok (.iinc 6 (-1), 3) := by decide +kernel
theorem dX4_put_175 : decode cX4_put 175 = .ok (.goto (-39), 3) := by decide +kernel
theorem dX4_put_178 : decode cX4_put 178 = .ok (.aload_n 0, 1) := by decide +kernel
theorem dX4_put_179 : decode cX4_put 179 = .ok (.getfield 126, 3) := by decide +kernel
theorem dX4_put_182 : decode cX4_put 182 = .ok (.ireturn, 1) := by decide +kernel
theorem dX4_wipe_0 : decode cX4_wipe 0 = .ok (.aload_n 0, 1) := by decide +kernel
theorem dX4_wipe_1 : decode cX4_wipe 1 = .ok (.getfield 126, 3) := by decide +kernel
theorem dX4_wipe_4 : decode cX4_wipe 4 = .ok (.istore_n 1, 1) := by decide +kernel
theorem dX4_wipe_5 : decode cX4_wipe 5 = .ok (.aload_n 0, 1) := by decide +kernel
theorem dX4_wipe_6 : decode cX4_wipe 6 = .ok (.iconst 0, 1) := by decide +kernel
theorem dX4_wipe_7 : decode cX4_wipe 7 = .ok (.putfield 126, 3) := by decide +kernel
theorem dX4_wipe_10 : decode cX4_wipe 10 = .ok (.iload_n 1, 1) := by decide +kernel
theorem dX4_wipe_11 : decode cX4_wipe 11 = .ok (.ireturn, 1) := by decide +kernel
theorem dX4_sign_0 : decode cX4_sign 0 = .ok (.iload_n 1, 1) := by decide +kernel
theorem dX4_sign_1 : decode cX4_sign 1 = .ok (.aload_n 0, 1) := by decide +kernel
theorem dX4_sign_2 : decode cX4_sign 2 = .ok (.getfield 126, 3) := by decide +kernel
theorem dX4_sign_5 : decode cX4_sign 5 = .ok (.if_icmp .ge 12, 3) := by decide +kernel
theorem dX4_sign_8 : decode cX4_sign 8 = .ok (.aload_n 0, 1) := by decide +kernel
theorem dX4_sign_9 : decode cX4_sign 9 = .ok (.getfield 23, 3) := by decide +kernel
theorem dX4_sign_12 : decode cX4_sign 12 = .ok (.iload_n 1, 1) := by decide +kernel
theorem dX4_sign_13 : decode cX4_sign 13 = .ok (.iaload, 1) := by decide +kernel
theorem dX4_sign_14 : decode cX4_sign 14 = .ok (.goto 4, 3) := by decide +kernel
theorem dX4_sign_17 : decode cX4_sign 17 = .ok (.iconst (-1), 1) := by decide +kernel
theorem dX4_sign_18 : decode cX4_sign 18 = .ok (.ireturn, 1) := by decide +kernel
theorem dX4_digit_0 : decode cX4_digit 0 = .ok (.aload_n 0, 1) := by decide +kernel
theorem dX4_digit_1 : decode cX4_digit 1 = .ok (.iload_n 1, 1) := by decide +kernel
theorem dX4_digit_2 : decode cX4_digit 2 = .ok (.invokevirtual 137, 3) := by decide +kernel
theorem dX4_digit_5 : decode cX4_digit 5 = .ok (.bipush 48, 2) := by decide +kernel
theorem dX4_digit_7 : decode cX4_digit 7 = .ok (.bipush 57, 2) := by decide +kernel
theorem dX4_digit_9 : decode cX4_digit 9 = .ok (.invokestatic 33, 3) := by decide +kernel
theorem dX4_digit_12 : decode cX4_digit 12 = .ok (.ifCond .eq 14, 3) := by decide +kernel
theorem dX4_digit_15 : decode cX4_digit 15 = .ok (.aload_n 0, 1) := by decide +kernel
theorem dX4_digit_16 : decode cX4_digit 16 = .ok (.iload_n 1, 1) := by decide +kernel
theorem dX4_digit_17 : decode cX4_digit 17 = .ok (.invokevirtual 137, 3) := by decide +kernel
theorem dX4_digit_20 : decode cX4_digit 20 = .ok (.bipush 48, 2) := by decide +kernel
theorem dX4_digit_22 : decode cX4_digit 22 = .ok (.isub, 1) := by decide +kernel
theorem dX4_digit_23 : decode cX4_digit 23 = .ok (.goto 4, 3) := by decide +kernel
theorem dX4_digit_26 : decode cX4_digit 26 = .ok (.iconst (-1), 1) := by decide +kernel
theorem dX4_digit_27 : decode cX4_digit 27 = .ok (.ireturn, 1) := by decide +kernel
theorem dX4_numberEnd_0 : decode cX4_numberEnd 0 = .ok (.iload_n 1, 1) := by decide +kernel
theorem dX4_numberEnd_1 : decode cX4_numberEnd 1 = .ok (.ifCond .ge 5, 3) := by decide +kernel
theorem dX4_numberEnd_4 : decode cX4_numberEnd 4 = .ok (.iload_n 1, 1) := by decide +kernel
theorem dX4_numberEnd_5 : decode cX4_numberEnd 5 = .ok (.ireturn, 1) := by decide +kernel
theorem dX4_numberEnd_6 : decode cX4_numberEnd 6 = .ok (.aload_n 0, 1) := by decide +kernel
theorem dX4_numberEnd_7 : decode cX4_numberEnd 7 = .ok (.iload_n 1, 1) := by decide +kernel
theorem dX4_numberEnd_8 : decode cX4_numberEnd 8 = .ok (.invokevirtual 140, 3) := by decide +kernel
theorem dX4_numberEnd_11 : decode cX4_numberEnd 11 = .ok (.ifCond .ge 7, 3) := by decide +kernel
theorem dX4_numberEnd_14 : decode cX4_numberEnd 14 = .ok (.iconst (-1), 1) := by decide +kernel
theorem dX4_numberEnd_15 : decode cX4_numberEnd 15 = .ok (.iload_n 1, 1) := by decide +kernel
theorem dX4_numberEnd_16 : decode cX4_numberEnd 16 = .ok (.isub, 1) := by decide +kernel
theorem dX4_numberEnd_17 : decode cX4_numberEnd 17 = .ok (.ireturn, 1) := by decide +kernel
theorem dX4_numberEnd_18 : decode cX4_numberEnd 18 = .ok (.aload_n 0, 1) := by decide +kernel
theorem dX4_numberEnd_19 : decode cX4_numberEnd 19 = .ok (.iload_n 1, 1) := by decide +kernel
theorem dX4_numberEnd_20 : decode cX4_numberEnd 20 = .ok (.invokevirtual 140, 3) := by decide +kernel
theorem dX4_numberEnd_23 : decode cX4_numberEnd 23 = .ok (.ifCond .le 19, 3) := by decide +kernel
theorem dX4_numberEnd_26 : decode cX4_numberEnd 26 = .ok (.aload_n 0, 1) := by decide +kernel
theorem dX4_numberEnd_27 : decode cX4_numberEnd 27 = .ok (.iload_n 1, 1) := by decide +kernel
theorem dX4_numberEnd_28 : decode cX4_numberEnd 28 = .ok (.iconst 1, 1) := by decide +kernel
theorem dX4_numberEnd_29 : decode cX4_numberEnd 29 = .ok (.iadd, 1) := by decide +kernel
theorem dX4_numberEnd_30 : decode cX4_numberEnd 30 = .ok (.invokevirtual 140, 3) := by decide +kernel
theorem dX4_numberEnd_33 : decode cX4_numberEnd 33 = .ok (.ifCond .lt 9, 3) := by decide +kernel
theorem dX4_numberEnd_36 : decode cX4_numberEnd 36 = .ok (.iload_n 1, 1) := by decide +kernel
theorem dX4_numberEnd_37 : decode cX4_numberEnd 37 = .ok (.iconst 2, 1) := by decide +kernel
theorem dX4_numberEnd_38 : decode cX4_numberEnd 38 = .ok (.iadd, 1) := by decide +kernel
theorem dX4_numberEnd_39 : decode cX4_numberEnd 39 = .ok (.goto 6, 3) := by decide +kernel
theorem dX4_numberEnd_42 : decode cX4_numberEnd 42 = .ok (.iload_n 1, 1) := by decide +kernel
theorem dX4_numberEnd_43 : decode cX4_numberEnd 43 = .ok (.iconst 1, 1) := by decide +kernel
theorem dX4_numberEnd_44 : decode cX4_numberEnd 44 = .ok (.iadd, 1) := by decide +kernel
theorem dX4_numberEnd_45 : decode cX4_numberEnd 45 = .ok (.ireturn, 1) := by decide +kernel
theorem dX4_numberAt_0 : decode cX4_numberAt 0 = .ok (.aload_n 0, 1) := by decide +kernel
theorem dX4_numberAt_1 : decode cX4_numberAt 1 = .ok (.iload_n 1, 1) := by decide +kernel
theorem dX4_numberAt_2 : decode cX4_numberAt 2 = .ok (.invokevirtual 143, 3) := by decide +kernel
theorem dX4_numberAt_5 : decode cX4_numberAt 5 = .ok (.iload_n 1, 1) := by decide +kernel
theorem dX4_numberAt_6 : decode cX4_numberAt 6 = .ok (.iconst 1, 1) := by decide +kernel
theorem dX4_numberAt_7 : decode cX4_numberAt 7 = .ok (.iadd, 1) := by decide +kernel
theorem dX4_numberAt_8 : decode cX4_numberAt 8 = .ok (.if_icmp .ne 11, 3) := by decide +kernel
theorem dX4_numberAt_11 : decode cX4_numberAt 11 = .ok (.aload_n 0, 1) := by decide +kernel
theorem dX4_numberAt_12 : decode cX4_numberAt 12 = .ok (.iload_n 1, 1) := by decide +kernel
theorem dX4_numberAt_13 : decode cX4_numberAt 13 = .ok (.invokevirtual 140, 3) := by decide +kernel
theorem dX4_numberAt_16 : decode cX4_numberAt 16 = .ok (.goto 19, 3) := by decide +kernel
theorem dX4_numberAt_19 : decode cX4_numberAt 19 = .ok (.bipush 10, 2) := by decide +kernel
theorem dX4_numberAt_21 : decode cX4_numberAt 21 = .ok (.aload_n 0, 1) := by decide +kernel
theorem dX4_numberAt_22 : decode cX4_numberAt 22 = .ok (.iload_n 1, 1) := by decide +kernel
theorem dX4_numberAt_23 : decode cX4_numberAt 23 = .ok (.invokevirtual 140, 3) := by decide +kernel
theorem dX4_numberAt_26 : decode cX4_numberAt 26 = .ok (.imul, 1) := by decide +kernel
theorem dX4_numberAt_27 : decode cX4_numberAt 27 = .ok (.aload_n 0, 1) := by decide +kernel
theorem dX4_numberAt_28 : decode cX4_numberAt 28 = .ok (.iload_n 1, 1) := by decide +kernel
theorem dX4_numberAt_29 : decode cX4_numberAt 29 = .ok (.iconst 1, 1) := by decide +kernel
theorem dX4_numberAt_30 : decode cX4_numberAt 30 = .ok (.iadd, 1) := by decide +kernel
theorem dX4_numberAt_31 : decode cX4_numberAt 31 = .ok (.invokevirtual 140, 3) := by decide +kernel
theorem dX4_numberAt_34 : decode cX4_numberAt 34 = .ok (.iadd, 1) := by decide +kernel
theorem dX4_numberAt_35 : decode cX4_numberAt 35 = .ok (.ireturn, 1) := by decide +kernel
theorem dX4_digitEnd_0 : decode cX4_digitEnd 0 = .ok (.iload_n 1, 1) := by decide +kernel
theorem dX4_digitEnd_1 : decode cX4_digitEnd 1 = .ok (.ifCond .ge 7, 3) := by decide +kernel
theorem dX4_digitEnd_4 : decode cX4_digitEnd 4 = .ok (.iload_n 1, 1) := by decide +kernel
theorem dX4_digitEnd_5 : decode cX4_digitEnd 5 = .ok (.goto 20, 3) := by decide +kernel
theorem dX4_digitEnd_8 : decode cX4_digitEnd 8 = .ok (.aload_n 0, 1) := by decide +kernel
theorem dX4_digitEnd_9 : decode cX4_digitEnd 9 = .ok (.iload_n 1, 1) := by decide +kernel
theorem dX4_digitEnd_10 : decode cX4_digitEnd 10 = .ok (.invokevirtual 140, 3) := by decide +kernel
theorem dX4_digitEnd_13 : decode cX4_digitEnd 13 = .ok (.ifCond .ge 9, 3) := by decide +kernel
theorem dX4_digitEnd_16 : decode cX4_digitEnd 16 = .ok (.iconst (-1), 1) := by decide +kernel
theorem dX4_digitEnd_17 : decode cX4_digitEnd 17 = .ok (.iload_n 1, 1) := by decide +kernel
theorem dX4_digitEnd_18 : decode cX4_digitEnd 18 = .ok (.isub, 1) := by decide +kernel
theorem dX4_digitEnd_19 : decode cX4_digitEnd 19 = .ok (.goto 6, 3) := by decide +kernel
theorem dX4_digitEnd_22 : decode cX4_digitEnd 22 = .ok (.iload_n 1, 1) := by decide +kernel
theorem dX4_digitEnd_23 : decode cX4_digitEnd 23 = .ok (.iconst 1, 1) := by decide +kernel
theorem dX4_digitEnd_24 : decode cX4_digitEnd 24 = .ok (.iadd, 1) := by decide +kernel
theorem dX4_digitEnd_25 : decode cX4_digitEnd 25 = .ok (.ireturn, 1) := by decide +kernel
theorem dX4_behind_0 : decode cX4_behind 0 = .ok (.iload_n 1, 1) := by decide +kernel
theorem dX4_behind_1 : decode cX4_behind 1 = .ok (.ifCond .ge 7, 3) := by decide +kernel
theorem dX4_behind_4 : decode cX4_behind 4 = .ok (.iload_n 1, 1) := by decide +kernel
theorem dX4_behind_5 : decode cX4_behind 5 = .ok (.goto 21, 3) := by decide +kernel
theorem dX4_behind_8 : decode cX4_behind 8 = .ok (.aload_n 0, 1) := by decide +kernel
theorem dX4_behind_9 : decode cX4_behind 9 = .ok (.iload_n 1, 1) := by decide +kernel
theorem dX4_behind_10 : decode cX4_behind 10 = .ok (.invokevirtual 137, 3) := by decide +kernel
theorem dX4_behind_13 : decode cX4_behind 13 = .ok (.iload_n 2, 1) := by decide +kernel
theorem dX4_behind_14 : decode cX4_behind 14 = .ok (.if_icmp .ne 9, 3) := by decide +kernel
theorem dX4_behind_17 : decode cX4_behind 17 = .ok (.iload_n 1, 1) := by decide +kernel
theorem dX4_behind_18 : decode cX4_behind 18 = .ok (.iconst 1, 1) := by decide +kernel
theorem dX4_behind_19 : decode cX4_behind 19 = .ok (.iadd, 1) := by decide +kernel
theorem dX4_behind_20 : decode cX4_behind 20 = .ok (.goto 6, 3) := by decide +kernel
theorem dX4_behind_23 : decode cX4_behind 23 = .ok (.iconst (-1), 1) := by decide +kernel
theorem dX4_behind_24 : decode cX4_behind 24 = .ok (.iload_n 1, 1) := by decide +kernel
theorem dX4_behind_25 : decode cX4_behind 25 = .ok (.isub, 1) := by decide +kernel
theorem dX4_behind_26 : decode cX4_behind 26 = .ok (.ireturn, 1) := by decide +kernel
theorem dX4_orderEnd_0 : decode cX4_orderEnd 0 = .ok (.aload_n 0, 1) := by decide +kernel
theorem dX4_orderEnd_1 : decode cX4_orderEnd 1 = .ok (.iload_n 1, 1) := by decide +kernel
theorem dX4_orderEnd_2 : decode cX4_orderEnd 2 = .ok (.invokevirtual 137, 3) := by decide +kernel
theorem dX4_orderEnd_5 : decode cX4_orderEnd 5 = .ok (.tableswitch 181 97 120 #[129, 173, 181, 181, 181, 181, 181, 181, 181, 181, 181, 181, 181, 181, 111, 155, 181, 151, 181, 111, 181, 181, 181, 111], 111) := by decide +kernel
theorem dX4_orderEnd_116 : decode cX4_orderEnd 116 = .ok (.aload_n 0, 1) := by decide +kernel
theorem dX4_orderEnd_117 : decode cX4_orderEnd 117 = .ok (.aload_n 0, 1) := by decide +kernel
theorem dX4_orderEnd_118 : decode cX4_orderEnd 118 = .ok (.aload_n 0, 1) := by decide +kernel
theorem dX4_orderEnd_119 : decode cX4_orderEnd 119 = .ok (.iload_n 1, 1) := by decide +kernel
theorem dX4_orderEnd_120 : decode cX4_orderEnd 120 = .ok (.iconst 1, 1) := by decide +kernel
theorem dX4_orderEnd_121 : decode cX4_orderEnd 121 = .ok (.iadd, 1) := by decide +kernel
theorem dX4_orderEnd_122 : decode cX4_orderEnd 122 = .ok (.invokevirtual 146, 3) := by decide +kernel
theorem dX4_orderEnd_125 : decode cX4_orderEnd 125 = .ok (.bipush 46, 2) := by decide +kernel
theorem dX4_orderEnd_127 : decode cX4_orderEnd 127 = .ok (.invokevirtual 149, 3) := by decide +kernel
theorem dX4_orderEnd_130 : decode cX4_orderEnd 130 = .ok (.invokevirtual 143, 3) := by decide +kernel
theorem dX4_orderEnd_133 : decode cX4_orderEnd 133 = .ok (.ireturn, 1) := by decide +kernel
theorem dX4_orderEnd_134 : decode cX4_orderEnd 134 = .ok (.aload_n 0, 1) := by decide +kernel
theorem dX4_orderEnd_135 : decode cX4_orderEnd 135 = .ok (.aload_n 0, 1) := by decide +kernel
theorem dX4_orderEnd_136 : decode cX4_orderEnd 136 = .ok (.aload_n 0, 1) := by decide +kernel
theorem dX4_orderEnd_137 : decode cX4_orderEnd 137 = .ok (.aload_n 0, 1) := by decide +kernel
theorem dX4_orderEnd_138 : decode cX4_orderEnd 138 = .ok (.iload_n 1, 1) := by decide +kernel
theorem dX4_orderEnd_139 : decode cX4_orderEnd 139 = .ok (.iconst 1, 1) := by decide +kernel
theorem dX4_orderEnd_140 : decode cX4_orderEnd 140 = .ok (.iadd, 1) := by decide +kernel
theorem dX4_orderEnd_141 : decode cX4_orderEnd 141 = .ok (.invokevirtual 146, 3) := by decide +kernel
theorem dX4_orderEnd_144 : decode cX4_orderEnd 144 = .ok (.invokevirtual 146, 3) := by decide +kernel
theorem dX4_orderEnd_147 : decode cX4_orderEnd 147 = .ok (.bipush 46, 2) := by decide +kernel
theorem dX4_orderEnd_149 : decode cX4_orderEnd 149 = .ok (.invokevirtual 149, 3) := by decide +kernel
theorem dX4_orderEnd_152 : decode cX4_orderEnd 152 = .ok (.invokevirtual 143, 3) := by decide +kernel
theorem dX4_orderEnd_155 : decode cX4_orderEnd 155 = .ok (.ireturn, 1) := by decide +kernel
theorem dX4_orderEnd_156 : decode cX4_orderEnd 156 = .ok (.iload_n 1, 1) := by decide +kernel
theorem dX4_orderEnd_157 : decode cX4_orderEnd 157 = .ok (.iconst 1, 1) := by decide +kernel
theorem dX4_orderEnd_158 : decode cX4_orderEnd 158 = .ok (.iadd, 1) := by decide +kernel
theorem dX4_orderEnd_159 : decode cX4_orderEnd 159 = .ok (.ireturn, 1) := by decide +kernel
theorem dX4_orderEnd_160 : decode cX4_orderEnd 160 = .ok (.aload_n 0, 1) := by decide +kernel
theorem dX4_orderEnd_161 : decode cX4_orderEnd 161 = .ok (.aload_n 0, 1) := by decide +kernel
theorem dX4_orderEnd_162 : decode cX4_orderEnd 162 = .ok (.aload_n 0, 1) := by decide +kernel
theorem dX4_orderEnd_163 : decode cX4_orderEnd 163 = .ok (.iload_n 1, 1) := by decide +kernel
theorem dX4_orderEnd_164 : decode cX4_orderEnd 164 = .ok (.iconst 1, 1) := by decide +kernel
theorem dX4_orderEnd_165 : decode cX4_orderEnd 165 = .ok (.iadd, 1) := by decide +kernel
theorem dX4_orderEnd_166 : decode cX4_orderEnd 166 = .ok (.invokevirtual 143, 3) := by decide +kernel
theorem dX4_orderEnd_169 : decode cX4_orderEnd 169 = .ok (.bipush 42, 2) := by decide +kernel
theorem dX4_orderEnd_171 : decode cX4_orderEnd 171 = .ok (.invokevirtual 149, 3) := by decide +kernel
theorem dX4_orderEnd_174 : decode cX4_orderEnd 174 = .ok (.invokevirtual 146, 3) := by decide +kernel
theorem dX4_orderEnd_177 : decode cX4_orderEnd 177 = .ok (.ireturn, 1) := by decide +kernel
theorem dX4_orderEnd_178 : decode cX4_orderEnd 178 = .ok (.aload_n 0, 1) := by decide +kernel
theorem dX4_orderEnd_179 : decode cX4_orderEnd 179 = .ok (.iload_n 1, 1) := by decide +kernel
theorem dX4_orderEnd_180 : decode cX4_orderEnd 180 = .ok (.iconst 1, 1) := by decide +kernel
theorem dX4_orderEnd_181 : decode cX4_orderEnd 181 = .ok (.iadd, 1) := by decide +kernel
theorem dX4_orderEnd_182 : decode cX4_orderEnd 182 = .ok (.invokevirtual 143, 3) := by decide +kernel
theorem dX4_orderEnd_185 : decode cX4_orderEnd 185 = .ok (.ireturn, 1) := by decide +kernel
theorem dX4_orderEnd_186 : decode cX4_orderEnd 186 = .ok (.iconst (-1), 1) := by decide +kernel
theorem dX4_orderEnd_187 : decode cX4_orderEnd 187 = .ok (.iload_n 1, 1) := by decide +kernel
theorem dX4_orderEnd_188 : decode cX4_orderEnd 188 = .ok (.isub, 1) := by decide +kernel
theorem dX4_orderEnd_189 : decode cX4_orderEnd 189 = .ok (.ireturn, 1) := by decide +kernel
theorem dX4_fault_0 : decode cX4_fault 0 = .ok (.iconst 0, 1) := by decide +kernel
theorem dX4_fault_1 : decode cX4_fault 1 = .ok (.istore_n 1, 1) := by decide +kernel
theorem dX4_fault_2 : decode cX4_fault 2 = .ok (.iconst 0, 1) := by decide +kernel
theorem dX4_fault_3 : decode cX4_fault 3 = .ok (.istore_n 2, 1) := by decide +kernel
theorem dX4_fault_4 : decode cX4_fault 4 = .ok (.iload_n 2, 1) := by decide +kernel
theorem dX4_fault_5 : decode cX4_fault 5 = .ok (.bipush 80, 2) := by decide +kernel
theorem dX4_fault_7 : decode cX4_fault 7 = .ok (.if_icmp .ge 50, 3) := by decide +kernel
theorem dX4_fault_10 : decode cX4_fault 10 = .ok (.aload_n 0, 1) := by decide +kernel
theorem dX4_fault_11 : decode cX4_fault 11 = .ok (.iload_n 1, 1) := by decide +kernel
theorem dX4_fault_12 : decode cX4_fault 12 = .ok (.invokevirtual 152, 3) := by decide +kernel
theorem dX4_fault_15 : decode cX4_fault 15 = .ok (.istore_n 3, 1) := by decide +kernel
theorem dX4_fault_16 : decode cX4_fault 16 = .ok (.iload_n 3, 1) := by decide +kernel
theorem dX4_fault_17 : decode cX4_fault 17 = .ok (.ifCond .ge 7, 3) := by decide +kernel
theorem dX4_fault_20 : decode cX4_fault 20 = .ok (.iconst (-1), 1) := by decide +kernel
theorem dX4_fault_21 : decode cX4_fault 21 = .ok (.iload_n 3, 1) := by decide +kernel
theorem dX4_fault_22 : decode cX4_fault 22 = .ok (.isub, 1) := by decide +kernel
theorem dX4_fault_23 : decode cX4_fault 23 = .ok (.ireturn, 1) := by decide +kernel
theorem dX4_fault_24 : decode cX4_fault 24 = .ok (.iload_n 3, 1) := by decide +kernel
theorem dX4_fault_25 : decode cX4_fault 25 = .ok (.aload_n 0, 1) := by decide +kernel
theorem dX4_fault_26 : decode cX4_fault 26 = .ok (.getfield 126, 3) := by decide +kernel
theorem dX4_fault_29 : decode cX4_fault 29 = .ok (.if_icmp .ne 6, 3) := by decide +kernel
theorem dX4_fault_32 : decode cX4_fault 32 = .ok (.bipush (-6), 2) := by decide +kernel
theorem dX4_fault_34 : decode cX4_fault 34 = .ok (.ireturn, 1) := by decide +kernel
theorem dX4_fault_35 : decode cX4_fault 35 = .ok (.aload_n 0, 1) := by decide +kernel
theorem dX4_fault_36 : decode cX4_fault 36 = .ok (.iload_n 3, 1) := by decide +kernel
theorem dX4_fault_37 : decode cX4_fault 37 = .ok (.invokevirtual 137, 3) := by decide +kernel
theorem dX4_fault_40 : decode cX4_fault 40 = .ok (.bipush 59, 2) := by decide +kernel
theorem dX4_fault_42 : decode cX4_fault 42 = .ok (.if_icmp .eq 5, 3) := by decide +kernel
theorem dX4_fault_45 : decode cX4_fault 45 = .ok (.iload_n 3, 1) := by decide +kernel
theorem dX4_fault_46 : decode cX4_fault 46 = .ok (.ireturn, 1) := by decide +kernel
theorem dX4_fault_47 : decode cX4_fault 47 = .ok (.iload_n 3, 1) := by decide +kernel
theorem dX4_fault_48 : decode cX4_fault 48 = .ok (.iconst 1, 1) := by decide +kernel
theorem dX4_fault_49 : decode cX4_fault 49 = .ok (.iadd, 1) := by decide +kernel
theorem dX4_fault_50 : decode cX4_fault 50 = .ok (.istore_n 1, 1) := by decide +kernel
theorem dX4_fault_51 : decode cX4_fault 51 = .ok (.iinc 2 1, 3) := by decide +kernel
theorem dX4_fault_54 : decode cX4_fault 54 = .ok (.goto (-50), 3) := by decide +kernel
theorem dX4_fault_57 : decode cX4_fault 57 = .ok (.bipush (-6), 2) := by decide +kernel
theorem dX4_fault_59 : decode cX4_fault 59 = .ok (.ireturn, 1) := by decide +kernel
theorem dX4_markIn_0 : decode cX4_markIn 0 = .ok (.aload_n 0, 1) := by decide +kernel
theorem dX4_markIn_1 : decode cX4_markIn 1 = .ok (.iload_n 1, 1) := by decide +kernel
theorem dX4_markIn_2 : decode cX4_markIn 2 = .ok (.invokevirtual 137, 3) := by decide +kernel
theorem dX4_markIn_5 : decode cX4_markIn 5 = .ok (.bipush 116, 2) := by decide +kernel
theorem dX4_markIn_7 : decode cX4_markIn 7 = .ok (.if_icmp .ne 7, 3) := by decide +kernel
theorem dX4_markIn_10 : decode cX4_markIn 10 = .ok (.iconst 1, 1) := by decide +kernel
theorem dX4_markIn_11 : decode cX4_markIn 11 = .ok (.goto 18, 3) := by decide +kernel
theorem dX4_markIn_14 : decode cX4_markIn 14 = .ok (.aload_n 0, 1) := by decide +kernel
theorem dX4_markIn_15 : decode cX4_markIn 15 = .ok (.iload_n 1, 1) := by decide +kernel
theorem dX4_markIn_16 : decode cX4_markIn 16 = .ok (.invokevirtual 137, 3) := by decide +kernel
theorem dX4_markIn_19 : decode cX4_markIn 19 = .ok (.bipush 120, 2) := by decide +kernel
theorem dX4_markIn_21 : decode cX4_markIn 21 = .ok (.if_icmp .ne 7, 3) := by decide +kernel
theorem dX4_markIn_24 : decode cX4_markIn 24 = .ok (.iconst 2, 1) := by decide +kernel
theorem dX4_markIn_25 : decode cX4_markIn 25 = .ok (.goto 4, 3) := by decide +kernel
theorem dX4_markIn_28 : decode cX4_markIn 28 = .ok (.iconst 0, 1) := by decide +kernel
theorem dX4_markIn_29 : decode cX4_markIn 29 = .ok (.ireturn, 1) := by decide +kernel
theorem dX4_whyNot_0 : decode cX4_whyNot 0 = .ok (.aload_n 0, 1) := by decide +kernel
theorem dX4_whyNot_1 : decode cX4_whyNot 1 = .ok (.iload_n 1, 1) := by decide +kernel
theorem dX4_whyNot_2 : decode cX4_whyNot 2 = .ok (.iconst 1, 1) := by decide +kernel
theorem dX4_whyNot_3 : decode cX4_whyNot 3 = .ok (.iadd, 1) := by decide +kernel
theorem dX4_whyNot_4 : decode cX4_whyNot 4 = .ok (.invokevirtual 140, 3) := by decide +kernel
theorem dX4_whyNot_7 : decode cX4_whyNot 7 = .ok (.istore_n 2, 1) := by decide +kernel
theorem dX4_whyNot_8 : decode cX4_whyNot 8 = .ok (.aload_n 0, 1) := by decide +kernel
theorem dX4_whyNot_9 : decode cX4_whyNot 9 = .ok (.iload_n 1, 1) := by decide +kernel
theorem dX4_whyNot_10 : decode cX4_whyNot 10 = .ok (.invokevirtual 137, 3) := by decide +kernel
theorem dX4_whyNot_13 : decode cX4_whyNot 13 = .ok (.lookupswitch 131 #[(97, 43), (98, 108), (112, 83), (114, 63)], 43) := by decide +kernel
theorem dX4_whyNot_56 : decode cX4_whyNot 56 = .ok (.aload_n 0, 1) := by decide +kernel
theorem dX4_whyNot_57 : decode cX4_whyNot 57 = .ok (.iload_n 2, 1) := by decide +kernel
theorem dX4_whyNot_58 : decode cX4_whyNot 58 = .ok (.aload_n 0, 1) := by decide +kernel
theorem dX4_whyNot_59 : decode cX4_whyNot 59 = .ok (.iload_n 1, 1) := by decide +kernel
theorem dX4_whyNot_60 : decode cX4_whyNot 60 = .ok (.iconst 2, 1) := by decide +kernel
theorem dX4_whyNot_61 : decode cX4_whyNot 61 = .ok (.iadd, 1) := by decide +kernel
theorem dX4_whyNot_62 : decode cX4_whyNot 62 = .ok (.invokevirtual 140, 3) := by decide +kernel
theorem dX4_whyNot_65 : decode cX4_whyNot 65 = .ok (.aload_n 0, 1) := by decide +kernel
theorem dX4_whyNot_66 : decode cX4_whyNot 66 = .ok (.iload_n 1, 1) := by decide +kernel
theorem dX4_whyNot_67 : decode cX4_whyNot 67 = .ok (.iconst 4, 1) := by decide +kernel
theorem dX4_whyNot_68 : decode cX4_whyNot 68 = .ok (.iadd, 1) := by decide +kernel
theorem dX4_whyNot_69 : decode cX4_whyNot 69 = .ok (.invokevirtual 155, 3) := by decide +kernel
theorem dX4_whyNot_72 : decode cX4_whyNot 72 = .ok (.invokevirtual 72, 3) := by decide +kernel
theorem dX4_whyNot_75 : decode cX4_whyNot 75 = .ok (.ireturn, 1) := by decide +kernel
theorem dX4_whyNot_76 : decode cX4_whyNot 76 = .ok (.aload_n 0, 1) := by decide +kernel
theorem dX4_whyNot_77 : decode cX4_whyNot 77 = .ok (.getfield 7, 3) := by decide +kernel
theorem dX4_whyNot_80 : decode cX4_whyNot 80 = .ok (.sipush 166, 3) := by decide +kernel
theorem dX4_whyNot_83 : decode cX4_whyNot 83 = .ok (.iaload, 1) := by decide +kernel
theorem dX4_whyNot_84 : decode cX4_whyNot 84 = .ok (.bipush 99, 2) := by decide +kernel
theorem dX4_whyNot_86 : decode cX4_whyNot 86 = .ok (.if_icmp .ne 8, 3) := by decide +kernel
theorem dX4_whyNot_89 : decode cX4_whyNot 89 = .ok (.bipush (-5), 2) := by decide +kernel
theorem dX4_whyNot_91 : decode cX4_whyNot 91 = .ok (.goto 4, 3) := by decide +kernel
theorem dX4_whyNot_94 : decode cX4_whyNot 94 = .ok (.iconst 0, 1) := by decide +kernel
theorem dX4_whyNot_95 : decode cX4_whyNot 95 = .ok (.ireturn, 1) := by decide +kernel
theorem dX4_whyNot_96 : decode cX4_whyNot 96 = .ok (.aload_n 0, 1) := by decide +kernel
theorem dX4_whyNot_97 : decode cX4_whyNot 97 = .ok (.aload_n 0, 1) := by decide +kernel
theorem dX4_whyNot_98 : decode cX4_whyNot 98 = .ok (.iload_n 1, 1) := by decide +kernel
theorem dX4_whyNot_99 : decode cX4_whyNot 99 = .ok (.iconst 1, 1) := by decide +kernel
theorem dX4_whyNot_100 : decode cX4_whyNot 100 = .ok (.iadd, 1) := by decide +kernel
theorem dX4_whyNot_101 : decode cX4_whyNot 101 = .ok (.invokevirtual 155, 3) := by decide +kernel
theorem dX4_whyNot_104 : decode cX4_whyNot 104 = .ok (.aload_n 0, 1) := by decide +kernel
theorem dX4_whyNot_105 : decode cX4_whyNot 105 = .ok (.aload_n 0, 1) := by decide +kernel
theorem dX4_whyNot_106 : decode cX4_whyNot 106 = .ok (.iload_n 1, 1) := by decide +kernel
theorem dX4_whyNot_107 : decode cX4_whyNot 107 = .ok (.iconst 1, 1) := by decide +kernel
theorem dX4_whyNot_108 : decode cX4_whyNot 108 = .ok (.iadd, 1) := by decide +kernel
theorem dX4_whyNot_109 : decode cX4_whyNot 109 = .ok (.invokevirtual 143, 3) := by decide +kernel
theorem dX4_whyNot_112 : decode cX4_whyNot 112 = .ok (.iconst 1, 1) := by decide +kernel
theorem dX4_whyNot_113 : decode cX4_whyNot 113 = .ok (.iadd, 1) := by decide +kernel
theorem dX4_whyNot_114 : decode cX4_whyNot 114 = .ok (.invokevirtual 140, 3) := by decide +kernel
theorem dX4_whyNot_117 : decode cX4_whyNot 117 = .ok (.invokevirtual 98, 3) := by decide +kernel
theorem dX4_whyNot_120 : decode cX4_whyNot 120 = .ok (.ireturn, 1) := by decide +kernel
theorem dX4_whyNot_121 : decode cX4_whyNot 121 = .ok (.aload_n 0, 1) := by decide +kernel
theorem dX4_whyNot_122 : decode cX4_whyNot 122 = .ok (.iload_n 1, 1) := by decide +kernel
theorem dX4_whyNot_123 : decode cX4_whyNot 123 = .ok (.iconst 1, 1) := by decide +kernel
theorem dX4_whyNot_124 : decode cX4_whyNot 124 = .ok (.iadd, 1) := by decide +kernel
theorem dX4_whyNot_125 : decode cX4_whyNot 125 = .ok (.invokevirtual 155, 3) := by decide +kernel
theorem dX4_whyNot_128 : decode cX4_whyNot 128 = .ok (.iconst 1, 1) := by decide +kernel
theorem dX4_whyNot_129 : decode cX4_whyNot 129 = .ok (.bipush 99, 2) := by decide +kernel
theorem dX4_whyNot_131 : decode cX4_whyNot 131 = .ok (.invokestatic 33, 3) := by decide +kernel
theorem dX4_whyNot_134 : decode cX4_whyNot 134 = .ok (.ifCond .eq 7, 3) := by decide +kernel
theorem dX4_whyNot_137 : decode cX4_whyNot 137 = .ok (.iconst 0, 1) := by decide +kernel
theorem dX4_whyNot_138 : decode cX4_whyNot 138 = .ok (.goto 5, 3) := by decide +kernel
theorem dX4_whyNot_141 : decode cX4_whyNot 141 = .ok (.bipush (-2), 2) := by decide +kernel
theorem dX4_whyNot_143 : decode cX4_whyNot 143 = .ok (.ireturn, 1) := by decide +kernel
theorem dX4_whyNot_144 : decode cX4_whyNot 144 = .ok (.aload_n 0, 1) := by decide +kernel
theorem dX4_whyNot_145 : decode cX4_whyNot 145 = .ok (.iload_n 2, 1) := by decide +kernel
theorem dX4_whyNot_146 : decode cX4_whyNot 146 = .ok (.aload_n 0, 1) := by decide +kernel
theorem dX4_whyNot_147 : decode cX4_whyNot 147 = .ok (.iload_n 1, 1) := by decide +kernel
theorem dX4_whyNot_148 : decode cX4_whyNot 148 = .ok (.iconst 3, 1) := by decide +kernel
theorem dX4_whyNot_149 : decode cX4_whyNot 149 = .ok (.iadd, 1) := by decide +kernel
theorem dX4_whyNot_150 : decode cX4_whyNot 150 = .ok (.invokevirtual 155, 3) := by decide +kernel
theorem dX4_whyNot_153 : decode cX4_whyNot 153 = .ok (.aload_n 0, 1) := by decide +kernel
theorem dX4_whyNot_154 : decode cX4_whyNot 154 = .ok (.iload_n 1, 1) := by decide +kernel
theorem dX4_whyNot_155 : decode cX4_whyNot 155 = .ok (.invokevirtual 158, 3) := by decide +kernel
theorem dX4_whyNot_158 : decode cX4_whyNot 158 = .ok (.invokevirtual 61, 3) := by decide +kernel
theorem dX4_whyNot_161 : decode cX4_whyNot 161 = .ok (.ireturn, 1) := by decide +kernel
theorem dX4_does_0 : decode cX4_does 0 = .ok (.aload_n 0, 1) := by decide +kernel
theorem dX4_does_1 : decode cX4_does 1 = .ok (.iload_n 1, 1) := by decide +kernel
theorem dX4_does_2 : decode cX4_does 2 = .ok (.iconst 1, 1) := by decide +kernel
theorem dX4_does_3 : decode cX4_does 3 = .ok (.iadd, 1) := by decide +kernel
theorem dX4_does_4 : decode cX4_does 4 = .ok (.invokevirtual 140, 3) := by decide +kernel
theorem dX4_does_7 : decode cX4_does 7 = .ok (.istore_n 2, 1) := by decide +kernel
theorem dX4_does_8 : decode cX4_does 8 = .ok (.aload_n 0, 1) := by decide +kernel
theorem dX4_does_9 : decode cX4_does 9 = .ok (.iload_n 1, 1) := by decide +kernel
theorem dX4_does_10 : decode cX4_does 10 = .ok (.invokevirtual 137, 3) := by decide +kernel
theorem dX4_does_13 : decode cX4_does 13 = .ok (.lookupswitch 105 #[(97, 43), (98, 93), (112, 68), (114, 63)], 43) := by decide +kernel
theorem dX4_does_56 : decode cX4_does 56 = .ok (.aload_n 0, 1) := by decide +kernel
theorem dX4_does_57 : decode cX4_does 57 = .ok (.iload_n 2, 1) := by decide +kernel
theorem dX4_does_58 : decode cX4_does 58 = .ok (.aload_n 0, 1) := by decide +kernel
theorem dX4_does_59 : decode cX4_does 59 = .ok (.iload_n 1, 1) := by decide +kernel
theorem dX4_does_60 : decode cX4_does 60 = .ok (.iconst 2, 1) := by decide +kernel
theorem dX4_does_61 : decode cX4_does 61 = .ok (.iadd, 1) := by decide +kernel
theorem dX4_does_62 : decode cX4_does 62 = .ok (.invokevirtual 140, 3) := by decide +kernel
theorem dX4_does_65 : decode cX4_does 65 = .ok (.aload_n 0, 1) := by decide +kernel
theorem dX4_does_66 : decode cX4_does 66 = .ok (.iload_n 1, 1) := by decide +kernel
theorem dX4_does_67 : decode cX4_does 67 = .ok (.iconst 4, 1) := by decide +kernel
theorem dX4_does_68 : decode cX4_does 68 = .ok (.iadd, 1) := by decide +kernel
theorem dX4_does_69 : decode cX4_does 69 = .ok (.invokevirtual 155, 3) := by decide +kernel
theorem dX4_does_72 : decode cX4_does 72 = .ok (.invokevirtual 75, 3) := by decide +kernel
theorem dX4_does_75 : decode cX4_does 75 = .ok (.ireturn, 1) := by decide +kernel
theorem dX4_does_76 : decode cX4_does 76 = .ok (.aload_n 0, 1) := by decide +kernel
theorem dX4_does_77 : decode cX4_does 77 = .ok (.invokevirtual 91, 3) := by decide +kernel
theorem dX4_does_80 : decode cX4_does 80 = .ok (.ireturn, 1) := by decide +kernel
theorem dX4_does_81 : decode cX4_does 81 = .ok (.aload_n 0, 1) := by decide +kernel
theorem dX4_does_82 : decode cX4_does 82 = .ok (.aload_n 0, 1) := by decide +kernel
theorem dX4_does_83 : decode cX4_does 83 = .ok (.iload_n 1, 1) := by decide +kernel
theorem dX4_does_84 : decode cX4_does 84 = .ok (.iconst 1, 1) := by decide +kernel
theorem dX4_does_85 : decode cX4_does 85 = .ok (.iadd, 1) := by decide +kernel
theorem dX4_does_86 : decode cX4_does 86 = .ok (.invokevirtual 155, 3) := by decide +kernel
theorem dX4_does_89 : decode cX4_does 89 = .ok (.aload_n 0, 1) := by decide +kernel
theorem dX4_does_90 : decode cX4_does 90 = .ok (.aload_n 0, 1) := by decide +kernel
theorem dX4_does_91 : decode cX4_does 91 = .ok (.iload_n 1, 1) := by decide +kernel
theorem dX4_does_92 : decode cX4_does 92 = .ok (.iconst 1, 1) := by decide +kernel
theorem dX4_does_93 : decode cX4_does 93 = .ok (.iadd, 1) := by decide +kernel
theorem dX4_does_94 : decode cX4_does 94 = .ok (.invokevirtual 143, 3) := by decide +kernel
theorem dX4_does_97 : decode cX4_does 97 = .ok (.iconst 1, 1) := by decide +kernel
theorem dX4_does_98 : decode cX4_does 98 = .ok (.iadd, 1) := by decide +kernel
theorem dX4_does_99 : decode cX4_does 99 = .ok (.invokevirtual 140, 3) := by decide +kernel
theorem dX4_does_102 : decode cX4_does 102 = .ok (.invokevirtual 101, 3) := by decide +kernel
theorem dX4_does_105 : decode cX4_does 105 = .ok (.ireturn, 1) := by decide +kernel
theorem dX4_does_106 : decode cX4_does 106 = .ok (.aload_n 0, 1) := by decide +kernel
theorem dX4_does_107 : decode cX4_does 107 = .ok (.aload_n 0, 1) := by decide +kernel
theorem dX4_does_108 : decode cX4_does 108 = .ok (.iload_n 1, 1) := by decide +kernel
theorem dX4_does_109 : decode cX4_does 109 = .ok (.iconst 1, 1) := by decide +kernel
theorem dX4_does_110 : decode cX4_does 110 = .ok (.iadd, 1) := by decide +kernel
theorem dX4_does_111 : decode cX4_does 111 = .ok (.invokevirtual 155, 3) := by decide +kernel
theorem dX4_does_114 : decode cX4_does 114 = .ok (.invokevirtual 104, 3) := by decide +kernel
theorem dX4_does_117 : decode cX4_does 117 = .ok (.ireturn, 1) := by decide +kernel
theorem dX4_does_118 : decode cX4_does 118 = .ok (.aload_n 0, 1) := by decide +kernel
theorem dX4_does_119 : decode cX4_does 119 = .ok (.iload_n 2, 1) := by decide +kernel
theorem dX4_does_120 : decode cX4_does 120 = .ok (.aload_n 0, 1) := by decide +kernel
theorem dX4_does_121 : decode cX4_does 121 = .ok (.iload_n 1, 1) := by decide +kernel
theorem dX4_does_122 : decode cX4_does 122 = .ok (.iconst 3, 1) := by decide +kernel
theorem dX4_does_123 : decode cX4_does 123 = .ok (.iadd, 1) := by decide +kernel
theorem dX4_does_124 : decode cX4_does 124 = .ok (.invokevirtual 155, 3) := by decide +kernel
theorem dX4_does_127 : decode cX4_does 127 = .ok (.aload_n 0, 1) := by decide +kernel
theorem dX4_does_128 : decode cX4_does 128 = .ok (.iload_n 1, 1) := by decide +kernel
theorem dX4_does_129 : decode cX4_does 129 = .ok (.invokevirtual 158, 3) := by decide +kernel
theorem dX4_does_132 : decode cX4_does 132 = .ok (.invokevirtual 68, 3) := by decide +kernel
theorem dX4_does_135 : decode cX4_does 135 = .ok (.iconst 0, 1) := by decide +kernel
theorem dX4_does_136 : decode cX4_does 136 = .ok (.ireturn, 1) := by decide +kernel
theorem dX4_carryOut_0 : decode cX4_carryOut 0 = .ok (.aload_n 0, 1) := by decide +kernel
theorem dX4_carryOut_1 : decode cX4_carryOut 1 = .ok (.invokevirtual 161, 3) := by decide +kernel
theorem dX4_carryOut_4 : decode cX4_carryOut 4 = .ok (.bipush (-6), 2) := by decide +kernel
theorem dX4_carryOut_6 : decode cX4_carryOut 6 = .ok (.if_icmp .eq 6, 3) := by decide +kernel
theorem dX4_carryOut_9 : decode cX4_carryOut 9 = .ok (.bipush (-3), 2) := by decide +kernel
theorem dX4_carryOut_11 : decode cX4_carryOut 11 = .ok (.ireturn, 1) := by decide +kernel
theorem dX4_carryOut_12 : decode cX4_carryOut 12 = .ok (.aload_n 0, 1) := by decide +kernel
theorem dX4_carryOut_13 : decode cX4_carryOut 13 = .ok (.invokevirtual 65, 3) := by decide +kernel
theorem dX4_carryOut_16 : decode cX4_carryOut 16 = .ok (.iconst 0, 1) := by decide +kernel
theorem dX4_carryOut_17 : decode cX4_carryOut 17 = .ok (.istore_n 1, 1) := by decide +kernel
theorem dX4_carryOut_18 : decode cX4_carryOut 18 = .ok (.iconst 0, 1) := by decide +kernel
theorem dX4_carryOut_19 : decode cX4_carryOut 19 = .ok (.istore_n 2, 1) := by decide +kernel
theorem dX4_carryOut_20 : decode cX4_carryOut 20 = .ok (.iload_n 2, 1) := by decide +kernel
theorem dX4_carryOut_21 : decode cX4_carryOut 21 = .ok (.aload_n 0, 1) := by decide +kernel
theorem dX4_carryOut_22 : decode cX4_carryOut 22 = .ok (.getfield 126, 3) := by decide +kernel
theorem dX4_carryOut_25 : decode cX4_carryOut 25 = .ok (.if_icmp .ge 31, 3) := by decide +kernel
theorem dX4_carryOut_28 : decode cX4_carryOut 28 = .ok (.aload_n 0, 1) := by decide +kernel
theorem dX4_carryOut_29 : decode cX4_carryOut 29 = .ok (.iload_n 2, 1) := by decide +kernel
theorem dX4_carryOut_30 : decode cX4_carryOut 30 = .ok (.invokevirtual 164, 3) := by decide +kernel
theorem dX4_carryOut_33 : decode cX4_carryOut 33 = .ok (.ifCond .ne 23, 3) := by decide +kernel
theorem dX4_carryOut_36 : decode cX4_carryOut 36 = .ok (.aload_n 0, 1) := by decide +kernel
theorem dX4_carryOut_37 : decode cX4_carryOut 37 = .ok (.iload_n 2, 1) := by decide +kernel
theorem dX4_carryOut_38 : decode cX4_carryOut 38 = .ok (.invokevirtual 167, 3) := by decide +kernel
theorem dX4_carryOut_41 : decode cX4_carryOut 41 = .ok (.istore_n 3, 1) := by decide +kernel
theorem dX4_carryOut_42 : decode cX4_carryOut 42 = .ok (.iinc 1 1, 3) := by decide +kernel
theorem dX4_carryOut_45 : decode cX4_carryOut 45 = .ok (.aload_n 0, 1) := by decide +kernel
theorem dX4_carryOut_46 : decode cX4_carryOut 46 = .ok (.iload_n 2, 1) := by decide +kernel
theorem dX4_carryOut_47 : decode cX4_carryOut 47 = .ok (.invokevirtual 152, 3) := by decide +kernel
theorem dX4_carryOut_50 : decode cX4_carryOut 50 = .ok (.iconst 1, 1) := by decide +kernel
theorem dX4_carryOut_51 : decode cX4_carryOut 51 = .ok (.iadd, 1) := by decide +kernel
theorem dX4_carryOut_52 : decode cX4_carryOut 52 = .ok (.istore_n 2, 1) := by decide +kernel
theorem dX4_carryOut_53 : decode cX4_carryOut 53 = .ok (.goto (-33), 3) := by decide +kernel
theorem dX4_carryOut_56 : decode cX4_carryOut 56 = .ok (.aload_n 0, 1) := by decide +kernel
theorem dX4_carryOut_57 : decode cX4_carryOut 57 = .ok (.iconst 0, 1) := by decide +kernel
theorem dX4_carryOut_58 : decode cX4_carryOut 58 = .ok (.putfield 126, 3) := by decide +kernel
theorem dX4_carryOut_61 : decode cX4_carryOut 61 = .ok (.iload_n 1, 1) := by decide +kernel
theorem dX4_carryOut_62 : decode cX4_carryOut 62 = .ok (.ireturn, 1) := by decide +kernel
theorem dX4_undo_0 : decode cX4_undo 0 = .ok (.aload_n 0, 1) := by decide +kernel
theorem dX4_undo_1 : decode cX4_undo 1 = .ok (.getfield 37, 3) := by decide +kernel
theorem dX4_undo_4 : decode cX4_undo 4 = .ok (.ifCond .ne 6, 3) := by decide +kernel
theorem dX4_undo_7 : decode cX4_undo 7 = .ok (.bipush (-5), 2) := by decide +kernel
theorem dX4_undo_9 : decode cX4_undo 9 = .ok (.ireturn, 1) := by decide +kernel
theorem dX4_undo_10 : decode cX4_undo 10 = .ok (.aload_n 0, 1) := by decide +kernel
theorem dX4_undo_11 : decode cX4_undo 11 = .ok (.dup, 1) := by decide +kernel
theorem dX4_undo_12 : decode cX4_undo 12 = .ok (.getfield 37, 3) := by decide +kernel
theorem dX4_undo_15 : decode cX4_undo 15 = .ok (.iconst 1, 1) := by decide +kernel
theorem dX4_undo_16 : decode cX4_undo 16 = .ok (.isub, 1) := by decide +kernel
theorem dX4_undo_17 : decode cX4_undo 17 = .ok (.putfield 37, 3) := by decide +kernel
theorem dX4_undo_20 : decode cX4_undo 20 = .ok (.iconst 0, 1) := by decide +kernel
theorem dX4_undo_21 : decode cX4_undo 21 = .ok (.istore_n 1, 1) := by decide +kernel
theorem dX4_undo_22 : decode cX4_undo 22 = .ok (.iload_n 1, 1) := by decide +kernel
theorem dX4_undo_23 : decode cX4_undo 23 = .ok (.sipush 172, 3) := by decide +kernel
theorem dX4_undo_26 : decode cX4_undo 26 = .ok (.if_icmp .ge 30, 3) := by decide +kernel
theorem dX4_undo_29 : decode cX4_undo 29 = .ok (.aload_n 0, 1) := by decide +kernel
theorem dX4_undo_30 : decode cX4_undo 30 = .ok (.getfield 7, 3) := by decide +kernel
theorem dX4_undo_33 : decode cX4_undo 33 = .ok (.iload_n 1, 1) := by decide +kernel
theorem dX4_undo_34 : decode cX4_undo 34 = .ok (.aload_n 0, 1) := by decide +kernel
theorem dX4_undo_35 : decode cX4_undo 35 = .ok (.getfield 13, 3) := by decide +kernel
theorem dX4_undo_38 : decode cX4_undo 38 = .ok (.sipush 172, 3) := by decide +kernel
theorem dX4_undo_41 : decode cX4_undo 41 = .ok (.aload_n 0, 1) := by decide +kernel
theorem dX4_undo_42 : decode cX4_undo 42 = .ok (.getfield 37, 3) := by decide +kernel
theorem dX4_undo_45 : decode cX4_undo 45 = .ok (.imul, 1) := by decide +kernel
theorem dX4_undo_46 : decode cX4_undo 46 = .ok (.iload_n 1, 1) := by decide +kernel
theorem dX4_undo_47 : decode cX4_undo 47 = .ok (.iadd, 1) := by decide +kernel
theorem dX4_undo_48 : decode cX4_undo 48 = .ok (.iaload, 1) := by decide +kernel
theorem dX4_undo_49 : decode cX4_undo 49 = .ok (.iastore, 1) := by decide +kernel
theorem dX4_undo_50 : decode cX4_undo 50 = .ok (.iinc 1 1, 3) := by decide +kernel
theorem dX4_undo_53 : decode cX4_undo 53 = .ok (.goto (-31), 3) := by decide +kernel
theorem dX4_undo_56 : decode cX4_undo 56 = .ok (.aload_n 0, 1) := by decide +kernel
theorem dX4_undo_57 : decode cX4_undo 57 = .ok (.getfield 37, 3) := by decide +kernel
theorem dX4_undo_60 : decode cX4_undo 60 = .ok (.ireturn, 1) := by decide +kernel
theorem dX4_save_0 : decode cX4_save 0 = .ok (.iload_n 1, 1) := by decide +kernel
theorem dX4_save_1 : decode cX4_save 1 = .ok (.iconst 0, 1) := by decide +kernel
theorem dX4_save_2 : decode cX4_save 2 = .ok (.iconst 1, 1) := by decide +kernel
theorem dX4_save_3 : decode cX4_save 3 = .ok (.invokestatic 33, 3) := by decide +kernel
theorem dX4_save_6 : decode cX4_save 6 = .ok (.ifCond .ne 6, 3) := by decide +kernel
theorem dX4_save_9 : decode cX4_save 9 = .ok (.bipush (-2), 2) := by decide +kernel
theorem dX4_save_11 : decode cX4_save 11 = .ok (.ireturn, 1) := by decide +kernel
theorem dX4_save_12 : decode cX4_save 12 = .ok (.iconst 0, 1) := by decide +kernel
theorem dX4_save_13 : decode cX4_save 13 = .ok (.istore_n 2, 1) := by decide +kernel
theorem dX4_save_14 : decode cX4_save 14 = .ok (.iload_n 2, 1) := by decide +kernel
theorem dX4_save_15 : decode cX4_save 15 = .ok (.sipush 172, 3) := by decide +kernel
theorem dX4_save_18 : decode cX4_save 18 = .ok (.if_icmp .ge 27, 3) := by decide +kernel
theorem dX4_save_21 : decode cX4_save 21 = .ok (.aload_n 0, 1) := by decide +kernel
theorem dX4_save_22 : decode cX4_save 22 = .ok (.getfield 16, 3) := by decide +kernel
theorem dX4_save_25 : decode cX4_save 25 = .ok (.sipush 172, 3) := by decide +kernel
theorem dX4_save_28 : decode cX4_save 28 = .ok (.iload_n 1, 1) := by decide +kernel
theorem dX4_save_29 : decode cX4_save 29 = .ok (.imul, 1) := by decide +kernel
theorem dX4_save_30 : decode cX4_save 30 = .ok (.iload_n 2, 1) := by decide +kernel
theorem dX4_save_31 : decode cX4_save 31 = .ok (.iadd, 1) := by decide +kernel
theorem dX4_save_32 : decode cX4_save 32 = .ok (.aload_n 0, 1) := by decide +kernel
theorem dX4_save_33 : decode cX4_save 33 = .ok (.getfield 7, 3) := by decide +kernel
theorem dX4_save_36 : decode cX4_save 36 = .ok (.iload_n 2, 1) := by decide +kernel
theorem dX4_save_37 : decode cX4_save 37 = .ok (.iaload, 1) := by decide +kernel
theorem dX4_save_38 : decode cX4_save 38 = .ok (.iastore, 1) := by decide +kernel
theorem dX4_save_39 : decode cX4_save 39 = .ok (.iinc 2 1, 3) := by decide +kernel
theorem dX4_save_42 : decode cX4_save 42 = .ok (.goto (-28), 3) := by decide +kernel
theorem dX4_save_45 : decode cX4_save 45 = .ok (.aload_n 0, 1) := by decide +kernel
theorem dX4_save_46 : decode cX4_save 46 = .ok (.getfield 19, 3) := by decide +kernel
theorem dX4_save_49 : decode cX4_save 49 = .ok (.iload_n 1, 1) := by decide +kernel
theorem dX4_save_50 : decode cX4_save 50 = .ok (.iconst 1, 1) := by decide +kernel
theorem dX4_save_51 : decode cX4_save 51 = .ok (.bastore, 1) := by decide +kernel
theorem dX4_save_52 : decode cX4_save 52 = .ok (.aload_n 0, 1) := by decide +kernel
theorem dX4_save_53 : decode cX4_save 53 = .ok (.getfield 7, 3) := by decide +kernel
theorem dX4_save_56 : decode cX4_save 56 = .ok (.sipush 166, 3) := by decide +kernel
theorem dX4_save_59 : decode cX4_save 59 = .ok (.iaload, 1) := by decide +kernel
theorem dX4_save_60 : decode cX4_save 60 = .ok (.ireturn, 1) := by decide +kernel
theorem dX4_restore_0 : decode cX4_restore 0 = .ok (.iload_n 1, 1) := by decide +kernel
theorem dX4_restore_1 : decode cX4_restore 1 = .ok (.iconst 0, 1) := by decide +kernel
theorem dX4_restore_2 : decode cX4_restore 2 = .ok (.iconst 1, 1) := by decide +kernel
theorem dX4_restore_3 : decode cX4_restore 3 = .ok (.invokestatic 33, 3) := by decide +kernel
theorem dX4_restore_6 : decode cX4_restore 6 = .ok (.ifCond .ne 6, 3) := by decide +kernel
theorem dX4_restore_9 : decode cX4_restore 9 = .ok (.bipush (-2), 2) := by decide +kernel
theorem dX4_restore_11 : decode cX4_restore 11 = .ok (.ireturn, 1) := by decide +kernel
theorem dX4_restore_12 : decode cX4_restore 12 = .ok (.aload_n 0, 1) := by decide +kernel
theorem dX4_restore_13 : decode cX4_restore 13 = .ok (.getfield 19, 3) := by decide +kernel
theorem dX4_restore_16 : decode cX4_restore 16 = .ok (.iload_n 1, 1) := by decide +kernel
theorem dX4_restore_17 : decode cX4_restore 17 = .ok (.baload, 1) := by decide +kernel
theorem dX4_restore_18 : decode cX4_restore 18 = .ok (.ifCond .ne 6, 3) := by decide +kernel
theorem dX4_restore_21 : decode cX4_restore 21 = .ok (.bipush (-5), 2) := by decide +kernel
theorem dX4_restore_23 : decode cX4_restore 23 = .ok (.ireturn, 1) := by decide +kernel
theorem dX4_restore_24 : decode cX4_restore 24 = .ok (.aload_n 0, 1) := by decide +kernel
theorem dX4_restore_25 : decode cX4_restore 25 = .ok (.invokevirtual 65, 3) := by decide +kernel
theorem dX4_restore_28 : decode cX4_restore 28 = .ok (.iconst 0, 1) := by decide +kernel
theorem dX4_restore_29 : decode cX4_restore 29 = .ok (.istore_n 2, 1) := by decide +kernel
theorem dX4_restore_30 : decode cX4_restore 30 = .ok (.iload_n 2, 1) := by decide +kernel
theorem dX4_restore_31 : decode cX4_restore 31 = .ok (.sipush 172, 3) := by decide +kernel
theorem dX4_restore_34 : decode cX4_restore 34 = .ok (.if_icmp .ge 27, 3) := by decide +kernel
theorem dX4_restore_37 : decode cX4_restore 37 = .ok (.aload_n 0, 1) := by decide +kernel
theorem dX4_restore_38 : decode cX4_restore 38 = .ok (.getfield 7, 3) := by decide +kernel
theorem dX4_restore_41 : decode cX4_restore 41 = .ok (.iload_n 2, 1) := by decide +kernel
theorem dX4_restore_42 : decode cX4_restore 42 = .ok (.aload_n 0, 1) := by decide +kernel
theorem dX4_restore_43 : decode cX4_restore 43 = .ok (.getfield 16, 3) := by decide +kernel
theorem dX4_restore_46 : decode cX4_restore 46 = .ok (.sipush 172, 3) := by decide +kernel
theorem dX4_restore_49 : decode cX4_restore 49 = .ok (.iload_n 1, 1) := by decide +kernel
theorem dX4_restore_50 : decode cX4_restore 50 = .ok (.imul, 1) := by decide +kernel
theorem dX4_restore_51 : decode cX4_restore 51 = .ok (.iload_n 2, 1) := by decide +kernel
theorem dX4_restore_52 : decode cX4_restore 52 = .ok (.iadd, 1) := by decide +kernel
theorem dX4_restore_53 : decode cX4_restore 53 = .ok (.iaload, 1) := by decide +kernel
theorem dX4_restore_54 : decode cX4_restore 54 = .ok (.iastore, 1) := by decide +kernel
theorem dX4_restore_55 : decode cX4_restore 55 = .ok (.iinc 2 1, 3) := by decide +kernel
theorem dX4_restore_58 : decode cX4_restore 58 = .ok (.goto (-28), 3) := by decide +kernel
theorem dX4_restore_61 : decode cX4_restore 61 = .ok (.aload_n 0, 1) := by decide +kernel
theorem dX4_restore_62 : decode cX4_restore 62 = .ok (.getfield 7, 3) := by decide +kernel
theorem dX4_restore_65 : decode cX4_restore 65 = .ok (.sipush 166, 3) := by decide +kernel
theorem dX4_restore_68 : decode cX4_restore 68 = .ok (.iaload, 1) := by decide +kernel
theorem dX4_restore_69 : decode cX4_restore 69 = .ok (.ireturn, 1) := by decide +kernel
