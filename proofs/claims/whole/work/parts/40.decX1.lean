theorem dX1_init_0 : decode cX1_init 0 = .ok (.aload_n 0, 1) := by decide +kernel
theorem dX1_init_1 : decode cX1_init 1 = .ok (.invokespecial 3, 3) := by decide +kernel
theorem dX1_init_4 : decode cX1_init 4 = .ok (.aload_n 0, 1) := by decide +kernel
theorem dX1_init_5 : decode cX1_init 5 = .ok (.bipush 80, 2) := by decide +kernel
theorem dX1_init_7 : decode cX1_init 7 = .ok (.newarray .char, 2) := by decide +kernel
theorem dX1_init_9 : decode cX1_init 9 = .ok (.putfield 11, 3) := by decide +kernel
theorem dX1_init_12 : decode cX1_init 12 = .ok (.aload_n 0, 1) := by decide +kernel
theorem dX1_init_13 : decode cX1_init 13 = .ok (.iconst 0, 1) := by decide +kernel
theorem dX1_init_14 : decode cX1_init 14 = .ok (.putfield 15, 3) := by decide +kernel
theorem dX1_init_17 : decode cX1_init 17 = .ok (.aload_n 0, 1) := by decide +kernel
theorem dX1_init_18 : decode cX1_init 18 = .ok (.iconst 0, 1) := by decide +kernel
theorem dX1_init_19 : decode cX1_init 19 = .ok (.putfield 19, 3) := by decide +kernel
theorem dX1_init_22 : decode cX1_init 22 = .ok (.aload_n 0, 1) := by decide +kernel
theorem dX1_init_23 : decode cX1_init 23 = .ok (.iconst 0, 1) := by decide +kernel
theorem dX1_init_24 : decode cX1_init 24 = .ok (.putfield 22, 3) := by decide +kernel
theorem dX1_init_27 : decode cX1_init 27 = .ok (.aload_n 0, 1) := by decide +kernel
theorem dX1_init_28 : decode cX1_init 28 = .ok (.iconst 0, 1) := by decide +kernel
theorem dX1_init_29 : decode cX1_init 29 = .ok (.putfield 26, 3) := by decide +kernel
theorem dX1_init_32 : decode cX1_init 32 = .ok (.aload_n 0, 1) := by decide +kernel
theorem dX1_init_33 : decode cX1_init 33 = .ok (.iconst 0, 1) := by decide +kernel
theorem dX1_init_34 : decode cX1_init 34 = .ok (.putfield 29, 3) := by decide +kernel
theorem dX1_init_37 : decode cX1_init 37 = .ok (.aload_n 0, 1) := by decide +kernel
theorem dX1_init_38 : decode cX1_init 38 = .ok (.iconst 0, 1) := by decide +kernel
theorem dX1_init_39 : decode cX1_init 39 = .ok (.putfield 32, 3) := by decide +kernel
theorem dX1_init_42 : decode cX1_init 42 = .ok (.aload_n 0, 1) := by decide +kernel
theorem dX1_init_43 : decode cX1_init 43 = .ok (.iconst 0, 1) := by decide +kernel
theorem dX1_init_44 : decode cX1_init 44 = .ok (.putfield 35, 3) := by decide +kernel
theorem dX1_init_47 : decode cX1_init 47 = .ok (.return_, 1) := by decide +kernel
theorem dX1_append_0 : decode cX1_append 0 = .ok (.lload_n 1, 1) := by decide +kernel
theorem dX1_append_1 : decode cX1_append 1 = .ok (.invokestatic 38, 3) := by decide +kernel
theorem dX1_append_4 : decode cX1_append 4 = .ok (.istore_n 3, 1) := by decide +kernel
theorem dX1_append_5 : decode cX1_append 5 = .ok (.iload_n 3, 1) := by decide +kernel
theorem dX1_append_6 : decode cX1_append 6 = .ok (.ifCond .ne 6, 3) := by decide +kernel
theorem dX1_append_9 : decode cX1_append 9 = .ok (.bipush (-2), 2) := by decide +kernel
theorem dX1_append_11 : decode cX1_append 11 = .ok (.ireturn, 1) := by decide +kernel
theorem dX1_append_12 : decode cX1_append 12 = .ok (.aload_n 0, 1) := by decide +kernel
theorem dX1_append_13 : decode cX1_append 13 = .ok (.getfield 15, 3) := by decide +kernel
theorem dX1_append_16 : decode cX1_append 16 = .ok (.iload_n 3, 1) := by decide +kernel
theorem dX1_append_17 : decode cX1_append 17 = .ok (.iadd, 1) := by decide +kernel
theorem dX1_append_18 : decode cX1_append 18 = .ok (.bipush 80, 2) := by decide +kernel
theorem dX1_append_20 : decode cX1_append 20 = .ok (.if_icmp .le 6, 3) := by decide +kernel
theorem dX1_append_23 : decode cX1_append 23 = .ok (.bipush (-4), 2) := by decide +kernel
theorem dX1_append_25 : decode cX1_append 25 = .ok (.ireturn, 1) := by decide +kernel
theorem dX1_append_26 : decode cX1_append 26 = .ok (.iload_n 3, 1) := by decide +kernel
theorem dX1_append_27 : decode cX1_append 27 = .ok (.iconst 1, 1) := by decide +kernel
theorem dX1_append_28 : decode cX1_append 28 = .ok (.isub, 1) := by decide +kernel
theorem dX1_append_29 : decode cX1_append 29 = .ok (.istore 4, 2) := by decide +kernel
theorem dX1_append_31 : decode cX1_append 31 = .ok (.iload 4, 2) := by decide +kernel
theorem dX1_append_33 : decode cX1_append 33 = .ok (.ifCond .lt 41, 3) := by decide +kernel
theorem dX1_append_36 : decode cX1_append 36 = .ok (.aload_n 0, 1) := by decide +kernel
theorem dX1_append_37 : decode cX1_append 37 = .ok (.getfield 11, 3) := by decide +kernel
theorem dX1_append_40 : decode cX1_append 40 = .ok (.aload_n 0, 1) := by decide +kernel
theorem dX1_append_41 : decode cX1_append 41 = .ok (.getfield 15, 3) := by decide +kernel
theorem dX1_append_44 : decode cX1_append 44 = .ok (.lload_n 1, 1) := by decide +kernel
theorem dX1_append_45 : decode cX1_append 45 = .ok (.iload 4, 2) := by decide +kernel
theorem dX1_append_47 : decode cX1_append 47 = .ok (.bipush 8, 2) := by decide +kernel
theorem dX1_append_49 : decode cX1_append 49 = .ok (.imul, 1) := by decide +kernel
theorem dX1_append_50 : decode cX1_append 50 = .ok (.lushr, 1) := by decide +kernel
theorem dX1_append_51 : decode cX1_append 51 = .ok (.ldc2_w 42, 3) := by decide +kernel
theorem dX1_append_54 : decode cX1_append 54 = .ok (.land, 1) := by decide +kernel
theorem dX1_append_55 : decode cX1_append 55 = .ok (.l2i, 1) := by decide +kernel
theorem dX1_append_56 : decode cX1_append 56 = .ok (.i2c, 1) := by decide +kernel
theorem dX1_append_57 : decode cX1_append 57 = .ok (.castore, 1) := by decide +kernel
theorem dX1_append_58 : decode cX1_append 58 = .ok (.aload_n 0, 1) := by decide +kernel
theorem dX1_append_59 : decode cX1_append 59 = .ok (.dup, 1) := by decide +kernel
theorem dX1_append_60 : decode cX1_append 60 = .ok (.getfield 15, 3) := by decide +kernel
theorem dX1_append_63 : decode cX1_append 63 = .ok (.iconst 1, 1) := by decide +kernel
theorem dX1_append_64 : decode cX1_append 64 = .ok (.iadd, 1) := by decide +kernel
theorem dX1_append_65 : decode cX1_append 65 = .ok (.putfield 15, 3) := by decide +kernel
theorem dX1_append_68 : decode cX1_append 68 = .ok (.iinc 4 (-1), 3) := by decide +kernel
theorem dX1_append_71 : decode cX1_append 71 = .ok (.goto (-40), 3) := by decide +kernel
theorem dX1_append_74 : decode cX1_append 74 = .ok (.aload_n 0, 1) := by decide +kernel
theorem dX1_append_75 : decode cX1_append 75 = .ok (.getfield 15, 3) := by decide +kernel
theorem dX1_append_78 : decode cX1_append 78 = .ok (.ireturn, 1) := by decide +kernel
theorem dX1_empty_0 : decode cX1_empty 0 = .ok (.aload_n 0, 1) := by decide +kernel
theorem dX1_empty_1 : decode cX1_empty 1 = .ok (.getfield 15, 3) := by decide +kernel
theorem dX1_empty_4 : decode cX1_empty 4 = .ok (.istore_n 1, 1) := by decide +kernel
theorem dX1_empty_5 : decode cX1_empty 5 = .ok (.aload_n 0, 1) := by decide +kernel
theorem dX1_empty_6 : decode cX1_empty 6 = .ok (.iconst 0, 1) := by decide +kernel
theorem dX1_empty_7 : decode cX1_empty 7 = .ok (.putfield 15, 3) := by decide +kernel
theorem dX1_empty_10 : decode cX1_empty 10 = .ok (.iload_n 1, 1) := by decide +kernel
theorem dX1_empty_11 : decode cX1_empty 11 = .ok (.ireturn, 1) := by decide +kernel
theorem dX1_charactersIn_0 : decode cX1_charactersIn 0 = .ok (.lload_n 0, 1) := by decide +kernel
theorem dX1_charactersIn_1 : decode cX1_charactersIn 1 = .ok (.lstore_n 2, 1) := by decide +kernel
theorem dX1_charactersIn_2 : decode cX1_charactersIn 2 = .ok (.iconst 0, 1) := by decide +kernel
theorem dX1_charactersIn_3 : decode cX1_charactersIn 3 = .ok (.istore 4, 2) := by decide +kernel
theorem dX1_charactersIn_5 : decode cX1_charactersIn 5 = .ok (.iload 4, 2) := by decide +kernel
theorem dX1_charactersIn_7 : decode cX1_charactersIn 7 = .ok (.bipush 8, 2) := by decide +kernel
theorem dX1_charactersIn_9 : decode cX1_charactersIn 9 = .ok (.if_icmp .ge 47, 3) := by decide +kernel
theorem dX1_charactersIn_12 : decode cX1_charactersIn 12 = .ok (.lload_n 2, 1) := by decide +kernel
theorem dX1_charactersIn_13 : decode cX1_charactersIn 13 = .ok (.lconst 0, 1) := by decide +kernel
theorem dX1_charactersIn_14 : decode cX1_charactersIn 14 = .ok (.lcmp, 1) := by decide +kernel
theorem dX1_charactersIn_15 : decode cX1_charactersIn 15 = .ok (.ifCond .eq 41, 3) := by decide +kernel
theorem dX1_charactersIn_18 : decode cX1_charactersIn 18 = .ok (.lload_n 2, 1) := by decide +kernel
theorem dX1_charactersIn_19 : decode cX1_charactersIn 19 = .ok (.ldc2_w 42, 3) := by decide +kernel
theorem dX1_charactersIn_22 : decode cX1_charactersIn 22 = .ok (.land, 1) := by decide +kernel
theorem dX1_charactersIn_23 : decode cX1_charactersIn 23 = .ok (.lstore 5, 2) := by decide +kernel
theorem dX1_charactersIn_25 : decode cX1_charactersIn 25 = .ok (.lload 5, 2) := by decide +kernel
theorem dX1_charactersIn_27 : decode cX1_charactersIn 27 = .ok (.ldc2_w 44, 3) := by decide +kernel
theorem dX1_charactersIn_30 : decode cX1_charactersIn 30 = .ok (.lcmp, 1) := by decide +kernel
theorem dX1_charactersIn_31 : decode cX1_charactersIn 31 = .ok (.ifCond .lt 12, 3) := by decide +kernel
theorem dX1_charactersIn_34 : decode cX1_charactersIn 34 = .ok (.lload 5, 2) := by decide +kernel
theorem dX1_charactersIn_36 : decode cX1_charactersIn 36 = .ok (.ldc2_w 46, 3) := by decide +kernel
theorem dX1_charactersIn_39 : decode cX1_charactersIn 39 = .ok (.lcmp, 1) := by decide +kernel
theorem dX1_charactersIn_40 : decode cX1_charactersIn 40 = .ok (.ifCond .le 5, 3) := by decide +kernel
theorem dX1_charactersIn_43 : decode cX1_charactersIn 43 = .ok (.iconst 0, 1) := by decide +kernel
theorem dX1_charactersIn_44 : decode cX1_charactersIn 44 = .ok (.ireturn, 1) := by decide +kernel
theorem dX1_charactersIn_45 : decode cX1_charactersIn 45 = .ok (.lload_n 2, 1) := by decide +kernel
theorem dX1_charactersIn_46 : decode cX1_charactersIn 46 = .ok (.bipush 8, 2) := by decide +kernel
theorem dX1_charactersIn_48 : decode cX1_charactersIn 48 = .ok (.lushr, 1) := by decide +kernel
theorem dX1_charactersIn_49 : decode cX1_charactersIn 49 = .ok (.lstore_n 2, 1) := by decide +kernel
theorem dX1_charactersIn_50 : decode cX1_charactersIn 50 = .ok (.iinc 4 1, 3) := by decide +kernel
theorem dX1_charactersIn_53 : decode cX1_charactersIn 53 = .ok (.goto (-48), 3) := by decide +kernel
theorem dX1_charactersIn_56 : decode cX1_charactersIn 56 = .ok (.iload 4, 2) := by decide +kernel
theorem dX1_charactersIn_58 : decode cX1_charactersIn 58 = .ok (.ireturn, 1) := by decide +kernel
theorem dX1_faultAt_0 : decode cX1_faultAt 0 = .ok (.aload_n 0, 1) := by decide +kernel
theorem dX1_faultAt_1 : decode cX1_faultAt 1 = .ok (.invokevirtual 48, 3) := by decide +kernel
theorem dX1_faultAt_4 : decode cX1_faultAt 4 = .ok (.aload_n 0, 1) := by decide +kernel
theorem dX1_faultAt_5 : decode cX1_faultAt 5 = .ok (.invokevirtual 51, 3) := by decide +kernel
theorem dX1_faultAt_8 : decode cX1_faultAt 8 = .ok (.istore_n 1, 1) := by decide +kernel
theorem dX1_faultAt_9 : decode cX1_faultAt 9 = .ok (.iconst 1, 1) := by decide +kernel
theorem dX1_faultAt_10 : decode cX1_faultAt 10 = .ok (.istore_n 2, 1) := by decide +kernel
theorem dX1_faultAt_11 : decode cX1_faultAt 11 = .ok (.iload_n 2, 1) := by decide +kernel
theorem dX1_faultAt_12 : decode cX1_faultAt 12 = .ok (.bipush 80, 2) := by decide +kernel
theorem dX1_faultAt_14 : decode cX1_faultAt 14 = .ok (.if_icmp .ge 29, 3) := by decide +kernel
theorem dX1_faultAt_17 : decode cX1_faultAt 17 = .ok (.iload_n 1, 1) := by decide +kernel
theorem dX1_faultAt_18 : decode cX1_faultAt 18 = .ok (.ifCond .eq 25, 3) := by decide +kernel
theorem dX1_faultAt_21 : decode cX1_faultAt 21 = .ok (.aload_n 0, 1) := by decide +kernel
theorem dX1_faultAt_22 : decode cX1_faultAt 22 = .ok (.getfield 19, 3) := by decide +kernel
theorem dX1_faultAt_25 : decode cX1_faultAt 25 = .ok (.aload_n 0, 1) := by decide +kernel
theorem dX1_faultAt_26 : decode cX1_faultAt 26 = .ok (.getfield 15, 3) := by decide +kernel
theorem dX1_faultAt_29 : decode cX1_faultAt 29 = .ok (.if_icmp .ge 14, 3) := by decide +kernel
theorem dX1_faultAt_32 : decode cX1_faultAt 32 = .ok (.aload_n 0, 1) := by decide +kernel
theorem dX1_faultAt_33 : decode cX1_faultAt 33 = .ok (.invokevirtual 51, 3) := by decide +kernel
theorem dX1_faultAt_36 : decode cX1_faultAt 36 = .ok (.istore_n 1, 1) := by decide +kernel
theorem dX1_faultAt_37 : decode cX1_faultAt 37 = .ok (.iinc 2 1, 3) := by decide +kernel
theorem dX1_faultAt_40 : decode cX1_faultAt 40 = .ok (.goto (-29), 3) := by decide +kernel
theorem dX1_faultAt_43 : decode cX1_faultAt 43 = .ok (.iload_n 1, 1) := by decide +kernel
theorem dX1_faultAt_44 : decode cX1_faultAt 44 = .ok (.ifCond .eq 8, 3) := by decide +kernel
theorem dX1_faultAt_47 : decode cX1_faultAt 47 = .ok (.bipush (-6), 2) := by decide +kernel
theorem dX1_faultAt_49 : decode cX1_faultAt 49 = .ok (.goto 7, 3) := by decide +kernel
theorem dX1_faultAt_52 : decode cX1_faultAt 52 = .ok (.aload_n 0, 1) := by decide +kernel
theorem dX1_faultAt_53 : decode cX1_faultAt 53 = .ok (.getfield 19, 3) := by decide +kernel
theorem dX1_faultAt_56 : decode cX1_faultAt 56 = .ok (.ireturn, 1) := by decide +kernel
theorem dX1_rewind_0 : decode cX1_rewind 0 = .ok (.aload_n 0, 1) := by decide +kernel
theorem dX1_rewind_1 : decode cX1_rewind 1 = .ok (.iconst 0, 1) := by decide +kernel
theorem dX1_rewind_2 : decode cX1_rewind 2 = .ok (.putfield 19, 3) := by decide +kernel
theorem dX1_rewind_5 : decode cX1_rewind 5 = .ok (.return_, 1) := by decide +kernel
theorem dX1_nextOrder_0 : decode cX1_nextOrder 0 = .ok (.aload_n 0, 1) := by decide +kernel
theorem dX1_nextOrder_1 : decode cX1_nextOrder 1 = .ok (.getfield 19, 3) := by decide +kernel
theorem dX1_nextOrder_4 : decode cX1_nextOrder 4 = .ok (.ifCond .eq 12, 3) := by decide +kernel
theorem dX1_nextOrder_7 : decode cX1_nextOrder 7 = .ok (.aload_n 0, 1) := by decide +kernel
theorem dX1_nextOrder_8 : decode cX1_nextOrder 8 = .ok (.bipush 59, 2) := by decide +kernel
theorem dX1_nextOrder_10 : decode cX1_nextOrder 10 = .ok (.invokevirtual 55, 3) := by decide +kernel
theorem dX1_nextOrder_13 : decode cX1_nextOrder 13 = .ok (.ifCond .eq 14, 3) := by decide +kernel
theorem dX1_nextOrder_16 : decode cX1_nextOrder 16 = .ok (.aload_n 0, 1) := by decide +kernel
theorem dX1_nextOrder_17 : decode cX1_nextOrder 17 = .ok (.invokevirtual 59, 3) := by decide +kernel
theorem dX1_nextOrder_20 : decode cX1_nextOrder 20 = .ok (.ifCond .eq 7, 3) := by decide +kernel
theorem dX1_nextOrder_23 : decode cX1_nextOrder 23 = .ok (.iconst 1, 1) := by decide +kernel
theorem dX1_nextOrder_24 : decode cX1_nextOrder 24 = .ok (.goto 4, 3) := by decide +kernel
theorem dX1_nextOrder_27 : decode cX1_nextOrder 27 = .ok (.iconst 0, 1) := by decide +kernel
theorem dX1_nextOrder_28 : decode cX1_nextOrder 28 = .ok (.ireturn, 1) := by decide +kernel
theorem dX1_takeOrder_0 : decode cX1_takeOrder 0 = .ok (.aload_n 0, 1) := by decide +kernel
theorem dX1_takeOrder_1 : decode cX1_takeOrder 1 = .ok (.aload_n 0, 1) := by decide +kernel
theorem dX1_takeOrder_2 : decode cX1_takeOrder 2 = .ok (.invokevirtual 62, 3) := by decide +kernel
theorem dX1_takeOrder_5 : decode cX1_takeOrder 5 = .ok (.putfield 22, 3) := by decide +kernel
theorem dX1_takeOrder_8 : decode cX1_takeOrder 8 = .ok (.aload_n 0, 1) := by decide +kernel
theorem dX1_takeOrder_9 : decode cX1_takeOrder 9 = .ok (.bipush 116, 2) := by decide +kernel
theorem dX1_takeOrder_11 : decode cX1_takeOrder 11 = .ok (.invokevirtual 55, 3) := by decide +kernel
theorem dX1_takeOrder_14 : decode cX1_takeOrder 14 = .ok (.ifCond .ne 21, 3) := by decide +kernel
theorem dX1_takeOrder_17 : decode cX1_takeOrder 17 = .ok (.aload_n 0, 1) := by decide +kernel
theorem dX1_takeOrder_18 : decode cX1_takeOrder 18 = .ok (.bipush 120, 2) := by decide +kernel
theorem dX1_takeOrder_20 : decode cX1_takeOrder 20 = .ok (.invokevirtual 55, 3) := by decide +kernel
theorem dX1_takeOrder_23 : decode cX1_takeOrder 23 = .ok (.ifCond .ne 12, 3) := by decide +kernel
theorem dX1_takeOrder_26 : decode cX1_takeOrder 26 = .ok (.aload_n 0, 1) := by decide +kernel
theorem dX1_takeOrder_27 : decode cX1_takeOrder 27 = .ok (.bipush 111, 2) := by decide +kernel
theorem dX1_takeOrder_29 : decode cX1_takeOrder 29 = .ok (.invokevirtual 55, 3) := by decide +kernel
theorem dX1_takeOrder_32 : decode cX1_takeOrder 32 = .ok (.ifCond .eq 32, 3) := by decide +kernel
theorem dX1_takeOrder_35 : decode cX1_takeOrder 35 = .ok (.aload_n 0, 1) := by decide +kernel
theorem dX1_takeOrder_36 : decode cX1_takeOrder 36 = .ok (.invokevirtual 66, 3) := by decide +kernel
theorem dX1_takeOrder_39 : decode cX1_takeOrder 39 = .ok (.ifCond .eq 23, 3) := by decide +kernel
theorem dX1_takeOrder_42 : decode cX1_takeOrder 42 = .ok (.aload_n 0, 1) := by decide +kernel
theorem dX1_takeOrder_43 : decode cX1_takeOrder 43 = .ok (.bipush 46, 2) := by decide +kernel
theorem dX1_takeOrder_45 : decode cX1_takeOrder 45 = .ok (.invokevirtual 55, 3) := by decide +kernel
theorem dX1_takeOrder_48 : decode cX1_takeOrder 48 = .ok (.ifCond .eq 14, 3) := by decide +kernel
theorem dX1_takeOrder_51 : decode cX1_takeOrder 51 = .ok (.aload_n 0, 1) := by decide +kernel
theorem dX1_takeOrder_52 : decode cX1_takeOrder 52 = .ok (.invokevirtual 69, 3) := by decide +kernel
theorem dX1_takeOrder_55 : decode cX1_takeOrder 55 = .ok (.ifCond .eq 7, 3) := by decide +kernel
theorem dX1_takeOrder_58 : decode cX1_takeOrder 58 = .ok (.iconst 1, 1) := by decide +kernel
theorem dX1_takeOrder_59 : decode cX1_takeOrder 59 = .ok (.goto 4, 3) := by decide +kernel
theorem dX1_takeOrder_62 : decode cX1_takeOrder 62 = .ok (.iconst 0, 1) := by decide +kernel
theorem dX1_takeOrder_63 : decode cX1_takeOrder 63 = .ok (.ireturn, 1) := by decide +kernel
theorem dX1_takeOrder_64 : decode cX1_takeOrder 64 = .ok (.aload_n 0, 1) := by decide +kernel
theorem dX1_takeOrder_65 : decode cX1_takeOrder 65 = .ok (.bipush 97, 2) := by decide +kernel
theorem dX1_takeOrder_67 : decode cX1_takeOrder 67 = .ok (.invokevirtual 55, 3) := by decide +kernel
theorem dX1_takeOrder_70 : decode cX1_takeOrder 70 = .ok (.ifCond .eq 39, 3) := by decide +kernel
theorem dX1_takeOrder_73 : decode cX1_takeOrder 73 = .ok (.aload_n 0, 1) := by decide +kernel
theorem dX1_takeOrder_74 : decode cX1_takeOrder 74 = .ok (.invokevirtual 66, 3) := by decide +kernel
theorem dX1_takeOrder_77 : decode cX1_takeOrder 77 = .ok (.ifCond .eq 30, 3) := by decide +kernel
theorem dX1_takeOrder_80 : decode cX1_takeOrder 80 = .ok (.aload_n 0, 1) := by decide +kernel
theorem dX1_takeOrder_81 : decode cX1_takeOrder 81 = .ok (.invokevirtual 72, 3) := by decide +kernel
theorem dX1_takeOrder_84 : decode cX1_takeOrder 84 = .ok (.ifCond .eq 23, 3) := by decide +kernel
theorem dX1_takeOrder_87 : decode cX1_takeOrder 87 = .ok (.aload_n 0, 1) := by decide +kernel
theorem dX1_takeOrder_88 : decode cX1_takeOrder 88 = .ok (.bipush 46, 2) := by decide +kernel
theorem dX1_takeOrder_90 : decode cX1_takeOrder 90 = .ok (.invokevirtual 55, 3) := by decide +kernel
theorem dX1_takeOrder_93 : decode cX1_takeOrder 93 = .ok (.ifCond .eq 14, 3) := by decide +kernel
theorem dX1_takeOrder_96 : decode cX1_takeOrder 96 = .ok (.aload_n 0, 1) := by decide +kernel
theorem dX1_takeOrder_97 : decode cX1_takeOrder 97 = .ok (.invokevirtual 69, 3) := by decide +kernel
theorem dX1_takeOrder_100 : decode cX1_takeOrder 100 = .ok (.ifCond .eq 7, 3) := by decide +kernel
theorem dX1_takeOrder_103 : decode cX1_takeOrder 103 = .ok (.iconst 1, 1) := by decide +kernel
theorem dX1_takeOrder_104 : decode cX1_takeOrder 104 = .ok (.goto 4, 3) := by decide +kernel
theorem dX1_takeOrder_107 : decode cX1_takeOrder 107 = .ok (.iconst 0, 1) := by decide +kernel
theorem dX1_takeOrder_108 : decode cX1_takeOrder 108 = .ok (.ireturn, 1) := by decide +kernel
theorem dX1_takeOrder_109 : decode cX1_takeOrder 109 = .ok (.aload_n 0, 1) := by decide +kernel
theorem dX1_takeOrder_110 : decode cX1_takeOrder 110 = .ok (.bipush 112, 2) := by decide +kernel
theorem dX1_takeOrder_112 : decode cX1_takeOrder 112 = .ok (.invokevirtual 55, 3) := by decide +kernel
theorem dX1_takeOrder_115 : decode cX1_takeOrder 115 = .ok (.ifCond .eq 32, 3) := by decide +kernel
theorem dX1_takeOrder_118 : decode cX1_takeOrder 118 = .ok (.aload_n 0, 1) := by decide +kernel
theorem dX1_takeOrder_119 : decode cX1_takeOrder 119 = .ok (.invokevirtual 69, 3) := by decide +kernel
theorem dX1_takeOrder_122 : decode cX1_takeOrder 122 = .ok (.ifCond .eq 23, 3) := by decide +kernel
theorem dX1_takeOrder_125 : decode cX1_takeOrder 125 = .ok (.aload_n 0, 1) := by decide +kernel
theorem dX1_takeOrder_126 : decode cX1_takeOrder 126 = .ok (.bipush 42, 2) := by decide +kernel
theorem dX1_takeOrder_128 : decode cX1_takeOrder 128 = .ok (.invokevirtual 55, 3) := by decide +kernel
theorem dX1_takeOrder_131 : decode cX1_takeOrder 131 = .ok (.ifCond .eq 14, 3) := by decide +kernel
theorem dX1_takeOrder_134 : decode cX1_takeOrder 134 = .ok (.aload_n 0, 1) := by decide +kernel
theorem dX1_takeOrder_135 : decode cX1_takeOrder 135 = .ok (.invokevirtual 75, 3) := by decide +kernel
theorem dX1_takeOrder_138 : decode cX1_takeOrder 138 = .ok (.ifCond .eq 7, 3) := by decide +kernel
theorem dX1_takeOrder_141 : decode cX1_takeOrder 141 = .ok (.iconst 1, 1) := by decide +kernel
theorem dX1_takeOrder_142 : decode cX1_takeOrder 142 = .ok (.goto 4, 3) := by decide +kernel
theorem dX1_takeOrder_145 : decode cX1_takeOrder 145 = .ok (.iconst 0, 1) := by decide +kernel
theorem dX1_takeOrder_146 : decode cX1_takeOrder 146 = .ok (.ireturn, 1) := by decide +kernel
theorem dX1_takeOrder_147 : decode cX1_takeOrder 147 = .ok (.aload_n 0, 1) := by decide +kernel
theorem dX1_takeOrder_148 : decode cX1_takeOrder 148 = .ok (.bipush 98, 2) := by decide +kernel
theorem dX1_takeOrder_150 : decode cX1_takeOrder 150 = .ok (.invokevirtual 55, 3) := by decide +kernel
theorem dX1_takeOrder_153 : decode cX1_takeOrder 153 = .ok (.ifCond .eq 8, 3) := by decide +kernel
theorem dX1_takeOrder_156 : decode cX1_takeOrder 156 = .ok (.aload_n 0, 1) := by decide +kernel
theorem dX1_takeOrder_157 : decode cX1_takeOrder 157 = .ok (.invokevirtual 69, 3) := by decide +kernel
theorem dX1_takeOrder_160 : decode cX1_takeOrder 160 = .ok (.ireturn, 1) := by decide +kernel
theorem dX1_takeOrder_161 : decode cX1_takeOrder 161 = .ok (.aload_n 0, 1) := by decide +kernel
theorem dX1_takeOrder_162 : decode cX1_takeOrder 162 = .ok (.bipush 114, 2) := by decide +kernel
theorem dX1_takeOrder_164 : decode cX1_takeOrder 164 = .ok (.invokevirtual 55, 3) := by decide +kernel
theorem dX1_takeOrder_167 : decode cX1_takeOrder 167 = .ok (.ireturn, 1) := by decide +kernel
theorem dX1_takeEditor_0 : decode cX1_takeEditor 0 = .ok (.aload_n 0, 1) := by decide +kernel
theorem dX1_takeEditor_1 : decode cX1_takeEditor 1 = .ok (.aload_n 0, 1) := by decide +kernel
theorem dX1_takeEditor_2 : decode cX1_takeEditor 2 = .ok (.invokevirtual 78, 3) := by decide +kernel
theorem dX1_takeEditor_5 : decode cX1_takeEditor 5 = .ok (.putfield 26, 3) := by decide +kernel
theorem dX1_takeEditor_8 : decode cX1_takeEditor 8 = .ok (.aload_n 0, 1) := by decide +kernel
theorem dX1_takeEditor_9 : decode cX1_takeEditor 9 = .ok (.aload_n 0, 1) := by decide +kernel
theorem dX1_takeEditor_10 : decode cX1_takeEditor 10 = .ok (.getfield 26, 3) := by decide +kernel
theorem dX1_takeEditor_13 : decode cX1_takeEditor 13 = .ok (.invokevirtual 82, 3) := by decide +kernel
theorem dX1_takeEditor_16 : decode cX1_takeEditor 16 = .ok (.ireturn, 1) := by decide +kernel
theorem dX1_takeOther_0 : decode cX1_takeOther 0 = .ok (.aload_n 0, 1) := by decide +kernel
theorem dX1_takeOther_1 : decode cX1_takeOther 1 = .ok (.aload_n 0, 1) := by decide +kernel
theorem dX1_takeOther_2 : decode cX1_takeOther 2 = .ok (.invokevirtual 78, 3) := by decide +kernel
theorem dX1_takeOther_5 : decode cX1_takeOther 5 = .ok (.putfield 29, 3) := by decide +kernel
theorem dX1_takeOther_8 : decode cX1_takeOther 8 = .ok (.aload_n 0, 1) := by decide +kernel
theorem dX1_takeOther_9 : decode cX1_takeOther 9 = .ok (.aload_n 0, 1) := by decide +kernel
theorem dX1_takeOther_10 : decode cX1_takeOther 10 = .ok (.getfield 29, 3) := by decide +kernel
theorem dX1_takeOther_13 : decode cX1_takeOther 13 = .ok (.invokevirtual 82, 3) := by decide +kernel
theorem dX1_takeOther_16 : decode cX1_takeOther 16 = .ok (.ireturn, 1) := by decide +kernel
theorem dX1_takeSize_0 : decode cX1_takeSize 0 = .ok (.aload_n 0, 1) := by decide +kernel
theorem dX1_takeSize_1 : decode cX1_takeSize 1 = .ok (.aload_n 0, 1) := by decide +kernel
theorem dX1_takeSize_2 : decode cX1_takeSize 2 = .ok (.invokevirtual 78, 3) := by decide +kernel
theorem dX1_takeSize_5 : decode cX1_takeSize 5 = .ok (.putfield 35, 3) := by decide +kernel
theorem dX1_takeSize_8 : decode cX1_takeSize 8 = .ok (.aload_n 0, 1) := by decide +kernel
theorem dX1_takeSize_9 : decode cX1_takeSize 9 = .ok (.aload_n 0, 1) := by decide +kernel
theorem dX1_takeSize_10 : decode cX1_takeSize 10 = .ok (.getfield 35, 3) := by decide +kernel
theorem dX1_takeSize_13 : decode cX1_takeSize 13 = .ok (.invokevirtual 82, 3) := by decide +kernel
theorem dX1_takeSize_16 : decode cX1_takeSize 16 = .ok (.ireturn, 1) := by decide +kernel
theorem dX1_takeNumber_0 : decode cX1_takeNumber 0 = .ok (.aload_n 0, 1) := by decide +kernel
theorem dX1_takeNumber_1 : decode cX1_takeNumber 1 = .ok (.aload_n 0, 1) := by decide +kernel
theorem dX1_takeNumber_2 : decode cX1_takeNumber 2 = .ok (.invokevirtual 78, 3) := by decide +kernel
theorem dX1_takeNumber_5 : decode cX1_takeNumber 5 = .ok (.putfield 32, 3) := by decide +kernel
theorem dX1_takeNumber_8 : decode cX1_takeNumber 8 = .ok (.aload_n 0, 1) := by decide +kernel
theorem dX1_takeNumber_9 : decode cX1_takeNumber 9 = .ok (.aload_n 0, 1) := by decide +kernel
theorem dX1_takeNumber_10 : decode cX1_takeNumber 10 = .ok (.getfield 32, 3) := by decide +kernel
theorem dX1_takeNumber_13 : decode cX1_takeNumber 13 = .ok (.invokevirtual 82, 3) := by decide +kernel
theorem dX1_takeNumber_16 : decode cX1_takeNumber 16 = .ok (.ifCond .ne 5, 3) := by decide +kernel
theorem dX1_takeNumber_19 : decode cX1_takeNumber 19 = .ok (.iconst 0, 1) := by decide +kernel
theorem dX1_takeNumber_20 : decode cX1_takeNumber 20 = .ok (.ireturn, 1) := by decide +kernel
theorem dX1_takeNumber_21 : decode cX1_takeNumber 21 = .ok (.aload_n 0, 1) := by decide +kernel
theorem dX1_takeNumber_22 : decode cX1_takeNumber 22 = .ok (.invokevirtual 78, 3) := by decide +kernel
theorem dX1_takeNumber_25 : decode cX1_takeNumber 25 = .ok (.istore_n 1, 1) := by decide +kernel
theorem dX1_takeNumber_26 : decode cX1_takeNumber 26 = .ok (.aload_n 0, 1) := by decide +kernel
theorem dX1_takeNumber_27 : decode cX1_takeNumber 27 = .ok (.getfield 32, 3) := by decide +kernel
theorem dX1_takeNumber_30 : decode cX1_takeNumber 30 = .ok (.ifCond .eq 24, 3) := by decide +kernel
theorem dX1_takeNumber_33 : decode cX1_takeNumber 33 = .ok (.aload_n 0, 1) := by decide +kernel
theorem dX1_takeNumber_34 : decode cX1_takeNumber 34 = .ok (.iload_n 1, 1) := by decide +kernel
theorem dX1_takeNumber_35 : decode cX1_takeNumber 35 = .ok (.invokevirtual 82, 3) := by decide +kernel
theorem dX1_takeNumber_38 : decode cX1_takeNumber 38 = .ok (.ifCond .eq 16, 3) := by decide +kernel
theorem dX1_takeNumber_41 : decode cX1_takeNumber 41 = .ok (.aload_n 0, 1) := by decide +kernel
theorem dX1_takeNumber_42 : decode cX1_takeNumber 42 = .ok (.bipush 10, 2) := by decide +kernel
theorem dX1_takeNumber_44 : decode cX1_takeNumber 44 = .ok (.aload_n 0, 1) := by decide +kernel
theorem dX1_takeNumber_45 : decode cX1_takeNumber 45 = .ok (.getfield 32, 3) := by decide +kernel
theorem dX1_takeNumber_48 : decode cX1_takeNumber 48 = .ok (.imul, 1) := by decide +kernel
theorem dX1_takeNumber_49 : decode cX1_takeNumber 49 = .ok (.iload_n 1, 1) := by decide +kernel
theorem dX1_takeNumber_50 : decode cX1_takeNumber 50 = .ok (.iadd, 1) := by decide +kernel
theorem dX1_takeNumber_51 : decode cX1_takeNumber 51 = .ok (.putfield 32, 3) := by decide +kernel
theorem dX1_takeNumber_54 : decode cX1_takeNumber 54 = .ok (.iconst 1, 1) := by decide +kernel
theorem dX1_takeNumber_55 : decode cX1_takeNumber 55 = .ok (.ireturn, 1) := by decide +kernel
theorem dX1_take_0 : decode cX1_take 0 = .ok (.aload_n 0, 1) := by decide +kernel
theorem dX1_take_1 : decode cX1_take 1 = .ok (.invokevirtual 62, 3) := by decide +kernel
theorem dX1_take_4 : decode cX1_take 4 = .ok (.iload_n 1, 1) := by decide +kernel
theorem dX1_take_5 : decode cX1_take 5 = .ok (.if_icmp .eq 5, 3) := by decide +kernel
theorem dX1_take_8 : decode cX1_take 8 = .ok (.iconst 0, 1) := by decide +kernel
theorem dX1_take_9 : decode cX1_take 9 = .ok (.ireturn, 1) := by decide +kernel
theorem dX1_take_10 : decode cX1_take 10 = .ok (.aload_n 0, 1) := by decide +kernel
theorem dX1_take_11 : decode cX1_take 11 = .ok (.dup, 1) := by decide +kernel
theorem dX1_take_12 : decode cX1_take 12 = .ok (.getfield 19, 3) := by decide +kernel
theorem dX1_take_15 : decode cX1_take 15 = .ok (.iconst 1, 1) := by decide +kernel
theorem dX1_take_16 : decode cX1_take 16 = .ok (.iadd, 1) := by decide +kernel
theorem dX1_take_17 : decode cX1_take 17 = .ok (.putfield 19, 3) := by decide +kernel
theorem dX1_take_20 : decode cX1_take 20 = .ok (.iconst 1, 1) := by decide +kernel
theorem dX1_take_21 : decode cX1_take 21 = .ok (.ireturn, 1) := by decide +kernel
theorem dX1_pass_0 : decode cX1_pass 0 = .ok (.iload_n 1, 1) := by decide +kernel
theorem dX1_pass_1 : decode cX1_pass 1 = .ok (.ifCond .ge 5, 3) := by decide +kernel
theorem dX1_pass_4 : decode cX1_pass 4 = .ok (.iconst 0, 1) := by decide +kernel
theorem dX1_pass_5 : decode cX1_pass 5 = .ok (.ireturn, 1) := by decide +kernel
theorem dX1_pass_6 : decode cX1_pass 6 = .ok (.aload_n 0, 1) := by decide +kernel
theorem dX1_pass_7 : decode cX1_pass 7 = .ok (.dup, 1) := by decide +kernel
theorem dX1_pass_8 : decode cX1_pass 8 = .ok (.getfield 19, 3) := by decide +kernel
theorem dX1_pass_11 : decode cX1_pass 11 = .ok (.iconst 1, 1) := by decide +kernel
theorem dX1_pass_12 : decode cX1_pass 12 = .ok (.iadd, 1) := by decide +kernel
theorem dX1_pass_13 : decode cX1_pass 13 = .ok (.putfield 19, 3) := by decide +kernel
theorem dX1_pass_16 : decode cX1_pass 16 = .ok (.iconst 1, 1) := by decide +kernel
theorem dX1_pass_17 : decode cX1_pass 17 = .ok (.ireturn, 1) := by decide +kernel
theorem dX1_digitHere_0 : decode cX1_digitHere 0 = .ok (.aload_n 0, 1) := by decide +kernel
theorem dX1_digitHere_1 : decode cX1_digitHere 1 = .ok (.invokevirtual 62, 3) := by decide +kernel
theorem dX1_digitHere_4 : decode cX1_digitHere 4 = .ok (.istore_n 1, 1) := by decide +kernel
theorem dX1_digitHere_5 : decode cX1_digitHere 5 = .ok (.iload_n 1, 1) := by decide +kernel
theorem dX1_digitHere_6 : decode cX1_digitHere 6 = .ok (.bipush 48, 2) := by decide +kernel
theorem dX1_digitHere_8 : decode cX1_digitHere 8 = .ok (.if_icmp .lt 16, 3) := by decide +kernel
theorem dX1_digitHere_11 : decode cX1_digitHere 11 = .ok (.iload_n 1, 1) := by decide +kernel
theorem dX1_digitHere_12 : decode cX1_digitHere 12 = .ok (.bipush 57, 2) := by decide +kernel
theorem dX1_digitHere_14 : decode cX1_digitHere 14 = .ok (.if_icmp .gt 10, 3) := by decide +kernel
theorem dX1_digitHere_17 : decode cX1_digitHere 17 = .ok (.iload_n 1, 1) := by decide +kernel
theorem dX1_digitHere_18 : decode cX1_digitHere 18 = .ok (.bipush 48, 2) := by decide +kernel
theorem dX1_digitHere_20 : decode cX1_digitHere 20 = .ok (.isub, 1) := by decide +kernel
theorem dX1_digitHere_21 : decode cX1_digitHere 21 = .ok (.goto 4, 3) := by decide +kernel
theorem dX1_digitHere_24 : decode cX1_digitHere 24 = .ok (.iconst (-1), 1) := by decide +kernel
theorem dX1_digitHere_25 : decode cX1_digitHere 25 = .ok (.ireturn, 1) := by decide +kernel
theorem dX1_here_0 : decode cX1_here 0 = .ok (.aload_n 0, 1) := by decide +kernel
theorem dX1_here_1 : decode cX1_here 1 = .ok (.getfield 19, 3) := by decide +kernel
theorem dX1_here_4 : decode cX1_here 4 = .ok (.ifCond .lt 26, 3) := by decide +kernel
theorem dX1_here_7 : decode cX1_here 7 = .ok (.aload_n 0, 1) := by decide +kernel
theorem dX1_here_8 : decode cX1_here 8 = .ok (.getfield 19, 3) := by decide +kernel
theorem dX1_here_11 : decode cX1_here 11 = .ok (.aload_n 0, 1) := by decide +kernel
theorem dX1_here_12 : decode cX1_here 12 = .ok (.getfield 15, 3) := by decide +kernel
theorem dX1_here_15 : decode cX1_here 15 = .ok (.if_icmp .ge 15, 3) := by decide +kernel
theorem dX1_here_18 : decode cX1_here 18 = .ok (.aload_n 0, 1) := by decide +kernel
theorem dX1_here_19 : decode cX1_here 19 = .ok (.getfield 11, 3) := by decide +kernel
theorem dX1_here_22 : decode cX1_here 22 = .ok (.aload_n 0, 1) := by decide +kernel
theorem dX1_here_23 : decode cX1_here 23 = .ok (.getfield 19, 3) := by decide +kernel
theorem dX1_here_26 : decode cX1_here 26 = .ok (.caload, 1) := by decide +kernel
theorem dX1_here_27 : decode cX1_here 27 = .ok (.goto 4, 3) := by decide +kernel
theorem dX1_here_30 : decode cX1_here 30 = .ok (.iconst 0, 1) := by decide +kernel
theorem dX1_here_31 : decode cX1_here 31 = .ok (.ireturn, 1) := by decide +kernel
