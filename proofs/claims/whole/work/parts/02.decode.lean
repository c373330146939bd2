theorem dX0_init_0 : decode cX0_init 0 = .ok (.aload_n 0, 1) := by decide +kernel
theorem dX0_init_1 : decode cX0_init 1 = .ok (.invokespecial 3, 3) := by decide +kernel
theorem dX0_init_4 : decode cX0_init 4 = .ok (.aload_n 0, 1) := by decide +kernel
theorem dX0_init_5 : decode cX0_init 5 = .ok (.bipush 60, 2) := by decide +kernel
theorem dX0_init_7 : decode cX0_init 7 = .ok (.newarray .int, 2) := by decide +kernel
theorem dX0_init_9 : decode cX0_init 9 = .ok (.putfield 9, 3) := by decide +kernel
theorem dX0_init_12 : decode cX0_init 12 = .ok (.return_, 1) := by decide +kernel
theorem dX0_search_0 : decode cX0_search 0 = .ok (.aload_n 0, 1) := by decide +kernel
theorem dX0_search_1 : decode cX0_search 1 = .ok (.sipush 3600, 3) := by decide +kernel
theorem dX0_search_4 : decode cX0_search 4 = .ok (.putfield 15, 3) := by decide +kernel
theorem dX0_search_7 : decode cX0_search 7 = .ok (.iconst 0, 1) := by decide +kernel
theorem dX0_search_8 : decode cX0_search 8 = .ok (.istore_n 2, 1) := by decide +kernel
theorem dX0_search_9 : decode cX0_search 9 = .ok (.iload_n 2, 1) := by decide +kernel
theorem dX0_search_10 : decode cX0_search 10 = .ok (.bipush 60, 2) := by decide +kernel
theorem dX0_search_12 : decode cX0_search 12 = .ok (.if_icmp .ge 24, 3) := by decide +kernel
theorem dX0_search_15 : decode cX0_search 15 = .ok (.aload_n 0, 1) := by decide +kernel
theorem dX0_search_16 : decode cX0_search 16 = .ok (.aload_n 1, 1) := by decide +kernel
theorem dX0_search_17 : decode cX0_search 17 = .ok (.iload_n 2, 1) := by decide +kernel
theorem dX0_search_18 : decode cX0_search 18 = .ok (.invokevirtual 19, 3) := by decide +kernel
theorem dX0_search_21 : decode cX0_search 21 = .ok (.aload_n 0, 1) := by decide +kernel
theorem dX0_search_22 : decode cX0_search 22 = .ok (.aload_n 1, 1) := by decide +kernel
theorem dX0_search_23 : decode cX0_search 23 = .ok (.getfield 23, 3) := by decide +kernel
theorem dX0_search_26 : decode cX0_search 26 = .ok (.iload_n 2, 1) := by decide +kernel
theorem dX0_search_27 : decode cX0_search 27 = .ok (.invokevirtual 28, 3) := by decide +kernel
theorem dX0_search_30 : decode cX0_search 30 = .ok (.iinc 2 1, 3) := by decide +kernel
theorem dX0_search_33 : decode cX0_search 33 = .ok (.goto (-24), 3) := by decide +kernel
theorem dX0_search_36 : decode cX0_search 36 = .ok (.return_, 1) := by decide +kernel
theorem dX0_unbend_0 : decode cX0_unbend 0 = .ok (.aload_n 0, 1) := by decide +kernel
theorem dX0_unbend_1 : decode cX0_unbend 1 = .ok (.getfield 9, 3) := by decide +kernel
theorem dX0_unbend_4 : decode cX0_unbend 4 = .ok (.iconst 0, 1) := by decide +kernel
theorem dX0_unbend_5 : decode cX0_unbend 5 = .ok (.invokestatic 32, 3) := by decide +kernel
theorem dX0_unbend_8 : decode cX0_unbend 8 = .ok (.iconst 0, 1) := by decide +kernel
theorem dX0_unbend_9 : decode cX0_unbend 9 = .ok (.istore_n 3, 1) := by decide +kernel
theorem dX0_unbend_10 : decode cX0_unbend 10 = .ok (.iload_n 3, 1) := by decide +kernel
theorem dX0_unbend_11 : decode cX0_unbend 11 = .ok (.aload_n 1, 1) := by decide +kernel
theorem dX0_unbend_12 : decode cX0_unbend 12 = .ok (.getfield 23, 3) := by decide +kernel
theorem dX0_unbend_15 : decode cX0_unbend 15 = .ok (.if_icmp .ge 41, 3) := by decide +kernel
theorem dX0_unbend_18 : decode cX0_unbend 18 = .ok (.aload_n 1, 1) := by decide +kernel
theorem dX0_unbend_19 : decode cX0_unbend 19 = .ok (.iload_n 3, 1) := by decide +kernel
theorem dX0_unbend_20 : decode cX0_unbend 20 = .ok (.invokevirtual 38, 3) := by decide +kernel
theorem dX0_unbend_23 : decode cX0_unbend 23 = .ok (.bipush 60, 2) := by decide +kernel
theorem dX0_unbend_25 : decode cX0_unbend 25 = .ok (.invokestatic 42, 3) := by decide +kernel
theorem dX0_unbend_28 : decode cX0_unbend 28 = .ok (.istore 4, 2) := by decide +kernel
theorem dX0_unbend_30 : decode cX0_unbend 30 = .ok (.aload_n 0, 1) := by decide +kernel
theorem dX0_unbend_31 : decode cX0_unbend 31 = .ok (.getfield 9, 3) := by decide +kernel
theorem dX0_unbend_34 : decode cX0_unbend 34 = .ok (.iload 4, 2) := by decide +kernel
theorem dX0_unbend_36 : decode cX0_unbend 36 = .ok (.iload_n 2, 1) := by decide +kernel
theorem dX0_unbend_37 : decode cX0_unbend 37 = .ok (.iload_n 3, 1) := by decide +kernel
theorem dX0_unbend_38 : decode cX0_unbend 38 = .ok (.imul, 1) := by decide +kernel
theorem dX0_unbend_39 : decode cX0_unbend 39 = .ok (.isub, 1) := by decide +kernel
theorem dX0_unbend_40 : decode cX0_unbend 40 = .ok (.bipush 60, 2) := by decide +kernel
theorem dX0_unbend_42 : decode cX0_unbend 42 = .ok (.invokestatic 42, 3) := by decide +kernel
theorem dX0_unbend_45 : decode cX0_unbend 45 = .ok (.dup2, 1) := by decide +kernel
theorem dX0_unbend_46 : decode cX0_unbend 46 = .ok (.iaload, 1) := by decide +kernel
theorem dX0_unbend_47 : decode cX0_unbend 47 = .ok (.iconst 1, 1) := by decide +kernel
theorem dX0_unbend_48 : decode cX0_unbend 48 = .ok (.iadd, 1) := by decide +kernel
theorem dX0_unbend_49 : decode cX0_unbend 49 = .ok (.iastore, 1) := by decide +kernel
theorem dX0_unbend_50 : decode cX0_unbend 50 = .ok (.iinc 3 1, 3) := by decide +kernel
theorem dX0_unbend_53 : decode cX0_unbend 53 = .ok (.goto (-43), 3) := by decide +kernel
theorem dX0_unbend_56 : decode cX0_unbend 56 = .ok (.return_, 1) := by decide +kernel
theorem dX0_weighStarts_0 : decode cX0_weighStarts 0 = .ok (.aload_n 0, 1) := by decide +kernel
theorem dX0_weighStarts_1 : decode cX0_weighStarts 1 = .ok (.invokevirtual 48, 3) := by decide +kernel
theorem dX0_weighStarts_4 : decode cX0_weighStarts 4 = .ok (.istore_n 3, 1) := by decide +kernel
theorem dX0_weighStarts_5 : decode cX0_weighStarts 5 = .ok (.aload_n 0, 1) := by decide +kernel
theorem dX0_weighStarts_6 : decode cX0_weighStarts 6 = .ok (.invokevirtual 52, 3) := by decide +kernel
theorem dX0_weighStarts_9 : decode cX0_weighStarts 9 = .ok (.istore 4, 2) := by decide +kernel
theorem dX0_weighStarts_11 : decode cX0_weighStarts 11 = .ok (.iconst 0, 1) := by decide +kernel
theorem dX0_weighStarts_12 : decode cX0_weighStarts 12 = .ok (.istore 5, 2) := by decide +kernel
theorem dX0_weighStarts_14 : decode cX0_weighStarts 14 = .ok (.iload 5, 2) := by decide +kernel
theorem dX0_weighStarts_16 : decode cX0_weighStarts 16 = .ok (.bipush 60, 2) := by decide +kernel
theorem dX0_weighStarts_18 : decode cX0_weighStarts 18 = .ok (.if_icmp .ge 74, 3) := by decide +kernel
theorem dX0_weighStarts_21 : decode cX0_weighStarts 21 = .ok (.iload 4, 2) := by decide +kernel
theorem dX0_weighStarts_23 : decode cX0_weighStarts 23 = .ok (.aload_n 0, 1) := by decide +kernel
theorem dX0_weighStarts_24 : decode cX0_weighStarts 24 = .ok (.getfield 15, 3) := by decide +kernel
theorem dX0_weighStarts_27 : decode cX0_weighStarts 27 = .ok (.if_icmp .ge 20, 3) := by decide +kernel
theorem dX0_weighStarts_30 : decode cX0_weighStarts 30 = .ok (.aload_n 0, 1) := by decide +kernel
theorem dX0_weighStarts_31 : decode cX0_weighStarts 31 = .ok (.iload 4, 2) := by decide +kernel
theorem dX0_weighStarts_33 : decode cX0_weighStarts 33 = .ok (.putfield 15, 3) := by decide +kernel
theorem dX0_weighStarts_36 : decode cX0_weighStarts 36 = .ok (.aload_n 0, 1) := by decide +kernel
theorem dX0_weighStarts_37 : decode cX0_weighStarts 37 = .ok (.iload_n 2, 1) := by decide +kernel
theorem dX0_weighStarts_38 : decode cX0_weighStarts 38 = .ok (.putfield 55, 3) := by decide +kernel
theorem dX0_weighStarts_41 : decode cX0_weighStarts 41 = .ok (.aload_n 0, 1) := by decide +kernel
theorem dX0_weighStarts_42 : decode cX0_weighStarts 42 = .ok (.iload 5, 2) := by decide +kernel
theorem dX0_weighStarts_44 : decode cX0_weighStarts 44 = .ok (.putfield 58, 3) := by decide +kernel
theorem dX0_weighStarts_47 : decode cX0_weighStarts 47 = .ok (.iload 4, 2) := by decide +kernel
theorem dX0_weighStarts_49 : decode cX0_weighStarts 49 = .ok (.iload_n 1, 1) := by decide +kernel
theorem dX0_weighStarts_50 : decode cX0_weighStarts 50 = .ok (.iconst 2, 1) := by decide +kernel
theorem dX0_weighStarts_51 : decode cX0_weighStarts 51 = .ok (.iload_n 3, 1) := by decide +kernel
theorem dX0_weighStarts_52 : decode cX0_weighStarts 52 = .ok (.imul, 1) := by decide +kernel
theorem dX0_weighStarts_53 : decode cX0_weighStarts 53 = .ok (.isub, 1) := by decide +kernel
theorem dX0_weighStarts_54 : decode cX0_weighStarts 54 = .ok (.iadd, 1) := by decide +kernel
theorem dX0_weighStarts_55 : decode cX0_weighStarts 55 = .ok (.istore 4, 2) := by decide +kernel
theorem dX0_weighStarts_57 : decode cX0_weighStarts 57 = .ok (.iload_n 3, 1) := by decide +kernel
theorem dX0_weighStarts_58 : decode cX0_weighStarts 58 = .ok (.aload_n 0, 1) := by decide +kernel
theorem dX0_weighStarts_59 : decode cX0_weighStarts 59 = .ok (.getfield 9, 3) := by decide +kernel
theorem dX0_weighStarts_62 : decode cX0_weighStarts 62 = .ok (.iload 5, 2) := by decide +kernel
theorem dX0_weighStarts_64 : decode cX0_weighStarts 64 = .ok (.bipush 31, 2) := by decide +kernel
theorem dX0_weighStarts_66 : decode cX0_weighStarts 66 = .ok (.iadd, 1) := by decide +kernel
theorem dX0_weighStarts_67 : decode cX0_weighStarts 67 = .ok (.bipush 60, 2) := by decide +kernel
theorem dX0_weighStarts_69 : decode cX0_weighStarts 69 = .ok (.irem, 1) := by decide +kernel
theorem dX0_weighStarts_70 : decode cX0_weighStarts 70 = .ok (.iaload, 1) := by decide +kernel
theorem dX0_weighStarts_71 : decode cX0_weighStarts 71 = .ok (.aload_n 0, 1) := by decide +kernel
theorem dX0_weighStarts_72 : decode cX0_weighStarts 72 = .ok (.getfield 9, 3) := by decide +kernel
theorem dX0_weighStarts_75 : decode cX0_weighStarts 75 = .ok (.iload 5, 2) := by decide +kernel
theorem dX0_weighStarts_77 : decode cX0_weighStarts 77 = .ok (.iconst 1, 1) := by decide +kernel
theorem dX0_weighStarts_78 : decode cX0_weighStarts 78 = .ok (.iadd, 1) := by decide +kernel
theorem dX0_weighStarts_79 : decode cX0_weighStarts 79 = .ok (.bipush 60, 2) := by decide +kernel
theorem dX0_weighStarts_81 : decode cX0_weighStarts 81 = .ok (.irem, 1) := by decide +kernel
theorem dX0_weighStarts_82 : decode cX0_weighStarts 82 = .ok (.iaload, 1) := by decide +kernel
theorem dX0_weighStarts_83 : decode cX0_weighStarts 83 = .ok (.isub, 1) := by decide +kernel
theorem dX0_weighStarts_84 : decode cX0_weighStarts 84 = .ok (.iadd, 1) := by decide +kernel
theorem dX0_weighStarts_85 : decode cX0_weighStarts 85 = .ok (.istore_n 3, 1) := by decide +kernel
theorem dX0_weighStarts_86 : decode cX0_weighStarts 86 = .ok (.iinc 5 1, 3) := by decide +kernel
theorem dX0_weighStarts_89 : decode cX0_weighStarts 89 = .ok (.goto (-75), 3) := by decide +kernel
theorem dX0_weighStarts_92 : decode cX0_weighStarts 92 = .ok (.return_, 1) := by decide +kernel
theorem dX0_rowsAhead_0 : decode cX0_rowsAhead 0 = .ok (.iconst 0, 1) := by decide +kernel
theorem dX0_rowsAhead_1 : decode cX0_rowsAhead 1 = .ok (.istore_n 1, 1) := by decide +kernel
theorem dX0_rowsAhead_2 : decode cX0_rowsAhead 2 = .ok (.iconst 1, 1) := by decide +kernel
theorem dX0_rowsAhead_3 : decode cX0_rowsAhead 3 = .ok (.istore_n 2, 1) := by decide +kernel
theorem dX0_rowsAhead_4 : decode cX0_rowsAhead 4 = .ok (.iload_n 2, 1) := by decide +kernel
theorem dX0_rowsAhead_5 : decode cX0_rowsAhead 5 = .ok (.bipush 30, 2) := by decide +kernel
theorem dX0_rowsAhead_7 : decode cX0_rowsAhead 7 = .ok (.if_icmp .gt 18, 3) := by decide +kernel
theorem dX0_rowsAhead_10 : decode cX0_rowsAhead 10 = .ok (.iload_n 1, 1) := by decide +kernel
theorem dX0_rowsAhead_11 : decode cX0_rowsAhead 11 = .ok (.aload_n 0, 1) := by decide +kernel
theorem dX0_rowsAhead_12 : decode cX0_rowsAhead 12 = .ok (.getfield 9, 3) := by decide +kernel
theorem dX0_rowsAhead_15 : decode cX0_rowsAhead 15 = .ok (.iload_n 2, 1) := by decide +kernel
theorem dX0_rowsAhead_16 : decode cX0_rowsAhead 16 = .ok (.iaload, 1) := by decide +kernel
theorem dX0_rowsAhead_17 : decode cX0_rowsAhead 17 = .ok (.iadd, 1) := by decide +kernel
theorem dX0_rowsAhead_18 : decode cX0_rowsAhead 18 = .ok (.istore_n 1, 1) := by decide +kernel
theorem dX0_rowsAhead_19 : decode cX0_rowsAhead 19 = .ok (.iinc 2 1, 3) := by decide +kernel
theorem dX0_rowsAhead_22 : decode cX0_rowsAhead 22 = .ok (.goto (-18), 3) := by decide +kernel
theorem dX0_rowsAhead_25 : decode cX0_rowsAhead 25 = .ok (.iload_n 1, 1) := by decide +kernel
theorem dX0_rowsAhead_26 : decode cX0_rowsAhead 26 = .ok (.ireturn, 1) := by decide +kernel
theorem dX0_sumFromZero_0 : decode cX0_sumFromZero 0 = .ok (.iconst 0, 1) := by decide +kernel
theorem dX0_sumFromZero_1 : decode cX0_sumFromZero 1 = .ok (.istore_n 1, 1) := by decide +kernel
theorem dX0_sumFromZero_2 : decode cX0_sumFromZero 2 = .ok (.iconst 0, 1) := by decide +kernel
theorem dX0_sumFromZero_3 : decode cX0_sumFromZero 3 = .ok (.istore_n 2, 1) := by decide +kernel
theorem dX0_sumFromZero_4 : decode cX0_sumFromZero 4 = .ok (.iload_n 2, 1) := by decide +kernel
theorem dX0_sumFromZero_5 : decode cX0_sumFromZero 5 = .ok (.bipush 60, 2) := by decide +kernel
theorem dX0_sumFromZero_7 : decode cX0_sumFromZero 7 = .ok (.if_icmp .ge 27, 3) := by decide +kernel
theorem dX0_sumFromZero_10 : decode cX0_sumFromZero 10 = .ok (.iload_n 1, 1) := by decide +kernel
theorem dX0_sumFromZero_11 : decode cX0_sumFromZero 11 = .ok (.aload_n 0, 1) := by decide +kernel
theorem dX0_sumFromZero_12 : decode cX0_sumFromZero 12 = .ok (.getfield 9, 3) := by decide +kernel
theorem dX0_sumFromZero_15 : decode cX0_sumFromZero 15 = .ok (.iload_n 2, 1) := by decide +kernel
theorem dX0_sumFromZero_16 : decode cX0_sumFromZero 16 = .ok (.iaload, 1) := by decide +kernel
theorem dX0_sumFromZero_17 : decode cX0_sumFromZero 17 = .ok (.iload_n 2, 1) := by decide +kernel
theorem dX0_sumFromZero_18 : decode cX0_sumFromZero 18 = .ok (.bipush 60, 2) := by decide +kernel
theorem dX0_sumFromZero_20 : decode cX0_sumFromZero 20 = .ok (.iload_n 2, 1) := by decide +kernel
theorem dX0_sumFromZero_21 : decode cX0_sumFromZero 21 = .ok (.isub, 1) := by decide +kernel
theorem dX0_sumFromZero_22 : decode cX0_sumFromZero 22 = .ok (.invokestatic 61, 3) := by decide +kernel
theorem dX0_sumFromZero_25 : decode cX0_sumFromZero 25 = .ok (.imul, 1) := by decide +kernel
theorem dX0_sumFromZero_26 : decode cX0_sumFromZero 26 = .ok (.iadd, 1) := by decide +kernel
theorem dX0_sumFromZero_27 : decode cX0_sumFromZero 27 = .ok (.istore_n 1, 1) := by decide +kernel
theorem dX0_sumFromZero_28 : decode cX0_sumFromZero 28 = .ok (.iinc 2 1, 3) := by decide +kernel
theorem dX0_sumFromZero_31 : decode cX0_sumFromZero 31 = .ok (.goto (-27), 3) := by decide +kernel
theorem dX0_sumFromZero_34 : decode cX0_sumFromZero 34 = .ok (.iload_n 1, 1) := by decide +kernel
theorem dX0_sumFromZero_35 : decode cX0_sumFromZero 35 = .ok (.ireturn, 1) := by decide +kernel
theorem dX1_stands_0 : decode cX1_stands 0 = .ok (.iload_n 0, 1) := by decide +kernel
theorem dX1_stands_1 : decode cX1_stands 1 = .ok (.iconst 1, 1) := by decide +kernel
theorem dX1_stands_2 : decode cX1_stands 2 = .ok (.bipush 24, 2) := by decide +kernel
theorem dX1_stands_4 : decode cX1_stands 4 = .ok (.invokestatic 9, 3) := by decide +kernel
theorem dX1_stands_7 : decode cX1_stands 7 = .ok (.ifCond .eq 17, 3) := by decide +kernel
theorem dX1_stands_10 : decode cX1_stands 10 = .ok (.iload_n 1, 1) := by decide +kernel
theorem dX1_stands_11 : decode cX1_stands 11 = .ok (.iconst 1, 1) := by decide +kernel
theorem dX1_stands_12 : decode cX1_stands 12 = .ok (.bipush 24, 2) := by decide +kernel
theorem dX1_stands_14 : decode cX1_stands 14 = .ok (.invokestatic 9, 3) := by decide +kernel
theorem dX1_stands_17 : decode cX1_stands 17 = .ok (.ifCond .eq 7, 3) := by decide +kernel
theorem dX1_stands_20 : decode cX1_stands 20 = .ok (.iconst 1, 1) := by decide +kernel
theorem dX1_stands_21 : decode cX1_stands 21 = .ok (.goto 4, 3) := by decide +kernel
theorem dX1_stands_24 : decode cX1_stands 24 = .ok (.iconst 0, 1) := by decide +kernel
theorem dX1_stands_25 : decode cX1_stands 25 = .ok (.ireturn, 1) := by decide +kernel
theorem dX1_advanceOf_0 : decode cX1_advanceOf 0 = .ok (.iload_n 1, 1) := by decide +kernel
theorem dX1_advanceOf_1 : decode cX1_advanceOf 1 = .ok (.iload_n 0, 1) := by decide +kernel
theorem dX1_advanceOf_2 : decode cX1_advanceOf 2 = .ok (.invokestatic 13, 3) := by decide +kernel
theorem dX1_advanceOf_5 : decode cX1_advanceOf 5 = .ok (.ireturn, 1) := by decide +kernel
theorem dX1_driftAbove_0 : decode cX1_driftAbove 0 = .ok (.iload_n 1, 1) := by decide +kernel
theorem dX1_driftAbove_1 : decode cX1_driftAbove 1 = .ok (.iload_n 0, 1) := by decide +kernel
theorem dX1_driftAbove_2 : decode cX1_driftAbove 2 = .ok (.iload_n 1, 1) := by decide +kernel
theorem dX1_driftAbove_3 : decode cX1_driftAbove 3 = .ok (.invokestatic 19, 3) := by decide +kernel
theorem dX1_driftAbove_6 : decode cX1_driftAbove 6 = .ok (.iload_n 0, 1) := by decide +kernel
theorem dX1_driftAbove_7 : decode cX1_driftAbove 7 = .ok (.imul, 1) := by decide +kernel
theorem dX1_driftAbove_8 : decode cX1_driftAbove 8 = .ok (.isub, 1) := by decide +kernel
theorem dX1_driftAbove_9 : decode cX1_driftAbove 9 = .ok (.ireturn, 1) := by decide +kernel
theorem dX1_seemingOf_0 : decode cX1_seemingOf 0 = .ok (.iload_n 0, 1) := by decide +kernel
theorem dX1_seemingOf_1 : decode cX1_seemingOf 1 = .ok (.iload_n 1, 1) := by decide +kernel
theorem dX1_seemingOf_2 : decode cX1_seemingOf 2 = .ok (.invokestatic 24, 3) := by decide +kernel
theorem dX1_seemingOf_5 : decode cX1_seemingOf 5 = .ok (.istore_n 2, 1) := by decide +kernel
theorem dX1_seemingOf_6 : decode cX1_seemingOf 6 = .ok (.iload_n 2, 1) := by decide +kernel
theorem dX1_seemingOf_7 : decode cX1_seemingOf 7 = .ok (.ifCond .eq 13, 3) := by decide +kernel
theorem dX1_seemingOf_10 : decode cX1_seemingOf 10 = .ok (.iload_n 2, 1) := by decide +kernel
theorem dX1_seemingOf_11 : decode cX1_seemingOf 11 = .ok (.ifCond .le 7, 3) := by decide +kernel
theorem dX1_seemingOf_14 : decode cX1_seemingOf 14 = .ok (.iconst 2, 1) := by decide +kernel
theorem dX1_seemingOf_15 : decode cX1_seemingOf 15 = .ok (.goto 4, 3) := by decide +kernel
theorem dX1_seemingOf_18 : decode cX1_seemingOf 18 = .ok (.iconst 3, 1) := by decide +kernel
theorem dX1_seemingOf_19 : decode cX1_seemingOf 19 = .ok (.ireturn, 1) := by decide +kernel
theorem dX1_seemingOf_20 : decode cX1_seemingOf 20 = .ok (.iload_n 0, 1) := by decide +kernel
theorem dX1_seemingOf_21 : decode cX1_seemingOf 21 = .ok (.iload_n 1, 1) := by decide +kernel
theorem dX1_seemingOf_22 : decode cX1_seemingOf 22 = .ok (.iconst 1, 1) := by decide +kernel
theorem dX1_seemingOf_23 : decode cX1_seemingOf 23 = .ok (.invokestatic 27, 3) := by decide +kernel
theorem dX1_seemingOf_26 : decode cX1_seemingOf 26 = .ok (.ifCond .ne 7, 3) := by decide +kernel
theorem dX1_seemingOf_29 : decode cX1_seemingOf 29 = .ok (.iconst 0, 1) := by decide +kernel
theorem dX1_seemingOf_30 : decode cX1_seemingOf 30 = .ok (.goto 4, 3) := by decide +kernel
theorem dX1_seemingOf_33 : decode cX1_seemingOf 33 = .ok (.iconst 1, 1) := by decide +kernel
theorem dX1_seemingOf_34 : decode cX1_seemingOf 34 = .ok (.ireturn, 1) := by decide +kernel
theorem dX1_pictureAt_0 : decode cX1_pictureAt 0 = .ok (.iload_n 1, 1) := by decide +kernel
theorem dX1_pictureAt_1 : decode cX1_pictureAt 1 = .ok (.iconst 1, 1) := by decide +kernel
theorem dX1_pictureAt_2 : decode cX1_pictureAt 2 = .ok (.if_icmp .ge 7, 3) := by decide +kernel
theorem dX1_pictureAt_5 : decode cX1_pictureAt 5 = .ok (.iconst 0, 1) := by decide +kernel
theorem dX1_pictureAt_6 : decode cX1_pictureAt 6 = .ok (.goto 12, 3) := by decide +kernel
theorem dX1_pictureAt_9 : decode cX1_pictureAt 9 = .ok (.iload_n 2, 1) := by decide +kernel
theorem dX1_pictureAt_10 : decode cX1_pictureAt 10 = .ok (.iload_n 0, 1) := by decide +kernel
theorem dX1_pictureAt_11 : decode cX1_pictureAt 11 = .ok (.iload_n 1, 1) := by decide +kernel
theorem dX1_pictureAt_12 : decode cX1_pictureAt 12 = .ok (.invokestatic 19, 3) := by decide +kernel
theorem dX1_pictureAt_15 : decode cX1_pictureAt 15 = .ok (.imul, 1) := by decide +kernel
theorem dX1_pictureAt_16 : decode cX1_pictureAt 16 = .ok (.iload_n 1, 1) := by decide +kernel
theorem dX1_pictureAt_17 : decode cX1_pictureAt 17 = .ok (.irem, 1) := by decide +kernel
theorem dX1_pictureAt_18 : decode cX1_pictureAt 18 = .ok (.ireturn, 1) := by decide +kernel
theorem dX1_looksRound_0 : decode cX1_looksRound 0 = .ok (.iload_n 1, 1) := by decide +kernel
theorem dX1_looksRound_1 : decode cX1_looksRound 1 = .ok (.iload_n 0, 1) := by decide +kernel
theorem dX1_looksRound_2 : decode cX1_looksRound 2 = .ok (.iload_n 1, 1) := by decide +kernel
theorem dX1_looksRound_3 : decode cX1_looksRound 3 = .ok (.invokestatic 19, 3) := by decide +kernel
theorem dX1_looksRound_6 : decode cX1_looksRound 6 = .ok (.invokestatic 31, 3) := by decide +kernel
theorem dX1_looksRound_9 : decode cX1_looksRound 9 = .ok (.istore_n 2, 1) := by decide +kernel
theorem dX1_looksRound_10 : decode cX1_looksRound 10 = .ok (.iload_n 2, 1) := by decide +kernel
theorem dX1_looksRound_11 : decode cX1_looksRound 11 = .ok (.iconst 1, 1) := by decide +kernel
theorem dX1_looksRound_12 : decode cX1_looksRound 12 = .ok (.if_icmp .ge 7, 3) := by decide +kernel
theorem dX1_looksRound_15 : decode cX1_looksRound 15 = .ok (.iconst 1, 1) := by decide +kernel
theorem dX1_looksRound_16 : decode cX1_looksRound 16 = .ok (.goto 6, 3) := by decide +kernel
theorem dX1_looksRound_19 : decode cX1_looksRound 19 = .ok (.iload_n 1, 1) := by decide +kernel
theorem dX1_looksRound_20 : decode cX1_looksRound 20 = .ok (.iload_n 2, 1) := by decide +kernel
theorem dX1_looksRound_21 : decode cX1_looksRound 21 = .ok (.idiv, 1) := by decide +kernel
theorem dX1_looksRound_22 : decode cX1_looksRound 22 = .ok (.ireturn, 1) := by decide +kernel
theorem dX1_pairs_0 : decode cX1_pairs 0 = .ok (.iconst 0, 1) := by decide +kernel
theorem dX1_pairs_1 : decode cX1_pairs 1 = .ok (.istore_n 3, 1) := by decide +kernel
theorem dX1_pairs_2 : decode cX1_pairs 2 = .ok (.iconst 1, 1) := by decide +kernel
theorem dX1_pairs_3 : decode cX1_pairs 3 = .ok (.istore 4, 2) := by decide +kernel
theorem dX1_pairs_5 : decode cX1_pairs 5 = .ok (.iload 4, 2) := by decide +kernel
theorem dX1_pairs_7 : decode cX1_pairs 7 = .ok (.bipush 24, 2) := by decide +kernel
theorem dX1_pairs_9 : decode cX1_pairs 9 = .ok (.if_icmp .gt 64, 3) := by decide +kernel
theorem dX1_pairs_12 : decode cX1_pairs 12 = .ok (.iconst 1, 1) := by decide +kernel
theorem dX1_pairs_13 : decode cX1_pairs 13 = .ok (.istore 5, 2) := by decide +kernel
theorem dX1_pairs_15 : decode cX1_pairs 15 = .ok (.iload 5, 2) := by decide +kernel
theorem dX1_pairs_17 : decode cX1_pairs 17 = .ok (.bipush 24, 2) := by decide +kernel
theorem dX1_pairs_19 : decode cX1_pairs 19 = .ok (.if_icmp .gt 48, 3) := by decide +kernel
theorem dX1_pairs_22 : decode cX1_pairs 22 = .ok (.iload 4, 2) := by decide +kernel
theorem dX1_pairs_24 : decode cX1_pairs 24 = .ok (.iload 5, 2) := by decide +kernel
theorem dX1_pairs_26 : decode cX1_pairs 26 = .ok (.invokestatic 19, 3) := by decide +kernel
theorem dX1_pairs_29 : decode cX1_pairs 29 = .ok (.iload_n 0, 1) := by decide +kernel
theorem dX1_pairs_30 : decode cX1_pairs 30 = .ok (.if_icmp .ne 31, 3) := by decide +kernel
theorem dX1_pairs_33 : decode cX1_pairs 33 = .ok (.iload 4, 2) := by decide +kernel
theorem dX1_pairs_35 : decode cX1_pairs 35 = .ok (.iload 5, 2) := by decide +kernel
theorem dX1_pairs_37 : decode cX1_pairs 37 = .ok (.invokestatic 34, 3) := by decide +kernel
theorem dX1_pairs_40 : decode cX1_pairs 40 = .ok (.iload_n 1, 1) := by decide +kernel
theorem dX1_pairs_41 : decode cX1_pairs 41 = .ok (.if_icmp .ne 20, 3) := by decide +kernel
theorem dX1_pairs_44 : decode cX1_pairs 44 = .ok (.iload_n 3, 1) := by decide +kernel
theorem dX1_pairs_45 : decode cX1_pairs 45 = .ok (.iload_n 2, 1) := by decide +kernel
theorem dX1_pairs_46 : decode cX1_pairs 46 = .ok (.if_icmp .ne 12, 3) := by decide +kernel
theorem dX1_pairs_49 : decode cX1_pairs 49 = .ok (.bipush 100, 2) := by decide +kernel
theorem dX1_pairs_51 : decode cX1_pairs 51 = .ok (.iload 4, 2) := by decide +kernel
theorem dX1_pairs_53 : decode cX1_pairs 53 = .ok (.imul, 1) := by decide +kernel
theorem dX1_pairs_54 : decode cX1_pairs 54 = .ok (.iload 5, 2) := by decide +kernel
theorem dX1_pairs_56 : decode cX1_pairs 56 = .ok (.iadd, 1) := by decide +kernel
theorem dX1_pairs_57 : decode cX1_pairs 57 = .ok (.ireturn, 1) := by decide +kernel
theorem dX1_pairs_58 : decode cX1_pairs 58 = .ok (.iinc 3 1, 3) := by decide +kernel
theorem dX1_pairs_61 : decode cX1_pairs 61 = .ok (.iinc 5 1, 3) := by decide +kernel
theorem dX1_pairs_64 : decode cX1_pairs 64 = .ok (.goto (-49), 3) := by decide +kernel
theorem dX1_pairs_67 : decode cX1_pairs 67 = .ok (.iinc 4 1, 3) := by decide +kernel
theorem dX1_pairs_70 : decode cX1_pairs 70 = .ok (.goto (-65), 3) := by decide +kernel
theorem dX1_pairs_73 : decode cX1_pairs 73 = .ok (.iload_n 2, 1) := by decide +kernel
theorem dX1_pairs_74 : decode cX1_pairs 74 = .ok (.iconst (-1), 1) := by decide +kernel
theorem dX1_pairs_75 : decode cX1_pairs 75 = .ok (.if_icmp .ne 7, 3) := by decide +kernel
theorem dX1_pairs_78 : decode cX1_pairs 78 = .ok (.iload_n 3, 1) := by decide +kernel
theorem dX1_pairs_79 : decode cX1_pairs 79 = .ok (.goto 4, 3) := by decide +kernel
theorem dX1_pairs_82 : decode cX1_pairs 82 = .ok (.iconst (-1), 1) := by decide +kernel
theorem dX1_pairs_83 : decode cX1_pairs 83 = .ok (.ireturn, 1) := by decide +kernel
theorem dX2_told_0 : decode cX2_told 0 = .ok (.iload_n 0, 1) := by decide +kernel
theorem dX2_told_1 : decode cX2_told 1 = .ok (.invokestatic 7, 3) := by decide +kernel
theorem dX2_told_4 : decode cX2_told 4 = .ok (.iload_n 1, 1) := by decide +kernel
theorem dX2_told_5 : decode cX2_told 5 = .ok (.invokestatic 13, 3) := by decide +kernel
theorem dX2_told_8 : decode cX2_told 8 = .ok (.istore_n 3, 1) := by decide +kernel
theorem dX2_told_9 : decode cX2_told 9 = .ok (.iload_n 3, 1) := by decide +kernel
theorem dX2_told_10 : decode cX2_told 10 = .ok (.iconst 1, 1) := by decide +kernel
theorem dX2_told_11 : decode cX2_told 11 = .ok (.if_icmp .ge 5, 3) := by decide +kernel
theorem dX2_told_14 : decode cX2_told 14 = .ok (.iconst 0, 1) := by decide +kernel
theorem dX2_told_15 : decode cX2_told 15 = .ok (.ireturn, 1) := by decide +kernel
theorem dX2_told_16 : decode cX2_told 16 = .ok (.iload_n 2, 1) := by decide +kernel
theorem dX2_told_17 : decode cX2_told 17 = .ok (.ifCond .ne 9, 3) := by decide +kernel
theorem dX2_told_20 : decode cX2_told 20 = .ok (.iload_n 0, 1) := by decide +kernel
theorem dX2_told_21 : decode cX2_told 21 = .ok (.iload_n 3, 1) := by decide +kernel
theorem dX2_told_22 : decode cX2_told 22 = .ok (.idiv, 1) := by decide +kernel
theorem dX2_told_23 : decode cX2_told 23 = .ok (.goto 6, 3) := by decide +kernel
theorem dX2_told_26 : decode cX2_told 26 = .ok (.iload_n 1, 1) := by decide +kernel
theorem dX2_told_27 : decode cX2_told 27 = .ok (.iload_n 3, 1) := by decide +kernel
theorem dX2_told_28 : decode cX2_told 28 = .ok (.idiv, 1) := by decide +kernel
theorem dX2_told_29 : decode cX2_told 29 = .ok (.ireturn, 1) := by decide +kernel
theorem dX2_commonDivisor_0 : decode cX2_commonDivisor 0 = .ok (.iload_n 0, 1) := by decide +kernel
theorem dX2_commonDivisor_1 : decode cX2_commonDivisor 1 = .ok (.istore_n 2, 1) := by decide +kernel
theorem dX2_commonDivisor_2 : decode cX2_commonDivisor 2 = .ok (.iload_n 1, 1) := by decide +kernel
theorem dX2_commonDivisor_3 : decode cX2_commonDivisor 3 = .ok (.istore_n 3, 1) := by decide +kernel
theorem dX2_commonDivisor_4 : decode cX2_commonDivisor 4 = .ok (.iconst 0, 1) := by decide +kernel
theorem dX2_commonDivisor_5 : decode cX2_commonDivisor 5 = .ok (.istore 4, 2) := by decide +kernel
theorem dX2_commonDivisor_7 : decode cX2_commonDivisor 7 = .ok (.iload 4, 2) := by decide +kernel
theorem dX2_commonDivisor_9 : decode cX2_commonDivisor 9 = .ok (.bipush 64, 2) := by decide +kernel
theorem dX2_commonDivisor_11 : decode cX2_commonDivisor 11 = .ok (.if_icmp .ge 23, 3) := by decide +kernel
theorem dX2_commonDivisor_14 : decode cX2_commonDivisor 14 = .ok (.iload_n 3, 1) := by decide +kernel
theorem dX2_commonDivisor_15 : decode cX2_commonDivisor 15 = .ok (.ifCond .eq 19, 3) := by decide +kernel
theorem dX2_commonDivisor_18 : decode cX2_commonDivisor 18 = .ok (.iload_n 2, 1) := by decide +kernel
theorem dX2_commonDivisor_19 : decode cX2_commonDivisor 19 = .ok (.iload_n 3, 1) := by decide +kernel
theorem dX2_commonDivisor_20 : decode cX2_commonDivisor 20 = .ok (.irem, 1) := by decide +kernel
theorem dX2_commonDivisor_21 : decode cX2_commonDivisor 21 = .ok (.istore 5, 2) := by decide +kernel
theorem dX2_commonDivisor_23 : decode cX2_commonDivisor 23 = .ok (.iload_n 3, 1) := by decide +kernel
theorem dX2_commonDivisor_24 : decode cX2_commonDivisor 24 = .ok (.istore_n 2, 1) := by decide +kernel
theorem dX2_commonDivisor_25 : decode cX2_commonDivisor 25 = .ok (.iload 5, 2) := by decide +kernel
theorem dX2_commonDivisor_27 : decode cX2_commonDivisor 27 = .ok (.istore_n 3, 1) := by decide +kernel
theorem dX2_commonDivisor_28 : decode cX2_commonDivisor 28 = .ok (.iinc 4 1, 3) := by decide +kernel
theorem dX2_commonDivisor_31 : decode cX2_commonDivisor 31 = .ok (.goto (-24), 3) := by decide +kernel
theorem dX2_commonDivisor_34 : decode cX2_commonDivisor 34 = .ok (.iload_n 2, 1) := by decide +kernel
theorem dX2_commonDivisor_35 : decode cX2_commonDivisor 35 = .ok (.ireturn, 1) := by decide +kernel
theorem dX2_nearest_0 : decode cX2_nearest 0 = .ok (.iload_n 1, 1) := by decide +kernel
theorem dX2_nearest_1 : decode cX2_nearest 1 = .ok (.iconst 1, 1) := by decide +kernel
theorem dX2_nearest_2 : decode cX2_nearest 2 = .ok (.if_icmp .ge 7, 3) := by decide +kernel
theorem dX2_nearest_5 : decode cX2_nearest 5 = .ok (.iconst 0, 1) := by decide +kernel
theorem dX2_nearest_6 : decode cX2_nearest 6 = .ok (.goto 16, 3) := by decide +kernel
theorem dX2_nearest_9 : decode cX2_nearest 9 = .ok (.iconst 2, 1) := by decide +kernel
theorem dX2_nearest_10 : decode cX2_nearest 10 = .ok (.iload_n 0, 1) := by decide +kernel
theorem dX2_nearest_11 : decode cX2_nearest 11 = .ok (.imul, 1) := by decide +kernel
theorem dX2_nearest_12 : decode cX2_nearest 12 = .ok (.iload_n 1, 1) := by decide +kernel
theorem dX2_nearest_13 : decode cX2_nearest 13 = .ok (.iadd, 1) := by decide +kernel
theorem dX2_nearest_14 : decode cX2_nearest 14 = .ok (.iconst 1, 1) := by decide +kernel
theorem dX2_nearest_15 : decode cX2_nearest 15 = .ok (.isub, 1) := by decide +kernel
theorem dX2_nearest_16 : decode cX2_nearest 16 = .ok (.iconst 2, 1) := by decide +kernel
theorem dX2_nearest_17 : decode cX2_nearest 17 = .ok (.iload_n 1, 1) := by decide +kernel
theorem dX2_nearest_18 : decode cX2_nearest 18 = .ok (.imul, 1) := by decide +kernel
theorem dX2_nearest_19 : decode cX2_nearest 19 = .ok (.invokestatic 19, 3) := by decide +kernel
theorem dX2_nearest_22 : decode cX2_nearest 22 = .ok (.ireturn, 1) := by decide +kernel
theorem dX3_init_0 : decode cX3_init 0 = .ok (.aload_n 0, 1) := by decide +kernel
theorem dX3_init_1 : decode cX3_init 1 = .ok (.invokespecial 3, 3) := by decide +kernel
theorem dX3_init_4 : decode cX3_init 4 = .ok (.aload_n 0, 1) := by decide +kernel
theorem dX3_init_5 : decode cX3_init 5 = .ok (.bipush 36, 2) := by decide +kernel
theorem dX3_init_7 : decode cX3_init 7 = .ok (.newarray .int, 2) := by decide +kernel
theorem dX3_init_9 : decode cX3_init 9 = .ok (.putfield 9, 3) := by decide +kernel
theorem dX3_init_12 : decode cX3_init 12 = .ok (.aload_n 0, 1) := by decide +kernel
theorem dX3_init_13 : decode cX3_init 13 = .ok (.bipush 36, 2) := by decide +kernel
theorem dX3_init_15 : decode cX3_init 15 = .ok (.newarray .int, 2) := by decide +kernel
theorem dX3_init_17 : decode cX3_init 17 = .ok (.putfield 15, 3) := by decide +kernel
theorem dX3_init_20 : decode cX3_init 20 = .ok (.aload_n 0, 1) := by decide +kernel
theorem dX3_init_21 : decode cX3_init 21 = .ok (.bipush 64, 2) := by decide +kernel
theorem dX3_init_23 : decode cX3_init 23 = .ok (.newarray .int, 2) := by decide +kernel
theorem dX3_init_25 : decode cX3_init 25 = .ok (.putfield 18, 3) := by decide +kernel
theorem dX3_init_28 : decode cX3_init 28 = .ok (.aload_n 0, 1) := by decide +kernel
theorem dX3_init_29 : decode cX3_init 29 = .ok (.bipush 64, 2) := by decide +kernel
theorem dX3_init_31 : decode cX3_init 31 = .ok (.newarray .int, 2) := by decide +kernel
theorem dX3_init_33 : decode cX3_init 33 = .ok (.putfield 21, 3) := by decide +kernel
theorem dX3_init_36 : decode cX3_init 36 = .ok (.aload_n 0, 1) := by decide +kernel
theorem dX3_init_37 : decode cX3_init 37 = .ok (.bipush 64, 2) := by decide +kernel
theorem dX3_init_39 : decode cX3_init 39 = .ok (.newarray .int, 2) := by decide +kernel
theorem dX3_init_41 : decode cX3_init 41 = .ok (.putfield 24, 3) := by decide +kernel
theorem dX3_init_44 : decode cX3_init 44 = .ok (.aload_n 0, 1) := by decide +kernel
theorem dX3_init_45 : decode cX3_init 45 = .ok (.bipush 64, 2) := by decide +kernel
theorem dX3_init_47 : decode cX3_init 47 = .ok (.newarray .int, 2) := by decide +kernel
theorem dX3_init_49 : decode cX3_init 49 = .ok (.putfield 27, 3) := by decide +kernel
theorem dX3_init_52 : decode cX3_init 52 = .ok (.aload_n 0, 1) := by decide +kernel
theorem dX3_init_53 : decode cX3_init 53 = .ok (.bipush 6, 2) := by decide +kernel
theorem dX3_init_55 : decode cX3_init 55 = .ok (.newarray .int, 2) := by decide +kernel
theorem dX3_init_57 : decode cX3_init 57 = .ok (.putfield 30, 3) := by decide +kernel
theorem dX3_init_60 : decode cX3_init 60 = .ok (.return_, 1) := by decide +kernel
theorem dX3_search_0 : decode cX3_search 0 = .ok (.aload_n 2, 1) := by decide +kernel
theorem dX3_search_1 : decode cX3_search 1 = .ok (.getfield 33, 3) := by decide +kernel
theorem dX3_search_4 : decode cX3_search 4 = .ok (.aload_n 1, 1) := by decide +kernel
theorem dX3_search_5 : decode cX3_search 5 = .ok (.getfield 33, 3) := by decide +kernel
theorem dX3_search_8 : decode cX3_search 8 = .ok (.if_icmp .ge 7, 3) := by decide +kernel
theorem dX3_search_11 : decode cX3_search 11 = .ok (.iconst 1, 1) := by decide +kernel
theorem dX3_search_12 : decode cX3_search 12 = .ok (.goto 4, 3) := by decide +kernel
theorem dX3_search_15 : decode cX3_search 15 = .ok (.iconst 0, 1) := by decide +kernel
theorem dX3_search_16 : decode cX3_search 16 = .ok (.istore 4, 2) := by decide +kernel
theorem dX3_search_18 : decode cX3_search 18 = .ok (.aload_n 0, 1) := by decide +kernel
theorem dX3_search_19 : decode cX3_search 19 = .ok (.iload 4, 2) := by decide +kernel
theorem dX3_search_21 : decode cX3_search 21 = .ok (.ifCond .eq 7, 3) := by decide +kernel
theorem dX3_search_24 : decode cX3_search 24 = .ok (.aload_n 2, 1) := by decide +kernel
theorem dX3_search_25 : decode cX3_search 25 = .ok (.goto 4, 3) := by decide +kernel
theorem dX3_search_28 : decode cX3_search 28 = .ok (.aload_n 1, 1) := by decide +kernel
theorem dX3_search_29 : decode cX3_search 29 = .ok (.putfield 39, 3) := by decide +kernel
theorem dX3_search_32 : decode cX3_search 32 = .ok (.aload_n 0, 1) := by decide +kernel
theorem dX3_search_33 : decode cX3_search 33 = .ok (.aload_n 1, 1) := by decide +kernel
theorem dX3_search_34 : decode cX3_search 34 = .ok (.getfield 33, 3) := by decide +kernel
theorem dX3_search_37 : decode cX3_search 37 = .ok (.aload_n 2, 1) := by decide +kernel
theorem dX3_search_38 : decode cX3_search 38 = .ok (.getfield 33, 3) := by decide +kernel
theorem dX3_search_41 : decode cX3_search 41 = .ok (.invokestatic 43, 3) := by decide +kernel
theorem dX3_search_44 : decode cX3_search 44 = .ok (.bipush 6, 2) := by decide +kernel
theorem dX3_search_46 : decode cX3_search 46 = .ok (.invokestatic 43, 3) := by decide +kernel
theorem dX3_search_49 : decode cX3_search 49 = .ok (.putfield 49, 3) := by decide +kernel
theorem dX3_search_52 : decode cX3_search 52 = .ok (.aload_n 0, 1) := by decide +kernel
theorem dX3_search_53 : decode cX3_search 53 = .ok (.aload_n 1, 1) := by decide +kernel
theorem dX3_search_54 : decode cX3_search 54 = .ok (.getfield 33, 3) := by decide +kernel
theorem dX3_search_57 : decode cX3_search 57 = .ok (.aload_n 2, 1) := by decide +kernel
theorem dX3_search_58 : decode cX3_search 58 = .ok (.getfield 33, 3) := by decide +kernel
theorem dX3_search_61 : decode cX3_search 61 = .ok (.invokestatic 52, 3) := by decide +kernel
theorem dX3_search_64 : decode cX3_search 64 = .ok (.bipush 6, 2) := by decide +kernel
theorem dX3_search_66 : decode cX3_search 66 = .ok (.invokestatic 43, 3) := by decide +kernel
theorem dX3_search_69 : decode cX3_search 69 = .ok (.putfield 55, 3) := by decide +kernel
theorem dX3_search_72 : decode cX3_search 72 = .ok (.iconst 0, 1) := by decide +kernel
theorem dX3_search_73 : decode cX3_search 73 = .ok (.istore 5, 2) := by decide +kernel
theorem dX3_search_75 : decode cX3_search 75 = .ok (.iload 5, 2) := by decide +kernel
theorem dX3_search_77 : decode cX3_search 77 = .ok (.aload_n 0, 1) := by decide +kernel
theorem dX3_search_78 : decode cX3_search 78 = .ok (.getfield 49, 3) := by decide +kernel
theorem dX3_search_81 : decode cX3_search 81 = .ok (.if_icmp .ge 116, 3) := by decide +kernel
theorem dX3_search_84 : decode cX3_search 84 = .ok (.iconst 0, 1) := by decide +kernel
theorem dX3_search_85 : decode cX3_search 85 = .ok (.istore 6, 2) := by decide +kernel
theorem dX3_search_87 : decode cX3_search 87 = .ok (.iload 6, 2) := by decide +kernel
theorem dX3_search_89 : decode cX3_search 89 = .ok (.aload_n 0, 1) := by decide +kernel
theorem dX3_search_90 : decode cX3_search 90 = .ok (.getfield 55, 3) := by decide +kernel
theorem dX3_search_93 : decode cX3_search 93 = .ok (.if_icmp .ge 98, 3) := by decide +kernel
theorem dX3_search_96 : decode cX3_search 96 = .ok (.iload 4, 2) := by decide +kernel
theorem dX3_search_98 : decode cX3_search 98 = .ok (.ifCond .eq 8, 3) := by decide +kernel
theorem dX3_search_101 : decode cX3_search 101 = .ok (.iload 6, 2) := by decide +kernel
theorem dX3_search_103 : decode cX3_search 103 = .ok (.goto 5, 3) := by decide +kernel
theorem dX3_search_106 : decode cX3_search 106 = .ok (.iload 5, 2) := by decide +kernel
theorem dX3_search_108 : decode cX3_search 108 = .ok (.istore 7, 2) := by decide +kernel
theorem dX3_search_110 : decode cX3_search 110 = .ok (.iload 4, 2) := by decide +kernel
theorem dX3_search_112 : decode cX3_search 112 = .ok (.ifCond .eq 8, 3) := by decide +kernel
theorem dX3_search_115 : decode cX3_search 115 = .ok (.iload 5, 2) := by decide +kernel
theorem dX3_search_117 : decode cX3_search 117 = .ok (.goto 5, 3) := by decide +kernel
theorem dX3_search_120 : decode cX3_search 120 = .ok (.iload 6, 2) := by decide +kernel
theorem dX3_search_122 : decode cX3_search 122 = .ok (.istore 8, 2) := by decide +kernel
theorem dX3_search_124 : decode cX3_search 124 = .ok (.iload 5, 2) := by decide +kernel
theorem dX3_search_126 : decode cX3_search 126 = .ok (.bipush 6, 2) := by decide +kernel
theorem dX3_search_128 : decode cX3_search 128 = .ok (.imul, 1) := by decide +kernel
theorem dX3_search_129 : decode cX3_search 129 = .ok (.iload 6, 2) := by decide +kernel
theorem dX3_search_131 : decode cX3_search 131 = .ok (.iadd, 1) := by decide +kernel
theorem dX3_search_132 : decode cX3_search 132 = .ok (.istore 9, 2) := by decide +kernel
theorem dX3_search_134 : decode cX3_search 134 = .ok (.aload_n 0, 1) := by decide +kernel
theorem dX3_search_135 : decode cX3_search 135 = .ok (.getfield 9, 3) := by decide +kernel
theorem dX3_search_138 : decode cX3_search 138 = .ok (.iload 9, 2) := by decide +kernel
theorem dX3_search_140 : decode cX3_search 140 = .ok (.aload_n 1, 1) := by decide +kernel
theorem dX3_search_141 : decode cX3_search 141 = .ok (.iload 7, 2) := by decide +kernel
theorem dX3_search_143 : decode cX3_search 143 = .ok (.aload_n 2, 1) := by decide +kernel
theorem dX3_search_144 : decode cX3_search 144 = .ok (.iload 8, 2) := by decide +kernel
theorem dX3_search_146 : decode cX3_search 146 = .ok (.invokevirtual 58, 3) := by decide +kernel
theorem dX3_search_149 : decode cX3_search 149 = .ok (.iastore, 1) := by decide +kernel
theorem dX3_search_150 : decode cX3_search 150 = .ok (.aload_n 0, 1) := by decide +kernel
theorem dX3_search_151 : decode cX3_search 151 = .ok (.getfield 15, 3) := by decide +kernel
theorem dX3_search_154 : decode cX3_search 154 = .ok (.iload 9, 2) := by decide +kernel
theorem dX3_search_156 : decode cX3_search 156 = .ok (.aload_n 0, 1) := by decide +kernel
theorem dX3_search_157 : decode cX3_search 157 = .ok (.getfield 9, 3) := by decide +kernel
theorem dX3_search_160 : decode cX3_search 160 = .ok (.iload 9, 2) := by decide +kernel
theorem dX3_search_162 : decode cX3_search 162 = .ok (.iaload, 1) := by decide +kernel
theorem dX3_search_163 : decode cX3_search 163 = .ok (.invokestatic 62, 3) := by decide +kernel
theorem dX3_search_166 : decode cX3_search 166 = .ok (.aload_n 1, 1) := by decide +kernel
theorem dX3_search_167 : decode cX3_search 167 = .ok (.iload 7, 2) := by decide +kernel
theorem dX3_search_169 : decode cX3_search 169 = .ok (.aload_n 2, 1) := by decide +kernel
theorem dX3_search_170 : decode cX3_search 170 = .ok (.iload 8, 2) := by decide +kernel
theorem dX3_search_172 : decode cX3_search 172 = .ok (.invokevirtual 66, 3) := by decide +kernel
theorem dX3_search_175 : decode cX3_search 175 = .ok (.ifCond .eq 7, 3) := by decide +kernel
theorem dX3_search_178 : decode cX3_search 178 = .ok (.iconst 0, 1) := by decide +kernel
theorem dX3_search_179 : decode cX3_search 179 = .ok (.goto 4, 3) := by decide +kernel
theorem dX3_search_182 : decode cX3_search 182 = .ok (.iload_n 3, 1) := by decide +kernel
theorem dX3_search_183 : decode cX3_search 183 = .ok (.iadd, 1) := by decide +kernel
theorem dX3_search_184 : decode cX3_search 184 = .ok (.iastore, 1) := by decide +kernel
theorem dX3_search_185 : decode cX3_search 185 = .ok (.iinc 6 1, 3) := by decide +kernel
theorem dX3_search_188 : decode cX3_search 188 = .ok (.goto (-101), 3) := by decide +kernel
theorem dX3_search_191 : decode cX3_search 191 = .ok (.iinc 5 1, 3) := by decide +kernel
theorem dX3_search_194 : decode cX3_search 194 = .ok (.goto (-119), 3) := by decide +kernel
theorem dX3_search_197 : decode cX3_search 197 = .ok (.iconst 1, 1) := by decide +kernel
theorem dX3_search_198 : decode cX3_search 198 = .ok (.aload_n 0, 1) := by decide +kernel
theorem dX3_search_199 : decode cX3_search 199 = .ok (.getfield 55, 3) := by decide +kernel
theorem dX3_search_202 : decode cX3_search 202 = .ok (.ishl, 1) := by decide +kernel
theorem dX3_search_203 : decode cX3_search 203 = .ok (.iconst 1, 1) := by decide +kernel
theorem dX3_search_204 : decode cX3_search 204 = .ok (.isub, 1) := by decide +kernel
theorem dX3_search_205 : decode cX3_search 205 = .ok (.istore 5, 2) := by decide +kernel
theorem dX3_search_207 : decode cX3_search 207 = .ok (.iload 5, 2) := by decide +kernel
theorem dX3_search_209 : decode cX3_search 209 = .ok (.ifCond .lt 15, 3) := by decide +kernel
theorem dX3_search_212 : decode cX3_search 212 = .ok (.aload_n 0, 1) := by decide +kernel
theorem dX3_search_213 : decode cX3_search 213 = .ok (.iload 5, 2) := by decide +kernel
theorem dX3_search_215 : decode cX3_search 215 = .ok (.invokevirtual 70, 3) := by decide +kernel
theorem dX3_search_218 : decode cX3_search 218 = .ok (.iinc 5 (-1), 3) := by decide +kernel
theorem dX3_search_221 : decode cX3_search 221 = .ok (.goto (-14), 3) := by decide +kernel
theorem dX3_search_224 : decode cX3_search 224 = .ok (.aload_n 0, 1) := by decide +kernel
theorem dX3_search_225 : decode cX3_search 225 = .ok (.invokevirtual 74, 3) := by decide +kernel
theorem dX3_search_228 : decode cX3_search 228 = .ok (.return_, 1) := by decide +kernel
theorem dX3_settle_0 : decode cX3_settle 0 = .ok (.iload_n 1, 1) := by decide +kernel
theorem dX3_settle_1 : decode cX3_settle 1 = .ok (.invokestatic 77, 3) := by decide +kernel
theorem dX3_settle_4 : decode cX3_settle 4 = .ok (.istore_n 2, 1) := by decide +kernel
theorem dX3_settle_5 : decode cX3_settle 5 = .ok (.aload_n 0, 1) := by decide +kernel
theorem dX3_settle_6 : decode cX3_settle 6 = .ok (.getfield 18, 3) := by decide +kernel
theorem dX3_settle_9 : decode cX3_settle 9 = .ok (.iload_n 1, 1) := by decide +kernel
theorem dX3_settle_10 : decode cX3_settle 10 = .ok (.iconst 0, 1) := by decide +kernel
theorem dX3_settle_11 : decode cX3_settle 11 = .ok (.iastore, 1) := by decide +kernel
theorem dX3_settle_12 : decode cX3_settle 12 = .ok (.aload_n 0, 1) := by decide +kernel
theorem dX3_settle_13 : decode cX3_settle 13 = .ok (.getfield 21, 3) := by decide +kernel
theorem dX3_settle_16 : decode cX3_settle 16 = .ok (.iload_n 1, 1) := by decide +kernel
theorem dX3_settle_17 : decode cX3_settle 17 = .ok (.iload_n 2, 1) := by decide +kernel
theorem dX3_settle_18 : decode cX3_settle 18 = .ok (.aload_n 0, 1) := by decide +kernel
theorem dX3_settle_19 : decode cX3_settle 19 = .ok (.getfield 49, 3) := by decide +kernel
theorem dX3_settle_22 : decode cX3_settle 22 = .ok (.if_icmp .ne 7, 3) := by decide +kernel
theorem dX3_settle_25 : decode cX3_settle 25 = .ok (.iconst 1, 1) := by decide +kernel
theorem dX3_settle_26 : decode cX3_settle 26 = .ok (.goto 4, 3) := by decide +kernel
theorem dX3_settle_29 : decode cX3_settle 29 = .ok (.iconst 0, 1) := by decide +kernel
theorem dX3_settle_30 : decode cX3_settle 30 = .ok (.iastore, 1) := by decide +kernel
theorem dX3_settle_31 : decode cX3_settle 31 = .ok (.aload_n 0, 1) := by decide +kernel
theorem dX3_settle_32 : decode cX3_settle 32 = .ok (.getfield 24, 3) := by decide +kernel
theorem dX3_settle_35 : decode cX3_settle 35 = .ok (.iload_n 1, 1) := by decide +kernel
theorem dX3_settle_36 : decode cX3_settle 36 = .ok (.iconst 0, 1) := by decide +kernel
theorem dX3_settle_37 : decode cX3_settle 37 = .ok (.iastore, 1) := by decide +kernel
theorem dX3_settle_38 : decode cX3_settle 38 = .ok (.aload_n 0, 1) := by decide +kernel
theorem dX3_settle_39 : decode cX3_settle 39 = .ok (.getfield 27, 3) := by decide +kernel
theorem dX3_settle_42 : decode cX3_settle 42 = .ok (.iload_n 1, 1) := by decide +kernel
theorem dX3_settle_43 : decode cX3_settle 43 = .ok (.iconst 0, 1) := by decide +kernel
theorem dX3_settle_44 : decode cX3_settle 44 = .ok (.iastore, 1) := by decide +kernel
theorem dX3_settle_45 : decode cX3_settle 45 = .ok (.iconst 0, 1) := by decide +kernel
theorem dX3_settle_46 : decode cX3_settle 46 = .ok (.istore_n 3, 1) := by decide +kernel
theorem dX3_settle_47 : decode cX3_settle 47 = .ok (.iload_n 2, 1) := by decide +kernel
theorem dX3_settle_48 : decode cX3_settle 48 = .ok (.aload_n 0, 1) := by decide +kernel
theorem dX3_settle_49 : decode cX3_settle 49 = .ok (.getfield 49, 3) := by decide +kernel
theorem dX3_settle_52 : decode cX3_settle 52 = .ok (.if_icmp .ge 32, 3) := by decide +kernel
theorem dX3_settle_55 : decode cX3_settle 55 = .ok (.iload_n 3, 1) := by decide +kernel
theorem dX3_settle_56 : decode cX3_settle 56 = .ok (.aload_n 0, 1) := by decide +kernel
theorem dX3_settle_57 : decode cX3_settle 57 = .ok (.getfield 55, 3) := by decide +kernel
theorem dX3_settle_60 : decode cX3_settle 60 = .ok (.if_icmp .ge 24, 3) := by decide +kernel
theorem dX3_settle_63 : decode cX3_settle 63 = .ok (.iload_n 1, 1) := by decide +kernel
theorem dX3_settle_64 : decode cX3_settle 64 = .ok (.iload_n 3, 1) := by decide +kernel
theorem dX3_settle_65 : decode cX3_settle 65 = .ok (.ishr, 1) := by decide +kernel
theorem dX3_settle_66 : decode cX3_settle 66 = .ok (.iconst 1, 1) := by decide +kernel
theorem dX3_settle_67 : decode cX3_settle 67 = .ok (.iand, 1) := by decide +kernel
theorem dX3_settle_68 : decode cX3_settle 68 = .ok (.ifCond .ne 10, 3) := by decide +kernel
theorem dX3_settle_71 : decode cX3_settle 71 = .ok (.aload_n 0, 1) := by decide +kernel
theorem dX3_settle_72 : decode cX3_settle 72 = .ok (.iload_n 1, 1) := by decide +kernel
theorem dX3_settle_73 : decode cX3_settle 73 = .ok (.iload_n 2, 1) := by decide +kernel
theorem dX3_settle_74 : decode cX3_settle 74 = .ok (.iload_n 3, 1) := by decide +kernel
theorem dX3_settle_75 : decode cX3_settle 75 = .ok (.invokevirtual 82, 3) := by decide +kernel
theorem dX3_settle_78 : decode cX3_settle 78 = .ok (.iinc 3 1, 3) := by decide +kernel
theorem dX3_settle_81 : decode cX3_settle 81 = .ok (.goto (-34), 3) := by decide +kernel
theorem dX3_settle_84 : decode cX3_settle 84 = .ok (.return_, 1) := by decide +kernel
theorem dX3_weigh_0 : decode cX3_weigh 0 = .ok (.iload_n 1, 1) := by decide +kernel
theorem dX3_weigh_1 : decode cX3_weigh 1 = .ok (.iconst 1, 1) := by decide +kernel
theorem dX3_weigh_2 : decode cX3_weigh 2 = .ok (.iload_n 3, 1) := by decide +kernel
theorem dX3_weigh_3 : decode cX3_weigh 3 = .ok (.ishl, 1) := by decide +kernel
theorem dX3_weigh_4 : decode cX3_weigh 4 = .ok (.ior, 1) := by decide +kernel
theorem dX3_weigh_5 : decode cX3_weigh 5 = .ok (.istore 4, 2) := by decide +kernel
theorem dX3_weigh_7 : decode cX3_weigh 7 = .ok (.iload_n 2, 1) := by decide +kernel
theorem dX3_weigh_8 : decode cX3_weigh 8 = .ok (.bipush 6, 2) := by decide +kernel
theorem dX3_weigh_10 : decode cX3_weigh 10 = .ok (.imul, 1) := by decide +kernel
theorem dX3_weigh_11 : decode cX3_weigh 11 = .ok (.iload_n 3, 1) := by decide +kernel
theorem dX3_weigh_12 : decode cX3_weigh 12 = .ok (.iadd, 1) := by decide +kernel
theorem dX3_weigh_13 : decode cX3_weigh 13 = .ok (.istore 5, 2) := by decide +kernel
theorem dX3_weigh_15 : decode cX3_weigh 15 = .ok (.aload_n 0, 1) := by decide +kernel
theorem dX3_weigh_16 : decode cX3_weigh 16 = .ok (.getfield 15, 3) := by decide +kernel
theorem dX3_weigh_19 : decode cX3_weigh 19 = .ok (.iload 5, 2) := by decide +kernel
theorem dX3_weigh_21 : decode cX3_weigh 21 = .ok (.iaload, 1) := by decide +kernel
theorem dX3_weigh_22 : decode cX3_weigh 22 = .ok (.aload_n 0, 1) := by decide +kernel
theorem dX3_weigh_23 : decode cX3_weigh 23 = .ok (.getfield 18, 3) := by decide +kernel
theorem dX3_weigh_26 : decode cX3_weigh 26 = .ok (.iload 4, 2) := by decide +kernel
theorem dX3_weigh_28 : decode cX3_weigh 28 = .ok (.iaload, 1) := by decide +kernel
theorem dX3_weigh_29 : decode cX3_weigh 29 = .ok (.iadd, 1) := by decide +kernel
theorem dX3_weigh_30 : decode cX3_weigh 30 = .ok (.istore 6, 2) := by decide +kernel
theorem dX3_weigh_32 : decode cX3_weigh 32 = .ok (.aload_n 0, 1) := by decide +kernel
theorem dX3_weigh_33 : decode cX3_weigh 33 = .ok (.getfield 9, 3) := by decide +kernel
theorem dX3_weigh_36 : decode cX3_weigh 36 = .ok (.iload 5, 2) := by decide +kernel
theorem dX3_weigh_38 : decode cX3_weigh 38 = .ok (.iaload, 1) := by decide +kernel
theorem dX3_weigh_39 : decode cX3_weigh 39 = .ok (.aload_n 0, 1) := by decide +kernel
theorem dX3_weigh_40 : decode cX3_weigh 40 = .ok (.getfield 24, 3) := by decide +kernel
theorem dX3_weigh_43 : decode cX3_weigh 43 = .ok (.iload 4, 2) := by decide +kernel
theorem dX3_weigh_45 : decode cX3_weigh 45 = .ok (.iaload, 1) := by decide +kernel
theorem dX3_weigh_46 : decode cX3_weigh 46 = .ok (.iadd, 1) := by decide +kernel
theorem dX3_weigh_47 : decode cX3_weigh 47 = .ok (.istore 7, 2) := by decide +kernel
theorem dX3_weigh_49 : decode cX3_weigh 49 = .ok (.aload_n 0, 1) := by decide +kernel
theorem dX3_weigh_50 : decode cX3_weigh 50 = .ok (.getfield 9, 3) := by decide +kernel
theorem dX3_weigh_53 : decode cX3_weigh 53 = .ok (.iload 5, 2) := by decide +kernel
theorem dX3_weigh_55 : decode cX3_weigh 55 = .ok (.iaload, 1) := by decide +kernel
theorem dX3_weigh_56 : decode cX3_weigh 56 = .ok (.aload_n 0, 1) := by decide +kernel
theorem dX3_weigh_57 : decode cX3_weigh 57 = .ok (.getfield 27, 3) := by decide +kernel
theorem dX3_weigh_60 : decode cX3_weigh 60 = .ok (.iload 4, 2) := by decide +kernel
theorem dX3_weigh_62 : decode cX3_weigh 62 = .ok (.iaload, 1) := by decide +kernel
theorem dX3_weigh_63 : decode cX3_weigh 63 = .ok (.iadd, 1) := by decide +kernel
theorem dX3_weigh_64 : decode cX3_weigh 64 = .ok (.istore 8, 2) := by decide +kernel
theorem dX3_weigh_66 : decode cX3_weigh 66 = .ok (.aload_n 0, 1) := by decide +kernel
theorem dX3_weigh_67 : decode cX3_weigh 67 = .ok (.getfield 21, 3) := by decide +kernel
theorem dX3_weigh_70 : decode cX3_weigh 70 = .ok (.iload_n 1, 1) := by decide +kernel
theorem dX3_weigh_71 : decode cX3_weigh 71 = .ok (.iaload, 1) := by decide +kernel
theorem dX3_weigh_72 : decode cX3_weigh 72 = .ok (.ifCond .eq 14, 3) := by decide +kernel
theorem dX3_weigh_75 : decode cX3_weigh 75 = .ok (.iload 6, 2) := by decide +kernel
theorem dX3_weigh_77 : decode cX3_weigh 77 = .ok (.aload_n 0, 1) := by decide +kernel
theorem dX3_weigh_78 : decode cX3_weigh 78 = .ok (.getfield 18, 3) := by decide +kernel
theorem dX3_weigh_81 : decode cX3_weigh 81 = .ok (.iload_n 1, 1) := by decide +kernel
theorem dX3_weigh_82 : decode cX3_weigh 82 = .ok (.iaload, 1) := by decide +kernel
theorem dX3_weigh_83 : decode cX3_weigh 83 = .ok (.if_icmp .ge 43, 3) := by decide +kernel
theorem dX3_weigh_86 : decode cX3_weigh 86 = .ok (.aload_n 0, 1) := by decide +kernel
theorem dX3_weigh_87 : decode cX3_weigh 87 = .ok (.getfield 18, 3) := by decide +kernel
theorem dX3_weigh_90 : decode cX3_weigh 90 = .ok (.iload_n 1, 1) := by decide +kernel
theorem dX3_weigh_91 : decode cX3_weigh 91 = .ok (.iload 6, 2) := by decide +kernel
theorem dX3_weigh_93 : decode cX3_weigh 93 = .ok (.iastore, 1) := by decide +kernel
theorem dX3_weigh_94 : decode cX3_weigh 94 = .ok (.aload_n 0, 1) := by decide +kernel
theorem dX3_weigh_95 : decode cX3_weigh 95 = .ok (.getfield 21, 3) := by decide +kernel
theorem dX3_weigh_98 : decode cX3_weigh 98 = .ok (.iload_n 1, 1) := by decide +kernel
theorem dX3_weigh_99 : decode cX3_weigh 99 = .ok (.aload_n 0, 1) := by decide +kernel
theorem dX3_weigh_100 : decode cX3_weigh 100 = .ok (.getfield 21, 3) := by decide +kernel
theorem dX3_weigh_103 : decode cX3_weigh 103 = .ok (.iload 4, 2) := by decide +kernel
theorem dX3_weigh_105 : decode cX3_weigh 105 = .ok (.iaload, 1) := by decide +kernel
theorem dX3_weigh_106 : decode cX3_weigh 106 = .ok (.iastore, 1) := by decide +kernel
theorem dX3_weigh_107 : decode cX3_weigh 107 = .ok (.aload_n 0, 1) := by decide +kernel
theorem dX3_weigh_108 : decode cX3_weigh 108 = .ok (.getfield 24, 3) := by decide +kernel
theorem dX3_weigh_111 : decode cX3_weigh 111 = .ok (.iload_n 1, 1) := by decide +kernel
theorem dX3_weigh_112 : decode cX3_weigh 112 = .ok (.iload 7, 2) := by decide +kernel
theorem dX3_weigh_114 : decode cX3_weigh 114 = .ok (.iastore, 1) := by decide +kernel
theorem dX3_weigh_115 : decode cX3_weigh 115 = .ok (.aload_n 0, 1) := by decide +kernel
theorem dX3_weigh_116 : decode cX3_weigh 116 = .ok (.getfield 27, 3) := by decide +kernel
theorem dX3_weigh_119 : decode cX3_weigh 119 = .ok (.iload_n 1, 1) := by decide +kernel
theorem dX3_weigh_120 : decode cX3_weigh 120 = .ok (.iload 8, 2) := by decide +kernel
theorem dX3_weigh_122 : decode cX3_weigh 122 = .ok (.iastore, 1) := by decide +kernel
theorem dX3_weigh_123 : decode cX3_weigh 123 = .ok (.goto 64, 3) := by decide +kernel
theorem dX3_weigh_126 : decode cX3_weigh 126 = .ok (.iload 6, 2) := by decide +kernel
theorem dX3_weigh_128 : decode cX3_weigh 128 = .ok (.aload_n 0, 1) := by decide +kernel
theorem dX3_weigh_129 : decode cX3_weigh 129 = .ok (.getfield 18, 3) := by decide +kernel
theorem dX3_weigh_132 : decode cX3_weigh 132 = .ok (.iload_n 1, 1) := by decide +kernel
theorem dX3_weigh_133 : decode cX3_weigh 133 = .ok (.iaload, 1) := by decide +kernel
theorem dX3_weigh_134 : decode cX3_weigh 134 = .ok (.if_icmp .ne 53, 3) := by decide +kernel
theorem dX3_weigh_137 : decode cX3_weigh 137 = .ok (.aload_n 0, 1) := by decide +kernel
theorem dX3_weigh_138 : decode cX3_weigh 138 = .ok (.getfield 21, 3) := by decide +kernel
theorem dX3_weigh_141 : decode cX3_weigh 141 = .ok (.iload_n 1, 1) := by decide +kernel
theorem dX3_weigh_142 : decode cX3_weigh 142 = .ok (.dup2, 1) := by decide +kernel
theorem dX3_weigh_143 : decode cX3_weigh 143 = .ok (.iaload, 1) := by decide +kernel
theorem dX3_weigh_144 : decode cX3_weigh 144 = .ok (.aload_n 0, 1) := by decide +kernel
theorem dX3_weigh_145 : decode cX3_weigh 145 = .ok (.getfield 21, 3) := by decide +kernel
theorem dX3_weigh_148 : decode cX3_weigh 148 = .ok (.iload 4, 2) := by decide +kernel
theorem dX3_weigh_150 : decode cX3_weigh 150 = .ok (.iaload, 1) := by decide +kernel
theorem dX3_weigh_151 : decode cX3_weigh 151 = .ok (.iadd, 1) := by decide +kernel
theorem dX3_weigh_152 : decode cX3_weigh 152 = .ok (.iastore, 1) := by decide +kernel
theorem dX3_weigh_153 : decode cX3_weigh 153 = .ok (.aload_n 0, 1) := by decide +kernel
theorem dX3_weigh_154 : decode cX3_weigh 154 = .ok (.getfield 24, 3) := by decide +kernel
theorem dX3_weigh_157 : decode cX3_weigh 157 = .ok (.iload_n 1, 1) := by decide +kernel
theorem dX3_weigh_158 : decode cX3_weigh 158 = .ok (.aload_n 0, 1) := by decide +kernel
theorem dX3_weigh_159 : decode cX3_weigh 159 = .ok (.getfield 24, 3) := by decide +kernel
theorem dX3_weigh_162 : decode cX3_weigh 162 = .ok (.iload_n 1, 1) := by decide +kernel
theorem dX3_weigh_163 : decode cX3_weigh 163 = .ok (.iaload, 1) := by decide +kernel
theorem dX3_weigh_164 : decode cX3_weigh 164 = .ok (.iload 7, 2) := by decide +kernel
theorem dX3_weigh_166 : decode cX3_weigh 166 = .ok (.invokestatic 43, 3) := by decide +kernel
theorem dX3_weigh_169 : decode cX3_weigh 169 = .ok (.iastore, 1) := by decide +kernel
theorem dX3_weigh_170 : decode cX3_weigh 170 = .ok (.aload_n 0, 1) := by decide +kernel
theorem dX3_weigh_171 : decode cX3_weigh 171 = .ok (.getfield 27, 3) := by decide +kernel
theorem dX3_weigh_174 : decode cX3_weigh 174 = .ok (.iload_n 1, 1) := by decide +kernel
theorem dX3_weigh_175 : decode cX3_weigh 175 = .ok (.aload_n 0, 1) := by decide +kernel
theorem dX3_weigh_176 : decode cX3_weigh 176 = .ok (.getfield 27, 3) := by decide +kernel
theorem dX3_weigh_179 : decode cX3_weigh 179 = .ok (.iload_n 1, 1) := by decide +kernel
theorem dX3_weigh_180 : decode cX3_weigh 180 = .ok (.iaload, 1) := by decide +kernel
theorem dX3_weigh_181 : decode cX3_weigh 181 = .ok (.iload 8, 2) := by decide +kernel
theorem dX3_weigh_183 : decode cX3_weigh 183 = .ok (.invokestatic 52, 3) := by decide +kernel
theorem dX3_weigh_186 : decode cX3_weigh 186 = .ok (.iastore, 1) := by decide +kernel
theorem dX3_weigh_187 : decode cX3_weigh 187 = .ok (.return_, 1) := by decide +kernel
theorem dX3_joinRow_0 : decode cX3_joinRow 0 = .ok (.iconst 0, 1) := by decide +kernel
theorem dX3_joinRow_1 : decode cX3_joinRow 1 = .ok (.istore_n 1, 1) := by decide +kernel
theorem dX3_joinRow_2 : decode cX3_joinRow 2 = .ok (.aload_n 0, 1) := by decide +kernel
theorem dX3_joinRow_3 : decode cX3_joinRow 3 = .ok (.iconst 0, 1) := by decide +kernel
theorem dX3_joinRow_4 : decode cX3_joinRow 4 = .ok (.putfield 86, 3) := by decide +kernel
theorem dX3_joinRow_7 : decode cX3_joinRow 7 = .ok (.iconst 0, 1) := by decide +kernel
theorem dX3_joinRow_8 : decode cX3_joinRow 8 = .ok (.istore_n 2, 1) := by decide +kernel
theorem dX3_joinRow_9 : decode cX3_joinRow 9 = .ok (.iload_n 2, 1) := by decide +kernel
theorem dX3_joinRow_10 : decode cX3_joinRow 10 = .ok (.aload_n 0, 1) := by decide +kernel
theorem dX3_joinRow_11 : decode cX3_joinRow 11 = .ok (.getfield 49, 3) := by decide +kernel
theorem dX3_joinRow_14 : decode cX3_joinRow 14 = .ok (.if_icmp .ge 49, 3) := by decide +kernel
theorem dX3_joinRow_17 : decode cX3_joinRow 17 = .ok (.aload_n 0, 1) := by decide +kernel
theorem dX3_joinRow_18 : decode cX3_joinRow 18 = .ok (.iload_n 1, 1) := by decide +kernel
theorem dX3_joinRow_19 : decode cX3_joinRow 19 = .ok (.iload_n 2, 1) := by decide +kernel
theorem dX3_joinRow_20 : decode cX3_joinRow 20 = .ok (.invokevirtual 89, 3) := by decide +kernel
theorem dX3_joinRow_23 : decode cX3_joinRow 23 = .ok (.istore_n 3, 1) := by decide +kernel
theorem dX3_joinRow_24 : decode cX3_joinRow 24 = .ok (.aload_n 0, 1) := by decide +kernel
theorem dX3_joinRow_25 : decode cX3_joinRow 25 = .ok (.getfield 30, 3) := by decide +kernel
theorem dX3_joinRow_28 : decode cX3_joinRow 28 = .ok (.iload_n 2, 1) := by decide +kernel
theorem dX3_joinRow_29 : decode cX3_joinRow 29 = .ok (.iload_n 3, 1) := by decide +kernel
theorem dX3_joinRow_30 : decode cX3_joinRow 30 = .ok (.iastore, 1) := by decide +kernel
theorem dX3_joinRow_31 : decode cX3_joinRow 31 = .ok (.aload_n 0, 1) := by decide +kernel
theorem dX3_joinRow_32 : decode cX3_joinRow 32 = .ok (.dup, 1) := by decide +kernel
theorem dX3_joinRow_33 : decode cX3_joinRow 33 = .ok (.getfield 86, 3) := by decide +kernel
theorem dX3_joinRow_36 : decode cX3_joinRow 36 = .ok (.aload_n 0, 1) := by decide +kernel
theorem dX3_joinRow_37 : decode cX3_joinRow 37 = .ok (.getfield 9, 3) := by decide +kernel
theorem dX3_joinRow_40 : decode cX3_joinRow 40 = .ok (.iload_n 2, 1) := by decide +kernel
theorem dX3_joinRow_41 : decode cX3_joinRow 41 = .ok (.bipush 6, 2) := by decide +kernel
theorem dX3_joinRow_43 : decode cX3_joinRow 43 = .ok (.imul, 1) := by decide +kernel
theorem dX3_joinRow_44 : decode cX3_joinRow 44 = .ok (.iload_n 3, 1) := by decide +kernel
theorem dX3_joinRow_45 : decode cX3_joinRow 45 = .ok (.iadd, 1) := by decide +kernel
theorem dX3_joinRow_46 : decode cX3_joinRow 46 = .ok (.iaload, 1) := by decide +kernel
theorem dX3_joinRow_47 : decode cX3_joinRow 47 = .ok (.iadd, 1) := by decide +kernel
theorem dX3_joinRow_48 : decode cX3_joinRow 48 = .ok (.putfield 86, 3) := by decide +kernel
theorem dX3_joinRow_51 : decode cX3_joinRow 51 = .ok (.iload_n 1, 1) := by decide +kernel
theorem dX3_joinRow_52 : decode cX3_joinRow 52 = .ok (.iconst 1, 1) := by decide +kernel
theorem dX3_joinRow_53 : decode cX3_joinRow 53 = .ok (.iload_n 3, 1) := by decide +kernel
theorem dX3_joinRow_54 : decode cX3_joinRow 54 = .ok (.ishl, 1) := by decide +kernel
theorem dX3_joinRow_55 : decode cX3_joinRow 55 = .ok (.ior, 1) := by decide +kernel
theorem dX3_joinRow_56 : decode cX3_joinRow 56 = .ok (.istore_n 1, 1) := by decide +kernel
theorem dX3_joinRow_57 : decode cX3_joinRow 57 = .ok (.iinc 2 1, 3) := by decide +kernel
theorem dX3_joinRow_60 : decode cX3_joinRow 60 = .ok (.goto (-51), 3) := by decide +kernel
theorem dX3_joinRow_63 : decode cX3_joinRow 63 = .ok (.return_, 1) := by decide +kernel
theorem dX3_firstBest_0 : decode cX3_firstBest 0 = .ok (.iconst 0, 1) := by decide +kernel
theorem dX3_firstBest_1 : decode cX3_firstBest 1 = .ok (.istore_n 3, 1) := by decide +kernel
theorem dX3_firstBest_2 : decode cX3_firstBest 2 = .ok (.iload_n 3, 1) := by decide +kernel
theorem dX3_firstBest_3 : decode cX3_firstBest 3 = .ok (.aload_n 0, 1) := by decide +kernel
theorem dX3_firstBest_4 : decode cX3_firstBest 4 = .ok (.getfield 55, 3) := by decide +kernel
theorem dX3_firstBest_7 : decode cX3_firstBest 7 = .ok (.if_icmp .ge 50, 3) := by decide +kernel
theorem dX3_firstBest_10 : decode cX3_firstBest 10 = .ok (.iload_n 1, 1) := by decide +kernel
theorem dX3_firstBest_11 : decode cX3_firstBest 11 = .ok (.iload_n 3, 1) := by decide +kernel
theorem dX3_firstBest_12 : decode cX3_firstBest 12 = .ok (.ishr, 1) := by decide +kernel
theorem dX3_firstBest_13 : decode cX3_firstBest 13 = .ok (.iconst 1, 1) := by decide +kernel
theorem dX3_firstBest_14 : decode cX3_firstBest 14 = .ok (.iand, 1) := by decide +kernel
theorem dX3_firstBest_15 : decode cX3_firstBest 15 = .ok (.ifCond .ne 36, 3) := by decide +kernel
theorem dX3_firstBest_18 : decode cX3_firstBest 18 = .ok (.aload_n 0, 1) := by decide +kernel
theorem dX3_firstBest_19 : decode cX3_firstBest 19 = .ok (.getfield 15, 3) := by decide +kernel
theorem dX3_firstBest_22 : decode cX3_firstBest 22 = .ok (.iload_n 2, 1) := by decide +kernel
theorem dX3_firstBest_23 : decode cX3_firstBest 23 = .ok (.bipush 6, 2) := by decide +kernel
theorem dX3_firstBest_25 : decode cX3_firstBest 25 = .ok (.imul, 1) := by decide +kernel
theorem dX3_firstBest_26 : decode cX3_firstBest 26 = .ok (.iload_n 3, 1) := by decide +kernel
theorem dX3_firstBest_27 : decode cX3_firstBest 27 = .ok (.iadd, 1) := by decide +kernel
theorem dX3_firstBest_28 : decode cX3_firstBest 28 = .ok (.iaload, 1) := by decide +kernel
theorem dX3_firstBest_29 : decode cX3_firstBest 29 = .ok (.aload_n 0, 1) := by decide +kernel
theorem dX3_firstBest_30 : decode cX3_firstBest 30 = .ok (.getfield 18, 3) := by decide +kernel
theorem dX3_firstBest_33 : decode cX3_firstBest 33 = .ok (.iload_n 1, 1) := by decide +kernel
theorem dX3_firstBest_34 : decode cX3_firstBest 34 = .ok (.iconst 1, 1) := by decide +kernel
theorem dX3_firstBest_35 : decode cX3_firstBest 35 = .ok (.iload_n 3, 1) := by decide +kernel
theorem dX3_firstBest_36 : decode cX3_firstBest 36 = .ok (.ishl, 1) := by decide +kernel
theorem dX3_firstBest_37 : decode cX3_firstBest 37 = .ok (.ior, 1) := by decide +kernel
theorem dX3_firstBest_38 : decode cX3_firstBest 38 = .ok (.iaload, 1) := by decide +kernel
theorem dX3_firstBest_39 : decode cX3_firstBest 39 = .ok (.iadd, 1) := by decide +kernel
theorem dX3_firstBest_40 : decode cX3_firstBest 40 = .ok (.aload_n 0, 1) := by decide +kernel
theorem dX3_firstBest_41 : decode cX3_firstBest 41 = .ok (.getfield 18, 3) := by decide +kernel
theorem dX3_firstBest_44 : decode cX3_firstBest 44 = .ok (.iload_n 1, 1) := by decide +kernel
theorem dX3_firstBest_45 : decode cX3_firstBest 45 = .ok (.iaload, 1) := by decide +kernel
theorem dX3_firstBest_46 : decode cX3_firstBest 46 = .ok (.if_icmp .ne 5, 3) := by decide +kernel
theorem dX3_firstBest_49 : decode cX3_firstBest 49 = .ok (.iload_n 3, 1) := by decide +kernel
theorem dX3_firstBest_50 : decode cX3_firstBest 50 = .ok (.ireturn, 1) := by decide +kernel
theorem dX3_firstBest_51 : decode cX3_firstBest 51 = .ok (.iinc 3 1, 3) := by decide +kernel
theorem dX3_firstBest_54 : decode cX3_firstBest 54 = .ok (.goto (-52), 3) := by decide +kernel
theorem dX3_firstBest_57 : decode cX3_firstBest 57 = .ok (.iconst 0, 1) := by decide +kernel
theorem dX3_firstBest_58 : decode cX3_firstBest 58 = .ok (.ireturn, 1) := by decide +kernel
theorem dX3_sum_0 : decode cX3_sum 0 = .ok (.aload_n 0, 1) := by decide +kernel
theorem dX3_sum_1 : decode cX3_sum 1 = .ok (.getfield 18, 3) := by decide +kernel
theorem dX3_sum_4 : decode cX3_sum 4 = .ok (.iconst 0, 1) := by decide +kernel
theorem dX3_sum_5 : decode cX3_sum 5 = .ok (.iaload, 1) := by decide +kernel
theorem dX3_sum_6 : decode cX3_sum 6 = .ok (.ireturn, 1) := by decide +kernel
theorem dX3_howMany_0 : decode cX3_howMany 0 = .ok (.aload_n 0, 1) := by decide +kernel
theorem dX3_howMany_1 : decode cX3_howMany 1 = .ok (.getfield 21, 3) := by decide +kernel
theorem dX3_howMany_4 : decode cX3_howMany 4 = .ok (.iconst 0, 1) := by decide +kernel
theorem dX3_howMany_5 : decode cX3_howMany 5 = .ok (.iaload, 1) := by decide +kernel
theorem dX3_howMany_6 : decode cX3_howMany 6 = .ok (.ireturn, 1) := by decide +kernel
theorem dX3_split_0 : decode cX3_split 0 = .ok (.aload_n 0, 1) := by decide +kernel
theorem dX3_split_1 : decode cX3_split 1 = .ok (.getfield 24, 3) := by decide +kernel
theorem dX3_split_4 : decode cX3_split 4 = .ok (.iconst 0, 1) := by decide +kernel
theorem dX3_split_5 : decode cX3_split 5 = .ok (.iaload, 1) := by decide +kernel
theorem dX3_split_6 : decode cX3_split 6 = .ok (.aload_n 0, 1) := by decide +kernel
theorem dX3_split_7 : decode cX3_split 7 = .ok (.getfield 27, 3) := by decide +kernel
theorem dX3_split_10 : decode cX3_split 10 = .ok (.iconst 0, 1) := by decide +kernel
theorem dX3_split_11 : decode cX3_split 11 = .ok (.iaload, 1) := by decide +kernel
theorem dX3_split_12 : decode cX3_split 12 = .ok (.if_icmp .ne 7, 3) := by decide +kernel
theorem dX3_split_15 : decode cX3_split 15 = .ok (.iconst 0, 1) := by decide +kernel
theorem dX3_split_16 : decode cX3_split 16 = .ok (.goto 4, 3) := by decide +kernel
theorem dX3_split_19 : decode cX3_split 19 = .ok (.iconst 1, 1) := by decide +kernel
theorem dX3_split_20 : decode cX3_split 20 = .ok (.ireturn, 1) := by decide +kernel
theorem dX3_partnerOf_0 : decode cX3_partnerOf 0 = .ok (.aload_n 1, 1) := by decide +kernel
theorem dX3_partnerOf_1 : decode cX3_partnerOf 1 = .ok (.aload_n 0, 1) := by decide +kernel
theorem dX3_partnerOf_2 : decode cX3_partnerOf 2 = .ok (.getfield 39, 3) := by decide +kernel
theorem dX3_partnerOf_5 : decode cX3_partnerOf 5 = .ok (.if_acmp .ne 28, 3) := by decide +kernel
theorem dX3_partnerOf_8 : decode cX3_partnerOf 8 = .ok (.iload_n 2, 1) := by decide +kernel
theorem dX3_partnerOf_9 : decode cX3_partnerOf 9 = .ok (.iconst 0, 1) := by decide +kernel
theorem dX3_partnerOf_10 : decode cX3_partnerOf 10 = .ok (.aload_n 0, 1) := by decide +kernel
theorem dX3_partnerOf_11 : decode cX3_partnerOf 11 = .ok (.getfield 49, 3) := by decide +kernel
theorem dX3_partnerOf_14 : decode cX3_partnerOf 14 = .ok (.iconst 1, 1) := by decide +kernel
theorem dX3_partnerOf_15 : decode cX3_partnerOf 15 = .ok (.isub, 1) := by decide +kernel
theorem dX3_partnerOf_16 : decode cX3_partnerOf 16 = .ok (.invokestatic 92, 3) := by decide +kernel
theorem dX3_partnerOf_19 : decode cX3_partnerOf 19 = .ok (.ifCond .eq 12, 3) := by decide +kernel
theorem dX3_partnerOf_22 : decode cX3_partnerOf 22 = .ok (.aload_n 0, 1) := by decide +kernel
theorem dX3_partnerOf_23 : decode cX3_partnerOf 23 = .ok (.getfield 30, 3) := by decide +kernel
theorem dX3_partnerOf_26 : decode cX3_partnerOf 26 = .ok (.iload_n 2, 1) := by decide +kernel
theorem dX3_partnerOf_27 : decode cX3_partnerOf 27 = .ok (.iaload, 1) := by decide +kernel
theorem dX3_partnerOf_28 : decode cX3_partnerOf 28 = .ok (.goto 4, 3) := by decide +kernel
theorem dX3_partnerOf_31 : decode cX3_partnerOf 31 = .ok (.iconst (-1), 1) := by decide +kernel
theorem dX3_partnerOf_32 : decode cX3_partnerOf 32 = .ok (.ireturn, 1) := by decide +kernel
theorem dX3_partnerOf_33 : decode cX3_partnerOf 33 = .ok (.iconst 0, 1) := by decide +kernel
theorem dX3_partnerOf_34 : decode cX3_partnerOf 34 = .ok (.istore_n 3, 1) := by decide +kernel
theorem dX3_partnerOf_35 : decode cX3_partnerOf 35 = .ok (.iload_n 3, 1) := by decide +kernel
theorem dX3_partnerOf_36 : decode cX3_partnerOf 36 = .ok (.aload_n 0, 1) := by decide +kernel
theorem dX3_partnerOf_37 : decode cX3_partnerOf 37 = .ok (.getfield 49, 3) := by decide +kernel
theorem dX3_partnerOf_40 : decode cX3_partnerOf 40 = .ok (.if_icmp .ge 21, 3) := by decide +kernel
theorem dX3_partnerOf_43 : decode cX3_partnerOf 43 = .ok (.aload_n 0, 1) := by decide +kernel
theorem dX3_partnerOf_44 : decode cX3_partnerOf 44 = .ok (.getfield 30, 3) := by decide +kernel
theorem dX3_partnerOf_47 : decode cX3_partnerOf 47 = .ok (.iload_n 3, 1) := by decide +kernel
theorem dX3_partnerOf_48 : decode cX3_partnerOf 48 = .ok (.iaload, 1) := by decide +kernel
theorem dX3_partnerOf_49 : decode cX3_partnerOf 49 = .ok (.iload_n 2, 1) := by decide +kernel
theorem dX3_partnerOf_50 : decode cX3_partnerOf 50 = .ok (.if_icmp .ne 5, 3) := by decide +kernel
theorem dX3_partnerOf_53 : decode cX3_partnerOf 53 = .ok (.iload_n 3, 1) := by decide +kernel
theorem dX3_partnerOf_54 : decode cX3_partnerOf 54 = .ok (.ireturn, 1) := by decide +kernel
theorem dX3_partnerOf_55 : decode cX3_partnerOf 55 = .ok (.iinc 3 1, 3) := by decide +kernel
theorem dX3_partnerOf_58 : decode cX3_partnerOf 58 = .ok (.goto (-23), 3) := by decide +kernel
theorem dX3_partnerOf_61 : decode cX3_partnerOf 61 = .ok (.iconst (-1), 1) := by decide +kernel
theorem dX3_partnerOf_62 : decode cX3_partnerOf 62 = .ok (.ireturn, 1) := by decide +kernel
theorem dX4_init_0 : decode cX4_init 0 = .ok (.aload_n 0, 1) := by decide +kernel
theorem dX4_init_1 : decode cX4_init 1 = .ok (.invokespecial 3, 3) := by decide +kernel
theorem dX4_init_4 : decode cX4_init 4 = .ok (.aload_n 0, 1) := by decide +kernel
theorem dX4_init_5 : decode cX4_init 5 = .ok (.bipush 6, 2) := by decide +kernel
theorem dX4_init_7 : decode cX4_init 7 = .ok (.newarray .int, 2) := by decide +kernel
theorem dX4_init_9 : decode cX4_init 9 = .ok (.putfield 9, 3) := by decide +kernel
theorem dX4_init_12 : decode cX4_init 12 = .ok (.aload_n 0, 1) := by decide +kernel
theorem dX4_init_13 : decode cX4_init 13 = .ok (.bipush 6, 2) := by decide +kernel
theorem dX4_init_15 : decode cX4_init 15 = .ok (.newarray .int, 2) := by decide +kernel
theorem dX4_init_17 : decode cX4_init 17 = .ok (.putfield 15, 3) := by decide +kernel
theorem dX4_init_20 : decode cX4_init 20 = .ok (.return_, 1) := by decide +kernel
theorem dX4_add_0 : decode cX4_add 0 = .ok (.iload_n 1, 1) := by decide +kernel
theorem dX4_add_1 : decode cX4_add 1 = .ok (.iconst 0, 1) := by decide +kernel
theorem dX4_add_2 : decode cX4_add 2 = .ok (.bipush 59, 2) := by decide +kernel
theorem dX4_add_4 : decode cX4_add 4 = .ok (.invokestatic 18, 3) := by decide +kernel
theorem dX4_add_7 : decode cX4_add 7 = .ok (.ifCond .eq 12, 3) := by decide +kernel
theorem dX4_add_10 : decode cX4_add 10 = .ok (.iload_n 2, 1) := by decide +kernel
theorem dX4_add_11 : decode cX4_add 11 = .ok (.iconst 0, 1) := by decide +kernel
theorem dX4_add_12 : decode cX4_add 12 = .ok (.iconst 3, 1) := by decide +kernel
theorem dX4_add_13 : decode cX4_add 13 = .ok (.invokestatic 18, 3) := by decide +kernel
theorem dX4_add_16 : decode cX4_add 16 = .ok (.ifCond .ne 6, 3) := by decide +kernel
theorem dX4_add_19 : decode cX4_add 19 = .ok (.bipush (-2), 2) := by decide +kernel
theorem dX4_add_21 : decode cX4_add 21 = .ok (.ireturn, 1) := by decide +kernel
theorem dX4_add_22 : decode cX4_add 22 = .ok (.aload_n 0, 1) := by decide +kernel
theorem dX4_add_23 : decode cX4_add 23 = .ok (.getfield 22, 3) := by decide +kernel
theorem dX4_add_26 : decode cX4_add 26 = .ok (.ifCond .lt 12, 3) := by decide +kernel
theorem dX4_add_29 : decode cX4_add 29 = .ok (.aload_n 0, 1) := by decide +kernel
theorem dX4_add_30 : decode cX4_add 30 = .ok (.getfield 22, 3) := by decide +kernel
theorem dX4_add_33 : decode cX4_add 33 = .ok (.bipush 6, 2) := by decide +kernel
theorem dX4_add_35 : decode cX4_add 35 = .ok (.if_icmp .lt 6, 3) := by decide +kernel
theorem dX4_add_38 : decode cX4_add 38 = .ok (.bipush (-4), 2) := by decide +kernel
theorem dX4_add_40 : decode cX4_add 40 = .ok (.ireturn, 1) := by decide +kernel
theorem dX4_add_41 : decode cX4_add 41 = .ok (.aload_n 0, 1) := by decide +kernel
theorem dX4_add_42 : decode cX4_add 42 = .ok (.getfield 9, 3) := by decide +kernel
theorem dX4_add_45 : decode cX4_add 45 = .ok (.aload_n 0, 1) := by decide +kernel
theorem dX4_add_46 : decode cX4_add 46 = .ok (.getfield 22, 3) := by decide +kernel
theorem dX4_add_49 : decode cX4_add 49 = .ok (.iload_n 1, 1) := by decide +kernel
theorem dX4_add_50 : decode cX4_add 50 = .ok (.iastore, 1) := by decide +kernel
theorem dX4_add_51 : decode cX4_add 51 = .ok (.aload_n 0, 1) := by decide +kernel
theorem dX4_add_52 : decode cX4_add 52 = .ok (.getfield 15, 3) := by decide +kernel
theorem dX4_add_55 : decode cX4_add 55 = .ok (.aload_n 0, 1) := by decide +kernel
theorem dX4_add_56 : decode cX4_add 56 = .ok (.getfield 22, 3) := by decide +kernel
theorem dX4_add_59 : decode cX4_add 59 = .ok (.iload_n 2, 1) := by decide +kernel
theorem dX4_add_60 : decode cX4_add 60 = .ok (.iastore, 1) := by decide +kernel
theorem dX4_add_61 : decode cX4_add 61 = .ok (.aload_n 0, 1) := by decide +kernel
theorem dX4_add_62 : decode cX4_add 62 = .ok (.dup, 1) := by decide +kernel
theorem dX4_add_63 : decode cX4_add 63 = .ok (.getfield 22, 3) := by decide +kernel
theorem dX4_add_66 : decode cX4_add 66 = .ok (.iconst 1, 1) := by decide +kernel
theorem dX4_add_67 : decode cX4_add 67 = .ok (.iadd, 1) := by decide +kernel
theorem dX4_add_68 : decode cX4_add 68 = .ok (.putfield 22, 3) := by decide +kernel
theorem dX4_add_71 : decode cX4_add 71 = .ok (.aload_n 0, 1) := by decide +kernel
theorem dX4_add_72 : decode cX4_add 72 = .ok (.getfield 22, 3) := by decide +kernel
theorem dX4_add_75 : decode cX4_add 75 = .ok (.iconst 1, 1) := by decide +kernel
theorem dX4_add_76 : decode cX4_add 76 = .ok (.isub, 1) := by decide +kernel
theorem dX4_add_77 : decode cX4_add 77 = .ok (.ireturn, 1) := by decide +kernel
theorem dX4_clear_0 : decode cX4_clear 0 = .ok (.aload_n 0, 1) := by decide +kernel
theorem dX4_clear_1 : decode cX4_clear 1 = .ok (.getfield 22, 3) := by decide +kernel
theorem dX4_clear_4 : decode cX4_clear 4 = .ok (.istore_n 1, 1) := by decide +kernel
theorem dX4_clear_5 : decode cX4_clear 5 = .ok (.aload_n 0, 1) := by decide +kernel
theorem dX4_clear_6 : decode cX4_clear 6 = .ok (.iconst 0, 1) := by decide +kernel
theorem dX4_clear_7 : decode cX4_clear 7 = .ok (.putfield 22, 3) := by decide +kernel
theorem dX4_clear_10 : decode cX4_clear 10 = .ok (.iload_n 1, 1) := by decide +kernel
theorem dX4_clear_11 : decode cX4_clear 11 = .ok (.ireturn, 1) := by decide +kernel
theorem dX4_wayTo_0 : decode cX4_wayTo 0 = .ok (.iload_n 1, 1) := by decide +kernel
theorem dX4_wayTo_1 : decode cX4_wayTo 1 = .ok (.iconst 0, 1) := by decide +kernel
theorem dX4_wayTo_2 : decode cX4_wayTo 2 = .ok (.aload_n 0, 1) := by decide +kernel
theorem dX4_wayTo_3 : decode cX4_wayTo 3 = .ok (.getfield 22, 3) := by decide +kernel
theorem dX4_wayTo_6 : decode cX4_wayTo 6 = .ok (.iconst 1, 1) := by decide +kernel
theorem dX4_wayTo_7 : decode cX4_wayTo 7 = .ok (.isub, 1) := by decide +kernel
theorem dX4_wayTo_8 : decode cX4_wayTo 8 = .ok (.invokestatic 18, 3) := by decide +kernel
theorem dX4_wayTo_11 : decode cX4_wayTo 11 = .ok (.ifCond .eq 17, 3) := by decide +kernel
theorem dX4_wayTo_14 : decode cX4_wayTo 14 = .ok (.iload_n 3, 1) := by decide +kernel
theorem dX4_wayTo_15 : decode cX4_wayTo 15 = .ok (.iconst 0, 1) := by decide +kernel
theorem dX4_wayTo_16 : decode cX4_wayTo 16 = .ok (.aload_n 2, 1) := by decide +kernel
theorem dX4_wayTo_17 : decode cX4_wayTo 17 = .ok (.getfield 22, 3) := by decide +kernel
theorem dX4_wayTo_20 : decode cX4_wayTo 20 = .ok (.iconst 1, 1) := by decide +kernel
theorem dX4_wayTo_21 : decode cX4_wayTo 21 = .ok (.isub, 1) := by decide +kernel
theorem dX4_wayTo_22 : decode cX4_wayTo 22 = .ok (.invokestatic 18, 3) := by decide +kernel
theorem dX4_wayTo_25 : decode cX4_wayTo 25 = .ok (.ifCond .ne 5, 3) := by decide +kernel
theorem dX4_wayTo_28 : decode cX4_wayTo 28 = .ok (.iconst 0, 1) := by decide +kernel
theorem dX4_wayTo_29 : decode cX4_wayTo 29 = .ok (.ireturn, 1) := by decide +kernel
theorem dX4_wayTo_30 : decode cX4_wayTo 30 = .ok (.aload_n 2, 1) := by decide +kernel
theorem dX4_wayTo_31 : decode cX4_wayTo 31 = .ok (.getfield 9, 3) := by decide +kernel
theorem dX4_wayTo_34 : decode cX4_wayTo 34 = .ok (.iload_n 3, 1) := by decide +kernel
theorem dX4_wayTo_35 : decode cX4_wayTo 35 = .ok (.iaload, 1) := by decide +kernel
theorem dX4_wayTo_36 : decode cX4_wayTo 36 = .ok (.aload_n 0, 1) := by decide +kernel
theorem dX4_wayTo_37 : decode cX4_wayTo 37 = .ok (.getfield 9, 3) := by decide +kernel
theorem dX4_wayTo_40 : decode cX4_wayTo 40 = .ok (.iload_n 1, 1) := by decide +kernel
theorem dX4_wayTo_41 : decode cX4_wayTo 41 = .ok (.iaload, 1) := by decide +kernel
theorem dX4_wayTo_42 : decode cX4_wayTo 42 = .ok (.isub, 1) := by decide +kernel
theorem dX4_wayTo_43 : decode cX4_wayTo 43 = .ok (.bipush 29, 2) := by decide +kernel
theorem dX4_wayTo_45 : decode cX4_wayTo 45 = .ok (.iadd, 1) := by decide +kernel
theorem dX4_wayTo_46 : decode cX4_wayTo 46 = .ok (.bipush 60, 2) := by decide +kernel
theorem dX4_wayTo_48 : decode cX4_wayTo 48 = .ok (.invokestatic 26, 3) := by decide +kernel
theorem dX4_wayTo_51 : decode cX4_wayTo 51 = .ok (.bipush 29, 2) := by decide +kernel
theorem dX4_wayTo_53 : decode cX4_wayTo 53 = .ok (.isub, 1) := by decide +kernel
theorem dX4_wayTo_54 : decode cX4_wayTo 54 = .ok (.ireturn, 1) := by decide +kernel
theorem dX4_sameForm_0 : decode cX4_sameForm 0 = .ok (.iload_n 1, 1) := by decide +kernel
theorem dX4_sameForm_1 : decode cX4_sameForm 1 = .ok (.iconst 0, 1) := by decide +kernel
theorem dX4_sameForm_2 : decode cX4_sameForm 2 = .ok (.aload_n 0, 1) := by decide +kernel
theorem dX4_sameForm_3 : decode cX4_sameForm 3 = .ok (.getfield 22, 3) := by decide +kernel
theorem dX4_sameForm_6 : decode cX4_sameForm 6 = .ok (.iconst 1, 1) := by decide +kernel
theorem dX4_sameForm_7 : decode cX4_sameForm 7 = .ok (.isub, 1) := by decide +kernel
theorem dX4_sameForm_8 : decode cX4_sameForm 8 = .ok (.invokestatic 18, 3) := by decide +kernel
theorem dX4_sameForm_11 : decode cX4_sameForm 11 = .ok (.ifCond .eq 36, 3) := by decide +kernel
theorem dX4_sameForm_14 : decode cX4_sameForm 14 = .ok (.iload_n 3, 1) := by decide +kernel
theorem dX4_sameForm_15 : decode cX4_sameForm 15 = .ok (.iconst 0, 1) := by decide +kernel
theorem dX4_sameForm_16 : decode cX4_sameForm 16 = .ok (.aload_n 2, 1) := by decide +kernel
theorem dX4_sameForm_17 : decode cX4_sameForm 17 = .ok (.getfield 22, 3) := by decide +kernel
theorem dX4_sameForm_20 : decode cX4_sameForm 20 = .ok (.iconst 1, 1) := by decide +kernel
theorem dX4_sameForm_21 : decode cX4_sameForm 21 = .ok (.isub, 1) := by decide +kernel
theorem dX4_sameForm_22 : decode cX4_sameForm 22 = .ok (.invokestatic 18, 3) := by decide +kernel
theorem dX4_sameForm_25 : decode cX4_sameForm 25 = .ok (.ifCond .eq 22, 3) := by decide +kernel
theorem dX4_sameForm_28 : decode cX4_sameForm 28 = .ok (.aload_n 0, 1) := by decide +kernel
theorem dX4_sameForm_29 : decode cX4_sameForm 29 = .ok (.getfield 15, 3) := by decide +kernel
theorem dX4_sameForm_32 : decode cX4_sameForm 32 = .ok (.iload_n 1, 1) := by decide +kernel
theorem dX4_sameForm_33 : decode cX4_sameForm 33 = .ok (.iaload, 1) := by decide +kernel
theorem dX4_sameForm_34 : decode cX4_sameForm 34 = .ok (.aload_n 2, 1) := by decide +kernel
theorem dX4_sameForm_35 : decode cX4_sameForm 35 = .ok (.getfield 15, 3) := by decide +kernel
theorem dX4_sameForm_38 : decode cX4_sameForm 38 = .ok (.iload_n 3, 1) := by decide +kernel
theorem dX4_sameForm_39 : decode cX4_sameForm 39 = .ok (.iaload, 1) := by decide +kernel
theorem dX4_sameForm_40 : decode cX4_sameForm 40 = .ok (.if_icmp .ne 7, 3) := by decide +kernel
theorem dX4_sameForm_43 : decode cX4_sameForm 43 = .ok (.iconst 1, 1) := by decide +kernel
theorem dX4_sameForm_44 : decode cX4_sameForm 44 = .ok (.goto 4, 3) := by decide +kernel
theorem dX4_sameForm_47 : decode cX4_sameForm 47 = .ok (.iconst 0, 1) := by decide +kernel
theorem dX4_sameForm_48 : decode cX4_sameForm 48 = .ok (.ireturn, 1) := by decide +kernel
theorem dX5_init_0 : decode cX5_init 0 = .ok (.aload_n 0, 1) := by decide +kernel
theorem dX5_init_1 : decode cX5_init 1 = .ok (.invokespecial 3, 3) := by decide +kernel
theorem dX5_init_4 : decode cX5_init 4 = .ok (.aload_n 0, 1) := by decide +kernel
theorem dX5_init_5 : decode cX5_init 5 = .ok (.bipush 64, 2) := by decide +kernel
theorem dX5_init_7 : decode cX5_init 7 = .ok (.newarray .int, 2) := by decide +kernel
theorem dX5_init_9 : decode cX5_init 9 = .ok (.putfield 9, 3) := by decide +kernel
theorem dX5_init_12 : decode cX5_init 12 = .ok (.aload_n 0, 1) := by decide +kernel
theorem dX5_init_13 : decode cX5_init 13 = .ok (.sipush 2048, 3) := by decide +kernel
theorem dX5_init_16 : decode cX5_init 16 = .ok (.newarray .int, 2) := by decide +kernel
theorem dX5_init_18 : decode cX5_init 18 = .ok (.putfield 15, 3) := by decide +kernel
theorem dX5_init_21 : decode cX5_init 21 = .ok (.aload_n 0, 1) := by decide +kernel
theorem dX5_init_22 : decode cX5_init 22 = .ok (.sipush 2048, 3) := by decide +kernel
theorem dX5_init_25 : decode cX5_init 25 = .ok (.newarray .int, 2) := by decide +kernel
theorem dX5_init_27 : decode cX5_init 27 = .ok (.putfield 18, 3) := by decide +kernel
theorem dX5_init_30 : decode cX5_init 30 = .ok (.aload_n 0, 1) := by decide +kernel
theorem dX5_init_31 : decode cX5_init 31 = .ok (.bipush 8, 2) := by decide +kernel
theorem dX5_init_33 : decode cX5_init 33 = .ok (.newarray .int, 2) := by decide +kernel
theorem dX5_init_35 : decode cX5_init 35 = .ok (.putfield 21, 3) := by decide +kernel
theorem dX5_init_38 : decode cX5_init 38 = .ok (.return_, 1) := by decide +kernel
theorem dX5_search_0 : decode cX5_search 0 = .ok (.aload_n 0, 1) := by decide +kernel
theorem dX5_search_1 : decode cX5_search 1 = .ok (.aload_n 1, 1) := by decide +kernel
theorem dX5_search_2 : decode cX5_search 2 = .ok (.getfield 24, 3) := by decide +kernel
theorem dX5_search_5 : decode cX5_search 5 = .ok (.bipush 8, 2) := by decide +kernel
theorem dX5_search_7 : decode cX5_search 7 = .ok (.invokestatic 30, 3) := by decide +kernel
theorem dX5_search_10 : decode cX5_search 10 = .ok (.putfield 36, 3) := by decide +kernel
theorem dX5_search_13 : decode cX5_search 13 = .ok (.iconst 0, 1) := by decide +kernel
theorem dX5_search_14 : decode cX5_search 14 = .ok (.istore_n 3, 1) := by decide +kernel
theorem dX5_search_15 : decode cX5_search 15 = .ok (.iload_n 3, 1) := by decide +kernel
theorem dX5_search_16 : decode cX5_search 16 = .ok (.aload_n 0, 1) := by decide +kernel
theorem dX5_search_17 : decode cX5_search 17 = .ok (.getfield 36, 3) := by decide +kernel
theorem dX5_search_20 : decode cX5_search 20 = .ok (.if_icmp .ge 47, 3) := by decide +kernel
theorem dX5_search_23 : decode cX5_search 23 = .ok (.iconst 0, 1) := by decide +kernel
theorem dX5_search_24 : decode cX5_search 24 = .ok (.istore 4, 2) := by decide +kernel
theorem dX5_search_26 : decode cX5_search 26 = .ok (.iload 4, 2) := by decide +kernel
theorem dX5_search_28 : decode cX5_search 28 = .ok (.aload_n 0, 1) := by decide +kernel
theorem dX5_search_29 : decode cX5_search 29 = .ok (.getfield 36, 3) := by decide +kernel
theorem dX5_search_32 : decode cX5_search 32 = .ok (.if_icmp .ge 29, 3) := by decide +kernel
theorem dX5_search_35 : decode cX5_search 35 = .ok (.aload_n 0, 1) := by decide +kernel
theorem dX5_search_36 : decode cX5_search 36 = .ok (.getfield 9, 3) := by decide +kernel
theorem dX5_search_39 : decode cX5_search 39 = .ok (.iload_n 3, 1) := by decide +kernel
theorem dX5_search_40 : decode cX5_search 40 = .ok (.bipush 8, 2) := by decide +kernel
theorem dX5_search_42 : decode cX5_search 42 = .ok (.imul, 1) := by decide +kernel
theorem dX5_search_43 : decode cX5_search 43 = .ok (.iload 4, 2) := by decide +kernel
theorem dX5_search_45 : decode cX5_search 45 = .ok (.iadd, 1) := by decide +kernel
theorem dX5_search_46 : decode cX5_search 46 = .ok (.aload_n 1, 1) := by decide +kernel
theorem dX5_search_47 : decode cX5_search 47 = .ok (.iload_n 3, 1) := by decide +kernel
theorem dX5_search_48 : decode cX5_search 48 = .ok (.iload 4, 2) := by decide +kernel
theorem dX5_search_50 : decode cX5_search 50 = .ok (.iload_n 2, 1) := by decide +kernel
theorem dX5_search_51 : decode cX5_search 51 = .ok (.invokevirtual 37, 3) := by decide +kernel
theorem dX5_search_54 : decode cX5_search 54 = .ok (.iastore, 1) := by decide +kernel
theorem dX5_search_55 : decode cX5_search 55 = .ok (.iinc 4 1, 3) := by decide +kernel
theorem dX5_search_58 : decode cX5_search 58 = .ok (.goto (-32), 3) := by decide +kernel
theorem dX5_search_61 : decode cX5_search 61 = .ok (.iinc 3 1, 3) := by decide +kernel
theorem dX5_search_64 : decode cX5_search 64 = .ok (.goto (-49), 3) := by decide +kernel
theorem dX5_search_67 : decode cX5_search 67 = .ok (.iconst 1, 1) := by decide +kernel
theorem dX5_search_68 : decode cX5_search 68 = .ok (.aload_n 0, 1) := by decide +kernel
theorem dX5_search_69 : decode cX5_search 69 = .ok (.getfield 36, 3) := by decide +kernel
theorem dX5_search_72 : decode cX5_search 72 = .ok (.ishl, 1) := by decide +kernel
theorem dX5_search_73 : decode cX5_search 73 = .ok (.iconst 1, 1) := by decide +kernel
theorem dX5_search_74 : decode cX5_search 74 = .ok (.isub, 1) := by decide +kernel
theorem dX5_search_75 : decode cX5_search 75 = .ok (.istore_n 3, 1) := by decide +kernel
theorem dX5_search_76 : decode cX5_search 76 = .ok (.iload_n 3, 1) := by decide +kernel
theorem dX5_search_77 : decode cX5_search 77 = .ok (.ifCond .le 44, 3) := by decide +kernel
theorem dX5_search_80 : decode cX5_search 80 = .ok (.iconst 0, 1) := by decide +kernel
theorem dX5_search_81 : decode cX5_search 81 = .ok (.istore 4, 2) := by decide +kernel
theorem dX5_search_83 : decode cX5_search 83 = .ok (.iload 4, 2) := by decide +kernel
theorem dX5_search_85 : decode cX5_search 85 = .ok (.aload_n 0, 1) := by decide +kernel
theorem dX5_search_86 : decode cX5_search 86 = .ok (.getfield 36, 3) := by decide +kernel
theorem dX5_search_89 : decode cX5_search 89 = .ok (.if_icmp .ge 26, 3) := by decide +kernel
theorem dX5_search_92 : decode cX5_search 92 = .ok (.iload_n 3, 1) := by decide +kernel
theorem dX5_search_93 : decode cX5_search 93 = .ok (.iload 4, 2) := by decide +kernel
theorem dX5_search_95 : decode cX5_search 95 = .ok (.ishr, 1) := by decide +kernel
theorem dX5_search_96 : decode cX5_search 96 = .ok (.iconst 1, 1) := by decide +kernel
theorem dX5_search_97 : decode cX5_search 97 = .ok (.iand, 1) := by decide +kernel
theorem dX5_search_98 : decode cX5_search 98 = .ok (.iconst 1, 1) := by decide +kernel
theorem dX5_search_99 : decode cX5_search 99 = .ok (.if_icmp .ne 10, 3) := by decide +kernel
theorem dX5_search_102 : decode cX5_search 102 = .ok (.aload_n 0, 1) := by decide +kernel
theorem dX5_search_103 : decode cX5_search 103 = .ok (.iload_n 3, 1) := by decide +kernel
theorem dX5_search_104 : decode cX5_search 104 = .ok (.iload 4, 2) := by decide +kernel
theorem dX5_search_106 : decode cX5_search 106 = .ok (.invokevirtual 41, 3) := by decide +kernel
theorem dX5_search_109 : decode cX5_search 109 = .ok (.iinc 4 1, 3) := by decide +kernel
theorem dX5_search_112 : decode cX5_search 112 = .ok (.goto (-29), 3) := by decide +kernel
theorem dX5_search_115 : decode cX5_search 115 = .ok (.iinc 3 (-2), 3) := by decide +kernel
theorem dX5_search_118 : decode cX5_search 118 = .ok (.goto (-42), 3) := by decide +kernel
theorem dX5_search_121 : decode cX5_search 121 = .ok (.aload_n 0, 1) := by decide +kernel
theorem dX5_search_122 : decode cX5_search 122 = .ok (.invokevirtual 45, 3) := by decide +kernel
theorem dX5_search_125 : decode cX5_search 125 = .ok (.return_, 1) := by decide +kernel
theorem dX5_settle_0 : decode cX5_settle 0 = .ok (.iload_n 1, 1) := by decide +kernel
theorem dX5_settle_1 : decode cX5_settle 1 = .ok (.bipush 8, 2) := by decide +kernel
theorem dX5_settle_3 : decode cX5_settle 3 = .ok (.imul, 1) := by decide +kernel
theorem dX5_settle_4 : decode cX5_settle 4 = .ok (.iload_n 2, 1) := by decide +kernel
theorem dX5_settle_5 : decode cX5_settle 5 = .ok (.iadd, 1) := by decide +kernel
theorem dX5_settle_6 : decode cX5_settle 6 = .ok (.istore_n 3, 1) := by decide +kernel
theorem dX5_settle_7 : decode cX5_settle 7 = .ok (.iload_n 1, 1) := by decide +kernel
theorem dX5_settle_8 : decode cX5_settle 8 = .ok (.iconst 1, 1) := by decide +kernel
theorem dX5_settle_9 : decode cX5_settle 9 = .ok (.aload_n 0, 1) := by decide +kernel
theorem dX5_settle_10 : decode cX5_settle 10 = .ok (.getfield 36, 3) := by decide +kernel
theorem dX5_settle_13 : decode cX5_settle 13 = .ok (.ishl, 1) := by decide +kernel
theorem dX5_settle_14 : decode cX5_settle 14 = .ok (.iconst 1, 1) := by decide +kernel
theorem dX5_settle_15 : decode cX5_settle 15 = .ok (.isub, 1) := by decide +kernel
theorem dX5_settle_16 : decode cX5_settle 16 = .ok (.if_icmp .ne 7, 3) := by decide +kernel
theorem dX5_settle_19 : decode cX5_settle 19 = .ok (.iconst 1, 1) := by decide +kernel
theorem dX5_settle_20 : decode cX5_settle 20 = .ok (.goto 4, 3) := by decide +kernel
theorem dX5_settle_23 : decode cX5_settle 23 = .ok (.iconst 0, 1) := by decide +kernel
theorem dX5_settle_24 : decode cX5_settle 24 = .ok (.istore 4, 2) := by decide +kernel
theorem dX5_settle_26 : decode cX5_settle 26 = .ok (.aload_n 0, 1) := by decide +kernel
theorem dX5_settle_27 : decode cX5_settle 27 = .ok (.getfield 15, 3) := by decide +kernel
theorem dX5_settle_30 : decode cX5_settle 30 = .ok (.iload_n 3, 1) := by decide +kernel
theorem dX5_settle_31 : decode cX5_settle 31 = .ok (.iload 4, 2) := by decide +kernel
theorem dX5_settle_33 : decode cX5_settle 33 = .ok (.ifCond .eq 15, 3) := by decide +kernel
theorem dX5_settle_36 : decode cX5_settle 36 = .ok (.aload_n 0, 1) := by decide +kernel
theorem dX5_settle_37 : decode cX5_settle 37 = .ok (.getfield 9, 3) := by decide +kernel
theorem dX5_settle_40 : decode cX5_settle 40 = .ok (.iload_n 2, 1) := by decide +kernel
theorem dX5_settle_41 : decode cX5_settle 41 = .ok (.bipush 8, 2) := by decide +kernel
theorem dX5_settle_43 : decode cX5_settle 43 = .ok (.imul, 1) := by decide +kernel
theorem dX5_settle_44 : decode cX5_settle 44 = .ok (.iaload, 1) := by decide +kernel
theorem dX5_settle_45 : decode cX5_settle 45 = .ok (.goto 4, 3) := by decide +kernel
theorem dX5_settle_48 : decode cX5_settle 48 = .ok (.iconst 0, 1) := by decide +kernel
theorem dX5_settle_49 : decode cX5_settle 49 = .ok (.iastore, 1) := by decide +kernel
theorem dX5_settle_50 : decode cX5_settle 50 = .ok (.aload_n 0, 1) := by decide +kernel
theorem dX5_settle_51 : decode cX5_settle 51 = .ok (.getfield 18, 3) := by decide +kernel
theorem dX5_settle_54 : decode cX5_settle 54 = .ok (.iload_n 3, 1) := by decide +kernel
theorem dX5_settle_55 : decode cX5_settle 55 = .ok (.iload 4, 2) := by decide +kernel
theorem dX5_settle_57 : decode cX5_settle 57 = .ok (.ifCond .eq 7, 3) := by decide +kernel
theorem dX5_settle_60 : decode cX5_settle 60 = .ok (.iconst 1, 1) := by decide +kernel
theorem dX5_settle_61 : decode cX5_settle 61 = .ok (.goto 4, 3) := by decide +kernel
theorem dX5_settle_64 : decode cX5_settle 64 = .ok (.iconst 0, 1) := by decide +kernel
theorem dX5_settle_65 : decode cX5_settle 65 = .ok (.iastore, 1) := by decide +kernel
theorem dX5_settle_66 : decode cX5_settle 66 = .ok (.iconst 0, 1) := by decide +kernel
theorem dX5_settle_67 : decode cX5_settle 67 = .ok (.istore 5, 2) := by decide +kernel
theorem dX5_settle_69 : decode cX5_settle 69 = .ok (.iload 5, 2) := by decide +kernel
theorem dX5_settle_71 : decode cX5_settle 71 = .ok (.aload_n 0, 1) := by decide +kernel
theorem dX5_settle_72 : decode cX5_settle 72 = .ok (.getfield 36, 3) := by decide +kernel
theorem dX5_settle_75 : decode cX5_settle 75 = .ok (.if_icmp .ge 100, 3) := by decide +kernel
theorem dX5_settle_78 : decode cX5_settle 78 = .ok (.iload_n 1, 1) := by decide +kernel
theorem dX5_settle_79 : decode cX5_settle 79 = .ok (.iload 5, 2) := by decide +kernel
theorem dX5_settle_81 : decode cX5_settle 81 = .ok (.ishr, 1) := by decide +kernel
theorem dX5_settle_82 : decode cX5_settle 82 = .ok (.iconst 1, 1) := by decide +kernel
theorem dX5_settle_83 : decode cX5_settle 83 = .ok (.iand, 1) := by decide +kernel
theorem dX5_settle_84 : decode cX5_settle 84 = .ok (.ifCond .ne 85, 3) := by decide +kernel
theorem dX5_settle_87 : decode cX5_settle 87 = .ok (.aload_n 0, 1) := by decide +kernel
theorem dX5_settle_88 : decode cX5_settle 88 = .ok (.iload_n 1, 1) := by decide +kernel
theorem dX5_settle_89 : decode cX5_settle 89 = .ok (.iload_n 2, 1) := by decide +kernel
theorem dX5_settle_90 : decode cX5_settle 90 = .ok (.iload 5, 2) := by decide +kernel
theorem dX5_settle_92 : decode cX5_settle 92 = .ok (.invokevirtual 48, 3) := by decide +kernel
theorem dX5_settle_95 : decode cX5_settle 95 = .ok (.istore 6, 2) := by decide +kernel
theorem dX5_settle_97 : decode cX5_settle 97 = .ok (.aload_n 0, 1) := by decide +kernel
theorem dX5_settle_98 : decode cX5_settle 98 = .ok (.getfield 18, 3) := by decide +kernel
theorem dX5_settle_101 : decode cX5_settle 101 = .ok (.iload_n 3, 1) := by decide +kernel
theorem dX5_settle_102 : decode cX5_settle 102 = .ok (.iaload, 1) := by decide +kernel
theorem dX5_settle_103 : decode cX5_settle 103 = .ok (.ifCond .eq 14, 3) := by decide +kernel
theorem dX5_settle_106 : decode cX5_settle 106 = .ok (.iload 6, 2) := by decide +kernel
theorem dX5_settle_108 : decode cX5_settle 108 = .ok (.aload_n 0, 1) := by decide +kernel
theorem dX5_settle_109 : decode cX5_settle 109 = .ok (.getfield 15, 3) := by decide +kernel
theorem dX5_settle_112 : decode cX5_settle 112 = .ok (.iload_n 3, 1) := by decide +kernel
theorem dX5_settle_113 : decode cX5_settle 113 = .ok (.iaload, 1) := by decide +kernel
theorem dX5_settle_114 : decode cX5_settle 114 = .ok (.if_icmp .ge 18, 3) := by decide +kernel
theorem dX5_settle_117 : decode cX5_settle 117 = .ok (.aload_n 0, 1) := by decide +kernel
theorem dX5_settle_118 : decode cX5_settle 118 = .ok (.getfield 15, 3) := by decide +kernel
theorem dX5_settle_121 : decode cX5_settle 121 = .ok (.iload_n 3, 1) := by decide +kernel
theorem dX5_settle_122 : decode cX5_settle 122 = .ok (.iload 6, 2) := by decide +kernel
theorem dX5_settle_124 : decode cX5_settle 124 = .ok (.iastore, 1) := by decide +kernel
theorem dX5_settle_125 : decode cX5_settle 125 = .ok (.aload_n 0, 1) := by decide +kernel
theorem dX5_settle_126 : decode cX5_settle 126 = .ok (.getfield 18, 3) := by decide +kernel
theorem dX5_settle_129 : decode cX5_settle 129 = .ok (.iload_n 3, 1) := by decide +kernel
theorem dX5_settle_130 : decode cX5_settle 130 = .ok (.iconst 0, 1) := by decide +kernel
theorem dX5_settle_131 : decode cX5_settle 131 = .ok (.iastore, 1) := by decide +kernel
theorem dX5_settle_132 : decode cX5_settle 132 = .ok (.iload 6, 2) := by decide +kernel
theorem dX5_settle_134 : decode cX5_settle 134 = .ok (.aload_n 0, 1) := by decide +kernel
theorem dX5_settle_135 : decode cX5_settle 135 = .ok (.getfield 15, 3) := by decide +kernel
theorem dX5_settle_138 : decode cX5_settle 138 = .ok (.iload_n 3, 1) := by decide +kernel
theorem dX5_settle_139 : decode cX5_settle 139 = .ok (.iaload, 1) := by decide +kernel
theorem dX5_settle_140 : decode cX5_settle 140 = .ok (.if_icmp .ne 29, 3) := by decide +kernel
theorem dX5_settle_143 : decode cX5_settle 143 = .ok (.aload_n 0, 1) := by decide +kernel
theorem dX5_settle_144 : decode cX5_settle 144 = .ok (.getfield 18, 3) := by decide +kernel
theorem dX5_settle_147 : decode cX5_settle 147 = .ok (.iload_n 3, 1) := by decide +kernel
theorem dX5_settle_148 : decode cX5_settle 148 = .ok (.dup2, 1) := by decide +kernel
theorem dX5_settle_149 : decode cX5_settle 149 = .ok (.iaload, 1) := by decide +kernel
theorem dX5_settle_150 : decode cX5_settle 150 = .ok (.aload_n 0, 1) := by decide +kernel
theorem dX5_settle_151 : decode cX5_settle 151 = .ok (.getfield 18, 3) := by decide +kernel
theorem dX5_settle_154 : decode cX5_settle 154 = .ok (.iload_n 1, 1) := by decide +kernel
theorem dX5_settle_155 : decode cX5_settle 155 = .ok (.iconst 1, 1) := by decide +kernel
theorem dX5_settle_156 : decode cX5_settle 156 = .ok (.iload 5, 2) := by decide +kernel
theorem dX5_settle_158 : decode cX5_settle 158 = .ok (.ishl, 1) := by decide +kernel
theorem dX5_settle_159 : decode cX5_settle 159 = .ok (.ior, 1) := by decide +kernel
theorem dX5_settle_160 : decode cX5_settle 160 = .ok (.bipush 8, 2) := by decide +kernel
theorem dX5_settle_162 : decode cX5_settle 162 = .ok (.imul, 1) := by decide +kernel
theorem dX5_settle_163 : decode cX5_settle 163 = .ok (.iload 5, 2) := by decide +kernel
theorem dX5_settle_165 : decode cX5_settle 165 = .ok (.iadd, 1) := by decide +kernel
theorem dX5_settle_166 : decode cX5_settle 166 = .ok (.iaload, 1) := by decide +kernel
theorem dX5_settle_167 : decode cX5_settle 167 = .ok (.iadd, 1) := by decide +kernel
theorem dX5_settle_168 : decode cX5_settle 168 = .ok (.iastore, 1) := by decide +kernel
theorem dX5_settle_169 : decode cX5_settle 169 = .ok (.iinc 5 1, 3) := by decide +kernel
theorem dX5_settle_172 : decode cX5_settle 172 = .ok (.goto (-103), 3) := by decide +kernel
theorem dX5_settle_175 : decode cX5_settle 175 = .ok (.return_, 1) := by decide +kernel
theorem dX5_sumBy_0 : decode cX5_sumBy 0 = .ok (.aload_n 0, 1) := by decide +kernel
theorem dX5_sumBy_1 : decode cX5_sumBy 1 = .ok (.getfield 9, 3) := by decide +kernel
theorem dX5_sumBy_4 : decode cX5_sumBy 4 = .ok (.iload_n 2, 1) := by decide +kernel
theorem dX5_sumBy_5 : decode cX5_sumBy 5 = .ok (.bipush 8, 2) := by decide +kernel
theorem dX5_sumBy_7 : decode cX5_sumBy 7 = .ok (.imul, 1) := by decide +kernel
theorem dX5_sumBy_8 : decode cX5_sumBy 8 = .ok (.iload_n 3, 1) := by decide +kernel
theorem dX5_sumBy_9 : decode cX5_sumBy 9 = .ok (.iadd, 1) := by decide +kernel
theorem dX5_sumBy_10 : decode cX5_sumBy 10 = .ok (.iaload, 1) := by decide +kernel
theorem dX5_sumBy_11 : decode cX5_sumBy 11 = .ok (.aload_n 0, 1) := by decide +kernel
theorem dX5_sumBy_12 : decode cX5_sumBy 12 = .ok (.getfield 15, 3) := by decide +kernel
theorem dX5_sumBy_15 : decode cX5_sumBy 15 = .ok (.iload_n 1, 1) := by decide +kernel
theorem dX5_sumBy_16 : decode cX5_sumBy 16 = .ok (.iconst 1, 1) := by decide +kernel
theorem dX5_sumBy_17 : decode cX5_sumBy 17 = .ok (.iload_n 3, 1) := by decide +kernel
theorem dX5_sumBy_18 : decode cX5_sumBy 18 = .ok (.ishl, 1) := by decide +kernel
theorem dX5_sumBy_19 : decode cX5_sumBy 19 = .ok (.ior, 1) := by decide +kernel
theorem dX5_sumBy_20 : decode cX5_sumBy 20 = .ok (.bipush 8, 2) := by decide +kernel
theorem dX5_sumBy_22 : decode cX5_sumBy 22 = .ok (.imul, 1) := by decide +kernel
theorem dX5_sumBy_23 : decode cX5_sumBy 23 = .ok (.iload_n 3, 1) := by decide +kernel
theorem dX5_sumBy_24 : decode cX5_sumBy 24 = .ok (.iadd, 1) := by decide +kernel
theorem dX5_sumBy_25 : decode cX5_sumBy 25 = .ok (.iaload, 1) := by decide +kernel
theorem dX5_sumBy_26 : decode cX5_sumBy 26 = .ok (.iadd, 1) := by decide +kernel
theorem dX5_sumBy_27 : decode cX5_sumBy 27 = .ok (.ireturn, 1) := by decide +kernel
theorem dX5_layRow_0 : decode cX5_layRow 0 = .ok (.iconst 1, 1) := by decide +kernel
theorem dX5_layRow_1 : decode cX5_layRow 1 = .ok (.istore_n 1, 1) := by decide +kernel
theorem dX5_layRow_2 : decode cX5_layRow 2 = .ok (.iconst 0, 1) := by decide +kernel
theorem dX5_layRow_3 : decode cX5_layRow 3 = .ok (.istore_n 2, 1) := by decide +kernel
theorem dX5_layRow_4 : decode cX5_layRow 4 = .ok (.aload_n 0, 1) := by decide +kernel
theorem dX5_layRow_5 : decode cX5_layRow 5 = .ok (.getfield 21, 3) := by decide +kernel
theorem dX5_layRow_8 : decode cX5_layRow 8 = .ok (.iconst 0, 1) := by decide +kernel
theorem dX5_layRow_9 : decode cX5_layRow 9 = .ok (.iconst 0, 1) := by decide +kernel
theorem dX5_layRow_10 : decode cX5_layRow 10 = .ok (.iastore, 1) := by decide +kernel
theorem dX5_layRow_11 : decode cX5_layRow 11 = .ok (.iconst 1, 1) := by decide +kernel
theorem dX5_layRow_12 : decode cX5_layRow 12 = .ok (.istore_n 3, 1) := by decide +kernel
theorem dX5_layRow_13 : decode cX5_layRow 13 = .ok (.iload_n 3, 1) := by decide +kernel
theorem dX5_layRow_14 : decode cX5_layRow 14 = .ok (.aload_n 0, 1) := by decide +kernel
theorem dX5_layRow_15 : decode cX5_layRow 15 = .ok (.getfield 36, 3) := by decide +kernel
theorem dX5_layRow_18 : decode cX5_layRow 18 = .ok (.if_icmp .ge 35, 3) := by decide +kernel
theorem dX5_layRow_21 : decode cX5_layRow 21 = .ok (.aload_n 0, 1) := by decide +kernel
theorem dX5_layRow_22 : decode cX5_layRow 22 = .ok (.iload_n 1, 1) := by decide +kernel
theorem dX5_layRow_23 : decode cX5_layRow 23 = .ok (.iload_n 2, 1) := by decide +kernel
theorem dX5_layRow_24 : decode cX5_layRow 24 = .ok (.invokevirtual 51, 3) := by decide +kernel
theorem dX5_layRow_27 : decode cX5_layRow 27 = .ok (.istore 4, 2) := by decide +kernel
theorem dX5_layRow_29 : decode cX5_layRow 29 = .ok (.aload_n 0, 1) := by decide +kernel
theorem dX5_layRow_30 : decode cX5_layRow 30 = .ok (.getfield 21, 3) := by decide +kernel
theorem dX5_layRow_33 : decode cX5_layRow 33 = .ok (.iload_n 3, 1) := by decide +kernel
theorem dX5_layRow_34 : decode cX5_layRow 34 = .ok (.iload 4, 2) := by decide +kernel
theorem dX5_layRow_36 : decode cX5_layRow 36 = .ok (.iastore, 1) := by decide +kernel
theorem dX5_layRow_37 : decode cX5_layRow 37 = .ok (.iload_n 1, 1) := by decide +kernel
theorem dX5_layRow_38 : decode cX5_layRow 38 = .ok (.iconst 1, 1) := by decide +kernel
theorem dX5_layRow_39 : decode cX5_layRow 39 = .ok (.iload 4, 2) := by decide +kernel
theorem dX5_layRow_41 : decode cX5_layRow 41 = .ok (.ishl, 1) := by decide +kernel
theorem dX5_layRow_42 : decode cX5_layRow 42 = .ok (.ior, 1) := by decide +kernel
theorem dX5_layRow_43 : decode cX5_layRow 43 = .ok (.istore_n 1, 1) := by decide +kernel
theorem dX5_layRow_44 : decode cX5_layRow 44 = .ok (.iload 4, 2) := by decide +kernel
theorem dX5_layRow_46 : decode cX5_layRow 46 = .ok (.istore_n 2, 1) := by decide +kernel
theorem dX5_layRow_47 : decode cX5_layRow 47 = .ok (.iinc 3 1, 3) := by decide +kernel
theorem dX5_layRow_50 : decode cX5_layRow 50 = .ok (.goto (-37), 3) := by decide +kernel
theorem dX5_layRow_53 : decode cX5_layRow 53 = .ok (.return_, 1) := by decide +kernel
theorem dX5_firstBest_0 : decode cX5_firstBest 0 = .ok (.iconst 0, 1) := by decide +kernel
theorem dX5_firstBest_1 : decode cX5_firstBest 1 = .ok (.istore_n 3, 1) := by decide +kernel
theorem dX5_firstBest_2 : decode cX5_firstBest 2 = .ok (.iload_n 3, 1) := by decide +kernel
theorem dX5_firstBest_3 : decode cX5_firstBest 3 = .ok (.aload_n 0, 1) := by decide +kernel
theorem dX5_firstBest_4 : decode cX5_firstBest 4 = .ok (.getfield 36, 3) := by decide +kernel
theorem dX5_firstBest_7 : decode cX5_firstBest 7 = .ok (.if_icmp .ge 40, 3) := by decide +kernel
theorem dX5_firstBest_10 : decode cX5_firstBest 10 = .ok (.iload_n 1, 1) := by decide +kernel
theorem dX5_firstBest_11 : decode cX5_firstBest 11 = .ok (.iload_n 3, 1) := by decide +kernel
theorem dX5_firstBest_12 : decode cX5_firstBest 12 = .ok (.ishr, 1) := by decide +kernel
theorem dX5_firstBest_13 : decode cX5_firstBest 13 = .ok (.iconst 1, 1) := by decide +kernel
theorem dX5_firstBest_14 : decode cX5_firstBest 14 = .ok (.iand, 1) := by decide +kernel
theorem dX5_firstBest_15 : decode cX5_firstBest 15 = .ok (.ifCond .ne 26, 3) := by decide +kernel
theorem dX5_firstBest_18 : decode cX5_firstBest 18 = .ok (.aload_n 0, 1) := by decide +kernel
theorem dX5_firstBest_19 : decode cX5_firstBest 19 = .ok (.iload_n 1, 1) := by decide +kernel
theorem dX5_firstBest_20 : decode cX5_firstBest 20 = .ok (.iload_n 2, 1) := by decide +kernel
theorem dX5_firstBest_21 : decode cX5_firstBest 21 = .ok (.iload_n 3, 1) := by decide +kernel
theorem dX5_firstBest_22 : decode cX5_firstBest 22 = .ok (.invokevirtual 48, 3) := by decide +kernel
theorem dX5_firstBest_25 : decode cX5_firstBest 25 = .ok (.aload_n 0, 1) := by decide +kernel
theorem dX5_firstBest_26 : decode cX5_firstBest 26 = .ok (.getfield 15, 3) := by decide +kernel
theorem dX5_firstBest_29 : decode cX5_firstBest 29 = .ok (.iload_n 1, 1) := by decide +kernel
theorem dX5_firstBest_30 : decode cX5_firstBest 30 = .ok (.bipush 8, 2) := by decide +kernel
theorem dX5_firstBest_32 : decode cX5_firstBest 32 = .ok (.imul, 1) := by decide +kernel
theorem dX5_firstBest_33 : decode cX5_firstBest 33 = .ok (.iload_n 2, 1) := by decide +kernel
theorem dX5_firstBest_34 : decode cX5_firstBest 34 = .ok (.iadd, 1) := by decide +kernel
theorem dX5_firstBest_35 : decode cX5_firstBest 35 = .ok (.iaload, 1) := by decide +kernel
theorem dX5_firstBest_36 : decode cX5_firstBest 36 = .ok (.if_icmp .ne 5, 3) := by decide +kernel
theorem dX5_firstBest_39 : decode cX5_firstBest 39 = .ok (.iload_n 3, 1) := by decide +kernel
theorem dX5_firstBest_40 : decode cX5_firstBest 40 = .ok (.ireturn, 1) := by decide +kernel
theorem dX5_firstBest_41 : decode cX5_firstBest 41 = .ok (.iinc 3 1, 3) := by decide +kernel
theorem dX5_firstBest_44 : decode cX5_firstBest 44 = .ok (.goto (-42), 3) := by decide +kernel
theorem dX5_firstBest_47 : decode cX5_firstBest 47 = .ok (.iconst 0, 1) := by decide +kernel
theorem dX5_firstBest_48 : decode cX5_firstBest 48 = .ok (.ireturn, 1) := by decide +kernel
theorem dX5_sum_0 : decode cX5_sum 0 = .ok (.aload_n 0, 1) := by decide +kernel
theorem dX5_sum_1 : decode cX5_sum 1 = .ok (.getfield 15, 3) := by decide +kernel
theorem dX5_sum_4 : decode cX5_sum 4 = .ok (.bipush 8, 2) := by decide +kernel
theorem dX5_sum_6 : decode cX5_sum 6 = .ok (.iaload, 1) := by decide +kernel
theorem dX5_sum_7 : decode cX5_sum 7 = .ok (.ireturn, 1) := by decide +kernel
theorem dX5_howMany_0 : decode cX5_howMany 0 = .ok (.aload_n 0, 1) := by decide +kernel
theorem dX5_howMany_1 : decode cX5_howMany 1 = .ok (.getfield 18, 3) := by decide +kernel
theorem dX5_howMany_4 : decode cX5_howMany 4 = .ok (.bipush 8, 2) := by decide +kernel
theorem dX5_howMany_6 : decode cX5_howMany 6 = .ok (.iaload, 1) := by decide +kernel
theorem dX5_howMany_7 : decode cX5_howMany 7 = .ok (.ireturn, 1) := by decide +kernel
theorem dX5_pictureAt_0 : decode cX5_pictureAt 0 = .ok (.iload_n 1, 1) := by decide +kernel
theorem dX5_pictureAt_1 : decode cX5_pictureAt 1 = .ok (.iconst 0, 1) := by decide +kernel
theorem dX5_pictureAt_2 : decode cX5_pictureAt 2 = .ok (.aload_n 0, 1) := by decide +kernel
theorem dX5_pictureAt_3 : decode cX5_pictureAt 3 = .ok (.getfield 21, 3) := by decide +kernel
theorem dX5_pictureAt_6 : decode cX5_pictureAt 6 = .ok (.arraylength, 1) := by decide +kernel
theorem dX5_pictureAt_7 : decode cX5_pictureAt 7 = .ok (.iconst 1, 1) := by decide +kernel
theorem dX5_pictureAt_8 : decode cX5_pictureAt 8 = .ok (.isub, 1) := by decide +kernel
theorem dX5_pictureAt_9 : decode cX5_pictureAt 9 = .ok (.invokestatic 54, 3) := by decide +kernel
theorem dX5_pictureAt_12 : decode cX5_pictureAt 12 = .ok (.ifCond .eq 12, 3) := by decide +kernel
theorem dX5_pictureAt_15 : decode cX5_pictureAt 15 = .ok (.aload_n 0, 1) := by decide +kernel
theorem dX5_pictureAt_16 : decode cX5_pictureAt 16 = .ok (.getfield 21, 3) := by decide +kernel
theorem dX5_pictureAt_19 : decode cX5_pictureAt 19 = .ok (.iload_n 1, 1) := by decide +kernel
theorem dX5_pictureAt_20 : decode cX5_pictureAt 20 = .ok (.iaload, 1) := by decide +kernel
theorem dX5_pictureAt_21 : decode cX5_pictureAt 21 = .ok (.goto 5, 3) := by decide +kernel
theorem dX5_pictureAt_24 : decode cX5_pictureAt 24 = .ok (.bipush (-2), 2) := by decide +kernel
theorem dX5_pictureAt_26 : decode cX5_pictureAt 26 = .ok (.ireturn, 1) := by decide +kernel
theorem dX6_init_0 : decode cX6_init 0 = .ok (.aload_n 0, 1) := by decide +kernel
theorem dX6_init_1 : decode cX6_init 1 = .ok (.invokespecial 3, 3) := by decide +kernel
theorem dX6_init_4 : decode cX6_init 4 = .ok (.aload_n 0, 1) := by decide +kernel
theorem dX6_init_5 : decode cX6_init 5 = .ok (.bipush 60, 2) := by decide +kernel
theorem dX6_init_7 : decode cX6_init 7 = .ok (.newarray .int, 2) := by decide +kernel
theorem dX6_init_9 : decode cX6_init 9 = .ok (.putfield 9, 3) := by decide +kernel
theorem dX6_init_12 : decode cX6_init 12 = .ok (.aload_n 0, 1) := by decide +kernel
theorem dX6_init_13 : decode cX6_init 13 = .ok (.iconst 1, 1) := by decide +kernel
theorem dX6_init_14 : decode cX6_init 14 = .ok (.putfield 15, 3) := by decide +kernel
theorem dX6_init_17 : decode cX6_init 17 = .ok (.return_, 1) := by decide +kernel
theorem dX6_isForm_0 : decode cX6_isForm 0 = .ok (.iload_n 0, 1) := by decide +kernel
theorem dX6_isForm_1 : decode cX6_isForm 1 = .ok (.iconst 0, 1) := by decide +kernel
theorem dX6_isForm_2 : decode cX6_isForm 2 = .ok (.iconst 2, 1) := by decide +kernel
theorem dX6_isForm_3 : decode cX6_isForm 3 = .ok (.invokestatic 19, 3) := by decide +kernel
theorem dX6_isForm_6 : decode cX6_isForm 6 = .ok (.ireturn, 1) := by decide +kernel
theorem dX6_renew_0 : decode cX6_renew 0 = .ok (.aload_n 0, 1) := by decide +kernel
theorem dX6_renew_1 : decode cX6_renew 1 = .ok (.iconst 0, 1) := by decide +kernel
theorem dX6_renew_2 : decode cX6_renew 2 = .ok (.putfield 15, 3) := by decide +kernel
theorem dX6_renew_5 : decode cX6_renew 5 = .ok (.aload_n 0, 1) := by decide +kernel
theorem dX6_renew_6 : decode cX6_renew 6 = .ok (.iload_n 1, 1) := by decide +kernel
theorem dX6_renew_7 : decode cX6_renew 7 = .ok (.putfield 23, 3) := by decide +kernel
theorem dX6_renew_10 : decode cX6_renew 10 = .ok (.aload_n 0, 1) := by decide +kernel
theorem dX6_renew_11 : decode cX6_renew 11 = .ok (.iload_n 2, 1) := by decide +kernel
theorem dX6_renew_12 : decode cX6_renew 12 = .ok (.bipush 60, 2) := by decide +kernel
theorem dX6_renew_14 : decode cX6_renew 14 = .ok (.invokestatic 27, 3) := by decide +kernel
theorem dX6_renew_17 : decode cX6_renew 17 = .ok (.putfield 33, 3) := by decide +kernel
theorem dX6_renew_20 : decode cX6_renew 20 = .ok (.aload_n 0, 1) := by decide +kernel
theorem dX6_renew_21 : decode cX6_renew 21 = .ok (.getfield 9, 3) := by decide +kernel
theorem dX6_renew_24 : decode cX6_renew 24 = .ok (.iconst 0, 1) := by decide +kernel
theorem dX6_renew_25 : decode cX6_renew 25 = .ok (.invokestatic 36, 3) := by decide +kernel
theorem dX6_renew_28 : decode cX6_renew 28 = .ok (.return_, 1) := by decide +kernel
theorem dX6_findingAt_0 : decode cX6_findingAt 0 = .ok (.aload_n 0, 1) := by decide +kernel
theorem dX6_findingAt_1 : decode cX6_findingAt 1 = .ok (.getfield 15, 3) := by decide +kernel
theorem dX6_findingAt_4 : decode cX6_findingAt 4 = .ok (.ifCond .eq 5, 3) := by decide +kernel
theorem dX6_findingAt_7 : decode cX6_findingAt 7 = .ok (.iconst 1, 1) := by decide +kernel
theorem dX6_findingAt_8 : decode cX6_findingAt 8 = .ok (.ireturn, 1) := by decide +kernel
theorem dX6_findingAt_9 : decode cX6_findingAt 9 = .ok (.aload_n 0, 1) := by decide +kernel
theorem dX6_findingAt_10 : decode cX6_findingAt 10 = .ok (.getfield 23, 3) := by decide +kernel
theorem dX6_findingAt_13 : decode cX6_findingAt 13 = .ok (.iload_n 1, 1) := by decide +kernel
theorem dX6_findingAt_14 : decode cX6_findingAt 14 = .ok (.if_icmp .eq 5, 3) := by decide +kernel
theorem dX6_findingAt_17 : decode cX6_findingAt 17 = .ok (.iconst 3, 1) := by decide +kernel
theorem dX6_findingAt_18 : decode cX6_findingAt 18 = .ok (.ireturn, 1) := by decide +kernel
theorem dX6_findingAt_19 : decode cX6_findingAt 19 = .ok (.iload_n 2, 1) := by decide +kernel
theorem dX6_findingAt_20 : decode cX6_findingAt 20 = .ok (.iconst 0, 1) := by decide +kernel
theorem dX6_findingAt_21 : decode cX6_findingAt 21 = .ok (.aload_n 0, 1) := by decide +kernel
theorem dX6_findingAt_22 : decode cX6_findingAt 22 = .ok (.getfield 33, 3) := by decide +kernel
theorem dX6_findingAt_25 : decode cX6_findingAt 25 = .ok (.iconst 1, 1) := by decide +kernel
theorem dX6_findingAt_26 : decode cX6_findingAt 26 = .ok (.isub, 1) := by decide +kernel
theorem dX6_findingAt_27 : decode cX6_findingAt 27 = .ok (.invokestatic 19, 3) := by decide +kernel
theorem dX6_findingAt_30 : decode cX6_findingAt 30 = .ok (.ifCond .eq 7, 3) := by decide +kernel
theorem dX6_findingAt_33 : decode cX6_findingAt 33 = .ok (.iconst 0, 1) := by decide +kernel
theorem dX6_findingAt_34 : decode cX6_findingAt 34 = .ok (.goto 4, 3) := by decide +kernel
theorem dX6_findingAt_37 : decode cX6_findingAt 37 = .ok (.iconst 2, 1) := by decide +kernel
theorem dX6_findingAt_38 : decode cX6_findingAt 38 = .ok (.ireturn, 1) := by decide +kernel
theorem dX6_holds_0 : decode cX6_holds 0 = .ok (.iload_n 2, 1) := by decide +kernel
theorem dX6_holds_1 : decode cX6_holds 1 = .ok (.ifCond .lt 29, 3) := by decide +kernel
theorem dX6_holds_4 : decode cX6_holds 4 = .ok (.iload_n 2, 1) := by decide +kernel
theorem dX6_holds_5 : decode cX6_holds 5 = .ok (.aload_n 0, 1) := by decide +kernel
theorem dX6_holds_6 : decode cX6_holds 6 = .ok (.getfield 33, 3) := by decide +kernel
theorem dX6_holds_9 : decode cX6_holds 9 = .ok (.if_icmp .gt 21, 3) := by decide +kernel
theorem dX6_holds_12 : decode cX6_holds 12 = .ok (.iload_n 1, 1) := by decide +kernel
theorem dX6_holds_13 : decode cX6_holds 13 = .ok (.iconst 0, 1) := by decide +kernel
theorem dX6_holds_14 : decode cX6_holds 14 = .ok (.aload_n 0, 1) := by decide +kernel
theorem dX6_holds_15 : decode cX6_holds 15 = .ok (.getfield 33, 3) := by decide +kernel
theorem dX6_holds_18 : decode cX6_holds 18 = .ok (.iload_n 2, 1) := by decide +kernel
theorem dX6_holds_19 : decode cX6_holds 19 = .ok (.isub, 1) := by decide +kernel
theorem dX6_holds_20 : decode cX6_holds 20 = .ok (.invokestatic 19, 3) := by decide +kernel
theorem dX6_holds_23 : decode cX6_holds 23 = .ok (.ifCond .eq 7, 3) := by decide +kernel
theorem dX6_holds_26 : decode cX6_holds 26 = .ok (.iconst 1, 1) := by decide +kernel
theorem dX6_holds_27 : decode cX6_holds 27 = .ok (.goto 4, 3) := by decide +kernel
theorem dX6_holds_30 : decode cX6_holds 30 = .ok (.iconst 0, 1) := by decide +kernel
theorem dX6_holds_31 : decode cX6_holds 31 = .ok (.ireturn, 1) := by decide +kernel
theorem dX6_itemAt_0 : decode cX6_itemAt 0 = .ok (.iload_n 1, 1) := by decide +kernel
theorem dX6_itemAt_1 : decode cX6_itemAt 1 = .ok (.iconst 0, 1) := by decide +kernel
theorem dX6_itemAt_2 : decode cX6_itemAt 2 = .ok (.aload_n 0, 1) := by decide +kernel
theorem dX6_itemAt_3 : decode cX6_itemAt 3 = .ok (.getfield 33, 3) := by decide +kernel
theorem dX6_itemAt_6 : decode cX6_itemAt 6 = .ok (.iconst 1, 1) := by decide +kernel
theorem dX6_itemAt_7 : decode cX6_itemAt 7 = .ok (.isub, 1) := by decide +kernel
theorem dX6_itemAt_8 : decode cX6_itemAt 8 = .ok (.invokestatic 19, 3) := by decide +kernel
theorem dX6_itemAt_11 : decode cX6_itemAt 11 = .ok (.ifCond .eq 12, 3) := by decide +kernel
theorem dX6_itemAt_14 : decode cX6_itemAt 14 = .ok (.aload_n 0, 1) := by decide +kernel
theorem dX6_itemAt_15 : decode cX6_itemAt 15 = .ok (.getfield 9, 3) := by decide +kernel
theorem dX6_itemAt_18 : decode cX6_itemAt 18 = .ok (.iload_n 1, 1) := by decide +kernel
theorem dX6_itemAt_19 : decode cX6_itemAt 19 = .ok (.iaload, 1) := by decide +kernel
theorem dX6_itemAt_20 : decode cX6_itemAt 20 = .ok (.goto 4, 3) := by decide +kernel
theorem dX6_itemAt_23 : decode cX6_itemAt 23 = .ok (.iconst 0, 1) := by decide +kernel
theorem dX6_itemAt_24 : decode cX6_itemAt 24 = .ok (.ireturn, 1) := by decide +kernel
theorem dX6_store_0 : decode cX6_store 0 = .ok (.iload_n 1, 1) := by decide +kernel
theorem dX6_store_1 : decode cX6_store 1 = .ok (.iconst 0, 1) := by decide +kernel
theorem dX6_store_2 : decode cX6_store 2 = .ok (.aload_n 0, 1) := by decide +kernel
theorem dX6_store_3 : decode cX6_store 3 = .ok (.getfield 33, 3) := by decide +kernel
theorem dX6_store_6 : decode cX6_store 6 = .ok (.iconst 1, 1) := by decide +kernel
theorem dX6_store_7 : decode cX6_store 7 = .ok (.isub, 1) := by decide +kernel
theorem dX6_store_8 : decode cX6_store 8 = .ok (.invokestatic 19, 3) := by decide +kernel
theorem dX6_store_11 : decode cX6_store 11 = .ok (.ifCond .eq 35, 3) := by decide +kernel
theorem dX6_store_14 : decode cX6_store 14 = .ok (.aload_n 0, 1) := by decide +kernel
theorem dX6_store_15 : decode cX6_store 15 = .ok (.getfield 9, 3) := by decide +kernel
theorem dX6_store_18 : decode cX6_store 18 = .ok (.iload_n 1, 1) := by decide +kernel
theorem dX6_store_19 : decode cX6_store 19 = .ok (.aload_n 0, 1) := by decide +kernel
theorem dX6_store_20 : decode cX6_store 20 = .ok (.getfield 23, 3) := by decide +kernel
theorem dX6_store_23 : decode cX6_store 23 = .ok (.ifCond .ne 8, 3) := by decide +kernel
theorem dX6_store_26 : decode cX6_store 26 = .ok (.iload_n 2, 1) := by decide +kernel
theorem dX6_store_27 : decode cX6_store 27 = .ok (.i2b, 1) := by decide +kernel
theorem dX6_store_28 : decode cX6_store 28 = .ok (.goto 17, 3) := by decide +kernel
theorem dX6_store_31 : decode cX6_store 31 = .ok (.aload_n 0, 1) := by decide +kernel
theorem dX6_store_32 : decode cX6_store 32 = .ok (.getfield 23, 3) := by decide +kernel
theorem dX6_store_35 : decode cX6_store 35 = .ok (.iconst 1, 1) := by decide +kernel
theorem dX6_store_36 : decode cX6_store 36 = .ok (.if_icmp .ne 8, 3) := by decide +kernel
theorem dX6_store_39 : decode cX6_store 39 = .ok (.iload_n 2, 1) := by decide +kernel
theorem dX6_store_40 : decode cX6_store 40 = .ok (.i2s, 1) := by decide +kernel
theorem dX6_store_41 : decode cX6_store 41 = .ok (.goto 4, 3) := by decide +kernel
theorem dX6_store_44 : decode cX6_store 44 = .ok (.iload_n 2, 1) := by decide +kernel
theorem dX6_store_45 : decode cX6_store 45 = .ok (.iastore, 1) := by decide +kernel
theorem dX6_store_46 : decode cX6_store 46 = .ok (.return_, 1) := by decide +kernel
theorem dX7_init_0 : decode cX7_init 0 = .ok (.aload_n 0, 1) := by decide +kernel
theorem dX7_init_1 : decode cX7_init 1 = .ok (.invokespecial 3, 3) := by decide +kernel
theorem dX7_init_4 : decode cX7_init 4 = .ok (.aload_n 0, 1) := by decide +kernel
theorem dX7_init_5 : decode cX7_init 5 = .ok (.bipush 80, 2) := by decide +kernel
theorem dX7_init_7 : decode cX7_init 7 = .ok (.newarray .int, 2) := by decide +kernel
theorem dX7_init_9 : decode cX7_init 9 = .ok (.putfield 9, 3) := by decide +kernel
theorem dX7_init_12 : decode cX7_init 12 = .ok (.aload_n 0, 1) := by decide +kernel
theorem dX7_init_13 : decode cX7_init 13 = .ok (.bipush 48, 2) := by decide +kernel
theorem dX7_init_15 : decode cX7_init 15 = .ok (.newarray .int, 2) := by decide +kernel
theorem dX7_init_17 : decode cX7_init 17 = .ok (.putfield 15, 3) := by decide +kernel
theorem dX7_init_20 : decode cX7_init 20 = .ok (.aload_n 0, 1) := by decide +kernel
theorem dX7_init_21 : decode cX7_init 21 = .ok (.bipush 12, 2) := by decide +kernel
theorem dX7_init_23 : decode cX7_init 23 = .ok (.newarray .int, 2) := by decide +kernel
theorem dX7_init_25 : decode cX7_init 25 = .ok (.putfield 18, 3) := by decide +kernel
theorem dX7_init_28 : decode cX7_init 28 = .ok (.aload_n 0, 1) := by decide +kernel
theorem dX7_init_29 : decode cX7_init 29 = .ok (.iconst (-1), 1) := by decide +kernel
theorem dX7_init_30 : decode cX7_init 30 = .ok (.putfield 21, 3) := by decide +kernel
theorem dX7_init_33 : decode cX7_init 33 = .ok (.return_, 1) := by decide +kernel
theorem dX7_append_0 : decode cX7_append 0 = .ok (.aload_n 0, 1) := by decide +kernel
theorem dX7_append_1 : decode cX7_append 1 = .ok (.getfield 25, 3) := by decide +kernel
theorem dX7_append_4 : decode cX7_append 4 = .ok (.ifCond .lt 15, 3) := by decide +kernel
theorem dX7_append_7 : decode cX7_append 7 = .ok (.aload_n 0, 1) := by decide +kernel
theorem dX7_append_8 : decode cX7_append 8 = .ok (.getfield 25, 3) := by decide +kernel
theorem dX7_append_11 : decode cX7_append 11 = .ok (.aload_n 0, 1) := by decide +kernel
theorem dX7_append_12 : decode cX7_append 12 = .ok (.getfield 9, 3) := by decide +kernel
theorem dX7_append_15 : decode cX7_append 15 = .ok (.arraylength, 1) := by decide +kernel
theorem dX7_append_16 : decode cX7_append 16 = .ok (.if_icmp .lt 6, 3) := by decide +kernel
theorem dX7_append_19 : decode cX7_append 19 = .ok (.bipush (-4), 2) := by decide +kernel
theorem dX7_append_21 : decode cX7_append 21 = .ok (.ireturn, 1) := by decide +kernel
theorem dX7_append_22 : decode cX7_append 22 = .ok (.aload_n 0, 1) := by decide +kernel
theorem dX7_append_23 : decode cX7_append 23 = .ok (.getfield 9, 3) := by decide +kernel
theorem dX7_append_26 : decode cX7_append 26 = .ok (.aload_n 0, 1) := by decide +kernel
theorem dX7_append_27 : decode cX7_append 27 = .ok (.getfield 25, 3) := by decide +kernel
theorem dX7_append_30 : decode cX7_append 30 = .ok (.iload_n 1, 1) := by decide +kernel
theorem dX7_append_31 : decode cX7_append 31 = .ok (.iastore, 1) := by decide +kernel
theorem dX7_append_32 : decode cX7_append 32 = .ok (.aload_n 0, 1) := by decide +kernel
theorem dX7_append_33 : decode cX7_append 33 = .ok (.dup, 1) := by decide +kernel
theorem dX7_append_34 : decode cX7_append 34 = .ok (.getfield 25, 3) := by decide +kernel
theorem dX7_append_37 : decode cX7_append 37 = .ok (.iconst 1, 1) := by decide +kernel
theorem dX7_append_38 : decode cX7_append 38 = .ok (.iadd, 1) := by decide +kernel
theorem dX7_append_39 : decode cX7_append 39 = .ok (.putfield 25, 3) := by decide +kernel
theorem dX7_append_42 : decode cX7_append 42 = .ok (.aload_n 0, 1) := by decide +kernel
theorem dX7_append_43 : decode cX7_append 43 = .ok (.invokevirtual 28, 3) := by decide +kernel
theorem dX7_append_46 : decode cX7_append 46 = .ok (.aload_n 0, 1) := by decide +kernel
theorem dX7_append_47 : decode cX7_append 47 = .ok (.getfield 25, 3) := by decide +kernel
theorem dX7_append_50 : decode cX7_append 50 = .ok (.ireturn, 1) := by decide +kernel
theorem dX7_clear_0 : decode cX7_clear 0 = .ok (.aload_n 0, 1) := by decide +kernel
theorem dX7_clear_1 : decode cX7_clear 1 = .ok (.getfield 25, 3) := by decide +kernel
theorem dX7_clear_4 : decode cX7_clear 4 = .ok (.istore_n 1, 1) := by decide +kernel
theorem dX7_clear_5 : decode cX7_clear 5 = .ok (.aload_n 0, 1) := by decide +kernel
theorem dX7_clear_6 : decode cX7_clear 6 = .ok (.iconst 0, 1) := by decide +kernel
theorem dX7_clear_7 : decode cX7_clear 7 = .ok (.putfield 25, 3) := by decide +kernel
theorem dX7_clear_10 : decode cX7_clear 10 = .ok (.aload_n 0, 1) := by decide +kernel
theorem dX7_clear_11 : decode cX7_clear 11 = .ok (.invokevirtual 28, 3) := by decide +kernel
theorem dX7_clear_14 : decode cX7_clear 14 = .ok (.iload_n 1, 1) := by decide +kernel
theorem dX7_clear_15 : decode cX7_clear 15 = .ok (.ireturn, 1) := by decide +kernel
theorem dX7_parse_0 : decode cX7_parse 0 = .ok (.aload_n 0, 1) := by decide +kernel
theorem dX7_parse_1 : decode cX7_parse 1 = .ok (.aload_n 0, 1) := by decide +kernel
theorem dX7_parse_2 : decode cX7_parse 2 = .ok (.invokevirtual 31, 3) := by decide +kernel
theorem dX7_parse_5 : decode cX7_parse 5 = .ok (.putfield 21, 3) := by decide +kernel
theorem dX7_parse_8 : decode cX7_parse 8 = .ok (.aload_n 0, 1) := by decide +kernel
theorem dX7_parse_9 : decode cX7_parse 9 = .ok (.aload_n 0, 1) := by decide +kernel
theorem dX7_parse_10 : decode cX7_parse 10 = .ok (.getfield 21, 3) := by decide +kernel
theorem dX7_parse_13 : decode cX7_parse 13 = .ok (.iconst (-1), 1) := by decide +kernel
theorem dX7_parse_14 : decode cX7_parse 14 = .ok (.if_icmp .ne 14, 3) := by decide +kernel
theorem dX7_parse_17 : decode cX7_parse 17 = .ok (.aload_n 0, 1) := by decide +kernel
theorem dX7_parse_18 : decode cX7_parse 18 = .ok (.getfield 25, 3) := by decide +kernel
theorem dX7_parse_21 : decode cX7_parse 21 = .ok (.iconst 1, 1) := by decide +kernel
theorem dX7_parse_22 : decode cX7_parse 22 = .ok (.iadd, 1) := by decide +kernel
theorem dX7_parse_23 : decode cX7_parse 23 = .ok (.iconst 5, 1) := by decide +kernel
theorem dX7_parse_24 : decode cX7_parse 24 = .ok (.idiv, 1) := by decide +kernel
theorem dX7_parse_25 : decode cX7_parse 25 = .ok (.goto 4, 3) := by decide +kernel
theorem dX7_parse_28 : decode cX7_parse 28 = .ok (.iconst 0, 1) := by decide +kernel
theorem dX7_parse_29 : decode cX7_parse 29 = .ok (.putfield 35, 3) := by decide +kernel
theorem dX7_parse_32 : decode cX7_parse 32 = .ok (.iconst 0, 1) := by decide +kernel
theorem dX7_parse_33 : decode cX7_parse 33 = .ok (.istore_n 1, 1) := by decide +kernel
theorem dX7_parse_34 : decode cX7_parse 34 = .ok (.iload_n 1, 1) := by decide +kernel
theorem dX7_parse_35 : decode cX7_parse 35 = .ok (.aload_n 0, 1) := by decide +kernel
theorem dX7_parse_36 : decode cX7_parse 36 = .ok (.getfield 35, 3) := by decide +kernel
theorem dX7_parse_39 : decode cX7_parse 39 = .ok (.iconst 4, 1) := by decide +kernel
theorem dX7_parse_40 : decode cX7_parse 40 = .ok (.imul, 1) := by decide +kernel
theorem dX7_parse_41 : decode cX7_parse 41 = .ok (.if_icmp .ge 69, 3) := by decide +kernel
theorem dX7_parse_44 : decode cX7_parse 44 = .ok (.iload_n 1, 1) := by decide +kernel
theorem dX7_parse_45 : decode cX7_parse 45 = .ok (.aload_n 0, 1) := by decide +kernel
theorem dX7_parse_46 : decode cX7_parse 46 = .ok (.getfield 15, 3) := by decide +kernel
theorem dX7_parse_49 : decode cX7_parse 49 = .ok (.arraylength, 1) := by decide +kernel
theorem dX7_parse_50 : decode cX7_parse 50 = .ok (.if_icmp .ge 60, 3) := by decide +kernel
theorem dX7_parse_53 : decode cX7_parse 53 = .ok (.iload_n 1, 1) := by decide +kernel
theorem dX7_parse_54 : decode cX7_parse 54 = .ok (.iconst 4, 1) := by decide +kernel
theorem dX7_parse_55 : decode cX7_parse 55 = .ok (.idiv, 1) := by decide +kernel
theorem dX7_parse_56 : decode cX7_parse 56 = .ok (.iconst 5, 1) := by decide +kernel
theorem dX7_parse_57 : decode cX7_parse 57 = .ok (.imul, 1) := by decide +kernel
theorem dX7_parse_58 : decode cX7_parse 58 = .ok (.iload_n 1, 1) := by decide +kernel
theorem dX7_parse_59 : decode cX7_parse 59 = .ok (.iconst 4, 1) := by decide +kernel
theorem dX7_parse_60 : decode cX7_parse 60 = .ok (.irem, 1) := by decide +kernel
theorem dX7_parse_61 : decode cX7_parse 61 = .ok (.iadd, 1) := by decide +kernel
theorem dX7_parse_62 : decode cX7_parse 62 = .ok (.istore_n 2, 1) := by decide +kernel
theorem dX7_parse_63 : decode cX7_parse 63 = .ok (.iload_n 2, 1) := by decide +kernel
theorem dX7_parse_64 : decode cX7_parse 64 = .ok (.aload_n 0, 1) := by decide +kernel
theorem dX7_parse_65 : decode cX7_parse 65 = .ok (.getfield 9, 3) := by decide +kernel
theorem dX7_parse_68 : decode cX7_parse 68 = .ok (.arraylength, 1) := by decide +kernel
theorem dX7_parse_69 : decode cX7_parse 69 = .ok (.if_icmp .ge 12, 3) := by decide +kernel
theorem dX7_parse_72 : decode cX7_parse 72 = .ok (.aload_n 0, 1) := by decide +kernel
theorem dX7_parse_73 : decode cX7_parse 73 = .ok (.getfield 9, 3) := by decide +kernel
theorem dX7_parse_76 : decode cX7_parse 76 = .ok (.iload_n 2, 1) := by decide +kernel
theorem dX7_parse_77 : decode cX7_parse 77 = .ok (.iaload, 1) := by decide +kernel
theorem dX7_parse_78 : decode cX7_parse 78 = .ok (.goto 5, 3) := by decide +kernel
theorem dX7_parse_81 : decode cX7_parse 81 = .ok (.bipush 45, 2) := by decide +kernel
theorem dX7_parse_83 : decode cX7_parse 83 = .ok (.istore_n 3, 1) := by decide +kernel
theorem dX7_parse_84 : decode cX7_parse 84 = .ok (.aload_n 0, 1) := by decide +kernel
theorem dX7_parse_85 : decode cX7_parse 85 = .ok (.getfield 15, 3) := by decide +kernel
theorem dX7_parse_88 : decode cX7_parse 88 = .ok (.iload_n 1, 1) := by decide +kernel
theorem dX7_parse_89 : decode cX7_parse 89 = .ok (.iload_n 3, 1) := by decide +kernel
theorem dX7_parse_90 : decode cX7_parse 90 = .ok (.bipush 45, 2) := by decide +kernel
theorem dX7_parse_92 : decode cX7_parse 92 = .ok (.if_icmp .ne 7, 3) := by decide +kernel
theorem dX7_parse_95 : decode cX7_parse 95 = .ok (.iconst (-1), 1) := by decide +kernel
theorem dX7_parse_96 : decode cX7_parse 96 = .ok (.goto 7, 3) := by decide +kernel
theorem dX7_parse_99 : decode cX7_parse 99 = .ok (.iload_n 3, 1) := by decide +kernel
theorem dX7_parse_100 : decode cX7_parse 100 = .ok (.bipush 48, 2) := by decide +kernel
theorem dX7_parse_102 : decode cX7_parse 102 = .ok (.isub, 1) := by decide +kernel
theorem dX7_parse_103 : decode cX7_parse 103 = .ok (.iastore, 1) := by decide +kernel
theorem dX7_parse_104 : decode cX7_parse 104 = .ok (.iinc 1 1, 3) := by decide +kernel
theorem dX7_parse_107 : decode cX7_parse 107 = .ok (.goto (-73), 3) := by decide +kernel
theorem dX7_parse_110 : decode cX7_parse 110 = .ok (.return_, 1) := by decide +kernel
theorem dX7_firstFault_0 : decode cX7_firstFault 0 = .ok (.iconst 0, 1) := by decide +kernel
theorem dX7_firstFault_1 : decode cX7_firstFault 1 = .ok (.istore_n 1, 1) := by decide +kernel
theorem dX7_firstFault_2 : decode cX7_firstFault 2 = .ok (.iload_n 1, 1) := by decide +kernel
theorem dX7_firstFault_3 : decode cX7_firstFault 3 = .ok (.aload_n 0, 1) := by decide +kernel
theorem dX7_firstFault_4 : decode cX7_firstFault 4 = .ok (.getfield 25, 3) := by decide +kernel
theorem dX7_firstFault_7 : decode cX7_firstFault 7 = .ok (.if_icmp .ge 41, 3) := by decide +kernel
theorem dX7_firstFault_10 : decode cX7_firstFault 10 = .ok (.iload_n 1, 1) := by decide +kernel
theorem dX7_firstFault_11 : decode cX7_firstFault 11 = .ok (.aload_n 0, 1) := by decide +kernel
theorem dX7_firstFault_12 : decode cX7_firstFault 12 = .ok (.getfield 9, 3) := by decide +kernel
theorem dX7_firstFault_15 : decode cX7_firstFault 15 = .ok (.arraylength, 1) := by decide +kernel
theorem dX7_firstFault_16 : decode cX7_firstFault 16 = .ok (.if_icmp .ge 32, 3) := by decide +kernel
theorem dX7_firstFault_19 : decode cX7_firstFault 19 = .ok (.iload_n 1, 1) := by decide +kernel
theorem dX7_firstFault_20 : decode cX7_firstFault 20 = .ok (.bipush 60, 2) := by decide +kernel
theorem dX7_firstFault_22 : decode cX7_firstFault 22 = .ok (.if_icmp .eq 18, 3) := by decide +kernel
theorem dX7_firstFault_25 : decode cX7_firstFault 25 = .ok (.iload_n 1, 1) := by decide +kernel
theorem dX7_firstFault_26 : decode cX7_firstFault 26 = .ok (.iconst 5, 1) := by decide +kernel
theorem dX7_firstFault_27 : decode cX7_firstFault 27 = .ok (.irem, 1) := by decide +kernel
theorem dX7_firstFault_28 : decode cX7_firstFault 28 = .ok (.aload_n 0, 1) := by decide +kernel
theorem dX7_firstFault_29 : decode cX7_firstFault 29 = .ok (.getfield 9, 3) := by decide +kernel
theorem dX7_firstFault_32 : decode cX7_firstFault 32 = .ok (.iload_n 1, 1) := by decide +kernel
theorem dX7_firstFault_33 : decode cX7_firstFault 33 = .ok (.iaload, 1) := by decide +kernel
theorem dX7_firstFault_34 : decode cX7_firstFault 34 = .ok (.invokestatic 38, 3) := by decide +kernel
theorem dX7_firstFault_37 : decode cX7_firstFault 37 = .ok (.ifCond .ne 5, 3) := by decide +kernel
theorem dX7_firstFault_40 : decode cX7_firstFault 40 = .ok (.iload_n 1, 1) := by decide +kernel
theorem dX7_firstFault_41 : decode cX7_firstFault 41 = .ok (.ireturn, 1) := by decide +kernel
theorem dX7_firstFault_42 : decode cX7_firstFault 42 = .ok (.iinc 1 1, 3) := by decide +kernel
theorem dX7_firstFault_45 : decode cX7_firstFault 45 = .ok (.goto (-43), 3) := by decide +kernel
theorem dX7_firstFault_48 : decode cX7_firstFault 48 = .ok (.aload_n 0, 1) := by decide +kernel
theorem dX7_firstFault_49 : decode cX7_firstFault 49 = .ok (.getfield 25, 3) := by decide +kernel
theorem dX7_firstFault_52 : decode cX7_firstFault 52 = .ok (.ifCond .eq 13, 3) := by decide +kernel
theorem dX7_firstFault_55 : decode cX7_firstFault 55 = .ok (.aload_n 0, 1) := by decide +kernel
theorem dX7_firstFault_56 : decode cX7_firstFault 56 = .ok (.getfield 25, 3) := by decide +kernel
theorem dX7_firstFault_59 : decode cX7_firstFault 59 = .ok (.iconst 5, 1) := by decide +kernel
theorem dX7_firstFault_60 : decode cX7_firstFault 60 = .ok (.irem, 1) := by decide +kernel
theorem dX7_firstFault_61 : decode cX7_firstFault 61 = .ok (.iconst 4, 1) := by decide +kernel
theorem dX7_firstFault_62 : decode cX7_firstFault 62 = .ok (.if_icmp .ne 7, 3) := by decide +kernel
theorem dX7_firstFault_65 : decode cX7_firstFault 65 = .ok (.iconst 1, 1) := by decide +kernel
theorem dX7_firstFault_66 : decode cX7_firstFault 66 = .ok (.goto 4, 3) := by decide +kernel
theorem dX7_firstFault_69 : decode cX7_firstFault 69 = .ok (.iconst 0, 1) := by decide +kernel
theorem dX7_firstFault_70 : decode cX7_firstFault 70 = .ok (.istore_n 1, 1) := by decide +kernel
theorem dX7_firstFault_71 : decode cX7_firstFault 71 = .ok (.iload_n 1, 1) := by decide +kernel
theorem dX7_firstFault_72 : decode cX7_firstFault 72 = .ok (.ifCond .eq 7, 3) := by decide +kernel
theorem dX7_firstFault_75 : decode cX7_firstFault 75 = .ok (.iconst (-1), 1) := by decide +kernel
theorem dX7_firstFault_76 : decode cX7_firstFault 76 = .ok (.goto 7, 3) := by decide +kernel
theorem dX7_firstFault_79 : decode cX7_firstFault 79 = .ok (.aload_n 0, 1) := by decide +kernel
theorem dX7_firstFault_80 : decode cX7_firstFault 80 = .ok (.getfield 25, 3) := by decide +kernel
theorem dX7_firstFault_83 : decode cX7_firstFault 83 = .ok (.ireturn, 1) := by decide +kernel
theorem dX7_goesOn_0 : decode cX7_goesOn 0 = .ok (.iload_n 0, 1) := by decide +kernel
theorem dX7_goesOn_1 : decode cX7_goesOn 1 = .ok (.iconst 4, 1) := by decide +kernel
theorem dX7_goesOn_2 : decode cX7_goesOn 2 = .ok (.if_icmp .ne 15, 3) := by decide +kernel
theorem dX7_goesOn_5 : decode cX7_goesOn 5 = .ok (.iload_n 1, 1) := by decide +kernel
theorem dX7_goesOn_6 : decode cX7_goesOn 6 = .ok (.bipush 59, 2) := by decide +kernel
theorem dX7_goesOn_8 : decode cX7_goesOn 8 = .ok (.if_icmp .ne 7, 3) := by decide +kernel
theorem dX7_goesOn_11 : decode cX7_goesOn 11 = .ok (.iconst 1, 1) := by decide +kernel
theorem dX7_goesOn_12 : decode cX7_goesOn 12 = .ok (.goto 4, 3) := by decide +kernel
theorem dX7_goesOn_15 : decode cX7_goesOn 15 = .ok (.iconst 0, 1) := by decide +kernel
theorem dX7_goesOn_16 : decode cX7_goesOn 16 = .ok (.ireturn, 1) := by decide +kernel
theorem dX7_goesOn_17 : decode cX7_goesOn 17 = .ok (.iload_n 1, 1) := by decide +kernel
theorem dX7_goesOn_18 : decode cX7_goesOn 18 = .ok (.bipush 45, 2) := by decide +kernel
theorem dX7_goesOn_20 : decode cX7_goesOn 20 = .ok (.if_icmp .eq 14, 3) := by decide +kernel
theorem dX7_goesOn_23 : decode cX7_goesOn 23 = .ok (.iload_n 1, 1) := by decide +kernel
theorem dX7_goesOn_24 : decode cX7_goesOn 24 = .ok (.bipush 48, 2) := by decide +kernel
theorem dX7_goesOn_26 : decode cX7_goesOn 26 = .ok (.bipush 57, 2) := by decide +kernel
theorem dX7_goesOn_28 : decode cX7_goesOn 28 = .ok (.invokestatic 42, 3) := by decide +kernel
theorem dX7_goesOn_31 : decode cX7_goesOn 31 = .ok (.ifCond .eq 7, 3) := by decide +kernel
theorem dX7_goesOn_34 : decode cX7_goesOn 34 = .ok (.iconst 1, 1) := by decide +kernel
theorem dX7_goesOn_35 : decode cX7_goesOn 35 = .ok (.goto 4, 3) := by decide +kernel
theorem dX7_goesOn_38 : decode cX7_goesOn 38 = .ok (.iconst 0, 1) := by decide +kernel
theorem dX7_goesOn_39 : decode cX7_goesOn 39 = .ok (.ireturn, 1) := by decide +kernel
theorem dX7_has_0 : decode cX7_has 0 = .ok (.iload_n 1, 1) := by decide +kernel
theorem dX7_has_1 : decode cX7_has 1 = .ok (.iconst 0, 1) := by decide +kernel
theorem dX7_has_2 : decode cX7_has 2 = .ok (.aload_n 0, 1) := by decide +kernel
theorem dX7_has_3 : decode cX7_has 3 = .ok (.getfield 35, 3) := by decide +kernel
theorem dX7_has_6 : decode cX7_has 6 = .ok (.iconst 1, 1) := by decide +kernel
theorem dX7_has_7 : decode cX7_has 7 = .ok (.isub, 1) := by decide +kernel
theorem dX7_has_8 : decode cX7_has 8 = .ok (.invokestatic 42, 3) := by decide +kernel
theorem dX7_has_11 : decode cX7_has 11 = .ok (.ireturn, 1) := by decide +kernel
theorem dX7_placeAt_0 : decode cX7_placeAt 0 = .ok (.iload_n 1, 1) := by decide +kernel
theorem dX7_placeAt_1 : decode cX7_placeAt 1 = .ok (.ifCond .lt 20, 3) := by decide +kernel
theorem dX7_placeAt_4 : decode cX7_placeAt 4 = .ok (.iload_n 1, 1) := by decide +kernel
theorem dX7_placeAt_5 : decode cX7_placeAt 5 = .ok (.aload_n 0, 1) := by decide +kernel
theorem dX7_placeAt_6 : decode cX7_placeAt 6 = .ok (.getfield 35, 3) := by decide +kernel
theorem dX7_placeAt_9 : decode cX7_placeAt 9 = .ok (.if_icmp .ge 12, 3) := by decide +kernel
theorem dX7_placeAt_12 : decode cX7_placeAt 12 = .ok (.iload_n 2, 1) := by decide +kernel
theorem dX7_placeAt_13 : decode cX7_placeAt 13 = .ok (.ifCond .lt 8, 3) := by decide +kernel
theorem dX7_placeAt_16 : decode cX7_placeAt 16 = .ok (.iload_n 2, 1) := by decide +kernel
theorem dX7_placeAt_17 : decode cX7_placeAt 17 = .ok (.iconst 4, 1) := by decide +kernel
theorem dX7_placeAt_18 : decode cX7_placeAt 18 = .ok (.if_icmp .lt 5, 3) := by decide +kernel
theorem dX7_placeAt_21 : decode cX7_placeAt 21 = .ok (.iconst (-1), 1) := by decide +kernel
theorem dX7_placeAt_22 : decode cX7_placeAt 22 = .ok (.ireturn, 1) := by decide +kernel
theorem dX7_placeAt_23 : decode cX7_placeAt 23 = .ok (.iload_n 1, 1) := by decide +kernel
theorem dX7_placeAt_24 : decode cX7_placeAt 24 = .ok (.iconst 4, 1) := by decide +kernel
theorem dX7_placeAt_25 : decode cX7_placeAt 25 = .ok (.imul, 1) := by decide +kernel
theorem dX7_placeAt_26 : decode cX7_placeAt 26 = .ok (.iload_n 2, 1) := by decide +kernel
theorem dX7_placeAt_27 : decode cX7_placeAt 27 = .ok (.iadd, 1) := by decide +kernel
theorem dX7_placeAt_28 : decode cX7_placeAt 28 = .ok (.istore_n 3, 1) := by decide +kernel
theorem dX7_placeAt_29 : decode cX7_placeAt 29 = .ok (.iload_n 3, 1) := by decide +kernel
theorem dX7_placeAt_30 : decode cX7_placeAt 30 = .ok (.aload_n 0, 1) := by decide +kernel
theorem dX7_placeAt_31 : decode cX7_placeAt 31 = .ok (.getfield 15, 3) := by decide +kernel
theorem dX7_placeAt_34 : decode cX7_placeAt 34 = .ok (.arraylength, 1) := by decide +kernel
theorem dX7_placeAt_35 : decode cX7_placeAt 35 = .ok (.if_icmp .ge 12, 3) := by decide +kernel
theorem dX7_placeAt_38 : decode cX7_placeAt 38 = .ok (.aload_n 0, 1) := by decide +kernel
theorem dX7_placeAt_39 : decode cX7_placeAt 39 = .ok (.getfield 15, 3) := by decide +kernel
theorem dX7_placeAt_42 : decode cX7_placeAt 42 = .ok (.iload_n 3, 1) := by decide +kernel
theorem dX7_placeAt_43 : decode cX7_placeAt 43 = .ok (.iaload, 1) := by decide +kernel
theorem dX7_placeAt_44 : decode cX7_placeAt 44 = .ok (.goto 4, 3) := by decide +kernel
theorem dX7_placeAt_47 : decode cX7_placeAt 47 = .ok (.iconst (-1), 1) := by decide +kernel
theorem dX7_placeAt_48 : decode cX7_placeAt 48 = .ok (.ireturn, 1) := by decide +kernel
theorem dX7_stepBetween_0 : decode cX7_stepBetween 0 = .ok (.iconst 0, 1) := by decide +kernel
theorem dX7_stepBetween_1 : decode cX7_stepBetween 1 = .ok (.istore 4, 2) := by decide +kernel
theorem dX7_stepBetween_3 : decode cX7_stepBetween 3 = .ok (.iconst 0, 1) := by decide +kernel
theorem dX7_stepBetween_4 : decode cX7_stepBetween 4 = .ok (.istore 5, 2) := by decide +kernel
theorem dX7_stepBetween_6 : decode cX7_stepBetween 6 = .ok (.iload 5, 2) := by decide +kernel
theorem dX7_stepBetween_8 : decode cX7_stepBetween 8 = .ok (.iconst 4, 1) := by decide +kernel
theorem dX7_stepBetween_9 : decode cX7_stepBetween 9 = .ok (.if_icmp .ge 32, 3) := by decide +kernel
theorem dX7_stepBetween_12 : decode cX7_stepBetween 12 = .ok (.iload 4, 2) := by decide +kernel
theorem dX7_stepBetween_14 : decode cX7_stepBetween 14 = .ok (.aload_n 0, 1) := by decide +kernel
theorem dX7_stepBetween_15 : decode cX7_stepBetween 15 = .ok (.iload_n 1, 1) := by decide +kernel
theorem dX7_stepBetween_16 : decode cX7_stepBetween 16 = .ok (.iload 5, 2) := by decide +kernel
theorem dX7_stepBetween_18 : decode cX7_stepBetween 18 = .ok (.invokevirtual 46, 3) := by decide +kernel
theorem dX7_stepBetween_21 : decode cX7_stepBetween 21 = .ok (.aload_n 0, 1) := by decide +kernel
theorem dX7_stepBetween_22 : decode cX7_stepBetween 22 = .ok (.iload_n 2, 1) := by decide +kernel
theorem dX7_stepBetween_23 : decode cX7_stepBetween 23 = .ok (.iload 5, 2) := by decide +kernel
theorem dX7_stepBetween_25 : decode cX7_stepBetween 25 = .ok (.invokevirtual 46, 3) := by decide +kernel
theorem dX7_stepBetween_28 : decode cX7_stepBetween 28 = .ok (.iload_n 3, 1) := by decide +kernel
theorem dX7_stepBetween_29 : decode cX7_stepBetween 29 = .ok (.invokestatic 50, 3) := by decide +kernel
theorem dX7_stepBetween_32 : decode cX7_stepBetween 32 = .ok (.iadd, 1) := by decide +kernel
theorem dX7_stepBetween_33 : decode cX7_stepBetween 33 = .ok (.istore 4, 2) := by decide +kernel
theorem dX7_stepBetween_35 : decode cX7_stepBetween 35 = .ok (.iinc 5 1, 3) := by decide +kernel
theorem dX7_stepBetween_38 : decode cX7_stepBetween 38 = .ok (.goto (-32), 3) := by decide +kernel
theorem dX7_stepBetween_41 : decode cX7_stepBetween 41 = .ok (.iload 4, 2) := by decide +kernel
theorem dX7_stepBetween_43 : decode cX7_stepBetween 43 = .ok (.ireturn, 1) := by decide +kernel
theorem dX7_partStep_0 : decode cX7_partStep 0 = .ok (.iload_n 0, 1) := by decide +kernel
theorem dX7_partStep_1 : decode cX7_partStep 1 = .ok (.iconst (-1), 1) := by decide +kernel
theorem dX7_partStep_2 : decode cX7_partStep 2 = .ok (.if_icmp .eq 8, 3) := by decide +kernel
theorem dX7_partStep_5 : decode cX7_partStep 5 = .ok (.iload_n 1, 1) := by decide +kernel
theorem dX7_partStep_6 : decode cX7_partStep 6 = .ok (.iconst (-1), 1) := by decide +kernel
theorem dX7_partStep_7 : decode cX7_partStep 7 = .ok (.if_icmp .ne 14, 3) := by decide +kernel
theorem dX7_partStep_10 : decode cX7_partStep 10 = .ok (.iload_n 0, 1) := by decide +kernel
theorem dX7_partStep_11 : decode cX7_partStep 11 = .ok (.iload_n 1, 1) := by decide +kernel
theorem dX7_partStep_12 : decode cX7_partStep 12 = .ok (.if_icmp .ne 7, 3) := by decide +kernel
theorem dX7_partStep_15 : decode cX7_partStep 15 = .ok (.iconst 0, 1) := by decide +kernel
theorem dX7_partStep_16 : decode cX7_partStep 16 = .ok (.goto 4, 3) := by decide +kernel
theorem dX7_partStep_19 : decode cX7_partStep 19 = .ok (.iload_n 2, 1) := by decide +kernel
theorem dX7_partStep_20 : decode cX7_partStep 20 = .ok (.ireturn, 1) := by decide +kernel
theorem dX7_partStep_21 : decode cX7_partStep 21 = .ok (.iload_n 0, 1) := by decide +kernel
theorem dX7_partStep_22 : decode cX7_partStep 22 = .ok (.iload_n 1, 1) := by decide +kernel
theorem dX7_partStep_23 : decode cX7_partStep 23 = .ok (.isub, 1) := by decide +kernel
theorem dX7_partStep_24 : decode cX7_partStep 24 = .ok (.invokestatic 54, 3) := by decide +kernel
theorem dX7_partStep_27 : decode cX7_partStep 27 = .ok (.ireturn, 1) := by decide +kernel
theorem dX7_behind_0 : decode cX7_behind 0 = .ok (.iload_n 1, 1) := by decide +kernel
theorem dX7_behind_1 : decode cX7_behind 1 = .ok (.iconst 1, 1) := by decide +kernel
theorem dX7_behind_2 : decode cX7_behind 2 = .ok (.iadd, 1) := by decide +kernel
theorem dX7_behind_3 : decode cX7_behind 3 = .ok (.aload_n 0, 1) := by decide +kernel
theorem dX7_behind_4 : decode cX7_behind 4 = .ok (.getfield 35, 3) := by decide +kernel
theorem dX7_behind_7 : decode cX7_behind 7 = .ok (.if_icmp .ge 9, 3) := by decide +kernel
theorem dX7_behind_10 : decode cX7_behind 10 = .ok (.iload_n 1, 1) := by decide +kernel
theorem dX7_behind_11 : decode cX7_behind 11 = .ok (.iconst 1, 1) := by decide +kernel
theorem dX7_behind_12 : decode cX7_behind 12 = .ok (.iadd, 1) := by decide +kernel
theorem dX7_behind_13 : decode cX7_behind 13 = .ok (.goto 4, 3) := by decide +kernel
theorem dX7_behind_16 : decode cX7_behind 16 = .ok (.iconst 0, 1) := by decide +kernel
theorem dX7_behind_17 : decode cX7_behind 17 = .ok (.ireturn, 1) := by decide +kernel
theorem dX7_stepsRound_0 : decode cX7_stepsRound 0 = .ok (.iconst 0, 1) := by decide +kernel
theorem dX7_stepsRound_1 : decode cX7_stepsRound 1 = .ok (.istore_n 2, 1) := by decide +kernel
theorem dX7_stepsRound_2 : decode cX7_stepsRound 2 = .ok (.iconst 0, 1) := by decide +kernel
theorem dX7_stepsRound_3 : decode cX7_stepsRound 3 = .ok (.istore_n 3, 1) := by decide +kernel
theorem dX7_stepsRound_4 : decode cX7_stepsRound 4 = .ok (.iload_n 3, 1) := by decide +kernel
theorem dX7_stepsRound_5 : decode cX7_stepsRound 5 = .ok (.aload_n 0, 1) := by decide +kernel
theorem dX7_stepsRound_6 : decode cX7_stepsRound 6 = .ok (.getfield 35, 3) := by decide +kernel
theorem dX7_stepsRound_9 : decode cX7_stepsRound 9 = .ok (.if_icmp .ge 23, 3) := by decide +kernel
theorem dX7_stepsRound_12 : decode cX7_stepsRound 12 = .ok (.iload_n 2, 1) := by decide +kernel
theorem dX7_stepsRound_13 : decode cX7_stepsRound 13 = .ok (.aload_n 0, 1) := by decide +kernel
theorem dX7_stepsRound_14 : decode cX7_stepsRound 14 = .ok (.iload_n 3, 1) := by decide +kernel
theorem dX7_stepsRound_15 : decode cX7_stepsRound 15 = .ok (.aload_n 0, 1) := by decide +kernel
theorem dX7_stepsRound_16 : decode cX7_stepsRound 16 = .ok (.iload_n 3, 1) := by decide +kernel
theorem dX7_stepsRound_17 : decode cX7_stepsRound 17 = .ok (.invokevirtual 60, 3) := by decide +kernel
theorem dX7_stepsRound_20 : decode cX7_stepsRound 20 = .ok (.iload_n 1, 1) := by decide +kernel
theorem dX7_stepsRound_21 : decode cX7_stepsRound 21 = .ok (.invokevirtual 63, 3) := by decide +kernel
theorem dX7_stepsRound_24 : decode cX7_stepsRound 24 = .ok (.iadd, 1) := by decide +kernel
theorem dX7_stepsRound_25 : decode cX7_stepsRound 25 = .ok (.istore_n 2, 1) := by decide +kernel
theorem dX7_stepsRound_26 : decode cX7_stepsRound 26 = .ok (.iinc 3 1, 3) := by decide +kernel
theorem dX7_stepsRound_29 : decode cX7_stepsRound 29 = .ok (.goto (-25), 3) := by decide +kernel
theorem dX7_stepsRound_32 : decode cX7_stepsRound 32 = .ok (.iload_n 2, 1) := by decide +kernel
theorem dX7_stepsRound_33 : decode cX7_stepsRound 33 = .ok (.ireturn, 1) := by decide +kernel
theorem dX7_halfAt_0 : decode cX7_halfAt 0 = .ok (.aload_n 0, 1) := by decide +kernel
theorem dX7_halfAt_1 : decode cX7_halfAt 1 = .ok (.iload_n 1, 1) := by decide +kernel
theorem dX7_halfAt_2 : decode cX7_halfAt 2 = .ok (.iload_n 2, 1) := by decide +kernel
theorem dX7_halfAt_3 : decode cX7_halfAt 3 = .ok (.invokevirtual 46, 3) := by decide +kernel
theorem dX7_halfAt_6 : decode cX7_halfAt 6 = .ok (.istore_n 3, 1) := by decide +kernel
theorem dX7_halfAt_7 : decode cX7_halfAt 7 = .ok (.aload_n 0, 1) := by decide +kernel
theorem dX7_halfAt_8 : decode cX7_halfAt 8 = .ok (.aload_n 0, 1) := by decide +kernel
theorem dX7_halfAt_9 : decode cX7_halfAt 9 = .ok (.iload_n 1, 1) := by decide +kernel
theorem dX7_halfAt_10 : decode cX7_halfAt 10 = .ok (.invokevirtual 60, 3) := by decide +kernel
theorem dX7_halfAt_13 : decode cX7_halfAt 13 = .ok (.iload_n 2, 1) := by decide +kernel
theorem dX7_halfAt_14 : decode cX7_halfAt 14 = .ok (.invokevirtual 46, 3) := by decide +kernel
theorem dX7_halfAt_17 : decode cX7_halfAt 17 = .ok (.istore 4, 2) := by decide +kernel
theorem dX7_halfAt_19 : decode cX7_halfAt 19 = .ok (.iload_n 3, 1) := by decide +kernel
theorem dX7_halfAt_20 : decode cX7_halfAt 20 = .ok (.iconst (-1), 1) := by decide +kernel
theorem dX7_halfAt_21 : decode cX7_halfAt 21 = .ok (.if_icmp .ne 6, 3) := by decide +kernel
theorem dX7_halfAt_24 : decode cX7_halfAt 24 = .ok (.iload 4, 2) := by decide +kernel
theorem dX7_halfAt_26 : decode cX7_halfAt 26 = .ok (.ireturn, 1) := by decide +kernel
theorem dX7_halfAt_27 : decode cX7_halfAt 27 = .ok (.iload 4, 2) := by decide +kernel
theorem dX7_halfAt_29 : decode cX7_halfAt 29 = .ok (.iconst (-1), 1) := by decide +kernel
theorem dX7_halfAt_30 : decode cX7_halfAt 30 = .ok (.if_icmp .ne 7, 3) := by decide +kernel
theorem dX7_halfAt_33 : decode cX7_halfAt 33 = .ok (.iload_n 3, 1) := by decide +kernel
theorem dX7_halfAt_34 : decode cX7_halfAt 34 = .ok (.goto 9, 3) := by decide +kernel
theorem dX7_halfAt_37 : decode cX7_halfAt 37 = .ok (.iload_n 3, 1) := by decide +kernel
theorem dX7_halfAt_38 : decode cX7_halfAt 38 = .ok (.iload 4, 2) := by decide +kernel
theorem dX7_halfAt_40 : decode cX7_halfAt 40 = .ok (.iadd, 1) := by decide +kernel
theorem dX7_halfAt_41 : decode cX7_halfAt 41 = .ok (.iconst 2, 1) := by decide +kernel
theorem dX7_halfAt_42 : decode cX7_halfAt 42 = .ok (.idiv, 1) := by decide +kernel
theorem dX7_halfAt_43 : decode cX7_halfAt 43 = .ok (.ireturn, 1) := by decide +kernel
theorem dX7_lowering_0 : decode cX7_lowering 0 = .ok (.aload_n 0, 1) := by decide +kernel
theorem dX7_lowering_1 : decode cX7_lowering 1 = .ok (.iload_n 1, 1) := by decide +kernel
theorem dX7_lowering_2 : decode cX7_lowering 2 = .ok (.invokevirtual 60, 3) := by decide +kernel
theorem dX7_lowering_5 : decode cX7_lowering 5 = .ok (.istore_n 3, 1) := by decide +kernel
theorem dX7_lowering_6 : decode cX7_lowering 6 = .ok (.aload_n 0, 1) := by decide +kernel
theorem dX7_lowering_7 : decode cX7_lowering 7 = .ok (.iload_n 1, 1) := by decide +kernel
theorem dX7_lowering_8 : decode cX7_lowering 8 = .ok (.iload_n 3, 1) := by decide +kernel
theorem dX7_lowering_9 : decode cX7_lowering 9 = .ok (.iload_n 2, 1) := by decide +kernel
theorem dX7_lowering_10 : decode cX7_lowering 10 = .ok (.invokevirtual 63, 3) := by decide +kernel
theorem dX7_lowering_13 : decode cX7_lowering 13 = .ok (.istore 4, 2) := by decide +kernel
theorem dX7_lowering_15 : decode cX7_lowering 15 = .ok (.iconst 0, 1) := by decide +kernel
theorem dX7_lowering_16 : decode cX7_lowering 16 = .ok (.istore 5, 2) := by decide +kernel
theorem dX7_lowering_18 : decode cX7_lowering 18 = .ok (.iconst 0, 1) := by decide +kernel
theorem dX7_lowering_19 : decode cX7_lowering 19 = .ok (.istore 6, 2) := by decide +kernel
theorem dX7_lowering_21 : decode cX7_lowering 21 = .ok (.iconst 0, 1) := by decide +kernel
theorem dX7_lowering_22 : decode cX7_lowering 22 = .ok (.istore 7, 2) := by decide +kernel
theorem dX7_lowering_24 : decode cX7_lowering 24 = .ok (.iload 7, 2) := by decide +kernel
theorem dX7_lowering_26 : decode cX7_lowering 26 = .ok (.iconst 4, 1) := by decide +kernel
theorem dX7_lowering_27 : decode cX7_lowering 27 = .ok (.if_icmp .ge 54, 3) := by decide +kernel
theorem dX7_lowering_30 : decode cX7_lowering 30 = .ok (.aload_n 0, 1) := by decide +kernel
theorem dX7_lowering_31 : decode cX7_lowering 31 = .ok (.iload_n 1, 1) := by decide +kernel
theorem dX7_lowering_32 : decode cX7_lowering 32 = .ok (.iload 7, 2) := by decide +kernel
theorem dX7_lowering_34 : decode cX7_lowering 34 = .ok (.invokevirtual 66, 3) := by decide +kernel
theorem dX7_lowering_37 : decode cX7_lowering 37 = .ok (.istore 8, 2) := by decide +kernel
theorem dX7_lowering_39 : decode cX7_lowering 39 = .ok (.iload 5, 2) := by decide +kernel
theorem dX7_lowering_41 : decode cX7_lowering 41 = .ok (.aload_n 0, 1) := by decide +kernel
theorem dX7_lowering_42 : decode cX7_lowering 42 = .ok (.iload_n 1, 1) := by decide +kernel
theorem dX7_lowering_43 : decode cX7_lowering 43 = .ok (.iload 7, 2) := by decide +kernel
theorem dX7_lowering_45 : decode cX7_lowering 45 = .ok (.invokevirtual 46, 3) := by decide +kernel
theorem dX7_lowering_48 : decode cX7_lowering 48 = .ok (.iload 8, 2) := by decide +kernel
theorem dX7_lowering_50 : decode cX7_lowering 50 = .ok (.iload_n 2, 1) := by decide +kernel
theorem dX7_lowering_51 : decode cX7_lowering 51 = .ok (.invokestatic 50, 3) := by decide +kernel
theorem dX7_lowering_54 : decode cX7_lowering 54 = .ok (.iadd, 1) := by decide +kernel
theorem dX7_lowering_55 : decode cX7_lowering 55 = .ok (.istore 5, 2) := by decide +kernel
theorem dX7_lowering_57 : decode cX7_lowering 57 = .ok (.iload 6, 2) := by decide +kernel
theorem dX7_lowering_59 : decode cX7_lowering 59 = .ok (.iload 8, 2) := by decide +kernel
theorem dX7_lowering_61 : decode cX7_lowering 61 = .ok (.aload_n 0, 1) := by decide +kernel
theorem dX7_lowering_62 : decode cX7_lowering 62 = .ok (.iload_n 3, 1) := by decide +kernel
theorem dX7_lowering_63 : decode cX7_lowering 63 = .ok (.iload 7, 2) := by decide +kernel
theorem dX7_lowering_65 : decode cX7_lowering 65 = .ok (.invokevirtual 46, 3) := by decide +kernel
theorem dX7_lowering_68 : decode cX7_lowering 68 = .ok (.iload_n 2, 1) := by decide +kernel
theorem dX7_lowering_69 : decode cX7_lowering 69 = .ok (.invokestatic 50, 3) := by decide +kernel
theorem dX7_lowering_72 : decode cX7_lowering 72 = .ok (.iadd, 1) := by decide +kernel
theorem dX7_lowering_73 : decode cX7_lowering 73 = .ok (.istore 6, 2) := by decide +kernel
theorem dX7_lowering_75 : decode cX7_lowering 75 = .ok (.iinc 7 1, 3) := by decide +kernel
theorem dX7_lowering_78 : decode cX7_lowering 78 = .ok (.goto (-54), 3) := by decide +kernel
theorem dX7_lowering_81 : decode cX7_lowering 81 = .ok (.iload 4, 2) := by decide +kernel
theorem dX7_lowering_83 : decode cX7_lowering 83 = .ok (.iload 4, 2) := by decide +kernel
theorem dX7_lowering_85 : decode cX7_lowering 85 = .ok (.imul, 1) := by decide +kernel
theorem dX7_lowering_86 : decode cX7_lowering 86 = .ok (.iload 5, 2) := by decide +kernel
theorem dX7_lowering_88 : decode cX7_lowering 88 = .ok (.iload 5, 2) := by decide +kernel
theorem dX7_lowering_90 : decode cX7_lowering 90 = .ok (.imul, 1) := by decide +kernel
theorem dX7_lowering_91 : decode cX7_lowering 91 = .ok (.isub, 1) := by decide +kernel
theorem dX7_lowering_92 : decode cX7_lowering 92 = .ok (.iload 6, 2) := by decide +kernel
theorem dX7_lowering_94 : decode cX7_lowering 94 = .ok (.iload 6, 2) := by decide +kernel
theorem dX7_lowering_96 : decode cX7_lowering 96 = .ok (.imul, 1) := by decide +kernel
theorem dX7_lowering_97 : decode cX7_lowering 97 = .ok (.isub, 1) := by decide +kernel
theorem dX7_lowering_98 : decode cX7_lowering 98 = .ok (.ireturn, 1) := by decide +kernel
theorem dX7_missingBehind_0 : decode cX7_missingBehind 0 = .ok (.iconst (-1), 1) := by decide +kernel
theorem dX7_missingBehind_1 : decode cX7_missingBehind 1 = .ok (.istore_n 2, 1) := by decide +kernel
theorem dX7_missingBehind_2 : decode cX7_missingBehind 2 = .ok (.iconst 0, 1) := by decide +kernel
theorem dX7_missingBehind_3 : decode cX7_missingBehind 3 = .ok (.istore_n 3, 1) := by decide +kernel
theorem dX7_missingBehind_4 : decode cX7_missingBehind 4 = .ok (.iconst 0, 1) := by decide +kernel
theorem dX7_missingBehind_5 : decode cX7_missingBehind 5 = .ok (.istore 4, 2) := by decide +kernel
theorem dX7_missingBehind_7 : decode cX7_missingBehind 7 = .ok (.iload 4, 2) := by decide +kernel
theorem dX7_missingBehind_9 : decode cX7_missingBehind 9 = .ok (.aload_n 0, 1) := by decide +kernel
theorem dX7_missingBehind_10 : decode cX7_missingBehind 10 = .ok (.getfield 35, 3) := by decide +kernel
theorem dX7_missingBehind_13 : decode cX7_missingBehind 13 = .ok (.if_icmp .ge 30, 3) := by decide +kernel
theorem dX7_missingBehind_16 : decode cX7_missingBehind 16 = .ok (.aload_n 0, 1) := by decide +kernel
theorem dX7_missingBehind_17 : decode cX7_missingBehind 17 = .ok (.iload 4, 2) := by decide +kernel
theorem dX7_missingBehind_19 : decode cX7_missingBehind 19 = .ok (.iload_n 1, 1) := by decide +kernel
theorem dX7_missingBehind_20 : decode cX7_missingBehind 20 = .ok (.invokevirtual 69, 3) := by decide +kernel
theorem dX7_missingBehind_23 : decode cX7_missingBehind 23 = .ok (.istore 5, 2) := by decide +kernel
theorem dX7_missingBehind_25 : decode cX7_missingBehind 25 = .ok (.iload 5, 2) := by decide +kernel
theorem dX7_missingBehind_27 : decode cX7_missingBehind 27 = .ok (.iload_n 3, 1) := by decide +kernel
theorem dX7_missingBehind_28 : decode cX7_missingBehind 28 = .ok (.if_icmp .le 9, 3) := by decide +kernel
theorem dX7_missingBehind_31 : decode cX7_missingBehind 31 = .ok (.iload 5, 2) := by decide +kernel
theorem dX7_missingBehind_33 : decode cX7_missingBehind 33 = .ok (.istore_n 3, 1) := by decide +kernel
theorem dX7_missingBehind_34 : decode cX7_missingBehind 34 = .ok (.iload 4, 2) := by decide +kernel
theorem dX7_missingBehind_36 : decode cX7_missingBehind 36 = .ok (.istore_n 2, 1) := by decide +kernel
theorem dX7_missingBehind_37 : decode cX7_missingBehind 37 = .ok (.iinc 4 1, 3) := by decide +kernel
theorem dX7_missingBehind_40 : decode cX7_missingBehind 40 = .ok (.goto (-33), 3) := by decide +kernel
theorem dX7_missingBehind_43 : decode cX7_missingBehind 43 = .ok (.iload_n 2, 1) := by decide +kernel
theorem dX7_missingBehind_44 : decode cX7_missingBehind 44 = .ok (.ireturn, 1) := by decide +kernel
theorem dX7_fewest_0 : decode cX7_fewest 0 = .ok (.aload_n 0, 1) := by decide +kernel
theorem dX7_fewest_1 : decode cX7_fewest 1 = .ok (.iload_n 1, 1) := by decide +kernel
theorem dX7_fewest_2 : decode cX7_fewest 2 = .ok (.iload_n 2, 1) := by decide +kernel
theorem dX7_fewest_3 : decode cX7_fewest 3 = .ok (.invokevirtual 72, 3) := by decide +kernel
theorem dX7_fewest_6 : decode cX7_fewest 6 = .ok (.iconst 1, 1) := by decide +kernel
theorem dX7_fewest_7 : decode cX7_fewest 7 = .ok (.aload_n 0, 1) := by decide +kernel
theorem dX7_fewest_8 : decode cX7_fewest 8 = .ok (.getfield 35, 3) := by decide +kernel
theorem dX7_fewest_11 : decode cX7_fewest 11 = .ok (.ishl, 1) := by decide +kernel
theorem dX7_fewest_12 : decode cX7_fewest 12 = .ok (.iconst 1, 1) := by decide +kernel
theorem dX7_fewest_13 : decode cX7_fewest 13 = .ok (.isub, 1) := by decide +kernel
theorem dX7_fewest_14 : decode cX7_fewest 14 = .ok (.istore_n 3, 1) := by decide +kernel
theorem dX7_fewest_15 : decode cX7_fewest 15 = .ok (.iload_n 3, 1) := by decide +kernel
theorem dX7_fewest_16 : decode cX7_fewest 16 = .ok (.istore 4, 2) := by decide +kernel
theorem dX7_fewest_18 : decode cX7_fewest 18 = .ok (.iconst 1, 1) := by decide +kernel
theorem dX7_fewest_19 : decode cX7_fewest 19 = .ok (.istore 5, 2) := by decide +kernel
theorem dX7_fewest_21 : decode cX7_fewest 21 = .ok (.iload 5, 2) := by decide +kernel
theorem dX7_fewest_23 : decode cX7_fewest 23 = .ok (.iload_n 3, 1) := by decide +kernel
theorem dX7_fewest_24 : decode cX7_fewest 24 = .ok (.if_icmp .ge 35, 3) := by decide +kernel
theorem dX7_fewest_27 : decode cX7_fewest 27 = .ok (.iload 5, 2) := by decide +kernel
theorem dX7_fewest_29 : decode cX7_fewest 29 = .ok (.invokestatic 76, 3) := by decide +kernel
theorem dX7_fewest_32 : decode cX7_fewest 32 = .ok (.iload 4, 2) := by decide +kernel
theorem dX7_fewest_34 : decode cX7_fewest 34 = .ok (.invokestatic 76, 3) := by decide +kernel
theorem dX7_fewest_37 : decode cX7_fewest 37 = .ok (.if_icmp .ge 16, 3) := by decide +kernel
theorem dX7_fewest_40 : decode cX7_fewest 40 = .ok (.aload_n 0, 1) := by decide +kernel
theorem dX7_fewest_41 : decode cX7_fewest 41 = .ok (.iload 5, 2) := by decide +kernel
theorem dX7_fewest_43 : decode cX7_fewest 43 = .ok (.invokevirtual 81, 3) := by decide +kernel
theorem dX7_fewest_46 : decode cX7_fewest 46 = .ok (.ifCond .eq 7, 3) := by decide +kernel
theorem dX7_fewest_49 : decode cX7_fewest 49 = .ok (.iload 5, 2) := by decide +kernel
theorem dX7_fewest_51 : decode cX7_fewest 51 = .ok (.istore 4, 2) := by decide +kernel
theorem dX7_fewest_53 : decode cX7_fewest 53 = .ok (.iinc 5 1, 3) := by decide +kernel
theorem dX7_fewest_56 : decode cX7_fewest 56 = .ok (.goto (-35), 3) := by decide +kernel
theorem dX7_fewest_59 : decode cX7_fewest 59 = .ok (.iload 4, 2) := by decide +kernel
theorem dX7_fewest_61 : decode cX7_fewest 61 = .ok (.ireturn, 1) := by decide +kernel
theorem dX7_findNear_0 : decode cX7_findNear 0 = .ok (.iconst 0, 1) := by decide +kernel
theorem dX7_findNear_1 : decode cX7_findNear 1 = .ok (.istore_n 3, 1) := by decide +kernel
theorem dX7_findNear_2 : decode cX7_findNear 2 = .ok (.iload_n 3, 1) := by decide +kernel
theorem dX7_findNear_3 : decode cX7_findNear 3 = .ok (.aload_n 0, 1) := by decide +kernel
theorem dX7_findNear_4 : decode cX7_findNear 4 = .ok (.getfield 35, 3) := by decide +kernel
theorem dX7_findNear_7 : decode cX7_findNear 7 = .ok (.if_icmp .ge 68, 3) := by decide +kernel
theorem dX7_findNear_10 : decode cX7_findNear 10 = .ok (.iload_n 3, 1) := by decide +kernel
theorem dX7_findNear_11 : decode cX7_findNear 11 = .ok (.aload_n 0, 1) := by decide +kernel
theorem dX7_findNear_12 : decode cX7_findNear 12 = .ok (.getfield 18, 3) := by decide +kernel
theorem dX7_findNear_15 : decode cX7_findNear 15 = .ok (.arraylength, 1) := by decide +kernel
theorem dX7_findNear_16 : decode cX7_findNear 16 = .ok (.if_icmp .ge 59, 3) := by decide +kernel
theorem dX7_findNear_19 : decode cX7_findNear 19 = .ok (.aload_n 0, 1) := by decide +kernel
theorem dX7_findNear_20 : decode cX7_findNear 20 = .ok (.getfield 18, 3) := by decide +kernel
theorem dX7_findNear_23 : decode cX7_findNear 23 = .ok (.iload_n 3, 1) := by decide +kernel
theorem dX7_findNear_24 : decode cX7_findNear 24 = .ok (.iconst 0, 1) := by decide +kernel
theorem dX7_findNear_25 : decode cX7_findNear 25 = .ok (.iastore, 1) := by decide +kernel
theorem dX7_findNear_26 : decode cX7_findNear 26 = .ok (.iconst 0, 1) := by decide +kernel
theorem dX7_findNear_27 : decode cX7_findNear 27 = .ok (.istore 4, 2) := by decide +kernel
theorem dX7_findNear_29 : decode cX7_findNear 29 = .ok (.iload 4, 2) := by decide +kernel
theorem dX7_findNear_31 : decode cX7_findNear 31 = .ok (.aload_n 0, 1) := by decide +kernel
theorem dX7_findNear_32 : decode cX7_findNear 32 = .ok (.getfield 35, 3) := by decide +kernel
theorem dX7_findNear_35 : decode cX7_findNear 35 = .ok (.if_icmp .ge 34, 3) := by decide +kernel
theorem dX7_findNear_38 : decode cX7_findNear 38 = .ok (.aload_n 0, 1) := by decide +kernel
theorem dX7_findNear_39 : decode cX7_findNear 39 = .ok (.iload_n 3, 1) := by decide +kernel
theorem dX7_findNear_40 : decode cX7_findNear 40 = .ok (.iload 4, 2) := by decide +kernel
theorem dX7_findNear_42 : decode cX7_findNear 42 = .ok (.iload_n 2, 1) := by decide +kernel
theorem dX7_findNear_43 : decode cX7_findNear 43 = .ok (.invokevirtual 63, 3) := by decide +kernel
theorem dX7_findNear_46 : decode cX7_findNear 46 = .ok (.iload_n 1, 1) := by decide +kernel
theorem dX7_findNear_47 : decode cX7_findNear 47 = .ok (.if_icmp .gt 16, 3) := by decide +kernel
theorem dX7_findNear_50 : decode cX7_findNear 50 = .ok (.aload_n 0, 1) := by decide +kernel
theorem dX7_findNear_51 : decode cX7_findNear 51 = .ok (.getfield 18, 3) := by decide +kernel
theorem dX7_findNear_54 : decode cX7_findNear 54 = .ok (.iload_n 3, 1) := by decide +kernel
theorem dX7_findNear_55 : decode cX7_findNear 55 = .ok (.dup2, 1) := by decide +kernel
theorem dX7_findNear_56 : decode cX7_findNear 56 = .ok (.iaload, 1) := by decide +kernel
theorem dX7_findNear_57 : decode cX7_findNear 57 = .ok (.iconst 1, 1) := by decide +kernel
theorem dX7_findNear_58 : decode cX7_findNear 58 = .ok (.iload 4, 2) := by decide +kernel
theorem dX7_findNear_60 : decode cX7_findNear 60 = .ok (.ishl, 1) := by decide +kernel
theorem dX7_findNear_61 : decode cX7_findNear 61 = .ok (.ior, 1) := by decide +kernel
theorem dX7_findNear_62 : decode cX7_findNear 62 = .ok (.iastore, 1) := by decide +kernel
theorem dX7_findNear_63 : decode cX7_findNear 63 = .ok (.iinc 4 1, 3) := by decide +kernel
theorem dX7_findNear_66 : decode cX7_findNear 66 = .ok (.goto (-37), 3) := by decide +kernel
theorem dX7_findNear_69 : decode cX7_findNear 69 = .ok (.iinc 3 1, 3) := by decide +kernel
theorem dX7_findNear_72 : decode cX7_findNear 72 = .ok (.goto (-70), 3) := by decide +kernel
theorem dX7_findNear_75 : decode cX7_findNear 75 = .ok (.return_, 1) := by decide +kernel
theorem dX7_reaches_0 : decode cX7_reaches 0 = .ok (.iconst 0, 1) := by decide +kernel
theorem dX7_reaches_1 : decode cX7_reaches 1 = .ok (.istore_n 2, 1) := by decide +kernel
theorem dX7_reaches_2 : decode cX7_reaches 2 = .ok (.iload_n 2, 1) := by decide +kernel
theorem dX7_reaches_3 : decode cX7_reaches 3 = .ok (.aload_n 0, 1) := by decide +kernel
theorem dX7_reaches_4 : decode cX7_reaches 4 = .ok (.getfield 35, 3) := by decide +kernel
theorem dX7_reaches_7 : decode cX7_reaches 7 = .ok (.if_icmp .ge 31, 3) := by decide +kernel
theorem dX7_reaches_10 : decode cX7_reaches 10 = .ok (.iload_n 2, 1) := by decide +kernel
theorem dX7_reaches_11 : decode cX7_reaches 11 = .ok (.aload_n 0, 1) := by decide +kernel
theorem dX7_reaches_12 : decode cX7_reaches 12 = .ok (.getfield 18, 3) := by decide +kernel
theorem dX7_reaches_15 : decode cX7_reaches 15 = .ok (.arraylength, 1) := by decide +kernel
theorem dX7_reaches_16 : decode cX7_reaches 16 = .ok (.if_icmp .ge 22, 3) := by decide +kernel
theorem dX7_reaches_19 : decode cX7_reaches 19 = .ok (.aload_n 0, 1) := by decide +kernel
theorem dX7_reaches_20 : decode cX7_reaches 20 = .ok (.getfield 18, 3) := by decide +kernel
theorem dX7_reaches_23 : decode cX7_reaches 23 = .ok (.iload_n 2, 1) := by decide +kernel
theorem dX7_reaches_24 : decode cX7_reaches 24 = .ok (.iaload, 1) := by decide +kernel
theorem dX7_reaches_25 : decode cX7_reaches 25 = .ok (.iload_n 1, 1) := by decide +kernel
theorem dX7_reaches_26 : decode cX7_reaches 26 = .ok (.iand, 1) := by decide +kernel
theorem dX7_reaches_27 : decode cX7_reaches 27 = .ok (.ifCond .ne 5, 3) := by decide +kernel
theorem dX7_reaches_30 : decode cX7_reaches 30 = .ok (.iconst 0, 1) := by decide +kernel
theorem dX7_reaches_31 : decode cX7_reaches 31 = .ok (.ireturn, 1) := by decide +kernel
theorem dX7_reaches_32 : decode cX7_reaches 32 = .ok (.iinc 2 1, 3) := by decide +kernel
theorem dX7_reaches_35 : decode cX7_reaches 35 = .ok (.goto (-33), 3) := by decide +kernel
theorem dX7_reaches_38 : decode cX7_reaches 38 = .ok (.iconst 1, 1) := by decide +kernel
theorem dX7_reaches_39 : decode cX7_reaches 39 = .ok (.ireturn, 1) := by decide +kernel
theorem dX8_init_0 : decode cX8_init 0 = .ok (.aload_n 0, 1) := by decide +kernel
theorem dX8_init_1 : decode cX8_init 1 = .ok (.invokespecial 3, 3) := by decide +kernel
theorem dX8_init_4 : decode cX8_init 4 = .ok (.aload_n 0, 1) := by decide +kernel
theorem dX8_init_5 : decode cX8_init 5 = .ok (.bipush 40, 2) := by decide +kernel
theorem dX8_init_7 : decode cX8_init 7 = .ok (.newarray .int, 2) := by decide +kernel
theorem dX8_init_9 : decode cX8_init 9 = .ok (.putfield 9, 3) := by decide +kernel
theorem dX8_init_12 : decode cX8_init 12 = .ok (.aload_n 0, 1) := by decide +kernel
theorem dX8_init_13 : decode cX8_init 13 = .ok (.bipush 40, 2) := by decide +kernel
theorem dX8_init_15 : decode cX8_init 15 = .ok (.newarray .int, 2) := by decide +kernel
theorem dX8_init_17 : decode cX8_init 17 = .ok (.putfield 15, 3) := by decide +kernel
theorem dX8_init_20 : decode cX8_init 20 = .ok (.aload_n 0, 1) := by decide +kernel
theorem dX8_init_21 : decode cX8_init 21 = .ok (.bipush 40, 2) := by decide +kernel
theorem dX8_init_23 : decode cX8_init 23 = .ok (.newarray .int, 2) := by decide +kernel
theorem dX8_init_25 : decode cX8_init 25 = .ok (.putfield 18, 3) := by decide +kernel
theorem dX8_init_28 : decode cX8_init 28 = .ok (.return_, 1) := by decide +kernel
theorem dX8_add_0 : decode cX8_add 0 = .ok (.aload_n 0, 1) := by decide +kernel
theorem dX8_add_1 : decode cX8_add 1 = .ok (.getfield 21, 3) := by decide +kernel
theorem dX8_add_4 : decode cX8_add 4 = .ok (.ifCond .lt 12, 3) := by decide +kernel
theorem dX8_add_7 : decode cX8_add 7 = .ok (.aload_n 0, 1) := by decide +kernel
theorem dX8_add_8 : decode cX8_add 8 = .ok (.getfield 21, 3) := by decide +kernel
theorem dX8_add_11 : decode cX8_add 11 = .ok (.bipush 40, 2) := by decide +kernel
theorem dX8_add_13 : decode cX8_add 13 = .ok (.if_icmp .lt 6, 3) := by decide +kernel
theorem dX8_add_16 : decode cX8_add 16 = .ok (.bipush (-4), 2) := by decide +kernel
theorem dX8_add_18 : decode cX8_add 18 = .ok (.ireturn, 1) := by decide +kernel
theorem dX8_add_19 : decode cX8_add 19 = .ok (.aload_n 0, 1) := by decide +kernel
theorem dX8_add_20 : decode cX8_add 20 = .ok (.getfield 9, 3) := by decide +kernel
theorem dX8_add_23 : decode cX8_add 23 = .ok (.aload_n 0, 1) := by decide +kernel
theorem dX8_add_24 : decode cX8_add 24 = .ok (.getfield 21, 3) := by decide +kernel
theorem dX8_add_27 : decode cX8_add 27 = .ok (.iload_n 1, 1) := by decide +kernel
theorem dX8_add_28 : decode cX8_add 28 = .ok (.iastore, 1) := by decide +kernel
theorem dX8_add_29 : decode cX8_add 29 = .ok (.aload_n 0, 1) := by decide +kernel
theorem dX8_add_30 : decode cX8_add 30 = .ok (.getfield 15, 3) := by decide +kernel
theorem dX8_add_33 : decode cX8_add 33 = .ok (.aload_n 0, 1) := by decide +kernel
theorem dX8_add_34 : decode cX8_add 34 = .ok (.getfield 21, 3) := by decide +kernel
theorem dX8_add_37 : decode cX8_add 37 = .ok (.iload_n 2, 1) := by decide +kernel
theorem dX8_add_38 : decode cX8_add 38 = .ok (.iastore, 1) := by decide +kernel
theorem dX8_add_39 : decode cX8_add 39 = .ok (.aload_n 0, 1) := by decide +kernel
theorem dX8_add_40 : decode cX8_add 40 = .ok (.getfield 18, 3) := by decide +kernel
theorem dX8_add_43 : decode cX8_add 43 = .ok (.aload_n 0, 1) := by decide +kernel
theorem dX8_add_44 : decode cX8_add 44 = .ok (.getfield 21, 3) := by decide +kernel
theorem dX8_add_47 : decode cX8_add 47 = .ok (.iload_n 3, 1) := by decide +kernel
theorem dX8_add_48 : decode cX8_add 48 = .ok (.iastore, 1) := by decide +kernel
theorem dX8_add_49 : decode cX8_add 49 = .ok (.aload_n 0, 1) := by decide +kernel
theorem dX8_add_50 : decode cX8_add 50 = .ok (.dup, 1) := by decide +kernel
theorem dX8_add_51 : decode cX8_add 51 = .ok (.getfield 21, 3) := by decide +kernel
theorem dX8_add_54 : decode cX8_add 54 = .ok (.iconst 1, 1) := by decide +kernel
theorem dX8_add_55 : decode cX8_add 55 = .ok (.iadd, 1) := by decide +kernel
theorem dX8_add_56 : decode cX8_add 56 = .ok (.putfield 21, 3) := by decide +kernel
theorem dX8_add_59 : decode cX8_add 59 = .ok (.aload_n 0, 1) := by decide +kernel
theorem dX8_add_60 : decode cX8_add 60 = .ok (.getfield 21, 3) := by decide +kernel
theorem dX8_add_63 : decode cX8_add 63 = .ok (.ireturn, 1) := by decide +kernel
theorem dX8_toldOtherwise_0 : decode cX8_toldOtherwise 0 = .ok (.iconst 0, 1) := by decide +kernel
theorem dX8_toldOtherwise_1 : decode cX8_toldOtherwise 1 = .ok (.istore_n 3, 1) := by decide +kernel
theorem dX8_toldOtherwise_2 : decode cX8_toldOtherwise 2 = .ok (.iconst 0, 1) := by decide +kernel
theorem dX8_toldOtherwise_3 : decode cX8_toldOtherwise 3 = .ok (.istore 4, 2) := by decide +kernel
theorem dX8_toldOtherwise_5 : decode cX8_toldOtherwise 5 = .ok (.iload 4, 2) := by decide +kernel
theorem dX8_toldOtherwise_7 : decode cX8_toldOtherwise 7 = .ok (.aload_n 0, 1) := by decide +kernel
theorem dX8_toldOtherwise_8 : decode cX8_toldOtherwise 8 = .ok (.getfield 21, 3) := by decide +kernel
theorem dX8_toldOtherwise_11 : decode cX8_toldOtherwise 11 = .ok (.if_icmp .ge 59, 3) := by decide +kernel
theorem dX8_toldOtherwise_14 : decode cX8_toldOtherwise 14 = .ok (.iload 4, 2) := by decide +kernel
theorem dX8_toldOtherwise_16 : decode cX8_toldOtherwise 16 = .ok (.bipush 40, 2) := by decide +kernel
theorem dX8_toldOtherwise_18 : decode cX8_toldOtherwise 18 = .ok (.if_icmp .ge 52, 3) := by decide +kernel
theorem dX8_toldOtherwise_21 : decode cX8_toldOtherwise 21 = .ok (.aload_n 0, 1) := by decide +kernel
theorem dX8_toldOtherwise_22 : decode cX8_toldOtherwise 22 = .ok (.getfield 9, 3) := by decide +kernel
theorem dX8_toldOtherwise_25 : decode cX8_toldOtherwise 25 = .ok (.iload 4, 2) := by decide +kernel
theorem dX8_toldOtherwise_27 : decode cX8_toldOtherwise 27 = .ok (.iaload, 1) := by decide +kernel
theorem dX8_toldOtherwise_28 : decode cX8_toldOtherwise 28 = .ok (.iload_n 1, 1) := by decide +kernel
theorem dX8_toldOtherwise_29 : decode cX8_toldOtherwise 29 = .ok (.iload_n 2, 1) := by decide +kernel
theorem dX8_toldOtherwise_30 : decode cX8_toldOtherwise 30 = .ok (.aload_n 0, 1) := by decide +kernel
theorem dX8_toldOtherwise_31 : decode cX8_toldOtherwise 31 = .ok (.getfield 15, 3) := by decide +kernel
theorem dX8_toldOtherwise_34 : decode cX8_toldOtherwise 34 = .ok (.iload 4, 2) := by decide +kernel
theorem dX8_toldOtherwise_36 : decode cX8_toldOtherwise 36 = .ok (.iaload, 1) := by decide +kernel
theorem dX8_toldOtherwise_37 : decode cX8_toldOtherwise 37 = .ok (.imul, 1) := by decide +kernel
theorem dX8_toldOtherwise_38 : decode cX8_toldOtherwise 38 = .ok (.iadd, 1) := by decide +kernel
theorem dX8_toldOtherwise_39 : decode cX8_toldOtherwise 39 = .ok (.if_icmp .lt 7, 3) := by decide +kernel
theorem dX8_toldOtherwise_42 : decode cX8_toldOtherwise 42 = .ok (.iconst 1, 1) := by decide +kernel
theorem dX8_toldOtherwise_43 : decode cX8_toldOtherwise 43 = .ok (.goto 4, 3) := by decide +kernel
theorem dX8_toldOtherwise_46 : decode cX8_toldOtherwise 46 = .ok (.iconst 0, 1) := by decide +kernel
theorem dX8_toldOtherwise_47 : decode cX8_toldOtherwise 47 = .ok (.istore 5, 2) := by decide +kernel
theorem dX8_toldOtherwise_49 : decode cX8_toldOtherwise 49 = .ok (.iload 5, 2) := by decide +kernel
theorem dX8_toldOtherwise_51 : decode cX8_toldOtherwise 51 = .ok (.aload_n 0, 1) := by decide +kernel
theorem dX8_toldOtherwise_52 : decode cX8_toldOtherwise 52 = .ok (.getfield 18, 3) := by decide +kernel
theorem dX8_toldOtherwise_55 : decode cX8_toldOtherwise 55 = .ok (.iload 4, 2) := by decide +kernel
theorem dX8_toldOtherwise_57 : decode cX8_toldOtherwise 57 = .ok (.iaload, 1) := by decide +kernel
theorem dX8_toldOtherwise_58 : decode cX8_toldOtherwise 58 = .ok (.if_icmp .eq 6, 3) := by decide +kernel
theorem dX8_toldOtherwise_61 : decode cX8_toldOtherwise 61 = .ok (.iinc 3 1, 3) := by decide +kernel
theorem dX8_toldOtherwise_64 : decode cX8_toldOtherwise 64 = .ok (.iinc 4 1, 3) := by decide +kernel
theorem dX8_toldOtherwise_67 : decode cX8_toldOtherwise 67 = .ok (.goto (-62), 3) := by decide +kernel
theorem dX8_toldOtherwise_70 : decode cX8_toldOtherwise 70 = .ok (.iload_n 3, 1) := by decide +kernel
theorem dX8_toldOtherwise_71 : decode cX8_toldOtherwise 71 = .ok (.ireturn, 1) := by decide +kernel
theorem dX8_search_0 : decode cX8_search 0 = .ok (.aload_n 0, 1) := by decide +kernel
theorem dX8_search_1 : decode cX8_search 1 = .ok (.bipush 41, 2) := by decide +kernel
theorem dX8_search_3 : decode cX8_search 3 = .ok (.putfield 25, 3) := by decide +kernel
theorem dX8_search_6 : decode cX8_search 6 = .ok (.iconst 0, 1) := by decide +kernel
theorem dX8_search_7 : decode cX8_search 7 = .ok (.istore_n 1, 1) := by decide +kernel
theorem dX8_search_8 : decode cX8_search 8 = .ok (.iload_n 1, 1) := by decide +kernel
theorem dX8_search_9 : decode cX8_search 9 = .ok (.bipush 60, 2) := by decide +kernel
theorem dX8_search_11 : decode cX8_search 11 = .ok (.if_icmp .gt 53, 3) := by decide +kernel
theorem dX8_search_14 : decode cX8_search 14 = .ok (.iconst 0, 1) := by decide +kernel
theorem dX8_search_15 : decode cX8_search 15 = .ok (.istore_n 2, 1) := by decide +kernel
theorem dX8_search_16 : decode cX8_search 16 = .ok (.iload_n 2, 1) := by decide +kernel
theorem dX8_search_17 : decode cX8_search 17 = .ok (.bipush 9, 2) := by decide +kernel
theorem dX8_search_19 : decode cX8_search 19 = .ok (.if_icmp .gt 39, 3) := by decide +kernel
theorem dX8_search_22 : decode cX8_search 22 = .ok (.aload_n 0, 1) := by decide +kernel
theorem dX8_search_23 : decode cX8_search 23 = .ok (.iload_n 1, 1) := by decide +kernel
theorem dX8_search_24 : decode cX8_search 24 = .ok (.iload_n 2, 1) := by decide +kernel
theorem dX8_search_25 : decode cX8_search 25 = .ok (.invokevirtual 28, 3) := by decide +kernel
theorem dX8_search_28 : decode cX8_search 28 = .ok (.istore_n 3, 1) := by decide +kernel
theorem dX8_search_29 : decode cX8_search 29 = .ok (.iload_n 3, 1) := by decide +kernel
theorem dX8_search_30 : decode cX8_search 30 = .ok (.aload_n 0, 1) := by decide +kernel
theorem dX8_search_31 : decode cX8_search 31 = .ok (.getfield 25, 3) := by decide +kernel
theorem dX8_search_34 : decode cX8_search 34 = .ok (.if_icmp .ge 18, 3) := by decide +kernel
theorem dX8_search_37 : decode cX8_search 37 = .ok (.aload_n 0, 1) := by decide +kernel
theorem dX8_search_38 : decode cX8_search 38 = .ok (.iload_n 3, 1) := by decide +kernel
theorem dX8_search_39 : decode cX8_search 39 = .ok (.putfield 25, 3) := by decide +kernel
theorem dX8_search_42 : decode cX8_search 42 = .ok (.aload_n 0, 1) := by decide +kernel
theorem dX8_search_43 : decode cX8_search 43 = .ok (.iload_n 1, 1) := by decide +kernel
theorem dX8_search_44 : decode cX8_search 44 = .ok (.putfield 32, 3) := by decide +kernel
theorem dX8_search_47 : decode cX8_search 47 = .ok (.aload_n 0, 1) := by decide +kernel
theorem dX8_search_48 : decode cX8_search 48 = .ok (.iload_n 2, 1) := by decide +kernel
theorem dX8_search_49 : decode cX8_search 49 = .ok (.putfield 35, 3) := by decide +kernel
theorem dX8_search_52 : decode cX8_search 52 = .ok (.iinc 2 1, 3) := by decide +kernel
theorem dX8_search_55 : decode cX8_search 55 = .ok (.goto (-39), 3) := by decide +kernel
theorem dX8_search_58 : decode cX8_search 58 = .ok (.iinc 1 1, 3) := by decide +kernel
theorem dX8_search_61 : decode cX8_search 61 = .ok (.goto (-53), 3) := by decide +kernel
theorem dX8_search_64 : decode cX8_search 64 = .ok (.return_, 1) := by decide +kernel
theorem dX9_stands_0 : decode cX9_stands 0 = .ok (.iload_n 0, 1) := by decide +kernel
theorem dX9_stands_1 : decode cX9_stands 1 = .ok (.iconst 1, 1) := by decide +kernel
theorem dX9_stands_2 : decode cX9_stands 2 = .ok (.bipush 36, 2) := by decide +kernel
theorem dX9_stands_4 : decode cX9_stands 4 = .ok (.invokestatic 9, 3) := by decide +kernel
theorem dX9_stands_7 : decode cX9_stands 7 = .ok (.ifCond .eq 28, 3) := by decide +kernel
theorem dX9_stands_10 : decode cX9_stands 10 = .ok (.iload_n 1, 1) := by decide +kernel
theorem dX9_stands_11 : decode cX9_stands 11 = .ok (.iconst 0, 1) := by decide +kernel
theorem dX9_stands_12 : decode cX9_stands 12 = .ok (.sipush 999, 3) := by decide +kernel
theorem dX9_stands_15 : decode cX9_stands 15 = .ok (.invokestatic 9, 3) := by decide +kernel
theorem dX9_stands_18 : decode cX9_stands 18 = .ok (.ifCond .eq 17, 3) := by decide +kernel
theorem dX9_stands_21 : decode cX9_stands 21 = .ok (.iload_n 2, 1) := by decide +kernel
theorem dX9_stands_22 : decode cX9_stands 22 = .ok (.iconst 1, 1) := by decide +kernel
theorem dX9_stands_23 : decode cX9_stands 23 = .ok (.bipush 99, 2) := by decide +kernel
theorem dX9_stands_25 : decode cX9_stands 25 = .ok (.invokestatic 9, 3) := by decide +kernel
theorem dX9_stands_28 : decode cX9_stands 28 = .ok (.ifCond .eq 7, 3) := by decide +kernel
theorem dX9_stands_31 : decode cX9_stands 31 = .ok (.iconst 1, 1) := by decide +kernel
theorem dX9_stands_32 : decode cX9_stands 32 = .ok (.goto 4, 3) := by decide +kernel
theorem dX9_stands_35 : decode cX9_stands 35 = .ok (.iconst 0, 1) := by decide +kernel
theorem dX9_stands_36 : decode cX9_stands 36 = .ok (.ireturn, 1) := by decide +kernel
theorem dX9_isSecond_0 : decode cX9_isSecond 0 = .ok (.iload_n 0, 1) := by decide +kernel
theorem dX9_isSecond_1 : decode cX9_isSecond 1 = .ok (.iconst (-1), 1) := by decide +kernel
theorem dX9_isSecond_2 : decode cX9_isSecond 2 = .ok (.if_icmp .eq 13, 3) := by decide +kernel
theorem dX9_isSecond_5 : decode cX9_isSecond 5 = .ok (.iload_n 0, 1) := by decide +kernel
theorem dX9_isSecond_6 : decode cX9_isSecond 6 = .ok (.iconst 1, 1) := by decide +kernel
theorem dX9_isSecond_7 : decode cX9_isSecond 7 = .ok (.bipush 99, 2) := by decide +kernel
theorem dX9_isSecond_9 : decode cX9_isSecond 9 = .ok (.invokestatic 9, 3) := by decide +kernel
theorem dX9_isSecond_12 : decode cX9_isSecond 12 = .ok (.ifCond .eq 7, 3) := by decide +kernel
theorem dX9_isSecond_15 : decode cX9_isSecond 15 = .ok (.iconst 1, 1) := by decide +kernel
theorem dX9_isSecond_16 : decode cX9_isSecond 16 = .ok (.goto 4, 3) := by decide +kernel
theorem dX9_isSecond_19 : decode cX9_isSecond 19 = .ok (.iconst 0, 1) := by decide +kernel
theorem dX9_isSecond_20 : decode cX9_isSecond 20 = .ok (.ireturn, 1) := by decide +kernel
theorem dX9_seemsBelow_0 : decode cX9_seemsBelow 0 = .ok (.bipush 60, 2) := by decide +kernel
theorem dX9_seemsBelow_2 : decode cX9_seemsBelow 2 = .ok (.iload_n 0, 1) := by decide +kernel
theorem dX9_seemsBelow_3 : decode cX9_seemsBelow 3 = .ok (.imul, 1) := by decide +kernel
theorem dX9_seemsBelow_4 : decode cX9_seemsBelow 4 = .ok (.ireturn, 1) := by decide +kernel
theorem dX9_seemsAbove_0 : decode cX9_seemsAbove 0 = .ok (.iload_n 0, 1) := by decide +kernel
theorem dX9_seemsAbove_1 : decode cX9_seemsAbove 1 = .ok (.iload_n 1, 1) := by decide +kernel
theorem dX9_seemsAbove_2 : decode cX9_seemsAbove 2 = .ok (.imul, 1) := by decide +kernel
theorem dX9_seemsAbove_3 : decode cX9_seemsAbove 3 = .ok (.istore_n 3, 1) := by decide +kernel
theorem dX9_seemsAbove_4 : decode cX9_seemsAbove 4 = .ok (.iload_n 2, 1) := by decide +kernel
theorem dX9_seemsAbove_5 : decode cX9_seemsAbove 5 = .ok (.invokestatic 13, 3) := by decide +kernel
theorem dX9_seemsAbove_8 : decode cX9_seemsAbove 8 = .ok (.istore 4, 2) := by decide +kernel
theorem dX9_seemsAbove_10 : decode cX9_seemsAbove 10 = .ok (.iload_n 3, 1) := by decide +kernel
theorem dX9_seemsAbove_11 : decode cX9_seemsAbove 11 = .ok (.iload_n 3, 1) := by decide +kernel
theorem dX9_seemsAbove_12 : decode cX9_seemsAbove 12 = .ok (.iload 4, 2) := by decide +kernel
theorem dX9_seemsAbove_14 : decode cX9_seemsAbove 14 = .ok (.invokestatic 19, 3) := by decide +kernel
theorem dX9_seemsAbove_17 : decode cX9_seemsAbove 17 = .ok (.iload 4, 2) := by decide +kernel
theorem dX9_seemsAbove_19 : decode cX9_seemsAbove 19 = .ok (.imul, 1) := by decide +kernel
theorem dX9_seemsAbove_20 : decode cX9_seemsAbove 20 = .ok (.isub, 1) := by decide +kernel
theorem dX9_seemsAbove_21 : decode cX9_seemsAbove 21 = .ok (.ireturn, 1) := by decide +kernel
theorem dX9_alike_0 : decode cX9_alike 0 = .ok (.iload_n 0, 1) := by decide +kernel
theorem dX9_alike_1 : decode cX9_alike 1 = .ok (.iload_n 1, 1) := by decide +kernel
theorem dX9_alike_2 : decode cX9_alike 2 = .ok (.iload_n 3, 1) := by decide +kernel
theorem dX9_alike_3 : decode cX9_alike 3 = .ok (.invokestatic 25, 3) := by decide +kernel
theorem dX9_alike_6 : decode cX9_alike 6 = .ok (.iload_n 0, 1) := by decide +kernel
theorem dX9_alike_7 : decode cX9_alike 7 = .ok (.iload_n 2, 1) := by decide +kernel
theorem dX9_alike_8 : decode cX9_alike 8 = .ok (.iload_n 3, 1) := by decide +kernel
theorem dX9_alike_9 : decode cX9_alike 9 = .ok (.invokestatic 25, 3) := by decide +kernel
theorem dX9_alike_12 : decode cX9_alike 12 = .ok (.if_icmp .ne 7, 3) := by decide +kernel
theorem dX9_alike_15 : decode cX9_alike 15 = .ok (.iconst 1, 1) := by decide +kernel
theorem dX9_alike_16 : decode cX9_alike 16 = .ok (.goto 4, 3) := by decide +kernel
theorem dX9_alike_19 : decode cX9_alike 19 = .ok (.iconst 0, 1) := by decide +kernel
theorem dX9_alike_20 : decode cX9_alike 20 = .ok (.ireturn, 1) := by decide +kernel
theorem dX9_fit_0 : decode cX9_fit 0 = .ok (.iload_n 0, 1) := by decide +kernel
theorem dX9_fit_1 : decode cX9_fit 1 = .ok (.iload_n 1, 1) := by decide +kernel
theorem dX9_fit_2 : decode cX9_fit 2 = .ok (.iload_n 2, 1) := by decide +kernel
theorem dX9_fit_3 : decode cX9_fit 3 = .ok (.iload_n 3, 1) := by decide +kernel
theorem dX9_fit_4 : decode cX9_fit 4 = .ok (.invokestatic 29, 3) := by decide +kernel
theorem dX9_fit_7 : decode cX9_fit 7 = .ok (.ifCond .eq 24, 3) := by decide +kernel
theorem dX9_fit_10 : decode cX9_fit 10 = .ok (.iload 4, 2) := by decide +kernel
theorem dX9_fit_12 : decode cX9_fit 12 = .ok (.iconst (-1), 1) := by decide +kernel
theorem dX9_fit_13 : decode cX9_fit 13 = .ok (.if_icmp .eq 14, 3) := by decide +kernel
theorem dX9_fit_16 : decode cX9_fit 16 = .ok (.iload_n 0, 1) := by decide +kernel
theorem dX9_fit_17 : decode cX9_fit 17 = .ok (.iload_n 1, 1) := by decide +kernel
theorem dX9_fit_18 : decode cX9_fit 18 = .ok (.iload_n 2, 1) := by decide +kernel
theorem dX9_fit_19 : decode cX9_fit 19 = .ok (.iload 4, 2) := by decide +kernel
theorem dX9_fit_21 : decode cX9_fit 21 = .ok (.invokestatic 29, 3) := by decide +kernel
theorem dX9_fit_24 : decode cX9_fit 24 = .ok (.ifCond .eq 7, 3) := by decide +kernel
theorem dX9_fit_27 : decode cX9_fit 27 = .ok (.iconst 1, 1) := by decide +kernel
theorem dX9_fit_28 : decode cX9_fit 28 = .ok (.goto 4, 3) := by decide +kernel
theorem dX9_fit_31 : decode cX9_fit 31 = .ok (.iconst 0, 1) := by decide +kernel
theorem dX9_fit_32 : decode cX9_fit 32 = .ok (.ireturn, 1) := by decide +kernel
theorem dX9_howManyFit_0 : decode cX9_howManyFit 0 = .ok (.iconst 0, 1) := by decide +kernel
theorem dX9_howManyFit_1 : decode cX9_howManyFit 1 = .ok (.istore 5, 2) := by decide +kernel
theorem dX9_howManyFit_3 : decode cX9_howManyFit 3 = .ok (.iconst 0, 1) := by decide +kernel
theorem dX9_howManyFit_4 : decode cX9_howManyFit 4 = .ok (.istore 6, 2) := by decide +kernel
theorem dX9_howManyFit_6 : decode cX9_howManyFit 6 = .ok (.iload 6, 2) := by decide +kernel
theorem dX9_howManyFit_8 : decode cX9_howManyFit 8 = .ok (.iload 4, 2) := by decide +kernel
theorem dX9_howManyFit_10 : decode cX9_howManyFit 10 = .ok (.if_icmp .gt 32, 3) := by decide +kernel
theorem dX9_howManyFit_13 : decode cX9_howManyFit 13 = .ok (.iload 6, 2) := by decide +kernel
theorem dX9_howManyFit_15 : decode cX9_howManyFit 15 = .ok (.sipush 999, 3) := by decide +kernel
theorem dX9_howManyFit_18 : decode cX9_howManyFit 18 = .ok (.if_icmp .gt 24, 3) := by decide +kernel
theorem dX9_howManyFit_21 : decode cX9_howManyFit 21 = .ok (.iload_n 0, 1) := by decide +kernel
theorem dX9_howManyFit_22 : decode cX9_howManyFit 22 = .ok (.iload_n 1, 1) := by decide +kernel
theorem dX9_howManyFit_23 : decode cX9_howManyFit 23 = .ok (.iload 6, 2) := by decide +kernel
theorem dX9_howManyFit_25 : decode cX9_howManyFit 25 = .ok (.iload_n 2, 1) := by decide +kernel
theorem dX9_howManyFit_26 : decode cX9_howManyFit 26 = .ok (.iload_n 3, 1) := by decide +kernel
theorem dX9_howManyFit_27 : decode cX9_howManyFit 27 = .ok (.invokestatic 33, 3) := by decide +kernel
theorem dX9_howManyFit_30 : decode cX9_howManyFit 30 = .ok (.ifCond .eq 6, 3) := by decide +kernel
theorem dX9_howManyFit_33 : decode cX9_howManyFit 33 = .ok (.iinc 5 1, 3) := by decide +kernel
theorem dX9_howManyFit_36 : decode cX9_howManyFit 36 = .ok (.iinc 6 1, 3) := by decide +kernel
theorem dX9_howManyFit_39 : decode cX9_howManyFit 39 = .ok (.goto (-33), 3) := by decide +kernel
theorem dX9_howManyFit_42 : decode cX9_howManyFit 42 = .ok (.iload 5, 2) := by decide +kernel
theorem dX9_howManyFit_44 : decode cX9_howManyFit 44 = .ok (.ireturn, 1) := by decide +kernel
theorem dX9_fitting_0 : decode cX9_fitting 0 = .ok (.iconst 0, 1) := by decide +kernel
theorem dX9_fitting_1 : decode cX9_fitting 1 = .ok (.istore 5, 2) := by decide +kernel
theorem dX9_fitting_3 : decode cX9_fitting 3 = .ok (.iconst 0, 1) := by decide +kernel
theorem dX9_fitting_4 : decode cX9_fitting 4 = .ok (.istore 6, 2) := by decide +kernel
theorem dX9_fitting_6 : decode cX9_fitting 6 = .ok (.iload 6, 2) := by decide +kernel
theorem dX9_fitting_8 : decode cX9_fitting 8 = .ok (.sipush 999, 3) := by decide +kernel
theorem dX9_fitting_11 : decode cX9_fitting 11 = .ok (.if_icmp .gt 34, 3) := by decide +kernel
theorem dX9_fitting_14 : decode cX9_fitting 14 = .ok (.iload_n 0, 1) := by decide +kernel
theorem dX9_fitting_15 : decode cX9_fitting 15 = .ok (.iload_n 1, 1) := by decide +kernel
theorem dX9_fitting_16 : decode cX9_fitting 16 = .ok (.iload 6, 2) := by decide +kernel
theorem dX9_fitting_18 : decode cX9_fitting 18 = .ok (.iload_n 2, 1) := by decide +kernel
theorem dX9_fitting_19 : decode cX9_fitting 19 = .ok (.iload_n 3, 1) := by decide +kernel
theorem dX9_fitting_20 : decode cX9_fitting 20 = .ok (.invokestatic 33, 3) := by decide +kernel
theorem dX9_fitting_23 : decode cX9_fitting 23 = .ok (.ifCond .eq 16, 3) := by decide +kernel
theorem dX9_fitting_26 : decode cX9_fitting 26 = .ok (.iload 5, 2) := by decide +kernel
theorem dX9_fitting_28 : decode cX9_fitting 28 = .ok (.iload 4, 2) := by decide +kernel
theorem dX9_fitting_30 : decode cX9_fitting 30 = .ok (.if_icmp .ne 6, 3) := by decide +kernel
theorem dX9_fitting_33 : decode cX9_fitting 33 = .ok (.iload 6, 2) := by decide +kernel
theorem dX9_fitting_35 : decode cX9_fitting 35 = .ok (.ireturn, 1) := by decide +kernel
theorem dX9_fitting_36 : decode cX9_fitting 36 = .ok (.iinc 5 1, 3) := by decide +kernel
theorem dX9_fitting_39 : decode cX9_fitting 39 = .ok (.iinc 6 1, 3) := by decide +kernel
theorem dX9_fitting_42 : decode cX9_fitting 42 = .ok (.goto (-36), 3) := by decide +kernel
theorem dX9_fitting_45 : decode cX9_fitting 45 = .ok (.iconst (-1), 1) := by decide +kernel
theorem dX9_fitting_46 : decode cX9_fitting 46 = .ok (.ireturn, 1) := by decide +kernel
theorem dX10_init_0 : decode cX10_init 0 = .ok (.aload_n 0, 1) := by decide +kernel
theorem dX10_init_1 : decode cX10_init 1 = .ok (.invokespecial 1, 3) := by decide +kernel
theorem dX10_init_4 : decode cX10_init 4 = .ok (.aload_n 0, 1) := by decide +kernel
theorem dX10_init_5 : decode cX10_init 5 = .ok (.new 7, 3) := by decide +kernel
theorem dX10_init_8 : decode cX10_init 8 = .ok (.dup, 1) := by decide +kernel
theorem dX10_init_9 : decode cX10_init 9 = .ok (.invokespecial 9, 3) := by decide +kernel
theorem dX10_init_12 : decode cX10_init 12 = .ok (.putfield 10, 3) := by decide +kernel
theorem dX10_init_15 : decode cX10_init 15 = .ok (.aload_n 0, 1) := by decide +kernel
theorem dX10_init_16 : decode cX10_init 16 = .ok (.new 7, 3) := by decide +kernel
theorem dX10_init_19 : decode cX10_init 19 = .ok (.dup, 1) := by decide +kernel
theorem dX10_init_20 : decode cX10_init 20 = .ok (.invokespecial 9, 3) := by decide +kernel
theorem dX10_init_23 : decode cX10_init 23 = .ok (.putfield 16, 3) := by decide +kernel
theorem dX10_init_26 : decode cX10_init 26 = .ok (.aload_n 0, 1) := by decide +kernel
theorem dX10_init_27 : decode cX10_init 27 = .ok (.new 19, 3) := by decide +kernel
theorem dX10_init_30 : decode cX10_init 30 = .ok (.dup, 1) := by decide +kernel
theorem dX10_init_31 : decode cX10_init 31 = .ok (.invokespecial 21, 3) := by decide +kernel
theorem dX10_init_34 : decode cX10_init 34 = .ok (.putfield 22, 3) := by decide +kernel
theorem dX10_init_37 : decode cX10_init 37 = .ok (.aload_n 0, 1) := by decide +kernel
theorem dX10_init_38 : decode cX10_init 38 = .ok (.new 19, 3) := by decide +kernel
theorem dX10_init_41 : decode cX10_init 41 = .ok (.dup, 1) := by decide +kernel
theorem dX10_init_42 : decode cX10_init 42 = .ok (.invokespecial 21, 3) := by decide +kernel
theorem dX10_init_45 : decode cX10_init 45 = .ok (.putfield 26, 3) := by decide +kernel
theorem dX10_init_48 : decode cX10_init 48 = .ok (.aload_n 0, 1) := by decide +kernel
theorem dX10_init_49 : decode cX10_init 49 = .ok (.iconst 4, 1) := by decide +kernel
theorem dX10_init_50 : decode cX10_init 50 = .ok (.anewarray 29, 3) := by decide +kernel
theorem dX10_init_53 : decode cX10_init 53 = .ok (.dup, 1) := by decide +kernel
theorem dX10_init_54 : decode cX10_init 54 = .ok (.iconst 0, 1) := by decide +kernel
theorem dX10_init_55 : decode cX10_init 55 = .ok (.new 29, 3) := by decide +kernel
theorem dX10_init_58 : decode cX10_init 58 = .ok (.dup, 1) := by decide +kernel
theorem dX10_init_59 : decode cX10_init 59 = .ok (.invokespecial 31, 3) := by decide +kernel
theorem dX10_init_62 : decode cX10_init 62 = .ok (.aastore, 1) := by decide +kernel
theorem dX10_init_63 : decode cX10_init 63 = .ok (.dup, 1) := by decide +kernel
theorem dX10_init_64 : decode cX10_init 64 = .ok (.iconst 1, 1) := by decide +kernel
theorem dX10_init_65 : decode cX10_init 65 = .ok (.new 29, 3) := by decide +kernel
theorem dX10_init_68 : decode cX10_init 68 = .ok (.dup, 1) := by decide +kernel
theorem dX10_init_69 : decode cX10_init 69 = .ok (.invokespecial 31, 3) := by decide +kernel
theorem dX10_init_72 : decode cX10_init 72 = .ok (.aastore, 1) := by decide +kernel
theorem dX10_init_73 : decode cX10_init 73 = .ok (.dup, 1) := by decide +kernel
theorem dX10_init_74 : decode cX10_init 74 = .ok (.iconst 2, 1) := by decide +kernel
theorem dX10_init_75 : decode cX10_init 75 = .ok (.new 29, 3) := by decide +kernel
theorem dX10_init_78 : decode cX10_init 78 = .ok (.dup, 1) := by decide +kernel
theorem dX10_init_79 : decode cX10_init 79 = .ok (.invokespecial 31, 3) := by decide +kernel
theorem dX10_init_82 : decode cX10_init 82 = .ok (.aastore, 1) := by decide +kernel
theorem dX10_init_83 : decode cX10_init 83 = .ok (.dup, 1) := by decide +kernel
theorem dX10_init_84 : decode cX10_init 84 = .ok (.iconst 3, 1) := by decide +kernel
theorem dX10_init_85 : decode cX10_init 85 = .ok (.new 29, 3) := by decide +kernel
theorem dX10_init_88 : decode cX10_init 88 = .ok (.dup, 1) := by decide +kernel
theorem dX10_init_89 : decode cX10_init 89 = .ok (.invokespecial 31, 3) := by decide +kernel
theorem dX10_init_92 : decode cX10_init 92 = .ok (.aastore, 1) := by decide +kernel
theorem dX10_init_93 : decode cX10_init 93 = .ok (.putfield 32, 3) := by decide +kernel
theorem dX10_init_96 : decode cX10_init 96 = .ok (.aload_n 0, 1) := by decide +kernel
theorem dX10_init_97 : decode cX10_init 97 = .ok (.new 36, 3) := by decide +kernel
theorem dX10_init_100 : decode cX10_init 100 = .ok (.dup, 1) := by decide +kernel
theorem dX10_init_101 : decode cX10_init 101 = .ok (.invokespecial 38, 3) := by decide +kernel
theorem dX10_init_104 : decode cX10_init 104 = .ok (.putfield 39, 3) := by decide +kernel
theorem dX10_init_107 : decode cX10_init 107 = .ok (.aload_n 0, 1) := by decide +kernel
theorem dX10_init_108 : decode cX10_init 108 = .ok (.new 43, 3) := by decide +kernel
theorem dX10_init_111 : decode cX10_init 111 = .ok (.dup, 1) := by decide +kernel
theorem dX10_init_112 : decode cX10_init 112 = .ok (.invokespecial 45, 3) := by decide +kernel
theorem dX10_init_115 : decode cX10_init 115 = .ok (.putfield 46, 3) := by decide +kernel
theorem dX10_init_118 : decode cX10_init 118 = .ok (.aload_n 0, 1) := by decide +kernel
theorem dX10_init_119 : decode cX10_init 119 = .ok (.new 50, 3) := by decide +kernel
theorem dX10_init_122 : decode cX10_init 122 = .ok (.dup, 1) := by decide +kernel
theorem dX10_init_123 : decode cX10_init 123 = .ok (.invokespecial 52, 3) := by decide +kernel
theorem dX10_init_126 : decode cX10_init 126 = .ok (.putfield 53, 3) := by decide +kernel
theorem dX10_init_129 : decode cX10_init 129 = .ok (.aload_n 0, 1) := by decide +kernel
theorem dX10_init_130 : decode cX10_init 130 = .ok (.new 57, 3) := by decide +kernel
theorem dX10_init_133 : decode cX10_init 133 = .ok (.dup, 1) := by decide +kernel
theorem dX10_init_134 : decode cX10_init 134 = .ok (.invokespecial 59, 3) := by decide +kernel
theorem dX10_init_137 : decode cX10_init 137 = .ok (.putfield 60, 3) := by decide +kernel
theorem dX10_init_140 : decode cX10_init 140 = .ok (.aload_n 0, 1) := by decide +kernel
theorem dX10_init_141 : decode cX10_init 141 = .ok (.iconst 3, 1) := by decide +kernel
theorem dX10_init_142 : decode cX10_init 142 = .ok (.putfield 64, 3) := by decide +kernel
theorem dX10_init_145 : decode cX10_init 145 = .ok (.aload_n 0, 1) := by decide +kernel
theorem dX10_init_146 : decode cX10_init 146 = .ok (.bipush 10, 2) := by decide +kernel
theorem dX10_init_148 : decode cX10_init 148 = .ok (.putfield 68, 3) := by decide +kernel
theorem dX10_init_151 : decode cX10_init 151 = .ok (.return_, 1) := by decide +kernel
theorem dX10_type_0 : decode cX10_type 0 = .ok (.aload_n 0, 1) := by decide +kernel
theorem dX10_type_1 : decode cX10_type 1 = .ok (.iload_n 1, 1) := by decide +kernel
theorem dX10_type_2 : decode cX10_type 2 = .ok (.invokevirtual 71, 3) := by decide +kernel
theorem dX10_type_5 : decode cX10_type 5 = .ok (.astore_n 3, 1) := by decide +kernel
theorem dX10_type_6 : decode cX10_type 6 = .ok (.aload_n 3, 1) := by decide +kernel
theorem dX10_type_7 : decode cX10_type 7 = .ok (.ifnull 14, 3) := by decide +kernel
theorem dX10_type_10 : decode cX10_type 10 = .ok (.iload_n 2, 1) := by decide +kernel
theorem dX10_type_11 : decode cX10_type 11 = .ok (.iconst 0, 1) := by decide +kernel
theorem dX10_type_12 : decode cX10_type 12 = .ok (.sipush 255, 3) := by decide +kernel
theorem dX10_type_15 : decode cX10_type 15 = .ok (.invokestatic 75, 3) := by decide +kernel
theorem dX10_type_18 : decode cX10_type 18 = .ok (.ifCond .ne 6, 3) := by decide +kernel
theorem dX10_type_21 : decode cX10_type 21 = .ok (.bipush (-2), 2) := by decide +kernel
theorem dX10_type_23 : decode cX10_type 23 = .ok (.ireturn, 1) := by decide +kernel
theorem dX10_type_24 : decode cX10_type 24 = .ok (.aload_n 3, 1) := by decide +kernel
theorem dX10_type_25 : decode cX10_type 25 = .ok (.iload_n 2, 1) := by decide +kernel
theorem dX10_type_26 : decode cX10_type 26 = .ok (.invokevirtual 79, 3) := by decide +kernel
theorem dX10_type_29 : decode cX10_type 29 = .ok (.ireturn, 1) := by decide +kernel
theorem dX10_wipe_0 : decode cX10_wipe 0 = .ok (.aload_n 0, 1) := by decide +kernel
theorem dX10_wipe_1 : decode cX10_wipe 1 = .ok (.iload_n 1, 1) := by decide +kernel
theorem dX10_wipe_2 : decode cX10_wipe 2 = .ok (.invokevirtual 71, 3) := by decide +kernel
theorem dX10_wipe_5 : decode cX10_wipe 5 = .ok (.astore_n 2, 1) := by decide +kernel
theorem dX10_wipe_6 : decode cX10_wipe 6 = .ok (.aload_n 2, 1) := by decide +kernel
theorem dX10_wipe_7 : decode cX10_wipe 7 = .ok (.ifnonnull 8, 3) := by decide +kernel
theorem dX10_wipe_10 : decode cX10_wipe 10 = .ok (.bipush (-2), 2) := by decide +kernel
theorem dX10_wipe_12 : decode cX10_wipe 12 = .ok (.goto 7, 3) := by decide +kernel
theorem dX10_wipe_15 : decode cX10_wipe 15 = .ok (.aload_n 2, 1) := by decide +kernel
theorem dX10_wipe_16 : decode cX10_wipe 16 = .ok (.invokevirtual 83, 3) := by decide +kernel
theorem dX10_wipe_19 : decode cX10_wipe 19 = .ok (.ireturn, 1) := by decide +kernel
theorem dX10_fault_0 : decode cX10_fault 0 = .ok (.aload_n 0, 1) := by decide +kernel
theorem dX10_fault_1 : decode cX10_fault 1 = .ok (.iload_n 1, 1) := by decide +kernel
theorem dX10_fault_2 : decode cX10_fault 2 = .ok (.invokevirtual 71, 3) := by decide +kernel
theorem dX10_fault_5 : decode cX10_fault 5 = .ok (.astore_n 2, 1) := by decide +kernel
theorem dX10_fault_6 : decode cX10_fault 6 = .ok (.aload_n 2, 1) := by decide +kernel
theorem dX10_fault_7 : decode cX10_fault 7 = .ok (.ifnonnull 8, 3) := by decide +kernel
theorem dX10_fault_10 : decode cX10_fault 10 = .ok (.bipush (-2), 2) := by decide +kernel
theorem dX10_fault_12 : decode cX10_fault 12 = .ok (.goto 7, 3) := by decide +kernel
theorem dX10_fault_15 : decode cX10_fault 15 = .ok (.aload_n 2, 1) := by decide +kernel
theorem dX10_fault_16 : decode cX10_fault 16 = .ok (.getfield 87, 3) := by decide +kernel
theorem dX10_fault_19 : decode cX10_fault 19 = .ok (.ireturn, 1) := by decide +kernel
theorem dX10_place_0 : decode cX10_place 0 = .ok (.aload_n 0, 1) := by decide +kernel
theorem dX10_place_1 : decode cX10_place 1 = .ok (.iload_n 1, 1) := by decide +kernel
theorem dX10_place_2 : decode cX10_place 2 = .ok (.invokevirtual 71, 3) := by decide +kernel
theorem dX10_place_5 : decode cX10_place 5 = .ok (.astore 4, 2) := by decide +kernel
theorem dX10_place_7 : decode cX10_place 7 = .ok (.aload 4, 2) := by decide +kernel
theorem dX10_place_9 : decode cX10_place 9 = .ok (.ifnull 21, 3) := by decide +kernel
theorem dX10_place_12 : decode cX10_place 12 = .ok (.aload 4, 2) := by decide +kernel
theorem dX10_place_14 : decode cX10_place 14 = .ok (.iload_n 2, 1) := by decide +kernel
theorem dX10_place_15 : decode cX10_place 15 = .ok (.invokevirtual 90, 3) := by decide +kernel
theorem dX10_place_18 : decode cX10_place 18 = .ok (.ifCond .eq 12, 3) := by decide +kernel
theorem dX10_place_21 : decode cX10_place 21 = .ok (.iload_n 3, 1) := by decide +kernel
theorem dX10_place_22 : decode cX10_place 22 = .ok (.iconst 0, 1) := by decide +kernel
theorem dX10_place_23 : decode cX10_place 23 = .ok (.iconst 3, 1) := by decide +kernel
theorem dX10_place_24 : decode cX10_place 24 = .ok (.invokestatic 75, 3) := by decide +kernel
theorem dX10_place_27 : decode cX10_place 27 = .ok (.ifCond .ne 6, 3) := by decide +kernel
theorem dX10_place_30 : decode cX10_place 30 = .ok (.bipush (-2), 2) := by decide +kernel
theorem dX10_place_32 : decode cX10_place 32 = .ok (.ireturn, 1) := by decide +kernel
theorem dX10_place_33 : decode cX10_place 33 = .ok (.aload 4, 2) := by decide +kernel
theorem dX10_place_35 : decode cX10_place 35 = .ok (.iload_n 2, 1) := by decide +kernel
theorem dX10_place_36 : decode cX10_place 36 = .ok (.iload_n 3, 1) := by decide +kernel
theorem dX10_place_37 : decode cX10_place 37 = .ok (.invokevirtual 94, 3) := by decide +kernel
theorem dX10_place_40 : decode cX10_place 40 = .ok (.ireturn, 1) := by decide +kernel
theorem dX10_step_0 : decode cX10_step 0 = .ok (.aload_n 0, 1) := by decide +kernel
theorem dX10_step_1 : decode cX10_step 1 = .ok (.iload_n 1, 1) := by decide +kernel
theorem dX10_step_2 : decode cX10_step 2 = .ok (.invokevirtual 71, 3) := by decide +kernel
theorem dX10_step_5 : decode cX10_step 5 = .ok (.astore 4, 2) := by decide +kernel
theorem dX10_step_7 : decode cX10_step 7 = .ok (.aload 4, 2) := by decide +kernel
theorem dX10_step_9 : decode cX10_step 9 = .ok (.ifnull 21, 3) := by decide +kernel
theorem dX10_step_12 : decode cX10_step 12 = .ok (.aload 4, 2) := by decide +kernel
theorem dX10_step_14 : decode cX10_step 14 = .ok (.iload_n 2, 1) := by decide +kernel
theorem dX10_step_15 : decode cX10_step 15 = .ok (.invokevirtual 90, 3) := by decide +kernel
theorem dX10_step_18 : decode cX10_step 18 = .ok (.ifCond .eq 12, 3) := by decide +kernel
theorem dX10_step_21 : decode cX10_step 21 = .ok (.aload 4, 2) := by decide +kernel
theorem dX10_step_23 : decode cX10_step 23 = .ok (.iload_n 3, 1) := by decide +kernel
theorem dX10_step_24 : decode cX10_step 24 = .ok (.invokevirtual 90, 3) := by decide +kernel
theorem dX10_step_27 : decode cX10_step 27 = .ok (.ifCond .ne 6, 3) := by decide +kernel
theorem dX10_step_30 : decode cX10_step 30 = .ok (.bipush (-2), 2) := by decide +kernel
theorem dX10_step_32 : decode cX10_step 32 = .ok (.ireturn, 1) := by decide +kernel
theorem dX10_step_33 : decode cX10_step 33 = .ok (.aload 4, 2) := by decide +kernel
theorem dX10_step_35 : decode cX10_step 35 = .ok (.iload_n 2, 1) := by decide +kernel
theorem dX10_step_36 : decode cX10_step 36 = .ok (.iload_n 3, 1) := by decide +kernel
theorem dX10_step_37 : decode cX10_step 37 = .ok (.aload_n 0, 1) := by decide +kernel
theorem dX10_step_38 : decode cX10_step 38 = .ok (.getfield 64, 3) := by decide +kernel
theorem dX10_step_41 : decode cX10_step 41 = .ok (.invokevirtual 98, 3) := by decide +kernel
theorem dX10_step_44 : decode cX10_step 44 = .ok (.ireturn, 1) := by decide +kernel
theorem dX10_whole_0 : decode cX10_whole 0 = .ok (.aload_n 0, 1) := by decide +kernel
theorem dX10_whole_1 : decode cX10_whole 1 = .ok (.iload_n 1, 1) := by decide +kernel
theorem dX10_whole_2 : decode cX10_whole 2 = .ok (.invokevirtual 71, 3) := by decide +kernel
theorem dX10_whole_5 : decode cX10_whole 5 = .ok (.astore_n 2, 1) := by decide +kernel
theorem dX10_whole_6 : decode cX10_whole 6 = .ok (.aload_n 2, 1) := by decide +kernel
theorem dX10_whole_7 : decode cX10_whole 7 = .ok (.ifnonnull 8, 3) := by decide +kernel
theorem dX10_whole_10 : decode cX10_whole 10 = .ok (.bipush (-2), 2) := by decide +kernel
theorem dX10_whole_12 : decode cX10_whole 12 = .ok (.goto 11, 3) := by decide +kernel
theorem dX10_whole_15 : decode cX10_whole 15 = .ok (.aload_n 2, 1) := by decide +kernel
theorem dX10_whole_16 : decode cX10_whole 16 = .ok (.aload_n 0, 1) := by decide +kernel
theorem dX10_whole_17 : decode cX10_whole 17 = .ok (.getfield 64, 3) := by decide +kernel
theorem dX10_whole_20 : decode cX10_whole 20 = .ok (.invokevirtual 102, 3) := by decide +kernel
theorem dX10_whole_23 : decode cX10_whole 23 = .ok (.ireturn, 1) := by decide +kernel
theorem dX10_set_0 : decode cX10_set 0 = .ok (.iload_n 1, 1) := by decide +kernel
theorem dX10_set_1 : decode cX10_set 1 = .ok (.ifCond .ne 26, 3) := by decide +kernel
theorem dX10_set_4 : decode cX10_set 4 = .ok (.iload_n 2, 1) := by decide +kernel
theorem dX10_set_5 : decode cX10_set 5 = .ok (.iconst 0, 1) := by decide +kernel
theorem dX10_set_6 : decode cX10_set 6 = .ok (.bipush 9, 2) := by decide +kernel
theorem dX10_set_8 : decode cX10_set 8 = .ok (.invokestatic 75, 3) := by decide +kernel
theorem dX10_set_11 : decode cX10_set 11 = .ok (.ifCond .eq 16, 3) := by decide +kernel
theorem dX10_set_14 : decode cX10_set 14 = .ok (.aload_n 0, 1) := by decide +kernel
theorem dX10_set_15 : decode cX10_set 15 = .ok (.getfield 64, 3) := by decide +kernel
theorem dX10_set_18 : decode cX10_set 18 = .ok (.istore_n 3, 1) := by decide +kernel
theorem dX10_set_19 : decode cX10_set 19 = .ok (.aload_n 0, 1) := by decide +kernel
theorem dX10_set_20 : decode cX10_set 20 = .ok (.iload_n 2, 1) := by decide +kernel
theorem dX10_set_21 : decode cX10_set 21 = .ok (.putfield 64, 3) := by decide +kernel
theorem dX10_set_24 : decode cX10_set 24 = .ok (.goto 34, 3) := by decide +kernel
theorem dX10_set_27 : decode cX10_set 27 = .ok (.iload_n 1, 1) := by decide +kernel
theorem dX10_set_28 : decode cX10_set 28 = .ok (.iconst 1, 1) := by decide +kernel
theorem dX10_set_29 : decode cX10_set 29 = .ok (.if_icmp .ne 26, 3) := by decide +kernel
theorem dX10_set_32 : decode cX10_set 32 = .ok (.iload_n 2, 1) := by decide +kernel
theorem dX10_set_33 : decode cX10_set 33 = .ok (.iconst 0, 1) := by decide +kernel
theorem dX10_set_34 : decode cX10_set 34 = .ok (.bipush 60, 2) := by decide +kernel
theorem dX10_set_36 : decode cX10_set 36 = .ok (.invokestatic 75, 3) := by decide +kernel
theorem dX10_set_39 : decode cX10_set 39 = .ok (.ifCond .eq 16, 3) := by decide +kernel
theorem dX10_set_42 : decode cX10_set 42 = .ok (.aload_n 0, 1) := by decide +kernel
theorem dX10_set_43 : decode cX10_set 43 = .ok (.getfield 68, 3) := by decide +kernel
theorem dX10_set_46 : decode cX10_set 46 = .ok (.istore_n 3, 1) := by decide +kernel
theorem dX10_set_47 : decode cX10_set 47 = .ok (.aload_n 0, 1) := by decide +kernel
theorem dX10_set_48 : decode cX10_set 48 = .ok (.iload_n 2, 1) := by decide +kernel
theorem dX10_set_49 : decode cX10_set 49 = .ok (.putfield 68, 3) := by decide +kernel
theorem dX10_set_52 : decode cX10_set 52 = .ok (.goto 6, 3) := by decide +kernel
theorem dX10_set_55 : decode cX10_set 55 = .ok (.bipush (-2), 2) := by decide +kernel
theorem dX10_set_57 : decode cX10_set 57 = .ok (.istore_n 3, 1) := by decide +kernel
theorem dX10_set_58 : decode cX10_set 58 = .ok (.iload_n 3, 1) := by decide +kernel
theorem dX10_set_59 : decode cX10_set 59 = .ok (.ireturn, 1) := by decide +kernel
theorem dX10_drum_0 : decode cX10_drum 0 = .ok (.iload_n 1, 1) := by decide +kernel
theorem dX10_drum_1 : decode cX10_drum 1 = .ok (.iload_n 2, 1) := by decide +kernel
theorem dX10_drum_2 : decode cX10_drum 2 = .ok (.invokestatic 105, 3) := by decide +kernel
theorem dX10_drum_5 : decode cX10_drum 5 = .ok (.ifCond .eq 12, 3) := by decide +kernel
theorem dX10_drum_8 : decode cX10_drum 8 = .ok (.iload_n 3, 1) := by decide +kernel
theorem dX10_drum_9 : decode cX10_drum 9 = .ok (.iconst 0, 1) := by decide +kernel
theorem dX10_drum_10 : decode cX10_drum 10 = .ok (.iconst 1, 1) := by decide +kernel
theorem dX10_drum_11 : decode cX10_drum 11 = .ok (.invokestatic 75, 3) := by decide +kernel
theorem dX10_drum_14 : decode cX10_drum 14 = .ok (.ifCond .ne 6, 3) := by decide +kernel
theorem dX10_drum_17 : decode cX10_drum 17 = .ok (.bipush (-2), 2) := by decide +kernel
theorem dX10_drum_19 : decode cX10_drum 19 = .ok (.ireturn, 1) := by decide +kernel
theorem dX10_drum_20 : decode cX10_drum 20 = .ok (.iload_n 3, 1) := by decide +kernel
theorem dX10_drum_21 : decode cX10_drum 21 = .ok (.ifCond .ne 11, 3) := by decide +kernel
theorem dX10_drum_24 : decode cX10_drum 24 = .ok (.iload_n 1, 1) := by decide +kernel
theorem dX10_drum_25 : decode cX10_drum 25 = .ok (.iload_n 2, 1) := by decide +kernel
theorem dX10_drum_26 : decode cX10_drum 26 = .ok (.invokestatic 111, 3) := by decide +kernel
theorem dX10_drum_29 : decode cX10_drum 29 = .ok (.goto 8, 3) := by decide +kernel
theorem dX10_drum_32 : decode cX10_drum 32 = .ok (.iload_n 1, 1) := by decide +kernel
theorem dX10_drum_33 : decode cX10_drum 33 = .ok (.iload_n 2, 1) := by decide +kernel
theorem dX10_drum_34 : decode cX10_drum 34 = .ok (.invokestatic 114, 3) := by decide +kernel
theorem dX10_drum_37 : decode cX10_drum 37 = .ok (.ireturn, 1) := by decide +kernel
theorem dX10_drift_0 : decode cX10_drift 0 = .ok (.iload_n 1, 1) := by decide +kernel
theorem dX10_drift_1 : decode cX10_drift 1 = .ok (.iload_n 2, 1) := by decide +kernel
theorem dX10_drift_2 : decode cX10_drift 2 = .ok (.invokestatic 105, 3) := by decide +kernel
theorem dX10_drift_5 : decode cX10_drift 5 = .ok (.ifCond .eq 12, 3) := by decide +kernel
theorem dX10_drift_8 : decode cX10_drift 8 = .ok (.iload_n 3, 1) := by decide +kernel
theorem dX10_drift_9 : decode cX10_drift 9 = .ok (.iconst 0, 1) := by decide +kernel
theorem dX10_drift_10 : decode cX10_drift 10 = .ok (.iconst 1, 1) := by decide +kernel
theorem dX10_drift_11 : decode cX10_drift 11 = .ok (.invokestatic 75, 3) := by decide +kernel
theorem dX10_drift_14 : decode cX10_drift 14 = .ok (.ifCond .ne 9, 3) := by decide +kernel
theorem dX10_drift_17 : decode cX10_drift 17 = .ok (.bipush (-2), 2) := by decide +kernel
theorem dX10_drift_19 : decode cX10_drift 19 = .ok (.invokestatic 117, 3) := by decide +kernel
theorem dX10_drift_22 : decode cX10_drift 22 = .ok (.lreturn, 1) := by decide +kernel
theorem dX10_drift_23 : decode cX10_drift 23 = .ok (.iload_n 1, 1) := by decide +kernel
theorem dX10_drift_24 : decode cX10_drift 24 = .ok (.iload_n 2, 1) := by decide +kernel
theorem dX10_drift_25 : decode cX10_drift 25 = .ok (.invokestatic 121, 3) := by decide +kernel
theorem dX10_drift_28 : decode cX10_drift 28 = .ok (.iload_n 1, 1) := by decide +kernel
theorem dX10_drift_29 : decode cX10_drift 29 = .ok (.iload_n 3, 1) := by decide +kernel
theorem dX10_drift_30 : decode cX10_drift 30 = .ok (.invokestatic 124, 3) := by decide +kernel
theorem dX10_drift_33 : decode cX10_drift 33 = .ok (.i2l, 1) := by decide +kernel
theorem dX10_drift_34 : decode cX10_drift 34 = .ok (.lreturn, 1) := by decide +kernel
theorem dX10_seen_0 : decode cX10_seen 0 = .ok (.aload_n 0, 1) := by decide +kernel
theorem dX10_seen_1 : decode cX10_seen 1 = .ok (.iload_n 1, 1) := by decide +kernel
theorem dX10_seen_2 : decode cX10_seen 2 = .ok (.invokevirtual 71, 3) := by decide +kernel
theorem dX10_seen_5 : decode cX10_seen 5 = .ok (.astore 4, 2) := by decide +kernel
theorem dX10_seen_7 : decode cX10_seen 7 = .ok (.aload 4, 2) := by decide +kernel
theorem dX10_seen_9 : decode cX10_seen 9 = .ok (.ifnull 24, 3) := by decide +kernel
theorem dX10_seen_12 : decode cX10_seen 12 = .ok (.iload_n 2, 1) := by decide +kernel
theorem dX10_seen_13 : decode cX10_seen 13 = .ok (.iconst 1, 1) := by decide +kernel
theorem dX10_seen_14 : decode cX10_seen 14 = .ok (.bipush 24, 2) := by decide +kernel
theorem dX10_seen_16 : decode cX10_seen 16 = .ok (.invokestatic 75, 3) := by decide +kernel
theorem dX10_seen_19 : decode cX10_seen 19 = .ok (.ifCond .eq 14, 3) := by decide +kernel
theorem dX10_seen_22 : decode cX10_seen 22 = .ok (.iload_n 3, 1) := by decide +kernel
theorem dX10_seen_23 : decode cX10_seen 23 = .ok (.iconst (-1), 1) := by decide +kernel
theorem dX10_seen_24 : decode cX10_seen 24 = .ok (.sipush 999, 3) := by decide +kernel
theorem dX10_seen_27 : decode cX10_seen 27 = .ok (.invokestatic 75, 3) := by decide +kernel
theorem dX10_seen_30 : decode cX10_seen 30 = .ok (.ifCond .ne 6, 3) := by decide +kernel
theorem dX10_seen_33 : decode cX10_seen 33 = .ok (.bipush (-2), 2) := by decide +kernel
theorem dX10_seen_35 : decode cX10_seen 35 = .ok (.ireturn, 1) := by decide +kernel
theorem dX10_seen_36 : decode cX10_seen 36 = .ok (.aload 4, 2) := by decide +kernel
theorem dX10_seen_38 : decode cX10_seen 38 = .ok (.getfield 129, 3) := by decide +kernel
theorem dX10_seen_41 : decode cX10_seen 41 = .ok (.ifCond .ne 6, 3) := by decide +kernel
theorem dX10_seen_44 : decode cX10_seen 44 = .ok (.bipush (-3), 2) := by decide +kernel
theorem dX10_seen_46 : decode cX10_seen 46 = .ok (.ireturn, 1) := by decide +kernel
theorem dX10_seen_47 : decode cX10_seen 47 = .ok (.iload_n 3, 1) := by decide +kernel
theorem dX10_seen_48 : decode cX10_seen 48 = .ok (.iconst (-1), 1) := by decide +kernel
theorem dX10_seen_49 : decode cX10_seen 49 = .ok (.if_icmp .ne 15, 3) := by decide +kernel
theorem dX10_seen_52 : decode cX10_seen 52 = .ok (.iload_n 2, 1) := by decide +kernel
theorem dX10_seen_53 : decode cX10_seen 53 = .ok (.aload 4, 2) := by decide +kernel
theorem dX10_seen_55 : decode cX10_seen 55 = .ok (.getfield 129, 3) := by decide +kernel
theorem dX10_seen_58 : decode cX10_seen 58 = .ok (.invokestatic 132, 3) := by decide +kernel
theorem dX10_seen_61 : decode cX10_seen 61 = .ok (.goto 13, 3) := by decide +kernel
theorem dX10_seen_64 : decode cX10_seen 64 = .ok (.iload_n 2, 1) := by decide +kernel
theorem dX10_seen_65 : decode cX10_seen 65 = .ok (.aload 4, 2) := by decide +kernel
theorem dX10_seen_67 : decode cX10_seen 67 = .ok (.getfield 129, 3) := by decide +kernel
theorem dX10_seen_70 : decode cX10_seen 70 = .ok (.iload_n 3, 1) := by decide +kernel
theorem dX10_seen_71 : decode cX10_seen 71 = .ok (.invokestatic 135, 3) := by decide +kernel
theorem dX10_seen_74 : decode cX10_seen 74 = .ok (.ireturn, 1) := by decide +kernel
theorem dX10_numbers_0 : decode cX10_numbers 0 = .ok (.iload_n 1, 1) := by decide +kernel
theorem dX10_numbers_1 : decode cX10_numbers 1 = .ok (.iconst 0, 1) := by decide +kernel
theorem dX10_numbers_2 : decode cX10_numbers 2 = .ok (.bipush 24, 2) := by decide +kernel
theorem dX10_numbers_4 : decode cX10_numbers 4 = .ok (.invokestatic 75, 3) := by decide +kernel
theorem dX10_numbers_7 : decode cX10_numbers 7 = .ok (.ifCond .eq 17, 3) := by decide +kernel
theorem dX10_numbers_10 : decode cX10_numbers 10 = .ok (.iload_n 2, 1) := by decide +kernel
theorem dX10_numbers_11 : decode cX10_numbers 11 = .ok (.iconst 0, 1) := by decide +kernel
theorem dX10_numbers_12 : decode cX10_numbers 12 = .ok (.iconst 3, 1) := by decide +kernel
theorem dX10_numbers_13 : decode cX10_numbers 13 = .ok (.invokestatic 75, 3) := by decide +kernel
theorem dX10_numbers_16 : decode cX10_numbers 16 = .ok (.ifCond .eq 8, 3) := by decide +kernel
theorem dX10_numbers_19 : decode cX10_numbers 19 = .ok (.iload_n 3, 1) := by decide +kernel
theorem dX10_numbers_20 : decode cX10_numbers 20 = .ok (.iconst (-1), 1) := by decide +kernel
theorem dX10_numbers_21 : decode cX10_numbers 21 = .ok (.if_icmp .ge 6, 3) := by decide +kernel
theorem dX10_numbers_24 : decode cX10_numbers 24 = .ok (.bipush (-2), 2) := by decide +kernel
theorem dX10_numbers_26 : decode cX10_numbers 26 = .ok (.ireturn, 1) := by decide +kernel
theorem dX10_numbers_27 : decode cX10_numbers 27 = .ok (.iload_n 1, 1) := by decide +kernel
theorem dX10_numbers_28 : decode cX10_numbers 28 = .ok (.iload_n 2, 1) := by decide +kernel
theorem dX10_numbers_29 : decode cX10_numbers 29 = .ok (.iload_n 3, 1) := by decide +kernel
theorem dX10_numbers_30 : decode cX10_numbers 30 = .ok (.invokestatic 138, 3) := by decide +kernel
theorem dX10_numbers_33 : decode cX10_numbers 33 = .ok (.ireturn, 1) := by decide +kernel
theorem dX10_wheel_0 : decode cX10_wheel 0 = .ok (.iload_n 1, 1) := by decide +kernel
theorem dX10_wheel_1 : decode cX10_wheel 1 = .ok (.iload_n 2, 1) := by decide +kernel
theorem dX10_wheel_2 : decode cX10_wheel 2 = .ok (.iload_n 3, 1) := by decide +kernel
theorem dX10_wheel_3 : decode cX10_wheel 3 = .ok (.invokestatic 141, 3) := by decide +kernel
theorem dX10_wheel_6 : decode cX10_wheel 6 = .ok (.ifCond .eq 13, 3) := by decide +kernel
theorem dX10_wheel_9 : decode cX10_wheel 9 = .ok (.iload 4, 2) := by decide +kernel
theorem dX10_wheel_11 : decode cX10_wheel 11 = .ok (.iconst 0, 1) := by decide +kernel
theorem dX10_wheel_12 : decode cX10_wheel 12 = .ok (.iconst 1, 1) := by decide +kernel
theorem dX10_wheel_13 : decode cX10_wheel 13 = .ok (.invokestatic 75, 3) := by decide +kernel
theorem dX10_wheel_16 : decode cX10_wheel 16 = .ok (.ifCond .ne 9, 3) := by decide +kernel
theorem dX10_wheel_19 : decode cX10_wheel 19 = .ok (.bipush (-2), 2) := by decide +kernel
theorem dX10_wheel_21 : decode cX10_wheel 21 = .ok (.invokestatic 117, 3) := by decide +kernel
theorem dX10_wheel_24 : decode cX10_wheel 24 = .ok (.lreturn, 1) := by decide +kernel
theorem dX10_wheel_25 : decode cX10_wheel 25 = .ok (.iload_n 1, 1) := by decide +kernel
theorem dX10_wheel_26 : decode cX10_wheel 26 = .ok (.iload_n 2, 1) := by decide +kernel
theorem dX10_wheel_27 : decode cX10_wheel 27 = .ok (.iload_n 3, 1) := by decide +kernel
theorem dX10_wheel_28 : decode cX10_wheel 28 = .ok (.invokestatic 145, 3) := by decide +kernel
theorem dX10_wheel_31 : decode cX10_wheel 31 = .ok (.iload_n 3, 1) := by decide +kernel
theorem dX10_wheel_32 : decode cX10_wheel 32 = .ok (.invokestatic 148, 3) := by decide +kernel
theorem dX10_wheel_35 : decode cX10_wheel 35 = .ok (.iload 4, 2) := by decide +kernel
theorem dX10_wheel_37 : decode cX10_wheel 37 = .ok (.invokestatic 124, 3) := by decide +kernel
theorem dX10_wheel_40 : decode cX10_wheel 40 = .ok (.i2l, 1) := by decide +kernel
theorem dX10_wheel_41 : decode cX10_wheel 41 = .ok (.lreturn, 1) := by decide +kernel
theorem dX10_fits_0 : decode cX10_fits 0 = .ok (.iload_n 1, 1) := by decide +kernel
theorem dX10_fits_1 : decode cX10_fits 1 = .ok (.iload_n 2, 1) := by decide +kernel
theorem dX10_fits_2 : decode cX10_fits 2 = .ok (.iload_n 3, 1) := by decide +kernel
theorem dX10_fits_3 : decode cX10_fits 3 = .ok (.invokestatic 141, 3) := by decide +kernel
theorem dX10_fits_6 : decode cX10_fits 6 = .ok (.ifCond .eq 17, 3) := by decide +kernel
theorem dX10_fits_9 : decode cX10_fits 9 = .ok (.iload 4, 2) := by decide +kernel
theorem dX10_fits_11 : decode cX10_fits 11 = .ok (.invokestatic 151, 3) := by decide +kernel
theorem dX10_fits_14 : decode cX10_fits 14 = .ok (.ifCond .eq 9, 3) := by decide +kernel
theorem dX10_fits_17 : decode cX10_fits 17 = .ok (.iload 5, 2) := by decide +kernel
theorem dX10_fits_19 : decode cX10_fits 19 = .ok (.iconst (-1), 1) := by decide +kernel
theorem dX10_fits_20 : decode cX10_fits 20 = .ok (.if_icmp .ge 6, 3) := by decide +kernel
theorem dX10_fits_23 : decode cX10_fits 23 = .ok (.bipush (-2), 2) := by decide +kernel
theorem dX10_fits_25 : decode cX10_fits 25 = .ok (.ireturn, 1) := by decide +kernel
theorem dX10_fits_26 : decode cX10_fits 26 = .ok (.iload 5, 2) := by decide +kernel
theorem dX10_fits_28 : decode cX10_fits 28 = .ok (.iconst (-1), 1) := by decide +kernel
theorem dX10_fits_29 : decode cX10_fits 29 = .ok (.if_icmp .ne 15, 3) := by decide +kernel
theorem dX10_fits_32 : decode cX10_fits 32 = .ok (.iload_n 1, 1) := by decide +kernel
theorem dX10_fits_33 : decode cX10_fits 33 = .ok (.iload_n 2, 1) := by decide +kernel
theorem dX10_fits_34 : decode cX10_fits 34 = .ok (.iload_n 3, 1) := by decide +kernel
theorem dX10_fits_35 : decode cX10_fits 35 = .ok (.iload 4, 2) := by decide +kernel
theorem dX10_fits_37 : decode cX10_fits 37 = .ok (.sipush 999, 3) := by decide +kernel
theorem dX10_fits_40 : decode cX10_fits 40 = .ok (.invokestatic 154, 3) := by decide +kernel
theorem dX10_fits_43 : decode cX10_fits 43 = .ok (.ireturn, 1) := by decide +kernel
theorem dX10_fits_44 : decode cX10_fits 44 = .ok (.iload_n 1, 1) := by decide +kernel
theorem dX10_fits_45 : decode cX10_fits 45 = .ok (.iload_n 2, 1) := by decide +kernel
theorem dX10_fits_46 : decode cX10_fits 46 = .ok (.iload_n 3, 1) := by decide +kernel
theorem dX10_fits_47 : decode cX10_fits 47 = .ok (.iload 4, 2) := by decide +kernel
theorem dX10_fits_49 : decode cX10_fits 49 = .ok (.iload 5, 2) := by decide +kernel
theorem dX10_fits_51 : decode cX10_fits 51 = .ok (.invokestatic 158, 3) := by decide +kernel
theorem dX10_fits_54 : decode cX10_fits 54 = .ok (.ireturn, 1) := by decide +kernel
theorem dX10_upTo_0 : decode cX10_upTo 0 = .ok (.iload_n 1, 1) := by decide +kernel
theorem dX10_upTo_1 : decode cX10_upTo 1 = .ok (.iload_n 2, 1) := by decide +kernel
theorem dX10_upTo_2 : decode cX10_upTo 2 = .ok (.iload_n 3, 1) := by decide +kernel
theorem dX10_upTo_3 : decode cX10_upTo 3 = .ok (.invokestatic 141, 3) := by decide +kernel
theorem dX10_upTo_6 : decode cX10_upTo 6 = .ok (.ifCond .eq 23, 3) := by decide +kernel
theorem dX10_upTo_9 : decode cX10_upTo 9 = .ok (.iload 4, 2) := by decide +kernel
theorem dX10_upTo_11 : decode cX10_upTo 11 = .ok (.invokestatic 151, 3) := by decide +kernel
theorem dX10_upTo_14 : decode cX10_upTo 14 = .ok (.ifCond .eq 15, 3) := by decide +kernel
theorem dX10_upTo_17 : decode cX10_upTo 17 = .ok (.iload 5, 2) := by decide +kernel
theorem dX10_upTo_19 : decode cX10_upTo 19 = .ok (.iconst 0, 1) := by decide +kernel
theorem dX10_upTo_20 : decode cX10_upTo 20 = .ok (.sipush 999, 3) := by decide +kernel
theorem dX10_upTo_23 : decode cX10_upTo 23 = .ok (.invokestatic 75, 3) := by decide +kernel
theorem dX10_upTo_26 : decode cX10_upTo 26 = .ok (.ifCond .ne 6, 3) := by decide +kernel
theorem dX10_upTo_29 : decode cX10_upTo 29 = .ok (.bipush (-2), 2) := by decide +kernel
theorem dX10_upTo_31 : decode cX10_upTo 31 = .ok (.ireturn, 1) := by decide +kernel
theorem dX10_upTo_32 : decode cX10_upTo 32 = .ok (.iload_n 1, 1) := by decide +kernel
theorem dX10_upTo_33 : decode cX10_upTo 33 = .ok (.iload_n 2, 1) := by decide +kernel
theorem dX10_upTo_34 : decode cX10_upTo 34 = .ok (.iload_n 3, 1) := by decide +kernel
theorem dX10_upTo_35 : decode cX10_upTo 35 = .ok (.iload 4, 2) := by decide +kernel
theorem dX10_upTo_37 : decode cX10_upTo 37 = .ok (.iload 5, 2) := by decide +kernel
theorem dX10_upTo_39 : decode cX10_upTo 39 = .ok (.invokestatic 154, 3) := by decide +kernel
theorem dX10_upTo_42 : decode cX10_upTo 42 = .ok (.ireturn, 1) := by decide +kernel
theorem dX10_dot_0 : decode cX10_dot 0 = .ok (.aload_n 0, 1) := by decide +kernel
theorem dX10_dot_1 : decode cX10_dot 1 = .ok (.iload_n 1, 1) := by decide +kernel
theorem dX10_dot_2 : decode cX10_dot 2 = .ok (.invokevirtual 161, 3) := by decide +kernel
theorem dX10_dot_5 : decode cX10_dot 5 = .ok (.astore 4, 2) := by decide +kernel
theorem dX10_dot_7 : decode cX10_dot 7 = .ok (.aload 4, 2) := by decide +kernel
theorem dX10_dot_9 : decode cX10_dot 9 = .ok (.ifnonnull 8, 3) := by decide +kernel
theorem dX10_dot_12 : decode cX10_dot 12 = .ok (.bipush (-2), 2) := by decide +kernel
theorem dX10_dot_14 : decode cX10_dot 14 = .ok (.goto 10, 3) := by decide +kernel
theorem dX10_dot_17 : decode cX10_dot 17 = .ok (.aload 4, 2) := by decide +kernel
theorem dX10_dot_19 : decode cX10_dot 19 = .ok (.iload_n 2, 1) := by decide +kernel
theorem dX10_dot_20 : decode cX10_dot 20 = .ok (.iload_n 3, 1) := by decide +kernel
theorem dX10_dot_21 : decode cX10_dot 21 = .ok (.invokevirtual 165, 3) := by decide +kernel
theorem dX10_dot_24 : decode cX10_dot 24 = .ok (.ireturn, 1) := by decide +kernel
theorem dX10_read_0 : decode cX10_read 0 = .ok (.aload_n 0, 1) := by decide +kernel
theorem dX10_read_1 : decode cX10_read 1 = .ok (.iload_n 1, 1) := by decide +kernel
theorem dX10_read_2 : decode cX10_read 2 = .ok (.invokevirtual 168, 3) := by decide +kernel
theorem dX10_read_5 : decode cX10_read 5 = .ok (.astore_n 3, 1) := by decide +kernel
theorem dX10_read_6 : decode cX10_read 6 = .ok (.aload_n 0, 1) := by decide +kernel
theorem dX10_read_7 : decode cX10_read 7 = .ok (.iload_n 2, 1) := by decide +kernel
theorem dX10_read_8 : decode cX10_read 8 = .ok (.invokevirtual 161, 3) := by decide +kernel
theorem dX10_read_11 : decode cX10_read 11 = .ok (.astore 4, 2) := by decide +kernel
theorem dX10_read_13 : decode cX10_read 13 = .ok (.aload_n 3, 1) := by decide +kernel
theorem dX10_read_14 : decode cX10_read 14 = .ok (.ifnull 8, 3) := by decide +kernel
theorem dX10_read_17 : decode cX10_read 17 = .ok (.aload 4, 2) := by decide +kernel
theorem dX10_read_19 : decode cX10_read 19 = .ok (.ifnonnull 6, 3) := by decide +kernel
theorem dX10_read_22 : decode cX10_read 22 = .ok (.bipush (-2), 2) := by decide +kernel
theorem dX10_read_24 : decode cX10_read 24 = .ok (.ireturn, 1) := by decide +kernel
theorem dX10_read_25 : decode cX10_read 25 = .ok (.aload_n 3, 1) := by decide +kernel
theorem dX10_read_26 : decode cX10_read 26 = .ok (.getfield 172, 3) := by decide +kernel
theorem dX10_read_29 : decode cX10_read 29 = .ok (.ifCond .eq 9, 3) := by decide +kernel
theorem dX10_read_32 : decode cX10_read 32 = .ok (.aload_n 0, 1) := by decide +kernel
theorem dX10_read_33 : decode cX10_read 33 = .ok (.iconst 1, 1) := by decide +kernel
theorem dX10_read_34 : decode cX10_read 34 = .ok (.invokevirtual 176, 3) := by decide +kernel
theorem dX10_read_37 : decode cX10_read 37 = .ok (.ireturn, 1) := by decide +kernel
theorem dX10_read_38 : decode cX10_read 38 = .ok (.iconst 0, 1) := by decide +kernel
theorem dX10_read_39 : decode cX10_read 39 = .ok (.istore 5, 2) := by decide +kernel
theorem dX10_read_41 : decode cX10_read 41 = .ok (.iload 5, 2) := by decide +kernel
theorem dX10_read_43 : decode cX10_read 43 = .ok (.aload_n 3, 1) := by decide +kernel
theorem dX10_read_44 : decode cX10_read 44 = .ok (.getfield 179, 3) := by decide +kernel
theorem dX10_read_47 : decode cX10_read 47 = .ok (.if_icmp .ge 24, 3) := by decide +kernel
theorem dX10_read_50 : decode cX10_read 50 = .ok (.aload 4, 2) := by decide +kernel
theorem dX10_read_52 : decode cX10_read 52 = .ok (.aload_n 3, 1) := by decide +kernel
theorem dX10_read_53 : decode cX10_read 53 = .ok (.iload 5, 2) := by decide +kernel
theorem dX10_read_55 : decode cX10_read 55 = .ok (.invokevirtual 182, 3) := by decide +kernel
theorem dX10_read_58 : decode cX10_read 58 = .ok (.iconst 0, 1) := by decide +kernel
theorem dX10_read_59 : decode cX10_read 59 = .ok (.invokevirtual 165, 3) := by decide +kernel
theorem dX10_read_62 : decode cX10_read 62 = .ok (.ifCond .lt 9, 3) := by decide +kernel
theorem dX10_read_65 : decode cX10_read 65 = .ok (.iinc 5 1, 3) := by decide +kernel
theorem dX10_read_68 : decode cX10_read 68 = .ok (.goto (-27), 3) := by decide +kernel
theorem dX10_read_71 : decode cX10_read 71 = .ok (.iload 5, 2) := by decide +kernel
theorem dX10_read_73 : decode cX10_read 73 = .ok (.ireturn, 1) := by decide +kernel
theorem dX10_blink_0 : decode cX10_blink 0 = .ok (.aload_n 0, 1) := by decide +kernel
theorem dX10_blink_1 : decode cX10_blink 1 = .ok (.iload_n 1, 1) := by decide +kernel
theorem dX10_blink_2 : decode cX10_blink 2 = .ok (.invokevirtual 161, 3) := by decide +kernel
theorem dX10_blink_5 : decode cX10_blink 5 = .ok (.astore_n 2, 1) := by decide +kernel
theorem dX10_blink_6 : decode cX10_blink 6 = .ok (.aload_n 2, 1) := by decide +kernel
theorem dX10_blink_7 : decode cX10_blink 7 = .ok (.ifnonnull 8, 3) := by decide +kernel
theorem dX10_blink_10 : decode cX10_blink 10 = .ok (.bipush (-2), 2) := by decide +kernel
theorem dX10_blink_12 : decode cX10_blink 12 = .ok (.goto 7, 3) := by decide +kernel
theorem dX10_blink_15 : decode cX10_blink 15 = .ok (.aload_n 2, 1) := by decide +kernel
theorem dX10_blink_16 : decode cX10_blink 16 = .ok (.invokevirtual 185, 3) := by decide +kernel
theorem dX10_blink_19 : decode cX10_blink 19 = .ok (.ireturn, 1) := by decide +kernel
theorem dX10_join_0 : decode cX10_join 0 = .ok (.iload_n 1, 1) := by decide +kernel
theorem dX10_join_1 : decode cX10_join 1 = .ok (.iconst 0, 1) := by decide +kernel
theorem dX10_join_2 : decode cX10_join 2 = .ok (.iconst 2, 1) := by decide +kernel
theorem dX10_join_3 : decode cX10_join 3 = .ok (.invokestatic 75, 3) := by decide +kernel
theorem dX10_join_6 : decode cX10_join 6 = .ok (.ifCond .ne 6, 3) := by decide +kernel
theorem dX10_join_9 : decode cX10_join 9 = .ok (.bipush (-2), 2) := by decide +kernel
theorem dX10_join_11 : decode cX10_join 11 = .ok (.ireturn, 1) := by decide +kernel
theorem dX10_join_12 : decode cX10_join 12 = .ok (.aload_n 0, 1) := by decide +kernel
theorem dX10_join_13 : decode cX10_join 13 = .ok (.getfield 39, 3) := by decide +kernel
theorem dX10_join_16 : decode cX10_join 16 = .ok (.aload_n 0, 1) := by decide +kernel
theorem dX10_join_17 : decode cX10_join 17 = .ok (.getfield 22, 3) := by decide +kernel
theorem dX10_join_20 : decode cX10_join 20 = .ok (.aload_n 0, 1) := by decide +kernel
theorem dX10_join_21 : decode cX10_join 21 = .ok (.getfield 26, 3) := by decide +kernel
theorem dX10_join_24 : decode cX10_join 24 = .ok (.aload_n 0, 1) := by decide +kernel
theorem dX10_join_25 : decode cX10_join 25 = .ok (.getfield 68, 3) := by decide +kernel
theorem dX10_join_28 : decode cX10_join 28 = .ok (.invokevirtual 186, 3) := by decide +kernel
theorem dX10_join_31 : decode cX10_join 31 = .ok (.iload_n 1, 1) := by decide +kernel
theorem dX10_join_32 : decode cX10_join 32 = .ok (.ifCond .ne 13, 3) := by decide +kernel
theorem dX10_join_35 : decode cX10_join 35 = .ok (.aload_n 0, 1) := by decide +kernel
theorem dX10_join_36 : decode cX10_join 36 = .ok (.getfield 39, 3) := by decide +kernel
theorem dX10_join_39 : decode cX10_join 39 = .ok (.invokevirtual 190, 3) := by decide +kernel
theorem dX10_join_42 : decode cX10_join 42 = .ok (.goto 25, 3) := by decide +kernel
theorem dX10_join_45 : decode cX10_join 45 = .ok (.iload_n 1, 1) := by decide +kernel
theorem dX10_join_46 : decode cX10_join 46 = .ok (.iconst 1, 1) := by decide +kernel
theorem dX10_join_47 : decode cX10_join 47 = .ok (.if_icmp .ne 13, 3) := by decide +kernel
theorem dX10_join_50 : decode cX10_join 50 = .ok (.aload_n 0, 1) := by decide +kernel
theorem dX10_join_51 : decode cX10_join 51 = .ok (.getfield 39, 3) := by decide +kernel
theorem dX10_join_54 : decode cX10_join 54 = .ok (.invokevirtual 193, 3) := by decide +kernel
theorem dX10_join_57 : decode cX10_join 57 = .ok (.goto 10, 3) := by decide +kernel
theorem dX10_join_60 : decode cX10_join 60 = .ok (.aload_n 0, 1) := by decide +kernel
theorem dX10_join_61 : decode cX10_join 61 = .ok (.getfield 39, 3) := by decide +kernel
theorem dX10_join_64 : decode cX10_join 64 = .ok (.invokevirtual 196, 3) := by decide +kernel
theorem dX10_join_67 : decode cX10_join 67 = .ok (.ireturn, 1) := by decide +kernel
theorem dX10_net_0 : decode cX10_net 0 = .ok (.aload_n 0, 1) := by decide +kernel
theorem dX10_net_1 : decode cX10_net 1 = .ok (.getfield 39, 3) := by decide +kernel
theorem dX10_net_4 : decode cX10_net 4 = .ok (.aload_n 0, 1) := by decide +kernel
theorem dX10_net_5 : decode cX10_net 5 = .ok (.getfield 22, 3) := by decide +kernel
theorem dX10_net_8 : decode cX10_net 8 = .ok (.aload_n 0, 1) := by decide +kernel
theorem dX10_net_9 : decode cX10_net 9 = .ok (.getfield 26, 3) := by decide +kernel
theorem dX10_net_12 : decode cX10_net 12 = .ok (.aload_n 0, 1) := by decide +kernel
theorem dX10_net_13 : decode cX10_net 13 = .ok (.getfield 68, 3) := by decide +kernel
theorem dX10_net_16 : decode cX10_net 16 = .ok (.invokevirtual 186, 3) := by decide +kernel
theorem dX10_net_19 : decode cX10_net 19 = .ok (.aload_n 0, 1) := by decide +kernel
theorem dX10_net_20 : decode cX10_net 20 = .ok (.getfield 39, 3) := by decide +kernel
theorem dX10_net_23 : decode cX10_net 23 = .ok (.getfield 199, 3) := by decide +kernel
theorem dX10_net_26 : decode cX10_net 26 = .ok (.ireturn, 1) := by decide +kernel
theorem dX10_joined_0 : decode cX10_joined 0 = .ok (.aload_n 0, 1) := by decide +kernel
theorem dX10_joined_1 : decode cX10_joined 1 = .ok (.iload_n 1, 1) := by decide +kernel
theorem dX10_joined_2 : decode cX10_joined 2 = .ok (.invokevirtual 161, 3) := by decide +kernel
theorem dX10_joined_5 : decode cX10_joined 5 = .ok (.astore_n 3, 1) := by decide +kernel
theorem dX10_joined_6 : decode cX10_joined 6 = .ok (.aload_n 3, 1) := by decide +kernel
theorem dX10_joined_7 : decode cX10_joined 7 = .ok (.ifnull 17, 3) := by decide +kernel
theorem dX10_joined_10 : decode cX10_joined 10 = .ok (.iload_n 2, 1) := by decide +kernel
theorem dX10_joined_11 : decode cX10_joined 11 = .ok (.iconst 0, 1) := by decide +kernel
theorem dX10_joined_12 : decode cX10_joined 12 = .ok (.aload_n 3, 1) := by decide +kernel
theorem dX10_joined_13 : decode cX10_joined 13 = .ok (.getfield 202, 3) := by decide +kernel
theorem dX10_joined_16 : decode cX10_joined 16 = .ok (.iconst 1, 1) := by decide +kernel
theorem dX10_joined_17 : decode cX10_joined 17 = .ok (.isub, 1) := by decide +kernel
theorem dX10_joined_18 : decode cX10_joined 18 = .ok (.invokestatic 75, 3) := by decide +kernel
theorem dX10_joined_21 : decode cX10_joined 21 = .ok (.ifCond .ne 6, 3) := by decide +kernel
theorem dX10_joined_24 : decode cX10_joined 24 = .ok (.bipush (-2), 2) := by decide +kernel
theorem dX10_joined_26 : decode cX10_joined 26 = .ok (.ireturn, 1) := by decide +kernel
theorem dX10_joined_27 : decode cX10_joined 27 = .ok (.aload_n 0, 1) := by decide +kernel
theorem dX10_joined_28 : decode cX10_joined 28 = .ok (.getfield 39, 3) := by decide +kernel
theorem dX10_joined_31 : decode cX10_joined 31 = .ok (.aload_n 0, 1) := by decide +kernel
theorem dX10_joined_32 : decode cX10_joined 32 = .ok (.getfield 22, 3) := by decide +kernel
theorem dX10_joined_35 : decode cX10_joined 35 = .ok (.aload_n 0, 1) := by decide +kernel
theorem dX10_joined_36 : decode cX10_joined 36 = .ok (.getfield 26, 3) := by decide +kernel
theorem dX10_joined_39 : decode cX10_joined 39 = .ok (.aload_n 0, 1) := by decide +kernel
theorem dX10_joined_40 : decode cX10_joined 40 = .ok (.getfield 68, 3) := by decide +kernel
theorem dX10_joined_43 : decode cX10_joined 43 = .ok (.invokevirtual 186, 3) := by decide +kernel
theorem dX10_joined_46 : decode cX10_joined 46 = .ok (.aload_n 0, 1) := by decide +kernel
theorem dX10_joined_47 : decode cX10_joined 47 = .ok (.getfield 39, 3) := by decide +kernel
theorem dX10_joined_50 : decode cX10_joined 50 = .ok (.aload_n 3, 1) := by decide +kernel
theorem dX10_joined_51 : decode cX10_joined 51 = .ok (.iload_n 2, 1) := by decide +kernel
theorem dX10_joined_52 : decode cX10_joined 52 = .ok (.invokevirtual 205, 3) := by decide +kernel
theorem dX10_joined_55 : decode cX10_joined 55 = .ok (.ireturn, 1) := by decide +kernel
theorem dX10_narrow_0 : decode cX10_narrow 0 = .ok (.iload_n 1, 1) := by decide +kernel
theorem dX10_narrow_1 : decode cX10_narrow 1 = .ok (.iconst 1, 1) := by decide +kernel
theorem dX10_narrow_2 : decode cX10_narrow 2 = .ok (.bipush 99, 2) := by decide +kernel
theorem dX10_narrow_4 : decode cX10_narrow 4 = .ok (.invokestatic 75, 3) := by decide +kernel
theorem dX10_narrow_7 : decode cX10_narrow 7 = .ok (.ifCond .eq 21, 3) := by decide +kernel
theorem dX10_narrow_10 : decode cX10_narrow 10 = .ok (.iload_n 2, 1) := by decide +kernel
theorem dX10_narrow_11 : decode cX10_narrow 11 = .ok (.iload_n 3, 1) := by decide +kernel
theorem dX10_narrow_12 : decode cX10_narrow 12 = .ok (.invokestatic 209, 3) := by decide +kernel
theorem dX10_narrow_15 : decode cX10_narrow 15 = .ok (.ifCond .eq 13, 3) := by decide +kernel
theorem dX10_narrow_18 : decode cX10_narrow 18 = .ok (.iload 4, 2) := by decide +kernel
theorem dX10_narrow_20 : decode cX10_narrow 20 = .ok (.iconst 0, 1) := by decide +kernel
theorem dX10_narrow_21 : decode cX10_narrow 21 = .ok (.iconst 1, 1) := by decide +kernel
theorem dX10_narrow_22 : decode cX10_narrow 22 = .ok (.invokestatic 75, 3) := by decide +kernel
theorem dX10_narrow_25 : decode cX10_narrow 25 = .ok (.ifCond .ne 9, 3) := by decide +kernel
theorem dX10_narrow_28 : decode cX10_narrow 28 = .ok (.bipush (-2), 2) := by decide +kernel
theorem dX10_narrow_30 : decode cX10_narrow 30 = .ok (.invokestatic 117, 3) := by decide +kernel
theorem dX10_narrow_33 : decode cX10_narrow 33 = .ok (.lreturn, 1) := by decide +kernel
theorem dX10_narrow_34 : decode cX10_narrow 34 = .ok (.iload_n 1, 1) := by decide +kernel
theorem dX10_narrow_35 : decode cX10_narrow 35 = .ok (.iload_n 3, 1) := by decide +kernel
theorem dX10_narrow_36 : decode cX10_narrow 36 = .ok (.imul, 1) := by decide +kernel
theorem dX10_narrow_37 : decode cX10_narrow 37 = .ok (.iload_n 2, 1) := by decide +kernel
theorem dX10_narrow_38 : decode cX10_narrow 38 = .ok (.iload_n 3, 1) := by decide +kernel
theorem dX10_narrow_39 : decode cX10_narrow 39 = .ok (.iadd, 1) := by decide +kernel
theorem dX10_narrow_40 : decode cX10_narrow 40 = .ok (.iload 4, 2) := by decide +kernel
theorem dX10_narrow_42 : decode cX10_narrow 42 = .ok (.invokestatic 124, 3) := by decide +kernel
theorem dX10_narrow_45 : decode cX10_narrow 45 = .ok (.i2l, 1) := by decide +kernel
theorem dX10_narrow_46 : decode cX10_narrow 46 = .ok (.lreturn, 1) := by decide +kernel
theorem dX10_wide_0 : decode cX10_wide 0 = .ok (.iload_n 1, 1) := by decide +kernel
theorem dX10_wide_1 : decode cX10_wide 1 = .ok (.iconst 0, 1) := by decide +kernel
theorem dX10_wide_2 : decode cX10_wide 2 = .ok (.bipush 99, 2) := by decide +kernel
theorem dX10_wide_4 : decode cX10_wide 4 = .ok (.invokestatic 75, 3) := by decide +kernel
theorem dX10_wide_7 : decode cX10_wide 7 = .ok (.ifCond .eq 11, 3) := by decide +kernel
theorem dX10_wide_10 : decode cX10_wide 10 = .ok (.iload_n 2, 1) := by decide +kernel
theorem dX10_wide_11 : decode cX10_wide 11 = .ok (.iload_n 3, 1) := by decide +kernel
theorem dX10_wide_12 : decode cX10_wide 12 = .ok (.invokestatic 209, 3) := by decide +kernel
theorem dX10_wide_15 : decode cX10_wide 15 = .ok (.ifCond .ne 6, 3) := by decide +kernel
theorem dX10_wide_18 : decode cX10_wide 18 = .ok (.bipush (-2), 2) := by decide +kernel
theorem dX10_wide_20 : decode cX10_wide 20 = .ok (.ireturn, 1) := by decide +kernel
theorem dX10_wide_21 : decode cX10_wide 21 = .ok (.iconst 1, 1) := by decide +kernel
theorem dX10_wide_22 : decode cX10_wide 22 = .ok (.istore 4, 2) := by decide +kernel
theorem dX10_wide_24 : decode cX10_wide 24 = .ok (.iload 4, 2) := by decide +kernel
theorem dX10_wide_26 : decode cX10_wide 26 = .ok (.sipush 999, 3) := by decide +kernel
theorem dX10_wide_29 : decode cX10_wide 29 = .ok (.if_icmp .gt 24, 3) := by decide +kernel
theorem dX10_wide_32 : decode cX10_wide 32 = .ok (.iload 4, 2) := by decide +kernel
theorem dX10_wide_34 : decode cX10_wide 34 = .ok (.iload_n 3, 1) := by decide +kernel
theorem dX10_wide_35 : decode cX10_wide 35 = .ok (.imul, 1) := by decide +kernel
theorem dX10_wide_36 : decode cX10_wide 36 = .ok (.iload_n 1, 1) := by decide +kernel
theorem dX10_wide_37 : decode cX10_wide 37 = .ok (.iload_n 2, 1) := by decide +kernel
theorem dX10_wide_38 : decode cX10_wide 38 = .ok (.iload_n 3, 1) := by decide +kernel
theorem dX10_wide_39 : decode cX10_wide 39 = .ok (.iadd, 1) := by decide +kernel
theorem dX10_wide_40 : decode cX10_wide 40 = .ok (.imul, 1) := by decide +kernel
theorem dX10_wide_41 : decode cX10_wide 41 = .ok (.if_icmp .lt 6, 3) := by decide +kernel
theorem dX10_wide_44 : decode cX10_wide 44 = .ok (.iload 4, 2) := by decide +kernel
theorem dX10_wide_46 : decode cX10_wide 46 = .ok (.ireturn, 1) := by decide +kernel
theorem dX10_wide_47 : decode cX10_wide 47 = .ok (.iinc 4 1, 3) := by decide +kernel
theorem dX10_wide_50 : decode cX10_wide 50 = .ok (.goto (-26), 3) := by decide +kernel
theorem dX10_wide_53 : decode cX10_wide 53 = .ok (.iconst (-1), 1) := by decide +kernel
theorem dX10_wide_54 : decode cX10_wide 54 = .ok (.ireturn, 1) := by decide +kernel
theorem dX10_slit_0 : decode cX10_slit 0 = .ok (.iload_n 1, 1) := by decide +kernel
theorem dX10_slit_1 : decode cX10_slit 1 = .ok (.iconst 0, 1) := by decide +kernel
theorem dX10_slit_2 : decode cX10_slit 2 = .ok (.bipush 99, 2) := by decide +kernel
theorem dX10_slit_4 : decode cX10_slit 4 = .ok (.invokestatic 75, 3) := by decide +kernel
theorem dX10_slit_7 : decode cX10_slit 7 = .ok (.ifCond .eq 13, 3) := by decide +kernel
theorem dX10_slit_10 : decode cX10_slit 10 = .ok (.iload_n 2, 1) := by decide +kernel
theorem dX10_slit_11 : decode cX10_slit 11 = .ok (.iconst 0, 1) := by decide +kernel
theorem dX10_slit_12 : decode cX10_slit 12 = .ok (.bipush 99, 2) := by decide +kernel
theorem dX10_slit_14 : decode cX10_slit 14 = .ok (.invokestatic 75, 3) := by decide +kernel
theorem dX10_slit_17 : decode cX10_slit 17 = .ok (.ifCond .ne 6, 3) := by decide +kernel
theorem dX10_slit_20 : decode cX10_slit 20 = .ok (.bipush (-2), 2) := by decide +kernel
theorem dX10_slit_22 : decode cX10_slit 22 = .ok (.ireturn, 1) := by decide +kernel
theorem dX10_slit_23 : decode cX10_slit 23 = .ok (.iconst 1, 1) := by decide +kernel
theorem dX10_slit_24 : decode cX10_slit 24 = .ok (.istore_n 3, 1) := by decide +kernel
theorem dX10_slit_25 : decode cX10_slit 25 = .ok (.iconst 2, 1) := by decide +kernel
theorem dX10_slit_26 : decode cX10_slit 26 = .ok (.istore 4, 2) := by decide +kernel
theorem dX10_slit_28 : decode cX10_slit 28 = .ok (.iload 4, 2) := by decide +kernel
theorem dX10_slit_30 : decode cX10_slit 30 = .ok (.bipush 20, 2) := by decide +kernel
theorem dX10_slit_32 : decode cX10_slit 32 = .ok (.if_icmp .gt 28, 3) := by decide +kernel
theorem dX10_slit_35 : decode cX10_slit 35 = .ok (.iload_n 1, 1) := by decide +kernel
theorem dX10_slit_36 : decode cX10_slit 36 = .ok (.iload_n 2, 1) := by decide +kernel
theorem dX10_slit_37 : decode cX10_slit 37 = .ok (.iload 4, 2) := by decide +kernel
theorem dX10_slit_39 : decode cX10_slit 39 = .ok (.invokestatic 212, 3) := by decide +kernel
theorem dX10_slit_42 : decode cX10_slit 42 = .ok (.iload_n 1, 1) := by decide +kernel
theorem dX10_slit_43 : decode cX10_slit 43 = .ok (.iload_n 2, 1) := by decide +kernel
theorem dX10_slit_44 : decode cX10_slit 44 = .ok (.iload_n 3, 1) := by decide +kernel
theorem dX10_slit_45 : decode cX10_slit 45 = .ok (.invokestatic 212, 3) := by decide +kernel
theorem dX10_slit_48 : decode cX10_slit 48 = .ok (.if_icmp .le 6, 3) := by decide +kernel
theorem dX10_slit_51 : decode cX10_slit 51 = .ok (.iload 4, 2) := by decide +kernel
theorem dX10_slit_53 : decode cX10_slit 53 = .ok (.istore_n 3, 1) := by decide +kernel
theorem dX10_slit_54 : decode cX10_slit 54 = .ok (.iinc 4 1, 3) := by decide +kernel
theorem dX10_slit_57 : decode cX10_slit 57 = .ok (.goto (-29), 3) := by decide +kernel
theorem dX10_slit_60 : decode cX10_slit 60 = .ok (.iload_n 3, 1) := by decide +kernel
theorem dX10_slit_61 : decode cX10_slit 61 = .ok (.ireturn, 1) := by decide +kernel
theorem dX10_order_0 : decode cX10_order 0 = .ok (.aload_n 0, 1) := by decide +kernel
theorem dX10_order_1 : decode cX10_order 1 = .ok (.iload_n 1, 1) := by decide +kernel
theorem dX10_order_2 : decode cX10_order 2 = .ok (.invokevirtual 71, 3) := by decide +kernel
theorem dX10_order_5 : decode cX10_order 5 = .ok (.astore_n 3, 1) := by decide +kernel
theorem dX10_order_6 : decode cX10_order 6 = .ok (.aload_n 3, 1) := by decide +kernel
theorem dX10_order_7 : decode cX10_order 7 = .ok (.ifnull 8, 3) := by decide +kernel
theorem dX10_order_10 : decode cX10_order 10 = .ok (.iload_n 2, 1) := by decide +kernel
theorem dX10_order_11 : decode cX10_order 11 = .ok (.iconst (-1), 1) := by decide +kernel
theorem dX10_order_12 : decode cX10_order 12 = .ok (.if_icmp .ge 6, 3) := by decide +kernel
theorem dX10_order_15 : decode cX10_order 15 = .ok (.bipush (-2), 2) := by decide +kernel
theorem dX10_order_17 : decode cX10_order 17 = .ok (.ireturn, 1) := by decide +kernel
theorem dX10_order_18 : decode cX10_order 18 = .ok (.aload_n 3, 1) := by decide +kernel
theorem dX10_order_19 : decode cX10_order 19 = .ok (.invokestatic 215, 3) := by decide +kernel
theorem dX10_order_22 : decode cX10_order 22 = .ok (.istore 4, 2) := by decide +kernel
theorem dX10_order_24 : decode cX10_order 24 = .ok (.iload 4, 2) := by decide +kernel
theorem dX10_order_26 : decode cX10_order 26 = .ok (.ifCond .eq 6, 3) := by decide +kernel
theorem dX10_order_29 : decode cX10_order 29 = .ok (.iload 4, 2) := by decide +kernel
theorem dX10_order_31 : decode cX10_order 31 = .ok (.ireturn, 1) := by decide +kernel
theorem dX10_order_32 : decode cX10_order 32 = .ok (.iload_n 2, 1) := by decide +kernel
theorem dX10_order_33 : decode cX10_order 33 = .ok (.aload_n 3, 1) := by decide +kernel
theorem dX10_order_34 : decode cX10_order 34 = .ok (.getfield 129, 3) := by decide +kernel
theorem dX10_order_37 : decode cX10_order 37 = .ok (.if_icmp .lt 6, 3) := by decide +kernel
theorem dX10_order_40 : decode cX10_order 40 = .ok (.bipush (-2), 2) := by decide +kernel
theorem dX10_order_42 : decode cX10_order 42 = .ok (.ireturn, 1) := by decide +kernel
theorem dX10_order_43 : decode cX10_order 43 = .ok (.aload_n 0, 1) := by decide +kernel
theorem dX10_order_44 : decode cX10_order 44 = .ok (.getfield 46, 3) := by decide +kernel
theorem dX10_order_47 : decode cX10_order 47 = .ok (.aload_n 3, 1) := by decide +kernel
theorem dX10_order_48 : decode cX10_order 48 = .ok (.aload_n 0, 1) := by decide +kernel
theorem dX10_order_49 : decode cX10_order 49 = .ok (.getfield 64, 3) := by decide +kernel
theorem dX10_order_52 : decode cX10_order 52 = .ok (.invokevirtual 219, 3) := by decide +kernel
theorem dX10_order_55 : decode cX10_order 55 = .ok (.iload_n 2, 1) := by decide +kernel
theorem dX10_order_56 : decode cX10_order 56 = .ok (.iconst (-1), 1) := by decide +kernel
theorem dX10_order_57 : decode cX10_order 57 = .ok (.if_icmp .ne 13, 3) := by decide +kernel
theorem dX10_order_60 : decode cX10_order 60 = .ok (.aload_n 0, 1) := by decide +kernel
theorem dX10_order_61 : decode cX10_order 61 = .ok (.getfield 46, 3) := by decide +kernel
theorem dX10_order_64 : decode cX10_order 64 = .ok (.invokevirtual 222, 3) := by decide +kernel
theorem dX10_order_67 : decode cX10_order 67 = .ok (.goto 11, 3) := by decide +kernel
theorem dX10_order_70 : decode cX10_order 70 = .ok (.aload_n 0, 1) := by decide +kernel
theorem dX10_order_71 : decode cX10_order 71 = .ok (.getfield 46, 3) := by decide +kernel
theorem dX10_order_74 : decode cX10_order 74 = .ok (.iload_n 2, 1) := by decide +kernel
theorem dX10_order_75 : decode cX10_order 75 = .ok (.invokevirtual 223, 3) := by decide +kernel
theorem dX10_order_78 : decode cX10_order 78 = .ok (.ireturn, 1) := by decide +kernel
theorem dX10_orders_0 : decode cX10_orders 0 = .ok (.aload_n 0, 1) := by decide +kernel
theorem dX10_orders_1 : decode cX10_orders 1 = .ok (.iload_n 1, 1) := by decide +kernel
theorem dX10_orders_2 : decode cX10_orders 2 = .ok (.invokevirtual 71, 3) := by decide +kernel
theorem dX10_orders_5 : decode cX10_orders 5 = .ok (.astore_n 2, 1) := by decide +kernel
theorem dX10_orders_6 : decode cX10_orders 6 = .ok (.aload_n 2, 1) := by decide +kernel
theorem dX10_orders_7 : decode cX10_orders 7 = .ok (.ifnonnull 6, 3) := by decide +kernel
theorem dX10_orders_10 : decode cX10_orders 10 = .ok (.bipush (-2), 2) := by decide +kernel
theorem dX10_orders_12 : decode cX10_orders 12 = .ok (.ireturn, 1) := by decide +kernel
theorem dX10_orders_13 : decode cX10_orders 13 = .ok (.aload_n 2, 1) := by decide +kernel
theorem dX10_orders_14 : decode cX10_orders 14 = .ok (.invokestatic 215, 3) := by decide +kernel
theorem dX10_orders_17 : decode cX10_orders 17 = .ok (.istore_n 3, 1) := by decide +kernel
theorem dX10_orders_18 : decode cX10_orders 18 = .ok (.iload_n 3, 1) := by decide +kernel
theorem dX10_orders_19 : decode cX10_orders 19 = .ok (.ifCond .eq 5, 3) := by decide +kernel
theorem dX10_orders_22 : decode cX10_orders 22 = .ok (.iload_n 3, 1) := by decide +kernel
theorem dX10_orders_23 : decode cX10_orders 23 = .ok (.ireturn, 1) := by decide +kernel
theorem dX10_orders_24 : decode cX10_orders 24 = .ok (.aload_n 0, 1) := by decide +kernel
theorem dX10_orders_25 : decode cX10_orders 25 = .ok (.getfield 46, 3) := by decide +kernel
theorem dX10_orders_28 : decode cX10_orders 28 = .ok (.aload_n 2, 1) := by decide +kernel
theorem dX10_orders_29 : decode cX10_orders 29 = .ok (.aload_n 0, 1) := by decide +kernel
theorem dX10_orders_30 : decode cX10_orders 30 = .ok (.getfield 64, 3) := by decide +kernel
theorem dX10_orders_33 : decode cX10_orders 33 = .ok (.invokevirtual 219, 3) := by decide +kernel
theorem dX10_orders_36 : decode cX10_orders 36 = .ok (.aload_n 0, 1) := by decide +kernel
theorem dX10_orders_37 : decode cX10_orders 37 = .ok (.getfield 46, 3) := by decide +kernel
theorem dX10_orders_40 : decode cX10_orders 40 = .ok (.invokevirtual 225, 3) := by decide +kernel
theorem dX10_orders_43 : decode cX10_orders 43 = .ok (.ireturn, 1) := by decide +kernel
theorem dX10_missing_0 : decode cX10_missing 0 = .ok (.aload_n 0, 1) := by decide +kernel
theorem dX10_missing_1 : decode cX10_missing 1 = .ok (.iload_n 1, 1) := by decide +kernel
theorem dX10_missing_2 : decode cX10_missing 2 = .ok (.invokevirtual 71, 3) := by decide +kernel
theorem dX10_missing_5 : decode cX10_missing 5 = .ok (.astore_n 3, 1) := by decide +kernel
theorem dX10_missing_6 : decode cX10_missing 6 = .ok (.aload_n 3, 1) := by decide +kernel
theorem dX10_missing_7 : decode cX10_missing 7 = .ok (.ifnull 12, 3) := by decide +kernel
theorem dX10_missing_10 : decode cX10_missing 10 = .ok (.iload_n 2, 1) := by decide +kernel
theorem dX10_missing_11 : decode cX10_missing 11 = .ok (.iconst 0, 1) := by decide +kernel
theorem dX10_missing_12 : decode cX10_missing 12 = .ok (.iconst 1, 1) := by decide +kernel
theorem dX10_missing_13 : decode cX10_missing 13 = .ok (.invokestatic 75, 3) := by decide +kernel
theorem dX10_missing_16 : decode cX10_missing 16 = .ok (.ifCond .ne 6, 3) := by decide +kernel
theorem dX10_missing_19 : decode cX10_missing 19 = .ok (.bipush (-2), 2) := by decide +kernel
theorem dX10_missing_21 : decode cX10_missing 21 = .ok (.ireturn, 1) := by decide +kernel
theorem dX10_missing_22 : decode cX10_missing 22 = .ok (.aload_n 3, 1) := by decide +kernel
theorem dX10_missing_23 : decode cX10_missing 23 = .ok (.getfield 129, 3) := by decide +kernel
theorem dX10_missing_26 : decode cX10_missing 26 = .ok (.ifCond .ne 6, 3) := by decide +kernel
theorem dX10_missing_29 : decode cX10_missing 29 = .ok (.bipush (-3), 2) := by decide +kernel
theorem dX10_missing_31 : decode cX10_missing 31 = .ok (.ireturn, 1) := by decide +kernel
theorem dX10_missing_32 : decode cX10_missing 32 = .ok (.aload_n 3, 1) := by decide +kernel
theorem dX10_missing_33 : decode cX10_missing 33 = .ok (.aload_n 0, 1) := by decide +kernel
theorem dX10_missing_34 : decode cX10_missing 34 = .ok (.getfield 64, 3) := by decide +kernel
theorem dX10_missing_37 : decode cX10_missing 37 = .ok (.invokevirtual 226, 3) := by decide +kernel
theorem dX10_missing_40 : decode cX10_missing 40 = .ok (.istore 4, 2) := by decide +kernel
theorem dX10_missing_42 : decode cX10_missing 42 = .ok (.iload_n 2, 1) := by decide +kernel
theorem dX10_missing_43 : decode cX10_missing 43 = .ok (.ifCond .ne 6, 3) := by decide +kernel
theorem dX10_missing_46 : decode cX10_missing 46 = .ok (.iload 4, 2) := by decide +kernel
theorem dX10_missing_48 : decode cX10_missing 48 = .ok (.ireturn, 1) := by decide +kernel
theorem dX10_missing_49 : decode cX10_missing 49 = .ok (.iload 4, 2) := by decide +kernel
theorem dX10_missing_51 : decode cX10_missing 51 = .ok (.iconst (-1), 1) := by decide +kernel
theorem dX10_missing_52 : decode cX10_missing 52 = .ok (.if_icmp .ne 7, 3) := by decide +kernel
theorem dX10_missing_55 : decode cX10_missing 55 = .ok (.iconst 0, 1) := by decide +kernel
theorem dX10_missing_56 : decode cX10_missing 56 = .ok (.goto 13, 3) := by decide +kernel
theorem dX10_missing_59 : decode cX10_missing 59 = .ok (.aload_n 3, 1) := by decide +kernel
theorem dX10_missing_60 : decode cX10_missing 60 = .ok (.iload 4, 2) := by decide +kernel
theorem dX10_missing_62 : decode cX10_missing 62 = .ok (.aload_n 0, 1) := by decide +kernel
theorem dX10_missing_63 : decode cX10_missing 63 = .ok (.getfield 64, 3) := by decide +kernel
theorem dX10_missing_66 : decode cX10_missing 66 = .ok (.invokevirtual 229, 3) := by decide +kernel
theorem dX10_missing_69 : decode cX10_missing 69 = .ok (.ireturn, 1) := by decide +kernel
theorem dX10_half_0 : decode cX10_half 0 = .ok (.aload_n 0, 1) := by decide +kernel
theorem dX10_half_1 : decode cX10_half 1 = .ok (.iload_n 1, 1) := by decide +kernel
theorem dX10_half_2 : decode cX10_half 2 = .ok (.invokevirtual 71, 3) := by decide +kernel
theorem dX10_half_5 : decode cX10_half 5 = .ok (.astore 4, 2) := by decide +kernel
theorem dX10_half_7 : decode cX10_half 7 = .ok (.aload 4, 2) := by decide +kernel
theorem dX10_half_9 : decode cX10_half 9 = .ok (.ifnull 21, 3) := by decide +kernel
theorem dX10_half_12 : decode cX10_half 12 = .ok (.aload 4, 2) := by decide +kernel
theorem dX10_half_14 : decode cX10_half 14 = .ok (.iload_n 2, 1) := by decide +kernel
theorem dX10_half_15 : decode cX10_half 15 = .ok (.invokevirtual 90, 3) := by decide +kernel
theorem dX10_half_18 : decode cX10_half 18 = .ok (.ifCond .eq 12, 3) := by decide +kernel
theorem dX10_half_21 : decode cX10_half 21 = .ok (.iload_n 3, 1) := by decide +kernel
theorem dX10_half_22 : decode cX10_half 22 = .ok (.iconst 0, 1) := by decide +kernel
theorem dX10_half_23 : decode cX10_half 23 = .ok (.iconst 3, 1) := by decide +kernel
theorem dX10_half_24 : decode cX10_half 24 = .ok (.invokestatic 75, 3) := by decide +kernel
theorem dX10_half_27 : decode cX10_half 27 = .ok (.ifCond .ne 6, 3) := by decide +kernel
theorem dX10_half_30 : decode cX10_half 30 = .ok (.bipush (-2), 2) := by decide +kernel
theorem dX10_half_32 : decode cX10_half 32 = .ok (.ireturn, 1) := by decide +kernel
theorem dX10_half_33 : decode cX10_half 33 = .ok (.aload 4, 2) := by decide +kernel
theorem dX10_half_35 : decode cX10_half 35 = .ok (.iload_n 2, 1) := by decide +kernel
theorem dX10_half_36 : decode cX10_half 36 = .ok (.iload_n 3, 1) := by decide +kernel
theorem dX10_half_37 : decode cX10_half 37 = .ok (.invokevirtual 232, 3) := by decide +kernel
theorem dX10_half_40 : decode cX10_half 40 = .ok (.ireturn, 1) := by decide +kernel
theorem dX10_few_0 : decode cX10_few 0 = .ok (.aload_n 0, 1) := by decide +kernel
theorem dX10_few_1 : decode cX10_few 1 = .ok (.iload_n 1, 1) := by decide +kernel
theorem dX10_few_2 : decode cX10_few 2 = .ok (.invokevirtual 71, 3) := by decide +kernel
theorem dX10_few_5 : decode cX10_few 5 = .ok (.astore_n 3, 1) := by decide +kernel
theorem dX10_few_6 : decode cX10_few 6 = .ok (.aload_n 3, 1) := by decide +kernel
theorem dX10_few_7 : decode cX10_few 7 = .ok (.ifnull 13, 3) := by decide +kernel
theorem dX10_few_10 : decode cX10_few 10 = .ok (.iload_n 2, 1) := by decide +kernel
theorem dX10_few_11 : decode cX10_few 11 = .ok (.iconst 0, 1) := by decide +kernel
theorem dX10_few_12 : decode cX10_few 12 = .ok (.bipush 60, 2) := by decide +kernel
theorem dX10_few_14 : decode cX10_few 14 = .ok (.invokestatic 75, 3) := by decide +kernel
theorem dX10_few_17 : decode cX10_few 17 = .ok (.ifCond .ne 6, 3) := by decide +kernel
theorem dX10_few_20 : decode cX10_few 20 = .ok (.bipush (-2), 2) := by decide +kernel
theorem dX10_few_22 : decode cX10_few 22 = .ok (.ireturn, 1) := by decide +kernel
theorem dX10_few_23 : decode cX10_few 23 = .ok (.aload_n 3, 1) := by decide +kernel
theorem dX10_few_24 : decode cX10_few 24 = .ok (.getfield 129, 3) := by decide +kernel
theorem dX10_few_27 : decode cX10_few 27 = .ok (.ifCond .ne 8, 3) := by decide +kernel
theorem dX10_few_30 : decode cX10_few 30 = .ok (.bipush (-3), 2) := by decide +kernel
theorem dX10_few_32 : decode cX10_few 32 = .ok (.goto 12, 3) := by decide +kernel
theorem dX10_few_35 : decode cX10_few 35 = .ok (.aload_n 3, 1) := by decide +kernel
theorem dX10_few_36 : decode cX10_few 36 = .ok (.iload_n 2, 1) := by decide +kernel
theorem dX10_few_37 : decode cX10_few 37 = .ok (.aload_n 0, 1) := by decide +kernel
theorem dX10_few_38 : decode cX10_few 38 = .ok (.getfield 64, 3) := by decide +kernel
theorem dX10_few_41 : decode cX10_few 41 = .ok (.invokevirtual 235, 3) := by decide +kernel
theorem dX10_few_44 : decode cX10_few 44 = .ok (.ireturn, 1) := by decide +kernel
theorem dX10_tries_0 : decode cX10_tries 0 = .ok (.iload_n 1, 1) := by decide +kernel
theorem dX10_tries_1 : decode cX10_tries 1 = .ok (.iconst 1, 1) := by decide +kernel
theorem dX10_tries_2 : decode cX10_tries 2 = .ok (.bipush 60, 2) := by decide +kernel
theorem dX10_tries_4 : decode cX10_tries 4 = .ok (.invokestatic 75, 3) := by decide +kernel
theorem dX10_tries_7 : decode cX10_tries 7 = .ok (.ifCond .eq 22, 3) := by decide +kernel
theorem dX10_tries_10 : decode cX10_tries 10 = .ok (.iload_n 2, 1) := by decide +kernel
theorem dX10_tries_11 : decode cX10_tries 11 = .ok (.iconst 0, 1) := by decide +kernel
theorem dX10_tries_12 : decode cX10_tries 12 = .ok (.bipush 9, 2) := by decide +kernel
theorem dX10_tries_14 : decode cX10_tries 14 = .ok (.invokestatic 75, 3) := by decide +kernel
theorem dX10_tries_17 : decode cX10_tries 17 = .ok (.ifCond .eq 12, 3) := by decide +kernel
theorem dX10_tries_20 : decode cX10_tries 20 = .ok (.iload_n 3, 1) := by decide +kernel
theorem dX10_tries_21 : decode cX10_tries 21 = .ok (.iconst 0, 1) := by decide +kernel
theorem dX10_tries_22 : decode cX10_tries 22 = .ok (.iconst 1, 1) := by decide +kernel
theorem dX10_tries_23 : decode cX10_tries 23 = .ok (.invokestatic 75, 3) := by decide +kernel
theorem dX10_tries_26 : decode cX10_tries 26 = .ok (.ifCond .ne 6, 3) := by decide +kernel
theorem dX10_tries_29 : decode cX10_tries 29 = .ok (.bipush (-2), 2) := by decide +kernel
theorem dX10_tries_31 : decode cX10_tries 31 = .ok (.ireturn, 1) := by decide +kernel
theorem dX10_tries_32 : decode cX10_tries 32 = .ok (.aload_n 0, 1) := by decide +kernel
theorem dX10_tries_33 : decode cX10_tries 33 = .ok (.getfield 53, 3) := by decide +kernel
theorem dX10_tries_36 : decode cX10_tries 36 = .ok (.iload_n 1, 1) := by decide +kernel
theorem dX10_tries_37 : decode cX10_tries 37 = .ok (.iload_n 2, 1) := by decide +kernel
theorem dX10_tries_38 : decode cX10_tries 38 = .ok (.iload_n 3, 1) := by decide +kernel
theorem dX10_tries_39 : decode cX10_tries 39 = .ok (.invokevirtual 238, 3) := by decide +kernel
theorem dX10_tries_42 : decode cX10_tries 42 = .ok (.ireturn, 1) := by decide +kernel
theorem dX10_wrong_0 : decode cX10_wrong 0 = .ok (.iload_n 1, 1) := by decide +kernel
theorem dX10_wrong_1 : decode cX10_wrong 1 = .ok (.iconst 0, 1) := by decide +kernel
theorem dX10_wrong_2 : decode cX10_wrong 2 = .ok (.bipush 60, 2) := by decide +kernel
theorem dX10_wrong_4 : decode cX10_wrong 4 = .ok (.invokestatic 75, 3) := by decide +kernel
theorem dX10_wrong_7 : decode cX10_wrong 7 = .ok (.ifCond .eq 13, 3) := by decide +kernel
theorem dX10_wrong_10 : decode cX10_wrong 10 = .ok (.iload_n 2, 1) := by decide +kernel
theorem dX10_wrong_11 : decode cX10_wrong 11 = .ok (.iconst 0, 1) := by decide +kernel
theorem dX10_wrong_12 : decode cX10_wrong 12 = .ok (.bipush 9, 2) := by decide +kernel
theorem dX10_wrong_14 : decode cX10_wrong 14 = .ok (.invokestatic 75, 3) := by decide +kernel
theorem dX10_wrong_17 : decode cX10_wrong 17 = .ok (.ifCond .ne 6, 3) := by decide +kernel
theorem dX10_wrong_20 : decode cX10_wrong 20 = .ok (.bipush (-2), 2) := by decide +kernel
theorem dX10_wrong_22 : decode cX10_wrong 22 = .ok (.ireturn, 1) := by decide +kernel
theorem dX10_wrong_23 : decode cX10_wrong 23 = .ok (.aload_n 0, 1) := by decide +kernel
theorem dX10_wrong_24 : decode cX10_wrong 24 = .ok (.getfield 53, 3) := by decide +kernel
theorem dX10_wrong_27 : decode cX10_wrong 27 = .ok (.iload_n 1, 1) := by decide +kernel
theorem dX10_wrong_28 : decode cX10_wrong 28 = .ok (.iload_n 2, 1) := by decide +kernel
theorem dX10_wrong_29 : decode cX10_wrong 29 = .ok (.invokevirtual 240, 3) := by decide +kernel
theorem dX10_wrong_32 : decode cX10_wrong 32 = .ok (.ireturn, 1) := by decide +kernel
theorem dX10_line_0 : decode cX10_line 0 = .ok (.iload_n 1, 1) := by decide +kernel
theorem dX10_line_1 : decode cX10_line 1 = .ok (.iconst 0, 1) := by decide +kernel
theorem dX10_line_2 : decode cX10_line 2 = .ok (.iconst 2, 1) := by decide +kernel
theorem dX10_line_3 : decode cX10_line 3 = .ok (.invokestatic 75, 3) := by decide +kernel
theorem dX10_line_6 : decode cX10_line 6 = .ok (.ifCond .ne 6, 3) := by decide +kernel
theorem dX10_line_9 : decode cX10_line 9 = .ok (.bipush (-2), 2) := by decide +kernel
theorem dX10_line_11 : decode cX10_line 11 = .ok (.ireturn, 1) := by decide +kernel
theorem dX10_line_12 : decode cX10_line 12 = .ok (.aload_n 0, 1) := by decide +kernel
theorem dX10_line_13 : decode cX10_line 13 = .ok (.getfield 53, 3) := by decide +kernel
theorem dX10_line_16 : decode cX10_line 16 = .ok (.getfield 243, 3) := by decide +kernel
theorem dX10_line_19 : decode cX10_line 19 = .ok (.ifCond .ne 6, 3) := by decide +kernel
theorem dX10_line_22 : decode cX10_line 22 = .ok (.bipush (-3), 2) := by decide +kernel
theorem dX10_line_24 : decode cX10_line 24 = .ok (.ireturn, 1) := by decide +kernel
theorem dX10_line_25 : decode cX10_line 25 = .ok (.aload_n 0, 1) := by decide +kernel
theorem dX10_line_26 : decode cX10_line 26 = .ok (.getfield 53, 3) := by decide +kernel
theorem dX10_line_29 : decode cX10_line 29 = .ok (.invokevirtual 246, 3) := by decide +kernel
theorem dX10_line_32 : decode cX10_line 32 = .ok (.iload_n 1, 1) := by decide +kernel
theorem dX10_line_33 : decode cX10_line 33 = .ok (.ifCond .ne 13, 3) := by decide +kernel
theorem dX10_line_36 : decode cX10_line 36 = .ok (.aload_n 0, 1) := by decide +kernel
theorem dX10_line_37 : decode cX10_line 37 = .ok (.getfield 53, 3) := by decide +kernel
theorem dX10_line_40 : decode cX10_line 40 = .ok (.getfield 248, 3) := by decide +kernel
theorem dX10_line_43 : decode cX10_line 43 = .ok (.goto 25, 3) := by decide +kernel
theorem dX10_line_46 : decode cX10_line 46 = .ok (.iload_n 1, 1) := by decide +kernel
theorem dX10_line_47 : decode cX10_line 47 = .ok (.iconst 1, 1) := by decide +kernel
theorem dX10_line_48 : decode cX10_line 48 = .ok (.if_icmp .ne 13, 3) := by decide +kernel
theorem dX10_line_51 : decode cX10_line 51 = .ok (.aload_n 0, 1) := by decide +kernel
theorem dX10_line_52 : decode cX10_line 52 = .ok (.getfield 53, 3) := by decide +kernel
theorem dX10_line_55 : decode cX10_line 55 = .ok (.getfield 251, 3) := by decide +kernel
theorem dX10_line_58 : decode cX10_line 58 = .ok (.goto 10, 3) := by decide +kernel
theorem dX10_line_61 : decode cX10_line 61 = .ok (.aload_n 0, 1) := by decide +kernel
theorem dX10_line_62 : decode cX10_line 62 = .ok (.getfield 53, 3) := by decide +kernel
theorem dX10_line_65 : decode cX10_line 65 = .ok (.getfield 254, 3) := by decide +kernel
theorem dX10_line_68 : decode cX10_line 68 = .ok (.ireturn, 1) := by decide +kernel
theorem dX10_bent_0 : decode cX10_bent 0 = .ok (.aload_n 0, 1) := by decide +kernel
theorem dX10_bent_1 : decode cX10_bent 1 = .ok (.iload_n 1, 1) := by decide +kernel
theorem dX10_bent_2 : decode cX10_bent 2 = .ok (.invokevirtual 168, 3) := by decide +kernel
theorem dX10_bent_5 : decode cX10_bent 5 = .ok (.astore_n 3, 1) := by decide +kernel
theorem dX10_bent_6 : decode cX10_bent 6 = .ok (.aload_n 3, 1) := by decide +kernel
theorem dX10_bent_7 : decode cX10_bent 7 = .ok (.ifnull 12, 3) := by decide +kernel
theorem dX10_bent_10 : decode cX10_bent 10 = .ok (.iload_n 2, 1) := by decide +kernel
theorem dX10_bent_11 : decode cX10_bent 11 = .ok (.iconst 0, 1) := by decide +kernel
theorem dX10_bent_12 : decode cX10_bent 12 = .ok (.iconst 2, 1) := by decide +kernel
theorem dX10_bent_13 : decode cX10_bent 13 = .ok (.invokestatic 75, 3) := by decide +kernel
theorem dX10_bent_16 : decode cX10_bent 16 = .ok (.ifCond .ne 6, 3) := by decide +kernel
theorem dX10_bent_19 : decode cX10_bent 19 = .ok (.bipush (-2), 2) := by decide +kernel
theorem dX10_bent_21 : decode cX10_bent 21 = .ok (.ireturn, 1) := by decide +kernel
theorem dX10_bent_22 : decode cX10_bent 22 = .ok (.aload_n 3, 1) := by decide +kernel
theorem dX10_bent_23 : decode cX10_bent 23 = .ok (.getfield 172, 3) := by decide +kernel
theorem dX10_bent_26 : decode cX10_bent 26 = .ok (.ifCond .eq 9, 3) := by decide +kernel
theorem dX10_bent_29 : decode cX10_bent 29 = .ok (.aload_n 0, 1) := by decide +kernel
theorem dX10_bent_30 : decode cX10_bent 30 = .ok (.iconst 1, 1) := by decide +kernel
theorem dX10_bent_31 : decode cX10_bent 31 = .ok (.invokevirtual 176, 3) := by decide +kernel
theorem dX10_bent_34 : decode cX10_bent 34 = .ok (.ireturn, 1) := by decide +kernel
theorem dX10_bent_35 : decode cX10_bent 35 = .ok (.aload_n 3, 1) := by decide +kernel
theorem dX10_bent_36 : decode cX10_bent 36 = .ok (.getfield 179, 3) := by decide +kernel
theorem dX10_bent_39 : decode cX10_bent 39 = .ok (.ifCond .ne 6, 3) := by decide +kernel
theorem dX10_bent_42 : decode cX10_bent 42 = .ok (.bipush (-3), 2) := by decide +kernel
theorem dX10_bent_44 : decode cX10_bent 44 = .ok (.ireturn, 1) := by decide +kernel
theorem dX10_bent_45 : decode cX10_bent 45 = .ok (.aload_n 0, 1) := by decide +kernel
theorem dX10_bent_46 : decode cX10_bent 46 = .ok (.getfield 60, 3) := by decide +kernel
theorem dX10_bent_49 : decode cX10_bent 49 = .ok (.aload_n 3, 1) := by decide +kernel
theorem dX10_bent_50 : decode cX10_bent 50 = .ok (.invokevirtual 257, 3) := by decide +kernel
theorem dX10_bent_53 : decode cX10_bent 53 = .ok (.iload_n 2, 1) := by decide +kernel
theorem dX10_bent_54 : decode cX10_bent 54 = .ok (.ifCond .ne 13, 3) := by decide +kernel
theorem dX10_bent_57 : decode cX10_bent 57 = .ok (.aload_n 0, 1) := by decide +kernel
theorem dX10_bent_58 : decode cX10_bent 58 = .ok (.getfield 60, 3) := by decide +kernel
theorem dX10_bent_61 : decode cX10_bent 61 = .ok (.getfield 260, 3) := by decide +kernel
theorem dX10_bent_64 : decode cX10_bent 64 = .ok (.goto 25, 3) := by decide +kernel
theorem dX10_bent_67 : decode cX10_bent 67 = .ok (.iload_n 2, 1) := by decide +kernel
theorem dX10_bent_68 : decode cX10_bent 68 = .ok (.iconst 1, 1) := by decide +kernel
theorem dX10_bent_69 : decode cX10_bent 69 = .ok (.if_icmp .ne 13, 3) := by decide +kernel
theorem dX10_bent_72 : decode cX10_bent 72 = .ok (.aload_n 0, 1) := by decide +kernel
theorem dX10_bent_73 : decode cX10_bent 73 = .ok (.getfield 60, 3) := by decide +kernel
theorem dX10_bent_76 : decode cX10_bent 76 = .ok (.getfield 263, 3) := by decide +kernel
theorem dX10_bent_79 : decode cX10_bent 79 = .ok (.goto 10, 3) := by decide +kernel
theorem dX10_bent_82 : decode cX10_bent 82 = .ok (.aload_n 0, 1) := by decide +kernel
theorem dX10_bent_83 : decode cX10_bent 83 = .ok (.getfield 60, 3) := by decide +kernel
theorem dX10_bent_86 : decode cX10_bent 86 = .ok (.getfield 264, 3) := by decide +kernel
theorem dX10_bent_89 : decode cX10_bent 89 = .ok (.ireturn, 1) := by decide +kernel
theorem dX10_sheet_0 : decode cX10_sheet 0 = .ok (.aload_n 0, 1) := by decide +kernel
theorem dX10_sheet_1 : decode cX10_sheet 1 = .ok (.iload_n 1, 1) := by decide +kernel
theorem dX10_sheet_2 : decode cX10_sheet 2 = .ok (.invokevirtual 168, 3) := by decide +kernel
theorem dX10_sheet_5 : decode cX10_sheet 5 = .ok (.astore 4, 2) := by decide +kernel
theorem dX10_sheet_7 : decode cX10_sheet 7 = .ok (.aload 4, 2) := by decide +kernel
theorem dX10_sheet_9 : decode cX10_sheet 9 = .ok (.ifnull 16, 3) := by decide +kernel
theorem dX10_sheet_12 : decode cX10_sheet 12 = .ok (.iload_n 2, 1) := by decide +kernel
theorem dX10_sheet_13 : decode cX10_sheet 13 = .ok (.invokestatic 267, 3) := by decide +kernel
theorem dX10_sheet_16 : decode cX10_sheet 16 = .ok (.ifCond .eq 9, 3) := by decide +kernel
theorem dX10_sheet_19 : decode cX10_sheet 19 = .ok (.iload_n 3, 1) := by decide +kernel
theorem dX10_sheet_20 : decode cX10_sheet 20 = .ok (.bipush 60, 2) := by decide +kernel
theorem dX10_sheet_22 : decode cX10_sheet 22 = .ok (.if_icmp .le 6, 3) := by decide +kernel
theorem dX10_sheet_25 : decode cX10_sheet 25 = .ok (.bipush (-2), 2) := by decide +kernel
theorem dX10_sheet_27 : decode cX10_sheet 27 = .ok (.ireturn, 1) := by decide +kernel
theorem dX10_sheet_28 : decode cX10_sheet 28 = .ok (.iload_n 3, 1) := by decide +kernel
theorem dX10_sheet_29 : decode cX10_sheet 29 = .ok (.ifCond .ge 9, 3) := by decide +kernel
theorem dX10_sheet_32 : decode cX10_sheet 32 = .ok (.aload_n 0, 1) := by decide +kernel
theorem dX10_sheet_33 : decode cX10_sheet 33 = .ok (.iconst 5, 1) := by decide +kernel
theorem dX10_sheet_34 : decode cX10_sheet 34 = .ok (.invokevirtual 176, 3) := by decide +kernel
theorem dX10_sheet_37 : decode cX10_sheet 37 = .ok (.ireturn, 1) := by decide +kernel
theorem dX10_sheet_38 : decode cX10_sheet 38 = .ok (.aload 4, 2) := by decide +kernel
theorem dX10_sheet_40 : decode cX10_sheet 40 = .ok (.iload_n 2, 1) := by decide +kernel
theorem dX10_sheet_41 : decode cX10_sheet 41 = .ok (.iload_n 3, 1) := by decide +kernel
theorem dX10_sheet_42 : decode cX10_sheet 42 = .ok (.invokevirtual 270, 3) := by decide +kernel
theorem dX10_sheet_45 : decode cX10_sheet 45 = .ok (.iload_n 3, 1) := by decide +kernel
theorem dX10_sheet_46 : decode cX10_sheet 46 = .ok (.ireturn, 1) := by decide +kernel
theorem dX10_lose_0 : decode cX10_lose 0 = .ok (.aload_n 0, 1) := by decide +kernel
theorem dX10_lose_1 : decode cX10_lose 1 = .ok (.iload_n 1, 1) := by decide +kernel
theorem dX10_lose_2 : decode cX10_lose 2 = .ok (.invokevirtual 168, 3) := by decide +kernel
theorem dX10_lose_5 : decode cX10_lose 5 = .ok (.astore_n 2, 1) := by decide +kernel
theorem dX10_lose_6 : decode cX10_lose 6 = .ok (.aload_n 2, 1) := by decide +kernel
theorem dX10_lose_7 : decode cX10_lose 7 = .ok (.ifnonnull 6, 3) := by decide +kernel
theorem dX10_lose_10 : decode cX10_lose 10 = .ok (.bipush (-2), 2) := by decide +kernel
theorem dX10_lose_12 : decode cX10_lose 12 = .ok (.ireturn, 1) := by decide +kernel
theorem dX10_lose_13 : decode cX10_lose 13 = .ok (.aload_n 2, 1) := by decide +kernel
theorem dX10_lose_14 : decode cX10_lose 14 = .ok (.getfield 172, 3) := by decide +kernel
theorem dX10_lose_17 : decode cX10_lose 17 = .ok (.ifCond .eq 9, 3) := by decide +kernel
theorem dX10_lose_20 : decode cX10_lose 20 = .ok (.aload_n 0, 1) := by decide +kernel
theorem dX10_lose_21 : decode cX10_lose 21 = .ok (.iconst 1, 1) := by decide +kernel
theorem dX10_lose_22 : decode cX10_lose 22 = .ok (.invokevirtual 176, 3) := by decide +kernel
theorem dX10_lose_25 : decode cX10_lose 25 = .ok (.ireturn, 1) := by decide +kernel
theorem dX10_lose_26 : decode cX10_lose 26 = .ok (.aload_n 2, 1) := by decide +kernel
theorem dX10_lose_27 : decode cX10_lose 27 = .ok (.iconst 1, 1) := by decide +kernel
theorem dX10_lose_28 : decode cX10_lose 28 = .ok (.putfield 172, 3) := by decide +kernel
theorem dX10_lose_31 : decode cX10_lose 31 = .ok (.aload_n 2, 1) := by decide +kernel
theorem dX10_lose_32 : decode cX10_lose 32 = .ok (.getfield 179, 3) := by decide +kernel
theorem dX10_lose_35 : decode cX10_lose 35 = .ok (.ireturn, 1) := by decide +kernel
theorem dX10_put_0 : decode cX10_put 0 = .ok (.aload_n 0, 1) := by decide +kernel
theorem dX10_put_1 : decode cX10_put 1 = .ok (.iload_n 1, 1) := by decide +kernel
theorem dX10_put_2 : decode cX10_put 2 = .ok (.invokevirtual 168, 3) := by decide +kernel
theorem dX10_put_5 : decode cX10_put 5 = .ok (.astore 5, 2) := by decide +kernel
theorem dX10_put_7 : decode cX10_put 7 = .ok (.aload 5, 2) := by decide +kernel
theorem dX10_put_9 : decode cX10_put 9 = .ok (.ifnull 10, 3) := by decide +kernel
theorem dX10_put_12 : decode cX10_put 12 = .ok (.iload_n 2, 1) := by decide +kernel
theorem dX10_put_13 : decode cX10_put 13 = .ok (.invokestatic 267, 3) := by decide +kernel
theorem dX10_put_16 : decode cX10_put 16 = .ok (.ifCond .ne 6, 3) := by decide +kernel
theorem dX10_put_19 : decode cX10_put 19 = .ok (.bipush (-2), 2) := by decide +kernel
theorem dX10_put_21 : decode cX10_put 21 = .ok (.ireturn, 1) := by decide +kernel
theorem dX10_put_22 : decode cX10_put 22 = .ok (.aload 5, 2) := by decide +kernel
theorem dX10_put_24 : decode cX10_put 24 = .ok (.iload_n 2, 1) := by decide +kernel
theorem dX10_put_25 : decode cX10_put 25 = .ok (.iload_n 3, 1) := by decide +kernel
theorem dX10_put_26 : decode cX10_put 26 = .ok (.invokevirtual 274, 3) := by decide +kernel
theorem dX10_put_29 : decode cX10_put 29 = .ok (.istore 6, 2) := by decide +kernel
theorem dX10_put_31 : decode cX10_put 31 = .ok (.iload 6, 2) := by decide +kernel
theorem dX10_put_33 : decode cX10_put 33 = .ok (.ifCond .eq 10, 3) := by decide +kernel
theorem dX10_put_36 : decode cX10_put 36 = .ok (.aload_n 0, 1) := by decide +kernel
theorem dX10_put_37 : decode cX10_put 37 = .ok (.iload 6, 2) := by decide +kernel
theorem dX10_put_39 : decode cX10_put 39 = .ok (.invokevirtual 176, 3) := by decide +kernel
theorem dX10_put_42 : decode cX10_put 42 = .ok (.ireturn, 1) := by decide +kernel
theorem dX10_put_43 : decode cX10_put 43 = .ok (.aload 5, 2) := by decide +kernel
theorem dX10_put_45 : decode cX10_put 45 = .ok (.iload_n 3, 1) := by decide +kernel
theorem dX10_put_46 : decode cX10_put 46 = .ok (.iload 4, 2) := by decide +kernel
theorem dX10_put_48 : decode cX10_put 48 = .ok (.invokevirtual 277, 3) := by decide +kernel
theorem dX10_put_51 : decode cX10_put 51 = .ok (.iconst 1, 1) := by decide +kernel
theorem dX10_put_52 : decode cX10_put 52 = .ok (.ireturn, 1) := by decide +kernel
theorem dX10_get_0 : decode cX10_get 0 = .ok (.aload_n 0, 1) := by decide +kernel
theorem dX10_get_1 : decode cX10_get 1 = .ok (.iload_n 1, 1) := by decide +kernel
theorem dX10_get_2 : decode cX10_get 2 = .ok (.invokevirtual 168, 3) := by decide +kernel
theorem dX10_get_5 : decode cX10_get 5 = .ok (.astore 4, 2) := by decide +kernel
theorem dX10_get_7 : decode cX10_get 7 = .ok (.aload 4, 2) := by decide +kernel
theorem dX10_get_9 : decode cX10_get 9 = .ok (.ifnull 10, 3) := by decide +kernel
theorem dX10_get_12 : decode cX10_get 12 = .ok (.iload_n 2, 1) := by decide +kernel
theorem dX10_get_13 : decode cX10_get 13 = .ok (.invokestatic 267, 3) := by decide +kernel
theorem dX10_get_16 : decode cX10_get 16 = .ok (.ifCond .ne 7, 3) := by decide +kernel
theorem dX10_get_19 : decode cX10_get 19 = .ok (.ldc_w 280, 3) := by decide +kernel
theorem dX10_get_22 : decode cX10_get 22 = .ok (.ireturn, 1) := by decide +kernel
theorem dX10_get_23 : decode cX10_get 23 = .ok (.aload 4, 2) := by decide +kernel
theorem dX10_get_25 : decode cX10_get 25 = .ok (.iload_n 2, 1) := by decide +kernel
theorem dX10_get_26 : decode cX10_get 26 = .ok (.iload_n 3, 1) := by decide +kernel
theorem dX10_get_27 : decode cX10_get 27 = .ok (.invokevirtual 274, 3) := by decide +kernel
theorem dX10_get_30 : decode cX10_get 30 = .ok (.istore 5, 2) := by decide +kernel
theorem dX10_get_32 : decode cX10_get 32 = .ok (.iload 5, 2) := by decide +kernel
theorem dX10_get_34 : decode cX10_get 34 = .ok (.ifCond .eq 13, 3) := by decide +kernel
theorem dX10_get_37 : decode cX10_get 37 = .ok (.aload_n 0, 1) := by decide +kernel
theorem dX10_get_38 : decode cX10_get 38 = .ok (.iload 5, 2) := by decide +kernel
theorem dX10_get_40 : decode cX10_get 40 = .ok (.putfield 281, 3) := by decide +kernel
theorem dX10_get_43 : decode cX10_get 43 = .ok (.ldc_w 280, 3) := by decide +kernel
theorem dX10_get_46 : decode cX10_get 46 = .ok (.ireturn, 1) := by decide +kernel
theorem dX10_get_47 : decode cX10_get 47 = .ok (.aload 4, 2) := by decide +kernel
theorem dX10_get_49 : decode cX10_get 49 = .ok (.iload_n 3, 1) := by decide +kernel
theorem dX10_get_50 : decode cX10_get 50 = .ok (.invokevirtual 182, 3) := by decide +kernel
theorem dX10_get_53 : decode cX10_get 53 = .ok (.ireturn, 1) := by decide +kernel
theorem dX10_copy_0 : decode cX10_copy 0 = .ok (.aload_n 0, 1) := by decide +kernel
theorem dX10_copy_1 : decode cX10_copy 1 = .ok (.iload_n 1, 1) := by decide +kernel
theorem dX10_copy_2 : decode cX10_copy 2 = .ok (.invokevirtual 168, 3) := by decide +kernel
theorem dX10_copy_5 : decode cX10_copy 5 = .ok (.astore 6, 2) := by decide +kernel
theorem dX10_copy_7 : decode cX10_copy 7 = .ok (.aload_n 0, 1) := by decide +kernel
theorem dX10_copy_8 : decode cX10_copy 8 = .ok (.iload_n 3, 1) := by decide +kernel
theorem dX10_copy_9 : decode cX10_copy 9 = .ok (.invokevirtual 168, 3) := by decide +kernel
theorem dX10_copy_12 : decode cX10_copy 12 = .ok (.astore 7, 2) := by decide +kernel
theorem dX10_copy_14 : decode cX10_copy 14 = .ok (.aload 6, 2) := by decide +kernel
theorem dX10_copy_16 : decode cX10_copy 16 = .ok (.ifnull 8, 3) := by decide +kernel
theorem dX10_copy_19 : decode cX10_copy 19 = .ok (.aload 7, 2) := by decide +kernel
theorem dX10_copy_21 : decode cX10_copy 21 = .ok (.ifnonnull 6, 3) := by decide +kernel
theorem dX10_copy_24 : decode cX10_copy 24 = .ok (.bipush (-2), 2) := by decide +kernel
theorem dX10_copy_26 : decode cX10_copy 26 = .ok (.ireturn, 1) := by decide +kernel
theorem dX10_copy_27 : decode cX10_copy 27 = .ok (.aload 6, 2) := by decide +kernel
theorem dX10_copy_29 : decode cX10_copy 29 = .ok (.getfield 172, 3) := by decide +kernel
theorem dX10_copy_32 : decode cX10_copy 32 = .ok (.ifCond .ne 11, 3) := by decide +kernel
theorem dX10_copy_35 : decode cX10_copy 35 = .ok (.aload 7, 2) := by decide +kernel
theorem dX10_copy_37 : decode cX10_copy 37 = .ok (.getfield 172, 3) := by decide +kernel
theorem dX10_copy_40 : decode cX10_copy 40 = .ok (.ifCond .eq 9, 3) := by decide +kernel
theorem dX10_copy_43 : decode cX10_copy 43 = .ok (.aload_n 0, 1) := by decide +kernel
theorem dX10_copy_44 : decode cX10_copy 44 = .ok (.iconst 1, 1) := by decide +kernel
theorem dX10_copy_45 : decode cX10_copy 45 = .ok (.invokevirtual 176, 3) := by decide +kernel
theorem dX10_copy_48 : decode cX10_copy 48 = .ok (.ireturn, 1) := by decide +kernel
theorem dX10_copy_49 : decode cX10_copy 49 = .ok (.aload 6, 2) := by decide +kernel
theorem dX10_copy_51 : decode cX10_copy 51 = .ok (.getfield 284, 3) := by decide +kernel
theorem dX10_copy_54 : decode cX10_copy 54 = .ok (.aload 7, 2) := by decide +kernel
theorem dX10_copy_56 : decode cX10_copy 56 = .ok (.getfield 284, 3) := by decide +kernel
theorem dX10_copy_59 : decode cX10_copy 59 = .ok (.if_icmp .eq 9, 3) := by decide +kernel
theorem dX10_copy_62 : decode cX10_copy 62 = .ok (.aload_n 0, 1) := by decide +kernel
theorem dX10_copy_63 : decode cX10_copy 63 = .ok (.iconst 4, 1) := by decide +kernel
theorem dX10_copy_64 : decode cX10_copy 64 = .ok (.invokevirtual 176, 3) := by decide +kernel
theorem dX10_copy_67 : decode cX10_copy 67 = .ok (.ireturn, 1) := by decide +kernel
theorem dX10_copy_68 : decode cX10_copy 68 = .ok (.aload 6, 2) := by decide +kernel
theorem dX10_copy_70 : decode cX10_copy 70 = .ok (.iload_n 2, 1) := by decide +kernel
theorem dX10_copy_71 : decode cX10_copy 71 = .ok (.iload 5, 2) := by decide +kernel
theorem dX10_copy_73 : decode cX10_copy 73 = .ok (.invokevirtual 287, 3) := by decide +kernel
theorem dX10_copy_76 : decode cX10_copy 76 = .ok (.ifCond .eq 15, 3) := by decide +kernel
theorem dX10_copy_79 : decode cX10_copy 79 = .ok (.aload 7, 2) := by decide +kernel
theorem dX10_copy_81 : decode cX10_copy 81 = .ok (.iload 4, 2) := by decide +kernel
theorem dX10_copy_83 : decode cX10_copy 83 = .ok (.iload 5, 2) := by decide +kernel
theorem dX10_copy_85 : decode cX10_copy 85 = .ok (.invokevirtual 287, 3) := by decide +kernel
theorem dX10_copy_88 : decode cX10_copy 88 = .ok (.ifCond .ne 9, 3) := by decide +kernel
theorem dX10_copy_91 : decode cX10_copy 91 = .ok (.aload_n 0, 1) := by decide +kernel
theorem dX10_copy_92 : decode cX10_copy 92 = .ok (.iconst 2, 1) := by decide +kernel
theorem dX10_copy_93 : decode cX10_copy 93 = .ok (.invokevirtual 176, 3) := by decide +kernel
theorem dX10_copy_96 : decode cX10_copy 96 = .ok (.ireturn, 1) := by decide +kernel
theorem dX10_copy_97 : decode cX10_copy 97 = .ok (.aload 6, 2) := by decide +kernel
theorem dX10_copy_99 : decode cX10_copy 99 = .ok (.getfield 290, 3) := by decide +kernel
theorem dX10_copy_102 : decode cX10_copy 102 = .ok (.iload_n 2, 1) := by decide +kernel
theorem dX10_copy_103 : decode cX10_copy 103 = .ok (.aload 7, 2) := by decide +kernel
theorem dX10_copy_105 : decode cX10_copy 105 = .ok (.getfield 290, 3) := by decide +kernel
theorem dX10_copy_108 : decode cX10_copy 108 = .ok (.iload 4, 2) := by decide +kernel
theorem dX10_copy_110 : decode cX10_copy 110 = .ok (.iload 5, 2) := by decide +kernel
theorem dX10_copy_112 : decode cX10_copy 112 = .ok (.invokestatic 294, 3) := by decide +kernel
theorem dX10_copy_115 : decode cX10_copy 115 = .ok (.iconst 1, 1) := by decide +kernel
theorem dX10_copy_116 : decode cX10_copy 116 = .ok (.ireturn, 1) := by decide +kernel
theorem dX10_write_0 : decode cX10_write 0 = .ok (.aload_n 0, 1) := by decide +kernel
theorem dX10_write_1 : decode cX10_write 1 = .ok (.iload_n 1, 1) := by decide +kernel
theorem dX10_write_2 : decode cX10_write 2 = .ok (.invokevirtual 71, 3) := by decide +kernel
theorem dX10_write_5 : decode cX10_write 5 = .ok (.astore 4, 2) := by decide +kernel
theorem dX10_write_7 : decode cX10_write 7 = .ok (.aload_n 0, 1) := by decide +kernel
theorem dX10_write_8 : decode cX10_write 8 = .ok (.iload_n 3, 1) := by decide +kernel
theorem dX10_write_9 : decode cX10_write 9 = .ok (.invokevirtual 168, 3) := by decide +kernel
theorem dX10_write_12 : decode cX10_write 12 = .ok (.astore 5, 2) := by decide +kernel
theorem dX10_write_14 : decode cX10_write 14 = .ok (.aload 4, 2) := by decide +kernel
theorem dX10_write_16 : decode cX10_write 16 = .ok (.ifnull 18, 3) := by decide +kernel
theorem dX10_write_19 : decode cX10_write 19 = .ok (.aload 5, 2) := by decide +kernel
theorem dX10_write_21 : decode cX10_write 21 = .ok (.ifnull 13, 3) := by decide +kernel
theorem dX10_write_24 : decode cX10_write 24 = .ok (.iload_n 2, 1) := by decide +kernel
theorem dX10_write_25 : decode cX10_write 25 = .ok (.iconst 1, 1) := by decide +kernel
theorem dX10_write_26 : decode cX10_write 26 = .ok (.bipush 24, 2) := by decide +kernel
theorem dX10_write_28 : decode cX10_write 28 = .ok (.invokestatic 75, 3) := by decide +kernel
theorem dX10_write_31 : decode cX10_write 31 = .ok (.ifCond .ne 6, 3) := by decide +kernel
theorem dX10_write_34 : decode cX10_write 34 = .ok (.bipush (-2), 2) := by decide +kernel
theorem dX10_write_36 : decode cX10_write 36 = .ok (.ireturn, 1) := by decide +kernel
theorem dX10_write_37 : decode cX10_write 37 = .ok (.aload 5, 2) := by decide +kernel
theorem dX10_write_39 : decode cX10_write 39 = .ok (.getfield 172, 3) := by decide +kernel
theorem dX10_write_42 : decode cX10_write 42 = .ok (.ifCond .eq 9, 3) := by decide +kernel
theorem dX10_write_45 : decode cX10_write 45 = .ok (.aload_n 0, 1) := by decide +kernel
theorem dX10_write_46 : decode cX10_write 46 = .ok (.iconst 1, 1) := by decide +kernel
theorem dX10_write_47 : decode cX10_write 47 = .ok (.invokevirtual 176, 3) := by decide +kernel
theorem dX10_write_50 : decode cX10_write 50 = .ok (.ireturn, 1) := by decide +kernel
theorem dX10_write_51 : decode cX10_write 51 = .ok (.aload 4, 2) := by decide +kernel
theorem dX10_write_53 : decode cX10_write 53 = .ok (.getfield 129, 3) := by decide +kernel
theorem dX10_write_56 : decode cX10_write 56 = .ok (.ifCond .ne 6, 3) := by decide +kernel
theorem dX10_write_59 : decode cX10_write 59 = .ok (.bipush (-3), 2) := by decide +kernel
theorem dX10_write_61 : decode cX10_write 61 = .ok (.ireturn, 1) := by decide +kernel
theorem dX10_write_62 : decode cX10_write 62 = .ok (.iconst 0, 1) := by decide +kernel
theorem dX10_write_63 : decode cX10_write 63 = .ok (.istore 6, 2) := by decide +kernel
theorem dX10_write_65 : decode cX10_write 65 = .ok (.iload 6, 2) := by decide +kernel
theorem dX10_write_67 : decode cX10_write 67 = .ok (.aload 5, 2) := by decide +kernel
theorem dX10_write_69 : decode cX10_write 69 = .ok (.getfield 179, 3) := by decide +kernel
theorem dX10_write_72 : decode cX10_write 72 = .ok (.if_icmp .ge 27, 3) := by decide +kernel
theorem dX10_write_75 : decode cX10_write 75 = .ok (.aload 5, 2) := by decide +kernel
theorem dX10_write_77 : decode cX10_write 77 = .ok (.iload 6, 2) := by decide +kernel
theorem dX10_write_79 : decode cX10_write 79 = .ok (.iload_n 2, 1) := by decide +kernel
theorem dX10_write_80 : decode cX10_write 80 = .ok (.aload 4, 2) := by decide +kernel
theorem dX10_write_82 : decode cX10_write 82 = .ok (.getfield 129, 3) := by decide +kernel
theorem dX10_write_85 : decode cX10_write 85 = .ok (.iload 6, 2) := by decide +kernel
theorem dX10_write_87 : decode cX10_write 87 = .ok (.invokestatic 135, 3) := by decide +kernel
theorem dX10_write_90 : decode cX10_write 90 = .ok (.invokevirtual 277, 3) := by decide +kernel
theorem dX10_write_93 : decode cX10_write 93 = .ok (.iinc 6 1, 3) := by decide +kernel
theorem dX10_write_96 : decode cX10_write 96 = .ok (.goto (-31), 3) := by decide +kernel
theorem dX10_write_99 : decode cX10_write 99 = .ok (.aload 5, 2) := by decide +kernel
theorem dX10_write_101 : decode cX10_write 101 = .ok (.getfield 179, 3) := by decide +kernel
theorem dX10_write_104 : decode cX10_write 104 = .ok (.ireturn, 1) := by decide +kernel
theorem dX10_count_0 : decode cX10_count 0 = .ok (.iload_n 1, 1) := by decide +kernel
theorem dX10_count_1 : decode cX10_count 1 = .ok (.tableswitch 117 0 8 #[51, 59, 67, 75, 83, 91, 99, 107, 112], 51) := by decide +kernel
theorem dX10_count_52 : decode cX10_count 52 = .ok (.aload_n 0, 1) := by decide +kernel
theorem dX10_count_53 : decode cX10_count 53 = .ok (.getfield 10, 3) := by decide +kernel
theorem dX10_count_56 : decode cX10_count 56 = .ok (.getfield 129, 3) := by decide +kernel
theorem dX10_count_59 : decode cX10_count 59 = .ok (.ireturn, 1) := by decide +kernel
theorem dX10_count_60 : decode cX10_count 60 = .ok (.aload_n 0, 1) := by decide +kernel
theorem dX10_count_61 : decode cX10_count 61 = .ok (.getfield 16, 3) := by decide +kernel
theorem dX10_count_64 : decode cX10_count 64 = .ok (.getfield 129, 3) := by decide +kernel
theorem dX10_count_67 : decode cX10_count 67 = .ok (.ireturn, 1) := by decide +kernel
theorem dX10_count_68 : decode cX10_count 68 = .ok (.aload_n 0, 1) := by decide +kernel
theorem dX10_count_69 : decode cX10_count 69 = .ok (.getfield 10, 3) := by decide +kernel
theorem dX10_count_72 : decode cX10_count 72 = .ok (.getfield 300, 3) := by decide +kernel
theorem dX10_count_75 : decode cX10_count 75 = .ok (.ireturn, 1) := by decide +kernel
theorem dX10_count_76 : decode cX10_count 76 = .ok (.aload_n 0, 1) := by decide +kernel
theorem dX10_count_77 : decode cX10_count 77 = .ok (.getfield 16, 3) := by decide +kernel
theorem dX10_count_80 : decode cX10_count 80 = .ok (.getfield 300, 3) := by decide +kernel
theorem dX10_count_83 : decode cX10_count 83 = .ok (.ireturn, 1) := by decide +kernel
theorem dX10_count_84 : decode cX10_count 84 = .ok (.aload_n 0, 1) := by decide +kernel
theorem dX10_count_85 : decode cX10_count 85 = .ok (.getfield 22, 3) := by decide +kernel
theorem dX10_count_88 : decode cX10_count 88 = .ok (.getfield 202, 3) := by decide +kernel
theorem dX10_count_91 : decode cX10_count 91 = .ok (.ireturn, 1) := by decide +kernel
theorem dX10_count_92 : decode cX10_count 92 = .ok (.aload_n 0, 1) := by decide +kernel
theorem dX10_count_93 : decode cX10_count 93 = .ok (.getfield 26, 3) := by decide +kernel
theorem dX10_count_96 : decode cX10_count 96 = .ok (.getfield 202, 3) := by decide +kernel
theorem dX10_count_99 : decode cX10_count 99 = .ok (.ireturn, 1) := by decide +kernel
theorem dX10_count_100 : decode cX10_count 100 = .ok (.aload_n 0, 1) := by decide +kernel
theorem dX10_count_101 : decode cX10_count 101 = .ok (.getfield 53, 3) := by decide +kernel
theorem dX10_count_104 : decode cX10_count 104 = .ok (.getfield 243, 3) := by decide +kernel
theorem dX10_count_107 : decode cX10_count 107 = .ok (.ireturn, 1) := by decide +kernel
theorem dX10_count_108 : decode cX10_count 108 = .ok (.aload_n 0, 1) := by decide +kernel
theorem dX10_count_109 : decode cX10_count 109 = .ok (.getfield 64, 3) := by decide +kernel
theorem dX10_count_112 : decode cX10_count 112 = .ok (.ireturn, 1) := by decide +kernel
theorem dX10_count_113 : decode cX10_count 113 = .ok (.aload_n 0, 1) := by decide +kernel
theorem dX10_count_114 : decode cX10_count 114 = .ok (.getfield 281, 3) := by decide +kernel
theorem dX10_count_117 : decode cX10_count 117 = .ok (.ireturn, 1) := by decide +kernel
theorem dX10_count_118 : decode cX10_count 118 = .ok (.bipush (-2), 2) := by decide +kernel
theorem dX10_count_120 : decode cX10_count 120 = .ok (.ireturn, 1) := by decide +kernel
theorem dX10_digest_0 : decode cX10_digest 0 = .ok (.ldc2_w 303, 3) := by decide +kernel
theorem dX10_digest_3 : decode cX10_digest 3 = .ok (.lstore_n 1, 1) := by decide +kernel
theorem dX10_digest_4 : decode cX10_digest 4 = .ok (.iconst 0, 1) := by decide +kernel
theorem dX10_digest_5 : decode cX10_digest 5 = .ok (.istore_n 3, 1) := by decide +kernel
theorem dX10_digest_6 : decode cX10_digest 6 = .ok (.iload_n 3, 1) := by decide +kernel
theorem dX10_digest_7 : decode cX10_digest 7 = .ok (.bipush 7, 2) := by decide +kernel
theorem dX10_digest_9 : decode cX10_digest 9 = .ok (.if_icmp .gt 20, 3) := by decide +kernel
theorem dX10_digest_12 : decode cX10_digest 12 = .ok (.lload_n 1, 1) := by decide +kernel
theorem dX10_digest_13 : decode cX10_digest 13 = .ok (.aload_n 0, 1) := by decide +kernel
theorem dX10_digest_14 : decode cX10_digest 14 = .ok (.iload_n 3, 1) := by decide +kernel
theorem dX10_digest_15 : decode cX10_digest 15 = .ok (.invokevirtual 305, 3) := by decide +kernel
theorem dX10_digest_18 : decode cX10_digest 18 = .ok (.i2l, 1) := by decide +kernel
theorem dX10_digest_19 : decode cX10_digest 19 = .ok (.invokestatic 308, 3) := by decide +kernel
theorem dX10_digest_22 : decode cX10_digest 22 = .ok (.lstore_n 1, 1) := by decide +kernel
theorem dX10_digest_23 : decode cX10_digest 23 = .ok (.iinc 3 1, 3) := by decide +kernel
theorem dX10_digest_26 : decode cX10_digest 26 = .ok (.goto (-20), 3) := by decide +kernel
theorem dX10_digest_29 : decode cX10_digest 29 = .ok (.aload_n 0, 1) := by decide +kernel
theorem dX10_digest_30 : decode cX10_digest 30 = .ok (.lload_n 1, 1) := by decide +kernel
theorem dX10_digest_31 : decode cX10_digest 31 = .ok (.iconst 0, 1) := by decide +kernel
theorem dX10_digest_32 : decode cX10_digest 32 = .ok (.invokevirtual 312, 3) := by decide +kernel
theorem dX10_digest_35 : decode cX10_digest 35 = .ok (.lstore_n 1, 1) := by decide +kernel
theorem dX10_digest_36 : decode cX10_digest 36 = .ok (.aload_n 0, 1) := by decide +kernel
theorem dX10_digest_37 : decode cX10_digest 37 = .ok (.lload_n 1, 1) := by decide +kernel
theorem dX10_digest_38 : decode cX10_digest 38 = .ok (.iconst 1, 1) := by decide +kernel
theorem dX10_digest_39 : decode cX10_digest 39 = .ok (.invokevirtual 312, 3) := by decide +kernel
theorem dX10_digest_42 : decode cX10_digest 42 = .ok (.lstore_n 1, 1) := by decide +kernel
theorem dX10_digest_43 : decode cX10_digest 43 = .ok (.iconst 0, 1) := by decide +kernel
theorem dX10_digest_44 : decode cX10_digest 44 = .ok (.istore_n 3, 1) := by decide +kernel
theorem dX10_digest_45 : decode cX10_digest 45 = .ok (.iload_n 3, 1) := by decide +kernel
theorem dX10_digest_46 : decode cX10_digest 46 = .ok (.iconst 2, 1) := by decide +kernel
theorem dX10_digest_47 : decode cX10_digest 47 = .ok (.if_icmp .gt 20, 3) := by decide +kernel
theorem dX10_digest_50 : decode cX10_digest 50 = .ok (.lload_n 1, 1) := by decide +kernel
theorem dX10_digest_51 : decode cX10_digest 51 = .ok (.aload_n 0, 1) := by decide +kernel
theorem dX10_digest_52 : decode cX10_digest 52 = .ok (.iload_n 3, 1) := by decide +kernel
theorem dX10_digest_53 : decode cX10_digest 53 = .ok (.invokevirtual 316, 3) := by decide +kernel
theorem dX10_digest_56 : decode cX10_digest 56 = .ok (.i2l, 1) := by decide +kernel
theorem dX10_digest_57 : decode cX10_digest 57 = .ok (.invokestatic 308, 3) := by decide +kernel
theorem dX10_digest_60 : decode cX10_digest 60 = .ok (.lstore_n 1, 1) := by decide +kernel
theorem dX10_digest_61 : decode cX10_digest 61 = .ok (.iinc 3 1, 3) := by decide +kernel
theorem dX10_digest_64 : decode cX10_digest 64 = .ok (.goto (-19), 3) := by decide +kernel
theorem dX10_digest_67 : decode cX10_digest 67 = .ok (.lload_n 1, 1) := by decide +kernel
theorem dX10_digest_68 : decode cX10_digest 68 = .ok (.aload_n 0, 1) := by decide +kernel
theorem dX10_digest_69 : decode cX10_digest 69 = .ok (.invokevirtual 319, 3) := by decide +kernel
theorem dX10_digest_72 : decode cX10_digest 72 = .ok (.i2l, 1) := by decide +kernel
theorem dX10_digest_73 : decode cX10_digest 73 = .ok (.invokestatic 308, 3) := by decide +kernel
theorem dX10_digest_76 : decode cX10_digest 76 = .ok (.lstore_n 1, 1) := by decide +kernel
theorem dX10_digest_77 : decode cX10_digest 77 = .ok (.aload_n 0, 1) := by decide +kernel
theorem dX10_digest_78 : decode cX10_digest 78 = .ok (.lload_n 1, 1) := by decide +kernel
theorem dX10_digest_79 : decode cX10_digest 79 = .ok (.iconst 0, 1) := by decide +kernel
theorem dX10_digest_80 : decode cX10_digest 80 = .ok (.invokevirtual 322, 3) := by decide +kernel
theorem dX10_digest_83 : decode cX10_digest 83 = .ok (.lstore_n 1, 1) := by decide +kernel
theorem dX10_digest_84 : decode cX10_digest 84 = .ok (.aload_n 0, 1) := by decide +kernel
theorem dX10_digest_85 : decode cX10_digest 85 = .ok (.lload_n 1, 1) := by decide +kernel
theorem dX10_digest_86 : decode cX10_digest 86 = .ok (.iconst 1, 1) := by decide +kernel
theorem dX10_digest_87 : decode cX10_digest 87 = .ok (.invokevirtual 322, 3) := by decide +kernel
theorem dX10_digest_90 : decode cX10_digest 90 = .ok (.lstore_n 1, 1) := by decide +kernel
theorem dX10_digest_91 : decode cX10_digest 91 = .ok (.lload_n 1, 1) := by decide +kernel
theorem dX10_digest_92 : decode cX10_digest 92 = .ok (.aload_n 0, 1) := by decide +kernel
theorem dX10_digest_93 : decode cX10_digest 93 = .ok (.iconst 1, 1) := by decide +kernel
theorem dX10_digest_94 : decode cX10_digest 94 = .ok (.iconst 2, 1) := by decide +kernel
theorem dX10_digest_95 : decode cX10_digest 95 = .ok (.iconst (-1), 1) := by decide +kernel
theorem dX10_digest_96 : decode cX10_digest 96 = .ok (.invokevirtual 325, 3) := by decide +kernel
theorem dX10_digest_99 : decode cX10_digest 99 = .ok (.i2l, 1) := by decide +kernel
theorem dX10_digest_100 : decode cX10_digest 100 = .ok (.invokestatic 308, 3) := by decide +kernel
theorem dX10_digest_103 : decode cX10_digest 103 = .ok (.lstore_n 1, 1) := by decide +kernel
theorem dX10_digest_104 : decode cX10_digest 104 = .ok (.iconst 0, 1) := by decide +kernel
theorem dX10_digest_105 : decode cX10_digest 105 = .ok (.istore_n 3, 1) := by decide +kernel
theorem dX10_digest_106 : decode cX10_digest 106 = .ok (.iload_n 3, 1) := by decide +kernel
theorem dX10_digest_107 : decode cX10_digest 107 = .ok (.iconst 2, 1) := by decide +kernel
theorem dX10_digest_108 : decode cX10_digest 108 = .ok (.if_icmp .gt 20, 3) := by decide +kernel
theorem dX10_digest_111 : decode cX10_digest 111 = .ok (.lload_n 1, 1) := by decide +kernel
theorem dX10_digest_112 : decode cX10_digest 112 = .ok (.aload_n 0, 1) := by decide +kernel
theorem dX10_digest_113 : decode cX10_digest 113 = .ok (.iload_n 3, 1) := by decide +kernel
theorem dX10_digest_114 : decode cX10_digest 114 = .ok (.invokevirtual 328, 3) := by decide +kernel
theorem dX10_digest_117 : decode cX10_digest 117 = .ok (.i2l, 1) := by decide +kernel
theorem dX10_digest_118 : decode cX10_digest 118 = .ok (.invokestatic 308, 3) := by decide +kernel
theorem dX10_digest_121 : decode cX10_digest 121 = .ok (.lstore_n 1, 1) := by decide +kernel
theorem dX10_digest_122 : decode cX10_digest 122 = .ok (.iinc 3 1, 3) := by decide +kernel
theorem dX10_digest_125 : decode cX10_digest 125 = .ok (.goto (-19), 3) := by decide +kernel
theorem dX10_digest_128 : decode cX10_digest 128 = .ok (.lload_n 1, 1) := by decide +kernel
theorem dX10_digest_129 : decode cX10_digest 129 = .ok (.lreturn, 1) := by decide +kernel
theorem dX10_mixedStrip_0 : decode cX10_mixedStrip 0 = .ok (.lload_n 1, 1) := by decide +kernel
theorem dX10_mixedStrip_1 : decode cX10_mixedStrip 1 = .ok (.aload_n 0, 1) := by decide +kernel
theorem dX10_mixedStrip_2 : decode cX10_mixedStrip 2 = .ok (.iload_n 3, 1) := by decide +kernel
theorem dX10_mixedStrip_3 : decode cX10_mixedStrip 3 = .ok (.invokevirtual 331, 3) := by decide +kernel
theorem dX10_mixedStrip_6 : decode cX10_mixedStrip 6 = .ok (.i2l, 1) := by decide +kernel
theorem dX10_mixedStrip_7 : decode cX10_mixedStrip 7 = .ok (.invokestatic 308, 3) := by decide +kernel
theorem dX10_mixedStrip_10 : decode cX10_mixedStrip 10 = .ok (.lstore 4, 2) := by decide +kernel
theorem dX10_mixedStrip_12 : decode cX10_mixedStrip 12 = .ok (.lload 4, 2) := by decide +kernel
theorem dX10_mixedStrip_14 : decode cX10_mixedStrip 14 = .ok (.aload_n 0, 1) := by decide +kernel
theorem dX10_mixedStrip_15 : decode cX10_mixedStrip 15 = .ok (.iload_n 3, 1) := by decide +kernel
theorem dX10_mixedStrip_16 : decode cX10_mixedStrip 16 = .ok (.invokevirtual 334, 3) := by decide +kernel
theorem dX10_mixedStrip_19 : decode cX10_mixedStrip 19 = .ok (.i2l, 1) := by decide +kernel
theorem dX10_mixedStrip_20 : decode cX10_mixedStrip 20 = .ok (.invokestatic 308, 3) := by decide +kernel
theorem dX10_mixedStrip_23 : decode cX10_mixedStrip 23 = .ok (.lstore 4, 2) := by decide +kernel
theorem dX10_mixedStrip_25 : decode cX10_mixedStrip 25 = .ok (.lload 4, 2) := by decide +kernel
theorem dX10_mixedStrip_27 : decode cX10_mixedStrip 27 = .ok (.aload_n 0, 1) := by decide +kernel
theorem dX10_mixedStrip_28 : decode cX10_mixedStrip 28 = .ok (.iload_n 3, 1) := by decide +kernel
theorem dX10_mixedStrip_29 : decode cX10_mixedStrip 29 = .ok (.bipush 12, 2) := by decide +kernel
theorem dX10_mixedStrip_31 : decode cX10_mixedStrip 31 = .ok (.iconst (-1), 1) := by decide +kernel
theorem dX10_mixedStrip_32 : decode cX10_mixedStrip 32 = .ok (.invokevirtual 337, 3) := by decide +kernel
theorem dX10_mixedStrip_35 : decode cX10_mixedStrip 35 = .ok (.i2l, 1) := by decide +kernel
theorem dX10_mixedStrip_36 : decode cX10_mixedStrip 36 = .ok (.invokestatic 308, 3) := by decide +kernel
theorem dX10_mixedStrip_39 : decode cX10_mixedStrip 39 = .ok (.lstore 4, 2) := by decide +kernel
theorem dX10_mixedStrip_41 : decode cX10_mixedStrip 41 = .ok (.lload 4, 2) := by decide +kernel
theorem dX10_mixedStrip_43 : decode cX10_mixedStrip 43 = .ok (.aload_n 0, 1) := by decide +kernel
theorem dX10_mixedStrip_44 : decode cX10_mixedStrip 44 = .ok (.iload_n 3, 1) := by decide +kernel
theorem dX10_mixedStrip_45 : decode cX10_mixedStrip 45 = .ok (.iconst 0, 1) := by decide +kernel
theorem dX10_mixedStrip_46 : decode cX10_mixedStrip 46 = .ok (.invokevirtual 340, 3) := by decide +kernel
theorem dX10_mixedStrip_49 : decode cX10_mixedStrip 49 = .ok (.i2l, 1) := by decide +kernel
theorem dX10_mixedStrip_50 : decode cX10_mixedStrip 50 = .ok (.invokestatic 308, 3) := by decide +kernel
theorem dX10_mixedStrip_53 : decode cX10_mixedStrip 53 = .ok (.lstore 4, 2) := by decide +kernel
theorem dX10_mixedStrip_55 : decode cX10_mixedStrip 55 = .ok (.lload 4, 2) := by decide +kernel
theorem dX10_mixedStrip_57 : decode cX10_mixedStrip 57 = .ok (.aload_n 0, 1) := by decide +kernel
theorem dX10_mixedStrip_58 : decode cX10_mixedStrip 58 = .ok (.iload_n 3, 1) := by decide +kernel
theorem dX10_mixedStrip_59 : decode cX10_mixedStrip 59 = .ok (.iconst 1, 1) := by decide +kernel
theorem dX10_mixedStrip_60 : decode cX10_mixedStrip 60 = .ok (.invokevirtual 340, 3) := by decide +kernel
theorem dX10_mixedStrip_63 : decode cX10_mixedStrip 63 = .ok (.i2l, 1) := by decide +kernel
theorem dX10_mixedStrip_64 : decode cX10_mixedStrip 64 = .ok (.invokestatic 308, 3) := by decide +kernel
theorem dX10_mixedStrip_67 : decode cX10_mixedStrip 67 = .ok (.lstore 4, 2) := by decide +kernel
theorem dX10_mixedStrip_69 : decode cX10_mixedStrip 69 = .ok (.lload 4, 2) := by decide +kernel
theorem dX10_mixedStrip_71 : decode cX10_mixedStrip 71 = .ok (.aload_n 0, 1) := by decide +kernel
theorem dX10_mixedStrip_72 : decode cX10_mixedStrip 72 = .ok (.iload_n 3, 1) := by decide +kernel
theorem dX10_mixedStrip_73 : decode cX10_mixedStrip 73 = .ok (.iconst 5, 1) := by decide +kernel
theorem dX10_mixedStrip_74 : decode cX10_mixedStrip 74 = .ok (.invokevirtual 343, 3) := by decide +kernel
theorem dX10_mixedStrip_77 : decode cX10_mixedStrip 77 = .ok (.i2l, 1) := by decide +kernel
theorem dX10_mixedStrip_78 : decode cX10_mixedStrip 78 = .ok (.invokestatic 308, 3) := by decide +kernel
theorem dX10_mixedStrip_81 : decode cX10_mixedStrip 81 = .ok (.lstore 4, 2) := by decide +kernel
theorem dX10_mixedStrip_83 : decode cX10_mixedStrip 83 = .ok (.lload 4, 2) := by decide +kernel
theorem dX10_mixedStrip_85 : decode cX10_mixedStrip 85 = .ok (.aload_n 0, 1) := by decide +kernel
theorem dX10_mixedStrip_86 : decode cX10_mixedStrip 86 = .ok (.iload_n 3, 1) := by decide +kernel
theorem dX10_mixedStrip_87 : decode cX10_mixedStrip 87 = .ok (.invokevirtual 346, 3) := by decide +kernel
theorem dX10_mixedStrip_90 : decode cX10_mixedStrip 90 = .ok (.i2l, 1) := by decide +kernel
theorem dX10_mixedStrip_91 : decode cX10_mixedStrip 91 = .ok (.invokestatic 308, 3) := by decide +kernel
theorem dX10_mixedStrip_94 : decode cX10_mixedStrip 94 = .ok (.lstore 4, 2) := by decide +kernel
theorem dX10_mixedStrip_96 : decode cX10_mixedStrip 96 = .ok (.iconst 0, 1) := by decide +kernel
theorem dX10_mixedStrip_97 : decode cX10_mixedStrip 97 = .ok (.istore 6, 2) := by decide +kernel
theorem dX10_mixedStrip_99 : decode cX10_mixedStrip 99 = .ok (.iload 6, 2) := by decide +kernel
theorem dX10_mixedStrip_101 : decode cX10_mixedStrip 101 = .ok (.aload_n 0, 1) := by decide +kernel
theorem dX10_mixedStrip_102 : decode cX10_mixedStrip 102 = .ok (.iload_n 3, 1) := by decide +kernel
theorem dX10_mixedStrip_103 : decode cX10_mixedStrip 103 = .ok (.invokevirtual 305, 3) := by decide +kernel
theorem dX10_mixedStrip_106 : decode cX10_mixedStrip 106 = .ok (.if_icmp .ge 41, 3) := by decide +kernel
theorem dX10_mixedStrip_109 : decode cX10_mixedStrip 109 = .ok (.iconst 0, 1) := by decide +kernel
theorem dX10_mixedStrip_110 : decode cX10_mixedStrip 110 = .ok (.istore 7, 2) := by decide +kernel
theorem dX10_mixedStrip_112 : decode cX10_mixedStrip 112 = .ok (.iload 7, 2) := by decide +kernel
theorem dX10_mixedStrip_114 : decode cX10_mixedStrip 114 = .ok (.iconst 4, 1) := by decide +kernel
theorem dX10_mixedStrip_115 : decode cX10_mixedStrip 115 = .ok (.if_icmp .ge 26, 3) := by decide +kernel
theorem dX10_mixedStrip_118 : decode cX10_mixedStrip 118 = .ok (.lload 4, 2) := by decide +kernel
theorem dX10_mixedStrip_120 : decode cX10_mixedStrip 120 = .ok (.aload_n 0, 1) := by decide +kernel
theorem dX10_mixedStrip_121 : decode cX10_mixedStrip 121 = .ok (.iload_n 3, 1) := by decide +kernel
theorem dX10_mixedStrip_122 : decode cX10_mixedStrip 122 = .ok (.iload 6, 2) := by decide +kernel
theorem dX10_mixedStrip_124 : decode cX10_mixedStrip 124 = .ok (.iload 7, 2) := by decide +kernel
theorem dX10_mixedStrip_126 : decode cX10_mixedStrip 126 = .ok (.invokevirtual 349, 3) := by decide +kernel
theorem dX10_mixedStrip_129 : decode cX10_mixedStrip 129 = .ok (.i2l, 1) := by decide +kernel
theorem dX10_mixedStrip_130 : decode cX10_mixedStrip 130 = .ok (.invokestatic 308, 3) := by decide +kernel
theorem dX10_mixedStrip_133 : decode cX10_mixedStrip 133 = .ok (.lstore 4, 2) := by decide +kernel
theorem dX10_mixedStrip_135 : decode cX10_mixedStrip 135 = .ok (.iinc 7 1, 3) := by decide +kernel
theorem dX10_mixedStrip_138 : decode cX10_mixedStrip 138 = .ok (.goto (-26), 3) := by decide +kernel
theorem dX10_mixedStrip_141 : decode cX10_mixedStrip 141 = .ok (.iinc 6 1, 3) := by decide +kernel
theorem dX10_mixedStrip_144 : decode cX10_mixedStrip 144 = .ok (.goto (-45), 3) := by decide +kernel
theorem dX10_mixedStrip_147 : decode cX10_mixedStrip 147 = .ok (.lload 4, 2) := by decide +kernel
theorem dX10_mixedStrip_149 : decode cX10_mixedStrip 149 = .ok (.lreturn, 1) := by decide +kernel
theorem dX10_mixedLook_0 : decode cX10_mixedLook 0 = .ok (.lload_n 1, 1) := by decide +kernel
theorem dX10_mixedLook_1 : decode cX10_mixedLook 1 = .ok (.lstore 4, 2) := by decide +kernel
theorem dX10_mixedLook_3 : decode cX10_mixedLook 3 = .ok (.iconst 0, 1) := by decide +kernel
theorem dX10_mixedLook_4 : decode cX10_mixedLook 4 = .ok (.istore 6, 2) := by decide +kernel
theorem dX10_mixedLook_6 : decode cX10_mixedLook 6 = .ok (.iload 6, 2) := by decide +kernel
theorem dX10_mixedLook_8 : decode cX10_mixedLook 8 = .ok (.aload_n 0, 1) := by decide +kernel
theorem dX10_mixedLook_9 : decode cX10_mixedLook 9 = .ok (.iconst 4, 1) := by decide +kernel
theorem dX10_mixedLook_10 : decode cX10_mixedLook 10 = .ok (.iload_n 3, 1) := by decide +kernel
theorem dX10_mixedLook_11 : decode cX10_mixedLook 11 = .ok (.iadd, 1) := by decide +kernel
theorem dX10_mixedLook_12 : decode cX10_mixedLook 12 = .ok (.invokevirtual 305, 3) := by decide +kernel
theorem dX10_mixedLook_15 : decode cX10_mixedLook 15 = .ok (.if_icmp .ge 24, 3) := by decide +kernel
theorem dX10_mixedLook_18 : decode cX10_mixedLook 18 = .ok (.lload 4, 2) := by decide +kernel
theorem dX10_mixedLook_20 : decode cX10_mixedLook 20 = .ok (.aload_n 0, 1) := by decide +kernel
theorem dX10_mixedLook_21 : decode cX10_mixedLook 21 = .ok (.iload_n 3, 1) := by decide +kernel
theorem dX10_mixedLook_22 : decode cX10_mixedLook 22 = .ok (.iload 6, 2) := by decide +kernel
theorem dX10_mixedLook_24 : decode cX10_mixedLook 24 = .ok (.invokevirtual 352, 3) := by decide +kernel
theorem dX10_mixedLook_27 : decode cX10_mixedLook 27 = .ok (.i2l, 1) := by decide +kernel
theorem dX10_mixedLook_28 : decode cX10_mixedLook 28 = .ok (.invokestatic 308, 3) := by decide +kernel
theorem dX10_mixedLook_31 : decode cX10_mixedLook 31 = .ok (.lstore 4, 2) := by decide +kernel
theorem dX10_mixedLook_33 : decode cX10_mixedLook 33 = .ok (.iinc 6 1, 3) := by decide +kernel
theorem dX10_mixedLook_36 : decode cX10_mixedLook 36 = .ok (.goto (-30), 3) := by decide +kernel
theorem dX10_mixedLook_39 : decode cX10_mixedLook 39 = .ok (.lload 4, 2) := by decide +kernel
theorem dX10_mixedLook_41 : decode cX10_mixedLook 41 = .ok (.lreturn, 1) := by decide +kernel
theorem dX10_mixed_0 : decode cX10_mixed 0 = .ok (.ldc2_w 355, 3) := by decide +kernel
theorem dX10_mixed_3 : decode cX10_mixed 3 = .ok (.lload_n 0, 1) := by decide +kernel
theorem dX10_mixed_4 : decode cX10_mixed 4 = .ok (.lmul, 1) := by decide +kernel
theorem dX10_mixed_5 : decode cX10_mixed 5 = .ok (.lload_n 2, 1) := by decide +kernel
theorem dX10_mixed_6 : decode cX10_mixed 6 = .ok (.ladd, 1) := by decide +kernel
theorem dX10_mixed_7 : decode cX10_mixed 7 = .ok (.lreturn, 1) := by decide +kernel
theorem dX10_within_0 : decode cX10_within 0 = .ok (.iload_n 0, 1) := by decide +kernel
theorem dX10_within_1 : decode cX10_within 1 = .ok (.iload_n 1, 1) := by decide +kernel
theorem dX10_within_2 : decode cX10_within 2 = .ok (.if_icmp .lt 12, 3) := by decide +kernel
theorem dX10_within_5 : decode cX10_within 5 = .ok (.iload_n 0, 1) := by decide +kernel
theorem dX10_within_6 : decode cX10_within 6 = .ok (.iload_n 2, 1) := by decide +kernel
theorem dX10_within_7 : decode cX10_within 7 = .ok (.if_icmp .gt 7, 3) := by decide +kernel
theorem dX10_within_10 : decode cX10_within 10 = .ok (.iconst 1, 1) := by decide +kernel
theorem dX10_within_11 : decode cX10_within 11 = .ok (.goto 4, 3) := by decide +kernel
theorem dX10_within_14 : decode cX10_within 14 = .ok (.iconst 0, 1) := by decide +kernel
theorem dX10_within_15 : decode cX10_within 15 = .ok (.ireturn, 1) := by decide +kernel
theorem dX10_asLong_0 : decode cX10_asLong 0 = .ok (.ldc2_w 357, 3) := by decide +kernel
theorem dX10_asLong_3 : decode cX10_asLong 3 = .ok (.iload_n 0, 1) := by decide +kernel
theorem dX10_asLong_4 : decode cX10_asLong 4 = .ok (.i2l, 1) := by decide +kernel
theorem dX10_asLong_5 : decode cX10_asLong 5 = .ok (.lsub, 1) := by decide +kernel
theorem dX10_asLong_6 : decode cX10_asLong 6 = .ok (.lreturn, 1) := by decide +kernel
theorem dX10_finding_0 : decode cX10_finding 0 = .ok (.aload_n 0, 1) := by decide +kernel
theorem dX10_finding_1 : decode cX10_finding 1 = .ok (.iload_n 1, 1) := by decide +kernel
theorem dX10_finding_2 : decode cX10_finding 2 = .ok (.putfield 281, 3) := by decide +kernel
theorem dX10_finding_5 : decode cX10_finding 5 = .ok (.bipush (-10), 2) := by decide +kernel
theorem dX10_finding_7 : decode cX10_finding 7 = .ok (.iload_n 1, 1) := by decide +kernel
theorem dX10_finding_8 : decode cX10_finding 8 = .ok (.isub, 1) := by decide +kernel
theorem dX10_finding_9 : decode cX10_finding 9 = .ok (.ireturn, 1) := by decide +kernel
theorem dX10_stripAt_0 : decode cX10_stripAt 0 = .ok (.iload_n 1, 1) := by decide +kernel
theorem dX10_stripAt_1 : decode cX10_stripAt 1 = .ok (.ifCond .ne 10, 3) := by decide +kernel
theorem dX10_stripAt_4 : decode cX10_stripAt 4 = .ok (.aload_n 0, 1) := by decide +kernel
theorem dX10_stripAt_5 : decode cX10_stripAt 5 = .ok (.getfield 10, 3) := by decide +kernel
theorem dX10_stripAt_8 : decode cX10_stripAt 8 = .ok (.goto 16, 3) := by decide +kernel
theorem dX10_stripAt_11 : decode cX10_stripAt 11 = .ok (.iload_n 1, 1) := by decide +kernel
theorem dX10_stripAt_12 : decode cX10_stripAt 12 = .ok (.iconst 1, 1) := by decide +kernel
theorem dX10_stripAt_13 : decode cX10_stripAt 13 = .ok (.if_icmp .ne 10, 3) := by decide +kernel
theorem dX10_stripAt_16 : decode cX10_stripAt 16 = .ok (.aload_n 0, 1) := by decide +kernel
theorem dX10_stripAt_17 : decode cX10_stripAt 17 = .ok (.getfield 16, 3) := by decide +kernel
theorem dX10_stripAt_20 : decode cX10_stripAt 20 = .ok (.goto 4, 3) := by decide +kernel
theorem dX10_stripAt_23 : decode cX10_stripAt 23 = .ok (.aconst_null, 1) := by decide +kernel
theorem dX10_stripAt_24 : decode cX10_stripAt 24 = .ok (.areturn, 1) := by decide +kernel
theorem dX10_lookAt_0 : decode cX10_lookAt 0 = .ok (.iload_n 1, 1) := by decide +kernel
theorem dX10_lookAt_1 : decode cX10_lookAt 1 = .ok (.ifCond .ne 10, 3) := by decide +kernel
theorem dX10_lookAt_4 : decode cX10_lookAt 4 = .ok (.aload_n 0, 1) := by decide +kernel
theorem dX10_lookAt_5 : decode cX10_lookAt 5 = .ok (.getfield 22, 3) := by decide +kernel
theorem dX10_lookAt_8 : decode cX10_lookAt 8 = .ok (.goto 16, 3) := by decide +kernel
theorem dX10_lookAt_11 : decode cX10_lookAt 11 = .ok (.iload_n 1, 1) := by decide +kernel
theorem dX10_lookAt_12 : decode cX10_lookAt 12 = .ok (.iconst 1, 1) := by decide +kernel
theorem dX10_lookAt_13 : decode cX10_lookAt 13 = .ok (.if_icmp .ne 10, 3) := by decide +kernel
theorem dX10_lookAt_16 : decode cX10_lookAt 16 = .ok (.aload_n 0, 1) := by decide +kernel
theorem dX10_lookAt_17 : decode cX10_lookAt 17 = .ok (.getfield 26, 3) := by decide +kernel
theorem dX10_lookAt_20 : decode cX10_lookAt 20 = .ok (.goto 4, 3) := by decide +kernel
theorem dX10_lookAt_23 : decode cX10_lookAt 23 = .ok (.aconst_null, 1) := by decide +kernel
theorem dX10_lookAt_24 : decode cX10_lookAt 24 = .ok (.areturn, 1) := by decide +kernel
theorem dX10_sheetAt_0 : decode cX10_sheetAt 0 = .ok (.iload_n 1, 1) := by decide +kernel
theorem dX10_sheetAt_1 : decode cX10_sheetAt 1 = .ok (.iconst 0, 1) := by decide +kernel
theorem dX10_sheetAt_2 : decode cX10_sheetAt 2 = .ok (.aload_n 0, 1) := by decide +kernel
theorem dX10_sheetAt_3 : decode cX10_sheetAt 3 = .ok (.getfield 32, 3) := by decide +kernel
theorem dX10_sheetAt_6 : decode cX10_sheetAt 6 = .ok (.arraylength, 1) := by decide +kernel
theorem dX10_sheetAt_7 : decode cX10_sheetAt 7 = .ok (.iconst 1, 1) := by decide +kernel
theorem dX10_sheetAt_8 : decode cX10_sheetAt 8 = .ok (.isub, 1) := by decide +kernel
theorem dX10_sheetAt_9 : decode cX10_sheetAt 9 = .ok (.invokestatic 75, 3) := by decide +kernel
theorem dX10_sheetAt_12 : decode cX10_sheetAt 12 = .ok (.ifCond .eq 12, 3) := by decide +kernel
theorem dX10_sheetAt_15 : decode cX10_sheetAt 15 = .ok (.aload_n 0, 1) := by decide +kernel
theorem dX10_sheetAt_16 : decode cX10_sheetAt 16 = .ok (.getfield 32, 3) := by decide +kernel
theorem dX10_sheetAt_19 : decode cX10_sheetAt 19 = .ok (.iload_n 1, 1) := by decide +kernel
theorem dX10_sheetAt_20 : decode cX10_sheetAt 20 = .ok (.aaload, 1) := by decide +kernel
theorem dX10_sheetAt_21 : decode cX10_sheetAt 21 = .ok (.goto 4, 3) := by decide +kernel
theorem dX10_sheetAt_24 : decode cX10_sheetAt 24 = .ok (.aconst_null, 1) := by decide +kernel
theorem dX10_sheetAt_25 : decode cX10_sheetAt 25 = .ok (.areturn, 1) := by decide +kernel
theorem dX10_looseRefusal_0 : decode cX10_looseRefusal 0 = .ok (.aload_n 0, 1) := by decide +kernel
theorem dX10_looseRefusal_1 : decode cX10_looseRefusal 1 = .ok (.getfield 129, 3) := by decide +kernel
theorem dX10_looseRefusal_4 : decode cX10_looseRefusal 4 = .ok (.ifCond .ne 8, 3) := by decide +kernel
theorem dX10_looseRefusal_7 : decode cX10_looseRefusal 7 = .ok (.bipush (-3), 2) := by decide +kernel
theorem dX10_looseRefusal_9 : decode cX10_looseRefusal 9 = .ok (.goto 18, 3) := by decide +kernel
theorem dX10_looseRefusal_12 : decode cX10_looseRefusal 12 = .ok (.aload_n 0, 1) := by decide +kernel
theorem dX10_looseRefusal_13 : decode cX10_looseRefusal 13 = .ok (.getfield 129, 3) := by decide +kernel
theorem dX10_looseRefusal_16 : decode cX10_looseRefusal 16 = .ok (.bipush 8, 2) := by decide +kernel
theorem dX10_looseRefusal_18 : decode cX10_looseRefusal 18 = .ok (.if_icmp .le 8, 3) := by decide +kernel
theorem dX10_looseRefusal_21 : decode cX10_looseRefusal 21 = .ok (.bipush (-4), 2) := by decide +kernel
theorem dX10_looseRefusal_23 : decode cX10_looseRefusal 23 = .ok (.goto 4, 3) := by decide +kernel
theorem dX10_looseRefusal_26 : decode cX10_looseRefusal 26 = .ok (.iconst 0, 1) := by decide +kernel
theorem dX10_looseRefusal_27 : decode cX10_looseRefusal 27 = .ok (.ireturn, 1) := by decide +kernel
theorem dX10_isDrawing_0 : decode cX10_isDrawing 0 = .ok (.iload_n 0, 1) := by decide +kernel
theorem dX10_isDrawing_1 : decode cX10_isDrawing 1 = .ok (.iconst 1, 1) := by decide +kernel
theorem dX10_isDrawing_2 : decode cX10_isDrawing 2 = .ok (.bipush 99, 2) := by decide +kernel
theorem dX10_isDrawing_4 : decode cX10_isDrawing 4 = .ok (.invokestatic 75, 3) := by decide +kernel
theorem dX10_isDrawing_7 : decode cX10_isDrawing 7 = .ok (.ifCond .eq 17, 3) := by decide +kernel
theorem dX10_isDrawing_10 : decode cX10_isDrawing 10 = .ok (.iload_n 1, 1) := by decide +kernel
theorem dX10_isDrawing_11 : decode cX10_isDrawing 11 = .ok (.iconst 1, 1) := by decide +kernel
theorem dX10_isDrawing_12 : decode cX10_isDrawing 12 = .ok (.bipush 99, 2) := by decide +kernel
theorem dX10_isDrawing_14 : decode cX10_isDrawing 14 = .ok (.invokestatic 75, 3) := by decide +kernel
theorem dX10_isDrawing_17 : decode cX10_isDrawing 17 = .ok (.ifCond .eq 7, 3) := by decide +kernel
theorem dX10_isDrawing_20 : decode cX10_isDrawing 20 = .ok (.iconst 1, 1) := by decide +kernel
theorem dX10_isDrawing_21 : decode cX10_isDrawing 21 = .ok (.goto 4, 3) := by decide +kernel
theorem dX10_isDrawing_24 : decode cX10_isDrawing 24 = .ok (.iconst 0, 1) := by decide +kernel
theorem dX10_isDrawing_25 : decode cX10_isDrawing 25 = .ok (.ireturn, 1) := by decide +kernel
theorem dX10_slitWorth_0 : decode cX10_slitWorth 0 = .ok (.iload_n 0, 1) := by decide +kernel
theorem dX10_slitWorth_1 : decode cX10_slitWorth 1 = .ok (.iload_n 2, 1) := by decide +kernel
theorem dX10_slitWorth_2 : decode cX10_slitWorth 2 = .ok (.imul, 1) := by decide +kernel
theorem dX10_slitWorth_3 : decode cX10_slitWorth 3 = .ok (.iload_n 1, 1) := by decide +kernel
theorem dX10_slitWorth_4 : decode cX10_slitWorth 4 = .ok (.iload_n 2, 1) := by decide +kernel
theorem dX10_slitWorth_5 : decode cX10_slitWorth 5 = .ok (.imul, 1) := by decide +kernel
theorem dX10_slitWorth_6 : decode cX10_slitWorth 6 = .ok (.iload_n 2, 1) := by decide +kernel
theorem dX10_slitWorth_7 : decode cX10_slitWorth 7 = .ok (.imul, 1) := by decide +kernel
theorem dX10_slitWorth_8 : decode cX10_slitWorth 8 = .ok (.isub, 1) := by decide +kernel
theorem dX10_slitWorth_9 : decode cX10_slitWorth 9 = .ok (.ireturn, 1) := by decide +kernel
theorem dX11_init_0 : decode cX11_init 0 = .ok (.aload_n 0, 1) := by decide +kernel
theorem dX11_init_1 : decode cX11_init 1 = .ok (.invokespecial 1, 3) := by decide +kernel
theorem dX11_init_4 : decode cX11_init 4 = .ok (.aload_n 0, 1) := by decide +kernel
theorem dX11_init_5 : decode cX11_init 5 = .ok (.sipush 160, 3) := by decide +kernel
theorem dX11_init_8 : decode cX11_init 8 = .ok (.newarray .int, 2) := by decide +kernel
theorem dX11_init_10 : decode cX11_init 10 = .ok (.putfield 7, 3) := by decide +kernel
theorem dX11_init_13 : decode cX11_init 13 = .ok (.aload_n 0, 1) := by decide +kernel
theorem dX11_init_14 : decode cX11_init 14 = .ok (.iconst 2, 1) := by decide +kernel
theorem dX11_init_15 : decode cX11_init 15 = .ok (.newarray .int, 2) := by decide +kernel
theorem dX11_init_17 : decode cX11_init 17 = .ok (.putfield 13, 3) := by decide +kernel
theorem dX11_init_20 : decode cX11_init 20 = .ok (.aload_n 0, 1) := by decide +kernel
theorem dX11_init_21 : decode cX11_init 21 = .ok (.iconst 2, 1) := by decide +kernel
theorem dX11_init_22 : decode cX11_init 22 = .ok (.newarray .int, 2) := by decide +kernel
theorem dX11_init_24 : decode cX11_init 24 = .ok (.putfield 16, 3) := by decide +kernel
theorem dX11_init_27 : decode cX11_init 27 = .ok (.aload_n 0, 1) := by decide +kernel
theorem dX11_init_28 : decode cX11_init 28 = .ok (.bipush 100, 2) := by decide +kernel
theorem dX11_init_30 : decode cX11_init 30 = .ok (.newarray .int, 2) := by decide +kernel
theorem dX11_init_32 : decode cX11_init 32 = .ok (.putfield 19, 3) := by decide +kernel
theorem dX11_init_35 : decode cX11_init 35 = .ok (.aload_n 0, 1) := by decide +kernel
theorem dX11_init_36 : decode cX11_init 36 = .ok (.iconst 2, 1) := by decide +kernel
theorem dX11_init_37 : decode cX11_init 37 = .ok (.newarray .int, 2) := by decide +kernel
theorem dX11_init_39 : decode cX11_init 39 = .ok (.putfield 22, 3) := by decide +kernel
theorem dX11_init_42 : decode cX11_init 42 = .ok (.aload_n 0, 1) := by decide +kernel
theorem dX11_init_43 : decode cX11_init 43 = .ok (.iconst 2, 1) := by decide +kernel
theorem dX11_init_44 : decode cX11_init 44 = .ok (.newarray .int, 2) := by decide +kernel
theorem dX11_init_46 : decode cX11_init 46 = .ok (.putfield 25, 3) := by decide +kernel
theorem dX11_init_49 : decode cX11_init 49 = .ok (.aload_n 0, 1) := by decide +kernel
theorem dX11_init_50 : decode cX11_init 50 = .ok (.bipush 12, 2) := by decide +kernel
theorem dX11_init_52 : decode cX11_init 52 = .ok (.newarray .int, 2) := by decide +kernel
theorem dX11_init_54 : decode cX11_init 54 = .ok (.putfield 28, 3) := by decide +kernel
theorem dX11_init_57 : decode cX11_init 57 = .ok (.aload_n 0, 1) := by decide +kernel
theorem dX11_init_58 : decode cX11_init 58 = .ok (.bipush 12, 2) := by decide +kernel
theorem dX11_init_60 : decode cX11_init 60 = .ok (.newarray .int, 2) := by decide +kernel
theorem dX11_init_62 : decode cX11_init 62 = .ok (.putfield 31, 3) := by decide +kernel
theorem dX11_init_65 : decode cX11_init 65 = .ok (.aload_n 0, 1) := by decide +kernel
theorem dX11_init_66 : decode cX11_init 66 = .ok (.bipush 12, 2) := by decide +kernel
theorem dX11_init_68 : decode cX11_init 68 = .ok (.newarray .int, 2) := by decide +kernel
theorem dX11_init_70 : decode cX11_init 70 = .ok (.putfield 34, 3) := by decide +kernel
theorem dX11_init_73 : decode cX11_init 73 = .ok (.aload_n 0, 1) := by decide +kernel
theorem dX11_init_74 : decode cX11_init 74 = .ok (.bipush 12, 2) := by decide +kernel
theorem dX11_init_76 : decode cX11_init 76 = .ok (.newarray .int, 2) := by decide +kernel
theorem dX11_init_78 : decode cX11_init 78 = .ok (.putfield 37, 3) := by decide +kernel
theorem dX11_init_81 : decode cX11_init 81 = .ok (.aload_n 0, 1) := by decide +kernel
theorem dX11_init_82 : decode cX11_init 82 = .ok (.bipush 40, 2) := by decide +kernel
theorem dX11_init_84 : decode cX11_init 84 = .ok (.newarray .int, 2) := by decide +kernel
theorem dX11_init_86 : decode cX11_init 86 = .ok (.putfield 40, 3) := by decide +kernel
theorem dX11_init_89 : decode cX11_init 89 = .ok (.aload_n 0, 1) := by decide +kernel
theorem dX11_init_90 : decode cX11_init 90 = .ok (.bipush 40, 2) := by decide +kernel
theorem dX11_init_92 : decode cX11_init 92 = .ok (.newarray .int, 2) := by decide +kernel
theorem dX11_init_94 : decode cX11_init 94 = .ok (.putfield 43, 3) := by decide +kernel
theorem dX11_init_97 : decode cX11_init 97 = .ok (.aload_n 0, 1) := by decide +kernel
theorem dX11_init_98 : decode cX11_init 98 = .ok (.bipush 40, 2) := by decide +kernel
theorem dX11_init_100 : decode cX11_init 100 = .ok (.newarray .int, 2) := by decide +kernel
theorem dX11_init_102 : decode cX11_init 102 = .ok (.putfield 46, 3) := by decide +kernel
theorem dX11_init_105 : decode cX11_init 105 = .ok (.aload_n 0, 1) := by decide +kernel
theorem dX11_init_106 : decode cX11_init 106 = .ok (.iconst 4, 1) := by decide +kernel
theorem dX11_init_107 : decode cX11_init 107 = .ok (.newarray .boolean, 2) := by decide +kernel
theorem dX11_init_109 : decode cX11_init 109 = .ok (.putfield 49, 3) := by decide +kernel
theorem dX11_init_112 : decode cX11_init 112 = .ok (.aload_n 0, 1) := by decide +kernel
theorem dX11_init_113 : decode cX11_init 113 = .ok (.iconst 4, 1) := by decide +kernel
theorem dX11_init_114 : decode cX11_init 114 = .ok (.newarray .int, 2) := by decide +kernel
theorem dX11_init_116 : decode cX11_init 116 = .ok (.putfield 53, 3) := by decide +kernel
theorem dX11_init_119 : decode cX11_init 119 = .ok (.aload_n 0, 1) := by decide +kernel
theorem dX11_init_120 : decode cX11_init 120 = .ok (.iconst 4, 1) := by decide +kernel
theorem dX11_init_121 : decode cX11_init 121 = .ok (.newarray .int, 2) := by decide +kernel
theorem dX11_init_123 : decode cX11_init 123 = .ok (.putfield 56, 3) := by decide +kernel
theorem dX11_init_126 : decode cX11_init 126 = .ok (.aload_n 0, 1) := by decide +kernel
theorem dX11_init_127 : decode cX11_init 127 = .ok (.sipush 240, 3) := by decide +kernel
theorem dX11_init_130 : decode cX11_init 130 = .ok (.newarray .int, 2) := by decide +kernel
theorem dX11_init_132 : decode cX11_init 132 = .ok (.putfield 59, 3) := by decide +kernel
theorem dX11_init_135 : decode cX11_init 135 = .ok (.aload_n 0, 1) := by decide +kernel
theorem dX11_init_136 : decode cX11_init 136 = .ok (.bipush 60, 2) := by decide +kernel
theorem dX11_init_138 : decode cX11_init 138 = .ok (.newarray .int, 2) := by decide +kernel
theorem dX11_init_140 : decode cX11_init 140 = .ok (.putfield 62, 3) := by decide +kernel
theorem dX11_init_143 : decode cX11_init 143 = .ok (.aload_n 0, 1) := by decide +kernel
theorem dX11_init_144 : decode cX11_init 144 = .ok (.getfield 22, 3) := by decide +kernel
theorem dX11_init_147 : decode cX11_init 147 = .ok (.iconst 0, 1) := by decide +kernel
theorem dX11_init_148 : decode cX11_init 148 = .ok (.iconst 3, 1) := by decide +kernel
theorem dX11_init_149 : decode cX11_init 149 = .ok (.iastore, 1) := by decide +kernel
theorem dX11_init_150 : decode cX11_init 150 = .ok (.aload_n 0, 1) := by decide +kernel
theorem dX11_init_151 : decode cX11_init 151 = .ok (.getfield 22, 3) := by decide +kernel
theorem dX11_init_154 : decode cX11_init 154 = .ok (.iconst 1, 1) := by decide +kernel
theorem dX11_init_155 : decode cX11_init 155 = .ok (.bipush 10, 2) := by decide +kernel
theorem dX11_init_157 : decode cX11_init 157 = .ok (.iastore, 1) := by decide +kernel
theorem dX11_init_158 : decode cX11_init 158 = .ok (.return_, 1) := by decide +kernel
theorem dX11_in_0 : decode cX11_in 0 = .ok (.iload_n 0, 1) := by decide +kernel
theorem dX11_in_1 : decode cX11_in 1 = .ok (.iload_n 1, 1) := by decide +kernel
theorem dX11_in_2 : decode cX11_in 2 = .ok (.if_icmp .lt 12, 3) := by decide +kernel
theorem dX11_in_5 : decode cX11_in 5 = .ok (.iload_n 0, 1) := by decide +kernel
theorem dX11_in_6 : decode cX11_in 6 = .ok (.iload_n 2, 1) := by decide +kernel
theorem dX11_in_7 : decode cX11_in 7 = .ok (.if_icmp .gt 7, 3) := by decide +kernel
theorem dX11_in_10 : decode cX11_in 10 = .ok (.iconst 1, 1) := by decide +kernel
theorem dX11_in_11 : decode cX11_in 11 = .ok (.goto 4, 3) := by decide +kernel
theorem dX11_in_14 : decode cX11_in 14 = .ok (.iconst 0, 1) := by decide +kernel
theorem dX11_in_15 : decode cX11_in 15 = .ok (.ireturn, 1) := by decide +kernel
theorem dX11_isIn_0 : decode cX11_isIn 0 = .ok (.iload_n 0, 1) := by decide +kernel
theorem dX11_isIn_1 : decode cX11_isIn 1 = .ok (.iload_n 1, 1) := by decide +kernel
theorem dX11_isIn_2 : decode cX11_isIn 2 = .ok (.ishr, 1) := by decide +kernel
theorem dX11_isIn_3 : decode cX11_isIn 3 = .ok (.iconst 1, 1) := by decide +kernel
theorem dX11_isIn_4 : decode cX11_isIn 4 = .ok (.iand, 1) := by decide +kernel
theorem dX11_isIn_5 : decode cX11_isIn 5 = .ok (.iconst 1, 1) := by decide +kernel
theorem dX11_isIn_6 : decode cX11_isIn 6 = .ok (.if_icmp .ne 7, 3) := by decide +kernel
theorem dX11_isIn_9 : decode cX11_isIn 9 = .ok (.iconst 1, 1) := by decide +kernel
theorem dX11_isIn_10 : decode cX11_isIn 10 = .ok (.goto 4, 3) := by decide +kernel
theorem dX11_isIn_13 : decode cX11_isIn 13 = .ok (.iconst 0, 1) := by decide +kernel
theorem dX11_isIn_14 : decode cX11_isIn 14 = .ok (.ireturn, 1) := by decide +kernel
theorem dX11_ones_0 : decode cX11_ones 0 = .ok (.iconst 0, 1) := by decide +kernel
theorem dX11_ones_1 : decode cX11_ones 1 = .ok (.istore_n 1, 1) := by decide +kernel
theorem dX11_ones_2 : decode cX11_ones 2 = .ok (.iconst 0, 1) := by decide +kernel
theorem dX11_ones_3 : decode cX11_ones 3 = .ok (.istore_n 2, 1) := by decide +kernel
theorem dX11_ones_4 : decode cX11_ones 4 = .ok (.iload_n 2, 1) := by decide +kernel
theorem dX11_ones_5 : decode cX11_ones 5 = .ok (.bipush 12, 2) := by decide +kernel
theorem dX11_ones_7 : decode cX11_ones 7 = .ok (.if_icmp .ge 17, 3) := by decide +kernel
theorem dX11_ones_10 : decode cX11_ones 10 = .ok (.iload_n 1, 1) := by decide +kernel
theorem dX11_ones_11 : decode cX11_ones 11 = .ok (.iload_n 0, 1) := by decide +kernel
theorem dX11_ones_12 : decode cX11_ones 12 = .ok (.iload_n 2, 1) := by decide +kernel
theorem dX11_ones_13 : decode cX11_ones 13 = .ok (.ishr, 1) := by decide +kernel
theorem dX11_ones_14 : decode cX11_ones 14 = .ok (.iconst 1, 1) := by decide +kernel
theorem dX11_ones_15 : decode cX11_ones 15 = .ok (.iand, 1) := by decide +kernel
theorem dX11_ones_16 : decode cX11_ones 16 = .ok (.iadd, 1) := by decide +kernel
theorem dX11_ones_17 : decode cX11_ones 17 = .ok (.istore_n 1, 1) := by decide +kernel
theorem dX11_ones_18 : decode cX11_ones 18 = .ok (.iinc 2 1, 3) := by decide +kernel
theorem dX11_ones_21 : decode cX11_ones 21 = .ok (.goto (-17), 3) := by decide +kernel
theorem dX11_ones_24 : decode cX11_ones 24 = .ok (.iload_n 1, 1) := by decide +kernel
theorem dX11_ones_25 : decode cX11_ones 25 = .ok (.ireturn, 1) := by decide +kernel
theorem dX11_amount_0 : decode cX11_amount 0 = .ok (.iload_n 0, 1) := by decide +kernel
theorem dX11_amount_1 : decode cX11_amount 1 = .ok (.ifCond .ge 8, 3) := by decide +kernel
theorem dX11_amount_4 : decode cX11_amount 4 = .ok (.iload_n 0, 1) := by decide +kernel
theorem dX11_amount_5 : decode cX11_amount 5 = .ok (.ineg, 1) := by decide +kernel
theorem dX11_amount_6 : decode cX11_amount 6 = .ok (.goto 4, 3) := by decide +kernel
theorem dX11_amount_9 : decode cX11_amount 9 = .ok (.iload_n 0, 1) := by decide +kernel
theorem dX11_amount_10 : decode cX11_amount 10 = .ok (.ireturn, 1) := by decide +kernel
theorem dX11_no_0 : decode cX11_no 0 = .ok (.ldc2_w 65, 3) := by decide +kernel
theorem dX11_no_3 : decode cX11_no 3 = .ok (.iload_n 0, 1) := by decide +kernel
theorem dX11_no_4 : decode cX11_no 4 = .ok (.i2l, 1) := by decide +kernel
theorem dX11_no_5 : decode cX11_no 5 = .ok (.lsub, 1) := by decide +kernel
theorem dX11_no_6 : decode cX11_no 6 = .ok (.lreturn, 1) := by decide +kernel
theorem dX11_common_0 : decode cX11_common 0 = .ok (.iload_n 0, 1) := by decide +kernel
theorem dX11_common_1 : decode cX11_common 1 = .ok (.istore_n 2, 1) := by decide +kernel
theorem dX11_common_2 : decode cX11_common 2 = .ok (.iload_n 1, 1) := by decide +kernel
theorem dX11_common_3 : decode cX11_common 3 = .ok (.istore_n 3, 1) := by decide +kernel
theorem dX11_common_4 : decode cX11_common 4 = .ok (.iload_n 3, 1) := by decide +kernel
theorem dX11_common_5 : decode cX11_common 5 = .ok (.ifCond .eq 16, 3) := by decide +kernel
theorem dX11_common_8 : decode cX11_common 8 = .ok (.iload_n 2, 1) := by decide +kernel
theorem dX11_common_9 : decode cX11_common 9 = .ok (.iload_n 3, 1) := by decide +kernel
theorem dX11_common_10 : decode cX11_common 10 = .ok (.irem, 1) := by decide +kernel
theorem dX11_common_11 : decode cX11_common 11 = .ok (.istore 4, 2) := by decide +kernel
theorem dX11_common_13 : decode cX11_common 13 = .ok (.iload_n 3, 1) := by decide +kernel
theorem dX11_common_14 : decode cX11_common 14 = .ok (.istore_n 2, 1) := by decide +kernel
theorem dX11_common_15 : decode cX11_common 15 = .ok (.iload 4, 2) := by decide +kernel
theorem dX11_common_17 : decode cX11_common 17 = .ok (.istore_n 3, 1) := by decide +kernel
theorem dX11_common_18 : decode cX11_common 18 = .ok (.goto (-14), 3) := by decide +kernel
theorem dX11_common_21 : decode cX11_common 21 = .ok (.iload_n 2, 1) := by decide +kernel
theorem dX11_common_22 : decode cX11_common 22 = .ok (.ireturn, 1) := by decide +kernel
theorem dX11_lowest_0 : decode cX11_lowest 0 = .ok (.iload_n 0, 1) := by decide +kernel
theorem dX11_lowest_1 : decode cX11_lowest 1 = .ok (.invokestatic 67, 3) := by decide +kernel
theorem dX11_lowest_4 : decode cX11_lowest 4 = .ok (.iload_n 1, 1) := by decide +kernel
theorem dX11_lowest_5 : decode cX11_lowest 5 = .ok (.invokestatic 71, 3) := by decide +kernel
theorem dX11_lowest_8 : decode cX11_lowest 8 = .ok (.istore_n 3, 1) := by decide +kernel
theorem dX11_lowest_9 : decode cX11_lowest 9 = .ok (.iload_n 2, 1) := by decide +kernel
theorem dX11_lowest_10 : decode cX11_lowest 10 = .ok (.ifCond .ne 10, 3) := by decide +kernel
theorem dX11_lowest_13 : decode cX11_lowest 13 = .ok (.iload_n 0, 1) := by decide +kernel
theorem dX11_lowest_14 : decode cX11_lowest 14 = .ok (.iload_n 3, 1) := by decide +kernel
theorem dX11_lowest_15 : decode cX11_lowest 15 = .ok (.idiv, 1) := by decide +kernel
theorem dX11_lowest_16 : decode cX11_lowest 16 = .ok (.i2l, 1) := by decide +kernel
theorem dX11_lowest_17 : decode cX11_lowest 17 = .ok (.goto 7, 3) := by decide +kernel
theorem dX11_lowest_20 : decode cX11_lowest 20 = .ok (.iload_n 1, 1) := by decide +kernel
theorem dX11_lowest_21 : decode cX11_lowest 21 = .ok (.iload_n 3, 1) := by decide +kernel
theorem dX11_lowest_22 : decode cX11_lowest 22 = .ok (.idiv, 1) := by decide +kernel
theorem dX11_lowest_23 : decode cX11_lowest 23 = .ok (.i2l, 1) := by decide +kernel
theorem dX11_lowest_24 : decode cX11_lowest 24 = .ok (.lreturn, 1) := by decide +kernel
theorem dX11_nearest_0 : decode cX11_nearest 0 = .ok (.iconst 2, 1) := by decide +kernel
theorem dX11_nearest_1 : decode cX11_nearest 1 = .ok (.iload_n 0, 1) := by decide +kernel
theorem dX11_nearest_2 : decode cX11_nearest 2 = .ok (.imul, 1) := by decide +kernel
theorem dX11_nearest_3 : decode cX11_nearest 3 = .ok (.iload_n 1, 1) := by decide +kernel
theorem dX11_nearest_4 : decode cX11_nearest 4 = .ok (.iadd, 1) := by decide +kernel
theorem dX11_nearest_5 : decode cX11_nearest 5 = .ok (.iconst 1, 1) := by decide +kernel
theorem dX11_nearest_6 : decode cX11_nearest 6 = .ok (.isub, 1) := by decide +kernel
theorem dX11_nearest_7 : decode cX11_nearest 7 = .ok (.iconst 2, 1) := by decide +kernel
theorem dX11_nearest_8 : decode cX11_nearest 8 = .ok (.iload_n 1, 1) := by decide +kernel
theorem dX11_nearest_9 : decode cX11_nearest 9 = .ok (.imul, 1) := by decide +kernel
theorem dX11_nearest_10 : decode cX11_nearest 10 = .ok (.idiv, 1) := by decide +kernel
theorem dX11_nearest_11 : decode cX11_nearest 11 = .ok (.ireturn, 1) := by decide +kernel
theorem dX11_isStrip_0 : decode cX11_isStrip 0 = .ok (.iload_n 0, 1) := by decide +kernel
theorem dX11_isStrip_1 : decode cX11_isStrip 1 = .ok (.iconst 0, 1) := by decide +kernel
theorem dX11_isStrip_2 : decode cX11_isStrip 2 = .ok (.iconst 1, 1) := by decide +kernel
theorem dX11_isStrip_3 : decode cX11_isStrip 3 = .ok (.invokestatic 75, 3) := by decide +kernel
theorem dX11_isStrip_6 : decode cX11_isStrip 6 = .ok (.ireturn, 1) := by decide +kernel
theorem dX11_type_0 : decode cX11_type 0 = .ok (.iload_n 1, 1) := by decide +kernel
theorem dX11_type_1 : decode cX11_type 1 = .ok (.invokestatic 79, 3) := by decide +kernel
theorem dX11_type_4 : decode cX11_type 4 = .ok (.ifCond .eq 14, 3) := by decide +kernel
theorem dX11_type_7 : decode cX11_type 7 = .ok (.iload_n 2, 1) := by decide +kernel
theorem dX11_type_8 : decode cX11_type 8 = .ok (.iconst 0, 1) := by decide +kernel
theorem dX11_type_9 : decode cX11_type 9 = .ok (.sipush 255, 3) := by decide +kernel
theorem dX11_type_12 : decode cX11_type 12 = .ok (.invokestatic 75, 3) := by decide +kernel
theorem dX11_type_15 : decode cX11_type 15 = .ok (.ifCond .ne 6, 3) := by decide +kernel
theorem dX11_type_18 : decode cX11_type 18 = .ok (.bipush (-2), 2) := by decide +kernel
theorem dX11_type_20 : decode cX11_type 20 = .ok (.ireturn, 1) := by decide +kernel
theorem dX11_type_21 : decode cX11_type 21 = .ok (.aload_n 0, 1) := by decide +kernel
theorem dX11_type_22 : decode cX11_type 22 = .ok (.getfield 13, 3) := by decide +kernel
theorem dX11_type_25 : decode cX11_type 25 = .ok (.iload_n 1, 1) := by decide +kernel
theorem dX11_type_26 : decode cX11_type 26 = .ok (.iaload, 1) := by decide +kernel
theorem dX11_type_27 : decode cX11_type 27 = .ok (.bipush 80, 2) := by decide +kernel
theorem dX11_type_29 : decode cX11_type 29 = .ok (.if_icmp .ne 6, 3) := by decide +kernel
theorem dX11_type_32 : decode cX11_type 32 = .ok (.bipush (-4), 2) := by decide +kernel
theorem dX11_type_34 : decode cX11_type 34 = .ok (.ireturn, 1) := by decide +kernel
theorem dX11_type_35 : decode cX11_type 35 = .ok (.aload_n 0, 1) := by decide +kernel
theorem dX11_type_36 : decode cX11_type 36 = .ok (.getfield 7, 3) := by decide +kernel
theorem dX11_type_39 : decode cX11_type 39 = .ok (.bipush 80, 2) := by decide +kernel
theorem dX11_type_41 : decode cX11_type 41 = .ok (.iload_n 1, 1) := by decide +kernel
theorem dX11_type_42 : decode cX11_type 42 = .ok (.imul, 1) := by decide +kernel
theorem dX11_type_43 : decode cX11_type 43 = .ok (.aload_n 0, 1) := by decide +kernel
theorem dX11_type_44 : decode cX11_type 44 = .ok (.getfield 13, 3) := by decide +kernel
theorem dX11_type_47 : decode cX11_type 47 = .ok (.iload_n 1, 1) := by decide +kernel
theorem dX11_type_48 : decode cX11_type 48 = .ok (.iaload, 1) := by decide +kernel
theorem dX11_type_49 : decode cX11_type 49 = .ok (.iadd, 1) := by decide +kernel
theorem dX11_type_50 : decode cX11_type 50 = .ok (.iload_n 2, 1) := by decide +kernel
theorem dX11_type_51 : decode cX11_type 51 = .ok (.iastore, 1) := by decide +kernel
theorem dX11_type_52 : decode cX11_type 52 = .ok (.aload_n 0, 1) := by decide +kernel
theorem dX11_type_53 : decode cX11_type 53 = .ok (.getfield 13, 3) := by decide +kernel
theorem dX11_type_56 : decode cX11_type 56 = .ok (.iload_n 1, 1) := by decide +kernel
theorem dX11_type_57 : decode cX11_type 57 = .ok (.dup2, 1) := by decide +kernel
theorem dX11_type_58 : decode cX11_type 58 = .ok (.iaload, 1) := by decide +kernel
theorem dX11_type_59 : decode cX11_type 59 = .ok (.iconst 1, 1) := by decide +kernel
theorem dX11_type_60 : decode cX11_type 60 = .ok (.iadd, 1) := by decide +kernel
theorem dX11_type_61 : decode cX11_type 61 = .ok (.iastore, 1) := by decide +kernel
theorem dX11_type_62 : decode cX11_type 62 = .ok (.aload_n 0, 1) := by decide +kernel
theorem dX11_type_63 : decode cX11_type 63 = .ok (.getfield 13, 3) := by decide +kernel
theorem dX11_type_66 : decode cX11_type 66 = .ok (.iload_n 1, 1) := by decide +kernel
theorem dX11_type_67 : decode cX11_type 67 = .ok (.iaload, 1) := by decide +kernel
theorem dX11_type_68 : decode cX11_type 68 = .ok (.ireturn, 1) := by decide +kernel
theorem dX11_wipe_0 : decode cX11_wipe 0 = .ok (.iload_n 1, 1) := by decide +kernel
theorem dX11_wipe_1 : decode cX11_wipe 1 = .ok (.invokestatic 79, 3) := by decide +kernel
theorem dX11_wipe_4 : decode cX11_wipe 4 = .ok (.ifCond .ne 6, 3) := by decide +kernel
theorem dX11_wipe_7 : decode cX11_wipe 7 = .ok (.bipush (-2), 2) := by decide +kernel
theorem dX11_wipe_9 : decode cX11_wipe 9 = .ok (.ireturn, 1) := by decide +kernel
theorem dX11_wipe_10 : decode cX11_wipe 10 = .ok (.aload_n 0, 1) := by decide +kernel
theorem dX11_wipe_11 : decode cX11_wipe 11 = .ok (.getfield 13, 3) := by decide +kernel
theorem dX11_wipe_14 : decode cX11_wipe 14 = .ok (.iload_n 1, 1) := by decide +kernel
theorem dX11_wipe_15 : decode cX11_wipe 15 = .ok (.iaload, 1) := by decide +kernel
theorem dX11_wipe_16 : decode cX11_wipe 16 = .ok (.istore_n 2, 1) := by decide +kernel
theorem dX11_wipe_17 : decode cX11_wipe 17 = .ok (.aload_n 0, 1) := by decide +kernel
theorem dX11_wipe_18 : decode cX11_wipe 18 = .ok (.getfield 13, 3) := by decide +kernel
theorem dX11_wipe_21 : decode cX11_wipe 21 = .ok (.iload_n 1, 1) := by decide +kernel
theorem dX11_wipe_22 : decode cX11_wipe 22 = .ok (.iconst 0, 1) := by decide +kernel
theorem dX11_wipe_23 : decode cX11_wipe 23 = .ok (.iastore, 1) := by decide +kernel
theorem dX11_wipe_24 : decode cX11_wipe 24 = .ok (.iload_n 2, 1) := by decide +kernel
theorem dX11_wipe_25 : decode cX11_wipe 25 = .ok (.ireturn, 1) := by decide +kernel
theorem dX11_byteAt_0 : decode cX11_byteAt 0 = .ok (.iload_n 2, 1) := by decide +kernel
theorem dX11_byteAt_1 : decode cX11_byteAt 1 = .ok (.aload_n 0, 1) := by decide +kernel
theorem dX11_byteAt_2 : decode cX11_byteAt 2 = .ok (.getfield 13, 3) := by decide +kernel
theorem dX11_byteAt_5 : decode cX11_byteAt 5 = .ok (.iload_n 1, 1) := by decide +kernel
theorem dX11_byteAt_6 : decode cX11_byteAt 6 = .ok (.iaload, 1) := by decide +kernel
theorem dX11_byteAt_7 : decode cX11_byteAt 7 = .ok (.if_icmp .ge 17, 3) := by decide +kernel
theorem dX11_byteAt_10 : decode cX11_byteAt 10 = .ok (.aload_n 0, 1) := by decide +kernel
theorem dX11_byteAt_11 : decode cX11_byteAt 11 = .ok (.getfield 7, 3) := by decide +kernel
theorem dX11_byteAt_14 : decode cX11_byteAt 14 = .ok (.bipush 80, 2) := by decide +kernel
theorem dX11_byteAt_16 : decode cX11_byteAt 16 = .ok (.iload_n 1, 1) := by decide +kernel
theorem dX11_byteAt_17 : decode cX11_byteAt 17 = .ok (.imul, 1) := by decide +kernel
theorem dX11_byteAt_18 : decode cX11_byteAt 18 = .ok (.iload_n 2, 1) := by decide +kernel
theorem dX11_byteAt_19 : decode cX11_byteAt 19 = .ok (.iadd, 1) := by decide +kernel
theorem dX11_byteAt_20 : decode cX11_byteAt 20 = .ok (.iaload, 1) := by decide +kernel
theorem dX11_byteAt_21 : decode cX11_byteAt 21 = .ok (.goto 4, 3) := by decide +kernel
theorem dX11_byteAt_24 : decode cX11_byteAt 24 = .ok (.iconst (-1), 1) := by decide +kernel
theorem dX11_byteAt_25 : decode cX11_byteAt 25 = .ok (.ireturn, 1) := by decide +kernel
theorem dX11_faultNow_0 : decode cX11_faultNow 0 = .ok (.aload_n 0, 1) := by decide +kernel
theorem dX11_faultNow_1 : decode cX11_faultNow 1 = .ok (.getfield 16, 3) := by decide +kernel
theorem dX11_faultNow_4 : decode cX11_faultNow 4 = .ok (.iload_n 1, 1) := by decide +kernel
theorem dX11_faultNow_5 : decode cX11_faultNow 5 = .ok (.iconst 0, 1) := by decide +kernel
theorem dX11_faultNow_6 : decode cX11_faultNow 6 = .ok (.iastore, 1) := by decide +kernel
theorem dX11_faultNow_7 : decode cX11_faultNow 7 = .ok (.iconst 0, 1) := by decide +kernel
theorem dX11_faultNow_8 : decode cX11_faultNow 8 = .ok (.istore_n 2, 1) := by decide +kernel
theorem dX11_faultNow_9 : decode cX11_faultNow 9 = .ok (.iconst 0, 1) := by decide +kernel
theorem dX11_faultNow_10 : decode cX11_faultNow 10 = .ok (.istore_n 3, 1) := by decide +kernel
theorem dX11_faultNow_11 : decode cX11_faultNow 11 = .ok (.iload_n 3, 1) := by decide +kernel
theorem dX11_faultNow_12 : decode cX11_faultNow 12 = .ok (.aload_n 0, 1) := by decide +kernel
theorem dX11_faultNow_13 : decode cX11_faultNow 13 = .ok (.getfield 13, 3) := by decide +kernel
theorem dX11_faultNow_16 : decode cX11_faultNow 16 = .ok (.iload_n 1, 1) := by decide +kernel
theorem dX11_faultNow_17 : decode cX11_faultNow 17 = .ok (.iaload, 1) := by decide +kernel
theorem dX11_faultNow_18 : decode cX11_faultNow 18 = .ok (.if_icmp .lt 7, 3) := by decide +kernel
theorem dX11_faultNow_21 : decode cX11_faultNow 21 = .ok (.iload_n 3, 1) := by decide +kernel
theorem dX11_faultNow_22 : decode cX11_faultNow 22 = .ok (.ifCond .le 131, 3) := by decide +kernel
theorem dX11_faultNow_25 : decode cX11_faultNow 25 = .ok (.iload_n 2, 1) := by decide +kernel
theorem dX11_faultNow_26 : decode cX11_faultNow 26 = .ok (.bipush 12, 2) := by decide +kernel
theorem dX11_faultNow_28 : decode cX11_faultNow 28 = .ok (.if_icmp .ne 5, 3) := by decide +kernel
theorem dX11_faultNow_31 : decode cX11_faultNow 31 = .ok (.iload_n 3, 1) := by decide +kernel
theorem dX11_faultNow_32 : decode cX11_faultNow 32 = .ok (.ireturn, 1) := by decide +kernel
theorem dX11_faultNow_33 : decode cX11_faultNow 33 = .ok (.iconst 0, 1) := by decide +kernel
theorem dX11_faultNow_34 : decode cX11_faultNow 34 = .ok (.istore 4, 2) := by decide +kernel
theorem dX11_faultNow_36 : decode cX11_faultNow 36 = .ok (.iload 4, 2) := by decide +kernel
theorem dX11_faultNow_38 : decode cX11_faultNow 38 = .ok (.iconst 4, 1) := by decide +kernel
theorem dX11_faultNow_39 : decode cX11_faultNow 39 = .ok (.if_icmp .ge 73, 3) := by decide +kernel
theorem dX11_faultNow_42 : decode cX11_faultNow 42 = .ok (.aload_n 0, 1) := by decide +kernel
theorem dX11_faultNow_43 : decode cX11_faultNow 43 = .ok (.iload_n 1, 1) := by decide +kernel
theorem dX11_faultNow_44 : decode cX11_faultNow 44 = .ok (.iload_n 3, 1) := by decide +kernel
theorem dX11_faultNow_45 : decode cX11_faultNow 45 = .ok (.invokevirtual 83, 3) := by decide +kernel
theorem dX11_faultNow_48 : decode cX11_faultNow 48 = .ok (.istore 5, 2) := by decide +kernel
theorem dX11_faultNow_50 : decode cX11_faultNow 50 = .ok (.iload 5, 2) := by decide +kernel
theorem dX11_faultNow_52 : decode cX11_faultNow 52 = .ok (.bipush 45, 2) := by decide +kernel
theorem dX11_faultNow_54 : decode cX11_faultNow 54 = .ok (.if_icmp .eq 17, 3) := by decide +kernel
theorem dX11_faultNow_57 : decode cX11_faultNow 57 = .ok (.iload 5, 2) := by decide +kernel
theorem dX11_faultNow_59 : decode cX11_faultNow 59 = .ok (.bipush 48, 2) := by decide +kernel
theorem dX11_faultNow_61 : decode cX11_faultNow 61 = .ok (.bipush 57, 2) := by decide +kernel
theorem dX11_faultNow_63 : decode cX11_faultNow 63 = .ok (.invokestatic 75, 3) := by decide +kernel
theorem dX11_faultNow_66 : decode cX11_faultNow 66 = .ok (.ifCond .ne 5, 3) := by decide +kernel
theorem dX11_faultNow_69 : decode cX11_faultNow 69 = .ok (.iload_n 3, 1) := by decide +kernel
theorem dX11_faultNow_70 : decode cX11_faultNow 70 = .ok (.ireturn, 1) := by decide +kernel
theorem dX11_faultNow_71 : decode cX11_faultNow 71 = .ok (.aload_n 0, 1) := by decide +kernel
theorem dX11_faultNow_72 : decode cX11_faultNow 72 = .ok (.getfield 19, 3) := by decide +kernel
theorem dX11_faultNow_75 : decode cX11_faultNow 75 = .ok (.bipush 48, 2) := by decide +kernel
theorem dX11_faultNow_77 : decode cX11_faultNow 77 = .ok (.iload_n 1, 1) := by decide +kernel
theorem dX11_faultNow_78 : decode cX11_faultNow 78 = .ok (.imul, 1) := by decide +kernel
theorem dX11_faultNow_79 : decode cX11_faultNow 79 = .ok (.iconst 4, 1) := by decide +kernel
theorem dX11_faultNow_80 : decode cX11_faultNow 80 = .ok (.iload_n 2, 1) := by decide +kernel
theorem dX11_faultNow_81 : decode cX11_faultNow 81 = .ok (.imul, 1) := by decide +kernel
theorem dX11_faultNow_82 : decode cX11_faultNow 82 = .ok (.iadd, 1) := by decide +kernel
theorem dX11_faultNow_83 : decode cX11_faultNow 83 = .ok (.iload 4, 2) := by decide +kernel
theorem dX11_faultNow_85 : decode cX11_faultNow 85 = .ok (.iadd, 1) := by decide +kernel
theorem dX11_faultNow_86 : decode cX11_faultNow 86 = .ok (.iload 5, 2) := by decide +kernel
theorem dX11_faultNow_88 : decode cX11_faultNow 88 = .ok (.bipush 45, 2) := by decide +kernel
theorem dX11_faultNow_90 : decode cX11_faultNow 90 = .ok (.if_icmp .ne 7, 3) := by decide +kernel
theorem dX11_faultNow_93 : decode cX11_faultNow 93 = .ok (.iconst (-1), 1) := by decide +kernel
theorem dX11_faultNow_94 : decode cX11_faultNow 94 = .ok (.goto 8, 3) := by decide +kernel
theorem dX11_faultNow_97 : decode cX11_faultNow 97 = .ok (.iload 5, 2) := by decide +kernel
theorem dX11_faultNow_99 : decode cX11_faultNow 99 = .ok (.bipush 48, 2) := by decide +kernel
theorem dX11_faultNow_101 : decode cX11_faultNow 101 = .ok (.isub, 1) := by decide +kernel
theorem dX11_faultNow_102 : decode cX11_faultNow 102 = .ok (.iastore, 1) := by decide +kernel
theorem dX11_faultNow_103 : decode cX11_faultNow 103 = .ok (.iinc 3 1, 3) := by decide +kernel
theorem dX11_faultNow_106 : decode cX11_faultNow 106 = .ok (.iinc 4 1, 3) := by decide +kernel
theorem dX11_faultNow_109 : decode cX11_faultNow 109 = .ok (.goto (-73), 3) := by decide +kernel
theorem dX11_faultNow_112 : decode cX11_faultNow 112 = .ok (.iinc 2 1, 3) := by decide +kernel
theorem dX11_faultNow_115 : decode cX11_faultNow 115 = .ok (.iload_n 3, 1) := by decide +kernel
theorem dX11_faultNow_116 : decode cX11_faultNow 116 = .ok (.aload_n 0, 1) := by decide +kernel
theorem dX11_faultNow_117 : decode cX11_faultNow 117 = .ok (.getfield 13, 3) := by decide +kernel
theorem dX11_faultNow_120 : decode cX11_faultNow 120 = .ok (.iload_n 1, 1) := by decide +kernel
theorem dX11_faultNow_121 : decode cX11_faultNow 121 = .ok (.iaload, 1) := by decide +kernel
theorem dX11_faultNow_122 : decode cX11_faultNow 122 = .ok (.if_icmp .ne 12, 3) := by decide +kernel
theorem dX11_faultNow_125 : decode cX11_faultNow 125 = .ok (.aload_n 0, 1) := by decide +kernel
theorem dX11_faultNow_126 : decode cX11_faultNow 126 = .ok (.getfield 16, 3) := by decide +kernel
theorem dX11_faultNow_129 : decode cX11_faultNow 129 = .ok (.iload_n 1, 1) := by decide +kernel
theorem dX11_faultNow_130 : decode cX11_faultNow 130 = .ok (.iload_n 2, 1) := by decide +kernel
theorem dX11_faultNow_131 : decode cX11_faultNow 131 = .ok (.iastore, 1) := by decide +kernel
theorem dX11_faultNow_132 : decode cX11_faultNow 132 = .ok (.iconst (-1), 1) := by decide +kernel
theorem dX11_faultNow_133 : decode cX11_faultNow 133 = .ok (.ireturn, 1) := by decide +kernel
theorem dX11_faultNow_134 : decode cX11_faultNow 134 = .ok (.aload_n 0, 1) := by decide +kernel
theorem dX11_faultNow_135 : decode cX11_faultNow 135 = .ok (.iload_n 1, 1) := by decide +kernel
theorem dX11_faultNow_136 : decode cX11_faultNow 136 = .ok (.iload_n 3, 1) := by decide +kernel
theorem dX11_faultNow_137 : decode cX11_faultNow 137 = .ok (.invokevirtual 83, 3) := by decide +kernel
theorem dX11_faultNow_140 : decode cX11_faultNow 140 = .ok (.bipush 59, 2) := by decide +kernel
theorem dX11_faultNow_142 : decode cX11_faultNow 142 = .ok (.if_icmp .eq 5, 3) := by decide +kernel
theorem dX11_faultNow_145 : decode cX11_faultNow 145 = .ok (.iload_n 3, 1) := by decide +kernel
theorem dX11_faultNow_146 : decode cX11_faultNow 146 = .ok (.ireturn, 1) := by decide +kernel
theorem dX11_faultNow_147 : decode cX11_faultNow 147 = .ok (.iinc 3 1, 3) := by decide +kernel
theorem dX11_faultNow_150 : decode cX11_faultNow 150 = .ok (.goto (-139), 3) := by decide +kernel
theorem dX11_faultNow_153 : decode cX11_faultNow 153 = .ok (.iconst (-1), 1) := by decide +kernel
theorem dX11_faultNow_154 : decode cX11_faultNow 154 = .ok (.ireturn, 1) := by decide +kernel
theorem dX11_fault_0 : decode cX11_fault 0 = .ok (.iload_n 1, 1) := by decide +kernel
theorem dX11_fault_1 : decode cX11_fault 1 = .ok (.invokestatic 79, 3) := by decide +kernel
theorem dX11_fault_4 : decode cX11_fault 4 = .ok (.ifCond .eq 11, 3) := by decide +kernel
theorem dX11_fault_7 : decode cX11_fault 7 = .ok (.aload_n 0, 1) := by decide +kernel
theorem dX11_fault_8 : decode cX11_fault 8 = .ok (.iload_n 1, 1) := by decide +kernel
theorem dX11_fault_9 : decode cX11_fault 9 = .ok (.invokevirtual 86, 3) := by decide +kernel
theorem dX11_fault_12 : decode cX11_fault 12 = .ok (.goto 5, 3) := by decide +kernel
theorem dX11_fault_15 : decode cX11_fault 15 = .ok (.bipush (-2), 2) := by decide +kernel
theorem dX11_fault_17 : decode cX11_fault 17 = .ok (.ireturn, 1) := by decide +kernel
theorem dX11_pictures_0 : decode cX11_pictures 0 = .ok (.aload_n 0, 1) := by decide +kernel
theorem dX11_pictures_1 : decode cX11_pictures 1 = .ok (.iload_n 1, 1) := by decide +kernel
theorem dX11_pictures_2 : decode cX11_pictures 2 = .ok (.invokevirtual 86, 3) := by decide +kernel
theorem dX11_pictures_5 : decode cX11_pictures 5 = .ok (.istore_n 2, 1) := by decide +kernel
theorem dX11_pictures_6 : decode cX11_pictures 6 = .ok (.aload_n 0, 1) := by decide +kernel
theorem dX11_pictures_7 : decode cX11_pictures 7 = .ok (.getfield 16, 3) := by decide +kernel
theorem dX11_pictures_10 : decode cX11_pictures 10 = .ok (.iload_n 1, 1) := by decide +kernel
theorem dX11_pictures_11 : decode cX11_pictures 11 = .ok (.iaload, 1) := by decide +kernel
theorem dX11_pictures_12 : decode cX11_pictures 12 = .ok (.ireturn, 1) := by decide +kernel
theorem dX11_place_0 : decode cX11_place 0 = .ok (.iload_n 1, 1) := by decide +kernel
theorem dX11_place_1 : decode cX11_place 1 = .ok (.invokestatic 79, 3) := by decide +kernel
theorem dX11_place_4 : decode cX11_place 4 = .ok (.ifCond .eq 27, 3) := by decide +kernel
theorem dX11_place_7 : decode cX11_place 7 = .ok (.iload_n 2, 1) := by decide +kernel
theorem dX11_place_8 : decode cX11_place 8 = .ok (.iconst 0, 1) := by decide +kernel
theorem dX11_place_9 : decode cX11_place 9 = .ok (.aload_n 0, 1) := by decide +kernel
theorem dX11_place_10 : decode cX11_place 10 = .ok (.iload_n 1, 1) := by decide +kernel
theorem dX11_place_11 : decode cX11_place 11 = .ok (.invokevirtual 89, 3) := by decide +kernel
theorem dX11_place_14 : decode cX11_place 14 = .ok (.iconst 1, 1) := by decide +kernel
theorem dX11_place_15 : decode cX11_place 15 = .ok (.isub, 1) := by decide +kernel
theorem dX11_place_16 : decode cX11_place 16 = .ok (.invokestatic 75, 3) := by decide +kernel
theorem dX11_place_19 : decode cX11_place 19 = .ok (.ifCond .eq 12, 3) := by decide +kernel
theorem dX11_place_22 : decode cX11_place 22 = .ok (.iload_n 3, 1) := by decide +kernel
theorem dX11_place_23 : decode cX11_place 23 = .ok (.iconst 0, 1) := by decide +kernel
theorem dX11_place_24 : decode cX11_place 24 = .ok (.iconst 3, 1) := by decide +kernel
theorem dX11_place_25 : decode cX11_place 25 = .ok (.invokestatic 75, 3) := by decide +kernel
theorem dX11_place_28 : decode cX11_place 28 = .ok (.ifCond .ne 6, 3) := by decide +kernel
theorem dX11_place_31 : decode cX11_place 31 = .ok (.bipush (-2), 2) := by decide +kernel
theorem dX11_place_33 : decode cX11_place 33 = .ok (.ireturn, 1) := by decide +kernel
theorem dX11_place_34 : decode cX11_place 34 = .ok (.aload_n 0, 1) := by decide +kernel
theorem dX11_place_35 : decode cX11_place 35 = .ok (.getfield 19, 3) := by decide +kernel
theorem dX11_place_38 : decode cX11_place 38 = .ok (.bipush 48, 2) := by decide +kernel
theorem dX11_place_40 : decode cX11_place 40 = .ok (.iload_n 1, 1) := by decide +kernel
theorem dX11_place_41 : decode cX11_place 41 = .ok (.imul, 1) := by decide +kernel
theorem dX11_place_42 : decode cX11_place 42 = .ok (.iconst 4, 1) := by decide +kernel
theorem dX11_place_43 : decode cX11_place 43 = .ok (.iload_n 2, 1) := by decide +kernel
theorem dX11_place_44 : decode cX11_place 44 = .ok (.imul, 1) := by decide +kernel
theorem dX11_place_45 : decode cX11_place 45 = .ok (.iadd, 1) := by decide +kernel
theorem dX11_place_46 : decode cX11_place 46 = .ok (.iload_n 3, 1) := by decide +kernel
theorem dX11_place_47 : decode cX11_place 47 = .ok (.iadd, 1) := by decide +kernel
theorem dX11_place_48 : decode cX11_place 48 = .ok (.iaload, 1) := by decide +kernel
theorem dX11_place_49 : decode cX11_place 49 = .ok (.ireturn, 1) := by decide +kernel
theorem dX11_stepBy_0 : decode cX11_stepBy 0 = .ok (.iconst 0, 1) := by decide +kernel
theorem dX11_stepBy_1 : decode cX11_stepBy 1 = .ok (.istore_n 3, 1) := by decide +kernel
theorem dX11_stepBy_2 : decode cX11_stepBy 2 = .ok (.iconst 0, 1) := by decide +kernel
theorem dX11_stepBy_3 : decode cX11_stepBy 3 = .ok (.istore 4, 2) := by decide +kernel
theorem dX11_stepBy_5 : decode cX11_stepBy 5 = .ok (.iload 4, 2) := by decide +kernel
theorem dX11_stepBy_7 : decode cX11_stepBy 7 = .ok (.iconst 4, 1) := by decide +kernel
theorem dX11_stepBy_8 : decode cX11_stepBy 8 = .ok (.if_icmp .ge 107, 3) := by decide +kernel
theorem dX11_stepBy_11 : decode cX11_stepBy 11 = .ok (.aload_n 0, 1) := by decide +kernel
theorem dX11_stepBy_12 : decode cX11_stepBy 12 = .ok (.getfield 19, 3) := by decide +kernel
theorem dX11_stepBy_15 : decode cX11_stepBy 15 = .ok (.iload_n 1, 1) := by decide +kernel
theorem dX11_stepBy_16 : decode cX11_stepBy 16 = .ok (.iload 4, 2) := by decide +kernel
theorem dX11_stepBy_18 : decode cX11_stepBy 18 = .ok (.iadd, 1) := by decide +kernel
theorem dX11_stepBy_19 : decode cX11_stepBy 19 = .ok (.iaload, 1) := by decide +kernel
theorem dX11_stepBy_20 : decode cX11_stepBy 20 = .ok (.iconst (-1), 1) := by decide +kernel
theorem dX11_stepBy_21 : decode cX11_stepBy 21 = .ok (.if_icmp .eq 7, 3) := by decide +kernel
theorem dX11_stepBy_24 : decode cX11_stepBy 24 = .ok (.iconst 1, 1) := by decide +kernel
theorem dX11_stepBy_25 : decode cX11_stepBy 25 = .ok (.goto 4, 3) := by decide +kernel
theorem dX11_stepBy_28 : decode cX11_stepBy 28 = .ok (.iconst 0, 1) := by decide +kernel
theorem dX11_stepBy_29 : decode cX11_stepBy 29 = .ok (.istore 5, 2) := by decide +kernel
theorem dX11_stepBy_31 : decode cX11_stepBy 31 = .ok (.aload_n 0, 1) := by decide +kernel
theorem dX11_stepBy_32 : decode cX11_stepBy 32 = .ok (.getfield 19, 3) := by decide +kernel
theorem dX11_stepBy_35 : decode cX11_stepBy 35 = .ok (.iload_n 2, 1) := by decide +kernel
theorem dX11_stepBy_36 : decode cX11_stepBy 36 = .ok (.iload 4, 2) := by decide +kernel
theorem dX11_stepBy_38 : decode cX11_stepBy 38 = .ok (.iadd, 1) := by decide +kernel
theorem dX11_stepBy_39 : decode cX11_stepBy 39 = .ok (.iaload, 1) := by decide +kernel
theorem dX11_stepBy_40 : decode cX11_stepBy 40 = .ok (.iconst (-1), 1) := by decide +kernel
theorem dX11_stepBy_41 : decode cX11_stepBy 41 = .ok (.if_icmp .eq 7, 3) := by decide +kernel
theorem dX11_stepBy_44 : decode cX11_stepBy 44 = .ok (.iconst 1, 1) := by decide +kernel
theorem dX11_stepBy_45 : decode cX11_stepBy 45 = .ok (.goto 4, 3) := by decide +kernel
theorem dX11_stepBy_48 : decode cX11_stepBy 48 = .ok (.iconst 0, 1) := by decide +kernel
theorem dX11_stepBy_49 : decode cX11_stepBy 49 = .ok (.istore 6, 2) := by decide +kernel
theorem dX11_stepBy_51 : decode cX11_stepBy 51 = .ok (.iload_n 3, 1) := by decide +kernel
theorem dX11_stepBy_52 : decode cX11_stepBy 52 = .ok (.iload 5, 2) := by decide +kernel
theorem dX11_stepBy_54 : decode cX11_stepBy 54 = .ok (.ifCond .eq 33, 3) := by decide +kernel
theorem dX11_stepBy_57 : decode cX11_stepBy 57 = .ok (.iload 6, 2) := by decide +kernel
theorem dX11_stepBy_59 : decode cX11_stepBy 59 = .ok (.ifCond .eq 28, 3) := by decide +kernel
theorem dX11_stepBy_62 : decode cX11_stepBy 62 = .ok (.aload_n 0, 1) := by decide +kernel
theorem dX11_stepBy_63 : decode cX11_stepBy 63 = .ok (.getfield 19, 3) := by decide +kernel
theorem dX11_stepBy_66 : decode cX11_stepBy 66 = .ok (.iload_n 1, 1) := by decide +kernel
theorem dX11_stepBy_67 : decode cX11_stepBy 67 = .ok (.iload 4, 2) := by decide +kernel
theorem dX11_stepBy_69 : decode cX11_stepBy 69 = .ok (.iadd, 1) := by decide +kernel
theorem dX11_stepBy_70 : decode cX11_stepBy 70 = .ok (.iaload, 1) := by decide +kernel
theorem dX11_stepBy_71 : decode cX11_stepBy 71 = .ok (.aload_n 0, 1) := by decide +kernel
theorem dX11_stepBy_72 : decode cX11_stepBy 72 = .ok (.getfield 19, 3) := by decide +kernel
theorem dX11_stepBy_75 : decode cX11_stepBy 75 = .ok (.iload_n 2, 1) := by decide +kernel
theorem dX11_stepBy_76 : decode cX11_stepBy 76 = .ok (.iload 4, 2) := by decide +kernel
theorem dX11_stepBy_78 : decode cX11_stepBy 78 = .ok (.iadd, 1) := by decide +kernel
theorem dX11_stepBy_79 : decode cX11_stepBy 79 = .ok (.iaload, 1) := by decide +kernel
theorem dX11_stepBy_80 : decode cX11_stepBy 80 = .ok (.isub, 1) := by decide +kernel
theorem dX11_stepBy_81 : decode cX11_stepBy 81 = .ok (.invokestatic 67, 3) := by decide +kernel
theorem dX11_stepBy_84 : decode cX11_stepBy 84 = .ok (.goto 23, 3) := by decide +kernel
theorem dX11_stepBy_87 : decode cX11_stepBy 87 = .ok (.iload 5, 2) := by decide +kernel
theorem dX11_stepBy_89 : decode cX11_stepBy 89 = .ok (.ifCond .ne 8, 3) := by decide +kernel
theorem dX11_stepBy_92 : decode cX11_stepBy 92 = .ok (.iload 6, 2) := by decide +kernel
theorem dX11_stepBy_94 : decode cX11_stepBy 94 = .ok (.ifCond .eq 12, 3) := by decide +kernel
theorem dX11_stepBy_97 : decode cX11_stepBy 97 = .ok (.aload_n 0, 1) := by decide +kernel
theorem dX11_stepBy_98 : decode cX11_stepBy 98 = .ok (.getfield 22, 3) := by decide +kernel
theorem dX11_stepBy_101 : decode cX11_stepBy 101 = .ok (.iconst 0, 1) := by decide +kernel
theorem dX11_stepBy_102 : decode cX11_stepBy 102 = .ok (.iaload, 1) := by decide +kernel
theorem dX11_stepBy_103 : decode cX11_stepBy 103 = .ok (.goto 4, 3) := by decide +kernel
theorem dX11_stepBy_106 : decode cX11_stepBy 106 = .ok (.iconst 0, 1) := by decide +kernel
theorem dX11_stepBy_107 : decode cX11_stepBy 107 = .ok (.iadd, 1) := by decide +kernel
theorem dX11_stepBy_108 : decode cX11_stepBy 108 = .ok (.istore_n 3, 1) := by decide +kernel
theorem dX11_stepBy_109 : decode cX11_stepBy 109 = .ok (.iinc 4 1, 3) := by decide +kernel
theorem dX11_stepBy_112 : decode cX11_stepBy 112 = .ok (.goto (-107), 3) := by decide +kernel
theorem dX11_stepBy_115 : decode cX11_stepBy 115 = .ok (.iload_n 3, 1) := by decide +kernel
theorem dX11_stepBy_116 : decode cX11_stepBy 116 = .ok (.ireturn, 1) := by decide +kernel
theorem dX11_stepOf_0 : decode cX11_stepOf 0 = .ok (.aload_n 0, 1) := by decide +kernel
theorem dX11_stepOf_1 : decode cX11_stepOf 1 = .ok (.bipush 48, 2) := by decide +kernel
theorem dX11_stepOf_3 : decode cX11_stepOf 3 = .ok (.iload_n 1, 1) := by decide +kernel
theorem dX11_stepOf_4 : decode cX11_stepOf 4 = .ok (.imul, 1) := by decide +kernel
theorem dX11_stepOf_5 : decode cX11_stepOf 5 = .ok (.iconst 4, 1) := by decide +kernel
theorem dX11_stepOf_6 : decode cX11_stepOf 6 = .ok (.iload_n 2, 1) := by decide +kernel
theorem dX11_stepOf_7 : decode cX11_stepOf 7 = .ok (.imul, 1) := by decide +kernel
theorem dX11_stepOf_8 : decode cX11_stepOf 8 = .ok (.iadd, 1) := by decide +kernel
theorem dX11_stepOf_9 : decode cX11_stepOf 9 = .ok (.bipush 48, 2) := by decide +kernel
theorem dX11_stepOf_11 : decode cX11_stepOf 11 = .ok (.iload_n 1, 1) := by decide +kernel
theorem dX11_stepOf_12 : decode cX11_stepOf 12 = .ok (.imul, 1) := by decide +kernel
theorem dX11_stepOf_13 : decode cX11_stepOf 13 = .ok (.iconst 4, 1) := by decide +kernel
theorem dX11_stepOf_14 : decode cX11_stepOf 14 = .ok (.iload_n 3, 1) := by decide +kernel
theorem dX11_stepOf_15 : decode cX11_stepOf 15 = .ok (.imul, 1) := by decide +kernel
theorem dX11_stepOf_16 : decode cX11_stepOf 16 = .ok (.iadd, 1) := by decide +kernel
theorem dX11_stepOf_17 : decode cX11_stepOf 17 = .ok (.invokevirtual 92, 3) := by decide +kernel
theorem dX11_stepOf_20 : decode cX11_stepOf 20 = .ok (.ireturn, 1) := by decide +kernel
theorem dX11_step_0 : decode cX11_step 0 = .ok (.iload_n 1, 1) := by decide +kernel
theorem dX11_step_1 : decode cX11_step 1 = .ok (.invokestatic 79, 3) := by decide +kernel
theorem dX11_step_4 : decode cX11_step 4 = .ok (.ifCond .ne 6, 3) := by decide +kernel
theorem dX11_step_7 : decode cX11_step 7 = .ok (.bipush (-2), 2) := by decide +kernel
theorem dX11_step_9 : decode cX11_step 9 = .ok (.ireturn, 1) := by decide +kernel
theorem dX11_step_10 : decode cX11_step 10 = .ok (.aload_n 0, 1) := by decide +kernel
theorem dX11_step_11 : decode cX11_step 11 = .ok (.iload_n 1, 1) := by decide +kernel
theorem dX11_step_12 : decode cX11_step 12 = .ok (.invokevirtual 89, 3) := by decide +kernel
theorem dX11_step_15 : decode cX11_step 15 = .ok (.istore 4, 2) := by decide +kernel
theorem dX11_step_17 : decode cX11_step 17 = .ok (.iload_n 2, 1) := by decide +kernel
theorem dX11_step_18 : decode cX11_step 18 = .ok (.iconst 0, 1) := by decide +kernel
theorem dX11_step_19 : decode cX11_step 19 = .ok (.iload 4, 2) := by decide +kernel
theorem dX11_step_21 : decode cX11_step 21 = .ok (.iconst 1, 1) := by decide +kernel
theorem dX11_step_22 : decode cX11_step 22 = .ok (.isub, 1) := by decide +kernel
theorem dX11_step_23 : decode cX11_step 23 = .ok (.invokestatic 75, 3) := by decide +kernel
theorem dX11_step_26 : decode cX11_step 26 = .ok (.ifCond .eq 25, 3) := by decide +kernel
theorem dX11_step_29 : decode cX11_step 29 = .ok (.iload_n 3, 1) := by decide +kernel
theorem dX11_step_30 : decode cX11_step 30 = .ok (.iconst 0, 1) := by decide +kernel
theorem dX11_step_31 : decode cX11_step 31 = .ok (.iload 4, 2) := by decide +kernel
theorem dX11_step_33 : decode cX11_step 33 = .ok (.iconst 1, 1) := by decide +kernel
theorem dX11_step_34 : decode cX11_step 34 = .ok (.isub, 1) := by decide +kernel
theorem dX11_step_35 : decode cX11_step 35 = .ok (.invokestatic 75, 3) := by decide +kernel
theorem dX11_step_38 : decode cX11_step 38 = .ok (.ifCond .eq 13, 3) := by decide +kernel
theorem dX11_step_41 : decode cX11_step 41 = .ok (.aload_n 0, 1) := by decide +kernel
theorem dX11_step_42 : decode cX11_step 42 = .ok (.iload_n 1, 1) := by decide +kernel
theorem dX11_step_43 : decode cX11_step 43 = .ok (.iload_n 2, 1) := by decide +kernel
theorem dX11_step_44 : decode cX11_step 44 = .ok (.iload_n 3, 1) := by decide +kernel
theorem dX11_step_45 : decode cX11_step 45 = .ok (.invokevirtual 95, 3) := by decide +kernel
theorem dX11_step_48 : decode cX11_step 48 = .ok (.goto 5, 3) := by decide +kernel
theorem dX11_step_51 : decode cX11_step 51 = .ok (.bipush (-2), 2) := by decide +kernel
theorem dX11_step_53 : decode cX11_step 53 = .ok (.ireturn, 1) := by decide +kernel
theorem dX11_wholeNow_0 : decode cX11_wholeNow 0 = .ok (.aload_n 0, 1) := by decide +kernel
theorem dX11_wholeNow_1 : decode cX11_wholeNow 1 = .ok (.iload_n 1, 1) := by decide +kernel
theorem dX11_wholeNow_2 : decode cX11_wholeNow 2 = .ok (.invokevirtual 89, 3) := by decide +kernel
theorem dX11_wholeNow_5 : decode cX11_wholeNow 5 = .ok (.istore_n 2, 1) := by decide +kernel
theorem dX11_wholeNow_6 : decode cX11_wholeNow 6 = .ok (.iconst 0, 1) := by decide +kernel
theorem dX11_wholeNow_7 : decode cX11_wholeNow 7 = .ok (.istore_n 3, 1) := by decide +kernel
theorem dX11_wholeNow_8 : decode cX11_wholeNow 8 = .ok (.iconst 0, 1) := by decide +kernel
theorem dX11_wholeNow_9 : decode cX11_wholeNow 9 = .ok (.istore 4, 2) := by decide +kernel
theorem dX11_wholeNow_11 : decode cX11_wholeNow 11 = .ok (.iload 4, 2) := by decide +kernel
theorem dX11_wholeNow_13 : decode cX11_wholeNow 13 = .ok (.iload_n 2, 1) := by decide +kernel
theorem dX11_wholeNow_14 : decode cX11_wholeNow 14 = .ok (.if_icmp .ge 25, 3) := by decide +kernel
theorem dX11_wholeNow_17 : decode cX11_wholeNow 17 = .ok (.iload_n 3, 1) := by decide +kernel
theorem dX11_wholeNow_18 : decode cX11_wholeNow 18 = .ok (.aload_n 0, 1) := by decide +kernel
theorem dX11_wholeNow_19 : decode cX11_wholeNow 19 = .ok (.iload_n 1, 1) := by decide +kernel
theorem dX11_wholeNow_20 : decode cX11_wholeNow 20 = .ok (.iload 4, 2) := by decide +kernel
theorem dX11_wholeNow_22 : decode cX11_wholeNow 22 = .ok (.iload 4, 2) := by decide +kernel
theorem dX11_wholeNow_24 : decode cX11_wholeNow 24 = .ok (.iconst 1, 1) := by decide +kernel
theorem dX11_wholeNow_25 : decode cX11_wholeNow 25 = .ok (.iadd, 1) := by decide +kernel
theorem dX11_wholeNow_26 : decode cX11_wholeNow 26 = .ok (.iload_n 2, 1) := by decide +kernel
theorem dX11_wholeNow_27 : decode cX11_wholeNow 27 = .ok (.irem, 1) := by decide +kernel
theorem dX11_wholeNow_28 : decode cX11_wholeNow 28 = .ok (.invokevirtual 95, 3) := by decide +kernel
theorem dX11_wholeNow_31 : decode cX11_wholeNow 31 = .ok (.iadd, 1) := by decide +kernel
theorem dX11_wholeNow_32 : decode cX11_wholeNow 32 = .ok (.istore_n 3, 1) := by decide +kernel
theorem dX11_wholeNow_33 : decode cX11_wholeNow 33 = .ok (.iinc 4 1, 3) := by decide +kernel
theorem dX11_wholeNow_36 : decode cX11_wholeNow 36 = .ok (.goto (-25), 3) := by decide +kernel
theorem dX11_wholeNow_39 : decode cX11_wholeNow 39 = .ok (.iload_n 3, 1) := by decide +kernel
theorem dX11_wholeNow_40 : decode cX11_wholeNow 40 = .ok (.ireturn, 1) := by decide +kernel
theorem dX11_whole_0 : decode cX11_whole 0 = .ok (.iload_n 1, 1) := by decide +kernel
theorem dX11_whole_1 : decode cX11_whole 1 = .ok (.invokestatic 79, 3) := by decide +kernel
theorem dX11_whole_4 : decode cX11_whole 4 = .ok (.ifCond .eq 11, 3) := by decide +kernel
theorem dX11_whole_7 : decode cX11_whole 7 = .ok (.aload_n 0, 1) := by decide +kernel
theorem dX11_whole_8 : decode cX11_whole 8 = .ok (.iload_n 1, 1) := by decide +kernel
theorem dX11_whole_9 : decode cX11_whole 9 = .ok (.invokevirtual 99, 3) := by decide +kernel
theorem dX11_whole_12 : decode cX11_whole 12 = .ok (.goto 5, 3) := by decide +kernel
theorem dX11_whole_15 : decode cX11_whole 15 = .ok (.bipush (-2), 2) := by decide +kernel
theorem dX11_whole_17 : decode cX11_whole 17 = .ok (.ireturn, 1) := by decide +kernel
theorem dX11_set_0 : decode cX11_set 0 = .ok (.iload_n 1, 1) := by decide +kernel
theorem dX11_set_1 : decode cX11_set 1 = .ok (.iconst 0, 1) := by decide +kernel
theorem dX11_set_2 : decode cX11_set 2 = .ok (.iconst 1, 1) := by decide +kernel
theorem dX11_set_3 : decode cX11_set 3 = .ok (.invokestatic 75, 3) := by decide +kernel
theorem dX11_set_6 : decode cX11_set 6 = .ok (.ifCond .eq 22, 3) := by decide +kernel
theorem dX11_set_9 : decode cX11_set 9 = .ok (.iload_n 2, 1) := by decide +kernel
theorem dX11_set_10 : decode cX11_set 10 = .ok (.iconst 0, 1) := by decide +kernel
theorem dX11_set_11 : decode cX11_set 11 = .ok (.iload_n 1, 1) := by decide +kernel
theorem dX11_set_12 : decode cX11_set 12 = .ok (.ifCond .ne 8, 3) := by decide +kernel
theorem dX11_set_15 : decode cX11_set 15 = .ok (.bipush 9, 2) := by decide +kernel
theorem dX11_set_17 : decode cX11_set 17 = .ok (.goto 5, 3) := by decide +kernel
theorem dX11_set_20 : decode cX11_set 20 = .ok (.bipush 60, 2) := by decide +kernel
theorem dX11_set_22 : decode cX11_set 22 = .ok (.invokestatic 75, 3) := by decide +kernel
theorem dX11_set_25 : decode cX11_set 25 = .ok (.ifCond .ne 6, 3) := by decide +kernel
theorem dX11_set_28 : decode cX11_set 28 = .ok (.bipush (-2), 2) := by decide +kernel
theorem dX11_set_30 : decode cX11_set 30 = .ok (.ireturn, 1) := by decide +kernel
theorem dX11_set_31 : decode cX11_set 31 = .ok (.aload_n 0, 1) := by decide +kernel
theorem dX11_set_32 : decode cX11_set 32 = .ok (.getfield 22, 3) := by decide +kernel
theorem dX11_set_35 : decode cX11_set 35 = .ok (.iload_n 1, 1) := by decide +kernel
theorem dX11_set_36 : decode cX11_set 36 = .ok (.iaload, 1) := by decide +kernel
theorem dX11_set_37 : decode cX11_set 37 = .ok (.istore_n 3, 1) := by decide +kernel
theorem dX11_set_38 : decode cX11_set 38 = .ok (.aload_n 0, 1) := by decide +kernel
theorem dX11_set_39 : decode cX11_set 39 = .ok (.getfield 22, 3) := by decide +kernel
theorem dX11_set_42 : decode cX11_set 42 = .ok (.iload_n 1, 1) := by decide +kernel
theorem dX11_set_43 : decode cX11_set 43 = .ok (.iload_n 2, 1) := by decide +kernel
theorem dX11_set_44 : decode cX11_set 44 = .ok (.iastore, 1) := by decide +kernel
theorem dX11_set_45 : decode cX11_set 45 = .ok (.iload_n 3, 1) := by decide +kernel
theorem dX11_set_46 : decode cX11_set 46 = .ok (.ireturn, 1) := by decide +kernel
theorem dX11_isDrum_0 : decode cX11_isDrum 0 = .ok (.iload_n 0, 1) := by decide +kernel
theorem dX11_isDrum_1 : decode cX11_isDrum 1 = .ok (.iconst 1, 1) := by decide +kernel
theorem dX11_isDrum_2 : decode cX11_isDrum 2 = .ok (.bipush 24, 2) := by decide +kernel
theorem dX11_isDrum_4 : decode cX11_isDrum 4 = .ok (.invokestatic 75, 3) := by decide +kernel
theorem dX11_isDrum_7 : decode cX11_isDrum 7 = .ok (.ireturn, 1) := by decide +kernel
theorem dX11_seeming_0 : decode cX11_seeming 0 = .ok (.iload_n 1, 1) := by decide +kernel
theorem dX11_seeming_1 : decode cX11_seeming 1 = .ok (.iload_n 0, 1) := by decide +kernel
theorem dX11_seeming_2 : decode cX11_seeming 2 = .ok (.invokestatic 102, 3) := by decide +kernel
theorem dX11_seeming_5 : decode cX11_seeming 5 = .ok (.istore_n 2, 1) := by decide +kernel
theorem dX11_seeming_6 : decode cX11_seeming 6 = .ok (.iload_n 1, 1) := by decide +kernel
theorem dX11_seeming_7 : decode cX11_seeming 7 = .ok (.iload_n 2, 1) := by decide +kernel
theorem dX11_seeming_8 : decode cX11_seeming 8 = .ok (.iload_n 0, 1) := by decide +kernel
theorem dX11_seeming_9 : decode cX11_seeming 9 = .ok (.imul, 1) := by decide +kernel
theorem dX11_seeming_10 : decode cX11_seeming 10 = .ok (.isub, 1) := by decide +kernel
theorem dX11_seeming_11 : decode cX11_seeming 11 = .ok (.istore_n 3, 1) := by decide +kernel
theorem dX11_seeming_12 : decode cX11_seeming 12 = .ok (.iload_n 3, 1) := by decide +kernel
theorem dX11_seeming_13 : decode cX11_seeming 13 = .ok (.ifCond .le 7, 3) := by decide +kernel
theorem dX11_seeming_16 : decode cX11_seeming 16 = .ok (.iconst 2, 1) := by decide +kernel
theorem dX11_seeming_17 : decode cX11_seeming 17 = .ok (.goto 22, 3) := by decide +kernel
theorem dX11_seeming_20 : decode cX11_seeming 20 = .ok (.iload_n 3, 1) := by decide +kernel
theorem dX11_seeming_21 : decode cX11_seeming 21 = .ok (.ifCond .ge 7, 3) := by decide +kernel
theorem dX11_seeming_24 : decode cX11_seeming 24 = .ok (.iconst 3, 1) := by decide +kernel
theorem dX11_seeming_25 : decode cX11_seeming 25 = .ok (.goto 14, 3) := by decide +kernel
theorem dX11_seeming_28 : decode cX11_seeming 28 = .ok (.iload_n 2, 1) := by decide +kernel
theorem dX11_seeming_29 : decode cX11_seeming 29 = .ok (.iload_n 1, 1) := by decide +kernel
theorem dX11_seeming_30 : decode cX11_seeming 30 = .ok (.irem, 1) := by decide +kernel
theorem dX11_seeming_31 : decode cX11_seeming 31 = .ok (.ifCond .ne 7, 3) := by decide +kernel
theorem dX11_seeming_34 : decode cX11_seeming 34 = .ok (.iconst 0, 1) := by decide +kernel
theorem dX11_seeming_35 : decode cX11_seeming 35 = .ok (.goto 4, 3) := by decide +kernel
theorem dX11_seeming_38 : decode cX11_seeming 38 = .ok (.iconst 1, 1) := by decide +kernel
theorem dX11_seeming_39 : decode cX11_seeming 39 = .ok (.ireturn, 1) := by decide +kernel
theorem dX11_drum_0 : decode cX11_drum 0 = .ok (.iload_n 1, 1) := by decide +kernel
theorem dX11_drum_1 : decode cX11_drum 1 = .ok (.invokestatic 105, 3) := by decide +kernel
theorem dX11_drum_4 : decode cX11_drum 4 = .ok (.ifCond .eq 19, 3) := by decide +kernel
theorem dX11_drum_7 : decode cX11_drum 7 = .ok (.iload_n 2, 1) := by decide +kernel
theorem dX11_drum_8 : decode cX11_drum 8 = .ok (.invokestatic 105, 3) := by decide +kernel
theorem dX11_drum_11 : decode cX11_drum 11 = .ok (.ifCond .eq 12, 3) := by decide +kernel
theorem dX11_drum_14 : decode cX11_drum 14 = .ok (.iload_n 3, 1) := by decide +kernel
theorem dX11_drum_15 : decode cX11_drum 15 = .ok (.iconst 0, 1) := by decide +kernel
theorem dX11_drum_16 : decode cX11_drum 16 = .ok (.iconst 1, 1) := by decide +kernel
theorem dX11_drum_17 : decode cX11_drum 17 = .ok (.invokestatic 75, 3) := by decide +kernel
theorem dX11_drum_20 : decode cX11_drum 20 = .ok (.ifCond .ne 6, 3) := by decide +kernel
theorem dX11_drum_23 : decode cX11_drum 23 = .ok (.bipush (-2), 2) := by decide +kernel
theorem dX11_drum_25 : decode cX11_drum 25 = .ok (.ireturn, 1) := by decide +kernel
theorem dX11_drum_26 : decode cX11_drum 26 = .ok (.iload_n 3, 1) := by decide +kernel
theorem dX11_drum_27 : decode cX11_drum 27 = .ok (.ifCond .ne 11, 3) := by decide +kernel
theorem dX11_drum_30 : decode cX11_drum 30 = .ok (.iload_n 2, 1) := by decide +kernel
theorem dX11_drum_31 : decode cX11_drum 31 = .ok (.iload_n 1, 1) := by decide +kernel
theorem dX11_drum_32 : decode cX11_drum 32 = .ok (.invokestatic 102, 3) := by decide +kernel
theorem dX11_drum_35 : decode cX11_drum 35 = .ok (.goto 8, 3) := by decide +kernel
theorem dX11_drum_38 : decode cX11_drum 38 = .ok (.iload_n 1, 1) := by decide +kernel
theorem dX11_drum_39 : decode cX11_drum 39 = .ok (.iload_n 2, 1) := by decide +kernel
theorem dX11_drum_40 : decode cX11_drum 40 = .ok (.invokestatic 108, 3) := by decide +kernel
theorem dX11_drum_43 : decode cX11_drum 43 = .ok (.ireturn, 1) := by decide +kernel
theorem dX11_drift_0 : decode cX11_drift 0 = .ok (.iload_n 1, 1) := by decide +kernel
theorem dX11_drift_1 : decode cX11_drift 1 = .ok (.invokestatic 105, 3) := by decide +kernel
theorem dX11_drift_4 : decode cX11_drift 4 = .ok (.ifCond .eq 19, 3) := by decide +kernel
theorem dX11_drift_7 : decode cX11_drift 7 = .ok (.iload_n 2, 1) := by decide +kernel
theorem dX11_drift_8 : decode cX11_drift 8 = .ok (.invokestatic 105, 3) := by decide +kernel
theorem dX11_drift_11 : decode cX11_drift 11 = .ok (.ifCond .eq 12, 3) := by decide +kernel
theorem dX11_drift_14 : decode cX11_drift 14 = .ok (.iload_n 3, 1) := by decide +kernel
theorem dX11_drift_15 : decode cX11_drift 15 = .ok (.iconst 0, 1) := by decide +kernel
theorem dX11_drift_16 : decode cX11_drift 16 = .ok (.iconst 1, 1) := by decide +kernel
theorem dX11_drift_17 : decode cX11_drift 17 = .ok (.invokestatic 75, 3) := by decide +kernel
theorem dX11_drift_20 : decode cX11_drift 20 = .ok (.ifCond .ne 9, 3) := by decide +kernel
theorem dX11_drift_23 : decode cX11_drift 23 = .ok (.bipush (-2), 2) := by decide +kernel
theorem dX11_drift_25 : decode cX11_drift 25 = .ok (.invokestatic 111, 3) := by decide +kernel
theorem dX11_drift_28 : decode cX11_drift 28 = .ok (.lreturn, 1) := by decide +kernel
theorem dX11_drift_29 : decode cX11_drift 29 = .ok (.iload_n 2, 1) := by decide +kernel
theorem dX11_drift_30 : decode cX11_drift 30 = .ok (.iload_n 2, 1) := by decide +kernel
theorem dX11_drift_31 : decode cX11_drift 31 = .ok (.iload_n 1, 1) := by decide +kernel
theorem dX11_drift_32 : decode cX11_drift 32 = .ok (.invokestatic 102, 3) := by decide +kernel
theorem dX11_drift_35 : decode cX11_drift 35 = .ok (.iload_n 1, 1) := by decide +kernel
theorem dX11_drift_36 : decode cX11_drift 36 = .ok (.imul, 1) := by decide +kernel
theorem dX11_drift_37 : decode cX11_drift 37 = .ok (.isub, 1) := by decide +kernel
theorem dX11_drift_38 : decode cX11_drift 38 = .ok (.iload_n 1, 1) := by decide +kernel
theorem dX11_drift_39 : decode cX11_drift 39 = .ok (.iload_n 3, 1) := by decide +kernel
theorem dX11_drift_40 : decode cX11_drift 40 = .ok (.invokestatic 115, 3) := by decide +kernel
theorem dX11_drift_43 : decode cX11_drift 43 = .ok (.lreturn, 1) := by decide +kernel
theorem dX11_seenNow_0 : decode cX11_seenNow 0 = .ok (.aload_n 0, 1) := by decide +kernel
theorem dX11_seenNow_1 : decode cX11_seenNow 1 = .ok (.iload_n 1, 1) := by decide +kernel
theorem dX11_seenNow_2 : decode cX11_seenNow 2 = .ok (.invokevirtual 89, 3) := by decide +kernel
theorem dX11_seenNow_5 : decode cX11_seenNow 5 = .ok (.istore 4, 2) := by decide +kernel
theorem dX11_seenNow_7 : decode cX11_seenNow 7 = .ok (.iload 4, 2) := by decide +kernel
theorem dX11_seenNow_9 : decode cX11_seenNow 9 = .ok (.ifCond .ne 6, 3) := by decide +kernel
theorem dX11_seenNow_12 : decode cX11_seenNow 12 = .ok (.bipush (-3), 2) := by decide +kernel
theorem dX11_seenNow_14 : decode cX11_seenNow 14 = .ok (.ireturn, 1) := by decide +kernel
theorem dX11_seenNow_15 : decode cX11_seenNow 15 = .ok (.iload 4, 2) := by decide +kernel
theorem dX11_seenNow_17 : decode cX11_seenNow 17 = .ok (.iload_n 2, 1) := by decide +kernel
theorem dX11_seenNow_18 : decode cX11_seenNow 18 = .ok (.invokestatic 102, 3) := by decide +kernel
theorem dX11_seenNow_21 : decode cX11_seenNow 21 = .ok (.istore 5, 2) := by decide +kernel
theorem dX11_seenNow_23 : decode cX11_seenNow 23 = .ok (.iload_n 3, 1) := by decide +kernel
theorem dX11_seenNow_24 : decode cX11_seenNow 24 = .ok (.iconst (-1), 1) := by decide +kernel
theorem dX11_seenNow_25 : decode cX11_seenNow 25 = .ok (.if_icmp .ne 16, 3) := by decide +kernel
theorem dX11_seenNow_28 : decode cX11_seenNow 28 = .ok (.iload 4, 2) := by decide +kernel
theorem dX11_seenNow_30 : decode cX11_seenNow 30 = .ok (.iload 4, 2) := by decide +kernel
theorem dX11_seenNow_32 : decode cX11_seenNow 32 = .ok (.iload 5, 2) := by decide +kernel
theorem dX11_seenNow_34 : decode cX11_seenNow 34 = .ok (.invokestatic 71, 3) := by decide +kernel
theorem dX11_seenNow_37 : decode cX11_seenNow 37 = .ok (.idiv, 1) := by decide +kernel
theorem dX11_seenNow_38 : decode cX11_seenNow 38 = .ok (.goto 10, 3) := by decide +kernel
theorem dX11_seenNow_41 : decode cX11_seenNow 41 = .ok (.iload_n 3, 1) := by decide +kernel
theorem dX11_seenNow_42 : decode cX11_seenNow 42 = .ok (.iload 5, 2) := by decide +kernel
theorem dX11_seenNow_44 : decode cX11_seenNow 44 = .ok (.imul, 1) := by decide +kernel
theorem dX11_seenNow_45 : decode cX11_seenNow 45 = .ok (.iload 4, 2) := by decide +kernel
theorem dX11_seenNow_47 : decode cX11_seenNow 47 = .ok (.irem, 1) := by decide +kernel
theorem dX11_seenNow_48 : decode cX11_seenNow 48 = .ok (.ireturn, 1) := by decide +kernel
theorem dX11_seen_0 : decode cX11_seen 0 = .ok (.iload_n 1, 1) := by decide +kernel
theorem dX11_seen_1 : decode cX11_seen 1 = .ok (.invokestatic 79, 3) := by decide +kernel
theorem dX11_seen_4 : decode cX11_seen 4 = .ok (.ifCond .eq 31, 3) := by decide +kernel
theorem dX11_seen_7 : decode cX11_seen 7 = .ok (.iload_n 2, 1) := by decide +kernel
theorem dX11_seen_8 : decode cX11_seen 8 = .ok (.invokestatic 105, 3) := by decide +kernel
theorem dX11_seen_11 : decode cX11_seen 11 = .ok (.ifCond .eq 24, 3) := by decide +kernel
theorem dX11_seen_14 : decode cX11_seen 14 = .ok (.iload_n 3, 1) := by decide +kernel
theorem dX11_seen_15 : decode cX11_seen 15 = .ok (.iconst (-1), 1) := by decide +kernel
theorem dX11_seen_16 : decode cX11_seen 16 = .ok (.sipush 999, 3) := by decide +kernel
theorem dX11_seen_19 : decode cX11_seen 19 = .ok (.invokestatic 75, 3) := by decide +kernel
theorem dX11_seen_22 : decode cX11_seen 22 = .ok (.ifCond .eq 13, 3) := by decide +kernel
theorem dX11_seen_25 : decode cX11_seen 25 = .ok (.aload_n 0, 1) := by decide +kernel
theorem dX11_seen_26 : decode cX11_seen 26 = .ok (.iload_n 1, 1) := by decide +kernel
theorem dX11_seen_27 : decode cX11_seen 27 = .ok (.iload_n 2, 1) := by decide +kernel
theorem dX11_seen_28 : decode cX11_seen 28 = .ok (.iload_n 3, 1) := by decide +kernel
theorem dX11_seen_29 : decode cX11_seen 29 = .ok (.invokevirtual 119, 3) := by decide +kernel
theorem dX11_seen_32 : decode cX11_seen 32 = .ok (.goto 5, 3) := by decide +kernel
theorem dX11_seen_35 : decode cX11_seen 35 = .ok (.bipush (-2), 2) := by decide +kernel
theorem dX11_seen_37 : decode cX11_seen 37 = .ok (.ireturn, 1) := by decide +kernel
theorem dX11_numbersOf_0 : decode cX11_numbersOf 0 = .ok (.iconst 0, 1) := by decide +kernel
theorem dX11_numbersOf_1 : decode cX11_numbersOf 1 = .ok (.istore_n 3, 1) := by decide +kernel
theorem dX11_numbersOf_2 : decode cX11_numbersOf 2 = .ok (.iconst 1, 1) := by decide +kernel
theorem dX11_numbersOf_3 : decode cX11_numbersOf 3 = .ok (.istore 4, 2) := by decide +kernel
theorem dX11_numbersOf_5 : decode cX11_numbersOf 5 = .ok (.iload 4, 2) := by decide +kernel
theorem dX11_numbersOf_7 : decode cX11_numbersOf 7 = .ok (.bipush 25, 2) := by decide +kernel
theorem dX11_numbersOf_9 : decode cX11_numbersOf 9 = .ok (.if_icmp .ge 64, 3) := by decide +kernel
theorem dX11_numbersOf_12 : decode cX11_numbersOf 12 = .ok (.iconst 1, 1) := by decide +kernel
theorem dX11_numbersOf_13 : decode cX11_numbersOf 13 = .ok (.istore 5, 2) := by decide +kernel
theorem dX11_numbersOf_15 : decode cX11_numbersOf 15 = .ok (.iload 5, 2) := by decide +kernel
theorem dX11_numbersOf_17 : decode cX11_numbersOf 17 = .ok (.bipush 25, 2) := by decide +kernel
theorem dX11_numbersOf_19 : decode cX11_numbersOf 19 = .ok (.if_icmp .ge 48, 3) := by decide +kernel
theorem dX11_numbersOf_22 : decode cX11_numbersOf 22 = .ok (.iload 5, 2) := by decide +kernel
theorem dX11_numbersOf_24 : decode cX11_numbersOf 24 = .ok (.iload 4, 2) := by decide +kernel
theorem dX11_numbersOf_26 : decode cX11_numbersOf 26 = .ok (.invokestatic 102, 3) := by decide +kernel
theorem dX11_numbersOf_29 : decode cX11_numbersOf 29 = .ok (.iload_n 0, 1) := by decide +kernel
theorem dX11_numbersOf_30 : decode cX11_numbersOf 30 = .ok (.if_icmp .ne 31, 3) := by decide +kernel
theorem dX11_numbersOf_33 : decode cX11_numbersOf 33 = .ok (.iload 4, 2) := by decide +kernel
theorem dX11_numbersOf_35 : decode cX11_numbersOf 35 = .ok (.iload 5, 2) := by decide +kernel
theorem dX11_numbersOf_37 : decode cX11_numbersOf 37 = .ok (.invokestatic 108, 3) := by decide +kernel
theorem dX11_numbersOf_40 : decode cX11_numbersOf 40 = .ok (.iload_n 1, 1) := by decide +kernel
theorem dX11_numbersOf_41 : decode cX11_numbersOf 41 = .ok (.if_icmp .ne 20, 3) := by decide +kernel
theorem dX11_numbersOf_44 : decode cX11_numbersOf 44 = .ok (.iload_n 3, 1) := by decide +kernel
theorem dX11_numbersOf_45 : decode cX11_numbersOf 45 = .ok (.iload_n 2, 1) := by decide +kernel
theorem dX11_numbersOf_46 : decode cX11_numbersOf 46 = .ok (.if_icmp .ne 12, 3) := by decide +kernel
theorem dX11_numbersOf_49 : decode cX11_numbersOf 49 = .ok (.bipush 100, 2) := by decide +kernel
theorem dX11_numbersOf_51 : decode cX11_numbersOf 51 = .ok (.iload 4, 2) := by decide +kernel
theorem dX11_numbersOf_53 : decode cX11_numbersOf 53 = .ok (.imul, 1) := by decide +kernel
theorem dX11_numbersOf_54 : decode cX11_numbersOf 54 = .ok (.iload 5, 2) := by decide +kernel
theorem dX11_numbersOf_56 : decode cX11_numbersOf 56 = .ok (.iadd, 1) := by decide +kernel
theorem dX11_numbersOf_57 : decode cX11_numbersOf 57 = .ok (.ireturn, 1) := by decide +kernel
theorem dX11_numbersOf_58 : decode cX11_numbersOf 58 = .ok (.iinc 3 1, 3) := by decide +kernel
theorem dX11_numbersOf_61 : decode cX11_numbersOf 61 = .ok (.iinc 5 1, 3) := by decide +kernel
theorem dX11_numbersOf_64 : decode cX11_numbersOf 64 = .ok (.goto (-49), 3) := by decide +kernel
theorem dX11_numbersOf_67 : decode cX11_numbersOf 67 = .ok (.iinc 4 1, 3) := by decide +kernel
theorem dX11_numbersOf_70 : decode cX11_numbersOf 70 = .ok (.goto (-65), 3) := by decide +kernel
theorem dX11_numbersOf_73 : decode cX11_numbersOf 73 = .ok (.iload_n 2, 1) := by decide +kernel
theorem dX11_numbersOf_74 : decode cX11_numbersOf 74 = .ok (.iconst (-1), 1) := by decide +kernel
theorem dX11_numbersOf_75 : decode cX11_numbersOf 75 = .ok (.if_icmp .ne 7, 3) := by decide +kernel
theorem dX11_numbersOf_78 : decode cX11_numbersOf 78 = .ok (.iload_n 3, 1) := by decide +kernel
theorem dX11_numbersOf_79 : decode cX11_numbersOf 79 = .ok (.goto 4, 3) := by decide +kernel
theorem dX11_numbersOf_82 : decode cX11_numbersOf 82 = .ok (.iconst (-1), 1) := by decide +kernel
theorem dX11_numbersOf_83 : decode cX11_numbersOf 83 = .ok (.ireturn, 1) := by decide +kernel
theorem dX11_numbers_0 : decode cX11_numbers 0 = .ok (.iload_n 1, 1) := by decide +kernel
theorem dX11_numbers_1 : decode cX11_numbers 1 = .ok (.iconst 0, 1) := by decide +kernel
theorem dX11_numbers_2 : decode cX11_numbers 2 = .ok (.bipush 24, 2) := by decide +kernel
theorem dX11_numbers_4 : decode cX11_numbers 4 = .ok (.invokestatic 75, 3) := by decide +kernel
theorem dX11_numbers_7 : decode cX11_numbers 7 = .ok (.ifCond .eq 26, 3) := by decide +kernel
theorem dX11_numbers_10 : decode cX11_numbers 10 = .ok (.iload_n 2, 1) := by decide +kernel
theorem dX11_numbers_11 : decode cX11_numbers 11 = .ok (.iconst 0, 1) := by decide +kernel
theorem dX11_numbers_12 : decode cX11_numbers 12 = .ok (.iconst 3, 1) := by decide +kernel
theorem dX11_numbers_13 : decode cX11_numbers 13 = .ok (.invokestatic 75, 3) := by decide +kernel
theorem dX11_numbers_16 : decode cX11_numbers 16 = .ok (.ifCond .eq 17, 3) := by decide +kernel
theorem dX11_numbers_19 : decode cX11_numbers 19 = .ok (.iload_n 3, 1) := by decide +kernel
theorem dX11_numbers_20 : decode cX11_numbers 20 = .ok (.iconst (-1), 1) := by decide +kernel
theorem dX11_numbers_21 : decode cX11_numbers 21 = .ok (.if_icmp .lt 12, 3) := by decide +kernel
theorem dX11_numbers_24 : decode cX11_numbers 24 = .ok (.iload_n 1, 1) := by decide +kernel
theorem dX11_numbers_25 : decode cX11_numbers 25 = .ok (.iload_n 2, 1) := by decide +kernel
theorem dX11_numbers_26 : decode cX11_numbers 26 = .ok (.iload_n 3, 1) := by decide +kernel
theorem dX11_numbers_27 : decode cX11_numbers 27 = .ok (.invokestatic 122, 3) := by decide +kernel
theorem dX11_numbers_30 : decode cX11_numbers 30 = .ok (.goto 5, 3) := by decide +kernel
theorem dX11_numbers_33 : decode cX11_numbers 33 = .ok (.bipush (-2), 2) := by decide +kernel
theorem dX11_numbers_35 : decode cX11_numbers 35 = .ok (.ireturn, 1) := by decide +kernel
theorem dX11_isWheel_0 : decode cX11_isWheel 0 = .ok (.iload_n 0, 1) := by decide +kernel
theorem dX11_isWheel_1 : decode cX11_isWheel 1 = .ok (.iconst 1, 1) := by decide +kernel
theorem dX11_isWheel_2 : decode cX11_isWheel 2 = .ok (.bipush 36, 2) := by decide +kernel
theorem dX11_isWheel_4 : decode cX11_isWheel 4 = .ok (.invokestatic 75, 3) := by decide +kernel
theorem dX11_isWheel_7 : decode cX11_isWheel 7 = .ok (.ifCond .eq 28, 3) := by decide +kernel
theorem dX11_isWheel_10 : decode cX11_isWheel 10 = .ok (.iload_n 1, 1) := by decide +kernel
theorem dX11_isWheel_11 : decode cX11_isWheel 11 = .ok (.iconst 0, 1) := by decide +kernel
theorem dX11_isWheel_12 : decode cX11_isWheel 12 = .ok (.sipush 999, 3) := by decide +kernel
theorem dX11_isWheel_15 : decode cX11_isWheel 15 = .ok (.invokestatic 75, 3) := by decide +kernel
theorem dX11_isWheel_18 : decode cX11_isWheel 18 = .ok (.ifCond .eq 17, 3) := by decide +kernel
theorem dX11_isWheel_21 : decode cX11_isWheel 21 = .ok (.iload_n 2, 1) := by decide +kernel
theorem dX11_isWheel_22 : decode cX11_isWheel 22 = .ok (.iconst 1, 1) := by decide +kernel
theorem dX11_isWheel_23 : decode cX11_isWheel 23 = .ok (.bipush 99, 2) := by decide +kernel
theorem dX11_isWheel_25 : decode cX11_isWheel 25 = .ok (.invokestatic 75, 3) := by decide +kernel
theorem dX11_isWheel_28 : decode cX11_isWheel 28 = .ok (.ifCond .eq 7, 3) := by decide +kernel
theorem dX11_isWheel_31 : decode cX11_isWheel 31 = .ok (.iconst 1, 1) := by decide +kernel
theorem dX11_isWheel_32 : decode cX11_isWheel 32 = .ok (.goto 4, 3) := by decide +kernel
theorem dX11_isWheel_35 : decode cX11_isWheel 35 = .ok (.iconst 0, 1) := by decide +kernel
theorem dX11_isWheel_36 : decode cX11_isWheel 36 = .ok (.ireturn, 1) := by decide +kernel
theorem dX11_wheel_0 : decode cX11_wheel 0 = .ok (.iload_n 1, 1) := by decide +kernel
theorem dX11_wheel_1 : decode cX11_wheel 1 = .ok (.iload_n 2, 1) := by decide +kernel
theorem dX11_wheel_2 : decode cX11_wheel 2 = .ok (.iload_n 3, 1) := by decide +kernel
theorem dX11_wheel_3 : decode cX11_wheel 3 = .ok (.invokestatic 125, 3) := by decide +kernel
theorem dX11_wheel_6 : decode cX11_wheel 6 = .ok (.ifCond .eq 13, 3) := by decide +kernel
theorem dX11_wheel_9 : decode cX11_wheel 9 = .ok (.iload 4, 2) := by decide +kernel
theorem dX11_wheel_11 : decode cX11_wheel 11 = .ok (.iconst 0, 1) := by decide +kernel
theorem dX11_wheel_12 : decode cX11_wheel 12 = .ok (.iconst 1, 1) := by decide +kernel
theorem dX11_wheel_13 : decode cX11_wheel 13 = .ok (.invokestatic 75, 3) := by decide +kernel
theorem dX11_wheel_16 : decode cX11_wheel 16 = .ok (.ifCond .ne 9, 3) := by decide +kernel
theorem dX11_wheel_19 : decode cX11_wheel 19 = .ok (.bipush (-2), 2) := by decide +kernel
theorem dX11_wheel_21 : decode cX11_wheel 21 = .ok (.invokestatic 111, 3) := by decide +kernel
theorem dX11_wheel_24 : decode cX11_wheel 24 = .ok (.lreturn, 1) := by decide +kernel
theorem dX11_wheel_25 : decode cX11_wheel 25 = .ok (.iload_n 1, 1) := by decide +kernel
theorem dX11_wheel_26 : decode cX11_wheel 26 = .ok (.iload_n 2, 1) := by decide +kernel
theorem dX11_wheel_27 : decode cX11_wheel 27 = .ok (.imul, 1) := by decide +kernel
theorem dX11_wheel_28 : decode cX11_wheel 28 = .ok (.istore 5, 2) := by decide +kernel
theorem dX11_wheel_30 : decode cX11_wheel 30 = .ok (.bipush 60, 2) := by decide +kernel
theorem dX11_wheel_32 : decode cX11_wheel 32 = .ok (.iload_n 3, 1) := by decide +kernel
theorem dX11_wheel_33 : decode cX11_wheel 33 = .ok (.imul, 1) := by decide +kernel
theorem dX11_wheel_34 : decode cX11_wheel 34 = .ok (.istore 6, 2) := by decide +kernel
theorem dX11_wheel_36 : decode cX11_wheel 36 = .ok (.iload 5, 2) := by decide +kernel
theorem dX11_wheel_38 : decode cX11_wheel 38 = .ok (.iload 5, 2) := by decide +kernel
theorem dX11_wheel_40 : decode cX11_wheel 40 = .ok (.iload 6, 2) := by decide +kernel
theorem dX11_wheel_42 : decode cX11_wheel 42 = .ok (.invokestatic 102, 3) := by decide +kernel
theorem dX11_wheel_45 : decode cX11_wheel 45 = .ok (.iload 6, 2) := by decide +kernel
theorem dX11_wheel_47 : decode cX11_wheel 47 = .ok (.imul, 1) := by decide +kernel
theorem dX11_wheel_48 : decode cX11_wheel 48 = .ok (.isub, 1) := by decide +kernel
theorem dX11_wheel_49 : decode cX11_wheel 49 = .ok (.iload 6, 2) := by decide +kernel
theorem dX11_wheel_51 : decode cX11_wheel 51 = .ok (.iload 4, 2) := by decide +kernel
theorem dX11_wheel_53 : decode cX11_wheel 53 = .ok (.invokestatic 115, 3) := by decide +kernel
theorem dX11_wheel_56 : decode cX11_wheel 56 = .ok (.lreturn, 1) := by decide +kernel
theorem dX11_fitsBy_0 : decode cX11_fitsBy 0 = .ok (.iload_n 2, 1) := by decide +kernel
theorem dX11_fitsBy_1 : decode cX11_fitsBy 1 = .ok (.iconst (-1), 1) := by decide +kernel
theorem dX11_fitsBy_2 : decode cX11_fitsBy 2 = .ok (.if_icmp .eq 16, 3) := by decide +kernel
theorem dX11_fitsBy_5 : decode cX11_fitsBy 5 = .ok (.iload_n 0, 1) := by decide +kernel
theorem dX11_fitsBy_6 : decode cX11_fitsBy 6 = .ok (.iload_n 3, 1) := by decide +kernel
theorem dX11_fitsBy_7 : decode cX11_fitsBy 7 = .ok (.iload_n 1, 1) := by decide +kernel
theorem dX11_fitsBy_8 : decode cX11_fitsBy 8 = .ok (.isub, 1) := by decide +kernel
theorem dX11_fitsBy_9 : decode cX11_fitsBy 9 = .ok (.imul, 1) := by decide +kernel
theorem dX11_fitsBy_10 : decode cX11_fitsBy 10 = .ok (.bipush 60, 2) := by decide +kernel
theorem dX11_fitsBy_12 : decode cX11_fitsBy 12 = .ok (.iload_n 2, 1) := by decide +kernel
theorem dX11_fitsBy_13 : decode cX11_fitsBy 13 = .ok (.imul, 1) := by decide +kernel
theorem dX11_fitsBy_14 : decode cX11_fitsBy 14 = .ok (.irem, 1) := by decide +kernel
theorem dX11_fitsBy_15 : decode cX11_fitsBy 15 = .ok (.ifCond .ne 7, 3) := by decide +kernel
theorem dX11_fitsBy_18 : decode cX11_fitsBy 18 = .ok (.iconst 1, 1) := by decide +kernel
theorem dX11_fitsBy_19 : decode cX11_fitsBy 19 = .ok (.goto 4, 3) := by decide +kernel
theorem dX11_fitsBy_22 : decode cX11_fitsBy 22 = .ok (.iconst 0, 1) := by decide +kernel
theorem dX11_fitsBy_23 : decode cX11_fitsBy 23 = .ok (.ireturn, 1) := by decide +kernel
theorem dX11_fits_0 : decode cX11_fits 0 = .ok (.iload_n 1, 1) := by decide +kernel
theorem dX11_fits_1 : decode cX11_fits 1 = .ok (.iload_n 2, 1) := by decide +kernel
theorem dX11_fits_2 : decode cX11_fits 2 = .ok (.iload_n 3, 1) := by decide +kernel
theorem dX11_fits_3 : decode cX11_fits 3 = .ok (.invokestatic 125, 3) := by decide +kernel
theorem dX11_fits_6 : decode cX11_fits 6 = .ok (.ifCond .eq 26, 3) := by decide +kernel
theorem dX11_fits_9 : decode cX11_fits 9 = .ok (.iload 4, 2) := by decide +kernel
theorem dX11_fits_11 : decode cX11_fits 11 = .ok (.iconst (-1), 1) := by decide +kernel
theorem dX11_fits_12 : decode cX11_fits 12 = .ok (.if_icmp .eq 14, 3) := by decide +kernel
theorem dX11_fits_15 : decode cX11_fits 15 = .ok (.iload 4, 2) := by decide +kernel
theorem dX11_fits_17 : decode cX11_fits 17 = .ok (.iconst 1, 1) := by decide +kernel
theorem dX11_fits_18 : decode cX11_fits 18 = .ok (.bipush 99, 2) := by decide +kernel
theorem dX11_fits_20 : decode cX11_fits 20 = .ok (.invokestatic 75, 3) := by decide +kernel
theorem dX11_fits_23 : decode cX11_fits 23 = .ok (.ifCond .eq 9, 3) := by decide +kernel
theorem dX11_fits_26 : decode cX11_fits 26 = .ok (.iload 5, 2) := by decide +kernel
theorem dX11_fits_28 : decode cX11_fits 28 = .ok (.iconst (-1), 1) := by decide +kernel
theorem dX11_fits_29 : decode cX11_fits 29 = .ok (.if_icmp .ge 6, 3) := by decide +kernel
theorem dX11_fits_32 : decode cX11_fits 32 = .ok (.bipush (-2), 2) := by decide +kernel
theorem dX11_fits_34 : decode cX11_fits 34 = .ok (.ireturn, 1) := by decide +kernel
theorem dX11_fits_35 : decode cX11_fits 35 = .ok (.iconst 0, 1) := by decide +kernel
theorem dX11_fits_36 : decode cX11_fits 36 = .ok (.istore 6, 2) := by decide +kernel
theorem dX11_fits_38 : decode cX11_fits 38 = .ok (.iconst 0, 1) := by decide +kernel
theorem dX11_fits_39 : decode cX11_fits 39 = .ok (.istore 7, 2) := by decide +kernel
theorem dX11_fits_41 : decode cX11_fits 41 = .ok (.iload 7, 2) := by decide +kernel
theorem dX11_fits_43 : decode cX11_fits 43 = .ok (.sipush 1000, 3) := by decide +kernel
theorem dX11_fits_46 : decode cX11_fits 46 = .ok (.if_icmp .ge 45, 3) := by decide +kernel
theorem dX11_fits_49 : decode cX11_fits 49 = .ok (.iload_n 1, 1) := by decide +kernel
theorem dX11_fits_50 : decode cX11_fits 50 = .ok (.iload_n 2, 1) := by decide +kernel
theorem dX11_fits_51 : decode cX11_fits 51 = .ok (.iload_n 3, 1) := by decide +kernel
theorem dX11_fits_52 : decode cX11_fits 52 = .ok (.iload 7, 2) := by decide +kernel
theorem dX11_fits_54 : decode cX11_fits 54 = .ok (.invokestatic 128, 3) := by decide +kernel
theorem dX11_fits_57 : decode cX11_fits 57 = .ok (.ifCond .eq 28, 3) := by decide +kernel
theorem dX11_fits_60 : decode cX11_fits 60 = .ok (.iload_n 1, 1) := by decide +kernel
theorem dX11_fits_61 : decode cX11_fits 61 = .ok (.iload_n 2, 1) := by decide +kernel
theorem dX11_fits_62 : decode cX11_fits 62 = .ok (.iload 4, 2) := by decide +kernel
theorem dX11_fits_64 : decode cX11_fits 64 = .ok (.iload 7, 2) := by decide +kernel
theorem dX11_fits_66 : decode cX11_fits 66 = .ok (.invokestatic 128, 3) := by decide +kernel
theorem dX11_fits_69 : decode cX11_fits 69 = .ok (.ifCond .eq 16, 3) := by decide +kernel
theorem dX11_fits_72 : decode cX11_fits 72 = .ok (.iload 6, 2) := by decide +kernel
theorem dX11_fits_74 : decode cX11_fits 74 = .ok (.iload 5, 2) := by decide +kernel
theorem dX11_fits_76 : decode cX11_fits 76 = .ok (.if_icmp .ne 6, 3) := by decide +kernel
theorem dX11_fits_79 : decode cX11_fits 79 = .ok (.iload 7, 2) := by decide +kernel
theorem dX11_fits_81 : decode cX11_fits 81 = .ok (.ireturn, 1) := by decide +kernel
theorem dX11_fits_82 : decode cX11_fits 82 = .ok (.iinc 6 1, 3) := by decide +kernel
theorem dX11_fits_85 : decode cX11_fits 85 = .ok (.iinc 7 1, 3) := by decide +kernel
theorem dX11_fits_88 : decode cX11_fits 88 = .ok (.goto (-47), 3) := by decide +kernel
theorem dX11_fits_91 : decode cX11_fits 91 = .ok (.iload 5, 2) := by decide +kernel
theorem dX11_fits_93 : decode cX11_fits 93 = .ok (.iconst (-1), 1) := by decide +kernel
theorem dX11_fits_94 : decode cX11_fits 94 = .ok (.if_icmp .ne 8, 3) := by decide +kernel
theorem dX11_fits_97 : decode cX11_fits 97 = .ok (.iload 6, 2) := by decide +kernel
theorem dX11_fits_99 : decode cX11_fits 99 = .ok (.goto 4, 3) := by decide +kernel
theorem dX11_fits_102 : decode cX11_fits 102 = .ok (.iconst (-1), 1) := by decide +kernel
theorem dX11_fits_103 : decode cX11_fits 103 = .ok (.ireturn, 1) := by decide +kernel
theorem dX11_upTo_0 : decode cX11_upTo 0 = .ok (.iload_n 1, 1) := by decide +kernel
theorem dX11_upTo_1 : decode cX11_upTo 1 = .ok (.iload_n 2, 1) := by decide +kernel
theorem dX11_upTo_2 : decode cX11_upTo 2 = .ok (.iload_n 3, 1) := by decide +kernel
theorem dX11_upTo_3 : decode cX11_upTo 3 = .ok (.invokestatic 125, 3) := by decide +kernel
theorem dX11_upTo_6 : decode cX11_upTo 6 = .ok (.ifCond .eq 32, 3) := by decide +kernel
theorem dX11_upTo_9 : decode cX11_upTo 9 = .ok (.iload 4, 2) := by decide +kernel
theorem dX11_upTo_11 : decode cX11_upTo 11 = .ok (.iconst (-1), 1) := by decide +kernel
theorem dX11_upTo_12 : decode cX11_upTo 12 = .ok (.if_icmp .eq 14, 3) := by decide +kernel
theorem dX11_upTo_15 : decode cX11_upTo 15 = .ok (.iload 4, 2) := by decide +kernel
theorem dX11_upTo_17 : decode cX11_upTo 17 = .ok (.iconst 1, 1) := by decide +kernel
theorem dX11_upTo_18 : decode cX11_upTo 18 = .ok (.bipush 99, 2) := by decide +kernel
theorem dX11_upTo_20 : decode cX11_upTo 20 = .ok (.invokestatic 75, 3) := by decide +kernel
theorem dX11_upTo_23 : decode cX11_upTo 23 = .ok (.ifCond .eq 15, 3) := by decide +kernel
theorem dX11_upTo_26 : decode cX11_upTo 26 = .ok (.iload 5, 2) := by decide +kernel
theorem dX11_upTo_28 : decode cX11_upTo 28 = .ok (.iconst 0, 1) := by decide +kernel
theorem dX11_upTo_29 : decode cX11_upTo 29 = .ok (.sipush 999, 3) := by decide +kernel
theorem dX11_upTo_32 : decode cX11_upTo 32 = .ok (.invokestatic 75, 3) := by decide +kernel
theorem dX11_upTo_35 : decode cX11_upTo 35 = .ok (.ifCond .ne 6, 3) := by decide +kernel
theorem dX11_upTo_38 : decode cX11_upTo 38 = .ok (.bipush (-2), 2) := by decide +kernel
theorem dX11_upTo_40 : decode cX11_upTo 40 = .ok (.ireturn, 1) := by decide +kernel
theorem dX11_upTo_41 : decode cX11_upTo 41 = .ok (.iconst 0, 1) := by decide +kernel
theorem dX11_upTo_42 : decode cX11_upTo 42 = .ok (.istore 6, 2) := by decide +kernel
theorem dX11_upTo_44 : decode cX11_upTo 44 = .ok (.iconst 0, 1) := by decide +kernel
theorem dX11_upTo_45 : decode cX11_upTo 45 = .ok (.istore 7, 2) := by decide +kernel
theorem dX11_upTo_47 : decode cX11_upTo 47 = .ok (.iload 7, 2) := by decide +kernel
theorem dX11_upTo_49 : decode cX11_upTo 49 = .ok (.iload 5, 2) := by decide +kernel
theorem dX11_upTo_51 : decode cX11_upTo 51 = .ok (.if_icmp .gt 42, 3) := by decide +kernel
theorem dX11_upTo_54 : decode cX11_upTo 54 = .ok (.iload 6, 2) := by decide +kernel
theorem dX11_upTo_56 : decode cX11_upTo 56 = .ok (.iload_n 1, 1) := by decide +kernel
theorem dX11_upTo_57 : decode cX11_upTo 57 = .ok (.iload_n 2, 1) := by decide +kernel
theorem dX11_upTo_58 : decode cX11_upTo 58 = .ok (.iload_n 3, 1) := by decide +kernel
theorem dX11_upTo_59 : decode cX11_upTo 59 = .ok (.iload 7, 2) := by decide +kernel
theorem dX11_upTo_61 : decode cX11_upTo 61 = .ok (.invokestatic 128, 3) := by decide +kernel
theorem dX11_upTo_64 : decode cX11_upTo 64 = .ok (.ifCond .eq 19, 3) := by decide +kernel
theorem dX11_upTo_67 : decode cX11_upTo 67 = .ok (.iload_n 1, 1) := by decide +kernel
theorem dX11_upTo_68 : decode cX11_upTo 68 = .ok (.iload_n 2, 1) := by decide +kernel
theorem dX11_upTo_69 : decode cX11_upTo 69 = .ok (.iload 4, 2) := by decide +kernel
theorem dX11_upTo_71 : decode cX11_upTo 71 = .ok (.iload 7, 2) := by decide +kernel
theorem dX11_upTo_73 : decode cX11_upTo 73 = .ok (.invokestatic 128, 3) := by decide +kernel
theorem dX11_upTo_76 : decode cX11_upTo 76 = .ok (.ifCond .eq 7, 3) := by decide +kernel
theorem dX11_upTo_79 : decode cX11_upTo 79 = .ok (.iconst 1, 1) := by decide +kernel
theorem dX11_upTo_80 : decode cX11_upTo 80 = .ok (.goto 4, 3) := by decide +kernel
theorem dX11_upTo_83 : decode cX11_upTo 83 = .ok (.iconst 0, 1) := by decide +kernel
theorem dX11_upTo_84 : decode cX11_upTo 84 = .ok (.iadd, 1) := by decide +kernel
theorem dX11_upTo_85 : decode cX11_upTo 85 = .ok (.istore 6, 2) := by decide +kernel
theorem dX11_upTo_87 : decode cX11_upTo 87 = .ok (.iinc 7 1, 3) := by decide +kernel
theorem dX11_upTo_90 : decode cX11_upTo 90 = .ok (.goto (-43), 3) := by decide +kernel
theorem dX11_upTo_93 : decode cX11_upTo 93 = .ok (.iload 6, 2) := by decide +kernel
theorem dX11_upTo_95 : decode cX11_upTo 95 = .ok (.ireturn, 1) := by decide +kernel
theorem dX11_dotMore_0 : decode cX11_dotMore 0 = .ok (.iload_n 1, 1) := by decide +kernel
theorem dX11_dotMore_1 : decode cX11_dotMore 1 = .ok (.iconst 0, 1) := by decide +kernel
theorem dX11_dotMore_2 : decode cX11_dotMore 2 = .ok (.iconst 1, 1) := by decide +kernel
theorem dX11_dotMore_3 : decode cX11_dotMore 3 = .ok (.invokestatic 75, 3) := by decide +kernel
theorem dX11_dotMore_6 : decode cX11_dotMore 6 = .ok (.ifCond .eq 22, 3) := by decide +kernel
theorem dX11_dotMore_9 : decode cX11_dotMore 9 = .ok (.iload_n 2, 1) := by decide +kernel
theorem dX11_dotMore_10 : decode cX11_dotMore 10 = .ok (.iconst 0, 1) := by decide +kernel
theorem dX11_dotMore_11 : decode cX11_dotMore 11 = .ok (.bipush 59, 2) := by decide +kernel
theorem dX11_dotMore_13 : decode cX11_dotMore 13 = .ok (.invokestatic 75, 3) := by decide +kernel
theorem dX11_dotMore_16 : decode cX11_dotMore 16 = .ok (.ifCond .eq 12, 3) := by decide +kernel
theorem dX11_dotMore_19 : decode cX11_dotMore 19 = .ok (.iload_n 3, 1) := by decide +kernel
theorem dX11_dotMore_20 : decode cX11_dotMore 20 = .ok (.iconst 0, 1) := by decide +kernel
theorem dX11_dotMore_21 : decode cX11_dotMore 21 = .ok (.iconst 3, 1) := by decide +kernel
theorem dX11_dotMore_22 : decode cX11_dotMore 22 = .ok (.invokestatic 75, 3) := by decide +kernel
theorem dX11_dotMore_25 : decode cX11_dotMore 25 = .ok (.ifCond .ne 6, 3) := by decide +kernel
theorem dX11_dotMore_28 : decode cX11_dotMore 28 = .ok (.bipush (-2), 2) := by decide +kernel
theorem dX11_dotMore_30 : decode cX11_dotMore 30 = .ok (.ireturn, 1) := by decide +kernel
theorem dX11_dotMore_31 : decode cX11_dotMore 31 = .ok (.aload_n 0, 1) := by decide +kernel
theorem dX11_dotMore_32 : decode cX11_dotMore 32 = .ok (.getfield 25, 3) := by decide +kernel
theorem dX11_dotMore_35 : decode cX11_dotMore 35 = .ok (.iload_n 1, 1) := by decide +kernel
theorem dX11_dotMore_36 : decode cX11_dotMore 36 = .ok (.iaload, 1) := by decide +kernel
theorem dX11_dotMore_37 : decode cX11_dotMore 37 = .ok (.bipush 6, 2) := by decide +kernel
theorem dX11_dotMore_39 : decode cX11_dotMore 39 = .ok (.if_icmp .ne 6, 3) := by decide +kernel
theorem dX11_dotMore_42 : decode cX11_dotMore 42 = .ok (.bipush (-4), 2) := by decide +kernel
theorem dX11_dotMore_44 : decode cX11_dotMore 44 = .ok (.ireturn, 1) := by decide +kernel
theorem dX11_dotMore_45 : decode cX11_dotMore 45 = .ok (.aload_n 0, 1) := by decide +kernel
theorem dX11_dotMore_46 : decode cX11_dotMore 46 = .ok (.getfield 28, 3) := by decide +kernel
theorem dX11_dotMore_49 : decode cX11_dotMore 49 = .ok (.bipush 6, 2) := by decide +kernel
theorem dX11_dotMore_51 : decode cX11_dotMore 51 = .ok (.iload_n 1, 1) := by decide +kernel
theorem dX11_dotMore_52 : decode cX11_dotMore 52 = .ok (.imul, 1) := by decide +kernel
theorem dX11_dotMore_53 : decode cX11_dotMore 53 = .ok (.aload_n 0, 1) := by decide +kernel
theorem dX11_dotMore_54 : decode cX11_dotMore 54 = .ok (.getfield 25, 3) := by decide +kernel
theorem dX11_dotMore_57 : decode cX11_dotMore 57 = .ok (.iload_n 1, 1) := by decide +kernel
theorem dX11_dotMore_58 : decode cX11_dotMore 58 = .ok (.iaload, 1) := by decide +kernel
theorem dX11_dotMore_59 : decode cX11_dotMore 59 = .ok (.iadd, 1) := by decide +kernel
theorem dX11_dotMore_60 : decode cX11_dotMore 60 = .ok (.iload_n 2, 1) := by decide +kernel
theorem dX11_dotMore_61 : decode cX11_dotMore 61 = .ok (.iastore, 1) := by decide +kernel
theorem dX11_dotMore_62 : decode cX11_dotMore 62 = .ok (.aload_n 0, 1) := by decide +kernel
theorem dX11_dotMore_63 : decode cX11_dotMore 63 = .ok (.getfield 31, 3) := by decide +kernel
theorem dX11_dotMore_66 : decode cX11_dotMore 66 = .ok (.bipush 6, 2) := by decide +kernel
theorem dX11_dotMore_68 : decode cX11_dotMore 68 = .ok (.iload_n 1, 1) := by decide +kernel
theorem dX11_dotMore_69 : decode cX11_dotMore 69 = .ok (.imul, 1) := by decide +kernel
theorem dX11_dotMore_70 : decode cX11_dotMore 70 = .ok (.aload_n 0, 1) := by decide +kernel
theorem dX11_dotMore_71 : decode cX11_dotMore 71 = .ok (.getfield 25, 3) := by decide +kernel
theorem dX11_dotMore_74 : decode cX11_dotMore 74 = .ok (.iload_n 1, 1) := by decide +kernel
theorem dX11_dotMore_75 : decode cX11_dotMore 75 = .ok (.iaload, 1) := by decide +kernel
theorem dX11_dotMore_76 : decode cX11_dotMore 76 = .ok (.iadd, 1) := by decide +kernel
theorem dX11_dotMore_77 : decode cX11_dotMore 77 = .ok (.iload_n 3, 1) := by decide +kernel
theorem dX11_dotMore_78 : decode cX11_dotMore 78 = .ok (.iastore, 1) := by decide +kernel
theorem dX11_dotMore_79 : decode cX11_dotMore 79 = .ok (.aload_n 0, 1) := by decide +kernel
theorem dX11_dotMore_80 : decode cX11_dotMore 80 = .ok (.getfield 25, 3) := by decide +kernel
theorem dX11_dotMore_83 : decode cX11_dotMore 83 = .ok (.iload_n 1, 1) := by decide +kernel
theorem dX11_dotMore_84 : decode cX11_dotMore 84 = .ok (.dup2, 1) := by decide +kernel
theorem dX11_dotMore_85 : decode cX11_dotMore 85 = .ok (.iaload, 1) := by decide +kernel
theorem dX11_dotMore_86 : decode cX11_dotMore 86 = .ok (.iconst 1, 1) := by decide +kernel
theorem dX11_dotMore_87 : decode cX11_dotMore 87 = .ok (.iadd, 1) := by decide +kernel
theorem dX11_dotMore_88 : decode cX11_dotMore 88 = .ok (.iastore, 1) := by decide +kernel
theorem dX11_dotMore_89 : decode cX11_dotMore 89 = .ok (.aload_n 0, 1) := by decide +kernel
theorem dX11_dotMore_90 : decode cX11_dotMore 90 = .ok (.getfield 25, 3) := by decide +kernel
theorem dX11_dotMore_93 : decode cX11_dotMore 93 = .ok (.iload_n 1, 1) := by decide +kernel
theorem dX11_dotMore_94 : decode cX11_dotMore 94 = .ok (.iaload, 1) := by decide +kernel
theorem dX11_dotMore_95 : decode cX11_dotMore 95 = .ok (.iconst 1, 1) := by decide +kernel
theorem dX11_dotMore_96 : decode cX11_dotMore 96 = .ok (.isub, 1) := by decide +kernel
theorem dX11_dotMore_97 : decode cX11_dotMore 97 = .ok (.ireturn, 1) := by decide +kernel
theorem dX11_dot_0 : decode cX11_dot 0 = .ok (.aload_n 0, 1) := by decide +kernel
theorem dX11_dot_1 : decode cX11_dot 1 = .ok (.iload_n 1, 1) := by decide +kernel
theorem dX11_dot_2 : decode cX11_dot 2 = .ok (.iload_n 2, 1) := by decide +kernel
theorem dX11_dot_3 : decode cX11_dot 3 = .ok (.iload_n 3, 1) := by decide +kernel
theorem dX11_dot_4 : decode cX11_dot 4 = .ok (.invokevirtual 132, 3) := by decide +kernel
theorem dX11_dot_7 : decode cX11_dot 7 = .ok (.ireturn, 1) := by decide +kernel
theorem dX11_read_0 : decode cX11_read 0 = .ok (.iload_n 1, 1) := by decide +kernel
theorem dX11_read_1 : decode cX11_read 1 = .ok (.invokestatic 135, 3) := by decide +kernel
theorem dX11_read_4 : decode cX11_read 4 = .ok (.ifCond .eq 12, 3) := by decide +kernel
theorem dX11_read_7 : decode cX11_read 7 = .ok (.iload_n 2, 1) := by decide +kernel
theorem dX11_read_8 : decode cX11_read 8 = .ok (.iconst 0, 1) := by decide +kernel
theorem dX11_read_9 : decode cX11_read 9 = .ok (.iconst 1, 1) := by decide +kernel
theorem dX11_read_10 : decode cX11_read 10 = .ok (.invokestatic 75, 3) := by decide +kernel
theorem dX11_read_13 : decode cX11_read 13 = .ok (.ifCond .ne 6, 3) := by decide +kernel
theorem dX11_read_16 : decode cX11_read 16 = .ok (.bipush (-2), 2) := by decide +kernel
theorem dX11_read_18 : decode cX11_read 18 = .ok (.ireturn, 1) := by decide +kernel
theorem dX11_read_19 : decode cX11_read 19 = .ok (.aload_n 0, 1) := by decide +kernel
theorem dX11_read_20 : decode cX11_read 20 = .ok (.getfield 49, 3) := by decide +kernel
theorem dX11_read_23 : decode cX11_read 23 = .ok (.iload_n 1, 1) := by decide +kernel
theorem dX11_read_24 : decode cX11_read 24 = .ok (.baload, 1) := by decide +kernel
theorem dX11_read_25 : decode cX11_read 25 = .ok (.ifCond .ne 9, 3) := by decide +kernel
theorem dX11_read_28 : decode cX11_read 28 = .ok (.aload_n 0, 1) := by decide +kernel
theorem dX11_read_29 : decode cX11_read 29 = .ok (.iconst 1, 1) := by decide +kernel
theorem dX11_read_30 : decode cX11_read 30 = .ok (.invokevirtual 138, 3) := by decide +kernel
theorem dX11_read_33 : decode cX11_read 33 = .ok (.ireturn, 1) := by decide +kernel
theorem dX11_read_34 : decode cX11_read 34 = .ok (.iconst 0, 1) := by decide +kernel
theorem dX11_read_35 : decode cX11_read 35 = .ok (.istore_n 3, 1) := by decide +kernel
theorem dX11_read_36 : decode cX11_read 36 = .ok (.iload_n 3, 1) := by decide +kernel
theorem dX11_read_37 : decode cX11_read 37 = .ok (.aload_n 0, 1) := by decide +kernel
theorem dX11_read_38 : decode cX11_read 38 = .ok (.getfield 56, 3) := by decide +kernel
theorem dX11_read_41 : decode cX11_read 41 = .ok (.iload_n 1, 1) := by decide +kernel
theorem dX11_read_42 : decode cX11_read 42 = .ok (.iaload, 1) := by decide +kernel
theorem dX11_read_43 : decode cX11_read 43 = .ok (.if_icmp .ge 29, 3) := by decide +kernel
theorem dX11_read_46 : decode cX11_read 46 = .ok (.aload_n 0, 1) := by decide +kernel
theorem dX11_read_47 : decode cX11_read 47 = .ok (.iload_n 2, 1) := by decide +kernel
theorem dX11_read_48 : decode cX11_read 48 = .ok (.aload_n 0, 1) := by decide +kernel
theorem dX11_read_49 : decode cX11_read 49 = .ok (.getfield 59, 3) := by decide +kernel
theorem dX11_read_52 : decode cX11_read 52 = .ok (.bipush 60, 2) := by decide +kernel
theorem dX11_read_54 : decode cX11_read 54 = .ok (.iload_n 1, 1) := by decide +kernel
theorem dX11_read_55 : decode cX11_read 55 = .ok (.imul, 1) := by decide +kernel
theorem dX11_read_56 : decode cX11_read 56 = .ok (.iload_n 3, 1) := by decide +kernel
theorem dX11_read_57 : decode cX11_read 57 = .ok (.iadd, 1) := by decide +kernel
theorem dX11_read_58 : decode cX11_read 58 = .ok (.iaload, 1) := by decide +kernel
theorem dX11_read_59 : decode cX11_read 59 = .ok (.iconst 0, 1) := by decide +kernel
theorem dX11_read_60 : decode cX11_read 60 = .ok (.invokevirtual 132, 3) := by decide +kernel
theorem dX11_read_63 : decode cX11_read 63 = .ok (.ifCond .lt 9, 3) := by decide +kernel
theorem dX11_read_66 : decode cX11_read 66 = .ok (.iinc 3 1, 3) := by decide +kernel
theorem dX11_read_69 : decode cX11_read 69 = .ok (.goto (-33), 3) := by decide +kernel
theorem dX11_read_72 : decode cX11_read 72 = .ok (.iload_n 3, 1) := by decide +kernel
theorem dX11_read_73 : decode cX11_read 73 = .ok (.ireturn, 1) := by decide +kernel
theorem dX11_blink_0 : decode cX11_blink 0 = .ok (.iload_n 1, 1) := by decide +kernel
theorem dX11_blink_1 : decode cX11_blink 1 = .ok (.iconst 0, 1) := by decide +kernel
theorem dX11_blink_2 : decode cX11_blink 2 = .ok (.iconst 1, 1) := by decide +kernel
theorem dX11_blink_3 : decode cX11_blink 3 = .ok (.invokestatic 75, 3) := by decide +kernel
theorem dX11_blink_6 : decode cX11_blink 6 = .ok (.ifCond .ne 6, 3) := by decide +kernel
theorem dX11_blink_9 : decode cX11_blink 9 = .ok (.bipush (-2), 2) := by decide +kernel
theorem dX11_blink_11 : decode cX11_blink 11 = .ok (.ireturn, 1) := by decide +kernel
theorem dX11_blink_12 : decode cX11_blink 12 = .ok (.aload_n 0, 1) := by decide +kernel
theorem dX11_blink_13 : decode cX11_blink 13 = .ok (.getfield 25, 3) := by decide +kernel
theorem dX11_blink_16 : decode cX11_blink 16 = .ok (.iload_n 1, 1) := by decide +kernel
theorem dX11_blink_17 : decode cX11_blink 17 = .ok (.iaload, 1) := by decide +kernel
theorem dX11_blink_18 : decode cX11_blink 18 = .ok (.istore_n 2, 1) := by decide +kernel
theorem dX11_blink_19 : decode cX11_blink 19 = .ok (.aload_n 0, 1) := by decide +kernel
theorem dX11_blink_20 : decode cX11_blink 20 = .ok (.getfield 25, 3) := by decide +kernel
theorem dX11_blink_23 : decode cX11_blink 23 = .ok (.iload_n 1, 1) := by decide +kernel
theorem dX11_blink_24 : decode cX11_blink 24 = .ok (.iconst 0, 1) := by decide +kernel
theorem dX11_blink_25 : decode cX11_blink 25 = .ok (.iastore, 1) := by decide +kernel
theorem dX11_blink_26 : decode cX11_blink 26 = .ok (.iload_n 2, 1) := by decide +kernel
theorem dX11_blink_27 : decode cX11_blink 27 = .ok (.ireturn, 1) := by decide +kernel
theorem dX11_way_0 : decode cX11_way 0 = .ok (.iload_n 1, 1) := by decide +kernel
theorem dX11_way_1 : decode cX11_way 1 = .ok (.iload_n 0, 1) := by decide +kernel
theorem dX11_way_2 : decode cX11_way 2 = .ok (.isub, 1) := by decide +kernel
theorem dX11_way_3 : decode cX11_way 3 = .ok (.bipush 60, 2) := by decide +kernel
theorem dX11_way_5 : decode cX11_way 5 = .ok (.iadd, 1) := by decide +kernel
theorem dX11_way_6 : decode cX11_way 6 = .ok (.bipush 60, 2) := by decide +kernel
theorem dX11_way_8 : decode cX11_way 8 = .ok (.irem, 1) := by decide +kernel
theorem dX11_way_9 : decode cX11_way 9 = .ok (.istore_n 2, 1) := by decide +kernel
theorem dX11_way_10 : decode cX11_way 10 = .ok (.iload_n 2, 1) := by decide +kernel
theorem dX11_way_11 : decode cX11_way 11 = .ok (.bipush 30, 2) := by decide +kernel
theorem dX11_way_13 : decode cX11_way 13 = .ok (.if_icmp .le 10, 3) := by decide +kernel
theorem dX11_way_16 : decode cX11_way 16 = .ok (.iload_n 2, 1) := by decide +kernel
theorem dX11_way_17 : decode cX11_way 17 = .ok (.bipush 60, 2) := by decide +kernel
theorem dX11_way_19 : decode cX11_way 19 = .ok (.isub, 1) := by decide +kernel
theorem dX11_way_20 : decode cX11_way 20 = .ok (.goto 4, 3) := by decide +kernel
theorem dX11_way_23 : decode cX11_way 23 = .ok (.iload_n 2, 1) := by decide +kernel
theorem dX11_way_24 : decode cX11_way 24 = .ok (.ireturn, 1) := by decide +kernel
theorem dX11_joins_0 : decode cX11_joins 0 = .ok (.aload_n 0, 1) := by decide +kernel
theorem dX11_joins_1 : decode cX11_joins 1 = .ok (.getfield 25, 3) := by decide +kernel
theorem dX11_joins_4 : decode cX11_joins 4 = .ok (.iconst 1, 1) := by decide +kernel
theorem dX11_joins_5 : decode cX11_joins 5 = .ok (.iaload, 1) := by decide +kernel
theorem dX11_joins_6 : decode cX11_joins 6 = .ok (.aload_n 0, 1) := by decide +kernel
theorem dX11_joins_7 : decode cX11_joins 7 = .ok (.getfield 25, 3) := by decide +kernel
theorem dX11_joins_10 : decode cX11_joins 10 = .ok (.iconst 0, 1) := by decide +kernel
theorem dX11_joins_11 : decode cX11_joins 11 = .ok (.iaload, 1) := by decide +kernel
theorem dX11_joins_12 : decode cX11_joins 12 = .ok (.if_icmp .ge 7, 3) := by decide +kernel
theorem dX11_joins_15 : decode cX11_joins 15 = .ok (.iconst 1, 1) := by decide +kernel
theorem dX11_joins_16 : decode cX11_joins 16 = .ok (.goto 4, 3) := by decide +kernel
theorem dX11_joins_19 : decode cX11_joins 19 = .ok (.iconst 0, 1) := by decide +kernel
theorem dX11_joins_20 : decode cX11_joins 20 = .ok (.istore_n 1, 1) := by decide +kernel
theorem dX11_joins_21 : decode cX11_joins 21 = .ok (.aload_n 0, 1) := by decide +kernel
theorem dX11_joins_22 : decode cX11_joins 22 = .ok (.getfield 25, 3) := by decide +kernel
theorem dX11_joins_25 : decode cX11_joins 25 = .ok (.iload_n 1, 1) := by decide +kernel
theorem dX11_joins_26 : decode cX11_joins 26 = .ok (.iaload, 1) := by decide +kernel
theorem dX11_joins_27 : decode cX11_joins 27 = .ok (.istore_n 2, 1) := by decide +kernel
theorem dX11_joins_28 : decode cX11_joins 28 = .ok (.aload_n 0, 1) := by decide +kernel
theorem dX11_joins_29 : decode cX11_joins 29 = .ok (.getfield 25, 3) := by decide +kernel
theorem dX11_joins_32 : decode cX11_joins 32 = .ok (.iconst 1, 1) := by decide +kernel
theorem dX11_joins_33 : decode cX11_joins 33 = .ok (.iload_n 1, 1) := by decide +kernel
theorem dX11_joins_34 : decode cX11_joins 34 = .ok (.isub, 1) := by decide +kernel
theorem dX11_joins_35 : decode cX11_joins 35 = .ok (.iaload, 1) := by decide +kernel
theorem dX11_joins_36 : decode cX11_joins 36 = .ok (.istore_n 3, 1) := by decide +kernel
theorem dX11_joins_37 : decode cX11_joins 37 = .ok (.aload_n 0, 1) := by decide +kernel
theorem dX11_joins_38 : decode cX11_joins 38 = .ok (.ldc 141, 2) := by decide +kernel
theorem dX11_joins_40 : decode cX11_joins 40 = .ok (.putfield 142, 3) := by decide +kernel
theorem dX11_joins_43 : decode cX11_joins 43 = .ok (.aload_n 0, 1) := by decide +kernel
theorem dX11_joins_44 : decode cX11_joins 44 = .ok (.iconst 0, 1) := by decide +kernel
theorem dX11_joins_45 : decode cX11_joins 45 = .ok (.putfield 146, 3) := by decide +kernel
theorem dX11_joins_48 : decode cX11_joins 48 = .ok (.aload_n 0, 1) := by decide +kernel
theorem dX11_joins_49 : decode cX11_joins 49 = .ok (.iconst 0, 1) := by decide +kernel
theorem dX11_joins_50 : decode cX11_joins 50 = .ok (.putfield 149, 3) := by decide +kernel
theorem dX11_joins_53 : decode cX11_joins 53 = .ok (.aload_n 0, 1) := by decide +kernel
theorem dX11_joins_54 : decode cX11_joins 54 = .ok (.iconst 0, 1) := by decide +kernel
theorem dX11_joins_55 : decode cX11_joins 55 = .ok (.putfield 152, 3) := by decide +kernel
theorem dX11_joins_58 : decode cX11_joins 58 = .ok (.iconst 1, 1) := by decide +kernel
theorem dX11_joins_59 : decode cX11_joins 59 = .ok (.istore 4, 2) := by decide +kernel
theorem dX11_joins_61 : decode cX11_joins 61 = .ok (.iconst 0, 1) := by decide +kernel
theorem dX11_joins_62 : decode cX11_joins 62 = .ok (.istore 5, 2) := by decide +kernel
theorem dX11_joins_64 : decode cX11_joins 64 = .ok (.iload 5, 2) := by decide +kernel
theorem dX11_joins_66 : decode cX11_joins 66 = .ok (.iload_n 2, 1) := by decide +kernel
theorem dX11_joins_67 : decode cX11_joins 67 = .ok (.if_icmp .ge 15, 3) := by decide +kernel
theorem dX11_joins_70 : decode cX11_joins 70 = .ok (.iload 4, 2) := by decide +kernel
theorem dX11_joins_72 : decode cX11_joins 72 = .ok (.iload_n 3, 1) := by decide +kernel
theorem dX11_joins_73 : decode cX11_joins 73 = .ok (.imul, 1) := by decide +kernel
theorem dX11_joins_74 : decode cX11_joins 74 = .ok (.istore 4, 2) := by decide +kernel
theorem dX11_joins_76 : decode cX11_joins 76 = .ok (.iinc 5 1, 3) := by decide +kernel
theorem dX11_joins_79 : decode cX11_joins 79 = .ok (.goto (-15), 3) := by decide +kernel
theorem dX11_joins_82 : decode cX11_joins 82 = .ok (.iconst 0, 1) := by decide +kernel
theorem dX11_joins_83 : decode cX11_joins 83 = .ok (.istore 5, 2) := by decide +kernel
theorem dX11_joins_85 : decode cX11_joins 85 = .ok (.iload 5, 2) := by decide +kernel
theorem dX11_joins_87 : decode cX11_joins 87 = .ok (.iload 4, 2) := by decide +kernel
theorem dX11_joins_89 : decode cX11_joins 89 = .ok (.if_icmp .ge 322, 3) := by decide +kernel
theorem dX11_joins_92 : decode cX11_joins 92 = .ok (.iload 5, 2) := by decide +kernel
theorem dX11_joins_94 : decode cX11_joins 94 = .ok (.istore 6, 2) := by decide +kernel
theorem dX11_joins_96 : decode cX11_joins 96 = .ok (.iconst 0, 1) := by decide +kernel
theorem dX11_joins_97 : decode cX11_joins 97 = .ok (.istore 7, 2) := by decide +kernel
theorem dX11_joins_99 : decode cX11_joins 99 = .ok (.iconst 0, 1) := by decide +kernel
theorem dX11_joins_100 : decode cX11_joins 100 = .ok (.istore 8, 2) := by decide +kernel
theorem dX11_joins_102 : decode cX11_joins 102 = .ok (.iconst 0, 1) := by decide +kernel
theorem dX11_joins_103 : decode cX11_joins 103 = .ok (.istore 9, 2) := by decide +kernel
theorem dX11_joins_105 : decode cX11_joins 105 = .ok (.iconst 1, 1) := by decide +kernel
theorem dX11_joins_106 : decode cX11_joins 106 = .ok (.istore 10, 2) := by decide +kernel
theorem dX11_joins_108 : decode cX11_joins 108 = .ok (.iload_n 2, 1) := by decide +kernel
theorem dX11_joins_109 : decode cX11_joins 109 = .ok (.iconst 1, 1) := by decide +kernel
theorem dX11_joins_110 : decode cX11_joins 110 = .ok (.isub, 1) := by decide +kernel
theorem dX11_joins_111 : decode cX11_joins 111 = .ok (.istore 11, 2) := by decide +kernel
theorem dX11_joins_113 : decode cX11_joins 113 = .ok (.iload 11, 2) := by decide +kernel
theorem dX11_joins_115 : decode cX11_joins 115 = .ok (.ifCond .lt 180, 3) := by decide +kernel
theorem dX11_joins_118 : decode cX11_joins 118 = .ok (.aload_n 0, 1) := by decide +kernel
theorem dX11_joins_119 : decode cX11_joins 119 = .ok (.getfield 34, 3) := by decide +kernel
theorem dX11_joins_122 : decode cX11_joins 122 = .ok (.iload 11, 2) := by decide +kernel
theorem dX11_joins_124 : decode cX11_joins 124 = .ok (.iload 6, 2) := by decide +kernel
theorem dX11_joins_126 : decode cX11_joins 126 = .ok (.iload_n 3, 1) := by decide +kernel
theorem dX11_joins_127 : decode cX11_joins 127 = .ok (.irem, 1) := by decide +kernel
theorem dX11_joins_128 : decode cX11_joins 128 = .ok (.iastore, 1) := by decide +kernel
theorem dX11_joins_129 : decode cX11_joins 129 = .ok (.iload 6, 2) := by decide +kernel
theorem dX11_joins_131 : decode cX11_joins 131 = .ok (.iload_n 3, 1) := by decide +kernel
theorem dX11_joins_132 : decode cX11_joins 132 = .ok (.idiv, 1) := by decide +kernel
theorem dX11_joins_133 : decode cX11_joins 133 = .ok (.istore 6, 2) := by decide +kernel
theorem dX11_joins_135 : decode cX11_joins 135 = .ok (.iload 10, 2) := by decide +kernel
theorem dX11_joins_137 : decode cX11_joins 137 = .ok (.ifCond .eq 22, 3) := by decide +kernel
theorem dX11_joins_140 : decode cX11_joins 140 = .ok (.iload 7, 2) := by decide +kernel
theorem dX11_joins_142 : decode cX11_joins 142 = .ok (.aload_n 0, 1) := by decide +kernel
theorem dX11_joins_143 : decode cX11_joins 143 = .ok (.getfield 34, 3) := by decide +kernel
theorem dX11_joins_146 : decode cX11_joins 146 = .ok (.iload 11, 2) := by decide +kernel
theorem dX11_joins_148 : decode cX11_joins 148 = .ok (.iaload, 1) := by decide +kernel
theorem dX11_joins_149 : decode cX11_joins 149 = .ok (.invokestatic 155, 3) := by decide +kernel
theorem dX11_joins_152 : decode cX11_joins 152 = .ok (.ifCond .ne 7, 3) := by decide +kernel
theorem dX11_joins_155 : decode cX11_joins 155 = .ok (.iconst 1, 1) := by decide +kernel
theorem dX11_joins_156 : decode cX11_joins 156 = .ok (.goto 4, 3) := by decide +kernel
theorem dX11_joins_159 : decode cX11_joins 159 = .ok (.iconst 0, 1) := by decide +kernel
theorem dX11_joins_160 : decode cX11_joins 160 = .ok (.istore 10, 2) := by decide +kernel
theorem dX11_joins_162 : decode cX11_joins 162 = .ok (.iload 7, 2) := by decide +kernel
theorem dX11_joins_164 : decode cX11_joins 164 = .ok (.iconst 1, 1) := by decide +kernel
theorem dX11_joins_165 : decode cX11_joins 165 = .ok (.aload_n 0, 1) := by decide +kernel
theorem dX11_joins_166 : decode cX11_joins 166 = .ok (.getfield 34, 3) := by decide +kernel
theorem dX11_joins_169 : decode cX11_joins 169 = .ok (.iload 11, 2) := by decide +kernel
theorem dX11_joins_171 : decode cX11_joins 171 = .ok (.iaload, 1) := by decide +kernel
theorem dX11_joins_172 : decode cX11_joins 172 = .ok (.ishl, 1) := by decide +kernel
theorem dX11_joins_173 : decode cX11_joins 173 = .ok (.ior, 1) := by decide +kernel
theorem dX11_joins_174 : decode cX11_joins 174 = .ok (.istore 7, 2) := by decide +kernel
theorem dX11_joins_176 : decode cX11_joins 176 = .ok (.bipush 6, 2) := by decide +kernel
theorem dX11_joins_178 : decode cX11_joins 178 = .ok (.iload_n 1, 1) := by decide +kernel
theorem dX11_joins_179 : decode cX11_joins 179 = .ok (.imul, 1) := by decide +kernel
theorem dX11_joins_180 : decode cX11_joins 180 = .ok (.iload 11, 2) := by decide +kernel
theorem dX11_joins_182 : decode cX11_joins 182 = .ok (.iadd, 1) := by decide +kernel
theorem dX11_joins_183 : decode cX11_joins 183 = .ok (.istore 12, 2) := by decide +kernel
theorem dX11_joins_185 : decode cX11_joins 185 = .ok (.bipush 6, 2) := by decide +kernel
theorem dX11_joins_187 : decode cX11_joins 187 = .ok (.iconst 1, 1) := by decide +kernel
theorem dX11_joins_188 : decode cX11_joins 188 = .ok (.iload_n 1, 1) := by decide +kernel
theorem dX11_joins_189 : decode cX11_joins 189 = .ok (.isub, 1) := by decide +kernel
theorem dX11_joins_190 : decode cX11_joins 190 = .ok (.imul, 1) := by decide +kernel
theorem dX11_joins_191 : decode cX11_joins 191 = .ok (.aload_n 0, 1) := by decide +kernel
theorem dX11_joins_192 : decode cX11_joins 192 = .ok (.getfield 34, 3) := by decide +kernel
theorem dX11_joins_195 : decode cX11_joins 195 = .ok (.iload 11, 2) := by decide +kernel
theorem dX11_joins_197 : decode cX11_joins 197 = .ok (.iaload, 1) := by decide +kernel
theorem dX11_joins_198 : decode cX11_joins 198 = .ok (.iadd, 1) := by decide +kernel
theorem dX11_joins_199 : decode cX11_joins 199 = .ok (.istore 13, 2) := by decide +kernel
theorem dX11_joins_201 : decode cX11_joins 201 = .ok (.iload_n 1, 1) := by decide +kernel
theorem dX11_joins_202 : decode cX11_joins 202 = .ok (.ifCond .ne 23, 3) := by decide +kernel
theorem dX11_joins_205 : decode cX11_joins 205 = .ok (.aload_n 0, 1) := by decide +kernel
theorem dX11_joins_206 : decode cX11_joins 206 = .ok (.getfield 28, 3) := by decide +kernel
theorem dX11_joins_209 : decode cX11_joins 209 = .ok (.iload 12, 2) := by decide +kernel
theorem dX11_joins_211 : decode cX11_joins 211 = .ok (.iaload, 1) := by decide +kernel
theorem dX11_joins_212 : decode cX11_joins 212 = .ok (.aload_n 0, 1) := by decide +kernel
theorem dX11_joins_213 : decode cX11_joins 213 = .ok (.getfield 28, 3) := by decide +kernel
theorem dX11_joins_216 : decode cX11_joins 216 = .ok (.iload 13, 2) := by decide +kernel
theorem dX11_joins_218 : decode cX11_joins 218 = .ok (.iaload, 1) := by decide +kernel
theorem dX11_joins_219 : decode cX11_joins 219 = .ok (.invokestatic 159, 3) := by decide +kernel
theorem dX11_joins_222 : decode cX11_joins 222 = .ok (.goto 20, 3) := by decide +kernel
theorem dX11_joins_225 : decode cX11_joins 225 = .ok (.aload_n 0, 1) := by decide +kernel
theorem dX11_joins_226 : decode cX11_joins 226 = .ok (.getfield 28, 3) := by decide +kernel
theorem dX11_joins_229 : decode cX11_joins 229 = .ok (.iload 13, 2) := by decide +kernel
theorem dX11_joins_231 : decode cX11_joins 231 = .ok (.iaload, 1) := by decide +kernel
theorem dX11_joins_232 : decode cX11_joins 232 = .ok (.aload_n 0, 1) := by decide +kernel
theorem dX11_joins_233 : decode cX11_joins 233 = .ok (.getfield 28, 3) := by decide +kernel
theorem dX11_joins_236 : decode cX11_joins 236 = .ok (.iload 12, 2) := by decide +kernel
theorem dX11_joins_238 : decode cX11_joins 238 = .ok (.iaload, 1) := by decide +kernel
theorem dX11_joins_239 : decode cX11_joins 239 = .ok (.invokestatic 159, 3) := by decide +kernel
theorem dX11_joins_242 : decode cX11_joins 242 = .ok (.istore 14, 2) := by decide +kernel
theorem dX11_joins_244 : decode cX11_joins 244 = .ok (.iload 9, 2) := by decide +kernel
theorem dX11_joins_246 : decode cX11_joins 246 = .ok (.iload 14, 2) := by decide +kernel
theorem dX11_joins_248 : decode cX11_joins 248 = .ok (.iadd, 1) := by decide +kernel
theorem dX11_joins_249 : decode cX11_joins 249 = .ok (.istore 9, 2) := by decide +kernel
theorem dX11_joins_251 : decode cX11_joins 251 = .ok (.iload 8, 2) := by decide +kernel
theorem dX11_joins_253 : decode cX11_joins 253 = .ok (.iload 14, 2) := by decide +kernel
theorem dX11_joins_255 : decode cX11_joins 255 = .ok (.invokestatic 67, 3) := by decide +kernel
theorem dX11_joins_258 : decode cX11_joins 258 = .ok (.aload_n 0, 1) := by decide +kernel
theorem dX11_joins_259 : decode cX11_joins 259 = .ok (.getfield 31, 3) := by decide +kernel
theorem dX11_joins_262 : decode cX11_joins 262 = .ok (.iload 12, 2) := by decide +kernel
theorem dX11_joins_264 : decode cX11_joins 264 = .ok (.iaload, 1) := by decide +kernel
theorem dX11_joins_265 : decode cX11_joins 265 = .ok (.aload_n 0, 1) := by decide +kernel
theorem dX11_joins_266 : decode cX11_joins 266 = .ok (.getfield 31, 3) := by decide +kernel
theorem dX11_joins_269 : decode cX11_joins 269 = .ok (.iload 13, 2) := by decide +kernel
theorem dX11_joins_271 : decode cX11_joins 271 = .ok (.iaload, 1) := by decide +kernel
theorem dX11_joins_272 : decode cX11_joins 272 = .ok (.if_icmp .ne 7, 3) := by decide +kernel
theorem dX11_joins_275 : decode cX11_joins 275 = .ok (.iconst 0, 1) := by decide +kernel
theorem dX11_joins_276 : decode cX11_joins 276 = .ok (.goto 9, 3) := by decide +kernel
theorem dX11_joins_279 : decode cX11_joins 279 = .ok (.aload_n 0, 1) := by decide +kernel
theorem dX11_joins_280 : decode cX11_joins 280 = .ok (.getfield 22, 3) := by decide +kernel
theorem dX11_joins_283 : decode cX11_joins 283 = .ok (.iconst 1, 1) := by decide +kernel
theorem dX11_joins_284 : decode cX11_joins 284 = .ok (.iaload, 1) := by decide +kernel
theorem dX11_joins_285 : decode cX11_joins 285 = .ok (.iadd, 1) := by decide +kernel
theorem dX11_joins_286 : decode cX11_joins 286 = .ok (.iadd, 1) := by decide +kernel
theorem dX11_joins_287 : decode cX11_joins 287 = .ok (.istore 8, 2) := by decide +kernel
theorem dX11_joins_289 : decode cX11_joins 289 = .ok (.iinc 11 (-1), 3) := by decide +kernel
theorem dX11_joins_292 : decode cX11_joins 292 = .ok (.goto (-179), 3) := by decide +kernel
theorem dX11_joins_295 : decode cX11_joins 295 = .ok (.iload 10, 2) := by decide +kernel
theorem dX11_joins_297 : decode cX11_joins 297 = .ok (.ifCond .eq 63, 3) := by decide +kernel
theorem dX11_joins_300 : decode cX11_joins 300 = .ok (.iload 8, 2) := by decide +kernel
theorem dX11_joins_302 : decode cX11_joins 302 = .ok (.aload_n 0, 1) := by decide +kernel
theorem dX11_joins_303 : decode cX11_joins 303 = .ok (.getfield 142, 3) := by decide +kernel
theorem dX11_joins_306 : decode cX11_joins 306 = .ok (.if_icmp .ge 54, 3) := by decide +kernel
theorem dX11_joins_309 : decode cX11_joins 309 = .ok (.aload_n 0, 1) := by decide +kernel
theorem dX11_joins_310 : decode cX11_joins 310 = .ok (.iload 8, 2) := by decide +kernel
theorem dX11_joins_312 : decode cX11_joins 312 = .ok (.putfield 142, 3) := by decide +kernel
theorem dX11_joins_315 : decode cX11_joins 315 = .ok (.aload_n 0, 1) := by decide +kernel
theorem dX11_joins_316 : decode cX11_joins 316 = .ok (.iconst 0, 1) := by decide +kernel
theorem dX11_joins_317 : decode cX11_joins 317 = .ok (.putfield 146, 3) := by decide +kernel
theorem dX11_joins_320 : decode cX11_joins 320 = .ok (.aload_n 0, 1) := by decide +kernel
theorem dX11_joins_321 : decode cX11_joins 321 = .ok (.iload 9, 2) := by decide +kernel
theorem dX11_joins_323 : decode cX11_joins 323 = .ok (.putfield 149, 3) := by decide +kernel
theorem dX11_joins_326 : decode cX11_joins 326 = .ok (.aload_n 0, 1) := by decide +kernel
theorem dX11_joins_327 : decode cX11_joins 327 = .ok (.iconst 0, 1) := by decide +kernel
theorem dX11_joins_328 : decode cX11_joins 328 = .ok (.putfield 152, 3) := by decide +kernel
theorem dX11_joins_331 : decode cX11_joins 331 = .ok (.iconst 0, 1) := by decide +kernel
theorem dX11_joins_332 : decode cX11_joins 332 = .ok (.istore 11, 2) := by decide +kernel
theorem dX11_joins_334 : decode cX11_joins 334 = .ok (.iload 11, 2) := by decide +kernel
theorem dX11_joins_336 : decode cX11_joins 336 = .ok (.iload_n 2, 1) := by decide +kernel
theorem dX11_joins_337 : decode cX11_joins 337 = .ok (.if_icmp .ge 23, 3) := by decide +kernel
theorem dX11_joins_340 : decode cX11_joins 340 = .ok (.aload_n 0, 1) := by decide +kernel
theorem dX11_joins_341 : decode cX11_joins 341 = .ok (.getfield 37, 3) := by decide +kernel
theorem dX11_joins_344 : decode cX11_joins 344 = .ok (.iload 11, 2) := by decide +kernel
theorem dX11_joins_346 : decode cX11_joins 346 = .ok (.aload_n 0, 1) := by decide +kernel
theorem dX11_joins_347 : decode cX11_joins 347 = .ok (.getfield 34, 3) := by decide +kernel
theorem dX11_joins_350 : decode cX11_joins 350 = .ok (.iload 11, 2) := by decide +kernel
theorem dX11_joins_352 : decode cX11_joins 352 = .ok (.iaload, 1) := by decide +kernel
theorem dX11_joins_353 : decode cX11_joins 353 = .ok (.iastore, 1) := by decide +kernel
theorem dX11_joins_354 : decode cX11_joins 354 = .ok (.iinc 11 1, 3) := by decide +kernel
theorem dX11_joins_357 : decode cX11_joins 357 = .ok (.goto (-23), 3) := by decide +kernel
theorem dX11_joins_360 : decode cX11_joins 360 = .ok (.iload 10, 2) := by decide +kernel
theorem dX11_joins_362 : decode cX11_joins 362 = .ok (.ifCond .eq 43, 3) := by decide +kernel
theorem dX11_joins_365 : decode cX11_joins 365 = .ok (.iload 8, 2) := by decide +kernel
theorem dX11_joins_367 : decode cX11_joins 367 = .ok (.aload_n 0, 1) := by decide +kernel
theorem dX11_joins_368 : decode cX11_joins 368 = .ok (.getfield 142, 3) := by decide +kernel
theorem dX11_joins_371 : decode cX11_joins 371 = .ok (.if_icmp .ne 34, 3) := by decide +kernel
theorem dX11_joins_374 : decode cX11_joins 374 = .ok (.aload_n 0, 1) := by decide +kernel
theorem dX11_joins_375 : decode cX11_joins 375 = .ok (.dup, 1) := by decide +kernel
theorem dX11_joins_376 : decode cX11_joins 376 = .ok (.getfield 146, 3) := by decide +kernel
theorem dX11_joins_379 : decode cX11_joins 379 = .ok (.iconst 1, 1) := by decide +kernel
theorem dX11_joins_380 : decode cX11_joins 380 = .ok (.iadd, 1) := by decide +kernel
theorem dX11_joins_381 : decode cX11_joins 381 = .ok (.putfield 146, 3) := by decide +kernel
theorem dX11_joins_384 : decode cX11_joins 384 = .ok (.aload_n 0, 1) := by decide +kernel
theorem dX11_joins_385 : decode cX11_joins 385 = .ok (.iload 9, 2) := by decide +kernel
theorem dX11_joins_387 : decode cX11_joins 387 = .ok (.aload_n 0, 1) := by decide +kernel
theorem dX11_joins_388 : decode cX11_joins 388 = .ok (.getfield 149, 3) := by decide +kernel
theorem dX11_joins_391 : decode cX11_joins 391 = .ok (.if_icmp .eq 7, 3) := by decide +kernel
theorem dX11_joins_394 : decode cX11_joins 394 = .ok (.iconst 1, 1) := by decide +kernel
theorem dX11_joins_395 : decode cX11_joins 395 = .ok (.goto 7, 3) := by decide +kernel
theorem dX11_joins_398 : decode cX11_joins 398 = .ok (.aload_n 0, 1) := by decide +kernel
theorem dX11_joins_399 : decode cX11_joins 399 = .ok (.getfield 152, 3) := by decide +kernel
theorem dX11_joins_402 : decode cX11_joins 402 = .ok (.putfield 152, 3) := by decide +kernel
theorem dX11_joins_405 : decode cX11_joins 405 = .ok (.iinc 5 1, 3) := by decide +kernel
theorem dX11_joins_408 : decode cX11_joins 408 = .ok (.goto (-323), 3) := by decide +kernel
theorem dX11_joins_411 : decode cX11_joins 411 = .ok (.return_, 1) := by decide +kernel
theorem dX11_joinNow_0 : decode cX11_joinNow 0 = .ok (.aload_n 0, 1) := by decide +kernel
theorem dX11_joinNow_1 : decode cX11_joinNow 1 = .ok (.invokevirtual 162, 3) := by decide +kernel
theorem dX11_joinNow_4 : decode cX11_joinNow 4 = .ok (.iload_n 1, 1) := by decide +kernel
theorem dX11_joinNow_5 : decode cX11_joinNow 5 = .ok (.ifCond .ne 10, 3) := by decide +kernel
theorem dX11_joinNow_8 : decode cX11_joinNow 8 = .ok (.aload_n 0, 1) := by decide +kernel
theorem dX11_joinNow_9 : decode cX11_joinNow 9 = .ok (.getfield 142, 3) := by decide +kernel
theorem dX11_joinNow_12 : decode cX11_joinNow 12 = .ok (.goto 19, 3) := by decide +kernel
theorem dX11_joinNow_15 : decode cX11_joinNow 15 = .ok (.iload_n 1, 1) := by decide +kernel
theorem dX11_joinNow_16 : decode cX11_joinNow 16 = .ok (.iconst 1, 1) := by decide +kernel
theorem dX11_joinNow_17 : decode cX11_joinNow 17 = .ok (.if_icmp .ne 10, 3) := by decide +kernel
theorem dX11_joinNow_20 : decode cX11_joinNow 20 = .ok (.aload_n 0, 1) := by decide +kernel
theorem dX11_joinNow_21 : decode cX11_joinNow 21 = .ok (.getfield 146, 3) := by decide +kernel
theorem dX11_joinNow_24 : decode cX11_joinNow 24 = .ok (.goto 7, 3) := by decide +kernel
theorem dX11_joinNow_27 : decode cX11_joinNow 27 = .ok (.aload_n 0, 1) := by decide +kernel
theorem dX11_joinNow_28 : decode cX11_joinNow 28 = .ok (.getfield 152, 3) := by decide +kernel
theorem dX11_joinNow_31 : decode cX11_joinNow 31 = .ok (.ireturn, 1) := by decide +kernel
theorem dX11_join_0 : decode cX11_join 0 = .ok (.iload_n 1, 1) := by decide +kernel
theorem dX11_join_1 : decode cX11_join 1 = .ok (.iconst 0, 1) := by decide +kernel
theorem dX11_join_2 : decode cX11_join 2 = .ok (.iconst 2, 1) := by decide +kernel
theorem dX11_join_3 : decode cX11_join 3 = .ok (.invokestatic 75, 3) := by decide +kernel
theorem dX11_join_6 : decode cX11_join 6 = .ok (.ifCond .eq 11, 3) := by decide +kernel
theorem dX11_join_9 : decode cX11_join 9 = .ok (.aload_n 0, 1) := by decide +kernel
theorem dX11_join_10 : decode cX11_join 10 = .ok (.iload_n 1, 1) := by decide +kernel
theorem dX11_join_11 : decode cX11_join 11 = .ok (.invokevirtual 165, 3) := by decide +kernel
theorem dX11_join_14 : decode cX11_join 14 = .ok (.goto 5, 3) := by decide +kernel
theorem dX11_join_17 : decode cX11_join 17 = .ok (.bipush (-2), 2) := by decide +kernel
theorem dX11_join_19 : decode cX11_join 19 = .ok (.ireturn, 1) := by decide +kernel
theorem dX11_netNow_0 : decode cX11_netNow 0 = .ok (.aload_n 0, 1) := by decide +kernel
theorem dX11_netNow_1 : decode cX11_netNow 1 = .ok (.invokevirtual 162, 3) := by decide +kernel
theorem dX11_netNow_4 : decode cX11_netNow 4 = .ok (.aload_n 0, 1) := by decide +kernel
theorem dX11_netNow_5 : decode cX11_netNow 5 = .ok (.getfield 149, 3) := by decide +kernel
theorem dX11_netNow_8 : decode cX11_netNow 8 = .ok (.ireturn, 1) := by decide +kernel
theorem dX11_net_0 : decode cX11_net 0 = .ok (.aload_n 0, 1) := by decide +kernel
theorem dX11_net_1 : decode cX11_net 1 = .ok (.invokevirtual 168, 3) := by decide +kernel
theorem dX11_net_4 : decode cX11_net 4 = .ok (.ireturn, 1) := by decide +kernel
theorem dX11_joinedNow_0 : decode cX11_joinedNow 0 = .ok (.aload_n 0, 1) := by decide +kernel
theorem dX11_joinedNow_1 : decode cX11_joinedNow 1 = .ok (.invokevirtual 162, 3) := by decide +kernel
theorem dX11_joinedNow_4 : decode cX11_joinedNow 4 = .ok (.aload_n 0, 1) := by decide +kernel
theorem dX11_joinedNow_5 : decode cX11_joinedNow 5 = .ok (.getfield 25, 3) := by decide +kernel
theorem dX11_joinedNow_8 : decode cX11_joinedNow 8 = .ok (.iconst 1, 1) := by decide +kernel
theorem dX11_joinedNow_9 : decode cX11_joinedNow 9 = .ok (.iaload, 1) := by decide +kernel
theorem dX11_joinedNow_10 : decode cX11_joinedNow 10 = .ok (.aload_n 0, 1) := by decide +kernel
theorem dX11_joinedNow_11 : decode cX11_joinedNow 11 = .ok (.getfield 25, 3) := by decide +kernel
theorem dX11_joinedNow_14 : decode cX11_joinedNow 14 = .ok (.iconst 0, 1) := by decide +kernel
theorem dX11_joinedNow_15 : decode cX11_joinedNow 15 = .ok (.iaload, 1) := by decide +kernel
theorem dX11_joinedNow_16 : decode cX11_joinedNow 16 = .ok (.if_icmp .ge 7, 3) := by decide +kernel
theorem dX11_joinedNow_19 : decode cX11_joinedNow 19 = .ok (.iconst 1, 1) := by decide +kernel
theorem dX11_joinedNow_20 : decode cX11_joinedNow 20 = .ok (.goto 4, 3) := by decide +kernel
theorem dX11_joinedNow_23 : decode cX11_joinedNow 23 = .ok (.iconst 0, 1) := by decide +kernel
theorem dX11_joinedNow_24 : decode cX11_joinedNow 24 = .ok (.istore_n 3, 1) := by decide +kernel
theorem dX11_joinedNow_25 : decode cX11_joinedNow 25 = .ok (.iload_n 1, 1) := by decide +kernel
theorem dX11_joinedNow_26 : decode cX11_joinedNow 26 = .ok (.iload_n 3, 1) := by decide +kernel
theorem dX11_joinedNow_27 : decode cX11_joinedNow 27 = .ok (.if_icmp .ne 10, 3) := by decide +kernel
theorem dX11_joinedNow_30 : decode cX11_joinedNow 30 = .ok (.aload_n 0, 1) := by decide +kernel
theorem dX11_joinedNow_31 : decode cX11_joinedNow 31 = .ok (.getfield 37, 3) := by decide +kernel
theorem dX11_joinedNow_34 : decode cX11_joinedNow 34 = .ok (.iload_n 2, 1) := by decide +kernel
theorem dX11_joinedNow_35 : decode cX11_joinedNow 35 = .ok (.iaload, 1) := by decide +kernel
theorem dX11_joinedNow_36 : decode cX11_joinedNow 36 = .ok (.ireturn, 1) := by decide +kernel
theorem dX11_joinedNow_37 : decode cX11_joinedNow 37 = .ok (.iconst 0, 1) := by decide +kernel
theorem dX11_joinedNow_38 : decode cX11_joinedNow 38 = .ok (.istore 4, 2) := by decide +kernel
theorem dX11_joinedNow_40 : decode cX11_joinedNow 40 = .ok (.iload 4, 2) := by decide +kernel
theorem dX11_joinedNow_42 : decode cX11_joinedNow 42 = .ok (.aload_n 0, 1) := by decide +kernel
theorem dX11_joinedNow_43 : decode cX11_joinedNow 43 = .ok (.getfield 25, 3) := by decide +kernel
theorem dX11_joinedNow_46 : decode cX11_joinedNow 46 = .ok (.iload_n 3, 1) := by decide +kernel
theorem dX11_joinedNow_47 : decode cX11_joinedNow 47 = .ok (.iaload, 1) := by decide +kernel
theorem dX11_joinedNow_48 : decode cX11_joinedNow 48 = .ok (.if_icmp .ge 23, 3) := by decide +kernel
theorem dX11_joinedNow_51 : decode cX11_joinedNow 51 = .ok (.aload_n 0, 1) := by decide +kernel
theorem dX11_joinedNow_52 : decode cX11_joinedNow 52 = .ok (.getfield 37, 3) := by decide +kernel
theorem dX11_joinedNow_55 : decode cX11_joinedNow 55 = .ok (.iload 4, 2) := by decide +kernel
theorem dX11_joinedNow_57 : decode cX11_joinedNow 57 = .ok (.iaload, 1) := by decide +kernel
theorem dX11_joinedNow_58 : decode cX11_joinedNow 58 = .ok (.iload_n 2, 1) := by decide +kernel
theorem dX11_joinedNow_59 : decode cX11_joinedNow 59 = .ok (.if_icmp .ne 6, 3) := by decide +kernel
theorem dX11_joinedNow_62 : decode cX11_joinedNow 62 = .ok (.iload 4, 2) := by decide +kernel
theorem dX11_joinedNow_64 : decode cX11_joinedNow 64 = .ok (.ireturn, 1) := by decide +kernel
theorem dX11_joinedNow_65 : decode cX11_joinedNow 65 = .ok (.iinc 4 1, 3) := by decide +kernel
theorem dX11_joinedNow_68 : decode cX11_joinedNow 68 = .ok (.goto (-28), 3) := by decide +kernel
theorem dX11_joinedNow_71 : decode cX11_joinedNow 71 = .ok (.iconst (-1), 1) := by decide +kernel
theorem dX11_joinedNow_72 : decode cX11_joinedNow 72 = .ok (.ireturn, 1) := by decide +kernel
theorem dX11_joined_0 : decode cX11_joined 0 = .ok (.iload_n 1, 1) := by decide +kernel
theorem dX11_joined_1 : decode cX11_joined 1 = .ok (.iconst 0, 1) := by decide +kernel
theorem dX11_joined_2 : decode cX11_joined 2 = .ok (.iconst 1, 1) := by decide +kernel
theorem dX11_joined_3 : decode cX11_joined 3 = .ok (.invokestatic 75, 3) := by decide +kernel
theorem dX11_joined_6 : decode cX11_joined 6 = .ok (.ifCond .eq 28, 3) := by decide +kernel
theorem dX11_joined_9 : decode cX11_joined 9 = .ok (.iload_n 2, 1) := by decide +kernel
theorem dX11_joined_10 : decode cX11_joined 10 = .ok (.iconst 0, 1) := by decide +kernel
theorem dX11_joined_11 : decode cX11_joined 11 = .ok (.aload_n 0, 1) := by decide +kernel
theorem dX11_joined_12 : decode cX11_joined 12 = .ok (.getfield 25, 3) := by decide +kernel
theorem dX11_joined_15 : decode cX11_joined 15 = .ok (.iload_n 1, 1) := by decide +kernel
theorem dX11_joined_16 : decode cX11_joined 16 = .ok (.iaload, 1) := by decide +kernel
theorem dX11_joined_17 : decode cX11_joined 17 = .ok (.iconst 1, 1) := by decide +kernel
theorem dX11_joined_18 : decode cX11_joined 18 = .ok (.isub, 1) := by decide +kernel
theorem dX11_joined_19 : decode cX11_joined 19 = .ok (.invokestatic 75, 3) := by decide +kernel
theorem dX11_joined_22 : decode cX11_joined 22 = .ok (.ifCond .eq 12, 3) := by decide +kernel
theorem dX11_joined_25 : decode cX11_joined 25 = .ok (.aload_n 0, 1) := by decide +kernel
theorem dX11_joined_26 : decode cX11_joined 26 = .ok (.iload_n 1, 1) := by decide +kernel
theorem dX11_joined_27 : decode cX11_joined 27 = .ok (.iload_n 2, 1) := by decide +kernel
theorem dX11_joined_28 : decode cX11_joined 28 = .ok (.invokevirtual 172, 3) := by decide +kernel
theorem dX11_joined_31 : decode cX11_joined 31 = .ok (.goto 5, 3) := by decide +kernel
theorem dX11_joined_34 : decode cX11_joined 34 = .ok (.bipush (-2), 2) := by decide +kernel
theorem dX11_joined_36 : decode cX11_joined 36 = .ok (.ireturn, 1) := by decide +kernel
theorem dX11_isFar_0 : decode cX11_isFar 0 = .ok (.iload_n 0, 1) := by decide +kernel
theorem dX11_isFar_1 : decode cX11_isFar 1 = .ok (.iconst 1, 1) := by decide +kernel
theorem dX11_isFar_2 : decode cX11_isFar 2 = .ok (.bipush 99, 2) := by decide +kernel
theorem dX11_isFar_4 : decode cX11_isFar 4 = .ok (.invokestatic 75, 3) := by decide +kernel
theorem dX11_isFar_7 : decode cX11_isFar 7 = .ok (.ireturn, 1) := by decide +kernel
theorem dX11_narrow_0 : decode cX11_narrow 0 = .ok (.iload_n 1, 1) := by decide +kernel
theorem dX11_narrow_1 : decode cX11_narrow 1 = .ok (.invokestatic 175, 3) := by decide +kernel
theorem dX11_narrow_4 : decode cX11_narrow 4 = .ok (.ifCond .eq 41, 3) := by decide +kernel
theorem dX11_narrow_7 : decode cX11_narrow 7 = .ok (.iload_n 2, 1) := by decide +kernel
theorem dX11_narrow_8 : decode cX11_narrow 8 = .ok (.invokestatic 175, 3) := by decide +kernel
theorem dX11_narrow_11 : decode cX11_narrow 11 = .ok (.ifCond .eq 34, 3) := by decide +kernel
theorem dX11_narrow_14 : decode cX11_narrow 14 = .ok (.iload_n 3, 1) := by decide +kernel
theorem dX11_narrow_15 : decode cX11_narrow 15 = .ok (.invokestatic 175, 3) := by decide +kernel
theorem dX11_narrow_18 : decode cX11_narrow 18 = .ok (.ifCond .eq 27, 3) := by decide +kernel
theorem dX11_narrow_21 : decode cX11_narrow 21 = .ok (.iload 4, 2) := by decide +kernel
theorem dX11_narrow_23 : decode cX11_narrow 23 = .ok (.iconst 0, 1) := by decide +kernel
theorem dX11_narrow_24 : decode cX11_narrow 24 = .ok (.iconst 1, 1) := by decide +kernel
theorem dX11_narrow_25 : decode cX11_narrow 25 = .ok (.invokestatic 75, 3) := by decide +kernel
theorem dX11_narrow_28 : decode cX11_narrow 28 = .ok (.ifCond .eq 17, 3) := by decide +kernel
theorem dX11_narrow_31 : decode cX11_narrow 31 = .ok (.iload_n 1, 1) := by decide +kernel
theorem dX11_narrow_32 : decode cX11_narrow 32 = .ok (.iload_n 3, 1) := by decide +kernel
theorem dX11_narrow_33 : decode cX11_narrow 33 = .ok (.imul, 1) := by decide +kernel
theorem dX11_narrow_34 : decode cX11_narrow 34 = .ok (.iload_n 2, 1) := by decide +kernel
theorem dX11_narrow_35 : decode cX11_narrow 35 = .ok (.iload_n 3, 1) := by decide +kernel
theorem dX11_narrow_36 : decode cX11_narrow 36 = .ok (.iadd, 1) := by decide +kernel
theorem dX11_narrow_37 : decode cX11_narrow 37 = .ok (.iload 4, 2) := by decide +kernel
theorem dX11_narrow_39 : decode cX11_narrow 39 = .ok (.invokestatic 115, 3) := by decide +kernel
theorem dX11_narrow_42 : decode cX11_narrow 42 = .ok (.goto 8, 3) := by decide +kernel
theorem dX11_narrow_45 : decode cX11_narrow 45 = .ok (.bipush (-2), 2) := by decide +kernel
theorem dX11_narrow_47 : decode cX11_narrow 47 = .ok (.invokestatic 111, 3) := by decide +kernel
theorem dX11_narrow_50 : decode cX11_narrow 50 = .ok (.lreturn, 1) := by decide +kernel
theorem dX11_wide_0 : decode cX11_wide 0 = .ok (.iload_n 1, 1) := by decide +kernel
theorem dX11_wide_1 : decode cX11_wide 1 = .ok (.iconst 0, 1) := by decide +kernel
theorem dX11_wide_2 : decode cX11_wide 2 = .ok (.bipush 99, 2) := by decide +kernel
theorem dX11_wide_4 : decode cX11_wide 4 = .ok (.invokestatic 75, 3) := by decide +kernel
theorem dX11_wide_7 : decode cX11_wide 7 = .ok (.ifCond .eq 17, 3) := by decide +kernel
theorem dX11_wide_10 : decode cX11_wide 10 = .ok (.iload_n 2, 1) := by decide +kernel
theorem dX11_wide_11 : decode cX11_wide 11 = .ok (.invokestatic 175, 3) := by decide +kernel
theorem dX11_wide_14 : decode cX11_wide 14 = .ok (.ifCond .eq 10, 3) := by decide +kernel
theorem dX11_wide_17 : decode cX11_wide 17 = .ok (.iload_n 3, 1) := by decide +kernel
theorem dX11_wide_18 : decode cX11_wide 18 = .ok (.invokestatic 175, 3) := by decide +kernel
theorem dX11_wide_21 : decode cX11_wide 21 = .ok (.ifCond .ne 6, 3) := by decide +kernel
theorem dX11_wide_24 : decode cX11_wide 24 = .ok (.bipush (-2), 2) := by decide +kernel
theorem dX11_wide_26 : decode cX11_wide 26 = .ok (.ireturn, 1) := by decide +kernel
theorem dX11_wide_27 : decode cX11_wide 27 = .ok (.iconst 1, 1) := by decide +kernel
theorem dX11_wide_28 : decode cX11_wide 28 = .ok (.istore 4, 2) := by decide +kernel
theorem dX11_wide_30 : decode cX11_wide 30 = .ok (.iload 4, 2) := by decide +kernel
theorem dX11_wide_32 : decode cX11_wide 32 = .ok (.sipush 1000, 3) := by decide +kernel
theorem dX11_wide_35 : decode cX11_wide 35 = .ok (.if_icmp .ge 24, 3) := by decide +kernel
theorem dX11_wide_38 : decode cX11_wide 38 = .ok (.iload 4, 2) := by decide +kernel
theorem dX11_wide_40 : decode cX11_wide 40 = .ok (.iload_n 3, 1) := by decide +kernel
theorem dX11_wide_41 : decode cX11_wide 41 = .ok (.imul, 1) := by decide +kernel
theorem dX11_wide_42 : decode cX11_wide 42 = .ok (.iload_n 1, 1) := by decide +kernel
theorem dX11_wide_43 : decode cX11_wide 43 = .ok (.iload_n 2, 1) := by decide +kernel
theorem dX11_wide_44 : decode cX11_wide 44 = .ok (.iload_n 3, 1) := by decide +kernel
theorem dX11_wide_45 : decode cX11_wide 45 = .ok (.iadd, 1) := by decide +kernel
theorem dX11_wide_46 : decode cX11_wide 46 = .ok (.imul, 1) := by decide +kernel
theorem dX11_wide_47 : decode cX11_wide 47 = .ok (.if_icmp .lt 6, 3) := by decide +kernel
theorem dX11_wide_50 : decode cX11_wide 50 = .ok (.iload 4, 2) := by decide +kernel
theorem dX11_wide_52 : decode cX11_wide 52 = .ok (.ireturn, 1) := by decide +kernel
theorem dX11_wide_53 : decode cX11_wide 53 = .ok (.iinc 4 1, 3) := by decide +kernel
theorem dX11_wide_56 : decode cX11_wide 56 = .ok (.goto (-26), 3) := by decide +kernel
theorem dX11_wide_59 : decode cX11_wide 59 = .ok (.iconst (-1), 1) := by decide +kernel
theorem dX11_wide_60 : decode cX11_wide 60 = .ok (.ireturn, 1) := by decide +kernel
theorem dX11_slit_0 : decode cX11_slit 0 = .ok (.iload_n 1, 1) := by decide +kernel
theorem dX11_slit_1 : decode cX11_slit 1 = .ok (.iconst 0, 1) := by decide +kernel
theorem dX11_slit_2 : decode cX11_slit 2 = .ok (.bipush 99, 2) := by decide +kernel
theorem dX11_slit_4 : decode cX11_slit 4 = .ok (.invokestatic 75, 3) := by decide +kernel
theorem dX11_slit_7 : decode cX11_slit 7 = .ok (.ifCond .eq 13, 3) := by decide +kernel
theorem dX11_slit_10 : decode cX11_slit 10 = .ok (.iload_n 2, 1) := by decide +kernel
theorem dX11_slit_11 : decode cX11_slit 11 = .ok (.iconst 0, 1) := by decide +kernel
theorem dX11_slit_12 : decode cX11_slit 12 = .ok (.bipush 99, 2) := by decide +kernel
theorem dX11_slit_14 : decode cX11_slit 14 = .ok (.invokestatic 75, 3) := by decide +kernel
theorem dX11_slit_17 : decode cX11_slit 17 = .ok (.ifCond .ne 6, 3) := by decide +kernel
theorem dX11_slit_20 : decode cX11_slit 20 = .ok (.bipush (-2), 2) := by decide +kernel
theorem dX11_slit_22 : decode cX11_slit 22 = .ok (.ireturn, 1) := by decide +kernel
theorem dX11_slit_23 : decode cX11_slit 23 = .ok (.iconst 1, 1) := by decide +kernel
theorem dX11_slit_24 : decode cX11_slit 24 = .ok (.istore_n 3, 1) := by decide +kernel
theorem dX11_slit_25 : decode cX11_slit 25 = .ok (.iconst 2, 1) := by decide +kernel
theorem dX11_slit_26 : decode cX11_slit 26 = .ok (.istore 4, 2) := by decide +kernel
theorem dX11_slit_28 : decode cX11_slit 28 = .ok (.iload 4, 2) := by decide +kernel
theorem dX11_slit_30 : decode cX11_slit 30 = .ok (.bipush 21, 2) := by decide +kernel
theorem dX11_slit_32 : decode cX11_slit 32 = .ok (.if_icmp .ge 40, 3) := by decide +kernel
theorem dX11_slit_35 : decode cX11_slit 35 = .ok (.iload_n 1, 1) := by decide +kernel
theorem dX11_slit_36 : decode cX11_slit 36 = .ok (.iload 4, 2) := by decide +kernel
theorem dX11_slit_38 : decode cX11_slit 38 = .ok (.imul, 1) := by decide +kernel
theorem dX11_slit_39 : decode cX11_slit 39 = .ok (.iload_n 2, 1) := by decide +kernel
theorem dX11_slit_40 : decode cX11_slit 40 = .ok (.iload 4, 2) := by decide +kernel
theorem dX11_slit_42 : decode cX11_slit 42 = .ok (.imul, 1) := by decide +kernel
theorem dX11_slit_43 : decode cX11_slit 43 = .ok (.iload 4, 2) := by decide +kernel
theorem dX11_slit_45 : decode cX11_slit 45 = .ok (.imul, 1) := by decide +kernel
theorem dX11_slit_46 : decode cX11_slit 46 = .ok (.isub, 1) := by decide +kernel
theorem dX11_slit_47 : decode cX11_slit 47 = .ok (.iload_n 1, 1) := by decide +kernel
theorem dX11_slit_48 : decode cX11_slit 48 = .ok (.iload_n 3, 1) := by decide +kernel
theorem dX11_slit_49 : decode cX11_slit 49 = .ok (.imul, 1) := by decide +kernel
theorem dX11_slit_50 : decode cX11_slit 50 = .ok (.iload_n 2, 1) := by decide +kernel
theorem dX11_slit_51 : decode cX11_slit 51 = .ok (.iload_n 3, 1) := by decide +kernel
theorem dX11_slit_52 : decode cX11_slit 52 = .ok (.imul, 1) := by decide +kernel
theorem dX11_slit_53 : decode cX11_slit 53 = .ok (.iload_n 3, 1) := by decide +kernel
theorem dX11_slit_54 : decode cX11_slit 54 = .ok (.imul, 1) := by decide +kernel
theorem dX11_slit_55 : decode cX11_slit 55 = .ok (.isub, 1) := by decide +kernel
theorem dX11_slit_56 : decode cX11_slit 56 = .ok (.if_icmp .le 8, 3) := by decide +kernel
theorem dX11_slit_59 : decode cX11_slit 59 = .ok (.iload 4, 2) := by decide +kernel
theorem dX11_slit_61 : decode cX11_slit 61 = .ok (.goto 4, 3) := by decide +kernel
theorem dX11_slit_64 : decode cX11_slit 64 = .ok (.iload_n 3, 1) := by decide +kernel
theorem dX11_slit_65 : decode cX11_slit 65 = .ok (.istore_n 3, 1) := by decide +kernel
theorem dX11_slit_66 : decode cX11_slit 66 = .ok (.iinc 4 1, 3) := by decide +kernel
theorem dX11_slit_69 : decode cX11_slit 69 = .ok (.goto (-41), 3) := by decide +kernel
theorem dX11_slit_72 : decode cX11_slit 72 = .ok (.iload_n 3, 1) := by decide +kernel
theorem dX11_slit_73 : decode cX11_slit 73 = .ok (.ireturn, 1) := by decide +kernel
theorem dX11_turns_0 : decode cX11_turns 0 = .ok (.iload_n 1, 1) := by decide +kernel
theorem dX11_turns_1 : decode cX11_turns 1 = .ok (.iconst 2, 1) := by decide +kernel
theorem dX11_turns_2 : decode cX11_turns 2 = .ok (.isub, 1) := by decide +kernel
theorem dX11_turns_3 : decode cX11_turns 3 = .ok (.istore_n 2, 1) := by decide +kernel
theorem dX11_turns_4 : decode cX11_turns 4 = .ok (.iload_n 2, 1) := by decide +kernel
theorem dX11_turns_5 : decode cX11_turns 5 = .ok (.ifCond .le 26, 3) := by decide +kernel
theorem dX11_turns_8 : decode cX11_turns 8 = .ok (.aload_n 0, 1) := by decide +kernel
theorem dX11_turns_9 : decode cX11_turns 9 = .ok (.getfield 34, 3) := by decide +kernel
theorem dX11_turns_12 : decode cX11_turns 12 = .ok (.iload_n 2, 1) := by decide +kernel
theorem dX11_turns_13 : decode cX11_turns 13 = .ok (.iaload, 1) := by decide +kernel
theorem dX11_turns_14 : decode cX11_turns 14 = .ok (.aload_n 0, 1) := by decide +kernel
theorem dX11_turns_15 : decode cX11_turns 15 = .ok (.getfield 34, 3) := by decide +kernel
theorem dX11_turns_18 : decode cX11_turns 18 = .ok (.iload_n 2, 1) := by decide +kernel
theorem dX11_turns_19 : decode cX11_turns 19 = .ok (.iconst 1, 1) := by decide +kernel
theorem dX11_turns_20 : decode cX11_turns 20 = .ok (.iadd, 1) := by decide +kernel
theorem dX11_turns_21 : decode cX11_turns 21 = .ok (.iaload, 1) := by decide +kernel
theorem dX11_turns_22 : decode cX11_turns 22 = .ok (.if_icmp .le 9, 3) := by decide +kernel
theorem dX11_turns_25 : decode cX11_turns 25 = .ok (.iinc 2 (-1), 3) := by decide +kernel
theorem dX11_turns_28 : decode cX11_turns 28 = .ok (.goto (-24), 3) := by decide +kernel
theorem dX11_turns_31 : decode cX11_turns 31 = .ok (.iload_n 2, 1) := by decide +kernel
theorem dX11_turns_32 : decode cX11_turns 32 = .ok (.ifCond .gt 5, 3) := by decide +kernel
theorem dX11_turns_35 : decode cX11_turns 35 = .ok (.iconst 0, 1) := by decide +kernel
theorem dX11_turns_36 : decode cX11_turns 36 = .ok (.ireturn, 1) := by decide +kernel
theorem dX11_turns_37 : decode cX11_turns 37 = .ok (.iload_n 1, 1) := by decide +kernel
theorem dX11_turns_38 : decode cX11_turns 38 = .ok (.iconst 1, 1) := by decide +kernel
theorem dX11_turns_39 : decode cX11_turns 39 = .ok (.isub, 1) := by decide +kernel
theorem dX11_turns_40 : decode cX11_turns 40 = .ok (.istore_n 3, 1) := by decide +kernel
theorem dX11_turns_41 : decode cX11_turns 41 = .ok (.aload_n 0, 1) := by decide +kernel
theorem dX11_turns_42 : decode cX11_turns 42 = .ok (.getfield 34, 3) := by decide +kernel
theorem dX11_turns_45 : decode cX11_turns 45 = .ok (.iload_n 3, 1) := by decide +kernel
theorem dX11_turns_46 : decode cX11_turns 46 = .ok (.iaload, 1) := by decide +kernel
theorem dX11_turns_47 : decode cX11_turns 47 = .ok (.aload_n 0, 1) := by decide +kernel
theorem dX11_turns_48 : decode cX11_turns 48 = .ok (.getfield 34, 3) := by decide +kernel
theorem dX11_turns_51 : decode cX11_turns 51 = .ok (.iload_n 2, 1) := by decide +kernel
theorem dX11_turns_52 : decode cX11_turns 52 = .ok (.iaload, 1) := by decide +kernel
theorem dX11_turns_53 : decode cX11_turns 53 = .ok (.if_icmp .ge 9, 3) := by decide +kernel
theorem dX11_turns_56 : decode cX11_turns 56 = .ok (.iinc 3 (-1), 3) := by decide +kernel
theorem dX11_turns_59 : decode cX11_turns 59 = .ok (.goto (-18), 3) := by decide +kernel
theorem dX11_turns_62 : decode cX11_turns 62 = .ok (.aload_n 0, 1) := by decide +kernel
theorem dX11_turns_63 : decode cX11_turns 63 = .ok (.getfield 34, 3) := by decide +kernel
theorem dX11_turns_66 : decode cX11_turns 66 = .ok (.iload_n 2, 1) := by decide +kernel
theorem dX11_turns_67 : decode cX11_turns 67 = .ok (.iaload, 1) := by decide +kernel
theorem dX11_turns_68 : decode cX11_turns 68 = .ok (.istore 4, 2) := by decide +kernel
theorem dX11_turns_70 : decode cX11_turns 70 = .ok (.aload_n 0, 1) := by decide +kernel
theorem dX11_turns_71 : decode cX11_turns 71 = .ok (.getfield 34, 3) := by decide +kernel
theorem dX11_turns_74 : decode cX11_turns 74 = .ok (.iload_n 2, 1) := by decide +kernel
theorem dX11_turns_75 : decode cX11_turns 75 = .ok (.aload_n 0, 1) := by decide +kernel
theorem dX11_turns_76 : decode cX11_turns 76 = .ok (.getfield 34, 3) := by decide +kernel
theorem dX11_turns_79 : decode cX11_turns 79 = .ok (.iload_n 3, 1) := by decide +kernel
theorem dX11_turns_80 : decode cX11_turns 80 = .ok (.iaload, 1) := by decide +kernel
theorem dX11_turns_81 : decode cX11_turns 81 = .ok (.iastore, 1) := by decide +kernel
theorem dX11_turns_82 : decode cX11_turns 82 = .ok (.aload_n 0, 1) := by decide +kernel
theorem dX11_turns_83 : decode cX11_turns 83 = .ok (.getfield 34, 3) := by decide +kernel
theorem dX11_turns_86 : decode cX11_turns 86 = .ok (.iload_n 3, 1) := by decide +kernel
theorem dX11_turns_87 : decode cX11_turns 87 = .ok (.iload 4, 2) := by decide +kernel
theorem dX11_turns_89 : decode cX11_turns 89 = .ok (.iastore, 1) := by decide +kernel
theorem dX11_turns_90 : decode cX11_turns 90 = .ok (.iload_n 2, 1) := by decide +kernel
theorem dX11_turns_91 : decode cX11_turns 91 = .ok (.iconst 1, 1) := by decide +kernel
theorem dX11_turns_92 : decode cX11_turns 92 = .ok (.iadd, 1) := by decide +kernel
theorem dX11_turns_93 : decode cX11_turns 93 = .ok (.istore 5, 2) := by decide +kernel
theorem dX11_turns_95 : decode cX11_turns 95 = .ok (.iload_n 1, 1) := by decide +kernel
theorem dX11_turns_96 : decode cX11_turns 96 = .ok (.iconst 1, 1) := by decide +kernel
theorem dX11_turns_97 : decode cX11_turns 97 = .ok (.isub, 1) := by decide +kernel
theorem dX11_turns_98 : decode cX11_turns 98 = .ok (.istore 6, 2) := by decide +kernel
theorem dX11_turns_100 : decode cX11_turns 100 = .ok (.iload 5, 2) := by decide +kernel
theorem dX11_turns_102 : decode cX11_turns 102 = .ok (.iload 6, 2) := by decide +kernel
theorem dX11_turns_104 : decode cX11_turns 104 = .ok (.if_icmp .ge 44, 3) := by decide +kernel
theorem dX11_turns_107 : decode cX11_turns 107 = .ok (.aload_n 0, 1) := by decide +kernel
theorem dX11_turns_108 : decode cX11_turns 108 = .ok (.getfield 34, 3) := by decide +kernel
theorem dX11_turns_111 : decode cX11_turns 111 = .ok (.iload 5, 2) := by decide +kernel
theorem dX11_turns_113 : decode cX11_turns 113 = .ok (.iaload, 1) := by decide +kernel
theorem dX11_turns_114 : decode cX11_turns 114 = .ok (.istore 4, 2) := by decide +kernel
theorem dX11_turns_116 : decode cX11_turns 116 = .ok (.aload_n 0, 1) := by decide +kernel
theorem dX11_turns_117 : decode cX11_turns 117 = .ok (.getfield 34, 3) := by decide +kernel
theorem dX11_turns_120 : decode cX11_turns 120 = .ok (.iload 5, 2) := by decide +kernel
theorem dX11_turns_122 : decode cX11_turns 122 = .ok (.aload_n 0, 1) := by decide +kernel
theorem dX11_turns_123 : decode cX11_turns 123 = .ok (.getfield 34, 3) := by decide +kernel
theorem dX11_turns_126 : decode cX11_turns 126 = .ok (.iload 6, 2) := by decide +kernel
theorem dX11_turns_128 : decode cX11_turns 128 = .ok (.iaload, 1) := by decide +kernel
theorem dX11_turns_129 : decode cX11_turns 129 = .ok (.iastore, 1) := by decide +kernel
theorem dX11_turns_130 : decode cX11_turns 130 = .ok (.aload_n 0, 1) := by decide +kernel
theorem dX11_turns_131 : decode cX11_turns 131 = .ok (.getfield 34, 3) := by decide +kernel
theorem dX11_turns_134 : decode cX11_turns 134 = .ok (.iload 6, 2) := by decide +kernel
theorem dX11_turns_136 : decode cX11_turns 136 = .ok (.iload 4, 2) := by decide +kernel
theorem dX11_turns_138 : decode cX11_turns 138 = .ok (.iastore, 1) := by decide +kernel
theorem dX11_turns_139 : decode cX11_turns 139 = .ok (.iinc 5 1, 3) := by decide +kernel
theorem dX11_turns_142 : decode cX11_turns 142 = .ok (.iinc 6 (-1), 3) := by decide +kernel
theorem dX11_turns_145 : decode cX11_turns 145 = .ok (.goto (-45), 3) := by decide +kernel
theorem dX11_turns_148 : decode cX11_turns 148 = .ok (.iconst 1, 1) := by decide +kernel
theorem dX11_turns_149 : decode cX11_turns 149 = .ok (.ireturn, 1) := by decide +kernel
theorem dX11_puts_0 : decode cX11_puts 0 = .ok (.aload_n 0, 1) := by decide +kernel
theorem dX11_puts_1 : decode cX11_puts 1 = .ok (.iload_n 1, 1) := by decide +kernel
theorem dX11_puts_2 : decode cX11_puts 2 = .ok (.invokevirtual 89, 3) := by decide +kernel
theorem dX11_puts_5 : decode cX11_puts 5 = .ok (.istore_n 2, 1) := by decide +kernel
theorem dX11_puts_6 : decode cX11_puts 6 = .ok (.iload_n 2, 1) := by decide +kernel
theorem dX11_puts_7 : decode cX11_puts 7 = .ok (.ifCond .ne 6, 3) := by decide +kernel
theorem dX11_puts_10 : decode cX11_puts 10 = .ok (.bipush (-3), 2) := by decide +kernel
theorem dX11_puts_12 : decode cX11_puts 12 = .ok (.ireturn, 1) := by decide +kernel
theorem dX11_puts_13 : decode cX11_puts 13 = .ok (.iload_n 2, 1) := by decide +kernel
theorem dX11_puts_14 : decode cX11_puts 14 = .ok (.bipush 8, 2) := by decide +kernel
theorem dX11_puts_16 : decode cX11_puts 16 = .ok (.if_icmp .le 6, 3) := by decide +kernel
theorem dX11_puts_19 : decode cX11_puts 19 = .ok (.bipush (-4), 2) := by decide +kernel
theorem dX11_puts_21 : decode cX11_puts 21 = .ok (.ireturn, 1) := by decide +kernel
theorem dX11_puts_22 : decode cX11_puts 22 = .ok (.iconst 0, 1) := by decide +kernel
theorem dX11_puts_23 : decode cX11_puts 23 = .ok (.istore_n 3, 1) := by decide +kernel
theorem dX11_puts_24 : decode cX11_puts 24 = .ok (.iload_n 3, 1) := by decide +kernel
theorem dX11_puts_25 : decode cX11_puts 25 = .ok (.iload_n 2, 1) := by decide +kernel
theorem dX11_puts_26 : decode cX11_puts 26 = .ok (.if_icmp .ge 16, 3) := by decide +kernel
theorem dX11_puts_29 : decode cX11_puts 29 = .ok (.aload_n 0, 1) := by decide +kernel
theorem dX11_puts_30 : decode cX11_puts 30 = .ok (.getfield 34, 3) := by decide +kernel
theorem dX11_puts_33 : decode cX11_puts 33 = .ok (.iload_n 3, 1) := by decide +kernel
theorem dX11_puts_34 : decode cX11_puts 34 = .ok (.iload_n 3, 1) := by decide +kernel
theorem dX11_puts_35 : decode cX11_puts 35 = .ok (.iastore, 1) := by decide +kernel
theorem dX11_puts_36 : decode cX11_puts 36 = .ok (.iinc 3 1, 3) := by decide +kernel
theorem dX11_puts_39 : decode cX11_puts 39 = .ok (.goto (-15), 3) := by decide +kernel
theorem dX11_puts_42 : decode cX11_puts 42 = .ok (.aload_n 0, 1) := by decide +kernel
theorem dX11_puts_43 : decode cX11_puts 43 = .ok (.ldc 141, 2) := by decide +kernel
theorem dX11_puts_45 : decode cX11_puts 45 = .ok (.putfield 142, 3) := by decide +kernel
theorem dX11_puts_48 : decode cX11_puts 48 = .ok (.aload_n 0, 1) := by decide +kernel
theorem dX11_puts_49 : decode cX11_puts 49 = .ok (.iconst 0, 1) := by decide +kernel
theorem dX11_puts_50 : decode cX11_puts 50 = .ok (.putfield 146, 3) := by decide +kernel
theorem dX11_puts_53 : decode cX11_puts 53 = .ok (.iconst 1, 1) := by decide +kernel
theorem dX11_puts_54 : decode cX11_puts 54 = .ok (.istore_n 3, 1) := by decide +kernel
theorem dX11_puts_55 : decode cX11_puts 55 = .ok (.iload_n 3, 1) := by decide +kernel
theorem dX11_puts_56 : decode cX11_puts 56 = .ok (.ifCond .eq 130, 3) := by decide +kernel
theorem dX11_puts_59 : decode cX11_puts 59 = .ok (.iconst 0, 1) := by decide +kernel
theorem dX11_puts_60 : decode cX11_puts 60 = .ok (.istore 4, 2) := by decide +kernel
theorem dX11_puts_62 : decode cX11_puts 62 = .ok (.iconst 0, 1) := by decide +kernel
theorem dX11_puts_63 : decode cX11_puts 63 = .ok (.istore 5, 2) := by decide +kernel
theorem dX11_puts_65 : decode cX11_puts 65 = .ok (.iload 5, 2) := by decide +kernel
theorem dX11_puts_67 : decode cX11_puts 67 = .ok (.iload_n 2, 1) := by decide +kernel
theorem dX11_puts_68 : decode cX11_puts 68 = .ok (.if_icmp .ge 37, 3) := by decide +kernel
theorem dX11_puts_71 : decode cX11_puts 71 = .ok (.iload 4, 2) := by decide +kernel
theorem dX11_puts_73 : decode cX11_puts 73 = .ok (.aload_n 0, 1) := by decide +kernel
theorem dX11_puts_74 : decode cX11_puts 74 = .ok (.iload_n 1, 1) := by decide +kernel
theorem dX11_puts_75 : decode cX11_puts 75 = .ok (.aload_n 0, 1) := by decide +kernel
theorem dX11_puts_76 : decode cX11_puts 76 = .ok (.getfield 34, 3) := by decide +kernel
theorem dX11_puts_79 : decode cX11_puts 79 = .ok (.iload 5, 2) := by decide +kernel
theorem dX11_puts_81 : decode cX11_puts 81 = .ok (.iaload, 1) := by decide +kernel
theorem dX11_puts_82 : decode cX11_puts 82 = .ok (.aload_n 0, 1) := by decide +kernel
theorem dX11_puts_83 : decode cX11_puts 83 = .ok (.getfield 34, 3) := by decide +kernel
theorem dX11_puts_86 : decode cX11_puts 86 = .ok (.iload 5, 2) := by decide +kernel
theorem dX11_puts_88 : decode cX11_puts 88 = .ok (.iconst 1, 1) := by decide +kernel
theorem dX11_puts_89 : decode cX11_puts 89 = .ok (.iadd, 1) := by decide +kernel
theorem dX11_puts_90 : decode cX11_puts 90 = .ok (.iload_n 2, 1) := by decide +kernel
theorem dX11_puts_91 : decode cX11_puts 91 = .ok (.irem, 1) := by decide +kernel
theorem dX11_puts_92 : decode cX11_puts 92 = .ok (.iaload, 1) := by decide +kernel
theorem dX11_puts_93 : decode cX11_puts 93 = .ok (.invokevirtual 95, 3) := by decide +kernel
theorem dX11_puts_96 : decode cX11_puts 96 = .ok (.iadd, 1) := by decide +kernel
theorem dX11_puts_97 : decode cX11_puts 97 = .ok (.istore 4, 2) := by decide +kernel
theorem dX11_puts_99 : decode cX11_puts 99 = .ok (.iinc 5 1, 3) := by decide +kernel
theorem dX11_puts_102 : decode cX11_puts 102 = .ok (.goto (-37), 3) := by decide +kernel
theorem dX11_puts_105 : decode cX11_puts 105 = .ok (.iload 4, 2) := by decide +kernel
theorem dX11_puts_107 : decode cX11_puts 107 = .ok (.aload_n 0, 1) := by decide +kernel
theorem dX11_puts_108 : decode cX11_puts 108 = .ok (.getfield 142, 3) := by decide +kernel
theorem dX11_puts_111 : decode cX11_puts 111 = .ok (.if_icmp .ge 43, 3) := by decide +kernel
theorem dX11_puts_114 : decode cX11_puts 114 = .ok (.aload_n 0, 1) := by decide +kernel
theorem dX11_puts_115 : decode cX11_puts 115 = .ok (.iload 4, 2) := by decide +kernel
theorem dX11_puts_117 : decode cX11_puts 117 = .ok (.putfield 142, 3) := by decide +kernel
theorem dX11_puts_120 : decode cX11_puts 120 = .ok (.aload_n 0, 1) := by decide +kernel
theorem dX11_puts_121 : decode cX11_puts 121 = .ok (.iconst 0, 1) := by decide +kernel
theorem dX11_puts_122 : decode cX11_puts 122 = .ok (.putfield 146, 3) := by decide +kernel
theorem dX11_puts_125 : decode cX11_puts 125 = .ok (.iconst 0, 1) := by decide +kernel
theorem dX11_puts_126 : decode cX11_puts 126 = .ok (.istore 5, 2) := by decide +kernel
theorem dX11_puts_128 : decode cX11_puts 128 = .ok (.iload 5, 2) := by decide +kernel
theorem dX11_puts_130 : decode cX11_puts 130 = .ok (.iload_n 2, 1) := by decide +kernel
theorem dX11_puts_131 : decode cX11_puts 131 = .ok (.if_icmp .ge 23, 3) := by decide +kernel
theorem dX11_puts_134 : decode cX11_puts 134 = .ok (.aload_n 0, 1) := by decide +kernel
theorem dX11_puts_135 : decode cX11_puts 135 = .ok (.getfield 37, 3) := by decide +kernel
theorem dX11_puts_138 : decode cX11_puts 138 = .ok (.iload 5, 2) := by decide +kernel
theorem dX11_puts_140 : decode cX11_puts 140 = .ok (.aload_n 0, 1) := by decide +kernel
theorem dX11_puts_141 : decode cX11_puts 141 = .ok (.getfield 34, 3) := by decide +kernel
theorem dX11_puts_144 : decode cX11_puts 144 = .ok (.iload 5, 2) := by decide +kernel
theorem dX11_puts_146 : decode cX11_puts 146 = .ok (.iaload, 1) := by decide +kernel
theorem dX11_puts_147 : decode cX11_puts 147 = .ok (.iastore, 1) := by decide +kernel
theorem dX11_puts_148 : decode cX11_puts 148 = .ok (.iinc 5 1, 3) := by decide +kernel
theorem dX11_puts_151 : decode cX11_puts 151 = .ok (.goto (-23), 3) := by decide +kernel
theorem dX11_puts_154 : decode cX11_puts 154 = .ok (.aload_n 0, 1) := by decide +kernel
theorem dX11_puts_155 : decode cX11_puts 155 = .ok (.dup, 1) := by decide +kernel
theorem dX11_puts_156 : decode cX11_puts 156 = .ok (.getfield 146, 3) := by decide +kernel
theorem dX11_puts_159 : decode cX11_puts 159 = .ok (.iload 4, 2) := by decide +kernel
theorem dX11_puts_161 : decode cX11_puts 161 = .ok (.aload_n 0, 1) := by decide +kernel
theorem dX11_puts_162 : decode cX11_puts 162 = .ok (.getfield 142, 3) := by decide +kernel
theorem dX11_puts_165 : decode cX11_puts 165 = .ok (.if_icmp .ne 7, 3) := by decide +kernel
theorem dX11_puts_168 : decode cX11_puts 168 = .ok (.iconst 1, 1) := by decide +kernel
theorem dX11_puts_169 : decode cX11_puts 169 = .ok (.goto 4, 3) := by decide +kernel
theorem dX11_puts_172 : decode cX11_puts 172 = .ok (.iconst 0, 1) := by decide +kernel
theorem dX11_puts_173 : decode cX11_puts 173 = .ok (.iadd, 1) := by decide +kernel
theorem dX11_puts_174 : decode cX11_puts 174 = .ok (.putfield 146, 3) := by decide +kernel
theorem dX11_puts_177 : decode cX11_puts 177 = .ok (.aload_n 0, 1) := by decide +kernel
theorem dX11_puts_178 : decode cX11_puts 178 = .ok (.iload_n 2, 1) := by decide +kernel
theorem dX11_puts_179 : decode cX11_puts 179 = .ok (.invokevirtual 178, 3) := by decide +kernel
theorem dX11_puts_182 : decode cX11_puts 182 = .ok (.istore_n 3, 1) := by decide +kernel
theorem dX11_puts_183 : decode cX11_puts 183 = .ok (.goto (-128), 3) := by decide +kernel
theorem dX11_puts_186 : decode cX11_puts 186 = .ok (.iconst 0, 1) := by decide +kernel
theorem dX11_puts_187 : decode cX11_puts 187 = .ok (.ireturn, 1) := by decide +kernel
theorem dX11_order_0 : decode cX11_order 0 = .ok (.iload_n 1, 1) := by decide +kernel
theorem dX11_order_1 : decode cX11_order 1 = .ok (.invokestatic 79, 3) := by decide +kernel
theorem dX11_order_4 : decode cX11_order 4 = .ok (.ifCond .eq 8, 3) := by decide +kernel
theorem dX11_order_7 : decode cX11_order 7 = .ok (.iload_n 2, 1) := by decide +kernel
theorem dX11_order_8 : decode cX11_order 8 = .ok (.iconst (-1), 1) := by decide +kernel
theorem dX11_order_9 : decode cX11_order 9 = .ok (.if_icmp .ge 6, 3) := by decide +kernel
theorem dX11_order_12 : decode cX11_order 12 = .ok (.bipush (-2), 2) := by decide +kernel
theorem dX11_order_14 : decode cX11_order 14 = .ok (.ireturn, 1) := by decide +kernel
theorem dX11_order_15 : decode cX11_order 15 = .ok (.aload_n 0, 1) := by decide +kernel
theorem dX11_order_16 : decode cX11_order 16 = .ok (.iload_n 1, 1) := by decide +kernel
theorem dX11_order_17 : decode cX11_order 17 = .ok (.invokevirtual 181, 3) := by decide +kernel
theorem dX11_order_20 : decode cX11_order 20 = .ok (.istore_n 3, 1) := by decide +kernel
theorem dX11_order_21 : decode cX11_order 21 = .ok (.iload_n 3, 1) := by decide +kernel
theorem dX11_order_22 : decode cX11_order 22 = .ok (.ifCond .eq 5, 3) := by decide +kernel
theorem dX11_order_25 : decode cX11_order 25 = .ok (.iload_n 3, 1) := by decide +kernel
theorem dX11_order_26 : decode cX11_order 26 = .ok (.ireturn, 1) := by decide +kernel
theorem dX11_order_27 : decode cX11_order 27 = .ok (.iload_n 2, 1) := by decide +kernel
theorem dX11_order_28 : decode cX11_order 28 = .ok (.iconst (-1), 1) := by decide +kernel
theorem dX11_order_29 : decode cX11_order 29 = .ok (.if_icmp .ne 10, 3) := by decide +kernel
theorem dX11_order_32 : decode cX11_order 32 = .ok (.aload_n 0, 1) := by decide +kernel
theorem dX11_order_33 : decode cX11_order 33 = .ok (.getfield 142, 3) := by decide +kernel
theorem dX11_order_36 : decode cX11_order 36 = .ok (.goto 24, 3) := by decide +kernel
theorem dX11_order_39 : decode cX11_order 39 = .ok (.iload_n 2, 1) := by decide +kernel
theorem dX11_order_40 : decode cX11_order 40 = .ok (.aload_n 0, 1) := by decide +kernel
theorem dX11_order_41 : decode cX11_order 41 = .ok (.getfield 16, 3) := by decide +kernel
theorem dX11_order_44 : decode cX11_order 44 = .ok (.iload_n 1, 1) := by decide +kernel
theorem dX11_order_45 : decode cX11_order 45 = .ok (.iaload, 1) := by decide +kernel
theorem dX11_order_46 : decode cX11_order 46 = .ok (.if_icmp .ge 12, 3) := by decide +kernel
theorem dX11_order_49 : decode cX11_order 49 = .ok (.aload_n 0, 1) := by decide +kernel
theorem dX11_order_50 : decode cX11_order 50 = .ok (.getfield 37, 3) := by decide +kernel
theorem dX11_order_53 : decode cX11_order 53 = .ok (.iload_n 2, 1) := by decide +kernel
theorem dX11_order_54 : decode cX11_order 54 = .ok (.iaload, 1) := by decide +kernel
theorem dX11_order_55 : decode cX11_order 55 = .ok (.goto 5, 3) := by decide +kernel
theorem dX11_order_58 : decode cX11_order 58 = .ok (.bipush (-2), 2) := by decide +kernel
theorem dX11_order_60 : decode cX11_order 60 = .ok (.ireturn, 1) := by decide +kernel
theorem dX11_ordersNow_0 : decode cX11_ordersNow 0 = .ok (.aload_n 0, 1) := by decide +kernel
theorem dX11_ordersNow_1 : decode cX11_ordersNow 1 = .ok (.iload_n 1, 1) := by decide +kernel
theorem dX11_ordersNow_2 : decode cX11_ordersNow 2 = .ok (.invokevirtual 181, 3) := by decide +kernel
theorem dX11_ordersNow_5 : decode cX11_ordersNow 5 = .ok (.istore_n 2, 1) := by decide +kernel
theorem dX11_ordersNow_6 : decode cX11_ordersNow 6 = .ok (.iload_n 2, 1) := by decide +kernel
theorem dX11_ordersNow_7 : decode cX11_ordersNow 7 = .ok (.ifCond .eq 7, 3) := by decide +kernel
theorem dX11_ordersNow_10 : decode cX11_ordersNow 10 = .ok (.iload_n 2, 1) := by decide +kernel
theorem dX11_ordersNow_11 : decode cX11_ordersNow 11 = .ok (.goto 7, 3) := by decide +kernel
theorem dX11_ordersNow_14 : decode cX11_ordersNow 14 = .ok (.aload_n 0, 1) := by decide +kernel
theorem dX11_ordersNow_15 : decode cX11_ordersNow 15 = .ok (.getfield 146, 3) := by decide +kernel
theorem dX11_ordersNow_18 : decode cX11_ordersNow 18 = .ok (.ireturn, 1) := by decide +kernel
theorem dX11_orders_0 : decode cX11_orders 0 = .ok (.iload_n 1, 1) := by decide +kernel
theorem dX11_orders_1 : decode cX11_orders 1 = .ok (.invokestatic 79, 3) := by decide +kernel
theorem dX11_orders_4 : decode cX11_orders 4 = .ok (.ifCond .eq 11, 3) := by decide +kernel
theorem dX11_orders_7 : decode cX11_orders 7 = .ok (.aload_n 0, 1) := by decide +kernel
theorem dX11_orders_8 : decode cX11_orders 8 = .ok (.iload_n 1, 1) := by decide +kernel
theorem dX11_orders_9 : decode cX11_orders 9 = .ok (.invokevirtual 184, 3) := by decide +kernel
theorem dX11_orders_12 : decode cX11_orders 12 = .ok (.goto 5, 3) := by decide +kernel
theorem dX11_orders_15 : decode cX11_orders 15 = .ok (.bipush (-2), 2) := by decide +kernel
theorem dX11_orders_17 : decode cX11_orders 17 = .ok (.ireturn, 1) := by decide +kernel
theorem dX11_halves_0 : decode cX11_halves 0 = .ok (.bipush 48, 2) := by decide +kernel
theorem dX11_halves_2 : decode cX11_halves 2 = .ok (.iload_n 1, 1) := by decide +kernel
theorem dX11_halves_3 : decode cX11_halves 3 = .ok (.imul, 1) := by decide +kernel
theorem dX11_halves_4 : decode cX11_halves 4 = .ok (.iconst 4, 1) := by decide +kernel
theorem dX11_halves_5 : decode cX11_halves 5 = .ok (.iload_n 2, 1) := by decide +kernel
theorem dX11_halves_6 : decode cX11_halves 6 = .ok (.imul, 1) := by decide +kernel
theorem dX11_halves_7 : decode cX11_halves 7 = .ok (.iadd, 1) := by decide +kernel
theorem dX11_halves_8 : decode cX11_halves 8 = .ok (.istore_n 3, 1) := by decide +kernel
theorem dX11_halves_9 : decode cX11_halves 9 = .ok (.bipush 48, 2) := by decide +kernel
theorem dX11_halves_11 : decode cX11_halves 11 = .ok (.iload_n 1, 1) := by decide +kernel
theorem dX11_halves_12 : decode cX11_halves 12 = .ok (.imul, 1) := by decide +kernel
theorem dX11_halves_13 : decode cX11_halves 13 = .ok (.iconst 4, 1) := by decide +kernel
theorem dX11_halves_14 : decode cX11_halves 14 = .ok (.iload_n 2, 1) := by decide +kernel
theorem dX11_halves_15 : decode cX11_halves 15 = .ok (.iconst 1, 1) := by decide +kernel
theorem dX11_halves_16 : decode cX11_halves 16 = .ok (.iadd, 1) := by decide +kernel
theorem dX11_halves_17 : decode cX11_halves 17 = .ok (.aload_n 0, 1) := by decide +kernel
theorem dX11_halves_18 : decode cX11_halves 18 = .ok (.getfield 16, 3) := by decide +kernel
theorem dX11_halves_21 : decode cX11_halves 21 = .ok (.iload_n 1, 1) := by decide +kernel
theorem dX11_halves_22 : decode cX11_halves 22 = .ok (.iaload, 1) := by decide +kernel
theorem dX11_halves_23 : decode cX11_halves 23 = .ok (.irem, 1) := by decide +kernel
theorem dX11_halves_24 : decode cX11_halves 24 = .ok (.imul, 1) := by decide +kernel
theorem dX11_halves_25 : decode cX11_halves 25 = .ok (.iadd, 1) := by decide +kernel
theorem dX11_halves_26 : decode cX11_halves 26 = .ok (.istore 4, 2) := by decide +kernel
theorem dX11_halves_28 : decode cX11_halves 28 = .ok (.iconst 0, 1) := by decide +kernel
theorem dX11_halves_29 : decode cX11_halves 29 = .ok (.istore 5, 2) := by decide +kernel
theorem dX11_halves_31 : decode cX11_halves 31 = .ok (.iload 5, 2) := by decide +kernel
theorem dX11_halves_33 : decode cX11_halves 33 = .ok (.iconst 4, 1) := by decide +kernel
theorem dX11_halves_34 : decode cX11_halves 34 = .ok (.if_icmp .ge 71, 3) := by decide +kernel
theorem dX11_halves_37 : decode cX11_halves 37 = .ok (.aload_n 0, 1) := by decide +kernel
theorem dX11_halves_38 : decode cX11_halves 38 = .ok (.getfield 19, 3) := by decide +kernel
theorem dX11_halves_41 : decode cX11_halves 41 = .ok (.iload_n 3, 1) := by decide +kernel
theorem dX11_halves_42 : decode cX11_halves 42 = .ok (.iload 5, 2) := by decide +kernel
theorem dX11_halves_44 : decode cX11_halves 44 = .ok (.iadd, 1) := by decide +kernel
theorem dX11_halves_45 : decode cX11_halves 45 = .ok (.iaload, 1) := by decide +kernel
theorem dX11_halves_46 : decode cX11_halves 46 = .ok (.istore 6, 2) := by decide +kernel
theorem dX11_halves_48 : decode cX11_halves 48 = .ok (.aload_n 0, 1) := by decide +kernel
theorem dX11_halves_49 : decode cX11_halves 49 = .ok (.getfield 19, 3) := by decide +kernel
theorem dX11_halves_52 : decode cX11_halves 52 = .ok (.iload 4, 2) := by decide +kernel
theorem dX11_halves_54 : decode cX11_halves 54 = .ok (.iload 5, 2) := by decide +kernel
theorem dX11_halves_56 : decode cX11_halves 56 = .ok (.iadd, 1) := by decide +kernel
theorem dX11_halves_57 : decode cX11_halves 57 = .ok (.iaload, 1) := by decide +kernel
theorem dX11_halves_58 : decode cX11_halves 58 = .ok (.istore 7, 2) := by decide +kernel
theorem dX11_halves_60 : decode cX11_halves 60 = .ok (.aload_n 0, 1) := by decide +kernel
theorem dX11_halves_61 : decode cX11_halves 61 = .ok (.getfield 19, 3) := by decide +kernel
theorem dX11_halves_64 : decode cX11_halves 64 = .ok (.bipush 96, 2) := by decide +kernel
theorem dX11_halves_66 : decode cX11_halves 66 = .ok (.iload 5, 2) := by decide +kernel
theorem dX11_halves_68 : decode cX11_halves 68 = .ok (.iadd, 1) := by decide +kernel
theorem dX11_halves_69 : decode cX11_halves 69 = .ok (.iload 6, 2) := by decide +kernel
theorem dX11_halves_71 : decode cX11_halves 71 = .ok (.iconst (-1), 1) := by decide +kernel
theorem dX11_halves_72 : decode cX11_halves 72 = .ok (.if_icmp .ne 8, 3) := by decide +kernel
theorem dX11_halves_75 : decode cX11_halves 75 = .ok (.iload 7, 2) := by decide +kernel
theorem dX11_halves_77 : decode cX11_halves 77 = .ok (.goto 21, 3) := by decide +kernel
theorem dX11_halves_80 : decode cX11_halves 80 = .ok (.iload 7, 2) := by decide +kernel
theorem dX11_halves_82 : decode cX11_halves 82 = .ok (.iconst (-1), 1) := by decide +kernel
theorem dX11_halves_83 : decode cX11_halves 83 = .ok (.if_icmp .ne 8, 3) := by decide +kernel
theorem dX11_halves_86 : decode cX11_halves 86 = .ok (.iload 6, 2) := by decide +kernel
theorem dX11_halves_88 : decode cX11_halves 88 = .ok (.goto 10, 3) := by decide +kernel
theorem dX11_halves_91 : decode cX11_halves 91 = .ok (.iload 6, 2) := by decide +kernel
theorem dX11_halves_93 : decode cX11_halves 93 = .ok (.iload 7, 2) := by decide +kernel
theorem dX11_halves_95 : decode cX11_halves 95 = .ok (.iadd, 1) := by decide +kernel
theorem dX11_halves_96 : decode cX11_halves 96 = .ok (.iconst 2, 1) := by decide +kernel
theorem dX11_halves_97 : decode cX11_halves 97 = .ok (.idiv, 1) := by decide +kernel
theorem dX11_halves_98 : decode cX11_halves 98 = .ok (.iastore, 1) := by decide +kernel
theorem dX11_halves_99 : decode cX11_halves 99 = .ok (.iinc 5 1, 3) := by decide +kernel
theorem dX11_halves_102 : decode cX11_halves 102 = .ok (.goto (-71), 3) := by decide +kernel
theorem dX11_halves_105 : decode cX11_halves 105 = .ok (.return_, 1) := by decide +kernel
theorem dX11_missingNow_0 : decode cX11_missingNow 0 = .ok (.aload_n 0, 1) := by decide +kernel
theorem dX11_missingNow_1 : decode cX11_missingNow 1 = .ok (.iload_n 1, 1) := by decide +kernel
theorem dX11_missingNow_2 : decode cX11_missingNow 2 = .ok (.invokevirtual 89, 3) := by decide +kernel
theorem dX11_missingNow_5 : decode cX11_missingNow 5 = .ok (.istore_n 3, 1) := by decide +kernel
theorem dX11_missingNow_6 : decode cX11_missingNow 6 = .ok (.iload_n 3, 1) := by decide +kernel
theorem dX11_missingNow_7 : decode cX11_missingNow 7 = .ok (.ifCond .ne 6, 3) := by decide +kernel
theorem dX11_missingNow_10 : decode cX11_missingNow 10 = .ok (.bipush (-3), 2) := by decide +kernel
theorem dX11_missingNow_12 : decode cX11_missingNow 12 = .ok (.ireturn, 1) := by decide +kernel
theorem dX11_missingNow_13 : decode cX11_missingNow 13 = .ok (.iconst (-1), 1) := by decide +kernel
theorem dX11_missingNow_14 : decode cX11_missingNow 14 = .ok (.istore 4, 2) := by decide +kernel
theorem dX11_missingNow_16 : decode cX11_missingNow 16 = .ok (.iconst 0, 1) := by decide +kernel
theorem dX11_missingNow_17 : decode cX11_missingNow 17 = .ok (.istore 5, 2) := by decide +kernel
theorem dX11_missingNow_19 : decode cX11_missingNow 19 = .ok (.iconst 0, 1) := by decide +kernel
theorem dX11_missingNow_20 : decode cX11_missingNow 20 = .ok (.istore 6, 2) := by decide +kernel
theorem dX11_missingNow_22 : decode cX11_missingNow 22 = .ok (.iload 6, 2) := by decide +kernel
theorem dX11_missingNow_24 : decode cX11_missingNow 24 = .ok (.iload_n 3, 1) := by decide +kernel
theorem dX11_missingNow_25 : decode cX11_missingNow 25 = .ok (.if_icmp .ge 129, 3) := by decide +kernel
theorem dX11_missingNow_28 : decode cX11_missingNow 28 = .ok (.aload_n 0, 1) := by decide +kernel
theorem dX11_missingNow_29 : decode cX11_missingNow 29 = .ok (.iload_n 1, 1) := by decide +kernel
theorem dX11_missingNow_30 : decode cX11_missingNow 30 = .ok (.iload 6, 2) := by decide +kernel
theorem dX11_missingNow_32 : decode cX11_missingNow 32 = .ok (.invokevirtual 187, 3) := by decide +kernel
theorem dX11_missingNow_35 : decode cX11_missingNow 35 = .ok (.bipush 48, 2) := by decide +kernel
theorem dX11_missingNow_37 : decode cX11_missingNow 37 = .ok (.iload_n 1, 1) := by decide +kernel
theorem dX11_missingNow_38 : decode cX11_missingNow 38 = .ok (.imul, 1) := by decide +kernel
theorem dX11_missingNow_39 : decode cX11_missingNow 39 = .ok (.iconst 4, 1) := by decide +kernel
theorem dX11_missingNow_40 : decode cX11_missingNow 40 = .ok (.iload 6, 2) := by decide +kernel
theorem dX11_missingNow_42 : decode cX11_missingNow 42 = .ok (.imul, 1) := by decide +kernel
theorem dX11_missingNow_43 : decode cX11_missingNow 43 = .ok (.iadd, 1) := by decide +kernel
theorem dX11_missingNow_44 : decode cX11_missingNow 44 = .ok (.istore 7, 2) := by decide +kernel
theorem dX11_missingNow_46 : decode cX11_missingNow 46 = .ok (.bipush 48, 2) := by decide +kernel
theorem dX11_missingNow_48 : decode cX11_missingNow 48 = .ok (.iload_n 1, 1) := by decide +kernel
theorem dX11_missingNow_49 : decode cX11_missingNow 49 = .ok (.imul, 1) := by decide +kernel
theorem dX11_missingNow_50 : decode cX11_missingNow 50 = .ok (.iconst 4, 1) := by decide +kernel
theorem dX11_missingNow_51 : decode cX11_missingNow 51 = .ok (.iload 6, 2) := by decide +kernel
theorem dX11_missingNow_53 : decode cX11_missingNow 53 = .ok (.iconst 1, 1) := by decide +kernel
theorem dX11_missingNow_54 : decode cX11_missingNow 54 = .ok (.iadd, 1) := by decide +kernel
theorem dX11_missingNow_55 : decode cX11_missingNow 55 = .ok (.iload_n 3, 1) := by decide +kernel
theorem dX11_missingNow_56 : decode cX11_missingNow 56 = .ok (.irem, 1) := by decide +kernel
theorem dX11_missingNow_57 : decode cX11_missingNow 57 = .ok (.imul, 1) := by decide +kernel
theorem dX11_missingNow_58 : decode cX11_missingNow 58 = .ok (.iadd, 1) := by decide +kernel
theorem dX11_missingNow_59 : decode cX11_missingNow 59 = .ok (.istore 8, 2) := by decide +kernel
theorem dX11_missingNow_61 : decode cX11_missingNow 61 = .ok (.aload_n 0, 1) := by decide +kernel
theorem dX11_missingNow_62 : decode cX11_missingNow 62 = .ok (.iload 7, 2) := by decide +kernel
theorem dX11_missingNow_64 : decode cX11_missingNow 64 = .ok (.iload 8, 2) := by decide +kernel
theorem dX11_missingNow_66 : decode cX11_missingNow 66 = .ok (.invokevirtual 92, 3) := by decide +kernel
theorem dX11_missingNow_69 : decode cX11_missingNow 69 = .ok (.aload_n 0, 1) := by decide +kernel
theorem dX11_missingNow_70 : decode cX11_missingNow 70 = .ok (.iload 7, 2) := by decide +kernel
theorem dX11_missingNow_72 : decode cX11_missingNow 72 = .ok (.iload 8, 2) := by decide +kernel
theorem dX11_missingNow_74 : decode cX11_missingNow 74 = .ok (.invokevirtual 92, 3) := by decide +kernel
theorem dX11_missingNow_77 : decode cX11_missingNow 77 = .ok (.imul, 1) := by decide +kernel
theorem dX11_missingNow_78 : decode cX11_missingNow 78 = .ok (.aload_n 0, 1) := by decide +kernel
theorem dX11_missingNow_79 : decode cX11_missingNow 79 = .ok (.iload 7, 2) := by decide +kernel
theorem dX11_missingNow_81 : decode cX11_missingNow 81 = .ok (.bipush 96, 2) := by decide +kernel
theorem dX11_missingNow_83 : decode cX11_missingNow 83 = .ok (.invokevirtual 92, 3) := by decide +kernel
theorem dX11_missingNow_86 : decode cX11_missingNow 86 = .ok (.aload_n 0, 1) := by decide +kernel
theorem dX11_missingNow_87 : decode cX11_missingNow 87 = .ok (.iload 7, 2) := by decide +kernel
theorem dX11_missingNow_89 : decode cX11_missingNow 89 = .ok (.bipush 96, 2) := by decide +kernel
theorem dX11_missingNow_91 : decode cX11_missingNow 91 = .ok (.invokevirtual 92, 3) := by decide +kernel
theorem dX11_missingNow_94 : decode cX11_missingNow 94 = .ok (.imul, 1) := by decide +kernel
theorem dX11_missingNow_95 : decode cX11_missingNow 95 = .ok (.isub, 1) := by decide +kernel
theorem dX11_missingNow_96 : decode cX11_missingNow 96 = .ok (.aload_n 0, 1) := by decide +kernel
theorem dX11_missingNow_97 : decode cX11_missingNow 97 = .ok (.bipush 96, 2) := by decide +kernel
theorem dX11_missingNow_99 : decode cX11_missingNow 99 = .ok (.iload 8, 2) := by decide +kernel
theorem dX11_missingNow_101 : decode cX11_missingNow 101 = .ok (.invokevirtual 92, 3) := by decide +kernel
theorem dX11_missingNow_104 : decode cX11_missingNow 104 = .ok (.aload_n 0, 1) := by decide +kernel
theorem dX11_missingNow_105 : decode cX11_missingNow 105 = .ok (.bipush 96, 2) := by decide +kernel
theorem dX11_missingNow_107 : decode cX11_missingNow 107 = .ok (.iload 8, 2) := by decide +kernel
theorem dX11_missingNow_109 : decode cX11_missingNow 109 = .ok (.invokevirtual 92, 3) := by decide +kernel
theorem dX11_missingNow_112 : decode cX11_missingNow 112 = .ok (.imul, 1) := by decide +kernel
theorem dX11_missingNow_113 : decode cX11_missingNow 113 = .ok (.isub, 1) := by decide +kernel
theorem dX11_missingNow_114 : decode cX11_missingNow 114 = .ok (.istore 9, 2) := by decide +kernel
theorem dX11_missingNow_116 : decode cX11_missingNow 116 = .ok (.iload 9, 2) := by decide +kernel
theorem dX11_missingNow_118 : decode cX11_missingNow 118 = .ok (.iload 5, 2) := by decide +kernel
theorem dX11_missingNow_120 : decode cX11_missingNow 120 = .ok (.if_icmp .le 8, 3) := by decide +kernel
theorem dX11_missingNow_123 : decode cX11_missingNow 123 = .ok (.iload 6, 2) := by decide +kernel
theorem dX11_missingNow_125 : decode cX11_missingNow 125 = .ok (.goto 5, 3) := by decide +kernel
theorem dX11_missingNow_128 : decode cX11_missingNow 128 = .ok (.iload 4, 2) := by decide +kernel
theorem dX11_missingNow_130 : decode cX11_missingNow 130 = .ok (.istore 4, 2) := by decide +kernel
theorem dX11_missingNow_132 : decode cX11_missingNow 132 = .ok (.iload 9, 2) := by decide +kernel
theorem dX11_missingNow_134 : decode cX11_missingNow 134 = .ok (.iload 5, 2) := by decide +kernel
theorem dX11_missingNow_136 : decode cX11_missingNow 136 = .ok (.if_icmp .le 8, 3) := by decide +kernel
theorem dX11_missingNow_139 : decode cX11_missingNow 139 = .ok (.iload 9, 2) := by decide +kernel
theorem dX11_missingNow_141 : decode cX11_missingNow 141 = .ok (.goto 5, 3) := by decide +kernel
theorem dX11_missingNow_144 : decode cX11_missingNow 144 = .ok (.iload 5, 2) := by decide +kernel
theorem dX11_missingNow_146 : decode cX11_missingNow 146 = .ok (.istore 5, 2) := by decide +kernel
theorem dX11_missingNow_148 : decode cX11_missingNow 148 = .ok (.iinc 6 1, 3) := by decide +kernel
theorem dX11_missingNow_151 : decode cX11_missingNow 151 = .ok (.goto (-129), 3) := by decide +kernel
theorem dX11_missingNow_154 : decode cX11_missingNow 154 = .ok (.iload_n 2, 1) := by decide +kernel
theorem dX11_missingNow_155 : decode cX11_missingNow 155 = .ok (.ifCond .ne 8, 3) := by decide +kernel
theorem dX11_missingNow_158 : decode cX11_missingNow 158 = .ok (.iload 4, 2) := by decide +kernel
theorem dX11_missingNow_160 : decode cX11_missingNow 160 = .ok (.goto 5, 3) := by decide +kernel
theorem dX11_missingNow_163 : decode cX11_missingNow 163 = .ok (.iload 5, 2) := by decide +kernel
theorem dX11_missingNow_165 : decode cX11_missingNow 165 = .ok (.ireturn, 1) := by decide +kernel
theorem dX11_missing_0 : decode cX11_missing 0 = .ok (.iload_n 1, 1) := by decide +kernel
theorem dX11_missing_1 : decode cX11_missing 1 = .ok (.invokestatic 79, 3) := by decide +kernel
theorem dX11_missing_4 : decode cX11_missing 4 = .ok (.ifCond .eq 21, 3) := by decide +kernel
theorem dX11_missing_7 : decode cX11_missing 7 = .ok (.iload_n 2, 1) := by decide +kernel
theorem dX11_missing_8 : decode cX11_missing 8 = .ok (.iconst 0, 1) := by decide +kernel
theorem dX11_missing_9 : decode cX11_missing 9 = .ok (.iconst 1, 1) := by decide +kernel
theorem dX11_missing_10 : decode cX11_missing 10 = .ok (.invokestatic 75, 3) := by decide +kernel
theorem dX11_missing_13 : decode cX11_missing 13 = .ok (.ifCond .eq 12, 3) := by decide +kernel
theorem dX11_missing_16 : decode cX11_missing 16 = .ok (.aload_n 0, 1) := by decide +kernel
theorem dX11_missing_17 : decode cX11_missing 17 = .ok (.iload_n 1, 1) := by decide +kernel
theorem dX11_missing_18 : decode cX11_missing 18 = .ok (.iload_n 2, 1) := by decide +kernel
theorem dX11_missing_19 : decode cX11_missing 19 = .ok (.invokevirtual 191, 3) := by decide +kernel
theorem dX11_missing_22 : decode cX11_missing 22 = .ok (.goto 5, 3) := by decide +kernel
theorem dX11_missing_25 : decode cX11_missing 25 = .ok (.bipush (-2), 2) := by decide +kernel
theorem dX11_missing_27 : decode cX11_missing 27 = .ok (.ireturn, 1) := by decide +kernel
theorem dX11_half_0 : decode cX11_half 0 = .ok (.iload_n 1, 1) := by decide +kernel
theorem dX11_half_1 : decode cX11_half 1 = .ok (.invokestatic 79, 3) := by decide +kernel
theorem dX11_half_4 : decode cX11_half 4 = .ok (.ifCond .eq 27, 3) := by decide +kernel
theorem dX11_half_7 : decode cX11_half 7 = .ok (.iload_n 2, 1) := by decide +kernel
theorem dX11_half_8 : decode cX11_half 8 = .ok (.iconst 0, 1) := by decide +kernel
theorem dX11_half_9 : decode cX11_half 9 = .ok (.aload_n 0, 1) := by decide +kernel
theorem dX11_half_10 : decode cX11_half 10 = .ok (.iload_n 1, 1) := by decide +kernel
theorem dX11_half_11 : decode cX11_half 11 = .ok (.invokevirtual 89, 3) := by decide +kernel
theorem dX11_half_14 : decode cX11_half 14 = .ok (.iconst 1, 1) := by decide +kernel
theorem dX11_half_15 : decode cX11_half 15 = .ok (.isub, 1) := by decide +kernel
theorem dX11_half_16 : decode cX11_half 16 = .ok (.invokestatic 75, 3) := by decide +kernel
theorem dX11_half_19 : decode cX11_half 19 = .ok (.ifCond .eq 12, 3) := by decide +kernel
theorem dX11_half_22 : decode cX11_half 22 = .ok (.iload_n 3, 1) := by decide +kernel
theorem dX11_half_23 : decode cX11_half 23 = .ok (.iconst 0, 1) := by decide +kernel
theorem dX11_half_24 : decode cX11_half 24 = .ok (.iconst 3, 1) := by decide +kernel
theorem dX11_half_25 : decode cX11_half 25 = .ok (.invokestatic 75, 3) := by decide +kernel
theorem dX11_half_28 : decode cX11_half 28 = .ok (.ifCond .ne 6, 3) := by decide +kernel
theorem dX11_half_31 : decode cX11_half 31 = .ok (.bipush (-2), 2) := by decide +kernel
theorem dX11_half_33 : decode cX11_half 33 = .ok (.ireturn, 1) := by decide +kernel
theorem dX11_half_34 : decode cX11_half 34 = .ok (.aload_n 0, 1) := by decide +kernel
theorem dX11_half_35 : decode cX11_half 35 = .ok (.iload_n 1, 1) := by decide +kernel
theorem dX11_half_36 : decode cX11_half 36 = .ok (.iload_n 2, 1) := by decide +kernel
theorem dX11_half_37 : decode cX11_half 37 = .ok (.invokevirtual 187, 3) := by decide +kernel
theorem dX11_half_40 : decode cX11_half 40 = .ok (.aload_n 0, 1) := by decide +kernel
theorem dX11_half_41 : decode cX11_half 41 = .ok (.getfield 19, 3) := by decide +kernel
theorem dX11_half_44 : decode cX11_half 44 = .ok (.bipush 96, 2) := by decide +kernel
theorem dX11_half_46 : decode cX11_half 46 = .ok (.iload_n 3, 1) := by decide +kernel
theorem dX11_half_47 : decode cX11_half 47 = .ok (.iadd, 1) := by decide +kernel
theorem dX11_half_48 : decode cX11_half 48 = .ok (.iaload, 1) := by decide +kernel
theorem dX11_half_49 : decode cX11_half 49 = .ok (.ireturn, 1) := by decide +kernel
theorem dX11_fewNow_0 : decode cX11_fewNow 0 = .ok (.aload_n 0, 1) := by decide +kernel
theorem dX11_fewNow_1 : decode cX11_fewNow 1 = .ok (.iload_n 1, 1) := by decide +kernel
theorem dX11_fewNow_2 : decode cX11_fewNow 2 = .ok (.invokevirtual 89, 3) := by decide +kernel
theorem dX11_fewNow_5 : decode cX11_fewNow 5 = .ok (.istore_n 3, 1) := by decide +kernel
theorem dX11_fewNow_6 : decode cX11_fewNow 6 = .ok (.iload_n 3, 1) := by decide +kernel
theorem dX11_fewNow_7 : decode cX11_fewNow 7 = .ok (.ifCond .ne 6, 3) := by decide +kernel
theorem dX11_fewNow_10 : decode cX11_fewNow 10 = .ok (.bipush (-3), 2) := by decide +kernel
theorem dX11_fewNow_12 : decode cX11_fewNow 12 = .ok (.ireturn, 1) := by decide +kernel
theorem dX11_fewNow_13 : decode cX11_fewNow 13 = .ok (.iconst (-1), 1) := by decide +kernel
theorem dX11_fewNow_14 : decode cX11_fewNow 14 = .ok (.istore 4, 2) := by decide +kernel
theorem dX11_fewNow_16 : decode cX11_fewNow 16 = .ok (.iconst 1, 1) := by decide +kernel
theorem dX11_fewNow_17 : decode cX11_fewNow 17 = .ok (.istore 5, 2) := by decide +kernel
theorem dX11_fewNow_19 : decode cX11_fewNow 19 = .ok (.iload 5, 2) := by decide +kernel
theorem dX11_fewNow_21 : decode cX11_fewNow 21 = .ok (.iconst 1, 1) := by decide +kernel
theorem dX11_fewNow_22 : decode cX11_fewNow 22 = .ok (.iload_n 3, 1) := by decide +kernel
theorem dX11_fewNow_23 : decode cX11_fewNow 23 = .ok (.ishl, 1) := by decide +kernel
theorem dX11_fewNow_24 : decode cX11_fewNow 24 = .ok (.if_icmp .ge 126, 3) := by decide +kernel
theorem dX11_fewNow_27 : decode cX11_fewNow 27 = .ok (.iload 4, 2) := by decide +kernel
theorem dX11_fewNow_29 : decode cX11_fewNow 29 = .ok (.iconst (-1), 1) := by decide +kernel
theorem dX11_fewNow_30 : decode cX11_fewNow 30 = .ok (.if_icmp .eq 16, 3) := by decide +kernel
theorem dX11_fewNow_33 : decode cX11_fewNow 33 = .ok (.iload 5, 2) := by decide +kernel
theorem dX11_fewNow_35 : decode cX11_fewNow 35 = .ok (.invokestatic 194, 3) := by decide +kernel
theorem dX11_fewNow_38 : decode cX11_fewNow 38 = .ok (.iload 4, 2) := by decide +kernel
theorem dX11_fewNow_40 : decode cX11_fewNow 40 = .ok (.invokestatic 194, 3) := by decide +kernel
theorem dX11_fewNow_43 : decode cX11_fewNow 43 = .ok (.if_icmp .ge 7, 3) := by decide +kernel
theorem dX11_fewNow_46 : decode cX11_fewNow 46 = .ok (.iconst 1, 1) := by decide +kernel
theorem dX11_fewNow_47 : decode cX11_fewNow 47 = .ok (.goto 4, 3) := by decide +kernel
theorem dX11_fewNow_50 : decode cX11_fewNow 50 = .ok (.iconst 0, 1) := by decide +kernel
theorem dX11_fewNow_51 : decode cX11_fewNow 51 = .ok (.istore 6, 2) := by decide +kernel
theorem dX11_fewNow_53 : decode cX11_fewNow 53 = .ok (.iconst 0, 1) := by decide +kernel
theorem dX11_fewNow_54 : decode cX11_fewNow 54 = .ok (.istore 7, 2) := by decide +kernel
theorem dX11_fewNow_56 : decode cX11_fewNow 56 = .ok (.iload 7, 2) := by decide +kernel
theorem dX11_fewNow_58 : decode cX11_fewNow 58 = .ok (.iload_n 3, 1) := by decide +kernel
theorem dX11_fewNow_59 : decode cX11_fewNow 59 = .ok (.if_icmp .ge 71, 3) := by decide +kernel
theorem dX11_fewNow_62 : decode cX11_fewNow 62 = .ok (.iload 6, 2) := by decide +kernel
theorem dX11_fewNow_64 : decode cX11_fewNow 64 = .ok (.ifCond .eq 66, 3) := by decide +kernel
theorem dX11_fewNow_67 : decode cX11_fewNow 67 = .ok (.iconst 0, 1) := by decide +kernel
theorem dX11_fewNow_68 : decode cX11_fewNow 68 = .ok (.istore 8, 2) := by decide +kernel
theorem dX11_fewNow_70 : decode cX11_fewNow 70 = .ok (.iconst 0, 1) := by decide +kernel
theorem dX11_fewNow_71 : decode cX11_fewNow 71 = .ok (.istore 9, 2) := by decide +kernel
theorem dX11_fewNow_73 : decode cX11_fewNow 73 = .ok (.iload 9, 2) := by decide +kernel
theorem dX11_fewNow_75 : decode cX11_fewNow 75 = .ok (.iload_n 3, 1) := by decide +kernel
theorem dX11_fewNow_76 : decode cX11_fewNow 76 = .ok (.if_icmp .ge 44, 3) := by decide +kernel
theorem dX11_fewNow_79 : decode cX11_fewNow 79 = .ok (.iload 8, 2) := by decide +kernel
theorem dX11_fewNow_81 : decode cX11_fewNow 81 = .ok (.ifCond .ne 26, 3) := by decide +kernel
theorem dX11_fewNow_84 : decode cX11_fewNow 84 = .ok (.iload 5, 2) := by decide +kernel
theorem dX11_fewNow_86 : decode cX11_fewNow 86 = .ok (.iload 9, 2) := by decide +kernel
theorem dX11_fewNow_88 : decode cX11_fewNow 88 = .ok (.invokestatic 155, 3) := by decide +kernel
theorem dX11_fewNow_91 : decode cX11_fewNow 91 = .ok (.ifCond .eq 20, 3) := by decide +kernel
theorem dX11_fewNow_94 : decode cX11_fewNow 94 = .ok (.aload_n 0, 1) := by decide +kernel
theorem dX11_fewNow_95 : decode cX11_fewNow 95 = .ok (.iload_n 1, 1) := by decide +kernel
theorem dX11_fewNow_96 : decode cX11_fewNow 96 = .ok (.iload 7, 2) := by decide +kernel
theorem dX11_fewNow_98 : decode cX11_fewNow 98 = .ok (.iload 9, 2) := by decide +kernel
theorem dX11_fewNow_100 : decode cX11_fewNow 100 = .ok (.invokevirtual 95, 3) := by decide +kernel
theorem dX11_fewNow_103 : decode cX11_fewNow 103 = .ok (.iload_n 2, 1) := by decide +kernel
theorem dX11_fewNow_104 : decode cX11_fewNow 104 = .ok (.if_icmp .gt 7, 3) := by decide +kernel
theorem dX11_fewNow_107 : decode cX11_fewNow 107 = .ok (.iconst 1, 1) := by decide +kernel
theorem dX11_fewNow_108 : decode cX11_fewNow 108 = .ok (.goto 4, 3) := by decide +kernel
theorem dX11_fewNow_111 : decode cX11_fewNow 111 = .ok (.iconst 0, 1) := by decide +kernel
theorem dX11_fewNow_112 : decode cX11_fewNow 112 = .ok (.istore 8, 2) := by decide +kernel
theorem dX11_fewNow_114 : decode cX11_fewNow 114 = .ok (.iinc 9 1, 3) := by decide +kernel
theorem dX11_fewNow_117 : decode cX11_fewNow 117 = .ok (.goto (-44), 3) := by decide +kernel
theorem dX11_fewNow_120 : decode cX11_fewNow 120 = .ok (.iload 8, 2) := by decide +kernel
theorem dX11_fewNow_122 : decode cX11_fewNow 122 = .ok (.istore 6, 2) := by decide +kernel
theorem dX11_fewNow_124 : decode cX11_fewNow 124 = .ok (.iinc 7 1, 3) := by decide +kernel
theorem dX11_fewNow_127 : decode cX11_fewNow 127 = .ok (.goto (-71), 3) := by decide +kernel
theorem dX11_fewNow_130 : decode cX11_fewNow 130 = .ok (.iload 6, 2) := by decide +kernel
theorem dX11_fewNow_132 : decode cX11_fewNow 132 = .ok (.ifCond .eq 8, 3) := by decide +kernel
theorem dX11_fewNow_135 : decode cX11_fewNow 135 = .ok (.iload 5, 2) := by decide +kernel
theorem dX11_fewNow_137 : decode cX11_fewNow 137 = .ok (.goto 5, 3) := by decide +kernel
theorem dX11_fewNow_140 : decode cX11_fewNow 140 = .ok (.iload 4, 2) := by decide +kernel
theorem dX11_fewNow_142 : decode cX11_fewNow 142 = .ok (.istore 4, 2) := by decide +kernel
theorem dX11_fewNow_144 : decode cX11_fewNow 144 = .ok (.iinc 5 1, 3) := by decide +kernel
theorem dX11_fewNow_147 : decode cX11_fewNow 147 = .ok (.goto (-128), 3) := by decide +kernel
theorem dX11_fewNow_150 : decode cX11_fewNow 150 = .ok (.iload 4, 2) := by decide +kernel
theorem dX11_fewNow_152 : decode cX11_fewNow 152 = .ok (.ireturn, 1) := by decide +kernel
theorem dX11_few_0 : decode cX11_few 0 = .ok (.iload_n 1, 1) := by decide +kernel
theorem dX11_few_1 : decode cX11_few 1 = .ok (.invokestatic 79, 3) := by decide +kernel
theorem dX11_few_4 : decode cX11_few 4 = .ok (.ifCond .eq 22, 3) := by decide +kernel
theorem dX11_few_7 : decode cX11_few 7 = .ok (.iload_n 2, 1) := by decide +kernel
theorem dX11_few_8 : decode cX11_few 8 = .ok (.iconst 0, 1) := by decide +kernel
theorem dX11_few_9 : decode cX11_few 9 = .ok (.bipush 60, 2) := by decide +kernel
theorem dX11_few_11 : decode cX11_few 11 = .ok (.invokestatic 75, 3) := by decide +kernel
theorem dX11_few_14 : decode cX11_few 14 = .ok (.ifCond .eq 12, 3) := by decide +kernel
theorem dX11_few_17 : decode cX11_few 17 = .ok (.aload_n 0, 1) := by decide +kernel
theorem dX11_few_18 : decode cX11_few 18 = .ok (.iload_n 1, 1) := by decide +kernel
theorem dX11_few_19 : decode cX11_few 19 = .ok (.iload_n 2, 1) := by decide +kernel
theorem dX11_few_20 : decode cX11_few 20 = .ok (.invokevirtual 197, 3) := by decide +kernel
theorem dX11_few_23 : decode cX11_few 23 = .ok (.goto 5, 3) := by decide +kernel
theorem dX11_few_26 : decode cX11_few 26 = .ok (.bipush (-2), 2) := by decide +kernel
theorem dX11_few_28 : decode cX11_few 28 = .ok (.ireturn, 1) := by decide +kernel
theorem dX11_tries_0 : decode cX11_tries 0 = .ok (.iload_n 1, 1) := by decide +kernel
theorem dX11_tries_1 : decode cX11_tries 1 = .ok (.iconst 1, 1) := by decide +kernel
theorem dX11_tries_2 : decode cX11_tries 2 = .ok (.bipush 60, 2) := by decide +kernel
theorem dX11_tries_4 : decode cX11_tries 4 = .ok (.invokestatic 75, 3) := by decide +kernel
theorem dX11_tries_7 : decode cX11_tries 7 = .ok (.ifCond .eq 22, 3) := by decide +kernel
theorem dX11_tries_10 : decode cX11_tries 10 = .ok (.iload_n 2, 1) := by decide +kernel
theorem dX11_tries_11 : decode cX11_tries 11 = .ok (.iconst 0, 1) := by decide +kernel
theorem dX11_tries_12 : decode cX11_tries 12 = .ok (.bipush 9, 2) := by decide +kernel
theorem dX11_tries_14 : decode cX11_tries 14 = .ok (.invokestatic 75, 3) := by decide +kernel
theorem dX11_tries_17 : decode cX11_tries 17 = .ok (.ifCond .eq 12, 3) := by decide +kernel
theorem dX11_tries_20 : decode cX11_tries 20 = .ok (.iload_n 3, 1) := by decide +kernel
theorem dX11_tries_21 : decode cX11_tries 21 = .ok (.iconst 0, 1) := by decide +kernel
theorem dX11_tries_22 : decode cX11_tries 22 = .ok (.iconst 1, 1) := by decide +kernel
theorem dX11_tries_23 : decode cX11_tries 23 = .ok (.invokestatic 75, 3) := by decide +kernel
theorem dX11_tries_26 : decode cX11_tries 26 = .ok (.ifCond .ne 6, 3) := by decide +kernel
theorem dX11_tries_29 : decode cX11_tries 29 = .ok (.bipush (-2), 2) := by decide +kernel
theorem dX11_tries_31 : decode cX11_tries 31 = .ok (.ireturn, 1) := by decide +kernel
theorem dX11_tries_32 : decode cX11_tries 32 = .ok (.aload_n 0, 1) := by decide +kernel
theorem dX11_tries_33 : decode cX11_tries 33 = .ok (.getfield 200, 3) := by decide +kernel
theorem dX11_tries_36 : decode cX11_tries 36 = .ok (.bipush 40, 2) := by decide +kernel
theorem dX11_tries_38 : decode cX11_tries 38 = .ok (.if_icmp .ne 6, 3) := by decide +kernel
theorem dX11_tries_41 : decode cX11_tries 41 = .ok (.bipush (-4), 2) := by decide +kernel
theorem dX11_tries_43 : decode cX11_tries 43 = .ok (.ireturn, 1) := by decide +kernel
theorem dX11_tries_44 : decode cX11_tries 44 = .ok (.aload_n 0, 1) := by decide +kernel
theorem dX11_tries_45 : decode cX11_tries 45 = .ok (.getfield 40, 3) := by decide +kernel
theorem dX11_tries_48 : decode cX11_tries 48 = .ok (.aload_n 0, 1) := by decide +kernel
theorem dX11_tries_49 : decode cX11_tries 49 = .ok (.getfield 200, 3) := by decide +kernel
theorem dX11_tries_52 : decode cX11_tries 52 = .ok (.iload_n 1, 1) := by decide +kernel
theorem dX11_tries_53 : decode cX11_tries 53 = .ok (.iastore, 1) := by decide +kernel
theorem dX11_tries_54 : decode cX11_tries 54 = .ok (.aload_n 0, 1) := by decide +kernel
theorem dX11_tries_55 : decode cX11_tries 55 = .ok (.getfield 43, 3) := by decide +kernel
theorem dX11_tries_58 : decode cX11_tries 58 = .ok (.aload_n 0, 1) := by decide +kernel
theorem dX11_tries_59 : decode cX11_tries 59 = .ok (.getfield 200, 3) := by decide +kernel
theorem dX11_tries_62 : decode cX11_tries 62 = .ok (.iload_n 2, 1) := by decide +kernel
theorem dX11_tries_63 : decode cX11_tries 63 = .ok (.iastore, 1) := by decide +kernel
theorem dX11_tries_64 : decode cX11_tries 64 = .ok (.aload_n 0, 1) := by decide +kernel
theorem dX11_tries_65 : decode cX11_tries 65 = .ok (.getfield 46, 3) := by decide +kernel
theorem dX11_tries_68 : decode cX11_tries 68 = .ok (.aload_n 0, 1) := by decide +kernel
theorem dX11_tries_69 : decode cX11_tries 69 = .ok (.getfield 200, 3) := by decide +kernel
theorem dX11_tries_72 : decode cX11_tries 72 = .ok (.iload_n 3, 1) := by decide +kernel
theorem dX11_tries_73 : decode cX11_tries 73 = .ok (.iastore, 1) := by decide +kernel
theorem dX11_tries_74 : decode cX11_tries 74 = .ok (.aload_n 0, 1) := by decide +kernel
theorem dX11_tries_75 : decode cX11_tries 75 = .ok (.dup, 1) := by decide +kernel
theorem dX11_tries_76 : decode cX11_tries 76 = .ok (.getfield 200, 3) := by decide +kernel
theorem dX11_tries_79 : decode cX11_tries 79 = .ok (.iconst 1, 1) := by decide +kernel
theorem dX11_tries_80 : decode cX11_tries 80 = .ok (.iadd, 1) := by decide +kernel
theorem dX11_tries_81 : decode cX11_tries 81 = .ok (.putfield 200, 3) := by decide +kernel
theorem dX11_tries_84 : decode cX11_tries 84 = .ok (.aload_n 0, 1) := by decide +kernel
theorem dX11_tries_85 : decode cX11_tries 85 = .ok (.getfield 200, 3) := by decide +kernel
theorem dX11_tries_88 : decode cX11_tries 88 = .ok (.ireturn, 1) := by decide +kernel
theorem dX11_wrongOf_0 : decode cX11_wrongOf 0 = .ok (.iconst 0, 1) := by decide +kernel
theorem dX11_wrongOf_1 : decode cX11_wrongOf 1 = .ok (.istore_n 3, 1) := by decide +kernel
theorem dX11_wrongOf_2 : decode cX11_wrongOf 2 = .ok (.iconst 0, 1) := by decide +kernel
theorem dX11_wrongOf_3 : decode cX11_wrongOf 3 = .ok (.istore 4, 2) := by decide +kernel
theorem dX11_wrongOf_5 : decode cX11_wrongOf 5 = .ok (.iload 4, 2) := by decide +kernel
theorem dX11_wrongOf_7 : decode cX11_wrongOf 7 = .ok (.aload_n 0, 1) := by decide +kernel
theorem dX11_wrongOf_8 : decode cX11_wrongOf 8 = .ok (.getfield 200, 3) := by decide +kernel
theorem dX11_wrongOf_11 : decode cX11_wrongOf 11 = .ok (.if_icmp .ge 57, 3) := by decide +kernel
theorem dX11_wrongOf_14 : decode cX11_wrongOf 14 = .ok (.aload_n 0, 1) := by decide +kernel
theorem dX11_wrongOf_15 : decode cX11_wrongOf 15 = .ok (.getfield 40, 3) := by decide +kernel
theorem dX11_wrongOf_18 : decode cX11_wrongOf 18 = .ok (.iload 4, 2) := by decide +kernel
theorem dX11_wrongOf_20 : decode cX11_wrongOf 20 = .ok (.iaload, 1) := by decide +kernel
theorem dX11_wrongOf_21 : decode cX11_wrongOf 21 = .ok (.iload_n 1, 1) := by decide +kernel
theorem dX11_wrongOf_22 : decode cX11_wrongOf 22 = .ok (.iload_n 2, 1) := by decide +kernel
theorem dX11_wrongOf_23 : decode cX11_wrongOf 23 = .ok (.aload_n 0, 1) := by decide +kernel
theorem dX11_wrongOf_24 : decode cX11_wrongOf 24 = .ok (.getfield 43, 3) := by decide +kernel
theorem dX11_wrongOf_27 : decode cX11_wrongOf 27 = .ok (.iload 4, 2) := by decide +kernel
theorem dX11_wrongOf_29 : decode cX11_wrongOf 29 = .ok (.iaload, 1) := by decide +kernel
theorem dX11_wrongOf_30 : decode cX11_wrongOf 30 = .ok (.imul, 1) := by decide +kernel
theorem dX11_wrongOf_31 : decode cX11_wrongOf 31 = .ok (.iadd, 1) := by decide +kernel
theorem dX11_wrongOf_32 : decode cX11_wrongOf 32 = .ok (.if_icmp .lt 7, 3) := by decide +kernel
theorem dX11_wrongOf_35 : decode cX11_wrongOf 35 = .ok (.iconst 1, 1) := by decide +kernel
theorem dX11_wrongOf_36 : decode cX11_wrongOf 36 = .ok (.goto 4, 3) := by decide +kernel
theorem dX11_wrongOf_39 : decode cX11_wrongOf 39 = .ok (.iconst 0, 1) := by decide +kernel
theorem dX11_wrongOf_40 : decode cX11_wrongOf 40 = .ok (.istore 5, 2) := by decide +kernel
theorem dX11_wrongOf_42 : decode cX11_wrongOf 42 = .ok (.iload_n 3, 1) := by decide +kernel
theorem dX11_wrongOf_43 : decode cX11_wrongOf 43 = .ok (.iload 5, 2) := by decide +kernel
theorem dX11_wrongOf_45 : decode cX11_wrongOf 45 = .ok (.aload_n 0, 1) := by decide +kernel
theorem dX11_wrongOf_46 : decode cX11_wrongOf 46 = .ok (.getfield 46, 3) := by decide +kernel
theorem dX11_wrongOf_49 : decode cX11_wrongOf 49 = .ok (.iload 4, 2) := by decide +kernel
theorem dX11_wrongOf_51 : decode cX11_wrongOf 51 = .ok (.iaload, 1) := by decide +kernel
theorem dX11_wrongOf_52 : decode cX11_wrongOf 52 = .ok (.if_icmp .ne 7, 3) := by decide +kernel
theorem dX11_wrongOf_55 : decode cX11_wrongOf 55 = .ok (.iconst 0, 1) := by decide +kernel
theorem dX11_wrongOf_56 : decode cX11_wrongOf 56 = .ok (.goto 4, 3) := by decide +kernel
theorem dX11_wrongOf_59 : decode cX11_wrongOf 59 = .ok (.iconst 1, 1) := by decide +kernel
theorem dX11_wrongOf_60 : decode cX11_wrongOf 60 = .ok (.iadd, 1) := by decide +kernel
theorem dX11_wrongOf_61 : decode cX11_wrongOf 61 = .ok (.istore_n 3, 1) := by decide +kernel
theorem dX11_wrongOf_62 : decode cX11_wrongOf 62 = .ok (.iinc 4 1, 3) := by decide +kernel
theorem dX11_wrongOf_65 : decode cX11_wrongOf 65 = .ok (.goto (-60), 3) := by decide +kernel
theorem dX11_wrongOf_68 : decode cX11_wrongOf 68 = .ok (.iload_n 3, 1) := by decide +kernel
theorem dX11_wrongOf_69 : decode cX11_wrongOf 69 = .ok (.ireturn, 1) := by decide +kernel
theorem dX11_wrong_0 : decode cX11_wrong 0 = .ok (.iload_n 1, 1) := by decide +kernel
theorem dX11_wrong_1 : decode cX11_wrong 1 = .ok (.iconst 0, 1) := by decide +kernel
theorem dX11_wrong_2 : decode cX11_wrong 2 = .ok (.bipush 60, 2) := by decide +kernel
theorem dX11_wrong_4 : decode cX11_wrong 4 = .ok (.invokestatic 75, 3) := by decide +kernel
theorem dX11_wrong_7 : decode cX11_wrong 7 = .ok (.ifCond .eq 22, 3) := by decide +kernel
theorem dX11_wrong_10 : decode cX11_wrong 10 = .ok (.iload_n 2, 1) := by decide +kernel
theorem dX11_wrong_11 : decode cX11_wrong 11 = .ok (.iconst 0, 1) := by decide +kernel
theorem dX11_wrong_12 : decode cX11_wrong 12 = .ok (.bipush 9, 2) := by decide +kernel
theorem dX11_wrong_14 : decode cX11_wrong 14 = .ok (.invokestatic 75, 3) := by decide +kernel
theorem dX11_wrong_17 : decode cX11_wrong 17 = .ok (.ifCond .eq 12, 3) := by decide +kernel
theorem dX11_wrong_20 : decode cX11_wrong 20 = .ok (.aload_n 0, 1) := by decide +kernel
theorem dX11_wrong_21 : decode cX11_wrong 21 = .ok (.iload_n 1, 1) := by decide +kernel
theorem dX11_wrong_22 : decode cX11_wrong 22 = .ok (.iload_n 2, 1) := by decide +kernel
theorem dX11_wrong_23 : decode cX11_wrong 23 = .ok (.invokevirtual 203, 3) := by decide +kernel
theorem dX11_wrong_26 : decode cX11_wrong 26 = .ok (.goto 5, 3) := by decide +kernel
theorem dX11_wrong_29 : decode cX11_wrong 29 = .ok (.bipush (-2), 2) := by decide +kernel
theorem dX11_wrong_31 : decode cX11_wrong 31 = .ok (.ireturn, 1) := by decide +kernel
theorem dX11_lineNow_0 : decode cX11_lineNow 0 = .ok (.aload_n 0, 1) := by decide +kernel
theorem dX11_lineNow_1 : decode cX11_lineNow 1 = .ok (.getfield 200, 3) := by decide +kernel
theorem dX11_lineNow_4 : decode cX11_lineNow 4 = .ok (.ifCond .ne 6, 3) := by decide +kernel
theorem dX11_lineNow_7 : decode cX11_lineNow 7 = .ok (.bipush (-3), 2) := by decide +kernel
theorem dX11_lineNow_9 : decode cX11_lineNow 9 = .ok (.ireturn, 1) := by decide +kernel
theorem dX11_lineNow_10 : decode cX11_lineNow 10 = .ok (.iconst 0, 1) := by decide +kernel
theorem dX11_lineNow_11 : decode cX11_lineNow 11 = .ok (.istore_n 2, 1) := by decide +kernel
theorem dX11_lineNow_12 : decode cX11_lineNow 12 = .ok (.aload_n 0, 1) := by decide +kernel
theorem dX11_lineNow_13 : decode cX11_lineNow 13 = .ok (.iconst 0, 1) := by decide +kernel
theorem dX11_lineNow_14 : decode cX11_lineNow 14 = .ok (.iconst 0, 1) := by decide +kernel
theorem dX11_lineNow_15 : decode cX11_lineNow 15 = .ok (.invokevirtual 203, 3) := by decide +kernel
theorem dX11_lineNow_18 : decode cX11_lineNow 18 = .ok (.istore_n 3, 1) := by decide +kernel
theorem dX11_lineNow_19 : decode cX11_lineNow 19 = .ok (.iconst 1, 1) := by decide +kernel
theorem dX11_lineNow_20 : decode cX11_lineNow 20 = .ok (.istore 4, 2) := by decide +kernel
theorem dX11_lineNow_22 : decode cX11_lineNow 22 = .ok (.iload 4, 2) := by decide +kernel
theorem dX11_lineNow_24 : decode cX11_lineNow 24 = .ok (.sipush 610, 3) := by decide +kernel
theorem dX11_lineNow_27 : decode cX11_lineNow 27 = .ok (.if_icmp .ge 51, 3) := by decide +kernel
theorem dX11_lineNow_30 : decode cX11_lineNow 30 = .ok (.aload_n 0, 1) := by decide +kernel
theorem dX11_lineNow_31 : decode cX11_lineNow 31 = .ok (.iload 4, 2) := by decide +kernel
theorem dX11_lineNow_33 : decode cX11_lineNow 33 = .ok (.bipush 10, 2) := by decide +kernel
theorem dX11_lineNow_35 : decode cX11_lineNow 35 = .ok (.idiv, 1) := by decide +kernel
theorem dX11_lineNow_36 : decode cX11_lineNow 36 = .ok (.iload 4, 2) := by decide +kernel
theorem dX11_lineNow_38 : decode cX11_lineNow 38 = .ok (.bipush 10, 2) := by decide +kernel
theorem dX11_lineNow_40 : decode cX11_lineNow 40 = .ok (.irem, 1) := by decide +kernel
theorem dX11_lineNow_41 : decode cX11_lineNow 41 = .ok (.invokevirtual 203, 3) := by decide +kernel
theorem dX11_lineNow_44 : decode cX11_lineNow 44 = .ok (.istore 5, 2) := by decide +kernel
theorem dX11_lineNow_46 : decode cX11_lineNow 46 = .ok (.iload 5, 2) := by decide +kernel
theorem dX11_lineNow_48 : decode cX11_lineNow 48 = .ok (.iload_n 3, 1) := by decide +kernel
theorem dX11_lineNow_49 : decode cX11_lineNow 49 = .ok (.if_icmp .ge 8, 3) := by decide +kernel
theorem dX11_lineNow_52 : decode cX11_lineNow 52 = .ok (.iload 4, 2) := by decide +kernel
theorem dX11_lineNow_54 : decode cX11_lineNow 54 = .ok (.goto 4, 3) := by decide +kernel
theorem dX11_lineNow_57 : decode cX11_lineNow 57 = .ok (.iload_n 2, 1) := by decide +kernel
theorem dX11_lineNow_58 : decode cX11_lineNow 58 = .ok (.istore_n 2, 1) := by decide +kernel
theorem dX11_lineNow_59 : decode cX11_lineNow 59 = .ok (.iload 5, 2) := by decide +kernel
theorem dX11_lineNow_61 : decode cX11_lineNow 61 = .ok (.iload_n 3, 1) := by decide +kernel
theorem dX11_lineNow_62 : decode cX11_lineNow 62 = .ok (.if_icmp .ge 8, 3) := by decide +kernel
theorem dX11_lineNow_65 : decode cX11_lineNow 65 = .ok (.iload 5, 2) := by decide +kernel
theorem dX11_lineNow_67 : decode cX11_lineNow 67 = .ok (.goto 4, 3) := by decide +kernel
theorem dX11_lineNow_70 : decode cX11_lineNow 70 = .ok (.iload_n 3, 1) := by decide +kernel
theorem dX11_lineNow_71 : decode cX11_lineNow 71 = .ok (.istore_n 3, 1) := by decide +kernel
theorem dX11_lineNow_72 : decode cX11_lineNow 72 = .ok (.iinc 4 1, 3) := by decide +kernel
theorem dX11_lineNow_75 : decode cX11_lineNow 75 = .ok (.goto (-53), 3) := by decide +kernel
theorem dX11_lineNow_78 : decode cX11_lineNow 78 = .ok (.iload_n 1, 1) := by decide +kernel
theorem dX11_lineNow_79 : decode cX11_lineNow 79 = .ok (.ifCond .ne 10, 3) := by decide +kernel
theorem dX11_lineNow_82 : decode cX11_lineNow 82 = .ok (.iload_n 2, 1) := by decide +kernel
theorem dX11_lineNow_83 : decode cX11_lineNow 83 = .ok (.bipush 10, 2) := by decide +kernel
theorem dX11_lineNow_85 : decode cX11_lineNow 85 = .ok (.idiv, 1) := by decide +kernel
theorem dX11_lineNow_86 : decode cX11_lineNow 86 = .ok (.goto 16, 3) := by decide +kernel
theorem dX11_lineNow_89 : decode cX11_lineNow 89 = .ok (.iload_n 1, 1) := by decide +kernel
theorem dX11_lineNow_90 : decode cX11_lineNow 90 = .ok (.iconst 1, 1) := by decide +kernel
theorem dX11_lineNow_91 : decode cX11_lineNow 91 = .ok (.if_icmp .ne 10, 3) := by decide +kernel
theorem dX11_lineNow_94 : decode cX11_lineNow 94 = .ok (.iload_n 2, 1) := by decide +kernel
theorem dX11_lineNow_95 : decode cX11_lineNow 95 = .ok (.bipush 10, 2) := by decide +kernel
theorem dX11_lineNow_97 : decode cX11_lineNow 97 = .ok (.irem, 1) := by decide +kernel
theorem dX11_lineNow_98 : decode cX11_lineNow 98 = .ok (.goto 4, 3) := by decide +kernel
theorem dX11_lineNow_101 : decode cX11_lineNow 101 = .ok (.iload_n 3, 1) := by decide +kernel
theorem dX11_lineNow_102 : decode cX11_lineNow 102 = .ok (.ireturn, 1) := by decide +kernel
theorem dX11_line_0 : decode cX11_line 0 = .ok (.iload_n 1, 1) := by decide +kernel
theorem dX11_line_1 : decode cX11_line 1 = .ok (.iconst 0, 1) := by decide +kernel
theorem dX11_line_2 : decode cX11_line 2 = .ok (.iconst 2, 1) := by decide +kernel
theorem dX11_line_3 : decode cX11_line 3 = .ok (.invokestatic 75, 3) := by decide +kernel
theorem dX11_line_6 : decode cX11_line 6 = .ok (.ifCond .eq 11, 3) := by decide +kernel
theorem dX11_line_9 : decode cX11_line 9 = .ok (.aload_n 0, 1) := by decide +kernel
theorem dX11_line_10 : decode cX11_line 10 = .ok (.iload_n 1, 1) := by decide +kernel
theorem dX11_line_11 : decode cX11_line 11 = .ok (.invokevirtual 206, 3) := by decide +kernel
theorem dX11_line_14 : decode cX11_line 14 = .ok (.goto 5, 3) := by decide +kernel
theorem dX11_line_17 : decode cX11_line 17 = .ok (.bipush (-2), 2) := by decide +kernel
theorem dX11_line_19 : decode cX11_line 19 = .ok (.ireturn, 1) := by decide +kernel
theorem dX11_bent_0 : decode cX11_bent 0 = .ok (.iload_n 1, 1) := by decide +kernel
theorem dX11_bent_1 : decode cX11_bent 1 = .ok (.invokestatic 135, 3) := by decide +kernel
theorem dX11_bent_4 : decode cX11_bent 4 = .ok (.ifCond .eq 12, 3) := by decide +kernel
theorem dX11_bent_7 : decode cX11_bent 7 = .ok (.iload_n 2, 1) := by decide +kernel
theorem dX11_bent_8 : decode cX11_bent 8 = .ok (.iconst 0, 1) := by decide +kernel
theorem dX11_bent_9 : decode cX11_bent 9 = .ok (.iconst 2, 1) := by decide +kernel
theorem dX11_bent_10 : decode cX11_bent 10 = .ok (.invokestatic 75, 3) := by decide +kernel
theorem dX11_bent_13 : decode cX11_bent 13 = .ok (.ifCond .ne 6, 3) := by decide +kernel
theorem dX11_bent_16 : decode cX11_bent 16 = .ok (.bipush (-2), 2) := by decide +kernel
theorem dX11_bent_18 : decode cX11_bent 18 = .ok (.ireturn, 1) := by decide +kernel
theorem dX11_bent_19 : decode cX11_bent 19 = .ok (.aload_n 0, 1) := by decide +kernel
theorem dX11_bent_20 : decode cX11_bent 20 = .ok (.getfield 49, 3) := by decide +kernel
theorem dX11_bent_23 : decode cX11_bent 23 = .ok (.iload_n 1, 1) := by decide +kernel
theorem dX11_bent_24 : decode cX11_bent 24 = .ok (.baload, 1) := by decide +kernel
theorem dX11_bent_25 : decode cX11_bent 25 = .ok (.ifCond .ne 9, 3) := by decide +kernel
theorem dX11_bent_28 : decode cX11_bent 28 = .ok (.aload_n 0, 1) := by decide +kernel
theorem dX11_bent_29 : decode cX11_bent 29 = .ok (.iconst 1, 1) := by decide +kernel
theorem dX11_bent_30 : decode cX11_bent 30 = .ok (.invokevirtual 138, 3) := by decide +kernel
theorem dX11_bent_33 : decode cX11_bent 33 = .ok (.ireturn, 1) := by decide +kernel
theorem dX11_bent_34 : decode cX11_bent 34 = .ok (.aload_n 0, 1) := by decide +kernel
theorem dX11_bent_35 : decode cX11_bent 35 = .ok (.getfield 56, 3) := by decide +kernel
theorem dX11_bent_38 : decode cX11_bent 38 = .ok (.iload_n 1, 1) := by decide +kernel
theorem dX11_bent_39 : decode cX11_bent 39 = .ok (.iaload, 1) := by decide +kernel
theorem dX11_bent_40 : decode cX11_bent 40 = .ok (.ifCond .ne 6, 3) := by decide +kernel
theorem dX11_bent_43 : decode cX11_bent 43 = .ok (.bipush (-3), 2) := by decide +kernel
theorem dX11_bent_45 : decode cX11_bent 45 = .ok (.ireturn, 1) := by decide +kernel
theorem dX11_bent_46 : decode cX11_bent 46 = .ok (.iconst 0, 1) := by decide +kernel
theorem dX11_bent_47 : decode cX11_bent 47 = .ok (.istore_n 3, 1) := by decide +kernel
theorem dX11_bent_48 : decode cX11_bent 48 = .ok (.ldc 141, 2) := by decide +kernel
theorem dX11_bent_50 : decode cX11_bent 50 = .ok (.istore 4, 2) := by decide +kernel
theorem dX11_bent_52 : decode cX11_bent 52 = .ok (.iconst 0, 1) := by decide +kernel
theorem dX11_bent_53 : decode cX11_bent 53 = .ok (.istore 5, 2) := by decide +kernel
theorem dX11_bent_55 : decode cX11_bent 55 = .ok (.iload 5, 2) := by decide +kernel
theorem dX11_bent_57 : decode cX11_bent 57 = .ok (.sipush 3600, 3) := by decide +kernel
theorem dX11_bent_60 : decode cX11_bent 60 = .ok (.if_icmp .ge 115, 3) := by decide +kernel
theorem dX11_bent_63 : decode cX11_bent 63 = .ok (.iconst 0, 1) := by decide +kernel
theorem dX11_bent_64 : decode cX11_bent 64 = .ok (.istore 6, 2) := by decide +kernel
theorem dX11_bent_66 : decode cX11_bent 66 = .ok (.iconst 0, 1) := by decide +kernel
theorem dX11_bent_67 : decode cX11_bent 67 = .ok (.istore 7, 2) := by decide +kernel
theorem dX11_bent_69 : decode cX11_bent 69 = .ok (.iload 7, 2) := by decide +kernel
theorem dX11_bent_71 : decode cX11_bent 71 = .ok (.aload_n 0, 1) := by decide +kernel
theorem dX11_bent_72 : decode cX11_bent 72 = .ok (.getfield 56, 3) := by decide +kernel
theorem dX11_bent_75 : decode cX11_bent 75 = .ok (.iload_n 1, 1) := by decide +kernel
theorem dX11_bent_76 : decode cX11_bent 76 = .ok (.iaload, 1) := by decide +kernel
theorem dX11_bent_77 : decode cX11_bent 77 = .ok (.if_icmp .ge 62, 3) := by decide +kernel
theorem dX11_bent_80 : decode cX11_bent 80 = .ok (.aload_n 0, 1) := by decide +kernel
theorem dX11_bent_81 : decode cX11_bent 81 = .ok (.getfield 59, 3) := by decide +kernel
theorem dX11_bent_84 : decode cX11_bent 84 = .ok (.bipush 60, 2) := by decide +kernel
theorem dX11_bent_86 : decode cX11_bent 86 = .ok (.iload_n 1, 1) := by decide +kernel
theorem dX11_bent_87 : decode cX11_bent 87 = .ok (.imul, 1) := by decide +kernel
theorem dX11_bent_88 : decode cX11_bent 88 = .ok (.iload 7, 2) := by decide +kernel
theorem dX11_bent_90 : decode cX11_bent 90 = .ok (.iadd, 1) := by decide +kernel
theorem dX11_bent_91 : decode cX11_bent 91 = .ok (.iaload, 1) := by decide +kernel
theorem dX11_bent_92 : decode cX11_bent 92 = .ok (.bipush 60, 2) := by decide +kernel
theorem dX11_bent_94 : decode cX11_bent 94 = .ok (.irem, 1) := by decide +kernel
theorem dX11_bent_95 : decode cX11_bent 95 = .ok (.bipush 60, 2) := by decide +kernel
theorem dX11_bent_97 : decode cX11_bent 97 = .ok (.iadd, 1) := by decide +kernel
theorem dX11_bent_98 : decode cX11_bent 98 = .ok (.bipush 60, 2) := by decide +kernel
theorem dX11_bent_100 : decode cX11_bent 100 = .ok (.irem, 1) := by decide +kernel
theorem dX11_bent_101 : decode cX11_bent 101 = .ok (.istore 8, 2) := by decide +kernel
theorem dX11_bent_103 : decode cX11_bent 103 = .ok (.iload 6, 2) := by decide +kernel
theorem dX11_bent_105 : decode cX11_bent 105 = .ok (.iload 5, 2) := by decide +kernel
theorem dX11_bent_107 : decode cX11_bent 107 = .ok (.bipush 60, 2) := by decide +kernel
theorem dX11_bent_109 : decode cX11_bent 109 = .ok (.irem, 1) := by decide +kernel
theorem dX11_bent_110 : decode cX11_bent 110 = .ok (.iload 5, 2) := by decide +kernel
theorem dX11_bent_112 : decode cX11_bent 112 = .ok (.bipush 60, 2) := by decide +kernel
theorem dX11_bent_114 : decode cX11_bent 114 = .ok (.idiv, 1) := by decide +kernel
theorem dX11_bent_115 : decode cX11_bent 115 = .ok (.iload 7, 2) := by decide +kernel
theorem dX11_bent_117 : decode cX11_bent 117 = .ok (.imul, 1) := by decide +kernel
theorem dX11_bent_118 : decode cX11_bent 118 = .ok (.iadd, 1) := by decide +kernel
theorem dX11_bent_119 : decode cX11_bent 119 = .ok (.bipush 60, 2) := by decide +kernel
theorem dX11_bent_121 : decode cX11_bent 121 = .ok (.irem, 1) := by decide +kernel
theorem dX11_bent_122 : decode cX11_bent 122 = .ok (.iload 8, 2) := by decide +kernel
theorem dX11_bent_124 : decode cX11_bent 124 = .ok (.invokestatic 159, 3) := by decide +kernel
theorem dX11_bent_127 : decode cX11_bent 127 = .ok (.invokestatic 67, 3) := by decide +kernel
theorem dX11_bent_130 : decode cX11_bent 130 = .ok (.iadd, 1) := by decide +kernel
theorem dX11_bent_131 : decode cX11_bent 131 = .ok (.istore 6, 2) := by decide +kernel
theorem dX11_bent_133 : decode cX11_bent 133 = .ok (.iinc 7 1, 3) := by decide +kernel
theorem dX11_bent_136 : decode cX11_bent 136 = .ok (.goto (-67), 3) := by decide +kernel
theorem dX11_bent_139 : decode cX11_bent 139 = .ok (.iload 6, 2) := by decide +kernel
theorem dX11_bent_141 : decode cX11_bent 141 = .ok (.iload 4, 2) := by decide +kernel
theorem dX11_bent_143 : decode cX11_bent 143 = .ok (.if_icmp .ge 8, 3) := by decide +kernel
theorem dX11_bent_146 : decode cX11_bent 146 = .ok (.iload 5, 2) := by decide +kernel
theorem dX11_bent_148 : decode cX11_bent 148 = .ok (.goto 4, 3) := by decide +kernel
theorem dX11_bent_151 : decode cX11_bent 151 = .ok (.iload_n 3, 1) := by decide +kernel
theorem dX11_bent_152 : decode cX11_bent 152 = .ok (.istore_n 3, 1) := by decide +kernel
theorem dX11_bent_153 : decode cX11_bent 153 = .ok (.iload 6, 2) := by decide +kernel
theorem dX11_bent_155 : decode cX11_bent 155 = .ok (.iload 4, 2) := by decide +kernel
theorem dX11_bent_157 : decode cX11_bent 157 = .ok (.if_icmp .ge 8, 3) := by decide +kernel
theorem dX11_bent_160 : decode cX11_bent 160 = .ok (.iload 6, 2) := by decide +kernel
theorem dX11_bent_162 : decode cX11_bent 162 = .ok (.goto 5, 3) := by decide +kernel
theorem dX11_bent_165 : decode cX11_bent 165 = .ok (.iload 4, 2) := by decide +kernel
theorem dX11_bent_167 : decode cX11_bent 167 = .ok (.istore 4, 2) := by decide +kernel
theorem dX11_bent_169 : decode cX11_bent 169 = .ok (.iinc 5 1, 3) := by decide +kernel
theorem dX11_bent_172 : decode cX11_bent 172 = .ok (.goto (-117), 3) := by decide +kernel
theorem dX11_bent_175 : decode cX11_bent 175 = .ok (.iload_n 2, 1) := by decide +kernel
theorem dX11_bent_176 : decode cX11_bent 176 = .ok (.ifCond .ne 10, 3) := by decide +kernel
theorem dX11_bent_179 : decode cX11_bent 179 = .ok (.iload_n 3, 1) := by decide +kernel
theorem dX11_bent_180 : decode cX11_bent 180 = .ok (.bipush 60, 2) := by decide +kernel
theorem dX11_bent_182 : decode cX11_bent 182 = .ok (.idiv, 1) := by decide +kernel
theorem dX11_bent_183 : decode cX11_bent 183 = .ok (.goto 17, 3) := by decide +kernel
theorem dX11_bent_186 : decode cX11_bent 186 = .ok (.iload_n 2, 1) := by decide +kernel
theorem dX11_bent_187 : decode cX11_bent 187 = .ok (.iconst 1, 1) := by decide +kernel
theorem dX11_bent_188 : decode cX11_bent 188 = .ok (.if_icmp .ne 10, 3) := by decide +kernel
theorem dX11_bent_191 : decode cX11_bent 191 = .ok (.iload_n 3, 1) := by decide +kernel
theorem dX11_bent_192 : decode cX11_bent 192 = .ok (.bipush 60, 2) := by decide +kernel
theorem dX11_bent_194 : decode cX11_bent 194 = .ok (.irem, 1) := by decide +kernel
theorem dX11_bent_195 : decode cX11_bent 195 = .ok (.goto 5, 3) := by decide +kernel
theorem dX11_bent_198 : decode cX11_bent 198 = .ok (.iload 4, 2) := by decide +kernel
theorem dX11_bent_200 : decode cX11_bent 200 = .ok (.ireturn, 1) := by decide +kernel
theorem dX11_meets_0 : decode cX11_meets 0 = .ok (.aload_n 0, 1) := by decide +kernel
theorem dX11_meets_1 : decode cX11_meets 1 = .ok (.iload_n 1, 1) := by decide +kernel
theorem dX11_meets_2 : decode cX11_meets 2 = .ok (.putfield 209, 3) := by decide +kernel
theorem dX11_meets_5 : decode cX11_meets 5 = .ok (.bipush (-10), 2) := by decide +kernel
theorem dX11_meets_7 : decode cX11_meets 7 = .ok (.iload_n 1, 1) := by decide +kernel
theorem dX11_meets_8 : decode cX11_meets 8 = .ok (.isub, 1) := by decide +kernel
theorem dX11_meets_9 : decode cX11_meets 9 = .ok (.ireturn, 1) := by decide +kernel
theorem dX11_isSheet_0 : decode cX11_isSheet 0 = .ok (.iload_n 0, 1) := by decide +kernel
theorem dX11_isSheet_1 : decode cX11_isSheet 1 = .ok (.iconst 0, 1) := by decide +kernel
theorem dX11_isSheet_2 : decode cX11_isSheet 2 = .ok (.iconst 3, 1) := by decide +kernel
theorem dX11_isSheet_3 : decode cX11_isSheet 3 = .ok (.invokestatic 75, 3) := by decide +kernel
theorem dX11_isSheet_6 : decode cX11_isSheet 6 = .ok (.ireturn, 1) := by decide +kernel
theorem dX11_sheet_0 : decode cX11_sheet 0 = .ok (.iload_n 1, 1) := by decide +kernel
theorem dX11_sheet_1 : decode cX11_sheet 1 = .ok (.invokestatic 135, 3) := by decide +kernel
theorem dX11_sheet_4 : decode cX11_sheet 4 = .ok (.ifCond .eq 18, 3) := by decide +kernel
theorem dX11_sheet_7 : decode cX11_sheet 7 = .ok (.iload_n 2, 1) := by decide +kernel
theorem dX11_sheet_8 : decode cX11_sheet 8 = .ok (.iconst 0, 1) := by decide +kernel
theorem dX11_sheet_9 : decode cX11_sheet 9 = .ok (.iconst 2, 1) := by decide +kernel
theorem dX11_sheet_10 : decode cX11_sheet 10 = .ok (.invokestatic 75, 3) := by decide +kernel
theorem dX11_sheet_13 : decode cX11_sheet 13 = .ok (.ifCond .eq 9, 3) := by decide +kernel
theorem dX11_sheet_16 : decode cX11_sheet 16 = .ok (.iload_n 3, 1) := by decide +kernel
theorem dX11_sheet_17 : decode cX11_sheet 17 = .ok (.bipush 60, 2) := by decide +kernel
theorem dX11_sheet_19 : decode cX11_sheet 19 = .ok (.if_icmp .le 6, 3) := by decide +kernel
theorem dX11_sheet_22 : decode cX11_sheet 22 = .ok (.bipush (-2), 2) := by decide +kernel
theorem dX11_sheet_24 : decode cX11_sheet 24 = .ok (.ireturn, 1) := by decide +kernel
theorem dX11_sheet_25 : decode cX11_sheet 25 = .ok (.iload_n 3, 1) := by decide +kernel
theorem dX11_sheet_26 : decode cX11_sheet 26 = .ok (.ifCond .ge 9, 3) := by decide +kernel
theorem dX11_sheet_29 : decode cX11_sheet 29 = .ok (.aload_n 0, 1) := by decide +kernel
theorem dX11_sheet_30 : decode cX11_sheet 30 = .ok (.iconst 5, 1) := by decide +kernel
theorem dX11_sheet_31 : decode cX11_sheet 31 = .ok (.invokevirtual 138, 3) := by decide +kernel
theorem dX11_sheet_34 : decode cX11_sheet 34 = .ok (.ireturn, 1) := by decide +kernel
theorem dX11_sheet_35 : decode cX11_sheet 35 = .ok (.aload_n 0, 1) := by decide +kernel
theorem dX11_sheet_36 : decode cX11_sheet 36 = .ok (.getfield 49, 3) := by decide +kernel
theorem dX11_sheet_39 : decode cX11_sheet 39 = .ok (.iload_n 1, 1) := by decide +kernel
theorem dX11_sheet_40 : decode cX11_sheet 40 = .ok (.iconst 1, 1) := by decide +kernel
theorem dX11_sheet_41 : decode cX11_sheet 41 = .ok (.bastore, 1) := by decide +kernel
theorem dX11_sheet_42 : decode cX11_sheet 42 = .ok (.aload_n 0, 1) := by decide +kernel
theorem dX11_sheet_43 : decode cX11_sheet 43 = .ok (.getfield 53, 3) := by decide +kernel
theorem dX11_sheet_46 : decode cX11_sheet 46 = .ok (.iload_n 1, 1) := by decide +kernel
theorem dX11_sheet_47 : decode cX11_sheet 47 = .ok (.iload_n 2, 1) := by decide +kernel
theorem dX11_sheet_48 : decode cX11_sheet 48 = .ok (.iastore, 1) := by decide +kernel
theorem dX11_sheet_49 : decode cX11_sheet 49 = .ok (.aload_n 0, 1) := by decide +kernel
theorem dX11_sheet_50 : decode cX11_sheet 50 = .ok (.getfield 56, 3) := by decide +kernel
theorem dX11_sheet_53 : decode cX11_sheet 53 = .ok (.iload_n 1, 1) := by decide +kernel
theorem dX11_sheet_54 : decode cX11_sheet 54 = .ok (.iload_n 3, 1) := by decide +kernel
theorem dX11_sheet_55 : decode cX11_sheet 55 = .ok (.iastore, 1) := by decide +kernel
theorem dX11_sheet_56 : decode cX11_sheet 56 = .ok (.iconst 0, 1) := by decide +kernel
theorem dX11_sheet_57 : decode cX11_sheet 57 = .ok (.istore 4, 2) := by decide +kernel
theorem dX11_sheet_59 : decode cX11_sheet 59 = .ok (.iload 4, 2) := by decide +kernel
theorem dX11_sheet_61 : decode cX11_sheet 61 = .ok (.bipush 60, 2) := by decide +kernel
theorem dX11_sheet_63 : decode cX11_sheet 63 = .ok (.if_icmp .ge 22, 3) := by decide +kernel
theorem dX11_sheet_66 : decode cX11_sheet 66 = .ok (.aload_n 0, 1) := by decide +kernel
theorem dX11_sheet_67 : decode cX11_sheet 67 = .ok (.getfield 59, 3) := by decide +kernel
theorem dX11_sheet_70 : decode cX11_sheet 70 = .ok (.bipush 60, 2) := by decide +kernel
theorem dX11_sheet_72 : decode cX11_sheet 72 = .ok (.iload_n 1, 1) := by decide +kernel
theorem dX11_sheet_73 : decode cX11_sheet 73 = .ok (.imul, 1) := by decide +kernel
theorem dX11_sheet_74 : decode cX11_sheet 74 = .ok (.iload 4, 2) := by decide +kernel
theorem dX11_sheet_76 : decode cX11_sheet 76 = .ok (.iadd, 1) := by decide +kernel
theorem dX11_sheet_77 : decode cX11_sheet 77 = .ok (.iconst 0, 1) := by decide +kernel
theorem dX11_sheet_78 : decode cX11_sheet 78 = .ok (.iastore, 1) := by decide +kernel
theorem dX11_sheet_79 : decode cX11_sheet 79 = .ok (.iinc 4 1, 3) := by decide +kernel
theorem dX11_sheet_82 : decode cX11_sheet 82 = .ok (.goto (-23), 3) := by decide +kernel
theorem dX11_sheet_85 : decode cX11_sheet 85 = .ok (.iload_n 3, 1) := by decide +kernel
theorem dX11_sheet_86 : decode cX11_sheet 86 = .ok (.ireturn, 1) := by decide +kernel
theorem dX11_lose_0 : decode cX11_lose 0 = .ok (.iload_n 1, 1) := by decide +kernel
theorem dX11_lose_1 : decode cX11_lose 1 = .ok (.invokestatic 135, 3) := by decide +kernel
theorem dX11_lose_4 : decode cX11_lose 4 = .ok (.ifCond .ne 6, 3) := by decide +kernel
theorem dX11_lose_7 : decode cX11_lose 7 = .ok (.bipush (-2), 2) := by decide +kernel
theorem dX11_lose_9 : decode cX11_lose 9 = .ok (.ireturn, 1) := by decide +kernel
theorem dX11_lose_10 : decode cX11_lose 10 = .ok (.aload_n 0, 1) := by decide +kernel
theorem dX11_lose_11 : decode cX11_lose 11 = .ok (.getfield 49, 3) := by decide +kernel
theorem dX11_lose_14 : decode cX11_lose 14 = .ok (.iload_n 1, 1) := by decide +kernel
theorem dX11_lose_15 : decode cX11_lose 15 = .ok (.baload, 1) := by decide +kernel
theorem dX11_lose_16 : decode cX11_lose 16 = .ok (.ifCond .ne 9, 3) := by decide +kernel
theorem dX11_lose_19 : decode cX11_lose 19 = .ok (.aload_n 0, 1) := by decide +kernel
theorem dX11_lose_20 : decode cX11_lose 20 = .ok (.iconst 1, 1) := by decide +kernel
theorem dX11_lose_21 : decode cX11_lose 21 = .ok (.invokevirtual 138, 3) := by decide +kernel
theorem dX11_lose_24 : decode cX11_lose 24 = .ok (.ireturn, 1) := by decide +kernel
theorem dX11_lose_25 : decode cX11_lose 25 = .ok (.aload_n 0, 1) := by decide +kernel
theorem dX11_lose_26 : decode cX11_lose 26 = .ok (.getfield 49, 3) := by decide +kernel
theorem dX11_lose_29 : decode cX11_lose 29 = .ok (.iload_n 1, 1) := by decide +kernel
theorem dX11_lose_30 : decode cX11_lose 30 = .ok (.iconst 0, 1) := by decide +kernel
theorem dX11_lose_31 : decode cX11_lose 31 = .ok (.bastore, 1) := by decide +kernel
theorem dX11_lose_32 : decode cX11_lose 32 = .ok (.aload_n 0, 1) := by decide +kernel
theorem dX11_lose_33 : decode cX11_lose 33 = .ok (.getfield 56, 3) := by decide +kernel
theorem dX11_lose_36 : decode cX11_lose 36 = .ok (.iload_n 1, 1) := by decide +kernel
theorem dX11_lose_37 : decode cX11_lose 37 = .ok (.iaload, 1) := by decide +kernel
theorem dX11_lose_38 : decode cX11_lose 38 = .ok (.ireturn, 1) := by decide +kernel
theorem dX11_lacks_0 : decode cX11_lacks 0 = .ok (.aload_n 0, 1) := by decide +kernel
theorem dX11_lacks_1 : decode cX11_lacks 1 = .ok (.getfield 49, 3) := by decide +kernel
theorem dX11_lacks_4 : decode cX11_lacks 4 = .ok (.iload_n 1, 1) := by decide +kernel
theorem dX11_lacks_5 : decode cX11_lacks 5 = .ok (.baload, 1) := by decide +kernel
theorem dX11_lacks_6 : decode cX11_lacks 6 = .ok (.ifCond .ne 7, 3) := by decide +kernel
theorem dX11_lacks_9 : decode cX11_lacks 9 = .ok (.iconst 1, 1) := by decide +kernel
theorem dX11_lacks_10 : decode cX11_lacks 10 = .ok (.goto 38, 3) := by decide +kernel
theorem dX11_lacks_13 : decode cX11_lacks 13 = .ok (.aload_n 0, 1) := by decide +kernel
theorem dX11_lacks_14 : decode cX11_lacks 14 = .ok (.getfield 53, 3) := by decide +kernel
theorem dX11_lacks_17 : decode cX11_lacks 17 = .ok (.iload_n 1, 1) := by decide +kernel
theorem dX11_lacks_18 : decode cX11_lacks 18 = .ok (.iaload, 1) := by decide +kernel
theorem dX11_lacks_19 : decode cX11_lacks 19 = .ok (.iload_n 2, 1) := by decide +kernel
theorem dX11_lacks_20 : decode cX11_lacks 20 = .ok (.if_icmp .eq 7, 3) := by decide +kernel
theorem dX11_lacks_23 : decode cX11_lacks 23 = .ok (.iconst 3, 1) := by decide +kernel
theorem dX11_lacks_24 : decode cX11_lacks 24 = .ok (.goto 24, 3) := by decide +kernel
theorem dX11_lacks_27 : decode cX11_lacks 27 = .ok (.iload_n 3, 1) := by decide +kernel
theorem dX11_lacks_28 : decode cX11_lacks 28 = .ok (.iconst 0, 1) := by decide +kernel
theorem dX11_lacks_29 : decode cX11_lacks 29 = .ok (.aload_n 0, 1) := by decide +kernel
theorem dX11_lacks_30 : decode cX11_lacks 30 = .ok (.getfield 56, 3) := by decide +kernel
theorem dX11_lacks_33 : decode cX11_lacks 33 = .ok (.iload_n 1, 1) := by decide +kernel
theorem dX11_lacks_34 : decode cX11_lacks 34 = .ok (.iaload, 1) := by decide +kernel
theorem dX11_lacks_35 : decode cX11_lacks 35 = .ok (.iconst 1, 1) := by decide +kernel
theorem dX11_lacks_36 : decode cX11_lacks 36 = .ok (.isub, 1) := by decide +kernel
theorem dX11_lacks_37 : decode cX11_lacks 37 = .ok (.invokestatic 75, 3) := by decide +kernel
theorem dX11_lacks_40 : decode cX11_lacks 40 = .ok (.ifCond .eq 7, 3) := by decide +kernel
theorem dX11_lacks_43 : decode cX11_lacks 43 = .ok (.iconst 0, 1) := by decide +kernel
theorem dX11_lacks_44 : decode cX11_lacks 44 = .ok (.goto 4, 3) := by decide +kernel
theorem dX11_lacks_47 : decode cX11_lacks 47 = .ok (.iconst 2, 1) := by decide +kernel
theorem dX11_lacks_48 : decode cX11_lacks 48 = .ok (.ireturn, 1) := by decide +kernel
theorem dX11_keep_0 : decode cX11_keep 0 = .ok (.aload_n 0, 1) := by decide +kernel
theorem dX11_keep_1 : decode cX11_keep 1 = .ok (.getfield 59, 3) := by decide +kernel
theorem dX11_keep_4 : decode cX11_keep 4 = .ok (.bipush 60, 2) := by decide +kernel
theorem dX11_keep_6 : decode cX11_keep 6 = .ok (.iload_n 1, 1) := by decide +kernel
theorem dX11_keep_7 : decode cX11_keep 7 = .ok (.imul, 1) := by decide +kernel
theorem dX11_keep_8 : decode cX11_keep 8 = .ok (.iload_n 2, 1) := by decide +kernel
theorem dX11_keep_9 : decode cX11_keep 9 = .ok (.iadd, 1) := by decide +kernel
theorem dX11_keep_10 : decode cX11_keep 10 = .ok (.aload_n 0, 1) := by decide +kernel
theorem dX11_keep_11 : decode cX11_keep 11 = .ok (.getfield 53, 3) := by decide +kernel
theorem dX11_keep_14 : decode cX11_keep 14 = .ok (.iload_n 1, 1) := by decide +kernel
theorem dX11_keep_15 : decode cX11_keep 15 = .ok (.iaload, 1) := by decide +kernel
theorem dX11_keep_16 : decode cX11_keep 16 = .ok (.ifCond .ne 8, 3) := by decide +kernel
theorem dX11_keep_19 : decode cX11_keep 19 = .ok (.iload_n 3, 1) := by decide +kernel
theorem dX11_keep_20 : decode cX11_keep 20 = .ok (.i2b, 1) := by decide +kernel
theorem dX11_keep_21 : decode cX11_keep 21 = .ok (.goto 19, 3) := by decide +kernel
theorem dX11_keep_24 : decode cX11_keep 24 = .ok (.aload_n 0, 1) := by decide +kernel
theorem dX11_keep_25 : decode cX11_keep 25 = .ok (.getfield 53, 3) := by decide +kernel
theorem dX11_keep_28 : decode cX11_keep 28 = .ok (.iload_n 1, 1) := by decide +kernel
theorem dX11_keep_29 : decode cX11_keep 29 = .ok (.iaload, 1) := by decide +kernel
theorem dX11_keep_30 : decode cX11_keep 30 = .ok (.iconst 1, 1) := by decide +kernel
theorem dX11_keep_31 : decode cX11_keep 31 = .ok (.if_icmp .ne 8, 3) := by decide +kernel
theorem dX11_keep_34 : decode cX11_keep 34 = .ok (.iload_n 3, 1) := by decide +kernel
theorem dX11_keep_35 : decode cX11_keep 35 = .ok (.i2s, 1) := by decide +kernel
theorem dX11_keep_36 : decode cX11_keep 36 = .ok (.goto 4, 3) := by decide +kernel
theorem dX11_keep_39 : decode cX11_keep 39 = .ok (.iload_n 3, 1) := by decide +kernel
theorem dX11_keep_40 : decode cX11_keep 40 = .ok (.iastore, 1) := by decide +kernel
theorem dX11_keep_41 : decode cX11_keep 41 = .ok (.return_, 1) := by decide +kernel
theorem dX11_put_0 : decode cX11_put 0 = .ok (.iload_n 1, 1) := by decide +kernel
theorem dX11_put_1 : decode cX11_put 1 = .ok (.invokestatic 135, 3) := by decide +kernel
theorem dX11_put_4 : decode cX11_put 4 = .ok (.ifCond .eq 12, 3) := by decide +kernel
theorem dX11_put_7 : decode cX11_put 7 = .ok (.iload_n 2, 1) := by decide +kernel
theorem dX11_put_8 : decode cX11_put 8 = .ok (.iconst 0, 1) := by decide +kernel
theorem dX11_put_9 : decode cX11_put 9 = .ok (.iconst 2, 1) := by decide +kernel
theorem dX11_put_10 : decode cX11_put 10 = .ok (.invokestatic 75, 3) := by decide +kernel
theorem dX11_put_13 : decode cX11_put 13 = .ok (.ifCond .ne 6, 3) := by decide +kernel
theorem dX11_put_16 : decode cX11_put 16 = .ok (.bipush (-2), 2) := by decide +kernel
theorem dX11_put_18 : decode cX11_put 18 = .ok (.ireturn, 1) := by decide +kernel
theorem dX11_put_19 : decode cX11_put 19 = .ok (.aload_n 0, 1) := by decide +kernel
theorem dX11_put_20 : decode cX11_put 20 = .ok (.iload_n 1, 1) := by decide +kernel
theorem dX11_put_21 : decode cX11_put 21 = .ok (.iload_n 2, 1) := by decide +kernel
theorem dX11_put_22 : decode cX11_put 22 = .ok (.iload_n 3, 1) := by decide +kernel
theorem dX11_put_23 : decode cX11_put 23 = .ok (.invokevirtual 212, 3) := by decide +kernel
theorem dX11_put_26 : decode cX11_put 26 = .ok (.istore 5, 2) := by decide +kernel
theorem dX11_put_28 : decode cX11_put 28 = .ok (.iload 5, 2) := by decide +kernel
theorem dX11_put_30 : decode cX11_put 30 = .ok (.ifCond .le 10, 3) := by decide +kernel
theorem dX11_put_33 : decode cX11_put 33 = .ok (.aload_n 0, 1) := by decide +kernel
theorem dX11_put_34 : decode cX11_put 34 = .ok (.iload 5, 2) := by decide +kernel
theorem dX11_put_36 : decode cX11_put 36 = .ok (.invokevirtual 138, 3) := by decide +kernel
theorem dX11_put_39 : decode cX11_put 39 = .ok (.ireturn, 1) := by decide +kernel
theorem dX11_put_40 : decode cX11_put 40 = .ok (.aload_n 0, 1) := by decide +kernel
theorem dX11_put_41 : decode cX11_put 41 = .ok (.iload_n 1, 1) := by decide +kernel
theorem dX11_put_42 : decode cX11_put 42 = .ok (.iload_n 3, 1) := by decide +kernel
theorem dX11_put_43 : decode cX11_put 43 = .ok (.iload 4, 2) := by decide +kernel
theorem dX11_put_45 : decode cX11_put 45 = .ok (.invokevirtual 215, 3) := by decide +kernel
theorem dX11_put_48 : decode cX11_put 48 = .ok (.iconst 1, 1) := by decide +kernel
theorem dX11_put_49 : decode cX11_put 49 = .ok (.ireturn, 1) := by decide +kernel
theorem dX11_get_0 : decode cX11_get 0 = .ok (.iload_n 1, 1) := by decide +kernel
theorem dX11_get_1 : decode cX11_get 1 = .ok (.invokestatic 135, 3) := by decide +kernel
theorem dX11_get_4 : decode cX11_get 4 = .ok (.ifCond .eq 12, 3) := by decide +kernel
theorem dX11_get_7 : decode cX11_get 7 = .ok (.iload_n 2, 1) := by decide +kernel
theorem dX11_get_8 : decode cX11_get 8 = .ok (.iconst 0, 1) := by decide +kernel
theorem dX11_get_9 : decode cX11_get 9 = .ok (.iconst 2, 1) := by decide +kernel
theorem dX11_get_10 : decode cX11_get 10 = .ok (.invokestatic 75, 3) := by decide +kernel
theorem dX11_get_13 : decode cX11_get 13 = .ok (.ifCond .ne 6, 3) := by decide +kernel
theorem dX11_get_16 : decode cX11_get 16 = .ok (.ldc 219, 2) := by decide +kernel
theorem dX11_get_18 : decode cX11_get 18 = .ok (.ireturn, 1) := by decide +kernel
theorem dX11_get_19 : decode cX11_get 19 = .ok (.aload_n 0, 1) := by decide +kernel
theorem dX11_get_20 : decode cX11_get 20 = .ok (.iload_n 1, 1) := by decide +kernel
theorem dX11_get_21 : decode cX11_get 21 = .ok (.iload_n 2, 1) := by decide +kernel
theorem dX11_get_22 : decode cX11_get 22 = .ok (.iload_n 3, 1) := by decide +kernel
theorem dX11_get_23 : decode cX11_get 23 = .ok (.invokevirtual 212, 3) := by decide +kernel
theorem dX11_get_26 : decode cX11_get 26 = .ok (.istore 4, 2) := by decide +kernel
theorem dX11_get_28 : decode cX11_get 28 = .ok (.iload 4, 2) := by decide +kernel
theorem dX11_get_30 : decode cX11_get 30 = .ok (.ifCond .le 12, 3) := by decide +kernel
theorem dX11_get_33 : decode cX11_get 33 = .ok (.aload_n 0, 1) := by decide +kernel
theorem dX11_get_34 : decode cX11_get 34 = .ok (.iload 4, 2) := by decide +kernel
theorem dX11_get_36 : decode cX11_get 36 = .ok (.putfield 209, 3) := by decide +kernel
theorem dX11_get_39 : decode cX11_get 39 = .ok (.ldc 219, 2) := by decide +kernel
theorem dX11_get_41 : decode cX11_get 41 = .ok (.ireturn, 1) := by decide +kernel
theorem dX11_get_42 : decode cX11_get 42 = .ok (.aload_n 0, 1) := by decide +kernel
theorem dX11_get_43 : decode cX11_get 43 = .ok (.getfield 59, 3) := by decide +kernel
theorem dX11_get_46 : decode cX11_get 46 = .ok (.bipush 60, 2) := by decide +kernel
theorem dX11_get_48 : decode cX11_get 48 = .ok (.iload_n 1, 1) := by decide +kernel
theorem dX11_get_49 : decode cX11_get 49 = .ok (.imul, 1) := by decide +kernel
theorem dX11_get_50 : decode cX11_get 50 = .ok (.iload_n 3, 1) := by decide +kernel
theorem dX11_get_51 : decode cX11_get 51 = .ok (.iadd, 1) := by decide +kernel
theorem dX11_get_52 : decode cX11_get 52 = .ok (.iaload, 1) := by decide +kernel
theorem dX11_get_53 : decode cX11_get 53 = .ok (.ireturn, 1) := by decide +kernel
theorem dX11_copy_0 : decode cX11_copy 0 = .ok (.iload_n 1, 1) := by decide +kernel
theorem dX11_copy_1 : decode cX11_copy 1 = .ok (.invokestatic 135, 3) := by decide +kernel
theorem dX11_copy_4 : decode cX11_copy 4 = .ok (.ifCond .eq 10, 3) := by decide +kernel
theorem dX11_copy_7 : decode cX11_copy 7 = .ok (.iload_n 3, 1) := by decide +kernel
theorem dX11_copy_8 : decode cX11_copy 8 = .ok (.invokestatic 135, 3) := by decide +kernel
theorem dX11_copy_11 : decode cX11_copy 11 = .ok (.ifCond .ne 6, 3) := by decide +kernel
theorem dX11_copy_14 : decode cX11_copy 14 = .ok (.bipush (-2), 2) := by decide +kernel
theorem dX11_copy_16 : decode cX11_copy 16 = .ok (.ireturn, 1) := by decide +kernel
theorem dX11_copy_17 : decode cX11_copy 17 = .ok (.aload_n 0, 1) := by decide +kernel
theorem dX11_copy_18 : decode cX11_copy 18 = .ok (.getfield 49, 3) := by decide +kernel
theorem dX11_copy_21 : decode cX11_copy 21 = .ok (.iload_n 1, 1) := by decide +kernel
theorem dX11_copy_22 : decode cX11_copy 22 = .ok (.baload, 1) := by decide +kernel
theorem dX11_copy_23 : decode cX11_copy 23 = .ok (.ifCond .eq 12, 3) := by decide +kernel
theorem dX11_copy_26 : decode cX11_copy 26 = .ok (.aload_n 0, 1) := by decide +kernel
theorem dX11_copy_27 : decode cX11_copy 27 = .ok (.getfield 49, 3) := by decide +kernel
theorem dX11_copy_30 : decode cX11_copy 30 = .ok (.iload_n 3, 1) := by decide +kernel
theorem dX11_copy_31 : decode cX11_copy 31 = .ok (.baload, 1) := by decide +kernel
theorem dX11_copy_32 : decode cX11_copy 32 = .ok (.ifCond .ne 9, 3) := by decide +kernel
theorem dX11_copy_35 : decode cX11_copy 35 = .ok (.aload_n 0, 1) := by decide +kernel
theorem dX11_copy_36 : decode cX11_copy 36 = .ok (.iconst 1, 1) := by decide +kernel
theorem dX11_copy_37 : decode cX11_copy 37 = .ok (.invokevirtual 138, 3) := by decide +kernel
theorem dX11_copy_40 : decode cX11_copy 40 = .ok (.ireturn, 1) := by decide +kernel
theorem dX11_copy_41 : decode cX11_copy 41 = .ok (.aload_n 0, 1) := by decide +kernel
theorem dX11_copy_42 : decode cX11_copy 42 = .ok (.getfield 53, 3) := by decide +kernel
theorem dX11_copy_45 : decode cX11_copy 45 = .ok (.iload_n 1, 1) := by decide +kernel
theorem dX11_copy_46 : decode cX11_copy 46 = .ok (.iaload, 1) := by decide +kernel
theorem dX11_copy_47 : decode cX11_copy 47 = .ok (.aload_n 0, 1) := by decide +kernel
theorem dX11_copy_48 : decode cX11_copy 48 = .ok (.getfield 53, 3) := by decide +kernel
theorem dX11_copy_51 : decode cX11_copy 51 = .ok (.iload_n 3, 1) := by decide +kernel
theorem dX11_copy_52 : decode cX11_copy 52 = .ok (.iaload, 1) := by decide +kernel
theorem dX11_copy_53 : decode cX11_copy 53 = .ok (.if_icmp .eq 9, 3) := by decide +kernel
theorem dX11_copy_56 : decode cX11_copy 56 = .ok (.aload_n 0, 1) := by decide +kernel
theorem dX11_copy_57 : decode cX11_copy 57 = .ok (.iconst 4, 1) := by decide +kernel
theorem dX11_copy_58 : decode cX11_copy 58 = .ok (.invokevirtual 138, 3) := by decide +kernel
theorem dX11_copy_61 : decode cX11_copy 61 = .ok (.ireturn, 1) := by decide +kernel
theorem dX11_copy_62 : decode cX11_copy 62 = .ok (.iload_n 2, 1) := by decide +kernel
theorem dX11_copy_63 : decode cX11_copy 63 = .ok (.ifCond .lt 48, 3) := by decide +kernel
theorem dX11_copy_66 : decode cX11_copy 66 = .ok (.iload 4, 2) := by decide +kernel
theorem dX11_copy_68 : decode cX11_copy 68 = .ok (.ifCond .lt 43, 3) := by decide +kernel
theorem dX11_copy_71 : decode cX11_copy 71 = .ok (.iload 5, 2) := by decide +kernel
theorem dX11_copy_73 : decode cX11_copy 73 = .ok (.ifCond .lt 38, 3) := by decide +kernel
theorem dX11_copy_76 : decode cX11_copy 76 = .ok (.iload_n 2, 1) := by decide +kernel
theorem dX11_copy_77 : decode cX11_copy 77 = .ok (.i2l, 1) := by decide +kernel
theorem dX11_copy_78 : decode cX11_copy 78 = .ok (.iload 5, 2) := by decide +kernel
theorem dX11_copy_80 : decode cX11_copy 80 = .ok (.i2l, 1) := by decide +kernel
theorem dX11_copy_81 : decode cX11_copy 81 = .ok (.ladd, 1) := by decide +kernel
theorem dX11_copy_82 : decode cX11_copy 82 = .ok (.aload_n 0, 1) := by decide +kernel
theorem dX11_copy_83 : decode cX11_copy 83 = .ok (.getfield 56, 3) := by decide +kernel
theorem dX11_copy_86 : decode cX11_copy 86 = .ok (.iload_n 1, 1) := by decide +kernel
theorem dX11_copy_87 : decode cX11_copy 87 = .ok (.iaload, 1) := by decide +kernel
theorem dX11_copy_88 : decode cX11_copy 88 = .ok (.i2l, 1) := by decide +kernel
theorem dX11_copy_89 : decode cX11_copy 89 = .ok (.lcmp, 1) := by decide +kernel
theorem dX11_copy_90 : decode cX11_copy 90 = .ok (.ifCond .gt 21, 3) := by decide +kernel
theorem dX11_copy_93 : decode cX11_copy 93 = .ok (.iload 4, 2) := by decide +kernel
theorem dX11_copy_95 : decode cX11_copy 95 = .ok (.i2l, 1) := by decide +kernel
theorem dX11_copy_96 : decode cX11_copy 96 = .ok (.iload 5, 2) := by decide +kernel
theorem dX11_copy_98 : decode cX11_copy 98 = .ok (.i2l, 1) := by decide +kernel
theorem dX11_copy_99 : decode cX11_copy 99 = .ok (.ladd, 1) := by decide +kernel
theorem dX11_copy_100 : decode cX11_copy 100 = .ok (.aload_n 0, 1) := by decide +kernel
theorem dX11_copy_101 : decode cX11_copy 101 = .ok (.getfield 56, 3) := by decide +kernel
theorem dX11_copy_104 : decode cX11_copy 104 = .ok (.iload_n 3, 1) := by decide +kernel
theorem dX11_copy_105 : decode cX11_copy 105 = .ok (.iaload, 1) := by decide +kernel
theorem dX11_copy_106 : decode cX11_copy 106 = .ok (.i2l, 1) := by decide +kernel
theorem dX11_copy_107 : decode cX11_copy 107 = .ok (.lcmp, 1) := by decide +kernel
theorem dX11_copy_108 : decode cX11_copy 108 = .ok (.ifCond .le 9, 3) := by decide +kernel
theorem dX11_copy_111 : decode cX11_copy 111 = .ok (.aload_n 0, 1) := by decide +kernel
theorem dX11_copy_112 : decode cX11_copy 112 = .ok (.iconst 2, 1) := by decide +kernel
theorem dX11_copy_113 : decode cX11_copy 113 = .ok (.invokevirtual 138, 3) := by decide +kernel
theorem dX11_copy_116 : decode cX11_copy 116 = .ok (.ireturn, 1) := by decide +kernel
theorem dX11_copy_117 : decode cX11_copy 117 = .ok (.iconst 0, 1) := by decide +kernel
theorem dX11_copy_118 : decode cX11_copy 118 = .ok (.istore 6, 2) := by decide +kernel
theorem dX11_copy_120 : decode cX11_copy 120 = .ok (.iload 6, 2) := by decide +kernel
theorem dX11_copy_122 : decode cX11_copy 122 = .ok (.iload 5, 2) := by decide +kernel
theorem dX11_copy_124 : decode cX11_copy 124 = .ok (.if_icmp .ge 30, 3) := by decide +kernel
theorem dX11_copy_127 : decode cX11_copy 127 = .ok (.aload_n 0, 1) := by decide +kernel
theorem dX11_copy_128 : decode cX11_copy 128 = .ok (.getfield 62, 3) := by decide +kernel
theorem dX11_copy_131 : decode cX11_copy 131 = .ok (.iload 6, 2) := by decide +kernel
theorem dX11_copy_133 : decode cX11_copy 133 = .ok (.aload_n 0, 1) := by decide +kernel
theorem dX11_copy_134 : decode cX11_copy 134 = .ok (.getfield 59, 3) := by decide +kernel
theorem dX11_copy_137 : decode cX11_copy 137 = .ok (.bipush 60, 2) := by decide +kernel
theorem dX11_copy_139 : decode cX11_copy 139 = .ok (.iload_n 1, 1) := by decide +kernel
theorem dX11_copy_140 : decode cX11_copy 140 = .ok (.imul, 1) := by decide +kernel
theorem dX11_copy_141 : decode cX11_copy 141 = .ok (.iload_n 2, 1) := by decide +kernel
theorem dX11_copy_142 : decode cX11_copy 142 = .ok (.iadd, 1) := by decide +kernel
theorem dX11_copy_143 : decode cX11_copy 143 = .ok (.iload 6, 2) := by decide +kernel
theorem dX11_copy_145 : decode cX11_copy 145 = .ok (.iadd, 1) := by decide +kernel
theorem dX11_copy_146 : decode cX11_copy 146 = .ok (.iaload, 1) := by decide +kernel
theorem dX11_copy_147 : decode cX11_copy 147 = .ok (.iastore, 1) := by decide +kernel
theorem dX11_copy_148 : decode cX11_copy 148 = .ok (.iinc 6 1, 3) := by decide +kernel
theorem dX11_copy_151 : decode cX11_copy 151 = .ok (.goto (-31), 3) := by decide +kernel
theorem dX11_copy_154 : decode cX11_copy 154 = .ok (.iconst 0, 1) := by decide +kernel
theorem dX11_copy_155 : decode cX11_copy 155 = .ok (.istore 6, 2) := by decide +kernel
theorem dX11_copy_157 : decode cX11_copy 157 = .ok (.iload 6, 2) := by decide +kernel
theorem dX11_copy_159 : decode cX11_copy 159 = .ok (.iload 5, 2) := by decide +kernel
theorem dX11_copy_161 : decode cX11_copy 161 = .ok (.if_icmp .ge 31, 3) := by decide +kernel
theorem dX11_copy_164 : decode cX11_copy 164 = .ok (.aload_n 0, 1) := by decide +kernel
theorem dX11_copy_165 : decode cX11_copy 165 = .ok (.getfield 59, 3) := by decide +kernel
theorem dX11_copy_168 : decode cX11_copy 168 = .ok (.bipush 60, 2) := by decide +kernel
theorem dX11_copy_170 : decode cX11_copy 170 = .ok (.iload_n 3, 1) := by decide +kernel
theorem dX11_copy_171 : decode cX11_copy 171 = .ok (.imul, 1) := by decide +kernel
theorem dX11_copy_172 : decode cX11_copy 172 = .ok (.iload 4, 2) := by decide +kernel
theorem dX11_copy_174 : decode cX11_copy 174 = .ok (.iadd, 1) := by decide +kernel
theorem dX11_copy_175 : decode cX11_copy 175 = .ok (.iload 6, 2) := by decide +kernel
theorem dX11_copy_177 : decode cX11_copy 177 = .ok (.iadd, 1) := by decide +kernel
theorem dX11_copy_178 : decode cX11_copy 178 = .ok (.aload_n 0, 1) := by decide +kernel
theorem dX11_copy_179 : decode cX11_copy 179 = .ok (.getfield 62, 3) := by decide +kernel
theorem dX11_copy_182 : decode cX11_copy 182 = .ok (.iload 6, 2) := by decide +kernel
theorem dX11_copy_184 : decode cX11_copy 184 = .ok (.iaload, 1) := by decide +kernel
theorem dX11_copy_185 : decode cX11_copy 185 = .ok (.iastore, 1) := by decide +kernel
theorem dX11_copy_186 : decode cX11_copy 186 = .ok (.iinc 6 1, 3) := by decide +kernel
theorem dX11_copy_189 : decode cX11_copy 189 = .ok (.goto (-32), 3) := by decide +kernel
theorem dX11_copy_192 : decode cX11_copy 192 = .ok (.iconst 1, 1) := by decide +kernel
theorem dX11_copy_193 : decode cX11_copy 193 = .ok (.ireturn, 1) := by decide +kernel
theorem dX11_write_0 : decode cX11_write 0 = .ok (.iload_n 1, 1) := by decide +kernel
theorem dX11_write_1 : decode cX11_write 1 = .ok (.invokestatic 79, 3) := by decide +kernel
theorem dX11_write_4 : decode cX11_write 4 = .ok (.ifCond .eq 17, 3) := by decide +kernel
theorem dX11_write_7 : decode cX11_write 7 = .ok (.iload_n 2, 1) := by decide +kernel
theorem dX11_write_8 : decode cX11_write 8 = .ok (.invokestatic 105, 3) := by decide +kernel
theorem dX11_write_11 : decode cX11_write 11 = .ok (.ifCond .eq 10, 3) := by decide +kernel
theorem dX11_write_14 : decode cX11_write 14 = .ok (.iload_n 3, 1) := by decide +kernel
theorem dX11_write_15 : decode cX11_write 15 = .ok (.invokestatic 135, 3) := by decide +kernel
theorem dX11_write_18 : decode cX11_write 18 = .ok (.ifCond .ne 6, 3) := by decide +kernel
theorem dX11_write_21 : decode cX11_write 21 = .ok (.bipush (-2), 2) := by decide +kernel
theorem dX11_write_23 : decode cX11_write 23 = .ok (.ireturn, 1) := by decide +kernel
theorem dX11_write_24 : decode cX11_write 24 = .ok (.aload_n 0, 1) := by decide +kernel
theorem dX11_write_25 : decode cX11_write 25 = .ok (.getfield 49, 3) := by decide +kernel
theorem dX11_write_28 : decode cX11_write 28 = .ok (.iload_n 3, 1) := by decide +kernel
theorem dX11_write_29 : decode cX11_write 29 = .ok (.baload, 1) := by decide +kernel
theorem dX11_write_30 : decode cX11_write 30 = .ok (.ifCond .ne 9, 3) := by decide +kernel
theorem dX11_write_33 : decode cX11_write 33 = .ok (.aload_n 0, 1) := by decide +kernel
theorem dX11_write_34 : decode cX11_write 34 = .ok (.iconst 1, 1) := by decide +kernel
theorem dX11_write_35 : decode cX11_write 35 = .ok (.invokevirtual 138, 3) := by decide +kernel
theorem dX11_write_38 : decode cX11_write 38 = .ok (.ireturn, 1) := by decide +kernel
theorem dX11_write_39 : decode cX11_write 39 = .ok (.aload_n 0, 1) := by decide +kernel
theorem dX11_write_40 : decode cX11_write 40 = .ok (.iload_n 1, 1) := by decide +kernel
theorem dX11_write_41 : decode cX11_write 41 = .ok (.invokevirtual 89, 3) := by decide +kernel
theorem dX11_write_44 : decode cX11_write 44 = .ok (.ifCond .ne 6, 3) := by decide +kernel
theorem dX11_write_47 : decode cX11_write 47 = .ok (.bipush (-3), 2) := by decide +kernel
theorem dX11_write_49 : decode cX11_write 49 = .ok (.ireturn, 1) := by decide +kernel
theorem dX11_write_50 : decode cX11_write 50 = .ok (.iconst 0, 1) := by decide +kernel
theorem dX11_write_51 : decode cX11_write 51 = .ok (.istore 4, 2) := by decide +kernel
theorem dX11_write_53 : decode cX11_write 53 = .ok (.iload 4, 2) := by decide +kernel
theorem dX11_write_55 : decode cX11_write 55 = .ok (.aload_n 0, 1) := by decide +kernel
theorem dX11_write_56 : decode cX11_write 56 = .ok (.getfield 56, 3) := by decide +kernel
theorem dX11_write_59 : decode cX11_write 59 = .ok (.iload_n 3, 1) := by decide +kernel
theorem dX11_write_60 : decode cX11_write 60 = .ok (.iaload, 1) := by decide +kernel
theorem dX11_write_61 : decode cX11_write 61 = .ok (.if_icmp .ge 24, 3) := by decide +kernel
theorem dX11_write_64 : decode cX11_write 64 = .ok (.aload_n 0, 1) := by decide +kernel
theorem dX11_write_65 : decode cX11_write 65 = .ok (.iload_n 3, 1) := by decide +kernel
theorem dX11_write_66 : decode cX11_write 66 = .ok (.iload 4, 2) := by decide +kernel
theorem dX11_write_68 : decode cX11_write 68 = .ok (.aload_n 0, 1) := by decide +kernel
theorem dX11_write_69 : decode cX11_write 69 = .ok (.iload_n 1, 1) := by decide +kernel
theorem dX11_write_70 : decode cX11_write 70 = .ok (.iload_n 2, 1) := by decide +kernel
theorem dX11_write_71 : decode cX11_write 71 = .ok (.iload 4, 2) := by decide +kernel
theorem dX11_write_73 : decode cX11_write 73 = .ok (.invokevirtual 119, 3) := by decide +kernel
theorem dX11_write_76 : decode cX11_write 76 = .ok (.invokevirtual 215, 3) := by decide +kernel
theorem dX11_write_79 : decode cX11_write 79 = .ok (.iinc 4 1, 3) := by decide +kernel
theorem dX11_write_82 : decode cX11_write 82 = .ok (.goto (-29), 3) := by decide +kernel
theorem dX11_write_85 : decode cX11_write 85 = .ok (.aload_n 0, 1) := by decide +kernel
theorem dX11_write_86 : decode cX11_write 86 = .ok (.getfield 56, 3) := by decide +kernel
theorem dX11_write_89 : decode cX11_write 89 = .ok (.iload_n 3, 1) := by decide +kernel
theorem dX11_write_90 : decode cX11_write 90 = .ok (.iaload, 1) := by decide +kernel
theorem dX11_write_91 : decode cX11_write 91 = .ok (.ireturn, 1) := by decide +kernel
theorem dX11_count_0 : decode cX11_count 0 = .ok (.iload_n 1, 1) := by decide +kernel
theorem dX11_count_1 : decode cX11_count 1 = .ok (.tableswitch 92 0 8 #[51, 51, 57, 57, 66, 66, 75, 80, 87], 51) := by decide +kernel
theorem dX11_count_52 : decode cX11_count 52 = .ok (.aload_n 0, 1) := by decide +kernel
theorem dX11_count_53 : decode cX11_count 53 = .ok (.iload_n 1, 1) := by decide +kernel
theorem dX11_count_54 : decode cX11_count 54 = .ok (.invokevirtual 89, 3) := by decide +kernel
theorem dX11_count_57 : decode cX11_count 57 = .ok (.ireturn, 1) := by decide +kernel
theorem dX11_count_58 : decode cX11_count 58 = .ok (.aload_n 0, 1) := by decide +kernel
theorem dX11_count_59 : decode cX11_count 59 = .ok (.getfield 13, 3) := by decide +kernel
theorem dX11_count_62 : decode cX11_count 62 = .ok (.iload_n 1, 1) := by decide +kernel
theorem dX11_count_63 : decode cX11_count 63 = .ok (.iconst 2, 1) := by decide +kernel
theorem dX11_count_64 : decode cX11_count 64 = .ok (.isub, 1) := by decide +kernel
theorem dX11_count_65 : decode cX11_count 65 = .ok (.iaload, 1) := by decide +kernel
theorem dX11_count_66 : decode cX11_count 66 = .ok (.ireturn, 1) := by decide +kernel
theorem dX11_count_67 : decode cX11_count 67 = .ok (.aload_n 0, 1) := by decide +kernel
theorem dX11_count_68 : decode cX11_count 68 = .ok (.getfield 25, 3) := by decide +kernel
theorem dX11_count_71 : decode cX11_count 71 = .ok (.iload_n 1, 1) := by decide +kernel
theorem dX11_count_72 : decode cX11_count 72 = .ok (.iconst 4, 1) := by decide +kernel
theorem dX11_count_73 : decode cX11_count 73 = .ok (.isub, 1) := by decide +kernel
theorem dX11_count_74 : decode cX11_count 74 = .ok (.iaload, 1) := by decide +kernel
theorem dX11_count_75 : decode cX11_count 75 = .ok (.ireturn, 1) := by decide +kernel
theorem dX11_count_76 : decode cX11_count 76 = .ok (.aload_n 0, 1) := by decide +kernel
theorem dX11_count_77 : decode cX11_count 77 = .ok (.getfield 200, 3) := by decide +kernel
theorem dX11_count_80 : decode cX11_count 80 = .ok (.ireturn, 1) := by decide +kernel
theorem dX11_count_81 : decode cX11_count 81 = .ok (.aload_n 0, 1) := by decide +kernel
theorem dX11_count_82 : decode cX11_count 82 = .ok (.getfield 22, 3) := by decide +kernel
theorem dX11_count_85 : decode cX11_count 85 = .ok (.iconst 0, 1) := by decide +kernel
theorem dX11_count_86 : decode cX11_count 86 = .ok (.iaload, 1) := by decide +kernel
theorem dX11_count_87 : decode cX11_count 87 = .ok (.ireturn, 1) := by decide +kernel
theorem dX11_count_88 : decode cX11_count 88 = .ok (.aload_n 0, 1) := by decide +kernel
theorem dX11_count_89 : decode cX11_count 89 = .ok (.getfield 209, 3) := by decide +kernel
theorem dX11_count_92 : decode cX11_count 92 = .ok (.ireturn, 1) := by decide +kernel
theorem dX11_count_93 : decode cX11_count 93 = .ok (.bipush (-2), 2) := by decide +kernel
theorem dX11_count_95 : decode cX11_count 95 = .ok (.ireturn, 1) := by decide +kernel
theorem dX11_digest_0 : decode cX11_digest 0 = .ok (.ldc2_w 220, 3) := by decide +kernel
theorem dX11_digest_3 : decode cX11_digest 3 = .ok (.lstore_n 1, 1) := by decide +kernel
theorem dX11_digest_4 : decode cX11_digest 4 = .ok (.iconst 0, 1) := by decide +kernel
theorem dX11_digest_5 : decode cX11_digest 5 = .ok (.istore_n 3, 1) := by decide +kernel
theorem dX11_digest_6 : decode cX11_digest 6 = .ok (.iload_n 3, 1) := by decide +kernel
theorem dX11_digest_7 : decode cX11_digest 7 = .ok (.bipush 8, 2) := by decide +kernel
theorem dX11_digest_9 : decode cX11_digest 9 = .ok (.if_icmp .ge 22, 3) := by decide +kernel
theorem dX11_digest_12 : decode cX11_digest 12 = .ok (.ldc2_w 222, 3) := by decide +kernel
theorem dX11_digest_15 : decode cX11_digest 15 = .ok (.lload_n 1, 1) := by decide +kernel
theorem dX11_digest_16 : decode cX11_digest 16 = .ok (.lmul, 1) := by decide +kernel
theorem dX11_digest_17 : decode cX11_digest 17 = .ok (.aload_n 0, 1) := by decide +kernel
theorem dX11_digest_18 : decode cX11_digest 18 = .ok (.iload_n 3, 1) := by decide +kernel
theorem dX11_digest_19 : decode cX11_digest 19 = .ok (.invokevirtual 224, 3) := by decide +kernel
theorem dX11_digest_22 : decode cX11_digest 22 = .ok (.i2l, 1) := by decide +kernel
theorem dX11_digest_23 : decode cX11_digest 23 = .ok (.ladd, 1) := by decide +kernel
theorem dX11_digest_24 : decode cX11_digest 24 = .ok (.lstore_n 1, 1) := by decide +kernel
theorem dX11_digest_25 : decode cX11_digest 25 = .ok (.iinc 3 1, 3) := by decide +kernel
theorem dX11_digest_28 : decode cX11_digest 28 = .ok (.goto (-22), 3) := by decide +kernel
theorem dX11_digest_31 : decode cX11_digest 31 = .ok (.iconst 0, 1) := by decide +kernel
theorem dX11_digest_32 : decode cX11_digest 32 = .ok (.istore_n 3, 1) := by decide +kernel
theorem dX11_digest_33 : decode cX11_digest 33 = .ok (.iload_n 3, 1) := by decide +kernel
theorem dX11_digest_34 : decode cX11_digest 34 = .ok (.iconst 2, 1) := by decide +kernel
theorem dX11_digest_35 : decode cX11_digest 35 = .ok (.if_icmp .ge 148, 3) := by decide +kernel
theorem dX11_digest_38 : decode cX11_digest 38 = .ok (.ldc2_w 222, 3) := by decide +kernel
theorem dX11_digest_41 : decode cX11_digest 41 = .ok (.lload_n 1, 1) := by decide +kernel
theorem dX11_digest_42 : decode cX11_digest 42 = .ok (.lmul, 1) := by decide +kernel
theorem dX11_digest_43 : decode cX11_digest 43 = .ok (.aload_n 0, 1) := by decide +kernel
theorem dX11_digest_44 : decode cX11_digest 44 = .ok (.iload_n 3, 1) := by decide +kernel
theorem dX11_digest_45 : decode cX11_digest 45 = .ok (.invokevirtual 86, 3) := by decide +kernel
theorem dX11_digest_48 : decode cX11_digest 48 = .ok (.i2l, 1) := by decide +kernel
theorem dX11_digest_49 : decode cX11_digest 49 = .ok (.ladd, 1) := by decide +kernel
theorem dX11_digest_50 : decode cX11_digest 50 = .ok (.lstore_n 1, 1) := by decide +kernel
theorem dX11_digest_51 : decode cX11_digest 51 = .ok (.ldc2_w 222, 3) := by decide +kernel
theorem dX11_digest_54 : decode cX11_digest 54 = .ok (.lload_n 1, 1) := by decide +kernel
theorem dX11_digest_55 : decode cX11_digest 55 = .ok (.lmul, 1) := by decide +kernel
theorem dX11_digest_56 : decode cX11_digest 56 = .ok (.aload_n 0, 1) := by decide +kernel
theorem dX11_digest_57 : decode cX11_digest 57 = .ok (.iload_n 3, 1) := by decide +kernel
theorem dX11_digest_58 : decode cX11_digest 58 = .ok (.invokevirtual 99, 3) := by decide +kernel
theorem dX11_digest_61 : decode cX11_digest 61 = .ok (.i2l, 1) := by decide +kernel
theorem dX11_digest_62 : decode cX11_digest 62 = .ok (.ladd, 1) := by decide +kernel
theorem dX11_digest_63 : decode cX11_digest 63 = .ok (.lstore_n 1, 1) := by decide +kernel
theorem dX11_digest_64 : decode cX11_digest 64 = .ok (.ldc2_w 222, 3) := by decide +kernel
theorem dX11_digest_67 : decode cX11_digest 67 = .ok (.lload_n 1, 1) := by decide +kernel
theorem dX11_digest_68 : decode cX11_digest 68 = .ok (.lmul, 1) := by decide +kernel
theorem dX11_digest_69 : decode cX11_digest 69 = .ok (.aload_n 0, 1) := by decide +kernel
theorem dX11_digest_70 : decode cX11_digest 70 = .ok (.iload_n 3, 1) := by decide +kernel
theorem dX11_digest_71 : decode cX11_digest 71 = .ok (.bipush 12, 2) := by decide +kernel
theorem dX11_digest_73 : decode cX11_digest 73 = .ok (.iconst (-1), 1) := by decide +kernel
theorem dX11_digest_74 : decode cX11_digest 74 = .ok (.invokevirtual 119, 3) := by decide +kernel
theorem dX11_digest_77 : decode cX11_digest 77 = .ok (.i2l, 1) := by decide +kernel
theorem dX11_digest_78 : decode cX11_digest 78 = .ok (.ladd, 1) := by decide +kernel
theorem dX11_digest_79 : decode cX11_digest 79 = .ok (.lstore_n 1, 1) := by decide +kernel
theorem dX11_digest_80 : decode cX11_digest 80 = .ok (.ldc2_w 222, 3) := by decide +kernel
theorem dX11_digest_83 : decode cX11_digest 83 = .ok (.lload_n 1, 1) := by decide +kernel
theorem dX11_digest_84 : decode cX11_digest 84 = .ok (.lmul, 1) := by decide +kernel
theorem dX11_digest_85 : decode cX11_digest 85 = .ok (.aload_n 0, 1) := by decide +kernel
theorem dX11_digest_86 : decode cX11_digest 86 = .ok (.iload_n 3, 1) := by decide +kernel
theorem dX11_digest_87 : decode cX11_digest 87 = .ok (.iconst 0, 1) := by decide +kernel
theorem dX11_digest_88 : decode cX11_digest 88 = .ok (.invokevirtual 191, 3) := by decide +kernel
theorem dX11_digest_91 : decode cX11_digest 91 = .ok (.i2l, 1) := by decide +kernel
theorem dX11_digest_92 : decode cX11_digest 92 = .ok (.ladd, 1) := by decide +kernel
theorem dX11_digest_93 : decode cX11_digest 93 = .ok (.lstore_n 1, 1) := by decide +kernel
theorem dX11_digest_94 : decode cX11_digest 94 = .ok (.ldc2_w 222, 3) := by decide +kernel
theorem dX11_digest_97 : decode cX11_digest 97 = .ok (.lload_n 1, 1) := by decide +kernel
theorem dX11_digest_98 : decode cX11_digest 98 = .ok (.lmul, 1) := by decide +kernel
theorem dX11_digest_99 : decode cX11_digest 99 = .ok (.aload_n 0, 1) := by decide +kernel
theorem dX11_digest_100 : decode cX11_digest 100 = .ok (.iload_n 3, 1) := by decide +kernel
theorem dX11_digest_101 : decode cX11_digest 101 = .ok (.iconst 1, 1) := by decide +kernel
theorem dX11_digest_102 : decode cX11_digest 102 = .ok (.invokevirtual 191, 3) := by decide +kernel
theorem dX11_digest_105 : decode cX11_digest 105 = .ok (.i2l, 1) := by decide +kernel
theorem dX11_digest_106 : decode cX11_digest 106 = .ok (.ladd, 1) := by decide +kernel
theorem dX11_digest_107 : decode cX11_digest 107 = .ok (.lstore_n 1, 1) := by decide +kernel
theorem dX11_digest_108 : decode cX11_digest 108 = .ok (.ldc2_w 222, 3) := by decide +kernel
theorem dX11_digest_111 : decode cX11_digest 111 = .ok (.lload_n 1, 1) := by decide +kernel
theorem dX11_digest_112 : decode cX11_digest 112 = .ok (.lmul, 1) := by decide +kernel
theorem dX11_digest_113 : decode cX11_digest 113 = .ok (.aload_n 0, 1) := by decide +kernel
theorem dX11_digest_114 : decode cX11_digest 114 = .ok (.iload_n 3, 1) := by decide +kernel
theorem dX11_digest_115 : decode cX11_digest 115 = .ok (.iconst 5, 1) := by decide +kernel
theorem dX11_digest_116 : decode cX11_digest 116 = .ok (.invokevirtual 197, 3) := by decide +kernel
theorem dX11_digest_119 : decode cX11_digest 119 = .ok (.i2l, 1) := by decide +kernel
theorem dX11_digest_120 : decode cX11_digest 120 = .ok (.ladd, 1) := by decide +kernel
theorem dX11_digest_121 : decode cX11_digest 121 = .ok (.lstore_n 1, 1) := by decide +kernel
theorem dX11_digest_122 : decode cX11_digest 122 = .ok (.ldc2_w 222, 3) := by decide +kernel
theorem dX11_digest_125 : decode cX11_digest 125 = .ok (.lload_n 1, 1) := by decide +kernel
theorem dX11_digest_126 : decode cX11_digest 126 = .ok (.lmul, 1) := by decide +kernel
theorem dX11_digest_127 : decode cX11_digest 127 = .ok (.aload_n 0, 1) := by decide +kernel
theorem dX11_digest_128 : decode cX11_digest 128 = .ok (.iload_n 3, 1) := by decide +kernel
theorem dX11_digest_129 : decode cX11_digest 129 = .ok (.invokevirtual 184, 3) := by decide +kernel
theorem dX11_digest_132 : decode cX11_digest 132 = .ok (.i2l, 1) := by decide +kernel
theorem dX11_digest_133 : decode cX11_digest 133 = .ok (.ladd, 1) := by decide +kernel
theorem dX11_digest_134 : decode cX11_digest 134 = .ok (.lstore_n 1, 1) := by decide +kernel
theorem dX11_digest_135 : decode cX11_digest 135 = .ok (.iconst 0, 1) := by decide +kernel
theorem dX11_digest_136 : decode cX11_digest 136 = .ok (.istore 4, 2) := by decide +kernel
theorem dX11_digest_138 : decode cX11_digest 138 = .ok (.iload 4, 2) := by decide +kernel
theorem dX11_digest_140 : decode cX11_digest 140 = .ok (.iconst 4, 1) := by decide +kernel
theorem dX11_digest_141 : decode cX11_digest 141 = .ok (.aload_n 0, 1) := by decide +kernel
theorem dX11_digest_142 : decode cX11_digest 142 = .ok (.getfield 16, 3) := by decide +kernel
theorem dX11_digest_145 : decode cX11_digest 145 = .ok (.iload_n 3, 1) := by decide +kernel
theorem dX11_digest_146 : decode cX11_digest 146 = .ok (.iaload, 1) := by decide +kernel
theorem dX11_digest_147 : decode cX11_digest 147 = .ok (.imul, 1) := by decide +kernel
theorem dX11_digest_148 : decode cX11_digest 148 = .ok (.if_icmp .ge 29, 3) := by decide +kernel
theorem dX11_digest_151 : decode cX11_digest 151 = .ok (.ldc2_w 222, 3) := by decide +kernel
theorem dX11_digest_154 : decode cX11_digest 154 = .ok (.lload_n 1, 1) := by decide +kernel
theorem dX11_digest_155 : decode cX11_digest 155 = .ok (.lmul, 1) := by decide +kernel
theorem dX11_digest_156 : decode cX11_digest 156 = .ok (.aload_n 0, 1) := by decide +kernel
theorem dX11_digest_157 : decode cX11_digest 157 = .ok (.getfield 19, 3) := by decide +kernel
theorem dX11_digest_160 : decode cX11_digest 160 = .ok (.bipush 48, 2) := by decide +kernel
theorem dX11_digest_162 : decode cX11_digest 162 = .ok (.iload_n 3, 1) := by decide +kernel
theorem dX11_digest_163 : decode cX11_digest 163 = .ok (.imul, 1) := by decide +kernel
theorem dX11_digest_164 : decode cX11_digest 164 = .ok (.iload 4, 2) := by decide +kernel
theorem dX11_digest_166 : decode cX11_digest 166 = .ok (.iadd, 1) := by decide +kernel
theorem dX11_digest_167 : decode cX11_digest 167 = .ok (.iaload, 1) := by decide +kernel
theorem dX11_digest_168 : decode cX11_digest 168 = .ok (.i2l, 1) := by decide +kernel
theorem dX11_digest_169 : decode cX11_digest 169 = .ok (.ladd, 1) := by decide +kernel
theorem dX11_digest_170 : decode cX11_digest 170 = .ok (.lstore_n 1, 1) := by decide +kernel
theorem dX11_digest_171 : decode cX11_digest 171 = .ok (.iinc 4 1, 3) := by decide +kernel
theorem dX11_digest_174 : decode cX11_digest 174 = .ok (.goto (-36), 3) := by decide +kernel
theorem dX11_digest_177 : decode cX11_digest 177 = .ok (.iinc 3 1, 3) := by decide +kernel
theorem dX11_digest_180 : decode cX11_digest 180 = .ok (.goto (-147), 3) := by decide +kernel
theorem dX11_digest_183 : decode cX11_digest 183 = .ok (.iconst 0, 1) := by decide +kernel
theorem dX11_digest_184 : decode cX11_digest 184 = .ok (.istore_n 3, 1) := by decide +kernel
theorem dX11_digest_185 : decode cX11_digest 185 = .ok (.iload_n 3, 1) := by decide +kernel
theorem dX11_digest_186 : decode cX11_digest 186 = .ok (.iconst 3, 1) := by decide +kernel
theorem dX11_digest_187 : decode cX11_digest 187 = .ok (.if_icmp .ge 22, 3) := by decide +kernel
theorem dX11_digest_190 : decode cX11_digest 190 = .ok (.ldc2_w 222, 3) := by decide +kernel
theorem dX11_digest_193 : decode cX11_digest 193 = .ok (.lload_n 1, 1) := by decide +kernel
theorem dX11_digest_194 : decode cX11_digest 194 = .ok (.lmul, 1) := by decide +kernel
theorem dX11_digest_195 : decode cX11_digest 195 = .ok (.aload_n 0, 1) := by decide +kernel
theorem dX11_digest_196 : decode cX11_digest 196 = .ok (.iload_n 3, 1) := by decide +kernel
theorem dX11_digest_197 : decode cX11_digest 197 = .ok (.invokevirtual 165, 3) := by decide +kernel
theorem dX11_digest_200 : decode cX11_digest 200 = .ok (.i2l, 1) := by decide +kernel
theorem dX11_digest_201 : decode cX11_digest 201 = .ok (.ladd, 1) := by decide +kernel
theorem dX11_digest_202 : decode cX11_digest 202 = .ok (.lstore_n 1, 1) := by decide +kernel
theorem dX11_digest_203 : decode cX11_digest 203 = .ok (.iinc 3 1, 3) := by decide +kernel
theorem dX11_digest_206 : decode cX11_digest 206 = .ok (.goto (-21), 3) := by decide +kernel
theorem dX11_digest_209 : decode cX11_digest 209 = .ok (.ldc2_w 222, 3) := by decide +kernel
theorem dX11_digest_212 : decode cX11_digest 212 = .ok (.lload_n 1, 1) := by decide +kernel
theorem dX11_digest_213 : decode cX11_digest 213 = .ok (.lmul, 1) := by decide +kernel
theorem dX11_digest_214 : decode cX11_digest 214 = .ok (.aload_n 0, 1) := by decide +kernel
theorem dX11_digest_215 : decode cX11_digest 215 = .ok (.invokevirtual 168, 3) := by decide +kernel
theorem dX11_digest_218 : decode cX11_digest 218 = .ok (.i2l, 1) := by decide +kernel
theorem dX11_digest_219 : decode cX11_digest 219 = .ok (.ladd, 1) := by decide +kernel
theorem dX11_digest_220 : decode cX11_digest 220 = .ok (.lstore_n 1, 1) := by decide +kernel
theorem dX11_digest_221 : decode cX11_digest 221 = .ok (.iconst 0, 1) := by decide +kernel
theorem dX11_digest_222 : decode cX11_digest 222 = .ok (.istore_n 3, 1) := by decide +kernel
theorem dX11_digest_223 : decode cX11_digest 223 = .ok (.iload_n 3, 1) := by decide +kernel
theorem dX11_digest_224 : decode cX11_digest 224 = .ok (.iconst 2, 1) := by decide +kernel
theorem dX11_digest_225 : decode cX11_digest 225 = .ok (.if_icmp .ge 44, 3) := by decide +kernel
theorem dX11_digest_228 : decode cX11_digest 228 = .ok (.iconst 0, 1) := by decide +kernel
theorem dX11_digest_229 : decode cX11_digest 229 = .ok (.istore 4, 2) := by decide +kernel
theorem dX11_digest_231 : decode cX11_digest 231 = .ok (.iload 4, 2) := by decide +kernel
theorem dX11_digest_233 : decode cX11_digest 233 = .ok (.aload_n 0, 1) := by decide +kernel
theorem dX11_digest_234 : decode cX11_digest 234 = .ok (.getfield 25, 3) := by decide +kernel
theorem dX11_digest_237 : decode cX11_digest 237 = .ok (.iload_n 3, 1) := by decide +kernel
theorem dX11_digest_238 : decode cX11_digest 238 = .ok (.iaload, 1) := by decide +kernel
theorem dX11_digest_239 : decode cX11_digest 239 = .ok (.if_icmp .ge 24, 3) := by decide +kernel
theorem dX11_digest_242 : decode cX11_digest 242 = .ok (.ldc2_w 222, 3) := by decide +kernel
theorem dX11_digest_245 : decode cX11_digest 245 = .ok (.lload_n 1, 1) := by decide +kernel
theorem dX11_digest_246 : decode cX11_digest 246 = .ok (.lmul, 1) := by decide +kernel
theorem dX11_digest_247 : decode cX11_digest 247 = .ok (.aload_n 0, 1) := by decide +kernel
theorem dX11_digest_248 : decode cX11_digest 248 = .ok (.iload_n 3, 1) := by decide +kernel
theorem dX11_digest_249 : decode cX11_digest 249 = .ok (.iload 4, 2) := by decide +kernel
theorem dX11_digest_251 : decode cX11_digest 251 = .ok (.invokevirtual 172, 3) := by decide +kernel
theorem dX11_digest_254 : decode cX11_digest 254 = .ok (.i2l, 1) := by decide +kernel
theorem dX11_digest_255 : decode cX11_digest 255 = .ok (.ladd, 1) := by decide +kernel
theorem dX11_digest_256 : decode cX11_digest 256 = .ok (.lstore_n 1, 1) := by decide +kernel
theorem dX11_digest_257 : decode cX11_digest 257 = .ok (.iinc 4 1, 3) := by decide +kernel
theorem dX11_digest_260 : decode cX11_digest 260 = .ok (.goto (-29), 3) := by decide +kernel
theorem dX11_digest_263 : decode cX11_digest 263 = .ok (.iinc 3 1, 3) := by decide +kernel
theorem dX11_digest_266 : decode cX11_digest 266 = .ok (.goto (-43), 3) := by decide +kernel
theorem dX11_digest_269 : decode cX11_digest 269 = .ok (.ldc2_w 222, 3) := by decide +kernel
theorem dX11_digest_272 : decode cX11_digest 272 = .ok (.lload_n 1, 1) := by decide +kernel
theorem dX11_digest_273 : decode cX11_digest 273 = .ok (.lmul, 1) := by decide +kernel
theorem dX11_digest_274 : decode cX11_digest 274 = .ok (.iconst 1, 1) := by decide +kernel
theorem dX11_digest_275 : decode cX11_digest 275 = .ok (.iconst 2, 1) := by decide +kernel
theorem dX11_digest_276 : decode cX11_digest 276 = .ok (.iconst (-1), 1) := by decide +kernel
theorem dX11_digest_277 : decode cX11_digest 277 = .ok (.invokestatic 122, 3) := by decide +kernel
theorem dX11_digest_280 : decode cX11_digest 280 = .ok (.i2l, 1) := by decide +kernel
theorem dX11_digest_281 : decode cX11_digest 281 = .ok (.ladd, 1) := by decide +kernel
theorem dX11_digest_282 : decode cX11_digest 282 = .ok (.lstore_n 1, 1) := by decide +kernel
theorem dX11_digest_283 : decode cX11_digest 283 = .ok (.iconst 0, 1) := by decide +kernel
theorem dX11_digest_284 : decode cX11_digest 284 = .ok (.istore_n 3, 1) := by decide +kernel
theorem dX11_digest_285 : decode cX11_digest 285 = .ok (.iload_n 3, 1) := by decide +kernel
theorem dX11_digest_286 : decode cX11_digest 286 = .ok (.iconst 3, 1) := by decide +kernel
theorem dX11_digest_287 : decode cX11_digest 287 = .ok (.if_icmp .ge 22, 3) := by decide +kernel
theorem dX11_digest_290 : decode cX11_digest 290 = .ok (.ldc2_w 222, 3) := by decide +kernel
theorem dX11_digest_293 : decode cX11_digest 293 = .ok (.lload_n 1, 1) := by decide +kernel
theorem dX11_digest_294 : decode cX11_digest 294 = .ok (.lmul, 1) := by decide +kernel
theorem dX11_digest_295 : decode cX11_digest 295 = .ok (.aload_n 0, 1) := by decide +kernel
theorem dX11_digest_296 : decode cX11_digest 296 = .ok (.iload_n 3, 1) := by decide +kernel
theorem dX11_digest_297 : decode cX11_digest 297 = .ok (.invokevirtual 206, 3) := by decide +kernel
theorem dX11_digest_300 : decode cX11_digest 300 = .ok (.i2l, 1) := by decide +kernel
theorem dX11_digest_301 : decode cX11_digest 301 = .ok (.ladd, 1) := by decide +kernel
theorem dX11_digest_302 : decode cX11_digest 302 = .ok (.lstore_n 1, 1) := by decide +kernel
theorem dX11_digest_303 : decode cX11_digest 303 = .ok (.iinc 3 1, 3) := by decide +kernel
theorem dX11_digest_306 : decode cX11_digest 306 = .ok (.goto (-21), 3) := by decide +kernel
theorem dX11_digest_309 : decode cX11_digest 309 = .ok (.lload_n 1, 1) := by decide +kernel
theorem dX11_digest_310 : decode cX11_digest 310 = .ok (.lreturn, 1) := by decide +kernel
theorem dJ6_bitCount_0f7a4_0 : decode cJ6_bitCount_0f7a4 0 = .ok (.iload_n 0, 1) := by decide +kernel
theorem dJ6_bitCount_0f7a4_1 : decode cJ6_bitCount_0f7a4 1 = .ok (.iload_n 0, 1) := by decide +kernel
theorem dJ6_bitCount_0f7a4_2 : decode cJ6_bitCount_0f7a4 2 = .ok (.iconst 1, 1) := by decide +kernel
theorem dJ6_bitCount_0f7a4_3 : decode cJ6_bitCount_0f7a4 3 = .ok (.iushr, 1) := by decide +kernel
theorem dJ6_bitCount_0f7a4_4 : decode cJ6_bitCount_0f7a4 4 = .ok (.ldc_w 265, 3) := by decide +kernel
theorem dJ6_bitCount_0f7a4_7 : decode cJ6_bitCount_0f7a4 7 = .ok (.iand, 1) := by decide +kernel
theorem dJ6_bitCount_0f7a4_8 : decode cJ6_bitCount_0f7a4 8 = .ok (.isub, 1) := by decide +kernel
theorem dJ6_bitCount_0f7a4_9 : decode cJ6_bitCount_0f7a4 9 = .ok (.istore_n 0, 1) := by decide +kernel
theorem dJ6_bitCount_0f7a4_10 : decode cJ6_bitCount_0f7a4 10 = .ok (.iload_n 0, 1) := by decide +kernel
theorem dJ6_bitCount_0f7a4_11 : decode cJ6_bitCount_0f7a4 11 = .ok (.ldc_w 266, 3) := by decide +kernel
theorem dJ6_bitCount_0f7a4_14 : decode cJ6_bitCount_0f7a4 14 = .ok (.iand, 1) := by decide +kernel
theorem dJ6_bitCount_0f7a4_15 : decode cJ6_bitCount_0f7a4 15 = .ok (.iload_n 0, 1) := by decide +kernel
theorem dJ6_bitCount_0f7a4_16 : decode cJ6_bitCount_0f7a4 16 = .ok (.iconst 2, 1) := by decide +kernel
theorem dJ6_bitCount_0f7a4_17 : decode cJ6_bitCount_0f7a4 17 = .ok (.iushr, 1) := by decide +kernel
theorem dJ6_bitCount_0f7a4_18 : decode cJ6_bitCount_0f7a4 18 = .ok (.ldc_w 266, 3) := by decide +kernel
theorem dJ6_bitCount_0f7a4_21 : decode cJ6_bitCount_0f7a4 21 = .ok (.iand, 1) := by decide +kernel
theorem dJ6_bitCount_0f7a4_22 : decode cJ6_bitCount_0f7a4 22 = .ok (.iadd, 1) := by decide +kernel
theorem dJ6_bitCount_0f7a4_23 : decode cJ6_bitCount_0f7a4 23 = .ok (.istore_n 0, 1) := by decide +kernel
theorem dJ6_bitCount_0f7a4_24 : decode cJ6_bitCount_0f7a4 24 = .ok (.iload_n 0, 1) := by decide +kernel
theorem dJ6_bitCount_0f7a4_25 : decode cJ6_bitCount_0f7a4 25 = .ok (.iload_n 0, 1) := by decide +kernel
theorem dJ6_bitCount_0f7a4_26 : decode cJ6_bitCount_0f7a4 26 = .ok (.iconst 4, 1) := by decide +kernel
theorem dJ6_bitCount_0f7a4_27 : decode cJ6_bitCount_0f7a4 27 = .ok (.iushr, 1) := by decide +kernel
theorem dJ6_bitCount_0f7a4_28 : decode cJ6_bitCount_0f7a4 28 = .ok (.iadd, 1) := by decide +kernel
theorem dJ6_bitCount_0f7a4_29 : decode cJ6_bitCount_0f7a4 29 = .ok (.ldc_w 267, 3) := by decide +kernel
theorem dJ6_bitCount_0f7a4_32 : decode cJ6_bitCount_0f7a4 32 = .ok (.iand, 1) := by decide +kernel
theorem dJ6_bitCount_0f7a4_33 : decode cJ6_bitCount_0f7a4 33 = .ok (.istore_n 0, 1) := by decide +kernel
theorem dJ6_bitCount_0f7a4_34 : decode cJ6_bitCount_0f7a4 34 = .ok (.iload_n 0, 1) := by decide +kernel
theorem dJ6_bitCount_0f7a4_35 : decode cJ6_bitCount_0f7a4 35 = .ok (.iload_n 0, 1) := by decide +kernel
theorem dJ6_bitCount_0f7a4_36 : decode cJ6_bitCount_0f7a4 36 = .ok (.bipush 8, 2) := by decide +kernel
theorem dJ6_bitCount_0f7a4_38 : decode cJ6_bitCount_0f7a4 38 = .ok (.iushr, 1) := by decide +kernel
theorem dJ6_bitCount_0f7a4_39 : decode cJ6_bitCount_0f7a4 39 = .ok (.iadd, 1) := by decide +kernel
theorem dJ6_bitCount_0f7a4_40 : decode cJ6_bitCount_0f7a4 40 = .ok (.istore_n 0, 1) := by decide +kernel
theorem dJ6_bitCount_0f7a4_41 : decode cJ6_bitCount_0f7a4 41 = .ok (.iload_n 0, 1) := by decide +kernel
theorem dJ6_bitCount_0f7a4_42 : decode cJ6_bitCount_0f7a4 42 = .ok (.iload_n 0, 1) := by decide +kernel
theorem dJ6_bitCount_0f7a4_43 : decode cJ6_bitCount_0f7a4 43 = .ok (.bipush 16, 2) := by decide +kernel
theorem dJ6_bitCount_0f7a4_45 : decode cJ6_bitCount_0f7a4 45 = .ok (.iushr, 1) := by decide +kernel
theorem dJ6_bitCount_0f7a4_46 : decode cJ6_bitCount_0f7a4 46 = .ok (.iadd, 1) := by decide +kernel
theorem dJ6_bitCount_0f7a4_47 : decode cJ6_bitCount_0f7a4 47 = .ok (.istore_n 0, 1) := by decide +kernel
theorem dJ6_bitCount_0f7a4_48 : decode cJ6_bitCount_0f7a4 48 = .ok (.iload_n 0, 1) := by decide +kernel
theorem dJ6_bitCount_0f7a4_49 : decode cJ6_bitCount_0f7a4 49 = .ok (.bipush 63, 2) := by decide +kernel
theorem dJ6_bitCount_0f7a4_51 : decode cJ6_bitCount_0f7a4 51 = .ok (.iand, 1) := by decide +kernel
theorem dJ6_bitCount_0f7a4_52 : decode cJ6_bitCount_0f7a4 52 = .ok (.ireturn, 1) := by decide +kernel
theorem dJ9_floorDiv_7cf53_0 : decode cJ9_floorDiv_7cf53 0 = .ok (.iload_n 0, 1) := by decide +kernel
theorem dJ9_floorDiv_7cf53_1 : decode cJ9_floorDiv_7cf53 1 = .ok (.iload_n 1, 1) := by decide +kernel
theorem dJ9_floorDiv_7cf53_2 : decode cJ9_floorDiv_7cf53 2 = .ok (.idiv, 1) := by decide +kernel
theorem dJ9_floorDiv_7cf53_3 : decode cJ9_floorDiv_7cf53 3 = .ok (.istore_n 2, 1) := by decide +kernel
theorem dJ9_floorDiv_7cf53_4 : decode cJ9_floorDiv_7cf53 4 = .ok (.iload_n 0, 1) := by decide +kernel
theorem dJ9_floorDiv_7cf53_5 : decode cJ9_floorDiv_7cf53 5 = .ok (.iload_n 1, 1) := by decide +kernel
theorem dJ9_floorDiv_7cf53_6 : decode cJ9_floorDiv_7cf53 6 = .ok (.ixor, 1) := by decide +kernel
theorem dJ9_floorDiv_7cf53_7 : decode cJ9_floorDiv_7cf53 7 = .ok (.ifCond .ge 14, 3) := by decide +kernel
theorem dJ9_floorDiv_7cf53_10 : decode cJ9_floorDiv_7cf53 10 = .ok (.iload_n 2, 1) := by decide +kernel
theorem dJ9_floorDiv_7cf53_11 : decode cJ9_floorDiv_7cf53 11 = .ok (.iload_n 1, 1) := by decide +kernel
theorem dJ9_floorDiv_7cf53_12 : decode cJ9_floorDiv_7cf53 12 = .ok (.imul, 1) := by decide +kernel
theorem dJ9_floorDiv_7cf53_13 : decode cJ9_floorDiv_7cf53 13 = .ok (.iload_n 0, 1) := by decide +kernel
theorem dJ9_floorDiv_7cf53_14 : decode cJ9_floorDiv_7cf53 14 = .ok (.if_icmp .eq 7, 3) := by decide +kernel
theorem dJ9_floorDiv_7cf53_17 : decode cJ9_floorDiv_7cf53 17 = .ok (.iload_n 2, 1) := by decide +kernel
theorem dJ9_floorDiv_7cf53_18 : decode cJ9_floorDiv_7cf53 18 = .ok (.iconst 1, 1) := by decide +kernel
theorem dJ9_floorDiv_7cf53_19 : decode cJ9_floorDiv_7cf53 19 = .ok (.isub, 1) := by decide +kernel
theorem dJ9_floorDiv_7cf53_20 : decode cJ9_floorDiv_7cf53 20 = .ok (.ireturn, 1) := by decide +kernel
theorem dJ9_floorDiv_7cf53_21 : decode cJ9_floorDiv_7cf53 21 = .ok (.iload_n 2, 1) := by decide +kernel
theorem dJ9_floorDiv_7cf53_22 : decode cJ9_floorDiv_7cf53 22 = .ok (.ireturn, 1) := by decide +kernel
theorem dJ9_floorMod_7cf53_0 : decode cJ9_floorMod_7cf53 0 = .ok (.iload_n 0, 1) := by decide +kernel
theorem dJ9_floorMod_7cf53_1 : decode cJ9_floorMod_7cf53 1 = .ok (.iload_n 1, 1) := by decide +kernel
theorem dJ9_floorMod_7cf53_2 : decode cJ9_floorMod_7cf53 2 = .ok (.irem, 1) := by decide +kernel
theorem dJ9_floorMod_7cf53_3 : decode cJ9_floorMod_7cf53 3 = .ok (.istore_n 2, 1) := by decide +kernel
theorem dJ9_floorMod_7cf53_4 : decode cJ9_floorMod_7cf53 4 = .ok (.iload_n 0, 1) := by decide +kernel
theorem dJ9_floorMod_7cf53_5 : decode cJ9_floorMod_7cf53 5 = .ok (.iload_n 1, 1) := by decide +kernel
theorem dJ9_floorMod_7cf53_6 : decode cJ9_floorMod_7cf53 6 = .ok (.ixor, 1) := by decide +kernel
theorem dJ9_floorMod_7cf53_7 : decode cJ9_floorMod_7cf53 7 = .ok (.ifCond .ge 11, 3) := by decide +kernel
theorem dJ9_floorMod_7cf53_10 : decode cJ9_floorMod_7cf53 10 = .ok (.iload_n 2, 1) := by decide +kernel
theorem dJ9_floorMod_7cf53_11 : decode cJ9_floorMod_7cf53 11 = .ok (.ifCond .eq 7, 3) := by decide +kernel
theorem dJ9_floorMod_7cf53_14 : decode cJ9_floorMod_7cf53 14 = .ok (.iload_n 2, 1) := by decide +kernel
theorem dJ9_floorMod_7cf53_15 : decode cJ9_floorMod_7cf53 15 = .ok (.iload_n 1, 1) := by decide +kernel
theorem dJ9_floorMod_7cf53_16 : decode cJ9_floorMod_7cf53 16 = .ok (.iadd, 1) := by decide +kernel
theorem dJ9_floorMod_7cf53_17 : decode cJ9_floorMod_7cf53 17 = .ok (.ireturn, 1) := by decide +kernel
theorem dJ9_floorMod_7cf53_18 : decode cJ9_floorMod_7cf53 18 = .ok (.iload_n 2, 1) := by decide +kernel
theorem dJ9_floorMod_7cf53_19 : decode cJ9_floorMod_7cf53 19 = .ok (.ireturn, 1) := by decide +kernel
theorem dJ9_abs_0f7a4_0 : decode cJ9_abs_0f7a4 0 = .ok (.iload_n 0, 1) := by decide +kernel
theorem dJ9_abs_0f7a4_1 : decode cJ9_abs_0f7a4 1 = .ok (.ifCond .ge 8, 3) := by decide +kernel
theorem dJ9_abs_0f7a4_4 : decode cJ9_abs_0f7a4 4 = .ok (.iload_n 0, 1) := by decide +kernel
theorem dJ9_abs_0f7a4_5 : decode cJ9_abs_0f7a4 5 = .ok (.ineg, 1) := by decide +kernel
theorem dJ9_abs_0f7a4_6 : decode cJ9_abs_0f7a4 6 = .ok (.goto 4, 3) := by decide +kernel
theorem dJ9_abs_0f7a4_9 : decode cJ9_abs_0f7a4 9 = .ok (.iload_n 0, 1) := by decide +kernel
theorem dJ9_abs_0f7a4_10 : decode cJ9_abs_0f7a4 10 = .ok (.ireturn, 1) := by decide +kernel
theorem dJ9_max_7cf53_0 : decode cJ9_max_7cf53 0 = .ok (.iload_n 0, 1) := by decide +kernel
theorem dJ9_max_7cf53_1 : decode cJ9_max_7cf53 1 = .ok (.iload_n 1, 1) := by decide +kernel
theorem dJ9_max_7cf53_2 : decode cJ9_max_7cf53 2 = .ok (.if_icmp .lt 7, 3) := by decide +kernel
theorem dJ9_max_7cf53_5 : decode cJ9_max_7cf53 5 = .ok (.iload_n 0, 1) := by decide +kernel
theorem dJ9_max_7cf53_6 : decode cJ9_max_7cf53 6 = .ok (.goto 4, 3) := by decide +kernel
theorem dJ9_max_7cf53_9 : decode cJ9_max_7cf53 9 = .ok (.iload_n 1, 1) := by decide +kernel
theorem dJ9_max_7cf53_10 : decode cJ9_max_7cf53 10 = .ok (.ireturn, 1) := by decide +kernel
theorem dJ9_min_7cf53_0 : decode cJ9_min_7cf53 0 = .ok (.iload_n 0, 1) := by decide +kernel
theorem dJ9_min_7cf53_1 : decode cJ9_min_7cf53 1 = .ok (.iload_n 1, 1) := by decide +kernel
theorem dJ9_min_7cf53_2 : decode cJ9_min_7cf53 2 = .ok (.if_icmp .gt 7, 3) := by decide +kernel
theorem dJ9_min_7cf53_5 : decode cJ9_min_7cf53 5 = .ok (.iload_n 0, 1) := by decide +kernel
theorem dJ9_min_7cf53_6 : decode cJ9_min_7cf53 6 = .ok (.goto 4, 3) := by decide +kernel
theorem dJ9_min_7cf53_9 : decode cJ9_min_7cf53 9 = .ok (.iload_n 1, 1) := by decide +kernel
theorem dJ9_min_7cf53_10 : decode cJ9_min_7cf53 10 = .ok (.ireturn, 1) := by decide +kernel
theorem dJ7_fill_53178_0 : decode cJ7_fill_53178 0 = .ok (.iconst 0, 1) := by decide +kernel
theorem dJ7_fill_53178_1 : decode cJ7_fill_53178 1 = .ok (.istore_n 2, 1) := by decide +kernel
theorem dJ7_fill_53178_2 : decode cJ7_fill_53178 2 = .ok (.aload_n 0, 1) := by decide +kernel
theorem dJ7_fill_53178_3 : decode cJ7_fill_53178 3 = .ok (.arraylength, 1) := by decide +kernel
theorem dJ7_fill_53178_4 : decode cJ7_fill_53178 4 = .ok (.istore_n 3, 1) := by decide +kernel
theorem dJ7_fill_53178_5 : decode cJ7_fill_53178 5 = .ok (.iload_n 2, 1) := by decide +kernel
theorem dJ7_fill_53178_6 : decode cJ7_fill_53178 6 = .ok (.iload_n 3, 1) := by decide +kernel
theorem dJ7_fill_53178_7 : decode cJ7_fill_53178 7 = .ok (.if_icmp .ge 13, 3) := by decide +kernel
theorem dJ7_fill_53178_10 : decode cJ7_fill_53178 10 = .ok (.aload_n 0, 1) := by decide +kernel
theorem dJ7_fill_53178_11 : decode cJ7_fill_53178 11 = .ok (.iload_n 2, 1) := by decide +kernel
theorem dJ7_fill_53178_12 : decode cJ7_fill_53178 12 = .ok (.iload_n 1, 1) := by decide +kernel
theorem dJ7_fill_53178_13 : decode cJ7_fill_53178 13 = .ok (.iastore, 1) := by decide +kernel
theorem dJ7_fill_53178_14 : decode cJ7_fill_53178 14 = .ok (.iinc 2 1, 3) := by decide +kernel
theorem dJ7_fill_53178_17 : decode cJ7_fill_53178 17 = .ok (.goto (-12), 3) := by decide +kernel
theorem dJ7_fill_53178_20 : decode cJ7_fill_53178 20 = .ok (.return_, 1) := by decide +kernel
theorem dL_law_0 : decode cL_law 0 = .ok (.new 7, 3) := by decide +kernel
theorem dL_law_3 : decode cL_law 3 = .ok (.dup, 1) := by decide +kernel
theorem dL_law_4 : decode cL_law 4 = .ok (.invokespecial 9, 3) := by decide +kernel
theorem dL_law_7 : decode cL_law 7 = .ok (.astore_n 1, 1) := by decide +kernel
theorem dL_law_8 : decode cL_law 8 = .ok (.new 10, 3) := by decide +kernel
theorem dL_law_11 : decode cL_law 11 = .ok (.dup, 1) := by decide +kernel
theorem dL_law_12 : decode cL_law 12 = .ok (.invokespecial 12, 3) := by decide +kernel
theorem dL_law_15 : decode cL_law 15 = .ok (.astore_n 2, 1) := by decide +kernel
theorem dL_law_16 : decode cL_law 16 = .ok (.iconst 0, 1) := by decide +kernel
theorem dL_law_17 : decode cL_law 17 = .ok (.istore_n 3, 1) := by decide +kernel
theorem dL_law_18 : decode cL_law 18 = .ok (.iload_n 3, 1) := by decide +kernel
theorem dL_law_19 : decode cL_law 19 = .ok (.aload_n 0, 1) := by decide +kernel
theorem dL_law_20 : decode cL_law 20 = .ok (.arraylength, 1) := by decide +kernel
theorem dL_law_21 : decode cL_law 21 = .ok (.bipush 6, 2) := by decide +kernel
theorem dL_law_23 : decode cL_law 23 = .ok (.isub, 1) := by decide +kernel
theorem dL_law_24 : decode cL_law 24 = .ok (.if_icmp .gt 1664, 3) := by decide +kernel
theorem dL_law_27 : decode cL_law 27 = .ok (.aload_n 0, 1) := by decide +kernel
theorem dL_law_28 : decode cL_law 28 = .ok (.iload_n 3, 1) := by decide +kernel
theorem dL_law_29 : decode cL_law 29 = .ok (.iaload, 1) := by decide +kernel
theorem dL_law_30 : decode cL_law 30 = .ok (.bipush 63, 2) := by decide +kernel
theorem dL_law_32 : decode cL_law 32 = .ok (.iand, 1) := by decide +kernel
theorem dL_law_33 : decode cL_law 33 = .ok (.tableswitch 1649 0 39 #[175, 208, 231, 254, 297, 340, 363, 396, 439, 483, 526, 569, 623, 686, 749, 792, 825, 848, 871, 884, 917, 971, 1014, 1047, 1080, 1103, 1136, 1179, 1212, 1255, 1288, 1311, 1344, 1387, 1410, 1463, 1506, 1569, 1612, 1635], 175) := by decide +kernel
theorem dL_law_208 : decode cL_law 208 = .ok (.aload_n 1, 1) := by decide +kernel
theorem dL_law_209 : decode cL_law 209 = .ok (.aload_n 0, 1) := by decide +kernel
theorem dL_law_210 : decode cL_law 210 = .ok (.iload_n 3, 1) := by decide +kernel
theorem dL_law_211 : decode cL_law 211 = .ok (.iconst 1, 1) := by decide +kernel
theorem dL_law_212 : decode cL_law 212 = .ok (.iadd, 1) := by decide +kernel
theorem dL_law_213 : decode cL_law 213 = .ok (.iaload, 1) := by decide +kernel
theorem dL_law_214 : decode cL_law 214 = .ok (.aload_n 0, 1) := by decide +kernel
theorem dL_law_215 : decode cL_law 215 = .ok (.iload_n 3, 1) := by decide +kernel
theorem dL_law_216 : decode cL_law 216 = .ok (.iconst 2, 1) := by decide +kernel
theorem dL_law_217 : decode cL_law 217 = .ok (.iadd, 1) := by decide +kernel
theorem dL_law_218 : decode cL_law 218 = .ok (.iaload, 1) := by decide +kernel
theorem dL_law_219 : decode cL_law 219 = .ok (.invokevirtual 13, 3) := by decide +kernel
theorem dL_law_222 : decode cL_law 222 = .ok (.aload_n 2, 1) := by decide +kernel
theorem dL_law_223 : decode cL_law 223 = .ok (.aload_n 0, 1) := by decide +kernel
theorem dL_law_224 : decode cL_law 224 = .ok (.iload_n 3, 1) := by decide +kernel
theorem dL_law_225 : decode cL_law 225 = .ok (.iconst 1, 1) := by decide +kernel
theorem dL_law_226 : decode cL_law 226 = .ok (.iadd, 1) := by decide +kernel
theorem dL_law_227 : decode cL_law 227 = .ok (.iaload, 1) := by decide +kernel
theorem dL_law_228 : decode cL_law 228 = .ok (.aload_n 0, 1) := by decide +kernel
theorem dL_law_229 : decode cL_law 229 = .ok (.iload_n 3, 1) := by decide +kernel
theorem dL_law_230 : decode cL_law 230 = .ok (.iconst 2, 1) := by decide +kernel
theorem dL_law_231 : decode cL_law 231 = .ok (.iadd, 1) := by decide +kernel
theorem dL_law_232 : decode cL_law 232 = .ok (.iaload, 1) := by decide +kernel
theorem dL_law_233 : decode cL_law 233 = .ok (.invokevirtual 17, 3) := by decide +kernel
theorem dL_law_236 : decode cL_law 236 = .ok (.if_icmp .eq 1446, 3) := by decide +kernel
theorem dL_law_239 : decode cL_law 239 = .ok (.iconst 0, 1) := by decide +kernel
theorem dL_law_240 : decode cL_law 240 = .ok (.ireturn, 1) := by decide +kernel
theorem dL_law_241 : decode cL_law 241 = .ok (.aload_n 1, 1) := by decide +kernel
theorem dL_law_242 : decode cL_law 242 = .ok (.aload_n 0, 1) := by decide +kernel
theorem dL_law_243 : decode cL_law 243 = .ok (.iload_n 3, 1) := by decide +kernel
theorem dL_law_244 : decode cL_law 244 = .ok (.iconst 1, 1) := by decide +kernel
theorem dL_law_245 : decode cL_law 245 = .ok (.iadd, 1) := by decide +kernel
theorem dL_law_246 : decode cL_law 246 = .ok (.iaload, 1) := by decide +kernel
theorem dL_law_247 : decode cL_law 247 = .ok (.invokevirtual 18, 3) := by decide +kernel
theorem dL_law_250 : decode cL_law 250 = .ok (.aload_n 2, 1) := by decide +kernel
theorem dL_law_251 : decode cL_law 251 = .ok (.aload_n 0, 1) := by decide +kernel
theorem dL_law_252 : decode cL_law 252 = .ok (.iload_n 3, 1) := by decide +kernel
theorem dL_law_253 : decode cL_law 253 = .ok (.iconst 1, 1) := by decide +kernel
theorem dL_law_254 : decode cL_law 254 = .ok (.iadd, 1) := by decide +kernel
theorem dL_law_255 : decode cL_law 255 = .ok (.iaload, 1) := by decide +kernel
theorem dL_law_256 : decode cL_law 256 = .ok (.invokevirtual 22, 3) := by decide +kernel
theorem dL_law_259 : decode cL_law 259 = .ok (.if_icmp .eq 1423, 3) := by decide +kernel
theorem dL_law_262 : decode cL_law 262 = .ok (.iconst 0, 1) := by decide +kernel
theorem dL_law_263 : decode cL_law 263 = .ok (.ireturn, 1) := by decide +kernel
theorem dL_law_264 : decode cL_law 264 = .ok (.aload_n 1, 1) := by decide +kernel
theorem dL_law_265 : decode cL_law 265 = .ok (.aload_n 0, 1) := by decide +kernel
theorem dL_law_266 : decode cL_law 266 = .ok (.iload_n 3, 1) := by decide +kernel
theorem dL_law_267 : decode cL_law 267 = .ok (.iconst 1, 1) := by decide +kernel
theorem dL_law_268 : decode cL_law 268 = .ok (.iadd, 1) := by decide +kernel
theorem dL_law_269 : decode cL_law 269 = .ok (.iaload, 1) := by decide +kernel
theorem dL_law_270 : decode cL_law 270 = .ok (.invokevirtual 23, 3) := by decide +kernel
theorem dL_law_273 : decode cL_law 273 = .ok (.aload_n 2, 1) := by decide +kernel
theorem dL_law_274 : decode cL_law 274 = .ok (.aload_n 0, 1) := by decide +kernel
theorem dL_law_275 : decode cL_law 275 = .ok (.iload_n 3, 1) := by decide +kernel
theorem dL_law_276 : decode cL_law 276 = .ok (.iconst 1, 1) := by decide +kernel
theorem dL_law_277 : decode cL_law 277 = .ok (.iadd, 1) := by decide +kernel
theorem dL_law_278 : decode cL_law 278 = .ok (.iaload, 1) := by decide +kernel
theorem dL_law_279 : decode cL_law 279 = .ok (.invokevirtual 26, 3) := by decide +kernel
theorem dL_law_282 : decode cL_law 282 = .ok (.if_icmp .eq 1400, 3) := by decide +kernel
theorem dL_law_285 : decode cL_law 285 = .ok (.iconst 0, 1) := by decide +kernel
theorem dL_law_286 : decode cL_law 286 = .ok (.ireturn, 1) := by decide +kernel
theorem dL_law_287 : decode cL_law 287 = .ok (.aload_n 1, 1) := by decide +kernel
theorem dL_law_288 : decode cL_law 288 = .ok (.aload_n 0, 1) := by decide +kernel
theorem dL_law_289 : decode cL_law 289 = .ok (.iload_n 3, 1) := by decide +kernel
theorem dL_law_290 : decode cL_law 290 = .ok (.iconst 1, 1) := by decide +kernel
theorem dL_law_291 : decode cL_law 291 = .ok (.iadd, 1) := by decide +kernel
theorem dL_law_292 : decode cL_law 292 = .ok (.iaload, 1) := by decide +kernel
theorem dL_law_293 : decode cL_law 293 = .ok (.aload_n 0, 1) := by decide +kernel
theorem dL_law_294 : decode cL_law 294 = .ok (.iload_n 3, 1) := by decide +kernel
theorem dL_law_295 : decode cL_law 295 = .ok (.iconst 2, 1) := by decide +kernel
theorem dL_law_296 : decode cL_law 296 = .ok (.iadd, 1) := by decide +kernel
theorem dL_law_297 : decode cL_law 297 = .ok (.iaload, 1) := by decide +kernel
theorem dL_law_298 : decode cL_law 298 = .ok (.aload_n 0, 1) := by decide +kernel
theorem dL_law_299 : decode cL_law 299 = .ok (.iload_n 3, 1) := by decide +kernel
theorem dL_law_300 : decode cL_law 300 = .ok (.iconst 3, 1) := by decide +kernel
theorem dL_law_301 : decode cL_law 301 = .ok (.iadd, 1) := by decide +kernel
theorem dL_law_302 : decode cL_law 302 = .ok (.iaload, 1) := by decide +kernel
theorem dL_law_303 : decode cL_law 303 = .ok (.invokevirtual 27, 3) := by decide +kernel
theorem dL_law_306 : decode cL_law 306 = .ok (.aload_n 2, 1) := by decide +kernel
theorem dL_law_307 : decode cL_law 307 = .ok (.aload_n 0, 1) := by decide +kernel
theorem dL_law_308 : decode cL_law 308 = .ok (.iload_n 3, 1) := by decide +kernel
theorem dL_law_309 : decode cL_law 309 = .ok (.iconst 1, 1) := by decide +kernel
theorem dL_law_310 : decode cL_law 310 = .ok (.iadd, 1) := by decide +kernel
theorem dL_law_311 : decode cL_law 311 = .ok (.iaload, 1) := by decide +kernel
theorem dL_law_312 : decode cL_law 312 = .ok (.aload_n 0, 1) := by decide +kernel
theorem dL_law_313 : decode cL_law 313 = .ok (.iload_n 3, 1) := by decide +kernel
theorem dL_law_314 : decode cL_law 314 = .ok (.iconst 2, 1) := by decide +kernel
theorem dL_law_315 : decode cL_law 315 = .ok (.iadd, 1) := by decide +kernel
theorem dL_law_316 : decode cL_law 316 = .ok (.iaload, 1) := by decide +kernel
theorem dL_law_317 : decode cL_law 317 = .ok (.aload_n 0, 1) := by decide +kernel
theorem dL_law_318 : decode cL_law 318 = .ok (.iload_n 3, 1) := by decide +kernel
theorem dL_law_319 : decode cL_law 319 = .ok (.iconst 3, 1) := by decide +kernel
theorem dL_law_320 : decode cL_law 320 = .ok (.iadd, 1) := by decide +kernel
theorem dL_law_321 : decode cL_law 321 = .ok (.iaload, 1) := by decide +kernel
theorem dL_law_322 : decode cL_law 322 = .ok (.invokevirtual 31, 3) := by decide +kernel
theorem dL_law_325 : decode cL_law 325 = .ok (.if_icmp .eq 1357, 3) := by decide +kernel
theorem dL_law_328 : decode cL_law 328 = .ok (.iconst 0, 1) := by decide +kernel
theorem dL_law_329 : decode cL_law 329 = .ok (.ireturn, 1) := by decide +kernel
theorem dL_law_330 : decode cL_law 330 = .ok (.aload_n 1, 1) := by decide +kernel
theorem dL_law_331 : decode cL_law 331 = .ok (.aload_n 0, 1) := by decide +kernel
theorem dL_law_332 : decode cL_law 332 = .ok (.iload_n 3, 1) := by decide +kernel
theorem dL_law_333 : decode cL_law 333 = .ok (.iconst 1, 1) := by decide +kernel
theorem dL_law_334 : decode cL_law 334 = .ok (.iadd, 1) := by decide +kernel
theorem dL_law_335 : decode cL_law 335 = .ok (.iaload, 1) := by decide +kernel
theorem dL_law_336 : decode cL_law 336 = .ok (.aload_n 0, 1) := by decide +kernel
theorem dL_law_337 : decode cL_law 337 = .ok (.iload_n 3, 1) := by decide +kernel
theorem dL_law_338 : decode cL_law 338 = .ok (.iconst 2, 1) := by decide +kernel
theorem dL_law_339 : decode cL_law 339 = .ok (.iadd, 1) := by decide +kernel
theorem dL_law_340 : decode cL_law 340 = .ok (.iaload, 1) := by decide +kernel
theorem dL_law_341 : decode cL_law 341 = .ok (.aload_n 0, 1) := by decide +kernel
theorem dL_law_342 : decode cL_law 342 = .ok (.iload_n 3, 1) := by decide +kernel
theorem dL_law_343 : decode cL_law 343 = .ok (.iconst 3, 1) := by decide +kernel
theorem dL_law_344 : decode cL_law 344 = .ok (.iadd, 1) := by decide +kernel
theorem dL_law_345 : decode cL_law 345 = .ok (.iaload, 1) := by decide +kernel
theorem dL_law_346 : decode cL_law 346 = .ok (.invokevirtual 32, 3) := by decide +kernel
theorem dL_law_349 : decode cL_law 349 = .ok (.aload_n 2, 1) := by decide +kernel
theorem dL_law_350 : decode cL_law 350 = .ok (.aload_n 0, 1) := by decide +kernel
theorem dL_law_351 : decode cL_law 351 = .ok (.iload_n 3, 1) := by decide +kernel
theorem dL_law_352 : decode cL_law 352 = .ok (.iconst 1, 1) := by decide +kernel
theorem dL_law_353 : decode cL_law 353 = .ok (.iadd, 1) := by decide +kernel
theorem dL_law_354 : decode cL_law 354 = .ok (.iaload, 1) := by decide +kernel
theorem dL_law_355 : decode cL_law 355 = .ok (.aload_n 0, 1) := by decide +kernel
theorem dL_law_356 : decode cL_law 356 = .ok (.iload_n 3, 1) := by decide +kernel
theorem dL_law_357 : decode cL_law 357 = .ok (.iconst 2, 1) := by decide +kernel
theorem dL_law_358 : decode cL_law 358 = .ok (.iadd, 1) := by decide +kernel
theorem dL_law_359 : decode cL_law 359 = .ok (.iaload, 1) := by decide +kernel
theorem dL_law_360 : decode cL_law 360 = .ok (.aload_n 0, 1) := by decide +kernel
theorem dL_law_361 : decode cL_law 361 = .ok (.iload_n 3, 1) := by decide +kernel
theorem dL_law_362 : decode cL_law 362 = .ok (.iconst 3, 1) := by decide +kernel
theorem dL_law_363 : decode cL_law 363 = .ok (.iadd, 1) := by decide +kernel
theorem dL_law_364 : decode cL_law 364 = .ok (.iaload, 1) := by decide +kernel
theorem dL_law_365 : decode cL_law 365 = .ok (.invokevirtual 35, 3) := by decide +kernel
theorem dL_law_368 : decode cL_law 368 = .ok (.if_icmp .eq 1314, 3) := by decide +kernel
theorem dL_law_371 : decode cL_law 371 = .ok (.iconst 0, 1) := by decide +kernel
theorem dL_law_372 : decode cL_law 372 = .ok (.ireturn, 1) := by decide +kernel
theorem dL_law_373 : decode cL_law 373 = .ok (.aload_n 1, 1) := by decide +kernel
theorem dL_law_374 : decode cL_law 374 = .ok (.aload_n 0, 1) := by decide +kernel
theorem dL_law_375 : decode cL_law 375 = .ok (.iload_n 3, 1) := by decide +kernel
theorem dL_law_376 : decode cL_law 376 = .ok (.iconst 1, 1) := by decide +kernel
theorem dL_law_377 : decode cL_law 377 = .ok (.iadd, 1) := by decide +kernel
theorem dL_law_378 : decode cL_law 378 = .ok (.iaload, 1) := by decide +kernel
theorem dL_law_379 : decode cL_law 379 = .ok (.invokevirtual 36, 3) := by decide +kernel
theorem dL_law_382 : decode cL_law 382 = .ok (.aload_n 2, 1) := by decide +kernel
theorem dL_law_383 : decode cL_law 383 = .ok (.aload_n 0, 1) := by decide +kernel
theorem dL_law_384 : decode cL_law 384 = .ok (.iload_n 3, 1) := by decide +kernel
theorem dL_law_385 : decode cL_law 385 = .ok (.iconst 1, 1) := by decide +kernel
theorem dL_law_386 : decode cL_law 386 = .ok (.iadd, 1) := by decide +kernel
theorem dL_law_387 : decode cL_law 387 = .ok (.iaload, 1) := by decide +kernel
theorem dL_law_388 : decode cL_law 388 = .ok (.invokevirtual 39, 3) := by decide +kernel
theorem dL_law_391 : decode cL_law 391 = .ok (.if_icmp .eq 1291, 3) := by decide +kernel
theorem dL_law_394 : decode cL_law 394 = .ok (.iconst 0, 1) := by decide +kernel
theorem dL_law_395 : decode cL_law 395 = .ok (.ireturn, 1) := by decide +kernel
theorem dL_law_396 : decode cL_law 396 = .ok (.aload_n 1, 1) := by decide +kernel
theorem dL_law_397 : decode cL_law 397 = .ok (.aload_n 0, 1) := by decide +kernel
theorem dL_law_398 : decode cL_law 398 = .ok (.iload_n 3, 1) := by decide +kernel
theorem dL_law_399 : decode cL_law 399 = .ok (.iconst 1, 1) := by decide +kernel
theorem dL_law_400 : decode cL_law 400 = .ok (.iadd, 1) := by decide +kernel
theorem dL_law_401 : decode cL_law 401 = .ok (.iaload, 1) := by decide +kernel
theorem dL_law_402 : decode cL_law 402 = .ok (.aload_n 0, 1) := by decide +kernel
theorem dL_law_403 : decode cL_law 403 = .ok (.iload_n 3, 1) := by decide +kernel
theorem dL_law_404 : decode cL_law 404 = .ok (.iconst 2, 1) := by decide +kernel
theorem dL_law_405 : decode cL_law 405 = .ok (.iadd, 1) := by decide +kernel
theorem dL_law_406 : decode cL_law 406 = .ok (.iaload, 1) := by decide +kernel
theorem dL_law_407 : decode cL_law 407 = .ok (.invokevirtual 40, 3) := by decide +kernel
theorem dL_law_410 : decode cL_law 410 = .ok (.aload_n 2, 1) := by decide +kernel
theorem dL_law_411 : decode cL_law 411 = .ok (.aload_n 0, 1) := by decide +kernel
theorem dL_law_412 : decode cL_law 412 = .ok (.iload_n 3, 1) := by decide +kernel
theorem dL_law_413 : decode cL_law 413 = .ok (.iconst 1, 1) := by decide +kernel
theorem dL_law_414 : decode cL_law 414 = .ok (.iadd, 1) := by decide +kernel
theorem dL_law_415 : decode cL_law 415 = .ok (.iaload, 1) := by decide +kernel
theorem dL_law_416 : decode cL_law 416 = .ok (.aload_n 0, 1) := by decide +kernel
theorem dL_law_417 : decode cL_law 417 = .ok (.iload_n 3, 1) := by decide +kernel
theorem dL_law_418 : decode cL_law 418 = .ok (.iconst 2, 1) := by decide +kernel
theorem dL_law_419 : decode cL_law 419 = .ok (.iadd, 1) := by decide +kernel
theorem dL_law_420 : decode cL_law 420 = .ok (.iaload, 1) := by decide +kernel
theorem dL_law_421 : decode cL_law 421 = .ok (.invokevirtual 43, 3) := by decide +kernel
theorem dL_law_424 : decode cL_law 424 = .ok (.if_icmp .eq 1258, 3) := by decide +kernel
theorem dL_law_427 : decode cL_law 427 = .ok (.iconst 0, 1) := by decide +kernel
theorem dL_law_428 : decode cL_law 428 = .ok (.ireturn, 1) := by decide +kernel
theorem dL_law_429 : decode cL_law 429 = .ok (.aload_n 1, 1) := by decide +kernel
theorem dL_law_430 : decode cL_law 430 = .ok (.aload_n 0, 1) := by decide +kernel
theorem dL_law_431 : decode cL_law 431 = .ok (.iload_n 3, 1) := by decide +kernel
theorem dL_law_432 : decode cL_law 432 = .ok (.iconst 1, 1) := by decide +kernel
theorem dL_law_433 : decode cL_law 433 = .ok (.iadd, 1) := by decide +kernel
theorem dL_law_434 : decode cL_law 434 = .ok (.iaload, 1) := by decide +kernel
theorem dL_law_435 : decode cL_law 435 = .ok (.aload_n 0, 1) := by decide +kernel
theorem dL_law_436 : decode cL_law 436 = .ok (.iload_n 3, 1) := by decide +kernel
theorem dL_law_437 : decode cL_law 437 = .ok (.iconst 2, 1) := by decide +kernel
theorem dL_law_438 : decode cL_law 438 = .ok (.iadd, 1) := by decide +kernel
theorem dL_law_439 : decode cL_law 439 = .ok (.iaload, 1) := by decide +kernel
theorem dL_law_440 : decode cL_law 440 = .ok (.aload_n 0, 1) := by decide +kernel
theorem dL_law_441 : decode cL_law 441 = .ok (.iload_n 3, 1) := by decide +kernel
theorem dL_law_442 : decode cL_law 442 = .ok (.iconst 3, 1) := by decide +kernel
theorem dL_law_443 : decode cL_law 443 = .ok (.iadd, 1) := by decide +kernel
theorem dL_law_444 : decode cL_law 444 = .ok (.iaload, 1) := by decide +kernel
theorem dL_law_445 : decode cL_law 445 = .ok (.invokevirtual 44, 3) := by decide +kernel
theorem dL_law_448 : decode cL_law 448 = .ok (.aload_n 2, 1) := by decide +kernel
theorem dL_law_449 : decode cL_law 449 = .ok (.aload_n 0, 1) := by decide +kernel
theorem dL_law_450 : decode cL_law 450 = .ok (.iload_n 3, 1) := by decide +kernel
theorem dL_law_451 : decode cL_law 451 = .ok (.iconst 1, 1) := by decide +kernel
theorem dL_law_452 : decode cL_law 452 = .ok (.iadd, 1) := by decide +kernel
theorem dL_law_453 : decode cL_law 453 = .ok (.iaload, 1) := by decide +kernel
theorem dL_law_454 : decode cL_law 454 = .ok (.aload_n 0, 1) := by decide +kernel
theorem dL_law_455 : decode cL_law 455 = .ok (.iload_n 3, 1) := by decide +kernel
theorem dL_law_456 : decode cL_law 456 = .ok (.iconst 2, 1) := by decide +kernel
theorem dL_law_457 : decode cL_law 457 = .ok (.iadd, 1) := by decide +kernel
theorem dL_law_458 : decode cL_law 458 = .ok (.iaload, 1) := by decide +kernel
theorem dL_law_459 : decode cL_law 459 = .ok (.aload_n 0, 1) := by decide +kernel
theorem dL_law_460 : decode cL_law 460 = .ok (.iload_n 3, 1) := by decide +kernel
theorem dL_law_461 : decode cL_law 461 = .ok (.iconst 3, 1) := by decide +kernel
theorem dL_law_462 : decode cL_law 462 = .ok (.iadd, 1) := by decide +kernel
theorem dL_law_463 : decode cL_law 463 = .ok (.iaload, 1) := by decide +kernel
theorem dL_law_464 : decode cL_law 464 = .ok (.invokevirtual 47, 3) := by decide +kernel
theorem dL_law_467 : decode cL_law 467 = .ok (.if_icmp .eq 1215, 3) := by decide +kernel
theorem dL_law_470 : decode cL_law 470 = .ok (.iconst 0, 1) := by decide +kernel
theorem dL_law_471 : decode cL_law 471 = .ok (.ireturn, 1) := by decide +kernel
theorem dL_law_472 : decode cL_law 472 = .ok (.aload_n 1, 1) := by decide +kernel
theorem dL_law_473 : decode cL_law 473 = .ok (.aload_n 0, 1) := by decide +kernel
theorem dL_law_474 : decode cL_law 474 = .ok (.iload_n 3, 1) := by decide +kernel
theorem dL_law_475 : decode cL_law 475 = .ok (.iconst 1, 1) := by decide +kernel
theorem dL_law_476 : decode cL_law 476 = .ok (.iadd, 1) := by decide +kernel
theorem dL_law_477 : decode cL_law 477 = .ok (.iaload, 1) := by decide +kernel
theorem dL_law_478 : decode cL_law 478 = .ok (.aload_n 0, 1) := by decide +kernel
theorem dL_law_479 : decode cL_law 479 = .ok (.iload_n 3, 1) := by decide +kernel
theorem dL_law_480 : decode cL_law 480 = .ok (.iconst 2, 1) := by decide +kernel
theorem dL_law_481 : decode cL_law 481 = .ok (.iadd, 1) := by decide +kernel
theorem dL_law_482 : decode cL_law 482 = .ok (.iaload, 1) := by decide +kernel
theorem dL_law_483 : decode cL_law 483 = .ok (.aload_n 0, 1) := by decide +kernel
theorem dL_law_484 : decode cL_law 484 = .ok (.iload_n 3, 1) := by decide +kernel
theorem dL_law_485 : decode cL_law 485 = .ok (.iconst 3, 1) := by decide +kernel
theorem dL_law_486 : decode cL_law 486 = .ok (.iadd, 1) := by decide +kernel
theorem dL_law_487 : decode cL_law 487 = .ok (.iaload, 1) := by decide +kernel
theorem dL_law_488 : decode cL_law 488 = .ok (.invokevirtual 48, 3) := by decide +kernel
theorem dL_law_491 : decode cL_law 491 = .ok (.aload_n 2, 1) := by decide +kernel
theorem dL_law_492 : decode cL_law 492 = .ok (.aload_n 0, 1) := by decide +kernel
theorem dL_law_493 : decode cL_law 493 = .ok (.iload_n 3, 1) := by decide +kernel
theorem dL_law_494 : decode cL_law 494 = .ok (.iconst 1, 1) := by decide +kernel
theorem dL_law_495 : decode cL_law 495 = .ok (.iadd, 1) := by decide +kernel
theorem dL_law_496 : decode cL_law 496 = .ok (.iaload, 1) := by decide +kernel
theorem dL_law_497 : decode cL_law 497 = .ok (.aload_n 0, 1) := by decide +kernel
theorem dL_law_498 : decode cL_law 498 = .ok (.iload_n 3, 1) := by decide +kernel
theorem dL_law_499 : decode cL_law 499 = .ok (.iconst 2, 1) := by decide +kernel
theorem dL_law_500 : decode cL_law 500 = .ok (.iadd, 1) := by decide +kernel
theorem dL_law_501 : decode cL_law 501 = .ok (.iaload, 1) := by decide +kernel
theorem dL_law_502 : decode cL_law 502 = .ok (.aload_n 0, 1) := by decide +kernel
theorem dL_law_503 : decode cL_law 503 = .ok (.iload_n 3, 1) := by decide +kernel
theorem dL_law_504 : decode cL_law 504 = .ok (.iconst 3, 1) := by decide +kernel
theorem dL_law_505 : decode cL_law 505 = .ok (.iadd, 1) := by decide +kernel
theorem dL_law_506 : decode cL_law 506 = .ok (.iaload, 1) := by decide +kernel
theorem dL_law_507 : decode cL_law 507 = .ok (.invokevirtual 52, 3) := by decide +kernel
theorem dL_law_510 : decode cL_law 510 = .ok (.lcmp, 1) := by decide +kernel
theorem dL_law_511 : decode cL_law 511 = .ok (.ifCond .eq 1171, 3) := by decide +kernel
theorem dL_law_514 : decode cL_law 514 = .ok (.iconst 0, 1) := by decide +kernel
theorem dL_law_515 : decode cL_law 515 = .ok (.ireturn, 1) := by decide +kernel
theorem dL_law_516 : decode cL_law 516 = .ok (.aload_n 1, 1) := by decide +kernel
theorem dL_law_517 : decode cL_law 517 = .ok (.aload_n 0, 1) := by decide +kernel
theorem dL_law_518 : decode cL_law 518 = .ok (.iload_n 3, 1) := by decide +kernel
theorem dL_law_519 : decode cL_law 519 = .ok (.iconst 1, 1) := by decide +kernel
theorem dL_law_520 : decode cL_law 520 = .ok (.iadd, 1) := by decide +kernel
theorem dL_law_521 : decode cL_law 521 = .ok (.iaload, 1) := by decide +kernel
theorem dL_law_522 : decode cL_law 522 = .ok (.aload_n 0, 1) := by decide +kernel
theorem dL_law_523 : decode cL_law 523 = .ok (.iload_n 3, 1) := by decide +kernel
theorem dL_law_524 : decode cL_law 524 = .ok (.iconst 2, 1) := by decide +kernel
theorem dL_law_525 : decode cL_law 525 = .ok (.iadd, 1) := by decide +kernel
theorem dL_law_526 : decode cL_law 526 = .ok (.iaload, 1) := by decide +kernel
theorem dL_law_527 : decode cL_law 527 = .ok (.aload_n 0, 1) := by decide +kernel
theorem dL_law_528 : decode cL_law 528 = .ok (.iload_n 3, 1) := by decide +kernel
theorem dL_law_529 : decode cL_law 529 = .ok (.iconst 3, 1) := by decide +kernel
theorem dL_law_530 : decode cL_law 530 = .ok (.iadd, 1) := by decide +kernel
theorem dL_law_531 : decode cL_law 531 = .ok (.iaload, 1) := by decide +kernel
theorem dL_law_532 : decode cL_law 532 = .ok (.invokevirtual 53, 3) := by decide +kernel
theorem dL_law_535 : decode cL_law 535 = .ok (.aload_n 2, 1) := by decide +kernel
theorem dL_law_536 : decode cL_law 536 = .ok (.aload_n 0, 1) := by decide +kernel
theorem dL_law_537 : decode cL_law 537 = .ok (.iload_n 3, 1) := by decide +kernel
theorem dL_law_538 : decode cL_law 538 = .ok (.iconst 1, 1) := by decide +kernel
theorem dL_law_539 : decode cL_law 539 = .ok (.iadd, 1) := by decide +kernel
theorem dL_law_540 : decode cL_law 540 = .ok (.iaload, 1) := by decide +kernel
theorem dL_law_541 : decode cL_law 541 = .ok (.aload_n 0, 1) := by decide +kernel
theorem dL_law_542 : decode cL_law 542 = .ok (.iload_n 3, 1) := by decide +kernel
theorem dL_law_543 : decode cL_law 543 = .ok (.iconst 2, 1) := by decide +kernel
theorem dL_law_544 : decode cL_law 544 = .ok (.iadd, 1) := by decide +kernel
theorem dL_law_545 : decode cL_law 545 = .ok (.iaload, 1) := by decide +kernel
theorem dL_law_546 : decode cL_law 546 = .ok (.aload_n 0, 1) := by decide +kernel
theorem dL_law_547 : decode cL_law 547 = .ok (.iload_n 3, 1) := by decide +kernel
theorem dL_law_548 : decode cL_law 548 = .ok (.iconst 3, 1) := by decide +kernel
theorem dL_law_549 : decode cL_law 549 = .ok (.iadd, 1) := by decide +kernel
theorem dL_law_550 : decode cL_law 550 = .ok (.iaload, 1) := by decide +kernel
theorem dL_law_551 : decode cL_law 551 = .ok (.invokevirtual 56, 3) := by decide +kernel
theorem dL_law_554 : decode cL_law 554 = .ok (.if_icmp .eq 1128, 3) := by decide +kernel
theorem dL_law_557 : decode cL_law 557 = .ok (.iconst 0, 1) := by decide +kernel
theorem dL_law_558 : decode cL_law 558 = .ok (.ireturn, 1) := by decide +kernel
theorem dL_law_559 : decode cL_law 559 = .ok (.aload_n 1, 1) := by decide +kernel
theorem dL_law_560 : decode cL_law 560 = .ok (.aload_n 0, 1) := by decide +kernel
theorem dL_law_561 : decode cL_law 561 = .ok (.iload_n 3, 1) := by decide +kernel
theorem dL_law_562 : decode cL_law 562 = .ok (.iconst 1, 1) := by decide +kernel
theorem dL_law_563 : decode cL_law 563 = .ok (.iadd, 1) := by decide +kernel
theorem dL_law_564 : decode cL_law 564 = .ok (.iaload, 1) := by decide +kernel
theorem dL_law_565 : decode cL_law 565 = .ok (.aload_n 0, 1) := by decide +kernel
theorem dL_law_566 : decode cL_law 566 = .ok (.iload_n 3, 1) := by decide +kernel
theorem dL_law_567 : decode cL_law 567 = .ok (.iconst 2, 1) := by decide +kernel
theorem dL_law_568 : decode cL_law 568 = .ok (.iadd, 1) := by decide +kernel
theorem dL_law_569 : decode cL_law 569 = .ok (.iaload, 1) := by decide +kernel
theorem dL_law_570 : decode cL_law 570 = .ok (.aload_n 0, 1) := by decide +kernel
theorem dL_law_571 : decode cL_law 571 = .ok (.iload_n 3, 1) := by decide +kernel
theorem dL_law_572 : decode cL_law 572 = .ok (.iconst 3, 1) := by decide +kernel
theorem dL_law_573 : decode cL_law 573 = .ok (.iadd, 1) := by decide +kernel
theorem dL_law_574 : decode cL_law 574 = .ok (.iaload, 1) := by decide +kernel
theorem dL_law_575 : decode cL_law 575 = .ok (.invokevirtual 57, 3) := by decide +kernel
theorem dL_law_578 : decode cL_law 578 = .ok (.aload_n 2, 1) := by decide +kernel
theorem dL_law_579 : decode cL_law 579 = .ok (.aload_n 0, 1) := by decide +kernel
theorem dL_law_580 : decode cL_law 580 = .ok (.iload_n 3, 1) := by decide +kernel
theorem dL_law_581 : decode cL_law 581 = .ok (.iconst 1, 1) := by decide +kernel
theorem dL_law_582 : decode cL_law 582 = .ok (.iadd, 1) := by decide +kernel
theorem dL_law_583 : decode cL_law 583 = .ok (.iaload, 1) := by decide +kernel
theorem dL_law_584 : decode cL_law 584 = .ok (.aload_n 0, 1) := by decide +kernel
theorem dL_law_585 : decode cL_law 585 = .ok (.iload_n 3, 1) := by decide +kernel
theorem dL_law_586 : decode cL_law 586 = .ok (.iconst 2, 1) := by decide +kernel
theorem dL_law_587 : decode cL_law 587 = .ok (.iadd, 1) := by decide +kernel
theorem dL_law_588 : decode cL_law 588 = .ok (.iaload, 1) := by decide +kernel
theorem dL_law_589 : decode cL_law 589 = .ok (.aload_n 0, 1) := by decide +kernel
theorem dL_law_590 : decode cL_law 590 = .ok (.iload_n 3, 1) := by decide +kernel
theorem dL_law_591 : decode cL_law 591 = .ok (.iconst 3, 1) := by decide +kernel
theorem dL_law_592 : decode cL_law 592 = .ok (.iadd, 1) := by decide +kernel
theorem dL_law_593 : decode cL_law 593 = .ok (.iaload, 1) := by decide +kernel
theorem dL_law_594 : decode cL_law 594 = .ok (.invokevirtual 60, 3) := by decide +kernel
theorem dL_law_597 : decode cL_law 597 = .ok (.if_icmp .eq 1085, 3) := by decide +kernel
theorem dL_law_600 : decode cL_law 600 = .ok (.iconst 0, 1) := by decide +kernel
theorem dL_law_601 : decode cL_law 601 = .ok (.ireturn, 1) := by decide +kernel
theorem dL_law_602 : decode cL_law 602 = .ok (.aload_n 1, 1) := by decide +kernel
theorem dL_law_603 : decode cL_law 603 = .ok (.aload_n 0, 1) := by decide +kernel
theorem dL_law_604 : decode cL_law 604 = .ok (.iload_n 3, 1) := by decide +kernel
theorem dL_law_605 : decode cL_law 605 = .ok (.iconst 1, 1) := by decide +kernel
theorem dL_law_606 : decode cL_law 606 = .ok (.iadd, 1) := by decide +kernel
theorem dL_law_607 : decode cL_law 607 = .ok (.iaload, 1) := by decide +kernel
theorem dL_law_608 : decode cL_law 608 = .ok (.aload_n 0, 1) := by decide +kernel
theorem dL_law_609 : decode cL_law 609 = .ok (.iload_n 3, 1) := by decide +kernel
theorem dL_law_610 : decode cL_law 610 = .ok (.iconst 2, 1) := by decide +kernel
theorem dL_law_611 : decode cL_law 611 = .ok (.iadd, 1) := by decide +kernel
theorem dL_law_612 : decode cL_law 612 = .ok (.iaload, 1) := by decide +kernel
theorem dL_law_613 : decode cL_law 613 = .ok (.aload_n 0, 1) := by decide +kernel
theorem dL_law_614 : decode cL_law 614 = .ok (.iload_n 3, 1) := by decide +kernel
theorem dL_law_615 : decode cL_law 615 = .ok (.iconst 3, 1) := by decide +kernel
theorem dL_law_616 : decode cL_law 616 = .ok (.iadd, 1) := by decide +kernel
theorem dL_law_617 : decode cL_law 617 = .ok (.iaload, 1) := by decide +kernel
theorem dL_law_618 : decode cL_law 618 = .ok (.aload_n 0, 1) := by decide +kernel
theorem dL_law_619 : decode cL_law 619 = .ok (.iload_n 3, 1) := by decide +kernel
theorem dL_law_620 : decode cL_law 620 = .ok (.iconst 4, 1) := by decide +kernel
theorem dL_law_621 : decode cL_law 621 = .ok (.iadd, 1) := by decide +kernel
theorem dL_law_622 : decode cL_law 622 = .ok (.iaload, 1) := by decide +kernel
theorem dL_law_623 : decode cL_law 623 = .ok (.invokevirtual 61, 3) := by decide +kernel
theorem dL_law_626 : decode cL_law 626 = .ok (.aload_n 2, 1) := by decide +kernel
theorem dL_law_627 : decode cL_law 627 = .ok (.aload_n 0, 1) := by decide +kernel
theorem dL_law_628 : decode cL_law 628 = .ok (.iload_n 3, 1) := by decide +kernel
theorem dL_law_629 : decode cL_law 629 = .ok (.iconst 1, 1) := by decide +kernel
theorem dL_law_630 : decode cL_law 630 = .ok (.iadd, 1) := by decide +kernel
theorem dL_law_631 : decode cL_law 631 = .ok (.iaload, 1) := by decide +kernel
theorem dL_law_632 : decode cL_law 632 = .ok (.aload_n 0, 1) := by decide +kernel
theorem dL_law_633 : decode cL_law 633 = .ok (.iload_n 3, 1) := by decide +kernel
theorem dL_law_634 : decode cL_law 634 = .ok (.iconst 2, 1) := by decide +kernel
theorem dL_law_635 : decode cL_law 635 = .ok (.iadd, 1) := by decide +kernel
theorem dL_law_636 : decode cL_law 636 = .ok (.iaload, 1) := by decide +kernel
theorem dL_law_637 : decode cL_law 637 = .ok (.aload_n 0, 1) := by decide +kernel
theorem dL_law_638 : decode cL_law 638 = .ok (.iload_n 3, 1) := by decide +kernel
theorem dL_law_639 : decode cL_law 639 = .ok (.iconst 3, 1) := by decide +kernel
theorem dL_law_640 : decode cL_law 640 = .ok (.iadd, 1) := by decide +kernel
theorem dL_law_641 : decode cL_law 641 = .ok (.iaload, 1) := by decide +kernel
theorem dL_law_642 : decode cL_law 642 = .ok (.aload_n 0, 1) := by decide +kernel
theorem dL_law_643 : decode cL_law 643 = .ok (.iload_n 3, 1) := by decide +kernel
theorem dL_law_644 : decode cL_law 644 = .ok (.iconst 4, 1) := by decide +kernel
theorem dL_law_645 : decode cL_law 645 = .ok (.iadd, 1) := by decide +kernel
theorem dL_law_646 : decode cL_law 646 = .ok (.iaload, 1) := by decide +kernel
theorem dL_law_647 : decode cL_law 647 = .ok (.invokevirtual 65, 3) := by decide +kernel
theorem dL_law_650 : decode cL_law 650 = .ok (.lcmp, 1) := by decide +kernel
theorem dL_law_651 : decode cL_law 651 = .ok (.ifCond .eq 1031, 3) := by decide +kernel
theorem dL_law_654 : decode cL_law 654 = .ok (.iconst 0, 1) := by decide +kernel
theorem dL_law_655 : decode cL_law 655 = .ok (.ireturn, 1) := by decide +kernel
theorem dL_law_656 : decode cL_law 656 = .ok (.aload_n 1, 1) := by decide +kernel
theorem dL_law_657 : decode cL_law 657 = .ok (.aload_n 0, 1) := by decide +kernel
theorem dL_law_658 : decode cL_law 658 = .ok (.iload_n 3, 1) := by decide +kernel
theorem dL_law_659 : decode cL_law 659 = .ok (.iconst 1, 1) := by decide +kernel
theorem dL_law_660 : decode cL_law 660 = .ok (.iadd, 1) := by decide +kernel
theorem dL_law_661 : decode cL_law 661 = .ok (.iaload, 1) := by decide +kernel
theorem dL_law_662 : decode cL_law 662 = .ok (.aload_n 0, 1) := by decide +kernel
theorem dL_law_663 : decode cL_law 663 = .ok (.iload_n 3, 1) := by decide +kernel
theorem dL_law_664 : decode cL_law 664 = .ok (.iconst 2, 1) := by decide +kernel
theorem dL_law_665 : decode cL_law 665 = .ok (.iadd, 1) := by decide +kernel
theorem dL_law_666 : decode cL_law 666 = .ok (.iaload, 1) := by decide +kernel
theorem dL_law_667 : decode cL_law 667 = .ok (.aload_n 0, 1) := by decide +kernel
theorem dL_law_668 : decode cL_law 668 = .ok (.iload_n 3, 1) := by decide +kernel
theorem dL_law_669 : decode cL_law 669 = .ok (.iconst 3, 1) := by decide +kernel
theorem dL_law_670 : decode cL_law 670 = .ok (.iadd, 1) := by decide +kernel
theorem dL_law_671 : decode cL_law 671 = .ok (.iaload, 1) := by decide +kernel
theorem dL_law_672 : decode cL_law 672 = .ok (.aload_n 0, 1) := by decide +kernel
theorem dL_law_673 : decode cL_law 673 = .ok (.iload_n 3, 1) := by decide +kernel
theorem dL_law_674 : decode cL_law 674 = .ok (.iconst 4, 1) := by decide +kernel
theorem dL_law_675 : decode cL_law 675 = .ok (.iadd, 1) := by decide +kernel
theorem dL_law_676 : decode cL_law 676 = .ok (.iaload, 1) := by decide +kernel
theorem dL_law_677 : decode cL_law 677 = .ok (.aload_n 0, 1) := by decide +kernel
theorem dL_law_678 : decode cL_law 678 = .ok (.iload_n 3, 1) := by decide +kernel
theorem dL_law_679 : decode cL_law 679 = .ok (.iconst 5, 1) := by decide +kernel
theorem dL_law_680 : decode cL_law 680 = .ok (.iadd, 1) := by decide +kernel
theorem dL_law_681 : decode cL_law 681 = .ok (.iaload, 1) := by decide +kernel
theorem dL_law_682 : decode cL_law 682 = .ok (.invokevirtual 66, 3) := by decide +kernel
theorem dL_law_685 : decode cL_law 685 = .ok (.aload_n 2, 1) := by decide +kernel
theorem dL_law_686 : decode cL_law 686 = .ok (.aload_n 0, 1) := by decide +kernel
theorem dL_law_687 : decode cL_law 687 = .ok (.iload_n 3, 1) := by decide +kernel
theorem dL_law_688 : decode cL_law 688 = .ok (.iconst 1, 1) := by decide +kernel
theorem dL_law_689 : decode cL_law 689 = .ok (.iadd, 1) := by decide +kernel
theorem dL_law_690 : decode cL_law 690 = .ok (.iaload, 1) := by decide +kernel
theorem dL_law_691 : decode cL_law 691 = .ok (.aload_n 0, 1) := by decide +kernel
theorem dL_law_692 : decode cL_law 692 = .ok (.iload_n 3, 1) := by decide +kernel
theorem dL_law_693 : decode cL_law 693 = .ok (.iconst 2, 1) := by decide +kernel
theorem dL_law_694 : decode cL_law 694 = .ok (.iadd, 1) := by decide +kernel
theorem dL_law_695 : decode cL_law 695 = .ok (.iaload, 1) := by decide +kernel
theorem dL_law_696 : decode cL_law 696 = .ok (.aload_n 0, 1) := by decide +kernel
theorem dL_law_697 : decode cL_law 697 = .ok (.iload_n 3, 1) := by decide +kernel
theorem dL_law_698 : decode cL_law 698 = .ok (.iconst 3, 1) := by decide +kernel
theorem dL_law_699 : decode cL_law 699 = .ok (.iadd, 1) := by decide +kernel
theorem dL_law_700 : decode cL_law 700 = .ok (.iaload, 1) := by decide +kernel
theorem dL_law_701 : decode cL_law 701 = .ok (.aload_n 0, 1) := by decide +kernel
theorem dL_law_702 : decode cL_law 702 = .ok (.iload_n 3, 1) := by decide +kernel
theorem dL_law_703 : decode cL_law 703 = .ok (.iconst 4, 1) := by decide +kernel
theorem dL_law_704 : decode cL_law 704 = .ok (.iadd, 1) := by decide +kernel
theorem dL_law_705 : decode cL_law 705 = .ok (.iaload, 1) := by decide +kernel
theorem dL_law_706 : decode cL_law 706 = .ok (.aload_n 0, 1) := by decide +kernel
theorem dL_law_707 : decode cL_law 707 = .ok (.iload_n 3, 1) := by decide +kernel
theorem dL_law_708 : decode cL_law 708 = .ok (.iconst 5, 1) := by decide +kernel
theorem dL_law_709 : decode cL_law 709 = .ok (.iadd, 1) := by decide +kernel
theorem dL_law_710 : decode cL_law 710 = .ok (.iaload, 1) := by decide +kernel
theorem dL_law_711 : decode cL_law 711 = .ok (.invokevirtual 70, 3) := by decide +kernel
theorem dL_law_714 : decode cL_law 714 = .ok (.if_icmp .eq 968, 3) := by decide +kernel
theorem dL_law_717 : decode cL_law 717 = .ok (.iconst 0, 1) := by decide +kernel
theorem dL_law_718 : decode cL_law 718 = .ok (.ireturn, 1) := by decide +kernel
theorem dL_law_719 : decode cL_law 719 = .ok (.aload_n 1, 1) := by decide +kernel
theorem dL_law_720 : decode cL_law 720 = .ok (.aload_n 0, 1) := by decide +kernel
theorem dL_law_721 : decode cL_law 721 = .ok (.iload_n 3, 1) := by decide +kernel
theorem dL_law_722 : decode cL_law 722 = .ok (.iconst 1, 1) := by decide +kernel
theorem dL_law_723 : decode cL_law 723 = .ok (.iadd, 1) := by decide +kernel
theorem dL_law_724 : decode cL_law 724 = .ok (.iaload, 1) := by decide +kernel
theorem dL_law_725 : decode cL_law 725 = .ok (.aload_n 0, 1) := by decide +kernel
theorem dL_law_726 : decode cL_law 726 = .ok (.iload_n 3, 1) := by decide +kernel
theorem dL_law_727 : decode cL_law 727 = .ok (.iconst 2, 1) := by decide +kernel
theorem dL_law_728 : decode cL_law 728 = .ok (.iadd, 1) := by decide +kernel
theorem dL_law_729 : decode cL_law 729 = .ok (.iaload, 1) := by decide +kernel
theorem dL_law_730 : decode cL_law 730 = .ok (.aload_n 0, 1) := by decide +kernel
theorem dL_law_731 : decode cL_law 731 = .ok (.iload_n 3, 1) := by decide +kernel
theorem dL_law_732 : decode cL_law 732 = .ok (.iconst 3, 1) := by decide +kernel
theorem dL_law_733 : decode cL_law 733 = .ok (.iadd, 1) := by decide +kernel
theorem dL_law_734 : decode cL_law 734 = .ok (.iaload, 1) := by decide +kernel
theorem dL_law_735 : decode cL_law 735 = .ok (.aload_n 0, 1) := by decide +kernel
theorem dL_law_736 : decode cL_law 736 = .ok (.iload_n 3, 1) := by decide +kernel
theorem dL_law_737 : decode cL_law 737 = .ok (.iconst 4, 1) := by decide +kernel
theorem dL_law_738 : decode cL_law 738 = .ok (.iadd, 1) := by decide +kernel
theorem dL_law_739 : decode cL_law 739 = .ok (.iaload, 1) := by decide +kernel
theorem dL_law_740 : decode cL_law 740 = .ok (.aload_n 0, 1) := by decide +kernel
theorem dL_law_741 : decode cL_law 741 = .ok (.iload_n 3, 1) := by decide +kernel
theorem dL_law_742 : decode cL_law 742 = .ok (.iconst 5, 1) := by decide +kernel
theorem dL_law_743 : decode cL_law 743 = .ok (.iadd, 1) := by decide +kernel
theorem dL_law_744 : decode cL_law 744 = .ok (.iaload, 1) := by decide +kernel
theorem dL_law_745 : decode cL_law 745 = .ok (.invokevirtual 71, 3) := by decide +kernel
theorem dL_law_748 : decode cL_law 748 = .ok (.aload_n 2, 1) := by decide +kernel
theorem dL_law_749 : decode cL_law 749 = .ok (.aload_n 0, 1) := by decide +kernel
theorem dL_law_750 : decode cL_law 750 = .ok (.iload_n 3, 1) := by decide +kernel
theorem dL_law_751 : decode cL_law 751 = .ok (.iconst 1, 1) := by decide +kernel
theorem dL_law_752 : decode cL_law 752 = .ok (.iadd, 1) := by decide +kernel
theorem dL_law_753 : decode cL_law 753 = .ok (.iaload, 1) := by decide +kernel
theorem dL_law_754 : decode cL_law 754 = .ok (.aload_n 0, 1) := by decide +kernel
theorem dL_law_755 : decode cL_law 755 = .ok (.iload_n 3, 1) := by decide +kernel
theorem dL_law_756 : decode cL_law 756 = .ok (.iconst 2, 1) := by decide +kernel
theorem dL_law_757 : decode cL_law 757 = .ok (.iadd, 1) := by decide +kernel
theorem dL_law_758 : decode cL_law 758 = .ok (.iaload, 1) := by decide +kernel
theorem dL_law_759 : decode cL_law 759 = .ok (.aload_n 0, 1) := by decide +kernel
theorem dL_law_760 : decode cL_law 760 = .ok (.iload_n 3, 1) := by decide +kernel
theorem dL_law_761 : decode cL_law 761 = .ok (.iconst 3, 1) := by decide +kernel
theorem dL_law_762 : decode cL_law 762 = .ok (.iadd, 1) := by decide +kernel
theorem dL_law_763 : decode cL_law 763 = .ok (.iaload, 1) := by decide +kernel
theorem dL_law_764 : decode cL_law 764 = .ok (.aload_n 0, 1) := by decide +kernel
theorem dL_law_765 : decode cL_law 765 = .ok (.iload_n 3, 1) := by decide +kernel
theorem dL_law_766 : decode cL_law 766 = .ok (.iconst 4, 1) := by decide +kernel
theorem dL_law_767 : decode cL_law 767 = .ok (.iadd, 1) := by decide +kernel
theorem dL_law_768 : decode cL_law 768 = .ok (.iaload, 1) := by decide +kernel
theorem dL_law_769 : decode cL_law 769 = .ok (.aload_n 0, 1) := by decide +kernel
theorem dL_law_770 : decode cL_law 770 = .ok (.iload_n 3, 1) := by decide +kernel
theorem dL_law_771 : decode cL_law 771 = .ok (.iconst 5, 1) := by decide +kernel
theorem dL_law_772 : decode cL_law 772 = .ok (.iadd, 1) := by decide +kernel
theorem dL_law_773 : decode cL_law 773 = .ok (.iaload, 1) := by decide +kernel
theorem dL_law_774 : decode cL_law 774 = .ok (.invokevirtual 74, 3) := by decide +kernel
theorem dL_law_777 : decode cL_law 777 = .ok (.if_icmp .eq 905, 3) := by decide +kernel
theorem dL_law_780 : decode cL_law 780 = .ok (.iconst 0, 1) := by decide +kernel
theorem dL_law_781 : decode cL_law 781 = .ok (.ireturn, 1) := by decide +kernel
theorem dL_law_782 : decode cL_law 782 = .ok (.aload_n 1, 1) := by decide +kernel
theorem dL_law_783 : decode cL_law 783 = .ok (.aload_n 0, 1) := by decide +kernel
theorem dL_law_784 : decode cL_law 784 = .ok (.iload_n 3, 1) := by decide +kernel
theorem dL_law_785 : decode cL_law 785 = .ok (.iconst 1, 1) := by decide +kernel
theorem dL_law_786 : decode cL_law 786 = .ok (.iadd, 1) := by decide +kernel
theorem dL_law_787 : decode cL_law 787 = .ok (.iaload, 1) := by decide +kernel
theorem dL_law_788 : decode cL_law 788 = .ok (.aload_n 0, 1) := by decide +kernel
theorem dL_law_789 : decode cL_law 789 = .ok (.iload_n 3, 1) := by decide +kernel
theorem dL_law_790 : decode cL_law 790 = .ok (.iconst 2, 1) := by decide +kernel
theorem dL_law_791 : decode cL_law 791 = .ok (.iadd, 1) := by decide +kernel
theorem dL_law_792 : decode cL_law 792 = .ok (.iaload, 1) := by decide +kernel
theorem dL_law_793 : decode cL_law 793 = .ok (.aload_n 0, 1) := by decide +kernel
theorem dL_law_794 : decode cL_law 794 = .ok (.iload_n 3, 1) := by decide +kernel
theorem dL_law_795 : decode cL_law 795 = .ok (.iconst 3, 1) := by decide +kernel
theorem dL_law_796 : decode cL_law 796 = .ok (.iadd, 1) := by decide +kernel
theorem dL_law_797 : decode cL_law 797 = .ok (.iaload, 1) := by decide +kernel
theorem dL_law_798 : decode cL_law 798 = .ok (.invokevirtual 75, 3) := by decide +kernel
theorem dL_law_801 : decode cL_law 801 = .ok (.aload_n 2, 1) := by decide +kernel
theorem dL_law_802 : decode cL_law 802 = .ok (.aload_n 0, 1) := by decide +kernel
theorem dL_law_803 : decode cL_law 803 = .ok (.iload_n 3, 1) := by decide +kernel
theorem dL_law_804 : decode cL_law 804 = .ok (.iconst 1, 1) := by decide +kernel
theorem dL_law_805 : decode cL_law 805 = .ok (.iadd, 1) := by decide +kernel
theorem dL_law_806 : decode cL_law 806 = .ok (.iaload, 1) := by decide +kernel
theorem dL_law_807 : decode cL_law 807 = .ok (.aload_n 0, 1) := by decide +kernel
theorem dL_law_808 : decode cL_law 808 = .ok (.iload_n 3, 1) := by decide +kernel
theorem dL_law_809 : decode cL_law 809 = .ok (.iconst 2, 1) := by decide +kernel
theorem dL_law_810 : decode cL_law 810 = .ok (.iadd, 1) := by decide +kernel
theorem dL_law_811 : decode cL_law 811 = .ok (.iaload, 1) := by decide +kernel
theorem dL_law_812 : decode cL_law 812 = .ok (.aload_n 0, 1) := by decide +kernel
theorem dL_law_813 : decode cL_law 813 = .ok (.iload_n 3, 1) := by decide +kernel
theorem dL_law_814 : decode cL_law 814 = .ok (.iconst 3, 1) := by decide +kernel
theorem dL_law_815 : decode cL_law 815 = .ok (.iadd, 1) := by decide +kernel
theorem dL_law_816 : decode cL_law 816 = .ok (.iaload, 1) := by decide +kernel
theorem dL_law_817 : decode cL_law 817 = .ok (.invokevirtual 78, 3) := by decide +kernel
theorem dL_law_820 : decode cL_law 820 = .ok (.if_icmp .eq 862, 3) := by decide +kernel
theorem dL_law_823 : decode cL_law 823 = .ok (.iconst 0, 1) := by decide +kernel
theorem dL_law_824 : decode cL_law 824 = .ok (.ireturn, 1) := by decide +kernel
theorem dL_law_825 : decode cL_law 825 = .ok (.aload_n 1, 1) := by decide +kernel
theorem dL_law_826 : decode cL_law 826 = .ok (.aload_n 0, 1) := by decide +kernel
theorem dL_law_827 : decode cL_law 827 = .ok (.iload_n 3, 1) := by decide +kernel
theorem dL_law_828 : decode cL_law 828 = .ok (.iconst 1, 1) := by decide +kernel
theorem dL_law_829 : decode cL_law 829 = .ok (.iadd, 1) := by decide +kernel
theorem dL_law_830 : decode cL_law 830 = .ok (.iaload, 1) := by decide +kernel
theorem dL_law_831 : decode cL_law 831 = .ok (.aload_n 0, 1) := by decide +kernel
theorem dL_law_832 : decode cL_law 832 = .ok (.iload_n 3, 1) := by decide +kernel
theorem dL_law_833 : decode cL_law 833 = .ok (.iconst 2, 1) := by decide +kernel
theorem dL_law_834 : decode cL_law 834 = .ok (.iadd, 1) := by decide +kernel
theorem dL_law_835 : decode cL_law 835 = .ok (.iaload, 1) := by decide +kernel
theorem dL_law_836 : decode cL_law 836 = .ok (.invokevirtual 79, 3) := by decide +kernel
theorem dL_law_839 : decode cL_law 839 = .ok (.aload_n 2, 1) := by decide +kernel
theorem dL_law_840 : decode cL_law 840 = .ok (.aload_n 0, 1) := by decide +kernel
theorem dL_law_841 : decode cL_law 841 = .ok (.iload_n 3, 1) := by decide +kernel
theorem dL_law_842 : decode cL_law 842 = .ok (.iconst 1, 1) := by decide +kernel
theorem dL_law_843 : decode cL_law 843 = .ok (.iadd, 1) := by decide +kernel
theorem dL_law_844 : decode cL_law 844 = .ok (.iaload, 1) := by decide +kernel
theorem dL_law_845 : decode cL_law 845 = .ok (.aload_n 0, 1) := by decide +kernel
theorem dL_law_846 : decode cL_law 846 = .ok (.iload_n 3, 1) := by decide +kernel
theorem dL_law_847 : decode cL_law 847 = .ok (.iconst 2, 1) := by decide +kernel
theorem dL_law_848 : decode cL_law 848 = .ok (.iadd, 1) := by decide +kernel
theorem dL_law_849 : decode cL_law 849 = .ok (.iaload, 1) := by decide +kernel
theorem dL_law_850 : decode cL_law 850 = .ok (.invokevirtual 82, 3) := by decide +kernel
theorem dL_law_853 : decode cL_law 853 = .ok (.if_icmp .eq 829, 3) := by decide +kernel
theorem dL_law_856 : decode cL_law 856 = .ok (.iconst 0, 1) := by decide +kernel
theorem dL_law_857 : decode cL_law 857 = .ok (.ireturn, 1) := by decide +kernel
theorem dL_law_858 : decode cL_law 858 = .ok (.aload_n 1, 1) := by decide +kernel
theorem dL_law_859 : decode cL_law 859 = .ok (.aload_n 0, 1) := by decide +kernel
theorem dL_law_860 : decode cL_law 860 = .ok (.iload_n 3, 1) := by decide +kernel
theorem dL_law_861 : decode cL_law 861 = .ok (.iconst 1, 1) := by decide +kernel
theorem dL_law_862 : decode cL_law 862 = .ok (.iadd, 1) := by decide +kernel
theorem dL_law_863 : decode cL_law 863 = .ok (.iaload, 1) := by decide +kernel
theorem dL_law_864 : decode cL_law 864 = .ok (.invokevirtual 83, 3) := by decide +kernel
theorem dL_law_867 : decode cL_law 867 = .ok (.aload_n 2, 1) := by decide +kernel
theorem dL_law_868 : decode cL_law 868 = .ok (.aload_n 0, 1) := by decide +kernel
theorem dL_law_869 : decode cL_law 869 = .ok (.iload_n 3, 1) := by decide +kernel
theorem dL_law_870 : decode cL_law 870 = .ok (.iconst 1, 1) := by decide +kernel
theorem dL_law_871 : decode cL_law 871 = .ok (.iadd, 1) := by decide +kernel
theorem dL_law_872 : decode cL_law 872 = .ok (.iaload, 1) := by decide +kernel
theorem dL_law_873 : decode cL_law 873 = .ok (.invokevirtual 86, 3) := by decide +kernel
theorem dL_law_876 : decode cL_law 876 = .ok (.if_icmp .eq 806, 3) := by decide +kernel
theorem dL_law_879 : decode cL_law 879 = .ok (.iconst 0, 1) := by decide +kernel
theorem dL_law_880 : decode cL_law 880 = .ok (.ireturn, 1) := by decide +kernel
theorem dL_law_881 : decode cL_law 881 = .ok (.aload_n 1, 1) := by decide +kernel
theorem dL_law_882 : decode cL_law 882 = .ok (.aload_n 0, 1) := by decide +kernel
theorem dL_law_883 : decode cL_law 883 = .ok (.iload_n 3, 1) := by decide +kernel
theorem dL_law_884 : decode cL_law 884 = .ok (.iconst 1, 1) := by decide +kernel
theorem dL_law_885 : decode cL_law 885 = .ok (.iadd, 1) := by decide +kernel
theorem dL_law_886 : decode cL_law 886 = .ok (.iaload, 1) := by decide +kernel
theorem dL_law_887 : decode cL_law 887 = .ok (.invokevirtual 87, 3) := by decide +kernel
theorem dL_law_890 : decode cL_law 890 = .ok (.aload_n 2, 1) := by decide +kernel
theorem dL_law_891 : decode cL_law 891 = .ok (.aload_n 0, 1) := by decide +kernel
theorem dL_law_892 : decode cL_law 892 = .ok (.iload_n 3, 1) := by decide +kernel
theorem dL_law_893 : decode cL_law 893 = .ok (.iconst 1, 1) := by decide +kernel
theorem dL_law_894 : decode cL_law 894 = .ok (.iadd, 1) := by decide +kernel
theorem dL_law_895 : decode cL_law 895 = .ok (.iaload, 1) := by decide +kernel
theorem dL_law_896 : decode cL_law 896 = .ok (.invokevirtual 90, 3) := by decide +kernel
theorem dL_law_899 : decode cL_law 899 = .ok (.if_icmp .eq 783, 3) := by decide +kernel
theorem dL_law_902 : decode cL_law 902 = .ok (.iconst 0, 1) := by decide +kernel
theorem dL_law_903 : decode cL_law 903 = .ok (.ireturn, 1) := by decide +kernel
theorem dL_law_904 : decode cL_law 904 = .ok (.aload_n 1, 1) := by decide +kernel
theorem dL_law_905 : decode cL_law 905 = .ok (.invokevirtual 91, 3) := by decide +kernel
theorem dL_law_908 : decode cL_law 908 = .ok (.aload_n 2, 1) := by decide +kernel
theorem dL_law_909 : decode cL_law 909 = .ok (.invokevirtual 95, 3) := by decide +kernel
theorem dL_law_912 : decode cL_law 912 = .ok (.if_icmp .eq 770, 3) := by decide +kernel
theorem dL_law_915 : decode cL_law 915 = .ok (.iconst 0, 1) := by decide +kernel
theorem dL_law_916 : decode cL_law 916 = .ok (.ireturn, 1) := by decide +kernel
theorem dL_law_917 : decode cL_law 917 = .ok (.aload_n 1, 1) := by decide +kernel
theorem dL_law_918 : decode cL_law 918 = .ok (.aload_n 0, 1) := by decide +kernel
theorem dL_law_919 : decode cL_law 919 = .ok (.iload_n 3, 1) := by decide +kernel
theorem dL_law_920 : decode cL_law 920 = .ok (.iconst 1, 1) := by decide +kernel
theorem dL_law_921 : decode cL_law 921 = .ok (.iadd, 1) := by decide +kernel
theorem dL_law_922 : decode cL_law 922 = .ok (.iaload, 1) := by decide +kernel
theorem dL_law_923 : decode cL_law 923 = .ok (.aload_n 0, 1) := by decide +kernel
theorem dL_law_924 : decode cL_law 924 = .ok (.iload_n 3, 1) := by decide +kernel
theorem dL_law_925 : decode cL_law 925 = .ok (.iconst 2, 1) := by decide +kernel
theorem dL_law_926 : decode cL_law 926 = .ok (.iadd, 1) := by decide +kernel
theorem dL_law_927 : decode cL_law 927 = .ok (.iaload, 1) := by decide +kernel
theorem dL_law_928 : decode cL_law 928 = .ok (.invokevirtual 96, 3) := by decide +kernel
theorem dL_law_931 : decode cL_law 931 = .ok (.aload_n 2, 1) := by decide +kernel
theorem dL_law_932 : decode cL_law 932 = .ok (.aload_n 0, 1) := by decide +kernel
theorem dL_law_933 : decode cL_law 933 = .ok (.iload_n 3, 1) := by decide +kernel
theorem dL_law_934 : decode cL_law 934 = .ok (.iconst 1, 1) := by decide +kernel
theorem dL_law_935 : decode cL_law 935 = .ok (.iadd, 1) := by decide +kernel
theorem dL_law_936 : decode cL_law 936 = .ok (.iaload, 1) := by decide +kernel
theorem dL_law_937 : decode cL_law 937 = .ok (.aload_n 0, 1) := by decide +kernel
theorem dL_law_938 : decode cL_law 938 = .ok (.iload_n 3, 1) := by decide +kernel
theorem dL_law_939 : decode cL_law 939 = .ok (.iconst 2, 1) := by decide +kernel
theorem dL_law_940 : decode cL_law 940 = .ok (.iadd, 1) := by decide +kernel
theorem dL_law_941 : decode cL_law 941 = .ok (.iaload, 1) := by decide +kernel
theorem dL_law_942 : decode cL_law 942 = .ok (.invokevirtual 99, 3) := by decide +kernel
theorem dL_law_945 : decode cL_law 945 = .ok (.if_icmp .eq 737, 3) := by decide +kernel
theorem dL_law_948 : decode cL_law 948 = .ok (.iconst 0, 1) := by decide +kernel
theorem dL_law_949 : decode cL_law 949 = .ok (.ireturn, 1) := by decide +kernel
theorem dL_law_950 : decode cL_law 950 = .ok (.aload_n 1, 1) := by decide +kernel
theorem dL_law_951 : decode cL_law 951 = .ok (.aload_n 0, 1) := by decide +kernel
theorem dL_law_952 : decode cL_law 952 = .ok (.iload_n 3, 1) := by decide +kernel
theorem dL_law_953 : decode cL_law 953 = .ok (.iconst 1, 1) := by decide +kernel
theorem dL_law_954 : decode cL_law 954 = .ok (.iadd, 1) := by decide +kernel
theorem dL_law_955 : decode cL_law 955 = .ok (.iaload, 1) := by decide +kernel
theorem dL_law_956 : decode cL_law 956 = .ok (.aload_n 0, 1) := by decide +kernel
theorem dL_law_957 : decode cL_law 957 = .ok (.iload_n 3, 1) := by decide +kernel
theorem dL_law_958 : decode cL_law 958 = .ok (.iconst 2, 1) := by decide +kernel
theorem dL_law_959 : decode cL_law 959 = .ok (.iadd, 1) := by decide +kernel
theorem dL_law_960 : decode cL_law 960 = .ok (.iaload, 1) := by decide +kernel
theorem dL_law_961 : decode cL_law 961 = .ok (.aload_n 0, 1) := by decide +kernel
theorem dL_law_962 : decode cL_law 962 = .ok (.iload_n 3, 1) := by decide +kernel
theorem dL_law_963 : decode cL_law 963 = .ok (.iconst 3, 1) := by decide +kernel
theorem dL_law_964 : decode cL_law 964 = .ok (.iadd, 1) := by decide +kernel
theorem dL_law_965 : decode cL_law 965 = .ok (.iaload, 1) := by decide +kernel
theorem dL_law_966 : decode cL_law 966 = .ok (.aload_n 0, 1) := by decide +kernel
theorem dL_law_967 : decode cL_law 967 = .ok (.iload_n 3, 1) := by decide +kernel
theorem dL_law_968 : decode cL_law 968 = .ok (.iconst 4, 1) := by decide +kernel
theorem dL_law_969 : decode cL_law 969 = .ok (.iadd, 1) := by decide +kernel
theorem dL_law_970 : decode cL_law 970 = .ok (.iaload, 1) := by decide +kernel
theorem dL_law_971 : decode cL_law 971 = .ok (.invokevirtual 100, 3) := by decide +kernel
theorem dL_law_974 : decode cL_law 974 = .ok (.aload_n 2, 1) := by decide +kernel
theorem dL_law_975 : decode cL_law 975 = .ok (.aload_n 0, 1) := by decide +kernel
theorem dL_law_976 : decode cL_law 976 = .ok (.iload_n 3, 1) := by decide +kernel
theorem dL_law_977 : decode cL_law 977 = .ok (.iconst 1, 1) := by decide +kernel
theorem dL_law_978 : decode cL_law 978 = .ok (.iadd, 1) := by decide +kernel
theorem dL_law_979 : decode cL_law 979 = .ok (.iaload, 1) := by decide +kernel
theorem dL_law_980 : decode cL_law 980 = .ok (.aload_n 0, 1) := by decide +kernel
theorem dL_law_981 : decode cL_law 981 = .ok (.iload_n 3, 1) := by decide +kernel
theorem dL_law_982 : decode cL_law 982 = .ok (.iconst 2, 1) := by decide +kernel
theorem dL_law_983 : decode cL_law 983 = .ok (.iadd, 1) := by decide +kernel
theorem dL_law_984 : decode cL_law 984 = .ok (.iaload, 1) := by decide +kernel
theorem dL_law_985 : decode cL_law 985 = .ok (.aload_n 0, 1) := by decide +kernel
theorem dL_law_986 : decode cL_law 986 = .ok (.iload_n 3, 1) := by decide +kernel
theorem dL_law_987 : decode cL_law 987 = .ok (.iconst 3, 1) := by decide +kernel
theorem dL_law_988 : decode cL_law 988 = .ok (.iadd, 1) := by decide +kernel
theorem dL_law_989 : decode cL_law 989 = .ok (.iaload, 1) := by decide +kernel
theorem dL_law_990 : decode cL_law 990 = .ok (.aload_n 0, 1) := by decide +kernel
theorem dL_law_991 : decode cL_law 991 = .ok (.iload_n 3, 1) := by decide +kernel
theorem dL_law_992 : decode cL_law 992 = .ok (.iconst 4, 1) := by decide +kernel
theorem dL_law_993 : decode cL_law 993 = .ok (.iadd, 1) := by decide +kernel
theorem dL_law_994 : decode cL_law 994 = .ok (.iaload, 1) := by decide +kernel
theorem dL_law_995 : decode cL_law 995 = .ok (.invokevirtual 103, 3) := by decide +kernel
theorem dL_law_998 : decode cL_law 998 = .ok (.lcmp, 1) := by decide +kernel
theorem dL_law_999 : decode cL_law 999 = .ok (.ifCond .eq 683, 3) := by decide +kernel
theorem dL_law_1002 : decode cL_law 1002 = .ok (.iconst 0, 1) := by decide +kernel
theorem dL_law_1003 : decode cL_law 1003 = .ok (.ireturn, 1) := by decide +kernel
theorem dL_law_1004 : decode cL_law 1004 = .ok (.aload_n 1, 1) := by decide +kernel
theorem dL_law_1005 : decode cL_law 1005 = .ok (.aload_n 0, 1) := by decide +kernel
theorem dL_law_1006 : decode cL_law 1006 = .ok (.iload_n 3, 1) := by decide +kernel
theorem dL_law_1007 : decode cL_law 1007 = .ok (.iconst 1, 1) := by decide +kernel
theorem dL_law_1008 : decode cL_law 1008 = .ok (.iadd, 1) := by decide +kernel
theorem dL_law_1009 : decode cL_law 1009 = .ok (.iaload, 1) := by decide +kernel
theorem dL_law_1010 : decode cL_law 1010 = .ok (.aload_n 0, 1) := by decide +kernel
theorem dL_law_1011 : decode cL_law 1011 = .ok (.iload_n 3, 1) := by decide +kernel
theorem dL_law_1012 : decode cL_law 1012 = .ok (.iconst 2, 1) := by decide +kernel
theorem dL_law_1013 : decode cL_law 1013 = .ok (.iadd, 1) := by decide +kernel
theorem dL_law_1014 : decode cL_law 1014 = .ok (.iaload, 1) := by decide +kernel
theorem dL_law_1015 : decode cL_law 1015 = .ok (.aload_n 0, 1) := by decide +kernel
theorem dL_law_1016 : decode cL_law 1016 = .ok (.iload_n 3, 1) := by decide +kernel
theorem dL_law_1017 : decode cL_law 1017 = .ok (.iconst 3, 1) := by decide +kernel
theorem dL_law_1018 : decode cL_law 1018 = .ok (.iadd, 1) := by decide +kernel
theorem dL_law_1019 : decode cL_law 1019 = .ok (.iaload, 1) := by decide +kernel
theorem dL_law_1020 : decode cL_law 1020 = .ok (.invokevirtual 104, 3) := by decide +kernel
theorem dL_law_1023 : decode cL_law 1023 = .ok (.aload_n 2, 1) := by decide +kernel
theorem dL_law_1024 : decode cL_law 1024 = .ok (.aload_n 0, 1) := by decide +kernel
theorem dL_law_1025 : decode cL_law 1025 = .ok (.iload_n 3, 1) := by decide +kernel
theorem dL_law_1026 : decode cL_law 1026 = .ok (.iconst 1, 1) := by decide +kernel
theorem dL_law_1027 : decode cL_law 1027 = .ok (.iadd, 1) := by decide +kernel
theorem dL_law_1028 : decode cL_law 1028 = .ok (.iaload, 1) := by decide +kernel
theorem dL_law_1029 : decode cL_law 1029 = .ok (.aload_n 0, 1) := by decide +kernel
theorem dL_law_1030 : decode cL_law 1030 = .ok (.iload_n 3, 1) := by decide +kernel
theorem dL_law_1031 : decode cL_law 1031 = .ok (.iconst 2, 1) := by decide +kernel
theorem dL_law_1032 : decode cL_law 1032 = .ok (.iadd, 1) := by decide +kernel
theorem dL_law_1033 : decode cL_law 1033 = .ok (.iaload, 1) := by decide +kernel
theorem dL_law_1034 : decode cL_law 1034 = .ok (.aload_n 0, 1) := by decide +kernel
theorem dL_law_1035 : decode cL_law 1035 = .ok (.iload_n 3, 1) := by decide +kernel
theorem dL_law_1036 : decode cL_law 1036 = .ok (.iconst 3, 1) := by decide +kernel
theorem dL_law_1037 : decode cL_law 1037 = .ok (.iadd, 1) := by decide +kernel
theorem dL_law_1038 : decode cL_law 1038 = .ok (.iaload, 1) := by decide +kernel
theorem dL_law_1039 : decode cL_law 1039 = .ok (.invokevirtual 107, 3) := by decide +kernel
theorem dL_law_1042 : decode cL_law 1042 = .ok (.if_icmp .eq 640, 3) := by decide +kernel
theorem dL_law_1045 : decode cL_law 1045 = .ok (.iconst 0, 1) := by decide +kernel
theorem dL_law_1046 : decode cL_law 1046 = .ok (.ireturn, 1) := by decide +kernel
theorem dL_law_1047 : decode cL_law 1047 = .ok (.aload_n 1, 1) := by decide +kernel
theorem dL_law_1048 : decode cL_law 1048 = .ok (.aload_n 0, 1) := by decide +kernel
theorem dL_law_1049 : decode cL_law 1049 = .ok (.iload_n 3, 1) := by decide +kernel
theorem dL_law_1050 : decode cL_law 1050 = .ok (.iconst 1, 1) := by decide +kernel
theorem dL_law_1051 : decode cL_law 1051 = .ok (.iadd, 1) := by decide +kernel
theorem dL_law_1052 : decode cL_law 1052 = .ok (.iaload, 1) := by decide +kernel
theorem dL_law_1053 : decode cL_law 1053 = .ok (.aload_n 0, 1) := by decide +kernel
theorem dL_law_1054 : decode cL_law 1054 = .ok (.iload_n 3, 1) := by decide +kernel
theorem dL_law_1055 : decode cL_law 1055 = .ok (.iconst 2, 1) := by decide +kernel
theorem dL_law_1056 : decode cL_law 1056 = .ok (.iadd, 1) := by decide +kernel
theorem dL_law_1057 : decode cL_law 1057 = .ok (.iaload, 1) := by decide +kernel
theorem dL_law_1058 : decode cL_law 1058 = .ok (.invokevirtual 108, 3) := by decide +kernel
theorem dL_law_1061 : decode cL_law 1061 = .ok (.aload_n 2, 1) := by decide +kernel
theorem dL_law_1062 : decode cL_law 1062 = .ok (.aload_n 0, 1) := by decide +kernel
theorem dL_law_1063 : decode cL_law 1063 = .ok (.iload_n 3, 1) := by decide +kernel
theorem dL_law_1064 : decode cL_law 1064 = .ok (.iconst 1, 1) := by decide +kernel
theorem dL_law_1065 : decode cL_law 1065 = .ok (.iadd, 1) := by decide +kernel
theorem dL_law_1066 : decode cL_law 1066 = .ok (.iaload, 1) := by decide +kernel
theorem dL_law_1067 : decode cL_law 1067 = .ok (.aload_n 0, 1) := by decide +kernel
theorem dL_law_1068 : decode cL_law 1068 = .ok (.iload_n 3, 1) := by decide +kernel
theorem dL_law_1069 : decode cL_law 1069 = .ok (.iconst 2, 1) := by decide +kernel
theorem dL_law_1070 : decode cL_law 1070 = .ok (.iadd, 1) := by decide +kernel
theorem dL_law_1071 : decode cL_law 1071 = .ok (.iaload, 1) := by decide +kernel
theorem dL_law_1072 : decode cL_law 1072 = .ok (.invokevirtual 111, 3) := by decide +kernel
theorem dL_law_1075 : decode cL_law 1075 = .ok (.if_icmp .eq 607, 3) := by decide +kernel
theorem dL_law_1078 : decode cL_law 1078 = .ok (.iconst 0, 1) := by decide +kernel
theorem dL_law_1079 : decode cL_law 1079 = .ok (.ireturn, 1) := by decide +kernel
theorem dL_law_1080 : decode cL_law 1080 = .ok (.aload_n 1, 1) := by decide +kernel
theorem dL_law_1081 : decode cL_law 1081 = .ok (.aload_n 0, 1) := by decide +kernel
theorem dL_law_1082 : decode cL_law 1082 = .ok (.iload_n 3, 1) := by decide +kernel
theorem dL_law_1083 : decode cL_law 1083 = .ok (.iconst 1, 1) := by decide +kernel
theorem dL_law_1084 : decode cL_law 1084 = .ok (.iadd, 1) := by decide +kernel
theorem dL_law_1085 : decode cL_law 1085 = .ok (.iaload, 1) := by decide +kernel
theorem dL_law_1086 : decode cL_law 1086 = .ok (.aload_n 0, 1) := by decide +kernel
theorem dL_law_1087 : decode cL_law 1087 = .ok (.iload_n 3, 1) := by decide +kernel
theorem dL_law_1088 : decode cL_law 1088 = .ok (.iconst 2, 1) := by decide +kernel
theorem dL_law_1089 : decode cL_law 1089 = .ok (.iadd, 1) := by decide +kernel
theorem dL_law_1090 : decode cL_law 1090 = .ok (.iaload, 1) := by decide +kernel
theorem dL_law_1091 : decode cL_law 1091 = .ok (.invokevirtual 112, 3) := by decide +kernel
theorem dL_law_1094 : decode cL_law 1094 = .ok (.aload_n 2, 1) := by decide +kernel
theorem dL_law_1095 : decode cL_law 1095 = .ok (.aload_n 0, 1) := by decide +kernel
theorem dL_law_1096 : decode cL_law 1096 = .ok (.iload_n 3, 1) := by decide +kernel
theorem dL_law_1097 : decode cL_law 1097 = .ok (.iconst 1, 1) := by decide +kernel
theorem dL_law_1098 : decode cL_law 1098 = .ok (.iadd, 1) := by decide +kernel
theorem dL_law_1099 : decode cL_law 1099 = .ok (.iaload, 1) := by decide +kernel
theorem dL_law_1100 : decode cL_law 1100 = .ok (.aload_n 0, 1) := by decide +kernel
theorem dL_law_1101 : decode cL_law 1101 = .ok (.iload_n 3, 1) := by decide +kernel
theorem dL_law_1102 : decode cL_law 1102 = .ok (.iconst 2, 1) := by decide +kernel
theorem dL_law_1103 : decode cL_law 1103 = .ok (.iadd, 1) := by decide +kernel
theorem dL_law_1104 : decode cL_law 1104 = .ok (.iaload, 1) := by decide +kernel
theorem dL_law_1105 : decode cL_law 1105 = .ok (.invokevirtual 115, 3) := by decide +kernel
theorem dL_law_1108 : decode cL_law 1108 = .ok (.if_icmp .eq 574, 3) := by decide +kernel
theorem dL_law_1111 : decode cL_law 1111 = .ok (.iconst 0, 1) := by decide +kernel
theorem dL_law_1112 : decode cL_law 1112 = .ok (.ireturn, 1) := by decide +kernel
theorem dL_law_1113 : decode cL_law 1113 = .ok (.aload_n 1, 1) := by decide +kernel
theorem dL_law_1114 : decode cL_law 1114 = .ok (.aload_n 0, 1) := by decide +kernel
theorem dL_law_1115 : decode cL_law 1115 = .ok (.iload_n 3, 1) := by decide +kernel
theorem dL_law_1116 : decode cL_law 1116 = .ok (.iconst 1, 1) := by decide +kernel
theorem dL_law_1117 : decode cL_law 1117 = .ok (.iadd, 1) := by decide +kernel
theorem dL_law_1118 : decode cL_law 1118 = .ok (.iaload, 1) := by decide +kernel
theorem dL_law_1119 : decode cL_law 1119 = .ok (.invokevirtual 116, 3) := by decide +kernel
theorem dL_law_1122 : decode cL_law 1122 = .ok (.aload_n 2, 1) := by decide +kernel
theorem dL_law_1123 : decode cL_law 1123 = .ok (.aload_n 0, 1) := by decide +kernel
theorem dL_law_1124 : decode cL_law 1124 = .ok (.iload_n 3, 1) := by decide +kernel
theorem dL_law_1125 : decode cL_law 1125 = .ok (.iconst 1, 1) := by decide +kernel
theorem dL_law_1126 : decode cL_law 1126 = .ok (.iadd, 1) := by decide +kernel
theorem dL_law_1127 : decode cL_law 1127 = .ok (.iaload, 1) := by decide +kernel
theorem dL_law_1128 : decode cL_law 1128 = .ok (.invokevirtual 119, 3) := by decide +kernel
theorem dL_law_1131 : decode cL_law 1131 = .ok (.if_icmp .eq 551, 3) := by decide +kernel
theorem dL_law_1134 : decode cL_law 1134 = .ok (.iconst 0, 1) := by decide +kernel
theorem dL_law_1135 : decode cL_law 1135 = .ok (.ireturn, 1) := by decide +kernel
theorem dL_law_1136 : decode cL_law 1136 = .ok (.aload_n 1, 1) := by decide +kernel
theorem dL_law_1137 : decode cL_law 1137 = .ok (.aload_n 0, 1) := by decide +kernel
theorem dL_law_1138 : decode cL_law 1138 = .ok (.iload_n 3, 1) := by decide +kernel
theorem dL_law_1139 : decode cL_law 1139 = .ok (.iconst 1, 1) := by decide +kernel
theorem dL_law_1140 : decode cL_law 1140 = .ok (.iadd, 1) := by decide +kernel
theorem dL_law_1141 : decode cL_law 1141 = .ok (.iaload, 1) := by decide +kernel
theorem dL_law_1142 : decode cL_law 1142 = .ok (.aload_n 0, 1) := by decide +kernel
theorem dL_law_1143 : decode cL_law 1143 = .ok (.iload_n 3, 1) := by decide +kernel
theorem dL_law_1144 : decode cL_law 1144 = .ok (.iconst 2, 1) := by decide +kernel
theorem dL_law_1145 : decode cL_law 1145 = .ok (.iadd, 1) := by decide +kernel
theorem dL_law_1146 : decode cL_law 1146 = .ok (.iaload, 1) := by decide +kernel
theorem dL_law_1147 : decode cL_law 1147 = .ok (.invokevirtual 120, 3) := by decide +kernel
theorem dL_law_1150 : decode cL_law 1150 = .ok (.aload_n 2, 1) := by decide +kernel
theorem dL_law_1151 : decode cL_law 1151 = .ok (.aload_n 0, 1) := by decide +kernel
theorem dL_law_1152 : decode cL_law 1152 = .ok (.iload_n 3, 1) := by decide +kernel
theorem dL_law_1153 : decode cL_law 1153 = .ok (.iconst 1, 1) := by decide +kernel
theorem dL_law_1154 : decode cL_law 1154 = .ok (.iadd, 1) := by decide +kernel
theorem dL_law_1155 : decode cL_law 1155 = .ok (.iaload, 1) := by decide +kernel
theorem dL_law_1156 : decode cL_law 1156 = .ok (.aload_n 0, 1) := by decide +kernel
theorem dL_law_1157 : decode cL_law 1157 = .ok (.iload_n 3, 1) := by decide +kernel
theorem dL_law_1158 : decode cL_law 1158 = .ok (.iconst 2, 1) := by decide +kernel
theorem dL_law_1159 : decode cL_law 1159 = .ok (.iadd, 1) := by decide +kernel
theorem dL_law_1160 : decode cL_law 1160 = .ok (.iaload, 1) := by decide +kernel
theorem dL_law_1161 : decode cL_law 1161 = .ok (.invokevirtual 123, 3) := by decide +kernel
theorem dL_law_1164 : decode cL_law 1164 = .ok (.if_icmp .eq 518, 3) := by decide +kernel
theorem dL_law_1167 : decode cL_law 1167 = .ok (.iconst 0, 1) := by decide +kernel
theorem dL_law_1168 : decode cL_law 1168 = .ok (.ireturn, 1) := by decide +kernel
theorem dL_law_1169 : decode cL_law 1169 = .ok (.aload_n 1, 1) := by decide +kernel
theorem dL_law_1170 : decode cL_law 1170 = .ok (.aload_n 0, 1) := by decide +kernel
theorem dL_law_1171 : decode cL_law 1171 = .ok (.iload_n 3, 1) := by decide +kernel
theorem dL_law_1172 : decode cL_law 1172 = .ok (.iconst 1, 1) := by decide +kernel
theorem dL_law_1173 : decode cL_law 1173 = .ok (.iadd, 1) := by decide +kernel
theorem dL_law_1174 : decode cL_law 1174 = .ok (.iaload, 1) := by decide +kernel
theorem dL_law_1175 : decode cL_law 1175 = .ok (.aload_n 0, 1) := by decide +kernel
theorem dL_law_1176 : decode cL_law 1176 = .ok (.iload_n 3, 1) := by decide +kernel
theorem dL_law_1177 : decode cL_law 1177 = .ok (.iconst 2, 1) := by decide +kernel
theorem dL_law_1178 : decode cL_law 1178 = .ok (.iadd, 1) := by decide +kernel
theorem dL_law_1179 : decode cL_law 1179 = .ok (.iaload, 1) := by decide +kernel
theorem dL_law_1180 : decode cL_law 1180 = .ok (.aload_n 0, 1) := by decide +kernel
theorem dL_law_1181 : decode cL_law 1181 = .ok (.iload_n 3, 1) := by decide +kernel
theorem dL_law_1182 : decode cL_law 1182 = .ok (.iconst 3, 1) := by decide +kernel
theorem dL_law_1183 : decode cL_law 1183 = .ok (.iadd, 1) := by decide +kernel
theorem dL_law_1184 : decode cL_law 1184 = .ok (.iaload, 1) := by decide +kernel
theorem dL_law_1185 : decode cL_law 1185 = .ok (.invokevirtual 124, 3) := by decide +kernel
theorem dL_law_1188 : decode cL_law 1188 = .ok (.aload_n 2, 1) := by decide +kernel
theorem dL_law_1189 : decode cL_law 1189 = .ok (.aload_n 0, 1) := by decide +kernel
theorem dL_law_1190 : decode cL_law 1190 = .ok (.iload_n 3, 1) := by decide +kernel
theorem dL_law_1191 : decode cL_law 1191 = .ok (.iconst 1, 1) := by decide +kernel
theorem dL_law_1192 : decode cL_law 1192 = .ok (.iadd, 1) := by decide +kernel
theorem dL_law_1193 : decode cL_law 1193 = .ok (.iaload, 1) := by decide +kernel
theorem dL_law_1194 : decode cL_law 1194 = .ok (.aload_n 0, 1) := by decide +kernel
theorem dL_law_1195 : decode cL_law 1195 = .ok (.iload_n 3, 1) := by decide +kernel
theorem dL_law_1196 : decode cL_law 1196 = .ok (.iconst 2, 1) := by decide +kernel
theorem dL_law_1197 : decode cL_law 1197 = .ok (.iadd, 1) := by decide +kernel
theorem dL_law_1198 : decode cL_law 1198 = .ok (.iaload, 1) := by decide +kernel
theorem dL_law_1199 : decode cL_law 1199 = .ok (.aload_n 0, 1) := by decide +kernel
theorem dL_law_1200 : decode cL_law 1200 = .ok (.iload_n 3, 1) := by decide +kernel
theorem dL_law_1201 : decode cL_law 1201 = .ok (.iconst 3, 1) := by decide +kernel
theorem dL_law_1202 : decode cL_law 1202 = .ok (.iadd, 1) := by decide +kernel
theorem dL_law_1203 : decode cL_law 1203 = .ok (.iaload, 1) := by decide +kernel
theorem dL_law_1204 : decode cL_law 1204 = .ok (.invokevirtual 127, 3) := by decide +kernel
theorem dL_law_1207 : decode cL_law 1207 = .ok (.if_icmp .eq 475, 3) := by decide +kernel
theorem dL_law_1210 : decode cL_law 1210 = .ok (.iconst 0, 1) := by decide +kernel
theorem dL_law_1211 : decode cL_law 1211 = .ok (.ireturn, 1) := by decide +kernel
theorem dL_law_1212 : decode cL_law 1212 = .ok (.aload_n 1, 1) := by decide +kernel
theorem dL_law_1213 : decode cL_law 1213 = .ok (.aload_n 0, 1) := by decide +kernel
theorem dL_law_1214 : decode cL_law 1214 = .ok (.iload_n 3, 1) := by decide +kernel
theorem dL_law_1215 : decode cL_law 1215 = .ok (.iconst 1, 1) := by decide +kernel
theorem dL_law_1216 : decode cL_law 1216 = .ok (.iadd, 1) := by decide +kernel
theorem dL_law_1217 : decode cL_law 1217 = .ok (.iaload, 1) := by decide +kernel
theorem dL_law_1218 : decode cL_law 1218 = .ok (.aload_n 0, 1) := by decide +kernel
theorem dL_law_1219 : decode cL_law 1219 = .ok (.iload_n 3, 1) := by decide +kernel
theorem dL_law_1220 : decode cL_law 1220 = .ok (.iconst 2, 1) := by decide +kernel
theorem dL_law_1221 : decode cL_law 1221 = .ok (.iadd, 1) := by decide +kernel
theorem dL_law_1222 : decode cL_law 1222 = .ok (.iaload, 1) := by decide +kernel
theorem dL_law_1223 : decode cL_law 1223 = .ok (.invokevirtual 128, 3) := by decide +kernel
theorem dL_law_1226 : decode cL_law 1226 = .ok (.aload_n 2, 1) := by decide +kernel
theorem dL_law_1227 : decode cL_law 1227 = .ok (.aload_n 0, 1) := by decide +kernel
theorem dL_law_1228 : decode cL_law 1228 = .ok (.iload_n 3, 1) := by decide +kernel
theorem dL_law_1229 : decode cL_law 1229 = .ok (.iconst 1, 1) := by decide +kernel
theorem dL_law_1230 : decode cL_law 1230 = .ok (.iadd, 1) := by decide +kernel
theorem dL_law_1231 : decode cL_law 1231 = .ok (.iaload, 1) := by decide +kernel
theorem dL_law_1232 : decode cL_law 1232 = .ok (.aload_n 0, 1) := by decide +kernel
theorem dL_law_1233 : decode cL_law 1233 = .ok (.iload_n 3, 1) := by decide +kernel
theorem dL_law_1234 : decode cL_law 1234 = .ok (.iconst 2, 1) := by decide +kernel
theorem dL_law_1235 : decode cL_law 1235 = .ok (.iadd, 1) := by decide +kernel
theorem dL_law_1236 : decode cL_law 1236 = .ok (.iaload, 1) := by decide +kernel
theorem dL_law_1237 : decode cL_law 1237 = .ok (.invokevirtual 131, 3) := by decide +kernel
theorem dL_law_1240 : decode cL_law 1240 = .ok (.if_icmp .eq 442, 3) := by decide +kernel
theorem dL_law_1243 : decode cL_law 1243 = .ok (.iconst 0, 1) := by decide +kernel
theorem dL_law_1244 : decode cL_law 1244 = .ok (.ireturn, 1) := by decide +kernel
theorem dL_law_1245 : decode cL_law 1245 = .ok (.aload_n 1, 1) := by decide +kernel
theorem dL_law_1246 : decode cL_law 1246 = .ok (.aload_n 0, 1) := by decide +kernel
theorem dL_law_1247 : decode cL_law 1247 = .ok (.iload_n 3, 1) := by decide +kernel
theorem dL_law_1248 : decode cL_law 1248 = .ok (.iconst 1, 1) := by decide +kernel
theorem dL_law_1249 : decode cL_law 1249 = .ok (.iadd, 1) := by decide +kernel
theorem dL_law_1250 : decode cL_law 1250 = .ok (.iaload, 1) := by decide +kernel
theorem dL_law_1251 : decode cL_law 1251 = .ok (.aload_n 0, 1) := by decide +kernel
theorem dL_law_1252 : decode cL_law 1252 = .ok (.iload_n 3, 1) := by decide +kernel
theorem dL_law_1253 : decode cL_law 1253 = .ok (.iconst 2, 1) := by decide +kernel
theorem dL_law_1254 : decode cL_law 1254 = .ok (.iadd, 1) := by decide +kernel
theorem dL_law_1255 : decode cL_law 1255 = .ok (.iaload, 1) := by decide +kernel
theorem dL_law_1256 : decode cL_law 1256 = .ok (.aload_n 0, 1) := by decide +kernel
theorem dL_law_1257 : decode cL_law 1257 = .ok (.iload_n 3, 1) := by decide +kernel
theorem dL_law_1258 : decode cL_law 1258 = .ok (.iconst 3, 1) := by decide +kernel
theorem dL_law_1259 : decode cL_law 1259 = .ok (.iadd, 1) := by decide +kernel
theorem dL_law_1260 : decode cL_law 1260 = .ok (.iaload, 1) := by decide +kernel
theorem dL_law_1261 : decode cL_law 1261 = .ok (.invokevirtual 132, 3) := by decide +kernel
theorem dL_law_1264 : decode cL_law 1264 = .ok (.aload_n 2, 1) := by decide +kernel
theorem dL_law_1265 : decode cL_law 1265 = .ok (.aload_n 0, 1) := by decide +kernel
theorem dL_law_1266 : decode cL_law 1266 = .ok (.iload_n 3, 1) := by decide +kernel
theorem dL_law_1267 : decode cL_law 1267 = .ok (.iconst 1, 1) := by decide +kernel
theorem dL_law_1268 : decode cL_law 1268 = .ok (.iadd, 1) := by decide +kernel
theorem dL_law_1269 : decode cL_law 1269 = .ok (.iaload, 1) := by decide +kernel
theorem dL_law_1270 : decode cL_law 1270 = .ok (.aload_n 0, 1) := by decide +kernel
theorem dL_law_1271 : decode cL_law 1271 = .ok (.iload_n 3, 1) := by decide +kernel
theorem dL_law_1272 : decode cL_law 1272 = .ok (.iconst 2, 1) := by decide +kernel
theorem dL_law_1273 : decode cL_law 1273 = .ok (.iadd, 1) := by decide +kernel
theorem dL_law_1274 : decode cL_law 1274 = .ok (.iaload, 1) := by decide +kernel
theorem dL_law_1275 : decode cL_law 1275 = .ok (.aload_n 0, 1) := by decide +kernel
theorem dL_law_1276 : decode cL_law 1276 = .ok (.iload_n 3, 1) := by decide +kernel
theorem dL_law_1277 : decode cL_law 1277 = .ok (.iconst 3, 1) := by decide +kernel
theorem dL_law_1278 : decode cL_law 1278 = .ok (.iadd, 1) := by decide +kernel
theorem dL_law_1279 : decode cL_law 1279 = .ok (.iaload, 1) := by decide +kernel
theorem dL_law_1280 : decode cL_law 1280 = .ok (.invokevirtual 135, 3) := by decide +kernel
theorem dL_law_1283 : decode cL_law 1283 = .ok (.if_icmp .eq 399, 3) := by decide +kernel
theorem dL_law_1286 : decode cL_law 1286 = .ok (.iconst 0, 1) := by decide +kernel
theorem dL_law_1287 : decode cL_law 1287 = .ok (.ireturn, 1) := by decide +kernel
theorem dL_law_1288 : decode cL_law 1288 = .ok (.aload_n 1, 1) := by decide +kernel
theorem dL_law_1289 : decode cL_law 1289 = .ok (.aload_n 0, 1) := by decide +kernel
theorem dL_law_1290 : decode cL_law 1290 = .ok (.iload_n 3, 1) := by decide +kernel
theorem dL_law_1291 : decode cL_law 1291 = .ok (.iconst 1, 1) := by decide +kernel
theorem dL_law_1292 : decode cL_law 1292 = .ok (.iadd, 1) := by decide +kernel
theorem dL_law_1293 : decode cL_law 1293 = .ok (.iaload, 1) := by decide +kernel
theorem dL_law_1294 : decode cL_law 1294 = .ok (.aload_n 0, 1) := by decide +kernel
theorem dL_law_1295 : decode cL_law 1295 = .ok (.iload_n 3, 1) := by decide +kernel
theorem dL_law_1296 : decode cL_law 1296 = .ok (.iconst 2, 1) := by decide +kernel
theorem dL_law_1297 : decode cL_law 1297 = .ok (.iadd, 1) := by decide +kernel
theorem dL_law_1298 : decode cL_law 1298 = .ok (.iaload, 1) := by decide +kernel
theorem dL_law_1299 : decode cL_law 1299 = .ok (.invokevirtual 136, 3) := by decide +kernel
theorem dL_law_1302 : decode cL_law 1302 = .ok (.aload_n 2, 1) := by decide +kernel
theorem dL_law_1303 : decode cL_law 1303 = .ok (.aload_n 0, 1) := by decide +kernel
theorem dL_law_1304 : decode cL_law 1304 = .ok (.iload_n 3, 1) := by decide +kernel
theorem dL_law_1305 : decode cL_law 1305 = .ok (.iconst 1, 1) := by decide +kernel
theorem dL_law_1306 : decode cL_law 1306 = .ok (.iadd, 1) := by decide +kernel
theorem dL_law_1307 : decode cL_law 1307 = .ok (.iaload, 1) := by decide +kernel
theorem dL_law_1308 : decode cL_law 1308 = .ok (.aload_n 0, 1) := by decide +kernel
theorem dL_law_1309 : decode cL_law 1309 = .ok (.iload_n 3, 1) := by decide +kernel
theorem dL_law_1310 : decode cL_law 1310 = .ok (.iconst 2, 1) := by decide +kernel
theorem dL_law_1311 : decode cL_law 1311 = .ok (.iadd, 1) := by decide +kernel
theorem dL_law_1312 : decode cL_law 1312 = .ok (.iaload, 1) := by decide +kernel
theorem dL_law_1313 : decode cL_law 1313 = .ok (.invokevirtual 139, 3) := by decide +kernel
theorem dL_law_1316 : decode cL_law 1316 = .ok (.if_icmp .eq 366, 3) := by decide +kernel
theorem dL_law_1319 : decode cL_law 1319 = .ok (.iconst 0, 1) := by decide +kernel
theorem dL_law_1320 : decode cL_law 1320 = .ok (.ireturn, 1) := by decide +kernel
theorem dL_law_1321 : decode cL_law 1321 = .ok (.aload_n 1, 1) := by decide +kernel
theorem dL_law_1322 : decode cL_law 1322 = .ok (.aload_n 0, 1) := by decide +kernel
theorem dL_law_1323 : decode cL_law 1323 = .ok (.iload_n 3, 1) := by decide +kernel
theorem dL_law_1324 : decode cL_law 1324 = .ok (.iconst 1, 1) := by decide +kernel
theorem dL_law_1325 : decode cL_law 1325 = .ok (.iadd, 1) := by decide +kernel
theorem dL_law_1326 : decode cL_law 1326 = .ok (.iaload, 1) := by decide +kernel
theorem dL_law_1327 : decode cL_law 1327 = .ok (.invokevirtual 140, 3) := by decide +kernel
theorem dL_law_1330 : decode cL_law 1330 = .ok (.aload_n 2, 1) := by decide +kernel
theorem dL_law_1331 : decode cL_law 1331 = .ok (.aload_n 0, 1) := by decide +kernel
theorem dL_law_1332 : decode cL_law 1332 = .ok (.iload_n 3, 1) := by decide +kernel
theorem dL_law_1333 : decode cL_law 1333 = .ok (.iconst 1, 1) := by decide +kernel
theorem dL_law_1334 : decode cL_law 1334 = .ok (.iadd, 1) := by decide +kernel
theorem dL_law_1335 : decode cL_law 1335 = .ok (.iaload, 1) := by decide +kernel
theorem dL_law_1336 : decode cL_law 1336 = .ok (.invokevirtual 143, 3) := by decide +kernel
theorem dL_law_1339 : decode cL_law 1339 = .ok (.if_icmp .eq 343, 3) := by decide +kernel
theorem dL_law_1342 : decode cL_law 1342 = .ok (.iconst 0, 1) := by decide +kernel
theorem dL_law_1343 : decode cL_law 1343 = .ok (.ireturn, 1) := by decide +kernel
theorem dL_law_1344 : decode cL_law 1344 = .ok (.aload_n 1, 1) := by decide +kernel
theorem dL_law_1345 : decode cL_law 1345 = .ok (.aload_n 0, 1) := by decide +kernel
theorem dL_law_1346 : decode cL_law 1346 = .ok (.iload_n 3, 1) := by decide +kernel
theorem dL_law_1347 : decode cL_law 1347 = .ok (.iconst 1, 1) := by decide +kernel
theorem dL_law_1348 : decode cL_law 1348 = .ok (.iadd, 1) := by decide +kernel
theorem dL_law_1349 : decode cL_law 1349 = .ok (.iaload, 1) := by decide +kernel
theorem dL_law_1350 : decode cL_law 1350 = .ok (.aload_n 0, 1) := by decide +kernel
theorem dL_law_1351 : decode cL_law 1351 = .ok (.iload_n 3, 1) := by decide +kernel
theorem dL_law_1352 : decode cL_law 1352 = .ok (.iconst 2, 1) := by decide +kernel
theorem dL_law_1353 : decode cL_law 1353 = .ok (.iadd, 1) := by decide +kernel
theorem dL_law_1354 : decode cL_law 1354 = .ok (.iaload, 1) := by decide +kernel
theorem dL_law_1355 : decode cL_law 1355 = .ok (.invokevirtual 144, 3) := by decide +kernel
theorem dL_law_1358 : decode cL_law 1358 = .ok (.aload_n 2, 1) := by decide +kernel
theorem dL_law_1359 : decode cL_law 1359 = .ok (.aload_n 0, 1) := by decide +kernel
theorem dL_law_1360 : decode cL_law 1360 = .ok (.iload_n 3, 1) := by decide +kernel
theorem dL_law_1361 : decode cL_law 1361 = .ok (.iconst 1, 1) := by decide +kernel
theorem dL_law_1362 : decode cL_law 1362 = .ok (.iadd, 1) := by decide +kernel
theorem dL_law_1363 : decode cL_law 1363 = .ok (.iaload, 1) := by decide +kernel
theorem dL_law_1364 : decode cL_law 1364 = .ok (.aload_n 0, 1) := by decide +kernel
theorem dL_law_1365 : decode cL_law 1365 = .ok (.iload_n 3, 1) := by decide +kernel
theorem dL_law_1366 : decode cL_law 1366 = .ok (.iconst 2, 1) := by decide +kernel
theorem dL_law_1367 : decode cL_law 1367 = .ok (.iadd, 1) := by decide +kernel
theorem dL_law_1368 : decode cL_law 1368 = .ok (.iaload, 1) := by decide +kernel
theorem dL_law_1369 : decode cL_law 1369 = .ok (.invokevirtual 147, 3) := by decide +kernel
theorem dL_law_1372 : decode cL_law 1372 = .ok (.if_icmp .eq 310, 3) := by decide +kernel
theorem dL_law_1375 : decode cL_law 1375 = .ok (.iconst 0, 1) := by decide +kernel
theorem dL_law_1376 : decode cL_law 1376 = .ok (.ireturn, 1) := by decide +kernel
theorem dL_law_1377 : decode cL_law 1377 = .ok (.aload_n 1, 1) := by decide +kernel
theorem dL_law_1378 : decode cL_law 1378 = .ok (.aload_n 0, 1) := by decide +kernel
theorem dL_law_1379 : decode cL_law 1379 = .ok (.iload_n 3, 1) := by decide +kernel
theorem dL_law_1380 : decode cL_law 1380 = .ok (.iconst 1, 1) := by decide +kernel
theorem dL_law_1381 : decode cL_law 1381 = .ok (.iadd, 1) := by decide +kernel
theorem dL_law_1382 : decode cL_law 1382 = .ok (.iaload, 1) := by decide +kernel
theorem dL_law_1383 : decode cL_law 1383 = .ok (.aload_n 0, 1) := by decide +kernel
theorem dL_law_1384 : decode cL_law 1384 = .ok (.iload_n 3, 1) := by decide +kernel
theorem dL_law_1385 : decode cL_law 1385 = .ok (.iconst 2, 1) := by decide +kernel
theorem dL_law_1386 : decode cL_law 1386 = .ok (.iadd, 1) := by decide +kernel
theorem dL_law_1387 : decode cL_law 1387 = .ok (.iaload, 1) := by decide +kernel
theorem dL_law_1388 : decode cL_law 1388 = .ok (.aload_n 0, 1) := by decide +kernel
theorem dL_law_1389 : decode cL_law 1389 = .ok (.iload_n 3, 1) := by decide +kernel
theorem dL_law_1390 : decode cL_law 1390 = .ok (.iconst 3, 1) := by decide +kernel
theorem dL_law_1391 : decode cL_law 1391 = .ok (.iadd, 1) := by decide +kernel
theorem dL_law_1392 : decode cL_law 1392 = .ok (.iaload, 1) := by decide +kernel
theorem dL_law_1393 : decode cL_law 1393 = .ok (.invokevirtual 148, 3) := by decide +kernel
theorem dL_law_1396 : decode cL_law 1396 = .ok (.aload_n 2, 1) := by decide +kernel
theorem dL_law_1397 : decode cL_law 1397 = .ok (.aload_n 0, 1) := by decide +kernel
theorem dL_law_1398 : decode cL_law 1398 = .ok (.iload_n 3, 1) := by decide +kernel
theorem dL_law_1399 : decode cL_law 1399 = .ok (.iconst 1, 1) := by decide +kernel
theorem dL_law_1400 : decode cL_law 1400 = .ok (.iadd, 1) := by decide +kernel
theorem dL_law_1401 : decode cL_law 1401 = .ok (.iaload, 1) := by decide +kernel
theorem dL_law_1402 : decode cL_law 1402 = .ok (.aload_n 0, 1) := by decide +kernel
theorem dL_law_1403 : decode cL_law 1403 = .ok (.iload_n 3, 1) := by decide +kernel
theorem dL_law_1404 : decode cL_law 1404 = .ok (.iconst 2, 1) := by decide +kernel
theorem dL_law_1405 : decode cL_law 1405 = .ok (.iadd, 1) := by decide +kernel
theorem dL_law_1406 : decode cL_law 1406 = .ok (.iaload, 1) := by decide +kernel
theorem dL_law_1407 : decode cL_law 1407 = .ok (.aload_n 0, 1) := by decide +kernel
theorem dL_law_1408 : decode cL_law 1408 = .ok (.iload_n 3, 1) := by decide +kernel
theorem dL_law_1409 : decode cL_law 1409 = .ok (.iconst 3, 1) := by decide +kernel
theorem dL_law_1410 : decode cL_law 1410 = .ok (.iadd, 1) := by decide +kernel
theorem dL_law_1411 : decode cL_law 1411 = .ok (.iaload, 1) := by decide +kernel
theorem dL_law_1412 : decode cL_law 1412 = .ok (.invokevirtual 151, 3) := by decide +kernel
theorem dL_law_1415 : decode cL_law 1415 = .ok (.if_icmp .eq 267, 3) := by decide +kernel
theorem dL_law_1418 : decode cL_law 1418 = .ok (.iconst 0, 1) := by decide +kernel
theorem dL_law_1419 : decode cL_law 1419 = .ok (.ireturn, 1) := by decide +kernel
theorem dL_law_1420 : decode cL_law 1420 = .ok (.aload_n 1, 1) := by decide +kernel
theorem dL_law_1421 : decode cL_law 1421 = .ok (.aload_n 0, 1) := by decide +kernel
theorem dL_law_1422 : decode cL_law 1422 = .ok (.iload_n 3, 1) := by decide +kernel
theorem dL_law_1423 : decode cL_law 1423 = .ok (.iconst 1, 1) := by decide +kernel
theorem dL_law_1424 : decode cL_law 1424 = .ok (.iadd, 1) := by decide +kernel
theorem dL_law_1425 : decode cL_law 1425 = .ok (.iaload, 1) := by decide +kernel
theorem dL_law_1426 : decode cL_law 1426 = .ok (.invokevirtual 152, 3) := by decide +kernel
theorem dL_law_1429 : decode cL_law 1429 = .ok (.aload_n 2, 1) := by decide +kernel
theorem dL_law_1430 : decode cL_law 1430 = .ok (.aload_n 0, 1) := by decide +kernel
theorem dL_law_1431 : decode cL_law 1431 = .ok (.iload_n 3, 1) := by decide +kernel
theorem dL_law_1432 : decode cL_law 1432 = .ok (.iconst 1, 1) := by decide +kernel
theorem dL_law_1433 : decode cL_law 1433 = .ok (.iadd, 1) := by decide +kernel
theorem dL_law_1434 : decode cL_law 1434 = .ok (.iaload, 1) := by decide +kernel
theorem dL_law_1435 : decode cL_law 1435 = .ok (.invokevirtual 155, 3) := by decide +kernel
theorem dL_law_1438 : decode cL_law 1438 = .ok (.if_icmp .eq 244, 3) := by decide +kernel
theorem dL_law_1441 : decode cL_law 1441 = .ok (.iconst 0, 1) := by decide +kernel
theorem dL_law_1442 : decode cL_law 1442 = .ok (.ireturn, 1) := by decide +kernel
theorem dL_law_1443 : decode cL_law 1443 = .ok (.aload_n 1, 1) := by decide +kernel
theorem dL_law_1444 : decode cL_law 1444 = .ok (.aload_n 0, 1) := by decide +kernel
theorem dL_law_1445 : decode cL_law 1445 = .ok (.iload_n 3, 1) := by decide +kernel
theorem dL_law_1446 : decode cL_law 1446 = .ok (.iconst 1, 1) := by decide +kernel
theorem dL_law_1447 : decode cL_law 1447 = .ok (.iadd, 1) := by decide +kernel
theorem dL_law_1448 : decode cL_law 1448 = .ok (.iaload, 1) := by decide +kernel
theorem dL_law_1449 : decode cL_law 1449 = .ok (.aload_n 0, 1) := by decide +kernel
theorem dL_law_1450 : decode cL_law 1450 = .ok (.iload_n 3, 1) := by decide +kernel
theorem dL_law_1451 : decode cL_law 1451 = .ok (.iconst 2, 1) := by decide +kernel
theorem dL_law_1452 : decode cL_law 1452 = .ok (.iadd, 1) := by decide +kernel
theorem dL_law_1453 : decode cL_law 1453 = .ok (.iaload, 1) := by decide +kernel
theorem dL_law_1454 : decode cL_law 1454 = .ok (.aload_n 0, 1) := by decide +kernel
theorem dL_law_1455 : decode cL_law 1455 = .ok (.iload_n 3, 1) := by decide +kernel
theorem dL_law_1456 : decode cL_law 1456 = .ok (.iconst 3, 1) := by decide +kernel
theorem dL_law_1457 : decode cL_law 1457 = .ok (.iadd, 1) := by decide +kernel
theorem dL_law_1458 : decode cL_law 1458 = .ok (.iaload, 1) := by decide +kernel
theorem dL_law_1459 : decode cL_law 1459 = .ok (.aload_n 0, 1) := by decide +kernel
theorem dL_law_1460 : decode cL_law 1460 = .ok (.iload_n 3, 1) := by decide +kernel
theorem dL_law_1461 : decode cL_law 1461 = .ok (.iconst 4, 1) := by decide +kernel
theorem dL_law_1462 : decode cL_law 1462 = .ok (.iadd, 1) := by decide +kernel
theorem dL_law_1463 : decode cL_law 1463 = .ok (.iaload, 1) := by decide +kernel
theorem dL_law_1464 : decode cL_law 1464 = .ok (.invokevirtual 156, 3) := by decide +kernel
theorem dL_law_1467 : decode cL_law 1467 = .ok (.aload_n 2, 1) := by decide +kernel
theorem dL_law_1468 : decode cL_law 1468 = .ok (.aload_n 0, 1) := by decide +kernel
theorem dL_law_1469 : decode cL_law 1469 = .ok (.iload_n 3, 1) := by decide +kernel
theorem dL_law_1470 : decode cL_law 1470 = .ok (.iconst 1, 1) := by decide +kernel
theorem dL_law_1471 : decode cL_law 1471 = .ok (.iadd, 1) := by decide +kernel
theorem dL_law_1472 : decode cL_law 1472 = .ok (.iaload, 1) := by decide +kernel
theorem dL_law_1473 : decode cL_law 1473 = .ok (.aload_n 0, 1) := by decide +kernel
theorem dL_law_1474 : decode cL_law 1474 = .ok (.iload_n 3, 1) := by decide +kernel
theorem dL_law_1475 : decode cL_law 1475 = .ok (.iconst 2, 1) := by decide +kernel
theorem dL_law_1476 : decode cL_law 1476 = .ok (.iadd, 1) := by decide +kernel
theorem dL_law_1477 : decode cL_law 1477 = .ok (.iaload, 1) := by decide +kernel
theorem dL_law_1478 : decode cL_law 1478 = .ok (.aload_n 0, 1) := by decide +kernel
theorem dL_law_1479 : decode cL_law 1479 = .ok (.iload_n 3, 1) := by decide +kernel
theorem dL_law_1480 : decode cL_law 1480 = .ok (.iconst 3, 1) := by decide +kernel
theorem dL_law_1481 : decode cL_law 1481 = .ok (.iadd, 1) := by decide +kernel
theorem dL_law_1482 : decode cL_law 1482 = .ok (.iaload, 1) := by decide +kernel
theorem dL_law_1483 : decode cL_law 1483 = .ok (.aload_n 0, 1) := by decide +kernel
theorem dL_law_1484 : decode cL_law 1484 = .ok (.iload_n 3, 1) := by decide +kernel
theorem dL_law_1485 : decode cL_law 1485 = .ok (.iconst 4, 1) := by decide +kernel
theorem dL_law_1486 : decode cL_law 1486 = .ok (.iadd, 1) := by decide +kernel
theorem dL_law_1487 : decode cL_law 1487 = .ok (.iaload, 1) := by decide +kernel
theorem dL_law_1488 : decode cL_law 1488 = .ok (.invokevirtual 160, 3) := by decide +kernel
theorem dL_law_1491 : decode cL_law 1491 = .ok (.if_icmp .eq 191, 3) := by decide +kernel
theorem dL_law_1494 : decode cL_law 1494 = .ok (.iconst 0, 1) := by decide +kernel
theorem dL_law_1495 : decode cL_law 1495 = .ok (.ireturn, 1) := by decide +kernel
theorem dL_law_1496 : decode cL_law 1496 = .ok (.aload_n 1, 1) := by decide +kernel
theorem dL_law_1497 : decode cL_law 1497 = .ok (.aload_n 0, 1) := by decide +kernel
theorem dL_law_1498 : decode cL_law 1498 = .ok (.iload_n 3, 1) := by decide +kernel
theorem dL_law_1499 : decode cL_law 1499 = .ok (.iconst 1, 1) := by decide +kernel
theorem dL_law_1500 : decode cL_law 1500 = .ok (.iadd, 1) := by decide +kernel
theorem dL_law_1501 : decode cL_law 1501 = .ok (.iaload, 1) := by decide +kernel
theorem dL_law_1502 : decode cL_law 1502 = .ok (.aload_n 0, 1) := by decide +kernel
theorem dL_law_1503 : decode cL_law 1503 = .ok (.iload_n 3, 1) := by decide +kernel
theorem dL_law_1504 : decode cL_law 1504 = .ok (.iconst 2, 1) := by decide +kernel
theorem dL_law_1505 : decode cL_law 1505 = .ok (.iadd, 1) := by decide +kernel
theorem dL_law_1506 : decode cL_law 1506 = .ok (.iaload, 1) := by decide +kernel
theorem dL_law_1507 : decode cL_law 1507 = .ok (.aload_n 0, 1) := by decide +kernel
theorem dL_law_1508 : decode cL_law 1508 = .ok (.iload_n 3, 1) := by decide +kernel
theorem dL_law_1509 : decode cL_law 1509 = .ok (.iconst 3, 1) := by decide +kernel
theorem dL_law_1510 : decode cL_law 1510 = .ok (.iadd, 1) := by decide +kernel
theorem dL_law_1511 : decode cL_law 1511 = .ok (.iaload, 1) := by decide +kernel
theorem dL_law_1512 : decode cL_law 1512 = .ok (.invokevirtual 161, 3) := by decide +kernel
theorem dL_law_1515 : decode cL_law 1515 = .ok (.aload_n 2, 1) := by decide +kernel
theorem dL_law_1516 : decode cL_law 1516 = .ok (.aload_n 0, 1) := by decide +kernel
theorem dL_law_1517 : decode cL_law 1517 = .ok (.iload_n 3, 1) := by decide +kernel
theorem dL_law_1518 : decode cL_law 1518 = .ok (.iconst 1, 1) := by decide +kernel
theorem dL_law_1519 : decode cL_law 1519 = .ok (.iadd, 1) := by decide +kernel
theorem dL_law_1520 : decode cL_law 1520 = .ok (.iaload, 1) := by decide +kernel
theorem dL_law_1521 : decode cL_law 1521 = .ok (.aload_n 0, 1) := by decide +kernel
theorem dL_law_1522 : decode cL_law 1522 = .ok (.iload_n 3, 1) := by decide +kernel
theorem dL_law_1523 : decode cL_law 1523 = .ok (.iconst 2, 1) := by decide +kernel
theorem dL_law_1524 : decode cL_law 1524 = .ok (.iadd, 1) := by decide +kernel
theorem dL_law_1525 : decode cL_law 1525 = .ok (.iaload, 1) := by decide +kernel
theorem dL_law_1526 : decode cL_law 1526 = .ok (.aload_n 0, 1) := by decide +kernel
theorem dL_law_1527 : decode cL_law 1527 = .ok (.iload_n 3, 1) := by decide +kernel
theorem dL_law_1528 : decode cL_law 1528 = .ok (.iconst 3, 1) := by decide +kernel
theorem dL_law_1529 : decode cL_law 1529 = .ok (.iadd, 1) := by decide +kernel
theorem dL_law_1530 : decode cL_law 1530 = .ok (.iaload, 1) := by decide +kernel
theorem dL_law_1531 : decode cL_law 1531 = .ok (.invokevirtual 164, 3) := by decide +kernel
theorem dL_law_1534 : decode cL_law 1534 = .ok (.if_icmp .eq 148, 3) := by decide +kernel
theorem dL_law_1537 : decode cL_law 1537 = .ok (.iconst 0, 1) := by decide +kernel
theorem dL_law_1538 : decode cL_law 1538 = .ok (.ireturn, 1) := by decide +kernel
theorem dL_law_1539 : decode cL_law 1539 = .ok (.aload_n 1, 1) := by decide +kernel
theorem dL_law_1540 : decode cL_law 1540 = .ok (.aload_n 0, 1) := by decide +kernel
theorem dL_law_1541 : decode cL_law 1541 = .ok (.iload_n 3, 1) := by decide +kernel
theorem dL_law_1542 : decode cL_law 1542 = .ok (.iconst 1, 1) := by decide +kernel
theorem dL_law_1543 : decode cL_law 1543 = .ok (.iadd, 1) := by decide +kernel
theorem dL_law_1544 : decode cL_law 1544 = .ok (.iaload, 1) := by decide +kernel
theorem dL_law_1545 : decode cL_law 1545 = .ok (.aload_n 0, 1) := by decide +kernel
theorem dL_law_1546 : decode cL_law 1546 = .ok (.iload_n 3, 1) := by decide +kernel
theorem dL_law_1547 : decode cL_law 1547 = .ok (.iconst 2, 1) := by decide +kernel
theorem dL_law_1548 : decode cL_law 1548 = .ok (.iadd, 1) := by decide +kernel
theorem dL_law_1549 : decode cL_law 1549 = .ok (.iaload, 1) := by decide +kernel
theorem dL_law_1550 : decode cL_law 1550 = .ok (.aload_n 0, 1) := by decide +kernel
theorem dL_law_1551 : decode cL_law 1551 = .ok (.iload_n 3, 1) := by decide +kernel
theorem dL_law_1552 : decode cL_law 1552 = .ok (.iconst 3, 1) := by decide +kernel
theorem dL_law_1553 : decode cL_law 1553 = .ok (.iadd, 1) := by decide +kernel
theorem dL_law_1554 : decode cL_law 1554 = .ok (.iaload, 1) := by decide +kernel
theorem dL_law_1555 : decode cL_law 1555 = .ok (.aload_n 0, 1) := by decide +kernel
theorem dL_law_1556 : decode cL_law 1556 = .ok (.iload_n 3, 1) := by decide +kernel
theorem dL_law_1557 : decode cL_law 1557 = .ok (.iconst 4, 1) := by decide +kernel
theorem dL_law_1558 : decode cL_law 1558 = .ok (.iadd, 1) := by decide +kernel
theorem dL_law_1559 : decode cL_law 1559 = .ok (.iaload, 1) := by decide +kernel
theorem dL_law_1560 : decode cL_law 1560 = .ok (.aload_n 0, 1) := by decide +kernel
theorem dL_law_1561 : decode cL_law 1561 = .ok (.iload_n 3, 1) := by decide +kernel
theorem dL_law_1562 : decode cL_law 1562 = .ok (.iconst 5, 1) := by decide +kernel
theorem dL_law_1563 : decode cL_law 1563 = .ok (.iadd, 1) := by decide +kernel
theorem dL_law_1564 : decode cL_law 1564 = .ok (.iaload, 1) := by decide +kernel
theorem dL_law_1565 : decode cL_law 1565 = .ok (.invokevirtual 165, 3) := by decide +kernel
theorem dL_law_1568 : decode cL_law 1568 = .ok (.aload_n 2, 1) := by decide +kernel
theorem dL_law_1569 : decode cL_law 1569 = .ok (.aload_n 0, 1) := by decide +kernel
theorem dL_law_1570 : decode cL_law 1570 = .ok (.iload_n 3, 1) := by decide +kernel
theorem dL_law_1571 : decode cL_law 1571 = .ok (.iconst 1, 1) := by decide +kernel
theorem dL_law_1572 : decode cL_law 1572 = .ok (.iadd, 1) := by decide +kernel
theorem dL_law_1573 : decode cL_law 1573 = .ok (.iaload, 1) := by decide +kernel
theorem dL_law_1574 : decode cL_law 1574 = .ok (.aload_n 0, 1) := by decide +kernel
theorem dL_law_1575 : decode cL_law 1575 = .ok (.iload_n 3, 1) := by decide +kernel
theorem dL_law_1576 : decode cL_law 1576 = .ok (.iconst 2, 1) := by decide +kernel
theorem dL_law_1577 : decode cL_law 1577 = .ok (.iadd, 1) := by decide +kernel
theorem dL_law_1578 : decode cL_law 1578 = .ok (.iaload, 1) := by decide +kernel
theorem dL_law_1579 : decode cL_law 1579 = .ok (.aload_n 0, 1) := by decide +kernel
theorem dL_law_1580 : decode cL_law 1580 = .ok (.iload_n 3, 1) := by decide +kernel
theorem dL_law_1581 : decode cL_law 1581 = .ok (.iconst 3, 1) := by decide +kernel
theorem dL_law_1582 : decode cL_law 1582 = .ok (.iadd, 1) := by decide +kernel
theorem dL_law_1583 : decode cL_law 1583 = .ok (.iaload, 1) := by decide +kernel
theorem dL_law_1584 : decode cL_law 1584 = .ok (.aload_n 0, 1) := by decide +kernel
theorem dL_law_1585 : decode cL_law 1585 = .ok (.iload_n 3, 1) := by decide +kernel
theorem dL_law_1586 : decode cL_law 1586 = .ok (.iconst 4, 1) := by decide +kernel
theorem dL_law_1587 : decode cL_law 1587 = .ok (.iadd, 1) := by decide +kernel
theorem dL_law_1588 : decode cL_law 1588 = .ok (.iaload, 1) := by decide +kernel
theorem dL_law_1589 : decode cL_law 1589 = .ok (.aload_n 0, 1) := by decide +kernel
theorem dL_law_1590 : decode cL_law 1590 = .ok (.iload_n 3, 1) := by decide +kernel
theorem dL_law_1591 : decode cL_law 1591 = .ok (.iconst 5, 1) := by decide +kernel
theorem dL_law_1592 : decode cL_law 1592 = .ok (.iadd, 1) := by decide +kernel
theorem dL_law_1593 : decode cL_law 1593 = .ok (.iaload, 1) := by decide +kernel
theorem dL_law_1594 : decode cL_law 1594 = .ok (.invokevirtual 168, 3) := by decide +kernel
theorem dL_law_1597 : decode cL_law 1597 = .ok (.if_icmp .eq 85, 3) := by decide +kernel
theorem dL_law_1600 : decode cL_law 1600 = .ok (.iconst 0, 1) := by decide +kernel
theorem dL_law_1601 : decode cL_law 1601 = .ok (.ireturn, 1) := by decide +kernel
theorem dL_law_1602 : decode cL_law 1602 = .ok (.aload_n 1, 1) := by decide +kernel
theorem dL_law_1603 : decode cL_law 1603 = .ok (.aload_n 0, 1) := by decide +kernel
theorem dL_law_1604 : decode cL_law 1604 = .ok (.iload_n 3, 1) := by decide +kernel
theorem dL_law_1605 : decode cL_law 1605 = .ok (.iconst 1, 1) := by decide +kernel
theorem dL_law_1606 : decode cL_law 1606 = .ok (.iadd, 1) := by decide +kernel
theorem dL_law_1607 : decode cL_law 1607 = .ok (.iaload, 1) := by decide +kernel
theorem dL_law_1608 : decode cL_law 1608 = .ok (.aload_n 0, 1) := by decide +kernel
theorem dL_law_1609 : decode cL_law 1609 = .ok (.iload_n 3, 1) := by decide +kernel
theorem dL_law_1610 : decode cL_law 1610 = .ok (.iconst 2, 1) := by decide +kernel
theorem dL_law_1611 : decode cL_law 1611 = .ok (.iadd, 1) := by decide +kernel
theorem dL_law_1612 : decode cL_law 1612 = .ok (.iaload, 1) := by decide +kernel
theorem dL_law_1613 : decode cL_law 1613 = .ok (.aload_n 0, 1) := by decide +kernel
theorem dL_law_1614 : decode cL_law 1614 = .ok (.iload_n 3, 1) := by decide +kernel
theorem dL_law_1615 : decode cL_law 1615 = .ok (.iconst 3, 1) := by decide +kernel
theorem dL_law_1616 : decode cL_law 1616 = .ok (.iadd, 1) := by decide +kernel
theorem dL_law_1617 : decode cL_law 1617 = .ok (.iaload, 1) := by decide +kernel
theorem dL_law_1618 : decode cL_law 1618 = .ok (.invokevirtual 169, 3) := by decide +kernel
theorem dL_law_1621 : decode cL_law 1621 = .ok (.aload_n 2, 1) := by decide +kernel
theorem dL_law_1622 : decode cL_law 1622 = .ok (.aload_n 0, 1) := by decide +kernel
theorem dL_law_1623 : decode cL_law 1623 = .ok (.iload_n 3, 1) := by decide +kernel
theorem dL_law_1624 : decode cL_law 1624 = .ok (.iconst 1, 1) := by decide +kernel
theorem dL_law_1625 : decode cL_law 1625 = .ok (.iadd, 1) := by decide +kernel
theorem dL_law_1626 : decode cL_law 1626 = .ok (.iaload, 1) := by decide +kernel
theorem dL_law_1627 : decode cL_law 1627 = .ok (.aload_n 0, 1) := by decide +kernel
theorem dL_law_1628 : decode cL_law 1628 = .ok (.iload_n 3, 1) := by decide +kernel
theorem dL_law_1629 : decode cL_law 1629 = .ok (.iconst 2, 1) := by decide +kernel
theorem dL_law_1630 : decode cL_law 1630 = .ok (.iadd, 1) := by decide +kernel
theorem dL_law_1631 : decode cL_law 1631 = .ok (.iaload, 1) := by decide +kernel
theorem dL_law_1632 : decode cL_law 1632 = .ok (.aload_n 0, 1) := by decide +kernel
theorem dL_law_1633 : decode cL_law 1633 = .ok (.iload_n 3, 1) := by decide +kernel
theorem dL_law_1634 : decode cL_law 1634 = .ok (.iconst 3, 1) := by decide +kernel
theorem dL_law_1635 : decode cL_law 1635 = .ok (.iadd, 1) := by decide +kernel
theorem dL_law_1636 : decode cL_law 1636 = .ok (.iaload, 1) := by decide +kernel
theorem dL_law_1637 : decode cL_law 1637 = .ok (.invokevirtual 172, 3) := by decide +kernel
theorem dL_law_1640 : decode cL_law 1640 = .ok (.if_icmp .eq 42, 3) := by decide +kernel
theorem dL_law_1643 : decode cL_law 1643 = .ok (.iconst 0, 1) := by decide +kernel
theorem dL_law_1644 : decode cL_law 1644 = .ok (.ireturn, 1) := by decide +kernel
theorem dL_law_1645 : decode cL_law 1645 = .ok (.aload_n 1, 1) := by decide +kernel
theorem dL_law_1646 : decode cL_law 1646 = .ok (.aload_n 0, 1) := by decide +kernel
theorem dL_law_1647 : decode cL_law 1647 = .ok (.iload_n 3, 1) := by decide +kernel
theorem dL_law_1648 : decode cL_law 1648 = .ok (.iconst 1, 1) := by decide +kernel
theorem dL_law_1649 : decode cL_law 1649 = .ok (.iadd, 1) := by decide +kernel
theorem dL_law_1650 : decode cL_law 1650 = .ok (.iaload, 1) := by decide +kernel
theorem dL_law_1651 : decode cL_law 1651 = .ok (.invokevirtual 173, 3) := by decide +kernel
theorem dL_law_1654 : decode cL_law 1654 = .ok (.aload_n 2, 1) := by decide +kernel
theorem dL_law_1655 : decode cL_law 1655 = .ok (.aload_n 0, 1) := by decide +kernel
theorem dL_law_1656 : decode cL_law 1656 = .ok (.iload_n 3, 1) := by decide +kernel
theorem dL_law_1657 : decode cL_law 1657 = .ok (.iconst 1, 1) := by decide +kernel
theorem dL_law_1658 : decode cL_law 1658 = .ok (.iadd, 1) := by decide +kernel
theorem dL_law_1659 : decode cL_law 1659 = .ok (.iaload, 1) := by decide +kernel
theorem dL_law_1660 : decode cL_law 1660 = .ok (.invokevirtual 176, 3) := by decide +kernel
theorem dL_law_1663 : decode cL_law 1663 = .ok (.if_icmp .eq 19, 3) := by decide +kernel
theorem dL_law_1666 : decode cL_law 1666 = .ok (.iconst 0, 1) := by decide +kernel
theorem dL_law_1667 : decode cL_law 1667 = .ok (.ireturn, 1) := by decide +kernel
theorem dL_law_1668 : decode cL_law 1668 = .ok (.aload_n 1, 1) := by decide +kernel
theorem dL_law_1669 : decode cL_law 1669 = .ok (.invokevirtual 177, 3) := by decide +kernel
theorem dL_law_1672 : decode cL_law 1672 = .ok (.aload_n 2, 1) := by decide +kernel
theorem dL_law_1673 : decode cL_law 1673 = .ok (.invokevirtual 181, 3) := by decide +kernel
theorem dL_law_1676 : decode cL_law 1676 = .ok (.lcmp, 1) := by decide +kernel
theorem dL_law_1677 : decode cL_law 1677 = .ok (.ifCond .eq 5, 3) := by decide +kernel
theorem dL_law_1680 : decode cL_law 1680 = .ok (.iconst 0, 1) := by decide +kernel
theorem dL_law_1681 : decode cL_law 1681 = .ok (.ireturn, 1) := by decide +kernel
theorem dL_law_1682 : decode cL_law 1682 = .ok (.iinc 3 6, 3) := by decide +kernel
theorem dL_law_1685 : decode cL_law 1685 = .ok (.goto (-1667), 3) := by decide +kernel
theorem dL_law_1688 : decode cL_law 1688 = .ok (.iconst 1, 1) := by decide +kernel
theorem dL_law_1689 : decode cL_law 1689 = .ok (.ireturn, 1) := by decide +kernel
