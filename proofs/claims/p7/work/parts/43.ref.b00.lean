theorem dX12_isOut_0 : decode cX12_isOut 0 = .ok (.aload_n 0, 1) := by decide +kernel
theorem dX12_isOut_1 : decode cX12_isOut 1 = .ok (.iload_n 1, 1) := by decide +kernel
theorem dX12_isOut_2 : decode cX12_isOut 2 = .ok (.iconst 2, 1) := by decide +kernel
theorem dX12_isOut_3 : decode cX12_isOut 3 = .ok (.invokevirtual 256, 3) := by decide +kernel
theorem dX12_isOut_6 : decode cX12_isOut 6 = .ok (.ifCond .ne 7, 3) := by decide +kernel
theorem dX12_isOut_13 : decode cX12_isOut 13 = .ok (.iconst 0, 1) := by decide +kernel
theorem dX12_isOut_14 : decode cX12_isOut 14 = .ok (.ireturn, 1) := by decide +kernel
theorem dX12_isOut_9 : decode cX12_isOut 9 = .ok (.iconst 1, 1) := by decide +kernel
theorem dX12_isOut_10 : decode cX12_isOut 10 = .ok (.goto 4, 3) := by decide +kernel
theorem dX12_dayIn_0 : decode cX12_dayIn 0 = .ok (.aload_n 0, 1) := by decide +kernel
theorem dX12_dayIn_1 : decode cX12_dayIn 1 = .ok (.getfield 20, 3) := by decide +kernel
theorem dX12_dayIn_4 : decode cX12_dayIn 4 = .ok (.iconst 3, 1) := by decide +kernel
theorem dX12_dayIn_5 : decode cX12_dayIn 5 = .ok (.iaload, 1) := by decide +kernel
theorem dX12_dayIn_6 : decode cX12_dayIn 6 = .ok (.iload_n 2, 1) := by decide +kernel
theorem dX12_dayIn_7 : decode cX12_dayIn 7 = .ok (.iadd, 1) := by decide +kernel
theorem dX12_dayIn_8 : decode cX12_dayIn 8 = .ok (.aload_n 0, 1) := by decide +kernel
theorem dX12_dayIn_9 : decode cX12_dayIn 9 = .ok (.iload_n 1, 1) := by decide +kernel
theorem dX12_dayIn_10 : decode cX12_dayIn 10 = .ok (.iconst 1, 1) := by decide +kernel
theorem dX12_dayIn_11 : decode cX12_dayIn 11 = .ok (.invokevirtual 256, 3) := by decide +kernel
theorem dX12_dayIn_14 : decode cX12_dayIn 14 = .ok (.iadd, 1) := by decide +kernel
theorem dX12_dayIn_15 : decode cX12_dayIn 15 = .ok (.aload_n 0, 1) := by decide +kernel
theorem dX12_dayIn_16 : decode cX12_dayIn 16 = .ok (.getfield 20, 3) := by decide +kernel
theorem dX12_dayIn_19 : decode cX12_dayIn 19 = .ok (.iconst 2, 1) := by decide +kernel
theorem dX12_dayIn_20 : decode cX12_dayIn 20 = .ok (.iaload, 1) := by decide +kernel
theorem dX12_dayIn_21 : decode cX12_dayIn 21 = .ok (.irem, 1) := by decide +kernel
theorem dX12_dayIn_22 : decode cX12_dayIn 22 = .ok (.ireturn, 1) := by decide +kernel
theorem dX12_dayOf_0 : decode cX12_dayOf 0 = .ok (.aload_n 0, 1) := by decide +kernel
theorem dX12_dayOf_1 : decode cX12_dayOf 1 = .ok (.iload_n 1, 1) := by decide +kernel
theorem dX12_dayOf_2 : decode cX12_dayOf 2 = .ok (.iconst 0, 1) := by decide +kernel
theorem dX12_dayOf_3 : decode cX12_dayOf 3 = .ok (.invokevirtual 259, 3) := by decide +kernel
theorem dX12_dayOf_6 : decode cX12_dayOf 6 = .ok (.ireturn, 1) := by decide +kernel
theorem dX12_isWatched_0 : decode cX12_isWatched 0 = .ok (.aload_n 0, 1) := by decide +kernel
theorem dX12_isWatched_1 : decode cX12_isWatched 1 = .ok (.iload_n 1, 1) := by decide +kernel
theorem dX12_isWatched_2 : decode cX12_isWatched 2 = .ok (.bipush 6, 2) := by decide +kernel
theorem dX12_isWatched_4 : decode cX12_isWatched 4 = .ok (.iload_n 2, 1) := by decide +kernel
theorem dX12_isWatched_5 : decode cX12_isWatched 5 = .ok (.bipush 30, 2) := by decide +kernel
theorem dX12_isWatched_7 : decode cX12_isWatched 7 = .ok (.idiv, 1) := by decide +kernel
theorem dX12_isWatched_8 : decode cX12_isWatched 8 = .ok (.iadd, 1) := by decide +kernel
theorem dX12_isWatched_9 : decode cX12_isWatched 9 = .ok (.invokevirtual 256, 3) := by decide +kernel
theorem dX12_isWatched_12 : decode cX12_isWatched 12 = .ok (.iload_n 2, 1) := by decide +kernel
theorem dX12_isWatched_13 : decode cX12_isWatched 13 = .ok (.bipush 30, 2) := by decide +kernel
theorem dX12_isWatched_15 : decode cX12_isWatched 15 = .ok (.irem, 1) := by decide +kernel
theorem dX12_isWatched_16 : decode cX12_isWatched 16 = .ok (.invokestatic 185, 3) := by decide +kernel
theorem dX12_isWatched_19 : decode cX12_isWatched 19 = .ok (.ireturn, 1) := by decide +kernel
theorem dX12_neighbours_0 : decode cX12_neighbours 0 = .ok (.iconst 0, 1) := by decide +kernel
theorem dX12_neighbours_1 : decode cX12_neighbours 1 = .ok (.istore_n 2, 1) := by decide +kernel
theorem dX12_neighbours_2 : decode cX12_neighbours 2 = .ok (.iconst 0, 1) := by decide +kernel
theorem dX12_neighbours_3 : decode cX12_neighbours 3 = .ok (.istore_n 3, 1) := by decide +kernel
theorem dX12_neighbours_4 : decode cX12_neighbours 4 = .ok (.iload_n 3, 1) := by decide +kernel
theorem dX12_neighbours_5 : decode cX12_neighbours 5 = .ok (.aload_n 0, 1) := by decide +kernel
theorem dX12_neighbours_6 : decode cX12_neighbours 6 = .ok (.getfield 20, 3) := by decide +kernel
theorem dX12_neighbours_9 : decode cX12_neighbours 9 = .ok (.iconst 1, 1) := by decide +kernel
theorem dX12_neighbours_10 : decode cX12_neighbours 10 = .ok (.iaload, 1) := by decide +kernel
theorem dX12_neighbours_11 : decode cX12_neighbours 11 = .ok (.if_icmp .ge 51, 3) := by decide +kernel
theorem dX12_neighbours_62 : decode cX12_neighbours 62 = .ok (.iload_n 2, 1) := by decide +kernel
theorem dX12_neighbours_63 : decode cX12_neighbours 63 = .ok (.ireturn, 1) := by decide +kernel
theorem dX12_neighbours_14 : decode cX12_neighbours 14 = .ok (.aload_n 0, 1) := by decide +kernel
theorem dX12_neighbours_15 : decode cX12_neighbours 15 = .ok (.iload_n 3, 1) := by decide +kernel
theorem dX12_neighbours_16 : decode cX12_neighbours 16 = .ok (.iconst 0, 1) := by decide +kernel
theorem dX12_neighbours_17 : decode cX12_neighbours 17 = .ok (.invokevirtual 210, 3) := by decide +kernel
theorem dX12_neighbours_20 : decode cX12_neighbours 20 = .ok (.iload_n 1, 1) := by decide +kernel
theorem dX12_neighbours_21 : decode cX12_neighbours 21 = .ok (.if_icmp .ne 14, 3) := by decide +kernel
theorem dX12_neighbours_35 : decode cX12_neighbours 35 = .ok (.aload_n 0, 1) := by decide +kernel
theorem dX12_neighbours_36 : decode cX12_neighbours 36 = .ok (.iload_n 3, 1) := by decide +kernel
theorem dX12_neighbours_37 : decode cX12_neighbours 37 = .ok (.iconst 1, 1) := by decide +kernel
theorem dX12_neighbours_38 : decode cX12_neighbours 38 = .ok (.invokevirtual 210, 3) := by decide +kernel
theorem dX12_neighbours_41 : decode cX12_neighbours 41 = .ok (.iload_n 1, 1) := by decide +kernel
theorem dX12_neighbours_42 : decode cX12_neighbours 42 = .ok (.if_icmp .ne 14, 3) := by decide +kernel
theorem dX12_neighbours_56 : decode cX12_neighbours 56 = .ok (.iinc 3 1, 3) := by decide +kernel
theorem dX12_neighbours_59 : decode cX12_neighbours 59 = .ok (.goto (-55), 3) := by decide +kernel
theorem dX12_neighbours_45 : decode cX12_neighbours 45 = .ok (.iload_n 2, 1) := by decide +kernel
theorem dX12_neighbours_46 : decode cX12_neighbours 46 = .ok (.iconst 1, 1) := by decide +kernel
theorem dX12_neighbours_47 : decode cX12_neighbours 47 = .ok (.aload_n 0, 1) := by decide +kernel
theorem dX12_neighbours_48 : decode cX12_neighbours 48 = .ok (.iload_n 3, 1) := by decide +kernel
theorem dX12_neighbours_49 : decode cX12_neighbours 49 = .ok (.iconst 0, 1) := by decide +kernel
theorem dX12_neighbours_50 : decode cX12_neighbours 50 = .ok (.invokevirtual 210, 3) := by decide +kernel
theorem dX12_neighbours_53 : decode cX12_neighbours 53 = .ok (.ishl, 1) := by decide +kernel
theorem dX12_neighbours_54 : decode cX12_neighbours 54 = .ok (.ior, 1) := by decide +kernel
theorem dX12_neighbours_55 : decode cX12_neighbours 55 = .ok (.istore_n 2, 1) := by decide +kernel
theorem dX12_neighbours_24 : decode cX12_neighbours 24 = .ok (.iload_n 2, 1) := by decide +kernel
theorem dX12_neighbours_25 : decode cX12_neighbours 25 = .ok (.iconst 1, 1) := by decide +kernel
theorem dX12_neighbours_26 : decode cX12_neighbours 26 = .ok (.aload_n 0, 1) := by decide +kernel
theorem dX12_neighbours_27 : decode cX12_neighbours 27 = .ok (.iload_n 3, 1) := by decide +kernel
theorem dX12_neighbours_28 : decode cX12_neighbours 28 = .ok (.iconst 1, 1) := by decide +kernel
theorem dX12_neighbours_29 : decode cX12_neighbours 29 = .ok (.invokevirtual 210, 3) := by decide +kernel
theorem dX12_neighbours_32 : decode cX12_neighbours 32 = .ok (.ishl, 1) := by decide +kernel
theorem dX12_neighbours_33 : decode cX12_neighbours 33 = .ok (.ior, 1) := by decide +kernel
theorem dX12_neighbours_34 : decode cX12_neighbours 34 = .ok (.istore_n 2, 1) := by decide +kernel
theorem dX12_isIts_0 : decode cX12_isIts 0 = .ok (.aload_n 0, 1) := by decide +kernel
theorem dX12_isIts_1 : decode cX12_isIts 1 = .ok (.iload_n 1, 1) := by decide +kernel
theorem dX12_isIts_2 : decode cX12_isIts 2 = .ok (.iconst 0, 1) := by decide +kernel
theorem dX12_isIts_3 : decode cX12_isIts 3 = .ok (.invokevirtual 256, 3) := by decide +kernel
theorem dX12_isIts_6 : decode cX12_isIts 6 = .ok (.iload_n 2, 1) := by decide +kernel
theorem dX12_isIts_7 : decode cX12_isIts 7 = .ok (.if_icmp .eq 12, 3) := by decide +kernel
theorem dX12_isIts_19 : decode cX12_isIts 19 = .ok (.iconst 1, 1) := by decide +kernel
theorem dX12_isIts_20 : decode cX12_isIts 20 = .ok (.ireturn, 1) := by decide +kernel
theorem dX12_isIts_10 : decode cX12_isIts 10 = .ok (.aload_n 0, 1) := by decide +kernel
theorem dX12_isIts_11 : decode cX12_isIts 11 = .ok (.iload_n 1, 1) := by decide +kernel
theorem dX12_isIts_12 : decode cX12_isIts 12 = .ok (.iload_n 2, 1) := by decide +kernel
theorem dX12_isIts_13 : decode cX12_isIts 13 = .ok (.invokevirtual 262, 3) := by decide +kernel
theorem dX12_isIts_16 : decode cX12_isIts 16 = .ok (.ifCond .eq 5, 3) := by decide +kernel
theorem dX12_isIts_21 : decode cX12_isIts 21 = .ok (.aload_n 0, 1) := by decide +kernel
theorem dX12_isIts_22 : decode cX12_isIts 22 = .ok (.iload_n 1, 1) := by decide +kernel
theorem dX12_isIts_23 : decode cX12_isIts 23 = .ok (.invokevirtual 265, 3) := by decide +kernel
theorem dX12_isIts_26 : decode cX12_isIts 26 = .ok (.istore_n 3, 1) := by decide +kernel
theorem dX12_isIts_27 : decode cX12_isIts 27 = .ok (.iconst 0, 1) := by decide +kernel
theorem dX12_isIts_28 : decode cX12_isIts 28 = .ok (.istore 4, 2) := by decide +kernel
theorem dX12_isIts_30 : decode cX12_isIts 30 = .ok (.iconst 0, 1) := by decide +kernel
theorem dX12_isIts_31 : decode cX12_isIts 31 = .ok (.istore 5, 2) := by decide +kernel
theorem dX12_isIts_33 : decode cX12_isIts 33 = .ok (.iload 5, 2) := by decide +kernel
theorem dX12_isIts_35 : decode cX12_isIts 35 = .ok (.aload_n 0, 1) := by decide +kernel
theorem dX12_isIts_36 : decode cX12_isIts 36 = .ok (.getfield 20, 3) := by decide +kernel
theorem dX12_isIts_39 : decode cX12_isIts 39 = .ok (.iconst 0, 1) := by decide +kernel
theorem dX12_isIts_40 : decode cX12_isIts 40 = .ok (.iaload, 1) := by decide +kernel
theorem dX12_isIts_41 : decode cX12_isIts 41 = .ok (.if_icmp .ge 41, 3) := by decide +kernel
theorem dX12_isIts_82 : decode cX12_isIts 82 = .ok (.iload 4, 2) := by decide +kernel
theorem dX12_isIts_84 : decode cX12_isIts 84 = .ok (.ireturn, 1) := by decide +kernel
theorem dX12_isIts_44 : decode cX12_isIts 44 = .ok (.iload 4, 2) := by decide +kernel
theorem dX12_isIts_46 : decode cX12_isIts 46 = .ok (.ifCond .ne 23, 3) := by decide +kernel
theorem dX12_isIts_49 : decode cX12_isIts 49 = .ok (.iload_n 3, 1) := by decide +kernel
theorem dX12_isIts_50 : decode cX12_isIts 50 = .ok (.iload 5, 2) := by decide +kernel
theorem dX12_isIts_52 : decode cX12_isIts 52 = .ok (.invokestatic 185, 3) := by decide +kernel
theorem dX12_isIts_55 : decode cX12_isIts 55 = .ok (.ifCond .eq 18, 3) := by decide +kernel
theorem dX12_isIts_73 : decode cX12_isIts 73 = .ok (.iconst 0, 1) := by decide +kernel
theorem dX12_isIts_74 : decode cX12_isIts 74 = .ok (.istore 4, 2) := by decide +kernel
theorem dX12_isIts_76 : decode cX12_isIts 76 = .ok (.iinc 5 1, 3) := by decide +kernel
theorem dX12_isIts_79 : decode cX12_isIts 79 = .ok (.goto (-46), 3) := by decide +kernel
theorem dX12_isIts_58 : decode cX12_isIts 58 = .ok (.aload_n 0, 1) := by decide +kernel
theorem dX12_isIts_59 : decode cX12_isIts 59 = .ok (.iload 5, 2) := by decide +kernel
theorem dX12_isIts_61 : decode cX12_isIts 61 = .ok (.iconst 0, 1) := by decide +kernel
theorem dX12_isIts_62 : decode cX12_isIts 62 = .ok (.invokevirtual 256, 3) := by decide +kernel
theorem dX12_isIts_65 : decode cX12_isIts 65 = .ok (.iload_n 2, 1) := by decide +kernel
theorem dX12_isIts_66 : decode cX12_isIts 66 = .ok (.if_icmp .ne 7, 3) := by decide +kernel
theorem dX12_isIts_69 : decode cX12_isIts 69 = .ok (.iconst 1, 1) := by decide +kernel
theorem dX12_isIts_70 : decode cX12_isIts 70 = .ok (.goto 4, 3) := by decide +kernel
theorem dX12_daysOf_0 : decode cX12_daysOf 0 = .ok (.iconst 0, 1) := by decide +kernel
theorem dX12_daysOf_1 : decode cX12_daysOf 1 = .ok (.istore_n 2, 1) := by decide +kernel
theorem dX12_daysOf_2 : decode cX12_daysOf 2 = .ok (.iconst 0, 1) := by decide +kernel
theorem dX12_daysOf_3 : decode cX12_daysOf 3 = .ok (.istore_n 3, 1) := by decide +kernel
theorem dX12_daysOf_4 : decode cX12_daysOf 4 = .ok (.iload_n 3, 1) := by decide +kernel
theorem dX12_daysOf_5 : decode cX12_daysOf 5 = .ok (.aload_n 0, 1) := by decide +kernel
theorem dX12_daysOf_6 : decode cX12_daysOf 6 = .ok (.getfield 20, 3) := by decide +kernel
theorem dX12_daysOf_9 : decode cX12_daysOf 9 = .ok (.iconst 2, 1) := by decide +kernel
theorem dX12_daysOf_10 : decode cX12_daysOf 10 = .ok (.iaload, 1) := by decide +kernel
theorem dX12_daysOf_11 : decode cX12_daysOf 11 = .ok (.if_icmp .ge 21, 3) := by decide +kernel
theorem dX12_daysOf_14 : decode cX12_daysOf 14 = .ok (.iload_n 2, 1) := by decide +kernel
theorem dX12_daysOf_15 : decode cX12_daysOf 15 = .ok (.aload_n 0, 1) := by decide +kernel
theorem dX12_daysOf_16 : decode cX12_daysOf 16 = .ok (.iload_n 1, 1) := by decide +kernel
theorem dX12_daysOf_17 : decode cX12_daysOf 17 = .ok (.iload_n 3, 1) := by decide +kernel
theorem dX12_daysOf_18 : decode cX12_daysOf 18 = .ok (.invokevirtual 268, 3) := by decide +kernel
theorem dX12_daysOf_21 : decode cX12_daysOf 21 = .ok (.invokestatic 78, 3) := by decide +kernel
theorem dX12_daysOf_24 : decode cX12_daysOf 24 = .ok (.iadd, 1) := by decide +kernel
theorem dX12_daysOf_25 : decode cX12_daysOf 25 = .ok (.istore_n 2, 1) := by decide +kernel
theorem dX12_daysOf_26 : decode cX12_daysOf 26 = .ok (.iinc 3 1, 3) := by decide +kernel
theorem dX12_daysOf_29 : decode cX12_daysOf 29 = .ok (.goto (-25), 3) := by decide +kernel
theorem dX12_daysOf_32 : decode cX12_daysOf 32 = .ok (.iload_n 2, 1) := by decide +kernel
theorem dX12_daysOf_33 : decode cX12_daysOf 33 = .ok (.ireturn, 1) := by decide +kernel
theorem dX12_isAwakeIn_0 : decode cX12_isAwakeIn 0 = .ok (.aload_n 0, 1) := by decide +kernel
theorem dX12_isAwakeIn_1 : decode cX12_isAwakeIn 1 = .ok (.iload_n 1, 1) := by decide +kernel
theorem dX12_isAwakeIn_2 : decode cX12_isAwakeIn 2 = .ok (.invokevirtual 271, 3) := by decide +kernel
theorem dX12_isAwakeIn_5 : decode cX12_isAwakeIn 5 = .ok (.ifCond .ne 21, 3) := by decide +kernel
theorem dX12_isAwakeIn_26 : decode cX12_isAwakeIn 26 = .ok (.iconst 0, 1) := by decide +kernel
theorem dX12_isAwakeIn_27 : decode cX12_isAwakeIn 27 = .ok (.ireturn, 1) := by decide +kernel
theorem dX12_isAwakeIn_8 : decode cX12_isAwakeIn 8 = .ok (.aload_n 0, 1) := by decide +kernel
theorem dX12_isAwakeIn_9 : decode cX12_isAwakeIn 9 = .ok (.iload_n 1, 1) := by decide +kernel
theorem dX12_isAwakeIn_10 : decode cX12_isAwakeIn 10 = .ok (.aload_n 0, 1) := by decide +kernel
theorem dX12_isAwakeIn_11 : decode cX12_isAwakeIn 11 = .ok (.iload_n 1, 1) := by decide +kernel
theorem dX12_isAwakeIn_12 : decode cX12_isAwakeIn 12 = .ok (.iload_n 2, 1) := by decide +kernel
theorem dX12_isAwakeIn_13 : decode cX12_isAwakeIn 13 = .ok (.invokevirtual 259, 3) := by decide +kernel
theorem dX12_isAwakeIn_16 : decode cX12_isAwakeIn 16 = .ok (.invokevirtual 268, 3) := by decide +kernel
theorem dX12_isAwakeIn_19 : decode cX12_isAwakeIn 19 = .ok (.ifCond .eq 7, 3) := by decide +kernel
theorem dX12_isAwakeIn_22 : decode cX12_isAwakeIn 22 = .ok (.iconst 1, 1) := by decide +kernel
theorem dX12_isAwakeIn_23 : decode cX12_isAwakeIn 23 = .ok (.goto 4, 3) := by decide +kernel
theorem dX12_isAwakeNow_0 : decode cX12_isAwakeNow 0 = .ok (.aload_n 0, 1) := by decide +kernel
theorem dX12_isAwakeNow_1 : decode cX12_isAwakeNow 1 = .ok (.iload_n 1, 1) := by decide +kernel
theorem dX12_isAwakeNow_2 : decode cX12_isAwakeNow 2 = .ok (.iconst 0, 1) := by decide +kernel
theorem dX12_isAwakeNow_3 : decode cX12_isAwakeNow 3 = .ok (.invokevirtual 274, 3) := by decide +kernel
theorem dX12_isAwakeNow_6 : decode cX12_isAwakeNow 6 = .ok (.ireturn, 1) := by decide +kernel
theorem dX12_awakeSet_0 : decode cX12_awakeSet 0 = .ok (.iconst 0, 1) := by decide +kernel
theorem dX12_awakeSet_1 : decode cX12_awakeSet 1 = .ok (.istore_n 2, 1) := by decide +kernel
theorem dX12_awakeSet_2 : decode cX12_awakeSet 2 = .ok (.iconst 0, 1) := by decide +kernel
theorem dX12_awakeSet_3 : decode cX12_awakeSet 3 = .ok (.istore_n 3, 1) := by decide +kernel
theorem dX12_awakeSet_4 : decode cX12_awakeSet 4 = .ok (.iload_n 3, 1) := by decide +kernel
theorem dX12_awakeSet_5 : decode cX12_awakeSet 5 = .ok (.aload_n 0, 1) := by decide +kernel
theorem dX12_awakeSet_6 : decode cX12_awakeSet 6 = .ok (.getfield 20, 3) := by decide +kernel
theorem dX12_awakeSet_9 : decode cX12_awakeSet 9 = .ok (.iconst 0, 1) := by decide +kernel
theorem dX12_awakeSet_10 : decode cX12_awakeSet 10 = .ok (.iaload, 1) := by decide +kernel
theorem dX12_awakeSet_11 : decode cX12_awakeSet 11 = .ok (.if_icmp .ge 28, 3) := by decide +kernel
theorem dX12_awakeSet_39 : decode cX12_awakeSet 39 = .ok (.iload_n 2, 1) := by decide +kernel
theorem dX12_awakeSet_40 : decode cX12_awakeSet 40 = .ok (.ireturn, 1) := by decide +kernel
theorem dX12_awakeSet_14 : decode cX12_awakeSet 14 = .ok (.iload_n 2, 1) := by decide +kernel
theorem dX12_awakeSet_15 : decode cX12_awakeSet 15 = .ok (.aload_n 0, 1) := by decide +kernel
theorem dX12_awakeSet_16 : decode cX12_awakeSet 16 = .ok (.iload_n 3, 1) := by decide +kernel
theorem dX12_awakeSet_17 : decode cX12_awakeSet 17 = .ok (.iload_n 1, 1) := by decide +kernel
theorem dX12_awakeSet_18 : decode cX12_awakeSet 18 = .ok (.invokevirtual 274, 3) := by decide +kernel
theorem dX12_awakeSet_21 : decode cX12_awakeSet 21 = .ok (.ifCond .eq 9, 3) := by decide +kernel
theorem dX12_awakeSet_30 : decode cX12_awakeSet 30 = .ok (.iconst 0, 1) := by decide +kernel
theorem dX12_awakeSet_31 : decode cX12_awakeSet 31 = .ok (.ior, 1) := by decide +kernel
theorem dX12_awakeSet_32 : decode cX12_awakeSet 32 = .ok (.istore_n 2, 1) := by decide +kernel
theorem dX12_awakeSet_33 : decode cX12_awakeSet 33 = .ok (.iinc 3 1, 3) := by decide +kernel
theorem dX12_awakeSet_36 : decode cX12_awakeSet 36 = .ok (.goto (-32), 3) := by decide +kernel
theorem dX12_awakeSet_24 : decode cX12_awakeSet 24 = .ok (.iconst 1, 1) := by decide +kernel
theorem dX12_awakeSet_25 : decode cX12_awakeSet 25 = .ok (.iload_n 3, 1) := by decide +kernel
theorem dX12_awakeSet_26 : decode cX12_awakeSet 26 = .ok (.ishl, 1) := by decide +kernel
theorem dX12_awakeSet_27 : decode cX12_awakeSet 27 = .ok (.goto 4, 3) := by decide +kernel
theorem dX12_meeting_0 : decode cX12_meeting 0 = .ok (.iload_n 1, 1) := by decide +kernel
theorem dX12_meeting_1 : decode cX12_meeting 1 = .ok (.iload_n 2, 1) := by decide +kernel
theorem dX12_meeting_2 : decode cX12_meeting 2 = .ok (.if_icmp .ne 5, 3) := by decide +kernel
theorem dX12_meeting_7 : decode cX12_meeting 7 = .ok (.iconst 1, 1) := by decide +kernel
theorem dX12_meeting_8 : decode cX12_meeting 8 = .ok (.istore_n 3, 1) := by decide +kernel
theorem dX12_meeting_5 : decode cX12_meeting 5 = .ok (.iconst (-1), 1) := by decide +kernel
theorem dX12_meeting_6 : decode cX12_meeting 6 = .ok (.ireturn, 1) := by decide +kernel
theorem dX12_meeting_9 : decode cX12_meeting 9 = .ok (.iload_n 3, 1) := by decide +kernel
theorem dX12_meeting_10 : decode cX12_meeting 10 = .ok (.aload_n 0, 1) := by decide +kernel
theorem dX12_meeting_11 : decode cX12_meeting 11 = .ok (.getfield 20, 3) := by decide +kernel
theorem dX12_meeting_14 : decode cX12_meeting 14 = .ok (.iconst 2, 1) := by decide +kernel
theorem dX12_meeting_15 : decode cX12_meeting 15 = .ok (.iaload, 1) := by decide +kernel
theorem dX12_meeting_16 : decode cX12_meeting 16 = .ok (.if_icmp .gt 29, 3) := by decide +kernel
theorem dX12_meeting_19 : decode cX12_meeting 19 = .ok (.aload_n 0, 1) := by decide +kernel
theorem dX12_meeting_20 : decode cX12_meeting 20 = .ok (.iload_n 1, 1) := by decide +kernel
theorem dX12_meeting_21 : decode cX12_meeting 21 = .ok (.iload_n 3, 1) := by decide +kernel
theorem dX12_meeting_22 : decode cX12_meeting 22 = .ok (.invokevirtual 274, 3) := by decide +kernel
theorem dX12_meeting_25 : decode cX12_meeting 25 = .ok (.ifCond .eq 14, 3) := by decide +kernel
theorem dX12_meeting_39 : decode cX12_meeting 39 = .ok (.iinc 3 1, 3) := by decide +kernel
theorem dX12_meeting_42 : decode cX12_meeting 42 = .ok (.goto (-33), 3) := by decide +kernel
theorem dX12_meeting_28 : decode cX12_meeting 28 = .ok (.aload_n 0, 1) := by decide +kernel
theorem dX12_meeting_29 : decode cX12_meeting 29 = .ok (.iload_n 2, 1) := by decide +kernel
theorem dX12_meeting_30 : decode cX12_meeting 30 = .ok (.iload_n 3, 1) := by decide +kernel
theorem dX12_meeting_31 : decode cX12_meeting 31 = .ok (.invokevirtual 274, 3) := by decide +kernel
theorem dX12_meeting_34 : decode cX12_meeting 34 = .ok (.ifCond .eq 5, 3) := by decide +kernel
theorem dX12_meeting_37 : decode cX12_meeting 37 = .ok (.iload_n 3, 1) := by decide +kernel
theorem dX12_meeting_38 : decode cX12_meeting 38 = .ok (.ireturn, 1) := by decide +kernel
theorem dX12_meeting_45 : decode cX12_meeting 45 = .ok (.iconst (-1), 1) := by decide +kernel
theorem dX12_meeting_46 : decode cX12_meeting 46 = .ok (.ireturn, 1) := by decide +kernel
theorem dX12_lowersHops_0 : decode cX12_lowersHops 0 = .ok (.iconst 0, 1) := by decide +kernel
theorem dX12_lowersHops_1 : decode cX12_lowersHops 1 = .ok (.istore_n 1, 1) := by decide +kernel
theorem dX12_lowersHops_2 : decode cX12_lowersHops 2 = .ok (.iconst 0, 1) := by decide +kernel
theorem dX12_lowersHops_3 : decode cX12_lowersHops 3 = .ok (.istore_n 2, 1) := by decide +kernel
theorem dX12_lowersHops_4 : decode cX12_lowersHops 4 = .ok (.iload_n 2, 1) := by decide +kernel
theorem dX12_lowersHops_5 : decode cX12_lowersHops 5 = .ok (.aload_n 0, 1) := by decide +kernel
theorem dX12_lowersHops_6 : decode cX12_lowersHops 6 = .ok (.getfield 20, 3) := by decide +kernel
theorem dX12_lowersHops_9 : decode cX12_lowersHops 9 = .ok (.iconst 1, 1) := by decide +kernel
theorem dX12_lowersHops_10 : decode cX12_lowersHops 10 = .ok (.iaload, 1) := by decide +kernel
theorem dX12_lowersHops_11 : decode cX12_lowersHops 11 = .ok (.if_icmp .ge 114, 3) := by decide +kernel
theorem dX12_lowersHops_125 : decode cX12_lowersHops 125 = .ok (.iload_n 1, 1) := by decide +kernel
theorem dX12_lowersHops_126 : decode cX12_lowersHops 126 = .ok (.ireturn, 1) := by decide +kernel
theorem dX12_lowersHops_14 : decode cX12_lowersHops 14 = .ok (.aload_n 0, 1) := by decide +kernel
theorem dX12_lowersHops_15 : decode cX12_lowersHops 15 = .ok (.iload_n 2, 1) := by decide +kernel
theorem dX12_lowersHops_16 : decode cX12_lowersHops 16 = .ok (.iconst 0, 1) := by decide +kernel
theorem dX12_lowersHops_17 : decode cX12_lowersHops 17 = .ok (.invokevirtual 210, 3) := by decide +kernel
theorem dX12_lowersHops_20 : decode cX12_lowersHops 20 = .ok (.istore_n 3, 1) := by decide +kernel
theorem dX12_lowersHops_21 : decode cX12_lowersHops 21 = .ok (.aload_n 0, 1) := by decide +kernel
theorem dX12_lowersHops_22 : decode cX12_lowersHops 22 = .ok (.iload_n 2, 1) := by decide +kernel
theorem dX12_lowersHops_23 : decode cX12_lowersHops 23 = .ok (.iconst 1, 1) := by decide +kernel
theorem dX12_lowersHops_24 : decode cX12_lowersHops 24 = .ok (.invokevirtual 210, 3) := by decide +kernel
theorem dX12_lowersHops_27 : decode cX12_lowersHops 27 = .ok (.istore 4, 2) := by decide +kernel
theorem dX12_lowersHops_29 : decode cX12_lowersHops 29 = .ok (.aload_n 0, 1) := by decide +kernel
theorem dX12_lowersHops_30 : decode cX12_lowersHops 30 = .ok (.iload_n 3, 1) := by decide +kernel
theorem dX12_lowersHops_31 : decode cX12_lowersHops 31 = .ok (.invokevirtual 271, 3) := by decide +kernel
theorem dX12_lowersHops_34 : decode cX12_lowersHops 34 = .ok (.ifCond .ne 85, 3) := by decide +kernel
theorem dX12_lowersHops_119 : decode cX12_lowersHops 119 = .ok (.iinc 2 1, 3) := by decide +kernel
theorem dX12_lowersHops_122 : decode cX12_lowersHops 122 = .ok (.goto (-118), 3) := by decide +kernel
theorem dX12_lowersHops_37 : decode cX12_lowersHops 37 = .ok (.aload_n 0, 1) := by decide +kernel
theorem dX12_lowersHops_38 : decode cX12_lowersHops 38 = .ok (.iload 4, 2) := by decide +kernel
theorem dX12_lowersHops_40 : decode cX12_lowersHops 40 = .ok (.invokevirtual 271, 3) := by decide +kernel
theorem dX12_lowersHops_43 : decode cX12_lowersHops 43 = .ok (.ifCond .eq 6, 3) := by decide +kernel
theorem dX12_lowersHops_49 : decode cX12_lowersHops 49 = .ok (.aload_n 0, 1) := by decide +kernel
theorem dX12_lowersHops_50 : decode cX12_lowersHops 50 = .ok (.getfield 45, 3) := by decide +kernel
theorem dX12_lowersHops_53 : decode cX12_lowersHops 53 = .ok (.iload 4, 2) := by decide +kernel
theorem dX12_lowersHops_55 : decode cX12_lowersHops 55 = .ok (.iaload, 1) := by decide +kernel
theorem dX12_lowersHops_56 : decode cX12_lowersHops 56 = .ok (.iconst 1, 1) := by decide +kernel
theorem dX12_lowersHops_57 : decode cX12_lowersHops 57 = .ok (.iadd, 1) := by decide +kernel
theorem dX12_lowersHops_58 : decode cX12_lowersHops 58 = .ok (.aload_n 0, 1) := by decide +kernel
theorem dX12_lowersHops_59 : decode cX12_lowersHops 59 = .ok (.getfield 45, 3) := by decide +kernel
theorem dX12_lowersHops_62 : decode cX12_lowersHops 62 = .ok (.iload_n 3, 1) := by decide +kernel
theorem dX12_lowersHops_63 : decode cX12_lowersHops 63 = .ok (.iaload, 1) := by decide +kernel
theorem dX12_lowersHops_64 : decode cX12_lowersHops 64 = .ok (.if_icmp .ge 20, 3) := by decide +kernel
theorem dX12_lowersHops_84 : decode cX12_lowersHops 84 = .ok (.aload_n 0, 1) := by decide +kernel
theorem dX12_lowersHops_85 : decode cX12_lowersHops 85 = .ok (.getfield 45, 3) := by decide +kernel
theorem dX12_lowersHops_88 : decode cX12_lowersHops 88 = .ok (.iload_n 3, 1) := by decide +kernel
theorem dX12_lowersHops_89 : decode cX12_lowersHops 89 = .ok (.iaload, 1) := by decide +kernel
theorem dX12_lowersHops_90 : decode cX12_lowersHops 90 = .ok (.iconst 1, 1) := by decide +kernel
theorem dX12_lowersHops_91 : decode cX12_lowersHops 91 = .ok (.iadd, 1) := by decide +kernel
theorem dX12_lowersHops_92 : decode cX12_lowersHops 92 = .ok (.aload_n 0, 1) := by decide +kernel
theorem dX12_lowersHops_93 : decode cX12_lowersHops 93 = .ok (.getfield 45, 3) := by decide +kernel
theorem dX12_lowersHops_96 : decode cX12_lowersHops 96 = .ok (.iload 4, 2) := by decide +kernel
theorem dX12_lowersHops_98 : decode cX12_lowersHops 98 = .ok (.iaload, 1) := by decide +kernel
theorem dX12_lowersHops_99 : decode cX12_lowersHops 99 = .ok (.if_icmp .ge 20, 3) := by decide +kernel
theorem dX12_lowersHops_102 : decode cX12_lowersHops 102 = .ok (.aload_n 0, 1) := by decide +kernel
theorem dX12_lowersHops_103 : decode cX12_lowersHops 103 = .ok (.getfield 45, 3) := by decide +kernel
theorem dX12_lowersHops_106 : decode cX12_lowersHops 106 = .ok (.iload 4, 2) := by decide +kernel
theorem dX12_lowersHops_108 : decode cX12_lowersHops 108 = .ok (.aload_n 0, 1) := by decide +kernel
theorem dX12_lowersHops_109 : decode cX12_lowersHops 109 = .ok (.getfield 45, 3) := by decide +kernel
theorem dX12_lowersHops_112 : decode cX12_lowersHops 112 = .ok (.iload_n 3, 1) := by decide +kernel
theorem dX12_lowersHops_113 : decode cX12_lowersHops 113 = .ok (.iaload, 1) := by decide +kernel
theorem dX12_lowersHops_114 : decode cX12_lowersHops 114 = .ok (.iconst 1, 1) := by decide +kernel
theorem dX12_lowersHops_115 : decode cX12_lowersHops 115 = .ok (.iadd, 1) := by decide +kernel
theorem dX12_lowersHops_116 : decode cX12_lowersHops 116 = .ok (.iastore, 1) := by decide +kernel
theorem dX12_lowersHops_117 : decode cX12_lowersHops 117 = .ok (.iconst 1, 1) := by decide +kernel
theorem dX12_lowersHops_118 : decode cX12_lowersHops 118 = .ok (.istore_n 1, 1) := by decide +kernel
theorem dX12_lowersHops_67 : decode cX12_lowersHops 67 = .ok (.aload_n 0, 1) := by decide +kernel
theorem dX12_lowersHops_68 : decode cX12_lowersHops 68 = .ok (.getfield 45, 3) := by decide +kernel
theorem dX12_lowersHops_71 : decode cX12_lowersHops 71 = .ok (.iload_n 3, 1) := by decide +kernel
theorem dX12_lowersHops_72 : decode cX12_lowersHops 72 = .ok (.aload_n 0, 1) := by decide +kernel
theorem dX12_lowersHops_73 : decode cX12_lowersHops 73 = .ok (.getfield 45, 3) := by decide +kernel
theorem dX12_lowersHops_76 : decode cX12_lowersHops 76 = .ok (.iload 4, 2) := by decide +kernel
theorem dX12_lowersHops_78 : decode cX12_lowersHops 78 = .ok (.iaload, 1) := by decide +kernel
theorem dX12_lowersHops_79 : decode cX12_lowersHops 79 = .ok (.iconst 1, 1) := by decide +kernel
theorem dX12_lowersHops_80 : decode cX12_lowersHops 80 = .ok (.iadd, 1) := by decide +kernel
theorem dX12_lowersHops_81 : decode cX12_lowersHops 81 = .ok (.iastore, 1) := by decide +kernel
theorem dX12_lowersHops_82 : decode cX12_lowersHops 82 = .ok (.iconst 1, 1) := by decide +kernel
theorem dX12_lowersHops_83 : decode cX12_lowersHops 83 = .ok (.istore_n 1, 1) := by decide +kernel
theorem dX12_lowersHops_46 : decode cX12_lowersHops 46 = .ok (.goto 73, 3) := by decide +kernel
theorem dX12_laysHops_0 : decode cX12_laysHops 0 = .ok (.iconst 0, 1) := by decide +kernel
theorem dX12_laysHops_1 : decode cX12_laysHops 1 = .ok (.istore_n 2, 1) := by decide +kernel
theorem dX12_laysHops_2 : decode cX12_laysHops 2 = .ok (.iload_n 2, 1) := by decide +kernel
theorem dX12_laysHops_3 : decode cX12_laysHops 3 = .ok (.bipush 10, 2) := by decide +kernel
theorem dX12_laysHops_5 : decode cX12_laysHops 5 = .ok (.if_icmp .ge 18, 3) := by decide +kernel
theorem dX12_laysHops_8 : decode cX12_laysHops 8 = .ok (.aload_n 0, 1) := by decide +kernel
theorem dX12_laysHops_9 : decode cX12_laysHops 9 = .ok (.getfield 45, 3) := by decide +kernel
theorem dX12_laysHops_12 : decode cX12_laysHops 12 = .ok (.iload_n 2, 1) := by decide +kernel
theorem dX12_laysHops_13 : decode cX12_laysHops 13 = .ok (.sipush 1000, 3) := by decide +kernel
theorem dX12_laysHops_16 : decode cX12_laysHops 16 = .ok (.iastore, 1) := by decide +kernel
theorem dX12_laysHops_17 : decode cX12_laysHops 17 = .ok (.iinc 2 1, 3) := by decide +kernel
theorem dX12_laysHops_20 : decode cX12_laysHops 20 = .ok (.goto (-18), 3) := by decide +kernel
theorem dX12_laysHops_23 : decode cX12_laysHops 23 = .ok (.aload_n 0, 1) := by decide +kernel
theorem dX12_laysHops_24 : decode cX12_laysHops 24 = .ok (.iload_n 1, 1) := by decide +kernel
theorem dX12_laysHops_25 : decode cX12_laysHops 25 = .ok (.invokevirtual 271, 3) := by decide +kernel
theorem dX12_laysHops_28 : decode cX12_laysHops 28 = .ok (.ifCond .ne 10, 3) := by decide +kernel
theorem dX12_laysHops_38 : decode cX12_laysHops 38 = .ok (.iconst 1, 1) := by decide +kernel
theorem dX12_laysHops_39 : decode cX12_laysHops 39 = .ok (.istore_n 2, 1) := by decide +kernel
theorem dX12_laysHops_31 : decode cX12_laysHops 31 = .ok (.aload_n 0, 1) := by decide +kernel
theorem dX12_laysHops_32 : decode cX12_laysHops 32 = .ok (.getfield 45, 3) := by decide +kernel
theorem dX12_laysHops_35 : decode cX12_laysHops 35 = .ok (.iload_n 1, 1) := by decide +kernel
theorem dX12_laysHops_36 : decode cX12_laysHops 36 = .ok (.iconst 0, 1) := by decide +kernel
theorem dX12_laysHops_37 : decode cX12_laysHops 37 = .ok (.iastore, 1) := by decide +kernel
theorem dX12_laysHops_40 : decode cX12_laysHops 40 = .ok (.iload_n 2, 1) := by decide +kernel
theorem dX12_laysHops_41 : decode cX12_laysHops 41 = .ok (.ifCond .eq 11, 3) := by decide +kernel
theorem dX12_laysHops_44 : decode cX12_laysHops 44 = .ok (.aload_n 0, 1) := by decide +kernel
theorem dX12_laysHops_45 : decode cX12_laysHops 45 = .ok (.invokevirtual 277, 3) := by decide +kernel
theorem dX12_laysHops_48 : decode cX12_laysHops 48 = .ok (.istore_n 2, 1) := by decide +kernel
theorem dX12_laysHops_49 : decode cX12_laysHops 49 = .ok (.goto (-9), 3) := by decide +kernel
theorem dX12_laysHops_52 : decode cX12_laysHops 52 = .ok (.return_, 1) := by decide +kernel
theorem dX12_hopsBetween_0 : decode cX12_hopsBetween 0 = .ok (.aload_n 0, 1) := by decide +kernel
theorem dX12_hopsBetween_1 : decode cX12_hopsBetween 1 = .ok (.iload_n 2, 1) := by decide +kernel
theorem dX12_hopsBetween_2 : decode cX12_hopsBetween 2 = .ok (.invokevirtual 280, 3) := by decide +kernel
theorem dX12_hopsBetween_5 : decode cX12_hopsBetween 5 = .ok (.aload_n 0, 1) := by decide +kernel
theorem dX12_hopsBetween_6 : decode cX12_hopsBetween 6 = .ok (.getfield 45, 3) := by decide +kernel
theorem dX12_hopsBetween_9 : decode cX12_hopsBetween 9 = .ok (.iload_n 1, 1) := by decide +kernel
theorem dX12_hopsBetween_10 : decode cX12_hopsBetween 10 = .ok (.iaload, 1) := by decide +kernel
theorem dX12_hopsBetween_11 : decode cX12_hopsBetween 11 = .ok (.sipush 1000, 3) := by decide +kernel
theorem dX12_hopsBetween_14 : decode cX12_hopsBetween 14 = .ok (.if_icmp .ge 12, 3) := by decide +kernel
theorem dX12_hopsBetween_26 : decode cX12_hopsBetween 26 = .ok (.iconst (-1), 1) := by decide +kernel
theorem dX12_hopsBetween_27 : decode cX12_hopsBetween 27 = .ok (.ireturn, 1) := by decide +kernel
theorem dX12_hopsBetween_17 : decode cX12_hopsBetween 17 = .ok (.aload_n 0, 1) := by decide +kernel
theorem dX12_hopsBetween_18 : decode cX12_hopsBetween 18 = .ok (.getfield 45, 3) := by decide +kernel
theorem dX12_hopsBetween_21 : decode cX12_hopsBetween 21 = .ok (.iload_n 1, 1) := by decide +kernel
theorem dX12_hopsBetween_22 : decode cX12_hopsBetween 22 = .ok (.iaload, 1) := by decide +kernel
theorem dX12_hopsBetween_23 : decode cX12_hopsBetween 23 = .ok (.goto 4, 3) := by decide +kernel
theorem dX12_nextOf_0 : decode cX12_nextOf 0 = .ok (.iload_n 1, 1) := by decide +kernel
theorem dX12_nextOf_1 : decode cX12_nextOf 1 = .ok (.iload_n 2, 1) := by decide +kernel
theorem dX12_nextOf_2 : decode cX12_nextOf 2 = .ok (.if_icmp .eq 11, 3) := by decide +kernel
theorem dX12_nextOf_13 : decode cX12_nextOf 13 = .ok (.iconst (-1), 1) := by decide +kernel
theorem dX12_nextOf_14 : decode cX12_nextOf 14 = .ok (.ireturn, 1) := by decide +kernel
theorem dX12_nextOf_5 : decode cX12_nextOf 5 = .ok (.aload_n 0, 1) := by decide +kernel
theorem dX12_nextOf_6 : decode cX12_nextOf 6 = .ok (.iload_n 1, 1) := by decide +kernel
theorem dX12_nextOf_7 : decode cX12_nextOf 7 = .ok (.invokevirtual 271, 3) := by decide +kernel
theorem dX12_nextOf_10 : decode cX12_nextOf 10 = .ok (.ifCond .eq 5, 3) := by decide +kernel
theorem dX12_nextOf_15 : decode cX12_nextOf 15 = .ok (.aload_n 0, 1) := by decide +kernel
theorem dX12_nextOf_16 : decode cX12_nextOf 16 = .ok (.iload_n 2, 1) := by decide +kernel
theorem dX12_nextOf_17 : decode cX12_nextOf 17 = .ok (.invokevirtual 280, 3) := by decide +kernel
theorem dX12_nextOf_20 : decode cX12_nextOf 20 = .ok (.aload_n 0, 1) := by decide +kernel
theorem dX12_nextOf_21 : decode cX12_nextOf 21 = .ok (.iload_n 1, 1) := by decide +kernel
theorem dX12_nextOf_22 : decode cX12_nextOf 22 = .ok (.invokevirtual 265, 3) := by decide +kernel
theorem dX12_nextOf_25 : decode cX12_nextOf 25 = .ok (.istore_n 3, 1) := by decide +kernel
theorem dX12_nextOf_26 : decode cX12_nextOf 26 = .ok (.iconst (-1), 1) := by decide +kernel
theorem dX12_nextOf_27 : decode cX12_nextOf 27 = .ok (.istore 4, 2) := by decide +kernel
theorem dX12_nextOf_29 : decode cX12_nextOf 29 = .ok (.iconst 0, 1) := by decide +kernel
theorem dX12_nextOf_30 : decode cX12_nextOf 30 = .ok (.istore 5, 2) := by decide +kernel
theorem dX12_nextOf_32 : decode cX12_nextOf 32 = .ok (.iload 5, 2) := by decide +kernel
theorem dX12_nextOf_34 : decode cX12_nextOf 34 = .ok (.aload_n 0, 1) := by decide +kernel
theorem dX12_nextOf_35 : decode cX12_nextOf 35 = .ok (.getfield 20, 3) := by decide +kernel
theorem dX12_nextOf_38 : decode cX12_nextOf 38 = .ok (.iconst 0, 1) := by decide +kernel
theorem dX12_nextOf_39 : decode cX12_nextOf 39 = .ok (.iaload, 1) := by decide +kernel
theorem dX12_nextOf_40 : decode cX12_nextOf 40 = .ok (.if_icmp .ge 70, 3) := by decide +kernel
theorem dX12_nextOf_110 : decode cX12_nextOf 110 = .ok (.iload 4, 2) := by decide +kernel
theorem dX12_nextOf_112 : decode cX12_nextOf 112 = .ok (.ireturn, 1) := by decide +kernel
theorem dX12_nextOf_43 : decode cX12_nextOf 43 = .ok (.iload_n 3, 1) := by decide +kernel
theorem dX12_nextOf_44 : decode cX12_nextOf 44 = .ok (.iload 5, 2) := by decide +kernel
theorem dX12_nextOf_46 : decode cX12_nextOf 46 = .ok (.invokestatic 185, 3) := by decide +kernel
theorem dX12_nextOf_49 : decode cX12_nextOf 49 = .ok (.ifCond .eq 55, 3) := by decide +kernel
theorem dX12_nextOf_104 : decode cX12_nextOf 104 = .ok (.iinc 5 1, 3) := by decide +kernel
theorem dX12_nextOf_107 : decode cX12_nextOf 107 = .ok (.goto (-75), 3) := by decide +kernel
theorem dX12_nextOf_52 : decode cX12_nextOf 52 = .ok (.aload_n 0, 1) := by decide +kernel
theorem dX12_nextOf_53 : decode cX12_nextOf 53 = .ok (.iload 5, 2) := by decide +kernel
theorem dX12_nextOf_55 : decode cX12_nextOf 55 = .ok (.invokevirtual 271, 3) := by decide +kernel
theorem dX12_nextOf_58 : decode cX12_nextOf 58 = .ok (.ifCond .ne 46, 3) := by decide +kernel
theorem dX12_nextOf_61 : decode cX12_nextOf 61 = .ok (.aload_n 0, 1) := by decide +kernel
theorem dX12_nextOf_62 : decode cX12_nextOf 62 = .ok (.getfield 45, 3) := by decide +kernel
theorem dX12_nextOf_65 : decode cX12_nextOf 65 = .ok (.iload 5, 2) := by decide +kernel
theorem dX12_nextOf_67 : decode cX12_nextOf 67 = .ok (.iaload, 1) := by decide +kernel
theorem dX12_nextOf_68 : decode cX12_nextOf 68 = .ok (.sipush 1000, 3) := by decide +kernel
theorem dX12_nextOf_71 : decode cX12_nextOf 71 = .ok (.if_icmp .lt 6, 3) := by decide +kernel
theorem dX12_nextOf_77 : decode cX12_nextOf 77 = .ok (.iload 4, 2) := by decide +kernel
theorem dX12_nextOf_79 : decode cX12_nextOf 79 = .ok (.iconst (-1), 1) := by decide +kernel
theorem dX12_nextOf_80 : decode cX12_nextOf 80 = .ok (.if_icmp .eq 20, 3) := by decide +kernel
theorem dX12_nextOf_100 : decode cX12_nextOf 100 = .ok (.iload 5, 2) := by decide +kernel
theorem dX12_nextOf_102 : decode cX12_nextOf 102 = .ok (.istore 4, 2) := by decide +kernel
theorem dX12_nextOf_74 : decode cX12_nextOf 74 = .ok (.goto 30, 3) := by decide +kernel
theorem dX12_nextOf_83 : decode cX12_nextOf 83 = .ok (.aload_n 0, 1) := by decide +kernel
theorem dX12_nextOf_84 : decode cX12_nextOf 84 = .ok (.getfield 45, 3) := by decide +kernel
theorem dX12_nextOf_87 : decode cX12_nextOf 87 = .ok (.iload 5, 2) := by decide +kernel
theorem dX12_nextOf_89 : decode cX12_nextOf 89 = .ok (.iaload, 1) := by decide +kernel
theorem dX12_nextOf_90 : decode cX12_nextOf 90 = .ok (.aload_n 0, 1) := by decide +kernel
theorem dX12_nextOf_91 : decode cX12_nextOf 91 = .ok (.getfield 45, 3) := by decide +kernel
theorem dX12_nextOf_94 : decode cX12_nextOf 94 = .ok (.iload 4, 2) := by decide +kernel
theorem dX12_nextOf_96 : decode cX12_nextOf 96 = .ok (.iaload, 1) := by decide +kernel
theorem dX12_nextOf_97 : decode cX12_nextOf 97 = .ok (.if_icmp .ge 7, 3) := by decide +kernel
theorem dX12_uses_0 : decode cX12_uses 0 = .ok (.aload_n 0, 1) := by decide +kernel
theorem dX12_uses_1 : decode cX12_uses 1 = .ok (.iload_n 1, 1) := by decide +kernel
theorem dX12_uses_2 : decode cX12_uses 2 = .ok (.iconst 2, 1) := by decide +kernel
theorem dX12_uses_3 : decode cX12_uses 3 = .ok (.aload_n 0, 1) := by decide +kernel
theorem dX12_uses_4 : decode cX12_uses 4 = .ok (.iload_n 1, 1) := by decide +kernel
theorem dX12_uses_5 : decode cX12_uses 5 = .ok (.iconst 2, 1) := by decide +kernel
theorem dX12_uses_6 : decode cX12_uses 6 = .ok (.invokevirtual 256, 3) := by decide +kernel
theorem dX12_uses_9 : decode cX12_uses 9 = .ok (.iload_n 2, 1) := by decide +kernel
theorem dX12_uses_10 : decode cX12_uses 10 = .ok (.isub, 1) := by decide +kernel
theorem dX12_uses_11 : decode cX12_uses 11 = .ok (.invokevirtual 202, 3) := by decide +kernel
theorem dX12_uses_14 : decode cX12_uses 14 = .ok (.return_, 1) := by decide +kernel
theorem dX12_wakes_0 : decode cX12_wakes 0 = .ok (.aload_n 0, 1) := by decide +kernel
theorem dX12_wakes_1 : decode cX12_wakes 1 = .ok (.iconst 0, 1) := by decide +kernel
theorem dX12_wakes_2 : decode cX12_wakes 2 = .ok (.putfield 283, 3) := by decide +kernel
theorem dX12_wakes_5 : decode cX12_wakes 5 = .ok (.aload_n 0, 1) := by decide +kernel
theorem dX12_wakes_6 : decode cX12_wakes 6 = .ok (.iconst 0, 1) := by decide +kernel
theorem dX12_wakes_7 : decode cX12_wakes 7 = .ok (.invokevirtual 286, 3) := by decide +kernel
theorem dX12_wakes_10 : decode cX12_wakes 10 = .ok (.istore_n 1, 1) := by decide +kernel
theorem dX12_wakes_11 : decode cX12_wakes 11 = .ok (.iconst 0, 1) := by decide +kernel
theorem dX12_wakes_12 : decode cX12_wakes 12 = .ok (.istore_n 2, 1) := by decide +kernel
theorem dX12_wakes_13 : decode cX12_wakes 13 = .ok (.iload_n 2, 1) := by decide +kernel
theorem dX12_wakes_14 : decode cX12_wakes 14 = .ok (.aload_n 0, 1) := by decide +kernel
theorem dX12_wakes_15 : decode cX12_wakes 15 = .ok (.getfield 20, 3) := by decide +kernel
theorem dX12_wakes_18 : decode cX12_wakes 18 = .ok (.iconst 0, 1) := by decide +kernel
theorem dX12_wakes_19 : decode cX12_wakes 19 = .ok (.iaload, 1) := by decide +kernel
theorem dX12_wakes_20 : decode cX12_wakes 20 = .ok (.if_icmp .ge 88, 3) := by decide +kernel
theorem dX12_wakes_108 : decode cX12_wakes 108 = .ok (.return_, 1) := by decide +kernel
theorem dX12_wakes_23 : decode cX12_wakes 23 = .ok (.aload_n 0, 1) := by decide +kernel
theorem dX12_wakes_24 : decode cX12_wakes 24 = .ok (.getfield 48, 3) := by decide +kernel
theorem dX12_wakes_27 : decode cX12_wakes 27 = .ok (.iload_n 2, 1) := by decide +kernel
theorem dX12_wakes_28 : decode cX12_wakes 28 = .ok (.aload_n 0, 1) := by decide +kernel
theorem dX12_wakes_29 : decode cX12_wakes 29 = .ok (.iload_n 2, 1) := by decide +kernel
theorem dX12_wakes_30 : decode cX12_wakes 30 = .ok (.invokevirtual 289, 3) := by decide +kernel
theorem dX12_wakes_33 : decode cX12_wakes 33 = .ok (.iastore, 1) := by decide +kernel
theorem dX12_wakes_34 : decode cX12_wakes 34 = .ok (.iload_n 1, 1) := by decide +kernel
theorem dX12_wakes_35 : decode cX12_wakes 35 = .ok (.iload_n 2, 1) := by decide +kernel
theorem dX12_wakes_36 : decode cX12_wakes 36 = .ok (.invokestatic 185, 3) := by decide +kernel
theorem dX12_wakes_39 : decode cX12_wakes 39 = .ok (.ifCond .ne 6, 3) := by decide +kernel
theorem dX12_wakes_45 : decode cX12_wakes 45 = .ok (.aload_n 0, 1) := by decide +kernel
theorem dX12_wakes_46 : decode cX12_wakes 46 = .ok (.iload_n 2, 1) := by decide +kernel
theorem dX12_wakes_47 : decode cX12_wakes 47 = .ok (.aload_n 0, 1) := by decide +kernel
theorem dX12_wakes_48 : decode cX12_wakes 48 = .ok (.getfield 20, 3) := by decide +kernel
theorem dX12_wakes_51 : decode cX12_wakes 51 = .ok (.iconst 5, 1) := by decide +kernel
theorem dX12_wakes_52 : decode cX12_wakes 52 = .ok (.iaload, 1) := by decide +kernel
theorem dX12_wakes_53 : decode cX12_wakes 53 = .ok (.aload_n 0, 1) := by decide +kernel
theorem dX12_wakes_54 : decode cX12_wakes 54 = .ok (.iload_n 2, 1) := by decide +kernel
theorem dX12_wakes_55 : decode cX12_wakes 55 = .ok (.iconst 2, 1) := by decide +kernel
theorem dX12_wakes_56 : decode cX12_wakes 56 = .ok (.invokevirtual 256, 3) := by decide +kernel
theorem dX12_wakes_59 : decode cX12_wakes 59 = .ok (.invokestatic 292, 3) := by decide +kernel
theorem dX12_wakes_62 : decode cX12_wakes 62 = .ok (.invokevirtual 295, 3) := by decide +kernel
theorem dX12_wakes_65 : decode cX12_wakes 65 = .ok (.aload_n 0, 1) := by decide +kernel
theorem dX12_wakes_66 : decode cX12_wakes 66 = .ok (.iload_n 2, 1) := by decide +kernel
theorem dX12_wakes_67 : decode cX12_wakes 67 = .ok (.invokevirtual 271, 3) := by decide +kernel
theorem dX12_wakes_70 : decode cX12_wakes 70 = .ok (.ifCond .eq 6, 3) := by decide +kernel
theorem dX12_wakes_76 : decode cX12_wakes 76 = .ok (.aload_n 0, 1) := by decide +kernel
theorem dX12_wakes_77 : decode cX12_wakes 77 = .ok (.dup, 1) := by decide +kernel
theorem dX12_wakes_78 : decode cX12_wakes 78 = .ok (.getfield 283, 3) := by decide +kernel
theorem dX12_wakes_81 : decode cX12_wakes 81 = .ok (.iconst 1, 1) := by decide +kernel
theorem dX12_wakes_82 : decode cX12_wakes 82 = .ok (.iload_n 2, 1) := by decide +kernel
theorem dX12_wakes_83 : decode cX12_wakes 83 = .ok (.ishl, 1) := by decide +kernel
theorem dX12_wakes_84 : decode cX12_wakes 84 = .ok (.ior, 1) := by decide +kernel
theorem dX12_wakes_85 : decode cX12_wakes 85 = .ok (.putfield 283, 3) := by decide +kernel
theorem dX12_wakes_88 : decode cX12_wakes 88 = .ok (.aload_n 0, 1) := by decide +kernel
theorem dX12_wakes_89 : decode cX12_wakes 89 = .ok (.iload_n 2, 1) := by decide +kernel
theorem dX12_wakes_90 : decode cX12_wakes 90 = .ok (.iconst 3, 1) := by decide +kernel
theorem dX12_wakes_91 : decode cX12_wakes 91 = .ok (.aload_n 0, 1) := by decide +kernel
theorem dX12_wakes_92 : decode cX12_wakes 92 = .ok (.iload_n 2, 1) := by decide +kernel
theorem dX12_wakes_93 : decode cX12_wakes 93 = .ok (.iconst 3, 1) := by decide +kernel
theorem dX12_wakes_94 : decode cX12_wakes 94 = .ok (.invokevirtual 256, 3) := by decide +kernel
theorem dX12_wakes_97 : decode cX12_wakes 97 = .ok (.iconst 1, 1) := by decide +kernel
theorem dX12_wakes_98 : decode cX12_wakes 98 = .ok (.iadd, 1) := by decide +kernel
theorem dX12_wakes_99 : decode cX12_wakes 99 = .ok (.invokevirtual 202, 3) := by decide +kernel
theorem dX12_wakes_102 : decode cX12_wakes 102 = .ok (.iinc 2 1, 3) := by decide +kernel
theorem dX12_wakes_105 : decode cX12_wakes 105 = .ok (.goto (-92), 3) := by decide +kernel
theorem dX12_wakes_73 : decode cX12_wakes 73 = .ok (.goto 29, 3) := by decide +kernel
theorem dX12_wakes_42 : decode cX12_wakes 42 = .ok (.goto 60, 3) := by decide +kernel
theorem dX12_meets_0 : decode cX12_meets 0 = .ok (.aload_n 0, 1) := by decide +kernel
theorem dX12_meets_1 : decode cX12_meets 1 = .ok (.iload_n 1, 1) := by decide +kernel
theorem dX12_meets_2 : decode cX12_meets 2 = .ok (.iconst 3, 1) := by decide +kernel
theorem dX12_meets_3 : decode cX12_meets 3 = .ok (.aload_n 0, 1) := by decide +kernel
theorem dX12_meets_4 : decode cX12_meets 4 = .ok (.iload_n 1, 1) := by decide +kernel
theorem dX12_meets_5 : decode cX12_meets 5 = .ok (.iconst 3, 1) := by decide +kernel
theorem dX12_meets_6 : decode cX12_meets 6 = .ok (.invokevirtual 210, 3) := by decide +kernel
theorem dX12_meets_9 : decode cX12_meets 9 = .ok (.iconst 1, 1) := by decide +kernel
theorem dX12_meets_10 : decode cX12_meets 10 = .ok (.iadd, 1) := by decide +kernel
theorem dX12_meets_11 : decode cX12_meets 11 = .ok (.invokevirtual 219, 3) := by decide +kernel
theorem dX12_meets_14 : decode cX12_meets 14 = .ok (.aload_n 0, 1) := by decide +kernel
theorem dX12_meets_15 : decode cX12_meets 15 = .ok (.iload_n 1, 1) := by decide +kernel
theorem dX12_meets_16 : decode cX12_meets 16 = .ok (.iconst 2, 1) := by decide +kernel
theorem dX12_meets_17 : decode cX12_meets 17 = .ok (.iconst 0, 1) := by decide +kernel
theorem dX12_meets_18 : decode cX12_meets 18 = .ok (.invokevirtual 219, 3) := by decide +kernel
theorem dX12_meets_21 : decode cX12_meets 21 = .ok (.return_, 1) := by decide +kernel
theorem dX12_misses_0 : decode cX12_misses 0 = .ok (.aload_n 0, 1) := by decide +kernel
theorem dX12_misses_1 : decode cX12_misses 1 = .ok (.iload_n 1, 1) := by decide +kernel
theorem dX12_misses_2 : decode cX12_misses 2 = .ok (.iconst 4, 1) := by decide +kernel
theorem dX12_misses_3 : decode cX12_misses 3 = .ok (.aload_n 0, 1) := by decide +kernel
theorem dX12_misses_4 : decode cX12_misses 4 = .ok (.iload_n 1, 1) := by decide +kernel
theorem dX12_misses_5 : decode cX12_misses 5 = .ok (.iconst 4, 1) := by decide +kernel
theorem dX12_misses_6 : decode cX12_misses 6 = .ok (.invokevirtual 210, 3) := by decide +kernel
theorem dX12_misses_9 : decode cX12_misses 9 = .ok (.iconst 1, 1) := by decide +kernel
theorem dX12_misses_10 : decode cX12_misses 10 = .ok (.iadd, 1) := by decide +kernel
theorem dX12_misses_11 : decode cX12_misses 11 = .ok (.invokevirtual 219, 3) := by decide +kernel
theorem dX12_misses_14 : decode cX12_misses 14 = .ok (.aload_n 0, 1) := by decide +kernel
theorem dX12_misses_15 : decode cX12_misses 15 = .ok (.iload_n 1, 1) := by decide +kernel
theorem dX12_misses_16 : decode cX12_misses 16 = .ok (.iconst 2, 1) := by decide +kernel
theorem dX12_misses_17 : decode cX12_misses 17 = .ok (.aload_n 0, 1) := by decide +kernel
theorem dX12_misses_18 : decode cX12_misses 18 = .ok (.iload_n 1, 1) := by decide +kernel
theorem dX12_misses_19 : decode cX12_misses 19 = .ok (.iconst 2, 1) := by decide +kernel
theorem dX12_misses_20 : decode cX12_misses 20 = .ok (.invokevirtual 210, 3) := by decide +kernel
theorem dX12_misses_23 : decode cX12_misses 23 = .ok (.iconst 1, 1) := by decide +kernel
theorem dX12_misses_24 : decode cX12_misses 24 = .ok (.iadd, 1) := by decide +kernel
theorem dX12_misses_25 : decode cX12_misses 25 = .ok (.invokevirtual 219, 3) := by decide +kernel
theorem dX12_misses_28 : decode cX12_misses 28 = .ok (.aload_n 0, 1) := by decide +kernel
theorem dX12_misses_29 : decode cX12_misses 29 = .ok (.iload_n 1, 1) := by decide +kernel
theorem dX12_misses_30 : decode cX12_misses 30 = .ok (.iconst 2, 1) := by decide +kernel
theorem dX12_misses_31 : decode cX12_misses 31 = .ok (.invokevirtual 210, 3) := by decide +kernel
theorem dX12_misses_34 : decode cX12_misses 34 = .ok (.aload_n 0, 1) := by decide +kernel
theorem dX12_misses_35 : decode cX12_misses 35 = .ok (.getfield 20, 3) := by decide +kernel
theorem dX12_misses_38 : decode cX12_misses 38 = .ok (.bipush 8, 2) := by decide +kernel
theorem dX12_misses_40 : decode cX12_misses 40 = .ok (.iaload, 1) := by decide +kernel
theorem dX12_misses_41 : decode cX12_misses 41 = .ok (.if_icmp .ge 4, 3) := by decide +kernel
theorem dX12_misses_45 : decode cX12_misses 45 = .ok (.aload_n 0, 1) := by decide +kernel
theorem dX12_misses_46 : decode cX12_misses 46 = .ok (.iload_n 1, 1) := by decide +kernel
theorem dX12_misses_47 : decode cX12_misses 47 = .ok (.iconst 2, 1) := by decide +kernel
theorem dX12_misses_48 : decode cX12_misses 48 = .ok (.iconst 0, 1) := by decide +kernel
theorem dX12_misses_49 : decode cX12_misses 49 = .ok (.invokevirtual 219, 3) := by decide +kernel
theorem dX12_misses_52 : decode cX12_misses 52 = .ok (.aload_n 0, 1) := by decide +kernel
theorem dX12_misses_53 : decode cX12_misses 53 = .ok (.iload_n 2, 1) := by decide +kernel
theorem dX12_misses_54 : decode cX12_misses 54 = .ok (.iload_n 3, 1) := by decide +kernel
theorem dX12_misses_55 : decode cX12_misses 55 = .ok (.invokestatic 299, 3) := by decide +kernel
theorem dX12_misses_58 : decode cX12_misses 58 = .ok (.iconst 1, 1) := by decide +kernel
theorem dX12_misses_59 : decode cX12_misses 59 = .ok (.aload_n 0, 1) := by decide +kernel
theorem dX12_misses_60 : decode cX12_misses 60 = .ok (.iload_n 2, 1) := by decide +kernel
theorem dX12_misses_61 : decode cX12_misses 61 = .ok (.iload_n 3, 1) := by decide +kernel
theorem dX12_misses_62 : decode cX12_misses 62 = .ok (.invokestatic 292, 3) := by decide +kernel
theorem dX12_misses_65 : decode cX12_misses 65 = .ok (.iconst 1, 1) := by decide +kernel
theorem dX12_misses_66 : decode cX12_misses 66 = .ok (.invokevirtual 256, 3) := by decide +kernel
theorem dX12_misses_69 : decode cX12_misses 69 = .ok (.invokevirtual 202, 3) := by decide +kernel
theorem dX12_misses_72 : decode cX12_misses 72 = .ok (.aload_n 0, 1) := by decide +kernel
theorem dX12_misses_73 : decode cX12_misses 73 = .ok (.getfield 20, 3) := by decide +kernel
theorem dX12_misses_76 : decode cX12_misses 76 = .ok (.bipush 9, 2) := by decide +kernel
theorem dX12_misses_78 : decode cX12_misses 78 = .ok (.dup2, 1) := by decide +kernel
theorem dX12_misses_79 : decode cX12_misses 79 = .ok (.iaload, 1) := by decide +kernel
theorem dX12_misses_80 : decode cX12_misses 80 = .ok (.iconst 1, 1) := by decide +kernel
theorem dX12_misses_81 : decode cX12_misses 81 = .ok (.iadd, 1) := by decide +kernel
theorem dX12_misses_82 : decode cX12_misses 82 = .ok (.iastore, 1) := by decide +kernel
theorem dX12_misses_83 : decode cX12_misses 83 = .ok (.return_, 1) := by decide +kernel
theorem dX12_misses_44 : decode cX12_misses 44 = .ok (.return_, 1) := by decide +kernel
theorem dX12_looksAt_0 : decode cX12_looksAt 0 = .ok (.aload_n 0, 1) := by decide +kernel
theorem dX12_looksAt_1 : decode cX12_looksAt 1 = .ok (.iload_n 1, 1) := by decide +kernel
theorem dX12_looksAt_2 : decode cX12_looksAt 2 = .ok (.iconst 0, 1) := by decide +kernel
theorem dX12_looksAt_3 : decode cX12_looksAt 3 = .ok (.invokevirtual 210, 3) := by decide +kernel
theorem dX12_looksAt_6 : decode cX12_looksAt 6 = .ok (.istore_n 2, 1) := by decide +kernel
theorem dX12_looksAt_7 : decode cX12_looksAt 7 = .ok (.aload_n 0, 1) := by decide +kernel
theorem dX12_looksAt_8 : decode cX12_looksAt 8 = .ok (.iload_n 1, 1) := by decide +kernel
theorem dX12_looksAt_9 : decode cX12_looksAt 9 = .ok (.iconst 1, 1) := by decide +kernel
theorem dX12_looksAt_10 : decode cX12_looksAt 10 = .ok (.invokevirtual 210, 3) := by decide +kernel
theorem dX12_looksAt_13 : decode cX12_looksAt 13 = .ok (.istore_n 3, 1) := by decide +kernel
theorem dX12_looksAt_14 : decode cX12_looksAt 14 = .ok (.aload_n 0, 1) := by decide +kernel
theorem dX12_looksAt_15 : decode cX12_looksAt 15 = .ok (.iload_n 2, 1) := by decide +kernel
theorem dX12_looksAt_16 : decode cX12_looksAt 16 = .ok (.invokevirtual 271, 3) := by decide +kernel
theorem dX12_looksAt_19 : decode cX12_looksAt 19 = .ok (.ifCond .ne 11, 3) := by decide +kernel
theorem dX12_looksAt_30 : decode cX12_looksAt 30 = .ok (.return_, 1) := by decide +kernel
theorem dX12_looksAt_22 : decode cX12_looksAt 22 = .ok (.aload_n 0, 1) := by decide +kernel
theorem dX12_looksAt_23 : decode cX12_looksAt 23 = .ok (.iload_n 3, 1) := by decide +kernel
theorem dX12_looksAt_24 : decode cX12_looksAt 24 = .ok (.invokevirtual 271, 3) := by decide +kernel
theorem dX12_looksAt_27 : decode cX12_looksAt 27 = .ok (.ifCond .eq 4, 3) := by decide +kernel
theorem dX12_looksAt_31 : decode cX12_looksAt 31 = .ok (.aload_n 0, 1) := by decide +kernel
theorem dX12_looksAt_32 : decode cX12_looksAt 32 = .ok (.getfield 283, 3) := by decide +kernel
theorem dX12_looksAt_35 : decode cX12_looksAt 35 = .ok (.iload_n 2, 1) := by decide +kernel
theorem dX12_looksAt_36 : decode cX12_looksAt 36 = .ok (.invokestatic 185, 3) := by decide +kernel
theorem dX12_looksAt_39 : decode cX12_looksAt 39 = .ok (.istore 4, 2) := by decide +kernel
theorem dX12_looksAt_41 : decode cX12_looksAt 41 = .ok (.aload_n 0, 1) := by decide +kernel
theorem dX12_looksAt_42 : decode cX12_looksAt 42 = .ok (.getfield 283, 3) := by decide +kernel
theorem dX12_looksAt_45 : decode cX12_looksAt 45 = .ok (.iload_n 3, 1) := by decide +kernel
theorem dX12_looksAt_46 : decode cX12_looksAt 46 = .ok (.invokestatic 185, 3) := by decide +kernel
theorem dX12_looksAt_49 : decode cX12_looksAt 49 = .ok (.istore 5, 2) := by decide +kernel
theorem dX12_looksAt_51 : decode cX12_looksAt 51 = .ok (.iload 4, 2) := by decide +kernel
theorem dX12_looksAt_53 : decode cX12_looksAt 53 = .ok (.ifCond .eq 13, 3) := by decide +kernel
theorem dX12_looksAt_66 : decode cX12_looksAt 66 = .ok (.iload 4, 2) := by decide +kernel
theorem dX12_looksAt_68 : decode cX12_looksAt 68 = .ok (.iload 5, 2) := by decide +kernel
theorem dX12_looksAt_70 : decode cX12_looksAt 70 = .ok (.if_icmp .ne 4, 3) := by decide +kernel
