theorem dX12_isNode_0 : decode cX12_isNode 0 = .ok (.iload_n 1, 1) := by decide +kernel
theorem dX12_isNode_1 : decode cX12_isNode 1 = .ok (.i2l, 1) := by decide +kernel
theorem dX12_isNode_2 : decode cX12_isNode 2 = .ok (.lconst 0, 1) := by decide +kernel
theorem dX12_isNode_3 : decode cX12_isNode 3 = .ok (.aload_n 0, 1) := by decide +kernel
theorem dX12_isNode_4 : decode cX12_isNode 4 = .ok (.getfield 20, 3) := by decide +kernel
theorem dX12_isNode_7 : decode cX12_isNode 7 = .ok (.iconst 0, 1) := by decide +kernel
theorem dX12_isNode_8 : decode cX12_isNode 8 = .ok (.iaload, 1) := by decide +kernel
theorem dX12_isNode_9 : decode cX12_isNode 9 = .ok (.iconst 1, 1) := by decide +kernel
theorem dX12_isNode_10 : decode cX12_isNode 10 = .ok (.isub, 1) := by decide +kernel
theorem dX12_isNode_11 : decode cX12_isNode 11 = .ok (.i2l, 1) := by decide +kernel
theorem dX12_isNode_12 : decode cX12_isNode 12 = .ok (.invokestatic 93, 3) := by decide +kernel
theorem dX12_isNode_15 : decode cX12_isNode 15 = .ok (.ireturn, 1) := by decide +kernel
theorem dX12_isMessage_0 : decode cX12_isMessage 0 = .ok (.iload_n 1, 1) := by decide +kernel
theorem dX12_isMessage_1 : decode cX12_isMessage 1 = .ok (.i2l, 1) := by decide +kernel
theorem dX12_isMessage_2 : decode cX12_isMessage 2 = .ok (.lconst 0, 1) := by decide +kernel
theorem dX12_isMessage_3 : decode cX12_isMessage 3 = .ok (.aload_n 0, 1) := by decide +kernel
theorem dX12_isMessage_4 : decode cX12_isMessage 4 = .ok (.getfield 20, 3) := by decide +kernel
theorem dX12_isMessage_7 : decode cX12_isMessage 7 = .ok (.iconst 4, 1) := by decide +kernel
theorem dX12_isMessage_8 : decode cX12_isMessage 8 = .ok (.iaload, 1) := by decide +kernel
theorem dX12_isMessage_9 : decode cX12_isMessage 9 = .ok (.iconst 1, 1) := by decide +kernel
theorem dX12_isMessage_10 : decode cX12_isMessage 10 = .ok (.isub, 1) := by decide +kernel
theorem dX12_isMessage_11 : decode cX12_isMessage 11 = .ok (.i2l, 1) := by decide +kernel
theorem dX12_isMessage_12 : decode cX12_isMessage 12 = .ok (.invokestatic 93, 3) := by decide +kernel
theorem dX12_isMessage_15 : decode cX12_isMessage 15 = .ok (.ireturn, 1) := by decide +kernel
theorem dX12_isDay_0 : decode cX12_isDay 0 = .ok (.iload_n 1, 1) := by decide +kernel
theorem dX12_isDay_1 : decode cX12_isDay 1 = .ok (.i2l, 1) := by decide +kernel
theorem dX12_isDay_2 : decode cX12_isDay 2 = .ok (.lconst 0, 1) := by decide +kernel
theorem dX12_isDay_3 : decode cX12_isDay 3 = .ok (.aload_n 0, 1) := by decide +kernel
theorem dX12_isDay_4 : decode cX12_isDay 4 = .ok (.getfield 20, 3) := by decide +kernel
theorem dX12_isDay_7 : decode cX12_isDay 7 = .ok (.iconst 2, 1) := by decide +kernel
theorem dX12_isDay_8 : decode cX12_isDay 8 = .ok (.iaload, 1) := by decide +kernel
theorem dX12_isDay_9 : decode cX12_isDay 9 = .ok (.iconst 1, 1) := by decide +kernel
theorem dX12_isDay_10 : decode cX12_isDay 10 = .ok (.isub, 1) := by decide +kernel
theorem dX12_isDay_11 : decode cX12_isDay 11 = .ok (.i2l, 1) := by decide +kernel
theorem dX12_isDay_12 : decode cX12_isDay 12 = .ok (.invokestatic 93, 3) := by decide +kernel
theorem dX12_isDay_15 : decode cX12_isDay 15 = .ok (.ireturn, 1) := by decide +kernel
theorem dX12_inState_0 : decode cX12_inState 0 = .ok (.iconst 0, 1) := by decide +kernel
theorem dX12_inState_1 : decode cX12_inState 1 = .ok (.istore_n 2, 1) := by decide +kernel
theorem dX12_inState_2 : decode cX12_inState 2 = .ok (.iconst 0, 1) := by decide +kernel
theorem dX12_inState_3 : decode cX12_inState 3 = .ok (.istore_n 3, 1) := by decide +kernel
theorem dX12_inState_4 : decode cX12_inState 4 = .ok (.iload_n 3, 1) := by decide +kernel
theorem dX12_inState_5 : decode cX12_inState 5 = .ok (.aload_n 0, 1) := by decide +kernel
theorem dX12_inState_6 : decode cX12_inState 6 = .ok (.getfield 20, 3) := by decide +kernel
theorem dX12_inState_9 : decode cX12_inState 9 = .ok (.iconst 4, 1) := by decide +kernel
theorem dX12_inState_10 : decode cX12_inState 10 = .ok (.iaload, 1) := by decide +kernel
theorem dX12_inState_11 : decode cX12_inState 11 = .ok (.if_icmp .ge 30, 3) := by decide +kernel
theorem dX12_inState_41 : decode cX12_inState 41 = .ok (.iload_n 2, 1) := by decide +kernel
theorem dX12_inState_42 : decode cX12_inState 42 = .ok (.ireturn, 1) := by decide +kernel
theorem dX12_inState_14 : decode cX12_inState 14 = .ok (.iload_n 2, 1) := by decide +kernel
theorem dX12_inState_15 : decode cX12_inState 15 = .ok (.aload_n 0, 1) := by decide +kernel
theorem dX12_inState_16 : decode cX12_inState 16 = .ok (.iload_n 3, 1) := by decide +kernel
theorem dX12_inState_17 : decode cX12_inState 17 = .ok (.iconst 3, 1) := by decide +kernel
theorem dX12_inState_18 : decode cX12_inState 18 = .ok (.invokevirtual 308, 3) := by decide +kernel
theorem dX12_inState_21 : decode cX12_inState 21 = .ok (.iload_n 1, 1) := by decide +kernel
theorem dX12_inState_22 : decode cX12_inState 22 = .ok (.if_icmp .ne 7, 3) := by decide +kernel
theorem dX12_inState_29 : decode cX12_inState 29 = .ok (.iconst 0, 1) := by decide +kernel
theorem dX12_inState_30 : decode cX12_inState 30 = .ok (.invokestatic 78, 3) := by decide +kernel
theorem dX12_inState_33 : decode cX12_inState 33 = .ok (.iadd, 1) := by decide +kernel
theorem dX12_inState_34 : decode cX12_inState 34 = .ok (.istore_n 2, 1) := by decide +kernel
theorem dX12_inState_35 : decode cX12_inState 35 = .ok (.iinc 3 1, 3) := by decide +kernel
theorem dX12_inState_38 : decode cX12_inState 38 = .ok (.goto (-34), 3) := by decide +kernel
theorem dX12_inState_25 : decode cX12_inState 25 = .ok (.iconst 1, 1) := by decide +kernel
theorem dX12_inState_26 : decode cX12_inState 26 = .ok (.goto 4, 3) := by decide +kernel
theorem dX12_inTime_0 : decode cX12_inTime 0 = .ok (.iconst 0, 1) := by decide +kernel
theorem dX12_inTime_1 : decode cX12_inTime 1 = .ok (.istore_n 1, 1) := by decide +kernel
theorem dX12_inTime_2 : decode cX12_inTime 2 = .ok (.iconst 0, 1) := by decide +kernel
theorem dX12_inTime_3 : decode cX12_inTime 3 = .ok (.istore_n 2, 1) := by decide +kernel
theorem dX12_inTime_4 : decode cX12_inTime 4 = .ok (.iload_n 2, 1) := by decide +kernel
theorem dX12_inTime_5 : decode cX12_inTime 5 = .ok (.aload_n 0, 1) := by decide +kernel
theorem dX12_inTime_6 : decode cX12_inTime 6 = .ok (.getfield 20, 3) := by decide +kernel
theorem dX12_inTime_9 : decode cX12_inTime 9 = .ok (.iconst 4, 1) := by decide +kernel
theorem dX12_inTime_10 : decode cX12_inTime 10 = .ok (.iaload, 1) := by decide +kernel
theorem dX12_inTime_11 : decode cX12_inTime 11 = .ok (.if_icmp .ge 46, 3) := by decide +kernel
theorem dX12_inTime_57 : decode cX12_inTime 57 = .ok (.iload_n 1, 1) := by decide +kernel
theorem dX12_inTime_58 : decode cX12_inTime 58 = .ok (.ireturn, 1) := by decide +kernel
theorem dX12_inTime_14 : decode cX12_inTime 14 = .ok (.iload_n 1, 1) := by decide +kernel
theorem dX12_inTime_15 : decode cX12_inTime 15 = .ok (.aload_n 0, 1) := by decide +kernel
theorem dX12_inTime_16 : decode cX12_inTime 16 = .ok (.iload_n 2, 1) := by decide +kernel
theorem dX12_inTime_17 : decode cX12_inTime 17 = .ok (.iconst 3, 1) := by decide +kernel
theorem dX12_inTime_18 : decode cX12_inTime 18 = .ok (.invokevirtual 308, 3) := by decide +kernel
theorem dX12_inTime_21 : decode cX12_inTime 21 = .ok (.iconst 1, 1) := by decide +kernel
theorem dX12_inTime_22 : decode cX12_inTime 22 = .ok (.if_icmp .ne 23, 3) := by decide +kernel
theorem dX12_inTime_45 : decode cX12_inTime 45 = .ok (.iconst 0, 1) := by decide +kernel
theorem dX12_inTime_46 : decode cX12_inTime 46 = .ok (.invokestatic 78, 3) := by decide +kernel
theorem dX12_inTime_49 : decode cX12_inTime 49 = .ok (.iadd, 1) := by decide +kernel
theorem dX12_inTime_50 : decode cX12_inTime 50 = .ok (.istore_n 1, 1) := by decide +kernel
theorem dX12_inTime_51 : decode cX12_inTime 51 = .ok (.iinc 2 1, 3) := by decide +kernel
theorem dX12_inTime_54 : decode cX12_inTime 54 = .ok (.goto (-50), 3) := by decide +kernel
theorem dX12_inTime_25 : decode cX12_inTime 25 = .ok (.aload_n 0, 1) := by decide +kernel
theorem dX12_inTime_26 : decode cX12_inTime 26 = .ok (.iload_n 2, 1) := by decide +kernel
theorem dX12_inTime_27 : decode cX12_inTime 27 = .ok (.bipush 6, 2) := by decide +kernel
theorem dX12_inTime_29 : decode cX12_inTime 29 = .ok (.invokevirtual 308, 3) := by decide +kernel
theorem dX12_inTime_32 : decode cX12_inTime 32 = .ok (.aload_n 0, 1) := by decide +kernel
theorem dX12_inTime_33 : decode cX12_inTime 33 = .ok (.iload_n 2, 1) := by decide +kernel
theorem dX12_inTime_34 : decode cX12_inTime 34 = .ok (.iconst 4, 1) := by decide +kernel
theorem dX12_inTime_35 : decode cX12_inTime 35 = .ok (.invokevirtual 308, 3) := by decide +kernel
theorem dX12_inTime_38 : decode cX12_inTime 38 = .ok (.if_icmp .gt 7, 3) := by decide +kernel
theorem dX12_inTime_41 : decode cX12_inTime 41 = .ok (.iconst 1, 1) := by decide +kernel
theorem dX12_inTime_42 : decode cX12_inTime 42 = .ok (.goto 4, 3) := by decide +kernel
theorem dX12_notOut_0 : decode cX12_notOut 0 = .ok (.iconst 0, 1) := by decide +kernel
theorem dX12_notOut_1 : decode cX12_notOut 1 = .ok (.istore_n 1, 1) := by decide +kernel
theorem dX12_notOut_2 : decode cX12_notOut 2 = .ok (.iconst 0, 1) := by decide +kernel
theorem dX12_notOut_3 : decode cX12_notOut 3 = .ok (.istore_n 2, 1) := by decide +kernel
theorem dX12_notOut_4 : decode cX12_notOut 4 = .ok (.iload_n 2, 1) := by decide +kernel
theorem dX12_notOut_5 : decode cX12_notOut 5 = .ok (.aload_n 0, 1) := by decide +kernel
theorem dX12_notOut_6 : decode cX12_notOut 6 = .ok (.getfield 20, 3) := by decide +kernel
theorem dX12_notOut_9 : decode cX12_notOut 9 = .ok (.iconst 0, 1) := by decide +kernel
theorem dX12_notOut_10 : decode cX12_notOut 10 = .ok (.iaload, 1) := by decide +kernel
theorem dX12_notOut_11 : decode cX12_notOut 11 = .ok (.if_icmp .ge 28, 3) := by decide +kernel
theorem dX12_notOut_39 : decode cX12_notOut 39 = .ok (.iload_n 1, 1) := by decide +kernel
theorem dX12_notOut_40 : decode cX12_notOut 40 = .ok (.ireturn, 1) := by decide +kernel
theorem dX12_notOut_14 : decode cX12_notOut 14 = .ok (.iload_n 1, 1) := by decide +kernel
theorem dX12_notOut_15 : decode cX12_notOut 15 = .ok (.aload_n 0, 1) := by decide +kernel
theorem dX12_notOut_16 : decode cX12_notOut 16 = .ok (.iload_n 2, 1) := by decide +kernel
theorem dX12_notOut_17 : decode cX12_notOut 17 = .ok (.invokevirtual 271, 3) := by decide +kernel
theorem dX12_notOut_20 : decode cX12_notOut 20 = .ok (.ifCond .ne 7, 3) := by decide +kernel
theorem dX12_notOut_27 : decode cX12_notOut 27 = .ok (.iconst 0, 1) := by decide +kernel
theorem dX12_notOut_28 : decode cX12_notOut 28 = .ok (.invokestatic 78, 3) := by decide +kernel
theorem dX12_notOut_31 : decode cX12_notOut 31 = .ok (.iadd, 1) := by decide +kernel
theorem dX12_notOut_32 : decode cX12_notOut 32 = .ok (.istore_n 1, 1) := by decide +kernel
theorem dX12_notOut_33 : decode cX12_notOut 33 = .ok (.iinc 2 1, 3) := by decide +kernel
theorem dX12_notOut_36 : decode cX12_notOut 36 = .ok (.goto (-32), 3) := by decide +kernel
theorem dX12_notOut_23 : decode cX12_notOut 23 = .ok (.iconst 1, 1) := by decide +kernel
theorem dX12_notOut_24 : decode cX12_notOut 24 = .ok (.goto 4, 3) := by decide +kernel
theorem dX12_isUnderWayAt_0 : decode cX12_isUnderWayAt 0 = .ok (.aload_n 0, 1) := by decide +kernel
theorem dX12_isUnderWayAt_1 : decode cX12_isUnderWayAt 1 = .ok (.iload_n 1, 1) := by decide +kernel
theorem dX12_isUnderWayAt_2 : decode cX12_isUnderWayAt 2 = .ok (.iconst 3, 1) := by decide +kernel
theorem dX12_isUnderWayAt_3 : decode cX12_isUnderWayAt 3 = .ok (.invokevirtual 308, 3) := by decide +kernel
theorem dX12_isUnderWayAt_6 : decode cX12_isUnderWayAt 6 = .ok (.ifCond .ne 17, 3) := by decide +kernel
theorem dX12_isUnderWayAt_23 : decode cX12_isUnderWayAt 23 = .ok (.iconst 0, 1) := by decide +kernel
theorem dX12_isUnderWayAt_24 : decode cX12_isUnderWayAt 24 = .ok (.ireturn, 1) := by decide +kernel
theorem dX12_isUnderWayAt_9 : decode cX12_isUnderWayAt 9 = .ok (.aload_n 0, 1) := by decide +kernel
theorem dX12_isUnderWayAt_10 : decode cX12_isUnderWayAt 10 = .ok (.iload_n 1, 1) := by decide +kernel
theorem dX12_isUnderWayAt_11 : decode cX12_isUnderWayAt 11 = .ok (.iconst 2, 1) := by decide +kernel
theorem dX12_isUnderWayAt_12 : decode cX12_isUnderWayAt 12 = .ok (.invokevirtual 308, 3) := by decide +kernel
theorem dX12_isUnderWayAt_15 : decode cX12_isUnderWayAt 15 = .ok (.iload_n 2, 1) := by decide +kernel
theorem dX12_isUnderWayAt_16 : decode cX12_isUnderWayAt 16 = .ok (.if_icmp .ne 7, 3) := by decide +kernel
theorem dX12_isUnderWayAt_19 : decode cX12_isUnderWayAt 19 = .ok (.iconst 1, 1) := by decide +kernel
theorem dX12_isUnderWayAt_20 : decode cX12_isUnderWayAt 20 = .ok (.goto 4, 3) := by decide +kernel
theorem dX12_underWayAt_0 : decode cX12_underWayAt 0 = .ok (.iconst 0, 1) := by decide +kernel
theorem dX12_underWayAt_1 : decode cX12_underWayAt 1 = .ok (.istore_n 2, 1) := by decide +kernel
theorem dX12_underWayAt_2 : decode cX12_underWayAt 2 = .ok (.iconst 0, 1) := by decide +kernel
theorem dX12_underWayAt_3 : decode cX12_underWayAt 3 = .ok (.istore_n 3, 1) := by decide +kernel
theorem dX12_underWayAt_4 : decode cX12_underWayAt 4 = .ok (.iload_n 3, 1) := by decide +kernel
theorem dX12_underWayAt_5 : decode cX12_underWayAt 5 = .ok (.aload_n 0, 1) := by decide +kernel
theorem dX12_underWayAt_6 : decode cX12_underWayAt 6 = .ok (.getfield 20, 3) := by decide +kernel
theorem dX12_underWayAt_9 : decode cX12_underWayAt 9 = .ok (.iconst 4, 1) := by decide +kernel
theorem dX12_underWayAt_10 : decode cX12_underWayAt 10 = .ok (.iaload, 1) := by decide +kernel
theorem dX12_underWayAt_11 : decode cX12_underWayAt 11 = .ok (.if_icmp .ge 21, 3) := by decide +kernel
theorem dX12_underWayAt_32 : decode cX12_underWayAt 32 = .ok (.iload_n 2, 1) := by decide +kernel
theorem dX12_underWayAt_33 : decode cX12_underWayAt 33 = .ok (.ireturn, 1) := by decide +kernel
theorem dX12_underWayAt_14 : decode cX12_underWayAt 14 = .ok (.iload_n 2, 1) := by decide +kernel
theorem dX12_underWayAt_15 : decode cX12_underWayAt 15 = .ok (.aload_n 0, 1) := by decide +kernel
theorem dX12_underWayAt_16 : decode cX12_underWayAt 16 = .ok (.iload_n 3, 1) := by decide +kernel
theorem dX12_underWayAt_17 : decode cX12_underWayAt 17 = .ok (.iload_n 1, 1) := by decide +kernel
theorem dX12_underWayAt_18 : decode cX12_underWayAt 18 = .ok (.invokevirtual 352, 3) := by decide +kernel
theorem dX12_underWayAt_21 : decode cX12_underWayAt 21 = .ok (.invokestatic 78, 3) := by decide +kernel
theorem dX12_underWayAt_24 : decode cX12_underWayAt 24 = .ok (.iadd, 1) := by decide +kernel
theorem dX12_underWayAt_25 : decode cX12_underWayAt 25 = .ok (.istore_n 2, 1) := by decide +kernel
theorem dX12_underWayAt_26 : decode cX12_underWayAt 26 = .ok (.iinc 3 1, 3) := by decide +kernel
theorem dX12_underWayAt_29 : decode cX12_underWayAt 29 = .ok (.goto (-25), 3) := by decide +kernel
theorem dX12_lettersOf_0 : decode cX12_lettersOf 0 = .ok (.iconst 0, 1) := by decide +kernel
theorem dX12_lettersOf_1 : decode cX12_lettersOf 1 = .ok (.istore_n 2, 1) := by decide +kernel
theorem dX12_lettersOf_2 : decode cX12_lettersOf 2 = .ok (.lload_n 0, 1) := by decide +kernel
theorem dX12_lettersOf_3 : decode cX12_lettersOf 3 = .ok (.lstore_n 3, 1) := by decide +kernel
theorem dX12_lettersOf_4 : decode cX12_lettersOf 4 = .ok (.lload_n 3, 1) := by decide +kernel
theorem dX12_lettersOf_5 : decode cX12_lettersOf 5 = .ok (.lconst 0, 1) := by decide +kernel
theorem dX12_lettersOf_6 : decode cX12_lettersOf 6 = .ok (.lcmp, 1) := by decide +kernel
theorem dX12_lettersOf_7 : decode cX12_lettersOf 7 = .ok (.ifCond .le 13, 3) := by decide +kernel
theorem dX12_lettersOf_20 : decode cX12_lettersOf 20 = .ok (.iload_n 2, 1) := by decide +kernel
theorem dX12_lettersOf_21 : decode cX12_lettersOf 21 = .ok (.ireturn, 1) := by decide +kernel
theorem dX12_lettersOf_10 : decode cX12_lettersOf 10 = .ok (.iinc 2 1, 3) := by decide +kernel
theorem dX12_lettersOf_13 : decode cX12_lettersOf 13 = .ok (.lload_n 3, 1) := by decide +kernel
theorem dX12_lettersOf_14 : decode cX12_lettersOf 14 = .ok (.iconst 5, 1) := by decide +kernel
theorem dX12_lettersOf_15 : decode cX12_lettersOf 15 = .ok (.lshr, 1) := by decide +kernel
theorem dX12_lettersOf_16 : decode cX12_lettersOf 16 = .ok (.lstore_n 3, 1) := by decide +kernel
theorem dX12_lettersOf_17 : decode cX12_lettersOf 17 = .ok (.goto (-13), 3) := by decide +kernel
theorem dX12_letterOf_0 : decode cX12_letterOf 0 = .ok (.lload_n 0, 1) := by decide +kernel
theorem dX12_letterOf_1 : decode cX12_letterOf 1 = .ok (.invokestatic 378, 3) := by decide +kernel
theorem dX12_letterOf_4 : decode cX12_letterOf 4 = .ok (.istore_n 3, 1) := by decide +kernel
theorem dX12_letterOf_5 : decode cX12_letterOf 5 = .ok (.iload_n 2, 1) := by decide +kernel
theorem dX12_letterOf_6 : decode cX12_letterOf 6 = .ok (.i2l, 1) := by decide +kernel
theorem dX12_letterOf_7 : decode cX12_letterOf 7 = .ok (.lconst 0, 1) := by decide +kernel
theorem dX12_letterOf_8 : decode cX12_letterOf 8 = .ok (.iload_n 3, 1) := by decide +kernel
theorem dX12_letterOf_9 : decode cX12_letterOf 9 = .ok (.iconst 1, 1) := by decide +kernel
theorem dX12_letterOf_10 : decode cX12_letterOf 10 = .ok (.isub, 1) := by decide +kernel
theorem dX12_letterOf_11 : decode cX12_letterOf 11 = .ok (.i2l, 1) := by decide +kernel
theorem dX12_letterOf_12 : decode cX12_letterOf 12 = .ok (.invokestatic 93, 3) := by decide +kernel
theorem dX12_letterOf_15 : decode cX12_letterOf 15 = .ok (.ifCond .eq 23, 3) := by decide +kernel
theorem dX12_letterOf_18 : decode cX12_letterOf 18 = .ok (.lload_n 0, 1) := by decide +kernel
theorem dX12_letterOf_19 : decode cX12_letterOf 19 = .ok (.iconst 5, 1) := by decide +kernel
theorem dX12_letterOf_20 : decode cX12_letterOf 20 = .ok (.iload_n 3, 1) := by decide +kernel
theorem dX12_letterOf_21 : decode cX12_letterOf 21 = .ok (.iconst 1, 1) := by decide +kernel
theorem dX12_letterOf_22 : decode cX12_letterOf 22 = .ok (.isub, 1) := by decide +kernel
theorem dX12_letterOf_23 : decode cX12_letterOf 23 = .ok (.iload_n 2, 1) := by decide +kernel
theorem dX12_letterOf_24 : decode cX12_letterOf 24 = .ok (.isub, 1) := by decide +kernel
theorem dX12_letterOf_25 : decode cX12_letterOf 25 = .ok (.imul, 1) := by decide +kernel
theorem dX12_letterOf_26 : decode cX12_letterOf 26 = .ok (.lshr, 1) := by decide +kernel
theorem dX12_letterOf_27 : decode cX12_letterOf 27 = .ok (.ldc2_w 382, 3) := by decide +kernel
theorem dX12_letterOf_30 : decode cX12_letterOf 30 = .ok (.land, 1) := by decide +kernel
theorem dX12_letterOf_31 : decode cX12_letterOf 31 = .ok (.l2i, 1) := by decide +kernel
theorem dX12_letterOf_32 : decode cX12_letterOf 32 = .ok (.bipush 96, 2) := by decide +kernel
theorem dX12_letterOf_34 : decode cX12_letterOf 34 = .ok (.iadd, 1) := by decide +kernel
theorem dX12_letterOf_35 : decode cX12_letterOf 35 = .ok (.goto 4, 3) := by decide +kernel
theorem dX12_letterOf_39 : decode cX12_letterOf 39 = .ok (.ireturn, 1) := by decide +kernel
theorem dX12_letterOf_38 : decode cX12_letterOf 38 = .ok (.iconst 0, 1) := by decide +kernel
theorem dX12_areIn_0 : decode cX12_areIn 0 = .ok (.aload_n 0, 1) := by decide +kernel
theorem dX12_areIn_1 : decode cX12_areIn 1 = .ok (.iload_n 1, 1) := by decide +kernel
theorem dX12_areIn_2 : decode cX12_areIn 2 = .ok (.invokevirtual 271, 3) := by decide +kernel
theorem dX12_areIn_5 : decode cX12_areIn 5 = .ok (.ifCond .ne 15, 3) := by decide +kernel
theorem dX12_areIn_20 : decode cX12_areIn 20 = .ok (.iconst 0, 1) := by decide +kernel
theorem dX12_areIn_21 : decode cX12_areIn 21 = .ok (.ireturn, 1) := by decide +kernel
theorem dX12_areIn_8 : decode cX12_areIn 8 = .ok (.aload_n 0, 1) := by decide +kernel
theorem dX12_areIn_9 : decode cX12_areIn 9 = .ok (.iload_n 2, 1) := by decide +kernel
theorem dX12_areIn_10 : decode cX12_areIn 10 = .ok (.invokevirtual 271, 3) := by decide +kernel
theorem dX12_areIn_13 : decode cX12_areIn 13 = .ok (.ifCond .ne 7, 3) := by decide +kernel
theorem dX12_areIn_16 : decode cX12_areIn 16 = .ok (.iconst 1, 1) := by decide +kernel
theorem dX12_areIn_17 : decode cX12_areIn 17 = .ok (.goto 4, 3) := by decide +kernel
theorem dX12_lateness_0 : decode cX12_lateness 0 = .ok (.aload_n 0, 1) := by decide +kernel
theorem dX12_lateness_1 : decode cX12_lateness 1 = .ok (.iload_n 1, 1) := by decide +kernel
theorem dX12_lateness_2 : decode cX12_lateness 2 = .ok (.iload_n 2, 1) := by decide +kernel
theorem dX12_lateness_3 : decode cX12_lateness 3 = .ok (.invokevirtual 393, 3) := by decide +kernel
theorem dX12_lateness_6 : decode cX12_lateness 6 = .ok (.istore_n 3, 1) := by decide +kernel
theorem dX12_lateness_7 : decode cX12_lateness 7 = .ok (.iload_n 3, 1) := by decide +kernel
theorem dX12_lateness_8 : decode cX12_lateness 8 = .ok (.iconst (-1), 1) := by decide +kernel
theorem dX12_lateness_9 : decode cX12_lateness 9 = .ok (.if_icmp .ne 9, 3) := by decide +kernel
theorem dX12_lateness_18 : decode cX12_lateness 18 = .ok (.iload_n 3, 1) := by decide +kernel
theorem dX12_lateness_19 : decode cX12_lateness 19 = .ok (.ireturn, 1) := by decide +kernel
theorem dX12_lateness_12 : decode cX12_lateness 12 = .ok (.sipush 1000, 3) := by decide +kernel
theorem dX12_lateness_15 : decode cX12_lateness 15 = .ok (.goto 4, 3) := by decide +kernel
theorem dX12_there_0 : decode cX12_there 0 = .ok (.iconst 0, 1) := by decide +kernel
theorem dX12_there_1 : decode cX12_there 1 = .ok (.istore_n 2, 1) := by decide +kernel
theorem dX12_there_2 : decode cX12_there 2 = .ok (.iconst 0, 1) := by decide +kernel
theorem dX12_there_3 : decode cX12_there 3 = .ok (.istore_n 3, 1) := by decide +kernel
theorem dX12_there_4 : decode cX12_there 4 = .ok (.iload_n 2, 1) := by decide +kernel
theorem dX12_there_5 : decode cX12_there 5 = .ok (.sipush 200, 3) := by decide +kernel
theorem dX12_there_8 : decode cX12_there 8 = .ok (.if_icmp .ge 25, 3) := by decide +kernel
theorem dX12_there_33 : decode cX12_there 33 = .ok (.aload_n 0, 1) := by decide +kernel
theorem dX12_there_34 : decode cX12_there 34 = .ok (.iload_n 1, 1) := by decide +kernel
theorem dX12_there_35 : decode cX12_there 35 = .ok (.iconst 3, 1) := by decide +kernel
theorem dX12_there_36 : decode cX12_there 36 = .ok (.invokevirtual 308, 3) := by decide +kernel
theorem dX12_there_39 : decode cX12_there 39 = .ok (.iconst 1, 1) := by decide +kernel
theorem dX12_there_40 : decode cX12_there 40 = .ok (.if_icmp .ne 7, 3) := by decide +kernel
theorem dX12_there_47 : decode cX12_there 47 = .ok (.iconst (-1), 1) := by decide +kernel
theorem dX12_there_48 : decode cX12_there 48 = .ok (.ireturn, 1) := by decide +kernel
theorem dX12_there_43 : decode cX12_there 43 = .ok (.iload_n 2, 1) := by decide +kernel
theorem dX12_there_44 : decode cX12_there 44 = .ok (.goto 4, 3) := by decide +kernel
theorem dX12_there_11 : decode cX12_there 11 = .ok (.aload_n 0, 1) := by decide +kernel
theorem dX12_there_12 : decode cX12_there 12 = .ok (.iload_n 1, 1) := by decide +kernel
theorem dX12_there_13 : decode cX12_there 13 = .ok (.iconst 3, 1) := by decide +kernel
theorem dX12_there_14 : decode cX12_there 14 = .ok (.invokevirtual 308, 3) := by decide +kernel
theorem dX12_there_17 : decode cX12_there 17 = .ok (.ifCond .ne 16, 3) := by decide +kernel
theorem dX12_there_20 : decode cX12_there 20 = .ok (.iload_n 3, 1) := by decide +kernel
theorem dX12_there_21 : decode cX12_there 21 = .ok (.aload_n 0, 1) := by decide +kernel
theorem dX12_there_22 : decode cX12_there 22 = .ok (.invokevirtual 338, 3) := by decide +kernel
theorem dX12_there_25 : decode cX12_there 25 = .ok (.iadd, 1) := by decide +kernel
theorem dX12_there_26 : decode cX12_there 26 = .ok (.istore_n 3, 1) := by decide +kernel
theorem dX12_there_27 : decode cX12_there 27 = .ok (.iinc 2 1, 3) := by decide +kernel
theorem dX12_there_30 : decode cX12_there 30 = .ok (.goto (-26), 3) := by decide +kernel
theorem dX12_lays_0 : decode cX12_lays 0 = .ok (.aload_n 0, 1) := by decide +kernel
theorem dX12_lays_1 : decode cX12_lays 1 = .ok (.getfield 20, 3) := by decide +kernel
theorem dX12_lays_4 : decode cX12_lays 4 = .ok (.iconst 4, 1) := by decide +kernel
theorem dX12_lays_5 : decode cX12_lays 5 = .ok (.iaload, 1) := by decide +kernel
theorem dX12_lays_6 : decode cX12_lays 6 = .ok (.istore 5, 2) := by decide +kernel
theorem dX12_lays_8 : decode cX12_lays 8 = .ok (.aload_n 0, 1) := by decide +kernel
theorem dX12_lays_9 : decode cX12_lays 9 = .ok (.iload 5, 2) := by decide +kernel
theorem dX12_lays_11 : decode cX12_lays 11 = .ok (.iconst 0, 1) := by decide +kernel
theorem dX12_lays_12 : decode cX12_lays 12 = .ok (.iload_n 1, 1) := by decide +kernel
theorem dX12_lays_13 : decode cX12_lays 13 = .ok (.invokevirtual 320, 3) := by decide +kernel
theorem dX12_lays_16 : decode cX12_lays 16 = .ok (.aload_n 0, 1) := by decide +kernel
theorem dX12_lays_17 : decode cX12_lays 17 = .ok (.iload 5, 2) := by decide +kernel
theorem dX12_lays_19 : decode cX12_lays 19 = .ok (.iconst 1, 1) := by decide +kernel
theorem dX12_lays_20 : decode cX12_lays 20 = .ok (.iload_n 2, 1) := by decide +kernel
theorem dX12_lays_21 : decode cX12_lays 21 = .ok (.invokevirtual 320, 3) := by decide +kernel
theorem dX12_lays_24 : decode cX12_lays 24 = .ok (.aload_n 0, 1) := by decide +kernel
theorem dX12_lays_25 : decode cX12_lays 25 = .ok (.iload 5, 2) := by decide +kernel
theorem dX12_lays_27 : decode cX12_lays 27 = .ok (.iconst 2, 1) := by decide +kernel
theorem dX12_lays_28 : decode cX12_lays 28 = .ok (.iload_n 1, 1) := by decide +kernel
theorem dX12_lays_29 : decode cX12_lays 29 = .ok (.invokevirtual 320, 3) := by decide +kernel
theorem dX12_lays_32 : decode cX12_lays 32 = .ok (.aload_n 0, 1) := by decide +kernel
theorem dX12_lays_33 : decode cX12_lays 33 = .ok (.iload 5, 2) := by decide +kernel
theorem dX12_lays_35 : decode cX12_lays 35 = .ok (.iconst 3, 1) := by decide +kernel
theorem dX12_lays_36 : decode cX12_lays 36 = .ok (.iconst 0, 1) := by decide +kernel
theorem dX12_lays_37 : decode cX12_lays 37 = .ok (.invokevirtual 320, 3) := by decide +kernel
theorem dX12_lays_40 : decode cX12_lays 40 = .ok (.aload_n 0, 1) := by decide +kernel
theorem dX12_lays_41 : decode cX12_lays 41 = .ok (.iload 5, 2) := by decide +kernel
theorem dX12_lays_43 : decode cX12_lays 43 = .ok (.iconst 4, 1) := by decide +kernel
theorem dX12_lays_44 : decode cX12_lays 44 = .ok (.aload_n 0, 1) := by decide +kernel
theorem dX12_lays_45 : decode cX12_lays 45 = .ok (.getfield 20, 3) := by decide +kernel
theorem dX12_lays_48 : decode cX12_lays 48 = .ok (.iconst 3, 1) := by decide +kernel
theorem dX12_lays_49 : decode cX12_lays 49 = .ok (.iaload, 1) := by decide +kernel
theorem dX12_lays_50 : decode cX12_lays 50 = .ok (.iload_n 3, 1) := by decide +kernel
theorem dX12_lays_51 : decode cX12_lays 51 = .ok (.iadd, 1) := by decide +kernel
theorem dX12_lays_52 : decode cX12_lays 52 = .ok (.invokevirtual 320, 3) := by decide +kernel
theorem dX12_lays_55 : decode cX12_lays 55 = .ok (.aload_n 0, 1) := by decide +kernel
theorem dX12_lays_56 : decode cX12_lays 56 = .ok (.iload 5, 2) := by decide +kernel
theorem dX12_lays_58 : decode cX12_lays 58 = .ok (.iconst 5, 1) := by decide +kernel
theorem dX12_lays_59 : decode cX12_lays 59 = .ok (.iload 4, 2) := by decide +kernel
theorem dX12_lays_61 : decode cX12_lays 61 = .ok (.invokestatic 78, 3) := by decide +kernel
theorem dX12_lays_64 : decode cX12_lays 64 = .ok (.invokevirtual 320, 3) := by decide +kernel
theorem dX12_lays_67 : decode cX12_lays 67 = .ok (.aload_n 0, 1) := by decide +kernel
theorem dX12_lays_68 : decode cX12_lays 68 = .ok (.iload 5, 2) := by decide +kernel
theorem dX12_lays_70 : decode cX12_lays 70 = .ok (.bipush 6, 2) := by decide +kernel
theorem dX12_lays_72 : decode cX12_lays 72 = .ok (.iconst (-1), 1) := by decide +kernel
theorem dX12_lays_73 : decode cX12_lays 73 = .ok (.invokevirtual 320, 3) := by decide +kernel
theorem dX12_lays_76 : decode cX12_lays 76 = .ok (.aload_n 0, 1) := by decide +kernel
theorem dX12_lays_77 : decode cX12_lays 77 = .ok (.iload 5, 2) := by decide +kernel
theorem dX12_lays_79 : decode cX12_lays 79 = .ok (.bipush 7, 2) := by decide +kernel
theorem dX12_lays_81 : decode cX12_lays 81 = .ok (.iconst 0, 1) := by decide +kernel
theorem dX12_lays_82 : decode cX12_lays 82 = .ok (.invokevirtual 320, 3) := by decide +kernel
theorem dX12_lays_85 : decode cX12_lays 85 = .ok (.aload_n 0, 1) := by decide +kernel
theorem dX12_lays_86 : decode cX12_lays 86 = .ok (.getfield 20, 3) := by decide +kernel
theorem dX12_lays_89 : decode cX12_lays 89 = .ok (.iconst 4, 1) := by decide +kernel
theorem dX12_lays_90 : decode cX12_lays 90 = .ok (.dup2, 1) := by decide +kernel
theorem dX12_lays_91 : decode cX12_lays 91 = .ok (.iaload, 1) := by decide +kernel
theorem dX12_lays_92 : decode cX12_lays 92 = .ok (.iconst 1, 1) := by decide +kernel
theorem dX12_lays_93 : decode cX12_lays 93 = .ok (.iadd, 1) := by decide +kernel
theorem dX12_lays_94 : decode cX12_lays 94 = .ok (.iastore, 1) := by decide +kernel
theorem dX12_lays_95 : decode cX12_lays 95 = .ok (.iload 5, 2) := by decide +kernel
theorem dX12_lays_97 : decode cX12_lays 97 = .ok (.ireturn, 1) := by decide +kernel
theorem dX12_byMessage_0 : decode cX12_byMessage 0 = .ok (.aload_n 0, 1) := by decide +kernel
theorem dX12_byMessage_1 : decode cX12_byMessage 1 = .ok (.iload_n 1, 1) := by decide +kernel
theorem dX12_byMessage_2 : decode cX12_byMessage 2 = .ok (.iload_n 2, 1) := by decide +kernel
theorem dX12_byMessage_3 : decode cX12_byMessage 3 = .ok (.invokevirtual 414, 3) := by decide +kernel
theorem dX12_byMessage_6 : decode cX12_byMessage 6 = .ok (.ifCond .ne 9, 3) := by decide +kernel
theorem dX12_byMessage_15 : decode cX12_byMessage 15 = .ok (.aload_n 0, 1) := by decide +kernel
theorem dX12_byMessage_16 : decode cX12_byMessage 16 = .ok (.iload_n 1, 1) := by decide +kernel
theorem dX12_byMessage_17 : decode cX12_byMessage 17 = .ok (.iload_n 2, 1) := by decide +kernel
theorem dX12_byMessage_18 : decode cX12_byMessage 18 = .ok (.iconst 0, 1) := by decide +kernel
theorem dX12_byMessage_19 : decode cX12_byMessage 19 = .ok (.iload_n 3, 1) := by decide +kernel
theorem dX12_byMessage_20 : decode cX12_byMessage 20 = .ok (.invokevirtual 417, 3) := by decide +kernel
theorem dX12_byMessage_23 : decode cX12_byMessage 23 = .ok (.istore 4, 2) := by decide +kernel
theorem dX12_byMessage_25 : decode cX12_byMessage 25 = .ok (.aload_n 0, 1) := by decide +kernel
theorem dX12_byMessage_26 : decode cX12_byMessage 26 = .ok (.aload_n 0, 1) := by decide +kernel
theorem dX12_byMessage_27 : decode cX12_byMessage 27 = .ok (.iload 4, 2) := by decide +kernel
theorem dX12_byMessage_29 : decode cX12_byMessage 29 = .ok (.invokevirtual 408, 3) := by decide +kernel
theorem dX12_byMessage_32 : decode cX12_byMessage 32 = .ok (.invokevirtual 411, 3) := by decide +kernel
theorem dX12_byMessage_35 : decode cX12_byMessage 35 = .ok (.ireturn, 1) := by decide +kernel
theorem dX12_byMessage_9 : decode cX12_byMessage 9 = .ok (.aload_n 0, 1) := by decide +kernel
theorem dX12_byMessage_10 : decode cX12_byMessage 10 = .ok (.iconst (-1), 1) := by decide +kernel
theorem dX12_byMessage_11 : decode cX12_byMessage 11 = .ok (.invokevirtual 411, 3) := by decide +kernel
theorem dX12_byMessage_14 : decode cX12_byMessage 14 = .ok (.ireturn, 1) := by decide +kernel
theorem dX12_arrives_0 : decode cX12_arrives 0 = .ok (.aload_n 0, 1) := by decide +kernel
theorem dX12_arrives_1 : decode cX12_arrives 1 = .ok (.aload_n 0, 1) := by decide +kernel
theorem dX12_arrives_2 : decode cX12_arrives 2 = .ok (.iload_n 1, 1) := by decide +kernel
theorem dX12_arrives_3 : decode cX12_arrives 3 = .ok (.invokevirtual 373, 3) := by decide +kernel
theorem dX12_arrives_6 : decode cX12_arrives 6 = .ok (.invokevirtual 85, 3) := by decide +kernel
theorem dX12_arrives_9 : decode cX12_arrives 9 = .ok (.ifCond .ne 5, 3) := by decide +kernel
theorem dX12_arrives_14 : decode cX12_arrives 14 = .ok (.aload_n 0, 1) := by decide +kernel
theorem dX12_arrives_15 : decode cX12_arrives 15 = .ok (.invokevirtual 405, 3) := by decide +kernel
theorem dX12_arrives_18 : decode cX12_arrives 18 = .ok (.aload_n 0, 1) := by decide +kernel
theorem dX12_arrives_19 : decode cX12_arrives 19 = .ok (.aload_n 0, 1) := by decide +kernel
theorem dX12_arrives_20 : decode cX12_arrives 20 = .ok (.iload_n 1, 1) := by decide +kernel
theorem dX12_arrives_21 : decode cX12_arrives 21 = .ok (.invokevirtual 408, 3) := by decide +kernel
theorem dX12_arrives_24 : decode cX12_arrives 24 = .ok (.invokevirtual 411, 3) := by decide +kernel
theorem dX12_arrives_27 : decode cX12_arrives 27 = .ok (.ireturn, 1) := by decide +kernel
theorem dX12_arrives_12 : decode cX12_arrives 12 = .ok (.iconst 0, 1) := by decide +kernel
theorem dX12_arrives_13 : decode cX12_arrives 13 = .ok (.ireturn, 1) := by decide +kernel
theorem dX12_wouldArrive_0 : decode cX12_wouldArrive 0 = .ok (.aload_n 0, 1) := by decide +kernel
theorem dX12_wouldArrive_1 : decode cX12_wouldArrive 1 = .ok (.aload_n 0, 1) := by decide +kernel
theorem dX12_wouldArrive_2 : decode cX12_wouldArrive 2 = .ok (.iload_n 1, 1) := by decide +kernel
theorem dX12_wouldArrive_3 : decode cX12_wouldArrive 3 = .ok (.invokevirtual 355, 3) := by decide +kernel
theorem dX12_wouldArrive_6 : decode cX12_wouldArrive 6 = .ok (.ifCond .eq 15, 3) := by decide +kernel
theorem dX12_wouldArrive_9 : decode cX12_wouldArrive 9 = .ok (.aload_n 0, 1) := by decide +kernel
theorem dX12_wouldArrive_10 : decode cX12_wouldArrive 10 = .ok (.iload_n 2, 1) := by decide +kernel
theorem dX12_wouldArrive_11 : decode cX12_wouldArrive 11 = .ok (.invokevirtual 355, 3) := by decide +kernel
theorem dX12_wouldArrive_14 : decode cX12_wouldArrive 14 = .ok (.ifCond .eq 7, 3) := by decide +kernel
theorem dX12_wouldArrive_17 : decode cX12_wouldArrive 17 = .ok (.iconst 1, 1) := by decide +kernel
theorem dX12_wouldArrive_18 : decode cX12_wouldArrive 18 = .ok (.goto 4, 3) := by decide +kernel
theorem dX12_wouldArrive_22 : decode cX12_wouldArrive 22 = .ok (.iload_n 1, 1) := by decide +kernel
theorem dX12_wouldArrive_23 : decode cX12_wouldArrive 23 = .ok (.iload_n 2, 1) := by decide +kernel
theorem dX12_wouldArrive_24 : decode cX12_wouldArrive 24 = .ok (.if_icmp .eq 7, 3) := by decide +kernel
theorem dX12_wouldArrive_31 : decode cX12_wouldArrive 31 = .ok (.iconst 0, 1) := by decide +kernel
theorem dX12_wouldArrive_32 : decode cX12_wouldArrive 32 = .ok (.invokevirtual 358, 3) := by decide +kernel
theorem dX12_wouldArrive_35 : decode cX12_wouldArrive 35 = .ok (.ifCond .ne 5, 3) := by decide +kernel
theorem dX12_wouldArrive_38 : decode cX12_wouldArrive 38 = .ok (.iconst 0, 1) := by decide +kernel
theorem dX12_wouldArrive_39 : decode cX12_wouldArrive 39 = .ok (.ireturn, 1) := by decide +kernel
theorem dX12_wouldArrive_27 : decode cX12_wouldArrive 27 = .ok (.iconst 1, 1) := by decide +kernel
theorem dX12_wouldArrive_28 : decode cX12_wouldArrive 28 = .ok (.goto 4, 3) := by decide +kernel
theorem dX12_wouldArrive_40 : decode cX12_wouldArrive 40 = .ok (.aload_n 0, 1) := by decide +kernel
theorem dX12_wouldArrive_41 : decode cX12_wouldArrive 41 = .ok (.invokevirtual 405, 3) := by decide +kernel
theorem dX12_wouldArrive_44 : decode cX12_wouldArrive 44 = .ok (.aload_n 0, 1) := by decide +kernel
theorem dX12_wouldArrive_45 : decode cX12_wouldArrive 45 = .ok (.iload_n 1, 1) := by decide +kernel
theorem dX12_wouldArrive_46 : decode cX12_wouldArrive 46 = .ok (.iload_n 2, 1) := by decide +kernel
theorem dX12_wouldArrive_47 : decode cX12_wouldArrive 47 = .ok (.iload_n 3, 1) := by decide +kernel
theorem dX12_wouldArrive_48 : decode cX12_wouldArrive 48 = .ok (.invokevirtual 421, 3) := by decide +kernel
theorem dX12_wouldArrive_51 : decode cX12_wouldArrive 51 = .ok (.ireturn, 1) := by decide +kernel
theorem dX12_wouldArrive_21 : decode cX12_wouldArrive 21 = .ok (.iconst 0, 1) := by decide +kernel
theorem dX12_outIn_0 : decode cX12_outIn 0 = .ok (.aload_n 0, 1) := by decide +kernel
theorem dX12_outIn_1 : decode cX12_outIn 1 = .ok (.aload_n 0, 1) := by decide +kernel
theorem dX12_outIn_2 : decode cX12_outIn 2 = .ok (.iload_n 1, 1) := by decide +kernel
theorem dX12_outIn_3 : decode cX12_outIn 3 = .ok (.invokevirtual 355, 3) := by decide +kernel
theorem dX12_outIn_6 : decode cX12_outIn 6 = .ok (.invokevirtual 85, 3) := by decide +kernel
theorem dX12_outIn_9 : decode cX12_outIn 9 = .ok (.ifCond .ne 5, 3) := by decide +kernel
theorem dX12_outIn_14 : decode cX12_outIn 14 = .ok (.aload_n 0, 1) := by decide +kernel
theorem dX12_outIn_15 : decode cX12_outIn 15 = .ok (.invokevirtual 405, 3) := by decide +kernel
theorem dX12_outIn_18 : decode cX12_outIn 18 = .ok (.iconst 0, 1) := by decide +kernel
theorem dX12_outIn_19 : decode cX12_outIn 19 = .ok (.istore_n 2, 1) := by decide +kernel
theorem dX12_outIn_20 : decode cX12_outIn 20 = .ok (.iconst 0, 1) := by decide +kernel
theorem dX12_outIn_21 : decode cX12_outIn 21 = .ok (.istore_n 3, 1) := by decide +kernel
theorem dX12_outIn_12 : decode cX12_outIn 12 = .ok (.iconst 0, 1) := by decide +kernel
theorem dX12_outIn_13 : decode cX12_outIn 13 = .ok (.ireturn, 1) := by decide +kernel
theorem dX12_outIn_22 : decode cX12_outIn 22 = .ok (.iload_n 2, 1) := by decide +kernel
theorem dX12_outIn_23 : decode cX12_outIn 23 = .ok (.sipush 200, 3) := by decide +kernel
theorem dX12_outIn_26 : decode cX12_outIn 26 = .ok (.if_icmp .ge 24, 3) := by decide +kernel
theorem dX12_outIn_50 : decode cX12_outIn 50 = .ok (.aload_n 0, 1) := by decide +kernel
theorem dX12_outIn_51 : decode cX12_outIn 51 = .ok (.aload_n 0, 1) := by decide +kernel
theorem dX12_outIn_52 : decode cX12_outIn 52 = .ok (.iload_n 1, 1) := by decide +kernel
theorem dX12_outIn_53 : decode cX12_outIn 53 = .ok (.invokevirtual 271, 3) := by decide +kernel
theorem dX12_outIn_56 : decode cX12_outIn 56 = .ok (.ifCond .eq 7, 3) := by decide +kernel
theorem dX12_outIn_63 : decode cX12_outIn 63 = .ok (.iconst (-1), 1) := by decide +kernel
theorem dX12_outIn_64 : decode cX12_outIn 64 = .ok (.invokevirtual 411, 3) := by decide +kernel
theorem dX12_outIn_67 : decode cX12_outIn 67 = .ok (.ireturn, 1) := by decide +kernel
theorem dX12_outIn_59 : decode cX12_outIn 59 = .ok (.iload_n 2, 1) := by decide +kernel
theorem dX12_outIn_60 : decode cX12_outIn 60 = .ok (.goto 4, 3) := by decide +kernel
theorem dX12_outIn_29 : decode cX12_outIn 29 = .ok (.aload_n 0, 1) := by decide +kernel
theorem dX12_outIn_30 : decode cX12_outIn 30 = .ok (.iload_n 1, 1) := by decide +kernel
theorem dX12_outIn_31 : decode cX12_outIn 31 = .ok (.invokevirtual 271, 3) := by decide +kernel
theorem dX12_outIn_34 : decode cX12_outIn 34 = .ok (.ifCond .ne 16, 3) := by decide +kernel
theorem dX12_outIn_37 : decode cX12_outIn 37 = .ok (.iload_n 3, 1) := by decide +kernel
theorem dX12_outIn_38 : decode cX12_outIn 38 = .ok (.aload_n 0, 1) := by decide +kernel
theorem dX12_outIn_39 : decode cX12_outIn 39 = .ok (.invokevirtual 338, 3) := by decide +kernel
theorem dX12_outIn_42 : decode cX12_outIn 42 = .ok (.iadd, 1) := by decide +kernel
theorem dX12_outIn_43 : decode cX12_outIn 43 = .ok (.istore_n 3, 1) := by decide +kernel
theorem dX12_outIn_44 : decode cX12_outIn 44 = .ok (.iinc 2 1, 3) := by decide +kernel
theorem dX12_outIn_47 : decode cX12_outIn 47 = .ok (.goto (-25), 3) := by decide +kernel
theorem dX12_energyIn_0 : decode cX12_energyIn 0 = .ok (.aload_n 0, 1) := by decide +kernel
theorem dX12_energyIn_1 : decode cX12_energyIn 1 = .ok (.aload_n 0, 1) := by decide +kernel
theorem dX12_energyIn_2 : decode cX12_energyIn 2 = .ok (.iload_n 1, 1) := by decide +kernel
theorem dX12_energyIn_3 : decode cX12_energyIn 3 = .ok (.invokevirtual 355, 3) := by decide +kernel
theorem dX12_energyIn_6 : decode cX12_energyIn 6 = .ok (.iload_n 2, 1) := by decide +kernel
theorem dX12_energyIn_7 : decode cX12_energyIn 7 = .ok (.i2l, 1) := by decide +kernel
theorem dX12_energyIn_8 : decode cX12_energyIn 8 = .ok (.lconst 0, 1) := by decide +kernel
theorem dX12_energyIn_9 : decode cX12_energyIn 9 = .ok (.ldc2_w 425, 3) := by decide +kernel
theorem dX12_energyIn_12 : decode cX12_energyIn 12 = .ok (.invokestatic 93, 3) := by decide +kernel
theorem dX12_energyIn_15 : decode cX12_energyIn 15 = .ok (.invokevirtual 358, 3) := by decide +kernel
theorem dX12_energyIn_18 : decode cX12_energyIn 18 = .ok (.ifCond .ne 5, 3) := by decide +kernel
theorem dX12_energyIn_23 : decode cX12_energyIn 23 = .ok (.aload_n 0, 1) := by decide +kernel
theorem dX12_energyIn_24 : decode cX12_energyIn 24 = .ok (.invokevirtual 405, 3) := by decide +kernel
theorem dX12_energyIn_27 : decode cX12_energyIn 27 = .ok (.aload_n 0, 1) := by decide +kernel
theorem dX12_energyIn_28 : decode cX12_energyIn 28 = .ok (.iload_n 2, 1) := by decide +kernel
theorem dX12_energyIn_29 : decode cX12_energyIn 29 = .ok (.invokevirtual 427, 3) := by decide +kernel
theorem dX12_energyIn_32 : decode cX12_energyIn 32 = .ok (.istore_n 3, 1) := by decide +kernel
theorem dX12_energyIn_33 : decode cX12_energyIn 33 = .ok (.aload_n 0, 1) := by decide +kernel
theorem dX12_energyIn_34 : decode cX12_energyIn 34 = .ok (.aload_n 0, 1) := by decide +kernel
theorem dX12_energyIn_35 : decode cX12_energyIn 35 = .ok (.iload_n 1, 1) := by decide +kernel
theorem dX12_energyIn_36 : decode cX12_energyIn 36 = .ok (.iconst 2, 1) := by decide +kernel
theorem dX12_energyIn_37 : decode cX12_energyIn 37 = .ok (.invokevirtual 256, 3) := by decide +kernel
theorem dX12_energyIn_40 : decode cX12_energyIn 40 = .ok (.invokevirtual 411, 3) := by decide +kernel
theorem dX12_energyIn_43 : decode cX12_energyIn 43 = .ok (.ireturn, 1) := by decide +kernel
theorem dX12_energyIn_21 : decode cX12_energyIn 21 = .ok (.iconst 0, 1) := by decide +kernel
theorem dX12_energyIn_22 : decode cX12_energyIn 22 = .ok (.ireturn, 1) := by decide +kernel
theorem dX12_takesIn_0 : decode cX12_takesIn 0 = .ok (.aload_n 0, 1) := by decide +kernel
theorem dX12_takesIn_1 : decode cX12_takesIn 1 = .ok (.iconst 0, 1) := by decide +kernel
theorem dX12_takesIn_2 : decode cX12_takesIn 2 = .ok (.putfield 75, 3) := by decide +kernel
theorem dX12_takesIn_5 : decode cX12_takesIn 5 = .ok (.aload_n 0, 1) := by decide +kernel
theorem dX12_takesIn_6 : decode cX12_takesIn 6 = .ok (.invokevirtual 405, 3) := by decide +kernel
theorem dX12_takesIn_9 : decode cX12_takesIn 9 = .ok (.aload_n 0, 1) := by decide +kernel
theorem dX12_takesIn_10 : decode cX12_takesIn 10 = .ok (.getfield 20, 3) := by decide +kernel
theorem dX12_takesIn_13 : decode cX12_takesIn 13 = .ok (.bipush 9, 2) := by decide +kernel
theorem dX12_takesIn_15 : decode cX12_takesIn 15 = .ok (.iaload, 1) := by decide +kernel
theorem dX12_takesIn_16 : decode cX12_takesIn 16 = .ok (.istore_n 1, 1) := by decide +kernel
theorem dX12_takesIn_17 : decode cX12_takesIn 17 = .ok (.iconst 0, 1) := by decide +kernel
theorem dX12_takesIn_18 : decode cX12_takesIn 18 = .ok (.istore_n 2, 1) := by decide +kernel
theorem dX12_takesIn_19 : decode cX12_takesIn 19 = .ok (.iconst 0, 1) := by decide +kernel
theorem dX12_takesIn_20 : decode cX12_takesIn 20 = .ok (.istore_n 3, 1) := by decide +kernel
theorem dX12_takesIn_21 : decode cX12_takesIn 21 = .ok (.iload_n 2, 1) := by decide +kernel
theorem dX12_takesIn_22 : decode cX12_takesIn 22 = .ok (.sipush 200, 3) := by decide +kernel
theorem dX12_takesIn_25 : decode cX12_takesIn 25 = .ok (.if_icmp .ge 27, 3) := by decide +kernel
theorem dX12_takesIn_52 : decode cX12_takesIn 52 = .ok (.aload_n 0, 1) := by decide +kernel
theorem dX12_takesIn_53 : decode cX12_takesIn 53 = .ok (.aload_n 0, 1) := by decide +kernel
theorem dX12_takesIn_54 : decode cX12_takesIn 54 = .ok (.getfield 20, 3) := by decide +kernel
theorem dX12_takesIn_57 : decode cX12_takesIn 57 = .ok (.bipush 9, 2) := by decide +kernel
theorem dX12_takesIn_59 : decode cX12_takesIn 59 = .ok (.iaload, 1) := by decide +kernel
theorem dX12_takesIn_60 : decode cX12_takesIn 60 = .ok (.iload_n 1, 1) := by decide +kernel
theorem dX12_takesIn_61 : decode cX12_takesIn 61 = .ok (.if_icmp .le 7, 3) := by decide +kernel
theorem dX12_takesIn_68 : decode cX12_takesIn 68 = .ok (.iconst (-1), 1) := by decide +kernel
theorem dX12_takesIn_69 : decode cX12_takesIn 69 = .ok (.invokevirtual 411, 3) := by decide +kernel
theorem dX12_takesIn_72 : decode cX12_takesIn 72 = .ok (.ireturn, 1) := by decide +kernel
theorem dX12_takesIn_64 : decode cX12_takesIn 64 = .ok (.iload_n 2, 1) := by decide +kernel
theorem dX12_takesIn_65 : decode cX12_takesIn 65 = .ok (.goto 4, 3) := by decide +kernel
theorem dX12_takesIn_28 : decode cX12_takesIn 28 = .ok (.aload_n 0, 1) := by decide +kernel
theorem dX12_takesIn_29 : decode cX12_takesIn 29 = .ok (.getfield 20, 3) := by decide +kernel
theorem dX12_takesIn_32 : decode cX12_takesIn 32 = .ok (.bipush 9, 2) := by decide +kernel
theorem dX12_takesIn_34 : decode cX12_takesIn 34 = .ok (.iaload, 1) := by decide +kernel
theorem dX12_takesIn_35 : decode cX12_takesIn 35 = .ok (.iload_n 1, 1) := by decide +kernel
theorem dX12_takesIn_36 : decode cX12_takesIn 36 = .ok (.if_icmp .ne 16, 3) := by decide +kernel
theorem dX12_takesIn_39 : decode cX12_takesIn 39 = .ok (.iload_n 3, 1) := by decide +kernel
theorem dX12_takesIn_40 : decode cX12_takesIn 40 = .ok (.aload_n 0, 1) := by decide +kernel
theorem dX12_takesIn_41 : decode cX12_takesIn 41 = .ok (.invokevirtual 338, 3) := by decide +kernel
theorem dX12_takesIn_44 : decode cX12_takesIn 44 = .ok (.iadd, 1) := by decide +kernel
theorem dX12_takesIn_45 : decode cX12_takesIn 45 = .ok (.istore_n 3, 1) := by decide +kernel
theorem dX12_takesIn_46 : decode cX12_takesIn 46 = .ok (.iinc 2 1, 3) := by decide +kernel
theorem dX12_takesIn_49 : decode cX12_takesIn 49 = .ok (.goto (-28), 3) := by decide +kernel
theorem dX12_latestMeeting_0 : decode cX12_latestMeeting 0 = .ok (.aload_n 0, 1) := by decide +kernel
theorem dX12_latestMeeting_1 : decode cX12_latestMeeting 1 = .ok (.iload_n 1, 1) := by decide +kernel
theorem dX12_latestMeeting_2 : decode cX12_latestMeeting 2 = .ok (.invokevirtual 265, 3) := by decide +kernel
theorem dX12_latestMeeting_5 : decode cX12_latestMeeting 5 = .ok (.istore_n 2, 1) := by decide +kernel
theorem dX12_latestMeeting_6 : decode cX12_latestMeeting 6 = .ok (.iconst 0, 1) := by decide +kernel
theorem dX12_latestMeeting_7 : decode cX12_latestMeeting 7 = .ok (.istore_n 3, 1) := by decide +kernel
theorem dX12_latestMeeting_8 : decode cX12_latestMeeting 8 = .ok (.iconst 0, 1) := by decide +kernel
theorem dX12_latestMeeting_9 : decode cX12_latestMeeting 9 = .ok (.istore 4, 2) := by decide +kernel
theorem dX12_latestMeeting_11 : decode cX12_latestMeeting 11 = .ok (.iload 4, 2) := by decide +kernel
theorem dX12_latestMeeting_13 : decode cX12_latestMeeting 13 = .ok (.aload_n 0, 1) := by decide +kernel
theorem dX12_latestMeeting_14 : decode cX12_latestMeeting 14 = .ok (.getfield 20, 3) := by decide +kernel
theorem dX12_latestMeeting_17 : decode cX12_latestMeeting 17 = .ok (.iconst 0, 1) := by decide +kernel
theorem dX12_latestMeeting_18 : decode cX12_latestMeeting 18 = .ok (.iaload, 1) := by decide +kernel
theorem dX12_latestMeeting_19 : decode cX12_latestMeeting 19 = .ok (.if_icmp .ge 30, 3) := by decide +kernel
theorem dX12_latestMeeting_49 : decode cX12_latestMeeting 49 = .ok (.iload_n 3, 1) := by decide +kernel
theorem dX12_latestMeeting_50 : decode cX12_latestMeeting 50 = .ok (.ireturn, 1) := by decide +kernel
theorem dX12_latestMeeting_22 : decode cX12_latestMeeting 22 = .ok (.iload_n 2, 1) := by decide +kernel
theorem dX12_latestMeeting_23 : decode cX12_latestMeeting 23 = .ok (.iload 4, 2) := by decide +kernel
theorem dX12_latestMeeting_25 : decode cX12_latestMeeting 25 = .ok (.invokestatic 185, 3) := by decide +kernel
theorem dX12_latestMeeting_28 : decode cX12_latestMeeting 28 = .ok (.ifCond .eq 15, 3) := by decide +kernel
theorem dX12_latestMeeting_43 : decode cX12_latestMeeting 43 = .ok (.iinc 4 1, 3) := by decide +kernel
theorem dX12_latestMeeting_46 : decode cX12_latestMeeting 46 = .ok (.goto (-35), 3) := by decide +kernel
theorem dX12_latestMeeting_31 : decode cX12_latestMeeting 31 = .ok (.iload_n 3, 1) := by decide +kernel
theorem dX12_latestMeeting_32 : decode cX12_latestMeeting 32 = .ok (.aload_n 0, 1) := by decide +kernel
theorem dX12_latestMeeting_33 : decode cX12_latestMeeting 33 = .ok (.iload_n 1, 1) := by decide +kernel
theorem dX12_latestMeeting_34 : decode cX12_latestMeeting 34 = .ok (.iload 4, 2) := by decide +kernel
theorem dX12_latestMeeting_36 : decode cX12_latestMeeting 36 = .ok (.invokevirtual 396, 3) := by decide +kernel
theorem dX12_latestMeeting_39 : decode cX12_latestMeeting 39 = .ok (.invokestatic 299, 3) := by decide +kernel
theorem dX12_latestMeeting_42 : decode cX12_latestMeeting 42 = .ok (.istore_n 3, 1) := by decide +kernel
theorem dX12_byShift_0 : decode cX12_byShift 0 = .ok (.aload_n 0, 1) := by decide +kernel
theorem dX12_byShift_1 : decode cX12_byShift 1 = .ok (.invokevirtual 405, 3) := by decide +kernel
theorem dX12_byShift_4 : decode cX12_byShift 4 = .ok (.aload_n 0, 1) := by decide +kernel
theorem dX12_byShift_5 : decode cX12_byShift 5 = .ok (.iload_n 1, 1) := by decide +kernel
theorem dX12_byShift_6 : decode cX12_byShift 6 = .ok (.iconst 1, 1) := by decide +kernel
theorem dX12_byShift_7 : decode cX12_byShift 7 = .ok (.iload_n 2, 1) := by decide +kernel
theorem dX12_byShift_8 : decode cX12_byShift 8 = .ok (.invokevirtual 202, 3) := by decide +kernel
theorem dX12_byShift_11 : decode cX12_byShift 11 = .ok (.aload_n 0, 1) := by decide +kernel
theorem dX12_byShift_12 : decode cX12_byShift 12 = .ok (.aload_n 0, 1) := by decide +kernel
theorem dX12_byShift_13 : decode cX12_byShift 13 = .ok (.iload_n 1, 1) := by decide +kernel
theorem dX12_byShift_14 : decode cX12_byShift 14 = .ok (.invokevirtual 430, 3) := by decide +kernel
theorem dX12_byShift_17 : decode cX12_byShift 17 = .ok (.invokevirtual 411, 3) := by decide +kernel
theorem dX12_byShift_20 : decode cX12_byShift 20 = .ok (.ireturn, 1) := by decide +kernel
theorem dX12_bestShift_0 : decode cX12_bestShift 0 = .ok (.aload_n 0, 1) := by decide +kernel
theorem dX12_bestShift_1 : decode cX12_bestShift 1 = .ok (.aload_n 0, 1) := by decide +kernel
theorem dX12_bestShift_2 : decode cX12_bestShift 2 = .ok (.iload_n 1, 1) := by decide +kernel
theorem dX12_bestShift_3 : decode cX12_bestShift 3 = .ok (.invokevirtual 355, 3) := by decide +kernel
theorem dX12_bestShift_6 : decode cX12_bestShift 6 = .ok (.invokevirtual 85, 3) := by decide +kernel
theorem dX12_bestShift_9 : decode cX12_bestShift 9 = .ok (.ifCond .ne 5, 3) := by decide +kernel
theorem dX12_bestShift_14 : decode cX12_bestShift 14 = .ok (.aload_n 0, 1) := by decide +kernel
theorem dX12_bestShift_15 : decode cX12_bestShift 15 = .ok (.iload_n 1, 1) := by decide +kernel
theorem dX12_bestShift_16 : decode cX12_bestShift 16 = .ok (.invokevirtual 265, 3) := by decide +kernel
theorem dX12_bestShift_19 : decode cX12_bestShift 19 = .ok (.ifCond .ne 5, 3) := by decide +kernel
theorem dX12_bestShift_24 : decode cX12_bestShift 24 = .ok (.iconst 0, 1) := by decide +kernel
theorem dX12_bestShift_25 : decode cX12_bestShift 25 = .ok (.istore_n 2, 1) := by decide +kernel
theorem dX12_bestShift_26 : decode cX12_bestShift 26 = .ok (.aload_n 0, 1) := by decide +kernel
theorem dX12_bestShift_27 : decode cX12_bestShift 27 = .ok (.iload_n 1, 1) := by decide +kernel
theorem dX12_bestShift_28 : decode cX12_bestShift 28 = .ok (.iconst 0, 1) := by decide +kernel
theorem dX12_bestShift_29 : decode cX12_bestShift 29 = .ok (.invokevirtual 433, 3) := by decide +kernel
theorem dX12_bestShift_32 : decode cX12_bestShift 32 = .ok (.istore_n 3, 1) := by decide +kernel
theorem dX12_bestShift_33 : decode cX12_bestShift 33 = .ok (.iconst 1, 1) := by decide +kernel
theorem dX12_bestShift_34 : decode cX12_bestShift 34 = .ok (.istore 4, 2) := by decide +kernel
theorem dX12_bestShift_22 : decode cX12_bestShift 22 = .ok (.iconst (-1), 1) := by decide +kernel
theorem dX12_bestShift_23 : decode cX12_bestShift 23 = .ok (.ireturn, 1) := by decide +kernel
theorem dX12_bestShift_12 : decode cX12_bestShift 12 = .ok (.iconst 0, 1) := by decide +kernel
theorem dX12_bestShift_13 : decode cX12_bestShift 13 = .ok (.ireturn, 1) := by decide +kernel
theorem dX12_bestShift_36 : decode cX12_bestShift 36 = .ok (.iload 4, 2) := by decide +kernel
theorem dX12_bestShift_38 : decode cX12_bestShift 38 = .ok (.aload_n 0, 1) := by decide +kernel
theorem dX12_bestShift_39 : decode cX12_bestShift 39 = .ok (.getfield 20, 3) := by decide +kernel
theorem dX12_bestShift_42 : decode cX12_bestShift 42 = .ok (.iconst 2, 1) := by decide +kernel
theorem dX12_bestShift_43 : decode cX12_bestShift 43 = .ok (.iaload, 1) := by decide +kernel
theorem dX12_bestShift_44 : decode cX12_bestShift 44 = .ok (.if_icmp .ge 33, 3) := by decide +kernel
theorem dX12_bestShift_47 : decode cX12_bestShift 47 = .ok (.aload_n 0, 1) := by decide +kernel
theorem dX12_bestShift_48 : decode cX12_bestShift 48 = .ok (.iload_n 1, 1) := by decide +kernel
theorem dX12_bestShift_49 : decode cX12_bestShift 49 = .ok (.iload 4, 2) := by decide +kernel
theorem dX12_bestShift_51 : decode cX12_bestShift 51 = .ok (.invokevirtual 433, 3) := by decide +kernel
theorem dX12_bestShift_54 : decode cX12_bestShift 54 = .ok (.istore 5, 2) := by decide +kernel
theorem dX12_bestShift_56 : decode cX12_bestShift 56 = .ok (.iload 5, 2) := by decide +kernel
theorem dX12_bestShift_58 : decode cX12_bestShift 58 = .ok (.iload_n 3, 1) := by decide +kernel
theorem dX12_bestShift_59 : decode cX12_bestShift 59 = .ok (.if_icmp .lt 6, 3) := by decide +kernel
theorem dX12_bestShift_65 : decode cX12_bestShift 65 = .ok (.iload 5, 2) := by decide +kernel
theorem dX12_bestShift_67 : decode cX12_bestShift 67 = .ok (.istore_n 3, 1) := by decide +kernel
theorem dX12_bestShift_68 : decode cX12_bestShift 68 = .ok (.iload 4, 2) := by decide +kernel
theorem dX12_bestShift_70 : decode cX12_bestShift 70 = .ok (.istore_n 2, 1) := by decide +kernel
theorem dX12_bestShift_71 : decode cX12_bestShift 71 = .ok (.iinc 4 1, 3) := by decide +kernel
theorem dX12_bestShift_74 : decode cX12_bestShift 74 = .ok (.goto (-38), 3) := by decide +kernel
theorem dX12_bestShift_62 : decode cX12_bestShift 62 = .ok (.goto 9, 3) := by decide +kernel
theorem dX12_bestShift_77 : decode cX12_bestShift 77 = .ok (.iload_n 2, 1) := by decide +kernel
theorem dX12_bestShift_78 : decode cX12_bestShift 78 = .ok (.ireturn, 1) := by decide +kernel
theorem dX12_watches_0 : decode cX12_watches 0 = .ok (.iload_n 1, 1) := by decide +kernel
theorem dX12_watches_1 : decode cX12_watches 1 = .ok (.bipush 6, 2) := by decide +kernel
theorem dX12_watches_3 : decode cX12_watches 3 = .ok (.iload_n 2, 1) := by decide +kernel
theorem dX12_watches_4 : decode cX12_watches 4 = .ok (.bipush 30, 2) := by decide +kernel
theorem dX12_watches_6 : decode cX12_watches 6 = .ok (.idiv, 1) := by decide +kernel
theorem dX12_watches_7 : decode cX12_watches 7 = .ok (.iadd, 1) := by decide +kernel
theorem dX12_watches_8 : decode cX12_watches 8 = .ok (.invokestatic 172, 3) := by decide +kernel
theorem dX12_watches_11 : decode cX12_watches 11 = .ok (.istore 4, 2) := by decide +kernel
theorem dX12_watches_13 : decode cX12_watches 13 = .ok (.iconst 1, 1) := by decide +kernel
theorem dX12_watches_14 : decode cX12_watches 14 = .ok (.iload_n 2, 1) := by decide +kernel
theorem dX12_watches_15 : decode cX12_watches 15 = .ok (.bipush 30, 2) := by decide +kernel
theorem dX12_watches_17 : decode cX12_watches 17 = .ok (.irem, 1) := by decide +kernel
theorem dX12_watches_18 : decode cX12_watches 18 = .ok (.ishl, 1) := by decide +kernel
theorem dX12_watches_19 : decode cX12_watches 19 = .ok (.istore 5, 2) := by decide +kernel
theorem dX12_watches_21 : decode cX12_watches 21 = .ok (.aload_n 0, 1) := by decide +kernel
theorem dX12_watches_22 : decode cX12_watches 22 = .ok (.getfield 20, 3) := by decide +kernel
theorem dX12_watches_25 : decode cX12_watches 25 = .ok (.iload 4, 2) := by decide +kernel
theorem dX12_watches_27 : decode cX12_watches 27 = .ok (.iload_n 3, 1) := by decide +kernel
