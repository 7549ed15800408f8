theorem dX10_nodeAt_0 : decode cX10_nodeAt 0 = .ok (.aload_n 0, 1) := by decide +kernel
theorem dX10_nodeAt_1 : decode cX10_nodeAt 1 = .ok (.getfield 13, 3) := by decide +kernel
theorem dX10_nodeAt_4 : decode cX10_nodeAt 4 = .ok (.iload_n 1, 1) := by decide +kernel
theorem dX10_nodeAt_5 : decode cX10_nodeAt 5 = .ok (.ifCond .lt 16, 3) := by decide +kernel
theorem dX10_nodeAt_8 : decode cX10_nodeAt 8 = .ok (.iload_n 1, 1) := by decide +kernel
theorem dX10_nodeAt_9 : decode cX10_nodeAt 9 = .ok (.aload_n 0, 1) := by decide +kernel
theorem dX10_nodeAt_10 : decode cX10_nodeAt 10 = .ok (.getfield 13, 3) := by decide +kernel
theorem dX10_nodeAt_13 : decode cX10_nodeAt 13 = .ok (.arraylength, 1) := by decide +kernel
theorem dX10_nodeAt_14 : decode cX10_nodeAt 14 = .ok (.if_icmp .ge 7, 3) := by decide +kernel
theorem dX10_nodeAt_17 : decode cX10_nodeAt 17 = .ok (.iload_n 1, 1) := by decide +kernel
theorem dX10_nodeAt_18 : decode cX10_nodeAt 18 = .ok (.goto 4, 3) := by decide +kernel
theorem dX10_nodeAt_22 : decode cX10_nodeAt 22 = .ok (.aaload, 1) := by decide +kernel
theorem dX10_nodeAt_23 : decode cX10_nodeAt 23 = .ok (.areturn, 1) := by decide +kernel
theorem dX10_linkAt_0 : decode cX10_linkAt 0 = .ok (.aload_n 0, 1) := by decide +kernel
theorem dX10_linkAt_1 : decode cX10_linkAt 1 = .ok (.getfield 19, 3) := by decide +kernel
theorem dX10_linkAt_4 : decode cX10_linkAt 4 = .ok (.iload_n 1, 1) := by decide +kernel
theorem dX10_linkAt_5 : decode cX10_linkAt 5 = .ok (.ifCond .lt 16, 3) := by decide +kernel
theorem dX10_linkAt_8 : decode cX10_linkAt 8 = .ok (.iload_n 1, 1) := by decide +kernel
theorem dX10_linkAt_9 : decode cX10_linkAt 9 = .ok (.aload_n 0, 1) := by decide +kernel
theorem dX10_linkAt_10 : decode cX10_linkAt 10 = .ok (.getfield 19, 3) := by decide +kernel
theorem dX10_linkAt_13 : decode cX10_linkAt 13 = .ok (.arraylength, 1) := by decide +kernel
theorem dX10_linkAt_14 : decode cX10_linkAt 14 = .ok (.if_icmp .ge 7, 3) := by decide +kernel
theorem dX10_linkAt_17 : decode cX10_linkAt 17 = .ok (.iload_n 1, 1) := by decide +kernel
theorem dX10_linkAt_18 : decode cX10_linkAt 18 = .ok (.goto 4, 3) := by decide +kernel
theorem dX10_linkAt_22 : decode cX10_linkAt 22 = .ok (.aaload, 1) := by decide +kernel
theorem dX10_linkAt_23 : decode cX10_linkAt 23 = .ok (.areturn, 1) := by decide +kernel
theorem dX10_messageAt_0 : decode cX10_messageAt 0 = .ok (.aload_n 0, 1) := by decide +kernel
theorem dX10_messageAt_1 : decode cX10_messageAt 1 = .ok (.getfield 25, 3) := by decide +kernel
theorem dX10_messageAt_4 : decode cX10_messageAt 4 = .ok (.iload_n 1, 1) := by decide +kernel
theorem dX10_messageAt_5 : decode cX10_messageAt 5 = .ok (.ifCond .lt 16, 3) := by decide +kernel
theorem dX10_messageAt_8 : decode cX10_messageAt 8 = .ok (.iload_n 1, 1) := by decide +kernel
theorem dX10_messageAt_9 : decode cX10_messageAt 9 = .ok (.aload_n 0, 1) := by decide +kernel
theorem dX10_messageAt_10 : decode cX10_messageAt 10 = .ok (.getfield 25, 3) := by decide +kernel
theorem dX10_messageAt_13 : decode cX10_messageAt 13 = .ok (.arraylength, 1) := by decide +kernel
theorem dX10_messageAt_14 : decode cX10_messageAt 14 = .ok (.if_icmp .ge 7, 3) := by decide +kernel
theorem dX10_messageAt_17 : decode cX10_messageAt 17 = .ok (.iload_n 1, 1) := by decide +kernel
theorem dX10_messageAt_18 : decode cX10_messageAt 18 = .ok (.goto 4, 3) := by decide +kernel
theorem dX10_messageAt_22 : decode cX10_messageAt 22 = .ok (.aaload, 1) := by decide +kernel
theorem dX10_messageAt_23 : decode cX10_messageAt 23 = .ok (.areturn, 1) := by decide +kernel
theorem dX10_isOut_0 : decode cX10_isOut 0 = .ok (.aload_n 0, 1) := by decide +kernel
theorem dX10_isOut_1 : decode cX10_isOut 1 = .ok (.iload_n 1, 1) := by decide +kernel
theorem dX10_isOut_2 : decode cX10_isOut 2 = .ok (.invokevirtual 66, 3) := by decide +kernel
theorem dX10_isOut_5 : decode cX10_isOut 5 = .ok (.getfield 101, 3) := by decide +kernel
theorem dX10_isOut_8 : decode cX10_isOut 8 = .ok (.ifCond .ne 7, 3) := by decide +kernel
theorem dX10_isOut_15 : decode cX10_isOut 15 = .ok (.iconst 0, 1) := by decide +kernel
theorem dX10_isOut_16 : decode cX10_isOut 16 = .ok (.ireturn, 1) := by decide +kernel
theorem dX10_isOut_11 : decode cX10_isOut 11 = .ok (.iconst 1, 1) := by decide +kernel
theorem dX10_isOut_12 : decode cX10_isOut 12 = .ok (.goto 4, 3) := by decide +kernel
theorem dX10_dayOfYear_0 : decode cX10_dayOfYear 0 = .ok (.aload_n 0, 1) := by decide +kernel
theorem dX10_dayOfYear_1 : decode cX10_dayOfYear 1 = .ok (.getfield 45, 3) := by decide +kernel
theorem dX10_dayOfYear_4 : decode cX10_dayOfYear 4 = .ok (.ifCond .le 12, 3) := by decide +kernel
theorem dX10_dayOfYear_7 : decode cX10_dayOfYear 7 = .ok (.iload_n 1, 1) := by decide +kernel
theorem dX10_dayOfYear_8 : decode cX10_dayOfYear 8 = .ok (.aload_n 0, 1) := by decide +kernel
theorem dX10_dayOfYear_9 : decode cX10_dayOfYear 9 = .ok (.getfield 45, 3) := by decide +kernel
theorem dX10_dayOfYear_12 : decode cX10_dayOfYear 12 = .ok (.irem, 1) := by decide +kernel
theorem dX10_dayOfYear_13 : decode cX10_dayOfYear 13 = .ok (.goto 4, 3) := by decide +kernel
theorem dX10_dayOfYear_17 : decode cX10_dayOfYear 17 = .ok (.ireturn, 1) := by decide +kernel
theorem dX10_dayOf_0 : decode cX10_dayOf 0 = .ok (.aload_n 0, 1) := by decide +kernel
theorem dX10_dayOf_1 : decode cX10_dayOf 1 = .ok (.aload_n 0, 1) := by decide +kernel
theorem dX10_dayOf_2 : decode cX10_dayOf 2 = .ok (.getfield 60, 3) := by decide +kernel
theorem dX10_dayOf_5 : decode cX10_dayOf 5 = .ok (.aload_n 0, 1) := by decide +kernel
theorem dX10_dayOf_6 : decode cX10_dayOf 6 = .ok (.iload_n 1, 1) := by decide +kernel
theorem dX10_dayOf_7 : decode cX10_dayOf 7 = .ok (.invokevirtual 66, 3) := by decide +kernel
theorem dX10_dayOf_10 : decode cX10_dayOf 10 = .ok (.getfield 98, 3) := by decide +kernel
theorem dX10_dayOf_13 : decode cX10_dayOf 13 = .ok (.iadd, 1) := by decide +kernel
theorem dX10_dayOf_14 : decode cX10_dayOf 14 = .ok (.invokevirtual 156, 3) := by decide +kernel
theorem dX10_dayOf_17 : decode cX10_dayOf 17 = .ok (.ireturn, 1) := by decide +kernel
theorem dX10_tableOf_0 : decode cX10_tableOf 0 = .ok (.aload_n 0, 1) := by decide +kernel
theorem dX10_tableOf_1 : decode cX10_tableOf 1 = .ok (.iload_n 1, 1) := by decide +kernel
theorem dX10_tableOf_2 : decode cX10_tableOf 2 = .ok (.invokevirtual 66, 3) := by decide +kernel
theorem dX10_tableOf_5 : decode cX10_tableOf 5 = .ok (.astore_n 2, 1) := by decide +kernel
theorem dX10_tableOf_6 : decode cX10_tableOf 6 = .ok (.aload_n 2, 1) := by decide +kernel
theorem dX10_tableOf_7 : decode cX10_tableOf 7 = .ok (.getfield 92, 3) := by decide +kernel
theorem dX10_tableOf_10 : decode cX10_tableOf 10 = .ok (.lconst 1, 1) := by decide +kernel
theorem dX10_tableOf_11 : decode cX10_tableOf 11 = .ok (.aload_n 2, 1) := by decide +kernel
theorem dX10_tableOf_12 : decode cX10_tableOf 12 = .ok (.getfield 95, 3) := by decide +kernel
theorem dX10_tableOf_15 : decode cX10_tableOf 15 = .ok (.lshl, 1) := by decide +kernel
theorem dX10_tableOf_16 : decode cX10_tableOf 16 = .ok (.lor, 1) := by decide +kernel
theorem dX10_tableOf_17 : decode cX10_tableOf 17 = .ok (.lstore_n 3, 1) := by decide +kernel
theorem dX10_tableOf_18 : decode cX10_tableOf 18 = .ok (.iconst 0, 1) := by decide +kernel
theorem dX10_tableOf_19 : decode cX10_tableOf 19 = .ok (.istore 5, 2) := by decide +kernel
theorem dX10_tableOf_21 : decode cX10_tableOf 21 = .ok (.iload 5, 2) := by decide +kernel
theorem dX10_tableOf_23 : decode cX10_tableOf 23 = .ok (.aload_n 0, 1) := by decide +kernel
theorem dX10_tableOf_24 : decode cX10_tableOf 24 = .ok (.getfield 35, 3) := by decide +kernel
theorem dX10_tableOf_27 : decode cX10_tableOf 27 = .ok (.if_icmp .ge 35, 3) := by decide +kernel
theorem dX10_tableOf_62 : decode cX10_tableOf 62 = .ok (.lload_n 3, 1) := by decide +kernel
theorem dX10_tableOf_63 : decode cX10_tableOf 63 = .ok (.lreturn, 1) := by decide +kernel
theorem dX10_tableOf_30 : decode cX10_tableOf 30 = .ok (.aload_n 2, 1) := by decide +kernel
theorem dX10_tableOf_31 : decode cX10_tableOf 31 = .ok (.getfield 104, 3) := by decide +kernel
theorem dX10_tableOf_34 : decode cX10_tableOf 34 = .ok (.iload 5, 2) := by decide +kernel
theorem dX10_tableOf_36 : decode cX10_tableOf 36 = .ok (.invokestatic 181, 3) := by decide +kernel
theorem dX10_tableOf_39 : decode cX10_tableOf 39 = .ok (.ifCond .eq 17, 3) := by decide +kernel
theorem dX10_tableOf_42 : decode cX10_tableOf 42 = .ok (.lload_n 3, 1) := by decide +kernel
theorem dX10_tableOf_43 : decode cX10_tableOf 43 = .ok (.lconst 1, 1) := by decide +kernel
theorem dX10_tableOf_44 : decode cX10_tableOf 44 = .ok (.aload_n 0, 1) := by decide +kernel
theorem dX10_tableOf_45 : decode cX10_tableOf 45 = .ok (.iload 5, 2) := by decide +kernel
theorem dX10_tableOf_47 : decode cX10_tableOf 47 = .ok (.invokevirtual 66, 3) := by decide +kernel
theorem dX10_tableOf_50 : decode cX10_tableOf 50 = .ok (.getfield 95, 3) := by decide +kernel
theorem dX10_tableOf_53 : decode cX10_tableOf 53 = .ok (.lshl, 1) := by decide +kernel
theorem dX10_tableOf_54 : decode cX10_tableOf 54 = .ok (.lor, 1) := by decide +kernel
theorem dX10_tableOf_55 : decode cX10_tableOf 55 = .ok (.lstore_n 3, 1) := by decide +kernel
theorem dX10_tableOf_56 : decode cX10_tableOf 56 = .ok (.iinc 5 1, 3) := by decide +kernel
theorem dX10_tableOf_59 : decode cX10_tableOf 59 = .ok (.goto (-38), 3) := by decide +kernel
theorem dX10_isAwake_0 : decode cX10_isAwake 0 = .ok (.aload_n 0, 1) := by decide +kernel
theorem dX10_isAwake_1 : decode cX10_isAwake 1 = .ok (.iload_n 1, 1) := by decide +kernel
theorem dX10_isAwake_2 : decode cX10_isAwake 2 = .ok (.invokevirtual 160, 3) := by decide +kernel
theorem dX10_isAwake_5 : decode cX10_isAwake 5 = .ok (.ifCond .ne 23, 3) := by decide +kernel
theorem dX10_isAwake_28 : decode cX10_isAwake 28 = .ok (.iconst 0, 1) := by decide +kernel
theorem dX10_isAwake_29 : decode cX10_isAwake 29 = .ok (.ireturn, 1) := by decide +kernel
theorem dX10_isAwake_8 : decode cX10_isAwake 8 = .ok (.aload_n 0, 1) := by decide +kernel
theorem dX10_isAwake_9 : decode cX10_isAwake 9 = .ok (.iload_n 1, 1) := by decide +kernel
theorem dX10_isAwake_10 : decode cX10_isAwake 10 = .ok (.invokevirtual 174, 3) := by decide +kernel
theorem dX10_isAwake_13 : decode cX10_isAwake 13 = .ok (.aload_n 0, 1) := by decide +kernel
theorem dX10_isAwake_14 : decode cX10_isAwake 14 = .ok (.iload_n 1, 1) := by decide +kernel
theorem dX10_isAwake_15 : decode cX10_isAwake 15 = .ok (.invokevirtual 178, 3) := by decide +kernel
theorem dX10_isAwake_18 : decode cX10_isAwake 18 = .ok (.invokestatic 170, 3) := by decide +kernel
theorem dX10_isAwake_21 : decode cX10_isAwake 21 = .ok (.ifCond .eq 7, 3) := by decide +kernel
theorem dX10_isAwake_24 : decode cX10_isAwake 24 = .ok (.iconst 1, 1) := by decide +kernel
theorem dX10_isAwake_25 : decode cX10_isAwake 25 = .ok (.goto 4, 3) := by decide +kernel
theorem dX10_wakesAfter_0 : decode cX10_wakesAfter 0 = .ok (.aload_n 0, 1) := by decide +kernel
theorem dX10_wakesAfter_1 : decode cX10_wakesAfter 1 = .ok (.iload_n 1, 1) := by decide +kernel
theorem dX10_wakesAfter_2 : decode cX10_wakesAfter 2 = .ok (.invokevirtual 160, 3) := by decide +kernel
theorem dX10_wakesAfter_5 : decode cX10_wakesAfter 5 = .ok (.ifCond .ne 30, 3) := by decide +kernel
theorem dX10_wakesAfter_35 : decode cX10_wakesAfter 35 = .ok (.iconst 0, 1) := by decide +kernel
theorem dX10_wakesAfter_36 : decode cX10_wakesAfter 36 = .ok (.ireturn, 1) := by decide +kernel
theorem dX10_wakesAfter_8 : decode cX10_wakesAfter 8 = .ok (.aload_n 0, 1) := by decide +kernel
theorem dX10_wakesAfter_9 : decode cX10_wakesAfter 9 = .ok (.iload_n 1, 1) := by decide +kernel
theorem dX10_wakesAfter_10 : decode cX10_wakesAfter 10 = .ok (.invokevirtual 174, 3) := by decide +kernel
theorem dX10_wakesAfter_13 : decode cX10_wakesAfter 13 = .ok (.aload_n 0, 1) := by decide +kernel
theorem dX10_wakesAfter_14 : decode cX10_wakesAfter 14 = .ok (.aload_n 0, 1) := by decide +kernel
theorem dX10_wakesAfter_15 : decode cX10_wakesAfter 15 = .ok (.getfield 60, 3) := by decide +kernel
theorem dX10_wakesAfter_18 : decode cX10_wakesAfter 18 = .ok (.iload_n 3, 1) := by decide +kernel
theorem dX10_wakesAfter_19 : decode cX10_wakesAfter 19 = .ok (.iadd, 1) := by decide +kernel
theorem dX10_wakesAfter_20 : decode cX10_wakesAfter 20 = .ok (.iload_n 2, 1) := by decide +kernel
theorem dX10_wakesAfter_21 : decode cX10_wakesAfter 21 = .ok (.iadd, 1) := by decide +kernel
theorem dX10_wakesAfter_22 : decode cX10_wakesAfter 22 = .ok (.invokevirtual 156, 3) := by decide +kernel
theorem dX10_wakesAfter_25 : decode cX10_wakesAfter 25 = .ok (.invokestatic 170, 3) := by decide +kernel
theorem dX10_wakesAfter_28 : decode cX10_wakesAfter 28 = .ok (.ifCond .eq 7, 3) := by decide +kernel
theorem dX10_wakesAfter_31 : decode cX10_wakesAfter 31 = .ok (.iconst 1, 1) := by decide +kernel
theorem dX10_wakesAfter_32 : decode cX10_wakesAfter 32 = .ok (.goto 4, 3) := by decide +kernel
theorem dX10_notOut_0 : decode cX10_notOut 0 = .ok (.iconst 0, 1) := by decide +kernel
theorem dX10_notOut_1 : decode cX10_notOut 1 = .ok (.istore_n 1, 1) := by decide +kernel
theorem dX10_notOut_2 : decode cX10_notOut 2 = .ok (.iconst 0, 1) := by decide +kernel
theorem dX10_notOut_3 : decode cX10_notOut 3 = .ok (.istore_n 2, 1) := by decide +kernel
theorem dX10_notOut_4 : decode cX10_notOut 4 = .ok (.iload_n 2, 1) := by decide +kernel
theorem dX10_notOut_5 : decode cX10_notOut 5 = .ok (.aload_n 0, 1) := by decide +kernel
theorem dX10_notOut_6 : decode cX10_notOut 6 = .ok (.getfield 35, 3) := by decide +kernel
theorem dX10_notOut_9 : decode cX10_notOut 9 = .ok (.if_icmp .ge 26, 3) := by decide +kernel
theorem dX10_notOut_35 : decode cX10_notOut 35 = .ok (.iload_n 1, 1) := by decide +kernel
theorem dX10_notOut_36 : decode cX10_notOut 36 = .ok (.ireturn, 1) := by decide +kernel
theorem dX10_notOut_12 : decode cX10_notOut 12 = .ok (.aload_n 0, 1) := by decide +kernel
theorem dX10_notOut_13 : decode cX10_notOut 13 = .ok (.iload_n 2, 1) := by decide +kernel
theorem dX10_notOut_14 : decode cX10_notOut 14 = .ok (.invokevirtual 66, 3) := by decide +kernel
theorem dX10_notOut_17 : decode cX10_notOut 17 = .ok (.getfield 101, 3) := by decide +kernel
theorem dX10_notOut_20 : decode cX10_notOut 20 = .ok (.ifCond .le 9, 3) := by decide +kernel
theorem dX10_notOut_29 : decode cX10_notOut 29 = .ok (.iinc 2 1, 3) := by decide +kernel
theorem dX10_notOut_32 : decode cX10_notOut 32 = .ok (.goto (-28), 3) := by decide +kernel
theorem dX10_notOut_23 : decode cX10_notOut 23 = .ok (.iload_n 1, 1) := by decide +kernel
theorem dX10_notOut_24 : decode cX10_notOut 24 = .ok (.iconst 1, 1) := by decide +kernel
theorem dX10_notOut_25 : decode cX10_notOut 25 = .ok (.iload_n 2, 1) := by decide +kernel
theorem dX10_notOut_26 : decode cX10_notOut 26 = .ok (.ishl, 1) := by decide +kernel
theorem dX10_notOut_27 : decode cX10_notOut 27 = .ok (.ior, 1) := by decide +kernel
theorem dX10_notOut_28 : decode cX10_notOut 28 = .ok (.istore_n 1, 1) := by decide +kernel
theorem dX10_awakeAfter_0 : decode cX10_awakeAfter 0 = .ok (.iconst 0, 1) := by decide +kernel
theorem dX10_awakeAfter_1 : decode cX10_awakeAfter 1 = .ok (.istore_n 2, 1) := by decide +kernel
theorem dX10_awakeAfter_2 : decode cX10_awakeAfter 2 = .ok (.iconst 0, 1) := by decide +kernel
theorem dX10_awakeAfter_3 : decode cX10_awakeAfter 3 = .ok (.istore_n 3, 1) := by decide +kernel
theorem dX10_awakeAfter_4 : decode cX10_awakeAfter 4 = .ok (.iload_n 3, 1) := by decide +kernel
theorem dX10_awakeAfter_5 : decode cX10_awakeAfter 5 = .ok (.aload_n 0, 1) := by decide +kernel
theorem dX10_awakeAfter_6 : decode cX10_awakeAfter 6 = .ok (.getfield 35, 3) := by decide +kernel
theorem dX10_awakeAfter_9 : decode cX10_awakeAfter 9 = .ok (.if_icmp .ge 32, 3) := by decide +kernel
theorem dX10_awakeAfter_41 : decode cX10_awakeAfter 41 = .ok (.iload_n 2, 1) := by decide +kernel
theorem dX10_awakeAfter_42 : decode cX10_awakeAfter 42 = .ok (.ireturn, 1) := by decide +kernel
theorem dX10_awakeAfter_12 : decode cX10_awakeAfter 12 = .ok (.aload_n 0, 1) := by decide +kernel
theorem dX10_awakeAfter_13 : decode cX10_awakeAfter 13 = .ok (.iload_n 3, 1) := by decide +kernel
theorem dX10_awakeAfter_14 : decode cX10_awakeAfter 14 = .ok (.aload_n 0, 1) := by decide +kernel
theorem dX10_awakeAfter_15 : decode cX10_awakeAfter 15 = .ok (.iload_n 3, 1) := by decide +kernel
theorem dX10_awakeAfter_16 : decode cX10_awakeAfter 16 = .ok (.invokevirtual 66, 3) := by decide +kernel
theorem dX10_awakeAfter_19 : decode cX10_awakeAfter 19 = .ok (.getfield 98, 3) := by decide +kernel
theorem dX10_awakeAfter_22 : decode cX10_awakeAfter 22 = .ok (.iload_n 1, 1) := by decide +kernel
theorem dX10_awakeAfter_23 : decode cX10_awakeAfter 23 = .ok (.invokevirtual 214, 3) := by decide +kernel
theorem dX10_awakeAfter_26 : decode cX10_awakeAfter 26 = .ok (.ifCond .eq 9, 3) := by decide +kernel
theorem dX10_awakeAfter_29 : decode cX10_awakeAfter 29 = .ok (.iload_n 2, 1) := by decide +kernel
theorem dX10_awakeAfter_30 : decode cX10_awakeAfter 30 = .ok (.iconst 1, 1) := by decide +kernel
theorem dX10_awakeAfter_31 : decode cX10_awakeAfter 31 = .ok (.iload_n 3, 1) := by decide +kernel
theorem dX10_awakeAfter_32 : decode cX10_awakeAfter 32 = .ok (.ishl, 1) := by decide +kernel
theorem dX10_awakeAfter_33 : decode cX10_awakeAfter 33 = .ok (.ior, 1) := by decide +kernel
theorem dX10_awakeAfter_34 : decode cX10_awakeAfter 34 = .ok (.istore_n 2, 1) := by decide +kernel
theorem dX10_awakeAfter_35 : decode cX10_awakeAfter 35 = .ok (.iinc 3 1, 3) := by decide +kernel
theorem dX10_awakeAfter_38 : decode cX10_awakeAfter 38 = .ok (.goto (-34), 3) := by decide +kernel
theorem dX10_messagesInState_0 : decode cX10_messagesInState 0 = .ok (.iconst 0, 1) := by decide +kernel
theorem dX10_messagesInState_1 : decode cX10_messagesInState 1 = .ok (.istore_n 2, 1) := by decide +kernel
theorem dX10_messagesInState_2 : decode cX10_messagesInState 2 = .ok (.iconst 0, 1) := by decide +kernel
theorem dX10_messagesInState_3 : decode cX10_messagesInState 3 = .ok (.istore_n 3, 1) := by decide +kernel
theorem dX10_messagesInState_4 : decode cX10_messagesInState 4 = .ok (.iload_n 3, 1) := by decide +kernel
theorem dX10_messagesInState_5 : decode cX10_messagesInState 5 = .ok (.aload_n 0, 1) := by decide +kernel
theorem dX10_messagesInState_6 : decode cX10_messagesInState 6 = .ok (.getfield 42, 3) := by decide +kernel
theorem dX10_messagesInState_9 : decode cX10_messagesInState 9 = .ok (.if_icmp .ge 24, 3) := by decide +kernel
theorem dX10_messagesInState_33 : decode cX10_messagesInState 33 = .ok (.iload_n 2, 1) := by decide +kernel
theorem dX10_messagesInState_34 : decode cX10_messagesInState 34 = .ok (.ireturn, 1) := by decide +kernel
theorem dX10_messagesInState_12 : decode cX10_messagesInState 12 = .ok (.aload_n 0, 1) := by decide +kernel
theorem dX10_messagesInState_13 : decode cX10_messagesInState 13 = .ok (.iload_n 3, 1) := by decide +kernel
theorem dX10_messagesInState_14 : decode cX10_messagesInState 14 = .ok (.invokevirtual 81, 3) := by decide +kernel
theorem dX10_messagesInState_17 : decode cX10_messagesInState 17 = .ok (.getfield 140, 3) := by decide +kernel
theorem dX10_messagesInState_20 : decode cX10_messagesInState 20 = .ok (.iload_n 1, 1) := by decide +kernel
theorem dX10_messagesInState_21 : decode cX10_messagesInState 21 = .ok (.if_icmp .ne 6, 3) := by decide +kernel
theorem dX10_messagesInState_27 : decode cX10_messagesInState 27 = .ok (.iinc 3 1, 3) := by decide +kernel
theorem dX10_messagesInState_30 : decode cX10_messagesInState 30 = .ok (.goto (-26), 3) := by decide +kernel
theorem dX10_messagesInState_24 : decode cX10_messagesInState 24 = .ok (.iinc 2 1, 3) := by decide +kernel
theorem dX10_messagesInTime_0 : decode cX10_messagesInTime 0 = .ok (.iconst 0, 1) := by decide +kernel
theorem dX10_messagesInTime_1 : decode cX10_messagesInTime 1 = .ok (.istore_n 1, 1) := by decide +kernel
theorem dX10_messagesInTime_2 : decode cX10_messagesInTime 2 = .ok (.iconst 0, 1) := by decide +kernel
theorem dX10_messagesInTime_3 : decode cX10_messagesInTime 3 = .ok (.istore_n 2, 1) := by decide +kernel
theorem dX10_messagesInTime_4 : decode cX10_messagesInTime 4 = .ok (.iload_n 2, 1) := by decide +kernel
theorem dX10_messagesInTime_5 : decode cX10_messagesInTime 5 = .ok (.aload_n 0, 1) := by decide +kernel
theorem dX10_messagesInTime_6 : decode cX10_messagesInTime 6 = .ok (.getfield 42, 3) := by decide +kernel
theorem dX10_messagesInTime_9 : decode cX10_messagesInTime 9 = .ok (.if_icmp .ge 37, 3) := by decide +kernel
theorem dX10_messagesInTime_46 : decode cX10_messagesInTime 46 = .ok (.iload_n 1, 1) := by decide +kernel
theorem dX10_messagesInTime_47 : decode cX10_messagesInTime 47 = .ok (.ireturn, 1) := by decide +kernel
theorem dX10_messagesInTime_12 : decode cX10_messagesInTime 12 = .ok (.aload_n 0, 1) := by decide +kernel
theorem dX10_messagesInTime_13 : decode cX10_messagesInTime 13 = .ok (.iload_n 2, 1) := by decide +kernel
theorem dX10_messagesInTime_14 : decode cX10_messagesInTime 14 = .ok (.invokevirtual 81, 3) := by decide +kernel
theorem dX10_messagesInTime_17 : decode cX10_messagesInTime 17 = .ok (.astore_n 3, 1) := by decide +kernel
theorem dX10_messagesInTime_18 : decode cX10_messagesInTime 18 = .ok (.aload_n 3, 1) := by decide +kernel
theorem dX10_messagesInTime_19 : decode cX10_messagesInTime 19 = .ok (.getfield 140, 3) := by decide +kernel
theorem dX10_messagesInTime_22 : decode cX10_messagesInTime 22 = .ok (.iconst 1, 1) := by decide +kernel
theorem dX10_messagesInTime_23 : decode cX10_messagesInTime 23 = .ok (.if_icmp .ne 17, 3) := by decide +kernel
theorem dX10_messagesInTime_40 : decode cX10_messagesInTime 40 = .ok (.iinc 2 1, 3) := by decide +kernel
theorem dX10_messagesInTime_43 : decode cX10_messagesInTime 43 = .ok (.goto (-39), 3) := by decide +kernel
theorem dX10_messagesInTime_26 : decode cX10_messagesInTime 26 = .ok (.aload_n 3, 1) := by decide +kernel
theorem dX10_messagesInTime_27 : decode cX10_messagesInTime 27 = .ok (.getfield 146, 3) := by decide +kernel
theorem dX10_messagesInTime_30 : decode cX10_messagesInTime 30 = .ok (.aload_n 3, 1) := by decide +kernel
theorem dX10_messagesInTime_31 : decode cX10_messagesInTime 31 = .ok (.getfield 143, 3) := by decide +kernel
theorem dX10_messagesInTime_34 : decode cX10_messagesInTime 34 = .ok (.if_icmp .gt 6, 3) := by decide +kernel
theorem dX10_messagesInTime_37 : decode cX10_messagesInTime 37 = .ok (.iinc 1 1, 3) := by decide +kernel
theorem dX10_isWaitingAt_0 : decode cX10_isWaitingAt 0 = .ok (.aload_n 0, 1) := by decide +kernel
theorem dX10_isWaitingAt_1 : decode cX10_isWaitingAt 1 = .ok (.iload_n 1, 1) := by decide +kernel
theorem dX10_isWaitingAt_2 : decode cX10_isWaitingAt 2 = .ok (.invokevirtual 81, 3) := by decide +kernel
theorem dX10_isWaitingAt_5 : decode cX10_isWaitingAt 5 = .ok (.getfield 140, 3) := by decide +kernel
theorem dX10_isWaitingAt_8 : decode cX10_isWaitingAt 8 = .ok (.ifCond .ne 19, 3) := by decide +kernel
theorem dX10_isWaitingAt_27 : decode cX10_isWaitingAt 27 = .ok (.iconst 0, 1) := by decide +kernel
theorem dX10_isWaitingAt_28 : decode cX10_isWaitingAt 28 = .ok (.ireturn, 1) := by decide +kernel
theorem dX10_isWaitingAt_11 : decode cX10_isWaitingAt 11 = .ok (.aload_n 0, 1) := by decide +kernel
theorem dX10_isWaitingAt_12 : decode cX10_isWaitingAt 12 = .ok (.iload_n 1, 1) := by decide +kernel
theorem dX10_isWaitingAt_13 : decode cX10_isWaitingAt 13 = .ok (.invokevirtual 81, 3) := by decide +kernel
theorem dX10_isWaitingAt_16 : decode cX10_isWaitingAt 16 = .ok (.getfield 137, 3) := by decide +kernel
theorem dX10_isWaitingAt_19 : decode cX10_isWaitingAt 19 = .ok (.iload_n 2, 1) := by decide +kernel
theorem dX10_isWaitingAt_20 : decode cX10_isWaitingAt 20 = .ok (.if_icmp .ne 7, 3) := by decide +kernel
theorem dX10_isWaitingAt_23 : decode cX10_isWaitingAt 23 = .ok (.iconst 1, 1) := by decide +kernel
theorem dX10_isWaitingAt_24 : decode cX10_isWaitingAt 24 = .ok (.goto 4, 3) := by decide +kernel
theorem dX10_messagesWaitingAt_0 : decode cX10_messagesWaitingAt 0 = .ok (.iconst 0, 1) := by decide +kernel
theorem dX10_messagesWaitingAt_1 : decode cX10_messagesWaitingAt 1 = .ok (.istore_n 2, 1) := by decide +kernel
theorem dX10_messagesWaitingAt_2 : decode cX10_messagesWaitingAt 2 = .ok (.iconst 0, 1) := by decide +kernel
theorem dX10_messagesWaitingAt_3 : decode cX10_messagesWaitingAt 3 = .ok (.istore_n 3, 1) := by decide +kernel
theorem dX10_messagesWaitingAt_4 : decode cX10_messagesWaitingAt 4 = .ok (.iload_n 3, 1) := by decide +kernel
theorem dX10_messagesWaitingAt_5 : decode cX10_messagesWaitingAt 5 = .ok (.aload_n 0, 1) := by decide +kernel
theorem dX10_messagesWaitingAt_6 : decode cX10_messagesWaitingAt 6 = .ok (.getfield 42, 3) := by decide +kernel
theorem dX10_messagesWaitingAt_9 : decode cX10_messagesWaitingAt 9 = .ok (.if_icmp .ge 21, 3) := by decide +kernel
theorem dX10_messagesWaitingAt_30 : decode cX10_messagesWaitingAt 30 = .ok (.iload_n 2, 1) := by decide +kernel
theorem dX10_messagesWaitingAt_31 : decode cX10_messagesWaitingAt 31 = .ok (.ireturn, 1) := by decide +kernel
theorem dX10_messagesWaitingAt_12 : decode cX10_messagesWaitingAt 12 = .ok (.aload_n 0, 1) := by decide +kernel
theorem dX10_messagesWaitingAt_13 : decode cX10_messagesWaitingAt 13 = .ok (.iload_n 3, 1) := by decide +kernel
theorem dX10_messagesWaitingAt_14 : decode cX10_messagesWaitingAt 14 = .ok (.iload_n 1, 1) := by decide +kernel
theorem dX10_messagesWaitingAt_15 : decode cX10_messagesWaitingAt 15 = .ok (.invokevirtual 185, 3) := by decide +kernel
theorem dX10_messagesWaitingAt_18 : decode cX10_messagesWaitingAt 18 = .ok (.ifCond .eq 6, 3) := by decide +kernel
theorem dX10_messagesWaitingAt_21 : decode cX10_messagesWaitingAt 21 = .ok (.iinc 2 1, 3) := by decide +kernel
theorem dX10_messagesWaitingAt_24 : decode cX10_messagesWaitingAt 24 = .ok (.iinc 3 1, 3) := by decide +kernel
theorem dX10_messagesWaitingAt_27 : decode cX10_messagesWaitingAt 27 = .ok (.goto (-23), 3) := by decide +kernel
theorem dX10_meetingIn_0 : decode cX10_meetingIn 0 = .ok (.iconst 1, 1) := by decide +kernel
theorem dX10_meetingIn_1 : decode cX10_meetingIn 1 = .ok (.istore 4, 2) := by decide +kernel
theorem dX10_meetingIn_3 : decode cX10_meetingIn 3 = .ok (.iload 4, 2) := by decide +kernel
theorem dX10_meetingIn_5 : decode cX10_meetingIn 5 = .ok (.aload_n 0, 1) := by decide +kernel
theorem dX10_meetingIn_6 : decode cX10_meetingIn 6 = .ok (.getfield 45, 3) := by decide +kernel
theorem dX10_meetingIn_9 : decode cX10_meetingIn 9 = .ok (.if_icmp .gt 41, 3) := by decide +kernel
theorem dX10_meetingIn_50 : decode cX10_meetingIn 50 = .ok (.iconst (-1), 1) := by decide +kernel
theorem dX10_meetingIn_51 : decode cX10_meetingIn 51 = .ok (.ireturn, 1) := by decide +kernel
theorem dX10_meetingIn_12 : decode cX10_meetingIn 12 = .ok (.aload_n 0, 1) := by decide +kernel
theorem dX10_meetingIn_13 : decode cX10_meetingIn 13 = .ok (.iload_n 1, 1) := by decide +kernel
theorem dX10_meetingIn_14 : decode cX10_meetingIn 14 = .ok (.iload_n 2, 1) := by decide +kernel
theorem dX10_meetingIn_15 : decode cX10_meetingIn 15 = .ok (.iload 4, 2) := by decide +kernel
theorem dX10_meetingIn_17 : decode cX10_meetingIn 17 = .ok (.invokevirtual 214, 3) := by decide +kernel
theorem dX10_meetingIn_20 : decode cX10_meetingIn 20 = .ok (.ifCond .eq 24, 3) := by decide +kernel
theorem dX10_meetingIn_23 : decode cX10_meetingIn 23 = .ok (.aload_n 0, 1) := by decide +kernel
theorem dX10_meetingIn_24 : decode cX10_meetingIn 24 = .ok (.iload_n 3, 1) := by decide +kernel
theorem dX10_meetingIn_25 : decode cX10_meetingIn 25 = .ok (.aload_n 0, 1) := by decide +kernel
theorem dX10_meetingIn_26 : decode cX10_meetingIn 26 = .ok (.iload_n 3, 1) := by decide +kernel
theorem dX10_meetingIn_27 : decode cX10_meetingIn 27 = .ok (.invokevirtual 66, 3) := by decide +kernel
theorem dX10_meetingIn_30 : decode cX10_meetingIn 30 = .ok (.getfield 98, 3) := by decide +kernel
theorem dX10_meetingIn_33 : decode cX10_meetingIn 33 = .ok (.iload 4, 2) := by decide +kernel
theorem dX10_meetingIn_35 : decode cX10_meetingIn 35 = .ok (.invokevirtual 214, 3) := by decide +kernel
theorem dX10_meetingIn_38 : decode cX10_meetingIn 38 = .ok (.ifCond .eq 6, 3) := by decide +kernel
theorem dX10_meetingIn_41 : decode cX10_meetingIn 41 = .ok (.iload 4, 2) := by decide +kernel
theorem dX10_meetingIn_43 : decode cX10_meetingIn 43 = .ok (.ireturn, 1) := by decide +kernel
theorem dX10_meetingIn_44 : decode cX10_meetingIn 44 = .ok (.iinc 4 1, 3) := by decide +kernel
theorem dX10_meetingIn_47 : decode cX10_meetingIn 47 = .ok (.goto (-44), 3) := by decide +kernel
theorem dX10_grown_0 : decode cX10_grown 0 = .ok (.iload_n 1, 1) := by decide +kernel
theorem dX10_grown_1 : decode cX10_grown 1 = .ok (.istore_n 3, 1) := by decide +kernel
theorem dX10_grown_2 : decode cX10_grown 2 = .ok (.iconst 0, 1) := by decide +kernel
theorem dX10_grown_3 : decode cX10_grown 3 = .ok (.istore 4, 2) := by decide +kernel
theorem dX10_grown_5 : decode cX10_grown 5 = .ok (.iload 4, 2) := by decide +kernel
theorem dX10_grown_7 : decode cX10_grown 7 = .ok (.aload_n 0, 1) := by decide +kernel
theorem dX10_grown_8 : decode cX10_grown 8 = .ok (.getfield 35, 3) := by decide +kernel
theorem dX10_grown_11 : decode cX10_grown 11 = .ok (.if_icmp .ge 43, 3) := by decide +kernel
theorem dX10_grown_54 : decode cX10_grown 54 = .ok (.iload_n 3, 1) := by decide +kernel
theorem dX10_grown_55 : decode cX10_grown 55 = .ok (.ireturn, 1) := by decide +kernel
theorem dX10_grown_14 : decode cX10_grown 14 = .ok (.iload 4, 2) := by decide +kernel
theorem dX10_grown_16 : decode cX10_grown 16 = .ok (.aload_n 0, 1) := by decide +kernel
theorem dX10_grown_17 : decode cX10_grown 17 = .ok (.getfield 13, 3) := by decide +kernel
theorem dX10_grown_20 : decode cX10_grown 20 = .ok (.arraylength, 1) := by decide +kernel
theorem dX10_grown_21 : decode cX10_grown 21 = .ok (.if_icmp .ge 27, 3) := by decide +kernel
theorem dX10_grown_24 : decode cX10_grown 24 = .ok (.iload_n 1, 1) := by decide +kernel
theorem dX10_grown_25 : decode cX10_grown 25 = .ok (.iload 4, 2) := by decide +kernel
theorem dX10_grown_27 : decode cX10_grown 27 = .ok (.ishr, 1) := by decide +kernel
theorem dX10_grown_28 : decode cX10_grown 28 = .ok (.iconst 1, 1) := by decide +kernel
theorem dX10_grown_29 : decode cX10_grown 29 = .ok (.iand, 1) := by decide +kernel
theorem dX10_grown_30 : decode cX10_grown 30 = .ok (.ifCond .eq 18, 3) := by decide +kernel
theorem dX10_grown_48 : decode cX10_grown 48 = .ok (.iinc 4 1, 3) := by decide +kernel
theorem dX10_grown_51 : decode cX10_grown 51 = .ok (.goto (-46), 3) := by decide +kernel
theorem dX10_grown_33 : decode cX10_grown 33 = .ok (.iload_n 3, 1) := by decide +kernel
theorem dX10_grown_34 : decode cX10_grown 34 = .ok (.aload_n 0, 1) := by decide +kernel
theorem dX10_grown_35 : decode cX10_grown 35 = .ok (.getfield 13, 3) := by decide +kernel
theorem dX10_grown_38 : decode cX10_grown 38 = .ok (.iload 4, 2) := by decide +kernel
theorem dX10_grown_40 : decode cX10_grown 40 = .ok (.aaload, 1) := by decide +kernel
theorem dX10_grown_41 : decode cX10_grown 41 = .ok (.getfield 104, 3) := by decide +kernel
theorem dX10_grown_44 : decode cX10_grown 44 = .ok (.iload_n 2, 1) := by decide +kernel
theorem dX10_grown_45 : decode cX10_grown 45 = .ok (.iand, 1) := by decide +kernel
theorem dX10_grown_46 : decode cX10_grown 46 = .ok (.ior, 1) := by decide +kernel
theorem dX10_grown_47 : decode cX10_grown 47 = .ok (.istore_n 3, 1) := by decide +kernel
theorem dX10_nextTowards_0 : decode cX10_nextTowards 0 = .ok (.aload_n 0, 1) := by decide +kernel
theorem dX10_nextTowards_1 : decode cX10_nextTowards 1 = .ok (.iload_n 1, 1) := by decide +kernel
theorem dX10_nextTowards_2 : decode cX10_nextTowards 2 = .ok (.invokevirtual 66, 3) := by decide +kernel
theorem dX10_nextTowards_5 : decode cX10_nextTowards 5 = .ok (.getfield 104, 3) := by decide +kernel
theorem dX10_nextTowards_8 : decode cX10_nextTowards 8 = .ok (.iload_n 3, 1) := by decide +kernel
theorem dX10_nextTowards_9 : decode cX10_nextTowards 9 = .ok (.iand, 1) := by decide +kernel
theorem dX10_nextTowards_10 : decode cX10_nextTowards 10 = .ok (.istore 4, 2) := by decide +kernel
theorem dX10_nextTowards_12 : decode cX10_nextTowards 12 = .ok (.iconst 1, 1) := by decide +kernel
theorem dX10_nextTowards_13 : decode cX10_nextTowards 13 = .ok (.iload_n 2, 1) := by decide +kernel
theorem dX10_nextTowards_14 : decode cX10_nextTowards 14 = .ok (.ishl, 1) := by decide +kernel
theorem dX10_nextTowards_15 : decode cX10_nextTowards 15 = .ok (.iload_n 3, 1) := by decide +kernel
theorem dX10_nextTowards_16 : decode cX10_nextTowards 16 = .ok (.iand, 1) := by decide +kernel
theorem dX10_nextTowards_17 : decode cX10_nextTowards 17 = .ok (.istore 5, 2) := by decide +kernel
theorem dX10_nextTowards_19 : decode cX10_nextTowards 19 = .ok (.iconst 0, 1) := by decide +kernel
theorem dX10_nextTowards_20 : decode cX10_nextTowards 20 = .ok (.istore 6, 2) := by decide +kernel
theorem dX10_nextTowards_22 : decode cX10_nextTowards 22 = .ok (.iload 6, 2) := by decide +kernel
theorem dX10_nextTowards_24 : decode cX10_nextTowards 24 = .ok (.bipush 10, 2) := by decide +kernel
theorem dX10_nextTowards_26 : decode cX10_nextTowards 26 = .ok (.if_icmp .ge 35, 3) := by decide +kernel
theorem dX10_nextTowards_61 : decode cX10_nextTowards 61 = .ok (.iconst (-1), 1) := by decide +kernel
theorem dX10_nextTowards_62 : decode cX10_nextTowards 62 = .ok (.ireturn, 1) := by decide +kernel
theorem dX10_nextTowards_29 : decode cX10_nextTowards 29 = .ok (.iload 4, 2) := by decide +kernel
theorem dX10_nextTowards_31 : decode cX10_nextTowards 31 = .ok (.iload 5, 2) := by decide +kernel
theorem dX10_nextTowards_33 : decode cX10_nextTowards 33 = .ok (.iand, 1) := by decide +kernel
theorem dX10_nextTowards_34 : decode cX10_nextTowards 34 = .ok (.ifCond .eq 12, 3) := by decide +kernel
theorem dX10_nextTowards_46 : decode cX10_nextTowards 46 = .ok (.aload_n 0, 1) := by decide +kernel
theorem dX10_nextTowards_47 : decode cX10_nextTowards 47 = .ok (.iload 5, 2) := by decide +kernel
theorem dX10_nextTowards_49 : decode cX10_nextTowards 49 = .ok (.iload_n 3, 1) := by decide +kernel
theorem dX10_nextTowards_50 : decode cX10_nextTowards 50 = .ok (.invokevirtual 234, 3) := by decide +kernel
theorem dX10_nextTowards_53 : decode cX10_nextTowards 53 = .ok (.istore 5, 2) := by decide +kernel
theorem dX10_nextTowards_55 : decode cX10_nextTowards 55 = .ok (.iinc 6 1, 3) := by decide +kernel
theorem dX10_nextTowards_58 : decode cX10_nextTowards 58 = .ok (.goto (-36), 3) := by decide +kernel
theorem dX10_nextTowards_37 : decode cX10_nextTowards 37 = .ok (.iload 4, 2) := by decide +kernel
theorem dX10_nextTowards_39 : decode cX10_nextTowards 39 = .ok (.iload 5, 2) := by decide +kernel
theorem dX10_nextTowards_41 : decode cX10_nextTowards 41 = .ok (.iand, 1) := by decide +kernel
theorem dX10_nextTowards_42 : decode cX10_nextTowards 42 = .ok (.invokestatic 237, 3) := by decide +kernel
theorem dX10_nextTowards_45 : decode cX10_nextTowards 45 = .ok (.ireturn, 1) := by decide +kernel
theorem dX10_wakeNodes_0 : decode cX10_wakeNodes 0 = .ok (.aload_n 0, 1) := by decide +kernel
theorem dX10_wakeNodes_1 : decode cX10_wakeNodes 1 = .ok (.iconst 0, 1) := by decide +kernel
theorem dX10_wakeNodes_2 : decode cX10_wakeNodes 2 = .ok (.putfield 262, 3) := by decide +kernel
theorem dX10_wakeNodes_5 : decode cX10_wakeNodes 5 = .ok (.iconst 0, 1) := by decide +kernel
theorem dX10_wakeNodes_6 : decode cX10_wakeNodes 6 = .ok (.istore_n 1, 1) := by decide +kernel
theorem dX10_wakeNodes_7 : decode cX10_wakeNodes 7 = .ok (.iload_n 1, 1) := by decide +kernel
theorem dX10_wakeNodes_8 : decode cX10_wakeNodes 8 = .ok (.aload_n 0, 1) := by decide +kernel
theorem dX10_wakeNodes_9 : decode cX10_wakeNodes 9 = .ok (.getfield 35, 3) := by decide +kernel
theorem dX10_wakeNodes_12 : decode cX10_wakeNodes 12 = .ok (.if_icmp .ge 78, 3) := by decide +kernel
theorem dX10_wakeNodes_90 : decode cX10_wakeNodes 90 = .ok (.return_, 1) := by decide +kernel
theorem dX10_wakeNodes_15 : decode cX10_wakeNodes 15 = .ok (.aload_n 0, 1) := by decide +kernel
theorem dX10_wakeNodes_16 : decode cX10_wakeNodes 16 = .ok (.iload_n 1, 1) := by decide +kernel
theorem dX10_wakeNodes_17 : decode cX10_wakeNodes 17 = .ok (.invokevirtual 66, 3) := by decide +kernel
theorem dX10_wakeNodes_20 : decode cX10_wakeNodes 20 = .ok (.astore_n 2, 1) := by decide +kernel
theorem dX10_wakeNodes_21 : decode cX10_wakeNodes 21 = .ok (.aload_n 2, 1) := by decide +kernel
theorem dX10_wakeNodes_22 : decode cX10_wakeNodes 22 = .ok (.aload_n 0, 1) := by decide +kernel
theorem dX10_wakeNodes_23 : decode cX10_wakeNodes 23 = .ok (.iload_n 1, 1) := by decide +kernel
theorem dX10_wakeNodes_24 : decode cX10_wakeNodes 24 = .ok (.invokevirtual 178, 3) := by decide +kernel
theorem dX10_wakeNodes_27 : decode cX10_wakeNodes 27 = .ok (.putfield 265, 3) := by decide +kernel
theorem dX10_wakeNodes_30 : decode cX10_wakeNodes 30 = .ok (.aload_n 0, 1) := by decide +kernel
theorem dX10_wakeNodes_31 : decode cX10_wakeNodes 31 = .ok (.iload_n 1, 1) := by decide +kernel
theorem dX10_wakeNodes_32 : decode cX10_wakeNodes 32 = .ok (.invokevirtual 203, 3) := by decide +kernel
theorem dX10_wakeNodes_35 : decode cX10_wakeNodes 35 = .ok (.ifCond .eq 49, 3) := by decide +kernel
theorem dX10_wakeNodes_38 : decode cX10_wakeNodes 38 = .ok (.aload_n 2, 1) := by decide +kernel
theorem dX10_wakeNodes_39 : decode cX10_wakeNodes 39 = .ok (.iconst 0, 1) := by decide +kernel
theorem dX10_wakeNodes_40 : decode cX10_wakeNodes 40 = .ok (.aload_n 2, 1) := by decide +kernel
theorem dX10_wakeNodes_41 : decode cX10_wakeNodes 41 = .ok (.getfield 101, 3) := by decide +kernel
theorem dX10_wakeNodes_44 : decode cX10_wakeNodes 44 = .ok (.aload_n 0, 1) := by decide +kernel
theorem dX10_wakeNodes_45 : decode cX10_wakeNodes 45 = .ok (.getfield 48, 3) := by decide +kernel
theorem dX10_wakeNodes_48 : decode cX10_wakeNodes 48 = .ok (.isub, 1) := by decide +kernel
theorem dX10_wakeNodes_49 : decode cX10_wakeNodes 49 = .ok (.invokestatic 228, 3) := by decide +kernel
theorem dX10_wakeNodes_52 : decode cX10_wakeNodes 52 = .ok (.putfield 101, 3) := by decide +kernel
theorem dX10_wakeNodes_55 : decode cX10_wakeNodes 55 = .ok (.aload_n 2, 1) := by decide +kernel
theorem dX10_wakeNodes_56 : decode cX10_wakeNodes 56 = .ok (.getfield 101, 3) := by decide +kernel
theorem dX10_wakeNodes_59 : decode cX10_wakeNodes 59 = .ok (.ifCond .le 25, 3) := by decide +kernel
theorem dX10_wakeNodes_84 : decode cX10_wakeNodes 84 = .ok (.iinc 1 1, 3) := by decide +kernel
theorem dX10_wakeNodes_87 : decode cX10_wakeNodes 87 = .ok (.goto (-80), 3) := by decide +kernel
theorem dX10_wakeNodes_62 : decode cX10_wakeNodes 62 = .ok (.aload_n 0, 1) := by decide +kernel
theorem dX10_wakeNodes_63 : decode cX10_wakeNodes 63 = .ok (.dup, 1) := by decide +kernel
theorem dX10_wakeNodes_64 : decode cX10_wakeNodes 64 = .ok (.getfield 262, 3) := by decide +kernel
theorem dX10_wakeNodes_67 : decode cX10_wakeNodes 67 = .ok (.iconst 1, 1) := by decide +kernel
theorem dX10_wakeNodes_68 : decode cX10_wakeNodes 68 = .ok (.iload_n 1, 1) := by decide +kernel
theorem dX10_wakeNodes_69 : decode cX10_wakeNodes 69 = .ok (.ishl, 1) := by decide +kernel
theorem dX10_wakeNodes_70 : decode cX10_wakeNodes 70 = .ok (.ior, 1) := by decide +kernel
theorem dX10_wakeNodes_71 : decode cX10_wakeNodes 71 = .ok (.putfield 262, 3) := by decide +kernel
theorem dX10_wakeNodes_74 : decode cX10_wakeNodes 74 = .ok (.aload_n 2, 1) := by decide +kernel
theorem dX10_wakeNodes_75 : decode cX10_wakeNodes 75 = .ok (.dup, 1) := by decide +kernel
theorem dX10_wakeNodes_76 : decode cX10_wakeNodes 76 = .ok (.getfield 107, 3) := by decide +kernel
theorem dX10_wakeNodes_79 : decode cX10_wakeNodes 79 = .ok (.iconst 1, 1) := by decide +kernel
theorem dX10_wakeNodes_80 : decode cX10_wakeNodes 80 = .ok (.iadd, 1) := by decide +kernel
theorem dX10_wakeNodes_81 : decode cX10_wakeNodes 81 = .ok (.putfield 107, 3) := by decide +kernel
theorem dX10_miss_0 : decode cX10_miss 0 = .ok (.aload_n 1, 1) := by decide +kernel
theorem dX10_miss_1 : decode cX10_miss 1 = .ok (.dup, 1) := by decide +kernel
theorem dX10_miss_2 : decode cX10_miss 2 = .ok (.getfield 128, 3) := by decide +kernel
theorem dX10_miss_5 : decode cX10_miss 5 = .ok (.iconst 1, 1) := by decide +kernel
theorem dX10_miss_6 : decode cX10_miss 6 = .ok (.iadd, 1) := by decide +kernel
theorem dX10_miss_7 : decode cX10_miss 7 = .ok (.putfield 128, 3) := by decide +kernel
theorem dX10_miss_10 : decode cX10_miss 10 = .ok (.aload_n 1, 1) := by decide +kernel
theorem dX10_miss_11 : decode cX10_miss 11 = .ok (.dup, 1) := by decide +kernel
theorem dX10_miss_12 : decode cX10_miss 12 = .ok (.getfield 122, 3) := by decide +kernel
theorem dX10_miss_15 : decode cX10_miss 15 = .ok (.iconst 1, 1) := by decide +kernel
theorem dX10_miss_16 : decode cX10_miss 16 = .ok (.iadd, 1) := by decide +kernel
theorem dX10_miss_17 : decode cX10_miss 17 = .ok (.putfield 122, 3) := by decide +kernel
theorem dX10_miss_20 : decode cX10_miss 20 = .ok (.aload_n 1, 1) := by decide +kernel
theorem dX10_miss_21 : decode cX10_miss 21 = .ok (.getfield 122, 3) := by decide +kernel
theorem dX10_miss_24 : decode cX10_miss 24 = .ok (.aload_n 0, 1) := by decide +kernel
theorem dX10_miss_25 : decode cX10_miss 25 = .ok (.getfield 57, 3) := by decide +kernel
theorem dX10_miss_28 : decode cX10_miss 28 = .ok (.if_icmp .lt 58, 3) := by decide +kernel
theorem dX10_miss_86 : decode cX10_miss 86 = .ok (.return_, 1) := by decide +kernel
theorem dX10_miss_31 : decode cX10_miss 31 = .ok (.aload_n 1, 1) := by decide +kernel
theorem dX10_miss_32 : decode cX10_miss 32 = .ok (.getfield 116, 3) := by decide +kernel
theorem dX10_miss_35 : decode cX10_miss 35 = .ok (.aload_n 1, 1) := by decide +kernel
theorem dX10_miss_36 : decode cX10_miss 36 = .ok (.getfield 119, 3) := by decide +kernel
theorem dX10_miss_39 : decode cX10_miss 39 = .ok (.invokestatic 164, 3) := by decide +kernel
theorem dX10_miss_42 : decode cX10_miss 42 = .ok (.istore_n 2, 1) := by decide +kernel
theorem dX10_miss_43 : decode cX10_miss 43 = .ok (.aload_n 1, 1) := by decide +kernel
theorem dX10_miss_44 : decode cX10_miss 44 = .ok (.getfield 116, 3) := by decide +kernel
theorem dX10_miss_47 : decode cX10_miss 47 = .ok (.aload_n 1, 1) := by decide +kernel
theorem dX10_miss_48 : decode cX10_miss 48 = .ok (.getfield 119, 3) := by decide +kernel
theorem dX10_miss_51 : decode cX10_miss 51 = .ok (.invokestatic 228, 3) := by decide +kernel
theorem dX10_miss_54 : decode cX10_miss 54 = .ok (.istore_n 3, 1) := by decide +kernel
theorem dX10_miss_55 : decode cX10_miss 55 = .ok (.aload_n 0, 1) := by decide +kernel
theorem dX10_miss_56 : decode cX10_miss 56 = .ok (.iload_n 3, 1) := by decide +kernel
theorem dX10_miss_57 : decode cX10_miss 57 = .ok (.invokevirtual 66, 3) := by decide +kernel
theorem dX10_miss_60 : decode cX10_miss 60 = .ok (.aload_n 0, 1) := by decide +kernel
theorem dX10_miss_61 : decode cX10_miss 61 = .ok (.iload_n 2, 1) := by decide +kernel
theorem dX10_miss_62 : decode cX10_miss 62 = .ok (.invokevirtual 66, 3) := by decide +kernel
theorem dX10_miss_65 : decode cX10_miss 65 = .ok (.getfield 98, 3) := by decide +kernel
theorem dX10_miss_68 : decode cX10_miss 68 = .ok (.putfield 98, 3) := by decide +kernel
theorem dX10_miss_71 : decode cX10_miss 71 = .ok (.aload_n 1, 1) := by decide +kernel
theorem dX10_miss_72 : decode cX10_miss 72 = .ok (.iconst 0, 1) := by decide +kernel
theorem dX10_miss_73 : decode cX10_miss 73 = .ok (.putfield 122, 3) := by decide +kernel
theorem dX10_miss_76 : decode cX10_miss 76 = .ok (.aload_n 0, 1) := by decide +kernel
theorem dX10_miss_77 : decode cX10_miss 77 = .ok (.dup, 1) := by decide +kernel
theorem dX10_miss_78 : decode cX10_miss 78 = .ok (.getfield 63, 3) := by decide +kernel
theorem dX10_miss_81 : decode cX10_miss 81 = .ok (.iconst 1, 1) := by decide +kernel
theorem dX10_miss_82 : decode cX10_miss 82 = .ok (.iadd, 1) := by decide +kernel
theorem dX10_miss_83 : decode cX10_miss 83 = .ok (.putfield 63, 3) := by decide +kernel
theorem dX10_meetOrMiss_0 : decode cX10_meetOrMiss 0 = .ok (.aload_n 0, 1) := by decide +kernel
theorem dX10_meetOrMiss_1 : decode cX10_meetOrMiss 1 = .ok (.aload_n 1, 1) := by decide +kernel
theorem dX10_meetOrMiss_2 : decode cX10_meetOrMiss 2 = .ok (.getfield 116, 3) := by decide +kernel
theorem dX10_meetOrMiss_5 : decode cX10_meetOrMiss 5 = .ok (.invokevirtual 66, 3) := by decide +kernel
theorem dX10_meetOrMiss_8 : decode cX10_meetOrMiss 8 = .ok (.astore_n 2, 1) := by decide +kernel
theorem dX10_meetOrMiss_9 : decode cX10_meetOrMiss 9 = .ok (.aload_n 0, 1) := by decide +kernel
theorem dX10_meetOrMiss_10 : decode cX10_meetOrMiss 10 = .ok (.aload_n 1, 1) := by decide +kernel
theorem dX10_meetOrMiss_11 : decode cX10_meetOrMiss 11 = .ok (.getfield 119, 3) := by decide +kernel
theorem dX10_meetOrMiss_14 : decode cX10_meetOrMiss 14 = .ok (.invokevirtual 66, 3) := by decide +kernel
theorem dX10_meetOrMiss_17 : decode cX10_meetOrMiss 17 = .ok (.astore_n 3, 1) := by decide +kernel
theorem dX10_meetOrMiss_18 : decode cX10_meetOrMiss 18 = .ok (.aload_n 2, 1) := by decide +kernel
theorem dX10_meetOrMiss_19 : decode cX10_meetOrMiss 19 = .ok (.getfield 101, 3) := by decide +kernel
theorem dX10_meetOrMiss_22 : decode cX10_meetOrMiss 22 = .ok (.ifCond .eq 10, 3) := by decide +kernel
theorem dX10_meetOrMiss_32 : decode cX10_meetOrMiss 32 = .ok (.return_, 1) := by decide +kernel
theorem dX10_meetOrMiss_25 : decode cX10_meetOrMiss 25 = .ok (.aload_n 3, 1) := by decide +kernel
theorem dX10_meetOrMiss_26 : decode cX10_meetOrMiss 26 = .ok (.getfield 101, 3) := by decide +kernel
theorem dX10_meetOrMiss_29 : decode cX10_meetOrMiss 29 = .ok (.ifCond .ne 4, 3) := by decide +kernel
theorem dX10_meetOrMiss_33 : decode cX10_meetOrMiss 33 = .ok (.aload_n 0, 1) := by decide +kernel
theorem dX10_meetOrMiss_34 : decode cX10_meetOrMiss 34 = .ok (.getfield 262, 3) := by decide +kernel
theorem dX10_meetOrMiss_37 : decode cX10_meetOrMiss 37 = .ok (.aload_n 1, 1) := by decide +kernel
theorem dX10_meetOrMiss_38 : decode cX10_meetOrMiss 38 = .ok (.getfield 116, 3) := by decide +kernel
theorem dX10_meetOrMiss_41 : decode cX10_meetOrMiss 41 = .ok (.invokestatic 181, 3) := by decide +kernel
theorem dX10_meetOrMiss_44 : decode cX10_meetOrMiss 44 = .ok (.istore 4, 2) := by decide +kernel
theorem dX10_meetOrMiss_46 : decode cX10_meetOrMiss 46 = .ok (.aload_n 0, 1) := by decide +kernel
theorem dX10_meetOrMiss_47 : decode cX10_meetOrMiss 47 = .ok (.getfield 262, 3) := by decide +kernel
theorem dX10_meetOrMiss_50 : decode cX10_meetOrMiss 50 = .ok (.aload_n 1, 1) := by decide +kernel
theorem dX10_meetOrMiss_51 : decode cX10_meetOrMiss 51 = .ok (.getfield 119, 3) := by decide +kernel
theorem dX10_meetOrMiss_54 : decode cX10_meetOrMiss 54 = .ok (.invokestatic 181, 3) := by decide +kernel
theorem dX10_meetOrMiss_57 : decode cX10_meetOrMiss 57 = .ok (.istore 5, 2) := by decide +kernel
theorem dX10_meetOrMiss_59 : decode cX10_meetOrMiss 59 = .ok (.iload 4, 2) := by decide +kernel
theorem dX10_meetOrMiss_61 : decode cX10_meetOrMiss 61 = .ok (.ifCond .eq 26, 3) := by decide +kernel
theorem dX10_meetOrMiss_64 : decode cX10_meetOrMiss 64 = .ok (.iload 5, 2) := by decide +kernel
theorem dX10_meetOrMiss_66 : decode cX10_meetOrMiss 66 = .ok (.ifCond .eq 21, 3) := by decide +kernel
theorem dX10_meetOrMiss_69 : decode cX10_meetOrMiss 69 = .ok (.aload_n 1, 1) := by decide +kernel
theorem dX10_meetOrMiss_70 : decode cX10_meetOrMiss 70 = .ok (.dup, 1) := by decide +kernel
theorem dX10_meetOrMiss_71 : decode cX10_meetOrMiss 71 = .ok (.getfield 125, 3) := by decide +kernel
theorem dX10_meetOrMiss_74 : decode cX10_meetOrMiss 74 = .ok (.iconst 1, 1) := by decide +kernel
theorem dX10_meetOrMiss_75 : decode cX10_meetOrMiss 75 = .ok (.iadd, 1) := by decide +kernel
theorem dX10_meetOrMiss_76 : decode cX10_meetOrMiss 76 = .ok (.putfield 125, 3) := by decide +kernel
theorem dX10_meetOrMiss_79 : decode cX10_meetOrMiss 79 = .ok (.aload_n 1, 1) := by decide +kernel
theorem dX10_meetOrMiss_80 : decode cX10_meetOrMiss 80 = .ok (.iconst 0, 1) := by decide +kernel
theorem dX10_meetOrMiss_81 : decode cX10_meetOrMiss 81 = .ok (.putfield 122, 3) := by decide +kernel
theorem dX10_meetOrMiss_84 : decode cX10_meetOrMiss 84 = .ok (.goto 54, 3) := by decide +kernel
theorem dX10_meetOrMiss_138 : decode cX10_meetOrMiss 138 = .ok (.return_, 1) := by decide +kernel
theorem dX10_meetOrMiss_87 : decode cX10_meetOrMiss 87 = .ok (.iload 4, 2) := by decide +kernel
theorem dX10_meetOrMiss_89 : decode cX10_meetOrMiss 89 = .ok (.ifCond .ne 8, 3) := by decide +kernel
theorem dX10_meetOrMiss_97 : decode cX10_meetOrMiss 97 = .ok (.iload 4, 2) := by decide +kernel
theorem dX10_meetOrMiss_99 : decode cX10_meetOrMiss 99 = .ok (.ifCond .eq 10, 3) := by decide +kernel
theorem dX10_meetOrMiss_102 : decode cX10_meetOrMiss 102 = .ok (.aload_n 2, 1) := by decide +kernel
theorem dX10_meetOrMiss_103 : decode cX10_meetOrMiss 103 = .ok (.getfield 265, 3) := by decide +kernel
theorem dX10_meetOrMiss_106 : decode cX10_meetOrMiss 106 = .ok (.goto 7, 3) := by decide +kernel
theorem dX10_meetOrMiss_113 : decode cX10_meetOrMiss 113 = .ok (.istore 6, 2) := by decide +kernel
theorem dX10_meetOrMiss_115 : decode cX10_meetOrMiss 115 = .ok (.iload 6, 2) := by decide +kernel
theorem dX10_meetOrMiss_117 : decode cX10_meetOrMiss 117 = .ok (.aload_n 2, 1) := by decide +kernel
theorem dX10_meetOrMiss_118 : decode cX10_meetOrMiss 118 = .ok (.getfield 95, 3) := by decide +kernel
theorem dX10_meetOrMiss_121 : decode cX10_meetOrMiss 121 = .ok (.if_icmp .eq 12, 3) := by decide +kernel
theorem dX10_meetOrMiss_133 : decode cX10_meetOrMiss 133 = .ok (.aload_n 0, 1) := by decide +kernel
theorem dX10_meetOrMiss_134 : decode cX10_meetOrMiss 134 = .ok (.aload_n 1, 1) := by decide +kernel
theorem dX10_meetOrMiss_135 : decode cX10_meetOrMiss 135 = .ok (.invokevirtual 268, 3) := by decide +kernel
theorem dX10_meetOrMiss_124 : decode cX10_meetOrMiss 124 = .ok (.iload 6, 2) := by decide +kernel
theorem dX10_meetOrMiss_126 : decode cX10_meetOrMiss 126 = .ok (.aload_n 3, 1) := by decide +kernel
theorem dX10_meetOrMiss_127 : decode cX10_meetOrMiss 127 = .ok (.getfield 95, 3) := by decide +kernel
theorem dX10_meetOrMiss_130 : decode cX10_meetOrMiss 130 = .ok (.if_icmp .ne 8, 3) := by decide +kernel
theorem dX10_meetOrMiss_92 : decode cX10_meetOrMiss 92 = .ok (.iload 5, 2) := by decide +kernel
theorem dX10_meetOrMiss_94 : decode cX10_meetOrMiss 94 = .ok (.ifCond .eq 44, 3) := by decide +kernel
theorem dX10_meetOrMiss_109 : decode cX10_meetOrMiss 109 = .ok (.aload_n 3, 1) := by decide +kernel
theorem dX10_meetOrMiss_110 : decode cX10_meetOrMiss 110 = .ok (.getfield 265, 3) := by decide +kernel
theorem dX10_moveTo_0 : decode cX10_moveTo 0 = .ok (.aload_n 1, 1) := by decide +kernel
theorem dX10_moveTo_1 : decode cX10_moveTo 1 = .ok (.iload_n 2, 1) := by decide +kernel
theorem dX10_moveTo_2 : decode cX10_moveTo 2 = .ok (.putfield 137, 3) := by decide +kernel
theorem dX10_moveTo_5 : decode cX10_moveTo 5 = .ok (.aload_n 1, 1) := by decide +kernel
theorem dX10_moveTo_6 : decode cX10_moveTo 6 = .ok (.dup, 1) := by decide +kernel
theorem dX10_moveTo_7 : decode cX10_moveTo 7 = .ok (.getfield 149, 3) := by decide +kernel
theorem dX10_moveTo_10 : decode cX10_moveTo 10 = .ok (.iconst 1, 1) := by decide +kernel
theorem dX10_moveTo_11 : decode cX10_moveTo 11 = .ok (.iadd, 1) := by decide +kernel
theorem dX10_moveTo_12 : decode cX10_moveTo 12 = .ok (.putfield 149, 3) := by decide +kernel
theorem dX10_moveTo_15 : decode cX10_moveTo 15 = .ok (.iload_n 2, 1) := by decide +kernel
theorem dX10_moveTo_16 : decode cX10_moveTo 16 = .ok (.aload_n 1, 1) := by decide +kernel
theorem dX10_moveTo_17 : decode cX10_moveTo 17 = .ok (.getfield 134, 3) := by decide +kernel
theorem dX10_moveTo_20 : decode cX10_moveTo 20 = .ok (.if_icmp .ne 16, 3) := by decide +kernel
theorem dX10_moveTo_36 : decode cX10_moveTo 36 = .ok (.return_, 1) := by decide +kernel
theorem dX10_moveTo_23 : decode cX10_moveTo 23 = .ok (.aload_n 1, 1) := by decide +kernel
theorem dX10_moveTo_24 : decode cX10_moveTo 24 = .ok (.iconst 1, 1) := by decide +kernel
theorem dX10_moveTo_25 : decode cX10_moveTo 25 = .ok (.putfield 140, 3) := by decide +kernel
theorem dX10_moveTo_28 : decode cX10_moveTo 28 = .ok (.aload_n 1, 1) := by decide +kernel
theorem dX10_moveTo_29 : decode cX10_moveTo 29 = .ok (.aload_n 0, 1) := by decide +kernel
theorem dX10_moveTo_30 : decode cX10_moveTo 30 = .ok (.getfield 60, 3) := by decide +kernel
theorem dX10_moveTo_33 : decode cX10_moveTo 33 = .ok (.putfield 146, 3) := by decide +kernel
theorem dX10_tryToPass_0 : decode cX10_tryToPass 0 = .ok (.aload_n 0, 1) := by decide +kernel
theorem dX10_tryToPass_1 : decode cX10_tryToPass 1 = .ok (.getfield 262, 3) := by decide +kernel
theorem dX10_tryToPass_4 : decode cX10_tryToPass 4 = .ok (.aload_n 1, 1) := by decide +kernel
theorem dX10_tryToPass_5 : decode cX10_tryToPass 5 = .ok (.getfield 137, 3) := by decide +kernel
theorem dX10_tryToPass_8 : decode cX10_tryToPass 8 = .ok (.invokestatic 181, 3) := by decide +kernel
theorem dX10_tryToPass_11 : decode cX10_tryToPass 11 = .ok (.istore_n 2, 1) := by decide +kernel
theorem dX10_tryToPass_12 : decode cX10_tryToPass 12 = .ok (.aload_n 0, 1) := by decide +kernel
theorem dX10_tryToPass_13 : decode cX10_tryToPass 13 = .ok (.getfield 249, 3) := by decide +kernel
theorem dX10_tryToPass_16 : decode cX10_tryToPass 16 = .ok (.aload_n 1, 1) := by decide +kernel
theorem dX10_tryToPass_17 : decode cX10_tryToPass 17 = .ok (.getfield 137, 3) := by decide +kernel
theorem dX10_tryToPass_20 : decode cX10_tryToPass 20 = .ok (.invokestatic 181, 3) := by decide +kernel
theorem dX10_tryToPass_23 : decode cX10_tryToPass 23 = .ok (.ifCond .ne 14, 3) := by decide +kernel
theorem dX10_tryToPass_37 : decode cX10_tryToPass 37 = .ok (.return_, 1) := by decide +kernel
theorem dX10_tryToPass_26 : decode cX10_tryToPass 26 = .ok (.iload_n 2, 1) := by decide +kernel
theorem dX10_tryToPass_27 : decode cX10_tryToPass 27 = .ok (.ifCond .ne 11, 3) := by decide +kernel
theorem dX10_tryToPass_38 : decode cX10_tryToPass 38 = .ok (.aload_n 0, 1) := by decide +kernel
theorem dX10_tryToPass_39 : decode cX10_tryToPass 39 = .ok (.aload_n 1, 1) := by decide +kernel
theorem dX10_tryToPass_40 : decode cX10_tryToPass 40 = .ok (.getfield 137, 3) := by decide +kernel
theorem dX10_tryToPass_43 : decode cX10_tryToPass 43 = .ok (.aload_n 1, 1) := by decide +kernel
theorem dX10_tryToPass_44 : decode cX10_tryToPass 44 = .ok (.getfield 134, 3) := by decide +kernel
theorem dX10_tryToPass_47 : decode cX10_tryToPass 47 = .ok (.aload_n 0, 1) := by decide +kernel
theorem dX10_tryToPass_48 : decode cX10_tryToPass 48 = .ok (.invokevirtual 195, 3) := by decide +kernel
theorem dX10_tryToPass_51 : decode cX10_tryToPass 51 = .ok (.invokevirtual 274, 3) := by decide +kernel
theorem dX10_tryToPass_54 : decode cX10_tryToPass 54 = .ok (.istore_n 3, 1) := by decide +kernel
theorem dX10_tryToPass_55 : decode cX10_tryToPass 55 = .ok (.iload_n 3, 1) := by decide +kernel
theorem dX10_tryToPass_56 : decode cX10_tryToPass 56 = .ok (.iconst (-1), 1) := by decide +kernel
theorem dX10_tryToPass_57 : decode cX10_tryToPass 57 = .ok (.if_icmp .eq 14, 3) := by decide +kernel
theorem dX10_tryToPass_71 : decode cX10_tryToPass 71 = .ok (.return_, 1) := by decide +kernel
theorem dX10_tryToPass_60 : decode cX10_tryToPass 60 = .ok (.aload_n 0, 1) := by decide +kernel
theorem dX10_tryToPass_61 : decode cX10_tryToPass 61 = .ok (.getfield 252, 3) := by decide +kernel
theorem dX10_tryToPass_64 : decode cX10_tryToPass 64 = .ok (.iload_n 3, 1) := by decide +kernel
theorem dX10_tryToPass_65 : decode cX10_tryToPass 65 = .ok (.invokestatic 181, 3) := by decide +kernel
theorem dX10_tryToPass_68 : decode cX10_tryToPass 68 = .ok (.ifCond .eq 4, 3) := by decide +kernel
theorem dX10_tryToPass_72 : decode cX10_tryToPass 72 = .ok (.iload_n 2, 1) := by decide +kernel
theorem dX10_tryToPass_73 : decode cX10_tryToPass 73 = .ok (.ifCond .eq 18, 3) := by decide +kernel
theorem dX10_tryToPass_76 : decode cX10_tryToPass 76 = .ok (.aload_n 0, 1) := by decide +kernel
theorem dX10_tryToPass_77 : decode cX10_tryToPass 77 = .ok (.getfield 262, 3) := by decide +kernel
theorem dX10_tryToPass_80 : decode cX10_tryToPass 80 = .ok (.iload_n 3, 1) := by decide +kernel
theorem dX10_tryToPass_81 : decode cX10_tryToPass 81 = .ok (.invokestatic 181, 3) := by decide +kernel
theorem dX10_tryToPass_84 : decode cX10_tryToPass 84 = .ok (.ifCond .eq 7, 3) := by decide +kernel
theorem dX10_tryToPass_87 : decode cX10_tryToPass 87 = .ok (.iconst 1, 1) := by decide +kernel
theorem dX10_tryToPass_88 : decode cX10_tryToPass 88 = .ok (.goto 4, 3) := by decide +kernel
theorem dX10_tryToPass_92 : decode cX10_tryToPass 92 = .ok (.istore 4, 2) := by decide +kernel
theorem dX10_tryToPass_94 : decode cX10_tryToPass 94 = .ok (.iload 4, 2) := by decide +kernel
theorem dX10_tryToPass_96 : decode cX10_tryToPass 96 = .ok (.ifCond .eq 10, 3) := by decide +kernel
theorem dX10_tryToPass_99 : decode cX10_tryToPass 99 = .ok (.aload_n 0, 1) := by decide +kernel
theorem dX10_tryToPass_100 : decode cX10_tryToPass 100 = .ok (.getfield 51, 3) := by decide +kernel
theorem dX10_tryToPass_103 : decode cX10_tryToPass 103 = .ok (.goto 12, 3) := by decide +kernel
theorem dX10_tryToPass_115 : decode cX10_tryToPass 115 = .ok (.istore 5, 2) := by decide +kernel
theorem dX10_tryToPass_117 : decode cX10_tryToPass 117 = .ok (.aload_n 0, 1) := by decide +kernel
