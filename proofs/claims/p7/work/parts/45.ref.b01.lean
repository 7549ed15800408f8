theorem dX12_nextNode_6 : decode cX12_nextNode 6 = .ok (.ifCond .eq 15, 3) := by decide +kernel
theorem dX12_nextNode_9 : decode cX12_nextNode 9 = .ok (.aload_n 0, 1) := by decide +kernel
theorem dX12_nextNode_10 : decode cX12_nextNode 10 = .ok (.iload_n 2, 1) := by decide +kernel
theorem dX12_nextNode_11 : decode cX12_nextNode 11 = .ok (.invokevirtual 355, 3) := by decide +kernel
theorem dX12_nextNode_14 : decode cX12_nextNode 14 = .ok (.ifCond .eq 7, 3) := by decide +kernel
theorem dX12_nextNode_17 : decode cX12_nextNode 17 = .ok (.iconst 1, 1) := by decide +kernel
theorem dX12_nextNode_18 : decode cX12_nextNode 18 = .ok (.goto 4, 3) := by decide +kernel
theorem dX12_nextNode_22 : decode cX12_nextNode 22 = .ok (.invokevirtual 85, 3) := by decide +kernel
theorem dX12_nextNode_25 : decode cX12_nextNode 25 = .ok (.ifCond .eq 12, 3) := by decide +kernel
theorem dX12_nextNode_28 : decode cX12_nextNode 28 = .ok (.aload_n 0, 1) := by decide +kernel
theorem dX12_nextNode_29 : decode cX12_nextNode 29 = .ok (.iload_n 1, 1) := by decide +kernel
theorem dX12_nextNode_30 : decode cX12_nextNode 30 = .ok (.iload_n 2, 1) := by decide +kernel
theorem dX12_nextNode_31 : decode cX12_nextNode 31 = .ok (.invokevirtual 311, 3) := by decide +kernel
theorem dX12_nextNode_34 : decode cX12_nextNode 34 = .ok (.goto 4, 3) := by decide +kernel
theorem dX12_nextNode_38 : decode cX12_nextNode 38 = .ok (.ireturn, 1) := by decide +kernel
theorem dX12_nextNode_21 : decode cX12_nextNode 21 = .ok (.iconst 0, 1) := by decide +kernel
theorem dX12_nextNode_37 : decode cX12_nextNode 37 = .ok (.iconst 0, 1) := by decide +kernel
theorem dX12_widest_0 : decode cX12_widest 0 = .ok (.aload_n 0, 1) := by decide +kernel
theorem dX12_widest_1 : decode cX12_widest 1 = .ok (.iconst 0, 1) := by decide +kernel
theorem dX12_widest_2 : decode cX12_widest 2 = .ok (.putfield 75, 3) := by decide +kernel
theorem dX12_widest_5 : decode cX12_widest 5 = .ok (.iconst 0, 1) := by decide +kernel
theorem dX12_widest_6 : decode cX12_widest 6 = .ok (.istore_n 1, 1) := by decide +kernel
theorem dX12_widest_7 : decode cX12_widest 7 = .ok (.iconst 0, 1) := by decide +kernel
theorem dX12_widest_8 : decode cX12_widest 8 = .ok (.istore_n 2, 1) := by decide +kernel
theorem dX12_widest_9 : decode cX12_widest 9 = .ok (.iload_n 2, 1) := by decide +kernel
theorem dX12_widest_10 : decode cX12_widest 10 = .ok (.aload_n 0, 1) := by decide +kernel
theorem dX12_widest_11 : decode cX12_widest 11 = .ok (.getfield 20, 3) := by decide +kernel
theorem dX12_widest_14 : decode cX12_widest 14 = .ok (.iconst 0, 1) := by decide +kernel
theorem dX12_widest_15 : decode cX12_widest 15 = .ok (.iaload, 1) := by decide +kernel
theorem dX12_widest_16 : decode cX12_widest 16 = .ok (.if_icmp .ge 38, 3) := by decide +kernel
theorem dX12_widest_54 : decode cX12_widest 54 = .ok (.iload_n 1, 1) := by decide +kernel
theorem dX12_widest_55 : decode cX12_widest 55 = .ok (.ireturn, 1) := by decide +kernel
theorem dX12_widest_19 : decode cX12_widest 19 = .ok (.iconst 0, 1) := by decide +kernel
theorem dX12_widest_20 : decode cX12_widest 20 = .ok (.istore_n 3, 1) := by decide +kernel
theorem dX12_widest_21 : decode cX12_widest 21 = .ok (.iload_n 3, 1) := by decide +kernel
theorem dX12_widest_22 : decode cX12_widest 22 = .ok (.aload_n 0, 1) := by decide +kernel
theorem dX12_widest_23 : decode cX12_widest 23 = .ok (.getfield 20, 3) := by decide +kernel
theorem dX12_widest_26 : decode cX12_widest 26 = .ok (.iconst 0, 1) := by decide +kernel
theorem dX12_widest_27 : decode cX12_widest 27 = .ok (.iaload, 1) := by decide +kernel
theorem dX12_widest_28 : decode cX12_widest 28 = .ok (.if_icmp .ge 20, 3) := by decide +kernel
theorem dX12_widest_48 : decode cX12_widest 48 = .ok (.iinc 2 1, 3) := by decide +kernel
theorem dX12_widest_51 : decode cX12_widest 51 = .ok (.goto (-42), 3) := by decide +kernel
theorem dX12_widest_31 : decode cX12_widest 31 = .ok (.iload_n 1, 1) := by decide +kernel
theorem dX12_widest_32 : decode cX12_widest 32 = .ok (.aload_n 0, 1) := by decide +kernel
theorem dX12_widest_33 : decode cX12_widest 33 = .ok (.iload_n 2, 1) := by decide +kernel
theorem dX12_widest_34 : decode cX12_widest 34 = .ok (.iload_n 3, 1) := by decide +kernel
theorem dX12_widest_35 : decode cX12_widest 35 = .ok (.invokevirtual 402, 3) := by decide +kernel
theorem dX12_widest_38 : decode cX12_widest 38 = .ok (.invokestatic 299, 3) := by decide +kernel
theorem dX12_widest_41 : decode cX12_widest 41 = .ok (.istore_n 1, 1) := by decide +kernel
theorem dX12_widest_42 : decode cX12_widest 42 = .ok (.iinc 3 1, 3) := by decide +kernel
theorem dX12_widest_45 : decode cX12_widest 45 = .ok (.goto (-24), 3) := by decide +kernel
