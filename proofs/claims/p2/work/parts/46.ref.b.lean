theorem dX12_tell_0 : decode cX12_tell 0 = .ok (.aload_n 0, 1) := by decide +kernel
theorem dX12_tell_1 : decode cX12_tell 1 = .ok (.getfield 69, 3) := by decide +kernel
theorem dX12_tell_4 : decode cX12_tell 4 = .ok (.aload_n 0, 1) := by decide +kernel
theorem dX12_tell_5 : decode cX12_tell 5 = .ok (.getfield 515, 3) := by decide +kernel
theorem dX12_tell_8 : decode cX12_tell 8 = .ok (.iload_n 1, 1) := by decide +kernel
theorem dX12_tell_9 : decode cX12_tell 9 = .ok (.iastore, 1) := by decide +kernel
theorem dX12_tell_10 : decode cX12_tell 10 = .ok (.aload_n 0, 1) := by decide +kernel
theorem dX12_tell_11 : decode cX12_tell 11 = .ok (.dup, 1) := by decide +kernel
theorem dX12_tell_12 : decode cX12_tell 12 = .ok (.getfield 515, 3) := by decide +kernel
theorem dX12_tell_15 : decode cX12_tell 15 = .ok (.iconst 1, 1) := by decide +kernel
theorem dX12_tell_16 : decode cX12_tell 16 = .ok (.iadd, 1) := by decide +kernel
theorem dX12_tell_17 : decode cX12_tell 17 = .ok (.putfield 515, 3) := by decide +kernel
theorem dX12_tell_20 : decode cX12_tell 20 = .ok (.return_, 1) := by decide +kernel
theorem dX12_tellNumber_0 : decode cX12_tellNumber 0 = .ok (.iconst 1, 1) := by decide +kernel
theorem dX12_tellNumber_1 : decode cX12_tellNumber 1 = .ok (.istore_n 2, 1) := by decide +kernel
theorem dX12_tellNumber_2 : decode cX12_tellNumber 2 = .ok (.iload_n 1, 1) := by decide +kernel
theorem dX12_tellNumber_3 : decode cX12_tellNumber 3 = .ok (.iload_n 2, 1) := by decide +kernel
theorem dX12_tellNumber_4 : decode cX12_tellNumber 4 = .ok (.idiv, 1) := by decide +kernel
theorem dX12_tellNumber_5 : decode cX12_tellNumber 5 = .ok (.bipush 9, 2) := by decide +kernel
theorem dX12_tellNumber_7 : decode cX12_tellNumber 7 = .ok (.if_icmp .le 11, 3) := by decide +kernel
theorem dX12_tellNumber_18 : decode cX12_tellNumber 18 = .ok (.iload_n 2, 1) := by decide +kernel
theorem dX12_tellNumber_19 : decode cX12_tellNumber 19 = .ok (.istore_n 3, 1) := by decide +kernel
theorem dX12_tellNumber_20 : decode cX12_tellNumber 20 = .ok (.iload_n 3, 1) := by decide +kernel
theorem dX12_tellNumber_21 : decode cX12_tellNumber 21 = .ok (.ifCond .le 24, 3) := by decide +kernel
theorem dX12_tellNumber_24 : decode cX12_tellNumber 24 = .ok (.aload_n 0, 1) := by decide +kernel
theorem dX12_tellNumber_25 : decode cX12_tellNumber 25 = .ok (.bipush 48, 2) := by decide +kernel
theorem dX12_tellNumber_27 : decode cX12_tellNumber 27 = .ok (.iload_n 1, 1) := by decide +kernel
theorem dX12_tellNumber_28 : decode cX12_tellNumber 28 = .ok (.iload_n 3, 1) := by decide +kernel
theorem dX12_tellNumber_29 : decode cX12_tellNumber 29 = .ok (.idiv, 1) := by decide +kernel
theorem dX12_tellNumber_30 : decode cX12_tellNumber 30 = .ok (.bipush 10, 2) := by decide +kernel
theorem dX12_tellNumber_32 : decode cX12_tellNumber 32 = .ok (.irem, 1) := by decide +kernel
theorem dX12_tellNumber_33 : decode cX12_tellNumber 33 = .ok (.iadd, 1) := by decide +kernel
theorem dX12_tellNumber_34 : decode cX12_tellNumber 34 = .ok (.invokevirtual 518, 3) := by decide +kernel
theorem dX12_tellNumber_37 : decode cX12_tellNumber 37 = .ok (.iload_n 3, 1) := by decide +kernel
theorem dX12_tellNumber_38 : decode cX12_tellNumber 38 = .ok (.bipush 10, 2) := by decide +kernel
theorem dX12_tellNumber_40 : decode cX12_tellNumber 40 = .ok (.idiv, 1) := by decide +kernel
theorem dX12_tellNumber_41 : decode cX12_tellNumber 41 = .ok (.istore_n 3, 1) := by decide +kernel
theorem dX12_tellNumber_42 : decode cX12_tellNumber 42 = .ok (.goto (-22), 3) := by decide +kernel
theorem dX12_tellNumber_45 : decode cX12_tellNumber 45 = .ok (.return_, 1) := by decide +kernel
theorem dX12_tellNumber_10 : decode cX12_tellNumber 10 = .ok (.iload_n 2, 1) := by decide +kernel
theorem dX12_tellNumber_11 : decode cX12_tellNumber 11 = .ok (.bipush 10, 2) := by decide +kernel
theorem dX12_tellNumber_13 : decode cX12_tellNumber 13 = .ok (.imul, 1) := by decide +kernel
theorem dX12_tellNumber_14 : decode cX12_tellNumber 14 = .ok (.istore_n 2, 1) := by decide +kernel
theorem dX12_tellNumber_15 : decode cX12_tellNumber 15 = .ok (.goto (-13), 3) := by decide +kernel
