theorem dX10_has_0 : decode cX10_has 0 = .ok (.iload_n 0, 1) := by decide +kernel
theorem dX10_has_1 : decode cX10_has 1 = .ok (.iload_n 1, 1) := by decide +kernel
theorem dX10_has_2 : decode cX10_has 2 = .ok (.ishr, 1) := by decide +kernel
theorem dX10_has_3 : decode cX10_has 3 = .ok (.iconst 1, 1) := by decide +kernel
theorem dX10_has_4 : decode cX10_has 4 = .ok (.iand, 1) := by decide +kernel
theorem dX10_has_5 : decode cX10_has 5 = .ok (.ifCond .eq 7, 3) := by decide +kernel
theorem dX10_has_12 : decode cX10_has 12 = .ok (.iconst 0, 1) := by decide +kernel
theorem dX10_has_13 : decode cX10_has 13 = .ok (.ireturn, 1) := by decide +kernel
theorem dX10_has_8 : decode cX10_has 8 = .ok (.iconst 1, 1) := by decide +kernel
theorem dX10_has_9 : decode cX10_has 9 = .ok (.goto 4, 3) := by decide +kernel
theorem dX10_hasDay_0 : decode cX10_hasDay 0 = .ok (.lload_n 0, 1) := by decide +kernel
theorem dX10_hasDay_1 : decode cX10_hasDay 1 = .ok (.iload_n 2, 1) := by decide +kernel
theorem dX10_hasDay_2 : decode cX10_hasDay 2 = .ok (.lshr, 1) := by decide +kernel
theorem dX10_hasDay_3 : decode cX10_hasDay 3 = .ok (.lconst 1, 1) := by decide +kernel
theorem dX10_hasDay_4 : decode cX10_hasDay 4 = .ok (.land, 1) := by decide +kernel
theorem dX10_hasDay_5 : decode cX10_hasDay 5 = .ok (.lconst 0, 1) := by decide +kernel
theorem dX10_hasDay_6 : decode cX10_hasDay 6 = .ok (.lcmp, 1) := by decide +kernel
theorem dX10_hasDay_7 : decode cX10_hasDay 7 = .ok (.ifCond .eq 7, 3) := by decide +kernel
theorem dX10_hasDay_14 : decode cX10_hasDay 14 = .ok (.iconst 0, 1) := by decide +kernel
theorem dX10_hasDay_15 : decode cX10_hasDay 15 = .ok (.ireturn, 1) := by decide +kernel
theorem dX10_hasDay_10 : decode cX10_hasDay 10 = .ok (.iconst 1, 1) := by decide +kernel
theorem dX10_hasDay_11 : decode cX10_hasDay 11 = .ok (.goto 4, 3) := by decide +kernel
theorem dX10_lowestOf_0 : decode cX10_lowestOf 0 = .ok (.iconst 0, 1) := by decide +kernel
theorem dX10_lowestOf_1 : decode cX10_lowestOf 1 = .ok (.istore_n 1, 1) := by decide +kernel
theorem dX10_lowestOf_2 : decode cX10_lowestOf 2 = .ok (.iload_n 1, 1) := by decide +kernel
theorem dX10_lowestOf_3 : decode cX10_lowestOf 3 = .ok (.bipush 10, 2) := by decide +kernel
theorem dX10_lowestOf_5 : decode cX10_lowestOf 5 = .ok (.if_icmp .ge 19, 3) := by decide +kernel
theorem dX10_lowestOf_24 : decode cX10_lowestOf 24 = .ok (.iconst (-1), 1) := by decide +kernel
theorem dX10_lowestOf_25 : decode cX10_lowestOf 25 = .ok (.ireturn, 1) := by decide +kernel
theorem dX10_lowestOf_8 : decode cX10_lowestOf 8 = .ok (.iload_n 0, 1) := by decide +kernel
theorem dX10_lowestOf_9 : decode cX10_lowestOf 9 = .ok (.iload_n 1, 1) := by decide +kernel
theorem dX10_lowestOf_10 : decode cX10_lowestOf 10 = .ok (.ishr, 1) := by decide +kernel
theorem dX10_lowestOf_11 : decode cX10_lowestOf 11 = .ok (.iconst 1, 1) := by decide +kernel
theorem dX10_lowestOf_12 : decode cX10_lowestOf 12 = .ok (.iand, 1) := by decide +kernel
theorem dX10_lowestOf_13 : decode cX10_lowestOf 13 = .ok (.ifCond .eq 5, 3) := by decide +kernel
theorem dX10_lowestOf_18 : decode cX10_lowestOf 18 = .ok (.iinc 1 1, 3) := by decide +kernel
theorem dX10_lowestOf_21 : decode cX10_lowestOf 21 = .ok (.goto (-19), 3) := by decide +kernel
theorem dX10_lowestOf_16 : decode cX10_lowestOf 16 = .ok (.iload_n 1, 1) := by decide +kernel
theorem dX10_lowestOf_17 : decode cX10_lowestOf 17 = .ok (.ireturn, 1) := by decide +kernel
