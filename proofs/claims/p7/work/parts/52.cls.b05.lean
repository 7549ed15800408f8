theorem dX10_shiftToMeetSoonest_22 : decode cX10_shiftToMeetSoonest 22 = .ok (.iconst 1, 1) := by decide +kernel
theorem dX10_shiftToMeetSoonest_23 : decode cX10_shiftToMeetSoonest 23 = .ok (.istore 4, 2) := by decide +kernel
theorem dX10_shiftToMeetSoonest_11 : decode cX10_shiftToMeetSoonest 11 = .ok (.iconst (-1), 1) := by decide +kernel
theorem dX10_shiftToMeetSoonest_12 : decode cX10_shiftToMeetSoonest 12 = .ok (.ireturn, 1) := by decide +kernel
theorem dX10_shiftToMeetSoonest_25 : decode cX10_shiftToMeetSoonest 25 = .ok (.iload 4, 2) := by decide +kernel
theorem dX10_shiftToMeetSoonest_27 : decode cX10_shiftToMeetSoonest 27 = .ok (.aload_n 0, 1) := by decide +kernel
theorem dX10_shiftToMeetSoonest_28 : decode cX10_shiftToMeetSoonest 28 = .ok (.getfield 45, 3) := by decide +kernel
theorem dX10_shiftToMeetSoonest_31 : decode cX10_shiftToMeetSoonest 31 = .ok (.if_icmp .ge 30, 3) := by decide +kernel
theorem dX10_shiftToMeetSoonest_34 : decode cX10_shiftToMeetSoonest 34 = .ok (.aload_n 0, 1) := by decide +kernel
theorem dX10_shiftToMeetSoonest_35 : decode cX10_shiftToMeetSoonest 35 = .ok (.iload_n 1, 1) := by decide +kernel
theorem dX10_shiftToMeetSoonest_36 : decode cX10_shiftToMeetSoonest 36 = .ok (.iload 4, 2) := by decide +kernel
theorem dX10_shiftToMeetSoonest_38 : decode cX10_shiftToMeetSoonest 38 = .ok (.invokevirtual 231, 3) := by decide +kernel
theorem dX10_shiftToMeetSoonest_41 : decode cX10_shiftToMeetSoonest 41 = .ok (.istore 5, 2) := by decide +kernel
theorem dX10_shiftToMeetSoonest_43 : decode cX10_shiftToMeetSoonest 43 = .ok (.iload 5, 2) := by decide +kernel
theorem dX10_shiftToMeetSoonest_45 : decode cX10_shiftToMeetSoonest 45 = .ok (.iload_n 3, 1) := by decide +kernel
theorem dX10_shiftToMeetSoonest_46 : decode cX10_shiftToMeetSoonest 46 = .ok (.if_icmp .ge 9, 3) := by decide +kernel
theorem dX10_shiftToMeetSoonest_49 : decode cX10_shiftToMeetSoonest 49 = .ok (.iload 4, 2) := by decide +kernel
theorem dX10_shiftToMeetSoonest_51 : decode cX10_shiftToMeetSoonest 51 = .ok (.istore_n 2, 1) := by decide +kernel
theorem dX10_shiftToMeetSoonest_52 : decode cX10_shiftToMeetSoonest 52 = .ok (.iload 5, 2) := by decide +kernel
theorem dX10_shiftToMeetSoonest_54 : decode cX10_shiftToMeetSoonest 54 = .ok (.istore_n 3, 1) := by decide +kernel
theorem dX10_shiftToMeetSoonest_55 : decode cX10_shiftToMeetSoonest 55 = .ok (.iinc 4 1, 3) := by decide +kernel
theorem dX10_shiftToMeetSoonest_58 : decode cX10_shiftToMeetSoonest 58 = .ok (.goto (-33), 3) := by decide +kernel
theorem dX10_shiftToMeetSoonest_61 : decode cX10_shiftToMeetSoonest 61 = .ok (.iload_n 2, 1) := by decide +kernel
theorem dX10_shiftToMeetSoonest_62 : decode cX10_shiftToMeetSoonest 62 = .ok (.ireturn, 1) := by decide +kernel
theorem dX10_hopsBetween_0 : decode cX10_hopsBetween 0 = .ok (.aload_n 0, 1) := by decide +kernel
theorem dX10_hopsBetween_1 : decode cX10_hopsBetween 1 = .ok (.invokevirtual 195, 3) := by decide +kernel
theorem dX10_hopsBetween_4 : decode cX10_hopsBetween 4 = .ok (.istore_n 3, 1) := by decide +kernel
theorem dX10_hopsBetween_5 : decode cX10_hopsBetween 5 = .ok (.iconst 1, 1) := by decide +kernel
theorem dX10_hopsBetween_6 : decode cX10_hopsBetween 6 = .ok (.iload_n 1, 1) := by decide +kernel
theorem dX10_hopsBetween_7 : decode cX10_hopsBetween 7 = .ok (.ishl, 1) := by decide +kernel
theorem dX10_hopsBetween_8 : decode cX10_hopsBetween 8 = .ok (.iload_n 3, 1) := by decide +kernel
theorem dX10_hopsBetween_9 : decode cX10_hopsBetween 9 = .ok (.iand, 1) := by decide +kernel
theorem dX10_hopsBetween_10 : decode cX10_hopsBetween 10 = .ok (.istore 4, 2) := by decide +kernel
theorem dX10_hopsBetween_12 : decode cX10_hopsBetween 12 = .ok (.iconst 0, 1) := by decide +kernel
theorem dX10_hopsBetween_13 : decode cX10_hopsBetween 13 = .ok (.istore 5, 2) := by decide +kernel
theorem dX10_hopsBetween_15 : decode cX10_hopsBetween 15 = .ok (.iload 5, 2) := by decide +kernel
theorem dX10_hopsBetween_17 : decode cX10_hopsBetween 17 = .ok (.bipush 10, 2) := by decide +kernel
theorem dX10_hopsBetween_19 : decode cX10_hopsBetween 19 = .ok (.if_icmp .ge 30, 3) := by decide +kernel
theorem dX10_hopsBetween_22 : decode cX10_hopsBetween 22 = .ok (.iload 4, 2) := by decide +kernel
theorem dX10_hopsBetween_24 : decode cX10_hopsBetween 24 = .ok (.iload_n 2, 1) := by decide +kernel
theorem dX10_hopsBetween_25 : decode cX10_hopsBetween 25 = .ok (.invokestatic 181, 3) := by decide +kernel
theorem dX10_hopsBetween_28 : decode cX10_hopsBetween 28 = .ok (.ifCond .eq 6, 3) := by decide +kernel
theorem dX10_hopsBetween_34 : decode cX10_hopsBetween 34 = .ok (.aload_n 0, 1) := by decide +kernel
theorem dX10_hopsBetween_35 : decode cX10_hopsBetween 35 = .ok (.iload 4, 2) := by decide +kernel
theorem dX10_hopsBetween_37 : decode cX10_hopsBetween 37 = .ok (.iload_n 3, 1) := by decide +kernel
theorem dX10_hopsBetween_38 : decode cX10_hopsBetween 38 = .ok (.invokevirtual 234, 3) := by decide +kernel
theorem dX10_hopsBetween_41 : decode cX10_hopsBetween 41 = .ok (.istore 4, 2) := by decide +kernel
theorem dX10_hopsBetween_43 : decode cX10_hopsBetween 43 = .ok (.iinc 5 1, 3) := by decide +kernel
theorem dX10_hopsBetween_46 : decode cX10_hopsBetween 46 = .ok (.goto (-31), 3) := by decide +kernel
theorem dX10_hopsBetween_31 : decode cX10_hopsBetween 31 = .ok (.iload 5, 2) := by decide +kernel
theorem dX10_hopsBetween_33 : decode cX10_hopsBetween 33 = .ok (.ireturn, 1) := by decide +kernel
theorem dX10_hopsBetween_49 : decode cX10_hopsBetween 49 = .ok (.iconst (-1), 1) := by decide +kernel
theorem dX10_hopsBetween_50 : decode cX10_hopsBetween 50 = .ok (.ireturn, 1) := by decide +kernel
theorem dX10_greatestHops_0 : decode cX10_greatestHops 0 = .ok (.iconst 0, 1) := by decide +kernel
theorem dX10_greatestHops_1 : decode cX10_greatestHops 1 = .ok (.istore_n 1, 1) := by decide +kernel
theorem dX10_greatestHops_2 : decode cX10_greatestHops 2 = .ok (.iconst 0, 1) := by decide +kernel
theorem dX10_greatestHops_3 : decode cX10_greatestHops 3 = .ok (.istore_n 2, 1) := by decide +kernel
theorem dX10_greatestHops_4 : decode cX10_greatestHops 4 = .ok (.iload_n 2, 1) := by decide +kernel
theorem dX10_greatestHops_5 : decode cX10_greatestHops 5 = .ok (.aload_n 0, 1) := by decide +kernel
theorem dX10_greatestHops_6 : decode cX10_greatestHops 6 = .ok (.getfield 35, 3) := by decide +kernel
theorem dX10_greatestHops_9 : decode cX10_greatestHops 9 = .ok (.if_icmp .ge 33, 3) := by decide +kernel
theorem dX10_greatestHops_42 : decode cX10_greatestHops 42 = .ok (.iload_n 1, 1) := by decide +kernel
theorem dX10_greatestHops_43 : decode cX10_greatestHops 43 = .ok (.ireturn, 1) := by decide +kernel
theorem dX10_greatestHops_12 : decode cX10_greatestHops 12 = .ok (.iconst 0, 1) := by decide +kernel
theorem dX10_greatestHops_13 : decode cX10_greatestHops 13 = .ok (.istore_n 3, 1) := by decide +kernel
theorem dX10_greatestHops_14 : decode cX10_greatestHops 14 = .ok (.iload_n 3, 1) := by decide +kernel
theorem dX10_greatestHops_15 : decode cX10_greatestHops 15 = .ok (.iload_n 2, 1) := by decide +kernel
theorem dX10_greatestHops_16 : decode cX10_greatestHops 16 = .ok (.if_icmp .ge 20, 3) := by decide +kernel
theorem dX10_greatestHops_36 : decode cX10_greatestHops 36 = .ok (.iinc 2 1, 3) := by decide +kernel
theorem dX10_greatestHops_39 : decode cX10_greatestHops 39 = .ok (.goto (-35), 3) := by decide +kernel
theorem dX10_greatestHops_19 : decode cX10_greatestHops 19 = .ok (.iload_n 1, 1) := by decide +kernel
theorem dX10_greatestHops_20 : decode cX10_greatestHops 20 = .ok (.aload_n 0, 1) := by decide +kernel
theorem dX10_greatestHops_21 : decode cX10_greatestHops 21 = .ok (.iload_n 2, 1) := by decide +kernel
theorem dX10_greatestHops_22 : decode cX10_greatestHops 22 = .ok (.iload_n 3, 1) := by decide +kernel
theorem dX10_greatestHops_23 : decode cX10_greatestHops 23 = .ok (.invokevirtual 240, 3) := by decide +kernel
theorem dX10_greatestHops_26 : decode cX10_greatestHops 26 = .ok (.invokestatic 228, 3) := by decide +kernel
theorem dX10_greatestHops_29 : decode cX10_greatestHops 29 = .ok (.istore_n 1, 1) := by decide +kernel
theorem dX10_greatestHops_30 : decode cX10_greatestHops 30 = .ok (.iinc 3 1, 3) := by decide +kernel
theorem dX10_greatestHops_33 : decode cX10_greatestHops 33 = .ok (.goto (-19), 3) := by decide +kernel
