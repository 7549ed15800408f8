theorem dX8_fail_0 : decode cX8_fail 0 = .ok (.aload_n 0, 1) := by decide +kernel
theorem dX8_fail_1 : decode cX8_fail 1 = .ok (.iload_n 1, 1) := by decide +kernel
theorem dX8_fail_2 : decode cX8_fail 2 = .ok (.putfield 24, 3) := by decide +kernel
theorem dX8_fail_5 : decode cX8_fail 5 = .ok (.aload_n 0, 1) := by decide +kernel
theorem dX8_fail_6 : decode cX8_fail 6 = .ok (.aload_n 0, 1) := by decide +kernel
theorem dX8_fail_7 : decode cX8_fail 7 = .ok (.getfield 33, 3) := by decide +kernel
theorem dX8_fail_10 : decode cX8_fail 10 = .ok (.putfield 15, 3) := by decide +kernel
theorem dX8_fail_13 : decode cX8_fail 13 = .ok (.iconst 0, 1) := by decide +kernel
theorem dX8_fail_14 : decode cX8_fail 14 = .ok (.ireturn, 1) := by decide +kernel
theorem dX8_takeMark_0 : decode cX8_takeMark 0 = .ok (.aload_n 0, 1) := by decide +kernel
theorem dX8_takeMark_1 : decode cX8_takeMark 1 = .ok (.iload_n 1, 1) := by decide +kernel
theorem dX8_takeMark_2 : decode cX8_takeMark 2 = .ok (.invokevirtual 76, 3) := by decide +kernel
theorem dX8_takeMark_5 : decode cX8_takeMark 5 = .ok (.ifCond .ne 9, 3) := by decide +kernel
theorem dX8_takeMark_14 : decode cX8_takeMark 14 = .ok (.aload_n 0, 1) := by decide +kernel
theorem dX8_takeMark_15 : decode cX8_takeMark 15 = .ok (.invokevirtual 30, 3) := by decide +kernel
theorem dX8_takeMark_18 : decode cX8_takeMark 18 = .ok (.iconst 1, 1) := by decide +kernel
theorem dX8_takeMark_19 : decode cX8_takeMark 19 = .ok (.ireturn, 1) := by decide +kernel
theorem dX8_takeMark_8 : decode cX8_takeMark 8 = .ok (.aload_n 0, 1) := by decide +kernel
theorem dX8_takeMark_9 : decode cX8_takeMark 9 = .ok (.iconst 1, 1) := by decide +kernel
theorem dX8_takeMark_10 : decode cX8_takeMark 10 = .ok (.invokevirtual 79, 3) := by decide +kernel
theorem dX8_takeMark_13 : decode cX8_takeMark 13 = .ok (.ireturn, 1) := by decide +kernel
theorem dX7_closeRepeat_0 : decode cX7_closeRepeat 0 = .ok (.aload_n 0, 1) := by decide +kernel
theorem dX7_closeRepeat_1 : decode cX7_closeRepeat 1 = .ok (.aload_n 0, 1) := by decide +kernel
theorem dX7_closeRepeat_2 : decode cX7_closeRepeat 2 = .ok (.getfield 22, 3) := by decide +kernel
theorem dX7_closeRepeat_5 : decode cX7_closeRepeat 5 = .ok (.invokevirtual 74, 3) := by decide +kernel
theorem dX7_closeRepeat_8 : decode cX7_closeRepeat 8 = .ok (.astore_n 2, 1) := by decide +kernel
theorem dX7_closeRepeat_9 : decode cX7_closeRepeat 9 = .ok (.aload_n 2, 1) := by decide +kernel
theorem dX7_closeRepeat_10 : decode cX7_closeRepeat 10 = .ok (.aload_n 0, 1) := by decide +kernel
theorem dX7_closeRepeat_11 : decode cX7_closeRepeat 11 = .ok (.getfield 18, 3) := by decide +kernel
theorem dX7_closeRepeat_14 : decode cX7_closeRepeat 14 = .ok (.putfield 111, 3) := by decide +kernel
theorem dX7_closeRepeat_17 : decode cX7_closeRepeat 17 = .ok (.aload_n 0, 1) := by decide +kernel
theorem dX7_closeRepeat_18 : decode cX7_closeRepeat 18 = .ok (.aload_n 2, 1) := by decide +kernel
theorem dX7_closeRepeat_19 : decode cX7_closeRepeat 19 = .ok (.getfield 105, 3) := by decide +kernel
theorem dX7_closeRepeat_22 : decode cX7_closeRepeat 22 = .ok (.putfield 22, 3) := by decide +kernel
theorem dX7_closeRepeat_25 : decode cX7_closeRepeat 25 = .ok (.aload_n 0, 1) := by decide +kernel
theorem dX7_closeRepeat_26 : decode cX7_closeRepeat 26 = .ok (.dup, 1) := by decide +kernel
theorem dX7_closeRepeat_27 : decode cX7_closeRepeat 27 = .ok (.getfield 25, 3) := by decide +kernel
theorem dX7_closeRepeat_30 : decode cX7_closeRepeat 30 = .ok (.iconst 1, 1) := by decide +kernel
theorem dX7_closeRepeat_31 : decode cX7_closeRepeat 31 = .ok (.isub, 1) := by decide +kernel
theorem dX7_closeRepeat_32 : decode cX7_closeRepeat 32 = .ok (.putfield 25, 3) := by decide +kernel
theorem dX7_closeRepeat_35 : decode cX7_closeRepeat 35 = .ok (.aload_n 1, 1) := by decide +kernel
theorem dX7_closeRepeat_36 : decode cX7_closeRepeat 36 = .ok (.bipush 41, 2) := by decide +kernel
theorem dX7_closeRepeat_38 : decode cX7_closeRepeat 38 = .ok (.invokevirtual 108, 3) := by decide +kernel
theorem dX7_closeRepeat_41 : decode cX7_closeRepeat 41 = .ok (.ifCond .eq 16, 3) := by decide +kernel
theorem dX7_closeRepeat_44 : decode cX7_closeRepeat 44 = .ok (.aload_n 1, 1) := by decide +kernel
theorem dX7_closeRepeat_45 : decode cX7_closeRepeat 45 = .ok (.bipush 59, 2) := by decide +kernel
theorem dX7_closeRepeat_47 : decode cX7_closeRepeat 47 = .ok (.invokevirtual 108, 3) := by decide +kernel
theorem dX7_closeRepeat_50 : decode cX7_closeRepeat 50 = .ok (.ifCond .eq 7, 3) := by decide +kernel
theorem dX7_closeRepeat_53 : decode cX7_closeRepeat 53 = .ok (.iconst 1, 1) := by decide +kernel
theorem dX7_closeRepeat_54 : decode cX7_closeRepeat 54 = .ok (.goto 4, 3) := by decide +kernel
theorem dX7_closeRepeat_57 : decode cX7_closeRepeat 57 = .ok (.iconst 0, 1) := by decide +kernel
theorem dX7_closeRepeat_58 : decode cX7_closeRepeat 58 = .ok (.ireturn, 1) := by decide +kernel
theorem dX8_takeNumber_0 : decode cX8_takeNumber 0 = .ok (.aload_n 0, 1) := by decide +kernel
theorem dX8_takeNumber_1 : decode cX8_takeNumber 1 = .ok (.getfield 40, 3) := by decide +kernel
theorem dX8_takeNumber_4 : decode cX8_takeNumber 4 = .ok (.iconst 2, 1) := by decide +kernel
theorem dX8_takeNumber_5 : decode cX8_takeNumber 5 = .ok (.if_icmp .eq 9, 3) := by decide +kernel
theorem dX8_takeNumber_14 : decode cX8_takeNumber 14 = .ok (.aload_n 0, 1) := by decide +kernel
theorem dX8_takeNumber_15 : decode cX8_takeNumber 15 = .ok (.getfield 60, 3) := by decide +kernel
theorem dX8_takeNumber_18 : decode cX8_takeNumber 18 = .ok (.iload_n 1, 1) := by decide +kernel
theorem dX8_takeNumber_19 : decode cX8_takeNumber 19 = .ok (.if_icmp .lt 11, 3) := by decide +kernel
theorem dX8_takeNumber_30 : decode cX8_takeNumber 30 = .ok (.aload_n 0, 1) := by decide +kernel
theorem dX8_takeNumber_31 : decode cX8_takeNumber 31 = .ok (.iconst 2, 1) := by decide +kernel
theorem dX8_takeNumber_32 : decode cX8_takeNumber 32 = .ok (.invokevirtual 79, 3) := by decide +kernel
theorem dX8_takeNumber_35 : decode cX8_takeNumber 35 = .ok (.ireturn, 1) := by decide +kernel
theorem dX8_takeNumber_22 : decode cX8_takeNumber 22 = .ok (.aload_n 0, 1) := by decide +kernel
theorem dX8_takeNumber_23 : decode cX8_takeNumber 23 = .ok (.getfield 60, 3) := by decide +kernel
theorem dX8_takeNumber_26 : decode cX8_takeNumber 26 = .ok (.iload_n 2, 1) := by decide +kernel
theorem dX8_takeNumber_27 : decode cX8_takeNumber 27 = .ok (.if_icmp .le 9, 3) := by decide +kernel
theorem dX8_takeNumber_36 : decode cX8_takeNumber 36 = .ok (.aload_n 0, 1) := by decide +kernel
theorem dX8_takeNumber_37 : decode cX8_takeNumber 37 = .ok (.aload_n 0, 1) := by decide +kernel
theorem dX8_takeNumber_38 : decode cX8_takeNumber 38 = .ok (.getfield 60, 3) := by decide +kernel
theorem dX8_takeNumber_41 : decode cX8_takeNumber 41 = .ok (.putfield 86, 3) := by decide +kernel
theorem dX8_takeNumber_44 : decode cX8_takeNumber 44 = .ok (.aload_n 0, 1) := by decide +kernel
theorem dX8_takeNumber_45 : decode cX8_takeNumber 45 = .ok (.invokevirtual 30, 3) := by decide +kernel
theorem dX8_takeNumber_48 : decode cX8_takeNumber 48 = .ok (.iconst 1, 1) := by decide +kernel
theorem dX8_takeNumber_49 : decode cX8_takeNumber 49 = .ok (.ireturn, 1) := by decide +kernel
theorem dX8_takeNumber_8 : decode cX8_takeNumber 8 = .ok (.aload_n 0, 1) := by decide +kernel
theorem dX8_takeNumber_9 : decode cX8_takeNumber 9 = .ok (.iconst 1, 1) := by decide +kernel
theorem dX8_takeNumber_10 : decode cX8_takeNumber 10 = .ok (.invokevirtual 79, 3) := by decide +kernel
theorem dX8_takeNumber_13 : decode cX8_takeNumber 13 = .ok (.ireturn, 1) := by decide +kernel
theorem dX7_openRepeat_0 : decode cX7_openRepeat 0 = .ok (.aload_n 1, 1) := by decide +kernel
theorem dX7_openRepeat_1 : decode cX7_openRepeat 1 = .ok (.iconst 1, 1) := by decide +kernel
theorem dX7_openRepeat_2 : decode cX7_openRepeat 2 = .ok (.bipush 20, 2) := by decide +kernel
theorem dX7_openRepeat_4 : decode cX7_openRepeat 4 = .ok (.invokevirtual 95, 3) := by decide +kernel
theorem dX7_openRepeat_7 : decode cX7_openRepeat 7 = .ok (.ifCond .ne 5, 3) := by decide +kernel
theorem dX7_openRepeat_12 : decode cX7_openRepeat 12 = .ok (.aload_n 2, 1) := by decide +kernel
theorem dX7_openRepeat_13 : decode cX7_openRepeat 13 = .ok (.aload_n 1, 1) := by decide +kernel
theorem dX7_openRepeat_14 : decode cX7_openRepeat 14 = .ok (.getfield 99, 3) := by decide +kernel
theorem dX7_openRepeat_17 : decode cX7_openRepeat 17 = .ok (.putfield 102, 3) := by decide +kernel
theorem dX7_openRepeat_20 : decode cX7_openRepeat 20 = .ok (.aload_n 2, 1) := by decide +kernel
theorem dX7_openRepeat_21 : decode cX7_openRepeat 21 = .ok (.aload_n 0, 1) := by decide +kernel
theorem dX7_openRepeat_22 : decode cX7_openRepeat 22 = .ok (.getfield 22, 3) := by decide +kernel
theorem dX7_openRepeat_25 : decode cX7_openRepeat 25 = .ok (.putfield 105, 3) := by decide +kernel
theorem dX7_openRepeat_28 : decode cX7_openRepeat 28 = .ok (.aload_n 0, 1) := by decide +kernel
theorem dX7_openRepeat_29 : decode cX7_openRepeat 29 = .ok (.aload_n 0, 1) := by decide +kernel
theorem dX7_openRepeat_30 : decode cX7_openRepeat 30 = .ok (.getfield 18, 3) := by decide +kernel
theorem dX7_openRepeat_33 : decode cX7_openRepeat 33 = .ok (.iconst 1, 1) := by decide +kernel
theorem dX7_openRepeat_34 : decode cX7_openRepeat 34 = .ok (.isub, 1) := by decide +kernel
theorem dX7_openRepeat_35 : decode cX7_openRepeat 35 = .ok (.putfield 22, 3) := by decide +kernel
theorem dX7_openRepeat_38 : decode cX7_openRepeat 38 = .ok (.aload_n 0, 1) := by decide +kernel
theorem dX7_openRepeat_39 : decode cX7_openRepeat 39 = .ok (.dup, 1) := by decide +kernel
theorem dX7_openRepeat_40 : decode cX7_openRepeat 40 = .ok (.getfield 25, 3) := by decide +kernel
theorem dX7_openRepeat_43 : decode cX7_openRepeat 43 = .ok (.iconst 1, 1) := by decide +kernel
theorem dX7_openRepeat_44 : decode cX7_openRepeat 44 = .ok (.iadd, 1) := by decide +kernel
theorem dX7_openRepeat_45 : decode cX7_openRepeat 45 = .ok (.putfield 25, 3) := by decide +kernel
theorem dX7_openRepeat_48 : decode cX7_openRepeat 48 = .ok (.aload_n 1, 1) := by decide +kernel
theorem dX7_openRepeat_49 : decode cX7_openRepeat 49 = .ok (.bipush 40, 2) := by decide +kernel
theorem dX7_openRepeat_51 : decode cX7_openRepeat 51 = .ok (.invokevirtual 108, 3) := by decide +kernel
theorem dX7_openRepeat_54 : decode cX7_openRepeat 54 = .ok (.ireturn, 1) := by decide +kernel
theorem dX7_openRepeat_10 : decode cX7_openRepeat 10 = .ok (.iconst 0, 1) := by decide +kernel
theorem dX7_openRepeat_11 : decode cX7_openRepeat 11 = .ok (.ireturn, 1) := by decide +kernel
theorem dX8_expectName_0 : decode cX8_expectName 0 = .ok (.aload_n 0, 1) := by decide +kernel
theorem dX8_expectName_1 : decode cX8_expectName 1 = .ok (.getfield 40, 3) := by decide +kernel
theorem dX8_expectName_4 : decode cX8_expectName 4 = .ok (.iconst 1, 1) := by decide +kernel
theorem dX8_expectName_5 : decode cX8_expectName 5 = .ok (.if_icmp .eq 11, 3) := by decide +kernel
theorem dX8_expectName_8 : decode cX8_expectName 8 = .ok (.aload_n 0, 1) := by decide +kernel
theorem dX8_expectName_9 : decode cX8_expectName 9 = .ok (.iconst 1, 1) := by decide +kernel
theorem dX8_expectName_10 : decode cX8_expectName 10 = .ok (.invokevirtual 79, 3) := by decide +kernel
theorem dX8_expectName_13 : decode cX8_expectName 13 = .ok (.ifCond .eq 7, 3) := by decide +kernel
theorem dX8_expectName_20 : decode cX8_expectName 20 = .ok (.iconst 0, 1) := by decide +kernel
theorem dX8_expectName_16 : decode cX8_expectName 16 = .ok (.iconst 1, 1) := by decide +kernel
theorem dX8_expectName_17 : decode cX8_expectName 17 = .ok (.goto 4, 3) := by decide +kernel
theorem dX8_expectName_21 : decode cX8_expectName 21 = .ok (.ireturn, 1) := by decide +kernel
theorem dX10_numberOf_0 : decode cX10_numberOf 0 = .ok (.iconst 0, 1) := by decide +kernel
theorem dX10_numberOf_1 : decode cX10_numberOf 1 = .ok (.istore_n 3, 1) := by decide +kernel
theorem dX10_numberOf_2 : decode cX10_numberOf 2 = .ok (.iload_n 3, 1) := by decide +kernel
theorem dX10_numberOf_3 : decode cX10_numberOf 3 = .ok (.aload_n 0, 1) := by decide +kernel
theorem dX10_numberOf_4 : decode cX10_numberOf 4 = .ok (.getfield 35, 3) := by decide +kernel
theorem dX10_numberOf_7 : decode cX10_numberOf 7 = .ok (.if_icmp .ge 24, 3) := by decide +kernel
theorem dX10_numberOf_31 : decode cX10_numberOf 31 = .ok (.iconst (-1), 1) := by decide +kernel
theorem dX10_numberOf_32 : decode cX10_numberOf 32 = .ok (.ireturn, 1) := by decide +kernel
theorem dX10_numberOf_10 : decode cX10_numberOf 10 = .ok (.aload_n 0, 1) := by decide +kernel
theorem dX10_numberOf_11 : decode cX10_numberOf 11 = .ok (.iload_n 3, 1) := by decide +kernel
theorem dX10_numberOf_12 : decode cX10_numberOf 12 = .ok (.invokevirtual 66, 3) := by decide +kernel
theorem dX10_numberOf_15 : decode cX10_numberOf 15 = .ok (.getfield 88, 3) := by decide +kernel
theorem dX10_numberOf_18 : decode cX10_numberOf 18 = .ok (.lload_n 1, 1) := by decide +kernel
theorem dX10_numberOf_19 : decode cX10_numberOf 19 = .ok (.lcmp, 1) := by decide +kernel
theorem dX10_numberOf_20 : decode cX10_numberOf 20 = .ok (.ifCond .ne 5, 3) := by decide +kernel
theorem dX10_numberOf_25 : decode cX10_numberOf 25 = .ok (.iinc 3 1, 3) := by decide +kernel
theorem dX10_numberOf_28 : decode cX10_numberOf 28 = .ok (.goto (-26), 3) := by decide +kernel
theorem dX10_numberOf_23 : decode cX10_numberOf 23 = .ok (.iload_n 3, 1) := by decide +kernel
theorem dX10_numberOf_24 : decode cX10_numberOf 24 = .ok (.ireturn, 1) := by decide +kernel
theorem dX8_expectNode_0 : decode cX8_expectNode 0 = .ok (.aload_n 0, 1) := by decide +kernel
theorem dX8_expectNode_1 : decode cX8_expectNode 1 = .ok (.invokevirtual 89, 3) := by decide +kernel
theorem dX8_expectNode_4 : decode cX8_expectNode 4 = .ok (.ifCond .ne 5, 3) := by decide +kernel
theorem dX8_expectNode_9 : decode cX8_expectNode 9 = .ok (.aload_n 1, 1) := by decide +kernel
theorem dX8_expectNode_10 : decode cX8_expectNode 10 = .ok (.aload_n 0, 1) := by decide +kernel
theorem dX8_expectNode_11 : decode cX8_expectNode 11 = .ok (.getfield 56, 3) := by decide +kernel
theorem dX8_expectNode_14 : decode cX8_expectNode 14 = .ok (.invokevirtual 93, 3) := by decide +kernel
theorem dX8_expectNode_17 : decode cX8_expectNode 17 = .ok (.istore_n 2, 1) := by decide +kernel
theorem dX8_expectNode_18 : decode cX8_expectNode 18 = .ok (.iload_n 2, 1) := by decide +kernel
theorem dX8_expectNode_19 : decode cX8_expectNode 19 = .ok (.iconst (-1), 1) := by decide +kernel
theorem dX8_expectNode_20 : decode cX8_expectNode 20 = .ok (.if_icmp .ne 9, 3) := by decide +kernel
theorem dX8_expectNode_23 : decode cX8_expectNode 23 = .ok (.aload_n 0, 1) := by decide +kernel
theorem dX8_expectNode_24 : decode cX8_expectNode 24 = .ok (.iconst 4, 1) := by decide +kernel
theorem dX8_expectNode_25 : decode cX8_expectNode 25 = .ok (.invokevirtual 79, 3) := by decide +kernel
theorem dX8_expectNode_28 : decode cX8_expectNode 28 = .ok (.pop, 1) := by decide +kernel
theorem dX8_expectNode_7 : decode cX8_expectNode 7 = .ok (.iconst (-1), 1) := by decide +kernel
theorem dX8_expectNode_8 : decode cX8_expectNode 8 = .ok (.ireturn, 1) := by decide +kernel
theorem dX8_expectNode_29 : decode cX8_expectNode 29 = .ok (.iload_n 2, 1) := by decide +kernel
theorem dX8_expectNode_30 : decode cX8_expectNode 30 = .ok (.ireturn, 1) := by decide +kernel
theorem dX7_readNames_0 : decode cX7_readNames 0 = .ok (.aload_n 3, 1) := by decide +kernel
theorem dX7_readNames_1 : decode cX7_readNames 1 = .ok (.getfield 78, 3) := by decide +kernel
theorem dX7_readNames_4 : decode cX7_readNames 4 = .ok (.ifCond .eq 26, 3) := by decide +kernel
theorem dX7_readNames_7 : decode cX7_readNames 7 = .ok (.aload_n 3, 1) := by decide +kernel
theorem dX7_readNames_8 : decode cX7_readNames 8 = .ok (.aload_n 1, 1) := by decide +kernel
theorem dX7_readNames_9 : decode cX7_readNames 9 = .ok (.aload_n 2, 1) := by decide +kernel
theorem dX7_readNames_10 : decode cX7_readNames 10 = .ok (.invokevirtual 114, 3) := by decide +kernel
theorem dX7_readNames_13 : decode cX7_readNames 13 = .ok (.putfield 118, 3) := by decide +kernel
theorem dX7_readNames_16 : decode cX7_readNames 16 = .ok (.aload_n 3, 1) := by decide +kernel
theorem dX7_readNames_17 : decode cX7_readNames 17 = .ok (.getfield 118, 3) := by decide +kernel
theorem dX7_readNames_20 : decode cX7_readNames 20 = .ok (.iconst (-1), 1) := by decide +kernel
theorem dX7_readNames_21 : decode cX7_readNames 21 = .ok (.if_icmp .ne 5, 3) := by decide +kernel
theorem dX7_readNames_26 : decode cX7_readNames 26 = .ok (.aload_n 1, 1) := by decide +kernel
theorem dX7_readNames_27 : decode cX7_readNames 27 = .ok (.invokevirtual 81, 3) := by decide +kernel
theorem dX7_readNames_24 : decode cX7_readNames 24 = .ok (.iconst 0, 1) := by decide +kernel
theorem dX7_readNames_25 : decode cX7_readNames 25 = .ok (.ireturn, 1) := by decide +kernel
theorem dX7_readNames_30 : decode cX7_readNames 30 = .ok (.aload_n 3, 1) := by decide +kernel
theorem dX7_readNames_31 : decode cX7_readNames 31 = .ok (.getfield 78, 3) := by decide +kernel
theorem dX7_readNames_34 : decode cX7_readNames 34 = .ok (.iconst 1, 1) := by decide +kernel
theorem dX7_readNames_35 : decode cX7_readNames 35 = .ok (.if_icmp .eq 11, 3) := by decide +kernel
theorem dX7_readNames_38 : decode cX7_readNames 38 = .ok (.aload_n 3, 1) := by decide +kernel
theorem dX7_readNames_39 : decode cX7_readNames 39 = .ok (.getfield 78, 3) := by decide +kernel
theorem dX7_readNames_42 : decode cX7_readNames 42 = .ok (.iconst 2, 1) := by decide +kernel
theorem dX7_readNames_43 : decode cX7_readNames 43 = .ok (.if_icmp .ne 26, 3) := by decide +kernel
theorem dX7_readNames_46 : decode cX7_readNames 46 = .ok (.aload_n 3, 1) := by decide +kernel
theorem dX7_readNames_47 : decode cX7_readNames 47 = .ok (.aload_n 1, 1) := by decide +kernel
theorem dX7_readNames_48 : decode cX7_readNames 48 = .ok (.aload_n 2, 1) := by decide +kernel
theorem dX7_readNames_49 : decode cX7_readNames 49 = .ok (.invokevirtual 114, 3) := by decide +kernel
theorem dX7_readNames_52 : decode cX7_readNames 52 = .ok (.putfield 121, 3) := by decide +kernel
theorem dX7_readNames_55 : decode cX7_readNames 55 = .ok (.aload_n 3, 1) := by decide +kernel
theorem dX7_readNames_56 : decode cX7_readNames 56 = .ok (.getfield 121, 3) := by decide +kernel
theorem dX7_readNames_59 : decode cX7_readNames 59 = .ok (.iconst (-1), 1) := by decide +kernel
theorem dX7_readNames_60 : decode cX7_readNames 60 = .ok (.if_icmp .ne 5, 3) := by decide +kernel
theorem dX7_readNames_65 : decode cX7_readNames 65 = .ok (.aload_n 1, 1) := by decide +kernel
theorem dX7_readNames_66 : decode cX7_readNames 66 = .ok (.invokevirtual 81, 3) := by decide +kernel
theorem dX7_readNames_63 : decode cX7_readNames 63 = .ok (.iconst 0, 1) := by decide +kernel
theorem dX7_readNames_64 : decode cX7_readNames 64 = .ok (.ireturn, 1) := by decide +kernel
theorem dX7_readNames_69 : decode cX7_readNames 69 = .ok (.iconst 1, 1) := by decide +kernel
theorem dX7_readNames_70 : decode cX7_readNames 70 = .ok (.ireturn, 1) := by decide +kernel
theorem dX7_readNumber_0 : decode cX7_readNumber 0 = .ok (.aload_n 1, 1) := by decide +kernel
theorem dX7_readNumber_1 : decode cX7_readNumber 1 = .ok (.iconst 0, 1) := by decide +kernel
theorem dX7_readNumber_2 : decode cX7_readNumber 2 = .ok (.sipush 999, 3) := by decide +kernel
theorem dX7_readNumber_5 : decode cX7_readNumber 5 = .ok (.invokevirtual 95, 3) := by decide +kernel
theorem dX7_readNumber_8 : decode cX7_readNumber 8 = .ok (.ifCond .ne 5, 3) := by decide +kernel
theorem dX7_readNumber_13 : decode cX7_readNumber 13 = .ok (.aload_n 2, 1) := by decide +kernel
theorem dX7_readNumber_14 : decode cX7_readNumber 14 = .ok (.aload_n 1, 1) := by decide +kernel
theorem dX7_readNumber_15 : decode cX7_readNumber 15 = .ok (.getfield 99, 3) := by decide +kernel
theorem dX7_readNumber_18 : decode cX7_readNumber 18 = .ok (.putfield 102, 3) := by decide +kernel
theorem dX7_readNumber_21 : decode cX7_readNumber 21 = .ok (.aload_n 1, 1) := by decide +kernel
theorem dX7_readNumber_22 : decode cX7_readNumber 22 = .ok (.bipush 59, 2) := by decide +kernel
theorem dX7_readNumber_24 : decode cX7_readNumber 24 = .ok (.invokevirtual 108, 3) := by decide +kernel
theorem dX7_readNumber_27 : decode cX7_readNumber 27 = .ok (.ireturn, 1) := by decide +kernel
theorem dX7_readNumber_11 : decode cX7_readNumber 11 = .ok (.iconst 0, 1) := by decide +kernel
theorem dX7_readNumber_12 : decode cX7_readNumber 12 = .ok (.ireturn, 1) := by decide +kernel
theorem dX7_endRound_0 : decode cX7_endRound 0 = .ok (.aload_n 0, 1) := by decide +kernel
theorem dX7_endRound_1 : decode cX7_endRound 1 = .ok (.aload_n 0, 1) := by decide +kernel
theorem dX7_endRound_2 : decode cX7_endRound 2 = .ok (.getfield 22, 3) := by decide +kernel
theorem dX7_endRound_5 : decode cX7_endRound 5 = .ok (.invokevirtual 74, 3) := by decide +kernel
theorem dX7_endRound_8 : decode cX7_endRound 8 = .ok (.astore_n 2, 1) := by decide +kernel
theorem dX7_endRound_9 : decode cX7_endRound 9 = .ok (.aload_n 2, 1) := by decide +kernel
theorem dX7_endRound_10 : decode cX7_endRound 10 = .ok (.dup, 1) := by decide +kernel
theorem dX7_endRound_11 : decode cX7_endRound 11 = .ok (.getfield 132, 3) := by decide +kernel
theorem dX7_endRound_14 : decode cX7_endRound 14 = .ok (.iconst 1, 1) := by decide +kernel
theorem dX7_endRound_15 : decode cX7_endRound 15 = .ok (.isub, 1) := by decide +kernel
theorem dX7_endRound_16 : decode cX7_endRound 16 = .ok (.putfield 132, 3) := by decide +kernel
theorem dX7_endRound_19 : decode cX7_endRound 19 = .ok (.aload_n 2, 1) := by decide +kernel
theorem dX7_endRound_20 : decode cX7_endRound 20 = .ok (.getfield 132, 3) := by decide +kernel
theorem dX7_endRound_23 : decode cX7_endRound 23 = .ok (.ifCond .le 10, 3) := by decide +kernel
theorem dX7_endRound_33 : decode cX7_endRound 33 = .ok (.aload_n 0, 1) := by decide +kernel
theorem dX7_endRound_34 : decode cX7_endRound 34 = .ok (.aload_n 2, 1) := by decide +kernel
theorem dX7_endRound_35 : decode cX7_endRound 35 = .ok (.getfield 105, 3) := by decide +kernel
theorem dX7_endRound_38 : decode cX7_endRound 38 = .ok (.putfield 22, 3) := by decide +kernel
theorem dX7_endRound_41 : decode cX7_endRound 41 = .ok (.iload_n 1, 1) := by decide +kernel
theorem dX7_endRound_42 : decode cX7_endRound 42 = .ok (.ireturn, 1) := by decide +kernel
theorem dX7_endRound_26 : decode cX7_endRound 26 = .ok (.aload_n 0, 1) := by decide +kernel
theorem dX7_endRound_27 : decode cX7_endRound 27 = .ok (.getfield 22, 3) := by decide +kernel
theorem dX7_endRound_30 : decode cX7_endRound 30 = .ok (.iconst 1, 1) := by decide +kernel
theorem dX7_endRound_31 : decode cX7_endRound 31 = .ok (.iadd, 1) := by decide +kernel
theorem dX7_endRound_32 : decode cX7_endRound 32 = .ok (.ireturn, 1) := by decide +kernel
theorem dX10_isTickCount_0 : decode cX10_isTickCount 0 = .ok (.iload_n 0, 1) := by decide +kernel
theorem dX10_isTickCount_1 : decode cX10_isTickCount 1 = .ok (.iconst 1, 1) := by decide +kernel
theorem dX10_isTickCount_2 : decode cX10_isTickCount 2 = .ok (.if_icmp .lt 13, 3) := by decide +kernel
theorem dX10_isTickCount_5 : decode cX10_isTickCount 5 = .ok (.iload_n 0, 1) := by decide +kernel
theorem dX10_isTickCount_6 : decode cX10_isTickCount 6 = .ok (.bipush 99, 2) := by decide +kernel
theorem dX10_isTickCount_8 : decode cX10_isTickCount 8 = .ok (.if_icmp .gt 7, 3) := by decide +kernel
theorem dX10_isTickCount_11 : decode cX10_isTickCount 11 = .ok (.iconst 1, 1) := by decide +kernel
theorem dX10_isTickCount_12 : decode cX10_isTickCount 12 = .ok (.goto 4, 3) := by decide +kernel
theorem dX10_isTickCount_15 : decode cX10_isTickCount 15 = .ok (.iconst 0, 1) := by decide +kernel
theorem dX10_isTickCount_16 : decode cX10_isTickCount 16 = .ok (.ireturn, 1) := by decide +kernel
theorem dX10_hasTimeFor_0 : decode cX10_hasTimeFor 0 = .ok (.aload_n 0, 1) := by decide +kernel
theorem dX10_hasTimeFor_1 : decode cX10_hasTimeFor 1 = .ok (.getfield 60, 3) := by decide +kernel
theorem dX10_hasTimeFor_4 : decode cX10_hasTimeFor 4 = .ok (.iload_n 1, 1) := by decide +kernel
theorem dX10_hasTimeFor_5 : decode cX10_hasTimeFor 5 = .ok (.iadd, 1) := by decide +kernel
theorem dX10_hasTimeFor_6 : decode cX10_hasTimeFor 6 = .ok (.sipush 9999, 3) := by decide +kernel
theorem dX10_hasTimeFor_9 : decode cX10_hasTimeFor 9 = .ok (.if_icmp .gt 7, 3) := by decide +kernel
theorem dX10_hasTimeFor_16 : decode cX10_hasTimeFor 16 = .ok (.iconst 0, 1) := by decide +kernel
theorem dX10_hasTimeFor_12 : decode cX10_hasTimeFor 12 = .ok (.iconst 1, 1) := by decide +kernel
theorem dX10_hasTimeFor_13 : decode cX10_hasTimeFor 13 = .ok (.goto 4, 3) := by decide +kernel
theorem dX10_hasTimeFor_17 : decode cX10_hasTimeFor 17 = .ok (.ireturn, 1) := by decide +kernel
theorem dX10_isSending_0 : decode cX10_isSending 0 = .ok (.iload_n 0, 1) := by decide +kernel
theorem dX10_isSending_1 : decode cX10_isSending 1 = .ok (.iload_n 1, 1) := by decide +kernel
theorem dX10_isSending_2 : decode cX10_isSending 2 = .ok (.if_icmp .eq 19, 3) := by decide +kernel
theorem dX10_isSending_5 : decode cX10_isSending 5 = .ok (.iload_n 2, 1) := by decide +kernel
theorem dX10_isSending_6 : decode cX10_isSending 6 = .ok (.iconst 1, 1) := by decide +kernel
theorem dX10_isSending_7 : decode cX10_isSending 7 = .ok (.if_icmp .lt 14, 3) := by decide +kernel
theorem dX10_isSending_10 : decode cX10_isSending 10 = .ok (.iload_n 2, 1) := by decide +kernel
theorem dX10_isSending_11 : decode cX10_isSending 11 = .ok (.sipush 999, 3) := by decide +kernel
theorem dX10_isSending_14 : decode cX10_isSending 14 = .ok (.if_icmp .gt 7, 3) := by decide +kernel
theorem dX10_isSending_17 : decode cX10_isSending 17 = .ok (.iconst 1, 1) := by decide +kernel
theorem dX10_isSending_18 : decode cX10_isSending 18 = .ok (.goto 4, 3) := by decide +kernel
theorem dX10_isSending_21 : decode cX10_isSending 21 = .ok (.iconst 0, 1) := by decide +kernel
theorem dX10_isSending_22 : decode cX10_isSending 22 = .ok (.ireturn, 1) := by decide +kernel
theorem dX10_canSend_0 : decode cX10_canSend 0 = .ok (.aload_n 0, 1) := by decide +kernel
theorem dX10_canSend_1 : decode cX10_canSend 1 = .ok (.iload_n 1, 1) := by decide +kernel
theorem dX10_canSend_2 : decode cX10_canSend 2 = .ok (.invokevirtual 160, 3) := by decide +kernel
theorem dX10_canSend_5 : decode cX10_canSend 5 = .ok (.ifCond .ne 24, 3) := by decide +kernel
theorem dX10_canSend_8 : decode cX10_canSend 8 = .ok (.aload_n 0, 1) := by decide +kernel
theorem dX10_canSend_9 : decode cX10_canSend 9 = .ok (.iload_n 2, 1) := by decide +kernel
theorem dX10_canSend_10 : decode cX10_canSend 10 = .ok (.invokevirtual 160, 3) := by decide +kernel
theorem dX10_canSend_13 : decode cX10_canSend 13 = .ok (.ifCond .ne 16, 3) := by decide +kernel
theorem dX10_canSend_16 : decode cX10_canSend 16 = .ok (.aload_n 0, 1) := by decide +kernel
theorem dX10_canSend_17 : decode cX10_canSend 17 = .ok (.getfield 42, 3) := by decide +kernel
theorem dX10_canSend_20 : decode cX10_canSend 20 = .ok (.bipush 60, 2) := by decide +kernel
theorem dX10_canSend_22 : decode cX10_canSend 22 = .ok (.if_icmp .ge 7, 3) := by decide +kernel
theorem dX10_canSend_25 : decode cX10_canSend 25 = .ok (.iconst 1, 1) := by decide +kernel
theorem dX10_canSend_26 : decode cX10_canSend 26 = .ok (.goto 4, 3) := by decide +kernel
theorem dX10_canSend_29 : decode cX10_canSend 29 = .ok (.iconst 0, 1) := by decide +kernel
theorem dX10_canSend_30 : decode cX10_canSend 30 = .ok (.ireturn, 1) := by decide +kernel
theorem dX7_performSend_0 : decode cX7_performSend 0 = .ok (.aload_n 0, 1) := by decide +kernel
theorem dX7_performSend_1 : decode cX7_performSend 1 = .ok (.getfield 118, 3) := by decide +kernel
theorem dX7_performSend_4 : decode cX7_performSend 4 = .ok (.aload_n 0, 1) := by decide +kernel
theorem dX7_performSend_5 : decode cX7_performSend 5 = .ok (.getfield 121, 3) := by decide +kernel
theorem dX7_performSend_8 : decode cX7_performSend 8 = .ok (.aload_n 0, 1) := by decide +kernel
theorem dX7_performSend_9 : decode cX7_performSend 9 = .ok (.getfield 102, 3) := by decide +kernel
theorem dX7_performSend_12 : decode cX7_performSend 12 = .ok (.invokestatic 163, 3) := by decide +kernel
theorem dX7_performSend_15 : decode cX7_performSend 15 = .ok (.ifCond .eq 18, 3) := by decide +kernel
theorem dX7_performSend_18 : decode cX7_performSend 18 = .ok (.aload_n 1, 1) := by decide +kernel
theorem dX7_performSend_19 : decode cX7_performSend 19 = .ok (.aload_n 0, 1) := by decide +kernel
theorem dX7_performSend_20 : decode cX7_performSend 20 = .ok (.getfield 118, 3) := by decide +kernel
theorem dX7_performSend_23 : decode cX7_performSend 23 = .ok (.aload_n 0, 1) := by decide +kernel
theorem dX7_performSend_24 : decode cX7_performSend 24 = .ok (.getfield 121, 3) := by decide +kernel
theorem dX7_performSend_27 : decode cX7_performSend 27 = .ok (.invokevirtual 167, 3) := by decide +kernel
theorem dX7_performSend_30 : decode cX7_performSend 30 = .ok (.ifCond .ne 5, 3) := by decide +kernel
theorem dX7_performSend_35 : decode cX7_performSend 35 = .ok (.aload_n 1, 1) := by decide +kernel
theorem dX7_performSend_36 : decode cX7_performSend 36 = .ok (.aload_n 0, 1) := by decide +kernel
theorem dX7_performSend_37 : decode cX7_performSend 37 = .ok (.getfield 118, 3) := by decide +kernel
theorem dX7_performSend_40 : decode cX7_performSend 40 = .ok (.aload_n 0, 1) := by decide +kernel
theorem dX7_performSend_41 : decode cX7_performSend 41 = .ok (.getfield 121, 3) := by decide +kernel
theorem dX7_performSend_44 : decode cX7_performSend 44 = .ok (.aload_n 0, 1) := by decide +kernel
theorem dX7_performSend_45 : decode cX7_performSend 45 = .ok (.getfield 102, 3) := by decide +kernel
theorem dX7_performSend_48 : decode cX7_performSend 48 = .ok (.iload_n 2, 1) := by decide +kernel
theorem dX7_performSend_49 : decode cX7_performSend 49 = .ok (.invokevirtual 170, 3) := by decide +kernel
theorem dX7_performSend_52 : decode cX7_performSend 52 = .ok (.pop, 1) := by decide +kernel
theorem dX7_performSend_53 : decode cX7_performSend 53 = .ok (.iconst 1, 1) := by decide +kernel
theorem dX7_performSend_54 : decode cX7_performSend 54 = .ok (.ireturn, 1) := by decide +kernel
theorem dX7_performSend_33 : decode cX7_performSend 33 = .ok (.iconst 0, 1) := by decide +kernel
theorem dX7_performSend_34 : decode cX7_performSend 34 = .ok (.ireturn, 1) := by decide +kernel
theorem dX10_isDay_0 : decode cX10_isDay 0 = .ok (.iload_n 1, 1) := by decide +kernel
theorem dX10_isDay_1 : decode cX10_isDay 1 = .ok (.ifCond .lt 15, 3) := by decide +kernel
theorem dX10_isDay_4 : decode cX10_isDay 4 = .ok (.iload_n 1, 1) := by decide +kernel
theorem dX10_isDay_5 : decode cX10_isDay 5 = .ok (.aload_n 0, 1) := by decide +kernel
theorem dX10_isDay_6 : decode cX10_isDay 6 = .ok (.getfield 45, 3) := by decide +kernel
theorem dX10_isDay_9 : decode cX10_isDay 9 = .ok (.if_icmp .ge 7, 3) := by decide +kernel
theorem dX10_isDay_12 : decode cX10_isDay 12 = .ok (.iconst 1, 1) := by decide +kernel
theorem dX10_isDay_13 : decode cX10_isDay 13 = .ok (.goto 4, 3) := by decide +kernel
theorem dX10_isDay_16 : decode cX10_isDay 16 = .ok (.iconst 0, 1) := by decide +kernel
theorem dX10_isDay_17 : decode cX10_isDay 17 = .ok (.ireturn, 1) := by decide +kernel
theorem dX7_performShift_0 : decode cX7_performShift 0 = .ok (.aload_n 1, 1) := by decide +kernel
theorem dX7_performShift_1 : decode cX7_performShift 1 = .ok (.aload_n 0, 1) := by decide +kernel
theorem dX7_performShift_2 : decode cX7_performShift 2 = .ok (.getfield 102, 3) := by decide +kernel
theorem dX7_performShift_5 : decode cX7_performShift 5 = .ok (.invokevirtual 174, 3) := by decide +kernel
theorem dX7_performShift_8 : decode cX7_performShift 8 = .ok (.ifCond .ne 5, 3) := by decide +kernel
theorem dX7_performShift_13 : decode cX7_performShift 13 = .ok (.aload_n 1, 1) := by decide +kernel
theorem dX7_performShift_14 : decode cX7_performShift 14 = .ok (.aload_n 0, 1) := by decide +kernel
theorem dX7_performShift_15 : decode cX7_performShift 15 = .ok (.getfield 118, 3) := by decide +kernel
theorem dX7_performShift_18 : decode cX7_performShift 18 = .ok (.invokevirtual 177, 3) := by decide +kernel
theorem dX7_performShift_21 : decode cX7_performShift 21 = .ok (.aload_n 0, 1) := by decide +kernel
theorem dX7_performShift_22 : decode cX7_performShift 22 = .ok (.getfield 102, 3) := by decide +kernel
theorem dX7_performShift_25 : decode cX7_performShift 25 = .ok (.putfield 181, 3) := by decide +kernel
theorem dX7_performShift_28 : decode cX7_performShift 28 = .ok (.iconst 1, 1) := by decide +kernel
theorem dX7_performShift_29 : decode cX7_performShift 29 = .ok (.ireturn, 1) := by decide +kernel
theorem dX7_performShift_11 : decode cX7_performShift 11 = .ok (.iconst 0, 1) := by decide +kernel
theorem dX7_performShift_12 : decode cX7_performShift 12 = .ok (.ireturn, 1) := by decide +kernel
theorem dX10_isWatched_0 : decode cX10_isWatched 0 = .ok (.aload_n 0, 1) := by decide +kernel
theorem dX10_isWatched_1 : decode cX10_isWatched 1 = .ok (.iload_n 1, 1) := by decide +kernel
theorem dX10_isWatched_2 : decode cX10_isWatched 2 = .ok (.invokevirtual 66, 3) := by decide +kernel
theorem dX10_isWatched_5 : decode cX10_isWatched 5 = .ok (.getfield 92, 3) := by decide +kernel
theorem dX10_isWatched_8 : decode cX10_isWatched 8 = .ok (.iload_n 2, 1) := by decide +kernel
theorem dX10_isWatched_9 : decode cX10_isWatched 9 = .ok (.invokestatic 170, 3) := by decide +kernel
theorem dX10_isWatched_12 : decode cX10_isWatched 12 = .ok (.ireturn, 1) := by decide +kernel
theorem dX7_performWatch_0 : decode cX7_performWatch 0 = .ok (.aload_n 1, 1) := by decide +kernel
theorem dX7_performWatch_1 : decode cX7_performWatch 1 = .ok (.aload_n 0, 1) := by decide +kernel
theorem dX7_performWatch_2 : decode cX7_performWatch 2 = .ok (.getfield 102, 3) := by decide +kernel
theorem dX7_performWatch_5 : decode cX7_performWatch 5 = .ok (.invokevirtual 174, 3) := by decide +kernel
theorem dX7_performWatch_8 : decode cX7_performWatch 8 = .ok (.ifCond .eq 18, 3) := by decide +kernel
theorem dX7_performWatch_11 : decode cX7_performWatch 11 = .ok (.aload_n 1, 1) := by decide +kernel
theorem dX7_performWatch_12 : decode cX7_performWatch 12 = .ok (.aload_n 0, 1) := by decide +kernel
theorem dX7_performWatch_13 : decode cX7_performWatch 13 = .ok (.getfield 118, 3) := by decide +kernel
theorem dX7_performWatch_16 : decode cX7_performWatch 16 = .ok (.aload_n 0, 1) := by decide +kernel
theorem dX7_performWatch_17 : decode cX7_performWatch 17 = .ok (.getfield 102, 3) := by decide +kernel
theorem dX7_performWatch_20 : decode cX7_performWatch 20 = .ok (.invokevirtual 185, 3) := by decide +kernel
theorem dX7_performWatch_23 : decode cX7_performWatch 23 = .ok (.ifCond .eq 5, 3) := by decide +kernel
theorem dX7_performWatch_28 : decode cX7_performWatch 28 = .ok (.aload_n 1, 1) := by decide +kernel
theorem dX7_performWatch_29 : decode cX7_performWatch 29 = .ok (.aload_n 0, 1) := by decide +kernel
theorem dX7_performWatch_30 : decode cX7_performWatch 30 = .ok (.getfield 118, 3) := by decide +kernel
theorem dX7_performWatch_33 : decode cX7_performWatch 33 = .ok (.aload_n 0, 1) := by decide +kernel
theorem dX7_performWatch_34 : decode cX7_performWatch 34 = .ok (.getfield 102, 3) := by decide +kernel
theorem dX7_performWatch_37 : decode cX7_performWatch 37 = .ok (.invokevirtual 188, 3) := by decide +kernel
theorem dX7_performWatch_40 : decode cX7_performWatch 40 = .ok (.iconst 1, 1) := by decide +kernel
theorem dX7_performWatch_41 : decode cX7_performWatch 41 = .ok (.ireturn, 1) := by decide +kernel
theorem dX7_performWatch_26 : decode cX7_performWatch 26 = .ok (.iconst 0, 1) := by decide +kernel
theorem dX7_performWatch_27 : decode cX7_performWatch 27 = .ok (.ireturn, 1) := by decide +kernel
theorem dX10_isCharge_0 : decode cX10_isCharge 0 = .ok (.iload_n 0, 1) := by decide +kernel
theorem dX10_isCharge_1 : decode cX10_isCharge 1 = .ok (.iconst 1, 1) := by decide +kernel
theorem dX10_isCharge_2 : decode cX10_isCharge 2 = .ok (.if_icmp .lt 14, 3) := by decide +kernel
theorem dX10_isCharge_5 : decode cX10_isCharge 5 = .ok (.iload_n 0, 1) := by decide +kernel
theorem dX10_isCharge_6 : decode cX10_isCharge 6 = .ok (.sipush 999, 3) := by decide +kernel
theorem dX10_isCharge_9 : decode cX10_isCharge 9 = .ok (.if_icmp .gt 7, 3) := by decide +kernel
theorem dX10_isCharge_12 : decode cX10_isCharge 12 = .ok (.iconst 1, 1) := by decide +kernel
theorem dX10_isCharge_13 : decode cX10_isCharge 13 = .ok (.goto 4, 3) := by decide +kernel
theorem dX10_isCharge_16 : decode cX10_isCharge 16 = .ok (.iconst 0, 1) := by decide +kernel
theorem dX10_isCharge_17 : decode cX10_isCharge 17 = .ok (.ireturn, 1) := by decide +kernel
theorem dX10_addEnergy_0 : decode cX10_addEnergy 0 = .ok (.aload_n 0, 1) := by decide +kernel
theorem dX10_addEnergy_1 : decode cX10_addEnergy 1 = .ok (.iload_n 1, 1) := by decide +kernel
theorem dX10_addEnergy_2 : decode cX10_addEnergy 2 = .ok (.invokevirtual 66, 3) := by decide +kernel
theorem dX10_addEnergy_5 : decode cX10_addEnergy 5 = .ok (.astore_n 3, 1) := by decide +kernel
theorem dX10_addEnergy_6 : decode cX10_addEnergy 6 = .ok (.aload_n 3, 1) := by decide +kernel
theorem dX10_addEnergy_7 : decode cX10_addEnergy 7 = .ok (.sipush 9999, 3) := by decide +kernel
theorem dX10_addEnergy_10 : decode cX10_addEnergy 10 = .ok (.aload_n 3, 1) := by decide +kernel
theorem dX10_addEnergy_11 : decode cX10_addEnergy 11 = .ok (.getfield 101, 3) := by decide +kernel
theorem dX10_addEnergy_14 : decode cX10_addEnergy 14 = .ok (.iload_n 2, 1) := by decide +kernel
theorem dX10_addEnergy_15 : decode cX10_addEnergy 15 = .ok (.iadd, 1) := by decide +kernel
theorem dX10_addEnergy_16 : decode cX10_addEnergy 16 = .ok (.invokestatic 164, 3) := by decide +kernel
theorem dX10_addEnergy_19 : decode cX10_addEnergy 19 = .ok (.putfield 101, 3) := by decide +kernel
theorem dX10_addEnergy_22 : decode cX10_addEnergy 22 = .ok (.aload_n 3, 1) := by decide +kernel
theorem dX10_addEnergy_23 : decode cX10_addEnergy 23 = .ok (.getfield 101, 3) := by decide +kernel
theorem dX10_addEnergy_26 : decode cX10_addEnergy 26 = .ok (.ireturn, 1) := by decide +kernel
theorem dX7_performCharge_0 : decode cX7_performCharge 0 = .ok (.aload_n 0, 1) := by decide +kernel
theorem dX7_performCharge_1 : decode cX7_performCharge 1 = .ok (.getfield 102, 3) := by decide +kernel
theorem dX7_performCharge_4 : decode cX7_performCharge 4 = .ok (.invokestatic 192, 3) := by decide +kernel
theorem dX7_performCharge_7 : decode cX7_performCharge 7 = .ok (.ifCond .ne 5, 3) := by decide +kernel
theorem dX7_performCharge_12 : decode cX7_performCharge 12 = .ok (.aload_n 1, 1) := by decide +kernel
theorem dX7_performCharge_13 : decode cX7_performCharge 13 = .ok (.aload_n 0, 1) := by decide +kernel
theorem dX7_performCharge_14 : decode cX7_performCharge 14 = .ok (.getfield 118, 3) := by decide +kernel
theorem dX7_performCharge_17 : decode cX7_performCharge 17 = .ok (.aload_n 0, 1) := by decide +kernel
theorem dX7_performCharge_18 : decode cX7_performCharge 18 = .ok (.getfield 102, 3) := by decide +kernel
theorem dX7_performCharge_21 : decode cX7_performCharge 21 = .ok (.invokevirtual 195, 3) := by decide +kernel
theorem dX7_performCharge_24 : decode cX7_performCharge 24 = .ok (.pop, 1) := by decide +kernel
theorem dX7_performCharge_25 : decode cX7_performCharge 25 = .ok (.iconst 1, 1) := by decide +kernel
theorem dX7_performCharge_26 : decode cX7_performCharge 26 = .ok (.ireturn, 1) := by decide +kernel
theorem dX7_performCharge_10 : decode cX7_performCharge 10 = .ok (.iconst 0, 1) := by decide +kernel
theorem dX7_performCharge_11 : decode cX7_performCharge 11 = .ok (.ireturn, 1) := by decide +kernel
theorem dX7_perform_0 : decode cX7_perform 0 = .ok (.aload_n 0, 1) := by decide +kernel
theorem dX7_perform_1 : decode cX7_perform 1 = .ok (.getfield 78, 3) := by decide +kernel
theorem dX7_perform_4 : decode cX7_perform 4 = .ok (.tableswitch 96 0 4 #[36, 70, 77, 84, 90], 36) := by decide +kernel
theorem dX7_perform_40 : decode cX7_perform 40 = .ok (.aload_n 0, 1) := by decide +kernel
theorem dX7_perform_41 : decode cX7_perform 41 = .ok (.getfield 102, 3) := by decide +kernel
theorem dX7_perform_44 : decode cX7_perform 44 = .ok (.invokestatic 139, 3) := by decide +kernel
theorem dX7_perform_47 : decode cX7_perform 47 = .ok (.ifCond .eq 14, 3) := by decide +kernel
theorem dX7_perform_50 : decode cX7_perform 50 = .ok (.aload_n 1, 1) := by decide +kernel
theorem dX7_perform_51 : decode cX7_perform 51 = .ok (.aload_n 0, 1) := by decide +kernel
theorem dX7_perform_52 : decode cX7_perform 52 = .ok (.getfield 102, 3) := by decide +kernel
theorem dX7_perform_55 : decode cX7_perform 55 = .ok (.invokevirtual 144, 3) := by decide +kernel
theorem dX7_perform_58 : decode cX7_perform 58 = .ok (.ifCond .ne 5, 3) := by decide +kernel
theorem dX7_perform_63 : decode cX7_perform 63 = .ok (.aload_n 1, 1) := by decide +kernel
theorem dX7_perform_64 : decode cX7_perform 64 = .ok (.aload_n 0, 1) := by decide +kernel
theorem dX7_perform_65 : decode cX7_perform 65 = .ok (.getfield 102, 3) := by decide +kernel
theorem dX7_perform_68 : decode cX7_perform 68 = .ok (.invokevirtual 147, 3) := by decide +kernel
theorem dX7_perform_71 : decode cX7_perform 71 = .ok (.pop, 1) := by decide +kernel
theorem dX7_perform_72 : decode cX7_perform 72 = .ok (.iconst 1, 1) := by decide +kernel
theorem dX7_perform_73 : decode cX7_perform 73 = .ok (.ireturn, 1) := by decide +kernel
theorem dX7_perform_74 : decode cX7_perform 74 = .ok (.aload_n 0, 1) := by decide +kernel
theorem dX7_perform_75 : decode cX7_perform 75 = .ok (.aload_n 1, 1) := by decide +kernel
theorem dX7_perform_76 : decode cX7_perform 76 = .ok (.iconst 0, 1) := by decide +kernel
theorem dX7_perform_77 : decode cX7_perform 77 = .ok (.invokestatic 150, 3) := by decide +kernel
theorem dX7_perform_80 : decode cX7_perform 80 = .ok (.ireturn, 1) := by decide +kernel
theorem dX7_perform_81 : decode cX7_perform 81 = .ok (.aload_n 0, 1) := by decide +kernel
theorem dX7_perform_82 : decode cX7_perform 82 = .ok (.aload_n 1, 1) := by decide +kernel
theorem dX7_perform_83 : decode cX7_perform 83 = .ok (.iconst 1, 1) := by decide +kernel
theorem dX7_perform_84 : decode cX7_perform 84 = .ok (.invokestatic 150, 3) := by decide +kernel
theorem dX7_perform_87 : decode cX7_perform 87 = .ok (.ireturn, 1) := by decide +kernel
theorem dX7_perform_88 : decode cX7_perform 88 = .ok (.aload_n 0, 1) := by decide +kernel
theorem dX7_perform_89 : decode cX7_perform 89 = .ok (.aload_n 1, 1) := by decide +kernel
theorem dX7_perform_90 : decode cX7_perform 90 = .ok (.invokestatic 154, 3) := by decide +kernel
theorem dX7_perform_93 : decode cX7_perform 93 = .ok (.ireturn, 1) := by decide +kernel
theorem dX7_perform_94 : decode cX7_perform 94 = .ok (.aload_n 0, 1) := by decide +kernel
theorem dX7_perform_95 : decode cX7_perform 95 = .ok (.aload_n 1, 1) := by decide +kernel
theorem dX7_perform_96 : decode cX7_perform 96 = .ok (.invokestatic 157, 3) := by decide +kernel
theorem dX7_perform_99 : decode cX7_perform 99 = .ok (.ireturn, 1) := by decide +kernel
theorem dX7_perform_100 : decode cX7_perform 100 = .ok (.aload_n 0, 1) := by decide +kernel
theorem dX7_perform_101 : decode cX7_perform 101 = .ok (.aload_n 1, 1) := by decide +kernel
theorem dX7_perform_102 : decode cX7_perform 102 = .ok (.invokestatic 160, 3) := by decide +kernel
theorem dX7_perform_105 : decode cX7_perform 105 = .ok (.ireturn, 1) := by decide +kernel
theorem dX7_perform_61 : decode cX7_perform 61 = .ok (.iconst 0, 1) := by decide +kernel
theorem dX7_perform_62 : decode cX7_perform 62 = .ok (.ireturn, 1) := by decide +kernel
theorem dX7_runOn_0 : decode cX7_runOn 0 = .ok (.aload_n 0, 1) := by decide +kernel
theorem dX7_runOn_1 : decode cX7_runOn 1 = .ok (.iconst 0, 1) := by decide +kernel
theorem dX7_runOn_2 : decode cX7_runOn 2 = .ok (.putfield 124, 3) := by decide +kernel
theorem dX7_runOn_5 : decode cX7_runOn 5 = .ok (.aload_n 0, 1) := by decide +kernel
theorem dX7_runOn_6 : decode cX7_runOn 6 = .ok (.iconst (-1), 1) := by decide +kernel
theorem dX7_runOn_7 : decode cX7_runOn 7 = .ok (.putfield 22, 3) := by decide +kernel
theorem dX7_runOn_10 : decode cX7_runOn 10 = .ok (.iconst 0, 1) := by decide +kernel
theorem dX7_runOn_11 : decode cX7_runOn 11 = .ok (.istore_n 2, 1) := by decide +kernel
theorem dX7_runOn_12 : decode cX7_runOn 12 = .ok (.iconst 0, 1) := by decide +kernel
theorem dX7_runOn_13 : decode cX7_runOn 13 = .ok (.istore_n 3, 1) := by decide +kernel
theorem dX7_runOn_14 : decode cX7_runOn 14 = .ok (.iload_n 3, 1) := by decide +kernel
theorem dX7_runOn_15 : decode cX7_runOn 15 = .ok (.ldc 127, 2) := by decide +kernel
theorem dX7_runOn_17 : decode cX7_runOn 17 = .ok (.if_icmp .ge 128, 3) := by decide +kernel
theorem dX7_runOn_20 : decode cX7_runOn 20 = .ok (.aload_n 0, 1) := by decide +kernel
theorem dX7_runOn_21 : decode cX7_runOn 21 = .ok (.getfield 124, 3) := by decide +kernel
theorem dX7_runOn_24 : decode cX7_runOn 24 = .ok (.bipush 40, 2) := by decide +kernel
theorem dX7_runOn_26 : decode cX7_runOn 26 = .ok (.if_icmp .ge 119, 3) := by decide +kernel
theorem dX7_runOn_29 : decode cX7_runOn 29 = .ok (.aload_n 0, 1) := by decide +kernel
theorem dX7_runOn_30 : decode cX7_runOn 30 = .ok (.iload_n 2, 1) := by decide +kernel
theorem dX7_runOn_31 : decode cX7_runOn 31 = .ok (.invokevirtual 74, 3) := by decide +kernel
theorem dX7_runOn_34 : decode cX7_runOn 34 = .ok (.astore 4, 2) := by decide +kernel
theorem dX7_runOn_36 : decode cX7_runOn 36 = .ok (.aload_n 0, 1) := by decide +kernel
theorem dX7_runOn_37 : decode cX7_runOn 37 = .ok (.getfield 22, 3) := by decide +kernel
theorem dX7_runOn_40 : decode cX7_runOn 40 = .ok (.iconst (-1), 1) := by decide +kernel
theorem dX7_runOn_41 : decode cX7_runOn 41 = .ok (.if_icmp .eq 27, 3) := by decide +kernel
theorem dX7_runOn_44 : decode cX7_runOn 44 = .ok (.iload_n 2, 1) := by decide +kernel
theorem dX7_runOn_45 : decode cX7_runOn 45 = .ok (.aload_n 0, 1) := by decide +kernel
theorem dX7_runOn_46 : decode cX7_runOn 46 = .ok (.aload_n 0, 1) := by decide +kernel
theorem dX7_runOn_47 : decode cX7_runOn 47 = .ok (.getfield 22, 3) := by decide +kernel
theorem dX7_runOn_50 : decode cX7_runOn 50 = .ok (.invokevirtual 74, 3) := by decide +kernel
theorem dX7_runOn_53 : decode cX7_runOn 53 = .ok (.getfield 111, 3) := by decide +kernel
theorem dX7_runOn_56 : decode cX7_runOn 56 = .ok (.if_icmp .ne 12, 3) := by decide +kernel
theorem dX7_runOn_59 : decode cX7_runOn 59 = .ok (.aload_n 0, 1) := by decide +kernel
theorem dX7_runOn_60 : decode cX7_runOn 60 = .ok (.iload_n 2, 1) := by decide +kernel
theorem dX7_runOn_61 : decode cX7_runOn 61 = .ok (.invokevirtual 128, 3) := by decide +kernel
theorem dX7_runOn_64 : decode cX7_runOn 64 = .ok (.istore_n 2, 1) := by decide +kernel
theorem dX7_runOn_65 : decode cX7_runOn 65 = .ok (.goto 74, 3) := by decide +kernel
theorem dX7_runOn_145 : decode cX7_runOn 145 = .ok (.aload_n 0, 1) := by decide +kernel
theorem dX7_runOn_146 : decode cX7_runOn 146 = .ok (.getfield 124, 3) := by decide +kernel
theorem dX7_runOn_149 : decode cX7_runOn 149 = .ok (.ireturn, 1) := by decide +kernel
theorem dX7_runOn_68 : decode cX7_runOn 68 = .ok (.iload_n 2, 1) := by decide +kernel
theorem dX7_runOn_69 : decode cX7_runOn 69 = .ok (.aload_n 0, 1) := by decide +kernel
theorem dX7_runOn_70 : decode cX7_runOn 70 = .ok (.getfield 18, 3) := by decide +kernel
theorem dX7_runOn_73 : decode cX7_runOn 73 = .ok (.if_icmp .lt 8, 3) := by decide +kernel
theorem dX7_runOn_81 : decode cX7_runOn 81 = .ok (.aload 4, 2) := by decide +kernel
theorem dX7_runOn_83 : decode cX7_runOn 83 = .ok (.getfield 78, 3) := by decide +kernel
theorem dX7_runOn_86 : decode cX7_runOn 86 = .ok (.bipush 6, 2) := by decide +kernel
theorem dX7_runOn_88 : decode cX7_runOn 88 = .ok (.if_icmp .ne 24, 3) := by decide +kernel
theorem dX7_runOn_112 : decode cX7_runOn 112 = .ok (.aload 4, 2) := by decide +kernel
theorem dX7_runOn_114 : decode cX7_runOn 114 = .ok (.aload_n 1, 1) := by decide +kernel
theorem dX7_runOn_115 : decode cX7_runOn 115 = .ok (.invokestatic 135, 3) := by decide +kernel
theorem dX7_runOn_118 : decode cX7_runOn 118 = .ok (.ifCond .ne 8, 3) := by decide +kernel
theorem dX7_runOn_126 : decode cX7_runOn 126 = .ok (.aload_n 0, 1) := by decide +kernel
theorem dX7_runOn_127 : decode cX7_runOn 127 = .ok (.dup, 1) := by decide +kernel
theorem dX7_runOn_128 : decode cX7_runOn 128 = .ok (.getfield 124, 3) := by decide +kernel
theorem dX7_runOn_131 : decode cX7_runOn 131 = .ok (.iconst 1, 1) := by decide +kernel
theorem dX7_runOn_132 : decode cX7_runOn 132 = .ok (.iadd, 1) := by decide +kernel
theorem dX7_runOn_133 : decode cX7_runOn 133 = .ok (.putfield 124, 3) := by decide +kernel
theorem dX7_runOn_136 : decode cX7_runOn 136 = .ok (.iinc 2 1, 3) := by decide +kernel
theorem dX7_runOn_121 : decode cX7_runOn 121 = .ok (.aload_n 0, 1) := by decide +kernel
theorem dX7_runOn_122 : decode cX7_runOn 122 = .ok (.getfield 124, 3) := by decide +kernel
theorem dX7_runOn_125 : decode cX7_runOn 125 = .ok (.ireturn, 1) := by decide +kernel
theorem dX7_runOn_91 : decode cX7_runOn 91 = .ok (.aload 4, 2) := by decide +kernel
theorem dX7_runOn_93 : decode cX7_runOn 93 = .ok (.aload 4, 2) := by decide +kernel
theorem dX7_runOn_95 : decode cX7_runOn 95 = .ok (.getfield 102, 3) := by decide +kernel
theorem dX7_runOn_98 : decode cX7_runOn 98 = .ok (.putfield 132, 3) := by decide +kernel
theorem dX7_runOn_101 : decode cX7_runOn 101 = .ok (.aload_n 0, 1) := by decide +kernel
theorem dX7_runOn_102 : decode cX7_runOn 102 = .ok (.iload_n 2, 1) := by decide +kernel
theorem dX7_runOn_103 : decode cX7_runOn 103 = .ok (.putfield 22, 3) := by decide +kernel
theorem dX7_runOn_106 : decode cX7_runOn 106 = .ok (.iinc 2 1, 3) := by decide +kernel
theorem dX7_runOn_109 : decode cX7_runOn 109 = .ok (.goto 30, 3) := by decide +kernel
theorem dX7_runOn_76 : decode cX7_runOn 76 = .ok (.aload_n 0, 1) := by decide +kernel
theorem dX7_runOn_77 : decode cX7_runOn 77 = .ok (.getfield 124, 3) := by decide +kernel
theorem dX7_runOn_80 : decode cX7_runOn 80 = .ok (.ireturn, 1) := by decide +kernel
theorem dX7_runOn_139 : decode cX7_runOn 139 = .ok (.iinc 3 1, 3) := by decide +kernel
theorem dX7_runOn_142 : decode cX7_runOn 142 = .ok (.goto (-128), 3) := by decide +kernel
theorem dX10_makeEmpty_0 : decode cX10_makeEmpty 0 = .ok (.aload_n 0, 1) := by decide +kernel
theorem dX10_makeEmpty_1 : decode cX10_makeEmpty 1 = .ok (.iconst 0, 1) := by decide +kernel
theorem dX10_makeEmpty_2 : decode cX10_makeEmpty 2 = .ok (.putfield 35, 3) := by decide +kernel
theorem dX10_makeEmpty_5 : decode cX10_makeEmpty 5 = .ok (.aload_n 0, 1) := by decide +kernel
theorem dX10_makeEmpty_6 : decode cX10_makeEmpty 6 = .ok (.iconst 0, 1) := by decide +kernel
theorem dX10_makeEmpty_7 : decode cX10_makeEmpty 7 = .ok (.putfield 39, 3) := by decide +kernel
theorem dX10_makeEmpty_10 : decode cX10_makeEmpty 10 = .ok (.aload_n 0, 1) := by decide +kernel
theorem dX10_makeEmpty_11 : decode cX10_makeEmpty 11 = .ok (.iconst 0, 1) := by decide +kernel
theorem dX10_makeEmpty_12 : decode cX10_makeEmpty 12 = .ok (.putfield 42, 3) := by decide +kernel
theorem dX10_makeEmpty_15 : decode cX10_makeEmpty 15 = .ok (.aload_n 0, 1) := by decide +kernel
theorem dX10_makeEmpty_16 : decode cX10_makeEmpty 16 = .ok (.bipush 12, 2) := by decide +kernel
theorem dX10_makeEmpty_18 : decode cX10_makeEmpty 18 = .ok (.putfield 45, 3) := by decide +kernel
theorem dX10_makeEmpty_21 : decode cX10_makeEmpty 21 = .ok (.aload_n 0, 1) := by decide +kernel
theorem dX10_makeEmpty_22 : decode cX10_makeEmpty 22 = .ok (.iconst 1, 1) := by decide +kernel
theorem dX10_makeEmpty_23 : decode cX10_makeEmpty 23 = .ok (.putfield 48, 3) := by decide +kernel
theorem dX10_makeEmpty_26 : decode cX10_makeEmpty 26 = .ok (.aload_n 0, 1) := by decide +kernel
theorem dX10_makeEmpty_27 : decode cX10_makeEmpty 27 = .ok (.iconst 2, 1) := by decide +kernel
theorem dX10_makeEmpty_28 : decode cX10_makeEmpty 28 = .ok (.putfield 51, 3) := by decide +kernel
theorem dX10_makeEmpty_31 : decode cX10_makeEmpty 31 = .ok (.aload_n 0, 1) := by decide +kernel
theorem dX10_makeEmpty_32 : decode cX10_makeEmpty 32 = .ok (.iconst 5, 1) := by decide +kernel
theorem dX10_makeEmpty_33 : decode cX10_makeEmpty 33 = .ok (.putfield 54, 3) := by decide +kernel
theorem dX10_makeEmpty_36 : decode cX10_makeEmpty 36 = .ok (.aload_n 0, 1) := by decide +kernel
theorem dX10_makeEmpty_37 : decode cX10_makeEmpty 37 = .ok (.iconst 3, 1) := by decide +kernel
theorem dX10_makeEmpty_38 : decode cX10_makeEmpty 38 = .ok (.putfield 57, 3) := by decide +kernel
theorem dX10_makeEmpty_41 : decode cX10_makeEmpty 41 = .ok (.aload_n 0, 1) := by decide +kernel
theorem dX10_makeEmpty_42 : decode cX10_makeEmpty 42 = .ok (.iconst 0, 1) := by decide +kernel
theorem dX10_makeEmpty_43 : decode cX10_makeEmpty 43 = .ok (.putfield 60, 3) := by decide +kernel
theorem dX10_makeEmpty_46 : decode cX10_makeEmpty 46 = .ok (.aload_n 0, 1) := by decide +kernel
theorem dX10_makeEmpty_47 : decode cX10_makeEmpty 47 = .ok (.iconst 0, 1) := by decide +kernel
theorem dX10_makeEmpty_48 : decode cX10_makeEmpty 48 = .ok (.putfield 63, 3) := by decide +kernel
theorem dX10_makeEmpty_51 : decode cX10_makeEmpty 51 = .ok (.return_, 1) := by decide +kernel
theorem dX9_readYear_0 : decode cX9_readYear 0 = .ok (.aload_n 0, 1) := by decide +kernel
theorem dX9_readYear_1 : decode cX9_readYear 1 = .ok (.getfield 9, 3) := by decide +kernel
theorem dX9_readYear_4 : decode cX9_readYear 4 = .ok (.ifCond .eq 9, 3) := by decide +kernel
theorem dX9_readYear_13 : decode cX9_readYear 13 = .ok (.aload_n 0, 1) := by decide +kernel
theorem dX9_readYear_14 : decode cX9_readYear 14 = .ok (.iconst 1, 1) := by decide +kernel
theorem dX9_readYear_15 : decode cX9_readYear 15 = .ok (.putfield 9, 3) := by decide +kernel
theorem dX9_readYear_18 : decode cX9_readYear 18 = .ok (.aload_n 1, 1) := by decide +kernel
theorem dX9_readYear_19 : decode cX9_readYear 19 = .ok (.invokevirtual 78, 3) := by decide +kernel
theorem dX9_readYear_22 : decode cX9_readYear 22 = .ok (.aload_n 1, 1) := by decide +kernel
theorem dX9_readYear_23 : decode cX9_readYear 23 = .ok (.iconst 4, 1) := by decide +kernel
theorem dX9_readYear_24 : decode cX9_readYear 24 = .ok (.bipush 60, 2) := by decide +kernel
theorem dX9_readYear_26 : decode cX9_readYear 26 = .ok (.invokevirtual 81, 3) := by decide +kernel
theorem dX9_readYear_29 : decode cX9_readYear 29 = .ok (.ifCond .ne 5, 3) := by decide +kernel
theorem dX9_readYear_34 : decode cX9_readYear 34 = .ok (.aload_n 2, 1) := by decide +kernel
theorem dX9_readYear_35 : decode cX9_readYear 35 = .ok (.aload_n 1, 1) := by decide +kernel
theorem dX9_readYear_36 : decode cX9_readYear 36 = .ok (.getfield 85, 3) := by decide +kernel
theorem dX9_readYear_39 : decode cX9_readYear 39 = .ok (.putfield 89, 3) := by decide +kernel
theorem dX9_readYear_42 : decode cX9_readYear 42 = .ok (.iconst 1, 1) := by decide +kernel
theorem dX9_readYear_43 : decode cX9_readYear 43 = .ok (.ireturn, 1) := by decide +kernel
theorem dX9_readYear_32 : decode cX9_readYear 32 = .ok (.iconst 0, 1) := by decide +kernel
theorem dX9_readYear_33 : decode cX9_readYear 33 = .ok (.ireturn, 1) := by decide +kernel
theorem dX9_readYear_7 : decode cX9_readYear 7 = .ok (.aload_n 1, 1) := by decide +kernel
theorem dX9_readYear_8 : decode cX9_readYear 8 = .ok (.iconst 3, 1) := by decide +kernel
theorem dX9_readYear_9 : decode cX9_readYear 9 = .ok (.invokevirtual 75, 3) := by decide +kernel
theorem dX9_readYear_12 : decode cX9_readYear 12 = .ok (.ireturn, 1) := by decide +kernel
theorem dX9_readCosts_0 : decode cX9_readCosts 0 = .ok (.aload_n 0, 1) := by decide +kernel
theorem dX9_readCosts_1 : decode cX9_readCosts 1 = .ok (.getfield 15, 3) := by decide +kernel
theorem dX9_readCosts_4 : decode cX9_readCosts 4 = .ok (.ifCond .eq 9, 3) := by decide +kernel
theorem dX9_readCosts_13 : decode cX9_readCosts 13 = .ok (.aload_n 0, 1) := by decide +kernel
theorem dX9_readCosts_14 : decode cX9_readCosts 14 = .ok (.iconst 1, 1) := by decide +kernel
theorem dX9_readCosts_15 : decode cX9_readCosts 15 = .ok (.putfield 15, 3) := by decide +kernel
theorem dX9_readCosts_18 : decode cX9_readCosts 18 = .ok (.aload_n 1, 1) := by decide +kernel
theorem dX9_readCosts_19 : decode cX9_readCosts 19 = .ok (.invokevirtual 78, 3) := by decide +kernel
theorem dX9_readCosts_22 : decode cX9_readCosts 22 = .ok (.aload_n 1, 1) := by decide +kernel
theorem dX9_readCosts_23 : decode cX9_readCosts 23 = .ok (.iconst 0, 1) := by decide +kernel
theorem dX9_readCosts_24 : decode cX9_readCosts 24 = .ok (.bipush 99, 2) := by decide +kernel
theorem dX9_readCosts_26 : decode cX9_readCosts 26 = .ok (.invokevirtual 81, 3) := by decide +kernel
