theorem dX12_isIn_0 : decode cX12_isIn 0 = .ok (.lload_n 0, 1) := by decide +kernel
theorem dX12_isIn_1 : decode cX12_isIn 1 = .ok (.lload_n 2, 1) := by decide +kernel
theorem dX12_isIn_2 : decode cX12_isIn 2 = .ok (.lcmp, 1) := by decide +kernel
theorem dX12_isIn_3 : decode cX12_isIn 3 = .ok (.ifCond .lt 14, 3) := by decide +kernel
theorem dX12_isIn_17 : decode cX12_isIn 17 = .ok (.iconst 0, 1) := by decide +kernel
theorem dX12_isIn_18 : decode cX12_isIn 18 = .ok (.ireturn, 1) := by decide +kernel
theorem dX12_isIn_6 : decode cX12_isIn 6 = .ok (.lload_n 0, 1) := by decide +kernel
theorem dX12_isIn_7 : decode cX12_isIn 7 = .ok (.lload 4, 2) := by decide +kernel
theorem dX12_isIn_9 : decode cX12_isIn 9 = .ok (.lcmp, 1) := by decide +kernel
theorem dX12_isIn_10 : decode cX12_isIn 10 = .ok (.ifCond .gt 7, 3) := by decide +kernel
theorem dX12_isIn_13 : decode cX12_isIn 13 = .ok (.iconst 1, 1) := by decide +kernel
theorem dX12_isIn_14 : decode cX12_isIn 14 = .ok (.goto 4, 3) := by decide +kernel
theorem dX12_truth_0 : decode cX12_truth 0 = .ok (.iload_n 0, 1) := by decide +kernel
theorem dX12_truth_1 : decode cX12_truth 1 = .ok (.ifCond .eq 7, 3) := by decide +kernel
theorem dX12_truth_8 : decode cX12_truth 8 = .ok (.iconst 0, 1) := by decide +kernel
theorem dX12_truth_9 : decode cX12_truth 9 = .ok (.ireturn, 1) := by decide +kernel
theorem dX12_truth_4 : decode cX12_truth 4 = .ok (.iconst 1, 1) := by decide +kernel
theorem dX12_truth_5 : decode cX12_truth 5 = .ok (.goto 4, 3) := by decide +kernel
theorem dX12_goes_0 : decode cX12_goes 0 = .ok (.aload_n 0, 1) := by decide +kernel
theorem dX12_goes_1 : decode cX12_goes 1 = .ok (.iload_n 1, 1) := by decide +kernel
theorem dX12_goes_2 : decode cX12_goes 2 = .ok (.ifCond .ne 7, 3) := by decide +kernel
theorem dX12_goes_5 : decode cX12_goes 5 = .ok (.iconst 1, 1) := by decide +kernel
theorem dX12_goes_6 : decode cX12_goes 6 = .ok (.goto 4, 3) := by decide +kernel
theorem dX12_goes_10 : decode cX12_goes 10 = .ok (.invokestatic 78, 3) := by decide +kernel
theorem dX12_goes_13 : decode cX12_goes 13 = .ok (.putfield 75, 3) := by decide +kernel
theorem dX12_goes_16 : decode cX12_goes 16 = .ok (.iload_n 1, 1) := by decide +kernel
theorem dX12_goes_17 : decode cX12_goes 17 = .ok (.ireturn, 1) := by decide +kernel
theorem dX12_goes_9 : decode cX12_goes 9 = .ok (.iconst 0, 1) := by decide +kernel
theorem dX12_goesBoth_0 : decode cX12_goesBoth 0 = .ok (.aload_n 0, 1) := by decide +kernel
theorem dX12_goesBoth_1 : decode cX12_goesBoth 1 = .ok (.iload_n 1, 1) := by decide +kernel
theorem dX12_goesBoth_2 : decode cX12_goesBoth 2 = .ok (.ifCond .ne 7, 3) := by decide +kernel
theorem dX12_goesBoth_5 : decode cX12_goesBoth 5 = .ok (.iconst 1, 1) := by decide +kernel
theorem dX12_goesBoth_6 : decode cX12_goesBoth 6 = .ok (.goto 12, 3) := by decide +kernel
theorem dX12_goesBoth_18 : decode cX12_goesBoth 18 = .ok (.putfield 75, 3) := by decide +kernel
theorem dX12_goesBoth_21 : decode cX12_goesBoth 21 = .ok (.aload_n 0, 1) := by decide +kernel
theorem dX12_goesBoth_22 : decode cX12_goesBoth 22 = .ok (.getfield 75, 3) := by decide +kernel
theorem dX12_goesBoth_25 : decode cX12_goesBoth 25 = .ok (.ifCond .ne 7, 3) := by decide +kernel
theorem dX12_goesBoth_32 : decode cX12_goesBoth 32 = .ok (.iconst 0, 1) := by decide +kernel
theorem dX12_goesBoth_33 : decode cX12_goesBoth 33 = .ok (.ireturn, 1) := by decide +kernel
theorem dX12_goesBoth_9 : decode cX12_goesBoth 9 = .ok (.iload_n 2, 1) := by decide +kernel
theorem dX12_goesBoth_10 : decode cX12_goesBoth 10 = .ok (.ifCond .ne 7, 3) := by decide +kernel
theorem dX12_goesBoth_13 : decode cX12_goesBoth 13 = .ok (.iconst 2, 1) := by decide +kernel
theorem dX12_goesBoth_14 : decode cX12_goesBoth 14 = .ok (.goto 4, 3) := by decide +kernel
theorem dX12_goesBoth_17 : decode cX12_goesBoth 17 = .ok (.iconst 0, 1) := by decide +kernel
theorem dX12_goesBoth_28 : decode cX12_goesBoth 28 = .ok (.iconst 1, 1) := by decide +kernel
theorem dX12_goesBoth_29 : decode cX12_goesBoth 29 = .ok (.goto 4, 3) := by decide +kernel
theorem dX12_goesAll_0 : decode cX12_goesAll 0 = .ok (.aload_n 0, 1) := by decide +kernel
theorem dX12_goesAll_1 : decode cX12_goesAll 1 = .ok (.iload_n 1, 1) := by decide +kernel
theorem dX12_goesAll_2 : decode cX12_goesAll 2 = .ok (.iload_n 2, 1) := by decide +kernel
theorem dX12_goesAll_3 : decode cX12_goesAll 3 = .ok (.invokevirtual 358, 3) := by decide +kernel
theorem dX12_goesAll_6 : decode cX12_goesAll 6 = .ok (.ifCond .eq 12, 3) := by decide +kernel
theorem dX12_goesAll_18 : decode cX12_goesAll 18 = .ok (.aload_n 0, 1) := by decide +kernel
theorem dX12_goesAll_19 : decode cX12_goesAll 19 = .ok (.getfield 75, 3) := by decide +kernel
theorem dX12_goesAll_22 : decode cX12_goesAll 22 = .ok (.ifCond .ne 7, 3) := by decide +kernel
theorem dX12_goesAll_29 : decode cX12_goesAll 29 = .ok (.iconst 0, 1) := by decide +kernel
theorem dX12_goesAll_30 : decode cX12_goesAll 30 = .ok (.ireturn, 1) := by decide +kernel
theorem dX12_thrown_0 : decode cX12_thrown 0 = .ok (.aload_n 0, 1) := by decide +kernel
theorem dX12_thrown_1 : decode cX12_thrown 1 = .ok (.getfield 75, 3) := by decide +kernel
theorem dX12_thrown_4 : decode cX12_thrown 4 = .ok (.ireturn, 1) := by decide +kernel
theorem dX12_four_0 : decode cX12_four 0 = .ok (.bipush 24, 2) := by decide +kernel
theorem dX12_four_2 : decode cX12_four 2 = .ok (.istore_n 2, 1) := by decide +kernel
theorem dX12_four_3 : decode cX12_four 3 = .ok (.iload_n 2, 1) := by decide +kernel
theorem dX12_four_4 : decode cX12_four 4 = .ok (.ifCond .lt 35, 3) := by decide +kernel
theorem dX12_four_7 : decode cX12_four 7 = .ok (.aload_n 0, 1) := by decide +kernel
theorem dX12_four_8 : decode cX12_four 8 = .ok (.getfield 7, 3) := by decide +kernel
theorem dX12_four_11 : decode cX12_four 11 = .ok (.aload_n 0, 1) := by decide +kernel
theorem dX12_four_12 : decode cX12_four 12 = .ok (.getfield 82, 3) := by decide +kernel
theorem dX12_four_15 : decode cX12_four 15 = .ok (.iload_n 1, 1) := by decide +kernel
theorem dX12_four_16 : decode cX12_four 16 = .ok (.iload_n 2, 1) := by decide +kernel
theorem dX12_four_17 : decode cX12_four 17 = .ok (.ishr, 1) := by decide +kernel
theorem dX12_four_18 : decode cX12_four 18 = .ok (.sipush 255, 3) := by decide +kernel
theorem dX12_four_21 : decode cX12_four 21 = .ok (.iand, 1) := by decide +kernel
theorem dX12_four_22 : decode cX12_four 22 = .ok (.iastore, 1) := by decide +kernel
theorem dX12_four_23 : decode cX12_four 23 = .ok (.aload_n 0, 1) := by decide +kernel
theorem dX12_four_24 : decode cX12_four 24 = .ok (.dup, 1) := by decide +kernel
theorem dX12_four_25 : decode cX12_four 25 = .ok (.getfield 82, 3) := by decide +kernel
theorem dX12_four_28 : decode cX12_four 28 = .ok (.iconst 1, 1) := by decide +kernel
theorem dX12_four_29 : decode cX12_four 29 = .ok (.iadd, 1) := by decide +kernel
theorem dX12_four_30 : decode cX12_four 30 = .ok (.putfield 82, 3) := by decide +kernel
theorem dX12_four_33 : decode cX12_four 33 = .ok (.iinc 2 (-8), 3) := by decide +kernel
theorem dX12_four_36 : decode cX12_four 36 = .ok (.goto (-33), 3) := by decide +kernel
theorem dX12_four_39 : decode cX12_four 39 = .ok (.return_, 1) := by decide +kernel
theorem dX12_here_0 : decode cX12_here 0 = .ok (.aload_n 0, 1) := by decide +kernel
theorem dX12_here_1 : decode cX12_here 1 = .ok (.getfield 97, 3) := by decide +kernel
theorem dX12_here_4 : decode cX12_here 4 = .ok (.iload_n 1, 1) := by decide +kernel
theorem dX12_here_5 : decode cX12_here 5 = .ok (.iadd, 1) := by decide +kernel
theorem dX12_here_6 : decode cX12_here 6 = .ok (.aload_n 0, 1) := by decide +kernel
theorem dX12_here_7 : decode cX12_here 7 = .ok (.getfield 100, 3) := by decide +kernel
theorem dX12_here_10 : decode cX12_here 10 = .ok (.if_icmp .ge 17, 3) := by decide +kernel
theorem dX12_here_27 : decode cX12_here 27 = .ok (.iconst (-1), 1) := by decide +kernel
theorem dX12_here_28 : decode cX12_here 28 = .ok (.ireturn, 1) := by decide +kernel
theorem dX12_goOn_0 : decode cX12_goOn 0 = .ok (.aload_n 0, 1) := by decide +kernel
theorem dX12_goOn_1 : decode cX12_goOn 1 = .ok (.iconst 0, 1) := by decide +kernel
theorem dX12_goOn_2 : decode cX12_goOn 2 = .ok (.invokevirtual 103, 3) := by decide +kernel
theorem dX12_goOn_5 : decode cX12_goOn 5 = .ok (.bipush 32, 2) := by decide +kernel
theorem dX12_goOn_7 : decode cX12_goOn 7 = .ok (.if_icmp .eq 13, 3) := by decide +kernel
theorem dX12_goOn_10 : decode cX12_goOn 10 = .ok (.aload_n 0, 1) := by decide +kernel
theorem dX12_goOn_11 : decode cX12_goOn 11 = .ok (.iconst 0, 1) := by decide +kernel
theorem dX12_goOn_12 : decode cX12_goOn 12 = .ok (.invokevirtual 103, 3) := by decide +kernel
theorem dX12_goOn_15 : decode cX12_goOn 15 = .ok (.bipush 10, 2) := by decide +kernel
theorem dX12_goOn_17 : decode cX12_goOn 17 = .ok (.if_icmp .ne 16, 3) := by decide +kernel
theorem dX12_goOn_33 : decode cX12_goOn 33 = .ok (.aload_n 0, 1) := by decide +kernel
theorem dX12_goOn_34 : decode cX12_goOn 34 = .ok (.aload_n 0, 1) := by decide +kernel
theorem dX12_goOn_35 : decode cX12_goOn 35 = .ok (.getfield 97, 3) := by decide +kernel
theorem dX12_goOn_38 : decode cX12_goOn 38 = .ok (.putfield 107, 3) := by decide +kernel
theorem dX12_goOn_41 : decode cX12_goOn 41 = .ok (.aload_n 0, 1) := by decide +kernel
theorem dX12_goOn_42 : decode cX12_goOn 42 = .ok (.lconst 0, 1) := by decide +kernel
theorem dX12_goOn_43 : decode cX12_goOn 43 = .ok (.putfield 110, 3) := by decide +kernel
theorem dX12_goOn_46 : decode cX12_goOn 46 = .ok (.aload_n 0, 1) := by decide +kernel
theorem dX12_goOn_47 : decode cX12_goOn 47 = .ok (.iconst 0, 1) := by decide +kernel
theorem dX12_goOn_48 : decode cX12_goOn 48 = .ok (.putfield 114, 3) := by decide +kernel
theorem dX12_goOn_51 : decode cX12_goOn 51 = .ok (.aload_n 0, 1) := by decide +kernel
theorem dX12_goOn_52 : decode cX12_goOn 52 = .ok (.iconst 0, 1) := by decide +kernel
theorem dX12_goOn_53 : decode cX12_goOn 53 = .ok (.invokevirtual 103, 3) := by decide +kernel
theorem dX12_goOn_56 : decode cX12_goOn 56 = .ok (.istore_n 1, 1) := by decide +kernel
theorem dX12_goOn_57 : decode cX12_goOn 57 = .ok (.iconst 0, 1) := by decide +kernel
theorem dX12_goOn_58 : decode cX12_goOn 58 = .ok (.istore_n 2, 1) := by decide +kernel
theorem dX12_goOn_59 : decode cX12_goOn 59 = .ok (.iload_n 1, 1) := by decide +kernel
theorem dX12_goOn_60 : decode cX12_goOn 60 = .ok (.ifCond .ge 9, 3) := by decide +kernel
theorem dX12_goOn_63 : decode cX12_goOn 63 = .ok (.aload_n 0, 1) := by decide +kernel
theorem dX12_goOn_64 : decode cX12_goOn 64 = .ok (.iconst 0, 1) := by decide +kernel
theorem dX12_goOn_65 : decode cX12_goOn 65 = .ok (.putfield 117, 3) := by decide +kernel
theorem dX12_goOn_68 : decode cX12_goOn 68 = .ok (.return_, 1) := by decide +kernel
theorem dX12_beginsText_0 : decode cX12_beginsText 0 = .ok (.aload_n 0, 1) := by decide +kernel
theorem dX12_beginsText_1 : decode cX12_beginsText 1 = .ok (.aload_n 0, 1) := by decide +kernel
theorem dX12_beginsText_2 : decode cX12_beginsText 2 = .ok (.getfield 82, 3) := by decide +kernel
theorem dX12_beginsText_5 : decode cX12_beginsText 5 = .ok (.putfield 100, 3) := by decide +kernel
theorem dX12_beginsText_8 : decode cX12_beginsText 8 = .ok (.aload_n 0, 1) := by decide +kernel
theorem dX12_beginsText_9 : decode cX12_beginsText 9 = .ok (.iconst 0, 1) := by decide +kernel
theorem dX12_beginsText_10 : decode cX12_beginsText 10 = .ok (.putfield 82, 3) := by decide +kernel
theorem dX12_beginsText_13 : decode cX12_beginsText 13 = .ok (.aload_n 0, 1) := by decide +kernel
theorem dX12_beginsText_14 : decode cX12_beginsText 14 = .ok (.iconst 0, 1) := by decide +kernel
theorem dX12_beginsText_15 : decode cX12_beginsText 15 = .ok (.putfield 97, 3) := by decide +kernel
theorem dX12_beginsText_18 : decode cX12_beginsText 18 = .ok (.aload_n 0, 1) := by decide +kernel
theorem dX12_beginsText_19 : decode cX12_beginsText 19 = .ok (.iconst 0, 1) := by decide +kernel
theorem dX12_beginsText_20 : decode cX12_beginsText 20 = .ok (.putfield 127, 3) := by decide +kernel
theorem dX12_beginsText_23 : decode cX12_beginsText 23 = .ok (.aload_n 0, 1) := by decide +kernel
theorem dX12_beginsText_24 : decode cX12_beginsText 24 = .ok (.iconst (-1), 1) := by decide +kernel
theorem dX12_beginsText_25 : decode cX12_beginsText 25 = .ok (.putfield 13, 3) := by decide +kernel
theorem dX12_beginsText_28 : decode cX12_beginsText 28 = .ok (.aload_n 0, 1) := by decide +kernel
theorem dX12_beginsText_29 : decode cX12_beginsText 29 = .ok (.invokevirtual 140, 3) := by decide +kernel
theorem dX12_beginsText_32 : decode cX12_beginsText 32 = .ok (.return_, 1) := by decide +kernel
theorem dX12_isGood_0 : decode cX12_isGood 0 = .ok (.aload_n 0, 1) := by decide +kernel
theorem dX12_isGood_1 : decode cX12_isGood 1 = .ok (.getfield 127, 3) := by decide +kernel
theorem dX12_isGood_4 : decode cX12_isGood 4 = .ok (.ifCond .ne 7, 3) := by decide +kernel
theorem dX12_isGood_7 : decode cX12_isGood 7 = .ok (.iconst 1, 1) := by decide +kernel
theorem dX12_isGood_8 : decode cX12_isGood 8 = .ok (.goto 4, 3) := by decide +kernel
theorem dX12_isGood_12 : decode cX12_isGood 12 = .ok (.ireturn, 1) := by decide +kernel
theorem dX12_endsText_0 : decode cX12_endsText 0 = .ok (.aload_n 0, 1) := by decide +kernel
theorem dX12_endsText_1 : decode cX12_endsText 1 = .ok (.aload_n 0, 1) := by decide +kernel
theorem dX12_endsText_2 : decode cX12_endsText 2 = .ok (.getfield 127, 3) := by decide +kernel
theorem dX12_endsText_5 : decode cX12_endsText 5 = .ok (.putfield 151, 3) := by decide +kernel
theorem dX12_endsText_8 : decode cX12_endsText 8 = .ok (.aload_n 0, 1) := by decide +kernel
theorem dX12_endsText_9 : decode cX12_endsText 9 = .ok (.aload_n 0, 1) := by decide +kernel
theorem dX12_endsText_10 : decode cX12_endsText 10 = .ok (.getfield 13, 3) := by decide +kernel
theorem dX12_endsText_13 : decode cX12_endsText 13 = .ok (.putfield 17, 3) := by decide +kernel
theorem dX12_endsText_16 : decode cX12_endsText 16 = .ok (.aload_n 0, 1) := by decide +kernel
theorem dX12_endsText_17 : decode cX12_endsText 17 = .ok (.aload_n 0, 1) := by decide +kernel
theorem dX12_endsText_18 : decode cX12_endsText 18 = .ok (.getfield 127, 3) := by decide +kernel
theorem dX12_endsText_21 : decode cX12_endsText 21 = .ok (.ifCond .ne 7, 3) := by decide +kernel
theorem dX12_endsText_24 : decode cX12_endsText 24 = .ok (.iconst 1, 1) := by decide +kernel
theorem dX12_endsText_25 : decode cX12_endsText 25 = .ok (.goto 4, 3) := by decide +kernel
theorem dX12_endsText_29 : decode cX12_endsText 29 = .ok (.invokevirtual 85, 3) := by decide +kernel
theorem dX12_endsText_32 : decode cX12_endsText 32 = .ok (.ireturn, 1) := by decide +kernel
theorem dX12_copiesRow_0 : decode cX12_copiesRow 0 = .ok (.iconst 0, 1) := by decide +kernel
theorem dX12_copiesRow_1 : decode cX12_copiesRow 1 = .ok (.istore 4, 2) := by decide +kernel
theorem dX12_copiesRow_3 : decode cX12_copiesRow 3 = .ok (.iload 4, 2) := by decide +kernel
theorem dX12_copiesRow_5 : decode cX12_copiesRow 5 = .ok (.sipush 658, 3) := by decide +kernel
theorem dX12_copiesRow_8 : decode cX12_copiesRow 8 = .ok (.if_icmp .ge 21, 3) := by decide +kernel
theorem dX12_copiesRow_11 : decode cX12_copiesRow 11 = .ok (.aload_n 2, 1) := by decide +kernel
theorem dX12_copiesRow_12 : decode cX12_copiesRow 12 = .ok (.iload_n 3, 1) := by decide +kernel
theorem dX12_copiesRow_13 : decode cX12_copiesRow 13 = .ok (.iload 4, 2) := by decide +kernel
theorem dX12_copiesRow_15 : decode cX12_copiesRow 15 = .ok (.iadd, 1) := by decide +kernel
theorem dX12_copiesRow_16 : decode cX12_copiesRow 16 = .ok (.aload_n 0, 1) := by decide +kernel
theorem dX12_copiesRow_17 : decode cX12_copiesRow 17 = .ok (.iload_n 1, 1) := by decide +kernel
theorem dX12_copiesRow_18 : decode cX12_copiesRow 18 = .ok (.iload 4, 2) := by decide +kernel
theorem dX12_copiesRow_20 : decode cX12_copiesRow 20 = .ok (.iadd, 1) := by decide +kernel
theorem dX12_copiesRow_21 : decode cX12_copiesRow 21 = .ok (.iaload, 1) := by decide +kernel
theorem dX12_copiesRow_22 : decode cX12_copiesRow 22 = .ok (.iastore, 1) := by decide +kernel
theorem dX12_copiesRow_23 : decode cX12_copiesRow 23 = .ok (.iinc 4 1, 3) := by decide +kernel
theorem dX12_copiesRow_26 : decode cX12_copiesRow 26 = .ok (.goto (-23), 3) := by decide +kernel
theorem dX12_copiesRow_29 : decode cX12_copiesRow 29 = .ok (.return_, 1) := by decide +kernel
theorem dX12_copiesNames_0 : decode cX12_copiesNames 0 = .ok (.iconst 0, 1) := by decide +kernel
theorem dX12_copiesNames_1 : decode cX12_copiesNames 1 = .ok (.istore_n 2, 1) := by decide +kernel
theorem dX12_copiesNames_2 : decode cX12_copiesNames 2 = .ok (.iload_n 2, 1) := by decide +kernel
theorem dX12_copiesNames_3 : decode cX12_copiesNames 3 = .ok (.bipush 10, 2) := by decide +kernel
theorem dX12_copiesNames_5 : decode cX12_copiesNames 5 = .ok (.if_icmp .ge 15, 3) := by decide +kernel
theorem dX12_copiesNames_8 : decode cX12_copiesNames 8 = .ok (.aload_n 1, 1) := by decide +kernel
theorem dX12_copiesNames_9 : decode cX12_copiesNames 9 = .ok (.iload_n 2, 1) := by decide +kernel
theorem dX12_copiesNames_10 : decode cX12_copiesNames 10 = .ok (.aload_n 0, 1) := by decide +kernel
theorem dX12_copiesNames_11 : decode cX12_copiesNames 11 = .ok (.iload_n 2, 1) := by decide +kernel
theorem dX12_copiesNames_12 : decode cX12_copiesNames 12 = .ok (.laload, 1) := by decide +kernel
theorem dX12_copiesNames_13 : decode cX12_copiesNames 13 = .ok (.lastore, 1) := by decide +kernel
theorem dX12_copiesNames_14 : decode cX12_copiesNames 14 = .ok (.iinc 2 1, 3) := by decide +kernel
theorem dX12_copiesNames_17 : decode cX12_copiesNames 17 = .ok (.goto (-15), 3) := by decide +kernel
theorem dX12_copiesNames_20 : decode cX12_copiesNames 20 = .ok (.return_, 1) := by decide +kernel
theorem dX12_laysAside_0 : decode cX12_laysAside 0 = .ok (.aload_n 0, 1) := by decide +kernel
theorem dX12_laysAside_1 : decode cX12_laysAside 1 = .ok (.getfield 20, 3) := by decide +kernel
theorem dX12_laysAside_4 : decode cX12_laysAside 4 = .ok (.iconst 0, 1) := by decide +kernel
theorem dX12_laysAside_5 : decode cX12_laysAside 5 = .ok (.aload_n 0, 1) := by decide +kernel
theorem dX12_laysAside_6 : decode cX12_laysAside 6 = .ok (.getfield 26, 3) := by decide +kernel
theorem dX12_laysAside_9 : decode cX12_laysAside 9 = .ok (.iconst 0, 1) := by decide +kernel
theorem dX12_laysAside_10 : decode cX12_laysAside 10 = .ok (.invokestatic 154, 3) := by decide +kernel
theorem dX12_laysAside_13 : decode cX12_laysAside 13 = .ok (.return_, 1) := by decide +kernel
theorem dX12_keeps_0 : decode cX12_keeps 0 = .ok (.aload_n 0, 1) := by decide +kernel
theorem dX12_keeps_1 : decode cX12_keeps 1 = .ok (.getfield 158, 3) := by decide +kernel
theorem dX12_keeps_4 : decode cX12_keeps 4 = .ok (.bipush 6, 2) := by decide +kernel
theorem dX12_keeps_6 : decode cX12_keeps 6 = .ok (.if_icmp .ne 49, 3) := by decide +kernel
theorem dX12_keeps_55 : decode cX12_keeps 55 = .ok (.aload_n 0, 1) := by decide +kernel
theorem dX12_keeps_56 : decode cX12_keeps 56 = .ok (.getfield 26, 3) := by decide +kernel
theorem dX12_keeps_59 : decode cX12_keeps 59 = .ok (.iconst 0, 1) := by decide +kernel
theorem dX12_keeps_60 : decode cX12_keeps 60 = .ok (.aload_n 0, 1) := by decide +kernel
theorem dX12_keeps_61 : decode cX12_keeps 61 = .ok (.getfield 32, 3) := by decide +kernel
theorem dX12_keeps_64 : decode cX12_keeps 64 = .ok (.sipush 658, 3) := by decide +kernel
theorem dX12_keeps_67 : decode cX12_keeps 67 = .ok (.aload_n 0, 1) := by decide +kernel
theorem dX12_keeps_68 : decode cX12_keeps 68 = .ok (.getfield 158, 3) := by decide +kernel
theorem dX12_keeps_71 : decode cX12_keeps 71 = .ok (.imul, 1) := by decide +kernel
theorem dX12_keeps_72 : decode cX12_keeps 72 = .ok (.invokestatic 154, 3) := by decide +kernel
theorem dX12_keeps_75 : decode cX12_keeps 75 = .ok (.aload_n 0, 1) := by decide +kernel
theorem dX12_keeps_76 : decode cX12_keeps 76 = .ok (.dup, 1) := by decide +kernel
theorem dX12_keeps_77 : decode cX12_keeps 77 = .ok (.getfield 158, 3) := by decide +kernel
theorem dX12_keeps_80 : decode cX12_keeps 80 = .ok (.iconst 1, 1) := by decide +kernel
theorem dX12_keeps_81 : decode cX12_keeps 81 = .ok (.iadd, 1) := by decide +kernel
theorem dX12_keeps_82 : decode cX12_keeps 82 = .ok (.putfield 158, 3) := by decide +kernel
theorem dX12_keeps_85 : decode cX12_keeps 85 = .ok (.return_, 1) := by decide +kernel
theorem dX12_kept_0 : decode cX12_kept 0 = .ok (.aload_n 0, 1) := by decide +kernel
theorem dX12_kept_1 : decode cX12_kept 1 = .ok (.invokevirtual 161, 3) := by decide +kernel
theorem dX12_kept_4 : decode cX12_kept 4 = .ok (.iload_n 1, 1) := by decide +kernel
theorem dX12_kept_5 : decode cX12_kept 5 = .ok (.ireturn, 1) := by decide +kernel
theorem dX12_leaves_0 : decode cX12_leaves 0 = .ok (.aload_n 0, 1) := by decide +kernel
theorem dX12_leaves_1 : decode cX12_leaves 1 = .ok (.getfield 20, 3) := by decide +kernel
theorem dX12_leaves_4 : decode cX12_leaves 4 = .ok (.iconst 0, 1) := by decide +kernel
theorem dX12_leaves_5 : decode cX12_leaves 5 = .ok (.aload_n 0, 1) := by decide +kernel
theorem dX12_leaves_6 : decode cX12_leaves 6 = .ok (.getfield 29, 3) := by decide +kernel
theorem dX12_leaves_9 : decode cX12_leaves 9 = .ok (.iconst 0, 1) := by decide +kernel
theorem dX12_leaves_10 : decode cX12_leaves 10 = .ok (.invokestatic 154, 3) := by decide +kernel
theorem dX12_leaves_13 : decode cX12_leaves 13 = .ok (.return_, 1) := by decide +kernel
theorem dX12_comesBack_0 : decode cX12_comesBack 0 = .ok (.aload_n 0, 1) := by decide +kernel
theorem dX12_comesBack_1 : decode cX12_comesBack 1 = .ok (.getfield 29, 3) := by decide +kernel
theorem dX12_comesBack_4 : decode cX12_comesBack 4 = .ok (.iconst 0, 1) := by decide +kernel
theorem dX12_comesBack_5 : decode cX12_comesBack 5 = .ok (.aload_n 0, 1) := by decide +kernel
theorem dX12_comesBack_6 : decode cX12_comesBack 6 = .ok (.getfield 20, 3) := by decide +kernel
theorem dX12_comesBack_9 : decode cX12_comesBack 9 = .ok (.iconst 0, 1) := by decide +kernel
theorem dX12_comesBack_10 : decode cX12_comesBack 10 = .ok (.invokestatic 154, 3) := by decide +kernel
theorem dX12_comesBack_13 : decode cX12_comesBack 13 = .ok (.iload_n 1, 1) := by decide +kernel
theorem dX12_comesBack_14 : decode cX12_comesBack 14 = .ok (.ireturn, 1) := by decide +kernel
theorem dX12_clears_0 : decode cX12_clears 0 = .ok (.iconst 0, 1) := by decide +kernel
theorem dX12_clears_1 : decode cX12_clears 1 = .ok (.istore_n 1, 1) := by decide +kernel
theorem dX12_clears_2 : decode cX12_clears 2 = .ok (.iload_n 1, 1) := by decide +kernel
theorem dX12_clears_3 : decode cX12_clears 3 = .ok (.sipush 658, 3) := by decide +kernel
theorem dX12_clears_6 : decode cX12_clears 6 = .ok (.if_icmp .ge 16, 3) := by decide +kernel
theorem dX12_clears_9 : decode cX12_clears 9 = .ok (.aload_n 0, 1) := by decide +kernel
theorem dX12_clears_10 : decode cX12_clears 10 = .ok (.getfield 20, 3) := by decide +kernel
theorem dX12_clears_13 : decode cX12_clears 13 = .ok (.iload_n 1, 1) := by decide +kernel
theorem dX12_clears_14 : decode cX12_clears 14 = .ok (.iconst 0, 1) := by decide +kernel
theorem dX12_clears_15 : decode cX12_clears 15 = .ok (.iastore, 1) := by decide +kernel
theorem dX12_clears_16 : decode cX12_clears 16 = .ok (.iinc 1 1, 3) := by decide +kernel
theorem dX12_clears_19 : decode cX12_clears 19 = .ok (.goto (-17), 3) := by decide +kernel
theorem dX12_clears_22 : decode cX12_clears 22 = .ok (.iconst 0, 1) := by decide +kernel
theorem dX12_clears_23 : decode cX12_clears 23 = .ok (.istore_n 1, 1) := by decide +kernel
theorem dX12_clears_24 : decode cX12_clears 24 = .ok (.iload_n 1, 1) := by decide +kernel
theorem dX12_clears_25 : decode cX12_clears 25 = .ok (.bipush 10, 2) := by decide +kernel
theorem dX12_clears_27 : decode cX12_clears 27 = .ok (.if_icmp .ge 16, 3) := by decide +kernel
theorem dX12_clears_30 : decode cX12_clears 30 = .ok (.aload_n 0, 1) := by decide +kernel
theorem dX12_clears_31 : decode cX12_clears 31 = .ok (.getfield 35, 3) := by decide +kernel
theorem dX12_clears_34 : decode cX12_clears 34 = .ok (.iload_n 1, 1) := by decide +kernel
theorem dX12_clears_35 : decode cX12_clears 35 = .ok (.lconst 0, 1) := by decide +kernel
theorem dX12_clears_36 : decode cX12_clears 36 = .ok (.lastore, 1) := by decide +kernel
theorem dX12_clears_37 : decode cX12_clears 37 = .ok (.iinc 1 1, 3) := by decide +kernel
theorem dX12_clears_40 : decode cX12_clears 40 = .ok (.goto (-16), 3) := by decide +kernel
theorem dX12_clears_43 : decode cX12_clears 43 = .ok (.aload_n 0, 1) := by decide +kernel
theorem dX12_clears_44 : decode cX12_clears 44 = .ok (.getfield 20, 3) := by decide +kernel
theorem dX12_clears_47 : decode cX12_clears 47 = .ok (.iconst 2, 1) := by decide +kernel
theorem dX12_clears_48 : decode cX12_clears 48 = .ok (.bipush 12, 2) := by decide +kernel
theorem dX12_clears_50 : decode cX12_clears 50 = .ok (.iastore, 1) := by decide +kernel
theorem dX12_clears_51 : decode cX12_clears 51 = .ok (.aload_n 0, 1) := by decide +kernel
theorem dX12_clears_52 : decode cX12_clears 52 = .ok (.getfield 20, 3) := by decide +kernel
theorem dX12_clears_55 : decode cX12_clears 55 = .ok (.iconst 5, 1) := by decide +kernel
theorem dX12_clears_56 : decode cX12_clears 56 = .ok (.iconst 1, 1) := by decide +kernel
theorem dX12_clears_57 : decode cX12_clears 57 = .ok (.iastore, 1) := by decide +kernel
theorem dX12_clears_58 : decode cX12_clears 58 = .ok (.aload_n 0, 1) := by decide +kernel
theorem dX12_clears_59 : decode cX12_clears 59 = .ok (.getfield 20, 3) := by decide +kernel
theorem dX12_clears_62 : decode cX12_clears 62 = .ok (.bipush 6, 2) := by decide +kernel
theorem dX12_clears_64 : decode cX12_clears 64 = .ok (.iconst 2, 1) := by decide +kernel
theorem dX12_clears_65 : decode cX12_clears 65 = .ok (.iastore, 1) := by decide +kernel
theorem dX12_clears_66 : decode cX12_clears 66 = .ok (.aload_n 0, 1) := by decide +kernel
theorem dX12_clears_67 : decode cX12_clears 67 = .ok (.getfield 20, 3) := by decide +kernel
theorem dX12_clears_70 : decode cX12_clears 70 = .ok (.bipush 7, 2) := by decide +kernel
theorem dX12_clears_72 : decode cX12_clears 72 = .ok (.iconst 5, 1) := by decide +kernel
theorem dX12_clears_73 : decode cX12_clears 73 = .ok (.iastore, 1) := by decide +kernel
theorem dX12_clears_74 : decode cX12_clears 74 = .ok (.aload_n 0, 1) := by decide +kernel
theorem dX12_clears_75 : decode cX12_clears 75 = .ok (.getfield 20, 3) := by decide +kernel
theorem dX12_clears_78 : decode cX12_clears 78 = .ok (.bipush 8, 2) := by decide +kernel
theorem dX12_clears_80 : decode cX12_clears 80 = .ok (.iconst 3, 1) := by decide +kernel
theorem dX12_clears_81 : decode cX12_clears 81 = .ok (.iastore, 1) := by decide +kernel
theorem dX12_clears_82 : decode cX12_clears 82 = .ok (.return_, 1) := by decide +kernel
theorem dX12_isNode_0 : decode cX12_isNode 0 = .ok (.iload_n 1, 1) := by decide +kernel
theorem dX12_isNode_1 : decode cX12_isNode 1 = .ok (.i2l, 1) := by decide +kernel
theorem dX12_isNode_2 : decode cX12_isNode 2 = .ok (.lconst 0, 1) := by decide +kernel
theorem dX12_isNode_3 : decode cX12_isNode 3 = .ok (.aload_n 0, 1) := by decide +kernel
theorem dX12_isNode_4 : decode cX12_isNode 4 = .ok (.getfield 20, 3) := by decide +kernel
theorem dX12_isNode_7 : decode cX12_isNode 7 = .ok (.iconst 0, 1) := by decide +kernel
theorem dX12_isNode_8 : decode cX12_isNode 8 = .ok (.iaload, 1) := by decide +kernel
theorem dX12_isNode_9 : decode cX12_isNode 9 = .ok (.iconst 1, 1) := by decide +kernel
theorem dX12_isNode_10 : decode cX12_isNode 10 = .ok (.isub, 1) := by decide +kernel
theorem dX12_isNode_11 : decode cX12_isNode 11 = .ok (.i2l, 1) := by decide +kernel
theorem dX12_isNode_12 : decode cX12_isNode 12 = .ok (.invokestatic 93, 3) := by decide +kernel
theorem dX12_isNode_15 : decode cX12_isNode 15 = .ok (.ireturn, 1) := by decide +kernel
theorem dX12_isMessage_0 : decode cX12_isMessage 0 = .ok (.iload_n 1, 1) := by decide +kernel
theorem dX12_isMessage_1 : decode cX12_isMessage 1 = .ok (.i2l, 1) := by decide +kernel
theorem dX12_isMessage_2 : decode cX12_isMessage 2 = .ok (.lconst 0, 1) := by decide +kernel
theorem dX12_isMessage_3 : decode cX12_isMessage 3 = .ok (.aload_n 0, 1) := by decide +kernel
theorem dX12_isMessage_4 : decode cX12_isMessage 4 = .ok (.getfield 20, 3) := by decide +kernel
theorem dX12_isMessage_7 : decode cX12_isMessage 7 = .ok (.iconst 4, 1) := by decide +kernel
theorem dX12_isMessage_8 : decode cX12_isMessage 8 = .ok (.iaload, 1) := by decide +kernel
theorem dX12_isMessage_9 : decode cX12_isMessage 9 = .ok (.iconst 1, 1) := by decide +kernel
theorem dX12_isMessage_10 : decode cX12_isMessage 10 = .ok (.isub, 1) := by decide +kernel
theorem dX12_isMessage_11 : decode cX12_isMessage 11 = .ok (.i2l, 1) := by decide +kernel
theorem dX12_isMessage_12 : decode cX12_isMessage 12 = .ok (.invokestatic 93, 3) := by decide +kernel
theorem dX12_isMessage_15 : decode cX12_isMessage 15 = .ok (.ireturn, 1) := by decide +kernel
theorem dX12_isDay_0 : decode cX12_isDay 0 = .ok (.iload_n 1, 1) := by decide +kernel
theorem dX12_isDay_1 : decode cX12_isDay 1 = .ok (.i2l, 1) := by decide +kernel
theorem dX12_isDay_2 : decode cX12_isDay 2 = .ok (.lconst 0, 1) := by decide +kernel
theorem dX12_isDay_3 : decode cX12_isDay 3 = .ok (.aload_n 0, 1) := by decide +kernel
theorem dX12_isDay_4 : decode cX12_isDay 4 = .ok (.getfield 20, 3) := by decide +kernel
theorem dX12_isDay_7 : decode cX12_isDay 7 = .ok (.iconst 2, 1) := by decide +kernel
theorem dX12_isDay_8 : decode cX12_isDay 8 = .ok (.iaload, 1) := by decide +kernel
theorem dX12_isDay_9 : decode cX12_isDay 9 = .ok (.iconst 1, 1) := by decide +kernel
theorem dX12_isDay_10 : decode cX12_isDay 10 = .ok (.isub, 1) := by decide +kernel
theorem dX12_isDay_11 : decode cX12_isDay 11 = .ok (.i2l, 1) := by decide +kernel
theorem dX12_isDay_12 : decode cX12_isDay 12 = .ok (.invokestatic 93, 3) := by decide +kernel
theorem dX12_isDay_15 : decode cX12_isDay 15 = .ok (.ireturn, 1) := by decide +kernel
theorem dX12_isMany_0 : decode cX12_isMany 0 = .ok (.iload_n 0, 1) := by decide +kernel
theorem dX12_isMany_1 : decode cX12_isMany 1 = .ok (.i2l, 1) := by decide +kernel
theorem dX12_isMany_2 : decode cX12_isMany 2 = .ok (.lconst 1, 1) := by decide +kernel
theorem dX12_isMany_3 : decode cX12_isMany 3 = .ok (.ldc2_w 444, 3) := by decide +kernel
theorem dX12_isMany_6 : decode cX12_isMany 6 = .ok (.invokestatic 93, 3) := by decide +kernel
theorem dX12_isMany_9 : decode cX12_isMany 9 = .ok (.ireturn, 1) := by decide +kernel
theorem dX12_areTicks_0 : decode cX12_areTicks 0 = .ok (.iload_n 0, 1) := by decide +kernel
theorem dX12_areTicks_1 : decode cX12_areTicks 1 = .ok (.i2l, 1) := by decide +kernel
theorem dX12_areTicks_2 : decode cX12_areTicks 2 = .ok (.lconst 1, 1) := by decide +kernel
theorem dX12_areTicks_3 : decode cX12_areTicks 3 = .ok (.ldc2_w 391, 3) := by decide +kernel
theorem dX12_areTicks_6 : decode cX12_areTicks 6 = .ok (.invokestatic 93, 3) := by decide +kernel
theorem dX12_areTicks_9 : decode cX12_areTicks 9 = .ok (.ireturn, 1) := by decide +kernel
theorem dX12_inState_0 : decode cX12_inState 0 = .ok (.iconst 0, 1) := by decide +kernel
theorem dX12_inState_1 : decode cX12_inState 1 = .ok (.istore_n 2, 1) := by decide +kernel
theorem dX12_inState_2 : decode cX12_inState 2 = .ok (.iconst 0, 1) := by decide +kernel
theorem dX12_inState_3 : decode cX12_inState 3 = .ok (.istore_n 3, 1) := by decide +kernel
theorem dX12_inState_4 : decode cX12_inState 4 = .ok (.iload_n 3, 1) := by decide +kernel
theorem dX12_inState_5 : decode cX12_inState 5 = .ok (.aload_n 0, 1) := by decide +kernel
theorem dX12_inState_6 : decode cX12_inState 6 = .ok (.getfield 20, 3) := by decide +kernel
theorem dX12_inState_9 : decode cX12_inState 9 = .ok (.iconst 4, 1) := by decide +kernel
theorem dX12_inState_10 : decode cX12_inState 10 = .ok (.iaload, 1) := by decide +kernel
theorem dX12_inState_11 : decode cX12_inState 11 = .ok (.if_icmp .ge 30, 3) := by decide +kernel
theorem dX12_inState_41 : decode cX12_inState 41 = .ok (.iload_n 2, 1) := by decide +kernel
theorem dX12_inState_42 : decode cX12_inState 42 = .ok (.ireturn, 1) := by decide +kernel
theorem dX12_inTime_0 : decode cX12_inTime 0 = .ok (.iconst 0, 1) := by decide +kernel
theorem dX12_inTime_1 : decode cX12_inTime 1 = .ok (.istore_n 1, 1) := by decide +kernel
theorem dX12_inTime_2 : decode cX12_inTime 2 = .ok (.iconst 0, 1) := by decide +kernel
theorem dX12_inTime_3 : decode cX12_inTime 3 = .ok (.istore_n 2, 1) := by decide +kernel
theorem dX12_inTime_4 : decode cX12_inTime 4 = .ok (.iload_n 2, 1) := by decide +kernel
theorem dX12_inTime_5 : decode cX12_inTime 5 = .ok (.aload_n 0, 1) := by decide +kernel
theorem dX12_inTime_6 : decode cX12_inTime 6 = .ok (.getfield 20, 3) := by decide +kernel
theorem dX12_inTime_9 : decode cX12_inTime 9 = .ok (.iconst 4, 1) := by decide +kernel
theorem dX12_inTime_10 : decode cX12_inTime 10 = .ok (.iaload, 1) := by decide +kernel
theorem dX12_inTime_11 : decode cX12_inTime 11 = .ok (.if_icmp .ge 46, 3) := by decide +kernel
theorem dX12_inTime_57 : decode cX12_inTime 57 = .ok (.iload_n 1, 1) := by decide +kernel
theorem dX12_inTime_58 : decode cX12_inTime 58 = .ok (.ireturn, 1) := by decide +kernel
theorem dX12_notOut_0 : decode cX12_notOut 0 = .ok (.iconst 0, 1) := by decide +kernel
theorem dX12_notOut_1 : decode cX12_notOut 1 = .ok (.istore_n 1, 1) := by decide +kernel
theorem dX12_notOut_2 : decode cX12_notOut 2 = .ok (.iconst 0, 1) := by decide +kernel
theorem dX12_notOut_3 : decode cX12_notOut 3 = .ok (.istore_n 2, 1) := by decide +kernel
theorem dX12_notOut_4 : decode cX12_notOut 4 = .ok (.iload_n 2, 1) := by decide +kernel
theorem dX12_notOut_5 : decode cX12_notOut 5 = .ok (.aload_n 0, 1) := by decide +kernel
theorem dX12_notOut_6 : decode cX12_notOut 6 = .ok (.getfield 20, 3) := by decide +kernel
theorem dX12_notOut_9 : decode cX12_notOut 9 = .ok (.iconst 0, 1) := by decide +kernel
theorem dX12_notOut_10 : decode cX12_notOut 10 = .ok (.iaload, 1) := by decide +kernel
theorem dX12_notOut_11 : decode cX12_notOut 11 = .ok (.if_icmp .ge 28, 3) := by decide +kernel
theorem dX12_notOut_39 : decode cX12_notOut 39 = .ok (.iload_n 1, 1) := by decide +kernel
theorem dX12_notOut_40 : decode cX12_notOut 40 = .ok (.ireturn, 1) := by decide +kernel
theorem dX12_awakeSet_0 : decode cX12_awakeSet 0 = .ok (.iconst 0, 1) := by decide +kernel
theorem dX12_awakeSet_1 : decode cX12_awakeSet 1 = .ok (.istore_n 2, 1) := by decide +kernel
theorem dX12_awakeSet_2 : decode cX12_awakeSet 2 = .ok (.iconst 0, 1) := by decide +kernel
theorem dX12_awakeSet_3 : decode cX12_awakeSet 3 = .ok (.istore_n 3, 1) := by decide +kernel
theorem dX12_awakeSet_4 : decode cX12_awakeSet 4 = .ok (.iload_n 3, 1) := by decide +kernel
theorem dX12_awakeSet_5 : decode cX12_awakeSet 5 = .ok (.aload_n 0, 1) := by decide +kernel
theorem dX12_awakeSet_6 : decode cX12_awakeSet 6 = .ok (.getfield 20, 3) := by decide +kernel
theorem dX12_awakeSet_9 : decode cX12_awakeSet 9 = .ok (.iconst 0, 1) := by decide +kernel
theorem dX12_awakeSet_10 : decode cX12_awakeSet 10 = .ok (.iaload, 1) := by decide +kernel
theorem dX12_awakeSet_11 : decode cX12_awakeSet 11 = .ok (.if_icmp .ge 28, 3) := by decide +kernel
theorem dX12_awakeSet_39 : decode cX12_awakeSet 39 = .ok (.iload_n 2, 1) := by decide +kernel
theorem dX12_awakeSet_40 : decode cX12_awakeSet 40 = .ok (.ireturn, 1) := by decide +kernel
theorem dX12_bits_0 : decode cX12_bits 0 = .ok (.iconst 0, 1) := by decide +kernel
theorem dX12_bits_1 : decode cX12_bits 1 = .ok (.istore_n 1, 1) := by decide +kernel
theorem dX12_bits_2 : decode cX12_bits 2 = .ok (.iconst 0, 1) := by decide +kernel
theorem dX12_bits_3 : decode cX12_bits 3 = .ok (.istore_n 2, 1) := by decide +kernel
theorem dX12_bits_4 : decode cX12_bits 4 = .ok (.iload_n 2, 1) := by decide +kernel
theorem dX12_bits_5 : decode cX12_bits 5 = .ok (.bipush 10, 2) := by decide +kernel
theorem dX12_bits_7 : decode cX12_bits 7 = .ok (.if_icmp .ge 17, 3) := by decide +kernel
theorem dX12_bits_10 : decode cX12_bits 10 = .ok (.iload_n 1, 1) := by decide +kernel
theorem dX12_bits_11 : decode cX12_bits 11 = .ok (.iload_n 0, 1) := by decide +kernel
theorem dX12_bits_12 : decode cX12_bits 12 = .ok (.iload_n 2, 1) := by decide +kernel
theorem dX12_bits_13 : decode cX12_bits 13 = .ok (.ishr, 1) := by decide +kernel
theorem dX12_bits_14 : decode cX12_bits 14 = .ok (.iconst 1, 1) := by decide +kernel
theorem dX12_bits_15 : decode cX12_bits 15 = .ok (.iand, 1) := by decide +kernel
theorem dX12_bits_16 : decode cX12_bits 16 = .ok (.iadd, 1) := by decide +kernel
theorem dX12_bits_17 : decode cX12_bits 17 = .ok (.istore_n 1, 1) := by decide +kernel
theorem dX12_bits_18 : decode cX12_bits 18 = .ok (.iinc 2 1, 3) := by decide +kernel
theorem dX12_bits_21 : decode cX12_bits 21 = .ok (.goto (-17), 3) := by decide +kernel
theorem dX12_bits_24 : decode cX12_bits 24 = .ok (.iload_n 1, 1) := by decide +kernel
theorem dX12_bits_25 : decode cX12_bits 25 = .ok (.ireturn, 1) := by decide +kernel
theorem dX12_wakes_0 : decode cX12_wakes 0 = .ok (.aload_n 0, 1) := by decide +kernel
theorem dX12_wakes_1 : decode cX12_wakes 1 = .ok (.iconst 0, 1) := by decide +kernel
theorem dX12_wakes_2 : decode cX12_wakes 2 = .ok (.putfield 283, 3) := by decide +kernel
theorem dX12_wakes_5 : decode cX12_wakes 5 = .ok (.aload_n 0, 1) := by decide +kernel
theorem dX12_wakes_6 : decode cX12_wakes 6 = .ok (.iconst 0, 1) := by decide +kernel
theorem dX12_wakes_7 : decode cX12_wakes 7 = .ok (.invokevirtual 286, 3) := by decide +kernel
theorem dX12_wakes_10 : decode cX12_wakes 10 = .ok (.istore_n 1, 1) := by decide +kernel
theorem dX12_wakes_11 : decode cX12_wakes 11 = .ok (.iconst 0, 1) := by decide +kernel
theorem dX12_wakes_12 : decode cX12_wakes 12 = .ok (.istore_n 2, 1) := by decide +kernel
theorem dX12_wakes_13 : decode cX12_wakes 13 = .ok (.iload_n 2, 1) := by decide +kernel
theorem dX12_wakes_14 : decode cX12_wakes 14 = .ok (.aload_n 0, 1) := by decide +kernel
theorem dX12_wakes_15 : decode cX12_wakes 15 = .ok (.getfield 20, 3) := by decide +kernel
theorem dX12_wakes_18 : decode cX12_wakes 18 = .ok (.iconst 0, 1) := by decide +kernel
theorem dX12_wakes_19 : decode cX12_wakes 19 = .ok (.iaload, 1) := by decide +kernel
theorem dX12_wakes_20 : decode cX12_wakes 20 = .ok (.if_icmp .ge 88, 3) := by decide +kernel
theorem dX12_wakes_108 : decode cX12_wakes 108 = .ok (.return_, 1) := by decide +kernel
theorem dX12_passesAll_0 : decode cX12_passesAll 0 = .ok (.iconst 0, 1) := by decide +kernel
theorem dX12_passesAll_1 : decode cX12_passesAll 1 = .ok (.istore_n 2, 1) := by decide +kernel
theorem dX12_passesAll_2 : decode cX12_passesAll 2 = .ok (.iconst 0, 1) := by decide +kernel
theorem dX12_passesAll_3 : decode cX12_passesAll 3 = .ok (.istore_n 3, 1) := by decide +kernel
theorem dX12_passesAll_4 : decode cX12_passesAll 4 = .ok (.iload_n 3, 1) := by decide +kernel
theorem dX12_passesAll_5 : decode cX12_passesAll 5 = .ok (.aload_n 0, 1) := by decide +kernel
theorem dX12_passesAll_6 : decode cX12_passesAll 6 = .ok (.getfield 20, 3) := by decide +kernel
theorem dX12_passesAll_9 : decode cX12_passesAll 9 = .ok (.iconst 4, 1) := by decide +kernel
theorem dX12_passesAll_10 : decode cX12_passesAll 10 = .ok (.iaload, 1) := by decide +kernel
theorem dX12_passesAll_11 : decode cX12_passesAll 11 = .ok (.if_icmp .ge 39, 3) := by decide +kernel
theorem dX12_passesAll_50 : decode cX12_passesAll 50 = .ok (.iload_n 2, 1) := by decide +kernel
theorem dX12_passesAll_51 : decode cX12_passesAll 51 = .ok (.ireturn, 1) := by decide +kernel
theorem dX12_loses_0 : decode cX12_loses 0 = .ok (.iconst 0, 1) := by decide +kernel
theorem dX12_loses_1 : decode cX12_loses 1 = .ok (.istore_n 1, 1) := by decide +kernel
theorem dX12_loses_2 : decode cX12_loses 2 = .ok (.iload_n 1, 1) := by decide +kernel
theorem dX12_loses_3 : decode cX12_loses 3 = .ok (.aload_n 0, 1) := by decide +kernel
theorem dX12_loses_4 : decode cX12_loses 4 = .ok (.getfield 20, 3) := by decide +kernel
theorem dX12_loses_7 : decode cX12_loses 7 = .ok (.iconst 4, 1) := by decide +kernel
theorem dX12_loses_8 : decode cX12_loses 8 = .ok (.iaload, 1) := by decide +kernel
theorem dX12_loses_9 : decode cX12_loses 9 = .ok (.if_icmp .ge 38, 3) := by decide +kernel
theorem dX12_loses_47 : decode cX12_loses 47 = .ok (.return_, 1) := by decide +kernel
theorem dX12_ticksOnce_0 : decode cX12_ticksOnce 0 = .ok (.aload_n 0, 1) := by decide +kernel
theorem dX12_ticksOnce_1 : decode cX12_ticksOnce 1 = .ok (.getfield 20, 3) := by decide +kernel
theorem dX12_ticksOnce_4 : decode cX12_ticksOnce 4 = .ok (.iconst 3, 1) := by decide +kernel
theorem dX12_ticksOnce_5 : decode cX12_ticksOnce 5 = .ok (.dup2, 1) := by decide +kernel
theorem dX12_ticksOnce_6 : decode cX12_ticksOnce 6 = .ok (.iaload, 1) := by decide +kernel
theorem dX12_ticksOnce_7 : decode cX12_ticksOnce 7 = .ok (.iconst 1, 1) := by decide +kernel
theorem dX12_ticksOnce_8 : decode cX12_ticksOnce 8 = .ok (.iadd, 1) := by decide +kernel
theorem dX12_ticksOnce_9 : decode cX12_ticksOnce 9 = .ok (.iastore, 1) := by decide +kernel
theorem dX12_ticksOnce_10 : decode cX12_ticksOnce 10 = .ok (.aload_n 0, 1) := by decide +kernel
theorem dX12_ticksOnce_11 : decode cX12_ticksOnce 11 = .ok (.invokevirtual 326, 3) := by decide +kernel
theorem dX12_ticksOnce_14 : decode cX12_ticksOnce 14 = .ok (.iconst 0, 1) := by decide +kernel
theorem dX12_ticksOnce_15 : decode cX12_ticksOnce 15 = .ok (.istore_n 1, 1) := by decide +kernel
theorem dX12_ticksOnce_16 : decode cX12_ticksOnce 16 = .ok (.iload_n 1, 1) := by decide +kernel
theorem dX12_ticksOnce_17 : decode cX12_ticksOnce 17 = .ok (.aload_n 0, 1) := by decide +kernel
theorem dX12_ticksOnce_18 : decode cX12_ticksOnce 18 = .ok (.getfield 20, 3) := by decide +kernel
theorem dX12_ticksOnce_21 : decode cX12_ticksOnce 21 = .ok (.iconst 1, 1) := by decide +kernel
theorem dX12_ticksOnce_22 : decode cX12_ticksOnce 22 = .ok (.iaload, 1) := by decide +kernel
theorem dX12_ticksOnce_23 : decode cX12_ticksOnce 23 = .ok (.if_icmp .ge 14, 3) := by decide +kernel
theorem dX12_ticksOnce_37 : decode cX12_ticksOnce 37 = .ok (.aload_n 0, 1) := by decide +kernel
theorem dX12_ticksOnce_38 : decode cX12_ticksOnce 38 = .ok (.iconst 0, 1) := by decide +kernel
theorem dX12_ticksOnce_39 : decode cX12_ticksOnce 39 = .ok (.putfield 314, 3) := by decide +kernel
theorem dX12_ticksOnce_42 : decode cX12_ticksOnce 42 = .ok (.aload_n 0, 1) := by decide +kernel
theorem dX12_ticksOnce_43 : decode cX12_ticksOnce 43 = .ok (.iconst 0, 1) := by decide +kernel
theorem dX12_ticksOnce_44 : decode cX12_ticksOnce 44 = .ok (.putfield 317, 3) := by decide +kernel
theorem dX12_ticksOnce_47 : decode cX12_ticksOnce 47 = .ok (.aload_n 0, 1) := by decide +kernel
theorem dX12_ticksOnce_48 : decode cX12_ticksOnce 48 = .ok (.iconst 1, 1) := by decide +kernel
theorem dX12_ticksOnce_49 : decode cX12_ticksOnce 49 = .ok (.invokevirtual 332, 3) := by decide +kernel
theorem dX12_ticksOnce_52 : decode cX12_ticksOnce 52 = .ok (.istore_n 1, 1) := by decide +kernel
theorem dX12_ticksOnce_53 : decode cX12_ticksOnce 53 = .ok (.iload_n 1, 1) := by decide +kernel
theorem dX12_ticksOnce_54 : decode cX12_ticksOnce 54 = .ok (.aload_n 0, 1) := by decide +kernel
theorem dX12_ticksOnce_55 : decode cX12_ticksOnce 55 = .ok (.iconst 0, 1) := by decide +kernel
theorem dX12_ticksOnce_56 : decode cX12_ticksOnce 56 = .ok (.invokevirtual 332, 3) := by decide +kernel
theorem dX12_ticksOnce_59 : decode cX12_ticksOnce 59 = .ok (.iadd, 1) := by decide +kernel
theorem dX12_ticksOnce_60 : decode cX12_ticksOnce 60 = .ok (.istore_n 1, 1) := by decide +kernel
theorem dX12_ticksOnce_61 : decode cX12_ticksOnce 61 = .ok (.aload_n 0, 1) := by decide +kernel
theorem dX12_ticksOnce_62 : decode cX12_ticksOnce 62 = .ok (.invokevirtual 335, 3) := by decide +kernel
theorem dX12_ticksOnce_65 : decode cX12_ticksOnce 65 = .ok (.iload_n 1, 1) := by decide +kernel
theorem dX12_ticksOnce_66 : decode cX12_ticksOnce 66 = .ok (.ireturn, 1) := by decide +kernel
theorem dX12_ticksOn_0 : decode cX12_ticksOn 0 = .ok (.iconst 0, 1) := by decide +kernel
theorem dX12_ticksOn_1 : decode cX12_ticksOn 1 = .ok (.istore_n 2, 1) := by decide +kernel
theorem dX12_ticksOn_2 : decode cX12_ticksOn 2 = .ok (.iconst 0, 1) := by decide +kernel
theorem dX12_ticksOn_3 : decode cX12_ticksOn 3 = .ok (.istore_n 3, 1) := by decide +kernel
theorem dX12_ticksOn_4 : decode cX12_ticksOn 4 = .ok (.iload_n 3, 1) := by decide +kernel
theorem dX12_ticksOn_5 : decode cX12_ticksOn 5 = .ok (.iload_n 1, 1) := by decide +kernel
theorem dX12_ticksOn_6 : decode cX12_ticksOn 6 = .ok (.if_icmp .ge 16, 3) := by decide +kernel
theorem dX12_ticksOn_22 : decode cX12_ticksOn 22 = .ok (.iload_n 2, 1) := by decide +kernel
theorem dX12_ticksOn_23 : decode cX12_ticksOn 23 = .ok (.ireturn, 1) := by decide +kernel
theorem dX12_ticksOn_9 : decode cX12_ticksOn 9 = .ok (.iload_n 2, 1) := by decide +kernel
theorem dX12_ticksOn_10 : decode cX12_ticksOn 10 = .ok (.aload_n 0, 1) := by decide +kernel
theorem dX12_ticksOn_11 : decode cX12_ticksOn 11 = .ok (.invokevirtual 338, 3) := by decide +kernel
theorem dX12_ticksOn_14 : decode cX12_ticksOn 14 = .ok (.iadd, 1) := by decide +kernel
theorem dX12_ticksOn_15 : decode cX12_ticksOn 15 = .ok (.istore_n 2, 1) := by decide +kernel
theorem dX12_ticksOn_16 : decode cX12_ticksOn 16 = .ok (.iinc 3 1, 3) := by decide +kernel
theorem dX12_ticksOn_19 : decode cX12_ticksOn 19 = .ok (.goto (-15), 3) := by decide +kernel
theorem dX12_swapsCell_0 : decode cX12_swapsCell 0 = .ok (.aload_n 0, 1) := by decide +kernel
theorem dX12_swapsCell_1 : decode cX12_swapsCell 1 = .ok (.getfield 20, 3) := by decide +kernel
theorem dX12_swapsCell_4 : decode cX12_swapsCell 4 = .ok (.iload_n 1, 1) := by decide +kernel
theorem dX12_swapsCell_5 : decode cX12_swapsCell 5 = .ok (.iaload, 1) := by decide +kernel
theorem dX12_swapsCell_6 : decode cX12_swapsCell 6 = .ok (.istore_n 3, 1) := by decide +kernel
theorem dX12_swapsCell_7 : decode cX12_swapsCell 7 = .ok (.aload_n 0, 1) := by decide +kernel
theorem dX12_swapsCell_8 : decode cX12_swapsCell 8 = .ok (.getfield 20, 3) := by decide +kernel
theorem dX12_swapsCell_11 : decode cX12_swapsCell 11 = .ok (.iload_n 1, 1) := by decide +kernel
theorem dX12_swapsCell_12 : decode cX12_swapsCell 12 = .ok (.iload_n 2, 1) := by decide +kernel
theorem dX12_swapsCell_13 : decode cX12_swapsCell 13 = .ok (.iastore, 1) := by decide +kernel
theorem dX12_swapsCell_14 : decode cX12_swapsCell 14 = .ok (.iload_n 3, 1) := by decide +kernel
theorem dX12_swapsCell_15 : decode cX12_swapsCell 15 = .ok (.ireturn, 1) := by decide +kernel
theorem dX12_runs_0 : decode cX12_runs 0 = .ok (.iconst 0, 1) := by decide +kernel
theorem dX12_runs_1 : decode cX12_runs 1 = .ok (.istore_n 1, 1) := by decide +kernel
theorem dX12_runs_2 : decode cX12_runs 2 = .ok (.iconst 0, 1) := by decide +kernel
theorem dX12_runs_3 : decode cX12_runs 3 = .ok (.istore_n 2, 1) := by decide +kernel
theorem dX12_runs_4 : decode cX12_runs 4 = .ok (.iconst 0, 1) := by decide +kernel
theorem dX12_runs_5 : decode cX12_runs 5 = .ok (.istore_n 3, 1) := by decide +kernel
theorem dX12_runs_6 : decode cX12_runs 6 = .ok (.iconst 1, 1) := by decide +kernel
theorem dX12_runs_7 : decode cX12_runs 7 = .ok (.istore 4, 2) := by decide +kernel
theorem dX12_runs_9 : decode cX12_runs 9 = .ok (.iload 4, 2) := by decide +kernel
theorem dX12_runs_11 : decode cX12_runs 11 = .ok (.ifCond .eq 175, 3) := by decide +kernel
theorem dX12_runs_14 : decode cX12_runs 14 = .ok (.iload_n 3, 1) := by decide +kernel
theorem dX12_runs_15 : decode cX12_runs 15 = .ok (.aload_n 0, 1) := by decide +kernel
theorem dX12_runs_16 : decode cX12_runs 16 = .ok (.getfield 494, 3) := by decide +kernel
theorem dX12_runs_19 : decode cX12_runs 19 = .ok (.if_icmp .ge 167, 3) := by decide +kernel
theorem dX12_runs_186 : decode cX12_runs 186 = .ok (.iload_n 1, 1) := by decide +kernel
theorem dX12_runs_187 : decode cX12_runs 187 = .ok (.ireturn, 1) := by decide +kernel
