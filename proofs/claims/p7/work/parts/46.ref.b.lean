theorem dX12_tell_0 : decode cX12_tell 0 = .ok (.aload_n 0, 1) := by decide +kernel
theorem dX12_tell_1 : decode cX12_tell 1 = .ok (.getfield 69, 3) := by decide +kernel
theorem dX12_tell_4 : decode cX12_tell 4 = .ok (.aload_n 0, 1) := by decide +kernel
theorem dX12_tell_5 : decode cX12_tell 5 = .ok (.getfield 515, 3) := by decide +kernel
theorem dX12_tell_8 : decode cX12_tell 8 = .ok (.iload_n 1, 1) := by decide +kernel
theorem dX12_tell_9 : decode cX12_tell 9 = .ok (.iastore, 1) := by decide +kernel
theorem dX12_tell_10 : decode cX12_tell 10 = .ok (.aload_n 0, 1) := by decide +kernel
theorem dX12_tell_11 : decode cX12_tell 11 = .ok (.dup, 1) := by decide +kernel
theorem dX12_tell_12 : decode cX12_tell 12 = .ok (.getfield 515, 3) := by decide +kernel
theorem dX12_tell_15 : decode cX12_tell 15 = .ok (.iconst 1, 1) := by decide +kernel
theorem dX12_tell_16 : decode cX12_tell 16 = .ok (.iadd, 1) := by decide +kernel
theorem dX12_tell_17 : decode cX12_tell 17 = .ok (.putfield 515, 3) := by decide +kernel
theorem dX12_tell_20 : decode cX12_tell 20 = .ok (.return_, 1) := by decide +kernel
theorem dX12_tellNumber_0 : decode cX12_tellNumber 0 = .ok (.iconst 1, 1) := by decide +kernel
theorem dX12_tellNumber_1 : decode cX12_tellNumber 1 = .ok (.istore_n 2, 1) := by decide +kernel
theorem dX12_tellNumber_2 : decode cX12_tellNumber 2 = .ok (.iload_n 1, 1) := by decide +kernel
theorem dX12_tellNumber_3 : decode cX12_tellNumber 3 = .ok (.iload_n 2, 1) := by decide +kernel
theorem dX12_tellNumber_4 : decode cX12_tellNumber 4 = .ok (.idiv, 1) := by decide +kernel
theorem dX12_tellNumber_5 : decode cX12_tellNumber 5 = .ok (.bipush 9, 2) := by decide +kernel
theorem dX12_tellNumber_7 : decode cX12_tellNumber 7 = .ok (.if_icmp .le 11, 3) := by decide +kernel
theorem dX12_tellNumber_18 : decode cX12_tellNumber 18 = .ok (.iload_n 2, 1) := by decide +kernel
theorem dX12_tellNumber_19 : decode cX12_tellNumber 19 = .ok (.istore_n 3, 1) := by decide +kernel
theorem dX12_tellNumber_20 : decode cX12_tellNumber 20 = .ok (.iload_n 3, 1) := by decide +kernel
theorem dX12_tellNumber_21 : decode cX12_tellNumber 21 = .ok (.ifCond .le 24, 3) := by decide +kernel
theorem dX12_tellNumber_24 : decode cX12_tellNumber 24 = .ok (.aload_n 0, 1) := by decide +kernel
theorem dX12_tellNumber_25 : decode cX12_tellNumber 25 = .ok (.bipush 48, 2) := by decide +kernel
theorem dX12_tellNumber_27 : decode cX12_tellNumber 27 = .ok (.iload_n 1, 1) := by decide +kernel
theorem dX12_tellNumber_28 : decode cX12_tellNumber 28 = .ok (.iload_n 3, 1) := by decide +kernel
theorem dX12_tellNumber_29 : decode cX12_tellNumber 29 = .ok (.idiv, 1) := by decide +kernel
theorem dX12_tellNumber_30 : decode cX12_tellNumber 30 = .ok (.bipush 10, 2) := by decide +kernel
theorem dX12_tellNumber_32 : decode cX12_tellNumber 32 = .ok (.irem, 1) := by decide +kernel
theorem dX12_tellNumber_33 : decode cX12_tellNumber 33 = .ok (.iadd, 1) := by decide +kernel
theorem dX12_tellNumber_34 : decode cX12_tellNumber 34 = .ok (.invokevirtual 518, 3) := by decide +kernel
theorem dX12_tellNumber_37 : decode cX12_tellNumber 37 = .ok (.iload_n 3, 1) := by decide +kernel
theorem dX12_tellNumber_38 : decode cX12_tellNumber 38 = .ok (.bipush 10, 2) := by decide +kernel
theorem dX12_tellNumber_40 : decode cX12_tellNumber 40 = .ok (.idiv, 1) := by decide +kernel
theorem dX12_tellNumber_41 : decode cX12_tellNumber 41 = .ok (.istore_n 3, 1) := by decide +kernel
theorem dX12_tellNumber_42 : decode cX12_tellNumber 42 = .ok (.goto (-22), 3) := by decide +kernel
theorem dX12_tellNumber_45 : decode cX12_tellNumber 45 = .ok (.return_, 1) := by decide +kernel
theorem dX12_tellNumber_10 : decode cX12_tellNumber 10 = .ok (.iload_n 2, 1) := by decide +kernel
theorem dX12_tellNumber_11 : decode cX12_tellNumber 11 = .ok (.bipush 10, 2) := by decide +kernel
theorem dX12_tellNumber_13 : decode cX12_tellNumber 13 = .ok (.imul, 1) := by decide +kernel
theorem dX12_tellNumber_14 : decode cX12_tellNumber 14 = .ok (.istore_n 2, 1) := by decide +kernel
theorem dX12_tellNumber_15 : decode cX12_tellNumber 15 = .ok (.goto (-13), 3) := by decide +kernel
theorem dX12_tellNode_0 : decode cX12_tellNode 0 = .ok (.iconst 0, 1) := by decide +kernel
theorem dX12_tellNode_1 : decode cX12_tellNode 1 = .ok (.istore_n 2, 1) := by decide +kernel
theorem dX12_tellNode_2 : decode cX12_tellNode 2 = .ok (.iload_n 2, 1) := by decide +kernel
theorem dX12_tellNode_3 : decode cX12_tellNode 3 = .ok (.aload_n 0, 1) := by decide +kernel
theorem dX12_tellNode_4 : decode cX12_tellNode 4 = .ok (.getfield 35, 3) := by decide +kernel
theorem dX12_tellNode_7 : decode cX12_tellNode 7 = .ok (.iload_n 1, 1) := by decide +kernel
theorem dX12_tellNode_8 : decode cX12_tellNode 8 = .ok (.laload, 1) := by decide +kernel
theorem dX12_tellNode_9 : decode cX12_tellNode 9 = .ok (.invokestatic 378, 3) := by decide +kernel
theorem dX12_tellNode_12 : decode cX12_tellNode 12 = .ok (.if_icmp .ge 23, 3) := by decide +kernel
theorem dX12_tellNode_35 : decode cX12_tellNode 35 = .ok (.aload_n 0, 1) := by decide +kernel
theorem dX12_tellNode_36 : decode cX12_tellNode 36 = .ok (.bipush 32, 2) := by decide +kernel
theorem dX12_tellNode_38 : decode cX12_tellNode 38 = .ok (.invokevirtual 518, 3) := by decide +kernel
theorem dX12_tellNode_41 : decode cX12_tellNode 41 = .ok (.aload_n 0, 1) := by decide +kernel
theorem dX12_tellNode_42 : decode cX12_tellNode 42 = .ok (.aload_n 0, 1) := by decide +kernel
theorem dX12_tellNode_43 : decode cX12_tellNode 43 = .ok (.iload_n 1, 1) := by decide +kernel
theorem dX12_tellNode_44 : decode cX12_tellNode 44 = .ok (.invokevirtual 289, 3) := by decide +kernel
theorem dX12_tellNode_47 : decode cX12_tellNode 47 = .ok (.invokevirtual 521, 3) := by decide +kernel
theorem dX12_tellNode_50 : decode cX12_tellNode 50 = .ok (.aload_n 0, 1) := by decide +kernel
theorem dX12_tellNode_51 : decode cX12_tellNode 51 = .ok (.bipush 47, 2) := by decide +kernel
theorem dX12_tellNode_53 : decode cX12_tellNode 53 = .ok (.invokevirtual 518, 3) := by decide +kernel
theorem dX12_tellNode_56 : decode cX12_tellNode 56 = .ok (.aload_n 0, 1) := by decide +kernel
theorem dX12_tellNode_57 : decode cX12_tellNode 57 = .ok (.aload_n 0, 1) := by decide +kernel
theorem dX12_tellNode_58 : decode cX12_tellNode 58 = .ok (.iload_n 1, 1) := by decide +kernel
theorem dX12_tellNode_59 : decode cX12_tellNode 59 = .ok (.iconst 2, 1) := by decide +kernel
theorem dX12_tellNode_60 : decode cX12_tellNode 60 = .ok (.invokevirtual 256, 3) := by decide +kernel
theorem dX12_tellNode_63 : decode cX12_tellNode 63 = .ok (.invokevirtual 521, 3) := by decide +kernel
theorem dX12_tellNode_66 : decode cX12_tellNode 66 = .ok (.aload_n 0, 1) := by decide +kernel
theorem dX12_tellNode_67 : decode cX12_tellNode 67 = .ok (.iload_n 1, 1) := by decide +kernel
theorem dX12_tellNode_68 : decode cX12_tellNode 68 = .ok (.invokevirtual 362, 3) := by decide +kernel
theorem dX12_tellNode_71 : decode cX12_tellNode 71 = .ok (.ifCond .eq 9, 3) := by decide +kernel
theorem dX12_tellNode_80 : decode cX12_tellNode 80 = .ok (.iconst 0, 1) := by decide +kernel
theorem dX12_tellNode_81 : decode cX12_tellNode 81 = .ok (.istore_n 2, 1) := by decide +kernel
theorem dX12_tellNode_74 : decode cX12_tellNode 74 = .ok (.aload_n 0, 1) := by decide +kernel
theorem dX12_tellNode_75 : decode cX12_tellNode 75 = .ok (.bipush 42, 2) := by decide +kernel
theorem dX12_tellNode_77 : decode cX12_tellNode 77 = .ok (.invokevirtual 518, 3) := by decide +kernel
theorem dX12_tellNode_15 : decode cX12_tellNode 15 = .ok (.aload_n 0, 1) := by decide +kernel
theorem dX12_tellNode_16 : decode cX12_tellNode 16 = .ok (.aload_n 0, 1) := by decide +kernel
theorem dX12_tellNode_17 : decode cX12_tellNode 17 = .ok (.getfield 35, 3) := by decide +kernel
theorem dX12_tellNode_20 : decode cX12_tellNode 20 = .ok (.iload_n 1, 1) := by decide +kernel
theorem dX12_tellNode_21 : decode cX12_tellNode 21 = .ok (.laload, 1) := by decide +kernel
theorem dX12_tellNode_22 : decode cX12_tellNode 22 = .ok (.iload_n 2, 1) := by decide +kernel
theorem dX12_tellNode_23 : decode cX12_tellNode 23 = .ok (.invokestatic 384, 3) := by decide +kernel
theorem dX12_tellNode_26 : decode cX12_tellNode 26 = .ok (.invokevirtual 518, 3) := by decide +kernel
theorem dX12_tellNode_29 : decode cX12_tellNode 29 = .ok (.iinc 2 1, 3) := by decide +kernel
theorem dX12_tellNode_32 : decode cX12_tellNode 32 = .ok (.goto (-30), 3) := by decide +kernel
theorem dX12_tellNode_82 : decode cX12_tellNode 82 = .ok (.iload_n 2, 1) := by decide +kernel
theorem dX12_tellNode_83 : decode cX12_tellNode 83 = .ok (.aload_n 0, 1) := by decide +kernel
theorem dX12_tellNode_84 : decode cX12_tellNode 84 = .ok (.getfield 20, 3) := by decide +kernel
theorem dX12_tellNode_87 : decode cX12_tellNode 87 = .ok (.iconst 4, 1) := by decide +kernel
theorem dX12_tellNode_88 : decode cX12_tellNode 88 = .ok (.iaload, 1) := by decide +kernel
theorem dX12_tellNode_89 : decode cX12_tellNode 89 = .ok (.if_icmp .ge 48, 3) := by decide +kernel
theorem dX12_tellNode_137 : decode cX12_tellNode 137 = .ok (.aload_n 0, 1) := by decide +kernel
theorem dX12_tellNode_138 : decode cX12_tellNode 138 = .ok (.bipush 10, 2) := by decide +kernel
theorem dX12_tellNode_140 : decode cX12_tellNode 140 = .ok (.invokevirtual 518, 3) := by decide +kernel
theorem dX12_tellNode_143 : decode cX12_tellNode 143 = .ok (.return_, 1) := by decide +kernel
theorem dX12_tellNode_92 : decode cX12_tellNode 92 = .ok (.aload_n 0, 1) := by decide +kernel
theorem dX12_tellNode_93 : decode cX12_tellNode 93 = .ok (.iload_n 2, 1) := by decide +kernel
theorem dX12_tellNode_94 : decode cX12_tellNode 94 = .ok (.iload_n 1, 1) := by decide +kernel
theorem dX12_tellNode_95 : decode cX12_tellNode 95 = .ok (.invokevirtual 352, 3) := by decide +kernel
theorem dX12_tellNode_98 : decode cX12_tellNode 98 = .ok (.ifCond .ne 6, 3) := by decide +kernel
theorem dX12_tellNode_104 : decode cX12_tellNode 104 = .ok (.aload_n 0, 1) := by decide +kernel
theorem dX12_tellNode_105 : decode cX12_tellNode 105 = .ok (.bipush 32, 2) := by decide +kernel
theorem dX12_tellNode_107 : decode cX12_tellNode 107 = .ok (.invokevirtual 518, 3) := by decide +kernel
theorem dX12_tellNode_110 : decode cX12_tellNode 110 = .ok (.aload_n 0, 1) := by decide +kernel
theorem dX12_tellNode_111 : decode cX12_tellNode 111 = .ok (.iload_n 2, 1) := by decide +kernel
theorem dX12_tellNode_112 : decode cX12_tellNode 112 = .ok (.invokevirtual 521, 3) := by decide +kernel
theorem dX12_tellNode_115 : decode cX12_tellNode 115 = .ok (.aload_n 0, 1) := by decide +kernel
theorem dX12_tellNode_116 : decode cX12_tellNode 116 = .ok (.iload_n 2, 1) := by decide +kernel
theorem dX12_tellNode_117 : decode cX12_tellNode 117 = .ok (.iconst 5, 1) := by decide +kernel
theorem dX12_tellNode_118 : decode cX12_tellNode 118 = .ok (.invokevirtual 308, 3) := by decide +kernel
theorem dX12_tellNode_121 : decode cX12_tellNode 121 = .ok (.iconst 1, 1) := by decide +kernel
theorem dX12_tellNode_122 : decode cX12_tellNode 122 = .ok (.if_icmp .ne 9, 3) := by decide +kernel
theorem dX12_tellNode_131 : decode cX12_tellNode 131 = .ok (.iinc 2 1, 3) := by decide +kernel
theorem dX12_tellNode_134 : decode cX12_tellNode 134 = .ok (.goto (-52), 3) := by decide +kernel
theorem dX12_tellNode_125 : decode cX12_tellNode 125 = .ok (.aload_n 0, 1) := by decide +kernel
theorem dX12_tellNode_126 : decode cX12_tellNode 126 = .ok (.bipush 33, 2) := by decide +kernel
theorem dX12_tellNode_128 : decode cX12_tellNode 128 = .ok (.invokevirtual 518, 3) := by decide +kernel
theorem dX12_tellNode_101 : decode cX12_tellNode 101 = .ok (.goto 30, 3) := by decide +kernel
theorem dX12_report_0 : decode cX12_report 0 = .ok (.aload_n 0, 1) := by decide +kernel
theorem dX12_report_1 : decode cX12_report 1 = .ok (.iconst 0, 1) := by decide +kernel
theorem dX12_report_2 : decode cX12_report 2 = .ok (.putfield 75, 3) := by decide +kernel
theorem dX12_report_5 : decode cX12_report 5 = .ok (.aload_n 0, 1) := by decide +kernel
theorem dX12_report_6 : decode cX12_report 6 = .ok (.iconst 0, 1) := by decide +kernel
theorem dX12_report_7 : decode cX12_report 7 = .ok (.putfield 515, 3) := by decide +kernel
theorem dX12_report_10 : decode cX12_report 10 = .ok (.aload_n 0, 1) := by decide +kernel
theorem dX12_report_11 : decode cX12_report 11 = .ok (.iconst 1, 1) := by decide +kernel
theorem dX12_report_12 : decode cX12_report 12 = .ok (.putfield 524, 3) := by decide +kernel
theorem dX12_report_15 : decode cX12_report 15 = .ok (.iconst 0, 1) := by decide +kernel
theorem dX12_report_16 : decode cX12_report 16 = .ok (.istore_n 1, 1) := by decide +kernel
theorem dX12_report_17 : decode cX12_report 17 = .ok (.iload_n 1, 1) := by decide +kernel
theorem dX12_report_18 : decode cX12_report 18 = .ok (.aload_n 0, 1) := by decide +kernel
theorem dX12_report_19 : decode cX12_report 19 = .ok (.getfield 20, 3) := by decide +kernel
theorem dX12_report_22 : decode cX12_report 22 = .ok (.iconst 0, 1) := by decide +kernel
theorem dX12_report_23 : decode cX12_report 23 = .ok (.iaload, 1) := by decide +kernel
theorem dX12_report_24 : decode cX12_report 24 = .ok (.if_icmp .ge 14, 3) := by decide +kernel
theorem dX12_report_38 : decode cX12_report 38 = .ok (.aload_n 0, 1) := by decide +kernel
theorem dX12_report_39 : decode cX12_report 39 = .ok (.getfield 515, 3) := by decide +kernel
theorem dX12_report_42 : decode cX12_report 42 = .ok (.ireturn, 1) := by decide +kernel
theorem dX12_report_27 : decode cX12_report 27 = .ok (.aload_n 0, 1) := by decide +kernel
theorem dX12_report_28 : decode cX12_report 28 = .ok (.iload_n 1, 1) := by decide +kernel
theorem dX12_report_29 : decode cX12_report 29 = .ok (.invokevirtual 527, 3) := by decide +kernel
theorem dX12_report_32 : decode cX12_report 32 = .ok (.iinc 1 1, 3) := by decide +kernel
theorem dX12_report_35 : decode cX12_report 35 = .ok (.goto (-18), 3) := by decide +kernel
theorem dX12_reportByte_0 : decode cX12_reportByte 0 = .ok (.aload_n 0, 1) := by decide +kernel
theorem dX12_reportByte_1 : decode cX12_reportByte 1 = .ok (.aload_n 0, 1) := by decide +kernel
theorem dX12_reportByte_2 : decode cX12_reportByte 2 = .ok (.getfield 524, 3) := by decide +kernel
theorem dX12_reportByte_5 : decode cX12_reportByte 5 = .ok (.ifCond .eq 23, 3) := by decide +kernel
theorem dX12_reportByte_28 : decode cX12_reportByte 28 = .ok (.iconst 0, 1) := by decide +kernel
theorem dX12_reportByte_29 : decode cX12_reportByte 29 = .ok (.invokevirtual 85, 3) := by decide +kernel
theorem dX12_reportByte_32 : decode cX12_reportByte 32 = .ok (.ifCond .eq 12, 3) := by decide +kernel
theorem dX12_reportByte_44 : decode cX12_reportByte 44 = .ok (.iconst 0, 1) := by decide +kernel
theorem dX12_reportByte_45 : decode cX12_reportByte 45 = .ok (.ireturn, 1) := by decide +kernel
theorem dX12_reportByte_8 : decode cX12_reportByte 8 = .ok (.iload_n 1, 1) := by decide +kernel
theorem dX12_reportByte_9 : decode cX12_reportByte 9 = .ok (.i2l, 1) := by decide +kernel
theorem dX12_reportByte_10 : decode cX12_reportByte 10 = .ok (.lconst 0, 1) := by decide +kernel
theorem dX12_reportByte_11 : decode cX12_reportByte 11 = .ok (.aload_n 0, 1) := by decide +kernel
theorem dX12_reportByte_12 : decode cX12_reportByte 12 = .ok (.getfield 515, 3) := by decide +kernel
theorem dX12_reportByte_15 : decode cX12_reportByte 15 = .ok (.iconst 1, 1) := by decide +kernel
theorem dX12_reportByte_16 : decode cX12_reportByte 16 = .ok (.isub, 1) := by decide +kernel
theorem dX12_reportByte_17 : decode cX12_reportByte 17 = .ok (.i2l, 1) := by decide +kernel
theorem dX12_reportByte_18 : decode cX12_reportByte 18 = .ok (.invokestatic 93, 3) := by decide +kernel
theorem dX12_reportByte_21 : decode cX12_reportByte 21 = .ok (.ifCond .eq 7, 3) := by decide +kernel
theorem dX12_reportByte_24 : decode cX12_reportByte 24 = .ok (.iconst 1, 1) := by decide +kernel
theorem dX12_reportByte_25 : decode cX12_reportByte 25 = .ok (.goto 4, 3) := by decide +kernel
theorem dX12_reportByte_35 : decode cX12_reportByte 35 = .ok (.aload_n 0, 1) := by decide +kernel
theorem dX12_reportByte_36 : decode cX12_reportByte 36 = .ok (.getfield 69, 3) := by decide +kernel
theorem dX12_reportByte_39 : decode cX12_reportByte 39 = .ok (.iload_n 1, 1) := by decide +kernel
theorem dX12_reportByte_40 : decode cX12_reportByte 40 = .ok (.iaload, 1) := by decide +kernel
theorem dX12_reportByte_41 : decode cX12_reportByte 41 = .ok (.goto 4, 3) := by decide +kernel
