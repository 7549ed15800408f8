theorem dX8_hasRoomForFeed_0 : decode cX8_hasRoomForFeed 0 = .ok (.aload_n 0, 1) := by decide +kernel
theorem dX8_hasRoomForFeed_1 : decode cX8_hasRoomForFeed 1 = .ok (.getfield 19, 3) := by decide +kernel
theorem dX8_hasRoomForFeed_4 : decode cX8_hasRoomForFeed 4 = .ok (.bipush 20, 2) := by decide +kernel
theorem dX8_hasRoomForFeed_6 : decode cX8_hasRoomForFeed 6 = .ok (.iadd, 1) := by decide +kernel
theorem dX8_hasRoomForFeed_7 : decode cX8_hasRoomForFeed 7 = .ok (.sipush 600, 3) := by decide +kernel
theorem dX8_hasRoomForFeed_10 : decode cX8_hasRoomForFeed 10 = .ok (.if_icmp .gt 7, 3) := by decide +kernel
theorem dX8_hasRoomForFeed_13 : decode cX8_hasRoomForFeed 13 = .ok (.iconst 1, 1) := by decide +kernel
theorem dX8_hasRoomForFeed_14 : decode cX8_hasRoomForFeed 14 = .ok (.goto 4, 3) := by decide +kernel
theorem dX8_hasRoomForFeed_18 : decode cX8_hasRoomForFeed 18 = .ok (.ireturn, 1) := by decide +kernel
theorem dX8_hasRoomForFeed_17 : decode cX8_hasRoomForFeed 17 = .ok (.iconst 0, 1) := by decide +kernel
theorem dX8_append_0 : decode cX8_append 0 = .ok (.bipush 24, 2) := by decide +kernel
theorem dX8_append_2 : decode cX8_append 2 = .ok (.istore_n 2, 1) := by decide +kernel
theorem dX8_append_3 : decode cX8_append 3 = .ok (.iload_n 2, 1) := by decide +kernel
theorem dX8_append_4 : decode cX8_append 4 = .ok (.ifCond .lt 51, 3) := by decide +kernel
theorem dX8_append_7 : decode cX8_append 7 = .ok (.aload_n 0, 1) := by decide +kernel
theorem dX8_append_8 : decode cX8_append 8 = .ok (.getfield 19, 3) := by decide +kernel
theorem dX8_append_11 : decode cX8_append 11 = .ok (.ifCond .lt 38, 3) := by decide +kernel
theorem dX8_append_14 : decode cX8_append 14 = .ok (.aload_n 0, 1) := by decide +kernel
theorem dX8_append_15 : decode cX8_append 15 = .ok (.getfield 19, 3) := by decide +kernel
theorem dX8_append_18 : decode cX8_append 18 = .ok (.aload_n 0, 1) := by decide +kernel
theorem dX8_append_19 : decode cX8_append 19 = .ok (.getfield 11, 3) := by decide +kernel
theorem dX8_append_22 : decode cX8_append 22 = .ok (.arraylength, 1) := by decide +kernel
theorem dX8_append_23 : decode cX8_append 23 = .ok (.if_icmp .ge 26, 3) := by decide +kernel
theorem dX8_append_26 : decode cX8_append 26 = .ok (.aload_n 0, 1) := by decide +kernel
theorem dX8_append_27 : decode cX8_append 27 = .ok (.getfield 11, 3) := by decide +kernel
theorem dX8_append_30 : decode cX8_append 30 = .ok (.aload_n 0, 1) := by decide +kernel
theorem dX8_append_31 : decode cX8_append 31 = .ok (.getfield 19, 3) := by decide +kernel
theorem dX8_append_34 : decode cX8_append 34 = .ok (.iload_n 1, 1) := by decide +kernel
theorem dX8_append_35 : decode cX8_append 35 = .ok (.iload_n 2, 1) := by decide +kernel
theorem dX8_append_36 : decode cX8_append 36 = .ok (.ishr, 1) := by decide +kernel
theorem dX8_append_37 : decode cX8_append 37 = .ok (.i2b, 1) := by decide +kernel
theorem dX8_append_38 : decode cX8_append 38 = .ok (.bastore, 1) := by decide +kernel
theorem dX8_append_39 : decode cX8_append 39 = .ok (.aload_n 0, 1) := by decide +kernel
theorem dX8_append_40 : decode cX8_append 40 = .ok (.dup, 1) := by decide +kernel
theorem dX8_append_41 : decode cX8_append 41 = .ok (.getfield 19, 3) := by decide +kernel
theorem dX8_append_44 : decode cX8_append 44 = .ok (.iconst 1, 1) := by decide +kernel
theorem dX8_append_45 : decode cX8_append 45 = .ok (.iadd, 1) := by decide +kernel
theorem dX8_append_46 : decode cX8_append 46 = .ok (.putfield 19, 3) := by decide +kernel
theorem dX8_append_49 : decode cX8_append 49 = .ok (.iinc 2 (-8), 3) := by decide +kernel
theorem dX8_append_52 : decode cX8_append 52 = .ok (.goto (-49), 3) := by decide +kernel
theorem dX8_append_55 : decode cX8_append 55 = .ok (.return_, 1) := by decide +kernel
theorem dX8_isWord_0 : decode cX8_isWord 0 = .ok (.aload_n 0, 1) := by decide +kernel
theorem dX8_isWord_1 : decode cX8_isWord 1 = .ok (.getfield 40, 3) := by decide +kernel
theorem dX8_isWord_4 : decode cX8_isWord 4 = .ok (.iconst 1, 1) := by decide +kernel
theorem dX8_isWord_5 : decode cX8_isWord 5 = .ok (.if_icmp .eq 5, 3) := by decide +kernel
theorem dX8_isWord_10 : decode cX8_isWord 10 = .ok (.iconst 0, 1) := by decide +kernel
theorem dX8_isWord_11 : decode cX8_isWord 11 = .ok (.istore_n 2, 1) := by decide +kernel
theorem dX8_isWord_12 : decode cX8_isWord 12 = .ok (.iload_n 2, 1) := by decide +kernel
theorem dX8_isWord_13 : decode cX8_isWord 13 = .ok (.bipush 8, 2) := by decide +kernel
theorem dX8_isWord_15 : decode cX8_isWord 15 = .ok (.if_icmp .ge 39, 3) := by decide +kernel
theorem dX8_isWord_18 : decode cX8_isWord 18 = .ok (.aload_n 0, 1) := by decide +kernel
theorem dX8_isWord_19 : decode cX8_isWord 19 = .ok (.getfield 56, 3) := by decide +kernel
theorem dX8_isWord_22 : decode cX8_isWord 22 = .ok (.iload_n 2, 1) := by decide +kernel
theorem dX8_isWord_23 : decode cX8_isWord 23 = .ok (.invokestatic 63, 3) := by decide +kernel
theorem dX8_isWord_26 : decode cX8_isWord 26 = .ok (.iload_n 2, 1) := by decide +kernel
theorem dX8_isWord_27 : decode cX8_isWord 27 = .ok (.aload_n 1, 1) := by decide +kernel
theorem dX8_isWord_28 : decode cX8_isWord 28 = .ok (.invokevirtual 67, 3) := by decide +kernel
theorem dX8_isWord_31 : decode cX8_isWord 31 = .ok (.if_icmp .ge 11, 3) := by decide +kernel
theorem dX8_isWord_34 : decode cX8_isWord 34 = .ok (.aload_n 1, 1) := by decide +kernel
theorem dX8_isWord_35 : decode cX8_isWord 35 = .ok (.iload_n 2, 1) := by decide +kernel
theorem dX8_isWord_36 : decode cX8_isWord 36 = .ok (.invokevirtual 72, 3) := by decide +kernel
theorem dX8_isWord_39 : decode cX8_isWord 39 = .ok (.goto 4, 3) := by decide +kernel
theorem dX8_isWord_43 : decode cX8_isWord 43 = .ok (.if_icmp .eq 5, 3) := by decide +kernel
theorem dX8_isWord_48 : decode cX8_isWord 48 = .ok (.iinc 2 1, 3) := by decide +kernel
theorem dX8_isWord_51 : decode cX8_isWord 51 = .ok (.goto (-39), 3) := by decide +kernel
theorem dX8_isWord_42 : decode cX8_isWord 42 = .ok (.iconst 0, 1) := by decide +kernel
theorem dX8_isWord_54 : decode cX8_isWord 54 = .ok (.iconst 1, 1) := by decide +kernel
theorem dX8_isWord_55 : decode cX8_isWord 55 = .ok (.ireturn, 1) := by decide +kernel
theorem dX8_isWord_46 : decode cX8_isWord 46 = .ok (.iconst 0, 1) := by decide +kernel
theorem dX8_isWord_47 : decode cX8_isWord 47 = .ok (.ireturn, 1) := by decide +kernel
theorem dX8_isWord_8 : decode cX8_isWord 8 = .ok (.iconst 0, 1) := by decide +kernel
theorem dX8_isWord_9 : decode cX8_isWord 9 = .ok (.ireturn, 1) := by decide +kernel
theorem dX8_takeWord_0 : decode cX8_takeWord 0 = .ok (.aload_n 0, 1) := by decide +kernel
theorem dX8_takeWord_1 : decode cX8_takeWord 1 = .ok (.aload_n 1, 1) := by decide +kernel
theorem dX8_takeWord_2 : decode cX8_takeWord 2 = .ok (.invokevirtual 82, 3) := by decide +kernel
theorem dX8_takeWord_5 : decode cX8_takeWord 5 = .ok (.ifCond .ne 9, 3) := by decide +kernel
theorem dX8_takeWord_14 : decode cX8_takeWord 14 = .ok (.aload_n 0, 1) := by decide +kernel
theorem dX8_takeWord_15 : decode cX8_takeWord 15 = .ok (.invokevirtual 30, 3) := by decide +kernel
theorem dX8_takeWord_18 : decode cX8_takeWord 18 = .ok (.iconst 1, 1) := by decide +kernel
theorem dX8_takeWord_19 : decode cX8_takeWord 19 = .ok (.ireturn, 1) := by decide +kernel
theorem dX8_takeWord_8 : decode cX8_takeWord 8 = .ok (.aload_n 0, 1) := by decide +kernel
theorem dX8_takeWord_9 : decode cX8_takeWord 9 = .ok (.iconst 1, 1) := by decide +kernel
theorem dX8_takeWord_10 : decode cX8_takeWord 10 = .ok (.invokevirtual 79, 3) := by decide +kernel
theorem dX8_takeWord_13 : decode cX8_takeWord 13 = .ok (.ireturn, 1) := by decide +kernel
theorem dX9_readNode_0 : decode cX9_readNode 0 = .ok (.aload_n 2, 1) := by decide +kernel
theorem dX9_readNode_1 : decode cX9_readNode 1 = .ok (.getfield 103, 3) := by decide +kernel
theorem dX9_readNode_4 : decode cX9_readNode 4 = .ok (.bipush 10, 2) := by decide +kernel
theorem dX9_readNode_6 : decode cX9_readNode 6 = .ok (.if_icmp .lt 9, 3) := by decide +kernel
theorem dX9_readNode_15 : decode cX9_readNode 15 = .ok (.aload_n 1, 1) := by decide +kernel
theorem dX9_readNode_16 : decode cX9_readNode 16 = .ok (.invokevirtual 78, 3) := by decide +kernel
theorem dX9_readNode_19 : decode cX9_readNode 19 = .ok (.aload_n 1, 1) := by decide +kernel
theorem dX9_readNode_20 : decode cX9_readNode 20 = .ok (.invokevirtual 106, 3) := by decide +kernel
theorem dX9_readNode_23 : decode cX9_readNode 23 = .ok (.ifCond .ne 5, 3) := by decide +kernel
theorem dX9_readNode_28 : decode cX9_readNode 28 = .ok (.aload_n 1, 1) := by decide +kernel
theorem dX9_readNode_29 : decode cX9_readNode 29 = .ok (.getfield 109, 3) := by decide +kernel
theorem dX9_readNode_32 : decode cX9_readNode 32 = .ok (.lstore_n 3, 1) := by decide +kernel
theorem dX9_readNode_33 : decode cX9_readNode 33 = .ok (.aload_n 2, 1) := by decide +kernel
theorem dX9_readNode_34 : decode cX9_readNode 34 = .ok (.lload_n 3, 1) := by decide +kernel
theorem dX9_readNode_35 : decode cX9_readNode 35 = .ok (.invokevirtual 113, 3) := by decide +kernel
theorem dX9_readNode_38 : decode cX9_readNode 38 = .ok (.iconst (-1), 1) := by decide +kernel
theorem dX9_readNode_39 : decode cX9_readNode 39 = .ok (.if_icmp .eq 9, 3) := by decide +kernel
theorem dX9_readNode_48 : decode cX9_readNode 48 = .ok (.aload_n 1, 1) := by decide +kernel
theorem dX9_readNode_49 : decode cX9_readNode 49 = .ok (.invokevirtual 78, 3) := by decide +kernel
theorem dX9_readNode_52 : decode cX9_readNode 52 = .ok (.aload_n 1, 1) := by decide +kernel
theorem dX9_readNode_53 : decode cX9_readNode 53 = .ok (.ldc 117, 2) := by decide +kernel
theorem dX9_readNode_55 : decode cX9_readNode 55 = .ok (.invokevirtual 119, 3) := by decide +kernel
theorem dX9_readNode_58 : decode cX9_readNode 58 = .ok (.ifCond .eq 13, 3) := by decide +kernel
theorem dX9_readNode_61 : decode cX9_readNode 61 = .ok (.aload_n 1, 1) := by decide +kernel
theorem dX9_readNode_62 : decode cX9_readNode 62 = .ok (.iconst 0, 1) := by decide +kernel
theorem dX9_readNode_63 : decode cX9_readNode 63 = .ok (.bipush 59, 2) := by decide +kernel
theorem dX9_readNode_65 : decode cX9_readNode 65 = .ok (.invokevirtual 81, 3) := by decide +kernel
theorem dX9_readNode_68 : decode cX9_readNode 68 = .ok (.ifCond .ne 5, 3) := by decide +kernel
theorem dX9_readNode_73 : decode cX9_readNode 73 = .ok (.aload_n 1, 1) := by decide +kernel
theorem dX9_readNode_74 : decode cX9_readNode 74 = .ok (.getfield 85, 3) := by decide +kernel
theorem dX9_readNode_77 : decode cX9_readNode 77 = .ok (.istore 5, 2) := by decide +kernel
theorem dX9_readNode_79 : decode cX9_readNode 79 = .ok (.iconst 0, 1) := by decide +kernel
theorem dX9_readNode_80 : decode cX9_readNode 80 = .ok (.istore 6, 2) := by decide +kernel
theorem dX9_readNode_82 : decode cX9_readNode 82 = .ok (.aload_n 1, 1) := by decide +kernel
theorem dX9_readNode_83 : decode cX9_readNode 83 = .ok (.ldc 122, 2) := by decide +kernel
theorem dX9_readNode_85 : decode cX9_readNode 85 = .ok (.invokevirtual 48, 3) := by decide +kernel
theorem dX9_readNode_88 : decode cX9_readNode 88 = .ok (.ifCond .eq 25, 3) := by decide +kernel
theorem dX9_readNode_91 : decode cX9_readNode 91 = .ok (.aload_n 1, 1) := by decide +kernel
theorem dX9_readNode_92 : decode cX9_readNode 92 = .ok (.invokevirtual 78, 3) := by decide +kernel
theorem dX9_readNode_95 : decode cX9_readNode 95 = .ok (.aload_n 1, 1) := by decide +kernel
theorem dX9_readNode_96 : decode cX9_readNode 96 = .ok (.iconst 0, 1) := by decide +kernel
theorem dX9_readNode_97 : decode cX9_readNode 97 = .ok (.bipush 59, 2) := by decide +kernel
theorem dX9_readNode_99 : decode cX9_readNode 99 = .ok (.invokevirtual 81, 3) := by decide +kernel
theorem dX9_readNode_102 : decode cX9_readNode 102 = .ok (.ifCond .ne 5, 3) := by decide +kernel
theorem dX9_readNode_107 : decode cX9_readNode 107 = .ok (.aload_n 1, 1) := by decide +kernel
theorem dX9_readNode_108 : decode cX9_readNode 108 = .ok (.getfield 85, 3) := by decide +kernel
theorem dX9_readNode_111 : decode cX9_readNode 111 = .ok (.istore 6, 2) := by decide +kernel
theorem dX9_readNode_105 : decode cX9_readNode 105 = .ok (.iconst 0, 1) := by decide +kernel
theorem dX9_readNode_106 : decode cX9_readNode 106 = .ok (.ireturn, 1) := by decide +kernel
theorem dX9_readNode_42 : decode cX9_readNode 42 = .ok (.aload_n 1, 1) := by decide +kernel
theorem dX9_readNode_43 : decode cX9_readNode 43 = .ok (.iconst 3, 1) := by decide +kernel
theorem dX9_readNode_44 : decode cX9_readNode 44 = .ok (.invokevirtual 75, 3) := by decide +kernel
theorem dX9_readNode_47 : decode cX9_readNode 47 = .ok (.ireturn, 1) := by decide +kernel
theorem dX9_readNode_26 : decode cX9_readNode 26 = .ok (.iconst 0, 1) := by decide +kernel
theorem dX9_readNode_27 : decode cX9_readNode 27 = .ok (.ireturn, 1) := by decide +kernel
theorem dX9_readNode_9 : decode cX9_readNode 9 = .ok (.aload_n 1, 1) := by decide +kernel
theorem dX9_readNode_10 : decode cX9_readNode 10 = .ok (.iconst 5, 1) := by decide +kernel
theorem dX9_readNode_11 : decode cX9_readNode 11 = .ok (.invokevirtual 75, 3) := by decide +kernel
theorem dX9_readNode_14 : decode cX9_readNode 14 = .ok (.ireturn, 1) := by decide +kernel
theorem dX9_readNode_71 : decode cX9_readNode 71 = .ok (.iconst 0, 1) := by decide +kernel
theorem dX9_readNode_72 : decode cX9_readNode 72 = .ok (.ireturn, 1) := by decide +kernel
theorem dX9_readNode_113 : decode cX9_readNode 113 = .ok (.aload_n 1, 1) := by decide +kernel
theorem dX9_readNode_114 : decode cX9_readNode 114 = .ok (.ldc 124, 2) := by decide +kernel
theorem dX9_readNode_116 : decode cX9_readNode 116 = .ok (.invokevirtual 119, 3) := by decide +kernel
theorem dX9_readNode_119 : decode cX9_readNode 119 = .ok (.ifCond .eq 14, 3) := by decide +kernel
theorem dX9_readNode_122 : decode cX9_readNode 122 = .ok (.aload_n 1, 1) := by decide +kernel
theorem dX9_readNode_123 : decode cX9_readNode 123 = .ok (.iconst 1, 1) := by decide +kernel
theorem dX9_readNode_124 : decode cX9_readNode 124 = .ok (.sipush 999, 3) := by decide +kernel
theorem dX9_readNode_127 : decode cX9_readNode 127 = .ok (.invokevirtual 81, 3) := by decide +kernel
theorem dX9_readNode_130 : decode cX9_readNode 130 = .ok (.ifCond .ne 5, 3) := by decide +kernel
theorem dX9_readNode_135 : decode cX9_readNode 135 = .ok (.aload_n 2, 1) := by decide +kernel
theorem dX9_readNode_136 : decode cX9_readNode 136 = .ok (.lload_n 3, 1) := by decide +kernel
theorem dX9_readNode_137 : decode cX9_readNode 137 = .ok (.iload 5, 2) := by decide +kernel
theorem dX9_readNode_139 : decode cX9_readNode 139 = .ok (.iload 6, 2) := by decide +kernel
theorem dX9_readNode_141 : decode cX9_readNode 141 = .ok (.aload_n 1, 1) := by decide +kernel
theorem dX9_readNode_142 : decode cX9_readNode 142 = .ok (.getfield 85, 3) := by decide +kernel
theorem dX9_readNode_145 : decode cX9_readNode 145 = .ok (.invokevirtual 126, 3) := by decide +kernel
theorem dX9_readNode_148 : decode cX9_readNode 148 = .ok (.iconst 1, 1) := by decide +kernel
theorem dX9_readNode_149 : decode cX9_readNode 149 = .ok (.ireturn, 1) := by decide +kernel
theorem dX9_readNode_133 : decode cX9_readNode 133 = .ok (.iconst 0, 1) := by decide +kernel
theorem dX9_readNode_134 : decode cX9_readNode 134 = .ok (.ireturn, 1) := by decide +kernel
theorem dX9_readStatement_0 : decode cX9_readStatement 0 = .ok (.aload_n 1, 1) := by decide +kernel
theorem dX9_readStatement_1 : decode cX9_readStatement 1 = .ok (.ldc 46, 2) := by decide +kernel
theorem dX9_readStatement_3 : decode cX9_readStatement 3 = .ok (.invokevirtual 48, 3) := by decide +kernel
theorem dX9_readStatement_6 : decode cX9_readStatement 6 = .ok (.ifCond .eq 10, 3) := by decide +kernel
theorem dX9_readStatement_16 : decode cX9_readStatement 16 = .ok (.aload_n 1, 1) := by decide +kernel
theorem dX9_readStatement_17 : decode cX9_readStatement 17 = .ok (.ldc 55, 2) := by decide +kernel
theorem dX9_readStatement_19 : decode cX9_readStatement 19 = .ok (.invokevirtual 48, 3) := by decide +kernel
theorem dX9_readStatement_22 : decode cX9_readStatement 22 = .ok (.ifCond .eq 10, 3) := by decide +kernel
theorem dX9_readStatement_32 : decode cX9_readStatement 32 = .ok (.aload_n 1, 1) := by decide +kernel
theorem dX9_readStatement_33 : decode cX9_readStatement 33 = .ok (.ldc 60, 2) := by decide +kernel
theorem dX9_readStatement_35 : decode cX9_readStatement 35 = .ok (.invokevirtual 48, 3) := by decide +kernel
theorem dX9_readStatement_38 : decode cX9_readStatement 38 = .ok (.ifCond .eq 10, 3) := by decide +kernel
theorem dX9_readStatement_48 : decode cX9_readStatement 48 = .ok (.aload_n 1, 1) := by decide +kernel
theorem dX9_readStatement_49 : decode cX9_readStatement 49 = .ok (.ldc 65, 2) := by decide +kernel
theorem dX9_readStatement_51 : decode cX9_readStatement 51 = .ok (.invokevirtual 48, 3) := by decide +kernel
theorem dX9_readStatement_54 : decode cX9_readStatement 54 = .ok (.ifCond .eq 10, 3) := by decide +kernel
theorem dX9_readStatement_64 : decode cX9_readStatement 64 = .ok (.aload_n 1, 1) := by decide +kernel
theorem dX9_readStatement_65 : decode cX9_readStatement 65 = .ok (.ldc 70, 2) := by decide +kernel
theorem dX9_readStatement_67 : decode cX9_readStatement 67 = .ok (.invokevirtual 48, 3) := by decide +kernel
theorem dX9_readStatement_70 : decode cX9_readStatement 70 = .ok (.ifCond .eq 10, 3) := by decide +kernel
theorem dX9_readStatement_80 : decode cX9_readStatement 80 = .ok (.aload_n 1, 1) := by decide +kernel
theorem dX9_readStatement_81 : decode cX9_readStatement 81 = .ok (.iconst 1, 1) := by decide +kernel
theorem dX9_readStatement_82 : decode cX9_readStatement 82 = .ok (.invokevirtual 75, 3) := by decide +kernel
theorem dX9_readStatement_85 : decode cX9_readStatement 85 = .ok (.ireturn, 1) := by decide +kernel
theorem dX9_readStatement_73 : decode cX9_readStatement 73 = .ok (.aload_n 0, 1) := by decide +kernel
theorem dX9_readStatement_74 : decode cX9_readStatement 74 = .ok (.aload_n 1, 1) := by decide +kernel
theorem dX9_readStatement_75 : decode cX9_readStatement 75 = .ok (.aload_n 2, 1) := by decide +kernel
theorem dX9_readStatement_76 : decode cX9_readStatement 76 = .ok (.invokevirtual 72, 3) := by decide +kernel
theorem dX9_readStatement_79 : decode cX9_readStatement 79 = .ok (.ireturn, 1) := by decide +kernel
theorem dX9_readStatement_57 : decode cX9_readStatement 57 = .ok (.aload_n 0, 1) := by decide +kernel
theorem dX9_readStatement_58 : decode cX9_readStatement 58 = .ok (.aload_n 1, 1) := by decide +kernel
theorem dX9_readStatement_59 : decode cX9_readStatement 59 = .ok (.aload_n 2, 1) := by decide +kernel
theorem dX9_readStatement_60 : decode cX9_readStatement 60 = .ok (.invokevirtual 67, 3) := by decide +kernel
theorem dX9_readStatement_63 : decode cX9_readStatement 63 = .ok (.ireturn, 1) := by decide +kernel
theorem dX9_readStatement_41 : decode cX9_readStatement 41 = .ok (.aload_n 0, 1) := by decide +kernel
theorem dX9_readStatement_42 : decode cX9_readStatement 42 = .ok (.aload_n 1, 1) := by decide +kernel
theorem dX9_readStatement_43 : decode cX9_readStatement 43 = .ok (.aload_n 2, 1) := by decide +kernel
theorem dX9_readStatement_44 : decode cX9_readStatement 44 = .ok (.invokevirtual 62, 3) := by decide +kernel
theorem dX9_readStatement_47 : decode cX9_readStatement 47 = .ok (.ireturn, 1) := by decide +kernel
theorem dX9_readStatement_25 : decode cX9_readStatement 25 = .ok (.aload_n 0, 1) := by decide +kernel
theorem dX9_readStatement_26 : decode cX9_readStatement 26 = .ok (.aload_n 1, 1) := by decide +kernel
theorem dX9_readStatement_27 : decode cX9_readStatement 27 = .ok (.aload_n 2, 1) := by decide +kernel
theorem dX9_readStatement_28 : decode cX9_readStatement 28 = .ok (.invokevirtual 57, 3) := by decide +kernel
theorem dX9_readStatement_31 : decode cX9_readStatement 31 = .ok (.ireturn, 1) := by decide +kernel
theorem dX9_readStatement_9 : decode cX9_readStatement 9 = .ok (.aload_n 0, 1) := by decide +kernel
theorem dX9_readStatement_10 : decode cX9_readStatement 10 = .ok (.aload_n 1, 1) := by decide +kernel
theorem dX9_readStatement_11 : decode cX9_readStatement 11 = .ok (.aload_n 2, 1) := by decide +kernel
theorem dX9_readStatement_12 : decode cX9_readStatement 12 = .ok (.invokevirtual 52, 3) := by decide +kernel
theorem dX9_readStatement_15 : decode cX9_readStatement 15 = .ok (.ireturn, 1) := by decide +kernel
theorem dX9_readAll_0 : decode cX9_readAll 0 = .ok (.aload_n 0, 1) := by decide +kernel
theorem dX9_readAll_1 : decode cX9_readAll 1 = .ok (.iconst 0, 1) := by decide +kernel
theorem dX9_readAll_2 : decode cX9_readAll 2 = .ok (.putfield 9, 3) := by decide +kernel
theorem dX9_readAll_5 : decode cX9_readAll 5 = .ok (.aload_n 0, 1) := by decide +kernel
theorem dX9_readAll_6 : decode cX9_readAll 6 = .ok (.iconst 0, 1) := by decide +kernel
theorem dX9_readAll_7 : decode cX9_readAll 7 = .ok (.putfield 15, 3) := by decide +kernel
theorem dX9_readAll_10 : decode cX9_readAll 10 = .ok (.aload_n 0, 1) := by decide +kernel
theorem dX9_readAll_11 : decode cX9_readAll 11 = .ok (.iconst 0, 1) := by decide +kernel
theorem dX9_readAll_12 : decode cX9_readAll 12 = .ok (.putfield 18, 3) := by decide +kernel
theorem dX9_readAll_15 : decode cX9_readAll 15 = .ok (.aload_n 2, 1) := by decide +kernel
theorem dX9_readAll_16 : decode cX9_readAll 16 = .ok (.invokevirtual 21, 3) := by decide +kernel
theorem dX9_readAll_19 : decode cX9_readAll 19 = .ok (.aload_n 1, 1) := by decide +kernel
theorem dX9_readAll_20 : decode cX9_readAll 20 = .ok (.invokevirtual 26, 3) := by decide +kernel
theorem dX9_readAll_23 : decode cX9_readAll 23 = .ok (.iconst 0, 1) := by decide +kernel
theorem dX9_readAll_24 : decode cX9_readAll 24 = .ok (.istore_n 3, 1) := by decide +kernel
theorem dX9_readAll_25 : decode cX9_readAll 25 = .ok (.iload_n 3, 1) := by decide +kernel
theorem dX9_readAll_26 : decode cX9_readAll 26 = .ok (.sipush 600, 3) := by decide +kernel
theorem dX9_readAll_29 : decode cX9_readAll 29 = .ok (.if_icmp .gt 36, 3) := by decide +kernel
theorem dX9_readAll_32 : decode cX9_readAll 32 = .ok (.aload_n 1, 1) := by decide +kernel
theorem dX9_readAll_33 : decode cX9_readAll 33 = .ok (.invokevirtual 31, 3) := by decide +kernel
theorem dX9_readAll_36 : decode cX9_readAll 36 = .ok (.ifCond .ne 29, 3) := by decide +kernel
theorem dX9_readAll_39 : decode cX9_readAll 39 = .ok (.aload_n 0, 1) := by decide +kernel
theorem dX9_readAll_40 : decode cX9_readAll 40 = .ok (.aload_n 1, 1) := by decide +kernel
theorem dX9_readAll_41 : decode cX9_readAll 41 = .ok (.aload_n 2, 1) := by decide +kernel
theorem dX9_readAll_42 : decode cX9_readAll 42 = .ok (.invokevirtual 35, 3) := by decide +kernel
theorem dX9_readAll_45 : decode cX9_readAll 45 = .ok (.ifCond .eq 12, 3) := by decide +kernel
theorem dX9_readAll_48 : decode cX9_readAll 48 = .ok (.aload_n 1, 1) := by decide +kernel
theorem dX9_readAll_49 : decode cX9_readAll 49 = .ok (.bipush 59, 2) := by decide +kernel
theorem dX9_readAll_51 : decode cX9_readAll 51 = .ok (.invokevirtual 39, 3) := by decide +kernel
theorem dX9_readAll_54 : decode cX9_readAll 54 = .ok (.ifCond .ne 5, 3) := by decide +kernel
theorem dX9_readAll_59 : decode cX9_readAll 59 = .ok (.iinc 3 1, 3) := by decide +kernel
theorem dX9_readAll_62 : decode cX9_readAll 62 = .ok (.goto (-37), 3) := by decide +kernel
theorem dX9_readAll_65 : decode cX9_readAll 65 = .ok (.aload_n 2, 1) := by decide +kernel
theorem dX9_readAll_66 : decode cX9_readAll 66 = .ok (.invokevirtual 43, 3) := by decide +kernel
theorem dX9_readAll_69 : decode cX9_readAll 69 = .ok (.iconst 1, 1) := by decide +kernel
theorem dX9_readAll_70 : decode cX9_readAll 70 = .ok (.ireturn, 1) := by decide +kernel
theorem dX9_readAll_57 : decode cX9_readAll 57 = .ok (.iconst 0, 1) := by decide +kernel
theorem dX9_readAll_58 : decode cX9_readAll 58 = .ok (.ireturn, 1) := by decide +kernel
theorem dX7_kindOfWord_0 : decode cX7_kindOfWord 0 = .ok (.aload_n 0, 1) := by decide +kernel
theorem dX7_kindOfWord_1 : decode cX7_kindOfWord 1 = .ok (.ldc 52, 2) := by decide +kernel
theorem dX7_kindOfWord_3 : decode cX7_kindOfWord 3 = .ok (.invokevirtual 54, 3) := by decide +kernel
theorem dX7_kindOfWord_6 : decode cX7_kindOfWord 6 = .ok (.ifCond .eq 5, 3) := by decide +kernel
theorem dX7_kindOfWord_11 : decode cX7_kindOfWord 11 = .ok (.aload_n 0, 1) := by decide +kernel
theorem dX7_kindOfWord_12 : decode cX7_kindOfWord 12 = .ok (.ldc 58, 2) := by decide +kernel
theorem dX7_kindOfWord_14 : decode cX7_kindOfWord 14 = .ok (.invokevirtual 54, 3) := by decide +kernel
theorem dX7_kindOfWord_17 : decode cX7_kindOfWord 17 = .ok (.ifCond .eq 5, 3) := by decide +kernel
theorem dX7_kindOfWord_22 : decode cX7_kindOfWord 22 = .ok (.aload_n 0, 1) := by decide +kernel
theorem dX7_kindOfWord_23 : decode cX7_kindOfWord 23 = .ok (.ldc 60, 2) := by decide +kernel
theorem dX7_kindOfWord_25 : decode cX7_kindOfWord 25 = .ok (.invokevirtual 54, 3) := by decide +kernel
theorem dX7_kindOfWord_28 : decode cX7_kindOfWord 28 = .ok (.ifCond .eq 5, 3) := by decide +kernel
theorem dX7_kindOfWord_33 : decode cX7_kindOfWord 33 = .ok (.aload_n 0, 1) := by decide +kernel
theorem dX7_kindOfWord_34 : decode cX7_kindOfWord 34 = .ok (.ldc 62, 2) := by decide +kernel
theorem dX7_kindOfWord_36 : decode cX7_kindOfWord 36 = .ok (.invokevirtual 54, 3) := by decide +kernel
theorem dX7_kindOfWord_39 : decode cX7_kindOfWord 39 = .ok (.ifCond .eq 5, 3) := by decide +kernel
theorem dX7_kindOfWord_44 : decode cX7_kindOfWord 44 = .ok (.aload_n 0, 1) := by decide +kernel
theorem dX7_kindOfWord_45 : decode cX7_kindOfWord 45 = .ok (.ldc 64, 2) := by decide +kernel
theorem dX7_kindOfWord_47 : decode cX7_kindOfWord 47 = .ok (.invokevirtual 54, 3) := by decide +kernel
theorem dX7_kindOfWord_50 : decode cX7_kindOfWord 50 = .ok (.ifCond .eq 5, 3) := by decide +kernel
theorem dX7_kindOfWord_55 : decode cX7_kindOfWord 55 = .ok (.aload_n 0, 1) := by decide +kernel
theorem dX7_kindOfWord_56 : decode cX7_kindOfWord 56 = .ok (.ldc 66, 2) := by decide +kernel
theorem dX7_kindOfWord_58 : decode cX7_kindOfWord 58 = .ok (.invokevirtual 54, 3) := by decide +kernel
theorem dX7_kindOfWord_61 : decode cX7_kindOfWord 61 = .ok (.ifCond .eq 5, 3) := by decide +kernel
theorem dX7_kindOfWord_66 : decode cX7_kindOfWord 66 = .ok (.aload_n 0, 1) := by decide +kernel
theorem dX7_kindOfWord_67 : decode cX7_kindOfWord 67 = .ok (.ldc 68, 2) := by decide +kernel
theorem dX7_kindOfWord_69 : decode cX7_kindOfWord 69 = .ok (.invokevirtual 54, 3) := by decide +kernel
theorem dX7_kindOfWord_72 : decode cX7_kindOfWord 72 = .ok (.ifCond .eq 8, 3) := by decide +kernel
theorem dX7_kindOfWord_80 : decode cX7_kindOfWord 80 = .ok (.iconst (-1), 1) := by decide +kernel
theorem dX7_kindOfWord_81 : decode cX7_kindOfWord 81 = .ok (.ireturn, 1) := by decide +kernel
theorem dX7_kindOfWord_75 : decode cX7_kindOfWord 75 = .ok (.bipush 6, 2) := by decide +kernel
theorem dX7_kindOfWord_77 : decode cX7_kindOfWord 77 = .ok (.goto 4, 3) := by decide +kernel
theorem dX7_kindOfWord_64 : decode cX7_kindOfWord 64 = .ok (.iconst 5, 1) := by decide +kernel
theorem dX7_kindOfWord_65 : decode cX7_kindOfWord 65 = .ok (.ireturn, 1) := by decide +kernel
theorem dX7_kindOfWord_53 : decode cX7_kindOfWord 53 = .ok (.iconst 4, 1) := by decide +kernel
theorem dX7_kindOfWord_54 : decode cX7_kindOfWord 54 = .ok (.ireturn, 1) := by decide +kernel
theorem dX7_kindOfWord_42 : decode cX7_kindOfWord 42 = .ok (.iconst 3, 1) := by decide +kernel
theorem dX7_kindOfWord_43 : decode cX7_kindOfWord 43 = .ok (.ireturn, 1) := by decide +kernel
theorem dX7_kindOfWord_31 : decode cX7_kindOfWord 31 = .ok (.iconst 2, 1) := by decide +kernel
theorem dX7_kindOfWord_32 : decode cX7_kindOfWord 32 = .ok (.ireturn, 1) := by decide +kernel
theorem dX7_kindOfWord_20 : decode cX7_kindOfWord 20 = .ok (.iconst 1, 1) := by decide +kernel
theorem dX7_kindOfWord_21 : decode cX7_kindOfWord 21 = .ok (.ireturn, 1) := by decide +kernel
theorem dX7_kindOfWord_9 : decode cX7_kindOfWord 9 = .ok (.iconst 0, 1) := by decide +kernel
theorem dX7_kindOfWord_10 : decode cX7_kindOfWord 10 = .ok (.ireturn, 1) := by decide +kernel
theorem dX7_readCommand_0 : decode cX7_readCommand 0 = .ok (.aload_n 1, 1) := by decide +kernel
theorem dX7_readCommand_1 : decode cX7_readCommand 1 = .ok (.invokestatic 70, 3) := by decide +kernel
theorem dX7_readCommand_4 : decode cX7_readCommand 4 = .ok (.istore_n 3, 1) := by decide +kernel
theorem dX7_readCommand_5 : decode cX7_readCommand 5 = .ok (.iload_n 3, 1) := by decide +kernel
theorem dX7_readCommand_6 : decode cX7_readCommand 6 = .ok (.iconst (-1), 1) := by decide +kernel
theorem dX7_readCommand_7 : decode cX7_readCommand 7 = .ok (.if_icmp .ne 9, 3) := by decide +kernel
theorem dX7_readCommand_16 : decode cX7_readCommand 16 = .ok (.iload_n 3, 1) := by decide +kernel
theorem dX7_readCommand_17 : decode cX7_readCommand 17 = .ok (.bipush 6, 2) := by decide +kernel
theorem dX7_readCommand_19 : decode cX7_readCommand 19 = .ok (.if_icmp .ne 17, 3) := by decide +kernel
theorem dX7_readCommand_22 : decode cX7_readCommand 22 = .ok (.aload_n 0, 1) := by decide +kernel
theorem dX7_readCommand_23 : decode cX7_readCommand 23 = .ok (.getfield 25, 3) := by decide +kernel
theorem dX7_readCommand_26 : decode cX7_readCommand 26 = .ok (.iconst 2, 1) := by decide +kernel
theorem dX7_readCommand_27 : decode cX7_readCommand 27 = .ok (.if_icmp .lt 9, 3) := by decide +kernel
theorem dX7_readCommand_30 : decode cX7_readCommand 30 = .ok (.aload_n 1, 1) := by decide +kernel
theorem dX7_readCommand_31 : decode cX7_readCommand 31 = .ok (.iconst 3, 1) := by decide +kernel
theorem dX7_readCommand_32 : decode cX7_readCommand 32 = .ok (.invokevirtual 49, 3) := by decide +kernel
theorem dX7_readCommand_35 : decode cX7_readCommand 35 = .ok (.ireturn, 1) := by decide +kernel
theorem dX7_readCommand_10 : decode cX7_readCommand 10 = .ok (.aload_n 1, 1) := by decide +kernel
theorem dX7_readCommand_11 : decode cX7_readCommand 11 = .ok (.iconst 1, 1) := by decide +kernel
theorem dX7_readCommand_12 : decode cX7_readCommand 12 = .ok (.invokevirtual 49, 3) := by decide +kernel
theorem dX7_readCommand_15 : decode cX7_readCommand 15 = .ok (.ireturn, 1) := by decide +kernel
theorem dX7_readCommand_36 : decode cX7_readCommand 36 = .ok (.aload_n 0, 1) := by decide +kernel
theorem dX7_readCommand_37 : decode cX7_readCommand 37 = .ok (.getfield 18, 3) := by decide +kernel
theorem dX7_readCommand_40 : decode cX7_readCommand 40 = .ok (.aload_n 0, 1) := by decide +kernel
theorem dX7_readCommand_41 : decode cX7_readCommand 41 = .ok (.getfield 13, 3) := by decide +kernel
theorem dX7_readCommand_44 : decode cX7_readCommand 44 = .ok (.arraylength, 1) := by decide +kernel
theorem dX7_readCommand_45 : decode cX7_readCommand 45 = .ok (.if_icmp .lt 9, 3) := by decide +kernel
theorem dX7_readCommand_54 : decode cX7_readCommand 54 = .ok (.aload_n 0, 1) := by decide +kernel
theorem dX7_readCommand_55 : decode cX7_readCommand 55 = .ok (.aload_n 0, 1) := by decide +kernel
theorem dX7_readCommand_56 : decode cX7_readCommand 56 = .ok (.getfield 18, 3) := by decide +kernel
theorem dX7_readCommand_59 : decode cX7_readCommand 59 = .ok (.invokevirtual 74, 3) := by decide +kernel
theorem dX7_readCommand_62 : decode cX7_readCommand 62 = .ok (.astore 4, 2) := by decide +kernel
theorem dX7_readCommand_64 : decode cX7_readCommand 64 = .ok (.aload 4, 2) := by decide +kernel
theorem dX7_readCommand_66 : decode cX7_readCommand 66 = .ok (.iload_n 3, 1) := by decide +kernel
theorem dX7_readCommand_67 : decode cX7_readCommand 67 = .ok (.putfield 78, 3) := by decide +kernel
theorem dX7_readCommand_70 : decode cX7_readCommand 70 = .ok (.aload_n 0, 1) := by decide +kernel
theorem dX7_readCommand_71 : decode cX7_readCommand 71 = .ok (.dup, 1) := by decide +kernel
theorem dX7_readCommand_72 : decode cX7_readCommand 72 = .ok (.getfield 18, 3) := by decide +kernel
theorem dX7_readCommand_75 : decode cX7_readCommand 75 = .ok (.iconst 1, 1) := by decide +kernel
theorem dX7_readCommand_76 : decode cX7_readCommand 76 = .ok (.iadd, 1) := by decide +kernel
theorem dX7_readCommand_77 : decode cX7_readCommand 77 = .ok (.putfield 18, 3) := by decide +kernel
theorem dX7_readCommand_80 : decode cX7_readCommand 80 = .ok (.aload_n 1, 1) := by decide +kernel
theorem dX7_readCommand_81 : decode cX7_readCommand 81 = .ok (.invokevirtual 81, 3) := by decide +kernel
theorem dX7_readCommand_84 : decode cX7_readCommand 84 = .ok (.iload_n 3, 1) := by decide +kernel
theorem dX7_readCommand_85 : decode cX7_readCommand 85 = .ok (.bipush 6, 2) := by decide +kernel
theorem dX7_readCommand_87 : decode cX7_readCommand 87 = .ok (.if_icmp .ne 11, 3) := by decide +kernel
theorem dX7_readCommand_98 : decode cX7_readCommand 98 = .ok (.aload_n 0, 1) := by decide +kernel
theorem dX7_readCommand_99 : decode cX7_readCommand 99 = .ok (.aload_n 1, 1) := by decide +kernel
theorem dX7_readCommand_100 : decode cX7_readCommand 100 = .ok (.aload_n 2, 1) := by decide +kernel
theorem dX7_readCommand_101 : decode cX7_readCommand 101 = .ok (.aload 4, 2) := by decide +kernel
theorem dX7_readCommand_103 : decode cX7_readCommand 103 = .ok (.invokevirtual 88, 3) := by decide +kernel
theorem dX7_readCommand_106 : decode cX7_readCommand 106 = .ok (.ifCond .eq 17, 3) := by decide +kernel
theorem dX7_readCommand_109 : decode cX7_readCommand 109 = .ok (.aload_n 0, 1) := by decide +kernel
theorem dX7_readCommand_110 : decode cX7_readCommand 110 = .ok (.aload_n 1, 1) := by decide +kernel
theorem dX7_readCommand_111 : decode cX7_readCommand 111 = .ok (.aload 4, 2) := by decide +kernel
theorem dX7_readCommand_113 : decode cX7_readCommand 113 = .ok (.invokevirtual 92, 3) := by decide +kernel
theorem dX7_readCommand_116 : decode cX7_readCommand 116 = .ok (.ifCond .eq 7, 3) := by decide +kernel
theorem dX7_readCommand_119 : decode cX7_readCommand 119 = .ok (.iconst 1, 1) := by decide +kernel
theorem dX7_readCommand_120 : decode cX7_readCommand 120 = .ok (.goto 4, 3) := by decide +kernel
theorem dX7_readCommand_90 : decode cX7_readCommand 90 = .ok (.aload_n 0, 1) := by decide +kernel
theorem dX7_readCommand_91 : decode cX7_readCommand 91 = .ok (.aload_n 1, 1) := by decide +kernel
theorem dX7_readCommand_92 : decode cX7_readCommand 92 = .ok (.aload 4, 2) := by decide +kernel
theorem dX7_readCommand_94 : decode cX7_readCommand 94 = .ok (.invokevirtual 84, 3) := by decide +kernel
theorem dX7_readCommand_97 : decode cX7_readCommand 97 = .ok (.ireturn, 1) := by decide +kernel
theorem dX7_readCommand_48 : decode cX7_readCommand 48 = .ok (.aload_n 1, 1) := by decide +kernel
theorem dX7_readCommand_49 : decode cX7_readCommand 49 = .ok (.iconst 5, 1) := by decide +kernel
theorem dX7_readCommand_50 : decode cX7_readCommand 50 = .ok (.invokevirtual 49, 3) := by decide +kernel
theorem dX7_readCommand_53 : decode cX7_readCommand 53 = .ok (.ireturn, 1) := by decide +kernel
theorem dX7_readCommand_123 : decode cX7_readCommand 123 = .ok (.iconst 0, 1) := by decide +kernel
theorem dX7_readCommand_124 : decode cX7_readCommand 124 = .ok (.ireturn, 1) := by decide +kernel
theorem dX7_readAll_0 : decode cX7_readAll 0 = .ok (.aload_n 0, 1) := by decide +kernel
theorem dX7_readAll_1 : decode cX7_readAll 1 = .ok (.iconst 0, 1) := by decide +kernel
theorem dX7_readAll_2 : decode cX7_readAll 2 = .ok (.putfield 18, 3) := by decide +kernel
theorem dX7_readAll_5 : decode cX7_readAll 5 = .ok (.aload_n 0, 1) := by decide +kernel
theorem dX7_readAll_6 : decode cX7_readAll 6 = .ok (.iconst (-1), 1) := by decide +kernel
theorem dX7_readAll_7 : decode cX7_readAll 7 = .ok (.putfield 22, 3) := by decide +kernel
theorem dX7_readAll_10 : decode cX7_readAll 10 = .ok (.aload_n 0, 1) := by decide +kernel
theorem dX7_readAll_11 : decode cX7_readAll 11 = .ok (.iconst 0, 1) := by decide +kernel
theorem dX7_readAll_12 : decode cX7_readAll 12 = .ok (.putfield 25, 3) := by decide +kernel
theorem dX7_readAll_15 : decode cX7_readAll 15 = .ok (.aload_n 1, 1) := by decide +kernel
theorem dX7_readAll_16 : decode cX7_readAll 16 = .ok (.invokevirtual 28, 3) := by decide +kernel
theorem dX7_readAll_19 : decode cX7_readAll 19 = .ok (.iconst 0, 1) := by decide +kernel
theorem dX7_readAll_20 : decode cX7_readAll 20 = .ok (.istore_n 3, 1) := by decide +kernel
theorem dX7_readAll_21 : decode cX7_readAll 21 = .ok (.iload_n 3, 1) := by decide +kernel
theorem dX7_readAll_22 : decode cX7_readAll 22 = .ok (.sipush 600, 3) := by decide +kernel
theorem dX7_readAll_25 : decode cX7_readAll 25 = .ok (.if_icmp .gt 56, 3) := by decide +kernel
theorem dX7_readAll_28 : decode cX7_readAll 28 = .ok (.aload_n 1, 1) := by decide +kernel
theorem dX7_readAll_29 : decode cX7_readAll 29 = .ok (.invokevirtual 33, 3) := by decide +kernel
theorem dX7_readAll_32 : decode cX7_readAll 32 = .ok (.ifCond .ne 49, 3) := by decide +kernel
theorem dX7_readAll_35 : decode cX7_readAll 35 = .ok (.aload_n 0, 1) := by decide +kernel
theorem dX7_readAll_36 : decode cX7_readAll 36 = .ok (.getfield 22, 3) := by decide +kernel
theorem dX7_readAll_39 : decode cX7_readAll 39 = .ok (.iconst (-1), 1) := by decide +kernel
theorem dX7_readAll_40 : decode cX7_readAll 40 = .ok (.if_icmp .eq 20, 3) := by decide +kernel
theorem dX7_readAll_43 : decode cX7_readAll 43 = .ok (.aload_n 1, 1) := by decide +kernel
theorem dX7_readAll_44 : decode cX7_readAll 44 = .ok (.bipush 41, 2) := by decide +kernel
theorem dX7_readAll_46 : decode cX7_readAll 46 = .ok (.invokevirtual 37, 3) := by decide +kernel
theorem dX7_readAll_49 : decode cX7_readAll 49 = .ok (.ifCond .eq 11, 3) := by decide +kernel
theorem dX7_readAll_52 : decode cX7_readAll 52 = .ok (.aload_n 0, 1) := by decide +kernel
theorem dX7_readAll_53 : decode cX7_readAll 53 = .ok (.aload_n 1, 1) := by decide +kernel
theorem dX7_readAll_54 : decode cX7_readAll 54 = .ok (.invokevirtual 41, 3) := by decide +kernel
theorem dX7_readAll_57 : decode cX7_readAll 57 = .ok (.goto 9, 3) := by decide +kernel
theorem dX7_readAll_81 : decode cX7_readAll 81 = .ok (.aload_n 0, 1) := by decide +kernel
theorem dX7_readAll_82 : decode cX7_readAll 82 = .ok (.getfield 22, 3) := by decide +kernel
theorem dX7_readAll_85 : decode cX7_readAll 85 = .ok (.iconst (-1), 1) := by decide +kernel
theorem dX7_readAll_86 : decode cX7_readAll 86 = .ok (.if_icmp .eq 11, 3) := by decide +kernel
theorem dX7_readAll_89 : decode cX7_readAll 89 = .ok (.aload_n 1, 1) := by decide +kernel
theorem dX7_readAll_90 : decode cX7_readAll 90 = .ok (.iconst 1, 1) := by decide +kernel
theorem dX7_readAll_91 : decode cX7_readAll 91 = .ok (.invokevirtual 49, 3) := by decide +kernel
theorem dX7_readAll_94 : decode cX7_readAll 94 = .ok (.ifCond .eq 7, 3) := by decide +kernel
theorem dX7_readAll_101 : decode cX7_readAll 101 = .ok (.iconst 0, 1) := by decide +kernel
theorem dX7_readAll_60 : decode cX7_readAll 60 = .ok (.aload_n 0, 1) := by decide +kernel
theorem dX7_readAll_61 : decode cX7_readAll 61 = .ok (.aload_n 1, 1) := by decide +kernel
theorem dX7_readAll_62 : decode cX7_readAll 62 = .ok (.aload_n 2, 1) := by decide +kernel
theorem dX7_readAll_63 : decode cX7_readAll 63 = .ok (.invokevirtual 45, 3) := by decide +kernel
theorem dX7_readAll_66 : decode cX7_readAll 66 = .ok (.istore 4, 2) := by decide +kernel
theorem dX7_readAll_68 : decode cX7_readAll 68 = .ok (.iload 4, 2) := by decide +kernel
theorem dX7_readAll_70 : decode cX7_readAll 70 = .ok (.ifCond .ne 5, 3) := by decide +kernel
theorem dX7_readAll_75 : decode cX7_readAll 75 = .ok (.iinc 3 1, 3) := by decide +kernel
theorem dX7_readAll_78 : decode cX7_readAll 78 = .ok (.goto (-57), 3) := by decide +kernel
theorem dX7_readAll_73 : decode cX7_readAll 73 = .ok (.iconst 0, 1) := by decide +kernel
theorem dX7_readAll_74 : decode cX7_readAll 74 = .ok (.ireturn, 1) := by decide +kernel
theorem dX7_readAll_97 : decode cX7_readAll 97 = .ok (.iconst 1, 1) := by decide +kernel
theorem dX7_readAll_98 : decode cX7_readAll 98 = .ok (.goto 4, 3) := by decide +kernel
theorem dX7_readAll_102 : decode cX7_readAll 102 = .ok (.ireturn, 1) := by decide +kernel
