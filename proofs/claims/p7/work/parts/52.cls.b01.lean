theorem dX10_lowestOf_0 : decode cX10_lowestOf 0 = .ok (.iconst 0, 1) := by decide +kernel
theorem dX10_lowestOf_1 : decode cX10_lowestOf 1 = .ok (.istore_n 1, 1) := by decide +kernel
theorem dX10_lowestOf_2 : decode cX10_lowestOf 2 = .ok (.iload_n 1, 1) := by decide +kernel
theorem dX10_lowestOf_3 : decode cX10_lowestOf 3 = .ok (.bipush 10, 2) := by decide +kernel
theorem dX10_lowestOf_5 : decode cX10_lowestOf 5 = .ok (.if_icmp .ge 19, 3) := by decide +kernel
theorem dX10_lowestOf_8 : decode cX10_lowestOf 8 = .ok (.iload_n 0, 1) := by decide +kernel
theorem dX10_lowestOf_9 : decode cX10_lowestOf 9 = .ok (.iload_n 1, 1) := by decide +kernel
theorem dX10_lowestOf_10 : decode cX10_lowestOf 10 = .ok (.ishr, 1) := by decide +kernel
theorem dX10_lowestOf_11 : decode cX10_lowestOf 11 = .ok (.iconst 1, 1) := by decide +kernel
theorem dX10_lowestOf_12 : decode cX10_lowestOf 12 = .ok (.iand, 1) := by decide +kernel
theorem dX10_lowestOf_13 : decode cX10_lowestOf 13 = .ok (.ifCond .eq 5, 3) := by decide +kernel
theorem dX10_lowestOf_18 : decode cX10_lowestOf 18 = .ok (.iinc 1 1, 3) := by decide +kernel
theorem dX10_lowestOf_21 : decode cX10_lowestOf 21 = .ok (.goto (-19), 3) := by decide +kernel
theorem dX10_lowestOf_16 : decode cX10_lowestOf 16 = .ok (.iload_n 1, 1) := by decide +kernel
theorem dX10_lowestOf_17 : decode cX10_lowestOf 17 = .ok (.ireturn, 1) := by decide +kernel
theorem dX10_lowestOf_24 : decode cX10_lowestOf 24 = .ok (.iconst (-1), 1) := by decide +kernel
theorem dX10_lowestOf_25 : decode cX10_lowestOf 25 = .ok (.ireturn, 1) := by decide +kernel
theorem dX10_grown_0 : decode cX10_grown 0 = .ok (.iload_n 1, 1) := by decide +kernel
theorem dX10_grown_1 : decode cX10_grown 1 = .ok (.istore_n 3, 1) := by decide +kernel
theorem dX10_grown_2 : decode cX10_grown 2 = .ok (.iconst 0, 1) := by decide +kernel
theorem dX10_grown_3 : decode cX10_grown 3 = .ok (.istore 4, 2) := by decide +kernel
theorem dX10_grown_5 : decode cX10_grown 5 = .ok (.iload 4, 2) := by decide +kernel
theorem dX10_grown_7 : decode cX10_grown 7 = .ok (.aload_n 0, 1) := by decide +kernel
theorem dX10_grown_8 : decode cX10_grown 8 = .ok (.getfield 35, 3) := by decide +kernel
theorem dX10_grown_11 : decode cX10_grown 11 = .ok (.if_icmp .ge 43, 3) := by decide +kernel
theorem dX10_grown_54 : decode cX10_grown 54 = .ok (.iload_n 3, 1) := by decide +kernel
theorem dX10_grown_55 : decode cX10_grown 55 = .ok (.ireturn, 1) := by decide +kernel
theorem dX10_grown_14 : decode cX10_grown 14 = .ok (.iload 4, 2) := by decide +kernel
theorem dX10_grown_16 : decode cX10_grown 16 = .ok (.aload_n 0, 1) := by decide +kernel
theorem dX10_grown_17 : decode cX10_grown 17 = .ok (.getfield 13, 3) := by decide +kernel
theorem dX10_grown_20 : decode cX10_grown 20 = .ok (.arraylength, 1) := by decide +kernel
theorem dX10_grown_21 : decode cX10_grown 21 = .ok (.if_icmp .ge 27, 3) := by decide +kernel
theorem dX10_grown_24 : decode cX10_grown 24 = .ok (.iload_n 1, 1) := by decide +kernel
theorem dX10_grown_25 : decode cX10_grown 25 = .ok (.iload 4, 2) := by decide +kernel
theorem dX10_grown_27 : decode cX10_grown 27 = .ok (.ishr, 1) := by decide +kernel
theorem dX10_grown_28 : decode cX10_grown 28 = .ok (.iconst 1, 1) := by decide +kernel
theorem dX10_grown_29 : decode cX10_grown 29 = .ok (.iand, 1) := by decide +kernel
theorem dX10_grown_30 : decode cX10_grown 30 = .ok (.ifCond .eq 18, 3) := by decide +kernel
theorem dX10_grown_33 : decode cX10_grown 33 = .ok (.iload_n 3, 1) := by decide +kernel
theorem dX10_grown_34 : decode cX10_grown 34 = .ok (.aload_n 0, 1) := by decide +kernel
theorem dX10_grown_35 : decode cX10_grown 35 = .ok (.getfield 13, 3) := by decide +kernel
theorem dX10_grown_38 : decode cX10_grown 38 = .ok (.iload 4, 2) := by decide +kernel
theorem dX10_grown_40 : decode cX10_grown 40 = .ok (.aaload, 1) := by decide +kernel
theorem dX10_grown_41 : decode cX10_grown 41 = .ok (.getfield 104, 3) := by decide +kernel
theorem dX10_grown_44 : decode cX10_grown 44 = .ok (.iload_n 2, 1) := by decide +kernel
theorem dX10_grown_45 : decode cX10_grown 45 = .ok (.iand, 1) := by decide +kernel
theorem dX10_grown_46 : decode cX10_grown 46 = .ok (.ior, 1) := by decide +kernel
theorem dX10_grown_47 : decode cX10_grown 47 = .ok (.istore_n 3, 1) := by decide +kernel
theorem dX10_grown_48 : decode cX10_grown 48 = .ok (.iinc 4 1, 3) := by decide +kernel
theorem dX10_grown_51 : decode cX10_grown 51 = .ok (.goto (-46), 3) := by decide +kernel
theorem dX10_nextTowards_0 : decode cX10_nextTowards 0 = .ok (.aload_n 0, 1) := by decide +kernel
theorem dX10_nextTowards_1 : decode cX10_nextTowards 1 = .ok (.iload_n 1, 1) := by decide +kernel
theorem dX10_nextTowards_2 : decode cX10_nextTowards 2 = .ok (.invokevirtual 66, 3) := by decide +kernel
theorem dX10_nextTowards_5 : decode cX10_nextTowards 5 = .ok (.getfield 104, 3) := by decide +kernel
theorem dX10_nextTowards_8 : decode cX10_nextTowards 8 = .ok (.iload_n 3, 1) := by decide +kernel
theorem dX10_nextTowards_9 : decode cX10_nextTowards 9 = .ok (.iand, 1) := by decide +kernel
theorem dX10_nextTowards_10 : decode cX10_nextTowards 10 = .ok (.istore 4, 2) := by decide +kernel
theorem dX10_nextTowards_12 : decode cX10_nextTowards 12 = .ok (.iconst 1, 1) := by decide +kernel
theorem dX10_nextTowards_13 : decode cX10_nextTowards 13 = .ok (.iload_n 2, 1) := by decide +kernel
theorem dX10_nextTowards_14 : decode cX10_nextTowards 14 = .ok (.ishl, 1) := by decide +kernel
theorem dX10_nextTowards_15 : decode cX10_nextTowards 15 = .ok (.iload_n 3, 1) := by decide +kernel
theorem dX10_nextTowards_16 : decode cX10_nextTowards 16 = .ok (.iand, 1) := by decide +kernel
theorem dX10_nextTowards_17 : decode cX10_nextTowards 17 = .ok (.istore 5, 2) := by decide +kernel
theorem dX10_nextTowards_19 : decode cX10_nextTowards 19 = .ok (.iconst 0, 1) := by decide +kernel
theorem dX10_nextTowards_20 : decode cX10_nextTowards 20 = .ok (.istore 6, 2) := by decide +kernel
theorem dX10_nextTowards_22 : decode cX10_nextTowards 22 = .ok (.iload 6, 2) := by decide +kernel
theorem dX10_nextTowards_24 : decode cX10_nextTowards 24 = .ok (.bipush 10, 2) := by decide +kernel
theorem dX10_nextTowards_26 : decode cX10_nextTowards 26 = .ok (.if_icmp .ge 35, 3) := by decide +kernel
theorem dX10_nextTowards_29 : decode cX10_nextTowards 29 = .ok (.iload 4, 2) := by decide +kernel
theorem dX10_nextTowards_31 : decode cX10_nextTowards 31 = .ok (.iload 5, 2) := by decide +kernel
theorem dX10_nextTowards_33 : decode cX10_nextTowards 33 = .ok (.iand, 1) := by decide +kernel
theorem dX10_nextTowards_34 : decode cX10_nextTowards 34 = .ok (.ifCond .eq 12, 3) := by decide +kernel
theorem dX10_nextTowards_46 : decode cX10_nextTowards 46 = .ok (.aload_n 0, 1) := by decide +kernel
theorem dX10_nextTowards_47 : decode cX10_nextTowards 47 = .ok (.iload 5, 2) := by decide +kernel
theorem dX10_nextTowards_49 : decode cX10_nextTowards 49 = .ok (.iload_n 3, 1) := by decide +kernel
theorem dX10_nextTowards_50 : decode cX10_nextTowards 50 = .ok (.invokevirtual 234, 3) := by decide +kernel
theorem dX10_nextTowards_53 : decode cX10_nextTowards 53 = .ok (.istore 5, 2) := by decide +kernel
theorem dX10_nextTowards_55 : decode cX10_nextTowards 55 = .ok (.iinc 6 1, 3) := by decide +kernel
theorem dX10_nextTowards_58 : decode cX10_nextTowards 58 = .ok (.goto (-36), 3) := by decide +kernel
theorem dX10_nextTowards_37 : decode cX10_nextTowards 37 = .ok (.iload 4, 2) := by decide +kernel
theorem dX10_nextTowards_39 : decode cX10_nextTowards 39 = .ok (.iload 5, 2) := by decide +kernel
theorem dX10_nextTowards_41 : decode cX10_nextTowards 41 = .ok (.iand, 1) := by decide +kernel
theorem dX10_nextTowards_42 : decode cX10_nextTowards 42 = .ok (.invokestatic 237, 3) := by decide +kernel
theorem dX10_nextTowards_45 : decode cX10_nextTowards 45 = .ok (.ireturn, 1) := by decide +kernel
theorem dX10_nextTowards_61 : decode cX10_nextTowards 61 = .ok (.iconst (-1), 1) := by decide +kernel
theorem dX10_nextTowards_62 : decode cX10_nextTowards 62 = .ok (.ireturn, 1) := by decide +kernel
theorem dX10_moveTo_0 : decode cX10_moveTo 0 = .ok (.aload_n 1, 1) := by decide +kernel
theorem dX10_moveTo_1 : decode cX10_moveTo 1 = .ok (.iload_n 2, 1) := by decide +kernel
theorem dX10_moveTo_2 : decode cX10_moveTo 2 = .ok (.putfield 137, 3) := by decide +kernel
theorem dX10_moveTo_5 : decode cX10_moveTo 5 = .ok (.aload_n 1, 1) := by decide +kernel
theorem dX10_moveTo_6 : decode cX10_moveTo 6 = .ok (.dup, 1) := by decide +kernel
theorem dX10_moveTo_7 : decode cX10_moveTo 7 = .ok (.getfield 149, 3) := by decide +kernel
theorem dX10_moveTo_10 : decode cX10_moveTo 10 = .ok (.iconst 1, 1) := by decide +kernel
theorem dX10_moveTo_11 : decode cX10_moveTo 11 = .ok (.iadd, 1) := by decide +kernel
theorem dX10_moveTo_12 : decode cX10_moveTo 12 = .ok (.putfield 149, 3) := by decide +kernel
theorem dX10_moveTo_15 : decode cX10_moveTo 15 = .ok (.iload_n 2, 1) := by decide +kernel
theorem dX10_moveTo_16 : decode cX10_moveTo 16 = .ok (.aload_n 1, 1) := by decide +kernel
theorem dX10_moveTo_17 : decode cX10_moveTo 17 = .ok (.getfield 134, 3) := by decide +kernel
theorem dX10_moveTo_20 : decode cX10_moveTo 20 = .ok (.if_icmp .ne 16, 3) := by decide +kernel
theorem dX10_moveTo_23 : decode cX10_moveTo 23 = .ok (.aload_n 1, 1) := by decide +kernel
theorem dX10_moveTo_24 : decode cX10_moveTo 24 = .ok (.iconst 1, 1) := by decide +kernel
theorem dX10_moveTo_25 : decode cX10_moveTo 25 = .ok (.putfield 140, 3) := by decide +kernel
theorem dX10_moveTo_28 : decode cX10_moveTo 28 = .ok (.aload_n 1, 1) := by decide +kernel
theorem dX10_moveTo_29 : decode cX10_moveTo 29 = .ok (.aload_n 0, 1) := by decide +kernel
theorem dX10_moveTo_30 : decode cX10_moveTo 30 = .ok (.getfield 60, 3) := by decide +kernel
theorem dX10_moveTo_33 : decode cX10_moveTo 33 = .ok (.putfield 146, 3) := by decide +kernel
theorem dX10_moveTo_36 : decode cX10_moveTo 36 = .ok (.return_, 1) := by decide +kernel
theorem dX10_tryToPass_0 : decode cX10_tryToPass 0 = .ok (.aload_n 0, 1) := by decide +kernel
theorem dX10_tryToPass_1 : decode cX10_tryToPass 1 = .ok (.getfield 262, 3) := by decide +kernel
theorem dX10_tryToPass_4 : decode cX10_tryToPass 4 = .ok (.aload_n 1, 1) := by decide +kernel
theorem dX10_tryToPass_5 : decode cX10_tryToPass 5 = .ok (.getfield 137, 3) := by decide +kernel
theorem dX10_tryToPass_8 : decode cX10_tryToPass 8 = .ok (.invokestatic 181, 3) := by decide +kernel
theorem dX10_tryToPass_11 : decode cX10_tryToPass 11 = .ok (.istore_n 2, 1) := by decide +kernel
theorem dX10_tryToPass_12 : decode cX10_tryToPass 12 = .ok (.aload_n 0, 1) := by decide +kernel
theorem dX10_tryToPass_13 : decode cX10_tryToPass 13 = .ok (.getfield 249, 3) := by decide +kernel
theorem dX10_tryToPass_16 : decode cX10_tryToPass 16 = .ok (.aload_n 1, 1) := by decide +kernel
theorem dX10_tryToPass_17 : decode cX10_tryToPass 17 = .ok (.getfield 137, 3) := by decide +kernel
theorem dX10_tryToPass_20 : decode cX10_tryToPass 20 = .ok (.invokestatic 181, 3) := by decide +kernel
theorem dX10_tryToPass_23 : decode cX10_tryToPass 23 = .ok (.ifCond .ne 14, 3) := by decide +kernel
theorem dX10_tryToPass_26 : decode cX10_tryToPass 26 = .ok (.iload_n 2, 1) := by decide +kernel
theorem dX10_tryToPass_27 : decode cX10_tryToPass 27 = .ok (.ifCond .ne 11, 3) := by decide +kernel
theorem dX10_tryToPass_30 : decode cX10_tryToPass 30 = .ok (.aload_n 1, 1) := by decide +kernel
theorem dX10_tryToPass_31 : decode cX10_tryToPass 31 = .ok (.getfield 152, 3) := by decide +kernel
theorem dX10_tryToPass_34 : decode cX10_tryToPass 34 = .ok (.ifCond .ne 4, 3) := by decide +kernel
theorem dX10_tryToPass_37 : decode cX10_tryToPass 37 = .ok (.return_, 1) := by decide +kernel
theorem dX10_tryToPass_38 : decode cX10_tryToPass 38 = .ok (.aload_n 0, 1) := by decide +kernel
theorem dX10_tryToPass_39 : decode cX10_tryToPass 39 = .ok (.aload_n 1, 1) := by decide +kernel
theorem dX10_tryToPass_40 : decode cX10_tryToPass 40 = .ok (.getfield 137, 3) := by decide +kernel
theorem dX10_tryToPass_43 : decode cX10_tryToPass 43 = .ok (.aload_n 1, 1) := by decide +kernel
theorem dX10_tryToPass_44 : decode cX10_tryToPass 44 = .ok (.getfield 134, 3) := by decide +kernel
theorem dX10_tryToPass_47 : decode cX10_tryToPass 47 = .ok (.aload_n 0, 1) := by decide +kernel
theorem dX10_tryToPass_48 : decode cX10_tryToPass 48 = .ok (.invokevirtual 195, 3) := by decide +kernel
theorem dX10_tryToPass_51 : decode cX10_tryToPass 51 = .ok (.invokevirtual 274, 3) := by decide +kernel
theorem dX10_tryToPass_54 : decode cX10_tryToPass 54 = .ok (.istore_n 3, 1) := by decide +kernel
theorem dX10_tryToPass_55 : decode cX10_tryToPass 55 = .ok (.iload_n 3, 1) := by decide +kernel
theorem dX10_tryToPass_56 : decode cX10_tryToPass 56 = .ok (.iconst (-1), 1) := by decide +kernel
theorem dX10_tryToPass_57 : decode cX10_tryToPass 57 = .ok (.if_icmp .eq 14, 3) := by decide +kernel
theorem dX10_tryToPass_60 : decode cX10_tryToPass 60 = .ok (.aload_n 0, 1) := by decide +kernel
theorem dX10_tryToPass_61 : decode cX10_tryToPass 61 = .ok (.getfield 252, 3) := by decide +kernel
theorem dX10_tryToPass_64 : decode cX10_tryToPass 64 = .ok (.iload_n 3, 1) := by decide +kernel
theorem dX10_tryToPass_65 : decode cX10_tryToPass 65 = .ok (.invokestatic 181, 3) := by decide +kernel
theorem dX10_tryToPass_68 : decode cX10_tryToPass 68 = .ok (.ifCond .eq 4, 3) := by decide +kernel
theorem dX10_tryToPass_72 : decode cX10_tryToPass 72 = .ok (.iload_n 2, 1) := by decide +kernel
theorem dX10_tryToPass_73 : decode cX10_tryToPass 73 = .ok (.ifCond .eq 18, 3) := by decide +kernel
theorem dX10_tryToPass_76 : decode cX10_tryToPass 76 = .ok (.aload_n 0, 1) := by decide +kernel
theorem dX10_tryToPass_77 : decode cX10_tryToPass 77 = .ok (.getfield 262, 3) := by decide +kernel
theorem dX10_tryToPass_80 : decode cX10_tryToPass 80 = .ok (.iload_n 3, 1) := by decide +kernel
theorem dX10_tryToPass_81 : decode cX10_tryToPass 81 = .ok (.invokestatic 181, 3) := by decide +kernel
theorem dX10_tryToPass_84 : decode cX10_tryToPass 84 = .ok (.ifCond .eq 7, 3) := by decide +kernel
theorem dX10_tryToPass_87 : decode cX10_tryToPass 87 = .ok (.iconst 1, 1) := by decide +kernel
theorem dX10_tryToPass_88 : decode cX10_tryToPass 88 = .ok (.goto 4, 3) := by decide +kernel
theorem dX10_tryToPass_71 : decode cX10_tryToPass 71 = .ok (.return_, 1) := by decide +kernel
theorem dX10_tryToPass_91 : decode cX10_tryToPass 91 = .ok (.iconst 0, 1) := by decide +kernel
theorem dX10_tryToPass_92 : decode cX10_tryToPass 92 = .ok (.istore 4, 2) := by decide +kernel
theorem dX10_tryToPass_94 : decode cX10_tryToPass 94 = .ok (.iload 4, 2) := by decide +kernel
theorem dX10_tryToPass_96 : decode cX10_tryToPass 96 = .ok (.ifCond .eq 10, 3) := by decide +kernel
theorem dX10_tryToPass_106 : decode cX10_tryToPass 106 = .ok (.aload_n 0, 1) := by decide +kernel
theorem dX10_tryToPass_107 : decode cX10_tryToPass 107 = .ok (.getfield 51, 3) := by decide +kernel
theorem dX10_tryToPass_110 : decode cX10_tryToPass 110 = .ok (.aload_n 0, 1) := by decide +kernel
theorem dX10_tryToPass_111 : decode cX10_tryToPass 111 = .ok (.getfield 54, 3) := by decide +kernel
theorem dX10_tryToPass_114 : decode cX10_tryToPass 114 = .ok (.iadd, 1) := by decide +kernel
theorem dX10_tryToPass_99 : decode cX10_tryToPass 99 = .ok (.aload_n 0, 1) := by decide +kernel
theorem dX10_tryToPass_100 : decode cX10_tryToPass 100 = .ok (.getfield 51, 3) := by decide +kernel
theorem dX10_tryToPass_103 : decode cX10_tryToPass 103 = .ok (.goto 12, 3) := by decide +kernel
theorem dX10_tryToPass_115 : decode cX10_tryToPass 115 = .ok (.istore 5, 2) := by decide +kernel
theorem dX10_tryToPass_117 : decode cX10_tryToPass 117 = .ok (.aload_n 0, 1) := by decide +kernel
theorem dX10_tryToPass_118 : decode cX10_tryToPass 118 = .ok (.aload_n 1, 1) := by decide +kernel
theorem dX10_tryToPass_119 : decode cX10_tryToPass 119 = .ok (.getfield 137, 3) := by decide +kernel
theorem dX10_tryToPass_122 : decode cX10_tryToPass 122 = .ok (.invokevirtual 66, 3) := by decide +kernel
theorem dX10_tryToPass_125 : decode cX10_tryToPass 125 = .ok (.astore 6, 2) := by decide +kernel
theorem dX10_tryToPass_127 : decode cX10_tryToPass 127 = .ok (.aload_n 0, 1) := by decide +kernel
theorem dX10_tryToPass_128 : decode cX10_tryToPass 128 = .ok (.iload_n 3, 1) := by decide +kernel
theorem dX10_tryToPass_129 : decode cX10_tryToPass 129 = .ok (.invokevirtual 66, 3) := by decide +kernel
theorem dX10_tryToPass_132 : decode cX10_tryToPass 132 = .ok (.astore 7, 2) := by decide +kernel
theorem dX10_tryToPass_134 : decode cX10_tryToPass 134 = .ok (.iload 4, 2) := by decide +kernel
theorem dX10_tryToPass_136 : decode cX10_tryToPass 136 = .ok (.ifCond .ne 10, 3) := by decide +kernel
theorem dX10_tryToPass_139 : decode cX10_tryToPass 139 = .ok (.aload_n 1, 1) := by decide +kernel
theorem dX10_tryToPass_140 : decode cX10_tryToPass 140 = .ok (.getfield 152, 3) := by decide +kernel
theorem dX10_tryToPass_143 : decode cX10_tryToPass 143 = .ok (.ifCond .eq 23, 3) := by decide +kernel
theorem dX10_tryToPass_146 : decode cX10_tryToPass 146 = .ok (.aload 6, 2) := by decide +kernel
theorem dX10_tryToPass_148 : decode cX10_tryToPass 148 = .ok (.getfield 101, 3) := by decide +kernel
theorem dX10_tryToPass_151 : decode cX10_tryToPass 151 = .ok (.iload 5, 2) := by decide +kernel
theorem dX10_tryToPass_153 : decode cX10_tryToPass 153 = .ok (.if_icmp .lt 13, 3) := by decide +kernel
theorem dX10_tryToPass_156 : decode cX10_tryToPass 156 = .ok (.aload 7, 2) := by decide +kernel
theorem dX10_tryToPass_158 : decode cX10_tryToPass 158 = .ok (.getfield 101, 3) := by decide +kernel
theorem dX10_tryToPass_161 : decode cX10_tryToPass 161 = .ok (.iload 5, 2) := by decide +kernel
theorem dX10_tryToPass_163 : decode cX10_tryToPass 163 = .ok (.if_icmp .ge 4, 3) := by decide +kernel
theorem dX10_tryToPass_167 : decode cX10_tryToPass 167 = .ok (.aload 6, 2) := by decide +kernel
theorem dX10_tryToPass_169 : decode cX10_tryToPass 169 = .ok (.dup, 1) := by decide +kernel
theorem dX10_tryToPass_170 : decode cX10_tryToPass 170 = .ok (.getfield 101, 3) := by decide +kernel
theorem dX10_tryToPass_173 : decode cX10_tryToPass 173 = .ok (.iload 5, 2) := by decide +kernel
theorem dX10_tryToPass_175 : decode cX10_tryToPass 175 = .ok (.isub, 1) := by decide +kernel
theorem dX10_tryToPass_176 : decode cX10_tryToPass 176 = .ok (.putfield 101, 3) := by decide +kernel
theorem dX10_tryToPass_179 : decode cX10_tryToPass 179 = .ok (.aload 6, 2) := by decide +kernel
theorem dX10_tryToPass_181 : decode cX10_tryToPass 181 = .ok (.dup, 1) := by decide +kernel
theorem dX10_tryToPass_182 : decode cX10_tryToPass 182 = .ok (.getfield 110, 3) := by decide +kernel
theorem dX10_tryToPass_185 : decode cX10_tryToPass 185 = .ok (.iconst 1, 1) := by decide +kernel
theorem dX10_tryToPass_186 : decode cX10_tryToPass 186 = .ok (.iadd, 1) := by decide +kernel
theorem dX10_tryToPass_187 : decode cX10_tryToPass 187 = .ok (.putfield 110, 3) := by decide +kernel
theorem dX10_tryToPass_190 : decode cX10_tryToPass 190 = .ok (.aload_n 0, 1) := by decide +kernel
theorem dX10_tryToPass_191 : decode cX10_tryToPass 191 = .ok (.dup, 1) := by decide +kernel
theorem dX10_tryToPass_192 : decode cX10_tryToPass 192 = .ok (.getfield 249, 3) := by decide +kernel
theorem dX10_tryToPass_195 : decode cX10_tryToPass 195 = .ok (.iconst 1, 1) := by decide +kernel
theorem dX10_tryToPass_196 : decode cX10_tryToPass 196 = .ok (.aload_n 1, 1) := by decide +kernel
theorem dX10_tryToPass_197 : decode cX10_tryToPass 197 = .ok (.getfield 137, 3) := by decide +kernel
theorem dX10_tryToPass_200 : decode cX10_tryToPass 200 = .ok (.ishl, 1) := by decide +kernel
theorem dX10_tryToPass_201 : decode cX10_tryToPass 201 = .ok (.ior, 1) := by decide +kernel
theorem dX10_tryToPass_202 : decode cX10_tryToPass 202 = .ok (.putfield 249, 3) := by decide +kernel
theorem dX10_tryToPass_205 : decode cX10_tryToPass 205 = .ok (.aload 7, 2) := by decide +kernel
theorem dX10_tryToPass_207 : decode cX10_tryToPass 207 = .ok (.dup, 1) := by decide +kernel
theorem dX10_tryToPass_208 : decode cX10_tryToPass 208 = .ok (.getfield 101, 3) := by decide +kernel
theorem dX10_tryToPass_211 : decode cX10_tryToPass 211 = .ok (.iload 5, 2) := by decide +kernel
theorem dX10_tryToPass_213 : decode cX10_tryToPass 213 = .ok (.isub, 1) := by decide +kernel
theorem dX10_tryToPass_214 : decode cX10_tryToPass 214 = .ok (.putfield 101, 3) := by decide +kernel
theorem dX10_tryToPass_217 : decode cX10_tryToPass 217 = .ok (.aload 7, 2) := by decide +kernel
theorem dX10_tryToPass_219 : decode cX10_tryToPass 219 = .ok (.dup, 1) := by decide +kernel
theorem dX10_tryToPass_220 : decode cX10_tryToPass 220 = .ok (.getfield 113, 3) := by decide +kernel
theorem dX10_tryToPass_223 : decode cX10_tryToPass 223 = .ok (.iconst 1, 1) := by decide +kernel
theorem dX10_tryToPass_224 : decode cX10_tryToPass 224 = .ok (.iadd, 1) := by decide +kernel
theorem dX10_tryToPass_225 : decode cX10_tryToPass 225 = .ok (.putfield 113, 3) := by decide +kernel
theorem dX10_tryToPass_228 : decode cX10_tryToPass 228 = .ok (.aload_n 0, 1) := by decide +kernel
theorem dX10_tryToPass_229 : decode cX10_tryToPass 229 = .ok (.dup, 1) := by decide +kernel
theorem dX10_tryToPass_230 : decode cX10_tryToPass 230 = .ok (.getfield 252, 3) := by decide +kernel
theorem dX10_tryToPass_233 : decode cX10_tryToPass 233 = .ok (.iconst 1, 1) := by decide +kernel
theorem dX10_tryToPass_234 : decode cX10_tryToPass 234 = .ok (.iload_n 3, 1) := by decide +kernel
theorem dX10_tryToPass_235 : decode cX10_tryToPass 235 = .ok (.ishl, 1) := by decide +kernel
theorem dX10_tryToPass_236 : decode cX10_tryToPass 236 = .ok (.ior, 1) := by decide +kernel
theorem dX10_tryToPass_237 : decode cX10_tryToPass 237 = .ok (.putfield 252, 3) := by decide +kernel
theorem dX10_tryToPass_240 : decode cX10_tryToPass 240 = .ok (.aload_n 0, 1) := by decide +kernel
theorem dX10_tryToPass_241 : decode cX10_tryToPass 241 = .ok (.aload_n 1, 1) := by decide +kernel
theorem dX10_tryToPass_242 : decode cX10_tryToPass 242 = .ok (.iload_n 3, 1) := by decide +kernel
theorem dX10_tryToPass_243 : decode cX10_tryToPass 243 = .ok (.invokevirtual 277, 3) := by decide +kernel
theorem dX10_tryToPass_246 : decode cX10_tryToPass 246 = .ok (.return_, 1) := by decide +kernel
theorem dX10_tryToPass_166 : decode cX10_tryToPass 166 = .ok (.return_, 1) := by decide +kernel
theorem dX10_passMessages_0 : decode cX10_passMessages 0 = .ok (.iconst 0, 1) := by decide +kernel
theorem dX10_passMessages_1 : decode cX10_passMessages 1 = .ok (.istore_n 2, 1) := by decide +kernel
theorem dX10_passMessages_2 : decode cX10_passMessages 2 = .ok (.iconst 0, 1) := by decide +kernel
theorem dX10_passMessages_3 : decode cX10_passMessages 3 = .ok (.istore_n 3, 1) := by decide +kernel
theorem dX10_passMessages_4 : decode cX10_passMessages 4 = .ok (.iload_n 3, 1) := by decide +kernel
theorem dX10_passMessages_5 : decode cX10_passMessages 5 = .ok (.aload_n 0, 1) := by decide +kernel
theorem dX10_passMessages_6 : decode cX10_passMessages 6 = .ok (.getfield 42, 3) := by decide +kernel
theorem dX10_passMessages_9 : decode cX10_passMessages 9 = .ok (.if_icmp .ge 56, 3) := by decide +kernel
theorem dX10_passMessages_65 : decode cX10_passMessages 65 = .ok (.iload_n 2, 1) := by decide +kernel
theorem dX10_passMessages_66 : decode cX10_passMessages 66 = .ok (.ireturn, 1) := by decide +kernel
theorem dX10_passMessages_12 : decode cX10_passMessages 12 = .ok (.aload_n 0, 1) := by decide +kernel
theorem dX10_passMessages_13 : decode cX10_passMessages 13 = .ok (.iload_n 3, 1) := by decide +kernel
theorem dX10_passMessages_14 : decode cX10_passMessages 14 = .ok (.invokevirtual 81, 3) := by decide +kernel
theorem dX10_passMessages_17 : decode cX10_passMessages 17 = .ok (.astore 4, 2) := by decide +kernel
theorem dX10_passMessages_19 : decode cX10_passMessages 19 = .ok (.aload 4, 2) := by decide +kernel
theorem dX10_passMessages_21 : decode cX10_passMessages 21 = .ok (.getfield 140, 3) := by decide +kernel
theorem dX10_passMessages_24 : decode cX10_passMessages 24 = .ok (.ifCond .ne 35, 3) := by decide +kernel
theorem dX10_passMessages_27 : decode cX10_passMessages 27 = .ok (.aload 4, 2) := by decide +kernel
theorem dX10_passMessages_29 : decode cX10_passMessages 29 = .ok (.getfield 152, 3) := by decide +kernel
theorem dX10_passMessages_32 : decode cX10_passMessages 32 = .ok (.iload_n 1, 1) := by decide +kernel
theorem dX10_passMessages_33 : decode cX10_passMessages 33 = .ok (.if_icmp .ne 26, 3) := by decide +kernel
theorem dX10_passMessages_36 : decode cX10_passMessages 36 = .ok (.aload_n 0, 1) := by decide +kernel
theorem dX10_passMessages_37 : decode cX10_passMessages 37 = .ok (.aload 4, 2) := by decide +kernel
theorem dX10_passMessages_39 : decode cX10_passMessages 39 = .ok (.invokevirtual 271, 3) := by decide +kernel
theorem dX10_passMessages_42 : decode cX10_passMessages 42 = .ok (.iload_n 2, 1) := by decide +kernel
theorem dX10_passMessages_43 : decode cX10_passMessages 43 = .ok (.aload 4, 2) := by decide +kernel
theorem dX10_passMessages_45 : decode cX10_passMessages 45 = .ok (.getfield 140, 3) := by decide +kernel
theorem dX10_passMessages_48 : decode cX10_passMessages 48 = .ok (.iconst 1, 1) := by decide +kernel
theorem dX10_passMessages_49 : decode cX10_passMessages 49 = .ok (.if_icmp .ne 7, 3) := by decide +kernel
theorem dX10_passMessages_56 : decode cX10_passMessages 56 = .ok (.iconst 0, 1) := by decide +kernel
theorem dX10_passMessages_52 : decode cX10_passMessages 52 = .ok (.iconst 1, 1) := by decide +kernel
theorem dX10_passMessages_53 : decode cX10_passMessages 53 = .ok (.goto 4, 3) := by decide +kernel
theorem dX10_passMessages_59 : decode cX10_passMessages 59 = .ok (.iinc 3 1, 3) := by decide +kernel
theorem dX10_passMessages_62 : decode cX10_passMessages 62 = .ok (.goto (-58), 3) := by decide +kernel
theorem dX10_passMessages_57 : decode cX10_passMessages 57 = .ok (.iadd, 1) := by decide +kernel
theorem dX10_passMessages_58 : decode cX10_passMessages 58 = .ok (.istore_n 2, 1) := by decide +kernel
theorem dX10_loseMessages_0 : decode cX10_loseMessages 0 = .ok (.iconst 0, 1) := by decide +kernel
theorem dX10_loseMessages_1 : decode cX10_loseMessages 1 = .ok (.istore_n 1, 1) := by decide +kernel
theorem dX10_loseMessages_2 : decode cX10_loseMessages 2 = .ok (.iload_n 1, 1) := by decide +kernel
theorem dX10_loseMessages_3 : decode cX10_loseMessages 3 = .ok (.aload_n 0, 1) := by decide +kernel
theorem dX10_loseMessages_4 : decode cX10_loseMessages 4 = .ok (.getfield 42, 3) := by decide +kernel
theorem dX10_loseMessages_7 : decode cX10_loseMessages 7 = .ok (.if_icmp .ge 38, 3) := by decide +kernel
theorem dX10_loseMessages_45 : decode cX10_loseMessages 45 = .ok (.return_, 1) := by decide +kernel
theorem dX10_loseMessages_10 : decode cX10_loseMessages 10 = .ok (.aload_n 0, 1) := by decide +kernel
theorem dX10_loseMessages_11 : decode cX10_loseMessages 11 = .ok (.iload_n 1, 1) := by decide +kernel
theorem dX10_loseMessages_12 : decode cX10_loseMessages 12 = .ok (.invokevirtual 81, 3) := by decide +kernel
theorem dX10_loseMessages_15 : decode cX10_loseMessages 15 = .ok (.astore_n 2, 1) := by decide +kernel
theorem dX10_loseMessages_16 : decode cX10_loseMessages 16 = .ok (.aload_n 2, 1) := by decide +kernel
theorem dX10_loseMessages_17 : decode cX10_loseMessages 17 = .ok (.getfield 140, 3) := by decide +kernel
theorem dX10_loseMessages_20 : decode cX10_loseMessages 20 = .ok (.ifCond .ne 19, 3) := by decide +kernel
theorem dX10_loseMessages_23 : decode cX10_loseMessages 23 = .ok (.aload_n 0, 1) := by decide +kernel
theorem dX10_loseMessages_24 : decode cX10_loseMessages 24 = .ok (.aload_n 2, 1) := by decide +kernel
theorem dX10_loseMessages_25 : decode cX10_loseMessages 25 = .ok (.getfield 137, 3) := by decide +kernel
theorem dX10_loseMessages_28 : decode cX10_loseMessages 28 = .ok (.invokevirtual 160, 3) := by decide +kernel
theorem dX10_loseMessages_31 : decode cX10_loseMessages 31 = .ok (.ifCond .eq 8, 3) := by decide +kernel
theorem dX10_loseMessages_34 : decode cX10_loseMessages 34 = .ok (.aload_n 2, 1) := by decide +kernel
theorem dX10_loseMessages_35 : decode cX10_loseMessages 35 = .ok (.iconst 2, 1) := by decide +kernel
theorem dX10_loseMessages_36 : decode cX10_loseMessages 36 = .ok (.putfield 140, 3) := by decide +kernel
theorem dX10_loseMessages_39 : decode cX10_loseMessages 39 = .ok (.iinc 1 1, 3) := by decide +kernel
theorem dX10_loseMessages_42 : decode cX10_loseMessages 42 = .ok (.goto (-40), 3) := by decide +kernel
theorem dX10_passTicks_0 : decode cX10_passTicks 0 = .ok (.iconst 0, 1) := by decide +kernel
theorem dX10_passTicks_1 : decode cX10_passTicks 1 = .ok (.istore_n 2, 1) := by decide +kernel
theorem dX10_passTicks_2 : decode cX10_passTicks 2 = .ok (.iconst 0, 1) := by decide +kernel
theorem dX10_passTicks_3 : decode cX10_passTicks 3 = .ok (.istore_n 3, 1) := by decide +kernel
theorem dX10_passTicks_4 : decode cX10_passTicks 4 = .ok (.iload_n 3, 1) := by decide +kernel
theorem dX10_passTicks_5 : decode cX10_passTicks 5 = .ok (.iload_n 1, 1) := by decide +kernel
theorem dX10_passTicks_6 : decode cX10_passTicks 6 = .ok (.if_icmp .ge 79, 3) := by decide +kernel
theorem dX10_passTicks_85 : decode cX10_passTicks 85 = .ok (.iload_n 2, 1) := by decide +kernel
theorem dX10_passTicks_86 : decode cX10_passTicks 86 = .ok (.ireturn, 1) := by decide +kernel
theorem dX10_passTicks_9 : decode cX10_passTicks 9 = .ok (.aload_n 0, 1) := by decide +kernel
theorem dX10_passTicks_10 : decode cX10_passTicks 10 = .ok (.dup, 1) := by decide +kernel
theorem dX10_passTicks_11 : decode cX10_passTicks 11 = .ok (.getfield 60, 3) := by decide +kernel
theorem dX10_passTicks_14 : decode cX10_passTicks 14 = .ok (.iconst 1, 1) := by decide +kernel
theorem dX10_passTicks_15 : decode cX10_passTicks 15 = .ok (.iadd, 1) := by decide +kernel
theorem dX10_passTicks_16 : decode cX10_passTicks 16 = .ok (.putfield 60, 3) := by decide +kernel
theorem dX10_passTicks_19 : decode cX10_passTicks 19 = .ok (.aload_n 0, 1) := by decide +kernel
theorem dX10_passTicks_20 : decode cX10_passTicks 20 = .ok (.invokevirtual 243, 3) := by decide +kernel
theorem dX10_passTicks_23 : decode cX10_passTicks 23 = .ok (.iconst 0, 1) := by decide +kernel
theorem dX10_passTicks_24 : decode cX10_passTicks 24 = .ok (.istore 4, 2) := by decide +kernel
theorem dX10_passTicks_26 : decode cX10_passTicks 26 = .ok (.iload 4, 2) := by decide +kernel
theorem dX10_passTicks_28 : decode cX10_passTicks 28 = .ok (.aload_n 0, 1) := by decide +kernel
theorem dX10_passTicks_29 : decode cX10_passTicks 29 = .ok (.getfield 39, 3) := by decide +kernel
theorem dX10_passTicks_32 : decode cX10_passTicks 32 = .ok (.if_icmp .ge 19, 3) := by decide +kernel
theorem dX10_passTicks_51 : decode cX10_passTicks 51 = .ok (.aload_n 0, 1) := by decide +kernel
theorem dX10_passTicks_52 : decode cX10_passTicks 52 = .ok (.iconst 0, 1) := by decide +kernel
theorem dX10_passTicks_53 : decode cX10_passTicks 53 = .ok (.putfield 249, 3) := by decide +kernel
theorem dX10_passTicks_56 : decode cX10_passTicks 56 = .ok (.aload_n 0, 1) := by decide +kernel
theorem dX10_passTicks_57 : decode cX10_passTicks 57 = .ok (.iconst 0, 1) := by decide +kernel
theorem dX10_passTicks_58 : decode cX10_passTicks 58 = .ok (.putfield 252, 3) := by decide +kernel
theorem dX10_passTicks_61 : decode cX10_passTicks 61 = .ok (.iload_n 2, 1) := by decide +kernel
theorem dX10_passTicks_62 : decode cX10_passTicks 62 = .ok (.aload_n 0, 1) := by decide +kernel
theorem dX10_passTicks_63 : decode cX10_passTicks 63 = .ok (.iconst 1, 1) := by decide +kernel
theorem dX10_passTicks_64 : decode cX10_passTicks 64 = .ok (.invokevirtual 255, 3) := by decide +kernel
theorem dX10_passTicks_67 : decode cX10_passTicks 67 = .ok (.aload_n 0, 1) := by decide +kernel
theorem dX10_passTicks_68 : decode cX10_passTicks 68 = .ok (.iconst 0, 1) := by decide +kernel
theorem dX10_passTicks_69 : decode cX10_passTicks 69 = .ok (.invokevirtual 255, 3) := by decide +kernel
theorem dX10_passTicks_72 : decode cX10_passTicks 72 = .ok (.iadd, 1) := by decide +kernel
theorem dX10_passTicks_73 : decode cX10_passTicks 73 = .ok (.iadd, 1) := by decide +kernel
theorem dX10_passTicks_74 : decode cX10_passTicks 74 = .ok (.istore_n 2, 1) := by decide +kernel
theorem dX10_passTicks_75 : decode cX10_passTicks 75 = .ok (.aload_n 0, 1) := by decide +kernel
theorem dX10_passTicks_76 : decode cX10_passTicks 76 = .ok (.invokevirtual 259, 3) := by decide +kernel
theorem dX10_passTicks_79 : decode cX10_passTicks 79 = .ok (.iinc 3 1, 3) := by decide +kernel
theorem dX10_passTicks_82 : decode cX10_passTicks 82 = .ok (.goto (-78), 3) := by decide +kernel
theorem dX10_passTicks_35 : decode cX10_passTicks 35 = .ok (.aload_n 0, 1) := by decide +kernel
theorem dX10_passTicks_36 : decode cX10_passTicks 36 = .ok (.aload_n 0, 1) := by decide +kernel
theorem dX10_passTicks_37 : decode cX10_passTicks 37 = .ok (.iload 4, 2) := by decide +kernel
theorem dX10_passTicks_39 : decode cX10_passTicks 39 = .ok (.invokevirtual 74, 3) := by decide +kernel
theorem dX10_passTicks_42 : decode cX10_passTicks 42 = .ok (.invokevirtual 246, 3) := by decide +kernel
theorem dX10_passTicks_45 : decode cX10_passTicks 45 = .ok (.iinc 4 1, 3) := by decide +kernel
theorem dX10_passTicks_48 : decode cX10_passTicks 48 = .ok (.goto (-22), 3) := by decide +kernel
theorem dX1_trialArrival_0 : decode cX1_trialArrival 0 = .ok (.aload_n 0, 1) := by decide +kernel
theorem dX1_trialArrival_1 : decode cX1_trialArrival 1 = .ok (.getfield 12, 3) := by decide +kernel
theorem dX1_trialArrival_4 : decode cX1_trialArrival 4 = .ok (.iload_n 1, 1) := by decide +kernel
theorem dX1_trialArrival_5 : decode cX1_trialArrival 5 = .ok (.invokevirtual 38, 3) := by decide +kernel
theorem dX1_trialArrival_8 : decode cX1_trialArrival 8 = .ok (.astore_n 3, 1) := by decide +kernel
theorem dX1_trialArrival_9 : decode cX1_trialArrival 9 = .ok (.iconst 0, 1) := by decide +kernel
theorem dX1_trialArrival_10 : decode cX1_trialArrival 10 = .ok (.istore 4, 2) := by decide +kernel
theorem dX1_trialArrival_12 : decode cX1_trialArrival 12 = .ok (.iload 4, 2) := by decide +kernel
theorem dX1_trialArrival_14 : decode cX1_trialArrival 14 = .ok (.iload_n 2, 1) := by decide +kernel
theorem dX1_trialArrival_15 : decode cX1_trialArrival 15 = .ok (.if_icmp .gt 37, 3) := by decide +kernel
theorem dX1_trialArrival_18 : decode cX1_trialArrival 18 = .ok (.aload_n 3, 1) := by decide +kernel
theorem dX1_trialArrival_19 : decode cX1_trialArrival 19 = .ok (.getfield 42, 3) := by decide +kernel
theorem dX1_trialArrival_22 : decode cX1_trialArrival 22 = .ok (.iconst 2, 1) := by decide +kernel
theorem dX1_trialArrival_23 : decode cX1_trialArrival 23 = .ok (.if_icmp .eq 29, 3) := by decide +kernel
theorem dX1_trialArrival_26 : decode cX1_trialArrival 26 = .ok (.aload_n 3, 1) := by decide +kernel
theorem dX1_trialArrival_27 : decode cX1_trialArrival 27 = .ok (.getfield 42, 3) := by decide +kernel
theorem dX1_trialArrival_30 : decode cX1_trialArrival 30 = .ok (.iconst 1, 1) := by decide +kernel
theorem dX1_trialArrival_31 : decode cX1_trialArrival 31 = .ok (.if_icmp .ne 6, 3) := by decide +kernel
theorem dX1_trialArrival_37 : decode cX1_trialArrival 37 = .ok (.aload_n 0, 1) := by decide +kernel
theorem dX1_trialArrival_38 : decode cX1_trialArrival 38 = .ok (.getfield 12, 3) := by decide +kernel
theorem dX1_trialArrival_41 : decode cX1_trialArrival 41 = .ok (.iconst 1, 1) := by decide +kernel
theorem dX1_trialArrival_42 : decode cX1_trialArrival 42 = .ok (.invokevirtual 48, 3) := by decide +kernel
theorem dX1_trialArrival_45 : decode cX1_trialArrival 45 = .ok (.pop, 1) := by decide +kernel
theorem dX1_trialArrival_46 : decode cX1_trialArrival 46 = .ok (.iinc 4 1, 3) := by decide +kernel
theorem dX1_trialArrival_49 : decode cX1_trialArrival 49 = .ok (.goto (-37), 3) := by decide +kernel
theorem dX1_trialArrival_34 : decode cX1_trialArrival 34 = .ok (.iload 4, 2) := by decide +kernel
theorem dX1_trialArrival_36 : decode cX1_trialArrival 36 = .ok (.ireturn, 1) := by decide +kernel
theorem dX1_trialArrival_52 : decode cX1_trialArrival 52 = .ok (.iconst (-1), 1) := by decide +kernel
theorem dX1_trialArrival_53 : decode cX1_trialArrival 53 = .ok (.ireturn, 1) := by decide +kernel
theorem dX1_ticksToArrival_0 : decode cX1_ticksToArrival 0 = .ok (.aload_n 0, 1) := by decide +kernel
theorem dX1_ticksToArrival_1 : decode cX1_ticksToArrival 1 = .ok (.getfield 12, 3) := by decide +kernel
theorem dX1_ticksToArrival_4 : decode cX1_ticksToArrival 4 = .ok (.aload_n 1, 1) := by decide +kernel
theorem dX1_ticksToArrival_5 : decode cX1_ticksToArrival 5 = .ok (.invokevirtual 18, 3) := by decide +kernel
theorem dX1_ticksToArrival_8 : decode cX1_ticksToArrival 8 = .ok (.aload_n 0, 1) := by decide +kernel
theorem dX1_ticksToArrival_9 : decode cX1_ticksToArrival 9 = .ok (.iload_n 2, 1) := by decide +kernel
theorem dX1_ticksToArrival_10 : decode cX1_ticksToArrival 10 = .ok (.sipush 200, 3) := by decide +kernel
theorem dX1_ticksToArrival_13 : decode cX1_ticksToArrival 13 = .ok (.invokevirtual 22, 3) := by decide +kernel
theorem dX1_ticksToArrival_16 : decode cX1_ticksToArrival 16 = .ok (.ireturn, 1) := by decide +kernel
theorem dX10_addMessage_0 : decode cX10_addMessage 0 = .ok (.aload_n 0, 1) := by decide +kernel
theorem dX10_addMessage_1 : decode cX10_addMessage 1 = .ok (.getfield 42, 3) := by decide +kernel
theorem dX10_addMessage_4 : decode cX10_addMessage 4 = .ok (.aload_n 0, 1) := by decide +kernel
theorem dX10_addMessage_5 : decode cX10_addMessage 5 = .ok (.getfield 25, 3) := by decide +kernel
theorem dX10_addMessage_8 : decode cX10_addMessage 8 = .ok (.arraylength, 1) := by decide +kernel
theorem dX10_addMessage_9 : decode cX10_addMessage 9 = .ok (.if_icmp .lt 5, 3) := by decide +kernel
theorem dX10_addMessage_14 : decode cX10_addMessage 14 = .ok (.aload_n 0, 1) := by decide +kernel
theorem dX10_addMessage_15 : decode cX10_addMessage 15 = .ok (.aload_n 0, 1) := by decide +kernel
theorem dX10_addMessage_16 : decode cX10_addMessage 16 = .ok (.getfield 42, 3) := by decide +kernel
theorem dX10_addMessage_19 : decode cX10_addMessage 19 = .ok (.invokevirtual 81, 3) := by decide +kernel
theorem dX10_addMessage_22 : decode cX10_addMessage 22 = .ok (.astore 5, 2) := by decide +kernel
theorem dX10_addMessage_24 : decode cX10_addMessage 24 = .ok (.aload 5, 2) := by decide +kernel
theorem dX10_addMessage_26 : decode cX10_addMessage 26 = .ok (.iload_n 1, 1) := by decide +kernel
theorem dX10_addMessage_27 : decode cX10_addMessage 27 = .ok (.putfield 131, 3) := by decide +kernel
theorem dX10_addMessage_30 : decode cX10_addMessage 30 = .ok (.aload 5, 2) := by decide +kernel
theorem dX10_addMessage_32 : decode cX10_addMessage 32 = .ok (.iload_n 2, 1) := by decide +kernel
theorem dX10_addMessage_33 : decode cX10_addMessage 33 = .ok (.putfield 134, 3) := by decide +kernel
theorem dX10_addMessage_36 : decode cX10_addMessage 36 = .ok (.aload 5, 2) := by decide +kernel
theorem dX10_addMessage_38 : decode cX10_addMessage 38 = .ok (.iload_n 1, 1) := by decide +kernel
theorem dX10_addMessage_39 : decode cX10_addMessage 39 = .ok (.putfield 137, 3) := by decide +kernel
theorem dX10_addMessage_42 : decode cX10_addMessage 42 = .ok (.aload 5, 2) := by decide +kernel
theorem dX10_addMessage_44 : decode cX10_addMessage 44 = .ok (.iconst 0, 1) := by decide +kernel
theorem dX10_addMessage_45 : decode cX10_addMessage 45 = .ok (.putfield 140, 3) := by decide +kernel
theorem dX10_addMessage_48 : decode cX10_addMessage 48 = .ok (.aload 5, 2) := by decide +kernel
theorem dX10_addMessage_50 : decode cX10_addMessage 50 = .ok (.aload_n 0, 1) := by decide +kernel
theorem dX10_addMessage_51 : decode cX10_addMessage 51 = .ok (.getfield 60, 3) := by decide +kernel
theorem dX10_addMessage_54 : decode cX10_addMessage 54 = .ok (.iload_n 3, 1) := by decide +kernel
theorem dX10_addMessage_55 : decode cX10_addMessage 55 = .ok (.iadd, 1) := by decide +kernel
theorem dX10_addMessage_56 : decode cX10_addMessage 56 = .ok (.putfield 143, 3) := by decide +kernel
theorem dX10_addMessage_59 : decode cX10_addMessage 59 = .ok (.aload 5, 2) := by decide +kernel
theorem dX10_addMessage_61 : decode cX10_addMessage 61 = .ok (.iconst (-1), 1) := by decide +kernel
theorem dX10_addMessage_62 : decode cX10_addMessage 62 = .ok (.putfield 146, 3) := by decide +kernel
theorem dX10_addMessage_65 : decode cX10_addMessage 65 = .ok (.aload 5, 2) := by decide +kernel
theorem dX10_addMessage_67 : decode cX10_addMessage 67 = .ok (.iconst 0, 1) := by decide +kernel
theorem dX10_addMessage_68 : decode cX10_addMessage 68 = .ok (.putfield 149, 3) := by decide +kernel
theorem dX10_addMessage_71 : decode cX10_addMessage 71 = .ok (.aload 5, 2) := by decide +kernel
theorem dX10_addMessage_73 : decode cX10_addMessage 73 = .ok (.iload 4, 2) := by decide +kernel
theorem dX10_addMessage_75 : decode cX10_addMessage 75 = .ok (.putfield 152, 3) := by decide +kernel
theorem dX10_addMessage_78 : decode cX10_addMessage 78 = .ok (.aload_n 0, 1) := by decide +kernel
theorem dX10_addMessage_79 : decode cX10_addMessage 79 = .ok (.dup, 1) := by decide +kernel
theorem dX10_addMessage_80 : decode cX10_addMessage 80 = .ok (.getfield 42, 3) := by decide +kernel
theorem dX10_addMessage_83 : decode cX10_addMessage 83 = .ok (.iconst 1, 1) := by decide +kernel
theorem dX10_addMessage_84 : decode cX10_addMessage 84 = .ok (.iadd, 1) := by decide +kernel
theorem dX10_addMessage_85 : decode cX10_addMessage 85 = .ok (.putfield 42, 3) := by decide +kernel
theorem dX10_addMessage_88 : decode cX10_addMessage 88 = .ok (.aload_n 0, 1) := by decide +kernel
theorem dX10_addMessage_89 : decode cX10_addMessage 89 = .ok (.getfield 42, 3) := by decide +kernel
theorem dX10_addMessage_92 : decode cX10_addMessage 92 = .ok (.iconst 1, 1) := by decide +kernel
theorem dX10_addMessage_93 : decode cX10_addMessage 93 = .ok (.isub, 1) := by decide +kernel
theorem dX10_addMessage_94 : decode cX10_addMessage 94 = .ok (.ireturn, 1) := by decide +kernel
theorem dX10_addMessage_12 : decode cX10_addMessage 12 = .ok (.iconst (-1), 1) := by decide +kernel
theorem dX10_addMessage_13 : decode cX10_addMessage 13 = .ok (.ireturn, 1) := by decide +kernel
theorem dX1_sendInThought_0 : decode cX1_sendInThought 0 = .ok (.aload_n 0, 1) := by decide +kernel
theorem dX1_sendInThought_1 : decode cX1_sendInThought 1 = .ok (.getfield 12, 3) := by decide +kernel
theorem dX1_sendInThought_4 : decode cX1_sendInThought 4 = .ok (.aload_n 1, 1) := by decide +kernel
theorem dX1_sendInThought_5 : decode cX1_sendInThought 5 = .ok (.invokevirtual 18, 3) := by decide +kernel
theorem dX1_sendInThought_8 : decode cX1_sendInThought 8 = .ok (.aload_n 0, 1) := by decide +kernel
theorem dX1_sendInThought_9 : decode cX1_sendInThought 9 = .ok (.getfield 12, 3) := by decide +kernel
theorem dX1_sendInThought_12 : decode cX1_sendInThought 12 = .ok (.iload_n 2, 1) := by decide +kernel
theorem dX1_sendInThought_13 : decode cX1_sendInThought 13 = .ok (.iload_n 3, 1) := by decide +kernel
theorem dX1_sendInThought_14 : decode cX1_sendInThought 14 = .ok (.iconst 1, 1) := by decide +kernel
theorem dX1_sendInThought_15 : decode cX1_sendInThought 15 = .ok (.iload 4, 2) := by decide +kernel
theorem dX1_sendInThought_17 : decode cX1_sendInThought 17 = .ok (.invokevirtual 34, 3) := by decide +kernel
theorem dX1_sendInThought_20 : decode cX1_sendInThought 20 = .ok (.ireturn, 1) := by decide +kernel
theorem dX1_ticksIfSent_0 : decode cX1_ticksIfSent 0 = .ok (.aload_n 1, 1) := by decide +kernel
theorem dX1_ticksIfSent_1 : decode cX1_ticksIfSent 1 = .ok (.iload_n 2, 1) := by decide +kernel
theorem dX1_ticksIfSent_2 : decode cX1_ticksIfSent 2 = .ok (.invokevirtual 26, 3) := by decide +kernel
theorem dX1_ticksIfSent_5 : decode cX1_ticksIfSent 5 = .ok (.ifCond .ne 11, 3) := by decide +kernel
theorem dX1_ticksIfSent_8 : decode cX1_ticksIfSent 8 = .ok (.aload_n 1, 1) := by decide +kernel
theorem dX1_ticksIfSent_9 : decode cX1_ticksIfSent 9 = .ok (.iload_n 3, 1) := by decide +kernel
theorem dX1_ticksIfSent_10 : decode cX1_ticksIfSent 10 = .ok (.invokevirtual 26, 3) := by decide +kernel
theorem dX1_ticksIfSent_13 : decode cX1_ticksIfSent 13 = .ok (.ifCond .eq 5, 3) := by decide +kernel
theorem dX1_ticksIfSent_18 : decode cX1_ticksIfSent 18 = .ok (.aload_n 0, 1) := by decide +kernel
theorem dX1_ticksIfSent_19 : decode cX1_ticksIfSent 19 = .ok (.aload_n 0, 1) := by decide +kernel
theorem dX1_ticksIfSent_20 : decode cX1_ticksIfSent 20 = .ok (.aload_n 1, 1) := by decide +kernel
theorem dX1_ticksIfSent_21 : decode cX1_ticksIfSent 21 = .ok (.iload_n 2, 1) := by decide +kernel
theorem dX1_ticksIfSent_22 : decode cX1_ticksIfSent 22 = .ok (.iload_n 3, 1) := by decide +kernel
theorem dX1_ticksIfSent_23 : decode cX1_ticksIfSent 23 = .ok (.iload 4, 2) := by decide +kernel
theorem dX1_ticksIfSent_25 : decode cX1_ticksIfSent 25 = .ok (.invokevirtual 30, 3) := by decide +kernel
theorem dX1_ticksIfSent_28 : decode cX1_ticksIfSent 28 = .ok (.sipush 200, 3) := by decide +kernel
theorem dX1_ticksIfSent_31 : decode cX1_ticksIfSent 31 = .ok (.invokevirtual 22, 3) := by decide +kernel
theorem dX1_ticksIfSent_34 : decode cX1_ticksIfSent 34 = .ok (.ireturn, 1) := by decide +kernel
theorem dX1_ticksIfSent_16 : decode cX1_ticksIfSent 16 = .ok (.iconst (-1), 1) := by decide +kernel
theorem dX1_ticksIfSent_17 : decode cX1_ticksIfSent 17 = .ok (.ireturn, 1) := by decide +kernel
theorem dX1_ticksToOut_0 : decode cX1_ticksToOut 0 = .ok (.aload_n 0, 1) := by decide +kernel
theorem dX1_ticksToOut_1 : decode cX1_ticksToOut 1 = .ok (.getfield 12, 3) := by decide +kernel
theorem dX1_ticksToOut_4 : decode cX1_ticksToOut 4 = .ok (.aload_n 1, 1) := by decide +kernel
theorem dX1_ticksToOut_5 : decode cX1_ticksToOut 5 = .ok (.invokevirtual 18, 3) := by decide +kernel
theorem dX1_ticksToOut_8 : decode cX1_ticksToOut 8 = .ok (.iconst 0, 1) := by decide +kernel
theorem dX1_ticksToOut_9 : decode cX1_ticksToOut 9 = .ok (.istore_n 3, 1) := by decide +kernel
theorem dX1_ticksToOut_10 : decode cX1_ticksToOut 10 = .ok (.iload_n 3, 1) := by decide +kernel
theorem dX1_ticksToOut_11 : decode cX1_ticksToOut 11 = .ok (.sipush 200, 3) := by decide +kernel
theorem dX1_ticksToOut_14 : decode cX1_ticksToOut 14 = .ok (.if_icmp .gt 31, 3) := by decide +kernel
theorem dX1_ticksToOut_17 : decode cX1_ticksToOut 17 = .ok (.aload_n 0, 1) := by decide +kernel
theorem dX1_ticksToOut_18 : decode cX1_ticksToOut 18 = .ok (.getfield 12, 3) := by decide +kernel
theorem dX1_ticksToOut_21 : decode cX1_ticksToOut 21 = .ok (.iload_n 2, 1) := by decide +kernel
theorem dX1_ticksToOut_22 : decode cX1_ticksToOut 22 = .ok (.invokevirtual 26, 3) := by decide +kernel
theorem dX1_ticksToOut_25 : decode cX1_ticksToOut 25 = .ok (.ifCond .eq 5, 3) := by decide +kernel
theorem dX1_ticksToOut_30 : decode cX1_ticksToOut 30 = .ok (.aload_n 0, 1) := by decide +kernel
theorem dX1_ticksToOut_31 : decode cX1_ticksToOut 31 = .ok (.getfield 12, 3) := by decide +kernel
theorem dX1_ticksToOut_34 : decode cX1_ticksToOut 34 = .ok (.iconst 1, 1) := by decide +kernel
theorem dX1_ticksToOut_35 : decode cX1_ticksToOut 35 = .ok (.invokevirtual 48, 3) := by decide +kernel
theorem dX1_ticksToOut_38 : decode cX1_ticksToOut 38 = .ok (.pop, 1) := by decide +kernel
theorem dX1_ticksToOut_39 : decode cX1_ticksToOut 39 = .ok (.iinc 3 1, 3) := by decide +kernel
theorem dX1_ticksToOut_42 : decode cX1_ticksToOut 42 = .ok (.goto (-32), 3) := by decide +kernel
theorem dX1_ticksToOut_28 : decode cX1_ticksToOut 28 = .ok (.iload_n 3, 1) := by decide +kernel
theorem dX1_ticksToOut_29 : decode cX1_ticksToOut 29 = .ok (.ireturn, 1) := by decide +kernel
theorem dX1_ticksToOut_45 : decode cX1_ticksToOut 45 = .ok (.iconst (-1), 1) := by decide +kernel
theorem dX1_ticksToOut_46 : decode cX1_ticksToOut 46 = .ok (.ireturn, 1) := by decide +kernel
theorem dX1_energyAfter_0 : decode cX1_energyAfter 0 = .ok (.aload_n 0, 1) := by decide +kernel
theorem dX1_energyAfter_1 : decode cX1_energyAfter 1 = .ok (.getfield 12, 3) := by decide +kernel
theorem dX1_energyAfter_4 : decode cX1_energyAfter 4 = .ok (.aload_n 1, 1) := by decide +kernel
theorem dX1_energyAfter_5 : decode cX1_energyAfter 5 = .ok (.invokevirtual 18, 3) := by decide +kernel
theorem dX1_energyAfter_8 : decode cX1_energyAfter 8 = .ok (.aload_n 0, 1) := by decide +kernel
theorem dX1_energyAfter_9 : decode cX1_energyAfter 9 = .ok (.getfield 12, 3) := by decide +kernel
theorem dX1_energyAfter_12 : decode cX1_energyAfter 12 = .ok (.iload_n 3, 1) := by decide +kernel
theorem dX1_energyAfter_13 : decode cX1_energyAfter 13 = .ok (.invokevirtual 48, 3) := by decide +kernel
theorem dX1_energyAfter_16 : decode cX1_energyAfter 16 = .ok (.pop, 1) := by decide +kernel
theorem dX1_energyAfter_17 : decode cX1_energyAfter 17 = .ok (.aload_n 0, 1) := by decide +kernel
theorem dX1_energyAfter_18 : decode cX1_energyAfter 18 = .ok (.getfield 12, 3) := by decide +kernel
theorem dX1_energyAfter_21 : decode cX1_energyAfter 21 = .ok (.iload_n 2, 1) := by decide +kernel
theorem dX1_energyAfter_22 : decode cX1_energyAfter 22 = .ok (.invokevirtual 52, 3) := by decide +kernel
theorem dX1_energyAfter_25 : decode cX1_energyAfter 25 = .ok (.getfield 56, 3) := by decide +kernel
theorem dX1_energyAfter_28 : decode cX1_energyAfter 28 = .ok (.ireturn, 1) := by decide +kernel
theorem dX1_ticksToShiftTaken_0 : decode cX1_ticksToShiftTaken 0 = .ok (.aload_n 0, 1) := by decide +kernel
theorem dX1_ticksToShiftTaken_1 : decode cX1_ticksToShiftTaken 1 = .ok (.getfield 12, 3) := by decide +kernel
theorem dX1_ticksToShiftTaken_4 : decode cX1_ticksToShiftTaken 4 = .ok (.aload_n 1, 1) := by decide +kernel
theorem dX1_ticksToShiftTaken_5 : decode cX1_ticksToShiftTaken 5 = .ok (.invokevirtual 18, 3) := by decide +kernel
theorem dX1_ticksToShiftTaken_8 : decode cX1_ticksToShiftTaken 8 = .ok (.iconst 1, 1) := by decide +kernel
theorem dX1_ticksToShiftTaken_9 : decode cX1_ticksToShiftTaken 9 = .ok (.istore_n 2, 1) := by decide +kernel
theorem dX1_ticksToShiftTaken_10 : decode cX1_ticksToShiftTaken 10 = .ok (.iload_n 2, 1) := by decide +kernel
theorem dX1_ticksToShiftTaken_11 : decode cX1_ticksToShiftTaken 11 = .ok (.sipush 200, 3) := by decide +kernel
theorem dX1_ticksToShiftTaken_14 : decode cX1_ticksToShiftTaken 14 = .ok (.if_icmp .gt 34, 3) := by decide +kernel
theorem dX1_ticksToShiftTaken_17 : decode cX1_ticksToShiftTaken 17 = .ok (.aload_n 0, 1) := by decide +kernel
theorem dX1_ticksToShiftTaken_18 : decode cX1_ticksToShiftTaken 18 = .ok (.getfield 12, 3) := by decide +kernel
theorem dX1_ticksToShiftTaken_21 : decode cX1_ticksToShiftTaken 21 = .ok (.iconst 1, 1) := by decide +kernel
theorem dX1_ticksToShiftTaken_22 : decode cX1_ticksToShiftTaken 22 = .ok (.invokevirtual 48, 3) := by decide +kernel
theorem dX1_ticksToShiftTaken_25 : decode cX1_ticksToShiftTaken 25 = .ok (.pop, 1) := by decide +kernel
theorem dX1_ticksToShiftTaken_26 : decode cX1_ticksToShiftTaken 26 = .ok (.aload_n 0, 1) := by decide +kernel
theorem dX1_ticksToShiftTaken_27 : decode cX1_ticksToShiftTaken 27 = .ok (.getfield 12, 3) := by decide +kernel
theorem dX1_ticksToShiftTaken_30 : decode cX1_ticksToShiftTaken 30 = .ok (.getfield 61, 3) := by decide +kernel
theorem dX1_ticksToShiftTaken_33 : decode cX1_ticksToShiftTaken 33 = .ok (.aload_n 1, 1) := by decide +kernel
theorem dX1_ticksToShiftTaken_34 : decode cX1_ticksToShiftTaken 34 = .ok (.getfield 61, 3) := by decide +kernel
theorem dX1_ticksToShiftTaken_37 : decode cX1_ticksToShiftTaken 37 = .ok (.if_icmp .eq 5, 3) := by decide +kernel
theorem dX1_ticksToShiftTaken_42 : decode cX1_ticksToShiftTaken 42 = .ok (.iinc 2 1, 3) := by decide +kernel
theorem dX1_ticksToShiftTaken_45 : decode cX1_ticksToShiftTaken 45 = .ok (.goto (-35), 3) := by decide +kernel
theorem dX1_ticksToShiftTaken_40 : decode cX1_ticksToShiftTaken 40 = .ok (.iload_n 2, 1) := by decide +kernel
theorem dX1_ticksToShiftTaken_41 : decode cX1_ticksToShiftTaken 41 = .ok (.ireturn, 1) := by decide +kernel
theorem dX1_ticksToShiftTaken_48 : decode cX1_ticksToShiftTaken 48 = .ok (.iconst (-1), 1) := by decide +kernel
theorem dX1_ticksToShiftTaken_49 : decode cX1_ticksToShiftTaken 49 = .ok (.ireturn, 1) := by decide +kernel
theorem dX10_turnWatch_0 : decode cX10_turnWatch 0 = .ok (.aload_n 0, 1) := by decide +kernel
theorem dX10_turnWatch_1 : decode cX10_turnWatch 1 = .ok (.iload_n 1, 1) := by decide +kernel
theorem dX10_turnWatch_2 : decode cX10_turnWatch 2 = .ok (.invokevirtual 66, 3) := by decide +kernel
theorem dX10_turnWatch_5 : decode cX10_turnWatch 5 = .ok (.dup, 1) := by decide +kernel
theorem dX10_turnWatch_6 : decode cX10_turnWatch 6 = .ok (.getfield 92, 3) := by decide +kernel
theorem dX10_turnWatch_9 : decode cX10_turnWatch 9 = .ok (.lconst 1, 1) := by decide +kernel
theorem dX10_turnWatch_10 : decode cX10_turnWatch 10 = .ok (.iload_n 2, 1) := by decide +kernel
theorem dX10_turnWatch_11 : decode cX10_turnWatch 11 = .ok (.lshl, 1) := by decide +kernel
theorem dX10_turnWatch_12 : decode cX10_turnWatch 12 = .ok (.lxor, 1) := by decide +kernel
theorem dX10_turnWatch_13 : decode cX10_turnWatch 13 = .ok (.putfield 92, 3) := by decide +kernel
theorem dX10_turnWatch_16 : decode cX10_turnWatch 16 = .ok (.return_, 1) := by decide +kernel
theorem dX1_dayToWatch_0 : decode cX1_dayToWatch 0 = .ok (.aload_n 1, 1) := by decide +kernel
theorem dX1_dayToWatch_1 : decode cX1_dayToWatch 1 = .ok (.iload_n 2, 1) := by decide +kernel
theorem dX1_dayToWatch_2 : decode cX1_dayToWatch 2 = .ok (.invokevirtual 26, 3) := by decide +kernel
theorem dX1_dayToWatch_5 : decode cX1_dayToWatch 5 = .ok (.ifCond .ne 11, 3) := by decide +kernel
theorem dX1_dayToWatch_8 : decode cX1_dayToWatch 8 = .ok (.aload_n 1, 1) := by decide +kernel
theorem dX1_dayToWatch_9 : decode cX1_dayToWatch 9 = .ok (.iload_n 3, 1) := by decide +kernel
theorem dX1_dayToWatch_10 : decode cX1_dayToWatch 10 = .ok (.invokevirtual 26, 3) := by decide +kernel
theorem dX1_dayToWatch_13 : decode cX1_dayToWatch 13 = .ok (.ifCond .eq 5, 3) := by decide +kernel
theorem dX1_dayToWatch_18 : decode cX1_dayToWatch 18 = .ok (.aload_n 0, 1) := by decide +kernel
theorem dX1_dayToWatch_19 : decode cX1_dayToWatch 19 = .ok (.aload_n 0, 1) := by decide +kernel
theorem dX1_dayToWatch_20 : decode cX1_dayToWatch 20 = .ok (.aload_n 1, 1) := by decide +kernel
theorem dX1_dayToWatch_21 : decode cX1_dayToWatch 21 = .ok (.iload_n 2, 1) := by decide +kernel
theorem dX1_dayToWatch_22 : decode cX1_dayToWatch 22 = .ok (.iload_n 3, 1) := by decide +kernel
theorem dX1_dayToWatch_23 : decode cX1_dayToWatch 23 = .ok (.iconst 0, 1) := by decide +kernel
theorem dX1_dayToWatch_24 : decode cX1_dayToWatch 24 = .ok (.invokevirtual 30, 3) := by decide +kernel
theorem dX1_dayToWatch_27 : decode cX1_dayToWatch 27 = .ok (.sipush 200, 3) := by decide +kernel
theorem dX1_dayToWatch_30 : decode cX1_dayToWatch 30 = .ok (.invokevirtual 22, 3) := by decide +kernel
theorem dX1_dayToWatch_33 : decode cX1_dayToWatch 33 = .ok (.istore 4, 2) := by decide +kernel
theorem dX1_dayToWatch_35 : decode cX1_dayToWatch 35 = .ok (.iconst (-1), 1) := by decide +kernel
theorem dX1_dayToWatch_36 : decode cX1_dayToWatch 36 = .ok (.istore 5, 2) := by decide +kernel
theorem dX1_dayToWatch_38 : decode cX1_dayToWatch 38 = .ok (.iconst 0, 1) := by decide +kernel
theorem dX1_dayToWatch_39 : decode cX1_dayToWatch 39 = .ok (.istore 6, 2) := by decide +kernel
theorem dX1_dayToWatch_16 : decode cX1_dayToWatch 16 = .ok (.iconst (-1), 1) := by decide +kernel
theorem dX1_dayToWatch_17 : decode cX1_dayToWatch 17 = .ok (.ireturn, 1) := by decide +kernel
theorem dX1_dayToWatch_41 : decode cX1_dayToWatch 41 = .ok (.iload 6, 2) := by decide +kernel
theorem dX1_dayToWatch_43 : decode cX1_dayToWatch 43 = .ok (.aload_n 1, 1) := by decide +kernel
theorem dX1_dayToWatch_44 : decode cX1_dayToWatch 44 = .ok (.getfield 64, 3) := by decide +kernel
theorem dX1_dayToWatch_47 : decode cX1_dayToWatch 47 = .ok (.if_icmp .ge 80, 3) := by decide +kernel
theorem dX1_dayToWatch_50 : decode cX1_dayToWatch 50 = .ok (.aload_n 1, 1) := by decide +kernel
theorem dX1_dayToWatch_51 : decode cX1_dayToWatch 51 = .ok (.iload_n 2, 1) := by decide +kernel
theorem dX1_dayToWatch_52 : decode cX1_dayToWatch 52 = .ok (.invokevirtual 67, 3) := by decide +kernel
theorem dX1_dayToWatch_55 : decode cX1_dayToWatch 55 = .ok (.iload 6, 2) := by decide +kernel
theorem dX1_dayToWatch_57 : decode cX1_dayToWatch 57 = .ok (.invokestatic 71, 3) := by decide +kernel
theorem dX1_dayToWatch_60 : decode cX1_dayToWatch 60 = .ok (.ifCond .ne 61, 3) := by decide +kernel
theorem dX1_dayToWatch_63 : decode cX1_dayToWatch 63 = .ok (.aload_n 0, 1) := by decide +kernel
theorem dX1_dayToWatch_64 : decode cX1_dayToWatch 64 = .ok (.aload_n 1, 1) := by decide +kernel
theorem dX1_dayToWatch_65 : decode cX1_dayToWatch 65 = .ok (.iload_n 2, 1) := by decide +kernel
theorem dX1_dayToWatch_66 : decode cX1_dayToWatch 66 = .ok (.iload_n 3, 1) := by decide +kernel
theorem dX1_dayToWatch_67 : decode cX1_dayToWatch 67 = .ok (.iconst 0, 1) := by decide +kernel
theorem dX1_dayToWatch_68 : decode cX1_dayToWatch 68 = .ok (.invokevirtual 30, 3) := by decide +kernel
theorem dX1_dayToWatch_71 : decode cX1_dayToWatch 71 = .ok (.istore 7, 2) := by decide +kernel
theorem dX1_dayToWatch_73 : decode cX1_dayToWatch 73 = .ok (.aload_n 0, 1) := by decide +kernel
theorem dX1_dayToWatch_74 : decode cX1_dayToWatch 74 = .ok (.getfield 12, 3) := by decide +kernel
theorem dX1_dayToWatch_77 : decode cX1_dayToWatch 77 = .ok (.iload_n 2, 1) := by decide +kernel
theorem dX1_dayToWatch_78 : decode cX1_dayToWatch 78 = .ok (.iload 6, 2) := by decide +kernel
theorem dX1_dayToWatch_80 : decode cX1_dayToWatch 80 = .ok (.invokevirtual 75, 3) := by decide +kernel
theorem dX1_dayToWatch_83 : decode cX1_dayToWatch 83 = .ok (.aload_n 0, 1) := by decide +kernel
theorem dX1_dayToWatch_84 : decode cX1_dayToWatch 84 = .ok (.iload 7, 2) := by decide +kernel
theorem dX1_dayToWatch_86 : decode cX1_dayToWatch 86 = .ok (.iload 4, 2) := by decide +kernel
theorem dX1_dayToWatch_88 : decode cX1_dayToWatch 88 = .ok (.iconst (-1), 1) := by decide +kernel
theorem dX1_dayToWatch_89 : decode cX1_dayToWatch 89 = .ok (.if_icmp .ne 9, 3) := by decide +kernel
theorem dX1_dayToWatch_98 : decode cX1_dayToWatch 98 = .ok (.iload 4, 2) := by decide +kernel
theorem dX1_dayToWatch_100 : decode cX1_dayToWatch 100 = .ok (.iconst 1, 1) := by decide +kernel
theorem dX1_dayToWatch_101 : decode cX1_dayToWatch 101 = .ok (.isub, 1) := by decide +kernel
theorem dX1_dayToWatch_92 : decode cX1_dayToWatch 92 = .ok (.sipush 200, 3) := by decide +kernel
theorem dX1_dayToWatch_95 : decode cX1_dayToWatch 95 = .ok (.goto 7, 3) := by decide +kernel
theorem dX1_dayToWatch_121 : decode cX1_dayToWatch 121 = .ok (.iinc 6 1, 3) := by decide +kernel
theorem dX1_dayToWatch_124 : decode cX1_dayToWatch 124 = .ok (.goto (-83), 3) := by decide +kernel
