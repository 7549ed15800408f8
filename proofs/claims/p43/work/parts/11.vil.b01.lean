theorem dX10_tryToPass_118 : decode cX10_tryToPass 118 = .ok (.aload_n 1, 1) := by decide +kernel
theorem dX10_tryToPass_119 : decode cX10_tryToPass 119 = .ok (.getfield 137, 3) := by decide +kernel
theorem dX10_tryToPass_122 : decode cX10_tryToPass 122 = .ok (.invokevirtual 66, 3) := by decide +kernel
theorem dX10_tryToPass_125 : decode cX10_tryToPass 125 = .ok (.astore 6, 2) := by decide +kernel
theorem dX10_tryToPass_127 : decode cX10_tryToPass 127 = .ok (.aload_n 0, 1) := by decide +kernel
theorem dX10_tryToPass_128 : decode cX10_tryToPass 128 = .ok (.iload_n 3, 1) := by decide +kernel
theorem dX10_tryToPass_129 : decode cX10_tryToPass 129 = .ok (.invokevirtual 66, 3) := by decide +kernel
theorem dX10_tryToPass_132 : decode cX10_tryToPass 132 = .ok (.astore 7, 2) := by decide +kernel
theorem dX10_tryToPass_134 : decode cX10_tryToPass 134 = .ok (.iload 4, 2) := by decide +kernel
theorem dX10_tryToPass_136 : decode cX10_tryToPass 136 = .ok (.ifCond .ne 10, 3) := by decide +kernel
theorem dX10_tryToPass_146 : decode cX10_tryToPass 146 = .ok (.aload 6, 2) := by decide +kernel
theorem dX10_tryToPass_148 : decode cX10_tryToPass 148 = .ok (.getfield 101, 3) := by decide +kernel
theorem dX10_tryToPass_151 : decode cX10_tryToPass 151 = .ok (.iload 5, 2) := by decide +kernel
theorem dX10_tryToPass_153 : decode cX10_tryToPass 153 = .ok (.if_icmp .lt 13, 3) := by decide +kernel
theorem dX10_tryToPass_166 : decode cX10_tryToPass 166 = .ok (.return_, 1) := by decide +kernel
theorem dX10_tryToPass_156 : decode cX10_tryToPass 156 = .ok (.aload 7, 2) := by decide +kernel
theorem dX10_tryToPass_158 : decode cX10_tryToPass 158 = .ok (.getfield 101, 3) := by decide +kernel
theorem dX10_tryToPass_161 : decode cX10_tryToPass 161 = .ok (.iload 5, 2) := by decide +kernel
theorem dX10_tryToPass_163 : decode cX10_tryToPass 163 = .ok (.if_icmp .ge 4, 3) := by decide +kernel
theorem dX10_tryToPass_167 : decode cX10_tryToPass 167 = .ok (.aload 6, 2) := by decide +kernel
theorem dX10_tryToPass_169 : decode cX10_tryToPass 169 = .ok (.dup, 1) := by decide +kernel
theorem dX10_tryToPass_170 : decode cX10_tryToPass 170 = .ok (.getfield 101, 3) := by decide +kernel
theorem dX10_tryToPass_173 : decode cX10_tryToPass 173 = .ok (.iload 5, 2) := by decide +kernel
theorem dX10_tryToPass_175 : decode cX10_tryToPass 175 = .ok (.isub, 1) := by decide +kernel
theorem dX10_tryToPass_176 : decode cX10_tryToPass 176 = .ok (.putfield 101, 3) := by decide +kernel
theorem dX10_tryToPass_179 : decode cX10_tryToPass 179 = .ok (.aload 6, 2) := by decide +kernel
theorem dX10_tryToPass_181 : decode cX10_tryToPass 181 = .ok (.dup, 1) := by decide +kernel
theorem dX10_tryToPass_182 : decode cX10_tryToPass 182 = .ok (.getfield 110, 3) := by decide +kernel
theorem dX10_tryToPass_185 : decode cX10_tryToPass 185 = .ok (.iconst 1, 1) := by decide +kernel
theorem dX10_tryToPass_186 : decode cX10_tryToPass 186 = .ok (.iadd, 1) := by decide +kernel
theorem dX10_tryToPass_187 : decode cX10_tryToPass 187 = .ok (.putfield 110, 3) := by decide +kernel
theorem dX10_tryToPass_190 : decode cX10_tryToPass 190 = .ok (.aload_n 0, 1) := by decide +kernel
theorem dX10_tryToPass_191 : decode cX10_tryToPass 191 = .ok (.dup, 1) := by decide +kernel
theorem dX10_tryToPass_192 : decode cX10_tryToPass 192 = .ok (.getfield 249, 3) := by decide +kernel
theorem dX10_tryToPass_195 : decode cX10_tryToPass 195 = .ok (.iconst 1, 1) := by decide +kernel
theorem dX10_tryToPass_196 : decode cX10_tryToPass 196 = .ok (.aload_n 1, 1) := by decide +kernel
theorem dX10_tryToPass_197 : decode cX10_tryToPass 197 = .ok (.getfield 137, 3) := by decide +kernel
theorem dX10_tryToPass_200 : decode cX10_tryToPass 200 = .ok (.ishl, 1) := by decide +kernel
theorem dX10_tryToPass_201 : decode cX10_tryToPass 201 = .ok (.ior, 1) := by decide +kernel
theorem dX10_tryToPass_202 : decode cX10_tryToPass 202 = .ok (.putfield 249, 3) := by decide +kernel
theorem dX10_tryToPass_205 : decode cX10_tryToPass 205 = .ok (.aload 7, 2) := by decide +kernel
theorem dX10_tryToPass_207 : decode cX10_tryToPass 207 = .ok (.dup, 1) := by decide +kernel
theorem dX10_tryToPass_208 : decode cX10_tryToPass 208 = .ok (.getfield 101, 3) := by decide +kernel
theorem dX10_tryToPass_211 : decode cX10_tryToPass 211 = .ok (.iload 5, 2) := by decide +kernel
theorem dX10_tryToPass_213 : decode cX10_tryToPass 213 = .ok (.isub, 1) := by decide +kernel
theorem dX10_tryToPass_214 : decode cX10_tryToPass 214 = .ok (.putfield 101, 3) := by decide +kernel
theorem dX10_tryToPass_217 : decode cX10_tryToPass 217 = .ok (.aload 7, 2) := by decide +kernel
theorem dX10_tryToPass_219 : decode cX10_tryToPass 219 = .ok (.dup, 1) := by decide +kernel
theorem dX10_tryToPass_220 : decode cX10_tryToPass 220 = .ok (.getfield 113, 3) := by decide +kernel
theorem dX10_tryToPass_223 : decode cX10_tryToPass 223 = .ok (.iconst 1, 1) := by decide +kernel
theorem dX10_tryToPass_224 : decode cX10_tryToPass 224 = .ok (.iadd, 1) := by decide +kernel
theorem dX10_tryToPass_225 : decode cX10_tryToPass 225 = .ok (.putfield 113, 3) := by decide +kernel
theorem dX10_tryToPass_228 : decode cX10_tryToPass 228 = .ok (.aload_n 0, 1) := by decide +kernel
theorem dX10_tryToPass_229 : decode cX10_tryToPass 229 = .ok (.dup, 1) := by decide +kernel
theorem dX10_tryToPass_230 : decode cX10_tryToPass 230 = .ok (.getfield 252, 3) := by decide +kernel
theorem dX10_tryToPass_233 : decode cX10_tryToPass 233 = .ok (.iconst 1, 1) := by decide +kernel
theorem dX10_tryToPass_234 : decode cX10_tryToPass 234 = .ok (.iload_n 3, 1) := by decide +kernel
theorem dX10_tryToPass_235 : decode cX10_tryToPass 235 = .ok (.ishl, 1) := by decide +kernel
theorem dX10_tryToPass_236 : decode cX10_tryToPass 236 = .ok (.ior, 1) := by decide +kernel
theorem dX10_tryToPass_237 : decode cX10_tryToPass 237 = .ok (.putfield 252, 3) := by decide +kernel
theorem dX10_tryToPass_240 : decode cX10_tryToPass 240 = .ok (.aload_n 0, 1) := by decide +kernel
theorem dX10_tryToPass_241 : decode cX10_tryToPass 241 = .ok (.aload_n 1, 1) := by decide +kernel
theorem dX10_tryToPass_242 : decode cX10_tryToPass 242 = .ok (.iload_n 3, 1) := by decide +kernel
theorem dX10_tryToPass_243 : decode cX10_tryToPass 243 = .ok (.invokevirtual 277, 3) := by decide +kernel
theorem dX10_tryToPass_246 : decode cX10_tryToPass 246 = .ok (.return_, 1) := by decide +kernel
theorem dX10_tryToPass_91 : decode cX10_tryToPass 91 = .ok (.iconst 0, 1) := by decide +kernel
theorem dX10_tryToPass_106 : decode cX10_tryToPass 106 = .ok (.aload_n 0, 1) := by decide +kernel
theorem dX10_tryToPass_107 : decode cX10_tryToPass 107 = .ok (.getfield 51, 3) := by decide +kernel
theorem dX10_tryToPass_110 : decode cX10_tryToPass 110 = .ok (.aload_n 0, 1) := by decide +kernel
theorem dX10_tryToPass_111 : decode cX10_tryToPass 111 = .ok (.getfield 54, 3) := by decide +kernel
theorem dX10_tryToPass_114 : decode cX10_tryToPass 114 = .ok (.iadd, 1) := by decide +kernel
theorem dX10_tryToPass_139 : decode cX10_tryToPass 139 = .ok (.aload_n 1, 1) := by decide +kernel
theorem dX10_tryToPass_140 : decode cX10_tryToPass 140 = .ok (.getfield 152, 3) := by decide +kernel
theorem dX10_tryToPass_143 : decode cX10_tryToPass 143 = .ok (.ifCond .eq 23, 3) := by decide +kernel
theorem dX10_tryToPass_30 : decode cX10_tryToPass 30 = .ok (.aload_n 1, 1) := by decide +kernel
theorem dX10_tryToPass_31 : decode cX10_tryToPass 31 = .ok (.getfield 152, 3) := by decide +kernel
theorem dX10_tryToPass_34 : decode cX10_tryToPass 34 = .ok (.ifCond .ne 4, 3) := by decide +kernel
theorem dX10_passMessages_0 : decode cX10_passMessages 0 = .ok (.iconst 0, 1) := by decide +kernel
theorem dX10_passMessages_1 : decode cX10_passMessages 1 = .ok (.istore_n 2, 1) := by decide +kernel
theorem dX10_passMessages_2 : decode cX10_passMessages 2 = .ok (.iconst 0, 1) := by decide +kernel
theorem dX10_passMessages_3 : decode cX10_passMessages 3 = .ok (.istore_n 3, 1) := by decide +kernel
theorem dX10_passMessages_4 : decode cX10_passMessages 4 = .ok (.iload_n 3, 1) := by decide +kernel
theorem dX10_passMessages_5 : decode cX10_passMessages 5 = .ok (.aload_n 0, 1) := by decide +kernel
theorem dX10_passMessages_6 : decode cX10_passMessages 6 = .ok (.getfield 42, 3) := by decide +kernel
theorem dX10_passMessages_9 : decode cX10_passMessages 9 = .ok (.if_icmp .ge 56, 3) := by decide +kernel
theorem dX10_passMessages_65 : decode cX10_passMessages 65 = .ok (.iload_n 2, 1) := by decide +kernel
theorem dX10_passMessages_66 : decode cX10_passMessages 66 = .ok (.ireturn, 1) := by decide +kernel
theorem dX10_passMessages_12 : decode cX10_passMessages 12 = .ok (.aload_n 0, 1) := by decide +kernel
theorem dX10_passMessages_13 : decode cX10_passMessages 13 = .ok (.iload_n 3, 1) := by decide +kernel
theorem dX10_passMessages_14 : decode cX10_passMessages 14 = .ok (.invokevirtual 81, 3) := by decide +kernel
theorem dX10_passMessages_17 : decode cX10_passMessages 17 = .ok (.astore 4, 2) := by decide +kernel
theorem dX10_passMessages_19 : decode cX10_passMessages 19 = .ok (.aload 4, 2) := by decide +kernel
theorem dX10_passMessages_21 : decode cX10_passMessages 21 = .ok (.getfield 140, 3) := by decide +kernel
theorem dX10_passMessages_24 : decode cX10_passMessages 24 = .ok (.ifCond .ne 35, 3) := by decide +kernel
theorem dX10_passMessages_59 : decode cX10_passMessages 59 = .ok (.iinc 3 1, 3) := by decide +kernel
theorem dX10_passMessages_62 : decode cX10_passMessages 62 = .ok (.goto (-58), 3) := by decide +kernel
theorem dX10_passMessages_27 : decode cX10_passMessages 27 = .ok (.aload 4, 2) := by decide +kernel
theorem dX10_passMessages_29 : decode cX10_passMessages 29 = .ok (.getfield 152, 3) := by decide +kernel
theorem dX10_passMessages_32 : decode cX10_passMessages 32 = .ok (.iload_n 1, 1) := by decide +kernel
theorem dX10_passMessages_33 : decode cX10_passMessages 33 = .ok (.if_icmp .ne 26, 3) := by decide +kernel
theorem dX10_passMessages_36 : decode cX10_passMessages 36 = .ok (.aload_n 0, 1) := by decide +kernel
theorem dX10_passMessages_37 : decode cX10_passMessages 37 = .ok (.aload 4, 2) := by decide +kernel
theorem dX10_passMessages_39 : decode cX10_passMessages 39 = .ok (.invokevirtual 271, 3) := by decide +kernel
theorem dX10_passMessages_42 : decode cX10_passMessages 42 = .ok (.iload_n 2, 1) := by decide +kernel
theorem dX10_passMessages_43 : decode cX10_passMessages 43 = .ok (.aload 4, 2) := by decide +kernel
theorem dX10_passMessages_45 : decode cX10_passMessages 45 = .ok (.getfield 140, 3) := by decide +kernel
theorem dX10_passMessages_48 : decode cX10_passMessages 48 = .ok (.iconst 1, 1) := by decide +kernel
theorem dX10_passMessages_49 : decode cX10_passMessages 49 = .ok (.if_icmp .ne 7, 3) := by decide +kernel
theorem dX10_passMessages_56 : decode cX10_passMessages 56 = .ok (.iconst 0, 1) := by decide +kernel
theorem dX10_passMessages_57 : decode cX10_passMessages 57 = .ok (.iadd, 1) := by decide +kernel
theorem dX10_passMessages_58 : decode cX10_passMessages 58 = .ok (.istore_n 2, 1) := by decide +kernel
theorem dX10_passMessages_52 : decode cX10_passMessages 52 = .ok (.iconst 1, 1) := by decide +kernel
theorem dX10_passMessages_53 : decode cX10_passMessages 53 = .ok (.goto 4, 3) := by decide +kernel
theorem dX10_loseMessages_0 : decode cX10_loseMessages 0 = .ok (.iconst 0, 1) := by decide +kernel
theorem dX10_loseMessages_1 : decode cX10_loseMessages 1 = .ok (.istore_n 1, 1) := by decide +kernel
theorem dX10_loseMessages_2 : decode cX10_loseMessages 2 = .ok (.iload_n 1, 1) := by decide +kernel
theorem dX10_loseMessages_3 : decode cX10_loseMessages 3 = .ok (.aload_n 0, 1) := by decide +kernel
theorem dX10_loseMessages_4 : decode cX10_loseMessages 4 = .ok (.getfield 42, 3) := by decide +kernel
theorem dX10_loseMessages_7 : decode cX10_loseMessages 7 = .ok (.if_icmp .ge 38, 3) := by decide +kernel
theorem dX10_loseMessages_45 : decode cX10_loseMessages 45 = .ok (.return_, 1) := by decide +kernel
theorem dX10_loseMessages_10 : decode cX10_loseMessages 10 = .ok (.aload_n 0, 1) := by decide +kernel
theorem dX10_loseMessages_11 : decode cX10_loseMessages 11 = .ok (.iload_n 1, 1) := by decide +kernel
theorem dX10_loseMessages_12 : decode cX10_loseMessages 12 = .ok (.invokevirtual 81, 3) := by decide +kernel
theorem dX10_loseMessages_15 : decode cX10_loseMessages 15 = .ok (.astore_n 2, 1) := by decide +kernel
theorem dX10_loseMessages_16 : decode cX10_loseMessages 16 = .ok (.aload_n 2, 1) := by decide +kernel
theorem dX10_loseMessages_17 : decode cX10_loseMessages 17 = .ok (.getfield 140, 3) := by decide +kernel
theorem dX10_loseMessages_20 : decode cX10_loseMessages 20 = .ok (.ifCond .ne 19, 3) := by decide +kernel
theorem dX10_loseMessages_39 : decode cX10_loseMessages 39 = .ok (.iinc 1 1, 3) := by decide +kernel
theorem dX10_loseMessages_42 : decode cX10_loseMessages 42 = .ok (.goto (-40), 3) := by decide +kernel
theorem dX10_loseMessages_23 : decode cX10_loseMessages 23 = .ok (.aload_n 0, 1) := by decide +kernel
theorem dX10_loseMessages_24 : decode cX10_loseMessages 24 = .ok (.aload_n 2, 1) := by decide +kernel
theorem dX10_loseMessages_25 : decode cX10_loseMessages 25 = .ok (.getfield 137, 3) := by decide +kernel
theorem dX10_loseMessages_28 : decode cX10_loseMessages 28 = .ok (.invokevirtual 160, 3) := by decide +kernel
theorem dX10_loseMessages_31 : decode cX10_loseMessages 31 = .ok (.ifCond .eq 8, 3) := by decide +kernel
theorem dX10_loseMessages_34 : decode cX10_loseMessages 34 = .ok (.aload_n 2, 1) := by decide +kernel
theorem dX10_loseMessages_35 : decode cX10_loseMessages 35 = .ok (.iconst 2, 1) := by decide +kernel
theorem dX10_loseMessages_36 : decode cX10_loseMessages 36 = .ok (.putfield 140, 3) := by decide +kernel
theorem dX10_passTicks_0 : decode cX10_passTicks 0 = .ok (.iconst 0, 1) := by decide +kernel
theorem dX10_passTicks_1 : decode cX10_passTicks 1 = .ok (.istore_n 2, 1) := by decide +kernel
theorem dX10_passTicks_2 : decode cX10_passTicks 2 = .ok (.iconst 0, 1) := by decide +kernel
theorem dX10_passTicks_3 : decode cX10_passTicks 3 = .ok (.istore_n 3, 1) := by decide +kernel
theorem dX10_passTicks_4 : decode cX10_passTicks 4 = .ok (.iload_n 3, 1) := by decide +kernel
theorem dX10_passTicks_5 : decode cX10_passTicks 5 = .ok (.iload_n 1, 1) := by decide +kernel
theorem dX10_passTicks_6 : decode cX10_passTicks 6 = .ok (.if_icmp .ge 79, 3) := by decide +kernel
theorem dX10_passTicks_85 : decode cX10_passTicks 85 = .ok (.iload_n 2, 1) := by decide +kernel
theorem dX10_passTicks_86 : decode cX10_passTicks 86 = .ok (.ireturn, 1) := by decide +kernel
theorem dX10_passTicks_9 : decode cX10_passTicks 9 = .ok (.aload_n 0, 1) := by decide +kernel
theorem dX10_passTicks_10 : decode cX10_passTicks 10 = .ok (.dup, 1) := by decide +kernel
theorem dX10_passTicks_11 : decode cX10_passTicks 11 = .ok (.getfield 60, 3) := by decide +kernel
theorem dX10_passTicks_14 : decode cX10_passTicks 14 = .ok (.iconst 1, 1) := by decide +kernel
theorem dX10_passTicks_15 : decode cX10_passTicks 15 = .ok (.iadd, 1) := by decide +kernel
theorem dX10_passTicks_16 : decode cX10_passTicks 16 = .ok (.putfield 60, 3) := by decide +kernel
theorem dX10_passTicks_19 : decode cX10_passTicks 19 = .ok (.aload_n 0, 1) := by decide +kernel
theorem dX10_passTicks_20 : decode cX10_passTicks 20 = .ok (.invokevirtual 243, 3) := by decide +kernel
theorem dX10_passTicks_23 : decode cX10_passTicks 23 = .ok (.iconst 0, 1) := by decide +kernel
theorem dX10_passTicks_24 : decode cX10_passTicks 24 = .ok (.istore 4, 2) := by decide +kernel
theorem dX10_passTicks_26 : decode cX10_passTicks 26 = .ok (.iload 4, 2) := by decide +kernel
theorem dX10_passTicks_28 : decode cX10_passTicks 28 = .ok (.aload_n 0, 1) := by decide +kernel
theorem dX10_passTicks_29 : decode cX10_passTicks 29 = .ok (.getfield 39, 3) := by decide +kernel
theorem dX10_passTicks_32 : decode cX10_passTicks 32 = .ok (.if_icmp .ge 19, 3) := by decide +kernel
theorem dX10_passTicks_51 : decode cX10_passTicks 51 = .ok (.aload_n 0, 1) := by decide +kernel
theorem dX10_passTicks_52 : decode cX10_passTicks 52 = .ok (.iconst 0, 1) := by decide +kernel
theorem dX10_passTicks_53 : decode cX10_passTicks 53 = .ok (.putfield 249, 3) := by decide +kernel
theorem dX10_passTicks_56 : decode cX10_passTicks 56 = .ok (.aload_n 0, 1) := by decide +kernel
theorem dX10_passTicks_57 : decode cX10_passTicks 57 = .ok (.iconst 0, 1) := by decide +kernel
theorem dX10_passTicks_58 : decode cX10_passTicks 58 = .ok (.putfield 252, 3) := by decide +kernel
theorem dX10_passTicks_61 : decode cX10_passTicks 61 = .ok (.iload_n 2, 1) := by decide +kernel
theorem dX10_passTicks_62 : decode cX10_passTicks 62 = .ok (.aload_n 0, 1) := by decide +kernel
theorem dX10_passTicks_63 : decode cX10_passTicks 63 = .ok (.iconst 1, 1) := by decide +kernel
theorem dX10_passTicks_64 : decode cX10_passTicks 64 = .ok (.invokevirtual 255, 3) := by decide +kernel
theorem dX10_passTicks_67 : decode cX10_passTicks 67 = .ok (.aload_n 0, 1) := by decide +kernel
theorem dX10_passTicks_68 : decode cX10_passTicks 68 = .ok (.iconst 0, 1) := by decide +kernel
theorem dX10_passTicks_69 : decode cX10_passTicks 69 = .ok (.invokevirtual 255, 3) := by decide +kernel
theorem dX10_passTicks_72 : decode cX10_passTicks 72 = .ok (.iadd, 1) := by decide +kernel
theorem dX10_passTicks_73 : decode cX10_passTicks 73 = .ok (.iadd, 1) := by decide +kernel
theorem dX10_passTicks_74 : decode cX10_passTicks 74 = .ok (.istore_n 2, 1) := by decide +kernel
theorem dX10_passTicks_75 : decode cX10_passTicks 75 = .ok (.aload_n 0, 1) := by decide +kernel
theorem dX10_passTicks_76 : decode cX10_passTicks 76 = .ok (.invokevirtual 259, 3) := by decide +kernel
theorem dX10_passTicks_79 : decode cX10_passTicks 79 = .ok (.iinc 3 1, 3) := by decide +kernel
theorem dX10_passTicks_82 : decode cX10_passTicks 82 = .ok (.goto (-78), 3) := by decide +kernel
theorem dX10_passTicks_35 : decode cX10_passTicks 35 = .ok (.aload_n 0, 1) := by decide +kernel
theorem dX10_passTicks_36 : decode cX10_passTicks 36 = .ok (.aload_n 0, 1) := by decide +kernel
theorem dX10_passTicks_37 : decode cX10_passTicks 37 = .ok (.iload 4, 2) := by decide +kernel
theorem dX10_passTicks_39 : decode cX10_passTicks 39 = .ok (.invokevirtual 74, 3) := by decide +kernel
theorem dX10_passTicks_42 : decode cX10_passTicks 42 = .ok (.invokevirtual 246, 3) := by decide +kernel
theorem dX10_passTicks_45 : decode cX10_passTicks 45 = .ok (.iinc 4 1, 3) := by decide +kernel
theorem dX10_passTicks_48 : decode cX10_passTicks 48 = .ok (.goto (-22), 3) := by decide +kernel
