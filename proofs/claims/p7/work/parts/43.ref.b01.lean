theorem dX12_looksAt_74 : decode cX12_looksAt 74 = .ok (.iload 4, 2) := by decide +kernel
theorem dX12_looksAt_76 : decode cX12_looksAt 76 = .ok (.ifCond .eq 12, 3) := by decide +kernel
theorem dX12_looksAt_88 : decode cX12_looksAt 88 = .ok (.aload_n 0, 1) := by decide +kernel
theorem dX12_looksAt_89 : decode cX12_looksAt 89 = .ok (.getfield 48, 3) := by decide +kernel
theorem dX12_looksAt_92 : decode cX12_looksAt 92 = .ok (.iload_n 3, 1) := by decide +kernel
theorem dX12_looksAt_93 : decode cX12_looksAt 93 = .ok (.iaload, 1) := by decide +kernel
theorem dX12_looksAt_94 : decode cX12_looksAt 94 = .ok (.istore 6, 2) := by decide +kernel
theorem dX12_looksAt_96 : decode cX12_looksAt 96 = .ok (.iload 6, 2) := by decide +kernel
theorem dX12_looksAt_98 : decode cX12_looksAt 98 = .ok (.aload_n 0, 1) := by decide +kernel
theorem dX12_looksAt_99 : decode cX12_looksAt 99 = .ok (.iload_n 2, 1) := by decide +kernel
theorem dX12_looksAt_100 : decode cX12_looksAt 100 = .ok (.iconst 0, 1) := by decide +kernel
theorem dX12_looksAt_101 : decode cX12_looksAt 101 = .ok (.invokevirtual 256, 3) := by decide +kernel
theorem dX12_looksAt_104 : decode cX12_looksAt 104 = .ok (.if_icmp .eq 14, 3) := by decide +kernel
theorem dX12_looksAt_118 : decode cX12_looksAt 118 = .ok (.aload_n 0, 1) := by decide +kernel
theorem dX12_looksAt_119 : decode cX12_looksAt 119 = .ok (.iload_n 1, 1) := by decide +kernel
theorem dX12_looksAt_120 : decode cX12_looksAt 120 = .ok (.iload_n 2, 1) := by decide +kernel
theorem dX12_looksAt_121 : decode cX12_looksAt 121 = .ok (.iload_n 3, 1) := by decide +kernel
theorem dX12_looksAt_122 : decode cX12_looksAt 122 = .ok (.invokevirtual 305, 3) := by decide +kernel
theorem dX12_looksAt_125 : decode cX12_looksAt 125 = .ok (.return_, 1) := by decide +kernel
theorem dX12_looksAt_107 : decode cX12_looksAt 107 = .ok (.iload 6, 2) := by decide +kernel
theorem dX12_looksAt_109 : decode cX12_looksAt 109 = .ok (.aload_n 0, 1) := by decide +kernel
theorem dX12_looksAt_110 : decode cX12_looksAt 110 = .ok (.iload_n 3, 1) := by decide +kernel
theorem dX12_looksAt_111 : decode cX12_looksAt 111 = .ok (.iconst 0, 1) := by decide +kernel
theorem dX12_looksAt_112 : decode cX12_looksAt 112 = .ok (.invokevirtual 256, 3) := by decide +kernel
theorem dX12_looksAt_115 : decode cX12_looksAt 115 = .ok (.if_icmp .ne 10, 3) := by decide +kernel
theorem dX12_looksAt_73 : decode cX12_looksAt 73 = .ok (.return_, 1) := by decide +kernel
theorem dX12_looksAt_56 : decode cX12_looksAt 56 = .ok (.iload 5, 2) := by decide +kernel
theorem dX12_looksAt_58 : decode cX12_looksAt 58 = .ok (.ifCond .eq 8, 3) := by decide +kernel
theorem dX12_looksAt_79 : decode cX12_looksAt 79 = .ok (.aload_n 0, 1) := by decide +kernel
theorem dX12_looksAt_80 : decode cX12_looksAt 80 = .ok (.getfield 48, 3) := by decide +kernel
theorem dX12_looksAt_83 : decode cX12_looksAt 83 = .ok (.iload_n 2, 1) := by decide +kernel
theorem dX12_looksAt_84 : decode cX12_looksAt 84 = .ok (.iaload, 1) := by decide +kernel
theorem dX12_looksAt_85 : decode cX12_looksAt 85 = .ok (.goto 9, 3) := by decide +kernel
theorem dX12_looksAt_61 : decode cX12_looksAt 61 = .ok (.aload_n 0, 1) := by decide +kernel
theorem dX12_looksAt_62 : decode cX12_looksAt 62 = .ok (.iload_n 1, 1) := by decide +kernel
theorem dX12_looksAt_63 : decode cX12_looksAt 63 = .ok (.invokevirtual 302, 3) := by decide +kernel
theorem dX12_passes_0 : decode cX12_passes 0 = .ok (.aload_n 0, 1) := by decide +kernel
theorem dX12_passes_1 : decode cX12_passes 1 = .ok (.iload_n 1, 1) := by decide +kernel
theorem dX12_passes_2 : decode cX12_passes 2 = .ok (.iconst 2, 1) := by decide +kernel
theorem dX12_passes_3 : decode cX12_passes 3 = .ok (.invokevirtual 308, 3) := by decide +kernel
theorem dX12_passes_6 : decode cX12_passes 6 = .ok (.istore_n 2, 1) := by decide +kernel
theorem dX12_passes_7 : decode cX12_passes 7 = .ok (.aload_n 0, 1) := by decide +kernel
theorem dX12_passes_8 : decode cX12_passes 8 = .ok (.iload_n 2, 1) := by decide +kernel
theorem dX12_passes_9 : decode cX12_passes 9 = .ok (.aload_n 0, 1) := by decide +kernel
theorem dX12_passes_10 : decode cX12_passes 10 = .ok (.iload_n 1, 1) := by decide +kernel
theorem dX12_passes_11 : decode cX12_passes 11 = .ok (.iconst 1, 1) := by decide +kernel
theorem dX12_passes_12 : decode cX12_passes 12 = .ok (.invokevirtual 308, 3) := by decide +kernel
theorem dX12_passes_15 : decode cX12_passes 15 = .ok (.invokevirtual 311, 3) := by decide +kernel
theorem dX12_passes_18 : decode cX12_passes 18 = .ok (.istore_n 3, 1) := by decide +kernel
theorem dX12_passes_19 : decode cX12_passes 19 = .ok (.iload_n 3, 1) := by decide +kernel
theorem dX12_passes_20 : decode cX12_passes 20 = .ok (.iconst (-1), 1) := by decide +kernel
theorem dX12_passes_21 : decode cX12_passes 21 = .ok (.if_icmp .eq 25, 3) := by decide +kernel
theorem dX12_passes_46 : decode cX12_passes 46 = .ok (.iconst 0, 1) := by decide +kernel
theorem dX12_passes_47 : decode cX12_passes 47 = .ok (.ireturn, 1) := by decide +kernel
theorem dX12_passes_24 : decode cX12_passes 24 = .ok (.aload_n 0, 1) := by decide +kernel
theorem dX12_passes_25 : decode cX12_passes 25 = .ok (.getfield 314, 3) := by decide +kernel
theorem dX12_passes_28 : decode cX12_passes 28 = .ok (.iload_n 2, 1) := by decide +kernel
theorem dX12_passes_29 : decode cX12_passes 29 = .ok (.invokestatic 185, 3) := by decide +kernel
theorem dX12_passes_32 : decode cX12_passes 32 = .ok (.ifCond .ne 14, 3) := by decide +kernel
theorem dX12_passes_35 : decode cX12_passes 35 = .ok (.aload_n 0, 1) := by decide +kernel
theorem dX12_passes_36 : decode cX12_passes 36 = .ok (.getfield 317, 3) := by decide +kernel
theorem dX12_passes_39 : decode cX12_passes 39 = .ok (.iload_n 3, 1) := by decide +kernel
theorem dX12_passes_40 : decode cX12_passes 40 = .ok (.invokestatic 185, 3) := by decide +kernel
theorem dX12_passes_43 : decode cX12_passes 43 = .ok (.ifCond .eq 5, 3) := by decide +kernel
theorem dX12_passes_48 : decode cX12_passes 48 = .ok (.aload_n 0, 1) := by decide +kernel
theorem dX12_passes_49 : decode cX12_passes 49 = .ok (.getfield 283, 3) := by decide +kernel
theorem dX12_passes_52 : decode cX12_passes 52 = .ok (.iload_n 2, 1) := by decide +kernel
theorem dX12_passes_53 : decode cX12_passes 53 = .ok (.invokestatic 185, 3) := by decide +kernel
theorem dX12_passes_56 : decode cX12_passes 56 = .ok (.ifCond .eq 18, 3) := by decide +kernel
theorem dX12_passes_74 : decode cX12_passes 74 = .ok (.iconst 0, 1) := by decide +kernel
theorem dX12_passes_75 : decode cX12_passes 75 = .ok (.istore 4, 2) := by decide +kernel
theorem dX12_passes_77 : decode cX12_passes 77 = .ok (.iload 4, 2) := by decide +kernel
theorem dX12_passes_79 : decode cX12_passes 79 = .ok (.ifCond .ne 14, 3) := by decide +kernel
theorem dX12_passes_82 : decode cX12_passes 82 = .ok (.aload_n 0, 1) := by decide +kernel
theorem dX12_passes_83 : decode cX12_passes 83 = .ok (.iload_n 1, 1) := by decide +kernel
theorem dX12_passes_84 : decode cX12_passes 84 = .ok (.iconst 5, 1) := by decide +kernel
theorem dX12_passes_85 : decode cX12_passes 85 = .ok (.invokevirtual 308, 3) := by decide +kernel
theorem dX12_passes_88 : decode cX12_passes 88 = .ok (.ifCond .ne 5, 3) := by decide +kernel
theorem dX12_passes_93 : decode cX12_passes 93 = .ok (.aload_n 0, 1) := by decide +kernel
theorem dX12_passes_94 : decode cX12_passes 94 = .ok (.getfield 20, 3) := by decide +kernel
theorem dX12_passes_97 : decode cX12_passes 97 = .ok (.bipush 6, 2) := by decide +kernel
theorem dX12_passes_99 : decode cX12_passes 99 = .ok (.iaload, 1) := by decide +kernel
theorem dX12_passes_100 : decode cX12_passes 100 = .ok (.iload 4, 2) := by decide +kernel
theorem dX12_passes_102 : decode cX12_passes 102 = .ok (.ifCond .eq 7, 3) := by decide +kernel
theorem dX12_passes_109 : decode cX12_passes 109 = .ok (.aload_n 0, 1) := by decide +kernel
theorem dX12_passes_110 : decode cX12_passes 110 = .ok (.getfield 20, 3) := by decide +kernel
theorem dX12_passes_113 : decode cX12_passes 113 = .ok (.bipush 7, 2) := by decide +kernel
theorem dX12_passes_115 : decode cX12_passes 115 = .ok (.iaload, 1) := by decide +kernel
theorem dX12_passes_116 : decode cX12_passes 116 = .ok (.iadd, 1) := by decide +kernel
theorem dX12_passes_117 : decode cX12_passes 117 = .ok (.istore 5, 2) := by decide +kernel
theorem dX12_passes_119 : decode cX12_passes 119 = .ok (.aload_n 0, 1) := by decide +kernel
theorem dX12_passes_120 : decode cX12_passes 120 = .ok (.iload_n 2, 1) := by decide +kernel
theorem dX12_passes_121 : decode cX12_passes 121 = .ok (.iconst 2, 1) := by decide +kernel
theorem dX12_passes_122 : decode cX12_passes 122 = .ok (.invokevirtual 256, 3) := by decide +kernel
theorem dX12_passes_125 : decode cX12_passes 125 = .ok (.iload 5, 2) := by decide +kernel
theorem dX12_passes_127 : decode cX12_passes 127 = .ok (.if_icmp .lt 14, 3) := by decide +kernel
theorem dX12_passes_141 : decode cX12_passes 141 = .ok (.iconst 0, 1) := by decide +kernel
theorem dX12_passes_142 : decode cX12_passes 142 = .ok (.ireturn, 1) := by decide +kernel
theorem dX12_passes_130 : decode cX12_passes 130 = .ok (.aload_n 0, 1) := by decide +kernel
theorem dX12_passes_131 : decode cX12_passes 131 = .ok (.iload_n 3, 1) := by decide +kernel
theorem dX12_passes_132 : decode cX12_passes 132 = .ok (.iconst 2, 1) := by decide +kernel
theorem dX12_passes_133 : decode cX12_passes 133 = .ok (.invokevirtual 256, 3) := by decide +kernel
theorem dX12_passes_136 : decode cX12_passes 136 = .ok (.iload 5, 2) := by decide +kernel
theorem dX12_passes_138 : decode cX12_passes 138 = .ok (.if_icmp .ge 5, 3) := by decide +kernel
theorem dX12_passes_143 : decode cX12_passes 143 = .ok (.aload_n 0, 1) := by decide +kernel
theorem dX12_passes_144 : decode cX12_passes 144 = .ok (.iload_n 2, 1) := by decide +kernel
theorem dX12_passes_145 : decode cX12_passes 145 = .ok (.iload 5, 2) := by decide +kernel
theorem dX12_passes_147 : decode cX12_passes 147 = .ok (.invokevirtual 295, 3) := by decide +kernel
theorem dX12_passes_150 : decode cX12_passes 150 = .ok (.aload_n 0, 1) := by decide +kernel
theorem dX12_passes_151 : decode cX12_passes 151 = .ok (.iload_n 3, 1) := by decide +kernel
theorem dX12_passes_152 : decode cX12_passes 152 = .ok (.iload 5, 2) := by decide +kernel
theorem dX12_passes_154 : decode cX12_passes 154 = .ok (.invokevirtual 295, 3) := by decide +kernel
theorem dX12_passes_157 : decode cX12_passes 157 = .ok (.aload_n 0, 1) := by decide +kernel
theorem dX12_passes_158 : decode cX12_passes 158 = .ok (.dup, 1) := by decide +kernel
theorem dX12_passes_159 : decode cX12_passes 159 = .ok (.getfield 314, 3) := by decide +kernel
theorem dX12_passes_162 : decode cX12_passes 162 = .ok (.iconst 1, 1) := by decide +kernel
theorem dX12_passes_163 : decode cX12_passes 163 = .ok (.iload_n 2, 1) := by decide +kernel
theorem dX12_passes_164 : decode cX12_passes 164 = .ok (.ishl, 1) := by decide +kernel
theorem dX12_passes_165 : decode cX12_passes 165 = .ok (.ior, 1) := by decide +kernel
theorem dX12_passes_166 : decode cX12_passes 166 = .ok (.putfield 314, 3) := by decide +kernel
theorem dX12_passes_169 : decode cX12_passes 169 = .ok (.aload_n 0, 1) := by decide +kernel
theorem dX12_passes_170 : decode cX12_passes 170 = .ok (.dup, 1) := by decide +kernel
theorem dX12_passes_171 : decode cX12_passes 171 = .ok (.getfield 317, 3) := by decide +kernel
theorem dX12_passes_174 : decode cX12_passes 174 = .ok (.iconst 1, 1) := by decide +kernel
theorem dX12_passes_175 : decode cX12_passes 175 = .ok (.iload_n 3, 1) := by decide +kernel
theorem dX12_passes_176 : decode cX12_passes 176 = .ok (.ishl, 1) := by decide +kernel
theorem dX12_passes_177 : decode cX12_passes 177 = .ok (.ior, 1) := by decide +kernel
theorem dX12_passes_178 : decode cX12_passes 178 = .ok (.putfield 317, 3) := by decide +kernel
theorem dX12_passes_181 : decode cX12_passes 181 = .ok (.aload_n 0, 1) := by decide +kernel
theorem dX12_passes_182 : decode cX12_passes 182 = .ok (.iload_n 2, 1) := by decide +kernel
theorem dX12_passes_183 : decode cX12_passes 183 = .ok (.iconst 4, 1) := by decide +kernel
theorem dX12_passes_184 : decode cX12_passes 184 = .ok (.aload_n 0, 1) := by decide +kernel
theorem dX12_passes_185 : decode cX12_passes 185 = .ok (.iload_n 2, 1) := by decide +kernel
theorem dX12_passes_186 : decode cX12_passes 186 = .ok (.iconst 4, 1) := by decide +kernel
theorem dX12_passes_187 : decode cX12_passes 187 = .ok (.invokevirtual 256, 3) := by decide +kernel
theorem dX12_passes_190 : decode cX12_passes 190 = .ok (.iconst 1, 1) := by decide +kernel
theorem dX12_passes_191 : decode cX12_passes 191 = .ok (.iadd, 1) := by decide +kernel
theorem dX12_passes_192 : decode cX12_passes 192 = .ok (.invokevirtual 202, 3) := by decide +kernel
theorem dX12_passes_195 : decode cX12_passes 195 = .ok (.aload_n 0, 1) := by decide +kernel
theorem dX12_passes_196 : decode cX12_passes 196 = .ok (.iload_n 3, 1) := by decide +kernel
theorem dX12_passes_197 : decode cX12_passes 197 = .ok (.iconst 5, 1) := by decide +kernel
theorem dX12_passes_198 : decode cX12_passes 198 = .ok (.aload_n 0, 1) := by decide +kernel
theorem dX12_passes_199 : decode cX12_passes 199 = .ok (.iload_n 3, 1) := by decide +kernel
theorem dX12_passes_200 : decode cX12_passes 200 = .ok (.iconst 5, 1) := by decide +kernel
theorem dX12_passes_201 : decode cX12_passes 201 = .ok (.invokevirtual 256, 3) := by decide +kernel
theorem dX12_passes_204 : decode cX12_passes 204 = .ok (.iconst 1, 1) := by decide +kernel
theorem dX12_passes_205 : decode cX12_passes 205 = .ok (.iadd, 1) := by decide +kernel
theorem dX12_passes_206 : decode cX12_passes 206 = .ok (.invokevirtual 202, 3) := by decide +kernel
theorem dX12_passes_209 : decode cX12_passes 209 = .ok (.aload_n 0, 1) := by decide +kernel
theorem dX12_passes_210 : decode cX12_passes 210 = .ok (.iload_n 1, 1) := by decide +kernel
theorem dX12_passes_211 : decode cX12_passes 211 = .ok (.iconst 2, 1) := by decide +kernel
theorem dX12_passes_212 : decode cX12_passes 212 = .ok (.iload_n 3, 1) := by decide +kernel
theorem dX12_passes_213 : decode cX12_passes 213 = .ok (.invokevirtual 320, 3) := by decide +kernel
theorem dX12_passes_216 : decode cX12_passes 216 = .ok (.aload_n 0, 1) := by decide +kernel
theorem dX12_passes_217 : decode cX12_passes 217 = .ok (.iload_n 1, 1) := by decide +kernel
theorem dX12_passes_218 : decode cX12_passes 218 = .ok (.bipush 7, 2) := by decide +kernel
theorem dX12_passes_220 : decode cX12_passes 220 = .ok (.aload_n 0, 1) := by decide +kernel
theorem dX12_passes_221 : decode cX12_passes 221 = .ok (.iload_n 1, 1) := by decide +kernel
theorem dX12_passes_222 : decode cX12_passes 222 = .ok (.bipush 7, 2) := by decide +kernel
theorem dX12_passes_224 : decode cX12_passes 224 = .ok (.invokevirtual 308, 3) := by decide +kernel
theorem dX12_passes_227 : decode cX12_passes 227 = .ok (.iconst 1, 1) := by decide +kernel
theorem dX12_passes_228 : decode cX12_passes 228 = .ok (.iadd, 1) := by decide +kernel
theorem dX12_passes_229 : decode cX12_passes 229 = .ok (.invokevirtual 320, 3) := by decide +kernel
theorem dX12_passes_232 : decode cX12_passes 232 = .ok (.iload_n 3, 1) := by decide +kernel
theorem dX12_passes_233 : decode cX12_passes 233 = .ok (.aload_n 0, 1) := by decide +kernel
theorem dX12_passes_234 : decode cX12_passes 234 = .ok (.iload_n 1, 1) := by decide +kernel
theorem dX12_passes_235 : decode cX12_passes 235 = .ok (.iconst 1, 1) := by decide +kernel
theorem dX12_passes_236 : decode cX12_passes 236 = .ok (.invokevirtual 308, 3) := by decide +kernel
theorem dX12_passes_239 : decode cX12_passes 239 = .ok (.if_icmp .ne 7, 3) := by decide +kernel
theorem dX12_passes_246 : decode cX12_passes 246 = .ok (.iconst 0, 1) := by decide +kernel
theorem dX12_passes_247 : decode cX12_passes 247 = .ok (.istore 6, 2) := by decide +kernel
theorem dX12_passes_249 : decode cX12_passes 249 = .ok (.iload 6, 2) := by decide +kernel
theorem dX12_passes_251 : decode cX12_passes 251 = .ok (.ifCond .eq 10, 3) := by decide +kernel
theorem dX12_passes_261 : decode cX12_passes 261 = .ok (.iload 6, 2) := by decide +kernel
theorem dX12_passes_263 : decode cX12_passes 263 = .ok (.ifCond .eq 16, 3) := by decide +kernel
theorem dX12_passes_279 : decode cX12_passes 279 = .ok (.iload 6, 2) := by decide +kernel
theorem dX12_passes_281 : decode cX12_passes 281 = .ok (.ireturn, 1) := by decide +kernel
theorem dX12_passes_242 : decode cX12_passes 242 = .ok (.iconst 1, 1) := by decide +kernel
theorem dX12_passes_243 : decode cX12_passes 243 = .ok (.goto 4, 3) := by decide +kernel
theorem dX12_passes_254 : decode cX12_passes 254 = .ok (.aload_n 0, 1) := by decide +kernel
theorem dX12_passes_255 : decode cX12_passes 255 = .ok (.iload_n 1, 1) := by decide +kernel
theorem dX12_passes_256 : decode cX12_passes 256 = .ok (.iconst 3, 1) := by decide +kernel
theorem dX12_passes_257 : decode cX12_passes 257 = .ok (.iconst 1, 1) := by decide +kernel
theorem dX12_passes_258 : decode cX12_passes 258 = .ok (.invokevirtual 320, 3) := by decide +kernel
theorem dX12_passes_266 : decode cX12_passes 266 = .ok (.aload_n 0, 1) := by decide +kernel
theorem dX12_passes_267 : decode cX12_passes 267 = .ok (.iload_n 1, 1) := by decide +kernel
theorem dX12_passes_268 : decode cX12_passes 268 = .ok (.bipush 6, 2) := by decide +kernel
theorem dX12_passes_270 : decode cX12_passes 270 = .ok (.aload_n 0, 1) := by decide +kernel
theorem dX12_passes_271 : decode cX12_passes 271 = .ok (.getfield 20, 3) := by decide +kernel
theorem dX12_passes_274 : decode cX12_passes 274 = .ok (.iconst 3, 1) := by decide +kernel
theorem dX12_passes_275 : decode cX12_passes 275 = .ok (.iaload, 1) := by decide +kernel
theorem dX12_passes_276 : decode cX12_passes 276 = .ok (.invokevirtual 320, 3) := by decide +kernel
theorem dX12_passes_91 : decode cX12_passes 91 = .ok (.iconst 0, 1) := by decide +kernel
theorem dX12_passes_92 : decode cX12_passes 92 = .ok (.ireturn, 1) := by decide +kernel
theorem dX12_passes_59 : decode cX12_passes 59 = .ok (.aload_n 0, 1) := by decide +kernel
theorem dX12_passes_60 : decode cX12_passes 60 = .ok (.getfield 283, 3) := by decide +kernel
theorem dX12_passes_63 : decode cX12_passes 63 = .ok (.iload_n 3, 1) := by decide +kernel
theorem dX12_passes_64 : decode cX12_passes 64 = .ok (.invokestatic 185, 3) := by decide +kernel
theorem dX12_passes_67 : decode cX12_passes 67 = .ok (.ifCond .eq 7, 3) := by decide +kernel
theorem dX12_passes_70 : decode cX12_passes 70 = .ok (.iconst 1, 1) := by decide +kernel
theorem dX12_passes_71 : decode cX12_passes 71 = .ok (.goto 4, 3) := by decide +kernel
theorem dX12_passes_105 : decode cX12_passes 105 = .ok (.iconst 0, 1) := by decide +kernel
theorem dX12_passes_106 : decode cX12_passes 106 = .ok (.goto 10, 3) := by decide +kernel
theorem dX12_passesAll_0 : decode cX12_passesAll 0 = .ok (.iconst 0, 1) := by decide +kernel
theorem dX12_passesAll_1 : decode cX12_passesAll 1 = .ok (.istore_n 2, 1) := by decide +kernel
theorem dX12_passesAll_2 : decode cX12_passesAll 2 = .ok (.iconst 0, 1) := by decide +kernel
theorem dX12_passesAll_3 : decode cX12_passesAll 3 = .ok (.istore_n 3, 1) := by decide +kernel
theorem dX12_passesAll_4 : decode cX12_passesAll 4 = .ok (.iload_n 3, 1) := by decide +kernel
theorem dX12_passesAll_5 : decode cX12_passesAll 5 = .ok (.aload_n 0, 1) := by decide +kernel
theorem dX12_passesAll_6 : decode cX12_passesAll 6 = .ok (.getfield 20, 3) := by decide +kernel
theorem dX12_passesAll_9 : decode cX12_passesAll 9 = .ok (.iconst 4, 1) := by decide +kernel
theorem dX12_passesAll_10 : decode cX12_passesAll 10 = .ok (.iaload, 1) := by decide +kernel
theorem dX12_passesAll_11 : decode cX12_passesAll 11 = .ok (.if_icmp .ge 39, 3) := by decide +kernel
theorem dX12_passesAll_50 : decode cX12_passesAll 50 = .ok (.iload_n 2, 1) := by decide +kernel
theorem dX12_passesAll_51 : decode cX12_passesAll 51 = .ok (.ireturn, 1) := by decide +kernel
theorem dX12_passesAll_14 : decode cX12_passesAll 14 = .ok (.aload_n 0, 1) := by decide +kernel
theorem dX12_passesAll_15 : decode cX12_passesAll 15 = .ok (.iload_n 3, 1) := by decide +kernel
theorem dX12_passesAll_16 : decode cX12_passesAll 16 = .ok (.iconst 3, 1) := by decide +kernel
theorem dX12_passesAll_17 : decode cX12_passesAll 17 = .ok (.invokevirtual 308, 3) := by decide +kernel
theorem dX12_passesAll_20 : decode cX12_passesAll 20 = .ok (.ifCond .ne 24, 3) := by decide +kernel
theorem dX12_passesAll_44 : decode cX12_passesAll 44 = .ok (.iinc 3 1, 3) := by decide +kernel
theorem dX12_passesAll_47 : decode cX12_passesAll 47 = .ok (.goto (-43), 3) := by decide +kernel
theorem dX12_passesAll_23 : decode cX12_passesAll 23 = .ok (.aload_n 0, 1) := by decide +kernel
theorem dX12_passesAll_24 : decode cX12_passesAll 24 = .ok (.iload_n 3, 1) := by decide +kernel
theorem dX12_passesAll_25 : decode cX12_passesAll 25 = .ok (.iconst 5, 1) := by decide +kernel
theorem dX12_passesAll_26 : decode cX12_passesAll 26 = .ok (.invokevirtual 308, 3) := by decide +kernel
theorem dX12_passesAll_29 : decode cX12_passesAll 29 = .ok (.iload_n 1, 1) := by decide +kernel
theorem dX12_passesAll_30 : decode cX12_passesAll 30 = .ok (.if_icmp .ne 14, 3) := by decide +kernel
theorem dX12_passesAll_33 : decode cX12_passesAll 33 = .ok (.iload_n 2, 1) := by decide +kernel
theorem dX12_passesAll_34 : decode cX12_passesAll 34 = .ok (.aload_n 0, 1) := by decide +kernel
theorem dX12_passesAll_35 : decode cX12_passesAll 35 = .ok (.iload_n 3, 1) := by decide +kernel
theorem dX12_passesAll_36 : decode cX12_passesAll 36 = .ok (.invokevirtual 323, 3) := by decide +kernel
theorem dX12_passesAll_39 : decode cX12_passesAll 39 = .ok (.invokestatic 78, 3) := by decide +kernel
theorem dX12_passesAll_42 : decode cX12_passesAll 42 = .ok (.iadd, 1) := by decide +kernel
theorem dX12_passesAll_43 : decode cX12_passesAll 43 = .ok (.istore_n 2, 1) := by decide +kernel
theorem dX12_loses_0 : decode cX12_loses 0 = .ok (.iconst 0, 1) := by decide +kernel
theorem dX12_loses_1 : decode cX12_loses 1 = .ok (.istore_n 1, 1) := by decide +kernel
theorem dX12_loses_2 : decode cX12_loses 2 = .ok (.iload_n 1, 1) := by decide +kernel
theorem dX12_loses_3 : decode cX12_loses 3 = .ok (.aload_n 0, 1) := by decide +kernel
theorem dX12_loses_4 : decode cX12_loses 4 = .ok (.getfield 20, 3) := by decide +kernel
theorem dX12_loses_7 : decode cX12_loses 7 = .ok (.iconst 4, 1) := by decide +kernel
theorem dX12_loses_8 : decode cX12_loses 8 = .ok (.iaload, 1) := by decide +kernel
theorem dX12_loses_9 : decode cX12_loses 9 = .ok (.if_icmp .ge 38, 3) := by decide +kernel
theorem dX12_loses_47 : decode cX12_loses 47 = .ok (.return_, 1) := by decide +kernel
theorem dX12_loses_12 : decode cX12_loses 12 = .ok (.aload_n 0, 1) := by decide +kernel
theorem dX12_loses_13 : decode cX12_loses 13 = .ok (.iload_n 1, 1) := by decide +kernel
theorem dX12_loses_14 : decode cX12_loses 14 = .ok (.iconst 3, 1) := by decide +kernel
theorem dX12_loses_15 : decode cX12_loses 15 = .ok (.invokevirtual 308, 3) := by decide +kernel
theorem dX12_loses_18 : decode cX12_loses 18 = .ok (.ifCond .ne 23, 3) := by decide +kernel
theorem dX12_loses_41 : decode cX12_loses 41 = .ok (.iinc 1 1, 3) := by decide +kernel
theorem dX12_loses_44 : decode cX12_loses 44 = .ok (.goto (-42), 3) := by decide +kernel
theorem dX12_loses_21 : decode cX12_loses 21 = .ok (.aload_n 0, 1) := by decide +kernel
theorem dX12_loses_22 : decode cX12_loses 22 = .ok (.aload_n 0, 1) := by decide +kernel
theorem dX12_loses_23 : decode cX12_loses 23 = .ok (.iload_n 1, 1) := by decide +kernel
theorem dX12_loses_24 : decode cX12_loses 24 = .ok (.iconst 2, 1) := by decide +kernel
theorem dX12_loses_25 : decode cX12_loses 25 = .ok (.invokevirtual 308, 3) := by decide +kernel
theorem dX12_loses_28 : decode cX12_loses 28 = .ok (.invokevirtual 271, 3) := by decide +kernel
theorem dX12_loses_31 : decode cX12_loses 31 = .ok (.ifCond .eq 10, 3) := by decide +kernel
theorem dX12_loses_34 : decode cX12_loses 34 = .ok (.aload_n 0, 1) := by decide +kernel
theorem dX12_loses_35 : decode cX12_loses 35 = .ok (.iload_n 1, 1) := by decide +kernel
theorem dX12_loses_36 : decode cX12_loses 36 = .ok (.iconst 3, 1) := by decide +kernel
theorem dX12_loses_37 : decode cX12_loses 37 = .ok (.iconst 2, 1) := by decide +kernel
theorem dX12_loses_38 : decode cX12_loses 38 = .ok (.invokevirtual 320, 3) := by decide +kernel
theorem dX12_ticksOnce_0 : decode cX12_ticksOnce 0 = .ok (.aload_n 0, 1) := by decide +kernel
theorem dX12_ticksOnce_1 : decode cX12_ticksOnce 1 = .ok (.getfield 20, 3) := by decide +kernel
theorem dX12_ticksOnce_4 : decode cX12_ticksOnce 4 = .ok (.iconst 3, 1) := by decide +kernel
theorem dX12_ticksOnce_5 : decode cX12_ticksOnce 5 = .ok (.dup2, 1) := by decide +kernel
theorem dX12_ticksOnce_6 : decode cX12_ticksOnce 6 = .ok (.iaload, 1) := by decide +kernel
theorem dX12_ticksOnce_7 : decode cX12_ticksOnce 7 = .ok (.iconst 1, 1) := by decide +kernel
theorem dX12_ticksOnce_8 : decode cX12_ticksOnce 8 = .ok (.iadd, 1) := by decide +kernel
theorem dX12_ticksOnce_9 : decode cX12_ticksOnce 9 = .ok (.iastore, 1) := by decide +kernel
theorem dX12_ticksOnce_10 : decode cX12_ticksOnce 10 = .ok (.aload_n 0, 1) := by decide +kernel
theorem dX12_ticksOnce_11 : decode cX12_ticksOnce 11 = .ok (.invokevirtual 326, 3) := by decide +kernel
theorem dX12_ticksOnce_14 : decode cX12_ticksOnce 14 = .ok (.iconst 0, 1) := by decide +kernel
theorem dX12_ticksOnce_15 : decode cX12_ticksOnce 15 = .ok (.istore_n 1, 1) := by decide +kernel
theorem dX12_ticksOnce_16 : decode cX12_ticksOnce 16 = .ok (.iload_n 1, 1) := by decide +kernel
theorem dX12_ticksOnce_17 : decode cX12_ticksOnce 17 = .ok (.aload_n 0, 1) := by decide +kernel
theorem dX12_ticksOnce_18 : decode cX12_ticksOnce 18 = .ok (.getfield 20, 3) := by decide +kernel
theorem dX12_ticksOnce_21 : decode cX12_ticksOnce 21 = .ok (.iconst 1, 1) := by decide +kernel
theorem dX12_ticksOnce_22 : decode cX12_ticksOnce 22 = .ok (.iaload, 1) := by decide +kernel
theorem dX12_ticksOnce_23 : decode cX12_ticksOnce 23 = .ok (.if_icmp .ge 14, 3) := by decide +kernel
theorem dX12_ticksOnce_37 : decode cX12_ticksOnce 37 = .ok (.aload_n 0, 1) := by decide +kernel
theorem dX12_ticksOnce_38 : decode cX12_ticksOnce 38 = .ok (.iconst 0, 1) := by decide +kernel
theorem dX12_ticksOnce_39 : decode cX12_ticksOnce 39 = .ok (.putfield 314, 3) := by decide +kernel
theorem dX12_ticksOnce_42 : decode cX12_ticksOnce 42 = .ok (.aload_n 0, 1) := by decide +kernel
theorem dX12_ticksOnce_43 : decode cX12_ticksOnce 43 = .ok (.iconst 0, 1) := by decide +kernel
theorem dX12_ticksOnce_44 : decode cX12_ticksOnce 44 = .ok (.putfield 317, 3) := by decide +kernel
theorem dX12_ticksOnce_47 : decode cX12_ticksOnce 47 = .ok (.aload_n 0, 1) := by decide +kernel
theorem dX12_ticksOnce_48 : decode cX12_ticksOnce 48 = .ok (.iconst 1, 1) := by decide +kernel
theorem dX12_ticksOnce_49 : decode cX12_ticksOnce 49 = .ok (.invokevirtual 332, 3) := by decide +kernel
theorem dX12_ticksOnce_52 : decode cX12_ticksOnce 52 = .ok (.istore_n 1, 1) := by decide +kernel
theorem dX12_ticksOnce_53 : decode cX12_ticksOnce 53 = .ok (.iload_n 1, 1) := by decide +kernel
theorem dX12_ticksOnce_54 : decode cX12_ticksOnce 54 = .ok (.aload_n 0, 1) := by decide +kernel
theorem dX12_ticksOnce_55 : decode cX12_ticksOnce 55 = .ok (.iconst 0, 1) := by decide +kernel
theorem dX12_ticksOnce_56 : decode cX12_ticksOnce 56 = .ok (.invokevirtual 332, 3) := by decide +kernel
theorem dX12_ticksOnce_59 : decode cX12_ticksOnce 59 = .ok (.iadd, 1) := by decide +kernel
theorem dX12_ticksOnce_60 : decode cX12_ticksOnce 60 = .ok (.istore_n 1, 1) := by decide +kernel
theorem dX12_ticksOnce_61 : decode cX12_ticksOnce 61 = .ok (.aload_n 0, 1) := by decide +kernel
theorem dX12_ticksOnce_62 : decode cX12_ticksOnce 62 = .ok (.invokevirtual 335, 3) := by decide +kernel
theorem dX12_ticksOnce_65 : decode cX12_ticksOnce 65 = .ok (.iload_n 1, 1) := by decide +kernel
theorem dX12_ticksOnce_66 : decode cX12_ticksOnce 66 = .ok (.ireturn, 1) := by decide +kernel
theorem dX12_ticksOnce_26 : decode cX12_ticksOnce 26 = .ok (.aload_n 0, 1) := by decide +kernel
theorem dX12_ticksOnce_27 : decode cX12_ticksOnce 27 = .ok (.iload_n 1, 1) := by decide +kernel
theorem dX12_ticksOnce_28 : decode cX12_ticksOnce 28 = .ok (.invokevirtual 329, 3) := by decide +kernel
theorem dX12_ticksOnce_31 : decode cX12_ticksOnce 31 = .ok (.iinc 1 1, 3) := by decide +kernel
theorem dX12_ticksOnce_34 : decode cX12_ticksOnce 34 = .ok (.goto (-18), 3) := by decide +kernel
theorem dX12_ticksOn_0 : decode cX12_ticksOn 0 = .ok (.iconst 0, 1) := by decide +kernel
theorem dX12_ticksOn_1 : decode cX12_ticksOn 1 = .ok (.istore_n 2, 1) := by decide +kernel
theorem dX12_ticksOn_2 : decode cX12_ticksOn 2 = .ok (.iconst 0, 1) := by decide +kernel
theorem dX12_ticksOn_3 : decode cX12_ticksOn 3 = .ok (.istore_n 3, 1) := by decide +kernel
theorem dX12_ticksOn_4 : decode cX12_ticksOn 4 = .ok (.iload_n 3, 1) := by decide +kernel
theorem dX12_ticksOn_5 : decode cX12_ticksOn 5 = .ok (.iload_n 1, 1) := by decide +kernel
theorem dX12_ticksOn_6 : decode cX12_ticksOn 6 = .ok (.if_icmp .ge 16, 3) := by decide +kernel
theorem dX12_ticksOn_22 : decode cX12_ticksOn 22 = .ok (.iload_n 2, 1) := by decide +kernel
theorem dX12_ticksOn_23 : decode cX12_ticksOn 23 = .ok (.ireturn, 1) := by decide +kernel
theorem dX12_ticksOn_9 : decode cX12_ticksOn 9 = .ok (.iload_n 2, 1) := by decide +kernel
theorem dX12_ticksOn_10 : decode cX12_ticksOn 10 = .ok (.aload_n 0, 1) := by decide +kernel
theorem dX12_ticksOn_11 : decode cX12_ticksOn 11 = .ok (.invokevirtual 338, 3) := by decide +kernel
theorem dX12_ticksOn_14 : decode cX12_ticksOn 14 = .ok (.iadd, 1) := by decide +kernel
theorem dX12_ticksOn_15 : decode cX12_ticksOn 15 = .ok (.istore_n 2, 1) := by decide +kernel
theorem dX12_ticksOn_16 : decode cX12_ticksOn 16 = .ok (.iinc 3 1, 3) := by decide +kernel
theorem dX12_ticksOn_19 : decode cX12_ticksOn 19 = .ok (.goto (-15), 3) := by decide +kernel
