theorem dR_isLeftOut_54 : decode cR_isLeftOut 54 = .ok (.ireturn, 1) := by decide +kernel
theorem dR_isLeftOut_55 : decode cR_isLeftOut 55 = .ok (.iinc 3 1, 3) := by decide +kernel
theorem dR_isLeftOut_58 : decode cR_isLeftOut 58 = .ok (.goto (-56), 3) := by decide +kernel
theorem dR_isLeftOut_61 : decode cR_isLeftOut 61 = .ok (.iconst 0, 1) := by decide +kernel
theorem dR_isLeftOut_62 : decode cR_isLeftOut 62 = .ok (.ireturn, 1) := by decide +kernel
theorem dR_left_0 : decode cR_left 0 = .ok (.aload_n 0, 1) := by decide +kernel
theorem dR_left_1 : decode cR_left 1 = .ok (.iload_n 1, 1) := by decide +kernel
theorem dR_left_2 : decode cR_left 2 = .ok (.invokevirtual 49, 3) := by decide +kernel
theorem dR_left_5 : decode cR_left 5 = .ok (.ifCond .eq 13, 3) := by decide +kernel
theorem dR_left_8 : decode cR_left 8 = .ok (.iload_n 2, 1) := by decide +kernel
theorem dR_left_9 : decode cR_left 9 = .ok (.iconst 1, 1) := by decide +kernel
theorem dR_left_10 : decode cR_left 10 = .ok (.if_icmp .lt 8, 3) := by decide +kernel
theorem dR_left_13 : decode cR_left 13 = .ok (.iload_n 2, 1) := by decide +kernel
theorem dR_left_14 : decode cR_left 14 = .ok (.iconst 2, 1) := by decide +kernel
theorem dR_left_15 : decode cR_left 15 = .ok (.if_icmp .le 5, 3) := by decide +kernel
theorem dR_left_18 : decode cR_left 18 = .ok (.iconst (-1), 1) := by decide +kernel
theorem dR_left_19 : decode cR_left 19 = .ok (.ireturn, 1) := by decide +kernel
theorem dR_left_20 : decode cR_left 20 = .ok (.iconst 0, 1) := by decide +kernel
theorem dR_left_21 : decode cR_left 21 = .ok (.istore_n 3, 1) := by decide +kernel
theorem dR_left_22 : decode cR_left 22 = .ok (.iconst 0, 1) := by decide +kernel
theorem dR_left_23 : decode cR_left 23 = .ok (.istore 4, 2) := by decide +kernel
theorem dR_left_25 : decode cR_left 25 = .ok (.iload 4, 2) := by decide +kernel
theorem dR_left_27 : decode cR_left 27 = .ok (.aload_n 0, 1) := by decide +kernel
theorem dR_left_28 : decode cR_left 28 = .ok (.getfield 45, 3) := by decide +kernel
theorem dR_left_31 : decode cR_left 31 = .ok (.if_icmp .ge 44, 3) := by decide +kernel
theorem dR_left_34 : decode cR_left 34 = .ok (.iload 4, 2) := by decide +kernel
theorem dR_left_36 : decode cR_left 36 = .ok (.iload_n 1, 1) := by decide +kernel
theorem dR_left_37 : decode cR_left 37 = .ok (.if_icmp .eq 32, 3) := by decide +kernel
theorem dR_left_40 : decode cR_left 40 = .ok (.aload_n 0, 1) := by decide +kernel
theorem dR_left_41 : decode cR_left 41 = .ok (.getfield 16, 3) := by decide +kernel
theorem dR_left_44 : decode cR_left 44 = .ok (.iload 4, 2) := by decide +kernel
theorem dR_left_46 : decode cR_left 46 = .ok (.iaload, 1) := by decide +kernel
theorem dR_left_47 : decode cR_left 47 = .ok (.iconst 3, 1) := by decide +kernel
theorem dR_left_48 : decode cR_left 48 = .ok (.iload_n 2, 1) := by decide +kernel
theorem dR_left_49 : decode cR_left 49 = .ok (.isub, 1) := by decide +kernel
theorem dR_left_50 : decode cR_left 50 = .ok (.if_icmp .eq 19, 3) := by decide +kernel
theorem dR_left_53 : decode cR_left 53 = .ok (.aload_n 0, 1) := by decide +kernel
theorem dR_left_54 : decode cR_left 54 = .ok (.iload 4, 2) := by decide +kernel
theorem dR_left_56 : decode cR_left 56 = .ok (.iload_n 1, 1) := by decide +kernel
theorem dR_left_57 : decode cR_left 57 = .ok (.invokevirtual 104, 3) := by decide +kernel
theorem dR_left_60 : decode cR_left 60 = .ok (.ifCond .eq 6, 3) := by decide +kernel
theorem dR_left_63 : decode cR_left 63 = .ok (.goto 6, 3) := by decide +kernel
theorem dR_left_66 : decode cR_left 66 = .ok (.iinc 3 1, 3) := by decide +kernel
theorem dR_left_69 : decode cR_left 69 = .ok (.iinc 4 1, 3) := by decide +kernel
theorem dR_left_72 : decode cR_left 72 = .ok (.goto (-47), 3) := by decide +kernel
theorem dR_left_75 : decode cR_left 75 = .ok (.iload_n 3, 1) := by decide +kernel
theorem dR_left_76 : decode cR_left 76 = .ok (.ireturn, 1) := by decide +kernel
theorem dR_odds_0 : decode cR_odds 0 = .ok (.aload_n 0, 1) := by decide +kernel
theorem dR_odds_1 : decode cR_odds 1 = .ok (.iload_n 1, 1) := by decide +kernel
theorem dR_odds_2 : decode cR_odds 2 = .ok (.invokevirtual 49, 3) := by decide +kernel
theorem dR_odds_5 : decode cR_odds 5 = .ok (.ifCond .eq 23, 3) := by decide +kernel
theorem dR_odds_8 : decode cR_odds 8 = .ok (.aload_n 0, 1) := by decide +kernel
theorem dR_odds_9 : decode cR_odds 9 = .ok (.iload_n 2, 1) := by decide +kernel
theorem dR_odds_10 : decode cR_odds 10 = .ok (.invokevirtual 49, 3) := by decide +kernel
theorem dR_odds_13 : decode cR_odds 13 = .ok (.ifCond .eq 15, 3) := by decide +kernel
theorem dR_odds_16 : decode cR_odds 16 = .ok (.iload_n 1, 1) := by decide +kernel
theorem dR_odds_17 : decode cR_odds 17 = .ok (.iload_n 2, 1) := by decide +kernel
theorem dR_odds_18 : decode cR_odds 18 = .ok (.if_icmp .eq 10, 3) := by decide +kernel
theorem dR_odds_21 : decode cR_odds 21 = .ok (.iload_n 3, 1) := by decide +kernel
theorem dR_odds_22 : decode cR_odds 22 = .ok (.invokestatic 83, 3) := by decide +kernel
theorem dR_odds_25 : decode cR_odds 25 = .ok (.ifCond .ne 7, 3) := by decide +kernel
theorem dR_odds_28 : decode cR_odds 28 = .ok (.ldc2_w 86, 3) := by decide +kernel
theorem dR_odds_31 : decode cR_odds 31 = .ok (.lreturn, 1) := by decide +kernel
theorem dR_odds_32 : decode cR_odds 32 = .ok (.lconst 1, 1) := by decide +kernel
theorem dR_odds_33 : decode cR_odds 33 = .ok (.lstore 4, 2) := by decide +kernel
theorem dR_odds_35 : decode cR_odds 35 = .ok (.lconst 1, 1) := by decide +kernel
theorem dR_odds_36 : decode cR_odds 36 = .ok (.lstore 6, 2) := by decide +kernel
theorem dR_odds_38 : decode cR_odds 38 = .ok (.iconst 0, 1) := by decide +kernel
theorem dR_odds_39 : decode cR_odds 39 = .ok (.istore 8, 2) := by decide +kernel
theorem dR_odds_41 : decode cR_odds 41 = .ok (.iload 8, 2) := by decide +kernel
theorem dR_odds_43 : decode cR_odds 43 = .ok (.iconst 4, 1) := by decide +kernel
theorem dR_odds_44 : decode cR_odds 44 = .ok (.if_icmp .ge 250, 3) := by decide +kernel
theorem dR_odds_47 : decode cR_odds 47 = .ok (.aload_n 0, 1) := by decide +kernel
theorem dR_odds_48 : decode cR_odds 48 = .ok (.getfield 26, 3) := by decide +kernel
theorem dR_odds_51 : decode cR_odds 51 = .ok (.iconst 4, 1) := by decide +kernel
theorem dR_odds_52 : decode cR_odds 52 = .ok (.iload_n 1, 1) := by decide +kernel
theorem dR_odds_53 : decode cR_odds 53 = .ok (.imul, 1) := by decide +kernel
theorem dR_odds_54 : decode cR_odds 54 = .ok (.iload 8, 2) := by decide +kernel
theorem dR_odds_56 : decode cR_odds 56 = .ok (.iadd, 1) := by decide +kernel
theorem dR_odds_57 : decode cR_odds 57 = .ok (.iaload, 1) := by decide +kernel
theorem dR_odds_58 : decode cR_odds 58 = .ok (.istore 9, 2) := by decide +kernel
theorem dR_odds_60 : decode cR_odds 60 = .ok (.aload_n 0, 1) := by decide +kernel
theorem dR_odds_61 : decode cR_odds 61 = .ok (.getfield 26, 3) := by decide +kernel
theorem dR_odds_64 : decode cR_odds 64 = .ok (.iconst 4, 1) := by decide +kernel
theorem dR_odds_65 : decode cR_odds 65 = .ok (.iload_n 2, 1) := by decide +kernel
theorem dR_odds_66 : decode cR_odds 66 = .ok (.imul, 1) := by decide +kernel
theorem dR_odds_67 : decode cR_odds 67 = .ok (.iload 8, 2) := by decide +kernel
theorem dR_odds_69 : decode cR_odds 69 = .ok (.iadd, 1) := by decide +kernel
theorem dR_odds_70 : decode cR_odds 70 = .ok (.iaload, 1) := by decide +kernel
theorem dR_odds_71 : decode cR_odds 71 = .ok (.istore 10, 2) := by decide +kernel
theorem dR_odds_73 : decode cR_odds 73 = .ok (.iload 9, 2) := by decide +kernel
theorem dR_odds_75 : decode cR_odds 75 = .ok (.ifCond .lt 213, 3) := by decide +kernel
theorem dR_odds_78 : decode cR_odds 78 = .ok (.iload 10, 2) := by decide +kernel
theorem dR_odds_80 : decode cR_odds 80 = .ok (.ifCond .ge 6, 3) := by decide +kernel
theorem dR_odds_83 : decode cR_odds 83 = .ok (.goto 205, 3) := by decide +kernel
theorem dR_odds_86 : decode cR_odds 86 = .ok (.lconst 0, 1) := by decide +kernel
theorem dR_odds_87 : decode cR_odds 87 = .ok (.lstore 11, 2) := by decide +kernel
theorem dR_odds_89 : decode cR_odds 89 = .ok (.lconst 0, 1) := by decide +kernel
theorem dR_odds_90 : decode cR_odds 90 = .ok (.lstore 13, 2) := by decide +kernel
theorem dR_odds_92 : decode cR_odds 92 = .ok (.iconst 0, 1) := by decide +kernel
theorem dR_odds_93 : decode cR_odds 93 = .ok (.istore 15, 2) := by decide +kernel
theorem dR_odds_95 : decode cR_odds 95 = .ok (.iload 15, 2) := by decide +kernel
theorem dR_odds_97 : decode cR_odds 97 = .ok (.aload_n 0, 1) := by decide +kernel
theorem dR_odds_98 : decode cR_odds 98 = .ok (.getfield 45, 3) := by decide +kernel
theorem dR_odds_101 : decode cR_odds 101 = .ok (.if_icmp .ge 53, 3) := by decide +kernel
theorem dR_odds_104 : decode cR_odds 104 = .ok (.aload_n 0, 1) := by decide +kernel
theorem dR_odds_105 : decode cR_odds 105 = .ok (.getfield 26, 3) := by decide +kernel
theorem dR_odds_108 : decode cR_odds 108 = .ok (.iconst 4, 1) := by decide +kernel
theorem dR_odds_109 : decode cR_odds 109 = .ok (.iload 15, 2) := by decide +kernel
theorem dR_odds_111 : decode cR_odds 111 = .ok (.imul, 1) := by decide +kernel
theorem dR_odds_112 : decode cR_odds 112 = .ok (.iload 8, 2) := by decide +kernel
theorem dR_odds_114 : decode cR_odds 114 = .ok (.iadd, 1) := by decide +kernel
theorem dR_odds_115 : decode cR_odds 115 = .ok (.iaload, 1) := by decide +kernel
theorem dR_odds_116 : decode cR_odds 116 = .ok (.ifCond .ge 6, 3) := by decide +kernel
theorem dR_odds_119 : decode cR_odds 119 = .ok (.goto 29, 3) := by decide +kernel
theorem dR_odds_122 : decode cR_odds 122 = .ok (.lload 11, 2) := by decide +kernel
theorem dR_odds_124 : decode cR_odds 124 = .ok (.ldc2_w 60, 3) := by decide +kernel
theorem dR_odds_127 : decode cR_odds 127 = .ok (.ladd, 1) := by decide +kernel
theorem dR_odds_128 : decode cR_odds 128 = .ok (.lstore 11, 2) := by decide +kernel
theorem dR_odds_130 : decode cR_odds 130 = .ok (.lload 13, 2) := by decide +kernel
theorem dR_odds_132 : decode cR_odds 132 = .ok (.aload_n 0, 1) := by decide +kernel
theorem dR_odds_133 : decode cR_odds 133 = .ok (.getfield 26, 3) := by decide +kernel
theorem dR_odds_136 : decode cR_odds 136 = .ok (.iconst 4, 1) := by decide +kernel
theorem dR_odds_137 : decode cR_odds 137 = .ok (.iload 15, 2) := by decide +kernel
theorem dR_odds_139 : decode cR_odds 139 = .ok (.imul, 1) := by decide +kernel
theorem dR_odds_140 : decode cR_odds 140 = .ok (.iload 8, 2) := by decide +kernel
theorem dR_odds_142 : decode cR_odds 142 = .ok (.iadd, 1) := by decide +kernel
theorem dR_odds_143 : decode cR_odds 143 = .ok (.iaload, 1) := by decide +kernel
theorem dR_odds_144 : decode cR_odds 144 = .ok (.i2l, 1) := by decide +kernel
theorem dR_odds_145 : decode cR_odds 145 = .ok (.ladd, 1) := by decide +kernel
theorem dR_odds_146 : decode cR_odds 146 = .ok (.lstore 13, 2) := by decide +kernel
theorem dR_odds_148 : decode cR_odds 148 = .ok (.iinc 15 1, 3) := by decide +kernel
theorem dR_odds_151 : decode cR_odds 151 = .ok (.goto (-56), 3) := by decide +kernel
theorem dR_odds_154 : decode cR_odds 154 = .ok (.iload 9, 2) := by decide +kernel
theorem dR_odds_156 : decode cR_odds 156 = .ok (.ifCond .ne 14, 3) := by decide +kernel
theorem dR_odds_159 : decode cR_odds 159 = .ok (.iconst 2, 1) := by decide +kernel
theorem dR_odds_160 : decode cR_odds 160 = .ok (.iload 10, 2) := by decide +kernel
theorem dR_odds_162 : decode cR_odds 162 = .ok (.isub, 1) := by decide +kernel
theorem dR_odds_163 : decode cR_odds 163 = .ok (.i2l, 1) := by decide +kernel
theorem dR_odds_164 : decode cR_odds 164 = .ok (.lload 11, 2) := by decide +kernel
theorem dR_odds_166 : decode cR_odds 166 = .ok (.lmul, 1) := by decide +kernel
theorem dR_odds_167 : decode cR_odds 167 = .ok (.goto 39, 3) := by decide +kernel
theorem dR_odds_170 : decode cR_odds 170 = .ok (.iload 9, 2) := by decide +kernel
theorem dR_odds_172 : decode cR_odds 172 = .ok (.iconst 2, 1) := by decide +kernel
theorem dR_odds_173 : decode cR_odds 173 = .ok (.if_icmp .ne 12, 3) := by decide +kernel
theorem dR_odds_176 : decode cR_odds 176 = .ok (.iload 10, 2) := by decide +kernel
theorem dR_odds_178 : decode cR_odds 178 = .ok (.i2l, 1) := by decide +kernel
theorem dR_odds_179 : decode cR_odds 179 = .ok (.lload 11, 2) := by decide +kernel
theorem dR_odds_181 : decode cR_odds 181 = .ok (.lmul, 1) := by decide +kernel
theorem dR_odds_182 : decode cR_odds 182 = .ok (.goto 24, 3) := by decide +kernel
theorem dR_odds_185 : decode cR_odds 185 = .ok (.iload 10, 2) := by decide +kernel
theorem dR_odds_187 : decode cR_odds 187 = .ok (.i2l, 1) := by decide +kernel
theorem dR_odds_188 : decode cR_odds 188 = .ok (.lload 11, 2) := by decide +kernel
theorem dR_odds_190 : decode cR_odds 190 = .ok (.lload 13, 2) := by decide +kernel
theorem dR_odds_192 : decode cR_odds 192 = .ok (.lsub, 1) := by decide +kernel
theorem dR_odds_193 : decode cR_odds 193 = .ok (.lmul, 1) := by decide +kernel
theorem dR_odds_194 : decode cR_odds 194 = .ok (.iconst 2, 1) := by decide +kernel
theorem dR_odds_195 : decode cR_odds 195 = .ok (.iload 10, 2) := by decide +kernel
theorem dR_odds_197 : decode cR_odds 197 = .ok (.isub, 1) := by decide +kernel
theorem dR_odds_198 : decode cR_odds 198 = .ok (.i2l, 1) := by decide +kernel
theorem dR_odds_199 : decode cR_odds 199 = .ok (.lload 13, 2) := by decide +kernel
theorem dR_odds_201 : decode cR_odds 201 = .ok (.lmul, 1) := by decide +kernel
theorem dR_odds_202 : decode cR_odds 202 = .ok (.ladd, 1) := by decide +kernel
theorem dR_odds_203 : decode cR_odds 203 = .ok (.lload 11, 2) := by decide +kernel
theorem dR_odds_205 : decode cR_odds 205 = .ok (.lmul, 1) := by decide +kernel
theorem dR_odds_206 : decode cR_odds 206 = .ok (.lstore 15, 2) := by decide +kernel
theorem dR_odds_208 : decode cR_odds 208 = .ok (.iload 9, 2) := by decide +kernel
theorem dR_odds_210 : decode cR_odds 210 = .ok (.ifCond .ne 15, 3) := by decide +kernel
theorem dR_odds_213 : decode cR_odds 213 = .ok (.ldc2_w 60, 3) := by decide +kernel
theorem dR_odds_216 : decode cR_odds 216 = .ok (.lload 11, 2) := by decide +kernel
theorem dR_odds_218 : decode cR_odds 218 = .ok (.lload 13, 2) := by decide +kernel
theorem dR_odds_220 : decode cR_odds 220 = .ok (.lsub, 1) := by decide +kernel
theorem dR_odds_221 : decode cR_odds 221 = .ok (.lmul, 1) := by decide +kernel
theorem dR_odds_222 : decode cR_odds 222 = .ok (.goto 30, 3) := by decide +kernel
theorem dR_odds_225 : decode cR_odds 225 = .ok (.iload 9, 2) := by decide +kernel
theorem dR_odds_227 : decode cR_odds 227 = .ok (.iconst 2, 1) := by decide +kernel
theorem dR_odds_228 : decode cR_odds 228 = .ok (.if_icmp .ne 12, 3) := by decide +kernel
theorem dR_odds_231 : decode cR_odds 231 = .ok (.ldc2_w 60, 3) := by decide +kernel
theorem dR_odds_234 : decode cR_odds 234 = .ok (.lload 13, 2) := by decide +kernel
theorem dR_odds_236 : decode cR_odds 236 = .ok (.lmul, 1) := by decide +kernel
theorem dR_odds_237 : decode cR_odds 237 = .ok (.goto 15, 3) := by decide +kernel
theorem dR_odds_240 : decode cR_odds 240 = .ok (.ldc2_w 107, 3) := by decide +kernel
theorem dR_odds_243 : decode cR_odds 243 = .ok (.lload 13, 2) := by decide +kernel
theorem dR_odds_245 : decode cR_odds 245 = .ok (.lmul, 1) := by decide +kernel
theorem dR_odds_246 : decode cR_odds 246 = .ok (.lload 11, 2) := by decide +kernel
theorem dR_odds_248 : decode cR_odds 248 = .ok (.lload 13, 2) := by decide +kernel
theorem dR_odds_250 : decode cR_odds 250 = .ok (.lsub, 1) := by decide +kernel
theorem dR_odds_251 : decode cR_odds 251 = .ok (.lmul, 1) := by decide +kernel
theorem dR_odds_252 : decode cR_odds 252 = .ok (.lstore 17, 2) := by decide +kernel
theorem dR_odds_254 : decode cR_odds 254 = .ok (.lload 4, 2) := by decide +kernel
theorem dR_odds_256 : decode cR_odds 256 = .ok (.lload 15, 2) := by decide +kernel
theorem dR_odds_258 : decode cR_odds 258 = .ok (.lmul, 1) := by decide +kernel
theorem dR_odds_259 : decode cR_odds 259 = .ok (.lstore 19, 2) := by decide +kernel
theorem dR_odds_261 : decode cR_odds 261 = .ok (.lload 6, 2) := by decide +kernel
theorem dR_odds_263 : decode cR_odds 263 = .ok (.lload 17, 2) := by decide +kernel
theorem dR_odds_265 : decode cR_odds 265 = .ok (.lmul, 1) := by decide +kernel
theorem dR_odds_266 : decode cR_odds 266 = .ok (.lstore 21, 2) := by decide +kernel
theorem dR_odds_268 : decode cR_odds 268 = .ok (.lload 19, 2) := by decide +kernel
theorem dR_odds_270 : decode cR_odds 270 = .ok (.lload 21, 2) := by decide +kernel
theorem dR_odds_272 : decode cR_odds 272 = .ok (.iconst 0, 1) := by decide +kernel
theorem dR_odds_273 : decode cR_odds 273 = .ok (.invokestatic 91, 3) := by decide +kernel
theorem dR_odds_276 : decode cR_odds 276 = .ok (.lstore 4, 2) := by decide +kernel
theorem dR_odds_278 : decode cR_odds 278 = .ok (.lload 19, 2) := by decide +kernel
theorem dR_odds_280 : decode cR_odds 280 = .ok (.lload 21, 2) := by decide +kernel
theorem dR_odds_282 : decode cR_odds 282 = .ok (.iconst 1, 1) := by decide +kernel
theorem dR_odds_283 : decode cR_odds 283 = .ok (.invokestatic 91, 3) := by decide +kernel
theorem dR_odds_286 : decode cR_odds 286 = .ok (.lstore 6, 2) := by decide +kernel
theorem dR_odds_288 : decode cR_odds 288 = .ok (.iinc 8 1, 3) := by decide +kernel
theorem dR_odds_291 : decode cR_odds 291 = .ok (.goto (-250), 3) := by decide +kernel
theorem dR_odds_294 : decode cR_odds 294 = .ok (.iload_n 3, 1) := by decide +kernel
theorem dR_odds_295 : decode cR_odds 295 = .ok (.ifCond .ne 8, 3) := by decide +kernel
theorem dR_odds_298 : decode cR_odds 298 = .ok (.lload 4, 2) := by decide +kernel
theorem dR_odds_300 : decode cR_odds 300 = .ok (.goto 5, 3) := by decide +kernel
theorem dR_odds_303 : decode cR_odds 303 = .ok (.lload 6, 2) := by decide +kernel
theorem dR_odds_305 : decode cR_odds 305 = .ok (.lreturn, 1) := by decide +kernel
theorem dR_like_0 : decode cR_like 0 = .ok (.aload_n 0, 1) := by decide +kernel
theorem dR_like_1 : decode cR_like 1 = .ok (.iload_n 1, 1) := by decide +kernel
theorem dR_like_2 : decode cR_like 2 = .ok (.invokevirtual 49, 3) := by decide +kernel
theorem dR_like_5 : decode cR_like 5 = .ok (.ifCond .eq 18, 3) := by decide +kernel
theorem dR_like_8 : decode cR_like 8 = .ok (.aload_n 0, 1) := by decide +kernel
theorem dR_like_9 : decode cR_like 9 = .ok (.iload_n 2, 1) := by decide +kernel
theorem dR_like_10 : decode cR_like 10 = .ok (.invokevirtual 49, 3) := by decide +kernel
theorem dR_like_13 : decode cR_like 13 = .ok (.ifCond .eq 10, 3) := by decide +kernel
theorem dR_like_16 : decode cR_like 16 = .ok (.iload_n 3, 1) := by decide +kernel
theorem dR_like_17 : decode cR_like 17 = .ok (.invokestatic 83, 3) := by decide +kernel
theorem dR_like_20 : decode cR_like 20 = .ok (.ifCond .ne 7, 3) := by decide +kernel
theorem dR_like_23 : decode cR_like 23 = .ok (.ldc2_w 86, 3) := by decide +kernel
theorem dR_like_26 : decode cR_like 26 = .ok (.lreturn, 1) := by decide +kernel
theorem dR_like_27 : decode cR_like 27 = .ok (.iconst 0, 1) := by decide +kernel
theorem dR_like_28 : decode cR_like 28 = .ok (.istore 4, 2) := by decide +kernel
theorem dR_like_30 : decode cR_like 30 = .ok (.iconst 0, 1) := by decide +kernel
theorem dR_like_31 : decode cR_like 31 = .ok (.istore 5, 2) := by decide +kernel
theorem dR_like_33 : decode cR_like 33 = .ok (.iconst 0, 1) := by decide +kernel
theorem dR_like_34 : decode cR_like 34 = .ok (.istore 6, 2) := by decide +kernel
theorem dR_like_36 : decode cR_like 36 = .ok (.iload 6, 2) := by decide +kernel
theorem dR_like_38 : decode cR_like 38 = .ok (.iconst 4, 1) := by decide +kernel
theorem dR_like_39 : decode cR_like 39 = .ok (.if_icmp .ge 80, 3) := by decide +kernel
theorem dR_like_42 : decode cR_like 42 = .ok (.aload_n 0, 1) := by decide +kernel
theorem dR_like_43 : decode cR_like 43 = .ok (.getfield 26, 3) := by decide +kernel
theorem dR_like_46 : decode cR_like 46 = .ok (.iconst 4, 1) := by decide +kernel
theorem dR_like_47 : decode cR_like 47 = .ok (.iload_n 1, 1) := by decide +kernel
theorem dR_like_48 : decode cR_like 48 = .ok (.imul, 1) := by decide +kernel
theorem dR_like_49 : decode cR_like 49 = .ok (.iload 6, 2) := by decide +kernel
theorem dR_like_51 : decode cR_like 51 = .ok (.iadd, 1) := by decide +kernel
theorem dR_like_52 : decode cR_like 52 = .ok (.iaload, 1) := by decide +kernel
theorem dR_like_53 : decode cR_like 53 = .ok (.istore 7, 2) := by decide +kernel
theorem dR_like_55 : decode cR_like 55 = .ok (.aload_n 0, 1) := by decide +kernel
theorem dR_like_56 : decode cR_like 56 = .ok (.getfield 26, 3) := by decide +kernel
theorem dR_like_59 : decode cR_like 59 = .ok (.iconst 4, 1) := by decide +kernel
theorem dR_like_60 : decode cR_like 60 = .ok (.iload_n 2, 1) := by decide +kernel
theorem dR_like_61 : decode cR_like 61 = .ok (.imul, 1) := by decide +kernel
theorem dR_like_62 : decode cR_like 62 = .ok (.iload 6, 2) := by decide +kernel
theorem dR_like_64 : decode cR_like 64 = .ok (.iadd, 1) := by decide +kernel
theorem dR_like_65 : decode cR_like 65 = .ok (.iaload, 1) := by decide +kernel
theorem dR_like_66 : decode cR_like 66 = .ok (.istore 8, 2) := by decide +kernel
theorem dR_like_68 : decode cR_like 68 = .ok (.iload 7, 2) := by decide +kernel
theorem dR_like_70 : decode cR_like 70 = .ok (.ifCond .lt 43, 3) := by decide +kernel
theorem dR_like_73 : decode cR_like 73 = .ok (.iload 8, 2) := by decide +kernel
theorem dR_like_75 : decode cR_like 75 = .ok (.ifCond .ge 6, 3) := by decide +kernel
theorem dR_like_78 : decode cR_like 78 = .ok (.goto 35, 3) := by decide +kernel
theorem dR_like_81 : decode cR_like 81 = .ok (.iinc 4 2, 3) := by decide +kernel
theorem dR_like_84 : decode cR_like 84 = .ok (.iload 5, 2) := by decide +kernel
theorem dR_like_86 : decode cR_like 86 = .ok (.iload 7, 2) := by decide +kernel
theorem dR_like_88 : decode cR_like 88 = .ok (.iload 8, 2) := by decide +kernel
theorem dR_like_90 : decode cR_like 90 = .ok (.if_icmp .ge 13, 3) := by decide +kernel
theorem dR_like_93 : decode cR_like 93 = .ok (.iconst 2, 1) := by decide +kernel
theorem dR_like_94 : decode cR_like 94 = .ok (.iload 8, 2) := by decide +kernel
theorem dR_like_96 : decode cR_like 96 = .ok (.isub, 1) := by decide +kernel
theorem dR_like_97 : decode cR_like 97 = .ok (.iload 7, 2) := by decide +kernel
theorem dR_like_99 : decode cR_like 99 = .ok (.iadd, 1) := by decide +kernel
theorem dR_like_100 : decode cR_like 100 = .ok (.goto 10, 3) := by decide +kernel
theorem dR_like_103 : decode cR_like 103 = .ok (.iconst 2, 1) := by decide +kernel
theorem dR_like_104 : decode cR_like 104 = .ok (.iload 7, 2) := by decide +kernel
theorem dR_like_106 : decode cR_like 106 = .ok (.isub, 1) := by decide +kernel
theorem dR_like_107 : decode cR_like 107 = .ok (.iload 8, 2) := by decide +kernel
theorem dR_like_109 : decode cR_like 109 = .ok (.iadd, 1) := by decide +kernel
theorem dR_like_110 : decode cR_like 110 = .ok (.iadd, 1) := by decide +kernel
theorem dR_like_111 : decode cR_like 111 = .ok (.istore 5, 2) := by decide +kernel
theorem dR_like_113 : decode cR_like 113 = .ok (.iinc 6 1, 3) := by decide +kernel
theorem dR_like_116 : decode cR_like 116 = .ok (.goto (-80), 3) := by decide +kernel
theorem dR_like_119 : decode cR_like 119 = .ok (.iload 4, 2) := by decide +kernel
theorem dR_like_121 : decode cR_like 121 = .ok (.ifCond .ne 9, 3) := by decide +kernel
theorem dR_like_124 : decode cR_like 124 = .ok (.ldc2_w 86, 3) := by decide +kernel
theorem dR_like_127 : decode cR_like 127 = .ok (.goto 13, 3) := by decide +kernel
theorem dR_like_130 : decode cR_like 130 = .ok (.iload 5, 2) := by decide +kernel
theorem dR_like_132 : decode cR_like 132 = .ok (.i2l, 1) := by decide +kernel
theorem dR_like_133 : decode cR_like 133 = .ok (.iload 4, 2) := by decide +kernel
theorem dR_like_135 : decode cR_like 135 = .ok (.i2l, 1) := by decide +kernel
theorem dR_like_136 : decode cR_like 136 = .ok (.iload_n 3, 1) := by decide +kernel
theorem dR_like_137 : decode cR_like 137 = .ok (.invokestatic 91, 3) := by decide +kernel
theorem dR_like_140 : decode cR_like 140 = .ok (.lreturn, 1) := by decide +kernel
theorem dR_lost_0 : decode cR_lost 0 = .ok (.iload_n 1, 1) := by decide +kernel
theorem dR_lost_1 : decode cR_lost 1 = .ok (.ifCond .ge 5, 3) := by decide +kernel
theorem dR_lost_4 : decode cR_lost 4 = .ok (.iconst (-1), 1) := by decide +kernel
theorem dR_lost_5 : decode cR_lost 5 = .ok (.ireturn, 1) := by decide +kernel
theorem dR_lost_6 : decode cR_lost 6 = .ok (.aload_n 0, 1) := by decide +kernel
theorem dR_lost_7 : decode cR_lost 7 = .ok (.invokevirtual 53, 3) := by decide +kernel
theorem dR_lost_10 : decode cR_lost 10 = .ok (.iload_n 1, 1) := by decide +kernel
theorem dR_lost_11 : decode cR_lost 11 = .ok (.istore_n 2, 1) := by decide +kernel
theorem dR_lost_12 : decode cR_lost 12 = .ok (.iconst 0, 1) := by decide +kernel
theorem dR_lost_13 : decode cR_lost 13 = .ok (.istore_n 3, 1) := by decide +kernel
theorem dR_lost_14 : decode cR_lost 14 = .ok (.iload_n 3, 1) := by decide +kernel
theorem dR_lost_15 : decode cR_lost 15 = .ok (.aload_n 0, 1) := by decide +kernel
theorem dR_lost_16 : decode cR_lost 16 = .ok (.getfield 45, 3) := by decide +kernel
theorem dR_lost_19 : decode cR_lost 19 = .ok (.if_icmp .ge 105, 3) := by decide +kernel
theorem dR_lost_22 : decode cR_lost 22 = .ok (.aload_n 0, 1) := by decide +kernel
theorem dR_lost_23 : decode cR_lost 23 = .ok (.iload_n 3, 1) := by decide +kernel
theorem dR_lost_24 : decode cR_lost 24 = .ok (.invokevirtual 101, 3) := by decide +kernel
theorem dR_lost_27 : decode cR_lost 27 = .ok (.ifCond .eq 16, 3) := by decide +kernel
theorem dR_lost_30 : decode cR_lost 30 = .ok (.aload_n 0, 1) := by decide +kernel
theorem dR_lost_31 : decode cR_lost 31 = .ok (.getfield 22, 3) := by decide +kernel
theorem dR_lost_34 : decode cR_lost 34 = .ok (.iload_n 3, 1) := by decide +kernel
theorem dR_lost_35 : decode cR_lost 35 = .ok (.baload, 1) := by decide +kernel
theorem dR_lost_36 : decode cR_lost 36 = .ok (.ifCond .eq 7, 3) := by decide +kernel
theorem dR_lost_39 : decode cR_lost 39 = .ok (.iconst 1, 1) := by decide +kernel
theorem dR_lost_40 : decode cR_lost 40 = .ok (.goto 4, 3) := by decide +kernel
theorem dR_lost_43 : decode cR_lost 43 = .ok (.iconst 0, 1) := by decide +kernel
theorem dR_lost_44 : decode cR_lost 44 = .ok (.istore 4, 2) := by decide +kernel
theorem dR_lost_46 : decode cR_lost 46 = .ok (.iconst 0, 1) := by decide +kernel
theorem dR_lost_47 : decode cR_lost 47 = .ok (.istore 5, 2) := by decide +kernel
theorem dR_lost_49 : decode cR_lost 49 = .ok (.iload 5, 2) := by decide +kernel
theorem dR_lost_51 : decode cR_lost 51 = .ok (.aload_n 0, 1) := by decide +kernel
theorem dR_lost_52 : decode cR_lost 52 = .ok (.getfield 45, 3) := by decide +kernel
theorem dR_lost_55 : decode cR_lost 55 = .ok (.if_icmp .ge 46, 3) := by decide +kernel
theorem dR_lost_58 : decode cR_lost 58 = .ok (.iload 4, 2) := by decide +kernel
theorem dR_lost_60 : decode cR_lost 60 = .ok (.ifCond .eq 32, 3) := by decide +kernel
theorem dR_lost_63 : decode cR_lost 63 = .ok (.aload_n 0, 1) := by decide +kernel
theorem dR_lost_64 : decode cR_lost 64 = .ok (.getfield 32, 3) := by decide +kernel
theorem dR_lost_67 : decode cR_lost 67 = .ok (.bipush 24, 2) := by decide +kernel
theorem dR_lost_69 : decode cR_lost 69 = .ok (.iload_n 3, 1) := by decide +kernel
theorem dR_lost_70 : decode cR_lost 70 = .ok (.imul, 1) := by decide +kernel
theorem dR_lost_71 : decode cR_lost 71 = .ok (.iload 5, 2) := by decide +kernel
theorem dR_lost_73 : decode cR_lost 73 = .ok (.iadd, 1) := by decide +kernel
theorem dR_lost_74 : decode cR_lost 74 = .ok (.baload, 1) := by decide +kernel
theorem dR_lost_75 : decode cR_lost 75 = .ok (.ifCond .eq 13, 3) := by decide +kernel
theorem dR_lost_78 : decode cR_lost 78 = .ok (.aload_n 0, 1) := by decide +kernel
theorem dR_lost_79 : decode cR_lost 79 = .ok (.getfield 22, 3) := by decide +kernel
theorem dR_lost_82 : decode cR_lost 82 = .ok (.iload 5, 2) := by decide +kernel
theorem dR_lost_84 : decode cR_lost 84 = .ok (.baload, 1) := by decide +kernel
theorem dR_lost_85 : decode cR_lost 85 = .ok (.ifCond .eq 7, 3) := by decide +kernel
theorem dR_lost_88 : decode cR_lost 88 = .ok (.iconst 1, 1) := by decide +kernel
theorem dR_lost_89 : decode cR_lost 89 = .ok (.goto 4, 3) := by decide +kernel
theorem dR_lost_92 : decode cR_lost 92 = .ok (.iconst 0, 1) := by decide +kernel
theorem dR_lost_93 : decode cR_lost 93 = .ok (.istore 4, 2) := by decide +kernel
theorem dR_lost_95 : decode cR_lost 95 = .ok (.iinc 5 1, 3) := by decide +kernel
theorem dR_lost_98 : decode cR_lost 98 = .ok (.goto (-49), 3) := by decide +kernel
theorem dR_lost_101 : decode cR_lost 101 = .ok (.iload 4, 2) := by decide +kernel
theorem dR_lost_103 : decode cR_lost 103 = .ok (.ifCond .ne 6, 3) := by decide +kernel
theorem dR_lost_106 : decode cR_lost 106 = .ok (.goto 12, 3) := by decide +kernel
theorem dR_lost_109 : decode cR_lost 109 = .ok (.iload_n 2, 1) := by decide +kernel
theorem dR_lost_110 : decode cR_lost 110 = .ok (.ifCond .ne 5, 3) := by decide +kernel
theorem dR_lost_113 : decode cR_lost 113 = .ok (.iload_n 3, 1) := by decide +kernel
theorem dR_lost_114 : decode cR_lost 114 = .ok (.ireturn, 1) := by decide +kernel
theorem dR_lost_115 : decode cR_lost 115 = .ok (.iinc 2 (-1), 3) := by decide +kernel
theorem dR_lost_118 : decode cR_lost 118 = .ok (.iinc 3 1, 3) := by decide +kernel
theorem dR_lost_121 : decode cR_lost 121 = .ok (.goto (-107), 3) := by decide +kernel
theorem dR_lost_124 : decode cR_lost 124 = .ok (.iconst (-1), 1) := by decide +kernel
theorem dR_lost_125 : decode cR_lost 125 = .ok (.ireturn, 1) := by decide +kernel
theorem dR_diverse_0 : decode cR_diverse 0 = .ok (.iload_n 1, 1) := by decide +kernel
theorem dR_diverse_1 : decode cR_diverse 1 = .ok (.invokestatic 83, 3) := by decide +kernel
theorem dR_diverse_4 : decode cR_diverse 4 = .ok (.ifCond .ne 7, 3) := by decide +kernel
theorem dR_diverse_7 : decode cR_diverse 7 = .ok (.ldc2_w 86, 3) := by decide +kernel
theorem dR_diverse_10 : decode cR_diverse 10 = .ok (.lreturn, 1) := by decide +kernel
theorem dR_diverse_11 : decode cR_diverse 11 = .ok (.aload_n 0, 1) := by decide +kernel
theorem dR_diverse_12 : decode cR_diverse 12 = .ok (.invokevirtual 88, 3) := by decide +kernel
theorem dR_diverse_15 : decode cR_diverse 15 = .ok (.lconst 0, 1) := by decide +kernel
theorem dR_diverse_16 : decode cR_diverse 16 = .ok (.lstore_n 2, 1) := by decide +kernel
theorem dR_diverse_17 : decode cR_diverse 17 = .ok (.lconst 0, 1) := by decide +kernel
theorem dR_diverse_18 : decode cR_diverse 18 = .ok (.lstore 4, 2) := by decide +kernel
theorem dR_diverse_20 : decode cR_diverse 20 = .ok (.iconst 0, 1) := by decide +kernel
theorem dR_diverse_21 : decode cR_diverse 21 = .ok (.istore 6, 2) := by decide +kernel
theorem dR_diverse_23 : decode cR_diverse 23 = .ok (.iload 6, 2) := by decide +kernel
theorem dR_diverse_25 : decode cR_diverse 25 = .ok (.aload_n 0, 1) := by decide +kernel
theorem dR_diverse_26 : decode cR_diverse 26 = .ok (.getfield 45, 3) := by decide +kernel
theorem dR_diverse_29 : decode cR_diverse 29 = .ok (.if_icmp .ge 67, 3) := by decide +kernel
theorem dR_diverse_32 : decode cR_diverse 32 = .ok (.iconst 0, 1) := by decide +kernel
theorem dR_diverse_33 : decode cR_diverse 33 = .ok (.istore 7, 2) := by decide +kernel
theorem dR_diverse_35 : decode cR_diverse 35 = .ok (.iload 7, 2) := by decide +kernel
theorem dR_diverse_37 : decode cR_diverse 37 = .ok (.aload_n 0, 1) := by decide +kernel
theorem dR_diverse_38 : decode cR_diverse 38 = .ok (.getfield 45, 3) := by decide +kernel
theorem dR_diverse_41 : decode cR_diverse 41 = .ok (.if_icmp .ge 49, 3) := by decide +kernel
theorem dR_diverse_44 : decode cR_diverse 44 = .ok (.aload_n 0, 1) := by decide +kernel
theorem dR_diverse_45 : decode cR_diverse 45 = .ok (.getfield 22, 3) := by decide +kernel
theorem dR_diverse_48 : decode cR_diverse 48 = .ok (.iload 6, 2) := by decide +kernel
theorem dR_diverse_50 : decode cR_diverse 50 = .ok (.baload, 1) := by decide +kernel
theorem dR_diverse_51 : decode cR_diverse 51 = .ok (.ifCond .ne 33, 3) := by decide +kernel
theorem dR_diverse_54 : decode cR_diverse 54 = .ok (.aload_n 0, 1) := by decide +kernel
theorem dR_diverse_55 : decode cR_diverse 55 = .ok (.getfield 22, 3) := by decide +kernel
theorem dR_diverse_58 : decode cR_diverse 58 = .ok (.iload 7, 2) := by decide +kernel
theorem dR_diverse_60 : decode cR_diverse 60 = .ok (.baload, 1) := by decide +kernel
theorem dR_diverse_61 : decode cR_diverse 61 = .ok (.ifCond .eq 6, 3) := by decide +kernel
theorem dR_diverse_64 : decode cR_diverse 64 = .ok (.goto 20, 3) := by decide +kernel
theorem dR_diverse_67 : decode cR_diverse 67 = .ok (.lload_n 2, 1) := by decide +kernel
theorem dR_diverse_68 : decode cR_diverse 68 = .ok (.aload_n 0, 1) := by decide +kernel
theorem dR_diverse_69 : decode cR_diverse 69 = .ok (.iload 6, 2) := by decide +kernel
theorem dR_diverse_71 : decode cR_diverse 71 = .ok (.iload 7, 2) := by decide +kernel
theorem dR_diverse_73 : decode cR_diverse 73 = .ok (.invokevirtual 56, 3) := by decide +kernel
theorem dR_diverse_76 : decode cR_diverse 76 = .ok (.ladd, 1) := by decide +kernel
theorem dR_diverse_77 : decode cR_diverse 77 = .ok (.lstore_n 2, 1) := by decide +kernel
theorem dR_diverse_78 : decode cR_diverse 78 = .ok (.lload 4, 2) := by decide +kernel
theorem dR_diverse_80 : decode cR_diverse 80 = .ok (.lconst 1, 1) := by decide +kernel
theorem dR_diverse_81 : decode cR_diverse 81 = .ok (.ladd, 1) := by decide +kernel
theorem dR_diverse_82 : decode cR_diverse 82 = .ok (.lstore 4, 2) := by decide +kernel
theorem dR_diverse_84 : decode cR_diverse 84 = .ok (.iinc 7 1, 3) := by decide +kernel
theorem dR_diverse_87 : decode cR_diverse 87 = .ok (.goto (-52), 3) := by decide +kernel
theorem dR_diverse_90 : decode cR_diverse 90 = .ok (.iinc 6 1, 3) := by decide +kernel
theorem dR_diverse_93 : decode cR_diverse 93 = .ok (.goto (-70), 3) := by decide +kernel
theorem dR_diverse_96 : decode cR_diverse 96 = .ok (.lload 4, 2) := by decide +kernel
theorem dR_diverse_98 : decode cR_diverse 98 = .ok (.lconst 0, 1) := by decide +kernel
theorem dR_diverse_99 : decode cR_diverse 99 = .ok (.lcmp, 1) := by decide +kernel
theorem dR_diverse_100 : decode cR_diverse 100 = .ok (.ifCond .ne 9, 3) := by decide +kernel
theorem dR_diverse_103 : decode cR_diverse 103 = .ok (.ldc2_w 86, 3) := by decide +kernel
theorem dR_diverse_106 : decode cR_diverse 106 = .ok (.goto 14, 3) := by decide +kernel
theorem dR_diverse_109 : decode cR_diverse 109 = .ok (.lload_n 2, 1) := by decide +kernel
theorem dR_diverse_110 : decode cR_diverse 110 = .ok (.lload 4, 2) := by decide +kernel
theorem dR_diverse_112 : decode cR_diverse 112 = .ok (.ldc2_w 62, 3) := by decide +kernel
theorem dR_diverse_115 : decode cR_diverse 115 = .ok (.lmul, 1) := by decide +kernel
theorem dR_diverse_116 : decode cR_diverse 116 = .ok (.iload_n 1, 1) := by decide +kernel
theorem dR_diverse_117 : decode cR_diverse 117 = .ok (.invokestatic 91, 3) := by decide +kernel
theorem dR_diverse_120 : decode cR_diverse 120 = .ok (.lreturn, 1) := by decide +kernel
theorem dR_animal_0 : decode cR_animal 0 = .ok (.aload_n 0, 1) := by decide +kernel
theorem dR_animal_1 : decode cR_animal 1 = .ok (.iload_n 1, 1) := by decide +kernel
theorem dR_animal_2 : decode cR_animal 2 = .ok (.invokevirtual 49, 3) := by decide +kernel
theorem dR_animal_5 : decode cR_animal 5 = .ok (.ifCond .eq 12, 3) := by decide +kernel
theorem dR_animal_8 : decode cR_animal 8 = .ok (.iload_n 2, 1) := by decide +kernel
theorem dR_animal_9 : decode cR_animal 9 = .ok (.ifCond .lt 8, 3) := by decide +kernel
theorem dR_animal_12 : decode cR_animal 12 = .ok (.iload_n 2, 1) := by decide +kernel
theorem dR_animal_13 : decode cR_animal 13 = .ok (.iconst 5, 1) := by decide +kernel
theorem dR_animal_14 : decode cR_animal 14 = .ok (.if_icmp .le 5, 3) := by decide +kernel
theorem dR_animal_17 : decode cR_animal 17 = .ok (.iconst (-1), 1) := by decide +kernel
theorem dR_animal_18 : decode cR_animal 18 = .ok (.ireturn, 1) := by decide +kernel
theorem dR_animal_19 : decode cR_animal 19 = .ok (.aload_n 0, 1) := by decide +kernel
theorem dR_animal_20 : decode cR_animal 20 = .ok (.invokevirtual 53, 3) := by decide +kernel
theorem dR_animal_23 : decode cR_animal 23 = .ok (.iload_n 2, 1) := by decide +kernel
theorem dR_animal_24 : decode cR_animal 24 = .ok (.ifCond .ne 12, 3) := by decide +kernel
theorem dR_animal_27 : decode cR_animal 27 = .ok (.aload_n 0, 1) := by decide +kernel
theorem dR_animal_28 : decode cR_animal 28 = .ok (.getfield 7, 3) := by decide +kernel
theorem dR_animal_31 : decode cR_animal 31 = .ok (.iload_n 1, 1) := by decide +kernel
theorem dR_animal_32 : decode cR_animal 32 = .ok (.iaload, 1) := by decide +kernel
theorem dR_animal_33 : decode cR_animal 33 = .ok (.goto 73, 3) := by decide +kernel
theorem dR_animal_36 : decode cR_animal 36 = .ok (.iload_n 2, 1) := by decide +kernel
theorem dR_animal_37 : decode cR_animal 37 = .ok (.iconst 1, 1) := by decide +kernel
theorem dR_animal_38 : decode cR_animal 38 = .ok (.if_icmp .ne 12, 3) := by decide +kernel
theorem dR_animal_41 : decode cR_animal 41 = .ok (.aload_n 0, 1) := by decide +kernel
theorem dR_animal_42 : decode cR_animal 42 = .ok (.getfield 13, 3) := by decide +kernel
theorem dR_animal_45 : decode cR_animal 45 = .ok (.iload_n 1, 1) := by decide +kernel
theorem dR_animal_46 : decode cR_animal 46 = .ok (.iaload, 1) := by decide +kernel
theorem dR_animal_47 : decode cR_animal 47 = .ok (.goto 59, 3) := by decide +kernel
theorem dR_animal_50 : decode cR_animal 50 = .ok (.iload_n 2, 1) := by decide +kernel
theorem dR_animal_51 : decode cR_animal 51 = .ok (.iconst 2, 1) := by decide +kernel
theorem dR_animal_52 : decode cR_animal 52 = .ok (.if_icmp .ne 12, 3) := by decide +kernel
theorem dR_animal_55 : decode cR_animal 55 = .ok (.aload_n 0, 1) := by decide +kernel
theorem dR_animal_56 : decode cR_animal 56 = .ok (.getfield 16, 3) := by decide +kernel
theorem dR_animal_59 : decode cR_animal 59 = .ok (.iload_n 1, 1) := by decide +kernel
theorem dR_animal_60 : decode cR_animal 60 = .ok (.iaload, 1) := by decide +kernel
theorem dR_animal_61 : decode cR_animal 61 = .ok (.goto 45, 3) := by decide +kernel
theorem dR_animal_64 : decode cR_animal 64 = .ok (.iload_n 2, 1) := by decide +kernel
theorem dR_animal_65 : decode cR_animal 65 = .ok (.iconst 3, 1) := by decide +kernel
theorem dR_animal_66 : decode cR_animal 66 = .ok (.if_icmp .ne 12, 3) := by decide +kernel
theorem dR_animal_69 : decode cR_animal 69 = .ok (.aload_n 0, 1) := by decide +kernel
theorem dR_animal_70 : decode cR_animal 70 = .ok (.getfield 19, 3) := by decide +kernel
theorem dR_animal_73 : decode cR_animal 73 = .ok (.iload_n 1, 1) := by decide +kernel
theorem dR_animal_74 : decode cR_animal 74 = .ok (.iaload, 1) := by decide +kernel
theorem dR_animal_75 : decode cR_animal 75 = .ok (.goto 31, 3) := by decide +kernel
theorem dR_animal_78 : decode cR_animal 78 = .ok (.iload_n 2, 1) := by decide +kernel
theorem dR_animal_79 : decode cR_animal 79 = .ok (.iconst 4, 1) := by decide +kernel
theorem dR_animal_80 : decode cR_animal 80 = .ok (.if_icmp .ne 20, 3) := by decide +kernel
theorem dR_animal_83 : decode cR_animal 83 = .ok (.aload_n 0, 1) := by decide +kernel
theorem dR_animal_84 : decode cR_animal 84 = .ok (.getfield 22, 3) := by decide +kernel
theorem dR_animal_87 : decode cR_animal 87 = .ok (.iload_n 1, 1) := by decide +kernel
theorem dR_animal_88 : decode cR_animal 88 = .ok (.baload, 1) := by decide +kernel
theorem dR_animal_89 : decode cR_animal 89 = .ok (.ifCond .eq 7, 3) := by decide +kernel
theorem dR_animal_92 : decode cR_animal 92 = .ok (.iconst 0, 1) := by decide +kernel
theorem dR_animal_93 : decode cR_animal 93 = .ok (.goto 13, 3) := by decide +kernel
theorem dR_animal_96 : decode cR_animal 96 = .ok (.iconst 1, 1) := by decide +kernel
theorem dR_animal_97 : decode cR_animal 97 = .ok (.goto 9, 3) := by decide +kernel
theorem dR_animal_100 : decode cR_animal 100 = .ok (.aload_n 0, 1) := by decide +kernel
theorem dR_animal_101 : decode cR_animal 101 = .ok (.getfield 35, 3) := by decide +kernel
theorem dR_animal_104 : decode cR_animal 104 = .ok (.iload_n 1, 1) := by decide +kernel
theorem dR_animal_105 : decode cR_animal 105 = .ok (.iaload, 1) := by decide +kernel
theorem dR_animal_106 : decode cR_animal 106 = .ok (.ireturn, 1) := by decide +kernel
