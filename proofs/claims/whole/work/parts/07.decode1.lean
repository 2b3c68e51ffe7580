theorem dR_is_0 : decode cR_is 0 = .ok (.iload_n 1, 1) := by decide +kernel
theorem dR_is_1 : decode cR_is 1 = .ok (.ifCond .lt 15, 3) := by decide +kernel
theorem dR_is_4 : decode cR_is 4 = .ok (.iload_n 1, 1) := by decide +kernel
theorem dR_is_5 : decode cR_is 5 = .ok (.aload_n 0, 1) := by decide +kernel
theorem dR_is_6 : decode cR_is 6 = .ok (.getfield 45, 3) := by decide +kernel
theorem dR_is_9 : decode cR_is 9 = .ok (.if_icmp .ge 7, 3) := by decide +kernel
theorem dR_is_12 : decode cR_is 12 = .ok (.iconst 1, 1) := by decide +kernel
theorem dR_is_13 : decode cR_is 13 = .ok (.goto 4, 3) := by decide +kernel
theorem dR_is_16 : decode cR_is 16 = .ok (.iconst 0, 1) := by decide +kernel
theorem dR_is_17 : decode cR_is 17 = .ok (.ireturn, 1) := by decide +kernel
theorem dR_isOrNone_0 : decode cR_isOrNone 0 = .ok (.iload_n 1, 1) := by decide +kernel
theorem dR_isOrNone_1 : decode cR_isOrNone 1 = .ok (.iconst (-1), 1) := by decide +kernel
theorem dR_isOrNone_2 : decode cR_isOrNone 2 = .ok (.if_icmp .eq 11, 3) := by decide +kernel
theorem dR_isOrNone_5 : decode cR_isOrNone 5 = .ok (.aload_n 0, 1) := by decide +kernel
theorem dR_isOrNone_6 : decode cR_isOrNone 6 = .ok (.iload_n 1, 1) := by decide +kernel
theorem dR_isOrNone_7 : decode cR_isOrNone 7 = .ok (.invokevirtual 49, 3) := by decide +kernel
theorem dR_isOrNone_10 : decode cR_isOrNone 10 = .ok (.ifCond .eq 7, 3) := by decide +kernel
theorem dR_isOrNone_13 : decode cR_isOrNone 13 = .ok (.iconst 1, 1) := by decide +kernel
theorem dR_isOrNone_14 : decode cR_isOrNone 14 = .ok (.goto 4, 3) := by decide +kernel
theorem dR_isOrNone_17 : decode cR_isOrNone 17 = .ok (.iconst 0, 1) := by decide +kernel
theorem dR_isOrNone_18 : decode cR_isOrNone 18 = .ok (.ireturn, 1) := by decide +kernel
theorem dR_isPart_0 : decode cR_isPart 0 = .ok (.iload_n 0, 1) := by decide +kernel
theorem dR_isPart_1 : decode cR_isPart 1 = .ok (.ifCond .eq 8, 3) := by decide +kernel
theorem dR_isPart_4 : decode cR_isPart 4 = .ok (.iload_n 0, 1) := by decide +kernel
theorem dR_isPart_5 : decode cR_isPart 5 = .ok (.iconst 1, 1) := by decide +kernel
theorem dR_isPart_6 : decode cR_isPart 6 = .ok (.if_icmp .ne 7, 3) := by decide +kernel
theorem dR_isPart_9 : decode cR_isPart 9 = .ok (.iconst 1, 1) := by decide +kernel
theorem dR_isPart_10 : decode cR_isPart 10 = .ok (.goto 4, 3) := by decide +kernel
theorem dR_isPart_13 : decode cR_isPart 13 = .ok (.iconst 0, 1) := by decide +kernel
theorem dR_isPart_14 : decode cR_isPart 14 = .ok (.ireturn, 1) := by decide +kernel
theorem dR_lowest_0 : decode cR_lowest 0 = .ok (.lload_n 2, 1) := by decide +kernel
theorem dR_lowest_1 : decode cR_lowest 1 = .ok (.lstore 5, 2) := by decide +kernel
theorem dR_lowest_3 : decode cR_lowest 3 = .ok (.lload_n 0, 1) := by decide +kernel
theorem dR_lowest_4 : decode cR_lowest 4 = .ok (.lstore 7, 2) := by decide +kernel
theorem dR_lowest_6 : decode cR_lowest 6 = .ok (.lload 7, 2) := by decide +kernel
theorem dR_lowest_8 : decode cR_lowest 8 = .ok (.lconst 0, 1) := by decide +kernel
theorem dR_lowest_9 : decode cR_lowest 9 = .ok (.lcmp, 1) := by decide +kernel
theorem dR_lowest_10 : decode cR_lowest 10 = .ok (.ifCond .le 21, 3) := by decide +kernel
theorem dR_lowest_13 : decode cR_lowest 13 = .ok (.lload 5, 2) := by decide +kernel
theorem dR_lowest_15 : decode cR_lowest 15 = .ok (.lload 7, 2) := by decide +kernel
theorem dR_lowest_17 : decode cR_lowest 17 = .ok (.lrem, 1) := by decide +kernel
theorem dR_lowest_18 : decode cR_lowest 18 = .ok (.lstore 9, 2) := by decide +kernel
theorem dR_lowest_20 : decode cR_lowest 20 = .ok (.lload 7, 2) := by decide +kernel
theorem dR_lowest_22 : decode cR_lowest 22 = .ok (.lstore 5, 2) := by decide +kernel
theorem dR_lowest_24 : decode cR_lowest 24 = .ok (.lload 9, 2) := by decide +kernel
theorem dR_lowest_26 : decode cR_lowest 26 = .ok (.lstore 7, 2) := by decide +kernel
theorem dR_lowest_28 : decode cR_lowest 28 = .ok (.goto (-22), 3) := by decide +kernel
theorem dR_lowest_31 : decode cR_lowest 31 = .ok (.iload 4, 2) := by decide +kernel
theorem dR_lowest_33 : decode cR_lowest 33 = .ok (.ifCond .ne 10, 3) := by decide +kernel
theorem dR_lowest_36 : decode cR_lowest 36 = .ok (.lload_n 0, 1) := by decide +kernel
theorem dR_lowest_37 : decode cR_lowest 37 = .ok (.lload 5, 2) := by decide +kernel
theorem dR_lowest_39 : decode cR_lowest 39 = .ok (.ldiv, 1) := by decide +kernel
theorem dR_lowest_40 : decode cR_lowest 40 = .ok (.goto 7, 3) := by decide +kernel
theorem dR_lowest_43 : decode cR_lowest 43 = .ok (.lload_n 2, 1) := by decide +kernel
theorem dR_lowest_44 : decode cR_lowest 44 = .ok (.lload 5, 2) := by decide +kernel
theorem dR_lowest_46 : decode cR_lowest 46 = .ok (.ldiv, 1) := by decide +kernel
theorem dR_lowest_47 : decode cR_lowest 47 = .ok (.lreturn, 1) := by decide +kernel
theorem dR_kinOf_0 : decode cR_kinOf 0 = .ok (.iload_n 1, 1) := by decide +kernel
theorem dR_kinOf_1 : decode cR_kinOf 1 = .ok (.ifCond .lt 7, 3) := by decide +kernel
theorem dR_kinOf_4 : decode cR_kinOf 4 = .ok (.iload_n 2, 1) := by decide +kernel
theorem dR_kinOf_5 : decode cR_kinOf 5 = .ok (.ifCond .ge 7, 3) := by decide +kernel
theorem dR_kinOf_8 : decode cR_kinOf 8 = .ok (.lconst 0, 1) := by decide +kernel
theorem dR_kinOf_9 : decode cR_kinOf 9 = .ok (.goto 14, 3) := by decide +kernel
theorem dR_kinOf_12 : decode cR_kinOf 12 = .ok (.aload_n 0, 1) := by decide +kernel
theorem dR_kinOf_13 : decode cR_kinOf 13 = .ok (.getfield 41, 3) := by decide +kernel
theorem dR_kinOf_16 : decode cR_kinOf 16 = .ok (.bipush 24, 2) := by decide +kernel
theorem dR_kinOf_18 : decode cR_kinOf 18 = .ok (.iload_n 1, 1) := by decide +kernel
theorem dR_kinOf_19 : decode cR_kinOf 19 = .ok (.imul, 1) := by decide +kernel
theorem dR_kinOf_20 : decode cR_kinOf 20 = .ok (.iload_n 2, 1) := by decide +kernel
theorem dR_kinOf_21 : decode cR_kinOf 21 = .ok (.iadd, 1) := by decide +kernel
theorem dR_kinOf_22 : decode cR_kinOf 22 = .ok (.laload, 1) := by decide +kernel
theorem dR_kinOf_23 : decode cR_kinOf 23 = .ok (.lreturn, 1) := by decide +kernel
theorem dR_find_0 : decode cR_find 0 = .ok (.iconst 0, 1) := by decide +kernel
theorem dR_find_1 : decode cR_find 1 = .ok (.istore_n 1, 1) := by decide +kernel
theorem dR_find_2 : decode cR_find 2 = .ok (.iload_n 1, 1) := by decide +kernel
theorem dR_find_3 : decode cR_find 3 = .ok (.sipush 576, 3) := by decide +kernel
theorem dR_find_6 : decode cR_find 6 = .ok (.if_icmp .ge 16, 3) := by decide +kernel
theorem dR_find_9 : decode cR_find 9 = .ok (.aload_n 0, 1) := by decide +kernel
theorem dR_find_10 : decode cR_find 10 = .ok (.getfield 32, 3) := by decide +kernel
theorem dR_find_13 : decode cR_find 13 = .ok (.iload_n 1, 1) := by decide +kernel
theorem dR_find_14 : decode cR_find 14 = .ok (.iconst 0, 1) := by decide +kernel
theorem dR_find_15 : decode cR_find 15 = .ok (.bastore, 1) := by decide +kernel
theorem dR_find_16 : decode cR_find 16 = .ok (.iinc 1 1, 3) := by decide +kernel
theorem dR_find_19 : decode cR_find 19 = .ok (.goto (-17), 3) := by decide +kernel
theorem dR_find_22 : decode cR_find 22 = .ok (.iconst 0, 1) := by decide +kernel
theorem dR_find_23 : decode cR_find 23 = .ok (.istore_n 1, 1) := by decide +kernel
theorem dR_find_24 : decode cR_find 24 = .ok (.iload_n 1, 1) := by decide +kernel
theorem dR_find_25 : decode cR_find 25 = .ok (.aload_n 0, 1) := by decide +kernel
theorem dR_find_26 : decode cR_find 26 = .ok (.getfield 45, 3) := by decide +kernel
theorem dR_find_29 : decode cR_find 29 = .ok (.if_icmp .ge 16, 3) := by decide +kernel
theorem dR_find_32 : decode cR_find 32 = .ok (.aload_n 0, 1) := by decide +kernel
theorem dR_find_33 : decode cR_find 33 = .ok (.getfield 35, 3) := by decide +kernel
theorem dR_find_36 : decode cR_find 36 = .ok (.iload_n 1, 1) := by decide +kernel
theorem dR_find_37 : decode cR_find 37 = .ok (.iconst 0, 1) := by decide +kernel
theorem dR_find_38 : decode cR_find 38 = .ok (.iastore, 1) := by decide +kernel
theorem dR_find_39 : decode cR_find 39 = .ok (.iinc 1 1, 3) := by decide +kernel
theorem dR_find_42 : decode cR_find 42 = .ok (.goto (-18), 3) := by decide +kernel
theorem dR_find_45 : decode cR_find 45 = .ok (.iconst 1, 1) := by decide +kernel
theorem dR_find_46 : decode cR_find 46 = .ok (.istore_n 1, 1) := by decide +kernel
theorem dR_find_47 : decode cR_find 47 = .ok (.iload_n 1, 1) := by decide +kernel
theorem dR_find_48 : decode cR_find 48 = .ok (.ifCond .eq 185, 3) := by decide +kernel
theorem dR_find_51 : decode cR_find 51 = .ok (.iconst 0, 1) := by decide +kernel
theorem dR_find_52 : decode cR_find 52 = .ok (.istore_n 1, 1) := by decide +kernel
theorem dR_find_53 : decode cR_find 53 = .ok (.iconst 0, 1) := by decide +kernel
theorem dR_find_54 : decode cR_find 54 = .ok (.istore_n 2, 1) := by decide +kernel
theorem dR_find_55 : decode cR_find 55 = .ok (.iload_n 2, 1) := by decide +kernel
theorem dR_find_56 : decode cR_find 56 = .ok (.aload_n 0, 1) := by decide +kernel
theorem dR_find_57 : decode cR_find 57 = .ok (.getfield 45, 3) := by decide +kernel
theorem dR_find_60 : decode cR_find 60 = .ok (.if_icmp .ge 170, 3) := by decide +kernel
theorem dR_find_63 : decode cR_find 63 = .ok (.iconst 0, 1) := by decide +kernel
theorem dR_find_64 : decode cR_find 64 = .ok (.istore_n 3, 1) := by decide +kernel
theorem dR_find_65 : decode cR_find 65 = .ok (.iload_n 3, 1) := by decide +kernel
theorem dR_find_66 : decode cR_find 66 = .ok (.iconst 2, 1) := by decide +kernel
theorem dR_find_67 : decode cR_find 67 = .ok (.if_icmp .ge 157, 3) := by decide +kernel
theorem dR_find_70 : decode cR_find 70 = .ok (.iload_n 3, 1) := by decide +kernel
theorem dR_find_71 : decode cR_find 71 = .ok (.ifCond .ne 12, 3) := by decide +kernel
theorem dR_find_74 : decode cR_find 74 = .ok (.aload_n 0, 1) := by decide +kernel
theorem dR_find_75 : decode cR_find 75 = .ok (.getfield 7, 3) := by decide +kernel
theorem dR_find_78 : decode cR_find 78 = .ok (.iload_n 2, 1) := by decide +kernel
theorem dR_find_79 : decode cR_find 79 = .ok (.iaload, 1) := by decide +kernel
theorem dR_find_80 : decode cR_find 80 = .ok (.goto 9, 3) := by decide +kernel
theorem dR_find_83 : decode cR_find 83 = .ok (.aload_n 0, 1) := by decide +kernel
theorem dR_find_84 : decode cR_find 84 = .ok (.getfield 13, 3) := by decide +kernel
theorem dR_find_87 : decode cR_find 87 = .ok (.iload_n 2, 1) := by decide +kernel
theorem dR_find_88 : decode cR_find 88 = .ok (.iaload, 1) := by decide +kernel
theorem dR_find_89 : decode cR_find 89 = .ok (.istore 4, 2) := by decide +kernel
theorem dR_find_91 : decode cR_find 91 = .ok (.iload 4, 2) := by decide +kernel
theorem dR_find_93 : decode cR_find 93 = .ok (.ifCond .ge 6, 3) := by decide +kernel
theorem dR_find_96 : decode cR_find 96 = .ok (.goto 122, 3) := by decide +kernel
theorem dR_find_99 : decode cR_find 99 = .ok (.aload_n 0, 1) := by decide +kernel
theorem dR_find_100 : decode cR_find 100 = .ok (.getfield 35, 3) := by decide +kernel
theorem dR_find_103 : decode cR_find 103 = .ok (.iload_n 2, 1) := by decide +kernel
theorem dR_find_104 : decode cR_find 104 = .ok (.iaload, 1) := by decide +kernel
theorem dR_find_105 : decode cR_find 105 = .ok (.aload_n 0, 1) := by decide +kernel
theorem dR_find_106 : decode cR_find 106 = .ok (.getfield 35, 3) := by decide +kernel
theorem dR_find_109 : decode cR_find 109 = .ok (.iload 4, 2) := by decide +kernel
theorem dR_find_111 : decode cR_find 111 = .ok (.iaload, 1) := by decide +kernel
theorem dR_find_112 : decode cR_find 112 = .ok (.if_icmp .gt 20, 3) := by decide +kernel
theorem dR_find_115 : decode cR_find 115 = .ok (.aload_n 0, 1) := by decide +kernel
theorem dR_find_116 : decode cR_find 116 = .ok (.getfield 35, 3) := by decide +kernel
theorem dR_find_119 : decode cR_find 119 = .ok (.iload_n 2, 1) := by decide +kernel
theorem dR_find_120 : decode cR_find 120 = .ok (.aload_n 0, 1) := by decide +kernel
theorem dR_find_121 : decode cR_find 121 = .ok (.getfield 35, 3) := by decide +kernel
theorem dR_find_124 : decode cR_find 124 = .ok (.iload 4, 2) := by decide +kernel
theorem dR_find_126 : decode cR_find 126 = .ok (.iaload, 1) := by decide +kernel
theorem dR_find_127 : decode cR_find 127 = .ok (.iconst 1, 1) := by decide +kernel
theorem dR_find_128 : decode cR_find 128 = .ok (.iadd, 1) := by decide +kernel
theorem dR_find_129 : decode cR_find 129 = .ok (.iastore, 1) := by decide +kernel
theorem dR_find_130 : decode cR_find 130 = .ok (.iconst 1, 1) := by decide +kernel
theorem dR_find_131 : decode cR_find 131 = .ok (.istore_n 1, 1) := by decide +kernel
theorem dR_find_132 : decode cR_find 132 = .ok (.iconst 0, 1) := by decide +kernel
theorem dR_find_133 : decode cR_find 133 = .ok (.istore 5, 2) := by decide +kernel
theorem dR_find_135 : decode cR_find 135 = .ok (.iload 5, 2) := by decide +kernel
theorem dR_find_137 : decode cR_find 137 = .ok (.aload_n 0, 1) := by decide +kernel
theorem dR_find_138 : decode cR_find 138 = .ok (.getfield 45, 3) := by decide +kernel
theorem dR_find_141 : decode cR_find 141 = .ok (.if_icmp .ge 77, 3) := by decide +kernel
theorem dR_find_144 : decode cR_find 144 = .ok (.iload 5, 2) := by decide +kernel
theorem dR_find_146 : decode cR_find 146 = .ok (.iload 4, 2) := by decide +kernel
theorem dR_find_148 : decode cR_find 148 = .ok (.if_icmp .eq 19, 3) := by decide +kernel
theorem dR_find_151 : decode cR_find 151 = .ok (.aload_n 0, 1) := by decide +kernel
theorem dR_find_152 : decode cR_find 152 = .ok (.getfield 32, 3) := by decide +kernel
theorem dR_find_155 : decode cR_find 155 = .ok (.bipush 24, 2) := by decide +kernel
theorem dR_find_157 : decode cR_find 157 = .ok (.iload 5, 2) := by decide +kernel
theorem dR_find_159 : decode cR_find 159 = .ok (.imul, 1) := by decide +kernel
theorem dR_find_160 : decode cR_find 160 = .ok (.iload 4, 2) := by decide +kernel
theorem dR_find_162 : decode cR_find 162 = .ok (.iadd, 1) := by decide +kernel
theorem dR_find_163 : decode cR_find 163 = .ok (.baload, 1) := by decide +kernel
theorem dR_find_164 : decode cR_find 164 = .ok (.ifCond .eq 7, 3) := by decide +kernel
theorem dR_find_167 : decode cR_find 167 = .ok (.iconst 1, 1) := by decide +kernel
theorem dR_find_168 : decode cR_find 168 = .ok (.goto 4, 3) := by decide +kernel
theorem dR_find_171 : decode cR_find 171 = .ok (.iconst 0, 1) := by decide +kernel
theorem dR_find_172 : decode cR_find 172 = .ok (.istore 6, 2) := by decide +kernel
theorem dR_find_174 : decode cR_find 174 = .ok (.iload 6, 2) := by decide +kernel
theorem dR_find_176 : decode cR_find 176 = .ok (.ifCond .eq 36, 3) := by decide +kernel
theorem dR_find_179 : decode cR_find 179 = .ok (.aload_n 0, 1) := by decide +kernel
theorem dR_find_180 : decode cR_find 180 = .ok (.getfield 32, 3) := by decide +kernel
theorem dR_find_183 : decode cR_find 183 = .ok (.bipush 24, 2) := by decide +kernel
theorem dR_find_185 : decode cR_find 185 = .ok (.iload 5, 2) := by decide +kernel
theorem dR_find_187 : decode cR_find 187 = .ok (.imul, 1) := by decide +kernel
theorem dR_find_188 : decode cR_find 188 = .ok (.iload_n 2, 1) := by decide +kernel
theorem dR_find_189 : decode cR_find 189 = .ok (.iadd, 1) := by decide +kernel
theorem dR_find_190 : decode cR_find 190 = .ok (.baload, 1) := by decide +kernel
theorem dR_find_191 : decode cR_find 191 = .ok (.ifCond .eq 6, 3) := by decide +kernel
theorem dR_find_194 : decode cR_find 194 = .ok (.goto 18, 3) := by decide +kernel
theorem dR_find_197 : decode cR_find 197 = .ok (.aload_n 0, 1) := by decide +kernel
theorem dR_find_198 : decode cR_find 198 = .ok (.getfield 32, 3) := by decide +kernel
theorem dR_find_201 : decode cR_find 201 = .ok (.bipush 24, 2) := by decide +kernel
theorem dR_find_203 : decode cR_find 203 = .ok (.iload 5, 2) := by decide +kernel
theorem dR_find_205 : decode cR_find 205 = .ok (.imul, 1) := by decide +kernel
theorem dR_find_206 : decode cR_find 206 = .ok (.iload_n 2, 1) := by decide +kernel
theorem dR_find_207 : decode cR_find 207 = .ok (.iadd, 1) := by decide +kernel
theorem dR_find_208 : decode cR_find 208 = .ok (.iconst 1, 1) := by decide +kernel
theorem dR_find_209 : decode cR_find 209 = .ok (.bastore, 1) := by decide +kernel
theorem dR_find_210 : decode cR_find 210 = .ok (.iconst 1, 1) := by decide +kernel
theorem dR_find_211 : decode cR_find 211 = .ok (.istore_n 1, 1) := by decide +kernel
theorem dR_find_212 : decode cR_find 212 = .ok (.iinc 5 1, 3) := by decide +kernel
theorem dR_find_215 : decode cR_find 215 = .ok (.goto (-80), 3) := by decide +kernel
theorem dR_find_218 : decode cR_find 218 = .ok (.iinc 3 1, 3) := by decide +kernel
theorem dR_find_221 : decode cR_find 221 = .ok (.goto (-156), 3) := by decide +kernel
theorem dR_find_224 : decode cR_find 224 = .ok (.iinc 2 1, 3) := by decide +kernel
theorem dR_find_227 : decode cR_find 227 = .ok (.goto (-172), 3) := by decide +kernel
theorem dR_find_230 : decode cR_find 230 = .ok (.goto (-183), 3) := by decide +kernel
theorem dR_find_233 : decode cR_find 233 = .ok (.iconst 0, 1) := by decide +kernel
theorem dR_find_234 : decode cR_find 234 = .ok (.istore_n 2, 1) := by decide +kernel
theorem dR_find_235 : decode cR_find 235 = .ok (.iconst 0, 1) := by decide +kernel
theorem dR_find_236 : decode cR_find 236 = .ok (.istore_n 3, 1) := by decide +kernel
theorem dR_find_237 : decode cR_find 237 = .ok (.iload_n 3, 1) := by decide +kernel
theorem dR_find_238 : decode cR_find 238 = .ok (.aload_n 0, 1) := by decide +kernel
theorem dR_find_239 : decode cR_find 239 = .ok (.getfield 45, 3) := by decide +kernel
theorem dR_find_242 : decode cR_find 242 = .ok (.if_icmp .ge 52, 3) := by decide +kernel
theorem dR_find_245 : decode cR_find 245 = .ok (.iconst 0, 1) := by decide +kernel
theorem dR_find_246 : decode cR_find 246 = .ok (.istore 4, 2) := by decide +kernel
theorem dR_find_248 : decode cR_find 248 = .ok (.iload 4, 2) := by decide +kernel
theorem dR_find_250 : decode cR_find 250 = .ok (.aload_n 0, 1) := by decide +kernel
theorem dR_find_251 : decode cR_find 251 = .ok (.getfield 45, 3) := by decide +kernel
theorem dR_find_254 : decode cR_find 254 = .ok (.if_icmp .ge 34, 3) := by decide +kernel
theorem dR_find_257 : decode cR_find 257 = .ok (.aload_n 0, 1) := by decide +kernel
theorem dR_find_258 : decode cR_find 258 = .ok (.getfield 35, 3) := by decide +kernel
theorem dR_find_261 : decode cR_find 261 = .ok (.iload 4, 2) := by decide +kernel
theorem dR_find_263 : decode cR_find 263 = .ok (.iaload, 1) := by decide +kernel
theorem dR_find_264 : decode cR_find 264 = .ok (.iload_n 3, 1) := by decide +kernel
theorem dR_find_265 : decode cR_find 265 = .ok (.if_icmp .eq 6, 3) := by decide +kernel
theorem dR_find_268 : decode cR_find 268 = .ok (.goto 14, 3) := by decide +kernel
theorem dR_find_271 : decode cR_find 271 = .ok (.aload_n 0, 1) := by decide +kernel
theorem dR_find_272 : decode cR_find 272 = .ok (.getfield 38, 3) := by decide +kernel
theorem dR_find_275 : decode cR_find 275 = .ok (.iload_n 2, 1) := by decide +kernel
theorem dR_find_276 : decode cR_find 276 = .ok (.iload 4, 2) := by decide +kernel
theorem dR_find_278 : decode cR_find 278 = .ok (.iastore, 1) := by decide +kernel
theorem dR_find_279 : decode cR_find 279 = .ok (.iinc 2 1, 3) := by decide +kernel
theorem dR_find_282 : decode cR_find 282 = .ok (.iinc 4 1, 3) := by decide +kernel
theorem dR_find_285 : decode cR_find 285 = .ok (.goto (-37), 3) := by decide +kernel
theorem dR_find_288 : decode cR_find 288 = .ok (.iinc 3 1, 3) := by decide +kernel
theorem dR_find_291 : decode cR_find 291 = .ok (.goto (-54), 3) := by decide +kernel
theorem dR_find_294 : decode cR_find 294 = .ok (.return_, 1) := by decide +kernel
theorem dR_findKin_0 : decode cR_findKin 0 = .ok (.aload_n 0, 1) := by decide +kernel
theorem dR_findKin_1 : decode cR_findKin 1 = .ok (.invokevirtual 53, 3) := by decide +kernel
theorem dR_findKin_4 : decode cR_findKin 4 = .ok (.iconst 0, 1) := by decide +kernel
theorem dR_findKin_5 : decode cR_findKin 5 = .ok (.istore_n 1, 1) := by decide +kernel
theorem dR_findKin_6 : decode cR_findKin 6 = .ok (.iload_n 1, 1) := by decide +kernel
theorem dR_findKin_7 : decode cR_findKin 7 = .ok (.aload_n 0, 1) := by decide +kernel
theorem dR_findKin_8 : decode cR_findKin 8 = .ok (.getfield 45, 3) := by decide +kernel
theorem dR_findKin_11 : decode cR_findKin 11 = .ok (.if_icmp .ge 131, 3) := by decide +kernel
theorem dR_findKin_14 : decode cR_findKin 14 = .ok (.aload_n 0, 1) := by decide +kernel
theorem dR_findKin_15 : decode cR_findKin 15 = .ok (.getfield 38, 3) := by decide +kernel
theorem dR_findKin_18 : decode cR_findKin 18 = .ok (.iload_n 1, 1) := by decide +kernel
theorem dR_findKin_19 : decode cR_findKin 19 = .ok (.iaload, 1) := by decide +kernel
theorem dR_findKin_20 : decode cR_findKin 20 = .ok (.istore_n 2, 1) := by decide +kernel
theorem dR_findKin_21 : decode cR_findKin 21 = .ok (.iconst 0, 1) := by decide +kernel
theorem dR_findKin_22 : decode cR_findKin 22 = .ok (.istore_n 3, 1) := by decide +kernel
theorem dR_findKin_23 : decode cR_findKin 23 = .ok (.iload_n 3, 1) := by decide +kernel
theorem dR_findKin_24 : decode cR_findKin 24 = .ok (.iload_n 1, 1) := by decide +kernel
theorem dR_findKin_25 : decode cR_findKin 25 = .ok (.if_icmp .ge 76, 3) := by decide +kernel
theorem dR_findKin_28 : decode cR_findKin 28 = .ok (.aload_n 0, 1) := by decide +kernel
theorem dR_findKin_29 : decode cR_findKin 29 = .ok (.getfield 38, 3) := by decide +kernel
theorem dR_findKin_32 : decode cR_findKin 32 = .ok (.iload_n 3, 1) := by decide +kernel
theorem dR_findKin_33 : decode cR_findKin 33 = .ok (.iaload, 1) := by decide +kernel
theorem dR_findKin_34 : decode cR_findKin 34 = .ok (.istore 4, 2) := by decide +kernel
theorem dR_findKin_36 : decode cR_findKin 36 = .ok (.aload_n 0, 1) := by decide +kernel
theorem dR_findKin_37 : decode cR_findKin 37 = .ok (.aload_n 0, 1) := by decide +kernel
theorem dR_findKin_38 : decode cR_findKin 38 = .ok (.getfield 7, 3) := by decide +kernel
theorem dR_findKin_41 : decode cR_findKin 41 = .ok (.iload_n 2, 1) := by decide +kernel
theorem dR_findKin_42 : decode cR_findKin 42 = .ok (.iaload, 1) := by decide +kernel
theorem dR_findKin_43 : decode cR_findKin 43 = .ok (.iload 4, 2) := by decide +kernel
theorem dR_findKin_45 : decode cR_findKin 45 = .ok (.invokevirtual 56, 3) := by decide +kernel
theorem dR_findKin_48 : decode cR_findKin 48 = .ok (.aload_n 0, 1) := by decide +kernel
theorem dR_findKin_49 : decode cR_findKin 49 = .ok (.aload_n 0, 1) := by decide +kernel
theorem dR_findKin_50 : decode cR_findKin 50 = .ok (.getfield 13, 3) := by decide +kernel
theorem dR_findKin_53 : decode cR_findKin 53 = .ok (.iload_n 2, 1) := by decide +kernel
theorem dR_findKin_54 : decode cR_findKin 54 = .ok (.iaload, 1) := by decide +kernel
theorem dR_findKin_55 : decode cR_findKin 55 = .ok (.iload 4, 2) := by decide +kernel
theorem dR_findKin_57 : decode cR_findKin 57 = .ok (.invokevirtual 56, 3) := by decide +kernel
theorem dR_findKin_60 : decode cR_findKin 60 = .ok (.ladd, 1) := by decide +kernel
theorem dR_findKin_61 : decode cR_findKin 61 = .ok (.ldc2_w 60, 3) := by decide +kernel
theorem dR_findKin_64 : decode cR_findKin 64 = .ok (.ldiv, 1) := by decide +kernel
theorem dR_findKin_65 : decode cR_findKin 65 = .ok (.lstore 5, 2) := by decide +kernel
theorem dR_findKin_67 : decode cR_findKin 67 = .ok (.aload_n 0, 1) := by decide +kernel
theorem dR_findKin_68 : decode cR_findKin 68 = .ok (.getfield 41, 3) := by decide +kernel
theorem dR_findKin_71 : decode cR_findKin 71 = .ok (.bipush 24, 2) := by decide +kernel
theorem dR_findKin_73 : decode cR_findKin 73 = .ok (.iload_n 2, 1) := by decide +kernel
theorem dR_findKin_74 : decode cR_findKin 74 = .ok (.imul, 1) := by decide +kernel
theorem dR_findKin_75 : decode cR_findKin 75 = .ok (.iload 4, 2) := by decide +kernel
theorem dR_findKin_77 : decode cR_findKin 77 = .ok (.iadd, 1) := by decide +kernel
theorem dR_findKin_78 : decode cR_findKin 78 = .ok (.lload 5, 2) := by decide +kernel
theorem dR_findKin_80 : decode cR_findKin 80 = .ok (.lastore, 1) := by decide +kernel
theorem dR_findKin_81 : decode cR_findKin 81 = .ok (.aload_n 0, 1) := by decide +kernel
theorem dR_findKin_82 : decode cR_findKin 82 = .ok (.getfield 41, 3) := by decide +kernel
theorem dR_findKin_85 : decode cR_findKin 85 = .ok (.bipush 24, 2) := by decide +kernel
theorem dR_findKin_87 : decode cR_findKin 87 = .ok (.iload 4, 2) := by decide +kernel
theorem dR_findKin_89 : decode cR_findKin 89 = .ok (.imul, 1) := by decide +kernel
theorem dR_findKin_90 : decode cR_findKin 90 = .ok (.iload_n 2, 1) := by decide +kernel
theorem dR_findKin_91 : decode cR_findKin 91 = .ok (.iadd, 1) := by decide +kernel
theorem dR_findKin_92 : decode cR_findKin 92 = .ok (.lload 5, 2) := by decide +kernel
theorem dR_findKin_94 : decode cR_findKin 94 = .ok (.lastore, 1) := by decide +kernel
theorem dR_findKin_95 : decode cR_findKin 95 = .ok (.iinc 3 1, 3) := by decide +kernel
theorem dR_findKin_98 : decode cR_findKin 98 = .ok (.goto (-75), 3) := by decide +kernel
theorem dR_findKin_101 : decode cR_findKin 101 = .ok (.aload_n 0, 1) := by decide +kernel
theorem dR_findKin_102 : decode cR_findKin 102 = .ok (.getfield 41, 3) := by decide +kernel
theorem dR_findKin_105 : decode cR_findKin 105 = .ok (.bipush 24, 2) := by decide +kernel
theorem dR_findKin_107 : decode cR_findKin 107 = .ok (.iload_n 2, 1) := by decide +kernel
theorem dR_findKin_108 : decode cR_findKin 108 = .ok (.imul, 1) := by decide +kernel
theorem dR_findKin_109 : decode cR_findKin 109 = .ok (.iload_n 2, 1) := by decide +kernel
theorem dR_findKin_110 : decode cR_findKin 110 = .ok (.iadd, 1) := by decide +kernel
theorem dR_findKin_111 : decode cR_findKin 111 = .ok (.ldc2_w 62, 3) := by decide +kernel
theorem dR_findKin_114 : decode cR_findKin 114 = .ok (.aload_n 0, 1) := by decide +kernel
theorem dR_findKin_115 : decode cR_findKin 115 = .ok (.aload_n 0, 1) := by decide +kernel
theorem dR_findKin_116 : decode cR_findKin 116 = .ok (.getfield 7, 3) := by decide +kernel
theorem dR_findKin_119 : decode cR_findKin 119 = .ok (.iload_n 2, 1) := by decide +kernel
theorem dR_findKin_120 : decode cR_findKin 120 = .ok (.iaload, 1) := by decide +kernel
theorem dR_findKin_121 : decode cR_findKin 121 = .ok (.aload_n 0, 1) := by decide +kernel
theorem dR_findKin_122 : decode cR_findKin 122 = .ok (.getfield 13, 3) := by decide +kernel
theorem dR_findKin_125 : decode cR_findKin 125 = .ok (.iload_n 2, 1) := by decide +kernel
theorem dR_findKin_126 : decode cR_findKin 126 = .ok (.iaload, 1) := by decide +kernel
theorem dR_findKin_127 : decode cR_findKin 127 = .ok (.invokevirtual 56, 3) := by decide +kernel
theorem dR_findKin_130 : decode cR_findKin 130 = .ok (.ladd, 1) := by decide +kernel
theorem dR_findKin_131 : decode cR_findKin 131 = .ok (.ldc2_w 60, 3) := by decide +kernel
theorem dR_findKin_134 : decode cR_findKin 134 = .ok (.ldiv, 1) := by decide +kernel
theorem dR_findKin_135 : decode cR_findKin 135 = .ok (.lastore, 1) := by decide +kernel
theorem dR_findKin_136 : decode cR_findKin 136 = .ok (.iinc 1 1, 3) := by decide +kernel
theorem dR_findKin_139 : decode cR_findKin 139 = .ok (.goto (-133), 3) := by decide +kernel
theorem dR_findKin_142 : decode cR_findKin 142 = .ok (.return_, 1) := by decide +kernel
theorem dR_leads_0 : decode cR_leads 0 = .ok (.iload_n 2, 1) := by decide +kernel
theorem dR_leads_1 : decode cR_leads 1 = .ok (.ifCond .lt 26, 3) := by decide +kernel
theorem dR_leads_4 : decode cR_leads 4 = .ok (.iload_n 2, 1) := by decide +kernel
theorem dR_leads_5 : decode cR_leads 5 = .ok (.iload_n 1, 1) := by decide +kernel
theorem dR_leads_6 : decode cR_leads 6 = .ok (.if_icmp .eq 17, 3) := by decide +kernel
theorem dR_leads_9 : decode cR_leads 9 = .ok (.aload_n 0, 1) := by decide +kernel
theorem dR_leads_10 : decode cR_leads 10 = .ok (.getfield 32, 3) := by decide +kernel
theorem dR_leads_13 : decode cR_leads 13 = .ok (.bipush 24, 2) := by decide +kernel
theorem dR_leads_15 : decode cR_leads 15 = .ok (.iload_n 1, 1) := by decide +kernel
theorem dR_leads_16 : decode cR_leads 16 = .ok (.imul, 1) := by decide +kernel
theorem dR_leads_17 : decode cR_leads 17 = .ok (.iload_n 2, 1) := by decide +kernel
theorem dR_leads_18 : decode cR_leads 18 = .ok (.iadd, 1) := by decide +kernel
theorem dR_leads_19 : decode cR_leads 19 = .ok (.baload, 1) := by decide +kernel
theorem dR_leads_20 : decode cR_leads 20 = .ok (.ifCond .eq 7, 3) := by decide +kernel
theorem dR_leads_23 : decode cR_leads 23 = .ok (.iload_n 2, 1) := by decide +kernel
theorem dR_leads_24 : decode cR_leads 24 = .ok (.goto 4, 3) := by decide +kernel
theorem dR_leads_27 : decode cR_leads 27 = .ok (.iconst (-1), 1) := by decide +kernel
theorem dR_leads_28 : decode cR_leads 28 = .ok (.ireturn, 1) := by decide +kernel
theorem dR_tellRing_0 : decode cR_tellRing 0 = .ok (.aload_n 0, 1) := by decide +kernel
theorem dR_tellRing_1 : decode cR_tellRing 1 = .ok (.getfield 29, 3) := by decide +kernel
theorem dR_tellRing_4 : decode cR_tellRing 4 = .ok (.iconst 0, 1) := by decide +kernel
theorem dR_tellRing_5 : decode cR_tellRing 5 = .ok (.iload_n 1, 1) := by decide +kernel
theorem dR_tellRing_6 : decode cR_tellRing 6 = .ok (.iastore, 1) := by decide +kernel
theorem dR_tellRing_7 : decode cR_tellRing 7 = .ok (.aload_n 0, 1) := by decide +kernel
theorem dR_tellRing_8 : decode cR_tellRing 8 = .ok (.iconst 1, 1) := by decide +kernel
theorem dR_tellRing_9 : decode cR_tellRing 9 = .ok (.putfield 64, 3) := by decide +kernel
theorem dR_tellRing_12 : decode cR_tellRing 12 = .ok (.iload_n 2, 1) := by decide +kernel
theorem dR_tellRing_13 : decode cR_tellRing 13 = .ok (.istore_n 3, 1) := by decide +kernel
theorem dR_tellRing_14 : decode cR_tellRing 14 = .ok (.iload_n 3, 1) := by decide +kernel
theorem dR_tellRing_15 : decode cR_tellRing 15 = .ok (.iload_n 1, 1) := by decide +kernel
theorem dR_tellRing_16 : decode cR_tellRing 16 = .ok (.if_icmp .eq 56, 3) := by decide +kernel
theorem dR_tellRing_19 : decode cR_tellRing 19 = .ok (.aload_n 0, 1) := by decide +kernel
theorem dR_tellRing_20 : decode cR_tellRing 20 = .ok (.getfield 29, 3) := by decide +kernel
theorem dR_tellRing_23 : decode cR_tellRing 23 = .ok (.aload_n 0, 1) := by decide +kernel
theorem dR_tellRing_24 : decode cR_tellRing 24 = .ok (.getfield 64, 3) := by decide +kernel
theorem dR_tellRing_27 : decode cR_tellRing 27 = .ok (.iload_n 3, 1) := by decide +kernel
theorem dR_tellRing_28 : decode cR_tellRing 28 = .ok (.iastore, 1) := by decide +kernel
theorem dR_tellRing_29 : decode cR_tellRing 29 = .ok (.aload_n 0, 1) := by decide +kernel
theorem dR_tellRing_30 : decode cR_tellRing 30 = .ok (.dup, 1) := by decide +kernel
theorem dR_tellRing_31 : decode cR_tellRing 31 = .ok (.getfield 64, 3) := by decide +kernel
theorem dR_tellRing_34 : decode cR_tellRing 34 = .ok (.iconst 1, 1) := by decide +kernel
theorem dR_tellRing_35 : decode cR_tellRing 35 = .ok (.iadd, 1) := by decide +kernel
theorem dR_tellRing_36 : decode cR_tellRing 36 = .ok (.putfield 64, 3) := by decide +kernel
theorem dR_tellRing_39 : decode cR_tellRing 39 = .ok (.aload_n 0, 1) := by decide +kernel
theorem dR_tellRing_40 : decode cR_tellRing 40 = .ok (.iload_n 1, 1) := by decide +kernel
theorem dR_tellRing_41 : decode cR_tellRing 41 = .ok (.aload_n 0, 1) := by decide +kernel
theorem dR_tellRing_42 : decode cR_tellRing 42 = .ok (.getfield 7, 3) := by decide +kernel
theorem dR_tellRing_45 : decode cR_tellRing 45 = .ok (.iload_n 3, 1) := by decide +kernel
theorem dR_tellRing_46 : decode cR_tellRing 46 = .ok (.iaload, 1) := by decide +kernel
theorem dR_tellRing_47 : decode cR_tellRing 47 = .ok (.invokevirtual 67, 3) := by decide +kernel
theorem dR_tellRing_50 : decode cR_tellRing 50 = .ok (.istore 4, 2) := by decide +kernel
theorem dR_tellRing_52 : decode cR_tellRing 52 = .ok (.iload 4, 2) := by decide +kernel
theorem dR_tellRing_54 : decode cR_tellRing 54 = .ok (.ifCond .lt 8, 3) := by decide +kernel
theorem dR_tellRing_57 : decode cR_tellRing 57 = .ok (.iload 4, 2) := by decide +kernel
theorem dR_tellRing_59 : decode cR_tellRing 59 = .ok (.goto 9, 3) := by decide +kernel
theorem dR_tellRing_62 : decode cR_tellRing 62 = .ok (.aload_n 0, 1) := by decide +kernel
theorem dR_tellRing_63 : decode cR_tellRing 63 = .ok (.getfield 13, 3) := by decide +kernel
theorem dR_tellRing_66 : decode cR_tellRing 66 = .ok (.iload_n 3, 1) := by decide +kernel
theorem dR_tellRing_67 : decode cR_tellRing 67 = .ok (.iaload, 1) := by decide +kernel
theorem dR_tellRing_68 : decode cR_tellRing 68 = .ok (.istore_n 3, 1) := by decide +kernel
theorem dR_tellRing_69 : decode cR_tellRing 69 = .ok (.goto (-55), 3) := by decide +kernel
theorem dR_tellRing_72 : decode cR_tellRing 72 = .ok (.aload_n 0, 1) := by decide +kernel
theorem dR_tellRing_73 : decode cR_tellRing 73 = .ok (.getfield 29, 3) := by decide +kernel
theorem dR_tellRing_76 : decode cR_tellRing 76 = .ok (.aload_n 0, 1) := by decide +kernel
theorem dR_tellRing_77 : decode cR_tellRing 77 = .ok (.getfield 64, 3) := by decide +kernel
theorem dR_tellRing_80 : decode cR_tellRing 80 = .ok (.iload_n 1, 1) := by decide +kernel
theorem dR_tellRing_81 : decode cR_tellRing 81 = .ok (.iastore, 1) := by decide +kernel
theorem dR_tellRing_82 : decode cR_tellRing 82 = .ok (.aload_n 0, 1) := by decide +kernel
theorem dR_tellRing_83 : decode cR_tellRing 83 = .ok (.dup, 1) := by decide +kernel
theorem dR_tellRing_84 : decode cR_tellRing 84 = .ok (.getfield 64, 3) := by decide +kernel
theorem dR_tellRing_87 : decode cR_tellRing 87 = .ok (.iconst 1, 1) := by decide +kernel
theorem dR_tellRing_88 : decode cR_tellRing 88 = .ok (.iadd, 1) := by decide +kernel
theorem dR_tellRing_89 : decode cR_tellRing 89 = .ok (.putfield 64, 3) := by decide +kernel
theorem dR_tellRing_92 : decode cR_tellRing 92 = .ok (.return_, 1) := by decide +kernel
theorem dR_isOlder_0 : decode cR_isOlder 0 = .ok (.iload_n 1, 1) := by decide +kernel
theorem dR_isOlder_1 : decode cR_isOlder 1 = .ok (.ifCond .lt 36, 3) := by decide +kernel
theorem dR_isOlder_4 : decode cR_isOlder 4 = .ok (.aload_n 0, 1) := by decide +kernel
theorem dR_isOlder_5 : decode cR_isOlder 5 = .ok (.getfield 19, 3) := by decide +kernel
theorem dR_isOlder_8 : decode cR_isOlder 8 = .ok (.iload_n 1, 1) := by decide +kernel
theorem dR_isOlder_9 : decode cR_isOlder 9 = .ok (.iaload, 1) := by decide +kernel
theorem dR_isOlder_10 : decode cR_isOlder 10 = .ok (.ifCond .lt 27, 3) := by decide +kernel
theorem dR_isOlder_13 : decode cR_isOlder 13 = .ok (.aload_n 0, 1) := by decide +kernel
theorem dR_isOlder_14 : decode cR_isOlder 14 = .ok (.getfield 19, 3) := by decide +kernel
theorem dR_isOlder_17 : decode cR_isOlder 17 = .ok (.iload_n 2, 1) := by decide +kernel
theorem dR_isOlder_18 : decode cR_isOlder 18 = .ok (.iaload, 1) := by decide +kernel
theorem dR_isOlder_19 : decode cR_isOlder 19 = .ok (.ifCond .lt 18, 3) := by decide +kernel
theorem dR_isOlder_22 : decode cR_isOlder 22 = .ok (.aload_n 0, 1) := by decide +kernel
theorem dR_isOlder_23 : decode cR_isOlder 23 = .ok (.getfield 19, 3) := by decide +kernel
theorem dR_isOlder_26 : decode cR_isOlder 26 = .ok (.iload_n 1, 1) := by decide +kernel
theorem dR_isOlder_27 : decode cR_isOlder 27 = .ok (.iaload, 1) := by decide +kernel
theorem dR_isOlder_28 : decode cR_isOlder 28 = .ok (.aload_n 0, 1) := by decide +kernel
theorem dR_isOlder_29 : decode cR_isOlder 29 = .ok (.getfield 19, 3) := by decide +kernel
theorem dR_isOlder_32 : decode cR_isOlder 32 = .ok (.iload_n 2, 1) := by decide +kernel
theorem dR_isOlder_33 : decode cR_isOlder 33 = .ok (.iaload, 1) := by decide +kernel
theorem dR_isOlder_34 : decode cR_isOlder 34 = .ok (.if_icmp .ge 7, 3) := by decide +kernel
theorem dR_isOlder_37 : decode cR_isOlder 37 = .ok (.iconst 1, 1) := by decide +kernel
theorem dR_isOlder_38 : decode cR_isOlder 38 = .ok (.goto 4, 3) := by decide +kernel
theorem dR_isOlder_41 : decode cR_isOlder 41 = .ok (.iconst 0, 1) := by decide +kernel
theorem dR_isOlder_42 : decode cR_isOlder 42 = .ok (.ireturn, 1) := by decide +kernel
theorem dR_parents_0 : decode cR_parents 0 = .ok (.aload_n 0, 1) := by decide +kernel
theorem dR_parents_1 : decode cR_parents 1 = .ok (.iconst 0, 1) := by decide +kernel
theorem dR_parents_2 : decode cR_parents 2 = .ok (.putfield 64, 3) := by decide +kernel
theorem dR_parents_5 : decode cR_parents 5 = .ok (.aload_n 0, 1) := by decide +kernel
theorem dR_parents_6 : decode cR_parents 6 = .ok (.iload_n 1, 1) := by decide +kernel
theorem dR_parents_7 : decode cR_parents 7 = .ok (.invokevirtual 49, 3) := by decide +kernel
theorem dR_parents_10 : decode cR_parents 10 = .ok (.ifCond .eq 28, 3) := by decide +kernel
theorem dR_parents_13 : decode cR_parents 13 = .ok (.aload_n 0, 1) := by decide +kernel
theorem dR_parents_14 : decode cR_parents 14 = .ok (.iload_n 2, 1) := by decide +kernel
theorem dR_parents_15 : decode cR_parents 15 = .ok (.invokevirtual 71, 3) := by decide +kernel
theorem dR_parents_18 : decode cR_parents 18 = .ok (.ifCond .eq 20, 3) := by decide +kernel
theorem dR_parents_21 : decode cR_parents 21 = .ok (.aload_n 0, 1) := by decide +kernel
theorem dR_parents_22 : decode cR_parents 22 = .ok (.iload_n 3, 1) := by decide +kernel
theorem dR_parents_23 : decode cR_parents 23 = .ok (.invokevirtual 71, 3) := by decide +kernel
theorem dR_parents_26 : decode cR_parents 26 = .ok (.ifCond .eq 12, 3) := by decide +kernel
theorem dR_parents_29 : decode cR_parents 29 = .ok (.iload_n 2, 1) := by decide +kernel
theorem dR_parents_30 : decode cR_parents 30 = .ok (.iload_n 3, 1) := by decide +kernel
theorem dR_parents_31 : decode cR_parents 31 = .ok (.if_icmp .ne 9, 3) := by decide +kernel
theorem dR_parents_34 : decode cR_parents 34 = .ok (.iload_n 2, 1) := by decide +kernel
theorem dR_parents_35 : decode cR_parents 35 = .ok (.ifCond .lt 5, 3) := by decide +kernel
theorem dR_parents_38 : decode cR_parents 38 = .ok (.iconst 0, 1) := by decide +kernel
theorem dR_parents_39 : decode cR_parents 39 = .ok (.ireturn, 1) := by decide +kernel
theorem dR_parents_40 : decode cR_parents 40 = .ok (.aload_n 0, 1) := by decide +kernel
theorem dR_parents_41 : decode cR_parents 41 = .ok (.invokevirtual 53, 3) := by decide +kernel
theorem dR_parents_44 : decode cR_parents 44 = .ok (.aload_n 0, 1) := by decide +kernel
theorem dR_parents_45 : decode cR_parents 45 = .ok (.iload_n 1, 1) := by decide +kernel
theorem dR_parents_46 : decode cR_parents 46 = .ok (.iload_n 2, 1) := by decide +kernel
theorem dR_parents_47 : decode cR_parents 47 = .ok (.invokevirtual 67, 3) := by decide +kernel
theorem dR_parents_50 : decode cR_parents 50 = .ok (.ifCond .lt 7, 3) := by decide +kernel
theorem dR_parents_53 : decode cR_parents 53 = .ok (.iload_n 2, 1) := by decide +kernel
theorem dR_parents_54 : decode cR_parents 54 = .ok (.goto 9, 3) := by decide +kernel
theorem dR_parents_57 : decode cR_parents 57 = .ok (.aload_n 0, 1) := by decide +kernel
theorem dR_parents_58 : decode cR_parents 58 = .ok (.iload_n 1, 1) := by decide +kernel
theorem dR_parents_59 : decode cR_parents 59 = .ok (.iload_n 3, 1) := by decide +kernel
theorem dR_parents_60 : decode cR_parents 60 = .ok (.invokevirtual 67, 3) := by decide +kernel
theorem dR_parents_63 : decode cR_parents 63 = .ok (.istore 4, 2) := by decide +kernel
theorem dR_parents_65 : decode cR_parents 65 = .ok (.iload 4, 2) := by decide +kernel
theorem dR_parents_67 : decode cR_parents 67 = .ok (.ifCond .lt 12, 3) := by decide +kernel
theorem dR_parents_70 : decode cR_parents 70 = .ok (.aload_n 0, 1) := by decide +kernel
theorem dR_parents_71 : decode cR_parents 71 = .ok (.iload_n 1, 1) := by decide +kernel
theorem dR_parents_72 : decode cR_parents 72 = .ok (.iload 4, 2) := by decide +kernel
theorem dR_parents_74 : decode cR_parents 74 = .ok (.invokevirtual 74, 3) := by decide +kernel
theorem dR_parents_77 : decode cR_parents 77 = .ok (.iconst 0, 1) := by decide +kernel
theorem dR_parents_78 : decode cR_parents 78 = .ok (.ireturn, 1) := by decide +kernel
theorem dR_parents_79 : decode cR_parents 79 = .ok (.iload_n 2, 1) := by decide +kernel
theorem dR_parents_80 : decode cR_parents 80 = .ok (.ifCond .lt 13, 3) := by decide +kernel
theorem dR_parents_83 : decode cR_parents 83 = .ok (.aload_n 0, 1) := by decide +kernel
theorem dR_parents_84 : decode cR_parents 84 = .ok (.getfield 16, 3) := by decide +kernel
theorem dR_parents_87 : decode cR_parents 87 = .ok (.iload_n 2, 1) := by decide +kernel
theorem dR_parents_88 : decode cR_parents 88 = .ok (.iaload, 1) := by decide +kernel
theorem dR_parents_89 : decode cR_parents 89 = .ok (.iconst 2, 1) := by decide +kernel
theorem dR_parents_90 : decode cR_parents 90 = .ok (.if_icmp .eq 35, 3) := by decide +kernel
theorem dR_parents_93 : decode cR_parents 93 = .ok (.iload_n 3, 1) := by decide +kernel
theorem dR_parents_94 : decode cR_parents 94 = .ok (.ifCond .lt 13, 3) := by decide +kernel
theorem dR_parents_97 : decode cR_parents 97 = .ok (.aload_n 0, 1) := by decide +kernel
theorem dR_parents_98 : decode cR_parents 98 = .ok (.getfield 16, 3) := by decide +kernel
theorem dR_parents_101 : decode cR_parents 101 = .ok (.iload_n 3, 1) := by decide +kernel
theorem dR_parents_102 : decode cR_parents 102 = .ok (.iaload, 1) := by decide +kernel
theorem dR_parents_103 : decode cR_parents 103 = .ok (.iconst 1, 1) := by decide +kernel
theorem dR_parents_104 : decode cR_parents 104 = .ok (.if_icmp .eq 21, 3) := by decide +kernel
theorem dR_parents_107 : decode cR_parents 107 = .ok (.aload_n 0, 1) := by decide +kernel
theorem dR_parents_108 : decode cR_parents 108 = .ok (.iload_n 2, 1) := by decide +kernel
