theorem dR_parents_109 : decode cR_parents 109 = .ok (.iload_n 1, 1) := by decide +kernel
theorem dR_parents_110 : decode cR_parents 110 = .ok (.invokevirtual 78, 3) := by decide +kernel
theorem dR_parents_113 : decode cR_parents 113 = .ok (.ifCond .eq 12, 3) := by decide +kernel
theorem dR_parents_116 : decode cR_parents 116 = .ok (.aload_n 0, 1) := by decide +kernel
theorem dR_parents_117 : decode cR_parents 117 = .ok (.iload_n 3, 1) := by decide +kernel
theorem dR_parents_118 : decode cR_parents 118 = .ok (.iload_n 1, 1) := by decide +kernel
theorem dR_parents_119 : decode cR_parents 119 = .ok (.invokevirtual 78, 3) := by decide +kernel
theorem dR_parents_122 : decode cR_parents 122 = .ok (.ifCond .ne 5, 3) := by decide +kernel
theorem dR_parents_125 : decode cR_parents 125 = .ok (.iconst 0, 1) := by decide +kernel
theorem dR_parents_126 : decode cR_parents 126 = .ok (.ireturn, 1) := by decide +kernel
theorem dR_parents_127 : decode cR_parents 127 = .ok (.aload_n 0, 1) := by decide +kernel
theorem dR_parents_128 : decode cR_parents 128 = .ok (.getfield 7, 3) := by decide +kernel
theorem dR_parents_131 : decode cR_parents 131 = .ok (.iload_n 1, 1) := by decide +kernel
theorem dR_parents_132 : decode cR_parents 132 = .ok (.iload_n 2, 1) := by decide +kernel
theorem dR_parents_133 : decode cR_parents 133 = .ok (.iastore, 1) := by decide +kernel
theorem dR_parents_134 : decode cR_parents 134 = .ok (.aload_n 0, 1) := by decide +kernel
theorem dR_parents_135 : decode cR_parents 135 = .ok (.getfield 13, 3) := by decide +kernel
theorem dR_parents_138 : decode cR_parents 138 = .ok (.iload_n 1, 1) := by decide +kernel
theorem dR_parents_139 : decode cR_parents 139 = .ok (.iload_n 3, 1) := by decide +kernel
theorem dR_parents_140 : decode cR_parents 140 = .ok (.iastore, 1) := by decide +kernel
theorem dR_parents_141 : decode cR_parents 141 = .ok (.iconst 1, 1) := by decide +kernel
theorem dR_parents_142 : decode cR_parents 142 = .ok (.ireturn, 1) := by decide +kernel
theorem dR_ring_0 : decode cR_ring 0 = .ok (.iload_n 1, 1) := by decide +kernel
theorem dR_ring_1 : decode cR_ring 1 = .ok (.ifCond .lt 11, 3) := by decide +kernel
theorem dR_ring_4 : decode cR_ring 4 = .ok (.iload_n 1, 1) := by decide +kernel
theorem dR_ring_5 : decode cR_ring 5 = .ok (.aload_n 0, 1) := by decide +kernel
theorem dR_ring_6 : decode cR_ring 6 = .ok (.getfield 64, 3) := by decide +kernel
theorem dR_ring_9 : decode cR_ring 9 = .ok (.if_icmp .lt 7, 3) := by decide +kernel
theorem dR_ring_12 : decode cR_ring 12 = .ok (.iconst (-1), 1) := by decide +kernel
theorem dR_ring_13 : decode cR_ring 13 = .ok (.goto 9, 3) := by decide +kernel
theorem dR_ring_16 : decode cR_ring 16 = .ok (.aload_n 0, 1) := by decide +kernel
theorem dR_ring_17 : decode cR_ring 17 = .ok (.getfield 29, 3) := by decide +kernel
theorem dR_ring_20 : decode cR_ring 20 = .ok (.iload_n 1, 1) := by decide +kernel
theorem dR_ring_21 : decode cR_ring 21 = .ok (.iaload, 1) := by decide +kernel
theorem dR_ring_22 : decode cR_ring 22 = .ok (.ireturn, 1) := by decide +kernel
theorem dR_told_0 : decode cR_told 0 = .ok (.aload_n 0, 1) := by decide +kernel
theorem dR_told_1 : decode cR_told 1 = .ok (.iload_n 1, 1) := by decide +kernel
theorem dR_told_2 : decode cR_told 2 = .ok (.invokevirtual 49, 3) := by decide +kernel
theorem dR_told_5 : decode cR_told 5 = .ok (.ifCond .eq 23, 3) := by decide +kernel
theorem dR_told_8 : decode cR_told 8 = .ok (.iload_n 2, 1) := by decide +kernel
theorem dR_told_9 : decode cR_told 9 = .ok (.ifCond .lt 19, 3) := by decide +kernel
theorem dR_told_12 : decode cR_told 12 = .ok (.iload_n 2, 1) := by decide +kernel
theorem dR_told_13 : decode cR_told 13 = .ok (.iconst 2, 1) := by decide +kernel
theorem dR_told_14 : decode cR_told 14 = .ok (.if_icmp .gt 14, 3) := by decide +kernel
theorem dR_told_17 : decode cR_told 17 = .ok (.iload_n 3, 1) := by decide +kernel
theorem dR_told_18 : decode cR_told 18 = .ok (.iconst (-1), 1) := by decide +kernel
theorem dR_told_19 : decode cR_told 19 = .ok (.if_icmp .lt 9, 3) := by decide +kernel
theorem dR_told_22 : decode cR_told 22 = .ok (.iload_n 3, 1) := by decide +kernel
theorem dR_told_23 : decode cR_told 23 = .ok (.ldc 82, 2) := by decide +kernel
theorem dR_told_25 : decode cR_told 25 = .ok (.if_icmp .le 5, 3) := by decide +kernel
theorem dR_told_28 : decode cR_told 28 = .ok (.iconst 0, 1) := by decide +kernel
theorem dR_told_29 : decode cR_told 29 = .ok (.ireturn, 1) := by decide +kernel
theorem dR_told_30 : decode cR_told 30 = .ok (.aload_n 0, 1) := by decide +kernel
theorem dR_told_31 : decode cR_told 31 = .ok (.getfield 16, 3) := by decide +kernel
theorem dR_told_34 : decode cR_told 34 = .ok (.iload_n 1, 1) := by decide +kernel
theorem dR_told_35 : decode cR_told 35 = .ok (.iaload, 1) := by decide +kernel
theorem dR_told_36 : decode cR_told 36 = .ok (.istore 4, 2) := by decide +kernel
theorem dR_told_38 : decode cR_told 38 = .ok (.aload_n 0, 1) := by decide +kernel
theorem dR_told_39 : decode cR_told 39 = .ok (.getfield 19, 3) := by decide +kernel
theorem dR_told_42 : decode cR_told 42 = .ok (.iload_n 1, 1) := by decide +kernel
theorem dR_told_43 : decode cR_told 43 = .ok (.iaload, 1) := by decide +kernel
theorem dR_told_44 : decode cR_told 44 = .ok (.istore 5, 2) := by decide +kernel
theorem dR_told_46 : decode cR_told 46 = .ok (.aload_n 0, 1) := by decide +kernel
theorem dR_told_47 : decode cR_told 47 = .ok (.getfield 16, 3) := by decide +kernel
theorem dR_told_50 : decode cR_told 50 = .ok (.iload_n 1, 1) := by decide +kernel
theorem dR_told_51 : decode cR_told 51 = .ok (.iload_n 2, 1) := by decide +kernel
theorem dR_told_52 : decode cR_told 52 = .ok (.iastore, 1) := by decide +kernel
theorem dR_told_53 : decode cR_told 53 = .ok (.aload_n 0, 1) := by decide +kernel
theorem dR_told_54 : decode cR_told 54 = .ok (.getfield 19, 3) := by decide +kernel
theorem dR_told_57 : decode cR_told 57 = .ok (.iload_n 1, 1) := by decide +kernel
theorem dR_told_58 : decode cR_told 58 = .ok (.iload_n 3, 1) := by decide +kernel
theorem dR_told_59 : decode cR_told 59 = .ok (.iastore, 1) := by decide +kernel
theorem dR_told_60 : decode cR_told 60 = .ok (.iconst 1, 1) := by decide +kernel
theorem dR_told_61 : decode cR_told 61 = .ok (.istore 6, 2) := by decide +kernel
theorem dR_told_63 : decode cR_told 63 = .ok (.iconst 0, 1) := by decide +kernel
theorem dR_told_64 : decode cR_told 64 = .ok (.istore 7, 2) := by decide +kernel
theorem dR_told_66 : decode cR_told 66 = .ok (.iload 7, 2) := by decide +kernel
theorem dR_told_68 : decode cR_told 68 = .ok (.aload_n 0, 1) := by decide +kernel
theorem dR_told_69 : decode cR_told 69 = .ok (.getfield 45, 3) := by decide +kernel
theorem dR_told_72 : decode cR_told 72 = .ok (.if_icmp .ge 129, 3) := by decide +kernel
theorem dR_told_75 : decode cR_told 75 = .ok (.aload_n 0, 1) := by decide +kernel
theorem dR_told_76 : decode cR_told 76 = .ok (.getfield 7, 3) := by decide +kernel
theorem dR_told_79 : decode cR_told 79 = .ok (.iload 7, 2) := by decide +kernel
theorem dR_told_81 : decode cR_told 81 = .ok (.iaload, 1) := by decide +kernel
theorem dR_told_82 : decode cR_told 82 = .ok (.ifCond .lt 31, 3) := by decide +kernel
theorem dR_told_85 : decode cR_told 85 = .ok (.iload 6, 2) := by decide +kernel
theorem dR_told_87 : decode cR_told 87 = .ok (.ifCond .eq 23, 3) := by decide +kernel
theorem dR_told_90 : decode cR_told 90 = .ok (.aload_n 0, 1) := by decide +kernel
theorem dR_told_91 : decode cR_told 91 = .ok (.getfield 16, 3) := by decide +kernel
theorem dR_told_94 : decode cR_told 94 = .ok (.aload_n 0, 1) := by decide +kernel
theorem dR_told_95 : decode cR_told 95 = .ok (.getfield 7, 3) := by decide +kernel
theorem dR_told_98 : decode cR_told 98 = .ok (.iload 7, 2) := by decide +kernel
theorem dR_told_100 : decode cR_told 100 = .ok (.iaload, 1) := by decide +kernel
theorem dR_told_101 : decode cR_told 101 = .ok (.iaload, 1) := by decide +kernel
theorem dR_told_102 : decode cR_told 102 = .ok (.iconst 2, 1) := by decide +kernel
theorem dR_told_103 : decode cR_told 103 = .ok (.if_icmp .eq 7, 3) := by decide +kernel
theorem dR_told_106 : decode cR_told 106 = .ok (.iconst 1, 1) := by decide +kernel
theorem dR_told_107 : decode cR_told 107 = .ok (.goto 4, 3) := by decide +kernel
theorem dR_told_110 : decode cR_told 110 = .ok (.iconst 0, 1) := by decide +kernel
theorem dR_told_111 : decode cR_told 111 = .ok (.istore 6, 2) := by decide +kernel
theorem dR_told_113 : decode cR_told 113 = .ok (.aload_n 0, 1) := by decide +kernel
theorem dR_told_114 : decode cR_told 114 = .ok (.getfield 13, 3) := by decide +kernel
theorem dR_told_117 : decode cR_told 117 = .ok (.iload 7, 2) := by decide +kernel
theorem dR_told_119 : decode cR_told 119 = .ok (.iaload, 1) := by decide +kernel
theorem dR_told_120 : decode cR_told 120 = .ok (.ifCond .lt 31, 3) := by decide +kernel
theorem dR_told_123 : decode cR_told 123 = .ok (.iload 6, 2) := by decide +kernel
theorem dR_told_125 : decode cR_told 125 = .ok (.ifCond .eq 23, 3) := by decide +kernel
theorem dR_told_128 : decode cR_told 128 = .ok (.aload_n 0, 1) := by decide +kernel
theorem dR_told_129 : decode cR_told 129 = .ok (.getfield 16, 3) := by decide +kernel
theorem dR_told_132 : decode cR_told 132 = .ok (.aload_n 0, 1) := by decide +kernel
theorem dR_told_133 : decode cR_told 133 = .ok (.getfield 13, 3) := by decide +kernel
theorem dR_told_136 : decode cR_told 136 = .ok (.iload 7, 2) := by decide +kernel
theorem dR_told_138 : decode cR_told 138 = .ok (.iaload, 1) := by decide +kernel
theorem dR_told_139 : decode cR_told 139 = .ok (.iaload, 1) := by decide +kernel
theorem dR_told_140 : decode cR_told 140 = .ok (.iconst 1, 1) := by decide +kernel
theorem dR_told_141 : decode cR_told 141 = .ok (.if_icmp .eq 7, 3) := by decide +kernel
theorem dR_told_144 : decode cR_told 144 = .ok (.iconst 1, 1) := by decide +kernel
theorem dR_told_145 : decode cR_told 145 = .ok (.goto 4, 3) := by decide +kernel
theorem dR_told_148 : decode cR_told 148 = .ok (.iconst 0, 1) := by decide +kernel
theorem dR_told_149 : decode cR_told 149 = .ok (.istore 6, 2) := by decide +kernel
theorem dR_told_151 : decode cR_told 151 = .ok (.iload 6, 2) := by decide +kernel
theorem dR_told_153 : decode cR_told 153 = .ok (.ifCond .eq 39, 3) := by decide +kernel
theorem dR_told_156 : decode cR_told 156 = .ok (.aload_n 0, 1) := by decide +kernel
theorem dR_told_157 : decode cR_told 157 = .ok (.aload_n 0, 1) := by decide +kernel
theorem dR_told_158 : decode cR_told 158 = .ok (.getfield 7, 3) := by decide +kernel
theorem dR_told_161 : decode cR_told 161 = .ok (.iload 7, 2) := by decide +kernel
theorem dR_told_163 : decode cR_told 163 = .ok (.iaload, 1) := by decide +kernel
theorem dR_told_164 : decode cR_told 164 = .ok (.iload 7, 2) := by decide +kernel
theorem dR_told_166 : decode cR_told 166 = .ok (.invokevirtual 78, 3) := by decide +kernel
theorem dR_told_169 : decode cR_told 169 = .ok (.ifCond .eq 23, 3) := by decide +kernel
theorem dR_told_172 : decode cR_told 172 = .ok (.aload_n 0, 1) := by decide +kernel
theorem dR_told_173 : decode cR_told 173 = .ok (.aload_n 0, 1) := by decide +kernel
theorem dR_told_174 : decode cR_told 174 = .ok (.getfield 13, 3) := by decide +kernel
theorem dR_told_177 : decode cR_told 177 = .ok (.iload 7, 2) := by decide +kernel
theorem dR_told_179 : decode cR_told 179 = .ok (.iaload, 1) := by decide +kernel
theorem dR_told_180 : decode cR_told 180 = .ok (.iload 7, 2) := by decide +kernel
theorem dR_told_182 : decode cR_told 182 = .ok (.invokevirtual 78, 3) := by decide +kernel
theorem dR_told_185 : decode cR_told 185 = .ok (.ifCond .eq 7, 3) := by decide +kernel
theorem dR_told_188 : decode cR_told 188 = .ok (.iconst 1, 1) := by decide +kernel
theorem dR_told_189 : decode cR_told 189 = .ok (.goto 4, 3) := by decide +kernel
theorem dR_told_192 : decode cR_told 192 = .ok (.iconst 0, 1) := by decide +kernel
theorem dR_told_193 : decode cR_told 193 = .ok (.istore 6, 2) := by decide +kernel
theorem dR_told_195 : decode cR_told 195 = .ok (.iinc 7 1, 3) := by decide +kernel
theorem dR_told_198 : decode cR_told 198 = .ok (.goto (-132), 3) := by decide +kernel
theorem dR_told_201 : decode cR_told 201 = .ok (.iload 6, 2) := by decide +kernel
theorem dR_told_203 : decode cR_told 203 = .ok (.ifCond .eq 5, 3) := by decide +kernel
theorem dR_told_206 : decode cR_told 206 = .ok (.iconst 1, 1) := by decide +kernel
theorem dR_told_207 : decode cR_told 207 = .ok (.ireturn, 1) := by decide +kernel
theorem dR_told_208 : decode cR_told 208 = .ok (.aload_n 0, 1) := by decide +kernel
theorem dR_told_209 : decode cR_told 209 = .ok (.getfield 16, 3) := by decide +kernel
theorem dR_told_212 : decode cR_told 212 = .ok (.iload_n 1, 1) := by decide +kernel
theorem dR_told_213 : decode cR_told 213 = .ok (.iload 4, 2) := by decide +kernel
theorem dR_told_215 : decode cR_told 215 = .ok (.iastore, 1) := by decide +kernel
theorem dR_told_216 : decode cR_told 216 = .ok (.aload_n 0, 1) := by decide +kernel
theorem dR_told_217 : decode cR_told 217 = .ok (.getfield 19, 3) := by decide +kernel
theorem dR_told_220 : decode cR_told 220 = .ok (.iload_n 1, 1) := by decide +kernel
theorem dR_told_221 : decode cR_told 221 = .ok (.iload 5, 2) := by decide +kernel
theorem dR_told_223 : decode cR_told 223 = .ok (.iastore, 1) := by decide +kernel
theorem dR_told_224 : decode cR_told 224 = .ok (.iconst 0, 1) := by decide +kernel
theorem dR_told_225 : decode cR_told 225 = .ok (.ireturn, 1) := by decide +kernel
theorem dR_lives_0 : decode cR_lives 0 = .ok (.aload_n 0, 1) := by decide +kernel
theorem dR_lives_1 : decode cR_lives 1 = .ok (.iload_n 1, 1) := by decide +kernel
theorem dR_lives_2 : decode cR_lives 2 = .ok (.invokevirtual 49, 3) := by decide +kernel
theorem dR_lives_5 : decode cR_lives 5 = .ok (.ifCond .ne 5, 3) := by decide +kernel
theorem dR_lives_8 : decode cR_lives 8 = .ok (.iconst 0, 1) := by decide +kernel
theorem dR_lives_9 : decode cR_lives 9 = .ok (.ireturn, 1) := by decide +kernel
theorem dR_lives_10 : decode cR_lives 10 = .ok (.aload_n 0, 1) := by decide +kernel
theorem dR_lives_11 : decode cR_lives 11 = .ok (.getfield 22, 3) := by decide +kernel
theorem dR_lives_14 : decode cR_lives 14 = .ok (.iload_n 1, 1) := by decide +kernel
theorem dR_lives_15 : decode cR_lives 15 = .ok (.iload_n 2, 1) := by decide +kernel
theorem dR_lives_16 : decode cR_lives 16 = .ok (.ifCond .ne 7, 3) := by decide +kernel
theorem dR_lives_19 : decode cR_lives 19 = .ok (.iconst 1, 1) := by decide +kernel
theorem dR_lives_20 : decode cR_lives 20 = .ok (.goto 4, 3) := by decide +kernel
theorem dR_lives_23 : decode cR_lives 23 = .ok (.iconst 0, 1) := by decide +kernel
theorem dR_lives_24 : decode cR_lives 24 = .ok (.bastore, 1) := by decide +kernel
theorem dR_lives_25 : decode cR_lives 25 = .ok (.iconst 1, 1) := by decide +kernel
theorem dR_lives_26 : decode cR_lives 26 = .ok (.ireturn, 1) := by decide +kernel
theorem dR_kin_0 : decode cR_kin 0 = .ok (.aload_n 0, 1) := by decide +kernel
theorem dR_kin_1 : decode cR_kin 1 = .ok (.iload_n 1, 1) := by decide +kernel
theorem dR_kin_2 : decode cR_kin 2 = .ok (.invokevirtual 49, 3) := by decide +kernel
theorem dR_kin_5 : decode cR_kin 5 = .ok (.ifCond .eq 18, 3) := by decide +kernel
theorem dR_kin_8 : decode cR_kin 8 = .ok (.aload_n 0, 1) := by decide +kernel
theorem dR_kin_9 : decode cR_kin 9 = .ok (.iload_n 2, 1) := by decide +kernel
theorem dR_kin_10 : decode cR_kin 10 = .ok (.invokevirtual 49, 3) := by decide +kernel
theorem dR_kin_13 : decode cR_kin 13 = .ok (.ifCond .eq 10, 3) := by decide +kernel
theorem dR_kin_16 : decode cR_kin 16 = .ok (.iload_n 3, 1) := by decide +kernel
theorem dR_kin_17 : decode cR_kin 17 = .ok (.invokestatic 83, 3) := by decide +kernel
theorem dR_kin_20 : decode cR_kin 20 = .ok (.ifCond .ne 7, 3) := by decide +kernel
theorem dR_kin_23 : decode cR_kin 23 = .ok (.ldc2_w 86, 3) := by decide +kernel
theorem dR_kin_26 : decode cR_kin 26 = .ok (.lreturn, 1) := by decide +kernel
theorem dR_kin_27 : decode cR_kin 27 = .ok (.aload_n 0, 1) := by decide +kernel
theorem dR_kin_28 : decode cR_kin 28 = .ok (.invokevirtual 88, 3) := by decide +kernel
theorem dR_kin_31 : decode cR_kin 31 = .ok (.aload_n 0, 1) := by decide +kernel
theorem dR_kin_32 : decode cR_kin 32 = .ok (.iload_n 1, 1) := by decide +kernel
theorem dR_kin_33 : decode cR_kin 33 = .ok (.iload_n 2, 1) := by decide +kernel
theorem dR_kin_34 : decode cR_kin 34 = .ok (.invokevirtual 56, 3) := by decide +kernel
theorem dR_kin_37 : decode cR_kin 37 = .ok (.ldc2_w 62, 3) := by decide +kernel
theorem dR_kin_40 : decode cR_kin 40 = .ok (.iload_n 3, 1) := by decide +kernel
theorem dR_kin_41 : decode cR_kin 41 = .ok (.invokestatic 91, 3) := by decide +kernel
theorem dR_kin_44 : decode cR_kin 44 = .ok (.lreturn, 1) := by decide +kernel
theorem dR_inbredOf_0 : decode cR_inbredOf 0 = .ok (.iload_n 1, 1) := by decide +kernel
theorem dR_inbredOf_1 : decode cR_inbredOf 1 = .ok (.ifCond .ge 7, 3) := by decide +kernel
theorem dR_inbredOf_4 : decode cR_inbredOf 4 = .ok (.lconst 0, 1) := by decide +kernel
theorem dR_inbredOf_5 : decode cR_inbredOf 5 = .ok (.goto 19, 3) := by decide +kernel
theorem dR_inbredOf_8 : decode cR_inbredOf 8 = .ok (.aload_n 0, 1) := by decide +kernel
theorem dR_inbredOf_9 : decode cR_inbredOf 9 = .ok (.aload_n 0, 1) := by decide +kernel
theorem dR_inbredOf_10 : decode cR_inbredOf 10 = .ok (.getfield 7, 3) := by decide +kernel
theorem dR_inbredOf_13 : decode cR_inbredOf 13 = .ok (.iload_n 1, 1) := by decide +kernel
theorem dR_inbredOf_14 : decode cR_inbredOf 14 = .ok (.iaload, 1) := by decide +kernel
theorem dR_inbredOf_15 : decode cR_inbredOf 15 = .ok (.aload_n 0, 1) := by decide +kernel
theorem dR_inbredOf_16 : decode cR_inbredOf 16 = .ok (.getfield 13, 3) := by decide +kernel
theorem dR_inbredOf_19 : decode cR_inbredOf 19 = .ok (.iload_n 1, 1) := by decide +kernel
theorem dR_inbredOf_20 : decode cR_inbredOf 20 = .ok (.iaload, 1) := by decide +kernel
theorem dR_inbredOf_21 : decode cR_inbredOf 21 = .ok (.invokevirtual 56, 3) := by decide +kernel
theorem dR_inbredOf_24 : decode cR_inbredOf 24 = .ok (.lreturn, 1) := by decide +kernel
theorem dR_inbred_0 : decode cR_inbred 0 = .ok (.aload_n 0, 1) := by decide +kernel
theorem dR_inbred_1 : decode cR_inbred 1 = .ok (.iload_n 1, 1) := by decide +kernel
theorem dR_inbred_2 : decode cR_inbred 2 = .ok (.invokevirtual 49, 3) := by decide +kernel
theorem dR_inbred_5 : decode cR_inbred 5 = .ok (.ifCond .eq 10, 3) := by decide +kernel
theorem dR_inbred_8 : decode cR_inbred 8 = .ok (.iload_n 2, 1) := by decide +kernel
theorem dR_inbred_9 : decode cR_inbred 9 = .ok (.invokestatic 83, 3) := by decide +kernel
theorem dR_inbred_12 : decode cR_inbred 12 = .ok (.ifCond .ne 7, 3) := by decide +kernel
theorem dR_inbred_15 : decode cR_inbred 15 = .ok (.ldc2_w 86, 3) := by decide +kernel
theorem dR_inbred_18 : decode cR_inbred 18 = .ok (.lreturn, 1) := by decide +kernel
theorem dR_inbred_19 : decode cR_inbred 19 = .ok (.aload_n 0, 1) := by decide +kernel
theorem dR_inbred_20 : decode cR_inbred 20 = .ok (.invokevirtual 88, 3) := by decide +kernel
theorem dR_inbred_23 : decode cR_inbred 23 = .ok (.aload_n 0, 1) := by decide +kernel
theorem dR_inbred_24 : decode cR_inbred 24 = .ok (.iload_n 1, 1) := by decide +kernel
theorem dR_inbred_25 : decode cR_inbred 25 = .ok (.invokevirtual 95, 3) := by decide +kernel
theorem dR_inbred_28 : decode cR_inbred 28 = .ok (.ldc2_w 62, 3) := by decide +kernel
theorem dR_inbred_31 : decode cR_inbred 31 = .ok (.iload_n 2, 1) := by decide +kernel
theorem dR_inbred_32 : decode cR_inbred 32 = .ok (.invokestatic 91, 3) := by decide +kernel
theorem dR_inbred_35 : decode cR_inbred 35 = .ok (.lreturn, 1) := by decide +kernel
theorem dR_chance_0 : decode cR_chance 0 = .ok (.aload_n 0, 1) := by decide +kernel
theorem dR_chance_1 : decode cR_chance 1 = .ok (.iload_n 1, 1) := by decide +kernel
theorem dR_chance_2 : decode cR_chance 2 = .ok (.invokevirtual 49, 3) := by decide +kernel
theorem dR_chance_5 : decode cR_chance 5 = .ok (.ifCond .eq 10, 3) := by decide +kernel
theorem dR_chance_8 : decode cR_chance 8 = .ok (.iload_n 2, 1) := by decide +kernel
theorem dR_chance_9 : decode cR_chance 9 = .ok (.invokestatic 83, 3) := by decide +kernel
theorem dR_chance_12 : decode cR_chance 12 = .ok (.ifCond .ne 7, 3) := by decide +kernel
theorem dR_chance_15 : decode cR_chance 15 = .ok (.ldc2_w 86, 3) := by decide +kernel
theorem dR_chance_18 : decode cR_chance 18 = .ok (.lreturn, 1) := by decide +kernel
theorem dR_chance_19 : decode cR_chance 19 = .ok (.aload_n 0, 1) := by decide +kernel
theorem dR_chance_20 : decode cR_chance 20 = .ok (.invokevirtual 88, 3) := by decide +kernel
theorem dR_chance_23 : decode cR_chance 23 = .ok (.aload_n 0, 1) := by decide +kernel
theorem dR_chance_24 : decode cR_chance 24 = .ok (.getfield 7, 3) := by decide +kernel
theorem dR_chance_27 : decode cR_chance 27 = .ok (.iload_n 1, 1) := by decide +kernel
theorem dR_chance_28 : decode cR_chance 28 = .ok (.iaload, 1) := by decide +kernel
theorem dR_chance_29 : decode cR_chance 29 = .ok (.ifCond .lt 7, 3) := by decide +kernel
theorem dR_chance_32 : decode cR_chance 32 = .ok (.iconst 1, 1) := by decide +kernel
theorem dR_chance_33 : decode cR_chance 33 = .ok (.goto 4, 3) := by decide +kernel
theorem dR_chance_36 : decode cR_chance 36 = .ok (.iconst 0, 1) := by decide +kernel
theorem dR_chance_37 : decode cR_chance 37 = .ok (.aload_n 0, 1) := by decide +kernel
theorem dR_chance_38 : decode cR_chance 38 = .ok (.getfield 13, 3) := by decide +kernel
theorem dR_chance_41 : decode cR_chance 41 = .ok (.iload_n 1, 1) := by decide +kernel
theorem dR_chance_42 : decode cR_chance 42 = .ok (.iaload, 1) := by decide +kernel
theorem dR_chance_43 : decode cR_chance 43 = .ok (.ifCond .lt 7, 3) := by decide +kernel
theorem dR_chance_46 : decode cR_chance 46 = .ok (.iconst 1, 1) := by decide +kernel
theorem dR_chance_47 : decode cR_chance 47 = .ok (.goto 4, 3) := by decide +kernel
theorem dR_chance_50 : decode cR_chance 50 = .ok (.iconst 0, 1) := by decide +kernel
theorem dR_chance_51 : decode cR_chance 51 = .ok (.iadd, 1) := by decide +kernel
theorem dR_chance_52 : decode cR_chance 52 = .ok (.istore_n 3, 1) := by decide +kernel
theorem dR_chance_53 : decode cR_chance 53 = .ok (.aload_n 0, 1) := by decide +kernel
theorem dR_chance_54 : decode cR_chance 54 = .ok (.aload_n 0, 1) := by decide +kernel
theorem dR_chance_55 : decode cR_chance 55 = .ok (.getfield 7, 3) := by decide +kernel
theorem dR_chance_58 : decode cR_chance 58 = .ok (.iload_n 1, 1) := by decide +kernel
theorem dR_chance_59 : decode cR_chance 59 = .ok (.iaload, 1) := by decide +kernel
theorem dR_chance_60 : decode cR_chance 60 = .ok (.invokevirtual 95, 3) := by decide +kernel
theorem dR_chance_63 : decode cR_chance 63 = .ok (.aload_n 0, 1) := by decide +kernel
theorem dR_chance_64 : decode cR_chance 64 = .ok (.aload_n 0, 1) := by decide +kernel
theorem dR_chance_65 : decode cR_chance 65 = .ok (.getfield 13, 3) := by decide +kernel
theorem dR_chance_68 : decode cR_chance 68 = .ok (.iload_n 1, 1) := by decide +kernel
theorem dR_chance_69 : decode cR_chance 69 = .ok (.iaload, 1) := by decide +kernel
theorem dR_chance_70 : decode cR_chance 70 = .ok (.invokevirtual 95, 3) := by decide +kernel
theorem dR_chance_73 : decode cR_chance 73 = .ok (.ladd, 1) := by decide +kernel
theorem dR_chance_74 : decode cR_chance 74 = .ok (.lstore 4, 2) := by decide +kernel
theorem dR_chance_76 : decode cR_chance 76 = .ok (.ldc2_w 62, 3) := by decide +kernel
theorem dR_chance_79 : decode cR_chance 79 = .ok (.iconst 4, 1) := by decide +kernel
theorem dR_chance_80 : decode cR_chance 80 = .ok (.iload_n 3, 1) := by decide +kernel
theorem dR_chance_81 : decode cR_chance 81 = .ok (.isub, 1) := by decide +kernel
theorem dR_chance_82 : decode cR_chance 82 = .ok (.i2l, 1) := by decide +kernel
theorem dR_chance_83 : decode cR_chance 83 = .ok (.lmul, 1) := by decide +kernel
theorem dR_chance_84 : decode cR_chance 84 = .ok (.lload 4, 2) := by decide +kernel
theorem dR_chance_86 : decode cR_chance 86 = .ok (.lsub, 1) := by decide +kernel
theorem dR_chance_87 : decode cR_chance 87 = .ok (.ldc2_w 99, 3) := by decide +kernel
theorem dR_chance_90 : decode cR_chance 90 = .ok (.iload_n 2, 1) := by decide +kernel
theorem dR_chance_91 : decode cR_chance 91 = .ok (.invokestatic 91, 3) := by decide +kernel
theorem dR_chance_94 : decode cR_chance 94 = .ok (.lreturn, 1) := by decide +kernel
theorem dR_isFounder_0 : decode cR_isFounder 0 = .ok (.aload_n 0, 1) := by decide +kernel
theorem dR_isFounder_1 : decode cR_isFounder 1 = .ok (.getfield 7, 3) := by decide +kernel
theorem dR_isFounder_4 : decode cR_isFounder 4 = .ok (.iload_n 1, 1) := by decide +kernel
theorem dR_isFounder_5 : decode cR_isFounder 5 = .ok (.iaload, 1) := by decide +kernel
theorem dR_isFounder_6 : decode cR_isFounder 6 = .ok (.ifCond .ge 16, 3) := by decide +kernel
theorem dR_isFounder_9 : decode cR_isFounder 9 = .ok (.aload_n 0, 1) := by decide +kernel
theorem dR_isFounder_10 : decode cR_isFounder 10 = .ok (.getfield 13, 3) := by decide +kernel
theorem dR_isFounder_13 : decode cR_isFounder 13 = .ok (.iload_n 1, 1) := by decide +kernel
theorem dR_isFounder_14 : decode cR_isFounder 14 = .ok (.iaload, 1) := by decide +kernel
theorem dR_isFounder_15 : decode cR_isFounder 15 = .ok (.ifCond .ge 7, 3) := by decide +kernel
theorem dR_isFounder_18 : decode cR_isFounder 18 = .ok (.iconst 1, 1) := by decide +kernel
theorem dR_isFounder_19 : decode cR_isFounder 19 = .ok (.goto 4, 3) := by decide +kernel
theorem dR_isFounder_22 : decode cR_isFounder 22 = .ok (.iconst 0, 1) := by decide +kernel
theorem dR_isFounder_23 : decode cR_isFounder 23 = .ok (.ireturn, 1) := by decide +kernel
theorem dR_share_0 : decode cR_share 0 = .ok (.aload_n 0, 1) := by decide +kernel
theorem dR_share_1 : decode cR_share 1 = .ok (.iload_n 1, 1) := by decide +kernel
theorem dR_share_2 : decode cR_share 2 = .ok (.invokevirtual 49, 3) := by decide +kernel
theorem dR_share_5 : decode cR_share 5 = .ok (.ifCond .eq 26, 3) := by decide +kernel
theorem dR_share_8 : decode cR_share 8 = .ok (.aload_n 0, 1) := by decide +kernel
theorem dR_share_9 : decode cR_share 9 = .ok (.iload_n 2, 1) := by decide +kernel
theorem dR_share_10 : decode cR_share 10 = .ok (.invokevirtual 49, 3) := by decide +kernel
theorem dR_share_13 : decode cR_share 13 = .ok (.ifCond .eq 18, 3) := by decide +kernel
theorem dR_share_16 : decode cR_share 16 = .ok (.aload_n 0, 1) := by decide +kernel
theorem dR_share_17 : decode cR_share 17 = .ok (.iload_n 2, 1) := by decide +kernel
theorem dR_share_18 : decode cR_share 18 = .ok (.invokevirtual 101, 3) := by decide +kernel
theorem dR_share_21 : decode cR_share 21 = .ok (.ifCond .eq 10, 3) := by decide +kernel
theorem dR_share_24 : decode cR_share 24 = .ok (.iload_n 3, 1) := by decide +kernel
theorem dR_share_25 : decode cR_share 25 = .ok (.invokestatic 83, 3) := by decide +kernel
theorem dR_share_28 : decode cR_share 28 = .ok (.ifCond .ne 7, 3) := by decide +kernel
theorem dR_share_31 : decode cR_share 31 = .ok (.ldc2_w 86, 3) := by decide +kernel
theorem dR_share_34 : decode cR_share 34 = .ok (.lreturn, 1) := by decide +kernel
theorem dR_share_35 : decode cR_share 35 = .ok (.aload_n 0, 1) := by decide +kernel
theorem dR_share_36 : decode cR_share 36 = .ok (.invokevirtual 53, 3) := by decide +kernel
theorem dR_share_39 : decode cR_share 39 = .ok (.aload_n 0, 1) := by decide +kernel
theorem dR_share_40 : decode cR_share 40 = .ok (.getfield 41, 3) := by decide +kernel
theorem dR_share_43 : decode cR_share 43 = .ok (.astore 4, 2) := by decide +kernel
theorem dR_share_45 : decode cR_share 45 = .ok (.iconst 0, 1) := by decide +kernel
theorem dR_share_46 : decode cR_share 46 = .ok (.istore 5, 2) := by decide +kernel
theorem dR_share_48 : decode cR_share 48 = .ok (.iload 5, 2) := by decide +kernel
theorem dR_share_50 : decode cR_share 50 = .ok (.aload_n 0, 1) := by decide +kernel
theorem dR_share_51 : decode cR_share 51 = .ok (.getfield 45, 3) := by decide +kernel
theorem dR_share_54 : decode cR_share 54 = .ok (.if_icmp .ge 92, 3) := by decide +kernel
theorem dR_share_57 : decode cR_share 57 = .ok (.aload_n 0, 1) := by decide +kernel
theorem dR_share_58 : decode cR_share 58 = .ok (.getfield 38, 3) := by decide +kernel
theorem dR_share_61 : decode cR_share 61 = .ok (.iload 5, 2) := by decide +kernel
theorem dR_share_63 : decode cR_share 63 = .ok (.iaload, 1) := by decide +kernel
theorem dR_share_64 : decode cR_share 64 = .ok (.istore 6, 2) := by decide +kernel
theorem dR_share_66 : decode cR_share 66 = .ok (.aload_n 0, 1) := by decide +kernel
theorem dR_share_67 : decode cR_share 67 = .ok (.getfield 7, 3) := by decide +kernel
theorem dR_share_70 : decode cR_share 70 = .ok (.iload 6, 2) := by decide +kernel
theorem dR_share_72 : decode cR_share 72 = .ok (.iaload, 1) := by decide +kernel
theorem dR_share_73 : decode cR_share 73 = .ok (.ifCond .ge 7, 3) := by decide +kernel
theorem dR_share_76 : decode cR_share 76 = .ok (.lconst 0, 1) := by decide +kernel
theorem dR_share_77 : decode cR_share 77 = .ok (.goto 13, 3) := by decide +kernel
theorem dR_share_80 : decode cR_share 80 = .ok (.aload 4, 2) := by decide +kernel
theorem dR_share_82 : decode cR_share 82 = .ok (.aload_n 0, 1) := by decide +kernel
theorem dR_share_83 : decode cR_share 83 = .ok (.getfield 7, 3) := by decide +kernel
theorem dR_share_86 : decode cR_share 86 = .ok (.iload 6, 2) := by decide +kernel
theorem dR_share_88 : decode cR_share 88 = .ok (.iaload, 1) := by decide +kernel
theorem dR_share_89 : decode cR_share 89 = .ok (.laload, 1) := by decide +kernel
theorem dR_share_90 : decode cR_share 90 = .ok (.aload_n 0, 1) := by decide +kernel
theorem dR_share_91 : decode cR_share 91 = .ok (.getfield 13, 3) := by decide +kernel
theorem dR_share_94 : decode cR_share 94 = .ok (.iload 6, 2) := by decide +kernel
theorem dR_share_96 : decode cR_share 96 = .ok (.iaload, 1) := by decide +kernel
theorem dR_share_97 : decode cR_share 97 = .ok (.ifCond .ge 7, 3) := by decide +kernel
theorem dR_share_100 : decode cR_share 100 = .ok (.lconst 0, 1) := by decide +kernel
theorem dR_share_101 : decode cR_share 101 = .ok (.goto 13, 3) := by decide +kernel
theorem dR_share_104 : decode cR_share 104 = .ok (.aload 4, 2) := by decide +kernel
theorem dR_share_106 : decode cR_share 106 = .ok (.aload_n 0, 1) := by decide +kernel
theorem dR_share_107 : decode cR_share 107 = .ok (.getfield 13, 3) := by decide +kernel
theorem dR_share_110 : decode cR_share 110 = .ok (.iload 6, 2) := by decide +kernel
theorem dR_share_112 : decode cR_share 112 = .ok (.iaload, 1) := by decide +kernel
theorem dR_share_113 : decode cR_share 113 = .ok (.laload, 1) := by decide +kernel
theorem dR_share_114 : decode cR_share 114 = .ok (.ladd, 1) := by decide +kernel
theorem dR_share_115 : decode cR_share 115 = .ok (.lstore 7, 2) := by decide +kernel
theorem dR_share_117 : decode cR_share 117 = .ok (.aload 4, 2) := by decide +kernel
theorem dR_share_119 : decode cR_share 119 = .ok (.iload 6, 2) := by decide +kernel
theorem dR_share_121 : decode cR_share 121 = .ok (.iload 6, 2) := by decide +kernel
theorem dR_share_123 : decode cR_share 123 = .ok (.iload_n 2, 1) := by decide +kernel
theorem dR_share_124 : decode cR_share 124 = .ok (.if_icmp .ne 9, 3) := by decide +kernel
theorem dR_share_127 : decode cR_share 127 = .ok (.ldc2_w 62, 3) := by decide +kernel
theorem dR_share_130 : decode cR_share 130 = .ok (.goto 9, 3) := by decide +kernel
theorem dR_share_133 : decode cR_share 133 = .ok (.lload 7, 2) := by decide +kernel
theorem dR_share_135 : decode cR_share 135 = .ok (.ldc2_w 60, 3) := by decide +kernel
theorem dR_share_138 : decode cR_share 138 = .ok (.ldiv, 1) := by decide +kernel
theorem dR_share_139 : decode cR_share 139 = .ok (.lastore, 1) := by decide +kernel
theorem dR_share_140 : decode cR_share 140 = .ok (.iinc 5 1, 3) := by decide +kernel
theorem dR_share_143 : decode cR_share 143 = .ok (.goto (-95), 3) := by decide +kernel
theorem dR_share_146 : decode cR_share 146 = .ok (.aload 4, 2) := by decide +kernel
theorem dR_share_148 : decode cR_share 148 = .ok (.iload_n 1, 1) := by decide +kernel
theorem dR_share_149 : decode cR_share 149 = .ok (.laload, 1) := by decide +kernel
theorem dR_share_150 : decode cR_share 150 = .ok (.ldc2_w 62, 3) := by decide +kernel
theorem dR_share_153 : decode cR_share 153 = .ok (.iload_n 3, 1) := by decide +kernel
theorem dR_share_154 : decode cR_share 154 = .ok (.invokestatic 91, 3) := by decide +kernel
theorem dR_share_157 : decode cR_share 157 = .ok (.lreturn, 1) := by decide +kernel
theorem dR_isForbear_0 : decode cR_isForbear 0 = .ok (.aload_n 0, 1) := by decide +kernel
theorem dR_isForbear_1 : decode cR_isForbear 1 = .ok (.iload_n 1, 1) := by decide +kernel
theorem dR_isForbear_2 : decode cR_isForbear 2 = .ok (.invokevirtual 49, 3) := by decide +kernel
theorem dR_isForbear_5 : decode cR_isForbear 5 = .ok (.ifCond .eq 11, 3) := by decide +kernel
theorem dR_isForbear_8 : decode cR_isForbear 8 = .ok (.aload_n 0, 1) := by decide +kernel
theorem dR_isForbear_9 : decode cR_isForbear 9 = .ok (.iload_n 2, 1) := by decide +kernel
theorem dR_isForbear_10 : decode cR_isForbear 10 = .ok (.invokevirtual 49, 3) := by decide +kernel
theorem dR_isForbear_13 : decode cR_isForbear 13 = .ok (.ifCond .ne 5, 3) := by decide +kernel
theorem dR_isForbear_16 : decode cR_isForbear 16 = .ok (.iconst 0, 1) := by decide +kernel
theorem dR_isForbear_17 : decode cR_isForbear 17 = .ok (.ireturn, 1) := by decide +kernel
theorem dR_isForbear_18 : decode cR_isForbear 18 = .ok (.aload_n 0, 1) := by decide +kernel
theorem dR_isForbear_19 : decode cR_isForbear 19 = .ok (.invokevirtual 53, 3) := by decide +kernel
theorem dR_isForbear_22 : decode cR_isForbear 22 = .ok (.aload_n 0, 1) := by decide +kernel
theorem dR_isForbear_23 : decode cR_isForbear 23 = .ok (.getfield 32, 3) := by decide +kernel
theorem dR_isForbear_26 : decode cR_isForbear 26 = .ok (.bipush 24, 2) := by decide +kernel
theorem dR_isForbear_28 : decode cR_isForbear 28 = .ok (.iload_n 1, 1) := by decide +kernel
theorem dR_isForbear_29 : decode cR_isForbear 29 = .ok (.imul, 1) := by decide +kernel
theorem dR_isForbear_30 : decode cR_isForbear 30 = .ok (.iload_n 2, 1) := by decide +kernel
theorem dR_isForbear_31 : decode cR_isForbear 31 = .ok (.iadd, 1) := by decide +kernel
theorem dR_isForbear_32 : decode cR_isForbear 32 = .ok (.baload, 1) := by decide +kernel
theorem dR_isForbear_33 : decode cR_isForbear 33 = .ok (.ireturn, 1) := by decide +kernel
theorem dR_order_0 : decode cR_order 0 = .ok (.iload_n 1, 1) := by decide +kernel
theorem dR_order_1 : decode cR_order 1 = .ok (.ifCond .lt 11, 3) := by decide +kernel
theorem dR_order_4 : decode cR_order 4 = .ok (.iload_n 1, 1) := by decide +kernel
theorem dR_order_5 : decode cR_order 5 = .ok (.aload_n 0, 1) := by decide +kernel
theorem dR_order_6 : decode cR_order 6 = .ok (.getfield 45, 3) := by decide +kernel
theorem dR_order_9 : decode cR_order 9 = .ok (.if_icmp .lt 5, 3) := by decide +kernel
theorem dR_order_12 : decode cR_order 12 = .ok (.iconst (-1), 1) := by decide +kernel
theorem dR_order_13 : decode cR_order 13 = .ok (.ireturn, 1) := by decide +kernel
theorem dR_order_14 : decode cR_order 14 = .ok (.aload_n 0, 1) := by decide +kernel
theorem dR_order_15 : decode cR_order 15 = .ok (.invokevirtual 53, 3) := by decide +kernel
theorem dR_order_18 : decode cR_order 18 = .ok (.aload_n 0, 1) := by decide +kernel
theorem dR_order_19 : decode cR_order 19 = .ok (.getfield 38, 3) := by decide +kernel
theorem dR_order_22 : decode cR_order 22 = .ok (.iload_n 1, 1) := by decide +kernel
theorem dR_order_23 : decode cR_order 23 = .ok (.iaload, 1) := by decide +kernel
theorem dR_order_24 : decode cR_order 24 = .ok (.ireturn, 1) := by decide +kernel
theorem dR_mark_0 : decode cR_mark 0 = .ok (.aload_n 0, 1) := by decide +kernel
theorem dR_mark_1 : decode cR_mark 1 = .ok (.iload_n 1, 1) := by decide +kernel
theorem dR_mark_2 : decode cR_mark 2 = .ok (.invokevirtual 49, 3) := by decide +kernel
theorem dR_mark_5 : decode cR_mark 5 = .ok (.ifCond .eq 22, 3) := by decide +kernel
theorem dR_mark_8 : decode cR_mark 8 = .ok (.iload_n 2, 1) := by decide +kernel
theorem dR_mark_9 : decode cR_mark 9 = .ok (.ifCond .lt 18, 3) := by decide +kernel
theorem dR_mark_12 : decode cR_mark 12 = .ok (.iload_n 2, 1) := by decide +kernel
theorem dR_mark_13 : decode cR_mark 13 = .ok (.iconst 3, 1) := by decide +kernel
theorem dR_mark_14 : decode cR_mark 14 = .ok (.if_icmp .gt 13, 3) := by decide +kernel
theorem dR_mark_17 : decode cR_mark 17 = .ok (.iload_n 3, 1) := by decide +kernel
theorem dR_mark_18 : decode cR_mark 18 = .ok (.iconst (-1), 1) := by decide +kernel
theorem dR_mark_19 : decode cR_mark 19 = .ok (.if_icmp .lt 8, 3) := by decide +kernel
theorem dR_mark_22 : decode cR_mark 22 = .ok (.iload_n 3, 1) := by decide +kernel
theorem dR_mark_23 : decode cR_mark 23 = .ok (.iconst 2, 1) := by decide +kernel
theorem dR_mark_24 : decode cR_mark 24 = .ok (.if_icmp .le 5, 3) := by decide +kernel
theorem dR_mark_27 : decode cR_mark 27 = .ok (.iconst 0, 1) := by decide +kernel
theorem dR_mark_28 : decode cR_mark 28 = .ok (.ireturn, 1) := by decide +kernel
theorem dR_mark_29 : decode cR_mark 29 = .ok (.aload_n 0, 1) := by decide +kernel
theorem dR_mark_30 : decode cR_mark 30 = .ok (.getfield 26, 3) := by decide +kernel
theorem dR_mark_33 : decode cR_mark 33 = .ok (.iconst 4, 1) := by decide +kernel
theorem dR_mark_34 : decode cR_mark 34 = .ok (.iload_n 1, 1) := by decide +kernel
theorem dR_mark_35 : decode cR_mark 35 = .ok (.imul, 1) := by decide +kernel
theorem dR_mark_36 : decode cR_mark 36 = .ok (.iload_n 2, 1) := by decide +kernel
theorem dR_mark_37 : decode cR_mark 37 = .ok (.iadd, 1) := by decide +kernel
theorem dR_mark_38 : decode cR_mark 38 = .ok (.iload_n 3, 1) := by decide +kernel
theorem dR_mark_39 : decode cR_mark 39 = .ok (.iastore, 1) := by decide +kernel
theorem dR_mark_40 : decode cR_mark 40 = .ok (.iconst 1, 1) := by decide +kernel
theorem dR_mark_41 : decode cR_mark 41 = .ok (.ireturn, 1) := by decide +kernel
theorem dR_isLeftOut_0 : decode cR_isLeftOut 0 = .ok (.iconst 0, 1) := by decide +kernel
theorem dR_isLeftOut_1 : decode cR_isLeftOut 1 = .ok (.istore_n 3, 1) := by decide +kernel
theorem dR_isLeftOut_2 : decode cR_isLeftOut 2 = .ok (.iload_n 3, 1) := by decide +kernel
theorem dR_isLeftOut_3 : decode cR_isLeftOut 3 = .ok (.iconst 4, 1) := by decide +kernel
theorem dR_isLeftOut_4 : decode cR_isLeftOut 4 = .ok (.if_icmp .ge 57, 3) := by decide +kernel
theorem dR_isLeftOut_7 : decode cR_isLeftOut 7 = .ok (.aload_n 0, 1) := by decide +kernel
theorem dR_isLeftOut_8 : decode cR_isLeftOut 8 = .ok (.getfield 26, 3) := by decide +kernel
theorem dR_isLeftOut_11 : decode cR_isLeftOut 11 = .ok (.iconst 4, 1) := by decide +kernel
theorem dR_isLeftOut_12 : decode cR_isLeftOut 12 = .ok (.iload_n 1, 1) := by decide +kernel
theorem dR_isLeftOut_13 : decode cR_isLeftOut 13 = .ok (.imul, 1) := by decide +kernel
theorem dR_isLeftOut_14 : decode cR_isLeftOut 14 = .ok (.iload_n 3, 1) := by decide +kernel
theorem dR_isLeftOut_15 : decode cR_isLeftOut 15 = .ok (.iadd, 1) := by decide +kernel
theorem dR_isLeftOut_16 : decode cR_isLeftOut 16 = .ok (.iaload, 1) := by decide +kernel
theorem dR_isLeftOut_17 : decode cR_isLeftOut 17 = .ok (.istore 4, 2) := by decide +kernel
theorem dR_isLeftOut_19 : decode cR_isLeftOut 19 = .ok (.aload_n 0, 1) := by decide +kernel
theorem dR_isLeftOut_20 : decode cR_isLeftOut 20 = .ok (.getfield 26, 3) := by decide +kernel
theorem dR_isLeftOut_23 : decode cR_isLeftOut 23 = .ok (.iconst 4, 1) := by decide +kernel
theorem dR_isLeftOut_24 : decode cR_isLeftOut 24 = .ok (.iload_n 2, 1) := by decide +kernel
theorem dR_isLeftOut_25 : decode cR_isLeftOut 25 = .ok (.imul, 1) := by decide +kernel
theorem dR_isLeftOut_26 : decode cR_isLeftOut 26 = .ok (.iload_n 3, 1) := by decide +kernel
theorem dR_isLeftOut_27 : decode cR_isLeftOut 27 = .ok (.iadd, 1) := by decide +kernel
theorem dR_isLeftOut_28 : decode cR_isLeftOut 28 = .ok (.iaload, 1) := by decide +kernel
theorem dR_isLeftOut_29 : decode cR_isLeftOut 29 = .ok (.istore 5, 2) := by decide +kernel
theorem dR_isLeftOut_31 : decode cR_isLeftOut 31 = .ok (.iload 4, 2) := by decide +kernel
theorem dR_isLeftOut_33 : decode cR_isLeftOut 33 = .ok (.ifCond .ne 9, 3) := by decide +kernel
theorem dR_isLeftOut_36 : decode cR_isLeftOut 36 = .ok (.iload 5, 2) := by decide +kernel
theorem dR_isLeftOut_38 : decode cR_isLeftOut 38 = .ok (.iconst 2, 1) := by decide +kernel
theorem dR_isLeftOut_39 : decode cR_isLeftOut 39 = .ok (.if_icmp .eq 14, 3) := by decide +kernel
theorem dR_isLeftOut_42 : decode cR_isLeftOut 42 = .ok (.iload 4, 2) := by decide +kernel
theorem dR_isLeftOut_44 : decode cR_isLeftOut 44 = .ok (.iconst 2, 1) := by decide +kernel
theorem dR_isLeftOut_45 : decode cR_isLeftOut 45 = .ok (.if_icmp .ne 10, 3) := by decide +kernel
theorem dR_isLeftOut_48 : decode cR_isLeftOut 48 = .ok (.iload 5, 2) := by decide +kernel
theorem dR_isLeftOut_50 : decode cR_isLeftOut 50 = .ok (.ifCond .ne 5, 3) := by decide +kernel
theorem dR_isLeftOut_53 : decode cR_isLeftOut 53 = .ok (.iconst 1, 1) := by decide +kernel
