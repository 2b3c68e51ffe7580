theorem dP_reckonSteps_24 : decode cP_reckonSteps 24 = .ok (.iconst 0, 1) := by decide +kernel
theorem dP_reckonSteps_25 : decode cP_reckonSteps 25 = .ok (.istore_n 1, 1) := by decide +kernel
theorem dP_reckonSteps_26 : decode cP_reckonSteps 26 = .ok (.iconst 0, 1) := by decide +kernel
theorem dP_reckonSteps_27 : decode cP_reckonSteps 27 = .ok (.istore_n 3, 1) := by decide +kernel
theorem dP_reckonSteps_28 : decode cP_reckonSteps 28 = .ok (.iload_n 3, 1) := by decide +kernel
theorem dP_reckonSteps_29 : decode cP_reckonSteps 29 = .ok (.aload_n 0, 1) := by decide +kernel
theorem dP_reckonSteps_30 : decode cP_reckonSteps 30 = .ok (.getfield 41, 3) := by decide +kernel
theorem dP_reckonSteps_33 : decode cP_reckonSteps 33 = .ok (.if_icmp .ge 65, 3) := by decide +kernel
theorem dP_reckonSteps_36 : decode cP_reckonSteps 36 = .ok (.aload_n 0, 1) := by decide +kernel
theorem dP_reckonSteps_37 : decode cP_reckonSteps 37 = .ok (.aload_n 0, 1) := by decide +kernel
theorem dP_reckonSteps_38 : decode cP_reckonSteps 38 = .ok (.getfield 9, 3) := by decide +kernel
theorem dP_reckonSteps_41 : decode cP_reckonSteps 41 = .ok (.iload_n 3, 1) := by decide +kernel
theorem dP_reckonSteps_42 : decode cP_reckonSteps 42 = .ok (.iaload, 1) := by decide +kernel
theorem dP_reckonSteps_43 : decode cP_reckonSteps 43 = .ok (.invokevirtual 112, 3) := by decide +kernel
theorem dP_reckonSteps_46 : decode cP_reckonSteps 46 = .ok (.aload_n 0, 1) := by decide +kernel
theorem dP_reckonSteps_47 : decode cP_reckonSteps 47 = .ok (.aload_n 0, 1) := by decide +kernel
theorem dP_reckonSteps_48 : decode cP_reckonSteps 48 = .ok (.getfield 15, 3) := by decide +kernel
theorem dP_reckonSteps_51 : decode cP_reckonSteps 51 = .ok (.iload_n 3, 1) := by decide +kernel
theorem dP_reckonSteps_52 : decode cP_reckonSteps 52 = .ok (.iaload, 1) := by decide +kernel
theorem dP_reckonSteps_53 : decode cP_reckonSteps 53 = .ok (.invokevirtual 112, 3) := by decide +kernel
theorem dP_reckonSteps_56 : decode cP_reckonSteps 56 = .ok (.invokestatic 115, 3) := by decide +kernel
theorem dP_reckonSteps_59 : decode cP_reckonSteps 59 = .ok (.iconst 1, 1) := by decide +kernel
theorem dP_reckonSteps_60 : decode cP_reckonSteps 60 = .ok (.iadd, 1) := by decide +kernel
theorem dP_reckonSteps_61 : decode cP_reckonSteps 61 = .ok (.istore 4, 2) := by decide +kernel
theorem dP_reckonSteps_63 : decode cP_reckonSteps 63 = .ok (.iload_n 1, 1) := by decide +kernel
theorem dP_reckonSteps_64 : decode cP_reckonSteps 64 = .ok (.ifCond .ne 14, 3) := by decide +kernel
theorem dP_reckonSteps_67 : decode cP_reckonSteps 67 = .ok (.iload 4, 2) := by decide +kernel
theorem dP_reckonSteps_69 : decode cP_reckonSteps 69 = .ok (.aload_n 0, 1) := by decide +kernel
theorem dP_reckonSteps_70 : decode cP_reckonSteps 70 = .ok (.getfield 18, 3) := by decide +kernel
theorem dP_reckonSteps_73 : decode cP_reckonSteps 73 = .ok (.iload_n 3, 1) := by decide +kernel
theorem dP_reckonSteps_74 : decode cP_reckonSteps 74 = .ok (.iaload, 1) := by decide +kernel
theorem dP_reckonSteps_75 : decode cP_reckonSteps 75 = .ok (.if_icmp .eq 7, 3) := by decide +kernel
theorem dP_reckonSteps_78 : decode cP_reckonSteps 78 = .ok (.iconst 1, 1) := by decide +kernel
theorem dP_reckonSteps_79 : decode cP_reckonSteps 79 = .ok (.goto 4, 3) := by decide +kernel
theorem dP_reckonSteps_82 : decode cP_reckonSteps 82 = .ok (.iconst 0, 1) := by decide +kernel
theorem dP_reckonSteps_83 : decode cP_reckonSteps 83 = .ok (.istore_n 1, 1) := by decide +kernel
theorem dP_reckonSteps_84 : decode cP_reckonSteps 84 = .ok (.aload_n 0, 1) := by decide +kernel
theorem dP_reckonSteps_85 : decode cP_reckonSteps 85 = .ok (.getfield 18, 3) := by decide +kernel
theorem dP_reckonSteps_88 : decode cP_reckonSteps 88 = .ok (.iload_n 3, 1) := by decide +kernel
theorem dP_reckonSteps_89 : decode cP_reckonSteps 89 = .ok (.iload 4, 2) := by decide +kernel
theorem dP_reckonSteps_91 : decode cP_reckonSteps 91 = .ok (.iastore, 1) := by decide +kernel
theorem dP_reckonSteps_92 : decode cP_reckonSteps 92 = .ok (.iinc 3 1, 3) := by decide +kernel
theorem dP_reckonSteps_95 : decode cP_reckonSteps 95 = .ok (.goto (-67), 3) := by decide +kernel
theorem dP_reckonSteps_98 : decode cP_reckonSteps 98 = .ok (.iinc 2 1, 3) := by decide +kernel
theorem dP_reckonSteps_101 : decode cP_reckonSteps 101 = .ok (.goto (-89), 3) := by decide +kernel
theorem dP_reckonSteps_104 : decode cP_reckonSteps 104 = .ok (.return_, 1) := by decide +kernel
theorem dP_reckon_0 : decode cP_reckon 0 = .ok (.aload_n 0, 1) := by decide +kernel
theorem dP_reckon_1 : decode cP_reckon 1 = .ok (.invokevirtual 99, 3) := by decide +kernel
theorem dP_reckon_4 : decode cP_reckon 4 = .ok (.aload_n 0, 1) := by decide +kernel
theorem dP_reckon_5 : decode cP_reckon 5 = .ok (.invokevirtual 102, 3) := by decide +kernel
theorem dP_reckon_8 : decode cP_reckon 8 = .ok (.iconst 0, 1) := by decide +kernel
theorem dP_reckon_9 : decode cP_reckon 9 = .ok (.istore_n 1, 1) := by decide +kernel
theorem dP_reckon_10 : decode cP_reckon 10 = .ok (.iload_n 1, 1) := by decide +kernel
theorem dP_reckon_11 : decode cP_reckon 11 = .ok (.aload_n 0, 1) := by decide +kernel
theorem dP_reckon_12 : decode cP_reckon 12 = .ok (.getfield 41, 3) := by decide +kernel
theorem dP_reckon_15 : decode cP_reckon 15 = .ok (.if_icmp .ge 23, 3) := by decide +kernel
theorem dP_reckon_18 : decode cP_reckon 18 = .ok (.aload_n 0, 1) := by decide +kernel
theorem dP_reckon_19 : decode cP_reckon 19 = .ok (.aload_n 0, 1) := by decide +kernel
theorem dP_reckon_20 : decode cP_reckon 20 = .ok (.iload_n 1, 1) := by decide +kernel
theorem dP_reckon_21 : decode cP_reckon 21 = .ok (.invokevirtual 79, 3) := by decide +kernel
theorem dP_reckon_24 : decode cP_reckon 24 = .ok (.invokevirtual 105, 3) := by decide +kernel
theorem dP_reckon_27 : decode cP_reckon 27 = .ok (.aload_n 0, 1) := by decide +kernel
theorem dP_reckon_28 : decode cP_reckon 28 = .ok (.iload_n 1, 1) := by decide +kernel
theorem dP_reckon_29 : decode cP_reckon 29 = .ok (.invokevirtual 109, 3) := by decide +kernel
theorem dP_reckon_32 : decode cP_reckon 32 = .ok (.iinc 1 1, 3) := by decide +kernel
theorem dP_reckon_35 : decode cP_reckon 35 = .ok (.goto (-25), 3) := by decide +kernel
theorem dP_reckon_38 : decode cP_reckon 38 = .ok (.return_, 1) := by decide +kernel
theorem dP_setParents_0 : decode cP_setParents 0 = .ok (.aload_n 0, 1) := by decide +kernel
theorem dP_setParents_1 : decode cP_setParents 1 = .ok (.iload_n 1, 1) := by decide +kernel
theorem dP_setParents_2 : decode cP_setParents 2 = .ok (.invokevirtual 53, 3) := by decide +kernel
theorem dP_setParents_5 : decode cP_setParents 5 = .ok (.ifCond .ne 4, 3) := by decide +kernel
theorem dP_setParents_8 : decode cP_setParents 8 = .ok (.return_, 1) := by decide +kernel
theorem dP_setParents_9 : decode cP_setParents 9 = .ok (.aload_n 0, 1) := by decide +kernel
theorem dP_setParents_10 : decode cP_setParents 10 = .ok (.getfield 9, 3) := by decide +kernel
theorem dP_setParents_13 : decode cP_setParents 13 = .ok (.iload_n 1, 1) := by decide +kernel
theorem dP_setParents_14 : decode cP_setParents 14 = .ok (.iload_n 2, 1) := by decide +kernel
theorem dP_setParents_15 : decode cP_setParents 15 = .ok (.iastore, 1) := by decide +kernel
theorem dP_setParents_16 : decode cP_setParents 16 = .ok (.aload_n 0, 1) := by decide +kernel
theorem dP_setParents_17 : decode cP_setParents 17 = .ok (.getfield 15, 3) := by decide +kernel
theorem dP_setParents_20 : decode cP_setParents 20 = .ok (.iload_n 1, 1) := by decide +kernel
theorem dP_setParents_21 : decode cP_setParents 21 = .ok (.iload_n 3, 1) := by decide +kernel
theorem dP_setParents_22 : decode cP_setParents 22 = .ok (.iastore, 1) := by decide +kernel
theorem dP_setParents_23 : decode cP_setParents 23 = .ok (.aload_n 0, 1) := by decide +kernel
theorem dP_setParents_24 : decode cP_setParents 24 = .ok (.invokevirtual 50, 3) := by decide +kernel
theorem dP_setParents_27 : decode cP_setParents 27 = .ok (.return_, 1) := by decide +kernel
theorem dM_has_0 : decode cM_has 0 = .ok (.iload_n 1, 1) := by decide +kernel
theorem dM_has_1 : decode cM_has 1 = .ok (.ifCond .lt 24, 3) := by decide +kernel
theorem dM_has_4 : decode cM_has 4 = .ok (.iload_n 1, 1) := by decide +kernel
theorem dM_has_5 : decode cM_has 5 = .ok (.aload_n 0, 1) := by decide +kernel
theorem dM_has_6 : decode cM_has 6 = .ok (.getfield 15, 3) := by decide +kernel
theorem dM_has_9 : decode cM_has 9 = .ok (.if_icmp .ge 16, 3) := by decide +kernel
theorem dM_has_12 : decode cM_has 12 = .ok (.iload_n 2, 1) := by decide +kernel
theorem dM_has_13 : decode cM_has 13 = .ok (.ifCond .lt 12, 3) := by decide +kernel
theorem dM_has_16 : decode cM_has 16 = .ok (.iload_n 2, 1) := by decide +kernel
theorem dM_has_17 : decode cM_has 17 = .ok (.iconst 4, 1) := by decide +kernel
theorem dM_has_18 : decode cM_has 18 = .ok (.if_icmp .ge 7, 3) := by decide +kernel
theorem dM_has_21 : decode cM_has 21 = .ok (.iconst 1, 1) := by decide +kernel
theorem dM_has_22 : decode cM_has 22 = .ok (.goto 4, 3) := by decide +kernel
theorem dM_has_25 : decode cM_has 25 = .ok (.iconst 0, 1) := by decide +kernel
theorem dM_has_26 : decode cM_has 26 = .ok (.ireturn, 1) := by decide +kernel
theorem dM_formOf_0 : decode cM_formOf 0 = .ok (.aload_n 0, 1) := by decide +kernel
theorem dM_formOf_1 : decode cM_formOf 1 = .ok (.iload_n 1, 1) := by decide +kernel
theorem dM_formOf_2 : decode cM_formOf 2 = .ok (.iload_n 2, 1) := by decide +kernel
theorem dM_formOf_3 : decode cM_formOf 3 = .ok (.invokevirtual 25, 3) := by decide +kernel
theorem dM_formOf_6 : decode cM_formOf 6 = .ok (.ifCond .eq 16, 3) := by decide +kernel
theorem dM_formOf_9 : decode cM_formOf 9 = .ok (.aload_n 0, 1) := by decide +kernel
theorem dM_formOf_10 : decode cM_formOf 10 = .ok (.getfield 11, 3) := by decide +kernel
theorem dM_formOf_13 : decode cM_formOf 13 = .ok (.iload_n 1, 1) := by decide +kernel
theorem dM_formOf_14 : decode cM_formOf 14 = .ok (.iconst 4, 1) := by decide +kernel
theorem dM_formOf_15 : decode cM_formOf 15 = .ok (.imul, 1) := by decide +kernel
theorem dM_formOf_16 : decode cM_formOf 16 = .ok (.iload_n 2, 1) := by decide +kernel
theorem dM_formOf_17 : decode cM_formOf 17 = .ok (.iadd, 1) := by decide +kernel
theorem dM_formOf_18 : decode cM_formOf 18 = .ok (.iaload, 1) := by decide +kernel
theorem dM_formOf_19 : decode cM_formOf 19 = .ok (.goto 4, 3) := by decide +kernel
theorem dM_formOf_22 : decode cM_formOf 22 = .ok (.iconst (-1), 1) := by decide +kernel
theorem dM_formOf_23 : decode cM_formOf 23 = .ok (.ireturn, 1) := by decide +kernel
theorem dM_isKnownOfBoth_0 : decode cM_isKnownOfBoth 0 = .ok (.aload_n 0, 1) := by decide +kernel
theorem dM_isKnownOfBoth_1 : decode cM_isKnownOfBoth 1 = .ok (.iload_n 1, 1) := by decide +kernel
theorem dM_isKnownOfBoth_2 : decode cM_isKnownOfBoth 2 = .ok (.iload_n 3, 1) := by decide +kernel
theorem dM_isKnownOfBoth_3 : decode cM_isKnownOfBoth 3 = .ok (.invokevirtual 46, 3) := by decide +kernel
theorem dM_isKnownOfBoth_6 : decode cM_isKnownOfBoth 6 = .ok (.iconst (-1), 1) := by decide +kernel
theorem dM_isKnownOfBoth_7 : decode cM_isKnownOfBoth 7 = .ok (.if_icmp .eq 17, 3) := by decide +kernel
theorem dM_isKnownOfBoth_10 : decode cM_isKnownOfBoth 10 = .ok (.aload_n 0, 1) := by decide +kernel
theorem dM_isKnownOfBoth_11 : decode cM_isKnownOfBoth 11 = .ok (.iload_n 2, 1) := by decide +kernel
theorem dM_isKnownOfBoth_12 : decode cM_isKnownOfBoth 12 = .ok (.iload_n 3, 1) := by decide +kernel
theorem dM_isKnownOfBoth_13 : decode cM_isKnownOfBoth 13 = .ok (.invokevirtual 46, 3) := by decide +kernel
theorem dM_isKnownOfBoth_16 : decode cM_isKnownOfBoth 16 = .ok (.iconst (-1), 1) := by decide +kernel
theorem dM_isKnownOfBoth_17 : decode cM_isKnownOfBoth 17 = .ok (.if_icmp .eq 7, 3) := by decide +kernel
theorem dM_isKnownOfBoth_20 : decode cM_isKnownOfBoth 20 = .ok (.iconst 1, 1) := by decide +kernel
theorem dM_isKnownOfBoth_21 : decode cM_isKnownOfBoth 21 = .ok (.goto 4, 3) := by decide +kernel
theorem dM_isKnownOfBoth_24 : decode cM_isKnownOfBoth 24 = .ok (.iconst 0, 1) := by decide +kernel
theorem dM_isKnownOfBoth_25 : decode cM_isKnownOfBoth 25 = .ok (.ireturn, 1) := by decide +kernel
theorem dM_difference_0 : decode cM_difference 0 = .ok (.aload_n 0, 1) := by decide +kernel
theorem dM_difference_1 : decode cM_difference 1 = .ok (.iload_n 1, 1) := by decide +kernel
theorem dM_difference_2 : decode cM_difference 2 = .ok (.iload_n 3, 1) := by decide +kernel
theorem dM_difference_3 : decode cM_difference 3 = .ok (.invokevirtual 46, 3) := by decide +kernel
theorem dM_difference_6 : decode cM_difference 6 = .ok (.aload_n 0, 1) := by decide +kernel
theorem dM_difference_7 : decode cM_difference 7 = .ok (.iload_n 2, 1) := by decide +kernel
theorem dM_difference_8 : decode cM_difference 8 = .ok (.iload_n 3, 1) := by decide +kernel
theorem dM_difference_9 : decode cM_difference 9 = .ok (.invokevirtual 46, 3) := by decide +kernel
theorem dM_difference_12 : decode cM_difference 12 = .ok (.isub, 1) := by decide +kernel
theorem dM_difference_13 : decode cM_difference 13 = .ok (.invokestatic 66, 3) := by decide +kernel
theorem dM_difference_16 : decode cM_difference 16 = .ok (.ireturn, 1) := by decide +kernel
theorem dM_knownForms_0 : decode cM_knownForms 0 = .ok (.iconst 0, 1) := by decide +kernel
theorem dM_knownForms_1 : decode cM_knownForms 1 = .ok (.istore_n 2, 1) := by decide +kernel
theorem dM_knownForms_2 : decode cM_knownForms 2 = .ok (.iconst 0, 1) := by decide +kernel
theorem dM_knownForms_3 : decode cM_knownForms 3 = .ok (.istore_n 3, 1) := by decide +kernel
theorem dM_knownForms_4 : decode cM_knownForms 4 = .ok (.iload_n 3, 1) := by decide +kernel
theorem dM_knownForms_5 : decode cM_knownForms 5 = .ok (.aload_n 0, 1) := by decide +kernel
theorem dM_knownForms_6 : decode cM_knownForms 6 = .ok (.getfield 15, 3) := by decide +kernel
theorem dM_knownForms_9 : decode cM_knownForms 9 = .ok (.if_icmp .ge 22, 3) := by decide +kernel
theorem dM_knownForms_12 : decode cM_knownForms 12 = .ok (.aload_n 0, 1) := by decide +kernel
theorem dM_knownForms_13 : decode cM_knownForms 13 = .ok (.iload_n 3, 1) := by decide +kernel
theorem dM_knownForms_14 : decode cM_knownForms 14 = .ok (.iload_n 1, 1) := by decide +kernel
theorem dM_knownForms_15 : decode cM_knownForms 15 = .ok (.invokevirtual 46, 3) := by decide +kernel
theorem dM_knownForms_18 : decode cM_knownForms 18 = .ok (.iconst (-1), 1) := by decide +kernel
theorem dM_knownForms_19 : decode cM_knownForms 19 = .ok (.if_icmp .eq 6, 3) := by decide +kernel
theorem dM_knownForms_22 : decode cM_knownForms 22 = .ok (.iinc 2 1, 3) := by decide +kernel
theorem dM_knownForms_25 : decode cM_knownForms 25 = .ok (.iinc 3 1, 3) := by decide +kernel
theorem dM_knownForms_28 : decode cM_knownForms 28 = .ok (.goto (-24), 3) := by decide +kernel
theorem dM_knownForms_31 : decode cM_knownForms 31 = .ok (.iload_n 2, 1) := by decide +kernel
theorem dM_knownForms_32 : decode cM_knownForms 32 = .ok (.ireturn, 1) := by decide +kernel
theorem dM_lettersB_0 : decode cM_lettersB 0 = .ok (.iconst 0, 1) := by decide +kernel
theorem dM_lettersB_1 : decode cM_lettersB 1 = .ok (.istore_n 2, 1) := by decide +kernel
theorem dM_lettersB_2 : decode cM_lettersB 2 = .ok (.iconst 0, 1) := by decide +kernel
theorem dM_lettersB_3 : decode cM_lettersB 3 = .ok (.istore_n 3, 1) := by decide +kernel
theorem dM_lettersB_4 : decode cM_lettersB 4 = .ok (.iload_n 3, 1) := by decide +kernel
theorem dM_lettersB_5 : decode cM_lettersB 5 = .ok (.aload_n 0, 1) := by decide +kernel
theorem dM_lettersB_6 : decode cM_lettersB 6 = .ok (.getfield 15, 3) := by decide +kernel
theorem dM_lettersB_9 : decode cM_lettersB 9 = .ok (.if_icmp .ge 22, 3) := by decide +kernel
theorem dM_lettersB_12 : decode cM_lettersB 12 = .ok (.iload_n 2, 1) := by decide +kernel
theorem dM_lettersB_13 : decode cM_lettersB 13 = .ok (.iconst 0, 1) := by decide +kernel
theorem dM_lettersB_14 : decode cM_lettersB 14 = .ok (.aload_n 0, 1) := by decide +kernel
theorem dM_lettersB_15 : decode cM_lettersB 15 = .ok (.iload_n 3, 1) := by decide +kernel
theorem dM_lettersB_16 : decode cM_lettersB 16 = .ok (.iload_n 1, 1) := by decide +kernel
theorem dM_lettersB_17 : decode cM_lettersB 17 = .ok (.invokevirtual 46, 3) := by decide +kernel
theorem dM_lettersB_20 : decode cM_lettersB 20 = .ok (.invokestatic 71, 3) := by decide +kernel
theorem dM_lettersB_23 : decode cM_lettersB 23 = .ok (.iadd, 1) := by decide +kernel
theorem dM_lettersB_24 : decode cM_lettersB 24 = .ok (.istore_n 2, 1) := by decide +kernel
theorem dM_lettersB_25 : decode cM_lettersB 25 = .ok (.iinc 3 1, 3) := by decide +kernel
theorem dM_lettersB_28 : decode cM_lettersB 28 = .ok (.goto (-24), 3) := by decide +kernel
theorem dM_lettersB_31 : decode cM_lettersB 31 = .ok (.iload_n 2, 1) := by decide +kernel
theorem dM_lettersB_32 : decode cM_lettersB 32 = .ok (.ireturn, 1) := by decide +kernel
theorem dM_amongChildren_0 : decode cM_amongChildren 0 = .ok (.iload_n 0, 1) := by decide +kernel
theorem dM_amongChildren_1 : decode cM_amongChildren 1 = .ok (.ifCond .ne 10, 3) := by decide +kernel
theorem dM_amongChildren_4 : decode cM_amongChildren 4 = .ok (.iconst 2, 1) := by decide +kernel
theorem dM_amongChildren_5 : decode cM_amongChildren 5 = .ok (.iload_n 1, 1) := by decide +kernel
theorem dM_amongChildren_6 : decode cM_amongChildren 6 = .ok (.isub, 1) := by decide +kernel
theorem dM_amongChildren_7 : decode cM_amongChildren 7 = .ok (.i2l, 1) := by decide +kernel
theorem dM_amongChildren_8 : decode cM_amongChildren 8 = .ok (.lload_n 2, 1) := by decide +kernel
theorem dM_amongChildren_9 : decode cM_amongChildren 9 = .ok (.lmul, 1) := by decide +kernel
theorem dM_amongChildren_10 : decode cM_amongChildren 10 = .ok (.lreturn, 1) := by decide +kernel
theorem dM_amongChildren_11 : decode cM_amongChildren 11 = .ok (.iload_n 0, 1) := by decide +kernel
theorem dM_amongChildren_12 : decode cM_amongChildren 12 = .ok (.iconst 1, 1) := by decide +kernel
theorem dM_amongChildren_13 : decode cM_amongChildren 13 = .ok (.if_icmp .ne 18, 3) := by decide +kernel
theorem dM_amongChildren_16 : decode cM_amongChildren 16 = .ok (.iload_n 1, 1) := by decide +kernel
theorem dM_amongChildren_17 : decode cM_amongChildren 17 = .ok (.i2l, 1) := by decide +kernel
theorem dM_amongChildren_18 : decode cM_amongChildren 18 = .ok (.lload_n 2, 1) := by decide +kernel
theorem dM_amongChildren_19 : decode cM_amongChildren 19 = .ok (.lmul, 1) := by decide +kernel
theorem dM_amongChildren_20 : decode cM_amongChildren 20 = .ok (.iconst 2, 1) := by decide +kernel
theorem dM_amongChildren_21 : decode cM_amongChildren 21 = .ok (.iload_n 1, 1) := by decide +kernel
theorem dM_amongChildren_22 : decode cM_amongChildren 22 = .ok (.isub, 1) := by decide +kernel
theorem dM_amongChildren_23 : decode cM_amongChildren 23 = .ok (.i2l, 1) := by decide +kernel
theorem dM_amongChildren_24 : decode cM_amongChildren 24 = .ok (.lload 4, 2) := by decide +kernel
theorem dM_amongChildren_26 : decode cM_amongChildren 26 = .ok (.lmul, 1) := by decide +kernel
theorem dM_amongChildren_27 : decode cM_amongChildren 27 = .ok (.ladd, 1) := by decide +kernel
theorem dM_amongChildren_28 : decode cM_amongChildren 28 = .ok (.goto 8, 3) := by decide +kernel
theorem dM_amongChildren_31 : decode cM_amongChildren 31 = .ok (.iload_n 1, 1) := by decide +kernel
theorem dM_amongChildren_32 : decode cM_amongChildren 32 = .ok (.i2l, 1) := by decide +kernel
theorem dM_amongChildren_33 : decode cM_amongChildren 33 = .ok (.lload 4, 2) := by decide +kernel
theorem dM_amongChildren_35 : decode cM_amongChildren 35 = .ok (.lmul, 1) := by decide +kernel
theorem dM_amongChildren_36 : decode cM_amongChildren 36 = .ok (.lreturn, 1) := by decide +kernel
theorem dM_amongStrangers_0 : decode cM_amongStrangers 0 = .ok (.iload_n 0, 1) := by decide +kernel
theorem dM_amongStrangers_1 : decode cM_amongStrangers 1 = .ok (.ifCond .ne 7, 3) := by decide +kernel
theorem dM_amongStrangers_4 : decode cM_amongStrangers 4 = .ok (.lload_n 1, 1) := by decide +kernel
theorem dM_amongStrangers_5 : decode cM_amongStrangers 5 = .ok (.lload_n 1, 1) := by decide +kernel
theorem dM_amongStrangers_6 : decode cM_amongStrangers 6 = .ok (.lmul, 1) := by decide +kernel
theorem dM_amongStrangers_7 : decode cM_amongStrangers 7 = .ok (.lreturn, 1) := by decide +kernel
theorem dM_amongStrangers_8 : decode cM_amongStrangers 8 = .ok (.iload_n 0, 1) := by decide +kernel
theorem dM_amongStrangers_9 : decode cM_amongStrangers 9 = .ok (.iconst 1, 1) := by decide +kernel
theorem dM_amongStrangers_10 : decode cM_amongStrangers 10 = .ok (.if_icmp .ne 13, 3) := by decide +kernel
theorem dM_amongStrangers_13 : decode cM_amongStrangers 13 = .ok (.ldc2_w 37, 3) := by decide +kernel
theorem dM_amongStrangers_16 : decode cM_amongStrangers 16 = .ok (.lload_n 1, 1) := by decide +kernel
theorem dM_amongStrangers_17 : decode cM_amongStrangers 17 = .ok (.lmul, 1) := by decide +kernel
theorem dM_amongStrangers_18 : decode cM_amongStrangers 18 = .ok (.lload_n 3, 1) := by decide +kernel
theorem dM_amongStrangers_19 : decode cM_amongStrangers 19 = .ok (.lmul, 1) := by decide +kernel
theorem dM_amongStrangers_20 : decode cM_amongStrangers 20 = .ok (.goto 6, 3) := by decide +kernel
theorem dM_amongStrangers_23 : decode cM_amongStrangers 23 = .ok (.lload_n 3, 1) := by decide +kernel
theorem dM_amongStrangers_24 : decode cM_amongStrangers 24 = .ok (.lload_n 3, 1) := by decide +kernel
theorem dM_amongStrangers_25 : decode cM_amongStrangers 25 = .ok (.lmul, 1) := by decide +kernel
theorem dM_amongStrangers_26 : decode cM_amongStrangers 26 = .ok (.lreturn, 1) := by decide +kernel
theorem dM_isLeftOut_0 : decode cM_isLeftOut 0 = .ok (.iconst 0, 1) := by decide +kernel
theorem dM_isLeftOut_1 : decode cM_isLeftOut 1 = .ok (.istore_n 3, 1) := by decide +kernel
theorem dM_isLeftOut_2 : decode cM_isLeftOut 2 = .ok (.iload_n 3, 1) := by decide +kernel
theorem dM_isLeftOut_3 : decode cM_isLeftOut 3 = .ok (.iconst 4, 1) := by decide +kernel
theorem dM_isLeftOut_4 : decode cM_isLeftOut 4 = .ok (.if_icmp .ge 32, 3) := by decide +kernel
theorem dM_isLeftOut_7 : decode cM_isLeftOut 7 = .ok (.aload_n 0, 1) := by decide +kernel
theorem dM_isLeftOut_8 : decode cM_isLeftOut 8 = .ok (.iload_n 1, 1) := by decide +kernel
theorem dM_isLeftOut_9 : decode cM_isLeftOut 9 = .ok (.iload_n 2, 1) := by decide +kernel
theorem dM_isLeftOut_10 : decode cM_isLeftOut 10 = .ok (.iload_n 3, 1) := by decide +kernel
theorem dM_isLeftOut_11 : decode cM_isLeftOut 11 = .ok (.invokevirtual 29, 3) := by decide +kernel
theorem dM_isLeftOut_14 : decode cM_isLeftOut 14 = .ok (.ifCond .eq 16, 3) := by decide +kernel
theorem dM_isLeftOut_17 : decode cM_isLeftOut 17 = .ok (.aload_n 0, 1) := by decide +kernel
theorem dM_isLeftOut_18 : decode cM_isLeftOut 18 = .ok (.iload_n 1, 1) := by decide +kernel
theorem dM_isLeftOut_19 : decode cM_isLeftOut 19 = .ok (.iload_n 2, 1) := by decide +kernel
theorem dM_isLeftOut_20 : decode cM_isLeftOut 20 = .ok (.iload_n 3, 1) := by decide +kernel
theorem dM_isLeftOut_21 : decode cM_isLeftOut 21 = .ok (.invokevirtual 33, 3) := by decide +kernel
theorem dM_isLeftOut_24 : decode cM_isLeftOut 24 = .ok (.iconst 2, 1) := by decide +kernel
theorem dM_isLeftOut_25 : decode cM_isLeftOut 25 = .ok (.if_icmp .ne 5, 3) := by decide +kernel
theorem dM_isLeftOut_28 : decode cM_isLeftOut 28 = .ok (.iconst 1, 1) := by decide +kernel
theorem dM_isLeftOut_29 : decode cM_isLeftOut 29 = .ok (.ireturn, 1) := by decide +kernel
theorem dM_isLeftOut_30 : decode cM_isLeftOut 30 = .ok (.iinc 3 1, 3) := by decide +kernel
theorem dM_isLeftOut_33 : decode cM_isLeftOut 33 = .ok (.goto (-31), 3) := by decide +kernel
theorem dM_isLeftOut_36 : decode cM_isLeftOut 36 = .ok (.iconst 0, 1) := by decide +kernel
theorem dM_isLeftOut_37 : decode cM_isLeftOut 37 = .ok (.ireturn, 1) := by decide +kernel
theorem dM_oddsOf_0 : decode cM_oddsOf 0 = .ok (.lconst 1, 1) := by decide +kernel
theorem dM_oddsOf_1 : decode cM_oddsOf 1 = .ok (.lstore 4, 2) := by decide +kernel
theorem dM_oddsOf_3 : decode cM_oddsOf 3 = .ok (.lconst 1, 1) := by decide +kernel
theorem dM_oddsOf_4 : decode cM_oddsOf 4 = .ok (.lstore 6, 2) := by decide +kernel
theorem dM_oddsOf_6 : decode cM_oddsOf 6 = .ok (.iconst 0, 1) := by decide +kernel
theorem dM_oddsOf_7 : decode cM_oddsOf 7 = .ok (.istore 8, 2) := by decide +kernel
theorem dM_oddsOf_9 : decode cM_oddsOf 9 = .ok (.iload 8, 2) := by decide +kernel
theorem dM_oddsOf_11 : decode cM_oddsOf 11 = .ok (.iconst 4, 1) := by decide +kernel
theorem dM_oddsOf_12 : decode cM_oddsOf 12 = .ok (.if_icmp .ge 99, 3) := by decide +kernel
theorem dM_oddsOf_15 : decode cM_oddsOf 15 = .ok (.aload_n 0, 1) := by decide +kernel
theorem dM_oddsOf_16 : decode cM_oddsOf 16 = .ok (.iload_n 1, 1) := by decide +kernel
theorem dM_oddsOf_17 : decode cM_oddsOf 17 = .ok (.iload_n 2, 1) := by decide +kernel
theorem dM_oddsOf_18 : decode cM_oddsOf 18 = .ok (.iload 8, 2) := by decide +kernel
theorem dM_oddsOf_20 : decode cM_oddsOf 20 = .ok (.invokevirtual 29, 3) := by decide +kernel
theorem dM_oddsOf_23 : decode cM_oddsOf 23 = .ok (.ifCond .eq 82, 3) := by decide +kernel
theorem dM_oddsOf_26 : decode cM_oddsOf 26 = .ok (.ldc2_w 37, 3) := by decide +kernel
theorem dM_oddsOf_29 : decode cM_oddsOf 29 = .ok (.aload_n 0, 1) := by decide +kernel
theorem dM_oddsOf_30 : decode cM_oddsOf 30 = .ok (.iload 8, 2) := by decide +kernel
theorem dM_oddsOf_32 : decode cM_oddsOf 32 = .ok (.invokevirtual 39, 3) := by decide +kernel
theorem dM_oddsOf_35 : decode cM_oddsOf 35 = .ok (.i2l, 1) := by decide +kernel
theorem dM_oddsOf_36 : decode cM_oddsOf 36 = .ok (.lmul, 1) := by decide +kernel
theorem dM_oddsOf_37 : decode cM_oddsOf 37 = .ok (.lstore 9, 2) := by decide +kernel
theorem dM_oddsOf_39 : decode cM_oddsOf 39 = .ok (.aload_n 0, 1) := by decide +kernel
theorem dM_oddsOf_40 : decode cM_oddsOf 40 = .ok (.iload 8, 2) := by decide +kernel
theorem dM_oddsOf_42 : decode cM_oddsOf 42 = .ok (.invokevirtual 43, 3) := by decide +kernel
theorem dM_oddsOf_45 : decode cM_oddsOf 45 = .ok (.i2l, 1) := by decide +kernel
theorem dM_oddsOf_46 : decode cM_oddsOf 46 = .ok (.lstore 11, 2) := by decide +kernel
theorem dM_oddsOf_48 : decode cM_oddsOf 48 = .ok (.aload_n 0, 1) := by decide +kernel
theorem dM_oddsOf_49 : decode cM_oddsOf 49 = .ok (.iload_n 1, 1) := by decide +kernel
theorem dM_oddsOf_50 : decode cM_oddsOf 50 = .ok (.iload 8, 2) := by decide +kernel
theorem dM_oddsOf_52 : decode cM_oddsOf 52 = .ok (.invokevirtual 46, 3) := by decide +kernel
theorem dM_oddsOf_55 : decode cM_oddsOf 55 = .ok (.istore 13, 2) := by decide +kernel
theorem dM_oddsOf_57 : decode cM_oddsOf 57 = .ok (.lload 4, 2) := by decide +kernel
theorem dM_oddsOf_59 : decode cM_oddsOf 59 = .ok (.iload 13, 2) := by decide +kernel
theorem dM_oddsOf_61 : decode cM_oddsOf 61 = .ok (.aload_n 0, 1) := by decide +kernel
theorem dM_oddsOf_62 : decode cM_oddsOf 62 = .ok (.iload_n 2, 1) := by decide +kernel
theorem dM_oddsOf_63 : decode cM_oddsOf 63 = .ok (.iload 8, 2) := by decide +kernel
theorem dM_oddsOf_65 : decode cM_oddsOf 65 = .ok (.invokevirtual 46, 3) := by decide +kernel
theorem dM_oddsOf_68 : decode cM_oddsOf 68 = .ok (.lload 9, 2) := by decide +kernel
theorem dM_oddsOf_70 : decode cM_oddsOf 70 = .ok (.lload 11, 2) := by decide +kernel
theorem dM_oddsOf_72 : decode cM_oddsOf 72 = .ok (.lsub, 1) := by decide +kernel
theorem dM_oddsOf_73 : decode cM_oddsOf 73 = .ok (.lload 11, 2) := by decide +kernel
theorem dM_oddsOf_75 : decode cM_oddsOf 75 = .ok (.invokestatic 50, 3) := by decide +kernel
theorem dM_oddsOf_78 : decode cM_oddsOf 78 = .ok (.lload 9, 2) := by decide +kernel
theorem dM_oddsOf_80 : decode cM_oddsOf 80 = .ok (.lmul, 1) := by decide +kernel
theorem dM_oddsOf_81 : decode cM_oddsOf 81 = .ok (.lmul, 1) := by decide +kernel
theorem dM_oddsOf_82 : decode cM_oddsOf 82 = .ok (.lstore 4, 2) := by decide +kernel
theorem dM_oddsOf_84 : decode cM_oddsOf 84 = .ok (.lload 6, 2) := by decide +kernel
theorem dM_oddsOf_86 : decode cM_oddsOf 86 = .ok (.iload 13, 2) := by decide +kernel
theorem dM_oddsOf_88 : decode cM_oddsOf 88 = .ok (.lload 9, 2) := by decide +kernel
theorem dM_oddsOf_90 : decode cM_oddsOf 90 = .ok (.lload 11, 2) := by decide +kernel
theorem dM_oddsOf_92 : decode cM_oddsOf 92 = .ok (.lsub, 1) := by decide +kernel
theorem dM_oddsOf_93 : decode cM_oddsOf 93 = .ok (.lload 11, 2) := by decide +kernel
theorem dM_oddsOf_95 : decode cM_oddsOf 95 = .ok (.invokestatic 54, 3) := by decide +kernel
theorem dM_oddsOf_98 : decode cM_oddsOf 98 = .ok (.ldc2_w 37, 3) := by decide +kernel
theorem dM_oddsOf_101 : decode cM_oddsOf 101 = .ok (.lmul, 1) := by decide +kernel
theorem dM_oddsOf_102 : decode cM_oddsOf 102 = .ok (.lmul, 1) := by decide +kernel
theorem dM_oddsOf_103 : decode cM_oddsOf 103 = .ok (.lstore 6, 2) := by decide +kernel
theorem dM_oddsOf_105 : decode cM_oddsOf 105 = .ok (.iinc 8 1, 3) := by decide +kernel
theorem dM_oddsOf_108 : decode cM_oddsOf 108 = .ok (.goto (-99), 3) := by decide +kernel
theorem dM_oddsOf_111 : decode cM_oddsOf 111 = .ok (.lload 4, 2) := by decide +kernel
theorem dM_oddsOf_113 : decode cM_oddsOf 113 = .ok (.lload 6, 2) := by decide +kernel
theorem dM_oddsOf_115 : decode cM_oddsOf 115 = .ok (.iload_n 3, 1) := by decide +kernel
theorem dM_oddsOf_116 : decode cM_oddsOf 116 = .ok (.invokestatic 58, 3) := by decide +kernel
theorem dM_oddsOf_119 : decode cM_oddsOf 119 = .ok (.lreturn, 1) := by decide +kernel
theorem dM_likenessOf_0 : decode cM_likenessOf 0 = .ok (.lconst 0, 1) := by decide +kernel
theorem dM_likenessOf_1 : decode cM_likenessOf 1 = .ok (.lstore 4, 2) := by decide +kernel
theorem dM_likenessOf_3 : decode cM_likenessOf 3 = .ok (.lconst 0, 1) := by decide +kernel
theorem dM_likenessOf_4 : decode cM_likenessOf 4 = .ok (.lstore 6, 2) := by decide +kernel
theorem dM_likenessOf_6 : decode cM_likenessOf 6 = .ok (.iconst 0, 1) := by decide +kernel
theorem dM_likenessOf_7 : decode cM_likenessOf 7 = .ok (.istore 8, 2) := by decide +kernel
theorem dM_likenessOf_9 : decode cM_likenessOf 9 = .ok (.iload 8, 2) := by decide +kernel
theorem dM_likenessOf_11 : decode cM_likenessOf 11 = .ok (.iconst 4, 1) := by decide +kernel
theorem dM_likenessOf_12 : decode cM_likenessOf 12 = .ok (.if_icmp .ge 42, 3) := by decide +kernel
theorem dM_likenessOf_15 : decode cM_likenessOf 15 = .ok (.aload_n 0, 1) := by decide +kernel
theorem dM_likenessOf_16 : decode cM_likenessOf 16 = .ok (.iload_n 1, 1) := by decide +kernel
theorem dM_likenessOf_17 : decode cM_likenessOf 17 = .ok (.iload_n 2, 1) := by decide +kernel
theorem dM_likenessOf_18 : decode cM_likenessOf 18 = .ok (.iload 8, 2) := by decide +kernel
theorem dM_likenessOf_20 : decode cM_likenessOf 20 = .ok (.invokevirtual 29, 3) := by decide +kernel
theorem dM_likenessOf_23 : decode cM_likenessOf 23 = .ok (.ifCond .eq 25, 3) := by decide +kernel
theorem dM_likenessOf_26 : decode cM_likenessOf 26 = .ok (.lload 4, 2) := by decide +kernel
theorem dM_likenessOf_28 : decode cM_likenessOf 28 = .ok (.iconst 2, 1) := by decide +kernel
theorem dM_likenessOf_29 : decode cM_likenessOf 29 = .ok (.aload_n 0, 1) := by decide +kernel
theorem dM_likenessOf_30 : decode cM_likenessOf 30 = .ok (.iload_n 1, 1) := by decide +kernel
theorem dM_likenessOf_31 : decode cM_likenessOf 31 = .ok (.iload_n 2, 1) := by decide +kernel
theorem dM_likenessOf_32 : decode cM_likenessOf 32 = .ok (.iload 8, 2) := by decide +kernel
theorem dM_likenessOf_34 : decode cM_likenessOf 34 = .ok (.invokevirtual 33, 3) := by decide +kernel
theorem dM_likenessOf_37 : decode cM_likenessOf 37 = .ok (.isub, 1) := by decide +kernel
theorem dM_likenessOf_38 : decode cM_likenessOf 38 = .ok (.i2l, 1) := by decide +kernel
theorem dM_likenessOf_39 : decode cM_likenessOf 39 = .ok (.ladd, 1) := by decide +kernel
theorem dM_likenessOf_40 : decode cM_likenessOf 40 = .ok (.lstore 4, 2) := by decide +kernel
theorem dM_likenessOf_42 : decode cM_likenessOf 42 = .ok (.lload 6, 2) := by decide +kernel
theorem dM_likenessOf_44 : decode cM_likenessOf 44 = .ok (.lconst 1, 1) := by decide +kernel
theorem dM_likenessOf_45 : decode cM_likenessOf 45 = .ok (.ladd, 1) := by decide +kernel
theorem dM_likenessOf_46 : decode cM_likenessOf 46 = .ok (.lstore 6, 2) := by decide +kernel
theorem dM_likenessOf_48 : decode cM_likenessOf 48 = .ok (.iinc 8 1, 3) := by decide +kernel
theorem dM_likenessOf_51 : decode cM_likenessOf 51 = .ok (.goto (-42), 3) := by decide +kernel
theorem dM_likenessOf_54 : decode cM_likenessOf 54 = .ok (.lload 6, 2) := by decide +kernel
theorem dM_likenessOf_56 : decode cM_likenessOf 56 = .ok (.lconst 0, 1) := by decide +kernel
theorem dM_likenessOf_57 : decode cM_likenessOf 57 = .ok (.lcmp, 1) := by decide +kernel
theorem dM_likenessOf_58 : decode cM_likenessOf 58 = .ok (.ifCond .ne 9, 3) := by decide +kernel
theorem dM_likenessOf_61 : decode cM_likenessOf 61 = .ok (.ldc2_w 64, 3) := by decide +kernel
theorem dM_likenessOf_64 : decode cM_likenessOf 64 = .ok (.goto 15, 3) := by decide +kernel
theorem dM_likenessOf_67 : decode cM_likenessOf 67 = .ok (.lload 4, 2) := by decide +kernel
theorem dM_likenessOf_69 : decode cM_likenessOf 69 = .ok (.ldc2_w 37, 3) := by decide +kernel
theorem dM_likenessOf_72 : decode cM_likenessOf 72 = .ok (.lload 6, 2) := by decide +kernel
theorem dM_likenessOf_74 : decode cM_likenessOf 74 = .ok (.lmul, 1) := by decide +kernel
theorem dM_likenessOf_75 : decode cM_likenessOf 75 = .ok (.iload_n 3, 1) := by decide +kernel
theorem dM_likenessOf_76 : decode cM_likenessOf 76 = .ok (.invokestatic 58, 3) := by decide +kernel
theorem dM_likenessOf_79 : decode cM_likenessOf 79 = .ok (.lreturn, 1) := by decide +kernel
theorem dM_setForm_0 : decode cM_setForm 0 = .ok (.aload_n 0, 1) := by decide +kernel
theorem dM_setForm_1 : decode cM_setForm 1 = .ok (.iload_n 1, 1) := by decide +kernel
theorem dM_setForm_2 : decode cM_setForm 2 = .ok (.iload_n 2, 1) := by decide +kernel
theorem dM_setForm_3 : decode cM_setForm 3 = .ok (.invokevirtual 25, 3) := by decide +kernel
theorem dM_setForm_6 : decode cM_setForm 6 = .ok (.ifCond .eq 13, 3) := by decide +kernel
theorem dM_setForm_9 : decode cM_setForm 9 = .ok (.iload_n 3, 1) := by decide +kernel
theorem dM_setForm_10 : decode cM_setForm 10 = .ok (.iconst (-1), 1) := by decide +kernel
theorem dM_setForm_11 : decode cM_setForm 11 = .ok (.if_icmp .lt 8, 3) := by decide +kernel
theorem dM_setForm_14 : decode cM_setForm 14 = .ok (.iload_n 3, 1) := by decide +kernel
theorem dM_setForm_15 : decode cM_setForm 15 = .ok (.iconst 2, 1) := by decide +kernel
theorem dM_setForm_16 : decode cM_setForm 16 = .ok (.if_icmp .le 5, 3) := by decide +kernel
theorem dM_setForm_19 : decode cM_setForm 19 = .ok (.iconst 0, 1) := by decide +kernel
theorem dM_setForm_20 : decode cM_setForm 20 = .ok (.ireturn, 1) := by decide +kernel
theorem dM_setForm_21 : decode cM_setForm 21 = .ok (.aload_n 0, 1) := by decide +kernel
theorem dM_setForm_22 : decode cM_setForm 22 = .ok (.getfield 11, 3) := by decide +kernel
theorem dM_setForm_25 : decode cM_setForm 25 = .ok (.iload_n 1, 1) := by decide +kernel
theorem dM_setForm_26 : decode cM_setForm 26 = .ok (.iconst 4, 1) := by decide +kernel
theorem dM_setForm_27 : decode cM_setForm 27 = .ok (.imul, 1) := by decide +kernel
theorem dM_setForm_28 : decode cM_setForm 28 = .ok (.iload_n 2, 1) := by decide +kernel
theorem dM_setForm_29 : decode cM_setForm 29 = .ok (.iadd, 1) := by decide +kernel
theorem dM_setForm_30 : decode cM_setForm 30 = .ok (.iload_n 3, 1) := by decide +kernel
theorem dM_setForm_31 : decode cM_setForm 31 = .ok (.iastore, 1) := by decide +kernel
theorem dM_setForm_32 : decode cM_setForm 32 = .ok (.iconst 1, 1) := by decide +kernel
theorem dM_setForm_33 : decode cM_setForm 33 = .ok (.ireturn, 1) := by decide +kernel
theorem dK_isAnimal_0 : decode cK_isAnimal 0 = .ok (.iload_n 1, 1) := by decide +kernel
theorem dK_isAnimal_1 : decode cK_isAnimal 1 = .ok (.ifCond .lt 15, 3) := by decide +kernel
theorem dK_isAnimal_4 : decode cK_isAnimal 4 = .ok (.iload_n 1, 1) := by decide +kernel
theorem dK_isAnimal_5 : decode cK_isAnimal 5 = .ok (.aload_n 0, 1) := by decide +kernel
theorem dK_isAnimal_6 : decode cK_isAnimal 6 = .ok (.getfield 29, 3) := by decide +kernel
theorem dK_isAnimal_9 : decode cK_isAnimal 9 = .ok (.if_icmp .ge 7, 3) := by decide +kernel
theorem dK_isAnimal_12 : decode cK_isAnimal 12 = .ok (.iconst 1, 1) := by decide +kernel
theorem dK_isAnimal_13 : decode cK_isAnimal 13 = .ok (.goto 4, 3) := by decide +kernel
theorem dK_isAnimal_16 : decode cK_isAnimal 16 = .ok (.iconst 0, 1) := by decide +kernel
theorem dK_isAnimal_17 : decode cK_isAnimal 17 = .ok (.ireturn, 1) := by decide +kernel
theorem dK_isAnimalOrNone_0 : decode cK_isAnimalOrNone 0 = .ok (.iload_n 1, 1) := by decide +kernel
theorem dK_isAnimalOrNone_1 : decode cK_isAnimalOrNone 1 = .ok (.iconst (-1), 1) := by decide +kernel
theorem dK_isAnimalOrNone_2 : decode cK_isAnimalOrNone 2 = .ok (.if_icmp .eq 11, 3) := by decide +kernel
theorem dK_isAnimalOrNone_5 : decode cK_isAnimalOrNone 5 = .ok (.aload_n 0, 1) := by decide +kernel
theorem dK_isAnimalOrNone_6 : decode cK_isAnimalOrNone 6 = .ok (.iload_n 1, 1) := by decide +kernel
theorem dK_isAnimalOrNone_7 : decode cK_isAnimalOrNone 7 = .ok (.invokevirtual 58, 3) := by decide +kernel
theorem dK_isAnimalOrNone_10 : decode cK_isAnimalOrNone 10 = .ok (.ifCond .eq 7, 3) := by decide +kernel
theorem dK_isAnimalOrNone_13 : decode cK_isAnimalOrNone 13 = .ok (.iconst 1, 1) := by decide +kernel
theorem dK_isAnimalOrNone_14 : decode cK_isAnimalOrNone 14 = .ok (.goto 4, 3) := by decide +kernel
theorem dK_isAnimalOrNone_17 : decode cK_isAnimalOrNone 17 = .ok (.iconst 0, 1) := by decide +kernel
theorem dK_isAnimalOrNone_18 : decode cK_isAnimalOrNone 18 = .ok (.ireturn, 1) := by decide +kernel
theorem dK_mayBeParent_0 : decode cK_mayBeParent 0 = .ok (.aload_n 0, 1) := by decide +kernel
theorem dK_mayBeParent_1 : decode cK_mayBeParent 1 = .ok (.iload_n 1, 1) := by decide +kernel
theorem dK_mayBeParent_2 : decode cK_mayBeParent 2 = .ok (.invokevirtual 58, 3) := by decide +kernel
theorem dK_mayBeParent_5 : decode cK_mayBeParent 5 = .ok (.ifCond .eq 11, 3) := by decide +kernel
theorem dK_mayBeParent_8 : decode cK_mayBeParent 8 = .ok (.aload_n 0, 1) := by decide +kernel
theorem dK_mayBeParent_9 : decode cK_mayBeParent 9 = .ok (.iload_n 2, 1) := by decide +kernel
theorem dK_mayBeParent_10 : decode cK_mayBeParent 10 = .ok (.invokevirtual 58, 3) := by decide +kernel
theorem dK_mayBeParent_13 : decode cK_mayBeParent 13 = .ok (.ifCond .ne 5, 3) := by decide +kernel
theorem dK_mayBeParent_16 : decode cK_mayBeParent 16 = .ok (.iconst 1, 1) := by decide +kernel
theorem dK_mayBeParent_17 : decode cK_mayBeParent 17 = .ok (.ireturn, 1) := by decide +kernel
theorem dK_mayBeParent_18 : decode cK_mayBeParent 18 = .ok (.aload_n 0, 1) := by decide +kernel
theorem dK_mayBeParent_19 : decode cK_mayBeParent 19 = .ok (.getfield 9, 3) := by decide +kernel
theorem dK_mayBeParent_22 : decode cK_mayBeParent 22 = .ok (.iload_n 2, 1) := by decide +kernel
theorem dK_mayBeParent_23 : decode cK_mayBeParent 23 = .ok (.iaload, 1) := by decide +kernel
theorem dK_mayBeParent_24 : decode cK_mayBeParent 24 = .ok (.iload_n 3, 1) := by decide +kernel
theorem dK_mayBeParent_25 : decode cK_mayBeParent 25 = .ok (.if_icmp .ne 5, 3) := by decide +kernel
theorem dK_mayBeParent_28 : decode cK_mayBeParent 28 = .ok (.iconst 0, 1) := by decide +kernel
theorem dK_mayBeParent_29 : decode cK_mayBeParent 29 = .ok (.ireturn, 1) := by decide +kernel
theorem dK_mayBeParent_30 : decode cK_mayBeParent 30 = .ok (.aload_n 0, 1) := by decide +kernel
theorem dK_mayBeParent_31 : decode cK_mayBeParent 31 = .ok (.getfield 13, 3) := by decide +kernel
theorem dK_mayBeParent_34 : decode cK_mayBeParent 34 = .ok (.iload_n 2, 1) := by decide +kernel
theorem dK_mayBeParent_35 : decode cK_mayBeParent 35 = .ok (.iaload, 1) := by decide +kernel
theorem dK_mayBeParent_36 : decode cK_mayBeParent 36 = .ok (.iconst (-1), 1) := by decide +kernel
theorem dK_mayBeParent_37 : decode cK_mayBeParent 37 = .ok (.if_icmp .eq 28, 3) := by decide +kernel
theorem dK_mayBeParent_40 : decode cK_mayBeParent 40 = .ok (.aload_n 0, 1) := by decide +kernel
theorem dK_mayBeParent_41 : decode cK_mayBeParent 41 = .ok (.getfield 13, 3) := by decide +kernel
theorem dK_mayBeParent_44 : decode cK_mayBeParent 44 = .ok (.iload_n 1, 1) := by decide +kernel
theorem dK_mayBeParent_45 : decode cK_mayBeParent 45 = .ok (.iaload, 1) := by decide +kernel
theorem dK_mayBeParent_46 : decode cK_mayBeParent 46 = .ok (.iconst (-1), 1) := by decide +kernel
theorem dK_mayBeParent_47 : decode cK_mayBeParent 47 = .ok (.if_icmp .eq 18, 3) := by decide +kernel
theorem dK_mayBeParent_50 : decode cK_mayBeParent 50 = .ok (.aload_n 0, 1) := by decide +kernel
theorem dK_mayBeParent_51 : decode cK_mayBeParent 51 = .ok (.getfield 13, 3) := by decide +kernel
theorem dK_mayBeParent_54 : decode cK_mayBeParent 54 = .ok (.iload_n 2, 1) := by decide +kernel
theorem dK_mayBeParent_55 : decode cK_mayBeParent 55 = .ok (.iaload, 1) := by decide +kernel
theorem dK_mayBeParent_56 : decode cK_mayBeParent 56 = .ok (.aload_n 0, 1) := by decide +kernel
theorem dK_mayBeParent_57 : decode cK_mayBeParent 57 = .ok (.getfield 13, 3) := by decide +kernel
theorem dK_mayBeParent_60 : decode cK_mayBeParent 60 = .ok (.iload_n 1, 1) := by decide +kernel
theorem dK_mayBeParent_61 : decode cK_mayBeParent 61 = .ok (.iaload, 1) := by decide +kernel
theorem dK_mayBeParent_62 : decode cK_mayBeParent 62 = .ok (.if_icmp .ge 7, 3) := by decide +kernel
theorem dK_mayBeParent_65 : decode cK_mayBeParent 65 = .ok (.iconst 1, 1) := by decide +kernel
theorem dK_mayBeParent_66 : decode cK_mayBeParent 66 = .ok (.goto 4, 3) := by decide +kernel
theorem dK_mayBeParent_69 : decode cK_mayBeParent 69 = .ok (.iconst 0, 1) := by decide +kernel
theorem dK_mayBeParent_70 : decode cK_mayBeParent 70 = .ok (.ireturn, 1) := by decide +kernel
theorem dK_mayBeParents_0 : decode cK_mayBeParents 0 = .ok (.aload_n 0, 1) := by decide +kernel
theorem dK_mayBeParents_1 : decode cK_mayBeParents 1 = .ok (.iload_n 1, 1) := by decide +kernel
theorem dK_mayBeParents_2 : decode cK_mayBeParents 2 = .ok (.iload_n 2, 1) := by decide +kernel
theorem dK_mayBeParents_3 : decode cK_mayBeParents 3 = .ok (.iconst 2, 1) := by decide +kernel
theorem dK_mayBeParents_4 : decode cK_mayBeParents 4 = .ok (.invokevirtual 153, 3) := by decide +kernel
theorem dK_mayBeParents_7 : decode cK_mayBeParents 7 = .ok (.ifCond .eq 17, 3) := by decide +kernel
theorem dK_mayBeParents_10 : decode cK_mayBeParents 10 = .ok (.aload_n 0, 1) := by decide +kernel
theorem dK_mayBeParents_11 : decode cK_mayBeParents 11 = .ok (.iload_n 1, 1) := by decide +kernel
theorem dK_mayBeParents_12 : decode cK_mayBeParents 12 = .ok (.iload_n 3, 1) := by decide +kernel
theorem dK_mayBeParents_13 : decode cK_mayBeParents 13 = .ok (.iconst 1, 1) := by decide +kernel
theorem dK_mayBeParents_14 : decode cK_mayBeParents 14 = .ok (.invokevirtual 153, 3) := by decide +kernel
theorem dK_mayBeParents_17 : decode cK_mayBeParents 17 = .ok (.ifCond .eq 7, 3) := by decide +kernel
theorem dK_mayBeParents_20 : decode cK_mayBeParents 20 = .ok (.iconst 1, 1) := by decide +kernel
theorem dK_mayBeParents_21 : decode cK_mayBeParents 21 = .ok (.goto 4, 3) := by decide +kernel
theorem dK_mayBeParents_24 : decode cK_mayBeParents 24 = .ok (.iconst 0, 1) := by decide +kernel
theorem dK_mayBeParents_25 : decode cK_mayBeParents 25 = .ok (.ireturn, 1) := by decide +kernel
theorem dK_areSexesAndDaysRight_0 : decode cK_areSexesAndDaysRight 0 = .ok (.iconst 0, 1) := by decide +kernel
theorem dK_areSexesAndDaysRight_1 : decode cK_areSexesAndDaysRight 1 = .ok (.istore_n 1, 1) := by decide +kernel
theorem dK_areSexesAndDaysRight_2 : decode cK_areSexesAndDaysRight 2 = .ok (.iload_n 1, 1) := by decide +kernel
theorem dK_areSexesAndDaysRight_3 : decode cK_areSexesAndDaysRight 3 = .ok (.aload_n 0, 1) := by decide +kernel
theorem dK_areSexesAndDaysRight_4 : decode cK_areSexesAndDaysRight 4 = .ok (.getfield 29, 3) := by decide +kernel
theorem dK_areSexesAndDaysRight_7 : decode cK_areSexesAndDaysRight 7 = .ok (.if_icmp .ge 35, 3) := by decide +kernel
theorem dK_areSexesAndDaysRight_10 : decode cK_areSexesAndDaysRight 10 = .ok (.aload_n 0, 1) := by decide +kernel
theorem dK_areSexesAndDaysRight_11 : decode cK_areSexesAndDaysRight 11 = .ok (.iload_n 1, 1) := by decide +kernel
theorem dK_areSexesAndDaysRight_12 : decode cK_areSexesAndDaysRight 12 = .ok (.aload_n 0, 1) := by decide +kernel
theorem dK_areSexesAndDaysRight_13 : decode cK_areSexesAndDaysRight 13 = .ok (.getfield 38, 3) := by decide +kernel
theorem dK_areSexesAndDaysRight_16 : decode cK_areSexesAndDaysRight 16 = .ok (.iload_n 1, 1) := by decide +kernel
theorem dK_areSexesAndDaysRight_17 : decode cK_areSexesAndDaysRight 17 = .ok (.invokevirtual 144, 3) := by decide +kernel
theorem dK_areSexesAndDaysRight_20 : decode cK_areSexesAndDaysRight 20 = .ok (.aload_n 0, 1) := by decide +kernel
theorem dK_areSexesAndDaysRight_21 : decode cK_areSexesAndDaysRight 21 = .ok (.getfield 38, 3) := by decide +kernel
theorem dK_areSexesAndDaysRight_24 : decode cK_areSexesAndDaysRight 24 = .ok (.iload_n 1, 1) := by decide +kernel
theorem dK_areSexesAndDaysRight_25 : decode cK_areSexesAndDaysRight 25 = .ok (.invokevirtual 147, 3) := by decide +kernel
theorem dK_areSexesAndDaysRight_28 : decode cK_areSexesAndDaysRight 28 = .ok (.invokevirtual 73, 3) := by decide +kernel
theorem dK_areSexesAndDaysRight_31 : decode cK_areSexesAndDaysRight 31 = .ok (.ifCond .ne 5, 3) := by decide +kernel
theorem dK_areSexesAndDaysRight_34 : decode cK_areSexesAndDaysRight 34 = .ok (.iconst 0, 1) := by decide +kernel
theorem dK_areSexesAndDaysRight_35 : decode cK_areSexesAndDaysRight 35 = .ok (.ireturn, 1) := by decide +kernel
theorem dK_areSexesAndDaysRight_36 : decode cK_areSexesAndDaysRight 36 = .ok (.iinc 1 1, 3) := by decide +kernel
theorem dK_areSexesAndDaysRight_39 : decode cK_areSexesAndDaysRight 39 = .ok (.goto (-37), 3) := by decide +kernel
theorem dK_areSexesAndDaysRight_42 : decode cK_areSexesAndDaysRight 42 = .ok (.iconst 1, 1) := by decide +kernel
theorem dK_areSexesAndDaysRight_43 : decode cK_areSexesAndDaysRight 43 = .ok (.ireturn, 1) := by decide +kernel
theorem dK_isLost_0 : decode cK_isLost 0 = .ok (.aload_n 0, 1) := by decide +kernel
theorem dK_isLost_1 : decode cK_isLost 1 = .ok (.iload_n 1, 1) := by decide +kernel
theorem dK_isLost_2 : decode cK_isLost 2 = .ok (.invokevirtual 58, 3) := by decide +kernel
theorem dK_isLost_5 : decode cK_isLost 5 = .ok (.ifCond .eq 23, 3) := by decide +kernel
theorem dK_isLost_8 : decode cK_isLost 8 = .ok (.aload_n 0, 1) := by decide +kernel
theorem dK_isLost_9 : decode cK_isLost 9 = .ok (.getfield 38, 3) := by decide +kernel
theorem dK_isLost_12 : decode cK_isLost 12 = .ok (.iload_n 1, 1) := by decide +kernel
theorem dK_isLost_13 : decode cK_isLost 13 = .ok (.invokevirtual 112, 3) := by decide +kernel
theorem dK_isLost_16 : decode cK_isLost 16 = .ok (.ifCond .eq 12, 3) := by decide +kernel
theorem dK_isLost_19 : decode cK_isLost 19 = .ok (.aload_n 0, 1) := by decide +kernel
theorem dK_isLost_20 : decode cK_isLost 20 = .ok (.getfield 16, 3) := by decide +kernel
theorem dK_isLost_23 : decode cK_isLost 23 = .ok (.iload_n 1, 1) := by decide +kernel
theorem dK_isLost_24 : decode cK_isLost 24 = .ok (.baload, 1) := by decide +kernel
theorem dK_isLost_25 : decode cK_isLost 25 = .ok (.ifCond .ne 5, 3) := by decide +kernel
theorem dK_isLost_28 : decode cK_isLost 28 = .ok (.iconst 0, 1) := by decide +kernel
theorem dK_isLost_29 : decode cK_isLost 29 = .ok (.ireturn, 1) := by decide +kernel
theorem dK_isLost_30 : decode cK_isLost 30 = .ok (.iconst 0, 1) := by decide +kernel
theorem dK_isLost_31 : decode cK_isLost 31 = .ok (.istore_n 2, 1) := by decide +kernel
theorem dK_isLost_32 : decode cK_isLost 32 = .ok (.iload_n 2, 1) := by decide +kernel
theorem dK_isLost_33 : decode cK_isLost 33 = .ok (.aload_n 0, 1) := by decide +kernel
theorem dK_isLost_34 : decode cK_isLost 34 = .ok (.getfield 29, 3) := by decide +kernel
theorem dK_isLost_37 : decode cK_isLost 37 = .ok (.if_icmp .ge 32, 3) := by decide +kernel
theorem dK_isLost_40 : decode cK_isLost 40 = .ok (.aload_n 0, 1) := by decide +kernel
theorem dK_isLost_41 : decode cK_isLost 41 = .ok (.getfield 16, 3) := by decide +kernel
theorem dK_isLost_44 : decode cK_isLost 44 = .ok (.iload_n 2, 1) := by decide +kernel
theorem dK_isLost_45 : decode cK_isLost 45 = .ok (.baload, 1) := by decide +kernel
theorem dK_isLost_46 : decode cK_isLost 46 = .ok (.ifCond .ne 17, 3) := by decide +kernel
theorem dK_isLost_49 : decode cK_isLost 49 = .ok (.aload_n 0, 1) := by decide +kernel
theorem dK_isLost_50 : decode cK_isLost 50 = .ok (.getfield 38, 3) := by decide +kernel
theorem dK_isLost_53 : decode cK_isLost 53 = .ok (.iload_n 2, 1) := by decide +kernel
theorem dK_isLost_54 : decode cK_isLost 54 = .ok (.iload_n 1, 1) := by decide +kernel
theorem dK_isLost_55 : decode cK_isLost 55 = .ok (.invokevirtual 118, 3) := by decide +kernel
theorem dK_isLost_58 : decode cK_isLost 58 = .ok (.ifCond .eq 5, 3) := by decide +kernel
theorem dK_isLost_61 : decode cK_isLost 61 = .ok (.iconst 0, 1) := by decide +kernel
theorem dK_isLost_62 : decode cK_isLost 62 = .ok (.ireturn, 1) := by decide +kernel
theorem dK_isLost_63 : decode cK_isLost 63 = .ok (.iinc 2 1, 3) := by decide +kernel
theorem dK_isLost_66 : decode cK_isLost 66 = .ok (.goto (-34), 3) := by decide +kernel
theorem dK_isLost_69 : decode cK_isLost 69 = .ok (.iconst 1, 1) := by decide +kernel
theorem dK_isLost_70 : decode cK_isLost 70 = .ok (.ireturn, 1) := by decide +kernel
theorem dK_kinWithLiving_0 : decode cK_kinWithLiving 0 = .ok (.lconst 0, 1) := by decide +kernel
theorem dK_kinWithLiving_1 : decode cK_kinWithLiving 1 = .ok (.lstore_n 2, 1) := by decide +kernel
theorem dK_kinWithLiving_2 : decode cK_kinWithLiving 2 = .ok (.iconst 0, 1) := by decide +kernel
theorem dK_kinWithLiving_3 : decode cK_kinWithLiving 3 = .ok (.istore 4, 2) := by decide +kernel
theorem dK_kinWithLiving_5 : decode cK_kinWithLiving 5 = .ok (.iload 4, 2) := by decide +kernel
theorem dK_kinWithLiving_7 : decode cK_kinWithLiving 7 = .ok (.aload_n 0, 1) := by decide +kernel
theorem dK_kinWithLiving_8 : decode cK_kinWithLiving 8 = .ok (.getfield 29, 3) := by decide +kernel
theorem dK_kinWithLiving_11 : decode cK_kinWithLiving 11 = .ok (.if_icmp .ge 32, 3) := by decide +kernel
theorem dK_kinWithLiving_14 : decode cK_kinWithLiving 14 = .ok (.aload_n 0, 1) := by decide +kernel
theorem dK_kinWithLiving_15 : decode cK_kinWithLiving 15 = .ok (.getfield 16, 3) := by decide +kernel
theorem dK_kinWithLiving_18 : decode cK_kinWithLiving 18 = .ok (.iload 4, 2) := by decide +kernel
theorem dK_kinWithLiving_20 : decode cK_kinWithLiving 20 = .ok (.baload, 1) := by decide +kernel
theorem dK_kinWithLiving_21 : decode cK_kinWithLiving 21 = .ok (.ifCond .ne 16, 3) := by decide +kernel
theorem dK_kinWithLiving_24 : decode cK_kinWithLiving 24 = .ok (.lload_n 2, 1) := by decide +kernel
theorem dK_kinWithLiving_25 : decode cK_kinWithLiving 25 = .ok (.aload_n 0, 1) := by decide +kernel
theorem dK_kinWithLiving_26 : decode cK_kinWithLiving 26 = .ok (.getfield 38, 3) := by decide +kernel
