theorem dA_fill_0 : decode cA_fill 0 = .ok (.iconst 0, 1) := by decide +kernel
theorem dA_fill_1 : decode cA_fill 1 = .ok (.istore_n 2, 1) := by decide +kernel
theorem dA_fill_2 : decode cA_fill 2 = .ok (.aload_n 0, 1) := by decide +kernel
theorem dA_fill_3 : decode cA_fill 3 = .ok (.arraylength, 1) := by decide +kernel
theorem dA_fill_4 : decode cA_fill 4 = .ok (.istore_n 3, 1) := by decide +kernel
theorem dA_fill_5 : decode cA_fill 5 = .ok (.iload_n 2, 1) := by decide +kernel
theorem dA_fill_6 : decode cA_fill 6 = .ok (.iload_n 3, 1) := by decide +kernel
theorem dA_fill_7 : decode cA_fill 7 = .ok (.if_icmp .ge 13, 3) := by decide +kernel
theorem dA_fill_10 : decode cA_fill 10 = .ok (.aload_n 0, 1) := by decide +kernel
theorem dA_fill_11 : decode cA_fill 11 = .ok (.iload_n 2, 1) := by decide +kernel
theorem dA_fill_12 : decode cA_fill 12 = .ok (.iload_n 1, 1) := by decide +kernel
theorem dA_fill_13 : decode cA_fill 13 = .ok (.iastore, 1) := by decide +kernel
theorem dA_fill_14 : decode cA_fill 14 = .ok (.iinc 2 1, 3) := by decide +kernel
theorem dA_fill_17 : decode cA_fill 17 = .ok (.goto (-12), 3) := by decide +kernel
theorem dA_fill_20 : decode cA_fill 20 = .ok (.return_, 1) := by decide +kernel
theorem dF_isPart_0 : decode cF_isPart 0 = .ok (.iload_n 0, 1) := by decide +kernel
theorem dF_isPart_1 : decode cF_isPart 1 = .ok (.ifCond .eq 8, 3) := by decide +kernel
theorem dF_isPart_4 : decode cF_isPart 4 = .ok (.iload_n 0, 1) := by decide +kernel
theorem dF_isPart_5 : decode cF_isPart 5 = .ok (.iconst 1, 1) := by decide +kernel
theorem dF_isPart_6 : decode cF_isPart 6 = .ok (.if_icmp .ne 7, 3) := by decide +kernel
theorem dF_isPart_9 : decode cF_isPart 9 = .ok (.iconst 1, 1) := by decide +kernel
theorem dF_isPart_10 : decode cF_isPart 10 = .ok (.goto 4, 3) := by decide +kernel
theorem dF_isPart_13 : decode cF_isPart 13 = .ok (.iconst 0, 1) := by decide +kernel
theorem dF_isPart_14 : decode cF_isPart 14 = .ok (.ireturn, 1) := by decide +kernel
theorem dF_commonDivisor_0 : decode cF_commonDivisor 0 = .ok (.lload_n 0, 1) := by decide +kernel
theorem dF_commonDivisor_1 : decode cF_commonDivisor 1 = .ok (.lstore 4, 2) := by decide +kernel
theorem dF_commonDivisor_3 : decode cF_commonDivisor 3 = .ok (.lload_n 2, 1) := by decide +kernel
theorem dF_commonDivisor_4 : decode cF_commonDivisor 4 = .ok (.lstore 6, 2) := by decide +kernel
theorem dF_commonDivisor_6 : decode cF_commonDivisor 6 = .ok (.iconst 0, 1) := by decide +kernel
theorem dF_commonDivisor_7 : decode cF_commonDivisor 7 = .ok (.istore 8, 2) := by decide +kernel
theorem dF_commonDivisor_9 : decode cF_commonDivisor 9 = .ok (.iload 8, 2) := by decide +kernel
theorem dF_commonDivisor_11 : decode cF_commonDivisor 11 = .ok (.bipush 100, 2) := by decide +kernel
theorem dF_commonDivisor_13 : decode cF_commonDivisor 13 = .ok (.if_icmp .ge 31, 3) := by decide +kernel
theorem dF_commonDivisor_16 : decode cF_commonDivisor 16 = .ok (.lload 6, 2) := by decide +kernel
theorem dF_commonDivisor_18 : decode cF_commonDivisor 18 = .ok (.lconst 0, 1) := by decide +kernel
theorem dF_commonDivisor_19 : decode cF_commonDivisor 19 = .ok (.lcmp, 1) := by decide +kernel
theorem dF_commonDivisor_20 : decode cF_commonDivisor 20 = .ok (.ifCond .eq 24, 3) := by decide +kernel
theorem dF_commonDivisor_23 : decode cF_commonDivisor 23 = .ok (.lload 4, 2) := by decide +kernel
theorem dF_commonDivisor_25 : decode cF_commonDivisor 25 = .ok (.lload 6, 2) := by decide +kernel
theorem dF_commonDivisor_27 : decode cF_commonDivisor 27 = .ok (.lrem, 1) := by decide +kernel
theorem dF_commonDivisor_28 : decode cF_commonDivisor 28 = .ok (.lstore 9, 2) := by decide +kernel
theorem dF_commonDivisor_30 : decode cF_commonDivisor 30 = .ok (.lload 6, 2) := by decide +kernel
theorem dF_commonDivisor_32 : decode cF_commonDivisor 32 = .ok (.lstore 4, 2) := by decide +kernel
theorem dF_commonDivisor_34 : decode cF_commonDivisor 34 = .ok (.lload 9, 2) := by decide +kernel
theorem dF_commonDivisor_36 : decode cF_commonDivisor 36 = .ok (.lstore 6, 2) := by decide +kernel
theorem dF_commonDivisor_38 : decode cF_commonDivisor 38 = .ok (.iinc 8 1, 3) := by decide +kernel
theorem dF_commonDivisor_41 : decode cF_commonDivisor 41 = .ok (.goto (-32), 3) := by decide +kernel
theorem dF_commonDivisor_44 : decode cF_commonDivisor 44 = .ok (.lload 4, 2) := by decide +kernel
theorem dF_commonDivisor_46 : decode cF_commonDivisor 46 = .ok (.lreturn, 1) := by decide +kernel
theorem dF_lowest_0 : decode cF_lowest 0 = .ok (.lload_n 0, 1) := by decide +kernel
theorem dF_lowest_1 : decode cF_lowest 1 = .ok (.lload_n 2, 1) := by decide +kernel
theorem dF_lowest_2 : decode cF_lowest 2 = .ok (.invokestatic 11, 3) := by decide +kernel
theorem dF_lowest_5 : decode cF_lowest 5 = .ok (.lstore 5, 2) := by decide +kernel
theorem dF_lowest_7 : decode cF_lowest 7 = .ok (.lload 5, 2) := by decide +kernel
theorem dF_lowest_9 : decode cF_lowest 9 = .ok (.lconst 1, 1) := by decide +kernel
theorem dF_lowest_10 : decode cF_lowest 10 = .ok (.lcmp, 1) := by decide +kernel
theorem dF_lowest_11 : decode cF_lowest 11 = .ok (.ifCond .ge 7, 3) := by decide +kernel
theorem dF_lowest_14 : decode cF_lowest 14 = .ok (.ldc2_w 15, 3) := by decide +kernel
theorem dF_lowest_17 : decode cF_lowest 17 = .ok (.lreturn, 1) := by decide +kernel
theorem dF_lowest_18 : decode cF_lowest 18 = .ok (.iload 4, 2) := by decide +kernel
theorem dF_lowest_20 : decode cF_lowest 20 = .ok (.ifCond .ne 7, 3) := by decide +kernel
theorem dF_lowest_23 : decode cF_lowest 23 = .ok (.lload_n 0, 1) := by decide +kernel
theorem dF_lowest_24 : decode cF_lowest 24 = .ok (.goto 4, 3) := by decide +kernel
theorem dF_lowest_27 : decode cF_lowest 27 = .ok (.lload_n 2, 1) := by decide +kernel
theorem dF_lowest_28 : decode cF_lowest 28 = .ok (.lload 5, 2) := by decide +kernel
theorem dF_lowest_30 : decode cF_lowest 30 = .ok (.ldiv, 1) := by decide +kernel
theorem dF_lowest_31 : decode cF_lowest 31 = .ok (.lreturn, 1) := by decide +kernel
theorem dP_has_0 : decode cP_has 0 = .ok (.iload_n 1, 1) := by decide +kernel
theorem dP_has_1 : decode cP_has 1 = .ok (.ifCond .lt 15, 3) := by decide +kernel
theorem dP_has_4 : decode cP_has 4 = .ok (.iload_n 1, 1) := by decide +kernel
theorem dP_has_5 : decode cP_has 5 = .ok (.aload_n 0, 1) := by decide +kernel
theorem dP_has_6 : decode cP_has 6 = .ok (.getfield 41, 3) := by decide +kernel
theorem dP_has_9 : decode cP_has 9 = .ok (.if_icmp .ge 7, 3) := by decide +kernel
theorem dP_has_12 : decode cP_has 12 = .ok (.iconst 1, 1) := by decide +kernel
theorem dP_has_13 : decode cP_has 13 = .ok (.goto 4, 3) := by decide +kernel
theorem dP_has_16 : decode cP_has 16 = .ok (.iconst 0, 1) := by decide +kernel
theorem dP_has_17 : decode cP_has 17 = .ok (.ireturn, 1) := by decide +kernel
theorem dP_bitOf_0 : decode cP_bitOf 0 = .ok (.iconst 1, 1) := by decide +kernel
theorem dP_bitOf_1 : decode cP_bitOf 1 = .ok (.iload_n 0, 1) := by decide +kernel
theorem dP_bitOf_2 : decode cP_bitOf 2 = .ok (.ishl, 1) := by decide +kernel
theorem dP_bitOf_3 : decode cP_bitOf 3 = .ok (.ireturn, 1) := by decide +kernel
theorem dP_motherOf_0 : decode cP_motherOf 0 = .ok (.aload_n 0, 1) := by decide +kernel
theorem dP_motherOf_1 : decode cP_motherOf 1 = .ok (.iload_n 1, 1) := by decide +kernel
theorem dP_motherOf_2 : decode cP_motherOf 2 = .ok (.invokevirtual 53, 3) := by decide +kernel
theorem dP_motherOf_5 : decode cP_motherOf 5 = .ok (.ifCond .eq 12, 3) := by decide +kernel
theorem dP_motherOf_8 : decode cP_motherOf 8 = .ok (.aload_n 0, 1) := by decide +kernel
theorem dP_motherOf_9 : decode cP_motherOf 9 = .ok (.getfield 9, 3) := by decide +kernel
theorem dP_motherOf_12 : decode cP_motherOf 12 = .ok (.iload_n 1, 1) := by decide +kernel
theorem dP_motherOf_13 : decode cP_motherOf 13 = .ok (.iaload, 1) := by decide +kernel
theorem dP_motherOf_14 : decode cP_motherOf 14 = .ok (.goto 4, 3) := by decide +kernel
theorem dP_motherOf_17 : decode cP_motherOf 17 = .ok (.iconst (-1), 1) := by decide +kernel
theorem dP_motherOf_18 : decode cP_motherOf 18 = .ok (.ireturn, 1) := by decide +kernel
theorem dP_fatherOf_0 : decode cP_fatherOf 0 = .ok (.aload_n 0, 1) := by decide +kernel
theorem dP_fatherOf_1 : decode cP_fatherOf 1 = .ok (.iload_n 1, 1) := by decide +kernel
theorem dP_fatherOf_2 : decode cP_fatherOf 2 = .ok (.invokevirtual 53, 3) := by decide +kernel
theorem dP_fatherOf_5 : decode cP_fatherOf 5 = .ok (.ifCond .eq 12, 3) := by decide +kernel
theorem dP_fatherOf_8 : decode cP_fatherOf 8 = .ok (.aload_n 0, 1) := by decide +kernel
theorem dP_fatherOf_9 : decode cP_fatherOf 9 = .ok (.getfield 15, 3) := by decide +kernel
theorem dP_fatherOf_12 : decode cP_fatherOf 12 = .ok (.iload_n 1, 1) := by decide +kernel
theorem dP_fatherOf_13 : decode cP_fatherOf 13 = .ok (.iaload, 1) := by decide +kernel
theorem dP_fatherOf_14 : decode cP_fatherOf 14 = .ok (.goto 4, 3) := by decide +kernel
theorem dP_fatherOf_17 : decode cP_fatherOf 17 = .ok (.iconst (-1), 1) := by decide +kernel
theorem dP_fatherOf_18 : decode cP_fatherOf 18 = .ok (.ireturn, 1) := by decide +kernel
theorem dP_stepsOf_0 : decode cP_stepsOf 0 = .ok (.aload_n 0, 1) := by decide +kernel
theorem dP_stepsOf_1 : decode cP_stepsOf 1 = .ok (.iload_n 1, 1) := by decide +kernel
theorem dP_stepsOf_2 : decode cP_stepsOf 2 = .ok (.invokevirtual 53, 3) := by decide +kernel
theorem dP_stepsOf_5 : decode cP_stepsOf 5 = .ok (.ifCond .eq 12, 3) := by decide +kernel
theorem dP_stepsOf_8 : decode cP_stepsOf 8 = .ok (.aload_n 0, 1) := by decide +kernel
theorem dP_stepsOf_9 : decode cP_stepsOf 9 = .ok (.getfield 18, 3) := by decide +kernel
theorem dP_stepsOf_12 : decode cP_stepsOf 12 = .ok (.iload_n 1, 1) := by decide +kernel
theorem dP_stepsOf_13 : decode cP_stepsOf 13 = .ok (.iaload, 1) := by decide +kernel
theorem dP_stepsOf_14 : decode cP_stepsOf 14 = .ok (.goto 4, 3) := by decide +kernel
theorem dP_stepsOf_17 : decode cP_stepsOf 17 = .ok (.iconst (-1), 1) := by decide +kernel
theorem dP_stepsOf_18 : decode cP_stepsOf 18 = .ok (.ireturn, 1) := by decide +kernel
theorem dP_inOrder_0 : decode cP_inOrder 0 = .ok (.aload_n 0, 1) := by decide +kernel
theorem dP_inOrder_1 : decode cP_inOrder 1 = .ok (.iload_n 1, 1) := by decide +kernel
theorem dP_inOrder_2 : decode cP_inOrder 2 = .ok (.invokevirtual 53, 3) := by decide +kernel
theorem dP_inOrder_5 : decode cP_inOrder 5 = .ok (.ifCond .eq 12, 3) := by decide +kernel
theorem dP_inOrder_8 : decode cP_inOrder 8 = .ok (.aload_n 0, 1) := by decide +kernel
theorem dP_inOrder_9 : decode cP_inOrder 9 = .ok (.getfield 21, 3) := by decide +kernel
theorem dP_inOrder_12 : decode cP_inOrder 12 = .ok (.iload_n 1, 1) := by decide +kernel
theorem dP_inOrder_13 : decode cP_inOrder 13 = .ok (.iaload, 1) := by decide +kernel
theorem dP_inOrder_14 : decode cP_inOrder 14 = .ok (.goto 4, 3) := by decide +kernel
theorem dP_inOrder_17 : decode cP_inOrder 17 = .ok (.iconst (-1), 1) := by decide +kernel
theorem dP_inOrder_18 : decode cP_inOrder 18 = .ok (.ireturn, 1) := by decide +kernel
theorem dP_isFounder_0 : decode cP_isFounder 0 = .ok (.aload_n 0, 1) := by decide +kernel
theorem dP_isFounder_1 : decode cP_isFounder 1 = .ok (.iload_n 1, 1) := by decide +kernel
theorem dP_isFounder_2 : decode cP_isFounder 2 = .ok (.invokevirtual 53, 3) := by decide +kernel
theorem dP_isFounder_5 : decode cP_isFounder 5 = .ok (.ifCond .eq 27, 3) := by decide +kernel
theorem dP_isFounder_8 : decode cP_isFounder 8 = .ok (.aload_n 0, 1) := by decide +kernel
theorem dP_isFounder_9 : decode cP_isFounder 9 = .ok (.getfield 9, 3) := by decide +kernel
theorem dP_isFounder_12 : decode cP_isFounder 12 = .ok (.iload_n 1, 1) := by decide +kernel
theorem dP_isFounder_13 : decode cP_isFounder 13 = .ok (.iaload, 1) := by decide +kernel
theorem dP_isFounder_14 : decode cP_isFounder 14 = .ok (.iconst (-1), 1) := by decide +kernel
theorem dP_isFounder_15 : decode cP_isFounder 15 = .ok (.if_icmp .ne 17, 3) := by decide +kernel
theorem dP_isFounder_18 : decode cP_isFounder 18 = .ok (.aload_n 0, 1) := by decide +kernel
theorem dP_isFounder_19 : decode cP_isFounder 19 = .ok (.getfield 15, 3) := by decide +kernel
theorem dP_isFounder_22 : decode cP_isFounder 22 = .ok (.iload_n 1, 1) := by decide +kernel
theorem dP_isFounder_23 : decode cP_isFounder 23 = .ok (.iaload, 1) := by decide +kernel
theorem dP_isFounder_24 : decode cP_isFounder 24 = .ok (.iconst (-1), 1) := by decide +kernel
theorem dP_isFounder_25 : decode cP_isFounder 25 = .ok (.if_icmp .ne 7, 3) := by decide +kernel
theorem dP_isFounder_28 : decode cP_isFounder 28 = .ok (.iconst 1, 1) := by decide +kernel
theorem dP_isFounder_29 : decode cP_isFounder 29 = .ok (.goto 4, 3) := by decide +kernel
theorem dP_isFounder_32 : decode cP_isFounder 32 = .ok (.iconst 0, 1) := by decide +kernel
theorem dP_isFounder_33 : decode cP_isFounder 33 = .ok (.ireturn, 1) := by decide +kernel
theorem dP_hasForbear_0 : decode cP_hasForbear 0 = .ok (.aload_n 0, 1) := by decide +kernel
theorem dP_hasForbear_1 : decode cP_hasForbear 1 = .ok (.iload_n 1, 1) := by decide +kernel
theorem dP_hasForbear_2 : decode cP_hasForbear 2 = .ok (.invokevirtual 53, 3) := by decide +kernel
theorem dP_hasForbear_5 : decode cP_hasForbear 5 = .ok (.ifCond .eq 29, 3) := by decide +kernel
theorem dP_hasForbear_8 : decode cP_hasForbear 8 = .ok (.aload_n 0, 1) := by decide +kernel
theorem dP_hasForbear_9 : decode cP_hasForbear 9 = .ok (.iload_n 2, 1) := by decide +kernel
theorem dP_hasForbear_10 : decode cP_hasForbear 10 = .ok (.invokevirtual 53, 3) := by decide +kernel
theorem dP_hasForbear_13 : decode cP_hasForbear 13 = .ok (.ifCond .eq 21, 3) := by decide +kernel
theorem dP_hasForbear_16 : decode cP_hasForbear 16 = .ok (.aload_n 0, 1) := by decide +kernel
theorem dP_hasForbear_17 : decode cP_hasForbear 17 = .ok (.getfield 24, 3) := by decide +kernel
theorem dP_hasForbear_20 : decode cP_hasForbear 20 = .ok (.iload_n 1, 1) := by decide +kernel
theorem dP_hasForbear_21 : decode cP_hasForbear 21 = .ok (.iaload, 1) := by decide +kernel
theorem dP_hasForbear_22 : decode cP_hasForbear 22 = .ok (.iload_n 2, 1) := by decide +kernel
theorem dP_hasForbear_23 : decode cP_hasForbear 23 = .ok (.invokestatic 57, 3) := by decide +kernel
theorem dP_hasForbear_26 : decode cP_hasForbear 26 = .ok (.iand, 1) := by decide +kernel
theorem dP_hasForbear_27 : decode cP_hasForbear 27 = .ok (.ifCond .eq 7, 3) := by decide +kernel
theorem dP_hasForbear_30 : decode cP_hasForbear 30 = .ok (.iconst 1, 1) := by decide +kernel
theorem dP_hasForbear_31 : decode cP_hasForbear 31 = .ok (.goto 4, 3) := by decide +kernel
theorem dP_hasForbear_34 : decode cP_hasForbear 34 = .ok (.iconst 0, 1) := by decide +kernel
theorem dP_hasForbear_35 : decode cP_hasForbear 35 = .ok (.ireturn, 1) := by decide +kernel
theorem dP_kinOf_0 : decode cP_kinOf 0 = .ok (.aload_n 0, 1) := by decide +kernel
theorem dP_kinOf_1 : decode cP_kinOf 1 = .ok (.iload_n 1, 1) := by decide +kernel
theorem dP_kinOf_2 : decode cP_kinOf 2 = .ok (.invokevirtual 53, 3) := by decide +kernel
theorem dP_kinOf_5 : decode cP_kinOf 5 = .ok (.ifCond .eq 25, 3) := by decide +kernel
theorem dP_kinOf_8 : decode cP_kinOf 8 = .ok (.aload_n 0, 1) := by decide +kernel
theorem dP_kinOf_9 : decode cP_kinOf 9 = .ok (.iload_n 2, 1) := by decide +kernel
theorem dP_kinOf_10 : decode cP_kinOf 10 = .ok (.invokevirtual 53, 3) := by decide +kernel
theorem dP_kinOf_13 : decode cP_kinOf 13 = .ok (.ifCond .eq 17, 3) := by decide +kernel
theorem dP_kinOf_16 : decode cP_kinOf 16 = .ok (.aload_n 0, 1) := by decide +kernel
theorem dP_kinOf_17 : decode cP_kinOf 17 = .ok (.getfield 27, 3) := by decide +kernel
theorem dP_kinOf_20 : decode cP_kinOf 20 = .ok (.iload_n 1, 1) := by decide +kernel
theorem dP_kinOf_21 : decode cP_kinOf 21 = .ok (.bipush 24, 2) := by decide +kernel
theorem dP_kinOf_23 : decode cP_kinOf 23 = .ok (.imul, 1) := by decide +kernel
theorem dP_kinOf_24 : decode cP_kinOf 24 = .ok (.iload_n 2, 1) := by decide +kernel
theorem dP_kinOf_25 : decode cP_kinOf 25 = .ok (.iadd, 1) := by decide +kernel
theorem dP_kinOf_26 : decode cP_kinOf 26 = .ok (.laload, 1) := by decide +kernel
theorem dP_kinOf_27 : decode cP_kinOf 27 = .ok (.goto 4, 3) := by decide +kernel
theorem dP_kinOf_30 : decode cP_kinOf 30 = .ok (.lconst 0, 1) := by decide +kernel
theorem dP_kinOf_31 : decode cP_kinOf 31 = .ok (.lreturn, 1) := by decide +kernel
theorem dP_inbreedingOf_0 : decode cP_inbreedingOf 0 = .ok (.aload_n 0, 1) := by decide +kernel
theorem dP_inbreedingOf_1 : decode cP_inbreedingOf 1 = .ok (.aload_n 0, 1) := by decide +kernel
theorem dP_inbreedingOf_2 : decode cP_inbreedingOf 2 = .ok (.iload_n 1, 1) := by decide +kernel
theorem dP_inbreedingOf_3 : decode cP_inbreedingOf 3 = .ok (.invokevirtual 61, 3) := by decide +kernel
theorem dP_inbreedingOf_6 : decode cP_inbreedingOf 6 = .ok (.aload_n 0, 1) := by decide +kernel
theorem dP_inbreedingOf_7 : decode cP_inbreedingOf 7 = .ok (.iload_n 1, 1) := by decide +kernel
theorem dP_inbreedingOf_8 : decode cP_inbreedingOf 8 = .ok (.invokevirtual 64, 3) := by decide +kernel
theorem dP_inbreedingOf_11 : decode cP_inbreedingOf 11 = .ok (.invokevirtual 67, 3) := by decide +kernel
theorem dP_inbreedingOf_14 : decode cP_inbreedingOf 14 = .ok (.lreturn, 1) := by decide +kernel
theorem dP_settledBy_0 : decode cP_settledBy 0 = .ok (.aload_n 0, 1) := by decide +kernel
theorem dP_settledBy_1 : decode cP_settledBy 1 = .ok (.iload_n 1, 1) := by decide +kernel
theorem dP_settledBy_2 : decode cP_settledBy 2 = .ok (.invokevirtual 53, 3) := by decide +kernel
theorem dP_settledBy_5 : decode cP_settledBy 5 = .ok (.ifCond .eq 19, 3) := by decide +kernel
theorem dP_settledBy_8 : decode cP_settledBy 8 = .ok (.ldc2_w 73, 3) := by decide +kernel
theorem dP_settledBy_11 : decode cP_settledBy 11 = .ok (.aload_n 0, 1) := by decide +kernel
theorem dP_settledBy_12 : decode cP_settledBy 12 = .ok (.iload_n 1, 1) := by decide +kernel
theorem dP_settledBy_13 : decode cP_settledBy 13 = .ok (.invokevirtual 94, 3) := by decide +kernel
theorem dP_settledBy_16 : decode cP_settledBy 16 = .ok (.ladd, 1) := by decide +kernel
theorem dP_settledBy_17 : decode cP_settledBy 17 = .ok (.ldc2_w 97, 3) := by decide +kernel
theorem dP_settledBy_20 : decode cP_settledBy 20 = .ok (.ldiv, 1) := by decide +kernel
theorem dP_settledBy_21 : decode cP_settledBy 21 = .ok (.goto 4, 3) := by decide +kernel
theorem dP_settledBy_24 : decode cP_settledBy 24 = .ok (.lconst 0, 1) := by decide +kernel
theorem dP_settledBy_25 : decode cP_settledBy 25 = .ok (.lreturn, 1) := by decide +kernel
theorem dP_chanceOf_0 : decode cP_chanceOf 0 = .ok (.ldc2_w 73, 3) := by decide +kernel
theorem dP_chanceOf_3 : decode cP_chanceOf 3 = .ok (.aload_n 0, 1) := by decide +kernel
theorem dP_chanceOf_4 : decode cP_chanceOf 4 = .ok (.aload_n 0, 1) := by decide +kernel
theorem dP_chanceOf_5 : decode cP_chanceOf 5 = .ok (.iload_n 1, 1) := by decide +kernel
theorem dP_chanceOf_6 : decode cP_chanceOf 6 = .ok (.invokevirtual 61, 3) := by decide +kernel
theorem dP_chanceOf_9 : decode cP_chanceOf 9 = .ok (.invokevirtual 75, 3) := by decide +kernel
theorem dP_chanceOf_12 : decode cP_chanceOf 12 = .ok (.lsub, 1) := by decide +kernel
theorem dP_chanceOf_13 : decode cP_chanceOf 13 = .ok (.aload_n 0, 1) := by decide +kernel
theorem dP_chanceOf_14 : decode cP_chanceOf 14 = .ok (.aload_n 0, 1) := by decide +kernel
theorem dP_chanceOf_15 : decode cP_chanceOf 15 = .ok (.iload_n 1, 1) := by decide +kernel
theorem dP_chanceOf_16 : decode cP_chanceOf 16 = .ok (.invokevirtual 64, 3) := by decide +kernel
theorem dP_chanceOf_19 : decode cP_chanceOf 19 = .ok (.invokevirtual 75, 3) := by decide +kernel
theorem dP_chanceOf_22 : decode cP_chanceOf 22 = .ok (.lsub, 1) := by decide +kernel
theorem dP_chanceOf_23 : decode cP_chanceOf 23 = .ok (.lreturn, 1) := by decide +kernel
theorem dP_shareRow_0 : decode cP_shareRow 0 = .ok (.aload_n 0, 1) := by decide +kernel
theorem dP_shareRow_1 : decode cP_shareRow 1 = .ok (.iload_n 1, 1) := by decide +kernel
theorem dP_shareRow_2 : decode cP_shareRow 2 = .ok (.invokevirtual 53, 3) := by decide +kernel
theorem dP_shareRow_5 : decode cP_shareRow 5 = .ok (.ifCond .eq 12, 3) := by decide +kernel
theorem dP_shareRow_8 : decode cP_shareRow 8 = .ok (.aload_n 0, 1) := by decide +kernel
theorem dP_shareRow_9 : decode cP_shareRow 9 = .ok (.getfield 31, 3) := by decide +kernel
theorem dP_shareRow_12 : decode cP_shareRow 12 = .ok (.iload_n 1, 1) := by decide +kernel
theorem dP_shareRow_13 : decode cP_shareRow 13 = .ok (.laload, 1) := by decide +kernel
theorem dP_shareRow_14 : decode cP_shareRow 14 = .ok (.goto 4, 3) := by decide +kernel
theorem dP_shareRow_17 : decode cP_shareRow 17 = .ok (.lconst 0, 1) := by decide +kernel
theorem dP_shareRow_18 : decode cP_shareRow 18 = .ok (.lreturn, 1) := by decide +kernel
theorem dP_leadsTo_0 : decode cP_leadsTo 0 = .ok (.iload_n 1, 1) := by decide +kernel
theorem dP_leadsTo_1 : decode cP_leadsTo 1 = .ok (.iload_n 2, 1) := by decide +kernel
theorem dP_leadsTo_2 : decode cP_leadsTo 2 = .ok (.if_icmp .eq 12, 3) := by decide +kernel
theorem dP_leadsTo_5 : decode cP_leadsTo 5 = .ok (.aload_n 0, 1) := by decide +kernel
theorem dP_leadsTo_6 : decode cP_leadsTo 6 = .ok (.iload_n 1, 1) := by decide +kernel
theorem dP_leadsTo_7 : decode cP_leadsTo 7 = .ok (.iload_n 2, 1) := by decide +kernel
theorem dP_leadsTo_8 : decode cP_leadsTo 8 = .ok (.invokevirtual 91, 3) := by decide +kernel
theorem dP_leadsTo_11 : decode cP_leadsTo 11 = .ok (.ifCond .eq 7, 3) := by decide +kernel
theorem dP_leadsTo_14 : decode cP_leadsTo 14 = .ok (.iconst 1, 1) := by decide +kernel
theorem dP_leadsTo_15 : decode cP_leadsTo 15 = .ok (.goto 4, 3) := by decide +kernel
theorem dP_leadsTo_18 : decode cP_leadsTo 18 = .ok (.iconst 0, 1) := by decide +kernel
theorem dP_leadsTo_19 : decode cP_leadsTo 19 = .ok (.ireturn, 1) := by decide +kernel
theorem dP_wouldClose_0 : decode cP_wouldClose 0 = .ok (.aload_n 0, 1) := by decide +kernel
theorem dP_wouldClose_1 : decode cP_wouldClose 1 = .ok (.iload_n 2, 1) := by decide +kernel
theorem dP_wouldClose_2 : decode cP_wouldClose 2 = .ok (.iload_n 1, 1) := by decide +kernel
theorem dP_wouldClose_3 : decode cP_wouldClose 3 = .ok (.invokevirtual 87, 3) := by decide +kernel
theorem dP_wouldClose_6 : decode cP_wouldClose 6 = .ok (.ifCond .ne 12, 3) := by decide +kernel
theorem dP_wouldClose_9 : decode cP_wouldClose 9 = .ok (.aload_n 0, 1) := by decide +kernel
theorem dP_wouldClose_10 : decode cP_wouldClose 10 = .ok (.iload_n 3, 1) := by decide +kernel
theorem dP_wouldClose_11 : decode cP_wouldClose 11 = .ok (.iload_n 1, 1) := by decide +kernel
theorem dP_wouldClose_12 : decode cP_wouldClose 12 = .ok (.invokevirtual 87, 3) := by decide +kernel
theorem dP_wouldClose_15 : decode cP_wouldClose 15 = .ok (.ifCond .eq 7, 3) := by decide +kernel
theorem dP_wouldClose_18 : decode cP_wouldClose 18 = .ok (.iconst 1, 1) := by decide +kernel
theorem dP_wouldClose_19 : decode cP_wouldClose 19 = .ok (.goto 4, 3) := by decide +kernel
theorem dP_wouldClose_22 : decode cP_wouldClose 22 = .ok (.iconst 0, 1) := by decide +kernel
theorem dP_wouldClose_23 : decode cP_wouldClose 23 = .ok (.ireturn, 1) := by decide +kernel
theorem dP_ringAt_0 : decode cP_ringAt 0 = .ok (.iload_n 1, 1) := by decide +kernel
theorem dP_ringAt_1 : decode cP_ringAt 1 = .ok (.ifCond .lt 29, 3) := by decide +kernel
theorem dP_ringAt_4 : decode cP_ringAt 4 = .ok (.iload_n 1, 1) := by decide +kernel
theorem dP_ringAt_5 : decode cP_ringAt 5 = .ok (.aload_n 0, 1) := by decide +kernel
theorem dP_ringAt_6 : decode cP_ringAt 6 = .ok (.getfield 37, 3) := by decide +kernel
theorem dP_ringAt_9 : decode cP_ringAt 9 = .ok (.if_icmp .ge 21, 3) := by decide +kernel
theorem dP_ringAt_12 : decode cP_ringAt 12 = .ok (.iload_n 1, 1) := by decide +kernel
theorem dP_ringAt_13 : decode cP_ringAt 13 = .ok (.aload_n 0, 1) := by decide +kernel
theorem dP_ringAt_14 : decode cP_ringAt 14 = .ok (.getfield 34, 3) := by decide +kernel
theorem dP_ringAt_17 : decode cP_ringAt 17 = .ok (.arraylength, 1) := by decide +kernel
theorem dP_ringAt_18 : decode cP_ringAt 18 = .ok (.if_icmp .ge 12, 3) := by decide +kernel
theorem dP_ringAt_21 : decode cP_ringAt 21 = .ok (.aload_n 0, 1) := by decide +kernel
theorem dP_ringAt_22 : decode cP_ringAt 22 = .ok (.getfield 34, 3) := by decide +kernel
theorem dP_ringAt_25 : decode cP_ringAt 25 = .ok (.iload_n 1, 1) := by decide +kernel
theorem dP_ringAt_26 : decode cP_ringAt 26 = .ok (.iaload, 1) := by decide +kernel
theorem dP_ringAt_27 : decode cP_ringAt 27 = .ok (.goto 4, 3) := by decide +kernel
theorem dP_ringAt_30 : decode cP_ringAt 30 = .ok (.iconst (-1), 1) := by decide +kernel
theorem dP_ringAt_31 : decode cP_ringAt 31 = .ok (.ireturn, 1) := by decide +kernel
theorem dP_lineOf_0 : decode cP_lineOf 0 = .ok (.aload_n 0, 1) := by decide +kernel
theorem dP_lineOf_1 : decode cP_lineOf 1 = .ok (.iload_n 1, 1) := by decide +kernel
theorem dP_lineOf_2 : decode cP_lineOf 2 = .ok (.invokevirtual 53, 3) := by decide +kernel
theorem dP_lineOf_5 : decode cP_lineOf 5 = .ok (.ifCond .eq 17, 3) := by decide +kernel
theorem dP_lineOf_8 : decode cP_lineOf 8 = .ok (.iload_n 1, 1) := by decide +kernel
theorem dP_lineOf_9 : decode cP_lineOf 9 = .ok (.invokestatic 57, 3) := by decide +kernel
theorem dP_lineOf_12 : decode cP_lineOf 12 = .ok (.aload_n 0, 1) := by decide +kernel
theorem dP_lineOf_13 : decode cP_lineOf 13 = .ok (.getfield 24, 3) := by decide +kernel
theorem dP_lineOf_16 : decode cP_lineOf 16 = .ok (.iload_n 1, 1) := by decide +kernel
theorem dP_lineOf_17 : decode cP_lineOf 17 = .ok (.iaload, 1) := by decide +kernel
theorem dP_lineOf_18 : decode cP_lineOf 18 = .ok (.ior, 1) := by decide +kernel
theorem dP_lineOf_19 : decode cP_lineOf 19 = .ok (.goto 4, 3) := by decide +kernel
theorem dP_lineOf_22 : decode cP_lineOf 22 = .ok (.iconst 0, 1) := by decide +kernel
theorem dP_lineOf_23 : decode cP_lineOf 23 = .ok (.ireturn, 1) := by decide +kernel
theorem dP_forgetRing_0 : decode cP_forgetRing 0 = .ok (.aload_n 0, 1) := by decide +kernel
theorem dP_forgetRing_1 : decode cP_forgetRing 1 = .ok (.iconst 0, 1) := by decide +kernel
theorem dP_forgetRing_2 : decode cP_forgetRing 2 = .ok (.putfield 37, 3) := by decide +kernel
theorem dP_forgetRing_5 : decode cP_forgetRing 5 = .ok (.return_, 1) := by decide +kernel
theorem dP_shareOf_0 : decode cP_shareOf 0 = .ok (.iconst 0, 1) := by decide +kernel
theorem dP_shareOf_1 : decode cP_shareOf 1 = .ok (.istore_n 3, 1) := by decide +kernel
theorem dP_shareOf_2 : decode cP_shareOf 2 = .ok (.iload_n 3, 1) := by decide +kernel
theorem dP_shareOf_3 : decode cP_shareOf 3 = .ok (.aload_n 0, 1) := by decide +kernel
theorem dP_shareOf_4 : decode cP_shareOf 4 = .ok (.getfield 41, 3) := by decide +kernel
theorem dP_shareOf_7 : decode cP_shareOf 7 = .ok (.if_icmp .ge 69, 3) := by decide +kernel
theorem dP_shareOf_10 : decode cP_shareOf 10 = .ok (.aload_n 0, 1) := by decide +kernel
theorem dP_shareOf_11 : decode cP_shareOf 11 = .ok (.iload_n 3, 1) := by decide +kernel
theorem dP_shareOf_12 : decode cP_shareOf 12 = .ok (.invokevirtual 79, 3) := by decide +kernel
theorem dP_shareOf_15 : decode cP_shareOf 15 = .ok (.istore 4, 2) := by decide +kernel
theorem dP_shareOf_17 : decode cP_shareOf 17 = .ok (.aload_n 0, 1) := by decide +kernel
theorem dP_shareOf_18 : decode cP_shareOf 18 = .ok (.iload 4, 2) := by decide +kernel
theorem dP_shareOf_20 : decode cP_shareOf 20 = .ok (.invokevirtual 53, 3) := by decide +kernel
theorem dP_shareOf_23 : decode cP_shareOf 23 = .ok (.ifCond .eq 47, 3) := by decide +kernel
theorem dP_shareOf_26 : decode cP_shareOf 26 = .ok (.aload_n 0, 1) := by decide +kernel
theorem dP_shareOf_27 : decode cP_shareOf 27 = .ok (.getfield 31, 3) := by decide +kernel
theorem dP_shareOf_30 : decode cP_shareOf 30 = .ok (.iload 4, 2) := by decide +kernel
theorem dP_shareOf_32 : decode cP_shareOf 32 = .ok (.iload 4, 2) := by decide +kernel
theorem dP_shareOf_34 : decode cP_shareOf 34 = .ok (.iload_n 2, 1) := by decide +kernel
theorem dP_shareOf_35 : decode cP_shareOf 35 = .ok (.if_icmp .ne 9, 3) := by decide +kernel
theorem dP_shareOf_38 : decode cP_shareOf 38 = .ok (.ldc2_w 73, 3) := by decide +kernel
theorem dP_shareOf_41 : decode cP_shareOf 41 = .ok (.goto 28, 3) := by decide +kernel
theorem dP_shareOf_44 : decode cP_shareOf 44 = .ok (.aload_n 0, 1) := by decide +kernel
theorem dP_shareOf_45 : decode cP_shareOf 45 = .ok (.aload_n 0, 1) := by decide +kernel
theorem dP_shareOf_46 : decode cP_shareOf 46 = .ok (.iload 4, 2) := by decide +kernel
theorem dP_shareOf_48 : decode cP_shareOf 48 = .ok (.invokevirtual 61, 3) := by decide +kernel
theorem dP_shareOf_51 : decode cP_shareOf 51 = .ok (.invokevirtual 82, 3) := by decide +kernel
theorem dP_shareOf_54 : decode cP_shareOf 54 = .ok (.aload_n 0, 1) := by decide +kernel
theorem dP_shareOf_55 : decode cP_shareOf 55 = .ok (.aload_n 0, 1) := by decide +kernel
theorem dP_shareOf_56 : decode cP_shareOf 56 = .ok (.iload 4, 2) := by decide +kernel
theorem dP_shareOf_58 : decode cP_shareOf 58 = .ok (.invokevirtual 64, 3) := by decide +kernel
theorem dP_shareOf_61 : decode cP_shareOf 61 = .ok (.invokevirtual 82, 3) := by decide +kernel
theorem dP_shareOf_64 : decode cP_shareOf 64 = .ok (.ladd, 1) := by decide +kernel
theorem dP_shareOf_65 : decode cP_shareOf 65 = .ok (.ldc2_w 85, 3) := by decide +kernel
theorem dP_shareOf_68 : decode cP_shareOf 68 = .ok (.ldiv, 1) := by decide +kernel
theorem dP_shareOf_69 : decode cP_shareOf 69 = .ok (.lastore, 1) := by decide +kernel
theorem dP_shareOf_70 : decode cP_shareOf 70 = .ok (.iinc 3 1, 3) := by decide +kernel
theorem dP_shareOf_73 : decode cP_shareOf 73 = .ok (.goto (-71), 3) := by decide +kernel
theorem dP_shareOf_76 : decode cP_shareOf 76 = .ok (.aload_n 0, 1) := by decide +kernel
theorem dP_shareOf_77 : decode cP_shareOf 77 = .ok (.iload_n 1, 1) := by decide +kernel
theorem dP_shareOf_78 : decode cP_shareOf 78 = .ok (.invokevirtual 82, 3) := by decide +kernel
theorem dP_shareOf_81 : decode cP_shareOf 81 = .ok (.lreturn, 1) := by decide +kernel
theorem dP_keepRing_0 : decode cP_keepRing 0 = .ok (.aload_n 0, 1) := by decide +kernel
theorem dP_keepRing_1 : decode cP_keepRing 1 = .ok (.getfield 34, 3) := by decide +kernel
theorem dP_keepRing_4 : decode cP_keepRing 4 = .ok (.iconst 0, 1) := by decide +kernel
theorem dP_keepRing_5 : decode cP_keepRing 5 = .ok (.iload_n 1, 1) := by decide +kernel
theorem dP_keepRing_6 : decode cP_keepRing 6 = .ok (.iastore, 1) := by decide +kernel
theorem dP_keepRing_7 : decode cP_keepRing 7 = .ok (.aload_n 0, 1) := by decide +kernel
theorem dP_keepRing_8 : decode cP_keepRing 8 = .ok (.iconst 1, 1) := by decide +kernel
theorem dP_keepRing_9 : decode cP_keepRing 9 = .ok (.putfield 37, 3) := by decide +kernel
theorem dP_keepRing_12 : decode cP_keepRing 12 = .ok (.aload_n 0, 1) := by decide +kernel
theorem dP_keepRing_13 : decode cP_keepRing 13 = .ok (.iload_n 2, 1) := by decide +kernel
theorem dP_keepRing_14 : decode cP_keepRing 14 = .ok (.iload_n 1, 1) := by decide +kernel
theorem dP_keepRing_15 : decode cP_keepRing 15 = .ok (.invokevirtual 87, 3) := by decide +kernel
theorem dP_keepRing_18 : decode cP_keepRing 18 = .ok (.ifCond .eq 7, 3) := by decide +kernel
theorem dP_keepRing_21 : decode cP_keepRing 21 = .ok (.iload_n 2, 1) := by decide +kernel
theorem dP_keepRing_22 : decode cP_keepRing 22 = .ok (.goto 4, 3) := by decide +kernel
theorem dP_keepRing_25 : decode cP_keepRing 25 = .ok (.iload_n 3, 1) := by decide +kernel
theorem dP_keepRing_26 : decode cP_keepRing 26 = .ok (.istore 4, 2) := by decide +kernel
theorem dP_keepRing_28 : decode cP_keepRing 28 = .ok (.iconst 1, 1) := by decide +kernel
theorem dP_keepRing_29 : decode cP_keepRing 29 = .ok (.istore 5, 2) := by decide +kernel
theorem dP_keepRing_31 : decode cP_keepRing 31 = .ok (.iload 5, 2) := by decide +kernel
theorem dP_keepRing_33 : decode cP_keepRing 33 = .ok (.aload_n 0, 1) := by decide +kernel
theorem dP_keepRing_34 : decode cP_keepRing 34 = .ok (.getfield 34, 3) := by decide +kernel
theorem dP_keepRing_37 : decode cP_keepRing 37 = .ok (.arraylength, 1) := by decide +kernel
theorem dP_keepRing_38 : decode cP_keepRing 38 = .ok (.if_icmp .ge 76, 3) := by decide +kernel
theorem dP_keepRing_41 : decode cP_keepRing 41 = .ok (.aload_n 0, 1) := by decide +kernel
theorem dP_keepRing_42 : decode cP_keepRing 42 = .ok (.iload 4, 2) := by decide +kernel
theorem dP_keepRing_44 : decode cP_keepRing 44 = .ok (.invokevirtual 53, 3) := by decide +kernel
theorem dP_keepRing_47 : decode cP_keepRing 47 = .ok (.ifCond .eq 67, 3) := by decide +kernel
theorem dP_keepRing_50 : decode cP_keepRing 50 = .ok (.aload_n 0, 1) := by decide +kernel
theorem dP_keepRing_51 : decode cP_keepRing 51 = .ok (.getfield 34, 3) := by decide +kernel
theorem dP_keepRing_54 : decode cP_keepRing 54 = .ok (.iload 5, 2) := by decide +kernel
theorem dP_keepRing_56 : decode cP_keepRing 56 = .ok (.iload 4, 2) := by decide +kernel
theorem dP_keepRing_58 : decode cP_keepRing 58 = .ok (.iastore, 1) := by decide +kernel
theorem dP_keepRing_59 : decode cP_keepRing 59 = .ok (.aload_n 0, 1) := by decide +kernel
theorem dP_keepRing_60 : decode cP_keepRing 60 = .ok (.iload 5, 2) := by decide +kernel
theorem dP_keepRing_62 : decode cP_keepRing 62 = .ok (.iconst 1, 1) := by decide +kernel
theorem dP_keepRing_63 : decode cP_keepRing 63 = .ok (.iadd, 1) := by decide +kernel
theorem dP_keepRing_64 : decode cP_keepRing 64 = .ok (.putfield 37, 3) := by decide +kernel
theorem dP_keepRing_67 : decode cP_keepRing 67 = .ok (.iload 4, 2) := by decide +kernel
theorem dP_keepRing_69 : decode cP_keepRing 69 = .ok (.iload_n 1, 1) := by decide +kernel
theorem dP_keepRing_70 : decode cP_keepRing 70 = .ok (.if_icmp .ne 4, 3) := by decide +kernel
theorem dP_keepRing_73 : decode cP_keepRing 73 = .ok (.return_, 1) := by decide +kernel
theorem dP_keepRing_74 : decode cP_keepRing 74 = .ok (.aload_n 0, 1) := by decide +kernel
theorem dP_keepRing_75 : decode cP_keepRing 75 = .ok (.aload_n 0, 1) := by decide +kernel
theorem dP_keepRing_76 : decode cP_keepRing 76 = .ok (.getfield 9, 3) := by decide +kernel
theorem dP_keepRing_79 : decode cP_keepRing 79 = .ok (.iload 4, 2) := by decide +kernel
theorem dP_keepRing_81 : decode cP_keepRing 81 = .ok (.iaload, 1) := by decide +kernel
theorem dP_keepRing_82 : decode cP_keepRing 82 = .ok (.iload_n 1, 1) := by decide +kernel
theorem dP_keepRing_83 : decode cP_keepRing 83 = .ok (.invokevirtual 87, 3) := by decide +kernel
theorem dP_keepRing_86 : decode cP_keepRing 86 = .ok (.ifCond .eq 13, 3) := by decide +kernel
theorem dP_keepRing_89 : decode cP_keepRing 89 = .ok (.aload_n 0, 1) := by decide +kernel
theorem dP_keepRing_90 : decode cP_keepRing 90 = .ok (.getfield 9, 3) := by decide +kernel
theorem dP_keepRing_93 : decode cP_keepRing 93 = .ok (.iload 4, 2) := by decide +kernel
theorem dP_keepRing_95 : decode cP_keepRing 95 = .ok (.iaload, 1) := by decide +kernel
theorem dP_keepRing_96 : decode cP_keepRing 96 = .ok (.goto 10, 3) := by decide +kernel
theorem dP_keepRing_99 : decode cP_keepRing 99 = .ok (.aload_n 0, 1) := by decide +kernel
theorem dP_keepRing_100 : decode cP_keepRing 100 = .ok (.getfield 15, 3) := by decide +kernel
theorem dP_keepRing_103 : decode cP_keepRing 103 = .ok (.iload 4, 2) := by decide +kernel
theorem dP_keepRing_105 : decode cP_keepRing 105 = .ok (.iaload, 1) := by decide +kernel
theorem dP_keepRing_106 : decode cP_keepRing 106 = .ok (.istore 4, 2) := by decide +kernel
theorem dP_keepRing_108 : decode cP_keepRing 108 = .ok (.iinc 5 1, 3) := by decide +kernel
theorem dP_keepRing_111 : decode cP_keepRing 111 = .ok (.goto (-80), 3) := by decide +kernel
theorem dP_keepRing_114 : decode cP_keepRing 114 = .ok (.return_, 1) := by decide +kernel
theorem dP_setKin_0 : decode cP_setKin 0 = .ok (.aload_n 0, 1) := by decide +kernel
theorem dP_setKin_1 : decode cP_setKin 1 = .ok (.iload_n 1, 1) := by decide +kernel
theorem dP_setKin_2 : decode cP_setKin 2 = .ok (.invokevirtual 53, 3) := by decide +kernel
theorem dP_setKin_5 : decode cP_setKin 5 = .ok (.ifCond .eq 35, 3) := by decide +kernel
theorem dP_setKin_8 : decode cP_setKin 8 = .ok (.aload_n 0, 1) := by decide +kernel
theorem dP_setKin_9 : decode cP_setKin 9 = .ok (.iload_n 2, 1) := by decide +kernel
theorem dP_setKin_10 : decode cP_setKin 10 = .ok (.invokevirtual 53, 3) := by decide +kernel
theorem dP_setKin_13 : decode cP_setKin 13 = .ok (.ifCond .eq 27, 3) := by decide +kernel
theorem dP_setKin_16 : decode cP_setKin 16 = .ok (.aload_n 0, 1) := by decide +kernel
theorem dP_setKin_17 : decode cP_setKin 17 = .ok (.getfield 27, 3) := by decide +kernel
theorem dP_setKin_20 : decode cP_setKin 20 = .ok (.iload_n 1, 1) := by decide +kernel
theorem dP_setKin_21 : decode cP_setKin 21 = .ok (.bipush 24, 2) := by decide +kernel
theorem dP_setKin_23 : decode cP_setKin 23 = .ok (.imul, 1) := by decide +kernel
theorem dP_setKin_24 : decode cP_setKin 24 = .ok (.iload_n 2, 1) := by decide +kernel
theorem dP_setKin_25 : decode cP_setKin 25 = .ok (.iadd, 1) := by decide +kernel
theorem dP_setKin_26 : decode cP_setKin 26 = .ok (.lload_n 3, 1) := by decide +kernel
theorem dP_setKin_27 : decode cP_setKin 27 = .ok (.lastore, 1) := by decide +kernel
theorem dP_setKin_28 : decode cP_setKin 28 = .ok (.aload_n 0, 1) := by decide +kernel
theorem dP_setKin_29 : decode cP_setKin 29 = .ok (.getfield 27, 3) := by decide +kernel
theorem dP_setKin_32 : decode cP_setKin 32 = .ok (.iload_n 2, 1) := by decide +kernel
theorem dP_setKin_33 : decode cP_setKin 33 = .ok (.bipush 24, 2) := by decide +kernel
theorem dP_setKin_35 : decode cP_setKin 35 = .ok (.imul, 1) := by decide +kernel
theorem dP_setKin_36 : decode cP_setKin 36 = .ok (.iload_n 1, 1) := by decide +kernel
theorem dP_setKin_37 : decode cP_setKin 37 = .ok (.iadd, 1) := by decide +kernel
theorem dP_setKin_38 : decode cP_setKin 38 = .ok (.lload_n 3, 1) := by decide +kernel
theorem dP_setKin_39 : decode cP_setKin 39 = .ok (.lastore, 1) := by decide +kernel
theorem dP_setKin_40 : decode cP_setKin 40 = .ok (.return_, 1) := by decide +kernel
theorem dP_reckonForbears_0 : decode cP_reckonForbears 0 = .ok (.aload_n 0, 1) := by decide +kernel
theorem dP_reckonForbears_1 : decode cP_reckonForbears 1 = .ok (.iload_n 1, 1) := by decide +kernel
theorem dP_reckonForbears_2 : decode cP_reckonForbears 2 = .ok (.invokevirtual 53, 3) := by decide +kernel
theorem dP_reckonForbears_5 : decode cP_reckonForbears 5 = .ok (.ifCond .eq 30, 3) := by decide +kernel
theorem dP_reckonForbears_8 : decode cP_reckonForbears 8 = .ok (.aload_n 0, 1) := by decide +kernel
theorem dP_reckonForbears_9 : decode cP_reckonForbears 9 = .ok (.getfield 24, 3) := by decide +kernel
theorem dP_reckonForbears_12 : decode cP_reckonForbears 12 = .ok (.iload_n 1, 1) := by decide +kernel
theorem dP_reckonForbears_13 : decode cP_reckonForbears 13 = .ok (.aload_n 0, 1) := by decide +kernel
theorem dP_reckonForbears_14 : decode cP_reckonForbears 14 = .ok (.aload_n 0, 1) := by decide +kernel
theorem dP_reckonForbears_15 : decode cP_reckonForbears 15 = .ok (.getfield 9, 3) := by decide +kernel
theorem dP_reckonForbears_18 : decode cP_reckonForbears 18 = .ok (.iload_n 1, 1) := by decide +kernel
theorem dP_reckonForbears_19 : decode cP_reckonForbears 19 = .ok (.iaload, 1) := by decide +kernel
theorem dP_reckonForbears_20 : decode cP_reckonForbears 20 = .ok (.invokevirtual 121, 3) := by decide +kernel
theorem dP_reckonForbears_23 : decode cP_reckonForbears 23 = .ok (.aload_n 0, 1) := by decide +kernel
theorem dP_reckonForbears_24 : decode cP_reckonForbears 24 = .ok (.aload_n 0, 1) := by decide +kernel
theorem dP_reckonForbears_25 : decode cP_reckonForbears 25 = .ok (.getfield 15, 3) := by decide +kernel
theorem dP_reckonForbears_28 : decode cP_reckonForbears 28 = .ok (.iload_n 1, 1) := by decide +kernel
theorem dP_reckonForbears_29 : decode cP_reckonForbears 29 = .ok (.iaload, 1) := by decide +kernel
theorem dP_reckonForbears_30 : decode cP_reckonForbears 30 = .ok (.invokevirtual 121, 3) := by decide +kernel
theorem dP_reckonForbears_33 : decode cP_reckonForbears 33 = .ok (.ior, 1) := by decide +kernel
theorem dP_reckonForbears_34 : decode cP_reckonForbears 34 = .ok (.iastore, 1) := by decide +kernel
theorem dP_reckonForbears_35 : decode cP_reckonForbears 35 = .ok (.return_, 1) := by decide +kernel
theorem dP_reckonKin_0 : decode cP_reckonKin 0 = .ok (.aload_n 0, 1) := by decide +kernel
theorem dP_reckonKin_1 : decode cP_reckonKin 1 = .ok (.iload_n 1, 1) := by decide +kernel
theorem dP_reckonKin_2 : decode cP_reckonKin 2 = .ok (.invokevirtual 79, 3) := by decide +kernel
theorem dP_reckonKin_5 : decode cP_reckonKin 5 = .ok (.istore_n 2, 1) := by decide +kernel
theorem dP_reckonKin_6 : decode cP_reckonKin 6 = .ok (.aload_n 0, 1) := by decide +kernel
theorem dP_reckonKin_7 : decode cP_reckonKin 7 = .ok (.iload_n 2, 1) := by decide +kernel
theorem dP_reckonKin_8 : decode cP_reckonKin 8 = .ok (.invokevirtual 61, 3) := by decide +kernel
theorem dP_reckonKin_11 : decode cP_reckonKin 11 = .ok (.istore_n 3, 1) := by decide +kernel
theorem dP_reckonKin_12 : decode cP_reckonKin 12 = .ok (.aload_n 0, 1) := by decide +kernel
theorem dP_reckonKin_13 : decode cP_reckonKin 13 = .ok (.iload_n 2, 1) := by decide +kernel
theorem dP_reckonKin_14 : decode cP_reckonKin 14 = .ok (.invokevirtual 64, 3) := by decide +kernel
theorem dP_reckonKin_17 : decode cP_reckonKin 17 = .ok (.istore 4, 2) := by decide +kernel
theorem dP_reckonKin_19 : decode cP_reckonKin 19 = .ok (.iconst 0, 1) := by decide +kernel
theorem dP_reckonKin_20 : decode cP_reckonKin 20 = .ok (.istore 5, 2) := by decide +kernel
theorem dP_reckonKin_22 : decode cP_reckonKin 22 = .ok (.iload 5, 2) := by decide +kernel
theorem dP_reckonKin_24 : decode cP_reckonKin 24 = .ok (.iload_n 1, 1) := by decide +kernel
theorem dP_reckonKin_25 : decode cP_reckonKin 25 = .ok (.if_icmp .ge 44, 3) := by decide +kernel
theorem dP_reckonKin_28 : decode cP_reckonKin 28 = .ok (.aload_n 0, 1) := by decide +kernel
theorem dP_reckonKin_29 : decode cP_reckonKin 29 = .ok (.iload 5, 2) := by decide +kernel
theorem dP_reckonKin_31 : decode cP_reckonKin 31 = .ok (.invokevirtual 79, 3) := by decide +kernel
theorem dP_reckonKin_34 : decode cP_reckonKin 34 = .ok (.istore 6, 2) := by decide +kernel
theorem dP_reckonKin_36 : decode cP_reckonKin 36 = .ok (.aload_n 0, 1) := by decide +kernel
theorem dP_reckonKin_37 : decode cP_reckonKin 37 = .ok (.iload_n 2, 1) := by decide +kernel
theorem dP_reckonKin_38 : decode cP_reckonKin 38 = .ok (.iload 6, 2) := by decide +kernel
theorem dP_reckonKin_40 : decode cP_reckonKin 40 = .ok (.aload_n 0, 1) := by decide +kernel
theorem dP_reckonKin_41 : decode cP_reckonKin 41 = .ok (.iload_n 3, 1) := by decide +kernel
theorem dP_reckonKin_42 : decode cP_reckonKin 42 = .ok (.iload 6, 2) := by decide +kernel
theorem dP_reckonKin_44 : decode cP_reckonKin 44 = .ok (.invokevirtual 67, 3) := by decide +kernel
theorem dP_reckonKin_47 : decode cP_reckonKin 47 = .ok (.aload_n 0, 1) := by decide +kernel
theorem dP_reckonKin_48 : decode cP_reckonKin 48 = .ok (.iload 4, 2) := by decide +kernel
theorem dP_reckonKin_50 : decode cP_reckonKin 50 = .ok (.iload 6, 2) := by decide +kernel
theorem dP_reckonKin_52 : decode cP_reckonKin 52 = .ok (.invokevirtual 67, 3) := by decide +kernel
theorem dP_reckonKin_55 : decode cP_reckonKin 55 = .ok (.ladd, 1) := by decide +kernel
theorem dP_reckonKin_56 : decode cP_reckonKin 56 = .ok (.ldc2_w 85, 3) := by decide +kernel
theorem dP_reckonKin_59 : decode cP_reckonKin 59 = .ok (.ldiv, 1) := by decide +kernel
theorem dP_reckonKin_60 : decode cP_reckonKin 60 = .ok (.invokevirtual 124, 3) := by decide +kernel
theorem dP_reckonKin_63 : decode cP_reckonKin 63 = .ok (.iinc 5 1, 3) := by decide +kernel
theorem dP_reckonKin_66 : decode cP_reckonKin 66 = .ok (.goto (-44), 3) := by decide +kernel
theorem dP_reckonKin_69 : decode cP_reckonKin 69 = .ok (.aload_n 0, 1) := by decide +kernel
theorem dP_reckonKin_70 : decode cP_reckonKin 70 = .ok (.iload_n 2, 1) := by decide +kernel
theorem dP_reckonKin_71 : decode cP_reckonKin 71 = .ok (.iload_n 2, 1) := by decide +kernel
theorem dP_reckonKin_72 : decode cP_reckonKin 72 = .ok (.ldc2_w 73, 3) := by decide +kernel
theorem dP_reckonKin_75 : decode cP_reckonKin 75 = .ok (.aload_n 0, 1) := by decide +kernel
theorem dP_reckonKin_76 : decode cP_reckonKin 76 = .ok (.iload_n 3, 1) := by decide +kernel
theorem dP_reckonKin_77 : decode cP_reckonKin 77 = .ok (.iload 4, 2) := by decide +kernel
theorem dP_reckonKin_79 : decode cP_reckonKin 79 = .ok (.invokevirtual 67, 3) := by decide +kernel
theorem dP_reckonKin_82 : decode cP_reckonKin 82 = .ok (.ladd, 1) := by decide +kernel
theorem dP_reckonKin_83 : decode cP_reckonKin 83 = .ok (.ldc2_w 85, 3) := by decide +kernel
theorem dP_reckonKin_86 : decode cP_reckonKin 86 = .ok (.ldiv, 1) := by decide +kernel
theorem dP_reckonKin_87 : decode cP_reckonKin 87 = .ok (.invokevirtual 124, 3) := by decide +kernel
theorem dP_reckonKin_90 : decode cP_reckonKin 90 = .ok (.return_, 1) := by decide +kernel
theorem dP_reckonOrder_0 : decode cP_reckonOrder 0 = .ok (.iconst 0, 1) := by decide +kernel
theorem dP_reckonOrder_1 : decode cP_reckonOrder 1 = .ok (.istore_n 1, 1) := by decide +kernel
theorem dP_reckonOrder_2 : decode cP_reckonOrder 2 = .ok (.iconst 0, 1) := by decide +kernel
theorem dP_reckonOrder_3 : decode cP_reckonOrder 3 = .ok (.istore_n 2, 1) := by decide +kernel
theorem dP_reckonOrder_4 : decode cP_reckonOrder 4 = .ok (.iload_n 2, 1) := by decide +kernel
theorem dP_reckonOrder_5 : decode cP_reckonOrder 5 = .ok (.aload_n 0, 1) := by decide +kernel
theorem dP_reckonOrder_6 : decode cP_reckonOrder 6 = .ok (.getfield 41, 3) := by decide +kernel
theorem dP_reckonOrder_9 : decode cP_reckonOrder 9 = .ok (.if_icmp .ge 53, 3) := by decide +kernel
theorem dP_reckonOrder_12 : decode cP_reckonOrder 12 = .ok (.iconst 0, 1) := by decide +kernel
theorem dP_reckonOrder_13 : decode cP_reckonOrder 13 = .ok (.istore_n 3, 1) := by decide +kernel
theorem dP_reckonOrder_14 : decode cP_reckonOrder 14 = .ok (.iload_n 3, 1) := by decide +kernel
theorem dP_reckonOrder_15 : decode cP_reckonOrder 15 = .ok (.aload_n 0, 1) := by decide +kernel
theorem dP_reckonOrder_16 : decode cP_reckonOrder 16 = .ok (.getfield 41, 3) := by decide +kernel
theorem dP_reckonOrder_19 : decode cP_reckonOrder 19 = .ok (.if_icmp .ge 37, 3) := by decide +kernel
theorem dP_reckonOrder_22 : decode cP_reckonOrder 22 = .ok (.aload_n 0, 1) := by decide +kernel
theorem dP_reckonOrder_23 : decode cP_reckonOrder 23 = .ok (.getfield 18, 3) := by decide +kernel
theorem dP_reckonOrder_26 : decode cP_reckonOrder 26 = .ok (.iload_n 3, 1) := by decide +kernel
theorem dP_reckonOrder_27 : decode cP_reckonOrder 27 = .ok (.iaload, 1) := by decide +kernel
theorem dP_reckonOrder_28 : decode cP_reckonOrder 28 = .ok (.iload_n 2, 1) := by decide +kernel
theorem dP_reckonOrder_29 : decode cP_reckonOrder 29 = .ok (.if_icmp .ne 21, 3) := by decide +kernel
theorem dP_reckonOrder_32 : decode cP_reckonOrder 32 = .ok (.iload_n 1, 1) := by decide +kernel
theorem dP_reckonOrder_33 : decode cP_reckonOrder 33 = .ok (.aload_n 0, 1) := by decide +kernel
theorem dP_reckonOrder_34 : decode cP_reckonOrder 34 = .ok (.getfield 41, 3) := by decide +kernel
theorem dP_reckonOrder_37 : decode cP_reckonOrder 37 = .ok (.if_icmp .ge 13, 3) := by decide +kernel
theorem dP_reckonOrder_40 : decode cP_reckonOrder 40 = .ok (.aload_n 0, 1) := by decide +kernel
theorem dP_reckonOrder_41 : decode cP_reckonOrder 41 = .ok (.getfield 21, 3) := by decide +kernel
theorem dP_reckonOrder_44 : decode cP_reckonOrder 44 = .ok (.iload_n 1, 1) := by decide +kernel
theorem dP_reckonOrder_45 : decode cP_reckonOrder 45 = .ok (.iload_n 3, 1) := by decide +kernel
theorem dP_reckonOrder_46 : decode cP_reckonOrder 46 = .ok (.iastore, 1) := by decide +kernel
theorem dP_reckonOrder_47 : decode cP_reckonOrder 47 = .ok (.iinc 1 1, 3) := by decide +kernel
theorem dP_reckonOrder_50 : decode cP_reckonOrder 50 = .ok (.iinc 3 1, 3) := by decide +kernel
theorem dP_reckonOrder_53 : decode cP_reckonOrder 53 = .ok (.goto (-39), 3) := by decide +kernel
theorem dP_reckonOrder_56 : decode cP_reckonOrder 56 = .ok (.iinc 2 1, 3) := by decide +kernel
theorem dP_reckonOrder_59 : decode cP_reckonOrder 59 = .ok (.goto (-55), 3) := by decide +kernel
theorem dP_reckonOrder_62 : decode cP_reckonOrder 62 = .ok (.return_, 1) := by decide +kernel
theorem dP_reckonSteps_0 : decode cP_reckonSteps 0 = .ok (.aload_n 0, 1) := by decide +kernel
theorem dP_reckonSteps_1 : decode cP_reckonSteps 1 = .ok (.getfield 18, 3) := by decide +kernel
theorem dP_reckonSteps_4 : decode cP_reckonSteps 4 = .ok (.iconst 0, 1) := by decide +kernel
theorem dP_reckonSteps_5 : decode cP_reckonSteps 5 = .ok (.invokestatic 44, 3) := by decide +kernel
theorem dP_reckonSteps_8 : decode cP_reckonSteps 8 = .ok (.iconst 1, 1) := by decide +kernel
theorem dP_reckonSteps_9 : decode cP_reckonSteps 9 = .ok (.istore_n 1, 1) := by decide +kernel
theorem dP_reckonSteps_10 : decode cP_reckonSteps 10 = .ok (.iconst 0, 1) := by decide +kernel
theorem dP_reckonSteps_11 : decode cP_reckonSteps 11 = .ok (.istore_n 2, 1) := by decide +kernel
theorem dP_reckonSteps_12 : decode cP_reckonSteps 12 = .ok (.iload_n 2, 1) := by decide +kernel
theorem dP_reckonSteps_13 : decode cP_reckonSteps 13 = .ok (.aload_n 0, 1) := by decide +kernel
theorem dP_reckonSteps_14 : decode cP_reckonSteps 14 = .ok (.getfield 41, 3) := by decide +kernel
theorem dP_reckonSteps_17 : decode cP_reckonSteps 17 = .ok (.if_icmp .ge 87, 3) := by decide +kernel
theorem dP_reckonSteps_20 : decode cP_reckonSteps 20 = .ok (.iload_n 1, 1) := by decide +kernel
theorem dP_reckonSteps_21 : decode cP_reckonSteps 21 = .ok (.ifCond .eq 83, 3) := by decide +kernel
