theorem dK_kinWithLiving_29 : decode cK_kinWithLiving 29 = .ok (.iload_n 1, 1) := by decide +kernel
theorem dK_kinWithLiving_30 : decode cK_kinWithLiving 30 = .ok (.iload 4, 2) := by decide +kernel
theorem dK_kinWithLiving_32 : decode cK_kinWithLiving 32 = .ok (.invokevirtual 95, 3) := by decide +kernel
theorem dK_kinWithLiving_35 : decode cK_kinWithLiving 35 = .ok (.ladd, 1) := by decide +kernel
theorem dK_kinWithLiving_36 : decode cK_kinWithLiving 36 = .ok (.lstore_n 2, 1) := by decide +kernel
theorem dK_kinWithLiving_37 : decode cK_kinWithLiving 37 = .ok (.iinc 4 1, 3) := by decide +kernel
theorem dK_kinWithLiving_40 : decode cK_kinWithLiving 40 = .ok (.goto (-35), 3) := by decide +kernel
theorem dK_kinWithLiving_43 : decode cK_kinWithLiving 43 = .ok (.lload_n 2, 1) := by decide +kernel
theorem dK_kinWithLiving_44 : decode cK_kinWithLiving 44 = .ok (.lreturn, 1) := by decide +kernel
theorem dK_parents_0 : decode cK_parents 0 = .ok (.aload_n 0, 1) := by decide +kernel
theorem dK_parents_1 : decode cK_parents 1 = .ok (.getfield 38, 3) := by decide +kernel
theorem dK_parents_4 : decode cK_parents 4 = .ok (.invokevirtual 55, 3) := by decide +kernel
theorem dK_parents_7 : decode cK_parents 7 = .ok (.aload_n 0, 1) := by decide +kernel
theorem dK_parents_8 : decode cK_parents 8 = .ok (.iload_n 1, 1) := by decide +kernel
theorem dK_parents_9 : decode cK_parents 9 = .ok (.invokevirtual 58, 3) := by decide +kernel
theorem dK_parents_12 : decode cK_parents 12 = .ok (.ifCond .eq 19, 3) := by decide +kernel
theorem dK_parents_15 : decode cK_parents 15 = .ok (.aload_n 0, 1) := by decide +kernel
theorem dK_parents_16 : decode cK_parents 16 = .ok (.iload_n 2, 1) := by decide +kernel
theorem dK_parents_17 : decode cK_parents 17 = .ok (.invokevirtual 62, 3) := by decide +kernel
theorem dK_parents_20 : decode cK_parents 20 = .ok (.ifCond .eq 11, 3) := by decide +kernel
theorem dK_parents_23 : decode cK_parents 23 = .ok (.aload_n 0, 1) := by decide +kernel
theorem dK_parents_24 : decode cK_parents 24 = .ok (.iload_n 3, 1) := by decide +kernel
theorem dK_parents_25 : decode cK_parents 25 = .ok (.invokevirtual 62, 3) := by decide +kernel
theorem dK_parents_28 : decode cK_parents 28 = .ok (.ifCond .ne 5, 3) := by decide +kernel
theorem dK_parents_31 : decode cK_parents 31 = .ok (.iconst 0, 1) := by decide +kernel
theorem dK_parents_32 : decode cK_parents 32 = .ok (.ireturn, 1) := by decide +kernel
theorem dK_parents_33 : decode cK_parents 33 = .ok (.iload_n 2, 1) := by decide +kernel
theorem dK_parents_34 : decode cK_parents 34 = .ok (.iload_n 3, 1) := by decide +kernel
theorem dK_parents_35 : decode cK_parents 35 = .ok (.if_icmp .ne 10, 3) := by decide +kernel
theorem dK_parents_38 : decode cK_parents 38 = .ok (.iload_n 2, 1) := by decide +kernel
theorem dK_parents_39 : decode cK_parents 39 = .ok (.iconst (-1), 1) := by decide +kernel
theorem dK_parents_40 : decode cK_parents 40 = .ok (.if_icmp .eq 5, 3) := by decide +kernel
theorem dK_parents_43 : decode cK_parents 43 = .ok (.iconst 0, 1) := by decide +kernel
theorem dK_parents_44 : decode cK_parents 44 = .ok (.ireturn, 1) := by decide +kernel
theorem dK_parents_45 : decode cK_parents 45 = .ok (.aload_n 0, 1) := by decide +kernel
theorem dK_parents_46 : decode cK_parents 46 = .ok (.getfield 38, 3) := by decide +kernel
theorem dK_parents_49 : decode cK_parents 49 = .ok (.iload_n 1, 1) := by decide +kernel
theorem dK_parents_50 : decode cK_parents 50 = .ok (.iload_n 2, 1) := by decide +kernel
theorem dK_parents_51 : decode cK_parents 51 = .ok (.iload_n 3, 1) := by decide +kernel
theorem dK_parents_52 : decode cK_parents 52 = .ok (.invokevirtual 65, 3) := by decide +kernel
theorem dK_parents_55 : decode cK_parents 55 = .ok (.ifCond .eq 15, 3) := by decide +kernel
theorem dK_parents_58 : decode cK_parents 58 = .ok (.aload_n 0, 1) := by decide +kernel
theorem dK_parents_59 : decode cK_parents 59 = .ok (.getfield 38, 3) := by decide +kernel
theorem dK_parents_62 : decode cK_parents 62 = .ok (.iload_n 1, 1) := by decide +kernel
theorem dK_parents_63 : decode cK_parents 63 = .ok (.iload_n 2, 1) := by decide +kernel
theorem dK_parents_64 : decode cK_parents 64 = .ok (.iload_n 3, 1) := by decide +kernel
theorem dK_parents_65 : decode cK_parents 65 = .ok (.invokevirtual 69, 3) := by decide +kernel
theorem dK_parents_68 : decode cK_parents 68 = .ok (.iconst 0, 1) := by decide +kernel
theorem dK_parents_69 : decode cK_parents 69 = .ok (.ireturn, 1) := by decide +kernel
theorem dK_parents_70 : decode cK_parents 70 = .ok (.aload_n 0, 1) := by decide +kernel
theorem dK_parents_71 : decode cK_parents 71 = .ok (.iload_n 1, 1) := by decide +kernel
theorem dK_parents_72 : decode cK_parents 72 = .ok (.iload_n 2, 1) := by decide +kernel
theorem dK_parents_73 : decode cK_parents 73 = .ok (.iload_n 3, 1) := by decide +kernel
theorem dK_parents_74 : decode cK_parents 74 = .ok (.invokevirtual 73, 3) := by decide +kernel
theorem dK_parents_77 : decode cK_parents 77 = .ok (.ifCond .ne 5, 3) := by decide +kernel
theorem dK_parents_80 : decode cK_parents 80 = .ok (.iconst 0, 1) := by decide +kernel
theorem dK_parents_81 : decode cK_parents 81 = .ok (.ireturn, 1) := by decide +kernel
theorem dK_parents_82 : decode cK_parents 82 = .ok (.aload_n 0, 1) := by decide +kernel
theorem dK_parents_83 : decode cK_parents 83 = .ok (.getfield 38, 3) := by decide +kernel
theorem dK_parents_86 : decode cK_parents 86 = .ok (.iload_n 1, 1) := by decide +kernel
theorem dK_parents_87 : decode cK_parents 87 = .ok (.iload_n 2, 1) := by decide +kernel
theorem dK_parents_88 : decode cK_parents 88 = .ok (.iload_n 3, 1) := by decide +kernel
theorem dK_parents_89 : decode cK_parents 89 = .ok (.invokevirtual 76, 3) := by decide +kernel
theorem dK_parents_92 : decode cK_parents 92 = .ok (.iconst 1, 1) := by decide +kernel
theorem dK_parents_93 : decode cK_parents 93 = .ok (.ireturn, 1) := by decide +kernel
theorem dK_ring_0 : decode cK_ring 0 = .ok (.aload_n 0, 1) := by decide +kernel
theorem dK_ring_1 : decode cK_ring 1 = .ok (.getfield 38, 3) := by decide +kernel
theorem dK_ring_4 : decode cK_ring 4 = .ok (.iload_n 1, 1) := by decide +kernel
theorem dK_ring_5 : decode cK_ring 5 = .ok (.invokevirtual 79, 3) := by decide +kernel
theorem dK_ring_8 : decode cK_ring 8 = .ok (.ireturn, 1) := by decide +kernel
theorem dK_told_0 : decode cK_told 0 = .ok (.aload_n 0, 1) := by decide +kernel
theorem dK_told_1 : decode cK_told 1 = .ok (.iload_n 1, 1) := by decide +kernel
theorem dK_told_2 : decode cK_told 2 = .ok (.invokevirtual 58, 3) := by decide +kernel
theorem dK_told_5 : decode cK_told 5 = .ok (.ifCond .eq 23, 3) := by decide +kernel
theorem dK_told_8 : decode cK_told 8 = .ok (.iload_n 2, 1) := by decide +kernel
theorem dK_told_9 : decode cK_told 9 = .ok (.ifCond .lt 19, 3) := by decide +kernel
theorem dK_told_12 : decode cK_told 12 = .ok (.iload_n 2, 1) := by decide +kernel
theorem dK_told_13 : decode cK_told 13 = .ok (.iconst 2, 1) := by decide +kernel
theorem dK_told_14 : decode cK_told 14 = .ok (.if_icmp .gt 14, 3) := by decide +kernel
theorem dK_told_17 : decode cK_told 17 = .ok (.iload_n 3, 1) := by decide +kernel
theorem dK_told_18 : decode cK_told 18 = .ok (.iconst (-1), 1) := by decide +kernel
theorem dK_told_19 : decode cK_told 19 = .ok (.if_icmp .lt 9, 3) := by decide +kernel
theorem dK_told_22 : decode cK_told 22 = .ok (.iload_n 3, 1) := by decide +kernel
theorem dK_told_23 : decode cK_told 23 = .ok (.ldc 83, 2) := by decide +kernel
theorem dK_told_25 : decode cK_told 25 = .ok (.if_icmp .le 5, 3) := by decide +kernel
theorem dK_told_28 : decode cK_told 28 = .ok (.iconst 0, 1) := by decide +kernel
theorem dK_told_29 : decode cK_told 29 = .ok (.ireturn, 1) := by decide +kernel
theorem dK_told_30 : decode cK_told 30 = .ok (.aload_n 0, 1) := by decide +kernel
theorem dK_told_31 : decode cK_told 31 = .ok (.getfield 9, 3) := by decide +kernel
theorem dK_told_34 : decode cK_told 34 = .ok (.iload_n 1, 1) := by decide +kernel
theorem dK_told_35 : decode cK_told 35 = .ok (.iaload, 1) := by decide +kernel
theorem dK_told_36 : decode cK_told 36 = .ok (.istore 4, 2) := by decide +kernel
theorem dK_told_38 : decode cK_told 38 = .ok (.aload_n 0, 1) := by decide +kernel
theorem dK_told_39 : decode cK_told 39 = .ok (.getfield 13, 3) := by decide +kernel
theorem dK_told_42 : decode cK_told 42 = .ok (.iload_n 1, 1) := by decide +kernel
theorem dK_told_43 : decode cK_told 43 = .ok (.iaload, 1) := by decide +kernel
theorem dK_told_44 : decode cK_told 44 = .ok (.istore 5, 2) := by decide +kernel
theorem dK_told_46 : decode cK_told 46 = .ok (.aload_n 0, 1) := by decide +kernel
theorem dK_told_47 : decode cK_told 47 = .ok (.getfield 9, 3) := by decide +kernel
theorem dK_told_50 : decode cK_told 50 = .ok (.iload_n 1, 1) := by decide +kernel
theorem dK_told_51 : decode cK_told 51 = .ok (.iload_n 2, 1) := by decide +kernel
theorem dK_told_52 : decode cK_told 52 = .ok (.iastore, 1) := by decide +kernel
theorem dK_told_53 : decode cK_told 53 = .ok (.aload_n 0, 1) := by decide +kernel
theorem dK_told_54 : decode cK_told 54 = .ok (.getfield 13, 3) := by decide +kernel
theorem dK_told_57 : decode cK_told 57 = .ok (.iload_n 1, 1) := by decide +kernel
theorem dK_told_58 : decode cK_told 58 = .ok (.iload_n 3, 1) := by decide +kernel
theorem dK_told_59 : decode cK_told 59 = .ok (.iastore, 1) := by decide +kernel
theorem dK_told_60 : decode cK_told 60 = .ok (.aload_n 0, 1) := by decide +kernel
theorem dK_told_61 : decode cK_told 61 = .ok (.invokevirtual 84, 3) := by decide +kernel
theorem dK_told_64 : decode cK_told 64 = .ok (.ifCond .eq 5, 3) := by decide +kernel
theorem dK_told_67 : decode cK_told 67 = .ok (.iconst 1, 1) := by decide +kernel
theorem dK_told_68 : decode cK_told 68 = .ok (.ireturn, 1) := by decide +kernel
theorem dK_told_69 : decode cK_told 69 = .ok (.aload_n 0, 1) := by decide +kernel
theorem dK_told_70 : decode cK_told 70 = .ok (.getfield 9, 3) := by decide +kernel
theorem dK_told_73 : decode cK_told 73 = .ok (.iload_n 1, 1) := by decide +kernel
theorem dK_told_74 : decode cK_told 74 = .ok (.iload 4, 2) := by decide +kernel
theorem dK_told_76 : decode cK_told 76 = .ok (.iastore, 1) := by decide +kernel
theorem dK_told_77 : decode cK_told 77 = .ok (.aload_n 0, 1) := by decide +kernel
theorem dK_told_78 : decode cK_told 78 = .ok (.getfield 13, 3) := by decide +kernel
theorem dK_told_81 : decode cK_told 81 = .ok (.iload_n 1, 1) := by decide +kernel
theorem dK_told_82 : decode cK_told 82 = .ok (.iload 5, 2) := by decide +kernel
theorem dK_told_84 : decode cK_told 84 = .ok (.iastore, 1) := by decide +kernel
theorem dK_told_85 : decode cK_told 85 = .ok (.iconst 0, 1) := by decide +kernel
theorem dK_told_86 : decode cK_told 86 = .ok (.ireturn, 1) := by decide +kernel
theorem dK_lives_0 : decode cK_lives 0 = .ok (.aload_n 0, 1) := by decide +kernel
theorem dK_lives_1 : decode cK_lives 1 = .ok (.iload_n 1, 1) := by decide +kernel
theorem dK_lives_2 : decode cK_lives 2 = .ok (.invokevirtual 58, 3) := by decide +kernel
theorem dK_lives_5 : decode cK_lives 5 = .ok (.ifCond .ne 5, 3) := by decide +kernel
theorem dK_lives_8 : decode cK_lives 8 = .ok (.iconst 0, 1) := by decide +kernel
theorem dK_lives_9 : decode cK_lives 9 = .ok (.ireturn, 1) := by decide +kernel
theorem dK_lives_10 : decode cK_lives 10 = .ok (.aload_n 0, 1) := by decide +kernel
theorem dK_lives_11 : decode cK_lives 11 = .ok (.getfield 16, 3) := by decide +kernel
theorem dK_lives_14 : decode cK_lives 14 = .ok (.iload_n 1, 1) := by decide +kernel
theorem dK_lives_15 : decode cK_lives 15 = .ok (.iload_n 2, 1) := by decide +kernel
theorem dK_lives_16 : decode cK_lives 16 = .ok (.ifCond .ne 7, 3) := by decide +kernel
theorem dK_lives_19 : decode cK_lives 19 = .ok (.iconst 1, 1) := by decide +kernel
theorem dK_lives_20 : decode cK_lives 20 = .ok (.goto 4, 3) := by decide +kernel
theorem dK_lives_23 : decode cK_lives 23 = .ok (.iconst 0, 1) := by decide +kernel
theorem dK_lives_24 : decode cK_lives 24 = .ok (.bastore, 1) := by decide +kernel
theorem dK_lives_25 : decode cK_lives 25 = .ok (.iconst 1, 1) := by decide +kernel
theorem dK_lives_26 : decode cK_lives 26 = .ok (.ireturn, 1) := by decide +kernel
theorem dK_kin_0 : decode cK_kin 0 = .ok (.aload_n 0, 1) := by decide +kernel
theorem dK_kin_1 : decode cK_kin 1 = .ok (.iload_n 1, 1) := by decide +kernel
theorem dK_kin_2 : decode cK_kin 2 = .ok (.invokevirtual 58, 3) := by decide +kernel
theorem dK_kin_5 : decode cK_kin 5 = .ok (.ifCond .eq 18, 3) := by decide +kernel
theorem dK_kin_8 : decode cK_kin 8 = .ok (.aload_n 0, 1) := by decide +kernel
theorem dK_kin_9 : decode cK_kin 9 = .ok (.iload_n 2, 1) := by decide +kernel
theorem dK_kin_10 : decode cK_kin 10 = .ok (.invokevirtual 58, 3) := by decide +kernel
theorem dK_kin_13 : decode cK_kin 13 = .ok (.ifCond .eq 10, 3) := by decide +kernel
theorem dK_kin_16 : decode cK_kin 16 = .ok (.iload_n 3, 1) := by decide +kernel
theorem dK_kin_17 : decode cK_kin 17 = .ok (.invokestatic 88, 3) := by decide +kernel
theorem dK_kin_20 : decode cK_kin 20 = .ok (.ifCond .ne 7, 3) := by decide +kernel
theorem dK_kin_23 : decode cK_kin 23 = .ok (.ldc2_w 93, 3) := by decide +kernel
theorem dK_kin_26 : decode cK_kin 26 = .ok (.lreturn, 1) := by decide +kernel
theorem dK_kin_27 : decode cK_kin 27 = .ok (.aload_n 0, 1) := by decide +kernel
theorem dK_kin_28 : decode cK_kin 28 = .ok (.getfield 38, 3) := by decide +kernel
theorem dK_kin_31 : decode cK_kin 31 = .ok (.iload_n 1, 1) := by decide +kernel
theorem dK_kin_32 : decode cK_kin 32 = .ok (.iload_n 2, 1) := by decide +kernel
theorem dK_kin_33 : decode cK_kin 33 = .ok (.invokevirtual 95, 3) := by decide +kernel
theorem dK_kin_36 : decode cK_kin 36 = .ok (.ldc2_w 99, 3) := by decide +kernel
theorem dK_kin_39 : decode cK_kin 39 = .ok (.iload_n 3, 1) := by decide +kernel
theorem dK_kin_40 : decode cK_kin 40 = .ok (.invokestatic 101, 3) := by decide +kernel
theorem dK_kin_43 : decode cK_kin 43 = .ok (.lreturn, 1) := by decide +kernel
theorem dK_inbred_0 : decode cK_inbred 0 = .ok (.aload_n 0, 1) := by decide +kernel
theorem dK_inbred_1 : decode cK_inbred 1 = .ok (.iload_n 1, 1) := by decide +kernel
theorem dK_inbred_2 : decode cK_inbred 2 = .ok (.invokevirtual 58, 3) := by decide +kernel
theorem dK_inbred_5 : decode cK_inbred 5 = .ok (.ifCond .eq 10, 3) := by decide +kernel
theorem dK_inbred_8 : decode cK_inbred 8 = .ok (.iload_n 2, 1) := by decide +kernel
theorem dK_inbred_9 : decode cK_inbred 9 = .ok (.invokestatic 88, 3) := by decide +kernel
theorem dK_inbred_12 : decode cK_inbred 12 = .ok (.ifCond .ne 7, 3) := by decide +kernel
theorem dK_inbred_15 : decode cK_inbred 15 = .ok (.ldc2_w 93, 3) := by decide +kernel
theorem dK_inbred_18 : decode cK_inbred 18 = .ok (.lreturn, 1) := by decide +kernel
theorem dK_inbred_19 : decode cK_inbred 19 = .ok (.aload_n 0, 1) := by decide +kernel
theorem dK_inbred_20 : decode cK_inbred 20 = .ok (.getfield 38, 3) := by decide +kernel
theorem dK_inbred_23 : decode cK_inbred 23 = .ok (.iload_n 1, 1) := by decide +kernel
theorem dK_inbred_24 : decode cK_inbred 24 = .ok (.invokevirtual 105, 3) := by decide +kernel
theorem dK_inbred_27 : decode cK_inbred 27 = .ok (.ldc2_w 99, 3) := by decide +kernel
theorem dK_inbred_30 : decode cK_inbred 30 = .ok (.iload_n 2, 1) := by decide +kernel
theorem dK_inbred_31 : decode cK_inbred 31 = .ok (.invokestatic 101, 3) := by decide +kernel
theorem dK_inbred_34 : decode cK_inbred 34 = .ok (.lreturn, 1) := by decide +kernel
theorem dK_chance_0 : decode cK_chance 0 = .ok (.aload_n 0, 1) := by decide +kernel
theorem dK_chance_1 : decode cK_chance 1 = .ok (.iload_n 1, 1) := by decide +kernel
theorem dK_chance_2 : decode cK_chance 2 = .ok (.invokevirtual 58, 3) := by decide +kernel
theorem dK_chance_5 : decode cK_chance 5 = .ok (.ifCond .eq 10, 3) := by decide +kernel
theorem dK_chance_8 : decode cK_chance 8 = .ok (.iload_n 2, 1) := by decide +kernel
theorem dK_chance_9 : decode cK_chance 9 = .ok (.invokestatic 88, 3) := by decide +kernel
theorem dK_chance_12 : decode cK_chance 12 = .ok (.ifCond .ne 7, 3) := by decide +kernel
theorem dK_chance_15 : decode cK_chance 15 = .ok (.ldc2_w 93, 3) := by decide +kernel
theorem dK_chance_18 : decode cK_chance 18 = .ok (.lreturn, 1) := by decide +kernel
theorem dK_chance_19 : decode cK_chance 19 = .ok (.aload_n 0, 1) := by decide +kernel
theorem dK_chance_20 : decode cK_chance 20 = .ok (.getfield 38, 3) := by decide +kernel
theorem dK_chance_23 : decode cK_chance 23 = .ok (.iload_n 1, 1) := by decide +kernel
theorem dK_chance_24 : decode cK_chance 24 = .ok (.invokevirtual 109, 3) := by decide +kernel
theorem dK_chance_27 : decode cK_chance 27 = .ok (.ldc2_w 99, 3) := by decide +kernel
theorem dK_chance_30 : decode cK_chance 30 = .ok (.iload_n 2, 1) := by decide +kernel
theorem dK_chance_31 : decode cK_chance 31 = .ok (.invokestatic 101, 3) := by decide +kernel
theorem dK_chance_34 : decode cK_chance 34 = .ok (.lreturn, 1) := by decide +kernel
theorem dK_share_0 : decode cK_share 0 = .ok (.aload_n 0, 1) := by decide +kernel
theorem dK_share_1 : decode cK_share 1 = .ok (.iload_n 1, 1) := by decide +kernel
theorem dK_share_2 : decode cK_share 2 = .ok (.invokevirtual 58, 3) := by decide +kernel
theorem dK_share_5 : decode cK_share 5 = .ok (.ifCond .eq 21, 3) := by decide +kernel
theorem dK_share_8 : decode cK_share 8 = .ok (.aload_n 0, 1) := by decide +kernel
theorem dK_share_9 : decode cK_share 9 = .ok (.getfield 38, 3) := by decide +kernel
theorem dK_share_12 : decode cK_share 12 = .ok (.iload_n 2, 1) := by decide +kernel
theorem dK_share_13 : decode cK_share 13 = .ok (.invokevirtual 112, 3) := by decide +kernel
theorem dK_share_16 : decode cK_share 16 = .ok (.ifCond .eq 10, 3) := by decide +kernel
theorem dK_share_19 : decode cK_share 19 = .ok (.iload_n 3, 1) := by decide +kernel
theorem dK_share_20 : decode cK_share 20 = .ok (.invokestatic 88, 3) := by decide +kernel
theorem dK_share_23 : decode cK_share 23 = .ok (.ifCond .ne 7, 3) := by decide +kernel
theorem dK_share_26 : decode cK_share 26 = .ok (.ldc2_w 93, 3) := by decide +kernel
theorem dK_share_29 : decode cK_share 29 = .ok (.lreturn, 1) := by decide +kernel
theorem dK_share_30 : decode cK_share 30 = .ok (.aload_n 0, 1) := by decide +kernel
theorem dK_share_31 : decode cK_share 31 = .ok (.getfield 38, 3) := by decide +kernel
theorem dK_share_34 : decode cK_share 34 = .ok (.iload_n 1, 1) := by decide +kernel
theorem dK_share_35 : decode cK_share 35 = .ok (.iload_n 2, 1) := by decide +kernel
theorem dK_share_36 : decode cK_share 36 = .ok (.invokevirtual 115, 3) := by decide +kernel
theorem dK_share_39 : decode cK_share 39 = .ok (.ldc2_w 99, 3) := by decide +kernel
theorem dK_share_42 : decode cK_share 42 = .ok (.iload_n 3, 1) := by decide +kernel
theorem dK_share_43 : decode cK_share 43 = .ok (.invokestatic 101, 3) := by decide +kernel
theorem dK_share_46 : decode cK_share 46 = .ok (.lreturn, 1) := by decide +kernel
theorem dK_isForbear_0 : decode cK_isForbear 0 = .ok (.aload_n 0, 1) := by decide +kernel
theorem dK_isForbear_1 : decode cK_isForbear 1 = .ok (.getfield 38, 3) := by decide +kernel
theorem dK_isForbear_4 : decode cK_isForbear 4 = .ok (.iload_n 2, 1) := by decide +kernel
theorem dK_isForbear_5 : decode cK_isForbear 5 = .ok (.iload_n 1, 1) := by decide +kernel
theorem dK_isForbear_6 : decode cK_isForbear 6 = .ok (.invokevirtual 118, 3) := by decide +kernel
theorem dK_isForbear_9 : decode cK_isForbear 9 = .ok (.ireturn, 1) := by decide +kernel
theorem dK_order_0 : decode cK_order 0 = .ok (.aload_n 0, 1) := by decide +kernel
theorem dK_order_1 : decode cK_order 1 = .ok (.getfield 38, 3) := by decide +kernel
theorem dK_order_4 : decode cK_order 4 = .ok (.iload_n 1, 1) := by decide +kernel
theorem dK_order_5 : decode cK_order 5 = .ok (.invokevirtual 122, 3) := by decide +kernel
theorem dK_order_8 : decode cK_order 8 = .ok (.ireturn, 1) := by decide +kernel
theorem dK_mark_0 : decode cK_mark 0 = .ok (.aload_n 0, 1) := by decide +kernel
theorem dK_mark_1 : decode cK_mark 1 = .ok (.getfield 45, 3) := by decide +kernel
theorem dK_mark_4 : decode cK_mark 4 = .ok (.iload_n 1, 1) := by decide +kernel
theorem dK_mark_5 : decode cK_mark 5 = .ok (.iload_n 2, 1) := by decide +kernel
theorem dK_mark_6 : decode cK_mark 6 = .ok (.iload_n 3, 1) := by decide +kernel
theorem dK_mark_7 : decode cK_mark 7 = .ok (.invokevirtual 125, 3) := by decide +kernel
theorem dK_mark_10 : decode cK_mark 10 = .ok (.ireturn, 1) := by decide +kernel
theorem dK_left_0 : decode cK_left 0 = .ok (.aload_n 0, 1) := by decide +kernel
theorem dK_left_1 : decode cK_left 1 = .ok (.iload_n 1, 1) := by decide +kernel
theorem dK_left_2 : decode cK_left 2 = .ok (.invokevirtual 58, 3) := by decide +kernel
theorem dK_left_5 : decode cK_left 5 = .ok (.ifCond .eq 13, 3) := by decide +kernel
theorem dK_left_8 : decode cK_left 8 = .ok (.iload_n 2, 1) := by decide +kernel
theorem dK_left_9 : decode cK_left 9 = .ok (.iconst 1, 1) := by decide +kernel
theorem dK_left_10 : decode cK_left 10 = .ok (.if_icmp .eq 10, 3) := by decide +kernel
theorem dK_left_13 : decode cK_left 13 = .ok (.iload_n 2, 1) := by decide +kernel
theorem dK_left_14 : decode cK_left 14 = .ok (.iconst 2, 1) := by decide +kernel
theorem dK_left_15 : decode cK_left 15 = .ok (.if_icmp .eq 5, 3) := by decide +kernel
theorem dK_left_18 : decode cK_left 18 = .ok (.iconst (-1), 1) := by decide +kernel
theorem dK_left_19 : decode cK_left 19 = .ok (.ireturn, 1) := by decide +kernel
theorem dK_left_20 : decode cK_left 20 = .ok (.iload_n 2, 1) := by decide +kernel
theorem dK_left_21 : decode cK_left 21 = .ok (.iconst 1, 1) := by decide +kernel
theorem dK_left_22 : decode cK_left 22 = .ok (.if_icmp .ne 7, 3) := by decide +kernel
theorem dK_left_25 : decode cK_left 25 = .ok (.iconst 2, 1) := by decide +kernel
theorem dK_left_26 : decode cK_left 26 = .ok (.goto 4, 3) := by decide +kernel
theorem dK_left_29 : decode cK_left 29 = .ok (.iconst 1, 1) := by decide +kernel
theorem dK_left_30 : decode cK_left 30 = .ok (.istore_n 3, 1) := by decide +kernel
theorem dK_left_31 : decode cK_left 31 = .ok (.iconst 0, 1) := by decide +kernel
theorem dK_left_32 : decode cK_left 32 = .ok (.istore 4, 2) := by decide +kernel
theorem dK_left_34 : decode cK_left 34 = .ok (.iconst 0, 1) := by decide +kernel
theorem dK_left_35 : decode cK_left 35 = .ok (.istore 5, 2) := by decide +kernel
theorem dK_left_37 : decode cK_left 37 = .ok (.iload 5, 2) := by decide +kernel
theorem dK_left_39 : decode cK_left 39 = .ok (.aload_n 0, 1) := by decide +kernel
theorem dK_left_40 : decode cK_left 40 = .ok (.getfield 29, 3) := by decide +kernel
theorem dK_left_43 : decode cK_left 43 = .ok (.if_icmp .ge 42, 3) := by decide +kernel
theorem dK_left_46 : decode cK_left 46 = .ok (.iload 5, 2) := by decide +kernel
theorem dK_left_48 : decode cK_left 48 = .ok (.iload_n 1, 1) := by decide +kernel
theorem dK_left_49 : decode cK_left 49 = .ok (.if_icmp .eq 30, 3) := by decide +kernel
theorem dK_left_52 : decode cK_left 52 = .ok (.aload_n 0, 1) := by decide +kernel
theorem dK_left_53 : decode cK_left 53 = .ok (.getfield 9, 3) := by decide +kernel
theorem dK_left_56 : decode cK_left 56 = .ok (.iload 5, 2) := by decide +kernel
theorem dK_left_58 : decode cK_left 58 = .ok (.iaload, 1) := by decide +kernel
theorem dK_left_59 : decode cK_left 59 = .ok (.iload_n 3, 1) := by decide +kernel
theorem dK_left_60 : decode cK_left 60 = .ok (.if_icmp .eq 19, 3) := by decide +kernel
theorem dK_left_63 : decode cK_left 63 = .ok (.aload_n 0, 1) := by decide +kernel
theorem dK_left_64 : decode cK_left 64 = .ok (.getfield 45, 3) := by decide +kernel
theorem dK_left_67 : decode cK_left 67 = .ok (.iload_n 1, 1) := by decide +kernel
theorem dK_left_68 : decode cK_left 68 = .ok (.iload 5, 2) := by decide +kernel
theorem dK_left_70 : decode cK_left 70 = .ok (.invokevirtual 128, 3) := by decide +kernel
theorem dK_left_73 : decode cK_left 73 = .ok (.ifCond .ne 6, 3) := by decide +kernel
theorem dK_left_76 : decode cK_left 76 = .ok (.iinc 4 1, 3) := by decide +kernel
theorem dK_left_79 : decode cK_left 79 = .ok (.iinc 5 1, 3) := by decide +kernel
theorem dK_left_82 : decode cK_left 82 = .ok (.goto (-45), 3) := by decide +kernel
theorem dK_left_85 : decode cK_left 85 = .ok (.iload 4, 2) := by decide +kernel
theorem dK_left_87 : decode cK_left 87 = .ok (.ireturn, 1) := by decide +kernel
theorem dK_odds_0 : decode cK_odds 0 = .ok (.aload_n 0, 1) := by decide +kernel
theorem dK_odds_1 : decode cK_odds 1 = .ok (.iload_n 1, 1) := by decide +kernel
theorem dK_odds_2 : decode cK_odds 2 = .ok (.invokevirtual 58, 3) := by decide +kernel
theorem dK_odds_5 : decode cK_odds 5 = .ok (.ifCond .eq 23, 3) := by decide +kernel
theorem dK_odds_8 : decode cK_odds 8 = .ok (.aload_n 0, 1) := by decide +kernel
theorem dK_odds_9 : decode cK_odds 9 = .ok (.iload_n 2, 1) := by decide +kernel
theorem dK_odds_10 : decode cK_odds 10 = .ok (.invokevirtual 58, 3) := by decide +kernel
theorem dK_odds_13 : decode cK_odds 13 = .ok (.ifCond .eq 15, 3) := by decide +kernel
theorem dK_odds_16 : decode cK_odds 16 = .ok (.iload_n 1, 1) := by decide +kernel
theorem dK_odds_17 : decode cK_odds 17 = .ok (.iload_n 2, 1) := by decide +kernel
theorem dK_odds_18 : decode cK_odds 18 = .ok (.if_icmp .eq 10, 3) := by decide +kernel
theorem dK_odds_21 : decode cK_odds 21 = .ok (.iload_n 3, 1) := by decide +kernel
theorem dK_odds_22 : decode cK_odds 22 = .ok (.invokestatic 88, 3) := by decide +kernel
theorem dK_odds_25 : decode cK_odds 25 = .ok (.ifCond .ne 7, 3) := by decide +kernel
theorem dK_odds_28 : decode cK_odds 28 = .ok (.ldc2_w 93, 3) := by decide +kernel
theorem dK_odds_31 : decode cK_odds 31 = .ok (.lreturn, 1) := by decide +kernel
theorem dK_odds_32 : decode cK_odds 32 = .ok (.aload_n 0, 1) := by decide +kernel
theorem dK_odds_33 : decode cK_odds 33 = .ok (.getfield 45, 3) := by decide +kernel
theorem dK_odds_36 : decode cK_odds 36 = .ok (.iload_n 1, 1) := by decide +kernel
theorem dK_odds_37 : decode cK_odds 37 = .ok (.iload_n 2, 1) := by decide +kernel
theorem dK_odds_38 : decode cK_odds 38 = .ok (.iload_n 3, 1) := by decide +kernel
theorem dK_odds_39 : decode cK_odds 39 = .ok (.invokevirtual 131, 3) := by decide +kernel
theorem dK_odds_42 : decode cK_odds 42 = .ok (.lreturn, 1) := by decide +kernel
theorem dK_like_0 : decode cK_like 0 = .ok (.aload_n 0, 1) := by decide +kernel
theorem dK_like_1 : decode cK_like 1 = .ok (.iload_n 1, 1) := by decide +kernel
theorem dK_like_2 : decode cK_like 2 = .ok (.invokevirtual 58, 3) := by decide +kernel
theorem dK_like_5 : decode cK_like 5 = .ok (.ifCond .eq 18, 3) := by decide +kernel
theorem dK_like_8 : decode cK_like 8 = .ok (.aload_n 0, 1) := by decide +kernel
theorem dK_like_9 : decode cK_like 9 = .ok (.iload_n 2, 1) := by decide +kernel
theorem dK_like_10 : decode cK_like 10 = .ok (.invokevirtual 58, 3) := by decide +kernel
theorem dK_like_13 : decode cK_like 13 = .ok (.ifCond .eq 10, 3) := by decide +kernel
theorem dK_like_16 : decode cK_like 16 = .ok (.iload_n 3, 1) := by decide +kernel
theorem dK_like_17 : decode cK_like 17 = .ok (.invokestatic 88, 3) := by decide +kernel
theorem dK_like_20 : decode cK_like 20 = .ok (.ifCond .ne 7, 3) := by decide +kernel
theorem dK_like_23 : decode cK_like 23 = .ok (.ldc2_w 93, 3) := by decide +kernel
theorem dK_like_26 : decode cK_like 26 = .ok (.lreturn, 1) := by decide +kernel
theorem dK_like_27 : decode cK_like 27 = .ok (.aload_n 0, 1) := by decide +kernel
theorem dK_like_28 : decode cK_like 28 = .ok (.getfield 45, 3) := by decide +kernel
theorem dK_like_31 : decode cK_like 31 = .ok (.iload_n 1, 1) := by decide +kernel
theorem dK_like_32 : decode cK_like 32 = .ok (.iload_n 2, 1) := by decide +kernel
theorem dK_like_33 : decode cK_like 33 = .ok (.iload_n 3, 1) := by decide +kernel
theorem dK_like_34 : decode cK_like 34 = .ok (.invokevirtual 135, 3) := by decide +kernel
theorem dK_like_37 : decode cK_like 37 = .ok (.lreturn, 1) := by decide +kernel
theorem dK_lost_0 : decode cK_lost 0 = .ok (.iconst 0, 1) := by decide +kernel
theorem dK_lost_1 : decode cK_lost 1 = .ok (.istore_n 2, 1) := by decide +kernel
theorem dK_lost_2 : decode cK_lost 2 = .ok (.iconst 0, 1) := by decide +kernel
theorem dK_lost_3 : decode cK_lost 3 = .ok (.istore_n 3, 1) := by decide +kernel
theorem dK_lost_4 : decode cK_lost 4 = .ok (.iload_n 3, 1) := by decide +kernel
theorem dK_lost_5 : decode cK_lost 5 = .ok (.aload_n 0, 1) := by decide +kernel
theorem dK_lost_6 : decode cK_lost 6 = .ok (.getfield 29, 3) := by decide +kernel
theorem dK_lost_9 : decode cK_lost 9 = .ok (.if_icmp .ge 27, 3) := by decide +kernel
theorem dK_lost_12 : decode cK_lost 12 = .ok (.aload_n 0, 1) := by decide +kernel
theorem dK_lost_13 : decode cK_lost 13 = .ok (.iload_n 3, 1) := by decide +kernel
theorem dK_lost_14 : decode cK_lost 14 = .ok (.invokevirtual 138, 3) := by decide +kernel
theorem dK_lost_17 : decode cK_lost 17 = .ok (.ifCond .eq 13, 3) := by decide +kernel
theorem dK_lost_20 : decode cK_lost 20 = .ok (.iload_n 2, 1) := by decide +kernel
theorem dK_lost_21 : decode cK_lost 21 = .ok (.iload_n 1, 1) := by decide +kernel
theorem dK_lost_22 : decode cK_lost 22 = .ok (.if_icmp .ne 5, 3) := by decide +kernel
theorem dK_lost_25 : decode cK_lost 25 = .ok (.iload_n 3, 1) := by decide +kernel
theorem dK_lost_26 : decode cK_lost 26 = .ok (.ireturn, 1) := by decide +kernel
theorem dK_lost_27 : decode cK_lost 27 = .ok (.iinc 2 1, 3) := by decide +kernel
theorem dK_lost_30 : decode cK_lost 30 = .ok (.iinc 3 1, 3) := by decide +kernel
theorem dK_lost_33 : decode cK_lost 33 = .ok (.goto (-29), 3) := by decide +kernel
theorem dK_lost_36 : decode cK_lost 36 = .ok (.iconst (-1), 1) := by decide +kernel
theorem dK_lost_37 : decode cK_lost 37 = .ok (.ireturn, 1) := by decide +kernel
theorem dK_diverse_0 : decode cK_diverse 0 = .ok (.iload_n 1, 1) := by decide +kernel
theorem dK_diverse_1 : decode cK_diverse 1 = .ok (.invokestatic 88, 3) := by decide +kernel
theorem dK_diverse_4 : decode cK_diverse 4 = .ok (.ifCond .ne 7, 3) := by decide +kernel
theorem dK_diverse_7 : decode cK_diverse 7 = .ok (.ldc2_w 93, 3) := by decide +kernel
theorem dK_diverse_10 : decode cK_diverse 10 = .ok (.lreturn, 1) := by decide +kernel
theorem dK_diverse_11 : decode cK_diverse 11 = .ok (.lconst 0, 1) := by decide +kernel
theorem dK_diverse_12 : decode cK_diverse 12 = .ok (.lstore_n 2, 1) := by decide +kernel
theorem dK_diverse_13 : decode cK_diverse 13 = .ok (.lconst 0, 1) := by decide +kernel
theorem dK_diverse_14 : decode cK_diverse 14 = .ok (.lstore 4, 2) := by decide +kernel
theorem dK_diverse_16 : decode cK_diverse 16 = .ok (.iconst 0, 1) := by decide +kernel
theorem dK_diverse_17 : decode cK_diverse 17 = .ok (.istore 6, 2) := by decide +kernel
theorem dK_diverse_19 : decode cK_diverse 19 = .ok (.iload 6, 2) := by decide +kernel
theorem dK_diverse_21 : decode cK_diverse 21 = .ok (.aload_n 0, 1) := by decide +kernel
theorem dK_diverse_22 : decode cK_diverse 22 = .ok (.getfield 29, 3) := by decide +kernel
theorem dK_diverse_25 : decode cK_diverse 25 = .ok (.if_icmp .ge 34, 3) := by decide +kernel
theorem dK_diverse_28 : decode cK_diverse 28 = .ok (.aload_n 0, 1) := by decide +kernel
theorem dK_diverse_29 : decode cK_diverse 29 = .ok (.getfield 16, 3) := by decide +kernel
theorem dK_diverse_32 : decode cK_diverse 32 = .ok (.iload 6, 2) := by decide +kernel
theorem dK_diverse_34 : decode cK_diverse 34 = .ok (.baload, 1) := by decide +kernel
theorem dK_diverse_35 : decode cK_diverse 35 = .ok (.ifCond .ne 18, 3) := by decide +kernel
theorem dK_diverse_38 : decode cK_diverse 38 = .ok (.lload_n 2, 1) := by decide +kernel
theorem dK_diverse_39 : decode cK_diverse 39 = .ok (.lconst 1, 1) := by decide +kernel
theorem dK_diverse_40 : decode cK_diverse 40 = .ok (.ladd, 1) := by decide +kernel
theorem dK_diverse_41 : decode cK_diverse 41 = .ok (.lstore_n 2, 1) := by decide +kernel
theorem dK_diverse_42 : decode cK_diverse 42 = .ok (.lload 4, 2) := by decide +kernel
theorem dK_diverse_44 : decode cK_diverse 44 = .ok (.aload_n 0, 1) := by decide +kernel
theorem dK_diverse_45 : decode cK_diverse 45 = .ok (.iload 6, 2) := by decide +kernel
theorem dK_diverse_47 : decode cK_diverse 47 = .ok (.invokevirtual 141, 3) := by decide +kernel
theorem dK_diverse_50 : decode cK_diverse 50 = .ok (.ladd, 1) := by decide +kernel
theorem dK_diverse_51 : decode cK_diverse 51 = .ok (.lstore 4, 2) := by decide +kernel
theorem dK_diverse_53 : decode cK_diverse 53 = .ok (.iinc 6 1, 3) := by decide +kernel
theorem dK_diverse_56 : decode cK_diverse 56 = .ok (.goto (-37), 3) := by decide +kernel
theorem dK_diverse_59 : decode cK_diverse 59 = .ok (.lload_n 2, 1) := by decide +kernel
theorem dK_diverse_60 : decode cK_diverse 60 = .ok (.lconst 0, 1) := by decide +kernel
theorem dK_diverse_61 : decode cK_diverse 61 = .ok (.lcmp, 1) := by decide +kernel
theorem dK_diverse_62 : decode cK_diverse 62 = .ok (.ifCond .ne 9, 3) := by decide +kernel
theorem dK_diverse_65 : decode cK_diverse 65 = .ok (.ldc2_w 93, 3) := by decide +kernel
theorem dK_diverse_68 : decode cK_diverse 68 = .ok (.goto 16, 3) := by decide +kernel
theorem dK_diverse_71 : decode cK_diverse 71 = .ok (.lload 4, 2) := by decide +kernel
theorem dK_diverse_73 : decode cK_diverse 73 = .ok (.lload_n 2, 1) := by decide +kernel
theorem dK_diverse_74 : decode cK_diverse 74 = .ok (.lload_n 2, 1) := by decide +kernel
theorem dK_diverse_75 : decode cK_diverse 75 = .ok (.lmul, 1) := by decide +kernel
theorem dK_diverse_76 : decode cK_diverse 76 = .ok (.ldc2_w 99, 3) := by decide +kernel
theorem dK_diverse_79 : decode cK_diverse 79 = .ok (.lmul, 1) := by decide +kernel
theorem dK_diverse_80 : decode cK_diverse 80 = .ok (.iload_n 1, 1) := by decide +kernel
theorem dK_diverse_81 : decode cK_diverse 81 = .ok (.invokestatic 101, 3) := by decide +kernel
theorem dK_diverse_84 : decode cK_diverse 84 = .ok (.lreturn, 1) := by decide +kernel
theorem dK_animal_0 : decode cK_animal 0 = .ok (.aload_n 0, 1) := by decide +kernel
theorem dK_animal_1 : decode cK_animal 1 = .ok (.iload_n 1, 1) := by decide +kernel
theorem dK_animal_2 : decode cK_animal 2 = .ok (.invokevirtual 58, 3) := by decide +kernel
theorem dK_animal_5 : decode cK_animal 5 = .ok (.ifCond .ne 5, 3) := by decide +kernel
theorem dK_animal_8 : decode cK_animal 8 = .ok (.iconst (-1), 1) := by decide +kernel
theorem dK_animal_9 : decode cK_animal 9 = .ok (.ireturn, 1) := by decide +kernel
theorem dK_animal_10 : decode cK_animal 10 = .ok (.iload_n 2, 1) := by decide +kernel
theorem dK_animal_11 : decode cK_animal 11 = .ok (.tableswitch 93 0 5 #[37, 46, 55, 62, 69, 84], 37) := by decide +kernel
theorem dK_animal_48 : decode cK_animal 48 = .ok (.aload_n 0, 1) := by decide +kernel
theorem dK_animal_49 : decode cK_animal 49 = .ok (.getfield 38, 3) := by decide +kernel
theorem dK_animal_52 : decode cK_animal 52 = .ok (.iload_n 1, 1) := by decide +kernel
theorem dK_animal_53 : decode cK_animal 53 = .ok (.invokevirtual 144, 3) := by decide +kernel
theorem dK_animal_56 : decode cK_animal 56 = .ok (.ireturn, 1) := by decide +kernel
theorem dK_animal_57 : decode cK_animal 57 = .ok (.aload_n 0, 1) := by decide +kernel
theorem dK_animal_58 : decode cK_animal 58 = .ok (.getfield 38, 3) := by decide +kernel
theorem dK_animal_61 : decode cK_animal 61 = .ok (.iload_n 1, 1) := by decide +kernel
theorem dK_animal_62 : decode cK_animal 62 = .ok (.invokevirtual 147, 3) := by decide +kernel
theorem dK_animal_65 : decode cK_animal 65 = .ok (.ireturn, 1) := by decide +kernel
theorem dK_animal_66 : decode cK_animal 66 = .ok (.aload_n 0, 1) := by decide +kernel
theorem dK_animal_67 : decode cK_animal 67 = .ok (.getfield 9, 3) := by decide +kernel
theorem dK_animal_70 : decode cK_animal 70 = .ok (.iload_n 1, 1) := by decide +kernel
theorem dK_animal_71 : decode cK_animal 71 = .ok (.iaload, 1) := by decide +kernel
theorem dK_animal_72 : decode cK_animal 72 = .ok (.ireturn, 1) := by decide +kernel
theorem dK_animal_73 : decode cK_animal 73 = .ok (.aload_n 0, 1) := by decide +kernel
theorem dK_animal_74 : decode cK_animal 74 = .ok (.getfield 13, 3) := by decide +kernel
theorem dK_animal_77 : decode cK_animal 77 = .ok (.iload_n 1, 1) := by decide +kernel
theorem dK_animal_78 : decode cK_animal 78 = .ok (.iaload, 1) := by decide +kernel
theorem dK_animal_79 : decode cK_animal 79 = .ok (.ireturn, 1) := by decide +kernel
theorem dK_animal_80 : decode cK_animal 80 = .ok (.aload_n 0, 1) := by decide +kernel
theorem dK_animal_81 : decode cK_animal 81 = .ok (.getfield 16, 3) := by decide +kernel
theorem dK_animal_84 : decode cK_animal 84 = .ok (.iload_n 1, 1) := by decide +kernel
theorem dK_animal_85 : decode cK_animal 85 = .ok (.baload, 1) := by decide +kernel
theorem dK_animal_86 : decode cK_animal 86 = .ok (.ifCond .eq 7, 3) := by decide +kernel
theorem dK_animal_89 : decode cK_animal 89 = .ok (.iconst 0, 1) := by decide +kernel
theorem dK_animal_90 : decode cK_animal 90 = .ok (.goto 4, 3) := by decide +kernel
theorem dK_animal_93 : decode cK_animal 93 = .ok (.iconst 1, 1) := by decide +kernel
theorem dK_animal_94 : decode cK_animal 94 = .ok (.ireturn, 1) := by decide +kernel
theorem dK_animal_95 : decode cK_animal 95 = .ok (.aload_n 0, 1) := by decide +kernel
theorem dK_animal_96 : decode cK_animal 96 = .ok (.getfield 38, 3) := by decide +kernel
theorem dK_animal_99 : decode cK_animal 99 = .ok (.iload_n 1, 1) := by decide +kernel
theorem dK_animal_100 : decode cK_animal 100 = .ok (.invokevirtual 150, 3) := by decide +kernel
theorem dK_animal_103 : decode cK_animal 103 = .ok (.ireturn, 1) := by decide +kernel
theorem dK_animal_104 : decode cK_animal 104 = .ok (.iconst (-1), 1) := by decide +kernel
theorem dK_animal_105 : decode cK_animal 105 = .ok (.ireturn, 1) := by decide +kernel
theorem dP_init_0 : decode cP_init 0 = .ok (.aload_n 0, 1) := by decide +kernel
theorem dP_init_1 : decode cP_init 1 = .ok (.invokespecial 3, 3) := by decide +kernel
theorem dP_init_4 : decode cP_init 4 = .ok (.aload_n 0, 1) := by decide +kernel
theorem dP_init_5 : decode cP_init 5 = .ok (.bipush 24, 2) := by decide +kernel
theorem dP_init_7 : decode cP_init 7 = .ok (.newarray .int, 2) := by decide +kernel
theorem dP_init_9 : decode cP_init 9 = .ok (.putfield 9, 3) := by decide +kernel
theorem dP_init_12 : decode cP_init 12 = .ok (.aload_n 0, 1) := by decide +kernel
theorem dP_init_13 : decode cP_init 13 = .ok (.bipush 24, 2) := by decide +kernel
theorem dP_init_15 : decode cP_init 15 = .ok (.newarray .int, 2) := by decide +kernel
theorem dP_init_17 : decode cP_init 17 = .ok (.putfield 15, 3) := by decide +kernel
theorem dP_init_20 : decode cP_init 20 = .ok (.aload_n 0, 1) := by decide +kernel
theorem dP_init_21 : decode cP_init 21 = .ok (.bipush 24, 2) := by decide +kernel
theorem dP_init_23 : decode cP_init 23 = .ok (.newarray .int, 2) := by decide +kernel
theorem dP_init_25 : decode cP_init 25 = .ok (.putfield 18, 3) := by decide +kernel
theorem dP_init_28 : decode cP_init 28 = .ok (.aload_n 0, 1) := by decide +kernel
theorem dP_init_29 : decode cP_init 29 = .ok (.bipush 24, 2) := by decide +kernel
theorem dP_init_31 : decode cP_init 31 = .ok (.newarray .int, 2) := by decide +kernel
theorem dP_init_33 : decode cP_init 33 = .ok (.putfield 21, 3) := by decide +kernel
theorem dP_init_36 : decode cP_init 36 = .ok (.aload_n 0, 1) := by decide +kernel
theorem dP_init_37 : decode cP_init 37 = .ok (.bipush 24, 2) := by decide +kernel
theorem dP_init_39 : decode cP_init 39 = .ok (.newarray .int, 2) := by decide +kernel
theorem dP_init_41 : decode cP_init 41 = .ok (.putfield 24, 3) := by decide +kernel
theorem dP_init_44 : decode cP_init 44 = .ok (.aload_n 0, 1) := by decide +kernel
theorem dP_init_45 : decode cP_init 45 = .ok (.sipush 576, 3) := by decide +kernel
theorem dP_init_48 : decode cP_init 48 = .ok (.newarray .long, 2) := by decide +kernel
theorem dP_init_50 : decode cP_init 50 = .ok (.putfield 27, 3) := by decide +kernel
theorem dP_init_53 : decode cP_init 53 = .ok (.aload_n 0, 1) := by decide +kernel
theorem dP_init_54 : decode cP_init 54 = .ok (.bipush 24, 2) := by decide +kernel
theorem dP_init_56 : decode cP_init 56 = .ok (.newarray .long, 2) := by decide +kernel
theorem dP_init_58 : decode cP_init 58 = .ok (.putfield 31, 3) := by decide +kernel
theorem dP_init_61 : decode cP_init 61 = .ok (.aload_n 0, 1) := by decide +kernel
theorem dP_init_62 : decode cP_init 62 = .ok (.bipush 25, 2) := by decide +kernel
theorem dP_init_64 : decode cP_init 64 = .ok (.newarray .int, 2) := by decide +kernel
theorem dP_init_66 : decode cP_init 66 = .ok (.putfield 34, 3) := by decide +kernel
theorem dP_init_69 : decode cP_init 69 = .ok (.aload_n 0, 1) := by decide +kernel
theorem dP_init_70 : decode cP_init 70 = .ok (.iconst 0, 1) := by decide +kernel
theorem dP_init_71 : decode cP_init 71 = .ok (.putfield 37, 3) := by decide +kernel
theorem dP_init_74 : decode cP_init 74 = .ok (.aload_n 0, 1) := by decide +kernel
theorem dP_init_75 : decode cP_init 75 = .ok (.iload_n 1, 1) := by decide +kernel
theorem dP_init_76 : decode cP_init 76 = .ok (.putfield 41, 3) := by decide +kernel
theorem dP_init_79 : decode cP_init 79 = .ok (.aload_n 0, 1) := by decide +kernel
theorem dP_init_80 : decode cP_init 80 = .ok (.getfield 9, 3) := by decide +kernel
theorem dP_init_83 : decode cP_init 83 = .ok (.iconst (-1), 1) := by decide +kernel
theorem dP_init_84 : decode cP_init 84 = .ok (.invokestatic 44, 3) := by decide +kernel
theorem dP_init_87 : decode cP_init 87 = .ok (.aload_n 0, 1) := by decide +kernel
theorem dP_init_88 : decode cP_init 88 = .ok (.getfield 15, 3) := by decide +kernel
theorem dP_init_91 : decode cP_init 91 = .ok (.iconst (-1), 1) := by decide +kernel
theorem dP_init_92 : decode cP_init 92 = .ok (.invokestatic 44, 3) := by decide +kernel
theorem dP_init_95 : decode cP_init 95 = .ok (.aload_n 0, 1) := by decide +kernel
theorem dP_init_96 : decode cP_init 96 = .ok (.invokevirtual 50, 3) := by decide +kernel
theorem dP_init_99 : decode cP_init 99 = .ok (.return_, 1) := by decide +kernel
theorem dM_init_0 : decode cM_init 0 = .ok (.aload_n 0, 1) := by decide +kernel
theorem dM_init_1 : decode cM_init 1 = .ok (.invokespecial 3, 3) := by decide +kernel
theorem dM_init_4 : decode cM_init 4 = .ok (.aload_n 0, 1) := by decide +kernel
theorem dM_init_5 : decode cM_init 5 = .ok (.bipush 96, 2) := by decide +kernel
theorem dM_init_7 : decode cM_init 7 = .ok (.newarray .int, 2) := by decide +kernel
theorem dM_init_9 : decode cM_init 9 = .ok (.putfield 11, 3) := by decide +kernel
theorem dM_init_12 : decode cM_init 12 = .ok (.aload_n 0, 1) := by decide +kernel
theorem dM_init_13 : decode cM_init 13 = .ok (.iload_n 1, 1) := by decide +kernel
theorem dM_init_14 : decode cM_init 14 = .ok (.putfield 15, 3) := by decide +kernel
theorem dM_init_17 : decode cM_init 17 = .ok (.aload_n 0, 1) := by decide +kernel
theorem dM_init_18 : decode cM_init 18 = .ok (.getfield 11, 3) := by decide +kernel
theorem dM_init_21 : decode cM_init 21 = .ok (.iconst (-1), 1) := by decide +kernel
theorem dM_init_22 : decode cM_init 22 = .ok (.invokestatic 19, 3) := by decide +kernel
theorem dM_init_25 : decode cM_init 25 = .ok (.return_, 1) := by decide +kernel
theorem dK_init_0 : decode cK_init 0 = .ok (.aload_n 0, 1) := by decide +kernel
theorem dK_init_1 : decode cK_init 1 = .ok (.invokespecial 1, 3) := by decide +kernel
theorem dK_init_4 : decode cK_init 4 = .ok (.aload_n 0, 1) := by decide +kernel
theorem dK_init_5 : decode cK_init 5 = .ok (.bipush 24, 2) := by decide +kernel
theorem dK_init_7 : decode cK_init 7 = .ok (.newarray .int, 2) := by decide +kernel
theorem dK_init_9 : decode cK_init 9 = .ok (.putfield 9, 3) := by decide +kernel
theorem dK_init_12 : decode cK_init 12 = .ok (.aload_n 0, 1) := by decide +kernel
theorem dK_init_13 : decode cK_init 13 = .ok (.bipush 24, 2) := by decide +kernel
theorem dK_init_15 : decode cK_init 15 = .ok (.newarray .int, 2) := by decide +kernel
theorem dK_init_17 : decode cK_init 17 = .ok (.putfield 13, 3) := by decide +kernel
theorem dK_init_20 : decode cK_init 20 = .ok (.aload_n 0, 1) := by decide +kernel
theorem dK_init_21 : decode cK_init 21 = .ok (.bipush 24, 2) := by decide +kernel
theorem dK_init_23 : decode cK_init 23 = .ok (.newarray .boolean, 2) := by decide +kernel
theorem dK_init_25 : decode cK_init 25 = .ok (.putfield 16, 3) := by decide +kernel
theorem dK_init_28 : decode cK_init 28 = .ok (.aload_n 0, 1) := by decide +kernel
theorem dK_init_29 : decode cK_init 29 = .ok (.iconst 1, 1) := by decide +kernel
theorem dK_init_30 : decode cK_init 30 = .ok (.iload_n 1, 1) := by decide +kernel
theorem dK_init_31 : decode cK_init 31 = .ok (.bipush 24, 2) := by decide +kernel
theorem dK_init_33 : decode cK_init 33 = .ok (.invokestatic 20, 3) := by decide +kernel
theorem dK_init_36 : decode cK_init 36 = .ok (.invokestatic 26, 3) := by decide +kernel
theorem dK_init_39 : decode cK_init 39 = .ok (.putfield 29, 3) := by decide +kernel
theorem dK_init_42 : decode cK_init 42 = .ok (.aload_n 0, 1) := by decide +kernel
theorem dK_init_43 : decode cK_init 43 = .ok (.new 33, 3) := by decide +kernel
theorem dK_init_46 : decode cK_init 46 = .ok (.dup, 1) := by decide +kernel
theorem dK_init_47 : decode cK_init 47 = .ok (.aload_n 0, 1) := by decide +kernel
theorem dK_init_48 : decode cK_init 48 = .ok (.getfield 29, 3) := by decide +kernel
theorem dK_init_51 : decode cK_init 51 = .ok (.invokespecial 35, 3) := by decide +kernel
theorem dK_init_54 : decode cK_init 54 = .ok (.putfield 38, 3) := by decide +kernel
theorem dK_init_57 : decode cK_init 57 = .ok (.aload_n 0, 1) := by decide +kernel
theorem dK_init_58 : decode cK_init 58 = .ok (.new 42, 3) := by decide +kernel
theorem dK_init_61 : decode cK_init 61 = .ok (.dup, 1) := by decide +kernel
theorem dK_init_62 : decode cK_init 62 = .ok (.aload_n 0, 1) := by decide +kernel
theorem dK_init_63 : decode cK_init 63 = .ok (.getfield 29, 3) := by decide +kernel
theorem dK_init_66 : decode cK_init 66 = .ok (.invokespecial 44, 3) := by decide +kernel
theorem dK_init_69 : decode cK_init 69 = .ok (.putfield 45, 3) := by decide +kernel
theorem dK_init_72 : decode cK_init 72 = .ok (.aload_n 0, 1) := by decide +kernel
theorem dK_init_73 : decode cK_init 73 = .ok (.getfield 13, 3) := by decide +kernel
theorem dK_init_76 : decode cK_init 76 = .ok (.iconst (-1), 1) := by decide +kernel
theorem dK_init_77 : decode cK_init 77 = .ok (.invokestatic 49, 3) := by decide +kernel
theorem dK_init_80 : decode cK_init 80 = .ok (.return_, 1) := by decide +kernel
