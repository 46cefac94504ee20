theorem dX9_minute_37 : decode cX9_minute 37 = .ok (.ireturn, 1) := by decide +kernel
theorem dX9_judge_0 : decode cX9_judge 0 = .ok (.aload_n 0, 1) := by decide +kernel
theorem dX9_judge_1 : decode cX9_judge 1 = .ok (.iconst 0, 1) := by decide +kernel
theorem dX9_judge_2 : decode cX9_judge 2 = .ok (.putfield 1, 3) := by decide +kernel
theorem dX9_judge_5 : decode cX9_judge 5 = .ok (.iload_n 1, 1) := by decide +kernel
theorem dX9_judge_6 : decode cX9_judge 6 = .ok (.i2l, 1) := by decide +kernel
theorem dX9_judge_7 : decode cX9_judge 7 = .ok (.lconst 0, 1) := by decide +kernel
theorem dX9_judge_8 : decode cX9_judge 8 = .ok (.ldc2_w 180, 3) := by decide +kernel
theorem dX9_judge_11 : decode cX9_judge 11 = .ok (.invokestatic 128, 3) := by decide +kernel
theorem dX9_judge_14 : decode cX9_judge 14 = .ok (.ifCond .eq 15, 3) := by decide +kernel
theorem dX9_judge_17 : decode cX9_judge 17 = .ok (.iload_n 2, 1) := by decide +kernel
theorem dX9_judge_18 : decode cX9_judge 18 = .ok (.i2l, 1) := by decide +kernel
theorem dX9_judge_19 : decode cX9_judge 19 = .ok (.lconst 0, 1) := by decide +kernel
theorem dX9_judge_20 : decode cX9_judge 20 = .ok (.ldc2_w 180, 3) := by decide +kernel
theorem dX9_judge_23 : decode cX9_judge 23 = .ok (.invokestatic 128, 3) := by decide +kernel
theorem dX9_judge_26 : decode cX9_judge 26 = .ok (.ifCond .ne 6, 3) := by decide +kernel
theorem dX9_judge_29 : decode cX9_judge 29 = .ok (.bipush (-2), 2) := by decide +kernel
theorem dX9_judge_31 : decode cX9_judge 31 = .ok (.ireturn, 1) := by decide +kernel
theorem dX9_judge_32 : decode cX9_judge 32 = .ok (.aload_n 0, 1) := by decide +kernel
theorem dX9_judge_33 : decode cX9_judge 33 = .ok (.getfield 51, 3) := by decide +kernel
theorem dX9_judge_36 : decode cX9_judge 36 = .ok (.iload_n 1, 1) := by decide +kernel
theorem dX9_judge_37 : decode cX9_judge 37 = .ok (.iaload, 1) := by decide +kernel
theorem dX9_judge_38 : decode cX9_judge 38 = .ok (.iconst (-1), 1) := by decide +kernel
theorem dX9_judge_39 : decode cX9_judge 39 = .ok (.if_icmp .ne 6, 3) := by decide +kernel
theorem dX9_judge_42 : decode cX9_judge 42 = .ok (.bipush (-6), 2) := by decide +kernel
theorem dX9_judge_44 : decode cX9_judge 44 = .ok (.ireturn, 1) := by decide +kernel
theorem dX9_perform_0 : decode cX9_perform 0 = .ok (.aload_n 0, 1) := by decide +kernel
theorem dX9_perform_1 : decode cX9_perform 1 = .ok (.iconst 0, 1) := by decide +kernel
theorem dX9_perform_2 : decode cX9_perform 2 = .ok (.putfield 1, 3) := by decide +kernel
theorem dX9_perform_5 : decode cX9_perform 5 = .ok (.iload_n 1, 1) := by decide +kernel
theorem dX9_perform_6 : decode cX9_perform 6 = .ok (.i2l, 1) := by decide +kernel
theorem dX9_perform_7 : decode cX9_perform 7 = .ok (.lconst 0, 1) := by decide +kernel
theorem dX9_perform_8 : decode cX9_perform 8 = .ok (.ldc2_w 180, 3) := by decide +kernel
theorem dX9_perform_11 : decode cX9_perform 11 = .ok (.invokestatic 128, 3) := by decide +kernel
theorem dX9_perform_14 : decode cX9_perform 14 = .ok (.ifCond .ne 6, 3) := by decide +kernel
theorem dX9_perform_17 : decode cX9_perform 17 = .ok (.bipush (-2), 2) := by decide +kernel
theorem dX9_perform_19 : decode cX9_perform 19 = .ok (.ireturn, 1) := by decide +kernel
theorem dX9_perform_20 : decode cX9_perform 20 = .ok (.aload_n 0, 1) := by decide +kernel
theorem dX9_perform_21 : decode cX9_perform 21 = .ok (.getfield 51, 3) := by decide +kernel
theorem dX9_perform_24 : decode cX9_perform 24 = .ok (.iload_n 1, 1) := by decide +kernel
theorem dX9_perform_25 : decode cX9_perform 25 = .ok (.iaload, 1) := by decide +kernel
theorem dX9_perform_26 : decode cX9_perform 26 = .ok (.iconst (-1), 1) := by decide +kernel
theorem dX9_perform_27 : decode cX9_perform 27 = .ok (.if_icmp .ne 8, 3) := by decide +kernel
theorem dX9_perform_30 : decode cX9_perform 30 = .ok (.bipush (-6), 2) := by decide +kernel
theorem dX9_perform_32 : decode cX9_perform 32 = .ok (.goto 8, 3) := by decide +kernel
theorem dX9_perform_40 : decode cX9_perform 40 = .ok (.ireturn, 1) := by decide +kernel
theorem dX9_fill_0 : decode cX9_fill 0 = .ok (.aload_n 0, 1) := by decide +kernel
theorem dX9_fill_1 : decode cX9_fill 1 = .ok (.iconst 0, 1) := by decide +kernel
theorem dX9_fill_2 : decode cX9_fill 2 = .ok (.putfield 1, 3) := by decide +kernel
theorem dX9_fill_5 : decode cX9_fill 5 = .ok (.iload_n 1, 1) := by decide +kernel
theorem dX9_fill_6 : decode cX9_fill 6 = .ok (.i2l, 1) := by decide +kernel
theorem dX9_fill_7 : decode cX9_fill 7 = .ok (.lconst 0, 1) := by decide +kernel
theorem dX9_fill_8 : decode cX9_fill 8 = .ok (.ldc2_w 225, 3) := by decide +kernel
theorem dX9_fill_11 : decode cX9_fill 11 = .ok (.invokestatic 128, 3) := by decide +kernel
theorem dX9_fill_14 : decode cX9_fill 14 = .ok (.ifCond .ne 6, 3) := by decide +kernel
theorem dX9_fill_17 : decode cX9_fill 17 = .ok (.bipush (-3), 2) := by decide +kernel
theorem dX9_fill_19 : decode cX9_fill 19 = .ok (.ireturn, 1) := by decide +kernel
theorem dX9_fill_20 : decode cX9_fill 20 = .ok (.aload_n 0, 1) := by decide +kernel
theorem dX9_fill_21 : decode cX9_fill 21 = .ok (.getfield 13, 3) := by decide +kernel
theorem dX9_fill_24 : decode cX9_fill 24 = .ok (.bipush 6, 2) := by decide +kernel
theorem dX9_fill_26 : decode cX9_fill 26 = .ok (.aload_n 0, 1) := by decide +kernel
theorem dX9_fill_27 : decode cX9_fill 27 = .ok (.getfield 13, 3) := by decide +kernel
theorem dX9_fill_30 : decode cX9_fill 30 = .ok (.bipush 6, 2) := by decide +kernel
theorem dX9_fill_32 : decode cX9_fill 32 = .ok (.iaload, 1) := by decide +kernel
theorem dX9_fill_33 : decode cX9_fill 33 = .ok (.iload_n 1, 1) := by decide +kernel
theorem dX9_fill_34 : decode cX9_fill 34 = .ok (.iadd, 1) := by decide +kernel
theorem dX9_fill_35 : decode cX9_fill 35 = .ok (.sipush 999, 3) := by decide +kernel
theorem dX9_fill_38 : decode cX9_fill 38 = .ok (.if_icmp .le 9, 3) := by decide +kernel
theorem dX9_fill_47 : decode cX9_fill 47 = .ok (.aload_n 0, 1) := by decide +kernel
theorem dX9_fill_48 : decode cX9_fill 48 = .ok (.getfield 13, 3) := by decide +kernel
theorem dX9_fill_51 : decode cX9_fill 51 = .ok (.bipush 6, 2) := by decide +kernel
theorem dX9_fill_53 : decode cX9_fill 53 = .ok (.iaload, 1) := by decide +kernel
theorem dX9_fill_54 : decode cX9_fill 54 = .ok (.iload_n 1, 1) := by decide +kernel
theorem dX9_fill_55 : decode cX9_fill 55 = .ok (.iadd, 1) := by decide +kernel
theorem dX9_fill_56 : decode cX9_fill 56 = .ok (.iastore, 1) := by decide +kernel
theorem dX9_fill_57 : decode cX9_fill 57 = .ok (.aload_n 0, 1) := by decide +kernel
theorem dX9_fill_58 : decode cX9_fill 58 = .ok (.getfield 13, 3) := by decide +kernel
theorem dX9_fill_61 : decode cX9_fill 61 = .ok (.bipush 6, 2) := by decide +kernel
theorem dX9_fill_63 : decode cX9_fill 63 = .ok (.iaload, 1) := by decide +kernel
theorem dX9_fill_64 : decode cX9_fill 64 = .ok (.ireturn, 1) := by decide +kernel
theorem dX9_night_0 : decode cX9_night 0 = .ok (.aload_n 0, 1) := by decide +kernel
theorem dX9_night_1 : decode cX9_night 1 = .ok (.iconst 0, 1) := by decide +kernel
theorem dX9_night_2 : decode cX9_night 2 = .ok (.putfield 1, 3) := by decide +kernel
theorem dX9_night_5 : decode cX9_night 5 = .ok (.iload_n 2, 1) := by decide +kernel
theorem dX9_night_6 : decode cX9_night 6 = .ok (.i2l, 1) := by decide +kernel
theorem dX9_night_7 : decode cX9_night 7 = .ok (.lconst 1, 1) := by decide +kernel
theorem dX9_night_8 : decode cX9_night 8 = .ok (.ldc2_w 231, 3) := by decide +kernel
theorem dX9_night_11 : decode cX9_night 11 = .ok (.invokestatic 128, 3) := by decide +kernel
theorem dX9_night_14 : decode cX9_night 14 = .ok (.ifCond .ne 6, 3) := by decide +kernel
theorem dX9_night_17 : decode cX9_night 17 = .ok (.bipush (-3), 2) := by decide +kernel
theorem dX9_night_19 : decode cX9_night 19 = .ok (.ireturn, 1) := by decide +kernel
theorem dX9_night_20 : decode cX9_night 20 = .ok (.aload_n 0, 1) := by decide +kernel
theorem dX9_night_21 : decode cX9_night 21 = .ok (.getfield 13, 3) := by decide +kernel
theorem dX9_night_24 : decode cX9_night 24 = .ok (.iconst 0, 1) := by decide +kernel
theorem dX9_night_25 : decode cX9_night 25 = .ok (.iaload, 1) := by decide +kernel
theorem dX9_night_26 : decode cX9_night 26 = .ok (.ifCond .eq 27, 3) := by decide +kernel
theorem dX9_night_53 : decode cX9_night 53 = .ok (.bipush (-5), 2) := by decide +kernel
theorem dX9_night_55 : decode cX9_night 55 = .ok (.ireturn, 1) := by decide +kernel
theorem dX9_walk_0 : decode cX9_walk 0 = .ok (.aload_n 0, 1) := by decide +kernel
theorem dX9_walk_1 : decode cX9_walk 1 = .ok (.iconst 0, 1) := by decide +kernel
theorem dX9_walk_2 : decode cX9_walk 2 = .ok (.putfield 1, 3) := by decide +kernel
theorem dX9_walk_5 : decode cX9_walk 5 = .ok (.aload_n 0, 1) := by decide +kernel
theorem dX9_walk_6 : decode cX9_walk 6 = .ok (.iload_n 1, 1) := by decide +kernel
theorem dX9_walk_7 : decode cX9_walk 7 = .ok (.invokevirtual 172, 3) := by decide +kernel
theorem dX9_walk_10 : decode cX9_walk 10 = .ok (.ifCond .eq 11, 3) := by decide +kernel
theorem dX9_walk_21 : decode cX9_walk 21 = .ok (.bipush (-2), 2) := by decide +kernel
theorem dX9_walk_23 : decode cX9_walk 23 = .ok (.ireturn, 1) := by decide +kernel
theorem dX9_told_0 : decode cX9_told 0 = .ok (.iload 4, 2) := by decide +kernel
theorem dX9_told_2 : decode cX9_told 2 = .ok (.ifCond .eq 32, 3) := by decide +kernel
theorem dX9_told_5 : decode cX9_told 5 = .ok (.iload 5, 2) := by decide +kernel
theorem dX9_told_7 : decode cX9_told 7 = .ok (.ifCond .eq 9, 3) := by decide +kernel
theorem dX9_told_10 : decode cX9_told 10 = .ok (.iload 4, 2) := by decide +kernel
theorem dX9_told_12 : decode cX9_told 12 = .ok (.iconst 1, 1) := by decide +kernel
theorem dX9_told_13 : decode cX9_told 13 = .ok (.if_icmp .eq 21, 3) := by decide +kernel
theorem dX9_told_16 : decode cX9_told 16 = .ok (.iload 4, 2) := by decide +kernel
theorem dX9_told_18 : decode cX9_told 18 = .ok (.i2l, 1) := by decide +kernel
theorem dX9_told_19 : decode cX9_told 19 = .ok (.ldc2_w 263, 3) := by decide +kernel
theorem dX9_told_22 : decode cX9_told 22 = .ok (.ldc2_w 265, 3) := by decide +kernel
theorem dX9_told_25 : decode cX9_told 25 = .ok (.invokestatic 128, 3) := by decide +kernel
theorem dX9_told_28 : decode cX9_told 28 = .ok (.ifCond .ne 6, 3) := by decide +kernel
theorem dX9_told_31 : decode cX9_told 31 = .ok (.bipush (-2), 2) := by decide +kernel
theorem dX9_told_33 : decode cX9_told 33 = .ok (.ireturn, 1) := by decide +kernel
theorem dX9_told_34 : decode cX9_told 34 = .ok (.iload_n 3, 1) := by decide +kernel
theorem dX9_told_35 : decode cX9_told 35 = .ok (.i2l, 1) := by decide +kernel
theorem dX9_told_36 : decode cX9_told 36 = .ok (.lconst 1, 1) := by decide +kernel
theorem dX9_told_37 : decode cX9_told 37 = .ok (.ldc2_w 267, 3) := by decide +kernel
theorem dX9_told_40 : decode cX9_told 40 = .ok (.invokestatic 128, 3) := by decide +kernel
theorem dX9_told_43 : decode cX9_told 43 = .ok (.ifCond .ne 6, 3) := by decide +kernel
theorem dX9_told_46 : decode cX9_told 46 = .ok (.bipush (-3), 2) := by decide +kernel
theorem dX9_told_48 : decode cX9_told 48 = .ok (.ireturn, 1) := by decide +kernel
theorem dX9_told_49 : decode cX9_told 49 = .ok (.aload_n 0, 1) := by decide +kernel
theorem dX9_told_50 : decode cX9_told 50 = .ok (.getfield 13, 3) := by decide +kernel
theorem dX9_told_53 : decode cX9_told 53 = .ok (.iconst 0, 1) := by decide +kernel
theorem dX9_told_54 : decode cX9_told 54 = .ok (.iaload, 1) := by decide +kernel
theorem dX9_told_55 : decode cX9_told 55 = .ok (.ifCond .ne 6, 3) := by decide +kernel
theorem dX9_told_58 : decode cX9_told 58 = .ok (.bipush (-5), 2) := by decide +kernel
theorem dX9_told_60 : decode cX9_told 60 = .ok (.ireturn, 1) := by decide +kernel
theorem dX9_most_0 : decode cX9_most 0 = .ok (.aload_n 0, 1) := by decide +kernel
theorem dX9_most_1 : decode cX9_most 1 = .ok (.iconst 0, 1) := by decide +kernel
theorem dX9_most_2 : decode cX9_most 2 = .ok (.putfield 1, 3) := by decide +kernel
theorem dX9_most_5 : decode cX9_most 5 = .ok (.aload_n 0, 1) := by decide +kernel
theorem dX9_most_6 : decode cX9_most 6 = .ok (.iconst 0, 1) := by decide +kernel
theorem dX9_most_7 : decode cX9_most 7 = .ok (.iconst 0, 1) := by decide +kernel
theorem dX9_most_8 : decode cX9_most 8 = .ok (.iload_n 1, 1) := by decide +kernel
theorem dX9_most_9 : decode cX9_most 9 = .ok (.iload_n 2, 1) := by decide +kernel
theorem dX9_most_10 : decode cX9_most 10 = .ok (.iconst 1, 1) := by decide +kernel
theorem dX9_most_11 : decode cX9_most 11 = .ok (.invokevirtual 272, 3) := by decide +kernel
theorem dX9_most_14 : decode cX9_most 14 = .ok (.ireturn, 1) := by decide +kernel
theorem dX9_dearest_0 : decode cX9_dearest 0 = .ok (.aload_n 0, 1) := by decide +kernel
theorem dX9_dearest_1 : decode cX9_dearest 1 = .ok (.iconst 0, 1) := by decide +kernel
theorem dX9_dearest_2 : decode cX9_dearest 2 = .ok (.putfield 1, 3) := by decide +kernel
theorem dX9_dearest_5 : decode cX9_dearest 5 = .ok (.aload_n 0, 1) := by decide +kernel
theorem dX9_dearest_6 : decode cX9_dearest 6 = .ok (.iconst 1, 1) := by decide +kernel
theorem dX9_dearest_7 : decode cX9_dearest 7 = .ok (.iconst 0, 1) := by decide +kernel
theorem dX9_dearest_8 : decode cX9_dearest 8 = .ok (.iload_n 1, 1) := by decide +kernel
theorem dX9_dearest_9 : decode cX9_dearest 9 = .ok (.iload_n 2, 1) := by decide +kernel
theorem dX9_dearest_10 : decode cX9_dearest 10 = .ok (.iconst 0, 1) := by decide +kernel
theorem dX9_dearest_11 : decode cX9_dearest 11 = .ok (.invokevirtual 272, 3) := by decide +kernel
theorem dX9_dearest_14 : decode cX9_dearest 14 = .ok (.ireturn, 1) := by decide +kernel
theorem dX9_fairest_0 : decode cX9_fairest 0 = .ok (.aload_n 0, 1) := by decide +kernel
theorem dX9_fairest_1 : decode cX9_fairest 1 = .ok (.iconst 0, 1) := by decide +kernel
theorem dX9_fairest_2 : decode cX9_fairest 2 = .ok (.putfield 1, 3) := by decide +kernel
theorem dX9_fairest_5 : decode cX9_fairest 5 = .ok (.aload_n 0, 1) := by decide +kernel
theorem dX9_fairest_6 : decode cX9_fairest 6 = .ok (.iconst 2, 1) := by decide +kernel
theorem dX9_fairest_7 : decode cX9_fairest 7 = .ok (.iconst 0, 1) := by decide +kernel
theorem dX9_fairest_8 : decode cX9_fairest 8 = .ok (.iload_n 1, 1) := by decide +kernel
theorem dX9_fairest_9 : decode cX9_fairest 9 = .ok (.iload_n 2, 1) := by decide +kernel
theorem dX9_fairest_10 : decode cX9_fairest 10 = .ok (.iconst 1, 1) := by decide +kernel
theorem dX9_fairest_11 : decode cX9_fairest 11 = .ok (.invokevirtual 272, 3) := by decide +kernel
theorem dX9_fairest_14 : decode cX9_fairest 14 = .ok (.ireturn, 1) := by decide +kernel
theorem dX9_alone_0 : decode cX9_alone 0 = .ok (.aload_n 0, 1) := by decide +kernel
theorem dX9_alone_1 : decode cX9_alone 1 = .ok (.iconst 0, 1) := by decide +kernel
theorem dX9_alone_2 : decode cX9_alone 2 = .ok (.putfield 1, 3) := by decide +kernel
theorem dX9_alone_5 : decode cX9_alone 5 = .ok (.iload_n 1, 1) := by decide +kernel
theorem dX9_alone_6 : decode cX9_alone 6 = .ok (.i2l, 1) := by decide +kernel
theorem dX9_alone_7 : decode cX9_alone 7 = .ok (.lconst 0, 1) := by decide +kernel
theorem dX9_alone_8 : decode cX9_alone 8 = .ok (.ldc2_w 175, 3) := by decide +kernel
theorem dX9_alone_11 : decode cX9_alone 11 = .ok (.invokestatic 128, 3) := by decide +kernel
theorem dX9_alone_14 : decode cX9_alone 14 = .ok (.ifCond .eq 15, 3) := by decide +kernel
theorem dX9_alone_17 : decode cX9_alone 17 = .ok (.aload_n 0, 1) := by decide +kernel
theorem dX9_alone_18 : decode cX9_alone 18 = .ok (.iconst 3, 1) := by decide +kernel
theorem dX9_alone_19 : decode cX9_alone 19 = .ok (.iload_n 1, 1) := by decide +kernel
theorem dX9_alone_20 : decode cX9_alone 20 = .ok (.iload_n 2, 1) := by decide +kernel
theorem dX9_alone_21 : decode cX9_alone 21 = .ok (.iload_n 3, 1) := by decide +kernel
theorem dX9_alone_22 : decode cX9_alone 22 = .ok (.iconst 0, 1) := by decide +kernel
theorem dX9_alone_23 : decode cX9_alone 23 = .ok (.invokevirtual 272, 3) := by decide +kernel
theorem dX9_alone_26 : decode cX9_alone 26 = .ok (.goto 5, 3) := by decide +kernel
theorem dX9_alone_29 : decode cX9_alone 29 = .ok (.bipush (-2), 2) := by decide +kernel
theorem dX9_alone_31 : decode cX9_alone 31 = .ok (.ireturn, 1) := by decide +kernel
theorem dX9_pays_0 : decode cX9_pays 0 = .ok (.aload_n 0, 1) := by decide +kernel
theorem dX9_pays_1 : decode cX9_pays 1 = .ok (.iconst 0, 1) := by decide +kernel
theorem dX9_pays_2 : decode cX9_pays 2 = .ok (.putfield 1, 3) := by decide +kernel
theorem dX9_pays_5 : decode cX9_pays 5 = .ok (.iload_n 1, 1) := by decide +kernel
theorem dX9_pays_6 : decode cX9_pays 6 = .ok (.i2l, 1) := by decide +kernel
theorem dX9_pays_7 : decode cX9_pays 7 = .ok (.lconst 0, 1) := by decide +kernel
theorem dX9_pays_8 : decode cX9_pays 8 = .ok (.ldc2_w 175, 3) := by decide +kernel
theorem dX9_pays_11 : decode cX9_pays 11 = .ok (.invokestatic 128, 3) := by decide +kernel
theorem dX9_pays_14 : decode cX9_pays 14 = .ok (.ifCond .ne 6, 3) := by decide +kernel
theorem dX9_pays_17 : decode cX9_pays 17 = .ok (.bipush (-2), 2) := by decide +kernel
theorem dX9_pays_19 : decode cX9_pays 19 = .ok (.ireturn, 1) := by decide +kernel
