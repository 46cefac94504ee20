theorem dX8_farm_68 : decode cX8_farm 68 = .ok (.invokevirtual 138, 3) := by decide +kernel
theorem dX8_farm_71 : decode cX8_farm 71 = .ok (.ireturn, 1) := by decide +kernel
theorem dX8_farm_72 : decode cX8_farm 72 = .ok (.aload_n 0, 1) := by decide +kernel
theorem dX8_farm_73 : decode cX8_farm 73 = .ok (.getfield 27, 3) := by decide +kernel
theorem dX8_farm_76 : decode cX8_farm 76 = .ok (.getfield 142, 3) := by decide +kernel
theorem dX8_farm_79 : decode cX8_farm 79 = .ok (.iload_n 1, 1) := by decide +kernel
theorem dX8_farm_80 : decode cX8_farm 80 = .ok (.iaload, 1) := by decide +kernel
theorem dX8_farm_81 : decode cX8_farm 81 = .ok (.ireturn, 1) := by decide +kernel
theorem dX8_farm_82 : decode cX8_farm 82 = .ok (.aload_n 0, 1) := by decide +kernel
theorem dX8_farm_83 : decode cX8_farm 83 = .ok (.getfield 27, 3) := by decide +kernel
theorem dX8_farm_86 : decode cX8_farm 86 = .ok (.iload_n 1, 1) := by decide +kernel
theorem dX8_farm_87 : decode cX8_farm 87 = .ok (.invokevirtual 145, 3) := by decide +kernel
theorem dX8_farm_90 : decode cX8_farm 90 = .ok (.ireturn, 1) := by decide +kernel
theorem dX8_farm_91 : decode cX8_farm 91 = .ok (.bipush (-2), 2) := by decide +kernel
theorem dX8_farm_93 : decode cX8_farm 93 = .ok (.ireturn, 1) := by decide +kernel
theorem dX8_light_0 : decode cX8_light 0 = .ok (.aload_n 0, 1) := by decide +kernel
theorem dX8_light_1 : decode cX8_light 1 = .ok (.getfield 27, 3) := by decide +kernel
theorem dX8_light_4 : decode cX8_light 4 = .ok (.iload_n 1, 1) := by decide +kernel
theorem dX8_light_5 : decode cX8_light 5 = .ok (.invokevirtual 108, 3) := by decide +kernel
theorem dX8_light_8 : decode cX8_light 8 = .ok (.ifCond .eq 14, 3) := by decide +kernel
theorem dX8_light_22 : decode cX8_light 22 = .ok (.bipush (-2), 2) := by decide +kernel
theorem dX8_light_24 : decode cX8_light 24 = .ok (.ireturn, 1) := by decide +kernel
theorem dX8_lit_0 : decode cX8_lit 0 = .ok (.aload_n 0, 1) := by decide +kernel
theorem dX8_lit_1 : decode cX8_lit 1 = .ok (.getfield 27, 3) := by decide +kernel
theorem dX8_lit_4 : decode cX8_lit 4 = .ok (.iload_n 1, 1) := by decide +kernel
theorem dX8_lit_5 : decode cX8_lit 5 = .ok (.invokevirtual 108, 3) := by decide +kernel
theorem dX8_lit_8 : decode cX8_lit 8 = .ok (.ifCond .ne 6, 3) := by decide +kernel
theorem dX8_lit_11 : decode cX8_lit 11 = .ok (.bipush (-2), 2) := by decide +kernel
theorem dX8_lit_13 : decode cX8_lit 13 = .ok (.ireturn, 1) := by decide +kernel
theorem dX8_shaded_0 : decode cX8_shaded 0 = .ok (.aload_n 0, 1) := by decide +kernel
theorem dX8_shaded_1 : decode cX8_shaded 1 = .ok (.getfield 27, 3) := by decide +kernel
theorem dX8_shaded_4 : decode cX8_shaded 4 = .ok (.iload_n 1, 1) := by decide +kernel
theorem dX8_shaded_5 : decode cX8_shaded 5 = .ok (.invokevirtual 108, 3) := by decide +kernel
theorem dX8_shaded_8 : decode cX8_shaded 8 = .ok (.ifCond .ne 6, 3) := by decide +kernel
theorem dX8_shaded_11 : decode cX8_shaded 11 = .ok (.bipush (-2), 2) := by decide +kernel
theorem dX8_shaded_13 : decode cX8_shaded 13 = .ok (.ireturn, 1) := by decide +kernel
theorem dX8_high_0 : decode cX8_high 0 = .ok (.aload_n 0, 1) := by decide +kernel
theorem dX8_high_1 : decode cX8_high 1 = .ok (.getfield 27, 3) := by decide +kernel
theorem dX8_high_4 : decode cX8_high 4 = .ok (.iload_n 1, 1) := by decide +kernel
theorem dX8_high_5 : decode cX8_high 5 = .ok (.invokevirtual 108, 3) := by decide +kernel
theorem dX8_high_8 : decode cX8_high 8 = .ok (.ifCond .eq 14, 3) := by decide +kernel
theorem dX8_high_22 : decode cX8_high 22 = .ok (.bipush (-2), 2) := by decide +kernel
theorem dX8_high_24 : decode cX8_high 24 = .ok (.ireturn, 1) := by decide +kernel
theorem dX8_highFor_0 : decode cX8_highFor 0 = .ok (.iload_n 1, 1) := by decide +kernel
theorem dX8_highFor_1 : decode cX8_highFor 1 = .ok (.ifCond .eq 14, 3) := by decide +kernel
theorem dX8_highFor_4 : decode cX8_highFor 4 = .ok (.aload_n 0, 1) := by decide +kernel
theorem dX8_highFor_5 : decode cX8_highFor 5 = .ok (.getfield 27, 3) := by decide +kernel
theorem dX8_highFor_8 : decode cX8_highFor 8 = .ok (.iload_n 1, 1) := by decide +kernel
theorem dX8_highFor_9 : decode cX8_highFor 9 = .ok (.invokevirtual 158, 3) := by decide +kernel
theorem dX8_highFor_12 : decode cX8_highFor 12 = .ok (.ifCond .ne 6, 3) := by decide +kernel
theorem dX8_highFor_15 : decode cX8_highFor 15 = .ok (.bipush (-3), 2) := by decide +kernel
theorem dX8_highFor_17 : decode cX8_highFor 17 = .ok (.ireturn, 1) := by decide +kernel
theorem dX8_height_0 : decode cX8_height 0 = .ok (.iload_n 1, 1) := by decide +kernel
theorem dX8_height_1 : decode cX8_height 1 = .ok (.iconst 1, 1) := by decide +kernel
theorem dX8_height_2 : decode cX8_height 2 = .ok (.if_icmp .lt 9, 3) := by decide +kernel
theorem dX8_height_5 : decode cX8_height 5 = .ok (.iload_n 1, 1) := by decide +kernel
theorem dX8_height_6 : decode cX8_height 6 = .ok (.bipush 30, 2) := by decide +kernel
theorem dX8_height_8 : decode cX8_height 8 = .ok (.if_icmp .le 6, 3) := by decide +kernel
theorem dX8_height_11 : decode cX8_height 11 = .ok (.bipush (-3), 2) := by decide +kernel
theorem dX8_height_13 : decode cX8_height 13 = .ok (.ireturn, 1) := by decide +kernel
theorem dX8_height_14 : decode cX8_height 14 = .ok (.aload_n 0, 1) := by decide +kernel
theorem dX8_height_15 : decode cX8_height 15 = .ok (.getfield 27, 3) := by decide +kernel
theorem dX8_height_18 : decode cX8_height 18 = .ok (.getfield 167, 3) := by decide +kernel
theorem dX8_height_21 : decode cX8_height 21 = .ok (.istore_n 2, 1) := by decide +kernel
theorem dX8_height_22 : decode cX8_height 22 = .ok (.aload_n 0, 1) := by decide +kernel
theorem dX8_height_23 : decode cX8_height 23 = .ok (.getfield 27, 3) := by decide +kernel
theorem dX8_height_26 : decode cX8_height 26 = .ok (.iload_n 1, 1) := by decide +kernel
theorem dX8_height_27 : decode cX8_height 27 = .ok (.putfield 167, 3) := by decide +kernel
theorem dX8_height_30 : decode cX8_height 30 = .ok (.iload_n 2, 1) := by decide +kernel
theorem dX8_height_31 : decode cX8_height 31 = .ok (.ireturn, 1) := by decide +kernel
theorem dX8_fell_0 : decode cX8_fell 0 = .ok (.aload_n 0, 1) := by decide +kernel
theorem dX8_fell_1 : decode cX8_fell 1 = .ok (.getfield 27, 3) := by decide +kernel
theorem dX8_fell_4 : decode cX8_fell 4 = .ok (.iload_n 1, 1) := by decide +kernel
theorem dX8_fell_5 : decode cX8_fell 5 = .ok (.invokevirtual 108, 3) := by decide +kernel
theorem dX8_fell_8 : decode cX8_fell 8 = .ok (.ifCond .ne 6, 3) := by decide +kernel
theorem dX8_fell_11 : decode cX8_fell 11 = .ok (.bipush (-2), 2) := by decide +kernel
theorem dX8_fell_13 : decode cX8_fell 13 = .ok (.ireturn, 1) := by decide +kernel
theorem dX8_minute_0 : decode cX8_minute 0 = .ok (.aload_n 0, 1) := by decide +kernel
theorem dX8_minute_1 : decode cX8_minute 1 = .ok (.getfield 27, 3) := by decide +kernel
theorem dX8_minute_4 : decode cX8_minute 4 = .ok (.iload_n 1, 1) := by decide +kernel
theorem dX8_minute_5 : decode cX8_minute 5 = .ok (.i2l, 1) := by decide +kernel
theorem dX8_minute_6 : decode cX8_minute 6 = .ok (.invokevirtual 170, 3) := by decide +kernel
theorem dX8_minute_9 : decode cX8_minute 9 = .ok (.istore_n 2, 1) := by decide +kernel
theorem dX8_minute_10 : decode cX8_minute 10 = .ok (.iload_n 2, 1) := by decide +kernel
theorem dX8_minute_11 : decode cX8_minute 11 = .ok (.ifCond .eq 16, 3) := by decide +kernel
theorem dX8_minute_14 : decode cX8_minute 14 = .ok (.iload_n 2, 1) := by decide +kernel
theorem dX8_minute_15 : decode cX8_minute 15 = .ok (.iconst 1, 1) := by decide +kernel
theorem dX8_minute_16 : decode cX8_minute 16 = .ok (.if_icmp .ne 8, 3) := by decide +kernel
theorem dX8_minute_19 : decode cX8_minute 19 = .ok (.bipush (-2), 2) := by decide +kernel
theorem dX8_minute_21 : decode cX8_minute 21 = .ok (.goto 5, 3) := by decide +kernel
theorem dX8_minute_26 : decode cX8_minute 26 = .ok (.ireturn, 1) := by decide +kernel
theorem dX8_judge_0 : decode cX8_judge 0 = .ok (.iload_n 1, 1) := by decide +kernel
theorem dX8_judge_1 : decode cX8_judge 1 = .ok (.invokestatic 182, 3) := by decide +kernel
theorem dX8_judge_4 : decode cX8_judge 4 = .ok (.ifCond .eq 12, 3) := by decide +kernel
theorem dX8_judge_7 : decode cX8_judge 7 = .ok (.iload_n 2, 1) := by decide +kernel
theorem dX8_judge_8 : decode cX8_judge 8 = .ok (.ifCond .lt 8, 3) := by decide +kernel
theorem dX8_judge_11 : decode cX8_judge 11 = .ok (.iload_n 2, 1) := by decide +kernel
theorem dX8_judge_12 : decode cX8_judge 12 = .ok (.iconst 3, 1) := by decide +kernel
theorem dX8_judge_13 : decode cX8_judge 13 = .ok (.if_icmp .le 6, 3) := by decide +kernel
theorem dX8_judge_16 : decode cX8_judge 16 = .ok (.bipush (-2), 2) := by decide +kernel
theorem dX8_judge_18 : decode cX8_judge 18 = .ok (.ireturn, 1) := by decide +kernel
theorem dX8_judge_19 : decode cX8_judge 19 = .ok (.aload_n 0, 1) := by decide +kernel
theorem dX8_judge_20 : decode cX8_judge 20 = .ok (.getfield 44, 3) := by decide +kernel
theorem dX8_judge_23 : decode cX8_judge 23 = .ok (.iload_n 1, 1) := by decide +kernel
theorem dX8_judge_24 : decode cX8_judge 24 = .ok (.aaload, 1) := by decide +kernel
theorem dX8_judge_25 : decode cX8_judge 25 = .ok (.astore_n 3, 1) := by decide +kernel
theorem dX8_judge_26 : decode cX8_judge 26 = .ok (.aload_n 3, 1) := by decide +kernel
theorem dX8_judge_27 : decode cX8_judge 27 = .ok (.getfield 185, 3) := by decide +kernel
theorem dX8_judge_30 : decode cX8_judge 30 = .ok (.ifCond .eq 6, 3) := by decide +kernel
theorem dX8_judge_33 : decode cX8_judge 33 = .ok (.bipush (-6), 2) := by decide +kernel
theorem dX8_judge_35 : decode cX8_judge 35 = .ok (.ireturn, 1) := by decide +kernel
theorem dX8_perform_0 : decode cX8_perform 0 = .ok (.iload_n 1, 1) := by decide +kernel
theorem dX8_perform_1 : decode cX8_perform 1 = .ok (.invokestatic 182, 3) := by decide +kernel
theorem dX8_perform_4 : decode cX8_perform 4 = .ok (.ifCond .ne 6, 3) := by decide +kernel
theorem dX8_perform_7 : decode cX8_perform 7 = .ok (.bipush (-2), 2) := by decide +kernel
theorem dX8_perform_9 : decode cX8_perform 9 = .ok (.ireturn, 1) := by decide +kernel
theorem dX8_perform_10 : decode cX8_perform 10 = .ok (.aload_n 0, 1) := by decide +kernel
theorem dX8_perform_11 : decode cX8_perform 11 = .ok (.getfield 44, 3) := by decide +kernel
theorem dX8_perform_14 : decode cX8_perform 14 = .ok (.iload_n 1, 1) := by decide +kernel
theorem dX8_perform_15 : decode cX8_perform 15 = .ok (.aaload, 1) := by decide +kernel
theorem dX8_perform_16 : decode cX8_perform 16 = .ok (.getfield 185, 3) := by decide +kernel
theorem dX8_perform_19 : decode cX8_perform 19 = .ok (.ifCond .eq 6, 3) := by decide +kernel
theorem dX8_perform_22 : decode cX8_perform 22 = .ok (.bipush (-6), 2) := by decide +kernel
theorem dX8_perform_24 : decode cX8_perform 24 = .ok (.ireturn, 1) := by decide +kernel
theorem dX8_fill_0 : decode cX8_fill 0 = .ok (.iload_n 1, 1) := by decide +kernel
theorem dX8_fill_1 : decode cX8_fill 1 = .ok (.ifCond .lt 9, 3) := by decide +kernel
theorem dX8_fill_4 : decode cX8_fill 4 = .ok (.iload_n 1, 1) := by decide +kernel
theorem dX8_fill_5 : decode cX8_fill 5 = .ok (.bipush 99, 2) := by decide +kernel
theorem dX8_fill_7 : decode cX8_fill 7 = .ok (.if_icmp .le 6, 3) := by decide +kernel
theorem dX8_fill_10 : decode cX8_fill 10 = .ok (.bipush (-3), 2) := by decide +kernel
theorem dX8_fill_12 : decode cX8_fill 12 = .ok (.ireturn, 1) := by decide +kernel
theorem dX8_fill_13 : decode cX8_fill 13 = .ok (.aload_n 0, 1) := by decide +kernel
theorem dX8_fill_14 : decode cX8_fill 14 = .ok (.getfield 27, 3) := by decide +kernel
theorem dX8_fill_17 : decode cX8_fill 17 = .ok (.sipush 999, 3) := by decide +kernel
theorem dX8_fill_20 : decode cX8_fill 20 = .ok (.aload_n 0, 1) := by decide +kernel
theorem dX8_fill_21 : decode cX8_fill 21 = .ok (.getfield 27, 3) := by decide +kernel
theorem dX8_fill_24 : decode cX8_fill 24 = .ok (.getfield 208, 3) := by decide +kernel
theorem dX8_fill_27 : decode cX8_fill 27 = .ok (.iload_n 1, 1) := by decide +kernel
theorem dX8_fill_28 : decode cX8_fill 28 = .ok (.iadd, 1) := by decide +kernel
theorem dX8_fill_29 : decode cX8_fill 29 = .ok (.invokestatic 211, 3) := by decide +kernel
theorem dX8_fill_32 : decode cX8_fill 32 = .ok (.putfield 208, 3) := by decide +kernel
theorem dX8_fill_35 : decode cX8_fill 35 = .ok (.aload_n 0, 1) := by decide +kernel
theorem dX8_fill_36 : decode cX8_fill 36 = .ok (.getfield 27, 3) := by decide +kernel
theorem dX8_fill_39 : decode cX8_fill 39 = .ok (.getfield 208, 3) := by decide +kernel
theorem dX8_fill_42 : decode cX8_fill 42 = .ok (.ireturn, 1) := by decide +kernel
theorem dX8_night_0 : decode cX8_night 0 = .ok (.iload_n 2, 1) := by decide +kernel
theorem dX8_night_1 : decode cX8_night 1 = .ok (.iconst 1, 1) := by decide +kernel
theorem dX8_night_2 : decode cX8_night 2 = .ok (.if_icmp .lt 9, 3) := by decide +kernel
theorem dX8_night_5 : decode cX8_night 5 = .ok (.iload_n 2, 1) := by decide +kernel
theorem dX8_night_6 : decode cX8_night 6 = .ok (.bipush 60, 2) := by decide +kernel
theorem dX8_night_8 : decode cX8_night 8 = .ok (.if_icmp .le 6, 3) := by decide +kernel
theorem dX8_night_11 : decode cX8_night 11 = .ok (.bipush (-3), 2) := by decide +kernel
theorem dX8_night_13 : decode cX8_night 13 = .ok (.ireturn, 1) := by decide +kernel
theorem dX8_night_14 : decode cX8_night 14 = .ok (.iload_n 2, 1) := by decide +kernel
theorem dX8_night_15 : decode cX8_night 15 = .ok (.aload_n 0, 1) := by decide +kernel
theorem dX8_night_16 : decode cX8_night 16 = .ok (.getfield 27, 3) := by decide +kernel
theorem dX8_night_19 : decode cX8_night 19 = .ok (.getfield 208, 3) := by decide +kernel
theorem dX8_night_22 : decode cX8_night 22 = .ok (.invokestatic 211, 3) := by decide +kernel
theorem dX8_night_25 : decode cX8_night 25 = .ok (.istore_n 3, 1) := by decide +kernel
theorem dX8_night_26 : decode cX8_night 26 = .ok (.aload_n 0, 1) := by decide +kernel
theorem dX8_night_27 : decode cX8_night 27 = .ok (.getfield 27, 3) := by decide +kernel
theorem dX8_night_30 : decode cX8_night 30 = .ok (.getfield 161, 3) := by decide +kernel
theorem dX8_night_33 : decode cX8_night 33 = .ok (.ifCond .eq 22, 3) := by decide +kernel
theorem dX8_night_55 : decode cX8_night 55 = .ok (.bipush (-5), 2) := by decide +kernel
theorem dX8_night_57 : decode cX8_night 57 = .ok (.ireturn, 1) := by decide +kernel
theorem dX8_walk_0 : decode cX8_walk 0 = .ok (.aload_n 0, 1) := by decide +kernel
theorem dX8_walk_1 : decode cX8_walk 1 = .ok (.getfield 27, 3) := by decide +kernel
theorem dX8_walk_4 : decode cX8_walk 4 = .ok (.iload_n 1, 1) := by decide +kernel
theorem dX8_walk_5 : decode cX8_walk 5 = .ok (.invokevirtual 108, 3) := by decide +kernel
theorem dX8_walk_8 : decode cX8_walk 8 = .ok (.ifCond .eq 14, 3) := by decide +kernel
theorem dX8_walk_22 : decode cX8_walk 22 = .ok (.bipush (-2), 2) := by decide +kernel
theorem dX8_walk_24 : decode cX8_walk 24 = .ok (.ireturn, 1) := by decide +kernel
theorem dX8_most_0 : decode cX8_most 0 = .ok (.aload_n 0, 1) := by decide +kernel
theorem dX8_most_1 : decode cX8_most 1 = .ok (.iload_n 2, 1) := by decide +kernel
theorem dX8_most_2 : decode cX8_most 2 = .ok (.iconst 1, 1) := by decide +kernel
theorem dX8_most_3 : decode cX8_most 3 = .ok (.invokestatic 225, 3) := by decide +kernel
theorem dX8_most_6 : decode cX8_most 6 = .ok (.iload_n 1, 1) := by decide +kernel
theorem dX8_most_7 : decode cX8_most 7 = .ok (.bipush 8, 2) := by decide +kernel
theorem dX8_most_9 : decode cX8_most 9 = .ok (.invokevirtual 229, 3) := by decide +kernel
theorem dX8_most_12 : decode cX8_most 12 = .ok (.istore_n 3, 1) := by decide +kernel
theorem dX8_most_13 : decode cX8_most 13 = .ok (.iload_n 3, 1) := by decide +kernel
theorem dX8_most_14 : decode cX8_most 14 = .ok (.ifCond .eq 5, 3) := by decide +kernel
theorem dX8_most_17 : decode cX8_most 17 = .ok (.iload_n 3, 1) := by decide +kernel
theorem dX8_most_18 : decode cX8_most 18 = .ok (.ireturn, 1) := by decide +kernel
theorem dX8_dearest_0 : decode cX8_dearest 0 = .ok (.aload_n 0, 1) := by decide +kernel
theorem dX8_dearest_1 : decode cX8_dearest 1 = .ok (.iload_n 2, 1) := by decide +kernel
theorem dX8_dearest_2 : decode cX8_dearest 2 = .ok (.iconst 0, 1) := by decide +kernel
theorem dX8_dearest_3 : decode cX8_dearest 3 = .ok (.invokestatic 225, 3) := by decide +kernel
theorem dX8_dearest_6 : decode cX8_dearest 6 = .ok (.iload_n 1, 1) := by decide +kernel
theorem dX8_dearest_7 : decode cX8_dearest 7 = .ok (.bipush 8, 2) := by decide +kernel
theorem dX8_dearest_9 : decode cX8_dearest 9 = .ok (.invokevirtual 229, 3) := by decide +kernel
theorem dX8_dearest_12 : decode cX8_dearest 12 = .ok (.istore_n 3, 1) := by decide +kernel
theorem dX8_dearest_13 : decode cX8_dearest 13 = .ok (.iload_n 3, 1) := by decide +kernel
theorem dX8_dearest_14 : decode cX8_dearest 14 = .ok (.ifCond .eq 5, 3) := by decide +kernel
theorem dX8_dearest_17 : decode cX8_dearest 17 = .ok (.iload_n 3, 1) := by decide +kernel
theorem dX8_dearest_18 : decode cX8_dearest 18 = .ok (.ireturn, 1) := by decide +kernel
theorem dX8_fairest_0 : decode cX8_fairest 0 = .ok (.aload_n 0, 1) := by decide +kernel
theorem dX8_fairest_1 : decode cX8_fairest 1 = .ok (.iload_n 2, 1) := by decide +kernel
theorem dX8_fairest_2 : decode cX8_fairest 2 = .ok (.iconst 1, 1) := by decide +kernel
theorem dX8_fairest_3 : decode cX8_fairest 3 = .ok (.invokestatic 225, 3) := by decide +kernel
