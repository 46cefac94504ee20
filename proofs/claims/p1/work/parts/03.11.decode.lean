theorem dX9_pays_20 : decode cX9_pays 20 = .ok (.iload_n 2, 1) := by decide +kernel
theorem dX9_pays_21 : decode cX9_pays 21 = .ok (.i2l, 1) := by decide +kernel
theorem dX9_pays_22 : decode cX9_pays 22 = .ok (.lconst 1, 1) := by decide +kernel
theorem dX9_pays_23 : decode cX9_pays 23 = .ok (.ldc2_w 267, 3) := by decide +kernel
theorem dX9_pays_26 : decode cX9_pays 26 = .ok (.invokestatic 128, 3) := by decide +kernel
theorem dX9_pays_29 : decode cX9_pays 29 = .ok (.ifCond .ne 6, 3) := by decide +kernel
theorem dX9_pays_32 : decode cX9_pays 32 = .ok (.bipush (-3), 2) := by decide +kernel
theorem dX9_pays_34 : decode cX9_pays 34 = .ok (.ireturn, 1) := by decide +kernel
theorem dX9_pays_35 : decode cX9_pays 35 = .ok (.aload_n 0, 1) := by decide +kernel
theorem dX9_pays_36 : decode cX9_pays 36 = .ok (.getfield 13, 3) := by decide +kernel
theorem dX9_pays_39 : decode cX9_pays 39 = .ok (.iconst 0, 1) := by decide +kernel
theorem dX9_pays_40 : decode cX9_pays 40 = .ok (.iaload, 1) := by decide +kernel
theorem dX9_pays_41 : decode cX9_pays 41 = .ok (.ifCond .ne 6, 3) := by decide +kernel
theorem dX9_pays_44 : decode cX9_pays 44 = .ok (.bipush (-5), 2) := by decide +kernel
theorem dX9_pays_46 : decode cX9_pays 46 = .ok (.ireturn, 1) := by decide +kernel
theorem dX9_shifted_0 : decode cX9_shifted 0 = .ok (.aload_n 0, 1) := by decide +kernel
theorem dX9_shifted_1 : decode cX9_shifted 1 = .ok (.iconst 0, 1) := by decide +kernel
theorem dX9_shifted_2 : decode cX9_shifted 2 = .ok (.putfield 1, 3) := by decide +kernel
theorem dX9_shifted_5 : decode cX9_shifted 5 = .ok (.iload_n 2, 1) := by decide +kernel
theorem dX9_shifted_6 : decode cX9_shifted 6 = .ok (.i2l, 1) := by decide +kernel
theorem dX9_shifted_7 : decode cX9_shifted 7 = .ok (.lconst 0, 1) := by decide +kernel
theorem dX9_shifted_8 : decode cX9_shifted 8 = .ok (.ldc2_w 196, 3) := by decide +kernel
theorem dX9_shifted_11 : decode cX9_shifted 11 = .ok (.invokestatic 128, 3) := by decide +kernel
theorem dX9_shifted_14 : decode cX9_shifted 14 = .ok (.ifCond .ne 6, 3) := by decide +kernel
theorem dX9_shifted_17 : decode cX9_shifted 17 = .ok (.bipush (-2), 2) := by decide +kernel
theorem dX9_shifted_19 : decode cX9_shifted 19 = .ok (.ireturn, 1) := by decide +kernel
theorem dX9_shifted_20 : decode cX9_shifted 20 = .ok (.iload_n 1, 1) := by decide +kernel
theorem dX9_shifted_21 : decode cX9_shifted 21 = .ok (.i2l, 1) := by decide +kernel
theorem dX9_shifted_22 : decode cX9_shifted 22 = .ok (.lconst 1, 1) := by decide +kernel
theorem dX9_shifted_23 : decode cX9_shifted 23 = .ok (.ldc2_w 175, 3) := by decide +kernel
theorem dX9_shifted_26 : decode cX9_shifted 26 = .ok (.invokestatic 128, 3) := by decide +kernel
theorem dX9_shifted_29 : decode cX9_shifted 29 = .ok (.ifCond .ne 6, 3) := by decide +kernel
theorem dX9_shifted_32 : decode cX9_shifted 32 = .ok (.bipush (-3), 2) := by decide +kernel
theorem dX9_shifted_34 : decode cX9_shifted 34 = .ok (.ireturn, 1) := by decide +kernel
theorem dX9_shifted_35 : decode cX9_shifted 35 = .ok (.aload_n 0, 1) := by decide +kernel
theorem dX9_shifted_36 : decode cX9_shifted 36 = .ok (.getfield 13, 3) := by decide +kernel
theorem dX9_shifted_39 : decode cX9_shifted 39 = .ok (.iconst 0, 1) := by decide +kernel
theorem dX9_shifted_40 : decode cX9_shifted 40 = .ok (.iaload, 1) := by decide +kernel
theorem dX9_shifted_41 : decode cX9_shifted 41 = .ok (.ifCond .ne 6, 3) := by decide +kernel
theorem dX9_shifted_44 : decode cX9_shifted 44 = .ok (.bipush (-5), 2) := by decide +kernel
theorem dX9_shifted_46 : decode cX9_shifted 46 = .ok (.ireturn, 1) := by decide +kernel
theorem dX9_felled_0 : decode cX9_felled 0 = .ok (.aload_n 0, 1) := by decide +kernel
theorem dX9_felled_1 : decode cX9_felled 1 = .ok (.iconst 0, 1) := by decide +kernel
theorem dX9_felled_2 : decode cX9_felled 2 = .ok (.putfield 1, 3) := by decide +kernel
theorem dX9_felled_5 : decode cX9_felled 5 = .ok (.iload_n 2, 1) := by decide +kernel
theorem dX9_felled_6 : decode cX9_felled 6 = .ok (.i2l, 1) := by decide +kernel
theorem dX9_felled_7 : decode cX9_felled 7 = .ok (.lconst 0, 1) := by decide +kernel
theorem dX9_felled_8 : decode cX9_felled 8 = .ok (.lconst 1, 1) := by decide +kernel
theorem dX9_felled_9 : decode cX9_felled 9 = .ok (.invokestatic 128, 3) := by decide +kernel
theorem dX9_felled_12 : decode cX9_felled 12 = .ok (.ifCond .ne 6, 3) := by decide +kernel
theorem dX9_felled_15 : decode cX9_felled 15 = .ok (.bipush (-2), 2) := by decide +kernel
theorem dX9_felled_17 : decode cX9_felled 17 = .ok (.ireturn, 1) := by decide +kernel
theorem dX9_felled_18 : decode cX9_felled 18 = .ok (.iload_n 1, 1) := by decide +kernel
theorem dX9_felled_19 : decode cX9_felled 19 = .ok (.i2l, 1) := by decide +kernel
theorem dX9_felled_20 : decode cX9_felled 20 = .ok (.lconst 1, 1) := by decide +kernel
theorem dX9_felled_21 : decode cX9_felled 21 = .ok (.ldc2_w 276, 3) := by decide +kernel
theorem dX9_felled_24 : decode cX9_felled 24 = .ok (.invokestatic 128, 3) := by decide +kernel
theorem dX9_felled_27 : decode cX9_felled 27 = .ok (.ifCond .ne 6, 3) := by decide +kernel
theorem dX9_felled_30 : decode cX9_felled 30 = .ok (.bipush (-3), 2) := by decide +kernel
theorem dX9_felled_32 : decode cX9_felled 32 = .ok (.ireturn, 1) := by decide +kernel
theorem dX9_felled_33 : decode cX9_felled 33 = .ok (.aload_n 0, 1) := by decide +kernel
theorem dX9_felled_34 : decode cX9_felled 34 = .ok (.getfield 13, 3) := by decide +kernel
theorem dX9_felled_37 : decode cX9_felled 37 = .ok (.iconst 0, 1) := by decide +kernel
theorem dX9_felled_38 : decode cX9_felled 38 = .ok (.iaload, 1) := by decide +kernel
theorem dX9_felled_39 : decode cX9_felled 39 = .ok (.ifCond .ne 6, 3) := by decide +kernel
theorem dX9_felled_42 : decode cX9_felled 42 = .ok (.bipush (-5), 2) := by decide +kernel
theorem dX9_felled_44 : decode cX9_felled 44 = .ok (.ireturn, 1) := by decide +kernel
theorem dX9_soonest_0 : decode cX9_soonest 0 = .ok (.aload_n 0, 1) := by decide +kernel
theorem dX9_soonest_1 : decode cX9_soonest 1 = .ok (.iconst 0, 1) := by decide +kernel
theorem dX9_soonest_2 : decode cX9_soonest 2 = .ok (.putfield 1, 3) := by decide +kernel
theorem dX9_soonest_5 : decode cX9_soonest 5 = .ok (.iload_n 1, 1) := by decide +kernel
theorem dX9_soonest_6 : decode cX9_soonest 6 = .ok (.i2l, 1) := by decide +kernel
theorem dX9_soonest_7 : decode cX9_soonest 7 = .ok (.lconst 0, 1) := by decide +kernel
theorem dX9_soonest_8 : decode cX9_soonest 8 = .ok (.ldc2_w 278, 3) := by decide +kernel
theorem dX9_soonest_11 : decode cX9_soonest 11 = .ok (.invokestatic 128, 3) := by decide +kernel
theorem dX9_soonest_14 : decode cX9_soonest 14 = .ok (.ifCond .ne 6, 3) := by decide +kernel
theorem dX9_soonest_17 : decode cX9_soonest 17 = .ok (.bipush (-3), 2) := by decide +kernel
theorem dX9_soonest_19 : decode cX9_soonest 19 = .ok (.ireturn, 1) := by decide +kernel
theorem dX9_soonest_20 : decode cX9_soonest 20 = .ok (.aload_n 0, 1) := by decide +kernel
theorem dX9_soonest_21 : decode cX9_soonest 21 = .ok (.getfield 13, 3) := by decide +kernel
theorem dX9_soonest_24 : decode cX9_soonest 24 = .ok (.iconst 0, 1) := by decide +kernel
theorem dX9_soonest_25 : decode cX9_soonest 25 = .ok (.iaload, 1) := by decide +kernel
theorem dX9_soonest_26 : decode cX9_soonest 26 = .ok (.ifCond .ne 6, 3) := by decide +kernel
theorem dX9_soonest_29 : decode cX9_soonest 29 = .ok (.bipush (-5), 2) := by decide +kernel
theorem dX9_soonest_31 : decode cX9_soonest 31 = .ok (.ireturn, 1) := by decide +kernel
theorem dX9_dark_0 : decode cX9_dark 0 = .ok (.aload_n 0, 1) := by decide +kernel
theorem dX9_dark_1 : decode cX9_dark 1 = .ok (.iconst 0, 1) := by decide +kernel
theorem dX9_dark_2 : decode cX9_dark 2 = .ok (.putfield 1, 3) := by decide +kernel
theorem dX9_dark_5 : decode cX9_dark 5 = .ok (.iconst 1, 1) := by decide +kernel
theorem dX9_dark_6 : decode cX9_dark 6 = .ok (.aload_n 0, 1) := by decide +kernel
theorem dX9_dark_7 : decode cX9_dark 7 = .ok (.getfield 13, 3) := by decide +kernel
theorem dX9_dark_10 : decode cX9_dark 10 = .ok (.iconst 0, 1) := by decide +kernel
theorem dX9_dark_11 : decode cX9_dark 11 = .ok (.iaload, 1) := by decide +kernel
theorem dX9_dark_12 : decode cX9_dark 12 = .ok (.ishl, 1) := by decide +kernel
theorem dX9_dark_13 : decode cX9_dark 13 = .ok (.iconst 1, 1) := by decide +kernel
theorem dX9_dark_14 : decode cX9_dark 14 = .ok (.isub, 1) := by decide +kernel
theorem dX9_dark_15 : decode cX9_dark 15 = .ok (.istore_n 1, 1) := by decide +kernel
theorem dX9_dark_16 : decode cX9_dark 16 = .ok (.iconst 0, 1) := by decide +kernel
theorem dX9_dark_17 : decode cX9_dark 17 = .ok (.istore_n 2, 1) := by decide +kernel
theorem dX9_dark_18 : decode cX9_dark 18 = .ok (.iload_n 2, 1) := by decide +kernel
theorem dX9_dark_19 : decode cX9_dark 19 = .ok (.aload_n 0, 1) := by decide +kernel
theorem dX9_dark_20 : decode cX9_dark 20 = .ok (.getfield 13, 3) := by decide +kernel
theorem dX9_dark_23 : decode cX9_dark 23 = .ok (.iconst 0, 1) := by decide +kernel
theorem dX9_dark_24 : decode cX9_dark 24 = .ok (.iaload, 1) := by decide +kernel
theorem dX9_dark_25 : decode cX9_dark 25 = .ok (.if_icmp .ge 25, 3) := by decide +kernel
theorem dX9_dark_50 : decode cX9_dark 50 = .ok (.iload_n 1, 1) := by decide +kernel
theorem dX9_dark_51 : decode cX9_dark 51 = .ok (.ireturn, 1) := by decide +kernel
theorem dX9_ends_0 : decode cX9_ends 0 = .ok (.aload_n 0, 1) := by decide +kernel
theorem dX9_ends_1 : decode cX9_ends 1 = .ok (.iconst 0, 1) := by decide +kernel
theorem dX9_ends_2 : decode cX9_ends 2 = .ok (.putfield 1, 3) := by decide +kernel
theorem dX9_ends_5 : decode cX9_ends 5 = .ok (.iload_n 1, 1) := by decide +kernel
theorem dX9_ends_6 : decode cX9_ends 6 = .ok (.i2l, 1) := by decide +kernel
theorem dX9_ends_7 : decode cX9_ends 7 = .ok (.lconst 1, 1) := by decide +kernel
theorem dX9_ends_8 : decode cX9_ends 8 = .ok (.ldc2_w 276, 3) := by decide +kernel
theorem dX9_ends_11 : decode cX9_ends 11 = .ok (.invokestatic 128, 3) := by decide +kernel
theorem dX9_ends_14 : decode cX9_ends 14 = .ok (.ifCond .ne 6, 3) := by decide +kernel
theorem dX9_ends_17 : decode cX9_ends 17 = .ok (.bipush (-3), 2) := by decide +kernel
theorem dX9_ends_19 : decode cX9_ends 19 = .ok (.ireturn, 1) := by decide +kernel
theorem dX9_ends_20 : decode cX9_ends 20 = .ok (.aload_n 0, 1) := by decide +kernel
theorem dX9_ends_21 : decode cX9_ends 21 = .ok (.getfield 13, 3) := by decide +kernel
theorem dX9_ends_24 : decode cX9_ends 24 = .ok (.iconst 0, 1) := by decide +kernel
theorem dX9_ends_25 : decode cX9_ends 25 = .ok (.iaload, 1) := by decide +kernel
theorem dX9_ends_26 : decode cX9_ends 26 = .ok (.ifCond .ne 6, 3) := by decide +kernel
theorem dX9_ends_29 : decode cX9_ends 29 = .ok (.bipush (-5), 2) := by decide +kernel
theorem dX9_ends_31 : decode cX9_ends 31 = .ok (.ireturn, 1) := by decide +kernel
theorem dX9_haltsFor_0 : decode cX9_haltsFor 0 = .ok (.iconst 0, 1) := by decide +kernel
theorem dX9_haltsFor_1 : decode cX9_haltsFor 1 = .ok (.istore_n 2, 1) := by decide +kernel
theorem dX9_haltsFor_2 : decode cX9_haltsFor 2 = .ok (.iload_n 2, 1) := by decide +kernel
theorem dX9_haltsFor_3 : decode cX9_haltsFor 3 = .ok (.aload_n 0, 1) := by decide +kernel
theorem dX9_haltsFor_4 : decode cX9_haltsFor 4 = .ok (.getfield 13, 3) := by decide +kernel
theorem dX9_haltsFor_7 : decode cX9_haltsFor 7 = .ok (.iconst 0, 1) := by decide +kernel
theorem dX9_haltsFor_8 : decode cX9_haltsFor 8 = .ok (.iaload, 1) := by decide +kernel
theorem dX9_haltsFor_9 : decode cX9_haltsFor 9 = .ok (.if_icmp .ge 26, 3) := by decide +kernel
theorem dX9_haltsFor_35 : decode cX9_haltsFor 35 = .ok (.iconst (-1), 1) := by decide +kernel
theorem dX9_haltsFor_36 : decode cX9_haltsFor 36 = .ok (.istore_n 2, 1) := by decide +kernel
theorem dX9_haltsFor_37 : decode cX9_haltsFor 37 = .ok (.iconst 0, 1) := by decide +kernel
theorem dX9_haltsFor_38 : decode cX9_haltsFor 38 = .ok (.istore_n 3, 1) := by decide +kernel
theorem dX9_haltsFor_39 : decode cX9_haltsFor 39 = .ok (.iload_n 3, 1) := by decide +kernel
theorem dX9_haltsFor_40 : decode cX9_haltsFor 40 = .ok (.iconst 1, 1) := by decide +kernel
theorem dX9_haltsFor_41 : decode cX9_haltsFor 41 = .ok (.aload_n 0, 1) := by decide +kernel
theorem dX9_haltsFor_42 : decode cX9_haltsFor 42 = .ok (.getfield 13, 3) := by decide +kernel
theorem dX9_haltsFor_45 : decode cX9_haltsFor 45 = .ok (.iconst 0, 1) := by decide +kernel
theorem dX9_haltsFor_46 : decode cX9_haltsFor 46 = .ok (.iaload, 1) := by decide +kernel
theorem dX9_haltsFor_47 : decode cX9_haltsFor 47 = .ok (.ishl, 1) := by decide +kernel
theorem dX9_haltsFor_48 : decode cX9_haltsFor 48 = .ok (.if_icmp .ge 88, 3) := by decide +kernel
theorem dX9_haltsFor_51 : decode cX9_haltsFor 51 = .ok (.iload_n 2, 1) := by decide +kernel
theorem dX9_haltsFor_52 : decode cX9_haltsFor 52 = .ok (.iconst (-1), 1) := by decide +kernel
theorem dX9_haltsFor_53 : decode cX9_haltsFor 53 = .ok (.if_icmp .eq 17, 3) := by decide +kernel
theorem dX9_haltsFor_70 : decode cX9_haltsFor 70 = .ok (.iconst 0, 1) := by decide +kernel
theorem dX9_haltsFor_71 : decode cX9_haltsFor 71 = .ok (.istore 4, 2) := by decide +kernel
theorem dX9_haltsFor_73 : decode cX9_haltsFor 73 = .ok (.iconst 0, 1) := by decide +kernel
theorem dX9_haltsFor_74 : decode cX9_haltsFor 74 = .ok (.istore 5, 2) := by decide +kernel
theorem dX9_haltsFor_76 : decode cX9_haltsFor 76 = .ok (.iload 5, 2) := by decide +kernel
theorem dX9_haltsFor_78 : decode cX9_haltsFor 78 = .ok (.aload_n 0, 1) := by decide +kernel
theorem dX9_haltsFor_79 : decode cX9_haltsFor 79 = .ok (.getfield 13, 3) := by decide +kernel
theorem dX9_haltsFor_82 : decode cX9_haltsFor 82 = .ok (.iconst 0, 1) := by decide +kernel
theorem dX9_haltsFor_83 : decode cX9_haltsFor 83 = .ok (.iaload, 1) := by decide +kernel
theorem dX9_haltsFor_84 : decode cX9_haltsFor 84 = .ok (.if_icmp .ge 35, 3) := by decide +kernel
theorem dX9_haltsFor_119 : decode cX9_haltsFor 119 = .ok (.iload_n 1, 1) := by decide +kernel
theorem dX9_haltsFor_120 : decode cX9_haltsFor 120 = .ok (.iload 4, 2) := by decide +kernel
theorem dX9_haltsFor_122 : decode cX9_haltsFor 122 = .ok (.iconst (-1), 1) := by decide +kernel
theorem dX9_haltsFor_123 : decode cX9_haltsFor 123 = .ok (.ixor, 1) := by decide +kernel
theorem dX9_haltsFor_124 : decode cX9_haltsFor 124 = .ok (.iand, 1) := by decide +kernel
theorem dX9_haltsFor_125 : decode cX9_haltsFor 125 = .ok (.ifCond .ne 5, 3) := by decide +kernel
theorem dX9_haltsFor_128 : decode cX9_haltsFor 128 = .ok (.iload_n 3, 1) := by decide +kernel
theorem dX9_haltsFor_129 : decode cX9_haltsFor 129 = .ok (.istore_n 2, 1) := by decide +kernel
theorem dX9_haltsFor_130 : decode cX9_haltsFor 130 = .ok (.iinc 3 1, 3) := by decide +kernel
theorem dX9_haltsFor_133 : decode cX9_haltsFor 133 = .ok (.goto (-94), 3) := by decide +kernel
theorem dX9_haltsFor_136 : decode cX9_haltsFor 136 = .ok (.iload_n 2, 1) := by decide +kernel
theorem dX9_haltsFor_137 : decode cX9_haltsFor 137 = .ok (.ireturn, 1) := by decide +kernel
theorem dX9_halts_0 : decode cX9_halts 0 = .ok (.aload_n 0, 1) := by decide +kernel
theorem dX9_halts_1 : decode cX9_halts 1 = .ok (.iconst 0, 1) := by decide +kernel
theorem dX9_halts_2 : decode cX9_halts 2 = .ok (.putfield 1, 3) := by decide +kernel
theorem dX9_halts_5 : decode cX9_halts 5 = .ok (.aload_n 0, 1) := by decide +kernel
theorem dX9_halts_6 : decode cX9_halts 6 = .ok (.iload_n 1, 1) := by decide +kernel
theorem dX9_halts_7 : decode cX9_halts 7 = .ok (.invokevirtual 191, 3) := by decide +kernel
theorem dX9_halts_10 : decode cX9_halts 10 = .ok (.ifCond .eq 11, 3) := by decide +kernel
theorem dX9_halts_13 : decode cX9_halts 13 = .ok (.aload_n 0, 1) := by decide +kernel
theorem dX9_halts_14 : decode cX9_halts 14 = .ok (.iload_n 1, 1) := by decide +kernel
theorem dX9_halts_15 : decode cX9_halts 15 = .ok (.invokevirtual 294, 3) := by decide +kernel
theorem dX9_halts_18 : decode cX9_halts 18 = .ok (.goto 5, 3) := by decide +kernel
theorem dX9_halts_21 : decode cX9_halts 21 = .ok (.bipush (-3), 2) := by decide +kernel
theorem dX9_halts_23 : decode cX9_halts 23 = .ok (.ireturn, 1) := by decide +kernel
theorem dX9_tour_0 : decode cX9_tour 0 = .ok (.aload_n 0, 1) := by decide +kernel
theorem dX9_tour_1 : decode cX9_tour 1 = .ok (.iconst 0, 1) := by decide +kernel
theorem dX9_tour_2 : decode cX9_tour 2 = .ok (.putfield 1, 3) := by decide +kernel
theorem dX9_tour_5 : decode cX9_tour 5 = .ok (.aload_n 0, 1) := by decide +kernel
theorem dX9_tour_6 : decode cX9_tour 6 = .ok (.iload_n 1, 1) := by decide +kernel
theorem dX9_tour_7 : decode cX9_tour 7 = .ok (.invokevirtual 191, 3) := by decide +kernel
theorem dX9_tour_10 : decode cX9_tour 10 = .ok (.ifCond .ne 6, 3) := by decide +kernel
theorem dX9_tour_13 : decode cX9_tour 13 = .ok (.bipush (-3), 2) := by decide +kernel
theorem dX9_tour_15 : decode cX9_tour 15 = .ok (.ireturn, 1) := by decide +kernel
theorem dX9_tour_16 : decode cX9_tour 16 = .ok (.aload_n 0, 1) := by decide +kernel
theorem dX9_tour_17 : decode cX9_tour 17 = .ok (.iload_n 1, 1) := by decide +kernel
theorem dX9_tour_18 : decode cX9_tour 18 = .ok (.invokevirtual 294, 3) := by decide +kernel
theorem dX9_tour_21 : decode cX9_tour 21 = .ok (.istore_n 2, 1) := by decide +kernel
theorem dX9_tour_22 : decode cX9_tour 22 = .ok (.iload_n 2, 1) := by decide +kernel
theorem dX9_tour_23 : decode cX9_tour 23 = .ok (.ifCond .gt 5, 3) := by decide +kernel
theorem dX9_tour_26 : decode cX9_tour 26 = .ok (.iload_n 2, 1) := by decide +kernel
theorem dX9_tour_27 : decode cX9_tour 27 = .ok (.ireturn, 1) := by decide +kernel
