theorem dX8_fairest_6 : decode cX8_fairest 6 = .ok (.iload_n 1, 1) := by decide +kernel
theorem dX8_fairest_7 : decode cX8_fairest 7 = .ok (.bipush 8, 2) := by decide +kernel
theorem dX8_fairest_9 : decode cX8_fairest 9 = .ok (.invokevirtual 229, 3) := by decide +kernel
theorem dX8_fairest_12 : decode cX8_fairest 12 = .ok (.istore_n 3, 1) := by decide +kernel
theorem dX8_fairest_13 : decode cX8_fairest 13 = .ok (.iload_n 3, 1) := by decide +kernel
theorem dX8_fairest_14 : decode cX8_fairest 14 = .ok (.ifCond .eq 5, 3) := by decide +kernel
theorem dX8_fairest_17 : decode cX8_fairest 17 = .ok (.iload_n 3, 1) := by decide +kernel
theorem dX8_fairest_18 : decode cX8_fairest 18 = .ok (.ireturn, 1) := by decide +kernel
theorem dX8_alone_0 : decode cX8_alone 0 = .ok (.aload_n 0, 1) := by decide +kernel
theorem dX8_alone_1 : decode cX8_alone 1 = .ok (.iload_n 1, 1) := by decide +kernel
theorem dX8_alone_2 : decode cX8_alone 2 = .ok (.invokestatic 135, 3) := by decide +kernel
theorem dX8_alone_5 : decode cX8_alone 5 = .ok (.ifCond .eq 15, 3) := by decide +kernel
theorem dX8_alone_8 : decode cX8_alone 8 = .ok (.iload_n 3, 1) := by decide +kernel
theorem dX8_alone_9 : decode cX8_alone 9 = .ok (.iconst 0, 1) := by decide +kernel
theorem dX8_alone_10 : decode cX8_alone 10 = .ok (.invokestatic 225, 3) := by decide +kernel
theorem dX8_alone_13 : decode cX8_alone 13 = .ok (.ifCond .eq 7, 3) := by decide +kernel
theorem dX8_alone_16 : decode cX8_alone 16 = .ok (.iconst 1, 1) := by decide +kernel
theorem dX8_alone_17 : decode cX8_alone 17 = .ok (.goto 4, 3) := by decide +kernel
theorem dX8_alone_20 : decode cX8_alone 20 = .ok (.iconst 0, 1) := by decide +kernel
theorem dX8_alone_21 : decode cX8_alone 21 = .ok (.iload_n 2, 1) := by decide +kernel
theorem dX8_alone_22 : decode cX8_alone 22 = .ok (.bipush 8, 2) := by decide +kernel
theorem dX8_alone_24 : decode cX8_alone 24 = .ok (.invokevirtual 229, 3) := by decide +kernel
theorem dX8_alone_27 : decode cX8_alone 27 = .ok (.istore 4, 2) := by decide +kernel
theorem dX8_alone_29 : decode cX8_alone 29 = .ok (.iload 4, 2) := by decide +kernel
theorem dX8_alone_31 : decode cX8_alone 31 = .ok (.ifCond .eq 6, 3) := by decide +kernel
theorem dX8_alone_34 : decode cX8_alone 34 = .ok (.iload 4, 2) := by decide +kernel
theorem dX8_alone_36 : decode cX8_alone 36 = .ok (.ireturn, 1) := by decide +kernel
theorem dX8_pays_0 : decode cX8_pays 0 = .ok (.aload_n 0, 1) := by decide +kernel
theorem dX8_pays_1 : decode cX8_pays 1 = .ok (.iload_n 1, 1) := by decide +kernel
theorem dX8_pays_2 : decode cX8_pays 2 = .ok (.invokestatic 135, 3) := by decide +kernel
theorem dX8_pays_5 : decode cX8_pays 5 = .ok (.iload_n 2, 1) := by decide +kernel
theorem dX8_pays_6 : decode cX8_pays 6 = .ok (.bipush 8, 2) := by decide +kernel
theorem dX8_pays_8 : decode cX8_pays 8 = .ok (.invokevirtual 229, 3) := by decide +kernel
theorem dX8_pays_11 : decode cX8_pays 11 = .ok (.istore_n 3, 1) := by decide +kernel
theorem dX8_pays_12 : decode cX8_pays 12 = .ok (.iload_n 3, 1) := by decide +kernel
theorem dX8_pays_13 : decode cX8_pays 13 = .ok (.ifCond .eq 5, 3) := by decide +kernel
theorem dX8_pays_16 : decode cX8_pays 16 = .ok (.iload_n 3, 1) := by decide +kernel
theorem dX8_pays_17 : decode cX8_pays 17 = .ok (.ireturn, 1) := by decide +kernel
theorem dX8_shifted_0 : decode cX8_shifted 0 = .ok (.aload_n 0, 1) := by decide +kernel
theorem dX8_shifted_1 : decode cX8_shifted 1 = .ok (.iload_n 2, 1) := by decide +kernel
theorem dX8_shifted_2 : decode cX8_shifted 2 = .ok (.ifCond .lt 12, 3) := by decide +kernel
theorem dX8_shifted_5 : decode cX8_shifted 5 = .ok (.iload_n 2, 1) := by decide +kernel
theorem dX8_shifted_6 : decode cX8_shifted 6 = .ok (.iconst 2, 1) := by decide +kernel
theorem dX8_shifted_7 : decode cX8_shifted 7 = .ok (.if_icmp .gt 7, 3) := by decide +kernel
theorem dX8_shifted_10 : decode cX8_shifted 10 = .ok (.iconst 1, 1) := by decide +kernel
theorem dX8_shifted_11 : decode cX8_shifted 11 = .ok (.goto 4, 3) := by decide +kernel
theorem dX8_shifted_14 : decode cX8_shifted 14 = .ok (.iconst 0, 1) := by decide +kernel
theorem dX8_shifted_15 : decode cX8_shifted 15 = .ok (.iload_n 1, 1) := by decide +kernel
theorem dX8_shifted_16 : decode cX8_shifted 16 = .ok (.iconst 5, 1) := by decide +kernel
theorem dX8_shifted_17 : decode cX8_shifted 17 = .ok (.invokevirtual 229, 3) := by decide +kernel
theorem dX8_shifted_20 : decode cX8_shifted 20 = .ok (.istore_n 3, 1) := by decide +kernel
theorem dX8_shifted_21 : decode cX8_shifted 21 = .ok (.iload_n 3, 1) := by decide +kernel
theorem dX8_shifted_22 : decode cX8_shifted 22 = .ok (.ifCond .eq 5, 3) := by decide +kernel
theorem dX8_shifted_25 : decode cX8_shifted 25 = .ok (.iload_n 3, 1) := by decide +kernel
theorem dX8_shifted_26 : decode cX8_shifted 26 = .ok (.ireturn, 1) := by decide +kernel
theorem dX8_felled_0 : decode cX8_felled 0 = .ok (.aload_n 0, 1) := by decide +kernel
theorem dX8_felled_1 : decode cX8_felled 1 = .ok (.iload_n 2, 1) := by decide +kernel
theorem dX8_felled_2 : decode cX8_felled 2 = .ok (.ifCond .eq 8, 3) := by decide +kernel
theorem dX8_felled_5 : decode cX8_felled 5 = .ok (.iload_n 2, 1) := by decide +kernel
theorem dX8_felled_6 : decode cX8_felled 6 = .ok (.iconst 1, 1) := by decide +kernel
theorem dX8_felled_7 : decode cX8_felled 7 = .ok (.if_icmp .ne 7, 3) := by decide +kernel
theorem dX8_felled_10 : decode cX8_felled 10 = .ok (.iconst 1, 1) := by decide +kernel
theorem dX8_felled_11 : decode cX8_felled 11 = .ok (.goto 4, 3) := by decide +kernel
theorem dX8_felled_14 : decode cX8_felled 14 = .ok (.iconst 0, 1) := by decide +kernel
theorem dX8_felled_15 : decode cX8_felled 15 = .ok (.iload_n 1, 1) := by decide +kernel
theorem dX8_felled_16 : decode cX8_felled 16 = .ok (.bipush 6, 2) := by decide +kernel
theorem dX8_felled_18 : decode cX8_felled 18 = .ok (.invokevirtual 229, 3) := by decide +kernel
theorem dX8_felled_21 : decode cX8_felled 21 = .ok (.istore_n 3, 1) := by decide +kernel
theorem dX8_felled_22 : decode cX8_felled 22 = .ok (.iload_n 3, 1) := by decide +kernel
theorem dX8_felled_23 : decode cX8_felled 23 = .ok (.ifCond .eq 5, 3) := by decide +kernel
theorem dX8_felled_26 : decode cX8_felled 26 = .ok (.iload_n 3, 1) := by decide +kernel
theorem dX8_felled_27 : decode cX8_felled 27 = .ok (.ireturn, 1) := by decide +kernel
theorem dX8_soonest_0 : decode cX8_soonest 0 = .ok (.iload_n 1, 1) := by decide +kernel
theorem dX8_soonest_1 : decode cX8_soonest 1 = .ok (.ifCond .lt 10, 3) := by decide +kernel
theorem dX8_soonest_4 : decode cX8_soonest 4 = .ok (.iload_n 1, 1) := by decide +kernel
theorem dX8_soonest_5 : decode cX8_soonest 5 = .ok (.sipush 9999, 3) := by decide +kernel
theorem dX8_soonest_8 : decode cX8_soonest 8 = .ok (.if_icmp .le 6, 3) := by decide +kernel
theorem dX8_soonest_11 : decode cX8_soonest 11 = .ok (.bipush (-3), 2) := by decide +kernel
theorem dX8_soonest_13 : decode cX8_soonest 13 = .ok (.ireturn, 1) := by decide +kernel
theorem dX8_soonest_14 : decode cX8_soonest 14 = .ok (.aload_n 0, 1) := by decide +kernel
theorem dX8_soonest_15 : decode cX8_soonest 15 = .ok (.getfield 27, 3) := by decide +kernel
theorem dX8_soonest_18 : decode cX8_soonest 18 = .ok (.getfield 161, 3) := by decide +kernel
theorem dX8_soonest_21 : decode cX8_soonest 21 = .ok (.ifCond .ne 6, 3) := by decide +kernel
theorem dX8_soonest_24 : decode cX8_soonest 24 = .ok (.bipush (-5), 2) := by decide +kernel
theorem dX8_soonest_26 : decode cX8_soonest 26 = .ok (.ireturn, 1) := by decide +kernel
theorem dX8_dark_0 : decode cX8_dark 0 = .ok (.iconst 0, 1) := by decide +kernel
theorem dX8_dark_1 : decode cX8_dark 1 = .ok (.istore_n 1, 1) := by decide +kernel
theorem dX8_dark_2 : decode cX8_dark 2 = .ok (.iconst 0, 1) := by decide +kernel
theorem dX8_dark_3 : decode cX8_dark 3 = .ok (.istore_n 2, 1) := by decide +kernel
theorem dX8_dark_4 : decode cX8_dark 4 = .ok (.iload_n 2, 1) := by decide +kernel
theorem dX8_dark_5 : decode cX8_dark 5 = .ok (.aload_n 0, 1) := by decide +kernel
theorem dX8_dark_6 : decode cX8_dark 6 = .ok (.getfield 27, 3) := by decide +kernel
theorem dX8_dark_9 : decode cX8_dark 9 = .ok (.getfield 161, 3) := by decide +kernel
theorem dX8_dark_12 : decode cX8_dark 12 = .ok (.if_icmp .ge 20, 3) := by decide +kernel
theorem dX8_dark_32 : decode cX8_dark 32 = .ok (.aload_n 0, 1) := by decide +kernel
theorem dX8_dark_33 : decode cX8_dark 33 = .ok (.getfield 27, 3) := by decide +kernel
theorem dX8_dark_36 : decode cX8_dark 36 = .ok (.invokevirtual 284, 3) := by decide +kernel
theorem dX8_dark_39 : decode cX8_dark 39 = .ok (.iload_n 1, 1) := by decide +kernel
theorem dX8_dark_40 : decode cX8_dark 40 = .ok (.iconst (-1), 1) := by decide +kernel
theorem dX8_dark_41 : decode cX8_dark 41 = .ok (.ixor, 1) := by decide +kernel
theorem dX8_dark_42 : decode cX8_dark 42 = .ok (.iand, 1) := by decide +kernel
theorem dX8_dark_43 : decode cX8_dark 43 = .ok (.ireturn, 1) := by decide +kernel
theorem dX8_ends_0 : decode cX8_ends 0 = .ok (.aload_n 0, 1) := by decide +kernel
theorem dX8_ends_1 : decode cX8_ends 1 = .ok (.iconst 1, 1) := by decide +kernel
theorem dX8_ends_2 : decode cX8_ends 2 = .ok (.iload_n 1, 1) := by decide +kernel
theorem dX8_ends_3 : decode cX8_ends 3 = .ok (.bipush 6, 2) := by decide +kernel
theorem dX8_ends_5 : decode cX8_ends 5 = .ok (.invokevirtual 229, 3) := by decide +kernel
theorem dX8_ends_8 : decode cX8_ends 8 = .ok (.istore_n 2, 1) := by decide +kernel
theorem dX8_ends_9 : decode cX8_ends 9 = .ok (.iload_n 2, 1) := by decide +kernel
theorem dX8_ends_10 : decode cX8_ends 10 = .ok (.ifCond .eq 5, 3) := by decide +kernel
theorem dX8_ends_13 : decode cX8_ends 13 = .ok (.iload_n 2, 1) := by decide +kernel
theorem dX8_ends_14 : decode cX8_ends 14 = .ok (.ireturn, 1) := by decide +kernel
theorem dX8_halts_0 : decode cX8_halts 0 = .ok (.aload_n 0, 1) := by decide +kernel
theorem dX8_halts_1 : decode cX8_halts 1 = .ok (.getfield 27, 3) := by decide +kernel
theorem dX8_halts_4 : decode cX8_halts 4 = .ok (.iload_n 1, 1) := by decide +kernel
theorem dX8_halts_5 : decode cX8_halts 5 = .ok (.invokevirtual 158, 3) := by decide +kernel
theorem dX8_halts_8 : decode cX8_halts 8 = .ok (.ifCond .ne 6, 3) := by decide +kernel
theorem dX8_halts_11 : decode cX8_halts 11 = .ok (.bipush (-3), 2) := by decide +kernel
theorem dX8_halts_13 : decode cX8_halts 13 = .ok (.ireturn, 1) := by decide +kernel
theorem dX8_halts_14 : decode cX8_halts 14 = .ok (.aload_n 0, 1) := by decide +kernel
theorem dX8_halts_15 : decode cX8_halts 15 = .ok (.getfield 79, 3) := by decide +kernel
theorem dX8_halts_18 : decode cX8_halts 18 = .ok (.aload_n 0, 1) := by decide +kernel
theorem dX8_halts_19 : decode cX8_halts 19 = .ok (.getfield 27, 3) := by decide +kernel
theorem dX8_halts_22 : decode cX8_halts 22 = .ok (.iload_n 1, 1) := by decide +kernel
theorem dX8_halts_23 : decode cX8_halts 23 = .ok (.invokevirtual 291, 3) := by decide +kernel
theorem dX8_halts_26 : decode cX8_halts 26 = .ok (.ireturn, 1) := by decide +kernel
theorem dX8_tour_0 : decode cX8_tour 0 = .ok (.aload_n 0, 1) := by decide +kernel
theorem dX8_tour_1 : decode cX8_tour 1 = .ok (.getfield 27, 3) := by decide +kernel
theorem dX8_tour_4 : decode cX8_tour 4 = .ok (.iload_n 1, 1) := by decide +kernel
theorem dX8_tour_5 : decode cX8_tour 5 = .ok (.invokevirtual 158, 3) := by decide +kernel
theorem dX8_tour_8 : decode cX8_tour 8 = .ok (.ifCond .ne 6, 3) := by decide +kernel
theorem dX8_tour_11 : decode cX8_tour 11 = .ok (.bipush (-3), 2) := by decide +kernel
theorem dX8_tour_13 : decode cX8_tour 13 = .ok (.ireturn, 1) := by decide +kernel
theorem dX8_tour_14 : decode cX8_tour 14 = .ok (.aload_n 0, 1) := by decide +kernel
theorem dX8_tour_15 : decode cX8_tour 15 = .ok (.getfield 79, 3) := by decide +kernel
theorem dX8_tour_18 : decode cX8_tour 18 = .ok (.aload_n 0, 1) := by decide +kernel
theorem dX8_tour_19 : decode cX8_tour 19 = .ok (.getfield 27, 3) := by decide +kernel
theorem dX8_tour_22 : decode cX8_tour 22 = .ok (.iload_n 1, 1) := by decide +kernel
theorem dX8_tour_23 : decode cX8_tour 23 = .ok (.invokevirtual 291, 3) := by decide +kernel
theorem dX8_tour_26 : decode cX8_tour 26 = .ok (.istore_n 2, 1) := by decide +kernel
theorem dX8_tour_27 : decode cX8_tour 27 = .ok (.iload_n 2, 1) := by decide +kernel
theorem dX8_tour_28 : decode cX8_tour 28 = .ok (.iconst (-1), 1) := by decide +kernel
theorem dX8_tour_29 : decode cX8_tour 29 = .ok (.if_icmp .eq 7, 3) := by decide +kernel
theorem dX8_tour_32 : decode cX8_tour 32 = .ok (.iload_n 2, 1) := by decide +kernel
theorem dX8_tour_33 : decode cX8_tour 33 = .ok (.ifCond .ne 5, 3) := by decide +kernel
theorem dX8_tour_36 : decode cX8_tour 36 = .ok (.iload_n 2, 1) := by decide +kernel
theorem dX8_tour_37 : decode cX8_tour 37 = .ok (.ireturn, 1) := by decide +kernel
theorem dX8_stubble_0 : decode cX8_stubble 0 = .ok (.aload_n 0, 1) := by decide +kernel
theorem dX8_stubble_1 : decode cX8_stubble 1 = .ok (.iload_n 1, 1) := by decide +kernel
theorem dX8_stubble_2 : decode cX8_stubble 2 = .ok (.iload_n 2, 1) := by decide +kernel
theorem dX8_stubble_3 : decode cX8_stubble 3 = .ok (.invokevirtual 306, 3) := by decide +kernel
theorem dX8_stubble_6 : decode cX8_stubble 6 = .ok (.istore_n 3, 1) := by decide +kernel
theorem dX8_stubble_7 : decode cX8_stubble 7 = .ok (.iload_n 3, 1) := by decide +kernel
theorem dX8_stubble_8 : decode cX8_stubble 8 = .ok (.ifCond .eq 5, 3) := by decide +kernel
theorem dX8_stubble_11 : decode cX8_stubble 11 = .ok (.iload_n 3, 1) := by decide +kernel
theorem dX8_stubble_12 : decode cX8_stubble 12 = .ok (.ireturn, 1) := by decide +kernel
theorem dX8_sure_0 : decode cX8_sure 0 = .ok (.aload_n 0, 1) := by decide +kernel
theorem dX8_sure_1 : decode cX8_sure 1 = .ok (.iload_n 1, 1) := by decide +kernel
theorem dX8_sure_2 : decode cX8_sure 2 = .ok (.iload_n 2, 1) := by decide +kernel
theorem dX8_sure_3 : decode cX8_sure 3 = .ok (.invokevirtual 306, 3) := by decide +kernel
theorem dX8_sure_6 : decode cX8_sure 6 = .ok (.istore_n 3, 1) := by decide +kernel
theorem dX8_sure_7 : decode cX8_sure 7 = .ok (.iload_n 3, 1) := by decide +kernel
theorem dX8_sure_8 : decode cX8_sure 8 = .ok (.ifCond .eq 5, 3) := by decide +kernel
theorem dX8_sure_11 : decode cX8_sure 11 = .ok (.iload_n 3, 1) := by decide +kernel
theorem dX8_sure_12 : decode cX8_sure 12 = .ok (.ireturn, 1) := by decide +kernel
theorem dX8_meets_0 : decode cX8_meets 0 = .ok (.aload_n 0, 1) := by decide +kernel
theorem dX8_meets_1 : decode cX8_meets 1 = .ok (.iload_n 1, 1) := by decide +kernel
theorem dX8_meets_2 : decode cX8_meets 2 = .ok (.iload_n 2, 1) := by decide +kernel
theorem dX8_meets_3 : decode cX8_meets 3 = .ok (.invokevirtual 319, 3) := by decide +kernel
theorem dX8_meets_6 : decode cX8_meets 6 = .ok (.istore_n 3, 1) := by decide +kernel
theorem dX8_meets_7 : decode cX8_meets 7 = .ok (.iload_n 3, 1) := by decide +kernel
theorem dX8_meets_8 : decode cX8_meets 8 = .ok (.ifCond .eq 5, 3) := by decide +kernel
theorem dX8_meets_11 : decode cX8_meets 11 = .ok (.iload_n 3, 1) := by decide +kernel
theorem dX8_meets_12 : decode cX8_meets 12 = .ok (.ireturn, 1) := by decide +kernel
theorem dX8_delay_0 : decode cX8_delay 0 = .ok (.aload_n 0, 1) := by decide +kernel
theorem dX8_delay_1 : decode cX8_delay 1 = .ok (.iload_n 1, 1) := by decide +kernel
theorem dX8_delay_2 : decode cX8_delay 2 = .ok (.iload_n 2, 1) := by decide +kernel
theorem dX8_delay_3 : decode cX8_delay 3 = .ok (.invokevirtual 319, 3) := by decide +kernel
theorem dX8_delay_6 : decode cX8_delay 6 = .ok (.istore_n 3, 1) := by decide +kernel
theorem dX8_delay_7 : decode cX8_delay 7 = .ok (.iload_n 3, 1) := by decide +kernel
theorem dX8_delay_8 : decode cX8_delay 8 = .ok (.ifCond .eq 5, 3) := by decide +kernel
theorem dX8_delay_11 : decode cX8_delay 11 = .ok (.iload_n 3, 1) := by decide +kernel
theorem dX8_delay_12 : decode cX8_delay 12 = .ok (.ireturn, 1) := by decide +kernel
theorem dX8_numbers_0 : decode cX8_numbers 0 = .ok (.iload_n 1, 1) := by decide +kernel
theorem dX8_numbers_1 : decode cX8_numbers 1 = .ok (.invokestatic 182, 3) := by decide +kernel
theorem dX8_numbers_4 : decode cX8_numbers 4 = .ok (.ifCond .eq 12, 3) := by decide +kernel
theorem dX8_numbers_7 : decode cX8_numbers 7 = .ok (.iload_n 2, 1) := by decide +kernel
theorem dX8_numbers_8 : decode cX8_numbers 8 = .ok (.ifCond .lt 8, 3) := by decide +kernel
theorem dX8_numbers_11 : decode cX8_numbers 11 = .ok (.iload_n 2, 1) := by decide +kernel
theorem dX8_numbers_12 : decode cX8_numbers 12 = .ok (.iconst 4, 1) := by decide +kernel
theorem dX8_numbers_13 : decode cX8_numbers 13 = .ok (.if_icmp .lt 6, 3) := by decide +kernel
theorem dX8_numbers_16 : decode cX8_numbers 16 = .ok (.bipush (-2), 2) := by decide +kernel
theorem dX8_numbers_18 : decode cX8_numbers 18 = .ok (.ireturn, 1) := by decide +kernel
theorem dX8_numbers_19 : decode cX8_numbers 19 = .ok (.iload_n 3, 1) := by decide +kernel
theorem dX8_numbers_20 : decode cX8_numbers 20 = .ok (.ifCond .lt 9, 3) := by decide +kernel
theorem dX8_numbers_23 : decode cX8_numbers 23 = .ok (.iload_n 3, 1) := by decide +kernel
theorem dX8_numbers_24 : decode cX8_numbers 24 = .ok (.bipush 40, 2) := by decide +kernel
theorem dX8_numbers_26 : decode cX8_numbers 26 = .ok (.if_icmp .le 6, 3) := by decide +kernel
theorem dX8_numbers_29 : decode cX8_numbers 29 = .ok (.bipush (-3), 2) := by decide +kernel
theorem dX8_numbers_31 : decode cX8_numbers 31 = .ok (.ireturn, 1) := by decide +kernel
