theorem dX8_tour_0 : decode cX8_tour 0 = .ok (.aload_n 0, 1) := by decide +kernel
theorem dX8_tour_1 : decode cX8_tour 1 = .ok (.getfield 27, 3) := by decide +kernel
theorem dX8_tour_4 : decode cX8_tour 4 = .ok (.iload_n 1, 1) := by decide +kernel
theorem dX8_tour_5 : decode cX8_tour 5 = .ok (.invokevirtual 158, 3) := by decide +kernel
theorem dX8_tour_8 : decode cX8_tour 8 = .ok (.ifCond .ne 6, 3) := by decide +kernel
theorem dX8_tour_11 : decode cX8_tour 11 = .ok (.bipush (-3), 2) := by decide +kernel
theorem dX8_tour_13 : decode cX8_tour 13 = .ok (.ireturn, 1) := by decide +kernel
theorem dX8_tour_14 : decode cX8_tour 14 = .ok (.aload_n 0, 1) := by decide +kernel
theorem dX8_tour_15 : decode cX8_tour 15 = .ok (.getfield 79, 3) := by decide +kernel
theorem dX8_tour_18 : decode cX8_tour 18 = .ok (.aload_n 0, 1) := by decide +kernel
theorem dX8_tour_19 : decode cX8_tour 19 = .ok (.getfield 27, 3) := by decide +kernel
theorem dX8_tour_22 : decode cX8_tour 22 = .ok (.iload_n 1, 1) := by decide +kernel
theorem dX8_tour_23 : decode cX8_tour 23 = .ok (.invokevirtual 291, 3) := by decide +kernel
theorem dX8_tour_26 : decode cX8_tour 26 = .ok (.istore_n 2, 1) := by decide +kernel
theorem dX8_tour_27 : decode cX8_tour 27 = .ok (.iload_n 2, 1) := by decide +kernel
theorem dX8_tour_28 : decode cX8_tour 28 = .ok (.iconst (-1), 1) := by decide +kernel
theorem dX8_tour_29 : decode cX8_tour 29 = .ok (.if_icmp .eq 7, 3) := by decide +kernel
theorem dX8_tour_32 : decode cX8_tour 32 = .ok (.iload_n 2, 1) := by decide +kernel
theorem dX8_tour_33 : decode cX8_tour 33 = .ok (.ifCond .ne 5, 3) := by decide +kernel
theorem dX8_tour_36 : decode cX8_tour 36 = .ok (.iload_n 2, 1) := by decide +kernel
theorem dX8_tour_37 : decode cX8_tour 37 = .ok (.ireturn, 1) := by decide +kernel
theorem dX8_tour_38 : decode cX8_tour 38 = .ok (.aload_n 0, 1) := by decide +kernel
theorem dX8_tour_39 : decode cX8_tour 39 = .ok (.getfield 27, 3) := by decide +kernel
theorem dX8_tour_42 : decode cX8_tour 42 = .ok (.getfield 128, 3) := by decide +kernel
theorem dX8_tour_45 : decode cX8_tour 45 = .ok (.iload_n 2, 1) := by decide +kernel
theorem dX8_tour_46 : decode cX8_tour 46 = .ok (.invokestatic 295, 3) := by decide +kernel
theorem dX8_tour_49 : decode cX8_tour 49 = .ok (.invokestatic 211, 3) := by decide +kernel
theorem dX8_tour_52 : decode cX8_tour 52 = .ok (.istore_n 3, 1) := by decide +kernel
theorem dX8_tour_53 : decode cX8_tour 53 = .ok (.aload_n 0, 1) := by decide +kernel
theorem dX8_tour_54 : decode cX8_tour 54 = .ok (.getfield 27, 3) := by decide +kernel
theorem dX8_tour_57 : decode cX8_tour 57 = .ok (.getfield 128, 3) := by decide +kernel
theorem dX8_tour_60 : decode cX8_tour 60 = .ok (.bipush 31, 2) := by decide +kernel
theorem dX8_tour_62 : decode cX8_tour 62 = .ok (.iload_n 2, 1) := by decide +kernel
theorem dX8_tour_63 : decode cX8_tour 63 = .ok (.invokestatic 300, 3) := by decide +kernel
theorem dX8_tour_66 : decode cX8_tour 66 = .ok (.isub, 1) := by decide +kernel
theorem dX8_tour_67 : decode cX8_tour 67 = .ok (.invokestatic 303, 3) := by decide +kernel
theorem dX8_tour_70 : decode cX8_tour 70 = .ok (.istore 4, 2) := by decide +kernel
theorem dX8_tour_72 : decode cX8_tour 72 = .ok (.iload 4, 2) := by decide +kernel
theorem dX8_tour_74 : decode cX8_tour 74 = .ok (.iload_n 3, 1) := by decide +kernel
theorem dX8_tour_75 : decode cX8_tour 75 = .ok (.isub, 1) := by decide +kernel
theorem dX8_tour_76 : decode cX8_tour 76 = .ok (.aload_n 0, 1) := by decide +kernel
theorem dX8_tour_77 : decode cX8_tour 77 = .ok (.getfield 27, 3) := by decide +kernel
theorem dX8_tour_80 : decode cX8_tour 80 = .ok (.getfield 128, 3) := by decide +kernel
theorem dX8_tour_83 : decode cX8_tour 83 = .ok (.iload_n 3, 1) := by decide +kernel
theorem dX8_tour_84 : decode cX8_tour 84 = .ok (.isub, 1) := by decide +kernel
theorem dX8_tour_85 : decode cX8_tour 85 = .ok (.iload 4, 2) := by decide +kernel
theorem dX8_tour_87 : decode cX8_tour 87 = .ok (.aload_n 0, 1) := by decide +kernel
theorem dX8_tour_88 : decode cX8_tour 88 = .ok (.getfield 27, 3) := by decide +kernel
theorem dX8_tour_91 : decode cX8_tour 91 = .ok (.getfield 128, 3) := by decide +kernel
theorem dX8_tour_94 : decode cX8_tour 94 = .ok (.isub, 1) := by decide +kernel
theorem dX8_tour_95 : decode cX8_tour 95 = .ok (.invokestatic 211, 3) := by decide +kernel
theorem dX8_tour_98 : decode cX8_tour 98 = .ok (.iadd, 1) := by decide +kernel
theorem dX8_tour_99 : decode cX8_tour 99 = .ok (.ireturn, 1) := by decide +kernel
theorem dX8_stubble_0 : decode cX8_stubble 0 = .ok (.aload_n 0, 1) := by decide +kernel
theorem dX8_stubble_1 : decode cX8_stubble 1 = .ok (.iload_n 1, 1) := by decide +kernel
theorem dX8_stubble_2 : decode cX8_stubble 2 = .ok (.iload_n 2, 1) := by decide +kernel
theorem dX8_stubble_3 : decode cX8_stubble 3 = .ok (.invokevirtual 306, 3) := by decide +kernel
theorem dX8_stubble_6 : decode cX8_stubble 6 = .ok (.istore_n 3, 1) := by decide +kernel
theorem dX8_stubble_7 : decode cX8_stubble 7 = .ok (.iload_n 3, 1) := by decide +kernel
theorem dX8_stubble_8 : decode cX8_stubble 8 = .ok (.ifCond .eq 5, 3) := by decide +kernel
theorem dX8_stubble_11 : decode cX8_stubble 11 = .ok (.iload_n 3, 1) := by decide +kernel
theorem dX8_stubble_12 : decode cX8_stubble 12 = .ok (.ireturn, 1) := by decide +kernel
theorem dX8_stubble_13 : decode cX8_stubble 13 = .ok (.aload_n 0, 1) := by decide +kernel
theorem dX8_stubble_14 : decode cX8_stubble 14 = .ok (.aload_n 0, 1) := by decide +kernel
theorem dX8_stubble_15 : decode cX8_stubble 15 = .ok (.getfield 44, 3) := by decide +kernel
theorem dX8_stubble_18 : decode cX8_stubble 18 = .ok (.iload_n 1, 1) := by decide +kernel
theorem dX8_stubble_19 : decode cX8_stubble 19 = .ok (.aaload, 1) := by decide +kernel
theorem dX8_stubble_20 : decode cX8_stubble 20 = .ok (.iload_n 2, 1) := by decide +kernel
theorem dX8_stubble_21 : decode cX8_stubble 21 = .ok (.invokevirtual 309, 3) := by decide +kernel
theorem dX8_stubble_24 : decode cX8_stubble 24 = .ok (.aload_n 0, 1) := by decide +kernel
theorem dX8_stubble_25 : decode cX8_stubble 25 = .ok (.getfield 72, 3) := by decide +kernel
theorem dX8_stubble_28 : decode cX8_stubble 28 = .ok (.getfield 313, 3) := by decide +kernel
theorem dX8_stubble_31 : decode cX8_stubble 31 = .ok (.ireturn, 1) := by decide +kernel
theorem dX8_sure_0 : decode cX8_sure 0 = .ok (.aload_n 0, 1) := by decide +kernel
theorem dX8_sure_1 : decode cX8_sure 1 = .ok (.iload_n 1, 1) := by decide +kernel
theorem dX8_sure_2 : decode cX8_sure 2 = .ok (.iload_n 2, 1) := by decide +kernel
theorem dX8_sure_3 : decode cX8_sure 3 = .ok (.invokevirtual 306, 3) := by decide +kernel
theorem dX8_sure_6 : decode cX8_sure 6 = .ok (.istore_n 3, 1) := by decide +kernel
theorem dX8_sure_7 : decode cX8_sure 7 = .ok (.iload_n 3, 1) := by decide +kernel
theorem dX8_sure_8 : decode cX8_sure 8 = .ok (.ifCond .eq 5, 3) := by decide +kernel
theorem dX8_sure_11 : decode cX8_sure 11 = .ok (.iload_n 3, 1) := by decide +kernel
theorem dX8_sure_12 : decode cX8_sure 12 = .ok (.ireturn, 1) := by decide +kernel
theorem dX8_sure_13 : decode cX8_sure 13 = .ok (.aload_n 0, 1) := by decide +kernel
theorem dX8_sure_14 : decode cX8_sure 14 = .ok (.aload_n 0, 1) := by decide +kernel
theorem dX8_sure_15 : decode cX8_sure 15 = .ok (.getfield 44, 3) := by decide +kernel
theorem dX8_sure_18 : decode cX8_sure 18 = .ok (.iload_n 1, 1) := by decide +kernel
theorem dX8_sure_19 : decode cX8_sure 19 = .ok (.aaload, 1) := by decide +kernel
theorem dX8_sure_20 : decode cX8_sure 20 = .ok (.iload_n 2, 1) := by decide +kernel
theorem dX8_sure_21 : decode cX8_sure 21 = .ok (.invokevirtual 309, 3) := by decide +kernel
theorem dX8_sure_24 : decode cX8_sure 24 = .ok (.aload_n 0, 1) := by decide +kernel
theorem dX8_sure_25 : decode cX8_sure 25 = .ok (.getfield 72, 3) := by decide +kernel
theorem dX8_sure_28 : decode cX8_sure 28 = .ok (.getfield 316, 3) := by decide +kernel
theorem dX8_sure_31 : decode cX8_sure 31 = .ok (.ireturn, 1) := by decide +kernel
theorem dX8_meets_0 : decode cX8_meets 0 = .ok (.aload_n 0, 1) := by decide +kernel
theorem dX8_meets_1 : decode cX8_meets 1 = .ok (.iload_n 1, 1) := by decide +kernel
theorem dX8_meets_2 : decode cX8_meets 2 = .ok (.iload_n 2, 1) := by decide +kernel
theorem dX8_meets_3 : decode cX8_meets 3 = .ok (.invokevirtual 319, 3) := by decide +kernel
theorem dX8_meets_6 : decode cX8_meets 6 = .ok (.istore_n 3, 1) := by decide +kernel
theorem dX8_meets_7 : decode cX8_meets 7 = .ok (.iload_n 3, 1) := by decide +kernel
theorem dX8_meets_8 : decode cX8_meets 8 = .ok (.ifCond .eq 5, 3) := by decide +kernel
theorem dX8_meets_11 : decode cX8_meets 11 = .ok (.iload_n 3, 1) := by decide +kernel
theorem dX8_meets_12 : decode cX8_meets 12 = .ok (.ireturn, 1) := by decide +kernel
theorem dX8_meets_13 : decode cX8_meets 13 = .ok (.aload_n 0, 1) := by decide +kernel
theorem dX8_meets_14 : decode cX8_meets 14 = .ok (.aload_n 0, 1) := by decide +kernel
theorem dX8_meets_15 : decode cX8_meets 15 = .ok (.getfield 44, 3) := by decide +kernel
theorem dX8_meets_18 : decode cX8_meets 18 = .ok (.iload_n 1, 1) := by decide +kernel
theorem dX8_meets_19 : decode cX8_meets 19 = .ok (.aaload, 1) := by decide +kernel
theorem dX8_meets_20 : decode cX8_meets 20 = .ok (.aload_n 0, 1) := by decide +kernel
theorem dX8_meets_21 : decode cX8_meets 21 = .ok (.getfield 44, 3) := by decide +kernel
theorem dX8_meets_24 : decode cX8_meets 24 = .ok (.iload_n 2, 1) := by decide +kernel
theorem dX8_meets_25 : decode cX8_meets 25 = .ok (.aaload, 1) := by decide +kernel
theorem dX8_meets_26 : decode cX8_meets 26 = .ok (.iconst 0, 1) := by decide +kernel
theorem dX8_meets_27 : decode cX8_meets 27 = .ok (.invokevirtual 322, 3) := by decide +kernel
theorem dX8_meets_30 : decode cX8_meets 30 = .ok (.ireturn, 1) := by decide +kernel
theorem dX8_delay_0 : decode cX8_delay 0 = .ok (.aload_n 0, 1) := by decide +kernel
theorem dX8_delay_1 : decode cX8_delay 1 = .ok (.iload_n 1, 1) := by decide +kernel
theorem dX8_delay_2 : decode cX8_delay 2 = .ok (.iload_n 2, 1) := by decide +kernel
theorem dX8_delay_3 : decode cX8_delay 3 = .ok (.invokevirtual 319, 3) := by decide +kernel
theorem dX8_delay_6 : decode cX8_delay 6 = .ok (.istore_n 3, 1) := by decide +kernel
theorem dX8_delay_7 : decode cX8_delay 7 = .ok (.iload_n 3, 1) := by decide +kernel
theorem dX8_delay_8 : decode cX8_delay 8 = .ok (.ifCond .eq 5, 3) := by decide +kernel
theorem dX8_delay_11 : decode cX8_delay 11 = .ok (.iload_n 3, 1) := by decide +kernel
theorem dX8_delay_12 : decode cX8_delay 12 = .ok (.ireturn, 1) := by decide +kernel
theorem dX8_delay_13 : decode cX8_delay 13 = .ok (.iconst 0, 1) := by decide +kernel
theorem dX8_delay_14 : decode cX8_delay 14 = .ok (.istore 4, 2) := by decide +kernel
theorem dX8_delay_16 : decode cX8_delay 16 = .ok (.iload 4, 2) := by decide +kernel
theorem dX8_delay_18 : decode cX8_delay 18 = .ok (.bipush 40, 2) := by decide +kernel
theorem dX8_delay_20 : decode cX8_delay 20 = .ok (.if_icmp .gt 34, 3) := by decide +kernel
theorem dX8_delay_23 : decode cX8_delay 23 = .ok (.aload_n 0, 1) := by decide +kernel
theorem dX8_delay_24 : decode cX8_delay 24 = .ok (.aload_n 0, 1) := by decide +kernel
theorem dX8_delay_25 : decode cX8_delay 25 = .ok (.getfield 44, 3) := by decide +kernel
theorem dX8_delay_28 : decode cX8_delay 28 = .ok (.iload_n 1, 1) := by decide +kernel
theorem dX8_delay_29 : decode cX8_delay 29 = .ok (.aaload, 1) := by decide +kernel
theorem dX8_delay_30 : decode cX8_delay 30 = .ok (.aload_n 0, 1) := by decide +kernel
theorem dX8_delay_31 : decode cX8_delay 31 = .ok (.getfield 44, 3) := by decide +kernel
theorem dX8_delay_34 : decode cX8_delay 34 = .ok (.iload_n 2, 1) := by decide +kernel
theorem dX8_delay_35 : decode cX8_delay 35 = .ok (.aaload, 1) := by decide +kernel
theorem dX8_delay_36 : decode cX8_delay 36 = .ok (.iload 4, 2) := by decide +kernel
theorem dX8_delay_38 : decode cX8_delay 38 = .ok (.invokevirtual 322, 3) := by decide +kernel
theorem dX8_delay_41 : decode cX8_delay 41 = .ok (.iconst (-1), 1) := by decide +kernel
theorem dX8_delay_42 : decode cX8_delay 42 = .ok (.if_icmp .ne 6, 3) := by decide +kernel
theorem dX8_delay_45 : decode cX8_delay 45 = .ok (.iload 4, 2) := by decide +kernel
theorem dX8_delay_47 : decode cX8_delay 47 = .ok (.ireturn, 1) := by decide +kernel
theorem dX8_delay_48 : decode cX8_delay 48 = .ok (.iinc 4 1, 3) := by decide +kernel
theorem dX8_delay_51 : decode cX8_delay 51 = .ok (.goto (-35), 3) := by decide +kernel
theorem dX8_delay_54 : decode cX8_delay 54 = .ok (.iconst (-1), 1) := by decide +kernel
theorem dX8_delay_55 : decode cX8_delay 55 = .ok (.ireturn, 1) := by decide +kernel
theorem dX8_numbers_0 : decode cX8_numbers 0 = .ok (.iload_n 1, 1) := by decide +kernel
theorem dX8_numbers_1 : decode cX8_numbers 1 = .ok (.invokestatic 182, 3) := by decide +kernel
theorem dX8_numbers_4 : decode cX8_numbers 4 = .ok (.ifCond .eq 12, 3) := by decide +kernel
theorem dX8_numbers_7 : decode cX8_numbers 7 = .ok (.iload_n 2, 1) := by decide +kernel
theorem dX8_numbers_8 : decode cX8_numbers 8 = .ok (.ifCond .lt 8, 3) := by decide +kernel
theorem dX8_numbers_11 : decode cX8_numbers 11 = .ok (.iload_n 2, 1) := by decide +kernel
theorem dX8_numbers_12 : decode cX8_numbers 12 = .ok (.iconst 4, 1) := by decide +kernel
theorem dX8_numbers_13 : decode cX8_numbers 13 = .ok (.if_icmp .lt 6, 3) := by decide +kernel
theorem dX8_numbers_16 : decode cX8_numbers 16 = .ok (.bipush (-2), 2) := by decide +kernel
theorem dX8_numbers_18 : decode cX8_numbers 18 = .ok (.ireturn, 1) := by decide +kernel
theorem dX8_numbers_19 : decode cX8_numbers 19 = .ok (.iload_n 3, 1) := by decide +kernel
theorem dX8_numbers_20 : decode cX8_numbers 20 = .ok (.ifCond .lt 9, 3) := by decide +kernel
theorem dX8_numbers_23 : decode cX8_numbers 23 = .ok (.iload_n 3, 1) := by decide +kernel
theorem dX8_numbers_24 : decode cX8_numbers 24 = .ok (.bipush 40, 2) := by decide +kernel
theorem dX8_numbers_26 : decode cX8_numbers 26 = .ok (.if_icmp .le 6, 3) := by decide +kernel
theorem dX8_numbers_29 : decode cX8_numbers 29 = .ok (.bipush (-3), 2) := by decide +kernel
theorem dX8_numbers_31 : decode cX8_numbers 31 = .ok (.ireturn, 1) := by decide +kernel
theorem dX8_numbers_32 : decode cX8_numbers 32 = .ok (.aload_n 0, 1) := by decide +kernel
theorem dX8_numbers_33 : decode cX8_numbers 33 = .ok (.getfield 44, 3) := by decide +kernel
theorem dX8_numbers_36 : decode cX8_numbers 36 = .ok (.iload_n 1, 1) := by decide +kernel
theorem dX8_numbers_37 : decode cX8_numbers 37 = .ok (.aaload, 1) := by decide +kernel
theorem dX8_numbers_38 : decode cX8_numbers 38 = .ok (.iload_n 2, 1) := by decide +kernel
theorem dX8_numbers_39 : decode cX8_numbers 39 = .ok (.iload_n 3, 1) := by decide +kernel
theorem dX8_numbers_40 : decode cX8_numbers 40 = .ok (.invokevirtual 326, 3) := by decide +kernel
theorem dX8_numbers_43 : decode cX8_numbers 43 = .ok (.iconst 0, 1) := by decide +kernel
theorem dX8_numbers_44 : decode cX8_numbers 44 = .ok (.ireturn, 1) := by decide +kernel
theorem dX8_write_0 : decode cX8_write 0 = .ok (.iload_n 1, 1) := by decide +kernel
theorem dX8_write_1 : decode cX8_write 1 = .ok (.invokestatic 182, 3) := by decide +kernel
theorem dX8_write_4 : decode cX8_write 4 = .ok (.ifCond .ne 7, 3) := by decide +kernel
theorem dX8_write_7 : decode cX8_write 7 = .ok (.ldc2_w 330, 3) := by decide +kernel
theorem dX8_write_10 : decode cX8_write 10 = .ok (.lreturn, 1) := by decide +kernel
theorem dX8_write_11 : decode cX8_write 11 = .ok (.aload_n 0, 1) := by decide +kernel
theorem dX8_write_12 : decode cX8_write 12 = .ok (.getfield 44, 3) := by decide +kernel
theorem dX8_write_15 : decode cX8_write 15 = .ok (.iload_n 1, 1) := by decide +kernel
theorem dX8_write_16 : decode cX8_write 16 = .ok (.aaload, 1) := by decide +kernel
theorem dX8_write_17 : decode cX8_write 17 = .ok (.astore 5, 2) := by decide +kernel
theorem dX8_write_19 : decode cX8_write 19 = .ok (.aload 5, 2) := by decide +kernel
theorem dX8_write_21 : decode cX8_write 21 = .ok (.getfield 185, 3) := by decide +kernel
theorem dX8_write_24 : decode cX8_write 24 = .ok (.ifCond .eq 7, 3) := by decide +kernel
theorem dX8_write_27 : decode cX8_write 27 = .ok (.ldc2_w 332, 3) := by decide +kernel
theorem dX8_write_30 : decode cX8_write 30 = .ok (.lreturn, 1) := by decide +kernel
theorem dX8_write_31 : decode cX8_write 31 = .ok (.iload_n 2, 1) := by decide +kernel
theorem dX8_write_32 : decode cX8_write 32 = .ok (.ifCond .lt 12, 3) := by decide +kernel
theorem dX8_write_35 : decode cX8_write 35 = .ok (.iload_n 2, 1) := by decide +kernel
theorem dX8_write_36 : decode cX8_write 36 = .ok (.aload 5, 2) := by decide +kernel
theorem dX8_write_38 : decode cX8_write 38 = .ok (.getfield 193, 3) := by decide +kernel
theorem dX8_write_41 : decode cX8_write 41 = .ok (.if_icmp .lt 7, 3) := by decide +kernel
theorem dX8_write_44 : decode cX8_write 44 = .ok (.ldc2_w 334, 3) := by decide +kernel
theorem dX8_write_47 : decode cX8_write 47 = .ok (.lreturn, 1) := by decide +kernel
theorem dX8_write_48 : decode cX8_write 48 = .ok (.aload 5, 2) := by decide +kernel
theorem dX8_write_50 : decode cX8_write 50 = .ok (.iload_n 2, 1) := by decide +kernel
theorem dX8_write_51 : decode cX8_write 51 = .ok (.lload_n 3, 1) := by decide +kernel
theorem dX8_write_52 : decode cX8_write 52 = .ok (.invokevirtual 336, 3) := by decide +kernel
