theorem dX2_fillCaps_60 : decode cX2_fillCaps 60 = .ok (.iload_n 3, 1) := by decide +kernel
theorem dX2_fillCaps_61 : decode cX2_fillCaps 61 = .ok (.iload 4, 2) := by decide +kernel
theorem dX2_fillCaps_63 : decode cX2_fillCaps 63 = .ok (.invokevirtual 85, 3) := by decide +kernel
theorem dX2_fillCaps_66 : decode cX2_fillCaps 66 = .ok (.invokestatic 71, 3) := by decide +kernel
theorem dX2_fillCaps_69 : decode cX2_fillCaps 69 = .ok (.iastore, 1) := by decide +kernel
theorem dX2_fillCaps_70 : decode cX2_fillCaps 70 = .ok (.iinc 4 1, 3) := by decide +kernel
theorem dX2_fillCaps_73 : decode cX2_fillCaps 73 = .ok (.goto (-57), 3) := by decide +kernel
theorem dX2_fillCaps_76 : decode cX2_fillCaps 76 = .ok (.iinc 3 1, 3) := by decide +kernel
theorem dX2_fillCaps_79 : decode cX2_fillCaps 79 = .ok (.goto (-77), 3) := by decide +kernel
theorem dX2_fillCaps_82 : decode cX2_fillCaps 82 = .ok (.return_, 1) := by decide +kernel
theorem dX2_seekBest_0 : decode cX2_seekBest 0 = .ok (.aload_n 0, 1) := by decide +kernel
theorem dX2_seekBest_1 : decode cX2_seekBest 1 = .ok (.iload_n 3, 1) := by decide +kernel
theorem dX2_seekBest_2 : decode cX2_seekBest 2 = .ok (.putfield 44, 3) := by decide +kernel
theorem dX2_seekBest_5 : decode cX2_seekBest 5 = .ok (.aload_n 1, 1) := by decide +kernel
theorem dX2_seekBest_6 : decode cX2_seekBest 6 = .ok (.iload_n 2, 1) := by decide +kernel
theorem dX2_seekBest_7 : decode cX2_seekBest 7 = .ok (.invokevirtual 88, 3) := by decide +kernel
theorem dX2_seekBest_10 : decode cX2_seekBest 10 = .ok (.istore 4, 2) := by decide +kernel
theorem dX2_seekBest_12 : decode cX2_seekBest 12 = .ok (.aload_n 1, 1) := by decide +kernel
theorem dX2_seekBest_13 : decode cX2_seekBest 13 = .ok (.iload_n 2, 1) := by decide +kernel
theorem dX2_seekBest_14 : decode cX2_seekBest 14 = .ok (.invokevirtual 93, 3) := by decide +kernel
theorem dX2_seekBest_17 : decode cX2_seekBest 17 = .ok (.istore 5, 2) := by decide +kernel
theorem dX2_seekBest_19 : decode cX2_seekBest 19 = .ok (.iload 5, 2) := by decide +kernel
theorem dX2_seekBest_21 : decode cX2_seekBest 21 = .ok (.iload 4, 2) := by decide +kernel
theorem dX2_seekBest_23 : decode cX2_seekBest 23 = .ok (.if_icmp .ge 94, 3) := by decide +kernel
theorem dX2_seekBest_26 : decode cX2_seekBest 26 = .ok (.aload_n 1, 1) := by decide +kernel
theorem dX2_seekBest_27 : decode cX2_seekBest 27 = .ok (.getfield 96, 3) := by decide +kernel
theorem dX2_seekBest_30 : decode cX2_seekBest 30 = .ok (.iload 5, 2) := by decide +kernel
theorem dX2_seekBest_32 : decode cX2_seekBest 32 = .ok (.baload, 1) := by decide +kernel
theorem dX2_seekBest_33 : decode cX2_seekBest 33 = .ok (.ifCond .eq 6, 3) := by decide +kernel
theorem dX2_seekBest_36 : decode cX2_seekBest 36 = .ok (.goto 75, 3) := by decide +kernel
theorem dX2_seekBest_39 : decode cX2_seekBest 39 = .ok (.aload_n 0, 1) := by decide +kernel
theorem dX2_seekBest_40 : decode cX2_seekBest 40 = .ok (.aload_n 1, 1) := by decide +kernel
theorem dX2_seekBest_41 : decode cX2_seekBest 41 = .ok (.getfield 100, 3) := by decide +kernel
theorem dX2_seekBest_44 : decode cX2_seekBest 44 = .ok (.iload 5, 2) := by decide +kernel
theorem dX2_seekBest_46 : decode cX2_seekBest 46 = .ok (.laload, 1) := by decide +kernel
theorem dX2_seekBest_47 : decode cX2_seekBest 47 = .ok (.invokevirtual 104, 3) := by decide +kernel
theorem dX2_seekBest_50 : decode cX2_seekBest 50 = .ok (.aload_n 0, 1) := by decide +kernel
theorem dX2_seekBest_51 : decode cX2_seekBest 51 = .ok (.getfield 18, 3) := by decide +kernel
theorem dX2_seekBest_54 : decode cX2_seekBest 54 = .ok (.iconst 2, 1) := by decide +kernel
theorem dX2_seekBest_55 : decode cX2_seekBest 55 = .ok (.if_icmp .eq 14, 3) := by decide +kernel
theorem dX2_seekBest_58 : decode cX2_seekBest 58 = .ok (.aload_n 0, 1) := by decide +kernel
theorem dX2_seekBest_59 : decode cX2_seekBest 59 = .ok (.invokevirtual 108, 3) := by decide +kernel
theorem dX2_seekBest_62 : decode cX2_seekBest 62 = .ok (.aload_n 0, 1) := by decide +kernel
theorem dX2_seekBest_63 : decode cX2_seekBest 63 = .ok (.getfield 44, 3) := by decide +kernel
theorem dX2_seekBest_66 : decode cX2_seekBest 66 = .ok (.if_icmp .le 45, 3) := by decide +kernel
theorem dX2_seekBest_69 : decode cX2_seekBest 69 = .ok (.aload_n 0, 1) := by decide +kernel
theorem dX2_seekBest_70 : decode cX2_seekBest 70 = .ok (.getfield 18, 3) := by decide +kernel
theorem dX2_seekBest_73 : decode cX2_seekBest 73 = .ok (.iconst 2, 1) := by decide +kernel
theorem dX2_seekBest_74 : decode cX2_seekBest 74 = .ok (.if_icmp .ne 10, 3) := by decide +kernel
theorem dX2_seekBest_77 : decode cX2_seekBest 77 = .ok (.aload_n 0, 1) := by decide +kernel
theorem dX2_seekBest_78 : decode cX2_seekBest 78 = .ok (.invokevirtual 112, 3) := by decide +kernel
theorem dX2_seekBest_81 : decode cX2_seekBest 81 = .ok (.goto 7, 3) := by decide +kernel
theorem dX2_seekBest_84 : decode cX2_seekBest 84 = .ok (.aload_n 0, 1) := by decide +kernel
theorem dX2_seekBest_85 : decode cX2_seekBest 85 = .ok (.invokevirtual 115, 3) := by decide +kernel
theorem dX2_seekBest_88 : decode cX2_seekBest 88 = .ok (.istore 6, 2) := by decide +kernel
theorem dX2_seekBest_90 : decode cX2_seekBest 90 = .ok (.iload 6, 2) := by decide +kernel
theorem dX2_seekBest_92 : decode cX2_seekBest 92 = .ok (.aload_n 0, 1) := by decide +kernel
theorem dX2_seekBest_93 : decode cX2_seekBest 93 = .ok (.getfield 44, 3) := by decide +kernel
theorem dX2_seekBest_96 : decode cX2_seekBest 96 = .ok (.if_icmp .le 15, 3) := by decide +kernel
theorem dX2_seekBest_99 : decode cX2_seekBest 99 = .ok (.aload_n 0, 1) := by decide +kernel
theorem dX2_seekBest_100 : decode cX2_seekBest 100 = .ok (.iload 6, 2) := by decide +kernel
theorem dX2_seekBest_102 : decode cX2_seekBest 102 = .ok (.putfield 44, 3) := by decide +kernel
theorem dX2_seekBest_105 : decode cX2_seekBest 105 = .ok (.aload_n 0, 1) := by decide +kernel
theorem dX2_seekBest_106 : decode cX2_seekBest 106 = .ok (.iload 5, 2) := by decide +kernel
theorem dX2_seekBest_108 : decode cX2_seekBest 108 = .ok (.putfield 47, 3) := by decide +kernel
theorem dX2_seekBest_111 : decode cX2_seekBest 111 = .ok (.iinc 5 1, 3) := by decide +kernel
theorem dX2_seekBest_114 : decode cX2_seekBest 114 = .ok (.goto (-95), 3) := by decide +kernel
theorem dX2_seekBest_117 : decode cX2_seekBest 117 = .ok (.return_, 1) := by decide +kernel
theorem dX2_couldBeWorth_0 : decode cX2_couldBeWorth 0 = .ok (.iconst 0, 1) := by decide +kernel
theorem dX2_couldBeWorth_1 : decode cX2_couldBeWorth 1 = .ok (.istore_n 1, 1) := by decide +kernel
theorem dX2_couldBeWorth_2 : decode cX2_couldBeWorth 2 = .ok (.iconst 0, 1) := by decide +kernel
theorem dX2_couldBeWorth_3 : decode cX2_couldBeWorth 3 = .ok (.istore_n 2, 1) := by decide +kernel
theorem dX2_couldBeWorth_4 : decode cX2_couldBeWorth 4 = .ok (.iload_n 2, 1) := by decide +kernel
theorem dX2_couldBeWorth_5 : decode cX2_couldBeWorth 5 = .ok (.aload_n 0, 1) := by decide +kernel
theorem dX2_couldBeWorth_6 : decode cX2_couldBeWorth 6 = .ok (.getfield 41, 3) := by decide +kernel
theorem dX2_couldBeWorth_9 : decode cX2_couldBeWorth 9 = .ok (.if_icmp .ge 30, 3) := by decide +kernel
theorem dX2_couldBeWorth_12 : decode cX2_couldBeWorth 12 = .ok (.iload_n 1, 1) := by decide +kernel
theorem dX2_couldBeWorth_13 : decode cX2_couldBeWorth 13 = .ok (.aload_n 0, 1) := by decide +kernel
theorem dX2_couldBeWorth_14 : decode cX2_couldBeWorth 14 = .ok (.getfield 38, 3) := by decide +kernel
theorem dX2_couldBeWorth_17 : decode cX2_couldBeWorth 17 = .ok (.iload_n 2, 1) := by decide +kernel
theorem dX2_couldBeWorth_18 : decode cX2_couldBeWorth 18 = .ok (.iaload, 1) := by decide +kernel
theorem dX2_couldBeWorth_19 : decode cX2_couldBeWorth 19 = .ok (.aload_n 0, 1) := by decide +kernel
theorem dX2_couldBeWorth_20 : decode cX2_couldBeWorth 20 = .ok (.getfield 29, 3) := by decide +kernel
theorem dX2_couldBeWorth_23 : decode cX2_couldBeWorth 23 = .ok (.aload_n 0, 1) := by decide +kernel
theorem dX2_couldBeWorth_24 : decode cX2_couldBeWorth 24 = .ok (.getfield 35, 3) := by decide +kernel
theorem dX2_couldBeWorth_27 : decode cX2_couldBeWorth 27 = .ok (.iload_n 2, 1) := by decide +kernel
theorem dX2_couldBeWorth_28 : decode cX2_couldBeWorth 28 = .ok (.iaload, 1) := by decide +kernel
theorem dX2_couldBeWorth_29 : decode cX2_couldBeWorth 29 = .ok (.iaload, 1) := by decide +kernel
theorem dX2_couldBeWorth_30 : decode cX2_couldBeWorth 30 = .ok (.imul, 1) := by decide +kernel
theorem dX2_couldBeWorth_31 : decode cX2_couldBeWorth 31 = .ok (.iadd, 1) := by decide +kernel
theorem dX2_couldBeWorth_32 : decode cX2_couldBeWorth 32 = .ok (.istore_n 1, 1) := by decide +kernel
theorem dX2_couldBeWorth_33 : decode cX2_couldBeWorth 33 = .ok (.iinc 2 1, 3) := by decide +kernel
theorem dX2_couldBeWorth_36 : decode cX2_couldBeWorth 36 = .ok (.goto (-32), 3) := by decide +kernel
theorem dX2_couldBeWorth_39 : decode cX2_couldBeWorth 39 = .ok (.iload_n 1, 1) := by decide +kernel
theorem dX2_couldBeWorth_40 : decode cX2_couldBeWorth 40 = .ok (.ireturn, 1) := by decide +kernel
theorem dX2_open_0 : decode cX2_open 0 = .ok (.aload_n 0, 1) := by decide +kernel
theorem dX2_open_1 : decode cX2_open 1 = .ok (.iconst 0, 1) := by decide +kernel
theorem dX2_open_2 : decode cX2_open 2 = .ok (.putfield 41, 3) := by decide +kernel
theorem dX2_open_5 : decode cX2_open 5 = .ok (.lload_n 1, 1) := by decide +kernel
theorem dX2_open_6 : decode cX2_open 6 = .ok (.lstore_n 3, 1) := by decide +kernel
theorem dX2_open_7 : decode cX2_open 7 = .ok (.iconst 0, 1) := by decide +kernel
theorem dX2_open_8 : decode cX2_open 8 = .ok (.istore 5, 2) := by decide +kernel
theorem dX2_open_10 : decode cX2_open 10 = .ok (.iload 5, 2) := by decide +kernel
theorem dX2_open_12 : decode cX2_open 12 = .ok (.bipush 16, 2) := by decide +kernel
theorem dX2_open_14 : decode cX2_open 14 = .ok (.if_icmp .ge 73, 3) := by decide +kernel
theorem dX2_open_17 : decode cX2_open 17 = .ok (.lload_n 3, 1) := by decide +kernel
theorem dX2_open_18 : decode cX2_open 18 = .ok (.lconst 0, 1) := by decide +kernel
theorem dX2_open_19 : decode cX2_open 19 = .ok (.lcmp, 1) := by decide +kernel
theorem dX2_open_20 : decode cX2_open 20 = .ok (.ifCond .eq 67, 3) := by decide +kernel
theorem dX2_open_23 : decode cX2_open 23 = .ok (.aload_n 0, 1) := by decide +kernel
theorem dX2_open_24 : decode cX2_open 24 = .ok (.getfield 41, 3) := by decide +kernel
theorem dX2_open_27 : decode cX2_open 27 = .ok (.bipush 8, 2) := by decide +kernel
theorem dX2_open_29 : decode cX2_open 29 = .ok (.if_icmp .ge 58, 3) := by decide +kernel
theorem dX2_open_32 : decode cX2_open 32 = .ok (.lload_n 3, 1) := by decide +kernel
theorem dX2_open_33 : decode cX2_open 33 = .ok (.ldc2_w 118, 3) := by decide +kernel
theorem dX2_open_36 : decode cX2_open 36 = .ok (.land, 1) := by decide +kernel
theorem dX2_open_37 : decode cX2_open 37 = .ok (.l2i, 1) := by decide +kernel
theorem dX2_open_38 : decode cX2_open 38 = .ok (.istore 6, 2) := by decide +kernel
theorem dX2_open_40 : decode cX2_open 40 = .ok (.iload 6, 2) := by decide +kernel
theorem dX2_open_42 : decode cX2_open 42 = .ok (.ifCond .eq 35, 3) := by decide +kernel
theorem dX2_open_45 : decode cX2_open 45 = .ok (.aload_n 0, 1) := by decide +kernel
theorem dX2_open_46 : decode cX2_open 46 = .ok (.getfield 35, 3) := by decide +kernel
theorem dX2_open_49 : decode cX2_open 49 = .ok (.aload_n 0, 1) := by decide +kernel
theorem dX2_open_50 : decode cX2_open 50 = .ok (.getfield 41, 3) := by decide +kernel
theorem dX2_open_53 : decode cX2_open 53 = .ok (.iload 5, 2) := by decide +kernel
theorem dX2_open_55 : decode cX2_open 55 = .ok (.iastore, 1) := by decide +kernel
theorem dX2_open_56 : decode cX2_open 56 = .ok (.aload_n 0, 1) := by decide +kernel
theorem dX2_open_57 : decode cX2_open 57 = .ok (.getfield 38, 3) := by decide +kernel
theorem dX2_open_60 : decode cX2_open 60 = .ok (.aload_n 0, 1) := by decide +kernel
theorem dX2_open_61 : decode cX2_open 61 = .ok (.getfield 41, 3) := by decide +kernel
theorem dX2_open_64 : decode cX2_open 64 = .ok (.iload 6, 2) := by decide +kernel
theorem dX2_open_66 : decode cX2_open 66 = .ok (.iastore, 1) := by decide +kernel
theorem dX2_open_67 : decode cX2_open 67 = .ok (.aload_n 0, 1) := by decide +kernel
theorem dX2_open_68 : decode cX2_open 68 = .ok (.dup, 1) := by decide +kernel
theorem dX2_open_69 : decode cX2_open 69 = .ok (.getfield 41, 3) := by decide +kernel
theorem dX2_open_72 : decode cX2_open 72 = .ok (.iconst 1, 1) := by decide +kernel
theorem dX2_open_73 : decode cX2_open 73 = .ok (.iadd, 1) := by decide +kernel
theorem dX2_open_74 : decode cX2_open 74 = .ok (.putfield 41, 3) := by decide +kernel
theorem dX2_open_77 : decode cX2_open 77 = .ok (.lload_n 3, 1) := by decide +kernel
theorem dX2_open_78 : decode cX2_open 78 = .ok (.iconst 4, 1) := by decide +kernel
theorem dX2_open_79 : decode cX2_open 79 = .ok (.lushr, 1) := by decide +kernel
theorem dX2_open_80 : decode cX2_open 80 = .ok (.lstore_n 3, 1) := by decide +kernel
theorem dX2_open_81 : decode cX2_open 81 = .ok (.iinc 5 1, 3) := by decide +kernel
theorem dX2_open_84 : decode cX2_open 84 = .ok (.goto (-74), 3) := by decide +kernel
theorem dX2_open_87 : decode cX2_open 87 = .ok (.return_, 1) := by decide +kernel
theorem dX2_cutOf_0 : decode cX2_cutOf 0 = .ok (.iconst 0, 1) := by decide +kernel
theorem dX2_cutOf_1 : decode cX2_cutOf 1 = .ok (.istore_n 3, 1) := by decide +kernel
theorem dX2_cutOf_2 : decode cX2_cutOf 2 = .ok (.iconst 0, 1) := by decide +kernel
theorem dX2_cutOf_3 : decode cX2_cutOf 3 = .ok (.istore 4, 2) := by decide +kernel
theorem dX2_cutOf_5 : decode cX2_cutOf 5 = .ok (.iload 4, 2) := by decide +kernel
theorem dX2_cutOf_7 : decode cX2_cutOf 7 = .ok (.aload_n 0, 1) := by decide +kernel
theorem dX2_cutOf_8 : decode cX2_cutOf 8 = .ok (.getfield 41, 3) := by decide +kernel
theorem dX2_cutOf_11 : decode cX2_cutOf 11 = .ok (.if_icmp .ge 34, 3) := by decide +kernel
theorem dX2_cutOf_14 : decode cX2_cutOf 14 = .ok (.iload_n 3, 1) := by decide +kernel
theorem dX2_cutOf_15 : decode cX2_cutOf 15 = .ok (.aload_n 0, 1) := by decide +kernel
theorem dX2_cutOf_16 : decode cX2_cutOf 16 = .ok (.getfield 38, 3) := by decide +kernel
theorem dX2_cutOf_19 : decode cX2_cutOf 19 = .ok (.iload 4, 2) := by decide +kernel
theorem dX2_cutOf_21 : decode cX2_cutOf 21 = .ok (.iaload, 1) := by decide +kernel
theorem dX2_cutOf_22 : decode cX2_cutOf 22 = .ok (.aload_n 1, 1) := by decide +kernel
theorem dX2_cutOf_23 : decode cX2_cutOf 23 = .ok (.aload_n 0, 1) := by decide +kernel
theorem dX2_cutOf_24 : decode cX2_cutOf 24 = .ok (.getfield 35, 3) := by decide +kernel
theorem dX2_cutOf_27 : decode cX2_cutOf 27 = .ok (.iload 4, 2) := by decide +kernel
theorem dX2_cutOf_29 : decode cX2_cutOf 29 = .ok (.iaload, 1) := by decide +kernel
theorem dX2_cutOf_30 : decode cX2_cutOf 30 = .ok (.bipush 16, 2) := by decide +kernel
theorem dX2_cutOf_32 : decode cX2_cutOf 32 = .ok (.imul, 1) := by decide +kernel
theorem dX2_cutOf_33 : decode cX2_cutOf 33 = .ok (.iload_n 2, 1) := by decide +kernel
theorem dX2_cutOf_34 : decode cX2_cutOf 34 = .ok (.iadd, 1) := by decide +kernel
theorem dX2_cutOf_35 : decode cX2_cutOf 35 = .ok (.iaload, 1) := by decide +kernel
theorem dX2_cutOf_36 : decode cX2_cutOf 36 = .ok (.imul, 1) := by decide +kernel
theorem dX2_cutOf_37 : decode cX2_cutOf 37 = .ok (.iadd, 1) := by decide +kernel
theorem dX2_cutOf_38 : decode cX2_cutOf 38 = .ok (.istore_n 3, 1) := by decide +kernel
theorem dX2_cutOf_39 : decode cX2_cutOf 39 = .ok (.iinc 4 1, 3) := by decide +kernel
theorem dX2_cutOf_42 : decode cX2_cutOf 42 = .ok (.goto (-37), 3) := by decide +kernel
theorem dX2_cutOf_45 : decode cX2_cutOf 45 = .ok (.iload_n 3, 1) := by decide +kernel
theorem dX2_cutOf_46 : decode cX2_cutOf 46 = .ok (.aload_n 0, 1) := by decide +kernel
theorem dX2_cutOf_47 : decode cX2_cutOf 47 = .ok (.getfield 12, 3) := by decide +kernel
theorem dX2_cutOf_50 : decode cX2_cutOf 50 = .ok (.getfield 68, 3) := by decide +kernel
theorem dX2_cutOf_53 : decode cX2_cutOf 53 = .ok (.iload_n 2, 1) := by decide +kernel
theorem dX2_cutOf_54 : decode cX2_cutOf 54 = .ok (.iaload, 1) := by decide +kernel
theorem dX2_cutOf_55 : decode cX2_cutOf 55 = .ok (.invokestatic 71, 3) := by decide +kernel
theorem dX2_cutOf_58 : decode cX2_cutOf 58 = .ok (.ireturn, 1) := by decide +kernel
theorem dX2_weighedScore_0 : decode cX2_weighedScore 0 = .ok (.iconst 0, 1) := by decide +kernel
theorem dX2_weighedScore_1 : decode cX2_weighedScore 1 = .ok (.istore_n 1, 1) := by decide +kernel
theorem dX2_weighedScore_2 : decode cX2_weighedScore 2 = .ok (.iconst 0, 1) := by decide +kernel
theorem dX2_weighedScore_3 : decode cX2_weighedScore 3 = .ok (.istore_n 2, 1) := by decide +kernel
theorem dX2_weighedScore_4 : decode cX2_weighedScore 4 = .ok (.iload_n 2, 1) := by decide +kernel
theorem dX2_weighedScore_5 : decode cX2_weighedScore 5 = .ok (.aload_n 0, 1) := by decide +kernel
theorem dX2_weighedScore_6 : decode cX2_weighedScore 6 = .ok (.getfield 12, 3) := by decide +kernel
theorem dX2_weighedScore_9 : decode cX2_weighedScore 9 = .ok (.getfield 50, 3) := by decide +kernel
theorem dX2_weighedScore_12 : decode cX2_weighedScore 12 = .ok (.if_icmp .ge 49, 3) := by decide +kernel
theorem dX2_weighedScore_15 : decode cX2_weighedScore 15 = .ok (.aload_n 0, 1) := by decide +kernel
theorem dX2_weighedScore_16 : decode cX2_weighedScore 16 = .ok (.getfield 22, 3) := by decide +kernel
theorem dX2_weighedScore_19 : decode cX2_weighedScore 19 = .ok (.iload_n 2, 1) := by decide +kernel
theorem dX2_weighedScore_20 : decode cX2_weighedScore 20 = .ok (.iaload, 1) := by decide +kernel
theorem dX2_weighedScore_21 : decode cX2_weighedScore 21 = .ok (.ifCond .eq 34, 3) := by decide +kernel
theorem dX2_weighedScore_24 : decode cX2_weighedScore 24 = .ok (.aload_n 0, 1) := by decide +kernel
theorem dX2_weighedScore_25 : decode cX2_weighedScore 25 = .ok (.getfield 12, 3) := by decide +kernel
theorem dX2_weighedScore_28 : decode cX2_weighedScore 28 = .ok (.getfield 68, 3) := by decide +kernel
theorem dX2_weighedScore_31 : decode cX2_weighedScore 31 = .ok (.iload_n 2, 1) := by decide +kernel
theorem dX2_weighedScore_32 : decode cX2_weighedScore 32 = .ok (.iaload, 1) := by decide +kernel
theorem dX2_weighedScore_33 : decode cX2_weighedScore 33 = .ok (.ifCond .eq 22, 3) := by decide +kernel
theorem dX2_weighedScore_36 : decode cX2_weighedScore 36 = .ok (.iload_n 1, 1) := by decide +kernel
theorem dX2_weighedScore_37 : decode cX2_weighedScore 37 = .ok (.aload_n 0, 1) := by decide +kernel
theorem dX2_weighedScore_38 : decode cX2_weighedScore 38 = .ok (.getfield 22, 3) := by decide +kernel
theorem dX2_weighedScore_41 : decode cX2_weighedScore 41 = .ok (.iload_n 2, 1) := by decide +kernel
theorem dX2_weighedScore_42 : decode cX2_weighedScore 42 = .ok (.iaload, 1) := by decide +kernel
theorem dX2_weighedScore_43 : decode cX2_weighedScore 43 = .ok (.aload_n 0, 1) := by decide +kernel
theorem dX2_weighedScore_44 : decode cX2_weighedScore 44 = .ok (.aload_n 0, 1) := by decide +kernel
theorem dX2_weighedScore_45 : decode cX2_weighedScore 45 = .ok (.getfield 26, 3) := by decide +kernel
theorem dX2_weighedScore_48 : decode cX2_weighedScore 48 = .ok (.iload_n 2, 1) := by decide +kernel
theorem dX2_weighedScore_49 : decode cX2_weighedScore 49 = .ok (.invokevirtual 120, 3) := by decide +kernel
theorem dX2_weighedScore_52 : decode cX2_weighedScore 52 = .ok (.imul, 1) := by decide +kernel
theorem dX2_weighedScore_53 : decode cX2_weighedScore 53 = .ok (.iadd, 1) := by decide +kernel
theorem dX2_weighedScore_54 : decode cX2_weighedScore 54 = .ok (.istore_n 1, 1) := by decide +kernel
theorem dX2_weighedScore_55 : decode cX2_weighedScore 55 = .ok (.iinc 2 1, 3) := by decide +kernel
theorem dX2_weighedScore_58 : decode cX2_weighedScore 58 = .ok (.goto (-54), 3) := by decide +kernel
theorem dX2_weighedScore_61 : decode cX2_weighedScore 61 = .ok (.iload_n 1, 1) := by decide +kernel
theorem dX2_weighedScore_62 : decode cX2_weighedScore 62 = .ok (.ireturn, 1) := by decide +kernel
theorem dX2_fairScore_0 : decode cX2_fairScore 0 = .ok (.aload_n 0, 1) := by decide +kernel
theorem dX2_fairScore_1 : decode cX2_fairScore 1 = .ok (.getfield 32, 3) := by decide +kernel
theorem dX2_fairScore_4 : decode cX2_fairScore 4 = .ok (.iconst 0, 1) := by decide +kernel
theorem dX2_fairScore_5 : decode cX2_fairScore 5 = .ok (.invokestatic 124, 3) := by decide +kernel
theorem dX2_fairScore_8 : decode cX2_fairScore 8 = .ok (.iconst 0, 1) := by decide +kernel
theorem dX2_fairScore_9 : decode cX2_fairScore 9 = .ok (.istore_n 1, 1) := by decide +kernel
theorem dX2_fairScore_10 : decode cX2_fairScore 10 = .ok (.iconst 0, 1) := by decide +kernel
theorem dX2_fairScore_11 : decode cX2_fairScore 11 = .ok (.istore_n 2, 1) := by decide +kernel
theorem dX2_fairScore_12 : decode cX2_fairScore 12 = .ok (.iload_n 2, 1) := by decide +kernel
theorem dX2_fairScore_13 : decode cX2_fairScore 13 = .ok (.aload_n 0, 1) := by decide +kernel
theorem dX2_fairScore_14 : decode cX2_fairScore 14 = .ok (.getfield 12, 3) := by decide +kernel
theorem dX2_fairScore_17 : decode cX2_fairScore 17 = .ok (.getfield 50, 3) := by decide +kernel
theorem dX2_fairScore_20 : decode cX2_fairScore 20 = .ok (.if_icmp .ge 41, 3) := by decide +kernel
theorem dX2_fairScore_23 : decode cX2_fairScore 23 = .ok (.aload_n 0, 1) := by decide +kernel
theorem dX2_fairScore_24 : decode cX2_fairScore 24 = .ok (.aload_n 0, 1) := by decide +kernel
theorem dX2_fairScore_25 : decode cX2_fairScore 25 = .ok (.getfield 26, 3) := by decide +kernel
theorem dX2_fairScore_28 : decode cX2_fairScore 28 = .ok (.iload_n 2, 1) := by decide +kernel
theorem dX2_fairScore_29 : decode cX2_fairScore 29 = .ok (.invokevirtual 120, 3) := by decide +kernel
theorem dX2_fairScore_32 : decode cX2_fairScore 32 = .ok (.istore_n 3, 1) := by decide +kernel
theorem dX2_fairScore_33 : decode cX2_fairScore 33 = .ok (.aload_n 0, 1) := by decide +kernel
theorem dX2_fairScore_34 : decode cX2_fairScore 34 = .ok (.getfield 32, 3) := by decide +kernel
theorem dX2_fairScore_37 : decode cX2_fairScore 37 = .ok (.aload_n 0, 1) := by decide +kernel
theorem dX2_fairScore_38 : decode cX2_fairScore 38 = .ok (.getfield 12, 3) := by decide +kernel
theorem dX2_fairScore_41 : decode cX2_fairScore 41 = .ok (.getfield 53, 3) := by decide +kernel
theorem dX2_fairScore_44 : decode cX2_fairScore 44 = .ok (.iload_n 2, 1) := by decide +kernel
theorem dX2_fairScore_45 : decode cX2_fairScore 45 = .ok (.iaload, 1) := by decide +kernel
theorem dX2_fairScore_46 : decode cX2_fairScore 46 = .ok (.dup2, 1) := by decide +kernel
theorem dX2_fairScore_47 : decode cX2_fairScore 47 = .ok (.iaload, 1) := by decide +kernel
theorem dX2_fairScore_48 : decode cX2_fairScore 48 = .ok (.iload_n 3, 1) := by decide +kernel
theorem dX2_fairScore_49 : decode cX2_fairScore 49 = .ok (.iadd, 1) := by decide +kernel
theorem dX2_fairScore_50 : decode cX2_fairScore 50 = .ok (.iastore, 1) := by decide +kernel
theorem dX2_fairScore_51 : decode cX2_fairScore 51 = .ok (.iload_n 1, 1) := by decide +kernel
theorem dX2_fairScore_52 : decode cX2_fairScore 52 = .ok (.iload_n 3, 1) := by decide +kernel
theorem dX2_fairScore_53 : decode cX2_fairScore 53 = .ok (.iadd, 1) := by decide +kernel
theorem dX2_fairScore_54 : decode cX2_fairScore 54 = .ok (.istore_n 1, 1) := by decide +kernel
theorem dX2_fairScore_55 : decode cX2_fairScore 55 = .ok (.iinc 2 1, 3) := by decide +kernel
theorem dX2_fairScore_58 : decode cX2_fairScore 58 = .ok (.goto (-46), 3) := by decide +kernel
theorem dX2_fairScore_61 : decode cX2_fairScore 61 = .ok (.iload_n 1, 1) := by decide +kernel
theorem dX2_fairScore_62 : decode cX2_fairScore 62 = .ok (.istore_n 2, 1) := by decide +kernel
theorem dX2_fairScore_63 : decode cX2_fairScore 63 = .ok (.iconst 0, 1) := by decide +kernel
theorem dX2_fairScore_64 : decode cX2_fairScore 64 = .ok (.istore_n 3, 1) := by decide +kernel
theorem dX2_fairScore_65 : decode cX2_fairScore 65 = .ok (.iload_n 3, 1) := by decide +kernel
theorem dX2_fairScore_66 : decode cX2_fairScore 66 = .ok (.aload_n 0, 1) := by decide +kernel
theorem dX2_fairScore_67 : decode cX2_fairScore 67 = .ok (.getfield 12, 3) := by decide +kernel
theorem dX2_fairScore_70 : decode cX2_fairScore 70 = .ok (.getfield 50, 3) := by decide +kernel
theorem dX2_fairScore_73 : decode cX2_fairScore 73 = .ok (.if_icmp .ge 28, 3) := by decide +kernel
theorem dX2_fairScore_76 : decode cX2_fairScore 76 = .ok (.iload_n 2, 1) := by decide +kernel
theorem dX2_fairScore_77 : decode cX2_fairScore 77 = .ok (.aload_n 0, 1) := by decide +kernel
theorem dX2_fairScore_78 : decode cX2_fairScore 78 = .ok (.getfield 32, 3) := by decide +kernel
theorem dX2_fairScore_81 : decode cX2_fairScore 81 = .ok (.aload_n 0, 1) := by decide +kernel
theorem dX2_fairScore_82 : decode cX2_fairScore 82 = .ok (.getfield 12, 3) := by decide +kernel
theorem dX2_fairScore_85 : decode cX2_fairScore 85 = .ok (.getfield 53, 3) := by decide +kernel
theorem dX2_fairScore_88 : decode cX2_fairScore 88 = .ok (.iload_n 3, 1) := by decide +kernel
theorem dX2_fairScore_89 : decode cX2_fairScore 89 = .ok (.iaload, 1) := by decide +kernel
theorem dX2_fairScore_90 : decode cX2_fairScore 90 = .ok (.iaload, 1) := by decide +kernel
theorem dX2_fairScore_91 : decode cX2_fairScore 91 = .ok (.invokestatic 71, 3) := by decide +kernel
theorem dX2_fairScore_94 : decode cX2_fairScore 94 = .ok (.istore_n 2, 1) := by decide +kernel
theorem dX2_fairScore_95 : decode cX2_fairScore 95 = .ok (.iinc 3 1, 3) := by decide +kernel
theorem dX2_fairScore_98 : decode cX2_fairScore 98 = .ok (.goto (-33), 3) := by decide +kernel
theorem dX2_fairScore_101 : decode cX2_fairScore 101 = .ok (.iload_n 2, 1) := by decide +kernel
theorem dX2_fairScore_102 : decode cX2_fairScore 102 = .ok (.sipush 2048, 3) := by decide +kernel
theorem dX2_fairScore_105 : decode cX2_fairScore 105 = .ok (.imul, 1) := by decide +kernel
theorem dX2_fairScore_106 : decode cX2_fairScore 106 = .ok (.iload_n 1, 1) := by decide +kernel
theorem dX2_fairScore_107 : decode cX2_fairScore 107 = .ok (.iadd, 1) := by decide +kernel
theorem dX2_fairScore_108 : decode cX2_fairScore 108 = .ok (.ireturn, 1) := by decide +kernel
theorem dX2_fewestIn_0 : decode cX2_fewestIn 0 = .ok (.iload_n 0, 1) := by decide +kernel
theorem dX2_fewestIn_1 : decode cX2_fewestIn 1 = .ok (.sipush 2048, 3) := by decide +kernel
theorem dX2_fewestIn_4 : decode cX2_fewestIn 4 = .ok (.idiv, 1) := by decide +kernel
theorem dX2_fewestIn_5 : decode cX2_fewestIn 5 = .ok (.ireturn, 1) := by decide +kernel
theorem dX2_allIn_0 : decode cX2_allIn 0 = .ok (.iload_n 0, 1) := by decide +kernel
theorem dX2_allIn_1 : decode cX2_allIn 1 = .ok (.sipush 2048, 3) := by decide +kernel
theorem dX2_allIn_4 : decode cX2_allIn 4 = .ok (.irem, 1) := by decide +kernel
theorem dX2_allIn_5 : decode cX2_allIn 5 = .ok (.ireturn, 1) := by decide +kernel
theorem dX2_stripsHungOver_0 : decode cX2_stripsHungOver 0 = .ok (.iconst 0, 1) := by decide +kernel
theorem dX2_stripsHungOver_1 : decode cX2_stripsHungOver 1 = .ok (.istore_n 1, 1) := by decide +kernel
theorem dX2_stripsHungOver_2 : decode cX2_stripsHungOver 2 = .ok (.iconst 0, 1) := by decide +kernel
theorem dX2_stripsHungOver_3 : decode cX2_stripsHungOver 3 = .ok (.istore_n 2, 1) := by decide +kernel
theorem dX2_stripsHungOver_4 : decode cX2_stripsHungOver 4 = .ok (.iload_n 2, 1) := by decide +kernel
theorem dX2_stripsHungOver_5 : decode cX2_stripsHungOver 5 = .ok (.aload_n 0, 1) := by decide +kernel
theorem dX2_stripsHungOver_6 : decode cX2_stripsHungOver 6 = .ok (.getfield 41, 3) := by decide +kernel
theorem dX2_stripsHungOver_9 : decode cX2_stripsHungOver 9 = .ok (.if_icmp .ge 20, 3) := by decide +kernel
theorem dX2_stripsHungOver_12 : decode cX2_stripsHungOver 12 = .ok (.iload_n 1, 1) := by decide +kernel
theorem dX2_stripsHungOver_13 : decode cX2_stripsHungOver 13 = .ok (.iconst 1, 1) := by decide +kernel
theorem dX2_stripsHungOver_14 : decode cX2_stripsHungOver 14 = .ok (.aload_n 0, 1) := by decide +kernel
theorem dX2_stripsHungOver_15 : decode cX2_stripsHungOver 15 = .ok (.getfield 35, 3) := by decide +kernel
theorem dX2_stripsHungOver_18 : decode cX2_stripsHungOver 18 = .ok (.iload_n 2, 1) := by decide +kernel
theorem dX2_stripsHungOver_19 : decode cX2_stripsHungOver 19 = .ok (.iaload, 1) := by decide +kernel
theorem dX2_stripsHungOver_20 : decode cX2_stripsHungOver 20 = .ok (.ishl, 1) := by decide +kernel
theorem dX2_stripsHungOver_21 : decode cX2_stripsHungOver 21 = .ok (.ior, 1) := by decide +kernel
theorem dX2_stripsHungOver_22 : decode cX2_stripsHungOver 22 = .ok (.istore_n 1, 1) := by decide +kernel
theorem dX2_stripsHungOver_23 : decode cX2_stripsHungOver 23 = .ok (.iinc 2 1, 3) := by decide +kernel
theorem dX2_stripsHungOver_26 : decode cX2_stripsHungOver 26 = .ok (.goto (-22), 3) := by decide +kernel
theorem dX2_stripsHungOver_29 : decode cX2_stripsHungOver 29 = .ok (.iload_n 1, 1) := by decide +kernel
theorem dX2_stripsHungOver_30 : decode cX2_stripsHungOver 30 = .ok (.ireturn, 1) := by decide +kernel
theorem dX2_bidsOf_0 : decode cX2_bidsOf 0 = .ok (.aload_n 0, 1) := by decide +kernel
theorem dX2_bidsOf_1 : decode cX2_bidsOf 1 = .ok (.lload_n 2, 1) := by decide +kernel
theorem dX2_bidsOf_2 : decode cX2_bidsOf 2 = .ok (.invokevirtual 104, 3) := by decide +kernel
theorem dX2_bidsOf_5 : decode cX2_bidsOf 5 = .ok (.iconst 0, 1) := by decide +kernel
theorem dX2_bidsOf_6 : decode cX2_bidsOf 6 = .ok (.istore 4, 2) := by decide +kernel
theorem dX2_bidsOf_8 : decode cX2_bidsOf 8 = .ok (.iconst 0, 1) := by decide +kernel
theorem dX2_bidsOf_9 : decode cX2_bidsOf 9 = .ok (.istore 5, 2) := by decide +kernel
theorem dX2_bidsOf_11 : decode cX2_bidsOf 11 = .ok (.iload 5, 2) := by decide +kernel
theorem dX2_bidsOf_13 : decode cX2_bidsOf 13 = .ok (.aload_n 0, 1) := by decide +kernel
theorem dX2_bidsOf_14 : decode cX2_bidsOf 14 = .ok (.getfield 12, 3) := by decide +kernel
theorem dX2_bidsOf_17 : decode cX2_bidsOf 17 = .ok (.getfield 50, 3) := by decide +kernel
theorem dX2_bidsOf_20 : decode cX2_bidsOf 20 = .ok (.if_icmp .ge 48, 3) := by decide +kernel
theorem dX2_bidsOf_23 : decode cX2_bidsOf 23 = .ok (.aload_n 0, 1) := by decide +kernel
theorem dX2_bidsOf_24 : decode cX2_bidsOf 24 = .ok (.getfield 12, 3) := by decide +kernel
theorem dX2_bidsOf_27 : decode cX2_bidsOf 27 = .ok (.getfield 53, 3) := by decide +kernel
theorem dX2_bidsOf_30 : decode cX2_bidsOf 30 = .ok (.iload 5, 2) := by decide +kernel
theorem dX2_bidsOf_32 : decode cX2_bidsOf 32 = .ok (.iaload, 1) := by decide +kernel
theorem dX2_bidsOf_33 : decode cX2_bidsOf 33 = .ok (.iload_n 1, 1) := by decide +kernel
theorem dX2_bidsOf_34 : decode cX2_bidsOf 34 = .ok (.if_icmp .ne 28, 3) := by decide +kernel
theorem dX2_bidsOf_37 : decode cX2_bidsOf 37 = .ok (.iload 4, 2) := by decide +kernel
theorem dX2_bidsOf_39 : decode cX2_bidsOf 39 = .ok (.aload_n 0, 1) := by decide +kernel
theorem dX2_bidsOf_40 : decode cX2_bidsOf 40 = .ok (.getfield 12, 3) := by decide +kernel
theorem dX2_bidsOf_43 : decode cX2_bidsOf 43 = .ok (.getfield 76, 3) := by decide +kernel
theorem dX2_bidsOf_46 : decode cX2_bidsOf 46 = .ok (.iload_n 1, 1) := by decide +kernel
theorem dX2_bidsOf_47 : decode cX2_bidsOf 47 = .ok (.iaload, 1) := by decide +kernel
theorem dX2_bidsOf_48 : decode cX2_bidsOf 48 = .ok (.aload_n 0, 1) := by decide +kernel
theorem dX2_bidsOf_49 : decode cX2_bidsOf 49 = .ok (.aload_n 0, 1) := by decide +kernel
theorem dX2_bidsOf_50 : decode cX2_bidsOf 50 = .ok (.getfield 26, 3) := by decide +kernel
theorem dX2_bidsOf_53 : decode cX2_bidsOf 53 = .ok (.iload 5, 2) := by decide +kernel
theorem dX2_bidsOf_55 : decode cX2_bidsOf 55 = .ok (.invokevirtual 120, 3) := by decide +kernel
theorem dX2_bidsOf_58 : decode cX2_bidsOf 58 = .ok (.imul, 1) := by decide +kernel
theorem dX2_bidsOf_59 : decode cX2_bidsOf 59 = .ok (.iadd, 1) := by decide +kernel
theorem dX2_bidsOf_60 : decode cX2_bidsOf 60 = .ok (.istore 4, 2) := by decide +kernel
theorem dX2_bidsOf_62 : decode cX2_bidsOf 62 = .ok (.iinc 5 1, 3) := by decide +kernel
theorem dX2_bidsOf_65 : decode cX2_bidsOf 65 = .ok (.goto (-54), 3) := by decide +kernel
theorem dX2_bidsOf_68 : decode cX2_bidsOf 68 = .ok (.iload 4, 2) := by decide +kernel
theorem dX2_bidsOf_70 : decode cX2_bidsOf 70 = .ok (.ireturn, 1) := by decide +kernel
theorem dX3_init_0 : decode cX3_init 0 = .ok (.aload_n 0, 1) := by decide +kernel
theorem dX3_init_1 : decode cX3_init 1 = .ok (.invokespecial 3, 3) := by decide +kernel
theorem dX3_init_4 : decode cX3_init 4 = .ok (.aload_n 0, 1) := by decide +kernel
theorem dX3_init_5 : decode cX3_init 5 = .ok (.bipush 16, 2) := by decide +kernel
theorem dX3_init_7 : decode cX3_init 7 = .ok (.newarray .int, 2) := by decide +kernel
theorem dX3_init_9 : decode cX3_init 9 = .ok (.putfield 9, 3) := by decide +kernel
theorem dX3_init_12 : decode cX3_init 12 = .ok (.aload_n 0, 1) := by decide +kernel
theorem dX3_init_13 : decode cX3_init 13 = .ok (.bipush 16, 2) := by decide +kernel
theorem dX3_init_15 : decode cX3_init 15 = .ok (.newarray .int, 2) := by decide +kernel
theorem dX3_init_17 : decode cX3_init 17 = .ok (.putfield 15, 3) := by decide +kernel
theorem dX3_init_20 : decode cX3_init 20 = .ok (.aload_n 0, 1) := by decide +kernel
theorem dX3_init_21 : decode cX3_init 21 = .ok (.bipush 16, 2) := by decide +kernel
theorem dX3_init_23 : decode cX3_init 23 = .ok (.newarray .int, 2) := by decide +kernel
theorem dX3_init_25 : decode cX3_init 25 = .ok (.putfield 18, 3) := by decide +kernel
theorem dX3_init_28 : decode cX3_init 28 = .ok (.aload_n 0, 1) := by decide +kernel
theorem dX3_init_29 : decode cX3_init 29 = .ok (.bipush 16, 2) := by decide +kernel
theorem dX3_init_31 : decode cX3_init 31 = .ok (.newarray .int, 2) := by decide +kernel
theorem dX3_init_33 : decode cX3_init 33 = .ok (.putfield 21, 3) := by decide +kernel
theorem dX3_init_36 : decode cX3_init 36 = .ok (.aload_n 0, 1) := by decide +kernel
theorem dX3_init_37 : decode cX3_init 37 = .ok (.bipush 16, 2) := by decide +kernel
theorem dX3_init_39 : decode cX3_init 39 = .ok (.newarray .int, 2) := by decide +kernel
theorem dX3_init_41 : decode cX3_init 41 = .ok (.putfield 24, 3) := by decide +kernel
theorem dX3_init_44 : decode cX3_init 44 = .ok (.aload_n 0, 1) := by decide +kernel
theorem dX3_init_45 : decode cX3_init 45 = .ok (.bipush 6, 2) := by decide +kernel
theorem dX3_init_47 : decode cX3_init 47 = .ok (.newarray .int, 2) := by decide +kernel
theorem dX3_init_49 : decode cX3_init 49 = .ok (.putfield 27, 3) := by decide +kernel
theorem dX3_init_52 : decode cX3_init 52 = .ok (.aload_n 0, 1) := by decide +kernel
theorem dX3_init_53 : decode cX3_init 53 = .ok (.invokevirtual 30, 3) := by decide +kernel
theorem dX3_init_56 : decode cX3_init 56 = .ok (.return_, 1) := by decide +kernel
theorem dX3_empty_0 : decode cX3_empty 0 = .ok (.aload_n 0, 1) := by decide +kernel
theorem dX3_empty_1 : decode cX3_empty 1 = .ok (.iconst 0, 1) := by decide +kernel
theorem dX3_empty_2 : decode cX3_empty 2 = .ok (.putfield 33, 3) := by decide +kernel
theorem dX3_empty_5 : decode cX3_empty 5 = .ok (.aload_n 0, 1) := by decide +kernel
theorem dX3_empty_6 : decode cX3_empty 6 = .ok (.iconst 0, 1) := by decide +kernel
theorem dX3_empty_7 : decode cX3_empty 7 = .ok (.putfield 37, 3) := by decide +kernel
theorem dX3_empty_10 : decode cX3_empty 10 = .ok (.aload_n 0, 1) := by decide +kernel
theorem dX3_empty_11 : decode cX3_empty 11 = .ok (.iconst 0, 1) := by decide +kernel
theorem dX3_empty_12 : decode cX3_empty 12 = .ok (.putfield 40, 3) := by decide +kernel
theorem dX3_empty_15 : decode cX3_empty 15 = .ok (.aload_n 0, 1) := by decide +kernel
theorem dX3_empty_16 : decode cX3_empty 16 = .ok (.iconst 0, 1) := by decide +kernel
theorem dX3_empty_17 : decode cX3_empty 17 = .ok (.putfield 43, 3) := by decide +kernel
theorem dX3_empty_20 : decode cX3_empty 20 = .ok (.aload_n 0, 1) := by decide +kernel
theorem dX3_empty_21 : decode cX3_empty 21 = .ok (.bipush 6, 2) := by decide +kernel
theorem dX3_empty_23 : decode cX3_empty 23 = .ok (.putfield 46, 3) := by decide +kernel
theorem dX3_empty_26 : decode cX3_empty 26 = .ok (.aload_n 0, 1) := by decide +kernel
theorem dX3_empty_27 : decode cX3_empty 27 = .ok (.bipush 6, 2) := by decide +kernel
theorem dX3_empty_29 : decode cX3_empty 29 = .ok (.putfield 49, 3) := by decide +kernel
theorem dX3_empty_32 : decode cX3_empty 32 = .ok (.aload_n 0, 1) := by decide +kernel
theorem dX3_empty_33 : decode cX3_empty 33 = .ok (.iconst 1, 1) := by decide +kernel
theorem dX3_empty_34 : decode cX3_empty 34 = .ok (.putfield 52, 3) := by decide +kernel
theorem dX3_empty_37 : decode cX3_empty 37 = .ok (.aload_n 0, 1) := by decide +kernel
theorem dX3_empty_38 : decode cX3_empty 38 = .ok (.bipush 60, 2) := by decide +kernel
theorem dX3_empty_40 : decode cX3_empty 40 = .ok (.putfield 55, 3) := by decide +kernel
theorem dX3_empty_43 : decode cX3_empty 43 = .ok (.aload_n 0, 1) := by decide +kernel
theorem dX3_empty_44 : decode cX3_empty 44 = .ok (.iconst 0, 1) := by decide +kernel
theorem dX3_empty_45 : decode cX3_empty 45 = .ok (.putfield 58, 3) := by decide +kernel
theorem dX3_empty_48 : decode cX3_empty 48 = .ok (.aload_n 0, 1) := by decide +kernel
theorem dX3_empty_49 : decode cX3_empty 49 = .ok (.iconst 0, 1) := by decide +kernel
theorem dX3_empty_50 : decode cX3_empty 50 = .ok (.putfield 61, 3) := by decide +kernel
theorem dX3_empty_53 : decode cX3_empty 53 = .ok (.aload_n 0, 1) := by decide +kernel
theorem dX3_empty_54 : decode cX3_empty 54 = .ok (.getfield 27, 3) := by decide +kernel
theorem dX3_empty_57 : decode cX3_empty 57 = .ok (.iconst 1, 1) := by decide +kernel
theorem dX3_empty_58 : decode cX3_empty 58 = .ok (.invokestatic 64, 3) := by decide +kernel
theorem dX3_empty_61 : decode cX3_empty 61 = .ok (.return_, 1) := by decide +kernel
theorem dX3_become_0 : decode cX3_become 0 = .ok (.aload_n 0, 1) := by decide +kernel
theorem dX3_become_1 : decode cX3_become 1 = .ok (.aload_n 1, 1) := by decide +kernel
theorem dX3_become_2 : decode cX3_become 2 = .ok (.getfield 33, 3) := by decide +kernel
theorem dX3_become_5 : decode cX3_become 5 = .ok (.putfield 33, 3) := by decide +kernel
theorem dX3_become_8 : decode cX3_become 8 = .ok (.aload_n 0, 1) := by decide +kernel
theorem dX3_become_9 : decode cX3_become 9 = .ok (.aload_n 1, 1) := by decide +kernel
theorem dX3_become_10 : decode cX3_become 10 = .ok (.getfield 37, 3) := by decide +kernel
theorem dX3_become_13 : decode cX3_become 13 = .ok (.putfield 37, 3) := by decide +kernel
theorem dX3_become_16 : decode cX3_become 16 = .ok (.aload_n 0, 1) := by decide +kernel
theorem dX3_become_17 : decode cX3_become 17 = .ok (.aload_n 1, 1) := by decide +kernel
theorem dX3_become_18 : decode cX3_become 18 = .ok (.getfield 40, 3) := by decide +kernel
theorem dX3_become_21 : decode cX3_become 21 = .ok (.putfield 40, 3) := by decide +kernel
theorem dX3_become_24 : decode cX3_become 24 = .ok (.aload_n 0, 1) := by decide +kernel
theorem dX3_become_25 : decode cX3_become 25 = .ok (.aload_n 1, 1) := by decide +kernel
theorem dX3_become_26 : decode cX3_become 26 = .ok (.getfield 43, 3) := by decide +kernel
theorem dX3_become_29 : decode cX3_become 29 = .ok (.putfield 43, 3) := by decide +kernel
theorem dX3_become_32 : decode cX3_become 32 = .ok (.aload_n 0, 1) := by decide +kernel
theorem dX3_become_33 : decode cX3_become 33 = .ok (.aload_n 1, 1) := by decide +kernel
theorem dX3_become_34 : decode cX3_become 34 = .ok (.getfield 46, 3) := by decide +kernel
theorem dX3_become_37 : decode cX3_become 37 = .ok (.putfield 46, 3) := by decide +kernel
theorem dX3_become_40 : decode cX3_become 40 = .ok (.aload_n 0, 1) := by decide +kernel
theorem dX3_become_41 : decode cX3_become 41 = .ok (.aload_n 1, 1) := by decide +kernel
theorem dX3_become_42 : decode cX3_become 42 = .ok (.getfield 49, 3) := by decide +kernel
theorem dX3_become_45 : decode cX3_become 45 = .ok (.putfield 49, 3) := by decide +kernel
theorem dX3_become_48 : decode cX3_become 48 = .ok (.aload_n 0, 1) := by decide +kernel
theorem dX3_become_49 : decode cX3_become 49 = .ok (.aload_n 1, 1) := by decide +kernel
theorem dX3_become_50 : decode cX3_become 50 = .ok (.getfield 52, 3) := by decide +kernel
theorem dX3_become_53 : decode cX3_become 53 = .ok (.putfield 52, 3) := by decide +kernel
theorem dX3_become_56 : decode cX3_become 56 = .ok (.aload_n 0, 1) := by decide +kernel
theorem dX3_become_57 : decode cX3_become 57 = .ok (.aload_n 1, 1) := by decide +kernel
theorem dX3_become_58 : decode cX3_become 58 = .ok (.getfield 55, 3) := by decide +kernel
theorem dX3_become_61 : decode cX3_become 61 = .ok (.putfield 55, 3) := by decide +kernel
theorem dX3_become_64 : decode cX3_become 64 = .ok (.aload_n 0, 1) := by decide +kernel
theorem dX3_become_65 : decode cX3_become 65 = .ok (.aload_n 1, 1) := by decide +kernel
theorem dX3_become_66 : decode cX3_become 66 = .ok (.getfield 58, 3) := by decide +kernel
theorem dX3_become_69 : decode cX3_become 69 = .ok (.putfield 58, 3) := by decide +kernel
theorem dX3_become_72 : decode cX3_become 72 = .ok (.aload_n 0, 1) := by decide +kernel
theorem dX3_become_73 : decode cX3_become 73 = .ok (.aload_n 1, 1) := by decide +kernel
theorem dX3_become_74 : decode cX3_become 74 = .ok (.getfield 61, 3) := by decide +kernel
theorem dX3_become_77 : decode cX3_become 77 = .ok (.putfield 61, 3) := by decide +kernel
theorem dX3_become_80 : decode cX3_become 80 = .ok (.aload_n 1, 1) := by decide +kernel
theorem dX3_become_81 : decode cX3_become 81 = .ok (.getfield 9, 3) := by decide +kernel
theorem dX3_become_84 : decode cX3_become 84 = .ok (.iconst 0, 1) := by decide +kernel
theorem dX3_become_85 : decode cX3_become 85 = .ok (.aload_n 0, 1) := by decide +kernel
theorem dX3_become_86 : decode cX3_become 86 = .ok (.getfield 9, 3) := by decide +kernel
theorem dX3_become_89 : decode cX3_become 89 = .ok (.iconst 0, 1) := by decide +kernel
theorem dX3_become_90 : decode cX3_become 90 = .ok (.bipush 16, 2) := by decide +kernel
theorem dX3_become_92 : decode cX3_become 92 = .ok (.invokestatic 70, 3) := by decide +kernel
theorem dX3_become_95 : decode cX3_become 95 = .ok (.aload_n 1, 1) := by decide +kernel
theorem dX3_become_96 : decode cX3_become 96 = .ok (.getfield 15, 3) := by decide +kernel
theorem dX3_become_99 : decode cX3_become 99 = .ok (.iconst 0, 1) := by decide +kernel
theorem dX3_become_100 : decode cX3_become 100 = .ok (.aload_n 0, 1) := by decide +kernel
theorem dX3_become_101 : decode cX3_become 101 = .ok (.getfield 15, 3) := by decide +kernel
theorem dX3_become_104 : decode cX3_become 104 = .ok (.iconst 0, 1) := by decide +kernel
theorem dX3_become_105 : decode cX3_become 105 = .ok (.bipush 16, 2) := by decide +kernel
theorem dX3_become_107 : decode cX3_become 107 = .ok (.invokestatic 70, 3) := by decide +kernel
theorem dX3_become_110 : decode cX3_become 110 = .ok (.aload_n 1, 1) := by decide +kernel
theorem dX3_become_111 : decode cX3_become 111 = .ok (.getfield 18, 3) := by decide +kernel
theorem dX3_become_114 : decode cX3_become 114 = .ok (.iconst 0, 1) := by decide +kernel
theorem dX3_become_115 : decode cX3_become 115 = .ok (.aload_n 0, 1) := by decide +kernel
theorem dX3_become_116 : decode cX3_become 116 = .ok (.getfield 18, 3) := by decide +kernel
theorem dX3_become_119 : decode cX3_become 119 = .ok (.iconst 0, 1) := by decide +kernel
theorem dX3_become_120 : decode cX3_become 120 = .ok (.bipush 16, 2) := by decide +kernel
theorem dX3_become_122 : decode cX3_become 122 = .ok (.invokestatic 70, 3) := by decide +kernel
theorem dX3_become_125 : decode cX3_become 125 = .ok (.aload_n 1, 1) := by decide +kernel
theorem dX3_become_126 : decode cX3_become 126 = .ok (.getfield 21, 3) := by decide +kernel
theorem dX3_become_129 : decode cX3_become 129 = .ok (.iconst 0, 1) := by decide +kernel
theorem dX3_become_130 : decode cX3_become 130 = .ok (.aload_n 0, 1) := by decide +kernel
theorem dX3_become_131 : decode cX3_become 131 = .ok (.getfield 21, 3) := by decide +kernel
theorem dX3_become_134 : decode cX3_become 134 = .ok (.iconst 0, 1) := by decide +kernel
theorem dX3_become_135 : decode cX3_become 135 = .ok (.bipush 16, 2) := by decide +kernel
theorem dX3_become_137 : decode cX3_become 137 = .ok (.invokestatic 70, 3) := by decide +kernel
theorem dX3_become_140 : decode cX3_become 140 = .ok (.aload_n 1, 1) := by decide +kernel
theorem dX3_become_141 : decode cX3_become 141 = .ok (.getfield 24, 3) := by decide +kernel
theorem dX3_become_144 : decode cX3_become 144 = .ok (.iconst 0, 1) := by decide +kernel
theorem dX3_become_145 : decode cX3_become 145 = .ok (.aload_n 0, 1) := by decide +kernel
theorem dX3_become_146 : decode cX3_become 146 = .ok (.getfield 24, 3) := by decide +kernel
theorem dX3_become_149 : decode cX3_become 149 = .ok (.iconst 0, 1) := by decide +kernel
theorem dX3_become_150 : decode cX3_become 150 = .ok (.bipush 16, 2) := by decide +kernel
theorem dX3_become_152 : decode cX3_become 152 = .ok (.invokestatic 70, 3) := by decide +kernel
theorem dX3_become_155 : decode cX3_become 155 = .ok (.aload_n 1, 1) := by decide +kernel
theorem dX3_become_156 : decode cX3_become 156 = .ok (.getfield 27, 3) := by decide +kernel
theorem dX3_become_159 : decode cX3_become 159 = .ok (.iconst 0, 1) := by decide +kernel
theorem dX3_become_160 : decode cX3_become 160 = .ok (.aload_n 0, 1) := by decide +kernel
theorem dX3_become_161 : decode cX3_become 161 = .ok (.getfield 27, 3) := by decide +kernel
theorem dX3_become_164 : decode cX3_become 164 = .ok (.iconst 0, 1) := by decide +kernel
theorem dX3_become_165 : decode cX3_become 165 = .ok (.bipush 6, 2) := by decide +kernel
theorem dX3_become_167 : decode cX3_become 167 = .ok (.invokestatic 70, 3) := by decide +kernel
theorem dX3_become_170 : decode cX3_become 170 = .ok (.return_, 1) := by decide +kernel
theorem dX3_addStrip_0 : decode cX3_addStrip 0 = .ok (.aload_n 0, 1) := by decide +kernel
theorem dX3_addStrip_1 : decode cX3_addStrip 1 = .ok (.getfield 33, 3) := by decide +kernel
theorem dX3_addStrip_4 : decode cX3_addStrip 4 = .ok (.bipush 16, 2) := by decide +kernel
theorem dX3_addStrip_6 : decode cX3_addStrip 6 = .ok (.if_icmp .ge 64, 3) := by decide +kernel
theorem dX3_addStrip_9 : decode cX3_addStrip 9 = .ok (.aload_n 0, 1) := by decide +kernel
theorem dX3_addStrip_10 : decode cX3_addStrip 10 = .ok (.getfield 9, 3) := by decide +kernel
theorem dX3_addStrip_13 : decode cX3_addStrip 13 = .ok (.aload_n 0, 1) := by decide +kernel
theorem dX3_addStrip_14 : decode cX3_addStrip 14 = .ok (.getfield 33, 3) := by decide +kernel
theorem dX3_addStrip_17 : decode cX3_addStrip 17 = .ok (.iload_n 1, 1) := by decide +kernel
theorem dX3_addStrip_18 : decode cX3_addStrip 18 = .ok (.iastore, 1) := by decide +kernel
theorem dX3_addStrip_19 : decode cX3_addStrip 19 = .ok (.aload_n 0, 1) := by decide +kernel
theorem dX3_addStrip_20 : decode cX3_addStrip 20 = .ok (.getfield 15, 3) := by decide +kernel
theorem dX3_addStrip_23 : decode cX3_addStrip 23 = .ok (.aload_n 0, 1) := by decide +kernel
theorem dX3_addStrip_24 : decode cX3_addStrip 24 = .ok (.getfield 33, 3) := by decide +kernel
theorem dX3_addStrip_27 : decode cX3_addStrip 27 = .ok (.iload_n 2, 1) := by decide +kernel
theorem dX3_addStrip_28 : decode cX3_addStrip 28 = .ok (.iastore, 1) := by decide +kernel
theorem dX3_addStrip_29 : decode cX3_addStrip 29 = .ok (.aload_n 0, 1) := by decide +kernel
theorem dX3_addStrip_30 : decode cX3_addStrip 30 = .ok (.getfield 18, 3) := by decide +kernel
theorem dX3_addStrip_33 : decode cX3_addStrip 33 = .ok (.aload_n 0, 1) := by decide +kernel
theorem dX3_addStrip_34 : decode cX3_addStrip 34 = .ok (.getfield 33, 3) := by decide +kernel
theorem dX3_addStrip_37 : decode cX3_addStrip 37 = .ok (.iload_n 3, 1) := by decide +kernel
theorem dX3_addStrip_38 : decode cX3_addStrip 38 = .ok (.iastore, 1) := by decide +kernel
theorem dX3_addStrip_39 : decode cX3_addStrip 39 = .ok (.aload_n 0, 1) := by decide +kernel
theorem dX3_addStrip_40 : decode cX3_addStrip 40 = .ok (.getfield 21, 3) := by decide +kernel
theorem dX3_addStrip_43 : decode cX3_addStrip 43 = .ok (.aload_n 0, 1) := by decide +kernel
theorem dX3_addStrip_44 : decode cX3_addStrip 44 = .ok (.getfield 33, 3) := by decide +kernel
theorem dX3_addStrip_47 : decode cX3_addStrip 47 = .ok (.iload 4, 2) := by decide +kernel
theorem dX3_addStrip_49 : decode cX3_addStrip 49 = .ok (.iastore, 1) := by decide +kernel
theorem dX3_addStrip_50 : decode cX3_addStrip 50 = .ok (.aload_n 0, 1) := by decide +kernel
theorem dX3_addStrip_51 : decode cX3_addStrip 51 = .ok (.getfield 24, 3) := by decide +kernel
theorem dX3_addStrip_54 : decode cX3_addStrip 54 = .ok (.aload_n 0, 1) := by decide +kernel
theorem dX3_addStrip_55 : decode cX3_addStrip 55 = .ok (.getfield 33, 3) := by decide +kernel
theorem dX3_addStrip_58 : decode cX3_addStrip 58 = .ok (.iconst 0, 1) := by decide +kernel
theorem dX3_addStrip_59 : decode cX3_addStrip 59 = .ok (.iastore, 1) := by decide +kernel
theorem dX3_addStrip_60 : decode cX3_addStrip 60 = .ok (.aload_n 0, 1) := by decide +kernel
theorem dX3_addStrip_61 : decode cX3_addStrip 61 = .ok (.dup, 1) := by decide +kernel
theorem dX3_addStrip_62 : decode cX3_addStrip 62 = .ok (.getfield 33, 3) := by decide +kernel
theorem dX3_addStrip_65 : decode cX3_addStrip 65 = .ok (.iconst 1, 1) := by decide +kernel
theorem dX3_addStrip_66 : decode cX3_addStrip 66 = .ok (.iadd, 1) := by decide +kernel
theorem dX3_addStrip_67 : decode cX3_addStrip 67 = .ok (.putfield 33, 3) := by decide +kernel
theorem dX3_addStrip_70 : decode cX3_addStrip 70 = .ok (.return_, 1) := by decide +kernel
theorem dX3_hasStrip_0 : decode cX3_hasStrip 0 = .ok (.iload_n 1, 1) := by decide +kernel
theorem dX3_hasStrip_1 : decode cX3_hasStrip 1 = .ok (.ifCond .lt 15, 3) := by decide +kernel
theorem dX3_hasStrip_4 : decode cX3_hasStrip 4 = .ok (.iload_n 1, 1) := by decide +kernel
theorem dX3_hasStrip_5 : decode cX3_hasStrip 5 = .ok (.aload_n 0, 1) := by decide +kernel
theorem dX3_hasStrip_6 : decode cX3_hasStrip 6 = .ok (.getfield 33, 3) := by decide +kernel
theorem dX3_hasStrip_9 : decode cX3_hasStrip 9 = .ok (.if_icmp .ge 7, 3) := by decide +kernel
theorem dX3_hasStrip_12 : decode cX3_hasStrip 12 = .ok (.iconst 1, 1) := by decide +kernel
theorem dX3_hasStrip_13 : decode cX3_hasStrip 13 = .ok (.goto 4, 3) := by decide +kernel
theorem dX3_hasStrip_16 : decode cX3_hasStrip 16 = .ok (.iconst 0, 1) := by decide +kernel
theorem dX3_hasStrip_17 : decode cX3_hasStrip 17 = .ok (.ireturn, 1) := by decide +kernel
theorem dX3_allStrips_0 : decode cX3_allStrips 0 = .ok (.iconst 1, 1) := by decide +kernel
theorem dX3_allStrips_1 : decode cX3_allStrips 1 = .ok (.aload_n 0, 1) := by decide +kernel
theorem dX3_allStrips_2 : decode cX3_allStrips 2 = .ok (.getfield 33, 3) := by decide +kernel
theorem dX3_allStrips_5 : decode cX3_allStrips 5 = .ok (.ishl, 1) := by decide +kernel
theorem dX3_allStrips_6 : decode cX3_allStrips 6 = .ok (.iconst 1, 1) := by decide +kernel
theorem dX3_allStrips_7 : decode cX3_allStrips 7 = .ok (.isub, 1) := by decide +kernel
theorem dX3_allStrips_8 : decode cX3_allStrips 8 = .ok (.ireturn, 1) := by decide +kernel
theorem dX3_areStrips_0 : decode cX3_areStrips 0 = .ok (.iload_n 1, 1) := by decide +kernel
theorem dX3_areStrips_1 : decode cX3_areStrips 1 = .ok (.aload_n 0, 1) := by decide +kernel
theorem dX3_areStrips_2 : decode cX3_areStrips 2 = .ok (.invokevirtual 76, 3) := by decide +kernel
theorem dX3_areStrips_5 : decode cX3_areStrips 5 = .ok (.iconst (-1), 1) := by decide +kernel
theorem dX3_areStrips_6 : decode cX3_areStrips 6 = .ok (.ixor, 1) := by decide +kernel
theorem dX3_areStrips_7 : decode cX3_areStrips 7 = .ok (.iand, 1) := by decide +kernel
theorem dX3_areStrips_8 : decode cX3_areStrips 8 = .ok (.ifCond .ne 7, 3) := by decide +kernel
theorem dX3_areStrips_11 : decode cX3_areStrips 11 = .ok (.iconst 1, 1) := by decide +kernel
theorem dX3_areStrips_12 : decode cX3_areStrips 12 = .ok (.goto 4, 3) := by decide +kernel
theorem dX3_areStrips_15 : decode cX3_areStrips 15 = .ok (.iconst 0, 1) := by decide +kernel
theorem dX3_areStrips_16 : decode cX3_areStrips 16 = .ok (.ireturn, 1) := by decide +kernel
theorem dX3_hangsOver_0 : decode cX3_hangsOver 0 = .ok (.aload_n 0, 1) := by decide +kernel
theorem dX3_hangsOver_1 : decode cX3_hangsOver 1 = .ok (.getfield 33, 3) := by decide +kernel
theorem dX3_hangsOver_4 : decode cX3_hangsOver 4 = .ok (.ifCond .ne 7, 3) := by decide +kernel
theorem dX3_hangsOver_7 : decode cX3_hangsOver 7 = .ok (.iconst (-1), 1) := by decide +kernel
theorem dX3_hangsOver_8 : decode cX3_hangsOver 8 = .ok (.goto 7, 3) := by decide +kernel
theorem dX3_hangsOver_11 : decode cX3_hangsOver 11 = .ok (.aload_n 0, 1) := by decide +kernel
theorem dX3_hangsOver_12 : decode cX3_hangsOver 12 = .ok (.getfield 43, 3) := by decide +kernel
theorem dX3_hangsOver_15 : decode cX3_hangsOver 15 = .ok (.ireturn, 1) := by decide +kernel
theorem dX3_sum_0 : decode cX3_sum 0 = .ok (.iconst 0, 1) := by decide +kernel
theorem dX3_sum_1 : decode cX3_sum 1 = .ok (.istore_n 2, 1) := by decide +kernel
theorem dX3_sum_2 : decode cX3_sum 2 = .ok (.iconst 0, 1) := by decide +kernel
theorem dX3_sum_3 : decode cX3_sum 3 = .ok (.istore_n 3, 1) := by decide +kernel
theorem dX3_sum_4 : decode cX3_sum 4 = .ok (.iload_n 3, 1) := by decide +kernel
theorem dX3_sum_5 : decode cX3_sum 5 = .ok (.aload_n 0, 1) := by decide +kernel
theorem dX3_sum_6 : decode cX3_sum 6 = .ok (.getfield 33, 3) := by decide +kernel
theorem dX3_sum_9 : decode cX3_sum 9 = .ok (.if_icmp .ge 15, 3) := by decide +kernel
theorem dX3_sum_12 : decode cX3_sum 12 = .ok (.iload_n 2, 1) := by decide +kernel
theorem dX3_sum_13 : decode cX3_sum 13 = .ok (.aload_n 1, 1) := by decide +kernel
theorem dX3_sum_14 : decode cX3_sum 14 = .ok (.iload_n 3, 1) := by decide +kernel
theorem dX3_sum_15 : decode cX3_sum 15 = .ok (.iaload, 1) := by decide +kernel
theorem dX3_sum_16 : decode cX3_sum 16 = .ok (.iadd, 1) := by decide +kernel
theorem dX3_sum_17 : decode cX3_sum 17 = .ok (.istore_n 2, 1) := by decide +kernel
theorem dX3_sum_18 : decode cX3_sum 18 = .ok (.iinc 3 1, 3) := by decide +kernel
theorem dX3_sum_21 : decode cX3_sum 21 = .ok (.goto (-17), 3) := by decide +kernel
theorem dX3_sum_24 : decode cX3_sum 24 = .ok (.iload_n 2, 1) := by decide +kernel
theorem dX3_sum_25 : decode cX3_sum 25 = .ok (.ireturn, 1) := by decide +kernel
theorem dX3_sumOfFarm_0 : decode cX3_sumOfFarm 0 = .ok (.iconst 0, 1) := by decide +kernel
theorem dX3_sumOfFarm_1 : decode cX3_sumOfFarm 1 = .ok (.istore_n 3, 1) := by decide +kernel
theorem dX3_sumOfFarm_2 : decode cX3_sumOfFarm 2 = .ok (.iconst 0, 1) := by decide +kernel
