theorem dX2_fillCaps_60 : decode cX2_fillCaps 60 = .ok (.iload_n 3, 1) := by decide +kernel
theorem dX2_fillCaps_61 : decode cX2_fillCaps 61 = .ok (.iload 4, 2) := by decide +kernel
theorem dX2_fillCaps_63 : decode cX2_fillCaps 63 = .ok (.invokevirtual 85, 3) := by decide +kernel
theorem dX2_fillCaps_66 : decode cX2_fillCaps 66 = .ok (.invokestatic 71, 3) := by decide +kernel
theorem dX2_fillCaps_69 : decode cX2_fillCaps 69 = .ok (.iastore, 1) := by decide +kernel
theorem dX2_fillCaps_70 : decode cX2_fillCaps 70 = .ok (.iinc 4 1, 3) := by decide +kernel
theorem dX2_fillCaps_73 : decode cX2_fillCaps 73 = .ok (.goto (-57), 3) := by decide +kernel
theorem dX2_fillCaps_76 : decode cX2_fillCaps 76 = .ok (.iinc 3 1, 3) := by decide +kernel
theorem dX2_fillCaps_79 : decode cX2_fillCaps 79 = .ok (.goto (-77), 3) := by decide +kernel
theorem dX2_fillCaps_82 : decode cX2_fillCaps 82 = .ok (.return_, 1) := by decide +kernel
theorem dX2_seekBest_0 : decode cX2_seekBest 0 = .ok (.aload_n 0, 1) := by decide +kernel
theorem dX2_seekBest_1 : decode cX2_seekBest 1 = .ok (.iload_n 3, 1) := by decide +kernel
theorem dX2_seekBest_2 : decode cX2_seekBest 2 = .ok (.putfield 44, 3) := by decide +kernel
theorem dX2_seekBest_5 : decode cX2_seekBest 5 = .ok (.aload_n 1, 1) := by decide +kernel
theorem dX2_seekBest_6 : decode cX2_seekBest 6 = .ok (.iload_n 2, 1) := by decide +kernel
theorem dX2_seekBest_7 : decode cX2_seekBest 7 = .ok (.invokevirtual 88, 3) := by decide +kernel
theorem dX2_seekBest_10 : decode cX2_seekBest 10 = .ok (.istore 4, 2) := by decide +kernel
theorem dX2_seekBest_12 : decode cX2_seekBest 12 = .ok (.aload_n 1, 1) := by decide +kernel
theorem dX2_seekBest_13 : decode cX2_seekBest 13 = .ok (.iload_n 2, 1) := by decide +kernel
theorem dX2_seekBest_14 : decode cX2_seekBest 14 = .ok (.invokevirtual 93, 3) := by decide +kernel
theorem dX2_seekBest_17 : decode cX2_seekBest 17 = .ok (.istore 5, 2) := by decide +kernel
theorem dX2_seekBest_19 : decode cX2_seekBest 19 = .ok (.iload 5, 2) := by decide +kernel
theorem dX2_seekBest_21 : decode cX2_seekBest 21 = .ok (.iload 4, 2) := by decide +kernel
theorem dX2_seekBest_23 : decode cX2_seekBest 23 = .ok (.if_icmp .ge 94, 3) := by decide +kernel
theorem dX2_seekBest_26 : decode cX2_seekBest 26 = .ok (.aload_n 1, 1) := by decide +kernel
theorem dX2_seekBest_27 : decode cX2_seekBest 27 = .ok (.getfield 96, 3) := by decide +kernel
theorem dX2_seekBest_30 : decode cX2_seekBest 30 = .ok (.iload 5, 2) := by decide +kernel
theorem dX2_seekBest_32 : decode cX2_seekBest 32 = .ok (.baload, 1) := by decide +kernel
theorem dX2_seekBest_33 : decode cX2_seekBest 33 = .ok (.ifCond .eq 6, 3) := by decide +kernel
theorem dX2_seekBest_36 : decode cX2_seekBest 36 = .ok (.goto 75, 3) := by decide +kernel
theorem dX2_seekBest_39 : decode cX2_seekBest 39 = .ok (.aload_n 0, 1) := by decide +kernel
theorem dX2_seekBest_40 : decode cX2_seekBest 40 = .ok (.aload_n 1, 1) := by decide +kernel
theorem dX2_seekBest_41 : decode cX2_seekBest 41 = .ok (.getfield 100, 3) := by decide +kernel
theorem dX2_seekBest_44 : decode cX2_seekBest 44 = .ok (.iload 5, 2) := by decide +kernel
theorem dX2_seekBest_46 : decode cX2_seekBest 46 = .ok (.laload, 1) := by decide +kernel
theorem dX2_seekBest_47 : decode cX2_seekBest 47 = .ok (.invokevirtual 104, 3) := by decide +kernel
theorem dX2_seekBest_50 : decode cX2_seekBest 50 = .ok (.aload_n 0, 1) := by decide +kernel
theorem dX2_seekBest_51 : decode cX2_seekBest 51 = .ok (.getfield 18, 3) := by decide +kernel
theorem dX2_seekBest_54 : decode cX2_seekBest 54 = .ok (.iconst 2, 1) := by decide +kernel
theorem dX2_seekBest_55 : decode cX2_seekBest 55 = .ok (.if_icmp .eq 14, 3) := by decide +kernel
theorem dX2_seekBest_58 : decode cX2_seekBest 58 = .ok (.aload_n 0, 1) := by decide +kernel
theorem dX2_seekBest_59 : decode cX2_seekBest 59 = .ok (.invokevirtual 108, 3) := by decide +kernel
theorem dX2_seekBest_62 : decode cX2_seekBest 62 = .ok (.aload_n 0, 1) := by decide +kernel
theorem dX2_seekBest_63 : decode cX2_seekBest 63 = .ok (.getfield 44, 3) := by decide +kernel
theorem dX2_seekBest_66 : decode cX2_seekBest 66 = .ok (.if_icmp .le 45, 3) := by decide +kernel
theorem dX2_seekBest_69 : decode cX2_seekBest 69 = .ok (.aload_n 0, 1) := by decide +kernel
theorem dX2_seekBest_70 : decode cX2_seekBest 70 = .ok (.getfield 18, 3) := by decide +kernel
theorem dX2_seekBest_73 : decode cX2_seekBest 73 = .ok (.iconst 2, 1) := by decide +kernel
theorem dX2_seekBest_74 : decode cX2_seekBest 74 = .ok (.if_icmp .ne 10, 3) := by decide +kernel
theorem dX2_seekBest_77 : decode cX2_seekBest 77 = .ok (.aload_n 0, 1) := by decide +kernel
theorem dX2_seekBest_78 : decode cX2_seekBest 78 = .ok (.invokevirtual 112, 3) := by decide +kernel
theorem dX2_seekBest_81 : decode cX2_seekBest 81 = .ok (.goto 7, 3) := by decide +kernel
theorem dX2_seekBest_84 : decode cX2_seekBest 84 = .ok (.aload_n 0, 1) := by decide +kernel
theorem dX2_seekBest_85 : decode cX2_seekBest 85 = .ok (.invokevirtual 115, 3) := by decide +kernel
theorem dX2_seekBest_88 : decode cX2_seekBest 88 = .ok (.istore 6, 2) := by decide +kernel
theorem dX2_seekBest_90 : decode cX2_seekBest 90 = .ok (.iload 6, 2) := by decide +kernel
theorem dX2_seekBest_92 : decode cX2_seekBest 92 = .ok (.aload_n 0, 1) := by decide +kernel
theorem dX2_seekBest_93 : decode cX2_seekBest 93 = .ok (.getfield 44, 3) := by decide +kernel
theorem dX2_seekBest_96 : decode cX2_seekBest 96 = .ok (.if_icmp .le 15, 3) := by decide +kernel
theorem dX2_seekBest_99 : decode cX2_seekBest 99 = .ok (.aload_n 0, 1) := by decide +kernel
theorem dX2_seekBest_100 : decode cX2_seekBest 100 = .ok (.iload 6, 2) := by decide +kernel
theorem dX2_seekBest_102 : decode cX2_seekBest 102 = .ok (.putfield 44, 3) := by decide +kernel
theorem dX2_seekBest_105 : decode cX2_seekBest 105 = .ok (.aload_n 0, 1) := by decide +kernel
theorem dX2_seekBest_106 : decode cX2_seekBest 106 = .ok (.iload 5, 2) := by decide +kernel
theorem dX2_seekBest_108 : decode cX2_seekBest 108 = .ok (.putfield 47, 3) := by decide +kernel
theorem dX2_seekBest_111 : decode cX2_seekBest 111 = .ok (.iinc 5 1, 3) := by decide +kernel
theorem dX2_seekBest_114 : decode cX2_seekBest 114 = .ok (.goto (-95), 3) := by decide +kernel
theorem dX2_seekBest_117 : decode cX2_seekBest 117 = .ok (.return_, 1) := by decide +kernel
theorem dX2_couldBeWorth_0 : decode cX2_couldBeWorth 0 = .ok (.iconst 0, 1) := by decide +kernel
theorem dX2_couldBeWorth_1 : decode cX2_couldBeWorth 1 = .ok (.istore_n 1, 1) := by decide +kernel
theorem dX2_couldBeWorth_2 : decode cX2_couldBeWorth 2 = .ok (.iconst 0, 1) := by decide +kernel
theorem dX2_couldBeWorth_3 : decode cX2_couldBeWorth 3 = .ok (.istore_n 2, 1) := by decide +kernel
theorem dX2_couldBeWorth_4 : decode cX2_couldBeWorth 4 = .ok (.iload_n 2, 1) := by decide +kernel
theorem dX2_couldBeWorth_5 : decode cX2_couldBeWorth 5 = .ok (.aload_n 0, 1) := by decide +kernel
theorem dX2_couldBeWorth_6 : decode cX2_couldBeWorth 6 = .ok (.getfield 41, 3) := by decide +kernel
theorem dX2_couldBeWorth_9 : decode cX2_couldBeWorth 9 = .ok (.if_icmp .ge 30, 3) := by decide +kernel
theorem dX2_couldBeWorth_12 : decode cX2_couldBeWorth 12 = .ok (.iload_n 1, 1) := by decide +kernel
theorem dX2_couldBeWorth_13 : decode cX2_couldBeWorth 13 = .ok (.aload_n 0, 1) := by decide +kernel
theorem dX2_couldBeWorth_14 : decode cX2_couldBeWorth 14 = .ok (.getfield 38, 3) := by decide +kernel
theorem dX2_couldBeWorth_17 : decode cX2_couldBeWorth 17 = .ok (.iload_n 2, 1) := by decide +kernel
theorem dX2_couldBeWorth_18 : decode cX2_couldBeWorth 18 = .ok (.iaload, 1) := by decide +kernel
theorem dX2_couldBeWorth_19 : decode cX2_couldBeWorth 19 = .ok (.aload_n 0, 1) := by decide +kernel
theorem dX2_couldBeWorth_20 : decode cX2_couldBeWorth 20 = .ok (.getfield 29, 3) := by decide +kernel
theorem dX2_couldBeWorth_23 : decode cX2_couldBeWorth 23 = .ok (.aload_n 0, 1) := by decide +kernel
theorem dX2_couldBeWorth_24 : decode cX2_couldBeWorth 24 = .ok (.getfield 35, 3) := by decide +kernel
theorem dX2_couldBeWorth_27 : decode cX2_couldBeWorth 27 = .ok (.iload_n 2, 1) := by decide +kernel
theorem dX2_couldBeWorth_28 : decode cX2_couldBeWorth 28 = .ok (.iaload, 1) := by decide +kernel
theorem dX2_couldBeWorth_29 : decode cX2_couldBeWorth 29 = .ok (.iaload, 1) := by decide +kernel
theorem dX2_couldBeWorth_30 : decode cX2_couldBeWorth 30 = .ok (.imul, 1) := by decide +kernel
theorem dX2_couldBeWorth_31 : decode cX2_couldBeWorth 31 = .ok (.iadd, 1) := by decide +kernel
theorem dX2_couldBeWorth_32 : decode cX2_couldBeWorth 32 = .ok (.istore_n 1, 1) := by decide +kernel
theorem dX2_couldBeWorth_33 : decode cX2_couldBeWorth 33 = .ok (.iinc 2 1, 3) := by decide +kernel
theorem dX2_couldBeWorth_36 : decode cX2_couldBeWorth 36 = .ok (.goto (-32), 3) := by decide +kernel
theorem dX2_couldBeWorth_39 : decode cX2_couldBeWorth 39 = .ok (.iload_n 1, 1) := by decide +kernel
theorem dX2_couldBeWorth_40 : decode cX2_couldBeWorth 40 = .ok (.ireturn, 1) := by decide +kernel
theorem dX2_open_0 : decode cX2_open 0 = .ok (.aload_n 0, 1) := by decide +kernel
theorem dX2_open_1 : decode cX2_open 1 = .ok (.iconst 0, 1) := by decide +kernel
theorem dX2_open_2 : decode cX2_open 2 = .ok (.putfield 41, 3) := by decide +kernel
theorem dX2_open_5 : decode cX2_open 5 = .ok (.lload_n 1, 1) := by decide +kernel
theorem dX2_open_6 : decode cX2_open 6 = .ok (.lstore_n 3, 1) := by decide +kernel
theorem dX2_open_7 : decode cX2_open 7 = .ok (.iconst 0, 1) := by decide +kernel
theorem dX2_open_8 : decode cX2_open 8 = .ok (.istore 5, 2) := by decide +kernel
theorem dX2_open_10 : decode cX2_open 10 = .ok (.iload 5, 2) := by decide +kernel
theorem dX2_open_12 : decode cX2_open 12 = .ok (.bipush 16, 2) := by decide +kernel
theorem dX2_open_14 : decode cX2_open 14 = .ok (.if_icmp .ge 73, 3) := by decide +kernel
theorem dX2_open_17 : decode cX2_open 17 = .ok (.lload_n 3, 1) := by decide +kernel
theorem dX2_open_18 : decode cX2_open 18 = .ok (.lconst 0, 1) := by decide +kernel
theorem dX2_open_19 : decode cX2_open 19 = .ok (.lcmp, 1) := by decide +kernel
theorem dX2_open_20 : decode cX2_open 20 = .ok (.ifCond .eq 67, 3) := by decide +kernel
theorem dX2_open_23 : decode cX2_open 23 = .ok (.aload_n 0, 1) := by decide +kernel
theorem dX2_open_24 : decode cX2_open 24 = .ok (.getfield 41, 3) := by decide +kernel
theorem dX2_open_27 : decode cX2_open 27 = .ok (.bipush 8, 2) := by decide +kernel
theorem dX2_open_29 : decode cX2_open 29 = .ok (.if_icmp .ge 58, 3) := by decide +kernel
theorem dX2_open_32 : decode cX2_open 32 = .ok (.lload_n 3, 1) := by decide +kernel
theorem dX2_open_33 : decode cX2_open 33 = .ok (.ldc2_w 118, 3) := by decide +kernel
theorem dX2_open_36 : decode cX2_open 36 = .ok (.land, 1) := by decide +kernel
theorem dX2_open_37 : decode cX2_open 37 = .ok (.l2i, 1) := by decide +kernel
theorem dX2_open_38 : decode cX2_open 38 = .ok (.istore 6, 2) := by decide +kernel
theorem dX2_open_40 : decode cX2_open 40 = .ok (.iload 6, 2) := by decide +kernel
theorem dX2_open_42 : decode cX2_open 42 = .ok (.ifCond .eq 35, 3) := by decide +kernel
theorem dX2_open_45 : decode cX2_open 45 = .ok (.aload_n 0, 1) := by decide +kernel
theorem dX2_open_46 : decode cX2_open 46 = .ok (.getfield 35, 3) := by decide +kernel
theorem dX2_open_49 : decode cX2_open 49 = .ok (.aload_n 0, 1) := by decide +kernel
theorem dX2_open_50 : decode cX2_open 50 = .ok (.getfield 41, 3) := by decide +kernel
theorem dX2_open_53 : decode cX2_open 53 = .ok (.iload 5, 2) := by decide +kernel
theorem dX2_open_55 : decode cX2_open 55 = .ok (.iastore, 1) := by decide +kernel
theorem dX2_open_56 : decode cX2_open 56 = .ok (.aload_n 0, 1) := by decide +kernel
theorem dX2_open_57 : decode cX2_open 57 = .ok (.getfield 38, 3) := by decide +kernel
theorem dX2_open_60 : decode cX2_open 60 = .ok (.aload_n 0, 1) := by decide +kernel
theorem dX2_open_61 : decode cX2_open 61 = .ok (.getfield 41, 3) := by decide +kernel
theorem dX2_open_64 : decode cX2_open 64 = .ok (.iload 6, 2) := by decide +kernel
theorem dX2_open_66 : decode cX2_open 66 = .ok (.iastore, 1) := by decide +kernel
theorem dX2_open_67 : decode cX2_open 67 = .ok (.aload_n 0, 1) := by decide +kernel
theorem dX2_open_68 : decode cX2_open 68 = .ok (.dup, 1) := by decide +kernel
theorem dX2_open_69 : decode cX2_open 69 = .ok (.getfield 41, 3) := by decide +kernel
theorem dX2_open_72 : decode cX2_open 72 = .ok (.iconst 1, 1) := by decide +kernel
theorem dX2_open_73 : decode cX2_open 73 = .ok (.iadd, 1) := by decide +kernel
theorem dX2_open_74 : decode cX2_open 74 = .ok (.putfield 41, 3) := by decide +kernel
theorem dX2_open_77 : decode cX2_open 77 = .ok (.lload_n 3, 1) := by decide +kernel
theorem dX2_open_78 : decode cX2_open 78 = .ok (.iconst 4, 1) := by decide +kernel
theorem dX2_open_79 : decode cX2_open 79 = .ok (.lushr, 1) := by decide +kernel
theorem dX2_open_80 : decode cX2_open 80 = .ok (.lstore_n 3, 1) := by decide +kernel
theorem dX2_open_81 : decode cX2_open 81 = .ok (.iinc 5 1, 3) := by decide +kernel
theorem dX2_open_84 : decode cX2_open 84 = .ok (.goto (-74), 3) := by decide +kernel
theorem dX2_open_87 : decode cX2_open 87 = .ok (.return_, 1) := by decide +kernel
theorem dX2_cutOf_0 : decode cX2_cutOf 0 = .ok (.iconst 0, 1) := by decide +kernel
theorem dX2_cutOf_1 : decode cX2_cutOf 1 = .ok (.istore_n 3, 1) := by decide +kernel
theorem dX2_cutOf_2 : decode cX2_cutOf 2 = .ok (.iconst 0, 1) := by decide +kernel
theorem dX2_cutOf_3 : decode cX2_cutOf 3 = .ok (.istore 4, 2) := by decide +kernel
theorem dX2_cutOf_5 : decode cX2_cutOf 5 = .ok (.iload 4, 2) := by decide +kernel
theorem dX2_cutOf_7 : decode cX2_cutOf 7 = .ok (.aload_n 0, 1) := by decide +kernel
theorem dX2_cutOf_8 : decode cX2_cutOf 8 = .ok (.getfield 41, 3) := by decide +kernel
theorem dX2_cutOf_11 : decode cX2_cutOf 11 = .ok (.if_icmp .ge 34, 3) := by decide +kernel
theorem dX2_cutOf_14 : decode cX2_cutOf 14 = .ok (.iload_n 3, 1) := by decide +kernel
theorem dX2_cutOf_15 : decode cX2_cutOf 15 = .ok (.aload_n 0, 1) := by decide +kernel
theorem dX2_cutOf_16 : decode cX2_cutOf 16 = .ok (.getfield 38, 3) := by decide +kernel
theorem dX2_cutOf_19 : decode cX2_cutOf 19 = .ok (.iload 4, 2) := by decide +kernel
theorem dX2_cutOf_21 : decode cX2_cutOf 21 = .ok (.iaload, 1) := by decide +kernel
theorem dX2_cutOf_22 : decode cX2_cutOf 22 = .ok (.aload_n 1, 1) := by decide +kernel
theorem dX2_cutOf_23 : decode cX2_cutOf 23 = .ok (.aload_n 0, 1) := by decide +kernel
theorem dX2_cutOf_24 : decode cX2_cutOf 24 = .ok (.getfield 35, 3) := by decide +kernel
theorem dX2_cutOf_27 : decode cX2_cutOf 27 = .ok (.iload 4, 2) := by decide +kernel
theorem dX2_cutOf_29 : decode cX2_cutOf 29 = .ok (.iaload, 1) := by decide +kernel
theorem dX2_cutOf_30 : decode cX2_cutOf 30 = .ok (.bipush 16, 2) := by decide +kernel
theorem dX2_cutOf_32 : decode cX2_cutOf 32 = .ok (.imul, 1) := by decide +kernel
theorem dX2_cutOf_33 : decode cX2_cutOf 33 = .ok (.iload_n 2, 1) := by decide +kernel
theorem dX2_cutOf_34 : decode cX2_cutOf 34 = .ok (.iadd, 1) := by decide +kernel
theorem dX2_cutOf_35 : decode cX2_cutOf 35 = .ok (.iaload, 1) := by decide +kernel
theorem dX2_cutOf_36 : decode cX2_cutOf 36 = .ok (.imul, 1) := by decide +kernel
theorem dX2_cutOf_37 : decode cX2_cutOf 37 = .ok (.iadd, 1) := by decide +kernel
theorem dX2_cutOf_38 : decode cX2_cutOf 38 = .ok (.istore_n 3, 1) := by decide +kernel
theorem dX2_cutOf_39 : decode cX2_cutOf 39 = .ok (.iinc 4 1, 3) := by decide +kernel
theorem dX2_cutOf_42 : decode cX2_cutOf 42 = .ok (.goto (-37), 3) := by decide +kernel
theorem dX2_cutOf_45 : decode cX2_cutOf 45 = .ok (.iload_n 3, 1) := by decide +kernel
theorem dX2_cutOf_46 : decode cX2_cutOf 46 = .ok (.aload_n 0, 1) := by decide +kernel
theorem dX2_cutOf_47 : decode cX2_cutOf 47 = .ok (.getfield 12, 3) := by decide +kernel
theorem dX2_cutOf_50 : decode cX2_cutOf 50 = .ok (.getfield 68, 3) := by decide +kernel
theorem dX2_cutOf_53 : decode cX2_cutOf 53 = .ok (.iload_n 2, 1) := by decide +kernel
theorem dX2_cutOf_54 : decode cX2_cutOf 54 = .ok (.iaload, 1) := by decide +kernel
theorem dX2_cutOf_55 : decode cX2_cutOf 55 = .ok (.invokestatic 71, 3) := by decide +kernel
theorem dX2_cutOf_58 : decode cX2_cutOf 58 = .ok (.ireturn, 1) := by decide +kernel
theorem dX2_weighedScore_0 : decode cX2_weighedScore 0 = .ok (.iconst 0, 1) := by decide +kernel
theorem dX2_weighedScore_1 : decode cX2_weighedScore 1 = .ok (.istore_n 1, 1) := by decide +kernel
theorem dX2_weighedScore_2 : decode cX2_weighedScore 2 = .ok (.iconst 0, 1) := by decide +kernel
theorem dX2_weighedScore_3 : decode cX2_weighedScore 3 = .ok (.istore_n 2, 1) := by decide +kernel
theorem dX2_weighedScore_4 : decode cX2_weighedScore 4 = .ok (.iload_n 2, 1) := by decide +kernel
theorem dX2_weighedScore_5 : decode cX2_weighedScore 5 = .ok (.aload_n 0, 1) := by decide +kernel
theorem dX2_weighedScore_6 : decode cX2_weighedScore 6 = .ok (.getfield 12, 3) := by decide +kernel
theorem dX2_weighedScore_9 : decode cX2_weighedScore 9 = .ok (.getfield 50, 3) := by decide +kernel
theorem dX2_weighedScore_12 : decode cX2_weighedScore 12 = .ok (.if_icmp .ge 49, 3) := by decide +kernel
theorem dX2_weighedScore_15 : decode cX2_weighedScore 15 = .ok (.aload_n 0, 1) := by decide +kernel
theorem dX2_weighedScore_16 : decode cX2_weighedScore 16 = .ok (.getfield 22, 3) := by decide +kernel
theorem dX2_weighedScore_19 : decode cX2_weighedScore 19 = .ok (.iload_n 2, 1) := by decide +kernel
theorem dX2_weighedScore_20 : decode cX2_weighedScore 20 = .ok (.iaload, 1) := by decide +kernel
theorem dX2_weighedScore_21 : decode cX2_weighedScore 21 = .ok (.ifCond .eq 34, 3) := by decide +kernel
theorem dX2_weighedScore_24 : decode cX2_weighedScore 24 = .ok (.aload_n 0, 1) := by decide +kernel
theorem dX2_weighedScore_25 : decode cX2_weighedScore 25 = .ok (.getfield 12, 3) := by decide +kernel
theorem dX2_weighedScore_28 : decode cX2_weighedScore 28 = .ok (.getfield 68, 3) := by decide +kernel
theorem dX2_weighedScore_31 : decode cX2_weighedScore 31 = .ok (.iload_n 2, 1) := by decide +kernel
theorem dX2_weighedScore_32 : decode cX2_weighedScore 32 = .ok (.iaload, 1) := by decide +kernel
