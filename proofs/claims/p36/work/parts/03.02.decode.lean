theorem dX2_prepare_28 : decode cX2_prepare 28 = .ok (.aload_n 0, 1) := by decide +kernel
theorem dX2_prepare_29 : decode cX2_prepare 29 = .ok (.aload_n 1, 1) := by decide +kernel
theorem dX2_prepare_30 : decode cX2_prepare 30 = .ok (.getfield 53, 3) := by decide +kernel
theorem dX2_prepare_33 : decode cX2_prepare 33 = .ok (.iload 4, 2) := by decide +kernel
theorem dX2_prepare_35 : decode cX2_prepare 35 = .ok (.iaload, 1) := by decide +kernel
theorem dX2_prepare_36 : decode cX2_prepare 36 = .ok (.iload_n 3, 1) := by decide +kernel
theorem dX2_prepare_37 : decode cX2_prepare 37 = .ok (.invokevirtual 56, 3) := by decide +kernel
theorem dX2_prepare_40 : decode cX2_prepare 40 = .ok (.iastore, 1) := by decide +kernel
theorem dX2_prepare_41 : decode cX2_prepare 41 = .ok (.iinc 4 1, 3) := by decide +kernel
theorem dX2_prepare_44 : decode cX2_prepare 44 = .ok (.goto (-31), 3) := by decide +kernel
theorem dX2_prepare_47 : decode cX2_prepare 47 = .ok (.aload_n 0, 1) := by decide +kernel
theorem dX2_prepare_48 : decode cX2_prepare 48 = .ok (.aload_n 0, 1) := by decide +kernel
theorem dX2_prepare_49 : decode cX2_prepare 49 = .ok (.getfield 26, 3) := by decide +kernel
theorem dX2_prepare_52 : decode cX2_prepare 52 = .ok (.iconst 0, 1) := by decide +kernel
theorem dX2_prepare_53 : decode cX2_prepare 53 = .ok (.invokevirtual 60, 3) := by decide +kernel
theorem dX2_prepare_56 : decode cX2_prepare 56 = .ok (.iconst 0, 1) := by decide +kernel
theorem dX2_prepare_57 : decode cX2_prepare 57 = .ok (.istore 4, 2) := by decide +kernel
theorem dX2_prepare_59 : decode cX2_prepare 59 = .ok (.iload 4, 2) := by decide +kernel
theorem dX2_prepare_61 : decode cX2_prepare 61 = .ok (.aload_n 1, 1) := by decide +kernel
theorem dX2_prepare_62 : decode cX2_prepare 62 = .ok (.getfield 50, 3) := by decide +kernel
theorem dX2_prepare_65 : decode cX2_prepare 65 = .ok (.if_icmp .ge 22, 3) := by decide +kernel
theorem dX2_prepare_68 : decode cX2_prepare 68 = .ok (.aload_n 0, 1) := by decide +kernel
theorem dX2_prepare_69 : decode cX2_prepare 69 = .ok (.getfield 29, 3) := by decide +kernel
theorem dX2_prepare_72 : decode cX2_prepare 72 = .ok (.iload 4, 2) := by decide +kernel
theorem dX2_prepare_74 : decode cX2_prepare 74 = .ok (.aload_n 0, 1) := by decide +kernel
theorem dX2_prepare_75 : decode cX2_prepare 75 = .ok (.iload 4, 2) := by decide +kernel
theorem dX2_prepare_77 : decode cX2_prepare 77 = .ok (.invokevirtual 64, 3) := by decide +kernel
theorem dX2_prepare_80 : decode cX2_prepare 80 = .ok (.iastore, 1) := by decide +kernel
theorem dX2_prepare_81 : decode cX2_prepare 81 = .ok (.iinc 4 1, 3) := by decide +kernel
theorem dX2_prepare_84 : decode cX2_prepare 84 = .ok (.goto (-25), 3) := by decide +kernel
theorem dX2_prepare_87 : decode cX2_prepare 87 = .ok (.return_, 1) := by decide +kernel
theorem dX2_firstWorth_0 : decode cX2_firstWorth 0 = .ok (.iconst 0, 1) := by decide +kernel
theorem dX2_firstWorth_1 : decode cX2_firstWorth 1 = .ok (.istore_n 2, 1) := by decide +kernel
theorem dX2_firstWorth_2 : decode cX2_firstWorth 2 = .ok (.iconst 0, 1) := by decide +kernel
theorem dX2_firstWorth_3 : decode cX2_firstWorth 3 = .ok (.istore_n 3, 1) := by decide +kernel
theorem dX2_firstWorth_4 : decode cX2_firstWorth 4 = .ok (.iload_n 3, 1) := by decide +kernel
theorem dX2_firstWorth_5 : decode cX2_firstWorth 5 = .ok (.aload_n 0, 1) := by decide +kernel
theorem dX2_firstWorth_6 : decode cX2_firstWorth 6 = .ok (.getfield 12, 3) := by decide +kernel
theorem dX2_firstWorth_9 : decode cX2_firstWorth 9 = .ok (.getfield 50, 3) := by decide +kernel
theorem dX2_firstWorth_12 : decode cX2_firstWorth 12 = .ok (.if_icmp .ge 42, 3) := by decide +kernel
theorem dX2_firstWorth_15 : decode cX2_firstWorth 15 = .ok (.iload_n 2, 1) := by decide +kernel
theorem dX2_firstWorth_16 : decode cX2_firstWorth 16 = .ok (.aload_n 0, 1) := by decide +kernel
theorem dX2_firstWorth_17 : decode cX2_firstWorth 17 = .ok (.getfield 22, 3) := by decide +kernel
theorem dX2_firstWorth_20 : decode cX2_firstWorth 20 = .ok (.iload_n 3, 1) := by decide +kernel
theorem dX2_firstWorth_21 : decode cX2_firstWorth 21 = .ok (.iaload, 1) := by decide +kernel
theorem dX2_firstWorth_22 : decode cX2_firstWorth 22 = .ok (.aload_n 0, 1) := by decide +kernel
theorem dX2_firstWorth_23 : decode cX2_firstWorth 23 = .ok (.getfield 26, 3) := by decide +kernel
theorem dX2_firstWorth_26 : decode cX2_firstWorth 26 = .ok (.iload_n 1, 1) := by decide +kernel
theorem dX2_firstWorth_27 : decode cX2_firstWorth 27 = .ok (.bipush 16, 2) := by decide +kernel
theorem dX2_firstWorth_29 : decode cX2_firstWorth 29 = .ok (.imul, 1) := by decide +kernel
theorem dX2_firstWorth_30 : decode cX2_firstWorth 30 = .ok (.iload_n 3, 1) := by decide +kernel
theorem dX2_firstWorth_31 : decode cX2_firstWorth 31 = .ok (.iadd, 1) := by decide +kernel
theorem dX2_firstWorth_32 : decode cX2_firstWorth 32 = .ok (.iaload, 1) := by decide +kernel
theorem dX2_firstWorth_33 : decode cX2_firstWorth 33 = .ok (.aload_n 0, 1) := by decide +kernel
theorem dX2_firstWorth_34 : decode cX2_firstWorth 34 = .ok (.getfield 12, 3) := by decide +kernel
theorem dX2_firstWorth_37 : decode cX2_firstWorth 37 = .ok (.getfield 68, 3) := by decide +kernel
theorem dX2_firstWorth_40 : decode cX2_firstWorth 40 = .ok (.iload_n 3, 1) := by decide +kernel
theorem dX2_firstWorth_41 : decode cX2_firstWorth 41 = .ok (.iaload, 1) := by decide +kernel
theorem dX2_firstWorth_42 : decode cX2_firstWorth 42 = .ok (.invokestatic 71, 3) := by decide +kernel
theorem dX2_firstWorth_45 : decode cX2_firstWorth 45 = .ok (.imul, 1) := by decide +kernel
theorem dX2_firstWorth_46 : decode cX2_firstWorth 46 = .ok (.iadd, 1) := by decide +kernel
theorem dX2_firstWorth_47 : decode cX2_firstWorth 47 = .ok (.istore_n 2, 1) := by decide +kernel
theorem dX2_firstWorth_48 : decode cX2_firstWorth 48 = .ok (.iinc 3 1, 3) := by decide +kernel
theorem dX2_firstWorth_51 : decode cX2_firstWorth 51 = .ok (.goto (-47), 3) := by decide +kernel
theorem dX2_firstWorth_54 : decode cX2_firstWorth 54 = .ok (.iload_n 2, 1) := by decide +kernel
theorem dX2_firstWorth_55 : decode cX2_firstWorth 55 = .ok (.ireturn, 1) := by decide +kernel
theorem dX2_weightOf_0 : decode cX2_weightOf 0 = .ok (.aload_n 0, 1) := by decide +kernel
theorem dX2_weightOf_1 : decode cX2_weightOf 1 = .ok (.getfield 18, 3) := by decide +kernel
theorem dX2_weightOf_4 : decode cX2_weightOf 4 = .ok (.iconst 1, 1) := by decide +kernel
theorem dX2_weightOf_5 : decode cX2_weightOf 5 = .ok (.if_icmp .ne 22, 3) := by decide +kernel
theorem dX2_weightOf_8 : decode cX2_weightOf 8 = .ok (.iload_n 1, 1) := by decide +kernel
theorem dX2_weightOf_9 : decode cX2_weightOf 9 = .ok (.iload_n 2, 1) := by decide +kernel
theorem dX2_weightOf_10 : decode cX2_weightOf 10 = .ok (.if_icmp .ne 7, 3) := by decide +kernel
theorem dX2_weightOf_13 : decode cX2_weightOf 13 = .ok (.iconst 0, 1) := by decide +kernel
theorem dX2_weightOf_14 : decode cX2_weightOf 14 = .ok (.goto 12, 3) := by decide +kernel
theorem dX2_weightOf_17 : decode cX2_weightOf 17 = .ok (.aload_n 0, 1) := by decide +kernel
theorem dX2_weightOf_18 : decode cX2_weightOf 18 = .ok (.getfield 12, 3) := by decide +kernel
theorem dX2_weightOf_21 : decode cX2_weightOf 21 = .ok (.getfield 76, 3) := by decide +kernel
theorem dX2_weightOf_24 : decode cX2_weightOf 24 = .ok (.iload_n 1, 1) := by decide +kernel
theorem dX2_weightOf_25 : decode cX2_weightOf 25 = .ok (.iaload, 1) := by decide +kernel
theorem dX2_weightOf_26 : decode cX2_weightOf 26 = .ok (.ireturn, 1) := by decide +kernel
theorem dX2_weightOf_27 : decode cX2_weightOf 27 = .ok (.aload_n 0, 1) := by decide +kernel
theorem dX2_weightOf_28 : decode cX2_weightOf 28 = .ok (.getfield 18, 3) := by decide +kernel
theorem dX2_weightOf_31 : decode cX2_weightOf 31 = .ok (.iconst 3, 1) := by decide +kernel
theorem dX2_weightOf_32 : decode cX2_weightOf 32 = .ok (.if_icmp .ne 8, 3) := by decide +kernel
theorem dX2_weightOf_35 : decode cX2_weightOf 35 = .ok (.iload_n 1, 1) := by decide +kernel
theorem dX2_weightOf_36 : decode cX2_weightOf 36 = .ok (.iload_n 2, 1) := by decide +kernel
theorem dX2_weightOf_37 : decode cX2_weightOf 37 = .ok (.if_icmp .ne 7, 3) := by decide +kernel
theorem dX2_weightOf_40 : decode cX2_weightOf 40 = .ok (.iconst 1, 1) := by decide +kernel
theorem dX2_weightOf_41 : decode cX2_weightOf 41 = .ok (.goto 4, 3) := by decide +kernel
theorem dX2_weightOf_44 : decode cX2_weightOf 44 = .ok (.iconst 0, 1) := by decide +kernel
theorem dX2_weightOf_45 : decode cX2_weightOf 45 = .ok (.ireturn, 1) := by decide +kernel
theorem dX2_fillCaps_0 : decode cX2_fillCaps 0 = .ok (.iconst 0, 1) := by decide +kernel
theorem dX2_fillCaps_1 : decode cX2_fillCaps 1 = .ok (.istore_n 3, 1) := by decide +kernel
theorem dX2_fillCaps_2 : decode cX2_fillCaps 2 = .ok (.iload_n 3, 1) := by decide +kernel
theorem dX2_fillCaps_3 : decode cX2_fillCaps 3 = .ok (.aload_n 0, 1) := by decide +kernel
theorem dX2_fillCaps_4 : decode cX2_fillCaps 4 = .ok (.getfield 12, 3) := by decide +kernel
theorem dX2_fillCaps_7 : decode cX2_fillCaps 7 = .ok (.getfield 50, 3) := by decide +kernel
theorem dX2_fillCaps_10 : decode cX2_fillCaps 10 = .ok (.if_icmp .ge 72, 3) := by decide +kernel
theorem dX2_fillCaps_13 : decode cX2_fillCaps 13 = .ok (.iconst 0, 1) := by decide +kernel
theorem dX2_fillCaps_14 : decode cX2_fillCaps 14 = .ok (.istore 4, 2) := by decide +kernel
theorem dX2_fillCaps_16 : decode cX2_fillCaps 16 = .ok (.iload 4, 2) := by decide +kernel
theorem dX2_fillCaps_18 : decode cX2_fillCaps 18 = .ok (.aload_n 0, 1) := by decide +kernel
theorem dX2_fillCaps_19 : decode cX2_fillCaps 19 = .ok (.getfield 12, 3) := by decide +kernel
theorem dX2_fillCaps_22 : decode cX2_fillCaps 22 = .ok (.getfield 50, 3) := by decide +kernel
theorem dX2_fillCaps_25 : decode cX2_fillCaps 25 = .ok (.if_icmp .ge 51, 3) := by decide +kernel
theorem dX2_fillCaps_28 : decode cX2_fillCaps 28 = .ok (.iconst 0, 1) := by decide +kernel
theorem dX2_fillCaps_29 : decode cX2_fillCaps 29 = .ok (.aload_n 0, 1) := by decide +kernel
theorem dX2_fillCaps_30 : decode cX2_fillCaps 30 = .ok (.getfield 12, 3) := by decide +kernel
theorem dX2_fillCaps_33 : decode cX2_fillCaps 33 = .ok (.getfield 79, 3) := by decide +kernel
theorem dX2_fillCaps_36 : decode cX2_fillCaps 36 = .ok (.iload 4, 2) := by decide +kernel
theorem dX2_fillCaps_38 : decode cX2_fillCaps 38 = .ok (.iaload, 1) := by decide +kernel
theorem dX2_fillCaps_39 : decode cX2_fillCaps 39 = .ok (.iload_n 2, 1) := by decide +kernel
theorem dX2_fillCaps_40 : decode cX2_fillCaps 40 = .ok (.iadd, 1) := by decide +kernel
theorem dX2_fillCaps_41 : decode cX2_fillCaps 41 = .ok (.invokestatic 82, 3) := by decide +kernel
theorem dX2_fillCaps_44 : decode cX2_fillCaps 44 = .ok (.istore 5, 2) := by decide +kernel
theorem dX2_fillCaps_46 : decode cX2_fillCaps 46 = .ok (.aload_n 1, 1) := by decide +kernel
theorem dX2_fillCaps_47 : decode cX2_fillCaps 47 = .ok (.iload_n 3, 1) := by decide +kernel
theorem dX2_fillCaps_48 : decode cX2_fillCaps 48 = .ok (.bipush 16, 2) := by decide +kernel
theorem dX2_fillCaps_50 : decode cX2_fillCaps 50 = .ok (.imul, 1) := by decide +kernel
theorem dX2_fillCaps_51 : decode cX2_fillCaps 51 = .ok (.iload 4, 2) := by decide +kernel
theorem dX2_fillCaps_53 : decode cX2_fillCaps 53 = .ok (.iadd, 1) := by decide +kernel
theorem dX2_fillCaps_54 : decode cX2_fillCaps 54 = .ok (.iload 5, 2) := by decide +kernel
theorem dX2_fillCaps_56 : decode cX2_fillCaps 56 = .ok (.aload_n 0, 1) := by decide +kernel
theorem dX2_fillCaps_57 : decode cX2_fillCaps 57 = .ok (.getfield 12, 3) := by decide +kernel
theorem dX2_fillCaps_60 : decode cX2_fillCaps 60 = .ok (.iload_n 3, 1) := by decide +kernel
theorem dX2_fillCaps_61 : decode cX2_fillCaps 61 = .ok (.iload 4, 2) := by decide +kernel
theorem dX2_fillCaps_63 : decode cX2_fillCaps 63 = .ok (.invokevirtual 85, 3) := by decide +kernel
theorem dX2_fillCaps_66 : decode cX2_fillCaps 66 = .ok (.invokestatic 71, 3) := by decide +kernel
theorem dX2_fillCaps_69 : decode cX2_fillCaps 69 = .ok (.iastore, 1) := by decide +kernel
theorem dX2_fillCaps_70 : decode cX2_fillCaps 70 = .ok (.iinc 4 1, 3) := by decide +kernel
theorem dX2_fillCaps_73 : decode cX2_fillCaps 73 = .ok (.goto (-57), 3) := by decide +kernel
theorem dX2_fillCaps_76 : decode cX2_fillCaps 76 = .ok (.iinc 3 1, 3) := by decide +kernel
theorem dX2_fillCaps_79 : decode cX2_fillCaps 79 = .ok (.goto (-77), 3) := by decide +kernel
theorem dX2_fillCaps_82 : decode cX2_fillCaps 82 = .ok (.return_, 1) := by decide +kernel
theorem dX2_seekBest_0 : decode cX2_seekBest 0 = .ok (.aload_n 0, 1) := by decide +kernel
theorem dX2_seekBest_1 : decode cX2_seekBest 1 = .ok (.iload_n 3, 1) := by decide +kernel
theorem dX2_seekBest_2 : decode cX2_seekBest 2 = .ok (.putfield 44, 3) := by decide +kernel
theorem dX2_seekBest_5 : decode cX2_seekBest 5 = .ok (.aload_n 1, 1) := by decide +kernel
theorem dX2_seekBest_6 : decode cX2_seekBest 6 = .ok (.iload_n 2, 1) := by decide +kernel
theorem dX2_seekBest_7 : decode cX2_seekBest 7 = .ok (.invokevirtual 88, 3) := by decide +kernel
theorem dX2_seekBest_10 : decode cX2_seekBest 10 = .ok (.istore 4, 2) := by decide +kernel
theorem dX2_seekBest_12 : decode cX2_seekBest 12 = .ok (.aload_n 1, 1) := by decide +kernel
theorem dX2_seekBest_13 : decode cX2_seekBest 13 = .ok (.iload_n 2, 1) := by decide +kernel
theorem dX2_seekBest_14 : decode cX2_seekBest 14 = .ok (.invokevirtual 93, 3) := by decide +kernel
theorem dX2_seekBest_17 : decode cX2_seekBest 17 = .ok (.istore 5, 2) := by decide +kernel
theorem dX2_seekBest_19 : decode cX2_seekBest 19 = .ok (.iload 5, 2) := by decide +kernel
theorem dX2_seekBest_21 : decode cX2_seekBest 21 = .ok (.iload 4, 2) := by decide +kernel
theorem dX2_seekBest_23 : decode cX2_seekBest 23 = .ok (.if_icmp .ge 94, 3) := by decide +kernel
theorem dX2_seekBest_26 : decode cX2_seekBest 26 = .ok (.aload_n 1, 1) := by decide +kernel
theorem dX2_seekBest_27 : decode cX2_seekBest 27 = .ok (.getfield 96, 3) := by decide +kernel
theorem dX2_seekBest_30 : decode cX2_seekBest 30 = .ok (.iload 5, 2) := by decide +kernel
theorem dX2_seekBest_32 : decode cX2_seekBest 32 = .ok (.baload, 1) := by decide +kernel
theorem dX2_seekBest_33 : decode cX2_seekBest 33 = .ok (.ifCond .eq 6, 3) := by decide +kernel
theorem dX2_seekBest_36 : decode cX2_seekBest 36 = .ok (.goto 75, 3) := by decide +kernel
theorem dX2_seekBest_39 : decode cX2_seekBest 39 = .ok (.aload_n 0, 1) := by decide +kernel
theorem dX2_seekBest_40 : decode cX2_seekBest 40 = .ok (.aload_n 1, 1) := by decide +kernel
theorem dX2_seekBest_41 : decode cX2_seekBest 41 = .ok (.getfield 100, 3) := by decide +kernel
theorem dX2_seekBest_44 : decode cX2_seekBest 44 = .ok (.iload 5, 2) := by decide +kernel
theorem dX2_seekBest_46 : decode cX2_seekBest 46 = .ok (.laload, 1) := by decide +kernel
theorem dX2_seekBest_47 : decode cX2_seekBest 47 = .ok (.invokevirtual 104, 3) := by decide +kernel
theorem dX2_seekBest_50 : decode cX2_seekBest 50 = .ok (.aload_n 0, 1) := by decide +kernel
theorem dX2_seekBest_51 : decode cX2_seekBest 51 = .ok (.getfield 18, 3) := by decide +kernel
theorem dX2_seekBest_54 : decode cX2_seekBest 54 = .ok (.iconst 2, 1) := by decide +kernel
theorem dX2_seekBest_55 : decode cX2_seekBest 55 = .ok (.if_icmp .eq 14, 3) := by decide +kernel
theorem dX2_seekBest_58 : decode cX2_seekBest 58 = .ok (.aload_n 0, 1) := by decide +kernel
theorem dX2_seekBest_59 : decode cX2_seekBest 59 = .ok (.invokevirtual 108, 3) := by decide +kernel
theorem dX2_seekBest_62 : decode cX2_seekBest 62 = .ok (.aload_n 0, 1) := by decide +kernel
theorem dX2_seekBest_63 : decode cX2_seekBest 63 = .ok (.getfield 44, 3) := by decide +kernel
theorem dX2_seekBest_66 : decode cX2_seekBest 66 = .ok (.if_icmp .le 45, 3) := by decide +kernel
theorem dX2_seekBest_69 : decode cX2_seekBest 69 = .ok (.aload_n 0, 1) := by decide +kernel
theorem dX2_seekBest_70 : decode cX2_seekBest 70 = .ok (.getfield 18, 3) := by decide +kernel
theorem dX2_seekBest_73 : decode cX2_seekBest 73 = .ok (.iconst 2, 1) := by decide +kernel
theorem dX2_seekBest_74 : decode cX2_seekBest 74 = .ok (.if_icmp .ne 10, 3) := by decide +kernel
theorem dX2_seekBest_77 : decode cX2_seekBest 77 = .ok (.aload_n 0, 1) := by decide +kernel
theorem dX2_seekBest_78 : decode cX2_seekBest 78 = .ok (.invokevirtual 112, 3) := by decide +kernel
theorem dX2_seekBest_81 : decode cX2_seekBest 81 = .ok (.goto 7, 3) := by decide +kernel
theorem dX2_seekBest_84 : decode cX2_seekBest 84 = .ok (.aload_n 0, 1) := by decide +kernel
theorem dX2_seekBest_85 : decode cX2_seekBest 85 = .ok (.invokevirtual 115, 3) := by decide +kernel
theorem dX2_seekBest_88 : decode cX2_seekBest 88 = .ok (.istore 6, 2) := by decide +kernel
theorem dX2_seekBest_90 : decode cX2_seekBest 90 = .ok (.iload 6, 2) := by decide +kernel
theorem dX2_seekBest_92 : decode cX2_seekBest 92 = .ok (.aload_n 0, 1) := by decide +kernel
theorem dX2_seekBest_93 : decode cX2_seekBest 93 = .ok (.getfield 44, 3) := by decide +kernel
theorem dX2_seekBest_96 : decode cX2_seekBest 96 = .ok (.if_icmp .le 15, 3) := by decide +kernel
theorem dX2_seekBest_99 : decode cX2_seekBest 99 = .ok (.aload_n 0, 1) := by decide +kernel
theorem dX2_seekBest_100 : decode cX2_seekBest 100 = .ok (.iload 6, 2) := by decide +kernel
theorem dX2_seekBest_102 : decode cX2_seekBest 102 = .ok (.putfield 44, 3) := by decide +kernel
theorem dX2_seekBest_105 : decode cX2_seekBest 105 = .ok (.aload_n 0, 1) := by decide +kernel
theorem dX2_seekBest_106 : decode cX2_seekBest 106 = .ok (.iload 5, 2) := by decide +kernel
theorem dX2_seekBest_108 : decode cX2_seekBest 108 = .ok (.putfield 47, 3) := by decide +kernel
theorem dX2_seekBest_111 : decode cX2_seekBest 111 = .ok (.iinc 5 1, 3) := by decide +kernel
theorem dX2_seekBest_114 : decode cX2_seekBest 114 = .ok (.goto (-95), 3) := by decide +kernel
theorem dX2_seekBest_117 : decode cX2_seekBest 117 = .ok (.return_, 1) := by decide +kernel
theorem dX2_couldBeWorth_0 : decode cX2_couldBeWorth 0 = .ok (.iconst 0, 1) := by decide +kernel
theorem dX2_couldBeWorth_1 : decode cX2_couldBeWorth 1 = .ok (.istore_n 1, 1) := by decide +kernel
theorem dX2_couldBeWorth_2 : decode cX2_couldBeWorth 2 = .ok (.iconst 0, 1) := by decide +kernel
theorem dX2_couldBeWorth_3 : decode cX2_couldBeWorth 3 = .ok (.istore_n 2, 1) := by decide +kernel
theorem dX2_couldBeWorth_4 : decode cX2_couldBeWorth 4 = .ok (.iload_n 2, 1) := by decide +kernel
theorem dX2_couldBeWorth_5 : decode cX2_couldBeWorth 5 = .ok (.aload_n 0, 1) := by decide +kernel
theorem dX2_couldBeWorth_6 : decode cX2_couldBeWorth 6 = .ok (.getfield 41, 3) := by decide +kernel
