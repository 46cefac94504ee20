theorem dX9_told_108 : decode cX9_told 108 = .ok (.getfield 245, 3) := by decide +kernel
theorem dX9_told_111 : decode cX9_told 111 = .ok (.if_icmp .ge 16, 3) := by decide +kernel
theorem dX9_told_114 : decode cX9_told 114 = .ok (.aload_n 0, 1) := by decide +kernel
theorem dX9_told_115 : decode cX9_told 115 = .ok (.getfield 39, 3) := by decide +kernel
theorem dX9_told_118 : decode cX9_told 118 = .ok (.iload 4, 2) := by decide +kernel
theorem dX9_told_120 : decode cX9_told 120 = .ok (.bipush 10, 2) := by decide +kernel
theorem dX9_told_122 : decode cX9_told 122 = .ok (.isub, 1) := by decide +kernel
theorem dX9_told_123 : decode cX9_told 123 = .ok (.iaload, 1) := by decide +kernel
theorem dX9_told_124 : decode cX9_told 124 = .ok (.goto 4, 3) := by decide +kernel
theorem dX9_told_127 : decode cX9_told 127 = .ok (.iconst (-1), 1) := by decide +kernel
theorem dX9_told_128 : decode cX9_told 128 = .ok (.ireturn, 1) := by decide +kernel
theorem dX9_most_0 : decode cX9_most 0 = .ok (.aload_n 0, 1) := by decide +kernel
theorem dX9_most_1 : decode cX9_most 1 = .ok (.iconst 0, 1) := by decide +kernel
theorem dX9_most_2 : decode cX9_most 2 = .ok (.putfield 1, 3) := by decide +kernel
theorem dX9_most_5 : decode cX9_most 5 = .ok (.aload_n 0, 1) := by decide +kernel
theorem dX9_most_6 : decode cX9_most 6 = .ok (.iconst 0, 1) := by decide +kernel
theorem dX9_most_7 : decode cX9_most 7 = .ok (.iconst 0, 1) := by decide +kernel
theorem dX9_most_8 : decode cX9_most 8 = .ok (.iload_n 1, 1) := by decide +kernel
theorem dX9_most_9 : decode cX9_most 9 = .ok (.iload_n 2, 1) := by decide +kernel
theorem dX9_most_10 : decode cX9_most 10 = .ok (.iconst 1, 1) := by decide +kernel
theorem dX9_most_11 : decode cX9_most 11 = .ok (.invokevirtual 272, 3) := by decide +kernel
theorem dX9_most_14 : decode cX9_most 14 = .ok (.ireturn, 1) := by decide +kernel
theorem dX9_dearest_0 : decode cX9_dearest 0 = .ok (.aload_n 0, 1) := by decide +kernel
theorem dX9_dearest_1 : decode cX9_dearest 1 = .ok (.iconst 0, 1) := by decide +kernel
theorem dX9_dearest_2 : decode cX9_dearest 2 = .ok (.putfield 1, 3) := by decide +kernel
theorem dX9_dearest_5 : decode cX9_dearest 5 = .ok (.aload_n 0, 1) := by decide +kernel
theorem dX9_dearest_6 : decode cX9_dearest 6 = .ok (.iconst 1, 1) := by decide +kernel
theorem dX9_dearest_7 : decode cX9_dearest 7 = .ok (.iconst 0, 1) := by decide +kernel
theorem dX9_dearest_8 : decode cX9_dearest 8 = .ok (.iload_n 1, 1) := by decide +kernel
theorem dX9_dearest_9 : decode cX9_dearest 9 = .ok (.iload_n 2, 1) := by decide +kernel
theorem dX9_dearest_10 : decode cX9_dearest 10 = .ok (.iconst 0, 1) := by decide +kernel
theorem dX9_dearest_11 : decode cX9_dearest 11 = .ok (.invokevirtual 272, 3) := by decide +kernel
theorem dX9_dearest_14 : decode cX9_dearest 14 = .ok (.ireturn, 1) := by decide +kernel
theorem dX9_fairest_0 : decode cX9_fairest 0 = .ok (.aload_n 0, 1) := by decide +kernel
theorem dX9_fairest_1 : decode cX9_fairest 1 = .ok (.iconst 0, 1) := by decide +kernel
theorem dX9_fairest_2 : decode cX9_fairest 2 = .ok (.putfield 1, 3) := by decide +kernel
theorem dX9_fairest_5 : decode cX9_fairest 5 = .ok (.aload_n 0, 1) := by decide +kernel
theorem dX9_fairest_6 : decode cX9_fairest 6 = .ok (.iconst 2, 1) := by decide +kernel
theorem dX9_fairest_7 : decode cX9_fairest 7 = .ok (.iconst 0, 1) := by decide +kernel
theorem dX9_fairest_8 : decode cX9_fairest 8 = .ok (.iload_n 1, 1) := by decide +kernel
theorem dX9_fairest_9 : decode cX9_fairest 9 = .ok (.iload_n 2, 1) := by decide +kernel
theorem dX9_fairest_10 : decode cX9_fairest 10 = .ok (.iconst 1, 1) := by decide +kernel
theorem dX9_fairest_11 : decode cX9_fairest 11 = .ok (.invokevirtual 272, 3) := by decide +kernel
theorem dX9_fairest_14 : decode cX9_fairest 14 = .ok (.ireturn, 1) := by decide +kernel
theorem dX9_alone_0 : decode cX9_alone 0 = .ok (.aload_n 0, 1) := by decide +kernel
theorem dX9_alone_1 : decode cX9_alone 1 = .ok (.iconst 0, 1) := by decide +kernel
theorem dX9_alone_2 : decode cX9_alone 2 = .ok (.putfield 1, 3) := by decide +kernel
theorem dX9_alone_5 : decode cX9_alone 5 = .ok (.iload_n 1, 1) := by decide +kernel
theorem dX9_alone_6 : decode cX9_alone 6 = .ok (.i2l, 1) := by decide +kernel
theorem dX9_alone_7 : decode cX9_alone 7 = .ok (.lconst 0, 1) := by decide +kernel
theorem dX9_alone_8 : decode cX9_alone 8 = .ok (.ldc2_w 175, 3) := by decide +kernel
theorem dX9_alone_11 : decode cX9_alone 11 = .ok (.invokestatic 128, 3) := by decide +kernel
theorem dX9_alone_14 : decode cX9_alone 14 = .ok (.ifCond .eq 15, 3) := by decide +kernel
theorem dX9_alone_17 : decode cX9_alone 17 = .ok (.aload_n 0, 1) := by decide +kernel
theorem dX9_alone_18 : decode cX9_alone 18 = .ok (.iconst 3, 1) := by decide +kernel
theorem dX9_alone_19 : decode cX9_alone 19 = .ok (.iload_n 1, 1) := by decide +kernel
theorem dX9_alone_20 : decode cX9_alone 20 = .ok (.iload_n 2, 1) := by decide +kernel
theorem dX9_alone_21 : decode cX9_alone 21 = .ok (.iload_n 3, 1) := by decide +kernel
theorem dX9_alone_22 : decode cX9_alone 22 = .ok (.iconst 0, 1) := by decide +kernel
theorem dX9_alone_23 : decode cX9_alone 23 = .ok (.invokevirtual 272, 3) := by decide +kernel
theorem dX9_alone_26 : decode cX9_alone 26 = .ok (.goto 5, 3) := by decide +kernel
theorem dX9_alone_29 : decode cX9_alone 29 = .ok (.bipush (-2), 2) := by decide +kernel
theorem dX9_alone_31 : decode cX9_alone 31 = .ok (.ireturn, 1) := by decide +kernel
theorem dX9_pays_0 : decode cX9_pays 0 = .ok (.aload_n 0, 1) := by decide +kernel
theorem dX9_pays_1 : decode cX9_pays 1 = .ok (.iconst 0, 1) := by decide +kernel
theorem dX9_pays_2 : decode cX9_pays 2 = .ok (.putfield 1, 3) := by decide +kernel
theorem dX9_pays_5 : decode cX9_pays 5 = .ok (.iload_n 1, 1) := by decide +kernel
theorem dX9_pays_6 : decode cX9_pays 6 = .ok (.i2l, 1) := by decide +kernel
theorem dX9_pays_7 : decode cX9_pays 7 = .ok (.lconst 0, 1) := by decide +kernel
theorem dX9_pays_8 : decode cX9_pays 8 = .ok (.ldc2_w 175, 3) := by decide +kernel
theorem dX9_pays_11 : decode cX9_pays 11 = .ok (.invokestatic 128, 3) := by decide +kernel
theorem dX9_pays_14 : decode cX9_pays 14 = .ok (.ifCond .ne 6, 3) := by decide +kernel
theorem dX9_pays_17 : decode cX9_pays 17 = .ok (.bipush (-2), 2) := by decide +kernel
theorem dX9_pays_19 : decode cX9_pays 19 = .ok (.ireturn, 1) := by decide +kernel
theorem dX9_pays_20 : decode cX9_pays 20 = .ok (.iload_n 2, 1) := by decide +kernel
theorem dX9_pays_21 : decode cX9_pays 21 = .ok (.i2l, 1) := by decide +kernel
theorem dX9_pays_22 : decode cX9_pays 22 = .ok (.lconst 1, 1) := by decide +kernel
theorem dX9_pays_23 : decode cX9_pays 23 = .ok (.ldc2_w 267, 3) := by decide +kernel
theorem dX9_pays_26 : decode cX9_pays 26 = .ok (.invokestatic 128, 3) := by decide +kernel
theorem dX9_pays_29 : decode cX9_pays 29 = .ok (.ifCond .ne 6, 3) := by decide +kernel
theorem dX9_pays_32 : decode cX9_pays 32 = .ok (.bipush (-3), 2) := by decide +kernel
theorem dX9_pays_34 : decode cX9_pays 34 = .ok (.ireturn, 1) := by decide +kernel
theorem dX9_pays_35 : decode cX9_pays 35 = .ok (.aload_n 0, 1) := by decide +kernel
theorem dX9_pays_36 : decode cX9_pays 36 = .ok (.getfield 13, 3) := by decide +kernel
theorem dX9_pays_39 : decode cX9_pays 39 = .ok (.iconst 0, 1) := by decide +kernel
theorem dX9_pays_40 : decode cX9_pays 40 = .ok (.iaload, 1) := by decide +kernel
theorem dX9_pays_41 : decode cX9_pays 41 = .ok (.ifCond .ne 6, 3) := by decide +kernel
theorem dX9_pays_44 : decode cX9_pays 44 = .ok (.bipush (-5), 2) := by decide +kernel
theorem dX9_pays_46 : decode cX9_pays 46 = .ok (.ireturn, 1) := by decide +kernel
theorem dX9_pays_47 : decode cX9_pays 47 = .ok (.aload_n 0, 1) := by decide +kernel
theorem dX9_pays_48 : decode cX9_pays 48 = .ok (.getfield 13, 3) := by decide +kernel
theorem dX9_pays_51 : decode cX9_pays 51 = .ok (.bipush 10, 2) := by decide +kernel
theorem dX9_pays_53 : decode cX9_pays 53 = .ok (.iload_n 1, 1) := by decide +kernel
theorem dX9_pays_54 : decode cX9_pays 54 = .ok (.iadd, 1) := by decide +kernel
theorem dX9_pays_55 : decode cX9_pays 55 = .ok (.iaload, 1) := by decide +kernel
theorem dX9_pays_56 : decode cX9_pays 56 = .ok (.istore_n 3, 1) := by decide +kernel
theorem dX9_pays_57 : decode cX9_pays 57 = .ok (.aload_n 0, 1) := by decide +kernel
theorem dX9_pays_58 : decode cX9_pays 58 = .ok (.iconst 1, 1) := by decide +kernel
theorem dX9_pays_59 : decode cX9_pays 59 = .ok (.iconst 0, 1) := by decide +kernel
theorem dX9_pays_60 : decode cX9_pays 60 = .ok (.iload_n 2, 1) := by decide +kernel
theorem dX9_pays_61 : decode cX9_pays 61 = .ok (.invokevirtual 269, 3) := by decide +kernel
theorem dX9_pays_64 : decode cX9_pays 64 = .ok (.iload_n 3, 1) := by decide +kernel
theorem dX9_pays_65 : decode cX9_pays 65 = .ok (.aload_n 0, 1) := by decide +kernel
theorem dX9_pays_66 : decode cX9_pays 66 = .ok (.getfield 42, 3) := by decide +kernel
theorem dX9_pays_69 : decode cX9_pays 69 = .ok (.iload_n 1, 1) := by decide +kernel
theorem dX9_pays_70 : decode cX9_pays 70 = .ok (.iaload, 1) := by decide +kernel
theorem dX9_pays_71 : decode cX9_pays 71 = .ok (.imul, 1) := by decide +kernel
theorem dX9_pays_72 : decode cX9_pays 72 = .ok (.isub, 1) := by decide +kernel
theorem dX9_pays_73 : decode cX9_pays 73 = .ok (.istore 4, 2) := by decide +kernel
theorem dX9_pays_75 : decode cX9_pays 75 = .ok (.aload_n 0, 1) := by decide +kernel
theorem dX9_pays_76 : decode cX9_pays 76 = .ok (.getfield 13, 3) := by decide +kernel
theorem dX9_pays_79 : decode cX9_pays 79 = .ok (.bipush 10, 2) := by decide +kernel
theorem dX9_pays_81 : decode cX9_pays 81 = .ok (.iload_n 1, 1) := by decide +kernel
theorem dX9_pays_82 : decode cX9_pays 82 = .ok (.iadd, 1) := by decide +kernel
theorem dX9_pays_83 : decode cX9_pays 83 = .ok (.iconst 0, 1) := by decide +kernel
theorem dX9_pays_84 : decode cX9_pays 84 = .ok (.iastore, 1) := by decide +kernel
theorem dX9_pays_85 : decode cX9_pays 85 = .ok (.aload_n 0, 1) := by decide +kernel
theorem dX9_pays_86 : decode cX9_pays 86 = .ok (.iconst 1, 1) := by decide +kernel
theorem dX9_pays_87 : decode cX9_pays 87 = .ok (.iconst 0, 1) := by decide +kernel
theorem dX9_pays_88 : decode cX9_pays 88 = .ok (.iload_n 2, 1) := by decide +kernel
theorem dX9_pays_89 : decode cX9_pays 89 = .ok (.invokevirtual 269, 3) := by decide +kernel
theorem dX9_pays_92 : decode cX9_pays 92 = .ok (.istore 5, 2) := by decide +kernel
theorem dX9_pays_94 : decode cX9_pays 94 = .ok (.aload_n 0, 1) := by decide +kernel
theorem dX9_pays_95 : decode cX9_pays 95 = .ok (.getfield 13, 3) := by decide +kernel
theorem dX9_pays_98 : decode cX9_pays 98 = .ok (.bipush 10, 2) := by decide +kernel
theorem dX9_pays_100 : decode cX9_pays 100 = .ok (.iload_n 1, 1) := by decide +kernel
theorem dX9_pays_101 : decode cX9_pays 101 = .ok (.iadd, 1) := by decide +kernel
theorem dX9_pays_102 : decode cX9_pays 102 = .ok (.iload_n 3, 1) := by decide +kernel
theorem dX9_pays_103 : decode cX9_pays 103 = .ok (.iastore, 1) := by decide +kernel
theorem dX9_pays_104 : decode cX9_pays 104 = .ok (.iload 5, 2) := by decide +kernel
theorem dX9_pays_106 : decode cX9_pays 106 = .ok (.iload 4, 2) := by decide +kernel
theorem dX9_pays_108 : decode cX9_pays 108 = .ok (.isub, 1) := by decide +kernel
theorem dX9_pays_109 : decode cX9_pays 109 = .ok (.ireturn, 1) := by decide +kernel
theorem dX9_shifted_0 : decode cX9_shifted 0 = .ok (.aload_n 0, 1) := by decide +kernel
theorem dX9_shifted_1 : decode cX9_shifted 1 = .ok (.iconst 0, 1) := by decide +kernel
theorem dX9_shifted_2 : decode cX9_shifted 2 = .ok (.putfield 1, 3) := by decide +kernel
theorem dX9_shifted_5 : decode cX9_shifted 5 = .ok (.iload_n 2, 1) := by decide +kernel
theorem dX9_shifted_6 : decode cX9_shifted 6 = .ok (.i2l, 1) := by decide +kernel
theorem dX9_shifted_7 : decode cX9_shifted 7 = .ok (.lconst 0, 1) := by decide +kernel
theorem dX9_shifted_8 : decode cX9_shifted 8 = .ok (.ldc2_w 196, 3) := by decide +kernel
theorem dX9_shifted_11 : decode cX9_shifted 11 = .ok (.invokestatic 128, 3) := by decide +kernel
theorem dX9_shifted_14 : decode cX9_shifted 14 = .ok (.ifCond .ne 6, 3) := by decide +kernel
theorem dX9_shifted_17 : decode cX9_shifted 17 = .ok (.bipush (-2), 2) := by decide +kernel
theorem dX9_shifted_19 : decode cX9_shifted 19 = .ok (.ireturn, 1) := by decide +kernel
theorem dX9_shifted_20 : decode cX9_shifted 20 = .ok (.iload_n 1, 1) := by decide +kernel
theorem dX9_shifted_21 : decode cX9_shifted 21 = .ok (.i2l, 1) := by decide +kernel
theorem dX9_shifted_22 : decode cX9_shifted 22 = .ok (.lconst 1, 1) := by decide +kernel
theorem dX9_shifted_23 : decode cX9_shifted 23 = .ok (.ldc2_w 175, 3) := by decide +kernel
theorem dX9_shifted_26 : decode cX9_shifted 26 = .ok (.invokestatic 128, 3) := by decide +kernel
theorem dX9_shifted_29 : decode cX9_shifted 29 = .ok (.ifCond .ne 6, 3) := by decide +kernel
theorem dX9_shifted_32 : decode cX9_shifted 32 = .ok (.bipush (-3), 2) := by decide +kernel
theorem dX9_shifted_34 : decode cX9_shifted 34 = .ok (.ireturn, 1) := by decide +kernel
theorem dX9_shifted_35 : decode cX9_shifted 35 = .ok (.aload_n 0, 1) := by decide +kernel
theorem dX9_shifted_36 : decode cX9_shifted 36 = .ok (.getfield 13, 3) := by decide +kernel
theorem dX9_shifted_39 : decode cX9_shifted 39 = .ok (.iconst 0, 1) := by decide +kernel
theorem dX9_shifted_40 : decode cX9_shifted 40 = .ok (.iaload, 1) := by decide +kernel
theorem dX9_shifted_41 : decode cX9_shifted 41 = .ok (.ifCond .ne 6, 3) := by decide +kernel
theorem dX9_shifted_44 : decode cX9_shifted 44 = .ok (.bipush (-5), 2) := by decide +kernel
theorem dX9_shifted_46 : decode cX9_shifted 46 = .ok (.ireturn, 1) := by decide +kernel
theorem dX9_shifted_47 : decode cX9_shifted 47 = .ok (.aload_n 0, 1) := by decide +kernel
theorem dX9_shifted_48 : decode cX9_shifted 48 = .ok (.iconst 0, 1) := by decide +kernel
theorem dX9_shifted_49 : decode cX9_shifted 49 = .ok (.iconst 0, 1) := by decide +kernel
theorem dX9_shifted_50 : decode cX9_shifted 50 = .ok (.iload_n 1, 1) := by decide +kernel
theorem dX9_shifted_51 : decode cX9_shifted 51 = .ok (.invokevirtual 269, 3) := by decide +kernel
theorem dX9_shifted_54 : decode cX9_shifted 54 = .ok (.istore_n 3, 1) := by decide +kernel
theorem dX9_shifted_55 : decode cX9_shifted 55 = .ok (.iconst 0, 1) := by decide +kernel
theorem dX9_shifted_56 : decode cX9_shifted 56 = .ok (.istore 4, 2) := by decide +kernel
theorem dX9_shifted_58 : decode cX9_shifted 58 = .ok (.iconst (-1), 1) := by decide +kernel
theorem dX9_shifted_59 : decode cX9_shifted 59 = .ok (.istore 5, 2) := by decide +kernel
theorem dX9_shifted_61 : decode cX9_shifted 61 = .ok (.iconst (-1), 1) := by decide +kernel
theorem dX9_shifted_62 : decode cX9_shifted 62 = .ok (.istore 6, 2) := by decide +kernel
theorem dX9_shifted_64 : decode cX9_shifted 64 = .ok (.iconst 0, 1) := by decide +kernel
theorem dX9_shifted_65 : decode cX9_shifted 65 = .ok (.istore 7, 2) := by decide +kernel
theorem dX9_shifted_67 : decode cX9_shifted 67 = .ok (.iload 7, 2) := by decide +kernel
theorem dX9_shifted_69 : decode cX9_shifted 69 = .ok (.aload_n 0, 1) := by decide +kernel
theorem dX9_shifted_70 : decode cX9_shifted 70 = .ok (.getfield 13, 3) := by decide +kernel
theorem dX9_shifted_73 : decode cX9_shifted 73 = .ok (.iconst 0, 1) := by decide +kernel
theorem dX9_shifted_74 : decode cX9_shifted 74 = .ok (.iaload, 1) := by decide +kernel
theorem dX9_shifted_75 : decode cX9_shifted 75 = .ok (.if_icmp .ge 156, 3) := by decide +kernel
theorem dX9_shifted_78 : decode cX9_shifted 78 = .ok (.iconst 0, 1) := by decide +kernel
theorem dX9_shifted_79 : decode cX9_shifted 79 = .ok (.istore 8, 2) := by decide +kernel
theorem dX9_shifted_81 : decode cX9_shifted 81 = .ok (.iload 8, 2) := by decide +kernel
theorem dX9_shifted_83 : decode cX9_shifted 83 = .ok (.aload_n 0, 1) := by decide +kernel
theorem dX9_shifted_84 : decode cX9_shifted 84 = .ok (.getfield 13, 3) := by decide +kernel
theorem dX9_shifted_87 : decode cX9_shifted 87 = .ok (.iconst 0, 1) := by decide +kernel
theorem dX9_shifted_88 : decode cX9_shifted 88 = .ok (.iaload, 1) := by decide +kernel
theorem dX9_shifted_89 : decode cX9_shifted 89 = .ok (.if_icmp .ge 136, 3) := by decide +kernel
theorem dX9_shifted_92 : decode cX9_shifted 92 = .ok (.iload 7, 2) := by decide +kernel
theorem dX9_shifted_94 : decode cX9_shifted 94 = .ok (.iload 8, 2) := by decide +kernel
theorem dX9_shifted_96 : decode cX9_shifted 96 = .ok (.if_icmp .eq 123, 3) := by decide +kernel
theorem dX9_shifted_99 : decode cX9_shifted 99 = .ok (.aload_n 0, 1) := by decide +kernel
theorem dX9_shifted_100 : decode cX9_shifted 100 = .ok (.getfield 13, 3) := by decide +kernel
theorem dX9_shifted_103 : decode cX9_shifted 103 = .ok (.bipush 32, 2) := by decide +kernel
theorem dX9_shifted_105 : decode cX9_shifted 105 = .ok (.iload 7, 2) := by decide +kernel
theorem dX9_shifted_107 : decode cX9_shifted 107 = .ok (.iadd, 1) := by decide +kernel
theorem dX9_shifted_108 : decode cX9_shifted 108 = .ok (.iaload, 1) := by decide +kernel
theorem dX9_shifted_109 : decode cX9_shifted 109 = .ok (.ifCond .eq 110, 3) := by decide +kernel
theorem dX9_shifted_112 : decode cX9_shifted 112 = .ok (.aload_n 0, 1) := by decide +kernel
theorem dX9_shifted_113 : decode cX9_shifted 113 = .ok (.getfield 13, 3) := by decide +kernel
theorem dX9_shifted_116 : decode cX9_shifted 116 = .ok (.bipush 32, 2) := by decide +kernel
