theorem dX9_judge_101 : decode cX9_judge 101 = .ok (.iload_n 2, 1) := by decide +kernel
theorem dX9_judge_102 : decode cX9_judge 102 = .ok (.iconst 1, 1) := by decide +kernel
theorem dX9_judge_103 : decode cX9_judge 103 = .ok (.if_icmp .ne 10, 3) := by decide +kernel
theorem dX9_judge_106 : decode cX9_judge 106 = .ok (.aload_n 0, 1) := by decide +kernel
theorem dX9_judge_107 : decode cX9_judge 107 = .ok (.getfield 210, 3) := by decide +kernel
theorem dX9_judge_110 : decode cX9_judge 110 = .ok (.goto 17, 3) := by decide +kernel
theorem dX9_judge_113 : decode cX9_judge 113 = .ok (.iload_n 2, 1) := by decide +kernel
theorem dX9_judge_114 : decode cX9_judge 114 = .ok (.iconst 2, 1) := by decide +kernel
theorem dX9_judge_115 : decode cX9_judge 115 = .ok (.if_icmp .ne 10, 3) := by decide +kernel
theorem dX9_judge_118 : decode cX9_judge 118 = .ok (.aload_n 0, 1) := by decide +kernel
theorem dX9_judge_119 : decode cX9_judge 119 = .ok (.getfield 213, 3) := by decide +kernel
theorem dX9_judge_122 : decode cX9_judge 122 = .ok (.goto 5, 3) := by decide +kernel
theorem dX9_judge_125 : decode cX9_judge 125 = .ok (.iload 4, 2) := by decide +kernel
theorem dX9_judge_127 : decode cX9_judge 127 = .ok (.ireturn, 1) := by decide +kernel
theorem dX9_perform_0 : decode cX9_perform 0 = .ok (.aload_n 0, 1) := by decide +kernel
theorem dX9_perform_1 : decode cX9_perform 1 = .ok (.iconst 0, 1) := by decide +kernel
theorem dX9_perform_2 : decode cX9_perform 2 = .ok (.putfield 1, 3) := by decide +kernel
theorem dX9_perform_5 : decode cX9_perform 5 = .ok (.iload_n 1, 1) := by decide +kernel
theorem dX9_perform_6 : decode cX9_perform 6 = .ok (.i2l, 1) := by decide +kernel
theorem dX9_perform_7 : decode cX9_perform 7 = .ok (.lconst 0, 1) := by decide +kernel
theorem dX9_perform_8 : decode cX9_perform 8 = .ok (.ldc2_w 180, 3) := by decide +kernel
theorem dX9_perform_11 : decode cX9_perform 11 = .ok (.invokestatic 128, 3) := by decide +kernel
theorem dX9_perform_14 : decode cX9_perform 14 = .ok (.ifCond .ne 6, 3) := by decide +kernel
theorem dX9_perform_17 : decode cX9_perform 17 = .ok (.bipush (-2), 2) := by decide +kernel
theorem dX9_perform_19 : decode cX9_perform 19 = .ok (.ireturn, 1) := by decide +kernel
theorem dX9_perform_20 : decode cX9_perform 20 = .ok (.aload_n 0, 1) := by decide +kernel
theorem dX9_perform_21 : decode cX9_perform 21 = .ok (.getfield 51, 3) := by decide +kernel
theorem dX9_perform_24 : decode cX9_perform 24 = .ok (.iload_n 1, 1) := by decide +kernel
theorem dX9_perform_25 : decode cX9_perform 25 = .ok (.iaload, 1) := by decide +kernel
theorem dX9_perform_26 : decode cX9_perform 26 = .ok (.iconst (-1), 1) := by decide +kernel
theorem dX9_perform_27 : decode cX9_perform 27 = .ok (.if_icmp .ne 8, 3) := by decide +kernel
theorem dX9_perform_30 : decode cX9_perform 30 = .ok (.bipush (-6), 2) := by decide +kernel
theorem dX9_perform_32 : decode cX9_perform 32 = .ok (.goto 8, 3) := by decide +kernel
theorem dX9_perform_35 : decode cX9_perform 35 = .ok (.aload_n 0, 1) := by decide +kernel
theorem dX9_perform_36 : decode cX9_perform 36 = .ok (.iload_n 1, 1) := by decide +kernel
theorem dX9_perform_37 : decode cX9_perform 37 = .ok (.invokevirtual 219, 3) := by decide +kernel
theorem dX9_perform_40 : decode cX9_perform 40 = .ok (.ireturn, 1) := by decide +kernel
theorem dX9_fill_0 : decode cX9_fill 0 = .ok (.aload_n 0, 1) := by decide +kernel
theorem dX9_fill_1 : decode cX9_fill 1 = .ok (.iconst 0, 1) := by decide +kernel
theorem dX9_fill_2 : decode cX9_fill 2 = .ok (.putfield 1, 3) := by decide +kernel
theorem dX9_fill_5 : decode cX9_fill 5 = .ok (.iload_n 1, 1) := by decide +kernel
theorem dX9_fill_6 : decode cX9_fill 6 = .ok (.i2l, 1) := by decide +kernel
theorem dX9_fill_7 : decode cX9_fill 7 = .ok (.lconst 0, 1) := by decide +kernel
theorem dX9_fill_8 : decode cX9_fill 8 = .ok (.ldc2_w 225, 3) := by decide +kernel
theorem dX9_fill_11 : decode cX9_fill 11 = .ok (.invokestatic 128, 3) := by decide +kernel
theorem dX9_fill_14 : decode cX9_fill 14 = .ok (.ifCond .ne 6, 3) := by decide +kernel
theorem dX9_fill_17 : decode cX9_fill 17 = .ok (.bipush (-3), 2) := by decide +kernel
theorem dX9_fill_19 : decode cX9_fill 19 = .ok (.ireturn, 1) := by decide +kernel
theorem dX9_fill_20 : decode cX9_fill 20 = .ok (.aload_n 0, 1) := by decide +kernel
theorem dX9_fill_21 : decode cX9_fill 21 = .ok (.getfield 13, 3) := by decide +kernel
theorem dX9_fill_24 : decode cX9_fill 24 = .ok (.bipush 6, 2) := by decide +kernel
theorem dX9_fill_26 : decode cX9_fill 26 = .ok (.aload_n 0, 1) := by decide +kernel
theorem dX9_fill_27 : decode cX9_fill 27 = .ok (.getfield 13, 3) := by decide +kernel
theorem dX9_fill_30 : decode cX9_fill 30 = .ok (.bipush 6, 2) := by decide +kernel
theorem dX9_fill_32 : decode cX9_fill 32 = .ok (.iaload, 1) := by decide +kernel
theorem dX9_fill_33 : decode cX9_fill 33 = .ok (.iload_n 1, 1) := by decide +kernel
theorem dX9_fill_34 : decode cX9_fill 34 = .ok (.iadd, 1) := by decide +kernel
theorem dX9_fill_35 : decode cX9_fill 35 = .ok (.sipush 999, 3) := by decide +kernel
theorem dX9_fill_38 : decode cX9_fill 38 = .ok (.if_icmp .le 9, 3) := by decide +kernel
theorem dX9_fill_41 : decode cX9_fill 41 = .ok (.sipush 999, 3) := by decide +kernel
theorem dX9_fill_44 : decode cX9_fill 44 = .ok (.goto 12, 3) := by decide +kernel
theorem dX9_fill_47 : decode cX9_fill 47 = .ok (.aload_n 0, 1) := by decide +kernel
theorem dX9_fill_48 : decode cX9_fill 48 = .ok (.getfield 13, 3) := by decide +kernel
theorem dX9_fill_51 : decode cX9_fill 51 = .ok (.bipush 6, 2) := by decide +kernel
theorem dX9_fill_53 : decode cX9_fill 53 = .ok (.iaload, 1) := by decide +kernel
theorem dX9_fill_54 : decode cX9_fill 54 = .ok (.iload_n 1, 1) := by decide +kernel
theorem dX9_fill_55 : decode cX9_fill 55 = .ok (.iadd, 1) := by decide +kernel
theorem dX9_fill_56 : decode cX9_fill 56 = .ok (.iastore, 1) := by decide +kernel
theorem dX9_fill_57 : decode cX9_fill 57 = .ok (.aload_n 0, 1) := by decide +kernel
theorem dX9_fill_58 : decode cX9_fill 58 = .ok (.getfield 13, 3) := by decide +kernel
theorem dX9_fill_61 : decode cX9_fill 61 = .ok (.bipush 6, 2) := by decide +kernel
theorem dX9_fill_63 : decode cX9_fill 63 = .ok (.iaload, 1) := by decide +kernel
theorem dX9_fill_64 : decode cX9_fill 64 = .ok (.ireturn, 1) := by decide +kernel
theorem dX9_draw_0 : decode cX9_draw 0 = .ok (.aload_n 0, 1) := by decide +kernel
theorem dX9_draw_1 : decode cX9_draw 1 = .ok (.ldc 227, 2) := by decide +kernel
theorem dX9_draw_3 : decode cX9_draw 3 = .ok (.aload_n 0, 1) := by decide +kernel
theorem dX9_draw_4 : decode cX9_draw 4 = .ok (.getfield 228, 3) := by decide +kernel
theorem dX9_draw_7 : decode cX9_draw 7 = .ok (.imul, 1) := by decide +kernel
theorem dX9_draw_8 : decode cX9_draw 8 = .ok (.sipush 12345, 3) := by decide +kernel
theorem dX9_draw_11 : decode cX9_draw 11 = .ok (.iadd, 1) := by decide +kernel
theorem dX9_draw_12 : decode cX9_draw 12 = .ok (.putfield 228, 3) := by decide +kernel
theorem dX9_draw_15 : decode cX9_draw 15 = .ok (.aload_n 0, 1) := by decide +kernel
theorem dX9_draw_16 : decode cX9_draw 16 = .ok (.getfield 228, 3) := by decide +kernel
theorem dX9_draw_19 : decode cX9_draw 19 = .ok (.bipush 16, 2) := by decide +kernel
theorem dX9_draw_21 : decode cX9_draw 21 = .ok (.iushr, 1) := by decide +kernel
theorem dX9_draw_22 : decode cX9_draw 22 = .ok (.iload_n 1, 1) := by decide +kernel
theorem dX9_draw_23 : decode cX9_draw 23 = .ok (.irem, 1) := by decide +kernel
theorem dX9_draw_24 : decode cX9_draw 24 = .ok (.ireturn, 1) := by decide +kernel
theorem dX9_night_0 : decode cX9_night 0 = .ok (.aload_n 0, 1) := by decide +kernel
theorem dX9_night_1 : decode cX9_night 1 = .ok (.iconst 0, 1) := by decide +kernel
theorem dX9_night_2 : decode cX9_night 2 = .ok (.putfield 1, 3) := by decide +kernel
theorem dX9_night_5 : decode cX9_night 5 = .ok (.iload_n 2, 1) := by decide +kernel
theorem dX9_night_6 : decode cX9_night 6 = .ok (.i2l, 1) := by decide +kernel
theorem dX9_night_7 : decode cX9_night 7 = .ok (.lconst 1, 1) := by decide +kernel
theorem dX9_night_8 : decode cX9_night 8 = .ok (.ldc2_w 231, 3) := by decide +kernel
theorem dX9_night_11 : decode cX9_night 11 = .ok (.invokestatic 128, 3) := by decide +kernel
theorem dX9_night_14 : decode cX9_night 14 = .ok (.ifCond .ne 6, 3) := by decide +kernel
theorem dX9_night_17 : decode cX9_night 17 = .ok (.bipush (-3), 2) := by decide +kernel
theorem dX9_night_19 : decode cX9_night 19 = .ok (.ireturn, 1) := by decide +kernel
theorem dX9_night_20 : decode cX9_night 20 = .ok (.aload_n 0, 1) := by decide +kernel
theorem dX9_night_21 : decode cX9_night 21 = .ok (.getfield 13, 3) := by decide +kernel
theorem dX9_night_24 : decode cX9_night 24 = .ok (.iconst 0, 1) := by decide +kernel
theorem dX9_night_25 : decode cX9_night 25 = .ok (.iaload, 1) := by decide +kernel
theorem dX9_night_26 : decode cX9_night 26 = .ok (.ifCond .eq 27, 3) := by decide +kernel
theorem dX9_night_29 : decode cX9_night 29 = .ok (.aload_n 0, 1) := by decide +kernel
theorem dX9_night_30 : decode cX9_night 30 = .ok (.getfield 13, 3) := by decide +kernel
theorem dX9_night_33 : decode cX9_night 33 = .ok (.bipush 6, 2) := by decide +kernel
theorem dX9_night_35 : decode cX9_night 35 = .ok (.iaload, 1) := by decide +kernel
theorem dX9_night_36 : decode cX9_night 36 = .ok (.ifCond .eq 17, 3) := by decide +kernel
theorem dX9_night_39 : decode cX9_night 39 = .ok (.aload_n 0, 1) := by decide +kernel
theorem dX9_night_40 : decode cX9_night 40 = .ok (.getfield 13, 3) := by decide +kernel
theorem dX9_night_43 : decode cX9_night 43 = .ok (.iconst 1, 1) := by decide +kernel
theorem dX9_night_44 : decode cX9_night 44 = .ok (.iaload, 1) := by decide +kernel
theorem dX9_night_45 : decode cX9_night 45 = .ok (.iload_n 2, 1) := by decide +kernel
theorem dX9_night_46 : decode cX9_night 46 = .ok (.iadd, 1) := by decide +kernel
theorem dX9_night_47 : decode cX9_night 47 = .ok (.sipush 9999, 3) := by decide +kernel
theorem dX9_night_50 : decode cX9_night 50 = .ok (.if_icmp .le 6, 3) := by decide +kernel
theorem dX9_night_53 : decode cX9_night 53 = .ok (.bipush (-5), 2) := by decide +kernel
theorem dX9_night_55 : decode cX9_night 55 = .ok (.ireturn, 1) := by decide +kernel
theorem dX9_night_56 : decode cX9_night 56 = .ok (.aload_n 0, 1) := by decide +kernel
theorem dX9_night_57 : decode cX9_night 57 = .ok (.iload_n 1, 1) := by decide +kernel
theorem dX9_night_58 : decode cX9_night 58 = .ok (.putfield 228, 3) := by decide +kernel
theorem dX9_night_61 : decode cX9_night 61 = .ok (.iconst 0, 1) := by decide +kernel
theorem dX9_night_62 : decode cX9_night 62 = .ok (.istore_n 3, 1) := by decide +kernel
theorem dX9_night_63 : decode cX9_night 63 = .ok (.iconst 0, 1) := by decide +kernel
theorem dX9_night_64 : decode cX9_night 64 = .ok (.istore 4, 2) := by decide +kernel
theorem dX9_night_66 : decode cX9_night 66 = .ok (.iload 4, 2) := by decide +kernel
theorem dX9_night_68 : decode cX9_night 68 = .ok (.iload_n 2, 1) := by decide +kernel
theorem dX9_night_69 : decode cX9_night 69 = .ok (.if_icmp .ge 74, 3) := by decide +kernel
theorem dX9_night_72 : decode cX9_night 72 = .ok (.aload_n 0, 1) := by decide +kernel
theorem dX9_night_73 : decode cX9_night 73 = .ok (.getfield 13, 3) := by decide +kernel
theorem dX9_night_76 : decode cX9_night 76 = .ok (.bipush 6, 2) := by decide +kernel
theorem dX9_night_78 : decode cX9_night 78 = .ok (.iaload, 1) := by decide +kernel
theorem dX9_night_79 : decode cX9_night 79 = .ok (.ifCond .le 64, 3) := by decide +kernel
theorem dX9_night_82 : decode cX9_night 82 = .ok (.aload_n 0, 1) := by decide +kernel
theorem dX9_night_83 : decode cX9_night 83 = .ok (.iconst 3, 1) := by decide +kernel
theorem dX9_night_84 : decode cX9_night 84 = .ok (.invokevirtual 233, 3) := by decide +kernel
theorem dX9_night_87 : decode cX9_night 87 = .ok (.istore 5, 2) := by decide +kernel
theorem dX9_night_89 : decode cX9_night 89 = .ok (.aload_n 0, 1) := by decide +kernel
theorem dX9_night_90 : decode cX9_night 90 = .ok (.bipush 100, 2) := by decide +kernel
theorem dX9_night_92 : decode cX9_night 92 = .ok (.invokevirtual 233, 3) := by decide +kernel
theorem dX9_night_95 : decode cX9_night 95 = .ok (.aload_n 0, 1) := by decide +kernel
theorem dX9_night_96 : decode cX9_night 96 = .ok (.getfield 13, 3) := by decide +kernel
theorem dX9_night_99 : decode cX9_night 99 = .ok (.bipush 7, 2) := by decide +kernel
theorem dX9_night_101 : decode cX9_night 101 = .ok (.iaload, 1) := by decide +kernel
theorem dX9_night_102 : decode cX9_night 102 = .ok (.if_icmp .ge 7, 3) := by decide +kernel
theorem dX9_night_105 : decode cX9_night 105 = .ok (.iconst 1, 1) := by decide +kernel
theorem dX9_night_106 : decode cX9_night 106 = .ok (.goto 4, 3) := by decide +kernel
theorem dX9_night_109 : decode cX9_night 109 = .ok (.iconst 0, 1) := by decide +kernel
theorem dX9_night_110 : decode cX9_night 110 = .ok (.istore 6, 2) := by decide +kernel
theorem dX9_night_112 : decode cX9_night 112 = .ok (.iload_n 3, 1) := by decide +kernel
theorem dX9_night_113 : decode cX9_night 113 = .ok (.aload_n 0, 1) := by decide +kernel
theorem dX9_night_114 : decode cX9_night 114 = .ok (.aload_n 0, 1) := by decide +kernel
theorem dX9_night_115 : decode cX9_night 115 = .ok (.iload 5, 2) := by decide +kernel
theorem dX9_night_117 : decode cX9_night 117 = .ok (.i2l, 1) := by decide +kernel
theorem dX9_night_118 : decode cX9_night 118 = .ok (.invokevirtual 202, 3) := by decide +kernel
theorem dX9_night_121 : decode cX9_night 121 = .ok (.ifCond .ne 8, 3) := by decide +kernel
theorem dX9_night_124 : decode cX9_night 124 = .ok (.iload 5, 2) := by decide +kernel
theorem dX9_night_126 : decode cX9_night 126 = .ok (.goto 4, 3) := by decide +kernel
theorem dX9_night_129 : decode cX9_night 129 = .ok (.iconst 0, 1) := by decide +kernel
theorem dX9_night_130 : decode cX9_night 130 = .ok (.iload 6, 2) := by decide +kernel
theorem dX9_night_132 : decode cX9_night 132 = .ok (.invokevirtual 206, 3) := by decide +kernel
theorem dX9_night_135 : decode cX9_night 135 = .ok (.iadd, 1) := by decide +kernel
theorem dX9_night_136 : decode cX9_night 136 = .ok (.istore_n 3, 1) := by decide +kernel
theorem dX9_night_137 : decode cX9_night 137 = .ok (.iinc 4 1, 3) := by decide +kernel
theorem dX9_night_140 : decode cX9_night 140 = .ok (.goto (-74), 3) := by decide +kernel
theorem dX9_night_143 : decode cX9_night 143 = .ok (.iload_n 3, 1) := by decide +kernel
theorem dX9_night_144 : decode cX9_night 144 = .ok (.ireturn, 1) := by decide +kernel
theorem dX9_walk_0 : decode cX9_walk 0 = .ok (.aload_n 0, 1) := by decide +kernel
theorem dX9_walk_1 : decode cX9_walk 1 = .ok (.iconst 0, 1) := by decide +kernel
theorem dX9_walk_2 : decode cX9_walk 2 = .ok (.putfield 1, 3) := by decide +kernel
theorem dX9_walk_5 : decode cX9_walk 5 = .ok (.aload_n 0, 1) := by decide +kernel
theorem dX9_walk_6 : decode cX9_walk 6 = .ok (.iload_n 1, 1) := by decide +kernel
theorem dX9_walk_7 : decode cX9_walk 7 = .ok (.invokevirtual 172, 3) := by decide +kernel
theorem dX9_walk_10 : decode cX9_walk 10 = .ok (.ifCond .eq 11, 3) := by decide +kernel
theorem dX9_walk_13 : decode cX9_walk 13 = .ok (.aload_n 0, 1) := by decide +kernel
theorem dX9_walk_14 : decode cX9_walk 14 = .ok (.iload_n 2, 1) := by decide +kernel
theorem dX9_walk_15 : decode cX9_walk 15 = .ok (.invokevirtual 172, 3) := by decide +kernel
theorem dX9_walk_18 : decode cX9_walk 18 = .ok (.ifCond .ne 6, 3) := by decide +kernel
theorem dX9_walk_21 : decode cX9_walk 21 = .ok (.bipush (-2), 2) := by decide +kernel
theorem dX9_walk_23 : decode cX9_walk 23 = .ok (.ireturn, 1) := by decide +kernel
theorem dX9_walk_24 : decode cX9_walk 24 = .ok (.iload_n 3, 1) := by decide +kernel
theorem dX9_walk_25 : decode cX9_walk 25 = .ok (.i2l, 1) := by decide +kernel
theorem dX9_walk_26 : decode cX9_walk 26 = .ok (.lconst 0, 1) := by decide +kernel
theorem dX9_walk_27 : decode cX9_walk 27 = .ok (.aload_n 0, 1) := by decide +kernel
theorem dX9_walk_28 : decode cX9_walk 28 = .ok (.getfield 13, 3) := by decide +kernel
theorem dX9_walk_31 : decode cX9_walk 31 = .ok (.bipush 32, 2) := by decide +kernel
theorem dX9_walk_33 : decode cX9_walk 33 = .ok (.iload_n 1, 1) := by decide +kernel
theorem dX9_walk_34 : decode cX9_walk 34 = .ok (.iadd, 1) := by decide +kernel
theorem dX9_walk_35 : decode cX9_walk 35 = .ok (.iaload, 1) := by decide +kernel
theorem dX9_walk_36 : decode cX9_walk 36 = .ok (.i2l, 1) := by decide +kernel
theorem dX9_walk_37 : decode cX9_walk 37 = .ok (.invokestatic 128, 3) := by decide +kernel
theorem dX9_walk_40 : decode cX9_walk 40 = .ok (.ifCond .ne 6, 3) := by decide +kernel
theorem dX9_walk_43 : decode cX9_walk 43 = .ok (.bipush (-3), 2) := by decide +kernel
theorem dX9_walk_45 : decode cX9_walk 45 = .ok (.ireturn, 1) := by decide +kernel
theorem dX9_walk_46 : decode cX9_walk 46 = .ok (.iload_n 1, 1) := by decide +kernel
theorem dX9_walk_47 : decode cX9_walk 47 = .ok (.iload_n 2, 1) := by decide +kernel
theorem dX9_walk_48 : decode cX9_walk 48 = .ok (.if_icmp .eq 22, 3) := by decide +kernel
theorem dX9_walk_51 : decode cX9_walk 51 = .ok (.aload_n 0, 1) := by decide +kernel
theorem dX9_walk_52 : decode cX9_walk 52 = .ok (.getfield 13, 3) := by decide +kernel
