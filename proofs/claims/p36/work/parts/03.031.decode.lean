theorem dX9_goes_159 : decode cX9_goes 159 = .ok (.iadd, 1) := by decide +kernel
theorem dX9_goes_160 : decode cX9_goes 160 = .ok (.dup2, 1) := by decide +kernel
theorem dX9_goes_161 : decode cX9_goes 161 = .ok (.iaload, 1) := by decide +kernel
theorem dX9_goes_162 : decode cX9_goes 162 = .ok (.iload 5, 2) := by decide +kernel
theorem dX9_goes_164 : decode cX9_goes 164 = .ok (.iadd, 1) := by decide +kernel
theorem dX9_goes_165 : decode cX9_goes 165 = .ok (.iastore, 1) := by decide +kernel
theorem dX9_goes_166 : decode cX9_goes 166 = .ok (.aload_n 0, 1) := by decide +kernel
theorem dX9_goes_167 : decode cX9_goes 167 = .ok (.getfield 30, 3) := by decide +kernel
theorem dX9_goes_170 : decode cX9_goes 170 = .ok (.aload_n 0, 1) := by decide +kernel
theorem dX9_goes_171 : decode cX9_goes 171 = .ok (.getfield 13, 3) := by decide +kernel
theorem dX9_goes_174 : decode cX9_goes 174 = .ok (.bipush 64, 2) := by decide +kernel
theorem dX9_goes_176 : decode cX9_goes 176 = .ok (.iload 4, 2) := by decide +kernel
theorem dX9_goes_178 : decode cX9_goes 178 = .ok (.iadd, 1) := by decide +kernel
theorem dX9_goes_179 : decode cX9_goes 179 = .ok (.iaload, 1) := by decide +kernel
theorem dX9_goes_180 : decode cX9_goes 180 = .ok (.dup2, 1) := by decide +kernel
theorem dX9_goes_181 : decode cX9_goes 181 = .ok (.iaload, 1) := by decide +kernel
theorem dX9_goes_182 : decode cX9_goes 182 = .ok (.iload 5, 2) := by decide +kernel
theorem dX9_goes_184 : decode cX9_goes 184 = .ok (.iadd, 1) := by decide +kernel
theorem dX9_goes_185 : decode cX9_goes 185 = .ok (.iastore, 1) := by decide +kernel
theorem dX9_goes_186 : decode cX9_goes 186 = .ok (.iload_n 3, 1) := by decide +kernel
theorem dX9_goes_187 : decode cX9_goes 187 = .ok (.iload 5, 2) := by decide +kernel
theorem dX9_goes_189 : decode cX9_goes 189 = .ok (.iadd, 1) := by decide +kernel
theorem dX9_goes_190 : decode cX9_goes 190 = .ok (.istore_n 3, 1) := by decide +kernel
theorem dX9_goes_191 : decode cX9_goes 191 = .ok (.iinc 4 1, 3) := by decide +kernel
theorem dX9_goes_194 : decode cX9_goes 194 = .ok (.goto (-151), 3) := by decide +kernel
theorem dX9_goes_197 : decode cX9_goes 197 = .ok (.iload_n 3, 1) := by decide +kernel
theorem dX9_goes_198 : decode cX9_goes 198 = .ok (.ireturn, 1) := by decide +kernel
theorem dX9_minute_0 : decode cX9_minute 0 = .ok (.aload_n 0, 1) := by decide +kernel
theorem dX9_minute_1 : decode cX9_minute 1 = .ok (.iconst 0, 1) := by decide +kernel
theorem dX9_minute_2 : decode cX9_minute 2 = .ok (.putfield 1, 3) := by decide +kernel
theorem dX9_minute_5 : decode cX9_minute 5 = .ok (.aload_n 0, 1) := by decide +kernel
theorem dX9_minute_6 : decode cX9_minute 6 = .ok (.iload_n 1, 1) := by decide +kernel
theorem dX9_minute_7 : decode cX9_minute 7 = .ok (.i2l, 1) := by decide +kernel
theorem dX9_minute_8 : decode cX9_minute 8 = .ok (.invokevirtual 202, 3) := by decide +kernel
theorem dX9_minute_11 : decode cX9_minute 11 = .ok (.istore_n 2, 1) := by decide +kernel
theorem dX9_minute_12 : decode cX9_minute 12 = .ok (.iload_n 2, 1) := by decide +kernel
theorem dX9_minute_13 : decode cX9_minute 13 = .ok (.iconst 1, 1) := by decide +kernel
theorem dX9_minute_14 : decode cX9_minute 14 = .ok (.if_icmp .ne 8, 3) := by decide +kernel
theorem dX9_minute_17 : decode cX9_minute 17 = .ok (.bipush (-2), 2) := by decide +kernel
theorem dX9_minute_19 : decode cX9_minute 19 = .ok (.goto 18, 3) := by decide +kernel
theorem dX9_minute_22 : decode cX9_minute 22 = .ok (.iload_n 2, 1) := by decide +kernel
theorem dX9_minute_23 : decode cX9_minute 23 = .ok (.ifCond .eq 8, 3) := by decide +kernel
theorem dX9_minute_26 : decode cX9_minute 26 = .ok (.bipush (-5), 2) := by decide +kernel
theorem dX9_minute_28 : decode cX9_minute 28 = .ok (.goto 9, 3) := by decide +kernel
theorem dX9_minute_31 : decode cX9_minute 31 = .ok (.aload_n 0, 1) := by decide +kernel
theorem dX9_minute_32 : decode cX9_minute 32 = .ok (.iload_n 1, 1) := by decide +kernel
theorem dX9_minute_33 : decode cX9_minute 33 = .ok (.iconst 0, 1) := by decide +kernel
theorem dX9_minute_34 : decode cX9_minute 34 = .ok (.invokevirtual 206, 3) := by decide +kernel
theorem dX9_minute_37 : decode cX9_minute 37 = .ok (.ireturn, 1) := by decide +kernel
theorem dX9_keeps_0 : decode cX9_keeps 0 = .ok (.iconst 0, 1) := by decide +kernel
theorem dX9_keeps_1 : decode cX9_keeps 1 = .ok (.istore_n 2, 1) := by decide +kernel
theorem dX9_keeps_2 : decode cX9_keeps 2 = .ok (.iload_n 2, 1) := by decide +kernel
theorem dX9_keeps_3 : decode cX9_keeps 3 = .ok (.bipush 96, 2) := by decide +kernel
theorem dX9_keeps_5 : decode cX9_keeps 5 = .ok (.if_icmp .ge 26, 3) := by decide +kernel
theorem dX9_keeps_8 : decode cX9_keeps 8 = .ok (.aload_n 0, 1) := by decide +kernel
theorem dX9_keeps_9 : decode cX9_keeps 9 = .ok (.getfield 33, 3) := by decide +kernel
theorem dX9_keeps_12 : decode cX9_keeps 12 = .ok (.bipush 96, 2) := by decide +kernel
theorem dX9_keeps_14 : decode cX9_keeps 14 = .ok (.iload_n 1, 1) := by decide +kernel
theorem dX9_keeps_15 : decode cX9_keeps 15 = .ok (.imul, 1) := by decide +kernel
theorem dX9_keeps_16 : decode cX9_keeps 16 = .ok (.iload_n 2, 1) := by decide +kernel
theorem dX9_keeps_17 : decode cX9_keeps 17 = .ok (.iadd, 1) := by decide +kernel
theorem dX9_keeps_18 : decode cX9_keeps 18 = .ok (.aload_n 0, 1) := by decide +kernel
theorem dX9_keeps_19 : decode cX9_keeps 19 = .ok (.getfield 13, 3) := by decide +kernel
theorem dX9_keeps_22 : decode cX9_keeps 22 = .ok (.iload_n 2, 1) := by decide +kernel
theorem dX9_keeps_23 : decode cX9_keeps 23 = .ok (.iaload, 1) := by decide +kernel
theorem dX9_keeps_24 : decode cX9_keeps 24 = .ok (.iastore, 1) := by decide +kernel
theorem dX9_keeps_25 : decode cX9_keeps 25 = .ok (.iinc 2 1, 3) := by decide +kernel
theorem dX9_keeps_28 : decode cX9_keeps 28 = .ok (.goto (-26), 3) := by decide +kernel
theorem dX9_keeps_31 : decode cX9_keeps 31 = .ok (.return_, 1) := by decide +kernel
theorem dX9_isAgain_0 : decode cX9_isAgain 0 = .ok (.iconst 0, 1) := by decide +kernel
theorem dX9_isAgain_1 : decode cX9_isAgain 1 = .ok (.istore_n 2, 1) := by decide +kernel
theorem dX9_isAgain_2 : decode cX9_isAgain 2 = .ok (.iload_n 2, 1) := by decide +kernel
theorem dX9_isAgain_3 : decode cX9_isAgain 3 = .ok (.bipush 96, 2) := by decide +kernel
theorem dX9_isAgain_5 : decode cX9_isAgain 5 = .ok (.if_icmp .ge 26, 3) := by decide +kernel
theorem dX9_isAgain_8 : decode cX9_isAgain 8 = .ok (.aload_n 0, 1) := by decide +kernel
theorem dX9_isAgain_9 : decode cX9_isAgain 9 = .ok (.getfield 13, 3) := by decide +kernel
theorem dX9_isAgain_12 : decode cX9_isAgain 12 = .ok (.iload_n 2, 1) := by decide +kernel
theorem dX9_isAgain_13 : decode cX9_isAgain 13 = .ok (.aload_n 0, 1) := by decide +kernel
theorem dX9_isAgain_14 : decode cX9_isAgain 14 = .ok (.getfield 33, 3) := by decide +kernel
theorem dX9_isAgain_17 : decode cX9_isAgain 17 = .ok (.bipush 96, 2) := by decide +kernel
theorem dX9_isAgain_19 : decode cX9_isAgain 19 = .ok (.iload_n 1, 1) := by decide +kernel
theorem dX9_isAgain_20 : decode cX9_isAgain 20 = .ok (.imul, 1) := by decide +kernel
theorem dX9_isAgain_21 : decode cX9_isAgain 21 = .ok (.iload_n 2, 1) := by decide +kernel
theorem dX9_isAgain_22 : decode cX9_isAgain 22 = .ok (.iadd, 1) := by decide +kernel
theorem dX9_isAgain_23 : decode cX9_isAgain 23 = .ok (.iaload, 1) := by decide +kernel
theorem dX9_isAgain_24 : decode cX9_isAgain 24 = .ok (.iastore, 1) := by decide +kernel
theorem dX9_isAgain_25 : decode cX9_isAgain 25 = .ok (.iinc 2 1, 3) := by decide +kernel
theorem dX9_isAgain_28 : decode cX9_isAgain 28 = .ok (.goto (-26), 3) := by decide +kernel
theorem dX9_isAgain_31 : decode cX9_isAgain 31 = .ok (.return_, 1) := by decide +kernel
theorem dX9_movesOf_0 : decode cX9_movesOf 0 = .ok (.aload_n 0, 1) := by decide +kernel
theorem dX9_movesOf_1 : decode cX9_movesOf 1 = .ok (.iconst 0, 1) := by decide +kernel
theorem dX9_movesOf_2 : decode cX9_movesOf 2 = .ok (.putfield 210, 3) := by decide +kernel
theorem dX9_movesOf_5 : decode cX9_movesOf 5 = .ok (.aload_n 0, 1) := by decide +kernel
theorem dX9_movesOf_6 : decode cX9_movesOf 6 = .ok (.iconst 0, 1) := by decide +kernel
theorem dX9_movesOf_7 : decode cX9_movesOf 7 = .ok (.putfield 213, 3) := by decide +kernel
theorem dX9_movesOf_10 : decode cX9_movesOf 10 = .ok (.iconst 0, 1) := by decide +kernel
theorem dX9_movesOf_11 : decode cX9_movesOf 11 = .ok (.istore_n 2, 1) := by decide +kernel
theorem dX9_movesOf_12 : decode cX9_movesOf 12 = .ok (.iload_n 2, 1) := by decide +kernel
theorem dX9_movesOf_13 : decode cX9_movesOf 13 = .ok (.aload_n 0, 1) := by decide +kernel
theorem dX9_movesOf_14 : decode cX9_movesOf 14 = .ok (.getfield 54, 3) := by decide +kernel
theorem dX9_movesOf_17 : decode cX9_movesOf 17 = .ok (.iload_n 1, 1) := by decide +kernel
theorem dX9_movesOf_18 : decode cX9_movesOf 18 = .ok (.iaload, 1) := by decide +kernel
theorem dX9_movesOf_19 : decode cX9_movesOf 19 = .ok (.if_icmp .ge 63, 3) := by decide +kernel
theorem dX9_movesOf_22 : decode cX9_movesOf 22 = .ok (.aload_n 0, 1) := by decide +kernel
theorem dX9_movesOf_23 : decode cX9_movesOf 23 = .ok (.aload_n 0, 1) := by decide +kernel
theorem dX9_movesOf_24 : decode cX9_movesOf 24 = .ok (.aload_n 0, 1) := by decide +kernel
theorem dX9_movesOf_25 : decode cX9_movesOf 25 = .ok (.getfield 57, 3) := by decide +kernel
theorem dX9_movesOf_28 : decode cX9_movesOf 28 = .ok (.bipush 40, 2) := by decide +kernel
theorem dX9_movesOf_30 : decode cX9_movesOf 30 = .ok (.iload_n 1, 1) := by decide +kernel
theorem dX9_movesOf_31 : decode cX9_movesOf 31 = .ok (.imul, 1) := by decide +kernel
theorem dX9_movesOf_32 : decode cX9_movesOf 32 = .ok (.iload_n 2, 1) := by decide +kernel
theorem dX9_movesOf_33 : decode cX9_movesOf 33 = .ok (.iadd, 1) := by decide +kernel
theorem dX9_movesOf_34 : decode cX9_movesOf 34 = .ok (.laload, 1) := by decide +kernel
theorem dX9_movesOf_35 : decode cX9_movesOf 35 = .ok (.invokevirtual 202, 3) := by decide +kernel
theorem dX9_movesOf_38 : decode cX9_movesOf 38 = .ok (.putfield 210, 3) := by decide +kernel
theorem dX9_movesOf_41 : decode cX9_movesOf 41 = .ok (.aload_n 0, 1) := by decide +kernel
theorem dX9_movesOf_42 : decode cX9_movesOf 42 = .ok (.getfield 210, 3) := by decide +kernel
theorem dX9_movesOf_45 : decode cX9_movesOf 45 = .ok (.ifCond .eq 5, 3) := by decide +kernel
theorem dX9_movesOf_48 : decode cX9_movesOf 48 = .ok (.iload_n 2, 1) := by decide +kernel
theorem dX9_movesOf_49 : decode cX9_movesOf 49 = .ok (.ireturn, 1) := by decide +kernel
theorem dX9_movesOf_50 : decode cX9_movesOf 50 = .ok (.aload_n 0, 1) := by decide +kernel
theorem dX9_movesOf_51 : decode cX9_movesOf 51 = .ok (.dup, 1) := by decide +kernel
theorem dX9_movesOf_52 : decode cX9_movesOf 52 = .ok (.getfield 213, 3) := by decide +kernel
theorem dX9_movesOf_55 : decode cX9_movesOf 55 = .ok (.aload_n 0, 1) := by decide +kernel
theorem dX9_movesOf_56 : decode cX9_movesOf 56 = .ok (.aload_n 0, 1) := by decide +kernel
theorem dX9_movesOf_57 : decode cX9_movesOf 57 = .ok (.getfield 57, 3) := by decide +kernel
theorem dX9_movesOf_60 : decode cX9_movesOf 60 = .ok (.bipush 40, 2) := by decide +kernel
theorem dX9_movesOf_62 : decode cX9_movesOf 62 = .ok (.iload_n 1, 1) := by decide +kernel
theorem dX9_movesOf_63 : decode cX9_movesOf 63 = .ok (.imul, 1) := by decide +kernel
theorem dX9_movesOf_64 : decode cX9_movesOf 64 = .ok (.iload_n 2, 1) := by decide +kernel
theorem dX9_movesOf_65 : decode cX9_movesOf 65 = .ok (.iadd, 1) := by decide +kernel
theorem dX9_movesOf_66 : decode cX9_movesOf 66 = .ok (.laload, 1) := by decide +kernel
theorem dX9_movesOf_67 : decode cX9_movesOf 67 = .ok (.l2i, 1) := by decide +kernel
theorem dX9_movesOf_68 : decode cX9_movesOf 68 = .ok (.iconst 0, 1) := by decide +kernel
theorem dX9_movesOf_69 : decode cX9_movesOf 69 = .ok (.invokevirtual 206, 3) := by decide +kernel
theorem dX9_movesOf_72 : decode cX9_movesOf 72 = .ok (.iadd, 1) := by decide +kernel
theorem dX9_movesOf_73 : decode cX9_movesOf 73 = .ok (.putfield 213, 3) := by decide +kernel
theorem dX9_movesOf_76 : decode cX9_movesOf 76 = .ok (.iinc 2 1, 3) := by decide +kernel
theorem dX9_movesOf_79 : decode cX9_movesOf 79 = .ok (.goto (-67), 3) := by decide +kernel
theorem dX9_movesOf_82 : decode cX9_movesOf 82 = .ok (.aload_n 0, 1) := by decide +kernel
theorem dX9_movesOf_83 : decode cX9_movesOf 83 = .ok (.getfield 54, 3) := by decide +kernel
theorem dX9_movesOf_86 : decode cX9_movesOf 86 = .ok (.iload_n 1, 1) := by decide +kernel
theorem dX9_movesOf_87 : decode cX9_movesOf 87 = .ok (.iaload, 1) := by decide +kernel
theorem dX9_movesOf_88 : decode cX9_movesOf 88 = .ok (.ireturn, 1) := by decide +kernel
theorem dX9_judge_0 : decode cX9_judge 0 = .ok (.aload_n 0, 1) := by decide +kernel
theorem dX9_judge_1 : decode cX9_judge 1 = .ok (.iconst 0, 1) := by decide +kernel
theorem dX9_judge_2 : decode cX9_judge 2 = .ok (.putfield 1, 3) := by decide +kernel
theorem dX9_judge_5 : decode cX9_judge 5 = .ok (.iload_n 1, 1) := by decide +kernel
theorem dX9_judge_6 : decode cX9_judge 6 = .ok (.i2l, 1) := by decide +kernel
theorem dX9_judge_7 : decode cX9_judge 7 = .ok (.lconst 0, 1) := by decide +kernel
theorem dX9_judge_8 : decode cX9_judge 8 = .ok (.ldc2_w 180, 3) := by decide +kernel
theorem dX9_judge_11 : decode cX9_judge 11 = .ok (.invokestatic 128, 3) := by decide +kernel
theorem dX9_judge_14 : decode cX9_judge 14 = .ok (.ifCond .eq 15, 3) := by decide +kernel
theorem dX9_judge_17 : decode cX9_judge 17 = .ok (.iload_n 2, 1) := by decide +kernel
theorem dX9_judge_18 : decode cX9_judge 18 = .ok (.i2l, 1) := by decide +kernel
theorem dX9_judge_19 : decode cX9_judge 19 = .ok (.lconst 0, 1) := by decide +kernel
theorem dX9_judge_20 : decode cX9_judge 20 = .ok (.ldc2_w 180, 3) := by decide +kernel
theorem dX9_judge_23 : decode cX9_judge 23 = .ok (.invokestatic 128, 3) := by decide +kernel
theorem dX9_judge_26 : decode cX9_judge 26 = .ok (.ifCond .ne 6, 3) := by decide +kernel
theorem dX9_judge_29 : decode cX9_judge 29 = .ok (.bipush (-2), 2) := by decide +kernel
theorem dX9_judge_31 : decode cX9_judge 31 = .ok (.ireturn, 1) := by decide +kernel
theorem dX9_judge_32 : decode cX9_judge 32 = .ok (.aload_n 0, 1) := by decide +kernel
theorem dX9_judge_33 : decode cX9_judge 33 = .ok (.getfield 51, 3) := by decide +kernel
theorem dX9_judge_36 : decode cX9_judge 36 = .ok (.iload_n 1, 1) := by decide +kernel
theorem dX9_judge_37 : decode cX9_judge 37 = .ok (.iaload, 1) := by decide +kernel
theorem dX9_judge_38 : decode cX9_judge 38 = .ok (.iconst (-1), 1) := by decide +kernel
theorem dX9_judge_39 : decode cX9_judge 39 = .ok (.if_icmp .ne 6, 3) := by decide +kernel
theorem dX9_judge_42 : decode cX9_judge 42 = .ok (.bipush (-6), 2) := by decide +kernel
theorem dX9_judge_44 : decode cX9_judge 44 = .ok (.ireturn, 1) := by decide +kernel
theorem dX9_judge_45 : decode cX9_judge 45 = .ok (.aload_n 0, 1) := by decide +kernel
theorem dX9_judge_46 : decode cX9_judge 46 = .ok (.iconst 0, 1) := by decide +kernel
theorem dX9_judge_47 : decode cX9_judge 47 = .ok (.invokevirtual 216, 3) := by decide +kernel
theorem dX9_judge_50 : decode cX9_judge 50 = .ok (.aload_n 0, 1) := by decide +kernel
theorem dX9_judge_51 : decode cX9_judge 51 = .ok (.iload_n 1, 1) := by decide +kernel
theorem dX9_judge_52 : decode cX9_judge 52 = .ok (.invokevirtual 219, 3) := by decide +kernel
theorem dX9_judge_55 : decode cX9_judge 55 = .ok (.istore_n 3, 1) := by decide +kernel
theorem dX9_judge_56 : decode cX9_judge 56 = .ok (.aload_n 0, 1) := by decide +kernel
theorem dX9_judge_57 : decode cX9_judge 57 = .ok (.getfield 13, 3) := by decide +kernel
theorem dX9_judge_60 : decode cX9_judge 60 = .ok (.iconst 0, 1) := by decide +kernel
theorem dX9_judge_61 : decode cX9_judge 61 = .ok (.iaload, 1) := by decide +kernel
theorem dX9_judge_62 : decode cX9_judge 62 = .ok (.ifCond .ne 7, 3) := by decide +kernel
theorem dX9_judge_65 : decode cX9_judge 65 = .ok (.iconst (-1), 1) := by decide +kernel
theorem dX9_judge_66 : decode cX9_judge 66 = .ok (.goto 9, 3) := by decide +kernel
theorem dX9_judge_69 : decode cX9_judge 69 = .ok (.aload_n 0, 1) := by decide +kernel
theorem dX9_judge_70 : decode cX9_judge 70 = .ok (.getfield 13, 3) := by decide +kernel
theorem dX9_judge_73 : decode cX9_judge 73 = .ok (.iconst 2, 1) := by decide +kernel
theorem dX9_judge_74 : decode cX9_judge 74 = .ok (.iaload, 1) := by decide +kernel
theorem dX9_judge_75 : decode cX9_judge 75 = .ok (.istore 4, 2) := by decide +kernel
theorem dX9_judge_77 : decode cX9_judge 77 = .ok (.aload_n 0, 1) := by decide +kernel
theorem dX9_judge_78 : decode cX9_judge 78 = .ok (.iconst 0, 1) := by decide +kernel
theorem dX9_judge_79 : decode cX9_judge 79 = .ok (.invokevirtual 222, 3) := by decide +kernel
theorem dX9_judge_82 : decode cX9_judge 82 = .ok (.iload_n 2, 1) := by decide +kernel
theorem dX9_judge_83 : decode cX9_judge 83 = .ok (.ifCond .ne 18, 3) := by decide +kernel
theorem dX9_judge_86 : decode cX9_judge 86 = .ok (.aload_n 0, 1) := by decide +kernel
theorem dX9_judge_87 : decode cX9_judge 87 = .ok (.getfield 210, 3) := by decide +kernel
theorem dX9_judge_90 : decode cX9_judge 90 = .ok (.ifCond .ne 7, 3) := by decide +kernel
theorem dX9_judge_93 : decode cX9_judge 93 = .ok (.iconst (-1), 1) := by decide +kernel
theorem dX9_judge_94 : decode cX9_judge 94 = .ok (.goto 33, 3) := by decide +kernel
theorem dX9_judge_97 : decode cX9_judge 97 = .ok (.iload_n 3, 1) := by decide +kernel
theorem dX9_judge_98 : decode cX9_judge 98 = .ok (.goto 29, 3) := by decide +kernel
