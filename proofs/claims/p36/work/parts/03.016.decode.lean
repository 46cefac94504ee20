theorem dX8_minute_9 : decode cX8_minute 9 = .ok (.istore_n 2, 1) := by decide +kernel
theorem dX8_minute_10 : decode cX8_minute 10 = .ok (.iload_n 2, 1) := by decide +kernel
theorem dX8_minute_11 : decode cX8_minute 11 = .ok (.ifCond .eq 16, 3) := by decide +kernel
theorem dX8_minute_14 : decode cX8_minute 14 = .ok (.iload_n 2, 1) := by decide +kernel
theorem dX8_minute_15 : decode cX8_minute 15 = .ok (.iconst 1, 1) := by decide +kernel
theorem dX8_minute_16 : decode cX8_minute 16 = .ok (.if_icmp .ne 8, 3) := by decide +kernel
theorem dX8_minute_19 : decode cX8_minute 19 = .ok (.bipush (-2), 2) := by decide +kernel
theorem dX8_minute_21 : decode cX8_minute 21 = .ok (.goto 5, 3) := by decide +kernel
theorem dX8_minute_24 : decode cX8_minute 24 = .ok (.bipush (-5), 2) := by decide +kernel
theorem dX8_minute_26 : decode cX8_minute 26 = .ok (.ireturn, 1) := by decide +kernel
theorem dX8_minute_27 : decode cX8_minute 27 = .ok (.aload_n 0, 1) := by decide +kernel
theorem dX8_minute_28 : decode cX8_minute 28 = .ok (.getfield 27, 3) := by decide +kernel
theorem dX8_minute_31 : decode cX8_minute 31 = .ok (.aload_n 0, 1) := by decide +kernel
theorem dX8_minute_32 : decode cX8_minute 32 = .ok (.getfield 27, 3) := by decide +kernel
theorem dX8_minute_35 : decode cX8_minute 35 = .ok (.aload_n 0, 1) := by decide +kernel
theorem dX8_minute_36 : decode cX8_minute 36 = .ok (.getfield 27, 3) := by decide +kernel
theorem dX8_minute_39 : decode cX8_minute 39 = .ok (.getfield 128, 3) := by decide +kernel
theorem dX8_minute_42 : decode cX8_minute 42 = .ok (.iload_n 1, 1) := by decide +kernel
theorem dX8_minute_43 : decode cX8_minute 43 = .ok (.i2l, 1) := by decide +kernel
theorem dX8_minute_44 : decode cX8_minute 44 = .ok (.invokevirtual 174, 3) := by decide +kernel
theorem dX8_minute_47 : decode cX8_minute 47 = .ok (.iconst 1, 1) := by decide +kernel
theorem dX8_minute_48 : decode cX8_minute 48 = .ok (.invokevirtual 178, 3) := by decide +kernel
theorem dX8_minute_51 : decode cX8_minute 51 = .ok (.ireturn, 1) := by decide +kernel
theorem dX8_judge_0 : decode cX8_judge 0 = .ok (.iload_n 1, 1) := by decide +kernel
theorem dX8_judge_1 : decode cX8_judge 1 = .ok (.invokestatic 182, 3) := by decide +kernel
theorem dX8_judge_4 : decode cX8_judge 4 = .ok (.ifCond .eq 12, 3) := by decide +kernel
theorem dX8_judge_7 : decode cX8_judge 7 = .ok (.iload_n 2, 1) := by decide +kernel
theorem dX8_judge_8 : decode cX8_judge 8 = .ok (.ifCond .lt 8, 3) := by decide +kernel
theorem dX8_judge_11 : decode cX8_judge 11 = .ok (.iload_n 2, 1) := by decide +kernel
theorem dX8_judge_12 : decode cX8_judge 12 = .ok (.iconst 3, 1) := by decide +kernel
theorem dX8_judge_13 : decode cX8_judge 13 = .ok (.if_icmp .le 6, 3) := by decide +kernel
theorem dX8_judge_16 : decode cX8_judge 16 = .ok (.bipush (-2), 2) := by decide +kernel
theorem dX8_judge_18 : decode cX8_judge 18 = .ok (.ireturn, 1) := by decide +kernel
theorem dX8_judge_19 : decode cX8_judge 19 = .ok (.aload_n 0, 1) := by decide +kernel
theorem dX8_judge_20 : decode cX8_judge 20 = .ok (.getfield 44, 3) := by decide +kernel
theorem dX8_judge_23 : decode cX8_judge 23 = .ok (.iload_n 1, 1) := by decide +kernel
theorem dX8_judge_24 : decode cX8_judge 24 = .ok (.aaload, 1) := by decide +kernel
theorem dX8_judge_25 : decode cX8_judge 25 = .ok (.astore_n 3, 1) := by decide +kernel
theorem dX8_judge_26 : decode cX8_judge 26 = .ok (.aload_n 3, 1) := by decide +kernel
theorem dX8_judge_27 : decode cX8_judge 27 = .ok (.getfield 185, 3) := by decide +kernel
theorem dX8_judge_30 : decode cX8_judge 30 = .ok (.ifCond .eq 6, 3) := by decide +kernel
theorem dX8_judge_33 : decode cX8_judge 33 = .ok (.bipush (-6), 2) := by decide +kernel
theorem dX8_judge_35 : decode cX8_judge 35 = .ok (.ireturn, 1) := by decide +kernel
theorem dX8_judge_36 : decode cX8_judge 36 = .ok (.aload_n 0, 1) := by decide +kernel
theorem dX8_judge_37 : decode cX8_judge 37 = .ok (.getfield 31, 3) := by decide +kernel
theorem dX8_judge_40 : decode cX8_judge 40 = .ok (.aload_n 0, 1) := by decide +kernel
theorem dX8_judge_41 : decode cX8_judge 41 = .ok (.getfield 27, 3) := by decide +kernel
theorem dX8_judge_44 : decode cX8_judge 44 = .ok (.invokevirtual 95, 3) := by decide +kernel
theorem dX8_judge_47 : decode cX8_judge 47 = .ok (.aload_n 0, 1) := by decide +kernel
theorem dX8_judge_48 : decode cX8_judge 48 = .ok (.getfield 31, 3) := by decide +kernel
theorem dX8_judge_51 : decode cX8_judge 51 = .ok (.aload_n 3, 1) := by decide +kernel
theorem dX8_judge_52 : decode cX8_judge 52 = .ok (.invokevirtual 189, 3) := by decide +kernel
theorem dX8_judge_55 : decode cX8_judge 55 = .ok (.istore 4, 2) := by decide +kernel
theorem dX8_judge_57 : decode cX8_judge 57 = .ok (.iload 4, 2) := by decide +kernel
theorem dX8_judge_59 : decode cX8_judge 59 = .ok (.aload_n 3, 1) := by decide +kernel
theorem dX8_judge_60 : decode cX8_judge 60 = .ok (.getfield 193, 3) := by decide +kernel
theorem dX8_judge_63 : decode cX8_judge 63 = .ok (.if_icmp .lt 7, 3) := by decide +kernel
theorem dX8_judge_66 : decode cX8_judge 66 = .ok (.iconst 1, 1) := by decide +kernel
theorem dX8_judge_67 : decode cX8_judge 67 = .ok (.goto 4, 3) := by decide +kernel
theorem dX8_judge_70 : decode cX8_judge 70 = .ok (.iconst 0, 1) := by decide +kernel
theorem dX8_judge_71 : decode cX8_judge 71 = .ok (.istore 5, 2) := by decide +kernel
theorem dX8_judge_73 : decode cX8_judge 73 = .ok (.iload_n 2, 1) := by decide +kernel
theorem dX8_judge_74 : decode cX8_judge 74 = .ok (.tableswitch 91 0 2 #[26, 38, 61], 26) := by decide +kernel
theorem dX8_judge_100 : decode cX8_judge 100 = .ok (.iload 5, 2) := by decide +kernel
theorem dX8_judge_102 : decode cX8_judge 102 = .ok (.ifCond .eq 7, 3) := by decide +kernel
theorem dX8_judge_105 : decode cX8_judge 105 = .ok (.iconst (-1), 1) := by decide +kernel
theorem dX8_judge_106 : decode cX8_judge 106 = .ok (.goto 5, 3) := by decide +kernel
theorem dX8_judge_109 : decode cX8_judge 109 = .ok (.iload 4, 2) := by decide +kernel
theorem dX8_judge_111 : decode cX8_judge 111 = .ok (.ireturn, 1) := by decide +kernel
theorem dX8_judge_112 : decode cX8_judge 112 = .ok (.iload 5, 2) := by decide +kernel
theorem dX8_judge_114 : decode cX8_judge 114 = .ok (.ifCond .eq 7, 3) := by decide +kernel
theorem dX8_judge_117 : decode cX8_judge 117 = .ok (.iconst 0, 1) := by decide +kernel
theorem dX8_judge_118 : decode cX8_judge 118 = .ok (.goto 16, 3) := by decide +kernel
theorem dX8_judge_121 : decode cX8_judge 121 = .ok (.aload_n 0, 1) := by decide +kernel
theorem dX8_judge_122 : decode cX8_judge 122 = .ok (.getfield 31, 3) := by decide +kernel
theorem dX8_judge_125 : decode cX8_judge 125 = .ok (.aload_n 3, 1) := by decide +kernel
theorem dX8_judge_126 : decode cX8_judge 126 = .ok (.iload 4, 2) := by decide +kernel
theorem dX8_judge_128 : decode cX8_judge 128 = .ok (.invokevirtual 196, 3) := by decide +kernel
theorem dX8_judge_131 : decode cX8_judge 131 = .ok (.invokevirtual 170, 3) := by decide +kernel
theorem dX8_judge_134 : decode cX8_judge 134 = .ok (.ireturn, 1) := by decide +kernel
theorem dX8_judge_135 : decode cX8_judge 135 = .ok (.aload_n 0, 1) := by decide +kernel
theorem dX8_judge_136 : decode cX8_judge 136 = .ok (.getfield 31, 3) := by decide +kernel
theorem dX8_judge_139 : decode cX8_judge 139 = .ok (.aload_n 0, 1) := by decide +kernel
theorem dX8_judge_140 : decode cX8_judge 140 = .ok (.getfield 31, 3) := by decide +kernel
theorem dX8_judge_143 : decode cX8_judge 143 = .ok (.getfield 125, 3) := by decide +kernel
theorem dX8_judge_146 : decode cX8_judge 146 = .ok (.invokevirtual 200, 3) := by decide +kernel
theorem dX8_judge_149 : decode cX8_judge 149 = .ok (.aload_n 0, 1) := by decide +kernel
theorem dX8_judge_150 : decode cX8_judge 150 = .ok (.getfield 27, 3) := by decide +kernel
theorem dX8_judge_153 : decode cX8_judge 153 = .ok (.aload_n 0, 1) := by decide +kernel
theorem dX8_judge_154 : decode cX8_judge 154 = .ok (.getfield 27, 3) := by decide +kernel
theorem dX8_judge_157 : decode cX8_judge 157 = .ok (.getfield 125, 3) := by decide +kernel
theorem dX8_judge_160 : decode cX8_judge 160 = .ok (.invokevirtual 200, 3) := by decide +kernel
theorem dX8_judge_163 : decode cX8_judge 163 = .ok (.isub, 1) := by decide +kernel
theorem dX8_judge_164 : decode cX8_judge 164 = .ok (.ireturn, 1) := by decide +kernel
theorem dX8_judge_165 : decode cX8_judge 165 = .ok (.aload_n 0, 1) := by decide +kernel
theorem dX8_judge_166 : decode cX8_judge 166 = .ok (.getfield 31, 3) := by decide +kernel
theorem dX8_judge_169 : decode cX8_judge 169 = .ok (.invokevirtual 204, 3) := by decide +kernel
theorem dX8_judge_172 : decode cX8_judge 172 = .ok (.ireturn, 1) := by decide +kernel
theorem dX8_perform_0 : decode cX8_perform 0 = .ok (.iload_n 1, 1) := by decide +kernel
theorem dX8_perform_1 : decode cX8_perform 1 = .ok (.invokestatic 182, 3) := by decide +kernel
theorem dX8_perform_4 : decode cX8_perform 4 = .ok (.ifCond .ne 6, 3) := by decide +kernel
theorem dX8_perform_7 : decode cX8_perform 7 = .ok (.bipush (-2), 2) := by decide +kernel
theorem dX8_perform_9 : decode cX8_perform 9 = .ok (.ireturn, 1) := by decide +kernel
theorem dX8_perform_10 : decode cX8_perform 10 = .ok (.aload_n 0, 1) := by decide +kernel
theorem dX8_perform_11 : decode cX8_perform 11 = .ok (.getfield 44, 3) := by decide +kernel
theorem dX8_perform_14 : decode cX8_perform 14 = .ok (.iload_n 1, 1) := by decide +kernel
theorem dX8_perform_15 : decode cX8_perform 15 = .ok (.aaload, 1) := by decide +kernel
theorem dX8_perform_16 : decode cX8_perform 16 = .ok (.getfield 185, 3) := by decide +kernel
theorem dX8_perform_19 : decode cX8_perform 19 = .ok (.ifCond .eq 6, 3) := by decide +kernel
theorem dX8_perform_22 : decode cX8_perform 22 = .ok (.bipush (-6), 2) := by decide +kernel
theorem dX8_perform_24 : decode cX8_perform 24 = .ok (.ireturn, 1) := by decide +kernel
theorem dX8_perform_25 : decode cX8_perform 25 = .ok (.aload_n 0, 1) := by decide +kernel
theorem dX8_perform_26 : decode cX8_perform 26 = .ok (.getfield 27, 3) := by decide +kernel
theorem dX8_perform_29 : decode cX8_perform 29 = .ok (.aload_n 0, 1) := by decide +kernel
theorem dX8_perform_30 : decode cX8_perform 30 = .ok (.getfield 44, 3) := by decide +kernel
theorem dX8_perform_33 : decode cX8_perform 33 = .ok (.iload_n 1, 1) := by decide +kernel
theorem dX8_perform_34 : decode cX8_perform 34 = .ok (.aaload, 1) := by decide +kernel
theorem dX8_perform_35 : decode cX8_perform 35 = .ok (.invokevirtual 189, 3) := by decide +kernel
theorem dX8_perform_38 : decode cX8_perform 38 = .ok (.ireturn, 1) := by decide +kernel
theorem dX8_fill_0 : decode cX8_fill 0 = .ok (.iload_n 1, 1) := by decide +kernel
theorem dX8_fill_1 : decode cX8_fill 1 = .ok (.ifCond .lt 9, 3) := by decide +kernel
theorem dX8_fill_4 : decode cX8_fill 4 = .ok (.iload_n 1, 1) := by decide +kernel
theorem dX8_fill_5 : decode cX8_fill 5 = .ok (.bipush 99, 2) := by decide +kernel
theorem dX8_fill_7 : decode cX8_fill 7 = .ok (.if_icmp .le 6, 3) := by decide +kernel
theorem dX8_fill_10 : decode cX8_fill 10 = .ok (.bipush (-3), 2) := by decide +kernel
theorem dX8_fill_12 : decode cX8_fill 12 = .ok (.ireturn, 1) := by decide +kernel
theorem dX8_fill_13 : decode cX8_fill 13 = .ok (.aload_n 0, 1) := by decide +kernel
theorem dX8_fill_14 : decode cX8_fill 14 = .ok (.getfield 27, 3) := by decide +kernel
theorem dX8_fill_17 : decode cX8_fill 17 = .ok (.sipush 999, 3) := by decide +kernel
theorem dX8_fill_20 : decode cX8_fill 20 = .ok (.aload_n 0, 1) := by decide +kernel
theorem dX8_fill_21 : decode cX8_fill 21 = .ok (.getfield 27, 3) := by decide +kernel
theorem dX8_fill_24 : decode cX8_fill 24 = .ok (.getfield 208, 3) := by decide +kernel
theorem dX8_fill_27 : decode cX8_fill 27 = .ok (.iload_n 1, 1) := by decide +kernel
theorem dX8_fill_28 : decode cX8_fill 28 = .ok (.iadd, 1) := by decide +kernel
theorem dX8_fill_29 : decode cX8_fill 29 = .ok (.invokestatic 211, 3) := by decide +kernel
theorem dX8_fill_32 : decode cX8_fill 32 = .ok (.putfield 208, 3) := by decide +kernel
theorem dX8_fill_35 : decode cX8_fill 35 = .ok (.aload_n 0, 1) := by decide +kernel
theorem dX8_fill_36 : decode cX8_fill 36 = .ok (.getfield 27, 3) := by decide +kernel
theorem dX8_fill_39 : decode cX8_fill 39 = .ok (.getfield 208, 3) := by decide +kernel
theorem dX8_fill_42 : decode cX8_fill 42 = .ok (.ireturn, 1) := by decide +kernel
theorem dX8_night_0 : decode cX8_night 0 = .ok (.iload_n 2, 1) := by decide +kernel
theorem dX8_night_1 : decode cX8_night 1 = .ok (.iconst 1, 1) := by decide +kernel
theorem dX8_night_2 : decode cX8_night 2 = .ok (.if_icmp .lt 9, 3) := by decide +kernel
theorem dX8_night_5 : decode cX8_night 5 = .ok (.iload_n 2, 1) := by decide +kernel
theorem dX8_night_6 : decode cX8_night 6 = .ok (.bipush 60, 2) := by decide +kernel
theorem dX8_night_8 : decode cX8_night 8 = .ok (.if_icmp .le 6, 3) := by decide +kernel
theorem dX8_night_11 : decode cX8_night 11 = .ok (.bipush (-3), 2) := by decide +kernel
theorem dX8_night_13 : decode cX8_night 13 = .ok (.ireturn, 1) := by decide +kernel
theorem dX8_night_14 : decode cX8_night 14 = .ok (.iload_n 2, 1) := by decide +kernel
theorem dX8_night_15 : decode cX8_night 15 = .ok (.aload_n 0, 1) := by decide +kernel
theorem dX8_night_16 : decode cX8_night 16 = .ok (.getfield 27, 3) := by decide +kernel
theorem dX8_night_19 : decode cX8_night 19 = .ok (.getfield 208, 3) := by decide +kernel
theorem dX8_night_22 : decode cX8_night 22 = .ok (.invokestatic 211, 3) := by decide +kernel
theorem dX8_night_25 : decode cX8_night 25 = .ok (.istore_n 3, 1) := by decide +kernel
theorem dX8_night_26 : decode cX8_night 26 = .ok (.aload_n 0, 1) := by decide +kernel
theorem dX8_night_27 : decode cX8_night 27 = .ok (.getfield 27, 3) := by decide +kernel
theorem dX8_night_30 : decode cX8_night 30 = .ok (.getfield 161, 3) := by decide +kernel
theorem dX8_night_33 : decode cX8_night 33 = .ok (.ifCond .eq 22, 3) := by decide +kernel
theorem dX8_night_36 : decode cX8_night 36 = .ok (.iload_n 3, 1) := by decide +kernel
theorem dX8_night_37 : decode cX8_night 37 = .ok (.ifCond .eq 18, 3) := by decide +kernel
theorem dX8_night_40 : decode cX8_night 40 = .ok (.aload_n 0, 1) := by decide +kernel
theorem dX8_night_41 : decode cX8_night 41 = .ok (.getfield 27, 3) := by decide +kernel
theorem dX8_night_44 : decode cX8_night 44 = .ok (.getfield 216, 3) := by decide +kernel
theorem dX8_night_47 : decode cX8_night 47 = .ok (.iload_n 3, 1) := by decide +kernel
theorem dX8_night_48 : decode cX8_night 48 = .ok (.iadd, 1) := by decide +kernel
theorem dX8_night_49 : decode cX8_night 49 = .ok (.sipush 9999, 3) := by decide +kernel
theorem dX8_night_52 : decode cX8_night 52 = .ok (.if_icmp .le 6, 3) := by decide +kernel
theorem dX8_night_55 : decode cX8_night 55 = .ok (.bipush (-5), 2) := by decide +kernel
theorem dX8_night_57 : decode cX8_night 57 = .ok (.ireturn, 1) := by decide +kernel
theorem dX8_night_58 : decode cX8_night 58 = .ok (.iload_n 1, 1) := by decide +kernel
theorem dX8_night_59 : decode cX8_night 59 = .ok (.istore 4, 2) := by decide +kernel
theorem dX8_night_61 : decode cX8_night 61 = .ok (.iconst 0, 1) := by decide +kernel
theorem dX8_night_62 : decode cX8_night 62 = .ok (.istore 5, 2) := by decide +kernel
theorem dX8_night_64 : decode cX8_night 64 = .ok (.iconst 0, 1) := by decide +kernel
theorem dX8_night_65 : decode cX8_night 65 = .ok (.istore 6, 2) := by decide +kernel
theorem dX8_night_67 : decode cX8_night 67 = .ok (.iload 6, 2) := by decide +kernel
theorem dX8_night_69 : decode cX8_night 69 = .ok (.iload_n 3, 1) := by decide +kernel
theorem dX8_night_70 : decode cX8_night 70 = .ok (.if_icmp .ge 104, 3) := by decide +kernel
theorem dX8_night_73 : decode cX8_night 73 = .ok (.iload 4, 2) := by decide +kernel
theorem dX8_night_75 : decode cX8_night 75 = .ok (.invokestatic 219, 3) := by decide +kernel
theorem dX8_night_78 : decode cX8_night 78 = .ok (.istore 4, 2) := by decide +kernel
theorem dX8_night_80 : decode cX8_night 80 = .ok (.aload_n 0, 1) := by decide +kernel
theorem dX8_night_81 : decode cX8_night 81 = .ok (.getfield 27, 3) := by decide +kernel
theorem dX8_night_84 : decode cX8_night 84 = .ok (.aload_n 0, 1) := by decide +kernel
theorem dX8_night_85 : decode cX8_night 85 = .ok (.getfield 27, 3) := by decide +kernel
theorem dX8_night_88 : decode cX8_night 88 = .ok (.getfield 128, 3) := by decide +kernel
theorem dX8_night_91 : decode cX8_night 91 = .ok (.iload 4, 2) := by decide +kernel
theorem dX8_night_93 : decode cX8_night 93 = .ok (.bipush 16, 2) := by decide +kernel
theorem dX8_night_95 : decode cX8_night 95 = .ok (.iushr, 1) := by decide +kernel
theorem dX8_night_96 : decode cX8_night 96 = .ok (.iconst 3, 1) := by decide +kernel
theorem dX8_night_97 : decode cX8_night 97 = .ok (.irem, 1) := by decide +kernel
theorem dX8_night_98 : decode cX8_night 98 = .ok (.i2l, 1) := by decide +kernel
theorem dX8_night_99 : decode cX8_night 99 = .ok (.invokevirtual 174, 3) := by decide +kernel
theorem dX8_night_102 : decode cX8_night 102 = .ok (.istore 7, 2) := by decide +kernel
theorem dX8_night_104 : decode cX8_night 104 = .ok (.iload 4, 2) := by decide +kernel
theorem dX8_night_106 : decode cX8_night 106 = .ok (.invokestatic 219, 3) := by decide +kernel
theorem dX8_night_109 : decode cX8_night 109 = .ok (.istore 4, 2) := by decide +kernel
theorem dX8_night_111 : decode cX8_night 111 = .ok (.iload 4, 2) := by decide +kernel
theorem dX8_night_113 : decode cX8_night 113 = .ok (.bipush 16, 2) := by decide +kernel
theorem dX8_night_115 : decode cX8_night 115 = .ok (.iushr, 1) := by decide +kernel
