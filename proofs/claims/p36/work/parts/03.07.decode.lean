theorem dX4_put_32 : decode cX4_put 32 = .ok (.laload, 1) := by decide +kernel
theorem dX4_put_33 : decode cX4_put 33 = .ok (.lreturn, 1) := by decide +kernel
theorem dX4_cut_0 : decode cX4_cut 0 = .ok (.aload_n 0, 1) := by decide +kernel
theorem dX4_cut_1 : decode cX4_cut 1 = .ok (.getfield 15, 3) := by decide +kernel
theorem dX4_cut_4 : decode cX4_cut 4 = .ok (.tableswitch 42 0 2 #[28, 33, 38], 28) := by decide +kernel
theorem dX4_cut_32 : decode cX4_cut 32 = .ok (.lload_n 1, 1) := by decide +kernel
theorem dX4_cut_33 : decode cX4_cut 33 = .ok (.l2i, 1) := by decide +kernel
theorem dX4_cut_34 : decode cX4_cut 34 = .ok (.i2b, 1) := by decide +kernel
theorem dX4_cut_35 : decode cX4_cut 35 = .ok (.i2l, 1) := by decide +kernel
theorem dX4_cut_36 : decode cX4_cut 36 = .ok (.lreturn, 1) := by decide +kernel
theorem dX4_cut_37 : decode cX4_cut 37 = .ok (.lload_n 1, 1) := by decide +kernel
theorem dX4_cut_38 : decode cX4_cut 38 = .ok (.l2i, 1) := by decide +kernel
theorem dX4_cut_39 : decode cX4_cut 39 = .ok (.i2s, 1) := by decide +kernel
theorem dX4_cut_40 : decode cX4_cut 40 = .ok (.i2l, 1) := by decide +kernel
theorem dX4_cut_41 : decode cX4_cut 41 = .ok (.lreturn, 1) := by decide +kernel
theorem dX4_cut_42 : decode cX4_cut 42 = .ok (.lload_n 1, 1) := by decide +kernel
theorem dX4_cut_43 : decode cX4_cut 43 = .ok (.l2i, 1) := by decide +kernel
theorem dX4_cut_44 : decode cX4_cut 44 = .ok (.i2l, 1) := by decide +kernel
theorem dX4_cut_45 : decode cX4_cut 45 = .ok (.lreturn, 1) := by decide +kernel
theorem dX4_cut_46 : decode cX4_cut 46 = .ok (.lload_n 1, 1) := by decide +kernel
theorem dX4_cut_47 : decode cX4_cut 47 = .ok (.lreturn, 1) := by decide +kernel
theorem dX5_seekAll_0 : decode cX5_seekAll 0 = .ok (.aload_n 1, 1) := by decide +kernel
theorem dX5_seekAll_1 : decode cX5_seekAll 1 = .ok (.aload_n 0, 1) := by decide +kernel
theorem dX5_seekAll_2 : decode cX5_seekAll 2 = .ok (.getfield 9, 3) := by decide +kernel
theorem dX5_seekAll_5 : decode cX5_seekAll 5 = .ok (.iconst (-1), 1) := by decide +kernel
theorem dX5_seekAll_6 : decode cX5_seekAll 6 = .ok (.invokevirtual 27, 3) := by decide +kernel
theorem dX5_seekAll_9 : decode cX5_seekAll 9 = .ok (.aload_n 1, 1) := by decide +kernel
theorem dX5_seekAll_10 : decode cX5_seekAll 10 = .ok (.aload_n 0, 1) := by decide +kernel
theorem dX5_seekAll_11 : decode cX5_seekAll 11 = .ok (.getfield 15, 3) := by decide +kernel
theorem dX5_seekAll_14 : decode cX5_seekAll 14 = .ok (.iconst 1, 1) := by decide +kernel
theorem dX5_seekAll_15 : decode cX5_seekAll 15 = .ok (.invokevirtual 27, 3) := by decide +kernel
theorem dX5_seekAll_18 : decode cX5_seekAll 18 = .ok (.aload_n 0, 1) := by decide +kernel
theorem dX5_seekAll_19 : decode cX5_seekAll 19 = .ok (.getfield 24, 3) := by decide +kernel
theorem dX5_seekAll_22 : decode cX5_seekAll 22 = .ok (.iconst 0, 1) := by decide +kernel
theorem dX5_seekAll_23 : decode cX5_seekAll 23 = .ok (.invokestatic 33, 3) := by decide +kernel
theorem dX5_seekAll_26 : decode cX5_seekAll 26 = .ok (.aload_n 2, 1) := by decide +kernel
theorem dX5_seekAll_27 : decode cX5_seekAll 27 = .ok (.iload_n 3, 1) := by decide +kernel
theorem dX5_seekAll_28 : decode cX5_seekAll 28 = .ok (.invokevirtual 38, 3) := by decide +kernel
theorem dX5_seekAll_31 : decode cX5_seekAll 31 = .ok (.istore 4, 2) := by decide +kernel
theorem dX5_seekAll_33 : decode cX5_seekAll 33 = .ok (.aload_n 2, 1) := by decide +kernel
theorem dX5_seekAll_34 : decode cX5_seekAll 34 = .ok (.iload_n 3, 1) := by decide +kernel
theorem dX5_seekAll_35 : decode cX5_seekAll 35 = .ok (.invokevirtual 44, 3) := by decide +kernel
theorem dX5_seekAll_38 : decode cX5_seekAll 38 = .ok (.istore 5, 2) := by decide +kernel
theorem dX5_seekAll_40 : decode cX5_seekAll 40 = .ok (.iload 5, 2) := by decide +kernel
theorem dX5_seekAll_42 : decode cX5_seekAll 42 = .ok (.iload 4, 2) := by decide +kernel
theorem dX5_seekAll_44 : decode cX5_seekAll 44 = .ok (.if_icmp .ge 35, 3) := by decide +kernel
theorem dX5_seekAll_47 : decode cX5_seekAll 47 = .ok (.aload_n 2, 1) := by decide +kernel
theorem dX5_seekAll_48 : decode cX5_seekAll 48 = .ok (.getfield 47, 3) := by decide +kernel
theorem dX5_seekAll_51 : decode cX5_seekAll 51 = .ok (.iload 5, 2) := by decide +kernel
theorem dX5_seekAll_53 : decode cX5_seekAll 53 = .ok (.baload, 1) := by decide +kernel
theorem dX5_seekAll_54 : decode cX5_seekAll 54 = .ok (.ifCond .ne 19, 3) := by decide +kernel
theorem dX5_seekAll_57 : decode cX5_seekAll 57 = .ok (.aload_n 1, 1) := by decide +kernel
theorem dX5_seekAll_58 : decode cX5_seekAll 58 = .ok (.aload_n 2, 1) := by decide +kernel
theorem dX5_seekAll_59 : decode cX5_seekAll 59 = .ok (.getfield 51, 3) := by decide +kernel
theorem dX5_seekAll_62 : decode cX5_seekAll 62 = .ok (.iload 5, 2) := by decide +kernel
theorem dX5_seekAll_64 : decode cX5_seekAll 64 = .ok (.laload, 1) := by decide +kernel
theorem dX5_seekAll_65 : decode cX5_seekAll 65 = .ok (.invokevirtual 55, 3) := by decide +kernel
theorem dX5_seekAll_68 : decode cX5_seekAll 68 = .ok (.aload_n 0, 1) := by decide +kernel
theorem dX5_seekAll_69 : decode cX5_seekAll 69 = .ok (.aload_n 1, 1) := by decide +kernel
theorem dX5_seekAll_70 : decode cX5_seekAll 70 = .ok (.invokevirtual 59, 3) := by decide +kernel
theorem dX5_seekAll_73 : decode cX5_seekAll 73 = .ok (.iinc 5 1, 3) := by decide +kernel
theorem dX5_seekAll_76 : decode cX5_seekAll 76 = .ok (.goto (-36), 3) := by decide +kernel
theorem dX5_seekAll_79 : decode cX5_seekAll 79 = .ok (.return_, 1) := by decide +kernel
theorem dX5_weigh_0 : decode cX5_weigh 0 = .ok (.aload_n 1, 1) := by decide +kernel
theorem dX5_weigh_1 : decode cX5_weigh 1 = .ok (.getfield 63, 3) := by decide +kernel
theorem dX5_weigh_4 : decode cX5_weigh 4 = .ok (.getfield 67, 3) := by decide +kernel
theorem dX5_weigh_7 : decode cX5_weigh 7 = .ok (.istore_n 2, 1) := by decide +kernel
theorem dX5_weigh_8 : decode cX5_weigh 8 = .ok (.iconst 0, 1) := by decide +kernel
theorem dX5_weigh_9 : decode cX5_weigh 9 = .ok (.istore_n 3, 1) := by decide +kernel
theorem dX5_weigh_10 : decode cX5_weigh 10 = .ok (.iconst 0, 1) := by decide +kernel
theorem dX5_weigh_11 : decode cX5_weigh 11 = .ok (.istore 4, 2) := by decide +kernel
theorem dX5_weigh_13 : decode cX5_weigh 13 = .ok (.iload 4, 2) := by decide +kernel
theorem dX5_weigh_15 : decode cX5_weigh 15 = .ok (.iload_n 2, 1) := by decide +kernel
theorem dX5_weigh_16 : decode cX5_weigh 16 = .ok (.if_icmp .ge 66, 3) := by decide +kernel
theorem dX5_weigh_19 : decode cX5_weigh 19 = .ok (.aload_n 1, 1) := by decide +kernel
theorem dX5_weigh_20 : decode cX5_weigh 20 = .ok (.aload_n 1, 1) := by decide +kernel
theorem dX5_weigh_21 : decode cX5_weigh 21 = .ok (.getfield 73, 3) := by decide +kernel
theorem dX5_weigh_24 : decode cX5_weigh 24 = .ok (.iload 4, 2) := by decide +kernel
theorem dX5_weigh_26 : decode cX5_weigh 26 = .ok (.invokevirtual 76, 3) := by decide +kernel
theorem dX5_weigh_29 : decode cX5_weigh 29 = .ok (.istore 5, 2) := by decide +kernel
theorem dX5_weigh_31 : decode cX5_weigh 31 = .ok (.aload_n 0, 1) := by decide +kernel
theorem dX5_weigh_32 : decode cX5_weigh 32 = .ok (.getfield 18, 3) := by decide +kernel
theorem dX5_weigh_35 : decode cX5_weigh 35 = .ok (.iload 4, 2) := by decide +kernel
theorem dX5_weigh_37 : decode cX5_weigh 37 = .ok (.aload_n 1, 1) := by decide +kernel
theorem dX5_weigh_38 : decode cX5_weigh 38 = .ok (.aload_n 0, 1) := by decide +kernel
theorem dX5_weigh_39 : decode cX5_weigh 39 = .ok (.getfield 9, 3) := by decide +kernel
theorem dX5_weigh_42 : decode cX5_weigh 42 = .ok (.iload 4, 2) := by decide +kernel
theorem dX5_weigh_44 : decode cX5_weigh 44 = .ok (.invokevirtual 76, 3) := by decide +kernel
theorem dX5_weigh_47 : decode cX5_weigh 47 = .ok (.iload 5, 2) := by decide +kernel
theorem dX5_weigh_49 : decode cX5_weigh 49 = .ok (.isub, 1) := by decide +kernel
theorem dX5_weigh_50 : decode cX5_weigh 50 = .ok (.iastore, 1) := by decide +kernel
theorem dX5_weigh_51 : decode cX5_weigh 51 = .ok (.aload_n 0, 1) := by decide +kernel
theorem dX5_weigh_52 : decode cX5_weigh 52 = .ok (.getfield 21, 3) := by decide +kernel
theorem dX5_weigh_55 : decode cX5_weigh 55 = .ok (.iload 4, 2) := by decide +kernel
theorem dX5_weigh_57 : decode cX5_weigh 57 = .ok (.aload_n 1, 1) := by decide +kernel
theorem dX5_weigh_58 : decode cX5_weigh 58 = .ok (.aload_n 0, 1) := by decide +kernel
theorem dX5_weigh_59 : decode cX5_weigh 59 = .ok (.getfield 15, 3) := by decide +kernel
theorem dX5_weigh_62 : decode cX5_weigh 62 = .ok (.iload 4, 2) := by decide +kernel
theorem dX5_weigh_64 : decode cX5_weigh 64 = .ok (.invokevirtual 76, 3) := by decide +kernel
theorem dX5_weigh_67 : decode cX5_weigh 67 = .ok (.iload 5, 2) := by decide +kernel
theorem dX5_weigh_69 : decode cX5_weigh 69 = .ok (.isub, 1) := by decide +kernel
theorem dX5_weigh_70 : decode cX5_weigh 70 = .ok (.iastore, 1) := by decide +kernel
theorem dX5_weigh_71 : decode cX5_weigh 71 = .ok (.iload_n 3, 1) := by decide +kernel
theorem dX5_weigh_72 : decode cX5_weigh 72 = .ok (.iload 5, 2) := by decide +kernel
theorem dX5_weigh_74 : decode cX5_weigh 74 = .ok (.iadd, 1) := by decide +kernel
theorem dX5_weigh_75 : decode cX5_weigh 75 = .ok (.istore_n 3, 1) := by decide +kernel
theorem dX5_weigh_76 : decode cX5_weigh 76 = .ok (.iinc 4 1, 3) := by decide +kernel
theorem dX5_weigh_79 : decode cX5_weigh 79 = .ok (.goto (-66), 3) := by decide +kernel
theorem dX5_weigh_82 : decode cX5_weigh 82 = .ok (.iconst 0, 1) := by decide +kernel
theorem dX5_weigh_83 : decode cX5_weigh 83 = .ok (.istore 4, 2) := by decide +kernel
theorem dX5_weigh_85 : decode cX5_weigh 85 = .ok (.iload 4, 2) := by decide +kernel
theorem dX5_weigh_87 : decode cX5_weigh 87 = .ok (.iload_n 2, 1) := by decide +kernel
theorem dX5_weigh_88 : decode cX5_weigh 88 = .ok (.if_icmp .ge 81, 3) := by decide +kernel
theorem dX5_weigh_91 : decode cX5_weigh 91 = .ok (.iload_n 3, 1) := by decide +kernel
theorem dX5_weigh_92 : decode cX5_weigh 92 = .ok (.aload_n 0, 1) := by decide +kernel
theorem dX5_weigh_93 : decode cX5_weigh 93 = .ok (.getfield 18, 3) := by decide +kernel
theorem dX5_weigh_96 : decode cX5_weigh 96 = .ok (.iload 4, 2) := by decide +kernel
theorem dX5_weigh_98 : decode cX5_weigh 98 = .ok (.iaload, 1) := by decide +kernel
theorem dX5_weigh_99 : decode cX5_weigh 99 = .ok (.iadd, 1) := by decide +kernel
theorem dX5_weigh_100 : decode cX5_weigh 100 = .ok (.istore 5, 2) := by decide +kernel
theorem dX5_weigh_102 : decode cX5_weigh 102 = .ok (.iload 4, 2) := by decide +kernel
theorem dX5_weigh_104 : decode cX5_weigh 104 = .ok (.bipush 16, 2) := by decide +kernel
theorem dX5_weigh_106 : decode cX5_weigh 106 = .ok (.imul, 1) := by decide +kernel
theorem dX5_weigh_107 : decode cX5_weigh 107 = .ok (.istore 6, 2) := by decide +kernel
theorem dX5_weigh_109 : decode cX5_weigh 109 = .ok (.iconst 0, 1) := by decide +kernel
theorem dX5_weigh_110 : decode cX5_weigh 110 = .ok (.istore 7, 2) := by decide +kernel
theorem dX5_weigh_112 : decode cX5_weigh 112 = .ok (.iload 7, 2) := by decide +kernel
theorem dX5_weigh_114 : decode cX5_weigh 114 = .ok (.iload_n 2, 1) := by decide +kernel
theorem dX5_weigh_115 : decode cX5_weigh 115 = .ok (.if_icmp .ge 48, 3) := by decide +kernel
theorem dX5_weigh_118 : decode cX5_weigh 118 = .ok (.iload 5, 2) := by decide +kernel
theorem dX5_weigh_120 : decode cX5_weigh 120 = .ok (.aload_n 0, 1) := by decide +kernel
theorem dX5_weigh_121 : decode cX5_weigh 121 = .ok (.getfield 21, 3) := by decide +kernel
theorem dX5_weigh_124 : decode cX5_weigh 124 = .ok (.iload 7, 2) := by decide +kernel
theorem dX5_weigh_126 : decode cX5_weigh 126 = .ok (.iaload, 1) := by decide +kernel
theorem dX5_weigh_127 : decode cX5_weigh 127 = .ok (.iadd, 1) := by decide +kernel
theorem dX5_weigh_128 : decode cX5_weigh 128 = .ok (.istore 8, 2) := by decide +kernel
theorem dX5_weigh_130 : decode cX5_weigh 130 = .ok (.iload 8, 2) := by decide +kernel
theorem dX5_weigh_132 : decode cX5_weigh 132 = .ok (.aload_n 0, 1) := by decide +kernel
theorem dX5_weigh_133 : decode cX5_weigh 133 = .ok (.getfield 24, 3) := by decide +kernel
theorem dX5_weigh_136 : decode cX5_weigh 136 = .ok (.iload 6, 2) := by decide +kernel
theorem dX5_weigh_138 : decode cX5_weigh 138 = .ok (.iload 7, 2) := by decide +kernel
theorem dX5_weigh_140 : decode cX5_weigh 140 = .ok (.iadd, 1) := by decide +kernel
theorem dX5_weigh_141 : decode cX5_weigh 141 = .ok (.iaload, 1) := by decide +kernel
theorem dX5_weigh_142 : decode cX5_weigh 142 = .ok (.if_icmp .le 15, 3) := by decide +kernel
theorem dX5_weigh_145 : decode cX5_weigh 145 = .ok (.aload_n 0, 1) := by decide +kernel
theorem dX5_weigh_146 : decode cX5_weigh 146 = .ok (.getfield 24, 3) := by decide +kernel
theorem dX5_weigh_149 : decode cX5_weigh 149 = .ok (.iload 6, 2) := by decide +kernel
theorem dX5_weigh_151 : decode cX5_weigh 151 = .ok (.iload 7, 2) := by decide +kernel
theorem dX5_weigh_153 : decode cX5_weigh 153 = .ok (.iadd, 1) := by decide +kernel
theorem dX5_weigh_154 : decode cX5_weigh 154 = .ok (.iload 8, 2) := by decide +kernel
theorem dX5_weigh_156 : decode cX5_weigh 156 = .ok (.iastore, 1) := by decide +kernel
theorem dX5_weigh_157 : decode cX5_weigh 157 = .ok (.iinc 7 1, 3) := by decide +kernel
theorem dX5_weigh_160 : decode cX5_weigh 160 = .ok (.goto (-48), 3) := by decide +kernel
theorem dX5_weigh_163 : decode cX5_weigh 163 = .ok (.iinc 4 1, 3) := by decide +kernel
theorem dX5_weigh_166 : decode cX5_weigh 166 = .ok (.goto (-81), 3) := by decide +kernel
theorem dX5_weigh_169 : decode cX5_weigh 169 = .ok (.return_, 1) := by decide +kernel
theorem dX7_first_0 : decode cX7_first 0 = .ok (.aload_n 0, 1) := by decide +kernel
theorem dX7_first_1 : decode cX7_first 1 = .ok (.getfield 32, 3) := by decide +kernel
theorem dX7_first_4 : decode cX7_first 4 = .ok (.iconst 0, 1) := by decide +kernel
theorem dX7_first_5 : decode cX7_first 5 = .ok (.iload_n 1, 1) := by decide +kernel
theorem dX7_first_6 : decode cX7_first 6 = .ok (.aload_n 0, 1) := by decide +kernel
theorem dX7_first_7 : decode cX7_first 7 = .ok (.getfield 42, 3) := by decide +kernel
theorem dX7_first_10 : decode cX7_first 10 = .ok (.invokestatic 52, 3) := by decide +kernel
theorem dX7_first_13 : decode cX7_first 13 = .ok (.invokestatic 67, 3) := by decide +kernel
theorem dX7_first_16 : decode cX7_first 16 = .ok (.iaload, 1) := by decide +kernel
theorem dX7_first_17 : decode cX7_first 17 = .ok (.ireturn, 1) := by decide +kernel
theorem dX7_end_0 : decode cX7_end 0 = .ok (.aload_n 0, 1) := by decide +kernel
theorem dX7_end_1 : decode cX7_end 1 = .ok (.getfield 32, 3) := by decide +kernel
theorem dX7_end_4 : decode cX7_end 4 = .ok (.iconst 0, 1) := by decide +kernel
theorem dX7_end_5 : decode cX7_end 5 = .ok (.iload_n 1, 1) := by decide +kernel
theorem dX7_end_6 : decode cX7_end 6 = .ok (.aload_n 0, 1) := by decide +kernel
theorem dX7_end_7 : decode cX7_end 7 = .ok (.getfield 42, 3) := by decide +kernel
theorem dX7_end_10 : decode cX7_end 10 = .ok (.invokestatic 52, 3) := by decide +kernel
theorem dX7_end_13 : decode cX7_end 13 = .ok (.invokestatic 67, 3) := by decide +kernel
theorem dX7_end_16 : decode cX7_end 16 = .ok (.iconst 1, 1) := by decide +kernel
theorem dX7_end_17 : decode cX7_end 17 = .ok (.iadd, 1) := by decide +kernel
theorem dX7_end_18 : decode cX7_end 18 = .ok (.iaload, 1) := by decide +kernel
theorem dX7_end_19 : decode cX7_end 19 = .ok (.ireturn, 1) := by decide +kernel
theorem dX7_moveOf_0 : decode cX7_moveOf 0 = .ok (.iload_n 3, 1) := by decide +kernel
theorem dX7_moveOf_1 : decode cX7_moveOf 1 = .ok (.ifCond .lt 8, 3) := by decide +kernel
theorem dX7_moveOf_4 : decode cX7_moveOf 4 = .ok (.iload_n 3, 1) := by decide +kernel
theorem dX7_moveOf_5 : decode cX7_moveOf 5 = .ok (.iload_n 2, 1) := by decide +kernel
theorem dX7_moveOf_6 : decode cX7_moveOf 6 = .ok (.if_icmp .lt 5, 3) := by decide +kernel
theorem dX7_moveOf_9 : decode cX7_moveOf 9 = .ok (.iconst (-1), 1) := by decide +kernel
theorem dX7_moveOf_10 : decode cX7_moveOf 10 = .ok (.ireturn, 1) := by decide +kernel
theorem dX7_moveOf_11 : decode cX7_moveOf 11 = .ok (.aload_n 0, 1) := by decide +kernel
theorem dX7_moveOf_12 : decode cX7_moveOf 12 = .ok (.getfield 22, 3) := by decide +kernel
theorem dX7_moveOf_15 : decode cX7_moveOf 15 = .ok (.iload_n 1, 1) := by decide +kernel
theorem dX7_moveOf_16 : decode cX7_moveOf 16 = .ok (.iaload, 1) := by decide +kernel
theorem dX7_moveOf_17 : decode cX7_moveOf 17 = .ok (.iconst 2, 1) := by decide +kernel
theorem dX7_moveOf_18 : decode cX7_moveOf 18 = .ok (.iload_n 2, 1) := by decide +kernel
theorem dX7_moveOf_19 : decode cX7_moveOf 19 = .ok (.iconst 1, 1) := by decide +kernel
theorem dX7_moveOf_20 : decode cX7_moveOf 20 = .ok (.isub, 1) := by decide +kernel
theorem dX7_moveOf_21 : decode cX7_moveOf 21 = .ok (.iload_n 3, 1) := by decide +kernel
theorem dX7_moveOf_22 : decode cX7_moveOf 22 = .ok (.isub, 1) := by decide +kernel
theorem dX7_moveOf_23 : decode cX7_moveOf 23 = .ok (.imul, 1) := by decide +kernel
theorem dX7_moveOf_24 : decode cX7_moveOf 24 = .ok (.ishr, 1) := by decide +kernel
theorem dX7_moveOf_25 : decode cX7_moveOf 25 = .ok (.iconst 3, 1) := by decide +kernel
theorem dX7_moveOf_26 : decode cX7_moveOf 26 = .ok (.iand, 1) := by decide +kernel
theorem dX7_moveOf_27 : decode cX7_moveOf 27 = .ok (.ireturn, 1) := by decide +kernel
