theorem dX3_empty_38 : decode cX3_empty 38 = .ok (.bipush 60, 2) := by decide +kernel
theorem dX3_empty_40 : decode cX3_empty 40 = .ok (.putfield 55, 3) := by decide +kernel
theorem dX3_empty_43 : decode cX3_empty 43 = .ok (.aload_n 0, 1) := by decide +kernel
theorem dX3_empty_44 : decode cX3_empty 44 = .ok (.iconst 0, 1) := by decide +kernel
theorem dX3_empty_45 : decode cX3_empty 45 = .ok (.putfield 58, 3) := by decide +kernel
theorem dX3_empty_48 : decode cX3_empty 48 = .ok (.aload_n 0, 1) := by decide +kernel
theorem dX3_empty_49 : decode cX3_empty 49 = .ok (.iconst 0, 1) := by decide +kernel
theorem dX3_empty_50 : decode cX3_empty 50 = .ok (.putfield 61, 3) := by decide +kernel
theorem dX3_empty_53 : decode cX3_empty 53 = .ok (.aload_n 0, 1) := by decide +kernel
theorem dX3_empty_54 : decode cX3_empty 54 = .ok (.getfield 27, 3) := by decide +kernel
theorem dX3_empty_57 : decode cX3_empty 57 = .ok (.iconst 1, 1) := by decide +kernel
theorem dX3_empty_58 : decode cX3_empty 58 = .ok (.invokestatic 64, 3) := by decide +kernel
theorem dX3_empty_61 : decode cX3_empty 61 = .ok (.return_, 1) := by decide +kernel
theorem dX3_become_0 : decode cX3_become 0 = .ok (.aload_n 0, 1) := by decide +kernel
theorem dX3_become_1 : decode cX3_become 1 = .ok (.aload_n 1, 1) := by decide +kernel
theorem dX3_become_2 : decode cX3_become 2 = .ok (.getfield 33, 3) := by decide +kernel
theorem dX3_become_5 : decode cX3_become 5 = .ok (.putfield 33, 3) := by decide +kernel
theorem dX3_become_8 : decode cX3_become 8 = .ok (.aload_n 0, 1) := by decide +kernel
theorem dX3_become_9 : decode cX3_become 9 = .ok (.aload_n 1, 1) := by decide +kernel
theorem dX3_become_10 : decode cX3_become 10 = .ok (.getfield 37, 3) := by decide +kernel
theorem dX3_become_13 : decode cX3_become 13 = .ok (.putfield 37, 3) := by decide +kernel
theorem dX3_become_16 : decode cX3_become 16 = .ok (.aload_n 0, 1) := by decide +kernel
theorem dX3_become_17 : decode cX3_become 17 = .ok (.aload_n 1, 1) := by decide +kernel
theorem dX3_become_18 : decode cX3_become 18 = .ok (.getfield 40, 3) := by decide +kernel
theorem dX3_become_21 : decode cX3_become 21 = .ok (.putfield 40, 3) := by decide +kernel
theorem dX3_become_24 : decode cX3_become 24 = .ok (.aload_n 0, 1) := by decide +kernel
theorem dX3_become_25 : decode cX3_become 25 = .ok (.aload_n 1, 1) := by decide +kernel
theorem dX3_become_26 : decode cX3_become 26 = .ok (.getfield 43, 3) := by decide +kernel
theorem dX3_become_29 : decode cX3_become 29 = .ok (.putfield 43, 3) := by decide +kernel
theorem dX3_become_32 : decode cX3_become 32 = .ok (.aload_n 0, 1) := by decide +kernel
theorem dX3_become_33 : decode cX3_become 33 = .ok (.aload_n 1, 1) := by decide +kernel
theorem dX3_become_34 : decode cX3_become 34 = .ok (.getfield 46, 3) := by decide +kernel
theorem dX3_become_37 : decode cX3_become 37 = .ok (.putfield 46, 3) := by decide +kernel
theorem dX3_become_40 : decode cX3_become 40 = .ok (.aload_n 0, 1) := by decide +kernel
theorem dX3_become_41 : decode cX3_become 41 = .ok (.aload_n 1, 1) := by decide +kernel
theorem dX3_become_42 : decode cX3_become 42 = .ok (.getfield 49, 3) := by decide +kernel
theorem dX3_become_45 : decode cX3_become 45 = .ok (.putfield 49, 3) := by decide +kernel
theorem dX3_become_48 : decode cX3_become 48 = .ok (.aload_n 0, 1) := by decide +kernel
theorem dX3_become_49 : decode cX3_become 49 = .ok (.aload_n 1, 1) := by decide +kernel
theorem dX3_become_50 : decode cX3_become 50 = .ok (.getfield 52, 3) := by decide +kernel
theorem dX3_become_53 : decode cX3_become 53 = .ok (.putfield 52, 3) := by decide +kernel
theorem dX3_become_56 : decode cX3_become 56 = .ok (.aload_n 0, 1) := by decide +kernel
theorem dX3_become_57 : decode cX3_become 57 = .ok (.aload_n 1, 1) := by decide +kernel
theorem dX3_become_58 : decode cX3_become 58 = .ok (.getfield 55, 3) := by decide +kernel
theorem dX3_become_61 : decode cX3_become 61 = .ok (.putfield 55, 3) := by decide +kernel
theorem dX3_become_64 : decode cX3_become 64 = .ok (.aload_n 0, 1) := by decide +kernel
theorem dX3_become_65 : decode cX3_become 65 = .ok (.aload_n 1, 1) := by decide +kernel
theorem dX3_become_66 : decode cX3_become 66 = .ok (.getfield 58, 3) := by decide +kernel
theorem dX3_become_69 : decode cX3_become 69 = .ok (.putfield 58, 3) := by decide +kernel
theorem dX3_become_72 : decode cX3_become 72 = .ok (.aload_n 0, 1) := by decide +kernel
theorem dX3_become_73 : decode cX3_become 73 = .ok (.aload_n 1, 1) := by decide +kernel
theorem dX3_become_74 : decode cX3_become 74 = .ok (.getfield 61, 3) := by decide +kernel
theorem dX3_become_77 : decode cX3_become 77 = .ok (.putfield 61, 3) := by decide +kernel
theorem dX3_become_80 : decode cX3_become 80 = .ok (.aload_n 1, 1) := by decide +kernel
theorem dX3_become_81 : decode cX3_become 81 = .ok (.getfield 9, 3) := by decide +kernel
theorem dX3_become_84 : decode cX3_become 84 = .ok (.iconst 0, 1) := by decide +kernel
theorem dX3_become_85 : decode cX3_become 85 = .ok (.aload_n 0, 1) := by decide +kernel
theorem dX3_become_86 : decode cX3_become 86 = .ok (.getfield 9, 3) := by decide +kernel
theorem dX3_become_89 : decode cX3_become 89 = .ok (.iconst 0, 1) := by decide +kernel
theorem dX3_become_90 : decode cX3_become 90 = .ok (.bipush 16, 2) := by decide +kernel
theorem dX3_become_92 : decode cX3_become 92 = .ok (.invokestatic 70, 3) := by decide +kernel
theorem dX3_become_95 : decode cX3_become 95 = .ok (.aload_n 1, 1) := by decide +kernel
theorem dX3_become_96 : decode cX3_become 96 = .ok (.getfield 15, 3) := by decide +kernel
theorem dX3_become_99 : decode cX3_become 99 = .ok (.iconst 0, 1) := by decide +kernel
theorem dX3_become_100 : decode cX3_become 100 = .ok (.aload_n 0, 1) := by decide +kernel
theorem dX3_become_101 : decode cX3_become 101 = .ok (.getfield 15, 3) := by decide +kernel
theorem dX3_become_104 : decode cX3_become 104 = .ok (.iconst 0, 1) := by decide +kernel
theorem dX3_become_105 : decode cX3_become 105 = .ok (.bipush 16, 2) := by decide +kernel
theorem dX3_become_107 : decode cX3_become 107 = .ok (.invokestatic 70, 3) := by decide +kernel
theorem dX3_become_110 : decode cX3_become 110 = .ok (.aload_n 1, 1) := by decide +kernel
theorem dX3_become_111 : decode cX3_become 111 = .ok (.getfield 18, 3) := by decide +kernel
theorem dX3_become_114 : decode cX3_become 114 = .ok (.iconst 0, 1) := by decide +kernel
theorem dX3_become_115 : decode cX3_become 115 = .ok (.aload_n 0, 1) := by decide +kernel
theorem dX3_become_116 : decode cX3_become 116 = .ok (.getfield 18, 3) := by decide +kernel
theorem dX3_become_119 : decode cX3_become 119 = .ok (.iconst 0, 1) := by decide +kernel
theorem dX3_become_120 : decode cX3_become 120 = .ok (.bipush 16, 2) := by decide +kernel
theorem dX3_become_122 : decode cX3_become 122 = .ok (.invokestatic 70, 3) := by decide +kernel
theorem dX3_become_125 : decode cX3_become 125 = .ok (.aload_n 1, 1) := by decide +kernel
theorem dX3_become_126 : decode cX3_become 126 = .ok (.getfield 21, 3) := by decide +kernel
theorem dX3_become_129 : decode cX3_become 129 = .ok (.iconst 0, 1) := by decide +kernel
theorem dX3_become_130 : decode cX3_become 130 = .ok (.aload_n 0, 1) := by decide +kernel
theorem dX3_become_131 : decode cX3_become 131 = .ok (.getfield 21, 3) := by decide +kernel
theorem dX3_become_134 : decode cX3_become 134 = .ok (.iconst 0, 1) := by decide +kernel
theorem dX3_become_135 : decode cX3_become 135 = .ok (.bipush 16, 2) := by decide +kernel
theorem dX3_become_137 : decode cX3_become 137 = .ok (.invokestatic 70, 3) := by decide +kernel
theorem dX3_become_140 : decode cX3_become 140 = .ok (.aload_n 1, 1) := by decide +kernel
theorem dX3_become_141 : decode cX3_become 141 = .ok (.getfield 24, 3) := by decide +kernel
theorem dX3_become_144 : decode cX3_become 144 = .ok (.iconst 0, 1) := by decide +kernel
theorem dX3_become_145 : decode cX3_become 145 = .ok (.aload_n 0, 1) := by decide +kernel
theorem dX3_become_146 : decode cX3_become 146 = .ok (.getfield 24, 3) := by decide +kernel
theorem dX3_become_149 : decode cX3_become 149 = .ok (.iconst 0, 1) := by decide +kernel
theorem dX3_become_150 : decode cX3_become 150 = .ok (.bipush 16, 2) := by decide +kernel
theorem dX3_become_152 : decode cX3_become 152 = .ok (.invokestatic 70, 3) := by decide +kernel
theorem dX3_become_155 : decode cX3_become 155 = .ok (.aload_n 1, 1) := by decide +kernel
theorem dX3_become_156 : decode cX3_become 156 = .ok (.getfield 27, 3) := by decide +kernel
theorem dX3_become_159 : decode cX3_become 159 = .ok (.iconst 0, 1) := by decide +kernel
theorem dX3_become_160 : decode cX3_become 160 = .ok (.aload_n 0, 1) := by decide +kernel
theorem dX3_become_161 : decode cX3_become 161 = .ok (.getfield 27, 3) := by decide +kernel
theorem dX3_become_164 : decode cX3_become 164 = .ok (.iconst 0, 1) := by decide +kernel
theorem dX3_become_165 : decode cX3_become 165 = .ok (.bipush 6, 2) := by decide +kernel
theorem dX3_become_167 : decode cX3_become 167 = .ok (.invokestatic 70, 3) := by decide +kernel
theorem dX3_become_170 : decode cX3_become 170 = .ok (.return_, 1) := by decide +kernel
theorem dX3_addStrip_0 : decode cX3_addStrip 0 = .ok (.aload_n 0, 1) := by decide +kernel
theorem dX3_addStrip_1 : decode cX3_addStrip 1 = .ok (.getfield 33, 3) := by decide +kernel
theorem dX3_addStrip_4 : decode cX3_addStrip 4 = .ok (.bipush 16, 2) := by decide +kernel
theorem dX3_addStrip_6 : decode cX3_addStrip 6 = .ok (.if_icmp .ge 64, 3) := by decide +kernel
theorem dX3_addStrip_9 : decode cX3_addStrip 9 = .ok (.aload_n 0, 1) := by decide +kernel
theorem dX3_addStrip_10 : decode cX3_addStrip 10 = .ok (.getfield 9, 3) := by decide +kernel
theorem dX3_addStrip_13 : decode cX3_addStrip 13 = .ok (.aload_n 0, 1) := by decide +kernel
theorem dX3_addStrip_14 : decode cX3_addStrip 14 = .ok (.getfield 33, 3) := by decide +kernel
theorem dX3_addStrip_17 : decode cX3_addStrip 17 = .ok (.iload_n 1, 1) := by decide +kernel
theorem dX3_addStrip_18 : decode cX3_addStrip 18 = .ok (.iastore, 1) := by decide +kernel
theorem dX3_addStrip_19 : decode cX3_addStrip 19 = .ok (.aload_n 0, 1) := by decide +kernel
theorem dX3_addStrip_20 : decode cX3_addStrip 20 = .ok (.getfield 15, 3) := by decide +kernel
theorem dX3_addStrip_23 : decode cX3_addStrip 23 = .ok (.aload_n 0, 1) := by decide +kernel
theorem dX3_addStrip_24 : decode cX3_addStrip 24 = .ok (.getfield 33, 3) := by decide +kernel
theorem dX3_addStrip_27 : decode cX3_addStrip 27 = .ok (.iload_n 2, 1) := by decide +kernel
theorem dX3_addStrip_28 : decode cX3_addStrip 28 = .ok (.iastore, 1) := by decide +kernel
theorem dX3_addStrip_29 : decode cX3_addStrip 29 = .ok (.aload_n 0, 1) := by decide +kernel
theorem dX3_addStrip_30 : decode cX3_addStrip 30 = .ok (.getfield 18, 3) := by decide +kernel
theorem dX3_addStrip_33 : decode cX3_addStrip 33 = .ok (.aload_n 0, 1) := by decide +kernel
theorem dX3_addStrip_34 : decode cX3_addStrip 34 = .ok (.getfield 33, 3) := by decide +kernel
theorem dX3_addStrip_37 : decode cX3_addStrip 37 = .ok (.iload_n 3, 1) := by decide +kernel
theorem dX3_addStrip_38 : decode cX3_addStrip 38 = .ok (.iastore, 1) := by decide +kernel
theorem dX3_addStrip_39 : decode cX3_addStrip 39 = .ok (.aload_n 0, 1) := by decide +kernel
theorem dX3_addStrip_40 : decode cX3_addStrip 40 = .ok (.getfield 21, 3) := by decide +kernel
theorem dX3_addStrip_43 : decode cX3_addStrip 43 = .ok (.aload_n 0, 1) := by decide +kernel
theorem dX3_addStrip_44 : decode cX3_addStrip 44 = .ok (.getfield 33, 3) := by decide +kernel
theorem dX3_addStrip_47 : decode cX3_addStrip 47 = .ok (.iload 4, 2) := by decide +kernel
theorem dX3_addStrip_49 : decode cX3_addStrip 49 = .ok (.iastore, 1) := by decide +kernel
theorem dX3_addStrip_50 : decode cX3_addStrip 50 = .ok (.aload_n 0, 1) := by decide +kernel
theorem dX3_addStrip_51 : decode cX3_addStrip 51 = .ok (.getfield 24, 3) := by decide +kernel
theorem dX3_addStrip_54 : decode cX3_addStrip 54 = .ok (.aload_n 0, 1) := by decide +kernel
theorem dX3_addStrip_55 : decode cX3_addStrip 55 = .ok (.getfield 33, 3) := by decide +kernel
theorem dX3_addStrip_58 : decode cX3_addStrip 58 = .ok (.iconst 0, 1) := by decide +kernel
theorem dX3_addStrip_59 : decode cX3_addStrip 59 = .ok (.iastore, 1) := by decide +kernel
theorem dX3_addStrip_60 : decode cX3_addStrip 60 = .ok (.aload_n 0, 1) := by decide +kernel
theorem dX3_addStrip_61 : decode cX3_addStrip 61 = .ok (.dup, 1) := by decide +kernel
theorem dX3_addStrip_62 : decode cX3_addStrip 62 = .ok (.getfield 33, 3) := by decide +kernel
theorem dX3_addStrip_65 : decode cX3_addStrip 65 = .ok (.iconst 1, 1) := by decide +kernel
theorem dX3_addStrip_66 : decode cX3_addStrip 66 = .ok (.iadd, 1) := by decide +kernel
theorem dX3_addStrip_67 : decode cX3_addStrip 67 = .ok (.putfield 33, 3) := by decide +kernel
theorem dX3_addStrip_70 : decode cX3_addStrip 70 = .ok (.return_, 1) := by decide +kernel
theorem dX3_hasStrip_0 : decode cX3_hasStrip 0 = .ok (.iload_n 1, 1) := by decide +kernel
theorem dX3_hasStrip_1 : decode cX3_hasStrip 1 = .ok (.ifCond .lt 15, 3) := by decide +kernel
theorem dX3_hasStrip_4 : decode cX3_hasStrip 4 = .ok (.iload_n 1, 1) := by decide +kernel
theorem dX3_hasStrip_5 : decode cX3_hasStrip 5 = .ok (.aload_n 0, 1) := by decide +kernel
theorem dX3_hasStrip_6 : decode cX3_hasStrip 6 = .ok (.getfield 33, 3) := by decide +kernel
theorem dX3_hasStrip_9 : decode cX3_hasStrip 9 = .ok (.if_icmp .ge 7, 3) := by decide +kernel
theorem dX3_hasStrip_12 : decode cX3_hasStrip 12 = .ok (.iconst 1, 1) := by decide +kernel
theorem dX3_hasStrip_13 : decode cX3_hasStrip 13 = .ok (.goto 4, 3) := by decide +kernel
theorem dX3_hasStrip_16 : decode cX3_hasStrip 16 = .ok (.iconst 0, 1) := by decide +kernel
theorem dX3_hasStrip_17 : decode cX3_hasStrip 17 = .ok (.ireturn, 1) := by decide +kernel
theorem dX3_allStrips_0 : decode cX3_allStrips 0 = .ok (.iconst 1, 1) := by decide +kernel
theorem dX3_allStrips_1 : decode cX3_allStrips 1 = .ok (.aload_n 0, 1) := by decide +kernel
theorem dX3_allStrips_2 : decode cX3_allStrips 2 = .ok (.getfield 33, 3) := by decide +kernel
theorem dX3_allStrips_5 : decode cX3_allStrips 5 = .ok (.ishl, 1) := by decide +kernel
theorem dX3_allStrips_6 : decode cX3_allStrips 6 = .ok (.iconst 1, 1) := by decide +kernel
theorem dX3_allStrips_7 : decode cX3_allStrips 7 = .ok (.isub, 1) := by decide +kernel
theorem dX3_allStrips_8 : decode cX3_allStrips 8 = .ok (.ireturn, 1) := by decide +kernel
theorem dX3_areStrips_0 : decode cX3_areStrips 0 = .ok (.iload_n 1, 1) := by decide +kernel
theorem dX3_areStrips_1 : decode cX3_areStrips 1 = .ok (.aload_n 0, 1) := by decide +kernel
theorem dX3_areStrips_2 : decode cX3_areStrips 2 = .ok (.invokevirtual 76, 3) := by decide +kernel
theorem dX3_areStrips_5 : decode cX3_areStrips 5 = .ok (.iconst (-1), 1) := by decide +kernel
theorem dX3_areStrips_6 : decode cX3_areStrips 6 = .ok (.ixor, 1) := by decide +kernel
theorem dX3_areStrips_7 : decode cX3_areStrips 7 = .ok (.iand, 1) := by decide +kernel
theorem dX3_areStrips_8 : decode cX3_areStrips 8 = .ok (.ifCond .ne 7, 3) := by decide +kernel
theorem dX3_areStrips_11 : decode cX3_areStrips 11 = .ok (.iconst 1, 1) := by decide +kernel
theorem dX3_areStrips_12 : decode cX3_areStrips 12 = .ok (.goto 4, 3) := by decide +kernel
theorem dX3_areStrips_15 : decode cX3_areStrips 15 = .ok (.iconst 0, 1) := by decide +kernel
theorem dX3_areStrips_16 : decode cX3_areStrips 16 = .ok (.ireturn, 1) := by decide +kernel
theorem dX3_hangsOver_0 : decode cX3_hangsOver 0 = .ok (.aload_n 0, 1) := by decide +kernel
theorem dX3_hangsOver_1 : decode cX3_hangsOver 1 = .ok (.getfield 33, 3) := by decide +kernel
theorem dX3_hangsOver_4 : decode cX3_hangsOver 4 = .ok (.ifCond .ne 7, 3) := by decide +kernel
theorem dX3_hangsOver_7 : decode cX3_hangsOver 7 = .ok (.iconst (-1), 1) := by decide +kernel
theorem dX3_hangsOver_8 : decode cX3_hangsOver 8 = .ok (.goto 7, 3) := by decide +kernel
theorem dX3_hangsOver_11 : decode cX3_hangsOver 11 = .ok (.aload_n 0, 1) := by decide +kernel
theorem dX3_hangsOver_12 : decode cX3_hangsOver 12 = .ok (.getfield 43, 3) := by decide +kernel
theorem dX3_hangsOver_15 : decode cX3_hangsOver 15 = .ok (.ireturn, 1) := by decide +kernel
theorem dX3_sum_0 : decode cX3_sum 0 = .ok (.iconst 0, 1) := by decide +kernel
theorem dX3_sum_1 : decode cX3_sum 1 = .ok (.istore_n 2, 1) := by decide +kernel
theorem dX3_sum_2 : decode cX3_sum 2 = .ok (.iconst 0, 1) := by decide +kernel
theorem dX3_sum_3 : decode cX3_sum 3 = .ok (.istore_n 3, 1) := by decide +kernel
theorem dX3_sum_4 : decode cX3_sum 4 = .ok (.iload_n 3, 1) := by decide +kernel
theorem dX3_sum_5 : decode cX3_sum 5 = .ok (.aload_n 0, 1) := by decide +kernel
theorem dX3_sum_6 : decode cX3_sum 6 = .ok (.getfield 33, 3) := by decide +kernel
theorem dX3_sum_9 : decode cX3_sum 9 = .ok (.if_icmp .ge 15, 3) := by decide +kernel
theorem dX3_sum_12 : decode cX3_sum 12 = .ok (.iload_n 2, 1) := by decide +kernel
theorem dX3_sum_13 : decode cX3_sum 13 = .ok (.aload_n 1, 1) := by decide +kernel
theorem dX3_sum_14 : decode cX3_sum 14 = .ok (.iload_n 3, 1) := by decide +kernel
theorem dX3_sum_15 : decode cX3_sum 15 = .ok (.iaload, 1) := by decide +kernel
theorem dX3_sum_16 : decode cX3_sum 16 = .ok (.iadd, 1) := by decide +kernel
theorem dX3_sum_17 : decode cX3_sum 17 = .ok (.istore_n 2, 1) := by decide +kernel
theorem dX3_sum_18 : decode cX3_sum 18 = .ok (.iinc 3 1, 3) := by decide +kernel
theorem dX3_sum_21 : decode cX3_sum 21 = .ok (.goto (-17), 3) := by decide +kernel
theorem dX3_sum_24 : decode cX3_sum 24 = .ok (.iload_n 2, 1) := by decide +kernel
theorem dX3_sum_25 : decode cX3_sum 25 = .ok (.ireturn, 1) := by decide +kernel
theorem dX3_sumOfFarm_0 : decode cX3_sumOfFarm 0 = .ok (.iconst 0, 1) := by decide +kernel
theorem dX3_sumOfFarm_1 : decode cX3_sumOfFarm 1 = .ok (.istore_n 3, 1) := by decide +kernel
theorem dX3_sumOfFarm_2 : decode cX3_sumOfFarm 2 = .ok (.iconst 0, 1) := by decide +kernel
