theorem dX2_fairScore_95 : decode cX2_fairScore 95 = .ok (.iinc 3 1, 3) := by decide +kernel
theorem dX2_fairScore_98 : decode cX2_fairScore 98 = .ok (.goto (-33), 3) := by decide +kernel
theorem dX2_fairScore_101 : decode cX2_fairScore 101 = .ok (.iload_n 2, 1) := by decide +kernel
theorem dX2_fairScore_102 : decode cX2_fairScore 102 = .ok (.sipush 2048, 3) := by decide +kernel
theorem dX2_fairScore_105 : decode cX2_fairScore 105 = .ok (.imul, 1) := by decide +kernel
theorem dX2_fairScore_106 : decode cX2_fairScore 106 = .ok (.iload_n 1, 1) := by decide +kernel
theorem dX2_fairScore_107 : decode cX2_fairScore 107 = .ok (.iadd, 1) := by decide +kernel
theorem dX2_fairScore_108 : decode cX2_fairScore 108 = .ok (.ireturn, 1) := by decide +kernel
theorem dX2_stripsHungOver_0 : decode cX2_stripsHungOver 0 = .ok (.iconst 0, 1) := by decide +kernel
theorem dX2_stripsHungOver_1 : decode cX2_stripsHungOver 1 = .ok (.istore_n 1, 1) := by decide +kernel
theorem dX2_stripsHungOver_2 : decode cX2_stripsHungOver 2 = .ok (.iconst 0, 1) := by decide +kernel
theorem dX2_stripsHungOver_3 : decode cX2_stripsHungOver 3 = .ok (.istore_n 2, 1) := by decide +kernel
theorem dX2_stripsHungOver_4 : decode cX2_stripsHungOver 4 = .ok (.iload_n 2, 1) := by decide +kernel
theorem dX2_stripsHungOver_5 : decode cX2_stripsHungOver 5 = .ok (.aload_n 0, 1) := by decide +kernel
theorem dX2_stripsHungOver_6 : decode cX2_stripsHungOver 6 = .ok (.getfield 41, 3) := by decide +kernel
theorem dX2_stripsHungOver_9 : decode cX2_stripsHungOver 9 = .ok (.if_icmp .ge 20, 3) := by decide +kernel
theorem dX2_stripsHungOver_12 : decode cX2_stripsHungOver 12 = .ok (.iload_n 1, 1) := by decide +kernel
theorem dX2_stripsHungOver_13 : decode cX2_stripsHungOver 13 = .ok (.iconst 1, 1) := by decide +kernel
theorem dX2_stripsHungOver_14 : decode cX2_stripsHungOver 14 = .ok (.aload_n 0, 1) := by decide +kernel
theorem dX2_stripsHungOver_15 : decode cX2_stripsHungOver 15 = .ok (.getfield 35, 3) := by decide +kernel
theorem dX2_stripsHungOver_18 : decode cX2_stripsHungOver 18 = .ok (.iload_n 2, 1) := by decide +kernel
theorem dX2_stripsHungOver_19 : decode cX2_stripsHungOver 19 = .ok (.iaload, 1) := by decide +kernel
theorem dX2_stripsHungOver_20 : decode cX2_stripsHungOver 20 = .ok (.ishl, 1) := by decide +kernel
theorem dX2_stripsHungOver_21 : decode cX2_stripsHungOver 21 = .ok (.ior, 1) := by decide +kernel
theorem dX2_stripsHungOver_22 : decode cX2_stripsHungOver 22 = .ok (.istore_n 1, 1) := by decide +kernel
theorem dX2_stripsHungOver_23 : decode cX2_stripsHungOver 23 = .ok (.iinc 2 1, 3) := by decide +kernel
theorem dX2_stripsHungOver_26 : decode cX2_stripsHungOver 26 = .ok (.goto (-22), 3) := by decide +kernel
theorem dX2_stripsHungOver_29 : decode cX2_stripsHungOver 29 = .ok (.iload_n 1, 1) := by decide +kernel
theorem dX2_stripsHungOver_30 : decode cX2_stripsHungOver 30 = .ok (.ireturn, 1) := by decide +kernel
theorem dX2_bidsOf_0 : decode cX2_bidsOf 0 = .ok (.aload_n 0, 1) := by decide +kernel
theorem dX2_bidsOf_1 : decode cX2_bidsOf 1 = .ok (.lload_n 2, 1) := by decide +kernel
theorem dX2_bidsOf_2 : decode cX2_bidsOf 2 = .ok (.invokevirtual 104, 3) := by decide +kernel
theorem dX2_bidsOf_5 : decode cX2_bidsOf 5 = .ok (.iconst 0, 1) := by decide +kernel
theorem dX2_bidsOf_6 : decode cX2_bidsOf 6 = .ok (.istore 4, 2) := by decide +kernel
theorem dX2_bidsOf_8 : decode cX2_bidsOf 8 = .ok (.iconst 0, 1) := by decide +kernel
theorem dX2_bidsOf_9 : decode cX2_bidsOf 9 = .ok (.istore 5, 2) := by decide +kernel
theorem dX2_bidsOf_11 : decode cX2_bidsOf 11 = .ok (.iload 5, 2) := by decide +kernel
theorem dX2_bidsOf_13 : decode cX2_bidsOf 13 = .ok (.aload_n 0, 1) := by decide +kernel
theorem dX2_bidsOf_14 : decode cX2_bidsOf 14 = .ok (.getfield 12, 3) := by decide +kernel
theorem dX2_bidsOf_17 : decode cX2_bidsOf 17 = .ok (.getfield 50, 3) := by decide +kernel
theorem dX2_bidsOf_20 : decode cX2_bidsOf 20 = .ok (.if_icmp .ge 48, 3) := by decide +kernel
theorem dX2_bidsOf_23 : decode cX2_bidsOf 23 = .ok (.aload_n 0, 1) := by decide +kernel
theorem dX2_bidsOf_24 : decode cX2_bidsOf 24 = .ok (.getfield 12, 3) := by decide +kernel
theorem dX2_bidsOf_27 : decode cX2_bidsOf 27 = .ok (.getfield 53, 3) := by decide +kernel
theorem dX2_bidsOf_30 : decode cX2_bidsOf 30 = .ok (.iload 5, 2) := by decide +kernel
theorem dX2_bidsOf_32 : decode cX2_bidsOf 32 = .ok (.iaload, 1) := by decide +kernel
theorem dX2_bidsOf_33 : decode cX2_bidsOf 33 = .ok (.iload_n 1, 1) := by decide +kernel
theorem dX2_bidsOf_34 : decode cX2_bidsOf 34 = .ok (.if_icmp .ne 28, 3) := by decide +kernel
theorem dX2_bidsOf_37 : decode cX2_bidsOf 37 = .ok (.iload 4, 2) := by decide +kernel
theorem dX2_bidsOf_39 : decode cX2_bidsOf 39 = .ok (.aload_n 0, 1) := by decide +kernel
theorem dX2_bidsOf_40 : decode cX2_bidsOf 40 = .ok (.getfield 12, 3) := by decide +kernel
theorem dX2_bidsOf_43 : decode cX2_bidsOf 43 = .ok (.getfield 76, 3) := by decide +kernel
theorem dX2_bidsOf_46 : decode cX2_bidsOf 46 = .ok (.iload_n 1, 1) := by decide +kernel
theorem dX2_bidsOf_47 : decode cX2_bidsOf 47 = .ok (.iaload, 1) := by decide +kernel
theorem dX2_bidsOf_48 : decode cX2_bidsOf 48 = .ok (.aload_n 0, 1) := by decide +kernel
theorem dX2_bidsOf_49 : decode cX2_bidsOf 49 = .ok (.aload_n 0, 1) := by decide +kernel
theorem dX2_bidsOf_50 : decode cX2_bidsOf 50 = .ok (.getfield 26, 3) := by decide +kernel
theorem dX2_bidsOf_53 : decode cX2_bidsOf 53 = .ok (.iload 5, 2) := by decide +kernel
theorem dX2_bidsOf_55 : decode cX2_bidsOf 55 = .ok (.invokevirtual 120, 3) := by decide +kernel
theorem dX2_bidsOf_58 : decode cX2_bidsOf 58 = .ok (.imul, 1) := by decide +kernel
theorem dX2_bidsOf_59 : decode cX2_bidsOf 59 = .ok (.iadd, 1) := by decide +kernel
theorem dX2_bidsOf_60 : decode cX2_bidsOf 60 = .ok (.istore 4, 2) := by decide +kernel
theorem dX2_bidsOf_62 : decode cX2_bidsOf 62 = .ok (.iinc 5 1, 3) := by decide +kernel
theorem dX2_bidsOf_65 : decode cX2_bidsOf 65 = .ok (.goto (-54), 3) := by decide +kernel
theorem dX2_bidsOf_68 : decode cX2_bidsOf 68 = .ok (.iload 4, 2) := by decide +kernel
theorem dX2_bidsOf_70 : decode cX2_bidsOf 70 = .ok (.ireturn, 1) := by decide +kernel
theorem dX3_empty_0 : decode cX3_empty 0 = .ok (.aload_n 0, 1) := by decide +kernel
theorem dX3_empty_1 : decode cX3_empty 1 = .ok (.iconst 0, 1) := by decide +kernel
theorem dX3_empty_2 : decode cX3_empty 2 = .ok (.putfield 33, 3) := by decide +kernel
theorem dX3_empty_5 : decode cX3_empty 5 = .ok (.aload_n 0, 1) := by decide +kernel
theorem dX3_empty_6 : decode cX3_empty 6 = .ok (.iconst 0, 1) := by decide +kernel
theorem dX3_empty_7 : decode cX3_empty 7 = .ok (.putfield 37, 3) := by decide +kernel
theorem dX3_empty_10 : decode cX3_empty 10 = .ok (.aload_n 0, 1) := by decide +kernel
theorem dX3_empty_11 : decode cX3_empty 11 = .ok (.iconst 0, 1) := by decide +kernel
theorem dX3_empty_12 : decode cX3_empty 12 = .ok (.putfield 40, 3) := by decide +kernel
theorem dX3_empty_15 : decode cX3_empty 15 = .ok (.aload_n 0, 1) := by decide +kernel
theorem dX3_empty_16 : decode cX3_empty 16 = .ok (.iconst 0, 1) := by decide +kernel
theorem dX3_empty_17 : decode cX3_empty 17 = .ok (.putfield 43, 3) := by decide +kernel
theorem dX3_empty_20 : decode cX3_empty 20 = .ok (.aload_n 0, 1) := by decide +kernel
theorem dX3_empty_21 : decode cX3_empty 21 = .ok (.bipush 6, 2) := by decide +kernel
theorem dX3_empty_23 : decode cX3_empty 23 = .ok (.putfield 46, 3) := by decide +kernel
theorem dX3_empty_26 : decode cX3_empty 26 = .ok (.aload_n 0, 1) := by decide +kernel
theorem dX3_empty_27 : decode cX3_empty 27 = .ok (.bipush 6, 2) := by decide +kernel
theorem dX3_empty_29 : decode cX3_empty 29 = .ok (.putfield 49, 3) := by decide +kernel
theorem dX3_empty_32 : decode cX3_empty 32 = .ok (.aload_n 0, 1) := by decide +kernel
theorem dX3_empty_33 : decode cX3_empty 33 = .ok (.iconst 1, 1) := by decide +kernel
theorem dX3_empty_34 : decode cX3_empty 34 = .ok (.putfield 52, 3) := by decide +kernel
theorem dX3_empty_37 : decode cX3_empty 37 = .ok (.aload_n 0, 1) := by decide +kernel
theorem dX3_empty_38 : decode cX3_empty 38 = .ok (.bipush 60, 2) := by decide +kernel
theorem dX3_empty_40 : decode cX3_empty 40 = .ok (.putfield 55, 3) := by decide +kernel
theorem dX3_empty_43 : decode cX3_empty 43 = .ok (.aload_n 0, 1) := by decide +kernel
theorem dX3_empty_44 : decode cX3_empty 44 = .ok (.iconst 0, 1) := by decide +kernel
theorem dX3_empty_45 : decode cX3_empty 45 = .ok (.putfield 58, 3) := by decide +kernel
theorem dX3_empty_48 : decode cX3_empty 48 = .ok (.aload_n 0, 1) := by decide +kernel
theorem dX3_empty_49 : decode cX3_empty 49 = .ok (.iconst 0, 1) := by decide +kernel
theorem dX3_empty_50 : decode cX3_empty 50 = .ok (.putfield 61, 3) := by decide +kernel
theorem dX3_empty_53 : decode cX3_empty 53 = .ok (.aload_n 0, 1) := by decide +kernel
theorem dX3_empty_54 : decode cX3_empty 54 = .ok (.getfield 27, 3) := by decide +kernel
theorem dX3_empty_57 : decode cX3_empty 57 = .ok (.iconst 1, 1) := by decide +kernel
theorem dX3_empty_58 : decode cX3_empty 58 = .ok (.invokestatic 64, 3) := by decide +kernel
theorem dX3_empty_61 : decode cX3_empty 61 = .ok (.return_, 1) := by decide +kernel
theorem dX3_become_0 : decode cX3_become 0 = .ok (.aload_n 0, 1) := by decide +kernel
theorem dX3_become_1 : decode cX3_become 1 = .ok (.aload_n 1, 1) := by decide +kernel
theorem dX3_become_2 : decode cX3_become 2 = .ok (.getfield 33, 3) := by decide +kernel
theorem dX3_become_5 : decode cX3_become 5 = .ok (.putfield 33, 3) := by decide +kernel
theorem dX3_become_8 : decode cX3_become 8 = .ok (.aload_n 0, 1) := by decide +kernel
theorem dX3_become_9 : decode cX3_become 9 = .ok (.aload_n 1, 1) := by decide +kernel
theorem dX3_become_10 : decode cX3_become 10 = .ok (.getfield 37, 3) := by decide +kernel
theorem dX3_become_13 : decode cX3_become 13 = .ok (.putfield 37, 3) := by decide +kernel
theorem dX3_become_16 : decode cX3_become 16 = .ok (.aload_n 0, 1) := by decide +kernel
theorem dX3_become_17 : decode cX3_become 17 = .ok (.aload_n 1, 1) := by decide +kernel
theorem dX3_become_18 : decode cX3_become 18 = .ok (.getfield 40, 3) := by decide +kernel
theorem dX3_become_21 : decode cX3_become 21 = .ok (.putfield 40, 3) := by decide +kernel
theorem dX3_become_24 : decode cX3_become 24 = .ok (.aload_n 0, 1) := by decide +kernel
theorem dX3_become_25 : decode cX3_become 25 = .ok (.aload_n 1, 1) := by decide +kernel
theorem dX3_become_26 : decode cX3_become 26 = .ok (.getfield 43, 3) := by decide +kernel
theorem dX3_become_29 : decode cX3_become 29 = .ok (.putfield 43, 3) := by decide +kernel
theorem dX3_become_32 : decode cX3_become 32 = .ok (.aload_n 0, 1) := by decide +kernel
theorem dX3_become_33 : decode cX3_become 33 = .ok (.aload_n 1, 1) := by decide +kernel
theorem dX3_become_34 : decode cX3_become 34 = .ok (.getfield 46, 3) := by decide +kernel
theorem dX3_become_37 : decode cX3_become 37 = .ok (.putfield 46, 3) := by decide +kernel
theorem dX3_become_40 : decode cX3_become 40 = .ok (.aload_n 0, 1) := by decide +kernel
theorem dX3_become_41 : decode cX3_become 41 = .ok (.aload_n 1, 1) := by decide +kernel
theorem dX3_become_42 : decode cX3_become 42 = .ok (.getfield 49, 3) := by decide +kernel
theorem dX3_become_45 : decode cX3_become 45 = .ok (.putfield 49, 3) := by decide +kernel
theorem dX3_become_48 : decode cX3_become 48 = .ok (.aload_n 0, 1) := by decide +kernel
theorem dX3_become_49 : decode cX3_become 49 = .ok (.aload_n 1, 1) := by decide +kernel
theorem dX3_become_50 : decode cX3_become 50 = .ok (.getfield 52, 3) := by decide +kernel
theorem dX3_become_53 : decode cX3_become 53 = .ok (.putfield 52, 3) := by decide +kernel
theorem dX3_become_56 : decode cX3_become 56 = .ok (.aload_n 0, 1) := by decide +kernel
theorem dX3_become_57 : decode cX3_become 57 = .ok (.aload_n 1, 1) := by decide +kernel
theorem dX3_become_58 : decode cX3_become 58 = .ok (.getfield 55, 3) := by decide +kernel
theorem dX3_become_61 : decode cX3_become 61 = .ok (.putfield 55, 3) := by decide +kernel
theorem dX3_become_64 : decode cX3_become 64 = .ok (.aload_n 0, 1) := by decide +kernel
theorem dX3_become_65 : decode cX3_become 65 = .ok (.aload_n 1, 1) := by decide +kernel
theorem dX3_become_66 : decode cX3_become 66 = .ok (.getfield 58, 3) := by decide +kernel
theorem dX3_become_69 : decode cX3_become 69 = .ok (.putfield 58, 3) := by decide +kernel
theorem dX3_become_72 : decode cX3_become 72 = .ok (.aload_n 0, 1) := by decide +kernel
theorem dX3_become_73 : decode cX3_become 73 = .ok (.aload_n 1, 1) := by decide +kernel
theorem dX3_become_74 : decode cX3_become 74 = .ok (.getfield 61, 3) := by decide +kernel
theorem dX3_become_77 : decode cX3_become 77 = .ok (.putfield 61, 3) := by decide +kernel
theorem dX3_become_80 : decode cX3_become 80 = .ok (.aload_n 1, 1) := by decide +kernel
theorem dX3_become_81 : decode cX3_become 81 = .ok (.getfield 9, 3) := by decide +kernel
theorem dX3_become_84 : decode cX3_become 84 = .ok (.iconst 0, 1) := by decide +kernel
theorem dX3_become_85 : decode cX3_become 85 = .ok (.aload_n 0, 1) := by decide +kernel
theorem dX3_become_86 : decode cX3_become 86 = .ok (.getfield 9, 3) := by decide +kernel
theorem dX3_become_89 : decode cX3_become 89 = .ok (.iconst 0, 1) := by decide +kernel
theorem dX3_become_90 : decode cX3_become 90 = .ok (.bipush 16, 2) := by decide +kernel
theorem dX3_become_92 : decode cX3_become 92 = .ok (.invokestatic 70, 3) := by decide +kernel
theorem dX3_become_95 : decode cX3_become 95 = .ok (.aload_n 1, 1) := by decide +kernel
theorem dX3_become_96 : decode cX3_become 96 = .ok (.getfield 15, 3) := by decide +kernel
theorem dX3_become_99 : decode cX3_become 99 = .ok (.iconst 0, 1) := by decide +kernel
theorem dX3_become_100 : decode cX3_become 100 = .ok (.aload_n 0, 1) := by decide +kernel
theorem dX3_become_101 : decode cX3_become 101 = .ok (.getfield 15, 3) := by decide +kernel
theorem dX3_become_104 : decode cX3_become 104 = .ok (.iconst 0, 1) := by decide +kernel
theorem dX3_become_105 : decode cX3_become 105 = .ok (.bipush 16, 2) := by decide +kernel
theorem dX3_become_107 : decode cX3_become 107 = .ok (.invokestatic 70, 3) := by decide +kernel
theorem dX3_become_110 : decode cX3_become 110 = .ok (.aload_n 1, 1) := by decide +kernel
theorem dX3_become_111 : decode cX3_become 111 = .ok (.getfield 18, 3) := by decide +kernel
theorem dX3_become_114 : decode cX3_become 114 = .ok (.iconst 0, 1) := by decide +kernel
theorem dX3_become_115 : decode cX3_become 115 = .ok (.aload_n 0, 1) := by decide +kernel
theorem dX3_become_116 : decode cX3_become 116 = .ok (.getfield 18, 3) := by decide +kernel
theorem dX3_become_119 : decode cX3_become 119 = .ok (.iconst 0, 1) := by decide +kernel
theorem dX3_become_120 : decode cX3_become 120 = .ok (.bipush 16, 2) := by decide +kernel
theorem dX3_become_122 : decode cX3_become 122 = .ok (.invokestatic 70, 3) := by decide +kernel
theorem dX3_become_125 : decode cX3_become 125 = .ok (.aload_n 1, 1) := by decide +kernel
theorem dX3_become_126 : decode cX3_become 126 = .ok (.getfield 21, 3) := by decide +kernel
theorem dX3_become_129 : decode cX3_become 129 = .ok (.iconst 0, 1) := by decide +kernel
theorem dX3_become_130 : decode cX3_become 130 = .ok (.aload_n 0, 1) := by decide +kernel
theorem dX3_become_131 : decode cX3_become 131 = .ok (.getfield 21, 3) := by decide +kernel
theorem dX3_become_134 : decode cX3_become 134 = .ok (.iconst 0, 1) := by decide +kernel
theorem dX3_become_135 : decode cX3_become 135 = .ok (.bipush 16, 2) := by decide +kernel
theorem dX3_become_137 : decode cX3_become 137 = .ok (.invokestatic 70, 3) := by decide +kernel
theorem dX3_become_140 : decode cX3_become 140 = .ok (.aload_n 1, 1) := by decide +kernel
theorem dX3_become_141 : decode cX3_become 141 = .ok (.getfield 24, 3) := by decide +kernel
theorem dX3_become_144 : decode cX3_become 144 = .ok (.iconst 0, 1) := by decide +kernel
theorem dX3_become_145 : decode cX3_become 145 = .ok (.aload_n 0, 1) := by decide +kernel
theorem dX3_become_146 : decode cX3_become 146 = .ok (.getfield 24, 3) := by decide +kernel
theorem dX3_become_149 : decode cX3_become 149 = .ok (.iconst 0, 1) := by decide +kernel
theorem dX3_become_150 : decode cX3_become 150 = .ok (.bipush 16, 2) := by decide +kernel
theorem dX3_become_152 : decode cX3_become 152 = .ok (.invokestatic 70, 3) := by decide +kernel
theorem dX3_become_155 : decode cX3_become 155 = .ok (.aload_n 1, 1) := by decide +kernel
theorem dX3_become_156 : decode cX3_become 156 = .ok (.getfield 27, 3) := by decide +kernel
theorem dX3_become_159 : decode cX3_become 159 = .ok (.iconst 0, 1) := by decide +kernel
theorem dX3_become_160 : decode cX3_become 160 = .ok (.aload_n 0, 1) := by decide +kernel
theorem dX3_become_161 : decode cX3_become 161 = .ok (.getfield 27, 3) := by decide +kernel
theorem dX3_become_164 : decode cX3_become 164 = .ok (.iconst 0, 1) := by decide +kernel
theorem dX3_become_165 : decode cX3_become 165 = .ok (.bipush 6, 2) := by decide +kernel
theorem dX3_become_167 : decode cX3_become 167 = .ok (.invokestatic 70, 3) := by decide +kernel
theorem dX3_become_170 : decode cX3_become 170 = .ok (.return_, 1) := by decide +kernel
theorem dX3_addStrip_0 : decode cX3_addStrip 0 = .ok (.aload_n 0, 1) := by decide +kernel
theorem dX3_addStrip_1 : decode cX3_addStrip 1 = .ok (.getfield 33, 3) := by decide +kernel
theorem dX3_addStrip_4 : decode cX3_addStrip 4 = .ok (.bipush 16, 2) := by decide +kernel
theorem dX3_addStrip_6 : decode cX3_addStrip 6 = .ok (.if_icmp .ge 64, 3) := by decide +kernel
theorem dX3_addStrip_9 : decode cX3_addStrip 9 = .ok (.aload_n 0, 1) := by decide +kernel
theorem dX3_addStrip_10 : decode cX3_addStrip 10 = .ok (.getfield 9, 3) := by decide +kernel
theorem dX3_addStrip_13 : decode cX3_addStrip 13 = .ok (.aload_n 0, 1) := by decide +kernel
theorem dX3_addStrip_14 : decode cX3_addStrip 14 = .ok (.getfield 33, 3) := by decide +kernel
theorem dX3_addStrip_17 : decode cX3_addStrip 17 = .ok (.iload_n 1, 1) := by decide +kernel
theorem dX3_addStrip_18 : decode cX3_addStrip 18 = .ok (.iastore, 1) := by decide +kernel
