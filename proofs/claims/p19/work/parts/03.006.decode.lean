theorem dX8_alone_44 : decode cX8_alone 44 = .ok (.aload_n 0, 1) := by decide +kernel
theorem dX8_alone_45 : decode cX8_alone 45 = .ok (.iload_n 2, 1) := by decide +kernel
theorem dX8_alone_46 : decode cX8_alone 46 = .ok (.iload_n 3, 1) := by decide +kernel
theorem dX8_alone_47 : decode cX8_alone 47 = .ok (.aload_n 0, 1) := by decide +kernel
theorem dX8_alone_48 : decode cX8_alone 48 = .ok (.getfield 58, 3) := by decide +kernel
theorem dX8_alone_51 : decode cX8_alone 51 = .ok (.getfield 240, 3) := by decide +kernel
theorem dX8_alone_54 : decode cX8_alone 54 = .ok (.invokevirtual 243, 3) := by decide +kernel
theorem dX8_alone_57 : decode cX8_alone 57 = .ok (.ireturn, 1) := by decide +kernel
theorem dX8_pays_0 : decode cX8_pays 0 = .ok (.aload_n 0, 1) := by decide +kernel
theorem dX8_pays_1 : decode cX8_pays 1 = .ok (.iload_n 1, 1) := by decide +kernel
theorem dX8_pays_2 : decode cX8_pays 2 = .ok (.invokestatic 135, 3) := by decide +kernel
theorem dX8_pays_5 : decode cX8_pays 5 = .ok (.iload_n 2, 1) := by decide +kernel
theorem dX8_pays_6 : decode cX8_pays 6 = .ok (.bipush 8, 2) := by decide +kernel
theorem dX8_pays_8 : decode cX8_pays 8 = .ok (.invokevirtual 229, 3) := by decide +kernel
theorem dX8_pays_11 : decode cX8_pays 11 = .ok (.istore_n 3, 1) := by decide +kernel
theorem dX8_pays_12 : decode cX8_pays 12 = .ok (.iload_n 3, 1) := by decide +kernel
theorem dX8_pays_13 : decode cX8_pays 13 = .ok (.ifCond .eq 5, 3) := by decide +kernel
theorem dX8_pays_16 : decode cX8_pays 16 = .ok (.iload_n 3, 1) := by decide +kernel
theorem dX8_pays_17 : decode cX8_pays 17 = .ok (.ireturn, 1) := by decide +kernel
theorem dX8_pays_18 : decode cX8_pays 18 = .ok (.aload_n 0, 1) := by decide +kernel
theorem dX8_pays_19 : decode cX8_pays 19 = .ok (.iconst 1, 1) := by decide +kernel
theorem dX8_pays_20 : decode cX8_pays 20 = .ok (.iconst (-1), 1) := by decide +kernel
theorem dX8_pays_21 : decode cX8_pays 21 = .ok (.iload_n 2, 1) := by decide +kernel
theorem dX8_pays_22 : decode cX8_pays 22 = .ok (.invokevirtual 236, 3) := by decide +kernel
theorem dX8_pays_25 : decode cX8_pays 25 = .ok (.aload_n 0, 1) := by decide +kernel
theorem dX8_pays_26 : decode cX8_pays 26 = .ok (.getfield 58, 3) := by decide +kernel
theorem dX8_pays_29 : decode cX8_pays 29 = .ok (.getfield 240, 3) := by decide +kernel
theorem dX8_pays_32 : decode cX8_pays 32 = .ok (.aload_n 0, 1) := by decide +kernel
theorem dX8_pays_33 : decode cX8_pays 33 = .ok (.getfield 58, 3) := by decide +kernel
theorem dX8_pays_36 : decode cX8_pays 36 = .ok (.iload_n 1, 1) := by decide +kernel
theorem dX8_pays_37 : decode cX8_pays 37 = .ok (.aload_n 0, 1) := by decide +kernel
theorem dX8_pays_38 : decode cX8_pays 38 = .ok (.getfield 51, 3) := by decide +kernel
theorem dX8_pays_41 : decode cX8_pays 41 = .ok (.getfield 253, 3) := by decide +kernel
theorem dX8_pays_44 : decode cX8_pays 44 = .ok (.aload_n 0, 1) := by decide +kernel
theorem dX8_pays_45 : decode cX8_pays 45 = .ok (.getfield 58, 3) := by decide +kernel
theorem dX8_pays_48 : decode cX8_pays 48 = .ok (.getfield 257, 3) := by decide +kernel
theorem dX8_pays_51 : decode cX8_pays 51 = .ok (.laload, 1) := by decide +kernel
theorem dX8_pays_52 : decode cX8_pays 52 = .ok (.invokevirtual 260, 3) := by decide +kernel
theorem dX8_pays_55 : decode cX8_pays 55 = .ok (.isub, 1) := by decide +kernel
theorem dX8_pays_56 : decode cX8_pays 56 = .ok (.istore 4, 2) := by decide +kernel
theorem dX8_pays_58 : decode cX8_pays 58 = .ok (.aload_n 0, 1) := by decide +kernel
theorem dX8_pays_59 : decode cX8_pays 59 = .ok (.iconst 1, 1) := by decide +kernel
theorem dX8_pays_60 : decode cX8_pays 60 = .ok (.iload_n 1, 1) := by decide +kernel
theorem dX8_pays_61 : decode cX8_pays 61 = .ok (.iload_n 2, 1) := by decide +kernel
theorem dX8_pays_62 : decode cX8_pays 62 = .ok (.invokevirtual 236, 3) := by decide +kernel
theorem dX8_pays_65 : decode cX8_pays 65 = .ok (.aload_n 0, 1) := by decide +kernel
theorem dX8_pays_66 : decode cX8_pays 66 = .ok (.getfield 58, 3) := by decide +kernel
theorem dX8_pays_69 : decode cX8_pays 69 = .ok (.getfield 240, 3) := by decide +kernel
theorem dX8_pays_72 : decode cX8_pays 72 = .ok (.iload 4, 2) := by decide +kernel
theorem dX8_pays_74 : decode cX8_pays 74 = .ok (.isub, 1) := by decide +kernel
theorem dX8_pays_75 : decode cX8_pays 75 = .ok (.ireturn, 1) := by decide +kernel
theorem dX8_shifted_0 : decode cX8_shifted 0 = .ok (.aload_n 0, 1) := by decide +kernel
theorem dX8_shifted_1 : decode cX8_shifted 1 = .ok (.iload_n 2, 1) := by decide +kernel
theorem dX8_shifted_2 : decode cX8_shifted 2 = .ok (.ifCond .lt 12, 3) := by decide +kernel
theorem dX8_shifted_5 : decode cX8_shifted 5 = .ok (.iload_n 2, 1) := by decide +kernel
theorem dX8_shifted_6 : decode cX8_shifted 6 = .ok (.iconst 2, 1) := by decide +kernel
theorem dX8_shifted_7 : decode cX8_shifted 7 = .ok (.if_icmp .gt 7, 3) := by decide +kernel
theorem dX8_shifted_10 : decode cX8_shifted 10 = .ok (.iconst 1, 1) := by decide +kernel
theorem dX8_shifted_11 : decode cX8_shifted 11 = .ok (.goto 4, 3) := by decide +kernel
theorem dX8_shifted_14 : decode cX8_shifted 14 = .ok (.iconst 0, 1) := by decide +kernel
theorem dX8_shifted_15 : decode cX8_shifted 15 = .ok (.iload_n 1, 1) := by decide +kernel
theorem dX8_shifted_16 : decode cX8_shifted 16 = .ok (.iconst 5, 1) := by decide +kernel
theorem dX8_shifted_17 : decode cX8_shifted 17 = .ok (.invokevirtual 229, 3) := by decide +kernel
theorem dX8_shifted_20 : decode cX8_shifted 20 = .ok (.istore_n 3, 1) := by decide +kernel
theorem dX8_shifted_21 : decode cX8_shifted 21 = .ok (.iload_n 3, 1) := by decide +kernel
theorem dX8_shifted_22 : decode cX8_shifted 22 = .ok (.ifCond .eq 5, 3) := by decide +kernel
theorem dX8_shifted_25 : decode cX8_shifted 25 = .ok (.iload_n 3, 1) := by decide +kernel
theorem dX8_shifted_26 : decode cX8_shifted 26 = .ok (.ireturn, 1) := by decide +kernel
theorem dX8_shifted_27 : decode cX8_shifted 27 = .ok (.aload_n 0, 1) := by decide +kernel
theorem dX8_shifted_28 : decode cX8_shifted 28 = .ok (.iconst 0, 1) := by decide +kernel
theorem dX8_shifted_29 : decode cX8_shifted 29 = .ok (.iconst (-1), 1) := by decide +kernel
theorem dX8_shifted_30 : decode cX8_shifted 30 = .ok (.iload_n 1, 1) := by decide +kernel
theorem dX8_shifted_31 : decode cX8_shifted 31 = .ok (.invokevirtual 236, 3) := by decide +kernel
theorem dX8_shifted_34 : decode cX8_shifted 34 = .ok (.aload_n 0, 1) := by decide +kernel
theorem dX8_shifted_35 : decode cX8_shifted 35 = .ok (.getfield 58, 3) := by decide +kernel
theorem dX8_shifted_38 : decode cX8_shifted 38 = .ok (.getfield 240, 3) := by decide +kernel
theorem dX8_shifted_41 : decode cX8_shifted 41 = .ok (.istore 4, 2) := by decide +kernel
theorem dX8_shifted_43 : decode cX8_shifted 43 = .ok (.aload_n 0, 1) := by decide +kernel
theorem dX8_shifted_44 : decode cX8_shifted 44 = .ok (.getfield 65, 3) := by decide +kernel
theorem dX8_shifted_47 : decode cX8_shifted 47 = .ok (.aload_n 0, 1) := by decide +kernel
theorem dX8_shifted_48 : decode cX8_shifted 48 = .ok (.getfield 58, 3) := by decide +kernel
theorem dX8_shifted_51 : decode cX8_shifted 51 = .ok (.aload_n 0, 1) := by decide +kernel
theorem dX8_shifted_52 : decode cX8_shifted 52 = .ok (.getfield 51, 3) := by decide +kernel
theorem dX8_shifted_55 : decode cX8_shifted 55 = .ok (.aload_n 0, 1) := by decide +kernel
theorem dX8_shifted_56 : decode cX8_shifted 56 = .ok (.iload_n 1, 1) := by decide +kernel
theorem dX8_shifted_57 : decode cX8_shifted 57 = .ok (.invokevirtual 233, 3) := by decide +kernel
theorem dX8_shifted_60 : decode cX8_shifted 60 = .ok (.invokevirtual 263, 3) := by decide +kernel
theorem dX8_shifted_63 : decode cX8_shifted 63 = .ok (.iconst 0, 1) := by decide +kernel
theorem dX8_shifted_64 : decode cX8_shifted 64 = .ok (.istore 5, 2) := by decide +kernel
theorem dX8_shifted_66 : decode cX8_shifted 66 = .ok (.iconst (-1), 1) := by decide +kernel
theorem dX8_shifted_67 : decode cX8_shifted 67 = .ok (.istore 6, 2) := by decide +kernel
theorem dX8_shifted_69 : decode cX8_shifted 69 = .ok (.iconst 0, 1) := by decide +kernel
theorem dX8_shifted_70 : decode cX8_shifted 70 = .ok (.istore 7, 2) := by decide +kernel
theorem dX8_shifted_72 : decode cX8_shifted 72 = .ok (.iload 7, 2) := by decide +kernel
theorem dX8_shifted_74 : decode cX8_shifted 74 = .ok (.sipush 256, 3) := by decide +kernel
theorem dX8_shifted_77 : decode cX8_shifted 77 = .ok (.if_icmp .ge 63, 3) := by decide +kernel
theorem dX8_shifted_80 : decode cX8_shifted 80 = .ok (.aload_n 0, 1) := by decide +kernel
theorem dX8_shifted_81 : decode cX8_shifted 81 = .ok (.iload 7, 2) := by decide +kernel
theorem dX8_shifted_83 : decode cX8_shifted 83 = .ok (.bipush 16, 2) := by decide +kernel
theorem dX8_shifted_85 : decode cX8_shifted 85 = .ok (.idiv, 1) := by decide +kernel
theorem dX8_shifted_86 : decode cX8_shifted 86 = .ok (.iload 7, 2) := by decide +kernel
theorem dX8_shifted_88 : decode cX8_shifted 88 = .ok (.bipush 16, 2) := by decide +kernel
theorem dX8_shifted_90 : decode cX8_shifted 90 = .ok (.irem, 1) := by decide +kernel
theorem dX8_shifted_91 : decode cX8_shifted 91 = .ok (.invokevirtual 267, 3) := by decide +kernel
theorem dX8_shifted_94 : decode cX8_shifted 94 = .ok (.ifCond .eq 40, 3) := by decide +kernel
theorem dX8_shifted_97 : decode cX8_shifted 97 = .ok (.aload_n 0, 1) := by decide +kernel
theorem dX8_shifted_98 : decode cX8_shifted 98 = .ok (.getfield 65, 3) := by decide +kernel
theorem dX8_shifted_101 : decode cX8_shifted 101 = .ok (.getfield 270, 3) := by decide +kernel
theorem dX8_shifted_104 : decode cX8_shifted 104 = .ok (.iload 7, 2) := by decide +kernel
theorem dX8_shifted_106 : decode cX8_shifted 106 = .ok (.iaload, 1) := by decide +kernel
theorem dX8_shifted_107 : decode cX8_shifted 107 = .ok (.iload 4, 2) := by decide +kernel
theorem dX8_shifted_109 : decode cX8_shifted 109 = .ok (.isub, 1) := by decide +kernel
theorem dX8_shifted_110 : decode cX8_shifted 110 = .ok (.iload 5, 2) := by decide +kernel
theorem dX8_shifted_112 : decode cX8_shifted 112 = .ok (.if_icmp .le 22, 3) := by decide +kernel
theorem dX8_shifted_115 : decode cX8_shifted 115 = .ok (.aload_n 0, 1) := by decide +kernel
theorem dX8_shifted_116 : decode cX8_shifted 116 = .ok (.getfield 65, 3) := by decide +kernel
theorem dX8_shifted_119 : decode cX8_shifted 119 = .ok (.getfield 270, 3) := by decide +kernel
theorem dX8_shifted_122 : decode cX8_shifted 122 = .ok (.iload 7, 2) := by decide +kernel
theorem dX8_shifted_124 : decode cX8_shifted 124 = .ok (.iaload, 1) := by decide +kernel
theorem dX8_shifted_125 : decode cX8_shifted 125 = .ok (.iload 4, 2) := by decide +kernel
theorem dX8_shifted_127 : decode cX8_shifted 127 = .ok (.isub, 1) := by decide +kernel
theorem dX8_shifted_128 : decode cX8_shifted 128 = .ok (.istore 5, 2) := by decide +kernel
theorem dX8_shifted_130 : decode cX8_shifted 130 = .ok (.iload 7, 2) := by decide +kernel
theorem dX8_shifted_132 : decode cX8_shifted 132 = .ok (.istore 6, 2) := by decide +kernel
theorem dX8_shifted_134 : decode cX8_shifted 134 = .ok (.iinc 7 1, 3) := by decide +kernel
theorem dX8_shifted_137 : decode cX8_shifted 137 = .ok (.goto (-65), 3) := by decide +kernel
theorem dX8_shifted_140 : decode cX8_shifted 140 = .ok (.iload_n 2, 1) := by decide +kernel
theorem dX8_shifted_141 : decode cX8_shifted 141 = .ok (.ifCond .ne 6, 3) := by decide +kernel
theorem dX8_shifted_144 : decode cX8_shifted 144 = .ok (.iload 5, 2) := by decide +kernel
theorem dX8_shifted_146 : decode cX8_shifted 146 = .ok (.ireturn, 1) := by decide +kernel
theorem dX8_shifted_147 : decode cX8_shifted 147 = .ok (.iload 6, 2) := by decide +kernel
theorem dX8_shifted_149 : decode cX8_shifted 149 = .ok (.iconst (-1), 1) := by decide +kernel
theorem dX8_shifted_150 : decode cX8_shifted 150 = .ok (.if_icmp .ne 5, 3) := by decide +kernel
theorem dX8_shifted_153 : decode cX8_shifted 153 = .ok (.iconst (-1), 1) := by decide +kernel
theorem dX8_shifted_154 : decode cX8_shifted 154 = .ok (.ireturn, 1) := by decide +kernel
theorem dX8_shifted_155 : decode cX8_shifted 155 = .ok (.iload_n 2, 1) := by decide +kernel
theorem dX8_shifted_156 : decode cX8_shifted 156 = .ok (.iconst 1, 1) := by decide +kernel
theorem dX8_shifted_157 : decode cX8_shifted 157 = .ok (.if_icmp .ne 11, 3) := by decide +kernel
theorem dX8_shifted_160 : decode cX8_shifted 160 = .ok (.iload 6, 2) := by decide +kernel
theorem dX8_shifted_162 : decode cX8_shifted 162 = .ok (.bipush 16, 2) := by decide +kernel
theorem dX8_shifted_164 : decode cX8_shifted 164 = .ok (.idiv, 1) := by decide +kernel
theorem dX8_shifted_165 : decode cX8_shifted 165 = .ok (.goto 8, 3) := by decide +kernel
theorem dX8_shifted_168 : decode cX8_shifted 168 = .ok (.iload 6, 2) := by decide +kernel
theorem dX8_shifted_170 : decode cX8_shifted 170 = .ok (.bipush 16, 2) := by decide +kernel
theorem dX8_shifted_172 : decode cX8_shifted 172 = .ok (.irem, 1) := by decide +kernel
theorem dX8_shifted_173 : decode cX8_shifted 173 = .ok (.ireturn, 1) := by decide +kernel
theorem dX8_felled_0 : decode cX8_felled 0 = .ok (.aload_n 0, 1) := by decide +kernel
theorem dX8_felled_1 : decode cX8_felled 1 = .ok (.iload_n 2, 1) := by decide +kernel
theorem dX8_felled_2 : decode cX8_felled 2 = .ok (.ifCond .eq 8, 3) := by decide +kernel
theorem dX8_felled_5 : decode cX8_felled 5 = .ok (.iload_n 2, 1) := by decide +kernel
theorem dX8_felled_6 : decode cX8_felled 6 = .ok (.iconst 1, 1) := by decide +kernel
theorem dX8_felled_7 : decode cX8_felled 7 = .ok (.if_icmp .ne 7, 3) := by decide +kernel
theorem dX8_felled_10 : decode cX8_felled 10 = .ok (.iconst 1, 1) := by decide +kernel
theorem dX8_felled_11 : decode cX8_felled 11 = .ok (.goto 4, 3) := by decide +kernel
theorem dX8_felled_14 : decode cX8_felled 14 = .ok (.iconst 0, 1) := by decide +kernel
theorem dX8_felled_15 : decode cX8_felled 15 = .ok (.iload_n 1, 1) := by decide +kernel
theorem dX8_felled_16 : decode cX8_felled 16 = .ok (.bipush 6, 2) := by decide +kernel
theorem dX8_felled_18 : decode cX8_felled 18 = .ok (.invokevirtual 229, 3) := by decide +kernel
theorem dX8_felled_21 : decode cX8_felled 21 = .ok (.istore_n 3, 1) := by decide +kernel
theorem dX8_felled_22 : decode cX8_felled 22 = .ok (.iload_n 3, 1) := by decide +kernel
theorem dX8_felled_23 : decode cX8_felled 23 = .ok (.ifCond .eq 5, 3) := by decide +kernel
theorem dX8_felled_26 : decode cX8_felled 26 = .ok (.iload_n 3, 1) := by decide +kernel
theorem dX8_felled_27 : decode cX8_felled 27 = .ok (.ireturn, 1) := by decide +kernel
theorem dX8_felled_28 : decode cX8_felled 28 = .ok (.aload_n 0, 1) := by decide +kernel
theorem dX8_felled_29 : decode cX8_felled 29 = .ok (.iconst 0, 1) := by decide +kernel
theorem dX8_felled_30 : decode cX8_felled 30 = .ok (.iconst (-1), 1) := by decide +kernel
theorem dX8_felled_31 : decode cX8_felled 31 = .ok (.iload_n 1, 1) := by decide +kernel
theorem dX8_felled_32 : decode cX8_felled 32 = .ok (.invokevirtual 236, 3) := by decide +kernel
theorem dX8_felled_35 : decode cX8_felled 35 = .ok (.aload_n 0, 1) := by decide +kernel
theorem dX8_felled_36 : decode cX8_felled 36 = .ok (.getfield 58, 3) := by decide +kernel
theorem dX8_felled_39 : decode cX8_felled 39 = .ok (.getfield 240, 3) := by decide +kernel
theorem dX8_felled_42 : decode cX8_felled 42 = .ok (.istore 4, 2) := by decide +kernel
theorem dX8_felled_44 : decode cX8_felled 44 = .ok (.iload 4, 2) := by decide +kernel
theorem dX8_felled_46 : decode cX8_felled 46 = .ok (.istore 5, 2) := by decide +kernel
theorem dX8_felled_48 : decode cX8_felled 48 = .ok (.iconst (-1), 1) := by decide +kernel
theorem dX8_felled_49 : decode cX8_felled 49 = .ok (.istore 6, 2) := by decide +kernel
theorem dX8_felled_51 : decode cX8_felled 51 = .ok (.aload_n 0, 1) := by decide +kernel
theorem dX8_felled_52 : decode cX8_felled 52 = .ok (.getfield 31, 3) := by decide +kernel
theorem dX8_felled_55 : decode cX8_felled 55 = .ok (.aload_n 0, 1) := by decide +kernel
theorem dX8_felled_56 : decode cX8_felled 56 = .ok (.getfield 27, 3) := by decide +kernel
theorem dX8_felled_59 : decode cX8_felled 59 = .ok (.invokevirtual 95, 3) := by decide +kernel
theorem dX8_felled_62 : decode cX8_felled 62 = .ok (.iconst 0, 1) := by decide +kernel
theorem dX8_felled_63 : decode cX8_felled 63 = .ok (.istore 7, 2) := by decide +kernel
theorem dX8_felled_65 : decode cX8_felled 65 = .ok (.iload 7, 2) := by decide +kernel
theorem dX8_felled_67 : decode cX8_felled 67 = .ok (.aload_n 0, 1) := by decide +kernel
theorem dX8_felled_68 : decode cX8_felled 68 = .ok (.getfield 27, 3) := by decide +kernel
theorem dX8_felled_71 : decode cX8_felled 71 = .ok (.getfield 161, 3) := by decide +kernel
theorem dX8_felled_74 : decode cX8_felled 74 = .ok (.if_icmp .ge 109, 3) := by decide +kernel
theorem dX8_felled_77 : decode cX8_felled 77 = .ok (.aload_n 0, 1) := by decide +kernel
theorem dX8_felled_78 : decode cX8_felled 78 = .ok (.getfield 27, 3) := by decide +kernel
theorem dX8_felled_81 : decode cX8_felled 81 = .ok (.getfield 119, 3) := by decide +kernel
theorem dX8_felled_84 : decode cX8_felled 84 = .ok (.iload 7, 2) := by decide +kernel
theorem dX8_felled_86 : decode cX8_felled 86 = .ok (.iaload, 1) := by decide +kernel
theorem dX8_felled_87 : decode cX8_felled 87 = .ok (.ifCond .le 90, 3) := by decide +kernel
theorem dX8_felled_90 : decode cX8_felled 90 = .ok (.aload_n 0, 1) := by decide +kernel
theorem dX8_felled_91 : decode cX8_felled 91 = .ok (.getfield 31, 3) := by decide +kernel
theorem dX8_felled_94 : decode cX8_felled 94 = .ok (.getfield 119, 3) := by decide +kernel
theorem dX8_felled_97 : decode cX8_felled 97 = .ok (.iload 7, 2) := by decide +kernel
theorem dX8_felled_99 : decode cX8_felled 99 = .ok (.iconst 0, 1) := by decide +kernel
theorem dX8_felled_100 : decode cX8_felled 100 = .ok (.iastore, 1) := by decide +kernel
theorem dX8_felled_101 : decode cX8_felled 101 = .ok (.aload_n 0, 1) := by decide +kernel
theorem dX8_felled_102 : decode cX8_felled 102 = .ok (.getfield 58, 3) := by decide +kernel
theorem dX8_felled_105 : decode cX8_felled 105 = .ok (.aload_n 0, 1) := by decide +kernel
theorem dX8_felled_106 : decode cX8_felled 106 = .ok (.getfield 31, 3) := by decide +kernel
theorem dX8_felled_109 : decode cX8_felled 109 = .ok (.iconst 0, 1) := by decide +kernel
theorem dX8_felled_110 : decode cX8_felled 110 = .ok (.iconst (-1), 1) := by decide +kernel
theorem dX8_felled_111 : decode cX8_felled 111 = .ok (.invokevirtual 273, 3) := by decide +kernel
theorem dX8_felled_114 : decode cX8_felled 114 = .ok (.aload_n 0, 1) := by decide +kernel
theorem dX8_felled_115 : decode cX8_felled 115 = .ok (.getfield 31, 3) := by decide +kernel
theorem dX8_felled_118 : decode cX8_felled 118 = .ok (.getfield 119, 3) := by decide +kernel
theorem dX8_felled_121 : decode cX8_felled 121 = .ok (.iload 7, 2) := by decide +kernel
theorem dX8_felled_123 : decode cX8_felled 123 = .ok (.aload_n 0, 1) := by decide +kernel
theorem dX8_felled_124 : decode cX8_felled 124 = .ok (.getfield 27, 3) := by decide +kernel
theorem dX8_felled_127 : decode cX8_felled 127 = .ok (.getfield 119, 3) := by decide +kernel
theorem dX8_felled_130 : decode cX8_felled 130 = .ok (.iload 7, 2) := by decide +kernel
theorem dX8_felled_132 : decode cX8_felled 132 = .ok (.iaload, 1) := by decide +kernel
theorem dX8_felled_133 : decode cX8_felled 133 = .ok (.iastore, 1) := by decide +kernel
theorem dX8_felled_134 : decode cX8_felled 134 = .ok (.aload_n 0, 1) := by decide +kernel
theorem dX8_felled_135 : decode cX8_felled 135 = .ok (.getfield 58, 3) := by decide +kernel
theorem dX8_felled_138 : decode cX8_felled 138 = .ok (.aload_n 0, 1) := by decide +kernel
theorem dX8_felled_139 : decode cX8_felled 139 = .ok (.getfield 51, 3) := by decide +kernel
theorem dX8_felled_142 : decode cX8_felled 142 = .ok (.aload_n 0, 1) := by decide +kernel
theorem dX8_felled_143 : decode cX8_felled 143 = .ok (.iload_n 1, 1) := by decide +kernel
theorem dX8_felled_144 : decode cX8_felled 144 = .ok (.invokevirtual 233, 3) := by decide +kernel
theorem dX8_felled_147 : decode cX8_felled 147 = .ok (.iload 5, 2) := by decide +kernel
theorem dX8_felled_149 : decode cX8_felled 149 = .ok (.invokevirtual 277, 3) := by decide +kernel
theorem dX8_felled_152 : decode cX8_felled 152 = .ok (.aload_n 0, 1) := by decide +kernel
theorem dX8_felled_153 : decode cX8_felled 153 = .ok (.getfield 58, 3) := by decide +kernel
theorem dX8_felled_156 : decode cX8_felled 156 = .ok (.getfield 240, 3) := by decide +kernel
theorem dX8_felled_159 : decode cX8_felled 159 = .ok (.iload 5, 2) := by decide +kernel
theorem dX8_felled_161 : decode cX8_felled 161 = .ok (.if_icmp .le 16, 3) := by decide +kernel
theorem dX8_felled_164 : decode cX8_felled 164 = .ok (.aload_n 0, 1) := by decide +kernel
theorem dX8_felled_165 : decode cX8_felled 165 = .ok (.getfield 58, 3) := by decide +kernel
theorem dX8_felled_168 : decode cX8_felled 168 = .ok (.getfield 240, 3) := by decide +kernel
theorem dX8_felled_171 : decode cX8_felled 171 = .ok (.istore 5, 2) := by decide +kernel
theorem dX8_felled_173 : decode cX8_felled 173 = .ok (.iload 7, 2) := by decide +kernel
theorem dX8_felled_175 : decode cX8_felled 175 = .ok (.istore 6, 2) := by decide +kernel
theorem dX8_felled_177 : decode cX8_felled 177 = .ok (.iinc 7 1, 3) := by decide +kernel
theorem dX8_felled_180 : decode cX8_felled 180 = .ok (.goto (-115), 3) := by decide +kernel
theorem dX8_felled_183 : decode cX8_felled 183 = .ok (.iload_n 2, 1) := by decide +kernel
theorem dX8_felled_184 : decode cX8_felled 184 = .ok (.ifCond .ne 11, 3) := by decide +kernel
theorem dX8_felled_187 : decode cX8_felled 187 = .ok (.iload 5, 2) := by decide +kernel
theorem dX8_felled_189 : decode cX8_felled 189 = .ok (.iload 4, 2) := by decide +kernel
theorem dX8_felled_191 : decode cX8_felled 191 = .ok (.isub, 1) := by decide +kernel
theorem dX8_felled_192 : decode cX8_felled 192 = .ok (.goto 5, 3) := by decide +kernel
theorem dX8_felled_195 : decode cX8_felled 195 = .ok (.iload 6, 2) := by decide +kernel
theorem dX8_felled_197 : decode cX8_felled 197 = .ok (.ireturn, 1) := by decide +kernel
theorem dX8_soonest_0 : decode cX8_soonest 0 = .ok (.iload_n 1, 1) := by decide +kernel
theorem dX8_soonest_1 : decode cX8_soonest 1 = .ok (.ifCond .lt 10, 3) := by decide +kernel
theorem dX8_soonest_4 : decode cX8_soonest 4 = .ok (.iload_n 1, 1) := by decide +kernel
theorem dX8_soonest_5 : decode cX8_soonest 5 = .ok (.sipush 9999, 3) := by decide +kernel
theorem dX8_soonest_8 : decode cX8_soonest 8 = .ok (.if_icmp .le 6, 3) := by decide +kernel
theorem dX8_soonest_11 : decode cX8_soonest 11 = .ok (.bipush (-3), 2) := by decide +kernel
theorem dX8_soonest_13 : decode cX8_soonest 13 = .ok (.ireturn, 1) := by decide +kernel
theorem dX8_soonest_14 : decode cX8_soonest 14 = .ok (.aload_n 0, 1) := by decide +kernel
theorem dX8_soonest_15 : decode cX8_soonest 15 = .ok (.getfield 27, 3) := by decide +kernel
theorem dX8_soonest_18 : decode cX8_soonest 18 = .ok (.getfield 161, 3) := by decide +kernel
theorem dX8_soonest_21 : decode cX8_soonest 21 = .ok (.ifCond .ne 6, 3) := by decide +kernel
theorem dX8_soonest_24 : decode cX8_soonest 24 = .ok (.bipush (-5), 2) := by decide +kernel
theorem dX8_soonest_26 : decode cX8_soonest 26 = .ok (.ireturn, 1) := by decide +kernel
theorem dX8_soonest_27 : decode cX8_soonest 27 = .ok (.iload_n 1, 1) := by decide +kernel
theorem dX8_soonest_28 : decode cX8_soonest 28 = .ok (.ifCond .ne 5, 3) := by decide +kernel
theorem dX8_soonest_31 : decode cX8_soonest 31 = .ok (.iconst 0, 1) := by decide +kernel
theorem dX8_soonest_32 : decode cX8_soonest 32 = .ok (.ireturn, 1) := by decide +kernel
theorem dX8_soonest_33 : decode cX8_soonest 33 = .ok (.iload_n 1, 1) := by decide +kernel
theorem dX8_soonest_34 : decode cX8_soonest 34 = .ok (.aload_n 0, 1) := by decide +kernel
theorem dX8_soonest_35 : decode cX8_soonest 35 = .ok (.getfield 27, 3) := by decide +kernel
theorem dX8_soonest_38 : decode cX8_soonest 38 = .ok (.aload_n 0, 1) := by decide +kernel
theorem dX8_soonest_39 : decode cX8_soonest 39 = .ok (.getfield 27, 3) := by decide +kernel
theorem dX8_soonest_42 : decode cX8_soonest 42 = .ok (.getfield 112, 3) := by decide +kernel
theorem dX8_soonest_45 : decode cX8_soonest 45 = .ok (.invokevirtual 200, 3) := by decide +kernel
theorem dX8_soonest_48 : decode cX8_soonest 48 = .ok (.if_icmp .le 5, 3) := by decide +kernel
theorem dX8_soonest_51 : decode cX8_soonest 51 = .ok (.iconst (-1), 1) := by decide +kernel
theorem dX8_soonest_52 : decode cX8_soonest 52 = .ok (.ireturn, 1) := by decide +kernel
theorem dX8_soonest_53 : decode cX8_soonest 53 = .ok (.aload_n 0, 1) := by decide +kernel
theorem dX8_soonest_54 : decode cX8_soonest 54 = .ok (.getfield 58, 3) := by decide +kernel
theorem dX8_soonest_57 : decode cX8_soonest 57 = .ok (.aload_n 0, 1) := by decide +kernel
theorem dX8_soonest_58 : decode cX8_soonest 58 = .ok (.getfield 27, 3) := by decide +kernel
theorem dX8_soonest_61 : decode cX8_soonest 61 = .ok (.iconst 0, 1) := by decide +kernel
theorem dX8_soonest_62 : decode cX8_soonest 62 = .ok (.iconst (-1), 1) := by decide +kernel
theorem dX8_soonest_63 : decode cX8_soonest 63 = .ok (.invokevirtual 273, 3) := by decide +kernel
theorem dX8_soonest_66 : decode cX8_soonest 66 = .ok (.aload_n 0, 1) := by decide +kernel
theorem dX8_soonest_67 : decode cX8_soonest 67 = .ok (.bipush 8, 2) := by decide +kernel
theorem dX8_soonest_69 : decode cX8_soonest 69 = .ok (.invokevirtual 233, 3) := by decide +kernel
theorem dX8_soonest_72 : decode cX8_soonest 72 = .ok (.istore_n 2, 1) := by decide +kernel
theorem dX8_soonest_73 : decode cX8_soonest 73 = .ok (.iconst 1, 1) := by decide +kernel
theorem dX8_soonest_74 : decode cX8_soonest 74 = .ok (.istore_n 3, 1) := by decide +kernel
theorem dX8_soonest_75 : decode cX8_soonest 75 = .ok (.iload_n 3, 1) := by decide +kernel
theorem dX8_soonest_76 : decode cX8_soonest 76 = .ok (.iload_n 2, 1) := by decide +kernel
theorem dX8_soonest_77 : decode cX8_soonest 77 = .ok (.if_icmp .gt 59, 3) := by decide +kernel
theorem dX8_soonest_80 : decode cX8_soonest 80 = .ok (.aload_n 0, 1) := by decide +kernel
theorem dX8_soonest_81 : decode cX8_soonest 81 = .ok (.getfield 51, 3) := by decide +kernel
theorem dX8_soonest_84 : decode cX8_soonest 84 = .ok (.aload_n 0, 1) := by decide +kernel
theorem dX8_soonest_85 : decode cX8_soonest 85 = .ok (.getfield 27, 3) := by decide +kernel
theorem dX8_soonest_88 : decode cX8_soonest 88 = .ok (.getfield 161, 3) := by decide +kernel
theorem dX8_soonest_91 : decode cX8_soonest 91 = .ok (.aload_n 0, 1) := by decide +kernel
theorem dX8_soonest_92 : decode cX8_soonest 92 = .ok (.getfield 27, 3) := by decide +kernel
theorem dX8_soonest_95 : decode cX8_soonest 95 = .ok (.getfield 128, 3) := by decide +kernel
theorem dX8_soonest_98 : decode cX8_soonest 98 = .ok (.iload_n 3, 1) := by decide +kernel
theorem dX8_soonest_99 : decode cX8_soonest 99 = .ok (.invokevirtual 281, 3) := by decide +kernel
theorem dX8_soonest_102 : decode cX8_soonest 102 = .ok (.aload_n 0, 1) := by decide +kernel
theorem dX8_soonest_103 : decode cX8_soonest 103 = .ok (.getfield 58, 3) := by decide +kernel
theorem dX8_soonest_106 : decode cX8_soonest 106 = .ok (.aload_n 0, 1) := by decide +kernel
theorem dX8_soonest_107 : decode cX8_soonest 107 = .ok (.getfield 51, 3) := by decide +kernel
theorem dX8_soonest_110 : decode cX8_soonest 110 = .ok (.iload_n 3, 1) := by decide +kernel
theorem dX8_soonest_111 : decode cX8_soonest 111 = .ok (.iload_n 1, 1) := by decide +kernel
theorem dX8_soonest_112 : decode cX8_soonest 112 = .ok (.iconst 1, 1) := by decide +kernel
theorem dX8_soonest_113 : decode cX8_soonest 113 = .ok (.isub, 1) := by decide +kernel
theorem dX8_soonest_114 : decode cX8_soonest 114 = .ok (.invokevirtual 277, 3) := by decide +kernel
theorem dX8_soonest_117 : decode cX8_soonest 117 = .ok (.aload_n 0, 1) := by decide +kernel
theorem dX8_soonest_118 : decode cX8_soonest 118 = .ok (.getfield 58, 3) := by decide +kernel
theorem dX8_soonest_121 : decode cX8_soonest 121 = .ok (.getfield 240, 3) := by decide +kernel
theorem dX8_soonest_124 : decode cX8_soonest 124 = .ok (.iload_n 1, 1) := by decide +kernel
theorem dX8_soonest_125 : decode cX8_soonest 125 = .ok (.if_icmp .lt 5, 3) := by decide +kernel
theorem dX8_soonest_128 : decode cX8_soonest 128 = .ok (.iload_n 3, 1) := by decide +kernel
theorem dX8_soonest_129 : decode cX8_soonest 129 = .ok (.ireturn, 1) := by decide +kernel
theorem dX8_soonest_130 : decode cX8_soonest 130 = .ok (.iinc 3 1, 3) := by decide +kernel
theorem dX8_soonest_133 : decode cX8_soonest 133 = .ok (.goto (-58), 3) := by decide +kernel
theorem dX8_soonest_136 : decode cX8_soonest 136 = .ok (.iconst (-1), 1) := by decide +kernel
theorem dX8_soonest_137 : decode cX8_soonest 137 = .ok (.ireturn, 1) := by decide +kernel
theorem dX8_dark_0 : decode cX8_dark 0 = .ok (.iconst 0, 1) := by decide +kernel
theorem dX8_dark_1 : decode cX8_dark 1 = .ok (.istore_n 1, 1) := by decide +kernel
theorem dX8_dark_2 : decode cX8_dark 2 = .ok (.iconst 0, 1) := by decide +kernel
theorem dX8_dark_3 : decode cX8_dark 3 = .ok (.istore_n 2, 1) := by decide +kernel
theorem dX8_dark_4 : decode cX8_dark 4 = .ok (.iload_n 2, 1) := by decide +kernel
theorem dX8_dark_5 : decode cX8_dark 5 = .ok (.aload_n 0, 1) := by decide +kernel
theorem dX8_dark_6 : decode cX8_dark 6 = .ok (.getfield 27, 3) := by decide +kernel
theorem dX8_dark_9 : decode cX8_dark 9 = .ok (.getfield 161, 3) := by decide +kernel
theorem dX8_dark_12 : decode cX8_dark 12 = .ok (.if_icmp .ge 20, 3) := by decide +kernel
theorem dX8_dark_15 : decode cX8_dark 15 = .ok (.iload_n 1, 1) := by decide +kernel
theorem dX8_dark_16 : decode cX8_dark 16 = .ok (.aload_n 0, 1) := by decide +kernel
theorem dX8_dark_17 : decode cX8_dark 17 = .ok (.getfield 27, 3) := by decide +kernel
theorem dX8_dark_20 : decode cX8_dark 20 = .ok (.iload_n 2, 1) := by decide +kernel
theorem dX8_dark_21 : decode cX8_dark 21 = .ok (.invokevirtual 149, 3) := by decide +kernel
theorem dX8_dark_24 : decode cX8_dark 24 = .ok (.ior, 1) := by decide +kernel
theorem dX8_dark_25 : decode cX8_dark 25 = .ok (.istore_n 1, 1) := by decide +kernel
theorem dX8_dark_26 : decode cX8_dark 26 = .ok (.iinc 2 1, 3) := by decide +kernel
theorem dX8_dark_29 : decode cX8_dark 29 = .ok (.goto (-25), 3) := by decide +kernel
theorem dX8_dark_32 : decode cX8_dark 32 = .ok (.aload_n 0, 1) := by decide +kernel
theorem dX8_dark_33 : decode cX8_dark 33 = .ok (.getfield 27, 3) := by decide +kernel
theorem dX8_dark_36 : decode cX8_dark 36 = .ok (.invokevirtual 284, 3) := by decide +kernel
theorem dX8_dark_39 : decode cX8_dark 39 = .ok (.iload_n 1, 1) := by decide +kernel
theorem dX8_dark_40 : decode cX8_dark 40 = .ok (.iconst (-1), 1) := by decide +kernel
theorem dX8_dark_41 : decode cX8_dark 41 = .ok (.ixor, 1) := by decide +kernel
theorem dX8_dark_42 : decode cX8_dark 42 = .ok (.iand, 1) := by decide +kernel
theorem dX8_dark_43 : decode cX8_dark 43 = .ok (.ireturn, 1) := by decide +kernel
theorem dX8_ends_0 : decode cX8_ends 0 = .ok (.aload_n 0, 1) := by decide +kernel
theorem dX8_ends_1 : decode cX8_ends 1 = .ok (.iconst 1, 1) := by decide +kernel
theorem dX8_ends_2 : decode cX8_ends 2 = .ok (.iload_n 1, 1) := by decide +kernel
theorem dX8_ends_3 : decode cX8_ends 3 = .ok (.bipush 6, 2) := by decide +kernel
theorem dX8_ends_5 : decode cX8_ends 5 = .ok (.invokevirtual 229, 3) := by decide +kernel
theorem dX8_ends_8 : decode cX8_ends 8 = .ok (.istore_n 2, 1) := by decide +kernel
theorem dX8_ends_9 : decode cX8_ends 9 = .ok (.iload_n 2, 1) := by decide +kernel
theorem dX8_ends_10 : decode cX8_ends 10 = .ok (.ifCond .eq 5, 3) := by decide +kernel
theorem dX8_ends_13 : decode cX8_ends 13 = .ok (.iload_n 2, 1) := by decide +kernel
theorem dX8_ends_14 : decode cX8_ends 14 = .ok (.ireturn, 1) := by decide +kernel
theorem dX8_ends_15 : decode cX8_ends 15 = .ok (.aload_n 0, 1) := by decide +kernel
theorem dX8_ends_16 : decode cX8_ends 16 = .ok (.iload_n 1, 1) := by decide +kernel
theorem dX8_ends_17 : decode cX8_ends 17 = .ok (.invokevirtual 233, 3) := by decide +kernel
theorem dX8_ends_20 : decode cX8_ends 20 = .ok (.istore_n 3, 1) := by decide +kernel
theorem dX8_ends_21 : decode cX8_ends 21 = .ok (.aload_n 0, 1) := by decide +kernel
theorem dX8_ends_22 : decode cX8_ends 22 = .ok (.getfield 51, 3) := by decide +kernel
theorem dX8_ends_25 : decode cX8_ends 25 = .ok (.aload_n 0, 1) := by decide +kernel
theorem dX8_ends_26 : decode cX8_ends 26 = .ok (.getfield 27, 3) := by decide +kernel
theorem dX8_ends_29 : decode cX8_ends 29 = .ok (.getfield 161, 3) := by decide +kernel
theorem dX8_ends_32 : decode cX8_ends 32 = .ok (.aload_n 0, 1) := by decide +kernel
theorem dX8_ends_33 : decode cX8_ends 33 = .ok (.getfield 27, 3) := by decide +kernel
theorem dX8_ends_36 : decode cX8_ends 36 = .ok (.getfield 128, 3) := by decide +kernel
theorem dX8_ends_39 : decode cX8_ends 39 = .ok (.iload_n 3, 1) := by decide +kernel
theorem dX8_ends_40 : decode cX8_ends 40 = .ok (.invokevirtual 281, 3) := by decide +kernel
theorem dX8_ends_43 : decode cX8_ends 43 = .ok (.aload_n 0, 1) := by decide +kernel
theorem dX8_ends_44 : decode cX8_ends 44 = .ok (.getfield 58, 3) := by decide +kernel
theorem dX8_ends_47 : decode cX8_ends 47 = .ok (.aload_n 0, 1) := by decide +kernel
theorem dX8_ends_48 : decode cX8_ends 48 = .ok (.getfield 27, 3) := by decide +kernel
theorem dX8_ends_51 : decode cX8_ends 51 = .ok (.iconst 0, 1) := by decide +kernel
theorem dX8_ends_52 : decode cX8_ends 52 = .ok (.iconst (-1), 1) := by decide +kernel
theorem dX8_ends_53 : decode cX8_ends 53 = .ok (.invokevirtual 273, 3) := by decide +kernel
theorem dX8_ends_56 : decode cX8_ends 56 = .ok (.aload_n 0, 1) := by decide +kernel
theorem dX8_ends_57 : decode cX8_ends 57 = .ok (.getfield 72, 3) := by decide +kernel
theorem dX8_ends_60 : decode cX8_ends 60 = .ok (.aload_n 0, 1) := by decide +kernel
theorem dX8_ends_61 : decode cX8_ends 61 = .ok (.getfield 58, 3) := by decide +kernel
theorem dX8_ends_64 : decode cX8_ends 64 = .ok (.aload_n 0, 1) := by decide +kernel
theorem dX8_ends_65 : decode cX8_ends 65 = .ok (.getfield 51, 3) := by decide +kernel
theorem dX8_ends_68 : decode cX8_ends 68 = .ok (.iload_n 3, 1) := by decide +kernel
theorem dX8_ends_69 : decode cX8_ends 69 = .ok (.invokevirtual 287, 3) := by decide +kernel
theorem dX8_ends_72 : decode cX8_ends 72 = .ok (.ireturn, 1) := by decide +kernel
theorem dX8_halts_0 : decode cX8_halts 0 = .ok (.aload_n 0, 1) := by decide +kernel
theorem dX8_halts_1 : decode cX8_halts 1 = .ok (.getfield 27, 3) := by decide +kernel
theorem dX8_halts_4 : decode cX8_halts 4 = .ok (.iload_n 1, 1) := by decide +kernel
theorem dX8_halts_5 : decode cX8_halts 5 = .ok (.invokevirtual 158, 3) := by decide +kernel
theorem dX8_halts_8 : decode cX8_halts 8 = .ok (.ifCond .ne 6, 3) := by decide +kernel
theorem dX8_halts_11 : decode cX8_halts 11 = .ok (.bipush (-3), 2) := by decide +kernel
theorem dX8_halts_13 : decode cX8_halts 13 = .ok (.ireturn, 1) := by decide +kernel
theorem dX8_halts_14 : decode cX8_halts 14 = .ok (.aload_n 0, 1) := by decide +kernel
theorem dX8_halts_15 : decode cX8_halts 15 = .ok (.getfield 79, 3) := by decide +kernel
theorem dX8_halts_18 : decode cX8_halts 18 = .ok (.aload_n 0, 1) := by decide +kernel
theorem dX8_halts_19 : decode cX8_halts 19 = .ok (.getfield 27, 3) := by decide +kernel
theorem dX8_halts_22 : decode cX8_halts 22 = .ok (.iload_n 1, 1) := by decide +kernel
theorem dX8_halts_23 : decode cX8_halts 23 = .ok (.invokevirtual 291, 3) := by decide +kernel
theorem dX8_halts_26 : decode cX8_halts 26 = .ok (.ireturn, 1) := by decide +kernel
theorem dX8_tour_0 : decode cX8_tour 0 = .ok (.aload_n 0, 1) := by decide +kernel
theorem dX8_tour_1 : decode cX8_tour 1 = .ok (.getfield 27, 3) := by decide +kernel
theorem dX8_tour_4 : decode cX8_tour 4 = .ok (.iload_n 1, 1) := by decide +kernel
theorem dX8_tour_5 : decode cX8_tour 5 = .ok (.invokevirtual 158, 3) := by decide +kernel
theorem dX8_tour_8 : decode cX8_tour 8 = .ok (.ifCond .ne 6, 3) := by decide +kernel
theorem dX8_tour_11 : decode cX8_tour 11 = .ok (.bipush (-3), 2) := by decide +kernel
theorem dX8_tour_13 : decode cX8_tour 13 = .ok (.ireturn, 1) := by decide +kernel
theorem dX8_tour_14 : decode cX8_tour 14 = .ok (.aload_n 0, 1) := by decide +kernel
theorem dX8_tour_15 : decode cX8_tour 15 = .ok (.getfield 79, 3) := by decide +kernel
theorem dX8_tour_18 : decode cX8_tour 18 = .ok (.aload_n 0, 1) := by decide +kernel
theorem dX8_tour_19 : decode cX8_tour 19 = .ok (.getfield 27, 3) := by decide +kernel
theorem dX8_tour_22 : decode cX8_tour 22 = .ok (.iload_n 1, 1) := by decide +kernel
theorem dX8_tour_23 : decode cX8_tour 23 = .ok (.invokevirtual 291, 3) := by decide +kernel
theorem dX8_tour_26 : decode cX8_tour 26 = .ok (.istore_n 2, 1) := by decide +kernel
theorem dX8_tour_27 : decode cX8_tour 27 = .ok (.iload_n 2, 1) := by decide +kernel
theorem dX8_tour_28 : decode cX8_tour 28 = .ok (.iconst (-1), 1) := by decide +kernel
theorem dX8_tour_29 : decode cX8_tour 29 = .ok (.if_icmp .eq 7, 3) := by decide +kernel
theorem dX8_tour_32 : decode cX8_tour 32 = .ok (.iload_n 2, 1) := by decide +kernel
theorem dX8_tour_33 : decode cX8_tour 33 = .ok (.ifCond .ne 5, 3) := by decide +kernel
theorem dX8_tour_36 : decode cX8_tour 36 = .ok (.iload_n 2, 1) := by decide +kernel
theorem dX8_tour_37 : decode cX8_tour 37 = .ok (.ireturn, 1) := by decide +kernel
theorem dX8_tour_38 : decode cX8_tour 38 = .ok (.aload_n 0, 1) := by decide +kernel
theorem dX8_tour_39 : decode cX8_tour 39 = .ok (.getfield 27, 3) := by decide +kernel
theorem dX8_tour_42 : decode cX8_tour 42 = .ok (.getfield 128, 3) := by decide +kernel
theorem dX8_tour_45 : decode cX8_tour 45 = .ok (.iload_n 2, 1) := by decide +kernel
theorem dX8_tour_46 : decode cX8_tour 46 = .ok (.invokestatic 295, 3) := by decide +kernel
theorem dX8_tour_49 : decode cX8_tour 49 = .ok (.invokestatic 211, 3) := by decide +kernel
theorem dX8_tour_52 : decode cX8_tour 52 = .ok (.istore_n 3, 1) := by decide +kernel
theorem dX8_tour_53 : decode cX8_tour 53 = .ok (.aload_n 0, 1) := by decide +kernel
theorem dX8_tour_54 : decode cX8_tour 54 = .ok (.getfield 27, 3) := by decide +kernel
theorem dX8_tour_57 : decode cX8_tour 57 = .ok (.getfield 128, 3) := by decide +kernel
theorem dX8_tour_60 : decode cX8_tour 60 = .ok (.bipush 31, 2) := by decide +kernel
theorem dX8_tour_62 : decode cX8_tour 62 = .ok (.iload_n 2, 1) := by decide +kernel
theorem dX8_tour_63 : decode cX8_tour 63 = .ok (.invokestatic 300, 3) := by decide +kernel
theorem dX8_tour_66 : decode cX8_tour 66 = .ok (.isub, 1) := by decide +kernel
theorem dX8_tour_67 : decode cX8_tour 67 = .ok (.invokestatic 303, 3) := by decide +kernel
theorem dX8_tour_70 : decode cX8_tour 70 = .ok (.istore 4, 2) := by decide +kernel
theorem dX8_tour_72 : decode cX8_tour 72 = .ok (.iload 4, 2) := by decide +kernel
theorem dX8_tour_74 : decode cX8_tour 74 = .ok (.iload_n 3, 1) := by decide +kernel
theorem dX8_tour_75 : decode cX8_tour 75 = .ok (.isub, 1) := by decide +kernel
theorem dX8_tour_76 : decode cX8_tour 76 = .ok (.aload_n 0, 1) := by decide +kernel
theorem dX8_tour_77 : decode cX8_tour 77 = .ok (.getfield 27, 3) := by decide +kernel
theorem dX8_tour_80 : decode cX8_tour 80 = .ok (.getfield 128, 3) := by decide +kernel
theorem dX8_tour_83 : decode cX8_tour 83 = .ok (.iload_n 3, 1) := by decide +kernel
theorem dX8_tour_84 : decode cX8_tour 84 = .ok (.isub, 1) := by decide +kernel
theorem dX8_tour_85 : decode cX8_tour 85 = .ok (.iload 4, 2) := by decide +kernel
theorem dX8_tour_87 : decode cX8_tour 87 = .ok (.aload_n 0, 1) := by decide +kernel
theorem dX8_tour_88 : decode cX8_tour 88 = .ok (.getfield 27, 3) := by decide +kernel
theorem dX8_tour_91 : decode cX8_tour 91 = .ok (.getfield 128, 3) := by decide +kernel
theorem dX8_tour_94 : decode cX8_tour 94 = .ok (.isub, 1) := by decide +kernel
theorem dX8_tour_95 : decode cX8_tour 95 = .ok (.invokestatic 211, 3) := by decide +kernel
theorem dX8_tour_98 : decode cX8_tour 98 = .ok (.iadd, 1) := by decide +kernel
theorem dX8_tour_99 : decode cX8_tour 99 = .ok (.ireturn, 1) := by decide +kernel
theorem dX8_stubble_0 : decode cX8_stubble 0 = .ok (.aload_n 0, 1) := by decide +kernel
theorem dX8_stubble_1 : decode cX8_stubble 1 = .ok (.iload_n 1, 1) := by decide +kernel
theorem dX8_stubble_2 : decode cX8_stubble 2 = .ok (.iload_n 2, 1) := by decide +kernel
theorem dX8_stubble_3 : decode cX8_stubble 3 = .ok (.invokevirtual 306, 3) := by decide +kernel
theorem dX8_stubble_6 : decode cX8_stubble 6 = .ok (.istore_n 3, 1) := by decide +kernel
theorem dX8_stubble_7 : decode cX8_stubble 7 = .ok (.iload_n 3, 1) := by decide +kernel
theorem dX8_stubble_8 : decode cX8_stubble 8 = .ok (.ifCond .eq 5, 3) := by decide +kernel
theorem dX8_stubble_11 : decode cX8_stubble 11 = .ok (.iload_n 3, 1) := by decide +kernel
theorem dX8_stubble_12 : decode cX8_stubble 12 = .ok (.ireturn, 1) := by decide +kernel
theorem dX8_stubble_13 : decode cX8_stubble 13 = .ok (.aload_n 0, 1) := by decide +kernel
theorem dX8_stubble_14 : decode cX8_stubble 14 = .ok (.aload_n 0, 1) := by decide +kernel
theorem dX8_stubble_15 : decode cX8_stubble 15 = .ok (.getfield 44, 3) := by decide +kernel
theorem dX8_stubble_18 : decode cX8_stubble 18 = .ok (.iload_n 1, 1) := by decide +kernel
theorem dX8_stubble_19 : decode cX8_stubble 19 = .ok (.aaload, 1) := by decide +kernel
theorem dX8_stubble_20 : decode cX8_stubble 20 = .ok (.iload_n 2, 1) := by decide +kernel
theorem dX8_stubble_21 : decode cX8_stubble 21 = .ok (.invokevirtual 309, 3) := by decide +kernel
theorem dX8_stubble_24 : decode cX8_stubble 24 = .ok (.aload_n 0, 1) := by decide +kernel
theorem dX8_stubble_25 : decode cX8_stubble 25 = .ok (.getfield 72, 3) := by decide +kernel
theorem dX8_stubble_28 : decode cX8_stubble 28 = .ok (.getfield 313, 3) := by decide +kernel
theorem dX8_stubble_31 : decode cX8_stubble 31 = .ok (.ireturn, 1) := by decide +kernel
theorem dX8_sure_0 : decode cX8_sure 0 = .ok (.aload_n 0, 1) := by decide +kernel
theorem dX8_sure_1 : decode cX8_sure 1 = .ok (.iload_n 1, 1) := by decide +kernel
theorem dX8_sure_2 : decode cX8_sure 2 = .ok (.iload_n 2, 1) := by decide +kernel
theorem dX8_sure_3 : decode cX8_sure 3 = .ok (.invokevirtual 306, 3) := by decide +kernel
theorem dX8_sure_6 : decode cX8_sure 6 = .ok (.istore_n 3, 1) := by decide +kernel
theorem dX8_sure_7 : decode cX8_sure 7 = .ok (.iload_n 3, 1) := by decide +kernel
theorem dX8_sure_8 : decode cX8_sure 8 = .ok (.ifCond .eq 5, 3) := by decide +kernel
theorem dX8_sure_11 : decode cX8_sure 11 = .ok (.iload_n 3, 1) := by decide +kernel
theorem dX8_sure_12 : decode cX8_sure 12 = .ok (.ireturn, 1) := by decide +kernel
theorem dX8_sure_13 : decode cX8_sure 13 = .ok (.aload_n 0, 1) := by decide +kernel
theorem dX8_sure_14 : decode cX8_sure 14 = .ok (.aload_n 0, 1) := by decide +kernel
theorem dX8_sure_15 : decode cX8_sure 15 = .ok (.getfield 44, 3) := by decide +kernel
theorem dX8_sure_18 : decode cX8_sure 18 = .ok (.iload_n 1, 1) := by decide +kernel
theorem dX8_sure_19 : decode cX8_sure 19 = .ok (.aaload, 1) := by decide +kernel
theorem dX8_sure_20 : decode cX8_sure 20 = .ok (.iload_n 2, 1) := by decide +kernel
theorem dX8_sure_21 : decode cX8_sure 21 = .ok (.invokevirtual 309, 3) := by decide +kernel
theorem dX8_sure_24 : decode cX8_sure 24 = .ok (.aload_n 0, 1) := by decide +kernel
theorem dX8_sure_25 : decode cX8_sure 25 = .ok (.getfield 72, 3) := by decide +kernel
theorem dX8_sure_28 : decode cX8_sure 28 = .ok (.getfield 316, 3) := by decide +kernel
theorem dX8_sure_31 : decode cX8_sure 31 = .ok (.ireturn, 1) := by decide +kernel
theorem dX8_meets_0 : decode cX8_meets 0 = .ok (.aload_n 0, 1) := by decide +kernel
theorem dX8_meets_1 : decode cX8_meets 1 = .ok (.iload_n 1, 1) := by decide +kernel
theorem dX8_meets_2 : decode cX8_meets 2 = .ok (.iload_n 2, 1) := by decide +kernel
theorem dX8_meets_3 : decode cX8_meets 3 = .ok (.invokevirtual 319, 3) := by decide +kernel
theorem dX8_meets_6 : decode cX8_meets 6 = .ok (.istore_n 3, 1) := by decide +kernel
theorem dX8_meets_7 : decode cX8_meets 7 = .ok (.iload_n 3, 1) := by decide +kernel
theorem dX8_meets_8 : decode cX8_meets 8 = .ok (.ifCond .eq 5, 3) := by decide +kernel
theorem dX8_meets_11 : decode cX8_meets 11 = .ok (.iload_n 3, 1) := by decide +kernel
theorem dX8_meets_12 : decode cX8_meets 12 = .ok (.ireturn, 1) := by decide +kernel
theorem dX8_meets_13 : decode cX8_meets 13 = .ok (.aload_n 0, 1) := by decide +kernel
theorem dX8_meets_14 : decode cX8_meets 14 = .ok (.aload_n 0, 1) := by decide +kernel
theorem dX8_meets_15 : decode cX8_meets 15 = .ok (.getfield 44, 3) := by decide +kernel
theorem dX8_meets_18 : decode cX8_meets 18 = .ok (.iload_n 1, 1) := by decide +kernel
theorem dX8_meets_19 : decode cX8_meets 19 = .ok (.aaload, 1) := by decide +kernel
theorem dX8_meets_20 : decode cX8_meets 20 = .ok (.aload_n 0, 1) := by decide +kernel
theorem dX8_meets_21 : decode cX8_meets 21 = .ok (.getfield 44, 3) := by decide +kernel
theorem dX8_meets_24 : decode cX8_meets 24 = .ok (.iload_n 2, 1) := by decide +kernel
theorem dX8_meets_25 : decode cX8_meets 25 = .ok (.aaload, 1) := by decide +kernel
theorem dX8_meets_26 : decode cX8_meets 26 = .ok (.iconst 0, 1) := by decide +kernel
theorem dX8_meets_27 : decode cX8_meets 27 = .ok (.invokevirtual 322, 3) := by decide +kernel
theorem dX8_meets_30 : decode cX8_meets 30 = .ok (.ireturn, 1) := by decide +kernel
theorem dX8_delay_0 : decode cX8_delay 0 = .ok (.aload_n 0, 1) := by decide +kernel
theorem dX8_delay_1 : decode cX8_delay 1 = .ok (.iload_n 1, 1) := by decide +kernel
theorem dX8_delay_2 : decode cX8_delay 2 = .ok (.iload_n 2, 1) := by decide +kernel
theorem dX8_delay_3 : decode cX8_delay 3 = .ok (.invokevirtual 319, 3) := by decide +kernel
theorem dX8_delay_6 : decode cX8_delay 6 = .ok (.istore_n 3, 1) := by decide +kernel
theorem dX8_delay_7 : decode cX8_delay 7 = .ok (.iload_n 3, 1) := by decide +kernel
theorem dX8_delay_8 : decode cX8_delay 8 = .ok (.ifCond .eq 5, 3) := by decide +kernel
theorem dX8_delay_11 : decode cX8_delay 11 = .ok (.iload_n 3, 1) := by decide +kernel
theorem dX8_delay_12 : decode cX8_delay 12 = .ok (.ireturn, 1) := by decide +kernel
theorem dX8_delay_13 : decode cX8_delay 13 = .ok (.iconst 0, 1) := by decide +kernel
theorem dX8_delay_14 : decode cX8_delay 14 = .ok (.istore 4, 2) := by decide +kernel
theorem dX8_delay_16 : decode cX8_delay 16 = .ok (.iload 4, 2) := by decide +kernel
theorem dX8_delay_18 : decode cX8_delay 18 = .ok (.bipush 40, 2) := by decide +kernel
theorem dX8_delay_20 : decode cX8_delay 20 = .ok (.if_icmp .gt 34, 3) := by decide +kernel
theorem dX8_delay_23 : decode cX8_delay 23 = .ok (.aload_n 0, 1) := by decide +kernel
theorem dX8_delay_24 : decode cX8_delay 24 = .ok (.aload_n 0, 1) := by decide +kernel
theorem dX8_delay_25 : decode cX8_delay 25 = .ok (.getfield 44, 3) := by decide +kernel
theorem dX8_delay_28 : decode cX8_delay 28 = .ok (.iload_n 1, 1) := by decide +kernel
theorem dX8_delay_29 : decode cX8_delay 29 = .ok (.aaload, 1) := by decide +kernel
theorem dX8_delay_30 : decode cX8_delay 30 = .ok (.aload_n 0, 1) := by decide +kernel
theorem dX8_delay_31 : decode cX8_delay 31 = .ok (.getfield 44, 3) := by decide +kernel
theorem dX8_delay_34 : decode cX8_delay 34 = .ok (.iload_n 2, 1) := by decide +kernel
theorem dX8_delay_35 : decode cX8_delay 35 = .ok (.aaload, 1) := by decide +kernel
theorem dX8_delay_36 : decode cX8_delay 36 = .ok (.iload 4, 2) := by decide +kernel
theorem dX8_delay_38 : decode cX8_delay 38 = .ok (.invokevirtual 322, 3) := by decide +kernel
theorem dX8_delay_41 : decode cX8_delay 41 = .ok (.iconst (-1), 1) := by decide +kernel
theorem dX8_delay_42 : decode cX8_delay 42 = .ok (.if_icmp .ne 6, 3) := by decide +kernel
theorem dX8_delay_45 : decode cX8_delay 45 = .ok (.iload 4, 2) := by decide +kernel
theorem dX8_delay_47 : decode cX8_delay 47 = .ok (.ireturn, 1) := by decide +kernel
theorem dX8_delay_48 : decode cX8_delay 48 = .ok (.iinc 4 1, 3) := by decide +kernel
theorem dX8_delay_51 : decode cX8_delay 51 = .ok (.goto (-35), 3) := by decide +kernel
theorem dX8_delay_54 : decode cX8_delay 54 = .ok (.iconst (-1), 1) := by decide +kernel
theorem dX8_delay_55 : decode cX8_delay 55 = .ok (.ireturn, 1) := by decide +kernel
theorem dX8_numbers_0 : decode cX8_numbers 0 = .ok (.iload_n 1, 1) := by decide +kernel
theorem dX8_numbers_1 : decode cX8_numbers 1 = .ok (.invokestatic 182, 3) := by decide +kernel
theorem dX8_numbers_4 : decode cX8_numbers 4 = .ok (.ifCond .eq 12, 3) := by decide +kernel
theorem dX8_numbers_7 : decode cX8_numbers 7 = .ok (.iload_n 2, 1) := by decide +kernel
theorem dX8_numbers_8 : decode cX8_numbers 8 = .ok (.ifCond .lt 8, 3) := by decide +kernel
theorem dX8_numbers_11 : decode cX8_numbers 11 = .ok (.iload_n 2, 1) := by decide +kernel
theorem dX8_numbers_12 : decode cX8_numbers 12 = .ok (.iconst 4, 1) := by decide +kernel
theorem dX8_numbers_13 : decode cX8_numbers 13 = .ok (.if_icmp .lt 6, 3) := by decide +kernel
theorem dX8_numbers_16 : decode cX8_numbers 16 = .ok (.bipush (-2), 2) := by decide +kernel
theorem dX8_numbers_18 : decode cX8_numbers 18 = .ok (.ireturn, 1) := by decide +kernel
theorem dX8_numbers_19 : decode cX8_numbers 19 = .ok (.iload_n 3, 1) := by decide +kernel
theorem dX8_numbers_20 : decode cX8_numbers 20 = .ok (.ifCond .lt 9, 3) := by decide +kernel
theorem dX8_numbers_23 : decode cX8_numbers 23 = .ok (.iload_n 3, 1) := by decide +kernel
theorem dX8_numbers_24 : decode cX8_numbers 24 = .ok (.bipush 40, 2) := by decide +kernel
theorem dX8_numbers_26 : decode cX8_numbers 26 = .ok (.if_icmp .le 6, 3) := by decide +kernel
theorem dX8_numbers_29 : decode cX8_numbers 29 = .ok (.bipush (-3), 2) := by decide +kernel
theorem dX8_numbers_31 : decode cX8_numbers 31 = .ok (.ireturn, 1) := by decide +kernel
theorem dX8_numbers_32 : decode cX8_numbers 32 = .ok (.aload_n 0, 1) := by decide +kernel
theorem dX8_numbers_33 : decode cX8_numbers 33 = .ok (.getfield 44, 3) := by decide +kernel
theorem dX8_numbers_36 : decode cX8_numbers 36 = .ok (.iload_n 1, 1) := by decide +kernel
theorem dX8_numbers_37 : decode cX8_numbers 37 = .ok (.aaload, 1) := by decide +kernel
theorem dX8_numbers_38 : decode cX8_numbers 38 = .ok (.iload_n 2, 1) := by decide +kernel
theorem dX8_numbers_39 : decode cX8_numbers 39 = .ok (.iload_n 3, 1) := by decide +kernel
theorem dX8_numbers_40 : decode cX8_numbers 40 = .ok (.invokevirtual 326, 3) := by decide +kernel
theorem dX8_numbers_43 : decode cX8_numbers 43 = .ok (.iconst 0, 1) := by decide +kernel
theorem dX8_numbers_44 : decode cX8_numbers 44 = .ok (.ireturn, 1) := by decide +kernel
theorem dX8_write_0 : decode cX8_write 0 = .ok (.iload_n 1, 1) := by decide +kernel
theorem dX8_write_1 : decode cX8_write 1 = .ok (.invokestatic 182, 3) := by decide +kernel
theorem dX8_write_4 : decode cX8_write 4 = .ok (.ifCond .ne 7, 3) := by decide +kernel
theorem dX8_write_7 : decode cX8_write 7 = .ok (.ldc2_w 330, 3) := by decide +kernel
theorem dX8_write_10 : decode cX8_write 10 = .ok (.lreturn, 1) := by decide +kernel
theorem dX8_write_11 : decode cX8_write 11 = .ok (.aload_n 0, 1) := by decide +kernel
theorem dX8_write_12 : decode cX8_write 12 = .ok (.getfield 44, 3) := by decide +kernel
theorem dX8_write_15 : decode cX8_write 15 = .ok (.iload_n 1, 1) := by decide +kernel
theorem dX8_write_16 : decode cX8_write 16 = .ok (.aaload, 1) := by decide +kernel
theorem dX8_write_17 : decode cX8_write 17 = .ok (.astore 5, 2) := by decide +kernel
theorem dX8_write_19 : decode cX8_write 19 = .ok (.aload 5, 2) := by decide +kernel
theorem dX8_write_21 : decode cX8_write 21 = .ok (.getfield 185, 3) := by decide +kernel
theorem dX8_write_24 : decode cX8_write 24 = .ok (.ifCond .eq 7, 3) := by decide +kernel
theorem dX8_write_27 : decode cX8_write 27 = .ok (.ldc2_w 332, 3) := by decide +kernel
theorem dX8_write_30 : decode cX8_write 30 = .ok (.lreturn, 1) := by decide +kernel
theorem dX8_write_31 : decode cX8_write 31 = .ok (.iload_n 2, 1) := by decide +kernel
theorem dX8_write_32 : decode cX8_write 32 = .ok (.ifCond .lt 12, 3) := by decide +kernel
theorem dX8_write_35 : decode cX8_write 35 = .ok (.iload_n 2, 1) := by decide +kernel
theorem dX8_write_36 : decode cX8_write 36 = .ok (.aload 5, 2) := by decide +kernel
theorem dX8_write_38 : decode cX8_write 38 = .ok (.getfield 193, 3) := by decide +kernel
theorem dX8_write_41 : decode cX8_write 41 = .ok (.if_icmp .lt 7, 3) := by decide +kernel
theorem dX8_write_44 : decode cX8_write 44 = .ok (.ldc2_w 334, 3) := by decide +kernel
theorem dX8_write_47 : decode cX8_write 47 = .ok (.lreturn, 1) := by decide +kernel
theorem dX8_write_48 : decode cX8_write 48 = .ok (.aload 5, 2) := by decide +kernel
theorem dX8_write_50 : decode cX8_write 50 = .ok (.iload_n 2, 1) := by decide +kernel
theorem dX8_write_51 : decode cX8_write 51 = .ok (.lload_n 3, 1) := by decide +kernel
theorem dX8_write_52 : decode cX8_write 52 = .ok (.invokevirtual 336, 3) := by decide +kernel
