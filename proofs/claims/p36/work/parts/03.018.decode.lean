theorem dX8_alone_44 : decode cX8_alone 44 = .ok (.aload_n 0, 1) := by decide +kernel
theorem dX8_alone_45 : decode cX8_alone 45 = .ok (.iload_n 2, 1) := by decide +kernel
theorem dX8_alone_46 : decode cX8_alone 46 = .ok (.iload_n 3, 1) := by decide +kernel
theorem dX8_alone_47 : decode cX8_alone 47 = .ok (.aload_n 0, 1) := by decide +kernel
theorem dX8_alone_48 : decode cX8_alone 48 = .ok (.getfield 58, 3) := by decide +kernel
theorem dX8_alone_51 : decode cX8_alone 51 = .ok (.getfield 240, 3) := by decide +kernel
theorem dX8_alone_54 : decode cX8_alone 54 = .ok (.invokevirtual 243, 3) := by decide +kernel
theorem dX8_alone_57 : decode cX8_alone 57 = .ok (.ireturn, 1) := by decide +kernel
theorem dX8_pays_0 : decode cX8_pays 0 = .ok (.aload_n 0, 1) := by decide +kernel
theorem dX8_pays_1 : decode cX8_pays 1 = .ok (.iload_n 1, 1) := by decide +kernel
theorem dX8_pays_2 : decode cX8_pays 2 = .ok (.invokestatic 135, 3) := by decide +kernel
theorem dX8_pays_5 : decode cX8_pays 5 = .ok (.iload_n 2, 1) := by decide +kernel
theorem dX8_pays_6 : decode cX8_pays 6 = .ok (.bipush 8, 2) := by decide +kernel
theorem dX8_pays_8 : decode cX8_pays 8 = .ok (.invokevirtual 229, 3) := by decide +kernel
theorem dX8_pays_11 : decode cX8_pays 11 = .ok (.istore_n 3, 1) := by decide +kernel
theorem dX8_pays_12 : decode cX8_pays 12 = .ok (.iload_n 3, 1) := by decide +kernel
theorem dX8_pays_13 : decode cX8_pays 13 = .ok (.ifCond .eq 5, 3) := by decide +kernel
theorem dX8_pays_16 : decode cX8_pays 16 = .ok (.iload_n 3, 1) := by decide +kernel
theorem dX8_pays_17 : decode cX8_pays 17 = .ok (.ireturn, 1) := by decide +kernel
theorem dX8_pays_18 : decode cX8_pays 18 = .ok (.aload_n 0, 1) := by decide +kernel
theorem dX8_pays_19 : decode cX8_pays 19 = .ok (.iconst 1, 1) := by decide +kernel
theorem dX8_pays_20 : decode cX8_pays 20 = .ok (.iconst (-1), 1) := by decide +kernel
theorem dX8_pays_21 : decode cX8_pays 21 = .ok (.iload_n 2, 1) := by decide +kernel
theorem dX8_pays_22 : decode cX8_pays 22 = .ok (.invokevirtual 236, 3) := by decide +kernel
theorem dX8_pays_25 : decode cX8_pays 25 = .ok (.aload_n 0, 1) := by decide +kernel
theorem dX8_pays_26 : decode cX8_pays 26 = .ok (.getfield 58, 3) := by decide +kernel
theorem dX8_pays_29 : decode cX8_pays 29 = .ok (.getfield 240, 3) := by decide +kernel
theorem dX8_pays_32 : decode cX8_pays 32 = .ok (.aload_n 0, 1) := by decide +kernel
theorem dX8_pays_33 : decode cX8_pays 33 = .ok (.getfield 58, 3) := by decide +kernel
theorem dX8_pays_36 : decode cX8_pays 36 = .ok (.iload_n 1, 1) := by decide +kernel
theorem dX8_pays_37 : decode cX8_pays 37 = .ok (.aload_n 0, 1) := by decide +kernel
theorem dX8_pays_38 : decode cX8_pays 38 = .ok (.getfield 51, 3) := by decide +kernel
theorem dX8_pays_41 : decode cX8_pays 41 = .ok (.getfield 253, 3) := by decide +kernel
theorem dX8_pays_44 : decode cX8_pays 44 = .ok (.aload_n 0, 1) := by decide +kernel
theorem dX8_pays_45 : decode cX8_pays 45 = .ok (.getfield 58, 3) := by decide +kernel
theorem dX8_pays_48 : decode cX8_pays 48 = .ok (.getfield 257, 3) := by decide +kernel
theorem dX8_pays_51 : decode cX8_pays 51 = .ok (.laload, 1) := by decide +kernel
theorem dX8_pays_52 : decode cX8_pays 52 = .ok (.invokevirtual 260, 3) := by decide +kernel
theorem dX8_pays_55 : decode cX8_pays 55 = .ok (.isub, 1) := by decide +kernel
theorem dX8_pays_56 : decode cX8_pays 56 = .ok (.istore 4, 2) := by decide +kernel
theorem dX8_pays_58 : decode cX8_pays 58 = .ok (.aload_n 0, 1) := by decide +kernel
theorem dX8_pays_59 : decode cX8_pays 59 = .ok (.iconst 1, 1) := by decide +kernel
theorem dX8_pays_60 : decode cX8_pays 60 = .ok (.iload_n 1, 1) := by decide +kernel
theorem dX8_pays_61 : decode cX8_pays 61 = .ok (.iload_n 2, 1) := by decide +kernel
theorem dX8_pays_62 : decode cX8_pays 62 = .ok (.invokevirtual 236, 3) := by decide +kernel
theorem dX8_pays_65 : decode cX8_pays 65 = .ok (.aload_n 0, 1) := by decide +kernel
theorem dX8_pays_66 : decode cX8_pays 66 = .ok (.getfield 58, 3) := by decide +kernel
theorem dX8_pays_69 : decode cX8_pays 69 = .ok (.getfield 240, 3) := by decide +kernel
theorem dX8_pays_72 : decode cX8_pays 72 = .ok (.iload 4, 2) := by decide +kernel
theorem dX8_pays_74 : decode cX8_pays 74 = .ok (.isub, 1) := by decide +kernel
theorem dX8_pays_75 : decode cX8_pays 75 = .ok (.ireturn, 1) := by decide +kernel
theorem dX8_shifted_0 : decode cX8_shifted 0 = .ok (.aload_n 0, 1) := by decide +kernel
theorem dX8_shifted_1 : decode cX8_shifted 1 = .ok (.iload_n 2, 1) := by decide +kernel
theorem dX8_shifted_2 : decode cX8_shifted 2 = .ok (.ifCond .lt 12, 3) := by decide +kernel
theorem dX8_shifted_5 : decode cX8_shifted 5 = .ok (.iload_n 2, 1) := by decide +kernel
theorem dX8_shifted_6 : decode cX8_shifted 6 = .ok (.iconst 2, 1) := by decide +kernel
theorem dX8_shifted_7 : decode cX8_shifted 7 = .ok (.if_icmp .gt 7, 3) := by decide +kernel
theorem dX8_shifted_10 : decode cX8_shifted 10 = .ok (.iconst 1, 1) := by decide +kernel
theorem dX8_shifted_11 : decode cX8_shifted 11 = .ok (.goto 4, 3) := by decide +kernel
theorem dX8_shifted_14 : decode cX8_shifted 14 = .ok (.iconst 0, 1) := by decide +kernel
theorem dX8_shifted_15 : decode cX8_shifted 15 = .ok (.iload_n 1, 1) := by decide +kernel
theorem dX8_shifted_16 : decode cX8_shifted 16 = .ok (.iconst 5, 1) := by decide +kernel
theorem dX8_shifted_17 : decode cX8_shifted 17 = .ok (.invokevirtual 229, 3) := by decide +kernel
theorem dX8_shifted_20 : decode cX8_shifted 20 = .ok (.istore_n 3, 1) := by decide +kernel
theorem dX8_shifted_21 : decode cX8_shifted 21 = .ok (.iload_n 3, 1) := by decide +kernel
theorem dX8_shifted_22 : decode cX8_shifted 22 = .ok (.ifCond .eq 5, 3) := by decide +kernel
theorem dX8_shifted_25 : decode cX8_shifted 25 = .ok (.iload_n 3, 1) := by decide +kernel
theorem dX8_shifted_26 : decode cX8_shifted 26 = .ok (.ireturn, 1) := by decide +kernel
theorem dX8_shifted_27 : decode cX8_shifted 27 = .ok (.aload_n 0, 1) := by decide +kernel
theorem dX8_shifted_28 : decode cX8_shifted 28 = .ok (.iconst 0, 1) := by decide +kernel
theorem dX8_shifted_29 : decode cX8_shifted 29 = .ok (.iconst (-1), 1) := by decide +kernel
theorem dX8_shifted_30 : decode cX8_shifted 30 = .ok (.iload_n 1, 1) := by decide +kernel
theorem dX8_shifted_31 : decode cX8_shifted 31 = .ok (.invokevirtual 236, 3) := by decide +kernel
theorem dX8_shifted_34 : decode cX8_shifted 34 = .ok (.aload_n 0, 1) := by decide +kernel
theorem dX8_shifted_35 : decode cX8_shifted 35 = .ok (.getfield 58, 3) := by decide +kernel
theorem dX8_shifted_38 : decode cX8_shifted 38 = .ok (.getfield 240, 3) := by decide +kernel
theorem dX8_shifted_41 : decode cX8_shifted 41 = .ok (.istore 4, 2) := by decide +kernel
theorem dX8_shifted_43 : decode cX8_shifted 43 = .ok (.aload_n 0, 1) := by decide +kernel
theorem dX8_shifted_44 : decode cX8_shifted 44 = .ok (.getfield 65, 3) := by decide +kernel
theorem dX8_shifted_47 : decode cX8_shifted 47 = .ok (.aload_n 0, 1) := by decide +kernel
theorem dX8_shifted_48 : decode cX8_shifted 48 = .ok (.getfield 58, 3) := by decide +kernel
theorem dX8_shifted_51 : decode cX8_shifted 51 = .ok (.aload_n 0, 1) := by decide +kernel
theorem dX8_shifted_52 : decode cX8_shifted 52 = .ok (.getfield 51, 3) := by decide +kernel
theorem dX8_shifted_55 : decode cX8_shifted 55 = .ok (.aload_n 0, 1) := by decide +kernel
theorem dX8_shifted_56 : decode cX8_shifted 56 = .ok (.iload_n 1, 1) := by decide +kernel
theorem dX8_shifted_57 : decode cX8_shifted 57 = .ok (.invokevirtual 233, 3) := by decide +kernel
theorem dX8_shifted_60 : decode cX8_shifted 60 = .ok (.invokevirtual 263, 3) := by decide +kernel
theorem dX8_shifted_63 : decode cX8_shifted 63 = .ok (.iconst 0, 1) := by decide +kernel
theorem dX8_shifted_64 : decode cX8_shifted 64 = .ok (.istore 5, 2) := by decide +kernel
theorem dX8_shifted_66 : decode cX8_shifted 66 = .ok (.iconst (-1), 1) := by decide +kernel
theorem dX8_shifted_67 : decode cX8_shifted 67 = .ok (.istore 6, 2) := by decide +kernel
theorem dX8_shifted_69 : decode cX8_shifted 69 = .ok (.iconst 0, 1) := by decide +kernel
theorem dX8_shifted_70 : decode cX8_shifted 70 = .ok (.istore 7, 2) := by decide +kernel
theorem dX8_shifted_72 : decode cX8_shifted 72 = .ok (.iload 7, 2) := by decide +kernel
theorem dX8_shifted_74 : decode cX8_shifted 74 = .ok (.sipush 256, 3) := by decide +kernel
theorem dX8_shifted_77 : decode cX8_shifted 77 = .ok (.if_icmp .ge 63, 3) := by decide +kernel
theorem dX8_shifted_80 : decode cX8_shifted 80 = .ok (.aload_n 0, 1) := by decide +kernel
theorem dX8_shifted_81 : decode cX8_shifted 81 = .ok (.iload 7, 2) := by decide +kernel
theorem dX8_shifted_83 : decode cX8_shifted 83 = .ok (.bipush 16, 2) := by decide +kernel
theorem dX8_shifted_85 : decode cX8_shifted 85 = .ok (.idiv, 1) := by decide +kernel
theorem dX8_shifted_86 : decode cX8_shifted 86 = .ok (.iload 7, 2) := by decide +kernel
theorem dX8_shifted_88 : decode cX8_shifted 88 = .ok (.bipush 16, 2) := by decide +kernel
theorem dX8_shifted_90 : decode cX8_shifted 90 = .ok (.irem, 1) := by decide +kernel
theorem dX8_shifted_91 : decode cX8_shifted 91 = .ok (.invokevirtual 267, 3) := by decide +kernel
theorem dX8_shifted_94 : decode cX8_shifted 94 = .ok (.ifCond .eq 40, 3) := by decide +kernel
theorem dX8_shifted_97 : decode cX8_shifted 97 = .ok (.aload_n 0, 1) := by decide +kernel
theorem dX8_shifted_98 : decode cX8_shifted 98 = .ok (.getfield 65, 3) := by decide +kernel
theorem dX8_shifted_101 : decode cX8_shifted 101 = .ok (.getfield 270, 3) := by decide +kernel
theorem dX8_shifted_104 : decode cX8_shifted 104 = .ok (.iload 7, 2) := by decide +kernel
theorem dX8_shifted_106 : decode cX8_shifted 106 = .ok (.iaload, 1) := by decide +kernel
theorem dX8_shifted_107 : decode cX8_shifted 107 = .ok (.iload 4, 2) := by decide +kernel
theorem dX8_shifted_109 : decode cX8_shifted 109 = .ok (.isub, 1) := by decide +kernel
theorem dX8_shifted_110 : decode cX8_shifted 110 = .ok (.iload 5, 2) := by decide +kernel
theorem dX8_shifted_112 : decode cX8_shifted 112 = .ok (.if_icmp .le 22, 3) := by decide +kernel
theorem dX8_shifted_115 : decode cX8_shifted 115 = .ok (.aload_n 0, 1) := by decide +kernel
theorem dX8_shifted_116 : decode cX8_shifted 116 = .ok (.getfield 65, 3) := by decide +kernel
theorem dX8_shifted_119 : decode cX8_shifted 119 = .ok (.getfield 270, 3) := by decide +kernel
theorem dX8_shifted_122 : decode cX8_shifted 122 = .ok (.iload 7, 2) := by decide +kernel
theorem dX8_shifted_124 : decode cX8_shifted 124 = .ok (.iaload, 1) := by decide +kernel
theorem dX8_shifted_125 : decode cX8_shifted 125 = .ok (.iload 4, 2) := by decide +kernel
theorem dX8_shifted_127 : decode cX8_shifted 127 = .ok (.isub, 1) := by decide +kernel
theorem dX8_shifted_128 : decode cX8_shifted 128 = .ok (.istore 5, 2) := by decide +kernel
theorem dX8_shifted_130 : decode cX8_shifted 130 = .ok (.iload 7, 2) := by decide +kernel
theorem dX8_shifted_132 : decode cX8_shifted 132 = .ok (.istore 6, 2) := by decide +kernel
theorem dX8_shifted_134 : decode cX8_shifted 134 = .ok (.iinc 7 1, 3) := by decide +kernel
theorem dX8_shifted_137 : decode cX8_shifted 137 = .ok (.goto (-65), 3) := by decide +kernel
theorem dX8_shifted_140 : decode cX8_shifted 140 = .ok (.iload_n 2, 1) := by decide +kernel
theorem dX8_shifted_141 : decode cX8_shifted 141 = .ok (.ifCond .ne 6, 3) := by decide +kernel
theorem dX8_shifted_144 : decode cX8_shifted 144 = .ok (.iload 5, 2) := by decide +kernel
theorem dX8_shifted_146 : decode cX8_shifted 146 = .ok (.ireturn, 1) := by decide +kernel
theorem dX8_shifted_147 : decode cX8_shifted 147 = .ok (.iload 6, 2) := by decide +kernel
theorem dX8_shifted_149 : decode cX8_shifted 149 = .ok (.iconst (-1), 1) := by decide +kernel
theorem dX8_shifted_150 : decode cX8_shifted 150 = .ok (.if_icmp .ne 5, 3) := by decide +kernel
theorem dX8_shifted_153 : decode cX8_shifted 153 = .ok (.iconst (-1), 1) := by decide +kernel
theorem dX8_shifted_154 : decode cX8_shifted 154 = .ok (.ireturn, 1) := by decide +kernel
theorem dX8_shifted_155 : decode cX8_shifted 155 = .ok (.iload_n 2, 1) := by decide +kernel
theorem dX8_shifted_156 : decode cX8_shifted 156 = .ok (.iconst 1, 1) := by decide +kernel
theorem dX8_shifted_157 : decode cX8_shifted 157 = .ok (.if_icmp .ne 11, 3) := by decide +kernel
theorem dX8_shifted_160 : decode cX8_shifted 160 = .ok (.iload 6, 2) := by decide +kernel
theorem dX8_shifted_162 : decode cX8_shifted 162 = .ok (.bipush 16, 2) := by decide +kernel
theorem dX8_shifted_164 : decode cX8_shifted 164 = .ok (.idiv, 1) := by decide +kernel
theorem dX8_shifted_165 : decode cX8_shifted 165 = .ok (.goto 8, 3) := by decide +kernel
theorem dX8_shifted_168 : decode cX8_shifted 168 = .ok (.iload 6, 2) := by decide +kernel
theorem dX8_shifted_170 : decode cX8_shifted 170 = .ok (.bipush 16, 2) := by decide +kernel
theorem dX8_shifted_172 : decode cX8_shifted 172 = .ok (.irem, 1) := by decide +kernel
theorem dX8_shifted_173 : decode cX8_shifted 173 = .ok (.ireturn, 1) := by decide +kernel
theorem dX8_felled_0 : decode cX8_felled 0 = .ok (.aload_n 0, 1) := by decide +kernel
theorem dX8_felled_1 : decode cX8_felled 1 = .ok (.iload_n 2, 1) := by decide +kernel
theorem dX8_felled_2 : decode cX8_felled 2 = .ok (.ifCond .eq 8, 3) := by decide +kernel
theorem dX8_felled_5 : decode cX8_felled 5 = .ok (.iload_n 2, 1) := by decide +kernel
theorem dX8_felled_6 : decode cX8_felled 6 = .ok (.iconst 1, 1) := by decide +kernel
theorem dX8_felled_7 : decode cX8_felled 7 = .ok (.if_icmp .ne 7, 3) := by decide +kernel
theorem dX8_felled_10 : decode cX8_felled 10 = .ok (.iconst 1, 1) := by decide +kernel
theorem dX8_felled_11 : decode cX8_felled 11 = .ok (.goto 4, 3) := by decide +kernel
theorem dX8_felled_14 : decode cX8_felled 14 = .ok (.iconst 0, 1) := by decide +kernel
theorem dX8_felled_15 : decode cX8_felled 15 = .ok (.iload_n 1, 1) := by decide +kernel
theorem dX8_felled_16 : decode cX8_felled 16 = .ok (.bipush 6, 2) := by decide +kernel
theorem dX8_felled_18 : decode cX8_felled 18 = .ok (.invokevirtual 229, 3) := by decide +kernel
theorem dX8_felled_21 : decode cX8_felled 21 = .ok (.istore_n 3, 1) := by decide +kernel
theorem dX8_felled_22 : decode cX8_felled 22 = .ok (.iload_n 3, 1) := by decide +kernel
theorem dX8_felled_23 : decode cX8_felled 23 = .ok (.ifCond .eq 5, 3) := by decide +kernel
theorem dX8_felled_26 : decode cX8_felled 26 = .ok (.iload_n 3, 1) := by decide +kernel
theorem dX8_felled_27 : decode cX8_felled 27 = .ok (.ireturn, 1) := by decide +kernel
theorem dX8_felled_28 : decode cX8_felled 28 = .ok (.aload_n 0, 1) := by decide +kernel
theorem dX8_felled_29 : decode cX8_felled 29 = .ok (.iconst 0, 1) := by decide +kernel
theorem dX8_felled_30 : decode cX8_felled 30 = .ok (.iconst (-1), 1) := by decide +kernel
theorem dX8_felled_31 : decode cX8_felled 31 = .ok (.iload_n 1, 1) := by decide +kernel
theorem dX8_felled_32 : decode cX8_felled 32 = .ok (.invokevirtual 236, 3) := by decide +kernel
theorem dX8_felled_35 : decode cX8_felled 35 = .ok (.aload_n 0, 1) := by decide +kernel
theorem dX8_felled_36 : decode cX8_felled 36 = .ok (.getfield 58, 3) := by decide +kernel
theorem dX8_felled_39 : decode cX8_felled 39 = .ok (.getfield 240, 3) := by decide +kernel
theorem dX8_felled_42 : decode cX8_felled 42 = .ok (.istore 4, 2) := by decide +kernel
theorem dX8_felled_44 : decode cX8_felled 44 = .ok (.iload 4, 2) := by decide +kernel
theorem dX8_felled_46 : decode cX8_felled 46 = .ok (.istore 5, 2) := by decide +kernel
theorem dX8_felled_48 : decode cX8_felled 48 = .ok (.iconst (-1), 1) := by decide +kernel
theorem dX8_felled_49 : decode cX8_felled 49 = .ok (.istore 6, 2) := by decide +kernel
theorem dX8_felled_51 : decode cX8_felled 51 = .ok (.aload_n 0, 1) := by decide +kernel
theorem dX8_felled_52 : decode cX8_felled 52 = .ok (.getfield 31, 3) := by decide +kernel
theorem dX8_felled_55 : decode cX8_felled 55 = .ok (.aload_n 0, 1) := by decide +kernel
theorem dX8_felled_56 : decode cX8_felled 56 = .ok (.getfield 27, 3) := by decide +kernel
theorem dX8_felled_59 : decode cX8_felled 59 = .ok (.invokevirtual 95, 3) := by decide +kernel
theorem dX8_felled_62 : decode cX8_felled 62 = .ok (.iconst 0, 1) := by decide +kernel
theorem dX8_felled_63 : decode cX8_felled 63 = .ok (.istore 7, 2) := by decide +kernel
theorem dX8_felled_65 : decode cX8_felled 65 = .ok (.iload 7, 2) := by decide +kernel
theorem dX8_felled_67 : decode cX8_felled 67 = .ok (.aload_n 0, 1) := by decide +kernel
theorem dX8_felled_68 : decode cX8_felled 68 = .ok (.getfield 27, 3) := by decide +kernel
theorem dX8_felled_71 : decode cX8_felled 71 = .ok (.getfield 161, 3) := by decide +kernel
theorem dX8_felled_74 : decode cX8_felled 74 = .ok (.if_icmp .ge 109, 3) := by decide +kernel
theorem dX8_felled_77 : decode cX8_felled 77 = .ok (.aload_n 0, 1) := by decide +kernel
theorem dX8_felled_78 : decode cX8_felled 78 = .ok (.getfield 27, 3) := by decide +kernel
theorem dX8_felled_81 : decode cX8_felled 81 = .ok (.getfield 119, 3) := by decide +kernel
theorem dX8_felled_84 : decode cX8_felled 84 = .ok (.iload 7, 2) := by decide +kernel
theorem dX8_felled_86 : decode cX8_felled 86 = .ok (.iaload, 1) := by decide +kernel
theorem dX8_felled_87 : decode cX8_felled 87 = .ok (.ifCond .le 90, 3) := by decide +kernel
theorem dX8_felled_90 : decode cX8_felled 90 = .ok (.aload_n 0, 1) := by decide +kernel
theorem dX8_felled_91 : decode cX8_felled 91 = .ok (.getfield 31, 3) := by decide +kernel
theorem dX8_felled_94 : decode cX8_felled 94 = .ok (.getfield 119, 3) := by decide +kernel
theorem dX8_felled_97 : decode cX8_felled 97 = .ok (.iload 7, 2) := by decide +kernel
theorem dX8_felled_99 : decode cX8_felled 99 = .ok (.iconst 0, 1) := by decide +kernel
theorem dX8_felled_100 : decode cX8_felled 100 = .ok (.iastore, 1) := by decide +kernel
