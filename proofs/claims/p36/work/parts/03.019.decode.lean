theorem dX8_felled_101 : decode cX8_felled 101 = .ok (.aload_n 0, 1) := by decide +kernel
theorem dX8_felled_102 : decode cX8_felled 102 = .ok (.getfield 58, 3) := by decide +kernel
theorem dX8_felled_105 : decode cX8_felled 105 = .ok (.aload_n 0, 1) := by decide +kernel
theorem dX8_felled_106 : decode cX8_felled 106 = .ok (.getfield 31, 3) := by decide +kernel
theorem dX8_felled_109 : decode cX8_felled 109 = .ok (.iconst 0, 1) := by decide +kernel
theorem dX8_felled_110 : decode cX8_felled 110 = .ok (.iconst (-1), 1) := by decide +kernel
theorem dX8_felled_111 : decode cX8_felled 111 = .ok (.invokevirtual 273, 3) := by decide +kernel
theorem dX8_felled_114 : decode cX8_felled 114 = .ok (.aload_n 0, 1) := by decide +kernel
theorem dX8_felled_115 : decode cX8_felled 115 = .ok (.getfield 31, 3) := by decide +kernel
theorem dX8_felled_118 : decode cX8_felled 118 = .ok (.getfield 119, 3) := by decide +kernel
theorem dX8_felled_121 : decode cX8_felled 121 = .ok (.iload 7, 2) := by decide +kernel
theorem dX8_felled_123 : decode cX8_felled 123 = .ok (.aload_n 0, 1) := by decide +kernel
theorem dX8_felled_124 : decode cX8_felled 124 = .ok (.getfield 27, 3) := by decide +kernel
theorem dX8_felled_127 : decode cX8_felled 127 = .ok (.getfield 119, 3) := by decide +kernel
theorem dX8_felled_130 : decode cX8_felled 130 = .ok (.iload 7, 2) := by decide +kernel
theorem dX8_felled_132 : decode cX8_felled 132 = .ok (.iaload, 1) := by decide +kernel
theorem dX8_felled_133 : decode cX8_felled 133 = .ok (.iastore, 1) := by decide +kernel
theorem dX8_felled_134 : decode cX8_felled 134 = .ok (.aload_n 0, 1) := by decide +kernel
theorem dX8_felled_135 : decode cX8_felled 135 = .ok (.getfield 58, 3) := by decide +kernel
theorem dX8_felled_138 : decode cX8_felled 138 = .ok (.aload_n 0, 1) := by decide +kernel
theorem dX8_felled_139 : decode cX8_felled 139 = .ok (.getfield 51, 3) := by decide +kernel
theorem dX8_felled_142 : decode cX8_felled 142 = .ok (.aload_n 0, 1) := by decide +kernel
theorem dX8_felled_143 : decode cX8_felled 143 = .ok (.iload_n 1, 1) := by decide +kernel
theorem dX8_felled_144 : decode cX8_felled 144 = .ok (.invokevirtual 233, 3) := by decide +kernel
theorem dX8_felled_147 : decode cX8_felled 147 = .ok (.iload 5, 2) := by decide +kernel
theorem dX8_felled_149 : decode cX8_felled 149 = .ok (.invokevirtual 277, 3) := by decide +kernel
theorem dX8_felled_152 : decode cX8_felled 152 = .ok (.aload_n 0, 1) := by decide +kernel
theorem dX8_felled_153 : decode cX8_felled 153 = .ok (.getfield 58, 3) := by decide +kernel
theorem dX8_felled_156 : decode cX8_felled 156 = .ok (.getfield 240, 3) := by decide +kernel
theorem dX8_felled_159 : decode cX8_felled 159 = .ok (.iload 5, 2) := by decide +kernel
theorem dX8_felled_161 : decode cX8_felled 161 = .ok (.if_icmp .le 16, 3) := by decide +kernel
theorem dX8_felled_164 : decode cX8_felled 164 = .ok (.aload_n 0, 1) := by decide +kernel
theorem dX8_felled_165 : decode cX8_felled 165 = .ok (.getfield 58, 3) := by decide +kernel
theorem dX8_felled_168 : decode cX8_felled 168 = .ok (.getfield 240, 3) := by decide +kernel
theorem dX8_felled_171 : decode cX8_felled 171 = .ok (.istore 5, 2) := by decide +kernel
theorem dX8_felled_173 : decode cX8_felled 173 = .ok (.iload 7, 2) := by decide +kernel
theorem dX8_felled_175 : decode cX8_felled 175 = .ok (.istore 6, 2) := by decide +kernel
theorem dX8_felled_177 : decode cX8_felled 177 = .ok (.iinc 7 1, 3) := by decide +kernel
theorem dX8_felled_180 : decode cX8_felled 180 = .ok (.goto (-115), 3) := by decide +kernel
theorem dX8_felled_183 : decode cX8_felled 183 = .ok (.iload_n 2, 1) := by decide +kernel
theorem dX8_felled_184 : decode cX8_felled 184 = .ok (.ifCond .ne 11, 3) := by decide +kernel
theorem dX8_felled_187 : decode cX8_felled 187 = .ok (.iload 5, 2) := by decide +kernel
theorem dX8_felled_189 : decode cX8_felled 189 = .ok (.iload 4, 2) := by decide +kernel
theorem dX8_felled_191 : decode cX8_felled 191 = .ok (.isub, 1) := by decide +kernel
theorem dX8_felled_192 : decode cX8_felled 192 = .ok (.goto 5, 3) := by decide +kernel
theorem dX8_felled_195 : decode cX8_felled 195 = .ok (.iload 6, 2) := by decide +kernel
theorem dX8_felled_197 : decode cX8_felled 197 = .ok (.ireturn, 1) := by decide +kernel
theorem dX8_soonest_0 : decode cX8_soonest 0 = .ok (.iload_n 1, 1) := by decide +kernel
theorem dX8_soonest_1 : decode cX8_soonest 1 = .ok (.ifCond .lt 10, 3) := by decide +kernel
theorem dX8_soonest_4 : decode cX8_soonest 4 = .ok (.iload_n 1, 1) := by decide +kernel
theorem dX8_soonest_5 : decode cX8_soonest 5 = .ok (.sipush 9999, 3) := by decide +kernel
theorem dX8_soonest_8 : decode cX8_soonest 8 = .ok (.if_icmp .le 6, 3) := by decide +kernel
theorem dX8_soonest_11 : decode cX8_soonest 11 = .ok (.bipush (-3), 2) := by decide +kernel
theorem dX8_soonest_13 : decode cX8_soonest 13 = .ok (.ireturn, 1) := by decide +kernel
theorem dX8_soonest_14 : decode cX8_soonest 14 = .ok (.aload_n 0, 1) := by decide +kernel
theorem dX8_soonest_15 : decode cX8_soonest 15 = .ok (.getfield 27, 3) := by decide +kernel
theorem dX8_soonest_18 : decode cX8_soonest 18 = .ok (.getfield 161, 3) := by decide +kernel
theorem dX8_soonest_21 : decode cX8_soonest 21 = .ok (.ifCond .ne 6, 3) := by decide +kernel
theorem dX8_soonest_24 : decode cX8_soonest 24 = .ok (.bipush (-5), 2) := by decide +kernel
theorem dX8_soonest_26 : decode cX8_soonest 26 = .ok (.ireturn, 1) := by decide +kernel
theorem dX8_soonest_27 : decode cX8_soonest 27 = .ok (.iload_n 1, 1) := by decide +kernel
theorem dX8_soonest_28 : decode cX8_soonest 28 = .ok (.ifCond .ne 5, 3) := by decide +kernel
theorem dX8_soonest_31 : decode cX8_soonest 31 = .ok (.iconst 0, 1) := by decide +kernel
theorem dX8_soonest_32 : decode cX8_soonest 32 = .ok (.ireturn, 1) := by decide +kernel
theorem dX8_soonest_33 : decode cX8_soonest 33 = .ok (.iload_n 1, 1) := by decide +kernel
theorem dX8_soonest_34 : decode cX8_soonest 34 = .ok (.aload_n 0, 1) := by decide +kernel
theorem dX8_soonest_35 : decode cX8_soonest 35 = .ok (.getfield 27, 3) := by decide +kernel
theorem dX8_soonest_38 : decode cX8_soonest 38 = .ok (.aload_n 0, 1) := by decide +kernel
theorem dX8_soonest_39 : decode cX8_soonest 39 = .ok (.getfield 27, 3) := by decide +kernel
theorem dX8_soonest_42 : decode cX8_soonest 42 = .ok (.getfield 112, 3) := by decide +kernel
theorem dX8_soonest_45 : decode cX8_soonest 45 = .ok (.invokevirtual 200, 3) := by decide +kernel
theorem dX8_soonest_48 : decode cX8_soonest 48 = .ok (.if_icmp .le 5, 3) := by decide +kernel
theorem dX8_soonest_51 : decode cX8_soonest 51 = .ok (.iconst (-1), 1) := by decide +kernel
theorem dX8_soonest_52 : decode cX8_soonest 52 = .ok (.ireturn, 1) := by decide +kernel
theorem dX8_soonest_53 : decode cX8_soonest 53 = .ok (.aload_n 0, 1) := by decide +kernel
theorem dX8_soonest_54 : decode cX8_soonest 54 = .ok (.getfield 58, 3) := by decide +kernel
theorem dX8_soonest_57 : decode cX8_soonest 57 = .ok (.aload_n 0, 1) := by decide +kernel
theorem dX8_soonest_58 : decode cX8_soonest 58 = .ok (.getfield 27, 3) := by decide +kernel
theorem dX8_soonest_61 : decode cX8_soonest 61 = .ok (.iconst 0, 1) := by decide +kernel
theorem dX8_soonest_62 : decode cX8_soonest 62 = .ok (.iconst (-1), 1) := by decide +kernel
theorem dX8_soonest_63 : decode cX8_soonest 63 = .ok (.invokevirtual 273, 3) := by decide +kernel
theorem dX8_soonest_66 : decode cX8_soonest 66 = .ok (.aload_n 0, 1) := by decide +kernel
theorem dX8_soonest_67 : decode cX8_soonest 67 = .ok (.bipush 8, 2) := by decide +kernel
theorem dX8_soonest_69 : decode cX8_soonest 69 = .ok (.invokevirtual 233, 3) := by decide +kernel
theorem dX8_soonest_72 : decode cX8_soonest 72 = .ok (.istore_n 2, 1) := by decide +kernel
theorem dX8_soonest_73 : decode cX8_soonest 73 = .ok (.iconst 1, 1) := by decide +kernel
theorem dX8_soonest_74 : decode cX8_soonest 74 = .ok (.istore_n 3, 1) := by decide +kernel
theorem dX8_soonest_75 : decode cX8_soonest 75 = .ok (.iload_n 3, 1) := by decide +kernel
theorem dX8_soonest_76 : decode cX8_soonest 76 = .ok (.iload_n 2, 1) := by decide +kernel
theorem dX8_soonest_77 : decode cX8_soonest 77 = .ok (.if_icmp .gt 59, 3) := by decide +kernel
theorem dX8_soonest_80 : decode cX8_soonest 80 = .ok (.aload_n 0, 1) := by decide +kernel
theorem dX8_soonest_81 : decode cX8_soonest 81 = .ok (.getfield 51, 3) := by decide +kernel
theorem dX8_soonest_84 : decode cX8_soonest 84 = .ok (.aload_n 0, 1) := by decide +kernel
theorem dX8_soonest_85 : decode cX8_soonest 85 = .ok (.getfield 27, 3) := by decide +kernel
theorem dX8_soonest_88 : decode cX8_soonest 88 = .ok (.getfield 161, 3) := by decide +kernel
theorem dX8_soonest_91 : decode cX8_soonest 91 = .ok (.aload_n 0, 1) := by decide +kernel
theorem dX8_soonest_92 : decode cX8_soonest 92 = .ok (.getfield 27, 3) := by decide +kernel
theorem dX8_soonest_95 : decode cX8_soonest 95 = .ok (.getfield 128, 3) := by decide +kernel
theorem dX8_soonest_98 : decode cX8_soonest 98 = .ok (.iload_n 3, 1) := by decide +kernel
theorem dX8_soonest_99 : decode cX8_soonest 99 = .ok (.invokevirtual 281, 3) := by decide +kernel
theorem dX8_soonest_102 : decode cX8_soonest 102 = .ok (.aload_n 0, 1) := by decide +kernel
theorem dX8_soonest_103 : decode cX8_soonest 103 = .ok (.getfield 58, 3) := by decide +kernel
theorem dX8_soonest_106 : decode cX8_soonest 106 = .ok (.aload_n 0, 1) := by decide +kernel
theorem dX8_soonest_107 : decode cX8_soonest 107 = .ok (.getfield 51, 3) := by decide +kernel
theorem dX8_soonest_110 : decode cX8_soonest 110 = .ok (.iload_n 3, 1) := by decide +kernel
theorem dX8_soonest_111 : decode cX8_soonest 111 = .ok (.iload_n 1, 1) := by decide +kernel
theorem dX8_soonest_112 : decode cX8_soonest 112 = .ok (.iconst 1, 1) := by decide +kernel
theorem dX8_soonest_113 : decode cX8_soonest 113 = .ok (.isub, 1) := by decide +kernel
theorem dX8_soonest_114 : decode cX8_soonest 114 = .ok (.invokevirtual 277, 3) := by decide +kernel
theorem dX8_soonest_117 : decode cX8_soonest 117 = .ok (.aload_n 0, 1) := by decide +kernel
theorem dX8_soonest_118 : decode cX8_soonest 118 = .ok (.getfield 58, 3) := by decide +kernel
theorem dX8_soonest_121 : decode cX8_soonest 121 = .ok (.getfield 240, 3) := by decide +kernel
theorem dX8_soonest_124 : decode cX8_soonest 124 = .ok (.iload_n 1, 1) := by decide +kernel
theorem dX8_soonest_125 : decode cX8_soonest 125 = .ok (.if_icmp .lt 5, 3) := by decide +kernel
theorem dX8_soonest_128 : decode cX8_soonest 128 = .ok (.iload_n 3, 1) := by decide +kernel
theorem dX8_soonest_129 : decode cX8_soonest 129 = .ok (.ireturn, 1) := by decide +kernel
theorem dX8_soonest_130 : decode cX8_soonest 130 = .ok (.iinc 3 1, 3) := by decide +kernel
theorem dX8_soonest_133 : decode cX8_soonest 133 = .ok (.goto (-58), 3) := by decide +kernel
theorem dX8_soonest_136 : decode cX8_soonest 136 = .ok (.iconst (-1), 1) := by decide +kernel
theorem dX8_soonest_137 : decode cX8_soonest 137 = .ok (.ireturn, 1) := by decide +kernel
theorem dX8_dark_0 : decode cX8_dark 0 = .ok (.iconst 0, 1) := by decide +kernel
theorem dX8_dark_1 : decode cX8_dark 1 = .ok (.istore_n 1, 1) := by decide +kernel
theorem dX8_dark_2 : decode cX8_dark 2 = .ok (.iconst 0, 1) := by decide +kernel
theorem dX8_dark_3 : decode cX8_dark 3 = .ok (.istore_n 2, 1) := by decide +kernel
theorem dX8_dark_4 : decode cX8_dark 4 = .ok (.iload_n 2, 1) := by decide +kernel
theorem dX8_dark_5 : decode cX8_dark 5 = .ok (.aload_n 0, 1) := by decide +kernel
theorem dX8_dark_6 : decode cX8_dark 6 = .ok (.getfield 27, 3) := by decide +kernel
theorem dX8_dark_9 : decode cX8_dark 9 = .ok (.getfield 161, 3) := by decide +kernel
theorem dX8_dark_12 : decode cX8_dark 12 = .ok (.if_icmp .ge 20, 3) := by decide +kernel
theorem dX8_dark_15 : decode cX8_dark 15 = .ok (.iload_n 1, 1) := by decide +kernel
theorem dX8_dark_16 : decode cX8_dark 16 = .ok (.aload_n 0, 1) := by decide +kernel
theorem dX8_dark_17 : decode cX8_dark 17 = .ok (.getfield 27, 3) := by decide +kernel
theorem dX8_dark_20 : decode cX8_dark 20 = .ok (.iload_n 2, 1) := by decide +kernel
theorem dX8_dark_21 : decode cX8_dark 21 = .ok (.invokevirtual 149, 3) := by decide +kernel
theorem dX8_dark_24 : decode cX8_dark 24 = .ok (.ior, 1) := by decide +kernel
theorem dX8_dark_25 : decode cX8_dark 25 = .ok (.istore_n 1, 1) := by decide +kernel
theorem dX8_dark_26 : decode cX8_dark 26 = .ok (.iinc 2 1, 3) := by decide +kernel
theorem dX8_dark_29 : decode cX8_dark 29 = .ok (.goto (-25), 3) := by decide +kernel
theorem dX8_dark_32 : decode cX8_dark 32 = .ok (.aload_n 0, 1) := by decide +kernel
theorem dX8_dark_33 : decode cX8_dark 33 = .ok (.getfield 27, 3) := by decide +kernel
theorem dX8_dark_36 : decode cX8_dark 36 = .ok (.invokevirtual 284, 3) := by decide +kernel
theorem dX8_dark_39 : decode cX8_dark 39 = .ok (.iload_n 1, 1) := by decide +kernel
theorem dX8_dark_40 : decode cX8_dark 40 = .ok (.iconst (-1), 1) := by decide +kernel
theorem dX8_dark_41 : decode cX8_dark 41 = .ok (.ixor, 1) := by decide +kernel
theorem dX8_dark_42 : decode cX8_dark 42 = .ok (.iand, 1) := by decide +kernel
theorem dX8_dark_43 : decode cX8_dark 43 = .ok (.ireturn, 1) := by decide +kernel
theorem dX8_ends_0 : decode cX8_ends 0 = .ok (.aload_n 0, 1) := by decide +kernel
theorem dX8_ends_1 : decode cX8_ends 1 = .ok (.iconst 1, 1) := by decide +kernel
theorem dX8_ends_2 : decode cX8_ends 2 = .ok (.iload_n 1, 1) := by decide +kernel
theorem dX8_ends_3 : decode cX8_ends 3 = .ok (.bipush 6, 2) := by decide +kernel
theorem dX8_ends_5 : decode cX8_ends 5 = .ok (.invokevirtual 229, 3) := by decide +kernel
theorem dX8_ends_8 : decode cX8_ends 8 = .ok (.istore_n 2, 1) := by decide +kernel
theorem dX8_ends_9 : decode cX8_ends 9 = .ok (.iload_n 2, 1) := by decide +kernel
theorem dX8_ends_10 : decode cX8_ends 10 = .ok (.ifCond .eq 5, 3) := by decide +kernel
theorem dX8_ends_13 : decode cX8_ends 13 = .ok (.iload_n 2, 1) := by decide +kernel
theorem dX8_ends_14 : decode cX8_ends 14 = .ok (.ireturn, 1) := by decide +kernel
theorem dX8_ends_15 : decode cX8_ends 15 = .ok (.aload_n 0, 1) := by decide +kernel
theorem dX8_ends_16 : decode cX8_ends 16 = .ok (.iload_n 1, 1) := by decide +kernel
theorem dX8_ends_17 : decode cX8_ends 17 = .ok (.invokevirtual 233, 3) := by decide +kernel
theorem dX8_ends_20 : decode cX8_ends 20 = .ok (.istore_n 3, 1) := by decide +kernel
theorem dX8_ends_21 : decode cX8_ends 21 = .ok (.aload_n 0, 1) := by decide +kernel
theorem dX8_ends_22 : decode cX8_ends 22 = .ok (.getfield 51, 3) := by decide +kernel
theorem dX8_ends_25 : decode cX8_ends 25 = .ok (.aload_n 0, 1) := by decide +kernel
theorem dX8_ends_26 : decode cX8_ends 26 = .ok (.getfield 27, 3) := by decide +kernel
theorem dX8_ends_29 : decode cX8_ends 29 = .ok (.getfield 161, 3) := by decide +kernel
theorem dX8_ends_32 : decode cX8_ends 32 = .ok (.aload_n 0, 1) := by decide +kernel
theorem dX8_ends_33 : decode cX8_ends 33 = .ok (.getfield 27, 3) := by decide +kernel
theorem dX8_ends_36 : decode cX8_ends 36 = .ok (.getfield 128, 3) := by decide +kernel
theorem dX8_ends_39 : decode cX8_ends 39 = .ok (.iload_n 3, 1) := by decide +kernel
theorem dX8_ends_40 : decode cX8_ends 40 = .ok (.invokevirtual 281, 3) := by decide +kernel
theorem dX8_ends_43 : decode cX8_ends 43 = .ok (.aload_n 0, 1) := by decide +kernel
theorem dX8_ends_44 : decode cX8_ends 44 = .ok (.getfield 58, 3) := by decide +kernel
theorem dX8_ends_47 : decode cX8_ends 47 = .ok (.aload_n 0, 1) := by decide +kernel
theorem dX8_ends_48 : decode cX8_ends 48 = .ok (.getfield 27, 3) := by decide +kernel
theorem dX8_ends_51 : decode cX8_ends 51 = .ok (.iconst 0, 1) := by decide +kernel
theorem dX8_ends_52 : decode cX8_ends 52 = .ok (.iconst (-1), 1) := by decide +kernel
theorem dX8_ends_53 : decode cX8_ends 53 = .ok (.invokevirtual 273, 3) := by decide +kernel
theorem dX8_ends_56 : decode cX8_ends 56 = .ok (.aload_n 0, 1) := by decide +kernel
theorem dX8_ends_57 : decode cX8_ends 57 = .ok (.getfield 72, 3) := by decide +kernel
theorem dX8_ends_60 : decode cX8_ends 60 = .ok (.aload_n 0, 1) := by decide +kernel
theorem dX8_ends_61 : decode cX8_ends 61 = .ok (.getfield 58, 3) := by decide +kernel
theorem dX8_ends_64 : decode cX8_ends 64 = .ok (.aload_n 0, 1) := by decide +kernel
theorem dX8_ends_65 : decode cX8_ends 65 = .ok (.getfield 51, 3) := by decide +kernel
theorem dX8_ends_68 : decode cX8_ends 68 = .ok (.iload_n 3, 1) := by decide +kernel
theorem dX8_ends_69 : decode cX8_ends 69 = .ok (.invokevirtual 287, 3) := by decide +kernel
theorem dX8_ends_72 : decode cX8_ends 72 = .ok (.ireturn, 1) := by decide +kernel
theorem dX8_halts_0 : decode cX8_halts 0 = .ok (.aload_n 0, 1) := by decide +kernel
theorem dX8_halts_1 : decode cX8_halts 1 = .ok (.getfield 27, 3) := by decide +kernel
theorem dX8_halts_4 : decode cX8_halts 4 = .ok (.iload_n 1, 1) := by decide +kernel
theorem dX8_halts_5 : decode cX8_halts 5 = .ok (.invokevirtual 158, 3) := by decide +kernel
theorem dX8_halts_8 : decode cX8_halts 8 = .ok (.ifCond .ne 6, 3) := by decide +kernel
theorem dX8_halts_11 : decode cX8_halts 11 = .ok (.bipush (-3), 2) := by decide +kernel
theorem dX8_halts_13 : decode cX8_halts 13 = .ok (.ireturn, 1) := by decide +kernel
theorem dX8_halts_14 : decode cX8_halts 14 = .ok (.aload_n 0, 1) := by decide +kernel
theorem dX8_halts_15 : decode cX8_halts 15 = .ok (.getfield 79, 3) := by decide +kernel
theorem dX8_halts_18 : decode cX8_halts 18 = .ok (.aload_n 0, 1) := by decide +kernel
theorem dX8_halts_19 : decode cX8_halts 19 = .ok (.getfield 27, 3) := by decide +kernel
theorem dX8_halts_22 : decode cX8_halts 22 = .ok (.iload_n 1, 1) := by decide +kernel
theorem dX8_halts_23 : decode cX8_halts 23 = .ok (.invokevirtual 291, 3) := by decide +kernel
theorem dX8_halts_26 : decode cX8_halts 26 = .ok (.ireturn, 1) := by decide +kernel
