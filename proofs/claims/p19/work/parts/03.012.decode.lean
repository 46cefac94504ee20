theorem dX9_shifted_118 : decode cX9_shifted 118 = .ok (.iload 8, 2) := by decide +kernel
theorem dX9_shifted_120 : decode cX9_shifted 120 = .ok (.iadd, 1) := by decide +kernel
theorem dX9_shifted_121 : decode cX9_shifted 121 = .ok (.iaload, 1) := by decide +kernel
theorem dX9_shifted_122 : decode cX9_shifted 122 = .ok (.bipush 9, 2) := by decide +kernel
theorem dX9_shifted_124 : decode cX9_shifted 124 = .ok (.if_icmp .ne 6, 3) := by decide +kernel
theorem dX9_shifted_127 : decode cX9_shifted 127 = .ok (.goto 92, 3) := by decide +kernel
theorem dX9_shifted_130 : decode cX9_shifted 130 = .ok (.aload_n 0, 1) := by decide +kernel
theorem dX9_shifted_131 : decode cX9_shifted 131 = .ok (.getfield 13, 3) := by decide +kernel
theorem dX9_shifted_134 : decode cX9_shifted 134 = .ok (.bipush 32, 2) := by decide +kernel
theorem dX9_shifted_136 : decode cX9_shifted 136 = .ok (.iload 7, 2) := by decide +kernel
theorem dX9_shifted_138 : decode cX9_shifted 138 = .ok (.iadd, 1) := by decide +kernel
theorem dX9_shifted_139 : decode cX9_shifted 139 = .ok (.dup2, 1) := by decide +kernel
theorem dX9_shifted_140 : decode cX9_shifted 140 = .ok (.iaload, 1) := by decide +kernel
theorem dX9_shifted_141 : decode cX9_shifted 141 = .ok (.iconst 1, 1) := by decide +kernel
theorem dX9_shifted_142 : decode cX9_shifted 142 = .ok (.isub, 1) := by decide +kernel
theorem dX9_shifted_143 : decode cX9_shifted 143 = .ok (.iastore, 1) := by decide +kernel
theorem dX9_shifted_144 : decode cX9_shifted 144 = .ok (.aload_n 0, 1) := by decide +kernel
theorem dX9_shifted_145 : decode cX9_shifted 145 = .ok (.getfield 13, 3) := by decide +kernel
theorem dX9_shifted_148 : decode cX9_shifted 148 = .ok (.bipush 32, 2) := by decide +kernel
theorem dX9_shifted_150 : decode cX9_shifted 150 = .ok (.iload 8, 2) := by decide +kernel
theorem dX9_shifted_152 : decode cX9_shifted 152 = .ok (.iadd, 1) := by decide +kernel
theorem dX9_shifted_153 : decode cX9_shifted 153 = .ok (.dup2, 1) := by decide +kernel
theorem dX9_shifted_154 : decode cX9_shifted 154 = .ok (.iaload, 1) := by decide +kernel
theorem dX9_shifted_155 : decode cX9_shifted 155 = .ok (.iconst 1, 1) := by decide +kernel
theorem dX9_shifted_156 : decode cX9_shifted 156 = .ok (.iadd, 1) := by decide +kernel
theorem dX9_shifted_157 : decode cX9_shifted 157 = .ok (.iastore, 1) := by decide +kernel
theorem dX9_shifted_158 : decode cX9_shifted 158 = .ok (.aload_n 0, 1) := by decide +kernel
theorem dX9_shifted_159 : decode cX9_shifted 159 = .ok (.iconst 0, 1) := by decide +kernel
theorem dX9_shifted_160 : decode cX9_shifted 160 = .ok (.iconst 0, 1) := by decide +kernel
theorem dX9_shifted_161 : decode cX9_shifted 161 = .ok (.iload_n 1, 1) := by decide +kernel
theorem dX9_shifted_162 : decode cX9_shifted 162 = .ok (.invokevirtual 269, 3) := by decide +kernel
theorem dX9_shifted_165 : decode cX9_shifted 165 = .ok (.iload_n 3, 1) := by decide +kernel
theorem dX9_shifted_166 : decode cX9_shifted 166 = .ok (.isub, 1) := by decide +kernel
theorem dX9_shifted_167 : decode cX9_shifted 167 = .ok (.istore 9, 2) := by decide +kernel
theorem dX9_shifted_169 : decode cX9_shifted 169 = .ok (.aload_n 0, 1) := by decide +kernel
theorem dX9_shifted_170 : decode cX9_shifted 170 = .ok (.getfield 13, 3) := by decide +kernel
theorem dX9_shifted_173 : decode cX9_shifted 173 = .ok (.bipush 32, 2) := by decide +kernel
theorem dX9_shifted_175 : decode cX9_shifted 175 = .ok (.iload 7, 2) := by decide +kernel
theorem dX9_shifted_177 : decode cX9_shifted 177 = .ok (.iadd, 1) := by decide +kernel
theorem dX9_shifted_178 : decode cX9_shifted 178 = .ok (.dup2, 1) := by decide +kernel
theorem dX9_shifted_179 : decode cX9_shifted 179 = .ok (.iaload, 1) := by decide +kernel
theorem dX9_shifted_180 : decode cX9_shifted 180 = .ok (.iconst 1, 1) := by decide +kernel
theorem dX9_shifted_181 : decode cX9_shifted 181 = .ok (.iadd, 1) := by decide +kernel
theorem dX9_shifted_182 : decode cX9_shifted 182 = .ok (.iastore, 1) := by decide +kernel
theorem dX9_shifted_183 : decode cX9_shifted 183 = .ok (.aload_n 0, 1) := by decide +kernel
theorem dX9_shifted_184 : decode cX9_shifted 184 = .ok (.getfield 13, 3) := by decide +kernel
theorem dX9_shifted_187 : decode cX9_shifted 187 = .ok (.bipush 32, 2) := by decide +kernel
theorem dX9_shifted_189 : decode cX9_shifted 189 = .ok (.iload 8, 2) := by decide +kernel
theorem dX9_shifted_191 : decode cX9_shifted 191 = .ok (.iadd, 1) := by decide +kernel
theorem dX9_shifted_192 : decode cX9_shifted 192 = .ok (.dup2, 1) := by decide +kernel
theorem dX9_shifted_193 : decode cX9_shifted 193 = .ok (.iaload, 1) := by decide +kernel
theorem dX9_shifted_194 : decode cX9_shifted 194 = .ok (.iconst 1, 1) := by decide +kernel
theorem dX9_shifted_195 : decode cX9_shifted 195 = .ok (.isub, 1) := by decide +kernel
theorem dX9_shifted_196 : decode cX9_shifted 196 = .ok (.iastore, 1) := by decide +kernel
theorem dX9_shifted_197 : decode cX9_shifted 197 = .ok (.iload 9, 2) := by decide +kernel
theorem dX9_shifted_199 : decode cX9_shifted 199 = .ok (.iload 4, 2) := by decide +kernel
theorem dX9_shifted_201 : decode cX9_shifted 201 = .ok (.if_icmp .gt 6, 3) := by decide +kernel
theorem dX9_shifted_204 : decode cX9_shifted 204 = .ok (.goto 15, 3) := by decide +kernel
theorem dX9_shifted_207 : decode cX9_shifted 207 = .ok (.iload 9, 2) := by decide +kernel
theorem dX9_shifted_209 : decode cX9_shifted 209 = .ok (.istore 4, 2) := by decide +kernel
theorem dX9_shifted_211 : decode cX9_shifted 211 = .ok (.iload 7, 2) := by decide +kernel
theorem dX9_shifted_213 : decode cX9_shifted 213 = .ok (.istore 5, 2) := by decide +kernel
theorem dX9_shifted_215 : decode cX9_shifted 215 = .ok (.iload 8, 2) := by decide +kernel
theorem dX9_shifted_217 : decode cX9_shifted 217 = .ok (.istore 6, 2) := by decide +kernel
theorem dX9_shifted_219 : decode cX9_shifted 219 = .ok (.iinc 8 1, 3) := by decide +kernel
theorem dX9_shifted_222 : decode cX9_shifted 222 = .ok (.goto (-141), 3) := by decide +kernel
theorem dX9_shifted_225 : decode cX9_shifted 225 = .ok (.iinc 7 1, 3) := by decide +kernel
theorem dX9_shifted_228 : decode cX9_shifted 228 = .ok (.goto (-161), 3) := by decide +kernel
theorem dX9_shifted_231 : decode cX9_shifted 231 = .ok (.iload_n 2, 1) := by decide +kernel
theorem dX9_shifted_232 : decode cX9_shifted 232 = .ok (.ifCond .ne 8, 3) := by decide +kernel
theorem dX9_shifted_235 : decode cX9_shifted 235 = .ok (.iload 4, 2) := by decide +kernel
theorem dX9_shifted_237 : decode cX9_shifted 237 = .ok (.goto 15, 3) := by decide +kernel
theorem dX9_shifted_240 : decode cX9_shifted 240 = .ok (.iload_n 2, 1) := by decide +kernel
theorem dX9_shifted_241 : decode cX9_shifted 241 = .ok (.iconst 1, 1) := by decide +kernel
theorem dX9_shifted_242 : decode cX9_shifted 242 = .ok (.if_icmp .ne 8, 3) := by decide +kernel
theorem dX9_shifted_245 : decode cX9_shifted 245 = .ok (.iload 5, 2) := by decide +kernel
theorem dX9_shifted_247 : decode cX9_shifted 247 = .ok (.goto 5, 3) := by decide +kernel
theorem dX9_shifted_250 : decode cX9_shifted 250 = .ok (.iload 6, 2) := by decide +kernel
theorem dX9_shifted_252 : decode cX9_shifted 252 = .ok (.ireturn, 1) := by decide +kernel
theorem dX9_felled_0 : decode cX9_felled 0 = .ok (.aload_n 0, 1) := by decide +kernel
theorem dX9_felled_1 : decode cX9_felled 1 = .ok (.iconst 0, 1) := by decide +kernel
theorem dX9_felled_2 : decode cX9_felled 2 = .ok (.putfield 1, 3) := by decide +kernel
theorem dX9_felled_5 : decode cX9_felled 5 = .ok (.iload_n 2, 1) := by decide +kernel
theorem dX9_felled_6 : decode cX9_felled 6 = .ok (.i2l, 1) := by decide +kernel
theorem dX9_felled_7 : decode cX9_felled 7 = .ok (.lconst 0, 1) := by decide +kernel
theorem dX9_felled_8 : decode cX9_felled 8 = .ok (.lconst 1, 1) := by decide +kernel
theorem dX9_felled_9 : decode cX9_felled 9 = .ok (.invokestatic 128, 3) := by decide +kernel
theorem dX9_felled_12 : decode cX9_felled 12 = .ok (.ifCond .ne 6, 3) := by decide +kernel
theorem dX9_felled_15 : decode cX9_felled 15 = .ok (.bipush (-2), 2) := by decide +kernel
theorem dX9_felled_17 : decode cX9_felled 17 = .ok (.ireturn, 1) := by decide +kernel
theorem dX9_felled_18 : decode cX9_felled 18 = .ok (.iload_n 1, 1) := by decide +kernel
theorem dX9_felled_19 : decode cX9_felled 19 = .ok (.i2l, 1) := by decide +kernel
theorem dX9_felled_20 : decode cX9_felled 20 = .ok (.lconst 1, 1) := by decide +kernel
theorem dX9_felled_21 : decode cX9_felled 21 = .ok (.ldc2_w 276, 3) := by decide +kernel
theorem dX9_felled_24 : decode cX9_felled 24 = .ok (.invokestatic 128, 3) := by decide +kernel
theorem dX9_felled_27 : decode cX9_felled 27 = .ok (.ifCond .ne 6, 3) := by decide +kernel
theorem dX9_felled_30 : decode cX9_felled 30 = .ok (.bipush (-3), 2) := by decide +kernel
theorem dX9_felled_32 : decode cX9_felled 32 = .ok (.ireturn, 1) := by decide +kernel
theorem dX9_felled_33 : decode cX9_felled 33 = .ok (.aload_n 0, 1) := by decide +kernel
theorem dX9_felled_34 : decode cX9_felled 34 = .ok (.getfield 13, 3) := by decide +kernel
theorem dX9_felled_37 : decode cX9_felled 37 = .ok (.iconst 0, 1) := by decide +kernel
theorem dX9_felled_38 : decode cX9_felled 38 = .ok (.iaload, 1) := by decide +kernel
theorem dX9_felled_39 : decode cX9_felled 39 = .ok (.ifCond .ne 6, 3) := by decide +kernel
theorem dX9_felled_42 : decode cX9_felled 42 = .ok (.bipush (-5), 2) := by decide +kernel
theorem dX9_felled_44 : decode cX9_felled 44 = .ok (.ireturn, 1) := by decide +kernel
theorem dX9_felled_45 : decode cX9_felled 45 = .ok (.aload_n 0, 1) := by decide +kernel
theorem dX9_felled_46 : decode cX9_felled 46 = .ok (.iconst 0, 1) := by decide +kernel
theorem dX9_felled_47 : decode cX9_felled 47 = .ok (.iconst 0, 1) := by decide +kernel
theorem dX9_felled_48 : decode cX9_felled 48 = .ok (.iload_n 1, 1) := by decide +kernel
theorem dX9_felled_49 : decode cX9_felled 49 = .ok (.invokevirtual 269, 3) := by decide +kernel
theorem dX9_felled_52 : decode cX9_felled 52 = .ok (.istore_n 3, 1) := by decide +kernel
theorem dX9_felled_53 : decode cX9_felled 53 = .ok (.iconst 0, 1) := by decide +kernel
theorem dX9_felled_54 : decode cX9_felled 54 = .ok (.istore 4, 2) := by decide +kernel
theorem dX9_felled_56 : decode cX9_felled 56 = .ok (.iconst (-1), 1) := by decide +kernel
theorem dX9_felled_57 : decode cX9_felled 57 = .ok (.istore 5, 2) := by decide +kernel
theorem dX9_felled_59 : decode cX9_felled 59 = .ok (.iconst 0, 1) := by decide +kernel
theorem dX9_felled_60 : decode cX9_felled 60 = .ok (.istore 6, 2) := by decide +kernel
theorem dX9_felled_62 : decode cX9_felled 62 = .ok (.iload 6, 2) := by decide +kernel
theorem dX9_felled_64 : decode cX9_felled 64 = .ok (.aload_n 0, 1) := by decide +kernel
theorem dX9_felled_65 : decode cX9_felled 65 = .ok (.getfield 13, 3) := by decide +kernel
theorem dX9_felled_68 : decode cX9_felled 68 = .ok (.iconst 0, 1) := by decide +kernel
theorem dX9_felled_69 : decode cX9_felled 69 = .ok (.iaload, 1) := by decide +kernel
theorem dX9_felled_70 : decode cX9_felled 70 = .ok (.if_icmp .ge 81, 3) := by decide +kernel
theorem dX9_felled_73 : decode cX9_felled 73 = .ok (.aload_n 0, 1) := by decide +kernel
theorem dX9_felled_74 : decode cX9_felled 74 = .ok (.getfield 13, 3) := by decide +kernel
theorem dX9_felled_77 : decode cX9_felled 77 = .ok (.bipush 48, 2) := by decide +kernel
theorem dX9_felled_79 : decode cX9_felled 79 = .ok (.iload 6, 2) := by decide +kernel
theorem dX9_felled_81 : decode cX9_felled 81 = .ok (.iadd, 1) := by decide +kernel
theorem dX9_felled_82 : decode cX9_felled 82 = .ok (.iaload, 1) := by decide +kernel
theorem dX9_felled_83 : decode cX9_felled 83 = .ok (.istore 7, 2) := by decide +kernel
theorem dX9_felled_85 : decode cX9_felled 85 = .ok (.iload 7, 2) := by decide +kernel
theorem dX9_felled_87 : decode cX9_felled 87 = .ok (.ifCond .ne 6, 3) := by decide +kernel
theorem dX9_felled_90 : decode cX9_felled 90 = .ok (.goto 55, 3) := by decide +kernel
theorem dX9_felled_93 : decode cX9_felled 93 = .ok (.aload_n 0, 1) := by decide +kernel
theorem dX9_felled_94 : decode cX9_felled 94 = .ok (.getfield 13, 3) := by decide +kernel
theorem dX9_felled_97 : decode cX9_felled 97 = .ok (.bipush 48, 2) := by decide +kernel
theorem dX9_felled_99 : decode cX9_felled 99 = .ok (.iload 6, 2) := by decide +kernel
theorem dX9_felled_101 : decode cX9_felled 101 = .ok (.iadd, 1) := by decide +kernel
theorem dX9_felled_102 : decode cX9_felled 102 = .ok (.iconst 0, 1) := by decide +kernel
theorem dX9_felled_103 : decode cX9_felled 103 = .ok (.iastore, 1) := by decide +kernel
theorem dX9_felled_104 : decode cX9_felled 104 = .ok (.aload_n 0, 1) := by decide +kernel
theorem dX9_felled_105 : decode cX9_felled 105 = .ok (.iconst 0, 1) := by decide +kernel
theorem dX9_felled_106 : decode cX9_felled 106 = .ok (.iconst 0, 1) := by decide +kernel
theorem dX9_felled_107 : decode cX9_felled 107 = .ok (.iload_n 1, 1) := by decide +kernel
theorem dX9_felled_108 : decode cX9_felled 108 = .ok (.invokevirtual 269, 3) := by decide +kernel
theorem dX9_felled_111 : decode cX9_felled 111 = .ok (.iload_n 3, 1) := by decide +kernel
theorem dX9_felled_112 : decode cX9_felled 112 = .ok (.isub, 1) := by decide +kernel
theorem dX9_felled_113 : decode cX9_felled 113 = .ok (.istore 8, 2) := by decide +kernel
theorem dX9_felled_115 : decode cX9_felled 115 = .ok (.aload_n 0, 1) := by decide +kernel
theorem dX9_felled_116 : decode cX9_felled 116 = .ok (.getfield 13, 3) := by decide +kernel
theorem dX9_felled_119 : decode cX9_felled 119 = .ok (.bipush 48, 2) := by decide +kernel
theorem dX9_felled_121 : decode cX9_felled 121 = .ok (.iload 6, 2) := by decide +kernel
theorem dX9_felled_123 : decode cX9_felled 123 = .ok (.iadd, 1) := by decide +kernel
theorem dX9_felled_124 : decode cX9_felled 124 = .ok (.iload 7, 2) := by decide +kernel
theorem dX9_felled_126 : decode cX9_felled 126 = .ok (.iastore, 1) := by decide +kernel
theorem dX9_felled_127 : decode cX9_felled 127 = .ok (.iload 8, 2) := by decide +kernel
theorem dX9_felled_129 : decode cX9_felled 129 = .ok (.iload 4, 2) := by decide +kernel
theorem dX9_felled_131 : decode cX9_felled 131 = .ok (.if_icmp .gt 6, 3) := by decide +kernel
theorem dX9_felled_134 : decode cX9_felled 134 = .ok (.goto 11, 3) := by decide +kernel
theorem dX9_felled_137 : decode cX9_felled 137 = .ok (.iload 8, 2) := by decide +kernel
theorem dX9_felled_139 : decode cX9_felled 139 = .ok (.istore 4, 2) := by decide +kernel
theorem dX9_felled_141 : decode cX9_felled 141 = .ok (.iload 6, 2) := by decide +kernel
theorem dX9_felled_143 : decode cX9_felled 143 = .ok (.istore 5, 2) := by decide +kernel
theorem dX9_felled_145 : decode cX9_felled 145 = .ok (.iinc 6 1, 3) := by decide +kernel
theorem dX9_felled_148 : decode cX9_felled 148 = .ok (.goto (-86), 3) := by decide +kernel
theorem dX9_felled_151 : decode cX9_felled 151 = .ok (.iload_n 2, 1) := by decide +kernel
theorem dX9_felled_152 : decode cX9_felled 152 = .ok (.ifCond .ne 8, 3) := by decide +kernel
theorem dX9_felled_155 : decode cX9_felled 155 = .ok (.iload 4, 2) := by decide +kernel
theorem dX9_felled_157 : decode cX9_felled 157 = .ok (.goto 5, 3) := by decide +kernel
theorem dX9_felled_160 : decode cX9_felled 160 = .ok (.iload 5, 2) := by decide +kernel
theorem dX9_felled_162 : decode cX9_felled 162 = .ok (.ireturn, 1) := by decide +kernel
theorem dX9_soonest_0 : decode cX9_soonest 0 = .ok (.aload_n 0, 1) := by decide +kernel
theorem dX9_soonest_1 : decode cX9_soonest 1 = .ok (.iconst 0, 1) := by decide +kernel
theorem dX9_soonest_2 : decode cX9_soonest 2 = .ok (.putfield 1, 3) := by decide +kernel
theorem dX9_soonest_5 : decode cX9_soonest 5 = .ok (.iload_n 1, 1) := by decide +kernel
theorem dX9_soonest_6 : decode cX9_soonest 6 = .ok (.i2l, 1) := by decide +kernel
theorem dX9_soonest_7 : decode cX9_soonest 7 = .ok (.lconst 0, 1) := by decide +kernel
theorem dX9_soonest_8 : decode cX9_soonest 8 = .ok (.ldc2_w 278, 3) := by decide +kernel
theorem dX9_soonest_11 : decode cX9_soonest 11 = .ok (.invokestatic 128, 3) := by decide +kernel
theorem dX9_soonest_14 : decode cX9_soonest 14 = .ok (.ifCond .ne 6, 3) := by decide +kernel
theorem dX9_soonest_17 : decode cX9_soonest 17 = .ok (.bipush (-3), 2) := by decide +kernel
theorem dX9_soonest_19 : decode cX9_soonest 19 = .ok (.ireturn, 1) := by decide +kernel
theorem dX9_soonest_20 : decode cX9_soonest 20 = .ok (.aload_n 0, 1) := by decide +kernel
theorem dX9_soonest_21 : decode cX9_soonest 21 = .ok (.getfield 13, 3) := by decide +kernel
theorem dX9_soonest_24 : decode cX9_soonest 24 = .ok (.iconst 0, 1) := by decide +kernel
theorem dX9_soonest_25 : decode cX9_soonest 25 = .ok (.iaload, 1) := by decide +kernel
theorem dX9_soonest_26 : decode cX9_soonest 26 = .ok (.ifCond .ne 6, 3) := by decide +kernel
theorem dX9_soonest_29 : decode cX9_soonest 29 = .ok (.bipush (-5), 2) := by decide +kernel
theorem dX9_soonest_31 : decode cX9_soonest 31 = .ok (.ireturn, 1) := by decide +kernel
theorem dX9_soonest_32 : decode cX9_soonest 32 = .ok (.iconst 0, 1) := by decide +kernel
theorem dX9_soonest_33 : decode cX9_soonest 33 = .ok (.istore_n 2, 1) := by decide +kernel
theorem dX9_soonest_34 : decode cX9_soonest 34 = .ok (.iload_n 2, 1) := by decide +kernel
theorem dX9_soonest_35 : decode cX9_soonest 35 = .ok (.bipush 8, 2) := by decide +kernel
theorem dX9_soonest_37 : decode cX9_soonest 37 = .ok (.if_icmp .gt 22, 3) := by decide +kernel
theorem dX9_soonest_40 : decode cX9_soonest 40 = .ok (.aload_n 0, 1) := by decide +kernel
theorem dX9_soonest_41 : decode cX9_soonest 41 = .ok (.iconst 0, 1) := by decide +kernel
theorem dX9_soonest_42 : decode cX9_soonest 42 = .ok (.iconst 0, 1) := by decide +kernel
theorem dX9_soonest_43 : decode cX9_soonest 43 = .ok (.iload_n 2, 1) := by decide +kernel
theorem dX9_soonest_44 : decode cX9_soonest 44 = .ok (.invokevirtual 269, 3) := by decide +kernel
theorem dX9_soonest_47 : decode cX9_soonest 47 = .ok (.iload_n 1, 1) := by decide +kernel
theorem dX9_soonest_48 : decode cX9_soonest 48 = .ok (.if_icmp .lt 5, 3) := by decide +kernel
theorem dX9_soonest_51 : decode cX9_soonest 51 = .ok (.iload_n 2, 1) := by decide +kernel
theorem dX9_soonest_52 : decode cX9_soonest 52 = .ok (.ireturn, 1) := by decide +kernel
theorem dX9_soonest_53 : decode cX9_soonest 53 = .ok (.iinc 2 1, 3) := by decide +kernel
theorem dX9_soonest_56 : decode cX9_soonest 56 = .ok (.goto (-22), 3) := by decide +kernel
theorem dX9_soonest_59 : decode cX9_soonest 59 = .ok (.iconst (-1), 1) := by decide +kernel
theorem dX9_soonest_60 : decode cX9_soonest 60 = .ok (.ireturn, 1) := by decide +kernel
theorem dX9_dark_0 : decode cX9_dark 0 = .ok (.aload_n 0, 1) := by decide +kernel
theorem dX9_dark_1 : decode cX9_dark 1 = .ok (.iconst 0, 1) := by decide +kernel
theorem dX9_dark_2 : decode cX9_dark 2 = .ok (.putfield 1, 3) := by decide +kernel
theorem dX9_dark_5 : decode cX9_dark 5 = .ok (.iconst 1, 1) := by decide +kernel
theorem dX9_dark_6 : decode cX9_dark 6 = .ok (.aload_n 0, 1) := by decide +kernel
theorem dX9_dark_7 : decode cX9_dark 7 = .ok (.getfield 13, 3) := by decide +kernel
theorem dX9_dark_10 : decode cX9_dark 10 = .ok (.iconst 0, 1) := by decide +kernel
theorem dX9_dark_11 : decode cX9_dark 11 = .ok (.iaload, 1) := by decide +kernel
theorem dX9_dark_12 : decode cX9_dark 12 = .ok (.ishl, 1) := by decide +kernel
theorem dX9_dark_13 : decode cX9_dark 13 = .ok (.iconst 1, 1) := by decide +kernel
theorem dX9_dark_14 : decode cX9_dark 14 = .ok (.isub, 1) := by decide +kernel
theorem dX9_dark_15 : decode cX9_dark 15 = .ok (.istore_n 1, 1) := by decide +kernel
theorem dX9_dark_16 : decode cX9_dark 16 = .ok (.iconst 0, 1) := by decide +kernel
theorem dX9_dark_17 : decode cX9_dark 17 = .ok (.istore_n 2, 1) := by decide +kernel
theorem dX9_dark_18 : decode cX9_dark 18 = .ok (.iload_n 2, 1) := by decide +kernel
theorem dX9_dark_19 : decode cX9_dark 19 = .ok (.aload_n 0, 1) := by decide +kernel
theorem dX9_dark_20 : decode cX9_dark 20 = .ok (.getfield 13, 3) := by decide +kernel
theorem dX9_dark_23 : decode cX9_dark 23 = .ok (.iconst 0, 1) := by decide +kernel
theorem dX9_dark_24 : decode cX9_dark 24 = .ok (.iaload, 1) := by decide +kernel
theorem dX9_dark_25 : decode cX9_dark 25 = .ok (.if_icmp .ge 25, 3) := by decide +kernel
theorem dX9_dark_28 : decode cX9_dark 28 = .ok (.iload_n 1, 1) := by decide +kernel
theorem dX9_dark_29 : decode cX9_dark 29 = .ok (.aload_n 0, 1) := by decide +kernel
theorem dX9_dark_30 : decode cX9_dark 30 = .ok (.iload_n 2, 1) := by decide +kernel
theorem dX9_dark_31 : decode cX9_dark 31 = .ok (.aload_n 0, 1) := by decide +kernel
theorem dX9_dark_32 : decode cX9_dark 32 = .ok (.getfield 13, 3) := by decide +kernel
theorem dX9_dark_35 : decode cX9_dark 35 = .ok (.iconst 3, 1) := by decide +kernel
theorem dX9_dark_36 : decode cX9_dark 36 = .ok (.iaload, 1) := by decide +kernel
theorem dX9_dark_37 : decode cX9_dark 37 = .ok (.invokevirtual 188, 3) := by decide +kernel
theorem dX9_dark_40 : decode cX9_dark 40 = .ok (.iconst (-1), 1) := by decide +kernel
theorem dX9_dark_41 : decode cX9_dark 41 = .ok (.ixor, 1) := by decide +kernel
theorem dX9_dark_42 : decode cX9_dark 42 = .ok (.iand, 1) := by decide +kernel
theorem dX9_dark_43 : decode cX9_dark 43 = .ok (.istore_n 1, 1) := by decide +kernel
theorem dX9_dark_44 : decode cX9_dark 44 = .ok (.iinc 2 1, 3) := by decide +kernel
theorem dX9_dark_47 : decode cX9_dark 47 = .ok (.goto (-29), 3) := by decide +kernel
theorem dX9_dark_50 : decode cX9_dark 50 = .ok (.iload_n 1, 1) := by decide +kernel
theorem dX9_dark_51 : decode cX9_dark 51 = .ok (.ireturn, 1) := by decide +kernel
theorem dX9_isMet_0 : decode cX9_isMet 0 = .ok (.iconst 0, 1) := by decide +kernel
theorem dX9_isMet_1 : decode cX9_isMet 1 = .ok (.istore_n 1, 1) := by decide +kernel
theorem dX9_isMet_2 : decode cX9_isMet 2 = .ok (.iload_n 1, 1) := by decide +kernel
theorem dX9_isMet_3 : decode cX9_isMet 3 = .ok (.aload_n 0, 1) := by decide +kernel
theorem dX9_isMet_4 : decode cX9_isMet 4 = .ok (.getfield 280, 3) := by decide +kernel
theorem dX9_isMet_7 : decode cX9_isMet 7 = .ok (.if_icmp .ge 62, 3) := by decide +kernel
theorem dX9_isMet_10 : decode cX9_isMet 10 = .ok (.iconst 0, 1) := by decide +kernel
theorem dX9_isMet_11 : decode cX9_isMet 11 = .ok (.istore_n 2, 1) := by decide +kernel
theorem dX9_isMet_12 : decode cX9_isMet 12 = .ok (.iload_n 2, 1) := by decide +kernel
theorem dX9_isMet_13 : decode cX9_isMet 13 = .ok (.aload_n 0, 1) := by decide +kernel
theorem dX9_isMet_14 : decode cX9_isMet 14 = .ok (.getfield 13, 3) := by decide +kernel
theorem dX9_isMet_17 : decode cX9_isMet 17 = .ok (.iconst 0, 1) := by decide +kernel
theorem dX9_isMet_18 : decode cX9_isMet 18 = .ok (.iaload, 1) := by decide +kernel
theorem dX9_isMet_19 : decode cX9_isMet 19 = .ok (.if_icmp .ge 32, 3) := by decide +kernel
theorem dX9_isMet_22 : decode cX9_isMet 22 = .ok (.aload_n 0, 1) := by decide +kernel
theorem dX9_isMet_23 : decode cX9_isMet 23 = .ok (.getfield 45, 3) := by decide +kernel
theorem dX9_isMet_26 : decode cX9_isMet 26 = .ok (.bipush 16, 2) := by decide +kernel
theorem dX9_isMet_28 : decode cX9_isMet 28 = .ok (.iload_n 1, 1) := by decide +kernel
theorem dX9_isMet_29 : decode cX9_isMet 29 = .ok (.imul, 1) := by decide +kernel
theorem dX9_isMet_30 : decode cX9_isMet 30 = .ok (.iload_n 2, 1) := by decide +kernel
theorem dX9_isMet_31 : decode cX9_isMet 31 = .ok (.iadd, 1) := by decide +kernel
theorem dX9_isMet_32 : decode cX9_isMet 32 = .ok (.iaload, 1) := by decide +kernel
theorem dX9_isMet_33 : decode cX9_isMet 33 = .ok (.aload_n 0, 1) := by decide +kernel
theorem dX9_isMet_34 : decode cX9_isMet 34 = .ok (.getfield 13, 3) := by decide +kernel
theorem dX9_isMet_37 : decode cX9_isMet 37 = .ok (.bipush 16, 2) := by decide +kernel
theorem dX9_isMet_39 : decode cX9_isMet 39 = .ok (.iload_n 2, 1) := by decide +kernel
theorem dX9_isMet_40 : decode cX9_isMet 40 = .ok (.iadd, 1) := by decide +kernel
theorem dX9_isMet_41 : decode cX9_isMet 41 = .ok (.iaload, 1) := by decide +kernel
theorem dX9_isMet_42 : decode cX9_isMet 42 = .ok (.if_icmp .ne 9, 3) := by decide +kernel
theorem dX9_isMet_45 : decode cX9_isMet 45 = .ok (.iinc 2 1, 3) := by decide +kernel
theorem dX9_isMet_48 : decode cX9_isMet 48 = .ok (.goto (-36), 3) := by decide +kernel
theorem dX9_isMet_51 : decode cX9_isMet 51 = .ok (.iload_n 2, 1) := by decide +kernel
theorem dX9_isMet_52 : decode cX9_isMet 52 = .ok (.aload_n 0, 1) := by decide +kernel
theorem dX9_isMet_53 : decode cX9_isMet 53 = .ok (.getfield 13, 3) := by decide +kernel
theorem dX9_isMet_56 : decode cX9_isMet 56 = .ok (.iconst 0, 1) := by decide +kernel
theorem dX9_isMet_57 : decode cX9_isMet 57 = .ok (.iaload, 1) := by decide +kernel
theorem dX9_isMet_58 : decode cX9_isMet 58 = .ok (.if_icmp .ne 5, 3) := by decide +kernel
theorem dX9_isMet_61 : decode cX9_isMet 61 = .ok (.iconst 1, 1) := by decide +kernel
theorem dX9_isMet_62 : decode cX9_isMet 62 = .ok (.ireturn, 1) := by decide +kernel
theorem dX9_isMet_63 : decode cX9_isMet 63 = .ok (.iinc 1 1, 3) := by decide +kernel
theorem dX9_isMet_66 : decode cX9_isMet 66 = .ok (.goto (-64), 3) := by decide +kernel
theorem dX9_isMet_69 : decode cX9_isMet 69 = .ok (.iconst 0, 1) := by decide +kernel
theorem dX9_isMet_70 : decode cX9_isMet 70 = .ok (.ireturn, 1) := by decide +kernel
theorem dX9_gathers_0 : decode cX9_gathers 0 = .ok (.iload_n 1, 1) := by decide +kernel
theorem dX9_gathers_1 : decode cX9_gathers 1 = .ok (.iload_n 2, 1) := by decide +kernel
theorem dX9_gathers_2 : decode cX9_gathers 2 = .ok (.if_icmp .ne 63, 3) := by decide +kernel
theorem dX9_gathers_5 : decode cX9_gathers 5 = .ok (.aload_n 0, 1) := by decide +kernel
theorem dX9_gathers_6 : decode cX9_gathers 6 = .ok (.invokevirtual 283, 3) := by decide +kernel
theorem dX9_gathers_9 : decode cX9_gathers 9 = .ok (.ifCond .eq 4, 3) := by decide +kernel
theorem dX9_gathers_12 : decode cX9_gathers 12 = .ok (.return_, 1) := by decide +kernel
theorem dX9_gathers_13 : decode cX9_gathers 13 = .ok (.iconst 0, 1) := by decide +kernel
theorem dX9_gathers_14 : decode cX9_gathers 14 = .ok (.istore_n 3, 1) := by decide +kernel
theorem dX9_gathers_15 : decode cX9_gathers 15 = .ok (.iload_n 3, 1) := by decide +kernel
theorem dX9_gathers_16 : decode cX9_gathers 16 = .ok (.aload_n 0, 1) := by decide +kernel
theorem dX9_gathers_17 : decode cX9_gathers 17 = .ok (.getfield 13, 3) := by decide +kernel
theorem dX9_gathers_20 : decode cX9_gathers 20 = .ok (.iconst 0, 1) := by decide +kernel
theorem dX9_gathers_21 : decode cX9_gathers 21 = .ok (.iaload, 1) := by decide +kernel
theorem dX9_gathers_22 : decode cX9_gathers 22 = .ok (.if_icmp .ge 32, 3) := by decide +kernel
theorem dX9_gathers_25 : decode cX9_gathers 25 = .ok (.aload_n 0, 1) := by decide +kernel
theorem dX9_gathers_26 : decode cX9_gathers 26 = .ok (.getfield 45, 3) := by decide +kernel
theorem dX9_gathers_29 : decode cX9_gathers 29 = .ok (.bipush 16, 2) := by decide +kernel
theorem dX9_gathers_31 : decode cX9_gathers 31 = .ok (.aload_n 0, 1) := by decide +kernel
theorem dX9_gathers_32 : decode cX9_gathers 32 = .ok (.getfield 280, 3) := by decide +kernel
theorem dX9_gathers_35 : decode cX9_gathers 35 = .ok (.imul, 1) := by decide +kernel
theorem dX9_gathers_36 : decode cX9_gathers 36 = .ok (.iload_n 3, 1) := by decide +kernel
theorem dX9_gathers_37 : decode cX9_gathers 37 = .ok (.iadd, 1) := by decide +kernel
theorem dX9_gathers_38 : decode cX9_gathers 38 = .ok (.aload_n 0, 1) := by decide +kernel
theorem dX9_gathers_39 : decode cX9_gathers 39 = .ok (.getfield 13, 3) := by decide +kernel
theorem dX9_gathers_42 : decode cX9_gathers 42 = .ok (.bipush 16, 2) := by decide +kernel
theorem dX9_gathers_44 : decode cX9_gathers 44 = .ok (.iload_n 3, 1) := by decide +kernel
theorem dX9_gathers_45 : decode cX9_gathers 45 = .ok (.iadd, 1) := by decide +kernel
theorem dX9_gathers_46 : decode cX9_gathers 46 = .ok (.iaload, 1) := by decide +kernel
theorem dX9_gathers_47 : decode cX9_gathers 47 = .ok (.iastore, 1) := by decide +kernel
theorem dX9_gathers_48 : decode cX9_gathers 48 = .ok (.iinc 3 1, 3) := by decide +kernel
theorem dX9_gathers_51 : decode cX9_gathers 51 = .ok (.goto (-36), 3) := by decide +kernel
theorem dX9_gathers_54 : decode cX9_gathers 54 = .ok (.aload_n 0, 1) := by decide +kernel
theorem dX9_gathers_55 : decode cX9_gathers 55 = .ok (.dup, 1) := by decide +kernel
theorem dX9_gathers_56 : decode cX9_gathers 56 = .ok (.getfield 280, 3) := by decide +kernel
theorem dX9_gathers_59 : decode cX9_gathers 59 = .ok (.iconst 1, 1) := by decide +kernel
theorem dX9_gathers_60 : decode cX9_gathers 60 = .ok (.iadd, 1) := by decide +kernel
theorem dX9_gathers_61 : decode cX9_gathers 61 = .ok (.putfield 280, 3) := by decide +kernel
theorem dX9_gathers_64 : decode cX9_gathers 64 = .ok (.return_, 1) := by decide +kernel
theorem dX9_gathers_65 : decode cX9_gathers 65 = .ok (.aload_n 0, 1) := by decide +kernel
theorem dX9_gathers_66 : decode cX9_gathers 66 = .ok (.iload_n 1, 1) := by decide +kernel
theorem dX9_gathers_67 : decode cX9_gathers 67 = .ok (.invokevirtual 216, 3) := by decide +kernel
theorem dX9_gathers_70 : decode cX9_gathers 70 = .ok (.iconst 0, 1) := by decide +kernel
theorem dX9_gathers_71 : decode cX9_gathers 71 = .ok (.istore_n 3, 1) := by decide +kernel
theorem dX9_gathers_72 : decode cX9_gathers 72 = .ok (.iload_n 3, 1) := by decide +kernel
theorem dX9_gathers_73 : decode cX9_gathers 73 = .ok (.iconst 3, 1) := by decide +kernel
theorem dX9_gathers_74 : decode cX9_gathers 74 = .ok (.if_icmp .ge 41, 3) := by decide +kernel
theorem dX9_gathers_77 : decode cX9_gathers 77 = .ok (.aload_n 0, 1) := by decide +kernel
theorem dX9_gathers_78 : decode cX9_gathers 78 = .ok (.iload_n 3, 1) := by decide +kernel
theorem dX9_gathers_79 : decode cX9_gathers 79 = .ok (.i2l, 1) := by decide +kernel
theorem dX9_gathers_80 : decode cX9_gathers 80 = .ok (.invokevirtual 202, 3) := by decide +kernel
theorem dX9_gathers_83 : decode cX9_gathers 83 = .ok (.ifCond .eq 6, 3) := by decide +kernel
theorem dX9_gathers_86 : decode cX9_gathers 86 = .ok (.goto 23, 3) := by decide +kernel
theorem dX9_gathers_89 : decode cX9_gathers 89 = .ok (.aload_n 0, 1) := by decide +kernel
theorem dX9_gathers_90 : decode cX9_gathers 90 = .ok (.iload_n 3, 1) := by decide +kernel
theorem dX9_gathers_91 : decode cX9_gathers 91 = .ok (.iconst 0, 1) := by decide +kernel
theorem dX9_gathers_92 : decode cX9_gathers 92 = .ok (.invokevirtual 206, 3) := by decide +kernel
theorem dX9_gathers_95 : decode cX9_gathers 95 = .ok (.pop, 1) := by decide +kernel
theorem dX9_gathers_96 : decode cX9_gathers 96 = .ok (.aload_n 0, 1) := by decide +kernel
theorem dX9_gathers_97 : decode cX9_gathers 97 = .ok (.iload_n 1, 1) := by decide +kernel
theorem dX9_gathers_98 : decode cX9_gathers 98 = .ok (.iconst 1, 1) := by decide +kernel
theorem dX9_gathers_99 : decode cX9_gathers 99 = .ok (.iadd, 1) := by decide +kernel
theorem dX9_gathers_100 : decode cX9_gathers 100 = .ok (.iload_n 2, 1) := by decide +kernel
theorem dX9_gathers_101 : decode cX9_gathers 101 = .ok (.invokevirtual 287, 3) := by decide +kernel
theorem dX9_gathers_104 : decode cX9_gathers 104 = .ok (.aload_n 0, 1) := by decide +kernel
theorem dX9_gathers_105 : decode cX9_gathers 105 = .ok (.iload_n 1, 1) := by decide +kernel
theorem dX9_gathers_106 : decode cX9_gathers 106 = .ok (.invokevirtual 222, 3) := by decide +kernel
theorem dX9_gathers_109 : decode cX9_gathers 109 = .ok (.iinc 3 1, 3) := by decide +kernel
theorem dX9_gathers_112 : decode cX9_gathers 112 = .ok (.goto (-40), 3) := by decide +kernel
theorem dX9_gathers_115 : decode cX9_gathers 115 = .ok (.return_, 1) := by decide +kernel
theorem dX9_ends_0 : decode cX9_ends 0 = .ok (.aload_n 0, 1) := by decide +kernel
theorem dX9_ends_1 : decode cX9_ends 1 = .ok (.iconst 0, 1) := by decide +kernel
theorem dX9_ends_2 : decode cX9_ends 2 = .ok (.putfield 1, 3) := by decide +kernel
theorem dX9_ends_5 : decode cX9_ends 5 = .ok (.iload_n 1, 1) := by decide +kernel
theorem dX9_ends_6 : decode cX9_ends 6 = .ok (.i2l, 1) := by decide +kernel
theorem dX9_ends_7 : decode cX9_ends 7 = .ok (.lconst 1, 1) := by decide +kernel
theorem dX9_ends_8 : decode cX9_ends 8 = .ok (.ldc2_w 276, 3) := by decide +kernel
theorem dX9_ends_11 : decode cX9_ends 11 = .ok (.invokestatic 128, 3) := by decide +kernel
theorem dX9_ends_14 : decode cX9_ends 14 = .ok (.ifCond .ne 6, 3) := by decide +kernel
theorem dX9_ends_17 : decode cX9_ends 17 = .ok (.bipush (-3), 2) := by decide +kernel
theorem dX9_ends_19 : decode cX9_ends 19 = .ok (.ireturn, 1) := by decide +kernel
theorem dX9_ends_20 : decode cX9_ends 20 = .ok (.aload_n 0, 1) := by decide +kernel
theorem dX9_ends_21 : decode cX9_ends 21 = .ok (.getfield 13, 3) := by decide +kernel
theorem dX9_ends_24 : decode cX9_ends 24 = .ok (.iconst 0, 1) := by decide +kernel
theorem dX9_ends_25 : decode cX9_ends 25 = .ok (.iaload, 1) := by decide +kernel
theorem dX9_ends_26 : decode cX9_ends 26 = .ok (.ifCond .ne 6, 3) := by decide +kernel
theorem dX9_ends_29 : decode cX9_ends 29 = .ok (.bipush (-5), 2) := by decide +kernel
theorem dX9_ends_31 : decode cX9_ends 31 = .ok (.ireturn, 1) := by decide +kernel
theorem dX9_ends_32 : decode cX9_ends 32 = .ok (.aload_n 0, 1) := by decide +kernel
theorem dX9_ends_33 : decode cX9_ends 33 = .ok (.iconst 0, 1) := by decide +kernel
theorem dX9_ends_34 : decode cX9_ends 34 = .ok (.putfield 280, 3) := by decide +kernel
theorem dX9_ends_37 : decode cX9_ends 37 = .ok (.aload_n 0, 1) := by decide +kernel
theorem dX9_ends_38 : decode cX9_ends 38 = .ok (.iconst 0, 1) := by decide +kernel
theorem dX9_ends_39 : decode cX9_ends 39 = .ok (.aload_n 0, 1) := by decide +kernel
theorem dX9_ends_40 : decode cX9_ends 40 = .ok (.iload_n 1, 1) := by decide +kernel
theorem dX9_ends_41 : decode cX9_ends 41 = .ok (.invokevirtual 260, 3) := by decide +kernel
theorem dX9_ends_44 : decode cX9_ends 44 = .ok (.invokevirtual 287, 3) := by decide +kernel
theorem dX9_ends_47 : decode cX9_ends 47 = .ok (.aload_n 0, 1) := by decide +kernel
theorem dX9_ends_48 : decode cX9_ends 48 = .ok (.getfield 280, 3) := by decide +kernel
theorem dX9_ends_51 : decode cX9_ends 51 = .ok (.ireturn, 1) := by decide +kernel
theorem dX9_bitsOf_0 : decode cX9_bitsOf 0 = .ok (.iconst 0, 1) := by decide +kernel
theorem dX9_bitsOf_1 : decode cX9_bitsOf 1 = .ok (.istore_n 1, 1) := by decide +kernel
theorem dX9_bitsOf_2 : decode cX9_bitsOf 2 = .ok (.iconst 0, 1) := by decide +kernel
theorem dX9_bitsOf_3 : decode cX9_bitsOf 3 = .ok (.istore_n 2, 1) := by decide +kernel
theorem dX9_bitsOf_4 : decode cX9_bitsOf 4 = .ok (.iload_n 2, 1) := by decide +kernel
theorem dX9_bitsOf_5 : decode cX9_bitsOf 5 = .ok (.bipush 16, 2) := by decide +kernel
theorem dX9_bitsOf_7 : decode cX9_bitsOf 7 = .ok (.if_icmp .ge 17, 3) := by decide +kernel
theorem dX9_bitsOf_10 : decode cX9_bitsOf 10 = .ok (.iload_n 1, 1) := by decide +kernel
theorem dX9_bitsOf_11 : decode cX9_bitsOf 11 = .ok (.iload_n 0, 1) := by decide +kernel
theorem dX9_bitsOf_12 : decode cX9_bitsOf 12 = .ok (.iload_n 2, 1) := by decide +kernel
theorem dX9_bitsOf_13 : decode cX9_bitsOf 13 = .ok (.ishr, 1) := by decide +kernel
theorem dX9_bitsOf_14 : decode cX9_bitsOf 14 = .ok (.iconst 1, 1) := by decide +kernel
theorem dX9_bitsOf_15 : decode cX9_bitsOf 15 = .ok (.iand, 1) := by decide +kernel
theorem dX9_bitsOf_16 : decode cX9_bitsOf 16 = .ok (.iadd, 1) := by decide +kernel
theorem dX9_bitsOf_17 : decode cX9_bitsOf 17 = .ok (.istore_n 1, 1) := by decide +kernel
theorem dX9_bitsOf_18 : decode cX9_bitsOf 18 = .ok (.iinc 2 1, 3) := by decide +kernel
theorem dX9_bitsOf_21 : decode cX9_bitsOf 21 = .ok (.goto (-17), 3) := by decide +kernel
theorem dX9_bitsOf_24 : decode cX9_bitsOf 24 = .ok (.iload_n 1, 1) := by decide +kernel
theorem dX9_bitsOf_25 : decode cX9_bitsOf 25 = .ok (.ireturn, 1) := by decide +kernel
theorem dX9_haltsFor_0 : decode cX9_haltsFor 0 = .ok (.iconst 0, 1) := by decide +kernel
theorem dX9_haltsFor_1 : decode cX9_haltsFor 1 = .ok (.istore_n 2, 1) := by decide +kernel
theorem dX9_haltsFor_2 : decode cX9_haltsFor 2 = .ok (.iload_n 2, 1) := by decide +kernel
theorem dX9_haltsFor_3 : decode cX9_haltsFor 3 = .ok (.aload_n 0, 1) := by decide +kernel
theorem dX9_haltsFor_4 : decode cX9_haltsFor 4 = .ok (.getfield 13, 3) := by decide +kernel
theorem dX9_haltsFor_7 : decode cX9_haltsFor 7 = .ok (.iconst 0, 1) := by decide +kernel
theorem dX9_haltsFor_8 : decode cX9_haltsFor 8 = .ok (.iaload, 1) := by decide +kernel
theorem dX9_haltsFor_9 : decode cX9_haltsFor 9 = .ok (.if_icmp .ge 26, 3) := by decide +kernel
theorem dX9_haltsFor_12 : decode cX9_haltsFor 12 = .ok (.aload_n 0, 1) := by decide +kernel
theorem dX9_haltsFor_13 : decode cX9_haltsFor 13 = .ok (.getfield 48, 3) := by decide +kernel
theorem dX9_haltsFor_16 : decode cX9_haltsFor 16 = .ok (.iload_n 2, 1) := by decide +kernel
theorem dX9_haltsFor_17 : decode cX9_haltsFor 17 = .ok (.aload_n 0, 1) := by decide +kernel
theorem dX9_haltsFor_18 : decode cX9_haltsFor 18 = .ok (.iload_n 2, 1) := by decide +kernel
theorem dX9_haltsFor_19 : decode cX9_haltsFor 19 = .ok (.aload_n 0, 1) := by decide +kernel
theorem dX9_haltsFor_20 : decode cX9_haltsFor 20 = .ok (.getfield 13, 3) := by decide +kernel
theorem dX9_haltsFor_23 : decode cX9_haltsFor 23 = .ok (.iconst 3, 1) := by decide +kernel
theorem dX9_haltsFor_24 : decode cX9_haltsFor 24 = .ok (.iaload, 1) := by decide +kernel
theorem dX9_haltsFor_25 : decode cX9_haltsFor 25 = .ok (.invokevirtual 188, 3) := by decide +kernel
theorem dX9_haltsFor_28 : decode cX9_haltsFor 28 = .ok (.iastore, 1) := by decide +kernel
theorem dX9_haltsFor_29 : decode cX9_haltsFor 29 = .ok (.iinc 2 1, 3) := by decide +kernel
theorem dX9_haltsFor_32 : decode cX9_haltsFor 32 = .ok (.goto (-30), 3) := by decide +kernel
theorem dX9_haltsFor_35 : decode cX9_haltsFor 35 = .ok (.iconst (-1), 1) := by decide +kernel
theorem dX9_haltsFor_36 : decode cX9_haltsFor 36 = .ok (.istore_n 2, 1) := by decide +kernel
theorem dX9_haltsFor_37 : decode cX9_haltsFor 37 = .ok (.iconst 0, 1) := by decide +kernel
theorem dX9_haltsFor_38 : decode cX9_haltsFor 38 = .ok (.istore_n 3, 1) := by decide +kernel
theorem dX9_haltsFor_39 : decode cX9_haltsFor 39 = .ok (.iload_n 3, 1) := by decide +kernel
theorem dX9_haltsFor_40 : decode cX9_haltsFor 40 = .ok (.iconst 1, 1) := by decide +kernel
theorem dX9_haltsFor_41 : decode cX9_haltsFor 41 = .ok (.aload_n 0, 1) := by decide +kernel
theorem dX9_haltsFor_42 : decode cX9_haltsFor 42 = .ok (.getfield 13, 3) := by decide +kernel
theorem dX9_haltsFor_45 : decode cX9_haltsFor 45 = .ok (.iconst 0, 1) := by decide +kernel
theorem dX9_haltsFor_46 : decode cX9_haltsFor 46 = .ok (.iaload, 1) := by decide +kernel
theorem dX9_haltsFor_47 : decode cX9_haltsFor 47 = .ok (.ishl, 1) := by decide +kernel
theorem dX9_haltsFor_48 : decode cX9_haltsFor 48 = .ok (.if_icmp .ge 88, 3) := by decide +kernel
theorem dX9_haltsFor_51 : decode cX9_haltsFor 51 = .ok (.iload_n 2, 1) := by decide +kernel
theorem dX9_haltsFor_52 : decode cX9_haltsFor 52 = .ok (.iconst (-1), 1) := by decide +kernel
theorem dX9_haltsFor_53 : decode cX9_haltsFor 53 = .ok (.if_icmp .eq 17, 3) := by decide +kernel
theorem dX9_haltsFor_56 : decode cX9_haltsFor 56 = .ok (.iload_n 3, 1) := by decide +kernel
theorem dX9_haltsFor_57 : decode cX9_haltsFor 57 = .ok (.invokestatic 291, 3) := by decide +kernel
theorem dX9_haltsFor_60 : decode cX9_haltsFor 60 = .ok (.iload_n 2, 1) := by decide +kernel
theorem dX9_haltsFor_61 : decode cX9_haltsFor 61 = .ok (.invokestatic 291, 3) := by decide +kernel
theorem dX9_haltsFor_64 : decode cX9_haltsFor 64 = .ok (.if_icmp .lt 6, 3) := by decide +kernel
theorem dX9_haltsFor_67 : decode cX9_haltsFor 67 = .ok (.goto 63, 3) := by decide +kernel
theorem dX9_haltsFor_70 : decode cX9_haltsFor 70 = .ok (.iconst 0, 1) := by decide +kernel
theorem dX9_haltsFor_71 : decode cX9_haltsFor 71 = .ok (.istore 4, 2) := by decide +kernel
theorem dX9_haltsFor_73 : decode cX9_haltsFor 73 = .ok (.iconst 0, 1) := by decide +kernel
theorem dX9_haltsFor_74 : decode cX9_haltsFor 74 = .ok (.istore 5, 2) := by decide +kernel
theorem dX9_haltsFor_76 : decode cX9_haltsFor 76 = .ok (.iload 5, 2) := by decide +kernel
theorem dX9_haltsFor_78 : decode cX9_haltsFor 78 = .ok (.aload_n 0, 1) := by decide +kernel
theorem dX9_haltsFor_79 : decode cX9_haltsFor 79 = .ok (.getfield 13, 3) := by decide +kernel
theorem dX9_haltsFor_82 : decode cX9_haltsFor 82 = .ok (.iconst 0, 1) := by decide +kernel
theorem dX9_haltsFor_83 : decode cX9_haltsFor 83 = .ok (.iaload, 1) := by decide +kernel
theorem dX9_haltsFor_84 : decode cX9_haltsFor 84 = .ok (.if_icmp .ge 35, 3) := by decide +kernel
theorem dX9_haltsFor_87 : decode cX9_haltsFor 87 = .ok (.iload 4, 2) := by decide +kernel
theorem dX9_haltsFor_89 : decode cX9_haltsFor 89 = .ok (.iload_n 3, 1) := by decide +kernel
theorem dX9_haltsFor_90 : decode cX9_haltsFor 90 = .ok (.iload 5, 2) := by decide +kernel
theorem dX9_haltsFor_92 : decode cX9_haltsFor 92 = .ok (.ishr, 1) := by decide +kernel
theorem dX9_haltsFor_93 : decode cX9_haltsFor 93 = .ok (.iconst 1, 1) := by decide +kernel
theorem dX9_haltsFor_94 : decode cX9_haltsFor 94 = .ok (.iand, 1) := by decide +kernel
theorem dX9_haltsFor_95 : decode cX9_haltsFor 95 = .ok (.iconst 1, 1) := by decide +kernel
theorem dX9_haltsFor_96 : decode cX9_haltsFor 96 = .ok (.if_icmp .ne 13, 3) := by decide +kernel
theorem dX9_haltsFor_99 : decode cX9_haltsFor 99 = .ok (.aload_n 0, 1) := by decide +kernel
theorem dX9_haltsFor_100 : decode cX9_haltsFor 100 = .ok (.getfield 48, 3) := by decide +kernel
theorem dX9_haltsFor_103 : decode cX9_haltsFor 103 = .ok (.iload 5, 2) := by decide +kernel
theorem dX9_haltsFor_105 : decode cX9_haltsFor 105 = .ok (.iaload, 1) := by decide +kernel
theorem dX9_haltsFor_106 : decode cX9_haltsFor 106 = .ok (.goto 4, 3) := by decide +kernel
theorem dX9_haltsFor_109 : decode cX9_haltsFor 109 = .ok (.iconst 0, 1) := by decide +kernel
theorem dX9_haltsFor_110 : decode cX9_haltsFor 110 = .ok (.ior, 1) := by decide +kernel
theorem dX9_haltsFor_111 : decode cX9_haltsFor 111 = .ok (.istore 4, 2) := by decide +kernel
theorem dX9_haltsFor_113 : decode cX9_haltsFor 113 = .ok (.iinc 5 1, 3) := by decide +kernel
theorem dX9_haltsFor_116 : decode cX9_haltsFor 116 = .ok (.goto (-40), 3) := by decide +kernel
theorem dX9_haltsFor_119 : decode cX9_haltsFor 119 = .ok (.iload_n 1, 1) := by decide +kernel
theorem dX9_haltsFor_120 : decode cX9_haltsFor 120 = .ok (.iload 4, 2) := by decide +kernel
theorem dX9_haltsFor_122 : decode cX9_haltsFor 122 = .ok (.iconst (-1), 1) := by decide +kernel
theorem dX9_haltsFor_123 : decode cX9_haltsFor 123 = .ok (.ixor, 1) := by decide +kernel
theorem dX9_haltsFor_124 : decode cX9_haltsFor 124 = .ok (.iand, 1) := by decide +kernel
theorem dX9_haltsFor_125 : decode cX9_haltsFor 125 = .ok (.ifCond .ne 5, 3) := by decide +kernel
theorem dX9_haltsFor_128 : decode cX9_haltsFor 128 = .ok (.iload_n 3, 1) := by decide +kernel
theorem dX9_haltsFor_129 : decode cX9_haltsFor 129 = .ok (.istore_n 2, 1) := by decide +kernel
theorem dX9_haltsFor_130 : decode cX9_haltsFor 130 = .ok (.iinc 3 1, 3) := by decide +kernel
theorem dX9_haltsFor_133 : decode cX9_haltsFor 133 = .ok (.goto (-94), 3) := by decide +kernel
theorem dX9_haltsFor_136 : decode cX9_haltsFor 136 = .ok (.iload_n 2, 1) := by decide +kernel
theorem dX9_haltsFor_137 : decode cX9_haltsFor 137 = .ok (.ireturn, 1) := by decide +kernel
theorem dX9_halts_0 : decode cX9_halts 0 = .ok (.aload_n 0, 1) := by decide +kernel
theorem dX9_halts_1 : decode cX9_halts 1 = .ok (.iconst 0, 1) := by decide +kernel
theorem dX9_halts_2 : decode cX9_halts 2 = .ok (.putfield 1, 3) := by decide +kernel
theorem dX9_halts_5 : decode cX9_halts 5 = .ok (.aload_n 0, 1) := by decide +kernel
theorem dX9_halts_6 : decode cX9_halts 6 = .ok (.iload_n 1, 1) := by decide +kernel
theorem dX9_halts_7 : decode cX9_halts 7 = .ok (.invokevirtual 191, 3) := by decide +kernel
theorem dX9_halts_10 : decode cX9_halts 10 = .ok (.ifCond .eq 11, 3) := by decide +kernel
theorem dX9_halts_13 : decode cX9_halts 13 = .ok (.aload_n 0, 1) := by decide +kernel
theorem dX9_halts_14 : decode cX9_halts 14 = .ok (.iload_n 1, 1) := by decide +kernel
theorem dX9_halts_15 : decode cX9_halts 15 = .ok (.invokevirtual 294, 3) := by decide +kernel
theorem dX9_halts_18 : decode cX9_halts 18 = .ok (.goto 5, 3) := by decide +kernel
theorem dX9_halts_21 : decode cX9_halts 21 = .ok (.bipush (-3), 2) := by decide +kernel
theorem dX9_halts_23 : decode cX9_halts 23 = .ok (.ireturn, 1) := by decide +kernel
theorem dX9_tour_0 : decode cX9_tour 0 = .ok (.aload_n 0, 1) := by decide +kernel
theorem dX9_tour_1 : decode cX9_tour 1 = .ok (.iconst 0, 1) := by decide +kernel
theorem dX9_tour_2 : decode cX9_tour 2 = .ok (.putfield 1, 3) := by decide +kernel
theorem dX9_tour_5 : decode cX9_tour 5 = .ok (.aload_n 0, 1) := by decide +kernel
theorem dX9_tour_6 : decode cX9_tour 6 = .ok (.iload_n 1, 1) := by decide +kernel
theorem dX9_tour_7 : decode cX9_tour 7 = .ok (.invokevirtual 191, 3) := by decide +kernel
theorem dX9_tour_10 : decode cX9_tour 10 = .ok (.ifCond .ne 6, 3) := by decide +kernel
theorem dX9_tour_13 : decode cX9_tour 13 = .ok (.bipush (-3), 2) := by decide +kernel
theorem dX9_tour_15 : decode cX9_tour 15 = .ok (.ireturn, 1) := by decide +kernel
theorem dX9_tour_16 : decode cX9_tour 16 = .ok (.aload_n 0, 1) := by decide +kernel
theorem dX9_tour_17 : decode cX9_tour 17 = .ok (.iload_n 1, 1) := by decide +kernel
theorem dX9_tour_18 : decode cX9_tour 18 = .ok (.invokevirtual 294, 3) := by decide +kernel
theorem dX9_tour_21 : decode cX9_tour 21 = .ok (.istore_n 2, 1) := by decide +kernel
theorem dX9_tour_22 : decode cX9_tour 22 = .ok (.iload_n 2, 1) := by decide +kernel
theorem dX9_tour_23 : decode cX9_tour 23 = .ok (.ifCond .gt 5, 3) := by decide +kernel
theorem dX9_tour_26 : decode cX9_tour 26 = .ok (.iload_n 2, 1) := by decide +kernel
theorem dX9_tour_27 : decode cX9_tour 27 = .ok (.ireturn, 1) := by decide +kernel
theorem dX9_tour_28 : decode cX9_tour 28 = .ok (.iconst 0, 1) := by decide +kernel
theorem dX9_tour_29 : decode cX9_tour 29 = .ok (.istore_n 3, 1) := by decide +kernel
theorem dX9_tour_30 : decode cX9_tour 30 = .ok (.iload_n 2, 1) := by decide +kernel
theorem dX9_tour_31 : decode cX9_tour 31 = .ok (.iload_n 3, 1) := by decide +kernel
theorem dX9_tour_32 : decode cX9_tour 32 = .ok (.ishr, 1) := by decide +kernel
theorem dX9_tour_33 : decode cX9_tour 33 = .ok (.iconst 1, 1) := by decide +kernel
theorem dX9_tour_34 : decode cX9_tour 34 = .ok (.iand, 1) := by decide +kernel
theorem dX9_tour_35 : decode cX9_tour 35 = .ok (.ifCond .ne 9, 3) := by decide +kernel
theorem dX9_tour_38 : decode cX9_tour 38 = .ok (.iinc 3 1, 3) := by decide +kernel
theorem dX9_tour_41 : decode cX9_tour 41 = .ok (.goto (-11), 3) := by decide +kernel
theorem dX9_tour_44 : decode cX9_tour 44 = .ok (.bipush 16, 2) := by decide +kernel
theorem dX9_tour_46 : decode cX9_tour 46 = .ok (.istore 4, 2) := by decide +kernel
theorem dX9_tour_48 : decode cX9_tour 48 = .ok (.iload_n 2, 1) := by decide +kernel
theorem dX9_tour_49 : decode cX9_tour 49 = .ok (.iload 4, 2) := by decide +kernel
theorem dX9_tour_51 : decode cX9_tour 51 = .ok (.ishr, 1) := by decide +kernel
theorem dX9_tour_52 : decode cX9_tour 52 = .ok (.iconst 1, 1) := by decide +kernel
theorem dX9_tour_53 : decode cX9_tour 53 = .ok (.iand, 1) := by decide +kernel
theorem dX9_tour_54 : decode cX9_tour 54 = .ok (.ifCond .ne 9, 3) := by decide +kernel
theorem dX9_tour_57 : decode cX9_tour 57 = .ok (.iinc 4 (-1), 3) := by decide +kernel
theorem dX9_tour_60 : decode cX9_tour 60 = .ok (.goto (-12), 3) := by decide +kernel
theorem dX9_tour_63 : decode cX9_tour 63 = .ok (.aload_n 0, 1) := by decide +kernel
theorem dX9_tour_64 : decode cX9_tour 64 = .ok (.getfield 13, 3) := by decide +kernel
theorem dX9_tour_67 : decode cX9_tour 67 = .ok (.iconst 2, 1) := by decide +kernel
theorem dX9_tour_68 : decode cX9_tour 68 = .ok (.iaload, 1) := by decide +kernel
theorem dX9_tour_69 : decode cX9_tour 69 = .ok (.iload_n 3, 1) := by decide +kernel
theorem dX9_tour_70 : decode cX9_tour 70 = .ok (.invokestatic 158, 3) := by decide +kernel
theorem dX9_tour_73 : decode cX9_tour 73 = .ok (.istore 5, 2) := by decide +kernel
theorem dX9_tour_75 : decode cX9_tour 75 = .ok (.aload_n 0, 1) := by decide +kernel
theorem dX9_tour_76 : decode cX9_tour 76 = .ok (.getfield 13, 3) := by decide +kernel
theorem dX9_tour_79 : decode cX9_tour 79 = .ok (.iconst 2, 1) := by decide +kernel
theorem dX9_tour_80 : decode cX9_tour 80 = .ok (.iaload, 1) := by decide +kernel
theorem dX9_tour_81 : decode cX9_tour 81 = .ok (.iload 4, 2) := by decide +kernel
theorem dX9_tour_83 : decode cX9_tour 83 = .ok (.invokestatic 158, 3) := by decide +kernel
theorem dX9_tour_86 : decode cX9_tour 86 = .ok (.istore 6, 2) := by decide +kernel
theorem dX9_tour_88 : decode cX9_tour 88 = .ok (.iload 4, 2) := by decide +kernel
theorem dX9_tour_90 : decode cX9_tour 90 = .ok (.iload_n 3, 1) := by decide +kernel
theorem dX9_tour_91 : decode cX9_tour 91 = .ok (.isub, 1) := by decide +kernel
theorem dX9_tour_92 : decode cX9_tour 92 = .ok (.iload 5, 2) := by decide +kernel
theorem dX9_tour_94 : decode cX9_tour 94 = .ok (.iload 6, 2) := by decide +kernel
theorem dX9_tour_96 : decode cX9_tour 96 = .ok (.if_icmp .ge 8, 3) := by decide +kernel
theorem dX9_tour_99 : decode cX9_tour 99 = .ok (.iload 5, 2) := by decide +kernel
theorem dX9_tour_101 : decode cX9_tour 101 = .ok (.goto 5, 3) := by decide +kernel
theorem dX9_tour_104 : decode cX9_tour 104 = .ok (.iload 6, 2) := by decide +kernel
theorem dX9_tour_106 : decode cX9_tour 106 = .ok (.iadd, 1) := by decide +kernel
theorem dX9_tour_107 : decode cX9_tour 107 = .ok (.ireturn, 1) := by decide +kernel
theorem dX9_explains_0 : decode cX9_explains 0 = .ok (.iload_n 1, 1) := by decide +kernel
theorem dX9_explains_1 : decode cX9_explains 1 = .ok (.iload_n 2, 1) := by decide +kernel
theorem dX9_explains_2 : decode cX9_explains 2 = .ok (.if_icmp .ne 75, 3) := by decide +kernel
theorem dX9_explains_5 : decode cX9_explains 5 = .ok (.iconst 0, 1) := by decide +kernel
theorem dX9_explains_6 : decode cX9_explains 6 = .ok (.istore 4, 2) := by decide +kernel
theorem dX9_explains_8 : decode cX9_explains 8 = .ok (.iload 4, 2) := by decide +kernel
theorem dX9_explains_10 : decode cX9_explains 10 = .ok (.aload_n 0, 1) := by decide +kernel
theorem dX9_explains_11 : decode cX9_explains 11 = .ok (.getfield 13, 3) := by decide +kernel
theorem dX9_explains_14 : decode cX9_explains 14 = .ok (.iconst 0, 1) := by decide +kernel
theorem dX9_explains_15 : decode cX9_explains 15 = .ok (.iaload, 1) := by decide +kernel
theorem dX9_explains_16 : decode cX9_explains 16 = .ok (.if_icmp .ge 37, 3) := by decide +kernel
theorem dX9_explains_19 : decode cX9_explains 19 = .ok (.aload_n 0, 1) := by decide +kernel
theorem dX9_explains_20 : decode cX9_explains 20 = .ok (.getfield 13, 3) := by decide +kernel
theorem dX9_explains_23 : decode cX9_explains 23 = .ok (.bipush 16, 2) := by decide +kernel
theorem dX9_explains_25 : decode cX9_explains 25 = .ok (.iload 4, 2) := by decide +kernel
theorem dX9_explains_27 : decode cX9_explains 27 = .ok (.iadd, 1) := by decide +kernel
theorem dX9_explains_28 : decode cX9_explains 28 = .ok (.iaload, 1) := by decide +kernel
theorem dX9_explains_29 : decode cX9_explains 29 = .ok (.i2l, 1) := by decide +kernel
theorem dX9_explains_30 : decode cX9_explains 30 = .ok (.aload_n 0, 1) := by decide +kernel
theorem dX9_explains_31 : decode cX9_explains 31 = .ok (.getfield 57, 3) := by decide +kernel
theorem dX9_explains_34 : decode cX9_explains 34 = .ok (.bipush 40, 2) := by decide +kernel
theorem dX9_explains_36 : decode cX9_explains 36 = .ok (.iload_n 3, 1) := by decide +kernel
theorem dX9_explains_37 : decode cX9_explains 37 = .ok (.imul, 1) := by decide +kernel
theorem dX9_explains_38 : decode cX9_explains 38 = .ok (.iload 4, 2) := by decide +kernel
theorem dX9_explains_40 : decode cX9_explains 40 = .ok (.iadd, 1) := by decide +kernel
theorem dX9_explains_41 : decode cX9_explains 41 = .ok (.laload, 1) := by decide +kernel
theorem dX9_explains_42 : decode cX9_explains 42 = .ok (.lcmp, 1) := by decide +kernel
theorem dX9_explains_43 : decode cX9_explains 43 = .ok (.ifCond .eq 4, 3) := by decide +kernel
theorem dX9_explains_46 : decode cX9_explains 46 = .ok (.return_, 1) := by decide +kernel
theorem dX9_explains_47 : decode cX9_explains 47 = .ok (.iinc 4 1, 3) := by decide +kernel
theorem dX9_explains_50 : decode cX9_explains 50 = .ok (.goto (-42), 3) := by decide +kernel
theorem dX9_explains_53 : decode cX9_explains 53 = .ok (.aload_n 0, 1) := by decide +kernel
theorem dX9_explains_54 : decode cX9_explains 54 = .ok (.dup, 1) := by decide +kernel
theorem dX9_explains_55 : decode cX9_explains 55 = .ok (.getfield 297, 3) := by decide +kernel
theorem dX9_explains_58 : decode cX9_explains 58 = .ok (.iconst 1, 1) := by decide +kernel
theorem dX9_explains_59 : decode cX9_explains 59 = .ok (.iadd, 1) := by decide +kernel
theorem dX9_explains_60 : decode cX9_explains 60 = .ok (.putfield 297, 3) := by decide +kernel
theorem dX9_explains_63 : decode cX9_explains 63 = .ok (.aload_n 0, 1) := by decide +kernel
