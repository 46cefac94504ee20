theorem dX9_shifted_118 : decode cX9_shifted 118 = .ok (.iload 8, 2) := by decide +kernel
theorem dX9_shifted_120 : decode cX9_shifted 120 = .ok (.iadd, 1) := by decide +kernel
theorem dX9_shifted_121 : decode cX9_shifted 121 = .ok (.iaload, 1) := by decide +kernel
theorem dX9_shifted_122 : decode cX9_shifted 122 = .ok (.bipush 9, 2) := by decide +kernel
theorem dX9_shifted_124 : decode cX9_shifted 124 = .ok (.if_icmp .ne 6, 3) := by decide +kernel
theorem dX9_shifted_127 : decode cX9_shifted 127 = .ok (.goto 92, 3) := by decide +kernel
theorem dX9_shifted_130 : decode cX9_shifted 130 = .ok (.aload_n 0, 1) := by decide +kernel
theorem dX9_shifted_131 : decode cX9_shifted 131 = .ok (.getfield 13, 3) := by decide +kernel
theorem dX9_shifted_134 : decode cX9_shifted 134 = .ok (.bipush 32, 2) := by decide +kernel
theorem dX9_shifted_136 : decode cX9_shifted 136 = .ok (.iload 7, 2) := by decide +kernel
theorem dX9_shifted_138 : decode cX9_shifted 138 = .ok (.iadd, 1) := by decide +kernel
theorem dX9_shifted_139 : decode cX9_shifted 139 = .ok (.dup2, 1) := by decide +kernel
theorem dX9_shifted_140 : decode cX9_shifted 140 = .ok (.iaload, 1) := by decide +kernel
theorem dX9_shifted_141 : decode cX9_shifted 141 = .ok (.iconst 1, 1) := by decide +kernel
theorem dX9_shifted_142 : decode cX9_shifted 142 = .ok (.isub, 1) := by decide +kernel
theorem dX9_shifted_143 : decode cX9_shifted 143 = .ok (.iastore, 1) := by decide +kernel
theorem dX9_shifted_144 : decode cX9_shifted 144 = .ok (.aload_n 0, 1) := by decide +kernel
theorem dX9_shifted_145 : decode cX9_shifted 145 = .ok (.getfield 13, 3) := by decide +kernel
theorem dX9_shifted_148 : decode cX9_shifted 148 = .ok (.bipush 32, 2) := by decide +kernel
theorem dX9_shifted_150 : decode cX9_shifted 150 = .ok (.iload 8, 2) := by decide +kernel
theorem dX9_shifted_152 : decode cX9_shifted 152 = .ok (.iadd, 1) := by decide +kernel
theorem dX9_shifted_153 : decode cX9_shifted 153 = .ok (.dup2, 1) := by decide +kernel
theorem dX9_shifted_154 : decode cX9_shifted 154 = .ok (.iaload, 1) := by decide +kernel
theorem dX9_shifted_155 : decode cX9_shifted 155 = .ok (.iconst 1, 1) := by decide +kernel
theorem dX9_shifted_156 : decode cX9_shifted 156 = .ok (.iadd, 1) := by decide +kernel
theorem dX9_shifted_157 : decode cX9_shifted 157 = .ok (.iastore, 1) := by decide +kernel
theorem dX9_shifted_158 : decode cX9_shifted 158 = .ok (.aload_n 0, 1) := by decide +kernel
theorem dX9_shifted_159 : decode cX9_shifted 159 = .ok (.iconst 0, 1) := by decide +kernel
theorem dX9_shifted_160 : decode cX9_shifted 160 = .ok (.iconst 0, 1) := by decide +kernel
theorem dX9_shifted_161 : decode cX9_shifted 161 = .ok (.iload_n 1, 1) := by decide +kernel
theorem dX9_shifted_162 : decode cX9_shifted 162 = .ok (.invokevirtual 269, 3) := by decide +kernel
theorem dX9_shifted_165 : decode cX9_shifted 165 = .ok (.iload_n 3, 1) := by decide +kernel
theorem dX9_shifted_166 : decode cX9_shifted 166 = .ok (.isub, 1) := by decide +kernel
theorem dX9_shifted_167 : decode cX9_shifted 167 = .ok (.istore 9, 2) := by decide +kernel
theorem dX9_shifted_169 : decode cX9_shifted 169 = .ok (.aload_n 0, 1) := by decide +kernel
theorem dX9_shifted_170 : decode cX9_shifted 170 = .ok (.getfield 13, 3) := by decide +kernel
theorem dX9_shifted_173 : decode cX9_shifted 173 = .ok (.bipush 32, 2) := by decide +kernel
theorem dX9_shifted_175 : decode cX9_shifted 175 = .ok (.iload 7, 2) := by decide +kernel
theorem dX9_shifted_177 : decode cX9_shifted 177 = .ok (.iadd, 1) := by decide +kernel
theorem dX9_shifted_178 : decode cX9_shifted 178 = .ok (.dup2, 1) := by decide +kernel
theorem dX9_shifted_179 : decode cX9_shifted 179 = .ok (.iaload, 1) := by decide +kernel
theorem dX9_shifted_180 : decode cX9_shifted 180 = .ok (.iconst 1, 1) := by decide +kernel
theorem dX9_shifted_181 : decode cX9_shifted 181 = .ok (.iadd, 1) := by decide +kernel
theorem dX9_shifted_182 : decode cX9_shifted 182 = .ok (.iastore, 1) := by decide +kernel
theorem dX9_shifted_183 : decode cX9_shifted 183 = .ok (.aload_n 0, 1) := by decide +kernel
theorem dX9_shifted_184 : decode cX9_shifted 184 = .ok (.getfield 13, 3) := by decide +kernel
theorem dX9_shifted_187 : decode cX9_shifted 187 = .ok (.bipush 32, 2) := by decide +kernel
theorem dX9_shifted_189 : decode cX9_shifted 189 = .ok (.iload 8, 2) := by decide +kernel
theorem dX9_shifted_191 : decode cX9_shifted 191 = .ok (.iadd, 1) := by decide +kernel
theorem dX9_shifted_192 : decode cX9_shifted 192 = .ok (.dup2, 1) := by decide +kernel
theorem dX9_shifted_193 : decode cX9_shifted 193 = .ok (.iaload, 1) := by decide +kernel
theorem dX9_shifted_194 : decode cX9_shifted 194 = .ok (.iconst 1, 1) := by decide +kernel
theorem dX9_shifted_195 : decode cX9_shifted 195 = .ok (.isub, 1) := by decide +kernel
theorem dX9_shifted_196 : decode cX9_shifted 196 = .ok (.iastore, 1) := by decide +kernel
theorem dX9_shifted_197 : decode cX9_shifted 197 = .ok (.iload 9, 2) := by decide +kernel
theorem dX9_shifted_199 : decode cX9_shifted 199 = .ok (.iload 4, 2) := by decide +kernel
theorem dX9_shifted_201 : decode cX9_shifted 201 = .ok (.if_icmp .gt 6, 3) := by decide +kernel
theorem dX9_shifted_204 : decode cX9_shifted 204 = .ok (.goto 15, 3) := by decide +kernel
theorem dX9_shifted_207 : decode cX9_shifted 207 = .ok (.iload 9, 2) := by decide +kernel
theorem dX9_shifted_209 : decode cX9_shifted 209 = .ok (.istore 4, 2) := by decide +kernel
theorem dX9_shifted_211 : decode cX9_shifted 211 = .ok (.iload 7, 2) := by decide +kernel
theorem dX9_shifted_213 : decode cX9_shifted 213 = .ok (.istore 5, 2) := by decide +kernel
theorem dX9_shifted_215 : decode cX9_shifted 215 = .ok (.iload 8, 2) := by decide +kernel
theorem dX9_shifted_217 : decode cX9_shifted 217 = .ok (.istore 6, 2) := by decide +kernel
theorem dX9_shifted_219 : decode cX9_shifted 219 = .ok (.iinc 8 1, 3) := by decide +kernel
theorem dX9_shifted_222 : decode cX9_shifted 222 = .ok (.goto (-141), 3) := by decide +kernel
theorem dX9_shifted_225 : decode cX9_shifted 225 = .ok (.iinc 7 1, 3) := by decide +kernel
theorem dX9_shifted_228 : decode cX9_shifted 228 = .ok (.goto (-161), 3) := by decide +kernel
theorem dX9_shifted_231 : decode cX9_shifted 231 = .ok (.iload_n 2, 1) := by decide +kernel
theorem dX9_shifted_232 : decode cX9_shifted 232 = .ok (.ifCond .ne 8, 3) := by decide +kernel
theorem dX9_shifted_235 : decode cX9_shifted 235 = .ok (.iload 4, 2) := by decide +kernel
theorem dX9_shifted_237 : decode cX9_shifted 237 = .ok (.goto 15, 3) := by decide +kernel
theorem dX9_shifted_240 : decode cX9_shifted 240 = .ok (.iload_n 2, 1) := by decide +kernel
theorem dX9_shifted_241 : decode cX9_shifted 241 = .ok (.iconst 1, 1) := by decide +kernel
theorem dX9_shifted_242 : decode cX9_shifted 242 = .ok (.if_icmp .ne 8, 3) := by decide +kernel
theorem dX9_shifted_245 : decode cX9_shifted 245 = .ok (.iload 5, 2) := by decide +kernel
theorem dX9_shifted_247 : decode cX9_shifted 247 = .ok (.goto 5, 3) := by decide +kernel
theorem dX9_shifted_250 : decode cX9_shifted 250 = .ok (.iload 6, 2) := by decide +kernel
theorem dX9_shifted_252 : decode cX9_shifted 252 = .ok (.ireturn, 1) := by decide +kernel
theorem dX9_felled_0 : decode cX9_felled 0 = .ok (.aload_n 0, 1) := by decide +kernel
theorem dX9_felled_1 : decode cX9_felled 1 = .ok (.iconst 0, 1) := by decide +kernel
theorem dX9_felled_2 : decode cX9_felled 2 = .ok (.putfield 1, 3) := by decide +kernel
theorem dX9_felled_5 : decode cX9_felled 5 = .ok (.iload_n 2, 1) := by decide +kernel
theorem dX9_felled_6 : decode cX9_felled 6 = .ok (.i2l, 1) := by decide +kernel
theorem dX9_felled_7 : decode cX9_felled 7 = .ok (.lconst 0, 1) := by decide +kernel
theorem dX9_felled_8 : decode cX9_felled 8 = .ok (.lconst 1, 1) := by decide +kernel
theorem dX9_felled_9 : decode cX9_felled 9 = .ok (.invokestatic 128, 3) := by decide +kernel
theorem dX9_felled_12 : decode cX9_felled 12 = .ok (.ifCond .ne 6, 3) := by decide +kernel
theorem dX9_felled_15 : decode cX9_felled 15 = .ok (.bipush (-2), 2) := by decide +kernel
theorem dX9_felled_17 : decode cX9_felled 17 = .ok (.ireturn, 1) := by decide +kernel
theorem dX9_felled_18 : decode cX9_felled 18 = .ok (.iload_n 1, 1) := by decide +kernel
theorem dX9_felled_19 : decode cX9_felled 19 = .ok (.i2l, 1) := by decide +kernel
theorem dX9_felled_20 : decode cX9_felled 20 = .ok (.lconst 1, 1) := by decide +kernel
theorem dX9_felled_21 : decode cX9_felled 21 = .ok (.ldc2_w 276, 3) := by decide +kernel
theorem dX9_felled_24 : decode cX9_felled 24 = .ok (.invokestatic 128, 3) := by decide +kernel
theorem dX9_felled_27 : decode cX9_felled 27 = .ok (.ifCond .ne 6, 3) := by decide +kernel
theorem dX9_felled_30 : decode cX9_felled 30 = .ok (.bipush (-3), 2) := by decide +kernel
theorem dX9_felled_32 : decode cX9_felled 32 = .ok (.ireturn, 1) := by decide +kernel
theorem dX9_felled_33 : decode cX9_felled 33 = .ok (.aload_n 0, 1) := by decide +kernel
theorem dX9_felled_34 : decode cX9_felled 34 = .ok (.getfield 13, 3) := by decide +kernel
theorem dX9_felled_37 : decode cX9_felled 37 = .ok (.iconst 0, 1) := by decide +kernel
theorem dX9_felled_38 : decode cX9_felled 38 = .ok (.iaload, 1) := by decide +kernel
theorem dX9_felled_39 : decode cX9_felled 39 = .ok (.ifCond .ne 6, 3) := by decide +kernel
theorem dX9_felled_42 : decode cX9_felled 42 = .ok (.bipush (-5), 2) := by decide +kernel
theorem dX9_felled_44 : decode cX9_felled 44 = .ok (.ireturn, 1) := by decide +kernel
theorem dX9_felled_45 : decode cX9_felled 45 = .ok (.aload_n 0, 1) := by decide +kernel
theorem dX9_felled_46 : decode cX9_felled 46 = .ok (.iconst 0, 1) := by decide +kernel
theorem dX9_felled_47 : decode cX9_felled 47 = .ok (.iconst 0, 1) := by decide +kernel
theorem dX9_felled_48 : decode cX9_felled 48 = .ok (.iload_n 1, 1) := by decide +kernel
theorem dX9_felled_49 : decode cX9_felled 49 = .ok (.invokevirtual 269, 3) := by decide +kernel
theorem dX9_felled_52 : decode cX9_felled 52 = .ok (.istore_n 3, 1) := by decide +kernel
theorem dX9_felled_53 : decode cX9_felled 53 = .ok (.iconst 0, 1) := by decide +kernel
theorem dX9_felled_54 : decode cX9_felled 54 = .ok (.istore 4, 2) := by decide +kernel
theorem dX9_felled_56 : decode cX9_felled 56 = .ok (.iconst (-1), 1) := by decide +kernel
theorem dX9_felled_57 : decode cX9_felled 57 = .ok (.istore 5, 2) := by decide +kernel
theorem dX9_felled_59 : decode cX9_felled 59 = .ok (.iconst 0, 1) := by decide +kernel
theorem dX9_felled_60 : decode cX9_felled 60 = .ok (.istore 6, 2) := by decide +kernel
theorem dX9_felled_62 : decode cX9_felled 62 = .ok (.iload 6, 2) := by decide +kernel
theorem dX9_felled_64 : decode cX9_felled 64 = .ok (.aload_n 0, 1) := by decide +kernel
theorem dX9_felled_65 : decode cX9_felled 65 = .ok (.getfield 13, 3) := by decide +kernel
theorem dX9_felled_68 : decode cX9_felled 68 = .ok (.iconst 0, 1) := by decide +kernel
theorem dX9_felled_69 : decode cX9_felled 69 = .ok (.iaload, 1) := by decide +kernel
theorem dX9_felled_70 : decode cX9_felled 70 = .ok (.if_icmp .ge 81, 3) := by decide +kernel
theorem dX9_felled_73 : decode cX9_felled 73 = .ok (.aload_n 0, 1) := by decide +kernel
theorem dX9_felled_74 : decode cX9_felled 74 = .ok (.getfield 13, 3) := by decide +kernel
theorem dX9_felled_77 : decode cX9_felled 77 = .ok (.bipush 48, 2) := by decide +kernel
theorem dX9_felled_79 : decode cX9_felled 79 = .ok (.iload 6, 2) := by decide +kernel
theorem dX9_felled_81 : decode cX9_felled 81 = .ok (.iadd, 1) := by decide +kernel
theorem dX9_felled_82 : decode cX9_felled 82 = .ok (.iaload, 1) := by decide +kernel
theorem dX9_felled_83 : decode cX9_felled 83 = .ok (.istore 7, 2) := by decide +kernel
theorem dX9_felled_85 : decode cX9_felled 85 = .ok (.iload 7, 2) := by decide +kernel
theorem dX9_felled_87 : decode cX9_felled 87 = .ok (.ifCond .ne 6, 3) := by decide +kernel
theorem dX9_felled_90 : decode cX9_felled 90 = .ok (.goto 55, 3) := by decide +kernel
theorem dX9_felled_93 : decode cX9_felled 93 = .ok (.aload_n 0, 1) := by decide +kernel
theorem dX9_felled_94 : decode cX9_felled 94 = .ok (.getfield 13, 3) := by decide +kernel
theorem dX9_felled_97 : decode cX9_felled 97 = .ok (.bipush 48, 2) := by decide +kernel
theorem dX9_felled_99 : decode cX9_felled 99 = .ok (.iload 6, 2) := by decide +kernel
theorem dX9_felled_101 : decode cX9_felled 101 = .ok (.iadd, 1) := by decide +kernel
theorem dX9_felled_102 : decode cX9_felled 102 = .ok (.iconst 0, 1) := by decide +kernel
theorem dX9_felled_103 : decode cX9_felled 103 = .ok (.iastore, 1) := by decide +kernel
theorem dX9_felled_104 : decode cX9_felled 104 = .ok (.aload_n 0, 1) := by decide +kernel
theorem dX9_felled_105 : decode cX9_felled 105 = .ok (.iconst 0, 1) := by decide +kernel
theorem dX9_felled_106 : decode cX9_felled 106 = .ok (.iconst 0, 1) := by decide +kernel
theorem dX9_felled_107 : decode cX9_felled 107 = .ok (.iload_n 1, 1) := by decide +kernel
theorem dX9_felled_108 : decode cX9_felled 108 = .ok (.invokevirtual 269, 3) := by decide +kernel
theorem dX9_felled_111 : decode cX9_felled 111 = .ok (.iload_n 3, 1) := by decide +kernel
theorem dX9_felled_112 : decode cX9_felled 112 = .ok (.isub, 1) := by decide +kernel
theorem dX9_felled_113 : decode cX9_felled 113 = .ok (.istore 8, 2) := by decide +kernel
theorem dX9_felled_115 : decode cX9_felled 115 = .ok (.aload_n 0, 1) := by decide +kernel
theorem dX9_felled_116 : decode cX9_felled 116 = .ok (.getfield 13, 3) := by decide +kernel
theorem dX9_felled_119 : decode cX9_felled 119 = .ok (.bipush 48, 2) := by decide +kernel
theorem dX9_felled_121 : decode cX9_felled 121 = .ok (.iload 6, 2) := by decide +kernel
theorem dX9_felled_123 : decode cX9_felled 123 = .ok (.iadd, 1) := by decide +kernel
theorem dX9_felled_124 : decode cX9_felled 124 = .ok (.iload 7, 2) := by decide +kernel
theorem dX9_felled_126 : decode cX9_felled 126 = .ok (.iastore, 1) := by decide +kernel
theorem dX9_felled_127 : decode cX9_felled 127 = .ok (.iload 8, 2) := by decide +kernel
theorem dX9_felled_129 : decode cX9_felled 129 = .ok (.iload 4, 2) := by decide +kernel
theorem dX9_felled_131 : decode cX9_felled 131 = .ok (.if_icmp .gt 6, 3) := by decide +kernel
theorem dX9_felled_134 : decode cX9_felled 134 = .ok (.goto 11, 3) := by decide +kernel
theorem dX9_felled_137 : decode cX9_felled 137 = .ok (.iload 8, 2) := by decide +kernel
theorem dX9_felled_139 : decode cX9_felled 139 = .ok (.istore 4, 2) := by decide +kernel
theorem dX9_felled_141 : decode cX9_felled 141 = .ok (.iload 6, 2) := by decide +kernel
theorem dX9_felled_143 : decode cX9_felled 143 = .ok (.istore 5, 2) := by decide +kernel
theorem dX9_felled_145 : decode cX9_felled 145 = .ok (.iinc 6 1, 3) := by decide +kernel
theorem dX9_felled_148 : decode cX9_felled 148 = .ok (.goto (-86), 3) := by decide +kernel
theorem dX9_felled_151 : decode cX9_felled 151 = .ok (.iload_n 2, 1) := by decide +kernel
theorem dX9_felled_152 : decode cX9_felled 152 = .ok (.ifCond .ne 8, 3) := by decide +kernel
theorem dX9_felled_155 : decode cX9_felled 155 = .ok (.iload 4, 2) := by decide +kernel
theorem dX9_felled_157 : decode cX9_felled 157 = .ok (.goto 5, 3) := by decide +kernel
theorem dX9_felled_160 : decode cX9_felled 160 = .ok (.iload 5, 2) := by decide +kernel
theorem dX9_felled_162 : decode cX9_felled 162 = .ok (.ireturn, 1) := by decide +kernel
theorem dX9_soonest_0 : decode cX9_soonest 0 = .ok (.aload_n 0, 1) := by decide +kernel
theorem dX9_soonest_1 : decode cX9_soonest 1 = .ok (.iconst 0, 1) := by decide +kernel
theorem dX9_soonest_2 : decode cX9_soonest 2 = .ok (.putfield 1, 3) := by decide +kernel
theorem dX9_soonest_5 : decode cX9_soonest 5 = .ok (.iload_n 1, 1) := by decide +kernel
theorem dX9_soonest_6 : decode cX9_soonest 6 = .ok (.i2l, 1) := by decide +kernel
theorem dX9_soonest_7 : decode cX9_soonest 7 = .ok (.lconst 0, 1) := by decide +kernel
theorem dX9_soonest_8 : decode cX9_soonest 8 = .ok (.ldc2_w 278, 3) := by decide +kernel
theorem dX9_soonest_11 : decode cX9_soonest 11 = .ok (.invokestatic 128, 3) := by decide +kernel
theorem dX9_soonest_14 : decode cX9_soonest 14 = .ok (.ifCond .ne 6, 3) := by decide +kernel
theorem dX9_soonest_17 : decode cX9_soonest 17 = .ok (.bipush (-3), 2) := by decide +kernel
theorem dX9_soonest_19 : decode cX9_soonest 19 = .ok (.ireturn, 1) := by decide +kernel
theorem dX9_soonest_20 : decode cX9_soonest 20 = .ok (.aload_n 0, 1) := by decide +kernel
theorem dX9_soonest_21 : decode cX9_soonest 21 = .ok (.getfield 13, 3) := by decide +kernel
theorem dX9_soonest_24 : decode cX9_soonest 24 = .ok (.iconst 0, 1) := by decide +kernel
theorem dX9_soonest_25 : decode cX9_soonest 25 = .ok (.iaload, 1) := by decide +kernel
theorem dX9_soonest_26 : decode cX9_soonest 26 = .ok (.ifCond .ne 6, 3) := by decide +kernel
theorem dX9_soonest_29 : decode cX9_soonest 29 = .ok (.bipush (-5), 2) := by decide +kernel
theorem dX9_soonest_31 : decode cX9_soonest 31 = .ok (.ireturn, 1) := by decide +kernel
theorem dX9_soonest_32 : decode cX9_soonest 32 = .ok (.iconst 0, 1) := by decide +kernel
theorem dX9_soonest_33 : decode cX9_soonest 33 = .ok (.istore_n 2, 1) := by decide +kernel
theorem dX9_soonest_34 : decode cX9_soonest 34 = .ok (.iload_n 2, 1) := by decide +kernel
theorem dX9_soonest_35 : decode cX9_soonest 35 = .ok (.bipush 8, 2) := by decide +kernel
theorem dX9_soonest_37 : decode cX9_soonest 37 = .ok (.if_icmp .gt 22, 3) := by decide +kernel
theorem dX9_soonest_40 : decode cX9_soonest 40 = .ok (.aload_n 0, 1) := by decide +kernel
theorem dX9_soonest_41 : decode cX9_soonest 41 = .ok (.iconst 0, 1) := by decide +kernel
theorem dX9_soonest_42 : decode cX9_soonest 42 = .ok (.iconst 0, 1) := by decide +kernel
theorem dX9_soonest_43 : decode cX9_soonest 43 = .ok (.iload_n 2, 1) := by decide +kernel
theorem dX9_soonest_44 : decode cX9_soonest 44 = .ok (.invokevirtual 269, 3) := by decide +kernel
theorem dX9_soonest_47 : decode cX9_soonest 47 = .ok (.iload_n 1, 1) := by decide +kernel
