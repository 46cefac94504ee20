theorem dX9_next_2 : decode cX9_next 2 = .ok (.getfield 89, 3) := by decide +kernel
theorem dX9_next_5 : decode cX9_next 5 = .ok (.putfield 86, 3) := by decide +kernel
theorem dX9_next_8 : decode cX9_next 8 = .ok (.aload_n 0, 1) := by decide +kernel
theorem dX9_next_9 : decode cX9_next 9 = .ok (.aload_n 0, 1) := by decide +kernel
theorem dX9_next_10 : decode cX9_next 10 = .ok (.getfield 86, 3) := by decide +kernel
theorem dX9_next_13 : decode cX9_next 13 = .ok (.invokevirtual 92, 3) := by decide +kernel
theorem dX9_next_16 : decode cX9_next 16 = .ok (.bipush 10, 2) := by decide +kernel
theorem dX9_next_18 : decode cX9_next 18 = .ok (.if_icmp .eq 16, 3) := by decide +kernel
theorem dX9_next_21 : decode cX9_next 21 = .ok (.aload_n 0, 1) := by decide +kernel
theorem dX9_next_22 : decode cX9_next 22 = .ok (.aload_n 0, 1) := by decide +kernel
theorem dX9_next_23 : decode cX9_next 23 = .ok (.getfield 86, 3) := by decide +kernel
theorem dX9_next_26 : decode cX9_next 26 = .ok (.invokevirtual 92, 3) := by decide +kernel
theorem dX9_next_29 : decode cX9_next 29 = .ok (.bipush 32, 2) := by decide +kernel
theorem dX9_next_31 : decode cX9_next 31 = .ok (.if_icmp .ne 16, 3) := by decide +kernel
theorem dX9_next_34 : decode cX9_next 34 = .ok (.aload_n 0, 1) := by decide +kernel
theorem dX9_next_35 : decode cX9_next 35 = .ok (.dup, 1) := by decide +kernel
theorem dX9_next_36 : decode cX9_next 36 = .ok (.getfield 86, 3) := by decide +kernel
theorem dX9_next_39 : decode cX9_next 39 = .ok (.iconst 1, 1) := by decide +kernel
theorem dX9_next_40 : decode cX9_next 40 = .ok (.iadd, 1) := by decide +kernel
theorem dX9_next_41 : decode cX9_next 41 = .ok (.putfield 86, 3) := by decide +kernel
theorem dX9_next_44 : decode cX9_next 44 = .ok (.goto (-36), 3) := by decide +kernel
theorem dX9_next_47 : decode cX9_next 47 = .ok (.aload_n 0, 1) := by decide +kernel
theorem dX9_next_48 : decode cX9_next 48 = .ok (.aload_n 0, 1) := by decide +kernel
theorem dX9_next_49 : decode cX9_next 49 = .ok (.getfield 86, 3) := by decide +kernel
theorem dX9_next_52 : decode cX9_next 52 = .ok (.putfield 89, 3) := by decide +kernel
theorem dX9_next_55 : decode cX9_next 55 = .ok (.aload_n 0, 1) := by decide +kernel
theorem dX9_next_56 : decode cX9_next 56 = .ok (.getfield 86, 3) := by decide +kernel
theorem dX9_next_59 : decode cX9_next 59 = .ok (.aload_n 0, 1) := by decide +kernel
theorem dX9_next_60 : decode cX9_next 60 = .ok (.getfield 71, 3) := by decide +kernel
theorem dX9_next_63 : decode cX9_next 63 = .ok (.if_icmp .lt 12, 3) := by decide +kernel
theorem dX9_next_66 : decode cX9_next 66 = .ok (.aload_n 0, 1) := by decide +kernel
theorem dX9_next_67 : decode cX9_next 67 = .ok (.bipush 16, 2) := by decide +kernel
theorem dX9_next_69 : decode cX9_next 69 = .ok (.putfield 96, 3) := by decide +kernel
theorem dX9_next_72 : decode cX9_next 72 = .ok (.goto 198, 3) := by decide +kernel
theorem dX9_next_75 : decode cX9_next 75 = .ok (.aload_n 0, 1) := by decide +kernel
theorem dX9_next_76 : decode cX9_next 76 = .ok (.aload_n 0, 1) := by decide +kernel
theorem dX9_next_77 : decode cX9_next 77 = .ok (.getfield 86, 3) := by decide +kernel
theorem dX9_next_80 : decode cX9_next 80 = .ok (.invokevirtual 92, 3) := by decide +kernel
theorem dX9_next_83 : decode cX9_next 83 = .ok (.invokestatic 99, 3) := by decide +kernel
theorem dX9_next_86 : decode cX9_next 86 = .ok (.ifCond .eq 41, 3) := by decide +kernel
theorem dX9_next_89 : decode cX9_next 89 = .ok (.aload_n 0, 1) := by decide +kernel
theorem dX9_next_90 : decode cX9_next 90 = .ok (.aload_n 0, 1) := by decide +kernel
theorem dX9_next_91 : decode cX9_next 91 = .ok (.getfield 89, 3) := by decide +kernel
theorem dX9_next_94 : decode cX9_next 94 = .ok (.invokevirtual 92, 3) := by decide +kernel
theorem dX9_next_97 : decode cX9_next 97 = .ok (.invokestatic 99, 3) := by decide +kernel
theorem dX9_next_100 : decode cX9_next 100 = .ok (.ifCond .eq 16, 3) := by decide +kernel
theorem dX9_next_103 : decode cX9_next 103 = .ok (.aload_n 0, 1) := by decide +kernel
theorem dX9_next_104 : decode cX9_next 104 = .ok (.dup, 1) := by decide +kernel
theorem dX9_next_105 : decode cX9_next 105 = .ok (.getfield 89, 3) := by decide +kernel
theorem dX9_next_108 : decode cX9_next 108 = .ok (.iconst 1, 1) := by decide +kernel
theorem dX9_next_109 : decode cX9_next 109 = .ok (.iadd, 1) := by decide +kernel
theorem dX9_next_110 : decode cX9_next 110 = .ok (.putfield 89, 3) := by decide +kernel
theorem dX9_next_113 : decode cX9_next 113 = .ok (.goto (-24), 3) := by decide +kernel
theorem dX9_next_116 : decode cX9_next 116 = .ok (.aload_n 0, 1) := by decide +kernel
theorem dX9_next_117 : decode cX9_next 117 = .ok (.aload_n 0, 1) := by decide +kernel
theorem dX9_next_118 : decode cX9_next 118 = .ok (.invokevirtual 103, 3) := by decide +kernel
theorem dX9_next_121 : decode cX9_next 121 = .ok (.putfield 96, 3) := by decide +kernel
theorem dX9_next_124 : decode cX9_next 124 = .ok (.goto 146, 3) := by decide +kernel
theorem dX9_next_127 : decode cX9_next 127 = .ok (.aload_n 0, 1) := by decide +kernel
theorem dX9_next_128 : decode cX9_next 128 = .ok (.aload_n 0, 1) := by decide +kernel
theorem dX9_next_129 : decode cX9_next 129 = .ok (.getfield 86, 3) := by decide +kernel
theorem dX9_next_132 : decode cX9_next 132 = .ok (.invokevirtual 92, 3) := by decide +kernel
theorem dX9_next_135 : decode cX9_next 135 = .ok (.invokestatic 106, 3) := by decide +kernel
theorem dX9_next_138 : decode cX9_next 138 = .ok (.ifCond .eq 98, 3) := by decide +kernel
theorem dX9_next_141 : decode cX9_next 141 = .ok (.aload_n 0, 1) := by decide +kernel
theorem dX9_next_142 : decode cX9_next 142 = .ok (.iconst 0, 1) := by decide +kernel
theorem dX9_next_143 : decode cX9_next 143 = .ok (.putfield 109, 3) := by decide +kernel
theorem dX9_next_146 : decode cX9_next 146 = .ok (.aload_n 0, 1) := by decide +kernel
theorem dX9_next_147 : decode cX9_next 147 = .ok (.aload_n 0, 1) := by decide +kernel
theorem dX9_next_148 : decode cX9_next 148 = .ok (.getfield 89, 3) := by decide +kernel
theorem dX9_next_151 : decode cX9_next 151 = .ok (.invokevirtual 92, 3) := by decide +kernel
theorem dX9_next_154 : decode cX9_next 154 = .ok (.invokestatic 106, 3) := by decide +kernel
theorem dX9_next_157 : decode cX9_next 157 = .ok (.ifCond .eq 52, 3) := by decide +kernel
theorem dX9_next_160 : decode cX9_next 160 = .ok (.aload_n 0, 1) := by decide +kernel
theorem dX9_next_161 : decode cX9_next 161 = .ok (.getfield 89, 3) := by decide +kernel
theorem dX9_next_164 : decode cX9_next 164 = .ok (.aload_n 0, 1) := by decide +kernel
theorem dX9_next_165 : decode cX9_next 165 = .ok (.getfield 86, 3) := by decide +kernel
theorem dX9_next_168 : decode cX9_next 168 = .ok (.isub, 1) := by decide +kernel
theorem dX9_next_169 : decode cX9_next 169 = .ok (.iconst 3, 1) := by decide +kernel
theorem dX9_next_170 : decode cX9_next 170 = .ok (.if_icmp .ge 26, 3) := by decide +kernel
theorem dX9_next_173 : decode cX9_next 173 = .ok (.aload_n 0, 1) := by decide +kernel
theorem dX9_next_174 : decode cX9_next 174 = .ok (.bipush 10, 2) := by decide +kernel
theorem dX9_next_176 : decode cX9_next 176 = .ok (.aload_n 0, 1) := by decide +kernel
theorem dX9_next_177 : decode cX9_next 177 = .ok (.getfield 109, 3) := by decide +kernel
theorem dX9_next_180 : decode cX9_next 180 = .ok (.imul, 1) := by decide +kernel
theorem dX9_next_181 : decode cX9_next 181 = .ok (.aload_n 0, 1) := by decide +kernel
theorem dX9_next_182 : decode cX9_next 182 = .ok (.aload_n 0, 1) := by decide +kernel
theorem dX9_next_183 : decode cX9_next 183 = .ok (.getfield 89, 3) := by decide +kernel
theorem dX9_next_186 : decode cX9_next 186 = .ok (.invokevirtual 92, 3) := by decide +kernel
theorem dX9_next_189 : decode cX9_next 189 = .ok (.iadd, 1) := by decide +kernel
theorem dX9_next_190 : decode cX9_next 190 = .ok (.bipush 48, 2) := by decide +kernel
theorem dX9_next_192 : decode cX9_next 192 = .ok (.isub, 1) := by decide +kernel
theorem dX9_next_193 : decode cX9_next 193 = .ok (.putfield 109, 3) := by decide +kernel
theorem dX9_next_196 : decode cX9_next 196 = .ok (.aload_n 0, 1) := by decide +kernel
theorem dX9_next_197 : decode cX9_next 197 = .ok (.dup, 1) := by decide +kernel
theorem dX9_next_198 : decode cX9_next 198 = .ok (.getfield 89, 3) := by decide +kernel
theorem dX9_next_201 : decode cX9_next 201 = .ok (.iconst 1, 1) := by decide +kernel
theorem dX9_next_202 : decode cX9_next 202 = .ok (.iadd, 1) := by decide +kernel
theorem dX9_next_203 : decode cX9_next 203 = .ok (.putfield 89, 3) := by decide +kernel
theorem dX9_next_206 : decode cX9_next 206 = .ok (.goto (-60), 3) := by decide +kernel
theorem dX9_next_209 : decode cX9_next 209 = .ok (.aload_n 0, 1) := by decide +kernel
theorem dX9_next_210 : decode cX9_next 210 = .ok (.aload_n 0, 1) := by decide +kernel
theorem dX9_next_211 : decode cX9_next 211 = .ok (.getfield 89, 3) := by decide +kernel
theorem dX9_next_214 : decode cX9_next 214 = .ok (.aload_n 0, 1) := by decide +kernel
theorem dX9_next_215 : decode cX9_next 215 = .ok (.getfield 86, 3) := by decide +kernel
theorem dX9_next_218 : decode cX9_next 218 = .ok (.isub, 1) := by decide +kernel
theorem dX9_next_219 : decode cX9_next 219 = .ok (.iconst 3, 1) := by decide +kernel
theorem dX9_next_220 : decode cX9_next 220 = .ok (.if_icmp .le 8, 3) := by decide +kernel
theorem dX9_next_223 : decode cX9_next 223 = .ok (.bipush 17, 2) := by decide +kernel
theorem dX9_next_225 : decode cX9_next 225 = .ok (.goto 5, 3) := by decide +kernel
theorem dX9_next_228 : decode cX9_next 228 = .ok (.bipush 14, 2) := by decide +kernel
theorem dX9_next_230 : decode cX9_next 230 = .ok (.putfield 96, 3) := by decide +kernel
theorem dX9_next_233 : decode cX9_next 233 = .ok (.goto 37, 3) := by decide +kernel
theorem dX9_next_236 : decode cX9_next 236 = .ok (.aload_n 0, 1) := by decide +kernel
theorem dX9_next_237 : decode cX9_next 237 = .ok (.dup, 1) := by decide +kernel
theorem dX9_next_238 : decode cX9_next 238 = .ok (.getfield 89, 3) := by decide +kernel
theorem dX9_next_241 : decode cX9_next 241 = .ok (.iconst 1, 1) := by decide +kernel
theorem dX9_next_242 : decode cX9_next 242 = .ok (.iadd, 1) := by decide +kernel
theorem dX9_next_243 : decode cX9_next 243 = .ok (.putfield 89, 3) := by decide +kernel
theorem dX9_next_246 : decode cX9_next 246 = .ok (.aload_n 0, 1) := by decide +kernel
theorem dX9_next_247 : decode cX9_next 247 = .ok (.aload_n 0, 1) := by decide +kernel
theorem dX9_next_248 : decode cX9_next 248 = .ok (.aload_n 0, 1) := by decide +kernel
theorem dX9_next_249 : decode cX9_next 249 = .ok (.getfield 86, 3) := by decide +kernel
theorem dX9_next_252 : decode cX9_next 252 = .ok (.invokevirtual 92, 3) := by decide +kernel
theorem dX9_next_255 : decode cX9_next 255 = .ok (.bipush 59, 2) := by decide +kernel
theorem dX9_next_257 : decode cX9_next 257 = .ok (.if_icmp .ne 8, 3) := by decide +kernel
theorem dX9_next_260 : decode cX9_next 260 = .ok (.bipush 15, 2) := by decide +kernel
theorem dX9_next_262 : decode cX9_next 262 = .ok (.goto 5, 3) := by decide +kernel
theorem dX9_next_265 : decode cX9_next 265 = .ok (.bipush 17, 2) := by decide +kernel
theorem dX9_next_267 : decode cX9_next 267 = .ok (.putfield 96, 3) := by decide +kernel
theorem dX9_next_270 : decode cX9_next 270 = .ok (.return_, 1) := by decide +kernel
theorem dX9_fails_0 : decode cX9_fails 0 = .ok (.aload_n 0, 1) := by decide +kernel
theorem dX9_fails_1 : decode cX9_fails 1 = .ok (.getfield 112, 3) := by decide +kernel
theorem dX9_fails_4 : decode cX9_fails 4 = .ok (.ifCond .eq 4, 3) := by decide +kernel
theorem dX9_fails_7 : decode cX9_fails 7 = .ok (.return_, 1) := by decide +kernel
theorem dX9_fails_8 : decode cX9_fails 8 = .ok (.aload_n 0, 1) := by decide +kernel
theorem dX9_fails_9 : decode cX9_fails 9 = .ok (.aload_n 0, 1) := by decide +kernel
theorem dX9_fails_10 : decode cX9_fails 10 = .ok (.getfield 96, 3) := by decide +kernel
theorem dX9_fails_13 : decode cX9_fails 13 = .ok (.bipush 17, 2) := by decide +kernel
theorem dX9_fails_15 : decode cX9_fails 15 = .ok (.if_icmp .ne 7, 3) := by decide +kernel
theorem dX9_fails_18 : decode cX9_fails 18 = .ok (.iconst 1, 1) := by decide +kernel
theorem dX9_fails_19 : decode cX9_fails 19 = .ok (.goto 4, 3) := by decide +kernel
theorem dX9_fails_22 : decode cX9_fails 22 = .ok (.iload_n 1, 1) := by decide +kernel
theorem dX9_fails_23 : decode cX9_fails 23 = .ok (.putfield 112, 3) := by decide +kernel
theorem dX9_fails_26 : decode cX9_fails 26 = .ok (.aload_n 0, 1) := by decide +kernel
theorem dX9_fails_27 : decode cX9_fails 27 = .ok (.aload_n 0, 1) := by decide +kernel
theorem dX9_fails_28 : decode cX9_fails 28 = .ok (.getfield 86, 3) := by decide +kernel
theorem dX9_fails_31 : decode cX9_fails 31 = .ok (.putfield 115, 3) := by decide +kernel
theorem dX9_fails_34 : decode cX9_fails 34 = .ok (.return_, 1) := by decide +kernel
theorem dX9_is_0 : decode cX9_is 0 = .ok (.aload_n 0, 1) := by decide +kernel
theorem dX9_is_1 : decode cX9_is 1 = .ok (.getfield 112, 3) := by decide +kernel
theorem dX9_is_4 : decode cX9_is 4 = .ok (.ifCond .ne 15, 3) := by decide +kernel
theorem dX9_is_7 : decode cX9_is 7 = .ok (.aload_n 0, 1) := by decide +kernel
theorem dX9_is_8 : decode cX9_is 8 = .ok (.getfield 96, 3) := by decide +kernel
theorem dX9_is_11 : decode cX9_is 11 = .ok (.iload_n 1, 1) := by decide +kernel
theorem dX9_is_12 : decode cX9_is 12 = .ok (.if_icmp .ne 7, 3) := by decide +kernel
theorem dX9_is_15 : decode cX9_is 15 = .ok (.iconst 1, 1) := by decide +kernel
theorem dX9_is_16 : decode cX9_is 16 = .ok (.goto 4, 3) := by decide +kernel
theorem dX9_is_19 : decode cX9_is 19 = .ok (.iconst 0, 1) := by decide +kernel
theorem dX9_is_20 : decode cX9_is 20 = .ok (.ireturn, 1) := by decide +kernel
theorem dX9_eats_0 : decode cX9_eats 0 = .ok (.aload_n 0, 1) := by decide +kernel
theorem dX9_eats_1 : decode cX9_eats 1 = .ok (.iload_n 1, 1) := by decide +kernel
theorem dX9_eats_2 : decode cX9_eats 2 = .ok (.invokevirtual 118, 3) := by decide +kernel
theorem dX9_eats_5 : decode cX9_eats 5 = .ok (.ifCond .ne 5, 3) := by decide +kernel
theorem dX9_eats_8 : decode cX9_eats 8 = .ok (.iconst 0, 1) := by decide +kernel
theorem dX9_eats_9 : decode cX9_eats 9 = .ok (.ireturn, 1) := by decide +kernel
theorem dX9_eats_10 : decode cX9_eats 10 = .ok (.aload_n 0, 1) := by decide +kernel
theorem dX9_eats_11 : decode cX9_eats 11 = .ok (.invokevirtual 121, 3) := by decide +kernel
theorem dX9_eats_14 : decode cX9_eats 14 = .ok (.iconst 1, 1) := by decide +kernel
theorem dX9_eats_15 : decode cX9_eats 15 = .ok (.ireturn, 1) := by decide +kernel
theorem dX9_takes_0 : decode cX9_takes 0 = .ok (.aload_n 0, 1) := by decide +kernel
theorem dX9_takes_1 : decode cX9_takes 1 = .ok (.bipush 14, 2) := by decide +kernel
theorem dX9_takes_3 : decode cX9_takes 3 = .ok (.invokevirtual 118, 3) := by decide +kernel
theorem dX9_takes_6 : decode cX9_takes 6 = .ok (.ifCond .ne 11, 3) := by decide +kernel
theorem dX9_takes_9 : decode cX9_takes 9 = .ok (.aload_n 0, 1) := by decide +kernel
theorem dX9_takes_10 : decode cX9_takes 10 = .ok (.iconst 2, 1) := by decide +kernel
theorem dX9_takes_11 : decode cX9_takes 11 = .ok (.invokevirtual 124, 3) := by decide +kernel
theorem dX9_takes_14 : decode cX9_takes 14 = .ok (.goto 23, 3) := by decide +kernel
theorem dX9_takes_17 : decode cX9_takes 17 = .ok (.aload_n 0, 1) := by decide +kernel
theorem dX9_takes_18 : decode cX9_takes 18 = .ok (.getfield 109, 3) := by decide +kernel
theorem dX9_takes_21 : decode cX9_takes 21 = .ok (.i2l, 1) := by decide +kernel
theorem dX9_takes_22 : decode cX9_takes 22 = .ok (.iload_n 1, 1) := by decide +kernel
theorem dX9_takes_23 : decode cX9_takes 23 = .ok (.i2l, 1) := by decide +kernel
theorem dX9_takes_24 : decode cX9_takes 24 = .ok (.iload_n 2, 1) := by decide +kernel
theorem dX9_takes_25 : decode cX9_takes 25 = .ok (.i2l, 1) := by decide +kernel
theorem dX9_takes_26 : decode cX9_takes 26 = .ok (.invokestatic 128, 3) := by decide +kernel
theorem dX9_takes_29 : decode cX9_takes 29 = .ok (.ifCond .ne 8, 3) := by decide +kernel
theorem dX9_takes_32 : decode cX9_takes 32 = .ok (.aload_n 0, 1) := by decide +kernel
theorem dX9_takes_33 : decode cX9_takes 33 = .ok (.iconst 3, 1) := by decide +kernel
theorem dX9_takes_34 : decode cX9_takes 34 = .ok (.invokevirtual 124, 3) := by decide +kernel
theorem dX9_takes_37 : decode cX9_takes 37 = .ok (.aload_n 0, 1) := by decide +kernel
theorem dX9_takes_38 : decode cX9_takes 38 = .ok (.getfield 109, 3) := by decide +kernel
theorem dX9_takes_41 : decode cX9_takes 41 = .ok (.istore_n 3, 1) := by decide +kernel
theorem dX9_takes_42 : decode cX9_takes 42 = .ok (.aload_n 0, 1) := by decide +kernel
theorem dX9_takes_43 : decode cX9_takes 43 = .ok (.getfield 112, 3) := by decide +kernel
theorem dX9_takes_46 : decode cX9_takes 46 = .ok (.ifCond .ne 7, 3) := by decide +kernel
theorem dX9_takes_49 : decode cX9_takes 49 = .ok (.aload_n 0, 1) := by decide +kernel
theorem dX9_takes_50 : decode cX9_takes 50 = .ok (.invokevirtual 121, 3) := by decide +kernel
theorem dX9_takes_53 : decode cX9_takes 53 = .ok (.iload_n 3, 1) := by decide +kernel
theorem dX9_takes_54 : decode cX9_takes 54 = .ok (.ireturn, 1) := by decide +kernel
