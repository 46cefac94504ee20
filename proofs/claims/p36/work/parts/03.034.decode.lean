theorem dX9_seeks_150 : decode cX9_seeks 150 = .ok (.istore 4, 2) := by decide +kernel
theorem dX9_seeks_152 : decode cX9_seeks 152 = .ok (.aload_n 0, 1) := by decide +kernel
theorem dX9_seeks_153 : decode cX9_seeks 153 = .ok (.getfield 30, 3) := by decide +kernel
theorem dX9_seeks_156 : decode cX9_seeks 156 = .ok (.iconst 3, 1) := by decide +kernel
theorem dX9_seeks_157 : decode cX9_seeks 157 = .ok (.iaload, 1) := by decide +kernel
theorem dX9_seeks_158 : decode cX9_seeks 158 = .ok (.istore 5, 2) := by decide +kernel
theorem dX9_seeks_160 : decode cX9_seeks 160 = .ok (.aload_n 0, 1) := by decide +kernel
theorem dX9_seeks_161 : decode cX9_seeks 161 = .ok (.getfield 30, 3) := by decide +kernel
theorem dX9_seeks_164 : decode cX9_seeks 164 = .ok (.iconst 4, 1) := by decide +kernel
theorem dX9_seeks_165 : decode cX9_seeks 165 = .ok (.iaload, 1) := by decide +kernel
theorem dX9_seeks_166 : decode cX9_seeks 166 = .ok (.istore 6, 2) := by decide +kernel
theorem dX9_seeks_168 : decode cX9_seeks 168 = .ok (.aload_n 0, 1) := by decide +kernel
theorem dX9_seeks_169 : decode cX9_seeks 169 = .ok (.getfield 30, 3) := by decide +kernel
theorem dX9_seeks_172 : decode cX9_seeks 172 = .ok (.iconst 5, 1) := by decide +kernel
theorem dX9_seeks_173 : decode cX9_seeks 173 = .ok (.iaload, 1) := by decide +kernel
theorem dX9_seeks_174 : decode cX9_seeks 174 = .ok (.istore 7, 2) := by decide +kernel
theorem dX9_seeks_176 : decode cX9_seeks 176 = .ok (.iconst 0, 1) := by decide +kernel
theorem dX9_seeks_177 : decode cX9_seeks 177 = .ok (.istore 8, 2) := by decide +kernel
theorem dX9_seeks_179 : decode cX9_seeks 179 = .ok (.iload 8, 2) := by decide +kernel
theorem dX9_seeks_181 : decode cX9_seeks 181 = .ok (.iconst 3, 1) := by decide +kernel
theorem dX9_seeks_182 : decode cX9_seeks 182 = .ok (.if_icmp .ge 96, 3) := by decide +kernel
theorem dX9_seeks_185 : decode cX9_seeks 185 = .ok (.aload_n 0, 1) := by decide +kernel
theorem dX9_seeks_186 : decode cX9_seeks 186 = .ok (.iload 8, 2) := by decide +kernel
theorem dX9_seeks_188 : decode cX9_seeks 188 = .ok (.i2l, 1) := by decide +kernel
theorem dX9_seeks_189 : decode cX9_seeks 189 = .ok (.invokevirtual 202, 3) := by decide +kernel
theorem dX9_seeks_192 : decode cX9_seeks 192 = .ok (.ifCond .eq 6, 3) := by decide +kernel
theorem dX9_seeks_195 : decode cX9_seeks 195 = .ok (.goto 77, 3) := by decide +kernel
theorem dX9_seeks_198 : decode cX9_seeks 198 = .ok (.aload_n 0, 1) := by decide +kernel
theorem dX9_seeks_199 : decode cX9_seeks 199 = .ok (.getfield 36, 3) := by decide +kernel
theorem dX9_seeks_202 : decode cX9_seeks 202 = .ok (.iload_n 1, 1) := by decide +kernel
theorem dX9_seeks_203 : decode cX9_seeks 203 = .ok (.iload 8, 2) := by decide +kernel
theorem dX9_seeks_205 : decode cX9_seeks 205 = .ok (.iastore, 1) := by decide +kernel
theorem dX9_seeks_206 : decode cX9_seeks 206 = .ok (.aload_n 0, 1) := by decide +kernel
theorem dX9_seeks_207 : decode cX9_seeks 207 = .ok (.iload 8, 2) := by decide +kernel
theorem dX9_seeks_209 : decode cX9_seeks 209 = .ok (.iconst 0, 1) := by decide +kernel
theorem dX9_seeks_210 : decode cX9_seeks 210 = .ok (.invokevirtual 206, 3) := by decide +kernel
theorem dX9_seeks_213 : decode cX9_seeks 213 = .ok (.pop, 1) := by decide +kernel
theorem dX9_seeks_214 : decode cX9_seeks 214 = .ok (.aload_n 0, 1) := by decide +kernel
theorem dX9_seeks_215 : decode cX9_seeks 215 = .ok (.iload_n 1, 1) := by decide +kernel
theorem dX9_seeks_216 : decode cX9_seeks 216 = .ok (.iconst 1, 1) := by decide +kernel
theorem dX9_seeks_217 : decode cX9_seeks 217 = .ok (.iadd, 1) := by decide +kernel
theorem dX9_seeks_218 : decode cX9_seeks 218 = .ok (.invokevirtual 257, 3) := by decide +kernel
theorem dX9_seeks_221 : decode cX9_seeks 221 = .ok (.aload_n 0, 1) := by decide +kernel
theorem dX9_seeks_222 : decode cX9_seeks 222 = .ok (.iload_n 1, 1) := by decide +kernel
theorem dX9_seeks_223 : decode cX9_seeks 223 = .ok (.invokevirtual 222, 3) := by decide +kernel
theorem dX9_seeks_226 : decode cX9_seeks 226 = .ok (.aload_n 0, 1) := by decide +kernel
theorem dX9_seeks_227 : decode cX9_seeks 227 = .ok (.getfield 30, 3) := by decide +kernel
theorem dX9_seeks_230 : decode cX9_seeks 230 = .ok (.iconst 0, 1) := by decide +kernel
theorem dX9_seeks_231 : decode cX9_seeks 231 = .ok (.iload_n 2, 1) := by decide +kernel
theorem dX9_seeks_232 : decode cX9_seeks 232 = .ok (.iastore, 1) := by decide +kernel
theorem dX9_seeks_233 : decode cX9_seeks 233 = .ok (.aload_n 0, 1) := by decide +kernel
theorem dX9_seeks_234 : decode cX9_seeks 234 = .ok (.getfield 30, 3) := by decide +kernel
theorem dX9_seeks_237 : decode cX9_seeks 237 = .ok (.iconst 1, 1) := by decide +kernel
theorem dX9_seeks_238 : decode cX9_seeks 238 = .ok (.iload_n 3, 1) := by decide +kernel
theorem dX9_seeks_239 : decode cX9_seeks 239 = .ok (.iastore, 1) := by decide +kernel
theorem dX9_seeks_240 : decode cX9_seeks 240 = .ok (.aload_n 0, 1) := by decide +kernel
theorem dX9_seeks_241 : decode cX9_seeks 241 = .ok (.getfield 30, 3) := by decide +kernel
theorem dX9_seeks_244 : decode cX9_seeks 244 = .ok (.iconst 2, 1) := by decide +kernel
theorem dX9_seeks_245 : decode cX9_seeks 245 = .ok (.iload 4, 2) := by decide +kernel
theorem dX9_seeks_247 : decode cX9_seeks 247 = .ok (.iastore, 1) := by decide +kernel
theorem dX9_seeks_248 : decode cX9_seeks 248 = .ok (.aload_n 0, 1) := by decide +kernel
theorem dX9_seeks_249 : decode cX9_seeks 249 = .ok (.getfield 30, 3) := by decide +kernel
theorem dX9_seeks_252 : decode cX9_seeks 252 = .ok (.iconst 3, 1) := by decide +kernel
theorem dX9_seeks_253 : decode cX9_seeks 253 = .ok (.iload 5, 2) := by decide +kernel
theorem dX9_seeks_255 : decode cX9_seeks 255 = .ok (.iastore, 1) := by decide +kernel
theorem dX9_seeks_256 : decode cX9_seeks 256 = .ok (.aload_n 0, 1) := by decide +kernel
theorem dX9_seeks_257 : decode cX9_seeks 257 = .ok (.getfield 30, 3) := by decide +kernel
theorem dX9_seeks_260 : decode cX9_seeks 260 = .ok (.iconst 4, 1) := by decide +kernel
theorem dX9_seeks_261 : decode cX9_seeks 261 = .ok (.iload 6, 2) := by decide +kernel
theorem dX9_seeks_263 : decode cX9_seeks 263 = .ok (.iastore, 1) := by decide +kernel
theorem dX9_seeks_264 : decode cX9_seeks 264 = .ok (.aload_n 0, 1) := by decide +kernel
theorem dX9_seeks_265 : decode cX9_seeks 265 = .ok (.getfield 30, 3) := by decide +kernel
theorem dX9_seeks_268 : decode cX9_seeks 268 = .ok (.iconst 5, 1) := by decide +kernel
theorem dX9_seeks_269 : decode cX9_seeks 269 = .ok (.iload 7, 2) := by decide +kernel
theorem dX9_seeks_271 : decode cX9_seeks 271 = .ok (.iastore, 1) := by decide +kernel
theorem dX9_seeks_272 : decode cX9_seeks 272 = .ok (.iinc 8 1, 3) := by decide +kernel
theorem dX9_seeks_275 : decode cX9_seeks 275 = .ok (.goto (-96), 3) := by decide +kernel
theorem dX9_seeks_278 : decode cX9_seeks 278 = .ok (.return_, 1) := by decide +kernel
theorem dX9_minutesOf_0 : decode cX9_minutesOf 0 = .ok (.aload_n 0, 1) := by decide +kernel
theorem dX9_minutesOf_1 : decode cX9_minutesOf 1 = .ok (.getfield 13, 3) := by decide +kernel
theorem dX9_minutesOf_4 : decode cX9_minutesOf 4 = .ok (.bipush 6, 2) := by decide +kernel
theorem dX9_minutesOf_6 : decode cX9_minutesOf 6 = .ok (.iaload, 1) := by decide +kernel
theorem dX9_minutesOf_7 : decode cX9_minutesOf 7 = .ok (.iload_n 1, 1) := by decide +kernel
theorem dX9_minutesOf_8 : decode cX9_minutesOf 8 = .ok (.if_icmp .ge 13, 3) := by decide +kernel
theorem dX9_minutesOf_11 : decode cX9_minutesOf 11 = .ok (.aload_n 0, 1) := by decide +kernel
theorem dX9_minutesOf_12 : decode cX9_minutesOf 12 = .ok (.getfield 13, 3) := by decide +kernel
theorem dX9_minutesOf_15 : decode cX9_minutesOf 15 = .ok (.bipush 6, 2) := by decide +kernel
theorem dX9_minutesOf_17 : decode cX9_minutesOf 17 = .ok (.iaload, 1) := by decide +kernel
theorem dX9_minutesOf_18 : decode cX9_minutesOf 18 = .ok (.goto 4, 3) := by decide +kernel
theorem dX9_minutesOf_21 : decode cX9_minutesOf 21 = .ok (.iload_n 1, 1) := by decide +kernel
theorem dX9_minutesOf_22 : decode cX9_minutesOf 22 = .ok (.istore_n 2, 1) := by decide +kernel
theorem dX9_minutesOf_23 : decode cX9_minutesOf 23 = .ok (.sipush 9999, 3) := by decide +kernel
theorem dX9_minutesOf_26 : decode cX9_minutesOf 26 = .ok (.aload_n 0, 1) := by decide +kernel
theorem dX9_minutesOf_27 : decode cX9_minutesOf 27 = .ok (.getfield 13, 3) := by decide +kernel
theorem dX9_minutesOf_30 : decode cX9_minutesOf 30 = .ok (.iconst 1, 1) := by decide +kernel
theorem dX9_minutesOf_31 : decode cX9_minutesOf 31 = .ok (.iaload, 1) := by decide +kernel
theorem dX9_minutesOf_32 : decode cX9_minutesOf 32 = .ok (.isub, 1) := by decide +kernel
theorem dX9_minutesOf_33 : decode cX9_minutesOf 33 = .ok (.iload_n 2, 1) := by decide +kernel
theorem dX9_minutesOf_34 : decode cX9_minutesOf 34 = .ok (.if_icmp .ge 16, 3) := by decide +kernel
theorem dX9_minutesOf_37 : decode cX9_minutesOf 37 = .ok (.sipush 9999, 3) := by decide +kernel
theorem dX9_minutesOf_40 : decode cX9_minutesOf 40 = .ok (.aload_n 0, 1) := by decide +kernel
theorem dX9_minutesOf_41 : decode cX9_minutesOf 41 = .ok (.getfield 13, 3) := by decide +kernel
theorem dX9_minutesOf_44 : decode cX9_minutesOf 44 = .ok (.iconst 1, 1) := by decide +kernel
theorem dX9_minutesOf_45 : decode cX9_minutesOf 45 = .ok (.iaload, 1) := by decide +kernel
theorem dX9_minutesOf_46 : decode cX9_minutesOf 46 = .ok (.isub, 1) := by decide +kernel
theorem dX9_minutesOf_47 : decode cX9_minutesOf 47 = .ok (.goto 4, 3) := by decide +kernel
theorem dX9_minutesOf_50 : decode cX9_minutesOf 50 = .ok (.iload_n 2, 1) := by decide +kernel
theorem dX9_minutesOf_51 : decode cX9_minutesOf 51 = .ok (.ireturn, 1) := by decide +kernel
theorem dX9_laysBest_0 : decode cX9_laysBest 0 = .ok (.aload_n 0, 1) := by decide +kernel
theorem dX9_laysBest_1 : decode cX9_laysBest 1 = .ok (.iload_n 1, 1) := by decide +kernel
theorem dX9_laysBest_2 : decode cX9_laysBest 2 = .ok (.putfield 236, 3) := by decide +kernel
theorem dX9_laysBest_5 : decode cX9_laysBest 5 = .ok (.aload_n 0, 1) := by decide +kernel
theorem dX9_laysBest_6 : decode cX9_laysBest 6 = .ok (.iload_n 2, 1) := by decide +kernel
theorem dX9_laysBest_7 : decode cX9_laysBest 7 = .ok (.putfield 242, 3) := by decide +kernel
theorem dX9_laysBest_10 : decode cX9_laysBest 10 = .ok (.aload_n 0, 1) := by decide +kernel
theorem dX9_laysBest_11 : decode cX9_laysBest 11 = .ok (.aload_n 0, 1) := by decide +kernel
theorem dX9_laysBest_12 : decode cX9_laysBest 12 = .ok (.iload_n 3, 1) := by decide +kernel
theorem dX9_laysBest_13 : decode cX9_laysBest 13 = .ok (.invokevirtual 260, 3) := by decide +kernel
theorem dX9_laysBest_16 : decode cX9_laysBest 16 = .ok (.putfield 245, 3) := by decide +kernel
theorem dX9_laysBest_19 : decode cX9_laysBest 19 = .ok (.aload_n 0, 1) := by decide +kernel
theorem dX9_laysBest_20 : decode cX9_laysBest 20 = .ok (.iconst (-1), 1) := by decide +kernel
theorem dX9_laysBest_21 : decode cX9_laysBest 21 = .ok (.putfield 251, 3) := by decide +kernel
theorem dX9_laysBest_24 : decode cX9_laysBest 24 = .ok (.aload_n 0, 1) := by decide +kernel
theorem dX9_laysBest_25 : decode cX9_laysBest 25 = .ok (.iconst (-1), 1) := by decide +kernel
theorem dX9_laysBest_26 : decode cX9_laysBest 26 = .ok (.putfield 254, 3) := by decide +kernel
theorem dX9_laysBest_29 : decode cX9_laysBest 29 = .ok (.iconst 0, 1) := by decide +kernel
theorem dX9_laysBest_30 : decode cX9_laysBest 30 = .ok (.istore 4, 2) := by decide +kernel
theorem dX9_laysBest_32 : decode cX9_laysBest 32 = .ok (.iload 4, 2) := by decide +kernel
theorem dX9_laysBest_34 : decode cX9_laysBest 34 = .ok (.bipush 6, 2) := by decide +kernel
theorem dX9_laysBest_36 : decode cX9_laysBest 36 = .ok (.if_icmp .ge 17, 3) := by decide +kernel
theorem dX9_laysBest_39 : decode cX9_laysBest 39 = .ok (.aload_n 0, 1) := by decide +kernel
theorem dX9_laysBest_40 : decode cX9_laysBest 40 = .ok (.getfield 30, 3) := by decide +kernel
theorem dX9_laysBest_43 : decode cX9_laysBest 43 = .ok (.iload 4, 2) := by decide +kernel
theorem dX9_laysBest_45 : decode cX9_laysBest 45 = .ok (.iconst 0, 1) := by decide +kernel
theorem dX9_laysBest_46 : decode cX9_laysBest 46 = .ok (.iastore, 1) := by decide +kernel
theorem dX9_laysBest_47 : decode cX9_laysBest 47 = .ok (.iinc 4 1, 3) := by decide +kernel
theorem dX9_laysBest_50 : decode cX9_laysBest 50 = .ok (.goto (-18), 3) := by decide +kernel
theorem dX9_laysBest_53 : decode cX9_laysBest 53 = .ok (.aload_n 0, 1) := by decide +kernel
theorem dX9_laysBest_54 : decode cX9_laysBest 54 = .ok (.iconst 0, 1) := by decide +kernel
theorem dX9_laysBest_55 : decode cX9_laysBest 55 = .ok (.invokevirtual 257, 3) := by decide +kernel
theorem dX9_laysBest_58 : decode cX9_laysBest 58 = .ok (.aload_n 0, 1) := by decide +kernel
theorem dX9_laysBest_59 : decode cX9_laysBest 59 = .ok (.getfield 251, 3) := by decide +kernel
theorem dX9_laysBest_62 : decode cX9_laysBest 62 = .ok (.ireturn, 1) := by decide +kernel
theorem dX9_told_0 : decode cX9_told 0 = .ok (.iload 4, 2) := by decide +kernel
theorem dX9_told_2 : decode cX9_told 2 = .ok (.ifCond .eq 32, 3) := by decide +kernel
theorem dX9_told_5 : decode cX9_told 5 = .ok (.iload 5, 2) := by decide +kernel
theorem dX9_told_7 : decode cX9_told 7 = .ok (.ifCond .eq 9, 3) := by decide +kernel
theorem dX9_told_10 : decode cX9_told 10 = .ok (.iload 4, 2) := by decide +kernel
theorem dX9_told_12 : decode cX9_told 12 = .ok (.iconst 1, 1) := by decide +kernel
theorem dX9_told_13 : decode cX9_told 13 = .ok (.if_icmp .eq 21, 3) := by decide +kernel
theorem dX9_told_16 : decode cX9_told 16 = .ok (.iload 4, 2) := by decide +kernel
theorem dX9_told_18 : decode cX9_told 18 = .ok (.i2l, 1) := by decide +kernel
theorem dX9_told_19 : decode cX9_told 19 = .ok (.ldc2_w 263, 3) := by decide +kernel
theorem dX9_told_22 : decode cX9_told 22 = .ok (.ldc2_w 265, 3) := by decide +kernel
theorem dX9_told_25 : decode cX9_told 25 = .ok (.invokestatic 128, 3) := by decide +kernel
theorem dX9_told_28 : decode cX9_told 28 = .ok (.ifCond .ne 6, 3) := by decide +kernel
theorem dX9_told_31 : decode cX9_told 31 = .ok (.bipush (-2), 2) := by decide +kernel
theorem dX9_told_33 : decode cX9_told 33 = .ok (.ireturn, 1) := by decide +kernel
theorem dX9_told_34 : decode cX9_told 34 = .ok (.iload_n 3, 1) := by decide +kernel
theorem dX9_told_35 : decode cX9_told 35 = .ok (.i2l, 1) := by decide +kernel
theorem dX9_told_36 : decode cX9_told 36 = .ok (.lconst 1, 1) := by decide +kernel
theorem dX9_told_37 : decode cX9_told 37 = .ok (.ldc2_w 267, 3) := by decide +kernel
theorem dX9_told_40 : decode cX9_told 40 = .ok (.invokestatic 128, 3) := by decide +kernel
theorem dX9_told_43 : decode cX9_told 43 = .ok (.ifCond .ne 6, 3) := by decide +kernel
theorem dX9_told_46 : decode cX9_told 46 = .ok (.bipush (-3), 2) := by decide +kernel
theorem dX9_told_48 : decode cX9_told 48 = .ok (.ireturn, 1) := by decide +kernel
theorem dX9_told_49 : decode cX9_told 49 = .ok (.aload_n 0, 1) := by decide +kernel
theorem dX9_told_50 : decode cX9_told 50 = .ok (.getfield 13, 3) := by decide +kernel
theorem dX9_told_53 : decode cX9_told 53 = .ok (.iconst 0, 1) := by decide +kernel
theorem dX9_told_54 : decode cX9_told 54 = .ok (.iaload, 1) := by decide +kernel
theorem dX9_told_55 : decode cX9_told 55 = .ok (.ifCond .ne 6, 3) := by decide +kernel
theorem dX9_told_58 : decode cX9_told 58 = .ok (.bipush (-5), 2) := by decide +kernel
theorem dX9_told_60 : decode cX9_told 60 = .ok (.ireturn, 1) := by decide +kernel
theorem dX9_told_61 : decode cX9_told 61 = .ok (.aload_n 0, 1) := by decide +kernel
theorem dX9_told_62 : decode cX9_told 62 = .ok (.iload_n 1, 1) := by decide +kernel
theorem dX9_told_63 : decode cX9_told 63 = .ok (.iload_n 2, 1) := by decide +kernel
theorem dX9_told_64 : decode cX9_told 64 = .ok (.iload_n 3, 1) := by decide +kernel
theorem dX9_told_65 : decode cX9_told 65 = .ok (.invokevirtual 269, 3) := by decide +kernel
theorem dX9_told_68 : decode cX9_told 68 = .ok (.pop, 1) := by decide +kernel
theorem dX9_told_69 : decode cX9_told 69 = .ok (.iload 4, 2) := by decide +kernel
theorem dX9_told_71 : decode cX9_told 71 = .ok (.ifCond .ne 8, 3) := by decide +kernel
theorem dX9_told_74 : decode cX9_told 74 = .ok (.aload_n 0, 1) := by decide +kernel
theorem dX9_told_75 : decode cX9_told 75 = .ok (.getfield 251, 3) := by decide +kernel
theorem dX9_told_78 : decode cX9_told 78 = .ok (.ireturn, 1) := by decide +kernel
theorem dX9_told_79 : decode cX9_told 79 = .ok (.iload 4, 2) := by decide +kernel
theorem dX9_told_81 : decode cX9_told 81 = .ok (.iconst 1, 1) := by decide +kernel
theorem dX9_told_82 : decode cX9_told 82 = .ok (.if_icmp .ne 20, 3) := by decide +kernel
theorem dX9_told_85 : decode cX9_told 85 = .ok (.iload_n 1, 1) := by decide +kernel
theorem dX9_told_86 : decode cX9_told 86 = .ok (.iconst 2, 1) := by decide +kernel
theorem dX9_told_87 : decode cX9_told 87 = .ok (.if_icmp .ne 10, 3) := by decide +kernel
theorem dX9_told_90 : decode cX9_told 90 = .ok (.aload_n 0, 1) := by decide +kernel
theorem dX9_told_91 : decode cX9_told 91 = .ok (.getfield 254, 3) := by decide +kernel
theorem dX9_told_94 : decode cX9_told 94 = .ok (.goto 7, 3) := by decide +kernel
theorem dX9_told_97 : decode cX9_told 97 = .ok (.aload_n 0, 1) := by decide +kernel
theorem dX9_told_98 : decode cX9_told 98 = .ok (.getfield 245, 3) := by decide +kernel
theorem dX9_told_101 : decode cX9_told 101 = .ok (.ireturn, 1) := by decide +kernel
theorem dX9_told_102 : decode cX9_told 102 = .ok (.iload 4, 2) := by decide +kernel
theorem dX9_told_104 : decode cX9_told 104 = .ok (.bipush 10, 2) := by decide +kernel
theorem dX9_told_106 : decode cX9_told 106 = .ok (.isub, 1) := by decide +kernel
theorem dX9_told_107 : decode cX9_told 107 = .ok (.aload_n 0, 1) := by decide +kernel
