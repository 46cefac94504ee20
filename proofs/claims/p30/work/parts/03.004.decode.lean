theorem dX9_shifted_139 : decode cX9_shifted 139 = .ok (.dup2, 1) := dc_at daX9_shifted_3 6 rfl
theorem dX9_shifted_140 : decode cX9_shifted 140 = .ok (.iaload, 1) := dc_at daX9_shifted_3 7 rfl
theorem dX9_shifted_141 : decode cX9_shifted 141 = .ok (.iconst 1, 1) := dc_at daX9_shifted_3 8 rfl
theorem dX9_shifted_142 : decode cX9_shifted 142 = .ok (.isub, 1) := dc_at daX9_shifted_3 9 rfl
theorem dX9_shifted_143 : decode cX9_shifted 143 = .ok (.iastore, 1) := dc_at daX9_shifted_3 10 rfl
theorem dX9_shifted_144 : decode cX9_shifted 144 = .ok (.aload_n 0, 1) := dc_at daX9_shifted_3 11 rfl
theorem dX9_shifted_145 : decode cX9_shifted 145 = .ok (.getfield 13, 3) := dc_at daX9_shifted_3 12 rfl
theorem dX9_shifted_148 : decode cX9_shifted 148 = .ok (.bipush 32, 2) := dc_at daX9_shifted_3 13 rfl
theorem dX9_shifted_150 : decode cX9_shifted 150 = .ok (.iload 8, 2) := dc_at daX9_shifted_3 14 rfl
theorem dX9_shifted_152 : decode cX9_shifted 152 = .ok (.iadd, 1) := dc_at daX9_shifted_3 15 rfl
theorem dX9_shifted_153 : decode cX9_shifted 153 = .ok (.dup2, 1) := dc_at daX9_shifted_3 16 rfl
theorem dX9_shifted_154 : decode cX9_shifted 154 = .ok (.iaload, 1) := dc_at daX9_shifted_3 17 rfl
theorem dX9_shifted_155 : decode cX9_shifted 155 = .ok (.iconst 1, 1) := dc_at daX9_shifted_3 18 rfl
theorem dX9_shifted_156 : decode cX9_shifted 156 = .ok (.iadd, 1) := dc_at daX9_shifted_3 19 rfl
theorem dX9_shifted_157 : decode cX9_shifted 157 = .ok (.iastore, 1) := dc_at daX9_shifted_3 20 rfl
theorem dX9_shifted_158 : decode cX9_shifted 158 = .ok (.aload_n 0, 1) := dc_at daX9_shifted_3 21 rfl
theorem dX9_shifted_159 : decode cX9_shifted 159 = .ok (.iconst 0, 1) := dc_at daX9_shifted_3 22 rfl
theorem dX9_shifted_160 : decode cX9_shifted 160 = .ok (.iconst 0, 1) := dc_at daX9_shifted_3 23 rfl
def dlX9_shifted_4 : List (Nat × Jvm.ClassFile.Instr × Nat) := [(161, .iload_n 1, 1), (162, .invokevirtual 269, 3), (165, .iload_n 3, 1), (166, .isub, 1), (167, .istore 9, 2), (169, .aload_n 0, 1), (170, .getfield 13, 3), (173, .bipush 32, 2), (175, .iload 7, 2), (177, .iadd, 1), (178, .dup2, 1), (179, .iaload, 1), (180, .iconst 1, 1), (181, .iadd, 1), (182, .iastore, 1), (183, .aload_n 0, 1), (184, .getfield 13, 3), (187, .bipush 32, 2), (189, .iload 8, 2), (191, .iadd, 1), (192, .dup2, 1), (193, .iaload, 1), (194, .iconst 1, 1), (195, .isub, 1)]
theorem daX9_shifted_4 : dlX9_shifted_4.all (dcK cX9_shifted) = true := by decide +kernel
theorem dX9_shifted_161 : decode cX9_shifted 161 = .ok (.iload_n 1, 1) := dc_at daX9_shifted_4 0 rfl
theorem dX9_shifted_162 : decode cX9_shifted 162 = .ok (.invokevirtual 269, 3) := dc_at daX9_shifted_4 1 rfl
theorem dX9_shifted_165 : decode cX9_shifted 165 = .ok (.iload_n 3, 1) := dc_at daX9_shifted_4 2 rfl
theorem dX9_shifted_166 : decode cX9_shifted 166 = .ok (.isub, 1) := dc_at daX9_shifted_4 3 rfl
theorem dX9_shifted_167 : decode cX9_shifted 167 = .ok (.istore 9, 2) := dc_at daX9_shifted_4 4 rfl
theorem dX9_shifted_169 : decode cX9_shifted 169 = .ok (.aload_n 0, 1) := dc_at daX9_shifted_4 5 rfl
theorem dX9_shifted_170 : decode cX9_shifted 170 = .ok (.getfield 13, 3) := dc_at daX9_shifted_4 6 rfl
theorem dX9_shifted_173 : decode cX9_shifted 173 = .ok (.bipush 32, 2) := dc_at daX9_shifted_4 7 rfl
theorem dX9_shifted_175 : decode cX9_shifted 175 = .ok (.iload 7, 2) := dc_at daX9_shifted_4 8 rfl
theorem dX9_shifted_177 : decode cX9_shifted 177 = .ok (.iadd, 1) := dc_at daX9_shifted_4 9 rfl
theorem dX9_shifted_178 : decode cX9_shifted 178 = .ok (.dup2, 1) := dc_at daX9_shifted_4 10 rfl
theorem dX9_shifted_179 : decode cX9_shifted 179 = .ok (.iaload, 1) := dc_at daX9_shifted_4 11 rfl
theorem dX9_shifted_180 : decode cX9_shifted 180 = .ok (.iconst 1, 1) := dc_at daX9_shifted_4 12 rfl
theorem dX9_shifted_181 : decode cX9_shifted 181 = .ok (.iadd, 1) := dc_at daX9_shifted_4 13 rfl
theorem dX9_shifted_182 : decode cX9_shifted 182 = .ok (.iastore, 1) := dc_at daX9_shifted_4 14 rfl
theorem dX9_shifted_183 : decode cX9_shifted 183 = .ok (.aload_n 0, 1) := dc_at daX9_shifted_4 15 rfl
theorem dX9_shifted_184 : decode cX9_shifted 184 = .ok (.getfield 13, 3) := dc_at daX9_shifted_4 16 rfl
theorem dX9_shifted_187 : decode cX9_shifted 187 = .ok (.bipush 32, 2) := dc_at daX9_shifted_4 17 rfl
theorem dX9_shifted_189 : decode cX9_shifted 189 = .ok (.iload 8, 2) := dc_at daX9_shifted_4 18 rfl
theorem dX9_shifted_191 : decode cX9_shifted 191 = .ok (.iadd, 1) := dc_at daX9_shifted_4 19 rfl
theorem dX9_shifted_192 : decode cX9_shifted 192 = .ok (.dup2, 1) := dc_at daX9_shifted_4 20 rfl
theorem dX9_shifted_193 : decode cX9_shifted 193 = .ok (.iaload, 1) := dc_at daX9_shifted_4 21 rfl
theorem dX9_shifted_194 : decode cX9_shifted 194 = .ok (.iconst 1, 1) := dc_at daX9_shifted_4 22 rfl
theorem dX9_shifted_195 : decode cX9_shifted 195 = .ok (.isub, 1) := dc_at daX9_shifted_4 23 rfl
def dlX9_shifted_5 : List (Nat × Jvm.ClassFile.Instr × Nat) := [(196, .iastore, 1), (197, .iload 9, 2), (199, .iload 4, 2), (201, .if_icmp .gt 6, 3), (204, .goto 15, 3), (207, .iload 9, 2), (209, .istore 4, 2), (211, .iload 7, 2), (213, .istore 5, 2), (215, .iload 8, 2), (217, .istore 6, 2), (219, .iinc 8 1, 3), (222, .goto (-141), 3), (225, .iinc 7 1, 3), (228, .goto (-161), 3), (231, .iload_n 2, 1), (232, .ifCond .ne 8, 3), (235, .iload 4, 2), (237, .goto 15, 3), (240, .iload_n 2, 1), (241, .iconst 1, 1), (242, .if_icmp .ne 8, 3), (245, .iload 5, 2), (247, .goto 5, 3)]
theorem daX9_shifted_5 : dlX9_shifted_5.all (dcK cX9_shifted) = true := by decide +kernel
theorem dX9_shifted_196 : decode cX9_shifted 196 = .ok (.iastore, 1) := dc_at daX9_shifted_5 0 rfl
theorem dX9_shifted_197 : decode cX9_shifted 197 = .ok (.iload 9, 2) := dc_at daX9_shifted_5 1 rfl
theorem dX9_shifted_199 : decode cX9_shifted 199 = .ok (.iload 4, 2) := dc_at daX9_shifted_5 2 rfl
theorem dX9_shifted_201 : decode cX9_shifted 201 = .ok (.if_icmp .gt 6, 3) := dc_at daX9_shifted_5 3 rfl
theorem dX9_shifted_204 : decode cX9_shifted 204 = .ok (.goto 15, 3) := dc_at daX9_shifted_5 4 rfl
theorem dX9_shifted_207 : decode cX9_shifted 207 = .ok (.iload 9, 2) := dc_at daX9_shifted_5 5 rfl
theorem dX9_shifted_209 : decode cX9_shifted 209 = .ok (.istore 4, 2) := dc_at daX9_shifted_5 6 rfl
theorem dX9_shifted_211 : decode cX9_shifted 211 = .ok (.iload 7, 2) := dc_at daX9_shifted_5 7 rfl
theorem dX9_shifted_213 : decode cX9_shifted 213 = .ok (.istore 5, 2) := dc_at daX9_shifted_5 8 rfl
theorem dX9_shifted_215 : decode cX9_shifted 215 = .ok (.iload 8, 2) := dc_at daX9_shifted_5 9 rfl
theorem dX9_shifted_217 : decode cX9_shifted 217 = .ok (.istore 6, 2) := dc_at daX9_shifted_5 10 rfl
theorem dX9_shifted_219 : decode cX9_shifted 219 = .ok (.iinc 8 1, 3) := dc_at daX9_shifted_5 11 rfl
theorem dX9_shifted_222 : decode cX9_shifted 222 = .ok (.goto (-141), 3) := dc_at daX9_shifted_5 12 rfl
theorem dX9_shifted_225 : decode cX9_shifted 225 = .ok (.iinc 7 1, 3) := dc_at daX9_shifted_5 13 rfl
theorem dX9_shifted_228 : decode cX9_shifted 228 = .ok (.goto (-161), 3) := dc_at daX9_shifted_5 14 rfl
theorem dX9_shifted_231 : decode cX9_shifted 231 = .ok (.iload_n 2, 1) := dc_at daX9_shifted_5 15 rfl
theorem dX9_shifted_232 : decode cX9_shifted 232 = .ok (.ifCond .ne 8, 3) := dc_at daX9_shifted_5 16 rfl
theorem dX9_shifted_235 : decode cX9_shifted 235 = .ok (.iload 4, 2) := dc_at daX9_shifted_5 17 rfl
theorem dX9_shifted_237 : decode cX9_shifted 237 = .ok (.goto 15, 3) := dc_at daX9_shifted_5 18 rfl
theorem dX9_shifted_240 : decode cX9_shifted 240 = .ok (.iload_n 2, 1) := dc_at daX9_shifted_5 19 rfl
theorem dX9_shifted_241 : decode cX9_shifted 241 = .ok (.iconst 1, 1) := dc_at daX9_shifted_5 20 rfl
theorem dX9_shifted_242 : decode cX9_shifted 242 = .ok (.if_icmp .ne 8, 3) := dc_at daX9_shifted_5 21 rfl
theorem dX9_shifted_245 : decode cX9_shifted 245 = .ok (.iload 5, 2) := dc_at daX9_shifted_5 22 rfl
theorem dX9_shifted_247 : decode cX9_shifted 247 = .ok (.goto 5, 3) := dc_at daX9_shifted_5 23 rfl
def dlX9_shifted_6 : List (Nat × Jvm.ClassFile.Instr × Nat) := [(250, .iload 6, 2), (252, .ireturn, 1)]
theorem daX9_shifted_6 : dlX9_shifted_6.all (dcK cX9_shifted) = true := by decide +kernel
theorem dX9_shifted_250 : decode cX9_shifted 250 = .ok (.iload 6, 2) := dc_at daX9_shifted_6 0 rfl
theorem dX9_shifted_252 : decode cX9_shifted 252 = .ok (.ireturn, 1) := dc_at daX9_shifted_6 1 rfl
def dlX9_felled_0 : List (Nat × Jvm.ClassFile.Instr × Nat) := [(0, .aload_n 0, 1), (1, .iconst 0, 1), (2, .putfield 1, 3), (5, .iload_n 2, 1), (6, .i2l, 1), (7, .lconst 0, 1), (8, .lconst 1, 1), (9, .invokestatic 128, 3), (12, .ifCond .ne 6, 3), (15, .bipush (-2), 2), (17, .ireturn, 1), (18, .iload_n 1, 1), (19, .i2l, 1), (20, .lconst 1, 1), (21, .ldc2_w 276, 3), (24, .invokestatic 128, 3), (27, .ifCond .ne 6, 3), (30, .bipush (-3), 2), (32, .ireturn, 1), (33, .aload_n 0, 1), (34, .getfield 13, 3), (37, .iconst 0, 1), (38, .iaload, 1), (39, .ifCond .ne 6, 3)]
theorem daX9_felled_0 : dlX9_felled_0.all (dcK cX9_felled) = true := by decide +kernel
theorem dX9_felled_0 : decode cX9_felled 0 = .ok (.aload_n 0, 1) := dc_at daX9_felled_0 0 rfl
theorem dX9_felled_1 : decode cX9_felled 1 = .ok (.iconst 0, 1) := dc_at daX9_felled_0 1 rfl
theorem dX9_felled_2 : decode cX9_felled 2 = .ok (.putfield 1, 3) := dc_at daX9_felled_0 2 rfl
theorem dX9_felled_5 : decode cX9_felled 5 = .ok (.iload_n 2, 1) := dc_at daX9_felled_0 3 rfl
theorem dX9_felled_6 : decode cX9_felled 6 = .ok (.i2l, 1) := dc_at daX9_felled_0 4 rfl
theorem dX9_felled_7 : decode cX9_felled 7 = .ok (.lconst 0, 1) := dc_at daX9_felled_0 5 rfl
theorem dX9_felled_8 : decode cX9_felled 8 = .ok (.lconst 1, 1) := dc_at daX9_felled_0 6 rfl
theorem dX9_felled_9 : decode cX9_felled 9 = .ok (.invokestatic 128, 3) := dc_at daX9_felled_0 7 rfl
theorem dX9_felled_12 : decode cX9_felled 12 = .ok (.ifCond .ne 6, 3) := dc_at daX9_felled_0 8 rfl
theorem dX9_felled_15 : decode cX9_felled 15 = .ok (.bipush (-2), 2) := dc_at daX9_felled_0 9 rfl
theorem dX9_felled_17 : decode cX9_felled 17 = .ok (.ireturn, 1) := dc_at daX9_felled_0 10 rfl
theorem dX9_felled_18 : decode cX9_felled 18 = .ok (.iload_n 1, 1) := dc_at daX9_felled_0 11 rfl
theorem dX9_felled_19 : decode cX9_felled 19 = .ok (.i2l, 1) := dc_at daX9_felled_0 12 rfl
theorem dX9_felled_20 : decode cX9_felled 20 = .ok (.lconst 1, 1) := dc_at daX9_felled_0 13 rfl
theorem dX9_felled_21 : decode cX9_felled 21 = .ok (.ldc2_w 276, 3) := dc_at daX9_felled_0 14 rfl
theorem dX9_felled_24 : decode cX9_felled 24 = .ok (.invokestatic 128, 3) := dc_at daX9_felled_0 15 rfl
theorem dX9_felled_27 : decode cX9_felled 27 = .ok (.ifCond .ne 6, 3) := dc_at daX9_felled_0 16 rfl
theorem dX9_felled_30 : decode cX9_felled 30 = .ok (.bipush (-3), 2) := dc_at daX9_felled_0 17 rfl
theorem dX9_felled_32 : decode cX9_felled 32 = .ok (.ireturn, 1) := dc_at daX9_felled_0 18 rfl
theorem dX9_felled_33 : decode cX9_felled 33 = .ok (.aload_n 0, 1) := dc_at daX9_felled_0 19 rfl
theorem dX9_felled_34 : decode cX9_felled 34 = .ok (.getfield 13, 3) := dc_at daX9_felled_0 20 rfl
theorem dX9_felled_37 : decode cX9_felled 37 = .ok (.iconst 0, 1) := dc_at daX9_felled_0 21 rfl
theorem dX9_felled_38 : decode cX9_felled 38 = .ok (.iaload, 1) := dc_at daX9_felled_0 22 rfl
theorem dX9_felled_39 : decode cX9_felled 39 = .ok (.ifCond .ne 6, 3) := dc_at daX9_felled_0 23 rfl
def dlX9_felled_1 : List (Nat × Jvm.ClassFile.Instr × Nat) := [(42, .bipush (-5), 2), (44, .ireturn, 1), (45, .aload_n 0, 1), (46, .iconst 0, 1), (47, .iconst 0, 1), (48, .iload_n 1, 1), (49, .invokevirtual 269, 3), (52, .istore_n 3, 1), (53, .iconst 0, 1), (54, .istore 4, 2), (56, .iconst (-1), 1), (57, .istore 5, 2), (59, .iconst 0, 1), (60, .istore 6, 2), (62, .iload 6, 2), (64, .aload_n 0, 1), (65, .getfield 13, 3), (68, .iconst 0, 1), (69, .iaload, 1), (70, .if_icmp .ge 81, 3), (73, .aload_n 0, 1), (74, .getfield 13, 3), (77, .bipush 48, 2), (79, .iload 6, 2)]
theorem daX9_felled_1 : dlX9_felled_1.all (dcK cX9_felled) = true := by decide +kernel
theorem dX9_felled_42 : decode cX9_felled 42 = .ok (.bipush (-5), 2) := dc_at daX9_felled_1 0 rfl
theorem dX9_felled_44 : decode cX9_felled 44 = .ok (.ireturn, 1) := dc_at daX9_felled_1 1 rfl
theorem dX9_felled_45 : decode cX9_felled 45 = .ok (.aload_n 0, 1) := dc_at daX9_felled_1 2 rfl
theorem dX9_felled_46 : decode cX9_felled 46 = .ok (.iconst 0, 1) := dc_at daX9_felled_1 3 rfl
theorem dX9_felled_47 : decode cX9_felled 47 = .ok (.iconst 0, 1) := dc_at daX9_felled_1 4 rfl
theorem dX9_felled_48 : decode cX9_felled 48 = .ok (.iload_n 1, 1) := dc_at daX9_felled_1 5 rfl
theorem dX9_felled_49 : decode cX9_felled 49 = .ok (.invokevirtual 269, 3) := dc_at daX9_felled_1 6 rfl
theorem dX9_felled_52 : decode cX9_felled 52 = .ok (.istore_n 3, 1) := dc_at daX9_felled_1 7 rfl
theorem dX9_felled_53 : decode cX9_felled 53 = .ok (.iconst 0, 1) := dc_at daX9_felled_1 8 rfl
theorem dX9_felled_54 : decode cX9_felled 54 = .ok (.istore 4, 2) := dc_at daX9_felled_1 9 rfl
theorem dX9_felled_56 : decode cX9_felled 56 = .ok (.iconst (-1), 1) := dc_at daX9_felled_1 10 rfl
theorem dX9_felled_57 : decode cX9_felled 57 = .ok (.istore 5, 2) := dc_at daX9_felled_1 11 rfl
theorem dX9_felled_59 : decode cX9_felled 59 = .ok (.iconst 0, 1) := dc_at daX9_felled_1 12 rfl
theorem dX9_felled_60 : decode cX9_felled 60 = .ok (.istore 6, 2) := dc_at daX9_felled_1 13 rfl
theorem dX9_felled_62 : decode cX9_felled 62 = .ok (.iload 6, 2) := dc_at daX9_felled_1 14 rfl
theorem dX9_felled_64 : decode cX9_felled 64 = .ok (.aload_n 0, 1) := dc_at daX9_felled_1 15 rfl
theorem dX9_felled_65 : decode cX9_felled 65 = .ok (.getfield 13, 3) := dc_at daX9_felled_1 16 rfl
theorem dX9_felled_68 : decode cX9_felled 68 = .ok (.iconst 0, 1) := dc_at daX9_felled_1 17 rfl
theorem dX9_felled_69 : decode cX9_felled 69 = .ok (.iaload, 1) := dc_at daX9_felled_1 18 rfl
theorem dX9_felled_70 : decode cX9_felled 70 = .ok (.if_icmp .ge 81, 3) := dc_at daX9_felled_1 19 rfl
theorem dX9_felled_73 : decode cX9_felled 73 = .ok (.aload_n 0, 1) := dc_at daX9_felled_1 20 rfl
theorem dX9_felled_74 : decode cX9_felled 74 = .ok (.getfield 13, 3) := dc_at daX9_felled_1 21 rfl
theorem dX9_felled_77 : decode cX9_felled 77 = .ok (.bipush 48, 2) := dc_at daX9_felled_1 22 rfl
theorem dX9_felled_79 : decode cX9_felled 79 = .ok (.iload 6, 2) := dc_at daX9_felled_1 23 rfl
def dlX9_felled_2 : List (Nat × Jvm.ClassFile.Instr × Nat) := [(81, .iadd, 1), (82, .iaload, 1), (83, .istore 7, 2), (85, .iload 7, 2), (87, .ifCond .ne 6, 3), (90, .goto 55, 3), (93, .aload_n 0, 1), (94, .getfield 13, 3), (97, .bipush 48, 2), (99, .iload 6, 2), (101, .iadd, 1), (102, .iconst 0, 1), (103, .iastore, 1), (104, .aload_n 0, 1), (105, .iconst 0, 1), (106, .iconst 0, 1), (107, .iload_n 1, 1), (108, .invokevirtual 269, 3), (111, .iload_n 3, 1), (112, .isub, 1), (113, .istore 8, 2), (115, .aload_n 0, 1), (116, .getfield 13, 3), (119, .bipush 48, 2)]
theorem daX9_felled_2 : dlX9_felled_2.all (dcK cX9_felled) = true := by decide +kernel
theorem dX9_felled_81 : decode cX9_felled 81 = .ok (.iadd, 1) := dc_at daX9_felled_2 0 rfl
theorem dX9_felled_82 : decode cX9_felled 82 = .ok (.iaload, 1) := dc_at daX9_felled_2 1 rfl
theorem dX9_felled_83 : decode cX9_felled 83 = .ok (.istore 7, 2) := dc_at daX9_felled_2 2 rfl
theorem dX9_felled_85 : decode cX9_felled 85 = .ok (.iload 7, 2) := dc_at daX9_felled_2 3 rfl
theorem dX9_felled_87 : decode cX9_felled 87 = .ok (.ifCond .ne 6, 3) := dc_at daX9_felled_2 4 rfl
theorem dX9_felled_90 : decode cX9_felled 90 = .ok (.goto 55, 3) := dc_at daX9_felled_2 5 rfl
theorem dX9_felled_93 : decode cX9_felled 93 = .ok (.aload_n 0, 1) := dc_at daX9_felled_2 6 rfl
theorem dX9_felled_94 : decode cX9_felled 94 = .ok (.getfield 13, 3) := dc_at daX9_felled_2 7 rfl
theorem dX9_felled_97 : decode cX9_felled 97 = .ok (.bipush 48, 2) := dc_at daX9_felled_2 8 rfl
theorem dX9_felled_99 : decode cX9_felled 99 = .ok (.iload 6, 2) := dc_at daX9_felled_2 9 rfl
theorem dX9_felled_101 : decode cX9_felled 101 = .ok (.iadd, 1) := dc_at daX9_felled_2 10 rfl
theorem dX9_felled_102 : decode cX9_felled 102 = .ok (.iconst 0, 1) := dc_at daX9_felled_2 11 rfl
theorem dX9_felled_103 : decode cX9_felled 103 = .ok (.iastore, 1) := dc_at daX9_felled_2 12 rfl
theorem dX9_felled_104 : decode cX9_felled 104 = .ok (.aload_n 0, 1) := dc_at daX9_felled_2 13 rfl
theorem dX9_felled_105 : decode cX9_felled 105 = .ok (.iconst 0, 1) := dc_at daX9_felled_2 14 rfl
theorem dX9_felled_106 : decode cX9_felled 106 = .ok (.iconst 0, 1) := dc_at daX9_felled_2 15 rfl
theorem dX9_felled_107 : decode cX9_felled 107 = .ok (.iload_n 1, 1) := dc_at daX9_felled_2 16 rfl
theorem dX9_felled_108 : decode cX9_felled 108 = .ok (.invokevirtual 269, 3) := dc_at daX9_felled_2 17 rfl
theorem dX9_felled_111 : decode cX9_felled 111 = .ok (.iload_n 3, 1) := dc_at daX9_felled_2 18 rfl
theorem dX9_felled_112 : decode cX9_felled 112 = .ok (.isub, 1) := dc_at daX9_felled_2 19 rfl
theorem dX9_felled_113 : decode cX9_felled 113 = .ok (.istore 8, 2) := dc_at daX9_felled_2 20 rfl
theorem dX9_felled_115 : decode cX9_felled 115 = .ok (.aload_n 0, 1) := dc_at daX9_felled_2 21 rfl
theorem dX9_felled_116 : decode cX9_felled 116 = .ok (.getfield 13, 3) := dc_at daX9_felled_2 22 rfl
theorem dX9_felled_119 : decode cX9_felled 119 = .ok (.bipush 48, 2) := dc_at daX9_felled_2 23 rfl
def dlX9_felled_3 : List (Nat × Jvm.ClassFile.Instr × Nat) := [(121, .iload 6, 2), (123, .iadd, 1), (124, .iload 7, 2), (126, .iastore, 1), (127, .iload 8, 2), (129, .iload 4, 2), (131, .if_icmp .gt 6, 3), (134, .goto 11, 3), (137, .iload 8, 2), (139, .istore 4, 2), (141, .iload 6, 2), (143, .istore 5, 2), (145, .iinc 6 1, 3), (148, .goto (-86), 3), (151, .iload_n 2, 1), (152, .ifCond .ne 8, 3), (155, .iload 4, 2), (157, .goto 5, 3), (160, .iload 5, 2), (162, .ireturn, 1)]
theorem daX9_felled_3 : dlX9_felled_3.all (dcK cX9_felled) = true := by decide +kernel
theorem dX9_felled_121 : decode cX9_felled 121 = .ok (.iload 6, 2) := dc_at daX9_felled_3 0 rfl
theorem dX9_felled_123 : decode cX9_felled 123 = .ok (.iadd, 1) := dc_at daX9_felled_3 1 rfl
theorem dX9_felled_124 : decode cX9_felled 124 = .ok (.iload 7, 2) := dc_at daX9_felled_3 2 rfl
theorem dX9_felled_126 : decode cX9_felled 126 = .ok (.iastore, 1) := dc_at daX9_felled_3 3 rfl
theorem dX9_felled_127 : decode cX9_felled 127 = .ok (.iload 8, 2) := dc_at daX9_felled_3 4 rfl
theorem dX9_felled_129 : decode cX9_felled 129 = .ok (.iload 4, 2) := dc_at daX9_felled_3 5 rfl
theorem dX9_felled_131 : decode cX9_felled 131 = .ok (.if_icmp .gt 6, 3) := dc_at daX9_felled_3 6 rfl
theorem dX9_felled_134 : decode cX9_felled 134 = .ok (.goto 11, 3) := dc_at daX9_felled_3 7 rfl
theorem dX9_felled_137 : decode cX9_felled 137 = .ok (.iload 8, 2) := dc_at daX9_felled_3 8 rfl
theorem dX9_felled_139 : decode cX9_felled 139 = .ok (.istore 4, 2) := dc_at daX9_felled_3 9 rfl
theorem dX9_felled_141 : decode cX9_felled 141 = .ok (.iload 6, 2) := dc_at daX9_felled_3 10 rfl
theorem dX9_felled_143 : decode cX9_felled 143 = .ok (.istore 5, 2) := dc_at daX9_felled_3 11 rfl
theorem dX9_felled_145 : decode cX9_felled 145 = .ok (.iinc 6 1, 3) := dc_at daX9_felled_3 12 rfl
theorem dX9_felled_148 : decode cX9_felled 148 = .ok (.goto (-86), 3) := dc_at daX9_felled_3 13 rfl
theorem dX9_felled_151 : decode cX9_felled 151 = .ok (.iload_n 2, 1) := dc_at daX9_felled_3 14 rfl
theorem dX9_felled_152 : decode cX9_felled 152 = .ok (.ifCond .ne 8, 3) := dc_at daX9_felled_3 15 rfl
theorem dX9_felled_155 : decode cX9_felled 155 = .ok (.iload 4, 2) := dc_at daX9_felled_3 16 rfl
theorem dX9_felled_157 : decode cX9_felled 157 = .ok (.goto 5, 3) := dc_at daX9_felled_3 17 rfl
theorem dX9_felled_160 : decode cX9_felled 160 = .ok (.iload 5, 2) := dc_at daX9_felled_3 18 rfl
theorem dX9_felled_162 : decode cX9_felled 162 = .ok (.ireturn, 1) := dc_at daX9_felled_3 19 rfl
def dlX9_soonest_0 : List (Nat × Jvm.ClassFile.Instr × Nat) := [(0, .aload_n 0, 1), (1, .iconst 0, 1), (2, .putfield 1, 3), (5, .iload_n 1, 1), (6, .i2l, 1), (7, .lconst 0, 1), (8, .ldc2_w 278, 3), (11, .invokestatic 128, 3), (14, .ifCond .ne 6, 3), (17, .bipush (-3), 2), (19, .ireturn, 1), (20, .aload_n 0, 1), (21, .getfield 13, 3), (24, .iconst 0, 1), (25, .iaload, 1), (26, .ifCond .ne 6, 3), (29, .bipush (-5), 2), (31, .ireturn, 1), (32, .iconst 0, 1), (33, .istore_n 2, 1), (34, .iload_n 2, 1), (35, .bipush 8, 2), (37, .if_icmp .gt 22, 3), (40, .aload_n 0, 1)]
theorem daX9_soonest_0 : dlX9_soonest_0.all (dcK cX9_soonest) = true := by decide +kernel
theorem dX9_soonest_0 : decode cX9_soonest 0 = .ok (.aload_n 0, 1) := dc_at daX9_soonest_0 0 rfl
theorem dX9_soonest_1 : decode cX9_soonest 1 = .ok (.iconst 0, 1) := dc_at daX9_soonest_0 1 rfl
theorem dX9_soonest_2 : decode cX9_soonest 2 = .ok (.putfield 1, 3) := dc_at daX9_soonest_0 2 rfl
theorem dX9_soonest_5 : decode cX9_soonest 5 = .ok (.iload_n 1, 1) := dc_at daX9_soonest_0 3 rfl
theorem dX9_soonest_6 : decode cX9_soonest 6 = .ok (.i2l, 1) := dc_at daX9_soonest_0 4 rfl
theorem dX9_soonest_7 : decode cX9_soonest 7 = .ok (.lconst 0, 1) := dc_at daX9_soonest_0 5 rfl
theorem dX9_soonest_8 : decode cX9_soonest 8 = .ok (.ldc2_w 278, 3) := dc_at daX9_soonest_0 6 rfl
theorem dX9_soonest_11 : decode cX9_soonest 11 = .ok (.invokestatic 128, 3) := dc_at daX9_soonest_0 7 rfl
theorem dX9_soonest_14 : decode cX9_soonest 14 = .ok (.ifCond .ne 6, 3) := dc_at daX9_soonest_0 8 rfl
theorem dX9_soonest_17 : decode cX9_soonest 17 = .ok (.bipush (-3), 2) := dc_at daX9_soonest_0 9 rfl
theorem dX9_soonest_19 : decode cX9_soonest 19 = .ok (.ireturn, 1) := dc_at daX9_soonest_0 10 rfl
theorem dX9_soonest_20 : decode cX9_soonest 20 = .ok (.aload_n 0, 1) := dc_at daX9_soonest_0 11 rfl
theorem dX9_soonest_21 : decode cX9_soonest 21 = .ok (.getfield 13, 3) := dc_at daX9_soonest_0 12 rfl
theorem dX9_soonest_24 : decode cX9_soonest 24 = .ok (.iconst 0, 1) := dc_at daX9_soonest_0 13 rfl
theorem dX9_soonest_25 : decode cX9_soonest 25 = .ok (.iaload, 1) := dc_at daX9_soonest_0 14 rfl
theorem dX9_soonest_26 : decode cX9_soonest 26 = .ok (.ifCond .ne 6, 3) := dc_at daX9_soonest_0 15 rfl
theorem dX9_soonest_29 : decode cX9_soonest 29 = .ok (.bipush (-5), 2) := dc_at daX9_soonest_0 16 rfl
theorem dX9_soonest_31 : decode cX9_soonest 31 = .ok (.ireturn, 1) := dc_at daX9_soonest_0 17 rfl
theorem dX9_soonest_32 : decode cX9_soonest 32 = .ok (.iconst 0, 1) := dc_at daX9_soonest_0 18 rfl
theorem dX9_soonest_33 : decode cX9_soonest 33 = .ok (.istore_n 2, 1) := dc_at daX9_soonest_0 19 rfl
theorem dX9_soonest_34 : decode cX9_soonest 34 = .ok (.iload_n 2, 1) := dc_at daX9_soonest_0 20 rfl
theorem dX9_soonest_35 : decode cX9_soonest 35 = .ok (.bipush 8, 2) := dc_at daX9_soonest_0 21 rfl
theorem dX9_soonest_37 : decode cX9_soonest 37 = .ok (.if_icmp .gt 22, 3) := dc_at daX9_soonest_0 22 rfl
theorem dX9_soonest_40 : decode cX9_soonest 40 = .ok (.aload_n 0, 1) := dc_at daX9_soonest_0 23 rfl
def dlX9_soonest_1 : List (Nat × Jvm.ClassFile.Instr × Nat) := [(41, .iconst 0, 1), (42, .iconst 0, 1), (43, .iload_n 2, 1), (44, .invokevirtual 269, 3), (47, .iload_n 1, 1), (48, .if_icmp .lt 5, 3), (51, .iload_n 2, 1), (52, .ireturn, 1), (53, .iinc 2 1, 3), (56, .goto (-22), 3), (59, .iconst (-1), 1), (60, .ireturn, 1)]
theorem daX9_soonest_1 : dlX9_soonest_1.all (dcK cX9_soonest) = true := by decide +kernel
theorem dX9_soonest_41 : decode cX9_soonest 41 = .ok (.iconst 0, 1) := dc_at daX9_soonest_1 0 rfl
theorem dX9_soonest_42 : decode cX9_soonest 42 = .ok (.iconst 0, 1) := dc_at daX9_soonest_1 1 rfl
theorem dX9_soonest_43 : decode cX9_soonest 43 = .ok (.iload_n 2, 1) := dc_at daX9_soonest_1 2 rfl
theorem dX9_soonest_44 : decode cX9_soonest 44 = .ok (.invokevirtual 269, 3) := dc_at daX9_soonest_1 3 rfl
theorem dX9_soonest_47 : decode cX9_soonest 47 = .ok (.iload_n 1, 1) := dc_at daX9_soonest_1 4 rfl
theorem dX9_soonest_48 : decode cX9_soonest 48 = .ok (.if_icmp .lt 5, 3) := dc_at daX9_soonest_1 5 rfl
theorem dX9_soonest_51 : decode cX9_soonest 51 = .ok (.iload_n 2, 1) := dc_at daX9_soonest_1 6 rfl
theorem dX9_soonest_52 : decode cX9_soonest 52 = .ok (.ireturn, 1) := dc_at daX9_soonest_1 7 rfl
theorem dX9_soonest_53 : decode cX9_soonest 53 = .ok (.iinc 2 1, 3) := dc_at daX9_soonest_1 8 rfl
theorem dX9_soonest_56 : decode cX9_soonest 56 = .ok (.goto (-22), 3) := dc_at daX9_soonest_1 9 rfl
theorem dX9_soonest_59 : decode cX9_soonest 59 = .ok (.iconst (-1), 1) := dc_at daX9_soonest_1 10 rfl
theorem dX9_soonest_60 : decode cX9_soonest 60 = .ok (.ireturn, 1) := dc_at daX9_soonest_1 11 rfl
def dlX9_dark_0 : List (Nat × Jvm.ClassFile.Instr × Nat) := [(0, .aload_n 0, 1), (1, .iconst 0, 1), (2, .putfield 1, 3), (5, .iconst 1, 1), (6, .aload_n 0, 1), (7, .getfield 13, 3), (10, .iconst 0, 1), (11, .iaload, 1), (12, .ishl, 1), (13, .iconst 1, 1), (14, .isub, 1), (15, .istore_n 1, 1), (16, .iconst 0, 1), (17, .istore_n 2, 1), (18, .iload_n 2, 1), (19, .aload_n 0, 1), (20, .getfield 13, 3), (23, .iconst 0, 1), (24, .iaload, 1), (25, .if_icmp .ge 25, 3), (28, .iload_n 1, 1), (29, .aload_n 0, 1), (30, .iload_n 2, 1), (31, .aload_n 0, 1)]
theorem daX9_dark_0 : dlX9_dark_0.all (dcK cX9_dark) = true := by decide +kernel
theorem dX9_dark_0 : decode cX9_dark 0 = .ok (.aload_n 0, 1) := dc_at daX9_dark_0 0 rfl
theorem dX9_dark_1 : decode cX9_dark 1 = .ok (.iconst 0, 1) := dc_at daX9_dark_0 1 rfl
theorem dX9_dark_2 : decode cX9_dark 2 = .ok (.putfield 1, 3) := dc_at daX9_dark_0 2 rfl
theorem dX9_dark_5 : decode cX9_dark 5 = .ok (.iconst 1, 1) := dc_at daX9_dark_0 3 rfl
theorem dX9_dark_6 : decode cX9_dark 6 = .ok (.aload_n 0, 1) := dc_at daX9_dark_0 4 rfl
theorem dX9_dark_7 : decode cX9_dark 7 = .ok (.getfield 13, 3) := dc_at daX9_dark_0 5 rfl
theorem dX9_dark_10 : decode cX9_dark 10 = .ok (.iconst 0, 1) := dc_at daX9_dark_0 6 rfl
theorem dX9_dark_11 : decode cX9_dark 11 = .ok (.iaload, 1) := dc_at daX9_dark_0 7 rfl
theorem dX9_dark_12 : decode cX9_dark 12 = .ok (.ishl, 1) := dc_at daX9_dark_0 8 rfl
theorem dX9_dark_13 : decode cX9_dark 13 = .ok (.iconst 1, 1) := dc_at daX9_dark_0 9 rfl
theorem dX9_dark_14 : decode cX9_dark 14 = .ok (.isub, 1) := dc_at daX9_dark_0 10 rfl
theorem dX9_dark_15 : decode cX9_dark 15 = .ok (.istore_n 1, 1) := dc_at daX9_dark_0 11 rfl
theorem dX9_dark_16 : decode cX9_dark 16 = .ok (.iconst 0, 1) := dc_at daX9_dark_0 12 rfl
theorem dX9_dark_17 : decode cX9_dark 17 = .ok (.istore_n 2, 1) := dc_at daX9_dark_0 13 rfl
theorem dX9_dark_18 : decode cX9_dark 18 = .ok (.iload_n 2, 1) := dc_at daX9_dark_0 14 rfl
theorem dX9_dark_19 : decode cX9_dark 19 = .ok (.aload_n 0, 1) := dc_at daX9_dark_0 15 rfl
theorem dX9_dark_20 : decode cX9_dark 20 = .ok (.getfield 13, 3) := dc_at daX9_dark_0 16 rfl
theorem dX9_dark_23 : decode cX9_dark 23 = .ok (.iconst 0, 1) := dc_at daX9_dark_0 17 rfl
theorem dX9_dark_24 : decode cX9_dark 24 = .ok (.iaload, 1) := dc_at daX9_dark_0 18 rfl
theorem dX9_dark_25 : decode cX9_dark 25 = .ok (.if_icmp .ge 25, 3) := dc_at daX9_dark_0 19 rfl
theorem dX9_dark_28 : decode cX9_dark 28 = .ok (.iload_n 1, 1) := dc_at daX9_dark_0 20 rfl
theorem dX9_dark_29 : decode cX9_dark 29 = .ok (.aload_n 0, 1) := dc_at daX9_dark_0 21 rfl
theorem dX9_dark_30 : decode cX9_dark 30 = .ok (.iload_n 2, 1) := dc_at daX9_dark_0 22 rfl
theorem dX9_dark_31 : decode cX9_dark 31 = .ok (.aload_n 0, 1) := dc_at daX9_dark_0 23 rfl
def dlX9_dark_1 : List (Nat × Jvm.ClassFile.Instr × Nat) := [(32, .getfield 13, 3), (35, .iconst 3, 1), (36, .iaload, 1), (37, .invokevirtual 188, 3), (40, .iconst (-1), 1), (41, .ixor, 1), (42, .iand, 1), (43, .istore_n 1, 1), (44, .iinc 2 1, 3), (47, .goto (-29), 3), (50, .iload_n 1, 1), (51, .ireturn, 1)]
theorem daX9_dark_1 : dlX9_dark_1.all (dcK cX9_dark) = true := by decide +kernel
theorem dX9_dark_32 : decode cX9_dark 32 = .ok (.getfield 13, 3) := dc_at daX9_dark_1 0 rfl
theorem dX9_dark_35 : decode cX9_dark 35 = .ok (.iconst 3, 1) := dc_at daX9_dark_1 1 rfl
theorem dX9_dark_36 : decode cX9_dark 36 = .ok (.iaload, 1) := dc_at daX9_dark_1 2 rfl
theorem dX9_dark_37 : decode cX9_dark 37 = .ok (.invokevirtual 188, 3) := dc_at daX9_dark_1 3 rfl
theorem dX9_dark_40 : decode cX9_dark 40 = .ok (.iconst (-1), 1) := dc_at daX9_dark_1 4 rfl
theorem dX9_dark_41 : decode cX9_dark 41 = .ok (.ixor, 1) := dc_at daX9_dark_1 5 rfl
theorem dX9_dark_42 : decode cX9_dark 42 = .ok (.iand, 1) := dc_at daX9_dark_1 6 rfl
theorem dX9_dark_43 : decode cX9_dark 43 = .ok (.istore_n 1, 1) := dc_at daX9_dark_1 7 rfl
theorem dX9_dark_44 : decode cX9_dark 44 = .ok (.iinc 2 1, 3) := dc_at daX9_dark_1 8 rfl
theorem dX9_dark_47 : decode cX9_dark 47 = .ok (.goto (-29), 3) := dc_at daX9_dark_1 9 rfl
theorem dX9_dark_50 : decode cX9_dark 50 = .ok (.iload_n 1, 1) := dc_at daX9_dark_1 10 rfl
theorem dX9_dark_51 : decode cX9_dark 51 = .ok (.ireturn, 1) := dc_at daX9_dark_1 11 rfl
def dlX9_isMet_0 : List (Nat × Jvm.ClassFile.Instr × Nat) := [(0, .iconst 0, 1), (1, .istore_n 1, 1), (2, .iload_n 1, 1), (3, .aload_n 0, 1), (4, .getfield 280, 3), (7, .if_icmp .ge 62, 3), (10, .iconst 0, 1), (11, .istore_n 2, 1), (12, .iload_n 2, 1), (13, .aload_n 0, 1), (14, .getfield 13, 3), (17, .iconst 0, 1), (18, .iaload, 1), (19, .if_icmp .ge 32, 3), (22, .aload_n 0, 1), (23, .getfield 45, 3), (26, .bipush 16, 2), (28, .iload_n 1, 1), (29, .imul, 1), (30, .iload_n 2, 1), (31, .iadd, 1), (32, .iaload, 1), (33, .aload_n 0, 1), (34, .getfield 13, 3)]
theorem daX9_isMet_0 : dlX9_isMet_0.all (dcK cX9_isMet) = true := by decide +kernel
theorem dX9_isMet_0 : decode cX9_isMet 0 = .ok (.iconst 0, 1) := dc_at daX9_isMet_0 0 rfl
theorem dX9_isMet_1 : decode cX9_isMet 1 = .ok (.istore_n 1, 1) := dc_at daX9_isMet_0 1 rfl
theorem dX9_isMet_2 : decode cX9_isMet 2 = .ok (.iload_n 1, 1) := dc_at daX9_isMet_0 2 rfl
theorem dX9_isMet_3 : decode cX9_isMet 3 = .ok (.aload_n 0, 1) := dc_at daX9_isMet_0 3 rfl
theorem dX9_isMet_4 : decode cX9_isMet 4 = .ok (.getfield 280, 3) := dc_at daX9_isMet_0 4 rfl
theorem dX9_isMet_7 : decode cX9_isMet 7 = .ok (.if_icmp .ge 62, 3) := dc_at daX9_isMet_0 5 rfl
theorem dX9_isMet_10 : decode cX9_isMet 10 = .ok (.iconst 0, 1) := dc_at daX9_isMet_0 6 rfl
theorem dX9_isMet_11 : decode cX9_isMet 11 = .ok (.istore_n 2, 1) := dc_at daX9_isMet_0 7 rfl
theorem dX9_isMet_12 : decode cX9_isMet 12 = .ok (.iload_n 2, 1) := dc_at daX9_isMet_0 8 rfl
theorem dX9_isMet_13 : decode cX9_isMet 13 = .ok (.aload_n 0, 1) := dc_at daX9_isMet_0 9 rfl
theorem dX9_isMet_14 : decode cX9_isMet 14 = .ok (.getfield 13, 3) := dc_at daX9_isMet_0 10 rfl
theorem dX9_isMet_17 : decode cX9_isMet 17 = .ok (.iconst 0, 1) := dc_at daX9_isMet_0 11 rfl
theorem dX9_isMet_18 : decode cX9_isMet 18 = .ok (.iaload, 1) := dc_at daX9_isMet_0 12 rfl
theorem dX9_isMet_19 : decode cX9_isMet 19 = .ok (.if_icmp .ge 32, 3) := dc_at daX9_isMet_0 13 rfl
theorem dX9_isMet_22 : decode cX9_isMet 22 = .ok (.aload_n 0, 1) := dc_at daX9_isMet_0 14 rfl
theorem dX9_isMet_23 : decode cX9_isMet 23 = .ok (.getfield 45, 3) := dc_at daX9_isMet_0 15 rfl
theorem dX9_isMet_26 : decode cX9_isMet 26 = .ok (.bipush 16, 2) := dc_at daX9_isMet_0 16 rfl
theorem dX9_isMet_28 : decode cX9_isMet 28 = .ok (.iload_n 1, 1) := dc_at daX9_isMet_0 17 rfl
theorem dX9_isMet_29 : decode cX9_isMet 29 = .ok (.imul, 1) := dc_at daX9_isMet_0 18 rfl
theorem dX9_isMet_30 : decode cX9_isMet 30 = .ok (.iload_n 2, 1) := dc_at daX9_isMet_0 19 rfl
theorem dX9_isMet_31 : decode cX9_isMet 31 = .ok (.iadd, 1) := dc_at daX9_isMet_0 20 rfl
theorem dX9_isMet_32 : decode cX9_isMet 32 = .ok (.iaload, 1) := dc_at daX9_isMet_0 21 rfl
theorem dX9_isMet_33 : decode cX9_isMet 33 = .ok (.aload_n 0, 1) := dc_at daX9_isMet_0 22 rfl
theorem dX9_isMet_34 : decode cX9_isMet 34 = .ok (.getfield 13, 3) := dc_at daX9_isMet_0 23 rfl
def dlX9_isMet_1 : List (Nat × Jvm.ClassFile.Instr × Nat) := [(37, .bipush 16, 2), (39, .iload_n 2, 1), (40, .iadd, 1), (41, .iaload, 1), (42, .if_icmp .ne 9, 3), (45, .iinc 2 1, 3), (48, .goto (-36), 3), (51, .iload_n 2, 1), (52, .aload_n 0, 1), (53, .getfield 13, 3), (56, .iconst 0, 1), (57, .iaload, 1), (58, .if_icmp .ne 5, 3), (61, .iconst 1, 1), (62, .ireturn, 1), (63, .iinc 1 1, 3), (66, .goto (-64), 3), (69, .iconst 0, 1), (70, .ireturn, 1)]
theorem daX9_isMet_1 : dlX9_isMet_1.all (dcK cX9_isMet) = true := by decide +kernel
theorem dX9_isMet_37 : decode cX9_isMet 37 = .ok (.bipush 16, 2) := dc_at daX9_isMet_1 0 rfl
theorem dX9_isMet_39 : decode cX9_isMet 39 = .ok (.iload_n 2, 1) := dc_at daX9_isMet_1 1 rfl
theorem dX9_isMet_40 : decode cX9_isMet 40 = .ok (.iadd, 1) := dc_at daX9_isMet_1 2 rfl
theorem dX9_isMet_41 : decode cX9_isMet 41 = .ok (.iaload, 1) := dc_at daX9_isMet_1 3 rfl
theorem dX9_isMet_42 : decode cX9_isMet 42 = .ok (.if_icmp .ne 9, 3) := dc_at daX9_isMet_1 4 rfl
theorem dX9_isMet_45 : decode cX9_isMet 45 = .ok (.iinc 2 1, 3) := dc_at daX9_isMet_1 5 rfl
theorem dX9_isMet_48 : decode cX9_isMet 48 = .ok (.goto (-36), 3) := dc_at daX9_isMet_1 6 rfl
theorem dX9_isMet_51 : decode cX9_isMet 51 = .ok (.iload_n 2, 1) := dc_at daX9_isMet_1 7 rfl
theorem dX9_isMet_52 : decode cX9_isMet 52 = .ok (.aload_n 0, 1) := dc_at daX9_isMet_1 8 rfl
theorem dX9_isMet_53 : decode cX9_isMet 53 = .ok (.getfield 13, 3) := dc_at daX9_isMet_1 9 rfl
theorem dX9_isMet_56 : decode cX9_isMet 56 = .ok (.iconst 0, 1) := dc_at daX9_isMet_1 10 rfl
theorem dX9_isMet_57 : decode cX9_isMet 57 = .ok (.iaload, 1) := dc_at daX9_isMet_1 11 rfl
theorem dX9_isMet_58 : decode cX9_isMet 58 = .ok (.if_icmp .ne 5, 3) := dc_at daX9_isMet_1 12 rfl
theorem dX9_isMet_61 : decode cX9_isMet 61 = .ok (.iconst 1, 1) := dc_at daX9_isMet_1 13 rfl
theorem dX9_isMet_62 : decode cX9_isMet 62 = .ok (.ireturn, 1) := dc_at daX9_isMet_1 14 rfl
theorem dX9_isMet_63 : decode cX9_isMet 63 = .ok (.iinc 1 1, 3) := dc_at daX9_isMet_1 15 rfl
theorem dX9_isMet_66 : decode cX9_isMet 66 = .ok (.goto (-64), 3) := dc_at daX9_isMet_1 16 rfl
theorem dX9_isMet_69 : decode cX9_isMet 69 = .ok (.iconst 0, 1) := dc_at daX9_isMet_1 17 rfl
theorem dX9_isMet_70 : decode cX9_isMet 70 = .ok (.ireturn, 1) := dc_at daX9_isMet_1 18 rfl
def dlX9_gathers_0 : List (Nat × Jvm.ClassFile.Instr × Nat) := [(0, .iload_n 1, 1), (1, .iload_n 2, 1), (2, .if_icmp .ne 63, 3), (5, .aload_n 0, 1), (6, .invokevirtual 283, 3), (9, .ifCond .eq 4, 3), (12, .return_, 1), (13, .iconst 0, 1), (14, .istore_n 3, 1), (15, .iload_n 3, 1), (16, .aload_n 0, 1), (17, .getfield 13, 3), (20, .iconst 0, 1), (21, .iaload, 1), (22, .if_icmp .ge 32, 3), (25, .aload_n 0, 1), (26, .getfield 45, 3), (29, .bipush 16, 2), (31, .aload_n 0, 1), (32, .getfield 280, 3), (35, .imul, 1), (36, .iload_n 3, 1), (37, .iadd, 1), (38, .aload_n 0, 1)]
theorem daX9_gathers_0 : dlX9_gathers_0.all (dcK cX9_gathers) = true := by decide +kernel
theorem dX9_gathers_0 : decode cX9_gathers 0 = .ok (.iload_n 1, 1) := dc_at daX9_gathers_0 0 rfl
theorem dX9_gathers_1 : decode cX9_gathers 1 = .ok (.iload_n 2, 1) := dc_at daX9_gathers_0 1 rfl
theorem dX9_gathers_2 : decode cX9_gathers 2 = .ok (.if_icmp .ne 63, 3) := dc_at daX9_gathers_0 2 rfl
theorem dX9_gathers_5 : decode cX9_gathers 5 = .ok (.aload_n 0, 1) := dc_at daX9_gathers_0 3 rfl
theorem dX9_gathers_6 : decode cX9_gathers 6 = .ok (.invokevirtual 283, 3) := dc_at daX9_gathers_0 4 rfl
theorem dX9_gathers_9 : decode cX9_gathers 9 = .ok (.ifCond .eq 4, 3) := dc_at daX9_gathers_0 5 rfl
theorem dX9_gathers_12 : decode cX9_gathers 12 = .ok (.return_, 1) := dc_at daX9_gathers_0 6 rfl
theorem dX9_gathers_13 : decode cX9_gathers 13 = .ok (.iconst 0, 1) := dc_at daX9_gathers_0 7 rfl
theorem dX9_gathers_14 : decode cX9_gathers 14 = .ok (.istore_n 3, 1) := dc_at daX9_gathers_0 8 rfl
theorem dX9_gathers_15 : decode cX9_gathers 15 = .ok (.iload_n 3, 1) := dc_at daX9_gathers_0 9 rfl
theorem dX9_gathers_16 : decode cX9_gathers 16 = .ok (.aload_n 0, 1) := dc_at daX9_gathers_0 10 rfl
theorem dX9_gathers_17 : decode cX9_gathers 17 = .ok (.getfield 13, 3) := dc_at daX9_gathers_0 11 rfl
theorem dX9_gathers_20 : decode cX9_gathers 20 = .ok (.iconst 0, 1) := dc_at daX9_gathers_0 12 rfl
theorem dX9_gathers_21 : decode cX9_gathers 21 = .ok (.iaload, 1) := dc_at daX9_gathers_0 13 rfl
theorem dX9_gathers_22 : decode cX9_gathers 22 = .ok (.if_icmp .ge 32, 3) := dc_at daX9_gathers_0 14 rfl
theorem dX9_gathers_25 : decode cX9_gathers 25 = .ok (.aload_n 0, 1) := dc_at daX9_gathers_0 15 rfl
theorem dX9_gathers_26 : decode cX9_gathers 26 = .ok (.getfield 45, 3) := dc_at daX9_gathers_0 16 rfl
theorem dX9_gathers_29 : decode cX9_gathers 29 = .ok (.bipush 16, 2) := dc_at daX9_gathers_0 17 rfl
theorem dX9_gathers_31 : decode cX9_gathers 31 = .ok (.aload_n 0, 1) := dc_at daX9_gathers_0 18 rfl
theorem dX9_gathers_32 : decode cX9_gathers 32 = .ok (.getfield 280, 3) := dc_at daX9_gathers_0 19 rfl
theorem dX9_gathers_35 : decode cX9_gathers 35 = .ok (.imul, 1) := dc_at daX9_gathers_0 20 rfl
theorem dX9_gathers_36 : decode cX9_gathers 36 = .ok (.iload_n 3, 1) := dc_at daX9_gathers_0 21 rfl
theorem dX9_gathers_37 : decode cX9_gathers 37 = .ok (.iadd, 1) := dc_at daX9_gathers_0 22 rfl
theorem dX9_gathers_38 : decode cX9_gathers 38 = .ok (.aload_n 0, 1) := dc_at daX9_gathers_0 23 rfl
def dlX9_gathers_1 : List (Nat × Jvm.ClassFile.Instr × Nat) := [(39, .getfield 13, 3), (42, .bipush 16, 2), (44, .iload_n 3, 1), (45, .iadd, 1), (46, .iaload, 1), (47, .iastore, 1), (48, .iinc 3 1, 3), (51, .goto (-36), 3), (54, .aload_n 0, 1), (55, .dup, 1), (56, .getfield 280, 3), (59, .iconst 1, 1), (60, .iadd, 1), (61, .putfield 280, 3), (64, .return_, 1), (65, .aload_n 0, 1), (66, .iload_n 1, 1), (67, .invokevirtual 216, 3), (70, .iconst 0, 1), (71, .istore_n 3, 1), (72, .iload_n 3, 1), (73, .iconst 3, 1), (74, .if_icmp .ge 41, 3), (77, .aload_n 0, 1)]
theorem daX9_gathers_1 : dlX9_gathers_1.all (dcK cX9_gathers) = true := by decide +kernel
theorem dX9_gathers_39 : decode cX9_gathers 39 = .ok (.getfield 13, 3) := dc_at daX9_gathers_1 0 rfl
theorem dX9_gathers_42 : decode cX9_gathers 42 = .ok (.bipush 16, 2) := dc_at daX9_gathers_1 1 rfl
theorem dX9_gathers_44 : decode cX9_gathers 44 = .ok (.iload_n 3, 1) := dc_at daX9_gathers_1 2 rfl
theorem dX9_gathers_45 : decode cX9_gathers 45 = .ok (.iadd, 1) := dc_at daX9_gathers_1 3 rfl
theorem dX9_gathers_46 : decode cX9_gathers 46 = .ok (.iaload, 1) := dc_at daX9_gathers_1 4 rfl
theorem dX9_gathers_47 : decode cX9_gathers 47 = .ok (.iastore, 1) := dc_at daX9_gathers_1 5 rfl
theorem dX9_gathers_48 : decode cX9_gathers 48 = .ok (.iinc 3 1, 3) := dc_at daX9_gathers_1 6 rfl
theorem dX9_gathers_51 : decode cX9_gathers 51 = .ok (.goto (-36), 3) := dc_at daX9_gathers_1 7 rfl
theorem dX9_gathers_54 : decode cX9_gathers 54 = .ok (.aload_n 0, 1) := dc_at daX9_gathers_1 8 rfl
theorem dX9_gathers_55 : decode cX9_gathers 55 = .ok (.dup, 1) := dc_at daX9_gathers_1 9 rfl
theorem dX9_gathers_56 : decode cX9_gathers 56 = .ok (.getfield 280, 3) := dc_at daX9_gathers_1 10 rfl
theorem dX9_gathers_59 : decode cX9_gathers 59 = .ok (.iconst 1, 1) := dc_at daX9_gathers_1 11 rfl
theorem dX9_gathers_60 : decode cX9_gathers 60 = .ok (.iadd, 1) := dc_at daX9_gathers_1 12 rfl
theorem dX9_gathers_61 : decode cX9_gathers 61 = .ok (.putfield 280, 3) := dc_at daX9_gathers_1 13 rfl
theorem dX9_gathers_64 : decode cX9_gathers 64 = .ok (.return_, 1) := dc_at daX9_gathers_1 14 rfl
theorem dX9_gathers_65 : decode cX9_gathers 65 = .ok (.aload_n 0, 1) := dc_at daX9_gathers_1 15 rfl
theorem dX9_gathers_66 : decode cX9_gathers 66 = .ok (.iload_n 1, 1) := dc_at daX9_gathers_1 16 rfl
theorem dX9_gathers_67 : decode cX9_gathers 67 = .ok (.invokevirtual 216, 3) := dc_at daX9_gathers_1 17 rfl
theorem dX9_gathers_70 : decode cX9_gathers 70 = .ok (.iconst 0, 1) := dc_at daX9_gathers_1 18 rfl
theorem dX9_gathers_71 : decode cX9_gathers 71 = .ok (.istore_n 3, 1) := dc_at daX9_gathers_1 19 rfl
theorem dX9_gathers_72 : decode cX9_gathers 72 = .ok (.iload_n 3, 1) := dc_at daX9_gathers_1 20 rfl
theorem dX9_gathers_73 : decode cX9_gathers 73 = .ok (.iconst 3, 1) := dc_at daX9_gathers_1 21 rfl
theorem dX9_gathers_74 : decode cX9_gathers 74 = .ok (.if_icmp .ge 41, 3) := dc_at daX9_gathers_1 22 rfl
theorem dX9_gathers_77 : decode cX9_gathers 77 = .ok (.aload_n 0, 1) := dc_at daX9_gathers_1 23 rfl
def dlX9_gathers_2 : List (Nat × Jvm.ClassFile.Instr × Nat) := [(78, .iload_n 3, 1), (79, .i2l, 1), (80, .invokevirtual 202, 3), (83, .ifCond .eq 6, 3), (86, .goto 23, 3), (89, .aload_n 0, 1), (90, .iload_n 3, 1), (91, .iconst 0, 1), (92, .invokevirtual 206, 3), (95, .pop, 1), (96, .aload_n 0, 1), (97, .iload_n 1, 1), (98, .iconst 1, 1), (99, .iadd, 1), (100, .iload_n 2, 1), (101, .invokevirtual 287, 3), (104, .aload_n 0, 1), (105, .iload_n 1, 1), (106, .invokevirtual 222, 3), (109, .iinc 3 1, 3), (112, .goto (-40), 3), (115, .return_, 1)]
theorem daX9_gathers_2 : dlX9_gathers_2.all (dcK cX9_gathers) = true := by decide +kernel
theorem dX9_gathers_78 : decode cX9_gathers 78 = .ok (.iload_n 3, 1) := dc_at daX9_gathers_2 0 rfl
theorem dX9_gathers_79 : decode cX9_gathers 79 = .ok (.i2l, 1) := dc_at daX9_gathers_2 1 rfl
theorem dX9_gathers_80 : decode cX9_gathers 80 = .ok (.invokevirtual 202, 3) := dc_at daX9_gathers_2 2 rfl
theorem dX9_gathers_83 : decode cX9_gathers 83 = .ok (.ifCond .eq 6, 3) := dc_at daX9_gathers_2 3 rfl
theorem dX9_gathers_86 : decode cX9_gathers 86 = .ok (.goto 23, 3) := dc_at daX9_gathers_2 4 rfl
theorem dX9_gathers_89 : decode cX9_gathers 89 = .ok (.aload_n 0, 1) := dc_at daX9_gathers_2 5 rfl
theorem dX9_gathers_90 : decode cX9_gathers 90 = .ok (.iload_n 3, 1) := dc_at daX9_gathers_2 6 rfl
theorem dX9_gathers_91 : decode cX9_gathers 91 = .ok (.iconst 0, 1) := dc_at daX9_gathers_2 7 rfl
theorem dX9_gathers_92 : decode cX9_gathers 92 = .ok (.invokevirtual 206, 3) := dc_at daX9_gathers_2 8 rfl
theorem dX9_gathers_95 : decode cX9_gathers 95 = .ok (.pop, 1) := dc_at daX9_gathers_2 9 rfl
theorem dX9_gathers_96 : decode cX9_gathers 96 = .ok (.aload_n 0, 1) := dc_at daX9_gathers_2 10 rfl
theorem dX9_gathers_97 : decode cX9_gathers 97 = .ok (.iload_n 1, 1) := dc_at daX9_gathers_2 11 rfl
theorem dX9_gathers_98 : decode cX9_gathers 98 = .ok (.iconst 1, 1) := dc_at daX9_gathers_2 12 rfl
theorem dX9_gathers_99 : decode cX9_gathers 99 = .ok (.iadd, 1) := dc_at daX9_gathers_2 13 rfl
theorem dX9_gathers_100 : decode cX9_gathers 100 = .ok (.iload_n 2, 1) := dc_at daX9_gathers_2 14 rfl
theorem dX9_gathers_101 : decode cX9_gathers 101 = .ok (.invokevirtual 287, 3) := dc_at daX9_gathers_2 15 rfl
theorem dX9_gathers_104 : decode cX9_gathers 104 = .ok (.aload_n 0, 1) := dc_at daX9_gathers_2 16 rfl
theorem dX9_gathers_105 : decode cX9_gathers 105 = .ok (.iload_n 1, 1) := dc_at daX9_gathers_2 17 rfl
theorem dX9_gathers_106 : decode cX9_gathers 106 = .ok (.invokevirtual 222, 3) := dc_at daX9_gathers_2 18 rfl
theorem dX9_gathers_109 : decode cX9_gathers 109 = .ok (.iinc 3 1, 3) := dc_at daX9_gathers_2 19 rfl
theorem dX9_gathers_112 : decode cX9_gathers 112 = .ok (.goto (-40), 3) := dc_at daX9_gathers_2 20 rfl
theorem dX9_gathers_115 : decode cX9_gathers 115 = .ok (.return_, 1) := dc_at daX9_gathers_2 21 rfl
def dlX9_ends_0 : List (Nat × Jvm.ClassFile.Instr × Nat) := [(0, .aload_n 0, 1), (1, .iconst 0, 1), (2, .putfield 1, 3), (5, .iload_n 1, 1), (6, .i2l, 1), (7, .lconst 1, 1), (8, .ldc2_w 276, 3), (11, .invokestatic 128, 3), (14, .ifCond .ne 6, 3), (17, .bipush (-3), 2), (19, .ireturn, 1), (20, .aload_n 0, 1), (21, .getfield 13, 3), (24, .iconst 0, 1), (25, .iaload, 1), (26, .ifCond .ne 6, 3), (29, .bipush (-5), 2), (31, .ireturn, 1), (32, .aload_n 0, 1), (33, .iconst 0, 1), (34, .putfield 280, 3), (37, .aload_n 0, 1), (38, .iconst 0, 1), (39, .aload_n 0, 1)]
theorem daX9_ends_0 : dlX9_ends_0.all (dcK cX9_ends) = true := by decide +kernel
theorem dX9_ends_0 : decode cX9_ends 0 = .ok (.aload_n 0, 1) := dc_at daX9_ends_0 0 rfl
theorem dX9_ends_1 : decode cX9_ends 1 = .ok (.iconst 0, 1) := dc_at daX9_ends_0 1 rfl
theorem dX9_ends_2 : decode cX9_ends 2 = .ok (.putfield 1, 3) := dc_at daX9_ends_0 2 rfl
theorem dX9_ends_5 : decode cX9_ends 5 = .ok (.iload_n 1, 1) := dc_at daX9_ends_0 3 rfl
theorem dX9_ends_6 : decode cX9_ends 6 = .ok (.i2l, 1) := dc_at daX9_ends_0 4 rfl
theorem dX9_ends_7 : decode cX9_ends 7 = .ok (.lconst 1, 1) := dc_at daX9_ends_0 5 rfl
theorem dX9_ends_8 : decode cX9_ends 8 = .ok (.ldc2_w 276, 3) := dc_at daX9_ends_0 6 rfl
theorem dX9_ends_11 : decode cX9_ends 11 = .ok (.invokestatic 128, 3) := dc_at daX9_ends_0 7 rfl
theorem dX9_ends_14 : decode cX9_ends 14 = .ok (.ifCond .ne 6, 3) := dc_at daX9_ends_0 8 rfl
theorem dX9_ends_17 : decode cX9_ends 17 = .ok (.bipush (-3), 2) := dc_at daX9_ends_0 9 rfl
theorem dX9_ends_19 : decode cX9_ends 19 = .ok (.ireturn, 1) := dc_at daX9_ends_0 10 rfl
theorem dX9_ends_20 : decode cX9_ends 20 = .ok (.aload_n 0, 1) := dc_at daX9_ends_0 11 rfl
theorem dX9_ends_21 : decode cX9_ends 21 = .ok (.getfield 13, 3) := dc_at daX9_ends_0 12 rfl
theorem dX9_ends_24 : decode cX9_ends 24 = .ok (.iconst 0, 1) := dc_at daX9_ends_0 13 rfl
theorem dX9_ends_25 : decode cX9_ends 25 = .ok (.iaload, 1) := dc_at daX9_ends_0 14 rfl
theorem dX9_ends_26 : decode cX9_ends 26 = .ok (.ifCond .ne 6, 3) := dc_at daX9_ends_0 15 rfl
theorem dX9_ends_29 : decode cX9_ends 29 = .ok (.bipush (-5), 2) := dc_at daX9_ends_0 16 rfl
theorem dX9_ends_31 : decode cX9_ends 31 = .ok (.ireturn, 1) := dc_at daX9_ends_0 17 rfl
theorem dX9_ends_32 : decode cX9_ends 32 = .ok (.aload_n 0, 1) := dc_at daX9_ends_0 18 rfl
theorem dX9_ends_33 : decode cX9_ends 33 = .ok (.iconst 0, 1) := dc_at daX9_ends_0 19 rfl
theorem dX9_ends_34 : decode cX9_ends 34 = .ok (.putfield 280, 3) := dc_at daX9_ends_0 20 rfl
theorem dX9_ends_37 : decode cX9_ends 37 = .ok (.aload_n 0, 1) := dc_at daX9_ends_0 21 rfl
theorem dX9_ends_38 : decode cX9_ends 38 = .ok (.iconst 0, 1) := dc_at daX9_ends_0 22 rfl
theorem dX9_ends_39 : decode cX9_ends 39 = .ok (.aload_n 0, 1) := dc_at daX9_ends_0 23 rfl
def dlX9_ends_1 : List (Nat × Jvm.ClassFile.Instr × Nat) := [(40, .iload_n 1, 1), (41, .invokevirtual 260, 3), (44, .invokevirtual 287, 3), (47, .aload_n 0, 1), (48, .getfield 280, 3), (51, .ireturn, 1)]
theorem daX9_ends_1 : dlX9_ends_1.all (dcK cX9_ends) = true := by decide +kernel
theorem dX9_ends_40 : decode cX9_ends 40 = .ok (.iload_n 1, 1) := dc_at daX9_ends_1 0 rfl
theorem dX9_ends_41 : decode cX9_ends 41 = .ok (.invokevirtual 260, 3) := dc_at daX9_ends_1 1 rfl
theorem dX9_ends_44 : decode cX9_ends 44 = .ok (.invokevirtual 287, 3) := dc_at daX9_ends_1 2 rfl
theorem dX9_ends_47 : decode cX9_ends 47 = .ok (.aload_n 0, 1) := dc_at daX9_ends_1 3 rfl
theorem dX9_ends_48 : decode cX9_ends 48 = .ok (.getfield 280, 3) := dc_at daX9_ends_1 4 rfl
theorem dX9_ends_51 : decode cX9_ends 51 = .ok (.ireturn, 1) := dc_at daX9_ends_1 5 rfl
def dlX9_bitsOf_0 : List (Nat × Jvm.ClassFile.Instr × Nat) := [(0, .iconst 0, 1), (1, .istore_n 1, 1), (2, .iconst 0, 1), (3, .istore_n 2, 1), (4, .iload_n 2, 1), (5, .bipush 16, 2), (7, .if_icmp .ge 17, 3), (10, .iload_n 1, 1), (11, .iload_n 0, 1), (12, .iload_n 2, 1), (13, .ishr, 1), (14, .iconst 1, 1), (15, .iand, 1), (16, .iadd, 1), (17, .istore_n 1, 1), (18, .iinc 2 1, 3), (21, .goto (-17), 3), (24, .iload_n 1, 1), (25, .ireturn, 1)]
theorem daX9_bitsOf_0 : dlX9_bitsOf_0.all (dcK cX9_bitsOf) = true := by decide +kernel
theorem dX9_bitsOf_0 : decode cX9_bitsOf 0 = .ok (.iconst 0, 1) := dc_at daX9_bitsOf_0 0 rfl
theorem dX9_bitsOf_1 : decode cX9_bitsOf 1 = .ok (.istore_n 1, 1) := dc_at daX9_bitsOf_0 1 rfl
theorem dX9_bitsOf_2 : decode cX9_bitsOf 2 = .ok (.iconst 0, 1) := dc_at daX9_bitsOf_0 2 rfl
theorem dX9_bitsOf_3 : decode cX9_bitsOf 3 = .ok (.istore_n 2, 1) := dc_at daX9_bitsOf_0 3 rfl
theorem dX9_bitsOf_4 : decode cX9_bitsOf 4 = .ok (.iload_n 2, 1) := dc_at daX9_bitsOf_0 4 rfl
theorem dX9_bitsOf_5 : decode cX9_bitsOf 5 = .ok (.bipush 16, 2) := dc_at daX9_bitsOf_0 5 rfl
theorem dX9_bitsOf_7 : decode cX9_bitsOf 7 = .ok (.if_icmp .ge 17, 3) := dc_at daX9_bitsOf_0 6 rfl
theorem dX9_bitsOf_10 : decode cX9_bitsOf 10 = .ok (.iload_n 1, 1) := dc_at daX9_bitsOf_0 7 rfl
theorem dX9_bitsOf_11 : decode cX9_bitsOf 11 = .ok (.iload_n 0, 1) := dc_at daX9_bitsOf_0 8 rfl
theorem dX9_bitsOf_12 : decode cX9_bitsOf 12 = .ok (.iload_n 2, 1) := dc_at daX9_bitsOf_0 9 rfl
theorem dX9_bitsOf_13 : decode cX9_bitsOf 13 = .ok (.ishr, 1) := dc_at daX9_bitsOf_0 10 rfl
theorem dX9_bitsOf_14 : decode cX9_bitsOf 14 = .ok (.iconst 1, 1) := dc_at daX9_bitsOf_0 11 rfl
theorem dX9_bitsOf_15 : decode cX9_bitsOf 15 = .ok (.iand, 1) := dc_at daX9_bitsOf_0 12 rfl
theorem dX9_bitsOf_16 : decode cX9_bitsOf 16 = .ok (.iadd, 1) := dc_at daX9_bitsOf_0 13 rfl
theorem dX9_bitsOf_17 : decode cX9_bitsOf 17 = .ok (.istore_n 1, 1) := dc_at daX9_bitsOf_0 14 rfl
theorem dX9_bitsOf_18 : decode cX9_bitsOf 18 = .ok (.iinc 2 1, 3) := dc_at daX9_bitsOf_0 15 rfl
theorem dX9_bitsOf_21 : decode cX9_bitsOf 21 = .ok (.goto (-17), 3) := dc_at daX9_bitsOf_0 16 rfl
theorem dX9_bitsOf_24 : decode cX9_bitsOf 24 = .ok (.iload_n 1, 1) := dc_at daX9_bitsOf_0 17 rfl
theorem dX9_bitsOf_25 : decode cX9_bitsOf 25 = .ok (.ireturn, 1) := dc_at daX9_bitsOf_0 18 rfl
def dlX9_haltsFor_0 : List (Nat × Jvm.ClassFile.Instr × Nat) := [(0, .iconst 0, 1), (1, .istore_n 2, 1), (2, .iload_n 2, 1), (3, .aload_n 0, 1), (4, .getfield 13, 3), (7, .iconst 0, 1), (8, .iaload, 1), (9, .if_icmp .ge 26, 3), (12, .aload_n 0, 1), (13, .getfield 48, 3), (16, .iload_n 2, 1), (17, .aload_n 0, 1), (18, .iload_n 2, 1), (19, .aload_n 0, 1), (20, .getfield 13, 3), (23, .iconst 3, 1), (24, .iaload, 1), (25, .invokevirtual 188, 3), (28, .iastore, 1), (29, .iinc 2 1, 3), (32, .goto (-30), 3), (35, .iconst (-1), 1), (36, .istore_n 2, 1), (37, .iconst 0, 1)]
theorem daX9_haltsFor_0 : dlX9_haltsFor_0.all (dcK cX9_haltsFor) = true := by decide +kernel
theorem dX9_haltsFor_0 : decode cX9_haltsFor 0 = .ok (.iconst 0, 1) := dc_at daX9_haltsFor_0 0 rfl
theorem dX9_haltsFor_1 : decode cX9_haltsFor 1 = .ok (.istore_n 2, 1) := dc_at daX9_haltsFor_0 1 rfl
theorem dX9_haltsFor_2 : decode cX9_haltsFor 2 = .ok (.iload_n 2, 1) := dc_at daX9_haltsFor_0 2 rfl
theorem dX9_haltsFor_3 : decode cX9_haltsFor 3 = .ok (.aload_n 0, 1) := dc_at daX9_haltsFor_0 3 rfl
theorem dX9_haltsFor_4 : decode cX9_haltsFor 4 = .ok (.getfield 13, 3) := dc_at daX9_haltsFor_0 4 rfl
theorem dX9_haltsFor_7 : decode cX9_haltsFor 7 = .ok (.iconst 0, 1) := dc_at daX9_haltsFor_0 5 rfl
theorem dX9_haltsFor_8 : decode cX9_haltsFor 8 = .ok (.iaload, 1) := dc_at daX9_haltsFor_0 6 rfl
theorem dX9_haltsFor_9 : decode cX9_haltsFor 9 = .ok (.if_icmp .ge 26, 3) := dc_at daX9_haltsFor_0 7 rfl
theorem dX9_haltsFor_12 : decode cX9_haltsFor 12 = .ok (.aload_n 0, 1) := dc_at daX9_haltsFor_0 8 rfl
theorem dX9_haltsFor_13 : decode cX9_haltsFor 13 = .ok (.getfield 48, 3) := dc_at daX9_haltsFor_0 9 rfl
theorem dX9_haltsFor_16 : decode cX9_haltsFor 16 = .ok (.iload_n 2, 1) := dc_at daX9_haltsFor_0 10 rfl
theorem dX9_haltsFor_17 : decode cX9_haltsFor 17 = .ok (.aload_n 0, 1) := dc_at daX9_haltsFor_0 11 rfl
theorem dX9_haltsFor_18 : decode cX9_haltsFor 18 = .ok (.iload_n 2, 1) := dc_at daX9_haltsFor_0 12 rfl
theorem dX9_haltsFor_19 : decode cX9_haltsFor 19 = .ok (.aload_n 0, 1) := dc_at daX9_haltsFor_0 13 rfl
theorem dX9_haltsFor_20 : decode cX9_haltsFor 20 = .ok (.getfield 13, 3) := dc_at daX9_haltsFor_0 14 rfl
theorem dX9_haltsFor_23 : decode cX9_haltsFor 23 = .ok (.iconst 3, 1) := dc_at daX9_haltsFor_0 15 rfl
theorem dX9_haltsFor_24 : decode cX9_haltsFor 24 = .ok (.iaload, 1) := dc_at daX9_haltsFor_0 16 rfl
theorem dX9_haltsFor_25 : decode cX9_haltsFor 25 = .ok (.invokevirtual 188, 3) := dc_at daX9_haltsFor_0 17 rfl
theorem dX9_haltsFor_28 : decode cX9_haltsFor 28 = .ok (.iastore, 1) := dc_at daX9_haltsFor_0 18 rfl
theorem dX9_haltsFor_29 : decode cX9_haltsFor 29 = .ok (.iinc 2 1, 3) := dc_at daX9_haltsFor_0 19 rfl
theorem dX9_haltsFor_32 : decode cX9_haltsFor 32 = .ok (.goto (-30), 3) := dc_at daX9_haltsFor_0 20 rfl
theorem dX9_haltsFor_35 : decode cX9_haltsFor 35 = .ok (.iconst (-1), 1) := dc_at daX9_haltsFor_0 21 rfl
theorem dX9_haltsFor_36 : decode cX9_haltsFor 36 = .ok (.istore_n 2, 1) := dc_at daX9_haltsFor_0 22 rfl
theorem dX9_haltsFor_37 : decode cX9_haltsFor 37 = .ok (.iconst 0, 1) := dc_at daX9_haltsFor_0 23 rfl
def dlX9_haltsFor_1 : List (Nat × Jvm.ClassFile.Instr × Nat) := [(38, .istore_n 3, 1), (39, .iload_n 3, 1), (40, .iconst 1, 1), (41, .aload_n 0, 1), (42, .getfield 13, 3), (45, .iconst 0, 1), (46, .iaload, 1), (47, .ishl, 1), (48, .if_icmp .ge 88, 3), (51, .iload_n 2, 1), (52, .iconst (-1), 1), (53, .if_icmp .eq 17, 3), (56, .iload_n 3, 1), (57, .invokestatic 291, 3), (60, .iload_n 2, 1), (61, .invokestatic 291, 3), (64, .if_icmp .lt 6, 3), (67, .goto 63, 3), (70, .iconst 0, 1), (71, .istore 4, 2), (73, .iconst 0, 1), (74, .istore 5, 2), (76, .iload 5, 2), (78, .aload_n 0, 1)]
theorem daX9_haltsFor_1 : dlX9_haltsFor_1.all (dcK cX9_haltsFor) = true := by decide +kernel
theorem dX9_haltsFor_38 : decode cX9_haltsFor 38 = .ok (.istore_n 3, 1) := dc_at daX9_haltsFor_1 0 rfl
theorem dX9_haltsFor_39 : decode cX9_haltsFor 39 = .ok (.iload_n 3, 1) := dc_at daX9_haltsFor_1 1 rfl
theorem dX9_haltsFor_40 : decode cX9_haltsFor 40 = .ok (.iconst 1, 1) := dc_at daX9_haltsFor_1 2 rfl
theorem dX9_haltsFor_41 : decode cX9_haltsFor 41 = .ok (.aload_n 0, 1) := dc_at daX9_haltsFor_1 3 rfl
theorem dX9_haltsFor_42 : decode cX9_haltsFor 42 = .ok (.getfield 13, 3) := dc_at daX9_haltsFor_1 4 rfl
theorem dX9_haltsFor_45 : decode cX9_haltsFor 45 = .ok (.iconst 0, 1) := dc_at daX9_haltsFor_1 5 rfl
theorem dX9_haltsFor_46 : decode cX9_haltsFor 46 = .ok (.iaload, 1) := dc_at daX9_haltsFor_1 6 rfl
theorem dX9_haltsFor_47 : decode cX9_haltsFor 47 = .ok (.ishl, 1) := dc_at daX9_haltsFor_1 7 rfl
theorem dX9_haltsFor_48 : decode cX9_haltsFor 48 = .ok (.if_icmp .ge 88, 3) := dc_at daX9_haltsFor_1 8 rfl
theorem dX9_haltsFor_51 : decode cX9_haltsFor 51 = .ok (.iload_n 2, 1) := dc_at daX9_haltsFor_1 9 rfl
theorem dX9_haltsFor_52 : decode cX9_haltsFor 52 = .ok (.iconst (-1), 1) := dc_at daX9_haltsFor_1 10 rfl
theorem dX9_haltsFor_53 : decode cX9_haltsFor 53 = .ok (.if_icmp .eq 17, 3) := dc_at daX9_haltsFor_1 11 rfl
theorem dX9_haltsFor_56 : decode cX9_haltsFor 56 = .ok (.iload_n 3, 1) := dc_at daX9_haltsFor_1 12 rfl
theorem dX9_haltsFor_57 : decode cX9_haltsFor 57 = .ok (.invokestatic 291, 3) := dc_at daX9_haltsFor_1 13 rfl
theorem dX9_haltsFor_60 : decode cX9_haltsFor 60 = .ok (.iload_n 2, 1) := dc_at daX9_haltsFor_1 14 rfl
theorem dX9_haltsFor_61 : decode cX9_haltsFor 61 = .ok (.invokestatic 291, 3) := dc_at daX9_haltsFor_1 15 rfl
theorem dX9_haltsFor_64 : decode cX9_haltsFor 64 = .ok (.if_icmp .lt 6, 3) := dc_at daX9_haltsFor_1 16 rfl
theorem dX9_haltsFor_67 : decode cX9_haltsFor 67 = .ok (.goto 63, 3) := dc_at daX9_haltsFor_1 17 rfl
theorem dX9_haltsFor_70 : decode cX9_haltsFor 70 = .ok (.iconst 0, 1) := dc_at daX9_haltsFor_1 18 rfl
theorem dX9_haltsFor_71 : decode cX9_haltsFor 71 = .ok (.istore 4, 2) := dc_at daX9_haltsFor_1 19 rfl
theorem dX9_haltsFor_73 : decode cX9_haltsFor 73 = .ok (.iconst 0, 1) := dc_at daX9_haltsFor_1 20 rfl
theorem dX9_haltsFor_74 : decode cX9_haltsFor 74 = .ok (.istore 5, 2) := dc_at daX9_haltsFor_1 21 rfl
theorem dX9_haltsFor_76 : decode cX9_haltsFor 76 = .ok (.iload 5, 2) := dc_at daX9_haltsFor_1 22 rfl
theorem dX9_haltsFor_78 : decode cX9_haltsFor 78 = .ok (.aload_n 0, 1) := dc_at daX9_haltsFor_1 23 rfl
def dlX9_haltsFor_2 : List (Nat × Jvm.ClassFile.Instr × Nat) := [(79, .getfield 13, 3), (82, .iconst 0, 1), (83, .iaload, 1), (84, .if_icmp .ge 35, 3), (87, .iload 4, 2), (89, .iload_n 3, 1), (90, .iload 5, 2), (92, .ishr, 1), (93, .iconst 1, 1), (94, .iand, 1), (95, .iconst 1, 1), (96, .if_icmp .ne 13, 3), (99, .aload_n 0, 1), (100, .getfield 48, 3), (103, .iload 5, 2), (105, .iaload, 1), (106, .goto 4, 3), (109, .iconst 0, 1), (110, .ior, 1), (111, .istore 4, 2), (113, .iinc 5 1, 3), (116, .goto (-40), 3), (119, .iload_n 1, 1), (120, .iload 4, 2)]
theorem daX9_haltsFor_2 : dlX9_haltsFor_2.all (dcK cX9_haltsFor) = true := by decide +kernel
theorem dX9_haltsFor_79 : decode cX9_haltsFor 79 = .ok (.getfield 13, 3) := dc_at daX9_haltsFor_2 0 rfl
theorem dX9_haltsFor_82 : decode cX9_haltsFor 82 = .ok (.iconst 0, 1) := dc_at daX9_haltsFor_2 1 rfl
theorem dX9_haltsFor_83 : decode cX9_haltsFor 83 = .ok (.iaload, 1) := dc_at daX9_haltsFor_2 2 rfl
theorem dX9_haltsFor_84 : decode cX9_haltsFor 84 = .ok (.if_icmp .ge 35, 3) := dc_at daX9_haltsFor_2 3 rfl
theorem dX9_haltsFor_87 : decode cX9_haltsFor 87 = .ok (.iload 4, 2) := dc_at daX9_haltsFor_2 4 rfl
theorem dX9_haltsFor_89 : decode cX9_haltsFor 89 = .ok (.iload_n 3, 1) := dc_at daX9_haltsFor_2 5 rfl
theorem dX9_haltsFor_90 : decode cX9_haltsFor 90 = .ok (.iload 5, 2) := dc_at daX9_haltsFor_2 6 rfl
theorem dX9_haltsFor_92 : decode cX9_haltsFor 92 = .ok (.ishr, 1) := dc_at daX9_haltsFor_2 7 rfl
theorem dX9_haltsFor_93 : decode cX9_haltsFor 93 = .ok (.iconst 1, 1) := dc_at daX9_haltsFor_2 8 rfl
theorem dX9_haltsFor_94 : decode cX9_haltsFor 94 = .ok (.iand, 1) := dc_at daX9_haltsFor_2 9 rfl
theorem dX9_haltsFor_95 : decode cX9_haltsFor 95 = .ok (.iconst 1, 1) := dc_at daX9_haltsFor_2 10 rfl
theorem dX9_haltsFor_96 : decode cX9_haltsFor 96 = .ok (.if_icmp .ne 13, 3) := dc_at daX9_haltsFor_2 11 rfl
theorem dX9_haltsFor_99 : decode cX9_haltsFor 99 = .ok (.aload_n 0, 1) := dc_at daX9_haltsFor_2 12 rfl
theorem dX9_haltsFor_100 : decode cX9_haltsFor 100 = .ok (.getfield 48, 3) := dc_at daX9_haltsFor_2 13 rfl
theorem dX9_haltsFor_103 : decode cX9_haltsFor 103 = .ok (.iload 5, 2) := dc_at daX9_haltsFor_2 14 rfl
theorem dX9_haltsFor_105 : decode cX9_haltsFor 105 = .ok (.iaload, 1) := dc_at daX9_haltsFor_2 15 rfl
theorem dX9_haltsFor_106 : decode cX9_haltsFor 106 = .ok (.goto 4, 3) := dc_at daX9_haltsFor_2 16 rfl
theorem dX9_haltsFor_109 : decode cX9_haltsFor 109 = .ok (.iconst 0, 1) := dc_at daX9_haltsFor_2 17 rfl
theorem dX9_haltsFor_110 : decode cX9_haltsFor 110 = .ok (.ior, 1) := dc_at daX9_haltsFor_2 18 rfl
theorem dX9_haltsFor_111 : decode cX9_haltsFor 111 = .ok (.istore 4, 2) := dc_at daX9_haltsFor_2 19 rfl
theorem dX9_haltsFor_113 : decode cX9_haltsFor 113 = .ok (.iinc 5 1, 3) := dc_at daX9_haltsFor_2 20 rfl
theorem dX9_haltsFor_116 : decode cX9_haltsFor 116 = .ok (.goto (-40), 3) := dc_at daX9_haltsFor_2 21 rfl
theorem dX9_haltsFor_119 : decode cX9_haltsFor 119 = .ok (.iload_n 1, 1) := dc_at daX9_haltsFor_2 22 rfl
theorem dX9_haltsFor_120 : decode cX9_haltsFor 120 = .ok (.iload 4, 2) := dc_at daX9_haltsFor_2 23 rfl
def dlX9_haltsFor_3 : List (Nat × Jvm.ClassFile.Instr × Nat) := [(122, .iconst (-1), 1), (123, .ixor, 1), (124, .iand, 1), (125, .ifCond .ne 5, 3), (128, .iload_n 3, 1), (129, .istore_n 2, 1), (130, .iinc 3 1, 3), (133, .goto (-94), 3), (136, .iload_n 2, 1), (137, .ireturn, 1)]
theorem daX9_haltsFor_3 : dlX9_haltsFor_3.all (dcK cX9_haltsFor) = true := by decide +kernel
theorem dX9_haltsFor_122 : decode cX9_haltsFor 122 = .ok (.iconst (-1), 1) := dc_at daX9_haltsFor_3 0 rfl
theorem dX9_haltsFor_123 : decode cX9_haltsFor 123 = .ok (.ixor, 1) := dc_at daX9_haltsFor_3 1 rfl
theorem dX9_haltsFor_124 : decode cX9_haltsFor 124 = .ok (.iand, 1) := dc_at daX9_haltsFor_3 2 rfl
theorem dX9_haltsFor_125 : decode cX9_haltsFor 125 = .ok (.ifCond .ne 5, 3) := dc_at daX9_haltsFor_3 3 rfl
theorem dX9_haltsFor_128 : decode cX9_haltsFor 128 = .ok (.iload_n 3, 1) := dc_at daX9_haltsFor_3 4 rfl
theorem dX9_haltsFor_129 : decode cX9_haltsFor 129 = .ok (.istore_n 2, 1) := dc_at daX9_haltsFor_3 5 rfl
theorem dX9_haltsFor_130 : decode cX9_haltsFor 130 = .ok (.iinc 3 1, 3) := dc_at daX9_haltsFor_3 6 rfl
theorem dX9_haltsFor_133 : decode cX9_haltsFor 133 = .ok (.goto (-94), 3) := dc_at daX9_haltsFor_3 7 rfl
theorem dX9_haltsFor_136 : decode cX9_haltsFor 136 = .ok (.iload_n 2, 1) := dc_at daX9_haltsFor_3 8 rfl
theorem dX9_haltsFor_137 : decode cX9_haltsFor 137 = .ok (.ireturn, 1) := dc_at daX9_haltsFor_3 9 rfl
def dlX9_halts_0 : List (Nat × Jvm.ClassFile.Instr × Nat) := [(0, .aload_n 0, 1), (1, .iconst 0, 1), (2, .putfield 1, 3), (5, .aload_n 0, 1), (6, .iload_n 1, 1), (7, .invokevirtual 191, 3), (10, .ifCond .eq 11, 3), (13, .aload_n 0, 1), (14, .iload_n 1, 1), (15, .invokevirtual 294, 3), (18, .goto 5, 3), (21, .bipush (-3), 2), (23, .ireturn, 1)]
theorem daX9_halts_0 : dlX9_halts_0.all (dcK cX9_halts) = true := by decide +kernel
theorem dX9_halts_0 : decode cX9_halts 0 = .ok (.aload_n 0, 1) := dc_at daX9_halts_0 0 rfl
theorem dX9_halts_1 : decode cX9_halts 1 = .ok (.iconst 0, 1) := dc_at daX9_halts_0 1 rfl
theorem dX9_halts_2 : decode cX9_halts 2 = .ok (.putfield 1, 3) := dc_at daX9_halts_0 2 rfl
theorem dX9_halts_5 : decode cX9_halts 5 = .ok (.aload_n 0, 1) := dc_at daX9_halts_0 3 rfl
theorem dX9_halts_6 : decode cX9_halts 6 = .ok (.iload_n 1, 1) := dc_at daX9_halts_0 4 rfl
theorem dX9_halts_7 : decode cX9_halts 7 = .ok (.invokevirtual 191, 3) := dc_at daX9_halts_0 5 rfl
theorem dX9_halts_10 : decode cX9_halts 10 = .ok (.ifCond .eq 11, 3) := dc_at daX9_halts_0 6 rfl
theorem dX9_halts_13 : decode cX9_halts 13 = .ok (.aload_n 0, 1) := dc_at daX9_halts_0 7 rfl
theorem dX9_halts_14 : decode cX9_halts 14 = .ok (.iload_n 1, 1) := dc_at daX9_halts_0 8 rfl
theorem dX9_halts_15 : decode cX9_halts 15 = .ok (.invokevirtual 294, 3) := dc_at daX9_halts_0 9 rfl
theorem dX9_halts_18 : decode cX9_halts 18 = .ok (.goto 5, 3) := dc_at daX9_halts_0 10 rfl
theorem dX9_halts_21 : decode cX9_halts 21 = .ok (.bipush (-3), 2) := dc_at daX9_halts_0 11 rfl
theorem dX9_halts_23 : decode cX9_halts 23 = .ok (.ireturn, 1) := dc_at daX9_halts_0 12 rfl
def dlX9_tour_0 : List (Nat × Jvm.ClassFile.Instr × Nat) := [(0, .aload_n 0, 1), (1, .iconst 0, 1), (2, .putfield 1, 3), (5, .aload_n 0, 1), (6, .iload_n 1, 1), (7, .invokevirtual 191, 3), (10, .ifCond .ne 6, 3), (13, .bipush (-3), 2), (15, .ireturn, 1), (16, .aload_n 0, 1), (17, .iload_n 1, 1), (18, .invokevirtual 294, 3), (21, .istore_n 2, 1), (22, .iload_n 2, 1), (23, .ifCond .gt 5, 3), (26, .iload_n 2, 1), (27, .ireturn, 1), (28, .iconst 0, 1), (29, .istore_n 3, 1), (30, .iload_n 2, 1), (31, .iload_n 3, 1), (32, .ishr, 1), (33, .iconst 1, 1), (34, .iand, 1)]
theorem daX9_tour_0 : dlX9_tour_0.all (dcK cX9_tour) = true := by decide +kernel
theorem dX9_tour_0 : decode cX9_tour 0 = .ok (.aload_n 0, 1) := dc_at daX9_tour_0 0 rfl
theorem dX9_tour_1 : decode cX9_tour 1 = .ok (.iconst 0, 1) := dc_at daX9_tour_0 1 rfl
theorem dX9_tour_2 : decode cX9_tour 2 = .ok (.putfield 1, 3) := dc_at daX9_tour_0 2 rfl
theorem dX9_tour_5 : decode cX9_tour 5 = .ok (.aload_n 0, 1) := dc_at daX9_tour_0 3 rfl
theorem dX9_tour_6 : decode cX9_tour 6 = .ok (.iload_n 1, 1) := dc_at daX9_tour_0 4 rfl
theorem dX9_tour_7 : decode cX9_tour 7 = .ok (.invokevirtual 191, 3) := dc_at daX9_tour_0 5 rfl
theorem dX9_tour_10 : decode cX9_tour 10 = .ok (.ifCond .ne 6, 3) := dc_at daX9_tour_0 6 rfl
theorem dX9_tour_13 : decode cX9_tour 13 = .ok (.bipush (-3), 2) := dc_at daX9_tour_0 7 rfl
theorem dX9_tour_15 : decode cX9_tour 15 = .ok (.ireturn, 1) := dc_at daX9_tour_0 8 rfl
theorem dX9_tour_16 : decode cX9_tour 16 = .ok (.aload_n 0, 1) := dc_at daX9_tour_0 9 rfl
theorem dX9_tour_17 : decode cX9_tour 17 = .ok (.iload_n 1, 1) := dc_at daX9_tour_0 10 rfl
theorem dX9_tour_18 : decode cX9_tour 18 = .ok (.invokevirtual 294, 3) := dc_at daX9_tour_0 11 rfl
theorem dX9_tour_21 : decode cX9_tour 21 = .ok (.istore_n 2, 1) := dc_at daX9_tour_0 12 rfl
theorem dX9_tour_22 : decode cX9_tour 22 = .ok (.iload_n 2, 1) := dc_at daX9_tour_0 13 rfl
theorem dX9_tour_23 : decode cX9_tour 23 = .ok (.ifCond .gt 5, 3) := dc_at daX9_tour_0 14 rfl
theorem dX9_tour_26 : decode cX9_tour 26 = .ok (.iload_n 2, 1) := dc_at daX9_tour_0 15 rfl
theorem dX9_tour_27 : decode cX9_tour 27 = .ok (.ireturn, 1) := dc_at daX9_tour_0 16 rfl
theorem dX9_tour_28 : decode cX9_tour 28 = .ok (.iconst 0, 1) := dc_at daX9_tour_0 17 rfl
theorem dX9_tour_29 : decode cX9_tour 29 = .ok (.istore_n 3, 1) := dc_at daX9_tour_0 18 rfl
theorem dX9_tour_30 : decode cX9_tour 30 = .ok (.iload_n 2, 1) := dc_at daX9_tour_0 19 rfl
theorem dX9_tour_31 : decode cX9_tour 31 = .ok (.iload_n 3, 1) := dc_at daX9_tour_0 20 rfl
theorem dX9_tour_32 : decode cX9_tour 32 = .ok (.ishr, 1) := dc_at daX9_tour_0 21 rfl
theorem dX9_tour_33 : decode cX9_tour 33 = .ok (.iconst 1, 1) := dc_at daX9_tour_0 22 rfl
theorem dX9_tour_34 : decode cX9_tour 34 = .ok (.iand, 1) := dc_at daX9_tour_0 23 rfl
def dlX9_tour_1 : List (Nat × Jvm.ClassFile.Instr × Nat) := [(35, .ifCond .ne 9, 3), (38, .iinc 3 1, 3), (41, .goto (-11), 3), (44, .bipush 16, 2), (46, .istore 4, 2), (48, .iload_n 2, 1), (49, .iload 4, 2), (51, .ishr, 1), (52, .iconst 1, 1), (53, .iand, 1), (54, .ifCond .ne 9, 3), (57, .iinc 4 (-1), 3), (60, .goto (-12), 3), (63, .aload_n 0, 1), (64, .getfield 13, 3), (67, .iconst 2, 1), (68, .iaload, 1), (69, .iload_n 3, 1), (70, .invokestatic 158, 3), (73, .istore 5, 2), (75, .aload_n 0, 1), (76, .getfield 13, 3), (79, .iconst 2, 1), (80, .iaload, 1)]
theorem daX9_tour_1 : dlX9_tour_1.all (dcK cX9_tour) = true := by decide +kernel
theorem dX9_tour_35 : decode cX9_tour 35 = .ok (.ifCond .ne 9, 3) := dc_at daX9_tour_1 0 rfl
theorem dX9_tour_38 : decode cX9_tour 38 = .ok (.iinc 3 1, 3) := dc_at daX9_tour_1 1 rfl
theorem dX9_tour_41 : decode cX9_tour 41 = .ok (.goto (-11), 3) := dc_at daX9_tour_1 2 rfl
theorem dX9_tour_44 : decode cX9_tour 44 = .ok (.bipush 16, 2) := dc_at daX9_tour_1 3 rfl
theorem dX9_tour_46 : decode cX9_tour 46 = .ok (.istore 4, 2) := dc_at daX9_tour_1 4 rfl
theorem dX9_tour_48 : decode cX9_tour 48 = .ok (.iload_n 2, 1) := dc_at daX9_tour_1 5 rfl
theorem dX9_tour_49 : decode cX9_tour 49 = .ok (.iload 4, 2) := dc_at daX9_tour_1 6 rfl
theorem dX9_tour_51 : decode cX9_tour 51 = .ok (.ishr, 1) := dc_at daX9_tour_1 7 rfl
theorem dX9_tour_52 : decode cX9_tour 52 = .ok (.iconst 1, 1) := dc_at daX9_tour_1 8 rfl
theorem dX9_tour_53 : decode cX9_tour 53 = .ok (.iand, 1) := dc_at daX9_tour_1 9 rfl
theorem dX9_tour_54 : decode cX9_tour 54 = .ok (.ifCond .ne 9, 3) := dc_at daX9_tour_1 10 rfl
theorem dX9_tour_57 : decode cX9_tour 57 = .ok (.iinc 4 (-1), 3) := dc_at daX9_tour_1 11 rfl
theorem dX9_tour_60 : decode cX9_tour 60 = .ok (.goto (-12), 3) := dc_at daX9_tour_1 12 rfl
theorem dX9_tour_63 : decode cX9_tour 63 = .ok (.aload_n 0, 1) := dc_at daX9_tour_1 13 rfl
theorem dX9_tour_64 : decode cX9_tour 64 = .ok (.getfield 13, 3) := dc_at daX9_tour_1 14 rfl
theorem dX9_tour_67 : decode cX9_tour 67 = .ok (.iconst 2, 1) := dc_at daX9_tour_1 15 rfl
theorem dX9_tour_68 : decode cX9_tour 68 = .ok (.iaload, 1) := dc_at daX9_tour_1 16 rfl
theorem dX9_tour_69 : decode cX9_tour 69 = .ok (.iload_n 3, 1) := dc_at daX9_tour_1 17 rfl
theorem dX9_tour_70 : decode cX9_tour 70 = .ok (.invokestatic 158, 3) := dc_at daX9_tour_1 18 rfl
theorem dX9_tour_73 : decode cX9_tour 73 = .ok (.istore 5, 2) := dc_at daX9_tour_1 19 rfl
theorem dX9_tour_75 : decode cX9_tour 75 = .ok (.aload_n 0, 1) := dc_at daX9_tour_1 20 rfl
theorem dX9_tour_76 : decode cX9_tour 76 = .ok (.getfield 13, 3) := dc_at daX9_tour_1 21 rfl
theorem dX9_tour_79 : decode cX9_tour 79 = .ok (.iconst 2, 1) := dc_at daX9_tour_1 22 rfl
theorem dX9_tour_80 : decode cX9_tour 80 = .ok (.iaload, 1) := dc_at daX9_tour_1 23 rfl
def dlX9_tour_2 : List (Nat × Jvm.ClassFile.Instr × Nat) := [(81, .iload 4, 2), (83, .invokestatic 158, 3), (86, .istore 6, 2), (88, .iload 4, 2), (90, .iload_n 3, 1), (91, .isub, 1), (92, .iload 5, 2), (94, .iload 6, 2), (96, .if_icmp .ge 8, 3), (99, .iload 5, 2), (101, .goto 5, 3), (104, .iload 6, 2), (106, .iadd, 1), (107, .ireturn, 1)]
theorem daX9_tour_2 : dlX9_tour_2.all (dcK cX9_tour) = true := by decide +kernel
theorem dX9_tour_81 : decode cX9_tour 81 = .ok (.iload 4, 2) := dc_at daX9_tour_2 0 rfl
theorem dX9_tour_83 : decode cX9_tour 83 = .ok (.invokestatic 158, 3) := dc_at daX9_tour_2 1 rfl
theorem dX9_tour_86 : decode cX9_tour 86 = .ok (.istore 6, 2) := dc_at daX9_tour_2 2 rfl
theorem dX9_tour_88 : decode cX9_tour 88 = .ok (.iload 4, 2) := dc_at daX9_tour_2 3 rfl
theorem dX9_tour_90 : decode cX9_tour 90 = .ok (.iload_n 3, 1) := dc_at daX9_tour_2 4 rfl
theorem dX9_tour_91 : decode cX9_tour 91 = .ok (.isub, 1) := dc_at daX9_tour_2 5 rfl
theorem dX9_tour_92 : decode cX9_tour 92 = .ok (.iload 5, 2) := dc_at daX9_tour_2 6 rfl
theorem dX9_tour_94 : decode cX9_tour 94 = .ok (.iload 6, 2) := dc_at daX9_tour_2 7 rfl
theorem dX9_tour_96 : decode cX9_tour 96 = .ok (.if_icmp .ge 8, 3) := dc_at daX9_tour_2 8 rfl
theorem dX9_tour_99 : decode cX9_tour 99 = .ok (.iload 5, 2) := dc_at daX9_tour_2 9 rfl
theorem dX9_tour_101 : decode cX9_tour 101 = .ok (.goto 5, 3) := dc_at daX9_tour_2 10 rfl
theorem dX9_tour_104 : decode cX9_tour 104 = .ok (.iload 6, 2) := dc_at daX9_tour_2 11 rfl
theorem dX9_tour_106 : decode cX9_tour 106 = .ok (.iadd, 1) := dc_at daX9_tour_2 12 rfl
theorem dX9_tour_107 : decode cX9_tour 107 = .ok (.ireturn, 1) := dc_at daX9_tour_2 13 rfl
def dlX9_explains_0 : List (Nat × Jvm.ClassFile.Instr × Nat) := [(0, .iload_n 1, 1), (1, .iload_n 2, 1), (2, .if_icmp .ne 75, 3), (5, .iconst 0, 1), (6, .istore 4, 2), (8, .iload 4, 2), (10, .aload_n 0, 1), (11, .getfield 13, 3), (14, .iconst 0, 1), (15, .iaload, 1), (16, .if_icmp .ge 37, 3), (19, .aload_n 0, 1), (20, .getfield 13, 3), (23, .bipush 16, 2), (25, .iload 4, 2), (27, .iadd, 1), (28, .iaload, 1), (29, .i2l, 1), (30, .aload_n 0, 1), (31, .getfield 57, 3), (34, .bipush 40, 2), (36, .iload_n 3, 1), (37, .imul, 1), (38, .iload 4, 2)]
theorem daX9_explains_0 : dlX9_explains_0.all (dcK cX9_explains) = true := by decide +kernel
theorem dX9_explains_0 : decode cX9_explains 0 = .ok (.iload_n 1, 1) := dc_at daX9_explains_0 0 rfl
theorem dX9_explains_1 : decode cX9_explains 1 = .ok (.iload_n 2, 1) := dc_at daX9_explains_0 1 rfl
theorem dX9_explains_2 : decode cX9_explains 2 = .ok (.if_icmp .ne 75, 3) := dc_at daX9_explains_0 2 rfl
theorem dX9_explains_5 : decode cX9_explains 5 = .ok (.iconst 0, 1) := dc_at daX9_explains_0 3 rfl
theorem dX9_explains_6 : decode cX9_explains 6 = .ok (.istore 4, 2) := dc_at daX9_explains_0 4 rfl
theorem dX9_explains_8 : decode cX9_explains 8 = .ok (.iload 4, 2) := dc_at daX9_explains_0 5 rfl
theorem dX9_explains_10 : decode cX9_explains 10 = .ok (.aload_n 0, 1) := dc_at daX9_explains_0 6 rfl
theorem dX9_explains_11 : decode cX9_explains 11 = .ok (.getfield 13, 3) := dc_at daX9_explains_0 7 rfl
theorem dX9_explains_14 : decode cX9_explains 14 = .ok (.iconst 0, 1) := dc_at daX9_explains_0 8 rfl
theorem dX9_explains_15 : decode cX9_explains 15 = .ok (.iaload, 1) := dc_at daX9_explains_0 9 rfl
theorem dX9_explains_16 : decode cX9_explains 16 = .ok (.if_icmp .ge 37, 3) := dc_at daX9_explains_0 10 rfl
theorem dX9_explains_19 : decode cX9_explains 19 = .ok (.aload_n 0, 1) := dc_at daX9_explains_0 11 rfl
theorem dX9_explains_20 : decode cX9_explains 20 = .ok (.getfield 13, 3) := dc_at daX9_explains_0 12 rfl
theorem dX9_explains_23 : decode cX9_explains 23 = .ok (.bipush 16, 2) := dc_at daX9_explains_0 13 rfl
theorem dX9_explains_25 : decode cX9_explains 25 = .ok (.iload 4, 2) := dc_at daX9_explains_0 14 rfl
theorem dX9_explains_27 : decode cX9_explains 27 = .ok (.iadd, 1) := dc_at daX9_explains_0 15 rfl
theorem dX9_explains_28 : decode cX9_explains 28 = .ok (.iaload, 1) := dc_at daX9_explains_0 16 rfl
theorem dX9_explains_29 : decode cX9_explains 29 = .ok (.i2l, 1) := dc_at daX9_explains_0 17 rfl
theorem dX9_explains_30 : decode cX9_explains 30 = .ok (.aload_n 0, 1) := dc_at daX9_explains_0 18 rfl
theorem dX9_explains_31 : decode cX9_explains 31 = .ok (.getfield 57, 3) := dc_at daX9_explains_0 19 rfl
theorem dX9_explains_34 : decode cX9_explains 34 = .ok (.bipush 40, 2) := dc_at daX9_explains_0 20 rfl
theorem dX9_explains_36 : decode cX9_explains 36 = .ok (.iload_n 3, 1) := dc_at daX9_explains_0 21 rfl
theorem dX9_explains_37 : decode cX9_explains 37 = .ok (.imul, 1) := dc_at daX9_explains_0 22 rfl
theorem dX9_explains_38 : decode cX9_explains 38 = .ok (.iload 4, 2) := dc_at daX9_explains_0 23 rfl
def dlX9_explains_1 : List (Nat × Jvm.ClassFile.Instr × Nat) := [(40, .iadd, 1), (41, .laload, 1), (42, .lcmp, 1), (43, .ifCond .eq 4, 3), (46, .return_, 1), (47, .iinc 4 1, 3), (50, .goto (-42), 3), (53, .aload_n 0, 1), (54, .dup, 1), (55, .getfield 297, 3), (58, .iconst 1, 1), (59, .iadd, 1), (60, .putfield 297, 3), (63, .aload_n 0, 1), (64, .dup, 1), (65, .getfield 300, 3), (68, .aload_n 0, 1), (69, .getfield 303, 3), (72, .iand, 1), (73, .putfield 300, 3), (76, .return_, 1), (77, .aload_n 0, 1), (78, .iload_n 1, 1), (79, .invokevirtual 216, 3)]
theorem daX9_explains_1 : dlX9_explains_1.all (dcK cX9_explains) = true := by decide +kernel
theorem dX9_explains_40 : decode cX9_explains 40 = .ok (.iadd, 1) := dc_at daX9_explains_1 0 rfl
theorem dX9_explains_41 : decode cX9_explains 41 = .ok (.laload, 1) := dc_at daX9_explains_1 1 rfl
theorem dX9_explains_42 : decode cX9_explains 42 = .ok (.lcmp, 1) := dc_at daX9_explains_1 2 rfl
theorem dX9_explains_43 : decode cX9_explains 43 = .ok (.ifCond .eq 4, 3) := dc_at daX9_explains_1 3 rfl
theorem dX9_explains_46 : decode cX9_explains 46 = .ok (.return_, 1) := dc_at daX9_explains_1 4 rfl
theorem dX9_explains_47 : decode cX9_explains 47 = .ok (.iinc 4 1, 3) := dc_at daX9_explains_1 5 rfl
theorem dX9_explains_50 : decode cX9_explains 50 = .ok (.goto (-42), 3) := dc_at daX9_explains_1 6 rfl
theorem dX9_explains_53 : decode cX9_explains 53 = .ok (.aload_n 0, 1) := dc_at daX9_explains_1 7 rfl
theorem dX9_explains_54 : decode cX9_explains 54 = .ok (.dup, 1) := dc_at daX9_explains_1 8 rfl
theorem dX9_explains_55 : decode cX9_explains 55 = .ok (.getfield 297, 3) := dc_at daX9_explains_1 9 rfl
theorem dX9_explains_58 : decode cX9_explains 58 = .ok (.iconst 1, 1) := dc_at daX9_explains_1 10 rfl
theorem dX9_explains_59 : decode cX9_explains 59 = .ok (.iadd, 1) := dc_at daX9_explains_1 11 rfl
theorem dX9_explains_60 : decode cX9_explains 60 = .ok (.putfield 297, 3) := dc_at daX9_explains_1 12 rfl
theorem dX9_explains_63 : decode cX9_explains 63 = .ok (.aload_n 0, 1) := dc_at daX9_explains_1 13 rfl
theorem dX9_explains_64 : decode cX9_explains 64 = .ok (.dup, 1) := dc_at daX9_explains_1 14 rfl
theorem dX9_explains_65 : decode cX9_explains 65 = .ok (.getfield 300, 3) := dc_at daX9_explains_1 15 rfl
theorem dX9_explains_68 : decode cX9_explains 68 = .ok (.aload_n 0, 1) := dc_at daX9_explains_1 16 rfl
theorem dX9_explains_69 : decode cX9_explains 69 = .ok (.getfield 303, 3) := dc_at daX9_explains_1 17 rfl
theorem dX9_explains_72 : decode cX9_explains 72 = .ok (.iand, 1) := dc_at daX9_explains_1 18 rfl
theorem dX9_explains_73 : decode cX9_explains 73 = .ok (.putfield 300, 3) := dc_at daX9_explains_1 19 rfl
theorem dX9_explains_76 : decode cX9_explains 76 = .ok (.return_, 1) := dc_at daX9_explains_1 20 rfl
theorem dX9_explains_77 : decode cX9_explains 77 = .ok (.aload_n 0, 1) := dc_at daX9_explains_1 21 rfl
theorem dX9_explains_78 : decode cX9_explains 78 = .ok (.iload_n 1, 1) := dc_at daX9_explains_1 22 rfl
theorem dX9_explains_79 : decode cX9_explains 79 = .ok (.invokevirtual 216, 3) := dc_at daX9_explains_1 23 rfl
def dlX9_explains_2 : List (Nat × Jvm.ClassFile.Instr × Nat) := [(82, .aload_n 0, 1), (83, .getfield 303, 3), (86, .istore 4, 2), (88, .iconst 0, 1), (89, .istore 5, 2), (91, .iload 5, 2), (93, .iconst 3, 1), (94, .if_icmp .ge 59, 3), (97, .aload_n 0, 1), (98, .iload 5, 2), (100, .i2l, 1), (101, .invokevirtual 202, 3), (104, .ifCond .eq 6, 3), (107, .goto 40, 3), (110, .aload_n 0, 1), (111, .iload 5, 2), (113, .iconst 0, 1), (114, .invokevirtual 206, 3), (117, .pop, 1), (118, .aload_n 0, 1), (119, .iload 4, 2), (121, .iconst 1, 1), (122, .aload_n 0, 1), (123, .getfield 13, 3)]
theorem daX9_explains_2 : dlX9_explains_2.all (dcK cX9_explains) = true := by decide +kernel
theorem dX9_explains_82 : decode cX9_explains 82 = .ok (.aload_n 0, 1) := dc_at daX9_explains_2 0 rfl
theorem dX9_explains_83 : decode cX9_explains 83 = .ok (.getfield 303, 3) := dc_at daX9_explains_2 1 rfl
theorem dX9_explains_86 : decode cX9_explains 86 = .ok (.istore 4, 2) := dc_at daX9_explains_2 2 rfl
theorem dX9_explains_88 : decode cX9_explains 88 = .ok (.iconst 0, 1) := dc_at daX9_explains_2 3 rfl
theorem dX9_explains_89 : decode cX9_explains 89 = .ok (.istore 5, 2) := dc_at daX9_explains_2 4 rfl
theorem dX9_explains_91 : decode cX9_explains 91 = .ok (.iload 5, 2) := dc_at daX9_explains_2 5 rfl
theorem dX9_explains_93 : decode cX9_explains 93 = .ok (.iconst 3, 1) := dc_at daX9_explains_2 6 rfl
theorem dX9_explains_94 : decode cX9_explains 94 = .ok (.if_icmp .ge 59, 3) := dc_at daX9_explains_2 7 rfl
theorem dX9_explains_97 : decode cX9_explains 97 = .ok (.aload_n 0, 1) := dc_at daX9_explains_2 8 rfl
theorem dX9_explains_98 : decode cX9_explains 98 = .ok (.iload 5, 2) := dc_at daX9_explains_2 9 rfl
theorem dX9_explains_100 : decode cX9_explains 100 = .ok (.i2l, 1) := dc_at daX9_explains_2 10 rfl
theorem dX9_explains_101 : decode cX9_explains 101 = .ok (.invokevirtual 202, 3) := dc_at daX9_explains_2 11 rfl
theorem dX9_explains_104 : decode cX9_explains 104 = .ok (.ifCond .eq 6, 3) := dc_at daX9_explains_2 12 rfl
theorem dX9_explains_107 : decode cX9_explains 107 = .ok (.goto 40, 3) := dc_at daX9_explains_2 13 rfl
theorem dX9_explains_110 : decode cX9_explains 110 = .ok (.aload_n 0, 1) := dc_at daX9_explains_2 14 rfl
theorem dX9_explains_111 : decode cX9_explains 111 = .ok (.iload 5, 2) := dc_at daX9_explains_2 15 rfl
theorem dX9_explains_113 : decode cX9_explains 113 = .ok (.iconst 0, 1) := dc_at daX9_explains_2 16 rfl
theorem dX9_explains_114 : decode cX9_explains 114 = .ok (.invokevirtual 206, 3) := dc_at daX9_explains_2 17 rfl
theorem dX9_explains_117 : decode cX9_explains 117 = .ok (.pop, 1) := dc_at daX9_explains_2 18 rfl
theorem dX9_explains_118 : decode cX9_explains 118 = .ok (.aload_n 0, 1) := dc_at daX9_explains_2 19 rfl
theorem dX9_explains_119 : decode cX9_explains 119 = .ok (.iload 4, 2) := dc_at daX9_explains_2 20 rfl
theorem dX9_explains_121 : decode cX9_explains 121 = .ok (.iconst 1, 1) := dc_at daX9_explains_2 21 rfl
theorem dX9_explains_122 : decode cX9_explains 122 = .ok (.aload_n 0, 1) := dc_at daX9_explains_2 22 rfl
theorem dX9_explains_123 : decode cX9_explains 123 = .ok (.getfield 13, 3) := dc_at daX9_explains_2 23 rfl
def dlX9_explains_3 : List (Nat × Jvm.ClassFile.Instr × Nat) := [(126, .iconst 2, 1), (127, .iaload, 1), (128, .ishl, 1), (129, .ior, 1), (130, .putfield 303, 3), (133, .aload_n 0, 1), (134, .iload_n 1, 1), (135, .iconst 1, 1), (136, .iadd, 1), (137, .iload_n 2, 1), (138, .iload_n 3, 1), (139, .invokevirtual 306, 3), (142, .aload_n 0, 1), (143, .iload_n 1, 1), (144, .invokevirtual 222, 3), (147, .iinc 5 1, 3), (150, .goto (-59), 3), (153, .aload_n 0, 1), (154, .iload 4, 2), (156, .putfield 303, 3), (159, .return_, 1)]
theorem daX9_explains_3 : dlX9_explains_3.all (dcK cX9_explains) = true := by decide +kernel
theorem dX9_explains_126 : decode cX9_explains 126 = .ok (.iconst 2, 1) := dc_at daX9_explains_3 0 rfl
theorem dX9_explains_127 : decode cX9_explains 127 = .ok (.iaload, 1) := dc_at daX9_explains_3 1 rfl
theorem dX9_explains_128 : decode cX9_explains 128 = .ok (.ishl, 1) := dc_at daX9_explains_3 2 rfl
theorem dX9_explains_129 : decode cX9_explains 129 = .ok (.ior, 1) := dc_at daX9_explains_3 3 rfl
theorem dX9_explains_130 : decode cX9_explains 130 = .ok (.putfield 303, 3) := dc_at daX9_explains_3 4 rfl
theorem dX9_explains_133 : decode cX9_explains 133 = .ok (.aload_n 0, 1) := dc_at daX9_explains_3 5 rfl
theorem dX9_explains_134 : decode cX9_explains 134 = .ok (.iload_n 1, 1) := dc_at daX9_explains_3 6 rfl
theorem dX9_explains_135 : decode cX9_explains 135 = .ok (.iconst 1, 1) := dc_at daX9_explains_3 7 rfl
theorem dX9_explains_136 : decode cX9_explains 136 = .ok (.iadd, 1) := dc_at daX9_explains_3 8 rfl
theorem dX9_explains_137 : decode cX9_explains 137 = .ok (.iload_n 2, 1) := dc_at daX9_explains_3 9 rfl
theorem dX9_explains_138 : decode cX9_explains 138 = .ok (.iload_n 3, 1) := dc_at daX9_explains_3 10 rfl
theorem dX9_explains_139 : decode cX9_explains 139 = .ok (.invokevirtual 306, 3) := dc_at daX9_explains_3 11 rfl
theorem dX9_explains_142 : decode cX9_explains 142 = .ok (.aload_n 0, 1) := dc_at daX9_explains_3 12 rfl
theorem dX9_explains_143 : decode cX9_explains 143 = .ok (.iload_n 1, 1) := dc_at daX9_explains_3 13 rfl
theorem dX9_explains_144 : decode cX9_explains 144 = .ok (.invokevirtual 222, 3) := dc_at daX9_explains_3 14 rfl
theorem dX9_explains_147 : decode cX9_explains 147 = .ok (.iinc 5 1, 3) := dc_at daX9_explains_3 15 rfl
theorem dX9_explains_150 : decode cX9_explains 150 = .ok (.goto (-59), 3) := dc_at daX9_explains_3 16 rfl
theorem dX9_explains_153 : decode cX9_explains 153 = .ok (.aload_n 0, 1) := dc_at daX9_explains_3 17 rfl
theorem dX9_explains_154 : decode cX9_explains 154 = .ok (.iload 4, 2) := dc_at daX9_explains_3 18 rfl
theorem dX9_explains_156 : decode cX9_explains 156 = .ok (.putfield 303, 3) := dc_at daX9_explains_3 19 rfl
theorem dX9_explains_159 : decode cX9_explains 159 = .ok (.return_, 1) := dc_at daX9_explains_3 20 rfl
def dlX9_laysStubble_0 : List (Nat × Jvm.ClassFile.Instr × Nat) := [(0, .iload_n 1, 1), (1, .i2l, 1), (2, .lconst 0, 1), (3, .ldc2_w 180, 3), (6, .invokestatic 128, 3), (9, .ifCond .ne 6, 3), (12, .bipush (-2), 2), (14, .ireturn, 1), (15, .aload_n 0, 1), (16, .getfield 51, 3), (19, .iload_n 1, 1), (20, .iaload, 1), (21, .iconst (-1), 1), (22, .if_icmp .ne 6, 3), (25, .bipush (-6), 2), (27, .ireturn, 1), (28, .aload_n 0, 1), (29, .getfield 54, 3), (32, .iload_n 1, 1), (33, .iaload, 1), (34, .aload_n 0, 1), (35, .getfield 13, 3), (38, .iconst 0, 1), (39, .iaload, 1)]
theorem daX9_laysStubble_0 : dlX9_laysStubble_0.all (dcK cX9_laysStubble) = true := by decide +kernel
theorem dX9_laysStubble_0 : decode cX9_laysStubble 0 = .ok (.iload_n 1, 1) := dc_at daX9_laysStubble_0 0 rfl
theorem dX9_laysStubble_1 : decode cX9_laysStubble 1 = .ok (.i2l, 1) := dc_at daX9_laysStubble_0 1 rfl
theorem dX9_laysStubble_2 : decode cX9_laysStubble 2 = .ok (.lconst 0, 1) := dc_at daX9_laysStubble_0 2 rfl
theorem dX9_laysStubble_3 : decode cX9_laysStubble 3 = .ok (.ldc2_w 180, 3) := dc_at daX9_laysStubble_0 3 rfl
theorem dX9_laysStubble_6 : decode cX9_laysStubble 6 = .ok (.invokestatic 128, 3) := dc_at daX9_laysStubble_0 4 rfl
theorem dX9_laysStubble_9 : decode cX9_laysStubble 9 = .ok (.ifCond .ne 6, 3) := dc_at daX9_laysStubble_0 5 rfl
theorem dX9_laysStubble_12 : decode cX9_laysStubble 12 = .ok (.bipush (-2), 2) := dc_at daX9_laysStubble_0 6 rfl
theorem dX9_laysStubble_14 : decode cX9_laysStubble 14 = .ok (.ireturn, 1) := dc_at daX9_laysStubble_0 7 rfl
theorem dX9_laysStubble_15 : decode cX9_laysStubble 15 = .ok (.aload_n 0, 1) := dc_at daX9_laysStubble_0 8 rfl
theorem dX9_laysStubble_16 : decode cX9_laysStubble 16 = .ok (.getfield 51, 3) := dc_at daX9_laysStubble_0 9 rfl
theorem dX9_laysStubble_19 : decode cX9_laysStubble 19 = .ok (.iload_n 1, 1) := dc_at daX9_laysStubble_0 10 rfl
theorem dX9_laysStubble_20 : decode cX9_laysStubble 20 = .ok (.iaload, 1) := dc_at daX9_laysStubble_0 11 rfl
theorem dX9_laysStubble_21 : decode cX9_laysStubble 21 = .ok (.iconst (-1), 1) := dc_at daX9_laysStubble_0 12 rfl
theorem dX9_laysStubble_22 : decode cX9_laysStubble 22 = .ok (.if_icmp .ne 6, 3) := dc_at daX9_laysStubble_0 13 rfl
theorem dX9_laysStubble_25 : decode cX9_laysStubble 25 = .ok (.bipush (-6), 2) := dc_at daX9_laysStubble_0 14 rfl
theorem dX9_laysStubble_27 : decode cX9_laysStubble 27 = .ok (.ireturn, 1) := dc_at daX9_laysStubble_0 15 rfl
theorem dX9_laysStubble_28 : decode cX9_laysStubble 28 = .ok (.aload_n 0, 1) := dc_at daX9_laysStubble_0 16 rfl
theorem dX9_laysStubble_29 : decode cX9_laysStubble 29 = .ok (.getfield 54, 3) := dc_at daX9_laysStubble_0 17 rfl
theorem dX9_laysStubble_32 : decode cX9_laysStubble 32 = .ok (.iload_n 1, 1) := dc_at daX9_laysStubble_0 18 rfl
theorem dX9_laysStubble_33 : decode cX9_laysStubble 33 = .ok (.iaload, 1) := dc_at daX9_laysStubble_0 19 rfl
theorem dX9_laysStubble_34 : decode cX9_laysStubble 34 = .ok (.aload_n 0, 1) := dc_at daX9_laysStubble_0 20 rfl
theorem dX9_laysStubble_35 : decode cX9_laysStubble 35 = .ok (.getfield 13, 3) := dc_at daX9_laysStubble_0 21 rfl
theorem dX9_laysStubble_38 : decode cX9_laysStubble 38 = .ok (.iconst 0, 1) := dc_at daX9_laysStubble_0 22 rfl
theorem dX9_laysStubble_39 : decode cX9_laysStubble 39 = .ok (.iaload, 1) := dc_at daX9_laysStubble_0 23 rfl
def dlX9_laysStubble_1 : List (Nat × Jvm.ClassFile.Instr × Nat) := [(40, .if_icmp .eq 6, 3), (43, .bipush (-7), 2), (45, .ireturn, 1), (46, .iload_n 2, 1), (47, .i2l, 1), (48, .lconst 1, 1), (49, .ldc2_w 267, 3), (52, .invokestatic 128, 3), (55, .ifCond .ne 6, 3), (58, .bipush (-3), 2), (60, .ireturn, 1), (61, .aload_n 0, 1), (62, .getfield 13, 3), (65, .iconst 0, 1), (66, .iaload, 1), (67, .ifCond .ne 6, 3), (70, .bipush (-5), 2), (72, .ireturn, 1), (73, .aload_n 0, 1), (74, .iconst 0, 1), (75, .putfield 297, 3), (78, .aload_n 0, 1), (79, .iconst 0, 1), (80, .putfield 303, 3)]
theorem daX9_laysStubble_1 : dlX9_laysStubble_1.all (dcK cX9_laysStubble) = true := by decide +kernel
theorem dX9_laysStubble_40 : decode cX9_laysStubble 40 = .ok (.if_icmp .eq 6, 3) := dc_at daX9_laysStubble_1 0 rfl
theorem dX9_laysStubble_43 : decode cX9_laysStubble 43 = .ok (.bipush (-7), 2) := dc_at daX9_laysStubble_1 1 rfl
theorem dX9_laysStubble_45 : decode cX9_laysStubble 45 = .ok (.ireturn, 1) := dc_at daX9_laysStubble_1 2 rfl
theorem dX9_laysStubble_46 : decode cX9_laysStubble 46 = .ok (.iload_n 2, 1) := dc_at daX9_laysStubble_1 3 rfl
theorem dX9_laysStubble_47 : decode cX9_laysStubble 47 = .ok (.i2l, 1) := dc_at daX9_laysStubble_1 4 rfl
theorem dX9_laysStubble_48 : decode cX9_laysStubble 48 = .ok (.lconst 1, 1) := dc_at daX9_laysStubble_1 5 rfl
theorem dX9_laysStubble_49 : decode cX9_laysStubble 49 = .ok (.ldc2_w 267, 3) := dc_at daX9_laysStubble_1 6 rfl
theorem dX9_laysStubble_52 : decode cX9_laysStubble 52 = .ok (.invokestatic 128, 3) := dc_at daX9_laysStubble_1 7 rfl
theorem dX9_laysStubble_55 : decode cX9_laysStubble 55 = .ok (.ifCond .ne 6, 3) := dc_at daX9_laysStubble_1 8 rfl
theorem dX9_laysStubble_58 : decode cX9_laysStubble 58 = .ok (.bipush (-3), 2) := dc_at daX9_laysStubble_1 9 rfl
theorem dX9_laysStubble_60 : decode cX9_laysStubble 60 = .ok (.ireturn, 1) := dc_at daX9_laysStubble_1 10 rfl
theorem dX9_laysStubble_61 : decode cX9_laysStubble 61 = .ok (.aload_n 0, 1) := dc_at daX9_laysStubble_1 11 rfl
theorem dX9_laysStubble_62 : decode cX9_laysStubble 62 = .ok (.getfield 13, 3) := dc_at daX9_laysStubble_1 12 rfl
theorem dX9_laysStubble_65 : decode cX9_laysStubble 65 = .ok (.iconst 0, 1) := dc_at daX9_laysStubble_1 13 rfl
theorem dX9_laysStubble_66 : decode cX9_laysStubble 66 = .ok (.iaload, 1) := dc_at daX9_laysStubble_1 14 rfl
theorem dX9_laysStubble_67 : decode cX9_laysStubble 67 = .ok (.ifCond .ne 6, 3) := dc_at daX9_laysStubble_1 15 rfl
theorem dX9_laysStubble_70 : decode cX9_laysStubble 70 = .ok (.bipush (-5), 2) := dc_at daX9_laysStubble_1 16 rfl
theorem dX9_laysStubble_72 : decode cX9_laysStubble 72 = .ok (.ireturn, 1) := dc_at daX9_laysStubble_1 17 rfl
theorem dX9_laysStubble_73 : decode cX9_laysStubble 73 = .ok (.aload_n 0, 1) := dc_at daX9_laysStubble_1 18 rfl
theorem dX9_laysStubble_74 : decode cX9_laysStubble 74 = .ok (.iconst 0, 1) := dc_at daX9_laysStubble_1 19 rfl
theorem dX9_laysStubble_75 : decode cX9_laysStubble 75 = .ok (.putfield 297, 3) := dc_at daX9_laysStubble_1 20 rfl
theorem dX9_laysStubble_78 : decode cX9_laysStubble 78 = .ok (.aload_n 0, 1) := dc_at daX9_laysStubble_1 21 rfl
theorem dX9_laysStubble_79 : decode cX9_laysStubble 79 = .ok (.iconst 0, 1) := dc_at daX9_laysStubble_1 22 rfl
theorem dX9_laysStubble_80 : decode cX9_laysStubble 80 = .ok (.putfield 303, 3) := dc_at daX9_laysStubble_1 23 rfl
def dlX9_laysStubble_2 : List (Nat × Jvm.ClassFile.Instr × Nat) := [(83, .aload_n 0, 1), (84, .iconst 1, 1), (85, .aload_n 0, 1), (86, .getfield 13, 3), (89, .iconst 0, 1), (90, .iaload, 1), (91, .ishl, 1), (92, .iconst 1, 1), (93, .isub, 1), (94, .putfield 300, 3), (97, .aload_n 0, 1), (98, .iconst 0, 1), (99, .iload_n 2, 1), (100, .iload_n 1, 1), (101, .invokevirtual 306, 3), (104, .iconst 0, 1), (105, .ireturn, 1)]
theorem daX9_laysStubble_2 : dlX9_laysStubble_2.all (dcK cX9_laysStubble) = true := by decide +kernel
theorem dX9_laysStubble_83 : decode cX9_laysStubble 83 = .ok (.aload_n 0, 1) := dc_at daX9_laysStubble_2 0 rfl
theorem dX9_laysStubble_84 : decode cX9_laysStubble 84 = .ok (.iconst 1, 1) := dc_at daX9_laysStubble_2 1 rfl
theorem dX9_laysStubble_85 : decode cX9_laysStubble 85 = .ok (.aload_n 0, 1) := dc_at daX9_laysStubble_2 2 rfl
theorem dX9_laysStubble_86 : decode cX9_laysStubble 86 = .ok (.getfield 13, 3) := dc_at daX9_laysStubble_2 3 rfl
theorem dX9_laysStubble_89 : decode cX9_laysStubble 89 = .ok (.iconst 0, 1) := dc_at daX9_laysStubble_2 4 rfl
theorem dX9_laysStubble_90 : decode cX9_laysStubble 90 = .ok (.iaload, 1) := dc_at daX9_laysStubble_2 5 rfl
theorem dX9_laysStubble_91 : decode cX9_laysStubble 91 = .ok (.ishl, 1) := dc_at daX9_laysStubble_2 6 rfl
theorem dX9_laysStubble_92 : decode cX9_laysStubble 92 = .ok (.iconst 1, 1) := dc_at daX9_laysStubble_2 7 rfl
theorem dX9_laysStubble_93 : decode cX9_laysStubble 93 = .ok (.isub, 1) := dc_at daX9_laysStubble_2 8 rfl
theorem dX9_laysStubble_94 : decode cX9_laysStubble 94 = .ok (.putfield 300, 3) := dc_at daX9_laysStubble_2 9 rfl
theorem dX9_laysStubble_97 : decode cX9_laysStubble 97 = .ok (.aload_n 0, 1) := dc_at daX9_laysStubble_2 10 rfl
theorem dX9_laysStubble_98 : decode cX9_laysStubble 98 = .ok (.iconst 0, 1) := dc_at daX9_laysStubble_2 11 rfl
theorem dX9_laysStubble_99 : decode cX9_laysStubble 99 = .ok (.iload_n 2, 1) := dc_at daX9_laysStubble_2 12 rfl
theorem dX9_laysStubble_100 : decode cX9_laysStubble 100 = .ok (.iload_n 1, 1) := dc_at daX9_laysStubble_2 13 rfl
theorem dX9_laysStubble_101 : decode cX9_laysStubble 101 = .ok (.invokevirtual 306, 3) := dc_at daX9_laysStubble_2 14 rfl
theorem dX9_laysStubble_104 : decode cX9_laysStubble 104 = .ok (.iconst 0, 1) := dc_at daX9_laysStubble_2 15 rfl
theorem dX9_laysStubble_105 : decode cX9_laysStubble 105 = .ok (.ireturn, 1) := dc_at daX9_laysStubble_2 16 rfl
def dlX9_stubble_0 : List (Nat × Jvm.ClassFile.Instr × Nat) := [(0, .aload_n 0, 1), (1, .iconst 0, 1), (2, .putfield 1, 3), (5, .aload_n 0, 1), (6, .iload_n 1, 1), (7, .iload_n 2, 1), (8, .invokevirtual 310, 3), (11, .istore_n 3, 1), (12, .iload_n 3, 1), (13, .ifCond .eq 7, 3), (16, .iload_n 3, 1), (17, .goto 7, 3), (20, .aload_n 0, 1), (21, .getfield 297, 3), (24, .ireturn, 1)]
theorem daX9_stubble_0 : dlX9_stubble_0.all (dcK cX9_stubble) = true := by decide +kernel
theorem dX9_stubble_0 : decode cX9_stubble 0 = .ok (.aload_n 0, 1) := dc_at daX9_stubble_0 0 rfl
theorem dX9_stubble_1 : decode cX9_stubble 1 = .ok (.iconst 0, 1) := dc_at daX9_stubble_0 1 rfl
theorem dX9_stubble_2 : decode cX9_stubble 2 = .ok (.putfield 1, 3) := dc_at daX9_stubble_0 2 rfl
theorem dX9_stubble_5 : decode cX9_stubble 5 = .ok (.aload_n 0, 1) := dc_at daX9_stubble_0 3 rfl
theorem dX9_stubble_6 : decode cX9_stubble 6 = .ok (.iload_n 1, 1) := dc_at daX9_stubble_0 4 rfl
theorem dX9_stubble_7 : decode cX9_stubble 7 = .ok (.iload_n 2, 1) := dc_at daX9_stubble_0 5 rfl
theorem dX9_stubble_8 : decode cX9_stubble 8 = .ok (.invokevirtual 310, 3) := dc_at daX9_stubble_0 6 rfl
theorem dX9_stubble_11 : decode cX9_stubble 11 = .ok (.istore_n 3, 1) := dc_at daX9_stubble_0 7 rfl
theorem dX9_stubble_12 : decode cX9_stubble 12 = .ok (.iload_n 3, 1) := dc_at daX9_stubble_0 8 rfl
theorem dX9_stubble_13 : decode cX9_stubble 13 = .ok (.ifCond .eq 7, 3) := dc_at daX9_stubble_0 9 rfl
theorem dX9_stubble_16 : decode cX9_stubble 16 = .ok (.iload_n 3, 1) := dc_at daX9_stubble_0 10 rfl
theorem dX9_stubble_17 : decode cX9_stubble 17 = .ok (.goto 7, 3) := dc_at daX9_stubble_0 11 rfl
theorem dX9_stubble_20 : decode cX9_stubble 20 = .ok (.aload_n 0, 1) := dc_at daX9_stubble_0 12 rfl
theorem dX9_stubble_21 : decode cX9_stubble 21 = .ok (.getfield 297, 3) := dc_at daX9_stubble_0 13 rfl
theorem dX9_stubble_24 : decode cX9_stubble 24 = .ok (.ireturn, 1) := dc_at daX9_stubble_0 14 rfl
def dlX9_sure_0 : List (Nat × Jvm.ClassFile.Instr × Nat) := [(0, .aload_n 0, 1), (1, .iconst 0, 1), (2, .putfield 1, 3), (5, .aload_n 0, 1), (6, .iload_n 1, 1), (7, .iload_n 2, 1), (8, .invokevirtual 310, 3), (11, .istore_n 3, 1), (12, .iload_n 3, 1), (13, .ifCond .eq 7, 3), (16, .iload_n 3, 1), (17, .goto 18, 3), (20, .aload_n 0, 1), (21, .getfield 297, 3), (24, .ifCond .ne 7, 3), (27, .iconst 0, 1), (28, .goto 7, 3), (31, .aload_n 0, 1), (32, .getfield 300, 3), (35, .ireturn, 1)]
theorem daX9_sure_0 : dlX9_sure_0.all (dcK cX9_sure) = true := by decide +kernel
theorem dX9_sure_0 : decode cX9_sure 0 = .ok (.aload_n 0, 1) := dc_at daX9_sure_0 0 rfl
theorem dX9_sure_1 : decode cX9_sure 1 = .ok (.iconst 0, 1) := dc_at daX9_sure_0 1 rfl
theorem dX9_sure_2 : decode cX9_sure 2 = .ok (.putfield 1, 3) := dc_at daX9_sure_0 2 rfl
theorem dX9_sure_5 : decode cX9_sure 5 = .ok (.aload_n 0, 1) := dc_at daX9_sure_0 3 rfl
theorem dX9_sure_6 : decode cX9_sure 6 = .ok (.iload_n 1, 1) := dc_at daX9_sure_0 4 rfl
theorem dX9_sure_7 : decode cX9_sure 7 = .ok (.iload_n 2, 1) := dc_at daX9_sure_0 5 rfl
theorem dX9_sure_8 : decode cX9_sure 8 = .ok (.invokevirtual 310, 3) := dc_at daX9_sure_0 6 rfl
theorem dX9_sure_11 : decode cX9_sure 11 = .ok (.istore_n 3, 1) := dc_at daX9_sure_0 7 rfl
theorem dX9_sure_12 : decode cX9_sure 12 = .ok (.iload_n 3, 1) := dc_at daX9_sure_0 8 rfl
theorem dX9_sure_13 : decode cX9_sure 13 = .ok (.ifCond .eq 7, 3) := dc_at daX9_sure_0 9 rfl
theorem dX9_sure_16 : decode cX9_sure 16 = .ok (.iload_n 3, 1) := dc_at daX9_sure_0 10 rfl
theorem dX9_sure_17 : decode cX9_sure 17 = .ok (.goto 18, 3) := dc_at daX9_sure_0 11 rfl
theorem dX9_sure_20 : decode cX9_sure 20 = .ok (.aload_n 0, 1) := dc_at daX9_sure_0 12 rfl
theorem dX9_sure_21 : decode cX9_sure 21 = .ok (.getfield 297, 3) := dc_at daX9_sure_0 13 rfl
theorem dX9_sure_24 : decode cX9_sure 24 = .ok (.ifCond .ne 7, 3) := dc_at daX9_sure_0 14 rfl
theorem dX9_sure_27 : decode cX9_sure 27 = .ok (.iconst 0, 1) := dc_at daX9_sure_0 15 rfl
theorem dX9_sure_28 : decode cX9_sure 28 = .ok (.goto 7, 3) := dc_at daX9_sure_0 16 rfl
theorem dX9_sure_31 : decode cX9_sure 31 = .ok (.aload_n 0, 1) := dc_at daX9_sure_0 17 rfl
theorem dX9_sure_32 : decode cX9_sure 32 = .ok (.getfield 300, 3) := dc_at daX9_sure_0 18 rfl
theorem dX9_sure_35 : decode cX9_sure 35 = .ok (.ireturn, 1) := dc_at daX9_sure_0 19 rfl
def dlX9_isOther_0 : List (Nat × Jvm.ClassFile.Instr × Nat) := [(0, .iload_n 2, 1), (1, .aload_n 0, 1), (2, .getfield 54, 3), (5, .iload_n 1, 1), (6, .iaload, 1), (7, .if_icmp .ge 23, 3), (10, .aload_n 0, 1), (11, .getfield 57, 3), (14, .bipush 40, 2), (16, .iload_n 1, 1), (17, .imul, 1), (18, .iload_n 2, 1), (19, .iadd, 1), (20, .laload, 1), (21, .lconst 0, 1), (22, .lcmp, 1), (23, .ifCond .ne 7, 3), (26, .iconst 1, 1), (27, .goto 4, 3), (30, .iconst 0, 1), (31, .ireturn, 1)]
theorem daX9_isOther_0 : dlX9_isOther_0.all (dcK cX9_isOther) = true := by decide +kernel
theorem dX9_isOther_0 : decode cX9_isOther 0 = .ok (.iload_n 2, 1) := dc_at daX9_isOther_0 0 rfl
theorem dX9_isOther_1 : decode cX9_isOther 1 = .ok (.aload_n 0, 1) := dc_at daX9_isOther_0 1 rfl
theorem dX9_isOther_2 : decode cX9_isOther 2 = .ok (.getfield 54, 3) := dc_at daX9_isOther_0 2 rfl
theorem dX9_isOther_5 : decode cX9_isOther 5 = .ok (.iload_n 1, 1) := dc_at daX9_isOther_0 3 rfl
theorem dX9_isOther_6 : decode cX9_isOther 6 = .ok (.iaload, 1) := dc_at daX9_isOther_0 4 rfl
theorem dX9_isOther_7 : decode cX9_isOther 7 = .ok (.if_icmp .ge 23, 3) := dc_at daX9_isOther_0 5 rfl
theorem dX9_isOther_10 : decode cX9_isOther 10 = .ok (.aload_n 0, 1) := dc_at daX9_isOther_0 6 rfl
theorem dX9_isOther_11 : decode cX9_isOther 11 = .ok (.getfield 57, 3) := dc_at daX9_isOther_0 7 rfl
theorem dX9_isOther_14 : decode cX9_isOther 14 = .ok (.bipush 40, 2) := dc_at daX9_isOther_0 8 rfl
theorem dX9_isOther_16 : decode cX9_isOther 16 = .ok (.iload_n 1, 1) := dc_at daX9_isOther_0 9 rfl
theorem dX9_isOther_17 : decode cX9_isOther 17 = .ok (.imul, 1) := dc_at daX9_isOther_0 10 rfl
theorem dX9_isOther_18 : decode cX9_isOther 18 = .ok (.iload_n 2, 1) := dc_at daX9_isOther_0 11 rfl
theorem dX9_isOther_19 : decode cX9_isOther 19 = .ok (.iadd, 1) := dc_at daX9_isOther_0 12 rfl
theorem dX9_isOther_20 : decode cX9_isOther 20 = .ok (.laload, 1) := dc_at daX9_isOther_0 13 rfl
theorem dX9_isOther_21 : decode cX9_isOther 21 = .ok (.lconst 0, 1) := dc_at daX9_isOther_0 14 rfl
theorem dX9_isOther_22 : decode cX9_isOther 22 = .ok (.lcmp, 1) := dc_at daX9_isOther_0 15 rfl
theorem dX9_isOther_23 : decode cX9_isOther 23 = .ok (.ifCond .ne 7, 3) := dc_at daX9_isOther_0 16 rfl
theorem dX9_isOther_26 : decode cX9_isOther 26 = .ok (.iconst 1, 1) := dc_at daX9_isOther_0 17 rfl
theorem dX9_isOther_27 : decode cX9_isOther 27 = .ok (.goto 4, 3) := dc_at daX9_isOther_0 18 rfl
theorem dX9_isOther_30 : decode cX9_isOther 30 = .ok (.iconst 0, 1) := dc_at daX9_isOther_0 19 rfl
theorem dX9_isOther_31 : decode cX9_isOther 31 = .ok (.ireturn, 1) := dc_at daX9_isOther_0 20 rfl
def dlX9_canWalk_0 : List (Nat × Jvm.ClassFile.Instr × Nat) := [(0, .aload_n 0, 1), (1, .getfield 13, 3), (4, .iconst 2, 1), (5, .iaload, 1), (6, .istore_n 2, 1), (7, .iconst 0, 1), (8, .istore_n 3, 1), (9, .iload_n 3, 1), (10, .aload_n 0, 1), (11, .getfield 54, 3), (14, .iload_n 1, 1), (15, .iaload, 1), (16, .if_icmp .ge 56, 3), (19, .aload_n 0, 1), (20, .getfield 57, 3), (23, .bipush 40, 2), (25, .iload_n 1, 1), (26, .imul, 1), (27, .iload_n 3, 1), (28, .iadd, 1), (29, .laload, 1), (30, .lstore 4, 2), (32, .lload 4, 2), (34, .lconst 0, 1)]
theorem daX9_canWalk_0 : dlX9_canWalk_0.all (dcK cX9_canWalk) = true := by decide +kernel
theorem dX9_canWalk_0 : decode cX9_canWalk 0 = .ok (.aload_n 0, 1) := dc_at daX9_canWalk_0 0 rfl
theorem dX9_canWalk_1 : decode cX9_canWalk 1 = .ok (.getfield 13, 3) := dc_at daX9_canWalk_0 1 rfl
theorem dX9_canWalk_4 : decode cX9_canWalk 4 = .ok (.iconst 2, 1) := dc_at daX9_canWalk_0 2 rfl
theorem dX9_canWalk_5 : decode cX9_canWalk 5 = .ok (.iaload, 1) := dc_at daX9_canWalk_0 3 rfl
theorem dX9_canWalk_6 : decode cX9_canWalk 6 = .ok (.istore_n 2, 1) := dc_at daX9_canWalk_0 4 rfl
theorem dX9_canWalk_7 : decode cX9_canWalk 7 = .ok (.iconst 0, 1) := dc_at daX9_canWalk_0 5 rfl
theorem dX9_canWalk_8 : decode cX9_canWalk 8 = .ok (.istore_n 3, 1) := dc_at daX9_canWalk_0 6 rfl
theorem dX9_canWalk_9 : decode cX9_canWalk 9 = .ok (.iload_n 3, 1) := dc_at daX9_canWalk_0 7 rfl
theorem dX9_canWalk_10 : decode cX9_canWalk 10 = .ok (.aload_n 0, 1) := dc_at daX9_canWalk_0 8 rfl
theorem dX9_canWalk_11 : decode cX9_canWalk 11 = .ok (.getfield 54, 3) := dc_at daX9_canWalk_0 9 rfl
theorem dX9_canWalk_14 : decode cX9_canWalk 14 = .ok (.iload_n 1, 1) := dc_at daX9_canWalk_0 10 rfl
theorem dX9_canWalk_15 : decode cX9_canWalk 15 = .ok (.iaload, 1) := dc_at daX9_canWalk_0 11 rfl
theorem dX9_canWalk_16 : decode cX9_canWalk 16 = .ok (.if_icmp .ge 56, 3) := dc_at daX9_canWalk_0 12 rfl
theorem dX9_canWalk_19 : decode cX9_canWalk 19 = .ok (.aload_n 0, 1) := dc_at daX9_canWalk_0 13 rfl
theorem dX9_canWalk_20 : decode cX9_canWalk 20 = .ok (.getfield 57, 3) := dc_at daX9_canWalk_0 14 rfl
theorem dX9_canWalk_23 : decode cX9_canWalk 23 = .ok (.bipush 40, 2) := dc_at daX9_canWalk_0 15 rfl
theorem dX9_canWalk_25 : decode cX9_canWalk 25 = .ok (.iload_n 1, 1) := dc_at daX9_canWalk_0 16 rfl
theorem dX9_canWalk_26 : decode cX9_canWalk 26 = .ok (.imul, 1) := dc_at daX9_canWalk_0 17 rfl
theorem dX9_canWalk_27 : decode cX9_canWalk 27 = .ok (.iload_n 3, 1) := dc_at daX9_canWalk_0 18 rfl
theorem dX9_canWalk_28 : decode cX9_canWalk 28 = .ok (.iadd, 1) := dc_at daX9_canWalk_0 19 rfl
theorem dX9_canWalk_29 : decode cX9_canWalk 29 = .ok (.laload, 1) := dc_at daX9_canWalk_0 20 rfl
theorem dX9_canWalk_30 : decode cX9_canWalk 30 = .ok (.lstore 4, 2) := dc_at daX9_canWalk_0 21 rfl
theorem dX9_canWalk_32 : decode cX9_canWalk 32 = .ok (.lload 4, 2) := dc_at daX9_canWalk_0 22 rfl
theorem dX9_canWalk_34 : decode cX9_canWalk 34 = .ok (.lconst 0, 1) := dc_at daX9_canWalk_0 23 rfl
def dlX9_canWalk_1 : List (Nat × Jvm.ClassFile.Instr × Nat) := [(35, .ldc2_w 196, 3), (38, .invokestatic 128, 3), (41, .ifCond .eq 16, 3), (44, .aload_n 0, 1), (45, .iload_n 2, 1), (46, .lload 4, 2), (48, .invokestatic 198, 3), (51, .invokevirtual 172, 3), (54, .ifCond .ne 5, 3), (57, .iconst 0, 1), (58, .ireturn, 1), (59, .iload_n 2, 1), (60, .lload 4, 2), (62, .invokestatic 198, 3), (65, .istore_n 2, 1), (66, .iinc 3 1, 3), (69, .goto (-60), 3), (72, .iconst 1, 1), (73, .ireturn, 1)]
theorem daX9_canWalk_1 : dlX9_canWalk_1.all (dcK cX9_canWalk) = true := by decide +kernel
theorem dX9_canWalk_35 : decode cX9_canWalk 35 = .ok (.ldc2_w 196, 3) := dc_at daX9_canWalk_1 0 rfl
theorem dX9_canWalk_38 : decode cX9_canWalk 38 = .ok (.invokestatic 128, 3) := dc_at daX9_canWalk_1 1 rfl
theorem dX9_canWalk_41 : decode cX9_canWalk 41 = .ok (.ifCond .eq 16, 3) := dc_at daX9_canWalk_1 2 rfl
theorem dX9_canWalk_44 : decode cX9_canWalk 44 = .ok (.aload_n 0, 1) := dc_at daX9_canWalk_1 3 rfl
theorem dX9_canWalk_45 : decode cX9_canWalk 45 = .ok (.iload_n 2, 1) := dc_at daX9_canWalk_1 4 rfl
theorem dX9_canWalk_46 : decode cX9_canWalk 46 = .ok (.lload 4, 2) := dc_at daX9_canWalk_1 5 rfl
theorem dX9_canWalk_48 : decode cX9_canWalk 48 = .ok (.invokestatic 198, 3) := dc_at daX9_canWalk_1 6 rfl
theorem dX9_canWalk_51 : decode cX9_canWalk 51 = .ok (.invokevirtual 172, 3) := dc_at daX9_canWalk_1 7 rfl
theorem dX9_canWalk_54 : decode cX9_canWalk 54 = .ok (.ifCond .ne 5, 3) := dc_at daX9_canWalk_1 8 rfl
theorem dX9_canWalk_57 : decode cX9_canWalk 57 = .ok (.iconst 0, 1) := dc_at daX9_canWalk_1 9 rfl
theorem dX9_canWalk_58 : decode cX9_canWalk 58 = .ok (.ireturn, 1) := dc_at daX9_canWalk_1 10 rfl
theorem dX9_canWalk_59 : decode cX9_canWalk 59 = .ok (.iload_n 2, 1) := dc_at daX9_canWalk_1 11 rfl
theorem dX9_canWalk_60 : decode cX9_canWalk 60 = .ok (.lload 4, 2) := dc_at daX9_canWalk_1 12 rfl
theorem dX9_canWalk_62 : decode cX9_canWalk 62 = .ok (.invokestatic 198, 3) := dc_at daX9_canWalk_1 13 rfl
theorem dX9_canWalk_65 : decode cX9_canWalk 65 = .ok (.istore_n 2, 1) := dc_at daX9_canWalk_1 14 rfl
theorem dX9_canWalk_66 : decode cX9_canWalk 66 = .ok (.iinc 3 1, 3) := dc_at daX9_canWalk_1 15 rfl
theorem dX9_canWalk_69 : decode cX9_canWalk 69 = .ok (.goto (-60), 3) := dc_at daX9_canWalk_1 16 rfl
theorem dX9_canWalk_72 : decode cX9_canWalk 72 = .ok (.iconst 1, 1) := dc_at daX9_canWalk_1 17 rfl
theorem dX9_canWalk_73 : decode cX9_canWalk 73 = .ok (.ireturn, 1) := dc_at daX9_canWalk_1 18 rfl
def dlX9_meets_0 : List (Nat × Jvm.ClassFile.Instr × Nat) := [(0, .aload_n 0, 1), (1, .iconst 0, 1), (2, .putfield 1, 3), (5, .iload_n 1, 1), (6, .i2l, 1), (7, .lconst 0, 1), (8, .ldc2_w 180, 3), (11, .invokestatic 128, 3), (14, .ifCond .eq 15, 3), (17, .iload_n 2, 1), (18, .i2l, 1), (19, .lconst 0, 1), (20, .ldc2_w 180, 3), (23, .invokestatic 128, 3), (26, .ifCond .ne 6, 3), (29, .bipush (-2), 2), (31, .ireturn, 1), (32, .aload_n 0, 1), (33, .getfield 51, 3), (36, .iload_n 1, 1), (37, .iaload, 1), (38, .iconst (-1), 1), (39, .if_icmp .eq 13, 3), (42, .aload_n 0, 1)]
theorem daX9_meets_0 : dlX9_meets_0.all (dcK cX9_meets) = true := by decide +kernel
theorem dX9_meets_0 : decode cX9_meets 0 = .ok (.aload_n 0, 1) := dc_at daX9_meets_0 0 rfl
theorem dX9_meets_1 : decode cX9_meets 1 = .ok (.iconst 0, 1) := dc_at daX9_meets_0 1 rfl
theorem dX9_meets_2 : decode cX9_meets 2 = .ok (.putfield 1, 3) := dc_at daX9_meets_0 2 rfl
theorem dX9_meets_5 : decode cX9_meets 5 = .ok (.iload_n 1, 1) := dc_at daX9_meets_0 3 rfl
theorem dX9_meets_6 : decode cX9_meets 6 = .ok (.i2l, 1) := dc_at daX9_meets_0 4 rfl
theorem dX9_meets_7 : decode cX9_meets 7 = .ok (.lconst 0, 1) := dc_at daX9_meets_0 5 rfl
theorem dX9_meets_8 : decode cX9_meets 8 = .ok (.ldc2_w 180, 3) := dc_at daX9_meets_0 6 rfl
theorem dX9_meets_11 : decode cX9_meets 11 = .ok (.invokestatic 128, 3) := dc_at daX9_meets_0 7 rfl
theorem dX9_meets_14 : decode cX9_meets 14 = .ok (.ifCond .eq 15, 3) := dc_at daX9_meets_0 8 rfl
theorem dX9_meets_17 : decode cX9_meets 17 = .ok (.iload_n 2, 1) := dc_at daX9_meets_0 9 rfl
theorem dX9_meets_18 : decode cX9_meets 18 = .ok (.i2l, 1) := dc_at daX9_meets_0 10 rfl
theorem dX9_meets_19 : decode cX9_meets 19 = .ok (.lconst 0, 1) := dc_at daX9_meets_0 11 rfl
theorem dX9_meets_20 : decode cX9_meets 20 = .ok (.ldc2_w 180, 3) := dc_at daX9_meets_0 12 rfl
theorem dX9_meets_23 : decode cX9_meets 23 = .ok (.invokestatic 128, 3) := dc_at daX9_meets_0 13 rfl
theorem dX9_meets_26 : decode cX9_meets 26 = .ok (.ifCond .ne 6, 3) := dc_at daX9_meets_0 14 rfl
theorem dX9_meets_29 : decode cX9_meets 29 = .ok (.bipush (-2), 2) := dc_at daX9_meets_0 15 rfl
theorem dX9_meets_31 : decode cX9_meets 31 = .ok (.ireturn, 1) := dc_at daX9_meets_0 16 rfl
theorem dX9_meets_32 : decode cX9_meets 32 = .ok (.aload_n 0, 1) := dc_at daX9_meets_0 17 rfl
theorem dX9_meets_33 : decode cX9_meets 33 = .ok (.getfield 51, 3) := dc_at daX9_meets_0 18 rfl
theorem dX9_meets_36 : decode cX9_meets 36 = .ok (.iload_n 1, 1) := dc_at daX9_meets_0 19 rfl
theorem dX9_meets_37 : decode cX9_meets 37 = .ok (.iaload, 1) := dc_at daX9_meets_0 20 rfl
theorem dX9_meets_38 : decode cX9_meets 38 = .ok (.iconst (-1), 1) := dc_at daX9_meets_0 21 rfl
theorem dX9_meets_39 : decode cX9_meets 39 = .ok (.if_icmp .eq 13, 3) := dc_at daX9_meets_0 22 rfl
theorem dX9_meets_42 : decode cX9_meets 42 = .ok (.aload_n 0, 1) := dc_at daX9_meets_0 23 rfl
def dlX9_meets_1 : List (Nat × Jvm.ClassFile.Instr × Nat) := [(43, .getfield 51, 3), (46, .iload_n 2, 1), (47, .iaload, 1), (48, .iconst (-1), 1), (49, .if_icmp .ne 6, 3), (52, .bipush (-6), 2), (54, .ireturn, 1), (55, .aload_n 0, 1), (56, .iload_n 1, 1), (57, .invokevirtual 313, 3), (60, .ifCond .ne 6, 3), (63, .bipush (-5), 2), (65, .ireturn, 1), (66, .aload_n 0, 1), (67, .getfield 13, 3), (70, .iconst 2, 1), (71, .iaload, 1), (72, .istore_n 3, 1), (73, .iconst 0, 1), (74, .istore 4, 2), (76, .iload 4, 2), (78, .aload_n 0, 1), (79, .getfield 54, 3), (82, .iload_n 1, 1)]
theorem daX9_meets_1 : dlX9_meets_1.all (dcK cX9_meets) = true := by decide +kernel
theorem dX9_meets_43 : decode cX9_meets 43 = .ok (.getfield 51, 3) := dc_at daX9_meets_1 0 rfl
theorem dX9_meets_46 : decode cX9_meets 46 = .ok (.iload_n 2, 1) := dc_at daX9_meets_1 1 rfl
theorem dX9_meets_47 : decode cX9_meets 47 = .ok (.iaload, 1) := dc_at daX9_meets_1 2 rfl
theorem dX9_meets_48 : decode cX9_meets 48 = .ok (.iconst (-1), 1) := dc_at daX9_meets_1 3 rfl
theorem dX9_meets_49 : decode cX9_meets 49 = .ok (.if_icmp .ne 6, 3) := dc_at daX9_meets_1 4 rfl
theorem dX9_meets_52 : decode cX9_meets 52 = .ok (.bipush (-6), 2) := dc_at daX9_meets_1 5 rfl
theorem dX9_meets_54 : decode cX9_meets 54 = .ok (.ireturn, 1) := dc_at daX9_meets_1 6 rfl
theorem dX9_meets_55 : decode cX9_meets 55 = .ok (.aload_n 0, 1) := dc_at daX9_meets_1 7 rfl
theorem dX9_meets_56 : decode cX9_meets 56 = .ok (.iload_n 1, 1) := dc_at daX9_meets_1 8 rfl
theorem dX9_meets_57 : decode cX9_meets 57 = .ok (.invokevirtual 313, 3) := dc_at daX9_meets_1 9 rfl
theorem dX9_meets_60 : decode cX9_meets 60 = .ok (.ifCond .ne 6, 3) := dc_at daX9_meets_1 10 rfl
theorem dX9_meets_63 : decode cX9_meets 63 = .ok (.bipush (-5), 2) := dc_at daX9_meets_1 11 rfl
theorem dX9_meets_65 : decode cX9_meets 65 = .ok (.ireturn, 1) := dc_at daX9_meets_1 12 rfl
theorem dX9_meets_66 : decode cX9_meets 66 = .ok (.aload_n 0, 1) := dc_at daX9_meets_1 13 rfl
theorem dX9_meets_67 : decode cX9_meets 67 = .ok (.getfield 13, 3) := dc_at daX9_meets_1 14 rfl
theorem dX9_meets_70 : decode cX9_meets 70 = .ok (.iconst 2, 1) := dc_at daX9_meets_1 15 rfl
theorem dX9_meets_71 : decode cX9_meets 71 = .ok (.iaload, 1) := dc_at daX9_meets_1 16 rfl
theorem dX9_meets_72 : decode cX9_meets 72 = .ok (.istore_n 3, 1) := dc_at daX9_meets_1 17 rfl
theorem dX9_meets_73 : decode cX9_meets 73 = .ok (.iconst 0, 1) := dc_at daX9_meets_1 18 rfl
theorem dX9_meets_74 : decode cX9_meets 74 = .ok (.istore 4, 2) := dc_at daX9_meets_1 19 rfl
theorem dX9_meets_76 : decode cX9_meets 76 = .ok (.iload 4, 2) := dc_at daX9_meets_1 20 rfl
theorem dX9_meets_78 : decode cX9_meets 78 = .ok (.aload_n 0, 1) := dc_at daX9_meets_1 21 rfl
theorem dX9_meets_79 : decode cX9_meets 79 = .ok (.getfield 54, 3) := dc_at daX9_meets_1 22 rfl
theorem dX9_meets_82 : decode cX9_meets 82 = .ok (.iload_n 1, 1) := dc_at daX9_meets_1 23 rfl
def dlX9_meets_2 : List (Nat × Jvm.ClassFile.Instr × Nat) := [(83, .iaload, 1), (84, .if_icmp .ge 50, 3), (87, .iload_n 3, 1), (88, .aload_n 0, 1), (89, .getfield 57, 3), (92, .bipush 40, 2), (94, .iload_n 1, 1), (95, .imul, 1), (96, .iload 4, 2), (98, .iadd, 1), (99, .laload, 1), (100, .invokestatic 198, 3), (103, .istore_n 3, 1), (104, .iload_n 3, 1), (105, .aload_n 0, 1), (106, .getfield 13, 3), (109, .bipush 8, 2), (111, .iaload, 1), (112, .if_icmp .ne 16, 3), (115, .aload_n 0, 1), (116, .iload_n 2, 1), (117, .iload 4, 2), (119, .invokevirtual 316, 3), (122, .ifCond .eq 6, 3)]
theorem daX9_meets_2 : dlX9_meets_2.all (dcK cX9_meets) = true := by decide +kernel
theorem dX9_meets_83 : decode cX9_meets 83 = .ok (.iaload, 1) := dc_at daX9_meets_2 0 rfl
theorem dX9_meets_84 : decode cX9_meets 84 = .ok (.if_icmp .ge 50, 3) := dc_at daX9_meets_2 1 rfl
theorem dX9_meets_87 : decode cX9_meets 87 = .ok (.iload_n 3, 1) := dc_at daX9_meets_2 2 rfl
theorem dX9_meets_88 : decode cX9_meets 88 = .ok (.aload_n 0, 1) := dc_at daX9_meets_2 3 rfl
theorem dX9_meets_89 : decode cX9_meets 89 = .ok (.getfield 57, 3) := dc_at daX9_meets_2 4 rfl
theorem dX9_meets_92 : decode cX9_meets 92 = .ok (.bipush 40, 2) := dc_at daX9_meets_2 5 rfl
theorem dX9_meets_94 : decode cX9_meets 94 = .ok (.iload_n 1, 1) := dc_at daX9_meets_2 6 rfl
theorem dX9_meets_95 : decode cX9_meets 95 = .ok (.imul, 1) := dc_at daX9_meets_2 7 rfl
theorem dX9_meets_96 : decode cX9_meets 96 = .ok (.iload 4, 2) := dc_at daX9_meets_2 8 rfl
theorem dX9_meets_98 : decode cX9_meets 98 = .ok (.iadd, 1) := dc_at daX9_meets_2 9 rfl
theorem dX9_meets_99 : decode cX9_meets 99 = .ok (.laload, 1) := dc_at daX9_meets_2 10 rfl
theorem dX9_meets_100 : decode cX9_meets 100 = .ok (.invokestatic 198, 3) := dc_at daX9_meets_2 11 rfl
theorem dX9_meets_103 : decode cX9_meets 103 = .ok (.istore_n 3, 1) := dc_at daX9_meets_2 12 rfl
theorem dX9_meets_104 : decode cX9_meets 104 = .ok (.iload_n 3, 1) := dc_at daX9_meets_2 13 rfl
theorem dX9_meets_105 : decode cX9_meets 105 = .ok (.aload_n 0, 1) := dc_at daX9_meets_2 14 rfl
theorem dX9_meets_106 : decode cX9_meets 106 = .ok (.getfield 13, 3) := dc_at daX9_meets_2 15 rfl
theorem dX9_meets_109 : decode cX9_meets 109 = .ok (.bipush 8, 2) := dc_at daX9_meets_2 16 rfl
theorem dX9_meets_111 : decode cX9_meets 111 = .ok (.iaload, 1) := dc_at daX9_meets_2 17 rfl
theorem dX9_meets_112 : decode cX9_meets 112 = .ok (.if_icmp .ne 16, 3) := dc_at daX9_meets_2 18 rfl
theorem dX9_meets_115 : decode cX9_meets 115 = .ok (.aload_n 0, 1) := dc_at daX9_meets_2 19 rfl
theorem dX9_meets_116 : decode cX9_meets 116 = .ok (.iload_n 2, 1) := dc_at daX9_meets_2 20 rfl
theorem dX9_meets_117 : decode cX9_meets 117 = .ok (.iload 4, 2) := dc_at daX9_meets_2 21 rfl
theorem dX9_meets_119 : decode cX9_meets 119 = .ok (.invokevirtual 316, 3) := dc_at daX9_meets_2 22 rfl
theorem dX9_meets_122 : decode cX9_meets 122 = .ok (.ifCond .eq 6, 3) := dc_at daX9_meets_2 23 rfl
def dlX9_meets_3 : List (Nat × Jvm.ClassFile.Instr × Nat) := [(125, .iload 4, 2), (127, .ireturn, 1), (128, .iinc 4 1, 3), (131, .goto (-55), 3), (134, .iconst (-1), 1), (135, .ireturn, 1)]
theorem daX9_meets_3 : dlX9_meets_3.all (dcK cX9_meets) = true := by decide +kernel
theorem dX9_meets_125 : decode cX9_meets 125 = .ok (.iload 4, 2) := dc_at daX9_meets_3 0 rfl
theorem dX9_meets_127 : decode cX9_meets 127 = .ok (.ireturn, 1) := dc_at daX9_meets_3 1 rfl
theorem dX9_meets_128 : decode cX9_meets 128 = .ok (.iinc 4 1, 3) := dc_at daX9_meets_3 2 rfl
theorem dX9_meets_131 : decode cX9_meets 131 = .ok (.goto (-55), 3) := dc_at daX9_meets_3 3 rfl
theorem dX9_meets_134 : decode cX9_meets 134 = .ok (.iconst (-1), 1) := dc_at daX9_meets_3 4 rfl
theorem dX9_meets_135 : decode cX9_meets 135 = .ok (.ireturn, 1) := dc_at daX9_meets_3 5 rfl
def dlX9_meetBy_0 : List (Nat × Jvm.ClassFile.Instr × Nat) := [(0, .aload_n 0, 1), (1, .getfield 13, 3), (4, .iconst 2, 1), (5, .iaload, 1), (6, .istore 4, 2), (8, .iconst 0, 1), (9, .istore 5, 2), (11, .iload 5, 2), (13, .iload_n 3, 1), (14, .aload_n 0, 1), (15, .getfield 54, 3), (18, .iload_n 1, 1), (19, .iaload, 1), (20, .iadd, 1), (21, .if_icmp .ge 60, 3), (24, .iload 5, 2), (26, .iload_n 3, 1), (27, .if_icmp .lt 24, 3), (30, .iload 4, 2), (32, .aload_n 0, 1), (33, .getfield 57, 3), (36, .bipush 40, 2), (38, .iload_n 1, 1), (39, .imul, 1)]
theorem daX9_meetBy_0 : dlX9_meetBy_0.all (dcK cX9_meetBy) = true := by decide +kernel
theorem dX9_meetBy_0 : decode cX9_meetBy 0 = .ok (.aload_n 0, 1) := dc_at daX9_meetBy_0 0 rfl
theorem dX9_meetBy_1 : decode cX9_meetBy 1 = .ok (.getfield 13, 3) := dc_at daX9_meetBy_0 1 rfl
theorem dX9_meetBy_4 : decode cX9_meetBy 4 = .ok (.iconst 2, 1) := dc_at daX9_meetBy_0 2 rfl
theorem dX9_meetBy_5 : decode cX9_meetBy 5 = .ok (.iaload, 1) := dc_at daX9_meetBy_0 3 rfl
theorem dX9_meetBy_6 : decode cX9_meetBy 6 = .ok (.istore 4, 2) := dc_at daX9_meetBy_0 4 rfl
theorem dX9_meetBy_8 : decode cX9_meetBy 8 = .ok (.iconst 0, 1) := dc_at daX9_meetBy_0 5 rfl
theorem dX9_meetBy_9 : decode cX9_meetBy 9 = .ok (.istore 5, 2) := dc_at daX9_meetBy_0 6 rfl
theorem dX9_meetBy_11 : decode cX9_meetBy 11 = .ok (.iload 5, 2) := dc_at daX9_meetBy_0 7 rfl
theorem dX9_meetBy_13 : decode cX9_meetBy 13 = .ok (.iload_n 3, 1) := dc_at daX9_meetBy_0 8 rfl
theorem dX9_meetBy_14 : decode cX9_meetBy 14 = .ok (.aload_n 0, 1) := dc_at daX9_meetBy_0 9 rfl
theorem dX9_meetBy_15 : decode cX9_meetBy 15 = .ok (.getfield 54, 3) := dc_at daX9_meetBy_0 10 rfl
theorem dX9_meetBy_18 : decode cX9_meetBy 18 = .ok (.iload_n 1, 1) := dc_at daX9_meetBy_0 11 rfl
theorem dX9_meetBy_19 : decode cX9_meetBy 19 = .ok (.iaload, 1) := dc_at daX9_meetBy_0 12 rfl
theorem dX9_meetBy_20 : decode cX9_meetBy 20 = .ok (.iadd, 1) := dc_at daX9_meetBy_0 13 rfl
theorem dX9_meetBy_21 : decode cX9_meetBy 21 = .ok (.if_icmp .ge 60, 3) := dc_at daX9_meetBy_0 14 rfl
theorem dX9_meetBy_24 : decode cX9_meetBy 24 = .ok (.iload 5, 2) := dc_at daX9_meetBy_0 15 rfl
theorem dX9_meetBy_26 : decode cX9_meetBy 26 = .ok (.iload_n 3, 1) := dc_at daX9_meetBy_0 16 rfl
theorem dX9_meetBy_27 : decode cX9_meetBy 27 = .ok (.if_icmp .lt 24, 3) := dc_at daX9_meetBy_0 17 rfl
theorem dX9_meetBy_30 : decode cX9_meetBy 30 = .ok (.iload 4, 2) := dc_at daX9_meetBy_0 18 rfl
theorem dX9_meetBy_32 : decode cX9_meetBy 32 = .ok (.aload_n 0, 1) := dc_at daX9_meetBy_0 19 rfl
theorem dX9_meetBy_33 : decode cX9_meetBy 33 = .ok (.getfield 57, 3) := dc_at daX9_meetBy_0 20 rfl
theorem dX9_meetBy_36 : decode cX9_meetBy 36 = .ok (.bipush 40, 2) := dc_at daX9_meetBy_0 21 rfl
theorem dX9_meetBy_38 : decode cX9_meetBy 38 = .ok (.iload_n 1, 1) := dc_at daX9_meetBy_0 22 rfl
theorem dX9_meetBy_39 : decode cX9_meetBy 39 = .ok (.imul, 1) := dc_at daX9_meetBy_0 23 rfl
def dlX9_meetBy_1 : List (Nat × Jvm.ClassFile.Instr × Nat) := [(40, .iload 5, 2), (42, .iadd, 1), (43, .iload_n 3, 1), (44, .isub, 1), (45, .laload, 1), (46, .invokestatic 198, 3), (49, .istore 4, 2), (51, .iload 4, 2), (53, .aload_n 0, 1), (54, .getfield 13, 3), (57, .bipush 8, 2), (59, .iaload, 1), (60, .if_icmp .ne 15, 3), (63, .aload_n 0, 1), (64, .iload_n 2, 1), (65, .iload 5, 2), (67, .invokevirtual 316, 3), (70, .ifCond .eq 5, 3), (73, .iconst 1, 1), (74, .ireturn, 1), (75, .iinc 5 1, 3), (78, .goto (-67), 3), (81, .iconst 0, 1), (82, .ireturn, 1)]
theorem daX9_meetBy_1 : dlX9_meetBy_1.all (dcK cX9_meetBy) = true := by decide +kernel
theorem dX9_meetBy_40 : decode cX9_meetBy 40 = .ok (.iload 5, 2) := dc_at daX9_meetBy_1 0 rfl
theorem dX9_meetBy_42 : decode cX9_meetBy 42 = .ok (.iadd, 1) := dc_at daX9_meetBy_1 1 rfl
theorem dX9_meetBy_43 : decode cX9_meetBy 43 = .ok (.iload_n 3, 1) := dc_at daX9_meetBy_1 2 rfl
theorem dX9_meetBy_44 : decode cX9_meetBy 44 = .ok (.isub, 1) := dc_at daX9_meetBy_1 3 rfl
theorem dX9_meetBy_45 : decode cX9_meetBy 45 = .ok (.laload, 1) := dc_at daX9_meetBy_1 4 rfl
theorem dX9_meetBy_46 : decode cX9_meetBy 46 = .ok (.invokestatic 198, 3) := dc_at daX9_meetBy_1 5 rfl
theorem dX9_meetBy_49 : decode cX9_meetBy 49 = .ok (.istore 4, 2) := dc_at daX9_meetBy_1 6 rfl
theorem dX9_meetBy_51 : decode cX9_meetBy 51 = .ok (.iload 4, 2) := dc_at daX9_meetBy_1 7 rfl
theorem dX9_meetBy_53 : decode cX9_meetBy 53 = .ok (.aload_n 0, 1) := dc_at daX9_meetBy_1 8 rfl
theorem dX9_meetBy_54 : decode cX9_meetBy 54 = .ok (.getfield 13, 3) := dc_at daX9_meetBy_1 9 rfl
theorem dX9_meetBy_57 : decode cX9_meetBy 57 = .ok (.bipush 8, 2) := dc_at daX9_meetBy_1 10 rfl
theorem dX9_meetBy_59 : decode cX9_meetBy 59 = .ok (.iaload, 1) := dc_at daX9_meetBy_1 11 rfl
theorem dX9_meetBy_60 : decode cX9_meetBy 60 = .ok (.if_icmp .ne 15, 3) := dc_at daX9_meetBy_1 12 rfl
theorem dX9_meetBy_63 : decode cX9_meetBy 63 = .ok (.aload_n 0, 1) := dc_at daX9_meetBy_1 13 rfl
theorem dX9_meetBy_64 : decode cX9_meetBy 64 = .ok (.iload_n 2, 1) := dc_at daX9_meetBy_1 14 rfl
theorem dX9_meetBy_65 : decode cX9_meetBy 65 = .ok (.iload 5, 2) := dc_at daX9_meetBy_1 15 rfl
theorem dX9_meetBy_67 : decode cX9_meetBy 67 = .ok (.invokevirtual 316, 3) := dc_at daX9_meetBy_1 16 rfl
theorem dX9_meetBy_70 : decode cX9_meetBy 70 = .ok (.ifCond .eq 5, 3) := dc_at daX9_meetBy_1 17 rfl
theorem dX9_meetBy_73 : decode cX9_meetBy 73 = .ok (.iconst 1, 1) := dc_at daX9_meetBy_1 18 rfl
theorem dX9_meetBy_74 : decode cX9_meetBy 74 = .ok (.ireturn, 1) := dc_at daX9_meetBy_1 19 rfl
theorem dX9_meetBy_75 : decode cX9_meetBy 75 = .ok (.iinc 5 1, 3) := dc_at daX9_meetBy_1 20 rfl
theorem dX9_meetBy_78 : decode cX9_meetBy 78 = .ok (.goto (-67), 3) := dc_at daX9_meetBy_1 21 rfl
theorem dX9_meetBy_81 : decode cX9_meetBy 81 = .ok (.iconst 0, 1) := dc_at daX9_meetBy_1 22 rfl
theorem dX9_meetBy_82 : decode cX9_meetBy 82 = .ok (.ireturn, 1) := dc_at daX9_meetBy_1 23 rfl
def dlX9_delay_0 : List (Nat × Jvm.ClassFile.Instr × Nat) := [(0, .aload_n 0, 1), (1, .iconst 0, 1), (2, .putfield 1, 3), (5, .iload_n 1, 1), (6, .i2l, 1), (7, .lconst 0, 1), (8, .ldc2_w 180, 3), (11, .invokestatic 128, 3), (14, .ifCond .eq 15, 3), (17, .iload_n 2, 1), (18, .i2l, 1), (19, .lconst 0, 1), (20, .ldc2_w 180, 3), (23, .invokestatic 128, 3), (26, .ifCond .ne 6, 3), (29, .bipush (-2), 2), (31, .ireturn, 1), (32, .aload_n 0, 1), (33, .getfield 51, 3), (36, .iload_n 1, 1), (37, .iaload, 1), (38, .iconst (-1), 1), (39, .if_icmp .eq 13, 3), (42, .aload_n 0, 1)]
theorem daX9_delay_0 : dlX9_delay_0.all (dcK cX9_delay) = true := by decide +kernel
theorem dX9_delay_0 : decode cX9_delay 0 = .ok (.aload_n 0, 1) := dc_at daX9_delay_0 0 rfl
theorem dX9_delay_1 : decode cX9_delay 1 = .ok (.iconst 0, 1) := dc_at daX9_delay_0 1 rfl
theorem dX9_delay_2 : decode cX9_delay 2 = .ok (.putfield 1, 3) := dc_at daX9_delay_0 2 rfl
theorem dX9_delay_5 : decode cX9_delay 5 = .ok (.iload_n 1, 1) := dc_at daX9_delay_0 3 rfl
theorem dX9_delay_6 : decode cX9_delay 6 = .ok (.i2l, 1) := dc_at daX9_delay_0 4 rfl
theorem dX9_delay_7 : decode cX9_delay 7 = .ok (.lconst 0, 1) := dc_at daX9_delay_0 5 rfl
theorem dX9_delay_8 : decode cX9_delay 8 = .ok (.ldc2_w 180, 3) := dc_at daX9_delay_0 6 rfl
theorem dX9_delay_11 : decode cX9_delay 11 = .ok (.invokestatic 128, 3) := dc_at daX9_delay_0 7 rfl
theorem dX9_delay_14 : decode cX9_delay 14 = .ok (.ifCond .eq 15, 3) := dc_at daX9_delay_0 8 rfl
theorem dX9_delay_17 : decode cX9_delay 17 = .ok (.iload_n 2, 1) := dc_at daX9_delay_0 9 rfl
theorem dX9_delay_18 : decode cX9_delay 18 = .ok (.i2l, 1) := dc_at daX9_delay_0 10 rfl
theorem dX9_delay_19 : decode cX9_delay 19 = .ok (.lconst 0, 1) := dc_at daX9_delay_0 11 rfl
theorem dX9_delay_20 : decode cX9_delay 20 = .ok (.ldc2_w 180, 3) := dc_at daX9_delay_0 12 rfl
theorem dX9_delay_23 : decode cX9_delay 23 = .ok (.invokestatic 128, 3) := dc_at daX9_delay_0 13 rfl
theorem dX9_delay_26 : decode cX9_delay 26 = .ok (.ifCond .ne 6, 3) := dc_at daX9_delay_0 14 rfl
theorem dX9_delay_29 : decode cX9_delay 29 = .ok (.bipush (-2), 2) := dc_at daX9_delay_0 15 rfl
theorem dX9_delay_31 : decode cX9_delay 31 = .ok (.ireturn, 1) := dc_at daX9_delay_0 16 rfl
theorem dX9_delay_32 : decode cX9_delay 32 = .ok (.aload_n 0, 1) := dc_at daX9_delay_0 17 rfl
theorem dX9_delay_33 : decode cX9_delay 33 = .ok (.getfield 51, 3) := dc_at daX9_delay_0 18 rfl
theorem dX9_delay_36 : decode cX9_delay 36 = .ok (.iload_n 1, 1) := dc_at daX9_delay_0 19 rfl
theorem dX9_delay_37 : decode cX9_delay 37 = .ok (.iaload, 1) := dc_at daX9_delay_0 20 rfl
theorem dX9_delay_38 : decode cX9_delay 38 = .ok (.iconst (-1), 1) := dc_at daX9_delay_0 21 rfl
theorem dX9_delay_39 : decode cX9_delay 39 = .ok (.if_icmp .eq 13, 3) := dc_at daX9_delay_0 22 rfl
theorem dX9_delay_42 : decode cX9_delay 42 = .ok (.aload_n 0, 1) := dc_at daX9_delay_0 23 rfl
def dlX9_delay_1 : List (Nat × Jvm.ClassFile.Instr × Nat) := [(43, .getfield 51, 3), (46, .iload_n 2, 1), (47, .iaload, 1), (48, .iconst (-1), 1), (49, .if_icmp .ne 6, 3), (52, .bipush (-6), 2), (54, .ireturn, 1), (55, .aload_n 0, 1), (56, .iload_n 1, 1), (57, .invokevirtual 313, 3), (60, .ifCond .ne 6, 3), (63, .bipush (-5), 2), (65, .ireturn, 1), (66, .iconst 0, 1), (67, .istore_n 3, 1), (68, .iload_n 3, 1), (69, .bipush 40, 2), (71, .if_icmp .gt 21, 3), (74, .aload_n 0, 1), (75, .iload_n 1, 1), (76, .iload_n 2, 1), (77, .iload_n 3, 1), (78, .invokevirtual 320, 3), (81, .ifCond .ne 5, 3)]
theorem daX9_delay_1 : dlX9_delay_1.all (dcK cX9_delay) = true := by decide +kernel
theorem dX9_delay_43 : decode cX9_delay 43 = .ok (.getfield 51, 3) := dc_at daX9_delay_1 0 rfl
theorem dX9_delay_46 : decode cX9_delay 46 = .ok (.iload_n 2, 1) := dc_at daX9_delay_1 1 rfl
theorem dX9_delay_47 : decode cX9_delay 47 = .ok (.iaload, 1) := dc_at daX9_delay_1 2 rfl
theorem dX9_delay_48 : decode cX9_delay 48 = .ok (.iconst (-1), 1) := dc_at daX9_delay_1 3 rfl
theorem dX9_delay_49 : decode cX9_delay 49 = .ok (.if_icmp .ne 6, 3) := dc_at daX9_delay_1 4 rfl
theorem dX9_delay_52 : decode cX9_delay 52 = .ok (.bipush (-6), 2) := dc_at daX9_delay_1 5 rfl
theorem dX9_delay_54 : decode cX9_delay 54 = .ok (.ireturn, 1) := dc_at daX9_delay_1 6 rfl
theorem dX9_delay_55 : decode cX9_delay 55 = .ok (.aload_n 0, 1) := dc_at daX9_delay_1 7 rfl
theorem dX9_delay_56 : decode cX9_delay 56 = .ok (.iload_n 1, 1) := dc_at daX9_delay_1 8 rfl
theorem dX9_delay_57 : decode cX9_delay 57 = .ok (.invokevirtual 313, 3) := dc_at daX9_delay_1 9 rfl
theorem dX9_delay_60 : decode cX9_delay 60 = .ok (.ifCond .ne 6, 3) := dc_at daX9_delay_1 10 rfl
theorem dX9_delay_63 : decode cX9_delay 63 = .ok (.bipush (-5), 2) := dc_at daX9_delay_1 11 rfl
theorem dX9_delay_65 : decode cX9_delay 65 = .ok (.ireturn, 1) := dc_at daX9_delay_1 12 rfl
theorem dX9_delay_66 : decode cX9_delay 66 = .ok (.iconst 0, 1) := dc_at daX9_delay_1 13 rfl
theorem dX9_delay_67 : decode cX9_delay 67 = .ok (.istore_n 3, 1) := dc_at daX9_delay_1 14 rfl
theorem dX9_delay_68 : decode cX9_delay 68 = .ok (.iload_n 3, 1) := dc_at daX9_delay_1 15 rfl
theorem dX9_delay_69 : decode cX9_delay 69 = .ok (.bipush 40, 2) := dc_at daX9_delay_1 16 rfl
theorem dX9_delay_71 : decode cX9_delay 71 = .ok (.if_icmp .gt 21, 3) := dc_at daX9_delay_1 17 rfl
theorem dX9_delay_74 : decode cX9_delay 74 = .ok (.aload_n 0, 1) := dc_at daX9_delay_1 18 rfl
theorem dX9_delay_75 : decode cX9_delay 75 = .ok (.iload_n 1, 1) := dc_at daX9_delay_1 19 rfl
theorem dX9_delay_76 : decode cX9_delay 76 = .ok (.iload_n 2, 1) := dc_at daX9_delay_1 20 rfl
theorem dX9_delay_77 : decode cX9_delay 77 = .ok (.iload_n 3, 1) := dc_at daX9_delay_1 21 rfl
theorem dX9_delay_78 : decode cX9_delay 78 = .ok (.invokevirtual 320, 3) := dc_at daX9_delay_1 22 rfl
theorem dX9_delay_81 : decode cX9_delay 81 = .ok (.ifCond .ne 5, 3) := dc_at daX9_delay_1 23 rfl
def dlX9_delay_2 : List (Nat × Jvm.ClassFile.Instr × Nat) := [(84, .iload_n 3, 1), (85, .ireturn, 1), (86, .iinc 3 1, 3), (89, .goto (-21), 3), (92, .iconst (-1), 1), (93, .ireturn, 1)]
theorem daX9_delay_2 : dlX9_delay_2.all (dcK cX9_delay) = true := by decide +kernel
theorem dX9_delay_84 : decode cX9_delay 84 = .ok (.iload_n 3, 1) := dc_at daX9_delay_2 0 rfl
theorem dX9_delay_85 : decode cX9_delay 85 = .ok (.ireturn, 1) := dc_at daX9_delay_2 1 rfl
theorem dX9_delay_86 : decode cX9_delay 86 = .ok (.iinc 3 1, 3) := dc_at daX9_delay_2 2 rfl
theorem dX9_delay_89 : decode cX9_delay 89 = .ok (.goto (-21), 3) := dc_at daX9_delay_2 3 rfl
theorem dX9_delay_92 : decode cX9_delay 92 = .ok (.iconst (-1), 1) := dc_at daX9_delay_2 4 rfl
theorem dX9_delay_93 : decode cX9_delay 93 = .ok (.ireturn, 1) := dc_at daX9_delay_2 5 rfl
def dlX9_cut_0 : List (Nat × Jvm.ClassFile.Instr × Nat) := [(0, .iload_n 2, 1), (1, .ifCond .ne 10, 3), (4, .lload_n 0, 1), (5, .l2i, 1), (6, .i2b, 1), (7, .i2l, 1), (8, .goto 27, 3), (11, .iload_n 2, 1), (12, .iconst 1, 1), (13, .if_icmp .ne 10, 3), (16, .lload_n 0, 1), (17, .l2i, 1), (18, .i2s, 1), (19, .i2l, 1), (20, .goto 15, 3), (23, .iload_n 2, 1), (24, .iconst 2, 1), (25, .if_icmp .ne 9, 3), (28, .lload_n 0, 1), (29, .l2i, 1), (30, .i2l, 1), (31, .goto 4, 3), (34, .lload_n 0, 1), (35, .lreturn, 1)]
theorem daX9_cut_0 : dlX9_cut_0.all (dcK cX9_cut) = true := by decide +kernel
theorem dX9_cut_0 : decode cX9_cut 0 = .ok (.iload_n 2, 1) := dc_at daX9_cut_0 0 rfl
theorem dX9_cut_1 : decode cX9_cut 1 = .ok (.ifCond .ne 10, 3) := dc_at daX9_cut_0 1 rfl
theorem dX9_cut_4 : decode cX9_cut 4 = .ok (.lload_n 0, 1) := dc_at daX9_cut_0 2 rfl
theorem dX9_cut_5 : decode cX9_cut 5 = .ok (.l2i, 1) := dc_at daX9_cut_0 3 rfl
theorem dX9_cut_6 : decode cX9_cut 6 = .ok (.i2b, 1) := dc_at daX9_cut_0 4 rfl
theorem dX9_cut_7 : decode cX9_cut 7 = .ok (.i2l, 1) := dc_at daX9_cut_0 5 rfl
theorem dX9_cut_8 : decode cX9_cut 8 = .ok (.goto 27, 3) := dc_at daX9_cut_0 6 rfl
theorem dX9_cut_11 : decode cX9_cut 11 = .ok (.iload_n 2, 1) := dc_at daX9_cut_0 7 rfl
theorem dX9_cut_12 : decode cX9_cut 12 = .ok (.iconst 1, 1) := dc_at daX9_cut_0 8 rfl
theorem dX9_cut_13 : decode cX9_cut 13 = .ok (.if_icmp .ne 10, 3) := dc_at daX9_cut_0 9 rfl
theorem dX9_cut_16 : decode cX9_cut 16 = .ok (.lload_n 0, 1) := dc_at daX9_cut_0 10 rfl
theorem dX9_cut_17 : decode cX9_cut 17 = .ok (.l2i, 1) := dc_at daX9_cut_0 11 rfl
theorem dX9_cut_18 : decode cX9_cut 18 = .ok (.i2s, 1) := dc_at daX9_cut_0 12 rfl
theorem dX9_cut_19 : decode cX9_cut 19 = .ok (.i2l, 1) := dc_at daX9_cut_0 13 rfl
theorem dX9_cut_20 : decode cX9_cut 20 = .ok (.goto 15, 3) := dc_at daX9_cut_0 14 rfl
theorem dX9_cut_23 : decode cX9_cut 23 = .ok (.iload_n 2, 1) := dc_at daX9_cut_0 15 rfl
theorem dX9_cut_24 : decode cX9_cut 24 = .ok (.iconst 2, 1) := dc_at daX9_cut_0 16 rfl
theorem dX9_cut_25 : decode cX9_cut 25 = .ok (.if_icmp .ne 9, 3) := dc_at daX9_cut_0 17 rfl
theorem dX9_cut_28 : decode cX9_cut 28 = .ok (.lload_n 0, 1) := dc_at daX9_cut_0 18 rfl
theorem dX9_cut_29 : decode cX9_cut 29 = .ok (.l2i, 1) := dc_at daX9_cut_0 19 rfl
theorem dX9_cut_30 : decode cX9_cut 30 = .ok (.i2l, 1) := dc_at daX9_cut_0 20 rfl
theorem dX9_cut_31 : decode cX9_cut 31 = .ok (.goto 4, 3) := dc_at daX9_cut_0 21 rfl
theorem dX9_cut_34 : decode cX9_cut 34 = .ok (.lload_n 0, 1) := dc_at daX9_cut_0 22 rfl
theorem dX9_cut_35 : decode cX9_cut 35 = .ok (.lreturn, 1) := dc_at daX9_cut_0 23 rfl
def dlX9_numbers_0 : List (Nat × Jvm.ClassFile.Instr × Nat) := [(0, .aload_n 0, 1), (1, .iconst 0, 1), (2, .putfield 1, 3), (5, .iload_n 1, 1), (6, .i2l, 1), (7, .lconst 0, 1), (8, .ldc2_w 180, 3), (11, .invokestatic 128, 3), (14, .ifCond .eq 15, 3), (17, .iload_n 2, 1), (18, .i2l, 1), (19, .lconst 0, 1), (20, .ldc2_w 180, 3), (23, .invokestatic 128, 3), (26, .ifCond .ne 6, 3), (29, .bipush (-2), 2), (31, .ireturn, 1), (32, .iload_n 3, 1), (33, .i2l, 1), (34, .lconst 0, 1), (35, .ldc2_w 323, 3), (38, .invokestatic 128, 3), (41, .ifCond .ne 6, 3), (44, .bipush (-3), 2)]
theorem daX9_numbers_0 : dlX9_numbers_0.all (dcK cX9_numbers) = true := by decide +kernel
theorem dX9_numbers_0 : decode cX9_numbers 0 = .ok (.aload_n 0, 1) := dc_at daX9_numbers_0 0 rfl
theorem dX9_numbers_1 : decode cX9_numbers 1 = .ok (.iconst 0, 1) := dc_at daX9_numbers_0 1 rfl
theorem dX9_numbers_2 : decode cX9_numbers 2 = .ok (.putfield 1, 3) := dc_at daX9_numbers_0 2 rfl
theorem dX9_numbers_5 : decode cX9_numbers 5 = .ok (.iload_n 1, 1) := dc_at daX9_numbers_0 3 rfl
theorem dX9_numbers_6 : decode cX9_numbers 6 = .ok (.i2l, 1) := dc_at daX9_numbers_0 4 rfl
theorem dX9_numbers_7 : decode cX9_numbers 7 = .ok (.lconst 0, 1) := dc_at daX9_numbers_0 5 rfl
theorem dX9_numbers_8 : decode cX9_numbers 8 = .ok (.ldc2_w 180, 3) := dc_at daX9_numbers_0 6 rfl
theorem dX9_numbers_11 : decode cX9_numbers 11 = .ok (.invokestatic 128, 3) := dc_at daX9_numbers_0 7 rfl
theorem dX9_numbers_14 : decode cX9_numbers 14 = .ok (.ifCond .eq 15, 3) := dc_at daX9_numbers_0 8 rfl
theorem dX9_numbers_17 : decode cX9_numbers 17 = .ok (.iload_n 2, 1) := dc_at daX9_numbers_0 9 rfl
theorem dX9_numbers_18 : decode cX9_numbers 18 = .ok (.i2l, 1) := dc_at daX9_numbers_0 10 rfl
theorem dX9_numbers_19 : decode cX9_numbers 19 = .ok (.lconst 0, 1) := dc_at daX9_numbers_0 11 rfl
theorem dX9_numbers_20 : decode cX9_numbers 20 = .ok (.ldc2_w 180, 3) := dc_at daX9_numbers_0 12 rfl
theorem dX9_numbers_23 : decode cX9_numbers 23 = .ok (.invokestatic 128, 3) := dc_at daX9_numbers_0 13 rfl
theorem dX9_numbers_26 : decode cX9_numbers 26 = .ok (.ifCond .ne 6, 3) := dc_at daX9_numbers_0 14 rfl
theorem dX9_numbers_29 : decode cX9_numbers 29 = .ok (.bipush (-2), 2) := dc_at daX9_numbers_0 15 rfl
theorem dX9_numbers_31 : decode cX9_numbers 31 = .ok (.ireturn, 1) := dc_at daX9_numbers_0 16 rfl
theorem dX9_numbers_32 : decode cX9_numbers 32 = .ok (.iload_n 3, 1) := dc_at daX9_numbers_0 17 rfl
theorem dX9_numbers_33 : decode cX9_numbers 33 = .ok (.i2l, 1) := dc_at daX9_numbers_0 18 rfl
theorem dX9_numbers_34 : decode cX9_numbers 34 = .ok (.lconst 0, 1) := dc_at daX9_numbers_0 19 rfl
theorem dX9_numbers_35 : decode cX9_numbers 35 = .ok (.ldc2_w 323, 3) := dc_at daX9_numbers_0 20 rfl
theorem dX9_numbers_38 : decode cX9_numbers 38 = .ok (.invokestatic 128, 3) := dc_at daX9_numbers_0 21 rfl
theorem dX9_numbers_41 : decode cX9_numbers 41 = .ok (.ifCond .ne 6, 3) := dc_at daX9_numbers_0 22 rfl
theorem dX9_numbers_44 : decode cX9_numbers 44 = .ok (.bipush (-3), 2) := dc_at daX9_numbers_0 23 rfl
def dlX9_numbers_1 : List (Nat × Jvm.ClassFile.Instr × Nat) := [(46, .ireturn, 1), (47, .aload_n 0, 1), (48, .getfield 51, 3), (51, .iload_n 1, 1), (52, .iload_n 2, 1), (53, .iastore, 1), (54, .aload_n 0, 1), (55, .getfield 54, 3), (58, .iload_n 1, 1), (59, .iload_n 3, 1), (60, .iastore, 1), (61, .iconst 0, 1), (62, .istore 4, 2), (64, .iload 4, 2), (66, .iload_n 3, 1), (67, .if_icmp .ge 22, 3), (70, .aload_n 0, 1), (71, .getfield 57, 3), (74, .bipush 40, 2), (76, .iload_n 1, 1), (77, .imul, 1), (78, .iload 4, 2), (80, .iadd, 1), (81, .lconst 0, 1)]
theorem daX9_numbers_1 : dlX9_numbers_1.all (dcK cX9_numbers) = true := by decide +kernel
theorem dX9_numbers_46 : decode cX9_numbers 46 = .ok (.ireturn, 1) := dc_at daX9_numbers_1 0 rfl
theorem dX9_numbers_47 : decode cX9_numbers 47 = .ok (.aload_n 0, 1) := dc_at daX9_numbers_1 1 rfl
theorem dX9_numbers_48 : decode cX9_numbers 48 = .ok (.getfield 51, 3) := dc_at daX9_numbers_1 2 rfl
theorem dX9_numbers_51 : decode cX9_numbers 51 = .ok (.iload_n 1, 1) := dc_at daX9_numbers_1 3 rfl
theorem dX9_numbers_52 : decode cX9_numbers 52 = .ok (.iload_n 2, 1) := dc_at daX9_numbers_1 4 rfl
theorem dX9_numbers_53 : decode cX9_numbers 53 = .ok (.iastore, 1) := dc_at daX9_numbers_1 5 rfl
theorem dX9_numbers_54 : decode cX9_numbers 54 = .ok (.aload_n 0, 1) := dc_at daX9_numbers_1 6 rfl
theorem dX9_numbers_55 : decode cX9_numbers 55 = .ok (.getfield 54, 3) := dc_at daX9_numbers_1 7 rfl
theorem dX9_numbers_58 : decode cX9_numbers 58 = .ok (.iload_n 1, 1) := dc_at daX9_numbers_1 8 rfl
theorem dX9_numbers_59 : decode cX9_numbers 59 = .ok (.iload_n 3, 1) := dc_at daX9_numbers_1 9 rfl
theorem dX9_numbers_60 : decode cX9_numbers 60 = .ok (.iastore, 1) := dc_at daX9_numbers_1 10 rfl
theorem dX9_numbers_61 : decode cX9_numbers 61 = .ok (.iconst 0, 1) := dc_at daX9_numbers_1 11 rfl
theorem dX9_numbers_62 : decode cX9_numbers 62 = .ok (.istore 4, 2) := dc_at daX9_numbers_1 12 rfl
theorem dX9_numbers_64 : decode cX9_numbers 64 = .ok (.iload 4, 2) := dc_at daX9_numbers_1 13 rfl
theorem dX9_numbers_66 : decode cX9_numbers 66 = .ok (.iload_n 3, 1) := dc_at daX9_numbers_1 14 rfl
theorem dX9_numbers_67 : decode cX9_numbers 67 = .ok (.if_icmp .ge 22, 3) := dc_at daX9_numbers_1 15 rfl
theorem dX9_numbers_70 : decode cX9_numbers 70 = .ok (.aload_n 0, 1) := dc_at daX9_numbers_1 16 rfl
theorem dX9_numbers_71 : decode cX9_numbers 71 = .ok (.getfield 57, 3) := dc_at daX9_numbers_1 17 rfl
theorem dX9_numbers_74 : decode cX9_numbers 74 = .ok (.bipush 40, 2) := dc_at daX9_numbers_1 18 rfl
theorem dX9_numbers_76 : decode cX9_numbers 76 = .ok (.iload_n 1, 1) := dc_at daX9_numbers_1 19 rfl
theorem dX9_numbers_77 : decode cX9_numbers 77 = .ok (.imul, 1) := dc_at daX9_numbers_1 20 rfl
theorem dX9_numbers_78 : decode cX9_numbers 78 = .ok (.iload 4, 2) := dc_at daX9_numbers_1 21 rfl
theorem dX9_numbers_80 : decode cX9_numbers 80 = .ok (.iadd, 1) := dc_at daX9_numbers_1 22 rfl
theorem dX9_numbers_81 : decode cX9_numbers 81 = .ok (.lconst 0, 1) := dc_at daX9_numbers_1 23 rfl
def dlX9_numbers_2 : List (Nat × Jvm.ClassFile.Instr × Nat) := [(82, .lastore, 1), (83, .iinc 4 1, 3), (86, .goto (-22), 3), (89, .iconst 0, 1), (90, .ireturn, 1)]
theorem daX9_numbers_2 : dlX9_numbers_2.all (dcK cX9_numbers) = true := by decide +kernel
theorem dX9_numbers_82 : decode cX9_numbers 82 = .ok (.lastore, 1) := dc_at daX9_numbers_2 0 rfl
theorem dX9_numbers_83 : decode cX9_numbers 83 = .ok (.iinc 4 1, 3) := dc_at daX9_numbers_2 1 rfl
theorem dX9_numbers_86 : decode cX9_numbers 86 = .ok (.goto (-22), 3) := dc_at daX9_numbers_2 2 rfl
theorem dX9_numbers_89 : decode cX9_numbers 89 = .ok (.iconst 0, 1) := dc_at daX9_numbers_2 3 rfl
theorem dX9_numbers_90 : decode cX9_numbers 90 = .ok (.ireturn, 1) := dc_at daX9_numbers_2 4 rfl
def dlX9_write_0 : List (Nat × Jvm.ClassFile.Instr × Nat) := [(0, .aload_n 0, 1), (1, .iconst 0, 1), (2, .putfield 1, 3), (5, .iload_n 1, 1), (6, .i2l, 1), (7, .lconst 0, 1), (8, .ldc2_w 180, 3), (11, .invokestatic 128, 3), (14, .ifCond .ne 7, 3), (17, .ldc2_w 325, 3), (20, .lreturn, 1), (21, .aload_n 0, 1), (22, .getfield 51, 3), (25, .iload_n 1, 1), (26, .iaload, 1), (27, .iconst (-1), 1), (28, .if_icmp .ne 7, 3), (31, .ldc2_w 327, 3), (34, .lreturn, 1), (35, .iload_n 2, 1), (36, .i2l, 1), (37, .lconst 0, 1), (38, .aload_n 0, 1), (39, .getfield 54, 3)]
theorem daX9_write_0 : dlX9_write_0.all (dcK cX9_write) = true := by decide +kernel
theorem dX9_write_0 : decode cX9_write 0 = .ok (.aload_n 0, 1) := dc_at daX9_write_0 0 rfl
theorem dX9_write_1 : decode cX9_write 1 = .ok (.iconst 0, 1) := dc_at daX9_write_0 1 rfl
theorem dX9_write_2 : decode cX9_write 2 = .ok (.putfield 1, 3) := dc_at daX9_write_0 2 rfl
theorem dX9_write_5 : decode cX9_write 5 = .ok (.iload_n 1, 1) := dc_at daX9_write_0 3 rfl
theorem dX9_write_6 : decode cX9_write 6 = .ok (.i2l, 1) := dc_at daX9_write_0 4 rfl
theorem dX9_write_7 : decode cX9_write 7 = .ok (.lconst 0, 1) := dc_at daX9_write_0 5 rfl
theorem dX9_write_8 : decode cX9_write 8 = .ok (.ldc2_w 180, 3) := dc_at daX9_write_0 6 rfl
theorem dX9_write_11 : decode cX9_write 11 = .ok (.invokestatic 128, 3) := dc_at daX9_write_0 7 rfl
theorem dX9_write_14 : decode cX9_write 14 = .ok (.ifCond .ne 7, 3) := dc_at daX9_write_0 8 rfl
theorem dX9_write_17 : decode cX9_write 17 = .ok (.ldc2_w 325, 3) := dc_at daX9_write_0 9 rfl
theorem dX9_write_20 : decode cX9_write 20 = .ok (.lreturn, 1) := dc_at daX9_write_0 10 rfl
theorem dX9_write_21 : decode cX9_write 21 = .ok (.aload_n 0, 1) := dc_at daX9_write_0 11 rfl
theorem dX9_write_22 : decode cX9_write 22 = .ok (.getfield 51, 3) := dc_at daX9_write_0 12 rfl
theorem dX9_write_25 : decode cX9_write 25 = .ok (.iload_n 1, 1) := dc_at daX9_write_0 13 rfl
theorem dX9_write_26 : decode cX9_write 26 = .ok (.iaload, 1) := dc_at daX9_write_0 14 rfl
theorem dX9_write_27 : decode cX9_write 27 = .ok (.iconst (-1), 1) := dc_at daX9_write_0 15 rfl
theorem dX9_write_28 : decode cX9_write 28 = .ok (.if_icmp .ne 7, 3) := dc_at daX9_write_0 16 rfl
theorem dX9_write_31 : decode cX9_write 31 = .ok (.ldc2_w 327, 3) := dc_at daX9_write_0 17 rfl
theorem dX9_write_34 : decode cX9_write 34 = .ok (.lreturn, 1) := dc_at daX9_write_0 18 rfl
theorem dX9_write_35 : decode cX9_write 35 = .ok (.iload_n 2, 1) := dc_at daX9_write_0 19 rfl
theorem dX9_write_36 : decode cX9_write 36 = .ok (.i2l, 1) := dc_at daX9_write_0 20 rfl
theorem dX9_write_37 : decode cX9_write 37 = .ok (.lconst 0, 1) := dc_at daX9_write_0 21 rfl
theorem dX9_write_38 : decode cX9_write 38 = .ok (.aload_n 0, 1) := dc_at daX9_write_0 22 rfl
theorem dX9_write_39 : decode cX9_write 39 = .ok (.getfield 54, 3) := dc_at daX9_write_0 23 rfl
def dlX9_write_1 : List (Nat × Jvm.ClassFile.Instr × Nat) := [(42, .iload_n 1, 1), (43, .iaload, 1), (44, .iconst 1, 1), (45, .isub, 1), (46, .i2l, 1), (47, .invokestatic 128, 3), (50, .ifCond .ne 7, 3), (53, .ldc2_w 329, 3), (56, .lreturn, 1), (57, .aload_n 0, 1), (58, .getfield 57, 3), (61, .bipush 40, 2), (63, .iload_n 1, 1), (64, .imul, 1), (65, .iload_n 2, 1), (66, .iadd, 1), (67, .lload_n 3, 1), (68, .aload_n 0, 1), (69, .getfield 51, 3), (72, .iload_n 1, 1), (73, .iaload, 1), (74, .invokestatic 331, 3), (77, .lastore, 1), (78, .aload_n 0, 1)]
theorem daX9_write_1 : dlX9_write_1.all (dcK cX9_write) = true := by decide +kernel
theorem dX9_write_42 : decode cX9_write 42 = .ok (.iload_n 1, 1) := dc_at daX9_write_1 0 rfl
theorem dX9_write_43 : decode cX9_write 43 = .ok (.iaload, 1) := dc_at daX9_write_1 1 rfl
theorem dX9_write_44 : decode cX9_write 44 = .ok (.iconst 1, 1) := dc_at daX9_write_1 2 rfl
theorem dX9_write_45 : decode cX9_write 45 = .ok (.isub, 1) := dc_at daX9_write_1 3 rfl
theorem dX9_write_46 : decode cX9_write 46 = .ok (.i2l, 1) := dc_at daX9_write_1 4 rfl
theorem dX9_write_47 : decode cX9_write 47 = .ok (.invokestatic 128, 3) := dc_at daX9_write_1 5 rfl
theorem dX9_write_50 : decode cX9_write 50 = .ok (.ifCond .ne 7, 3) := dc_at daX9_write_1 6 rfl
theorem dX9_write_53 : decode cX9_write 53 = .ok (.ldc2_w 329, 3) := dc_at daX9_write_1 7 rfl
theorem dX9_write_56 : decode cX9_write 56 = .ok (.lreturn, 1) := dc_at daX9_write_1 8 rfl
theorem dX9_write_57 : decode cX9_write 57 = .ok (.aload_n 0, 1) := dc_at daX9_write_1 9 rfl
theorem dX9_write_58 : decode cX9_write 58 = .ok (.getfield 57, 3) := dc_at daX9_write_1 10 rfl
theorem dX9_write_61 : decode cX9_write 61 = .ok (.bipush 40, 2) := dc_at daX9_write_1 11 rfl
theorem dX9_write_63 : decode cX9_write 63 = .ok (.iload_n 1, 1) := dc_at daX9_write_1 12 rfl
theorem dX9_write_64 : decode cX9_write 64 = .ok (.imul, 1) := dc_at daX9_write_1 13 rfl
theorem dX9_write_65 : decode cX9_write 65 = .ok (.iload_n 2, 1) := dc_at daX9_write_1 14 rfl
theorem dX9_write_66 : decode cX9_write 66 = .ok (.iadd, 1) := dc_at daX9_write_1 15 rfl
theorem dX9_write_67 : decode cX9_write 67 = .ok (.lload_n 3, 1) := dc_at daX9_write_1 16 rfl
theorem dX9_write_68 : decode cX9_write 68 = .ok (.aload_n 0, 1) := dc_at daX9_write_1 17 rfl
theorem dX9_write_69 : decode cX9_write 69 = .ok (.getfield 51, 3) := dc_at daX9_write_1 18 rfl
theorem dX9_write_72 : decode cX9_write 72 = .ok (.iload_n 1, 1) := dc_at daX9_write_1 19 rfl
theorem dX9_write_73 : decode cX9_write 73 = .ok (.iaload, 1) := dc_at daX9_write_1 20 rfl
theorem dX9_write_74 : decode cX9_write 74 = .ok (.invokestatic 331, 3) := dc_at daX9_write_1 21 rfl
theorem dX9_write_77 : decode cX9_write 77 = .ok (.lastore, 1) := dc_at daX9_write_1 22 rfl
theorem dX9_write_78 : decode cX9_write 78 = .ok (.aload_n 0, 1) := dc_at daX9_write_1 23 rfl
def dlX9_write_2 : List (Nat × Jvm.ClassFile.Instr × Nat) := [(79, .getfield 57, 3), (82, .bipush 40, 2), (84, .iload_n 1, 1), (85, .imul, 1), (86, .iload_n 2, 1), (87, .iadd, 1), (88, .laload, 1), (89, .lreturn, 1)]
theorem daX9_write_2 : dlX9_write_2.all (dcK cX9_write) = true := by decide +kernel
theorem dX9_write_79 : decode cX9_write 79 = .ok (.getfield 57, 3) := dc_at daX9_write_2 0 rfl
theorem dX9_write_82 : decode cX9_write 82 = .ok (.bipush 40, 2) := dc_at daX9_write_2 1 rfl
theorem dX9_write_84 : decode cX9_write 84 = .ok (.iload_n 1, 1) := dc_at daX9_write_2 2 rfl
theorem dX9_write_85 : decode cX9_write 85 = .ok (.imul, 1) := dc_at daX9_write_2 3 rfl
theorem dX9_write_86 : decode cX9_write 86 = .ok (.iload_n 2, 1) := dc_at daX9_write_2 4 rfl
theorem dX9_write_87 : decode cX9_write 87 = .ok (.iadd, 1) := dc_at daX9_write_2 5 rfl
theorem dX9_write_88 : decode cX9_write 88 = .ok (.laload, 1) := dc_at daX9_write_2 6 rfl
theorem dX9_write_89 : decode cX9_write 89 = .ok (.lreturn, 1) := dc_at daX9_write_2 7 rfl
def dlX9_copy_0 : List (Nat × Jvm.ClassFile.Instr × Nat) := [(0, .aload_n 0, 1), (1, .iconst 0, 1), (2, .putfield 1, 3), (5, .iload_n 1, 1), (6, .i2l, 1), (7, .lconst 0, 1), (8, .ldc2_w 180, 3), (11, .invokestatic 128, 3), (14, .ifCond .ne 6, 3), (17, .bipush (-2), 2), (19, .ireturn, 1), (20, .aload_n 0, 1), (21, .getfield 51, 3), (24, .iload_n 1, 1), (25, .iaload, 1), (26, .iconst (-1), 1), (27, .if_icmp .ne 6, 3), (30, .bipush (-6), 2), (32, .ireturn, 1), (33, .aload_n 0, 1), (34, .getfield 54, 3), (37, .iload_n 1, 1), (38, .iaload, 1), (39, .aload_n 0, 1)]
theorem daX9_copy_0 : dlX9_copy_0.all (dcK cX9_copy) = true := by decide +kernel
theorem dX9_copy_0 : decode cX9_copy 0 = .ok (.aload_n 0, 1) := dc_at daX9_copy_0 0 rfl
theorem dX9_copy_1 : decode cX9_copy 1 = .ok (.iconst 0, 1) := dc_at daX9_copy_0 1 rfl
theorem dX9_copy_2 : decode cX9_copy 2 = .ok (.putfield 1, 3) := dc_at daX9_copy_0 2 rfl
theorem dX9_copy_5 : decode cX9_copy 5 = .ok (.iload_n 1, 1) := dc_at daX9_copy_0 3 rfl
theorem dX9_copy_6 : decode cX9_copy 6 = .ok (.i2l, 1) := dc_at daX9_copy_0 4 rfl
theorem dX9_copy_7 : decode cX9_copy 7 = .ok (.lconst 0, 1) := dc_at daX9_copy_0 5 rfl
theorem dX9_copy_8 : decode cX9_copy 8 = .ok (.ldc2_w 180, 3) := dc_at daX9_copy_0 6 rfl
theorem dX9_copy_11 : decode cX9_copy 11 = .ok (.invokestatic 128, 3) := dc_at daX9_copy_0 7 rfl
theorem dX9_copy_14 : decode cX9_copy 14 = .ok (.ifCond .ne 6, 3) := dc_at daX9_copy_0 8 rfl
theorem dX9_copy_17 : decode cX9_copy 17 = .ok (.bipush (-2), 2) := dc_at daX9_copy_0 9 rfl
theorem dX9_copy_19 : decode cX9_copy 19 = .ok (.ireturn, 1) := dc_at daX9_copy_0 10 rfl
theorem dX9_copy_20 : decode cX9_copy 20 = .ok (.aload_n 0, 1) := dc_at daX9_copy_0 11 rfl
theorem dX9_copy_21 : decode cX9_copy 21 = .ok (.getfield 51, 3) := dc_at daX9_copy_0 12 rfl
theorem dX9_copy_24 : decode cX9_copy 24 = .ok (.iload_n 1, 1) := dc_at daX9_copy_0 13 rfl
theorem dX9_copy_25 : decode cX9_copy 25 = .ok (.iaload, 1) := dc_at daX9_copy_0 14 rfl
theorem dX9_copy_26 : decode cX9_copy 26 = .ok (.iconst (-1), 1) := dc_at daX9_copy_0 15 rfl
theorem dX9_copy_27 : decode cX9_copy 27 = .ok (.if_icmp .ne 6, 3) := dc_at daX9_copy_0 16 rfl
theorem dX9_copy_30 : decode cX9_copy 30 = .ok (.bipush (-6), 2) := dc_at daX9_copy_0 17 rfl
theorem dX9_copy_32 : decode cX9_copy 32 = .ok (.ireturn, 1) := dc_at daX9_copy_0 18 rfl
theorem dX9_copy_33 : decode cX9_copy 33 = .ok (.aload_n 0, 1) := dc_at daX9_copy_0 19 rfl
theorem dX9_copy_34 : decode cX9_copy 34 = .ok (.getfield 54, 3) := dc_at daX9_copy_0 20 rfl
theorem dX9_copy_37 : decode cX9_copy 37 = .ok (.iload_n 1, 1) := dc_at daX9_copy_0 21 rfl
theorem dX9_copy_38 : decode cX9_copy 38 = .ok (.iaload, 1) := dc_at daX9_copy_0 22 rfl
theorem dX9_copy_39 : decode cX9_copy 39 = .ok (.aload_n 0, 1) := dc_at daX9_copy_0 23 rfl
def dlX9_copy_1 : List (Nat × Jvm.ClassFile.Instr × Nat) := [(40, .getfield 13, 3), (43, .iconst 0, 1), (44, .iaload, 1), (45, .if_icmp .ge 6, 3), (48, .bipush (-7), 2), (50, .ireturn, 1), (51, .iconst 0, 1), (52, .istore_n 2, 1), (53, .iload_n 2, 1), (54, .aload_n 0, 1), (55, .getfield 13, 3), (58, .iconst 0, 1), (59, .iaload, 1), (60, .if_icmp .ge 30, 3), (63, .aload_n 0, 1), (64, .getfield 57, 3), (67, .bipush 40, 2), (69, .iload_n 1, 1), (70, .imul, 1), (71, .iload_n 2, 1), (72, .iadd, 1), (73, .aload_n 0, 1), (74, .getfield 13, 3), (77, .bipush 16, 2)]
theorem daX9_copy_1 : dlX9_copy_1.all (dcK cX9_copy) = true := by decide +kernel
theorem dX9_copy_40 : decode cX9_copy 40 = .ok (.getfield 13, 3) := dc_at daX9_copy_1 0 rfl
theorem dX9_copy_43 : decode cX9_copy 43 = .ok (.iconst 0, 1) := dc_at daX9_copy_1 1 rfl
theorem dX9_copy_44 : decode cX9_copy 44 = .ok (.iaload, 1) := dc_at daX9_copy_1 2 rfl
theorem dX9_copy_45 : decode cX9_copy 45 = .ok (.if_icmp .ge 6, 3) := dc_at daX9_copy_1 3 rfl
theorem dX9_copy_48 : decode cX9_copy 48 = .ok (.bipush (-7), 2) := dc_at daX9_copy_1 4 rfl
theorem dX9_copy_50 : decode cX9_copy 50 = .ok (.ireturn, 1) := dc_at daX9_copy_1 5 rfl
theorem dX9_copy_51 : decode cX9_copy 51 = .ok (.iconst 0, 1) := dc_at daX9_copy_1 6 rfl
theorem dX9_copy_52 : decode cX9_copy 52 = .ok (.istore_n 2, 1) := dc_at daX9_copy_1 7 rfl
theorem dX9_copy_53 : decode cX9_copy 53 = .ok (.iload_n 2, 1) := dc_at daX9_copy_1 8 rfl
theorem dX9_copy_54 : decode cX9_copy 54 = .ok (.aload_n 0, 1) := dc_at daX9_copy_1 9 rfl
theorem dX9_copy_55 : decode cX9_copy 55 = .ok (.getfield 13, 3) := dc_at daX9_copy_1 10 rfl
theorem dX9_copy_58 : decode cX9_copy 58 = .ok (.iconst 0, 1) := dc_at daX9_copy_1 11 rfl
theorem dX9_copy_59 : decode cX9_copy 59 = .ok (.iaload, 1) := dc_at daX9_copy_1 12 rfl
theorem dX9_copy_60 : decode cX9_copy 60 = .ok (.if_icmp .ge 30, 3) := dc_at daX9_copy_1 13 rfl
theorem dX9_copy_63 : decode cX9_copy 63 = .ok (.aload_n 0, 1) := dc_at daX9_copy_1 14 rfl
theorem dX9_copy_64 : decode cX9_copy 64 = .ok (.getfield 57, 3) := dc_at daX9_copy_1 15 rfl
theorem dX9_copy_67 : decode cX9_copy 67 = .ok (.bipush 40, 2) := dc_at daX9_copy_1 16 rfl
theorem dX9_copy_69 : decode cX9_copy 69 = .ok (.iload_n 1, 1) := dc_at daX9_copy_1 17 rfl
theorem dX9_copy_70 : decode cX9_copy 70 = .ok (.imul, 1) := dc_at daX9_copy_1 18 rfl
theorem dX9_copy_71 : decode cX9_copy 71 = .ok (.iload_n 2, 1) := dc_at daX9_copy_1 19 rfl
theorem dX9_copy_72 : decode cX9_copy 72 = .ok (.iadd, 1) := dc_at daX9_copy_1 20 rfl
theorem dX9_copy_73 : decode cX9_copy 73 = .ok (.aload_n 0, 1) := dc_at daX9_copy_1 21 rfl
theorem dX9_copy_74 : decode cX9_copy 74 = .ok (.getfield 13, 3) := dc_at daX9_copy_1 22 rfl
theorem dX9_copy_77 : decode cX9_copy 77 = .ok (.bipush 16, 2) := dc_at daX9_copy_1 23 rfl
def dlX9_copy_2 : List (Nat × Jvm.ClassFile.Instr × Nat) := [(79, .iload_n 2, 1), (80, .iadd, 1), (81, .iaload, 1), (82, .i2l, 1), (83, .lastore, 1), (84, .iinc 2 1, 3), (87, .goto (-34), 3), (90, .aload_n 0, 1), (91, .getfield 13, 3), (94, .iconst 0, 1), (95, .iaload, 1), (96, .ireturn, 1)]
theorem daX9_copy_2 : dlX9_copy_2.all (dcK cX9_copy) = true := by decide +kernel
theorem dX9_copy_79 : decode cX9_copy 79 = .ok (.iload_n 2, 1) := dc_at daX9_copy_2 0 rfl
theorem dX9_copy_80 : decode cX9_copy 80 = .ok (.iadd, 1) := dc_at daX9_copy_2 1 rfl
theorem dX9_copy_81 : decode cX9_copy 81 = .ok (.iaload, 1) := dc_at daX9_copy_2 2 rfl
theorem dX9_copy_82 : decode cX9_copy 82 = .ok (.i2l, 1) := dc_at daX9_copy_2 3 rfl
theorem dX9_copy_83 : decode cX9_copy 83 = .ok (.lastore, 1) := dc_at daX9_copy_2 4 rfl
theorem dX9_copy_84 : decode cX9_copy 84 = .ok (.iinc 2 1, 3) := dc_at daX9_copy_2 5 rfl
theorem dX9_copy_87 : decode cX9_copy 87 = .ok (.goto (-34), 3) := dc_at daX9_copy_2 6 rfl
theorem dX9_copy_90 : decode cX9_copy 90 = .ok (.aload_n 0, 1) := dc_at daX9_copy_2 7 rfl
theorem dX9_copy_91 : decode cX9_copy 91 = .ok (.getfield 13, 3) := dc_at daX9_copy_2 8 rfl
theorem dX9_copy_94 : decode cX9_copy 94 = .ok (.iconst 0, 1) := dc_at daX9_copy_2 9 rfl
theorem dX9_copy_95 : decode cX9_copy 95 = .ok (.iaload, 1) := dc_at daX9_copy_2 10 rfl
theorem dX9_copy_96 : decode cX9_copy 96 = .ok (.ireturn, 1) := dc_at daX9_copy_2 11 rfl
def dlX9_image_0 : List (Nat × Jvm.ClassFile.Instr × Nat) := [(0, .aload_n 0, 1), (1, .iconst 0, 1), (2, .putfield 1, 3), (5, .iload_n 1, 1), (6, .i2l, 1), (7, .lconst 0, 1), (8, .lconst 1, 1), (9, .invokestatic 128, 3), (12, .ifCond .ne 6, 3), (15, .bipush (-2), 2), (17, .ireturn, 1), (18, .iconst 0, 1), (19, .istore_n 2, 1), (20, .iload_n 2, 1), (21, .bipush 96, 2), (23, .if_icmp .ge 28, 3), (26, .aload_n 0, 1), (27, .getfield 13, 3), (30, .bipush 96, 2), (32, .iload_n 1, 1), (33, .iconst 1, 1), (34, .iadd, 1), (35, .imul, 1), (36, .iload_n 2, 1)]
theorem daX9_image_0 : dlX9_image_0.all (dcK cX9_image) = true := by decide +kernel
theorem dX9_image_0 : decode cX9_image 0 = .ok (.aload_n 0, 1) := dc_at daX9_image_0 0 rfl
theorem dX9_image_1 : decode cX9_image 1 = .ok (.iconst 0, 1) := dc_at daX9_image_0 1 rfl
theorem dX9_image_2 : decode cX9_image 2 = .ok (.putfield 1, 3) := dc_at daX9_image_0 2 rfl
theorem dX9_image_5 : decode cX9_image 5 = .ok (.iload_n 1, 1) := dc_at daX9_image_0 3 rfl
theorem dX9_image_6 : decode cX9_image 6 = .ok (.i2l, 1) := dc_at daX9_image_0 4 rfl
theorem dX9_image_7 : decode cX9_image 7 = .ok (.lconst 0, 1) := dc_at daX9_image_0 5 rfl
theorem dX9_image_8 : decode cX9_image 8 = .ok (.lconst 1, 1) := dc_at daX9_image_0 6 rfl
theorem dX9_image_9 : decode cX9_image 9 = .ok (.invokestatic 128, 3) := dc_at daX9_image_0 7 rfl
theorem dX9_image_12 : decode cX9_image 12 = .ok (.ifCond .ne 6, 3) := dc_at daX9_image_0 8 rfl
theorem dX9_image_15 : decode cX9_image 15 = .ok (.bipush (-2), 2) := dc_at daX9_image_0 9 rfl
theorem dX9_image_17 : decode cX9_image 17 = .ok (.ireturn, 1) := dc_at daX9_image_0 10 rfl
theorem dX9_image_18 : decode cX9_image 18 = .ok (.iconst 0, 1) := dc_at daX9_image_0 11 rfl
theorem dX9_image_19 : decode cX9_image 19 = .ok (.istore_n 2, 1) := dc_at daX9_image_0 12 rfl
theorem dX9_image_20 : decode cX9_image 20 = .ok (.iload_n 2, 1) := dc_at daX9_image_0 13 rfl
theorem dX9_image_21 : decode cX9_image 21 = .ok (.bipush 96, 2) := dc_at daX9_image_0 14 rfl
theorem dX9_image_23 : decode cX9_image 23 = .ok (.if_icmp .ge 28, 3) := dc_at daX9_image_0 15 rfl
theorem dX9_image_26 : decode cX9_image 26 = .ok (.aload_n 0, 1) := dc_at daX9_image_0 16 rfl
theorem dX9_image_27 : decode cX9_image 27 = .ok (.getfield 13, 3) := dc_at daX9_image_0 17 rfl
theorem dX9_image_30 : decode cX9_image 30 = .ok (.bipush 96, 2) := dc_at daX9_image_0 18 rfl
theorem dX9_image_32 : decode cX9_image 32 = .ok (.iload_n 1, 1) := dc_at daX9_image_0 19 rfl
theorem dX9_image_33 : decode cX9_image 33 = .ok (.iconst 1, 1) := dc_at daX9_image_0 20 rfl
theorem dX9_image_34 : decode cX9_image 34 = .ok (.iadd, 1) := dc_at daX9_image_0 21 rfl
theorem dX9_image_35 : decode cX9_image 35 = .ok (.imul, 1) := dc_at daX9_image_0 22 rfl
theorem dX9_image_36 : decode cX9_image 36 = .ok (.iload_n 2, 1) := dc_at daX9_image_0 23 rfl
def dlX9_image_1 : List (Nat × Jvm.ClassFile.Instr × Nat) := [(37, .iadd, 1), (38, .aload_n 0, 1), (39, .getfield 13, 3), (42, .iload_n 2, 1), (43, .iaload, 1), (44, .iastore, 1), (45, .iinc 2 1, 3), (48, .goto (-28), 3), (51, .aload_n 0, 1), (52, .getfield 17, 3), (55, .iload_n 1, 1), (56, .iconst 1, 1), (57, .bastore, 1), (58, .iconst 0, 1), (59, .ireturn, 1)]
theorem daX9_image_1 : dlX9_image_1.all (dcK cX9_image) = true := by decide +kernel
theorem dX9_image_37 : decode cX9_image 37 = .ok (.iadd, 1) := dc_at daX9_image_1 0 rfl
theorem dX9_image_38 : decode cX9_image 38 = .ok (.aload_n 0, 1) := dc_at daX9_image_1 1 rfl
theorem dX9_image_39 : decode cX9_image 39 = .ok (.getfield 13, 3) := dc_at daX9_image_1 2 rfl
theorem dX9_image_42 : decode cX9_image 42 = .ok (.iload_n 2, 1) := dc_at daX9_image_1 3 rfl
theorem dX9_image_43 : decode cX9_image 43 = .ok (.iaload, 1) := dc_at daX9_image_1 4 rfl
theorem dX9_image_44 : decode cX9_image 44 = .ok (.iastore, 1) := dc_at daX9_image_1 5 rfl
theorem dX9_image_45 : decode cX9_image 45 = .ok (.iinc 2 1, 3) := dc_at daX9_image_1 6 rfl
theorem dX9_image_48 : decode cX9_image 48 = .ok (.goto (-28), 3) := dc_at daX9_image_1 7 rfl
theorem dX9_image_51 : decode cX9_image 51 = .ok (.aload_n 0, 1) := dc_at daX9_image_1 8 rfl
theorem dX9_image_52 : decode cX9_image 52 = .ok (.getfield 17, 3) := dc_at daX9_image_1 9 rfl
theorem dX9_image_55 : decode cX9_image 55 = .ok (.iload_n 1, 1) := dc_at daX9_image_1 10 rfl
theorem dX9_image_56 : decode cX9_image 56 = .ok (.iconst 1, 1) := dc_at daX9_image_1 11 rfl
theorem dX9_image_57 : decode cX9_image 57 = .ok (.bastore, 1) := dc_at daX9_image_1 12 rfl
theorem dX9_image_58 : decode cX9_image 58 = .ok (.iconst 0, 1) := dc_at daX9_image_1 13 rfl
theorem dX9_image_59 : decode cX9_image 59 = .ok (.ireturn, 1) := dc_at daX9_image_1 14 rfl
def dlX9_restore_0 : List (Nat × Jvm.ClassFile.Instr × Nat) := [(0, .aload_n 0, 1), (1, .iconst 0, 1), (2, .putfield 1, 3), (5, .iload_n 1, 1), (6, .i2l, 1), (7, .lconst 0, 1), (8, .lconst 1, 1), (9, .invokestatic 128, 3), (12, .ifCond .ne 6, 3), (15, .bipush (-2), 2), (17, .ireturn, 1), (18, .aload_n 0, 1), (19, .getfield 17, 3), (22, .iload_n 1, 1), (23, .baload, 1), (24, .ifCond .ne 6, 3), (27, .bipush (-5), 2), (29, .ireturn, 1), (30, .iconst 0, 1), (31, .istore_n 2, 1), (32, .iload_n 2, 1), (33, .bipush 96, 2), (35, .if_icmp .ge 28, 3), (38, .aload_n 0, 1)]
theorem daX9_restore_0 : dlX9_restore_0.all (dcK cX9_restore) = true := by decide +kernel
theorem dX9_restore_0 : decode cX9_restore 0 = .ok (.aload_n 0, 1) := dc_at daX9_restore_0 0 rfl
theorem dX9_restore_1 : decode cX9_restore 1 = .ok (.iconst 0, 1) := dc_at daX9_restore_0 1 rfl
theorem dX9_restore_2 : decode cX9_restore 2 = .ok (.putfield 1, 3) := dc_at daX9_restore_0 2 rfl
theorem dX9_restore_5 : decode cX9_restore 5 = .ok (.iload_n 1, 1) := dc_at daX9_restore_0 3 rfl
theorem dX9_restore_6 : decode cX9_restore 6 = .ok (.i2l, 1) := dc_at daX9_restore_0 4 rfl
theorem dX9_restore_7 : decode cX9_restore 7 = .ok (.lconst 0, 1) := dc_at daX9_restore_0 5 rfl
theorem dX9_restore_8 : decode cX9_restore 8 = .ok (.lconst 1, 1) := dc_at daX9_restore_0 6 rfl
theorem dX9_restore_9 : decode cX9_restore 9 = .ok (.invokestatic 128, 3) := dc_at daX9_restore_0 7 rfl
theorem dX9_restore_12 : decode cX9_restore 12 = .ok (.ifCond .ne 6, 3) := dc_at daX9_restore_0 8 rfl
theorem dX9_restore_15 : decode cX9_restore 15 = .ok (.bipush (-2), 2) := dc_at daX9_restore_0 9 rfl
theorem dX9_restore_17 : decode cX9_restore 17 = .ok (.ireturn, 1) := dc_at daX9_restore_0 10 rfl
theorem dX9_restore_18 : decode cX9_restore 18 = .ok (.aload_n 0, 1) := dc_at daX9_restore_0 11 rfl
theorem dX9_restore_19 : decode cX9_restore 19 = .ok (.getfield 17, 3) := dc_at daX9_restore_0 12 rfl
theorem dX9_restore_22 : decode cX9_restore 22 = .ok (.iload_n 1, 1) := dc_at daX9_restore_0 13 rfl
theorem dX9_restore_23 : decode cX9_restore 23 = .ok (.baload, 1) := dc_at daX9_restore_0 14 rfl
theorem dX9_restore_24 : decode cX9_restore 24 = .ok (.ifCond .ne 6, 3) := dc_at daX9_restore_0 15 rfl
theorem dX9_restore_27 : decode cX9_restore 27 = .ok (.bipush (-5), 2) := dc_at daX9_restore_0 16 rfl
theorem dX9_restore_29 : decode cX9_restore 29 = .ok (.ireturn, 1) := dc_at daX9_restore_0 17 rfl
theorem dX9_restore_30 : decode cX9_restore 30 = .ok (.iconst 0, 1) := dc_at daX9_restore_0 18 rfl
theorem dX9_restore_31 : decode cX9_restore 31 = .ok (.istore_n 2, 1) := dc_at daX9_restore_0 19 rfl
theorem dX9_restore_32 : decode cX9_restore 32 = .ok (.iload_n 2, 1) := dc_at daX9_restore_0 20 rfl
theorem dX9_restore_33 : decode cX9_restore 33 = .ok (.bipush 96, 2) := dc_at daX9_restore_0 21 rfl
theorem dX9_restore_35 : decode cX9_restore 35 = .ok (.if_icmp .ge 28, 3) := dc_at daX9_restore_0 22 rfl
theorem dX9_restore_38 : decode cX9_restore 38 = .ok (.aload_n 0, 1) := dc_at daX9_restore_0 23 rfl
def dlX9_restore_1 : List (Nat × Jvm.ClassFile.Instr × Nat) := [(39, .getfield 13, 3), (42, .iload_n 2, 1), (43, .aload_n 0, 1), (44, .getfield 13, 3), (47, .bipush 96, 2), (49, .iload_n 1, 1), (50, .iconst 1, 1), (51, .iadd, 1), (52, .imul, 1), (53, .iload_n 2, 1), (54, .iadd, 1), (55, .iaload, 1), (56, .iastore, 1), (57, .iinc 2 1, 3), (60, .goto (-28), 3), (63, .iconst 0, 1), (64, .ireturn, 1)]
theorem daX9_restore_1 : dlX9_restore_1.all (dcK cX9_restore) = true := by decide +kernel
theorem dX9_restore_39 : decode cX9_restore 39 = .ok (.getfield 13, 3) := dc_at daX9_restore_1 0 rfl
theorem dX9_restore_42 : decode cX9_restore 42 = .ok (.iload_n 2, 1) := dc_at daX9_restore_1 1 rfl
theorem dX9_restore_43 : decode cX9_restore 43 = .ok (.aload_n 0, 1) := dc_at daX9_restore_1 2 rfl
theorem dX9_restore_44 : decode cX9_restore 44 = .ok (.getfield 13, 3) := dc_at daX9_restore_1 3 rfl
theorem dX9_restore_47 : decode cX9_restore 47 = .ok (.bipush 96, 2) := dc_at daX9_restore_1 4 rfl
theorem dX9_restore_49 : decode cX9_restore 49 = .ok (.iload_n 1, 1) := dc_at daX9_restore_1 5 rfl
theorem dX9_restore_50 : decode cX9_restore 50 = .ok (.iconst 1, 1) := dc_at daX9_restore_1 6 rfl
theorem dX9_restore_51 : decode cX9_restore 51 = .ok (.iadd, 1) := dc_at daX9_restore_1 7 rfl
theorem dX9_restore_52 : decode cX9_restore 52 = .ok (.imul, 1) := dc_at daX9_restore_1 8 rfl
theorem dX9_restore_53 : decode cX9_restore 53 = .ok (.iload_n 2, 1) := dc_at daX9_restore_1 9 rfl
theorem dX9_restore_54 : decode cX9_restore 54 = .ok (.iadd, 1) := dc_at daX9_restore_1 10 rfl
theorem dX9_restore_55 : decode cX9_restore 55 = .ok (.iaload, 1) := dc_at daX9_restore_1 11 rfl
theorem dX9_restore_56 : decode cX9_restore 56 = .ok (.iastore, 1) := dc_at daX9_restore_1 12 rfl
theorem dX9_restore_57 : decode cX9_restore 57 = .ok (.iinc 2 1, 3) := dc_at daX9_restore_1 13 rfl
theorem dX9_restore_60 : decode cX9_restore 60 = .ok (.goto (-28), 3) := dc_at daX9_restore_1 14 rfl
theorem dX9_restore_63 : decode cX9_restore 63 = .ok (.iconst 0, 1) := dc_at daX9_restore_1 15 rfl
theorem dX9_restore_64 : decode cX9_restore 64 = .ok (.ireturn, 1) := dc_at daX9_restore_1 16 rfl
def dlX9_sumOf_0 : List (Nat × Jvm.ClassFile.Instr × Nat) := [(0, .iconst 0, 1), (1, .istore_n 2, 1), (2, .iconst 0, 1), (3, .istore_n 3, 1), (4, .iload_n 3, 1), (5, .aload_n 0, 1), (6, .getfield 13, 3), (9, .iconst 0, 1), (10, .iaload, 1), (11, .if_icmp .ge 20, 3), (14, .iload_n 2, 1), (15, .aload_n 0, 1), (16, .getfield 13, 3), (19, .iload_n 1, 1), (20, .iload_n 3, 1), (21, .iadd, 1), (22, .iaload, 1), (23, .iadd, 1), (24, .istore_n 2, 1), (25, .iinc 3 1, 3), (28, .goto (-24), 3), (31, .iload_n 2, 1), (32, .ireturn, 1)]
theorem daX9_sumOf_0 : dlX9_sumOf_0.all (dcK cX9_sumOf) = true := by decide +kernel
theorem dX9_sumOf_0 : decode cX9_sumOf 0 = .ok (.iconst 0, 1) := dc_at daX9_sumOf_0 0 rfl
theorem dX9_sumOf_1 : decode cX9_sumOf 1 = .ok (.istore_n 2, 1) := dc_at daX9_sumOf_0 1 rfl
theorem dX9_sumOf_2 : decode cX9_sumOf 2 = .ok (.iconst 0, 1) := dc_at daX9_sumOf_0 2 rfl
theorem dX9_sumOf_3 : decode cX9_sumOf 3 = .ok (.istore_n 3, 1) := dc_at daX9_sumOf_0 3 rfl
theorem dX9_sumOf_4 : decode cX9_sumOf 4 = .ok (.iload_n 3, 1) := dc_at daX9_sumOf_0 4 rfl
theorem dX9_sumOf_5 : decode cX9_sumOf 5 = .ok (.aload_n 0, 1) := dc_at daX9_sumOf_0 5 rfl
theorem dX9_sumOf_6 : decode cX9_sumOf 6 = .ok (.getfield 13, 3) := dc_at daX9_sumOf_0 6 rfl
theorem dX9_sumOf_9 : decode cX9_sumOf 9 = .ok (.iconst 0, 1) := dc_at daX9_sumOf_0 7 rfl
theorem dX9_sumOf_10 : decode cX9_sumOf 10 = .ok (.iaload, 1) := dc_at daX9_sumOf_0 8 rfl
theorem dX9_sumOf_11 : decode cX9_sumOf 11 = .ok (.if_icmp .ge 20, 3) := dc_at daX9_sumOf_0 9 rfl
theorem dX9_sumOf_14 : decode cX9_sumOf 14 = .ok (.iload_n 2, 1) := dc_at daX9_sumOf_0 10 rfl
theorem dX9_sumOf_15 : decode cX9_sumOf 15 = .ok (.aload_n 0, 1) := dc_at daX9_sumOf_0 11 rfl
theorem dX9_sumOf_16 : decode cX9_sumOf 16 = .ok (.getfield 13, 3) := dc_at daX9_sumOf_0 12 rfl
theorem dX9_sumOf_19 : decode cX9_sumOf 19 = .ok (.iload_n 1, 1) := dc_at daX9_sumOf_0 13 rfl
theorem dX9_sumOf_20 : decode cX9_sumOf 20 = .ok (.iload_n 3, 1) := dc_at daX9_sumOf_0 14 rfl
theorem dX9_sumOf_21 : decode cX9_sumOf 21 = .ok (.iadd, 1) := dc_at daX9_sumOf_0 15 rfl
theorem dX9_sumOf_22 : decode cX9_sumOf 22 = .ok (.iaload, 1) := dc_at daX9_sumOf_0 16 rfl
theorem dX9_sumOf_23 : decode cX9_sumOf 23 = .ok (.iadd, 1) := dc_at daX9_sumOf_0 17 rfl
theorem dX9_sumOf_24 : decode cX9_sumOf 24 = .ok (.istore_n 2, 1) := dc_at daX9_sumOf_0 18 rfl
theorem dX9_sumOf_25 : decode cX9_sumOf 25 = .ok (.iinc 3 1, 3) := dc_at daX9_sumOf_0 19 rfl
theorem dX9_sumOf_28 : decode cX9_sumOf 28 = .ok (.goto (-24), 3) := dc_at daX9_sumOf_0 20 rfl
theorem dX9_sumOf_31 : decode cX9_sumOf 31 = .ok (.iload_n 2, 1) := dc_at daX9_sumOf_0 21 rfl
theorem dX9_sumOf_32 : decode cX9_sumOf 32 = .ok (.ireturn, 1) := dc_at daX9_sumOf_0 22 rfl
def dlX9_count_0 : List (Nat × Jvm.ClassFile.Instr × Nat) := [(0, .aload_n 0, 1), (1, .iconst 0, 1), (2, .putfield 1, 3), (5, .iload_n 1, 1), (6, .tableswitch 105 2 12 #[85, 105, 105, 105, 105, 105, 105, 58, 65, 72, 77], 58), (64, .aload_n 0, 1), (65, .bipush 16, 2), (67, .invokevirtual 335, 3), (70, .ireturn, 1), (71, .aload_n 0, 1), (72, .bipush 80, 2), (74, .invokevirtual 335, 3), (77, .ireturn, 1), (78, .aload_n 0, 1), (79, .getfield 68, 3), (82, .ireturn, 1), (83, .aload_n 0, 1), (84, .getfield 13, 3), (87, .bipush 9, 2), (89, .iaload, 1), (90, .ireturn, 1), (91, .aload_n 0, 1), (92, .getfield 13, 3), (95, .iconst 0, 1)]
theorem daX9_count_0 : dlX9_count_0.all (dcK cX9_count) = true := by decide +kernel
theorem dX9_count_0 : decode cX9_count 0 = .ok (.aload_n 0, 1) := dc_at daX9_count_0 0 rfl
theorem dX9_count_1 : decode cX9_count 1 = .ok (.iconst 0, 1) := dc_at daX9_count_0 1 rfl
theorem dX9_count_2 : decode cX9_count 2 = .ok (.putfield 1, 3) := dc_at daX9_count_0 2 rfl
theorem dX9_count_5 : decode cX9_count 5 = .ok (.iload_n 1, 1) := dc_at daX9_count_0 3 rfl
theorem dX9_count_6 : decode cX9_count 6 = .ok (.tableswitch 105 2 12 #[85, 105, 105, 105, 105, 105, 105, 58, 65, 72, 77], 58) := dc_at daX9_count_0 4 rfl
theorem dX9_count_64 : decode cX9_count 64 = .ok (.aload_n 0, 1) := dc_at daX9_count_0 5 rfl
theorem dX9_count_65 : decode cX9_count 65 = .ok (.bipush 16, 2) := dc_at daX9_count_0 6 rfl
theorem dX9_count_67 : decode cX9_count 67 = .ok (.invokevirtual 335, 3) := dc_at daX9_count_0 7 rfl
theorem dX9_count_70 : decode cX9_count 70 = .ok (.ireturn, 1) := dc_at daX9_count_0 8 rfl
theorem dX9_count_71 : decode cX9_count 71 = .ok (.aload_n 0, 1) := dc_at daX9_count_0 9 rfl
theorem dX9_count_72 : decode cX9_count 72 = .ok (.bipush 80, 2) := dc_at daX9_count_0 10 rfl
theorem dX9_count_74 : decode cX9_count 74 = .ok (.invokevirtual 335, 3) := dc_at daX9_count_0 11 rfl
theorem dX9_count_77 : decode cX9_count 77 = .ok (.ireturn, 1) := dc_at daX9_count_0 12 rfl
theorem dX9_count_78 : decode cX9_count 78 = .ok (.aload_n 0, 1) := dc_at daX9_count_0 13 rfl
theorem dX9_count_79 : decode cX9_count 79 = .ok (.getfield 68, 3) := dc_at daX9_count_0 14 rfl
theorem dX9_count_82 : decode cX9_count 82 = .ok (.ireturn, 1) := dc_at daX9_count_0 15 rfl
theorem dX9_count_83 : decode cX9_count 83 = .ok (.aload_n 0, 1) := dc_at daX9_count_0 16 rfl
theorem dX9_count_84 : decode cX9_count 84 = .ok (.getfield 13, 3) := dc_at daX9_count_0 17 rfl
theorem dX9_count_87 : decode cX9_count 87 = .ok (.bipush 9, 2) := dc_at daX9_count_0 18 rfl
theorem dX9_count_89 : decode cX9_count 89 = .ok (.iaload, 1) := dc_at daX9_count_0 19 rfl
theorem dX9_count_90 : decode cX9_count 90 = .ok (.ireturn, 1) := dc_at daX9_count_0 20 rfl
theorem dX9_count_91 : decode cX9_count 91 = .ok (.aload_n 0, 1) := dc_at daX9_count_0 21 rfl
theorem dX9_count_92 : decode cX9_count 92 = .ok (.getfield 13, 3) := dc_at daX9_count_0 22 rfl
theorem dX9_count_95 : decode cX9_count 95 = .ok (.iconst 0, 1) := dc_at daX9_count_0 23 rfl
def dlX9_count_1 : List (Nat × Jvm.ClassFile.Instr × Nat) := [(96, .iaload, 1), (97, .ifCond .ne 7, 3), (100, .iconst (-1), 1), (101, .goto 9, 3), (104, .aload_n 0, 1), (105, .getfield 13, 3), (108, .iconst 2, 1), (109, .iaload, 1), (110, .ireturn, 1), (111, .iload_n 1, 1), (112, .i2l, 1), (113, .lconst 0, 1), (114, .ldc2_w 267, 3), (117, .invokestatic 128, 3), (120, .ifCond .eq 12, 3), (123, .aload_n 0, 1), (124, .getfield 13, 3), (127, .iload_n 1, 1), (128, .iaload, 1), (129, .goto 4, 3), (132, .iconst (-1), 1), (133, .ireturn, 1)]
theorem daX9_count_1 : dlX9_count_1.all (dcK cX9_count) = true := by decide +kernel
theorem dX9_count_96 : decode cX9_count 96 = .ok (.iaload, 1) := dc_at daX9_count_1 0 rfl
theorem dX9_count_97 : decode cX9_count 97 = .ok (.ifCond .ne 7, 3) := dc_at daX9_count_1 1 rfl
theorem dX9_count_100 : decode cX9_count 100 = .ok (.iconst (-1), 1) := dc_at daX9_count_1 2 rfl
theorem dX9_count_101 : decode cX9_count 101 = .ok (.goto 9, 3) := dc_at daX9_count_1 3 rfl
theorem dX9_count_104 : decode cX9_count 104 = .ok (.aload_n 0, 1) := dc_at daX9_count_1 4 rfl
theorem dX9_count_105 : decode cX9_count 105 = .ok (.getfield 13, 3) := dc_at daX9_count_1 5 rfl
theorem dX9_count_108 : decode cX9_count 108 = .ok (.iconst 2, 1) := dc_at daX9_count_1 6 rfl
theorem dX9_count_109 : decode cX9_count 109 = .ok (.iaload, 1) := dc_at daX9_count_1 7 rfl
theorem dX9_count_110 : decode cX9_count 110 = .ok (.ireturn, 1) := dc_at daX9_count_1 8 rfl
theorem dX9_count_111 : decode cX9_count 111 = .ok (.iload_n 1, 1) := dc_at daX9_count_1 9 rfl
theorem dX9_count_112 : decode cX9_count 112 = .ok (.i2l, 1) := dc_at daX9_count_1 10 rfl
theorem dX9_count_113 : decode cX9_count 113 = .ok (.lconst 0, 1) := dc_at daX9_count_1 11 rfl
theorem dX9_count_114 : decode cX9_count 114 = .ok (.ldc2_w 267, 3) := dc_at daX9_count_1 12 rfl
theorem dX9_count_117 : decode cX9_count 117 = .ok (.invokestatic 128, 3) := dc_at daX9_count_1 13 rfl
theorem dX9_count_120 : decode cX9_count 120 = .ok (.ifCond .eq 12, 3) := dc_at daX9_count_1 14 rfl
theorem dX9_count_123 : decode cX9_count 123 = .ok (.aload_n 0, 1) := dc_at daX9_count_1 15 rfl
theorem dX9_count_124 : decode cX9_count 124 = .ok (.getfield 13, 3) := dc_at daX9_count_1 16 rfl
theorem dX9_count_127 : decode cX9_count 127 = .ok (.iload_n 1, 1) := dc_at daX9_count_1 17 rfl
theorem dX9_count_128 : decode cX9_count 128 = .ok (.iaload, 1) := dc_at daX9_count_1 18 rfl
theorem dX9_count_129 : decode cX9_count 129 = .ok (.goto 4, 3) := dc_at daX9_count_1 19 rfl
theorem dX9_count_132 : decode cX9_count 132 = .ok (.iconst (-1), 1) := dc_at daX9_count_1 20 rfl
theorem dX9_count_133 : decode cX9_count 133 = .ok (.ireturn, 1) := dc_at daX9_count_1 21 rfl
def dlJ6_numberOfLeadingZeros_0f7a4_0 : List (Nat × Jvm.ClassFile.Instr × Nat) := [(0, .iload_n 0, 1), (1, .ifCond .gt 14, 3), (4, .iload_n 0, 1), (5, .ifCond .ne 8, 3), (8, .bipush 32, 2), (10, .goto 4, 3), (13, .iconst 0, 1), (14, .ireturn, 1), (15, .bipush 31, 2), (17, .istore_n 1, 1), (18, .iload_n 0, 1), (19, .ldc_w 264, 3), (22, .if_icmp .lt 11, 3), (25, .iinc 1 (-16), 3), (28, .iload_n 0, 1), (29, .bipush 16, 2), (31, .iushr, 1), (32, .istore_n 0, 1), (33, .iload_n 0, 1), (34, .sipush 256, 3), (37, .if_icmp .lt 11, 3), (40, .iinc 1 (-8), 3), (43, .iload_n 0, 1), (44, .bipush 8, 2)]
theorem daJ6_numberOfLeadingZeros_0f7a4_0 : dlJ6_numberOfLeadingZeros_0f7a4_0.all (dcK cJ6_numberOfLeadingZeros_0f7a4) = true := by decide +kernel
theorem dJ6_numberOfLeadingZeros_0f7a4_0 : decode cJ6_numberOfLeadingZeros_0f7a4 0 = .ok (.iload_n 0, 1) := dc_at daJ6_numberOfLeadingZeros_0f7a4_0 0 rfl
theorem dJ6_numberOfLeadingZeros_0f7a4_1 : decode cJ6_numberOfLeadingZeros_0f7a4 1 = .ok (.ifCond .gt 14, 3) := dc_at daJ6_numberOfLeadingZeros_0f7a4_0 1 rfl
theorem dJ6_numberOfLeadingZeros_0f7a4_4 : decode cJ6_numberOfLeadingZeros_0f7a4 4 = .ok (.iload_n 0, 1) := dc_at daJ6_numberOfLeadingZeros_0f7a4_0 2 rfl
theorem dJ6_numberOfLeadingZeros_0f7a4_5 : decode cJ6_numberOfLeadingZeros_0f7a4 5 = .ok (.ifCond .ne 8, 3) := dc_at daJ6_numberOfLeadingZeros_0f7a4_0 3 rfl
theorem dJ6_numberOfLeadingZeros_0f7a4_8 : decode cJ6_numberOfLeadingZeros_0f7a4 8 = .ok (.bipush 32, 2) := dc_at daJ6_numberOfLeadingZeros_0f7a4_0 4 rfl
theorem dJ6_numberOfLeadingZeros_0f7a4_10 : decode cJ6_numberOfLeadingZeros_0f7a4 10 = .ok (.goto 4, 3) := dc_at daJ6_numberOfLeadingZeros_0f7a4_0 5 rfl
theorem dJ6_numberOfLeadingZeros_0f7a4_13 : decode cJ6_numberOfLeadingZeros_0f7a4 13 = .ok (.iconst 0, 1) := dc_at daJ6_numberOfLeadingZeros_0f7a4_0 6 rfl
theorem dJ6_numberOfLeadingZeros_0f7a4_14 : decode cJ6_numberOfLeadingZeros_0f7a4 14 = .ok (.ireturn, 1) := dc_at daJ6_numberOfLeadingZeros_0f7a4_0 7 rfl
theorem dJ6_numberOfLeadingZeros_0f7a4_15 : decode cJ6_numberOfLeadingZeros_0f7a4 15 = .ok (.bipush 31, 2) := dc_at daJ6_numberOfLeadingZeros_0f7a4_0 8 rfl
theorem dJ6_numberOfLeadingZeros_0f7a4_17 : decode cJ6_numberOfLeadingZeros_0f7a4 17 = .ok (.istore_n 1, 1) := dc_at daJ6_numberOfLeadingZeros_0f7a4_0 9 rfl
theorem dJ6_numberOfLeadingZeros_0f7a4_18 : decode cJ6_numberOfLeadingZeros_0f7a4 18 = .ok (.iload_n 0, 1) := dc_at daJ6_numberOfLeadingZeros_0f7a4_0 10 rfl
theorem dJ6_numberOfLeadingZeros_0f7a4_19 : decode cJ6_numberOfLeadingZeros_0f7a4 19 = .ok (.ldc_w 264, 3) := dc_at daJ6_numberOfLeadingZeros_0f7a4_0 11 rfl
theorem dJ6_numberOfLeadingZeros_0f7a4_22 : decode cJ6_numberOfLeadingZeros_0f7a4 22 = .ok (.if_icmp .lt 11, 3) := dc_at daJ6_numberOfLeadingZeros_0f7a4_0 12 rfl
theorem dJ6_numberOfLeadingZeros_0f7a4_25 : decode cJ6_numberOfLeadingZeros_0f7a4 25 = .ok (.iinc 1 (-16), 3) := dc_at daJ6_numberOfLeadingZeros_0f7a4_0 13 rfl
theorem dJ6_numberOfLeadingZeros_0f7a4_28 : decode cJ6_numberOfLeadingZeros_0f7a4 28 = .ok (.iload_n 0, 1) := dc_at daJ6_numberOfLeadingZeros_0f7a4_0 14 rfl
theorem dJ6_numberOfLeadingZeros_0f7a4_29 : decode cJ6_numberOfLeadingZeros_0f7a4 29 = .ok (.bipush 16, 2) := dc_at daJ6_numberOfLeadingZeros_0f7a4_0 15 rfl
theorem dJ6_numberOfLeadingZeros_0f7a4_31 : decode cJ6_numberOfLeadingZeros_0f7a4 31 = .ok (.iushr, 1) := dc_at daJ6_numberOfLeadingZeros_0f7a4_0 16 rfl
theorem dJ6_numberOfLeadingZeros_0f7a4_32 : decode cJ6_numberOfLeadingZeros_0f7a4 32 = .ok (.istore_n 0, 1) := dc_at daJ6_numberOfLeadingZeros_0f7a4_0 17 rfl
theorem dJ6_numberOfLeadingZeros_0f7a4_33 : decode cJ6_numberOfLeadingZeros_0f7a4 33 = .ok (.iload_n 0, 1) := dc_at daJ6_numberOfLeadingZeros_0f7a4_0 18 rfl
theorem dJ6_numberOfLeadingZeros_0f7a4_34 : decode cJ6_numberOfLeadingZeros_0f7a4 34 = .ok (.sipush 256, 3) := dc_at daJ6_numberOfLeadingZeros_0f7a4_0 19 rfl
theorem dJ6_numberOfLeadingZeros_0f7a4_37 : decode cJ6_numberOfLeadingZeros_0f7a4 37 = .ok (.if_icmp .lt 11, 3) := dc_at daJ6_numberOfLeadingZeros_0f7a4_0 20 rfl
theorem dJ6_numberOfLeadingZeros_0f7a4_40 : decode cJ6_numberOfLeadingZeros_0f7a4 40 = .ok (.iinc 1 (-8), 3) := dc_at daJ6_numberOfLeadingZeros_0f7a4_0 21 rfl
theorem dJ6_numberOfLeadingZeros_0f7a4_43 : decode cJ6_numberOfLeadingZeros_0f7a4 43 = .ok (.iload_n 0, 1) := dc_at daJ6_numberOfLeadingZeros_0f7a4_0 22 rfl
theorem dJ6_numberOfLeadingZeros_0f7a4_44 : decode cJ6_numberOfLeadingZeros_0f7a4 44 = .ok (.bipush 8, 2) := dc_at daJ6_numberOfLeadingZeros_0f7a4_0 23 rfl
def dlJ6_numberOfLeadingZeros_0f7a4_1 : List (Nat × Jvm.ClassFile.Instr × Nat) := [(46, .iushr, 1), (47, .istore_n 0, 1), (48, .iload_n 0, 1), (49, .bipush 16, 2), (51, .if_icmp .lt 10, 3), (54, .iinc 1 (-4), 3), (57, .iload_n 0, 1), (58, .iconst 4, 1), (59, .iushr, 1), (60, .istore_n 0, 1), (61, .iload_n 0, 1), (62, .iconst 4, 1), (63, .if_icmp .lt 10, 3), (66, .iinc 1 (-2), 3), (69, .iload_n 0, 1), (70, .iconst 2, 1), (71, .iushr, 1), (72, .istore_n 0, 1), (73, .iload_n 1, 1), (74, .iload_n 0, 1), (75, .iconst 1, 1), (76, .iushr, 1), (77, .isub, 1), (78, .ireturn, 1)]
theorem daJ6_numberOfLeadingZeros_0f7a4_1 : dlJ6_numberOfLeadingZeros_0f7a4_1.all (dcK cJ6_numberOfLeadingZeros_0f7a4) = true := by decide +kernel
theorem dJ6_numberOfLeadingZeros_0f7a4_46 : decode cJ6_numberOfLeadingZeros_0f7a4 46 = .ok (.iushr, 1) := dc_at daJ6_numberOfLeadingZeros_0f7a4_1 0 rfl
theorem dJ6_numberOfLeadingZeros_0f7a4_47 : decode cJ6_numberOfLeadingZeros_0f7a4 47 = .ok (.istore_n 0, 1) := dc_at daJ6_numberOfLeadingZeros_0f7a4_1 1 rfl
theorem dJ6_numberOfLeadingZeros_0f7a4_48 : decode cJ6_numberOfLeadingZeros_0f7a4 48 = .ok (.iload_n 0, 1) := dc_at daJ6_numberOfLeadingZeros_0f7a4_1 2 rfl
theorem dJ6_numberOfLeadingZeros_0f7a4_49 : decode cJ6_numberOfLeadingZeros_0f7a4 49 = .ok (.bipush 16, 2) := dc_at daJ6_numberOfLeadingZeros_0f7a4_1 3 rfl
theorem dJ6_numberOfLeadingZeros_0f7a4_51 : decode cJ6_numberOfLeadingZeros_0f7a4 51 = .ok (.if_icmp .lt 10, 3) := dc_at daJ6_numberOfLeadingZeros_0f7a4_1 4 rfl
theorem dJ6_numberOfLeadingZeros_0f7a4_54 : decode cJ6_numberOfLeadingZeros_0f7a4 54 = .ok (.iinc 1 (-4), 3) := dc_at daJ6_numberOfLeadingZeros_0f7a4_1 5 rfl
theorem dJ6_numberOfLeadingZeros_0f7a4_57 : decode cJ6_numberOfLeadingZeros_0f7a4 57 = .ok (.iload_n 0, 1) := dc_at daJ6_numberOfLeadingZeros_0f7a4_1 6 rfl
theorem dJ6_numberOfLeadingZeros_0f7a4_58 : decode cJ6_numberOfLeadingZeros_0f7a4 58 = .ok (.iconst 4, 1) := dc_at daJ6_numberOfLeadingZeros_0f7a4_1 7 rfl
theorem dJ6_numberOfLeadingZeros_0f7a4_59 : decode cJ6_numberOfLeadingZeros_0f7a4 59 = .ok (.iushr, 1) := dc_at daJ6_numberOfLeadingZeros_0f7a4_1 8 rfl
theorem dJ6_numberOfLeadingZeros_0f7a4_60 : decode cJ6_numberOfLeadingZeros_0f7a4 60 = .ok (.istore_n 0, 1) := dc_at daJ6_numberOfLeadingZeros_0f7a4_1 9 rfl
theorem dJ6_numberOfLeadingZeros_0f7a4_61 : decode cJ6_numberOfLeadingZeros_0f7a4 61 = .ok (.iload_n 0, 1) := dc_at daJ6_numberOfLeadingZeros_0f7a4_1 10 rfl
theorem dJ6_numberOfLeadingZeros_0f7a4_62 : decode cJ6_numberOfLeadingZeros_0f7a4 62 = .ok (.iconst 4, 1) := dc_at daJ6_numberOfLeadingZeros_0f7a4_1 11 rfl
theorem dJ6_numberOfLeadingZeros_0f7a4_63 : decode cJ6_numberOfLeadingZeros_0f7a4 63 = .ok (.if_icmp .lt 10, 3) := dc_at daJ6_numberOfLeadingZeros_0f7a4_1 12 rfl
theorem dJ6_numberOfLeadingZeros_0f7a4_66 : decode cJ6_numberOfLeadingZeros_0f7a4 66 = .ok (.iinc 1 (-2), 3) := dc_at daJ6_numberOfLeadingZeros_0f7a4_1 13 rfl
theorem dJ6_numberOfLeadingZeros_0f7a4_69 : decode cJ6_numberOfLeadingZeros_0f7a4 69 = .ok (.iload_n 0, 1) := dc_at daJ6_numberOfLeadingZeros_0f7a4_1 14 rfl
theorem dJ6_numberOfLeadingZeros_0f7a4_70 : decode cJ6_numberOfLeadingZeros_0f7a4 70 = .ok (.iconst 2, 1) := dc_at daJ6_numberOfLeadingZeros_0f7a4_1 15 rfl
theorem dJ6_numberOfLeadingZeros_0f7a4_71 : decode cJ6_numberOfLeadingZeros_0f7a4 71 = .ok (.iushr, 1) := dc_at daJ6_numberOfLeadingZeros_0f7a4_1 16 rfl
theorem dJ6_numberOfLeadingZeros_0f7a4_72 : decode cJ6_numberOfLeadingZeros_0f7a4 72 = .ok (.istore_n 0, 1) := dc_at daJ6_numberOfLeadingZeros_0f7a4_1 17 rfl
theorem dJ6_numberOfLeadingZeros_0f7a4_73 : decode cJ6_numberOfLeadingZeros_0f7a4 73 = .ok (.iload_n 1, 1) := dc_at daJ6_numberOfLeadingZeros_0f7a4_1 18 rfl
theorem dJ6_numberOfLeadingZeros_0f7a4_74 : decode cJ6_numberOfLeadingZeros_0f7a4 74 = .ok (.iload_n 0, 1) := dc_at daJ6_numberOfLeadingZeros_0f7a4_1 19 rfl
theorem dJ6_numberOfLeadingZeros_0f7a4_75 : decode cJ6_numberOfLeadingZeros_0f7a4 75 = .ok (.iconst 1, 1) := dc_at daJ6_numberOfLeadingZeros_0f7a4_1 20 rfl
theorem dJ6_numberOfLeadingZeros_0f7a4_76 : decode cJ6_numberOfLeadingZeros_0f7a4 76 = .ok (.iushr, 1) := dc_at daJ6_numberOfLeadingZeros_0f7a4_1 21 rfl
theorem dJ6_numberOfLeadingZeros_0f7a4_77 : decode cJ6_numberOfLeadingZeros_0f7a4 77 = .ok (.isub, 1) := dc_at daJ6_numberOfLeadingZeros_0f7a4_1 22 rfl
theorem dJ6_numberOfLeadingZeros_0f7a4_78 : decode cJ6_numberOfLeadingZeros_0f7a4 78 = .ok (.ireturn, 1) := dc_at daJ6_numberOfLeadingZeros_0f7a4_1 23 rfl
def dlJ6_numberOfTrailingZeros_0f7a4_0 : List (Nat × Jvm.ClassFile.Instr × Nat) := [(0, .iload_n 0, 1), (1, .iconst (-1), 1), (2, .ixor, 1), (3, .iload_n 0, 1), (4, .iconst 1, 1), (5, .isub, 1), (6, .iand, 1), (7, .istore_n 0, 1), (8, .iload_n 0, 1), (9, .ifCond .gt 8, 3), (12, .iload_n 0, 1), (13, .bipush 32, 2), (15, .iand, 1), (16, .ireturn, 1), (17, .iconst 1, 1), (18, .istore_n 1, 1), (19, .iload_n 0, 1), (20, .ldc_w 264, 3), (23, .if_icmp .le 11, 3), (26, .iinc 1 16, 3), (29, .iload_n 0, 1), (30, .bipush 16, 2), (32, .iushr, 1), (33, .istore_n 0, 1)]
theorem daJ6_numberOfTrailingZeros_0f7a4_0 : dlJ6_numberOfTrailingZeros_0f7a4_0.all (dcK cJ6_numberOfTrailingZeros_0f7a4) = true := by decide +kernel
theorem dJ6_numberOfTrailingZeros_0f7a4_0 : decode cJ6_numberOfTrailingZeros_0f7a4 0 = .ok (.iload_n 0, 1) := dc_at daJ6_numberOfTrailingZeros_0f7a4_0 0 rfl
theorem dJ6_numberOfTrailingZeros_0f7a4_1 : decode cJ6_numberOfTrailingZeros_0f7a4 1 = .ok (.iconst (-1), 1) := dc_at daJ6_numberOfTrailingZeros_0f7a4_0 1 rfl
theorem dJ6_numberOfTrailingZeros_0f7a4_2 : decode cJ6_numberOfTrailingZeros_0f7a4 2 = .ok (.ixor, 1) := dc_at daJ6_numberOfTrailingZeros_0f7a4_0 2 rfl
theorem dJ6_numberOfTrailingZeros_0f7a4_3 : decode cJ6_numberOfTrailingZeros_0f7a4 3 = .ok (.iload_n 0, 1) := dc_at daJ6_numberOfTrailingZeros_0f7a4_0 3 rfl
theorem dJ6_numberOfTrailingZeros_0f7a4_4 : decode cJ6_numberOfTrailingZeros_0f7a4 4 = .ok (.iconst 1, 1) := dc_at daJ6_numberOfTrailingZeros_0f7a4_0 4 rfl
theorem dJ6_numberOfTrailingZeros_0f7a4_5 : decode cJ6_numberOfTrailingZeros_0f7a4 5 = .ok (.isub, 1) := dc_at daJ6_numberOfTrailingZeros_0f7a4_0 5 rfl
theorem dJ6_numberOfTrailingZeros_0f7a4_6 : decode cJ6_numberOfTrailingZeros_0f7a4 6 = .ok (.iand, 1) := dc_at daJ6_numberOfTrailingZeros_0f7a4_0 6 rfl
theorem dJ6_numberOfTrailingZeros_0f7a4_7 : decode cJ6_numberOfTrailingZeros_0f7a4 7 = .ok (.istore_n 0, 1) := dc_at daJ6_numberOfTrailingZeros_0f7a4_0 7 rfl
theorem dJ6_numberOfTrailingZeros_0f7a4_8 : decode cJ6_numberOfTrailingZeros_0f7a4 8 = .ok (.iload_n 0, 1) := dc_at daJ6_numberOfTrailingZeros_0f7a4_0 8 rfl
theorem dJ6_numberOfTrailingZeros_0f7a4_9 : decode cJ6_numberOfTrailingZeros_0f7a4 9 = .ok (.ifCond .gt 8, 3) := dc_at daJ6_numberOfTrailingZeros_0f7a4_0 9 rfl
theorem dJ6_numberOfTrailingZeros_0f7a4_12 : decode cJ6_numberOfTrailingZeros_0f7a4 12 = .ok (.iload_n 0, 1) := dc_at daJ6_numberOfTrailingZeros_0f7a4_0 10 rfl
theorem dJ6_numberOfTrailingZeros_0f7a4_13 : decode cJ6_numberOfTrailingZeros_0f7a4 13 = .ok (.bipush 32, 2) := dc_at daJ6_numberOfTrailingZeros_0f7a4_0 11 rfl
theorem dJ6_numberOfTrailingZeros_0f7a4_15 : decode cJ6_numberOfTrailingZeros_0f7a4 15 = .ok (.iand, 1) := dc_at daJ6_numberOfTrailingZeros_0f7a4_0 12 rfl
theorem dJ6_numberOfTrailingZeros_0f7a4_16 : decode cJ6_numberOfTrailingZeros_0f7a4 16 = .ok (.ireturn, 1) := dc_at daJ6_numberOfTrailingZeros_0f7a4_0 13 rfl
theorem dJ6_numberOfTrailingZeros_0f7a4_17 : decode cJ6_numberOfTrailingZeros_0f7a4 17 = .ok (.iconst 1, 1) := dc_at daJ6_numberOfTrailingZeros_0f7a4_0 14 rfl
theorem dJ6_numberOfTrailingZeros_0f7a4_18 : decode cJ6_numberOfTrailingZeros_0f7a4 18 = .ok (.istore_n 1, 1) := dc_at daJ6_numberOfTrailingZeros_0f7a4_0 15 rfl
theorem dJ6_numberOfTrailingZeros_0f7a4_19 : decode cJ6_numberOfTrailingZeros_0f7a4 19 = .ok (.iload_n 0, 1) := dc_at daJ6_numberOfTrailingZeros_0f7a4_0 16 rfl
theorem dJ6_numberOfTrailingZeros_0f7a4_20 : decode cJ6_numberOfTrailingZeros_0f7a4 20 = .ok (.ldc_w 264, 3) := dc_at daJ6_numberOfTrailingZeros_0f7a4_0 17 rfl
theorem dJ6_numberOfTrailingZeros_0f7a4_23 : decode cJ6_numberOfTrailingZeros_0f7a4 23 = .ok (.if_icmp .le 11, 3) := dc_at daJ6_numberOfTrailingZeros_0f7a4_0 18 rfl
theorem dJ6_numberOfTrailingZeros_0f7a4_26 : decode cJ6_numberOfTrailingZeros_0f7a4 26 = .ok (.iinc 1 16, 3) := dc_at daJ6_numberOfTrailingZeros_0f7a4_0 19 rfl
theorem dJ6_numberOfTrailingZeros_0f7a4_29 : decode cJ6_numberOfTrailingZeros_0f7a4 29 = .ok (.iload_n 0, 1) := dc_at daJ6_numberOfTrailingZeros_0f7a4_0 20 rfl
theorem dJ6_numberOfTrailingZeros_0f7a4_30 : decode cJ6_numberOfTrailingZeros_0f7a4 30 = .ok (.bipush 16, 2) := dc_at daJ6_numberOfTrailingZeros_0f7a4_0 21 rfl
theorem dJ6_numberOfTrailingZeros_0f7a4_32 : decode cJ6_numberOfTrailingZeros_0f7a4 32 = .ok (.iushr, 1) := dc_at daJ6_numberOfTrailingZeros_0f7a4_0 22 rfl
theorem dJ6_numberOfTrailingZeros_0f7a4_33 : decode cJ6_numberOfTrailingZeros_0f7a4 33 = .ok (.istore_n 0, 1) := dc_at daJ6_numberOfTrailingZeros_0f7a4_0 23 rfl
def dlJ6_numberOfTrailingZeros_0f7a4_1 : List (Nat × Jvm.ClassFile.Instr × Nat) := [(34, .iload_n 0, 1), (35, .sipush 256, 3), (38, .if_icmp .le 11, 3), (41, .iinc 1 8, 3), (44, .iload_n 0, 1), (45, .bipush 8, 2), (47, .iushr, 1), (48, .istore_n 0, 1), (49, .iload_n 0, 1), (50, .bipush 16, 2), (52, .if_icmp .le 10, 3), (55, .iinc 1 4, 3), (58, .iload_n 0, 1), (59, .iconst 4, 1), (60, .iushr, 1), (61, .istore_n 0, 1), (62, .iload_n 0, 1), (63, .iconst 4, 1), (64, .if_icmp .le 10, 3), (67, .iinc 1 2, 3), (70, .iload_n 0, 1), (71, .iconst 2, 1), (72, .iushr, 1), (73, .istore_n 0, 1)]
theorem daJ6_numberOfTrailingZeros_0f7a4_1 : dlJ6_numberOfTrailingZeros_0f7a4_1.all (dcK cJ6_numberOfTrailingZeros_0f7a4) = true := by decide +kernel
theorem dJ6_numberOfTrailingZeros_0f7a4_34 : decode cJ6_numberOfTrailingZeros_0f7a4 34 = .ok (.iload_n 0, 1) := dc_at daJ6_numberOfTrailingZeros_0f7a4_1 0 rfl
theorem dJ6_numberOfTrailingZeros_0f7a4_35 : decode cJ6_numberOfTrailingZeros_0f7a4 35 = .ok (.sipush 256, 3) := dc_at daJ6_numberOfTrailingZeros_0f7a4_1 1 rfl
theorem dJ6_numberOfTrailingZeros_0f7a4_38 : decode cJ6_numberOfTrailingZeros_0f7a4 38 = .ok (.if_icmp .le 11, 3) := dc_at daJ6_numberOfTrailingZeros_0f7a4_1 2 rfl
theorem dJ6_numberOfTrailingZeros_0f7a4_41 : decode cJ6_numberOfTrailingZeros_0f7a4 41 = .ok (.iinc 1 8, 3) := dc_at daJ6_numberOfTrailingZeros_0f7a4_1 3 rfl
theorem dJ6_numberOfTrailingZeros_0f7a4_44 : decode cJ6_numberOfTrailingZeros_0f7a4 44 = .ok (.iload_n 0, 1) := dc_at daJ6_numberOfTrailingZeros_0f7a4_1 4 rfl
theorem dJ6_numberOfTrailingZeros_0f7a4_45 : decode cJ6_numberOfTrailingZeros_0f7a4 45 = .ok (.bipush 8, 2) := dc_at daJ6_numberOfTrailingZeros_0f7a4_1 5 rfl
theorem dJ6_numberOfTrailingZeros_0f7a4_47 : decode cJ6_numberOfTrailingZeros_0f7a4 47 = .ok (.iushr, 1) := dc_at daJ6_numberOfTrailingZeros_0f7a4_1 6 rfl
theorem dJ6_numberOfTrailingZeros_0f7a4_48 : decode cJ6_numberOfTrailingZeros_0f7a4 48 = .ok (.istore_n 0, 1) := dc_at daJ6_numberOfTrailingZeros_0f7a4_1 7 rfl
theorem dJ6_numberOfTrailingZeros_0f7a4_49 : decode cJ6_numberOfTrailingZeros_0f7a4 49 = .ok (.iload_n 0, 1) := dc_at daJ6_numberOfTrailingZeros_0f7a4_1 8 rfl
theorem dJ6_numberOfTrailingZeros_0f7a4_50 : decode cJ6_numberOfTrailingZeros_0f7a4 50 = .ok (.bipush 16, 2) := dc_at daJ6_numberOfTrailingZeros_0f7a4_1 9 rfl
theorem dJ6_numberOfTrailingZeros_0f7a4_52 : decode cJ6_numberOfTrailingZeros_0f7a4 52 = .ok (.if_icmp .le 10, 3) := dc_at daJ6_numberOfTrailingZeros_0f7a4_1 10 rfl
theorem dJ6_numberOfTrailingZeros_0f7a4_55 : decode cJ6_numberOfTrailingZeros_0f7a4 55 = .ok (.iinc 1 4, 3) := dc_at daJ6_numberOfTrailingZeros_0f7a4_1 11 rfl
theorem dJ6_numberOfTrailingZeros_0f7a4_58 : decode cJ6_numberOfTrailingZeros_0f7a4 58 = .ok (.iload_n 0, 1) := dc_at daJ6_numberOfTrailingZeros_0f7a4_1 12 rfl
theorem dJ6_numberOfTrailingZeros_0f7a4_59 : decode cJ6_numberOfTrailingZeros_0f7a4 59 = .ok (.iconst 4, 1) := dc_at daJ6_numberOfTrailingZeros_0f7a4_1 13 rfl
theorem dJ6_numberOfTrailingZeros_0f7a4_60 : decode cJ6_numberOfTrailingZeros_0f7a4 60 = .ok (.iushr, 1) := dc_at daJ6_numberOfTrailingZeros_0f7a4_1 14 rfl
theorem dJ6_numberOfTrailingZeros_0f7a4_61 : decode cJ6_numberOfTrailingZeros_0f7a4 61 = .ok (.istore_n 0, 1) := dc_at daJ6_numberOfTrailingZeros_0f7a4_1 15 rfl
theorem dJ6_numberOfTrailingZeros_0f7a4_62 : decode cJ6_numberOfTrailingZeros_0f7a4 62 = .ok (.iload_n 0, 1) := dc_at daJ6_numberOfTrailingZeros_0f7a4_1 16 rfl
theorem dJ6_numberOfTrailingZeros_0f7a4_63 : decode cJ6_numberOfTrailingZeros_0f7a4 63 = .ok (.iconst 4, 1) := dc_at daJ6_numberOfTrailingZeros_0f7a4_1 17 rfl
theorem dJ6_numberOfTrailingZeros_0f7a4_64 : decode cJ6_numberOfTrailingZeros_0f7a4 64 = .ok (.if_icmp .le 10, 3) := dc_at daJ6_numberOfTrailingZeros_0f7a4_1 18 rfl
theorem dJ6_numberOfTrailingZeros_0f7a4_67 : decode cJ6_numberOfTrailingZeros_0f7a4 67 = .ok (.iinc 1 2, 3) := dc_at daJ6_numberOfTrailingZeros_0f7a4_1 19 rfl
theorem dJ6_numberOfTrailingZeros_0f7a4_70 : decode cJ6_numberOfTrailingZeros_0f7a4 70 = .ok (.iload_n 0, 1) := dc_at daJ6_numberOfTrailingZeros_0f7a4_1 20 rfl
theorem dJ6_numberOfTrailingZeros_0f7a4_71 : decode cJ6_numberOfTrailingZeros_0f7a4 71 = .ok (.iconst 2, 1) := dc_at daJ6_numberOfTrailingZeros_0f7a4_1 21 rfl
theorem dJ6_numberOfTrailingZeros_0f7a4_72 : decode cJ6_numberOfTrailingZeros_0f7a4 72 = .ok (.iushr, 1) := dc_at daJ6_numberOfTrailingZeros_0f7a4_1 22 rfl
theorem dJ6_numberOfTrailingZeros_0f7a4_73 : decode cJ6_numberOfTrailingZeros_0f7a4 73 = .ok (.istore_n 0, 1) := dc_at daJ6_numberOfTrailingZeros_0f7a4_1 23 rfl
def dlJ6_numberOfTrailingZeros_0f7a4_2 : List (Nat × Jvm.ClassFile.Instr × Nat) := [(74, .iload_n 1, 1), (75, .iload_n 0, 1), (76, .iconst 1, 1), (77, .iushr, 1), (78, .iadd, 1), (79, .ireturn, 1)]
theorem daJ6_numberOfTrailingZeros_0f7a4_2 : dlJ6_numberOfTrailingZeros_0f7a4_2.all (dcK cJ6_numberOfTrailingZeros_0f7a4) = true := by decide +kernel
theorem dJ6_numberOfTrailingZeros_0f7a4_74 : decode cJ6_numberOfTrailingZeros_0f7a4 74 = .ok (.iload_n 1, 1) := dc_at daJ6_numberOfTrailingZeros_0f7a4_2 0 rfl
theorem dJ6_numberOfTrailingZeros_0f7a4_75 : decode cJ6_numberOfTrailingZeros_0f7a4 75 = .ok (.iload_n 0, 1) := dc_at daJ6_numberOfTrailingZeros_0f7a4_2 1 rfl
theorem dJ6_numberOfTrailingZeros_0f7a4_76 : decode cJ6_numberOfTrailingZeros_0f7a4 76 = .ok (.iconst 1, 1) := dc_at daJ6_numberOfTrailingZeros_0f7a4_2 2 rfl
theorem dJ6_numberOfTrailingZeros_0f7a4_77 : decode cJ6_numberOfTrailingZeros_0f7a4 77 = .ok (.iushr, 1) := dc_at daJ6_numberOfTrailingZeros_0f7a4_2 3 rfl
theorem dJ6_numberOfTrailingZeros_0f7a4_78 : decode cJ6_numberOfTrailingZeros_0f7a4 78 = .ok (.iadd, 1) := dc_at daJ6_numberOfTrailingZeros_0f7a4_2 4 rfl
theorem dJ6_numberOfTrailingZeros_0f7a4_79 : decode cJ6_numberOfTrailingZeros_0f7a4 79 = .ok (.ireturn, 1) := dc_at daJ6_numberOfTrailingZeros_0f7a4_2 5 rfl
def dlJ9_abs_0f7a4_0 : List (Nat × Jvm.ClassFile.Instr × Nat) := [(0, .iload_n 0, 1), (1, .ifCond .ge 8, 3), (4, .iload_n 0, 1), (5, .ineg, 1), (6, .goto 4, 3), (9, .iload_n 0, 1), (10, .ireturn, 1)]
theorem daJ9_abs_0f7a4_0 : dlJ9_abs_0f7a4_0.all (dcK cJ9_abs_0f7a4) = true := by decide +kernel
theorem dJ9_abs_0f7a4_0 : decode cJ9_abs_0f7a4 0 = .ok (.iload_n 0, 1) := dc_at daJ9_abs_0f7a4_0 0 rfl
theorem dJ9_abs_0f7a4_1 : decode cJ9_abs_0f7a4 1 = .ok (.ifCond .ge 8, 3) := dc_at daJ9_abs_0f7a4_0 1 rfl
theorem dJ9_abs_0f7a4_4 : decode cJ9_abs_0f7a4 4 = .ok (.iload_n 0, 1) := dc_at daJ9_abs_0f7a4_0 2 rfl
theorem dJ9_abs_0f7a4_5 : decode cJ9_abs_0f7a4 5 = .ok (.ineg, 1) := dc_at daJ9_abs_0f7a4_0 3 rfl
theorem dJ9_abs_0f7a4_6 : decode cJ9_abs_0f7a4 6 = .ok (.goto 4, 3) := dc_at daJ9_abs_0f7a4_0 4 rfl
theorem dJ9_abs_0f7a4_9 : decode cJ9_abs_0f7a4 9 = .ok (.iload_n 0, 1) := dc_at daJ9_abs_0f7a4_0 5 rfl
theorem dJ9_abs_0f7a4_10 : decode cJ9_abs_0f7a4 10 = .ok (.ireturn, 1) := dc_at daJ9_abs_0f7a4_0 6 rfl
def dlJ9_max_7cf53_0 : List (Nat × Jvm.ClassFile.Instr × Nat) := [(0, .iload_n 0, 1), (1, .iload_n 1, 1), (2, .if_icmp .lt 7, 3), (5, .iload_n 0, 1), (6, .goto 4, 3), (9, .iload_n 1, 1), (10, .ireturn, 1)]
theorem daJ9_max_7cf53_0 : dlJ9_max_7cf53_0.all (dcK cJ9_max_7cf53) = true := by decide +kernel
theorem dJ9_max_7cf53_0 : decode cJ9_max_7cf53 0 = .ok (.iload_n 0, 1) := dc_at daJ9_max_7cf53_0 0 rfl
theorem dJ9_max_7cf53_1 : decode cJ9_max_7cf53 1 = .ok (.iload_n 1, 1) := dc_at daJ9_max_7cf53_0 1 rfl
theorem dJ9_max_7cf53_2 : decode cJ9_max_7cf53 2 = .ok (.if_icmp .lt 7, 3) := dc_at daJ9_max_7cf53_0 2 rfl
theorem dJ9_max_7cf53_5 : decode cJ9_max_7cf53 5 = .ok (.iload_n 0, 1) := dc_at daJ9_max_7cf53_0 3 rfl
theorem dJ9_max_7cf53_6 : decode cJ9_max_7cf53 6 = .ok (.goto 4, 3) := dc_at daJ9_max_7cf53_0 4 rfl
theorem dJ9_max_7cf53_9 : decode cJ9_max_7cf53 9 = .ok (.iload_n 1, 1) := dc_at daJ9_max_7cf53_0 5 rfl
theorem dJ9_max_7cf53_10 : decode cJ9_max_7cf53 10 = .ok (.ireturn, 1) := dc_at daJ9_max_7cf53_0 6 rfl
def dlJ9_min_7cf53_0 : List (Nat × Jvm.ClassFile.Instr × Nat) := [(0, .iload_n 0, 1), (1, .iload_n 1, 1), (2, .if_icmp .gt 7, 3), (5, .iload_n 0, 1), (6, .goto 4, 3), (9, .iload_n 1, 1), (10, .ireturn, 1)]
theorem daJ9_min_7cf53_0 : dlJ9_min_7cf53_0.all (dcK cJ9_min_7cf53) = true := by decide +kernel
theorem dJ9_min_7cf53_0 : decode cJ9_min_7cf53 0 = .ok (.iload_n 0, 1) := dc_at daJ9_min_7cf53_0 0 rfl
theorem dJ9_min_7cf53_1 : decode cJ9_min_7cf53 1 = .ok (.iload_n 1, 1) := dc_at daJ9_min_7cf53_0 1 rfl
theorem dJ9_min_7cf53_2 : decode cJ9_min_7cf53 2 = .ok (.if_icmp .gt 7, 3) := dc_at daJ9_min_7cf53_0 2 rfl
theorem dJ9_min_7cf53_5 : decode cJ9_min_7cf53 5 = .ok (.iload_n 0, 1) := dc_at daJ9_min_7cf53_0 3 rfl
theorem dJ9_min_7cf53_6 : decode cJ9_min_7cf53 6 = .ok (.goto 4, 3) := dc_at daJ9_min_7cf53_0 4 rfl
theorem dJ9_min_7cf53_9 : decode cJ9_min_7cf53 9 = .ok (.iload_n 1, 1) := dc_at daJ9_min_7cf53_0 5 rfl
theorem dJ9_min_7cf53_10 : decode cJ9_min_7cf53 10 = .ok (.ireturn, 1) := dc_at daJ9_min_7cf53_0 6 rfl
def dlJ0_length_8abf5_0 : List (Nat × Jvm.ClassFile.Instr × Nat) := [(0, .aload_n 0, 1), (1, .getfield 9, 3), (4, .arraylength, 1), (5, .aload_n 0, 1), (6, .invokevirtual 335, 3), (9, .ishr, 1), (10, .ireturn, 1)]
theorem daJ0_length_8abf5_0 : dlJ0_length_8abf5_0.all (dcK cJ0_length_8abf5) = true := by decide +kernel
theorem dJ0_length_8abf5_0 : decode cJ0_length_8abf5 0 = .ok (.aload_n 0, 1) := dc_at daJ0_length_8abf5_0 0 rfl
theorem dJ0_length_8abf5_1 : decode cJ0_length_8abf5 1 = .ok (.getfield 9, 3) := dc_at daJ0_length_8abf5_0 1 rfl
theorem dJ0_length_8abf5_4 : decode cJ0_length_8abf5 4 = .ok (.arraylength, 1) := dc_at daJ0_length_8abf5_0 2 rfl
theorem dJ0_length_8abf5_5 : decode cJ0_length_8abf5 5 = .ok (.aload_n 0, 1) := dc_at daJ0_length_8abf5_0 3 rfl
theorem dJ0_length_8abf5_6 : decode cJ0_length_8abf5 6 = .ok (.invokevirtual 335, 3) := dc_at daJ0_length_8abf5_0 4 rfl
theorem dJ0_length_8abf5_9 : decode cJ0_length_8abf5 9 = .ok (.ishr, 1) := dc_at daJ0_length_8abf5_0 5 rfl
theorem dJ0_length_8abf5_10 : decode cJ0_length_8abf5 10 = .ok (.ireturn, 1) := dc_at daJ0_length_8abf5_0 6 rfl
def dlJ0_charAt_5068e_0 : List (Nat × Jvm.ClassFile.Instr × Nat) := [(0, .aload_n 0, 1), (1, .invokevirtual 492, 3), (4, .ifCond .eq 12, 3), (7, .aload_n 0, 1), (8, .getfield 9, 3), (11, .iload_n 1, 1), (12, .invokestatic 495, 3), (15, .ireturn, 1), (16, .aload_n 0, 1), (17, .getfield 9, 3), (20, .iload_n 1, 1), (21, .invokestatic 498, 3), (24, .ireturn, 1)]
theorem daJ0_charAt_5068e_0 : dlJ0_charAt_5068e_0.all (dcK cJ0_charAt_5068e) = true := by decide +kernel
theorem dJ0_charAt_5068e_0 : decode cJ0_charAt_5068e 0 = .ok (.aload_n 0, 1) := dc_at daJ0_charAt_5068e_0 0 rfl
theorem dJ0_charAt_5068e_1 : decode cJ0_charAt_5068e 1 = .ok (.invokevirtual 492, 3) := dc_at daJ0_charAt_5068e_0 1 rfl
theorem dJ0_charAt_5068e_4 : decode cJ0_charAt_5068e 4 = .ok (.ifCond .eq 12, 3) := dc_at daJ0_charAt_5068e_0 2 rfl
theorem dJ0_charAt_5068e_7 : decode cJ0_charAt_5068e 7 = .ok (.aload_n 0, 1) := dc_at daJ0_charAt_5068e_0 3 rfl
theorem dJ0_charAt_5068e_8 : decode cJ0_charAt_5068e 8 = .ok (.getfield 9, 3) := dc_at daJ0_charAt_5068e_0 4 rfl
theorem dJ0_charAt_5068e_11 : decode cJ0_charAt_5068e 11 = .ok (.iload_n 1, 1) := dc_at daJ0_charAt_5068e_0 5 rfl
theorem dJ0_charAt_5068e_12 : decode cJ0_charAt_5068e 12 = .ok (.invokestatic 495, 3) := dc_at daJ0_charAt_5068e_0 6 rfl
theorem dJ0_charAt_5068e_15 : decode cJ0_charAt_5068e 15 = .ok (.ireturn, 1) := dc_at daJ0_charAt_5068e_0 7 rfl
theorem dJ0_charAt_5068e_16 : decode cJ0_charAt_5068e 16 = .ok (.aload_n 0, 1) := dc_at daJ0_charAt_5068e_0 8 rfl
theorem dJ0_charAt_5068e_17 : decode cJ0_charAt_5068e 17 = .ok (.getfield 9, 3) := dc_at daJ0_charAt_5068e_0 9 rfl
theorem dJ0_charAt_5068e_20 : decode cJ0_charAt_5068e 20 = .ok (.iload_n 1, 1) := dc_at daJ0_charAt_5068e_0 10 rfl
theorem dJ0_charAt_5068e_21 : decode cJ0_charAt_5068e 21 = .ok (.invokestatic 498, 3) := dc_at daJ0_charAt_5068e_0 11 rfl
theorem dJ0_charAt_5068e_24 : decode cJ0_charAt_5068e 24 = .ok (.ireturn, 1) := dc_at daJ0_charAt_5068e_0 12 rfl
def dlJ0_coder_7d493_0 : List (Nat × Jvm.ClassFile.Instr × Nat) := [(0, .getstatic 38, 3), (3, .ifCond .eq 10, 3), (6, .aload_n 0, 1), (7, .getfield 15, 3), (10, .goto 4, 3), (13, .iconst 1, 1), (14, .ireturn, 1)]
theorem daJ0_coder_7d493_0 : dlJ0_coder_7d493_0.all (dcK cJ0_coder_7d493) = true := by decide +kernel
theorem dJ0_coder_7d493_0 : decode cJ0_coder_7d493 0 = .ok (.getstatic 38, 3) := dc_at daJ0_coder_7d493_0 0 rfl
theorem dJ0_coder_7d493_3 : decode cJ0_coder_7d493 3 = .ok (.ifCond .eq 10, 3) := dc_at daJ0_coder_7d493_0 1 rfl
theorem dJ0_coder_7d493_6 : decode cJ0_coder_7d493 6 = .ok (.aload_n 0, 1) := dc_at daJ0_coder_7d493_0 2 rfl
theorem dJ0_coder_7d493_7 : decode cJ0_coder_7d493 7 = .ok (.getfield 15, 3) := dc_at daJ0_coder_7d493_0 3 rfl
theorem dJ0_coder_7d493_10 : decode cJ0_coder_7d493 10 = .ok (.goto 4, 3) := dc_at daJ0_coder_7d493_0 4 rfl
theorem dJ0_coder_7d493_13 : decode cJ0_coder_7d493 13 = .ok (.iconst 1, 1) := dc_at daJ0_coder_7d493_0 5 rfl
theorem dJ0_coder_7d493_14 : decode cJ0_coder_7d493 14 = .ok (.ireturn, 1) := dc_at daJ0_coder_7d493_0 6 rfl
def dlJ0_isLatin1_aae02_0 : List (Nat × Jvm.ClassFile.Instr × Nat) := [(0, .getstatic 38, 3), (3, .ifCond .eq 14, 3), (6, .aload_n 0, 1), (7, .getfield 15, 3), (10, .ifCond .ne 7, 3), (13, .iconst 1, 1), (14, .goto 4, 3), (17, .iconst 0, 1), (18, .ireturn, 1)]
theorem daJ0_isLatin1_aae02_0 : dlJ0_isLatin1_aae02_0.all (dcK cJ0_isLatin1_aae02) = true := by decide +kernel
theorem dJ0_isLatin1_aae02_0 : decode cJ0_isLatin1_aae02 0 = .ok (.getstatic 38, 3) := dc_at daJ0_isLatin1_aae02_0 0 rfl
theorem dJ0_isLatin1_aae02_3 : decode cJ0_isLatin1_aae02 3 = .ok (.ifCond .eq 14, 3) := dc_at daJ0_isLatin1_aae02_0 1 rfl
theorem dJ0_isLatin1_aae02_6 : decode cJ0_isLatin1_aae02 6 = .ok (.aload_n 0, 1) := dc_at daJ0_isLatin1_aae02_0 2 rfl
theorem dJ0_isLatin1_aae02_7 : decode cJ0_isLatin1_aae02 7 = .ok (.getfield 15, 3) := dc_at daJ0_isLatin1_aae02_0 3 rfl
theorem dJ0_isLatin1_aae02_10 : decode cJ0_isLatin1_aae02 10 = .ok (.ifCond .ne 7, 3) := dc_at daJ0_isLatin1_aae02_0 4 rfl
theorem dJ0_isLatin1_aae02_13 : decode cJ0_isLatin1_aae02 13 = .ok (.iconst 1, 1) := dc_at daJ0_isLatin1_aae02_0 5 rfl
theorem dJ0_isLatin1_aae02_14 : decode cJ0_isLatin1_aae02 14 = .ok (.goto 4, 3) := dc_at daJ0_isLatin1_aae02_0 6 rfl
theorem dJ0_isLatin1_aae02_17 : decode cJ0_isLatin1_aae02 17 = .ok (.iconst 0, 1) := dc_at daJ0_isLatin1_aae02_0 7 rfl
theorem dJ0_isLatin1_aae02_18 : decode cJ0_isLatin1_aae02 18 = .ok (.ireturn, 1) := dc_at daJ0_isLatin1_aae02_0 8 rfl
def dlJ0_checkIndex_df160_0 : List (Nat × Jvm.ClassFile.Instr × Nat) := [(0, .iload_n 0, 1), (1, .iload_n 1, 1), (2, .getstatic 1053, 3), (5, .invokestatic 1059, 3), (8, .pop, 1), (9, .return_, 1)]
theorem daJ0_checkIndex_df160_0 : dlJ0_checkIndex_df160_0.all (dcK cJ0_checkIndex_df160) = true := by decide +kernel
theorem dJ0_checkIndex_df160_0 : decode cJ0_checkIndex_df160 0 = .ok (.iload_n 0, 1) := dc_at daJ0_checkIndex_df160_0 0 rfl
theorem dJ0_checkIndex_df160_1 : decode cJ0_checkIndex_df160 1 = .ok (.iload_n 1, 1) := dc_at daJ0_checkIndex_df160_0 1 rfl
theorem dJ0_checkIndex_df160_2 : decode cJ0_checkIndex_df160 2 = .ok (.getstatic 1053, 3) := dc_at daJ0_checkIndex_df160_0 2 rfl
theorem dJ0_checkIndex_df160_5 : decode cJ0_checkIndex_df160 5 = .ok (.invokestatic 1059, 3) := dc_at daJ0_checkIndex_df160_0 3 rfl
theorem dJ0_checkIndex_df160_8 : decode cJ0_checkIndex_df160 8 = .ok (.pop, 1) := dc_at daJ0_checkIndex_df160_0 4 rfl
theorem dJ0_checkIndex_df160_9 : decode cJ0_checkIndex_df160 9 = .ok (.return_, 1) := dc_at daJ0_checkIndex_df160_0 5 rfl
def dlJ1_charAt_3b067_0 : List (Nat × Jvm.ClassFile.Instr × Nat) := [(0, .iload_n 1, 1), (1, .aload_n 0, 1), (2, .arraylength, 1), (3, .invokestatic 9, 3), (6, .aload_n 0, 1), (7, .iload_n 1, 1), (8, .baload, 1), (9, .sipush 255, 3), (12, .iand, 1), (13, .i2c, 1), (14, .ireturn, 1)]
theorem daJ1_charAt_3b067_0 : dlJ1_charAt_3b067_0.all (dcK cJ1_charAt_3b067) = true := by decide +kernel
theorem dJ1_charAt_3b067_0 : decode cJ1_charAt_3b067 0 = .ok (.iload_n 1, 1) := dc_at daJ1_charAt_3b067_0 0 rfl
theorem dJ1_charAt_3b067_1 : decode cJ1_charAt_3b067 1 = .ok (.aload_n 0, 1) := dc_at daJ1_charAt_3b067_0 1 rfl
theorem dJ1_charAt_3b067_2 : decode cJ1_charAt_3b067 2 = .ok (.arraylength, 1) := dc_at daJ1_charAt_3b067_0 2 rfl
theorem dJ1_charAt_3b067_3 : decode cJ1_charAt_3b067 3 = .ok (.invokestatic 9, 3) := dc_at daJ1_charAt_3b067_0 3 rfl
theorem dJ1_charAt_3b067_6 : decode cJ1_charAt_3b067 6 = .ok (.aload_n 0, 1) := dc_at daJ1_charAt_3b067_0 4 rfl
theorem dJ1_charAt_3b067_7 : decode cJ1_charAt_3b067 7 = .ok (.iload_n 1, 1) := dc_at daJ1_charAt_3b067_0 5 rfl
theorem dJ1_charAt_3b067_8 : decode cJ1_charAt_3b067 8 = .ok (.baload, 1) := dc_at daJ1_charAt_3b067_0 6 rfl
theorem dJ1_charAt_3b067_9 : decode cJ1_charAt_3b067 9 = .ok (.sipush 255, 3) := dc_at daJ1_charAt_3b067_0 7 rfl
theorem dJ1_charAt_3b067_12 : decode cJ1_charAt_3b067 12 = .ok (.iand, 1) := dc_at daJ1_charAt_3b067_0 8 rfl
theorem dJ1_charAt_3b067_13 : decode cJ1_charAt_3b067 13 = .ok (.i2c, 1) := dc_at daJ1_charAt_3b067_0 9 rfl
theorem dJ1_charAt_3b067_14 : decode cJ1_charAt_3b067 14 = .ok (.ireturn, 1) := dc_at daJ1_charAt_3b067_0 10 rfl
def dlJ2_getChar_3b067_0 : List (Nat × Jvm.ClassFile.Instr × Nat) := [(0, .getstatic 44, 3), (3, .ifCond .ne 25, 3), (6, .iload_n 1, 1), (7, .ifCond .lt 11, 3), (10, .iload_n 1, 1), (11, .aload_n 0, 1), (12, .invokestatic 48, 3), (15, .if_icmp .lt 13, 3), (18, .new 52, 3), (21, .dup, 1), (22, .ldc 54, 2), (24, .invokespecial 56, 3), (27, .athrow, 1), (28, .iload_n 1, 1), (29, .iconst 1, 1), (30, .ishl, 1), (31, .istore_n 1, 1), (32, .aload_n 0, 1), (33, .iload_n 1, 1), (34, .iinc 1 1, 3), (37, .baload, 1), (38, .sipush 255, 3), (41, .iand, 1), (42, .getstatic 59, 3)]
theorem daJ2_getChar_3b067_0 : dlJ2_getChar_3b067_0.all (dcK cJ2_getChar_3b067) = true := by decide +kernel
theorem dJ2_getChar_3b067_0 : decode cJ2_getChar_3b067 0 = .ok (.getstatic 44, 3) := dc_at daJ2_getChar_3b067_0 0 rfl
theorem dJ2_getChar_3b067_3 : decode cJ2_getChar_3b067 3 = .ok (.ifCond .ne 25, 3) := dc_at daJ2_getChar_3b067_0 1 rfl
theorem dJ2_getChar_3b067_6 : decode cJ2_getChar_3b067 6 = .ok (.iload_n 1, 1) := dc_at daJ2_getChar_3b067_0 2 rfl
theorem dJ2_getChar_3b067_7 : decode cJ2_getChar_3b067 7 = .ok (.ifCond .lt 11, 3) := dc_at daJ2_getChar_3b067_0 3 rfl
theorem dJ2_getChar_3b067_10 : decode cJ2_getChar_3b067 10 = .ok (.iload_n 1, 1) := dc_at daJ2_getChar_3b067_0 4 rfl
theorem dJ2_getChar_3b067_11 : decode cJ2_getChar_3b067 11 = .ok (.aload_n 0, 1) := dc_at daJ2_getChar_3b067_0 5 rfl
theorem dJ2_getChar_3b067_12 : decode cJ2_getChar_3b067 12 = .ok (.invokestatic 48, 3) := dc_at daJ2_getChar_3b067_0 6 rfl
theorem dJ2_getChar_3b067_15 : decode cJ2_getChar_3b067 15 = .ok (.if_icmp .lt 13, 3) := dc_at daJ2_getChar_3b067_0 7 rfl
theorem dJ2_getChar_3b067_18 : decode cJ2_getChar_3b067 18 = .ok (.new 52, 3) := dc_at daJ2_getChar_3b067_0 8 rfl
theorem dJ2_getChar_3b067_21 : decode cJ2_getChar_3b067 21 = .ok (.dup, 1) := dc_at daJ2_getChar_3b067_0 9 rfl
theorem dJ2_getChar_3b067_22 : decode cJ2_getChar_3b067 22 = .ok (.ldc 54, 2) := dc_at daJ2_getChar_3b067_0 10 rfl
theorem dJ2_getChar_3b067_24 : decode cJ2_getChar_3b067 24 = .ok (.invokespecial 56, 3) := dc_at daJ2_getChar_3b067_0 11 rfl
theorem dJ2_getChar_3b067_27 : decode cJ2_getChar_3b067 27 = .ok (.athrow, 1) := dc_at daJ2_getChar_3b067_0 12 rfl
theorem dJ2_getChar_3b067_28 : decode cJ2_getChar_3b067 28 = .ok (.iload_n 1, 1) := dc_at daJ2_getChar_3b067_0 13 rfl
theorem dJ2_getChar_3b067_29 : decode cJ2_getChar_3b067 29 = .ok (.iconst 1, 1) := dc_at daJ2_getChar_3b067_0 14 rfl
theorem dJ2_getChar_3b067_30 : decode cJ2_getChar_3b067 30 = .ok (.ishl, 1) := dc_at daJ2_getChar_3b067_0 15 rfl
theorem dJ2_getChar_3b067_31 : decode cJ2_getChar_3b067 31 = .ok (.istore_n 1, 1) := dc_at daJ2_getChar_3b067_0 16 rfl
theorem dJ2_getChar_3b067_32 : decode cJ2_getChar_3b067 32 = .ok (.aload_n 0, 1) := dc_at daJ2_getChar_3b067_0 17 rfl
theorem dJ2_getChar_3b067_33 : decode cJ2_getChar_3b067 33 = .ok (.iload_n 1, 1) := dc_at daJ2_getChar_3b067_0 18 rfl
theorem dJ2_getChar_3b067_34 : decode cJ2_getChar_3b067 34 = .ok (.iinc 1 1, 3) := dc_at daJ2_getChar_3b067_0 19 rfl
theorem dJ2_getChar_3b067_37 : decode cJ2_getChar_3b067 37 = .ok (.baload, 1) := dc_at daJ2_getChar_3b067_0 20 rfl
theorem dJ2_getChar_3b067_38 : decode cJ2_getChar_3b067 38 = .ok (.sipush 255, 3) := dc_at daJ2_getChar_3b067_0 21 rfl
theorem dJ2_getChar_3b067_41 : decode cJ2_getChar_3b067 41 = .ok (.iand, 1) := dc_at daJ2_getChar_3b067_0 22 rfl
theorem dJ2_getChar_3b067_42 : decode cJ2_getChar_3b067 42 = .ok (.getstatic 59, 3) := dc_at daJ2_getChar_3b067_0 23 rfl
def dlJ2_getChar_3b067_1 : List (Nat × Jvm.ClassFile.Instr × Nat) := [(45, .ishl, 1), (46, .aload_n 0, 1), (47, .iload_n 1, 1), (48, .baload, 1), (49, .sipush 255, 3), (52, .iand, 1), (53, .getstatic 63, 3), (56, .ishl, 1), (57, .ior, 1), (58, .i2c, 1), (59, .ireturn, 1)]
theorem daJ2_getChar_3b067_1 : dlJ2_getChar_3b067_1.all (dcK cJ2_getChar_3b067) = true := by decide +kernel
theorem dJ2_getChar_3b067_45 : decode cJ2_getChar_3b067 45 = .ok (.ishl, 1) := dc_at daJ2_getChar_3b067_1 0 rfl
theorem dJ2_getChar_3b067_46 : decode cJ2_getChar_3b067 46 = .ok (.aload_n 0, 1) := dc_at daJ2_getChar_3b067_1 1 rfl
theorem dJ2_getChar_3b067_47 : decode cJ2_getChar_3b067 47 = .ok (.iload_n 1, 1) := dc_at daJ2_getChar_3b067_1 2 rfl
theorem dJ2_getChar_3b067_48 : decode cJ2_getChar_3b067 48 = .ok (.baload, 1) := dc_at daJ2_getChar_3b067_1 3 rfl
theorem dJ2_getChar_3b067_49 : decode cJ2_getChar_3b067 49 = .ok (.sipush 255, 3) := dc_at daJ2_getChar_3b067_1 4 rfl
theorem dJ2_getChar_3b067_52 : decode cJ2_getChar_3b067 52 = .ok (.iand, 1) := dc_at daJ2_getChar_3b067_1 5 rfl
theorem dJ2_getChar_3b067_53 : decode cJ2_getChar_3b067 53 = .ok (.getstatic 63, 3) := dc_at daJ2_getChar_3b067_1 6 rfl
theorem dJ2_getChar_3b067_56 : decode cJ2_getChar_3b067 56 = .ok (.ishl, 1) := dc_at daJ2_getChar_3b067_1 7 rfl
theorem dJ2_getChar_3b067_57 : decode cJ2_getChar_3b067 57 = .ok (.ior, 1) := dc_at daJ2_getChar_3b067_1 8 rfl
theorem dJ2_getChar_3b067_58 : decode cJ2_getChar_3b067 58 = .ok (.i2c, 1) := dc_at daJ2_getChar_3b067_1 9 rfl
theorem dJ2_getChar_3b067_59 : decode cJ2_getChar_3b067 59 = .ok (.ireturn, 1) := dc_at daJ2_getChar_3b067_1 10 rfl
def dlJ2_length_9d52b_0 : List (Nat × Jvm.ClassFile.Instr × Nat) := [(0, .aload_n 0, 1), (1, .arraylength, 1), (2, .iconst 1, 1), (3, .ishr, 1), (4, .ireturn, 1)]
theorem daJ2_length_9d52b_0 : dlJ2_length_9d52b_0.all (dcK cJ2_length_9d52b) = true := by decide +kernel
theorem dJ2_length_9d52b_0 : decode cJ2_length_9d52b 0 = .ok (.aload_n 0, 1) := dc_at daJ2_length_9d52b_0 0 rfl
theorem dJ2_length_9d52b_1 : decode cJ2_length_9d52b 1 = .ok (.arraylength, 1) := dc_at daJ2_length_9d52b_0 1 rfl
theorem dJ2_length_9d52b_2 : decode cJ2_length_9d52b 2 = .ok (.iconst 1, 1) := dc_at daJ2_length_9d52b_0 2 rfl
theorem dJ2_length_9d52b_3 : decode cJ2_length_9d52b 3 = .ok (.ishr, 1) := dc_at daJ2_length_9d52b_0 3 rfl
theorem dJ2_length_9d52b_4 : decode cJ2_length_9d52b 4 = .ok (.ireturn, 1) := dc_at daJ2_length_9d52b_0 4 rfl
def dlJ2_charAt_3b067_0 : List (Nat × Jvm.ClassFile.Instr × Nat) := [(0, .iload_n 1, 1), (1, .aload_n 0, 1), (2, .invokestatic 67, 3), (5, .aload_n 0, 1), (6, .iload_n 1, 1), (7, .invokestatic 71, 3), (10, .ireturn, 1)]
theorem daJ2_charAt_3b067_0 : dlJ2_charAt_3b067_0.all (dcK cJ2_charAt_3b067) = true := by decide +kernel
theorem dJ2_charAt_3b067_0 : decode cJ2_charAt_3b067 0 = .ok (.iload_n 1, 1) := dc_at daJ2_charAt_3b067_0 0 rfl
theorem dJ2_charAt_3b067_1 : decode cJ2_charAt_3b067 1 = .ok (.aload_n 0, 1) := dc_at daJ2_charAt_3b067_0 1 rfl
theorem dJ2_charAt_3b067_2 : decode cJ2_charAt_3b067 2 = .ok (.invokestatic 67, 3) := dc_at daJ2_charAt_3b067_0 2 rfl
theorem dJ2_charAt_3b067_5 : decode cJ2_charAt_3b067 5 = .ok (.aload_n 0, 1) := dc_at daJ2_charAt_3b067_0 3 rfl
theorem dJ2_charAt_3b067_6 : decode cJ2_charAt_3b067 6 = .ok (.iload_n 1, 1) := dc_at daJ2_charAt_3b067_0 4 rfl
theorem dJ2_charAt_3b067_7 : decode cJ2_charAt_3b067 7 = .ok (.invokestatic 71, 3) := dc_at daJ2_charAt_3b067_0 5 rfl
theorem dJ2_charAt_3b067_10 : decode cJ2_charAt_3b067 10 = .ok (.ireturn, 1) := dc_at daJ2_charAt_3b067_0 6 rfl
def dlJ2_checkIndex_2214a_0 : List (Nat × Jvm.ClassFile.Instr × Nat) := [(0, .iload_n 0, 1), (1, .aload_n 1, 1), (2, .invokestatic 48, 3), (5, .invokestatic 414, 3), (8, .return_, 1)]
theorem daJ2_checkIndex_2214a_0 : dlJ2_checkIndex_2214a_0.all (dcK cJ2_checkIndex_2214a) = true := by decide +kernel
theorem dJ2_checkIndex_2214a_0 : decode cJ2_checkIndex_2214a 0 = .ok (.iload_n 0, 1) := dc_at daJ2_checkIndex_2214a_0 0 rfl
theorem dJ2_checkIndex_2214a_1 : decode cJ2_checkIndex_2214a 1 = .ok (.aload_n 1, 1) := dc_at daJ2_checkIndex_2214a_0 1 rfl
theorem dJ2_checkIndex_2214a_2 : decode cJ2_checkIndex_2214a 2 = .ok (.invokestatic 48, 3) := dc_at daJ2_checkIndex_2214a_0 2 rfl
theorem dJ2_checkIndex_2214a_5 : decode cJ2_checkIndex_2214a 5 = .ok (.invokestatic 414, 3) := dc_at daJ2_checkIndex_2214a_0 3 rfl
theorem dJ2_checkIndex_2214a_8 : decode cJ2_checkIndex_2214a 8 = .ok (.return_, 1) := dc_at daJ2_checkIndex_2214a_0 4 rfl
def dlJ7_fill_d0a16_0 : List (Nat × Jvm.ClassFile.Instr × Nat) := [(0, .iconst 0, 1), (1, .istore_n 3, 1), (2, .aload_n 0, 1), (3, .arraylength, 1), (4, .istore 4, 2), (6, .iload_n 3, 1), (7, .iload 4, 2), (9, .if_icmp .ge 13, 3), (12, .aload_n 0, 1), (13, .iload_n 3, 1), (14, .lload_n 1, 1), (15, .lastore, 1), (16, .iinc 3 1, 3), (19, .goto (-13), 3), (22, .return_, 1)]
theorem daJ7_fill_d0a16_0 : dlJ7_fill_d0a16_0.all (dcK cJ7_fill_d0a16) = true := by decide +kernel
theorem dJ7_fill_d0a16_0 : decode cJ7_fill_d0a16 0 = .ok (.iconst 0, 1) := dc_at daJ7_fill_d0a16_0 0 rfl
theorem dJ7_fill_d0a16_1 : decode cJ7_fill_d0a16 1 = .ok (.istore_n 3, 1) := dc_at daJ7_fill_d0a16_0 1 rfl
theorem dJ7_fill_d0a16_2 : decode cJ7_fill_d0a16 2 = .ok (.aload_n 0, 1) := dc_at daJ7_fill_d0a16_0 2 rfl
theorem dJ7_fill_d0a16_3 : decode cJ7_fill_d0a16 3 = .ok (.arraylength, 1) := dc_at daJ7_fill_d0a16_0 3 rfl
theorem dJ7_fill_d0a16_4 : decode cJ7_fill_d0a16 4 = .ok (.istore 4, 2) := dc_at daJ7_fill_d0a16_0 4 rfl
theorem dJ7_fill_d0a16_6 : decode cJ7_fill_d0a16 6 = .ok (.iload_n 3, 1) := dc_at daJ7_fill_d0a16_0 5 rfl
theorem dJ7_fill_d0a16_7 : decode cJ7_fill_d0a16 7 = .ok (.iload 4, 2) := dc_at daJ7_fill_d0a16_0 6 rfl
theorem dJ7_fill_d0a16_9 : decode cJ7_fill_d0a16 9 = .ok (.if_icmp .ge 13, 3) := dc_at daJ7_fill_d0a16_0 7 rfl
theorem dJ7_fill_d0a16_12 : decode cJ7_fill_d0a16 12 = .ok (.aload_n 0, 1) := dc_at daJ7_fill_d0a16_0 8 rfl
theorem dJ7_fill_d0a16_13 : decode cJ7_fill_d0a16 13 = .ok (.iload_n 3, 1) := dc_at daJ7_fill_d0a16_0 9 rfl
theorem dJ7_fill_d0a16_14 : decode cJ7_fill_d0a16 14 = .ok (.lload_n 1, 1) := dc_at daJ7_fill_d0a16_0 10 rfl
theorem dJ7_fill_d0a16_15 : decode cJ7_fill_d0a16 15 = .ok (.lastore, 1) := dc_at daJ7_fill_d0a16_0 11 rfl
theorem dJ7_fill_d0a16_16 : decode cJ7_fill_d0a16 16 = .ok (.iinc 3 1, 3) := dc_at daJ7_fill_d0a16_0 12 rfl
theorem dJ7_fill_d0a16_19 : decode cJ7_fill_d0a16 19 = .ok (.goto (-13), 3) := dc_at daJ7_fill_d0a16_0 13 rfl
theorem dJ7_fill_d0a16_22 : decode cJ7_fill_d0a16 22 = .ok (.return_, 1) := dc_at daJ7_fill_d0a16_0 14 rfl
def dlJ7_fill_53178_0 : List (Nat × Jvm.ClassFile.Instr × Nat) := [(0, .iconst 0, 1), (1, .istore_n 2, 1), (2, .aload_n 0, 1), (3, .arraylength, 1), (4, .istore_n 3, 1), (5, .iload_n 2, 1), (6, .iload_n 3, 1), (7, .if_icmp .ge 13, 3), (10, .aload_n 0, 1), (11, .iload_n 2, 1), (12, .iload_n 1, 1), (13, .iastore, 1), (14, .iinc 2 1, 3), (17, .goto (-12), 3), (20, .return_, 1)]
theorem daJ7_fill_53178_0 : dlJ7_fill_53178_0.all (dcK cJ7_fill_53178) = true := by decide +kernel
theorem dJ7_fill_53178_0 : decode cJ7_fill_53178 0 = .ok (.iconst 0, 1) := dc_at daJ7_fill_53178_0 0 rfl
theorem dJ7_fill_53178_1 : decode cJ7_fill_53178 1 = .ok (.istore_n 2, 1) := dc_at daJ7_fill_53178_0 1 rfl
theorem dJ7_fill_53178_2 : decode cJ7_fill_53178 2 = .ok (.aload_n 0, 1) := dc_at daJ7_fill_53178_0 2 rfl
theorem dJ7_fill_53178_3 : decode cJ7_fill_53178 3 = .ok (.arraylength, 1) := dc_at daJ7_fill_53178_0 3 rfl
theorem dJ7_fill_53178_4 : decode cJ7_fill_53178 4 = .ok (.istore_n 3, 1) := dc_at daJ7_fill_53178_0 4 rfl
theorem dJ7_fill_53178_5 : decode cJ7_fill_53178 5 = .ok (.iload_n 2, 1) := dc_at daJ7_fill_53178_0 5 rfl
theorem dJ7_fill_53178_6 : decode cJ7_fill_53178 6 = .ok (.iload_n 3, 1) := dc_at daJ7_fill_53178_0 6 rfl
theorem dJ7_fill_53178_7 : decode cJ7_fill_53178 7 = .ok (.if_icmp .ge 13, 3) := dc_at daJ7_fill_53178_0 7 rfl
theorem dJ7_fill_53178_10 : decode cJ7_fill_53178 10 = .ok (.aload_n 0, 1) := dc_at daJ7_fill_53178_0 8 rfl
theorem dJ7_fill_53178_11 : decode cJ7_fill_53178 11 = .ok (.iload_n 2, 1) := dc_at daJ7_fill_53178_0 9 rfl
theorem dJ7_fill_53178_12 : decode cJ7_fill_53178 12 = .ok (.iload_n 1, 1) := dc_at daJ7_fill_53178_0 10 rfl
theorem dJ7_fill_53178_13 : decode cJ7_fill_53178 13 = .ok (.iastore, 1) := dc_at daJ7_fill_53178_0 11 rfl
theorem dJ7_fill_53178_14 : decode cJ7_fill_53178 14 = .ok (.iinc 2 1, 3) := dc_at daJ7_fill_53178_0 12 rfl
theorem dJ7_fill_53178_17 : decode cJ7_fill_53178 17 = .ok (.goto (-12), 3) := dc_at daJ7_fill_53178_0 13 rfl
theorem dJ7_fill_53178_20 : decode cJ7_fill_53178 20 = .ok (.return_, 1) := dc_at daJ7_fill_53178_0 14 rfl
def dlJ3_checkIndex_8e157_0 : List (Nat × Jvm.ClassFile.Instr × Nat) := [(0, .iload_n 0, 1), (1, .ifCond .lt 8, 3), (4, .iload_n 0, 1), (5, .iload_n 1, 1), (6, .if_icmp .lt 10, 3), (9, .aload_n 2, 1), (10, .iload_n 0, 1), (11, .iload_n 1, 1), (12, .invokestatic 95, 3), (15, .athrow, 1), (16, .iload_n 0, 1), (17, .ireturn, 1)]
theorem daJ3_checkIndex_8e157_0 : dlJ3_checkIndex_8e157_0.all (dcK cJ3_checkIndex_8e157) = true := by decide +kernel
theorem dJ3_checkIndex_8e157_0 : decode cJ3_checkIndex_8e157 0 = .ok (.iload_n 0, 1) := dc_at daJ3_checkIndex_8e157_0 0 rfl
theorem dJ3_checkIndex_8e157_1 : decode cJ3_checkIndex_8e157 1 = .ok (.ifCond .lt 8, 3) := dc_at daJ3_checkIndex_8e157_0 1 rfl
theorem dJ3_checkIndex_8e157_4 : decode cJ3_checkIndex_8e157 4 = .ok (.iload_n 0, 1) := dc_at daJ3_checkIndex_8e157_0 2 rfl
theorem dJ3_checkIndex_8e157_5 : decode cJ3_checkIndex_8e157 5 = .ok (.iload_n 1, 1) := dc_at daJ3_checkIndex_8e157_0 3 rfl
theorem dJ3_checkIndex_8e157_6 : decode cJ3_checkIndex_8e157 6 = .ok (.if_icmp .lt 10, 3) := dc_at daJ3_checkIndex_8e157_0 4 rfl
theorem dJ3_checkIndex_8e157_9 : decode cJ3_checkIndex_8e157 9 = .ok (.aload_n 2, 1) := dc_at daJ3_checkIndex_8e157_0 5 rfl
theorem dJ3_checkIndex_8e157_10 : decode cJ3_checkIndex_8e157 10 = .ok (.iload_n 0, 1) := dc_at daJ3_checkIndex_8e157_0 6 rfl
theorem dJ3_checkIndex_8e157_11 : decode cJ3_checkIndex_8e157 11 = .ok (.iload_n 1, 1) := dc_at daJ3_checkIndex_8e157_0 7 rfl
theorem dJ3_checkIndex_8e157_12 : decode cJ3_checkIndex_8e157 12 = .ok (.invokestatic 95, 3) := dc_at daJ3_checkIndex_8e157_0 8 rfl
theorem dJ3_checkIndex_8e157_15 : decode cJ3_checkIndex_8e157 15 = .ok (.athrow, 1) := dc_at daJ3_checkIndex_8e157_0 9 rfl
theorem dJ3_checkIndex_8e157_16 : decode cJ3_checkIndex_8e157 16 = .ok (.iload_n 0, 1) := dc_at daJ3_checkIndex_8e157_0 10 rfl
theorem dJ3_checkIndex_8e157_17 : decode cJ3_checkIndex_8e157 17 = .ok (.ireturn, 1) := dc_at daJ3_checkIndex_8e157_0 11 rfl
def dlL_law_0 : List (Nat × Jvm.ClassFile.Instr × Nat) := [(0, .new 7, 3), (3, .dup, 1), (4, .invokespecial 9, 3), (7, .astore_n 1, 1), (8, .new 10, 3), (11, .dup, 1), (12, .invokespecial 12, 3), (15, .astore_n 2, 1), (16, .iconst 0, 1), (17, .istore_n 3, 1), (18, .iload_n 3, 1), (19, .aload_n 0, 1), (20, .arraylength, 1), (21, .bipush 6, 2), (23, .isub, 1), (24, .if_icmp .gt 1436, 3), (27, .aload_n 0, 1), (28, .iload_n 3, 1), (29, .iaload, 1), (30, .bipush 63, 2), (32, .iand, 1), (33, .tableswitch 1421 0 39 #[175, 238, 261, 284, 317, 350, 383, 406, 429, 462, 511, 534, 557, 580, 613, 636, 659, 692, 735, 768, 801, 834, 877, 910, 943, 976, 999, 1012, 1035, 1058, 1081, 1114, 1147, 1180, 1213, 1256, 1329, 1352, 1375, 1398], 175), (208, .aload_n 1, 1), (209, .aload_n 0, 1)]
theorem daL_law_0 : dlL_law_0.all (dcK cL_law) = true := by decide +kernel
theorem dL_law_0 : decode cL_law 0 = .ok (.new 7, 3) := dc_at daL_law_0 0 rfl
theorem dL_law_3 : decode cL_law 3 = .ok (.dup, 1) := dc_at daL_law_0 1 rfl
theorem dL_law_4 : decode cL_law 4 = .ok (.invokespecial 9, 3) := dc_at daL_law_0 2 rfl
theorem dL_law_7 : decode cL_law 7 = .ok (.astore_n 1, 1) := dc_at daL_law_0 3 rfl
theorem dL_law_8 : decode cL_law 8 = .ok (.new 10, 3) := dc_at daL_law_0 4 rfl
theorem dL_law_11 : decode cL_law 11 = .ok (.dup, 1) := dc_at daL_law_0 5 rfl
theorem dL_law_12 : decode cL_law 12 = .ok (.invokespecial 12, 3) := dc_at daL_law_0 6 rfl
theorem dL_law_15 : decode cL_law 15 = .ok (.astore_n 2, 1) := dc_at daL_law_0 7 rfl
theorem dL_law_16 : decode cL_law 16 = .ok (.iconst 0, 1) := dc_at daL_law_0 8 rfl
theorem dL_law_17 : decode cL_law 17 = .ok (.istore_n 3, 1) := dc_at daL_law_0 9 rfl
theorem dL_law_18 : decode cL_law 18 = .ok (.iload_n 3, 1) := dc_at daL_law_0 10 rfl
theorem dL_law_19 : decode cL_law 19 = .ok (.aload_n 0, 1) := dc_at daL_law_0 11 rfl
theorem dL_law_20 : decode cL_law 20 = .ok (.arraylength, 1) := dc_at daL_law_0 12 rfl
theorem dL_law_21 : decode cL_law 21 = .ok (.bipush 6, 2) := dc_at daL_law_0 13 rfl
theorem dL_law_23 : decode cL_law 23 = .ok (.isub, 1) := dc_at daL_law_0 14 rfl
theorem dL_law_24 : decode cL_law 24 = .ok (.if_icmp .gt 1436, 3) := dc_at daL_law_0 15 rfl
theorem dL_law_27 : decode cL_law 27 = .ok (.aload_n 0, 1) := dc_at daL_law_0 16 rfl
theorem dL_law_28 : decode cL_law 28 = .ok (.iload_n 3, 1) := dc_at daL_law_0 17 rfl
theorem dL_law_29 : decode cL_law 29 = .ok (.iaload, 1) := dc_at daL_law_0 18 rfl
theorem dL_law_30 : decode cL_law 30 = .ok (.bipush 63, 2) := dc_at daL_law_0 19 rfl
theorem dL_law_32 : decode cL_law 32 = .ok (.iand, 1) := dc_at daL_law_0 20 rfl
theorem dL_law_33 : decode cL_law 33 = .ok (.tableswitch 1421 0 39 #[175, 238, 261, 284, 317, 350, 383, 406, 429, 462, 511, 534, 557, 580, 613, 636, 659, 692, 735, 768, 801, 834, 877, 910, 943, 976, 999, 1012, 1035, 1058, 1081, 1114, 1147, 1180, 1213, 1256, 1329, 1352, 1375, 1398], 175) := dc_at daL_law_0 21 rfl
theorem dL_law_208 : decode cL_law 208 = .ok (.aload_n 1, 1) := dc_at daL_law_0 22 rfl
theorem dL_law_209 : decode cL_law 209 = .ok (.aload_n 0, 1) := dc_at daL_law_0 23 rfl
def dlL_law_1 : List (Nat × Jvm.ClassFile.Instr × Nat) := [(210, .iload_n 3, 1), (211, .iconst 1, 1), (212, .iadd, 1), (213, .iaload, 1), (214, .aload_n 0, 1), (215, .iload_n 3, 1), (216, .iconst 2, 1), (217, .iadd, 1), (218, .iaload, 1), (219, .aload_n 0, 1), (220, .iload_n 3, 1), (221, .iconst 3, 1), (222, .iadd, 1), (223, .iaload, 1), (224, .aload_n 0, 1), (225, .iload_n 3, 1), (226, .iconst 4, 1), (227, .iadd, 1), (228, .iaload, 1), (229, .aload_n 0, 1), (230, .iload_n 3, 1), (231, .iconst 5, 1), (232, .iadd, 1), (233, .iaload, 1)]
theorem daL_law_1 : dlL_law_1.all (dcK cL_law) = true := by decide +kernel
theorem dL_law_210 : decode cL_law 210 = .ok (.iload_n 3, 1) := dc_at daL_law_1 0 rfl
theorem dL_law_211 : decode cL_law 211 = .ok (.iconst 1, 1) := dc_at daL_law_1 1 rfl
theorem dL_law_212 : decode cL_law 212 = .ok (.iadd, 1) := dc_at daL_law_1 2 rfl
theorem dL_law_213 : decode cL_law 213 = .ok (.iaload, 1) := dc_at daL_law_1 3 rfl
theorem dL_law_214 : decode cL_law 214 = .ok (.aload_n 0, 1) := dc_at daL_law_1 4 rfl
theorem dL_law_215 : decode cL_law 215 = .ok (.iload_n 3, 1) := dc_at daL_law_1 5 rfl
theorem dL_law_216 : decode cL_law 216 = .ok (.iconst 2, 1) := dc_at daL_law_1 6 rfl
theorem dL_law_217 : decode cL_law 217 = .ok (.iadd, 1) := dc_at daL_law_1 7 rfl
theorem dL_law_218 : decode cL_law 218 = .ok (.iaload, 1) := dc_at daL_law_1 8 rfl
theorem dL_law_219 : decode cL_law 219 = .ok (.aload_n 0, 1) := dc_at daL_law_1 9 rfl
theorem dL_law_220 : decode cL_law 220 = .ok (.iload_n 3, 1) := dc_at daL_law_1 10 rfl
theorem dL_law_221 : decode cL_law 221 = .ok (.iconst 3, 1) := dc_at daL_law_1 11 rfl
theorem dL_law_222 : decode cL_law 222 = .ok (.iadd, 1) := dc_at daL_law_1 12 rfl
theorem dL_law_223 : decode cL_law 223 = .ok (.iaload, 1) := dc_at daL_law_1 13 rfl
theorem dL_law_224 : decode cL_law 224 = .ok (.aload_n 0, 1) := dc_at daL_law_1 14 rfl
theorem dL_law_225 : decode cL_law 225 = .ok (.iload_n 3, 1) := dc_at daL_law_1 15 rfl
theorem dL_law_226 : decode cL_law 226 = .ok (.iconst 4, 1) := dc_at daL_law_1 16 rfl
theorem dL_law_227 : decode cL_law 227 = .ok (.iadd, 1) := dc_at daL_law_1 17 rfl
theorem dL_law_228 : decode cL_law 228 = .ok (.iaload, 1) := dc_at daL_law_1 18 rfl
theorem dL_law_229 : decode cL_law 229 = .ok (.aload_n 0, 1) := dc_at daL_law_1 19 rfl
theorem dL_law_230 : decode cL_law 230 = .ok (.iload_n 3, 1) := dc_at daL_law_1 20 rfl
theorem dL_law_231 : decode cL_law 231 = .ok (.iconst 5, 1) := dc_at daL_law_1 21 rfl
theorem dL_law_232 : decode cL_law 232 = .ok (.iadd, 1) := dc_at daL_law_1 22 rfl
theorem dL_law_233 : decode cL_law 233 = .ok (.iaload, 1) := dc_at daL_law_1 23 rfl
def dlL_law_2 : List (Nat × Jvm.ClassFile.Instr × Nat) := [(234, .invokevirtual 13, 3), (237, .pop, 1), (238, .aload_n 2, 1), (239, .aload_n 0, 1), (240, .iload_n 3, 1), (241, .iconst 1, 1), (242, .iadd, 1), (243, .iaload, 1), (244, .aload_n 0, 1), (245, .iload_n 3, 1), (246, .iconst 2, 1), (247, .iadd, 1), (248, .iaload, 1), (249, .aload_n 0, 1), (250, .iload_n 3, 1), (251, .iconst 3, 1), (252, .iadd, 1), (253, .iaload, 1), (254, .aload_n 0, 1), (255, .iload_n 3, 1), (256, .iconst 4, 1), (257, .iadd, 1), (258, .iaload, 1), (259, .aload_n 0, 1)]
theorem daL_law_2 : dlL_law_2.all (dcK cL_law) = true := by decide +kernel
theorem dL_law_234 : decode cL_law 234 = .ok (.invokevirtual 13, 3) := dc_at daL_law_2 0 rfl
theorem dL_law_237 : decode cL_law 237 = .ok (.pop, 1) := dc_at daL_law_2 1 rfl
theorem dL_law_238 : decode cL_law 238 = .ok (.aload_n 2, 1) := dc_at daL_law_2 2 rfl
theorem dL_law_239 : decode cL_law 239 = .ok (.aload_n 0, 1) := dc_at daL_law_2 3 rfl
theorem dL_law_240 : decode cL_law 240 = .ok (.iload_n 3, 1) := dc_at daL_law_2 4 rfl
theorem dL_law_241 : decode cL_law 241 = .ok (.iconst 1, 1) := dc_at daL_law_2 5 rfl
theorem dL_law_242 : decode cL_law 242 = .ok (.iadd, 1) := dc_at daL_law_2 6 rfl
theorem dL_law_243 : decode cL_law 243 = .ok (.iaload, 1) := dc_at daL_law_2 7 rfl
theorem dL_law_244 : decode cL_law 244 = .ok (.aload_n 0, 1) := dc_at daL_law_2 8 rfl
theorem dL_law_245 : decode cL_law 245 = .ok (.iload_n 3, 1) := dc_at daL_law_2 9 rfl
theorem dL_law_246 : decode cL_law 246 = .ok (.iconst 2, 1) := dc_at daL_law_2 10 rfl
theorem dL_law_247 : decode cL_law 247 = .ok (.iadd, 1) := dc_at daL_law_2 11 rfl
theorem dL_law_248 : decode cL_law 248 = .ok (.iaload, 1) := dc_at daL_law_2 12 rfl
theorem dL_law_249 : decode cL_law 249 = .ok (.aload_n 0, 1) := dc_at daL_law_2 13 rfl
theorem dL_law_250 : decode cL_law 250 = .ok (.iload_n 3, 1) := dc_at daL_law_2 14 rfl
theorem dL_law_251 : decode cL_law 251 = .ok (.iconst 3, 1) := dc_at daL_law_2 15 rfl
theorem dL_law_252 : decode cL_law 252 = .ok (.iadd, 1) := dc_at daL_law_2 16 rfl
theorem dL_law_253 : decode cL_law 253 = .ok (.iaload, 1) := dc_at daL_law_2 17 rfl
theorem dL_law_254 : decode cL_law 254 = .ok (.aload_n 0, 1) := dc_at daL_law_2 18 rfl
theorem dL_law_255 : decode cL_law 255 = .ok (.iload_n 3, 1) := dc_at daL_law_2 19 rfl
theorem dL_law_256 : decode cL_law 256 = .ok (.iconst 4, 1) := dc_at daL_law_2 20 rfl
theorem dL_law_257 : decode cL_law 257 = .ok (.iadd, 1) := dc_at daL_law_2 21 rfl
theorem dL_law_258 : decode cL_law 258 = .ok (.iaload, 1) := dc_at daL_law_2 22 rfl
theorem dL_law_259 : decode cL_law 259 = .ok (.aload_n 0, 1) := dc_at daL_law_2 23 rfl
def dlL_law_3 : List (Nat × Jvm.ClassFile.Instr × Nat) := [(260, .iload_n 3, 1), (261, .iconst 5, 1), (262, .iadd, 1), (263, .iaload, 1), (264, .invokevirtual 17, 3), (267, .pop, 1), (268, .goto 1186, 3), (271, .aload_n 1, 1), (272, .aload_n 0, 1), (273, .iload_n 3, 1), (274, .iconst 1, 1), (275, .iadd, 1), (276, .iaload, 1), (277, .invokevirtual 18, 3), (280, .pop, 1), (281, .aload_n 2, 1), (282, .aload_n 0, 1), (283, .iload_n 3, 1), (284, .iconst 1, 1), (285, .iadd, 1), (286, .iaload, 1), (287, .invokevirtual 22, 3), (290, .pop, 1), (291, .goto 1163, 3)]
theorem daL_law_3 : dlL_law_3.all (dcK cL_law) = true := by decide +kernel
theorem dL_law_260 : decode cL_law 260 = .ok (.iload_n 3, 1) := dc_at daL_law_3 0 rfl
theorem dL_law_261 : decode cL_law 261 = .ok (.iconst 5, 1) := dc_at daL_law_3 1 rfl
theorem dL_law_262 : decode cL_law 262 = .ok (.iadd, 1) := dc_at daL_law_3 2 rfl
theorem dL_law_263 : decode cL_law 263 = .ok (.iaload, 1) := dc_at daL_law_3 3 rfl
theorem dL_law_264 : decode cL_law 264 = .ok (.invokevirtual 17, 3) := dc_at daL_law_3 4 rfl
theorem dL_law_267 : decode cL_law 267 = .ok (.pop, 1) := dc_at daL_law_3 5 rfl
theorem dL_law_268 : decode cL_law 268 = .ok (.goto 1186, 3) := dc_at daL_law_3 6 rfl
theorem dL_law_271 : decode cL_law 271 = .ok (.aload_n 1, 1) := dc_at daL_law_3 7 rfl
theorem dL_law_272 : decode cL_law 272 = .ok (.aload_n 0, 1) := dc_at daL_law_3 8 rfl
theorem dL_law_273 : decode cL_law 273 = .ok (.iload_n 3, 1) := dc_at daL_law_3 9 rfl
theorem dL_law_274 : decode cL_law 274 = .ok (.iconst 1, 1) := dc_at daL_law_3 10 rfl
theorem dL_law_275 : decode cL_law 275 = .ok (.iadd, 1) := dc_at daL_law_3 11 rfl
theorem dL_law_276 : decode cL_law 276 = .ok (.iaload, 1) := dc_at daL_law_3 12 rfl
theorem dL_law_277 : decode cL_law 277 = .ok (.invokevirtual 18, 3) := dc_at daL_law_3 13 rfl
theorem dL_law_280 : decode cL_law 280 = .ok (.pop, 1) := dc_at daL_law_3 14 rfl
theorem dL_law_281 : decode cL_law 281 = .ok (.aload_n 2, 1) := dc_at daL_law_3 15 rfl
theorem dL_law_282 : decode cL_law 282 = .ok (.aload_n 0, 1) := dc_at daL_law_3 16 rfl
theorem dL_law_283 : decode cL_law 283 = .ok (.iload_n 3, 1) := dc_at daL_law_3 17 rfl
theorem dL_law_284 : decode cL_law 284 = .ok (.iconst 1, 1) := dc_at daL_law_3 18 rfl
theorem dL_law_285 : decode cL_law 285 = .ok (.iadd, 1) := dc_at daL_law_3 19 rfl
theorem dL_law_286 : decode cL_law 286 = .ok (.iaload, 1) := dc_at daL_law_3 20 rfl
theorem dL_law_287 : decode cL_law 287 = .ok (.invokevirtual 22, 3) := dc_at daL_law_3 21 rfl
theorem dL_law_290 : decode cL_law 290 = .ok (.pop, 1) := dc_at daL_law_3 22 rfl
theorem dL_law_291 : decode cL_law 291 = .ok (.goto 1163, 3) := dc_at daL_law_3 23 rfl
def dlL_law_4 : List (Nat × Jvm.ClassFile.Instr × Nat) := [(294, .aload_n 1, 1), (295, .aload_n 0, 1), (296, .iload_n 3, 1), (297, .iconst 1, 1), (298, .iadd, 1), (299, .iaload, 1), (300, .invokevirtual 23, 3), (303, .pop, 1), (304, .aload_n 2, 1), (305, .aload_n 0, 1), (306, .iload_n 3, 1), (307, .iconst 1, 1), (308, .iadd, 1), (309, .iaload, 1), (310, .invokevirtual 26, 3), (313, .pop, 1), (314, .goto 1140, 3), (317, .aload_n 1, 1), (318, .aload_n 0, 1), (319, .iload_n 3, 1), (320, .iconst 1, 1), (321, .iadd, 1), (322, .iaload, 1), (323, .aload_n 0, 1)]
theorem daL_law_4 : dlL_law_4.all (dcK cL_law) = true := by decide +kernel
theorem dL_law_294 : decode cL_law 294 = .ok (.aload_n 1, 1) := dc_at daL_law_4 0 rfl
theorem dL_law_295 : decode cL_law 295 = .ok (.aload_n 0, 1) := dc_at daL_law_4 1 rfl
theorem dL_law_296 : decode cL_law 296 = .ok (.iload_n 3, 1) := dc_at daL_law_4 2 rfl
theorem dL_law_297 : decode cL_law 297 = .ok (.iconst 1, 1) := dc_at daL_law_4 3 rfl
theorem dL_law_298 : decode cL_law 298 = .ok (.iadd, 1) := dc_at daL_law_4 4 rfl
theorem dL_law_299 : decode cL_law 299 = .ok (.iaload, 1) := dc_at daL_law_4 5 rfl
theorem dL_law_300 : decode cL_law 300 = .ok (.invokevirtual 23, 3) := dc_at daL_law_4 6 rfl
theorem dL_law_303 : decode cL_law 303 = .ok (.pop, 1) := dc_at daL_law_4 7 rfl
theorem dL_law_304 : decode cL_law 304 = .ok (.aload_n 2, 1) := dc_at daL_law_4 8 rfl
theorem dL_law_305 : decode cL_law 305 = .ok (.aload_n 0, 1) := dc_at daL_law_4 9 rfl
theorem dL_law_306 : decode cL_law 306 = .ok (.iload_n 3, 1) := dc_at daL_law_4 10 rfl
theorem dL_law_307 : decode cL_law 307 = .ok (.iconst 1, 1) := dc_at daL_law_4 11 rfl
theorem dL_law_308 : decode cL_law 308 = .ok (.iadd, 1) := dc_at daL_law_4 12 rfl
theorem dL_law_309 : decode cL_law 309 = .ok (.iaload, 1) := dc_at daL_law_4 13 rfl
theorem dL_law_310 : decode cL_law 310 = .ok (.invokevirtual 26, 3) := dc_at daL_law_4 14 rfl
theorem dL_law_313 : decode cL_law 313 = .ok (.pop, 1) := dc_at daL_law_4 15 rfl
theorem dL_law_314 : decode cL_law 314 = .ok (.goto 1140, 3) := dc_at daL_law_4 16 rfl
theorem dL_law_317 : decode cL_law 317 = .ok (.aload_n 1, 1) := dc_at daL_law_4 17 rfl
theorem dL_law_318 : decode cL_law 318 = .ok (.aload_n 0, 1) := dc_at daL_law_4 18 rfl
theorem dL_law_319 : decode cL_law 319 = .ok (.iload_n 3, 1) := dc_at daL_law_4 19 rfl
theorem dL_law_320 : decode cL_law 320 = .ok (.iconst 1, 1) := dc_at daL_law_4 20 rfl
theorem dL_law_321 : decode cL_law 321 = .ok (.iadd, 1) := dc_at daL_law_4 21 rfl
theorem dL_law_322 : decode cL_law 322 = .ok (.iaload, 1) := dc_at daL_law_4 22 rfl
theorem dL_law_323 : decode cL_law 323 = .ok (.aload_n 0, 1) := dc_at daL_law_4 23 rfl
def dlL_law_5 : List (Nat × Jvm.ClassFile.Instr × Nat) := [(324, .iload_n 3, 1), (325, .iconst 2, 1), (326, .iadd, 1), (327, .iaload, 1), (328, .invokevirtual 27, 3), (331, .pop, 1), (332, .aload_n 2, 1), (333, .aload_n 0, 1), (334, .iload_n 3, 1), (335, .iconst 1, 1), (336, .iadd, 1), (337, .iaload, 1), (338, .aload_n 0, 1), (339, .iload_n 3, 1), (340, .iconst 2, 1), (341, .iadd, 1), (342, .iaload, 1), (343, .invokevirtual 31, 3), (346, .pop, 1), (347, .goto 1107, 3), (350, .aload_n 1, 1), (351, .aload_n 0, 1), (352, .iload_n 3, 1), (353, .iconst 1, 1)]
theorem daL_law_5 : dlL_law_5.all (dcK cL_law) = true := by decide +kernel
theorem dL_law_324 : decode cL_law 324 = .ok (.iload_n 3, 1) := dc_at daL_law_5 0 rfl
theorem dL_law_325 : decode cL_law 325 = .ok (.iconst 2, 1) := dc_at daL_law_5 1 rfl
theorem dL_law_326 : decode cL_law 326 = .ok (.iadd, 1) := dc_at daL_law_5 2 rfl
theorem dL_law_327 : decode cL_law 327 = .ok (.iaload, 1) := dc_at daL_law_5 3 rfl
theorem dL_law_328 : decode cL_law 328 = .ok (.invokevirtual 27, 3) := dc_at daL_law_5 4 rfl
theorem dL_law_331 : decode cL_law 331 = .ok (.pop, 1) := dc_at daL_law_5 5 rfl
theorem dL_law_332 : decode cL_law 332 = .ok (.aload_n 2, 1) := dc_at daL_law_5 6 rfl
theorem dL_law_333 : decode cL_law 333 = .ok (.aload_n 0, 1) := dc_at daL_law_5 7 rfl
theorem dL_law_334 : decode cL_law 334 = .ok (.iload_n 3, 1) := dc_at daL_law_5 8 rfl
theorem dL_law_335 : decode cL_law 335 = .ok (.iconst 1, 1) := dc_at daL_law_5 9 rfl
theorem dL_law_336 : decode cL_law 336 = .ok (.iadd, 1) := dc_at daL_law_5 10 rfl
theorem dL_law_337 : decode cL_law 337 = .ok (.iaload, 1) := dc_at daL_law_5 11 rfl
theorem dL_law_338 : decode cL_law 338 = .ok (.aload_n 0, 1) := dc_at daL_law_5 12 rfl
theorem dL_law_339 : decode cL_law 339 = .ok (.iload_n 3, 1) := dc_at daL_law_5 13 rfl
theorem dL_law_340 : decode cL_law 340 = .ok (.iconst 2, 1) := dc_at daL_law_5 14 rfl
theorem dL_law_341 : decode cL_law 341 = .ok (.iadd, 1) := dc_at daL_law_5 15 rfl
theorem dL_law_342 : decode cL_law 342 = .ok (.iaload, 1) := dc_at daL_law_5 16 rfl
theorem dL_law_343 : decode cL_law 343 = .ok (.invokevirtual 31, 3) := dc_at daL_law_5 17 rfl
theorem dL_law_346 : decode cL_law 346 = .ok (.pop, 1) := dc_at daL_law_5 18 rfl
theorem dL_law_347 : decode cL_law 347 = .ok (.goto 1107, 3) := dc_at daL_law_5 19 rfl
theorem dL_law_350 : decode cL_law 350 = .ok (.aload_n 1, 1) := dc_at daL_law_5 20 rfl
theorem dL_law_351 : decode cL_law 351 = .ok (.aload_n 0, 1) := dc_at daL_law_5 21 rfl
theorem dL_law_352 : decode cL_law 352 = .ok (.iload_n 3, 1) := dc_at daL_law_5 22 rfl
theorem dL_law_353 : decode cL_law 353 = .ok (.iconst 1, 1) := dc_at daL_law_5 23 rfl
def dlL_law_6 : List (Nat × Jvm.ClassFile.Instr × Nat) := [(354, .iadd, 1), (355, .iaload, 1), (356, .aload_n 0, 1), (357, .iload_n 3, 1), (358, .iconst 2, 1), (359, .iadd, 1), (360, .iaload, 1), (361, .invokevirtual 32, 3), (364, .pop, 1), (365, .aload_n 2, 1), (366, .aload_n 0, 1), (367, .iload_n 3, 1), (368, .iconst 1, 1), (369, .iadd, 1), (370, .iaload, 1), (371, .aload_n 0, 1), (372, .iload_n 3, 1), (373, .iconst 2, 1), (374, .iadd, 1), (375, .iaload, 1), (376, .invokevirtual 35, 3), (379, .pop, 1), (380, .goto 1074, 3), (383, .aload_n 1, 1)]
theorem daL_law_6 : dlL_law_6.all (dcK cL_law) = true := by decide +kernel
theorem dL_law_354 : decode cL_law 354 = .ok (.iadd, 1) := dc_at daL_law_6 0 rfl
theorem dL_law_355 : decode cL_law 355 = .ok (.iaload, 1) := dc_at daL_law_6 1 rfl
theorem dL_law_356 : decode cL_law 356 = .ok (.aload_n 0, 1) := dc_at daL_law_6 2 rfl
theorem dL_law_357 : decode cL_law 357 = .ok (.iload_n 3, 1) := dc_at daL_law_6 3 rfl
theorem dL_law_358 : decode cL_law 358 = .ok (.iconst 2, 1) := dc_at daL_law_6 4 rfl
theorem dL_law_359 : decode cL_law 359 = .ok (.iadd, 1) := dc_at daL_law_6 5 rfl
theorem dL_law_360 : decode cL_law 360 = .ok (.iaload, 1) := dc_at daL_law_6 6 rfl
theorem dL_law_361 : decode cL_law 361 = .ok (.invokevirtual 32, 3) := dc_at daL_law_6 7 rfl
theorem dL_law_364 : decode cL_law 364 = .ok (.pop, 1) := dc_at daL_law_6 8 rfl
theorem dL_law_365 : decode cL_law 365 = .ok (.aload_n 2, 1) := dc_at daL_law_6 9 rfl
theorem dL_law_366 : decode cL_law 366 = .ok (.aload_n 0, 1) := dc_at daL_law_6 10 rfl
theorem dL_law_367 : decode cL_law 367 = .ok (.iload_n 3, 1) := dc_at daL_law_6 11 rfl
theorem dL_law_368 : decode cL_law 368 = .ok (.iconst 1, 1) := dc_at daL_law_6 12 rfl
theorem dL_law_369 : decode cL_law 369 = .ok (.iadd, 1) := dc_at daL_law_6 13 rfl
theorem dL_law_370 : decode cL_law 370 = .ok (.iaload, 1) := dc_at daL_law_6 14 rfl
theorem dL_law_371 : decode cL_law 371 = .ok (.aload_n 0, 1) := dc_at daL_law_6 15 rfl
theorem dL_law_372 : decode cL_law 372 = .ok (.iload_n 3, 1) := dc_at daL_law_6 16 rfl
theorem dL_law_373 : decode cL_law 373 = .ok (.iconst 2, 1) := dc_at daL_law_6 17 rfl
theorem dL_law_374 : decode cL_law 374 = .ok (.iadd, 1) := dc_at daL_law_6 18 rfl
theorem dL_law_375 : decode cL_law 375 = .ok (.iaload, 1) := dc_at daL_law_6 19 rfl
theorem dL_law_376 : decode cL_law 376 = .ok (.invokevirtual 35, 3) := dc_at daL_law_6 20 rfl
theorem dL_law_379 : decode cL_law 379 = .ok (.pop, 1) := dc_at daL_law_6 21 rfl
theorem dL_law_380 : decode cL_law 380 = .ok (.goto 1074, 3) := dc_at daL_law_6 22 rfl
theorem dL_law_383 : decode cL_law 383 = .ok (.aload_n 1, 1) := dc_at daL_law_6 23 rfl
def dlL_law_7 : List (Nat × Jvm.ClassFile.Instr × Nat) := [(384, .aload_n 0, 1), (385, .iload_n 3, 1), (386, .iconst 1, 1), (387, .iadd, 1), (388, .iaload, 1), (389, .aload_n 0, 1), (390, .iload_n 3, 1), (391, .iconst 2, 1), (392, .iadd, 1), (393, .iaload, 1), (394, .invokevirtual 36, 3), (397, .pop, 1), (398, .aload_n 2, 1), (399, .aload_n 0, 1), (400, .iload_n 3, 1), (401, .iconst 1, 1), (402, .iadd, 1), (403, .iaload, 1), (404, .aload_n 0, 1), (405, .iload_n 3, 1), (406, .iconst 2, 1), (407, .iadd, 1), (408, .iaload, 1), (409, .invokevirtual 39, 3)]
theorem daL_law_7 : dlL_law_7.all (dcK cL_law) = true := by decide +kernel
theorem dL_law_384 : decode cL_law 384 = .ok (.aload_n 0, 1) := dc_at daL_law_7 0 rfl
theorem dL_law_385 : decode cL_law 385 = .ok (.iload_n 3, 1) := dc_at daL_law_7 1 rfl
theorem dL_law_386 : decode cL_law 386 = .ok (.iconst 1, 1) := dc_at daL_law_7 2 rfl
theorem dL_law_387 : decode cL_law 387 = .ok (.iadd, 1) := dc_at daL_law_7 3 rfl
theorem dL_law_388 : decode cL_law 388 = .ok (.iaload, 1) := dc_at daL_law_7 4 rfl
theorem dL_law_389 : decode cL_law 389 = .ok (.aload_n 0, 1) := dc_at daL_law_7 5 rfl
theorem dL_law_390 : decode cL_law 390 = .ok (.iload_n 3, 1) := dc_at daL_law_7 6 rfl
theorem dL_law_391 : decode cL_law 391 = .ok (.iconst 2, 1) := dc_at daL_law_7 7 rfl
theorem dL_law_392 : decode cL_law 392 = .ok (.iadd, 1) := dc_at daL_law_7 8 rfl
theorem dL_law_393 : decode cL_law 393 = .ok (.iaload, 1) := dc_at daL_law_7 9 rfl
theorem dL_law_394 : decode cL_law 394 = .ok (.invokevirtual 36, 3) := dc_at daL_law_7 10 rfl
theorem dL_law_397 : decode cL_law 397 = .ok (.pop, 1) := dc_at daL_law_7 11 rfl
theorem dL_law_398 : decode cL_law 398 = .ok (.aload_n 2, 1) := dc_at daL_law_7 12 rfl
theorem dL_law_399 : decode cL_law 399 = .ok (.aload_n 0, 1) := dc_at daL_law_7 13 rfl
theorem dL_law_400 : decode cL_law 400 = .ok (.iload_n 3, 1) := dc_at daL_law_7 14 rfl
theorem dL_law_401 : decode cL_law 401 = .ok (.iconst 1, 1) := dc_at daL_law_7 15 rfl
theorem dL_law_402 : decode cL_law 402 = .ok (.iadd, 1) := dc_at daL_law_7 16 rfl
theorem dL_law_403 : decode cL_law 403 = .ok (.iaload, 1) := dc_at daL_law_7 17 rfl
theorem dL_law_404 : decode cL_law 404 = .ok (.aload_n 0, 1) := dc_at daL_law_7 18 rfl
theorem dL_law_405 : decode cL_law 405 = .ok (.iload_n 3, 1) := dc_at daL_law_7 19 rfl
theorem dL_law_406 : decode cL_law 406 = .ok (.iconst 2, 1) := dc_at daL_law_7 20 rfl
theorem dL_law_407 : decode cL_law 407 = .ok (.iadd, 1) := dc_at daL_law_7 21 rfl
theorem dL_law_408 : decode cL_law 408 = .ok (.iaload, 1) := dc_at daL_law_7 22 rfl
theorem dL_law_409 : decode cL_law 409 = .ok (.invokevirtual 39, 3) := dc_at daL_law_7 23 rfl
def dlL_law_8 : List (Nat × Jvm.ClassFile.Instr × Nat) := [(412, .pop, 1), (413, .goto 1041, 3), (416, .aload_n 1, 1), (417, .aload_n 0, 1), (418, .iload_n 3, 1), (419, .iconst 1, 1), (420, .iadd, 1), (421, .iaload, 1), (422, .invokevirtual 40, 3), (425, .pop, 1), (426, .aload_n 2, 1), (427, .aload_n 0, 1), (428, .iload_n 3, 1), (429, .iconst 1, 1), (430, .iadd, 1), (431, .iaload, 1), (432, .invokevirtual 43, 3), (435, .pop, 1), (436, .goto 1018, 3), (439, .aload_n 1, 1), (440, .aload_n 0, 1), (441, .iload_n 3, 1), (442, .iconst 1, 1), (443, .iadd, 1)]
theorem daL_law_8 : dlL_law_8.all (dcK cL_law) = true := by decide +kernel
theorem dL_law_412 : decode cL_law 412 = .ok (.pop, 1) := dc_at daL_law_8 0 rfl
theorem dL_law_413 : decode cL_law 413 = .ok (.goto 1041, 3) := dc_at daL_law_8 1 rfl
theorem dL_law_416 : decode cL_law 416 = .ok (.aload_n 1, 1) := dc_at daL_law_8 2 rfl
theorem dL_law_417 : decode cL_law 417 = .ok (.aload_n 0, 1) := dc_at daL_law_8 3 rfl
theorem dL_law_418 : decode cL_law 418 = .ok (.iload_n 3, 1) := dc_at daL_law_8 4 rfl
theorem dL_law_419 : decode cL_law 419 = .ok (.iconst 1, 1) := dc_at daL_law_8 5 rfl
theorem dL_law_420 : decode cL_law 420 = .ok (.iadd, 1) := dc_at daL_law_8 6 rfl
theorem dL_law_421 : decode cL_law 421 = .ok (.iaload, 1) := dc_at daL_law_8 7 rfl
theorem dL_law_422 : decode cL_law 422 = .ok (.invokevirtual 40, 3) := dc_at daL_law_8 8 rfl
theorem dL_law_425 : decode cL_law 425 = .ok (.pop, 1) := dc_at daL_law_8 9 rfl
theorem dL_law_426 : decode cL_law 426 = .ok (.aload_n 2, 1) := dc_at daL_law_8 10 rfl
theorem dL_law_427 : decode cL_law 427 = .ok (.aload_n 0, 1) := dc_at daL_law_8 11 rfl
theorem dL_law_428 : decode cL_law 428 = .ok (.iload_n 3, 1) := dc_at daL_law_8 12 rfl
theorem dL_law_429 : decode cL_law 429 = .ok (.iconst 1, 1) := dc_at daL_law_8 13 rfl
theorem dL_law_430 : decode cL_law 430 = .ok (.iadd, 1) := dc_at daL_law_8 14 rfl
theorem dL_law_431 : decode cL_law 431 = .ok (.iaload, 1) := dc_at daL_law_8 15 rfl
