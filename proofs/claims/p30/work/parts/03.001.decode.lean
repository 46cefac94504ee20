theorem dX5_weigh_69 : decode cX5_weigh 69 = .ok (.isub, 1) := dc_at daX5_weigh_1 13 rfl
theorem dX5_weigh_70 : decode cX5_weigh 70 = .ok (.iastore, 1) := dc_at daX5_weigh_1 14 rfl
theorem dX5_weigh_71 : decode cX5_weigh 71 = .ok (.iload_n 3, 1) := dc_at daX5_weigh_1 15 rfl
theorem dX5_weigh_72 : decode cX5_weigh 72 = .ok (.iload 5, 2) := dc_at daX5_weigh_1 16 rfl
theorem dX5_weigh_74 : decode cX5_weigh 74 = .ok (.iadd, 1) := dc_at daX5_weigh_1 17 rfl
theorem dX5_weigh_75 : decode cX5_weigh 75 = .ok (.istore_n 3, 1) := dc_at daX5_weigh_1 18 rfl
theorem dX5_weigh_76 : decode cX5_weigh 76 = .ok (.iinc 4 1, 3) := dc_at daX5_weigh_1 19 rfl
theorem dX5_weigh_79 : decode cX5_weigh 79 = .ok (.goto (-66), 3) := dc_at daX5_weigh_1 20 rfl
theorem dX5_weigh_82 : decode cX5_weigh 82 = .ok (.iconst 0, 1) := dc_at daX5_weigh_1 21 rfl
theorem dX5_weigh_83 : decode cX5_weigh 83 = .ok (.istore 4, 2) := dc_at daX5_weigh_1 22 rfl
theorem dX5_weigh_85 : decode cX5_weigh 85 = .ok (.iload 4, 2) := dc_at daX5_weigh_1 23 rfl
def dlX5_weigh_2 : List (Nat × Jvm.ClassFile.Instr × Nat) := [(87, .iload_n 2, 1), (88, .if_icmp .ge 81, 3), (91, .iload_n 3, 1), (92, .aload_n 0, 1), (93, .getfield 18, 3), (96, .iload 4, 2), (98, .iaload, 1), (99, .iadd, 1), (100, .istore 5, 2), (102, .iload 4, 2), (104, .bipush 16, 2), (106, .imul, 1), (107, .istore 6, 2), (109, .iconst 0, 1), (110, .istore 7, 2), (112, .iload 7, 2), (114, .iload_n 2, 1), (115, .if_icmp .ge 48, 3), (118, .iload 5, 2), (120, .aload_n 0, 1), (121, .getfield 21, 3), (124, .iload 7, 2), (126, .iaload, 1), (127, .iadd, 1)]
theorem daX5_weigh_2 : dlX5_weigh_2.all (dcK cX5_weigh) = true := by decide +kernel
theorem dX5_weigh_87 : decode cX5_weigh 87 = .ok (.iload_n 2, 1) := dc_at daX5_weigh_2 0 rfl
theorem dX5_weigh_88 : decode cX5_weigh 88 = .ok (.if_icmp .ge 81, 3) := dc_at daX5_weigh_2 1 rfl
theorem dX5_weigh_91 : decode cX5_weigh 91 = .ok (.iload_n 3, 1) := dc_at daX5_weigh_2 2 rfl
theorem dX5_weigh_92 : decode cX5_weigh 92 = .ok (.aload_n 0, 1) := dc_at daX5_weigh_2 3 rfl
theorem dX5_weigh_93 : decode cX5_weigh 93 = .ok (.getfield 18, 3) := dc_at daX5_weigh_2 4 rfl
theorem dX5_weigh_96 : decode cX5_weigh 96 = .ok (.iload 4, 2) := dc_at daX5_weigh_2 5 rfl
theorem dX5_weigh_98 : decode cX5_weigh 98 = .ok (.iaload, 1) := dc_at daX5_weigh_2 6 rfl
theorem dX5_weigh_99 : decode cX5_weigh 99 = .ok (.iadd, 1) := dc_at daX5_weigh_2 7 rfl
theorem dX5_weigh_100 : decode cX5_weigh 100 = .ok (.istore 5, 2) := dc_at daX5_weigh_2 8 rfl
theorem dX5_weigh_102 : decode cX5_weigh 102 = .ok (.iload 4, 2) := dc_at daX5_weigh_2 9 rfl
theorem dX5_weigh_104 : decode cX5_weigh 104 = .ok (.bipush 16, 2) := dc_at daX5_weigh_2 10 rfl
theorem dX5_weigh_106 : decode cX5_weigh 106 = .ok (.imul, 1) := dc_at daX5_weigh_2 11 rfl
theorem dX5_weigh_107 : decode cX5_weigh 107 = .ok (.istore 6, 2) := dc_at daX5_weigh_2 12 rfl
theorem dX5_weigh_109 : decode cX5_weigh 109 = .ok (.iconst 0, 1) := dc_at daX5_weigh_2 13 rfl
theorem dX5_weigh_110 : decode cX5_weigh 110 = .ok (.istore 7, 2) := dc_at daX5_weigh_2 14 rfl
theorem dX5_weigh_112 : decode cX5_weigh 112 = .ok (.iload 7, 2) := dc_at daX5_weigh_2 15 rfl
theorem dX5_weigh_114 : decode cX5_weigh 114 = .ok (.iload_n 2, 1) := dc_at daX5_weigh_2 16 rfl
theorem dX5_weigh_115 : decode cX5_weigh 115 = .ok (.if_icmp .ge 48, 3) := dc_at daX5_weigh_2 17 rfl
theorem dX5_weigh_118 : decode cX5_weigh 118 = .ok (.iload 5, 2) := dc_at daX5_weigh_2 18 rfl
theorem dX5_weigh_120 : decode cX5_weigh 120 = .ok (.aload_n 0, 1) := dc_at daX5_weigh_2 19 rfl
theorem dX5_weigh_121 : decode cX5_weigh 121 = .ok (.getfield 21, 3) := dc_at daX5_weigh_2 20 rfl
theorem dX5_weigh_124 : decode cX5_weigh 124 = .ok (.iload 7, 2) := dc_at daX5_weigh_2 21 rfl
theorem dX5_weigh_126 : decode cX5_weigh 126 = .ok (.iaload, 1) := dc_at daX5_weigh_2 22 rfl
theorem dX5_weigh_127 : decode cX5_weigh 127 = .ok (.iadd, 1) := dc_at daX5_weigh_2 23 rfl
def dlX5_weigh_3 : List (Nat × Jvm.ClassFile.Instr × Nat) := [(128, .istore 8, 2), (130, .iload 8, 2), (132, .aload_n 0, 1), (133, .getfield 24, 3), (136, .iload 6, 2), (138, .iload 7, 2), (140, .iadd, 1), (141, .iaload, 1), (142, .if_icmp .le 15, 3), (145, .aload_n 0, 1), (146, .getfield 24, 3), (149, .iload 6, 2), (151, .iload 7, 2), (153, .iadd, 1), (154, .iload 8, 2), (156, .iastore, 1), (157, .iinc 7 1, 3), (160, .goto (-48), 3), (163, .iinc 4 1, 3), (166, .goto (-81), 3), (169, .return_, 1)]
theorem daX5_weigh_3 : dlX5_weigh_3.all (dcK cX5_weigh) = true := by decide +kernel
theorem dX5_weigh_128 : decode cX5_weigh 128 = .ok (.istore 8, 2) := dc_at daX5_weigh_3 0 rfl
theorem dX5_weigh_130 : decode cX5_weigh 130 = .ok (.iload 8, 2) := dc_at daX5_weigh_3 1 rfl
theorem dX5_weigh_132 : decode cX5_weigh 132 = .ok (.aload_n 0, 1) := dc_at daX5_weigh_3 2 rfl
theorem dX5_weigh_133 : decode cX5_weigh 133 = .ok (.getfield 24, 3) := dc_at daX5_weigh_3 3 rfl
theorem dX5_weigh_136 : decode cX5_weigh 136 = .ok (.iload 6, 2) := dc_at daX5_weigh_3 4 rfl
theorem dX5_weigh_138 : decode cX5_weigh 138 = .ok (.iload 7, 2) := dc_at daX5_weigh_3 5 rfl
theorem dX5_weigh_140 : decode cX5_weigh 140 = .ok (.iadd, 1) := dc_at daX5_weigh_3 6 rfl
theorem dX5_weigh_141 : decode cX5_weigh 141 = .ok (.iaload, 1) := dc_at daX5_weigh_3 7 rfl
theorem dX5_weigh_142 : decode cX5_weigh 142 = .ok (.if_icmp .le 15, 3) := dc_at daX5_weigh_3 8 rfl
theorem dX5_weigh_145 : decode cX5_weigh 145 = .ok (.aload_n 0, 1) := dc_at daX5_weigh_3 9 rfl
theorem dX5_weigh_146 : decode cX5_weigh 146 = .ok (.getfield 24, 3) := dc_at daX5_weigh_3 10 rfl
theorem dX5_weigh_149 : decode cX5_weigh 149 = .ok (.iload 6, 2) := dc_at daX5_weigh_3 11 rfl
theorem dX5_weigh_151 : decode cX5_weigh 151 = .ok (.iload 7, 2) := dc_at daX5_weigh_3 12 rfl
theorem dX5_weigh_153 : decode cX5_weigh 153 = .ok (.iadd, 1) := dc_at daX5_weigh_3 13 rfl
theorem dX5_weigh_154 : decode cX5_weigh 154 = .ok (.iload 8, 2) := dc_at daX5_weigh_3 14 rfl
theorem dX5_weigh_156 : decode cX5_weigh 156 = .ok (.iastore, 1) := dc_at daX5_weigh_3 15 rfl
theorem dX5_weigh_157 : decode cX5_weigh 157 = .ok (.iinc 7 1, 3) := dc_at daX5_weigh_3 16 rfl
theorem dX5_weigh_160 : decode cX5_weigh 160 = .ok (.goto (-48), 3) := dc_at daX5_weigh_3 17 rfl
theorem dX5_weigh_163 : decode cX5_weigh 163 = .ok (.iinc 4 1, 3) := dc_at daX5_weigh_3 18 rfl
theorem dX5_weigh_166 : decode cX5_weigh 166 = .ok (.goto (-81), 3) := dc_at daX5_weigh_3 19 rfl
theorem dX5_weigh_169 : decode cX5_weigh 169 = .ok (.return_, 1) := dc_at daX5_weigh_3 20 rfl
def dlX6_init_0 : List (Nat × Jvm.ClassFile.Instr × Nat) := [(0, .aload_n 0, 1), (1, .invokespecial 3, 3), (4, .aload_n 0, 1), (5, .new 9, 3), (8, .dup, 1), (9, .invokespecial 11, 3), (12, .putfield 12, 3), (15, .aload_n 0, 1), (16, .iconst 0, 1), (17, .putfield 18, 3), (20, .aload_n 0, 1), (21, .iconst (-1), 1), (22, .putfield 22, 3), (25, .aload_n 0, 1), (26, .sipush 900, 3), (29, .newarray .byte, 2), (31, .putfield 25, 3), (34, .aload_n 0, 1), (35, .iconst 0, 1), (36, .putfield 29, 3), (39, .aload_n 0, 1), (40, .iconst 0, 1), (41, .putfield 32, 3), (44, .aload_n 0, 1)]
theorem daX6_init_0 : dlX6_init_0.all (dcK cX6_init) = true := by decide +kernel
theorem dX6_init_0 : decode cX6_init 0 = .ok (.aload_n 0, 1) := dc_at daX6_init_0 0 rfl
theorem dX6_init_1 : decode cX6_init 1 = .ok (.invokespecial 3, 3) := dc_at daX6_init_0 1 rfl
theorem dX6_init_4 : decode cX6_init 4 = .ok (.aload_n 0, 1) := dc_at daX6_init_0 2 rfl
theorem dX6_init_5 : decode cX6_init 5 = .ok (.new 9, 3) := dc_at daX6_init_0 3 rfl
theorem dX6_init_8 : decode cX6_init 8 = .ok (.dup, 1) := dc_at daX6_init_0 4 rfl
theorem dX6_init_9 : decode cX6_init 9 = .ok (.invokespecial 11, 3) := dc_at daX6_init_0 5 rfl
theorem dX6_init_12 : decode cX6_init 12 = .ok (.putfield 12, 3) := dc_at daX6_init_0 6 rfl
theorem dX6_init_15 : decode cX6_init 15 = .ok (.aload_n 0, 1) := dc_at daX6_init_0 7 rfl
theorem dX6_init_16 : decode cX6_init 16 = .ok (.iconst 0, 1) := dc_at daX6_init_0 8 rfl
theorem dX6_init_17 : decode cX6_init 17 = .ok (.putfield 18, 3) := dc_at daX6_init_0 9 rfl
theorem dX6_init_20 : decode cX6_init 20 = .ok (.aload_n 0, 1) := dc_at daX6_init_0 10 rfl
theorem dX6_init_21 : decode cX6_init 21 = .ok (.iconst (-1), 1) := dc_at daX6_init_0 11 rfl
theorem dX6_init_22 : decode cX6_init 22 = .ok (.putfield 22, 3) := dc_at daX6_init_0 12 rfl
theorem dX6_init_25 : decode cX6_init 25 = .ok (.aload_n 0, 1) := dc_at daX6_init_0 13 rfl
theorem dX6_init_26 : decode cX6_init 26 = .ok (.sipush 900, 3) := dc_at daX6_init_0 14 rfl
theorem dX6_init_29 : decode cX6_init 29 = .ok (.newarray .byte, 2) := dc_at daX6_init_0 15 rfl
theorem dX6_init_31 : decode cX6_init 31 = .ok (.putfield 25, 3) := dc_at daX6_init_0 16 rfl
theorem dX6_init_34 : decode cX6_init 34 = .ok (.aload_n 0, 1) := dc_at daX6_init_0 17 rfl
theorem dX6_init_35 : decode cX6_init 35 = .ok (.iconst 0, 1) := dc_at daX6_init_0 18 rfl
theorem dX6_init_36 : decode cX6_init 36 = .ok (.putfield 29, 3) := dc_at daX6_init_0 19 rfl
theorem dX6_init_39 : decode cX6_init 39 = .ok (.aload_n 0, 1) := dc_at daX6_init_0 20 rfl
theorem dX6_init_40 : decode cX6_init 40 = .ok (.iconst 0, 1) := dc_at daX6_init_0 21 rfl
theorem dX6_init_41 : decode cX6_init 41 = .ok (.putfield 32, 3) := dc_at daX6_init_0 22 rfl
theorem dX6_init_44 : decode cX6_init 44 = .ok (.aload_n 0, 1) := dc_at daX6_init_0 23 rfl
def dlX6_init_1 : List (Nat × Jvm.ClassFile.Instr × Nat) := [(45, .iconst 0, 1), (46, .putfield 35, 3), (49, .aload_n 0, 1), (50, .iconst 0, 1), (51, .putfield 38, 3), (54, .aload_n 0, 1), (55, .iconst 0, 1), (56, .putfield 41, 3), (59, .return_, 1)]
theorem daX6_init_1 : dlX6_init_1.all (dcK cX6_init) = true := by decide +kernel
theorem dX6_init_45 : decode cX6_init 45 = .ok (.iconst 0, 1) := dc_at daX6_init_1 0 rfl
theorem dX6_init_46 : decode cX6_init 46 = .ok (.putfield 35, 3) := dc_at daX6_init_1 1 rfl
theorem dX6_init_49 : decode cX6_init 49 = .ok (.aload_n 0, 1) := dc_at daX6_init_1 2 rfl
theorem dX6_init_50 : decode cX6_init 50 = .ok (.iconst 0, 1) := dc_at daX6_init_1 3 rfl
theorem dX6_init_51 : decode cX6_init 51 = .ok (.putfield 38, 3) := dc_at daX6_init_1 4 rfl
theorem dX6_init_54 : decode cX6_init 54 = .ok (.aload_n 0, 1) := dc_at daX6_init_1 5 rfl
theorem dX6_init_55 : decode cX6_init 55 = .ok (.iconst 0, 1) := dc_at daX6_init_1 6 rfl
theorem dX6_init_56 : decode cX6_init 56 = .ok (.putfield 41, 3) := dc_at daX6_init_1 7 rfl
theorem dX6_init_59 : decode cX6_init 59 = .ok (.return_, 1) := dc_at daX6_init_1 8 rfl
def dlX6_readText_0 : List (Nat × Jvm.ClassFile.Instr × Nat) := [(0, .aload_n 0, 1), (1, .iconst 0, 1), (2, .iload_n 2, 1), (3, .aload_n 1, 1), (4, .arraylength, 1), (5, .sipush 900, 3), (8, .invokestatic 44, 3), (11, .invokestatic 44, 3), (14, .invokestatic 50, 3), (17, .putfield 29, 3), (20, .aload_n 1, 1), (21, .iconst 0, 1), (22, .aload_n 0, 1), (23, .getfield 25, 3), (26, .iconst 0, 1), (27, .aload_n 0, 1), (28, .getfield 29, 3), (31, .invokestatic 53, 3), (34, .aload_n 0, 1), (35, .getfield 12, 3), (38, .invokevirtual 59, 3), (41, .aload_n 0, 1), (42, .iconst 0, 1), (43, .putfield 18, 3)]
theorem daX6_readText_0 : dlX6_readText_0.all (dcK cX6_readText) = true := by decide +kernel
theorem dX6_readText_0 : decode cX6_readText 0 = .ok (.aload_n 0, 1) := dc_at daX6_readText_0 0 rfl
theorem dX6_readText_1 : decode cX6_readText 1 = .ok (.iconst 0, 1) := dc_at daX6_readText_0 1 rfl
theorem dX6_readText_2 : decode cX6_readText 2 = .ok (.iload_n 2, 1) := dc_at daX6_readText_0 2 rfl
theorem dX6_readText_3 : decode cX6_readText 3 = .ok (.aload_n 1, 1) := dc_at daX6_readText_0 3 rfl
theorem dX6_readText_4 : decode cX6_readText 4 = .ok (.arraylength, 1) := dc_at daX6_readText_0 4 rfl
theorem dX6_readText_5 : decode cX6_readText 5 = .ok (.sipush 900, 3) := dc_at daX6_readText_0 5 rfl
theorem dX6_readText_8 : decode cX6_readText 8 = .ok (.invokestatic 44, 3) := dc_at daX6_readText_0 6 rfl
theorem dX6_readText_11 : decode cX6_readText 11 = .ok (.invokestatic 44, 3) := dc_at daX6_readText_0 7 rfl
theorem dX6_readText_14 : decode cX6_readText 14 = .ok (.invokestatic 50, 3) := dc_at daX6_readText_0 8 rfl
theorem dX6_readText_17 : decode cX6_readText 17 = .ok (.putfield 29, 3) := dc_at daX6_readText_0 9 rfl
theorem dX6_readText_20 : decode cX6_readText 20 = .ok (.aload_n 1, 1) := dc_at daX6_readText_0 10 rfl
theorem dX6_readText_21 : decode cX6_readText 21 = .ok (.iconst 0, 1) := dc_at daX6_readText_0 11 rfl
theorem dX6_readText_22 : decode cX6_readText 22 = .ok (.aload_n 0, 1) := dc_at daX6_readText_0 12 rfl
theorem dX6_readText_23 : decode cX6_readText 23 = .ok (.getfield 25, 3) := dc_at daX6_readText_0 13 rfl
theorem dX6_readText_26 : decode cX6_readText 26 = .ok (.iconst 0, 1) := dc_at daX6_readText_0 14 rfl
theorem dX6_readText_27 : decode cX6_readText 27 = .ok (.aload_n 0, 1) := dc_at daX6_readText_0 15 rfl
theorem dX6_readText_28 : decode cX6_readText 28 = .ok (.getfield 29, 3) := dc_at daX6_readText_0 16 rfl
theorem dX6_readText_31 : decode cX6_readText 31 = .ok (.invokestatic 53, 3) := dc_at daX6_readText_0 17 rfl
theorem dX6_readText_34 : decode cX6_readText 34 = .ok (.aload_n 0, 1) := dc_at daX6_readText_0 18 rfl
theorem dX6_readText_35 : decode cX6_readText 35 = .ok (.getfield 12, 3) := dc_at daX6_readText_0 19 rfl
theorem dX6_readText_38 : decode cX6_readText 38 = .ok (.invokevirtual 59, 3) := dc_at daX6_readText_0 20 rfl
theorem dX6_readText_41 : decode cX6_readText 41 = .ok (.aload_n 0, 1) := dc_at daX6_readText_0 21 rfl
theorem dX6_readText_42 : decode cX6_readText 42 = .ok (.iconst 0, 1) := dc_at daX6_readText_0 22 rfl
theorem dX6_readText_43 : decode cX6_readText 43 = .ok (.putfield 18, 3) := dc_at daX6_readText_0 23 rfl
def dlX6_readText_1 : List (Nat × Jvm.ClassFile.Instr × Nat) := [(46, .aload_n 0, 1), (47, .iconst (-1), 1), (48, .putfield 22, 3), (51, .aload_n 0, 1), (52, .iconst 0, 1), (53, .putfield 35, 3), (56, .aload_n 0, 1), (57, .invokevirtual 62, 3), (60, .iconst 0, 1), (61, .istore_n 3, 1), (62, .iload_n 3, 1), (63, .sipush 900, 3), (66, .if_icmp .ge 27, 3), (69, .aload_n 0, 1), (70, .getfield 38, 3), (73, .ifCond .eq 20, 3), (76, .aload_n 0, 1), (77, .getfield 18, 3), (80, .ifCond .ne 13, 3), (83, .aload_n 0, 1), (84, .invokevirtual 65, 3), (87, .iinc 3 1, 3), (90, .goto (-28), 3), (93, .aload_n 0, 1)]
theorem daX6_readText_1 : dlX6_readText_1.all (dcK cX6_readText) = true := by decide +kernel
theorem dX6_readText_46 : decode cX6_readText 46 = .ok (.aload_n 0, 1) := dc_at daX6_readText_1 0 rfl
theorem dX6_readText_47 : decode cX6_readText 47 = .ok (.iconst (-1), 1) := dc_at daX6_readText_1 1 rfl
theorem dX6_readText_48 : decode cX6_readText 48 = .ok (.putfield 22, 3) := dc_at daX6_readText_1 2 rfl
theorem dX6_readText_51 : decode cX6_readText 51 = .ok (.aload_n 0, 1) := dc_at daX6_readText_1 3 rfl
theorem dX6_readText_52 : decode cX6_readText 52 = .ok (.iconst 0, 1) := dc_at daX6_readText_1 4 rfl
theorem dX6_readText_53 : decode cX6_readText 53 = .ok (.putfield 35, 3) := dc_at daX6_readText_1 5 rfl
theorem dX6_readText_56 : decode cX6_readText 56 = .ok (.aload_n 0, 1) := dc_at daX6_readText_1 6 rfl
theorem dX6_readText_57 : decode cX6_readText 57 = .ok (.invokevirtual 62, 3) := dc_at daX6_readText_1 7 rfl
theorem dX6_readText_60 : decode cX6_readText 60 = .ok (.iconst 0, 1) := dc_at daX6_readText_1 8 rfl
theorem dX6_readText_61 : decode cX6_readText 61 = .ok (.istore_n 3, 1) := dc_at daX6_readText_1 9 rfl
theorem dX6_readText_62 : decode cX6_readText 62 = .ok (.iload_n 3, 1) := dc_at daX6_readText_1 10 rfl
theorem dX6_readText_63 : decode cX6_readText 63 = .ok (.sipush 900, 3) := dc_at daX6_readText_1 11 rfl
theorem dX6_readText_66 : decode cX6_readText 66 = .ok (.if_icmp .ge 27, 3) := dc_at daX6_readText_1 12 rfl
theorem dX6_readText_69 : decode cX6_readText 69 = .ok (.aload_n 0, 1) := dc_at daX6_readText_1 13 rfl
theorem dX6_readText_70 : decode cX6_readText 70 = .ok (.getfield 38, 3) := dc_at daX6_readText_1 14 rfl
theorem dX6_readText_73 : decode cX6_readText 73 = .ok (.ifCond .eq 20, 3) := dc_at daX6_readText_1 15 rfl
theorem dX6_readText_76 : decode cX6_readText 76 = .ok (.aload_n 0, 1) := dc_at daX6_readText_1 16 rfl
theorem dX6_readText_77 : decode cX6_readText 77 = .ok (.getfield 18, 3) := dc_at daX6_readText_1 17 rfl
theorem dX6_readText_80 : decode cX6_readText 80 = .ok (.ifCond .ne 13, 3) := dc_at daX6_readText_1 18 rfl
theorem dX6_readText_83 : decode cX6_readText 83 = .ok (.aload_n 0, 1) := dc_at daX6_readText_1 19 rfl
theorem dX6_readText_84 : decode cX6_readText 84 = .ok (.invokevirtual 65, 3) := dc_at daX6_readText_1 20 rfl
theorem dX6_readText_87 : decode cX6_readText 87 = .ok (.iinc 3 1, 3) := dc_at daX6_readText_1 21 rfl
theorem dX6_readText_90 : decode cX6_readText 90 = .ok (.goto (-28), 3) := dc_at daX6_readText_1 22 rfl
theorem dX6_readText_93 : decode cX6_readText 93 = .ok (.aload_n 0, 1) := dc_at daX6_readText_1 23 rfl
def dlX6_readText_2 : List (Nat × Jvm.ClassFile.Instr × Nat) := [(94, .getfield 18, 3), (97, .ireturn, 1)]
theorem daX6_readText_2 : dlX6_readText_2.all (dcK cX6_readText) = true := by decide +kernel
theorem dX6_readText_94 : decode cX6_readText 94 = .ok (.getfield 18, 3) := dc_at daX6_readText_2 0 rfl
theorem dX6_readText_97 : decode cX6_readText 97 = .ok (.ireturn, 1) := dc_at daX6_readText_2 1 rfl
def dlX6_readLine_0 : List (Nat × Jvm.ClassFile.Instr × Nat) := [(0, .aload_n 0, 1), (1, .ldc 68, 2), (3, .invokevirtual 70, 3), (6, .ifCond .eq 10, 3), (9, .aload_n 0, 1), (10, .invokevirtual 74, 3), (13, .goto 126, 3), (16, .aload_n 0, 1), (17, .ldc 77, 2), (19, .invokevirtual 79, 3), (22, .ifCond .eq 10, 3), (25, .aload_n 0, 1), (26, .invokevirtual 82, 3), (29, .goto 110, 3), (32, .aload_n 0, 1), (33, .ldc 85, 2), (35, .invokevirtual 79, 3), (38, .ifCond .eq 21, 3), (41, .aload_n 0, 1), (42, .getfield 12, 3), (45, .aload_n 0, 1), (46, .iconst 0, 1), (47, .sipush 999, 3), (50, .invokevirtual 87, 3)]
theorem daX6_readLine_0 : dlX6_readLine_0.all (dcK cX6_readLine) = true := by decide +kernel
theorem dX6_readLine_0 : decode cX6_readLine 0 = .ok (.aload_n 0, 1) := dc_at daX6_readLine_0 0 rfl
theorem dX6_readLine_1 : decode cX6_readLine 1 = .ok (.ldc 68, 2) := dc_at daX6_readLine_0 1 rfl
theorem dX6_readLine_3 : decode cX6_readLine 3 = .ok (.invokevirtual 70, 3) := dc_at daX6_readLine_0 2 rfl
theorem dX6_readLine_6 : decode cX6_readLine 6 = .ok (.ifCond .eq 10, 3) := dc_at daX6_readLine_0 3 rfl
theorem dX6_readLine_9 : decode cX6_readLine 9 = .ok (.aload_n 0, 1) := dc_at daX6_readLine_0 4 rfl
theorem dX6_readLine_10 : decode cX6_readLine 10 = .ok (.invokevirtual 74, 3) := dc_at daX6_readLine_0 5 rfl
theorem dX6_readLine_13 : decode cX6_readLine 13 = .ok (.goto 126, 3) := dc_at daX6_readLine_0 6 rfl
theorem dX6_readLine_16 : decode cX6_readLine 16 = .ok (.aload_n 0, 1) := dc_at daX6_readLine_0 7 rfl
theorem dX6_readLine_17 : decode cX6_readLine 17 = .ok (.ldc 77, 2) := dc_at daX6_readLine_0 8 rfl
theorem dX6_readLine_19 : decode cX6_readLine 19 = .ok (.invokevirtual 79, 3) := dc_at daX6_readLine_0 9 rfl
theorem dX6_readLine_22 : decode cX6_readLine 22 = .ok (.ifCond .eq 10, 3) := dc_at daX6_readLine_0 10 rfl
theorem dX6_readLine_25 : decode cX6_readLine 25 = .ok (.aload_n 0, 1) := dc_at daX6_readLine_0 11 rfl
theorem dX6_readLine_26 : decode cX6_readLine 26 = .ok (.invokevirtual 82, 3) := dc_at daX6_readLine_0 12 rfl
theorem dX6_readLine_29 : decode cX6_readLine 29 = .ok (.goto 110, 3) := dc_at daX6_readLine_0 13 rfl
theorem dX6_readLine_32 : decode cX6_readLine 32 = .ok (.aload_n 0, 1) := dc_at daX6_readLine_0 14 rfl
theorem dX6_readLine_33 : decode cX6_readLine 33 = .ok (.ldc 85, 2) := dc_at daX6_readLine_0 15 rfl
theorem dX6_readLine_35 : decode cX6_readLine 35 = .ok (.invokevirtual 79, 3) := dc_at daX6_readLine_0 16 rfl
theorem dX6_readLine_38 : decode cX6_readLine 38 = .ok (.ifCond .eq 21, 3) := dc_at daX6_readLine_0 17 rfl
theorem dX6_readLine_41 : decode cX6_readLine 41 = .ok (.aload_n 0, 1) := dc_at daX6_readLine_0 18 rfl
theorem dX6_readLine_42 : decode cX6_readLine 42 = .ok (.getfield 12, 3) := dc_at daX6_readLine_0 19 rfl
theorem dX6_readLine_45 : decode cX6_readLine 45 = .ok (.aload_n 0, 1) := dc_at daX6_readLine_0 20 rfl
theorem dX6_readLine_46 : decode cX6_readLine 46 = .ok (.iconst 0, 1) := dc_at daX6_readLine_0 21 rfl
theorem dX6_readLine_47 : decode cX6_readLine 47 = .ok (.sipush 999, 3) := dc_at daX6_readLine_0 22 rfl
theorem dX6_readLine_50 : decode cX6_readLine 50 = .ok (.invokevirtual 87, 3) := dc_at daX6_readLine_0 23 rfl
def dlX6_readLine_1 : List (Nat × Jvm.ClassFile.Instr × Nat) := [(53, .putfield 90, 3), (56, .goto 83, 3), (59, .aload_n 0, 1), (60, .ldc 92, 2), (62, .invokevirtual 79, 3), (65, .ifCond .eq 10, 3), (68, .aload_n 0, 1), (69, .invokevirtual 94, 3), (72, .goto 67, 3), (75, .aload_n 0, 1), (76, .ldc 97, 2), (78, .invokevirtual 79, 3), (81, .ifCond .eq 20, 3), (84, .aload_n 0, 1), (85, .getfield 12, 3), (88, .aload_n 0, 1), (89, .iconst 0, 1), (90, .bipush 100, 2), (92, .invokevirtual 87, 3), (95, .putfield 99, 3), (98, .goto 41, 3), (101, .aload_n 0, 1), (102, .ldc 101, 2), (104, .invokevirtual 79, 3)]
theorem daX6_readLine_1 : dlX6_readLine_1.all (dcK cX6_readLine) = true := by decide +kernel
theorem dX6_readLine_53 : decode cX6_readLine 53 = .ok (.putfield 90, 3) := dc_at daX6_readLine_1 0 rfl
theorem dX6_readLine_56 : decode cX6_readLine 56 = .ok (.goto 83, 3) := dc_at daX6_readLine_1 1 rfl
theorem dX6_readLine_59 : decode cX6_readLine 59 = .ok (.aload_n 0, 1) := dc_at daX6_readLine_1 2 rfl
theorem dX6_readLine_60 : decode cX6_readLine 60 = .ok (.ldc 92, 2) := dc_at daX6_readLine_1 3 rfl
theorem dX6_readLine_62 : decode cX6_readLine 62 = .ok (.invokevirtual 79, 3) := dc_at daX6_readLine_1 4 rfl
theorem dX6_readLine_65 : decode cX6_readLine 65 = .ok (.ifCond .eq 10, 3) := dc_at daX6_readLine_1 5 rfl
theorem dX6_readLine_68 : decode cX6_readLine 68 = .ok (.aload_n 0, 1) := dc_at daX6_readLine_1 6 rfl
theorem dX6_readLine_69 : decode cX6_readLine 69 = .ok (.invokevirtual 94, 3) := dc_at daX6_readLine_1 7 rfl
theorem dX6_readLine_72 : decode cX6_readLine 72 = .ok (.goto 67, 3) := dc_at daX6_readLine_1 8 rfl
theorem dX6_readLine_75 : decode cX6_readLine 75 = .ok (.aload_n 0, 1) := dc_at daX6_readLine_1 9 rfl
theorem dX6_readLine_76 : decode cX6_readLine 76 = .ok (.ldc 97, 2) := dc_at daX6_readLine_1 10 rfl
theorem dX6_readLine_78 : decode cX6_readLine 78 = .ok (.invokevirtual 79, 3) := dc_at daX6_readLine_1 11 rfl
theorem dX6_readLine_81 : decode cX6_readLine 81 = .ok (.ifCond .eq 20, 3) := dc_at daX6_readLine_1 12 rfl
theorem dX6_readLine_84 : decode cX6_readLine 84 = .ok (.aload_n 0, 1) := dc_at daX6_readLine_1 13 rfl
theorem dX6_readLine_85 : decode cX6_readLine 85 = .ok (.getfield 12, 3) := dc_at daX6_readLine_1 14 rfl
theorem dX6_readLine_88 : decode cX6_readLine 88 = .ok (.aload_n 0, 1) := dc_at daX6_readLine_1 15 rfl
theorem dX6_readLine_89 : decode cX6_readLine 89 = .ok (.iconst 0, 1) := dc_at daX6_readLine_1 16 rfl
theorem dX6_readLine_90 : decode cX6_readLine 90 = .ok (.bipush 100, 2) := dc_at daX6_readLine_1 17 rfl
theorem dX6_readLine_92 : decode cX6_readLine 92 = .ok (.invokevirtual 87, 3) := dc_at daX6_readLine_1 18 rfl
theorem dX6_readLine_95 : decode cX6_readLine 95 = .ok (.putfield 99, 3) := dc_at daX6_readLine_1 19 rfl
theorem dX6_readLine_98 : decode cX6_readLine 98 = .ok (.goto 41, 3) := dc_at daX6_readLine_1 20 rfl
theorem dX6_readLine_101 : decode cX6_readLine 101 = .ok (.aload_n 0, 1) := dc_at daX6_readLine_1 21 rfl
theorem dX6_readLine_102 : decode cX6_readLine 102 = .ok (.ldc 101, 2) := dc_at daX6_readLine_1 22 rfl
theorem dX6_readLine_104 : decode cX6_readLine 104 = .ok (.invokevirtual 79, 3) := dc_at daX6_readLine_1 23 rfl
def dlX6_readLine_2 : List (Nat × Jvm.ClassFile.Instr × Nat) := [(107, .ifCond .eq 27, 3), (110, .aload_n 0, 1), (111, .getfield 12, 3), (114, .aload_n 0, 1), (115, .iconst 0, 1), (116, .aload_n 0, 1), (117, .getfield 12, 3), (120, .getfield 103, 3), (123, .iconst 1, 1), (124, .isub, 1), (125, .invokevirtual 87, 3), (128, .putfield 106, 3), (131, .goto 8, 3), (134, .aload_n 0, 1), (135, .iconst 2, 1), (136, .invokevirtual 109, 3), (139, .aload_n 0, 1), (140, .invokevirtual 113, 3), (143, .return_, 1)]
theorem daX6_readLine_2 : dlX6_readLine_2.all (dcK cX6_readLine) = true := by decide +kernel
theorem dX6_readLine_107 : decode cX6_readLine 107 = .ok (.ifCond .eq 27, 3) := dc_at daX6_readLine_2 0 rfl
theorem dX6_readLine_110 : decode cX6_readLine 110 = .ok (.aload_n 0, 1) := dc_at daX6_readLine_2 1 rfl
theorem dX6_readLine_111 : decode cX6_readLine 111 = .ok (.getfield 12, 3) := dc_at daX6_readLine_2 2 rfl
theorem dX6_readLine_114 : decode cX6_readLine 114 = .ok (.aload_n 0, 1) := dc_at daX6_readLine_2 3 rfl
theorem dX6_readLine_115 : decode cX6_readLine 115 = .ok (.iconst 0, 1) := dc_at daX6_readLine_2 4 rfl
theorem dX6_readLine_116 : decode cX6_readLine 116 = .ok (.aload_n 0, 1) := dc_at daX6_readLine_2 5 rfl
theorem dX6_readLine_117 : decode cX6_readLine 117 = .ok (.getfield 12, 3) := dc_at daX6_readLine_2 6 rfl
theorem dX6_readLine_120 : decode cX6_readLine 120 = .ok (.getfield 103, 3) := dc_at daX6_readLine_2 7 rfl
theorem dX6_readLine_123 : decode cX6_readLine 123 = .ok (.iconst 1, 1) := dc_at daX6_readLine_2 8 rfl
theorem dX6_readLine_124 : decode cX6_readLine 124 = .ok (.isub, 1) := dc_at daX6_readLine_2 9 rfl
theorem dX6_readLine_125 : decode cX6_readLine 125 = .ok (.invokevirtual 87, 3) := dc_at daX6_readLine_2 10 rfl
theorem dX6_readLine_128 : decode cX6_readLine 128 = .ok (.putfield 106, 3) := dc_at daX6_readLine_2 11 rfl
theorem dX6_readLine_131 : decode cX6_readLine 131 = .ok (.goto 8, 3) := dc_at daX6_readLine_2 12 rfl
theorem dX6_readLine_134 : decode cX6_readLine 134 = .ok (.aload_n 0, 1) := dc_at daX6_readLine_2 13 rfl
theorem dX6_readLine_135 : decode cX6_readLine 135 = .ok (.iconst 2, 1) := dc_at daX6_readLine_2 14 rfl
theorem dX6_readLine_136 : decode cX6_readLine 136 = .ok (.invokevirtual 109, 3) := dc_at daX6_readLine_2 15 rfl
theorem dX6_readLine_139 : decode cX6_readLine 139 = .ok (.aload_n 0, 1) := dc_at daX6_readLine_2 16 rfl
theorem dX6_readLine_140 : decode cX6_readLine 140 = .ok (.invokevirtual 113, 3) := dc_at daX6_readLine_2 17 rfl
theorem dX6_readLine_143 : decode cX6_readLine 143 = .ok (.return_, 1) := dc_at daX6_readLine_2 18 rfl
def dlX6_readStrip_0 : List (Nat × Jvm.ClassFile.Instr × Nat) := [(0, .aload_n 0, 1), (1, .getfield 12, 3), (4, .getfield 103, 3), (7, .bipush 16, 2), (9, .if_icmp .lt 9, 3), (12, .aload_n 0, 1), (13, .iconst 4, 1), (14, .invokevirtual 109, 3), (17, .return_, 1), (18, .aload_n 0, 1), (19, .invokevirtual 62, 3), (22, .aload_n 0, 1), (23, .iconst 0, 1), (24, .bipush 99, 2), (26, .invokevirtual 87, 3), (29, .istore_n 1, 1), (30, .aload_n 0, 1), (31, .ldc 116, 2), (33, .invokevirtual 79, 3), (36, .ifCond .eq 13, 3), (39, .aload_n 0, 1), (40, .iconst 0, 1), (41, .bipush 9, 2), (43, .invokevirtual 87, 3)]
theorem daX6_readStrip_0 : dlX6_readStrip_0.all (dcK cX6_readStrip) = true := by decide +kernel
theorem dX6_readStrip_0 : decode cX6_readStrip 0 = .ok (.aload_n 0, 1) := dc_at daX6_readStrip_0 0 rfl
theorem dX6_readStrip_1 : decode cX6_readStrip 1 = .ok (.getfield 12, 3) := dc_at daX6_readStrip_0 1 rfl
theorem dX6_readStrip_4 : decode cX6_readStrip 4 = .ok (.getfield 103, 3) := dc_at daX6_readStrip_0 2 rfl
theorem dX6_readStrip_7 : decode cX6_readStrip 7 = .ok (.bipush 16, 2) := dc_at daX6_readStrip_0 3 rfl
theorem dX6_readStrip_9 : decode cX6_readStrip 9 = .ok (.if_icmp .lt 9, 3) := dc_at daX6_readStrip_0 4 rfl
theorem dX6_readStrip_12 : decode cX6_readStrip 12 = .ok (.aload_n 0, 1) := dc_at daX6_readStrip_0 5 rfl
theorem dX6_readStrip_13 : decode cX6_readStrip 13 = .ok (.iconst 4, 1) := dc_at daX6_readStrip_0 6 rfl
theorem dX6_readStrip_14 : decode cX6_readStrip 14 = .ok (.invokevirtual 109, 3) := dc_at daX6_readStrip_0 7 rfl
theorem dX6_readStrip_17 : decode cX6_readStrip 17 = .ok (.return_, 1) := dc_at daX6_readStrip_0 8 rfl
theorem dX6_readStrip_18 : decode cX6_readStrip 18 = .ok (.aload_n 0, 1) := dc_at daX6_readStrip_0 9 rfl
theorem dX6_readStrip_19 : decode cX6_readStrip 19 = .ok (.invokevirtual 62, 3) := dc_at daX6_readStrip_0 10 rfl
theorem dX6_readStrip_22 : decode cX6_readStrip 22 = .ok (.aload_n 0, 1) := dc_at daX6_readStrip_0 11 rfl
theorem dX6_readStrip_23 : decode cX6_readStrip 23 = .ok (.iconst 0, 1) := dc_at daX6_readStrip_0 12 rfl
theorem dX6_readStrip_24 : decode cX6_readStrip 24 = .ok (.bipush 99, 2) := dc_at daX6_readStrip_0 13 rfl
theorem dX6_readStrip_26 : decode cX6_readStrip 26 = .ok (.invokevirtual 87, 3) := dc_at daX6_readStrip_0 14 rfl
theorem dX6_readStrip_29 : decode cX6_readStrip 29 = .ok (.istore_n 1, 1) := dc_at daX6_readStrip_0 15 rfl
theorem dX6_readStrip_30 : decode cX6_readStrip 30 = .ok (.aload_n 0, 1) := dc_at daX6_readStrip_0 16 rfl
theorem dX6_readStrip_31 : decode cX6_readStrip 31 = .ok (.ldc 116, 2) := dc_at daX6_readStrip_0 17 rfl
theorem dX6_readStrip_33 : decode cX6_readStrip 33 = .ok (.invokevirtual 79, 3) := dc_at daX6_readStrip_0 18 rfl
theorem dX6_readStrip_36 : decode cX6_readStrip 36 = .ok (.ifCond .eq 13, 3) := dc_at daX6_readStrip_0 19 rfl
theorem dX6_readStrip_39 : decode cX6_readStrip 39 = .ok (.aload_n 0, 1) := dc_at daX6_readStrip_0 20 rfl
theorem dX6_readStrip_40 : decode cX6_readStrip 40 = .ok (.iconst 0, 1) := dc_at daX6_readStrip_0 21 rfl
theorem dX6_readStrip_41 : decode cX6_readStrip 41 = .ok (.bipush 9, 2) := dc_at daX6_readStrip_0 22 rfl
theorem dX6_readStrip_43 : decode cX6_readStrip 43 = .ok (.invokevirtual 87, 3) := dc_at daX6_readStrip_0 23 rfl
def dlX6_readStrip_1 : List (Nat × Jvm.ClassFile.Instr × Nat) := [(46, .goto 4, 3), (49, .iconst 2, 1), (50, .istore_n 2, 1), (51, .aload_n 0, 1), (52, .ldc 118, 2), (54, .invokevirtual 79, 3), (57, .ifCond .eq 13, 3), (60, .aload_n 0, 1), (61, .iconst 0, 1), (62, .bipush 30, 2), (64, .invokevirtual 87, 3), (67, .goto 4, 3), (70, .iconst 0, 1), (71, .istore_n 3, 1), (72, .aload_n 0, 1), (73, .ldc 120, 2), (75, .invokevirtual 79, 3), (78, .ifCond .eq 12, 3), (81, .aload_n 0, 1), (82, .iconst 0, 1), (83, .iconst 5, 1), (84, .invokevirtual 87, 3), (87, .goto 4, 3), (90, .iconst 0, 1)]
theorem daX6_readStrip_1 : dlX6_readStrip_1.all (dcK cX6_readStrip) = true := by decide +kernel
theorem dX6_readStrip_46 : decode cX6_readStrip 46 = .ok (.goto 4, 3) := dc_at daX6_readStrip_1 0 rfl
theorem dX6_readStrip_49 : decode cX6_readStrip 49 = .ok (.iconst 2, 1) := dc_at daX6_readStrip_1 1 rfl
theorem dX6_readStrip_50 : decode cX6_readStrip 50 = .ok (.istore_n 2, 1) := dc_at daX6_readStrip_1 2 rfl
theorem dX6_readStrip_51 : decode cX6_readStrip 51 = .ok (.aload_n 0, 1) := dc_at daX6_readStrip_1 3 rfl
theorem dX6_readStrip_52 : decode cX6_readStrip 52 = .ok (.ldc 118, 2) := dc_at daX6_readStrip_1 4 rfl
theorem dX6_readStrip_54 : decode cX6_readStrip 54 = .ok (.invokevirtual 79, 3) := dc_at daX6_readStrip_1 5 rfl
theorem dX6_readStrip_57 : decode cX6_readStrip 57 = .ok (.ifCond .eq 13, 3) := dc_at daX6_readStrip_1 6 rfl
theorem dX6_readStrip_60 : decode cX6_readStrip 60 = .ok (.aload_n 0, 1) := dc_at daX6_readStrip_1 7 rfl
theorem dX6_readStrip_61 : decode cX6_readStrip 61 = .ok (.iconst 0, 1) := dc_at daX6_readStrip_1 8 rfl
theorem dX6_readStrip_62 : decode cX6_readStrip 62 = .ok (.bipush 30, 2) := dc_at daX6_readStrip_1 9 rfl
theorem dX6_readStrip_64 : decode cX6_readStrip 64 = .ok (.invokevirtual 87, 3) := dc_at daX6_readStrip_1 10 rfl
theorem dX6_readStrip_67 : decode cX6_readStrip 67 = .ok (.goto 4, 3) := dc_at daX6_readStrip_1 11 rfl
theorem dX6_readStrip_70 : decode cX6_readStrip 70 = .ok (.iconst 0, 1) := dc_at daX6_readStrip_1 12 rfl
theorem dX6_readStrip_71 : decode cX6_readStrip 71 = .ok (.istore_n 3, 1) := dc_at daX6_readStrip_1 13 rfl
theorem dX6_readStrip_72 : decode cX6_readStrip 72 = .ok (.aload_n 0, 1) := dc_at daX6_readStrip_1 14 rfl
theorem dX6_readStrip_73 : decode cX6_readStrip 73 = .ok (.ldc 120, 2) := dc_at daX6_readStrip_1 15 rfl
theorem dX6_readStrip_75 : decode cX6_readStrip 75 = .ok (.invokevirtual 79, 3) := dc_at daX6_readStrip_1 16 rfl
theorem dX6_readStrip_78 : decode cX6_readStrip 78 = .ok (.ifCond .eq 12, 3) := dc_at daX6_readStrip_1 17 rfl
theorem dX6_readStrip_81 : decode cX6_readStrip 81 = .ok (.aload_n 0, 1) := dc_at daX6_readStrip_1 18 rfl
theorem dX6_readStrip_82 : decode cX6_readStrip 82 = .ok (.iconst 0, 1) := dc_at daX6_readStrip_1 19 rfl
theorem dX6_readStrip_83 : decode cX6_readStrip 83 = .ok (.iconst 5, 1) := dc_at daX6_readStrip_1 20 rfl
theorem dX6_readStrip_84 : decode cX6_readStrip 84 = .ok (.invokevirtual 87, 3) := dc_at daX6_readStrip_1 21 rfl
theorem dX6_readStrip_87 : decode cX6_readStrip 87 = .ok (.goto 4, 3) := dc_at daX6_readStrip_1 22 rfl
theorem dX6_readStrip_90 : decode cX6_readStrip 90 = .ok (.iconst 0, 1) := dc_at daX6_readStrip_1 23 rfl
def dlX6_readStrip_2 : List (Nat × Jvm.ClassFile.Instr × Nat) := [(91, .istore 4, 2), (93, .aload_n 0, 1), (94, .getfield 12, 3), (97, .iload_n 1, 1), (98, .iload_n 2, 1), (99, .iload_n 3, 1), (100, .iload 4, 2), (102, .invokevirtual 122, 3), (105, .return_, 1)]
theorem daX6_readStrip_2 : dlX6_readStrip_2.all (dcK cX6_readStrip) = true := by decide +kernel
theorem dX6_readStrip_91 : decode cX6_readStrip 91 = .ok (.istore 4, 2) := dc_at daX6_readStrip_2 0 rfl
theorem dX6_readStrip_93 : decode cX6_readStrip 93 = .ok (.aload_n 0, 1) := dc_at daX6_readStrip_2 1 rfl
theorem dX6_readStrip_94 : decode cX6_readStrip 94 = .ok (.getfield 12, 3) := dc_at daX6_readStrip_2 2 rfl
theorem dX6_readStrip_97 : decode cX6_readStrip 97 = .ok (.iload_n 1, 1) := dc_at daX6_readStrip_2 3 rfl
theorem dX6_readStrip_98 : decode cX6_readStrip 98 = .ok (.iload_n 2, 1) := dc_at daX6_readStrip_2 4 rfl
theorem dX6_readStrip_99 : decode cX6_readStrip 99 = .ok (.iload_n 3, 1) := dc_at daX6_readStrip_2 5 rfl
theorem dX6_readStrip_100 : decode cX6_readStrip 100 = .ok (.iload 4, 2) := dc_at daX6_readStrip_2 6 rfl
theorem dX6_readStrip_102 : decode cX6_readStrip 102 = .ok (.invokevirtual 122, 3) := dc_at daX6_readStrip_2 7 rfl
theorem dX6_readStrip_105 : decode cX6_readStrip 105 = .ok (.return_, 1) := dc_at daX6_readStrip_2 8 rfl
def dlX6_readLamp_0 : List (Nat × Jvm.ClassFile.Instr × Nat) := [(0, .aload_n 0, 1), (1, .getfield 12, 3), (4, .aload_n 0, 1), (5, .ldc 126, 2), (7, .invokevirtual 79, 3), (10, .ifCond .eq 20, 3), (13, .aload_n 0, 1), (14, .iconst 0, 1), (15, .aload_n 0, 1), (16, .getfield 12, 3), (19, .getfield 103, 3), (22, .iconst 1, 1), (23, .isub, 1), (24, .invokevirtual 87, 3), (27, .goto 4, 3), (30, .iconst 0, 1), (31, .putfield 128, 3), (34, .aload_n 0, 1), (35, .getfield 12, 3), (38, .aload_n 0, 1), (39, .ldc 130, 2), (41, .invokevirtual 79, 3), (44, .ifCond .eq 13, 3), (47, .aload_n 0, 1)]
theorem daX6_readLamp_0 : dlX6_readLamp_0.all (dcK cX6_readLamp) = true := by decide +kernel
theorem dX6_readLamp_0 : decode cX6_readLamp 0 = .ok (.aload_n 0, 1) := dc_at daX6_readLamp_0 0 rfl
theorem dX6_readLamp_1 : decode cX6_readLamp 1 = .ok (.getfield 12, 3) := dc_at daX6_readLamp_0 1 rfl
theorem dX6_readLamp_4 : decode cX6_readLamp 4 = .ok (.aload_n 0, 1) := dc_at daX6_readLamp_0 2 rfl
theorem dX6_readLamp_5 : decode cX6_readLamp 5 = .ok (.ldc 126, 2) := dc_at daX6_readLamp_0 3 rfl
theorem dX6_readLamp_7 : decode cX6_readLamp 7 = .ok (.invokevirtual 79, 3) := dc_at daX6_readLamp_0 4 rfl
theorem dX6_readLamp_10 : decode cX6_readLamp 10 = .ok (.ifCond .eq 20, 3) := dc_at daX6_readLamp_0 5 rfl
theorem dX6_readLamp_13 : decode cX6_readLamp 13 = .ok (.aload_n 0, 1) := dc_at daX6_readLamp_0 6 rfl
theorem dX6_readLamp_14 : decode cX6_readLamp 14 = .ok (.iconst 0, 1) := dc_at daX6_readLamp_0 7 rfl
theorem dX6_readLamp_15 : decode cX6_readLamp 15 = .ok (.aload_n 0, 1) := dc_at daX6_readLamp_0 8 rfl
theorem dX6_readLamp_16 : decode cX6_readLamp 16 = .ok (.getfield 12, 3) := dc_at daX6_readLamp_0 9 rfl
theorem dX6_readLamp_19 : decode cX6_readLamp 19 = .ok (.getfield 103, 3) := dc_at daX6_readLamp_0 10 rfl
theorem dX6_readLamp_22 : decode cX6_readLamp 22 = .ok (.iconst 1, 1) := dc_at daX6_readLamp_0 11 rfl
theorem dX6_readLamp_23 : decode cX6_readLamp 23 = .ok (.isub, 1) := dc_at daX6_readLamp_0 12 rfl
theorem dX6_readLamp_24 : decode cX6_readLamp 24 = .ok (.invokevirtual 87, 3) := dc_at daX6_readLamp_0 13 rfl
theorem dX6_readLamp_27 : decode cX6_readLamp 27 = .ok (.goto 4, 3) := dc_at daX6_readLamp_0 14 rfl
theorem dX6_readLamp_30 : decode cX6_readLamp 30 = .ok (.iconst 0, 1) := dc_at daX6_readLamp_0 15 rfl
theorem dX6_readLamp_31 : decode cX6_readLamp 31 = .ok (.putfield 128, 3) := dc_at daX6_readLamp_0 16 rfl
theorem dX6_readLamp_34 : decode cX6_readLamp 34 = .ok (.aload_n 0, 1) := dc_at daX6_readLamp_0 17 rfl
theorem dX6_readLamp_35 : decode cX6_readLamp 35 = .ok (.getfield 12, 3) := dc_at daX6_readLamp_0 18 rfl
theorem dX6_readLamp_38 : decode cX6_readLamp 38 = .ok (.aload_n 0, 1) := dc_at daX6_readLamp_0 19 rfl
theorem dX6_readLamp_39 : decode cX6_readLamp 39 = .ok (.ldc 130, 2) := dc_at daX6_readLamp_0 20 rfl
theorem dX6_readLamp_41 : decode cX6_readLamp 41 = .ok (.invokevirtual 79, 3) := dc_at daX6_readLamp_0 21 rfl
theorem dX6_readLamp_44 : decode cX6_readLamp 44 = .ok (.ifCond .eq 13, 3) := dc_at daX6_readLamp_0 22 rfl
theorem dX6_readLamp_47 : decode cX6_readLamp 47 = .ok (.aload_n 0, 1) := dc_at daX6_readLamp_0 23 rfl
def dlX6_readLamp_1 : List (Nat × Jvm.ClassFile.Instr × Nat) := [(48, .iconst 1, 1), (49, .bipush 30, 2), (51, .invokevirtual 87, 3), (54, .goto 5, 3), (57, .bipush 6, 2), (59, .putfield 132, 3), (62, .aload_n 0, 1), (63, .getfield 12, 3), (66, .aload_n 0, 1), (67, .ldc 135, 2), (69, .invokevirtual 79, 3), (72, .ifCond .eq 13, 3), (75, .aload_n 0, 1), (76, .iconst 0, 1), (77, .bipush 20, 2), (79, .invokevirtual 87, 3), (82, .goto 5, 3), (85, .bipush 6, 2), (87, .putfield 137, 3), (90, .aload_n 0, 1), (91, .getfield 12, 3), (94, .aload_n 0, 1), (95, .ldc 139, 2), (97, .invokevirtual 79, 3)]
theorem daX6_readLamp_1 : dlX6_readLamp_1.all (dcK cX6_readLamp) = true := by decide +kernel
theorem dX6_readLamp_48 : decode cX6_readLamp 48 = .ok (.iconst 1, 1) := dc_at daX6_readLamp_1 0 rfl
theorem dX6_readLamp_49 : decode cX6_readLamp 49 = .ok (.bipush 30, 2) := dc_at daX6_readLamp_1 1 rfl
theorem dX6_readLamp_51 : decode cX6_readLamp 51 = .ok (.invokevirtual 87, 3) := dc_at daX6_readLamp_1 2 rfl
theorem dX6_readLamp_54 : decode cX6_readLamp 54 = .ok (.goto 5, 3) := dc_at daX6_readLamp_1 3 rfl
theorem dX6_readLamp_57 : decode cX6_readLamp 57 = .ok (.bipush 6, 2) := dc_at daX6_readLamp_1 4 rfl
theorem dX6_readLamp_59 : decode cX6_readLamp 59 = .ok (.putfield 132, 3) := dc_at daX6_readLamp_1 5 rfl
theorem dX6_readLamp_62 : decode cX6_readLamp 62 = .ok (.aload_n 0, 1) := dc_at daX6_readLamp_1 6 rfl
theorem dX6_readLamp_63 : decode cX6_readLamp 63 = .ok (.getfield 12, 3) := dc_at daX6_readLamp_1 7 rfl
theorem dX6_readLamp_66 : decode cX6_readLamp 66 = .ok (.aload_n 0, 1) := dc_at daX6_readLamp_1 8 rfl
theorem dX6_readLamp_67 : decode cX6_readLamp 67 = .ok (.ldc 135, 2) := dc_at daX6_readLamp_1 9 rfl
theorem dX6_readLamp_69 : decode cX6_readLamp 69 = .ok (.invokevirtual 79, 3) := dc_at daX6_readLamp_1 10 rfl
theorem dX6_readLamp_72 : decode cX6_readLamp 72 = .ok (.ifCond .eq 13, 3) := dc_at daX6_readLamp_1 11 rfl
theorem dX6_readLamp_75 : decode cX6_readLamp 75 = .ok (.aload_n 0, 1) := dc_at daX6_readLamp_1 12 rfl
theorem dX6_readLamp_76 : decode cX6_readLamp 76 = .ok (.iconst 0, 1) := dc_at daX6_readLamp_1 13 rfl
theorem dX6_readLamp_77 : decode cX6_readLamp 77 = .ok (.bipush 20, 2) := dc_at daX6_readLamp_1 14 rfl
theorem dX6_readLamp_79 : decode cX6_readLamp 79 = .ok (.invokevirtual 87, 3) := dc_at daX6_readLamp_1 15 rfl
theorem dX6_readLamp_82 : decode cX6_readLamp 82 = .ok (.goto 5, 3) := dc_at daX6_readLamp_1 16 rfl
theorem dX6_readLamp_85 : decode cX6_readLamp 85 = .ok (.bipush 6, 2) := dc_at daX6_readLamp_1 17 rfl
theorem dX6_readLamp_87 : decode cX6_readLamp 87 = .ok (.putfield 137, 3) := dc_at daX6_readLamp_1 18 rfl
theorem dX6_readLamp_90 : decode cX6_readLamp 90 = .ok (.aload_n 0, 1) := dc_at daX6_readLamp_1 19 rfl
theorem dX6_readLamp_91 : decode cX6_readLamp 91 = .ok (.getfield 12, 3) := dc_at daX6_readLamp_1 20 rfl
theorem dX6_readLamp_94 : decode cX6_readLamp 94 = .ok (.aload_n 0, 1) := dc_at daX6_readLamp_1 21 rfl
theorem dX6_readLamp_95 : decode cX6_readLamp 95 = .ok (.ldc 139, 2) := dc_at daX6_readLamp_1 22 rfl
theorem dX6_readLamp_97 : decode cX6_readLamp 97 = .ok (.invokevirtual 79, 3) := dc_at daX6_readLamp_1 23 rfl
def dlX6_readLamp_2 : List (Nat × Jvm.ClassFile.Instr × Nat) := [(100, .ifCond .eq 13, 3), (103, .aload_n 0, 1), (104, .iconst 0, 1), (105, .bipush 9, 2), (107, .invokevirtual 87, 3), (110, .goto 4, 3), (113, .iconst 1, 1), (114, .putfield 141, 3), (117, .return_, 1)]
theorem daX6_readLamp_2 : dlX6_readLamp_2.all (dcK cX6_readLamp) = true := by decide +kernel
theorem dX6_readLamp_100 : decode cX6_readLamp 100 = .ok (.ifCond .eq 13, 3) := dc_at daX6_readLamp_2 0 rfl
theorem dX6_readLamp_103 : decode cX6_readLamp 103 = .ok (.aload_n 0, 1) := dc_at daX6_readLamp_2 1 rfl
theorem dX6_readLamp_104 : decode cX6_readLamp 104 = .ok (.iconst 0, 1) := dc_at daX6_readLamp_2 2 rfl
theorem dX6_readLamp_105 : decode cX6_readLamp 105 = .ok (.bipush 9, 2) := dc_at daX6_readLamp_2 3 rfl
theorem dX6_readLamp_107 : decode cX6_readLamp 107 = .ok (.invokevirtual 87, 3) := dc_at daX6_readLamp_2 4 rfl
theorem dX6_readLamp_110 : decode cX6_readLamp 110 = .ok (.goto 4, 3) := dc_at daX6_readLamp_2 5 rfl
theorem dX6_readLamp_113 : decode cX6_readLamp 113 = .ok (.iconst 1, 1) := dc_at daX6_readLamp_2 6 rfl
theorem dX6_readLamp_114 : decode cX6_readLamp 114 = .ok (.putfield 141, 3) := dc_at daX6_readLamp_2 7 rfl
theorem dX6_readLamp_117 : decode cX6_readLamp 117 = .ok (.return_, 1) := dc_at daX6_readLamp_2 8 rfl
def dlX6_readBid_0 : List (Nat × Jvm.ClassFile.Instr × Nat) := [(0, .aload_n 0, 1), (1, .iconst 0, 1), (2, .iconst 5, 1), (3, .invokevirtual 87, 3), (6, .istore_n 1, 1), (7, .aload_n 0, 1), (8, .iconst 0, 1), (9, .bipush 99, 2), (11, .invokevirtual 87, 3), (14, .istore_n 2, 1), (15, .aload_n 0, 1), (16, .getfield 18, 3), (19, .ifCond .ne 20, 3), (22, .iload_n 1, 1), (23, .invokestatic 143, 3), (26, .ifCond .eq 13, 3), (29, .aload_n 0, 1), (30, .getfield 12, 3), (33, .getfield 147, 3), (36, .iload_n 1, 1), (37, .iload_n 2, 1), (38, .iastore, 1), (39, .return_, 1)]
theorem daX6_readBid_0 : dlX6_readBid_0.all (dcK cX6_readBid) = true := by decide +kernel
theorem dX6_readBid_0 : decode cX6_readBid 0 = .ok (.aload_n 0, 1) := dc_at daX6_readBid_0 0 rfl
theorem dX6_readBid_1 : decode cX6_readBid 1 = .ok (.iconst 0, 1) := dc_at daX6_readBid_0 1 rfl
theorem dX6_readBid_2 : decode cX6_readBid 2 = .ok (.iconst 5, 1) := dc_at daX6_readBid_0 2 rfl
theorem dX6_readBid_3 : decode cX6_readBid 3 = .ok (.invokevirtual 87, 3) := dc_at daX6_readBid_0 3 rfl
theorem dX6_readBid_6 : decode cX6_readBid 6 = .ok (.istore_n 1, 1) := dc_at daX6_readBid_0 4 rfl
theorem dX6_readBid_7 : decode cX6_readBid 7 = .ok (.aload_n 0, 1) := dc_at daX6_readBid_0 5 rfl
theorem dX6_readBid_8 : decode cX6_readBid 8 = .ok (.iconst 0, 1) := dc_at daX6_readBid_0 6 rfl
theorem dX6_readBid_9 : decode cX6_readBid 9 = .ok (.bipush 99, 2) := dc_at daX6_readBid_0 7 rfl
theorem dX6_readBid_11 : decode cX6_readBid 11 = .ok (.invokevirtual 87, 3) := dc_at daX6_readBid_0 8 rfl
theorem dX6_readBid_14 : decode cX6_readBid 14 = .ok (.istore_n 2, 1) := dc_at daX6_readBid_0 9 rfl
theorem dX6_readBid_15 : decode cX6_readBid 15 = .ok (.aload_n 0, 1) := dc_at daX6_readBid_0 10 rfl
theorem dX6_readBid_16 : decode cX6_readBid 16 = .ok (.getfield 18, 3) := dc_at daX6_readBid_0 11 rfl
theorem dX6_readBid_19 : decode cX6_readBid 19 = .ok (.ifCond .ne 20, 3) := dc_at daX6_readBid_0 12 rfl
theorem dX6_readBid_22 : decode cX6_readBid 22 = .ok (.iload_n 1, 1) := dc_at daX6_readBid_0 13 rfl
theorem dX6_readBid_23 : decode cX6_readBid 23 = .ok (.invokestatic 143, 3) := dc_at daX6_readBid_0 14 rfl
theorem dX6_readBid_26 : decode cX6_readBid 26 = .ok (.ifCond .eq 13, 3) := dc_at daX6_readBid_0 15 rfl
theorem dX6_readBid_29 : decode cX6_readBid 29 = .ok (.aload_n 0, 1) := dc_at daX6_readBid_0 16 rfl
theorem dX6_readBid_30 : decode cX6_readBid 30 = .ok (.getfield 12, 3) := dc_at daX6_readBid_0 17 rfl
theorem dX6_readBid_33 : decode cX6_readBid 33 = .ok (.getfield 147, 3) := dc_at daX6_readBid_0 18 rfl
theorem dX6_readBid_36 : decode cX6_readBid 36 = .ok (.iload_n 1, 1) := dc_at daX6_readBid_0 19 rfl
theorem dX6_readBid_37 : decode cX6_readBid 37 = .ok (.iload_n 2, 1) := dc_at daX6_readBid_0 20 rfl
theorem dX6_readBid_38 : decode cX6_readBid 38 = .ok (.iastore, 1) := dc_at daX6_readBid_0 21 rfl
theorem dX6_readBid_39 : decode cX6_readBid 39 = .ok (.return_, 1) := dc_at daX6_readBid_0 22 rfl
def dlX6_endLine_0 : List (Nat × Jvm.ClassFile.Instr × Nat) := [(0, .aload_n 0, 1), (1, .getfield 18, 3), (4, .ifCond .ne 31, 3), (7, .aload_n 0, 1), (8, .getfield 38, 3), (11, .iconst 3, 1), (12, .if_icmp .ne 23, 3), (15, .aload_n 0, 1), (16, .getfield 12, 3), (19, .dup, 1), (20, .getfield 151, 3), (23, .iconst 1, 1), (24, .iadd, 1), (25, .putfield 151, 3), (28, .aload_n 0, 1), (29, .invokevirtual 62, 3), (32, .goto 8, 3), (35, .aload_n 0, 1), (36, .iconst 2, 1), (37, .invokevirtual 109, 3), (40, .return_, 1)]
theorem daX6_endLine_0 : dlX6_endLine_0.all (dcK cX6_endLine) = true := by decide +kernel
theorem dX6_endLine_0 : decode cX6_endLine 0 = .ok (.aload_n 0, 1) := dc_at daX6_endLine_0 0 rfl
theorem dX6_endLine_1 : decode cX6_endLine 1 = .ok (.getfield 18, 3) := dc_at daX6_endLine_0 1 rfl
theorem dX6_endLine_4 : decode cX6_endLine 4 = .ok (.ifCond .ne 31, 3) := dc_at daX6_endLine_0 2 rfl
theorem dX6_endLine_7 : decode cX6_endLine 7 = .ok (.aload_n 0, 1) := dc_at daX6_endLine_0 3 rfl
theorem dX6_endLine_8 : decode cX6_endLine 8 = .ok (.getfield 38, 3) := dc_at daX6_endLine_0 4 rfl
theorem dX6_endLine_11 : decode cX6_endLine 11 = .ok (.iconst 3, 1) := dc_at daX6_endLine_0 5 rfl
theorem dX6_endLine_12 : decode cX6_endLine 12 = .ok (.if_icmp .ne 23, 3) := dc_at daX6_endLine_0 6 rfl
theorem dX6_endLine_15 : decode cX6_endLine 15 = .ok (.aload_n 0, 1) := dc_at daX6_endLine_0 7 rfl
theorem dX6_endLine_16 : decode cX6_endLine 16 = .ok (.getfield 12, 3) := dc_at daX6_endLine_0 8 rfl
theorem dX6_endLine_19 : decode cX6_endLine 19 = .ok (.dup, 1) := dc_at daX6_endLine_0 9 rfl
theorem dX6_endLine_20 : decode cX6_endLine 20 = .ok (.getfield 151, 3) := dc_at daX6_endLine_0 10 rfl
theorem dX6_endLine_23 : decode cX6_endLine 23 = .ok (.iconst 1, 1) := dc_at daX6_endLine_0 11 rfl
theorem dX6_endLine_24 : decode cX6_endLine 24 = .ok (.iadd, 1) := dc_at daX6_endLine_0 12 rfl
theorem dX6_endLine_25 : decode cX6_endLine 25 = .ok (.putfield 151, 3) := dc_at daX6_endLine_0 13 rfl
theorem dX6_endLine_28 : decode cX6_endLine 28 = .ok (.aload_n 0, 1) := dc_at daX6_endLine_0 14 rfl
theorem dX6_endLine_29 : decode cX6_endLine 29 = .ok (.invokevirtual 62, 3) := dc_at daX6_endLine_0 15 rfl
theorem dX6_endLine_32 : decode cX6_endLine 32 = .ok (.goto 8, 3) := dc_at daX6_endLine_0 16 rfl
theorem dX6_endLine_35 : decode cX6_endLine 35 = .ok (.aload_n 0, 1) := dc_at daX6_endLine_0 17 rfl
theorem dX6_endLine_36 : decode cX6_endLine 36 = .ok (.iconst 2, 1) := dc_at daX6_endLine_0 18 rfl
theorem dX6_endLine_37 : decode cX6_endLine 37 = .ok (.invokevirtual 109, 3) := dc_at daX6_endLine_0 19 rfl
theorem dX6_endLine_40 : decode cX6_endLine 40 = .ok (.return_, 1) := dc_at daX6_endLine_0 20 rfl
def dlX6_takeWord_0 : List (Nat × Jvm.ClassFile.Instr × Nat) := [(0, .aload_n 0, 1), (1, .getfield 18, 3), (4, .ifCond .ne 11, 3), (7, .aload_n 0, 1), (8, .aload_n 1, 1), (9, .invokevirtual 70, 3), (12, .ifCond .ne 5, 3), (15, .iconst 0, 1), (16, .ireturn, 1), (17, .aload_n 0, 1), (18, .invokevirtual 62, 3), (21, .iconst 1, 1), (22, .ireturn, 1)]
theorem daX6_takeWord_0 : dlX6_takeWord_0.all (dcK cX6_takeWord) = true := by decide +kernel
theorem dX6_takeWord_0 : decode cX6_takeWord 0 = .ok (.aload_n 0, 1) := dc_at daX6_takeWord_0 0 rfl
theorem dX6_takeWord_1 : decode cX6_takeWord 1 = .ok (.getfield 18, 3) := dc_at daX6_takeWord_0 1 rfl
theorem dX6_takeWord_4 : decode cX6_takeWord 4 = .ok (.ifCond .ne 11, 3) := dc_at daX6_takeWord_0 2 rfl
theorem dX6_takeWord_7 : decode cX6_takeWord 7 = .ok (.aload_n 0, 1) := dc_at daX6_takeWord_0 3 rfl
theorem dX6_takeWord_8 : decode cX6_takeWord 8 = .ok (.aload_n 1, 1) := dc_at daX6_takeWord_0 4 rfl
theorem dX6_takeWord_9 : decode cX6_takeWord 9 = .ok (.invokevirtual 70, 3) := dc_at daX6_takeWord_0 5 rfl
theorem dX6_takeWord_12 : decode cX6_takeWord 12 = .ok (.ifCond .ne 5, 3) := dc_at daX6_takeWord_0 6 rfl
theorem dX6_takeWord_15 : decode cX6_takeWord 15 = .ok (.iconst 0, 1) := dc_at daX6_takeWord_0 7 rfl
theorem dX6_takeWord_16 : decode cX6_takeWord 16 = .ok (.ireturn, 1) := dc_at daX6_takeWord_0 8 rfl
theorem dX6_takeWord_17 : decode cX6_takeWord 17 = .ok (.aload_n 0, 1) := dc_at daX6_takeWord_0 9 rfl
theorem dX6_takeWord_18 : decode cX6_takeWord 18 = .ok (.invokevirtual 62, 3) := dc_at daX6_takeWord_0 10 rfl
theorem dX6_takeWord_21 : decode cX6_takeWord 21 = .ok (.iconst 1, 1) := dc_at daX6_takeWord_0 11 rfl
theorem dX6_takeWord_22 : decode cX6_takeWord 22 = .ok (.ireturn, 1) := dc_at daX6_takeWord_0 12 rfl
def dlX6_takeNumber_0 : List (Nat × Jvm.ClassFile.Instr × Nat) := [(0, .aload_n 0, 1), (1, .getfield 18, 3), (4, .ifCond .eq 5, 3), (7, .iload_n 1, 1), (8, .ireturn, 1), (9, .aload_n 0, 1), (10, .getfield 38, 3), (13, .iconst 2, 1), (14, .if_icmp .eq 10, 3), (17, .aload_n 0, 1), (18, .iconst 2, 1), (19, .invokevirtual 109, 3), (22, .iload_n 1, 1), (23, .ireturn, 1), (24, .aload_n 0, 1), (25, .getfield 41, 3), (28, .iload_n 1, 1), (29, .if_icmp .lt 11, 3), (32, .aload_n 0, 1), (33, .getfield 41, 3), (36, .iload_n 2, 1), (37, .if_icmp .le 10, 3), (40, .aload_n 0, 1), (41, .iconst 3, 1)]
theorem daX6_takeNumber_0 : dlX6_takeNumber_0.all (dcK cX6_takeNumber) = true := by decide +kernel
theorem dX6_takeNumber_0 : decode cX6_takeNumber 0 = .ok (.aload_n 0, 1) := dc_at daX6_takeNumber_0 0 rfl
theorem dX6_takeNumber_1 : decode cX6_takeNumber 1 = .ok (.getfield 18, 3) := dc_at daX6_takeNumber_0 1 rfl
theorem dX6_takeNumber_4 : decode cX6_takeNumber 4 = .ok (.ifCond .eq 5, 3) := dc_at daX6_takeNumber_0 2 rfl
theorem dX6_takeNumber_7 : decode cX6_takeNumber 7 = .ok (.iload_n 1, 1) := dc_at daX6_takeNumber_0 3 rfl
theorem dX6_takeNumber_8 : decode cX6_takeNumber 8 = .ok (.ireturn, 1) := dc_at daX6_takeNumber_0 4 rfl
theorem dX6_takeNumber_9 : decode cX6_takeNumber 9 = .ok (.aload_n 0, 1) := dc_at daX6_takeNumber_0 5 rfl
theorem dX6_takeNumber_10 : decode cX6_takeNumber 10 = .ok (.getfield 38, 3) := dc_at daX6_takeNumber_0 6 rfl
theorem dX6_takeNumber_13 : decode cX6_takeNumber 13 = .ok (.iconst 2, 1) := dc_at daX6_takeNumber_0 7 rfl
theorem dX6_takeNumber_14 : decode cX6_takeNumber 14 = .ok (.if_icmp .eq 10, 3) := dc_at daX6_takeNumber_0 8 rfl
theorem dX6_takeNumber_17 : decode cX6_takeNumber 17 = .ok (.aload_n 0, 1) := dc_at daX6_takeNumber_0 9 rfl
theorem dX6_takeNumber_18 : decode cX6_takeNumber 18 = .ok (.iconst 2, 1) := dc_at daX6_takeNumber_0 10 rfl
theorem dX6_takeNumber_19 : decode cX6_takeNumber 19 = .ok (.invokevirtual 109, 3) := dc_at daX6_takeNumber_0 11 rfl
theorem dX6_takeNumber_22 : decode cX6_takeNumber 22 = .ok (.iload_n 1, 1) := dc_at daX6_takeNumber_0 12 rfl
theorem dX6_takeNumber_23 : decode cX6_takeNumber 23 = .ok (.ireturn, 1) := dc_at daX6_takeNumber_0 13 rfl
theorem dX6_takeNumber_24 : decode cX6_takeNumber 24 = .ok (.aload_n 0, 1) := dc_at daX6_takeNumber_0 14 rfl
theorem dX6_takeNumber_25 : decode cX6_takeNumber 25 = .ok (.getfield 41, 3) := dc_at daX6_takeNumber_0 15 rfl
theorem dX6_takeNumber_28 : decode cX6_takeNumber 28 = .ok (.iload_n 1, 1) := dc_at daX6_takeNumber_0 16 rfl
theorem dX6_takeNumber_29 : decode cX6_takeNumber 29 = .ok (.if_icmp .lt 11, 3) := dc_at daX6_takeNumber_0 17 rfl
theorem dX6_takeNumber_32 : decode cX6_takeNumber 32 = .ok (.aload_n 0, 1) := dc_at daX6_takeNumber_0 18 rfl
theorem dX6_takeNumber_33 : decode cX6_takeNumber 33 = .ok (.getfield 41, 3) := dc_at daX6_takeNumber_0 19 rfl
theorem dX6_takeNumber_36 : decode cX6_takeNumber 36 = .ok (.iload_n 2, 1) := dc_at daX6_takeNumber_0 20 rfl
theorem dX6_takeNumber_37 : decode cX6_takeNumber 37 = .ok (.if_icmp .le 10, 3) := dc_at daX6_takeNumber_0 21 rfl
theorem dX6_takeNumber_40 : decode cX6_takeNumber 40 = .ok (.aload_n 0, 1) := dc_at daX6_takeNumber_0 22 rfl
theorem dX6_takeNumber_41 : decode cX6_takeNumber 41 = .ok (.iconst 3, 1) := dc_at daX6_takeNumber_0 23 rfl
def dlX6_takeNumber_1 : List (Nat × Jvm.ClassFile.Instr × Nat) := [(42, .invokevirtual 109, 3), (45, .iload_n 1, 1), (46, .ireturn, 1), (47, .aload_n 0, 1), (48, .getfield 41, 3), (51, .istore_n 3, 1), (52, .aload_n 0, 1), (53, .invokevirtual 62, 3), (56, .iload_n 3, 1), (57, .ireturn, 1)]
theorem daX6_takeNumber_1 : dlX6_takeNumber_1.all (dcK cX6_takeNumber) = true := by decide +kernel
theorem dX6_takeNumber_42 : decode cX6_takeNumber 42 = .ok (.invokevirtual 109, 3) := dc_at daX6_takeNumber_1 0 rfl
theorem dX6_takeNumber_45 : decode cX6_takeNumber 45 = .ok (.iload_n 1, 1) := dc_at daX6_takeNumber_1 1 rfl
theorem dX6_takeNumber_46 : decode cX6_takeNumber 46 = .ok (.ireturn, 1) := dc_at daX6_takeNumber_1 2 rfl
theorem dX6_takeNumber_47 : decode cX6_takeNumber 47 = .ok (.aload_n 0, 1) := dc_at daX6_takeNumber_1 3 rfl
theorem dX6_takeNumber_48 : decode cX6_takeNumber 48 = .ok (.getfield 41, 3) := dc_at daX6_takeNumber_1 4 rfl
theorem dX6_takeNumber_51 : decode cX6_takeNumber 51 = .ok (.istore_n 3, 1) := dc_at daX6_takeNumber_1 5 rfl
theorem dX6_takeNumber_52 : decode cX6_takeNumber 52 = .ok (.aload_n 0, 1) := dc_at daX6_takeNumber_1 6 rfl
theorem dX6_takeNumber_53 : decode cX6_takeNumber 53 = .ok (.invokevirtual 62, 3) := dc_at daX6_takeNumber_1 7 rfl
theorem dX6_takeNumber_56 : decode cX6_takeNumber 56 = .ok (.iload_n 3, 1) := dc_at daX6_takeNumber_1 8 rfl
theorem dX6_takeNumber_57 : decode cX6_takeNumber 57 = .ok (.ireturn, 1) := dc_at daX6_takeNumber_1 9 rfl
def dlX6_refuse_0 : List (Nat × Jvm.ClassFile.Instr × Nat) := [(0, .aload_n 0, 1), (1, .getfield 18, 3), (4, .ifCond .ne 28, 3), (7, .aload_n 0, 1), (8, .aload_n 0, 1), (9, .getfield 38, 3), (12, .iconst 4, 1), (13, .if_icmp .ne 7, 3), (16, .iconst 1, 1), (17, .goto 4, 3), (20, .iload_n 1, 1), (21, .putfield 18, 3), (24, .aload_n 0, 1), (25, .aload_n 0, 1), (26, .getfield 32, 3), (29, .putfield 22, 3), (32, .return_, 1)]
theorem daX6_refuse_0 : dlX6_refuse_0.all (dcK cX6_refuse) = true := by decide +kernel
theorem dX6_refuse_0 : decode cX6_refuse 0 = .ok (.aload_n 0, 1) := dc_at daX6_refuse_0 0 rfl
theorem dX6_refuse_1 : decode cX6_refuse 1 = .ok (.getfield 18, 3) := dc_at daX6_refuse_0 1 rfl
theorem dX6_refuse_4 : decode cX6_refuse 4 = .ok (.ifCond .ne 28, 3) := dc_at daX6_refuse_0 2 rfl
theorem dX6_refuse_7 : decode cX6_refuse 7 = .ok (.aload_n 0, 1) := dc_at daX6_refuse_0 3 rfl
theorem dX6_refuse_8 : decode cX6_refuse 8 = .ok (.aload_n 0, 1) := dc_at daX6_refuse_0 4 rfl
theorem dX6_refuse_9 : decode cX6_refuse 9 = .ok (.getfield 38, 3) := dc_at daX6_refuse_0 5 rfl
theorem dX6_refuse_12 : decode cX6_refuse 12 = .ok (.iconst 4, 1) := dc_at daX6_refuse_0 6 rfl
theorem dX6_refuse_13 : decode cX6_refuse 13 = .ok (.if_icmp .ne 7, 3) := dc_at daX6_refuse_0 7 rfl
theorem dX6_refuse_16 : decode cX6_refuse 16 = .ok (.iconst 1, 1) := dc_at daX6_refuse_0 8 rfl
theorem dX6_refuse_17 : decode cX6_refuse 17 = .ok (.goto 4, 3) := dc_at daX6_refuse_0 9 rfl
theorem dX6_refuse_20 : decode cX6_refuse 20 = .ok (.iload_n 1, 1) := dc_at daX6_refuse_0 10 rfl
theorem dX6_refuse_21 : decode cX6_refuse 21 = .ok (.putfield 18, 3) := dc_at daX6_refuse_0 11 rfl
theorem dX6_refuse_24 : decode cX6_refuse 24 = .ok (.aload_n 0, 1) := dc_at daX6_refuse_0 12 rfl
theorem dX6_refuse_25 : decode cX6_refuse 25 = .ok (.aload_n 0, 1) := dc_at daX6_refuse_0 13 rfl
theorem dX6_refuse_26 : decode cX6_refuse 26 = .ok (.getfield 32, 3) := dc_at daX6_refuse_0 14 rfl
theorem dX6_refuse_29 : decode cX6_refuse 29 = .ok (.putfield 22, 3) := dc_at daX6_refuse_0 15 rfl
theorem dX6_refuse_32 : decode cX6_refuse 32 = .ok (.return_, 1) := dc_at daX6_refuse_0 16 rfl
def dlX6_isWord_0 : List (Nat × Jvm.ClassFile.Instr × Nat) := [(0, .aload_n 0, 1), (1, .getfield 38, 3), (4, .iconst 1, 1), (5, .if_icmp .ne 19, 3), (8, .aload_n 0, 1), (9, .getfield 35, 3), (12, .aload_n 0, 1), (13, .getfield 32, 3), (16, .isub, 1), (17, .aload_n 1, 1), (18, .invokevirtual 154, 3), (21, .if_icmp .eq 5, 3), (24, .iconst 0, 1), (25, .ireturn, 1), (26, .iconst 0, 1), (27, .istore_n 2, 1), (28, .iload_n 2, 1), (29, .aload_n 1, 1), (30, .invokevirtual 154, 3), (33, .if_icmp .ge 30, 3), (36, .aload_n 0, 1), (37, .getfield 25, 3), (40, .aload_n 0, 1), (41, .getfield 32, 3)]
theorem daX6_isWord_0 : dlX6_isWord_0.all (dcK cX6_isWord) = true := by decide +kernel
theorem dX6_isWord_0 : decode cX6_isWord 0 = .ok (.aload_n 0, 1) := dc_at daX6_isWord_0 0 rfl
theorem dX6_isWord_1 : decode cX6_isWord 1 = .ok (.getfield 38, 3) := dc_at daX6_isWord_0 1 rfl
theorem dX6_isWord_4 : decode cX6_isWord 4 = .ok (.iconst 1, 1) := dc_at daX6_isWord_0 2 rfl
theorem dX6_isWord_5 : decode cX6_isWord 5 = .ok (.if_icmp .ne 19, 3) := dc_at daX6_isWord_0 3 rfl
theorem dX6_isWord_8 : decode cX6_isWord 8 = .ok (.aload_n 0, 1) := dc_at daX6_isWord_0 4 rfl
theorem dX6_isWord_9 : decode cX6_isWord 9 = .ok (.getfield 35, 3) := dc_at daX6_isWord_0 5 rfl
theorem dX6_isWord_12 : decode cX6_isWord 12 = .ok (.aload_n 0, 1) := dc_at daX6_isWord_0 6 rfl
theorem dX6_isWord_13 : decode cX6_isWord 13 = .ok (.getfield 32, 3) := dc_at daX6_isWord_0 7 rfl
theorem dX6_isWord_16 : decode cX6_isWord 16 = .ok (.isub, 1) := dc_at daX6_isWord_0 8 rfl
theorem dX6_isWord_17 : decode cX6_isWord 17 = .ok (.aload_n 1, 1) := dc_at daX6_isWord_0 9 rfl
theorem dX6_isWord_18 : decode cX6_isWord 18 = .ok (.invokevirtual 154, 3) := dc_at daX6_isWord_0 10 rfl
theorem dX6_isWord_21 : decode cX6_isWord 21 = .ok (.if_icmp .eq 5, 3) := dc_at daX6_isWord_0 11 rfl
theorem dX6_isWord_24 : decode cX6_isWord 24 = .ok (.iconst 0, 1) := dc_at daX6_isWord_0 12 rfl
theorem dX6_isWord_25 : decode cX6_isWord 25 = .ok (.ireturn, 1) := dc_at daX6_isWord_0 13 rfl
theorem dX6_isWord_26 : decode cX6_isWord 26 = .ok (.iconst 0, 1) := dc_at daX6_isWord_0 14 rfl
theorem dX6_isWord_27 : decode cX6_isWord 27 = .ok (.istore_n 2, 1) := dc_at daX6_isWord_0 15 rfl
theorem dX6_isWord_28 : decode cX6_isWord 28 = .ok (.iload_n 2, 1) := dc_at daX6_isWord_0 16 rfl
theorem dX6_isWord_29 : decode cX6_isWord 29 = .ok (.aload_n 1, 1) := dc_at daX6_isWord_0 17 rfl
theorem dX6_isWord_30 : decode cX6_isWord 30 = .ok (.invokevirtual 154, 3) := dc_at daX6_isWord_0 18 rfl
theorem dX6_isWord_33 : decode cX6_isWord 33 = .ok (.if_icmp .ge 30, 3) := dc_at daX6_isWord_0 19 rfl
theorem dX6_isWord_36 : decode cX6_isWord 36 = .ok (.aload_n 0, 1) := dc_at daX6_isWord_0 20 rfl
theorem dX6_isWord_37 : decode cX6_isWord 37 = .ok (.getfield 25, 3) := dc_at daX6_isWord_0 21 rfl
theorem dX6_isWord_40 : decode cX6_isWord 40 = .ok (.aload_n 0, 1) := dc_at daX6_isWord_0 22 rfl
theorem dX6_isWord_41 : decode cX6_isWord 41 = .ok (.getfield 32, 3) := dc_at daX6_isWord_0 23 rfl
def dlX6_isWord_1 : List (Nat × Jvm.ClassFile.Instr × Nat) := [(44, .iload_n 2, 1), (45, .iadd, 1), (46, .baload, 1), (47, .aload_n 1, 1), (48, .iload_n 2, 1), (49, .invokevirtual 159, 3), (52, .if_icmp .eq 5, 3), (55, .iconst 0, 1), (56, .ireturn, 1), (57, .iinc 2 1, 3), (60, .goto (-32), 3), (63, .iconst 1, 1), (64, .ireturn, 1)]
theorem daX6_isWord_1 : dlX6_isWord_1.all (dcK cX6_isWord) = true := by decide +kernel
theorem dX6_isWord_44 : decode cX6_isWord 44 = .ok (.iload_n 2, 1) := dc_at daX6_isWord_1 0 rfl
theorem dX6_isWord_45 : decode cX6_isWord 45 = .ok (.iadd, 1) := dc_at daX6_isWord_1 1 rfl
theorem dX6_isWord_46 : decode cX6_isWord 46 = .ok (.baload, 1) := dc_at daX6_isWord_1 2 rfl
theorem dX6_isWord_47 : decode cX6_isWord 47 = .ok (.aload_n 1, 1) := dc_at daX6_isWord_1 3 rfl
theorem dX6_isWord_48 : decode cX6_isWord 48 = .ok (.iload_n 2, 1) := dc_at daX6_isWord_1 4 rfl
theorem dX6_isWord_49 : decode cX6_isWord 49 = .ok (.invokevirtual 159, 3) := dc_at daX6_isWord_1 5 rfl
theorem dX6_isWord_52 : decode cX6_isWord 52 = .ok (.if_icmp .eq 5, 3) := dc_at daX6_isWord_1 6 rfl
theorem dX6_isWord_55 : decode cX6_isWord 55 = .ok (.iconst 0, 1) := dc_at daX6_isWord_1 7 rfl
theorem dX6_isWord_56 : decode cX6_isWord 56 = .ok (.ireturn, 1) := dc_at daX6_isWord_1 8 rfl
theorem dX6_isWord_57 : decode cX6_isWord 57 = .ok (.iinc 2 1, 3) := dc_at daX6_isWord_1 9 rfl
theorem dX6_isWord_60 : decode cX6_isWord 60 = .ok (.goto (-32), 3) := dc_at daX6_isWord_1 10 rfl
theorem dX6_isWord_63 : decode cX6_isWord 63 = .ok (.iconst 1, 1) := dc_at daX6_isWord_1 11 rfl
theorem dX6_isWord_64 : decode cX6_isWord 64 = .ok (.ireturn, 1) := dc_at daX6_isWord_1 12 rfl
def dlX6_advance_0 : List (Nat × Jvm.ClassFile.Instr × Nat) := [(0, .aload_n 0, 1), (1, .aload_n 0, 1), (2, .iconst 1, 1), (3, .aload_n 0, 1), (4, .getfield 35, 3), (7, .invokevirtual 163, 3), (10, .putfield 32, 3), (13, .aload_n 0, 1), (14, .aload_n 0, 1), (15, .getfield 32, 3), (18, .iconst 1, 1), (19, .iadd, 1), (20, .putfield 35, 3), (23, .aload_n 0, 1), (24, .aload_n 0, 1), (25, .getfield 32, 3), (28, .invokevirtual 166, 3), (31, .tableswitch 120 0 4 #[104, 120, 33, 54, 96], 33), (64, .aload_n 0, 1), (65, .aload_n 0, 1), (66, .iconst 2, 1), (67, .aload_n 0, 1), (68, .getfield 32, 3), (71, .invokevirtual 163, 3)]
theorem daX6_advance_0 : dlX6_advance_0.all (dcK cX6_advance) = true := by decide +kernel
theorem dX6_advance_0 : decode cX6_advance 0 = .ok (.aload_n 0, 1) := dc_at daX6_advance_0 0 rfl
theorem dX6_advance_1 : decode cX6_advance 1 = .ok (.aload_n 0, 1) := dc_at daX6_advance_0 1 rfl
theorem dX6_advance_2 : decode cX6_advance 2 = .ok (.iconst 1, 1) := dc_at daX6_advance_0 2 rfl
theorem dX6_advance_3 : decode cX6_advance 3 = .ok (.aload_n 0, 1) := dc_at daX6_advance_0 3 rfl
theorem dX6_advance_4 : decode cX6_advance 4 = .ok (.getfield 35, 3) := dc_at daX6_advance_0 4 rfl
theorem dX6_advance_7 : decode cX6_advance 7 = .ok (.invokevirtual 163, 3) := dc_at daX6_advance_0 5 rfl
theorem dX6_advance_10 : decode cX6_advance 10 = .ok (.putfield 32, 3) := dc_at daX6_advance_0 6 rfl
theorem dX6_advance_13 : decode cX6_advance 13 = .ok (.aload_n 0, 1) := dc_at daX6_advance_0 7 rfl
theorem dX6_advance_14 : decode cX6_advance 14 = .ok (.aload_n 0, 1) := dc_at daX6_advance_0 8 rfl
theorem dX6_advance_15 : decode cX6_advance 15 = .ok (.getfield 32, 3) := dc_at daX6_advance_0 9 rfl
theorem dX6_advance_18 : decode cX6_advance 18 = .ok (.iconst 1, 1) := dc_at daX6_advance_0 10 rfl
theorem dX6_advance_19 : decode cX6_advance 19 = .ok (.iadd, 1) := dc_at daX6_advance_0 11 rfl
theorem dX6_advance_20 : decode cX6_advance 20 = .ok (.putfield 35, 3) := dc_at daX6_advance_0 12 rfl
theorem dX6_advance_23 : decode cX6_advance 23 = .ok (.aload_n 0, 1) := dc_at daX6_advance_0 13 rfl
theorem dX6_advance_24 : decode cX6_advance 24 = .ok (.aload_n 0, 1) := dc_at daX6_advance_0 14 rfl
theorem dX6_advance_25 : decode cX6_advance 25 = .ok (.getfield 32, 3) := dc_at daX6_advance_0 15 rfl
theorem dX6_advance_28 : decode cX6_advance 28 = .ok (.invokevirtual 166, 3) := dc_at daX6_advance_0 16 rfl
theorem dX6_advance_31 : decode cX6_advance 31 = .ok (.tableswitch 120 0 4 #[104, 120, 33, 54, 96], 33) := dc_at daX6_advance_0 17 rfl
theorem dX6_advance_64 : decode cX6_advance 64 = .ok (.aload_n 0, 1) := dc_at daX6_advance_0 18 rfl
theorem dX6_advance_65 : decode cX6_advance 65 = .ok (.aload_n 0, 1) := dc_at daX6_advance_0 19 rfl
theorem dX6_advance_66 : decode cX6_advance 66 = .ok (.iconst 2, 1) := dc_at daX6_advance_0 20 rfl
theorem dX6_advance_67 : decode cX6_advance 67 = .ok (.aload_n 0, 1) := dc_at daX6_advance_0 21 rfl
theorem dX6_advance_68 : decode cX6_advance 68 = .ok (.getfield 32, 3) := dc_at daX6_advance_0 22 rfl
theorem dX6_advance_71 : decode cX6_advance 71 = .ok (.invokevirtual 163, 3) := dc_at daX6_advance_0 23 rfl
def dlX6_advance_1 : List (Nat × Jvm.ClassFile.Instr × Nat) := [(74, .putfield 35, 3), (77, .aload_n 0, 1), (78, .iconst 1, 1), (79, .putfield 38, 3), (82, .goto 74, 3), (85, .aload_n 0, 1), (86, .aload_n 0, 1), (87, .iconst 3, 1), (88, .aload_n 0, 1), (89, .getfield 32, 3), (92, .invokevirtual 163, 3), (95, .putfield 35, 3), (98, .aload_n 0, 1), (99, .aload_n 0, 1), (100, .getfield 35, 3), (103, .aload_n 0, 1), (104, .getfield 32, 3), (107, .isub, 1), (108, .iconst 3, 1), (109, .if_icmp .le 7, 3), (112, .iconst 4, 1), (113, .goto 4, 3), (116, .iconst 2, 1), (117, .putfield 38, 3)]
theorem daX6_advance_1 : dlX6_advance_1.all (dcK cX6_advance) = true := by decide +kernel
theorem dX6_advance_74 : decode cX6_advance 74 = .ok (.putfield 35, 3) := dc_at daX6_advance_1 0 rfl
theorem dX6_advance_77 : decode cX6_advance 77 = .ok (.aload_n 0, 1) := dc_at daX6_advance_1 1 rfl
theorem dX6_advance_78 : decode cX6_advance 78 = .ok (.iconst 1, 1) := dc_at daX6_advance_1 2 rfl
theorem dX6_advance_79 : decode cX6_advance 79 = .ok (.putfield 38, 3) := dc_at daX6_advance_1 3 rfl
theorem dX6_advance_82 : decode cX6_advance 82 = .ok (.goto 74, 3) := dc_at daX6_advance_1 4 rfl
theorem dX6_advance_85 : decode cX6_advance 85 = .ok (.aload_n 0, 1) := dc_at daX6_advance_1 5 rfl
theorem dX6_advance_86 : decode cX6_advance 86 = .ok (.aload_n 0, 1) := dc_at daX6_advance_1 6 rfl
theorem dX6_advance_87 : decode cX6_advance 87 = .ok (.iconst 3, 1) := dc_at daX6_advance_1 7 rfl
theorem dX6_advance_88 : decode cX6_advance 88 = .ok (.aload_n 0, 1) := dc_at daX6_advance_1 8 rfl
theorem dX6_advance_89 : decode cX6_advance 89 = .ok (.getfield 32, 3) := dc_at daX6_advance_1 9 rfl
theorem dX6_advance_92 : decode cX6_advance 92 = .ok (.invokevirtual 163, 3) := dc_at daX6_advance_1 10 rfl
theorem dX6_advance_95 : decode cX6_advance 95 = .ok (.putfield 35, 3) := dc_at daX6_advance_1 11 rfl
theorem dX6_advance_98 : decode cX6_advance 98 = .ok (.aload_n 0, 1) := dc_at daX6_advance_1 12 rfl
theorem dX6_advance_99 : decode cX6_advance 99 = .ok (.aload_n 0, 1) := dc_at daX6_advance_1 13 rfl
theorem dX6_advance_100 : decode cX6_advance 100 = .ok (.getfield 35, 3) := dc_at daX6_advance_1 14 rfl
theorem dX6_advance_103 : decode cX6_advance 103 = .ok (.aload_n 0, 1) := dc_at daX6_advance_1 15 rfl
theorem dX6_advance_104 : decode cX6_advance 104 = .ok (.getfield 32, 3) := dc_at daX6_advance_1 16 rfl
theorem dX6_advance_107 : decode cX6_advance 107 = .ok (.isub, 1) := dc_at daX6_advance_1 17 rfl
theorem dX6_advance_108 : decode cX6_advance 108 = .ok (.iconst 3, 1) := dc_at daX6_advance_1 18 rfl
theorem dX6_advance_109 : decode cX6_advance 109 = .ok (.if_icmp .le 7, 3) := dc_at daX6_advance_1 19 rfl
theorem dX6_advance_112 : decode cX6_advance 112 = .ok (.iconst 4, 1) := dc_at daX6_advance_1 20 rfl
theorem dX6_advance_113 : decode cX6_advance 113 = .ok (.goto 4, 3) := dc_at daX6_advance_1 21 rfl
theorem dX6_advance_116 : decode cX6_advance 116 = .ok (.iconst 2, 1) := dc_at daX6_advance_1 22 rfl
theorem dX6_advance_117 : decode cX6_advance 117 = .ok (.putfield 38, 3) := dc_at daX6_advance_1 23 rfl
def dlX6_advance_2 : List (Nat × Jvm.ClassFile.Instr × Nat) := [(120, .aload_n 0, 1), (121, .invokevirtual 170, 3), (124, .goto 32, 3), (127, .aload_n 0, 1), (128, .iconst 3, 1), (129, .putfield 38, 3), (132, .goto 24, 3), (135, .aload_n 0, 1), (136, .aload_n 0, 1), (137, .getfield 32, 3), (140, .putfield 35, 3), (143, .aload_n 0, 1), (144, .iconst 0, 1), (145, .putfield 38, 3), (148, .goto 8, 3), (151, .aload_n 0, 1), (152, .iconst 4, 1), (153, .putfield 38, 3), (156, .return_, 1)]
theorem daX6_advance_2 : dlX6_advance_2.all (dcK cX6_advance) = true := by decide +kernel
theorem dX6_advance_120 : decode cX6_advance 120 = .ok (.aload_n 0, 1) := dc_at daX6_advance_2 0 rfl
theorem dX6_advance_121 : decode cX6_advance 121 = .ok (.invokevirtual 170, 3) := dc_at daX6_advance_2 1 rfl
theorem dX6_advance_124 : decode cX6_advance 124 = .ok (.goto 32, 3) := dc_at daX6_advance_2 2 rfl
theorem dX6_advance_127 : decode cX6_advance 127 = .ok (.aload_n 0, 1) := dc_at daX6_advance_2 3 rfl
theorem dX6_advance_128 : decode cX6_advance 128 = .ok (.iconst 3, 1) := dc_at daX6_advance_2 4 rfl
theorem dX6_advance_129 : decode cX6_advance 129 = .ok (.putfield 38, 3) := dc_at daX6_advance_2 5 rfl
theorem dX6_advance_132 : decode cX6_advance 132 = .ok (.goto 24, 3) := dc_at daX6_advance_2 6 rfl
theorem dX6_advance_135 : decode cX6_advance 135 = .ok (.aload_n 0, 1) := dc_at daX6_advance_2 7 rfl
theorem dX6_advance_136 : decode cX6_advance 136 = .ok (.aload_n 0, 1) := dc_at daX6_advance_2 8 rfl
theorem dX6_advance_137 : decode cX6_advance 137 = .ok (.getfield 32, 3) := dc_at daX6_advance_2 9 rfl
theorem dX6_advance_140 : decode cX6_advance 140 = .ok (.putfield 35, 3) := dc_at daX6_advance_2 10 rfl
theorem dX6_advance_143 : decode cX6_advance 143 = .ok (.aload_n 0, 1) := dc_at daX6_advance_2 11 rfl
theorem dX6_advance_144 : decode cX6_advance 144 = .ok (.iconst 0, 1) := dc_at daX6_advance_2 12 rfl
theorem dX6_advance_145 : decode cX6_advance 145 = .ok (.putfield 38, 3) := dc_at daX6_advance_2 13 rfl
theorem dX6_advance_148 : decode cX6_advance 148 = .ok (.goto 8, 3) := dc_at daX6_advance_2 14 rfl
theorem dX6_advance_151 : decode cX6_advance 151 = .ok (.aload_n 0, 1) := dc_at daX6_advance_2 15 rfl
theorem dX6_advance_152 : decode cX6_advance 152 = .ok (.iconst 4, 1) := dc_at daX6_advance_2 16 rfl
theorem dX6_advance_153 : decode cX6_advance 153 = .ok (.putfield 38, 3) := dc_at daX6_advance_2 17 rfl
theorem dX6_advance_156 : decode cX6_advance 156 = .ok (.return_, 1) := dc_at daX6_advance_2 18 rfl
def dlX6_endOf_0 : List (Nat × Jvm.ClassFile.Instr × Nat) := [(0, .iload_n 2, 1), (1, .istore_n 3, 1), (2, .iload_n 3, 1), (3, .aload_n 0, 1), (4, .getfield 29, 3), (7, .if_icmp .ge 18, 3), (10, .aload_n 0, 1), (11, .iload_n 3, 1), (12, .invokevirtual 166, 3), (15, .iload_n 1, 1), (16, .if_icmp .ne 9, 3), (19, .iinc 3 1, 3), (22, .goto (-20), 3), (25, .iload_n 3, 1), (26, .ireturn, 1)]
theorem daX6_endOf_0 : dlX6_endOf_0.all (dcK cX6_endOf) = true := by decide +kernel
theorem dX6_endOf_0 : decode cX6_endOf 0 = .ok (.iload_n 2, 1) := dc_at daX6_endOf_0 0 rfl
theorem dX6_endOf_1 : decode cX6_endOf 1 = .ok (.istore_n 3, 1) := dc_at daX6_endOf_0 1 rfl
theorem dX6_endOf_2 : decode cX6_endOf 2 = .ok (.iload_n 3, 1) := dc_at daX6_endOf_0 2 rfl
theorem dX6_endOf_3 : decode cX6_endOf 3 = .ok (.aload_n 0, 1) := dc_at daX6_endOf_0 3 rfl
theorem dX6_endOf_4 : decode cX6_endOf 4 = .ok (.getfield 29, 3) := dc_at daX6_endOf_0 4 rfl
theorem dX6_endOf_7 : decode cX6_endOf 7 = .ok (.if_icmp .ge 18, 3) := dc_at daX6_endOf_0 5 rfl
theorem dX6_endOf_10 : decode cX6_endOf 10 = .ok (.aload_n 0, 1) := dc_at daX6_endOf_0 6 rfl
theorem dX6_endOf_11 : decode cX6_endOf 11 = .ok (.iload_n 3, 1) := dc_at daX6_endOf_0 7 rfl
theorem dX6_endOf_12 : decode cX6_endOf 12 = .ok (.invokevirtual 166, 3) := dc_at daX6_endOf_0 8 rfl
theorem dX6_endOf_15 : decode cX6_endOf 15 = .ok (.iload_n 1, 1) := dc_at daX6_endOf_0 9 rfl
theorem dX6_endOf_16 : decode cX6_endOf 16 = .ok (.if_icmp .ne 9, 3) := dc_at daX6_endOf_0 10 rfl
theorem dX6_endOf_19 : decode cX6_endOf 19 = .ok (.iinc 3 1, 3) := dc_at daX6_endOf_0 11 rfl
theorem dX6_endOf_22 : decode cX6_endOf 22 = .ok (.goto (-20), 3) := dc_at daX6_endOf_0 12 rfl
theorem dX6_endOf_25 : decode cX6_endOf 25 = .ok (.iload_n 3, 1) := dc_at daX6_endOf_0 13 rfl
theorem dX6_endOf_26 : decode cX6_endOf 26 = .ok (.ireturn, 1) := dc_at daX6_endOf_0 14 rfl
def dlX6_kindAt_0 : List (Nat × Jvm.ClassFile.Instr × Nat) := [(0, .iload_n 1, 1), (1, .ifCond .lt 11, 3), (4, .iload_n 1, 1), (5, .aload_n 0, 1), (6, .getfield 29, 3), (9, .if_icmp .lt 5, 3), (12, .iconst 0, 1), (13, .ireturn, 1), (14, .aload_n 0, 1), (15, .getfield 25, 3), (18, .iload_n 1, 1), (19, .baload, 1), (20, .istore_n 2, 1), (21, .iload_n 2, 1), (22, .bipush 97, 2), (24, .if_icmp .lt 11, 3), (27, .iload_n 2, 1), (28, .bipush 122, 2), (30, .if_icmp .gt 5, 3), (33, .iconst 2, 1), (34, .ireturn, 1), (35, .iload_n 2, 1), (36, .bipush 48, 2), (38, .if_icmp .lt 11, 3)]
theorem daX6_kindAt_0 : dlX6_kindAt_0.all (dcK cX6_kindAt) = true := by decide +kernel
theorem dX6_kindAt_0 : decode cX6_kindAt 0 = .ok (.iload_n 1, 1) := dc_at daX6_kindAt_0 0 rfl
theorem dX6_kindAt_1 : decode cX6_kindAt 1 = .ok (.ifCond .lt 11, 3) := dc_at daX6_kindAt_0 1 rfl
theorem dX6_kindAt_4 : decode cX6_kindAt 4 = .ok (.iload_n 1, 1) := dc_at daX6_kindAt_0 2 rfl
theorem dX6_kindAt_5 : decode cX6_kindAt 5 = .ok (.aload_n 0, 1) := dc_at daX6_kindAt_0 3 rfl
theorem dX6_kindAt_6 : decode cX6_kindAt 6 = .ok (.getfield 29, 3) := dc_at daX6_kindAt_0 4 rfl
theorem dX6_kindAt_9 : decode cX6_kindAt 9 = .ok (.if_icmp .lt 5, 3) := dc_at daX6_kindAt_0 5 rfl
theorem dX6_kindAt_12 : decode cX6_kindAt 12 = .ok (.iconst 0, 1) := dc_at daX6_kindAt_0 6 rfl
theorem dX6_kindAt_13 : decode cX6_kindAt 13 = .ok (.ireturn, 1) := dc_at daX6_kindAt_0 7 rfl
theorem dX6_kindAt_14 : decode cX6_kindAt 14 = .ok (.aload_n 0, 1) := dc_at daX6_kindAt_0 8 rfl
theorem dX6_kindAt_15 : decode cX6_kindAt 15 = .ok (.getfield 25, 3) := dc_at daX6_kindAt_0 9 rfl
theorem dX6_kindAt_18 : decode cX6_kindAt 18 = .ok (.iload_n 1, 1) := dc_at daX6_kindAt_0 10 rfl
theorem dX6_kindAt_19 : decode cX6_kindAt 19 = .ok (.baload, 1) := dc_at daX6_kindAt_0 11 rfl
theorem dX6_kindAt_20 : decode cX6_kindAt 20 = .ok (.istore_n 2, 1) := dc_at daX6_kindAt_0 12 rfl
theorem dX6_kindAt_21 : decode cX6_kindAt 21 = .ok (.iload_n 2, 1) := dc_at daX6_kindAt_0 13 rfl
theorem dX6_kindAt_22 : decode cX6_kindAt 22 = .ok (.bipush 97, 2) := dc_at daX6_kindAt_0 14 rfl
theorem dX6_kindAt_24 : decode cX6_kindAt 24 = .ok (.if_icmp .lt 11, 3) := dc_at daX6_kindAt_0 15 rfl
theorem dX6_kindAt_27 : decode cX6_kindAt 27 = .ok (.iload_n 2, 1) := dc_at daX6_kindAt_0 16 rfl
theorem dX6_kindAt_28 : decode cX6_kindAt 28 = .ok (.bipush 122, 2) := dc_at daX6_kindAt_0 17 rfl
theorem dX6_kindAt_30 : decode cX6_kindAt 30 = .ok (.if_icmp .gt 5, 3) := dc_at daX6_kindAt_0 18 rfl
theorem dX6_kindAt_33 : decode cX6_kindAt 33 = .ok (.iconst 2, 1) := dc_at daX6_kindAt_0 19 rfl
theorem dX6_kindAt_34 : decode cX6_kindAt 34 = .ok (.ireturn, 1) := dc_at daX6_kindAt_0 20 rfl
theorem dX6_kindAt_35 : decode cX6_kindAt 35 = .ok (.iload_n 2, 1) := dc_at daX6_kindAt_0 21 rfl
theorem dX6_kindAt_36 : decode cX6_kindAt 36 = .ok (.bipush 48, 2) := dc_at daX6_kindAt_0 22 rfl
theorem dX6_kindAt_38 : decode cX6_kindAt 38 = .ok (.if_icmp .lt 11, 3) := dc_at daX6_kindAt_0 23 rfl
def dlX6_kindAt_1 : List (Nat × Jvm.ClassFile.Instr × Nat) := [(41, .iload_n 2, 1), (42, .bipush 57, 2), (44, .if_icmp .gt 5, 3), (47, .iconst 3, 1), (48, .ireturn, 1), (49, .iload_n 2, 1), (50, .bipush 10, 2), (52, .if_icmp .eq 9, 3), (55, .iload_n 2, 1), (56, .bipush 32, 2), (58, .if_icmp .ne 5, 3), (61, .iconst 1, 1), (62, .ireturn, 1), (63, .iload_n 2, 1), (64, .bipush 59, 2), (66, .if_icmp .ne 7, 3), (69, .iconst 4, 1), (70, .goto 4, 3), (73, .iconst 5, 1), (74, .ireturn, 1)]
theorem daX6_kindAt_1 : dlX6_kindAt_1.all (dcK cX6_kindAt) = true := by decide +kernel
theorem dX6_kindAt_41 : decode cX6_kindAt 41 = .ok (.iload_n 2, 1) := dc_at daX6_kindAt_1 0 rfl
theorem dX6_kindAt_42 : decode cX6_kindAt 42 = .ok (.bipush 57, 2) := dc_at daX6_kindAt_1 1 rfl
theorem dX6_kindAt_44 : decode cX6_kindAt 44 = .ok (.if_icmp .gt 5, 3) := dc_at daX6_kindAt_1 2 rfl
theorem dX6_kindAt_47 : decode cX6_kindAt 47 = .ok (.iconst 3, 1) := dc_at daX6_kindAt_1 3 rfl
theorem dX6_kindAt_48 : decode cX6_kindAt 48 = .ok (.ireturn, 1) := dc_at daX6_kindAt_1 4 rfl
theorem dX6_kindAt_49 : decode cX6_kindAt 49 = .ok (.iload_n 2, 1) := dc_at daX6_kindAt_1 5 rfl
theorem dX6_kindAt_50 : decode cX6_kindAt 50 = .ok (.bipush 10, 2) := dc_at daX6_kindAt_1 6 rfl
theorem dX6_kindAt_52 : decode cX6_kindAt 52 = .ok (.if_icmp .eq 9, 3) := dc_at daX6_kindAt_1 7 rfl
theorem dX6_kindAt_55 : decode cX6_kindAt 55 = .ok (.iload_n 2, 1) := dc_at daX6_kindAt_1 8 rfl
theorem dX6_kindAt_56 : decode cX6_kindAt 56 = .ok (.bipush 32, 2) := dc_at daX6_kindAt_1 9 rfl
theorem dX6_kindAt_58 : decode cX6_kindAt 58 = .ok (.if_icmp .ne 5, 3) := dc_at daX6_kindAt_1 10 rfl
theorem dX6_kindAt_61 : decode cX6_kindAt 61 = .ok (.iconst 1, 1) := dc_at daX6_kindAt_1 11 rfl
theorem dX6_kindAt_62 : decode cX6_kindAt 62 = .ok (.ireturn, 1) := dc_at daX6_kindAt_1 12 rfl
theorem dX6_kindAt_63 : decode cX6_kindAt 63 = .ok (.iload_n 2, 1) := dc_at daX6_kindAt_1 13 rfl
theorem dX6_kindAt_64 : decode cX6_kindAt 64 = .ok (.bipush 59, 2) := dc_at daX6_kindAt_1 14 rfl
theorem dX6_kindAt_66 : decode cX6_kindAt 66 = .ok (.if_icmp .ne 7, 3) := dc_at daX6_kindAt_1 15 rfl
theorem dX6_kindAt_69 : decode cX6_kindAt 69 = .ok (.iconst 4, 1) := dc_at daX6_kindAt_1 16 rfl
theorem dX6_kindAt_70 : decode cX6_kindAt 70 = .ok (.goto 4, 3) := dc_at daX6_kindAt_1 17 rfl
theorem dX6_kindAt_73 : decode cX6_kindAt 73 = .ok (.iconst 5, 1) := dc_at daX6_kindAt_1 18 rfl
theorem dX6_kindAt_74 : decode cX6_kindAt 74 = .ok (.ireturn, 1) := dc_at daX6_kindAt_1 19 rfl
def dlX6_readValue_0 : List (Nat × Jvm.ClassFile.Instr × Nat) := [(0, .aload_n 0, 1), (1, .iconst 0, 1), (2, .putfield 41, 3), (5, .aload_n 0, 1), (6, .getfield 35, 3), (9, .aload_n 0, 1), (10, .getfield 32, 3), (13, .iconst 3, 1), (14, .iadd, 1), (15, .invokestatic 44, 3), (18, .istore_n 1, 1), (19, .aload_n 0, 1), (20, .getfield 32, 3), (23, .istore_n 2, 1), (24, .iload_n 2, 1), (25, .iload_n 1, 1), (26, .if_icmp .ge 30, 3), (29, .aload_n 0, 1), (30, .aload_n 0, 1), (31, .getfield 41, 3), (34, .bipush 10, 2), (36, .imul, 1), (37, .aload_n 0, 1), (38, .getfield 25, 3)]
theorem daX6_readValue_0 : dlX6_readValue_0.all (dcK cX6_readValue) = true := by decide +kernel
theorem dX6_readValue_0 : decode cX6_readValue 0 = .ok (.aload_n 0, 1) := dc_at daX6_readValue_0 0 rfl
theorem dX6_readValue_1 : decode cX6_readValue 1 = .ok (.iconst 0, 1) := dc_at daX6_readValue_0 1 rfl
theorem dX6_readValue_2 : decode cX6_readValue 2 = .ok (.putfield 41, 3) := dc_at daX6_readValue_0 2 rfl
theorem dX6_readValue_5 : decode cX6_readValue 5 = .ok (.aload_n 0, 1) := dc_at daX6_readValue_0 3 rfl
theorem dX6_readValue_6 : decode cX6_readValue 6 = .ok (.getfield 35, 3) := dc_at daX6_readValue_0 4 rfl
theorem dX6_readValue_9 : decode cX6_readValue 9 = .ok (.aload_n 0, 1) := dc_at daX6_readValue_0 5 rfl
theorem dX6_readValue_10 : decode cX6_readValue 10 = .ok (.getfield 32, 3) := dc_at daX6_readValue_0 6 rfl
theorem dX6_readValue_13 : decode cX6_readValue 13 = .ok (.iconst 3, 1) := dc_at daX6_readValue_0 7 rfl
theorem dX6_readValue_14 : decode cX6_readValue 14 = .ok (.iadd, 1) := dc_at daX6_readValue_0 8 rfl
theorem dX6_readValue_15 : decode cX6_readValue 15 = .ok (.invokestatic 44, 3) := dc_at daX6_readValue_0 9 rfl
theorem dX6_readValue_18 : decode cX6_readValue 18 = .ok (.istore_n 1, 1) := dc_at daX6_readValue_0 10 rfl
theorem dX6_readValue_19 : decode cX6_readValue 19 = .ok (.aload_n 0, 1) := dc_at daX6_readValue_0 11 rfl
theorem dX6_readValue_20 : decode cX6_readValue 20 = .ok (.getfield 32, 3) := dc_at daX6_readValue_0 12 rfl
theorem dX6_readValue_23 : decode cX6_readValue 23 = .ok (.istore_n 2, 1) := dc_at daX6_readValue_0 13 rfl
theorem dX6_readValue_24 : decode cX6_readValue 24 = .ok (.iload_n 2, 1) := dc_at daX6_readValue_0 14 rfl
theorem dX6_readValue_25 : decode cX6_readValue 25 = .ok (.iload_n 1, 1) := dc_at daX6_readValue_0 15 rfl
theorem dX6_readValue_26 : decode cX6_readValue 26 = .ok (.if_icmp .ge 30, 3) := dc_at daX6_readValue_0 16 rfl
theorem dX6_readValue_29 : decode cX6_readValue 29 = .ok (.aload_n 0, 1) := dc_at daX6_readValue_0 17 rfl
theorem dX6_readValue_30 : decode cX6_readValue 30 = .ok (.aload_n 0, 1) := dc_at daX6_readValue_0 18 rfl
theorem dX6_readValue_31 : decode cX6_readValue 31 = .ok (.getfield 41, 3) := dc_at daX6_readValue_0 19 rfl
theorem dX6_readValue_34 : decode cX6_readValue 34 = .ok (.bipush 10, 2) := dc_at daX6_readValue_0 20 rfl
theorem dX6_readValue_36 : decode cX6_readValue 36 = .ok (.imul, 1) := dc_at daX6_readValue_0 21 rfl
theorem dX6_readValue_37 : decode cX6_readValue 37 = .ok (.aload_n 0, 1) := dc_at daX6_readValue_0 22 rfl
theorem dX6_readValue_38 : decode cX6_readValue 38 = .ok (.getfield 25, 3) := dc_at daX6_readValue_0 23 rfl
def dlX6_readValue_1 : List (Nat × Jvm.ClassFile.Instr × Nat) := [(41, .iload_n 2, 1), (42, .baload, 1), (43, .iadd, 1), (44, .bipush 48, 2), (46, .isub, 1), (47, .putfield 41, 3), (50, .iinc 2 1, 3), (53, .goto (-29), 3), (56, .return_, 1)]
theorem daX6_readValue_1 : dlX6_readValue_1.all (dcK cX6_readValue) = true := by decide +kernel
theorem dX6_readValue_41 : decode cX6_readValue 41 = .ok (.iload_n 2, 1) := dc_at daX6_readValue_1 0 rfl
theorem dX6_readValue_42 : decode cX6_readValue 42 = .ok (.baload, 1) := dc_at daX6_readValue_1 1 rfl
theorem dX6_readValue_43 : decode cX6_readValue 43 = .ok (.iadd, 1) := dc_at daX6_readValue_1 2 rfl
theorem dX6_readValue_44 : decode cX6_readValue 44 = .ok (.bipush 48, 2) := dc_at daX6_readValue_1 3 rfl
theorem dX6_readValue_46 : decode cX6_readValue 46 = .ok (.isub, 1) := dc_at daX6_readValue_1 4 rfl
theorem dX6_readValue_47 : decode cX6_readValue 47 = .ok (.putfield 41, 3) := dc_at daX6_readValue_1 5 rfl
theorem dX6_readValue_50 : decode cX6_readValue 50 = .ok (.iinc 2 1, 3) := dc_at daX6_readValue_1 6 rfl
theorem dX6_readValue_53 : decode cX6_readValue 53 = .ok (.goto (-29), 3) := dc_at daX6_readValue_1 7 rfl
theorem dX6_readValue_56 : decode cX6_readValue 56 = .ok (.return_, 1) := dc_at daX6_readValue_1 8 rfl
def dlX7_init_0 : List (Nat × Jvm.ClassFile.Instr × Nat) := [(0, .aload_n 0, 1), (1, .invokespecial 3, 3), (4, .aload_n 0, 1), (5, .sipush 2560, 3), (8, .newarray .long, 2), (10, .putfield 11, 3), (13, .aload_n 0, 1), (14, .sipush 2560, 3), (17, .newarray .int, 2), (19, .putfield 15, 3), (22, .aload_n 0, 1), (23, .sipush 2560, 3), (26, .newarray .int, 2), (28, .putfield 19, 3), (31, .aload_n 0, 1), (32, .sipush 2560, 3), (35, .newarray .int, 2), (37, .putfield 22, 3), (40, .aload_n 0, 1), (41, .sipush 2560, 3), (44, .newarray .boolean, 2), (46, .putfield 25, 3), (49, .aload_n 0, 1), (50, .sipush 4096, 3)]
theorem daX7_init_0 : dlX7_init_0.all (dcK cX7_init) = true := by decide +kernel
theorem dX7_init_0 : decode cX7_init 0 = .ok (.aload_n 0, 1) := dc_at daX7_init_0 0 rfl
theorem dX7_init_1 : decode cX7_init 1 = .ok (.invokespecial 3, 3) := dc_at daX7_init_0 1 rfl
theorem dX7_init_4 : decode cX7_init 4 = .ok (.aload_n 0, 1) := dc_at daX7_init_0 2 rfl
theorem dX7_init_5 : decode cX7_init 5 = .ok (.sipush 2560, 3) := dc_at daX7_init_0 3 rfl
theorem dX7_init_8 : decode cX7_init 8 = .ok (.newarray .long, 2) := dc_at daX7_init_0 4 rfl
theorem dX7_init_10 : decode cX7_init 10 = .ok (.putfield 11, 3) := dc_at daX7_init_0 5 rfl
theorem dX7_init_13 : decode cX7_init 13 = .ok (.aload_n 0, 1) := dc_at daX7_init_0 6 rfl
theorem dX7_init_14 : decode cX7_init 14 = .ok (.sipush 2560, 3) := dc_at daX7_init_0 7 rfl
theorem dX7_init_17 : decode cX7_init 17 = .ok (.newarray .int, 2) := dc_at daX7_init_0 8 rfl
theorem dX7_init_19 : decode cX7_init 19 = .ok (.putfield 15, 3) := dc_at daX7_init_0 9 rfl
theorem dX7_init_22 : decode cX7_init 22 = .ok (.aload_n 0, 1) := dc_at daX7_init_0 10 rfl
theorem dX7_init_23 : decode cX7_init 23 = .ok (.sipush 2560, 3) := dc_at daX7_init_0 11 rfl
theorem dX7_init_26 : decode cX7_init 26 = .ok (.newarray .int, 2) := dc_at daX7_init_0 12 rfl
theorem dX7_init_28 : decode cX7_init 28 = .ok (.putfield 19, 3) := dc_at daX7_init_0 13 rfl
theorem dX7_init_31 : decode cX7_init 31 = .ok (.aload_n 0, 1) := dc_at daX7_init_0 14 rfl
theorem dX7_init_32 : decode cX7_init 32 = .ok (.sipush 2560, 3) := dc_at daX7_init_0 15 rfl
theorem dX7_init_35 : decode cX7_init 35 = .ok (.newarray .int, 2) := dc_at daX7_init_0 16 rfl
theorem dX7_init_37 : decode cX7_init 37 = .ok (.putfield 22, 3) := dc_at daX7_init_0 17 rfl
theorem dX7_init_40 : decode cX7_init 40 = .ok (.aload_n 0, 1) := dc_at daX7_init_0 18 rfl
theorem dX7_init_41 : decode cX7_init 41 = .ok (.sipush 2560, 3) := dc_at daX7_init_0 19 rfl
theorem dX7_init_44 : decode cX7_init 44 = .ok (.newarray .boolean, 2) := dc_at daX7_init_0 20 rfl
theorem dX7_init_46 : decode cX7_init 46 = .ok (.putfield 25, 3) := dc_at daX7_init_0 21 rfl
theorem dX7_init_49 : decode cX7_init 49 = .ok (.aload_n 0, 1) := dc_at daX7_init_0 22 rfl
theorem dX7_init_50 : decode cX7_init 50 = .ok (.sipush 4096, 3) := dc_at daX7_init_0 23 rfl
def dlX7_init_1 : List (Nat × Jvm.ClassFile.Instr × Nat) := [(53, .newarray .int, 2), (55, .putfield 29, 3), (58, .aload_n 0, 1), (59, .bipush 10, 2), (61, .newarray .int, 2), (63, .putfield 32, 3), (66, .aload_n 0, 1), (67, .iconst 0, 1), (68, .putfield 35, 3), (71, .aload_n 0, 1), (72, .iconst 0, 1), (73, .putfield 39, 3), (76, .aload_n 0, 1), (77, .iconst 0, 1), (78, .putfield 42, 3), (81, .aload_n 0, 1), (82, .iconst 0, 1), (83, .putfield 45, 3), (86, .return_, 1)]
theorem daX7_init_1 : dlX7_init_1.all (dcK cX7_init) = true := by decide +kernel
theorem dX7_init_53 : decode cX7_init 53 = .ok (.newarray .int, 2) := dc_at daX7_init_1 0 rfl
theorem dX7_init_55 : decode cX7_init 55 = .ok (.putfield 29, 3) := dc_at daX7_init_1 1 rfl
theorem dX7_init_58 : decode cX7_init 58 = .ok (.aload_n 0, 1) := dc_at daX7_init_1 2 rfl
theorem dX7_init_59 : decode cX7_init 59 = .ok (.bipush 10, 2) := dc_at daX7_init_1 3 rfl
theorem dX7_init_61 : decode cX7_init 61 = .ok (.newarray .int, 2) := dc_at daX7_init_1 4 rfl
theorem dX7_init_63 : decode cX7_init 63 = .ok (.putfield 32, 3) := dc_at daX7_init_1 5 rfl
theorem dX7_init_66 : decode cX7_init 66 = .ok (.aload_n 0, 1) := dc_at daX7_init_1 6 rfl
theorem dX7_init_67 : decode cX7_init 67 = .ok (.iconst 0, 1) := dc_at daX7_init_1 7 rfl
theorem dX7_init_68 : decode cX7_init 68 = .ok (.putfield 35, 3) := dc_at daX7_init_1 8 rfl
theorem dX7_init_71 : decode cX7_init 71 = .ok (.aload_n 0, 1) := dc_at daX7_init_1 9 rfl
theorem dX7_init_72 : decode cX7_init 72 = .ok (.iconst 0, 1) := dc_at daX7_init_1 10 rfl
theorem dX7_init_73 : decode cX7_init 73 = .ok (.putfield 39, 3) := dc_at daX7_init_1 11 rfl
theorem dX7_init_76 : decode cX7_init 76 = .ok (.aload_n 0, 1) := dc_at daX7_init_1 12 rfl
theorem dX7_init_77 : decode cX7_init 77 = .ok (.iconst 0, 1) := dc_at daX7_init_1 13 rfl
theorem dX7_init_78 : decode cX7_init 78 = .ok (.putfield 42, 3) := dc_at daX7_init_1 14 rfl
theorem dX7_init_81 : decode cX7_init 81 = .ok (.aload_n 0, 1) := dc_at daX7_init_1 15 rfl
theorem dX7_init_82 : decode cX7_init 82 = .ok (.iconst 0, 1) := dc_at daX7_init_1 16 rfl
theorem dX7_init_83 : decode cX7_init 83 = .ok (.putfield 45, 3) := dc_at daX7_init_1 17 rfl
theorem dX7_init_86 : decode cX7_init 86 = .ok (.return_, 1) := dc_at daX7_init_1 18 rfl
def dlX7_lay_0 : List (Nat × Jvm.ClassFile.Instr × Nat) := [(0, .aload_n 0, 1), (1, .getfield 45, 3), (4, .ifCond .eq 19, 3), (7, .iload_n 1, 1), (8, .aload_n 0, 1), (9, .getfield 35, 3), (12, .if_icmp .ne 11, 3), (15, .iload_n 2, 1), (16, .aload_n 0, 1), (17, .getfield 39, 3), (20, .if_icmp .eq 9, 3), (23, .aload_n 0, 1), (24, .iload_n 1, 1), (25, .iload_n 2, 1), (26, .invokevirtual 48, 3), (29, .iload_n 3, 1), (30, .bipush 8, 2), (32, .invokestatic 52, 3), (35, .istore 4, 2), (37, .aload_n 0, 1), (38, .getfield 42, 3), (41, .istore 5, 2), (43, .iload 5, 2), (45, .iload 4, 2)]
theorem daX7_lay_0 : dlX7_lay_0.all (dcK cX7_lay) = true := by decide +kernel
theorem dX7_lay_0 : decode cX7_lay 0 = .ok (.aload_n 0, 1) := dc_at daX7_lay_0 0 rfl
theorem dX7_lay_1 : decode cX7_lay 1 = .ok (.getfield 45, 3) := dc_at daX7_lay_0 1 rfl
theorem dX7_lay_4 : decode cX7_lay 4 = .ok (.ifCond .eq 19, 3) := dc_at daX7_lay_0 2 rfl
theorem dX7_lay_7 : decode cX7_lay 7 = .ok (.iload_n 1, 1) := dc_at daX7_lay_0 3 rfl
theorem dX7_lay_8 : decode cX7_lay 8 = .ok (.aload_n 0, 1) := dc_at daX7_lay_0 4 rfl
theorem dX7_lay_9 : decode cX7_lay 9 = .ok (.getfield 35, 3) := dc_at daX7_lay_0 5 rfl
theorem dX7_lay_12 : decode cX7_lay 12 = .ok (.if_icmp .ne 11, 3) := dc_at daX7_lay_0 6 rfl
theorem dX7_lay_15 : decode cX7_lay 15 = .ok (.iload_n 2, 1) := dc_at daX7_lay_0 7 rfl
theorem dX7_lay_16 : decode cX7_lay 16 = .ok (.aload_n 0, 1) := dc_at daX7_lay_0 8 rfl
theorem dX7_lay_17 : decode cX7_lay 17 = .ok (.getfield 39, 3) := dc_at daX7_lay_0 9 rfl
theorem dX7_lay_20 : decode cX7_lay 20 = .ok (.if_icmp .eq 9, 3) := dc_at daX7_lay_0 10 rfl
theorem dX7_lay_23 : decode cX7_lay 23 = .ok (.aload_n 0, 1) := dc_at daX7_lay_0 11 rfl
theorem dX7_lay_24 : decode cX7_lay 24 = .ok (.iload_n 1, 1) := dc_at daX7_lay_0 12 rfl
theorem dX7_lay_25 : decode cX7_lay 25 = .ok (.iload_n 2, 1) := dc_at daX7_lay_0 13 rfl
theorem dX7_lay_26 : decode cX7_lay 26 = .ok (.invokevirtual 48, 3) := dc_at daX7_lay_0 14 rfl
theorem dX7_lay_29 : decode cX7_lay 29 = .ok (.iload_n 3, 1) := dc_at daX7_lay_0 15 rfl
theorem dX7_lay_30 : decode cX7_lay 30 = .ok (.bipush 8, 2) := dc_at daX7_lay_0 16 rfl
theorem dX7_lay_32 : decode cX7_lay 32 = .ok (.invokestatic 52, 3) := dc_at daX7_lay_0 17 rfl
theorem dX7_lay_35 : decode cX7_lay 35 = .ok (.istore 4, 2) := dc_at daX7_lay_0 18 rfl
theorem dX7_lay_37 : decode cX7_lay 37 = .ok (.aload_n 0, 1) := dc_at daX7_lay_0 19 rfl
theorem dX7_lay_38 : decode cX7_lay 38 = .ok (.getfield 42, 3) := dc_at daX7_lay_0 20 rfl
theorem dX7_lay_41 : decode cX7_lay 41 = .ok (.istore 5, 2) := dc_at daX7_lay_0 21 rfl
theorem dX7_lay_43 : decode cX7_lay 43 = .ok (.iload 5, 2) := dc_at daX7_lay_0 22 rfl
theorem dX7_lay_45 : decode cX7_lay 45 = .ok (.iload 4, 2) := dc_at daX7_lay_0 23 rfl
def dlX7_lay_1 : List (Nat × Jvm.ClassFile.Instr × Nat) := [(47, .if_icmp .ge 13, 3), (50, .aload_n 0, 1), (51, .invokevirtual 58, 3), (54, .iinc 5 1, 3), (57, .goto (-14), 3), (60, .return_, 1)]
theorem daX7_lay_1 : dlX7_lay_1.all (dcK cX7_lay) = true := by decide +kernel
theorem dX7_lay_47 : decode cX7_lay 47 = .ok (.if_icmp .ge 13, 3) := dc_at daX7_lay_1 0 rfl
theorem dX7_lay_50 : decode cX7_lay 50 = .ok (.aload_n 0, 1) := dc_at daX7_lay_1 1 rfl
theorem dX7_lay_51 : decode cX7_lay 51 = .ok (.invokevirtual 58, 3) := dc_at daX7_lay_1 2 rfl
theorem dX7_lay_54 : decode cX7_lay 54 = .ok (.iinc 5 1, 3) := dc_at daX7_lay_1 3 rfl
theorem dX7_lay_57 : decode cX7_lay 57 = .ok (.goto (-14), 3) := dc_at daX7_lay_1 4 rfl
theorem dX7_lay_60 : decode cX7_lay 60 = .ok (.return_, 1) := dc_at daX7_lay_1 5 rfl
def dlX7_begin_0 : List (Nat × Jvm.ClassFile.Instr × Nat) := [(0, .aload_n 0, 1), (1, .iload_n 1, 1), (2, .putfield 35, 3), (5, .aload_n 0, 1), (6, .iload_n 2, 1), (7, .putfield 39, 3), (10, .aload_n 0, 1), (11, .iconst 0, 1), (12, .putfield 42, 3), (15, .aload_n 0, 1), (16, .getfield 11, 3), (19, .iconst 0, 1), (20, .lconst 0, 1), (21, .lastore, 1), (22, .aload_n 0, 1), (23, .getfield 15, 3), (26, .iconst 0, 1), (27, .aload_n 0, 1), (28, .getfield 39, 3), (31, .iastore, 1), (32, .aload_n 0, 1), (33, .getfield 19, 3), (36, .iconst 0, 1), (37, .iconst 1, 1)]
theorem daX7_begin_0 : dlX7_begin_0.all (dcK cX7_begin) = true := by decide +kernel
theorem dX7_begin_0 : decode cX7_begin 0 = .ok (.aload_n 0, 1) := dc_at daX7_begin_0 0 rfl
theorem dX7_begin_1 : decode cX7_begin 1 = .ok (.iload_n 1, 1) := dc_at daX7_begin_0 1 rfl
theorem dX7_begin_2 : decode cX7_begin 2 = .ok (.putfield 35, 3) := dc_at daX7_begin_0 2 rfl
theorem dX7_begin_5 : decode cX7_begin 5 = .ok (.aload_n 0, 1) := dc_at daX7_begin_0 3 rfl
theorem dX7_begin_6 : decode cX7_begin 6 = .ok (.iload_n 2, 1) := dc_at daX7_begin_0 4 rfl
theorem dX7_begin_7 : decode cX7_begin 7 = .ok (.putfield 39, 3) := dc_at daX7_begin_0 5 rfl
theorem dX7_begin_10 : decode cX7_begin 10 = .ok (.aload_n 0, 1) := dc_at daX7_begin_0 6 rfl
theorem dX7_begin_11 : decode cX7_begin 11 = .ok (.iconst 0, 1) := dc_at daX7_begin_0 7 rfl
theorem dX7_begin_12 : decode cX7_begin 12 = .ok (.putfield 42, 3) := dc_at daX7_begin_0 8 rfl
theorem dX7_begin_15 : decode cX7_begin 15 = .ok (.aload_n 0, 1) := dc_at daX7_begin_0 9 rfl
theorem dX7_begin_16 : decode cX7_begin 16 = .ok (.getfield 11, 3) := dc_at daX7_begin_0 10 rfl
theorem dX7_begin_19 : decode cX7_begin 19 = .ok (.iconst 0, 1) := dc_at daX7_begin_0 11 rfl
theorem dX7_begin_20 : decode cX7_begin 20 = .ok (.lconst 0, 1) := dc_at daX7_begin_0 12 rfl
theorem dX7_begin_21 : decode cX7_begin 21 = .ok (.lastore, 1) := dc_at daX7_begin_0 13 rfl
theorem dX7_begin_22 : decode cX7_begin 22 = .ok (.aload_n 0, 1) := dc_at daX7_begin_0 14 rfl
theorem dX7_begin_23 : decode cX7_begin 23 = .ok (.getfield 15, 3) := dc_at daX7_begin_0 15 rfl
theorem dX7_begin_26 : decode cX7_begin 26 = .ok (.iconst 0, 1) := dc_at daX7_begin_0 16 rfl
theorem dX7_begin_27 : decode cX7_begin 27 = .ok (.aload_n 0, 1) := dc_at daX7_begin_0 17 rfl
theorem dX7_begin_28 : decode cX7_begin 28 = .ok (.getfield 39, 3) := dc_at daX7_begin_0 18 rfl
theorem dX7_begin_31 : decode cX7_begin 31 = .ok (.iastore, 1) := dc_at daX7_begin_0 19 rfl
theorem dX7_begin_32 : decode cX7_begin 32 = .ok (.aload_n 0, 1) := dc_at daX7_begin_0 20 rfl
theorem dX7_begin_33 : decode cX7_begin 33 = .ok (.getfield 19, 3) := dc_at daX7_begin_0 21 rfl
theorem dX7_begin_36 : decode cX7_begin 36 = .ok (.iconst 0, 1) := dc_at daX7_begin_0 22 rfl
theorem dX7_begin_37 : decode cX7_begin 37 = .ok (.iconst 1, 1) := dc_at daX7_begin_0 23 rfl
def dlX7_begin_1 : List (Nat × Jvm.ClassFile.Instr × Nat) := [(38, .iastore, 1), (39, .aload_n 0, 1), (40, .getfield 22, 3), (43, .iconst 0, 1), (44, .iconst 0, 1), (45, .iastore, 1), (46, .aload_n 0, 1), (47, .getfield 25, 3), (50, .iconst 0, 1), (51, .iconst 0, 1), (52, .bastore, 1), (53, .aload_n 0, 1), (54, .iconst 1, 1), (55, .putfield 45, 3), (58, .aload_n 0, 1), (59, .getfield 32, 3), (62, .iconst 0, 1), (63, .iconst 0, 1), (64, .iastore, 1), (65, .aload_n 0, 1), (66, .getfield 32, 3), (69, .iconst 1, 1), (70, .iconst 1, 1), (71, .iastore, 1)]
theorem daX7_begin_1 : dlX7_begin_1.all (dcK cX7_begin) = true := by decide +kernel
theorem dX7_begin_38 : decode cX7_begin 38 = .ok (.iastore, 1) := dc_at daX7_begin_1 0 rfl
theorem dX7_begin_39 : decode cX7_begin 39 = .ok (.aload_n 0, 1) := dc_at daX7_begin_1 1 rfl
theorem dX7_begin_40 : decode cX7_begin 40 = .ok (.getfield 22, 3) := dc_at daX7_begin_1 2 rfl
theorem dX7_begin_43 : decode cX7_begin 43 = .ok (.iconst 0, 1) := dc_at daX7_begin_1 3 rfl
theorem dX7_begin_44 : decode cX7_begin 44 = .ok (.iconst 0, 1) := dc_at daX7_begin_1 4 rfl
theorem dX7_begin_45 : decode cX7_begin 45 = .ok (.iastore, 1) := dc_at daX7_begin_1 5 rfl
theorem dX7_begin_46 : decode cX7_begin 46 = .ok (.aload_n 0, 1) := dc_at daX7_begin_1 6 rfl
theorem dX7_begin_47 : decode cX7_begin 47 = .ok (.getfield 25, 3) := dc_at daX7_begin_1 7 rfl
theorem dX7_begin_50 : decode cX7_begin 50 = .ok (.iconst 0, 1) := dc_at daX7_begin_1 8 rfl
theorem dX7_begin_51 : decode cX7_begin 51 = .ok (.iconst 0, 1) := dc_at daX7_begin_1 9 rfl
theorem dX7_begin_52 : decode cX7_begin 52 = .ok (.bastore, 1) := dc_at daX7_begin_1 10 rfl
theorem dX7_begin_53 : decode cX7_begin 53 = .ok (.aload_n 0, 1) := dc_at daX7_begin_1 11 rfl
theorem dX7_begin_54 : decode cX7_begin 54 = .ok (.iconst 1, 1) := dc_at daX7_begin_1 12 rfl
theorem dX7_begin_55 : decode cX7_begin 55 = .ok (.putfield 45, 3) := dc_at daX7_begin_1 13 rfl
theorem dX7_begin_58 : decode cX7_begin 58 = .ok (.aload_n 0, 1) := dc_at daX7_begin_1 14 rfl
theorem dX7_begin_59 : decode cX7_begin 59 = .ok (.getfield 32, 3) := dc_at daX7_begin_1 15 rfl
theorem dX7_begin_62 : decode cX7_begin 62 = .ok (.iconst 0, 1) := dc_at daX7_begin_1 16 rfl
theorem dX7_begin_63 : decode cX7_begin 63 = .ok (.iconst 0, 1) := dc_at daX7_begin_1 17 rfl
theorem dX7_begin_64 : decode cX7_begin 64 = .ok (.iastore, 1) := dc_at daX7_begin_1 18 rfl
theorem dX7_begin_65 : decode cX7_begin 65 = .ok (.aload_n 0, 1) := dc_at daX7_begin_1 19 rfl
theorem dX7_begin_66 : decode cX7_begin 66 = .ok (.getfield 32, 3) := dc_at daX7_begin_1 20 rfl
theorem dX7_begin_69 : decode cX7_begin 69 = .ok (.iconst 1, 1) := dc_at daX7_begin_1 21 rfl
theorem dX7_begin_70 : decode cX7_begin 70 = .ok (.iconst 1, 1) := dc_at daX7_begin_1 22 rfl
theorem dX7_begin_71 : decode cX7_begin 71 = .ok (.iastore, 1) := dc_at daX7_begin_1 23 rfl
def dlX7_begin_2 : List (Nat × Jvm.ClassFile.Instr × Nat) := [(72, .aload_n 0, 1), (73, .getfield 29, 3), (76, .iconst 0, 1), (77, .invokestatic 61, 3), (80, .return_, 1)]
theorem daX7_begin_2 : dlX7_begin_2.all (dcK cX7_begin) = true := by decide +kernel
theorem dX7_begin_72 : decode cX7_begin 72 = .ok (.aload_n 0, 1) := dc_at daX7_begin_2 0 rfl
theorem dX7_begin_73 : decode cX7_begin 73 = .ok (.getfield 29, 3) := dc_at daX7_begin_2 1 rfl
theorem dX7_begin_76 : decode cX7_begin 76 = .ok (.iconst 0, 1) := dc_at daX7_begin_2 2 rfl
theorem dX7_begin_77 : decode cX7_begin 77 = .ok (.invokestatic 61, 3) := dc_at daX7_begin_2 3 rfl
theorem dX7_begin_80 : decode cX7_begin 80 = .ok (.return_, 1) := dc_at daX7_begin_2 4 rfl
def dlX7_first_0 : List (Nat × Jvm.ClassFile.Instr × Nat) := [(0, .aload_n 0, 1), (1, .getfield 32, 3), (4, .iconst 0, 1), (5, .iload_n 1, 1), (6, .aload_n 0, 1), (7, .getfield 42, 3), (10, .invokestatic 52, 3), (13, .invokestatic 67, 3), (16, .iaload, 1), (17, .ireturn, 1)]
theorem daX7_first_0 : dlX7_first_0.all (dcK cX7_first) = true := by decide +kernel
theorem dX7_first_0 : decode cX7_first 0 = .ok (.aload_n 0, 1) := dc_at daX7_first_0 0 rfl
theorem dX7_first_1 : decode cX7_first 1 = .ok (.getfield 32, 3) := dc_at daX7_first_0 1 rfl
theorem dX7_first_4 : decode cX7_first 4 = .ok (.iconst 0, 1) := dc_at daX7_first_0 2 rfl
theorem dX7_first_5 : decode cX7_first 5 = .ok (.iload_n 1, 1) := dc_at daX7_first_0 3 rfl
theorem dX7_first_6 : decode cX7_first 6 = .ok (.aload_n 0, 1) := dc_at daX7_first_0 4 rfl
theorem dX7_first_7 : decode cX7_first 7 = .ok (.getfield 42, 3) := dc_at daX7_first_0 5 rfl
theorem dX7_first_10 : decode cX7_first 10 = .ok (.invokestatic 52, 3) := dc_at daX7_first_0 6 rfl
theorem dX7_first_13 : decode cX7_first 13 = .ok (.invokestatic 67, 3) := dc_at daX7_first_0 7 rfl
theorem dX7_first_16 : decode cX7_first 16 = .ok (.iaload, 1) := dc_at daX7_first_0 8 rfl
theorem dX7_first_17 : decode cX7_first 17 = .ok (.ireturn, 1) := dc_at daX7_first_0 9 rfl
def dlX7_end_0 : List (Nat × Jvm.ClassFile.Instr × Nat) := [(0, .aload_n 0, 1), (1, .getfield 32, 3), (4, .iconst 0, 1), (5, .iload_n 1, 1), (6, .aload_n 0, 1), (7, .getfield 42, 3), (10, .invokestatic 52, 3), (13, .invokestatic 67, 3), (16, .iconst 1, 1), (17, .iadd, 1), (18, .iaload, 1), (19, .ireturn, 1)]
theorem daX7_end_0 : dlX7_end_0.all (dcK cX7_end) = true := by decide +kernel
theorem dX7_end_0 : decode cX7_end 0 = .ok (.aload_n 0, 1) := dc_at daX7_end_0 0 rfl
theorem dX7_end_1 : decode cX7_end 1 = .ok (.getfield 32, 3) := dc_at daX7_end_0 1 rfl
theorem dX7_end_4 : decode cX7_end 4 = .ok (.iconst 0, 1) := dc_at daX7_end_0 2 rfl
theorem dX7_end_5 : decode cX7_end 5 = .ok (.iload_n 1, 1) := dc_at daX7_end_0 3 rfl
theorem dX7_end_6 : decode cX7_end 6 = .ok (.aload_n 0, 1) := dc_at daX7_end_0 4 rfl
theorem dX7_end_7 : decode cX7_end 7 = .ok (.getfield 42, 3) := dc_at daX7_end_0 5 rfl
theorem dX7_end_10 : decode cX7_end 10 = .ok (.invokestatic 52, 3) := dc_at daX7_end_0 6 rfl
theorem dX7_end_13 : decode cX7_end 13 = .ok (.invokestatic 67, 3) := dc_at daX7_end_0 7 rfl
theorem dX7_end_16 : decode cX7_end 16 = .ok (.iconst 1, 1) := dc_at daX7_end_0 8 rfl
theorem dX7_end_17 : decode cX7_end 17 = .ok (.iadd, 1) := dc_at daX7_end_0 9 rfl
theorem dX7_end_18 : decode cX7_end 18 = .ok (.iaload, 1) := dc_at daX7_end_0 10 rfl
theorem dX7_end_19 : decode cX7_end 19 = .ok (.ireturn, 1) := dc_at daX7_end_0 11 rfl
def dlX7_layMinute_0 : List (Nat × Jvm.ClassFile.Instr × Nat) := [(0, .aload_n 0, 1), (1, .aload_n 0, 1), (2, .getfield 42, 3), (5, .invokevirtual 70, 3), (8, .istore_n 1, 1), (9, .aload_n 0, 1), (10, .aload_n 0, 1), (11, .getfield 42, 3), (14, .invokevirtual 74, 3), (17, .istore_n 2, 1), (18, .iload_n 2, 1), (19, .iload_n 1, 1), (20, .if_icmp .ge 52, 3), (23, .aload_n 0, 1), (24, .iload_n 2, 1), (25, .aload_n 0, 1), (26, .getfield 15, 3), (29, .iload_n 2, 1), (30, .iaload, 1), (31, .iconst 0, 1), (32, .iload_n 1, 1), (33, .invokevirtual 77, 3), (36, .aload_n 0, 1), (37, .iload_n 2, 1)]
theorem daX7_layMinute_0 : dlX7_layMinute_0.all (dcK cX7_layMinute) = true := by decide +kernel
theorem dX7_layMinute_0 : decode cX7_layMinute 0 = .ok (.aload_n 0, 1) := dc_at daX7_layMinute_0 0 rfl
theorem dX7_layMinute_1 : decode cX7_layMinute 1 = .ok (.aload_n 0, 1) := dc_at daX7_layMinute_0 1 rfl
theorem dX7_layMinute_2 : decode cX7_layMinute 2 = .ok (.getfield 42, 3) := dc_at daX7_layMinute_0 2 rfl
theorem dX7_layMinute_5 : decode cX7_layMinute 5 = .ok (.invokevirtual 70, 3) := dc_at daX7_layMinute_0 3 rfl
theorem dX7_layMinute_8 : decode cX7_layMinute 8 = .ok (.istore_n 1, 1) := dc_at daX7_layMinute_0 4 rfl
theorem dX7_layMinute_9 : decode cX7_layMinute 9 = .ok (.aload_n 0, 1) := dc_at daX7_layMinute_0 5 rfl
theorem dX7_layMinute_10 : decode cX7_layMinute 10 = .ok (.aload_n 0, 1) := dc_at daX7_layMinute_0 6 rfl
theorem dX7_layMinute_11 : decode cX7_layMinute 11 = .ok (.getfield 42, 3) := dc_at daX7_layMinute_0 7 rfl
theorem dX7_layMinute_14 : decode cX7_layMinute 14 = .ok (.invokevirtual 74, 3) := dc_at daX7_layMinute_0 8 rfl
theorem dX7_layMinute_17 : decode cX7_layMinute 17 = .ok (.istore_n 2, 1) := dc_at daX7_layMinute_0 9 rfl
theorem dX7_layMinute_18 : decode cX7_layMinute 18 = .ok (.iload_n 2, 1) := dc_at daX7_layMinute_0 10 rfl
theorem dX7_layMinute_19 : decode cX7_layMinute 19 = .ok (.iload_n 1, 1) := dc_at daX7_layMinute_0 11 rfl
theorem dX7_layMinute_20 : decode cX7_layMinute 20 = .ok (.if_icmp .ge 52, 3) := dc_at daX7_layMinute_0 12 rfl
theorem dX7_layMinute_23 : decode cX7_layMinute 23 = .ok (.aload_n 0, 1) := dc_at daX7_layMinute_0 13 rfl
theorem dX7_layMinute_24 : decode cX7_layMinute 24 = .ok (.iload_n 2, 1) := dc_at daX7_layMinute_0 14 rfl
theorem dX7_layMinute_25 : decode cX7_layMinute 25 = .ok (.aload_n 0, 1) := dc_at daX7_layMinute_0 15 rfl
theorem dX7_layMinute_26 : decode cX7_layMinute 26 = .ok (.getfield 15, 3) := dc_at daX7_layMinute_0 16 rfl
theorem dX7_layMinute_29 : decode cX7_layMinute 29 = .ok (.iload_n 2, 1) := dc_at daX7_layMinute_0 17 rfl
theorem dX7_layMinute_30 : decode cX7_layMinute 30 = .ok (.iaload, 1) := dc_at daX7_layMinute_0 18 rfl
theorem dX7_layMinute_31 : decode cX7_layMinute 31 = .ok (.iconst 0, 1) := dc_at daX7_layMinute_0 19 rfl
theorem dX7_layMinute_32 : decode cX7_layMinute 32 = .ok (.iload_n 1, 1) := dc_at daX7_layMinute_0 20 rfl
theorem dX7_layMinute_33 : decode cX7_layMinute 33 = .ok (.invokevirtual 77, 3) := dc_at daX7_layMinute_0 21 rfl
theorem dX7_layMinute_36 : decode cX7_layMinute 36 = .ok (.aload_n 0, 1) := dc_at daX7_layMinute_0 22 rfl
theorem dX7_layMinute_37 : decode cX7_layMinute 37 = .ok (.iload_n 2, 1) := dc_at daX7_layMinute_0 23 rfl
def dlX7_layMinute_1 : List (Nat × Jvm.ClassFile.Instr × Nat) := [(38, .aload_n 0, 1), (39, .getfield 15, 3), (42, .iload_n 2, 1), (43, .iaload, 1), (44, .iconst 1, 1), (45, .isub, 1), (46, .iconst 1, 1), (47, .iload_n 1, 1), (48, .invokevirtual 77, 3), (51, .aload_n 0, 1), (52, .iload_n 2, 1), (53, .aload_n 0, 1), (54, .getfield 15, 3), (57, .iload_n 2, 1), (58, .iaload, 1), (59, .iconst 1, 1), (60, .iadd, 1), (61, .iconst 2, 1), (62, .iload_n 1, 1), (63, .invokevirtual 77, 3), (66, .iinc 2 1, 3), (69, .goto (-51), 3), (72, .aload_n 0, 1), (73, .dup, 1)]
theorem daX7_layMinute_1 : dlX7_layMinute_1.all (dcK cX7_layMinute) = true := by decide +kernel
theorem dX7_layMinute_38 : decode cX7_layMinute 38 = .ok (.aload_n 0, 1) := dc_at daX7_layMinute_1 0 rfl
theorem dX7_layMinute_39 : decode cX7_layMinute 39 = .ok (.getfield 15, 3) := dc_at daX7_layMinute_1 1 rfl
theorem dX7_layMinute_42 : decode cX7_layMinute 42 = .ok (.iload_n 2, 1) := dc_at daX7_layMinute_1 2 rfl
theorem dX7_layMinute_43 : decode cX7_layMinute 43 = .ok (.iaload, 1) := dc_at daX7_layMinute_1 3 rfl
theorem dX7_layMinute_44 : decode cX7_layMinute 44 = .ok (.iconst 1, 1) := dc_at daX7_layMinute_1 4 rfl
theorem dX7_layMinute_45 : decode cX7_layMinute 45 = .ok (.isub, 1) := dc_at daX7_layMinute_1 5 rfl
theorem dX7_layMinute_46 : decode cX7_layMinute 46 = .ok (.iconst 1, 1) := dc_at daX7_layMinute_1 6 rfl
theorem dX7_layMinute_47 : decode cX7_layMinute 47 = .ok (.iload_n 1, 1) := dc_at daX7_layMinute_1 7 rfl
theorem dX7_layMinute_48 : decode cX7_layMinute 48 = .ok (.invokevirtual 77, 3) := dc_at daX7_layMinute_1 8 rfl
theorem dX7_layMinute_51 : decode cX7_layMinute 51 = .ok (.aload_n 0, 1) := dc_at daX7_layMinute_1 9 rfl
theorem dX7_layMinute_52 : decode cX7_layMinute 52 = .ok (.iload_n 2, 1) := dc_at daX7_layMinute_1 10 rfl
theorem dX7_layMinute_53 : decode cX7_layMinute 53 = .ok (.aload_n 0, 1) := dc_at daX7_layMinute_1 11 rfl
theorem dX7_layMinute_54 : decode cX7_layMinute 54 = .ok (.getfield 15, 3) := dc_at daX7_layMinute_1 12 rfl
theorem dX7_layMinute_57 : decode cX7_layMinute 57 = .ok (.iload_n 2, 1) := dc_at daX7_layMinute_1 13 rfl
theorem dX7_layMinute_58 : decode cX7_layMinute 58 = .ok (.iaload, 1) := dc_at daX7_layMinute_1 14 rfl
theorem dX7_layMinute_59 : decode cX7_layMinute 59 = .ok (.iconst 1, 1) := dc_at daX7_layMinute_1 15 rfl
theorem dX7_layMinute_60 : decode cX7_layMinute 60 = .ok (.iadd, 1) := dc_at daX7_layMinute_1 16 rfl
theorem dX7_layMinute_61 : decode cX7_layMinute 61 = .ok (.iconst 2, 1) := dc_at daX7_layMinute_1 17 rfl
theorem dX7_layMinute_62 : decode cX7_layMinute 62 = .ok (.iload_n 1, 1) := dc_at daX7_layMinute_1 18 rfl
theorem dX7_layMinute_63 : decode cX7_layMinute 63 = .ok (.invokevirtual 77, 3) := dc_at daX7_layMinute_1 19 rfl
theorem dX7_layMinute_66 : decode cX7_layMinute 66 = .ok (.iinc 2 1, 3) := dc_at daX7_layMinute_1 20 rfl
theorem dX7_layMinute_69 : decode cX7_layMinute 69 = .ok (.goto (-51), 3) := dc_at daX7_layMinute_1 21 rfl
theorem dX7_layMinute_72 : decode cX7_layMinute 72 = .ok (.aload_n 0, 1) := dc_at daX7_layMinute_1 22 rfl
theorem dX7_layMinute_73 : decode cX7_layMinute 73 = .ok (.dup, 1) := dc_at daX7_layMinute_1 23 rfl
def dlX7_layMinute_2 : List (Nat × Jvm.ClassFile.Instr × Nat) := [(74, .getfield 42, 3), (77, .iconst 1, 1), (78, .iadd, 1), (79, .putfield 42, 3), (82, .aload_n 0, 1), (83, .getfield 32, 3), (86, .aload_n 0, 1), (87, .getfield 42, 3), (90, .iconst 1, 1), (91, .iadd, 1), (92, .aload_n 0, 1), (93, .getfield 45, 3), (96, .iastore, 1), (97, .return_, 1)]
theorem daX7_layMinute_2 : dlX7_layMinute_2.all (dcK cX7_layMinute) = true := by decide +kernel
theorem dX7_layMinute_74 : decode cX7_layMinute 74 = .ok (.getfield 42, 3) := dc_at daX7_layMinute_2 0 rfl
theorem dX7_layMinute_77 : decode cX7_layMinute 77 = .ok (.iconst 1, 1) := dc_at daX7_layMinute_2 1 rfl
theorem dX7_layMinute_78 : decode cX7_layMinute 78 = .ok (.iadd, 1) := dc_at daX7_layMinute_2 2 rfl
theorem dX7_layMinute_79 : decode cX7_layMinute 79 = .ok (.putfield 42, 3) := dc_at daX7_layMinute_2 3 rfl
theorem dX7_layMinute_82 : decode cX7_layMinute 82 = .ok (.aload_n 0, 1) := dc_at daX7_layMinute_2 4 rfl
theorem dX7_layMinute_83 : decode cX7_layMinute 83 = .ok (.getfield 32, 3) := dc_at daX7_layMinute_2 5 rfl
theorem dX7_layMinute_86 : decode cX7_layMinute 86 = .ok (.aload_n 0, 1) := dc_at daX7_layMinute_2 6 rfl
theorem dX7_layMinute_87 : decode cX7_layMinute 87 = .ok (.getfield 42, 3) := dc_at daX7_layMinute_2 7 rfl
theorem dX7_layMinute_90 : decode cX7_layMinute 90 = .ok (.iconst 1, 1) := dc_at daX7_layMinute_2 8 rfl
theorem dX7_layMinute_91 : decode cX7_layMinute 91 = .ok (.iadd, 1) := dc_at daX7_layMinute_2 9 rfl
theorem dX7_layMinute_92 : decode cX7_layMinute 92 = .ok (.aload_n 0, 1) := dc_at daX7_layMinute_2 10 rfl
theorem dX7_layMinute_93 : decode cX7_layMinute 93 = .ok (.getfield 45, 3) := dc_at daX7_layMinute_2 11 rfl
theorem dX7_layMinute_96 : decode cX7_layMinute 96 = .ok (.iastore, 1) := dc_at daX7_layMinute_2 12 rfl
theorem dX7_layMinute_97 : decode cX7_layMinute 97 = .ok (.return_, 1) := dc_at daX7_layMinute_2 13 rfl
def dlX7_arrive_0 : List (Nat × Jvm.ClassFile.Instr × Nat) := [(0, .iload_n 2, 1), (1, .ifCond .lt 17, 3), (4, .iload_n 2, 1), (5, .aload_n 0, 1), (6, .getfield 35, 3), (9, .if_icmp .ge 9, 3), (12, .iload_n 2, 1), (13, .bipush 16, 2), (15, .if_icmp .lt 4, 3), (18, .return_, 1), (19, .aload_n 0, 1), (20, .getfield 11, 3), (23, .iload_n 1, 1), (24, .laload, 1), (25, .lconst 1, 1), (26, .iconst 4, 1), (27, .iload_n 2, 1), (28, .imul, 1), (29, .lshl, 1), (30, .ladd, 1), (31, .lstore 5, 2), (33, .iconst 0, 1), (34, .istore 7, 2), (36, .lload 5, 2)]
theorem daX7_arrive_0 : dlX7_arrive_0.all (dcK cX7_arrive) = true := by decide +kernel
theorem dX7_arrive_0 : decode cX7_arrive 0 = .ok (.iload_n 2, 1) := dc_at daX7_arrive_0 0 rfl
theorem dX7_arrive_1 : decode cX7_arrive 1 = .ok (.ifCond .lt 17, 3) := dc_at daX7_arrive_0 1 rfl
theorem dX7_arrive_4 : decode cX7_arrive 4 = .ok (.iload_n 2, 1) := dc_at daX7_arrive_0 2 rfl
theorem dX7_arrive_5 : decode cX7_arrive 5 = .ok (.aload_n 0, 1) := dc_at daX7_arrive_0 3 rfl
theorem dX7_arrive_6 : decode cX7_arrive 6 = .ok (.getfield 35, 3) := dc_at daX7_arrive_0 4 rfl
theorem dX7_arrive_9 : decode cX7_arrive 9 = .ok (.if_icmp .ge 9, 3) := dc_at daX7_arrive_0 5 rfl
theorem dX7_arrive_12 : decode cX7_arrive 12 = .ok (.iload_n 2, 1) := dc_at daX7_arrive_0 6 rfl
theorem dX7_arrive_13 : decode cX7_arrive 13 = .ok (.bipush 16, 2) := dc_at daX7_arrive_0 7 rfl
theorem dX7_arrive_15 : decode cX7_arrive 15 = .ok (.if_icmp .lt 4, 3) := dc_at daX7_arrive_0 8 rfl
theorem dX7_arrive_18 : decode cX7_arrive 18 = .ok (.return_, 1) := dc_at daX7_arrive_0 9 rfl
theorem dX7_arrive_19 : decode cX7_arrive 19 = .ok (.aload_n 0, 1) := dc_at daX7_arrive_0 10 rfl
theorem dX7_arrive_20 : decode cX7_arrive 20 = .ok (.getfield 11, 3) := dc_at daX7_arrive_0 11 rfl
theorem dX7_arrive_23 : decode cX7_arrive 23 = .ok (.iload_n 1, 1) := dc_at daX7_arrive_0 12 rfl
theorem dX7_arrive_24 : decode cX7_arrive 24 = .ok (.laload, 1) := dc_at daX7_arrive_0 13 rfl
theorem dX7_arrive_25 : decode cX7_arrive 25 = .ok (.lconst 1, 1) := dc_at daX7_arrive_0 14 rfl
theorem dX7_arrive_26 : decode cX7_arrive 26 = .ok (.iconst 4, 1) := dc_at daX7_arrive_0 15 rfl
theorem dX7_arrive_27 : decode cX7_arrive 27 = .ok (.iload_n 2, 1) := dc_at daX7_arrive_0 16 rfl
theorem dX7_arrive_28 : decode cX7_arrive 28 = .ok (.imul, 1) := dc_at daX7_arrive_0 17 rfl
theorem dX7_arrive_29 : decode cX7_arrive 29 = .ok (.lshl, 1) := dc_at daX7_arrive_0 18 rfl
theorem dX7_arrive_30 : decode cX7_arrive 30 = .ok (.ladd, 1) := dc_at daX7_arrive_0 19 rfl
theorem dX7_arrive_31 : decode cX7_arrive 31 = .ok (.lstore 5, 2) := dc_at daX7_arrive_0 20 rfl
theorem dX7_arrive_33 : decode cX7_arrive 33 = .ok (.iconst 0, 1) := dc_at daX7_arrive_0 21 rfl
theorem dX7_arrive_34 : decode cX7_arrive 34 = .ok (.istore 7, 2) := dc_at daX7_arrive_0 22 rfl
theorem dX7_arrive_36 : decode cX7_arrive 36 = .ok (.lload 5, 2) := dc_at daX7_arrive_0 23 rfl
def dlX7_arrive_1 : List (Nat × Jvm.ClassFile.Instr × Nat) := [(38, .ldc2_w 81, 3), (41, .lmul, 1), (42, .bipush 52, 2), (44, .lushr, 1), (45, .l2i, 1), (46, .istore 8, 2), (48, .iconst 0, 1), (49, .istore 9, 2), (51, .iload 9, 2), (53, .sipush 4096, 3), (56, .if_icmp .ge 102, 3), (59, .aload_n 0, 1), (60, .getfield 29, 3), (63, .iload 8, 2), (65, .iaload, 1), (66, .istore 10, 2), (68, .iload 10, 2), (70, .iload 4, 2), (72, .if_icmp .ge 26, 3), (75, .aload_n 0, 1), (76, .getfield 29, 3), (79, .iload 8, 2), (81, .aload_n 0, 1), (82, .getfield 45, 3)]
theorem daX7_arrive_1 : dlX7_arrive_1.all (dcK cX7_arrive) = true := by decide +kernel
theorem dX7_arrive_38 : decode cX7_arrive 38 = .ok (.ldc2_w 81, 3) := dc_at daX7_arrive_1 0 rfl
theorem dX7_arrive_41 : decode cX7_arrive 41 = .ok (.lmul, 1) := dc_at daX7_arrive_1 1 rfl
theorem dX7_arrive_42 : decode cX7_arrive 42 = .ok (.bipush 52, 2) := dc_at daX7_arrive_1 2 rfl
theorem dX7_arrive_44 : decode cX7_arrive 44 = .ok (.lushr, 1) := dc_at daX7_arrive_1 3 rfl
theorem dX7_arrive_45 : decode cX7_arrive 45 = .ok (.l2i, 1) := dc_at daX7_arrive_1 4 rfl
theorem dX7_arrive_46 : decode cX7_arrive 46 = .ok (.istore 8, 2) := dc_at daX7_arrive_1 5 rfl
theorem dX7_arrive_48 : decode cX7_arrive 48 = .ok (.iconst 0, 1) := dc_at daX7_arrive_1 6 rfl
theorem dX7_arrive_49 : decode cX7_arrive 49 = .ok (.istore 9, 2) := dc_at daX7_arrive_1 7 rfl
theorem dX7_arrive_51 : decode cX7_arrive 51 = .ok (.iload 9, 2) := dc_at daX7_arrive_1 8 rfl
theorem dX7_arrive_53 : decode cX7_arrive 53 = .ok (.sipush 4096, 3) := dc_at daX7_arrive_1 9 rfl
theorem dX7_arrive_56 : decode cX7_arrive 56 = .ok (.if_icmp .ge 102, 3) := dc_at daX7_arrive_1 10 rfl
theorem dX7_arrive_59 : decode cX7_arrive 59 = .ok (.aload_n 0, 1) := dc_at daX7_arrive_1 11 rfl
theorem dX7_arrive_60 : decode cX7_arrive 60 = .ok (.getfield 29, 3) := dc_at daX7_arrive_1 12 rfl
theorem dX7_arrive_63 : decode cX7_arrive 63 = .ok (.iload 8, 2) := dc_at daX7_arrive_1 13 rfl
theorem dX7_arrive_65 : decode cX7_arrive 65 = .ok (.iaload, 1) := dc_at daX7_arrive_1 14 rfl
theorem dX7_arrive_66 : decode cX7_arrive 66 = .ok (.istore 10, 2) := dc_at daX7_arrive_1 15 rfl
theorem dX7_arrive_68 : decode cX7_arrive 68 = .ok (.iload 10, 2) := dc_at daX7_arrive_1 16 rfl
theorem dX7_arrive_70 : decode cX7_arrive 70 = .ok (.iload 4, 2) := dc_at daX7_arrive_1 17 rfl
theorem dX7_arrive_72 : decode cX7_arrive 72 = .ok (.if_icmp .ge 26, 3) := dc_at daX7_arrive_1 18 rfl
theorem dX7_arrive_75 : decode cX7_arrive 75 = .ok (.aload_n 0, 1) := dc_at daX7_arrive_1 19 rfl
theorem dX7_arrive_76 : decode cX7_arrive 76 = .ok (.getfield 29, 3) := dc_at daX7_arrive_1 20 rfl
theorem dX7_arrive_79 : decode cX7_arrive 79 = .ok (.iload 8, 2) := dc_at daX7_arrive_1 21 rfl
theorem dX7_arrive_81 : decode cX7_arrive 81 = .ok (.aload_n 0, 1) := dc_at daX7_arrive_1 22 rfl
theorem dX7_arrive_82 : decode cX7_arrive 82 = .ok (.getfield 45, 3) := dc_at daX7_arrive_1 23 rfl
def dlX7_arrive_2 : List (Nat × Jvm.ClassFile.Instr × Nat) := [(85, .iastore, 1), (86, .aload_n 0, 1), (87, .iload_n 1, 1), (88, .lload 5, 2), (90, .iload_n 2, 1), (91, .iload_n 3, 1), (92, .iload 7, 2), (94, .invokevirtual 83, 3), (97, .return_, 1), (98, .aload_n 0, 1), (99, .getfield 11, 3), (102, .iload 10, 2), (104, .laload, 1), (105, .lload 5, 2), (107, .lcmp, 1), (108, .ifCond .ne 34, 3), (111, .aload_n 0, 1), (112, .getfield 15, 3), (115, .iload 10, 2), (117, .iaload, 1), (118, .iload_n 2, 1), (119, .if_icmp .ne 20, 3), (122, .aload_n 0, 1), (123, .getfield 19, 3)]
theorem daX7_arrive_2 : dlX7_arrive_2.all (dcK cX7_arrive) = true := by decide +kernel
theorem dX7_arrive_85 : decode cX7_arrive 85 = .ok (.iastore, 1) := dc_at daX7_arrive_2 0 rfl
theorem dX7_arrive_86 : decode cX7_arrive 86 = .ok (.aload_n 0, 1) := dc_at daX7_arrive_2 1 rfl
theorem dX7_arrive_87 : decode cX7_arrive 87 = .ok (.iload_n 1, 1) := dc_at daX7_arrive_2 2 rfl
theorem dX7_arrive_88 : decode cX7_arrive 88 = .ok (.lload 5, 2) := dc_at daX7_arrive_2 3 rfl
theorem dX7_arrive_90 : decode cX7_arrive 90 = .ok (.iload_n 2, 1) := dc_at daX7_arrive_2 4 rfl
theorem dX7_arrive_91 : decode cX7_arrive 91 = .ok (.iload_n 3, 1) := dc_at daX7_arrive_2 5 rfl
theorem dX7_arrive_92 : decode cX7_arrive 92 = .ok (.iload 7, 2) := dc_at daX7_arrive_2 6 rfl
theorem dX7_arrive_94 : decode cX7_arrive 94 = .ok (.invokevirtual 83, 3) := dc_at daX7_arrive_2 7 rfl
theorem dX7_arrive_97 : decode cX7_arrive 97 = .ok (.return_, 1) := dc_at daX7_arrive_2 8 rfl
theorem dX7_arrive_98 : decode cX7_arrive 98 = .ok (.aload_n 0, 1) := dc_at daX7_arrive_2 9 rfl
theorem dX7_arrive_99 : decode cX7_arrive 99 = .ok (.getfield 11, 3) := dc_at daX7_arrive_2 10 rfl
theorem dX7_arrive_102 : decode cX7_arrive 102 = .ok (.iload 10, 2) := dc_at daX7_arrive_2 11 rfl
theorem dX7_arrive_104 : decode cX7_arrive 104 = .ok (.laload, 1) := dc_at daX7_arrive_2 12 rfl
theorem dX7_arrive_105 : decode cX7_arrive 105 = .ok (.lload 5, 2) := dc_at daX7_arrive_2 13 rfl
theorem dX7_arrive_107 : decode cX7_arrive 107 = .ok (.lcmp, 1) := dc_at daX7_arrive_2 14 rfl
theorem dX7_arrive_108 : decode cX7_arrive 108 = .ok (.ifCond .ne 34, 3) := dc_at daX7_arrive_2 15 rfl
theorem dX7_arrive_111 : decode cX7_arrive 111 = .ok (.aload_n 0, 1) := dc_at daX7_arrive_2 16 rfl
theorem dX7_arrive_112 : decode cX7_arrive 112 = .ok (.getfield 15, 3) := dc_at daX7_arrive_2 17 rfl
theorem dX7_arrive_115 : decode cX7_arrive 115 = .ok (.iload 10, 2) := dc_at daX7_arrive_2 18 rfl
theorem dX7_arrive_117 : decode cX7_arrive 117 = .ok (.iaload, 1) := dc_at daX7_arrive_2 19 rfl
theorem dX7_arrive_118 : decode cX7_arrive 118 = .ok (.iload_n 2, 1) := dc_at daX7_arrive_2 20 rfl
theorem dX7_arrive_119 : decode cX7_arrive 119 = .ok (.if_icmp .ne 20, 3) := dc_at daX7_arrive_2 21 rfl
theorem dX7_arrive_122 : decode cX7_arrive 122 = .ok (.aload_n 0, 1) := dc_at daX7_arrive_2 22 rfl
theorem dX7_arrive_123 : decode cX7_arrive 123 = .ok (.getfield 19, 3) := dc_at daX7_arrive_2 23 rfl
def dlX7_arrive_3 : List (Nat × Jvm.ClassFile.Instr × Nat) := [(126, .iload 10, 2), (128, .dup2, 1), (129, .iaload, 1), (130, .aload_n 0, 1), (131, .getfield 19, 3), (134, .iload_n 1, 1), (135, .iaload, 1), (136, .iadd, 1), (137, .iastore, 1), (138, .return_, 1), (139, .iconst 1, 1), (140, .istore 7, 2), (142, .iload 8, 2), (144, .iconst 1, 1), (145, .iadd, 1), (146, .sipush 4095, 3), (149, .iand, 1), (150, .istore 8, 2), (152, .iinc 9 1, 3), (155, .goto (-104), 3), (158, .return_, 1)]
theorem daX7_arrive_3 : dlX7_arrive_3.all (dcK cX7_arrive) = true := by decide +kernel
theorem dX7_arrive_126 : decode cX7_arrive 126 = .ok (.iload 10, 2) := dc_at daX7_arrive_3 0 rfl
theorem dX7_arrive_128 : decode cX7_arrive 128 = .ok (.dup2, 1) := dc_at daX7_arrive_3 1 rfl
theorem dX7_arrive_129 : decode cX7_arrive 129 = .ok (.iaload, 1) := dc_at daX7_arrive_3 2 rfl
theorem dX7_arrive_130 : decode cX7_arrive 130 = .ok (.aload_n 0, 1) := dc_at daX7_arrive_3 3 rfl
theorem dX7_arrive_131 : decode cX7_arrive 131 = .ok (.getfield 19, 3) := dc_at daX7_arrive_3 4 rfl
theorem dX7_arrive_134 : decode cX7_arrive 134 = .ok (.iload_n 1, 1) := dc_at daX7_arrive_3 5 rfl
theorem dX7_arrive_135 : decode cX7_arrive 135 = .ok (.iaload, 1) := dc_at daX7_arrive_3 6 rfl
theorem dX7_arrive_136 : decode cX7_arrive 136 = .ok (.iadd, 1) := dc_at daX7_arrive_3 7 rfl
theorem dX7_arrive_137 : decode cX7_arrive 137 = .ok (.iastore, 1) := dc_at daX7_arrive_3 8 rfl
theorem dX7_arrive_138 : decode cX7_arrive 138 = .ok (.return_, 1) := dc_at daX7_arrive_3 9 rfl
theorem dX7_arrive_139 : decode cX7_arrive 139 = .ok (.iconst 1, 1) := dc_at daX7_arrive_3 10 rfl
theorem dX7_arrive_140 : decode cX7_arrive 140 = .ok (.istore 7, 2) := dc_at daX7_arrive_3 11 rfl
theorem dX7_arrive_142 : decode cX7_arrive 142 = .ok (.iload 8, 2) := dc_at daX7_arrive_3 12 rfl
theorem dX7_arrive_144 : decode cX7_arrive 144 = .ok (.iconst 1, 1) := dc_at daX7_arrive_3 13 rfl
theorem dX7_arrive_145 : decode cX7_arrive 145 = .ok (.iadd, 1) := dc_at daX7_arrive_3 14 rfl
theorem dX7_arrive_146 : decode cX7_arrive 146 = .ok (.sipush 4095, 3) := dc_at daX7_arrive_3 15 rfl
theorem dX7_arrive_149 : decode cX7_arrive 149 = .ok (.iand, 1) := dc_at daX7_arrive_3 16 rfl
theorem dX7_arrive_150 : decode cX7_arrive 150 = .ok (.istore 8, 2) := dc_at daX7_arrive_3 17 rfl
theorem dX7_arrive_152 : decode cX7_arrive 152 = .ok (.iinc 9 1, 3) := dc_at daX7_arrive_3 18 rfl
theorem dX7_arrive_155 : decode cX7_arrive 155 = .ok (.goto (-104), 3) := dc_at daX7_arrive_3 19 rfl
theorem dX7_arrive_158 : decode cX7_arrive 158 = .ok (.return_, 1) := dc_at daX7_arrive_3 20 rfl
def dlX7_append_0 : List (Nat × Jvm.ClassFile.Instr × Nat) := [(0, .aload_n 0, 1), (1, .getfield 45, 3), (4, .sipush 2560, 3), (7, .if_icmp .ge 80, 3), (10, .aload_n 0, 1), (11, .getfield 11, 3), (14, .aload_n 0, 1), (15, .getfield 45, 3), (18, .lload_n 2, 1), (19, .lastore, 1), (20, .aload_n 0, 1), (21, .getfield 15, 3), (24, .aload_n 0, 1), (25, .getfield 45, 3), (28, .iload 4, 2), (30, .iastore, 1), (31, .aload_n 0, 1), (32, .getfield 19, 3), (35, .aload_n 0, 1), (36, .getfield 45, 3), (39, .aload_n 0, 1), (40, .getfield 19, 3), (43, .iload_n 1, 1), (44, .iaload, 1)]
theorem daX7_append_0 : dlX7_append_0.all (dcK cX7_append) = true := by decide +kernel
theorem dX7_append_0 : decode cX7_append 0 = .ok (.aload_n 0, 1) := dc_at daX7_append_0 0 rfl
theorem dX7_append_1 : decode cX7_append 1 = .ok (.getfield 45, 3) := dc_at daX7_append_0 1 rfl
theorem dX7_append_4 : decode cX7_append 4 = .ok (.sipush 2560, 3) := dc_at daX7_append_0 2 rfl
theorem dX7_append_7 : decode cX7_append 7 = .ok (.if_icmp .ge 80, 3) := dc_at daX7_append_0 3 rfl
theorem dX7_append_10 : decode cX7_append 10 = .ok (.aload_n 0, 1) := dc_at daX7_append_0 4 rfl
theorem dX7_append_11 : decode cX7_append 11 = .ok (.getfield 11, 3) := dc_at daX7_append_0 5 rfl
theorem dX7_append_14 : decode cX7_append 14 = .ok (.aload_n 0, 1) := dc_at daX7_append_0 6 rfl
theorem dX7_append_15 : decode cX7_append 15 = .ok (.getfield 45, 3) := dc_at daX7_append_0 7 rfl
theorem dX7_append_18 : decode cX7_append 18 = .ok (.lload_n 2, 1) := dc_at daX7_append_0 8 rfl
theorem dX7_append_19 : decode cX7_append 19 = .ok (.lastore, 1) := dc_at daX7_append_0 9 rfl
theorem dX7_append_20 : decode cX7_append 20 = .ok (.aload_n 0, 1) := dc_at daX7_append_0 10 rfl
theorem dX7_append_21 : decode cX7_append 21 = .ok (.getfield 15, 3) := dc_at daX7_append_0 11 rfl
theorem dX7_append_24 : decode cX7_append 24 = .ok (.aload_n 0, 1) := dc_at daX7_append_0 12 rfl
theorem dX7_append_25 : decode cX7_append 25 = .ok (.getfield 45, 3) := dc_at daX7_append_0 13 rfl
theorem dX7_append_28 : decode cX7_append 28 = .ok (.iload 4, 2) := dc_at daX7_append_0 14 rfl
theorem dX7_append_30 : decode cX7_append 30 = .ok (.iastore, 1) := dc_at daX7_append_0 15 rfl
theorem dX7_append_31 : decode cX7_append 31 = .ok (.aload_n 0, 1) := dc_at daX7_append_0 16 rfl
theorem dX7_append_32 : decode cX7_append 32 = .ok (.getfield 19, 3) := dc_at daX7_append_0 17 rfl
theorem dX7_append_35 : decode cX7_append 35 = .ok (.aload_n 0, 1) := dc_at daX7_append_0 18 rfl
theorem dX7_append_36 : decode cX7_append 36 = .ok (.getfield 45, 3) := dc_at daX7_append_0 19 rfl
theorem dX7_append_39 : decode cX7_append 39 = .ok (.aload_n 0, 1) := dc_at daX7_append_0 20 rfl
theorem dX7_append_40 : decode cX7_append 40 = .ok (.getfield 19, 3) := dc_at daX7_append_0 21 rfl
theorem dX7_append_43 : decode cX7_append 43 = .ok (.iload_n 1, 1) := dc_at daX7_append_0 22 rfl
theorem dX7_append_44 : decode cX7_append 44 = .ok (.iaload, 1) := dc_at daX7_append_0 23 rfl
def dlX7_append_1 : List (Nat × Jvm.ClassFile.Instr × Nat) := [(45, .iastore, 1), (46, .aload_n 0, 1), (47, .getfield 22, 3), (50, .aload_n 0, 1), (51, .getfield 45, 3), (54, .aload_n 0, 1), (55, .getfield 22, 3), (58, .iload_n 1, 1), (59, .iaload, 1), (60, .iconst 2, 1), (61, .ishl, 1), (62, .iload 5, 2), (64, .ior, 1), (65, .iastore, 1), (66, .aload_n 0, 1), (67, .getfield 25, 3), (70, .aload_n 0, 1), (71, .getfield 45, 3), (74, .iload 6, 2), (76, .bastore, 1), (77, .aload_n 0, 1), (78, .dup, 1), (79, .getfield 45, 3), (82, .iconst 1, 1)]
theorem daX7_append_1 : dlX7_append_1.all (dcK cX7_append) = true := by decide +kernel
theorem dX7_append_45 : decode cX7_append 45 = .ok (.iastore, 1) := dc_at daX7_append_1 0 rfl
theorem dX7_append_46 : decode cX7_append 46 = .ok (.aload_n 0, 1) := dc_at daX7_append_1 1 rfl
theorem dX7_append_47 : decode cX7_append 47 = .ok (.getfield 22, 3) := dc_at daX7_append_1 2 rfl
theorem dX7_append_50 : decode cX7_append 50 = .ok (.aload_n 0, 1) := dc_at daX7_append_1 3 rfl
theorem dX7_append_51 : decode cX7_append 51 = .ok (.getfield 45, 3) := dc_at daX7_append_1 4 rfl
theorem dX7_append_54 : decode cX7_append 54 = .ok (.aload_n 0, 1) := dc_at daX7_append_1 5 rfl
theorem dX7_append_55 : decode cX7_append 55 = .ok (.getfield 22, 3) := dc_at daX7_append_1 6 rfl
theorem dX7_append_58 : decode cX7_append 58 = .ok (.iload_n 1, 1) := dc_at daX7_append_1 7 rfl
theorem dX7_append_59 : decode cX7_append 59 = .ok (.iaload, 1) := dc_at daX7_append_1 8 rfl
theorem dX7_append_60 : decode cX7_append 60 = .ok (.iconst 2, 1) := dc_at daX7_append_1 9 rfl
theorem dX7_append_61 : decode cX7_append 61 = .ok (.ishl, 1) := dc_at daX7_append_1 10 rfl
theorem dX7_append_62 : decode cX7_append 62 = .ok (.iload 5, 2) := dc_at daX7_append_1 11 rfl
theorem dX7_append_64 : decode cX7_append 64 = .ok (.ior, 1) := dc_at daX7_append_1 12 rfl
theorem dX7_append_65 : decode cX7_append 65 = .ok (.iastore, 1) := dc_at daX7_append_1 13 rfl
theorem dX7_append_66 : decode cX7_append 66 = .ok (.aload_n 0, 1) := dc_at daX7_append_1 14 rfl
theorem dX7_append_67 : decode cX7_append 67 = .ok (.getfield 25, 3) := dc_at daX7_append_1 15 rfl
theorem dX7_append_70 : decode cX7_append 70 = .ok (.aload_n 0, 1) := dc_at daX7_append_1 16 rfl
theorem dX7_append_71 : decode cX7_append 71 = .ok (.getfield 45, 3) := dc_at daX7_append_1 17 rfl
theorem dX7_append_74 : decode cX7_append 74 = .ok (.iload 6, 2) := dc_at daX7_append_1 18 rfl
theorem dX7_append_76 : decode cX7_append 76 = .ok (.bastore, 1) := dc_at daX7_append_1 19 rfl
theorem dX7_append_77 : decode cX7_append 77 = .ok (.aload_n 0, 1) := dc_at daX7_append_1 20 rfl
theorem dX7_append_78 : decode cX7_append 78 = .ok (.dup, 1) := dc_at daX7_append_1 21 rfl
theorem dX7_append_79 : decode cX7_append 79 = .ok (.getfield 45, 3) := dc_at daX7_append_1 22 rfl
theorem dX7_append_82 : decode cX7_append 82 = .ok (.iconst 1, 1) := dc_at daX7_append_1 23 rfl
def dlX7_append_2 : List (Nat × Jvm.ClassFile.Instr × Nat) := [(83, .iadd, 1), (84, .putfield 45, 3), (87, .return_, 1)]
theorem daX7_append_2 : dlX7_append_2.all (dcK cX7_append) = true := by decide +kernel
theorem dX7_append_83 : decode cX7_append 83 = .ok (.iadd, 1) := dc_at daX7_append_2 0 rfl
theorem dX7_append_84 : decode cX7_append 84 = .ok (.putfield 45, 3) := dc_at daX7_append_2 1 rfl
theorem dX7_append_87 : decode cX7_append 87 = .ok (.return_, 1) := dc_at daX7_append_2 2 rfl
def dlX7_moveOf_0 : List (Nat × Jvm.ClassFile.Instr × Nat) := [(0, .iload_n 3, 1), (1, .ifCond .lt 8, 3), (4, .iload_n 3, 1), (5, .iload_n 2, 1), (6, .if_icmp .lt 5, 3), (9, .iconst (-1), 1), (10, .ireturn, 1), (11, .aload_n 0, 1), (12, .getfield 22, 3), (15, .iload_n 1, 1), (16, .iaload, 1), (17, .iconst 2, 1), (18, .iload_n 2, 1), (19, .iconst 1, 1), (20, .isub, 1), (21, .iload_n 3, 1), (22, .isub, 1), (23, .imul, 1), (24, .ishr, 1), (25, .iconst 3, 1), (26, .iand, 1), (27, .ireturn, 1)]
theorem daX7_moveOf_0 : dlX7_moveOf_0.all (dcK cX7_moveOf) = true := by decide +kernel
theorem dX7_moveOf_0 : decode cX7_moveOf 0 = .ok (.iload_n 3, 1) := dc_at daX7_moveOf_0 0 rfl
theorem dX7_moveOf_1 : decode cX7_moveOf 1 = .ok (.ifCond .lt 8, 3) := dc_at daX7_moveOf_0 1 rfl
theorem dX7_moveOf_4 : decode cX7_moveOf 4 = .ok (.iload_n 3, 1) := dc_at daX7_moveOf_0 2 rfl
theorem dX7_moveOf_5 : decode cX7_moveOf 5 = .ok (.iload_n 2, 1) := dc_at daX7_moveOf_0 3 rfl
theorem dX7_moveOf_6 : decode cX7_moveOf 6 = .ok (.if_icmp .lt 5, 3) := dc_at daX7_moveOf_0 4 rfl
theorem dX7_moveOf_9 : decode cX7_moveOf 9 = .ok (.iconst (-1), 1) := dc_at daX7_moveOf_0 5 rfl
theorem dX7_moveOf_10 : decode cX7_moveOf 10 = .ok (.ireturn, 1) := dc_at daX7_moveOf_0 6 rfl
theorem dX7_moveOf_11 : decode cX7_moveOf 11 = .ok (.aload_n 0, 1) := dc_at daX7_moveOf_0 7 rfl
theorem dX7_moveOf_12 : decode cX7_moveOf 12 = .ok (.getfield 22, 3) := dc_at daX7_moveOf_0 8 rfl
theorem dX7_moveOf_15 : decode cX7_moveOf 15 = .ok (.iload_n 1, 1) := dc_at daX7_moveOf_0 9 rfl
theorem dX7_moveOf_16 : decode cX7_moveOf 16 = .ok (.iaload, 1) := dc_at daX7_moveOf_0 10 rfl
theorem dX7_moveOf_17 : decode cX7_moveOf 17 = .ok (.iconst 2, 1) := dc_at daX7_moveOf_0 11 rfl
theorem dX7_moveOf_18 : decode cX7_moveOf 18 = .ok (.iload_n 2, 1) := dc_at daX7_moveOf_0 12 rfl
theorem dX7_moveOf_19 : decode cX7_moveOf 19 = .ok (.iconst 1, 1) := dc_at daX7_moveOf_0 13 rfl
theorem dX7_moveOf_20 : decode cX7_moveOf 20 = .ok (.isub, 1) := dc_at daX7_moveOf_0 14 rfl
theorem dX7_moveOf_21 : decode cX7_moveOf 21 = .ok (.iload_n 3, 1) := dc_at daX7_moveOf_0 15 rfl
theorem dX7_moveOf_22 : decode cX7_moveOf 22 = .ok (.isub, 1) := dc_at daX7_moveOf_0 16 rfl
theorem dX7_moveOf_23 : decode cX7_moveOf 23 = .ok (.imul, 1) := dc_at daX7_moveOf_0 17 rfl
theorem dX7_moveOf_24 : decode cX7_moveOf 24 = .ok (.ishr, 1) := dc_at daX7_moveOf_0 18 rfl
theorem dX7_moveOf_25 : decode cX7_moveOf 25 = .ok (.iconst 3, 1) := dc_at daX7_moveOf_0 19 rfl
theorem dX7_moveOf_26 : decode cX7_moveOf 26 = .ok (.iand, 1) := dc_at daX7_moveOf_0 20 rfl
theorem dX7_moveOf_27 : decode cX7_moveOf 27 = .ok (.ireturn, 1) := dc_at daX7_moveOf_0 21 rfl
def dlX8_init_0 : List (Nat × Jvm.ClassFile.Instr × Nat) := [(0, .aload_n 0, 1), (1, .invokespecial 1, 3), (4, .aload_n 0, 1), (5, .sipush 900, 3), (8, .newarray .byte, 2), (10, .putfield 9, 3), (13, .aload_n 0, 1), (14, .iconst 0, 1), (15, .putfield 13, 3), (18, .aload_n 0, 1), (19, .new 17, 3), (22, .dup, 1), (23, .invokespecial 19, 3), (26, .putfield 20, 3), (29, .aload_n 0, 1), (30, .new 24, 3), (33, .dup, 1), (34, .invokespecial 26, 3), (37, .putfield 27, 3), (40, .aload_n 0, 1), (41, .new 24, 3), (44, .dup, 1), (45, .invokespecial 26, 3), (48, .putfield 31, 3)]
theorem daX8_init_0 : dlX8_init_0.all (dcK cX8_init) = true := by decide +kernel
theorem dX8_init_0 : decode cX8_init 0 = .ok (.aload_n 0, 1) := dc_at daX8_init_0 0 rfl
theorem dX8_init_1 : decode cX8_init 1 = .ok (.invokespecial 1, 3) := dc_at daX8_init_0 1 rfl
theorem dX8_init_4 : decode cX8_init 4 = .ok (.aload_n 0, 1) := dc_at daX8_init_0 2 rfl
theorem dX8_init_5 : decode cX8_init 5 = .ok (.sipush 900, 3) := dc_at daX8_init_0 3 rfl
theorem dX8_init_8 : decode cX8_init 8 = .ok (.newarray .byte, 2) := dc_at daX8_init_0 4 rfl
theorem dX8_init_10 : decode cX8_init 10 = .ok (.putfield 9, 3) := dc_at daX8_init_0 5 rfl
theorem dX8_init_13 : decode cX8_init 13 = .ok (.aload_n 0, 1) := dc_at daX8_init_0 6 rfl
theorem dX8_init_14 : decode cX8_init 14 = .ok (.iconst 0, 1) := dc_at daX8_init_0 7 rfl
theorem dX8_init_15 : decode cX8_init 15 = .ok (.putfield 13, 3) := dc_at daX8_init_0 8 rfl
theorem dX8_init_18 : decode cX8_init 18 = .ok (.aload_n 0, 1) := dc_at daX8_init_0 9 rfl
theorem dX8_init_19 : decode cX8_init 19 = .ok (.new 17, 3) := dc_at daX8_init_0 10 rfl
theorem dX8_init_22 : decode cX8_init 22 = .ok (.dup, 1) := dc_at daX8_init_0 11 rfl
theorem dX8_init_23 : decode cX8_init 23 = .ok (.invokespecial 19, 3) := dc_at daX8_init_0 12 rfl
theorem dX8_init_26 : decode cX8_init 26 = .ok (.putfield 20, 3) := dc_at daX8_init_0 13 rfl
theorem dX8_init_29 : decode cX8_init 29 = .ok (.aload_n 0, 1) := dc_at daX8_init_0 14 rfl
theorem dX8_init_30 : decode cX8_init 30 = .ok (.new 24, 3) := dc_at daX8_init_0 15 rfl
theorem dX8_init_33 : decode cX8_init 33 = .ok (.dup, 1) := dc_at daX8_init_0 16 rfl
theorem dX8_init_34 : decode cX8_init 34 = .ok (.invokespecial 26, 3) := dc_at daX8_init_0 17 rfl
theorem dX8_init_37 : decode cX8_init 37 = .ok (.putfield 27, 3) := dc_at daX8_init_0 18 rfl
theorem dX8_init_40 : decode cX8_init 40 = .ok (.aload_n 0, 1) := dc_at daX8_init_0 19 rfl
theorem dX8_init_41 : decode cX8_init 41 = .ok (.new 24, 3) := dc_at daX8_init_0 20 rfl
theorem dX8_init_44 : decode cX8_init 44 = .ok (.dup, 1) := dc_at daX8_init_0 21 rfl
theorem dX8_init_45 : decode cX8_init 45 = .ok (.invokespecial 26, 3) := dc_at daX8_init_0 22 rfl
theorem dX8_init_48 : decode cX8_init 48 = .ok (.putfield 31, 3) := dc_at daX8_init_0 23 rfl
def dlX8_init_1 : List (Nat × Jvm.ClassFile.Instr × Nat) := [(51, .aload_n 0, 1), (52, .iconst 2, 1), (53, .anewarray 24, 3), (56, .putfield 34, 3), (59, .aload_n 0, 1), (60, .iconst 2, 1), (61, .newarray .boolean, 2), (63, .putfield 38, 3), (66, .aload_n 0, 1), (67, .iconst 4, 1), (68, .anewarray 42, 3), (71, .putfield 44, 3), (74, .aload_n 0, 1), (75, .new 48, 3), (78, .dup, 1), (79, .invokespecial 50, 3), (82, .putfield 51, 3), (85, .aload_n 0, 1), (86, .new 55, 3), (89, .dup, 1), (90, .invokespecial 57, 3), (93, .putfield 58, 3), (96, .aload_n 0, 1), (97, .new 62, 3)]
theorem daX8_init_1 : dlX8_init_1.all (dcK cX8_init) = true := by decide +kernel
theorem dX8_init_51 : decode cX8_init 51 = .ok (.aload_n 0, 1) := dc_at daX8_init_1 0 rfl
theorem dX8_init_52 : decode cX8_init 52 = .ok (.iconst 2, 1) := dc_at daX8_init_1 1 rfl
theorem dX8_init_53 : decode cX8_init 53 = .ok (.anewarray 24, 3) := dc_at daX8_init_1 2 rfl
theorem dX8_init_56 : decode cX8_init 56 = .ok (.putfield 34, 3) := dc_at daX8_init_1 3 rfl
theorem dX8_init_59 : decode cX8_init 59 = .ok (.aload_n 0, 1) := dc_at daX8_init_1 4 rfl
theorem dX8_init_60 : decode cX8_init 60 = .ok (.iconst 2, 1) := dc_at daX8_init_1 5 rfl
theorem dX8_init_61 : decode cX8_init 61 = .ok (.newarray .boolean, 2) := dc_at daX8_init_1 6 rfl
theorem dX8_init_63 : decode cX8_init 63 = .ok (.putfield 38, 3) := dc_at daX8_init_1 7 rfl
theorem dX8_init_66 : decode cX8_init 66 = .ok (.aload_n 0, 1) := dc_at daX8_init_1 8 rfl
theorem dX8_init_67 : decode cX8_init 67 = .ok (.iconst 4, 1) := dc_at daX8_init_1 9 rfl
theorem dX8_init_68 : decode cX8_init 68 = .ok (.anewarray 42, 3) := dc_at daX8_init_1 10 rfl
theorem dX8_init_71 : decode cX8_init 71 = .ok (.putfield 44, 3) := dc_at daX8_init_1 11 rfl
theorem dX8_init_74 : decode cX8_init 74 = .ok (.aload_n 0, 1) := dc_at daX8_init_1 12 rfl
theorem dX8_init_75 : decode cX8_init 75 = .ok (.new 48, 3) := dc_at daX8_init_1 13 rfl
theorem dX8_init_78 : decode cX8_init 78 = .ok (.dup, 1) := dc_at daX8_init_1 14 rfl
theorem dX8_init_79 : decode cX8_init 79 = .ok (.invokespecial 50, 3) := dc_at daX8_init_1 15 rfl
theorem dX8_init_82 : decode cX8_init 82 = .ok (.putfield 51, 3) := dc_at daX8_init_1 16 rfl
theorem dX8_init_85 : decode cX8_init 85 = .ok (.aload_n 0, 1) := dc_at daX8_init_1 17 rfl
theorem dX8_init_86 : decode cX8_init 86 = .ok (.new 55, 3) := dc_at daX8_init_1 18 rfl
theorem dX8_init_89 : decode cX8_init 89 = .ok (.dup, 1) := dc_at daX8_init_1 19 rfl
theorem dX8_init_90 : decode cX8_init 90 = .ok (.invokespecial 57, 3) := dc_at daX8_init_1 20 rfl
theorem dX8_init_93 : decode cX8_init 93 = .ok (.putfield 58, 3) := dc_at daX8_init_1 21 rfl
theorem dX8_init_96 : decode cX8_init 96 = .ok (.aload_n 0, 1) := dc_at daX8_init_1 22 rfl
theorem dX8_init_97 : decode cX8_init 97 = .ok (.new 62, 3) := dc_at daX8_init_1 23 rfl
def dlX8_init_2 : List (Nat × Jvm.ClassFile.Instr × Nat) := [(100, .dup, 1), (101, .invokespecial 64, 3), (104, .putfield 65, 3), (107, .aload_n 0, 1), (108, .new 69, 3), (111, .dup, 1), (112, .invokespecial 71, 3), (115, .putfield 72, 3), (118, .aload_n 0, 1), (119, .new 76, 3), (122, .dup, 1), (123, .invokespecial 78, 3), (126, .putfield 79, 3), (129, .iconst 0, 1), (130, .istore_n 1, 1), (131, .iload_n 1, 1), (132, .iconst 2, 1), (133, .if_icmp .ge 22, 3), (136, .aload_n 0, 1), (137, .getfield 34, 3), (140, .iload_n 1, 1), (141, .new 24, 3), (144, .dup, 1), (145, .invokespecial 26, 3)]
theorem daX8_init_2 : dlX8_init_2.all (dcK cX8_init) = true := by decide +kernel
theorem dX8_init_100 : decode cX8_init 100 = .ok (.dup, 1) := dc_at daX8_init_2 0 rfl
theorem dX8_init_101 : decode cX8_init 101 = .ok (.invokespecial 64, 3) := dc_at daX8_init_2 1 rfl
theorem dX8_init_104 : decode cX8_init 104 = .ok (.putfield 65, 3) := dc_at daX8_init_2 2 rfl
theorem dX8_init_107 : decode cX8_init 107 = .ok (.aload_n 0, 1) := dc_at daX8_init_2 3 rfl
theorem dX8_init_108 : decode cX8_init 108 = .ok (.new 69, 3) := dc_at daX8_init_2 4 rfl
theorem dX8_init_111 : decode cX8_init 111 = .ok (.dup, 1) := dc_at daX8_init_2 5 rfl
theorem dX8_init_112 : decode cX8_init 112 = .ok (.invokespecial 71, 3) := dc_at daX8_init_2 6 rfl
theorem dX8_init_115 : decode cX8_init 115 = .ok (.putfield 72, 3) := dc_at daX8_init_2 7 rfl
theorem dX8_init_118 : decode cX8_init 118 = .ok (.aload_n 0, 1) := dc_at daX8_init_2 8 rfl
theorem dX8_init_119 : decode cX8_init 119 = .ok (.new 76, 3) := dc_at daX8_init_2 9 rfl
theorem dX8_init_122 : decode cX8_init 122 = .ok (.dup, 1) := dc_at daX8_init_2 10 rfl
theorem dX8_init_123 : decode cX8_init 123 = .ok (.invokespecial 78, 3) := dc_at daX8_init_2 11 rfl
theorem dX8_init_126 : decode cX8_init 126 = .ok (.putfield 79, 3) := dc_at daX8_init_2 12 rfl
theorem dX8_init_129 : decode cX8_init 129 = .ok (.iconst 0, 1) := dc_at daX8_init_2 13 rfl
theorem dX8_init_130 : decode cX8_init 130 = .ok (.istore_n 1, 1) := dc_at daX8_init_2 14 rfl
theorem dX8_init_131 : decode cX8_init 131 = .ok (.iload_n 1, 1) := dc_at daX8_init_2 15 rfl
theorem dX8_init_132 : decode cX8_init 132 = .ok (.iconst 2, 1) := dc_at daX8_init_2 16 rfl
theorem dX8_init_133 : decode cX8_init 133 = .ok (.if_icmp .ge 22, 3) := dc_at daX8_init_2 17 rfl
theorem dX8_init_136 : decode cX8_init 136 = .ok (.aload_n 0, 1) := dc_at daX8_init_2 18 rfl
theorem dX8_init_137 : decode cX8_init 137 = .ok (.getfield 34, 3) := dc_at daX8_init_2 19 rfl
theorem dX8_init_140 : decode cX8_init 140 = .ok (.iload_n 1, 1) := dc_at daX8_init_2 20 rfl
theorem dX8_init_141 : decode cX8_init 141 = .ok (.new 24, 3) := dc_at daX8_init_2 21 rfl
theorem dX8_init_144 : decode cX8_init 144 = .ok (.dup, 1) := dc_at daX8_init_2 22 rfl
theorem dX8_init_145 : decode cX8_init 145 = .ok (.invokespecial 26, 3) := dc_at daX8_init_2 23 rfl
def dlX8_init_3 : List (Nat × Jvm.ClassFile.Instr × Nat) := [(148, .aastore, 1), (149, .iinc 1 1, 3), (152, .goto (-21), 3), (155, .iconst 0, 1), (156, .istore_n 1, 1), (157, .iload_n 1, 1), (158, .iconst 4, 1), (159, .if_icmp .ge 22, 3), (162, .aload_n 0, 1), (163, .getfield 44, 3), (166, .iload_n 1, 1), (167, .new 42, 3), (170, .dup, 1), (171, .invokespecial 83, 3), (174, .aastore, 1), (175, .iinc 1 1, 3), (178, .goto (-21), 3), (181, .return_, 1)]
theorem daX8_init_3 : dlX8_init_3.all (dcK cX8_init) = true := by decide +kernel
theorem dX8_init_148 : decode cX8_init 148 = .ok (.aastore, 1) := dc_at daX8_init_3 0 rfl
theorem dX8_init_149 : decode cX8_init 149 = .ok (.iinc 1 1, 3) := dc_at daX8_init_3 1 rfl
theorem dX8_init_152 : decode cX8_init 152 = .ok (.goto (-21), 3) := dc_at daX8_init_3 2 rfl
theorem dX8_init_155 : decode cX8_init 155 = .ok (.iconst 0, 1) := dc_at daX8_init_3 3 rfl
theorem dX8_init_156 : decode cX8_init 156 = .ok (.istore_n 1, 1) := dc_at daX8_init_3 4 rfl
theorem dX8_init_157 : decode cX8_init 157 = .ok (.iload_n 1, 1) := dc_at daX8_init_3 5 rfl
theorem dX8_init_158 : decode cX8_init 158 = .ok (.iconst 4, 1) := dc_at daX8_init_3 6 rfl
theorem dX8_init_159 : decode cX8_init 159 = .ok (.if_icmp .ge 22, 3) := dc_at daX8_init_3 7 rfl
theorem dX8_init_162 : decode cX8_init 162 = .ok (.aload_n 0, 1) := dc_at daX8_init_3 8 rfl
theorem dX8_init_163 : decode cX8_init 163 = .ok (.getfield 44, 3) := dc_at daX8_init_3 9 rfl
theorem dX8_init_166 : decode cX8_init 166 = .ok (.iload_n 1, 1) := dc_at daX8_init_3 10 rfl
theorem dX8_init_167 : decode cX8_init 167 = .ok (.new 42, 3) := dc_at daX8_init_3 11 rfl
theorem dX8_init_170 : decode cX8_init 170 = .ok (.dup, 1) := dc_at daX8_init_3 12 rfl
theorem dX8_init_171 : decode cX8_init 171 = .ok (.invokespecial 83, 3) := dc_at daX8_init_3 13 rfl
theorem dX8_init_174 : decode cX8_init 174 = .ok (.aastore, 1) := dc_at daX8_init_3 14 rfl
theorem dX8_init_175 : decode cX8_init 175 = .ok (.iinc 1 1, 3) := dc_at daX8_init_3 15 rfl
theorem dX8_init_178 : decode cX8_init 178 = .ok (.goto (-21), 3) := dc_at daX8_init_3 16 rfl
theorem dX8_init_181 : decode cX8_init 181 = .ok (.return_, 1) := dc_at daX8_init_3 17 rfl
def dlX8_feed_0 : List (Nat × Jvm.ClassFile.Instr × Nat) := [(0, .aload_n 0, 1), (1, .getfield 13, 3), (4, .bipush 20, 2), (6, .iadd, 1), (7, .sipush 900, 3), (10, .if_icmp .le 6, 3), (13, .bipush (-5), 2), (15, .ireturn, 1), (16, .aload_n 0, 1), (17, .iload_n 1, 1), (18, .invokevirtual 84, 3), (21, .aload_n 0, 1), (22, .iload_n 2, 1), (23, .invokevirtual 84, 3), (26, .aload_n 0, 1), (27, .iload_n 3, 1), (28, .invokevirtual 84, 3), (31, .aload_n 0, 1), (32, .iload 4, 2), (34, .invokevirtual 84, 3), (37, .aload_n 0, 1), (38, .iload 5, 2), (40, .invokevirtual 84, 3), (43, .aload_n 0, 1)]
theorem daX8_feed_0 : dlX8_feed_0.all (dcK cX8_feed) = true := by decide +kernel
theorem dX8_feed_0 : decode cX8_feed 0 = .ok (.aload_n 0, 1) := dc_at daX8_feed_0 0 rfl
theorem dX8_feed_1 : decode cX8_feed 1 = .ok (.getfield 13, 3) := dc_at daX8_feed_0 1 rfl
theorem dX8_feed_4 : decode cX8_feed 4 = .ok (.bipush 20, 2) := dc_at daX8_feed_0 2 rfl
theorem dX8_feed_6 : decode cX8_feed 6 = .ok (.iadd, 1) := dc_at daX8_feed_0 3 rfl
theorem dX8_feed_7 : decode cX8_feed 7 = .ok (.sipush 900, 3) := dc_at daX8_feed_0 4 rfl
theorem dX8_feed_10 : decode cX8_feed 10 = .ok (.if_icmp .le 6, 3) := dc_at daX8_feed_0 5 rfl
theorem dX8_feed_13 : decode cX8_feed 13 = .ok (.bipush (-5), 2) := dc_at daX8_feed_0 6 rfl
theorem dX8_feed_15 : decode cX8_feed 15 = .ok (.ireturn, 1) := dc_at daX8_feed_0 7 rfl
theorem dX8_feed_16 : decode cX8_feed 16 = .ok (.aload_n 0, 1) := dc_at daX8_feed_0 8 rfl
theorem dX8_feed_17 : decode cX8_feed 17 = .ok (.iload_n 1, 1) := dc_at daX8_feed_0 9 rfl
theorem dX8_feed_18 : decode cX8_feed 18 = .ok (.invokevirtual 84, 3) := dc_at daX8_feed_0 10 rfl
theorem dX8_feed_21 : decode cX8_feed 21 = .ok (.aload_n 0, 1) := dc_at daX8_feed_0 11 rfl
theorem dX8_feed_22 : decode cX8_feed 22 = .ok (.iload_n 2, 1) := dc_at daX8_feed_0 12 rfl
theorem dX8_feed_23 : decode cX8_feed 23 = .ok (.invokevirtual 84, 3) := dc_at daX8_feed_0 13 rfl
theorem dX8_feed_26 : decode cX8_feed 26 = .ok (.aload_n 0, 1) := dc_at daX8_feed_0 14 rfl
theorem dX8_feed_27 : decode cX8_feed 27 = .ok (.iload_n 3, 1) := dc_at daX8_feed_0 15 rfl
theorem dX8_feed_28 : decode cX8_feed 28 = .ok (.invokevirtual 84, 3) := dc_at daX8_feed_0 16 rfl
theorem dX8_feed_31 : decode cX8_feed 31 = .ok (.aload_n 0, 1) := dc_at daX8_feed_0 17 rfl
theorem dX8_feed_32 : decode cX8_feed 32 = .ok (.iload 4, 2) := dc_at daX8_feed_0 18 rfl
theorem dX8_feed_34 : decode cX8_feed 34 = .ok (.invokevirtual 84, 3) := dc_at daX8_feed_0 19 rfl
theorem dX8_feed_37 : decode cX8_feed 37 = .ok (.aload_n 0, 1) := dc_at daX8_feed_0 20 rfl
theorem dX8_feed_38 : decode cX8_feed 38 = .ok (.iload 5, 2) := dc_at daX8_feed_0 21 rfl
theorem dX8_feed_40 : decode cX8_feed 40 = .ok (.invokevirtual 84, 3) := dc_at daX8_feed_0 22 rfl
theorem dX8_feed_43 : decode cX8_feed 43 = .ok (.aload_n 0, 1) := dc_at daX8_feed_0 23 rfl
def dlX8_feed_1 : List (Nat × Jvm.ClassFile.Instr × Nat) := [(44, .getfield 13, 3), (47, .ireturn, 1)]
theorem daX8_feed_1 : dlX8_feed_1.all (dcK cX8_feed) = true := by decide +kernel
theorem dX8_feed_44 : decode cX8_feed 44 = .ok (.getfield 13, 3) := dc_at daX8_feed_1 0 rfl
theorem dX8_feed_47 : decode cX8_feed 47 = .ok (.ireturn, 1) := dc_at daX8_feed_1 1 rfl
def dlX8_plain_0 : List (Nat × Jvm.ClassFile.Instr × Nat) := [(0, .iload_n 1, 1), (1, .ifCond .lt 11, 3), (4, .iload_n 1, 1), (5, .aload_n 0, 1), (6, .getfield 13, 3), (9, .if_icmp .le 6, 3), (12, .bipush (-3), 2), (14, .ireturn, 1), (15, .aload_n 0, 1), (16, .iconst 0, 1), (17, .putfield 13, 3), (20, .aload_n 0, 1), (21, .getfield 20, 3), (24, .aload_n 0, 1), (25, .getfield 9, 3), (28, .iload_n 1, 1), (29, .invokevirtual 88, 3), (32, .istore_n 2, 1), (33, .iload_n 2, 1), (34, .ifCond .eq 8, 3), (37, .bipush (-30), 2), (39, .iload_n 2, 1), (40, .isub, 1), (41, .ireturn, 1)]
theorem daX8_plain_0 : dlX8_plain_0.all (dcK cX8_plain) = true := by decide +kernel
theorem dX8_plain_0 : decode cX8_plain 0 = .ok (.iload_n 1, 1) := dc_at daX8_plain_0 0 rfl
theorem dX8_plain_1 : decode cX8_plain 1 = .ok (.ifCond .lt 11, 3) := dc_at daX8_plain_0 1 rfl
theorem dX8_plain_4 : decode cX8_plain 4 = .ok (.iload_n 1, 1) := dc_at daX8_plain_0 2 rfl
theorem dX8_plain_5 : decode cX8_plain 5 = .ok (.aload_n 0, 1) := dc_at daX8_plain_0 3 rfl
theorem dX8_plain_6 : decode cX8_plain 6 = .ok (.getfield 13, 3) := dc_at daX8_plain_0 4 rfl
theorem dX8_plain_9 : decode cX8_plain 9 = .ok (.if_icmp .le 6, 3) := dc_at daX8_plain_0 5 rfl
theorem dX8_plain_12 : decode cX8_plain 12 = .ok (.bipush (-3), 2) := dc_at daX8_plain_0 6 rfl
theorem dX8_plain_14 : decode cX8_plain 14 = .ok (.ireturn, 1) := dc_at daX8_plain_0 7 rfl
theorem dX8_plain_15 : decode cX8_plain 15 = .ok (.aload_n 0, 1) := dc_at daX8_plain_0 8 rfl
theorem dX8_plain_16 : decode cX8_plain 16 = .ok (.iconst 0, 1) := dc_at daX8_plain_0 9 rfl
theorem dX8_plain_17 : decode cX8_plain 17 = .ok (.putfield 13, 3) := dc_at daX8_plain_0 10 rfl
theorem dX8_plain_20 : decode cX8_plain 20 = .ok (.aload_n 0, 1) := dc_at daX8_plain_0 11 rfl
theorem dX8_plain_21 : decode cX8_plain 21 = .ok (.getfield 20, 3) := dc_at daX8_plain_0 12 rfl
theorem dX8_plain_24 : decode cX8_plain 24 = .ok (.aload_n 0, 1) := dc_at daX8_plain_0 13 rfl
theorem dX8_plain_25 : decode cX8_plain 25 = .ok (.getfield 9, 3) := dc_at daX8_plain_0 14 rfl
theorem dX8_plain_28 : decode cX8_plain 28 = .ok (.iload_n 1, 1) := dc_at daX8_plain_0 15 rfl
theorem dX8_plain_29 : decode cX8_plain 29 = .ok (.invokevirtual 88, 3) := dc_at daX8_plain_0 16 rfl
theorem dX8_plain_32 : decode cX8_plain 32 = .ok (.istore_n 2, 1) := dc_at daX8_plain_0 17 rfl
theorem dX8_plain_33 : decode cX8_plain 33 = .ok (.iload_n 2, 1) := dc_at daX8_plain_0 18 rfl
theorem dX8_plain_34 : decode cX8_plain 34 = .ok (.ifCond .eq 8, 3) := dc_at daX8_plain_0 19 rfl
theorem dX8_plain_37 : decode cX8_plain 37 = .ok (.bipush (-30), 2) := dc_at daX8_plain_0 20 rfl
theorem dX8_plain_39 : decode cX8_plain 39 = .ok (.iload_n 2, 1) := dc_at daX8_plain_0 21 rfl
theorem dX8_plain_40 : decode cX8_plain 40 = .ok (.isub, 1) := dc_at daX8_plain_0 22 rfl
theorem dX8_plain_41 : decode cX8_plain 41 = .ok (.ireturn, 1) := dc_at daX8_plain_0 23 rfl
def dlX8_plain_1 : List (Nat × Jvm.ClassFile.Instr × Nat) := [(42, .aload_n 0, 1), (43, .getfield 27, 3), (46, .aload_n 0, 1), (47, .getfield 20, 3), (50, .getfield 92, 3), (53, .invokevirtual 95, 3), (56, .aload_n 0, 1), (57, .getfield 27, 3), (60, .getfield 99, 3), (63, .ireturn, 1)]
theorem daX8_plain_1 : dlX8_plain_1.all (dcK cX8_plain) = true := by decide +kernel
theorem dX8_plain_42 : decode cX8_plain 42 = .ok (.aload_n 0, 1) := dc_at daX8_plain_1 0 rfl
theorem dX8_plain_43 : decode cX8_plain 43 = .ok (.getfield 27, 3) := dc_at daX8_plain_1 1 rfl
theorem dX8_plain_46 : decode cX8_plain 46 = .ok (.aload_n 0, 1) := dc_at daX8_plain_1 2 rfl
theorem dX8_plain_47 : decode cX8_plain 47 = .ok (.getfield 20, 3) := dc_at daX8_plain_1 3 rfl
theorem dX8_plain_50 : decode cX8_plain 50 = .ok (.getfield 92, 3) := dc_at daX8_plain_1 4 rfl
theorem dX8_plain_53 : decode cX8_plain 53 = .ok (.invokevirtual 95, 3) := dc_at daX8_plain_1 5 rfl
theorem dX8_plain_56 : decode cX8_plain 56 = .ok (.aload_n 0, 1) := dc_at daX8_plain_1 6 rfl
theorem dX8_plain_57 : decode cX8_plain 57 = .ok (.getfield 27, 3) := dc_at daX8_plain_1 7 rfl
theorem dX8_plain_60 : decode cX8_plain 60 = .ok (.getfield 99, 3) := dc_at daX8_plain_1 8 rfl
theorem dX8_plain_63 : decode cX8_plain 63 = .ok (.ireturn, 1) := dc_at daX8_plain_1 9 rfl
def dlX8_fault_0 : List (Nat × Jvm.ClassFile.Instr × Nat) := [(0, .iload_n 1, 1), (1, .ifCond .ne 11, 3), (4, .aload_n 0, 1), (5, .getfield 20, 3), (8, .getfield 102, 3), (11, .ireturn, 1), (12, .iload_n 1, 1), (13, .iconst 1, 1), (14, .if_icmp .ne 11, 3), (17, .aload_n 0, 1), (18, .getfield 20, 3), (21, .getfield 105, 3), (24, .ireturn, 1), (25, .iconst (-1), 1), (26, .ireturn, 1)]
theorem daX8_fault_0 : dlX8_fault_0.all (dcK cX8_fault) = true := by decide +kernel
theorem dX8_fault_0 : decode cX8_fault 0 = .ok (.iload_n 1, 1) := dc_at daX8_fault_0 0 rfl
theorem dX8_fault_1 : decode cX8_fault 1 = .ok (.ifCond .ne 11, 3) := dc_at daX8_fault_0 1 rfl
theorem dX8_fault_4 : decode cX8_fault 4 = .ok (.aload_n 0, 1) := dc_at daX8_fault_0 2 rfl
theorem dX8_fault_5 : decode cX8_fault 5 = .ok (.getfield 20, 3) := dc_at daX8_fault_0 3 rfl
theorem dX8_fault_8 : decode cX8_fault 8 = .ok (.getfield 102, 3) := dc_at daX8_fault_0 4 rfl
theorem dX8_fault_11 : decode cX8_fault 11 = .ok (.ireturn, 1) := dc_at daX8_fault_0 5 rfl
theorem dX8_fault_12 : decode cX8_fault 12 = .ok (.iload_n 1, 1) := dc_at daX8_fault_0 6 rfl
theorem dX8_fault_13 : decode cX8_fault 13 = .ok (.iconst 1, 1) := dc_at daX8_fault_0 7 rfl
theorem dX8_fault_14 : decode cX8_fault 14 = .ok (.if_icmp .ne 11, 3) := dc_at daX8_fault_0 8 rfl
theorem dX8_fault_17 : decode cX8_fault 17 = .ok (.aload_n 0, 1) := dc_at daX8_fault_0 9 rfl
theorem dX8_fault_18 : decode cX8_fault 18 = .ok (.getfield 20, 3) := dc_at daX8_fault_0 10 rfl
theorem dX8_fault_21 : decode cX8_fault 21 = .ok (.getfield 105, 3) := dc_at daX8_fault_0 11 rfl
theorem dX8_fault_24 : decode cX8_fault 24 = .ok (.ireturn, 1) := dc_at daX8_fault_0 12 rfl
theorem dX8_fault_25 : decode cX8_fault 25 = .ok (.iconst (-1), 1) := dc_at daX8_fault_0 13 rfl
theorem dX8_fault_26 : decode cX8_fault 26 = .ok (.ireturn, 1) := dc_at daX8_fault_0 14 rfl
def dlX8_strip_0 : List (Nat × Jvm.ClassFile.Instr × Nat) := [(0, .aload_n 0, 1), (1, .getfield 27, 3), (4, .iload_n 1, 1), (5, .invokevirtual 108, 3), (8, .ifCond .ne 6, 3), (11, .bipush (-2), 2), (13, .ireturn, 1), (14, .iload_n 2, 1), (15, .tableswitch 103 0 5 #[37, 47, 57, 67, 77, 87], 37), (52, .aload_n 0, 1), (53, .getfield 27, 3), (56, .getfield 112, 3), (59, .iload_n 1, 1), (60, .iaload, 1), (61, .ireturn, 1), (62, .aload_n 0, 1), (63, .getfield 27, 3), (66, .getfield 116, 3), (69, .iload_n 1, 1), (70, .iaload, 1), (71, .ireturn, 1), (72, .aload_n 0, 1), (73, .getfield 27, 3), (76, .getfield 119, 3)]
theorem daX8_strip_0 : dlX8_strip_0.all (dcK cX8_strip) = true := by decide +kernel
theorem dX8_strip_0 : decode cX8_strip 0 = .ok (.aload_n 0, 1) := dc_at daX8_strip_0 0 rfl
theorem dX8_strip_1 : decode cX8_strip 1 = .ok (.getfield 27, 3) := dc_at daX8_strip_0 1 rfl
theorem dX8_strip_4 : decode cX8_strip 4 = .ok (.iload_n 1, 1) := dc_at daX8_strip_0 2 rfl
theorem dX8_strip_5 : decode cX8_strip 5 = .ok (.invokevirtual 108, 3) := dc_at daX8_strip_0 3 rfl
theorem dX8_strip_8 : decode cX8_strip 8 = .ok (.ifCond .ne 6, 3) := dc_at daX8_strip_0 4 rfl
theorem dX8_strip_11 : decode cX8_strip 11 = .ok (.bipush (-2), 2) := dc_at daX8_strip_0 5 rfl
theorem dX8_strip_13 : decode cX8_strip 13 = .ok (.ireturn, 1) := dc_at daX8_strip_0 6 rfl
theorem dX8_strip_14 : decode cX8_strip 14 = .ok (.iload_n 2, 1) := dc_at daX8_strip_0 7 rfl
theorem dX8_strip_15 : decode cX8_strip 15 = .ok (.tableswitch 103 0 5 #[37, 47, 57, 67, 77, 87], 37) := dc_at daX8_strip_0 8 rfl
theorem dX8_strip_52 : decode cX8_strip 52 = .ok (.aload_n 0, 1) := dc_at daX8_strip_0 9 rfl
theorem dX8_strip_53 : decode cX8_strip 53 = .ok (.getfield 27, 3) := dc_at daX8_strip_0 10 rfl
theorem dX8_strip_56 : decode cX8_strip 56 = .ok (.getfield 112, 3) := dc_at daX8_strip_0 11 rfl
theorem dX8_strip_59 : decode cX8_strip 59 = .ok (.iload_n 1, 1) := dc_at daX8_strip_0 12 rfl
theorem dX8_strip_60 : decode cX8_strip 60 = .ok (.iaload, 1) := dc_at daX8_strip_0 13 rfl
theorem dX8_strip_61 : decode cX8_strip 61 = .ok (.ireturn, 1) := dc_at daX8_strip_0 14 rfl
theorem dX8_strip_62 : decode cX8_strip 62 = .ok (.aload_n 0, 1) := dc_at daX8_strip_0 15 rfl
theorem dX8_strip_63 : decode cX8_strip 63 = .ok (.getfield 27, 3) := dc_at daX8_strip_0 16 rfl
theorem dX8_strip_66 : decode cX8_strip 66 = .ok (.getfield 116, 3) := dc_at daX8_strip_0 17 rfl
theorem dX8_strip_69 : decode cX8_strip 69 = .ok (.iload_n 1, 1) := dc_at daX8_strip_0 18 rfl
theorem dX8_strip_70 : decode cX8_strip 70 = .ok (.iaload, 1) := dc_at daX8_strip_0 19 rfl
theorem dX8_strip_71 : decode cX8_strip 71 = .ok (.ireturn, 1) := dc_at daX8_strip_0 20 rfl
theorem dX8_strip_72 : decode cX8_strip 72 = .ok (.aload_n 0, 1) := dc_at daX8_strip_0 21 rfl
theorem dX8_strip_73 : decode cX8_strip 73 = .ok (.getfield 27, 3) := dc_at daX8_strip_0 22 rfl
theorem dX8_strip_76 : decode cX8_strip 76 = .ok (.getfield 119, 3) := dc_at daX8_strip_0 23 rfl
def dlX8_strip_1 : List (Nat × Jvm.ClassFile.Instr × Nat) := [(79, .iload_n 1, 1), (80, .iaload, 1), (81, .ireturn, 1), (82, .aload_n 0, 1), (83, .getfield 27, 3), (86, .getfield 122, 3), (89, .iload_n 1, 1), (90, .iaload, 1), (91, .ireturn, 1), (92, .aload_n 0, 1), (93, .getfield 27, 3), (96, .getfield 125, 3), (99, .iload_n 1, 1), (100, .iaload, 1), (101, .ireturn, 1), (102, .aload_n 0, 1), (103, .getfield 27, 3), (106, .aload_n 0, 1), (107, .getfield 27, 3), (110, .getfield 128, 3), (113, .iload_n 1, 1), (114, .invokevirtual 131, 3), (117, .ireturn, 1), (118, .bipush (-2), 2)]
theorem daX8_strip_1 : dlX8_strip_1.all (dcK cX8_strip) = true := by decide +kernel
theorem dX8_strip_79 : decode cX8_strip 79 = .ok (.iload_n 1, 1) := dc_at daX8_strip_1 0 rfl
theorem dX8_strip_80 : decode cX8_strip 80 = .ok (.iaload, 1) := dc_at daX8_strip_1 1 rfl
theorem dX8_strip_81 : decode cX8_strip 81 = .ok (.ireturn, 1) := dc_at daX8_strip_1 2 rfl
theorem dX8_strip_82 : decode cX8_strip 82 = .ok (.aload_n 0, 1) := dc_at daX8_strip_1 3 rfl
theorem dX8_strip_83 : decode cX8_strip 83 = .ok (.getfield 27, 3) := dc_at daX8_strip_1 4 rfl
theorem dX8_strip_86 : decode cX8_strip 86 = .ok (.getfield 122, 3) := dc_at daX8_strip_1 5 rfl
theorem dX8_strip_89 : decode cX8_strip 89 = .ok (.iload_n 1, 1) := dc_at daX8_strip_1 6 rfl
theorem dX8_strip_90 : decode cX8_strip 90 = .ok (.iaload, 1) := dc_at daX8_strip_1 7 rfl
theorem dX8_strip_91 : decode cX8_strip 91 = .ok (.ireturn, 1) := dc_at daX8_strip_1 8 rfl
theorem dX8_strip_92 : decode cX8_strip 92 = .ok (.aload_n 0, 1) := dc_at daX8_strip_1 9 rfl
theorem dX8_strip_93 : decode cX8_strip 93 = .ok (.getfield 27, 3) := dc_at daX8_strip_1 10 rfl
theorem dX8_strip_96 : decode cX8_strip 96 = .ok (.getfield 125, 3) := dc_at daX8_strip_1 11 rfl
theorem dX8_strip_99 : decode cX8_strip 99 = .ok (.iload_n 1, 1) := dc_at daX8_strip_1 12 rfl
theorem dX8_strip_100 : decode cX8_strip 100 = .ok (.iaload, 1) := dc_at daX8_strip_1 13 rfl
theorem dX8_strip_101 : decode cX8_strip 101 = .ok (.ireturn, 1) := dc_at daX8_strip_1 14 rfl
theorem dX8_strip_102 : decode cX8_strip 102 = .ok (.aload_n 0, 1) := dc_at daX8_strip_1 15 rfl
theorem dX8_strip_103 : decode cX8_strip 103 = .ok (.getfield 27, 3) := dc_at daX8_strip_1 16 rfl
theorem dX8_strip_106 : decode cX8_strip 106 = .ok (.aload_n 0, 1) := dc_at daX8_strip_1 17 rfl
theorem dX8_strip_107 : decode cX8_strip 107 = .ok (.getfield 27, 3) := dc_at daX8_strip_1 18 rfl
theorem dX8_strip_110 : decode cX8_strip 110 = .ok (.getfield 128, 3) := dc_at daX8_strip_1 19 rfl
theorem dX8_strip_113 : decode cX8_strip 113 = .ok (.iload_n 1, 1) := dc_at daX8_strip_1 20 rfl
theorem dX8_strip_114 : decode cX8_strip 114 = .ok (.invokevirtual 131, 3) := dc_at daX8_strip_1 21 rfl
theorem dX8_strip_117 : decode cX8_strip 117 = .ok (.ireturn, 1) := dc_at daX8_strip_1 22 rfl
theorem dX8_strip_118 : decode cX8_strip 118 = .ok (.bipush (-2), 2) := dc_at daX8_strip_1 23 rfl
def dlX8_strip_2 : List (Nat × Jvm.ClassFile.Instr × Nat) := [(120, .ireturn, 1)]
theorem daX8_strip_2 : dlX8_strip_2.all (dcK cX8_strip) = true := by decide +kernel
theorem dX8_strip_120 : decode cX8_strip 120 = .ok (.ireturn, 1) := dc_at daX8_strip_2 0 rfl
def dlX8_farm_0 : List (Nat × Jvm.ClassFile.Instr × Nat) := [(0, .iload_n 1, 1), (1, .invokestatic 135, 3), (4, .ifCond .ne 6, 3), (7, .bipush (-2), 2), (9, .ireturn, 1), (10, .iload_n 2, 1), (11, .tableswitch 80 0 3 #[29, 45, 61, 71], 29), (40, .aload_n 0, 1), (41, .getfield 27, 3), (44, .aload_n 0, 1), (45, .getfield 27, 3), (48, .getfield 125, 3), (51, .iload_n 1, 1), (52, .invokevirtual 138, 3), (55, .ireturn, 1), (56, .aload_n 0, 1), (57, .getfield 27, 3), (60, .aload_n 0, 1), (61, .getfield 27, 3), (64, .getfield 112, 3), (67, .iload_n 1, 1), (68, .invokevirtual 138, 3), (71, .ireturn, 1), (72, .aload_n 0, 1)]
theorem daX8_farm_0 : dlX8_farm_0.all (dcK cX8_farm) = true := by decide +kernel
theorem dX8_farm_0 : decode cX8_farm 0 = .ok (.iload_n 1, 1) := dc_at daX8_farm_0 0 rfl
theorem dX8_farm_1 : decode cX8_farm 1 = .ok (.invokestatic 135, 3) := dc_at daX8_farm_0 1 rfl
theorem dX8_farm_4 : decode cX8_farm 4 = .ok (.ifCond .ne 6, 3) := dc_at daX8_farm_0 2 rfl
theorem dX8_farm_7 : decode cX8_farm 7 = .ok (.bipush (-2), 2) := dc_at daX8_farm_0 3 rfl
theorem dX8_farm_9 : decode cX8_farm 9 = .ok (.ireturn, 1) := dc_at daX8_farm_0 4 rfl
theorem dX8_farm_10 : decode cX8_farm 10 = .ok (.iload_n 2, 1) := dc_at daX8_farm_0 5 rfl
theorem dX8_farm_11 : decode cX8_farm 11 = .ok (.tableswitch 80 0 3 #[29, 45, 61, 71], 29) := dc_at daX8_farm_0 6 rfl
theorem dX8_farm_40 : decode cX8_farm 40 = .ok (.aload_n 0, 1) := dc_at daX8_farm_0 7 rfl
theorem dX8_farm_41 : decode cX8_farm 41 = .ok (.getfield 27, 3) := dc_at daX8_farm_0 8 rfl
theorem dX8_farm_44 : decode cX8_farm 44 = .ok (.aload_n 0, 1) := dc_at daX8_farm_0 9 rfl
theorem dX8_farm_45 : decode cX8_farm 45 = .ok (.getfield 27, 3) := dc_at daX8_farm_0 10 rfl
theorem dX8_farm_48 : decode cX8_farm 48 = .ok (.getfield 125, 3) := dc_at daX8_farm_0 11 rfl
theorem dX8_farm_51 : decode cX8_farm 51 = .ok (.iload_n 1, 1) := dc_at daX8_farm_0 12 rfl
theorem dX8_farm_52 : decode cX8_farm 52 = .ok (.invokevirtual 138, 3) := dc_at daX8_farm_0 13 rfl
theorem dX8_farm_55 : decode cX8_farm 55 = .ok (.ireturn, 1) := dc_at daX8_farm_0 14 rfl
theorem dX8_farm_56 : decode cX8_farm 56 = .ok (.aload_n 0, 1) := dc_at daX8_farm_0 15 rfl
theorem dX8_farm_57 : decode cX8_farm 57 = .ok (.getfield 27, 3) := dc_at daX8_farm_0 16 rfl
theorem dX8_farm_60 : decode cX8_farm 60 = .ok (.aload_n 0, 1) := dc_at daX8_farm_0 17 rfl
theorem dX8_farm_61 : decode cX8_farm 61 = .ok (.getfield 27, 3) := dc_at daX8_farm_0 18 rfl
theorem dX8_farm_64 : decode cX8_farm 64 = .ok (.getfield 112, 3) := dc_at daX8_farm_0 19 rfl
theorem dX8_farm_67 : decode cX8_farm 67 = .ok (.iload_n 1, 1) := dc_at daX8_farm_0 20 rfl
theorem dX8_farm_68 : decode cX8_farm 68 = .ok (.invokevirtual 138, 3) := dc_at daX8_farm_0 21 rfl
theorem dX8_farm_71 : decode cX8_farm 71 = .ok (.ireturn, 1) := dc_at daX8_farm_0 22 rfl
theorem dX8_farm_72 : decode cX8_farm 72 = .ok (.aload_n 0, 1) := dc_at daX8_farm_0 23 rfl
def dlX8_farm_1 : List (Nat × Jvm.ClassFile.Instr × Nat) := [(73, .getfield 27, 3), (76, .getfield 142, 3), (79, .iload_n 1, 1), (80, .iaload, 1), (81, .ireturn, 1), (82, .aload_n 0, 1), (83, .getfield 27, 3), (86, .iload_n 1, 1), (87, .invokevirtual 145, 3), (90, .ireturn, 1), (91, .bipush (-2), 2), (93, .ireturn, 1)]
theorem daX8_farm_1 : dlX8_farm_1.all (dcK cX8_farm) = true := by decide +kernel
theorem dX8_farm_73 : decode cX8_farm 73 = .ok (.getfield 27, 3) := dc_at daX8_farm_1 0 rfl
theorem dX8_farm_76 : decode cX8_farm 76 = .ok (.getfield 142, 3) := dc_at daX8_farm_1 1 rfl
theorem dX8_farm_79 : decode cX8_farm 79 = .ok (.iload_n 1, 1) := dc_at daX8_farm_1 2 rfl
theorem dX8_farm_80 : decode cX8_farm 80 = .ok (.iaload, 1) := dc_at daX8_farm_1 3 rfl
theorem dX8_farm_81 : decode cX8_farm 81 = .ok (.ireturn, 1) := dc_at daX8_farm_1 4 rfl
theorem dX8_farm_82 : decode cX8_farm 82 = .ok (.aload_n 0, 1) := dc_at daX8_farm_1 5 rfl
theorem dX8_farm_83 : decode cX8_farm 83 = .ok (.getfield 27, 3) := dc_at daX8_farm_1 6 rfl
theorem dX8_farm_86 : decode cX8_farm 86 = .ok (.iload_n 1, 1) := dc_at daX8_farm_1 7 rfl
theorem dX8_farm_87 : decode cX8_farm 87 = .ok (.invokevirtual 145, 3) := dc_at daX8_farm_1 8 rfl
theorem dX8_farm_90 : decode cX8_farm 90 = .ok (.ireturn, 1) := dc_at daX8_farm_1 9 rfl
theorem dX8_farm_91 : decode cX8_farm 91 = .ok (.bipush (-2), 2) := dc_at daX8_farm_1 10 rfl
theorem dX8_farm_93 : decode cX8_farm 93 = .ok (.ireturn, 1) := dc_at daX8_farm_1 11 rfl
def dlX8_light_0 : List (Nat × Jvm.ClassFile.Instr × Nat) := [(0, .aload_n 0, 1), (1, .getfield 27, 3), (4, .iload_n 1, 1), (5, .invokevirtual 108, 3), (8, .ifCond .eq 14, 3), (11, .aload_n 0, 1), (12, .getfield 27, 3), (15, .iload_n 2, 1), (16, .invokevirtual 108, 3), (19, .ifCond .ne 6, 3), (22, .bipush (-2), 2), (24, .ireturn, 1), (25, .aload_n 0, 1), (26, .getfield 27, 3), (29, .iload_n 1, 1), (30, .iload_n 2, 1), (31, .invokevirtual 131, 3), (34, .ireturn, 1)]
theorem daX8_light_0 : dlX8_light_0.all (dcK cX8_light) = true := by decide +kernel
theorem dX8_light_0 : decode cX8_light 0 = .ok (.aload_n 0, 1) := dc_at daX8_light_0 0 rfl
theorem dX8_light_1 : decode cX8_light 1 = .ok (.getfield 27, 3) := dc_at daX8_light_0 1 rfl
theorem dX8_light_4 : decode cX8_light 4 = .ok (.iload_n 1, 1) := dc_at daX8_light_0 2 rfl
theorem dX8_light_5 : decode cX8_light 5 = .ok (.invokevirtual 108, 3) := dc_at daX8_light_0 3 rfl
theorem dX8_light_8 : decode cX8_light 8 = .ok (.ifCond .eq 14, 3) := dc_at daX8_light_0 4 rfl
theorem dX8_light_11 : decode cX8_light 11 = .ok (.aload_n 0, 1) := dc_at daX8_light_0 5 rfl
theorem dX8_light_12 : decode cX8_light 12 = .ok (.getfield 27, 3) := dc_at daX8_light_0 6 rfl
theorem dX8_light_15 : decode cX8_light 15 = .ok (.iload_n 2, 1) := dc_at daX8_light_0 7 rfl
theorem dX8_light_16 : decode cX8_light 16 = .ok (.invokevirtual 108, 3) := dc_at daX8_light_0 8 rfl
theorem dX8_light_19 : decode cX8_light 19 = .ok (.ifCond .ne 6, 3) := dc_at daX8_light_0 9 rfl
theorem dX8_light_22 : decode cX8_light 22 = .ok (.bipush (-2), 2) := dc_at daX8_light_0 10 rfl
theorem dX8_light_24 : decode cX8_light 24 = .ok (.ireturn, 1) := dc_at daX8_light_0 11 rfl
theorem dX8_light_25 : decode cX8_light 25 = .ok (.aload_n 0, 1) := dc_at daX8_light_0 12 rfl
theorem dX8_light_26 : decode cX8_light 26 = .ok (.getfield 27, 3) := dc_at daX8_light_0 13 rfl
theorem dX8_light_29 : decode cX8_light 29 = .ok (.iload_n 1, 1) := dc_at daX8_light_0 14 rfl
theorem dX8_light_30 : decode cX8_light 30 = .ok (.iload_n 2, 1) := dc_at daX8_light_0 15 rfl
theorem dX8_light_31 : decode cX8_light 31 = .ok (.invokevirtual 131, 3) := dc_at daX8_light_0 16 rfl
theorem dX8_light_34 : decode cX8_light 34 = .ok (.ireturn, 1) := dc_at daX8_light_0 17 rfl
def dlX8_lit_0 : List (Nat × Jvm.ClassFile.Instr × Nat) := [(0, .aload_n 0, 1), (1, .getfield 27, 3), (4, .iload_n 1, 1), (5, .invokevirtual 108, 3), (8, .ifCond .ne 6, 3), (11, .bipush (-2), 2), (13, .ireturn, 1), (14, .aload_n 0, 1), (15, .getfield 27, 3), (18, .iload_n 1, 1), (19, .invokevirtual 149, 3), (22, .ireturn, 1)]
theorem daX8_lit_0 : dlX8_lit_0.all (dcK cX8_lit) = true := by decide +kernel
theorem dX8_lit_0 : decode cX8_lit 0 = .ok (.aload_n 0, 1) := dc_at daX8_lit_0 0 rfl
theorem dX8_lit_1 : decode cX8_lit 1 = .ok (.getfield 27, 3) := dc_at daX8_lit_0 1 rfl
theorem dX8_lit_4 : decode cX8_lit 4 = .ok (.iload_n 1, 1) := dc_at daX8_lit_0 2 rfl
theorem dX8_lit_5 : decode cX8_lit 5 = .ok (.invokevirtual 108, 3) := dc_at daX8_lit_0 3 rfl
theorem dX8_lit_8 : decode cX8_lit 8 = .ok (.ifCond .ne 6, 3) := dc_at daX8_lit_0 4 rfl
theorem dX8_lit_11 : decode cX8_lit 11 = .ok (.bipush (-2), 2) := dc_at daX8_lit_0 5 rfl
theorem dX8_lit_13 : decode cX8_lit 13 = .ok (.ireturn, 1) := dc_at daX8_lit_0 6 rfl
theorem dX8_lit_14 : decode cX8_lit 14 = .ok (.aload_n 0, 1) := dc_at daX8_lit_0 7 rfl
theorem dX8_lit_15 : decode cX8_lit 15 = .ok (.getfield 27, 3) := dc_at daX8_lit_0 8 rfl
theorem dX8_lit_18 : decode cX8_lit 18 = .ok (.iload_n 1, 1) := dc_at daX8_lit_0 9 rfl
theorem dX8_lit_19 : decode cX8_lit 19 = .ok (.invokevirtual 149, 3) := dc_at daX8_lit_0 10 rfl
theorem dX8_lit_22 : decode cX8_lit 22 = .ok (.ireturn, 1) := dc_at daX8_lit_0 11 rfl
def dlX8_shaded_0 : List (Nat × Jvm.ClassFile.Instr × Nat) := [(0, .aload_n 0, 1), (1, .getfield 27, 3), (4, .iload_n 1, 1), (5, .invokevirtual 108, 3), (8, .ifCond .ne 6, 3), (11, .bipush (-2), 2), (13, .ireturn, 1), (14, .aload_n 0, 1), (15, .getfield 27, 3), (18, .iload_n 1, 1), (19, .invokevirtual 152, 3), (22, .ireturn, 1)]
theorem daX8_shaded_0 : dlX8_shaded_0.all (dcK cX8_shaded) = true := by decide +kernel
theorem dX8_shaded_0 : decode cX8_shaded 0 = .ok (.aload_n 0, 1) := dc_at daX8_shaded_0 0 rfl
theorem dX8_shaded_1 : decode cX8_shaded 1 = .ok (.getfield 27, 3) := dc_at daX8_shaded_0 1 rfl
theorem dX8_shaded_4 : decode cX8_shaded 4 = .ok (.iload_n 1, 1) := dc_at daX8_shaded_0 2 rfl
theorem dX8_shaded_5 : decode cX8_shaded 5 = .ok (.invokevirtual 108, 3) := dc_at daX8_shaded_0 3 rfl
theorem dX8_shaded_8 : decode cX8_shaded 8 = .ok (.ifCond .ne 6, 3) := dc_at daX8_shaded_0 4 rfl
theorem dX8_shaded_11 : decode cX8_shaded 11 = .ok (.bipush (-2), 2) := dc_at daX8_shaded_0 5 rfl
theorem dX8_shaded_13 : decode cX8_shaded 13 = .ok (.ireturn, 1) := dc_at daX8_shaded_0 6 rfl
theorem dX8_shaded_14 : decode cX8_shaded 14 = .ok (.aload_n 0, 1) := dc_at daX8_shaded_0 7 rfl
theorem dX8_shaded_15 : decode cX8_shaded 15 = .ok (.getfield 27, 3) := dc_at daX8_shaded_0 8 rfl
theorem dX8_shaded_18 : decode cX8_shaded 18 = .ok (.iload_n 1, 1) := dc_at daX8_shaded_0 9 rfl
theorem dX8_shaded_19 : decode cX8_shaded 19 = .ok (.invokevirtual 152, 3) := dc_at daX8_shaded_0 10 rfl
theorem dX8_shaded_22 : decode cX8_shaded 22 = .ok (.ireturn, 1) := dc_at daX8_shaded_0 11 rfl
def dlX8_high_0 : List (Nat × Jvm.ClassFile.Instr × Nat) := [(0, .aload_n 0, 1), (1, .getfield 27, 3), (4, .iload_n 1, 1), (5, .invokevirtual 108, 3), (8, .ifCond .eq 14, 3), (11, .aload_n 0, 1), (12, .getfield 27, 3), (15, .iload_n 2, 1), (16, .invokevirtual 108, 3), (19, .ifCond .ne 6, 3), (22, .bipush (-2), 2), (24, .ireturn, 1), (25, .aload_n 0, 1), (26, .getfield 27, 3), (29, .iload_n 1, 1), (30, .iload_n 2, 1), (31, .invokevirtual 155, 3), (34, .ireturn, 1)]
theorem daX8_high_0 : dlX8_high_0.all (dcK cX8_high) = true := by decide +kernel
theorem dX8_high_0 : decode cX8_high 0 = .ok (.aload_n 0, 1) := dc_at daX8_high_0 0 rfl
theorem dX8_high_1 : decode cX8_high 1 = .ok (.getfield 27, 3) := dc_at daX8_high_0 1 rfl
theorem dX8_high_4 : decode cX8_high 4 = .ok (.iload_n 1, 1) := dc_at daX8_high_0 2 rfl
theorem dX8_high_5 : decode cX8_high 5 = .ok (.invokevirtual 108, 3) := dc_at daX8_high_0 3 rfl
theorem dX8_high_8 : decode cX8_high 8 = .ok (.ifCond .eq 14, 3) := dc_at daX8_high_0 4 rfl
theorem dX8_high_11 : decode cX8_high 11 = .ok (.aload_n 0, 1) := dc_at daX8_high_0 5 rfl
theorem dX8_high_12 : decode cX8_high 12 = .ok (.getfield 27, 3) := dc_at daX8_high_0 6 rfl
theorem dX8_high_15 : decode cX8_high 15 = .ok (.iload_n 2, 1) := dc_at daX8_high_0 7 rfl
theorem dX8_high_16 : decode cX8_high 16 = .ok (.invokevirtual 108, 3) := dc_at daX8_high_0 8 rfl
theorem dX8_high_19 : decode cX8_high 19 = .ok (.ifCond .ne 6, 3) := dc_at daX8_high_0 9 rfl
theorem dX8_high_22 : decode cX8_high 22 = .ok (.bipush (-2), 2) := dc_at daX8_high_0 10 rfl
theorem dX8_high_24 : decode cX8_high 24 = .ok (.ireturn, 1) := dc_at daX8_high_0 11 rfl
theorem dX8_high_25 : decode cX8_high 25 = .ok (.aload_n 0, 1) := dc_at daX8_high_0 12 rfl
theorem dX8_high_26 : decode cX8_high 26 = .ok (.getfield 27, 3) := dc_at daX8_high_0 13 rfl
theorem dX8_high_29 : decode cX8_high 29 = .ok (.iload_n 1, 1) := dc_at daX8_high_0 14 rfl
theorem dX8_high_30 : decode cX8_high 30 = .ok (.iload_n 2, 1) := dc_at daX8_high_0 15 rfl
theorem dX8_high_31 : decode cX8_high 31 = .ok (.invokevirtual 155, 3) := dc_at daX8_high_0 16 rfl
theorem dX8_high_34 : decode cX8_high 34 = .ok (.ireturn, 1) := dc_at daX8_high_0 17 rfl
def dlX8_highFor_0 : List (Nat × Jvm.ClassFile.Instr × Nat) := [(0, .iload_n 1, 1), (1, .ifCond .eq 14, 3), (4, .aload_n 0, 1), (5, .getfield 27, 3), (8, .iload_n 1, 1), (9, .invokevirtual 158, 3), (12, .ifCond .ne 6, 3), (15, .bipush (-3), 2), (17, .ireturn, 1), (18, .iconst (-1), 1), (19, .istore_n 3, 1), (20, .iconst (-1), 1), (21, .istore 4, 2), (23, .iconst 0, 1), (24, .istore 5, 2), (26, .iload 5, 2), (28, .aload_n 0, 1), (29, .getfield 27, 3), (32, .getfield 161, 3), (35, .if_icmp .ge 45, 3), (38, .aload_n 0, 1), (39, .getfield 27, 3), (42, .iload 5, 2), (44, .iload_n 1, 1)]
theorem daX8_highFor_0 : dlX8_highFor_0.all (dcK cX8_highFor) = true := by decide +kernel
theorem dX8_highFor_0 : decode cX8_highFor 0 = .ok (.iload_n 1, 1) := dc_at daX8_highFor_0 0 rfl
theorem dX8_highFor_1 : decode cX8_highFor 1 = .ok (.ifCond .eq 14, 3) := dc_at daX8_highFor_0 1 rfl
theorem dX8_highFor_4 : decode cX8_highFor 4 = .ok (.aload_n 0, 1) := dc_at daX8_highFor_0 2 rfl
theorem dX8_highFor_5 : decode cX8_highFor 5 = .ok (.getfield 27, 3) := dc_at daX8_highFor_0 3 rfl
theorem dX8_highFor_8 : decode cX8_highFor 8 = .ok (.iload_n 1, 1) := dc_at daX8_highFor_0 4 rfl
theorem dX8_highFor_9 : decode cX8_highFor 9 = .ok (.invokevirtual 158, 3) := dc_at daX8_highFor_0 5 rfl
theorem dX8_highFor_12 : decode cX8_highFor 12 = .ok (.ifCond .ne 6, 3) := dc_at daX8_highFor_0 6 rfl
theorem dX8_highFor_15 : decode cX8_highFor 15 = .ok (.bipush (-3), 2) := dc_at daX8_highFor_0 7 rfl
theorem dX8_highFor_17 : decode cX8_highFor 17 = .ok (.ireturn, 1) := dc_at daX8_highFor_0 8 rfl
theorem dX8_highFor_18 : decode cX8_highFor 18 = .ok (.iconst (-1), 1) := dc_at daX8_highFor_0 9 rfl
theorem dX8_highFor_19 : decode cX8_highFor 19 = .ok (.istore_n 3, 1) := dc_at daX8_highFor_0 10 rfl
theorem dX8_highFor_20 : decode cX8_highFor 20 = .ok (.iconst (-1), 1) := dc_at daX8_highFor_0 11 rfl
theorem dX8_highFor_21 : decode cX8_highFor 21 = .ok (.istore 4, 2) := dc_at daX8_highFor_0 12 rfl
theorem dX8_highFor_23 : decode cX8_highFor 23 = .ok (.iconst 0, 1) := dc_at daX8_highFor_0 13 rfl
theorem dX8_highFor_24 : decode cX8_highFor 24 = .ok (.istore 5, 2) := dc_at daX8_highFor_0 14 rfl
theorem dX8_highFor_26 : decode cX8_highFor 26 = .ok (.iload 5, 2) := dc_at daX8_highFor_0 15 rfl
theorem dX8_highFor_28 : decode cX8_highFor 28 = .ok (.aload_n 0, 1) := dc_at daX8_highFor_0 16 rfl
theorem dX8_highFor_29 : decode cX8_highFor 29 = .ok (.getfield 27, 3) := dc_at daX8_highFor_0 17 rfl
theorem dX8_highFor_32 : decode cX8_highFor 32 = .ok (.getfield 161, 3) := dc_at daX8_highFor_0 18 rfl
theorem dX8_highFor_35 : decode cX8_highFor 35 = .ok (.if_icmp .ge 45, 3) := dc_at daX8_highFor_0 19 rfl
theorem dX8_highFor_38 : decode cX8_highFor 38 = .ok (.aload_n 0, 1) := dc_at daX8_highFor_0 20 rfl
theorem dX8_highFor_39 : decode cX8_highFor 39 = .ok (.getfield 27, 3) := dc_at daX8_highFor_0 21 rfl
theorem dX8_highFor_42 : decode cX8_highFor 42 = .ok (.iload 5, 2) := dc_at daX8_highFor_0 22 rfl
theorem dX8_highFor_44 : decode cX8_highFor 44 = .ok (.iload_n 1, 1) := dc_at daX8_highFor_0 23 rfl
def dlX8_highFor_1 : List (Nat × Jvm.ClassFile.Instr × Nat) := [(45, .invokevirtual 164, 3), (48, .istore 6, 2), (50, .iload 6, 2), (52, .iconst (-1), 1), (53, .if_icmp .eq 21, 3), (56, .iload_n 3, 1), (57, .iconst (-1), 1), (58, .if_icmp .eq 9, 3), (61, .iload 6, 2), (63, .iload_n 3, 1), (64, .if_icmp .ge 10, 3), (67, .iload 6, 2), (69, .istore_n 3, 1), (70, .iload 5, 2), (72, .istore 4, 2), (74, .iinc 5 1, 3), (77, .goto (-51), 3), (80, .iload_n 2, 1), (81, .ifCond .eq 8, 3), (84, .iload 4, 2), (86, .goto 4, 3), (89, .iload_n 3, 1), (90, .ireturn, 1)]
theorem daX8_highFor_1 : dlX8_highFor_1.all (dcK cX8_highFor) = true := by decide +kernel
theorem dX8_highFor_45 : decode cX8_highFor 45 = .ok (.invokevirtual 164, 3) := dc_at daX8_highFor_1 0 rfl
theorem dX8_highFor_48 : decode cX8_highFor 48 = .ok (.istore 6, 2) := dc_at daX8_highFor_1 1 rfl
theorem dX8_highFor_50 : decode cX8_highFor 50 = .ok (.iload 6, 2) := dc_at daX8_highFor_1 2 rfl
theorem dX8_highFor_52 : decode cX8_highFor 52 = .ok (.iconst (-1), 1) := dc_at daX8_highFor_1 3 rfl
theorem dX8_highFor_53 : decode cX8_highFor 53 = .ok (.if_icmp .eq 21, 3) := dc_at daX8_highFor_1 4 rfl
theorem dX8_highFor_56 : decode cX8_highFor 56 = .ok (.iload_n 3, 1) := dc_at daX8_highFor_1 5 rfl
theorem dX8_highFor_57 : decode cX8_highFor 57 = .ok (.iconst (-1), 1) := dc_at daX8_highFor_1 6 rfl
theorem dX8_highFor_58 : decode cX8_highFor 58 = .ok (.if_icmp .eq 9, 3) := dc_at daX8_highFor_1 7 rfl
theorem dX8_highFor_61 : decode cX8_highFor 61 = .ok (.iload 6, 2) := dc_at daX8_highFor_1 8 rfl
theorem dX8_highFor_63 : decode cX8_highFor 63 = .ok (.iload_n 3, 1) := dc_at daX8_highFor_1 9 rfl
theorem dX8_highFor_64 : decode cX8_highFor 64 = .ok (.if_icmp .ge 10, 3) := dc_at daX8_highFor_1 10 rfl
theorem dX8_highFor_67 : decode cX8_highFor 67 = .ok (.iload 6, 2) := dc_at daX8_highFor_1 11 rfl
theorem dX8_highFor_69 : decode cX8_highFor 69 = .ok (.istore_n 3, 1) := dc_at daX8_highFor_1 12 rfl
theorem dX8_highFor_70 : decode cX8_highFor 70 = .ok (.iload 5, 2) := dc_at daX8_highFor_1 13 rfl
theorem dX8_highFor_72 : decode cX8_highFor 72 = .ok (.istore 4, 2) := dc_at daX8_highFor_1 14 rfl
theorem dX8_highFor_74 : decode cX8_highFor 74 = .ok (.iinc 5 1, 3) := dc_at daX8_highFor_1 15 rfl
theorem dX8_highFor_77 : decode cX8_highFor 77 = .ok (.goto (-51), 3) := dc_at daX8_highFor_1 16 rfl
theorem dX8_highFor_80 : decode cX8_highFor 80 = .ok (.iload_n 2, 1) := dc_at daX8_highFor_1 17 rfl
theorem dX8_highFor_81 : decode cX8_highFor 81 = .ok (.ifCond .eq 8, 3) := dc_at daX8_highFor_1 18 rfl
theorem dX8_highFor_84 : decode cX8_highFor 84 = .ok (.iload 4, 2) := dc_at daX8_highFor_1 19 rfl
theorem dX8_highFor_86 : decode cX8_highFor 86 = .ok (.goto 4, 3) := dc_at daX8_highFor_1 20 rfl
theorem dX8_highFor_89 : decode cX8_highFor 89 = .ok (.iload_n 3, 1) := dc_at daX8_highFor_1 21 rfl
theorem dX8_highFor_90 : decode cX8_highFor 90 = .ok (.ireturn, 1) := dc_at daX8_highFor_1 22 rfl
def dlX8_height_0 : List (Nat × Jvm.ClassFile.Instr × Nat) := [(0, .iload_n 1, 1), (1, .iconst 1, 1), (2, .if_icmp .lt 9, 3), (5, .iload_n 1, 1), (6, .bipush 30, 2), (8, .if_icmp .le 6, 3), (11, .bipush (-3), 2), (13, .ireturn, 1), (14, .aload_n 0, 1), (15, .getfield 27, 3), (18, .getfield 167, 3), (21, .istore_n 2, 1), (22, .aload_n 0, 1), (23, .getfield 27, 3), (26, .iload_n 1, 1), (27, .putfield 167, 3), (30, .iload_n 2, 1), (31, .ireturn, 1)]
theorem daX8_height_0 : dlX8_height_0.all (dcK cX8_height) = true := by decide +kernel
theorem dX8_height_0 : decode cX8_height 0 = .ok (.iload_n 1, 1) := dc_at daX8_height_0 0 rfl
theorem dX8_height_1 : decode cX8_height 1 = .ok (.iconst 1, 1) := dc_at daX8_height_0 1 rfl
theorem dX8_height_2 : decode cX8_height 2 = .ok (.if_icmp .lt 9, 3) := dc_at daX8_height_0 2 rfl
theorem dX8_height_5 : decode cX8_height 5 = .ok (.iload_n 1, 1) := dc_at daX8_height_0 3 rfl
theorem dX8_height_6 : decode cX8_height 6 = .ok (.bipush 30, 2) := dc_at daX8_height_0 4 rfl
theorem dX8_height_8 : decode cX8_height 8 = .ok (.if_icmp .le 6, 3) := dc_at daX8_height_0 5 rfl
theorem dX8_height_11 : decode cX8_height 11 = .ok (.bipush (-3), 2) := dc_at daX8_height_0 6 rfl
theorem dX8_height_13 : decode cX8_height 13 = .ok (.ireturn, 1) := dc_at daX8_height_0 7 rfl
theorem dX8_height_14 : decode cX8_height 14 = .ok (.aload_n 0, 1) := dc_at daX8_height_0 8 rfl
theorem dX8_height_15 : decode cX8_height 15 = .ok (.getfield 27, 3) := dc_at daX8_height_0 9 rfl
theorem dX8_height_18 : decode cX8_height 18 = .ok (.getfield 167, 3) := dc_at daX8_height_0 10 rfl
theorem dX8_height_21 : decode cX8_height 21 = .ok (.istore_n 2, 1) := dc_at daX8_height_0 11 rfl
theorem dX8_height_22 : decode cX8_height 22 = .ok (.aload_n 0, 1) := dc_at daX8_height_0 12 rfl
theorem dX8_height_23 : decode cX8_height 23 = .ok (.getfield 27, 3) := dc_at daX8_height_0 13 rfl
theorem dX8_height_26 : decode cX8_height 26 = .ok (.iload_n 1, 1) := dc_at daX8_height_0 14 rfl
theorem dX8_height_27 : decode cX8_height 27 = .ok (.putfield 167, 3) := dc_at daX8_height_0 15 rfl
theorem dX8_height_30 : decode cX8_height 30 = .ok (.iload_n 2, 1) := dc_at daX8_height_0 16 rfl
theorem dX8_height_31 : decode cX8_height 31 = .ok (.ireturn, 1) := dc_at daX8_height_0 17 rfl
def dlX8_fell_0 : List (Nat × Jvm.ClassFile.Instr × Nat) := [(0, .aload_n 0, 1), (1, .getfield 27, 3), (4, .iload_n 1, 1), (5, .invokevirtual 108, 3), (8, .ifCond .ne 6, 3), (11, .bipush (-2), 2), (13, .ireturn, 1), (14, .aload_n 0, 1), (15, .getfield 27, 3), (18, .getfield 119, 3), (21, .iload_n 1, 1), (22, .iaload, 1), (23, .istore_n 2, 1), (24, .iload_n 2, 1), (25, .ifCond .ne 6, 3), (28, .bipush (-5), 2), (30, .ireturn, 1), (31, .aload_n 0, 1), (32, .getfield 27, 3), (35, .getfield 119, 3), (38, .iload_n 1, 1), (39, .iconst 0, 1), (40, .iastore, 1), (41, .iload_n 2, 1)]
theorem daX8_fell_0 : dlX8_fell_0.all (dcK cX8_fell) = true := by decide +kernel
theorem dX8_fell_0 : decode cX8_fell 0 = .ok (.aload_n 0, 1) := dc_at daX8_fell_0 0 rfl
theorem dX8_fell_1 : decode cX8_fell 1 = .ok (.getfield 27, 3) := dc_at daX8_fell_0 1 rfl
theorem dX8_fell_4 : decode cX8_fell 4 = .ok (.iload_n 1, 1) := dc_at daX8_fell_0 2 rfl
theorem dX8_fell_5 : decode cX8_fell 5 = .ok (.invokevirtual 108, 3) := dc_at daX8_fell_0 3 rfl
theorem dX8_fell_8 : decode cX8_fell 8 = .ok (.ifCond .ne 6, 3) := dc_at daX8_fell_0 4 rfl
theorem dX8_fell_11 : decode cX8_fell 11 = .ok (.bipush (-2), 2) := dc_at daX8_fell_0 5 rfl
theorem dX8_fell_13 : decode cX8_fell 13 = .ok (.ireturn, 1) := dc_at daX8_fell_0 6 rfl
theorem dX8_fell_14 : decode cX8_fell 14 = .ok (.aload_n 0, 1) := dc_at daX8_fell_0 7 rfl
theorem dX8_fell_15 : decode cX8_fell 15 = .ok (.getfield 27, 3) := dc_at daX8_fell_0 8 rfl
theorem dX8_fell_18 : decode cX8_fell 18 = .ok (.getfield 119, 3) := dc_at daX8_fell_0 9 rfl
theorem dX8_fell_21 : decode cX8_fell 21 = .ok (.iload_n 1, 1) := dc_at daX8_fell_0 10 rfl
theorem dX8_fell_22 : decode cX8_fell 22 = .ok (.iaload, 1) := dc_at daX8_fell_0 11 rfl
theorem dX8_fell_23 : decode cX8_fell 23 = .ok (.istore_n 2, 1) := dc_at daX8_fell_0 12 rfl
theorem dX8_fell_24 : decode cX8_fell 24 = .ok (.iload_n 2, 1) := dc_at daX8_fell_0 13 rfl
theorem dX8_fell_25 : decode cX8_fell 25 = .ok (.ifCond .ne 6, 3) := dc_at daX8_fell_0 14 rfl
theorem dX8_fell_28 : decode cX8_fell 28 = .ok (.bipush (-5), 2) := dc_at daX8_fell_0 15 rfl
theorem dX8_fell_30 : decode cX8_fell 30 = .ok (.ireturn, 1) := dc_at daX8_fell_0 16 rfl
theorem dX8_fell_31 : decode cX8_fell 31 = .ok (.aload_n 0, 1) := dc_at daX8_fell_0 17 rfl
theorem dX8_fell_32 : decode cX8_fell 32 = .ok (.getfield 27, 3) := dc_at daX8_fell_0 18 rfl
theorem dX8_fell_35 : decode cX8_fell 35 = .ok (.getfield 119, 3) := dc_at daX8_fell_0 19 rfl
theorem dX8_fell_38 : decode cX8_fell 38 = .ok (.iload_n 1, 1) := dc_at daX8_fell_0 20 rfl
theorem dX8_fell_39 : decode cX8_fell 39 = .ok (.iconst 0, 1) := dc_at daX8_fell_0 21 rfl
theorem dX8_fell_40 : decode cX8_fell 40 = .ok (.iastore, 1) := dc_at daX8_fell_0 22 rfl
theorem dX8_fell_41 : decode cX8_fell 41 = .ok (.iload_n 2, 1) := dc_at daX8_fell_0 23 rfl
def dlX8_fell_1 : List (Nat × Jvm.ClassFile.Instr × Nat) := [(42, .ireturn, 1)]
theorem daX8_fell_1 : dlX8_fell_1.all (dcK cX8_fell) = true := by decide +kernel
theorem dX8_fell_42 : decode cX8_fell 42 = .ok (.ireturn, 1) := dc_at daX8_fell_1 0 rfl
def dlX8_minute_0 : List (Nat × Jvm.ClassFile.Instr × Nat) := [(0, .aload_n 0, 1), (1, .getfield 27, 3), (4, .iload_n 1, 1), (5, .i2l, 1), (6, .invokevirtual 170, 3), (9, .istore_n 2, 1), (10, .iload_n 2, 1), (11, .ifCond .eq 16, 3), (14, .iload_n 2, 1), (15, .iconst 1, 1), (16, .if_icmp .ne 8, 3), (19, .bipush (-2), 2), (21, .goto 5, 3), (24, .bipush (-5), 2), (26, .ireturn, 1), (27, .aload_n 0, 1), (28, .getfield 27, 3), (31, .aload_n 0, 1), (32, .getfield 27, 3), (35, .aload_n 0, 1), (36, .getfield 27, 3), (39, .getfield 128, 3), (42, .iload_n 1, 1), (43, .i2l, 1)]
theorem daX8_minute_0 : dlX8_minute_0.all (dcK cX8_minute) = true := by decide +kernel
theorem dX8_minute_0 : decode cX8_minute 0 = .ok (.aload_n 0, 1) := dc_at daX8_minute_0 0 rfl
theorem dX8_minute_1 : decode cX8_minute 1 = .ok (.getfield 27, 3) := dc_at daX8_minute_0 1 rfl
theorem dX8_minute_4 : decode cX8_minute 4 = .ok (.iload_n 1, 1) := dc_at daX8_minute_0 2 rfl
theorem dX8_minute_5 : decode cX8_minute 5 = .ok (.i2l, 1) := dc_at daX8_minute_0 3 rfl
theorem dX8_minute_6 : decode cX8_minute 6 = .ok (.invokevirtual 170, 3) := dc_at daX8_minute_0 4 rfl
theorem dX8_minute_9 : decode cX8_minute 9 = .ok (.istore_n 2, 1) := dc_at daX8_minute_0 5 rfl
theorem dX8_minute_10 : decode cX8_minute 10 = .ok (.iload_n 2, 1) := dc_at daX8_minute_0 6 rfl
theorem dX8_minute_11 : decode cX8_minute 11 = .ok (.ifCond .eq 16, 3) := dc_at daX8_minute_0 7 rfl
theorem dX8_minute_14 : decode cX8_minute 14 = .ok (.iload_n 2, 1) := dc_at daX8_minute_0 8 rfl
theorem dX8_minute_15 : decode cX8_minute 15 = .ok (.iconst 1, 1) := dc_at daX8_minute_0 9 rfl
theorem dX8_minute_16 : decode cX8_minute 16 = .ok (.if_icmp .ne 8, 3) := dc_at daX8_minute_0 10 rfl
theorem dX8_minute_19 : decode cX8_minute 19 = .ok (.bipush (-2), 2) := dc_at daX8_minute_0 11 rfl
theorem dX8_minute_21 : decode cX8_minute 21 = .ok (.goto 5, 3) := dc_at daX8_minute_0 12 rfl
theorem dX8_minute_24 : decode cX8_minute 24 = .ok (.bipush (-5), 2) := dc_at daX8_minute_0 13 rfl
theorem dX8_minute_26 : decode cX8_minute 26 = .ok (.ireturn, 1) := dc_at daX8_minute_0 14 rfl
theorem dX8_minute_27 : decode cX8_minute 27 = .ok (.aload_n 0, 1) := dc_at daX8_minute_0 15 rfl
theorem dX8_minute_28 : decode cX8_minute 28 = .ok (.getfield 27, 3) := dc_at daX8_minute_0 16 rfl
theorem dX8_minute_31 : decode cX8_minute 31 = .ok (.aload_n 0, 1) := dc_at daX8_minute_0 17 rfl
theorem dX8_minute_32 : decode cX8_minute 32 = .ok (.getfield 27, 3) := dc_at daX8_minute_0 18 rfl
theorem dX8_minute_35 : decode cX8_minute 35 = .ok (.aload_n 0, 1) := dc_at daX8_minute_0 19 rfl
theorem dX8_minute_36 : decode cX8_minute 36 = .ok (.getfield 27, 3) := dc_at daX8_minute_0 20 rfl
theorem dX8_minute_39 : decode cX8_minute 39 = .ok (.getfield 128, 3) := dc_at daX8_minute_0 21 rfl
theorem dX8_minute_42 : decode cX8_minute 42 = .ok (.iload_n 1, 1) := dc_at daX8_minute_0 22 rfl
theorem dX8_minute_43 : decode cX8_minute 43 = .ok (.i2l, 1) := dc_at daX8_minute_0 23 rfl
def dlX8_minute_1 : List (Nat × Jvm.ClassFile.Instr × Nat) := [(44, .invokevirtual 174, 3), (47, .iconst 1, 1), (48, .invokevirtual 178, 3), (51, .ireturn, 1)]
theorem daX8_minute_1 : dlX8_minute_1.all (dcK cX8_minute) = true := by decide +kernel
theorem dX8_minute_44 : decode cX8_minute 44 = .ok (.invokevirtual 174, 3) := dc_at daX8_minute_1 0 rfl
theorem dX8_minute_47 : decode cX8_minute 47 = .ok (.iconst 1, 1) := dc_at daX8_minute_1 1 rfl
theorem dX8_minute_48 : decode cX8_minute 48 = .ok (.invokevirtual 178, 3) := dc_at daX8_minute_1 2 rfl
theorem dX8_minute_51 : decode cX8_minute 51 = .ok (.ireturn, 1) := dc_at daX8_minute_1 3 rfl
def dlX8_judge_0 : List (Nat × Jvm.ClassFile.Instr × Nat) := [(0, .iload_n 1, 1), (1, .invokestatic 182, 3), (4, .ifCond .eq 12, 3), (7, .iload_n 2, 1), (8, .ifCond .lt 8, 3), (11, .iload_n 2, 1), (12, .iconst 3, 1), (13, .if_icmp .le 6, 3), (16, .bipush (-2), 2), (18, .ireturn, 1), (19, .aload_n 0, 1), (20, .getfield 44, 3), (23, .iload_n 1, 1), (24, .aaload, 1), (25, .astore_n 3, 1), (26, .aload_n 3, 1), (27, .getfield 185, 3), (30, .ifCond .eq 6, 3), (33, .bipush (-6), 2), (35, .ireturn, 1), (36, .aload_n 0, 1), (37, .getfield 31, 3), (40, .aload_n 0, 1), (41, .getfield 27, 3)]
theorem daX8_judge_0 : dlX8_judge_0.all (dcK cX8_judge) = true := by decide +kernel
theorem dX8_judge_0 : decode cX8_judge 0 = .ok (.iload_n 1, 1) := dc_at daX8_judge_0 0 rfl
theorem dX8_judge_1 : decode cX8_judge 1 = .ok (.invokestatic 182, 3) := dc_at daX8_judge_0 1 rfl
theorem dX8_judge_4 : decode cX8_judge 4 = .ok (.ifCond .eq 12, 3) := dc_at daX8_judge_0 2 rfl
theorem dX8_judge_7 : decode cX8_judge 7 = .ok (.iload_n 2, 1) := dc_at daX8_judge_0 3 rfl
theorem dX8_judge_8 : decode cX8_judge 8 = .ok (.ifCond .lt 8, 3) := dc_at daX8_judge_0 4 rfl
theorem dX8_judge_11 : decode cX8_judge 11 = .ok (.iload_n 2, 1) := dc_at daX8_judge_0 5 rfl
theorem dX8_judge_12 : decode cX8_judge 12 = .ok (.iconst 3, 1) := dc_at daX8_judge_0 6 rfl
theorem dX8_judge_13 : decode cX8_judge 13 = .ok (.if_icmp .le 6, 3) := dc_at daX8_judge_0 7 rfl
theorem dX8_judge_16 : decode cX8_judge 16 = .ok (.bipush (-2), 2) := dc_at daX8_judge_0 8 rfl
theorem dX8_judge_18 : decode cX8_judge 18 = .ok (.ireturn, 1) := dc_at daX8_judge_0 9 rfl
theorem dX8_judge_19 : decode cX8_judge 19 = .ok (.aload_n 0, 1) := dc_at daX8_judge_0 10 rfl
theorem dX8_judge_20 : decode cX8_judge 20 = .ok (.getfield 44, 3) := dc_at daX8_judge_0 11 rfl
theorem dX8_judge_23 : decode cX8_judge 23 = .ok (.iload_n 1, 1) := dc_at daX8_judge_0 12 rfl
theorem dX8_judge_24 : decode cX8_judge 24 = .ok (.aaload, 1) := dc_at daX8_judge_0 13 rfl
theorem dX8_judge_25 : decode cX8_judge 25 = .ok (.astore_n 3, 1) := dc_at daX8_judge_0 14 rfl
theorem dX8_judge_26 : decode cX8_judge 26 = .ok (.aload_n 3, 1) := dc_at daX8_judge_0 15 rfl
theorem dX8_judge_27 : decode cX8_judge 27 = .ok (.getfield 185, 3) := dc_at daX8_judge_0 16 rfl
theorem dX8_judge_30 : decode cX8_judge 30 = .ok (.ifCond .eq 6, 3) := dc_at daX8_judge_0 17 rfl
theorem dX8_judge_33 : decode cX8_judge 33 = .ok (.bipush (-6), 2) := dc_at daX8_judge_0 18 rfl
theorem dX8_judge_35 : decode cX8_judge 35 = .ok (.ireturn, 1) := dc_at daX8_judge_0 19 rfl
theorem dX8_judge_36 : decode cX8_judge 36 = .ok (.aload_n 0, 1) := dc_at daX8_judge_0 20 rfl
theorem dX8_judge_37 : decode cX8_judge 37 = .ok (.getfield 31, 3) := dc_at daX8_judge_0 21 rfl
theorem dX8_judge_40 : decode cX8_judge 40 = .ok (.aload_n 0, 1) := dc_at daX8_judge_0 22 rfl
theorem dX8_judge_41 : decode cX8_judge 41 = .ok (.getfield 27, 3) := dc_at daX8_judge_0 23 rfl
def dlX8_judge_1 : List (Nat × Jvm.ClassFile.Instr × Nat) := [(44, .invokevirtual 95, 3), (47, .aload_n 0, 1), (48, .getfield 31, 3), (51, .aload_n 3, 1), (52, .invokevirtual 189, 3), (55, .istore 4, 2), (57, .iload 4, 2), (59, .aload_n 3, 1), (60, .getfield 193, 3), (63, .if_icmp .lt 7, 3), (66, .iconst 1, 1), (67, .goto 4, 3), (70, .iconst 0, 1), (71, .istore 5, 2), (73, .iload_n 2, 1), (74, .tableswitch 91 0 2 #[26, 38, 61], 26), (100, .iload 5, 2), (102, .ifCond .eq 7, 3), (105, .iconst (-1), 1), (106, .goto 5, 3), (109, .iload 4, 2), (111, .ireturn, 1), (112, .iload 5, 2), (114, .ifCond .eq 7, 3)]
theorem daX8_judge_1 : dlX8_judge_1.all (dcK cX8_judge) = true := by decide +kernel
theorem dX8_judge_44 : decode cX8_judge 44 = .ok (.invokevirtual 95, 3) := dc_at daX8_judge_1 0 rfl
theorem dX8_judge_47 : decode cX8_judge 47 = .ok (.aload_n 0, 1) := dc_at daX8_judge_1 1 rfl
theorem dX8_judge_48 : decode cX8_judge 48 = .ok (.getfield 31, 3) := dc_at daX8_judge_1 2 rfl
theorem dX8_judge_51 : decode cX8_judge 51 = .ok (.aload_n 3, 1) := dc_at daX8_judge_1 3 rfl
theorem dX8_judge_52 : decode cX8_judge 52 = .ok (.invokevirtual 189, 3) := dc_at daX8_judge_1 4 rfl
theorem dX8_judge_55 : decode cX8_judge 55 = .ok (.istore 4, 2) := dc_at daX8_judge_1 5 rfl
theorem dX8_judge_57 : decode cX8_judge 57 = .ok (.iload 4, 2) := dc_at daX8_judge_1 6 rfl
theorem dX8_judge_59 : decode cX8_judge 59 = .ok (.aload_n 3, 1) := dc_at daX8_judge_1 7 rfl
theorem dX8_judge_60 : decode cX8_judge 60 = .ok (.getfield 193, 3) := dc_at daX8_judge_1 8 rfl
theorem dX8_judge_63 : decode cX8_judge 63 = .ok (.if_icmp .lt 7, 3) := dc_at daX8_judge_1 9 rfl
theorem dX8_judge_66 : decode cX8_judge 66 = .ok (.iconst 1, 1) := dc_at daX8_judge_1 10 rfl
theorem dX8_judge_67 : decode cX8_judge 67 = .ok (.goto 4, 3) := dc_at daX8_judge_1 11 rfl
theorem dX8_judge_70 : decode cX8_judge 70 = .ok (.iconst 0, 1) := dc_at daX8_judge_1 12 rfl
theorem dX8_judge_71 : decode cX8_judge 71 = .ok (.istore 5, 2) := dc_at daX8_judge_1 13 rfl
theorem dX8_judge_73 : decode cX8_judge 73 = .ok (.iload_n 2, 1) := dc_at daX8_judge_1 14 rfl
theorem dX8_judge_74 : decode cX8_judge 74 = .ok (.tableswitch 91 0 2 #[26, 38, 61], 26) := dc_at daX8_judge_1 15 rfl
theorem dX8_judge_100 : decode cX8_judge 100 = .ok (.iload 5, 2) := dc_at daX8_judge_1 16 rfl
theorem dX8_judge_102 : decode cX8_judge 102 = .ok (.ifCond .eq 7, 3) := dc_at daX8_judge_1 17 rfl
theorem dX8_judge_105 : decode cX8_judge 105 = .ok (.iconst (-1), 1) := dc_at daX8_judge_1 18 rfl
theorem dX8_judge_106 : decode cX8_judge 106 = .ok (.goto 5, 3) := dc_at daX8_judge_1 19 rfl
theorem dX8_judge_109 : decode cX8_judge 109 = .ok (.iload 4, 2) := dc_at daX8_judge_1 20 rfl
theorem dX8_judge_111 : decode cX8_judge 111 = .ok (.ireturn, 1) := dc_at daX8_judge_1 21 rfl
theorem dX8_judge_112 : decode cX8_judge 112 = .ok (.iload 5, 2) := dc_at daX8_judge_1 22 rfl
theorem dX8_judge_114 : decode cX8_judge 114 = .ok (.ifCond .eq 7, 3) := dc_at daX8_judge_1 23 rfl
def dlX8_judge_2 : List (Nat × Jvm.ClassFile.Instr × Nat) := [(117, .iconst 0, 1), (118, .goto 16, 3), (121, .aload_n 0, 1), (122, .getfield 31, 3), (125, .aload_n 3, 1), (126, .iload 4, 2), (128, .invokevirtual 196, 3), (131, .invokevirtual 170, 3), (134, .ireturn, 1), (135, .aload_n 0, 1), (136, .getfield 31, 3), (139, .aload_n 0, 1), (140, .getfield 31, 3), (143, .getfield 125, 3), (146, .invokevirtual 200, 3), (149, .aload_n 0, 1), (150, .getfield 27, 3), (153, .aload_n 0, 1), (154, .getfield 27, 3), (157, .getfield 125, 3), (160, .invokevirtual 200, 3), (163, .isub, 1), (164, .ireturn, 1), (165, .aload_n 0, 1)]
theorem daX8_judge_2 : dlX8_judge_2.all (dcK cX8_judge) = true := by decide +kernel
theorem dX8_judge_117 : decode cX8_judge 117 = .ok (.iconst 0, 1) := dc_at daX8_judge_2 0 rfl
theorem dX8_judge_118 : decode cX8_judge 118 = .ok (.goto 16, 3) := dc_at daX8_judge_2 1 rfl
theorem dX8_judge_121 : decode cX8_judge 121 = .ok (.aload_n 0, 1) := dc_at daX8_judge_2 2 rfl
theorem dX8_judge_122 : decode cX8_judge 122 = .ok (.getfield 31, 3) := dc_at daX8_judge_2 3 rfl
theorem dX8_judge_125 : decode cX8_judge 125 = .ok (.aload_n 3, 1) := dc_at daX8_judge_2 4 rfl
theorem dX8_judge_126 : decode cX8_judge 126 = .ok (.iload 4, 2) := dc_at daX8_judge_2 5 rfl
theorem dX8_judge_128 : decode cX8_judge 128 = .ok (.invokevirtual 196, 3) := dc_at daX8_judge_2 6 rfl
theorem dX8_judge_131 : decode cX8_judge 131 = .ok (.invokevirtual 170, 3) := dc_at daX8_judge_2 7 rfl
theorem dX8_judge_134 : decode cX8_judge 134 = .ok (.ireturn, 1) := dc_at daX8_judge_2 8 rfl
theorem dX8_judge_135 : decode cX8_judge 135 = .ok (.aload_n 0, 1) := dc_at daX8_judge_2 9 rfl
theorem dX8_judge_136 : decode cX8_judge 136 = .ok (.getfield 31, 3) := dc_at daX8_judge_2 10 rfl
theorem dX8_judge_139 : decode cX8_judge 139 = .ok (.aload_n 0, 1) := dc_at daX8_judge_2 11 rfl
theorem dX8_judge_140 : decode cX8_judge 140 = .ok (.getfield 31, 3) := dc_at daX8_judge_2 12 rfl
theorem dX8_judge_143 : decode cX8_judge 143 = .ok (.getfield 125, 3) := dc_at daX8_judge_2 13 rfl
theorem dX8_judge_146 : decode cX8_judge 146 = .ok (.invokevirtual 200, 3) := dc_at daX8_judge_2 14 rfl
theorem dX8_judge_149 : decode cX8_judge 149 = .ok (.aload_n 0, 1) := dc_at daX8_judge_2 15 rfl
theorem dX8_judge_150 : decode cX8_judge 150 = .ok (.getfield 27, 3) := dc_at daX8_judge_2 16 rfl
theorem dX8_judge_153 : decode cX8_judge 153 = .ok (.aload_n 0, 1) := dc_at daX8_judge_2 17 rfl
theorem dX8_judge_154 : decode cX8_judge 154 = .ok (.getfield 27, 3) := dc_at daX8_judge_2 18 rfl
theorem dX8_judge_157 : decode cX8_judge 157 = .ok (.getfield 125, 3) := dc_at daX8_judge_2 19 rfl
theorem dX8_judge_160 : decode cX8_judge 160 = .ok (.invokevirtual 200, 3) := dc_at daX8_judge_2 20 rfl
theorem dX8_judge_163 : decode cX8_judge 163 = .ok (.isub, 1) := dc_at daX8_judge_2 21 rfl
theorem dX8_judge_164 : decode cX8_judge 164 = .ok (.ireturn, 1) := dc_at daX8_judge_2 22 rfl
theorem dX8_judge_165 : decode cX8_judge 165 = .ok (.aload_n 0, 1) := dc_at daX8_judge_2 23 rfl
def dlX8_judge_3 : List (Nat × Jvm.ClassFile.Instr × Nat) := [(166, .getfield 31, 3), (169, .invokevirtual 204, 3), (172, .ireturn, 1)]
theorem daX8_judge_3 : dlX8_judge_3.all (dcK cX8_judge) = true := by decide +kernel
theorem dX8_judge_166 : decode cX8_judge 166 = .ok (.getfield 31, 3) := dc_at daX8_judge_3 0 rfl
theorem dX8_judge_169 : decode cX8_judge 169 = .ok (.invokevirtual 204, 3) := dc_at daX8_judge_3 1 rfl
theorem dX8_judge_172 : decode cX8_judge 172 = .ok (.ireturn, 1) := dc_at daX8_judge_3 2 rfl
def dlX8_perform_0 : List (Nat × Jvm.ClassFile.Instr × Nat) := [(0, .iload_n 1, 1), (1, .invokestatic 182, 3), (4, .ifCond .ne 6, 3), (7, .bipush (-2), 2), (9, .ireturn, 1), (10, .aload_n 0, 1), (11, .getfield 44, 3), (14, .iload_n 1, 1), (15, .aaload, 1), (16, .getfield 185, 3), (19, .ifCond .eq 6, 3), (22, .bipush (-6), 2), (24, .ireturn, 1), (25, .aload_n 0, 1), (26, .getfield 27, 3), (29, .aload_n 0, 1), (30, .getfield 44, 3), (33, .iload_n 1, 1), (34, .aaload, 1), (35, .invokevirtual 189, 3), (38, .ireturn, 1)]
theorem daX8_perform_0 : dlX8_perform_0.all (dcK cX8_perform) = true := by decide +kernel
theorem dX8_perform_0 : decode cX8_perform 0 = .ok (.iload_n 1, 1) := dc_at daX8_perform_0 0 rfl
theorem dX8_perform_1 : decode cX8_perform 1 = .ok (.invokestatic 182, 3) := dc_at daX8_perform_0 1 rfl
theorem dX8_perform_4 : decode cX8_perform 4 = .ok (.ifCond .ne 6, 3) := dc_at daX8_perform_0 2 rfl
theorem dX8_perform_7 : decode cX8_perform 7 = .ok (.bipush (-2), 2) := dc_at daX8_perform_0 3 rfl
theorem dX8_perform_9 : decode cX8_perform 9 = .ok (.ireturn, 1) := dc_at daX8_perform_0 4 rfl
theorem dX8_perform_10 : decode cX8_perform 10 = .ok (.aload_n 0, 1) := dc_at daX8_perform_0 5 rfl
theorem dX8_perform_11 : decode cX8_perform 11 = .ok (.getfield 44, 3) := dc_at daX8_perform_0 6 rfl
theorem dX8_perform_14 : decode cX8_perform 14 = .ok (.iload_n 1, 1) := dc_at daX8_perform_0 7 rfl
theorem dX8_perform_15 : decode cX8_perform 15 = .ok (.aaload, 1) := dc_at daX8_perform_0 8 rfl
theorem dX8_perform_16 : decode cX8_perform 16 = .ok (.getfield 185, 3) := dc_at daX8_perform_0 9 rfl
theorem dX8_perform_19 : decode cX8_perform 19 = .ok (.ifCond .eq 6, 3) := dc_at daX8_perform_0 10 rfl
theorem dX8_perform_22 : decode cX8_perform 22 = .ok (.bipush (-6), 2) := dc_at daX8_perform_0 11 rfl
theorem dX8_perform_24 : decode cX8_perform 24 = .ok (.ireturn, 1) := dc_at daX8_perform_0 12 rfl
theorem dX8_perform_25 : decode cX8_perform 25 = .ok (.aload_n 0, 1) := dc_at daX8_perform_0 13 rfl
theorem dX8_perform_26 : decode cX8_perform 26 = .ok (.getfield 27, 3) := dc_at daX8_perform_0 14 rfl
theorem dX8_perform_29 : decode cX8_perform 29 = .ok (.aload_n 0, 1) := dc_at daX8_perform_0 15 rfl
theorem dX8_perform_30 : decode cX8_perform 30 = .ok (.getfield 44, 3) := dc_at daX8_perform_0 16 rfl
theorem dX8_perform_33 : decode cX8_perform 33 = .ok (.iload_n 1, 1) := dc_at daX8_perform_0 17 rfl
theorem dX8_perform_34 : decode cX8_perform 34 = .ok (.aaload, 1) := dc_at daX8_perform_0 18 rfl
theorem dX8_perform_35 : decode cX8_perform 35 = .ok (.invokevirtual 189, 3) := dc_at daX8_perform_0 19 rfl
theorem dX8_perform_38 : decode cX8_perform 38 = .ok (.ireturn, 1) := dc_at daX8_perform_0 20 rfl
def dlX8_fill_0 : List (Nat × Jvm.ClassFile.Instr × Nat) := [(0, .iload_n 1, 1), (1, .ifCond .lt 9, 3), (4, .iload_n 1, 1), (5, .bipush 99, 2), (7, .if_icmp .le 6, 3), (10, .bipush (-3), 2), (12, .ireturn, 1), (13, .aload_n 0, 1), (14, .getfield 27, 3), (17, .sipush 999, 3), (20, .aload_n 0, 1), (21, .getfield 27, 3), (24, .getfield 208, 3), (27, .iload_n 1, 1), (28, .iadd, 1), (29, .invokestatic 211, 3), (32, .putfield 208, 3), (35, .aload_n 0, 1), (36, .getfield 27, 3), (39, .getfield 208, 3), (42, .ireturn, 1)]
theorem daX8_fill_0 : dlX8_fill_0.all (dcK cX8_fill) = true := by decide +kernel
theorem dX8_fill_0 : decode cX8_fill 0 = .ok (.iload_n 1, 1) := dc_at daX8_fill_0 0 rfl
theorem dX8_fill_1 : decode cX8_fill 1 = .ok (.ifCond .lt 9, 3) := dc_at daX8_fill_0 1 rfl
theorem dX8_fill_4 : decode cX8_fill 4 = .ok (.iload_n 1, 1) := dc_at daX8_fill_0 2 rfl
theorem dX8_fill_5 : decode cX8_fill 5 = .ok (.bipush 99, 2) := dc_at daX8_fill_0 3 rfl
theorem dX8_fill_7 : decode cX8_fill 7 = .ok (.if_icmp .le 6, 3) := dc_at daX8_fill_0 4 rfl
theorem dX8_fill_10 : decode cX8_fill 10 = .ok (.bipush (-3), 2) := dc_at daX8_fill_0 5 rfl
theorem dX8_fill_12 : decode cX8_fill 12 = .ok (.ireturn, 1) := dc_at daX8_fill_0 6 rfl
theorem dX8_fill_13 : decode cX8_fill 13 = .ok (.aload_n 0, 1) := dc_at daX8_fill_0 7 rfl
theorem dX8_fill_14 : decode cX8_fill 14 = .ok (.getfield 27, 3) := dc_at daX8_fill_0 8 rfl
theorem dX8_fill_17 : decode cX8_fill 17 = .ok (.sipush 999, 3) := dc_at daX8_fill_0 9 rfl
theorem dX8_fill_20 : decode cX8_fill 20 = .ok (.aload_n 0, 1) := dc_at daX8_fill_0 10 rfl
theorem dX8_fill_21 : decode cX8_fill 21 = .ok (.getfield 27, 3) := dc_at daX8_fill_0 11 rfl
theorem dX8_fill_24 : decode cX8_fill 24 = .ok (.getfield 208, 3) := dc_at daX8_fill_0 12 rfl
theorem dX8_fill_27 : decode cX8_fill 27 = .ok (.iload_n 1, 1) := dc_at daX8_fill_0 13 rfl
theorem dX8_fill_28 : decode cX8_fill 28 = .ok (.iadd, 1) := dc_at daX8_fill_0 14 rfl
theorem dX8_fill_29 : decode cX8_fill 29 = .ok (.invokestatic 211, 3) := dc_at daX8_fill_0 15 rfl
theorem dX8_fill_32 : decode cX8_fill 32 = .ok (.putfield 208, 3) := dc_at daX8_fill_0 16 rfl
theorem dX8_fill_35 : decode cX8_fill 35 = .ok (.aload_n 0, 1) := dc_at daX8_fill_0 17 rfl
theorem dX8_fill_36 : decode cX8_fill 36 = .ok (.getfield 27, 3) := dc_at daX8_fill_0 18 rfl
theorem dX8_fill_39 : decode cX8_fill 39 = .ok (.getfield 208, 3) := dc_at daX8_fill_0 19 rfl
theorem dX8_fill_42 : decode cX8_fill 42 = .ok (.ireturn, 1) := dc_at daX8_fill_0 20 rfl
def dlX8_night_0 : List (Nat × Jvm.ClassFile.Instr × Nat) := [(0, .iload_n 2, 1), (1, .iconst 1, 1), (2, .if_icmp .lt 9, 3), (5, .iload_n 2, 1), (6, .bipush 60, 2), (8, .if_icmp .le 6, 3), (11, .bipush (-3), 2), (13, .ireturn, 1), (14, .iload_n 2, 1), (15, .aload_n 0, 1), (16, .getfield 27, 3), (19, .getfield 208, 3), (22, .invokestatic 211, 3), (25, .istore_n 3, 1), (26, .aload_n 0, 1), (27, .getfield 27, 3), (30, .getfield 161, 3), (33, .ifCond .eq 22, 3), (36, .iload_n 3, 1), (37, .ifCond .eq 18, 3), (40, .aload_n 0, 1), (41, .getfield 27, 3), (44, .getfield 216, 3), (47, .iload_n 3, 1)]
theorem daX8_night_0 : dlX8_night_0.all (dcK cX8_night) = true := by decide +kernel
theorem dX8_night_0 : decode cX8_night 0 = .ok (.iload_n 2, 1) := dc_at daX8_night_0 0 rfl
theorem dX8_night_1 : decode cX8_night 1 = .ok (.iconst 1, 1) := dc_at daX8_night_0 1 rfl
theorem dX8_night_2 : decode cX8_night 2 = .ok (.if_icmp .lt 9, 3) := dc_at daX8_night_0 2 rfl
theorem dX8_night_5 : decode cX8_night 5 = .ok (.iload_n 2, 1) := dc_at daX8_night_0 3 rfl
theorem dX8_night_6 : decode cX8_night 6 = .ok (.bipush 60, 2) := dc_at daX8_night_0 4 rfl
theorem dX8_night_8 : decode cX8_night 8 = .ok (.if_icmp .le 6, 3) := dc_at daX8_night_0 5 rfl
theorem dX8_night_11 : decode cX8_night 11 = .ok (.bipush (-3), 2) := dc_at daX8_night_0 6 rfl
theorem dX8_night_13 : decode cX8_night 13 = .ok (.ireturn, 1) := dc_at daX8_night_0 7 rfl
theorem dX8_night_14 : decode cX8_night 14 = .ok (.iload_n 2, 1) := dc_at daX8_night_0 8 rfl
theorem dX8_night_15 : decode cX8_night 15 = .ok (.aload_n 0, 1) := dc_at daX8_night_0 9 rfl
theorem dX8_night_16 : decode cX8_night 16 = .ok (.getfield 27, 3) := dc_at daX8_night_0 10 rfl
theorem dX8_night_19 : decode cX8_night 19 = .ok (.getfield 208, 3) := dc_at daX8_night_0 11 rfl
theorem dX8_night_22 : decode cX8_night 22 = .ok (.invokestatic 211, 3) := dc_at daX8_night_0 12 rfl
theorem dX8_night_25 : decode cX8_night 25 = .ok (.istore_n 3, 1) := dc_at daX8_night_0 13 rfl
theorem dX8_night_26 : decode cX8_night 26 = .ok (.aload_n 0, 1) := dc_at daX8_night_0 14 rfl
theorem dX8_night_27 : decode cX8_night 27 = .ok (.getfield 27, 3) := dc_at daX8_night_0 15 rfl
theorem dX8_night_30 : decode cX8_night 30 = .ok (.getfield 161, 3) := dc_at daX8_night_0 16 rfl
theorem dX8_night_33 : decode cX8_night 33 = .ok (.ifCond .eq 22, 3) := dc_at daX8_night_0 17 rfl
theorem dX8_night_36 : decode cX8_night 36 = .ok (.iload_n 3, 1) := dc_at daX8_night_0 18 rfl
theorem dX8_night_37 : decode cX8_night 37 = .ok (.ifCond .eq 18, 3) := dc_at daX8_night_0 19 rfl
theorem dX8_night_40 : decode cX8_night 40 = .ok (.aload_n 0, 1) := dc_at daX8_night_0 20 rfl
theorem dX8_night_41 : decode cX8_night 41 = .ok (.getfield 27, 3) := dc_at daX8_night_0 21 rfl
theorem dX8_night_44 : decode cX8_night 44 = .ok (.getfield 216, 3) := dc_at daX8_night_0 22 rfl
theorem dX8_night_47 : decode cX8_night 47 = .ok (.iload_n 3, 1) := dc_at daX8_night_0 23 rfl
def dlX8_night_1 : List (Nat × Jvm.ClassFile.Instr × Nat) := [(48, .iadd, 1), (49, .sipush 9999, 3), (52, .if_icmp .le 6, 3), (55, .bipush (-5), 2), (57, .ireturn, 1), (58, .iload_n 1, 1), (59, .istore 4, 2), (61, .iconst 0, 1), (62, .istore 5, 2), (64, .iconst 0, 1), (65, .istore 6, 2), (67, .iload 6, 2), (69, .iload_n 3, 1), (70, .if_icmp .ge 104, 3), (73, .iload 4, 2), (75, .invokestatic 219, 3), (78, .istore 4, 2), (80, .aload_n 0, 1), (81, .getfield 27, 3), (84, .aload_n 0, 1), (85, .getfield 27, 3), (88, .getfield 128, 3), (91, .iload 4, 2), (93, .bipush 16, 2)]
theorem daX8_night_1 : dlX8_night_1.all (dcK cX8_night) = true := by decide +kernel
theorem dX8_night_48 : decode cX8_night 48 = .ok (.iadd, 1) := dc_at daX8_night_1 0 rfl
theorem dX8_night_49 : decode cX8_night 49 = .ok (.sipush 9999, 3) := dc_at daX8_night_1 1 rfl
theorem dX8_night_52 : decode cX8_night 52 = .ok (.if_icmp .le 6, 3) := dc_at daX8_night_1 2 rfl
theorem dX8_night_55 : decode cX8_night 55 = .ok (.bipush (-5), 2) := dc_at daX8_night_1 3 rfl
theorem dX8_night_57 : decode cX8_night 57 = .ok (.ireturn, 1) := dc_at daX8_night_1 4 rfl
theorem dX8_night_58 : decode cX8_night 58 = .ok (.iload_n 1, 1) := dc_at daX8_night_1 5 rfl
theorem dX8_night_59 : decode cX8_night 59 = .ok (.istore 4, 2) := dc_at daX8_night_1 6 rfl
theorem dX8_night_61 : decode cX8_night 61 = .ok (.iconst 0, 1) := dc_at daX8_night_1 7 rfl
theorem dX8_night_62 : decode cX8_night 62 = .ok (.istore 5, 2) := dc_at daX8_night_1 8 rfl
theorem dX8_night_64 : decode cX8_night 64 = .ok (.iconst 0, 1) := dc_at daX8_night_1 9 rfl
theorem dX8_night_65 : decode cX8_night 65 = .ok (.istore 6, 2) := dc_at daX8_night_1 10 rfl
theorem dX8_night_67 : decode cX8_night 67 = .ok (.iload 6, 2) := dc_at daX8_night_1 11 rfl
theorem dX8_night_69 : decode cX8_night 69 = .ok (.iload_n 3, 1) := dc_at daX8_night_1 12 rfl
theorem dX8_night_70 : decode cX8_night 70 = .ok (.if_icmp .ge 104, 3) := dc_at daX8_night_1 13 rfl
theorem dX8_night_73 : decode cX8_night 73 = .ok (.iload 4, 2) := dc_at daX8_night_1 14 rfl
theorem dX8_night_75 : decode cX8_night 75 = .ok (.invokestatic 219, 3) := dc_at daX8_night_1 15 rfl
theorem dX8_night_78 : decode cX8_night 78 = .ok (.istore 4, 2) := dc_at daX8_night_1 16 rfl
theorem dX8_night_80 : decode cX8_night 80 = .ok (.aload_n 0, 1) := dc_at daX8_night_1 17 rfl
theorem dX8_night_81 : decode cX8_night 81 = .ok (.getfield 27, 3) := dc_at daX8_night_1 18 rfl
theorem dX8_night_84 : decode cX8_night 84 = .ok (.aload_n 0, 1) := dc_at daX8_night_1 19 rfl
theorem dX8_night_85 : decode cX8_night 85 = .ok (.getfield 27, 3) := dc_at daX8_night_1 20 rfl
theorem dX8_night_88 : decode cX8_night 88 = .ok (.getfield 128, 3) := dc_at daX8_night_1 21 rfl
theorem dX8_night_91 : decode cX8_night 91 = .ok (.iload 4, 2) := dc_at daX8_night_1 22 rfl
theorem dX8_night_93 : decode cX8_night 93 = .ok (.bipush 16, 2) := dc_at daX8_night_1 23 rfl
def dlX8_night_2 : List (Nat × Jvm.ClassFile.Instr × Nat) := [(95, .iushr, 1), (96, .iconst 3, 1), (97, .irem, 1), (98, .i2l, 1), (99, .invokevirtual 174, 3), (102, .istore 7, 2), (104, .iload 4, 2), (106, .invokestatic 219, 3), (109, .istore 4, 2), (111, .iload 4, 2), (113, .bipush 16, 2), (115, .iushr, 1), (116, .bipush 100, 2), (118, .irem, 1), (119, .aload_n 0, 1), (120, .getfield 27, 3), (123, .getfield 222, 3), (126, .if_icmp .lt 7, 3), (129, .iconst 1, 1), (130, .goto 4, 3), (133, .iconst 0, 1), (134, .istore 8, 2), (136, .iload 5, 2), (138, .aload_n 0, 1)]
theorem daX8_night_2 : dlX8_night_2.all (dcK cX8_night) = true := by decide +kernel
theorem dX8_night_95 : decode cX8_night 95 = .ok (.iushr, 1) := dc_at daX8_night_2 0 rfl
theorem dX8_night_96 : decode cX8_night 96 = .ok (.iconst 3, 1) := dc_at daX8_night_2 1 rfl
theorem dX8_night_97 : decode cX8_night 97 = .ok (.irem, 1) := dc_at daX8_night_2 2 rfl
theorem dX8_night_98 : decode cX8_night 98 = .ok (.i2l, 1) := dc_at daX8_night_2 3 rfl
theorem dX8_night_99 : decode cX8_night 99 = .ok (.invokevirtual 174, 3) := dc_at daX8_night_2 4 rfl
theorem dX8_night_102 : decode cX8_night 102 = .ok (.istore 7, 2) := dc_at daX8_night_2 5 rfl
theorem dX8_night_104 : decode cX8_night 104 = .ok (.iload 4, 2) := dc_at daX8_night_2 6 rfl
theorem dX8_night_106 : decode cX8_night 106 = .ok (.invokestatic 219, 3) := dc_at daX8_night_2 7 rfl
theorem dX8_night_109 : decode cX8_night 109 = .ok (.istore 4, 2) := dc_at daX8_night_2 8 rfl
theorem dX8_night_111 : decode cX8_night 111 = .ok (.iload 4, 2) := dc_at daX8_night_2 9 rfl
theorem dX8_night_113 : decode cX8_night 113 = .ok (.bipush 16, 2) := dc_at daX8_night_2 10 rfl
theorem dX8_night_115 : decode cX8_night 115 = .ok (.iushr, 1) := dc_at daX8_night_2 11 rfl
theorem dX8_night_116 : decode cX8_night 116 = .ok (.bipush 100, 2) := dc_at daX8_night_2 12 rfl
theorem dX8_night_118 : decode cX8_night 118 = .ok (.irem, 1) := dc_at daX8_night_2 13 rfl
theorem dX8_night_119 : decode cX8_night 119 = .ok (.aload_n 0, 1) := dc_at daX8_night_2 14 rfl
theorem dX8_night_120 : decode cX8_night 120 = .ok (.getfield 27, 3) := dc_at daX8_night_2 15 rfl
theorem dX8_night_123 : decode cX8_night 123 = .ok (.getfield 222, 3) := dc_at daX8_night_2 16 rfl
theorem dX8_night_126 : decode cX8_night 126 = .ok (.if_icmp .lt 7, 3) := dc_at daX8_night_2 17 rfl
theorem dX8_night_129 : decode cX8_night 129 = .ok (.iconst 1, 1) := dc_at daX8_night_2 18 rfl
theorem dX8_night_130 : decode cX8_night 130 = .ok (.goto 4, 3) := dc_at daX8_night_2 19 rfl
theorem dX8_night_133 : decode cX8_night 133 = .ok (.iconst 0, 1) := dc_at daX8_night_2 20 rfl
theorem dX8_night_134 : decode cX8_night 134 = .ok (.istore 8, 2) := dc_at daX8_night_2 21 rfl
theorem dX8_night_136 : decode cX8_night 136 = .ok (.iload 5, 2) := dc_at daX8_night_2 22 rfl
theorem dX8_night_138 : decode cX8_night 138 = .ok (.aload_n 0, 1) := dc_at daX8_night_2 23 rfl
def dlX8_night_3 : List (Nat × Jvm.ClassFile.Instr × Nat) := [(139, .getfield 27, 3), (142, .iload 7, 2), (144, .iconst (-1), 1), (145, .if_icmp .ne 13, 3), (148, .aload_n 0, 1), (149, .getfield 27, 3), (152, .getfield 128, 3), (155, .goto 5, 3), (158, .iload 7, 2), (160, .iload 8, 2), (162, .invokevirtual 178, 3), (165, .iadd, 1), (166, .istore 5, 2), (168, .iinc 6 1, 3), (171, .goto (-104), 3), (174, .iload 5, 2), (176, .ireturn, 1)]
theorem daX8_night_3 : dlX8_night_3.all (dcK cX8_night) = true := by decide +kernel
theorem dX8_night_139 : decode cX8_night 139 = .ok (.getfield 27, 3) := dc_at daX8_night_3 0 rfl
theorem dX8_night_142 : decode cX8_night 142 = .ok (.iload 7, 2) := dc_at daX8_night_3 1 rfl
theorem dX8_night_144 : decode cX8_night 144 = .ok (.iconst (-1), 1) := dc_at daX8_night_3 2 rfl
theorem dX8_night_145 : decode cX8_night 145 = .ok (.if_icmp .ne 13, 3) := dc_at daX8_night_3 3 rfl
theorem dX8_night_148 : decode cX8_night 148 = .ok (.aload_n 0, 1) := dc_at daX8_night_3 4 rfl
theorem dX8_night_149 : decode cX8_night 149 = .ok (.getfield 27, 3) := dc_at daX8_night_3 5 rfl
theorem dX8_night_152 : decode cX8_night 152 = .ok (.getfield 128, 3) := dc_at daX8_night_3 6 rfl
theorem dX8_night_155 : decode cX8_night 155 = .ok (.goto 5, 3) := dc_at daX8_night_3 7 rfl
theorem dX8_night_158 : decode cX8_night 158 = .ok (.iload 7, 2) := dc_at daX8_night_3 8 rfl
theorem dX8_night_160 : decode cX8_night 160 = .ok (.iload 8, 2) := dc_at daX8_night_3 9 rfl
theorem dX8_night_162 : decode cX8_night 162 = .ok (.invokevirtual 178, 3) := dc_at daX8_night_3 10 rfl
theorem dX8_night_165 : decode cX8_night 165 = .ok (.iadd, 1) := dc_at daX8_night_3 11 rfl
theorem dX8_night_166 : decode cX8_night 166 = .ok (.istore 5, 2) := dc_at daX8_night_3 12 rfl
theorem dX8_night_168 : decode cX8_night 168 = .ok (.iinc 6 1, 3) := dc_at daX8_night_3 13 rfl
theorem dX8_night_171 : decode cX8_night 171 = .ok (.goto (-104), 3) := dc_at daX8_night_3 14 rfl
theorem dX8_night_174 : decode cX8_night 174 = .ok (.iload 5, 2) := dc_at daX8_night_3 15 rfl
theorem dX8_night_176 : decode cX8_night 176 = .ok (.ireturn, 1) := dc_at daX8_night_3 16 rfl
def dlX8_walk_0 : List (Nat × Jvm.ClassFile.Instr × Nat) := [(0, .aload_n 0, 1), (1, .getfield 27, 3), (4, .iload_n 1, 1), (5, .invokevirtual 108, 3), (8, .ifCond .eq 14, 3), (11, .aload_n 0, 1), (12, .getfield 27, 3), (15, .iload_n 2, 1), (16, .invokevirtual 108, 3), (19, .ifCond .ne 6, 3), (22, .bipush (-2), 2), (24, .ireturn, 1), (25, .iload_n 3, 1), (26, .ifCond .lt 16, 3), (29, .iload_n 3, 1), (30, .aload_n 0, 1), (31, .getfield 27, 3), (34, .getfield 116, 3), (37, .iload_n 1, 1), (38, .iaload, 1), (39, .if_icmp .le 6, 3), (42, .bipush (-3), 2), (44, .ireturn, 1), (45, .iload_n 1, 1)]
theorem daX8_walk_0 : dlX8_walk_0.all (dcK cX8_walk) = true := by decide +kernel
theorem dX8_walk_0 : decode cX8_walk 0 = .ok (.aload_n 0, 1) := dc_at daX8_walk_0 0 rfl
theorem dX8_walk_1 : decode cX8_walk 1 = .ok (.getfield 27, 3) := dc_at daX8_walk_0 1 rfl
theorem dX8_walk_4 : decode cX8_walk 4 = .ok (.iload_n 1, 1) := dc_at daX8_walk_0 2 rfl
theorem dX8_walk_5 : decode cX8_walk 5 = .ok (.invokevirtual 108, 3) := dc_at daX8_walk_0 3 rfl
theorem dX8_walk_8 : decode cX8_walk 8 = .ok (.ifCond .eq 14, 3) := dc_at daX8_walk_0 4 rfl
theorem dX8_walk_11 : decode cX8_walk 11 = .ok (.aload_n 0, 1) := dc_at daX8_walk_0 5 rfl
theorem dX8_walk_12 : decode cX8_walk 12 = .ok (.getfield 27, 3) := dc_at daX8_walk_0 6 rfl
theorem dX8_walk_15 : decode cX8_walk 15 = .ok (.iload_n 2, 1) := dc_at daX8_walk_0 7 rfl
theorem dX8_walk_16 : decode cX8_walk 16 = .ok (.invokevirtual 108, 3) := dc_at daX8_walk_0 8 rfl
theorem dX8_walk_19 : decode cX8_walk 19 = .ok (.ifCond .ne 6, 3) := dc_at daX8_walk_0 9 rfl
theorem dX8_walk_22 : decode cX8_walk 22 = .ok (.bipush (-2), 2) := dc_at daX8_walk_0 10 rfl
theorem dX8_walk_24 : decode cX8_walk 24 = .ok (.ireturn, 1) := dc_at daX8_walk_0 11 rfl
theorem dX8_walk_25 : decode cX8_walk 25 = .ok (.iload_n 3, 1) := dc_at daX8_walk_0 12 rfl
theorem dX8_walk_26 : decode cX8_walk 26 = .ok (.ifCond .lt 16, 3) := dc_at daX8_walk_0 13 rfl
theorem dX8_walk_29 : decode cX8_walk 29 = .ok (.iload_n 3, 1) := dc_at daX8_walk_0 14 rfl
theorem dX8_walk_30 : decode cX8_walk 30 = .ok (.aload_n 0, 1) := dc_at daX8_walk_0 15 rfl
theorem dX8_walk_31 : decode cX8_walk 31 = .ok (.getfield 27, 3) := dc_at daX8_walk_0 16 rfl
theorem dX8_walk_34 : decode cX8_walk 34 = .ok (.getfield 116, 3) := dc_at daX8_walk_0 17 rfl
theorem dX8_walk_37 : decode cX8_walk 37 = .ok (.iload_n 1, 1) := dc_at daX8_walk_0 18 rfl
theorem dX8_walk_38 : decode cX8_walk 38 = .ok (.iaload, 1) := dc_at daX8_walk_0 19 rfl
theorem dX8_walk_39 : decode cX8_walk 39 = .ok (.if_icmp .le 6, 3) := dc_at daX8_walk_0 20 rfl
theorem dX8_walk_42 : decode cX8_walk 42 = .ok (.bipush (-3), 2) := dc_at daX8_walk_0 21 rfl
theorem dX8_walk_44 : decode cX8_walk 44 = .ok (.ireturn, 1) := dc_at daX8_walk_0 22 rfl
theorem dX8_walk_45 : decode cX8_walk 45 = .ok (.iload_n 1, 1) := dc_at daX8_walk_0 23 rfl
def dlX8_walk_1 : List (Nat × Jvm.ClassFile.Instr × Nat) := [(46, .iload_n 2, 1), (47, .if_icmp .eq 22, 3), (50, .aload_n 0, 1), (51, .getfield 27, 3), (54, .getfield 116, 3), (57, .iload_n 2, 1), (58, .iaload, 1), (59, .iload_n 3, 1), (60, .iadd, 1), (61, .bipush 9, 2), (63, .if_icmp .le 6, 3), (66, .bipush (-4), 2), (68, .ireturn, 1), (69, .aload_n 0, 1), (70, .getfield 27, 3), (73, .getfield 116, 3), (76, .iload_n 1, 1), (77, .dup2, 1), (78, .iaload, 1), (79, .iload_n 3, 1), (80, .isub, 1), (81, .iastore, 1), (82, .aload_n 0, 1), (83, .getfield 27, 3)]
theorem daX8_walk_1 : dlX8_walk_1.all (dcK cX8_walk) = true := by decide +kernel
theorem dX8_walk_46 : decode cX8_walk 46 = .ok (.iload_n 2, 1) := dc_at daX8_walk_1 0 rfl
theorem dX8_walk_47 : decode cX8_walk 47 = .ok (.if_icmp .eq 22, 3) := dc_at daX8_walk_1 1 rfl
theorem dX8_walk_50 : decode cX8_walk 50 = .ok (.aload_n 0, 1) := dc_at daX8_walk_1 2 rfl
theorem dX8_walk_51 : decode cX8_walk 51 = .ok (.getfield 27, 3) := dc_at daX8_walk_1 3 rfl
theorem dX8_walk_54 : decode cX8_walk 54 = .ok (.getfield 116, 3) := dc_at daX8_walk_1 4 rfl
theorem dX8_walk_57 : decode cX8_walk 57 = .ok (.iload_n 2, 1) := dc_at daX8_walk_1 5 rfl
theorem dX8_walk_58 : decode cX8_walk 58 = .ok (.iaload, 1) := dc_at daX8_walk_1 6 rfl
theorem dX8_walk_59 : decode cX8_walk 59 = .ok (.iload_n 3, 1) := dc_at daX8_walk_1 7 rfl
theorem dX8_walk_60 : decode cX8_walk 60 = .ok (.iadd, 1) := dc_at daX8_walk_1 8 rfl
theorem dX8_walk_61 : decode cX8_walk 61 = .ok (.bipush 9, 2) := dc_at daX8_walk_1 9 rfl
theorem dX8_walk_63 : decode cX8_walk 63 = .ok (.if_icmp .le 6, 3) := dc_at daX8_walk_1 10 rfl
theorem dX8_walk_66 : decode cX8_walk 66 = .ok (.bipush (-4), 2) := dc_at daX8_walk_1 11 rfl
theorem dX8_walk_68 : decode cX8_walk 68 = .ok (.ireturn, 1) := dc_at daX8_walk_1 12 rfl
theorem dX8_walk_69 : decode cX8_walk 69 = .ok (.aload_n 0, 1) := dc_at daX8_walk_1 13 rfl
theorem dX8_walk_70 : decode cX8_walk 70 = .ok (.getfield 27, 3) := dc_at daX8_walk_1 14 rfl
theorem dX8_walk_73 : decode cX8_walk 73 = .ok (.getfield 116, 3) := dc_at daX8_walk_1 15 rfl
theorem dX8_walk_76 : decode cX8_walk 76 = .ok (.iload_n 1, 1) := dc_at daX8_walk_1 16 rfl
theorem dX8_walk_77 : decode cX8_walk 77 = .ok (.dup2, 1) := dc_at daX8_walk_1 17 rfl
theorem dX8_walk_78 : decode cX8_walk 78 = .ok (.iaload, 1) := dc_at daX8_walk_1 18 rfl
theorem dX8_walk_79 : decode cX8_walk 79 = .ok (.iload_n 3, 1) := dc_at daX8_walk_1 19 rfl
theorem dX8_walk_80 : decode cX8_walk 80 = .ok (.isub, 1) := dc_at daX8_walk_1 20 rfl
theorem dX8_walk_81 : decode cX8_walk 81 = .ok (.iastore, 1) := dc_at daX8_walk_1 21 rfl
theorem dX8_walk_82 : decode cX8_walk 82 = .ok (.aload_n 0, 1) := dc_at daX8_walk_1 22 rfl
theorem dX8_walk_83 : decode cX8_walk 83 = .ok (.getfield 27, 3) := dc_at daX8_walk_1 23 rfl
def dlX8_walk_2 : List (Nat × Jvm.ClassFile.Instr × Nat) := [(86, .getfield 116, 3), (89, .iload_n 2, 1), (90, .dup2, 1), (91, .iaload, 1), (92, .iload_n 3, 1), (93, .iadd, 1), (94, .iastore, 1), (95, .iconst 0, 1), (96, .ireturn, 1)]
theorem daX8_walk_2 : dlX8_walk_2.all (dcK cX8_walk) = true := by decide +kernel
theorem dX8_walk_86 : decode cX8_walk 86 = .ok (.getfield 116, 3) := dc_at daX8_walk_2 0 rfl
theorem dX8_walk_89 : decode cX8_walk 89 = .ok (.iload_n 2, 1) := dc_at daX8_walk_2 1 rfl
theorem dX8_walk_90 : decode cX8_walk 90 = .ok (.dup2, 1) := dc_at daX8_walk_2 2 rfl
theorem dX8_walk_91 : decode cX8_walk 91 = .ok (.iaload, 1) := dc_at daX8_walk_2 3 rfl
theorem dX8_walk_92 : decode cX8_walk 92 = .ok (.iload_n 3, 1) := dc_at daX8_walk_2 4 rfl
theorem dX8_walk_93 : decode cX8_walk 93 = .ok (.iadd, 1) := dc_at daX8_walk_2 5 rfl
theorem dX8_walk_94 : decode cX8_walk 94 = .ok (.iastore, 1) := dc_at daX8_walk_2 6 rfl
theorem dX8_walk_95 : decode cX8_walk 95 = .ok (.iconst 0, 1) := dc_at daX8_walk_2 7 rfl
theorem dX8_walk_96 : decode cX8_walk 96 = .ok (.ireturn, 1) := dc_at daX8_walk_2 8 rfl
def dlX8_most_0 : List (Nat × Jvm.ClassFile.Instr × Nat) := [(0, .aload_n 0, 1), (1, .iload_n 2, 1), (2, .iconst 1, 1), (3, .invokestatic 225, 3), (6, .iload_n 1, 1), (7, .bipush 8, 2), (9, .invokevirtual 229, 3), (12, .istore_n 3, 1), (13, .iload_n 3, 1), (14, .ifCond .eq 5, 3), (17, .iload_n 3, 1), (18, .ireturn, 1), (19, .iload_n 2, 1), (20, .iconst 1, 1), (21, .if_icmp .ne 9, 3), (24, .aload_n 0, 1), (25, .iload_n 1, 1), (26, .invokevirtual 233, 3), (29, .ireturn, 1), (30, .aload_n 0, 1), (31, .iconst 0, 1), (32, .iconst (-1), 1), (33, .iload_n 1, 1), (34, .invokevirtual 236, 3)]
theorem daX8_most_0 : dlX8_most_0.all (dcK cX8_most) = true := by decide +kernel
theorem dX8_most_0 : decode cX8_most 0 = .ok (.aload_n 0, 1) := dc_at daX8_most_0 0 rfl
theorem dX8_most_1 : decode cX8_most 1 = .ok (.iload_n 2, 1) := dc_at daX8_most_0 1 rfl
theorem dX8_most_2 : decode cX8_most 2 = .ok (.iconst 1, 1) := dc_at daX8_most_0 2 rfl
theorem dX8_most_3 : decode cX8_most 3 = .ok (.invokestatic 225, 3) := dc_at daX8_most_0 3 rfl
theorem dX8_most_6 : decode cX8_most 6 = .ok (.iload_n 1, 1) := dc_at daX8_most_0 4 rfl
theorem dX8_most_7 : decode cX8_most 7 = .ok (.bipush 8, 2) := dc_at daX8_most_0 5 rfl
theorem dX8_most_9 : decode cX8_most 9 = .ok (.invokevirtual 229, 3) := dc_at daX8_most_0 6 rfl
theorem dX8_most_12 : decode cX8_most 12 = .ok (.istore_n 3, 1) := dc_at daX8_most_0 7 rfl
theorem dX8_most_13 : decode cX8_most 13 = .ok (.iload_n 3, 1) := dc_at daX8_most_0 8 rfl
theorem dX8_most_14 : decode cX8_most 14 = .ok (.ifCond .eq 5, 3) := dc_at daX8_most_0 9 rfl
theorem dX8_most_17 : decode cX8_most 17 = .ok (.iload_n 3, 1) := dc_at daX8_most_0 10 rfl
theorem dX8_most_18 : decode cX8_most 18 = .ok (.ireturn, 1) := dc_at daX8_most_0 11 rfl
theorem dX8_most_19 : decode cX8_most 19 = .ok (.iload_n 2, 1) := dc_at daX8_most_0 12 rfl
theorem dX8_most_20 : decode cX8_most 20 = .ok (.iconst 1, 1) := dc_at daX8_most_0 13 rfl
theorem dX8_most_21 : decode cX8_most 21 = .ok (.if_icmp .ne 9, 3) := dc_at daX8_most_0 14 rfl
theorem dX8_most_24 : decode cX8_most 24 = .ok (.aload_n 0, 1) := dc_at daX8_most_0 15 rfl
theorem dX8_most_25 : decode cX8_most 25 = .ok (.iload_n 1, 1) := dc_at daX8_most_0 16 rfl
theorem dX8_most_26 : decode cX8_most 26 = .ok (.invokevirtual 233, 3) := dc_at daX8_most_0 17 rfl
theorem dX8_most_29 : decode cX8_most 29 = .ok (.ireturn, 1) := dc_at daX8_most_0 18 rfl
theorem dX8_most_30 : decode cX8_most 30 = .ok (.aload_n 0, 1) := dc_at daX8_most_0 19 rfl
theorem dX8_most_31 : decode cX8_most 31 = .ok (.iconst 0, 1) := dc_at daX8_most_0 20 rfl
theorem dX8_most_32 : decode cX8_most 32 = .ok (.iconst (-1), 1) := dc_at daX8_most_0 21 rfl
theorem dX8_most_33 : decode cX8_most 33 = .ok (.iload_n 1, 1) := dc_at daX8_most_0 22 rfl
theorem dX8_most_34 : decode cX8_most 34 = .ok (.invokevirtual 236, 3) := dc_at daX8_most_0 23 rfl
def dlX8_most_1 : List (Nat × Jvm.ClassFile.Instr × Nat) := [(37, .aload_n 0, 1), (38, .iload_n 1, 1), (39, .iload_n 2, 1), (40, .aload_n 0, 1), (41, .getfield 58, 3), (44, .getfield 240, 3), (47, .invokevirtual 243, 3), (50, .ireturn, 1)]
theorem daX8_most_1 : dlX8_most_1.all (dcK cX8_most) = true := by decide +kernel
theorem dX8_most_37 : decode cX8_most 37 = .ok (.aload_n 0, 1) := dc_at daX8_most_1 0 rfl
theorem dX8_most_38 : decode cX8_most 38 = .ok (.iload_n 1, 1) := dc_at daX8_most_1 1 rfl
theorem dX8_most_39 : decode cX8_most 39 = .ok (.iload_n 2, 1) := dc_at daX8_most_1 2 rfl
theorem dX8_most_40 : decode cX8_most 40 = .ok (.aload_n 0, 1) := dc_at daX8_most_1 3 rfl
theorem dX8_most_41 : decode cX8_most 41 = .ok (.getfield 58, 3) := dc_at daX8_most_1 4 rfl
theorem dX8_most_44 : decode cX8_most 44 = .ok (.getfield 240, 3) := dc_at daX8_most_1 5 rfl
theorem dX8_most_47 : decode cX8_most 47 = .ok (.invokevirtual 243, 3) := dc_at daX8_most_1 6 rfl
theorem dX8_most_50 : decode cX8_most 50 = .ok (.ireturn, 1) := dc_at daX8_most_1 7 rfl
def dlX8_dearest_0 : List (Nat × Jvm.ClassFile.Instr × Nat) := [(0, .aload_n 0, 1), (1, .iload_n 2, 1), (2, .iconst 0, 1), (3, .invokestatic 225, 3), (6, .iload_n 1, 1), (7, .bipush 8, 2), (9, .invokevirtual 229, 3), (12, .istore_n 3, 1), (13, .iload_n 3, 1), (14, .ifCond .eq 5, 3), (17, .iload_n 3, 1), (18, .ireturn, 1), (19, .aload_n 0, 1), (20, .iconst 1, 1), (21, .iconst (-1), 1), (22, .iload_n 1, 1), (23, .invokevirtual 236, 3), (26, .aload_n 0, 1), (27, .iload_n 1, 1), (28, .iload_n 2, 1), (29, .aload_n 0, 1), (30, .getfield 58, 3), (33, .getfield 240, 3), (36, .invokevirtual 243, 3)]
theorem daX8_dearest_0 : dlX8_dearest_0.all (dcK cX8_dearest) = true := by decide +kernel
theorem dX8_dearest_0 : decode cX8_dearest 0 = .ok (.aload_n 0, 1) := dc_at daX8_dearest_0 0 rfl
theorem dX8_dearest_1 : decode cX8_dearest 1 = .ok (.iload_n 2, 1) := dc_at daX8_dearest_0 1 rfl
theorem dX8_dearest_2 : decode cX8_dearest 2 = .ok (.iconst 0, 1) := dc_at daX8_dearest_0 2 rfl
theorem dX8_dearest_3 : decode cX8_dearest 3 = .ok (.invokestatic 225, 3) := dc_at daX8_dearest_0 3 rfl
theorem dX8_dearest_6 : decode cX8_dearest 6 = .ok (.iload_n 1, 1) := dc_at daX8_dearest_0 4 rfl
theorem dX8_dearest_7 : decode cX8_dearest 7 = .ok (.bipush 8, 2) := dc_at daX8_dearest_0 5 rfl
theorem dX8_dearest_9 : decode cX8_dearest 9 = .ok (.invokevirtual 229, 3) := dc_at daX8_dearest_0 6 rfl
theorem dX8_dearest_12 : decode cX8_dearest 12 = .ok (.istore_n 3, 1) := dc_at daX8_dearest_0 7 rfl
theorem dX8_dearest_13 : decode cX8_dearest 13 = .ok (.iload_n 3, 1) := dc_at daX8_dearest_0 8 rfl
theorem dX8_dearest_14 : decode cX8_dearest 14 = .ok (.ifCond .eq 5, 3) := dc_at daX8_dearest_0 9 rfl
theorem dX8_dearest_17 : decode cX8_dearest 17 = .ok (.iload_n 3, 1) := dc_at daX8_dearest_0 10 rfl
theorem dX8_dearest_18 : decode cX8_dearest 18 = .ok (.ireturn, 1) := dc_at daX8_dearest_0 11 rfl
theorem dX8_dearest_19 : decode cX8_dearest 19 = .ok (.aload_n 0, 1) := dc_at daX8_dearest_0 12 rfl
theorem dX8_dearest_20 : decode cX8_dearest 20 = .ok (.iconst 1, 1) := dc_at daX8_dearest_0 13 rfl
theorem dX8_dearest_21 : decode cX8_dearest 21 = .ok (.iconst (-1), 1) := dc_at daX8_dearest_0 14 rfl
theorem dX8_dearest_22 : decode cX8_dearest 22 = .ok (.iload_n 1, 1) := dc_at daX8_dearest_0 15 rfl
theorem dX8_dearest_23 : decode cX8_dearest 23 = .ok (.invokevirtual 236, 3) := dc_at daX8_dearest_0 16 rfl
theorem dX8_dearest_26 : decode cX8_dearest 26 = .ok (.aload_n 0, 1) := dc_at daX8_dearest_0 17 rfl
theorem dX8_dearest_27 : decode cX8_dearest 27 = .ok (.iload_n 1, 1) := dc_at daX8_dearest_0 18 rfl
theorem dX8_dearest_28 : decode cX8_dearest 28 = .ok (.iload_n 2, 1) := dc_at daX8_dearest_0 19 rfl
theorem dX8_dearest_29 : decode cX8_dearest 29 = .ok (.aload_n 0, 1) := dc_at daX8_dearest_0 20 rfl
theorem dX8_dearest_30 : decode cX8_dearest 30 = .ok (.getfield 58, 3) := dc_at daX8_dearest_0 21 rfl
theorem dX8_dearest_33 : decode cX8_dearest 33 = .ok (.getfield 240, 3) := dc_at daX8_dearest_0 22 rfl
theorem dX8_dearest_36 : decode cX8_dearest 36 = .ok (.invokevirtual 243, 3) := dc_at daX8_dearest_0 23 rfl
def dlX8_dearest_1 : List (Nat × Jvm.ClassFile.Instr × Nat) := [(39, .ireturn, 1)]
theorem daX8_dearest_1 : dlX8_dearest_1.all (dcK cX8_dearest) = true := by decide +kernel
theorem dX8_dearest_39 : decode cX8_dearest 39 = .ok (.ireturn, 1) := dc_at daX8_dearest_1 0 rfl
def dlX8_fairest_0 : List (Nat × Jvm.ClassFile.Instr × Nat) := [(0, .aload_n 0, 1), (1, .iload_n 2, 1), (2, .iconst 1, 1), (3, .invokestatic 225, 3), (6, .iload_n 1, 1), (7, .bipush 8, 2), (9, .invokevirtual 229, 3), (12, .istore_n 3, 1), (13, .iload_n 3, 1), (14, .ifCond .eq 5, 3), (17, .iload_n 3, 1), (18, .ireturn, 1), (19, .aload_n 0, 1), (20, .iconst 2, 1), (21, .iconst (-1), 1), (22, .iload_n 1, 1), (23, .invokevirtual 236, 3), (26, .aload_n 0, 1), (27, .getfield 58, 3), (30, .getfield 240, 3), (33, .istore 4, 2), (35, .aload_n 0, 1), (36, .iload_n 1, 1), (37, .iload_n 2, 1)]
theorem daX8_fairest_0 : dlX8_fairest_0.all (dcK cX8_fairest) = true := by decide +kernel
theorem dX8_fairest_0 : decode cX8_fairest 0 = .ok (.aload_n 0, 1) := dc_at daX8_fairest_0 0 rfl
theorem dX8_fairest_1 : decode cX8_fairest 1 = .ok (.iload_n 2, 1) := dc_at daX8_fairest_0 1 rfl
theorem dX8_fairest_2 : decode cX8_fairest 2 = .ok (.iconst 1, 1) := dc_at daX8_fairest_0 2 rfl
theorem dX8_fairest_3 : decode cX8_fairest 3 = .ok (.invokestatic 225, 3) := dc_at daX8_fairest_0 3 rfl
theorem dX8_fairest_6 : decode cX8_fairest 6 = .ok (.iload_n 1, 1) := dc_at daX8_fairest_0 4 rfl
theorem dX8_fairest_7 : decode cX8_fairest 7 = .ok (.bipush 8, 2) := dc_at daX8_fairest_0 5 rfl
theorem dX8_fairest_9 : decode cX8_fairest 9 = .ok (.invokevirtual 229, 3) := dc_at daX8_fairest_0 6 rfl
theorem dX8_fairest_12 : decode cX8_fairest 12 = .ok (.istore_n 3, 1) := dc_at daX8_fairest_0 7 rfl
theorem dX8_fairest_13 : decode cX8_fairest 13 = .ok (.iload_n 3, 1) := dc_at daX8_fairest_0 8 rfl
theorem dX8_fairest_14 : decode cX8_fairest 14 = .ok (.ifCond .eq 5, 3) := dc_at daX8_fairest_0 9 rfl
theorem dX8_fairest_17 : decode cX8_fairest 17 = .ok (.iload_n 3, 1) := dc_at daX8_fairest_0 10 rfl
theorem dX8_fairest_18 : decode cX8_fairest 18 = .ok (.ireturn, 1) := dc_at daX8_fairest_0 11 rfl
theorem dX8_fairest_19 : decode cX8_fairest 19 = .ok (.aload_n 0, 1) := dc_at daX8_fairest_0 12 rfl
theorem dX8_fairest_20 : decode cX8_fairest 20 = .ok (.iconst 2, 1) := dc_at daX8_fairest_0 13 rfl
theorem dX8_fairest_21 : decode cX8_fairest 21 = .ok (.iconst (-1), 1) := dc_at daX8_fairest_0 14 rfl
theorem dX8_fairest_22 : decode cX8_fairest 22 = .ok (.iload_n 1, 1) := dc_at daX8_fairest_0 15 rfl
theorem dX8_fairest_23 : decode cX8_fairest 23 = .ok (.invokevirtual 236, 3) := dc_at daX8_fairest_0 16 rfl
theorem dX8_fairest_26 : decode cX8_fairest 26 = .ok (.aload_n 0, 1) := dc_at daX8_fairest_0 17 rfl
theorem dX8_fairest_27 : decode cX8_fairest 27 = .ok (.getfield 58, 3) := dc_at daX8_fairest_0 18 rfl
theorem dX8_fairest_30 : decode cX8_fairest 30 = .ok (.getfield 240, 3) := dc_at daX8_fairest_0 19 rfl
theorem dX8_fairest_33 : decode cX8_fairest 33 = .ok (.istore 4, 2) := dc_at daX8_fairest_0 20 rfl
theorem dX8_fairest_35 : decode cX8_fairest 35 = .ok (.aload_n 0, 1) := dc_at daX8_fairest_0 21 rfl
theorem dX8_fairest_36 : decode cX8_fairest 36 = .ok (.iload_n 1, 1) := dc_at daX8_fairest_0 22 rfl
theorem dX8_fairest_37 : decode cX8_fairest 37 = .ok (.iload_n 2, 1) := dc_at daX8_fairest_0 23 rfl
def dlX8_fairest_1 : List (Nat × Jvm.ClassFile.Instr × Nat) := [(38, .iload_n 2, 1), (39, .ifCond .ne 11, 3), (42, .iload 4, 2), (44, .invokestatic 247, 3), (47, .goto 8, 3), (50, .iload 4, 2), (52, .invokestatic 250, 3), (55, .invokevirtual 243, 3), (58, .ireturn, 1)]
theorem daX8_fairest_1 : dlX8_fairest_1.all (dcK cX8_fairest) = true := by decide +kernel
theorem dX8_fairest_38 : decode cX8_fairest 38 = .ok (.iload_n 2, 1) := dc_at daX8_fairest_1 0 rfl
theorem dX8_fairest_39 : decode cX8_fairest 39 = .ok (.ifCond .ne 11, 3) := dc_at daX8_fairest_1 1 rfl
theorem dX8_fairest_42 : decode cX8_fairest 42 = .ok (.iload 4, 2) := dc_at daX8_fairest_1 2 rfl
theorem dX8_fairest_44 : decode cX8_fairest 44 = .ok (.invokestatic 247, 3) := dc_at daX8_fairest_1 3 rfl
theorem dX8_fairest_47 : decode cX8_fairest 47 = .ok (.goto 8, 3) := dc_at daX8_fairest_1 4 rfl
theorem dX8_fairest_50 : decode cX8_fairest 50 = .ok (.iload 4, 2) := dc_at daX8_fairest_1 5 rfl
theorem dX8_fairest_52 : decode cX8_fairest 52 = .ok (.invokestatic 250, 3) := dc_at daX8_fairest_1 6 rfl
theorem dX8_fairest_55 : decode cX8_fairest 55 = .ok (.invokevirtual 243, 3) := dc_at daX8_fairest_1 7 rfl
theorem dX8_fairest_58 : decode cX8_fairest 58 = .ok (.ireturn, 1) := dc_at daX8_fairest_1 8 rfl
def dlX8_alone_0 : List (Nat × Jvm.ClassFile.Instr × Nat) := [(0, .aload_n 0, 1), (1, .iload_n 1, 1), (2, .invokestatic 135, 3), (5, .ifCond .eq 15, 3), (8, .iload_n 3, 1), (9, .iconst 0, 1), (10, .invokestatic 225, 3), (13, .ifCond .eq 7, 3), (16, .iconst 1, 1), (17, .goto 4, 3), (20, .iconst 0, 1), (21, .iload_n 2, 1), (22, .bipush 8, 2), (24, .invokevirtual 229, 3), (27, .istore 4, 2), (29, .iload 4, 2), (31, .ifCond .eq 6, 3), (34, .iload 4, 2), (36, .ireturn, 1), (37, .aload_n 0, 1), (38, .iconst 3, 1), (39, .iload_n 1, 1), (40, .iload_n 2, 1), (41, .invokevirtual 236, 3)]
theorem daX8_alone_0 : dlX8_alone_0.all (dcK cX8_alone) = true := by decide +kernel
theorem dX8_alone_0 : decode cX8_alone 0 = .ok (.aload_n 0, 1) := dc_at daX8_alone_0 0 rfl
theorem dX8_alone_1 : decode cX8_alone 1 = .ok (.iload_n 1, 1) := dc_at daX8_alone_0 1 rfl
theorem dX8_alone_2 : decode cX8_alone 2 = .ok (.invokestatic 135, 3) := dc_at daX8_alone_0 2 rfl
theorem dX8_alone_5 : decode cX8_alone 5 = .ok (.ifCond .eq 15, 3) := dc_at daX8_alone_0 3 rfl
theorem dX8_alone_8 : decode cX8_alone 8 = .ok (.iload_n 3, 1) := dc_at daX8_alone_0 4 rfl
theorem dX8_alone_9 : decode cX8_alone 9 = .ok (.iconst 0, 1) := dc_at daX8_alone_0 5 rfl
theorem dX8_alone_10 : decode cX8_alone 10 = .ok (.invokestatic 225, 3) := dc_at daX8_alone_0 6 rfl
theorem dX8_alone_13 : decode cX8_alone 13 = .ok (.ifCond .eq 7, 3) := dc_at daX8_alone_0 7 rfl
theorem dX8_alone_16 : decode cX8_alone 16 = .ok (.iconst 1, 1) := dc_at daX8_alone_0 8 rfl
theorem dX8_alone_17 : decode cX8_alone 17 = .ok (.goto 4, 3) := dc_at daX8_alone_0 9 rfl
theorem dX8_alone_20 : decode cX8_alone 20 = .ok (.iconst 0, 1) := dc_at daX8_alone_0 10 rfl
theorem dX8_alone_21 : decode cX8_alone 21 = .ok (.iload_n 2, 1) := dc_at daX8_alone_0 11 rfl
theorem dX8_alone_22 : decode cX8_alone 22 = .ok (.bipush 8, 2) := dc_at daX8_alone_0 12 rfl
theorem dX8_alone_24 : decode cX8_alone 24 = .ok (.invokevirtual 229, 3) := dc_at daX8_alone_0 13 rfl
theorem dX8_alone_27 : decode cX8_alone 27 = .ok (.istore 4, 2) := dc_at daX8_alone_0 14 rfl
theorem dX8_alone_29 : decode cX8_alone 29 = .ok (.iload 4, 2) := dc_at daX8_alone_0 15 rfl
theorem dX8_alone_31 : decode cX8_alone 31 = .ok (.ifCond .eq 6, 3) := dc_at daX8_alone_0 16 rfl
theorem dX8_alone_34 : decode cX8_alone 34 = .ok (.iload 4, 2) := dc_at daX8_alone_0 17 rfl
theorem dX8_alone_36 : decode cX8_alone 36 = .ok (.ireturn, 1) := dc_at daX8_alone_0 18 rfl
theorem dX8_alone_37 : decode cX8_alone 37 = .ok (.aload_n 0, 1) := dc_at daX8_alone_0 19 rfl
theorem dX8_alone_38 : decode cX8_alone 38 = .ok (.iconst 3, 1) := dc_at daX8_alone_0 20 rfl
theorem dX8_alone_39 : decode cX8_alone 39 = .ok (.iload_n 1, 1) := dc_at daX8_alone_0 21 rfl
theorem dX8_alone_40 : decode cX8_alone 40 = .ok (.iload_n 2, 1) := dc_at daX8_alone_0 22 rfl
theorem dX8_alone_41 : decode cX8_alone 41 = .ok (.invokevirtual 236, 3) := dc_at daX8_alone_0 23 rfl
def dlX8_alone_1 : List (Nat × Jvm.ClassFile.Instr × Nat) := [(44, .aload_n 0, 1), (45, .iload_n 2, 1), (46, .iload_n 3, 1), (47, .aload_n 0, 1), (48, .getfield 58, 3), (51, .getfield 240, 3), (54, .invokevirtual 243, 3), (57, .ireturn, 1)]
