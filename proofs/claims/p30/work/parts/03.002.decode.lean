theorem daX8_alone_1 : dlX8_alone_1.all (dcK cX8_alone) = true := by decide +kernel
theorem dX8_alone_44 : decode cX8_alone 44 = .ok (.aload_n 0, 1) := dc_at daX8_alone_1 0 rfl
theorem dX8_alone_45 : decode cX8_alone 45 = .ok (.iload_n 2, 1) := dc_at daX8_alone_1 1 rfl
theorem dX8_alone_46 : decode cX8_alone 46 = .ok (.iload_n 3, 1) := dc_at daX8_alone_1 2 rfl
theorem dX8_alone_47 : decode cX8_alone 47 = .ok (.aload_n 0, 1) := dc_at daX8_alone_1 3 rfl
theorem dX8_alone_48 : decode cX8_alone 48 = .ok (.getfield 58, 3) := dc_at daX8_alone_1 4 rfl
theorem dX8_alone_51 : decode cX8_alone 51 = .ok (.getfield 240, 3) := dc_at daX8_alone_1 5 rfl
theorem dX8_alone_54 : decode cX8_alone 54 = .ok (.invokevirtual 243, 3) := dc_at daX8_alone_1 6 rfl
theorem dX8_alone_57 : decode cX8_alone 57 = .ok (.ireturn, 1) := dc_at daX8_alone_1 7 rfl
def dlX8_pays_0 : List (Nat × Jvm.ClassFile.Instr × Nat) := [(0, .aload_n 0, 1), (1, .iload_n 1, 1), (2, .invokestatic 135, 3), (5, .iload_n 2, 1), (6, .bipush 8, 2), (8, .invokevirtual 229, 3), (11, .istore_n 3, 1), (12, .iload_n 3, 1), (13, .ifCond .eq 5, 3), (16, .iload_n 3, 1), (17, .ireturn, 1), (18, .aload_n 0, 1), (19, .iconst 1, 1), (20, .iconst (-1), 1), (21, .iload_n 2, 1), (22, .invokevirtual 236, 3), (25, .aload_n 0, 1), (26, .getfield 58, 3), (29, .getfield 240, 3), (32, .aload_n 0, 1), (33, .getfield 58, 3), (36, .iload_n 1, 1), (37, .aload_n 0, 1), (38, .getfield 51, 3)]
theorem daX8_pays_0 : dlX8_pays_0.all (dcK cX8_pays) = true := by decide +kernel
theorem dX8_pays_0 : decode cX8_pays 0 = .ok (.aload_n 0, 1) := dc_at daX8_pays_0 0 rfl
theorem dX8_pays_1 : decode cX8_pays 1 = .ok (.iload_n 1, 1) := dc_at daX8_pays_0 1 rfl
theorem dX8_pays_2 : decode cX8_pays 2 = .ok (.invokestatic 135, 3) := dc_at daX8_pays_0 2 rfl
theorem dX8_pays_5 : decode cX8_pays 5 = .ok (.iload_n 2, 1) := dc_at daX8_pays_0 3 rfl
theorem dX8_pays_6 : decode cX8_pays 6 = .ok (.bipush 8, 2) := dc_at daX8_pays_0 4 rfl
theorem dX8_pays_8 : decode cX8_pays 8 = .ok (.invokevirtual 229, 3) := dc_at daX8_pays_0 5 rfl
theorem dX8_pays_11 : decode cX8_pays 11 = .ok (.istore_n 3, 1) := dc_at daX8_pays_0 6 rfl
theorem dX8_pays_12 : decode cX8_pays 12 = .ok (.iload_n 3, 1) := dc_at daX8_pays_0 7 rfl
theorem dX8_pays_13 : decode cX8_pays 13 = .ok (.ifCond .eq 5, 3) := dc_at daX8_pays_0 8 rfl
theorem dX8_pays_16 : decode cX8_pays 16 = .ok (.iload_n 3, 1) := dc_at daX8_pays_0 9 rfl
theorem dX8_pays_17 : decode cX8_pays 17 = .ok (.ireturn, 1) := dc_at daX8_pays_0 10 rfl
theorem dX8_pays_18 : decode cX8_pays 18 = .ok (.aload_n 0, 1) := dc_at daX8_pays_0 11 rfl
theorem dX8_pays_19 : decode cX8_pays 19 = .ok (.iconst 1, 1) := dc_at daX8_pays_0 12 rfl
theorem dX8_pays_20 : decode cX8_pays 20 = .ok (.iconst (-1), 1) := dc_at daX8_pays_0 13 rfl
theorem dX8_pays_21 : decode cX8_pays 21 = .ok (.iload_n 2, 1) := dc_at daX8_pays_0 14 rfl
theorem dX8_pays_22 : decode cX8_pays 22 = .ok (.invokevirtual 236, 3) := dc_at daX8_pays_0 15 rfl
theorem dX8_pays_25 : decode cX8_pays 25 = .ok (.aload_n 0, 1) := dc_at daX8_pays_0 16 rfl
theorem dX8_pays_26 : decode cX8_pays 26 = .ok (.getfield 58, 3) := dc_at daX8_pays_0 17 rfl
theorem dX8_pays_29 : decode cX8_pays 29 = .ok (.getfield 240, 3) := dc_at daX8_pays_0 18 rfl
theorem dX8_pays_32 : decode cX8_pays 32 = .ok (.aload_n 0, 1) := dc_at daX8_pays_0 19 rfl
theorem dX8_pays_33 : decode cX8_pays 33 = .ok (.getfield 58, 3) := dc_at daX8_pays_0 20 rfl
theorem dX8_pays_36 : decode cX8_pays 36 = .ok (.iload_n 1, 1) := dc_at daX8_pays_0 21 rfl
theorem dX8_pays_37 : decode cX8_pays 37 = .ok (.aload_n 0, 1) := dc_at daX8_pays_0 22 rfl
theorem dX8_pays_38 : decode cX8_pays 38 = .ok (.getfield 51, 3) := dc_at daX8_pays_0 23 rfl
def dlX8_pays_1 : List (Nat × Jvm.ClassFile.Instr × Nat) := [(41, .getfield 253, 3), (44, .aload_n 0, 1), (45, .getfield 58, 3), (48, .getfield 257, 3), (51, .laload, 1), (52, .invokevirtual 260, 3), (55, .isub, 1), (56, .istore 4, 2), (58, .aload_n 0, 1), (59, .iconst 1, 1), (60, .iload_n 1, 1), (61, .iload_n 2, 1), (62, .invokevirtual 236, 3), (65, .aload_n 0, 1), (66, .getfield 58, 3), (69, .getfield 240, 3), (72, .iload 4, 2), (74, .isub, 1), (75, .ireturn, 1)]
theorem daX8_pays_1 : dlX8_pays_1.all (dcK cX8_pays) = true := by decide +kernel
theorem dX8_pays_41 : decode cX8_pays 41 = .ok (.getfield 253, 3) := dc_at daX8_pays_1 0 rfl
theorem dX8_pays_44 : decode cX8_pays 44 = .ok (.aload_n 0, 1) := dc_at daX8_pays_1 1 rfl
theorem dX8_pays_45 : decode cX8_pays 45 = .ok (.getfield 58, 3) := dc_at daX8_pays_1 2 rfl
theorem dX8_pays_48 : decode cX8_pays 48 = .ok (.getfield 257, 3) := dc_at daX8_pays_1 3 rfl
theorem dX8_pays_51 : decode cX8_pays 51 = .ok (.laload, 1) := dc_at daX8_pays_1 4 rfl
theorem dX8_pays_52 : decode cX8_pays 52 = .ok (.invokevirtual 260, 3) := dc_at daX8_pays_1 5 rfl
theorem dX8_pays_55 : decode cX8_pays 55 = .ok (.isub, 1) := dc_at daX8_pays_1 6 rfl
theorem dX8_pays_56 : decode cX8_pays 56 = .ok (.istore 4, 2) := dc_at daX8_pays_1 7 rfl
theorem dX8_pays_58 : decode cX8_pays 58 = .ok (.aload_n 0, 1) := dc_at daX8_pays_1 8 rfl
theorem dX8_pays_59 : decode cX8_pays 59 = .ok (.iconst 1, 1) := dc_at daX8_pays_1 9 rfl
theorem dX8_pays_60 : decode cX8_pays 60 = .ok (.iload_n 1, 1) := dc_at daX8_pays_1 10 rfl
theorem dX8_pays_61 : decode cX8_pays 61 = .ok (.iload_n 2, 1) := dc_at daX8_pays_1 11 rfl
theorem dX8_pays_62 : decode cX8_pays 62 = .ok (.invokevirtual 236, 3) := dc_at daX8_pays_1 12 rfl
theorem dX8_pays_65 : decode cX8_pays 65 = .ok (.aload_n 0, 1) := dc_at daX8_pays_1 13 rfl
theorem dX8_pays_66 : decode cX8_pays 66 = .ok (.getfield 58, 3) := dc_at daX8_pays_1 14 rfl
theorem dX8_pays_69 : decode cX8_pays 69 = .ok (.getfield 240, 3) := dc_at daX8_pays_1 15 rfl
theorem dX8_pays_72 : decode cX8_pays 72 = .ok (.iload 4, 2) := dc_at daX8_pays_1 16 rfl
theorem dX8_pays_74 : decode cX8_pays 74 = .ok (.isub, 1) := dc_at daX8_pays_1 17 rfl
theorem dX8_pays_75 : decode cX8_pays 75 = .ok (.ireturn, 1) := dc_at daX8_pays_1 18 rfl
def dlX8_shifted_0 : List (Nat × Jvm.ClassFile.Instr × Nat) := [(0, .aload_n 0, 1), (1, .iload_n 2, 1), (2, .ifCond .lt 12, 3), (5, .iload_n 2, 1), (6, .iconst 2, 1), (7, .if_icmp .gt 7, 3), (10, .iconst 1, 1), (11, .goto 4, 3), (14, .iconst 0, 1), (15, .iload_n 1, 1), (16, .iconst 5, 1), (17, .invokevirtual 229, 3), (20, .istore_n 3, 1), (21, .iload_n 3, 1), (22, .ifCond .eq 5, 3), (25, .iload_n 3, 1), (26, .ireturn, 1), (27, .aload_n 0, 1), (28, .iconst 0, 1), (29, .iconst (-1), 1), (30, .iload_n 1, 1), (31, .invokevirtual 236, 3), (34, .aload_n 0, 1), (35, .getfield 58, 3)]
theorem daX8_shifted_0 : dlX8_shifted_0.all (dcK cX8_shifted) = true := by decide +kernel
theorem dX8_shifted_0 : decode cX8_shifted 0 = .ok (.aload_n 0, 1) := dc_at daX8_shifted_0 0 rfl
theorem dX8_shifted_1 : decode cX8_shifted 1 = .ok (.iload_n 2, 1) := dc_at daX8_shifted_0 1 rfl
theorem dX8_shifted_2 : decode cX8_shifted 2 = .ok (.ifCond .lt 12, 3) := dc_at daX8_shifted_0 2 rfl
theorem dX8_shifted_5 : decode cX8_shifted 5 = .ok (.iload_n 2, 1) := dc_at daX8_shifted_0 3 rfl
theorem dX8_shifted_6 : decode cX8_shifted 6 = .ok (.iconst 2, 1) := dc_at daX8_shifted_0 4 rfl
theorem dX8_shifted_7 : decode cX8_shifted 7 = .ok (.if_icmp .gt 7, 3) := dc_at daX8_shifted_0 5 rfl
theorem dX8_shifted_10 : decode cX8_shifted 10 = .ok (.iconst 1, 1) := dc_at daX8_shifted_0 6 rfl
theorem dX8_shifted_11 : decode cX8_shifted 11 = .ok (.goto 4, 3) := dc_at daX8_shifted_0 7 rfl
theorem dX8_shifted_14 : decode cX8_shifted 14 = .ok (.iconst 0, 1) := dc_at daX8_shifted_0 8 rfl
theorem dX8_shifted_15 : decode cX8_shifted 15 = .ok (.iload_n 1, 1) := dc_at daX8_shifted_0 9 rfl
theorem dX8_shifted_16 : decode cX8_shifted 16 = .ok (.iconst 5, 1) := dc_at daX8_shifted_0 10 rfl
theorem dX8_shifted_17 : decode cX8_shifted 17 = .ok (.invokevirtual 229, 3) := dc_at daX8_shifted_0 11 rfl
theorem dX8_shifted_20 : decode cX8_shifted 20 = .ok (.istore_n 3, 1) := dc_at daX8_shifted_0 12 rfl
theorem dX8_shifted_21 : decode cX8_shifted 21 = .ok (.iload_n 3, 1) := dc_at daX8_shifted_0 13 rfl
theorem dX8_shifted_22 : decode cX8_shifted 22 = .ok (.ifCond .eq 5, 3) := dc_at daX8_shifted_0 14 rfl
theorem dX8_shifted_25 : decode cX8_shifted 25 = .ok (.iload_n 3, 1) := dc_at daX8_shifted_0 15 rfl
theorem dX8_shifted_26 : decode cX8_shifted 26 = .ok (.ireturn, 1) := dc_at daX8_shifted_0 16 rfl
theorem dX8_shifted_27 : decode cX8_shifted 27 = .ok (.aload_n 0, 1) := dc_at daX8_shifted_0 17 rfl
theorem dX8_shifted_28 : decode cX8_shifted 28 = .ok (.iconst 0, 1) := dc_at daX8_shifted_0 18 rfl
theorem dX8_shifted_29 : decode cX8_shifted 29 = .ok (.iconst (-1), 1) := dc_at daX8_shifted_0 19 rfl
theorem dX8_shifted_30 : decode cX8_shifted 30 = .ok (.iload_n 1, 1) := dc_at daX8_shifted_0 20 rfl
theorem dX8_shifted_31 : decode cX8_shifted 31 = .ok (.invokevirtual 236, 3) := dc_at daX8_shifted_0 21 rfl
theorem dX8_shifted_34 : decode cX8_shifted 34 = .ok (.aload_n 0, 1) := dc_at daX8_shifted_0 22 rfl
theorem dX8_shifted_35 : decode cX8_shifted 35 = .ok (.getfield 58, 3) := dc_at daX8_shifted_0 23 rfl
def dlX8_shifted_1 : List (Nat × Jvm.ClassFile.Instr × Nat) := [(38, .getfield 240, 3), (41, .istore 4, 2), (43, .aload_n 0, 1), (44, .getfield 65, 3), (47, .aload_n 0, 1), (48, .getfield 58, 3), (51, .aload_n 0, 1), (52, .getfield 51, 3), (55, .aload_n 0, 1), (56, .iload_n 1, 1), (57, .invokevirtual 233, 3), (60, .invokevirtual 263, 3), (63, .iconst 0, 1), (64, .istore 5, 2), (66, .iconst (-1), 1), (67, .istore 6, 2), (69, .iconst 0, 1), (70, .istore 7, 2), (72, .iload 7, 2), (74, .sipush 256, 3), (77, .if_icmp .ge 63, 3), (80, .aload_n 0, 1), (81, .iload 7, 2), (83, .bipush 16, 2)]
theorem daX8_shifted_1 : dlX8_shifted_1.all (dcK cX8_shifted) = true := by decide +kernel
theorem dX8_shifted_38 : decode cX8_shifted 38 = .ok (.getfield 240, 3) := dc_at daX8_shifted_1 0 rfl
theorem dX8_shifted_41 : decode cX8_shifted 41 = .ok (.istore 4, 2) := dc_at daX8_shifted_1 1 rfl
theorem dX8_shifted_43 : decode cX8_shifted 43 = .ok (.aload_n 0, 1) := dc_at daX8_shifted_1 2 rfl
theorem dX8_shifted_44 : decode cX8_shifted 44 = .ok (.getfield 65, 3) := dc_at daX8_shifted_1 3 rfl
theorem dX8_shifted_47 : decode cX8_shifted 47 = .ok (.aload_n 0, 1) := dc_at daX8_shifted_1 4 rfl
theorem dX8_shifted_48 : decode cX8_shifted 48 = .ok (.getfield 58, 3) := dc_at daX8_shifted_1 5 rfl
theorem dX8_shifted_51 : decode cX8_shifted 51 = .ok (.aload_n 0, 1) := dc_at daX8_shifted_1 6 rfl
theorem dX8_shifted_52 : decode cX8_shifted 52 = .ok (.getfield 51, 3) := dc_at daX8_shifted_1 7 rfl
theorem dX8_shifted_55 : decode cX8_shifted 55 = .ok (.aload_n 0, 1) := dc_at daX8_shifted_1 8 rfl
theorem dX8_shifted_56 : decode cX8_shifted 56 = .ok (.iload_n 1, 1) := dc_at daX8_shifted_1 9 rfl
theorem dX8_shifted_57 : decode cX8_shifted 57 = .ok (.invokevirtual 233, 3) := dc_at daX8_shifted_1 10 rfl
theorem dX8_shifted_60 : decode cX8_shifted 60 = .ok (.invokevirtual 263, 3) := dc_at daX8_shifted_1 11 rfl
theorem dX8_shifted_63 : decode cX8_shifted 63 = .ok (.iconst 0, 1) := dc_at daX8_shifted_1 12 rfl
theorem dX8_shifted_64 : decode cX8_shifted 64 = .ok (.istore 5, 2) := dc_at daX8_shifted_1 13 rfl
theorem dX8_shifted_66 : decode cX8_shifted 66 = .ok (.iconst (-1), 1) := dc_at daX8_shifted_1 14 rfl
theorem dX8_shifted_67 : decode cX8_shifted 67 = .ok (.istore 6, 2) := dc_at daX8_shifted_1 15 rfl
theorem dX8_shifted_69 : decode cX8_shifted 69 = .ok (.iconst 0, 1) := dc_at daX8_shifted_1 16 rfl
theorem dX8_shifted_70 : decode cX8_shifted 70 = .ok (.istore 7, 2) := dc_at daX8_shifted_1 17 rfl
theorem dX8_shifted_72 : decode cX8_shifted 72 = .ok (.iload 7, 2) := dc_at daX8_shifted_1 18 rfl
theorem dX8_shifted_74 : decode cX8_shifted 74 = .ok (.sipush 256, 3) := dc_at daX8_shifted_1 19 rfl
theorem dX8_shifted_77 : decode cX8_shifted 77 = .ok (.if_icmp .ge 63, 3) := dc_at daX8_shifted_1 20 rfl
theorem dX8_shifted_80 : decode cX8_shifted 80 = .ok (.aload_n 0, 1) := dc_at daX8_shifted_1 21 rfl
theorem dX8_shifted_81 : decode cX8_shifted 81 = .ok (.iload 7, 2) := dc_at daX8_shifted_1 22 rfl
theorem dX8_shifted_83 : decode cX8_shifted 83 = .ok (.bipush 16, 2) := dc_at daX8_shifted_1 23 rfl
def dlX8_shifted_2 : List (Nat × Jvm.ClassFile.Instr × Nat) := [(85, .idiv, 1), (86, .iload 7, 2), (88, .bipush 16, 2), (90, .irem, 1), (91, .invokevirtual 267, 3), (94, .ifCond .eq 40, 3), (97, .aload_n 0, 1), (98, .getfield 65, 3), (101, .getfield 270, 3), (104, .iload 7, 2), (106, .iaload, 1), (107, .iload 4, 2), (109, .isub, 1), (110, .iload 5, 2), (112, .if_icmp .le 22, 3), (115, .aload_n 0, 1), (116, .getfield 65, 3), (119, .getfield 270, 3), (122, .iload 7, 2), (124, .iaload, 1), (125, .iload 4, 2), (127, .isub, 1), (128, .istore 5, 2), (130, .iload 7, 2)]
theorem daX8_shifted_2 : dlX8_shifted_2.all (dcK cX8_shifted) = true := by decide +kernel
theorem dX8_shifted_85 : decode cX8_shifted 85 = .ok (.idiv, 1) := dc_at daX8_shifted_2 0 rfl
theorem dX8_shifted_86 : decode cX8_shifted 86 = .ok (.iload 7, 2) := dc_at daX8_shifted_2 1 rfl
theorem dX8_shifted_88 : decode cX8_shifted 88 = .ok (.bipush 16, 2) := dc_at daX8_shifted_2 2 rfl
theorem dX8_shifted_90 : decode cX8_shifted 90 = .ok (.irem, 1) := dc_at daX8_shifted_2 3 rfl
theorem dX8_shifted_91 : decode cX8_shifted 91 = .ok (.invokevirtual 267, 3) := dc_at daX8_shifted_2 4 rfl
theorem dX8_shifted_94 : decode cX8_shifted 94 = .ok (.ifCond .eq 40, 3) := dc_at daX8_shifted_2 5 rfl
theorem dX8_shifted_97 : decode cX8_shifted 97 = .ok (.aload_n 0, 1) := dc_at daX8_shifted_2 6 rfl
theorem dX8_shifted_98 : decode cX8_shifted 98 = .ok (.getfield 65, 3) := dc_at daX8_shifted_2 7 rfl
theorem dX8_shifted_101 : decode cX8_shifted 101 = .ok (.getfield 270, 3) := dc_at daX8_shifted_2 8 rfl
theorem dX8_shifted_104 : decode cX8_shifted 104 = .ok (.iload 7, 2) := dc_at daX8_shifted_2 9 rfl
theorem dX8_shifted_106 : decode cX8_shifted 106 = .ok (.iaload, 1) := dc_at daX8_shifted_2 10 rfl
theorem dX8_shifted_107 : decode cX8_shifted 107 = .ok (.iload 4, 2) := dc_at daX8_shifted_2 11 rfl
theorem dX8_shifted_109 : decode cX8_shifted 109 = .ok (.isub, 1) := dc_at daX8_shifted_2 12 rfl
theorem dX8_shifted_110 : decode cX8_shifted 110 = .ok (.iload 5, 2) := dc_at daX8_shifted_2 13 rfl
theorem dX8_shifted_112 : decode cX8_shifted 112 = .ok (.if_icmp .le 22, 3) := dc_at daX8_shifted_2 14 rfl
theorem dX8_shifted_115 : decode cX8_shifted 115 = .ok (.aload_n 0, 1) := dc_at daX8_shifted_2 15 rfl
theorem dX8_shifted_116 : decode cX8_shifted 116 = .ok (.getfield 65, 3) := dc_at daX8_shifted_2 16 rfl
theorem dX8_shifted_119 : decode cX8_shifted 119 = .ok (.getfield 270, 3) := dc_at daX8_shifted_2 17 rfl
theorem dX8_shifted_122 : decode cX8_shifted 122 = .ok (.iload 7, 2) := dc_at daX8_shifted_2 18 rfl
theorem dX8_shifted_124 : decode cX8_shifted 124 = .ok (.iaload, 1) := dc_at daX8_shifted_2 19 rfl
theorem dX8_shifted_125 : decode cX8_shifted 125 = .ok (.iload 4, 2) := dc_at daX8_shifted_2 20 rfl
theorem dX8_shifted_127 : decode cX8_shifted 127 = .ok (.isub, 1) := dc_at daX8_shifted_2 21 rfl
theorem dX8_shifted_128 : decode cX8_shifted 128 = .ok (.istore 5, 2) := dc_at daX8_shifted_2 22 rfl
theorem dX8_shifted_130 : decode cX8_shifted 130 = .ok (.iload 7, 2) := dc_at daX8_shifted_2 23 rfl
def dlX8_shifted_3 : List (Nat × Jvm.ClassFile.Instr × Nat) := [(132, .istore 6, 2), (134, .iinc 7 1, 3), (137, .goto (-65), 3), (140, .iload_n 2, 1), (141, .ifCond .ne 6, 3), (144, .iload 5, 2), (146, .ireturn, 1), (147, .iload 6, 2), (149, .iconst (-1), 1), (150, .if_icmp .ne 5, 3), (153, .iconst (-1), 1), (154, .ireturn, 1), (155, .iload_n 2, 1), (156, .iconst 1, 1), (157, .if_icmp .ne 11, 3), (160, .iload 6, 2), (162, .bipush 16, 2), (164, .idiv, 1), (165, .goto 8, 3), (168, .iload 6, 2), (170, .bipush 16, 2), (172, .irem, 1), (173, .ireturn, 1)]
theorem daX8_shifted_3 : dlX8_shifted_3.all (dcK cX8_shifted) = true := by decide +kernel
theorem dX8_shifted_132 : decode cX8_shifted 132 = .ok (.istore 6, 2) := dc_at daX8_shifted_3 0 rfl
theorem dX8_shifted_134 : decode cX8_shifted 134 = .ok (.iinc 7 1, 3) := dc_at daX8_shifted_3 1 rfl
theorem dX8_shifted_137 : decode cX8_shifted 137 = .ok (.goto (-65), 3) := dc_at daX8_shifted_3 2 rfl
theorem dX8_shifted_140 : decode cX8_shifted 140 = .ok (.iload_n 2, 1) := dc_at daX8_shifted_3 3 rfl
theorem dX8_shifted_141 : decode cX8_shifted 141 = .ok (.ifCond .ne 6, 3) := dc_at daX8_shifted_3 4 rfl
theorem dX8_shifted_144 : decode cX8_shifted 144 = .ok (.iload 5, 2) := dc_at daX8_shifted_3 5 rfl
theorem dX8_shifted_146 : decode cX8_shifted 146 = .ok (.ireturn, 1) := dc_at daX8_shifted_3 6 rfl
theorem dX8_shifted_147 : decode cX8_shifted 147 = .ok (.iload 6, 2) := dc_at daX8_shifted_3 7 rfl
theorem dX8_shifted_149 : decode cX8_shifted 149 = .ok (.iconst (-1), 1) := dc_at daX8_shifted_3 8 rfl
theorem dX8_shifted_150 : decode cX8_shifted 150 = .ok (.if_icmp .ne 5, 3) := dc_at daX8_shifted_3 9 rfl
theorem dX8_shifted_153 : decode cX8_shifted 153 = .ok (.iconst (-1), 1) := dc_at daX8_shifted_3 10 rfl
theorem dX8_shifted_154 : decode cX8_shifted 154 = .ok (.ireturn, 1) := dc_at daX8_shifted_3 11 rfl
theorem dX8_shifted_155 : decode cX8_shifted 155 = .ok (.iload_n 2, 1) := dc_at daX8_shifted_3 12 rfl
theorem dX8_shifted_156 : decode cX8_shifted 156 = .ok (.iconst 1, 1) := dc_at daX8_shifted_3 13 rfl
theorem dX8_shifted_157 : decode cX8_shifted 157 = .ok (.if_icmp .ne 11, 3) := dc_at daX8_shifted_3 14 rfl
theorem dX8_shifted_160 : decode cX8_shifted 160 = .ok (.iload 6, 2) := dc_at daX8_shifted_3 15 rfl
theorem dX8_shifted_162 : decode cX8_shifted 162 = .ok (.bipush 16, 2) := dc_at daX8_shifted_3 16 rfl
theorem dX8_shifted_164 : decode cX8_shifted 164 = .ok (.idiv, 1) := dc_at daX8_shifted_3 17 rfl
theorem dX8_shifted_165 : decode cX8_shifted 165 = .ok (.goto 8, 3) := dc_at daX8_shifted_3 18 rfl
theorem dX8_shifted_168 : decode cX8_shifted 168 = .ok (.iload 6, 2) := dc_at daX8_shifted_3 19 rfl
theorem dX8_shifted_170 : decode cX8_shifted 170 = .ok (.bipush 16, 2) := dc_at daX8_shifted_3 20 rfl
theorem dX8_shifted_172 : decode cX8_shifted 172 = .ok (.irem, 1) := dc_at daX8_shifted_3 21 rfl
theorem dX8_shifted_173 : decode cX8_shifted 173 = .ok (.ireturn, 1) := dc_at daX8_shifted_3 22 rfl
def dlX8_felled_0 : List (Nat × Jvm.ClassFile.Instr × Nat) := [(0, .aload_n 0, 1), (1, .iload_n 2, 1), (2, .ifCond .eq 8, 3), (5, .iload_n 2, 1), (6, .iconst 1, 1), (7, .if_icmp .ne 7, 3), (10, .iconst 1, 1), (11, .goto 4, 3), (14, .iconst 0, 1), (15, .iload_n 1, 1), (16, .bipush 6, 2), (18, .invokevirtual 229, 3), (21, .istore_n 3, 1), (22, .iload_n 3, 1), (23, .ifCond .eq 5, 3), (26, .iload_n 3, 1), (27, .ireturn, 1), (28, .aload_n 0, 1), (29, .iconst 0, 1), (30, .iconst (-1), 1), (31, .iload_n 1, 1), (32, .invokevirtual 236, 3), (35, .aload_n 0, 1), (36, .getfield 58, 3)]
theorem daX8_felled_0 : dlX8_felled_0.all (dcK cX8_felled) = true := by decide +kernel
theorem dX8_felled_0 : decode cX8_felled 0 = .ok (.aload_n 0, 1) := dc_at daX8_felled_0 0 rfl
theorem dX8_felled_1 : decode cX8_felled 1 = .ok (.iload_n 2, 1) := dc_at daX8_felled_0 1 rfl
theorem dX8_felled_2 : decode cX8_felled 2 = .ok (.ifCond .eq 8, 3) := dc_at daX8_felled_0 2 rfl
theorem dX8_felled_5 : decode cX8_felled 5 = .ok (.iload_n 2, 1) := dc_at daX8_felled_0 3 rfl
theorem dX8_felled_6 : decode cX8_felled 6 = .ok (.iconst 1, 1) := dc_at daX8_felled_0 4 rfl
theorem dX8_felled_7 : decode cX8_felled 7 = .ok (.if_icmp .ne 7, 3) := dc_at daX8_felled_0 5 rfl
theorem dX8_felled_10 : decode cX8_felled 10 = .ok (.iconst 1, 1) := dc_at daX8_felled_0 6 rfl
theorem dX8_felled_11 : decode cX8_felled 11 = .ok (.goto 4, 3) := dc_at daX8_felled_0 7 rfl
theorem dX8_felled_14 : decode cX8_felled 14 = .ok (.iconst 0, 1) := dc_at daX8_felled_0 8 rfl
theorem dX8_felled_15 : decode cX8_felled 15 = .ok (.iload_n 1, 1) := dc_at daX8_felled_0 9 rfl
theorem dX8_felled_16 : decode cX8_felled 16 = .ok (.bipush 6, 2) := dc_at daX8_felled_0 10 rfl
theorem dX8_felled_18 : decode cX8_felled 18 = .ok (.invokevirtual 229, 3) := dc_at daX8_felled_0 11 rfl
theorem dX8_felled_21 : decode cX8_felled 21 = .ok (.istore_n 3, 1) := dc_at daX8_felled_0 12 rfl
theorem dX8_felled_22 : decode cX8_felled 22 = .ok (.iload_n 3, 1) := dc_at daX8_felled_0 13 rfl
theorem dX8_felled_23 : decode cX8_felled 23 = .ok (.ifCond .eq 5, 3) := dc_at daX8_felled_0 14 rfl
theorem dX8_felled_26 : decode cX8_felled 26 = .ok (.iload_n 3, 1) := dc_at daX8_felled_0 15 rfl
theorem dX8_felled_27 : decode cX8_felled 27 = .ok (.ireturn, 1) := dc_at daX8_felled_0 16 rfl
theorem dX8_felled_28 : decode cX8_felled 28 = .ok (.aload_n 0, 1) := dc_at daX8_felled_0 17 rfl
theorem dX8_felled_29 : decode cX8_felled 29 = .ok (.iconst 0, 1) := dc_at daX8_felled_0 18 rfl
theorem dX8_felled_30 : decode cX8_felled 30 = .ok (.iconst (-1), 1) := dc_at daX8_felled_0 19 rfl
theorem dX8_felled_31 : decode cX8_felled 31 = .ok (.iload_n 1, 1) := dc_at daX8_felled_0 20 rfl
theorem dX8_felled_32 : decode cX8_felled 32 = .ok (.invokevirtual 236, 3) := dc_at daX8_felled_0 21 rfl
theorem dX8_felled_35 : decode cX8_felled 35 = .ok (.aload_n 0, 1) := dc_at daX8_felled_0 22 rfl
theorem dX8_felled_36 : decode cX8_felled 36 = .ok (.getfield 58, 3) := dc_at daX8_felled_0 23 rfl
def dlX8_felled_1 : List (Nat × Jvm.ClassFile.Instr × Nat) := [(39, .getfield 240, 3), (42, .istore 4, 2), (44, .iload 4, 2), (46, .istore 5, 2), (48, .iconst (-1), 1), (49, .istore 6, 2), (51, .aload_n 0, 1), (52, .getfield 31, 3), (55, .aload_n 0, 1), (56, .getfield 27, 3), (59, .invokevirtual 95, 3), (62, .iconst 0, 1), (63, .istore 7, 2), (65, .iload 7, 2), (67, .aload_n 0, 1), (68, .getfield 27, 3), (71, .getfield 161, 3), (74, .if_icmp .ge 109, 3), (77, .aload_n 0, 1), (78, .getfield 27, 3), (81, .getfield 119, 3), (84, .iload 7, 2), (86, .iaload, 1), (87, .ifCond .le 90, 3)]
theorem daX8_felled_1 : dlX8_felled_1.all (dcK cX8_felled) = true := by decide +kernel
theorem dX8_felled_39 : decode cX8_felled 39 = .ok (.getfield 240, 3) := dc_at daX8_felled_1 0 rfl
theorem dX8_felled_42 : decode cX8_felled 42 = .ok (.istore 4, 2) := dc_at daX8_felled_1 1 rfl
theorem dX8_felled_44 : decode cX8_felled 44 = .ok (.iload 4, 2) := dc_at daX8_felled_1 2 rfl
theorem dX8_felled_46 : decode cX8_felled 46 = .ok (.istore 5, 2) := dc_at daX8_felled_1 3 rfl
theorem dX8_felled_48 : decode cX8_felled 48 = .ok (.iconst (-1), 1) := dc_at daX8_felled_1 4 rfl
theorem dX8_felled_49 : decode cX8_felled 49 = .ok (.istore 6, 2) := dc_at daX8_felled_1 5 rfl
theorem dX8_felled_51 : decode cX8_felled 51 = .ok (.aload_n 0, 1) := dc_at daX8_felled_1 6 rfl
theorem dX8_felled_52 : decode cX8_felled 52 = .ok (.getfield 31, 3) := dc_at daX8_felled_1 7 rfl
theorem dX8_felled_55 : decode cX8_felled 55 = .ok (.aload_n 0, 1) := dc_at daX8_felled_1 8 rfl
theorem dX8_felled_56 : decode cX8_felled 56 = .ok (.getfield 27, 3) := dc_at daX8_felled_1 9 rfl
theorem dX8_felled_59 : decode cX8_felled 59 = .ok (.invokevirtual 95, 3) := dc_at daX8_felled_1 10 rfl
theorem dX8_felled_62 : decode cX8_felled 62 = .ok (.iconst 0, 1) := dc_at daX8_felled_1 11 rfl
theorem dX8_felled_63 : decode cX8_felled 63 = .ok (.istore 7, 2) := dc_at daX8_felled_1 12 rfl
theorem dX8_felled_65 : decode cX8_felled 65 = .ok (.iload 7, 2) := dc_at daX8_felled_1 13 rfl
theorem dX8_felled_67 : decode cX8_felled 67 = .ok (.aload_n 0, 1) := dc_at daX8_felled_1 14 rfl
theorem dX8_felled_68 : decode cX8_felled 68 = .ok (.getfield 27, 3) := dc_at daX8_felled_1 15 rfl
theorem dX8_felled_71 : decode cX8_felled 71 = .ok (.getfield 161, 3) := dc_at daX8_felled_1 16 rfl
theorem dX8_felled_74 : decode cX8_felled 74 = .ok (.if_icmp .ge 109, 3) := dc_at daX8_felled_1 17 rfl
theorem dX8_felled_77 : decode cX8_felled 77 = .ok (.aload_n 0, 1) := dc_at daX8_felled_1 18 rfl
theorem dX8_felled_78 : decode cX8_felled 78 = .ok (.getfield 27, 3) := dc_at daX8_felled_1 19 rfl
theorem dX8_felled_81 : decode cX8_felled 81 = .ok (.getfield 119, 3) := dc_at daX8_felled_1 20 rfl
theorem dX8_felled_84 : decode cX8_felled 84 = .ok (.iload 7, 2) := dc_at daX8_felled_1 21 rfl
theorem dX8_felled_86 : decode cX8_felled 86 = .ok (.iaload, 1) := dc_at daX8_felled_1 22 rfl
theorem dX8_felled_87 : decode cX8_felled 87 = .ok (.ifCond .le 90, 3) := dc_at daX8_felled_1 23 rfl
def dlX8_felled_2 : List (Nat × Jvm.ClassFile.Instr × Nat) := [(90, .aload_n 0, 1), (91, .getfield 31, 3), (94, .getfield 119, 3), (97, .iload 7, 2), (99, .iconst 0, 1), (100, .iastore, 1), (101, .aload_n 0, 1), (102, .getfield 58, 3), (105, .aload_n 0, 1), (106, .getfield 31, 3), (109, .iconst 0, 1), (110, .iconst (-1), 1), (111, .invokevirtual 273, 3), (114, .aload_n 0, 1), (115, .getfield 31, 3), (118, .getfield 119, 3), (121, .iload 7, 2), (123, .aload_n 0, 1), (124, .getfield 27, 3), (127, .getfield 119, 3), (130, .iload 7, 2), (132, .iaload, 1), (133, .iastore, 1), (134, .aload_n 0, 1)]
theorem daX8_felled_2 : dlX8_felled_2.all (dcK cX8_felled) = true := by decide +kernel
theorem dX8_felled_90 : decode cX8_felled 90 = .ok (.aload_n 0, 1) := dc_at daX8_felled_2 0 rfl
theorem dX8_felled_91 : decode cX8_felled 91 = .ok (.getfield 31, 3) := dc_at daX8_felled_2 1 rfl
theorem dX8_felled_94 : decode cX8_felled 94 = .ok (.getfield 119, 3) := dc_at daX8_felled_2 2 rfl
theorem dX8_felled_97 : decode cX8_felled 97 = .ok (.iload 7, 2) := dc_at daX8_felled_2 3 rfl
theorem dX8_felled_99 : decode cX8_felled 99 = .ok (.iconst 0, 1) := dc_at daX8_felled_2 4 rfl
theorem dX8_felled_100 : decode cX8_felled 100 = .ok (.iastore, 1) := dc_at daX8_felled_2 5 rfl
theorem dX8_felled_101 : decode cX8_felled 101 = .ok (.aload_n 0, 1) := dc_at daX8_felled_2 6 rfl
theorem dX8_felled_102 : decode cX8_felled 102 = .ok (.getfield 58, 3) := dc_at daX8_felled_2 7 rfl
theorem dX8_felled_105 : decode cX8_felled 105 = .ok (.aload_n 0, 1) := dc_at daX8_felled_2 8 rfl
theorem dX8_felled_106 : decode cX8_felled 106 = .ok (.getfield 31, 3) := dc_at daX8_felled_2 9 rfl
theorem dX8_felled_109 : decode cX8_felled 109 = .ok (.iconst 0, 1) := dc_at daX8_felled_2 10 rfl
theorem dX8_felled_110 : decode cX8_felled 110 = .ok (.iconst (-1), 1) := dc_at daX8_felled_2 11 rfl
theorem dX8_felled_111 : decode cX8_felled 111 = .ok (.invokevirtual 273, 3) := dc_at daX8_felled_2 12 rfl
theorem dX8_felled_114 : decode cX8_felled 114 = .ok (.aload_n 0, 1) := dc_at daX8_felled_2 13 rfl
theorem dX8_felled_115 : decode cX8_felled 115 = .ok (.getfield 31, 3) := dc_at daX8_felled_2 14 rfl
theorem dX8_felled_118 : decode cX8_felled 118 = .ok (.getfield 119, 3) := dc_at daX8_felled_2 15 rfl
theorem dX8_felled_121 : decode cX8_felled 121 = .ok (.iload 7, 2) := dc_at daX8_felled_2 16 rfl
theorem dX8_felled_123 : decode cX8_felled 123 = .ok (.aload_n 0, 1) := dc_at daX8_felled_2 17 rfl
theorem dX8_felled_124 : decode cX8_felled 124 = .ok (.getfield 27, 3) := dc_at daX8_felled_2 18 rfl
theorem dX8_felled_127 : decode cX8_felled 127 = .ok (.getfield 119, 3) := dc_at daX8_felled_2 19 rfl
theorem dX8_felled_130 : decode cX8_felled 130 = .ok (.iload 7, 2) := dc_at daX8_felled_2 20 rfl
theorem dX8_felled_132 : decode cX8_felled 132 = .ok (.iaload, 1) := dc_at daX8_felled_2 21 rfl
theorem dX8_felled_133 : decode cX8_felled 133 = .ok (.iastore, 1) := dc_at daX8_felled_2 22 rfl
theorem dX8_felled_134 : decode cX8_felled 134 = .ok (.aload_n 0, 1) := dc_at daX8_felled_2 23 rfl
def dlX8_felled_3 : List (Nat × Jvm.ClassFile.Instr × Nat) := [(135, .getfield 58, 3), (138, .aload_n 0, 1), (139, .getfield 51, 3), (142, .aload_n 0, 1), (143, .iload_n 1, 1), (144, .invokevirtual 233, 3), (147, .iload 5, 2), (149, .invokevirtual 277, 3), (152, .aload_n 0, 1), (153, .getfield 58, 3), (156, .getfield 240, 3), (159, .iload 5, 2), (161, .if_icmp .le 16, 3), (164, .aload_n 0, 1), (165, .getfield 58, 3), (168, .getfield 240, 3), (171, .istore 5, 2), (173, .iload 7, 2), (175, .istore 6, 2), (177, .iinc 7 1, 3), (180, .goto (-115), 3), (183, .iload_n 2, 1), (184, .ifCond .ne 11, 3), (187, .iload 5, 2)]
theorem daX8_felled_3 : dlX8_felled_3.all (dcK cX8_felled) = true := by decide +kernel
theorem dX8_felled_135 : decode cX8_felled 135 = .ok (.getfield 58, 3) := dc_at daX8_felled_3 0 rfl
theorem dX8_felled_138 : decode cX8_felled 138 = .ok (.aload_n 0, 1) := dc_at daX8_felled_3 1 rfl
theorem dX8_felled_139 : decode cX8_felled 139 = .ok (.getfield 51, 3) := dc_at daX8_felled_3 2 rfl
theorem dX8_felled_142 : decode cX8_felled 142 = .ok (.aload_n 0, 1) := dc_at daX8_felled_3 3 rfl
theorem dX8_felled_143 : decode cX8_felled 143 = .ok (.iload_n 1, 1) := dc_at daX8_felled_3 4 rfl
theorem dX8_felled_144 : decode cX8_felled 144 = .ok (.invokevirtual 233, 3) := dc_at daX8_felled_3 5 rfl
theorem dX8_felled_147 : decode cX8_felled 147 = .ok (.iload 5, 2) := dc_at daX8_felled_3 6 rfl
theorem dX8_felled_149 : decode cX8_felled 149 = .ok (.invokevirtual 277, 3) := dc_at daX8_felled_3 7 rfl
theorem dX8_felled_152 : decode cX8_felled 152 = .ok (.aload_n 0, 1) := dc_at daX8_felled_3 8 rfl
theorem dX8_felled_153 : decode cX8_felled 153 = .ok (.getfield 58, 3) := dc_at daX8_felled_3 9 rfl
theorem dX8_felled_156 : decode cX8_felled 156 = .ok (.getfield 240, 3) := dc_at daX8_felled_3 10 rfl
theorem dX8_felled_159 : decode cX8_felled 159 = .ok (.iload 5, 2) := dc_at daX8_felled_3 11 rfl
theorem dX8_felled_161 : decode cX8_felled 161 = .ok (.if_icmp .le 16, 3) := dc_at daX8_felled_3 12 rfl
theorem dX8_felled_164 : decode cX8_felled 164 = .ok (.aload_n 0, 1) := dc_at daX8_felled_3 13 rfl
theorem dX8_felled_165 : decode cX8_felled 165 = .ok (.getfield 58, 3) := dc_at daX8_felled_3 14 rfl
theorem dX8_felled_168 : decode cX8_felled 168 = .ok (.getfield 240, 3) := dc_at daX8_felled_3 15 rfl
theorem dX8_felled_171 : decode cX8_felled 171 = .ok (.istore 5, 2) := dc_at daX8_felled_3 16 rfl
theorem dX8_felled_173 : decode cX8_felled 173 = .ok (.iload 7, 2) := dc_at daX8_felled_3 17 rfl
theorem dX8_felled_175 : decode cX8_felled 175 = .ok (.istore 6, 2) := dc_at daX8_felled_3 18 rfl
theorem dX8_felled_177 : decode cX8_felled 177 = .ok (.iinc 7 1, 3) := dc_at daX8_felled_3 19 rfl
theorem dX8_felled_180 : decode cX8_felled 180 = .ok (.goto (-115), 3) := dc_at daX8_felled_3 20 rfl
theorem dX8_felled_183 : decode cX8_felled 183 = .ok (.iload_n 2, 1) := dc_at daX8_felled_3 21 rfl
theorem dX8_felled_184 : decode cX8_felled 184 = .ok (.ifCond .ne 11, 3) := dc_at daX8_felled_3 22 rfl
theorem dX8_felled_187 : decode cX8_felled 187 = .ok (.iload 5, 2) := dc_at daX8_felled_3 23 rfl
def dlX8_felled_4 : List (Nat × Jvm.ClassFile.Instr × Nat) := [(189, .iload 4, 2), (191, .isub, 1), (192, .goto 5, 3), (195, .iload 6, 2), (197, .ireturn, 1)]
theorem daX8_felled_4 : dlX8_felled_4.all (dcK cX8_felled) = true := by decide +kernel
theorem dX8_felled_189 : decode cX8_felled 189 = .ok (.iload 4, 2) := dc_at daX8_felled_4 0 rfl
theorem dX8_felled_191 : decode cX8_felled 191 = .ok (.isub, 1) := dc_at daX8_felled_4 1 rfl
theorem dX8_felled_192 : decode cX8_felled 192 = .ok (.goto 5, 3) := dc_at daX8_felled_4 2 rfl
theorem dX8_felled_195 : decode cX8_felled 195 = .ok (.iload 6, 2) := dc_at daX8_felled_4 3 rfl
theorem dX8_felled_197 : decode cX8_felled 197 = .ok (.ireturn, 1) := dc_at daX8_felled_4 4 rfl
def dlX8_soonest_0 : List (Nat × Jvm.ClassFile.Instr × Nat) := [(0, .iload_n 1, 1), (1, .ifCond .lt 10, 3), (4, .iload_n 1, 1), (5, .sipush 9999, 3), (8, .if_icmp .le 6, 3), (11, .bipush (-3), 2), (13, .ireturn, 1), (14, .aload_n 0, 1), (15, .getfield 27, 3), (18, .getfield 161, 3), (21, .ifCond .ne 6, 3), (24, .bipush (-5), 2), (26, .ireturn, 1), (27, .iload_n 1, 1), (28, .ifCond .ne 5, 3), (31, .iconst 0, 1), (32, .ireturn, 1), (33, .iload_n 1, 1), (34, .aload_n 0, 1), (35, .getfield 27, 3), (38, .aload_n 0, 1), (39, .getfield 27, 3), (42, .getfield 112, 3), (45, .invokevirtual 200, 3)]
theorem daX8_soonest_0 : dlX8_soonest_0.all (dcK cX8_soonest) = true := by decide +kernel
theorem dX8_soonest_0 : decode cX8_soonest 0 = .ok (.iload_n 1, 1) := dc_at daX8_soonest_0 0 rfl
theorem dX8_soonest_1 : decode cX8_soonest 1 = .ok (.ifCond .lt 10, 3) := dc_at daX8_soonest_0 1 rfl
theorem dX8_soonest_4 : decode cX8_soonest 4 = .ok (.iload_n 1, 1) := dc_at daX8_soonest_0 2 rfl
theorem dX8_soonest_5 : decode cX8_soonest 5 = .ok (.sipush 9999, 3) := dc_at daX8_soonest_0 3 rfl
theorem dX8_soonest_8 : decode cX8_soonest 8 = .ok (.if_icmp .le 6, 3) := dc_at daX8_soonest_0 4 rfl
theorem dX8_soonest_11 : decode cX8_soonest 11 = .ok (.bipush (-3), 2) := dc_at daX8_soonest_0 5 rfl
theorem dX8_soonest_13 : decode cX8_soonest 13 = .ok (.ireturn, 1) := dc_at daX8_soonest_0 6 rfl
theorem dX8_soonest_14 : decode cX8_soonest 14 = .ok (.aload_n 0, 1) := dc_at daX8_soonest_0 7 rfl
theorem dX8_soonest_15 : decode cX8_soonest 15 = .ok (.getfield 27, 3) := dc_at daX8_soonest_0 8 rfl
theorem dX8_soonest_18 : decode cX8_soonest 18 = .ok (.getfield 161, 3) := dc_at daX8_soonest_0 9 rfl
theorem dX8_soonest_21 : decode cX8_soonest 21 = .ok (.ifCond .ne 6, 3) := dc_at daX8_soonest_0 10 rfl
theorem dX8_soonest_24 : decode cX8_soonest 24 = .ok (.bipush (-5), 2) := dc_at daX8_soonest_0 11 rfl
theorem dX8_soonest_26 : decode cX8_soonest 26 = .ok (.ireturn, 1) := dc_at daX8_soonest_0 12 rfl
theorem dX8_soonest_27 : decode cX8_soonest 27 = .ok (.iload_n 1, 1) := dc_at daX8_soonest_0 13 rfl
theorem dX8_soonest_28 : decode cX8_soonest 28 = .ok (.ifCond .ne 5, 3) := dc_at daX8_soonest_0 14 rfl
theorem dX8_soonest_31 : decode cX8_soonest 31 = .ok (.iconst 0, 1) := dc_at daX8_soonest_0 15 rfl
theorem dX8_soonest_32 : decode cX8_soonest 32 = .ok (.ireturn, 1) := dc_at daX8_soonest_0 16 rfl
theorem dX8_soonest_33 : decode cX8_soonest 33 = .ok (.iload_n 1, 1) := dc_at daX8_soonest_0 17 rfl
theorem dX8_soonest_34 : decode cX8_soonest 34 = .ok (.aload_n 0, 1) := dc_at daX8_soonest_0 18 rfl
theorem dX8_soonest_35 : decode cX8_soonest 35 = .ok (.getfield 27, 3) := dc_at daX8_soonest_0 19 rfl
theorem dX8_soonest_38 : decode cX8_soonest 38 = .ok (.aload_n 0, 1) := dc_at daX8_soonest_0 20 rfl
theorem dX8_soonest_39 : decode cX8_soonest 39 = .ok (.getfield 27, 3) := dc_at daX8_soonest_0 21 rfl
theorem dX8_soonest_42 : decode cX8_soonest 42 = .ok (.getfield 112, 3) := dc_at daX8_soonest_0 22 rfl
theorem dX8_soonest_45 : decode cX8_soonest 45 = .ok (.invokevirtual 200, 3) := dc_at daX8_soonest_0 23 rfl
def dlX8_soonest_1 : List (Nat × Jvm.ClassFile.Instr × Nat) := [(48, .if_icmp .le 5, 3), (51, .iconst (-1), 1), (52, .ireturn, 1), (53, .aload_n 0, 1), (54, .getfield 58, 3), (57, .aload_n 0, 1), (58, .getfield 27, 3), (61, .iconst 0, 1), (62, .iconst (-1), 1), (63, .invokevirtual 273, 3), (66, .aload_n 0, 1), (67, .bipush 8, 2), (69, .invokevirtual 233, 3), (72, .istore_n 2, 1), (73, .iconst 1, 1), (74, .istore_n 3, 1), (75, .iload_n 3, 1), (76, .iload_n 2, 1), (77, .if_icmp .gt 59, 3), (80, .aload_n 0, 1), (81, .getfield 51, 3), (84, .aload_n 0, 1), (85, .getfield 27, 3), (88, .getfield 161, 3)]
theorem daX8_soonest_1 : dlX8_soonest_1.all (dcK cX8_soonest) = true := by decide +kernel
theorem dX8_soonest_48 : decode cX8_soonest 48 = .ok (.if_icmp .le 5, 3) := dc_at daX8_soonest_1 0 rfl
theorem dX8_soonest_51 : decode cX8_soonest 51 = .ok (.iconst (-1), 1) := dc_at daX8_soonest_1 1 rfl
theorem dX8_soonest_52 : decode cX8_soonest 52 = .ok (.ireturn, 1) := dc_at daX8_soonest_1 2 rfl
theorem dX8_soonest_53 : decode cX8_soonest 53 = .ok (.aload_n 0, 1) := dc_at daX8_soonest_1 3 rfl
theorem dX8_soonest_54 : decode cX8_soonest 54 = .ok (.getfield 58, 3) := dc_at daX8_soonest_1 4 rfl
theorem dX8_soonest_57 : decode cX8_soonest 57 = .ok (.aload_n 0, 1) := dc_at daX8_soonest_1 5 rfl
theorem dX8_soonest_58 : decode cX8_soonest 58 = .ok (.getfield 27, 3) := dc_at daX8_soonest_1 6 rfl
theorem dX8_soonest_61 : decode cX8_soonest 61 = .ok (.iconst 0, 1) := dc_at daX8_soonest_1 7 rfl
theorem dX8_soonest_62 : decode cX8_soonest 62 = .ok (.iconst (-1), 1) := dc_at daX8_soonest_1 8 rfl
theorem dX8_soonest_63 : decode cX8_soonest 63 = .ok (.invokevirtual 273, 3) := dc_at daX8_soonest_1 9 rfl
theorem dX8_soonest_66 : decode cX8_soonest 66 = .ok (.aload_n 0, 1) := dc_at daX8_soonest_1 10 rfl
theorem dX8_soonest_67 : decode cX8_soonest 67 = .ok (.bipush 8, 2) := dc_at daX8_soonest_1 11 rfl
theorem dX8_soonest_69 : decode cX8_soonest 69 = .ok (.invokevirtual 233, 3) := dc_at daX8_soonest_1 12 rfl
theorem dX8_soonest_72 : decode cX8_soonest 72 = .ok (.istore_n 2, 1) := dc_at daX8_soonest_1 13 rfl
theorem dX8_soonest_73 : decode cX8_soonest 73 = .ok (.iconst 1, 1) := dc_at daX8_soonest_1 14 rfl
theorem dX8_soonest_74 : decode cX8_soonest 74 = .ok (.istore_n 3, 1) := dc_at daX8_soonest_1 15 rfl
theorem dX8_soonest_75 : decode cX8_soonest 75 = .ok (.iload_n 3, 1) := dc_at daX8_soonest_1 16 rfl
theorem dX8_soonest_76 : decode cX8_soonest 76 = .ok (.iload_n 2, 1) := dc_at daX8_soonest_1 17 rfl
theorem dX8_soonest_77 : decode cX8_soonest 77 = .ok (.if_icmp .gt 59, 3) := dc_at daX8_soonest_1 18 rfl
theorem dX8_soonest_80 : decode cX8_soonest 80 = .ok (.aload_n 0, 1) := dc_at daX8_soonest_1 19 rfl
theorem dX8_soonest_81 : decode cX8_soonest 81 = .ok (.getfield 51, 3) := dc_at daX8_soonest_1 20 rfl
theorem dX8_soonest_84 : decode cX8_soonest 84 = .ok (.aload_n 0, 1) := dc_at daX8_soonest_1 21 rfl
theorem dX8_soonest_85 : decode cX8_soonest 85 = .ok (.getfield 27, 3) := dc_at daX8_soonest_1 22 rfl
theorem dX8_soonest_88 : decode cX8_soonest 88 = .ok (.getfield 161, 3) := dc_at daX8_soonest_1 23 rfl
def dlX8_soonest_2 : List (Nat × Jvm.ClassFile.Instr × Nat) := [(91, .aload_n 0, 1), (92, .getfield 27, 3), (95, .getfield 128, 3), (98, .iload_n 3, 1), (99, .invokevirtual 281, 3), (102, .aload_n 0, 1), (103, .getfield 58, 3), (106, .aload_n 0, 1), (107, .getfield 51, 3), (110, .iload_n 3, 1), (111, .iload_n 1, 1), (112, .iconst 1, 1), (113, .isub, 1), (114, .invokevirtual 277, 3), (117, .aload_n 0, 1), (118, .getfield 58, 3), (121, .getfield 240, 3), (124, .iload_n 1, 1), (125, .if_icmp .lt 5, 3), (128, .iload_n 3, 1), (129, .ireturn, 1), (130, .iinc 3 1, 3), (133, .goto (-58), 3), (136, .iconst (-1), 1)]
theorem daX8_soonest_2 : dlX8_soonest_2.all (dcK cX8_soonest) = true := by decide +kernel
theorem dX8_soonest_91 : decode cX8_soonest 91 = .ok (.aload_n 0, 1) := dc_at daX8_soonest_2 0 rfl
theorem dX8_soonest_92 : decode cX8_soonest 92 = .ok (.getfield 27, 3) := dc_at daX8_soonest_2 1 rfl
theorem dX8_soonest_95 : decode cX8_soonest 95 = .ok (.getfield 128, 3) := dc_at daX8_soonest_2 2 rfl
theorem dX8_soonest_98 : decode cX8_soonest 98 = .ok (.iload_n 3, 1) := dc_at daX8_soonest_2 3 rfl
theorem dX8_soonest_99 : decode cX8_soonest 99 = .ok (.invokevirtual 281, 3) := dc_at daX8_soonest_2 4 rfl
theorem dX8_soonest_102 : decode cX8_soonest 102 = .ok (.aload_n 0, 1) := dc_at daX8_soonest_2 5 rfl
theorem dX8_soonest_103 : decode cX8_soonest 103 = .ok (.getfield 58, 3) := dc_at daX8_soonest_2 6 rfl
theorem dX8_soonest_106 : decode cX8_soonest 106 = .ok (.aload_n 0, 1) := dc_at daX8_soonest_2 7 rfl
theorem dX8_soonest_107 : decode cX8_soonest 107 = .ok (.getfield 51, 3) := dc_at daX8_soonest_2 8 rfl
theorem dX8_soonest_110 : decode cX8_soonest 110 = .ok (.iload_n 3, 1) := dc_at daX8_soonest_2 9 rfl
theorem dX8_soonest_111 : decode cX8_soonest 111 = .ok (.iload_n 1, 1) := dc_at daX8_soonest_2 10 rfl
theorem dX8_soonest_112 : decode cX8_soonest 112 = .ok (.iconst 1, 1) := dc_at daX8_soonest_2 11 rfl
theorem dX8_soonest_113 : decode cX8_soonest 113 = .ok (.isub, 1) := dc_at daX8_soonest_2 12 rfl
theorem dX8_soonest_114 : decode cX8_soonest 114 = .ok (.invokevirtual 277, 3) := dc_at daX8_soonest_2 13 rfl
theorem dX8_soonest_117 : decode cX8_soonest 117 = .ok (.aload_n 0, 1) := dc_at daX8_soonest_2 14 rfl
theorem dX8_soonest_118 : decode cX8_soonest 118 = .ok (.getfield 58, 3) := dc_at daX8_soonest_2 15 rfl
theorem dX8_soonest_121 : decode cX8_soonest 121 = .ok (.getfield 240, 3) := dc_at daX8_soonest_2 16 rfl
theorem dX8_soonest_124 : decode cX8_soonest 124 = .ok (.iload_n 1, 1) := dc_at daX8_soonest_2 17 rfl
theorem dX8_soonest_125 : decode cX8_soonest 125 = .ok (.if_icmp .lt 5, 3) := dc_at daX8_soonest_2 18 rfl
theorem dX8_soonest_128 : decode cX8_soonest 128 = .ok (.iload_n 3, 1) := dc_at daX8_soonest_2 19 rfl
theorem dX8_soonest_129 : decode cX8_soonest 129 = .ok (.ireturn, 1) := dc_at daX8_soonest_2 20 rfl
theorem dX8_soonest_130 : decode cX8_soonest 130 = .ok (.iinc 3 1, 3) := dc_at daX8_soonest_2 21 rfl
theorem dX8_soonest_133 : decode cX8_soonest 133 = .ok (.goto (-58), 3) := dc_at daX8_soonest_2 22 rfl
theorem dX8_soonest_136 : decode cX8_soonest 136 = .ok (.iconst (-1), 1) := dc_at daX8_soonest_2 23 rfl
def dlX8_soonest_3 : List (Nat × Jvm.ClassFile.Instr × Nat) := [(137, .ireturn, 1)]
theorem daX8_soonest_3 : dlX8_soonest_3.all (dcK cX8_soonest) = true := by decide +kernel
theorem dX8_soonest_137 : decode cX8_soonest 137 = .ok (.ireturn, 1) := dc_at daX8_soonest_3 0 rfl
def dlX8_dark_0 : List (Nat × Jvm.ClassFile.Instr × Nat) := [(0, .iconst 0, 1), (1, .istore_n 1, 1), (2, .iconst 0, 1), (3, .istore_n 2, 1), (4, .iload_n 2, 1), (5, .aload_n 0, 1), (6, .getfield 27, 3), (9, .getfield 161, 3), (12, .if_icmp .ge 20, 3), (15, .iload_n 1, 1), (16, .aload_n 0, 1), (17, .getfield 27, 3), (20, .iload_n 2, 1), (21, .invokevirtual 149, 3), (24, .ior, 1), (25, .istore_n 1, 1), (26, .iinc 2 1, 3), (29, .goto (-25), 3), (32, .aload_n 0, 1), (33, .getfield 27, 3), (36, .invokevirtual 284, 3), (39, .iload_n 1, 1), (40, .iconst (-1), 1), (41, .ixor, 1)]
theorem daX8_dark_0 : dlX8_dark_0.all (dcK cX8_dark) = true := by decide +kernel
theorem dX8_dark_0 : decode cX8_dark 0 = .ok (.iconst 0, 1) := dc_at daX8_dark_0 0 rfl
theorem dX8_dark_1 : decode cX8_dark 1 = .ok (.istore_n 1, 1) := dc_at daX8_dark_0 1 rfl
theorem dX8_dark_2 : decode cX8_dark 2 = .ok (.iconst 0, 1) := dc_at daX8_dark_0 2 rfl
theorem dX8_dark_3 : decode cX8_dark 3 = .ok (.istore_n 2, 1) := dc_at daX8_dark_0 3 rfl
theorem dX8_dark_4 : decode cX8_dark 4 = .ok (.iload_n 2, 1) := dc_at daX8_dark_0 4 rfl
theorem dX8_dark_5 : decode cX8_dark 5 = .ok (.aload_n 0, 1) := dc_at daX8_dark_0 5 rfl
theorem dX8_dark_6 : decode cX8_dark 6 = .ok (.getfield 27, 3) := dc_at daX8_dark_0 6 rfl
theorem dX8_dark_9 : decode cX8_dark 9 = .ok (.getfield 161, 3) := dc_at daX8_dark_0 7 rfl
theorem dX8_dark_12 : decode cX8_dark 12 = .ok (.if_icmp .ge 20, 3) := dc_at daX8_dark_0 8 rfl
theorem dX8_dark_15 : decode cX8_dark 15 = .ok (.iload_n 1, 1) := dc_at daX8_dark_0 9 rfl
theorem dX8_dark_16 : decode cX8_dark 16 = .ok (.aload_n 0, 1) := dc_at daX8_dark_0 10 rfl
theorem dX8_dark_17 : decode cX8_dark 17 = .ok (.getfield 27, 3) := dc_at daX8_dark_0 11 rfl
theorem dX8_dark_20 : decode cX8_dark 20 = .ok (.iload_n 2, 1) := dc_at daX8_dark_0 12 rfl
theorem dX8_dark_21 : decode cX8_dark 21 = .ok (.invokevirtual 149, 3) := dc_at daX8_dark_0 13 rfl
theorem dX8_dark_24 : decode cX8_dark 24 = .ok (.ior, 1) := dc_at daX8_dark_0 14 rfl
theorem dX8_dark_25 : decode cX8_dark 25 = .ok (.istore_n 1, 1) := dc_at daX8_dark_0 15 rfl
theorem dX8_dark_26 : decode cX8_dark 26 = .ok (.iinc 2 1, 3) := dc_at daX8_dark_0 16 rfl
theorem dX8_dark_29 : decode cX8_dark 29 = .ok (.goto (-25), 3) := dc_at daX8_dark_0 17 rfl
theorem dX8_dark_32 : decode cX8_dark 32 = .ok (.aload_n 0, 1) := dc_at daX8_dark_0 18 rfl
theorem dX8_dark_33 : decode cX8_dark 33 = .ok (.getfield 27, 3) := dc_at daX8_dark_0 19 rfl
theorem dX8_dark_36 : decode cX8_dark 36 = .ok (.invokevirtual 284, 3) := dc_at daX8_dark_0 20 rfl
theorem dX8_dark_39 : decode cX8_dark 39 = .ok (.iload_n 1, 1) := dc_at daX8_dark_0 21 rfl
theorem dX8_dark_40 : decode cX8_dark 40 = .ok (.iconst (-1), 1) := dc_at daX8_dark_0 22 rfl
theorem dX8_dark_41 : decode cX8_dark 41 = .ok (.ixor, 1) := dc_at daX8_dark_0 23 rfl
def dlX8_dark_1 : List (Nat × Jvm.ClassFile.Instr × Nat) := [(42, .iand, 1), (43, .ireturn, 1)]
theorem daX8_dark_1 : dlX8_dark_1.all (dcK cX8_dark) = true := by decide +kernel
theorem dX8_dark_42 : decode cX8_dark 42 = .ok (.iand, 1) := dc_at daX8_dark_1 0 rfl
theorem dX8_dark_43 : decode cX8_dark 43 = .ok (.ireturn, 1) := dc_at daX8_dark_1 1 rfl
def dlX8_ends_0 : List (Nat × Jvm.ClassFile.Instr × Nat) := [(0, .aload_n 0, 1), (1, .iconst 1, 1), (2, .iload_n 1, 1), (3, .bipush 6, 2), (5, .invokevirtual 229, 3), (8, .istore_n 2, 1), (9, .iload_n 2, 1), (10, .ifCond .eq 5, 3), (13, .iload_n 2, 1), (14, .ireturn, 1), (15, .aload_n 0, 1), (16, .iload_n 1, 1), (17, .invokevirtual 233, 3), (20, .istore_n 3, 1), (21, .aload_n 0, 1), (22, .getfield 51, 3), (25, .aload_n 0, 1), (26, .getfield 27, 3), (29, .getfield 161, 3), (32, .aload_n 0, 1), (33, .getfield 27, 3), (36, .getfield 128, 3), (39, .iload_n 3, 1), (40, .invokevirtual 281, 3)]
theorem daX8_ends_0 : dlX8_ends_0.all (dcK cX8_ends) = true := by decide +kernel
theorem dX8_ends_0 : decode cX8_ends 0 = .ok (.aload_n 0, 1) := dc_at daX8_ends_0 0 rfl
theorem dX8_ends_1 : decode cX8_ends 1 = .ok (.iconst 1, 1) := dc_at daX8_ends_0 1 rfl
theorem dX8_ends_2 : decode cX8_ends 2 = .ok (.iload_n 1, 1) := dc_at daX8_ends_0 2 rfl
theorem dX8_ends_3 : decode cX8_ends 3 = .ok (.bipush 6, 2) := dc_at daX8_ends_0 3 rfl
theorem dX8_ends_5 : decode cX8_ends 5 = .ok (.invokevirtual 229, 3) := dc_at daX8_ends_0 4 rfl
theorem dX8_ends_8 : decode cX8_ends 8 = .ok (.istore_n 2, 1) := dc_at daX8_ends_0 5 rfl
theorem dX8_ends_9 : decode cX8_ends 9 = .ok (.iload_n 2, 1) := dc_at daX8_ends_0 6 rfl
theorem dX8_ends_10 : decode cX8_ends 10 = .ok (.ifCond .eq 5, 3) := dc_at daX8_ends_0 7 rfl
theorem dX8_ends_13 : decode cX8_ends 13 = .ok (.iload_n 2, 1) := dc_at daX8_ends_0 8 rfl
theorem dX8_ends_14 : decode cX8_ends 14 = .ok (.ireturn, 1) := dc_at daX8_ends_0 9 rfl
theorem dX8_ends_15 : decode cX8_ends 15 = .ok (.aload_n 0, 1) := dc_at daX8_ends_0 10 rfl
theorem dX8_ends_16 : decode cX8_ends 16 = .ok (.iload_n 1, 1) := dc_at daX8_ends_0 11 rfl
theorem dX8_ends_17 : decode cX8_ends 17 = .ok (.invokevirtual 233, 3) := dc_at daX8_ends_0 12 rfl
theorem dX8_ends_20 : decode cX8_ends 20 = .ok (.istore_n 3, 1) := dc_at daX8_ends_0 13 rfl
theorem dX8_ends_21 : decode cX8_ends 21 = .ok (.aload_n 0, 1) := dc_at daX8_ends_0 14 rfl
theorem dX8_ends_22 : decode cX8_ends 22 = .ok (.getfield 51, 3) := dc_at daX8_ends_0 15 rfl
theorem dX8_ends_25 : decode cX8_ends 25 = .ok (.aload_n 0, 1) := dc_at daX8_ends_0 16 rfl
theorem dX8_ends_26 : decode cX8_ends 26 = .ok (.getfield 27, 3) := dc_at daX8_ends_0 17 rfl
theorem dX8_ends_29 : decode cX8_ends 29 = .ok (.getfield 161, 3) := dc_at daX8_ends_0 18 rfl
theorem dX8_ends_32 : decode cX8_ends 32 = .ok (.aload_n 0, 1) := dc_at daX8_ends_0 19 rfl
theorem dX8_ends_33 : decode cX8_ends 33 = .ok (.getfield 27, 3) := dc_at daX8_ends_0 20 rfl
theorem dX8_ends_36 : decode cX8_ends 36 = .ok (.getfield 128, 3) := dc_at daX8_ends_0 21 rfl
theorem dX8_ends_39 : decode cX8_ends 39 = .ok (.iload_n 3, 1) := dc_at daX8_ends_0 22 rfl
theorem dX8_ends_40 : decode cX8_ends 40 = .ok (.invokevirtual 281, 3) := dc_at daX8_ends_0 23 rfl
def dlX8_ends_1 : List (Nat × Jvm.ClassFile.Instr × Nat) := [(43, .aload_n 0, 1), (44, .getfield 58, 3), (47, .aload_n 0, 1), (48, .getfield 27, 3), (51, .iconst 0, 1), (52, .iconst (-1), 1), (53, .invokevirtual 273, 3), (56, .aload_n 0, 1), (57, .getfield 72, 3), (60, .aload_n 0, 1), (61, .getfield 58, 3), (64, .aload_n 0, 1), (65, .getfield 51, 3), (68, .iload_n 3, 1), (69, .invokevirtual 287, 3), (72, .ireturn, 1)]
theorem daX8_ends_1 : dlX8_ends_1.all (dcK cX8_ends) = true := by decide +kernel
theorem dX8_ends_43 : decode cX8_ends 43 = .ok (.aload_n 0, 1) := dc_at daX8_ends_1 0 rfl
theorem dX8_ends_44 : decode cX8_ends 44 = .ok (.getfield 58, 3) := dc_at daX8_ends_1 1 rfl
theorem dX8_ends_47 : decode cX8_ends 47 = .ok (.aload_n 0, 1) := dc_at daX8_ends_1 2 rfl
theorem dX8_ends_48 : decode cX8_ends 48 = .ok (.getfield 27, 3) := dc_at daX8_ends_1 3 rfl
theorem dX8_ends_51 : decode cX8_ends 51 = .ok (.iconst 0, 1) := dc_at daX8_ends_1 4 rfl
theorem dX8_ends_52 : decode cX8_ends 52 = .ok (.iconst (-1), 1) := dc_at daX8_ends_1 5 rfl
theorem dX8_ends_53 : decode cX8_ends 53 = .ok (.invokevirtual 273, 3) := dc_at daX8_ends_1 6 rfl
theorem dX8_ends_56 : decode cX8_ends 56 = .ok (.aload_n 0, 1) := dc_at daX8_ends_1 7 rfl
theorem dX8_ends_57 : decode cX8_ends 57 = .ok (.getfield 72, 3) := dc_at daX8_ends_1 8 rfl
theorem dX8_ends_60 : decode cX8_ends 60 = .ok (.aload_n 0, 1) := dc_at daX8_ends_1 9 rfl
theorem dX8_ends_61 : decode cX8_ends 61 = .ok (.getfield 58, 3) := dc_at daX8_ends_1 10 rfl
theorem dX8_ends_64 : decode cX8_ends 64 = .ok (.aload_n 0, 1) := dc_at daX8_ends_1 11 rfl
theorem dX8_ends_65 : decode cX8_ends 65 = .ok (.getfield 51, 3) := dc_at daX8_ends_1 12 rfl
theorem dX8_ends_68 : decode cX8_ends 68 = .ok (.iload_n 3, 1) := dc_at daX8_ends_1 13 rfl
theorem dX8_ends_69 : decode cX8_ends 69 = .ok (.invokevirtual 287, 3) := dc_at daX8_ends_1 14 rfl
theorem dX8_ends_72 : decode cX8_ends 72 = .ok (.ireturn, 1) := dc_at daX8_ends_1 15 rfl
def dlX8_halts_0 : List (Nat × Jvm.ClassFile.Instr × Nat) := [(0, .aload_n 0, 1), (1, .getfield 27, 3), (4, .iload_n 1, 1), (5, .invokevirtual 158, 3), (8, .ifCond .ne 6, 3), (11, .bipush (-3), 2), (13, .ireturn, 1), (14, .aload_n 0, 1), (15, .getfield 79, 3), (18, .aload_n 0, 1), (19, .getfield 27, 3), (22, .iload_n 1, 1), (23, .invokevirtual 291, 3), (26, .ireturn, 1)]
theorem daX8_halts_0 : dlX8_halts_0.all (dcK cX8_halts) = true := by decide +kernel
theorem dX8_halts_0 : decode cX8_halts 0 = .ok (.aload_n 0, 1) := dc_at daX8_halts_0 0 rfl
theorem dX8_halts_1 : decode cX8_halts 1 = .ok (.getfield 27, 3) := dc_at daX8_halts_0 1 rfl
theorem dX8_halts_4 : decode cX8_halts 4 = .ok (.iload_n 1, 1) := dc_at daX8_halts_0 2 rfl
theorem dX8_halts_5 : decode cX8_halts 5 = .ok (.invokevirtual 158, 3) := dc_at daX8_halts_0 3 rfl
theorem dX8_halts_8 : decode cX8_halts 8 = .ok (.ifCond .ne 6, 3) := dc_at daX8_halts_0 4 rfl
theorem dX8_halts_11 : decode cX8_halts 11 = .ok (.bipush (-3), 2) := dc_at daX8_halts_0 5 rfl
theorem dX8_halts_13 : decode cX8_halts 13 = .ok (.ireturn, 1) := dc_at daX8_halts_0 6 rfl
theorem dX8_halts_14 : decode cX8_halts 14 = .ok (.aload_n 0, 1) := dc_at daX8_halts_0 7 rfl
theorem dX8_halts_15 : decode cX8_halts 15 = .ok (.getfield 79, 3) := dc_at daX8_halts_0 8 rfl
theorem dX8_halts_18 : decode cX8_halts 18 = .ok (.aload_n 0, 1) := dc_at daX8_halts_0 9 rfl
theorem dX8_halts_19 : decode cX8_halts 19 = .ok (.getfield 27, 3) := dc_at daX8_halts_0 10 rfl
theorem dX8_halts_22 : decode cX8_halts 22 = .ok (.iload_n 1, 1) := dc_at daX8_halts_0 11 rfl
theorem dX8_halts_23 : decode cX8_halts 23 = .ok (.invokevirtual 291, 3) := dc_at daX8_halts_0 12 rfl
theorem dX8_halts_26 : decode cX8_halts 26 = .ok (.ireturn, 1) := dc_at daX8_halts_0 13 rfl
def dlX8_tour_0 : List (Nat × Jvm.ClassFile.Instr × Nat) := [(0, .aload_n 0, 1), (1, .getfield 27, 3), (4, .iload_n 1, 1), (5, .invokevirtual 158, 3), (8, .ifCond .ne 6, 3), (11, .bipush (-3), 2), (13, .ireturn, 1), (14, .aload_n 0, 1), (15, .getfield 79, 3), (18, .aload_n 0, 1), (19, .getfield 27, 3), (22, .iload_n 1, 1), (23, .invokevirtual 291, 3), (26, .istore_n 2, 1), (27, .iload_n 2, 1), (28, .iconst (-1), 1), (29, .if_icmp .eq 7, 3), (32, .iload_n 2, 1), (33, .ifCond .ne 5, 3), (36, .iload_n 2, 1), (37, .ireturn, 1), (38, .aload_n 0, 1), (39, .getfield 27, 3), (42, .getfield 128, 3)]
theorem daX8_tour_0 : dlX8_tour_0.all (dcK cX8_tour) = true := by decide +kernel
theorem dX8_tour_0 : decode cX8_tour 0 = .ok (.aload_n 0, 1) := dc_at daX8_tour_0 0 rfl
theorem dX8_tour_1 : decode cX8_tour 1 = .ok (.getfield 27, 3) := dc_at daX8_tour_0 1 rfl
theorem dX8_tour_4 : decode cX8_tour 4 = .ok (.iload_n 1, 1) := dc_at daX8_tour_0 2 rfl
theorem dX8_tour_5 : decode cX8_tour 5 = .ok (.invokevirtual 158, 3) := dc_at daX8_tour_0 3 rfl
theorem dX8_tour_8 : decode cX8_tour 8 = .ok (.ifCond .ne 6, 3) := dc_at daX8_tour_0 4 rfl
theorem dX8_tour_11 : decode cX8_tour 11 = .ok (.bipush (-3), 2) := dc_at daX8_tour_0 5 rfl
theorem dX8_tour_13 : decode cX8_tour 13 = .ok (.ireturn, 1) := dc_at daX8_tour_0 6 rfl
theorem dX8_tour_14 : decode cX8_tour 14 = .ok (.aload_n 0, 1) := dc_at daX8_tour_0 7 rfl
theorem dX8_tour_15 : decode cX8_tour 15 = .ok (.getfield 79, 3) := dc_at daX8_tour_0 8 rfl
theorem dX8_tour_18 : decode cX8_tour 18 = .ok (.aload_n 0, 1) := dc_at daX8_tour_0 9 rfl
theorem dX8_tour_19 : decode cX8_tour 19 = .ok (.getfield 27, 3) := dc_at daX8_tour_0 10 rfl
theorem dX8_tour_22 : decode cX8_tour 22 = .ok (.iload_n 1, 1) := dc_at daX8_tour_0 11 rfl
theorem dX8_tour_23 : decode cX8_tour 23 = .ok (.invokevirtual 291, 3) := dc_at daX8_tour_0 12 rfl
theorem dX8_tour_26 : decode cX8_tour 26 = .ok (.istore_n 2, 1) := dc_at daX8_tour_0 13 rfl
theorem dX8_tour_27 : decode cX8_tour 27 = .ok (.iload_n 2, 1) := dc_at daX8_tour_0 14 rfl
theorem dX8_tour_28 : decode cX8_tour 28 = .ok (.iconst (-1), 1) := dc_at daX8_tour_0 15 rfl
theorem dX8_tour_29 : decode cX8_tour 29 = .ok (.if_icmp .eq 7, 3) := dc_at daX8_tour_0 16 rfl
theorem dX8_tour_32 : decode cX8_tour 32 = .ok (.iload_n 2, 1) := dc_at daX8_tour_0 17 rfl
theorem dX8_tour_33 : decode cX8_tour 33 = .ok (.ifCond .ne 5, 3) := dc_at daX8_tour_0 18 rfl
theorem dX8_tour_36 : decode cX8_tour 36 = .ok (.iload_n 2, 1) := dc_at daX8_tour_0 19 rfl
theorem dX8_tour_37 : decode cX8_tour 37 = .ok (.ireturn, 1) := dc_at daX8_tour_0 20 rfl
theorem dX8_tour_38 : decode cX8_tour 38 = .ok (.aload_n 0, 1) := dc_at daX8_tour_0 21 rfl
theorem dX8_tour_39 : decode cX8_tour 39 = .ok (.getfield 27, 3) := dc_at daX8_tour_0 22 rfl
theorem dX8_tour_42 : decode cX8_tour 42 = .ok (.getfield 128, 3) := dc_at daX8_tour_0 23 rfl
def dlX8_tour_1 : List (Nat × Jvm.ClassFile.Instr × Nat) := [(45, .iload_n 2, 1), (46, .invokestatic 295, 3), (49, .invokestatic 211, 3), (52, .istore_n 3, 1), (53, .aload_n 0, 1), (54, .getfield 27, 3), (57, .getfield 128, 3), (60, .bipush 31, 2), (62, .iload_n 2, 1), (63, .invokestatic 300, 3), (66, .isub, 1), (67, .invokestatic 303, 3), (70, .istore 4, 2), (72, .iload 4, 2), (74, .iload_n 3, 1), (75, .isub, 1), (76, .aload_n 0, 1), (77, .getfield 27, 3), (80, .getfield 128, 3), (83, .iload_n 3, 1), (84, .isub, 1), (85, .iload 4, 2), (87, .aload_n 0, 1), (88, .getfield 27, 3)]
theorem daX8_tour_1 : dlX8_tour_1.all (dcK cX8_tour) = true := by decide +kernel
theorem dX8_tour_45 : decode cX8_tour 45 = .ok (.iload_n 2, 1) := dc_at daX8_tour_1 0 rfl
theorem dX8_tour_46 : decode cX8_tour 46 = .ok (.invokestatic 295, 3) := dc_at daX8_tour_1 1 rfl
theorem dX8_tour_49 : decode cX8_tour 49 = .ok (.invokestatic 211, 3) := dc_at daX8_tour_1 2 rfl
theorem dX8_tour_52 : decode cX8_tour 52 = .ok (.istore_n 3, 1) := dc_at daX8_tour_1 3 rfl
theorem dX8_tour_53 : decode cX8_tour 53 = .ok (.aload_n 0, 1) := dc_at daX8_tour_1 4 rfl
theorem dX8_tour_54 : decode cX8_tour 54 = .ok (.getfield 27, 3) := dc_at daX8_tour_1 5 rfl
theorem dX8_tour_57 : decode cX8_tour 57 = .ok (.getfield 128, 3) := dc_at daX8_tour_1 6 rfl
theorem dX8_tour_60 : decode cX8_tour 60 = .ok (.bipush 31, 2) := dc_at daX8_tour_1 7 rfl
theorem dX8_tour_62 : decode cX8_tour 62 = .ok (.iload_n 2, 1) := dc_at daX8_tour_1 8 rfl
theorem dX8_tour_63 : decode cX8_tour 63 = .ok (.invokestatic 300, 3) := dc_at daX8_tour_1 9 rfl
theorem dX8_tour_66 : decode cX8_tour 66 = .ok (.isub, 1) := dc_at daX8_tour_1 10 rfl
theorem dX8_tour_67 : decode cX8_tour 67 = .ok (.invokestatic 303, 3) := dc_at daX8_tour_1 11 rfl
theorem dX8_tour_70 : decode cX8_tour 70 = .ok (.istore 4, 2) := dc_at daX8_tour_1 12 rfl
theorem dX8_tour_72 : decode cX8_tour 72 = .ok (.iload 4, 2) := dc_at daX8_tour_1 13 rfl
theorem dX8_tour_74 : decode cX8_tour 74 = .ok (.iload_n 3, 1) := dc_at daX8_tour_1 14 rfl
theorem dX8_tour_75 : decode cX8_tour 75 = .ok (.isub, 1) := dc_at daX8_tour_1 15 rfl
theorem dX8_tour_76 : decode cX8_tour 76 = .ok (.aload_n 0, 1) := dc_at daX8_tour_1 16 rfl
theorem dX8_tour_77 : decode cX8_tour 77 = .ok (.getfield 27, 3) := dc_at daX8_tour_1 17 rfl
theorem dX8_tour_80 : decode cX8_tour 80 = .ok (.getfield 128, 3) := dc_at daX8_tour_1 18 rfl
theorem dX8_tour_83 : decode cX8_tour 83 = .ok (.iload_n 3, 1) := dc_at daX8_tour_1 19 rfl
theorem dX8_tour_84 : decode cX8_tour 84 = .ok (.isub, 1) := dc_at daX8_tour_1 20 rfl
theorem dX8_tour_85 : decode cX8_tour 85 = .ok (.iload 4, 2) := dc_at daX8_tour_1 21 rfl
theorem dX8_tour_87 : decode cX8_tour 87 = .ok (.aload_n 0, 1) := dc_at daX8_tour_1 22 rfl
theorem dX8_tour_88 : decode cX8_tour 88 = .ok (.getfield 27, 3) := dc_at daX8_tour_1 23 rfl
def dlX8_tour_2 : List (Nat × Jvm.ClassFile.Instr × Nat) := [(91, .getfield 128, 3), (94, .isub, 1), (95, .invokestatic 211, 3), (98, .iadd, 1), (99, .ireturn, 1)]
theorem daX8_tour_2 : dlX8_tour_2.all (dcK cX8_tour) = true := by decide +kernel
theorem dX8_tour_91 : decode cX8_tour 91 = .ok (.getfield 128, 3) := dc_at daX8_tour_2 0 rfl
theorem dX8_tour_94 : decode cX8_tour 94 = .ok (.isub, 1) := dc_at daX8_tour_2 1 rfl
theorem dX8_tour_95 : decode cX8_tour 95 = .ok (.invokestatic 211, 3) := dc_at daX8_tour_2 2 rfl
theorem dX8_tour_98 : decode cX8_tour 98 = .ok (.iadd, 1) := dc_at daX8_tour_2 3 rfl
theorem dX8_tour_99 : decode cX8_tour 99 = .ok (.ireturn, 1) := dc_at daX8_tour_2 4 rfl
def dlX8_stubble_0 : List (Nat × Jvm.ClassFile.Instr × Nat) := [(0, .aload_n 0, 1), (1, .iload_n 1, 1), (2, .iload_n 2, 1), (3, .invokevirtual 306, 3), (6, .istore_n 3, 1), (7, .iload_n 3, 1), (8, .ifCond .eq 5, 3), (11, .iload_n 3, 1), (12, .ireturn, 1), (13, .aload_n 0, 1), (14, .aload_n 0, 1), (15, .getfield 44, 3), (18, .iload_n 1, 1), (19, .aaload, 1), (20, .iload_n 2, 1), (21, .invokevirtual 309, 3), (24, .aload_n 0, 1), (25, .getfield 72, 3), (28, .getfield 313, 3), (31, .ireturn, 1)]
theorem daX8_stubble_0 : dlX8_stubble_0.all (dcK cX8_stubble) = true := by decide +kernel
theorem dX8_stubble_0 : decode cX8_stubble 0 = .ok (.aload_n 0, 1) := dc_at daX8_stubble_0 0 rfl
theorem dX8_stubble_1 : decode cX8_stubble 1 = .ok (.iload_n 1, 1) := dc_at daX8_stubble_0 1 rfl
theorem dX8_stubble_2 : decode cX8_stubble 2 = .ok (.iload_n 2, 1) := dc_at daX8_stubble_0 2 rfl
theorem dX8_stubble_3 : decode cX8_stubble 3 = .ok (.invokevirtual 306, 3) := dc_at daX8_stubble_0 3 rfl
theorem dX8_stubble_6 : decode cX8_stubble 6 = .ok (.istore_n 3, 1) := dc_at daX8_stubble_0 4 rfl
theorem dX8_stubble_7 : decode cX8_stubble 7 = .ok (.iload_n 3, 1) := dc_at daX8_stubble_0 5 rfl
theorem dX8_stubble_8 : decode cX8_stubble 8 = .ok (.ifCond .eq 5, 3) := dc_at daX8_stubble_0 6 rfl
theorem dX8_stubble_11 : decode cX8_stubble 11 = .ok (.iload_n 3, 1) := dc_at daX8_stubble_0 7 rfl
theorem dX8_stubble_12 : decode cX8_stubble 12 = .ok (.ireturn, 1) := dc_at daX8_stubble_0 8 rfl
theorem dX8_stubble_13 : decode cX8_stubble 13 = .ok (.aload_n 0, 1) := dc_at daX8_stubble_0 9 rfl
theorem dX8_stubble_14 : decode cX8_stubble 14 = .ok (.aload_n 0, 1) := dc_at daX8_stubble_0 10 rfl
theorem dX8_stubble_15 : decode cX8_stubble 15 = .ok (.getfield 44, 3) := dc_at daX8_stubble_0 11 rfl
theorem dX8_stubble_18 : decode cX8_stubble 18 = .ok (.iload_n 1, 1) := dc_at daX8_stubble_0 12 rfl
theorem dX8_stubble_19 : decode cX8_stubble 19 = .ok (.aaload, 1) := dc_at daX8_stubble_0 13 rfl
theorem dX8_stubble_20 : decode cX8_stubble 20 = .ok (.iload_n 2, 1) := dc_at daX8_stubble_0 14 rfl
theorem dX8_stubble_21 : decode cX8_stubble 21 = .ok (.invokevirtual 309, 3) := dc_at daX8_stubble_0 15 rfl
theorem dX8_stubble_24 : decode cX8_stubble 24 = .ok (.aload_n 0, 1) := dc_at daX8_stubble_0 16 rfl
theorem dX8_stubble_25 : decode cX8_stubble 25 = .ok (.getfield 72, 3) := dc_at daX8_stubble_0 17 rfl
theorem dX8_stubble_28 : decode cX8_stubble 28 = .ok (.getfield 313, 3) := dc_at daX8_stubble_0 18 rfl
theorem dX8_stubble_31 : decode cX8_stubble 31 = .ok (.ireturn, 1) := dc_at daX8_stubble_0 19 rfl
def dlX8_sure_0 : List (Nat × Jvm.ClassFile.Instr × Nat) := [(0, .aload_n 0, 1), (1, .iload_n 1, 1), (2, .iload_n 2, 1), (3, .invokevirtual 306, 3), (6, .istore_n 3, 1), (7, .iload_n 3, 1), (8, .ifCond .eq 5, 3), (11, .iload_n 3, 1), (12, .ireturn, 1), (13, .aload_n 0, 1), (14, .aload_n 0, 1), (15, .getfield 44, 3), (18, .iload_n 1, 1), (19, .aaload, 1), (20, .iload_n 2, 1), (21, .invokevirtual 309, 3), (24, .aload_n 0, 1), (25, .getfield 72, 3), (28, .getfield 316, 3), (31, .ireturn, 1)]
theorem daX8_sure_0 : dlX8_sure_0.all (dcK cX8_sure) = true := by decide +kernel
theorem dX8_sure_0 : decode cX8_sure 0 = .ok (.aload_n 0, 1) := dc_at daX8_sure_0 0 rfl
theorem dX8_sure_1 : decode cX8_sure 1 = .ok (.iload_n 1, 1) := dc_at daX8_sure_0 1 rfl
theorem dX8_sure_2 : decode cX8_sure 2 = .ok (.iload_n 2, 1) := dc_at daX8_sure_0 2 rfl
theorem dX8_sure_3 : decode cX8_sure 3 = .ok (.invokevirtual 306, 3) := dc_at daX8_sure_0 3 rfl
theorem dX8_sure_6 : decode cX8_sure 6 = .ok (.istore_n 3, 1) := dc_at daX8_sure_0 4 rfl
theorem dX8_sure_7 : decode cX8_sure 7 = .ok (.iload_n 3, 1) := dc_at daX8_sure_0 5 rfl
theorem dX8_sure_8 : decode cX8_sure 8 = .ok (.ifCond .eq 5, 3) := dc_at daX8_sure_0 6 rfl
theorem dX8_sure_11 : decode cX8_sure 11 = .ok (.iload_n 3, 1) := dc_at daX8_sure_0 7 rfl
theorem dX8_sure_12 : decode cX8_sure 12 = .ok (.ireturn, 1) := dc_at daX8_sure_0 8 rfl
theorem dX8_sure_13 : decode cX8_sure 13 = .ok (.aload_n 0, 1) := dc_at daX8_sure_0 9 rfl
theorem dX8_sure_14 : decode cX8_sure 14 = .ok (.aload_n 0, 1) := dc_at daX8_sure_0 10 rfl
theorem dX8_sure_15 : decode cX8_sure 15 = .ok (.getfield 44, 3) := dc_at daX8_sure_0 11 rfl
theorem dX8_sure_18 : decode cX8_sure 18 = .ok (.iload_n 1, 1) := dc_at daX8_sure_0 12 rfl
theorem dX8_sure_19 : decode cX8_sure 19 = .ok (.aaload, 1) := dc_at daX8_sure_0 13 rfl
theorem dX8_sure_20 : decode cX8_sure 20 = .ok (.iload_n 2, 1) := dc_at daX8_sure_0 14 rfl
theorem dX8_sure_21 : decode cX8_sure 21 = .ok (.invokevirtual 309, 3) := dc_at daX8_sure_0 15 rfl
theorem dX8_sure_24 : decode cX8_sure 24 = .ok (.aload_n 0, 1) := dc_at daX8_sure_0 16 rfl
theorem dX8_sure_25 : decode cX8_sure 25 = .ok (.getfield 72, 3) := dc_at daX8_sure_0 17 rfl
theorem dX8_sure_28 : decode cX8_sure 28 = .ok (.getfield 316, 3) := dc_at daX8_sure_0 18 rfl
theorem dX8_sure_31 : decode cX8_sure 31 = .ok (.ireturn, 1) := dc_at daX8_sure_0 19 rfl
def dlX8_meets_0 : List (Nat × Jvm.ClassFile.Instr × Nat) := [(0, .aload_n 0, 1), (1, .iload_n 1, 1), (2, .iload_n 2, 1), (3, .invokevirtual 319, 3), (6, .istore_n 3, 1), (7, .iload_n 3, 1), (8, .ifCond .eq 5, 3), (11, .iload_n 3, 1), (12, .ireturn, 1), (13, .aload_n 0, 1), (14, .aload_n 0, 1), (15, .getfield 44, 3), (18, .iload_n 1, 1), (19, .aaload, 1), (20, .aload_n 0, 1), (21, .getfield 44, 3), (24, .iload_n 2, 1), (25, .aaload, 1), (26, .iconst 0, 1), (27, .invokevirtual 322, 3), (30, .ireturn, 1)]
theorem daX8_meets_0 : dlX8_meets_0.all (dcK cX8_meets) = true := by decide +kernel
theorem dX8_meets_0 : decode cX8_meets 0 = .ok (.aload_n 0, 1) := dc_at daX8_meets_0 0 rfl
theorem dX8_meets_1 : decode cX8_meets 1 = .ok (.iload_n 1, 1) := dc_at daX8_meets_0 1 rfl
theorem dX8_meets_2 : decode cX8_meets 2 = .ok (.iload_n 2, 1) := dc_at daX8_meets_0 2 rfl
theorem dX8_meets_3 : decode cX8_meets 3 = .ok (.invokevirtual 319, 3) := dc_at daX8_meets_0 3 rfl
theorem dX8_meets_6 : decode cX8_meets 6 = .ok (.istore_n 3, 1) := dc_at daX8_meets_0 4 rfl
theorem dX8_meets_7 : decode cX8_meets 7 = .ok (.iload_n 3, 1) := dc_at daX8_meets_0 5 rfl
theorem dX8_meets_8 : decode cX8_meets 8 = .ok (.ifCond .eq 5, 3) := dc_at daX8_meets_0 6 rfl
theorem dX8_meets_11 : decode cX8_meets 11 = .ok (.iload_n 3, 1) := dc_at daX8_meets_0 7 rfl
theorem dX8_meets_12 : decode cX8_meets 12 = .ok (.ireturn, 1) := dc_at daX8_meets_0 8 rfl
theorem dX8_meets_13 : decode cX8_meets 13 = .ok (.aload_n 0, 1) := dc_at daX8_meets_0 9 rfl
theorem dX8_meets_14 : decode cX8_meets 14 = .ok (.aload_n 0, 1) := dc_at daX8_meets_0 10 rfl
theorem dX8_meets_15 : decode cX8_meets 15 = .ok (.getfield 44, 3) := dc_at daX8_meets_0 11 rfl
theorem dX8_meets_18 : decode cX8_meets 18 = .ok (.iload_n 1, 1) := dc_at daX8_meets_0 12 rfl
theorem dX8_meets_19 : decode cX8_meets 19 = .ok (.aaload, 1) := dc_at daX8_meets_0 13 rfl
theorem dX8_meets_20 : decode cX8_meets 20 = .ok (.aload_n 0, 1) := dc_at daX8_meets_0 14 rfl
theorem dX8_meets_21 : decode cX8_meets 21 = .ok (.getfield 44, 3) := dc_at daX8_meets_0 15 rfl
theorem dX8_meets_24 : decode cX8_meets 24 = .ok (.iload_n 2, 1) := dc_at daX8_meets_0 16 rfl
theorem dX8_meets_25 : decode cX8_meets 25 = .ok (.aaload, 1) := dc_at daX8_meets_0 17 rfl
theorem dX8_meets_26 : decode cX8_meets 26 = .ok (.iconst 0, 1) := dc_at daX8_meets_0 18 rfl
theorem dX8_meets_27 : decode cX8_meets 27 = .ok (.invokevirtual 322, 3) := dc_at daX8_meets_0 19 rfl
theorem dX8_meets_30 : decode cX8_meets 30 = .ok (.ireturn, 1) := dc_at daX8_meets_0 20 rfl
def dlX8_delay_0 : List (Nat × Jvm.ClassFile.Instr × Nat) := [(0, .aload_n 0, 1), (1, .iload_n 1, 1), (2, .iload_n 2, 1), (3, .invokevirtual 319, 3), (6, .istore_n 3, 1), (7, .iload_n 3, 1), (8, .ifCond .eq 5, 3), (11, .iload_n 3, 1), (12, .ireturn, 1), (13, .iconst 0, 1), (14, .istore 4, 2), (16, .iload 4, 2), (18, .bipush 40, 2), (20, .if_icmp .gt 34, 3), (23, .aload_n 0, 1), (24, .aload_n 0, 1), (25, .getfield 44, 3), (28, .iload_n 1, 1), (29, .aaload, 1), (30, .aload_n 0, 1), (31, .getfield 44, 3), (34, .iload_n 2, 1), (35, .aaload, 1), (36, .iload 4, 2)]
theorem daX8_delay_0 : dlX8_delay_0.all (dcK cX8_delay) = true := by decide +kernel
theorem dX8_delay_0 : decode cX8_delay 0 = .ok (.aload_n 0, 1) := dc_at daX8_delay_0 0 rfl
theorem dX8_delay_1 : decode cX8_delay 1 = .ok (.iload_n 1, 1) := dc_at daX8_delay_0 1 rfl
theorem dX8_delay_2 : decode cX8_delay 2 = .ok (.iload_n 2, 1) := dc_at daX8_delay_0 2 rfl
theorem dX8_delay_3 : decode cX8_delay 3 = .ok (.invokevirtual 319, 3) := dc_at daX8_delay_0 3 rfl
theorem dX8_delay_6 : decode cX8_delay 6 = .ok (.istore_n 3, 1) := dc_at daX8_delay_0 4 rfl
theorem dX8_delay_7 : decode cX8_delay 7 = .ok (.iload_n 3, 1) := dc_at daX8_delay_0 5 rfl
theorem dX8_delay_8 : decode cX8_delay 8 = .ok (.ifCond .eq 5, 3) := dc_at daX8_delay_0 6 rfl
theorem dX8_delay_11 : decode cX8_delay 11 = .ok (.iload_n 3, 1) := dc_at daX8_delay_0 7 rfl
theorem dX8_delay_12 : decode cX8_delay 12 = .ok (.ireturn, 1) := dc_at daX8_delay_0 8 rfl
theorem dX8_delay_13 : decode cX8_delay 13 = .ok (.iconst 0, 1) := dc_at daX8_delay_0 9 rfl
theorem dX8_delay_14 : decode cX8_delay 14 = .ok (.istore 4, 2) := dc_at daX8_delay_0 10 rfl
theorem dX8_delay_16 : decode cX8_delay 16 = .ok (.iload 4, 2) := dc_at daX8_delay_0 11 rfl
theorem dX8_delay_18 : decode cX8_delay 18 = .ok (.bipush 40, 2) := dc_at daX8_delay_0 12 rfl
theorem dX8_delay_20 : decode cX8_delay 20 = .ok (.if_icmp .gt 34, 3) := dc_at daX8_delay_0 13 rfl
theorem dX8_delay_23 : decode cX8_delay 23 = .ok (.aload_n 0, 1) := dc_at daX8_delay_0 14 rfl
theorem dX8_delay_24 : decode cX8_delay 24 = .ok (.aload_n 0, 1) := dc_at daX8_delay_0 15 rfl
theorem dX8_delay_25 : decode cX8_delay 25 = .ok (.getfield 44, 3) := dc_at daX8_delay_0 16 rfl
theorem dX8_delay_28 : decode cX8_delay 28 = .ok (.iload_n 1, 1) := dc_at daX8_delay_0 17 rfl
theorem dX8_delay_29 : decode cX8_delay 29 = .ok (.aaload, 1) := dc_at daX8_delay_0 18 rfl
theorem dX8_delay_30 : decode cX8_delay 30 = .ok (.aload_n 0, 1) := dc_at daX8_delay_0 19 rfl
theorem dX8_delay_31 : decode cX8_delay 31 = .ok (.getfield 44, 3) := dc_at daX8_delay_0 20 rfl
theorem dX8_delay_34 : decode cX8_delay 34 = .ok (.iload_n 2, 1) := dc_at daX8_delay_0 21 rfl
theorem dX8_delay_35 : decode cX8_delay 35 = .ok (.aaload, 1) := dc_at daX8_delay_0 22 rfl
theorem dX8_delay_36 : decode cX8_delay 36 = .ok (.iload 4, 2) := dc_at daX8_delay_0 23 rfl
def dlX8_delay_1 : List (Nat × Jvm.ClassFile.Instr × Nat) := [(38, .invokevirtual 322, 3), (41, .iconst (-1), 1), (42, .if_icmp .ne 6, 3), (45, .iload 4, 2), (47, .ireturn, 1), (48, .iinc 4 1, 3), (51, .goto (-35), 3), (54, .iconst (-1), 1), (55, .ireturn, 1)]
theorem daX8_delay_1 : dlX8_delay_1.all (dcK cX8_delay) = true := by decide +kernel
theorem dX8_delay_38 : decode cX8_delay 38 = .ok (.invokevirtual 322, 3) := dc_at daX8_delay_1 0 rfl
theorem dX8_delay_41 : decode cX8_delay 41 = .ok (.iconst (-1), 1) := dc_at daX8_delay_1 1 rfl
theorem dX8_delay_42 : decode cX8_delay 42 = .ok (.if_icmp .ne 6, 3) := dc_at daX8_delay_1 2 rfl
theorem dX8_delay_45 : decode cX8_delay 45 = .ok (.iload 4, 2) := dc_at daX8_delay_1 3 rfl
theorem dX8_delay_47 : decode cX8_delay 47 = .ok (.ireturn, 1) := dc_at daX8_delay_1 4 rfl
theorem dX8_delay_48 : decode cX8_delay 48 = .ok (.iinc 4 1, 3) := dc_at daX8_delay_1 5 rfl
theorem dX8_delay_51 : decode cX8_delay 51 = .ok (.goto (-35), 3) := dc_at daX8_delay_1 6 rfl
theorem dX8_delay_54 : decode cX8_delay 54 = .ok (.iconst (-1), 1) := dc_at daX8_delay_1 7 rfl
theorem dX8_delay_55 : decode cX8_delay 55 = .ok (.ireturn, 1) := dc_at daX8_delay_1 8 rfl
def dlX8_numbers_0 : List (Nat × Jvm.ClassFile.Instr × Nat) := [(0, .iload_n 1, 1), (1, .invokestatic 182, 3), (4, .ifCond .eq 12, 3), (7, .iload_n 2, 1), (8, .ifCond .lt 8, 3), (11, .iload_n 2, 1), (12, .iconst 4, 1), (13, .if_icmp .lt 6, 3), (16, .bipush (-2), 2), (18, .ireturn, 1), (19, .iload_n 3, 1), (20, .ifCond .lt 9, 3), (23, .iload_n 3, 1), (24, .bipush 40, 2), (26, .if_icmp .le 6, 3), (29, .bipush (-3), 2), (31, .ireturn, 1), (32, .aload_n 0, 1), (33, .getfield 44, 3), (36, .iload_n 1, 1), (37, .aaload, 1), (38, .iload_n 2, 1), (39, .iload_n 3, 1), (40, .invokevirtual 326, 3)]
theorem daX8_numbers_0 : dlX8_numbers_0.all (dcK cX8_numbers) = true := by decide +kernel
theorem dX8_numbers_0 : decode cX8_numbers 0 = .ok (.iload_n 1, 1) := dc_at daX8_numbers_0 0 rfl
theorem dX8_numbers_1 : decode cX8_numbers 1 = .ok (.invokestatic 182, 3) := dc_at daX8_numbers_0 1 rfl
theorem dX8_numbers_4 : decode cX8_numbers 4 = .ok (.ifCond .eq 12, 3) := dc_at daX8_numbers_0 2 rfl
theorem dX8_numbers_7 : decode cX8_numbers 7 = .ok (.iload_n 2, 1) := dc_at daX8_numbers_0 3 rfl
theorem dX8_numbers_8 : decode cX8_numbers 8 = .ok (.ifCond .lt 8, 3) := dc_at daX8_numbers_0 4 rfl
theorem dX8_numbers_11 : decode cX8_numbers 11 = .ok (.iload_n 2, 1) := dc_at daX8_numbers_0 5 rfl
theorem dX8_numbers_12 : decode cX8_numbers 12 = .ok (.iconst 4, 1) := dc_at daX8_numbers_0 6 rfl
theorem dX8_numbers_13 : decode cX8_numbers 13 = .ok (.if_icmp .lt 6, 3) := dc_at daX8_numbers_0 7 rfl
theorem dX8_numbers_16 : decode cX8_numbers 16 = .ok (.bipush (-2), 2) := dc_at daX8_numbers_0 8 rfl
theorem dX8_numbers_18 : decode cX8_numbers 18 = .ok (.ireturn, 1) := dc_at daX8_numbers_0 9 rfl
theorem dX8_numbers_19 : decode cX8_numbers 19 = .ok (.iload_n 3, 1) := dc_at daX8_numbers_0 10 rfl
theorem dX8_numbers_20 : decode cX8_numbers 20 = .ok (.ifCond .lt 9, 3) := dc_at daX8_numbers_0 11 rfl
theorem dX8_numbers_23 : decode cX8_numbers 23 = .ok (.iload_n 3, 1) := dc_at daX8_numbers_0 12 rfl
theorem dX8_numbers_24 : decode cX8_numbers 24 = .ok (.bipush 40, 2) := dc_at daX8_numbers_0 13 rfl
theorem dX8_numbers_26 : decode cX8_numbers 26 = .ok (.if_icmp .le 6, 3) := dc_at daX8_numbers_0 14 rfl
theorem dX8_numbers_29 : decode cX8_numbers 29 = .ok (.bipush (-3), 2) := dc_at daX8_numbers_0 15 rfl
theorem dX8_numbers_31 : decode cX8_numbers 31 = .ok (.ireturn, 1) := dc_at daX8_numbers_0 16 rfl
theorem dX8_numbers_32 : decode cX8_numbers 32 = .ok (.aload_n 0, 1) := dc_at daX8_numbers_0 17 rfl
theorem dX8_numbers_33 : decode cX8_numbers 33 = .ok (.getfield 44, 3) := dc_at daX8_numbers_0 18 rfl
theorem dX8_numbers_36 : decode cX8_numbers 36 = .ok (.iload_n 1, 1) := dc_at daX8_numbers_0 19 rfl
theorem dX8_numbers_37 : decode cX8_numbers 37 = .ok (.aaload, 1) := dc_at daX8_numbers_0 20 rfl
theorem dX8_numbers_38 : decode cX8_numbers 38 = .ok (.iload_n 2, 1) := dc_at daX8_numbers_0 21 rfl
theorem dX8_numbers_39 : decode cX8_numbers 39 = .ok (.iload_n 3, 1) := dc_at daX8_numbers_0 22 rfl
theorem dX8_numbers_40 : decode cX8_numbers 40 = .ok (.invokevirtual 326, 3) := dc_at daX8_numbers_0 23 rfl
def dlX8_numbers_1 : List (Nat × Jvm.ClassFile.Instr × Nat) := [(43, .iconst 0, 1), (44, .ireturn, 1)]
theorem daX8_numbers_1 : dlX8_numbers_1.all (dcK cX8_numbers) = true := by decide +kernel
theorem dX8_numbers_43 : decode cX8_numbers 43 = .ok (.iconst 0, 1) := dc_at daX8_numbers_1 0 rfl
theorem dX8_numbers_44 : decode cX8_numbers 44 = .ok (.ireturn, 1) := dc_at daX8_numbers_1 1 rfl
def dlX8_write_0 : List (Nat × Jvm.ClassFile.Instr × Nat) := [(0, .iload_n 1, 1), (1, .invokestatic 182, 3), (4, .ifCond .ne 7, 3), (7, .ldc2_w 330, 3), (10, .lreturn, 1), (11, .aload_n 0, 1), (12, .getfield 44, 3), (15, .iload_n 1, 1), (16, .aaload, 1), (17, .astore 5, 2), (19, .aload 5, 2), (21, .getfield 185, 3), (24, .ifCond .eq 7, 3), (27, .ldc2_w 332, 3), (30, .lreturn, 1), (31, .iload_n 2, 1), (32, .ifCond .lt 12, 3), (35, .iload_n 2, 1), (36, .aload 5, 2), (38, .getfield 193, 3), (41, .if_icmp .lt 7, 3), (44, .ldc2_w 334, 3), (47, .lreturn, 1), (48, .aload 5, 2)]
theorem daX8_write_0 : dlX8_write_0.all (dcK cX8_write) = true := by decide +kernel
theorem dX8_write_0 : decode cX8_write 0 = .ok (.iload_n 1, 1) := dc_at daX8_write_0 0 rfl
theorem dX8_write_1 : decode cX8_write 1 = .ok (.invokestatic 182, 3) := dc_at daX8_write_0 1 rfl
theorem dX8_write_4 : decode cX8_write 4 = .ok (.ifCond .ne 7, 3) := dc_at daX8_write_0 2 rfl
theorem dX8_write_7 : decode cX8_write 7 = .ok (.ldc2_w 330, 3) := dc_at daX8_write_0 3 rfl
theorem dX8_write_10 : decode cX8_write 10 = .ok (.lreturn, 1) := dc_at daX8_write_0 4 rfl
theorem dX8_write_11 : decode cX8_write 11 = .ok (.aload_n 0, 1) := dc_at daX8_write_0 5 rfl
theorem dX8_write_12 : decode cX8_write 12 = .ok (.getfield 44, 3) := dc_at daX8_write_0 6 rfl
theorem dX8_write_15 : decode cX8_write 15 = .ok (.iload_n 1, 1) := dc_at daX8_write_0 7 rfl
theorem dX8_write_16 : decode cX8_write 16 = .ok (.aaload, 1) := dc_at daX8_write_0 8 rfl
theorem dX8_write_17 : decode cX8_write 17 = .ok (.astore 5, 2) := dc_at daX8_write_0 9 rfl
theorem dX8_write_19 : decode cX8_write 19 = .ok (.aload 5, 2) := dc_at daX8_write_0 10 rfl
theorem dX8_write_21 : decode cX8_write 21 = .ok (.getfield 185, 3) := dc_at daX8_write_0 11 rfl
theorem dX8_write_24 : decode cX8_write 24 = .ok (.ifCond .eq 7, 3) := dc_at daX8_write_0 12 rfl
theorem dX8_write_27 : decode cX8_write 27 = .ok (.ldc2_w 332, 3) := dc_at daX8_write_0 13 rfl
theorem dX8_write_30 : decode cX8_write 30 = .ok (.lreturn, 1) := dc_at daX8_write_0 14 rfl
theorem dX8_write_31 : decode cX8_write 31 = .ok (.iload_n 2, 1) := dc_at daX8_write_0 15 rfl
theorem dX8_write_32 : decode cX8_write 32 = .ok (.ifCond .lt 12, 3) := dc_at daX8_write_0 16 rfl
theorem dX8_write_35 : decode cX8_write 35 = .ok (.iload_n 2, 1) := dc_at daX8_write_0 17 rfl
theorem dX8_write_36 : decode cX8_write 36 = .ok (.aload 5, 2) := dc_at daX8_write_0 18 rfl
theorem dX8_write_38 : decode cX8_write 38 = .ok (.getfield 193, 3) := dc_at daX8_write_0 19 rfl
theorem dX8_write_41 : decode cX8_write 41 = .ok (.if_icmp .lt 7, 3) := dc_at daX8_write_0 20 rfl
theorem dX8_write_44 : decode cX8_write 44 = .ok (.ldc2_w 334, 3) := dc_at daX8_write_0 21 rfl
theorem dX8_write_47 : decode cX8_write 47 = .ok (.lreturn, 1) := dc_at daX8_write_0 22 rfl
theorem dX8_write_48 : decode cX8_write 48 = .ok (.aload 5, 2) := dc_at daX8_write_0 23 rfl
def dlX8_write_1 : List (Nat × Jvm.ClassFile.Instr × Nat) := [(50, .iload_n 2, 1), (51, .lload_n 3, 1), (52, .invokevirtual 336, 3), (55, .lreturn, 1)]
theorem daX8_write_1 : dlX8_write_1.all (dcK cX8_write) = true := by decide +kernel
theorem dX8_write_50 : decode cX8_write 50 = .ok (.iload_n 2, 1) := dc_at daX8_write_1 0 rfl
theorem dX8_write_51 : decode cX8_write 51 = .ok (.lload_n 3, 1) := dc_at daX8_write_1 1 rfl
theorem dX8_write_52 : decode cX8_write 52 = .ok (.invokevirtual 336, 3) := dc_at daX8_write_1 2 rfl
theorem dX8_write_55 : decode cX8_write 55 = .ok (.lreturn, 1) := dc_at daX8_write_1 3 rfl
def dlX8_copy_0 : List (Nat × Jvm.ClassFile.Instr × Nat) := [(0, .iload_n 1, 1), (1, .invokestatic 182, 3), (4, .ifCond .ne 6, 3), (7, .bipush (-2), 2), (9, .ireturn, 1), (10, .aload_n 0, 1), (11, .getfield 44, 3), (14, .iload_n 1, 1), (15, .aaload, 1), (16, .astore_n 2, 1), (17, .aload_n 2, 1), (18, .getfield 185, 3), (21, .ifCond .eq 6, 3), (24, .bipush (-6), 2), (26, .ireturn, 1), (27, .aload_n 2, 1), (28, .getfield 193, 3), (31, .aload_n 0, 1), (32, .getfield 27, 3), (35, .getfield 161, 3), (38, .if_icmp .ge 6, 3), (41, .bipush (-7), 2), (43, .ireturn, 1), (44, .iconst 0, 1)]
theorem daX8_copy_0 : dlX8_copy_0.all (dcK cX8_copy) = true := by decide +kernel
theorem dX8_copy_0 : decode cX8_copy 0 = .ok (.iload_n 1, 1) := dc_at daX8_copy_0 0 rfl
theorem dX8_copy_1 : decode cX8_copy 1 = .ok (.invokestatic 182, 3) := dc_at daX8_copy_0 1 rfl
theorem dX8_copy_4 : decode cX8_copy 4 = .ok (.ifCond .ne 6, 3) := dc_at daX8_copy_0 2 rfl
theorem dX8_copy_7 : decode cX8_copy 7 = .ok (.bipush (-2), 2) := dc_at daX8_copy_0 3 rfl
theorem dX8_copy_9 : decode cX8_copy 9 = .ok (.ireturn, 1) := dc_at daX8_copy_0 4 rfl
theorem dX8_copy_10 : decode cX8_copy 10 = .ok (.aload_n 0, 1) := dc_at daX8_copy_0 5 rfl
theorem dX8_copy_11 : decode cX8_copy 11 = .ok (.getfield 44, 3) := dc_at daX8_copy_0 6 rfl
theorem dX8_copy_14 : decode cX8_copy 14 = .ok (.iload_n 1, 1) := dc_at daX8_copy_0 7 rfl
theorem dX8_copy_15 : decode cX8_copy 15 = .ok (.aaload, 1) := dc_at daX8_copy_0 8 rfl
theorem dX8_copy_16 : decode cX8_copy 16 = .ok (.astore_n 2, 1) := dc_at daX8_copy_0 9 rfl
theorem dX8_copy_17 : decode cX8_copy 17 = .ok (.aload_n 2, 1) := dc_at daX8_copy_0 10 rfl
theorem dX8_copy_18 : decode cX8_copy 18 = .ok (.getfield 185, 3) := dc_at daX8_copy_0 11 rfl
theorem dX8_copy_21 : decode cX8_copy 21 = .ok (.ifCond .eq 6, 3) := dc_at daX8_copy_0 12 rfl
theorem dX8_copy_24 : decode cX8_copy 24 = .ok (.bipush (-6), 2) := dc_at daX8_copy_0 13 rfl
theorem dX8_copy_26 : decode cX8_copy 26 = .ok (.ireturn, 1) := dc_at daX8_copy_0 14 rfl
theorem dX8_copy_27 : decode cX8_copy 27 = .ok (.aload_n 2, 1) := dc_at daX8_copy_0 15 rfl
theorem dX8_copy_28 : decode cX8_copy 28 = .ok (.getfield 193, 3) := dc_at daX8_copy_0 16 rfl
theorem dX8_copy_31 : decode cX8_copy 31 = .ok (.aload_n 0, 1) := dc_at daX8_copy_0 17 rfl
theorem dX8_copy_32 : decode cX8_copy 32 = .ok (.getfield 27, 3) := dc_at daX8_copy_0 18 rfl
theorem dX8_copy_35 : decode cX8_copy 35 = .ok (.getfield 161, 3) := dc_at daX8_copy_0 19 rfl
theorem dX8_copy_38 : decode cX8_copy 38 = .ok (.if_icmp .ge 6, 3) := dc_at daX8_copy_0 20 rfl
theorem dX8_copy_41 : decode cX8_copy 41 = .ok (.bipush (-7), 2) := dc_at daX8_copy_0 21 rfl
theorem dX8_copy_43 : decode cX8_copy 43 = .ok (.ireturn, 1) := dc_at daX8_copy_0 22 rfl
theorem dX8_copy_44 : decode cX8_copy 44 = .ok (.iconst 0, 1) := dc_at daX8_copy_0 23 rfl
def dlX8_copy_1 : List (Nat × Jvm.ClassFile.Instr × Nat) := [(45, .istore_n 3, 1), (46, .iload_n 3, 1), (47, .aload_n 0, 1), (48, .getfield 27, 3), (51, .getfield 161, 3), (54, .if_icmp .ge 25, 3), (57, .aload_n 2, 1), (58, .iload_n 3, 1), (59, .aload_n 0, 1), (60, .getfield 27, 3), (63, .getfield 112, 3), (66, .iload_n 3, 1), (67, .iaload, 1), (68, .i2l, 1), (69, .invokevirtual 336, 3), (72, .pop2, 1), (73, .iinc 3 1, 3), (76, .goto (-30), 3), (79, .aload_n 0, 1), (80, .getfield 27, 3), (83, .getfield 161, 3), (86, .ireturn, 1)]
theorem daX8_copy_1 : dlX8_copy_1.all (dcK cX8_copy) = true := by decide +kernel
theorem dX8_copy_45 : decode cX8_copy 45 = .ok (.istore_n 3, 1) := dc_at daX8_copy_1 0 rfl
theorem dX8_copy_46 : decode cX8_copy 46 = .ok (.iload_n 3, 1) := dc_at daX8_copy_1 1 rfl
theorem dX8_copy_47 : decode cX8_copy 47 = .ok (.aload_n 0, 1) := dc_at daX8_copy_1 2 rfl
theorem dX8_copy_48 : decode cX8_copy 48 = .ok (.getfield 27, 3) := dc_at daX8_copy_1 3 rfl
theorem dX8_copy_51 : decode cX8_copy 51 = .ok (.getfield 161, 3) := dc_at daX8_copy_1 4 rfl
theorem dX8_copy_54 : decode cX8_copy 54 = .ok (.if_icmp .ge 25, 3) := dc_at daX8_copy_1 5 rfl
theorem dX8_copy_57 : decode cX8_copy 57 = .ok (.aload_n 2, 1) := dc_at daX8_copy_1 6 rfl
theorem dX8_copy_58 : decode cX8_copy 58 = .ok (.iload_n 3, 1) := dc_at daX8_copy_1 7 rfl
theorem dX8_copy_59 : decode cX8_copy 59 = .ok (.aload_n 0, 1) := dc_at daX8_copy_1 8 rfl
theorem dX8_copy_60 : decode cX8_copy 60 = .ok (.getfield 27, 3) := dc_at daX8_copy_1 9 rfl
theorem dX8_copy_63 : decode cX8_copy 63 = .ok (.getfield 112, 3) := dc_at daX8_copy_1 10 rfl
theorem dX8_copy_66 : decode cX8_copy 66 = .ok (.iload_n 3, 1) := dc_at daX8_copy_1 11 rfl
theorem dX8_copy_67 : decode cX8_copy 67 = .ok (.iaload, 1) := dc_at daX8_copy_1 12 rfl
theorem dX8_copy_68 : decode cX8_copy 68 = .ok (.i2l, 1) := dc_at daX8_copy_1 13 rfl
theorem dX8_copy_69 : decode cX8_copy 69 = .ok (.invokevirtual 336, 3) := dc_at daX8_copy_1 14 rfl
theorem dX8_copy_72 : decode cX8_copy 72 = .ok (.pop2, 1) := dc_at daX8_copy_1 15 rfl
theorem dX8_copy_73 : decode cX8_copy 73 = .ok (.iinc 3 1, 3) := dc_at daX8_copy_1 16 rfl
theorem dX8_copy_76 : decode cX8_copy 76 = .ok (.goto (-30), 3) := dc_at daX8_copy_1 17 rfl
theorem dX8_copy_79 : decode cX8_copy 79 = .ok (.aload_n 0, 1) := dc_at daX8_copy_1 18 rfl
theorem dX8_copy_80 : decode cX8_copy 80 = .ok (.getfield 27, 3) := dc_at daX8_copy_1 19 rfl
theorem dX8_copy_83 : decode cX8_copy 83 = .ok (.getfield 161, 3) := dc_at daX8_copy_1 20 rfl
theorem dX8_copy_86 : decode cX8_copy 86 = .ok (.ireturn, 1) := dc_at daX8_copy_1 21 rfl
def dlX8_image_0 : List (Nat × Jvm.ClassFile.Instr × Nat) := [(0, .iload_n 1, 1), (1, .ifCond .lt 8, 3), (4, .iload_n 1, 1), (5, .iconst 2, 1), (6, .if_icmp .lt 6, 3), (9, .bipush (-2), 2), (11, .ireturn, 1), (12, .aload_n 0, 1), (13, .getfield 34, 3), (16, .iload_n 1, 1), (17, .aaload, 1), (18, .aload_n 0, 1), (19, .getfield 27, 3), (22, .invokevirtual 95, 3), (25, .aload_n 0, 1), (26, .getfield 38, 3), (29, .iload_n 1, 1), (30, .iconst 1, 1), (31, .bastore, 1), (32, .iconst 0, 1), (33, .ireturn, 1)]
theorem daX8_image_0 : dlX8_image_0.all (dcK cX8_image) = true := by decide +kernel
theorem dX8_image_0 : decode cX8_image 0 = .ok (.iload_n 1, 1) := dc_at daX8_image_0 0 rfl
theorem dX8_image_1 : decode cX8_image 1 = .ok (.ifCond .lt 8, 3) := dc_at daX8_image_0 1 rfl
theorem dX8_image_4 : decode cX8_image 4 = .ok (.iload_n 1, 1) := dc_at daX8_image_0 2 rfl
theorem dX8_image_5 : decode cX8_image 5 = .ok (.iconst 2, 1) := dc_at daX8_image_0 3 rfl
theorem dX8_image_6 : decode cX8_image 6 = .ok (.if_icmp .lt 6, 3) := dc_at daX8_image_0 4 rfl
theorem dX8_image_9 : decode cX8_image 9 = .ok (.bipush (-2), 2) := dc_at daX8_image_0 5 rfl
theorem dX8_image_11 : decode cX8_image 11 = .ok (.ireturn, 1) := dc_at daX8_image_0 6 rfl
theorem dX8_image_12 : decode cX8_image 12 = .ok (.aload_n 0, 1) := dc_at daX8_image_0 7 rfl
theorem dX8_image_13 : decode cX8_image 13 = .ok (.getfield 34, 3) := dc_at daX8_image_0 8 rfl
theorem dX8_image_16 : decode cX8_image 16 = .ok (.iload_n 1, 1) := dc_at daX8_image_0 9 rfl
theorem dX8_image_17 : decode cX8_image 17 = .ok (.aaload, 1) := dc_at daX8_image_0 10 rfl
theorem dX8_image_18 : decode cX8_image 18 = .ok (.aload_n 0, 1) := dc_at daX8_image_0 11 rfl
theorem dX8_image_19 : decode cX8_image 19 = .ok (.getfield 27, 3) := dc_at daX8_image_0 12 rfl
theorem dX8_image_22 : decode cX8_image 22 = .ok (.invokevirtual 95, 3) := dc_at daX8_image_0 13 rfl
theorem dX8_image_25 : decode cX8_image 25 = .ok (.aload_n 0, 1) := dc_at daX8_image_0 14 rfl
theorem dX8_image_26 : decode cX8_image 26 = .ok (.getfield 38, 3) := dc_at daX8_image_0 15 rfl
theorem dX8_image_29 : decode cX8_image 29 = .ok (.iload_n 1, 1) := dc_at daX8_image_0 16 rfl
theorem dX8_image_30 : decode cX8_image 30 = .ok (.iconst 1, 1) := dc_at daX8_image_0 17 rfl
theorem dX8_image_31 : decode cX8_image 31 = .ok (.bastore, 1) := dc_at daX8_image_0 18 rfl
theorem dX8_image_32 : decode cX8_image 32 = .ok (.iconst 0, 1) := dc_at daX8_image_0 19 rfl
theorem dX8_image_33 : decode cX8_image 33 = .ok (.ireturn, 1) := dc_at daX8_image_0 20 rfl
def dlX8_restore_0 : List (Nat × Jvm.ClassFile.Instr × Nat) := [(0, .iload_n 1, 1), (1, .ifCond .lt 8, 3), (4, .iload_n 1, 1), (5, .iconst 2, 1), (6, .if_icmp .lt 6, 3), (9, .bipush (-2), 2), (11, .ireturn, 1), (12, .aload_n 0, 1), (13, .getfield 38, 3), (16, .iload_n 1, 1), (17, .baload, 1), (18, .ifCond .ne 6, 3), (21, .bipush (-5), 2), (23, .ireturn, 1), (24, .aload_n 0, 1), (25, .getfield 27, 3), (28, .aload_n 0, 1), (29, .getfield 34, 3), (32, .iload_n 1, 1), (33, .aaload, 1), (34, .invokevirtual 95, 3), (37, .iconst 0, 1), (38, .ireturn, 1)]
theorem daX8_restore_0 : dlX8_restore_0.all (dcK cX8_restore) = true := by decide +kernel
theorem dX8_restore_0 : decode cX8_restore 0 = .ok (.iload_n 1, 1) := dc_at daX8_restore_0 0 rfl
theorem dX8_restore_1 : decode cX8_restore 1 = .ok (.ifCond .lt 8, 3) := dc_at daX8_restore_0 1 rfl
theorem dX8_restore_4 : decode cX8_restore 4 = .ok (.iload_n 1, 1) := dc_at daX8_restore_0 2 rfl
theorem dX8_restore_5 : decode cX8_restore 5 = .ok (.iconst 2, 1) := dc_at daX8_restore_0 3 rfl
theorem dX8_restore_6 : decode cX8_restore 6 = .ok (.if_icmp .lt 6, 3) := dc_at daX8_restore_0 4 rfl
theorem dX8_restore_9 : decode cX8_restore 9 = .ok (.bipush (-2), 2) := dc_at daX8_restore_0 5 rfl
theorem dX8_restore_11 : decode cX8_restore 11 = .ok (.ireturn, 1) := dc_at daX8_restore_0 6 rfl
theorem dX8_restore_12 : decode cX8_restore 12 = .ok (.aload_n 0, 1) := dc_at daX8_restore_0 7 rfl
theorem dX8_restore_13 : decode cX8_restore 13 = .ok (.getfield 38, 3) := dc_at daX8_restore_0 8 rfl
theorem dX8_restore_16 : decode cX8_restore 16 = .ok (.iload_n 1, 1) := dc_at daX8_restore_0 9 rfl
theorem dX8_restore_17 : decode cX8_restore 17 = .ok (.baload, 1) := dc_at daX8_restore_0 10 rfl
theorem dX8_restore_18 : decode cX8_restore 18 = .ok (.ifCond .ne 6, 3) := dc_at daX8_restore_0 11 rfl
theorem dX8_restore_21 : decode cX8_restore 21 = .ok (.bipush (-5), 2) := dc_at daX8_restore_0 12 rfl
theorem dX8_restore_23 : decode cX8_restore 23 = .ok (.ireturn, 1) := dc_at daX8_restore_0 13 rfl
theorem dX8_restore_24 : decode cX8_restore 24 = .ok (.aload_n 0, 1) := dc_at daX8_restore_0 14 rfl
theorem dX8_restore_25 : decode cX8_restore 25 = .ok (.getfield 27, 3) := dc_at daX8_restore_0 15 rfl
theorem dX8_restore_28 : decode cX8_restore 28 = .ok (.aload_n 0, 1) := dc_at daX8_restore_0 16 rfl
theorem dX8_restore_29 : decode cX8_restore 29 = .ok (.getfield 34, 3) := dc_at daX8_restore_0 17 rfl
theorem dX8_restore_32 : decode cX8_restore 32 = .ok (.iload_n 1, 1) := dc_at daX8_restore_0 18 rfl
theorem dX8_restore_33 : decode cX8_restore 33 = .ok (.aaload, 1) := dc_at daX8_restore_0 19 rfl
theorem dX8_restore_34 : decode cX8_restore 34 = .ok (.invokevirtual 95, 3) := dc_at daX8_restore_0 20 rfl
theorem dX8_restore_37 : decode cX8_restore 37 = .ok (.iconst 0, 1) := dc_at daX8_restore_0 21 rfl
theorem dX8_restore_38 : decode cX8_restore 38 = .ok (.ireturn, 1) := dc_at daX8_restore_0 22 rfl
def dlX8_count_0 : List (Nat × Jvm.ClassFile.Instr × Nat) := [(0, .iload_n 1, 1), (1, .tableswitch 182 0 12 #[67, 75, 83, 91, 99, 107, 115, 123, 131, 139, 154, 169, 174], 67), (68, .aload_n 0, 1), (69, .getfield 27, 3), (72, .getfield 161, 3), (75, .ireturn, 1), (76, .aload_n 0, 1), (77, .getfield 27, 3), (80, .getfield 216, 3), (83, .ireturn, 1), (84, .aload_n 0, 1), (85, .getfield 27, 3), (88, .invokevirtual 204, 3), (91, .ireturn, 1), (92, .aload_n 0, 1), (93, .getfield 27, 3), (96, .getfield 167, 3), (99, .ireturn, 1), (100, .aload_n 0, 1), (101, .getfield 27, 3), (104, .getfield 340, 3), (107, .ireturn, 1), (108, .aload_n 0, 1), (109, .getfield 27, 3)]
theorem daX8_count_0 : dlX8_count_0.all (dcK cX8_count) = true := by decide +kernel
theorem dX8_count_0 : decode cX8_count 0 = .ok (.iload_n 1, 1) := dc_at daX8_count_0 0 rfl
theorem dX8_count_1 : decode cX8_count 1 = .ok (.tableswitch 182 0 12 #[67, 75, 83, 91, 99, 107, 115, 123, 131, 139, 154, 169, 174], 67) := dc_at daX8_count_0 1 rfl
theorem dX8_count_68 : decode cX8_count 68 = .ok (.aload_n 0, 1) := dc_at daX8_count_0 2 rfl
theorem dX8_count_69 : decode cX8_count 69 = .ok (.getfield 27, 3) := dc_at daX8_count_0 3 rfl
theorem dX8_count_72 : decode cX8_count 72 = .ok (.getfield 161, 3) := dc_at daX8_count_0 4 rfl
theorem dX8_count_75 : decode cX8_count 75 = .ok (.ireturn, 1) := dc_at daX8_count_0 5 rfl
theorem dX8_count_76 : decode cX8_count 76 = .ok (.aload_n 0, 1) := dc_at daX8_count_0 6 rfl
theorem dX8_count_77 : decode cX8_count 77 = .ok (.getfield 27, 3) := dc_at daX8_count_0 7 rfl
theorem dX8_count_80 : decode cX8_count 80 = .ok (.getfield 216, 3) := dc_at daX8_count_0 8 rfl
theorem dX8_count_83 : decode cX8_count 83 = .ok (.ireturn, 1) := dc_at daX8_count_0 9 rfl
theorem dX8_count_84 : decode cX8_count 84 = .ok (.aload_n 0, 1) := dc_at daX8_count_0 10 rfl
theorem dX8_count_85 : decode cX8_count 85 = .ok (.getfield 27, 3) := dc_at daX8_count_0 11 rfl
theorem dX8_count_88 : decode cX8_count 88 = .ok (.invokevirtual 204, 3) := dc_at daX8_count_0 12 rfl
theorem dX8_count_91 : decode cX8_count 91 = .ok (.ireturn, 1) := dc_at daX8_count_0 13 rfl
theorem dX8_count_92 : decode cX8_count 92 = .ok (.aload_n 0, 1) := dc_at daX8_count_0 14 rfl
theorem dX8_count_93 : decode cX8_count 93 = .ok (.getfield 27, 3) := dc_at daX8_count_0 15 rfl
theorem dX8_count_96 : decode cX8_count 96 = .ok (.getfield 167, 3) := dc_at daX8_count_0 16 rfl
theorem dX8_count_99 : decode cX8_count 99 = .ok (.ireturn, 1) := dc_at daX8_count_0 17 rfl
theorem dX8_count_100 : decode cX8_count 100 = .ok (.aload_n 0, 1) := dc_at daX8_count_0 18 rfl
theorem dX8_count_101 : decode cX8_count 101 = .ok (.getfield 27, 3) := dc_at daX8_count_0 19 rfl
theorem dX8_count_104 : decode cX8_count 104 = .ok (.getfield 340, 3) := dc_at daX8_count_0 20 rfl
theorem dX8_count_107 : decode cX8_count 107 = .ok (.ireturn, 1) := dc_at daX8_count_0 21 rfl
theorem dX8_count_108 : decode cX8_count 108 = .ok (.aload_n 0, 1) := dc_at daX8_count_0 22 rfl
theorem dX8_count_109 : decode cX8_count 109 = .ok (.getfield 27, 3) := dc_at daX8_count_0 23 rfl
def dlX8_count_1 : List (Nat × Jvm.ClassFile.Instr × Nat) := [(112, .getfield 343, 3), (115, .ireturn, 1), (116, .aload_n 0, 1), (117, .getfield 27, 3), (120, .getfield 208, 3), (123, .ireturn, 1), (124, .aload_n 0, 1), (125, .getfield 27, 3), (128, .getfield 222, 3), (131, .ireturn, 1), (132, .aload_n 0, 1), (133, .getfield 27, 3), (136, .getfield 346, 3), (139, .ireturn, 1), (140, .aload_n 0, 1), (141, .getfield 27, 3), (144, .aload_n 0, 1), (145, .getfield 27, 3), (148, .getfield 112, 3), (151, .invokevirtual 200, 3), (154, .ireturn, 1), (155, .aload_n 0, 1), (156, .getfield 27, 3), (159, .aload_n 0, 1)]
theorem daX8_count_1 : dlX8_count_1.all (dcK cX8_count) = true := by decide +kernel
theorem dX8_count_112 : decode cX8_count 112 = .ok (.getfield 343, 3) := dc_at daX8_count_1 0 rfl
theorem dX8_count_115 : decode cX8_count 115 = .ok (.ireturn, 1) := dc_at daX8_count_1 1 rfl
theorem dX8_count_116 : decode cX8_count 116 = .ok (.aload_n 0, 1) := dc_at daX8_count_1 2 rfl
theorem dX8_count_117 : decode cX8_count 117 = .ok (.getfield 27, 3) := dc_at daX8_count_1 3 rfl
theorem dX8_count_120 : decode cX8_count 120 = .ok (.getfield 208, 3) := dc_at daX8_count_1 4 rfl
theorem dX8_count_123 : decode cX8_count 123 = .ok (.ireturn, 1) := dc_at daX8_count_1 5 rfl
theorem dX8_count_124 : decode cX8_count 124 = .ok (.aload_n 0, 1) := dc_at daX8_count_1 6 rfl
theorem dX8_count_125 : decode cX8_count 125 = .ok (.getfield 27, 3) := dc_at daX8_count_1 7 rfl
theorem dX8_count_128 : decode cX8_count 128 = .ok (.getfield 222, 3) := dc_at daX8_count_1 8 rfl
theorem dX8_count_131 : decode cX8_count 131 = .ok (.ireturn, 1) := dc_at daX8_count_1 9 rfl
theorem dX8_count_132 : decode cX8_count 132 = .ok (.aload_n 0, 1) := dc_at daX8_count_1 10 rfl
theorem dX8_count_133 : decode cX8_count 133 = .ok (.getfield 27, 3) := dc_at daX8_count_1 11 rfl
theorem dX8_count_136 : decode cX8_count 136 = .ok (.getfield 346, 3) := dc_at daX8_count_1 12 rfl
theorem dX8_count_139 : decode cX8_count 139 = .ok (.ireturn, 1) := dc_at daX8_count_1 13 rfl
theorem dX8_count_140 : decode cX8_count 140 = .ok (.aload_n 0, 1) := dc_at daX8_count_1 14 rfl
theorem dX8_count_141 : decode cX8_count 141 = .ok (.getfield 27, 3) := dc_at daX8_count_1 15 rfl
theorem dX8_count_144 : decode cX8_count 144 = .ok (.aload_n 0, 1) := dc_at daX8_count_1 16 rfl
theorem dX8_count_145 : decode cX8_count 145 = .ok (.getfield 27, 3) := dc_at daX8_count_1 17 rfl
theorem dX8_count_148 : decode cX8_count 148 = .ok (.getfield 112, 3) := dc_at daX8_count_1 18 rfl
theorem dX8_count_151 : decode cX8_count 151 = .ok (.invokevirtual 200, 3) := dc_at daX8_count_1 19 rfl
theorem dX8_count_154 : decode cX8_count 154 = .ok (.ireturn, 1) := dc_at daX8_count_1 20 rfl
theorem dX8_count_155 : decode cX8_count 155 = .ok (.aload_n 0, 1) := dc_at daX8_count_1 21 rfl
theorem dX8_count_156 : decode cX8_count 156 = .ok (.getfield 27, 3) := dc_at daX8_count_1 22 rfl
theorem dX8_count_159 : decode cX8_count 159 = .ok (.aload_n 0, 1) := dc_at daX8_count_1 23 rfl
def dlX8_count_2 : List (Nat × Jvm.ClassFile.Instr × Nat) := [(160, .getfield 27, 3), (163, .getfield 125, 3), (166, .invokevirtual 200, 3), (169, .ireturn, 1), (170, .aload_n 0, 1), (171, .getfield 13, 3), (174, .ireturn, 1), (175, .aload_n 0, 1), (176, .getfield 27, 3), (179, .getfield 99, 3), (182, .ireturn, 1), (183, .iconst (-1), 1), (184, .ireturn, 1)]
theorem daX8_count_2 : dlX8_count_2.all (dcK cX8_count) = true := by decide +kernel
theorem dX8_count_160 : decode cX8_count 160 = .ok (.getfield 27, 3) := dc_at daX8_count_2 0 rfl
theorem dX8_count_163 : decode cX8_count 163 = .ok (.getfield 125, 3) := dc_at daX8_count_2 1 rfl
theorem dX8_count_166 : decode cX8_count 166 = .ok (.invokevirtual 200, 3) := dc_at daX8_count_2 2 rfl
theorem dX8_count_169 : decode cX8_count 169 = .ok (.ireturn, 1) := dc_at daX8_count_2 3 rfl
theorem dX8_count_170 : decode cX8_count 170 = .ok (.aload_n 0, 1) := dc_at daX8_count_2 4 rfl
theorem dX8_count_171 : decode cX8_count 171 = .ok (.getfield 13, 3) := dc_at daX8_count_2 5 rfl
theorem dX8_count_174 : decode cX8_count 174 = .ok (.ireturn, 1) := dc_at daX8_count_2 6 rfl
theorem dX8_count_175 : decode cX8_count 175 = .ok (.aload_n 0, 1) := dc_at daX8_count_2 7 rfl
theorem dX8_count_176 : decode cX8_count 176 = .ok (.getfield 27, 3) := dc_at daX8_count_2 8 rfl
theorem dX8_count_179 : decode cX8_count 179 = .ok (.getfield 99, 3) := dc_at daX8_count_2 9 rfl
theorem dX8_count_182 : decode cX8_count 182 = .ok (.ireturn, 1) := dc_at daX8_count_2 10 rfl
theorem dX8_count_183 : decode cX8_count 183 = .ok (.iconst (-1), 1) := dc_at daX8_count_2 11 rfl
theorem dX8_count_184 : decode cX8_count 184 = .ok (.ireturn, 1) := dc_at daX8_count_2 12 rfl
def dlX8_tapeInt_0 : List (Nat × Jvm.ClassFile.Instr × Nat) := [(0, .bipush 24, 2), (2, .istore_n 2, 1), (3, .iload_n 2, 1), (4, .ifCond .lt 42, 3), (7, .aload_n 0, 1), (8, .getfield 13, 3), (11, .sipush 900, 3), (14, .if_icmp .ge 32, 3), (17, .aload_n 0, 1), (18, .getfield 9, 3), (21, .aload_n 0, 1), (22, .getfield 13, 3), (25, .iload_n 1, 1), (26, .iload_n 2, 1), (27, .iushr, 1), (28, .i2b, 1), (29, .bastore, 1), (30, .aload_n 0, 1), (31, .dup, 1), (32, .getfield 13, 3), (35, .iconst 1, 1), (36, .iadd, 1), (37, .putfield 13, 3), (40, .iinc 2 (-8), 3)]
theorem daX8_tapeInt_0 : dlX8_tapeInt_0.all (dcK cX8_tapeInt) = true := by decide +kernel
theorem dX8_tapeInt_0 : decode cX8_tapeInt 0 = .ok (.bipush 24, 2) := dc_at daX8_tapeInt_0 0 rfl
theorem dX8_tapeInt_2 : decode cX8_tapeInt 2 = .ok (.istore_n 2, 1) := dc_at daX8_tapeInt_0 1 rfl
theorem dX8_tapeInt_3 : decode cX8_tapeInt 3 = .ok (.iload_n 2, 1) := dc_at daX8_tapeInt_0 2 rfl
theorem dX8_tapeInt_4 : decode cX8_tapeInt 4 = .ok (.ifCond .lt 42, 3) := dc_at daX8_tapeInt_0 3 rfl
theorem dX8_tapeInt_7 : decode cX8_tapeInt 7 = .ok (.aload_n 0, 1) := dc_at daX8_tapeInt_0 4 rfl
theorem dX8_tapeInt_8 : decode cX8_tapeInt 8 = .ok (.getfield 13, 3) := dc_at daX8_tapeInt_0 5 rfl
theorem dX8_tapeInt_11 : decode cX8_tapeInt 11 = .ok (.sipush 900, 3) := dc_at daX8_tapeInt_0 6 rfl
theorem dX8_tapeInt_14 : decode cX8_tapeInt 14 = .ok (.if_icmp .ge 32, 3) := dc_at daX8_tapeInt_0 7 rfl
theorem dX8_tapeInt_17 : decode cX8_tapeInt 17 = .ok (.aload_n 0, 1) := dc_at daX8_tapeInt_0 8 rfl
theorem dX8_tapeInt_18 : decode cX8_tapeInt 18 = .ok (.getfield 9, 3) := dc_at daX8_tapeInt_0 9 rfl
theorem dX8_tapeInt_21 : decode cX8_tapeInt 21 = .ok (.aload_n 0, 1) := dc_at daX8_tapeInt_0 10 rfl
theorem dX8_tapeInt_22 : decode cX8_tapeInt 22 = .ok (.getfield 13, 3) := dc_at daX8_tapeInt_0 11 rfl
theorem dX8_tapeInt_25 : decode cX8_tapeInt 25 = .ok (.iload_n 1, 1) := dc_at daX8_tapeInt_0 12 rfl
theorem dX8_tapeInt_26 : decode cX8_tapeInt 26 = .ok (.iload_n 2, 1) := dc_at daX8_tapeInt_0 13 rfl
theorem dX8_tapeInt_27 : decode cX8_tapeInt 27 = .ok (.iushr, 1) := dc_at daX8_tapeInt_0 14 rfl
theorem dX8_tapeInt_28 : decode cX8_tapeInt 28 = .ok (.i2b, 1) := dc_at daX8_tapeInt_0 15 rfl
theorem dX8_tapeInt_29 : decode cX8_tapeInt 29 = .ok (.bastore, 1) := dc_at daX8_tapeInt_0 16 rfl
theorem dX8_tapeInt_30 : decode cX8_tapeInt 30 = .ok (.aload_n 0, 1) := dc_at daX8_tapeInt_0 17 rfl
theorem dX8_tapeInt_31 : decode cX8_tapeInt 31 = .ok (.dup, 1) := dc_at daX8_tapeInt_0 18 rfl
theorem dX8_tapeInt_32 : decode cX8_tapeInt 32 = .ok (.getfield 13, 3) := dc_at daX8_tapeInt_0 19 rfl
theorem dX8_tapeInt_35 : decode cX8_tapeInt 35 = .ok (.iconst 1, 1) := dc_at daX8_tapeInt_0 20 rfl
theorem dX8_tapeInt_36 : decode cX8_tapeInt 36 = .ok (.iadd, 1) := dc_at daX8_tapeInt_0 21 rfl
theorem dX8_tapeInt_37 : decode cX8_tapeInt 37 = .ok (.putfield 13, 3) := dc_at daX8_tapeInt_0 22 rfl
theorem dX8_tapeInt_40 : decode cX8_tapeInt 40 = .ok (.iinc 2 (-8), 3) := dc_at daX8_tapeInt_0 23 rfl
def dlX8_tapeInt_1 : List (Nat × Jvm.ClassFile.Instr × Nat) := [(43, .goto (-40), 3), (46, .return_, 1)]
theorem daX8_tapeInt_1 : dlX8_tapeInt_1.all (dcK cX8_tapeInt) = true := by decide +kernel
theorem dX8_tapeInt_43 : decode cX8_tapeInt 43 = .ok (.goto (-40), 3) := dc_at daX8_tapeInt_1 0 rfl
theorem dX8_tapeInt_46 : decode cX8_tapeInt 46 = .ok (.return_, 1) := dc_at daX8_tapeInt_1 1 rfl
def dlX8_isFarm_0 : List (Nat × Jvm.ClassFile.Instr × Nat) := [(0, .iload_n 0, 1), (1, .ifCond .lt 13, 3), (4, .iload_n 0, 1), (5, .bipush 6, 2), (7, .if_icmp .ge 7, 3), (10, .iconst 1, 1), (11, .goto 4, 3), (14, .iconst 0, 1), (15, .ireturn, 1)]
theorem daX8_isFarm_0 : dlX8_isFarm_0.all (dcK cX8_isFarm) = true := by decide +kernel
theorem dX8_isFarm_0 : decode cX8_isFarm 0 = .ok (.iload_n 0, 1) := dc_at daX8_isFarm_0 0 rfl
theorem dX8_isFarm_1 : decode cX8_isFarm 1 = .ok (.ifCond .lt 13, 3) := dc_at daX8_isFarm_0 1 rfl
theorem dX8_isFarm_4 : decode cX8_isFarm 4 = .ok (.iload_n 0, 1) := dc_at daX8_isFarm_0 2 rfl
theorem dX8_isFarm_5 : decode cX8_isFarm 5 = .ok (.bipush 6, 2) := dc_at daX8_isFarm_0 3 rfl
theorem dX8_isFarm_7 : decode cX8_isFarm 7 = .ok (.if_icmp .ge 7, 3) := dc_at daX8_isFarm_0 4 rfl
theorem dX8_isFarm_10 : decode cX8_isFarm 10 = .ok (.iconst 1, 1) := dc_at daX8_isFarm_0 5 rfl
theorem dX8_isFarm_11 : decode cX8_isFarm 11 = .ok (.goto 4, 3) := dc_at daX8_isFarm_0 6 rfl
theorem dX8_isFarm_14 : decode cX8_isFarm 14 = .ok (.iconst 0, 1) := dc_at daX8_isFarm_0 7 rfl
theorem dX8_isFarm_15 : decode cX8_isFarm 15 = .ok (.ireturn, 1) := dc_at daX8_isFarm_0 8 rfl
def dlX8_isRow_0 : List (Nat × Jvm.ClassFile.Instr × Nat) := [(0, .iload_n 0, 1), (1, .ifCond .lt 12, 3), (4, .iload_n 0, 1), (5, .iconst 4, 1), (6, .if_icmp .ge 7, 3), (9, .iconst 1, 1), (10, .goto 4, 3), (13, .iconst 0, 1), (14, .ireturn, 1)]
theorem daX8_isRow_0 : dlX8_isRow_0.all (dcK cX8_isRow) = true := by decide +kernel
theorem dX8_isRow_0 : decode cX8_isRow 0 = .ok (.iload_n 0, 1) := dc_at daX8_isRow_0 0 rfl
theorem dX8_isRow_1 : decode cX8_isRow 1 = .ok (.ifCond .lt 12, 3) := dc_at daX8_isRow_0 1 rfl
theorem dX8_isRow_4 : decode cX8_isRow 4 = .ok (.iload_n 0, 1) := dc_at daX8_isRow_0 2 rfl
theorem dX8_isRow_5 : decode cX8_isRow 5 = .ok (.iconst 4, 1) := dc_at daX8_isRow_0 3 rfl
theorem dX8_isRow_6 : decode cX8_isRow 6 = .ok (.if_icmp .ge 7, 3) := dc_at daX8_isRow_0 4 rfl
theorem dX8_isRow_9 : decode cX8_isRow 9 = .ok (.iconst 1, 1) := dc_at daX8_isRow_0 5 rfl
theorem dX8_isRow_10 : decode cX8_isRow 10 = .ok (.goto 4, 3) := dc_at daX8_isRow_0 6 rfl
theorem dX8_isRow_13 : decode cX8_isRow 13 = .ok (.iconst 0, 1) := dc_at daX8_isRow_0 7 rfl
theorem dX8_isRow_14 : decode cX8_isRow 14 = .ok (.ireturn, 1) := dc_at daX8_isRow_0 8 rfl
def dlX8_isAskable_0 : List (Nat × Jvm.ClassFile.Instr × Nat) := [(0, .iload_n 0, 1), (1, .ifCond .lt 8, 3), (4, .iload_n 0, 1), (5, .iload_n 1, 1), (6, .if_icmp .le 15, 3), (9, .iload_n 0, 1), (10, .bipush 10, 2), (12, .if_icmp .lt 13, 3), (15, .iload_n 0, 1), (16, .bipush 18, 2), (18, .if_icmp .ge 7, 3), (21, .iconst 1, 1), (22, .goto 4, 3), (25, .iconst 0, 1), (26, .ireturn, 1)]
theorem daX8_isAskable_0 : dlX8_isAskable_0.all (dcK cX8_isAskable) = true := by decide +kernel
theorem dX8_isAskable_0 : decode cX8_isAskable 0 = .ok (.iload_n 0, 1) := dc_at daX8_isAskable_0 0 rfl
theorem dX8_isAskable_1 : decode cX8_isAskable 1 = .ok (.ifCond .lt 8, 3) := dc_at daX8_isAskable_0 1 rfl
theorem dX8_isAskable_4 : decode cX8_isAskable 4 = .ok (.iload_n 0, 1) := dc_at daX8_isAskable_0 2 rfl
theorem dX8_isAskable_5 : decode cX8_isAskable 5 = .ok (.iload_n 1, 1) := dc_at daX8_isAskable_0 3 rfl
theorem dX8_isAskable_6 : decode cX8_isAskable 6 = .ok (.if_icmp .le 15, 3) := dc_at daX8_isAskable_0 4 rfl
theorem dX8_isAskable_9 : decode cX8_isAskable 9 = .ok (.iload_n 0, 1) := dc_at daX8_isAskable_0 5 rfl
theorem dX8_isAskable_10 : decode cX8_isAskable 10 = .ok (.bipush 10, 2) := dc_at daX8_isAskable_0 6 rfl
theorem dX8_isAskable_12 : decode cX8_isAskable 12 = .ok (.if_icmp .lt 13, 3) := dc_at daX8_isAskable_0 7 rfl
theorem dX8_isAskable_15 : decode cX8_isAskable 15 = .ok (.iload_n 0, 1) := dc_at daX8_isAskable_0 8 rfl
theorem dX8_isAskable_16 : decode cX8_isAskable 16 = .ok (.bipush 18, 2) := dc_at daX8_isAskable_0 9 rfl
theorem dX8_isAskable_18 : decode cX8_isAskable 18 = .ok (.if_icmp .ge 7, 3) := dc_at daX8_isAskable_0 10 rfl
theorem dX8_isAskable_21 : decode cX8_isAskable 21 = .ok (.iconst 1, 1) := dc_at daX8_isAskable_0 11 rfl
theorem dX8_isAskable_22 : decode cX8_isAskable 22 = .ok (.goto 4, 3) := dc_at daX8_isAskable_0 12 rfl
theorem dX8_isAskable_25 : decode cX8_isAskable 25 = .ok (.iconst 0, 1) := dc_at daX8_isAskable_0 13 rfl
theorem dX8_isAskable_26 : decode cX8_isAskable 26 = .ok (.ireturn, 1) := dc_at daX8_isAskable_0 14 rfl
def dlX8_nextDraw_0 : List (Nat × Jvm.ClassFile.Instr × Nat) := [(0, .ldc_w 349, 3), (3, .iload_n 0, 1), (4, .imul, 1), (5, .sipush 12345, 3), (8, .iadd, 1), (9, .ireturn, 1)]
theorem daX8_nextDraw_0 : dlX8_nextDraw_0.all (dcK cX8_nextDraw) = true := by decide +kernel
theorem dX8_nextDraw_0 : decode cX8_nextDraw 0 = .ok (.ldc_w 349, 3) := dc_at daX8_nextDraw_0 0 rfl
theorem dX8_nextDraw_3 : decode cX8_nextDraw 3 = .ok (.iload_n 0, 1) := dc_at daX8_nextDraw_0 1 rfl
theorem dX8_nextDraw_4 : decode cX8_nextDraw 4 = .ok (.imul, 1) := dc_at daX8_nextDraw_0 2 rfl
theorem dX8_nextDraw_5 : decode cX8_nextDraw 5 = .ok (.sipush 12345, 3) := dc_at daX8_nextDraw_0 3 rfl
theorem dX8_nextDraw_8 : decode cX8_nextDraw 8 = .ok (.iadd, 1) := dc_at daX8_nextDraw_0 4 rfl
theorem dX8_nextDraw_9 : decode cX8_nextDraw 9 = .ok (.ireturn, 1) := dc_at daX8_nextDraw_0 5 rfl
def dlX8_refusedSearch_0 : List (Nat × Jvm.ClassFile.Instr × Nat) := [(0, .iload_n 1, 1), (1, .ifCond .ne 6, 3), (4, .bipush (-2), 2), (6, .ireturn, 1), (7, .iload_n 2, 1), (8, .iconst 1, 1), (9, .if_icmp .lt 8, 3), (12, .iload_n 2, 1), (13, .iload_n 3, 1), (14, .if_icmp .le 6, 3), (17, .bipush (-3), 2), (19, .ireturn, 1), (20, .aload_n 0, 1), (21, .getfield 27, 3), (24, .getfield 161, 3), (27, .ifCond .ne 8, 3), (30, .bipush (-5), 2), (32, .goto 4, 3), (35, .iconst 0, 1), (36, .ireturn, 1)]
theorem daX8_refusedSearch_0 : dlX8_refusedSearch_0.all (dcK cX8_refusedSearch) = true := by decide +kernel
theorem dX8_refusedSearch_0 : decode cX8_refusedSearch 0 = .ok (.iload_n 1, 1) := dc_at daX8_refusedSearch_0 0 rfl
theorem dX8_refusedSearch_1 : decode cX8_refusedSearch 1 = .ok (.ifCond .ne 6, 3) := dc_at daX8_refusedSearch_0 1 rfl
theorem dX8_refusedSearch_4 : decode cX8_refusedSearch 4 = .ok (.bipush (-2), 2) := dc_at daX8_refusedSearch_0 2 rfl
theorem dX8_refusedSearch_6 : decode cX8_refusedSearch 6 = .ok (.ireturn, 1) := dc_at daX8_refusedSearch_0 3 rfl
theorem dX8_refusedSearch_7 : decode cX8_refusedSearch 7 = .ok (.iload_n 2, 1) := dc_at daX8_refusedSearch_0 4 rfl
theorem dX8_refusedSearch_8 : decode cX8_refusedSearch 8 = .ok (.iconst 1, 1) := dc_at daX8_refusedSearch_0 5 rfl
theorem dX8_refusedSearch_9 : decode cX8_refusedSearch 9 = .ok (.if_icmp .lt 8, 3) := dc_at daX8_refusedSearch_0 6 rfl
theorem dX8_refusedSearch_12 : decode cX8_refusedSearch 12 = .ok (.iload_n 2, 1) := dc_at daX8_refusedSearch_0 7 rfl
theorem dX8_refusedSearch_13 : decode cX8_refusedSearch 13 = .ok (.iload_n 3, 1) := dc_at daX8_refusedSearch_0 8 rfl
theorem dX8_refusedSearch_14 : decode cX8_refusedSearch 14 = .ok (.if_icmp .le 6, 3) := dc_at daX8_refusedSearch_0 9 rfl
theorem dX8_refusedSearch_17 : decode cX8_refusedSearch 17 = .ok (.bipush (-3), 2) := dc_at daX8_refusedSearch_0 10 rfl
theorem dX8_refusedSearch_19 : decode cX8_refusedSearch 19 = .ok (.ireturn, 1) := dc_at daX8_refusedSearch_0 11 rfl
theorem dX8_refusedSearch_20 : decode cX8_refusedSearch 20 = .ok (.aload_n 0, 1) := dc_at daX8_refusedSearch_0 12 rfl
theorem dX8_refusedSearch_21 : decode cX8_refusedSearch 21 = .ok (.getfield 27, 3) := dc_at daX8_refusedSearch_0 13 rfl
theorem dX8_refusedSearch_24 : decode cX8_refusedSearch 24 = .ok (.getfield 161, 3) := dc_at daX8_refusedSearch_0 14 rfl
theorem dX8_refusedSearch_27 : decode cX8_refusedSearch 27 = .ok (.ifCond .ne 8, 3) := dc_at daX8_refusedSearch_0 15 rfl
theorem dX8_refusedSearch_30 : decode cX8_refusedSearch 30 = .ok (.bipush (-5), 2) := dc_at daX8_refusedSearch_0 16 rfl
theorem dX8_refusedSearch_32 : decode cX8_refusedSearch 32 = .ok (.goto 4, 3) := dc_at daX8_refusedSearch_0 17 rfl
theorem dX8_refusedSearch_35 : decode cX8_refusedSearch 35 = .ok (.iconst 0, 1) := dc_at daX8_refusedSearch_0 18 rfl
theorem dX8_refusedSearch_36 : decode cX8_refusedSearch 36 = .ok (.ireturn, 1) := dc_at daX8_refusedSearch_0 19 rfl
def dlX8_possibleMinutes_0 : List (Nat × Jvm.ClassFile.Instr × Nat) := [(0, .iload_n 1, 1), (1, .aload_n 0, 1), (2, .getfield 27, 3), (5, .getfield 208, 3), (8, .sipush 9999, 3), (11, .aload_n 0, 1), (12, .getfield 27, 3), (15, .getfield 216, 3), (18, .isub, 1), (19, .invokestatic 211, 3), (22, .invokestatic 211, 3), (25, .ireturn, 1)]
theorem daX8_possibleMinutes_0 : dlX8_possibleMinutes_0.all (dcK cX8_possibleMinutes) = true := by decide +kernel
theorem dX8_possibleMinutes_0 : decode cX8_possibleMinutes 0 = .ok (.iload_n 1, 1) := dc_at daX8_possibleMinutes_0 0 rfl
theorem dX8_possibleMinutes_1 : decode cX8_possibleMinutes 1 = .ok (.aload_n 0, 1) := dc_at daX8_possibleMinutes_0 1 rfl
theorem dX8_possibleMinutes_2 : decode cX8_possibleMinutes 2 = .ok (.getfield 27, 3) := dc_at daX8_possibleMinutes_0 2 rfl
theorem dX8_possibleMinutes_5 : decode cX8_possibleMinutes 5 = .ok (.getfield 208, 3) := dc_at daX8_possibleMinutes_0 3 rfl
theorem dX8_possibleMinutes_8 : decode cX8_possibleMinutes 8 = .ok (.sipush 9999, 3) := dc_at daX8_possibleMinutes_0 4 rfl
theorem dX8_possibleMinutes_11 : decode cX8_possibleMinutes 11 = .ok (.aload_n 0, 1) := dc_at daX8_possibleMinutes_0 5 rfl
theorem dX8_possibleMinutes_12 : decode cX8_possibleMinutes 12 = .ok (.getfield 27, 3) := dc_at daX8_possibleMinutes_0 6 rfl
theorem dX8_possibleMinutes_15 : decode cX8_possibleMinutes 15 = .ok (.getfield 216, 3) := dc_at daX8_possibleMinutes_0 7 rfl
theorem dX8_possibleMinutes_18 : decode cX8_possibleMinutes 18 = .ok (.isub, 1) := dc_at daX8_possibleMinutes_0 8 rfl
theorem dX8_possibleMinutes_19 : decode cX8_possibleMinutes 19 = .ok (.invokestatic 211, 3) := dc_at daX8_possibleMinutes_0 9 rfl
theorem dX8_possibleMinutes_22 : decode cX8_possibleMinutes 22 = .ok (.invokestatic 211, 3) := dc_at daX8_possibleMinutes_0 10 rfl
theorem dX8_possibleMinutes_25 : decode cX8_possibleMinutes 25 = .ok (.ireturn, 1) := dc_at daX8_possibleMinutes_0 11 rfl
def dlX8_seek_0 : List (Nat × Jvm.ClassFile.Instr × Nat) := [(0, .aload_n 0, 1), (1, .iload_n 3, 1), (2, .invokevirtual 233, 3), (5, .istore 4, 2), (7, .aload_n 0, 1), (8, .getfield 51, 3), (11, .aload_n 0, 1), (12, .getfield 27, 3), (15, .getfield 161, 3), (18, .aload_n 0, 1), (19, .getfield 27, 3), (22, .getfield 128, 3), (25, .iload 4, 2), (27, .invokevirtual 281, 3), (30, .aload_n 0, 1), (31, .getfield 58, 3), (34, .aload_n 0, 1), (35, .getfield 27, 3), (38, .iload_n 1, 1), (39, .iload_n 2, 1), (40, .invokevirtual 273, 3), (43, .aload_n 0, 1), (44, .getfield 58, 3), (47, .aload_n 0, 1)]
theorem daX8_seek_0 : dlX8_seek_0.all (dcK cX8_seek) = true := by decide +kernel
theorem dX8_seek_0 : decode cX8_seek 0 = .ok (.aload_n 0, 1) := dc_at daX8_seek_0 0 rfl
theorem dX8_seek_1 : decode cX8_seek 1 = .ok (.iload_n 3, 1) := dc_at daX8_seek_0 1 rfl
theorem dX8_seek_2 : decode cX8_seek 2 = .ok (.invokevirtual 233, 3) := dc_at daX8_seek_0 2 rfl
theorem dX8_seek_5 : decode cX8_seek 5 = .ok (.istore 4, 2) := dc_at daX8_seek_0 3 rfl
theorem dX8_seek_7 : decode cX8_seek 7 = .ok (.aload_n 0, 1) := dc_at daX8_seek_0 4 rfl
theorem dX8_seek_8 : decode cX8_seek 8 = .ok (.getfield 51, 3) := dc_at daX8_seek_0 5 rfl
theorem dX8_seek_11 : decode cX8_seek 11 = .ok (.aload_n 0, 1) := dc_at daX8_seek_0 6 rfl
theorem dX8_seek_12 : decode cX8_seek 12 = .ok (.getfield 27, 3) := dc_at daX8_seek_0 7 rfl
theorem dX8_seek_15 : decode cX8_seek 15 = .ok (.getfield 161, 3) := dc_at daX8_seek_0 8 rfl
theorem dX8_seek_18 : decode cX8_seek 18 = .ok (.aload_n 0, 1) := dc_at daX8_seek_0 9 rfl
theorem dX8_seek_19 : decode cX8_seek 19 = .ok (.getfield 27, 3) := dc_at daX8_seek_0 10 rfl
theorem dX8_seek_22 : decode cX8_seek 22 = .ok (.getfield 128, 3) := dc_at daX8_seek_0 11 rfl
theorem dX8_seek_25 : decode cX8_seek 25 = .ok (.iload 4, 2) := dc_at daX8_seek_0 12 rfl
theorem dX8_seek_27 : decode cX8_seek 27 = .ok (.invokevirtual 281, 3) := dc_at daX8_seek_0 13 rfl
theorem dX8_seek_30 : decode cX8_seek 30 = .ok (.aload_n 0, 1) := dc_at daX8_seek_0 14 rfl
theorem dX8_seek_31 : decode cX8_seek 31 = .ok (.getfield 58, 3) := dc_at daX8_seek_0 15 rfl
theorem dX8_seek_34 : decode cX8_seek 34 = .ok (.aload_n 0, 1) := dc_at daX8_seek_0 16 rfl
theorem dX8_seek_35 : decode cX8_seek 35 = .ok (.getfield 27, 3) := dc_at daX8_seek_0 17 rfl
theorem dX8_seek_38 : decode cX8_seek 38 = .ok (.iload_n 1, 1) := dc_at daX8_seek_0 18 rfl
theorem dX8_seek_39 : decode cX8_seek 39 = .ok (.iload_n 2, 1) := dc_at daX8_seek_0 19 rfl
theorem dX8_seek_40 : decode cX8_seek 40 = .ok (.invokevirtual 273, 3) := dc_at daX8_seek_0 20 rfl
theorem dX8_seek_43 : decode cX8_seek 43 = .ok (.aload_n 0, 1) := dc_at daX8_seek_0 21 rfl
theorem dX8_seek_44 : decode cX8_seek 44 = .ok (.getfield 58, 3) := dc_at daX8_seek_0 22 rfl
theorem dX8_seek_47 : decode cX8_seek 47 = .ok (.aload_n 0, 1) := dc_at daX8_seek_0 23 rfl
def dlX8_seek_1 : List (Nat × Jvm.ClassFile.Instr × Nat) := [(48, .getfield 51, 3), (51, .iload 4, 2), (53, .iconst (-1), 1), (54, .invokevirtual 277, 3), (57, .return_, 1)]
theorem daX8_seek_1 : dlX8_seek_1.all (dcK cX8_seek) = true := by decide +kernel
theorem dX8_seek_48 : decode cX8_seek 48 = .ok (.getfield 51, 3) := dc_at daX8_seek_1 0 rfl
theorem dX8_seek_51 : decode cX8_seek 51 = .ok (.iload 4, 2) := dc_at daX8_seek_1 1 rfl
theorem dX8_seek_53 : decode cX8_seek 53 = .ok (.iconst (-1), 1) := dc_at daX8_seek_1 2 rfl
theorem dX8_seek_54 : decode cX8_seek 54 = .ok (.invokevirtual 277, 3) := dc_at daX8_seek_1 3 rfl
theorem dX8_seek_57 : decode cX8_seek 57 = .ok (.return_, 1) := dc_at daX8_seek_1 4 rfl
def dlX8_foundAnswer_0 : List (Nat × Jvm.ClassFile.Instr × Nat) := [(0, .iload_n 2, 1), (1, .bipush 10, 2), (3, .if_icmp .ge 5, 3), (6, .iload_n 3, 1), (7, .ireturn, 1), (8, .aload_n 0, 1), (9, .getfield 51, 3), (12, .aload_n 0, 1), (13, .getfield 58, 3), (16, .getfield 257, 3), (19, .aload_n 0, 1), (20, .iload_n 1, 1), (21, .invokevirtual 233, 3), (24, .iload_n 2, 1), (25, .bipush 10, 2), (27, .isub, 1), (28, .invokevirtual 350, 3), (31, .ireturn, 1)]
theorem daX8_foundAnswer_0 : dlX8_foundAnswer_0.all (dcK cX8_foundAnswer) = true := by decide +kernel
theorem dX8_foundAnswer_0 : decode cX8_foundAnswer 0 = .ok (.iload_n 2, 1) := dc_at daX8_foundAnswer_0 0 rfl
theorem dX8_foundAnswer_1 : decode cX8_foundAnswer 1 = .ok (.bipush 10, 2) := dc_at daX8_foundAnswer_0 1 rfl
theorem dX8_foundAnswer_3 : decode cX8_foundAnswer 3 = .ok (.if_icmp .ge 5, 3) := dc_at daX8_foundAnswer_0 2 rfl
theorem dX8_foundAnswer_6 : decode cX8_foundAnswer 6 = .ok (.iload_n 3, 1) := dc_at daX8_foundAnswer_0 3 rfl
theorem dX8_foundAnswer_7 : decode cX8_foundAnswer 7 = .ok (.ireturn, 1) := dc_at daX8_foundAnswer_0 4 rfl
theorem dX8_foundAnswer_8 : decode cX8_foundAnswer 8 = .ok (.aload_n 0, 1) := dc_at daX8_foundAnswer_0 5 rfl
theorem dX8_foundAnswer_9 : decode cX8_foundAnswer 9 = .ok (.getfield 51, 3) := dc_at daX8_foundAnswer_0 6 rfl
theorem dX8_foundAnswer_12 : decode cX8_foundAnswer 12 = .ok (.aload_n 0, 1) := dc_at daX8_foundAnswer_0 7 rfl
theorem dX8_foundAnswer_13 : decode cX8_foundAnswer 13 = .ok (.getfield 58, 3) := dc_at daX8_foundAnswer_0 8 rfl
theorem dX8_foundAnswer_16 : decode cX8_foundAnswer 16 = .ok (.getfield 257, 3) := dc_at daX8_foundAnswer_0 9 rfl
theorem dX8_foundAnswer_19 : decode cX8_foundAnswer 19 = .ok (.aload_n 0, 1) := dc_at daX8_foundAnswer_0 10 rfl
theorem dX8_foundAnswer_20 : decode cX8_foundAnswer 20 = .ok (.iload_n 1, 1) := dc_at daX8_foundAnswer_0 11 rfl
theorem dX8_foundAnswer_21 : decode cX8_foundAnswer 21 = .ok (.invokevirtual 233, 3) := dc_at daX8_foundAnswer_0 12 rfl
theorem dX8_foundAnswer_24 : decode cX8_foundAnswer 24 = .ok (.iload_n 2, 1) := dc_at daX8_foundAnswer_0 13 rfl
theorem dX8_foundAnswer_25 : decode cX8_foundAnswer 25 = .ok (.bipush 10, 2) := dc_at daX8_foundAnswer_0 14 rfl
theorem dX8_foundAnswer_27 : decode cX8_foundAnswer 27 = .ok (.isub, 1) := dc_at daX8_foundAnswer_0 15 rfl
theorem dX8_foundAnswer_28 : decode cX8_foundAnswer 28 = .ok (.invokevirtual 350, 3) := dc_at daX8_foundAnswer_0 16 rfl
theorem dX8_foundAnswer_31 : decode cX8_foundAnswer 31 = .ok (.ireturn, 1) := dc_at daX8_foundAnswer_0 17 rfl
def dlX8_canShift_0 : List (Nat × Jvm.ClassFile.Instr × Nat) := [(0, .iload_n 1, 1), (1, .iload_n 2, 1), (2, .if_icmp .eq 55, 3), (5, .aload_n 0, 1), (6, .getfield 27, 3), (9, .iload_n 1, 1), (10, .invokevirtual 108, 3), (13, .ifCond .eq 44, 3), (16, .aload_n 0, 1), (17, .getfield 27, 3), (20, .iload_n 2, 1), (21, .invokevirtual 108, 3), (24, .ifCond .eq 33, 3), (27, .aload_n 0, 1), (28, .getfield 27, 3), (31, .getfield 116, 3), (34, .iload_n 1, 1), (35, .iaload, 1), (36, .ifCond .le 21, 3), (39, .aload_n 0, 1), (40, .getfield 27, 3), (43, .getfield 116, 3), (46, .iload_n 2, 1), (47, .iaload, 1)]
theorem daX8_canShift_0 : dlX8_canShift_0.all (dcK cX8_canShift) = true := by decide +kernel
theorem dX8_canShift_0 : decode cX8_canShift 0 = .ok (.iload_n 1, 1) := dc_at daX8_canShift_0 0 rfl
theorem dX8_canShift_1 : decode cX8_canShift 1 = .ok (.iload_n 2, 1) := dc_at daX8_canShift_0 1 rfl
theorem dX8_canShift_2 : decode cX8_canShift 2 = .ok (.if_icmp .eq 55, 3) := dc_at daX8_canShift_0 2 rfl
theorem dX8_canShift_5 : decode cX8_canShift 5 = .ok (.aload_n 0, 1) := dc_at daX8_canShift_0 3 rfl
theorem dX8_canShift_6 : decode cX8_canShift 6 = .ok (.getfield 27, 3) := dc_at daX8_canShift_0 4 rfl
theorem dX8_canShift_9 : decode cX8_canShift 9 = .ok (.iload_n 1, 1) := dc_at daX8_canShift_0 5 rfl
theorem dX8_canShift_10 : decode cX8_canShift 10 = .ok (.invokevirtual 108, 3) := dc_at daX8_canShift_0 6 rfl
theorem dX8_canShift_13 : decode cX8_canShift 13 = .ok (.ifCond .eq 44, 3) := dc_at daX8_canShift_0 7 rfl
theorem dX8_canShift_16 : decode cX8_canShift 16 = .ok (.aload_n 0, 1) := dc_at daX8_canShift_0 8 rfl
theorem dX8_canShift_17 : decode cX8_canShift 17 = .ok (.getfield 27, 3) := dc_at daX8_canShift_0 9 rfl
theorem dX8_canShift_20 : decode cX8_canShift 20 = .ok (.iload_n 2, 1) := dc_at daX8_canShift_0 10 rfl
theorem dX8_canShift_21 : decode cX8_canShift 21 = .ok (.invokevirtual 108, 3) := dc_at daX8_canShift_0 11 rfl
theorem dX8_canShift_24 : decode cX8_canShift 24 = .ok (.ifCond .eq 33, 3) := dc_at daX8_canShift_0 12 rfl
theorem dX8_canShift_27 : decode cX8_canShift 27 = .ok (.aload_n 0, 1) := dc_at daX8_canShift_0 13 rfl
theorem dX8_canShift_28 : decode cX8_canShift 28 = .ok (.getfield 27, 3) := dc_at daX8_canShift_0 14 rfl
theorem dX8_canShift_31 : decode cX8_canShift 31 = .ok (.getfield 116, 3) := dc_at daX8_canShift_0 15 rfl
theorem dX8_canShift_34 : decode cX8_canShift 34 = .ok (.iload_n 1, 1) := dc_at daX8_canShift_0 16 rfl
theorem dX8_canShift_35 : decode cX8_canShift 35 = .ok (.iaload, 1) := dc_at daX8_canShift_0 17 rfl
theorem dX8_canShift_36 : decode cX8_canShift 36 = .ok (.ifCond .le 21, 3) := dc_at daX8_canShift_0 18 rfl
theorem dX8_canShift_39 : decode cX8_canShift 39 = .ok (.aload_n 0, 1) := dc_at daX8_canShift_0 19 rfl
theorem dX8_canShift_40 : decode cX8_canShift 40 = .ok (.getfield 27, 3) := dc_at daX8_canShift_0 20 rfl
theorem dX8_canShift_43 : decode cX8_canShift 43 = .ok (.getfield 116, 3) := dc_at daX8_canShift_0 21 rfl
theorem dX8_canShift_46 : decode cX8_canShift 46 = .ok (.iload_n 2, 1) := dc_at daX8_canShift_0 22 rfl
theorem dX8_canShift_47 : decode cX8_canShift 47 = .ok (.iaload, 1) := dc_at daX8_canShift_0 23 rfl
def dlX8_canShift_1 : List (Nat × Jvm.ClassFile.Instr × Nat) := [(48, .bipush 9, 2), (50, .if_icmp .ge 7, 3), (53, .iconst 1, 1), (54, .goto 4, 3), (57, .iconst 0, 1), (58, .ireturn, 1)]
theorem daX8_canShift_1 : dlX8_canShift_1.all (dcK cX8_canShift) = true := by decide +kernel
theorem dX8_canShift_48 : decode cX8_canShift 48 = .ok (.bipush 9, 2) := dc_at daX8_canShift_1 0 rfl
theorem dX8_canShift_50 : decode cX8_canShift 50 = .ok (.if_icmp .ge 7, 3) := dc_at daX8_canShift_1 1 rfl
theorem dX8_canShift_53 : decode cX8_canShift 53 = .ok (.iconst 1, 1) := dc_at daX8_canShift_1 2 rfl
theorem dX8_canShift_54 : decode cX8_canShift 54 = .ok (.goto 4, 3) := dc_at daX8_canShift_1 3 rfl
theorem dX8_canShift_57 : decode cX8_canShift 57 = .ok (.iconst 0, 1) := dc_at daX8_canShift_1 4 rfl
theorem dX8_canShift_58 : decode cX8_canShift 58 = .ok (.ireturn, 1) := dc_at daX8_canShift_1 5 rfl
def dlX8_refusedStubble_0 : List (Nat × Jvm.ClassFile.Instr × Nat) := [(0, .iload_n 1, 1), (1, .invokestatic 182, 3), (4, .ifCond .ne 6, 3), (7, .bipush (-2), 2), (9, .ireturn, 1), (10, .aload_n 0, 1), (11, .getfield 44, 3), (14, .iload_n 1, 1), (15, .aaload, 1), (16, .getfield 185, 3), (19, .ifCond .eq 6, 3), (22, .bipush (-6), 2), (24, .ireturn, 1), (25, .aload_n 0, 1), (26, .getfield 44, 3), (29, .iload_n 1, 1), (30, .aaload, 1), (31, .getfield 193, 3), (34, .aload_n 0, 1), (35, .getfield 27, 3), (38, .getfield 161, 3), (41, .if_icmp .eq 6, 3), (44, .bipush (-7), 2), (46, .ireturn, 1)]
theorem daX8_refusedStubble_0 : dlX8_refusedStubble_0.all (dcK cX8_refusedStubble) = true := by decide +kernel
theorem dX8_refusedStubble_0 : decode cX8_refusedStubble 0 = .ok (.iload_n 1, 1) := dc_at daX8_refusedStubble_0 0 rfl
theorem dX8_refusedStubble_1 : decode cX8_refusedStubble 1 = .ok (.invokestatic 182, 3) := dc_at daX8_refusedStubble_0 1 rfl
theorem dX8_refusedStubble_4 : decode cX8_refusedStubble 4 = .ok (.ifCond .ne 6, 3) := dc_at daX8_refusedStubble_0 2 rfl
theorem dX8_refusedStubble_7 : decode cX8_refusedStubble 7 = .ok (.bipush (-2), 2) := dc_at daX8_refusedStubble_0 3 rfl
theorem dX8_refusedStubble_9 : decode cX8_refusedStubble 9 = .ok (.ireturn, 1) := dc_at daX8_refusedStubble_0 4 rfl
theorem dX8_refusedStubble_10 : decode cX8_refusedStubble 10 = .ok (.aload_n 0, 1) := dc_at daX8_refusedStubble_0 5 rfl
theorem dX8_refusedStubble_11 : decode cX8_refusedStubble 11 = .ok (.getfield 44, 3) := dc_at daX8_refusedStubble_0 6 rfl
theorem dX8_refusedStubble_14 : decode cX8_refusedStubble 14 = .ok (.iload_n 1, 1) := dc_at daX8_refusedStubble_0 7 rfl
theorem dX8_refusedStubble_15 : decode cX8_refusedStubble 15 = .ok (.aaload, 1) := dc_at daX8_refusedStubble_0 8 rfl
theorem dX8_refusedStubble_16 : decode cX8_refusedStubble 16 = .ok (.getfield 185, 3) := dc_at daX8_refusedStubble_0 9 rfl
theorem dX8_refusedStubble_19 : decode cX8_refusedStubble 19 = .ok (.ifCond .eq 6, 3) := dc_at daX8_refusedStubble_0 10 rfl
theorem dX8_refusedStubble_22 : decode cX8_refusedStubble 22 = .ok (.bipush (-6), 2) := dc_at daX8_refusedStubble_0 11 rfl
theorem dX8_refusedStubble_24 : decode cX8_refusedStubble 24 = .ok (.ireturn, 1) := dc_at daX8_refusedStubble_0 12 rfl
theorem dX8_refusedStubble_25 : decode cX8_refusedStubble 25 = .ok (.aload_n 0, 1) := dc_at daX8_refusedStubble_0 13 rfl
theorem dX8_refusedStubble_26 : decode cX8_refusedStubble 26 = .ok (.getfield 44, 3) := dc_at daX8_refusedStubble_0 14 rfl
theorem dX8_refusedStubble_29 : decode cX8_refusedStubble 29 = .ok (.iload_n 1, 1) := dc_at daX8_refusedStubble_0 15 rfl
theorem dX8_refusedStubble_30 : decode cX8_refusedStubble 30 = .ok (.aaload, 1) := dc_at daX8_refusedStubble_0 16 rfl
theorem dX8_refusedStubble_31 : decode cX8_refusedStubble 31 = .ok (.getfield 193, 3) := dc_at daX8_refusedStubble_0 17 rfl
theorem dX8_refusedStubble_34 : decode cX8_refusedStubble 34 = .ok (.aload_n 0, 1) := dc_at daX8_refusedStubble_0 18 rfl
theorem dX8_refusedStubble_35 : decode cX8_refusedStubble 35 = .ok (.getfield 27, 3) := dc_at daX8_refusedStubble_0 19 rfl
theorem dX8_refusedStubble_38 : decode cX8_refusedStubble 38 = .ok (.getfield 161, 3) := dc_at daX8_refusedStubble_0 20 rfl
theorem dX8_refusedStubble_41 : decode cX8_refusedStubble 41 = .ok (.if_icmp .eq 6, 3) := dc_at daX8_refusedStubble_0 21 rfl
theorem dX8_refusedStubble_44 : decode cX8_refusedStubble 44 = .ok (.bipush (-7), 2) := dc_at daX8_refusedStubble_0 22 rfl
theorem dX8_refusedStubble_46 : decode cX8_refusedStubble 46 = .ok (.ireturn, 1) := dc_at daX8_refusedStubble_0 23 rfl
def dlX8_refusedStubble_1 : List (Nat × Jvm.ClassFile.Instr × Nat) := [(47, .aload_n 0, 1), (48, .iconst 1, 1), (49, .iload_n 2, 1), (50, .bipush 8, 2), (52, .invokevirtual 229, 3), (55, .ireturn, 1)]
theorem daX8_refusedStubble_1 : dlX8_refusedStubble_1.all (dcK cX8_refusedStubble) = true := by decide +kernel
theorem dX8_refusedStubble_47 : decode cX8_refusedStubble 47 = .ok (.aload_n 0, 1) := dc_at daX8_refusedStubble_1 0 rfl
theorem dX8_refusedStubble_48 : decode cX8_refusedStubble 48 = .ok (.iconst 1, 1) := dc_at daX8_refusedStubble_1 1 rfl
theorem dX8_refusedStubble_49 : decode cX8_refusedStubble 49 = .ok (.iload_n 2, 1) := dc_at daX8_refusedStubble_1 2 rfl
theorem dX8_refusedStubble_50 : decode cX8_refusedStubble 50 = .ok (.bipush 8, 2) := dc_at daX8_refusedStubble_1 3 rfl
theorem dX8_refusedStubble_52 : decode cX8_refusedStubble 52 = .ok (.invokevirtual 229, 3) := dc_at daX8_refusedStubble_1 4 rfl
theorem dX8_refusedStubble_55 : decode cX8_refusedStubble 55 = .ok (.ireturn, 1) := dc_at daX8_refusedStubble_1 5 rfl
def dlX8_explain_0 : List (Nat × Jvm.ClassFile.Instr × Nat) := [(0, .aload_n 0, 1), (1, .iload_n 2, 1), (2, .invokevirtual 233, 3), (5, .iload_n 2, 1), (6, .if_icmp .ge 11, 3), (9, .aload_n 0, 1), (10, .getfield 72, 3), (13, .invokevirtual 353, 3), (16, .return_, 1), (17, .aload_n 0, 1), (18, .getfield 51, 3), (21, .aload_n 0, 1), (22, .getfield 27, 3), (25, .getfield 161, 3), (28, .aload_n 0, 1), (29, .getfield 27, 3), (32, .getfield 128, 3), (35, .iload_n 2, 1), (36, .invokevirtual 281, 3), (39, .aload_n 0, 1), (40, .getfield 58, 3), (43, .aload_n 0, 1), (44, .getfield 27, 3), (47, .iconst 0, 1)]
theorem daX8_explain_0 : dlX8_explain_0.all (dcK cX8_explain) = true := by decide +kernel
theorem dX8_explain_0 : decode cX8_explain 0 = .ok (.aload_n 0, 1) := dc_at daX8_explain_0 0 rfl
theorem dX8_explain_1 : decode cX8_explain 1 = .ok (.iload_n 2, 1) := dc_at daX8_explain_0 1 rfl
theorem dX8_explain_2 : decode cX8_explain 2 = .ok (.invokevirtual 233, 3) := dc_at daX8_explain_0 2 rfl
theorem dX8_explain_5 : decode cX8_explain 5 = .ok (.iload_n 2, 1) := dc_at daX8_explain_0 3 rfl
theorem dX8_explain_6 : decode cX8_explain 6 = .ok (.if_icmp .ge 11, 3) := dc_at daX8_explain_0 4 rfl
theorem dX8_explain_9 : decode cX8_explain 9 = .ok (.aload_n 0, 1) := dc_at daX8_explain_0 5 rfl
theorem dX8_explain_10 : decode cX8_explain 10 = .ok (.getfield 72, 3) := dc_at daX8_explain_0 6 rfl
theorem dX8_explain_13 : decode cX8_explain 13 = .ok (.invokevirtual 353, 3) := dc_at daX8_explain_0 7 rfl
theorem dX8_explain_16 : decode cX8_explain 16 = .ok (.return_, 1) := dc_at daX8_explain_0 8 rfl
theorem dX8_explain_17 : decode cX8_explain 17 = .ok (.aload_n 0, 1) := dc_at daX8_explain_0 9 rfl
theorem dX8_explain_18 : decode cX8_explain 18 = .ok (.getfield 51, 3) := dc_at daX8_explain_0 10 rfl
theorem dX8_explain_21 : decode cX8_explain 21 = .ok (.aload_n 0, 1) := dc_at daX8_explain_0 11 rfl
theorem dX8_explain_22 : decode cX8_explain 22 = .ok (.getfield 27, 3) := dc_at daX8_explain_0 12 rfl
theorem dX8_explain_25 : decode cX8_explain 25 = .ok (.getfield 161, 3) := dc_at daX8_explain_0 13 rfl
theorem dX8_explain_28 : decode cX8_explain 28 = .ok (.aload_n 0, 1) := dc_at daX8_explain_0 14 rfl
theorem dX8_explain_29 : decode cX8_explain 29 = .ok (.getfield 27, 3) := dc_at daX8_explain_0 15 rfl
theorem dX8_explain_32 : decode cX8_explain 32 = .ok (.getfield 128, 3) := dc_at daX8_explain_0 16 rfl
theorem dX8_explain_35 : decode cX8_explain 35 = .ok (.iload_n 2, 1) := dc_at daX8_explain_0 17 rfl
theorem dX8_explain_36 : decode cX8_explain 36 = .ok (.invokevirtual 281, 3) := dc_at daX8_explain_0 18 rfl
theorem dX8_explain_39 : decode cX8_explain 39 = .ok (.aload_n 0, 1) := dc_at daX8_explain_0 19 rfl
theorem dX8_explain_40 : decode cX8_explain 40 = .ok (.getfield 58, 3) := dc_at daX8_explain_0 20 rfl
theorem dX8_explain_43 : decode cX8_explain 43 = .ok (.aload_n 0, 1) := dc_at daX8_explain_0 21 rfl
theorem dX8_explain_44 : decode cX8_explain 44 = .ok (.getfield 27, 3) := dc_at daX8_explain_0 22 rfl
theorem dX8_explain_47 : decode cX8_explain 47 = .ok (.iconst 0, 1) := dc_at daX8_explain_0 23 rfl
def dlX8_explain_1 : List (Nat × Jvm.ClassFile.Instr × Nat) := [(48, .iconst (-1), 1), (49, .invokevirtual 273, 3), (52, .aload_n 0, 1), (53, .getfield 72, 3), (56, .aload_n 0, 1), (57, .getfield 58, 3), (60, .aload_n 0, 1), (61, .getfield 51, 3), (64, .iload_n 2, 1), (65, .aload_n 1, 1), (66, .invokevirtual 356, 3), (69, .return_, 1)]
theorem daX8_explain_1 : dlX8_explain_1.all (dcK cX8_explain) = true := by decide +kernel
theorem dX8_explain_48 : decode cX8_explain 48 = .ok (.iconst (-1), 1) := dc_at daX8_explain_1 0 rfl
theorem dX8_explain_49 : decode cX8_explain 49 = .ok (.invokevirtual 273, 3) := dc_at daX8_explain_1 1 rfl
theorem dX8_explain_52 : decode cX8_explain 52 = .ok (.aload_n 0, 1) := dc_at daX8_explain_1 2 rfl
theorem dX8_explain_53 : decode cX8_explain 53 = .ok (.getfield 72, 3) := dc_at daX8_explain_1 3 rfl
theorem dX8_explain_56 : decode cX8_explain 56 = .ok (.aload_n 0, 1) := dc_at daX8_explain_1 4 rfl
theorem dX8_explain_57 : decode cX8_explain 57 = .ok (.getfield 58, 3) := dc_at daX8_explain_1 5 rfl
theorem dX8_explain_60 : decode cX8_explain 60 = .ok (.aload_n 0, 1) := dc_at daX8_explain_1 6 rfl
theorem dX8_explain_61 : decode cX8_explain 61 = .ok (.getfield 51, 3) := dc_at daX8_explain_1 7 rfl
theorem dX8_explain_64 : decode cX8_explain 64 = .ok (.iload_n 2, 1) := dc_at daX8_explain_1 8 rfl
theorem dX8_explain_65 : decode cX8_explain 65 = .ok (.aload_n 1, 1) := dc_at daX8_explain_1 9 rfl
theorem dX8_explain_66 : decode cX8_explain 66 = .ok (.invokevirtual 356, 3) := dc_at daX8_explain_1 10 rfl
theorem dX8_explain_69 : decode cX8_explain 69 = .ok (.return_, 1) := dc_at daX8_explain_1 11 rfl
def dlX8_refusedMeeting_0 : List (Nat × Jvm.ClassFile.Instr × Nat) := [(0, .iload_n 1, 1), (1, .invokestatic 182, 3), (4, .ifCond .eq 10, 3), (7, .iload_n 2, 1), (8, .invokestatic 182, 3), (11, .ifCond .ne 6, 3), (14, .bipush (-2), 2), (16, .ireturn, 1), (17, .aload_n 0, 1), (18, .getfield 44, 3), (21, .iload_n 1, 1), (22, .aaload, 1), (23, .getfield 185, 3), (26, .ifCond .ne 15, 3), (29, .aload_n 0, 1), (30, .getfield 44, 3), (33, .iload_n 2, 1), (34, .aaload, 1), (35, .getfield 185, 3), (38, .ifCond .eq 6, 3), (41, .bipush (-6), 2), (43, .ireturn, 1), (44, .aload_n 0, 1), (45, .getfield 27, 3)]
theorem daX8_refusedMeeting_0 : dlX8_refusedMeeting_0.all (dcK cX8_refusedMeeting) = true := by decide +kernel
theorem dX8_refusedMeeting_0 : decode cX8_refusedMeeting 0 = .ok (.iload_n 1, 1) := dc_at daX8_refusedMeeting_0 0 rfl
theorem dX8_refusedMeeting_1 : decode cX8_refusedMeeting 1 = .ok (.invokestatic 182, 3) := dc_at daX8_refusedMeeting_0 1 rfl
theorem dX8_refusedMeeting_4 : decode cX8_refusedMeeting 4 = .ok (.ifCond .eq 10, 3) := dc_at daX8_refusedMeeting_0 2 rfl
theorem dX8_refusedMeeting_7 : decode cX8_refusedMeeting 7 = .ok (.iload_n 2, 1) := dc_at daX8_refusedMeeting_0 3 rfl
theorem dX8_refusedMeeting_8 : decode cX8_refusedMeeting 8 = .ok (.invokestatic 182, 3) := dc_at daX8_refusedMeeting_0 4 rfl
theorem dX8_refusedMeeting_11 : decode cX8_refusedMeeting 11 = .ok (.ifCond .ne 6, 3) := dc_at daX8_refusedMeeting_0 5 rfl
theorem dX8_refusedMeeting_14 : decode cX8_refusedMeeting 14 = .ok (.bipush (-2), 2) := dc_at daX8_refusedMeeting_0 6 rfl
theorem dX8_refusedMeeting_16 : decode cX8_refusedMeeting 16 = .ok (.ireturn, 1) := dc_at daX8_refusedMeeting_0 7 rfl
theorem dX8_refusedMeeting_17 : decode cX8_refusedMeeting 17 = .ok (.aload_n 0, 1) := dc_at daX8_refusedMeeting_0 8 rfl
theorem dX8_refusedMeeting_18 : decode cX8_refusedMeeting 18 = .ok (.getfield 44, 3) := dc_at daX8_refusedMeeting_0 9 rfl
theorem dX8_refusedMeeting_21 : decode cX8_refusedMeeting 21 = .ok (.iload_n 1, 1) := dc_at daX8_refusedMeeting_0 10 rfl
theorem dX8_refusedMeeting_22 : decode cX8_refusedMeeting 22 = .ok (.aaload, 1) := dc_at daX8_refusedMeeting_0 11 rfl
theorem dX8_refusedMeeting_23 : decode cX8_refusedMeeting 23 = .ok (.getfield 185, 3) := dc_at daX8_refusedMeeting_0 12 rfl
theorem dX8_refusedMeeting_26 : decode cX8_refusedMeeting 26 = .ok (.ifCond .ne 15, 3) := dc_at daX8_refusedMeeting_0 13 rfl
theorem dX8_refusedMeeting_29 : decode cX8_refusedMeeting 29 = .ok (.aload_n 0, 1) := dc_at daX8_refusedMeeting_0 14 rfl
theorem dX8_refusedMeeting_30 : decode cX8_refusedMeeting 30 = .ok (.getfield 44, 3) := dc_at daX8_refusedMeeting_0 15 rfl
theorem dX8_refusedMeeting_33 : decode cX8_refusedMeeting 33 = .ok (.iload_n 2, 1) := dc_at daX8_refusedMeeting_0 16 rfl
theorem dX8_refusedMeeting_34 : decode cX8_refusedMeeting 34 = .ok (.aaload, 1) := dc_at daX8_refusedMeeting_0 17 rfl
theorem dX8_refusedMeeting_35 : decode cX8_refusedMeeting 35 = .ok (.getfield 185, 3) := dc_at daX8_refusedMeeting_0 18 rfl
theorem dX8_refusedMeeting_38 : decode cX8_refusedMeeting 38 = .ok (.ifCond .eq 6, 3) := dc_at daX8_refusedMeeting_0 19 rfl
theorem dX8_refusedMeeting_41 : decode cX8_refusedMeeting 41 = .ok (.bipush (-6), 2) := dc_at daX8_refusedMeeting_0 20 rfl
theorem dX8_refusedMeeting_43 : decode cX8_refusedMeeting 43 = .ok (.ireturn, 1) := dc_at daX8_refusedMeeting_0 21 rfl
theorem dX8_refusedMeeting_44 : decode cX8_refusedMeeting 44 = .ok (.aload_n 0, 1) := dc_at daX8_refusedMeeting_0 22 rfl
theorem dX8_refusedMeeting_45 : decode cX8_refusedMeeting 45 = .ok (.getfield 27, 3) := dc_at daX8_refusedMeeting_0 23 rfl
def dlX8_refusedMeeting_1 : List (Nat × Jvm.ClassFile.Instr × Nat) := [(48, .getfield 128, 3), (51, .istore_n 3, 1), (52, .iconst 0, 1), (53, .istore 4, 2), (55, .iload 4, 2), (57, .aload_n 0, 1), (58, .getfield 44, 3), (61, .iload_n 1, 1), (62, .aaload, 1), (63, .getfield 193, 3), (66, .if_icmp .ge 37, 3), (69, .aload_n 0, 1), (70, .getfield 27, 3), (73, .iload_n 3, 1), (74, .aload_n 0, 1), (75, .getfield 44, 3), (78, .iload_n 1, 1), (79, .aaload, 1), (80, .iload 4, 2), (82, .invokevirtual 196, 3), (85, .invokevirtual 174, 3), (88, .istore_n 3, 1), (89, .iload_n 3, 1), (90, .iconst (-1), 1)]
theorem daX8_refusedMeeting_1 : dlX8_refusedMeeting_1.all (dcK cX8_refusedMeeting) = true := by decide +kernel
theorem dX8_refusedMeeting_48 : decode cX8_refusedMeeting 48 = .ok (.getfield 128, 3) := dc_at daX8_refusedMeeting_1 0 rfl
theorem dX8_refusedMeeting_51 : decode cX8_refusedMeeting 51 = .ok (.istore_n 3, 1) := dc_at daX8_refusedMeeting_1 1 rfl
theorem dX8_refusedMeeting_52 : decode cX8_refusedMeeting 52 = .ok (.iconst 0, 1) := dc_at daX8_refusedMeeting_1 2 rfl
theorem dX8_refusedMeeting_53 : decode cX8_refusedMeeting 53 = .ok (.istore 4, 2) := dc_at daX8_refusedMeeting_1 3 rfl
theorem dX8_refusedMeeting_55 : decode cX8_refusedMeeting 55 = .ok (.iload 4, 2) := dc_at daX8_refusedMeeting_1 4 rfl
theorem dX8_refusedMeeting_57 : decode cX8_refusedMeeting 57 = .ok (.aload_n 0, 1) := dc_at daX8_refusedMeeting_1 5 rfl
theorem dX8_refusedMeeting_58 : decode cX8_refusedMeeting 58 = .ok (.getfield 44, 3) := dc_at daX8_refusedMeeting_1 6 rfl
theorem dX8_refusedMeeting_61 : decode cX8_refusedMeeting 61 = .ok (.iload_n 1, 1) := dc_at daX8_refusedMeeting_1 7 rfl
theorem dX8_refusedMeeting_62 : decode cX8_refusedMeeting 62 = .ok (.aaload, 1) := dc_at daX8_refusedMeeting_1 8 rfl
theorem dX8_refusedMeeting_63 : decode cX8_refusedMeeting 63 = .ok (.getfield 193, 3) := dc_at daX8_refusedMeeting_1 9 rfl
theorem dX8_refusedMeeting_66 : decode cX8_refusedMeeting 66 = .ok (.if_icmp .ge 37, 3) := dc_at daX8_refusedMeeting_1 10 rfl
theorem dX8_refusedMeeting_69 : decode cX8_refusedMeeting 69 = .ok (.aload_n 0, 1) := dc_at daX8_refusedMeeting_1 11 rfl
theorem dX8_refusedMeeting_70 : decode cX8_refusedMeeting 70 = .ok (.getfield 27, 3) := dc_at daX8_refusedMeeting_1 12 rfl
theorem dX8_refusedMeeting_73 : decode cX8_refusedMeeting 73 = .ok (.iload_n 3, 1) := dc_at daX8_refusedMeeting_1 13 rfl
theorem dX8_refusedMeeting_74 : decode cX8_refusedMeeting 74 = .ok (.aload_n 0, 1) := dc_at daX8_refusedMeeting_1 14 rfl
theorem dX8_refusedMeeting_75 : decode cX8_refusedMeeting 75 = .ok (.getfield 44, 3) := dc_at daX8_refusedMeeting_1 15 rfl
theorem dX8_refusedMeeting_78 : decode cX8_refusedMeeting 78 = .ok (.iload_n 1, 1) := dc_at daX8_refusedMeeting_1 16 rfl
theorem dX8_refusedMeeting_79 : decode cX8_refusedMeeting 79 = .ok (.aaload, 1) := dc_at daX8_refusedMeeting_1 17 rfl
theorem dX8_refusedMeeting_80 : decode cX8_refusedMeeting 80 = .ok (.iload 4, 2) := dc_at daX8_refusedMeeting_1 18 rfl
theorem dX8_refusedMeeting_82 : decode cX8_refusedMeeting 82 = .ok (.invokevirtual 196, 3) := dc_at daX8_refusedMeeting_1 19 rfl
theorem dX8_refusedMeeting_85 : decode cX8_refusedMeeting 85 = .ok (.invokevirtual 174, 3) := dc_at daX8_refusedMeeting_1 20 rfl
theorem dX8_refusedMeeting_88 : decode cX8_refusedMeeting 88 = .ok (.istore_n 3, 1) := dc_at daX8_refusedMeeting_1 21 rfl
theorem dX8_refusedMeeting_89 : decode cX8_refusedMeeting 89 = .ok (.iload_n 3, 1) := dc_at daX8_refusedMeeting_1 22 rfl
theorem dX8_refusedMeeting_90 : decode cX8_refusedMeeting 90 = .ok (.iconst (-1), 1) := dc_at daX8_refusedMeeting_1 23 rfl
def dlX8_refusedMeeting_2 : List (Nat × Jvm.ClassFile.Instr × Nat) := [(91, .if_icmp .ne 6, 3), (94, .bipush (-5), 2), (96, .ireturn, 1), (97, .iinc 4 1, 3), (100, .goto (-45), 3), (103, .iconst 0, 1), (104, .ireturn, 1)]
theorem daX8_refusedMeeting_2 : dlX8_refusedMeeting_2.all (dcK cX8_refusedMeeting) = true := by decide +kernel
theorem dX8_refusedMeeting_91 : decode cX8_refusedMeeting 91 = .ok (.if_icmp .ne 6, 3) := dc_at daX8_refusedMeeting_2 0 rfl
theorem dX8_refusedMeeting_94 : decode cX8_refusedMeeting 94 = .ok (.bipush (-5), 2) := dc_at daX8_refusedMeeting_2 1 rfl
theorem dX8_refusedMeeting_96 : decode cX8_refusedMeeting 96 = .ok (.ireturn, 1) := dc_at daX8_refusedMeeting_2 2 rfl
theorem dX8_refusedMeeting_97 : decode cX8_refusedMeeting 97 = .ok (.iinc 4 1, 3) := dc_at daX8_refusedMeeting_2 3 rfl
theorem dX8_refusedMeeting_100 : decode cX8_refusedMeeting 100 = .ok (.goto (-45), 3) := dc_at daX8_refusedMeeting_2 4 rfl
theorem dX8_refusedMeeting_103 : decode cX8_refusedMeeting 103 = .ok (.iconst 0, 1) := dc_at daX8_refusedMeeting_2 5 rfl
theorem dX8_refusedMeeting_104 : decode cX8_refusedMeeting 104 = .ok (.ireturn, 1) := dc_at daX8_refusedMeeting_2 6 rfl
def dlX8_firstMeeting_0 : List (Nat × Jvm.ClassFile.Instr × Nat) := [(0, .aload_n 0, 1), (1, .getfield 27, 3), (4, .getfield 128, 3), (7, .istore 4, 2), (9, .iload_n 3, 1), (10, .aload_n 1, 1), (11, .getfield 193, 3), (14, .iadd, 1), (15, .aload_n 2, 1), (16, .getfield 193, 3), (19, .invokestatic 211, 3), (22, .istore 5, 2), (24, .iconst 0, 1), (25, .istore 6, 2), (27, .iload 6, 2), (29, .iload 5, 2), (31, .if_icmp .ge 60, 3), (34, .iload 6, 2), (36, .iload_n 3, 1), (37, .if_icmp .lt 22, 3), (40, .aload_n 0, 1), (41, .getfield 27, 3), (44, .iload 4, 2), (46, .aload_n 1, 1)]
theorem daX8_firstMeeting_0 : dlX8_firstMeeting_0.all (dcK cX8_firstMeeting) = true := by decide +kernel
theorem dX8_firstMeeting_0 : decode cX8_firstMeeting 0 = .ok (.aload_n 0, 1) := dc_at daX8_firstMeeting_0 0 rfl
theorem dX8_firstMeeting_1 : decode cX8_firstMeeting 1 = .ok (.getfield 27, 3) := dc_at daX8_firstMeeting_0 1 rfl
theorem dX8_firstMeeting_4 : decode cX8_firstMeeting 4 = .ok (.getfield 128, 3) := dc_at daX8_firstMeeting_0 2 rfl
theorem dX8_firstMeeting_7 : decode cX8_firstMeeting 7 = .ok (.istore 4, 2) := dc_at daX8_firstMeeting_0 3 rfl
theorem dX8_firstMeeting_9 : decode cX8_firstMeeting 9 = .ok (.iload_n 3, 1) := dc_at daX8_firstMeeting_0 4 rfl
theorem dX8_firstMeeting_10 : decode cX8_firstMeeting 10 = .ok (.aload_n 1, 1) := dc_at daX8_firstMeeting_0 5 rfl
theorem dX8_firstMeeting_11 : decode cX8_firstMeeting 11 = .ok (.getfield 193, 3) := dc_at daX8_firstMeeting_0 6 rfl
theorem dX8_firstMeeting_14 : decode cX8_firstMeeting 14 = .ok (.iadd, 1) := dc_at daX8_firstMeeting_0 7 rfl
theorem dX8_firstMeeting_15 : decode cX8_firstMeeting 15 = .ok (.aload_n 2, 1) := dc_at daX8_firstMeeting_0 8 rfl
theorem dX8_firstMeeting_16 : decode cX8_firstMeeting 16 = .ok (.getfield 193, 3) := dc_at daX8_firstMeeting_0 9 rfl
theorem dX8_firstMeeting_19 : decode cX8_firstMeeting 19 = .ok (.invokestatic 211, 3) := dc_at daX8_firstMeeting_0 10 rfl
theorem dX8_firstMeeting_22 : decode cX8_firstMeeting 22 = .ok (.istore 5, 2) := dc_at daX8_firstMeeting_0 11 rfl
theorem dX8_firstMeeting_24 : decode cX8_firstMeeting 24 = .ok (.iconst 0, 1) := dc_at daX8_firstMeeting_0 12 rfl
theorem dX8_firstMeeting_25 : decode cX8_firstMeeting 25 = .ok (.istore 6, 2) := dc_at daX8_firstMeeting_0 13 rfl
theorem dX8_firstMeeting_27 : decode cX8_firstMeeting 27 = .ok (.iload 6, 2) := dc_at daX8_firstMeeting_0 14 rfl
theorem dX8_firstMeeting_29 : decode cX8_firstMeeting 29 = .ok (.iload 5, 2) := dc_at daX8_firstMeeting_0 15 rfl
theorem dX8_firstMeeting_31 : decode cX8_firstMeeting 31 = .ok (.if_icmp .ge 60, 3) := dc_at daX8_firstMeeting_0 16 rfl
theorem dX8_firstMeeting_34 : decode cX8_firstMeeting 34 = .ok (.iload 6, 2) := dc_at daX8_firstMeeting_0 17 rfl
theorem dX8_firstMeeting_36 : decode cX8_firstMeeting 36 = .ok (.iload_n 3, 1) := dc_at daX8_firstMeeting_0 18 rfl
theorem dX8_firstMeeting_37 : decode cX8_firstMeeting 37 = .ok (.if_icmp .lt 22, 3) := dc_at daX8_firstMeeting_0 19 rfl
theorem dX8_firstMeeting_40 : decode cX8_firstMeeting 40 = .ok (.aload_n 0, 1) := dc_at daX8_firstMeeting_0 20 rfl
theorem dX8_firstMeeting_41 : decode cX8_firstMeeting 41 = .ok (.getfield 27, 3) := dc_at daX8_firstMeeting_0 21 rfl
theorem dX8_firstMeeting_44 : decode cX8_firstMeeting 44 = .ok (.iload 4, 2) := dc_at daX8_firstMeeting_0 22 rfl
theorem dX8_firstMeeting_46 : decode cX8_firstMeeting 46 = .ok (.aload_n 1, 1) := dc_at daX8_firstMeeting_0 23 rfl
def dlX8_firstMeeting_1 : List (Nat × Jvm.ClassFile.Instr × Nat) := [(47, .iload 6, 2), (49, .iload_n 3, 1), (50, .isub, 1), (51, .invokevirtual 196, 3), (54, .invokevirtual 174, 3), (57, .istore 4, 2), (59, .iload 4, 2), (61, .aload_n 0, 1), (62, .getfield 27, 3), (65, .getfield 346, 3), (68, .if_icmp .ne 17, 3), (71, .aload_n 2, 1), (72, .iload 6, 2), (74, .invokevirtual 196, 3), (77, .lconst 0, 1), (78, .lcmp, 1), (79, .ifCond .ne 6, 3), (82, .iload 6, 2), (84, .ireturn, 1), (85, .iinc 6 1, 3), (88, .goto (-61), 3), (91, .iconst (-1), 1), (92, .ireturn, 1)]
theorem daX8_firstMeeting_1 : dlX8_firstMeeting_1.all (dcK cX8_firstMeeting) = true := by decide +kernel
theorem dX8_firstMeeting_47 : decode cX8_firstMeeting 47 = .ok (.iload 6, 2) := dc_at daX8_firstMeeting_1 0 rfl
theorem dX8_firstMeeting_49 : decode cX8_firstMeeting 49 = .ok (.iload_n 3, 1) := dc_at daX8_firstMeeting_1 1 rfl
theorem dX8_firstMeeting_50 : decode cX8_firstMeeting 50 = .ok (.isub, 1) := dc_at daX8_firstMeeting_1 2 rfl
theorem dX8_firstMeeting_51 : decode cX8_firstMeeting 51 = .ok (.invokevirtual 196, 3) := dc_at daX8_firstMeeting_1 3 rfl
theorem dX8_firstMeeting_54 : decode cX8_firstMeeting 54 = .ok (.invokevirtual 174, 3) := dc_at daX8_firstMeeting_1 4 rfl
theorem dX8_firstMeeting_57 : decode cX8_firstMeeting 57 = .ok (.istore 4, 2) := dc_at daX8_firstMeeting_1 5 rfl
theorem dX8_firstMeeting_59 : decode cX8_firstMeeting 59 = .ok (.iload 4, 2) := dc_at daX8_firstMeeting_1 6 rfl
theorem dX8_firstMeeting_61 : decode cX8_firstMeeting 61 = .ok (.aload_n 0, 1) := dc_at daX8_firstMeeting_1 7 rfl
theorem dX8_firstMeeting_62 : decode cX8_firstMeeting 62 = .ok (.getfield 27, 3) := dc_at daX8_firstMeeting_1 8 rfl
theorem dX8_firstMeeting_65 : decode cX8_firstMeeting 65 = .ok (.getfield 346, 3) := dc_at daX8_firstMeeting_1 9 rfl
theorem dX8_firstMeeting_68 : decode cX8_firstMeeting 68 = .ok (.if_icmp .ne 17, 3) := dc_at daX8_firstMeeting_1 10 rfl
theorem dX8_firstMeeting_71 : decode cX8_firstMeeting 71 = .ok (.aload_n 2, 1) := dc_at daX8_firstMeeting_1 11 rfl
theorem dX8_firstMeeting_72 : decode cX8_firstMeeting 72 = .ok (.iload 6, 2) := dc_at daX8_firstMeeting_1 12 rfl
theorem dX8_firstMeeting_74 : decode cX8_firstMeeting 74 = .ok (.invokevirtual 196, 3) := dc_at daX8_firstMeeting_1 13 rfl
theorem dX8_firstMeeting_77 : decode cX8_firstMeeting 77 = .ok (.lconst 0, 1) := dc_at daX8_firstMeeting_1 14 rfl
theorem dX8_firstMeeting_78 : decode cX8_firstMeeting 78 = .ok (.lcmp, 1) := dc_at daX8_firstMeeting_1 15 rfl
theorem dX8_firstMeeting_79 : decode cX8_firstMeeting 79 = .ok (.ifCond .ne 6, 3) := dc_at daX8_firstMeeting_1 16 rfl
theorem dX8_firstMeeting_82 : decode cX8_firstMeeting 82 = .ok (.iload 6, 2) := dc_at daX8_firstMeeting_1 17 rfl
theorem dX8_firstMeeting_84 : decode cX8_firstMeeting 84 = .ok (.ireturn, 1) := dc_at daX8_firstMeeting_1 18 rfl
theorem dX8_firstMeeting_85 : decode cX8_firstMeeting 85 = .ok (.iinc 6 1, 3) := dc_at daX8_firstMeeting_1 19 rfl
theorem dX8_firstMeeting_88 : decode cX8_firstMeeting 88 = .ok (.goto (-61), 3) := dc_at daX8_firstMeeting_1 20 rfl
theorem dX8_firstMeeting_91 : decode cX8_firstMeeting 91 = .ok (.iconst (-1), 1) := dc_at daX8_firstMeeting_1 21 rfl
theorem dX8_firstMeeting_92 : decode cX8_firstMeeting 92 = .ok (.ireturn, 1) := dc_at daX8_firstMeeting_1 22 rfl
def dlX9_within_0 : List (Nat × Jvm.ClassFile.Instr × Nat) := [(0, .lload_n 0, 1), (1, .lload_n 2, 1), (2, .lcmp, 1), (3, .ifCond .lt 14, 3), (6, .lload_n 0, 1), (7, .lload 4, 2), (9, .lcmp, 1), (10, .ifCond .gt 7, 3), (13, .iconst 1, 1), (14, .goto 4, 3), (17, .iconst 0, 1), (18, .ireturn, 1)]
theorem daX9_within_0 : dlX9_within_0.all (dcK cX9_within) = true := by decide +kernel
theorem dX9_within_0 : decode cX9_within 0 = .ok (.lload_n 0, 1) := dc_at daX9_within_0 0 rfl
theorem dX9_within_1 : decode cX9_within 1 = .ok (.lload_n 2, 1) := dc_at daX9_within_0 1 rfl
theorem dX9_within_2 : decode cX9_within 2 = .ok (.lcmp, 1) := dc_at daX9_within_0 2 rfl
theorem dX9_within_3 : decode cX9_within 3 = .ok (.ifCond .lt 14, 3) := dc_at daX9_within_0 3 rfl
theorem dX9_within_6 : decode cX9_within 6 = .ok (.lload_n 0, 1) := dc_at daX9_within_0 4 rfl
theorem dX9_within_7 : decode cX9_within 7 = .ok (.lload 4, 2) := dc_at daX9_within_0 5 rfl
theorem dX9_within_9 : decode cX9_within 9 = .ok (.lcmp, 1) := dc_at daX9_within_0 6 rfl
theorem dX9_within_10 : decode cX9_within 10 = .ok (.ifCond .gt 7, 3) := dc_at daX9_within_0 7 rfl
theorem dX9_within_13 : decode cX9_within 13 = .ok (.iconst 1, 1) := dc_at daX9_within_0 8 rfl
theorem dX9_within_14 : decode cX9_within 14 = .ok (.goto 4, 3) := dc_at daX9_within_0 9 rfl
theorem dX9_within_17 : decode cX9_within 17 = .ok (.iconst 0, 1) := dc_at daX9_within_0 10 rfl
theorem dX9_within_18 : decode cX9_within 18 = .ok (.ireturn, 1) := dc_at daX9_within_0 11 rfl
def dlX9_init_0 : List (Nat × Jvm.ClassFile.Instr × Nat) := [(0, .aload_n 0, 1), (1, .invokespecial 7, 3), (4, .aload_n 0, 1), (5, .sipush 288, 3), (8, .newarray .int, 2), (10, .putfield 13, 3), (13, .aload_n 0, 1), (14, .iconst 2, 1), (15, .newarray .boolean, 2), (17, .putfield 17, 3), (20, .aload_n 0, 1), (21, .sipush 900, 3), (24, .newarray .int, 2), (26, .putfield 21, 3), (29, .aload_n 0, 1), (30, .bipush 96, 2), (32, .newarray .int, 2), (34, .putfield 24, 3), (37, .aload_n 0, 1), (38, .iconst (-1), 1), (39, .putfield 27, 3), (42, .aload_n 0, 1), (43, .bipush 6, 2), (45, .newarray .int, 2)]
theorem daX9_init_0 : dlX9_init_0.all (dcK cX9_init) = true := by decide +kernel
theorem dX9_init_0 : decode cX9_init 0 = .ok (.aload_n 0, 1) := dc_at daX9_init_0 0 rfl
theorem dX9_init_1 : decode cX9_init 1 = .ok (.invokespecial 7, 3) := dc_at daX9_init_0 1 rfl
theorem dX9_init_4 : decode cX9_init 4 = .ok (.aload_n 0, 1) := dc_at daX9_init_0 2 rfl
theorem dX9_init_5 : decode cX9_init 5 = .ok (.sipush 288, 3) := dc_at daX9_init_0 3 rfl
theorem dX9_init_8 : decode cX9_init 8 = .ok (.newarray .int, 2) := dc_at daX9_init_0 4 rfl
theorem dX9_init_10 : decode cX9_init 10 = .ok (.putfield 13, 3) := dc_at daX9_init_0 5 rfl
theorem dX9_init_13 : decode cX9_init 13 = .ok (.aload_n 0, 1) := dc_at daX9_init_0 6 rfl
theorem dX9_init_14 : decode cX9_init 14 = .ok (.iconst 2, 1) := dc_at daX9_init_0 7 rfl
theorem dX9_init_15 : decode cX9_init 15 = .ok (.newarray .boolean, 2) := dc_at daX9_init_0 8 rfl
theorem dX9_init_17 : decode cX9_init 17 = .ok (.putfield 17, 3) := dc_at daX9_init_0 9 rfl
theorem dX9_init_20 : decode cX9_init 20 = .ok (.aload_n 0, 1) := dc_at daX9_init_0 10 rfl
theorem dX9_init_21 : decode cX9_init 21 = .ok (.sipush 900, 3) := dc_at daX9_init_0 11 rfl
theorem dX9_init_24 : decode cX9_init 24 = .ok (.newarray .int, 2) := dc_at daX9_init_0 12 rfl
theorem dX9_init_26 : decode cX9_init 26 = .ok (.putfield 21, 3) := dc_at daX9_init_0 13 rfl
theorem dX9_init_29 : decode cX9_init 29 = .ok (.aload_n 0, 1) := dc_at daX9_init_0 14 rfl
theorem dX9_init_30 : decode cX9_init 30 = .ok (.bipush 96, 2) := dc_at daX9_init_0 15 rfl
theorem dX9_init_32 : decode cX9_init 32 = .ok (.newarray .int, 2) := dc_at daX9_init_0 16 rfl
theorem dX9_init_34 : decode cX9_init 34 = .ok (.putfield 24, 3) := dc_at daX9_init_0 17 rfl
theorem dX9_init_37 : decode cX9_init 37 = .ok (.aload_n 0, 1) := dc_at daX9_init_0 18 rfl
theorem dX9_init_38 : decode cX9_init 38 = .ok (.iconst (-1), 1) := dc_at daX9_init_0 19 rfl
theorem dX9_init_39 : decode cX9_init 39 = .ok (.putfield 27, 3) := dc_at daX9_init_0 20 rfl
theorem dX9_init_42 : decode cX9_init 42 = .ok (.aload_n 0, 1) := dc_at daX9_init_0 21 rfl
theorem dX9_init_43 : decode cX9_init 43 = .ok (.bipush 6, 2) := dc_at daX9_init_0 22 rfl
theorem dX9_init_45 : decode cX9_init 45 = .ok (.newarray .int, 2) := dc_at daX9_init_0 23 rfl
def dlX9_init_1 : List (Nat × Jvm.ClassFile.Instr × Nat) := [(47, .putfield 30, 3), (50, .aload_n 0, 1), (51, .sipush 960, 3), (54, .newarray .int, 2), (56, .putfield 33, 3), (59, .aload_n 0, 1), (60, .bipush 8, 2), (62, .newarray .int, 2), (64, .putfield 36, 3), (67, .aload_n 0, 1), (68, .bipush 8, 2), (70, .newarray .int, 2), (72, .putfield 39, 3), (75, .aload_n 0, 1), (76, .bipush 6, 2), (78, .newarray .int, 2), (80, .putfield 42, 3), (83, .aload_n 0, 1), (84, .sipush 11664, 3), (87, .newarray .int, 2), (89, .putfield 45, 3), (92, .aload_n 0, 1), (93, .bipush 16, 2), (95, .newarray .int, 2)]
theorem daX9_init_1 : dlX9_init_1.all (dcK cX9_init) = true := by decide +kernel
theorem dX9_init_47 : decode cX9_init 47 = .ok (.putfield 30, 3) := dc_at daX9_init_1 0 rfl
theorem dX9_init_50 : decode cX9_init 50 = .ok (.aload_n 0, 1) := dc_at daX9_init_1 1 rfl
theorem dX9_init_51 : decode cX9_init 51 = .ok (.sipush 960, 3) := dc_at daX9_init_1 2 rfl
theorem dX9_init_54 : decode cX9_init 54 = .ok (.newarray .int, 2) := dc_at daX9_init_1 3 rfl
theorem dX9_init_56 : decode cX9_init 56 = .ok (.putfield 33, 3) := dc_at daX9_init_1 4 rfl
theorem dX9_init_59 : decode cX9_init 59 = .ok (.aload_n 0, 1) := dc_at daX9_init_1 5 rfl
theorem dX9_init_60 : decode cX9_init 60 = .ok (.bipush 8, 2) := dc_at daX9_init_1 6 rfl
theorem dX9_init_62 : decode cX9_init 62 = .ok (.newarray .int, 2) := dc_at daX9_init_1 7 rfl
theorem dX9_init_64 : decode cX9_init 64 = .ok (.putfield 36, 3) := dc_at daX9_init_1 8 rfl
theorem dX9_init_67 : decode cX9_init 67 = .ok (.aload_n 0, 1) := dc_at daX9_init_1 9 rfl
theorem dX9_init_68 : decode cX9_init 68 = .ok (.bipush 8, 2) := dc_at daX9_init_1 10 rfl
theorem dX9_init_70 : decode cX9_init 70 = .ok (.newarray .int, 2) := dc_at daX9_init_1 11 rfl
theorem dX9_init_72 : decode cX9_init 72 = .ok (.putfield 39, 3) := dc_at daX9_init_1 12 rfl
theorem dX9_init_75 : decode cX9_init 75 = .ok (.aload_n 0, 1) := dc_at daX9_init_1 13 rfl
theorem dX9_init_76 : decode cX9_init 76 = .ok (.bipush 6, 2) := dc_at daX9_init_1 14 rfl
theorem dX9_init_78 : decode cX9_init 78 = .ok (.newarray .int, 2) := dc_at daX9_init_1 15 rfl
theorem dX9_init_80 : decode cX9_init 80 = .ok (.putfield 42, 3) := dc_at daX9_init_1 16 rfl
theorem dX9_init_83 : decode cX9_init 83 = .ok (.aload_n 0, 1) := dc_at daX9_init_1 17 rfl
theorem dX9_init_84 : decode cX9_init 84 = .ok (.sipush 11664, 3) := dc_at daX9_init_1 18 rfl
theorem dX9_init_87 : decode cX9_init 87 = .ok (.newarray .int, 2) := dc_at daX9_init_1 19 rfl
theorem dX9_init_89 : decode cX9_init 89 = .ok (.putfield 45, 3) := dc_at daX9_init_1 20 rfl
theorem dX9_init_92 : decode cX9_init 92 = .ok (.aload_n 0, 1) := dc_at daX9_init_1 21 rfl
theorem dX9_init_93 : decode cX9_init 93 = .ok (.bipush 16, 2) := dc_at daX9_init_1 22 rfl
theorem dX9_init_95 : decode cX9_init 95 = .ok (.newarray .int, 2) := dc_at daX9_init_1 23 rfl
def dlX9_init_2 : List (Nat × Jvm.ClassFile.Instr × Nat) := [(97, .putfield 48, 3), (100, .aload_n 0, 1), (101, .iconst 4, 1), (102, .newarray .int, 2), (104, .dup, 1), (105, .iconst 0, 1), (106, .iconst (-1), 1), (107, .iastore, 1), (108, .dup, 1), (109, .iconst 1, 1), (110, .iconst (-1), 1), (111, .iastore, 1), (112, .dup, 1), (113, .iconst 2, 1), (114, .iconst (-1), 1), (115, .iastore, 1), (116, .dup, 1), (117, .iconst 3, 1), (118, .iconst (-1), 1), (119, .iastore, 1), (120, .putfield 51, 3), (123, .aload_n 0, 1), (124, .iconst 4, 1), (125, .newarray .int, 2)]
theorem daX9_init_2 : dlX9_init_2.all (dcK cX9_init) = true := by decide +kernel
theorem dX9_init_97 : decode cX9_init 97 = .ok (.putfield 48, 3) := dc_at daX9_init_2 0 rfl
theorem dX9_init_100 : decode cX9_init 100 = .ok (.aload_n 0, 1) := dc_at daX9_init_2 1 rfl
theorem dX9_init_101 : decode cX9_init 101 = .ok (.iconst 4, 1) := dc_at daX9_init_2 2 rfl
theorem dX9_init_102 : decode cX9_init 102 = .ok (.newarray .int, 2) := dc_at daX9_init_2 3 rfl
theorem dX9_init_104 : decode cX9_init 104 = .ok (.dup, 1) := dc_at daX9_init_2 4 rfl
theorem dX9_init_105 : decode cX9_init 105 = .ok (.iconst 0, 1) := dc_at daX9_init_2 5 rfl
theorem dX9_init_106 : decode cX9_init 106 = .ok (.iconst (-1), 1) := dc_at daX9_init_2 6 rfl
theorem dX9_init_107 : decode cX9_init 107 = .ok (.iastore, 1) := dc_at daX9_init_2 7 rfl
theorem dX9_init_108 : decode cX9_init 108 = .ok (.dup, 1) := dc_at daX9_init_2 8 rfl
theorem dX9_init_109 : decode cX9_init 109 = .ok (.iconst 1, 1) := dc_at daX9_init_2 9 rfl
theorem dX9_init_110 : decode cX9_init 110 = .ok (.iconst (-1), 1) := dc_at daX9_init_2 10 rfl
theorem dX9_init_111 : decode cX9_init 111 = .ok (.iastore, 1) := dc_at daX9_init_2 11 rfl
theorem dX9_init_112 : decode cX9_init 112 = .ok (.dup, 1) := dc_at daX9_init_2 12 rfl
theorem dX9_init_113 : decode cX9_init 113 = .ok (.iconst 2, 1) := dc_at daX9_init_2 13 rfl
theorem dX9_init_114 : decode cX9_init 114 = .ok (.iconst (-1), 1) := dc_at daX9_init_2 14 rfl
theorem dX9_init_115 : decode cX9_init 115 = .ok (.iastore, 1) := dc_at daX9_init_2 15 rfl
theorem dX9_init_116 : decode cX9_init 116 = .ok (.dup, 1) := dc_at daX9_init_2 16 rfl
theorem dX9_init_117 : decode cX9_init 117 = .ok (.iconst 3, 1) := dc_at daX9_init_2 17 rfl
theorem dX9_init_118 : decode cX9_init 118 = .ok (.iconst (-1), 1) := dc_at daX9_init_2 18 rfl
theorem dX9_init_119 : decode cX9_init 119 = .ok (.iastore, 1) := dc_at daX9_init_2 19 rfl
theorem dX9_init_120 : decode cX9_init 120 = .ok (.putfield 51, 3) := dc_at daX9_init_2 20 rfl
theorem dX9_init_123 : decode cX9_init 123 = .ok (.aload_n 0, 1) := dc_at daX9_init_2 21 rfl
theorem dX9_init_124 : decode cX9_init 124 = .ok (.iconst 4, 1) := dc_at daX9_init_2 22 rfl
theorem dX9_init_125 : decode cX9_init 125 = .ok (.newarray .int, 2) := dc_at daX9_init_2 23 rfl
def dlX9_init_3 : List (Nat × Jvm.ClassFile.Instr × Nat) := [(127, .putfield 54, 3), (130, .aload_n 0, 1), (131, .sipush 160, 3), (134, .newarray .long, 2), (136, .putfield 57, 3), (139, .aload_n 0, 1), (140, .getfield 13, 3), (143, .invokestatic 61, 3), (146, .return_, 1)]
theorem daX9_init_3 : dlX9_init_3.all (dcK cX9_init) = true := by decide +kernel
theorem dX9_init_127 : decode cX9_init 127 = .ok (.putfield 54, 3) := dc_at daX9_init_3 0 rfl
theorem dX9_init_130 : decode cX9_init 130 = .ok (.aload_n 0, 1) := dc_at daX9_init_3 1 rfl
theorem dX9_init_131 : decode cX9_init 131 = .ok (.sipush 160, 3) := dc_at daX9_init_3 2 rfl
theorem dX9_init_134 : decode cX9_init 134 = .ok (.newarray .long, 2) := dc_at daX9_init_3 3 rfl
theorem dX9_init_136 : decode cX9_init 136 = .ok (.putfield 57, 3) := dc_at daX9_init_3 4 rfl
theorem dX9_init_139 : decode cX9_init 139 = .ok (.aload_n 0, 1) := dc_at daX9_init_3 5 rfl
theorem dX9_init_140 : decode cX9_init 140 = .ok (.getfield 13, 3) := dc_at daX9_init_3 6 rfl
theorem dX9_init_143 : decode cX9_init 143 = .ok (.invokestatic 61, 3) := dc_at daX9_init_3 7 rfl
theorem dX9_init_146 : decode cX9_init 146 = .ok (.return_, 1) := dc_at daX9_init_3 8 rfl
def dlX9_lampIn_0 : List (Nat × Jvm.ClassFile.Instr × Nat) := [(0, .aload_n 0, 1), (1, .iconst 2, 1), (2, .iconst 0, 1), (3, .iastore, 1), (4, .aload_n 0, 1), (5, .iconst 3, 1), (6, .bipush 6, 2), (8, .iastore, 1), (9, .aload_n 0, 1), (10, .iconst 4, 1), (11, .bipush 6, 2), (13, .iastore, 1), (14, .aload_n 0, 1), (15, .iconst 5, 1), (16, .iconst 1, 1), (17, .iastore, 1), (18, .return_, 1)]
theorem daX9_lampIn_0 : dlX9_lampIn_0.all (dcK cX9_lampIn) = true := by decide +kernel
theorem dX9_lampIn_0 : decode cX9_lampIn 0 = .ok (.aload_n 0, 1) := dc_at daX9_lampIn_0 0 rfl
theorem dX9_lampIn_1 : decode cX9_lampIn 1 = .ok (.iconst 2, 1) := dc_at daX9_lampIn_0 1 rfl
theorem dX9_lampIn_2 : decode cX9_lampIn 2 = .ok (.iconst 0, 1) := dc_at daX9_lampIn_0 2 rfl
theorem dX9_lampIn_3 : decode cX9_lampIn 3 = .ok (.iastore, 1) := dc_at daX9_lampIn_0 3 rfl
theorem dX9_lampIn_4 : decode cX9_lampIn 4 = .ok (.aload_n 0, 1) := dc_at daX9_lampIn_0 4 rfl
theorem dX9_lampIn_5 : decode cX9_lampIn 5 = .ok (.iconst 3, 1) := dc_at daX9_lampIn_0 5 rfl
theorem dX9_lampIn_6 : decode cX9_lampIn 6 = .ok (.bipush 6, 2) := dc_at daX9_lampIn_0 6 rfl
theorem dX9_lampIn_8 : decode cX9_lampIn 8 = .ok (.iastore, 1) := dc_at daX9_lampIn_0 7 rfl
theorem dX9_lampIn_9 : decode cX9_lampIn 9 = .ok (.aload_n 0, 1) := dc_at daX9_lampIn_0 8 rfl
theorem dX9_lampIn_10 : decode cX9_lampIn 10 = .ok (.iconst 4, 1) := dc_at daX9_lampIn_0 9 rfl
theorem dX9_lampIn_11 : decode cX9_lampIn 11 = .ok (.bipush 6, 2) := dc_at daX9_lampIn_0 10 rfl
theorem dX9_lampIn_13 : decode cX9_lampIn 13 = .ok (.iastore, 1) := dc_at daX9_lampIn_0 11 rfl
theorem dX9_lampIn_14 : decode cX9_lampIn 14 = .ok (.aload_n 0, 1) := dc_at daX9_lampIn_0 12 rfl
theorem dX9_lampIn_15 : decode cX9_lampIn 15 = .ok (.iconst 5, 1) := dc_at daX9_lampIn_0 13 rfl
theorem dX9_lampIn_16 : decode cX9_lampIn 16 = .ok (.iconst 1, 1) := dc_at daX9_lampIn_0 14 rfl
theorem dX9_lampIn_17 : decode cX9_lampIn 17 = .ok (.iastore, 1) := dc_at daX9_lampIn_0 15 rfl
theorem dX9_lampIn_18 : decode cX9_lampIn 18 = .ok (.return_, 1) := dc_at daX9_lampIn_0 16 rfl
def dlX9_plainIn_0 : List (Nat × Jvm.ClassFile.Instr × Nat) := [(0, .iconst 0, 1), (1, .istore_n 1, 1), (2, .iload_n 1, 1), (3, .bipush 96, 2), (5, .if_icmp .ge 13, 3), (8, .aload_n 0, 1), (9, .iload_n 1, 1), (10, .iconst 0, 1), (11, .iastore, 1), (12, .iinc 1 1, 3), (15, .goto (-13), 3), (18, .aload_n 0, 1), (19, .invokestatic 65, 3), (22, .aload_n 0, 1), (23, .bipush 6, 2), (25, .bipush 60, 2), (27, .iastore, 1), (28, .iconst 0, 1), (29, .istore_n 1, 1), (30, .iload_n 1, 1), (31, .bipush 6, 2), (33, .if_icmp .ge 16, 3), (36, .aload_n 0, 1), (37, .bipush 10, 2)]
theorem daX9_plainIn_0 : dlX9_plainIn_0.all (dcK cX9_plainIn) = true := by decide +kernel
theorem dX9_plainIn_0 : decode cX9_plainIn 0 = .ok (.iconst 0, 1) := dc_at daX9_plainIn_0 0 rfl
theorem dX9_plainIn_1 : decode cX9_plainIn 1 = .ok (.istore_n 1, 1) := dc_at daX9_plainIn_0 1 rfl
theorem dX9_plainIn_2 : decode cX9_plainIn 2 = .ok (.iload_n 1, 1) := dc_at daX9_plainIn_0 2 rfl
theorem dX9_plainIn_3 : decode cX9_plainIn 3 = .ok (.bipush 96, 2) := dc_at daX9_plainIn_0 3 rfl
theorem dX9_plainIn_5 : decode cX9_plainIn 5 = .ok (.if_icmp .ge 13, 3) := dc_at daX9_plainIn_0 4 rfl
theorem dX9_plainIn_8 : decode cX9_plainIn 8 = .ok (.aload_n 0, 1) := dc_at daX9_plainIn_0 5 rfl
theorem dX9_plainIn_9 : decode cX9_plainIn 9 = .ok (.iload_n 1, 1) := dc_at daX9_plainIn_0 6 rfl
theorem dX9_plainIn_10 : decode cX9_plainIn 10 = .ok (.iconst 0, 1) := dc_at daX9_plainIn_0 7 rfl
theorem dX9_plainIn_11 : decode cX9_plainIn 11 = .ok (.iastore, 1) := dc_at daX9_plainIn_0 8 rfl
theorem dX9_plainIn_12 : decode cX9_plainIn 12 = .ok (.iinc 1 1, 3) := dc_at daX9_plainIn_0 9 rfl
theorem dX9_plainIn_15 : decode cX9_plainIn 15 = .ok (.goto (-13), 3) := dc_at daX9_plainIn_0 10 rfl
theorem dX9_plainIn_18 : decode cX9_plainIn 18 = .ok (.aload_n 0, 1) := dc_at daX9_plainIn_0 11 rfl
theorem dX9_plainIn_19 : decode cX9_plainIn 19 = .ok (.invokestatic 65, 3) := dc_at daX9_plainIn_0 12 rfl
theorem dX9_plainIn_22 : decode cX9_plainIn 22 = .ok (.aload_n 0, 1) := dc_at daX9_plainIn_0 13 rfl
theorem dX9_plainIn_23 : decode cX9_plainIn 23 = .ok (.bipush 6, 2) := dc_at daX9_plainIn_0 14 rfl
theorem dX9_plainIn_25 : decode cX9_plainIn 25 = .ok (.bipush 60, 2) := dc_at daX9_plainIn_0 15 rfl
theorem dX9_plainIn_27 : decode cX9_plainIn 27 = .ok (.iastore, 1) := dc_at daX9_plainIn_0 16 rfl
theorem dX9_plainIn_28 : decode cX9_plainIn 28 = .ok (.iconst 0, 1) := dc_at daX9_plainIn_0 17 rfl
theorem dX9_plainIn_29 : decode cX9_plainIn 29 = .ok (.istore_n 1, 1) := dc_at daX9_plainIn_0 18 rfl
theorem dX9_plainIn_30 : decode cX9_plainIn 30 = .ok (.iload_n 1, 1) := dc_at daX9_plainIn_0 19 rfl
theorem dX9_plainIn_31 : decode cX9_plainIn 31 = .ok (.bipush 6, 2) := dc_at daX9_plainIn_0 20 rfl
theorem dX9_plainIn_33 : decode cX9_plainIn 33 = .ok (.if_icmp .ge 16, 3) := dc_at daX9_plainIn_0 21 rfl
theorem dX9_plainIn_36 : decode cX9_plainIn 36 = .ok (.aload_n 0, 1) := dc_at daX9_plainIn_0 22 rfl
theorem dX9_plainIn_37 : decode cX9_plainIn 37 = .ok (.bipush 10, 2) := dc_at daX9_plainIn_0 23 rfl
def dlX9_plainIn_1 : List (Nat × Jvm.ClassFile.Instr × Nat) := [(39, .iload_n 1, 1), (40, .iadd, 1), (41, .iconst 1, 1), (42, .iastore, 1), (43, .iinc 1 1, 3), (46, .goto (-16), 3), (49, .return_, 1)]
theorem daX9_plainIn_1 : dlX9_plainIn_1.all (dcK cX9_plainIn) = true := by decide +kernel
theorem dX9_plainIn_39 : decode cX9_plainIn 39 = .ok (.iload_n 1, 1) := dc_at daX9_plainIn_1 0 rfl
theorem dX9_plainIn_40 : decode cX9_plainIn 40 = .ok (.iadd, 1) := dc_at daX9_plainIn_1 1 rfl
theorem dX9_plainIn_41 : decode cX9_plainIn 41 = .ok (.iconst 1, 1) := dc_at daX9_plainIn_1 2 rfl
theorem dX9_plainIn_42 : decode cX9_plainIn 42 = .ok (.iastore, 1) := dc_at daX9_plainIn_1 3 rfl
theorem dX9_plainIn_43 : decode cX9_plainIn 43 = .ok (.iinc 1 1, 3) := dc_at daX9_plainIn_1 4 rfl
theorem dX9_plainIn_46 : decode cX9_plainIn 46 = .ok (.goto (-16), 3) := dc_at daX9_plainIn_1 5 rfl
theorem dX9_plainIn_49 : decode cX9_plainIn 49 = .ok (.return_, 1) := dc_at daX9_plainIn_1 6 rfl
def dlX9_feed_0 : List (Nat × Jvm.ClassFile.Instr × Nat) := [(0, .aload_n 0, 1), (1, .iconst 0, 1), (2, .putfield 1, 3), (5, .aload_n 0, 1), (6, .getfield 68, 3), (9, .bipush 20, 2), (11, .iadd, 1), (12, .sipush 900, 3), (15, .if_icmp .le 6, 3), (18, .bipush (-5), 2), (20, .ireturn, 1), (21, .iconst 0, 1), (22, .istore 6, 2), (24, .iload 6, 2), (26, .bipush 20, 2), (28, .if_icmp .ge 93, 3), (31, .iload 6, 2), (33, .iconst 4, 1), (34, .if_icmp .ge 7, 3), (37, .iload_n 1, 1), (38, .goto 39, 3), (41, .iload 6, 2), (43, .bipush 8, 2), (45, .if_icmp .ge 7, 3)]
theorem daX9_feed_0 : dlX9_feed_0.all (dcK cX9_feed) = true := by decide +kernel
theorem dX9_feed_0 : decode cX9_feed 0 = .ok (.aload_n 0, 1) := dc_at daX9_feed_0 0 rfl
theorem dX9_feed_1 : decode cX9_feed 1 = .ok (.iconst 0, 1) := dc_at daX9_feed_0 1 rfl
theorem dX9_feed_2 : decode cX9_feed 2 = .ok (.putfield 1, 3) := dc_at daX9_feed_0 2 rfl
theorem dX9_feed_5 : decode cX9_feed 5 = .ok (.aload_n 0, 1) := dc_at daX9_feed_0 3 rfl
theorem dX9_feed_6 : decode cX9_feed 6 = .ok (.getfield 68, 3) := dc_at daX9_feed_0 4 rfl
theorem dX9_feed_9 : decode cX9_feed 9 = .ok (.bipush 20, 2) := dc_at daX9_feed_0 5 rfl
theorem dX9_feed_11 : decode cX9_feed 11 = .ok (.iadd, 1) := dc_at daX9_feed_0 6 rfl
theorem dX9_feed_12 : decode cX9_feed 12 = .ok (.sipush 900, 3) := dc_at daX9_feed_0 7 rfl
theorem dX9_feed_15 : decode cX9_feed 15 = .ok (.if_icmp .le 6, 3) := dc_at daX9_feed_0 8 rfl
theorem dX9_feed_18 : decode cX9_feed 18 = .ok (.bipush (-5), 2) := dc_at daX9_feed_0 9 rfl
theorem dX9_feed_20 : decode cX9_feed 20 = .ok (.ireturn, 1) := dc_at daX9_feed_0 10 rfl
theorem dX9_feed_21 : decode cX9_feed 21 = .ok (.iconst 0, 1) := dc_at daX9_feed_0 11 rfl
theorem dX9_feed_22 : decode cX9_feed 22 = .ok (.istore 6, 2) := dc_at daX9_feed_0 12 rfl
theorem dX9_feed_24 : decode cX9_feed 24 = .ok (.iload 6, 2) := dc_at daX9_feed_0 13 rfl
theorem dX9_feed_26 : decode cX9_feed 26 = .ok (.bipush 20, 2) := dc_at daX9_feed_0 14 rfl
theorem dX9_feed_28 : decode cX9_feed 28 = .ok (.if_icmp .ge 93, 3) := dc_at daX9_feed_0 15 rfl
theorem dX9_feed_31 : decode cX9_feed 31 = .ok (.iload 6, 2) := dc_at daX9_feed_0 16 rfl
theorem dX9_feed_33 : decode cX9_feed 33 = .ok (.iconst 4, 1) := dc_at daX9_feed_0 17 rfl
theorem dX9_feed_34 : decode cX9_feed 34 = .ok (.if_icmp .ge 7, 3) := dc_at daX9_feed_0 18 rfl
theorem dX9_feed_37 : decode cX9_feed 37 = .ok (.iload_n 1, 1) := dc_at daX9_feed_0 19 rfl
theorem dX9_feed_38 : decode cX9_feed 38 = .ok (.goto 39, 3) := dc_at daX9_feed_0 20 rfl
theorem dX9_feed_41 : decode cX9_feed 41 = .ok (.iload 6, 2) := dc_at daX9_feed_0 21 rfl
theorem dX9_feed_43 : decode cX9_feed 43 = .ok (.bipush 8, 2) := dc_at daX9_feed_0 22 rfl
theorem dX9_feed_45 : decode cX9_feed 45 = .ok (.if_icmp .ge 7, 3) := dc_at daX9_feed_0 23 rfl
def dlX9_feed_1 : List (Nat × Jvm.ClassFile.Instr × Nat) := [(48, .iload_n 2, 1), (49, .goto 28, 3), (52, .iload 6, 2), (54, .bipush 12, 2), (56, .if_icmp .ge 7, 3), (59, .iload_n 3, 1), (60, .goto 17, 3), (63, .iload 6, 2), (65, .bipush 16, 2), (67, .if_icmp .ge 8, 3), (70, .iload 4, 2), (72, .goto 5, 3), (75, .iload 5, 2), (77, .istore 7, 2), (79, .aload_n 0, 1), (80, .getfield 21, 3), (83, .aload_n 0, 1), (84, .getfield 68, 3), (87, .iload 7, 2), (89, .bipush 24, 2), (91, .bipush 8, 2), (93, .iload 6, 2), (95, .iconst 4, 1), (96, .irem, 1)]
theorem daX9_feed_1 : dlX9_feed_1.all (dcK cX9_feed) = true := by decide +kernel
theorem dX9_feed_48 : decode cX9_feed 48 = .ok (.iload_n 2, 1) := dc_at daX9_feed_1 0 rfl
theorem dX9_feed_49 : decode cX9_feed 49 = .ok (.goto 28, 3) := dc_at daX9_feed_1 1 rfl
theorem dX9_feed_52 : decode cX9_feed 52 = .ok (.iload 6, 2) := dc_at daX9_feed_1 2 rfl
theorem dX9_feed_54 : decode cX9_feed 54 = .ok (.bipush 12, 2) := dc_at daX9_feed_1 3 rfl
theorem dX9_feed_56 : decode cX9_feed 56 = .ok (.if_icmp .ge 7, 3) := dc_at daX9_feed_1 4 rfl
theorem dX9_feed_59 : decode cX9_feed 59 = .ok (.iload_n 3, 1) := dc_at daX9_feed_1 5 rfl
theorem dX9_feed_60 : decode cX9_feed 60 = .ok (.goto 17, 3) := dc_at daX9_feed_1 6 rfl
theorem dX9_feed_63 : decode cX9_feed 63 = .ok (.iload 6, 2) := dc_at daX9_feed_1 7 rfl
theorem dX9_feed_65 : decode cX9_feed 65 = .ok (.bipush 16, 2) := dc_at daX9_feed_1 8 rfl
theorem dX9_feed_67 : decode cX9_feed 67 = .ok (.if_icmp .ge 8, 3) := dc_at daX9_feed_1 9 rfl
theorem dX9_feed_70 : decode cX9_feed 70 = .ok (.iload 4, 2) := dc_at daX9_feed_1 10 rfl
theorem dX9_feed_72 : decode cX9_feed 72 = .ok (.goto 5, 3) := dc_at daX9_feed_1 11 rfl
theorem dX9_feed_75 : decode cX9_feed 75 = .ok (.iload 5, 2) := dc_at daX9_feed_1 12 rfl
theorem dX9_feed_77 : decode cX9_feed 77 = .ok (.istore 7, 2) := dc_at daX9_feed_1 13 rfl
theorem dX9_feed_79 : decode cX9_feed 79 = .ok (.aload_n 0, 1) := dc_at daX9_feed_1 14 rfl
theorem dX9_feed_80 : decode cX9_feed 80 = .ok (.getfield 21, 3) := dc_at daX9_feed_1 15 rfl
theorem dX9_feed_83 : decode cX9_feed 83 = .ok (.aload_n 0, 1) := dc_at daX9_feed_1 16 rfl
theorem dX9_feed_84 : decode cX9_feed 84 = .ok (.getfield 68, 3) := dc_at daX9_feed_1 17 rfl
theorem dX9_feed_87 : decode cX9_feed 87 = .ok (.iload 7, 2) := dc_at daX9_feed_1 18 rfl
theorem dX9_feed_89 : decode cX9_feed 89 = .ok (.bipush 24, 2) := dc_at daX9_feed_1 19 rfl
theorem dX9_feed_91 : decode cX9_feed 91 = .ok (.bipush 8, 2) := dc_at daX9_feed_1 20 rfl
theorem dX9_feed_93 : decode cX9_feed 93 = .ok (.iload 6, 2) := dc_at daX9_feed_1 21 rfl
theorem dX9_feed_95 : decode cX9_feed 95 = .ok (.iconst 4, 1) := dc_at daX9_feed_1 22 rfl
theorem dX9_feed_96 : decode cX9_feed 96 = .ok (.irem, 1) := dc_at daX9_feed_1 23 rfl
def dlX9_feed_2 : List (Nat × Jvm.ClassFile.Instr × Nat) := [(97, .imul, 1), (98, .isub, 1), (99, .ishr, 1), (100, .sipush 255, 3), (103, .iand, 1), (104, .iastore, 1), (105, .aload_n 0, 1), (106, .dup, 1), (107, .getfield 68, 3), (110, .iconst 1, 1), (111, .iadd, 1), (112, .putfield 68, 3), (115, .iinc 6 1, 3), (118, .goto (-94), 3), (121, .aload_n 0, 1), (122, .getfield 68, 3), (125, .ireturn, 1)]
theorem daX9_feed_2 : dlX9_feed_2.all (dcK cX9_feed) = true := by decide +kernel
theorem dX9_feed_97 : decode cX9_feed 97 = .ok (.imul, 1) := dc_at daX9_feed_2 0 rfl
theorem dX9_feed_98 : decode cX9_feed 98 = .ok (.isub, 1) := dc_at daX9_feed_2 1 rfl
theorem dX9_feed_99 : decode cX9_feed 99 = .ok (.ishr, 1) := dc_at daX9_feed_2 2 rfl
theorem dX9_feed_100 : decode cX9_feed 100 = .ok (.sipush 255, 3) := dc_at daX9_feed_2 3 rfl
theorem dX9_feed_103 : decode cX9_feed 103 = .ok (.iand, 1) := dc_at daX9_feed_2 4 rfl
theorem dX9_feed_104 : decode cX9_feed 104 = .ok (.iastore, 1) := dc_at daX9_feed_2 5 rfl
theorem dX9_feed_105 : decode cX9_feed 105 = .ok (.aload_n 0, 1) := dc_at daX9_feed_2 6 rfl
theorem dX9_feed_106 : decode cX9_feed 106 = .ok (.dup, 1) := dc_at daX9_feed_2 7 rfl
theorem dX9_feed_107 : decode cX9_feed 107 = .ok (.getfield 68, 3) := dc_at daX9_feed_2 8 rfl
theorem dX9_feed_110 : decode cX9_feed 110 = .ok (.iconst 1, 1) := dc_at daX9_feed_2 9 rfl
theorem dX9_feed_111 : decode cX9_feed 111 = .ok (.iadd, 1) := dc_at daX9_feed_2 10 rfl
theorem dX9_feed_112 : decode cX9_feed 112 = .ok (.putfield 68, 3) := dc_at daX9_feed_2 11 rfl
theorem dX9_feed_115 : decode cX9_feed 115 = .ok (.iinc 6 1, 3) := dc_at daX9_feed_2 12 rfl
theorem dX9_feed_118 : decode cX9_feed 118 = .ok (.goto (-94), 3) := dc_at daX9_feed_2 13 rfl
theorem dX9_feed_121 : decode cX9_feed 121 = .ok (.aload_n 0, 1) := dc_at daX9_feed_2 14 rfl
theorem dX9_feed_122 : decode cX9_feed 122 = .ok (.getfield 68, 3) := dc_at daX9_feed_2 15 rfl
theorem dX9_feed_125 : decode cX9_feed 125 = .ok (.ireturn, 1) := dc_at daX9_feed_2 16 rfl
def dlX9_see_0 : List (Nat × Jvm.ClassFile.Instr × Nat) := [(0, .iload_n 1, 1), (1, .aload_n 0, 1), (2, .getfield 71, 3), (5, .if_icmp .ge 12, 3), (8, .aload_n 0, 1), (9, .getfield 21, 3), (12, .iload_n 1, 1), (13, .iaload, 1), (14, .goto 4, 3), (17, .iconst (-1), 1), (18, .ireturn, 1)]
theorem daX9_see_0 : dlX9_see_0.all (dcK cX9_see) = true := by decide +kernel
theorem dX9_see_0 : decode cX9_see 0 = .ok (.iload_n 1, 1) := dc_at daX9_see_0 0 rfl
theorem dX9_see_1 : decode cX9_see 1 = .ok (.aload_n 0, 1) := dc_at daX9_see_0 1 rfl
theorem dX9_see_2 : decode cX9_see 2 = .ok (.getfield 71, 3) := dc_at daX9_see_0 2 rfl
theorem dX9_see_5 : decode cX9_see 5 = .ok (.if_icmp .ge 12, 3) := dc_at daX9_see_0 3 rfl
theorem dX9_see_8 : decode cX9_see 8 = .ok (.aload_n 0, 1) := dc_at daX9_see_0 4 rfl
theorem dX9_see_9 : decode cX9_see 9 = .ok (.getfield 21, 3) := dc_at daX9_see_0 5 rfl
theorem dX9_see_12 : decode cX9_see 12 = .ok (.iload_n 1, 1) := dc_at daX9_see_0 6 rfl
theorem dX9_see_13 : decode cX9_see 13 = .ok (.iaload, 1) := dc_at daX9_see_0 7 rfl
theorem dX9_see_14 : decode cX9_see 14 = .ok (.goto 4, 3) := dc_at daX9_see_0 8 rfl
theorem dX9_see_17 : decode cX9_see 17 = .ok (.iconst (-1), 1) := dc_at daX9_see_0 9 rfl
theorem dX9_see_18 : decode cX9_see 18 = .ok (.ireturn, 1) := dc_at daX9_see_0 10 rfl
def dlX9_isSmall_0 : List (Nat × Jvm.ClassFile.Instr × Nat) := [(0, .iload_n 0, 1), (1, .bipush 97, 2), (3, .if_icmp .lt 13, 3), (6, .iload_n 0, 1), (7, .bipush 122, 2), (9, .if_icmp .gt 7, 3), (12, .iconst 1, 1), (13, .goto 4, 3), (16, .iconst 0, 1), (17, .ireturn, 1)]
theorem daX9_isSmall_0 : dlX9_isSmall_0.all (dcK cX9_isSmall) = true := by decide +kernel
theorem dX9_isSmall_0 : decode cX9_isSmall 0 = .ok (.iload_n 0, 1) := dc_at daX9_isSmall_0 0 rfl
theorem dX9_isSmall_1 : decode cX9_isSmall 1 = .ok (.bipush 97, 2) := dc_at daX9_isSmall_0 1 rfl
theorem dX9_isSmall_3 : decode cX9_isSmall 3 = .ok (.if_icmp .lt 13, 3) := dc_at daX9_isSmall_0 2 rfl
theorem dX9_isSmall_6 : decode cX9_isSmall 6 = .ok (.iload_n 0, 1) := dc_at daX9_isSmall_0 3 rfl
theorem dX9_isSmall_7 : decode cX9_isSmall 7 = .ok (.bipush 122, 2) := dc_at daX9_isSmall_0 4 rfl
theorem dX9_isSmall_9 : decode cX9_isSmall 9 = .ok (.if_icmp .gt 7, 3) := dc_at daX9_isSmall_0 5 rfl
theorem dX9_isSmall_12 : decode cX9_isSmall 12 = .ok (.iconst 1, 1) := dc_at daX9_isSmall_0 6 rfl
theorem dX9_isSmall_13 : decode cX9_isSmall 13 = .ok (.goto 4, 3) := dc_at daX9_isSmall_0 7 rfl
theorem dX9_isSmall_16 : decode cX9_isSmall 16 = .ok (.iconst 0, 1) := dc_at daX9_isSmall_0 8 rfl
theorem dX9_isSmall_17 : decode cX9_isSmall 17 = .ok (.ireturn, 1) := dc_at daX9_isSmall_0 9 rfl
def dlX9_isDigit_0 : List (Nat × Jvm.ClassFile.Instr × Nat) := [(0, .iload_n 0, 1), (1, .bipush 48, 2), (3, .if_icmp .lt 13, 3), (6, .iload_n 0, 1), (7, .bipush 57, 2), (9, .if_icmp .gt 7, 3), (12, .iconst 1, 1), (13, .goto 4, 3), (16, .iconst 0, 1), (17, .ireturn, 1)]
theorem daX9_isDigit_0 : dlX9_isDigit_0.all (dcK cX9_isDigit) = true := by decide +kernel
theorem dX9_isDigit_0 : decode cX9_isDigit 0 = .ok (.iload_n 0, 1) := dc_at daX9_isDigit_0 0 rfl
theorem dX9_isDigit_1 : decode cX9_isDigit 1 = .ok (.bipush 48, 2) := dc_at daX9_isDigit_0 1 rfl
theorem dX9_isDigit_3 : decode cX9_isDigit 3 = .ok (.if_icmp .lt 13, 3) := dc_at daX9_isDigit_0 2 rfl
theorem dX9_isDigit_6 : decode cX9_isDigit 6 = .ok (.iload_n 0, 1) := dc_at daX9_isDigit_0 3 rfl
theorem dX9_isDigit_7 : decode cX9_isDigit 7 = .ok (.bipush 57, 2) := dc_at daX9_isDigit_0 4 rfl
theorem dX9_isDigit_9 : decode cX9_isDigit 9 = .ok (.if_icmp .gt 7, 3) := dc_at daX9_isDigit_0 5 rfl
theorem dX9_isDigit_12 : decode cX9_isDigit 12 = .ok (.iconst 1, 1) := dc_at daX9_isDigit_0 6 rfl
theorem dX9_isDigit_13 : decode cX9_isDigit 13 = .ok (.goto 4, 3) := dc_at daX9_isDigit_0 7 rfl
theorem dX9_isDigit_16 : decode cX9_isDigit 16 = .ok (.iconst 0, 1) := dc_at daX9_isDigit_0 8 rfl
theorem dX9_isDigit_17 : decode cX9_isDigit 17 = .ok (.ireturn, 1) := dc_at daX9_isDigit_0 9 rfl
def dlX9_keyAt_0 : List (Nat × Jvm.ClassFile.Instr × Nat) := [(0, .iconst 0, 1), (1, .istore_n 1, 1), (2, .iconst 1, 1), (3, .istore_n 2, 1), (4, .iload_n 2, 1), (5, .ldc 74, 2), (7, .invokevirtual 76, 3), (10, .if_icmp .ge 113, 3), (13, .iconst 0, 1), (14, .istore_n 3, 1), (15, .ldc 74, 2), (17, .iload_n 2, 1), (18, .iload_n 3, 1), (19, .iadd, 1), (20, .invokevirtual 82, 3), (23, .bipush 32, 2), (25, .if_icmp .eq 44, 3), (28, .aload_n 0, 1), (29, .getfield 86, 3), (32, .iload_n 3, 1), (33, .iadd, 1), (34, .aload_n 0, 1), (35, .getfield 89, 3), (38, .if_icmp .ge 31, 3)]
theorem daX9_keyAt_0 : dlX9_keyAt_0.all (dcK cX9_keyAt) = true := by decide +kernel
theorem dX9_keyAt_0 : decode cX9_keyAt 0 = .ok (.iconst 0, 1) := dc_at daX9_keyAt_0 0 rfl
theorem dX9_keyAt_1 : decode cX9_keyAt 1 = .ok (.istore_n 1, 1) := dc_at daX9_keyAt_0 1 rfl
theorem dX9_keyAt_2 : decode cX9_keyAt 2 = .ok (.iconst 1, 1) := dc_at daX9_keyAt_0 2 rfl
theorem dX9_keyAt_3 : decode cX9_keyAt 3 = .ok (.istore_n 2, 1) := dc_at daX9_keyAt_0 3 rfl
theorem dX9_keyAt_4 : decode cX9_keyAt 4 = .ok (.iload_n 2, 1) := dc_at daX9_keyAt_0 4 rfl
theorem dX9_keyAt_5 : decode cX9_keyAt 5 = .ok (.ldc 74, 2) := dc_at daX9_keyAt_0 5 rfl
theorem dX9_keyAt_7 : decode cX9_keyAt 7 = .ok (.invokevirtual 76, 3) := dc_at daX9_keyAt_0 6 rfl
theorem dX9_keyAt_10 : decode cX9_keyAt 10 = .ok (.if_icmp .ge 113, 3) := dc_at daX9_keyAt_0 7 rfl
theorem dX9_keyAt_13 : decode cX9_keyAt 13 = .ok (.iconst 0, 1) := dc_at daX9_keyAt_0 8 rfl
theorem dX9_keyAt_14 : decode cX9_keyAt 14 = .ok (.istore_n 3, 1) := dc_at daX9_keyAt_0 9 rfl
theorem dX9_keyAt_15 : decode cX9_keyAt 15 = .ok (.ldc 74, 2) := dc_at daX9_keyAt_0 10 rfl
theorem dX9_keyAt_17 : decode cX9_keyAt 17 = .ok (.iload_n 2, 1) := dc_at daX9_keyAt_0 11 rfl
theorem dX9_keyAt_18 : decode cX9_keyAt 18 = .ok (.iload_n 3, 1) := dc_at daX9_keyAt_0 12 rfl
theorem dX9_keyAt_19 : decode cX9_keyAt 19 = .ok (.iadd, 1) := dc_at daX9_keyAt_0 13 rfl
theorem dX9_keyAt_20 : decode cX9_keyAt 20 = .ok (.invokevirtual 82, 3) := dc_at daX9_keyAt_0 14 rfl
theorem dX9_keyAt_23 : decode cX9_keyAt 23 = .ok (.bipush 32, 2) := dc_at daX9_keyAt_0 15 rfl
theorem dX9_keyAt_25 : decode cX9_keyAt 25 = .ok (.if_icmp .eq 44, 3) := dc_at daX9_keyAt_0 16 rfl
theorem dX9_keyAt_28 : decode cX9_keyAt 28 = .ok (.aload_n 0, 1) := dc_at daX9_keyAt_0 17 rfl
theorem dX9_keyAt_29 : decode cX9_keyAt 29 = .ok (.getfield 86, 3) := dc_at daX9_keyAt_0 18 rfl
theorem dX9_keyAt_32 : decode cX9_keyAt 32 = .ok (.iload_n 3, 1) := dc_at daX9_keyAt_0 19 rfl
theorem dX9_keyAt_33 : decode cX9_keyAt 33 = .ok (.iadd, 1) := dc_at daX9_keyAt_0 20 rfl
theorem dX9_keyAt_34 : decode cX9_keyAt 34 = .ok (.aload_n 0, 1) := dc_at daX9_keyAt_0 21 rfl
theorem dX9_keyAt_35 : decode cX9_keyAt 35 = .ok (.getfield 89, 3) := dc_at daX9_keyAt_0 22 rfl
theorem dX9_keyAt_38 : decode cX9_keyAt 38 = .ok (.if_icmp .ge 31, 3) := dc_at daX9_keyAt_0 23 rfl
def dlX9_keyAt_1 : List (Nat × Jvm.ClassFile.Instr × Nat) := [(41, .aload_n 0, 1), (42, .getfield 21, 3), (45, .aload_n 0, 1), (46, .getfield 86, 3), (49, .iload_n 3, 1), (50, .iadd, 1), (51, .iaload, 1), (52, .ldc 74, 2), (54, .iload_n 2, 1), (55, .iload_n 3, 1), (56, .iadd, 1), (57, .invokevirtual 82, 3), (60, .if_icmp .ne 9, 3), (63, .iinc 3 1, 3), (66, .goto (-51), 3), (69, .ldc 74, 2), (71, .iload_n 2, 1), (72, .iload_n 3, 1), (73, .iadd, 1), (74, .invokevirtual 82, 3), (77, .bipush 32, 2), (79, .if_icmp .ne 18, 3), (82, .aload_n 0, 1), (83, .getfield 86, 3)]
theorem daX9_keyAt_1 : dlX9_keyAt_1.all (dcK cX9_keyAt) = true := by decide +kernel
theorem dX9_keyAt_41 : decode cX9_keyAt 41 = .ok (.aload_n 0, 1) := dc_at daX9_keyAt_1 0 rfl
theorem dX9_keyAt_42 : decode cX9_keyAt 42 = .ok (.getfield 21, 3) := dc_at daX9_keyAt_1 1 rfl
theorem dX9_keyAt_45 : decode cX9_keyAt 45 = .ok (.aload_n 0, 1) := dc_at daX9_keyAt_1 2 rfl
theorem dX9_keyAt_46 : decode cX9_keyAt 46 = .ok (.getfield 86, 3) := dc_at daX9_keyAt_1 3 rfl
theorem dX9_keyAt_49 : decode cX9_keyAt 49 = .ok (.iload_n 3, 1) := dc_at daX9_keyAt_1 4 rfl
theorem dX9_keyAt_50 : decode cX9_keyAt 50 = .ok (.iadd, 1) := dc_at daX9_keyAt_1 5 rfl
theorem dX9_keyAt_51 : decode cX9_keyAt 51 = .ok (.iaload, 1) := dc_at daX9_keyAt_1 6 rfl
theorem dX9_keyAt_52 : decode cX9_keyAt 52 = .ok (.ldc 74, 2) := dc_at daX9_keyAt_1 7 rfl
theorem dX9_keyAt_54 : decode cX9_keyAt 54 = .ok (.iload_n 2, 1) := dc_at daX9_keyAt_1 8 rfl
theorem dX9_keyAt_55 : decode cX9_keyAt 55 = .ok (.iload_n 3, 1) := dc_at daX9_keyAt_1 9 rfl
theorem dX9_keyAt_56 : decode cX9_keyAt 56 = .ok (.iadd, 1) := dc_at daX9_keyAt_1 10 rfl
theorem dX9_keyAt_57 : decode cX9_keyAt 57 = .ok (.invokevirtual 82, 3) := dc_at daX9_keyAt_1 11 rfl
theorem dX9_keyAt_60 : decode cX9_keyAt 60 = .ok (.if_icmp .ne 9, 3) := dc_at daX9_keyAt_1 12 rfl
theorem dX9_keyAt_63 : decode cX9_keyAt 63 = .ok (.iinc 3 1, 3) := dc_at daX9_keyAt_1 13 rfl
theorem dX9_keyAt_66 : decode cX9_keyAt 66 = .ok (.goto (-51), 3) := dc_at daX9_keyAt_1 14 rfl
theorem dX9_keyAt_69 : decode cX9_keyAt 69 = .ok (.ldc 74, 2) := dc_at daX9_keyAt_1 15 rfl
theorem dX9_keyAt_71 : decode cX9_keyAt 71 = .ok (.iload_n 2, 1) := dc_at daX9_keyAt_1 16 rfl
theorem dX9_keyAt_72 : decode cX9_keyAt 72 = .ok (.iload_n 3, 1) := dc_at daX9_keyAt_1 17 rfl
theorem dX9_keyAt_73 : decode cX9_keyAt 73 = .ok (.iadd, 1) := dc_at daX9_keyAt_1 18 rfl
theorem dX9_keyAt_74 : decode cX9_keyAt 74 = .ok (.invokevirtual 82, 3) := dc_at daX9_keyAt_1 19 rfl
theorem dX9_keyAt_77 : decode cX9_keyAt 77 = .ok (.bipush 32, 2) := dc_at daX9_keyAt_1 20 rfl
theorem dX9_keyAt_79 : decode cX9_keyAt 79 = .ok (.if_icmp .ne 18, 3) := dc_at daX9_keyAt_1 21 rfl
theorem dX9_keyAt_82 : decode cX9_keyAt 82 = .ok (.aload_n 0, 1) := dc_at daX9_keyAt_1 22 rfl
theorem dX9_keyAt_83 : decode cX9_keyAt 83 = .ok (.getfield 86, 3) := dc_at daX9_keyAt_1 23 rfl
def dlX9_keyAt_2 : List (Nat × Jvm.ClassFile.Instr × Nat) := [(86, .iload_n 3, 1), (87, .iadd, 1), (88, .aload_n 0, 1), (89, .getfield 89, 3), (92, .if_icmp .ne 5, 3), (95, .iload_n 1, 1), (96, .ireturn, 1), (97, .ldc 74, 2), (99, .iload_n 2, 1), (100, .invokevirtual 82, 3), (103, .bipush 32, 2), (105, .if_icmp .eq 9, 3), (108, .iinc 2 1, 3), (111, .goto (-14), 3), (114, .iinc 2 1, 3), (117, .iinc 1 1, 3), (120, .goto (-116), 3), (123, .bipush 13, 2), (125, .ireturn, 1)]
theorem daX9_keyAt_2 : dlX9_keyAt_2.all (dcK cX9_keyAt) = true := by decide +kernel
theorem dX9_keyAt_86 : decode cX9_keyAt 86 = .ok (.iload_n 3, 1) := dc_at daX9_keyAt_2 0 rfl
theorem dX9_keyAt_87 : decode cX9_keyAt 87 = .ok (.iadd, 1) := dc_at daX9_keyAt_2 1 rfl
theorem dX9_keyAt_88 : decode cX9_keyAt 88 = .ok (.aload_n 0, 1) := dc_at daX9_keyAt_2 2 rfl
theorem dX9_keyAt_89 : decode cX9_keyAt 89 = .ok (.getfield 89, 3) := dc_at daX9_keyAt_2 3 rfl
theorem dX9_keyAt_92 : decode cX9_keyAt 92 = .ok (.if_icmp .ne 5, 3) := dc_at daX9_keyAt_2 4 rfl
theorem dX9_keyAt_95 : decode cX9_keyAt 95 = .ok (.iload_n 1, 1) := dc_at daX9_keyAt_2 5 rfl
theorem dX9_keyAt_96 : decode cX9_keyAt 96 = .ok (.ireturn, 1) := dc_at daX9_keyAt_2 6 rfl
theorem dX9_keyAt_97 : decode cX9_keyAt 97 = .ok (.ldc 74, 2) := dc_at daX9_keyAt_2 7 rfl
theorem dX9_keyAt_99 : decode cX9_keyAt 99 = .ok (.iload_n 2, 1) := dc_at daX9_keyAt_2 8 rfl
theorem dX9_keyAt_100 : decode cX9_keyAt 100 = .ok (.invokevirtual 82, 3) := dc_at daX9_keyAt_2 9 rfl
theorem dX9_keyAt_103 : decode cX9_keyAt 103 = .ok (.bipush 32, 2) := dc_at daX9_keyAt_2 10 rfl
theorem dX9_keyAt_105 : decode cX9_keyAt 105 = .ok (.if_icmp .eq 9, 3) := dc_at daX9_keyAt_2 11 rfl
theorem dX9_keyAt_108 : decode cX9_keyAt 108 = .ok (.iinc 2 1, 3) := dc_at daX9_keyAt_2 12 rfl
theorem dX9_keyAt_111 : decode cX9_keyAt 111 = .ok (.goto (-14), 3) := dc_at daX9_keyAt_2 13 rfl
theorem dX9_keyAt_114 : decode cX9_keyAt 114 = .ok (.iinc 2 1, 3) := dc_at daX9_keyAt_2 14 rfl
theorem dX9_keyAt_117 : decode cX9_keyAt 117 = .ok (.iinc 1 1, 3) := dc_at daX9_keyAt_2 15 rfl
theorem dX9_keyAt_120 : decode cX9_keyAt 120 = .ok (.goto (-116), 3) := dc_at daX9_keyAt_2 16 rfl
theorem dX9_keyAt_123 : decode cX9_keyAt 123 = .ok (.bipush 13, 2) := dc_at daX9_keyAt_2 17 rfl
theorem dX9_keyAt_125 : decode cX9_keyAt 125 = .ok (.ireturn, 1) := dc_at daX9_keyAt_2 18 rfl
def dlX9_next_0 : List (Nat × Jvm.ClassFile.Instr × Nat) := [(0, .aload_n 0, 1), (1, .aload_n 0, 1), (2, .getfield 89, 3), (5, .putfield 86, 3), (8, .aload_n 0, 1), (9, .aload_n 0, 1), (10, .getfield 86, 3), (13, .invokevirtual 92, 3), (16, .bipush 10, 2), (18, .if_icmp .eq 16, 3), (21, .aload_n 0, 1), (22, .aload_n 0, 1), (23, .getfield 86, 3), (26, .invokevirtual 92, 3), (29, .bipush 32, 2), (31, .if_icmp .ne 16, 3), (34, .aload_n 0, 1), (35, .dup, 1), (36, .getfield 86, 3), (39, .iconst 1, 1), (40, .iadd, 1), (41, .putfield 86, 3), (44, .goto (-36), 3), (47, .aload_n 0, 1)]
theorem daX9_next_0 : dlX9_next_0.all (dcK cX9_next) = true := by decide +kernel
theorem dX9_next_0 : decode cX9_next 0 = .ok (.aload_n 0, 1) := dc_at daX9_next_0 0 rfl
theorem dX9_next_1 : decode cX9_next 1 = .ok (.aload_n 0, 1) := dc_at daX9_next_0 1 rfl
theorem dX9_next_2 : decode cX9_next 2 = .ok (.getfield 89, 3) := dc_at daX9_next_0 2 rfl
theorem dX9_next_5 : decode cX9_next 5 = .ok (.putfield 86, 3) := dc_at daX9_next_0 3 rfl
theorem dX9_next_8 : decode cX9_next 8 = .ok (.aload_n 0, 1) := dc_at daX9_next_0 4 rfl
theorem dX9_next_9 : decode cX9_next 9 = .ok (.aload_n 0, 1) := dc_at daX9_next_0 5 rfl
theorem dX9_next_10 : decode cX9_next 10 = .ok (.getfield 86, 3) := dc_at daX9_next_0 6 rfl
theorem dX9_next_13 : decode cX9_next 13 = .ok (.invokevirtual 92, 3) := dc_at daX9_next_0 7 rfl
theorem dX9_next_16 : decode cX9_next 16 = .ok (.bipush 10, 2) := dc_at daX9_next_0 8 rfl
theorem dX9_next_18 : decode cX9_next 18 = .ok (.if_icmp .eq 16, 3) := dc_at daX9_next_0 9 rfl
theorem dX9_next_21 : decode cX9_next 21 = .ok (.aload_n 0, 1) := dc_at daX9_next_0 10 rfl
theorem dX9_next_22 : decode cX9_next 22 = .ok (.aload_n 0, 1) := dc_at daX9_next_0 11 rfl
theorem dX9_next_23 : decode cX9_next 23 = .ok (.getfield 86, 3) := dc_at daX9_next_0 12 rfl
theorem dX9_next_26 : decode cX9_next 26 = .ok (.invokevirtual 92, 3) := dc_at daX9_next_0 13 rfl
theorem dX9_next_29 : decode cX9_next 29 = .ok (.bipush 32, 2) := dc_at daX9_next_0 14 rfl
theorem dX9_next_31 : decode cX9_next 31 = .ok (.if_icmp .ne 16, 3) := dc_at daX9_next_0 15 rfl
theorem dX9_next_34 : decode cX9_next 34 = .ok (.aload_n 0, 1) := dc_at daX9_next_0 16 rfl
theorem dX9_next_35 : decode cX9_next 35 = .ok (.dup, 1) := dc_at daX9_next_0 17 rfl
theorem dX9_next_36 : decode cX9_next 36 = .ok (.getfield 86, 3) := dc_at daX9_next_0 18 rfl
theorem dX9_next_39 : decode cX9_next 39 = .ok (.iconst 1, 1) := dc_at daX9_next_0 19 rfl
theorem dX9_next_40 : decode cX9_next 40 = .ok (.iadd, 1) := dc_at daX9_next_0 20 rfl
theorem dX9_next_41 : decode cX9_next 41 = .ok (.putfield 86, 3) := dc_at daX9_next_0 21 rfl
theorem dX9_next_44 : decode cX9_next 44 = .ok (.goto (-36), 3) := dc_at daX9_next_0 22 rfl
theorem dX9_next_47 : decode cX9_next 47 = .ok (.aload_n 0, 1) := dc_at daX9_next_0 23 rfl
def dlX9_next_1 : List (Nat × Jvm.ClassFile.Instr × Nat) := [(48, .aload_n 0, 1), (49, .getfield 86, 3), (52, .putfield 89, 3), (55, .aload_n 0, 1), (56, .getfield 86, 3), (59, .aload_n 0, 1), (60, .getfield 71, 3), (63, .if_icmp .lt 12, 3), (66, .aload_n 0, 1), (67, .bipush 16, 2), (69, .putfield 96, 3), (72, .goto 198, 3), (75, .aload_n 0, 1), (76, .aload_n 0, 1), (77, .getfield 86, 3), (80, .invokevirtual 92, 3), (83, .invokestatic 99, 3), (86, .ifCond .eq 41, 3), (89, .aload_n 0, 1), (90, .aload_n 0, 1), (91, .getfield 89, 3), (94, .invokevirtual 92, 3), (97, .invokestatic 99, 3), (100, .ifCond .eq 16, 3)]
theorem daX9_next_1 : dlX9_next_1.all (dcK cX9_next) = true := by decide +kernel
theorem dX9_next_48 : decode cX9_next 48 = .ok (.aload_n 0, 1) := dc_at daX9_next_1 0 rfl
theorem dX9_next_49 : decode cX9_next 49 = .ok (.getfield 86, 3) := dc_at daX9_next_1 1 rfl
theorem dX9_next_52 : decode cX9_next 52 = .ok (.putfield 89, 3) := dc_at daX9_next_1 2 rfl
theorem dX9_next_55 : decode cX9_next 55 = .ok (.aload_n 0, 1) := dc_at daX9_next_1 3 rfl
theorem dX9_next_56 : decode cX9_next 56 = .ok (.getfield 86, 3) := dc_at daX9_next_1 4 rfl
theorem dX9_next_59 : decode cX9_next 59 = .ok (.aload_n 0, 1) := dc_at daX9_next_1 5 rfl
theorem dX9_next_60 : decode cX9_next 60 = .ok (.getfield 71, 3) := dc_at daX9_next_1 6 rfl
theorem dX9_next_63 : decode cX9_next 63 = .ok (.if_icmp .lt 12, 3) := dc_at daX9_next_1 7 rfl
theorem dX9_next_66 : decode cX9_next 66 = .ok (.aload_n 0, 1) := dc_at daX9_next_1 8 rfl
theorem dX9_next_67 : decode cX9_next 67 = .ok (.bipush 16, 2) := dc_at daX9_next_1 9 rfl
theorem dX9_next_69 : decode cX9_next 69 = .ok (.putfield 96, 3) := dc_at daX9_next_1 10 rfl
theorem dX9_next_72 : decode cX9_next 72 = .ok (.goto 198, 3) := dc_at daX9_next_1 11 rfl
theorem dX9_next_75 : decode cX9_next 75 = .ok (.aload_n 0, 1) := dc_at daX9_next_1 12 rfl
theorem dX9_next_76 : decode cX9_next 76 = .ok (.aload_n 0, 1) := dc_at daX9_next_1 13 rfl
theorem dX9_next_77 : decode cX9_next 77 = .ok (.getfield 86, 3) := dc_at daX9_next_1 14 rfl
theorem dX9_next_80 : decode cX9_next 80 = .ok (.invokevirtual 92, 3) := dc_at daX9_next_1 15 rfl
theorem dX9_next_83 : decode cX9_next 83 = .ok (.invokestatic 99, 3) := dc_at daX9_next_1 16 rfl
theorem dX9_next_86 : decode cX9_next 86 = .ok (.ifCond .eq 41, 3) := dc_at daX9_next_1 17 rfl
theorem dX9_next_89 : decode cX9_next 89 = .ok (.aload_n 0, 1) := dc_at daX9_next_1 18 rfl
theorem dX9_next_90 : decode cX9_next 90 = .ok (.aload_n 0, 1) := dc_at daX9_next_1 19 rfl
theorem dX9_next_91 : decode cX9_next 91 = .ok (.getfield 89, 3) := dc_at daX9_next_1 20 rfl
theorem dX9_next_94 : decode cX9_next 94 = .ok (.invokevirtual 92, 3) := dc_at daX9_next_1 21 rfl
theorem dX9_next_97 : decode cX9_next 97 = .ok (.invokestatic 99, 3) := dc_at daX9_next_1 22 rfl
theorem dX9_next_100 : decode cX9_next 100 = .ok (.ifCond .eq 16, 3) := dc_at daX9_next_1 23 rfl
def dlX9_next_2 : List (Nat × Jvm.ClassFile.Instr × Nat) := [(103, .aload_n 0, 1), (104, .dup, 1), (105, .getfield 89, 3), (108, .iconst 1, 1), (109, .iadd, 1), (110, .putfield 89, 3), (113, .goto (-24), 3), (116, .aload_n 0, 1), (117, .aload_n 0, 1), (118, .invokevirtual 103, 3), (121, .putfield 96, 3), (124, .goto 146, 3), (127, .aload_n 0, 1), (128, .aload_n 0, 1), (129, .getfield 86, 3), (132, .invokevirtual 92, 3), (135, .invokestatic 106, 3), (138, .ifCond .eq 98, 3), (141, .aload_n 0, 1), (142, .iconst 0, 1), (143, .putfield 109, 3), (146, .aload_n 0, 1), (147, .aload_n 0, 1), (148, .getfield 89, 3)]
theorem daX9_next_2 : dlX9_next_2.all (dcK cX9_next) = true := by decide +kernel
theorem dX9_next_103 : decode cX9_next 103 = .ok (.aload_n 0, 1) := dc_at daX9_next_2 0 rfl
theorem dX9_next_104 : decode cX9_next 104 = .ok (.dup, 1) := dc_at daX9_next_2 1 rfl
theorem dX9_next_105 : decode cX9_next 105 = .ok (.getfield 89, 3) := dc_at daX9_next_2 2 rfl
theorem dX9_next_108 : decode cX9_next 108 = .ok (.iconst 1, 1) := dc_at daX9_next_2 3 rfl
theorem dX9_next_109 : decode cX9_next 109 = .ok (.iadd, 1) := dc_at daX9_next_2 4 rfl
theorem dX9_next_110 : decode cX9_next 110 = .ok (.putfield 89, 3) := dc_at daX9_next_2 5 rfl
theorem dX9_next_113 : decode cX9_next 113 = .ok (.goto (-24), 3) := dc_at daX9_next_2 6 rfl
theorem dX9_next_116 : decode cX9_next 116 = .ok (.aload_n 0, 1) := dc_at daX9_next_2 7 rfl
theorem dX9_next_117 : decode cX9_next 117 = .ok (.aload_n 0, 1) := dc_at daX9_next_2 8 rfl
theorem dX9_next_118 : decode cX9_next 118 = .ok (.invokevirtual 103, 3) := dc_at daX9_next_2 9 rfl
theorem dX9_next_121 : decode cX9_next 121 = .ok (.putfield 96, 3) := dc_at daX9_next_2 10 rfl
theorem dX9_next_124 : decode cX9_next 124 = .ok (.goto 146, 3) := dc_at daX9_next_2 11 rfl
theorem dX9_next_127 : decode cX9_next 127 = .ok (.aload_n 0, 1) := dc_at daX9_next_2 12 rfl
theorem dX9_next_128 : decode cX9_next 128 = .ok (.aload_n 0, 1) := dc_at daX9_next_2 13 rfl
theorem dX9_next_129 : decode cX9_next 129 = .ok (.getfield 86, 3) := dc_at daX9_next_2 14 rfl
theorem dX9_next_132 : decode cX9_next 132 = .ok (.invokevirtual 92, 3) := dc_at daX9_next_2 15 rfl
theorem dX9_next_135 : decode cX9_next 135 = .ok (.invokestatic 106, 3) := dc_at daX9_next_2 16 rfl
theorem dX9_next_138 : decode cX9_next 138 = .ok (.ifCond .eq 98, 3) := dc_at daX9_next_2 17 rfl
theorem dX9_next_141 : decode cX9_next 141 = .ok (.aload_n 0, 1) := dc_at daX9_next_2 18 rfl
theorem dX9_next_142 : decode cX9_next 142 = .ok (.iconst 0, 1) := dc_at daX9_next_2 19 rfl
theorem dX9_next_143 : decode cX9_next 143 = .ok (.putfield 109, 3) := dc_at daX9_next_2 20 rfl
theorem dX9_next_146 : decode cX9_next 146 = .ok (.aload_n 0, 1) := dc_at daX9_next_2 21 rfl
theorem dX9_next_147 : decode cX9_next 147 = .ok (.aload_n 0, 1) := dc_at daX9_next_2 22 rfl
theorem dX9_next_148 : decode cX9_next 148 = .ok (.getfield 89, 3) := dc_at daX9_next_2 23 rfl
def dlX9_next_3 : List (Nat × Jvm.ClassFile.Instr × Nat) := [(151, .invokevirtual 92, 3), (154, .invokestatic 106, 3), (157, .ifCond .eq 52, 3), (160, .aload_n 0, 1), (161, .getfield 89, 3), (164, .aload_n 0, 1), (165, .getfield 86, 3), (168, .isub, 1), (169, .iconst 3, 1), (170, .if_icmp .ge 26, 3), (173, .aload_n 0, 1), (174, .bipush 10, 2), (176, .aload_n 0, 1), (177, .getfield 109, 3), (180, .imul, 1), (181, .aload_n 0, 1), (182, .aload_n 0, 1), (183, .getfield 89, 3), (186, .invokevirtual 92, 3), (189, .iadd, 1), (190, .bipush 48, 2), (192, .isub, 1), (193, .putfield 109, 3), (196, .aload_n 0, 1)]
theorem daX9_next_3 : dlX9_next_3.all (dcK cX9_next) = true := by decide +kernel
theorem dX9_next_151 : decode cX9_next 151 = .ok (.invokevirtual 92, 3) := dc_at daX9_next_3 0 rfl
theorem dX9_next_154 : decode cX9_next 154 = .ok (.invokestatic 106, 3) := dc_at daX9_next_3 1 rfl
theorem dX9_next_157 : decode cX9_next 157 = .ok (.ifCond .eq 52, 3) := dc_at daX9_next_3 2 rfl
theorem dX9_next_160 : decode cX9_next 160 = .ok (.aload_n 0, 1) := dc_at daX9_next_3 3 rfl
theorem dX9_next_161 : decode cX9_next 161 = .ok (.getfield 89, 3) := dc_at daX9_next_3 4 rfl
theorem dX9_next_164 : decode cX9_next 164 = .ok (.aload_n 0, 1) := dc_at daX9_next_3 5 rfl
theorem dX9_next_165 : decode cX9_next 165 = .ok (.getfield 86, 3) := dc_at daX9_next_3 6 rfl
theorem dX9_next_168 : decode cX9_next 168 = .ok (.isub, 1) := dc_at daX9_next_3 7 rfl
theorem dX9_next_169 : decode cX9_next 169 = .ok (.iconst 3, 1) := dc_at daX9_next_3 8 rfl
theorem dX9_next_170 : decode cX9_next 170 = .ok (.if_icmp .ge 26, 3) := dc_at daX9_next_3 9 rfl
theorem dX9_next_173 : decode cX9_next 173 = .ok (.aload_n 0, 1) := dc_at daX9_next_3 10 rfl
theorem dX9_next_174 : decode cX9_next 174 = .ok (.bipush 10, 2) := dc_at daX9_next_3 11 rfl
theorem dX9_next_176 : decode cX9_next 176 = .ok (.aload_n 0, 1) := dc_at daX9_next_3 12 rfl
theorem dX9_next_177 : decode cX9_next 177 = .ok (.getfield 109, 3) := dc_at daX9_next_3 13 rfl
theorem dX9_next_180 : decode cX9_next 180 = .ok (.imul, 1) := dc_at daX9_next_3 14 rfl
theorem dX9_next_181 : decode cX9_next 181 = .ok (.aload_n 0, 1) := dc_at daX9_next_3 15 rfl
theorem dX9_next_182 : decode cX9_next 182 = .ok (.aload_n 0, 1) := dc_at daX9_next_3 16 rfl
theorem dX9_next_183 : decode cX9_next 183 = .ok (.getfield 89, 3) := dc_at daX9_next_3 17 rfl
theorem dX9_next_186 : decode cX9_next 186 = .ok (.invokevirtual 92, 3) := dc_at daX9_next_3 18 rfl
theorem dX9_next_189 : decode cX9_next 189 = .ok (.iadd, 1) := dc_at daX9_next_3 19 rfl
theorem dX9_next_190 : decode cX9_next 190 = .ok (.bipush 48, 2) := dc_at daX9_next_3 20 rfl
theorem dX9_next_192 : decode cX9_next 192 = .ok (.isub, 1) := dc_at daX9_next_3 21 rfl
theorem dX9_next_193 : decode cX9_next 193 = .ok (.putfield 109, 3) := dc_at daX9_next_3 22 rfl
theorem dX9_next_196 : decode cX9_next 196 = .ok (.aload_n 0, 1) := dc_at daX9_next_3 23 rfl
def dlX9_next_4 : List (Nat × Jvm.ClassFile.Instr × Nat) := [(197, .dup, 1), (198, .getfield 89, 3), (201, .iconst 1, 1), (202, .iadd, 1), (203, .putfield 89, 3), (206, .goto (-60), 3), (209, .aload_n 0, 1), (210, .aload_n 0, 1), (211, .getfield 89, 3), (214, .aload_n 0, 1), (215, .getfield 86, 3), (218, .isub, 1), (219, .iconst 3, 1), (220, .if_icmp .le 8, 3), (223, .bipush 17, 2), (225, .goto 5, 3), (228, .bipush 14, 2), (230, .putfield 96, 3), (233, .goto 37, 3), (236, .aload_n 0, 1), (237, .dup, 1), (238, .getfield 89, 3), (241, .iconst 1, 1), (242, .iadd, 1)]
theorem daX9_next_4 : dlX9_next_4.all (dcK cX9_next) = true := by decide +kernel
theorem dX9_next_197 : decode cX9_next 197 = .ok (.dup, 1) := dc_at daX9_next_4 0 rfl
theorem dX9_next_198 : decode cX9_next 198 = .ok (.getfield 89, 3) := dc_at daX9_next_4 1 rfl
theorem dX9_next_201 : decode cX9_next 201 = .ok (.iconst 1, 1) := dc_at daX9_next_4 2 rfl
theorem dX9_next_202 : decode cX9_next 202 = .ok (.iadd, 1) := dc_at daX9_next_4 3 rfl
theorem dX9_next_203 : decode cX9_next 203 = .ok (.putfield 89, 3) := dc_at daX9_next_4 4 rfl
theorem dX9_next_206 : decode cX9_next 206 = .ok (.goto (-60), 3) := dc_at daX9_next_4 5 rfl
theorem dX9_next_209 : decode cX9_next 209 = .ok (.aload_n 0, 1) := dc_at daX9_next_4 6 rfl
theorem dX9_next_210 : decode cX9_next 210 = .ok (.aload_n 0, 1) := dc_at daX9_next_4 7 rfl
theorem dX9_next_211 : decode cX9_next 211 = .ok (.getfield 89, 3) := dc_at daX9_next_4 8 rfl
theorem dX9_next_214 : decode cX9_next 214 = .ok (.aload_n 0, 1) := dc_at daX9_next_4 9 rfl
theorem dX9_next_215 : decode cX9_next 215 = .ok (.getfield 86, 3) := dc_at daX9_next_4 10 rfl
theorem dX9_next_218 : decode cX9_next 218 = .ok (.isub, 1) := dc_at daX9_next_4 11 rfl
theorem dX9_next_219 : decode cX9_next 219 = .ok (.iconst 3, 1) := dc_at daX9_next_4 12 rfl
theorem dX9_next_220 : decode cX9_next 220 = .ok (.if_icmp .le 8, 3) := dc_at daX9_next_4 13 rfl
theorem dX9_next_223 : decode cX9_next 223 = .ok (.bipush 17, 2) := dc_at daX9_next_4 14 rfl
theorem dX9_next_225 : decode cX9_next 225 = .ok (.goto 5, 3) := dc_at daX9_next_4 15 rfl
theorem dX9_next_228 : decode cX9_next 228 = .ok (.bipush 14, 2) := dc_at daX9_next_4 16 rfl
theorem dX9_next_230 : decode cX9_next 230 = .ok (.putfield 96, 3) := dc_at daX9_next_4 17 rfl
theorem dX9_next_233 : decode cX9_next 233 = .ok (.goto 37, 3) := dc_at daX9_next_4 18 rfl
theorem dX9_next_236 : decode cX9_next 236 = .ok (.aload_n 0, 1) := dc_at daX9_next_4 19 rfl
theorem dX9_next_237 : decode cX9_next 237 = .ok (.dup, 1) := dc_at daX9_next_4 20 rfl
theorem dX9_next_238 : decode cX9_next 238 = .ok (.getfield 89, 3) := dc_at daX9_next_4 21 rfl
theorem dX9_next_241 : decode cX9_next 241 = .ok (.iconst 1, 1) := dc_at daX9_next_4 22 rfl
theorem dX9_next_242 : decode cX9_next 242 = .ok (.iadd, 1) := dc_at daX9_next_4 23 rfl
def dlX9_next_5 : List (Nat × Jvm.ClassFile.Instr × Nat) := [(243, .putfield 89, 3), (246, .aload_n 0, 1), (247, .aload_n 0, 1), (248, .aload_n 0, 1), (249, .getfield 86, 3), (252, .invokevirtual 92, 3), (255, .bipush 59, 2), (257, .if_icmp .ne 8, 3), (260, .bipush 15, 2), (262, .goto 5, 3), (265, .bipush 17, 2), (267, .putfield 96, 3), (270, .return_, 1)]
theorem daX9_next_5 : dlX9_next_5.all (dcK cX9_next) = true := by decide +kernel
theorem dX9_next_243 : decode cX9_next 243 = .ok (.putfield 89, 3) := dc_at daX9_next_5 0 rfl
theorem dX9_next_246 : decode cX9_next 246 = .ok (.aload_n 0, 1) := dc_at daX9_next_5 1 rfl
theorem dX9_next_247 : decode cX9_next 247 = .ok (.aload_n 0, 1) := dc_at daX9_next_5 2 rfl
theorem dX9_next_248 : decode cX9_next 248 = .ok (.aload_n 0, 1) := dc_at daX9_next_5 3 rfl
theorem dX9_next_249 : decode cX9_next 249 = .ok (.getfield 86, 3) := dc_at daX9_next_5 4 rfl
theorem dX9_next_252 : decode cX9_next 252 = .ok (.invokevirtual 92, 3) := dc_at daX9_next_5 5 rfl
theorem dX9_next_255 : decode cX9_next 255 = .ok (.bipush 59, 2) := dc_at daX9_next_5 6 rfl
theorem dX9_next_257 : decode cX9_next 257 = .ok (.if_icmp .ne 8, 3) := dc_at daX9_next_5 7 rfl
theorem dX9_next_260 : decode cX9_next 260 = .ok (.bipush 15, 2) := dc_at daX9_next_5 8 rfl
theorem dX9_next_262 : decode cX9_next 262 = .ok (.goto 5, 3) := dc_at daX9_next_5 9 rfl
theorem dX9_next_265 : decode cX9_next 265 = .ok (.bipush 17, 2) := dc_at daX9_next_5 10 rfl
theorem dX9_next_267 : decode cX9_next 267 = .ok (.putfield 96, 3) := dc_at daX9_next_5 11 rfl
theorem dX9_next_270 : decode cX9_next 270 = .ok (.return_, 1) := dc_at daX9_next_5 12 rfl
def dlX9_fails_0 : List (Nat × Jvm.ClassFile.Instr × Nat) := [(0, .aload_n 0, 1), (1, .getfield 112, 3), (4, .ifCond .eq 4, 3), (7, .return_, 1), (8, .aload_n 0, 1), (9, .aload_n 0, 1), (10, .getfield 96, 3), (13, .bipush 17, 2), (15, .if_icmp .ne 7, 3), (18, .iconst 1, 1), (19, .goto 4, 3), (22, .iload_n 1, 1), (23, .putfield 112, 3), (26, .aload_n 0, 1), (27, .aload_n 0, 1), (28, .getfield 86, 3), (31, .putfield 115, 3), (34, .return_, 1)]
theorem daX9_fails_0 : dlX9_fails_0.all (dcK cX9_fails) = true := by decide +kernel
theorem dX9_fails_0 : decode cX9_fails 0 = .ok (.aload_n 0, 1) := dc_at daX9_fails_0 0 rfl
theorem dX9_fails_1 : decode cX9_fails 1 = .ok (.getfield 112, 3) := dc_at daX9_fails_0 1 rfl
theorem dX9_fails_4 : decode cX9_fails 4 = .ok (.ifCond .eq 4, 3) := dc_at daX9_fails_0 2 rfl
theorem dX9_fails_7 : decode cX9_fails 7 = .ok (.return_, 1) := dc_at daX9_fails_0 3 rfl
theorem dX9_fails_8 : decode cX9_fails 8 = .ok (.aload_n 0, 1) := dc_at daX9_fails_0 4 rfl
theorem dX9_fails_9 : decode cX9_fails 9 = .ok (.aload_n 0, 1) := dc_at daX9_fails_0 5 rfl
theorem dX9_fails_10 : decode cX9_fails 10 = .ok (.getfield 96, 3) := dc_at daX9_fails_0 6 rfl
theorem dX9_fails_13 : decode cX9_fails 13 = .ok (.bipush 17, 2) := dc_at daX9_fails_0 7 rfl
theorem dX9_fails_15 : decode cX9_fails 15 = .ok (.if_icmp .ne 7, 3) := dc_at daX9_fails_0 8 rfl
theorem dX9_fails_18 : decode cX9_fails 18 = .ok (.iconst 1, 1) := dc_at daX9_fails_0 9 rfl
theorem dX9_fails_19 : decode cX9_fails 19 = .ok (.goto 4, 3) := dc_at daX9_fails_0 10 rfl
theorem dX9_fails_22 : decode cX9_fails 22 = .ok (.iload_n 1, 1) := dc_at daX9_fails_0 11 rfl
theorem dX9_fails_23 : decode cX9_fails 23 = .ok (.putfield 112, 3) := dc_at daX9_fails_0 12 rfl
theorem dX9_fails_26 : decode cX9_fails 26 = .ok (.aload_n 0, 1) := dc_at daX9_fails_0 13 rfl
theorem dX9_fails_27 : decode cX9_fails 27 = .ok (.aload_n 0, 1) := dc_at daX9_fails_0 14 rfl
theorem dX9_fails_28 : decode cX9_fails 28 = .ok (.getfield 86, 3) := dc_at daX9_fails_0 15 rfl
theorem dX9_fails_31 : decode cX9_fails 31 = .ok (.putfield 115, 3) := dc_at daX9_fails_0 16 rfl
theorem dX9_fails_34 : decode cX9_fails 34 = .ok (.return_, 1) := dc_at daX9_fails_0 17 rfl
def dlX9_is_0 : List (Nat × Jvm.ClassFile.Instr × Nat) := [(0, .aload_n 0, 1), (1, .getfield 112, 3), (4, .ifCond .ne 15, 3), (7, .aload_n 0, 1), (8, .getfield 96, 3), (11, .iload_n 1, 1), (12, .if_icmp .ne 7, 3), (15, .iconst 1, 1), (16, .goto 4, 3), (19, .iconst 0, 1), (20, .ireturn, 1)]
theorem daX9_is_0 : dlX9_is_0.all (dcK cX9_is) = true := by decide +kernel
theorem dX9_is_0 : decode cX9_is 0 = .ok (.aload_n 0, 1) := dc_at daX9_is_0 0 rfl
theorem dX9_is_1 : decode cX9_is 1 = .ok (.getfield 112, 3) := dc_at daX9_is_0 1 rfl
theorem dX9_is_4 : decode cX9_is 4 = .ok (.ifCond .ne 15, 3) := dc_at daX9_is_0 2 rfl
theorem dX9_is_7 : decode cX9_is 7 = .ok (.aload_n 0, 1) := dc_at daX9_is_0 3 rfl
theorem dX9_is_8 : decode cX9_is 8 = .ok (.getfield 96, 3) := dc_at daX9_is_0 4 rfl
theorem dX9_is_11 : decode cX9_is 11 = .ok (.iload_n 1, 1) := dc_at daX9_is_0 5 rfl
theorem dX9_is_12 : decode cX9_is 12 = .ok (.if_icmp .ne 7, 3) := dc_at daX9_is_0 6 rfl
theorem dX9_is_15 : decode cX9_is 15 = .ok (.iconst 1, 1) := dc_at daX9_is_0 7 rfl
theorem dX9_is_16 : decode cX9_is 16 = .ok (.goto 4, 3) := dc_at daX9_is_0 8 rfl
theorem dX9_is_19 : decode cX9_is 19 = .ok (.iconst 0, 1) := dc_at daX9_is_0 9 rfl
theorem dX9_is_20 : decode cX9_is 20 = .ok (.ireturn, 1) := dc_at daX9_is_0 10 rfl
def dlX9_eats_0 : List (Nat × Jvm.ClassFile.Instr × Nat) := [(0, .aload_n 0, 1), (1, .iload_n 1, 1), (2, .invokevirtual 118, 3), (5, .ifCond .ne 5, 3), (8, .iconst 0, 1), (9, .ireturn, 1), (10, .aload_n 0, 1), (11, .invokevirtual 121, 3), (14, .iconst 1, 1), (15, .ireturn, 1)]
theorem daX9_eats_0 : dlX9_eats_0.all (dcK cX9_eats) = true := by decide +kernel
theorem dX9_eats_0 : decode cX9_eats 0 = .ok (.aload_n 0, 1) := dc_at daX9_eats_0 0 rfl
theorem dX9_eats_1 : decode cX9_eats 1 = .ok (.iload_n 1, 1) := dc_at daX9_eats_0 1 rfl
theorem dX9_eats_2 : decode cX9_eats 2 = .ok (.invokevirtual 118, 3) := dc_at daX9_eats_0 2 rfl
theorem dX9_eats_5 : decode cX9_eats 5 = .ok (.ifCond .ne 5, 3) := dc_at daX9_eats_0 3 rfl
theorem dX9_eats_8 : decode cX9_eats 8 = .ok (.iconst 0, 1) := dc_at daX9_eats_0 4 rfl
theorem dX9_eats_9 : decode cX9_eats 9 = .ok (.ireturn, 1) := dc_at daX9_eats_0 5 rfl
theorem dX9_eats_10 : decode cX9_eats 10 = .ok (.aload_n 0, 1) := dc_at daX9_eats_0 6 rfl
theorem dX9_eats_11 : decode cX9_eats 11 = .ok (.invokevirtual 121, 3) := dc_at daX9_eats_0 7 rfl
theorem dX9_eats_14 : decode cX9_eats 14 = .ok (.iconst 1, 1) := dc_at daX9_eats_0 8 rfl
theorem dX9_eats_15 : decode cX9_eats 15 = .ok (.ireturn, 1) := dc_at daX9_eats_0 9 rfl
def dlX9_takes_0 : List (Nat × Jvm.ClassFile.Instr × Nat) := [(0, .aload_n 0, 1), (1, .bipush 14, 2), (3, .invokevirtual 118, 3), (6, .ifCond .ne 11, 3), (9, .aload_n 0, 1), (10, .iconst 2, 1), (11, .invokevirtual 124, 3), (14, .goto 23, 3), (17, .aload_n 0, 1), (18, .getfield 109, 3), (21, .i2l, 1), (22, .iload_n 1, 1), (23, .i2l, 1), (24, .iload_n 2, 1), (25, .i2l, 1), (26, .invokestatic 128, 3), (29, .ifCond .ne 8, 3), (32, .aload_n 0, 1), (33, .iconst 3, 1), (34, .invokevirtual 124, 3), (37, .aload_n 0, 1), (38, .getfield 109, 3), (41, .istore_n 3, 1), (42, .aload_n 0, 1)]
theorem daX9_takes_0 : dlX9_takes_0.all (dcK cX9_takes) = true := by decide +kernel
theorem dX9_takes_0 : decode cX9_takes 0 = .ok (.aload_n 0, 1) := dc_at daX9_takes_0 0 rfl
theorem dX9_takes_1 : decode cX9_takes 1 = .ok (.bipush 14, 2) := dc_at daX9_takes_0 1 rfl
theorem dX9_takes_3 : decode cX9_takes 3 = .ok (.invokevirtual 118, 3) := dc_at daX9_takes_0 2 rfl
theorem dX9_takes_6 : decode cX9_takes 6 = .ok (.ifCond .ne 11, 3) := dc_at daX9_takes_0 3 rfl
theorem dX9_takes_9 : decode cX9_takes 9 = .ok (.aload_n 0, 1) := dc_at daX9_takes_0 4 rfl
theorem dX9_takes_10 : decode cX9_takes 10 = .ok (.iconst 2, 1) := dc_at daX9_takes_0 5 rfl
theorem dX9_takes_11 : decode cX9_takes 11 = .ok (.invokevirtual 124, 3) := dc_at daX9_takes_0 6 rfl
theorem dX9_takes_14 : decode cX9_takes 14 = .ok (.goto 23, 3) := dc_at daX9_takes_0 7 rfl
theorem dX9_takes_17 : decode cX9_takes 17 = .ok (.aload_n 0, 1) := dc_at daX9_takes_0 8 rfl
theorem dX9_takes_18 : decode cX9_takes 18 = .ok (.getfield 109, 3) := dc_at daX9_takes_0 9 rfl
theorem dX9_takes_21 : decode cX9_takes 21 = .ok (.i2l, 1) := dc_at daX9_takes_0 10 rfl
theorem dX9_takes_22 : decode cX9_takes 22 = .ok (.iload_n 1, 1) := dc_at daX9_takes_0 11 rfl
theorem dX9_takes_23 : decode cX9_takes 23 = .ok (.i2l, 1) := dc_at daX9_takes_0 12 rfl
theorem dX9_takes_24 : decode cX9_takes 24 = .ok (.iload_n 2, 1) := dc_at daX9_takes_0 13 rfl
theorem dX9_takes_25 : decode cX9_takes 25 = .ok (.i2l, 1) := dc_at daX9_takes_0 14 rfl
theorem dX9_takes_26 : decode cX9_takes 26 = .ok (.invokestatic 128, 3) := dc_at daX9_takes_0 15 rfl
theorem dX9_takes_29 : decode cX9_takes 29 = .ok (.ifCond .ne 8, 3) := dc_at daX9_takes_0 16 rfl
theorem dX9_takes_32 : decode cX9_takes 32 = .ok (.aload_n 0, 1) := dc_at daX9_takes_0 17 rfl
theorem dX9_takes_33 : decode cX9_takes 33 = .ok (.iconst 3, 1) := dc_at daX9_takes_0 18 rfl
theorem dX9_takes_34 : decode cX9_takes 34 = .ok (.invokevirtual 124, 3) := dc_at daX9_takes_0 19 rfl
theorem dX9_takes_37 : decode cX9_takes 37 = .ok (.aload_n 0, 1) := dc_at daX9_takes_0 20 rfl
theorem dX9_takes_38 : decode cX9_takes 38 = .ok (.getfield 109, 3) := dc_at daX9_takes_0 21 rfl
theorem dX9_takes_41 : decode cX9_takes 41 = .ok (.istore_n 3, 1) := dc_at daX9_takes_0 22 rfl
theorem dX9_takes_42 : decode cX9_takes 42 = .ok (.aload_n 0, 1) := dc_at daX9_takes_0 23 rfl
def dlX9_takes_1 : List (Nat × Jvm.ClassFile.Instr × Nat) := [(43, .getfield 112, 3), (46, .ifCond .ne 7, 3), (49, .aload_n 0, 1), (50, .invokevirtual 121, 3), (53, .iload_n 3, 1), (54, .ireturn, 1)]
theorem daX9_takes_1 : dlX9_takes_1.all (dcK cX9_takes) = true := by decide +kernel
theorem dX9_takes_43 : decode cX9_takes 43 = .ok (.getfield 112, 3) := dc_at daX9_takes_1 0 rfl
theorem dX9_takes_46 : decode cX9_takes 46 = .ok (.ifCond .ne 7, 3) := dc_at daX9_takes_1 1 rfl
theorem dX9_takes_49 : decode cX9_takes 49 = .ok (.aload_n 0, 1) := dc_at daX9_takes_1 2 rfl
theorem dX9_takes_50 : decode cX9_takes 50 = .ok (.invokevirtual 121, 3) := dc_at daX9_takes_1 3 rfl
theorem dX9_takes_53 : decode cX9_takes 53 = .ok (.iload_n 3, 1) := dc_at daX9_takes_1 4 rfl
theorem dX9_takes_54 : decode cX9_takes 54 = .ok (.ireturn, 1) := dc_at daX9_takes_1 5 rfl
def dlX9_takesIf_0 : List (Nat × Jvm.ClassFile.Instr × Nat) := [(0, .aload_n 0, 1), (1, .iload_n 1, 1), (2, .invokevirtual 132, 3), (5, .ifCond .eq 12, 3), (8, .aload_n 0, 1), (9, .iload_n 2, 1), (10, .iload_n 3, 1), (11, .invokevirtual 135, 3), (14, .goto 5, 3), (17, .iload 4, 2), (19, .ireturn, 1)]
theorem daX9_takesIf_0 : dlX9_takesIf_0.all (dcK cX9_takesIf) = true := by decide +kernel
theorem dX9_takesIf_0 : decode cX9_takesIf 0 = .ok (.aload_n 0, 1) := dc_at daX9_takesIf_0 0 rfl
theorem dX9_takesIf_1 : decode cX9_takesIf 1 = .ok (.iload_n 1, 1) := dc_at daX9_takesIf_0 1 rfl
theorem dX9_takesIf_2 : decode cX9_takesIf 2 = .ok (.invokevirtual 132, 3) := dc_at daX9_takesIf_0 2 rfl
theorem dX9_takesIf_5 : decode cX9_takesIf 5 = .ok (.ifCond .eq 12, 3) := dc_at daX9_takesIf_0 3 rfl
theorem dX9_takesIf_8 : decode cX9_takesIf 8 = .ok (.aload_n 0, 1) := dc_at daX9_takesIf_0 4 rfl
theorem dX9_takesIf_9 : decode cX9_takesIf 9 = .ok (.iload_n 2, 1) := dc_at daX9_takesIf_0 5 rfl
theorem dX9_takesIf_10 : decode cX9_takesIf 10 = .ok (.iload_n 3, 1) := dc_at daX9_takesIf_0 6 rfl
theorem dX9_takesIf_11 : decode cX9_takesIf 11 = .ok (.invokevirtual 135, 3) := dc_at daX9_takesIf_0 7 rfl
theorem dX9_takesIf_14 : decode cX9_takesIf 14 = .ok (.goto 5, 3) := dc_at daX9_takesIf_0 8 rfl
theorem dX9_takesIf_17 : decode cX9_takesIf 17 = .ok (.iload 4, 2) := dc_at daX9_takesIf_0 9 rfl
theorem dX9_takesIf_19 : decode cX9_takesIf 19 = .ok (.ireturn, 1) := dc_at daX9_takesIf_0 10 rfl
def dlX9_readStrip_0 : List (Nat × Jvm.ClassFile.Instr × Nat) := [(0, .aload_n 0, 1), (1, .getfield 24, 3), (4, .iconst 0, 1), (5, .iaload, 1), (6, .istore_n 1, 1), (7, .iload_n 1, 1), (8, .bipush 16, 2), (10, .if_icmp .ne 8, 3), (13, .aload_n 0, 1), (14, .iconst 4, 1), (15, .invokevirtual 124, 3), (18, .aload_n 0, 1), (19, .getfield 112, 3), (22, .ifCond .eq 4, 3), (25, .return_, 1), (26, .aload_n 0, 1), (27, .invokevirtual 121, 3), (30, .aload_n 0, 1), (31, .iconst 0, 1), (32, .bipush 99, 2), (34, .invokevirtual 135, 3), (37, .istore_n 2, 1), (38, .aload_n 0, 1), (39, .iconst 1, 1)]
theorem daX9_readStrip_0 : dlX9_readStrip_0.all (dcK cX9_readStrip) = true := by decide +kernel
theorem dX9_readStrip_0 : decode cX9_readStrip 0 = .ok (.aload_n 0, 1) := dc_at daX9_readStrip_0 0 rfl
theorem dX9_readStrip_1 : decode cX9_readStrip 1 = .ok (.getfield 24, 3) := dc_at daX9_readStrip_0 1 rfl
theorem dX9_readStrip_4 : decode cX9_readStrip 4 = .ok (.iconst 0, 1) := dc_at daX9_readStrip_0 2 rfl
theorem dX9_readStrip_5 : decode cX9_readStrip 5 = .ok (.iaload, 1) := dc_at daX9_readStrip_0 3 rfl
theorem dX9_readStrip_6 : decode cX9_readStrip 6 = .ok (.istore_n 1, 1) := dc_at daX9_readStrip_0 4 rfl
theorem dX9_readStrip_7 : decode cX9_readStrip 7 = .ok (.iload_n 1, 1) := dc_at daX9_readStrip_0 5 rfl
theorem dX9_readStrip_8 : decode cX9_readStrip 8 = .ok (.bipush 16, 2) := dc_at daX9_readStrip_0 6 rfl
theorem dX9_readStrip_10 : decode cX9_readStrip 10 = .ok (.if_icmp .ne 8, 3) := dc_at daX9_readStrip_0 7 rfl
theorem dX9_readStrip_13 : decode cX9_readStrip 13 = .ok (.aload_n 0, 1) := dc_at daX9_readStrip_0 8 rfl
theorem dX9_readStrip_14 : decode cX9_readStrip 14 = .ok (.iconst 4, 1) := dc_at daX9_readStrip_0 9 rfl
theorem dX9_readStrip_15 : decode cX9_readStrip 15 = .ok (.invokevirtual 124, 3) := dc_at daX9_readStrip_0 10 rfl
theorem dX9_readStrip_18 : decode cX9_readStrip 18 = .ok (.aload_n 0, 1) := dc_at daX9_readStrip_0 11 rfl
theorem dX9_readStrip_19 : decode cX9_readStrip 19 = .ok (.getfield 112, 3) := dc_at daX9_readStrip_0 12 rfl
theorem dX9_readStrip_22 : decode cX9_readStrip 22 = .ok (.ifCond .eq 4, 3) := dc_at daX9_readStrip_0 13 rfl
theorem dX9_readStrip_25 : decode cX9_readStrip 25 = .ok (.return_, 1) := dc_at daX9_readStrip_0 14 rfl
theorem dX9_readStrip_26 : decode cX9_readStrip 26 = .ok (.aload_n 0, 1) := dc_at daX9_readStrip_0 15 rfl
theorem dX9_readStrip_27 : decode cX9_readStrip 27 = .ok (.invokevirtual 121, 3) := dc_at daX9_readStrip_0 16 rfl
theorem dX9_readStrip_30 : decode cX9_readStrip 30 = .ok (.aload_n 0, 1) := dc_at daX9_readStrip_0 17 rfl
theorem dX9_readStrip_31 : decode cX9_readStrip 31 = .ok (.iconst 0, 1) := dc_at daX9_readStrip_0 18 rfl
theorem dX9_readStrip_32 : decode cX9_readStrip 32 = .ok (.bipush 99, 2) := dc_at daX9_readStrip_0 19 rfl
theorem dX9_readStrip_34 : decode cX9_readStrip 34 = .ok (.invokevirtual 135, 3) := dc_at daX9_readStrip_0 20 rfl
theorem dX9_readStrip_37 : decode cX9_readStrip 37 = .ok (.istore_n 2, 1) := dc_at daX9_readStrip_0 21 rfl
theorem dX9_readStrip_38 : decode cX9_readStrip 38 = .ok (.aload_n 0, 1) := dc_at daX9_readStrip_0 22 rfl
theorem dX9_readStrip_39 : decode cX9_readStrip 39 = .ok (.iconst 1, 1) := dc_at daX9_readStrip_0 23 rfl
def dlX9_readStrip_1 : List (Nat × Jvm.ClassFile.Instr × Nat) := [(40, .iconst 0, 1), (41, .bipush 9, 2), (43, .iconst 2, 1), (44, .invokevirtual 139, 3), (47, .istore_n 3, 1), (48, .aload_n 0, 1), (49, .iconst 2, 1), (50, .iconst 0, 1), (51, .bipush 30, 2), (53, .iconst 0, 1), (54, .invokevirtual 139, 3), (57, .istore 4, 2), (59, .aload_n 0, 1), (60, .iconst 3, 1), (61, .iconst 0, 1), (62, .iconst 5, 1), (63, .iconst 0, 1), (64, .invokevirtual 139, 3), (67, .istore 5, 2), (69, .aload_n 0, 1), (70, .getfield 112, 3), (73, .ifCond .eq 4, 3), (76, .return_, 1), (77, .aload_n 0, 1)]
theorem daX9_readStrip_1 : dlX9_readStrip_1.all (dcK cX9_readStrip) = true := by decide +kernel
theorem dX9_readStrip_40 : decode cX9_readStrip 40 = .ok (.iconst 0, 1) := dc_at daX9_readStrip_1 0 rfl
theorem dX9_readStrip_41 : decode cX9_readStrip 41 = .ok (.bipush 9, 2) := dc_at daX9_readStrip_1 1 rfl
theorem dX9_readStrip_43 : decode cX9_readStrip 43 = .ok (.iconst 2, 1) := dc_at daX9_readStrip_1 2 rfl
theorem dX9_readStrip_44 : decode cX9_readStrip 44 = .ok (.invokevirtual 139, 3) := dc_at daX9_readStrip_1 3 rfl
theorem dX9_readStrip_47 : decode cX9_readStrip 47 = .ok (.istore_n 3, 1) := dc_at daX9_readStrip_1 4 rfl
theorem dX9_readStrip_48 : decode cX9_readStrip 48 = .ok (.aload_n 0, 1) := dc_at daX9_readStrip_1 5 rfl
theorem dX9_readStrip_49 : decode cX9_readStrip 49 = .ok (.iconst 2, 1) := dc_at daX9_readStrip_1 6 rfl
theorem dX9_readStrip_50 : decode cX9_readStrip 50 = .ok (.iconst 0, 1) := dc_at daX9_readStrip_1 7 rfl
theorem dX9_readStrip_51 : decode cX9_readStrip 51 = .ok (.bipush 30, 2) := dc_at daX9_readStrip_1 8 rfl
theorem dX9_readStrip_53 : decode cX9_readStrip 53 = .ok (.iconst 0, 1) := dc_at daX9_readStrip_1 9 rfl
theorem dX9_readStrip_54 : decode cX9_readStrip 54 = .ok (.invokevirtual 139, 3) := dc_at daX9_readStrip_1 10 rfl
theorem dX9_readStrip_57 : decode cX9_readStrip 57 = .ok (.istore 4, 2) := dc_at daX9_readStrip_1 11 rfl
theorem dX9_readStrip_59 : decode cX9_readStrip 59 = .ok (.aload_n 0, 1) := dc_at daX9_readStrip_1 12 rfl
theorem dX9_readStrip_60 : decode cX9_readStrip 60 = .ok (.iconst 3, 1) := dc_at daX9_readStrip_1 13 rfl
theorem dX9_readStrip_61 : decode cX9_readStrip 61 = .ok (.iconst 0, 1) := dc_at daX9_readStrip_1 14 rfl
theorem dX9_readStrip_62 : decode cX9_readStrip 62 = .ok (.iconst 5, 1) := dc_at daX9_readStrip_1 15 rfl
theorem dX9_readStrip_63 : decode cX9_readStrip 63 = .ok (.iconst 0, 1) := dc_at daX9_readStrip_1 16 rfl
theorem dX9_readStrip_64 : decode cX9_readStrip 64 = .ok (.invokevirtual 139, 3) := dc_at daX9_readStrip_1 17 rfl
theorem dX9_readStrip_67 : decode cX9_readStrip 67 = .ok (.istore 5, 2) := dc_at daX9_readStrip_1 18 rfl
theorem dX9_readStrip_69 : decode cX9_readStrip 69 = .ok (.aload_n 0, 1) := dc_at daX9_readStrip_1 19 rfl
theorem dX9_readStrip_70 : decode cX9_readStrip 70 = .ok (.getfield 112, 3) := dc_at daX9_readStrip_1 20 rfl
theorem dX9_readStrip_73 : decode cX9_readStrip 73 = .ok (.ifCond .eq 4, 3) := dc_at daX9_readStrip_1 21 rfl
theorem dX9_readStrip_76 : decode cX9_readStrip 76 = .ok (.return_, 1) := dc_at daX9_readStrip_1 22 rfl
theorem dX9_readStrip_77 : decode cX9_readStrip 77 = .ok (.aload_n 0, 1) := dc_at daX9_readStrip_1 23 rfl
def dlX9_readStrip_2 : List (Nat × Jvm.ClassFile.Instr × Nat) := [(78, .getfield 24, 3), (81, .bipush 16, 2), (83, .iload_n 1, 1), (84, .iadd, 1), (85, .iload_n 2, 1), (86, .iastore, 1), (87, .aload_n 0, 1), (88, .getfield 24, 3), (91, .bipush 32, 2), (93, .iload_n 1, 1), (94, .iadd, 1), (95, .iload_n 3, 1), (96, .iastore, 1), (97, .aload_n 0, 1), (98, .getfield 24, 3), (101, .bipush 48, 2), (103, .iload_n 1, 1), (104, .iadd, 1), (105, .iload 4, 2), (107, .iastore, 1), (108, .aload_n 0, 1), (109, .getfield 24, 3), (112, .bipush 64, 2), (114, .iload_n 1, 1)]
theorem daX9_readStrip_2 : dlX9_readStrip_2.all (dcK cX9_readStrip) = true := by decide +kernel
theorem dX9_readStrip_78 : decode cX9_readStrip 78 = .ok (.getfield 24, 3) := dc_at daX9_readStrip_2 0 rfl
theorem dX9_readStrip_81 : decode cX9_readStrip 81 = .ok (.bipush 16, 2) := dc_at daX9_readStrip_2 1 rfl
theorem dX9_readStrip_83 : decode cX9_readStrip 83 = .ok (.iload_n 1, 1) := dc_at daX9_readStrip_2 2 rfl
theorem dX9_readStrip_84 : decode cX9_readStrip 84 = .ok (.iadd, 1) := dc_at daX9_readStrip_2 3 rfl
theorem dX9_readStrip_85 : decode cX9_readStrip 85 = .ok (.iload_n 2, 1) := dc_at daX9_readStrip_2 4 rfl
theorem dX9_readStrip_86 : decode cX9_readStrip 86 = .ok (.iastore, 1) := dc_at daX9_readStrip_2 5 rfl
theorem dX9_readStrip_87 : decode cX9_readStrip 87 = .ok (.aload_n 0, 1) := dc_at daX9_readStrip_2 6 rfl
theorem dX9_readStrip_88 : decode cX9_readStrip 88 = .ok (.getfield 24, 3) := dc_at daX9_readStrip_2 7 rfl
theorem dX9_readStrip_91 : decode cX9_readStrip 91 = .ok (.bipush 32, 2) := dc_at daX9_readStrip_2 8 rfl
theorem dX9_readStrip_93 : decode cX9_readStrip 93 = .ok (.iload_n 1, 1) := dc_at daX9_readStrip_2 9 rfl
theorem dX9_readStrip_94 : decode cX9_readStrip 94 = .ok (.iadd, 1) := dc_at daX9_readStrip_2 10 rfl
theorem dX9_readStrip_95 : decode cX9_readStrip 95 = .ok (.iload_n 3, 1) := dc_at daX9_readStrip_2 11 rfl
theorem dX9_readStrip_96 : decode cX9_readStrip 96 = .ok (.iastore, 1) := dc_at daX9_readStrip_2 12 rfl
theorem dX9_readStrip_97 : decode cX9_readStrip 97 = .ok (.aload_n 0, 1) := dc_at daX9_readStrip_2 13 rfl
theorem dX9_readStrip_98 : decode cX9_readStrip 98 = .ok (.getfield 24, 3) := dc_at daX9_readStrip_2 14 rfl
theorem dX9_readStrip_101 : decode cX9_readStrip 101 = .ok (.bipush 48, 2) := dc_at daX9_readStrip_2 15 rfl
theorem dX9_readStrip_103 : decode cX9_readStrip 103 = .ok (.iload_n 1, 1) := dc_at daX9_readStrip_2 16 rfl
theorem dX9_readStrip_104 : decode cX9_readStrip 104 = .ok (.iadd, 1) := dc_at daX9_readStrip_2 17 rfl
theorem dX9_readStrip_105 : decode cX9_readStrip 105 = .ok (.iload 4, 2) := dc_at daX9_readStrip_2 18 rfl
theorem dX9_readStrip_107 : decode cX9_readStrip 107 = .ok (.iastore, 1) := dc_at daX9_readStrip_2 19 rfl
theorem dX9_readStrip_108 : decode cX9_readStrip 108 = .ok (.aload_n 0, 1) := dc_at daX9_readStrip_2 20 rfl
theorem dX9_readStrip_109 : decode cX9_readStrip 109 = .ok (.getfield 24, 3) := dc_at daX9_readStrip_2 21 rfl
theorem dX9_readStrip_112 : decode cX9_readStrip 112 = .ok (.bipush 64, 2) := dc_at daX9_readStrip_2 22 rfl
theorem dX9_readStrip_114 : decode cX9_readStrip 114 = .ok (.iload_n 1, 1) := dc_at daX9_readStrip_2 23 rfl
def dlX9_readStrip_3 : List (Nat × Jvm.ClassFile.Instr × Nat) := [(115, .iadd, 1), (116, .iload 5, 2), (118, .iastore, 1), (119, .aload_n 0, 1), (120, .getfield 24, 3), (123, .iconst 0, 1), (124, .dup2, 1), (125, .iaload, 1), (126, .iconst 1, 1), (127, .iadd, 1), (128, .iastore, 1), (129, .return_, 1)]
theorem daX9_readStrip_3 : dlX9_readStrip_3.all (dcK cX9_readStrip) = true := by decide +kernel
theorem dX9_readStrip_115 : decode cX9_readStrip 115 = .ok (.iadd, 1) := dc_at daX9_readStrip_3 0 rfl
theorem dX9_readStrip_116 : decode cX9_readStrip 116 = .ok (.iload 5, 2) := dc_at daX9_readStrip_3 1 rfl
theorem dX9_readStrip_118 : decode cX9_readStrip 118 = .ok (.iastore, 1) := dc_at daX9_readStrip_3 2 rfl
theorem dX9_readStrip_119 : decode cX9_readStrip 119 = .ok (.aload_n 0, 1) := dc_at daX9_readStrip_3 3 rfl
theorem dX9_readStrip_120 : decode cX9_readStrip 120 = .ok (.getfield 24, 3) := dc_at daX9_readStrip_3 4 rfl
theorem dX9_readStrip_123 : decode cX9_readStrip 123 = .ok (.iconst 0, 1) := dc_at daX9_readStrip_3 5 rfl
theorem dX9_readStrip_124 : decode cX9_readStrip 124 = .ok (.dup2, 1) := dc_at daX9_readStrip_3 6 rfl
theorem dX9_readStrip_125 : decode cX9_readStrip 125 = .ok (.iaload, 1) := dc_at daX9_readStrip_3 7 rfl
theorem dX9_readStrip_126 : decode cX9_readStrip 126 = .ok (.iconst 1, 1) := dc_at daX9_readStrip_3 8 rfl
theorem dX9_readStrip_127 : decode cX9_readStrip 127 = .ok (.iadd, 1) := dc_at daX9_readStrip_3 9 rfl
theorem dX9_readStrip_128 : decode cX9_readStrip 128 = .ok (.iastore, 1) := dc_at daX9_readStrip_3 10 rfl
theorem dX9_readStrip_129 : decode cX9_readStrip 129 = .ok (.return_, 1) := dc_at daX9_readStrip_3 11 rfl
def dlX9_readLamp_0 : List (Nat × Jvm.ClassFile.Instr × Nat) := [(0, .aload_n 0, 1), (1, .getfield 24, 3), (4, .invokestatic 65, 3), (7, .aload_n 0, 1), (8, .getfield 24, 3), (11, .iconst 2, 1), (12, .aload_n 0, 1), (13, .iconst 5, 1), (14, .iconst 0, 1), (15, .aload_n 0, 1), (16, .getfield 24, 3), (19, .iconst 0, 1), (20, .iaload, 1), (21, .iconst 1, 1), (22, .isub, 1), (23, .iconst 0, 1), (24, .invokevirtual 139, 3), (27, .iastore, 1), (28, .aload_n 0, 1), (29, .getfield 24, 3), (32, .iconst 3, 1), (33, .aload_n 0, 1), (34, .bipush 6, 2), (36, .iconst 1, 1)]
theorem daX9_readLamp_0 : dlX9_readLamp_0.all (dcK cX9_readLamp) = true := by decide +kernel
theorem dX9_readLamp_0 : decode cX9_readLamp 0 = .ok (.aload_n 0, 1) := dc_at daX9_readLamp_0 0 rfl
theorem dX9_readLamp_1 : decode cX9_readLamp 1 = .ok (.getfield 24, 3) := dc_at daX9_readLamp_0 1 rfl
theorem dX9_readLamp_4 : decode cX9_readLamp 4 = .ok (.invokestatic 65, 3) := dc_at daX9_readLamp_0 2 rfl
theorem dX9_readLamp_7 : decode cX9_readLamp 7 = .ok (.aload_n 0, 1) := dc_at daX9_readLamp_0 3 rfl
theorem dX9_readLamp_8 : decode cX9_readLamp 8 = .ok (.getfield 24, 3) := dc_at daX9_readLamp_0 4 rfl
theorem dX9_readLamp_11 : decode cX9_readLamp 11 = .ok (.iconst 2, 1) := dc_at daX9_readLamp_0 5 rfl
theorem dX9_readLamp_12 : decode cX9_readLamp 12 = .ok (.aload_n 0, 1) := dc_at daX9_readLamp_0 6 rfl
theorem dX9_readLamp_13 : decode cX9_readLamp 13 = .ok (.iconst 5, 1) := dc_at daX9_readLamp_0 7 rfl
theorem dX9_readLamp_14 : decode cX9_readLamp 14 = .ok (.iconst 0, 1) := dc_at daX9_readLamp_0 8 rfl
theorem dX9_readLamp_15 : decode cX9_readLamp 15 = .ok (.aload_n 0, 1) := dc_at daX9_readLamp_0 9 rfl
theorem dX9_readLamp_16 : decode cX9_readLamp 16 = .ok (.getfield 24, 3) := dc_at daX9_readLamp_0 10 rfl
theorem dX9_readLamp_19 : decode cX9_readLamp 19 = .ok (.iconst 0, 1) := dc_at daX9_readLamp_0 11 rfl
theorem dX9_readLamp_20 : decode cX9_readLamp 20 = .ok (.iaload, 1) := dc_at daX9_readLamp_0 12 rfl
theorem dX9_readLamp_21 : decode cX9_readLamp 21 = .ok (.iconst 1, 1) := dc_at daX9_readLamp_0 13 rfl
theorem dX9_readLamp_22 : decode cX9_readLamp 22 = .ok (.isub, 1) := dc_at daX9_readLamp_0 14 rfl
theorem dX9_readLamp_23 : decode cX9_readLamp 23 = .ok (.iconst 0, 1) := dc_at daX9_readLamp_0 15 rfl
theorem dX9_readLamp_24 : decode cX9_readLamp 24 = .ok (.invokevirtual 139, 3) := dc_at daX9_readLamp_0 16 rfl
theorem dX9_readLamp_27 : decode cX9_readLamp 27 = .ok (.iastore, 1) := dc_at daX9_readLamp_0 17 rfl
theorem dX9_readLamp_28 : decode cX9_readLamp 28 = .ok (.aload_n 0, 1) := dc_at daX9_readLamp_0 18 rfl
theorem dX9_readLamp_29 : decode cX9_readLamp 29 = .ok (.getfield 24, 3) := dc_at daX9_readLamp_0 19 rfl
theorem dX9_readLamp_32 : decode cX9_readLamp 32 = .ok (.iconst 3, 1) := dc_at daX9_readLamp_0 20 rfl
theorem dX9_readLamp_33 : decode cX9_readLamp 33 = .ok (.aload_n 0, 1) := dc_at daX9_readLamp_0 21 rfl
theorem dX9_readLamp_34 : decode cX9_readLamp 34 = .ok (.bipush 6, 2) := dc_at daX9_readLamp_0 22 rfl
theorem dX9_readLamp_36 : decode cX9_readLamp 36 = .ok (.iconst 1, 1) := dc_at daX9_readLamp_0 23 rfl
def dlX9_readLamp_1 : List (Nat × Jvm.ClassFile.Instr × Nat) := [(37, .bipush 30, 2), (39, .bipush 6, 2), (41, .invokevirtual 139, 3), (44, .iastore, 1), (45, .aload_n 0, 1), (46, .getfield 24, 3), (49, .iconst 4, 1), (50, .aload_n 0, 1), (51, .bipush 7, 2), (53, .iconst 0, 1), (54, .bipush 20, 2), (56, .bipush 6, 2), (58, .invokevirtual 139, 3), (61, .iastore, 1), (62, .aload_n 0, 1), (63, .getfield 24, 3), (66, .iconst 5, 1), (67, .aload_n 0, 1), (68, .bipush 8, 2), (70, .iconst 0, 1), (71, .bipush 9, 2), (73, .iconst 1, 1), (74, .invokevirtual 139, 3), (77, .iastore, 1)]
theorem daX9_readLamp_1 : dlX9_readLamp_1.all (dcK cX9_readLamp) = true := by decide +kernel
theorem dX9_readLamp_37 : decode cX9_readLamp 37 = .ok (.bipush 30, 2) := dc_at daX9_readLamp_1 0 rfl
theorem dX9_readLamp_39 : decode cX9_readLamp 39 = .ok (.bipush 6, 2) := dc_at daX9_readLamp_1 1 rfl
theorem dX9_readLamp_41 : decode cX9_readLamp 41 = .ok (.invokevirtual 139, 3) := dc_at daX9_readLamp_1 2 rfl
theorem dX9_readLamp_44 : decode cX9_readLamp 44 = .ok (.iastore, 1) := dc_at daX9_readLamp_1 3 rfl
theorem dX9_readLamp_45 : decode cX9_readLamp 45 = .ok (.aload_n 0, 1) := dc_at daX9_readLamp_1 4 rfl
theorem dX9_readLamp_46 : decode cX9_readLamp 46 = .ok (.getfield 24, 3) := dc_at daX9_readLamp_1 5 rfl
theorem dX9_readLamp_49 : decode cX9_readLamp 49 = .ok (.iconst 4, 1) := dc_at daX9_readLamp_1 6 rfl
theorem dX9_readLamp_50 : decode cX9_readLamp 50 = .ok (.aload_n 0, 1) := dc_at daX9_readLamp_1 7 rfl
theorem dX9_readLamp_51 : decode cX9_readLamp 51 = .ok (.bipush 7, 2) := dc_at daX9_readLamp_1 8 rfl
theorem dX9_readLamp_53 : decode cX9_readLamp 53 = .ok (.iconst 0, 1) := dc_at daX9_readLamp_1 9 rfl
theorem dX9_readLamp_54 : decode cX9_readLamp 54 = .ok (.bipush 20, 2) := dc_at daX9_readLamp_1 10 rfl
theorem dX9_readLamp_56 : decode cX9_readLamp 56 = .ok (.bipush 6, 2) := dc_at daX9_readLamp_1 11 rfl
theorem dX9_readLamp_58 : decode cX9_readLamp 58 = .ok (.invokevirtual 139, 3) := dc_at daX9_readLamp_1 12 rfl
theorem dX9_readLamp_61 : decode cX9_readLamp 61 = .ok (.iastore, 1) := dc_at daX9_readLamp_1 13 rfl
theorem dX9_readLamp_62 : decode cX9_readLamp 62 = .ok (.aload_n 0, 1) := dc_at daX9_readLamp_1 14 rfl
theorem dX9_readLamp_63 : decode cX9_readLamp 63 = .ok (.getfield 24, 3) := dc_at daX9_readLamp_1 15 rfl
theorem dX9_readLamp_66 : decode cX9_readLamp 66 = .ok (.iconst 5, 1) := dc_at daX9_readLamp_1 16 rfl
theorem dX9_readLamp_67 : decode cX9_readLamp 67 = .ok (.aload_n 0, 1) := dc_at daX9_readLamp_1 17 rfl
theorem dX9_readLamp_68 : decode cX9_readLamp 68 = .ok (.bipush 8, 2) := dc_at daX9_readLamp_1 18 rfl
theorem dX9_readLamp_70 : decode cX9_readLamp 70 = .ok (.iconst 0, 1) := dc_at daX9_readLamp_1 19 rfl
theorem dX9_readLamp_71 : decode cX9_readLamp 71 = .ok (.bipush 9, 2) := dc_at daX9_readLamp_1 20 rfl
theorem dX9_readLamp_73 : decode cX9_readLamp 73 = .ok (.iconst 1, 1) := dc_at daX9_readLamp_1 21 rfl
theorem dX9_readLamp_74 : decode cX9_readLamp 74 = .ok (.invokevirtual 139, 3) := dc_at daX9_readLamp_1 22 rfl
theorem dX9_readLamp_77 : decode cX9_readLamp 77 = .ok (.iastore, 1) := dc_at daX9_readLamp_1 23 rfl
def dlX9_readLamp_2 : List (Nat × Jvm.ClassFile.Instr × Nat) := [(78, .return_, 1)]
theorem daX9_readLamp_2 : dlX9_readLamp_2.all (dcK cX9_readLamp) = true := by decide +kernel
theorem dX9_readLamp_78 : decode cX9_readLamp 78 = .ok (.return_, 1) := dc_at daX9_readLamp_2 0 rfl
def dlX9_readBid_0 : List (Nat × Jvm.ClassFile.Instr × Nat) := [(0, .aload_n 0, 1), (1, .iconst 0, 1), (2, .iconst 5, 1), (3, .invokevirtual 135, 3), (6, .istore_n 1, 1), (7, .aload_n 0, 1), (8, .iconst 0, 1), (9, .bipush 99, 2), (11, .invokevirtual 135, 3), (14, .istore_n 2, 1), (15, .aload_n 0, 1), (16, .getfield 112, 3), (19, .ifCond .ne 13, 3), (22, .aload_n 0, 1), (23, .getfield 24, 3), (26, .bipush 10, 2), (28, .iload_n 1, 1), (29, .iadd, 1), (30, .iload_n 2, 1), (31, .iastore, 1), (32, .return_, 1)]
theorem daX9_readBid_0 : dlX9_readBid_0.all (dcK cX9_readBid) = true := by decide +kernel
theorem dX9_readBid_0 : decode cX9_readBid 0 = .ok (.aload_n 0, 1) := dc_at daX9_readBid_0 0 rfl
theorem dX9_readBid_1 : decode cX9_readBid 1 = .ok (.iconst 0, 1) := dc_at daX9_readBid_0 1 rfl
theorem dX9_readBid_2 : decode cX9_readBid 2 = .ok (.iconst 5, 1) := dc_at daX9_readBid_0 2 rfl
theorem dX9_readBid_3 : decode cX9_readBid 3 = .ok (.invokevirtual 135, 3) := dc_at daX9_readBid_0 3 rfl
theorem dX9_readBid_6 : decode cX9_readBid 6 = .ok (.istore_n 1, 1) := dc_at daX9_readBid_0 4 rfl
theorem dX9_readBid_7 : decode cX9_readBid 7 = .ok (.aload_n 0, 1) := dc_at daX9_readBid_0 5 rfl
theorem dX9_readBid_8 : decode cX9_readBid 8 = .ok (.iconst 0, 1) := dc_at daX9_readBid_0 6 rfl
theorem dX9_readBid_9 : decode cX9_readBid 9 = .ok (.bipush 99, 2) := dc_at daX9_readBid_0 7 rfl
theorem dX9_readBid_11 : decode cX9_readBid 11 = .ok (.invokevirtual 135, 3) := dc_at daX9_readBid_0 8 rfl
theorem dX9_readBid_14 : decode cX9_readBid 14 = .ok (.istore_n 2, 1) := dc_at daX9_readBid_0 9 rfl
theorem dX9_readBid_15 : decode cX9_readBid 15 = .ok (.aload_n 0, 1) := dc_at daX9_readBid_0 10 rfl
theorem dX9_readBid_16 : decode cX9_readBid 16 = .ok (.getfield 112, 3) := dc_at daX9_readBid_0 11 rfl
theorem dX9_readBid_19 : decode cX9_readBid 19 = .ok (.ifCond .ne 13, 3) := dc_at daX9_readBid_0 12 rfl
theorem dX9_readBid_22 : decode cX9_readBid 22 = .ok (.aload_n 0, 1) := dc_at daX9_readBid_0 13 rfl
theorem dX9_readBid_23 : decode cX9_readBid 23 = .ok (.getfield 24, 3) := dc_at daX9_readBid_0 14 rfl
theorem dX9_readBid_26 : decode cX9_readBid 26 = .ok (.bipush 10, 2) := dc_at daX9_readBid_0 15 rfl
theorem dX9_readBid_28 : decode cX9_readBid 28 = .ok (.iload_n 1, 1) := dc_at daX9_readBid_0 16 rfl
theorem dX9_readBid_29 : decode cX9_readBid 29 = .ok (.iadd, 1) := dc_at daX9_readBid_0 17 rfl
theorem dX9_readBid_30 : decode cX9_readBid 30 = .ok (.iload_n 2, 1) := dc_at daX9_readBid_0 18 rfl
theorem dX9_readBid_31 : decode cX9_readBid 31 = .ok (.iastore, 1) := dc_at daX9_readBid_0 19 rfl
theorem dX9_readBid_32 : decode cX9_readBid 32 = .ok (.return_, 1) := dc_at daX9_readBid_0 20 rfl
def dlX9_readLine_0 : List (Nat × Jvm.ClassFile.Instr × Nat) := [(0, .aload_n 0, 1), (1, .iconst 0, 1), (2, .invokevirtual 118, 3), (5, .ifCond .eq 10, 3), (8, .aload_n 0, 1), (9, .invokevirtual 143, 3), (12, .goto 124, 3), (15, .aload_n 0, 1), (16, .iconst 4, 1), (17, .invokevirtual 132, 3), (20, .ifCond .eq 10, 3), (23, .aload_n 0, 1), (24, .invokevirtual 146, 3), (27, .goto 109, 3), (30, .aload_n 0, 1), (31, .bipush 9, 2), (33, .invokevirtual 132, 3), (36, .ifCond .eq 21, 3), (39, .aload_n 0, 1), (40, .getfield 24, 3), (43, .bipush 6, 2), (45, .aload_n 0, 1), (46, .iconst 0, 1), (47, .sipush 999, 3)]
theorem daX9_readLine_0 : dlX9_readLine_0.all (dcK cX9_readLine) = true := by decide +kernel
theorem dX9_readLine_0 : decode cX9_readLine 0 = .ok (.aload_n 0, 1) := dc_at daX9_readLine_0 0 rfl
theorem dX9_readLine_1 : decode cX9_readLine 1 = .ok (.iconst 0, 1) := dc_at daX9_readLine_0 1 rfl
theorem dX9_readLine_2 : decode cX9_readLine 2 = .ok (.invokevirtual 118, 3) := dc_at daX9_readLine_0 2 rfl
theorem dX9_readLine_5 : decode cX9_readLine 5 = .ok (.ifCond .eq 10, 3) := dc_at daX9_readLine_0 3 rfl
theorem dX9_readLine_8 : decode cX9_readLine 8 = .ok (.aload_n 0, 1) := dc_at daX9_readLine_0 4 rfl
theorem dX9_readLine_9 : decode cX9_readLine 9 = .ok (.invokevirtual 143, 3) := dc_at daX9_readLine_0 5 rfl
theorem dX9_readLine_12 : decode cX9_readLine 12 = .ok (.goto 124, 3) := dc_at daX9_readLine_0 6 rfl
theorem dX9_readLine_15 : decode cX9_readLine 15 = .ok (.aload_n 0, 1) := dc_at daX9_readLine_0 7 rfl
theorem dX9_readLine_16 : decode cX9_readLine 16 = .ok (.iconst 4, 1) := dc_at daX9_readLine_0 8 rfl
theorem dX9_readLine_17 : decode cX9_readLine 17 = .ok (.invokevirtual 132, 3) := dc_at daX9_readLine_0 9 rfl
theorem dX9_readLine_20 : decode cX9_readLine 20 = .ok (.ifCond .eq 10, 3) := dc_at daX9_readLine_0 10 rfl
theorem dX9_readLine_23 : decode cX9_readLine 23 = .ok (.aload_n 0, 1) := dc_at daX9_readLine_0 11 rfl
theorem dX9_readLine_24 : decode cX9_readLine 24 = .ok (.invokevirtual 146, 3) := dc_at daX9_readLine_0 12 rfl
theorem dX9_readLine_27 : decode cX9_readLine 27 = .ok (.goto 109, 3) := dc_at daX9_readLine_0 13 rfl
theorem dX9_readLine_30 : decode cX9_readLine 30 = .ok (.aload_n 0, 1) := dc_at daX9_readLine_0 14 rfl
theorem dX9_readLine_31 : decode cX9_readLine 31 = .ok (.bipush 9, 2) := dc_at daX9_readLine_0 15 rfl
theorem dX9_readLine_33 : decode cX9_readLine 33 = .ok (.invokevirtual 132, 3) := dc_at daX9_readLine_0 16 rfl
theorem dX9_readLine_36 : decode cX9_readLine 36 = .ok (.ifCond .eq 21, 3) := dc_at daX9_readLine_0 17 rfl
theorem dX9_readLine_39 : decode cX9_readLine 39 = .ok (.aload_n 0, 1) := dc_at daX9_readLine_0 18 rfl
theorem dX9_readLine_40 : decode cX9_readLine 40 = .ok (.getfield 24, 3) := dc_at daX9_readLine_0 19 rfl
theorem dX9_readLine_43 : decode cX9_readLine 43 = .ok (.bipush 6, 2) := dc_at daX9_readLine_0 20 rfl
theorem dX9_readLine_45 : decode cX9_readLine 45 = .ok (.aload_n 0, 1) := dc_at daX9_readLine_0 21 rfl
theorem dX9_readLine_46 : decode cX9_readLine 46 = .ok (.iconst 0, 1) := dc_at daX9_readLine_0 22 rfl
theorem dX9_readLine_47 : decode cX9_readLine 47 = .ok (.sipush 999, 3) := dc_at daX9_readLine_0 23 rfl
def dlX9_readLine_1 : List (Nat × Jvm.ClassFile.Instr × Nat) := [(50, .invokevirtual 135, 3), (53, .iastore, 1), (54, .goto 82, 3), (57, .aload_n 0, 1), (58, .bipush 10, 2), (60, .invokevirtual 132, 3), (63, .ifCond .eq 10, 3), (66, .aload_n 0, 1), (67, .invokevirtual 149, 3), (70, .goto 66, 3), (73, .aload_n 0, 1), (74, .bipush 11, 2), (76, .invokevirtual 132, 3), (79, .ifCond .eq 20, 3), (82, .aload_n 0, 1), (83, .getfield 24, 3), (86, .bipush 7, 2), (88, .aload_n 0, 1), (89, .iconst 0, 1), (90, .bipush 100, 2), (92, .invokevirtual 135, 3), (95, .iastore, 1), (96, .goto 40, 3), (99, .aload_n 0, 1)]
theorem daX9_readLine_1 : dlX9_readLine_1.all (dcK cX9_readLine) = true := by decide +kernel
theorem dX9_readLine_50 : decode cX9_readLine 50 = .ok (.invokevirtual 135, 3) := dc_at daX9_readLine_1 0 rfl
theorem dX9_readLine_53 : decode cX9_readLine 53 = .ok (.iastore, 1) := dc_at daX9_readLine_1 1 rfl
theorem dX9_readLine_54 : decode cX9_readLine 54 = .ok (.goto 82, 3) := dc_at daX9_readLine_1 2 rfl
theorem dX9_readLine_57 : decode cX9_readLine 57 = .ok (.aload_n 0, 1) := dc_at daX9_readLine_1 3 rfl
theorem dX9_readLine_58 : decode cX9_readLine 58 = .ok (.bipush 10, 2) := dc_at daX9_readLine_1 4 rfl
theorem dX9_readLine_60 : decode cX9_readLine 60 = .ok (.invokevirtual 132, 3) := dc_at daX9_readLine_1 5 rfl
theorem dX9_readLine_63 : decode cX9_readLine 63 = .ok (.ifCond .eq 10, 3) := dc_at daX9_readLine_1 6 rfl
theorem dX9_readLine_66 : decode cX9_readLine 66 = .ok (.aload_n 0, 1) := dc_at daX9_readLine_1 7 rfl
theorem dX9_readLine_67 : decode cX9_readLine 67 = .ok (.invokevirtual 149, 3) := dc_at daX9_readLine_1 8 rfl
theorem dX9_readLine_70 : decode cX9_readLine 70 = .ok (.goto 66, 3) := dc_at daX9_readLine_1 9 rfl
