theorem dX9_readLine_73 : decode cX9_readLine 73 = .ok (.aload_n 0, 1) := dc_at daX9_readLine_1 10 rfl
theorem dX9_readLine_74 : decode cX9_readLine 74 = .ok (.bipush 11, 2) := dc_at daX9_readLine_1 11 rfl
theorem dX9_readLine_76 : decode cX9_readLine 76 = .ok (.invokevirtual 132, 3) := dc_at daX9_readLine_1 12 rfl
theorem dX9_readLine_79 : decode cX9_readLine 79 = .ok (.ifCond .eq 20, 3) := dc_at daX9_readLine_1 13 rfl
theorem dX9_readLine_82 : decode cX9_readLine 82 = .ok (.aload_n 0, 1) := dc_at daX9_readLine_1 14 rfl
theorem dX9_readLine_83 : decode cX9_readLine 83 = .ok (.getfield 24, 3) := dc_at daX9_readLine_1 15 rfl
theorem dX9_readLine_86 : decode cX9_readLine 86 = .ok (.bipush 7, 2) := dc_at daX9_readLine_1 16 rfl
theorem dX9_readLine_88 : decode cX9_readLine 88 = .ok (.aload_n 0, 1) := dc_at daX9_readLine_1 17 rfl
theorem dX9_readLine_89 : decode cX9_readLine 89 = .ok (.iconst 0, 1) := dc_at daX9_readLine_1 18 rfl
theorem dX9_readLine_90 : decode cX9_readLine 90 = .ok (.bipush 100, 2) := dc_at daX9_readLine_1 19 rfl
theorem dX9_readLine_92 : decode cX9_readLine 92 = .ok (.invokevirtual 135, 3) := dc_at daX9_readLine_1 20 rfl
theorem dX9_readLine_95 : decode cX9_readLine 95 = .ok (.iastore, 1) := dc_at daX9_readLine_1 21 rfl
theorem dX9_readLine_96 : decode cX9_readLine 96 = .ok (.goto 40, 3) := dc_at daX9_readLine_1 22 rfl
theorem dX9_readLine_99 : decode cX9_readLine 99 = .ok (.aload_n 0, 1) := dc_at daX9_readLine_1 23 rfl
def dlX9_readLine_2 : List (Nat × Jvm.ClassFile.Instr × Nat) := [(100, .bipush 12, 2), (102, .invokevirtual 132, 3), (105, .ifCond .eq 26, 3), (108, .aload_n 0, 1), (109, .getfield 24, 3), (112, .bipush 8, 2), (114, .aload_n 0, 1), (115, .iconst 0, 1), (116, .aload_n 0, 1), (117, .getfield 24, 3), (120, .iconst 0, 1), (121, .iaload, 1), (122, .iconst 1, 1), (123, .isub, 1), (124, .invokevirtual 135, 3), (127, .iastore, 1), (128, .goto 8, 3), (131, .aload_n 0, 1), (132, .iconst 2, 1), (133, .invokevirtual 124, 3), (136, .aload_n 0, 1), (137, .bipush 15, 2), (139, .invokevirtual 132, 3), (142, .ifCond .ne 8, 3)]
theorem daX9_readLine_2 : dlX9_readLine_2.all (dcK cX9_readLine) = true := by decide +kernel
theorem dX9_readLine_100 : decode cX9_readLine 100 = .ok (.bipush 12, 2) := dc_at daX9_readLine_2 0 rfl
theorem dX9_readLine_102 : decode cX9_readLine 102 = .ok (.invokevirtual 132, 3) := dc_at daX9_readLine_2 1 rfl
theorem dX9_readLine_105 : decode cX9_readLine 105 = .ok (.ifCond .eq 26, 3) := dc_at daX9_readLine_2 2 rfl
theorem dX9_readLine_108 : decode cX9_readLine 108 = .ok (.aload_n 0, 1) := dc_at daX9_readLine_2 3 rfl
theorem dX9_readLine_109 : decode cX9_readLine 109 = .ok (.getfield 24, 3) := dc_at daX9_readLine_2 4 rfl
theorem dX9_readLine_112 : decode cX9_readLine 112 = .ok (.bipush 8, 2) := dc_at daX9_readLine_2 5 rfl
theorem dX9_readLine_114 : decode cX9_readLine 114 = .ok (.aload_n 0, 1) := dc_at daX9_readLine_2 6 rfl
theorem dX9_readLine_115 : decode cX9_readLine 115 = .ok (.iconst 0, 1) := dc_at daX9_readLine_2 7 rfl
theorem dX9_readLine_116 : decode cX9_readLine 116 = .ok (.aload_n 0, 1) := dc_at daX9_readLine_2 8 rfl
theorem dX9_readLine_117 : decode cX9_readLine 117 = .ok (.getfield 24, 3) := dc_at daX9_readLine_2 9 rfl
theorem dX9_readLine_120 : decode cX9_readLine 120 = .ok (.iconst 0, 1) := dc_at daX9_readLine_2 10 rfl
theorem dX9_readLine_121 : decode cX9_readLine 121 = .ok (.iaload, 1) := dc_at daX9_readLine_2 11 rfl
theorem dX9_readLine_122 : decode cX9_readLine 122 = .ok (.iconst 1, 1) := dc_at daX9_readLine_2 12 rfl
theorem dX9_readLine_123 : decode cX9_readLine 123 = .ok (.isub, 1) := dc_at daX9_readLine_2 13 rfl
theorem dX9_readLine_124 : decode cX9_readLine 124 = .ok (.invokevirtual 135, 3) := dc_at daX9_readLine_2 14 rfl
theorem dX9_readLine_127 : decode cX9_readLine 127 = .ok (.iastore, 1) := dc_at daX9_readLine_2 15 rfl
theorem dX9_readLine_128 : decode cX9_readLine 128 = .ok (.goto 8, 3) := dc_at daX9_readLine_2 16 rfl
theorem dX9_readLine_131 : decode cX9_readLine 131 = .ok (.aload_n 0, 1) := dc_at daX9_readLine_2 17 rfl
theorem dX9_readLine_132 : decode cX9_readLine 132 = .ok (.iconst 2, 1) := dc_at daX9_readLine_2 18 rfl
theorem dX9_readLine_133 : decode cX9_readLine 133 = .ok (.invokevirtual 124, 3) := dc_at daX9_readLine_2 19 rfl
theorem dX9_readLine_136 : decode cX9_readLine 136 = .ok (.aload_n 0, 1) := dc_at daX9_readLine_2 20 rfl
theorem dX9_readLine_137 : decode cX9_readLine 137 = .ok (.bipush 15, 2) := dc_at daX9_readLine_2 21 rfl
theorem dX9_readLine_139 : decode cX9_readLine 139 = .ok (.invokevirtual 132, 3) := dc_at daX9_readLine_2 22 rfl
theorem dX9_readLine_142 : decode cX9_readLine 142 = .ok (.ifCond .ne 8, 3) := dc_at daX9_readLine_2 23 rfl
def dlX9_readLine_3 : List (Nat × Jvm.ClassFile.Instr × Nat) := [(145, .aload_n 0, 1), (146, .iconst 2, 1), (147, .invokevirtual 124, 3), (150, .aload_n 0, 1), (151, .getfield 24, 3), (154, .bipush 9, 2), (156, .dup2, 1), (157, .iaload, 1), (158, .iconst 1, 1), (159, .iadd, 1), (160, .iastore, 1), (161, .return_, 1)]
theorem daX9_readLine_3 : dlX9_readLine_3.all (dcK cX9_readLine) = true := by decide +kernel
theorem dX9_readLine_145 : decode cX9_readLine 145 = .ok (.aload_n 0, 1) := dc_at daX9_readLine_3 0 rfl
theorem dX9_readLine_146 : decode cX9_readLine 146 = .ok (.iconst 2, 1) := dc_at daX9_readLine_3 1 rfl
theorem dX9_readLine_147 : decode cX9_readLine 147 = .ok (.invokevirtual 124, 3) := dc_at daX9_readLine_3 2 rfl
theorem dX9_readLine_150 : decode cX9_readLine 150 = .ok (.aload_n 0, 1) := dc_at daX9_readLine_3 3 rfl
theorem dX9_readLine_151 : decode cX9_readLine 151 = .ok (.getfield 24, 3) := dc_at daX9_readLine_3 4 rfl
theorem dX9_readLine_154 : decode cX9_readLine 154 = .ok (.bipush 9, 2) := dc_at daX9_readLine_3 5 rfl
theorem dX9_readLine_156 : decode cX9_readLine 156 = .ok (.dup2, 1) := dc_at daX9_readLine_3 6 rfl
theorem dX9_readLine_157 : decode cX9_readLine 157 = .ok (.iaload, 1) := dc_at daX9_readLine_3 7 rfl
theorem dX9_readLine_158 : decode cX9_readLine 158 = .ok (.iconst 1, 1) := dc_at daX9_readLine_3 8 rfl
theorem dX9_readLine_159 : decode cX9_readLine 159 = .ok (.iadd, 1) := dc_at daX9_readLine_3 9 rfl
theorem dX9_readLine_160 : decode cX9_readLine 160 = .ok (.iastore, 1) := dc_at daX9_readLine_3 10 rfl
theorem dX9_readLine_161 : decode cX9_readLine 161 = .ok (.return_, 1) := dc_at daX9_readLine_3 11 rfl
def dlX9_plain_0 : List (Nat × Jvm.ClassFile.Instr × Nat) := [(0, .aload_n 0, 1), (1, .iconst 0, 1), (2, .putfield 1, 3), (5, .iload_n 1, 1), (6, .i2l, 1), (7, .lconst 0, 1), (8, .aload_n 0, 1), (9, .getfield 68, 3), (12, .i2l, 1), (13, .invokestatic 128, 3), (16, .ifCond .ne 6, 3), (19, .bipush (-3), 2), (21, .ireturn, 1), (22, .aload_n 0, 1), (23, .iload_n 1, 1), (24, .putfield 71, 3), (27, .aload_n 0, 1), (28, .iconst 0, 1), (29, .putfield 68, 3), (32, .aload_n 0, 1), (33, .iconst 0, 1), (34, .putfield 89, 3), (37, .aload_n 0, 1), (38, .iconst 0, 1)]
theorem daX9_plain_0 : dlX9_plain_0.all (dcK cX9_plain) = true := by decide +kernel
theorem dX9_plain_0 : decode cX9_plain 0 = .ok (.aload_n 0, 1) := dc_at daX9_plain_0 0 rfl
theorem dX9_plain_1 : decode cX9_plain 1 = .ok (.iconst 0, 1) := dc_at daX9_plain_0 1 rfl
theorem dX9_plain_2 : decode cX9_plain 2 = .ok (.putfield 1, 3) := dc_at daX9_plain_0 2 rfl
theorem dX9_plain_5 : decode cX9_plain 5 = .ok (.iload_n 1, 1) := dc_at daX9_plain_0 3 rfl
theorem dX9_plain_6 : decode cX9_plain 6 = .ok (.i2l, 1) := dc_at daX9_plain_0 4 rfl
theorem dX9_plain_7 : decode cX9_plain 7 = .ok (.lconst 0, 1) := dc_at daX9_plain_0 5 rfl
theorem dX9_plain_8 : decode cX9_plain 8 = .ok (.aload_n 0, 1) := dc_at daX9_plain_0 6 rfl
theorem dX9_plain_9 : decode cX9_plain 9 = .ok (.getfield 68, 3) := dc_at daX9_plain_0 7 rfl
theorem dX9_plain_12 : decode cX9_plain 12 = .ok (.i2l, 1) := dc_at daX9_plain_0 8 rfl
theorem dX9_plain_13 : decode cX9_plain 13 = .ok (.invokestatic 128, 3) := dc_at daX9_plain_0 9 rfl
theorem dX9_plain_16 : decode cX9_plain 16 = .ok (.ifCond .ne 6, 3) := dc_at daX9_plain_0 10 rfl
theorem dX9_plain_19 : decode cX9_plain 19 = .ok (.bipush (-3), 2) := dc_at daX9_plain_0 11 rfl
theorem dX9_plain_21 : decode cX9_plain 21 = .ok (.ireturn, 1) := dc_at daX9_plain_0 12 rfl
theorem dX9_plain_22 : decode cX9_plain 22 = .ok (.aload_n 0, 1) := dc_at daX9_plain_0 13 rfl
theorem dX9_plain_23 : decode cX9_plain 23 = .ok (.iload_n 1, 1) := dc_at daX9_plain_0 14 rfl
theorem dX9_plain_24 : decode cX9_plain 24 = .ok (.putfield 71, 3) := dc_at daX9_plain_0 15 rfl
theorem dX9_plain_27 : decode cX9_plain 27 = .ok (.aload_n 0, 1) := dc_at daX9_plain_0 16 rfl
theorem dX9_plain_28 : decode cX9_plain 28 = .ok (.iconst 0, 1) := dc_at daX9_plain_0 17 rfl
theorem dX9_plain_29 : decode cX9_plain 29 = .ok (.putfield 68, 3) := dc_at daX9_plain_0 18 rfl
theorem dX9_plain_32 : decode cX9_plain 32 = .ok (.aload_n 0, 1) := dc_at daX9_plain_0 19 rfl
theorem dX9_plain_33 : decode cX9_plain 33 = .ok (.iconst 0, 1) := dc_at daX9_plain_0 20 rfl
theorem dX9_plain_34 : decode cX9_plain 34 = .ok (.putfield 89, 3) := dc_at daX9_plain_0 21 rfl
theorem dX9_plain_37 : decode cX9_plain 37 = .ok (.aload_n 0, 1) := dc_at daX9_plain_0 22 rfl
theorem dX9_plain_38 : decode cX9_plain 38 = .ok (.iconst 0, 1) := dc_at daX9_plain_0 23 rfl
def dlX9_plain_1 : List (Nat × Jvm.ClassFile.Instr × Nat) := [(39, .putfield 112, 3), (42, .aload_n 0, 1), (43, .getfield 24, 3), (46, .invokestatic 61, 3), (49, .aload_n 0, 1), (50, .invokevirtual 121, 3), (53, .aload_n 0, 1), (54, .getfield 112, 3), (57, .ifCond .ne 19, 3), (60, .aload_n 0, 1), (61, .getfield 96, 3), (64, .bipush 16, 2), (66, .if_icmp .eq 10, 3), (69, .aload_n 0, 1), (70, .invokevirtual 152, 3), (73, .goto (-20), 3), (76, .aload_n 0, 1), (77, .aload_n 0, 1), (78, .getfield 112, 3), (81, .putfield 155, 3), (84, .aload_n 0, 1), (85, .aload_n 0, 1), (86, .getfield 112, 3), (89, .ifCond .ne 7, 3)]
theorem daX9_plain_1 : dlX9_plain_1.all (dcK cX9_plain) = true := by decide +kernel
theorem dX9_plain_39 : decode cX9_plain 39 = .ok (.putfield 112, 3) := dc_at daX9_plain_1 0 rfl
theorem dX9_plain_42 : decode cX9_plain 42 = .ok (.aload_n 0, 1) := dc_at daX9_plain_1 1 rfl
theorem dX9_plain_43 : decode cX9_plain 43 = .ok (.getfield 24, 3) := dc_at daX9_plain_1 2 rfl
theorem dX9_plain_46 : decode cX9_plain 46 = .ok (.invokestatic 61, 3) := dc_at daX9_plain_1 3 rfl
theorem dX9_plain_49 : decode cX9_plain 49 = .ok (.aload_n 0, 1) := dc_at daX9_plain_1 4 rfl
theorem dX9_plain_50 : decode cX9_plain 50 = .ok (.invokevirtual 121, 3) := dc_at daX9_plain_1 5 rfl
theorem dX9_plain_53 : decode cX9_plain 53 = .ok (.aload_n 0, 1) := dc_at daX9_plain_1 6 rfl
theorem dX9_plain_54 : decode cX9_plain 54 = .ok (.getfield 112, 3) := dc_at daX9_plain_1 7 rfl
theorem dX9_plain_57 : decode cX9_plain 57 = .ok (.ifCond .ne 19, 3) := dc_at daX9_plain_1 8 rfl
theorem dX9_plain_60 : decode cX9_plain 60 = .ok (.aload_n 0, 1) := dc_at daX9_plain_1 9 rfl
theorem dX9_plain_61 : decode cX9_plain 61 = .ok (.getfield 96, 3) := dc_at daX9_plain_1 10 rfl
theorem dX9_plain_64 : decode cX9_plain 64 = .ok (.bipush 16, 2) := dc_at daX9_plain_1 11 rfl
theorem dX9_plain_66 : decode cX9_plain 66 = .ok (.if_icmp .eq 10, 3) := dc_at daX9_plain_1 12 rfl
theorem dX9_plain_69 : decode cX9_plain 69 = .ok (.aload_n 0, 1) := dc_at daX9_plain_1 13 rfl
theorem dX9_plain_70 : decode cX9_plain 70 = .ok (.invokevirtual 152, 3) := dc_at daX9_plain_1 14 rfl
theorem dX9_plain_73 : decode cX9_plain 73 = .ok (.goto (-20), 3) := dc_at daX9_plain_1 15 rfl
theorem dX9_plain_76 : decode cX9_plain 76 = .ok (.aload_n 0, 1) := dc_at daX9_plain_1 16 rfl
theorem dX9_plain_77 : decode cX9_plain 77 = .ok (.aload_n 0, 1) := dc_at daX9_plain_1 17 rfl
theorem dX9_plain_78 : decode cX9_plain 78 = .ok (.getfield 112, 3) := dc_at daX9_plain_1 18 rfl
theorem dX9_plain_81 : decode cX9_plain 81 = .ok (.putfield 155, 3) := dc_at daX9_plain_1 19 rfl
theorem dX9_plain_84 : decode cX9_plain 84 = .ok (.aload_n 0, 1) := dc_at daX9_plain_1 20 rfl
theorem dX9_plain_85 : decode cX9_plain 85 = .ok (.aload_n 0, 1) := dc_at daX9_plain_1 21 rfl
theorem dX9_plain_86 : decode cX9_plain 86 = .ok (.getfield 112, 3) := dc_at daX9_plain_1 22 rfl
theorem dX9_plain_89 : decode cX9_plain 89 = .ok (.ifCond .ne 7, 3) := dc_at daX9_plain_1 23 rfl
def dlX9_plain_2 : List (Nat × Jvm.ClassFile.Instr × Nat) := [(92, .iconst (-1), 1), (93, .goto 7, 3), (96, .aload_n 0, 1), (97, .getfield 115, 3), (100, .putfield 27, 3), (103, .aload_n 0, 1), (104, .getfield 112, 3), (107, .ifCond .eq 11, 3), (110, .bipush (-30), 2), (112, .aload_n 0, 1), (113, .getfield 112, 3), (116, .isub, 1), (117, .ireturn, 1), (118, .iconst 0, 1), (119, .istore_n 2, 1), (120, .iload_n 2, 1), (121, .bipush 96, 2), (123, .if_icmp .ge 21, 3), (126, .aload_n 0, 1), (127, .getfield 13, 3), (130, .iload_n 2, 1), (131, .aload_n 0, 1), (132, .getfield 24, 3), (135, .iload_n 2, 1)]
theorem daX9_plain_2 : dlX9_plain_2.all (dcK cX9_plain) = true := by decide +kernel
theorem dX9_plain_92 : decode cX9_plain 92 = .ok (.iconst (-1), 1) := dc_at daX9_plain_2 0 rfl
theorem dX9_plain_93 : decode cX9_plain 93 = .ok (.goto 7, 3) := dc_at daX9_plain_2 1 rfl
theorem dX9_plain_96 : decode cX9_plain 96 = .ok (.aload_n 0, 1) := dc_at daX9_plain_2 2 rfl
theorem dX9_plain_97 : decode cX9_plain 97 = .ok (.getfield 115, 3) := dc_at daX9_plain_2 3 rfl
theorem dX9_plain_100 : decode cX9_plain 100 = .ok (.putfield 27, 3) := dc_at daX9_plain_2 4 rfl
theorem dX9_plain_103 : decode cX9_plain 103 = .ok (.aload_n 0, 1) := dc_at daX9_plain_2 5 rfl
theorem dX9_plain_104 : decode cX9_plain 104 = .ok (.getfield 112, 3) := dc_at daX9_plain_2 6 rfl
theorem dX9_plain_107 : decode cX9_plain 107 = .ok (.ifCond .eq 11, 3) := dc_at daX9_plain_2 7 rfl
theorem dX9_plain_110 : decode cX9_plain 110 = .ok (.bipush (-30), 2) := dc_at daX9_plain_2 8 rfl
theorem dX9_plain_112 : decode cX9_plain 112 = .ok (.aload_n 0, 1) := dc_at daX9_plain_2 9 rfl
theorem dX9_plain_113 : decode cX9_plain 113 = .ok (.getfield 112, 3) := dc_at daX9_plain_2 10 rfl
theorem dX9_plain_116 : decode cX9_plain 116 = .ok (.isub, 1) := dc_at daX9_plain_2 11 rfl
theorem dX9_plain_117 : decode cX9_plain 117 = .ok (.ireturn, 1) := dc_at daX9_plain_2 12 rfl
theorem dX9_plain_118 : decode cX9_plain 118 = .ok (.iconst 0, 1) := dc_at daX9_plain_2 13 rfl
theorem dX9_plain_119 : decode cX9_plain 119 = .ok (.istore_n 2, 1) := dc_at daX9_plain_2 14 rfl
theorem dX9_plain_120 : decode cX9_plain 120 = .ok (.iload_n 2, 1) := dc_at daX9_plain_2 15 rfl
theorem dX9_plain_121 : decode cX9_plain 121 = .ok (.bipush 96, 2) := dc_at daX9_plain_2 16 rfl
theorem dX9_plain_123 : decode cX9_plain 123 = .ok (.if_icmp .ge 21, 3) := dc_at daX9_plain_2 17 rfl
theorem dX9_plain_126 : decode cX9_plain 126 = .ok (.aload_n 0, 1) := dc_at daX9_plain_2 18 rfl
theorem dX9_plain_127 : decode cX9_plain 127 = .ok (.getfield 13, 3) := dc_at daX9_plain_2 19 rfl
theorem dX9_plain_130 : decode cX9_plain 130 = .ok (.iload_n 2, 1) := dc_at daX9_plain_2 20 rfl
theorem dX9_plain_131 : decode cX9_plain 131 = .ok (.aload_n 0, 1) := dc_at daX9_plain_2 21 rfl
theorem dX9_plain_132 : decode cX9_plain 132 = .ok (.getfield 24, 3) := dc_at daX9_plain_2 22 rfl
theorem dX9_plain_135 : decode cX9_plain 135 = .ok (.iload_n 2, 1) := dc_at daX9_plain_2 23 rfl
def dlX9_plain_3 : List (Nat × Jvm.ClassFile.Instr × Nat) := [(136, .iaload, 1), (137, .iastore, 1), (138, .iinc 2 1, 3), (141, .goto (-21), 3), (144, .aload_n 0, 1), (145, .getfield 13, 3), (148, .bipush 9, 2), (150, .iaload, 1), (151, .ireturn, 1)]
theorem daX9_plain_3 : dlX9_plain_3.all (dcK cX9_plain) = true := by decide +kernel
theorem dX9_plain_136 : decode cX9_plain 136 = .ok (.iaload, 1) := dc_at daX9_plain_3 0 rfl
theorem dX9_plain_137 : decode cX9_plain 137 = .ok (.iastore, 1) := dc_at daX9_plain_3 1 rfl
theorem dX9_plain_138 : decode cX9_plain 138 = .ok (.iinc 2 1, 3) := dc_at daX9_plain_3 2 rfl
theorem dX9_plain_141 : decode cX9_plain 141 = .ok (.goto (-21), 3) := dc_at daX9_plain_3 3 rfl
theorem dX9_plain_144 : decode cX9_plain 144 = .ok (.aload_n 0, 1) := dc_at daX9_plain_3 4 rfl
theorem dX9_plain_145 : decode cX9_plain 145 = .ok (.getfield 13, 3) := dc_at daX9_plain_3 5 rfl
theorem dX9_plain_148 : decode cX9_plain 148 = .ok (.bipush 9, 2) := dc_at daX9_plain_3 6 rfl
theorem dX9_plain_150 : decode cX9_plain 150 = .ok (.iaload, 1) := dc_at daX9_plain_3 7 rfl
theorem dX9_plain_151 : decode cX9_plain 151 = .ok (.ireturn, 1) := dc_at daX9_plain_3 8 rfl
def dlX9_fault_0 : List (Nat × Jvm.ClassFile.Instr × Nat) := [(0, .aload_n 0, 1), (1, .iconst 0, 1), (2, .putfield 1, 3), (5, .iload_n 1, 1), (6, .ifCond .ne 10, 3), (9, .aload_n 0, 1), (10, .getfield 155, 3), (13, .goto 16, 3), (16, .iload_n 1, 1), (17, .iconst 1, 1), (18, .if_icmp .ne 10, 3), (21, .aload_n 0, 1), (22, .getfield 27, 3), (25, .goto 4, 3), (28, .iconst (-1), 1), (29, .ireturn, 1)]
theorem daX9_fault_0 : dlX9_fault_0.all (dcK cX9_fault) = true := by decide +kernel
theorem dX9_fault_0 : decode cX9_fault 0 = .ok (.aload_n 0, 1) := dc_at daX9_fault_0 0 rfl
theorem dX9_fault_1 : decode cX9_fault 1 = .ok (.iconst 0, 1) := dc_at daX9_fault_0 1 rfl
theorem dX9_fault_2 : decode cX9_fault 2 = .ok (.putfield 1, 3) := dc_at daX9_fault_0 2 rfl
theorem dX9_fault_5 : decode cX9_fault 5 = .ok (.iload_n 1, 1) := dc_at daX9_fault_0 3 rfl
theorem dX9_fault_6 : decode cX9_fault 6 = .ok (.ifCond .ne 10, 3) := dc_at daX9_fault_0 4 rfl
theorem dX9_fault_9 : decode cX9_fault 9 = .ok (.aload_n 0, 1) := dc_at daX9_fault_0 5 rfl
theorem dX9_fault_10 : decode cX9_fault 10 = .ok (.getfield 155, 3) := dc_at daX9_fault_0 6 rfl
theorem dX9_fault_13 : decode cX9_fault 13 = .ok (.goto 16, 3) := dc_at daX9_fault_0 7 rfl
theorem dX9_fault_16 : decode cX9_fault 16 = .ok (.iload_n 1, 1) := dc_at daX9_fault_0 8 rfl
theorem dX9_fault_17 : decode cX9_fault 17 = .ok (.iconst 1, 1) := dc_at daX9_fault_0 9 rfl
theorem dX9_fault_18 : decode cX9_fault 18 = .ok (.if_icmp .ne 10, 3) := dc_at daX9_fault_0 10 rfl
theorem dX9_fault_21 : decode cX9_fault 21 = .ok (.aload_n 0, 1) := dc_at daX9_fault_0 11 rfl
theorem dX9_fault_22 : decode cX9_fault 22 = .ok (.getfield 27, 3) := dc_at daX9_fault_0 12 rfl
theorem dX9_fault_25 : decode cX9_fault 25 = .ok (.goto 4, 3) := dc_at daX9_fault_0 13 rfl
theorem dX9_fault_28 : decode cX9_fault 28 = .ok (.iconst (-1), 1) := dc_at daX9_fault_0 14 rfl
theorem dX9_fault_29 : decode cX9_fault 29 = .ok (.ireturn, 1) := dc_at daX9_fault_0 15 rfl
def dlX9_isStrip_0 : List (Nat × Jvm.ClassFile.Instr × Nat) := [(0, .iload_n 1, 1), (1, .i2l, 1), (2, .lconst 0, 1), (3, .aload_n 0, 1), (4, .getfield 13, 3), (7, .iconst 0, 1), (8, .iaload, 1), (9, .iconst 1, 1), (10, .isub, 1), (11, .i2l, 1), (12, .invokestatic 128, 3), (15, .ireturn, 1)]
theorem daX9_isStrip_0 : dlX9_isStrip_0.all (dcK cX9_isStrip) = true := by decide +kernel
theorem dX9_isStrip_0 : decode cX9_isStrip 0 = .ok (.iload_n 1, 1) := dc_at daX9_isStrip_0 0 rfl
theorem dX9_isStrip_1 : decode cX9_isStrip 1 = .ok (.i2l, 1) := dc_at daX9_isStrip_0 1 rfl
theorem dX9_isStrip_2 : decode cX9_isStrip 2 = .ok (.lconst 0, 1) := dc_at daX9_isStrip_0 2 rfl
theorem dX9_isStrip_3 : decode cX9_isStrip 3 = .ok (.aload_n 0, 1) := dc_at daX9_isStrip_0 3 rfl
theorem dX9_isStrip_4 : decode cX9_isStrip 4 = .ok (.getfield 13, 3) := dc_at daX9_isStrip_0 4 rfl
theorem dX9_isStrip_7 : decode cX9_isStrip 7 = .ok (.iconst 0, 1) := dc_at daX9_isStrip_0 5 rfl
theorem dX9_isStrip_8 : decode cX9_isStrip 8 = .ok (.iaload, 1) := dc_at daX9_isStrip_0 6 rfl
theorem dX9_isStrip_9 : decode cX9_isStrip 9 = .ok (.iconst 1, 1) := dc_at daX9_isStrip_0 7 rfl
theorem dX9_isStrip_10 : decode cX9_isStrip 10 = .ok (.isub, 1) := dc_at daX9_isStrip_0 8 rfl
theorem dX9_isStrip_11 : decode cX9_isStrip 11 = .ok (.i2l, 1) := dc_at daX9_isStrip_0 9 rfl
theorem dX9_isStrip_12 : decode cX9_isStrip 12 = .ok (.invokestatic 128, 3) := dc_at daX9_isStrip_0 10 rfl
theorem dX9_isStrip_15 : decode cX9_isStrip 15 = .ok (.ireturn, 1) := dc_at daX9_isStrip_0 11 rfl
def dlX9_off_0 : List (Nat × Jvm.ClassFile.Instr × Nat) := [(0, .iload_n 0, 1), (1, .iload_n 1, 1), (2, .if_icmp .le 9, 3), (5, .iload_n 0, 1), (6, .iload_n 1, 1), (7, .isub, 1), (8, .goto 6, 3), (11, .iload_n 1, 1), (12, .iload_n 0, 1), (13, .isub, 1), (14, .ireturn, 1)]
theorem daX9_off_0 : dlX9_off_0.all (dcK cX9_off) = true := by decide +kernel
theorem dX9_off_0 : decode cX9_off 0 = .ok (.iload_n 0, 1) := dc_at daX9_off_0 0 rfl
theorem dX9_off_1 : decode cX9_off 1 = .ok (.iload_n 1, 1) := dc_at daX9_off_0 1 rfl
theorem dX9_off_2 : decode cX9_off 2 = .ok (.if_icmp .le 9, 3) := dc_at daX9_off_0 2 rfl
theorem dX9_off_5 : decode cX9_off 5 = .ok (.iload_n 0, 1) := dc_at daX9_off_0 3 rfl
theorem dX9_off_6 : decode cX9_off 6 = .ok (.iload_n 1, 1) := dc_at daX9_off_0 4 rfl
theorem dX9_off_7 : decode cX9_off 7 = .ok (.isub, 1) := dc_at daX9_off_0 5 rfl
theorem dX9_off_8 : decode cX9_off 8 = .ok (.goto 6, 3) := dc_at daX9_off_0 6 rfl
theorem dX9_off_11 : decode cX9_off 11 = .ok (.iload_n 1, 1) := dc_at daX9_off_0 7 rfl
theorem dX9_off_12 : decode cX9_off 12 = .ok (.iload_n 0, 1) := dc_at daX9_off_0 8 rfl
theorem dX9_off_13 : decode cX9_off 13 = .ok (.isub, 1) := dc_at daX9_off_0 9 rfl
theorem dX9_off_14 : decode cX9_off 14 = .ok (.ireturn, 1) := dc_at daX9_off_0 10 rfl
def dlX9_nearness_0 : List (Nat × Jvm.ClassFile.Instr × Nat) := [(0, .aload_n 0, 1), (1, .getfield 13, 3), (4, .iconst 4, 1), (5, .iaload, 1), (6, .aload_n 0, 1), (7, .getfield 13, 3), (10, .iconst 5, 1), (11, .iaload, 1), (12, .iload_n 1, 1), (13, .iload_n 2, 1), (14, .invokestatic 158, 3), (17, .imul, 1), (18, .isub, 1), (19, .istore_n 3, 1), (20, .iload_n 3, 1), (21, .ifCond .ge 7, 3), (24, .iconst 0, 1), (25, .goto 4, 3), (28, .iload_n 3, 1), (29, .ireturn, 1)]
theorem daX9_nearness_0 : dlX9_nearness_0.all (dcK cX9_nearness) = true := by decide +kernel
theorem dX9_nearness_0 : decode cX9_nearness 0 = .ok (.aload_n 0, 1) := dc_at daX9_nearness_0 0 rfl
theorem dX9_nearness_1 : decode cX9_nearness 1 = .ok (.getfield 13, 3) := dc_at daX9_nearness_0 1 rfl
theorem dX9_nearness_4 : decode cX9_nearness 4 = .ok (.iconst 4, 1) := dc_at daX9_nearness_0 2 rfl
theorem dX9_nearness_5 : decode cX9_nearness 5 = .ok (.iaload, 1) := dc_at daX9_nearness_0 3 rfl
theorem dX9_nearness_6 : decode cX9_nearness 6 = .ok (.aload_n 0, 1) := dc_at daX9_nearness_0 4 rfl
theorem dX9_nearness_7 : decode cX9_nearness 7 = .ok (.getfield 13, 3) := dc_at daX9_nearness_0 5 rfl
theorem dX9_nearness_10 : decode cX9_nearness 10 = .ok (.iconst 5, 1) := dc_at daX9_nearness_0 6 rfl
theorem dX9_nearness_11 : decode cX9_nearness 11 = .ok (.iaload, 1) := dc_at daX9_nearness_0 7 rfl
theorem dX9_nearness_12 : decode cX9_nearness 12 = .ok (.iload_n 1, 1) := dc_at daX9_nearness_0 8 rfl
theorem dX9_nearness_13 : decode cX9_nearness 13 = .ok (.iload_n 2, 1) := dc_at daX9_nearness_0 9 rfl
theorem dX9_nearness_14 : decode cX9_nearness 14 = .ok (.invokestatic 158, 3) := dc_at daX9_nearness_0 10 rfl
theorem dX9_nearness_17 : decode cX9_nearness 17 = .ok (.imul, 1) := dc_at daX9_nearness_0 11 rfl
theorem dX9_nearness_18 : decode cX9_nearness 18 = .ok (.isub, 1) := dc_at daX9_nearness_0 12 rfl
theorem dX9_nearness_19 : decode cX9_nearness 19 = .ok (.istore_n 3, 1) := dc_at daX9_nearness_0 13 rfl
theorem dX9_nearness_20 : decode cX9_nearness 20 = .ok (.iload_n 3, 1) := dc_at daX9_nearness_0 14 rfl
theorem dX9_nearness_21 : decode cX9_nearness 21 = .ok (.ifCond .ge 7, 3) := dc_at daX9_nearness_0 15 rfl
theorem dX9_nearness_24 : decode cX9_nearness 24 = .ok (.iconst 0, 1) := dc_at daX9_nearness_0 16 rfl
theorem dX9_nearness_25 : decode cX9_nearness 25 = .ok (.goto 4, 3) := dc_at daX9_nearness_0 17 rfl
theorem dX9_nearness_28 : decode cX9_nearness 28 = .ok (.iload_n 3, 1) := dc_at daX9_nearness_0 18 rfl
theorem dX9_nearness_29 : decode cX9_nearness 29 = .ok (.ireturn, 1) := dc_at daX9_nearness_0 19 rfl
def dlX9_isShaded_0 : List (Nat × Jvm.ClassFile.Instr × Nat) := [(0, .iload_n 1, 1), (1, .iload_n 2, 1), (2, .if_icmp .ge 7, 3), (5, .iload_n 1, 1), (6, .goto 4, 3), (9, .iload_n 2, 1), (10, .istore 4, 2), (12, .iload_n 1, 1), (13, .iload_n 2, 1), (14, .if_icmp .ge 7, 3), (17, .iload_n 2, 1), (18, .goto 4, 3), (21, .iload_n 1, 1), (22, .istore 5, 2), (24, .iload 4, 2), (26, .iconst 1, 1), (27, .iadd, 1), (28, .istore 6, 2), (30, .iload 6, 2), (32, .iload 5, 2), (34, .if_icmp .ge 38, 3), (37, .aload_n 0, 1), (38, .getfield 13, 3), (41, .bipush 48, 2)]
theorem daX9_isShaded_0 : dlX9_isShaded_0.all (dcK cX9_isShaded) = true := by decide +kernel
theorem dX9_isShaded_0 : decode cX9_isShaded 0 = .ok (.iload_n 1, 1) := dc_at daX9_isShaded_0 0 rfl
theorem dX9_isShaded_1 : decode cX9_isShaded 1 = .ok (.iload_n 2, 1) := dc_at daX9_isShaded_0 1 rfl
theorem dX9_isShaded_2 : decode cX9_isShaded 2 = .ok (.if_icmp .ge 7, 3) := dc_at daX9_isShaded_0 2 rfl
theorem dX9_isShaded_5 : decode cX9_isShaded 5 = .ok (.iload_n 1, 1) := dc_at daX9_isShaded_0 3 rfl
theorem dX9_isShaded_6 : decode cX9_isShaded 6 = .ok (.goto 4, 3) := dc_at daX9_isShaded_0 4 rfl
theorem dX9_isShaded_9 : decode cX9_isShaded 9 = .ok (.iload_n 2, 1) := dc_at daX9_isShaded_0 5 rfl
theorem dX9_isShaded_10 : decode cX9_isShaded 10 = .ok (.istore 4, 2) := dc_at daX9_isShaded_0 6 rfl
theorem dX9_isShaded_12 : decode cX9_isShaded 12 = .ok (.iload_n 1, 1) := dc_at daX9_isShaded_0 7 rfl
theorem dX9_isShaded_13 : decode cX9_isShaded 13 = .ok (.iload_n 2, 1) := dc_at daX9_isShaded_0 8 rfl
theorem dX9_isShaded_14 : decode cX9_isShaded 14 = .ok (.if_icmp .ge 7, 3) := dc_at daX9_isShaded_0 9 rfl
theorem dX9_isShaded_17 : decode cX9_isShaded 17 = .ok (.iload_n 2, 1) := dc_at daX9_isShaded_0 10 rfl
theorem dX9_isShaded_18 : decode cX9_isShaded 18 = .ok (.goto 4, 3) := dc_at daX9_isShaded_0 11 rfl
theorem dX9_isShaded_21 : decode cX9_isShaded 21 = .ok (.iload_n 1, 1) := dc_at daX9_isShaded_0 12 rfl
theorem dX9_isShaded_22 : decode cX9_isShaded 22 = .ok (.istore 5, 2) := dc_at daX9_isShaded_0 13 rfl
theorem dX9_isShaded_24 : decode cX9_isShaded 24 = .ok (.iload 4, 2) := dc_at daX9_isShaded_0 14 rfl
theorem dX9_isShaded_26 : decode cX9_isShaded 26 = .ok (.iconst 1, 1) := dc_at daX9_isShaded_0 15 rfl
theorem dX9_isShaded_27 : decode cX9_isShaded 27 = .ok (.iadd, 1) := dc_at daX9_isShaded_0 16 rfl
theorem dX9_isShaded_28 : decode cX9_isShaded 28 = .ok (.istore 6, 2) := dc_at daX9_isShaded_0 17 rfl
theorem dX9_isShaded_30 : decode cX9_isShaded 30 = .ok (.iload 6, 2) := dc_at daX9_isShaded_0 18 rfl
theorem dX9_isShaded_32 : decode cX9_isShaded 32 = .ok (.iload 5, 2) := dc_at daX9_isShaded_0 19 rfl
theorem dX9_isShaded_34 : decode cX9_isShaded 34 = .ok (.if_icmp .ge 38, 3) := dc_at daX9_isShaded_0 20 rfl
theorem dX9_isShaded_37 : decode cX9_isShaded 37 = .ok (.aload_n 0, 1) := dc_at daX9_isShaded_0 21 rfl
theorem dX9_isShaded_38 : decode cX9_isShaded 38 = .ok (.getfield 13, 3) := dc_at daX9_isShaded_0 22 rfl
theorem dX9_isShaded_41 : decode cX9_isShaded 41 = .ok (.bipush 48, 2) := dc_at daX9_isShaded_0 23 rfl
def dlX9_isShaded_1 : List (Nat × Jvm.ClassFile.Instr × Nat) := [(43, .iload 6, 2), (45, .iadd, 1), (46, .iaload, 1), (47, .iload 5, 2), (49, .iload 4, 2), (51, .isub, 1), (52, .imul, 1), (53, .iload_n 3, 1), (54, .iload 6, 2), (56, .iload_n 2, 1), (57, .invokestatic 158, 3), (60, .imul, 1), (61, .if_icmp .le 5, 3), (64, .iconst 1, 1), (65, .ireturn, 1), (66, .iinc 6 1, 3), (69, .goto (-39), 3), (72, .iconst 0, 1), (73, .ireturn, 1)]
theorem daX9_isShaded_1 : dlX9_isShaded_1.all (dcK cX9_isShaded) = true := by decide +kernel
theorem dX9_isShaded_43 : decode cX9_isShaded 43 = .ok (.iload 6, 2) := dc_at daX9_isShaded_1 0 rfl
theorem dX9_isShaded_45 : decode cX9_isShaded 45 = .ok (.iadd, 1) := dc_at daX9_isShaded_1 1 rfl
theorem dX9_isShaded_46 : decode cX9_isShaded 46 = .ok (.iaload, 1) := dc_at daX9_isShaded_1 2 rfl
theorem dX9_isShaded_47 : decode cX9_isShaded 47 = .ok (.iload 5, 2) := dc_at daX9_isShaded_1 3 rfl
theorem dX9_isShaded_49 : decode cX9_isShaded 49 = .ok (.iload 4, 2) := dc_at daX9_isShaded_1 4 rfl
theorem dX9_isShaded_51 : decode cX9_isShaded 51 = .ok (.isub, 1) := dc_at daX9_isShaded_1 5 rfl
theorem dX9_isShaded_52 : decode cX9_isShaded 52 = .ok (.imul, 1) := dc_at daX9_isShaded_1 6 rfl
theorem dX9_isShaded_53 : decode cX9_isShaded 53 = .ok (.iload_n 3, 1) := dc_at daX9_isShaded_1 7 rfl
theorem dX9_isShaded_54 : decode cX9_isShaded 54 = .ok (.iload 6, 2) := dc_at daX9_isShaded_1 8 rfl
theorem dX9_isShaded_56 : decode cX9_isShaded 56 = .ok (.iload_n 2, 1) := dc_at daX9_isShaded_1 9 rfl
theorem dX9_isShaded_57 : decode cX9_isShaded 57 = .ok (.invokestatic 158, 3) := dc_at daX9_isShaded_1 10 rfl
theorem dX9_isShaded_60 : decode cX9_isShaded 60 = .ok (.imul, 1) := dc_at daX9_isShaded_1 11 rfl
theorem dX9_isShaded_61 : decode cX9_isShaded 61 = .ok (.if_icmp .le 5, 3) := dc_at daX9_isShaded_1 12 rfl
theorem dX9_isShaded_64 : decode cX9_isShaded 64 = .ok (.iconst 1, 1) := dc_at daX9_isShaded_1 13 rfl
theorem dX9_isShaded_65 : decode cX9_isShaded 65 = .ok (.ireturn, 1) := dc_at daX9_isShaded_1 14 rfl
theorem dX9_isShaded_66 : decode cX9_isShaded 66 = .ok (.iinc 6 1, 3) := dc_at daX9_isShaded_1 15 rfl
theorem dX9_isShaded_69 : decode cX9_isShaded 69 = .ok (.goto (-39), 3) := dc_at daX9_isShaded_1 16 rfl
theorem dX9_isShaded_72 : decode cX9_isShaded 72 = .ok (.iconst 0, 1) := dc_at daX9_isShaded_1 17 rfl
theorem dX9_isShaded_73 : decode cX9_isShaded 73 = .ok (.ireturn, 1) := dc_at daX9_isShaded_1 18 rfl
def dlX9_lightBy_0 : List (Nat × Jvm.ClassFile.Instr × Nat) := [(0, .aload_n 0, 1), (1, .iload_n 1, 1), (2, .iload_n 2, 1), (3, .iload_n 3, 1), (4, .invokevirtual 161, 3), (7, .ifCond .eq 7, 3), (10, .iconst 0, 1), (11, .goto 9, 3), (14, .aload_n 0, 1), (15, .iload_n 1, 1), (16, .iload_n 2, 1), (17, .invokevirtual 165, 3), (20, .ireturn, 1)]
theorem daX9_lightBy_0 : dlX9_lightBy_0.all (dcK cX9_lightBy) = true := by decide +kernel
theorem dX9_lightBy_0 : decode cX9_lightBy 0 = .ok (.aload_n 0, 1) := dc_at daX9_lightBy_0 0 rfl
theorem dX9_lightBy_1 : decode cX9_lightBy 1 = .ok (.iload_n 1, 1) := dc_at daX9_lightBy_0 1 rfl
theorem dX9_lightBy_2 : decode cX9_lightBy 2 = .ok (.iload_n 2, 1) := dc_at daX9_lightBy_0 2 rfl
theorem dX9_lightBy_3 : decode cX9_lightBy 3 = .ok (.iload_n 3, 1) := dc_at daX9_lightBy_0 3 rfl
theorem dX9_lightBy_4 : decode cX9_lightBy 4 = .ok (.invokevirtual 161, 3) := dc_at daX9_lightBy_0 4 rfl
theorem dX9_lightBy_7 : decode cX9_lightBy 7 = .ok (.ifCond .eq 7, 3) := dc_at daX9_lightBy_0 5 rfl
theorem dX9_lightBy_10 : decode cX9_lightBy 10 = .ok (.iconst 0, 1) := dc_at daX9_lightBy_0 6 rfl
theorem dX9_lightBy_11 : decode cX9_lightBy 11 = .ok (.goto 9, 3) := dc_at daX9_lightBy_0 7 rfl
theorem dX9_lightBy_14 : decode cX9_lightBy 14 = .ok (.aload_n 0, 1) := dc_at daX9_lightBy_0 8 rfl
theorem dX9_lightBy_15 : decode cX9_lightBy 15 = .ok (.iload_n 1, 1) := dc_at daX9_lightBy_0 9 rfl
theorem dX9_lightBy_16 : decode cX9_lightBy 16 = .ok (.iload_n 2, 1) := dc_at daX9_lightBy_0 10 rfl
theorem dX9_lightBy_17 : decode cX9_lightBy 17 = .ok (.invokevirtual 165, 3) := dc_at daX9_lightBy_0 11 rfl
theorem dX9_lightBy_20 : decode cX9_lightBy 20 = .ok (.ireturn, 1) := dc_at daX9_lightBy_0 12 rfl
def dlX9_lightOf_0 : List (Nat × Jvm.ClassFile.Instr × Nat) := [(0, .aload_n 0, 1), (1, .iload_n 1, 1), (2, .iload_n 2, 1), (3, .aload_n 0, 1), (4, .getfield 13, 3), (7, .iconst 3, 1), (8, .iaload, 1), (9, .invokevirtual 168, 3), (12, .ireturn, 1)]
theorem daX9_lightOf_0 : dlX9_lightOf_0.all (dcK cX9_lightOf) = true := by decide +kernel
theorem dX9_lightOf_0 : decode cX9_lightOf 0 = .ok (.aload_n 0, 1) := dc_at daX9_lightOf_0 0 rfl
theorem dX9_lightOf_1 : decode cX9_lightOf 1 = .ok (.iload_n 1, 1) := dc_at daX9_lightOf_0 1 rfl
theorem dX9_lightOf_2 : decode cX9_lightOf 2 = .ok (.iload_n 2, 1) := dc_at daX9_lightOf_0 2 rfl
theorem dX9_lightOf_3 : decode cX9_lightOf 3 = .ok (.aload_n 0, 1) := dc_at daX9_lightOf_0 3 rfl
theorem dX9_lightOf_4 : decode cX9_lightOf 4 = .ok (.getfield 13, 3) := dc_at daX9_lightOf_0 4 rfl
theorem dX9_lightOf_7 : decode cX9_lightOf 7 = .ok (.iconst 3, 1) := dc_at daX9_lightOf_0 5 rfl
theorem dX9_lightOf_8 : decode cX9_lightOf 8 = .ok (.iaload, 1) := dc_at daX9_lightOf_0 6 rfl
theorem dX9_lightOf_9 : decode cX9_lightOf 9 = .ok (.invokevirtual 168, 3) := dc_at daX9_lightOf_0 7 rfl
theorem dX9_lightOf_12 : decode cX9_lightOf 12 = .ok (.ireturn, 1) := dc_at daX9_lightOf_0 8 rfl
def dlX9_strip_0 : List (Nat × Jvm.ClassFile.Instr × Nat) := [(0, .aload_n 0, 1), (1, .iconst 0, 1), (2, .putfield 1, 3), (5, .aload_n 0, 1), (6, .iload_n 1, 1), (7, .invokevirtual 172, 3), (10, .ifCond .eq 15, 3), (13, .iload_n 2, 1), (14, .i2l, 1), (15, .lconst 0, 1), (16, .ldc2_w 175, 3), (19, .invokestatic 128, 3), (22, .ifCond .ne 6, 3), (25, .bipush (-2), 2), (27, .ireturn, 1), (28, .iload_n 2, 1), (29, .iconst 5, 1), (30, .if_icmp .ne 17, 3), (33, .aload_n 0, 1), (34, .aload_n 0, 1), (35, .getfield 13, 3), (38, .iconst 2, 1), (39, .iaload, 1), (40, .iload_n 1, 1)]
theorem daX9_strip_0 : dlX9_strip_0.all (dcK cX9_strip) = true := by decide +kernel
theorem dX9_strip_0 : decode cX9_strip 0 = .ok (.aload_n 0, 1) := dc_at daX9_strip_0 0 rfl
theorem dX9_strip_1 : decode cX9_strip 1 = .ok (.iconst 0, 1) := dc_at daX9_strip_0 1 rfl
theorem dX9_strip_2 : decode cX9_strip 2 = .ok (.putfield 1, 3) := dc_at daX9_strip_0 2 rfl
theorem dX9_strip_5 : decode cX9_strip 5 = .ok (.aload_n 0, 1) := dc_at daX9_strip_0 3 rfl
theorem dX9_strip_6 : decode cX9_strip 6 = .ok (.iload_n 1, 1) := dc_at daX9_strip_0 4 rfl
theorem dX9_strip_7 : decode cX9_strip 7 = .ok (.invokevirtual 172, 3) := dc_at daX9_strip_0 5 rfl
theorem dX9_strip_10 : decode cX9_strip 10 = .ok (.ifCond .eq 15, 3) := dc_at daX9_strip_0 6 rfl
theorem dX9_strip_13 : decode cX9_strip 13 = .ok (.iload_n 2, 1) := dc_at daX9_strip_0 7 rfl
theorem dX9_strip_14 : decode cX9_strip 14 = .ok (.i2l, 1) := dc_at daX9_strip_0 8 rfl
theorem dX9_strip_15 : decode cX9_strip 15 = .ok (.lconst 0, 1) := dc_at daX9_strip_0 9 rfl
theorem dX9_strip_16 : decode cX9_strip 16 = .ok (.ldc2_w 175, 3) := dc_at daX9_strip_0 10 rfl
theorem dX9_strip_19 : decode cX9_strip 19 = .ok (.invokestatic 128, 3) := dc_at daX9_strip_0 11 rfl
theorem dX9_strip_22 : decode cX9_strip 22 = .ok (.ifCond .ne 6, 3) := dc_at daX9_strip_0 12 rfl
theorem dX9_strip_25 : decode cX9_strip 25 = .ok (.bipush (-2), 2) := dc_at daX9_strip_0 13 rfl
theorem dX9_strip_27 : decode cX9_strip 27 = .ok (.ireturn, 1) := dc_at daX9_strip_0 14 rfl
theorem dX9_strip_28 : decode cX9_strip 28 = .ok (.iload_n 2, 1) := dc_at daX9_strip_0 15 rfl
theorem dX9_strip_29 : decode cX9_strip 29 = .ok (.iconst 5, 1) := dc_at daX9_strip_0 16 rfl
theorem dX9_strip_30 : decode cX9_strip 30 = .ok (.if_icmp .ne 17, 3) := dc_at daX9_strip_0 17 rfl
theorem dX9_strip_33 : decode cX9_strip 33 = .ok (.aload_n 0, 1) := dc_at daX9_strip_0 18 rfl
theorem dX9_strip_34 : decode cX9_strip 34 = .ok (.aload_n 0, 1) := dc_at daX9_strip_0 19 rfl
theorem dX9_strip_35 : decode cX9_strip 35 = .ok (.getfield 13, 3) := dc_at daX9_strip_0 20 rfl
theorem dX9_strip_38 : decode cX9_strip 38 = .ok (.iconst 2, 1) := dc_at daX9_strip_0 21 rfl
theorem dX9_strip_39 : decode cX9_strip 39 = .ok (.iaload, 1) := dc_at daX9_strip_0 22 rfl
theorem dX9_strip_40 : decode cX9_strip 40 = .ok (.iload_n 1, 1) := dc_at daX9_strip_0 23 rfl
def dlX9_strip_1 : List (Nat × Jvm.ClassFile.Instr × Nat) := [(41, .invokevirtual 177, 3), (44, .goto 17, 3), (47, .aload_n 0, 1), (48, .getfield 13, 3), (51, .bipush 16, 2), (53, .bipush 16, 2), (55, .iload_n 2, 1), (56, .imul, 1), (57, .iadd, 1), (58, .iload_n 1, 1), (59, .iadd, 1), (60, .iaload, 1), (61, .ireturn, 1)]
theorem daX9_strip_1 : dlX9_strip_1.all (dcK cX9_strip) = true := by decide +kernel
theorem dX9_strip_41 : decode cX9_strip 41 = .ok (.invokevirtual 177, 3) := dc_at daX9_strip_1 0 rfl
theorem dX9_strip_44 : decode cX9_strip 44 = .ok (.goto 17, 3) := dc_at daX9_strip_1 1 rfl
theorem dX9_strip_47 : decode cX9_strip 47 = .ok (.aload_n 0, 1) := dc_at daX9_strip_1 2 rfl
theorem dX9_strip_48 : decode cX9_strip 48 = .ok (.getfield 13, 3) := dc_at daX9_strip_1 3 rfl
theorem dX9_strip_51 : decode cX9_strip 51 = .ok (.bipush 16, 2) := dc_at daX9_strip_1 4 rfl
theorem dX9_strip_53 : decode cX9_strip 53 = .ok (.bipush 16, 2) := dc_at daX9_strip_1 5 rfl
theorem dX9_strip_55 : decode cX9_strip 55 = .ok (.iload_n 2, 1) := dc_at daX9_strip_1 6 rfl
theorem dX9_strip_56 : decode cX9_strip 56 = .ok (.imul, 1) := dc_at daX9_strip_1 7 rfl
theorem dX9_strip_57 : decode cX9_strip 57 = .ok (.iadd, 1) := dc_at daX9_strip_1 8 rfl
theorem dX9_strip_58 : decode cX9_strip 58 = .ok (.iload_n 1, 1) := dc_at daX9_strip_1 9 rfl
theorem dX9_strip_59 : decode cX9_strip 59 = .ok (.iadd, 1) := dc_at daX9_strip_1 10 rfl
theorem dX9_strip_60 : decode cX9_strip 60 = .ok (.iaload, 1) := dc_at daX9_strip_1 11 rfl
theorem dX9_strip_61 : decode cX9_strip 61 = .ok (.ireturn, 1) := dc_at daX9_strip_1 12 rfl
def dlX9_ofFarm_0 : List (Nat × Jvm.ClassFile.Instr × Nat) := [(0, .iconst 0, 1), (1, .istore_n 3, 1), (2, .iconst 0, 1), (3, .istore 4, 2), (5, .iload 4, 2), (7, .aload_n 0, 1), (8, .getfield 13, 3), (11, .iconst 0, 1), (12, .iaload, 1), (13, .if_icmp .ge 39, 3), (16, .iload_n 3, 1), (17, .aload_n 0, 1), (18, .getfield 13, 3), (21, .bipush 64, 2), (23, .iload 4, 2), (25, .iadd, 1), (26, .iaload, 1), (27, .iload_n 1, 1), (28, .if_icmp .ne 15, 3), (31, .aload_n 0, 1), (32, .getfield 13, 3), (35, .iload_n 2, 1), (36, .iload 4, 2), (38, .iadd, 1)]
theorem daX9_ofFarm_0 : dlX9_ofFarm_0.all (dcK cX9_ofFarm) = true := by decide +kernel
theorem dX9_ofFarm_0 : decode cX9_ofFarm 0 = .ok (.iconst 0, 1) := dc_at daX9_ofFarm_0 0 rfl
theorem dX9_ofFarm_1 : decode cX9_ofFarm 1 = .ok (.istore_n 3, 1) := dc_at daX9_ofFarm_0 1 rfl
theorem dX9_ofFarm_2 : decode cX9_ofFarm 2 = .ok (.iconst 0, 1) := dc_at daX9_ofFarm_0 2 rfl
theorem dX9_ofFarm_3 : decode cX9_ofFarm 3 = .ok (.istore 4, 2) := dc_at daX9_ofFarm_0 3 rfl
theorem dX9_ofFarm_5 : decode cX9_ofFarm 5 = .ok (.iload 4, 2) := dc_at daX9_ofFarm_0 4 rfl
theorem dX9_ofFarm_7 : decode cX9_ofFarm 7 = .ok (.aload_n 0, 1) := dc_at daX9_ofFarm_0 5 rfl
theorem dX9_ofFarm_8 : decode cX9_ofFarm 8 = .ok (.getfield 13, 3) := dc_at daX9_ofFarm_0 6 rfl
theorem dX9_ofFarm_11 : decode cX9_ofFarm 11 = .ok (.iconst 0, 1) := dc_at daX9_ofFarm_0 7 rfl
theorem dX9_ofFarm_12 : decode cX9_ofFarm 12 = .ok (.iaload, 1) := dc_at daX9_ofFarm_0 8 rfl
theorem dX9_ofFarm_13 : decode cX9_ofFarm 13 = .ok (.if_icmp .ge 39, 3) := dc_at daX9_ofFarm_0 9 rfl
theorem dX9_ofFarm_16 : decode cX9_ofFarm 16 = .ok (.iload_n 3, 1) := dc_at daX9_ofFarm_0 10 rfl
theorem dX9_ofFarm_17 : decode cX9_ofFarm 17 = .ok (.aload_n 0, 1) := dc_at daX9_ofFarm_0 11 rfl
theorem dX9_ofFarm_18 : decode cX9_ofFarm 18 = .ok (.getfield 13, 3) := dc_at daX9_ofFarm_0 12 rfl
theorem dX9_ofFarm_21 : decode cX9_ofFarm 21 = .ok (.bipush 64, 2) := dc_at daX9_ofFarm_0 13 rfl
theorem dX9_ofFarm_23 : decode cX9_ofFarm 23 = .ok (.iload 4, 2) := dc_at daX9_ofFarm_0 14 rfl
theorem dX9_ofFarm_25 : decode cX9_ofFarm 25 = .ok (.iadd, 1) := dc_at daX9_ofFarm_0 15 rfl
theorem dX9_ofFarm_26 : decode cX9_ofFarm 26 = .ok (.iaload, 1) := dc_at daX9_ofFarm_0 16 rfl
theorem dX9_ofFarm_27 : decode cX9_ofFarm 27 = .ok (.iload_n 1, 1) := dc_at daX9_ofFarm_0 17 rfl
theorem dX9_ofFarm_28 : decode cX9_ofFarm 28 = .ok (.if_icmp .ne 15, 3) := dc_at daX9_ofFarm_0 18 rfl
theorem dX9_ofFarm_31 : decode cX9_ofFarm 31 = .ok (.aload_n 0, 1) := dc_at daX9_ofFarm_0 19 rfl
theorem dX9_ofFarm_32 : decode cX9_ofFarm 32 = .ok (.getfield 13, 3) := dc_at daX9_ofFarm_0 20 rfl
theorem dX9_ofFarm_35 : decode cX9_ofFarm 35 = .ok (.iload_n 2, 1) := dc_at daX9_ofFarm_0 21 rfl
theorem dX9_ofFarm_36 : decode cX9_ofFarm 36 = .ok (.iload 4, 2) := dc_at daX9_ofFarm_0 22 rfl
theorem dX9_ofFarm_38 : decode cX9_ofFarm 38 = .ok (.iadd, 1) := dc_at daX9_ofFarm_0 23 rfl
def dlX9_ofFarm_1 : List (Nat × Jvm.ClassFile.Instr × Nat) := [(39, .iaload, 1), (40, .goto 4, 3), (43, .iconst 0, 1), (44, .iadd, 1), (45, .istore_n 3, 1), (46, .iinc 4 1, 3), (49, .goto (-44), 3), (52, .iload_n 3, 1), (53, .ireturn, 1)]
theorem daX9_ofFarm_1 : dlX9_ofFarm_1.all (dcK cX9_ofFarm) = true := by decide +kernel
theorem dX9_ofFarm_39 : decode cX9_ofFarm 39 = .ok (.iaload, 1) := dc_at daX9_ofFarm_1 0 rfl
theorem dX9_ofFarm_40 : decode cX9_ofFarm 40 = .ok (.goto 4, 3) := dc_at daX9_ofFarm_1 1 rfl
theorem dX9_ofFarm_43 : decode cX9_ofFarm 43 = .ok (.iconst 0, 1) := dc_at daX9_ofFarm_1 2 rfl
theorem dX9_ofFarm_44 : decode cX9_ofFarm 44 = .ok (.iadd, 1) := dc_at daX9_ofFarm_1 3 rfl
theorem dX9_ofFarm_45 : decode cX9_ofFarm 45 = .ok (.istore_n 3, 1) := dc_at daX9_ofFarm_1 4 rfl
theorem dX9_ofFarm_46 : decode cX9_ofFarm 46 = .ok (.iinc 4 1, 3) := dc_at daX9_ofFarm_1 5 rfl
theorem dX9_ofFarm_49 : decode cX9_ofFarm 49 = .ok (.goto (-44), 3) := dc_at daX9_ofFarm_1 6 rfl
theorem dX9_ofFarm_52 : decode cX9_ofFarm 52 = .ok (.iload_n 3, 1) := dc_at daX9_ofFarm_1 7 rfl
theorem dX9_ofFarm_53 : decode cX9_ofFarm 53 = .ok (.ireturn, 1) := dc_at daX9_ofFarm_1 8 rfl
def dlX9_stripsOf_0 : List (Nat × Jvm.ClassFile.Instr × Nat) := [(0, .iconst 0, 1), (1, .istore_n 2, 1), (2, .iconst 0, 1), (3, .istore_n 3, 1), (4, .iload_n 3, 1), (5, .aload_n 0, 1), (6, .getfield 13, 3), (9, .iconst 0, 1), (10, .iaload, 1), (11, .if_icmp .ge 32, 3), (14, .iload_n 2, 1), (15, .aload_n 0, 1), (16, .getfield 13, 3), (19, .bipush 64, 2), (21, .iload_n 3, 1), (22, .iadd, 1), (23, .iaload, 1), (24, .iload_n 1, 1), (25, .if_icmp .ne 9, 3), (28, .iconst 1, 1), (29, .iload_n 3, 1), (30, .ishl, 1), (31, .goto 4, 3), (34, .iconst 0, 1)]
theorem daX9_stripsOf_0 : dlX9_stripsOf_0.all (dcK cX9_stripsOf) = true := by decide +kernel
theorem dX9_stripsOf_0 : decode cX9_stripsOf 0 = .ok (.iconst 0, 1) := dc_at daX9_stripsOf_0 0 rfl
theorem dX9_stripsOf_1 : decode cX9_stripsOf 1 = .ok (.istore_n 2, 1) := dc_at daX9_stripsOf_0 1 rfl
theorem dX9_stripsOf_2 : decode cX9_stripsOf 2 = .ok (.iconst 0, 1) := dc_at daX9_stripsOf_0 2 rfl
theorem dX9_stripsOf_3 : decode cX9_stripsOf 3 = .ok (.istore_n 3, 1) := dc_at daX9_stripsOf_0 3 rfl
theorem dX9_stripsOf_4 : decode cX9_stripsOf 4 = .ok (.iload_n 3, 1) := dc_at daX9_stripsOf_0 4 rfl
theorem dX9_stripsOf_5 : decode cX9_stripsOf 5 = .ok (.aload_n 0, 1) := dc_at daX9_stripsOf_0 5 rfl
theorem dX9_stripsOf_6 : decode cX9_stripsOf 6 = .ok (.getfield 13, 3) := dc_at daX9_stripsOf_0 6 rfl
theorem dX9_stripsOf_9 : decode cX9_stripsOf 9 = .ok (.iconst 0, 1) := dc_at daX9_stripsOf_0 7 rfl
theorem dX9_stripsOf_10 : decode cX9_stripsOf 10 = .ok (.iaload, 1) := dc_at daX9_stripsOf_0 8 rfl
theorem dX9_stripsOf_11 : decode cX9_stripsOf 11 = .ok (.if_icmp .ge 32, 3) := dc_at daX9_stripsOf_0 9 rfl
theorem dX9_stripsOf_14 : decode cX9_stripsOf 14 = .ok (.iload_n 2, 1) := dc_at daX9_stripsOf_0 10 rfl
theorem dX9_stripsOf_15 : decode cX9_stripsOf 15 = .ok (.aload_n 0, 1) := dc_at daX9_stripsOf_0 11 rfl
theorem dX9_stripsOf_16 : decode cX9_stripsOf 16 = .ok (.getfield 13, 3) := dc_at daX9_stripsOf_0 12 rfl
theorem dX9_stripsOf_19 : decode cX9_stripsOf 19 = .ok (.bipush 64, 2) := dc_at daX9_stripsOf_0 13 rfl
theorem dX9_stripsOf_21 : decode cX9_stripsOf 21 = .ok (.iload_n 3, 1) := dc_at daX9_stripsOf_0 14 rfl
theorem dX9_stripsOf_22 : decode cX9_stripsOf 22 = .ok (.iadd, 1) := dc_at daX9_stripsOf_0 15 rfl
theorem dX9_stripsOf_23 : decode cX9_stripsOf 23 = .ok (.iaload, 1) := dc_at daX9_stripsOf_0 16 rfl
theorem dX9_stripsOf_24 : decode cX9_stripsOf 24 = .ok (.iload_n 1, 1) := dc_at daX9_stripsOf_0 17 rfl
theorem dX9_stripsOf_25 : decode cX9_stripsOf 25 = .ok (.if_icmp .ne 9, 3) := dc_at daX9_stripsOf_0 18 rfl
theorem dX9_stripsOf_28 : decode cX9_stripsOf 28 = .ok (.iconst 1, 1) := dc_at daX9_stripsOf_0 19 rfl
theorem dX9_stripsOf_29 : decode cX9_stripsOf 29 = .ok (.iload_n 3, 1) := dc_at daX9_stripsOf_0 20 rfl
theorem dX9_stripsOf_30 : decode cX9_stripsOf 30 = .ok (.ishl, 1) := dc_at daX9_stripsOf_0 21 rfl
theorem dX9_stripsOf_31 : decode cX9_stripsOf 31 = .ok (.goto 4, 3) := dc_at daX9_stripsOf_0 22 rfl
theorem dX9_stripsOf_34 : decode cX9_stripsOf 34 = .ok (.iconst 0, 1) := dc_at daX9_stripsOf_0 23 rfl
def dlX9_stripsOf_1 : List (Nat × Jvm.ClassFile.Instr × Nat) := [(35, .ior, 1), (36, .istore_n 2, 1), (37, .iinc 3 1, 3), (40, .goto (-36), 3), (43, .iload_n 2, 1), (44, .ireturn, 1)]
theorem daX9_stripsOf_1 : dlX9_stripsOf_1.all (dcK cX9_stripsOf) = true := by decide +kernel
theorem dX9_stripsOf_35 : decode cX9_stripsOf 35 = .ok (.ior, 1) := dc_at daX9_stripsOf_1 0 rfl
theorem dX9_stripsOf_36 : decode cX9_stripsOf 36 = .ok (.istore_n 2, 1) := dc_at daX9_stripsOf_1 1 rfl
theorem dX9_stripsOf_37 : decode cX9_stripsOf 37 = .ok (.iinc 3 1, 3) := dc_at daX9_stripsOf_1 2 rfl
theorem dX9_stripsOf_40 : decode cX9_stripsOf 40 = .ok (.goto (-36), 3) := dc_at daX9_stripsOf_1 3 rfl
theorem dX9_stripsOf_43 : decode cX9_stripsOf 43 = .ok (.iload_n 2, 1) := dc_at daX9_stripsOf_1 4 rfl
theorem dX9_stripsOf_44 : decode cX9_stripsOf 44 = .ok (.ireturn, 1) := dc_at daX9_stripsOf_1 5 rfl
def dlX9_farm_0 : List (Nat × Jvm.ClassFile.Instr × Nat) := [(0, .aload_n 0, 1), (1, .iconst 0, 1), (2, .putfield 1, 3), (5, .iload_n 1, 1), (6, .i2l, 1), (7, .lconst 0, 1), (8, .ldc2_w 175, 3), (11, .invokestatic 128, 3), (14, .ifCond .eq 15, 3), (17, .iload_n 2, 1), (18, .i2l, 1), (19, .lconst 0, 1), (20, .ldc2_w 180, 3), (23, .invokestatic 128, 3), (26, .ifCond .ne 6, 3), (29, .bipush (-2), 2), (31, .ireturn, 1), (32, .iload_n 2, 1), (33, .ifCond .ne 13, 3), (36, .aload_n 0, 1), (37, .iload_n 1, 1), (38, .bipush 80, 2), (40, .invokevirtual 182, 3), (43, .goto 40, 3)]
theorem daX9_farm_0 : dlX9_farm_0.all (dcK cX9_farm) = true := by decide +kernel
theorem dX9_farm_0 : decode cX9_farm 0 = .ok (.aload_n 0, 1) := dc_at daX9_farm_0 0 rfl
theorem dX9_farm_1 : decode cX9_farm 1 = .ok (.iconst 0, 1) := dc_at daX9_farm_0 1 rfl
theorem dX9_farm_2 : decode cX9_farm 2 = .ok (.putfield 1, 3) := dc_at daX9_farm_0 2 rfl
theorem dX9_farm_5 : decode cX9_farm 5 = .ok (.iload_n 1, 1) := dc_at daX9_farm_0 3 rfl
theorem dX9_farm_6 : decode cX9_farm 6 = .ok (.i2l, 1) := dc_at daX9_farm_0 4 rfl
theorem dX9_farm_7 : decode cX9_farm 7 = .ok (.lconst 0, 1) := dc_at daX9_farm_0 5 rfl
theorem dX9_farm_8 : decode cX9_farm 8 = .ok (.ldc2_w 175, 3) := dc_at daX9_farm_0 6 rfl
theorem dX9_farm_11 : decode cX9_farm 11 = .ok (.invokestatic 128, 3) := dc_at daX9_farm_0 7 rfl
theorem dX9_farm_14 : decode cX9_farm 14 = .ok (.ifCond .eq 15, 3) := dc_at daX9_farm_0 8 rfl
theorem dX9_farm_17 : decode cX9_farm 17 = .ok (.iload_n 2, 1) := dc_at daX9_farm_0 9 rfl
theorem dX9_farm_18 : decode cX9_farm 18 = .ok (.i2l, 1) := dc_at daX9_farm_0 10 rfl
theorem dX9_farm_19 : decode cX9_farm 19 = .ok (.lconst 0, 1) := dc_at daX9_farm_0 11 rfl
theorem dX9_farm_20 : decode cX9_farm 20 = .ok (.ldc2_w 180, 3) := dc_at daX9_farm_0 12 rfl
theorem dX9_farm_23 : decode cX9_farm 23 = .ok (.invokestatic 128, 3) := dc_at daX9_farm_0 13 rfl
theorem dX9_farm_26 : decode cX9_farm 26 = .ok (.ifCond .ne 6, 3) := dc_at daX9_farm_0 14 rfl
theorem dX9_farm_29 : decode cX9_farm 29 = .ok (.bipush (-2), 2) := dc_at daX9_farm_0 15 rfl
theorem dX9_farm_31 : decode cX9_farm 31 = .ok (.ireturn, 1) := dc_at daX9_farm_0 16 rfl
theorem dX9_farm_32 : decode cX9_farm 32 = .ok (.iload_n 2, 1) := dc_at daX9_farm_0 17 rfl
theorem dX9_farm_33 : decode cX9_farm 33 = .ok (.ifCond .ne 13, 3) := dc_at daX9_farm_0 18 rfl
theorem dX9_farm_36 : decode cX9_farm 36 = .ok (.aload_n 0, 1) := dc_at daX9_farm_0 19 rfl
theorem dX9_farm_37 : decode cX9_farm 37 = .ok (.iload_n 1, 1) := dc_at daX9_farm_0 20 rfl
theorem dX9_farm_38 : decode cX9_farm 38 = .ok (.bipush 80, 2) := dc_at daX9_farm_0 21 rfl
theorem dX9_farm_40 : decode cX9_farm 40 = .ok (.invokevirtual 182, 3) := dc_at daX9_farm_0 22 rfl
theorem dX9_farm_43 : decode cX9_farm 43 = .ok (.goto 40, 3) := dc_at daX9_farm_0 23 rfl
def dlX9_farm_1 : List (Nat × Jvm.ClassFile.Instr × Nat) := [(46, .iload_n 2, 1), (47, .iconst 1, 1), (48, .if_icmp .ne 13, 3), (51, .aload_n 0, 1), (52, .iload_n 1, 1), (53, .bipush 16, 2), (55, .invokevirtual 182, 3), (58, .goto 25, 3), (61, .iload_n 2, 1), (62, .iconst 2, 1), (63, .if_icmp .ne 15, 3), (66, .aload_n 0, 1), (67, .getfield 13, 3), (70, .bipush 10, 2), (72, .iload_n 1, 1), (73, .iadd, 1), (74, .iaload, 1), (75, .goto 8, 3), (78, .aload_n 0, 1), (79, .iload_n 1, 1), (80, .invokevirtual 185, 3), (83, .ireturn, 1)]
theorem daX9_farm_1 : dlX9_farm_1.all (dcK cX9_farm) = true := by decide +kernel
theorem dX9_farm_46 : decode cX9_farm 46 = .ok (.iload_n 2, 1) := dc_at daX9_farm_1 0 rfl
theorem dX9_farm_47 : decode cX9_farm 47 = .ok (.iconst 1, 1) := dc_at daX9_farm_1 1 rfl
theorem dX9_farm_48 : decode cX9_farm 48 = .ok (.if_icmp .ne 13, 3) := dc_at daX9_farm_1 2 rfl
theorem dX9_farm_51 : decode cX9_farm 51 = .ok (.aload_n 0, 1) := dc_at daX9_farm_1 3 rfl
theorem dX9_farm_52 : decode cX9_farm 52 = .ok (.iload_n 1, 1) := dc_at daX9_farm_1 4 rfl
theorem dX9_farm_53 : decode cX9_farm 53 = .ok (.bipush 16, 2) := dc_at daX9_farm_1 5 rfl
theorem dX9_farm_55 : decode cX9_farm 55 = .ok (.invokevirtual 182, 3) := dc_at daX9_farm_1 6 rfl
theorem dX9_farm_58 : decode cX9_farm 58 = .ok (.goto 25, 3) := dc_at daX9_farm_1 7 rfl
theorem dX9_farm_61 : decode cX9_farm 61 = .ok (.iload_n 2, 1) := dc_at daX9_farm_1 8 rfl
theorem dX9_farm_62 : decode cX9_farm 62 = .ok (.iconst 2, 1) := dc_at daX9_farm_1 9 rfl
theorem dX9_farm_63 : decode cX9_farm 63 = .ok (.if_icmp .ne 15, 3) := dc_at daX9_farm_1 10 rfl
theorem dX9_farm_66 : decode cX9_farm 66 = .ok (.aload_n 0, 1) := dc_at daX9_farm_1 11 rfl
theorem dX9_farm_67 : decode cX9_farm 67 = .ok (.getfield 13, 3) := dc_at daX9_farm_1 12 rfl
theorem dX9_farm_70 : decode cX9_farm 70 = .ok (.bipush 10, 2) := dc_at daX9_farm_1 13 rfl
theorem dX9_farm_72 : decode cX9_farm 72 = .ok (.iload_n 1, 1) := dc_at daX9_farm_1 14 rfl
theorem dX9_farm_73 : decode cX9_farm 73 = .ok (.iadd, 1) := dc_at daX9_farm_1 15 rfl
theorem dX9_farm_74 : decode cX9_farm 74 = .ok (.iaload, 1) := dc_at daX9_farm_1 16 rfl
theorem dX9_farm_75 : decode cX9_farm 75 = .ok (.goto 8, 3) := dc_at daX9_farm_1 17 rfl
theorem dX9_farm_78 : decode cX9_farm 78 = .ok (.aload_n 0, 1) := dc_at daX9_farm_1 18 rfl
theorem dX9_farm_79 : decode cX9_farm 79 = .ok (.iload_n 1, 1) := dc_at daX9_farm_1 19 rfl
theorem dX9_farm_80 : decode cX9_farm 80 = .ok (.invokevirtual 185, 3) := dc_at daX9_farm_1 20 rfl
theorem dX9_farm_83 : decode cX9_farm 83 = .ok (.ireturn, 1) := dc_at daX9_farm_1 21 rfl
def dlX9_light_0 : List (Nat × Jvm.ClassFile.Instr × Nat) := [(0, .aload_n 0, 1), (1, .iconst 0, 1), (2, .putfield 1, 3), (5, .aload_n 0, 1), (6, .iload_n 1, 1), (7, .invokevirtual 172, 3), (10, .ifCond .eq 20, 3), (13, .aload_n 0, 1), (14, .iload_n 2, 1), (15, .invokevirtual 172, 3), (18, .ifCond .eq 12, 3), (21, .aload_n 0, 1), (22, .iload_n 1, 1), (23, .iload_n 2, 1), (24, .invokevirtual 177, 3), (27, .goto 5, 3), (30, .bipush (-2), 2), (32, .ireturn, 1)]
theorem daX9_light_0 : dlX9_light_0.all (dcK cX9_light) = true := by decide +kernel
theorem dX9_light_0 : decode cX9_light 0 = .ok (.aload_n 0, 1) := dc_at daX9_light_0 0 rfl
theorem dX9_light_1 : decode cX9_light 1 = .ok (.iconst 0, 1) := dc_at daX9_light_0 1 rfl
theorem dX9_light_2 : decode cX9_light 2 = .ok (.putfield 1, 3) := dc_at daX9_light_0 2 rfl
theorem dX9_light_5 : decode cX9_light 5 = .ok (.aload_n 0, 1) := dc_at daX9_light_0 3 rfl
theorem dX9_light_6 : decode cX9_light 6 = .ok (.iload_n 1, 1) := dc_at daX9_light_0 4 rfl
theorem dX9_light_7 : decode cX9_light 7 = .ok (.invokevirtual 172, 3) := dc_at daX9_light_0 5 rfl
theorem dX9_light_10 : decode cX9_light 10 = .ok (.ifCond .eq 20, 3) := dc_at daX9_light_0 6 rfl
theorem dX9_light_13 : decode cX9_light 13 = .ok (.aload_n 0, 1) := dc_at daX9_light_0 7 rfl
theorem dX9_light_14 : decode cX9_light 14 = .ok (.iload_n 2, 1) := dc_at daX9_light_0 8 rfl
theorem dX9_light_15 : decode cX9_light 15 = .ok (.invokevirtual 172, 3) := dc_at daX9_light_0 9 rfl
theorem dX9_light_18 : decode cX9_light 18 = .ok (.ifCond .eq 12, 3) := dc_at daX9_light_0 10 rfl
theorem dX9_light_21 : decode cX9_light 21 = .ok (.aload_n 0, 1) := dc_at daX9_light_0 11 rfl
theorem dX9_light_22 : decode cX9_light 22 = .ok (.iload_n 1, 1) := dc_at daX9_light_0 12 rfl
theorem dX9_light_23 : decode cX9_light 23 = .ok (.iload_n 2, 1) := dc_at daX9_light_0 13 rfl
theorem dX9_light_24 : decode cX9_light 24 = .ok (.invokevirtual 177, 3) := dc_at daX9_light_0 14 rfl
theorem dX9_light_27 : decode cX9_light 27 = .ok (.goto 5, 3) := dc_at daX9_light_0 15 rfl
theorem dX9_light_30 : decode cX9_light 30 = .ok (.bipush (-2), 2) := dc_at daX9_light_0 16 rfl
theorem dX9_light_32 : decode cX9_light 32 = .ok (.ireturn, 1) := dc_at daX9_light_0 17 rfl
def dlX9_litBy_0 : List (Nat × Jvm.ClassFile.Instr × Nat) := [(0, .iconst 0, 1), (1, .istore_n 3, 1), (2, .iconst 0, 1), (3, .istore 4, 2), (5, .iload 4, 2), (7, .aload_n 0, 1), (8, .getfield 13, 3), (11, .iconst 0, 1), (12, .iaload, 1), (13, .if_icmp .ge 31, 3), (16, .iload_n 3, 1), (17, .aload_n 0, 1), (18, .iload_n 1, 1), (19, .iload 4, 2), (21, .iload_n 2, 1), (22, .invokevirtual 168, 3), (25, .ifCond .le 10, 3), (28, .iconst 1, 1), (29, .iload 4, 2), (31, .ishl, 1), (32, .goto 4, 3), (35, .iconst 0, 1), (36, .ior, 1), (37, .istore_n 3, 1)]
theorem daX9_litBy_0 : dlX9_litBy_0.all (dcK cX9_litBy) = true := by decide +kernel
theorem dX9_litBy_0 : decode cX9_litBy 0 = .ok (.iconst 0, 1) := dc_at daX9_litBy_0 0 rfl
theorem dX9_litBy_1 : decode cX9_litBy 1 = .ok (.istore_n 3, 1) := dc_at daX9_litBy_0 1 rfl
theorem dX9_litBy_2 : decode cX9_litBy 2 = .ok (.iconst 0, 1) := dc_at daX9_litBy_0 2 rfl
theorem dX9_litBy_3 : decode cX9_litBy 3 = .ok (.istore 4, 2) := dc_at daX9_litBy_0 3 rfl
theorem dX9_litBy_5 : decode cX9_litBy 5 = .ok (.iload 4, 2) := dc_at daX9_litBy_0 4 rfl
theorem dX9_litBy_7 : decode cX9_litBy 7 = .ok (.aload_n 0, 1) := dc_at daX9_litBy_0 5 rfl
theorem dX9_litBy_8 : decode cX9_litBy 8 = .ok (.getfield 13, 3) := dc_at daX9_litBy_0 6 rfl
theorem dX9_litBy_11 : decode cX9_litBy 11 = .ok (.iconst 0, 1) := dc_at daX9_litBy_0 7 rfl
theorem dX9_litBy_12 : decode cX9_litBy 12 = .ok (.iaload, 1) := dc_at daX9_litBy_0 8 rfl
theorem dX9_litBy_13 : decode cX9_litBy 13 = .ok (.if_icmp .ge 31, 3) := dc_at daX9_litBy_0 9 rfl
theorem dX9_litBy_16 : decode cX9_litBy 16 = .ok (.iload_n 3, 1) := dc_at daX9_litBy_0 10 rfl
theorem dX9_litBy_17 : decode cX9_litBy 17 = .ok (.aload_n 0, 1) := dc_at daX9_litBy_0 11 rfl
theorem dX9_litBy_18 : decode cX9_litBy 18 = .ok (.iload_n 1, 1) := dc_at daX9_litBy_0 12 rfl
theorem dX9_litBy_19 : decode cX9_litBy 19 = .ok (.iload 4, 2) := dc_at daX9_litBy_0 13 rfl
theorem dX9_litBy_21 : decode cX9_litBy 21 = .ok (.iload_n 2, 1) := dc_at daX9_litBy_0 14 rfl
theorem dX9_litBy_22 : decode cX9_litBy 22 = .ok (.invokevirtual 168, 3) := dc_at daX9_litBy_0 15 rfl
theorem dX9_litBy_25 : decode cX9_litBy 25 = .ok (.ifCond .le 10, 3) := dc_at daX9_litBy_0 16 rfl
theorem dX9_litBy_28 : decode cX9_litBy 28 = .ok (.iconst 1, 1) := dc_at daX9_litBy_0 17 rfl
theorem dX9_litBy_29 : decode cX9_litBy 29 = .ok (.iload 4, 2) := dc_at daX9_litBy_0 18 rfl
theorem dX9_litBy_31 : decode cX9_litBy 31 = .ok (.ishl, 1) := dc_at daX9_litBy_0 19 rfl
theorem dX9_litBy_32 : decode cX9_litBy 32 = .ok (.goto 4, 3) := dc_at daX9_litBy_0 20 rfl
theorem dX9_litBy_35 : decode cX9_litBy 35 = .ok (.iconst 0, 1) := dc_at daX9_litBy_0 21 rfl
theorem dX9_litBy_36 : decode cX9_litBy 36 = .ok (.ior, 1) := dc_at daX9_litBy_0 22 rfl
theorem dX9_litBy_37 : decode cX9_litBy 37 = .ok (.istore_n 3, 1) := dc_at daX9_litBy_0 23 rfl
def dlX9_litBy_1 : List (Nat × Jvm.ClassFile.Instr × Nat) := [(38, .iinc 4 1, 3), (41, .goto (-36), 3), (44, .iload_n 3, 1), (45, .ireturn, 1)]
theorem daX9_litBy_1 : dlX9_litBy_1.all (dcK cX9_litBy) = true := by decide +kernel
theorem dX9_litBy_38 : decode cX9_litBy 38 = .ok (.iinc 4 1, 3) := dc_at daX9_litBy_1 0 rfl
theorem dX9_litBy_41 : decode cX9_litBy 41 = .ok (.goto (-36), 3) := dc_at daX9_litBy_1 1 rfl
theorem dX9_litBy_44 : decode cX9_litBy 44 = .ok (.iload_n 3, 1) := dc_at daX9_litBy_1 2 rfl
theorem dX9_litBy_45 : decode cX9_litBy 45 = .ok (.ireturn, 1) := dc_at daX9_litBy_1 3 rfl
def dlX9_lit_0 : List (Nat × Jvm.ClassFile.Instr × Nat) := [(0, .aload_n 0, 1), (1, .iconst 0, 1), (2, .putfield 1, 3), (5, .aload_n 0, 1), (6, .iload_n 1, 1), (7, .invokevirtual 172, 3), (10, .ifCond .eq 17, 3), (13, .aload_n 0, 1), (14, .iload_n 1, 1), (15, .aload_n 0, 1), (16, .getfield 13, 3), (19, .iconst 3, 1), (20, .iaload, 1), (21, .invokevirtual 188, 3), (24, .goto 5, 3), (27, .bipush (-2), 2), (29, .ireturn, 1)]
theorem daX9_lit_0 : dlX9_lit_0.all (dcK cX9_lit) = true := by decide +kernel
theorem dX9_lit_0 : decode cX9_lit 0 = .ok (.aload_n 0, 1) := dc_at daX9_lit_0 0 rfl
theorem dX9_lit_1 : decode cX9_lit 1 = .ok (.iconst 0, 1) := dc_at daX9_lit_0 1 rfl
theorem dX9_lit_2 : decode cX9_lit 2 = .ok (.putfield 1, 3) := dc_at daX9_lit_0 2 rfl
theorem dX9_lit_5 : decode cX9_lit 5 = .ok (.aload_n 0, 1) := dc_at daX9_lit_0 3 rfl
theorem dX9_lit_6 : decode cX9_lit 6 = .ok (.iload_n 1, 1) := dc_at daX9_lit_0 4 rfl
theorem dX9_lit_7 : decode cX9_lit 7 = .ok (.invokevirtual 172, 3) := dc_at daX9_lit_0 5 rfl
theorem dX9_lit_10 : decode cX9_lit 10 = .ok (.ifCond .eq 17, 3) := dc_at daX9_lit_0 6 rfl
theorem dX9_lit_13 : decode cX9_lit 13 = .ok (.aload_n 0, 1) := dc_at daX9_lit_0 7 rfl
theorem dX9_lit_14 : decode cX9_lit 14 = .ok (.iload_n 1, 1) := dc_at daX9_lit_0 8 rfl
theorem dX9_lit_15 : decode cX9_lit 15 = .ok (.aload_n 0, 1) := dc_at daX9_lit_0 9 rfl
theorem dX9_lit_16 : decode cX9_lit 16 = .ok (.getfield 13, 3) := dc_at daX9_lit_0 10 rfl
theorem dX9_lit_19 : decode cX9_lit 19 = .ok (.iconst 3, 1) := dc_at daX9_lit_0 11 rfl
theorem dX9_lit_20 : decode cX9_lit 20 = .ok (.iaload, 1) := dc_at daX9_lit_0 12 rfl
theorem dX9_lit_21 : decode cX9_lit 21 = .ok (.invokevirtual 188, 3) := dc_at daX9_lit_0 13 rfl
theorem dX9_lit_24 : decode cX9_lit 24 = .ok (.goto 5, 3) := dc_at daX9_lit_0 14 rfl
theorem dX9_lit_27 : decode cX9_lit 27 = .ok (.bipush (-2), 2) := dc_at daX9_lit_0 15 rfl
theorem dX9_lit_29 : decode cX9_lit 29 = .ok (.ireturn, 1) := dc_at daX9_lit_0 16 rfl
def dlX9_shaded_0 : List (Nat × Jvm.ClassFile.Instr × Nat) := [(0, .aload_n 0, 1), (1, .iconst 0, 1), (2, .putfield 1, 3), (5, .aload_n 0, 1), (6, .iload_n 1, 1), (7, .invokevirtual 172, 3), (10, .ifCond .ne 6, 3), (13, .bipush (-2), 2), (15, .ireturn, 1), (16, .iconst 0, 1), (17, .istore_n 2, 1), (18, .iconst 0, 1), (19, .istore_n 3, 1), (20, .iload_n 3, 1), (21, .aload_n 0, 1), (22, .getfield 13, 3), (25, .iconst 0, 1), (26, .iaload, 1), (27, .if_icmp .ge 43, 3), (30, .iload_n 2, 1), (31, .aload_n 0, 1), (32, .iload_n 1, 1), (33, .iload_n 3, 1), (34, .invokevirtual 165, 3)]
theorem daX9_shaded_0 : dlX9_shaded_0.all (dcK cX9_shaded) = true := by decide +kernel
theorem dX9_shaded_0 : decode cX9_shaded 0 = .ok (.aload_n 0, 1) := dc_at daX9_shaded_0 0 rfl
theorem dX9_shaded_1 : decode cX9_shaded 1 = .ok (.iconst 0, 1) := dc_at daX9_shaded_0 1 rfl
theorem dX9_shaded_2 : decode cX9_shaded 2 = .ok (.putfield 1, 3) := dc_at daX9_shaded_0 2 rfl
theorem dX9_shaded_5 : decode cX9_shaded 5 = .ok (.aload_n 0, 1) := dc_at daX9_shaded_0 3 rfl
theorem dX9_shaded_6 : decode cX9_shaded 6 = .ok (.iload_n 1, 1) := dc_at daX9_shaded_0 4 rfl
theorem dX9_shaded_7 : decode cX9_shaded 7 = .ok (.invokevirtual 172, 3) := dc_at daX9_shaded_0 5 rfl
theorem dX9_shaded_10 : decode cX9_shaded 10 = .ok (.ifCond .ne 6, 3) := dc_at daX9_shaded_0 6 rfl
theorem dX9_shaded_13 : decode cX9_shaded 13 = .ok (.bipush (-2), 2) := dc_at daX9_shaded_0 7 rfl
theorem dX9_shaded_15 : decode cX9_shaded 15 = .ok (.ireturn, 1) := dc_at daX9_shaded_0 8 rfl
theorem dX9_shaded_16 : decode cX9_shaded 16 = .ok (.iconst 0, 1) := dc_at daX9_shaded_0 9 rfl
theorem dX9_shaded_17 : decode cX9_shaded 17 = .ok (.istore_n 2, 1) := dc_at daX9_shaded_0 10 rfl
theorem dX9_shaded_18 : decode cX9_shaded 18 = .ok (.iconst 0, 1) := dc_at daX9_shaded_0 11 rfl
theorem dX9_shaded_19 : decode cX9_shaded 19 = .ok (.istore_n 3, 1) := dc_at daX9_shaded_0 12 rfl
theorem dX9_shaded_20 : decode cX9_shaded 20 = .ok (.iload_n 3, 1) := dc_at daX9_shaded_0 13 rfl
theorem dX9_shaded_21 : decode cX9_shaded 21 = .ok (.aload_n 0, 1) := dc_at daX9_shaded_0 14 rfl
theorem dX9_shaded_22 : decode cX9_shaded 22 = .ok (.getfield 13, 3) := dc_at daX9_shaded_0 15 rfl
theorem dX9_shaded_25 : decode cX9_shaded 25 = .ok (.iconst 0, 1) := dc_at daX9_shaded_0 16 rfl
theorem dX9_shaded_26 : decode cX9_shaded 26 = .ok (.iaload, 1) := dc_at daX9_shaded_0 17 rfl
theorem dX9_shaded_27 : decode cX9_shaded 27 = .ok (.if_icmp .ge 43, 3) := dc_at daX9_shaded_0 18 rfl
theorem dX9_shaded_30 : decode cX9_shaded 30 = .ok (.iload_n 2, 1) := dc_at daX9_shaded_0 19 rfl
theorem dX9_shaded_31 : decode cX9_shaded 31 = .ok (.aload_n 0, 1) := dc_at daX9_shaded_0 20 rfl
theorem dX9_shaded_32 : decode cX9_shaded 32 = .ok (.iload_n 1, 1) := dc_at daX9_shaded_0 21 rfl
theorem dX9_shaded_33 : decode cX9_shaded 33 = .ok (.iload_n 3, 1) := dc_at daX9_shaded_0 22 rfl
theorem dX9_shaded_34 : decode cX9_shaded 34 = .ok (.invokevirtual 165, 3) := dc_at daX9_shaded_0 23 rfl
def dlX9_shaded_1 : List (Nat × Jvm.ClassFile.Instr × Nat) := [(37, .ifCond .le 24, 3), (40, .aload_n 0, 1), (41, .iload_n 1, 1), (42, .iload_n 3, 1), (43, .aload_n 0, 1), (44, .getfield 13, 3), (47, .iconst 3, 1), (48, .iaload, 1), (49, .invokevirtual 161, 3), (52, .ifCond .eq 9, 3), (55, .iconst 1, 1), (56, .iload_n 3, 1), (57, .ishl, 1), (58, .goto 4, 3), (61, .iconst 0, 1), (62, .ior, 1), (63, .istore_n 2, 1), (64, .iinc 3 1, 3), (67, .goto (-47), 3), (70, .iload_n 2, 1), (71, .ireturn, 1)]
theorem daX9_shaded_1 : dlX9_shaded_1.all (dcK cX9_shaded) = true := by decide +kernel
theorem dX9_shaded_37 : decode cX9_shaded 37 = .ok (.ifCond .le 24, 3) := dc_at daX9_shaded_1 0 rfl
theorem dX9_shaded_40 : decode cX9_shaded 40 = .ok (.aload_n 0, 1) := dc_at daX9_shaded_1 1 rfl
theorem dX9_shaded_41 : decode cX9_shaded 41 = .ok (.iload_n 1, 1) := dc_at daX9_shaded_1 2 rfl
theorem dX9_shaded_42 : decode cX9_shaded 42 = .ok (.iload_n 3, 1) := dc_at daX9_shaded_1 3 rfl
theorem dX9_shaded_43 : decode cX9_shaded 43 = .ok (.aload_n 0, 1) := dc_at daX9_shaded_1 4 rfl
theorem dX9_shaded_44 : decode cX9_shaded 44 = .ok (.getfield 13, 3) := dc_at daX9_shaded_1 5 rfl
theorem dX9_shaded_47 : decode cX9_shaded 47 = .ok (.iconst 3, 1) := dc_at daX9_shaded_1 6 rfl
theorem dX9_shaded_48 : decode cX9_shaded 48 = .ok (.iaload, 1) := dc_at daX9_shaded_1 7 rfl
theorem dX9_shaded_49 : decode cX9_shaded 49 = .ok (.invokevirtual 161, 3) := dc_at daX9_shaded_1 8 rfl
theorem dX9_shaded_52 : decode cX9_shaded 52 = .ok (.ifCond .eq 9, 3) := dc_at daX9_shaded_1 9 rfl
theorem dX9_shaded_55 : decode cX9_shaded 55 = .ok (.iconst 1, 1) := dc_at daX9_shaded_1 10 rfl
theorem dX9_shaded_56 : decode cX9_shaded 56 = .ok (.iload_n 3, 1) := dc_at daX9_shaded_1 11 rfl
theorem dX9_shaded_57 : decode cX9_shaded 57 = .ok (.ishl, 1) := dc_at daX9_shaded_1 12 rfl
theorem dX9_shaded_58 : decode cX9_shaded 58 = .ok (.goto 4, 3) := dc_at daX9_shaded_1 13 rfl
theorem dX9_shaded_61 : decode cX9_shaded 61 = .ok (.iconst 0, 1) := dc_at daX9_shaded_1 14 rfl
theorem dX9_shaded_62 : decode cX9_shaded 62 = .ok (.ior, 1) := dc_at daX9_shaded_1 15 rfl
theorem dX9_shaded_63 : decode cX9_shaded 63 = .ok (.istore_n 2, 1) := dc_at daX9_shaded_1 16 rfl
theorem dX9_shaded_64 : decode cX9_shaded 64 = .ok (.iinc 3 1, 3) := dc_at daX9_shaded_1 17 rfl
theorem dX9_shaded_67 : decode cX9_shaded 67 = .ok (.goto (-47), 3) := dc_at daX9_shaded_1 18 rfl
theorem dX9_shaded_70 : decode cX9_shaded 70 = .ok (.iload_n 2, 1) := dc_at daX9_shaded_1 19 rfl
theorem dX9_shaded_71 : decode cX9_shaded 71 = .ok (.ireturn, 1) := dc_at daX9_shaded_1 20 rfl
def dlX9_high_0 : List (Nat × Jvm.ClassFile.Instr × Nat) := [(0, .aload_n 0, 1), (1, .iconst 0, 1), (2, .putfield 1, 3), (5, .aload_n 0, 1), (6, .iload_n 1, 1), (7, .invokevirtual 172, 3), (10, .ifCond .eq 11, 3), (13, .aload_n 0, 1), (14, .iload_n 2, 1), (15, .invokevirtual 172, 3), (18, .ifCond .ne 6, 3), (21, .bipush (-2), 2), (23, .ireturn, 1), (24, .iconst 1, 1), (25, .istore_n 3, 1), (26, .iload_n 3, 1), (27, .bipush 100, 2), (29, .if_icmp .ge 21, 3), (32, .aload_n 0, 1), (33, .iload_n 1, 1), (34, .iload_n 2, 1), (35, .iload_n 3, 1), (36, .invokevirtual 168, 3), (39, .ifCond .le 5, 3)]
theorem daX9_high_0 : dlX9_high_0.all (dcK cX9_high) = true := by decide +kernel
theorem dX9_high_0 : decode cX9_high 0 = .ok (.aload_n 0, 1) := dc_at daX9_high_0 0 rfl
theorem dX9_high_1 : decode cX9_high 1 = .ok (.iconst 0, 1) := dc_at daX9_high_0 1 rfl
theorem dX9_high_2 : decode cX9_high 2 = .ok (.putfield 1, 3) := dc_at daX9_high_0 2 rfl
theorem dX9_high_5 : decode cX9_high 5 = .ok (.aload_n 0, 1) := dc_at daX9_high_0 3 rfl
theorem dX9_high_6 : decode cX9_high 6 = .ok (.iload_n 1, 1) := dc_at daX9_high_0 4 rfl
theorem dX9_high_7 : decode cX9_high 7 = .ok (.invokevirtual 172, 3) := dc_at daX9_high_0 5 rfl
theorem dX9_high_10 : decode cX9_high 10 = .ok (.ifCond .eq 11, 3) := dc_at daX9_high_0 6 rfl
theorem dX9_high_13 : decode cX9_high 13 = .ok (.aload_n 0, 1) := dc_at daX9_high_0 7 rfl
theorem dX9_high_14 : decode cX9_high 14 = .ok (.iload_n 2, 1) := dc_at daX9_high_0 8 rfl
theorem dX9_high_15 : decode cX9_high 15 = .ok (.invokevirtual 172, 3) := dc_at daX9_high_0 9 rfl
theorem dX9_high_18 : decode cX9_high 18 = .ok (.ifCond .ne 6, 3) := dc_at daX9_high_0 10 rfl
theorem dX9_high_21 : decode cX9_high 21 = .ok (.bipush (-2), 2) := dc_at daX9_high_0 11 rfl
theorem dX9_high_23 : decode cX9_high 23 = .ok (.ireturn, 1) := dc_at daX9_high_0 12 rfl
theorem dX9_high_24 : decode cX9_high 24 = .ok (.iconst 1, 1) := dc_at daX9_high_0 13 rfl
theorem dX9_high_25 : decode cX9_high 25 = .ok (.istore_n 3, 1) := dc_at daX9_high_0 14 rfl
theorem dX9_high_26 : decode cX9_high 26 = .ok (.iload_n 3, 1) := dc_at daX9_high_0 15 rfl
theorem dX9_high_27 : decode cX9_high 27 = .ok (.bipush 100, 2) := dc_at daX9_high_0 16 rfl
theorem dX9_high_29 : decode cX9_high 29 = .ok (.if_icmp .ge 21, 3) := dc_at daX9_high_0 17 rfl
theorem dX9_high_32 : decode cX9_high 32 = .ok (.aload_n 0, 1) := dc_at daX9_high_0 18 rfl
theorem dX9_high_33 : decode cX9_high 33 = .ok (.iload_n 1, 1) := dc_at daX9_high_0 19 rfl
theorem dX9_high_34 : decode cX9_high 34 = .ok (.iload_n 2, 1) := dc_at daX9_high_0 20 rfl
theorem dX9_high_35 : decode cX9_high 35 = .ok (.iload_n 3, 1) := dc_at daX9_high_0 21 rfl
theorem dX9_high_36 : decode cX9_high 36 = .ok (.invokevirtual 168, 3) := dc_at daX9_high_0 22 rfl
theorem dX9_high_39 : decode cX9_high 39 = .ok (.ifCond .le 5, 3) := dc_at daX9_high_0 23 rfl
def dlX9_high_1 : List (Nat × Jvm.ClassFile.Instr × Nat) := [(42, .iload_n 3, 1), (43, .ireturn, 1), (44, .iinc 3 1, 3), (47, .goto (-21), 3), (50, .iconst (-1), 1), (51, .ireturn, 1)]
theorem daX9_high_1 : dlX9_high_1.all (dcK cX9_high) = true := by decide +kernel
theorem dX9_high_42 : decode cX9_high 42 = .ok (.iload_n 3, 1) := dc_at daX9_high_1 0 rfl
theorem dX9_high_43 : decode cX9_high 43 = .ok (.ireturn, 1) := dc_at daX9_high_1 1 rfl
theorem dX9_high_44 : decode cX9_high 44 = .ok (.iinc 3 1, 3) := dc_at daX9_high_1 2 rfl
theorem dX9_high_47 : decode cX9_high 47 = .ok (.goto (-21), 3) := dc_at daX9_high_1 3 rfl
theorem dX9_high_50 : decode cX9_high 50 = .ok (.iconst (-1), 1) := dc_at daX9_high_1 4 rfl
theorem dX9_high_51 : decode cX9_high 51 = .ok (.ireturn, 1) := dc_at daX9_high_1 5 rfl
def dlX9_isSet_0 : List (Nat × Jvm.ClassFile.Instr × Nat) := [(0, .iload_n 1, 1), (1, .i2l, 1), (2, .lconst 0, 1), (3, .iconst 1, 1), (4, .aload_n 0, 1), (5, .getfield 13, 3), (8, .iconst 0, 1), (9, .iaload, 1), (10, .ishl, 1), (11, .iconst 1, 1), (12, .isub, 1), (13, .i2l, 1), (14, .invokestatic 128, 3), (17, .ireturn, 1)]
theorem daX9_isSet_0 : dlX9_isSet_0.all (dcK cX9_isSet) = true := by decide +kernel
theorem dX9_isSet_0 : decode cX9_isSet 0 = .ok (.iload_n 1, 1) := dc_at daX9_isSet_0 0 rfl
theorem dX9_isSet_1 : decode cX9_isSet 1 = .ok (.i2l, 1) := dc_at daX9_isSet_0 1 rfl
theorem dX9_isSet_2 : decode cX9_isSet 2 = .ok (.lconst 0, 1) := dc_at daX9_isSet_0 2 rfl
theorem dX9_isSet_3 : decode cX9_isSet 3 = .ok (.iconst 1, 1) := dc_at daX9_isSet_0 3 rfl
theorem dX9_isSet_4 : decode cX9_isSet 4 = .ok (.aload_n 0, 1) := dc_at daX9_isSet_0 4 rfl
theorem dX9_isSet_5 : decode cX9_isSet 5 = .ok (.getfield 13, 3) := dc_at daX9_isSet_0 5 rfl
theorem dX9_isSet_8 : decode cX9_isSet 8 = .ok (.iconst 0, 1) := dc_at daX9_isSet_0 6 rfl
theorem dX9_isSet_9 : decode cX9_isSet 9 = .ok (.iaload, 1) := dc_at daX9_isSet_0 7 rfl
theorem dX9_isSet_10 : decode cX9_isSet 10 = .ok (.ishl, 1) := dc_at daX9_isSet_0 8 rfl
theorem dX9_isSet_11 : decode cX9_isSet 11 = .ok (.iconst 1, 1) := dc_at daX9_isSet_0 9 rfl
theorem dX9_isSet_12 : decode cX9_isSet 12 = .ok (.isub, 1) := dc_at daX9_isSet_0 10 rfl
theorem dX9_isSet_13 : decode cX9_isSet 13 = .ok (.i2l, 1) := dc_at daX9_isSet_0 11 rfl
theorem dX9_isSet_14 : decode cX9_isSet 14 = .ok (.invokestatic 128, 3) := dc_at daX9_isSet_0 12 rfl
theorem dX9_isSet_17 : decode cX9_isSet 17 = .ok (.ireturn, 1) := dc_at daX9_isSet_0 13 rfl
def dlX9_highFor_0 : List (Nat × Jvm.ClassFile.Instr × Nat) := [(0, .aload_n 0, 1), (1, .iconst 0, 1), (2, .putfield 1, 3), (5, .aload_n 0, 1), (6, .iload_n 1, 1), (7, .invokevirtual 191, 3), (10, .ifCond .eq 7, 3), (13, .iload_n 1, 1), (14, .ifCond .ne 6, 3), (17, .bipush (-3), 2), (19, .ireturn, 1), (20, .iconst 1, 1), (21, .istore_n 3, 1), (22, .iload_n 3, 1), (23, .bipush 100, 2), (25, .if_icmp .ge 54, 3), (28, .iconst 0, 1), (29, .istore 4, 2), (31, .iload 4, 2), (33, .aload_n 0, 1), (34, .getfield 13, 3), (37, .iconst 0, 1), (38, .iaload, 1), (39, .if_icmp .ge 34, 3)]
theorem daX9_highFor_0 : dlX9_highFor_0.all (dcK cX9_highFor) = true := by decide +kernel
theorem dX9_highFor_0 : decode cX9_highFor 0 = .ok (.aload_n 0, 1) := dc_at daX9_highFor_0 0 rfl
theorem dX9_highFor_1 : decode cX9_highFor 1 = .ok (.iconst 0, 1) := dc_at daX9_highFor_0 1 rfl
theorem dX9_highFor_2 : decode cX9_highFor 2 = .ok (.putfield 1, 3) := dc_at daX9_highFor_0 2 rfl
theorem dX9_highFor_5 : decode cX9_highFor 5 = .ok (.aload_n 0, 1) := dc_at daX9_highFor_0 3 rfl
theorem dX9_highFor_6 : decode cX9_highFor 6 = .ok (.iload_n 1, 1) := dc_at daX9_highFor_0 4 rfl
theorem dX9_highFor_7 : decode cX9_highFor 7 = .ok (.invokevirtual 191, 3) := dc_at daX9_highFor_0 5 rfl
theorem dX9_highFor_10 : decode cX9_highFor 10 = .ok (.ifCond .eq 7, 3) := dc_at daX9_highFor_0 6 rfl
theorem dX9_highFor_13 : decode cX9_highFor 13 = .ok (.iload_n 1, 1) := dc_at daX9_highFor_0 7 rfl
theorem dX9_highFor_14 : decode cX9_highFor 14 = .ok (.ifCond .ne 6, 3) := dc_at daX9_highFor_0 8 rfl
theorem dX9_highFor_17 : decode cX9_highFor 17 = .ok (.bipush (-3), 2) := dc_at daX9_highFor_0 9 rfl
theorem dX9_highFor_19 : decode cX9_highFor 19 = .ok (.ireturn, 1) := dc_at daX9_highFor_0 10 rfl
theorem dX9_highFor_20 : decode cX9_highFor 20 = .ok (.iconst 1, 1) := dc_at daX9_highFor_0 11 rfl
theorem dX9_highFor_21 : decode cX9_highFor 21 = .ok (.istore_n 3, 1) := dc_at daX9_highFor_0 12 rfl
theorem dX9_highFor_22 : decode cX9_highFor 22 = .ok (.iload_n 3, 1) := dc_at daX9_highFor_0 13 rfl
theorem dX9_highFor_23 : decode cX9_highFor 23 = .ok (.bipush 100, 2) := dc_at daX9_highFor_0 14 rfl
theorem dX9_highFor_25 : decode cX9_highFor 25 = .ok (.if_icmp .ge 54, 3) := dc_at daX9_highFor_0 15 rfl
theorem dX9_highFor_28 : decode cX9_highFor 28 = .ok (.iconst 0, 1) := dc_at daX9_highFor_0 16 rfl
theorem dX9_highFor_29 : decode cX9_highFor 29 = .ok (.istore 4, 2) := dc_at daX9_highFor_0 17 rfl
theorem dX9_highFor_31 : decode cX9_highFor 31 = .ok (.iload 4, 2) := dc_at daX9_highFor_0 18 rfl
theorem dX9_highFor_33 : decode cX9_highFor 33 = .ok (.aload_n 0, 1) := dc_at daX9_highFor_0 19 rfl
theorem dX9_highFor_34 : decode cX9_highFor 34 = .ok (.getfield 13, 3) := dc_at daX9_highFor_0 20 rfl
theorem dX9_highFor_37 : decode cX9_highFor 37 = .ok (.iconst 0, 1) := dc_at daX9_highFor_0 21 rfl
theorem dX9_highFor_38 : decode cX9_highFor 38 = .ok (.iaload, 1) := dc_at daX9_highFor_0 22 rfl
theorem dX9_highFor_39 : decode cX9_highFor 39 = .ok (.if_icmp .ge 34, 3) := dc_at daX9_highFor_0 23 rfl
def dlX9_highFor_1 : List (Nat × Jvm.ClassFile.Instr × Nat) := [(42, .iload_n 1, 1), (43, .aload_n 0, 1), (44, .iload 4, 2), (46, .iload_n 3, 1), (47, .invokevirtual 188, 3), (50, .iconst (-1), 1), (51, .ixor, 1), (52, .iand, 1), (53, .ifCond .ne 14, 3), (56, .iload_n 2, 1), (57, .ifCond .eq 8, 3), (60, .iload 4, 2), (62, .goto 4, 3), (65, .iload_n 3, 1), (66, .ireturn, 1), (67, .iinc 4 1, 3), (70, .goto (-39), 3), (73, .iinc 3 1, 3), (76, .goto (-54), 3), (79, .iconst (-1), 1), (80, .ireturn, 1)]
theorem daX9_highFor_1 : dlX9_highFor_1.all (dcK cX9_highFor) = true := by decide +kernel
theorem dX9_highFor_42 : decode cX9_highFor 42 = .ok (.iload_n 1, 1) := dc_at daX9_highFor_1 0 rfl
theorem dX9_highFor_43 : decode cX9_highFor 43 = .ok (.aload_n 0, 1) := dc_at daX9_highFor_1 1 rfl
theorem dX9_highFor_44 : decode cX9_highFor 44 = .ok (.iload 4, 2) := dc_at daX9_highFor_1 2 rfl
theorem dX9_highFor_46 : decode cX9_highFor 46 = .ok (.iload_n 3, 1) := dc_at daX9_highFor_1 3 rfl
theorem dX9_highFor_47 : decode cX9_highFor 47 = .ok (.invokevirtual 188, 3) := dc_at daX9_highFor_1 4 rfl
theorem dX9_highFor_50 : decode cX9_highFor 50 = .ok (.iconst (-1), 1) := dc_at daX9_highFor_1 5 rfl
theorem dX9_highFor_51 : decode cX9_highFor 51 = .ok (.ixor, 1) := dc_at daX9_highFor_1 6 rfl
theorem dX9_highFor_52 : decode cX9_highFor 52 = .ok (.iand, 1) := dc_at daX9_highFor_1 7 rfl
theorem dX9_highFor_53 : decode cX9_highFor 53 = .ok (.ifCond .ne 14, 3) := dc_at daX9_highFor_1 8 rfl
theorem dX9_highFor_56 : decode cX9_highFor 56 = .ok (.iload_n 2, 1) := dc_at daX9_highFor_1 9 rfl
theorem dX9_highFor_57 : decode cX9_highFor 57 = .ok (.ifCond .eq 8, 3) := dc_at daX9_highFor_1 10 rfl
theorem dX9_highFor_60 : decode cX9_highFor 60 = .ok (.iload 4, 2) := dc_at daX9_highFor_1 11 rfl
theorem dX9_highFor_62 : decode cX9_highFor 62 = .ok (.goto 4, 3) := dc_at daX9_highFor_1 12 rfl
theorem dX9_highFor_65 : decode cX9_highFor 65 = .ok (.iload_n 3, 1) := dc_at daX9_highFor_1 13 rfl
theorem dX9_highFor_66 : decode cX9_highFor 66 = .ok (.ireturn, 1) := dc_at daX9_highFor_1 14 rfl
theorem dX9_highFor_67 : decode cX9_highFor 67 = .ok (.iinc 4 1, 3) := dc_at daX9_highFor_1 15 rfl
theorem dX9_highFor_70 : decode cX9_highFor 70 = .ok (.goto (-39), 3) := dc_at daX9_highFor_1 16 rfl
theorem dX9_highFor_73 : decode cX9_highFor 73 = .ok (.iinc 3 1, 3) := dc_at daX9_highFor_1 17 rfl
theorem dX9_highFor_76 : decode cX9_highFor 76 = .ok (.goto (-54), 3) := dc_at daX9_highFor_1 18 rfl
theorem dX9_highFor_79 : decode cX9_highFor 79 = .ok (.iconst (-1), 1) := dc_at daX9_highFor_1 19 rfl
theorem dX9_highFor_80 : decode cX9_highFor 80 = .ok (.ireturn, 1) := dc_at daX9_highFor_1 20 rfl
def dlX9_height_0 : List (Nat × Jvm.ClassFile.Instr × Nat) := [(0, .aload_n 0, 1), (1, .iconst 0, 1), (2, .putfield 1, 3), (5, .iload_n 1, 1), (6, .i2l, 1), (7, .lconst 1, 1), (8, .ldc2_w 194, 3), (11, .invokestatic 128, 3), (14, .ifCond .ne 6, 3), (17, .bipush (-3), 2), (19, .ireturn, 1), (20, .aload_n 0, 1), (21, .getfield 13, 3), (24, .iconst 3, 1), (25, .iaload, 1), (26, .istore_n 2, 1), (27, .aload_n 0, 1), (28, .getfield 13, 3), (31, .iconst 3, 1), (32, .iload_n 1, 1), (33, .iastore, 1), (34, .iload_n 2, 1), (35, .ireturn, 1)]
theorem daX9_height_0 : dlX9_height_0.all (dcK cX9_height) = true := by decide +kernel
theorem dX9_height_0 : decode cX9_height 0 = .ok (.aload_n 0, 1) := dc_at daX9_height_0 0 rfl
theorem dX9_height_1 : decode cX9_height 1 = .ok (.iconst 0, 1) := dc_at daX9_height_0 1 rfl
theorem dX9_height_2 : decode cX9_height 2 = .ok (.putfield 1, 3) := dc_at daX9_height_0 2 rfl
theorem dX9_height_5 : decode cX9_height 5 = .ok (.iload_n 1, 1) := dc_at daX9_height_0 3 rfl
theorem dX9_height_6 : decode cX9_height 6 = .ok (.i2l, 1) := dc_at daX9_height_0 4 rfl
theorem dX9_height_7 : decode cX9_height 7 = .ok (.lconst 1, 1) := dc_at daX9_height_0 5 rfl
theorem dX9_height_8 : decode cX9_height 8 = .ok (.ldc2_w 194, 3) := dc_at daX9_height_0 6 rfl
theorem dX9_height_11 : decode cX9_height 11 = .ok (.invokestatic 128, 3) := dc_at daX9_height_0 7 rfl
theorem dX9_height_14 : decode cX9_height 14 = .ok (.ifCond .ne 6, 3) := dc_at daX9_height_0 8 rfl
theorem dX9_height_17 : decode cX9_height 17 = .ok (.bipush (-3), 2) := dc_at daX9_height_0 9 rfl
theorem dX9_height_19 : decode cX9_height 19 = .ok (.ireturn, 1) := dc_at daX9_height_0 10 rfl
theorem dX9_height_20 : decode cX9_height 20 = .ok (.aload_n 0, 1) := dc_at daX9_height_0 11 rfl
theorem dX9_height_21 : decode cX9_height 21 = .ok (.getfield 13, 3) := dc_at daX9_height_0 12 rfl
theorem dX9_height_24 : decode cX9_height 24 = .ok (.iconst 3, 1) := dc_at daX9_height_0 13 rfl
theorem dX9_height_25 : decode cX9_height 25 = .ok (.iaload, 1) := dc_at daX9_height_0 14 rfl
theorem dX9_height_26 : decode cX9_height 26 = .ok (.istore_n 2, 1) := dc_at daX9_height_0 15 rfl
theorem dX9_height_27 : decode cX9_height 27 = .ok (.aload_n 0, 1) := dc_at daX9_height_0 16 rfl
theorem dX9_height_28 : decode cX9_height 28 = .ok (.getfield 13, 3) := dc_at daX9_height_0 17 rfl
theorem dX9_height_31 : decode cX9_height 31 = .ok (.iconst 3, 1) := dc_at daX9_height_0 18 rfl
theorem dX9_height_32 : decode cX9_height 32 = .ok (.iload_n 1, 1) := dc_at daX9_height_0 19 rfl
theorem dX9_height_33 : decode cX9_height 33 = .ok (.iastore, 1) := dc_at daX9_height_0 20 rfl
theorem dX9_height_34 : decode cX9_height 34 = .ok (.iload_n 2, 1) := dc_at daX9_height_0 21 rfl
theorem dX9_height_35 : decode cX9_height 35 = .ok (.ireturn, 1) := dc_at daX9_height_0 22 rfl
def dlX9_fell_0 : List (Nat × Jvm.ClassFile.Instr × Nat) := [(0, .aload_n 0, 1), (1, .iconst 0, 1), (2, .putfield 1, 3), (5, .aload_n 0, 1), (6, .iload_n 1, 1), (7, .invokevirtual 172, 3), (10, .ifCond .ne 6, 3), (13, .bipush (-2), 2), (15, .ireturn, 1), (16, .aload_n 0, 1), (17, .getfield 13, 3), (20, .bipush 48, 2), (22, .iload_n 1, 1), (23, .iadd, 1), (24, .iaload, 1), (25, .ifCond .ne 6, 3), (28, .bipush (-5), 2), (30, .ireturn, 1), (31, .aload_n 0, 1), (32, .getfield 13, 3), (35, .bipush 48, 2), (37, .iload_n 1, 1), (38, .iadd, 1), (39, .iaload, 1)]
theorem daX9_fell_0 : dlX9_fell_0.all (dcK cX9_fell) = true := by decide +kernel
theorem dX9_fell_0 : decode cX9_fell 0 = .ok (.aload_n 0, 1) := dc_at daX9_fell_0 0 rfl
theorem dX9_fell_1 : decode cX9_fell 1 = .ok (.iconst 0, 1) := dc_at daX9_fell_0 1 rfl
theorem dX9_fell_2 : decode cX9_fell 2 = .ok (.putfield 1, 3) := dc_at daX9_fell_0 2 rfl
theorem dX9_fell_5 : decode cX9_fell 5 = .ok (.aload_n 0, 1) := dc_at daX9_fell_0 3 rfl
theorem dX9_fell_6 : decode cX9_fell 6 = .ok (.iload_n 1, 1) := dc_at daX9_fell_0 4 rfl
theorem dX9_fell_7 : decode cX9_fell 7 = .ok (.invokevirtual 172, 3) := dc_at daX9_fell_0 5 rfl
theorem dX9_fell_10 : decode cX9_fell 10 = .ok (.ifCond .ne 6, 3) := dc_at daX9_fell_0 6 rfl
theorem dX9_fell_13 : decode cX9_fell 13 = .ok (.bipush (-2), 2) := dc_at daX9_fell_0 7 rfl
theorem dX9_fell_15 : decode cX9_fell 15 = .ok (.ireturn, 1) := dc_at daX9_fell_0 8 rfl
theorem dX9_fell_16 : decode cX9_fell 16 = .ok (.aload_n 0, 1) := dc_at daX9_fell_0 9 rfl
theorem dX9_fell_17 : decode cX9_fell 17 = .ok (.getfield 13, 3) := dc_at daX9_fell_0 10 rfl
theorem dX9_fell_20 : decode cX9_fell 20 = .ok (.bipush 48, 2) := dc_at daX9_fell_0 11 rfl
theorem dX9_fell_22 : decode cX9_fell 22 = .ok (.iload_n 1, 1) := dc_at daX9_fell_0 12 rfl
theorem dX9_fell_23 : decode cX9_fell 23 = .ok (.iadd, 1) := dc_at daX9_fell_0 13 rfl
theorem dX9_fell_24 : decode cX9_fell 24 = .ok (.iaload, 1) := dc_at daX9_fell_0 14 rfl
theorem dX9_fell_25 : decode cX9_fell 25 = .ok (.ifCond .ne 6, 3) := dc_at daX9_fell_0 15 rfl
theorem dX9_fell_28 : decode cX9_fell 28 = .ok (.bipush (-5), 2) := dc_at daX9_fell_0 16 rfl
theorem dX9_fell_30 : decode cX9_fell 30 = .ok (.ireturn, 1) := dc_at daX9_fell_0 17 rfl
theorem dX9_fell_31 : decode cX9_fell 31 = .ok (.aload_n 0, 1) := dc_at daX9_fell_0 18 rfl
theorem dX9_fell_32 : decode cX9_fell 32 = .ok (.getfield 13, 3) := dc_at daX9_fell_0 19 rfl
theorem dX9_fell_35 : decode cX9_fell 35 = .ok (.bipush 48, 2) := dc_at daX9_fell_0 20 rfl
theorem dX9_fell_37 : decode cX9_fell 37 = .ok (.iload_n 1, 1) := dc_at daX9_fell_0 21 rfl
theorem dX9_fell_38 : decode cX9_fell 38 = .ok (.iadd, 1) := dc_at daX9_fell_0 22 rfl
theorem dX9_fell_39 : decode cX9_fell 39 = .ok (.iaload, 1) := dc_at daX9_fell_0 23 rfl
def dlX9_fell_1 : List (Nat × Jvm.ClassFile.Instr × Nat) := [(40, .istore_n 2, 1), (41, .aload_n 0, 1), (42, .getfield 13, 3), (45, .bipush 48, 2), (47, .iload_n 1, 1), (48, .iadd, 1), (49, .iconst 0, 1), (50, .iastore, 1), (51, .iload_n 2, 1), (52, .ireturn, 1)]
theorem daX9_fell_1 : dlX9_fell_1.all (dcK cX9_fell) = true := by decide +kernel
theorem dX9_fell_40 : decode cX9_fell 40 = .ok (.istore_n 2, 1) := dc_at daX9_fell_1 0 rfl
theorem dX9_fell_41 : decode cX9_fell 41 = .ok (.aload_n 0, 1) := dc_at daX9_fell_1 1 rfl
theorem dX9_fell_42 : decode cX9_fell 42 = .ok (.getfield 13, 3) := dc_at daX9_fell_1 2 rfl
theorem dX9_fell_45 : decode cX9_fell 45 = .ok (.bipush 48, 2) := dc_at daX9_fell_1 3 rfl
theorem dX9_fell_47 : decode cX9_fell 47 = .ok (.iload_n 1, 1) := dc_at daX9_fell_1 4 rfl
theorem dX9_fell_48 : decode cX9_fell 48 = .ok (.iadd, 1) := dc_at daX9_fell_1 5 rfl
theorem dX9_fell_49 : decode cX9_fell 49 = .ok (.iconst 0, 1) := dc_at daX9_fell_1 6 rfl
theorem dX9_fell_50 : decode cX9_fell 50 = .ok (.iastore, 1) := dc_at daX9_fell_1 7 rfl
theorem dX9_fell_51 : decode cX9_fell 51 = .ok (.iload_n 2, 1) := dc_at daX9_fell_1 8 rfl
theorem dX9_fell_52 : decode cX9_fell 52 = .ok (.ireturn, 1) := dc_at daX9_fell_1 9 rfl
def dlX9_then_0 : List (Nat × Jvm.ClassFile.Instr × Nat) := [(0, .lload_n 1, 1), (1, .lconst 1, 1), (2, .lcmp, 1), (3, .ifCond .ne 9, 3), (6, .iload_n 0, 1), (7, .iconst 1, 1), (8, .isub, 1), (9, .goto 18, 3), (12, .lload_n 1, 1), (13, .ldc2_w 196, 3), (16, .lcmp, 1), (17, .ifCond .ne 9, 3), (20, .iload_n 0, 1), (21, .iconst 1, 1), (22, .iadd, 1), (23, .goto 4, 3), (26, .iload_n 0, 1), (27, .ireturn, 1)]
theorem daX9_then_0 : dlX9_then_0.all (dcK cX9_then) = true := by decide +kernel
theorem dX9_then_0 : decode cX9_then 0 = .ok (.lload_n 1, 1) := dc_at daX9_then_0 0 rfl
theorem dX9_then_1 : decode cX9_then 1 = .ok (.lconst 1, 1) := dc_at daX9_then_0 1 rfl
theorem dX9_then_2 : decode cX9_then 2 = .ok (.lcmp, 1) := dc_at daX9_then_0 2 rfl
theorem dX9_then_3 : decode cX9_then 3 = .ok (.ifCond .ne 9, 3) := dc_at daX9_then_0 3 rfl
theorem dX9_then_6 : decode cX9_then 6 = .ok (.iload_n 0, 1) := dc_at daX9_then_0 4 rfl
theorem dX9_then_7 : decode cX9_then 7 = .ok (.iconst 1, 1) := dc_at daX9_then_0 5 rfl
theorem dX9_then_8 : decode cX9_then 8 = .ok (.isub, 1) := dc_at daX9_then_0 6 rfl
theorem dX9_then_9 : decode cX9_then 9 = .ok (.goto 18, 3) := dc_at daX9_then_0 7 rfl
theorem dX9_then_12 : decode cX9_then 12 = .ok (.lload_n 1, 1) := dc_at daX9_then_0 8 rfl
theorem dX9_then_13 : decode cX9_then 13 = .ok (.ldc2_w 196, 3) := dc_at daX9_then_0 9 rfl
theorem dX9_then_16 : decode cX9_then 16 = .ok (.lcmp, 1) := dc_at daX9_then_0 10 rfl
theorem dX9_then_17 : decode cX9_then 17 = .ok (.ifCond .ne 9, 3) := dc_at daX9_then_0 11 rfl
theorem dX9_then_20 : decode cX9_then 20 = .ok (.iload_n 0, 1) := dc_at daX9_then_0 12 rfl
theorem dX9_then_21 : decode cX9_then 21 = .ok (.iconst 1, 1) := dc_at daX9_then_0 13 rfl
theorem dX9_then_22 : decode cX9_then 22 = .ok (.iadd, 1) := dc_at daX9_then_0 14 rfl
theorem dX9_then_23 : decode cX9_then 23 = .ok (.goto 4, 3) := dc_at daX9_then_0 15 rfl
theorem dX9_then_26 : decode cX9_then 26 = .ok (.iload_n 0, 1) := dc_at daX9_then_0 16 rfl
theorem dX9_then_27 : decode cX9_then 27 = .ok (.ireturn, 1) := dc_at daX9_then_0 17 rfl
def dlX9_refuses_0 : List (Nat × Jvm.ClassFile.Instr × Nat) := [(0, .lload_n 1, 1), (1, .lconst 0, 1), (2, .ldc2_w 196, 3), (5, .invokestatic 128, 3), (8, .ifCond .eq 20, 3), (11, .aload_n 0, 1), (12, .aload_n 0, 1), (13, .getfield 13, 3), (16, .iconst 2, 1), (17, .iaload, 1), (18, .lload_n 1, 1), (19, .invokestatic 198, 3), (22, .invokevirtual 172, 3), (25, .ifCond .ne 5, 3), (28, .iconst 1, 1), (29, .ireturn, 1), (30, .aload_n 0, 1), (31, .getfield 13, 3), (34, .bipush 6, 2), (36, .iaload, 1), (37, .ifCond .ne 7, 3), (40, .iconst 2, 1), (41, .goto 20, 3), (44, .aload_n 0, 1)]
theorem daX9_refuses_0 : dlX9_refuses_0.all (dcK cX9_refuses) = true := by decide +kernel
theorem dX9_refuses_0 : decode cX9_refuses 0 = .ok (.lload_n 1, 1) := dc_at daX9_refuses_0 0 rfl
theorem dX9_refuses_1 : decode cX9_refuses 1 = .ok (.lconst 0, 1) := dc_at daX9_refuses_0 1 rfl
theorem dX9_refuses_2 : decode cX9_refuses 2 = .ok (.ldc2_w 196, 3) := dc_at daX9_refuses_0 2 rfl
theorem dX9_refuses_5 : decode cX9_refuses 5 = .ok (.invokestatic 128, 3) := dc_at daX9_refuses_0 3 rfl
theorem dX9_refuses_8 : decode cX9_refuses 8 = .ok (.ifCond .eq 20, 3) := dc_at daX9_refuses_0 4 rfl
theorem dX9_refuses_11 : decode cX9_refuses 11 = .ok (.aload_n 0, 1) := dc_at daX9_refuses_0 5 rfl
theorem dX9_refuses_12 : decode cX9_refuses 12 = .ok (.aload_n 0, 1) := dc_at daX9_refuses_0 6 rfl
theorem dX9_refuses_13 : decode cX9_refuses 13 = .ok (.getfield 13, 3) := dc_at daX9_refuses_0 7 rfl
theorem dX9_refuses_16 : decode cX9_refuses 16 = .ok (.iconst 2, 1) := dc_at daX9_refuses_0 8 rfl
theorem dX9_refuses_17 : decode cX9_refuses 17 = .ok (.iaload, 1) := dc_at daX9_refuses_0 9 rfl
theorem dX9_refuses_18 : decode cX9_refuses 18 = .ok (.lload_n 1, 1) := dc_at daX9_refuses_0 10 rfl
theorem dX9_refuses_19 : decode cX9_refuses 19 = .ok (.invokestatic 198, 3) := dc_at daX9_refuses_0 11 rfl
theorem dX9_refuses_22 : decode cX9_refuses 22 = .ok (.invokevirtual 172, 3) := dc_at daX9_refuses_0 12 rfl
theorem dX9_refuses_25 : decode cX9_refuses 25 = .ok (.ifCond .ne 5, 3) := dc_at daX9_refuses_0 13 rfl
theorem dX9_refuses_28 : decode cX9_refuses 28 = .ok (.iconst 1, 1) := dc_at daX9_refuses_0 14 rfl
theorem dX9_refuses_29 : decode cX9_refuses 29 = .ok (.ireturn, 1) := dc_at daX9_refuses_0 15 rfl
theorem dX9_refuses_30 : decode cX9_refuses 30 = .ok (.aload_n 0, 1) := dc_at daX9_refuses_0 16 rfl
theorem dX9_refuses_31 : decode cX9_refuses 31 = .ok (.getfield 13, 3) := dc_at daX9_refuses_0 17 rfl
theorem dX9_refuses_34 : decode cX9_refuses 34 = .ok (.bipush 6, 2) := dc_at daX9_refuses_0 18 rfl
theorem dX9_refuses_36 : decode cX9_refuses 36 = .ok (.iaload, 1) := dc_at daX9_refuses_0 19 rfl
theorem dX9_refuses_37 : decode cX9_refuses 37 = .ok (.ifCond .ne 7, 3) := dc_at daX9_refuses_0 20 rfl
theorem dX9_refuses_40 : decode cX9_refuses 40 = .ok (.iconst 2, 1) := dc_at daX9_refuses_0 21 rfl
theorem dX9_refuses_41 : decode cX9_refuses 41 = .ok (.goto 20, 3) := dc_at daX9_refuses_0 22 rfl
theorem dX9_refuses_44 : decode cX9_refuses 44 = .ok (.aload_n 0, 1) := dc_at daX9_refuses_0 23 rfl
def dlX9_refuses_1 : List (Nat × Jvm.ClassFile.Instr × Nat) := [(45, .getfield 13, 3), (48, .iconst 1, 1), (49, .iaload, 1), (50, .sipush 9999, 3), (53, .if_icmp .ne 7, 3), (56, .iconst 3, 1), (57, .goto 4, 3), (60, .iconst 0, 1), (61, .ireturn, 1)]
theorem daX9_refuses_1 : dlX9_refuses_1.all (dcK cX9_refuses) = true := by decide +kernel
theorem dX9_refuses_45 : decode cX9_refuses 45 = .ok (.getfield 13, 3) := dc_at daX9_refuses_1 0 rfl
theorem dX9_refuses_48 : decode cX9_refuses 48 = .ok (.iconst 1, 1) := dc_at daX9_refuses_1 1 rfl
theorem dX9_refuses_49 : decode cX9_refuses 49 = .ok (.iaload, 1) := dc_at daX9_refuses_1 2 rfl
theorem dX9_refuses_50 : decode cX9_refuses 50 = .ok (.sipush 9999, 3) := dc_at daX9_refuses_1 3 rfl
theorem dX9_refuses_53 : decode cX9_refuses 53 = .ok (.if_icmp .ne 7, 3) := dc_at daX9_refuses_1 4 rfl
theorem dX9_refuses_56 : decode cX9_refuses 56 = .ok (.iconst 3, 1) := dc_at daX9_refuses_1 5 rfl
theorem dX9_refuses_57 : decode cX9_refuses 57 = .ok (.goto 4, 3) := dc_at daX9_refuses_1 6 rfl
theorem dX9_refuses_60 : decode cX9_refuses 60 = .ok (.iconst 0, 1) := dc_at daX9_refuses_1 7 rfl
theorem dX9_refuses_61 : decode cX9_refuses 61 = .ok (.ireturn, 1) := dc_at daX9_refuses_1 8 rfl
def dlX9_goes_0 : List (Nat × Jvm.ClassFile.Instr × Nat) := [(0, .aload_n 0, 1), (1, .getfield 13, 3), (4, .iconst 2, 1), (5, .aload_n 0, 1), (6, .getfield 13, 3), (9, .iconst 2, 1), (10, .iaload, 1), (11, .iload_n 1, 1), (12, .i2l, 1), (13, .invokestatic 198, 3), (16, .iastore, 1), (17, .aload_n 0, 1), (18, .getfield 13, 3), (21, .bipush 6, 2), (23, .dup2, 1), (24, .iaload, 1), (25, .iconst 1, 1), (26, .isub, 1), (27, .iastore, 1), (28, .aload_n 0, 1), (29, .getfield 13, 3), (32, .iconst 1, 1), (33, .dup2, 1), (34, .iaload, 1)]
theorem daX9_goes_0 : dlX9_goes_0.all (dcK cX9_goes) = true := by decide +kernel
theorem dX9_goes_0 : decode cX9_goes 0 = .ok (.aload_n 0, 1) := dc_at daX9_goes_0 0 rfl
theorem dX9_goes_1 : decode cX9_goes 1 = .ok (.getfield 13, 3) := dc_at daX9_goes_0 1 rfl
theorem dX9_goes_4 : decode cX9_goes 4 = .ok (.iconst 2, 1) := dc_at daX9_goes_0 2 rfl
theorem dX9_goes_5 : decode cX9_goes 5 = .ok (.aload_n 0, 1) := dc_at daX9_goes_0 3 rfl
theorem dX9_goes_6 : decode cX9_goes 6 = .ok (.getfield 13, 3) := dc_at daX9_goes_0 4 rfl
theorem dX9_goes_9 : decode cX9_goes 9 = .ok (.iconst 2, 1) := dc_at daX9_goes_0 5 rfl
theorem dX9_goes_10 : decode cX9_goes 10 = .ok (.iaload, 1) := dc_at daX9_goes_0 6 rfl
theorem dX9_goes_11 : decode cX9_goes 11 = .ok (.iload_n 1, 1) := dc_at daX9_goes_0 7 rfl
theorem dX9_goes_12 : decode cX9_goes 12 = .ok (.i2l, 1) := dc_at daX9_goes_0 8 rfl
theorem dX9_goes_13 : decode cX9_goes 13 = .ok (.invokestatic 198, 3) := dc_at daX9_goes_0 9 rfl
theorem dX9_goes_16 : decode cX9_goes 16 = .ok (.iastore, 1) := dc_at daX9_goes_0 10 rfl
theorem dX9_goes_17 : decode cX9_goes 17 = .ok (.aload_n 0, 1) := dc_at daX9_goes_0 11 rfl
theorem dX9_goes_18 : decode cX9_goes 18 = .ok (.getfield 13, 3) := dc_at daX9_goes_0 12 rfl
theorem dX9_goes_21 : decode cX9_goes 21 = .ok (.bipush 6, 2) := dc_at daX9_goes_0 13 rfl
theorem dX9_goes_23 : decode cX9_goes 23 = .ok (.dup2, 1) := dc_at daX9_goes_0 14 rfl
theorem dX9_goes_24 : decode cX9_goes 24 = .ok (.iaload, 1) := dc_at daX9_goes_0 15 rfl
theorem dX9_goes_25 : decode cX9_goes 25 = .ok (.iconst 1, 1) := dc_at daX9_goes_0 16 rfl
theorem dX9_goes_26 : decode cX9_goes 26 = .ok (.isub, 1) := dc_at daX9_goes_0 17 rfl
theorem dX9_goes_27 : decode cX9_goes 27 = .ok (.iastore, 1) := dc_at daX9_goes_0 18 rfl
theorem dX9_goes_28 : decode cX9_goes 28 = .ok (.aload_n 0, 1) := dc_at daX9_goes_0 19 rfl
theorem dX9_goes_29 : decode cX9_goes 29 = .ok (.getfield 13, 3) := dc_at daX9_goes_0 20 rfl
theorem dX9_goes_32 : decode cX9_goes 32 = .ok (.iconst 1, 1) := dc_at daX9_goes_0 21 rfl
theorem dX9_goes_33 : decode cX9_goes 33 = .ok (.dup2, 1) := dc_at daX9_goes_0 22 rfl
theorem dX9_goes_34 : decode cX9_goes 34 = .ok (.iaload, 1) := dc_at daX9_goes_0 23 rfl
def dlX9_goes_1 : List (Nat × Jvm.ClassFile.Instr × Nat) := [(35, .iconst 1, 1), (36, .iadd, 1), (37, .iastore, 1), (38, .iconst 0, 1), (39, .istore_n 3, 1), (40, .iconst 0, 1), (41, .istore 4, 2), (43, .iload 4, 2), (45, .aload_n 0, 1), (46, .getfield 13, 3), (49, .iconst 0, 1), (50, .iaload, 1), (51, .if_icmp .ge 146, 3), (54, .iload_n 2, 1), (55, .ifCond .ne 142, 3), (58, .aload_n 0, 1), (59, .aload_n 0, 1), (60, .getfield 13, 3), (63, .iconst 2, 1), (64, .iaload, 1), (65, .iload 4, 2), (67, .invokevirtual 177, 3), (70, .istore 5, 2), (72, .aload_n 0, 1)]
theorem daX9_goes_1 : dlX9_goes_1.all (dcK cX9_goes) = true := by decide +kernel
theorem dX9_goes_35 : decode cX9_goes 35 = .ok (.iconst 1, 1) := dc_at daX9_goes_1 0 rfl
theorem dX9_goes_36 : decode cX9_goes 36 = .ok (.iadd, 1) := dc_at daX9_goes_1 1 rfl
theorem dX9_goes_37 : decode cX9_goes 37 = .ok (.iastore, 1) := dc_at daX9_goes_1 2 rfl
theorem dX9_goes_38 : decode cX9_goes 38 = .ok (.iconst 0, 1) := dc_at daX9_goes_1 3 rfl
theorem dX9_goes_39 : decode cX9_goes 39 = .ok (.istore_n 3, 1) := dc_at daX9_goes_1 4 rfl
theorem dX9_goes_40 : decode cX9_goes 40 = .ok (.iconst 0, 1) := dc_at daX9_goes_1 5 rfl
theorem dX9_goes_41 : decode cX9_goes 41 = .ok (.istore 4, 2) := dc_at daX9_goes_1 6 rfl
theorem dX9_goes_43 : decode cX9_goes 43 = .ok (.iload 4, 2) := dc_at daX9_goes_1 7 rfl
theorem dX9_goes_45 : decode cX9_goes 45 = .ok (.aload_n 0, 1) := dc_at daX9_goes_1 8 rfl
theorem dX9_goes_46 : decode cX9_goes 46 = .ok (.getfield 13, 3) := dc_at daX9_goes_1 9 rfl
theorem dX9_goes_49 : decode cX9_goes 49 = .ok (.iconst 0, 1) := dc_at daX9_goes_1 10 rfl
theorem dX9_goes_50 : decode cX9_goes 50 = .ok (.iaload, 1) := dc_at daX9_goes_1 11 rfl
theorem dX9_goes_51 : decode cX9_goes 51 = .ok (.if_icmp .ge 146, 3) := dc_at daX9_goes_1 12 rfl
theorem dX9_goes_54 : decode cX9_goes 54 = .ok (.iload_n 2, 1) := dc_at daX9_goes_1 13 rfl
theorem dX9_goes_55 : decode cX9_goes 55 = .ok (.ifCond .ne 142, 3) := dc_at daX9_goes_1 14 rfl
theorem dX9_goes_58 : decode cX9_goes 58 = .ok (.aload_n 0, 1) := dc_at daX9_goes_1 15 rfl
theorem dX9_goes_59 : decode cX9_goes 59 = .ok (.aload_n 0, 1) := dc_at daX9_goes_1 16 rfl
theorem dX9_goes_60 : decode cX9_goes 60 = .ok (.getfield 13, 3) := dc_at daX9_goes_1 17 rfl
theorem dX9_goes_63 : decode cX9_goes 63 = .ok (.iconst 2, 1) := dc_at daX9_goes_1 18 rfl
theorem dX9_goes_64 : decode cX9_goes 64 = .ok (.iaload, 1) := dc_at daX9_goes_1 19 rfl
theorem dX9_goes_65 : decode cX9_goes 65 = .ok (.iload 4, 2) := dc_at daX9_goes_1 20 rfl
theorem dX9_goes_67 : decode cX9_goes 67 = .ok (.invokevirtual 177, 3) := dc_at daX9_goes_1 21 rfl
theorem dX9_goes_70 : decode cX9_goes 70 = .ok (.istore 5, 2) := dc_at daX9_goes_1 22 rfl
theorem dX9_goes_72 : decode cX9_goes 72 = .ok (.aload_n 0, 1) := dc_at daX9_goes_1 23 rfl
def dlX9_goes_2 : List (Nat × Jvm.ClassFile.Instr × Nat) := [(73, .getfield 13, 3), (76, .bipush 32, 2), (78, .iload 4, 2), (80, .iadd, 1), (81, .iaload, 1), (82, .iload 5, 2), (84, .if_icmp .ge 16, 3), (87, .aload_n 0, 1), (88, .getfield 13, 3), (91, .bipush 32, 2), (93, .iload 4, 2), (95, .iadd, 1), (96, .iaload, 1), (97, .goto 5, 3), (100, .iload 5, 2), (102, .istore 5, 2), (104, .aload_n 0, 1), (105, .getfield 13, 3), (108, .bipush 16, 2), (110, .iload 4, 2), (112, .iadd, 1), (113, .iaload, 1), (114, .iload 5, 2), (116, .if_icmp .ge 16, 3)]
theorem daX9_goes_2 : dlX9_goes_2.all (dcK cX9_goes) = true := by decide +kernel
theorem dX9_goes_73 : decode cX9_goes 73 = .ok (.getfield 13, 3) := dc_at daX9_goes_2 0 rfl
theorem dX9_goes_76 : decode cX9_goes 76 = .ok (.bipush 32, 2) := dc_at daX9_goes_2 1 rfl
theorem dX9_goes_78 : decode cX9_goes 78 = .ok (.iload 4, 2) := dc_at daX9_goes_2 2 rfl
theorem dX9_goes_80 : decode cX9_goes 80 = .ok (.iadd, 1) := dc_at daX9_goes_2 3 rfl
theorem dX9_goes_81 : decode cX9_goes 81 = .ok (.iaload, 1) := dc_at daX9_goes_2 4 rfl
theorem dX9_goes_82 : decode cX9_goes 82 = .ok (.iload 5, 2) := dc_at daX9_goes_2 5 rfl
theorem dX9_goes_84 : decode cX9_goes 84 = .ok (.if_icmp .ge 16, 3) := dc_at daX9_goes_2 6 rfl
theorem dX9_goes_87 : decode cX9_goes 87 = .ok (.aload_n 0, 1) := dc_at daX9_goes_2 7 rfl
theorem dX9_goes_88 : decode cX9_goes 88 = .ok (.getfield 13, 3) := dc_at daX9_goes_2 8 rfl
theorem dX9_goes_91 : decode cX9_goes 91 = .ok (.bipush 32, 2) := dc_at daX9_goes_2 9 rfl
theorem dX9_goes_93 : decode cX9_goes 93 = .ok (.iload 4, 2) := dc_at daX9_goes_2 10 rfl
theorem dX9_goes_95 : decode cX9_goes 95 = .ok (.iadd, 1) := dc_at daX9_goes_2 11 rfl
theorem dX9_goes_96 : decode cX9_goes 96 = .ok (.iaload, 1) := dc_at daX9_goes_2 12 rfl
theorem dX9_goes_97 : decode cX9_goes 97 = .ok (.goto 5, 3) := dc_at daX9_goes_2 13 rfl
theorem dX9_goes_100 : decode cX9_goes 100 = .ok (.iload 5, 2) := dc_at daX9_goes_2 14 rfl
theorem dX9_goes_102 : decode cX9_goes 102 = .ok (.istore 5, 2) := dc_at daX9_goes_2 15 rfl
theorem dX9_goes_104 : decode cX9_goes 104 = .ok (.aload_n 0, 1) := dc_at daX9_goes_2 16 rfl
theorem dX9_goes_105 : decode cX9_goes 105 = .ok (.getfield 13, 3) := dc_at daX9_goes_2 17 rfl
theorem dX9_goes_108 : decode cX9_goes 108 = .ok (.bipush 16, 2) := dc_at daX9_goes_2 18 rfl
theorem dX9_goes_110 : decode cX9_goes 110 = .ok (.iload 4, 2) := dc_at daX9_goes_2 19 rfl
theorem dX9_goes_112 : decode cX9_goes 112 = .ok (.iadd, 1) := dc_at daX9_goes_2 20 rfl
theorem dX9_goes_113 : decode cX9_goes 113 = .ok (.iaload, 1) := dc_at daX9_goes_2 21 rfl
theorem dX9_goes_114 : decode cX9_goes 114 = .ok (.iload 5, 2) := dc_at daX9_goes_2 22 rfl
theorem dX9_goes_116 : decode cX9_goes 116 = .ok (.if_icmp .ge 16, 3) := dc_at daX9_goes_2 23 rfl
def dlX9_goes_3 : List (Nat × Jvm.ClassFile.Instr × Nat) := [(119, .aload_n 0, 1), (120, .getfield 13, 3), (123, .bipush 16, 2), (125, .iload 4, 2), (127, .iadd, 1), (128, .iaload, 1), (129, .goto 5, 3), (132, .iload 5, 2), (134, .istore 5, 2), (136, .aload_n 0, 1), (137, .getfield 13, 3), (140, .bipush 16, 2), (142, .iload 4, 2), (144, .iadd, 1), (145, .dup2, 1), (146, .iaload, 1), (147, .iload 5, 2), (149, .isub, 1), (150, .iastore, 1), (151, .aload_n 0, 1), (152, .getfield 13, 3), (155, .bipush 80, 2), (157, .iload 4, 2), (159, .iadd, 1)]
theorem daX9_goes_3 : dlX9_goes_3.all (dcK cX9_goes) = true := by decide +kernel
theorem dX9_goes_119 : decode cX9_goes 119 = .ok (.aload_n 0, 1) := dc_at daX9_goes_3 0 rfl
theorem dX9_goes_120 : decode cX9_goes 120 = .ok (.getfield 13, 3) := dc_at daX9_goes_3 1 rfl
theorem dX9_goes_123 : decode cX9_goes 123 = .ok (.bipush 16, 2) := dc_at daX9_goes_3 2 rfl
theorem dX9_goes_125 : decode cX9_goes 125 = .ok (.iload 4, 2) := dc_at daX9_goes_3 3 rfl
theorem dX9_goes_127 : decode cX9_goes 127 = .ok (.iadd, 1) := dc_at daX9_goes_3 4 rfl
theorem dX9_goes_128 : decode cX9_goes 128 = .ok (.iaload, 1) := dc_at daX9_goes_3 5 rfl
theorem dX9_goes_129 : decode cX9_goes 129 = .ok (.goto 5, 3) := dc_at daX9_goes_3 6 rfl
theorem dX9_goes_132 : decode cX9_goes 132 = .ok (.iload 5, 2) := dc_at daX9_goes_3 7 rfl
theorem dX9_goes_134 : decode cX9_goes 134 = .ok (.istore 5, 2) := dc_at daX9_goes_3 8 rfl
theorem dX9_goes_136 : decode cX9_goes 136 = .ok (.aload_n 0, 1) := dc_at daX9_goes_3 9 rfl
theorem dX9_goes_137 : decode cX9_goes 137 = .ok (.getfield 13, 3) := dc_at daX9_goes_3 10 rfl
theorem dX9_goes_140 : decode cX9_goes 140 = .ok (.bipush 16, 2) := dc_at daX9_goes_3 11 rfl
theorem dX9_goes_142 : decode cX9_goes 142 = .ok (.iload 4, 2) := dc_at daX9_goes_3 12 rfl
theorem dX9_goes_144 : decode cX9_goes 144 = .ok (.iadd, 1) := dc_at daX9_goes_3 13 rfl
theorem dX9_goes_145 : decode cX9_goes 145 = .ok (.dup2, 1) := dc_at daX9_goes_3 14 rfl
theorem dX9_goes_146 : decode cX9_goes 146 = .ok (.iaload, 1) := dc_at daX9_goes_3 15 rfl
theorem dX9_goes_147 : decode cX9_goes 147 = .ok (.iload 5, 2) := dc_at daX9_goes_3 16 rfl
theorem dX9_goes_149 : decode cX9_goes 149 = .ok (.isub, 1) := dc_at daX9_goes_3 17 rfl
theorem dX9_goes_150 : decode cX9_goes 150 = .ok (.iastore, 1) := dc_at daX9_goes_3 18 rfl
theorem dX9_goes_151 : decode cX9_goes 151 = .ok (.aload_n 0, 1) := dc_at daX9_goes_3 19 rfl
theorem dX9_goes_152 : decode cX9_goes 152 = .ok (.getfield 13, 3) := dc_at daX9_goes_3 20 rfl
theorem dX9_goes_155 : decode cX9_goes 155 = .ok (.bipush 80, 2) := dc_at daX9_goes_3 21 rfl
theorem dX9_goes_157 : decode cX9_goes 157 = .ok (.iload 4, 2) := dc_at daX9_goes_3 22 rfl
theorem dX9_goes_159 : decode cX9_goes 159 = .ok (.iadd, 1) := dc_at daX9_goes_3 23 rfl
def dlX9_goes_4 : List (Nat × Jvm.ClassFile.Instr × Nat) := [(160, .dup2, 1), (161, .iaload, 1), (162, .iload 5, 2), (164, .iadd, 1), (165, .iastore, 1), (166, .aload_n 0, 1), (167, .getfield 30, 3), (170, .aload_n 0, 1), (171, .getfield 13, 3), (174, .bipush 64, 2), (176, .iload 4, 2), (178, .iadd, 1), (179, .iaload, 1), (180, .dup2, 1), (181, .iaload, 1), (182, .iload 5, 2), (184, .iadd, 1), (185, .iastore, 1), (186, .iload_n 3, 1), (187, .iload 5, 2), (189, .iadd, 1), (190, .istore_n 3, 1), (191, .iinc 4 1, 3), (194, .goto (-151), 3)]
theorem daX9_goes_4 : dlX9_goes_4.all (dcK cX9_goes) = true := by decide +kernel
theorem dX9_goes_160 : decode cX9_goes 160 = .ok (.dup2, 1) := dc_at daX9_goes_4 0 rfl
theorem dX9_goes_161 : decode cX9_goes 161 = .ok (.iaload, 1) := dc_at daX9_goes_4 1 rfl
theorem dX9_goes_162 : decode cX9_goes 162 = .ok (.iload 5, 2) := dc_at daX9_goes_4 2 rfl
theorem dX9_goes_164 : decode cX9_goes 164 = .ok (.iadd, 1) := dc_at daX9_goes_4 3 rfl
theorem dX9_goes_165 : decode cX9_goes 165 = .ok (.iastore, 1) := dc_at daX9_goes_4 4 rfl
theorem dX9_goes_166 : decode cX9_goes 166 = .ok (.aload_n 0, 1) := dc_at daX9_goes_4 5 rfl
theorem dX9_goes_167 : decode cX9_goes 167 = .ok (.getfield 30, 3) := dc_at daX9_goes_4 6 rfl
theorem dX9_goes_170 : decode cX9_goes 170 = .ok (.aload_n 0, 1) := dc_at daX9_goes_4 7 rfl
theorem dX9_goes_171 : decode cX9_goes 171 = .ok (.getfield 13, 3) := dc_at daX9_goes_4 8 rfl
theorem dX9_goes_174 : decode cX9_goes 174 = .ok (.bipush 64, 2) := dc_at daX9_goes_4 9 rfl
theorem dX9_goes_176 : decode cX9_goes 176 = .ok (.iload 4, 2) := dc_at daX9_goes_4 10 rfl
theorem dX9_goes_178 : decode cX9_goes 178 = .ok (.iadd, 1) := dc_at daX9_goes_4 11 rfl
theorem dX9_goes_179 : decode cX9_goes 179 = .ok (.iaload, 1) := dc_at daX9_goes_4 12 rfl
theorem dX9_goes_180 : decode cX9_goes 180 = .ok (.dup2, 1) := dc_at daX9_goes_4 13 rfl
theorem dX9_goes_181 : decode cX9_goes 181 = .ok (.iaload, 1) := dc_at daX9_goes_4 14 rfl
theorem dX9_goes_182 : decode cX9_goes 182 = .ok (.iload 5, 2) := dc_at daX9_goes_4 15 rfl
theorem dX9_goes_184 : decode cX9_goes 184 = .ok (.iadd, 1) := dc_at daX9_goes_4 16 rfl
theorem dX9_goes_185 : decode cX9_goes 185 = .ok (.iastore, 1) := dc_at daX9_goes_4 17 rfl
theorem dX9_goes_186 : decode cX9_goes 186 = .ok (.iload_n 3, 1) := dc_at daX9_goes_4 18 rfl
theorem dX9_goes_187 : decode cX9_goes 187 = .ok (.iload 5, 2) := dc_at daX9_goes_4 19 rfl
theorem dX9_goes_189 : decode cX9_goes 189 = .ok (.iadd, 1) := dc_at daX9_goes_4 20 rfl
theorem dX9_goes_190 : decode cX9_goes 190 = .ok (.istore_n 3, 1) := dc_at daX9_goes_4 21 rfl
theorem dX9_goes_191 : decode cX9_goes 191 = .ok (.iinc 4 1, 3) := dc_at daX9_goes_4 22 rfl
theorem dX9_goes_194 : decode cX9_goes 194 = .ok (.goto (-151), 3) := dc_at daX9_goes_4 23 rfl
def dlX9_goes_5 : List (Nat × Jvm.ClassFile.Instr × Nat) := [(197, .iload_n 3, 1), (198, .ireturn, 1)]
theorem daX9_goes_5 : dlX9_goes_5.all (dcK cX9_goes) = true := by decide +kernel
theorem dX9_goes_197 : decode cX9_goes 197 = .ok (.iload_n 3, 1) := dc_at daX9_goes_5 0 rfl
theorem dX9_goes_198 : decode cX9_goes 198 = .ok (.ireturn, 1) := dc_at daX9_goes_5 1 rfl
def dlX9_minute_0 : List (Nat × Jvm.ClassFile.Instr × Nat) := [(0, .aload_n 0, 1), (1, .iconst 0, 1), (2, .putfield 1, 3), (5, .aload_n 0, 1), (6, .iload_n 1, 1), (7, .i2l, 1), (8, .invokevirtual 202, 3), (11, .istore_n 2, 1), (12, .iload_n 2, 1), (13, .iconst 1, 1), (14, .if_icmp .ne 8, 3), (17, .bipush (-2), 2), (19, .goto 18, 3), (22, .iload_n 2, 1), (23, .ifCond .eq 8, 3), (26, .bipush (-5), 2), (28, .goto 9, 3), (31, .aload_n 0, 1), (32, .iload_n 1, 1), (33, .iconst 0, 1), (34, .invokevirtual 206, 3), (37, .ireturn, 1)]
theorem daX9_minute_0 : dlX9_minute_0.all (dcK cX9_minute) = true := by decide +kernel
theorem dX9_minute_0 : decode cX9_minute 0 = .ok (.aload_n 0, 1) := dc_at daX9_minute_0 0 rfl
theorem dX9_minute_1 : decode cX9_minute 1 = .ok (.iconst 0, 1) := dc_at daX9_minute_0 1 rfl
theorem dX9_minute_2 : decode cX9_minute 2 = .ok (.putfield 1, 3) := dc_at daX9_minute_0 2 rfl
theorem dX9_minute_5 : decode cX9_minute 5 = .ok (.aload_n 0, 1) := dc_at daX9_minute_0 3 rfl
theorem dX9_minute_6 : decode cX9_minute 6 = .ok (.iload_n 1, 1) := dc_at daX9_minute_0 4 rfl
theorem dX9_minute_7 : decode cX9_minute 7 = .ok (.i2l, 1) := dc_at daX9_minute_0 5 rfl
theorem dX9_minute_8 : decode cX9_minute 8 = .ok (.invokevirtual 202, 3) := dc_at daX9_minute_0 6 rfl
theorem dX9_minute_11 : decode cX9_minute 11 = .ok (.istore_n 2, 1) := dc_at daX9_minute_0 7 rfl
theorem dX9_minute_12 : decode cX9_minute 12 = .ok (.iload_n 2, 1) := dc_at daX9_minute_0 8 rfl
theorem dX9_minute_13 : decode cX9_minute 13 = .ok (.iconst 1, 1) := dc_at daX9_minute_0 9 rfl
theorem dX9_minute_14 : decode cX9_minute 14 = .ok (.if_icmp .ne 8, 3) := dc_at daX9_minute_0 10 rfl
theorem dX9_minute_17 : decode cX9_minute 17 = .ok (.bipush (-2), 2) := dc_at daX9_minute_0 11 rfl
theorem dX9_minute_19 : decode cX9_minute 19 = .ok (.goto 18, 3) := dc_at daX9_minute_0 12 rfl
theorem dX9_minute_22 : decode cX9_minute 22 = .ok (.iload_n 2, 1) := dc_at daX9_minute_0 13 rfl
theorem dX9_minute_23 : decode cX9_minute 23 = .ok (.ifCond .eq 8, 3) := dc_at daX9_minute_0 14 rfl
theorem dX9_minute_26 : decode cX9_minute 26 = .ok (.bipush (-5), 2) := dc_at daX9_minute_0 15 rfl
theorem dX9_minute_28 : decode cX9_minute 28 = .ok (.goto 9, 3) := dc_at daX9_minute_0 16 rfl
theorem dX9_minute_31 : decode cX9_minute 31 = .ok (.aload_n 0, 1) := dc_at daX9_minute_0 17 rfl
theorem dX9_minute_32 : decode cX9_minute 32 = .ok (.iload_n 1, 1) := dc_at daX9_minute_0 18 rfl
theorem dX9_minute_33 : decode cX9_minute 33 = .ok (.iconst 0, 1) := dc_at daX9_minute_0 19 rfl
theorem dX9_minute_34 : decode cX9_minute 34 = .ok (.invokevirtual 206, 3) := dc_at daX9_minute_0 20 rfl
theorem dX9_minute_37 : decode cX9_minute 37 = .ok (.ireturn, 1) := dc_at daX9_minute_0 21 rfl
def dlX9_keeps_0 : List (Nat × Jvm.ClassFile.Instr × Nat) := [(0, .iconst 0, 1), (1, .istore_n 2, 1), (2, .iload_n 2, 1), (3, .bipush 96, 2), (5, .if_icmp .ge 26, 3), (8, .aload_n 0, 1), (9, .getfield 33, 3), (12, .bipush 96, 2), (14, .iload_n 1, 1), (15, .imul, 1), (16, .iload_n 2, 1), (17, .iadd, 1), (18, .aload_n 0, 1), (19, .getfield 13, 3), (22, .iload_n 2, 1), (23, .iaload, 1), (24, .iastore, 1), (25, .iinc 2 1, 3), (28, .goto (-26), 3), (31, .return_, 1)]
theorem daX9_keeps_0 : dlX9_keeps_0.all (dcK cX9_keeps) = true := by decide +kernel
theorem dX9_keeps_0 : decode cX9_keeps 0 = .ok (.iconst 0, 1) := dc_at daX9_keeps_0 0 rfl
theorem dX9_keeps_1 : decode cX9_keeps 1 = .ok (.istore_n 2, 1) := dc_at daX9_keeps_0 1 rfl
theorem dX9_keeps_2 : decode cX9_keeps 2 = .ok (.iload_n 2, 1) := dc_at daX9_keeps_0 2 rfl
theorem dX9_keeps_3 : decode cX9_keeps 3 = .ok (.bipush 96, 2) := dc_at daX9_keeps_0 3 rfl
theorem dX9_keeps_5 : decode cX9_keeps 5 = .ok (.if_icmp .ge 26, 3) := dc_at daX9_keeps_0 4 rfl
theorem dX9_keeps_8 : decode cX9_keeps 8 = .ok (.aload_n 0, 1) := dc_at daX9_keeps_0 5 rfl
theorem dX9_keeps_9 : decode cX9_keeps 9 = .ok (.getfield 33, 3) := dc_at daX9_keeps_0 6 rfl
theorem dX9_keeps_12 : decode cX9_keeps 12 = .ok (.bipush 96, 2) := dc_at daX9_keeps_0 7 rfl
theorem dX9_keeps_14 : decode cX9_keeps 14 = .ok (.iload_n 1, 1) := dc_at daX9_keeps_0 8 rfl
theorem dX9_keeps_15 : decode cX9_keeps 15 = .ok (.imul, 1) := dc_at daX9_keeps_0 9 rfl
theorem dX9_keeps_16 : decode cX9_keeps 16 = .ok (.iload_n 2, 1) := dc_at daX9_keeps_0 10 rfl
theorem dX9_keeps_17 : decode cX9_keeps 17 = .ok (.iadd, 1) := dc_at daX9_keeps_0 11 rfl
theorem dX9_keeps_18 : decode cX9_keeps 18 = .ok (.aload_n 0, 1) := dc_at daX9_keeps_0 12 rfl
theorem dX9_keeps_19 : decode cX9_keeps 19 = .ok (.getfield 13, 3) := dc_at daX9_keeps_0 13 rfl
theorem dX9_keeps_22 : decode cX9_keeps 22 = .ok (.iload_n 2, 1) := dc_at daX9_keeps_0 14 rfl
theorem dX9_keeps_23 : decode cX9_keeps 23 = .ok (.iaload, 1) := dc_at daX9_keeps_0 15 rfl
theorem dX9_keeps_24 : decode cX9_keeps 24 = .ok (.iastore, 1) := dc_at daX9_keeps_0 16 rfl
theorem dX9_keeps_25 : decode cX9_keeps 25 = .ok (.iinc 2 1, 3) := dc_at daX9_keeps_0 17 rfl
theorem dX9_keeps_28 : decode cX9_keeps 28 = .ok (.goto (-26), 3) := dc_at daX9_keeps_0 18 rfl
theorem dX9_keeps_31 : decode cX9_keeps 31 = .ok (.return_, 1) := dc_at daX9_keeps_0 19 rfl
def dlX9_isAgain_0 : List (Nat × Jvm.ClassFile.Instr × Nat) := [(0, .iconst 0, 1), (1, .istore_n 2, 1), (2, .iload_n 2, 1), (3, .bipush 96, 2), (5, .if_icmp .ge 26, 3), (8, .aload_n 0, 1), (9, .getfield 13, 3), (12, .iload_n 2, 1), (13, .aload_n 0, 1), (14, .getfield 33, 3), (17, .bipush 96, 2), (19, .iload_n 1, 1), (20, .imul, 1), (21, .iload_n 2, 1), (22, .iadd, 1), (23, .iaload, 1), (24, .iastore, 1), (25, .iinc 2 1, 3), (28, .goto (-26), 3), (31, .return_, 1)]
theorem daX9_isAgain_0 : dlX9_isAgain_0.all (dcK cX9_isAgain) = true := by decide +kernel
theorem dX9_isAgain_0 : decode cX9_isAgain 0 = .ok (.iconst 0, 1) := dc_at daX9_isAgain_0 0 rfl
theorem dX9_isAgain_1 : decode cX9_isAgain 1 = .ok (.istore_n 2, 1) := dc_at daX9_isAgain_0 1 rfl
theorem dX9_isAgain_2 : decode cX9_isAgain 2 = .ok (.iload_n 2, 1) := dc_at daX9_isAgain_0 2 rfl
theorem dX9_isAgain_3 : decode cX9_isAgain 3 = .ok (.bipush 96, 2) := dc_at daX9_isAgain_0 3 rfl
theorem dX9_isAgain_5 : decode cX9_isAgain 5 = .ok (.if_icmp .ge 26, 3) := dc_at daX9_isAgain_0 4 rfl
theorem dX9_isAgain_8 : decode cX9_isAgain 8 = .ok (.aload_n 0, 1) := dc_at daX9_isAgain_0 5 rfl
theorem dX9_isAgain_9 : decode cX9_isAgain 9 = .ok (.getfield 13, 3) := dc_at daX9_isAgain_0 6 rfl
theorem dX9_isAgain_12 : decode cX9_isAgain 12 = .ok (.iload_n 2, 1) := dc_at daX9_isAgain_0 7 rfl
theorem dX9_isAgain_13 : decode cX9_isAgain 13 = .ok (.aload_n 0, 1) := dc_at daX9_isAgain_0 8 rfl
theorem dX9_isAgain_14 : decode cX9_isAgain 14 = .ok (.getfield 33, 3) := dc_at daX9_isAgain_0 9 rfl
theorem dX9_isAgain_17 : decode cX9_isAgain 17 = .ok (.bipush 96, 2) := dc_at daX9_isAgain_0 10 rfl
theorem dX9_isAgain_19 : decode cX9_isAgain 19 = .ok (.iload_n 1, 1) := dc_at daX9_isAgain_0 11 rfl
theorem dX9_isAgain_20 : decode cX9_isAgain 20 = .ok (.imul, 1) := dc_at daX9_isAgain_0 12 rfl
theorem dX9_isAgain_21 : decode cX9_isAgain 21 = .ok (.iload_n 2, 1) := dc_at daX9_isAgain_0 13 rfl
theorem dX9_isAgain_22 : decode cX9_isAgain 22 = .ok (.iadd, 1) := dc_at daX9_isAgain_0 14 rfl
theorem dX9_isAgain_23 : decode cX9_isAgain 23 = .ok (.iaload, 1) := dc_at daX9_isAgain_0 15 rfl
theorem dX9_isAgain_24 : decode cX9_isAgain 24 = .ok (.iastore, 1) := dc_at daX9_isAgain_0 16 rfl
theorem dX9_isAgain_25 : decode cX9_isAgain 25 = .ok (.iinc 2 1, 3) := dc_at daX9_isAgain_0 17 rfl
theorem dX9_isAgain_28 : decode cX9_isAgain 28 = .ok (.goto (-26), 3) := dc_at daX9_isAgain_0 18 rfl
theorem dX9_isAgain_31 : decode cX9_isAgain 31 = .ok (.return_, 1) := dc_at daX9_isAgain_0 19 rfl
def dlX9_movesOf_0 : List (Nat × Jvm.ClassFile.Instr × Nat) := [(0, .aload_n 0, 1), (1, .iconst 0, 1), (2, .putfield 210, 3), (5, .aload_n 0, 1), (6, .iconst 0, 1), (7, .putfield 213, 3), (10, .iconst 0, 1), (11, .istore_n 2, 1), (12, .iload_n 2, 1), (13, .aload_n 0, 1), (14, .getfield 54, 3), (17, .iload_n 1, 1), (18, .iaload, 1), (19, .if_icmp .ge 63, 3), (22, .aload_n 0, 1), (23, .aload_n 0, 1), (24, .aload_n 0, 1), (25, .getfield 57, 3), (28, .bipush 40, 2), (30, .iload_n 1, 1), (31, .imul, 1), (32, .iload_n 2, 1), (33, .iadd, 1), (34, .laload, 1)]
theorem daX9_movesOf_0 : dlX9_movesOf_0.all (dcK cX9_movesOf) = true := by decide +kernel
theorem dX9_movesOf_0 : decode cX9_movesOf 0 = .ok (.aload_n 0, 1) := dc_at daX9_movesOf_0 0 rfl
theorem dX9_movesOf_1 : decode cX9_movesOf 1 = .ok (.iconst 0, 1) := dc_at daX9_movesOf_0 1 rfl
theorem dX9_movesOf_2 : decode cX9_movesOf 2 = .ok (.putfield 210, 3) := dc_at daX9_movesOf_0 2 rfl
theorem dX9_movesOf_5 : decode cX9_movesOf 5 = .ok (.aload_n 0, 1) := dc_at daX9_movesOf_0 3 rfl
theorem dX9_movesOf_6 : decode cX9_movesOf 6 = .ok (.iconst 0, 1) := dc_at daX9_movesOf_0 4 rfl
theorem dX9_movesOf_7 : decode cX9_movesOf 7 = .ok (.putfield 213, 3) := dc_at daX9_movesOf_0 5 rfl
theorem dX9_movesOf_10 : decode cX9_movesOf 10 = .ok (.iconst 0, 1) := dc_at daX9_movesOf_0 6 rfl
theorem dX9_movesOf_11 : decode cX9_movesOf 11 = .ok (.istore_n 2, 1) := dc_at daX9_movesOf_0 7 rfl
theorem dX9_movesOf_12 : decode cX9_movesOf 12 = .ok (.iload_n 2, 1) := dc_at daX9_movesOf_0 8 rfl
theorem dX9_movesOf_13 : decode cX9_movesOf 13 = .ok (.aload_n 0, 1) := dc_at daX9_movesOf_0 9 rfl
theorem dX9_movesOf_14 : decode cX9_movesOf 14 = .ok (.getfield 54, 3) := dc_at daX9_movesOf_0 10 rfl
theorem dX9_movesOf_17 : decode cX9_movesOf 17 = .ok (.iload_n 1, 1) := dc_at daX9_movesOf_0 11 rfl
theorem dX9_movesOf_18 : decode cX9_movesOf 18 = .ok (.iaload, 1) := dc_at daX9_movesOf_0 12 rfl
theorem dX9_movesOf_19 : decode cX9_movesOf 19 = .ok (.if_icmp .ge 63, 3) := dc_at daX9_movesOf_0 13 rfl
theorem dX9_movesOf_22 : decode cX9_movesOf 22 = .ok (.aload_n 0, 1) := dc_at daX9_movesOf_0 14 rfl
theorem dX9_movesOf_23 : decode cX9_movesOf 23 = .ok (.aload_n 0, 1) := dc_at daX9_movesOf_0 15 rfl
theorem dX9_movesOf_24 : decode cX9_movesOf 24 = .ok (.aload_n 0, 1) := dc_at daX9_movesOf_0 16 rfl
theorem dX9_movesOf_25 : decode cX9_movesOf 25 = .ok (.getfield 57, 3) := dc_at daX9_movesOf_0 17 rfl
theorem dX9_movesOf_28 : decode cX9_movesOf 28 = .ok (.bipush 40, 2) := dc_at daX9_movesOf_0 18 rfl
theorem dX9_movesOf_30 : decode cX9_movesOf 30 = .ok (.iload_n 1, 1) := dc_at daX9_movesOf_0 19 rfl
theorem dX9_movesOf_31 : decode cX9_movesOf 31 = .ok (.imul, 1) := dc_at daX9_movesOf_0 20 rfl
theorem dX9_movesOf_32 : decode cX9_movesOf 32 = .ok (.iload_n 2, 1) := dc_at daX9_movesOf_0 21 rfl
theorem dX9_movesOf_33 : decode cX9_movesOf 33 = .ok (.iadd, 1) := dc_at daX9_movesOf_0 22 rfl
theorem dX9_movesOf_34 : decode cX9_movesOf 34 = .ok (.laload, 1) := dc_at daX9_movesOf_0 23 rfl
def dlX9_movesOf_1 : List (Nat × Jvm.ClassFile.Instr × Nat) := [(35, .invokevirtual 202, 3), (38, .putfield 210, 3), (41, .aload_n 0, 1), (42, .getfield 210, 3), (45, .ifCond .eq 5, 3), (48, .iload_n 2, 1), (49, .ireturn, 1), (50, .aload_n 0, 1), (51, .dup, 1), (52, .getfield 213, 3), (55, .aload_n 0, 1), (56, .aload_n 0, 1), (57, .getfield 57, 3), (60, .bipush 40, 2), (62, .iload_n 1, 1), (63, .imul, 1), (64, .iload_n 2, 1), (65, .iadd, 1), (66, .laload, 1), (67, .l2i, 1), (68, .iconst 0, 1), (69, .invokevirtual 206, 3), (72, .iadd, 1), (73, .putfield 213, 3)]
theorem daX9_movesOf_1 : dlX9_movesOf_1.all (dcK cX9_movesOf) = true := by decide +kernel
theorem dX9_movesOf_35 : decode cX9_movesOf 35 = .ok (.invokevirtual 202, 3) := dc_at daX9_movesOf_1 0 rfl
theorem dX9_movesOf_38 : decode cX9_movesOf 38 = .ok (.putfield 210, 3) := dc_at daX9_movesOf_1 1 rfl
theorem dX9_movesOf_41 : decode cX9_movesOf 41 = .ok (.aload_n 0, 1) := dc_at daX9_movesOf_1 2 rfl
theorem dX9_movesOf_42 : decode cX9_movesOf 42 = .ok (.getfield 210, 3) := dc_at daX9_movesOf_1 3 rfl
theorem dX9_movesOf_45 : decode cX9_movesOf 45 = .ok (.ifCond .eq 5, 3) := dc_at daX9_movesOf_1 4 rfl
theorem dX9_movesOf_48 : decode cX9_movesOf 48 = .ok (.iload_n 2, 1) := dc_at daX9_movesOf_1 5 rfl
theorem dX9_movesOf_49 : decode cX9_movesOf 49 = .ok (.ireturn, 1) := dc_at daX9_movesOf_1 6 rfl
theorem dX9_movesOf_50 : decode cX9_movesOf 50 = .ok (.aload_n 0, 1) := dc_at daX9_movesOf_1 7 rfl
theorem dX9_movesOf_51 : decode cX9_movesOf 51 = .ok (.dup, 1) := dc_at daX9_movesOf_1 8 rfl
theorem dX9_movesOf_52 : decode cX9_movesOf 52 = .ok (.getfield 213, 3) := dc_at daX9_movesOf_1 9 rfl
theorem dX9_movesOf_55 : decode cX9_movesOf 55 = .ok (.aload_n 0, 1) := dc_at daX9_movesOf_1 10 rfl
theorem dX9_movesOf_56 : decode cX9_movesOf 56 = .ok (.aload_n 0, 1) := dc_at daX9_movesOf_1 11 rfl
theorem dX9_movesOf_57 : decode cX9_movesOf 57 = .ok (.getfield 57, 3) := dc_at daX9_movesOf_1 12 rfl
theorem dX9_movesOf_60 : decode cX9_movesOf 60 = .ok (.bipush 40, 2) := dc_at daX9_movesOf_1 13 rfl
theorem dX9_movesOf_62 : decode cX9_movesOf 62 = .ok (.iload_n 1, 1) := dc_at daX9_movesOf_1 14 rfl
theorem dX9_movesOf_63 : decode cX9_movesOf 63 = .ok (.imul, 1) := dc_at daX9_movesOf_1 15 rfl
theorem dX9_movesOf_64 : decode cX9_movesOf 64 = .ok (.iload_n 2, 1) := dc_at daX9_movesOf_1 16 rfl
theorem dX9_movesOf_65 : decode cX9_movesOf 65 = .ok (.iadd, 1) := dc_at daX9_movesOf_1 17 rfl
theorem dX9_movesOf_66 : decode cX9_movesOf 66 = .ok (.laload, 1) := dc_at daX9_movesOf_1 18 rfl
theorem dX9_movesOf_67 : decode cX9_movesOf 67 = .ok (.l2i, 1) := dc_at daX9_movesOf_1 19 rfl
theorem dX9_movesOf_68 : decode cX9_movesOf 68 = .ok (.iconst 0, 1) := dc_at daX9_movesOf_1 20 rfl
theorem dX9_movesOf_69 : decode cX9_movesOf 69 = .ok (.invokevirtual 206, 3) := dc_at daX9_movesOf_1 21 rfl
theorem dX9_movesOf_72 : decode cX9_movesOf 72 = .ok (.iadd, 1) := dc_at daX9_movesOf_1 22 rfl
theorem dX9_movesOf_73 : decode cX9_movesOf 73 = .ok (.putfield 213, 3) := dc_at daX9_movesOf_1 23 rfl
def dlX9_movesOf_2 : List (Nat × Jvm.ClassFile.Instr × Nat) := [(76, .iinc 2 1, 3), (79, .goto (-67), 3), (82, .aload_n 0, 1), (83, .getfield 54, 3), (86, .iload_n 1, 1), (87, .iaload, 1), (88, .ireturn, 1)]
theorem daX9_movesOf_2 : dlX9_movesOf_2.all (dcK cX9_movesOf) = true := by decide +kernel
theorem dX9_movesOf_76 : decode cX9_movesOf 76 = .ok (.iinc 2 1, 3) := dc_at daX9_movesOf_2 0 rfl
theorem dX9_movesOf_79 : decode cX9_movesOf 79 = .ok (.goto (-67), 3) := dc_at daX9_movesOf_2 1 rfl
theorem dX9_movesOf_82 : decode cX9_movesOf 82 = .ok (.aload_n 0, 1) := dc_at daX9_movesOf_2 2 rfl
theorem dX9_movesOf_83 : decode cX9_movesOf 83 = .ok (.getfield 54, 3) := dc_at daX9_movesOf_2 3 rfl
theorem dX9_movesOf_86 : decode cX9_movesOf 86 = .ok (.iload_n 1, 1) := dc_at daX9_movesOf_2 4 rfl
theorem dX9_movesOf_87 : decode cX9_movesOf 87 = .ok (.iaload, 1) := dc_at daX9_movesOf_2 5 rfl
theorem dX9_movesOf_88 : decode cX9_movesOf 88 = .ok (.ireturn, 1) := dc_at daX9_movesOf_2 6 rfl
def dlX9_judge_0 : List (Nat × Jvm.ClassFile.Instr × Nat) := [(0, .aload_n 0, 1), (1, .iconst 0, 1), (2, .putfield 1, 3), (5, .iload_n 1, 1), (6, .i2l, 1), (7, .lconst 0, 1), (8, .ldc2_w 180, 3), (11, .invokestatic 128, 3), (14, .ifCond .eq 15, 3), (17, .iload_n 2, 1), (18, .i2l, 1), (19, .lconst 0, 1), (20, .ldc2_w 180, 3), (23, .invokestatic 128, 3), (26, .ifCond .ne 6, 3), (29, .bipush (-2), 2), (31, .ireturn, 1), (32, .aload_n 0, 1), (33, .getfield 51, 3), (36, .iload_n 1, 1), (37, .iaload, 1), (38, .iconst (-1), 1), (39, .if_icmp .ne 6, 3), (42, .bipush (-6), 2)]
theorem daX9_judge_0 : dlX9_judge_0.all (dcK cX9_judge) = true := by decide +kernel
theorem dX9_judge_0 : decode cX9_judge 0 = .ok (.aload_n 0, 1) := dc_at daX9_judge_0 0 rfl
theorem dX9_judge_1 : decode cX9_judge 1 = .ok (.iconst 0, 1) := dc_at daX9_judge_0 1 rfl
theorem dX9_judge_2 : decode cX9_judge 2 = .ok (.putfield 1, 3) := dc_at daX9_judge_0 2 rfl
theorem dX9_judge_5 : decode cX9_judge 5 = .ok (.iload_n 1, 1) := dc_at daX9_judge_0 3 rfl
theorem dX9_judge_6 : decode cX9_judge 6 = .ok (.i2l, 1) := dc_at daX9_judge_0 4 rfl
theorem dX9_judge_7 : decode cX9_judge 7 = .ok (.lconst 0, 1) := dc_at daX9_judge_0 5 rfl
theorem dX9_judge_8 : decode cX9_judge 8 = .ok (.ldc2_w 180, 3) := dc_at daX9_judge_0 6 rfl
theorem dX9_judge_11 : decode cX9_judge 11 = .ok (.invokestatic 128, 3) := dc_at daX9_judge_0 7 rfl
theorem dX9_judge_14 : decode cX9_judge 14 = .ok (.ifCond .eq 15, 3) := dc_at daX9_judge_0 8 rfl
theorem dX9_judge_17 : decode cX9_judge 17 = .ok (.iload_n 2, 1) := dc_at daX9_judge_0 9 rfl
theorem dX9_judge_18 : decode cX9_judge 18 = .ok (.i2l, 1) := dc_at daX9_judge_0 10 rfl
theorem dX9_judge_19 : decode cX9_judge 19 = .ok (.lconst 0, 1) := dc_at daX9_judge_0 11 rfl
theorem dX9_judge_20 : decode cX9_judge 20 = .ok (.ldc2_w 180, 3) := dc_at daX9_judge_0 12 rfl
theorem dX9_judge_23 : decode cX9_judge 23 = .ok (.invokestatic 128, 3) := dc_at daX9_judge_0 13 rfl
theorem dX9_judge_26 : decode cX9_judge 26 = .ok (.ifCond .ne 6, 3) := dc_at daX9_judge_0 14 rfl
theorem dX9_judge_29 : decode cX9_judge 29 = .ok (.bipush (-2), 2) := dc_at daX9_judge_0 15 rfl
theorem dX9_judge_31 : decode cX9_judge 31 = .ok (.ireturn, 1) := dc_at daX9_judge_0 16 rfl
theorem dX9_judge_32 : decode cX9_judge 32 = .ok (.aload_n 0, 1) := dc_at daX9_judge_0 17 rfl
theorem dX9_judge_33 : decode cX9_judge 33 = .ok (.getfield 51, 3) := dc_at daX9_judge_0 18 rfl
theorem dX9_judge_36 : decode cX9_judge 36 = .ok (.iload_n 1, 1) := dc_at daX9_judge_0 19 rfl
theorem dX9_judge_37 : decode cX9_judge 37 = .ok (.iaload, 1) := dc_at daX9_judge_0 20 rfl
theorem dX9_judge_38 : decode cX9_judge 38 = .ok (.iconst (-1), 1) := dc_at daX9_judge_0 21 rfl
theorem dX9_judge_39 : decode cX9_judge 39 = .ok (.if_icmp .ne 6, 3) := dc_at daX9_judge_0 22 rfl
theorem dX9_judge_42 : decode cX9_judge 42 = .ok (.bipush (-6), 2) := dc_at daX9_judge_0 23 rfl
def dlX9_judge_1 : List (Nat × Jvm.ClassFile.Instr × Nat) := [(44, .ireturn, 1), (45, .aload_n 0, 1), (46, .iconst 0, 1), (47, .invokevirtual 216, 3), (50, .aload_n 0, 1), (51, .iload_n 1, 1), (52, .invokevirtual 219, 3), (55, .istore_n 3, 1), (56, .aload_n 0, 1), (57, .getfield 13, 3), (60, .iconst 0, 1), (61, .iaload, 1), (62, .ifCond .ne 7, 3), (65, .iconst (-1), 1), (66, .goto 9, 3), (69, .aload_n 0, 1), (70, .getfield 13, 3), (73, .iconst 2, 1), (74, .iaload, 1), (75, .istore 4, 2), (77, .aload_n 0, 1), (78, .iconst 0, 1), (79, .invokevirtual 222, 3), (82, .iload_n 2, 1)]
theorem daX9_judge_1 : dlX9_judge_1.all (dcK cX9_judge) = true := by decide +kernel
theorem dX9_judge_44 : decode cX9_judge 44 = .ok (.ireturn, 1) := dc_at daX9_judge_1 0 rfl
theorem dX9_judge_45 : decode cX9_judge 45 = .ok (.aload_n 0, 1) := dc_at daX9_judge_1 1 rfl
theorem dX9_judge_46 : decode cX9_judge 46 = .ok (.iconst 0, 1) := dc_at daX9_judge_1 2 rfl
theorem dX9_judge_47 : decode cX9_judge 47 = .ok (.invokevirtual 216, 3) := dc_at daX9_judge_1 3 rfl
theorem dX9_judge_50 : decode cX9_judge 50 = .ok (.aload_n 0, 1) := dc_at daX9_judge_1 4 rfl
theorem dX9_judge_51 : decode cX9_judge 51 = .ok (.iload_n 1, 1) := dc_at daX9_judge_1 5 rfl
theorem dX9_judge_52 : decode cX9_judge 52 = .ok (.invokevirtual 219, 3) := dc_at daX9_judge_1 6 rfl
theorem dX9_judge_55 : decode cX9_judge 55 = .ok (.istore_n 3, 1) := dc_at daX9_judge_1 7 rfl
theorem dX9_judge_56 : decode cX9_judge 56 = .ok (.aload_n 0, 1) := dc_at daX9_judge_1 8 rfl
theorem dX9_judge_57 : decode cX9_judge 57 = .ok (.getfield 13, 3) := dc_at daX9_judge_1 9 rfl
theorem dX9_judge_60 : decode cX9_judge 60 = .ok (.iconst 0, 1) := dc_at daX9_judge_1 10 rfl
theorem dX9_judge_61 : decode cX9_judge 61 = .ok (.iaload, 1) := dc_at daX9_judge_1 11 rfl
theorem dX9_judge_62 : decode cX9_judge 62 = .ok (.ifCond .ne 7, 3) := dc_at daX9_judge_1 12 rfl
theorem dX9_judge_65 : decode cX9_judge 65 = .ok (.iconst (-1), 1) := dc_at daX9_judge_1 13 rfl
theorem dX9_judge_66 : decode cX9_judge 66 = .ok (.goto 9, 3) := dc_at daX9_judge_1 14 rfl
theorem dX9_judge_69 : decode cX9_judge 69 = .ok (.aload_n 0, 1) := dc_at daX9_judge_1 15 rfl
theorem dX9_judge_70 : decode cX9_judge 70 = .ok (.getfield 13, 3) := dc_at daX9_judge_1 16 rfl
theorem dX9_judge_73 : decode cX9_judge 73 = .ok (.iconst 2, 1) := dc_at daX9_judge_1 17 rfl
theorem dX9_judge_74 : decode cX9_judge 74 = .ok (.iaload, 1) := dc_at daX9_judge_1 18 rfl
theorem dX9_judge_75 : decode cX9_judge 75 = .ok (.istore 4, 2) := dc_at daX9_judge_1 19 rfl
theorem dX9_judge_77 : decode cX9_judge 77 = .ok (.aload_n 0, 1) := dc_at daX9_judge_1 20 rfl
theorem dX9_judge_78 : decode cX9_judge 78 = .ok (.iconst 0, 1) := dc_at daX9_judge_1 21 rfl
theorem dX9_judge_79 : decode cX9_judge 79 = .ok (.invokevirtual 222, 3) := dc_at daX9_judge_1 22 rfl
theorem dX9_judge_82 : decode cX9_judge 82 = .ok (.iload_n 2, 1) := dc_at daX9_judge_1 23 rfl
def dlX9_judge_2 : List (Nat × Jvm.ClassFile.Instr × Nat) := [(83, .ifCond .ne 18, 3), (86, .aload_n 0, 1), (87, .getfield 210, 3), (90, .ifCond .ne 7, 3), (93, .iconst (-1), 1), (94, .goto 33, 3), (97, .iload_n 3, 1), (98, .goto 29, 3), (101, .iload_n 2, 1), (102, .iconst 1, 1), (103, .if_icmp .ne 10, 3), (106, .aload_n 0, 1), (107, .getfield 210, 3), (110, .goto 17, 3), (113, .iload_n 2, 1), (114, .iconst 2, 1), (115, .if_icmp .ne 10, 3), (118, .aload_n 0, 1), (119, .getfield 213, 3), (122, .goto 5, 3), (125, .iload 4, 2), (127, .ireturn, 1)]
theorem daX9_judge_2 : dlX9_judge_2.all (dcK cX9_judge) = true := by decide +kernel
theorem dX9_judge_83 : decode cX9_judge 83 = .ok (.ifCond .ne 18, 3) := dc_at daX9_judge_2 0 rfl
theorem dX9_judge_86 : decode cX9_judge 86 = .ok (.aload_n 0, 1) := dc_at daX9_judge_2 1 rfl
theorem dX9_judge_87 : decode cX9_judge 87 = .ok (.getfield 210, 3) := dc_at daX9_judge_2 2 rfl
theorem dX9_judge_90 : decode cX9_judge 90 = .ok (.ifCond .ne 7, 3) := dc_at daX9_judge_2 3 rfl
theorem dX9_judge_93 : decode cX9_judge 93 = .ok (.iconst (-1), 1) := dc_at daX9_judge_2 4 rfl
theorem dX9_judge_94 : decode cX9_judge 94 = .ok (.goto 33, 3) := dc_at daX9_judge_2 5 rfl
theorem dX9_judge_97 : decode cX9_judge 97 = .ok (.iload_n 3, 1) := dc_at daX9_judge_2 6 rfl
theorem dX9_judge_98 : decode cX9_judge 98 = .ok (.goto 29, 3) := dc_at daX9_judge_2 7 rfl
theorem dX9_judge_101 : decode cX9_judge 101 = .ok (.iload_n 2, 1) := dc_at daX9_judge_2 8 rfl
theorem dX9_judge_102 : decode cX9_judge 102 = .ok (.iconst 1, 1) := dc_at daX9_judge_2 9 rfl
theorem dX9_judge_103 : decode cX9_judge 103 = .ok (.if_icmp .ne 10, 3) := dc_at daX9_judge_2 10 rfl
theorem dX9_judge_106 : decode cX9_judge 106 = .ok (.aload_n 0, 1) := dc_at daX9_judge_2 11 rfl
theorem dX9_judge_107 : decode cX9_judge 107 = .ok (.getfield 210, 3) := dc_at daX9_judge_2 12 rfl
theorem dX9_judge_110 : decode cX9_judge 110 = .ok (.goto 17, 3) := dc_at daX9_judge_2 13 rfl
theorem dX9_judge_113 : decode cX9_judge 113 = .ok (.iload_n 2, 1) := dc_at daX9_judge_2 14 rfl
theorem dX9_judge_114 : decode cX9_judge 114 = .ok (.iconst 2, 1) := dc_at daX9_judge_2 15 rfl
theorem dX9_judge_115 : decode cX9_judge 115 = .ok (.if_icmp .ne 10, 3) := dc_at daX9_judge_2 16 rfl
theorem dX9_judge_118 : decode cX9_judge 118 = .ok (.aload_n 0, 1) := dc_at daX9_judge_2 17 rfl
theorem dX9_judge_119 : decode cX9_judge 119 = .ok (.getfield 213, 3) := dc_at daX9_judge_2 18 rfl
theorem dX9_judge_122 : decode cX9_judge 122 = .ok (.goto 5, 3) := dc_at daX9_judge_2 19 rfl
theorem dX9_judge_125 : decode cX9_judge 125 = .ok (.iload 4, 2) := dc_at daX9_judge_2 20 rfl
theorem dX9_judge_127 : decode cX9_judge 127 = .ok (.ireturn, 1) := dc_at daX9_judge_2 21 rfl
def dlX9_perform_0 : List (Nat × Jvm.ClassFile.Instr × Nat) := [(0, .aload_n 0, 1), (1, .iconst 0, 1), (2, .putfield 1, 3), (5, .iload_n 1, 1), (6, .i2l, 1), (7, .lconst 0, 1), (8, .ldc2_w 180, 3), (11, .invokestatic 128, 3), (14, .ifCond .ne 6, 3), (17, .bipush (-2), 2), (19, .ireturn, 1), (20, .aload_n 0, 1), (21, .getfield 51, 3), (24, .iload_n 1, 1), (25, .iaload, 1), (26, .iconst (-1), 1), (27, .if_icmp .ne 8, 3), (30, .bipush (-6), 2), (32, .goto 8, 3), (35, .aload_n 0, 1), (36, .iload_n 1, 1), (37, .invokevirtual 219, 3), (40, .ireturn, 1)]
theorem daX9_perform_0 : dlX9_perform_0.all (dcK cX9_perform) = true := by decide +kernel
theorem dX9_perform_0 : decode cX9_perform 0 = .ok (.aload_n 0, 1) := dc_at daX9_perform_0 0 rfl
theorem dX9_perform_1 : decode cX9_perform 1 = .ok (.iconst 0, 1) := dc_at daX9_perform_0 1 rfl
theorem dX9_perform_2 : decode cX9_perform 2 = .ok (.putfield 1, 3) := dc_at daX9_perform_0 2 rfl
theorem dX9_perform_5 : decode cX9_perform 5 = .ok (.iload_n 1, 1) := dc_at daX9_perform_0 3 rfl
theorem dX9_perform_6 : decode cX9_perform 6 = .ok (.i2l, 1) := dc_at daX9_perform_0 4 rfl
theorem dX9_perform_7 : decode cX9_perform 7 = .ok (.lconst 0, 1) := dc_at daX9_perform_0 5 rfl
theorem dX9_perform_8 : decode cX9_perform 8 = .ok (.ldc2_w 180, 3) := dc_at daX9_perform_0 6 rfl
theorem dX9_perform_11 : decode cX9_perform 11 = .ok (.invokestatic 128, 3) := dc_at daX9_perform_0 7 rfl
theorem dX9_perform_14 : decode cX9_perform 14 = .ok (.ifCond .ne 6, 3) := dc_at daX9_perform_0 8 rfl
theorem dX9_perform_17 : decode cX9_perform 17 = .ok (.bipush (-2), 2) := dc_at daX9_perform_0 9 rfl
theorem dX9_perform_19 : decode cX9_perform 19 = .ok (.ireturn, 1) := dc_at daX9_perform_0 10 rfl
theorem dX9_perform_20 : decode cX9_perform 20 = .ok (.aload_n 0, 1) := dc_at daX9_perform_0 11 rfl
theorem dX9_perform_21 : decode cX9_perform 21 = .ok (.getfield 51, 3) := dc_at daX9_perform_0 12 rfl
theorem dX9_perform_24 : decode cX9_perform 24 = .ok (.iload_n 1, 1) := dc_at daX9_perform_0 13 rfl
theorem dX9_perform_25 : decode cX9_perform 25 = .ok (.iaload, 1) := dc_at daX9_perform_0 14 rfl
theorem dX9_perform_26 : decode cX9_perform 26 = .ok (.iconst (-1), 1) := dc_at daX9_perform_0 15 rfl
theorem dX9_perform_27 : decode cX9_perform 27 = .ok (.if_icmp .ne 8, 3) := dc_at daX9_perform_0 16 rfl
theorem dX9_perform_30 : decode cX9_perform 30 = .ok (.bipush (-6), 2) := dc_at daX9_perform_0 17 rfl
theorem dX9_perform_32 : decode cX9_perform 32 = .ok (.goto 8, 3) := dc_at daX9_perform_0 18 rfl
theorem dX9_perform_35 : decode cX9_perform 35 = .ok (.aload_n 0, 1) := dc_at daX9_perform_0 19 rfl
theorem dX9_perform_36 : decode cX9_perform 36 = .ok (.iload_n 1, 1) := dc_at daX9_perform_0 20 rfl
theorem dX9_perform_37 : decode cX9_perform 37 = .ok (.invokevirtual 219, 3) := dc_at daX9_perform_0 21 rfl
theorem dX9_perform_40 : decode cX9_perform 40 = .ok (.ireturn, 1) := dc_at daX9_perform_0 22 rfl
def dlX9_fill_0 : List (Nat × Jvm.ClassFile.Instr × Nat) := [(0, .aload_n 0, 1), (1, .iconst 0, 1), (2, .putfield 1, 3), (5, .iload_n 1, 1), (6, .i2l, 1), (7, .lconst 0, 1), (8, .ldc2_w 225, 3), (11, .invokestatic 128, 3), (14, .ifCond .ne 6, 3), (17, .bipush (-3), 2), (19, .ireturn, 1), (20, .aload_n 0, 1), (21, .getfield 13, 3), (24, .bipush 6, 2), (26, .aload_n 0, 1), (27, .getfield 13, 3), (30, .bipush 6, 2), (32, .iaload, 1), (33, .iload_n 1, 1), (34, .iadd, 1), (35, .sipush 999, 3), (38, .if_icmp .le 9, 3), (41, .sipush 999, 3), (44, .goto 12, 3)]
theorem daX9_fill_0 : dlX9_fill_0.all (dcK cX9_fill) = true := by decide +kernel
theorem dX9_fill_0 : decode cX9_fill 0 = .ok (.aload_n 0, 1) := dc_at daX9_fill_0 0 rfl
theorem dX9_fill_1 : decode cX9_fill 1 = .ok (.iconst 0, 1) := dc_at daX9_fill_0 1 rfl
theorem dX9_fill_2 : decode cX9_fill 2 = .ok (.putfield 1, 3) := dc_at daX9_fill_0 2 rfl
theorem dX9_fill_5 : decode cX9_fill 5 = .ok (.iload_n 1, 1) := dc_at daX9_fill_0 3 rfl
theorem dX9_fill_6 : decode cX9_fill 6 = .ok (.i2l, 1) := dc_at daX9_fill_0 4 rfl
theorem dX9_fill_7 : decode cX9_fill 7 = .ok (.lconst 0, 1) := dc_at daX9_fill_0 5 rfl
theorem dX9_fill_8 : decode cX9_fill 8 = .ok (.ldc2_w 225, 3) := dc_at daX9_fill_0 6 rfl
theorem dX9_fill_11 : decode cX9_fill 11 = .ok (.invokestatic 128, 3) := dc_at daX9_fill_0 7 rfl
theorem dX9_fill_14 : decode cX9_fill 14 = .ok (.ifCond .ne 6, 3) := dc_at daX9_fill_0 8 rfl
theorem dX9_fill_17 : decode cX9_fill 17 = .ok (.bipush (-3), 2) := dc_at daX9_fill_0 9 rfl
theorem dX9_fill_19 : decode cX9_fill 19 = .ok (.ireturn, 1) := dc_at daX9_fill_0 10 rfl
theorem dX9_fill_20 : decode cX9_fill 20 = .ok (.aload_n 0, 1) := dc_at daX9_fill_0 11 rfl
theorem dX9_fill_21 : decode cX9_fill 21 = .ok (.getfield 13, 3) := dc_at daX9_fill_0 12 rfl
theorem dX9_fill_24 : decode cX9_fill 24 = .ok (.bipush 6, 2) := dc_at daX9_fill_0 13 rfl
theorem dX9_fill_26 : decode cX9_fill 26 = .ok (.aload_n 0, 1) := dc_at daX9_fill_0 14 rfl
theorem dX9_fill_27 : decode cX9_fill 27 = .ok (.getfield 13, 3) := dc_at daX9_fill_0 15 rfl
theorem dX9_fill_30 : decode cX9_fill 30 = .ok (.bipush 6, 2) := dc_at daX9_fill_0 16 rfl
theorem dX9_fill_32 : decode cX9_fill 32 = .ok (.iaload, 1) := dc_at daX9_fill_0 17 rfl
theorem dX9_fill_33 : decode cX9_fill 33 = .ok (.iload_n 1, 1) := dc_at daX9_fill_0 18 rfl
theorem dX9_fill_34 : decode cX9_fill 34 = .ok (.iadd, 1) := dc_at daX9_fill_0 19 rfl
theorem dX9_fill_35 : decode cX9_fill 35 = .ok (.sipush 999, 3) := dc_at daX9_fill_0 20 rfl
theorem dX9_fill_38 : decode cX9_fill 38 = .ok (.if_icmp .le 9, 3) := dc_at daX9_fill_0 21 rfl
theorem dX9_fill_41 : decode cX9_fill 41 = .ok (.sipush 999, 3) := dc_at daX9_fill_0 22 rfl
theorem dX9_fill_44 : decode cX9_fill 44 = .ok (.goto 12, 3) := dc_at daX9_fill_0 23 rfl
def dlX9_fill_1 : List (Nat × Jvm.ClassFile.Instr × Nat) := [(47, .aload_n 0, 1), (48, .getfield 13, 3), (51, .bipush 6, 2), (53, .iaload, 1), (54, .iload_n 1, 1), (55, .iadd, 1), (56, .iastore, 1), (57, .aload_n 0, 1), (58, .getfield 13, 3), (61, .bipush 6, 2), (63, .iaload, 1), (64, .ireturn, 1)]
theorem daX9_fill_1 : dlX9_fill_1.all (dcK cX9_fill) = true := by decide +kernel
theorem dX9_fill_47 : decode cX9_fill 47 = .ok (.aload_n 0, 1) := dc_at daX9_fill_1 0 rfl
theorem dX9_fill_48 : decode cX9_fill 48 = .ok (.getfield 13, 3) := dc_at daX9_fill_1 1 rfl
theorem dX9_fill_51 : decode cX9_fill 51 = .ok (.bipush 6, 2) := dc_at daX9_fill_1 2 rfl
theorem dX9_fill_53 : decode cX9_fill 53 = .ok (.iaload, 1) := dc_at daX9_fill_1 3 rfl
theorem dX9_fill_54 : decode cX9_fill 54 = .ok (.iload_n 1, 1) := dc_at daX9_fill_1 4 rfl
theorem dX9_fill_55 : decode cX9_fill 55 = .ok (.iadd, 1) := dc_at daX9_fill_1 5 rfl
theorem dX9_fill_56 : decode cX9_fill 56 = .ok (.iastore, 1) := dc_at daX9_fill_1 6 rfl
theorem dX9_fill_57 : decode cX9_fill 57 = .ok (.aload_n 0, 1) := dc_at daX9_fill_1 7 rfl
theorem dX9_fill_58 : decode cX9_fill 58 = .ok (.getfield 13, 3) := dc_at daX9_fill_1 8 rfl
theorem dX9_fill_61 : decode cX9_fill 61 = .ok (.bipush 6, 2) := dc_at daX9_fill_1 9 rfl
theorem dX9_fill_63 : decode cX9_fill 63 = .ok (.iaload, 1) := dc_at daX9_fill_1 10 rfl
theorem dX9_fill_64 : decode cX9_fill 64 = .ok (.ireturn, 1) := dc_at daX9_fill_1 11 rfl
def dlX9_draw_0 : List (Nat × Jvm.ClassFile.Instr × Nat) := [(0, .aload_n 0, 1), (1, .ldc 227, 2), (3, .aload_n 0, 1), (4, .getfield 228, 3), (7, .imul, 1), (8, .sipush 12345, 3), (11, .iadd, 1), (12, .putfield 228, 3), (15, .aload_n 0, 1), (16, .getfield 228, 3), (19, .bipush 16, 2), (21, .iushr, 1), (22, .iload_n 1, 1), (23, .irem, 1), (24, .ireturn, 1)]
theorem daX9_draw_0 : dlX9_draw_0.all (dcK cX9_draw) = true := by decide +kernel
theorem dX9_draw_0 : decode cX9_draw 0 = .ok (.aload_n 0, 1) := dc_at daX9_draw_0 0 rfl
theorem dX9_draw_1 : decode cX9_draw 1 = .ok (.ldc 227, 2) := dc_at daX9_draw_0 1 rfl
theorem dX9_draw_3 : decode cX9_draw 3 = .ok (.aload_n 0, 1) := dc_at daX9_draw_0 2 rfl
theorem dX9_draw_4 : decode cX9_draw 4 = .ok (.getfield 228, 3) := dc_at daX9_draw_0 3 rfl
theorem dX9_draw_7 : decode cX9_draw 7 = .ok (.imul, 1) := dc_at daX9_draw_0 4 rfl
theorem dX9_draw_8 : decode cX9_draw 8 = .ok (.sipush 12345, 3) := dc_at daX9_draw_0 5 rfl
theorem dX9_draw_11 : decode cX9_draw 11 = .ok (.iadd, 1) := dc_at daX9_draw_0 6 rfl
theorem dX9_draw_12 : decode cX9_draw 12 = .ok (.putfield 228, 3) := dc_at daX9_draw_0 7 rfl
theorem dX9_draw_15 : decode cX9_draw 15 = .ok (.aload_n 0, 1) := dc_at daX9_draw_0 8 rfl
theorem dX9_draw_16 : decode cX9_draw 16 = .ok (.getfield 228, 3) := dc_at daX9_draw_0 9 rfl
theorem dX9_draw_19 : decode cX9_draw 19 = .ok (.bipush 16, 2) := dc_at daX9_draw_0 10 rfl
theorem dX9_draw_21 : decode cX9_draw 21 = .ok (.iushr, 1) := dc_at daX9_draw_0 11 rfl
theorem dX9_draw_22 : decode cX9_draw 22 = .ok (.iload_n 1, 1) := dc_at daX9_draw_0 12 rfl
theorem dX9_draw_23 : decode cX9_draw 23 = .ok (.irem, 1) := dc_at daX9_draw_0 13 rfl
theorem dX9_draw_24 : decode cX9_draw 24 = .ok (.ireturn, 1) := dc_at daX9_draw_0 14 rfl
def dlX9_night_0 : List (Nat × Jvm.ClassFile.Instr × Nat) := [(0, .aload_n 0, 1), (1, .iconst 0, 1), (2, .putfield 1, 3), (5, .iload_n 2, 1), (6, .i2l, 1), (7, .lconst 1, 1), (8, .ldc2_w 231, 3), (11, .invokestatic 128, 3), (14, .ifCond .ne 6, 3), (17, .bipush (-3), 2), (19, .ireturn, 1), (20, .aload_n 0, 1), (21, .getfield 13, 3), (24, .iconst 0, 1), (25, .iaload, 1), (26, .ifCond .eq 27, 3), (29, .aload_n 0, 1), (30, .getfield 13, 3), (33, .bipush 6, 2), (35, .iaload, 1), (36, .ifCond .eq 17, 3), (39, .aload_n 0, 1), (40, .getfield 13, 3), (43, .iconst 1, 1)]
theorem daX9_night_0 : dlX9_night_0.all (dcK cX9_night) = true := by decide +kernel
theorem dX9_night_0 : decode cX9_night 0 = .ok (.aload_n 0, 1) := dc_at daX9_night_0 0 rfl
theorem dX9_night_1 : decode cX9_night 1 = .ok (.iconst 0, 1) := dc_at daX9_night_0 1 rfl
theorem dX9_night_2 : decode cX9_night 2 = .ok (.putfield 1, 3) := dc_at daX9_night_0 2 rfl
theorem dX9_night_5 : decode cX9_night 5 = .ok (.iload_n 2, 1) := dc_at daX9_night_0 3 rfl
theorem dX9_night_6 : decode cX9_night 6 = .ok (.i2l, 1) := dc_at daX9_night_0 4 rfl
theorem dX9_night_7 : decode cX9_night 7 = .ok (.lconst 1, 1) := dc_at daX9_night_0 5 rfl
theorem dX9_night_8 : decode cX9_night 8 = .ok (.ldc2_w 231, 3) := dc_at daX9_night_0 6 rfl
theorem dX9_night_11 : decode cX9_night 11 = .ok (.invokestatic 128, 3) := dc_at daX9_night_0 7 rfl
theorem dX9_night_14 : decode cX9_night 14 = .ok (.ifCond .ne 6, 3) := dc_at daX9_night_0 8 rfl
theorem dX9_night_17 : decode cX9_night 17 = .ok (.bipush (-3), 2) := dc_at daX9_night_0 9 rfl
theorem dX9_night_19 : decode cX9_night 19 = .ok (.ireturn, 1) := dc_at daX9_night_0 10 rfl
theorem dX9_night_20 : decode cX9_night 20 = .ok (.aload_n 0, 1) := dc_at daX9_night_0 11 rfl
theorem dX9_night_21 : decode cX9_night 21 = .ok (.getfield 13, 3) := dc_at daX9_night_0 12 rfl
theorem dX9_night_24 : decode cX9_night 24 = .ok (.iconst 0, 1) := dc_at daX9_night_0 13 rfl
theorem dX9_night_25 : decode cX9_night 25 = .ok (.iaload, 1) := dc_at daX9_night_0 14 rfl
theorem dX9_night_26 : decode cX9_night 26 = .ok (.ifCond .eq 27, 3) := dc_at daX9_night_0 15 rfl
theorem dX9_night_29 : decode cX9_night 29 = .ok (.aload_n 0, 1) := dc_at daX9_night_0 16 rfl
theorem dX9_night_30 : decode cX9_night 30 = .ok (.getfield 13, 3) := dc_at daX9_night_0 17 rfl
theorem dX9_night_33 : decode cX9_night 33 = .ok (.bipush 6, 2) := dc_at daX9_night_0 18 rfl
theorem dX9_night_35 : decode cX9_night 35 = .ok (.iaload, 1) := dc_at daX9_night_0 19 rfl
theorem dX9_night_36 : decode cX9_night 36 = .ok (.ifCond .eq 17, 3) := dc_at daX9_night_0 20 rfl
theorem dX9_night_39 : decode cX9_night 39 = .ok (.aload_n 0, 1) := dc_at daX9_night_0 21 rfl
theorem dX9_night_40 : decode cX9_night 40 = .ok (.getfield 13, 3) := dc_at daX9_night_0 22 rfl
theorem dX9_night_43 : decode cX9_night 43 = .ok (.iconst 1, 1) := dc_at daX9_night_0 23 rfl
def dlX9_night_1 : List (Nat × Jvm.ClassFile.Instr × Nat) := [(44, .iaload, 1), (45, .iload_n 2, 1), (46, .iadd, 1), (47, .sipush 9999, 3), (50, .if_icmp .le 6, 3), (53, .bipush (-5), 2), (55, .ireturn, 1), (56, .aload_n 0, 1), (57, .iload_n 1, 1), (58, .putfield 228, 3), (61, .iconst 0, 1), (62, .istore_n 3, 1), (63, .iconst 0, 1), (64, .istore 4, 2), (66, .iload 4, 2), (68, .iload_n 2, 1), (69, .if_icmp .ge 74, 3), (72, .aload_n 0, 1), (73, .getfield 13, 3), (76, .bipush 6, 2), (78, .iaload, 1), (79, .ifCond .le 64, 3), (82, .aload_n 0, 1), (83, .iconst 3, 1)]
theorem daX9_night_1 : dlX9_night_1.all (dcK cX9_night) = true := by decide +kernel
theorem dX9_night_44 : decode cX9_night 44 = .ok (.iaload, 1) := dc_at daX9_night_1 0 rfl
theorem dX9_night_45 : decode cX9_night 45 = .ok (.iload_n 2, 1) := dc_at daX9_night_1 1 rfl
theorem dX9_night_46 : decode cX9_night 46 = .ok (.iadd, 1) := dc_at daX9_night_1 2 rfl
theorem dX9_night_47 : decode cX9_night 47 = .ok (.sipush 9999, 3) := dc_at daX9_night_1 3 rfl
theorem dX9_night_50 : decode cX9_night 50 = .ok (.if_icmp .le 6, 3) := dc_at daX9_night_1 4 rfl
theorem dX9_night_53 : decode cX9_night 53 = .ok (.bipush (-5), 2) := dc_at daX9_night_1 5 rfl
theorem dX9_night_55 : decode cX9_night 55 = .ok (.ireturn, 1) := dc_at daX9_night_1 6 rfl
theorem dX9_night_56 : decode cX9_night 56 = .ok (.aload_n 0, 1) := dc_at daX9_night_1 7 rfl
theorem dX9_night_57 : decode cX9_night 57 = .ok (.iload_n 1, 1) := dc_at daX9_night_1 8 rfl
theorem dX9_night_58 : decode cX9_night 58 = .ok (.putfield 228, 3) := dc_at daX9_night_1 9 rfl
theorem dX9_night_61 : decode cX9_night 61 = .ok (.iconst 0, 1) := dc_at daX9_night_1 10 rfl
theorem dX9_night_62 : decode cX9_night 62 = .ok (.istore_n 3, 1) := dc_at daX9_night_1 11 rfl
theorem dX9_night_63 : decode cX9_night 63 = .ok (.iconst 0, 1) := dc_at daX9_night_1 12 rfl
theorem dX9_night_64 : decode cX9_night 64 = .ok (.istore 4, 2) := dc_at daX9_night_1 13 rfl
theorem dX9_night_66 : decode cX9_night 66 = .ok (.iload 4, 2) := dc_at daX9_night_1 14 rfl
theorem dX9_night_68 : decode cX9_night 68 = .ok (.iload_n 2, 1) := dc_at daX9_night_1 15 rfl
theorem dX9_night_69 : decode cX9_night 69 = .ok (.if_icmp .ge 74, 3) := dc_at daX9_night_1 16 rfl
theorem dX9_night_72 : decode cX9_night 72 = .ok (.aload_n 0, 1) := dc_at daX9_night_1 17 rfl
theorem dX9_night_73 : decode cX9_night 73 = .ok (.getfield 13, 3) := dc_at daX9_night_1 18 rfl
theorem dX9_night_76 : decode cX9_night 76 = .ok (.bipush 6, 2) := dc_at daX9_night_1 19 rfl
theorem dX9_night_78 : decode cX9_night 78 = .ok (.iaload, 1) := dc_at daX9_night_1 20 rfl
theorem dX9_night_79 : decode cX9_night 79 = .ok (.ifCond .le 64, 3) := dc_at daX9_night_1 21 rfl
theorem dX9_night_82 : decode cX9_night 82 = .ok (.aload_n 0, 1) := dc_at daX9_night_1 22 rfl
theorem dX9_night_83 : decode cX9_night 83 = .ok (.iconst 3, 1) := dc_at daX9_night_1 23 rfl
def dlX9_night_2 : List (Nat × Jvm.ClassFile.Instr × Nat) := [(84, .invokevirtual 233, 3), (87, .istore 5, 2), (89, .aload_n 0, 1), (90, .bipush 100, 2), (92, .invokevirtual 233, 3), (95, .aload_n 0, 1), (96, .getfield 13, 3), (99, .bipush 7, 2), (101, .iaload, 1), (102, .if_icmp .ge 7, 3), (105, .iconst 1, 1), (106, .goto 4, 3), (109, .iconst 0, 1), (110, .istore 6, 2), (112, .iload_n 3, 1), (113, .aload_n 0, 1), (114, .aload_n 0, 1), (115, .iload 5, 2), (117, .i2l, 1), (118, .invokevirtual 202, 3), (121, .ifCond .ne 8, 3), (124, .iload 5, 2), (126, .goto 4, 3), (129, .iconst 0, 1)]
theorem daX9_night_2 : dlX9_night_2.all (dcK cX9_night) = true := by decide +kernel
theorem dX9_night_84 : decode cX9_night 84 = .ok (.invokevirtual 233, 3) := dc_at daX9_night_2 0 rfl
theorem dX9_night_87 : decode cX9_night 87 = .ok (.istore 5, 2) := dc_at daX9_night_2 1 rfl
theorem dX9_night_89 : decode cX9_night 89 = .ok (.aload_n 0, 1) := dc_at daX9_night_2 2 rfl
theorem dX9_night_90 : decode cX9_night 90 = .ok (.bipush 100, 2) := dc_at daX9_night_2 3 rfl
theorem dX9_night_92 : decode cX9_night 92 = .ok (.invokevirtual 233, 3) := dc_at daX9_night_2 4 rfl
theorem dX9_night_95 : decode cX9_night 95 = .ok (.aload_n 0, 1) := dc_at daX9_night_2 5 rfl
theorem dX9_night_96 : decode cX9_night 96 = .ok (.getfield 13, 3) := dc_at daX9_night_2 6 rfl
theorem dX9_night_99 : decode cX9_night 99 = .ok (.bipush 7, 2) := dc_at daX9_night_2 7 rfl
theorem dX9_night_101 : decode cX9_night 101 = .ok (.iaload, 1) := dc_at daX9_night_2 8 rfl
theorem dX9_night_102 : decode cX9_night 102 = .ok (.if_icmp .ge 7, 3) := dc_at daX9_night_2 9 rfl
theorem dX9_night_105 : decode cX9_night 105 = .ok (.iconst 1, 1) := dc_at daX9_night_2 10 rfl
theorem dX9_night_106 : decode cX9_night 106 = .ok (.goto 4, 3) := dc_at daX9_night_2 11 rfl
theorem dX9_night_109 : decode cX9_night 109 = .ok (.iconst 0, 1) := dc_at daX9_night_2 12 rfl
theorem dX9_night_110 : decode cX9_night 110 = .ok (.istore 6, 2) := dc_at daX9_night_2 13 rfl
theorem dX9_night_112 : decode cX9_night 112 = .ok (.iload_n 3, 1) := dc_at daX9_night_2 14 rfl
theorem dX9_night_113 : decode cX9_night 113 = .ok (.aload_n 0, 1) := dc_at daX9_night_2 15 rfl
theorem dX9_night_114 : decode cX9_night 114 = .ok (.aload_n 0, 1) := dc_at daX9_night_2 16 rfl
theorem dX9_night_115 : decode cX9_night 115 = .ok (.iload 5, 2) := dc_at daX9_night_2 17 rfl
theorem dX9_night_117 : decode cX9_night 117 = .ok (.i2l, 1) := dc_at daX9_night_2 18 rfl
theorem dX9_night_118 : decode cX9_night 118 = .ok (.invokevirtual 202, 3) := dc_at daX9_night_2 19 rfl
theorem dX9_night_121 : decode cX9_night 121 = .ok (.ifCond .ne 8, 3) := dc_at daX9_night_2 20 rfl
theorem dX9_night_124 : decode cX9_night 124 = .ok (.iload 5, 2) := dc_at daX9_night_2 21 rfl
theorem dX9_night_126 : decode cX9_night 126 = .ok (.goto 4, 3) := dc_at daX9_night_2 22 rfl
theorem dX9_night_129 : decode cX9_night 129 = .ok (.iconst 0, 1) := dc_at daX9_night_2 23 rfl
def dlX9_night_3 : List (Nat × Jvm.ClassFile.Instr × Nat) := [(130, .iload 6, 2), (132, .invokevirtual 206, 3), (135, .iadd, 1), (136, .istore_n 3, 1), (137, .iinc 4 1, 3), (140, .goto (-74), 3), (143, .iload_n 3, 1), (144, .ireturn, 1)]
theorem daX9_night_3 : dlX9_night_3.all (dcK cX9_night) = true := by decide +kernel
theorem dX9_night_130 : decode cX9_night 130 = .ok (.iload 6, 2) := dc_at daX9_night_3 0 rfl
theorem dX9_night_132 : decode cX9_night 132 = .ok (.invokevirtual 206, 3) := dc_at daX9_night_3 1 rfl
theorem dX9_night_135 : decode cX9_night 135 = .ok (.iadd, 1) := dc_at daX9_night_3 2 rfl
theorem dX9_night_136 : decode cX9_night 136 = .ok (.istore_n 3, 1) := dc_at daX9_night_3 3 rfl
theorem dX9_night_137 : decode cX9_night 137 = .ok (.iinc 4 1, 3) := dc_at daX9_night_3 4 rfl
theorem dX9_night_140 : decode cX9_night 140 = .ok (.goto (-74), 3) := dc_at daX9_night_3 5 rfl
theorem dX9_night_143 : decode cX9_night 143 = .ok (.iload_n 3, 1) := dc_at daX9_night_3 6 rfl
theorem dX9_night_144 : decode cX9_night 144 = .ok (.ireturn, 1) := dc_at daX9_night_3 7 rfl
def dlX9_walk_0 : List (Nat × Jvm.ClassFile.Instr × Nat) := [(0, .aload_n 0, 1), (1, .iconst 0, 1), (2, .putfield 1, 3), (5, .aload_n 0, 1), (6, .iload_n 1, 1), (7, .invokevirtual 172, 3), (10, .ifCond .eq 11, 3), (13, .aload_n 0, 1), (14, .iload_n 2, 1), (15, .invokevirtual 172, 3), (18, .ifCond .ne 6, 3), (21, .bipush (-2), 2), (23, .ireturn, 1), (24, .iload_n 3, 1), (25, .i2l, 1), (26, .lconst 0, 1), (27, .aload_n 0, 1), (28, .getfield 13, 3), (31, .bipush 32, 2), (33, .iload_n 1, 1), (34, .iadd, 1), (35, .iaload, 1), (36, .i2l, 1), (37, .invokestatic 128, 3)]
theorem daX9_walk_0 : dlX9_walk_0.all (dcK cX9_walk) = true := by decide +kernel
theorem dX9_walk_0 : decode cX9_walk 0 = .ok (.aload_n 0, 1) := dc_at daX9_walk_0 0 rfl
theorem dX9_walk_1 : decode cX9_walk 1 = .ok (.iconst 0, 1) := dc_at daX9_walk_0 1 rfl
theorem dX9_walk_2 : decode cX9_walk 2 = .ok (.putfield 1, 3) := dc_at daX9_walk_0 2 rfl
theorem dX9_walk_5 : decode cX9_walk 5 = .ok (.aload_n 0, 1) := dc_at daX9_walk_0 3 rfl
theorem dX9_walk_6 : decode cX9_walk 6 = .ok (.iload_n 1, 1) := dc_at daX9_walk_0 4 rfl
theorem dX9_walk_7 : decode cX9_walk 7 = .ok (.invokevirtual 172, 3) := dc_at daX9_walk_0 5 rfl
theorem dX9_walk_10 : decode cX9_walk 10 = .ok (.ifCond .eq 11, 3) := dc_at daX9_walk_0 6 rfl
theorem dX9_walk_13 : decode cX9_walk 13 = .ok (.aload_n 0, 1) := dc_at daX9_walk_0 7 rfl
theorem dX9_walk_14 : decode cX9_walk 14 = .ok (.iload_n 2, 1) := dc_at daX9_walk_0 8 rfl
theorem dX9_walk_15 : decode cX9_walk 15 = .ok (.invokevirtual 172, 3) := dc_at daX9_walk_0 9 rfl
theorem dX9_walk_18 : decode cX9_walk 18 = .ok (.ifCond .ne 6, 3) := dc_at daX9_walk_0 10 rfl
theorem dX9_walk_21 : decode cX9_walk 21 = .ok (.bipush (-2), 2) := dc_at daX9_walk_0 11 rfl
theorem dX9_walk_23 : decode cX9_walk 23 = .ok (.ireturn, 1) := dc_at daX9_walk_0 12 rfl
theorem dX9_walk_24 : decode cX9_walk 24 = .ok (.iload_n 3, 1) := dc_at daX9_walk_0 13 rfl
theorem dX9_walk_25 : decode cX9_walk 25 = .ok (.i2l, 1) := dc_at daX9_walk_0 14 rfl
theorem dX9_walk_26 : decode cX9_walk 26 = .ok (.lconst 0, 1) := dc_at daX9_walk_0 15 rfl
theorem dX9_walk_27 : decode cX9_walk 27 = .ok (.aload_n 0, 1) := dc_at daX9_walk_0 16 rfl
theorem dX9_walk_28 : decode cX9_walk 28 = .ok (.getfield 13, 3) := dc_at daX9_walk_0 17 rfl
theorem dX9_walk_31 : decode cX9_walk 31 = .ok (.bipush 32, 2) := dc_at daX9_walk_0 18 rfl
theorem dX9_walk_33 : decode cX9_walk 33 = .ok (.iload_n 1, 1) := dc_at daX9_walk_0 19 rfl
theorem dX9_walk_34 : decode cX9_walk 34 = .ok (.iadd, 1) := dc_at daX9_walk_0 20 rfl
theorem dX9_walk_35 : decode cX9_walk 35 = .ok (.iaload, 1) := dc_at daX9_walk_0 21 rfl
theorem dX9_walk_36 : decode cX9_walk 36 = .ok (.i2l, 1) := dc_at daX9_walk_0 22 rfl
theorem dX9_walk_37 : decode cX9_walk 37 = .ok (.invokestatic 128, 3) := dc_at daX9_walk_0 23 rfl
def dlX9_walk_1 : List (Nat × Jvm.ClassFile.Instr × Nat) := [(40, .ifCond .ne 6, 3), (43, .bipush (-3), 2), (45, .ireturn, 1), (46, .iload_n 1, 1), (47, .iload_n 2, 1), (48, .if_icmp .eq 22, 3), (51, .aload_n 0, 1), (52, .getfield 13, 3), (55, .bipush 32, 2), (57, .iload_n 2, 1), (58, .iadd, 1), (59, .iaload, 1), (60, .iload_n 3, 1), (61, .iadd, 1), (62, .bipush 9, 2), (64, .if_icmp .le 6, 3), (67, .bipush (-4), 2), (69, .ireturn, 1), (70, .aload_n 0, 1), (71, .getfield 13, 3), (74, .bipush 32, 2), (76, .iload_n 1, 1), (77, .iadd, 1), (78, .dup2, 1)]
theorem daX9_walk_1 : dlX9_walk_1.all (dcK cX9_walk) = true := by decide +kernel
theorem dX9_walk_40 : decode cX9_walk 40 = .ok (.ifCond .ne 6, 3) := dc_at daX9_walk_1 0 rfl
theorem dX9_walk_43 : decode cX9_walk 43 = .ok (.bipush (-3), 2) := dc_at daX9_walk_1 1 rfl
theorem dX9_walk_45 : decode cX9_walk 45 = .ok (.ireturn, 1) := dc_at daX9_walk_1 2 rfl
theorem dX9_walk_46 : decode cX9_walk 46 = .ok (.iload_n 1, 1) := dc_at daX9_walk_1 3 rfl
theorem dX9_walk_47 : decode cX9_walk 47 = .ok (.iload_n 2, 1) := dc_at daX9_walk_1 4 rfl
theorem dX9_walk_48 : decode cX9_walk 48 = .ok (.if_icmp .eq 22, 3) := dc_at daX9_walk_1 5 rfl
theorem dX9_walk_51 : decode cX9_walk 51 = .ok (.aload_n 0, 1) := dc_at daX9_walk_1 6 rfl
theorem dX9_walk_52 : decode cX9_walk 52 = .ok (.getfield 13, 3) := dc_at daX9_walk_1 7 rfl
theorem dX9_walk_55 : decode cX9_walk 55 = .ok (.bipush 32, 2) := dc_at daX9_walk_1 8 rfl
theorem dX9_walk_57 : decode cX9_walk 57 = .ok (.iload_n 2, 1) := dc_at daX9_walk_1 9 rfl
theorem dX9_walk_58 : decode cX9_walk 58 = .ok (.iadd, 1) := dc_at daX9_walk_1 10 rfl
theorem dX9_walk_59 : decode cX9_walk 59 = .ok (.iaload, 1) := dc_at daX9_walk_1 11 rfl
theorem dX9_walk_60 : decode cX9_walk 60 = .ok (.iload_n 3, 1) := dc_at daX9_walk_1 12 rfl
theorem dX9_walk_61 : decode cX9_walk 61 = .ok (.iadd, 1) := dc_at daX9_walk_1 13 rfl
theorem dX9_walk_62 : decode cX9_walk 62 = .ok (.bipush 9, 2) := dc_at daX9_walk_1 14 rfl
theorem dX9_walk_64 : decode cX9_walk 64 = .ok (.if_icmp .le 6, 3) := dc_at daX9_walk_1 15 rfl
theorem dX9_walk_67 : decode cX9_walk 67 = .ok (.bipush (-4), 2) := dc_at daX9_walk_1 16 rfl
theorem dX9_walk_69 : decode cX9_walk 69 = .ok (.ireturn, 1) := dc_at daX9_walk_1 17 rfl
theorem dX9_walk_70 : decode cX9_walk 70 = .ok (.aload_n 0, 1) := dc_at daX9_walk_1 18 rfl
theorem dX9_walk_71 : decode cX9_walk 71 = .ok (.getfield 13, 3) := dc_at daX9_walk_1 19 rfl
theorem dX9_walk_74 : decode cX9_walk 74 = .ok (.bipush 32, 2) := dc_at daX9_walk_1 20 rfl
theorem dX9_walk_76 : decode cX9_walk 76 = .ok (.iload_n 1, 1) := dc_at daX9_walk_1 21 rfl
theorem dX9_walk_77 : decode cX9_walk 77 = .ok (.iadd, 1) := dc_at daX9_walk_1 22 rfl
theorem dX9_walk_78 : decode cX9_walk 78 = .ok (.dup2, 1) := dc_at daX9_walk_1 23 rfl
def dlX9_walk_2 : List (Nat × Jvm.ClassFile.Instr × Nat) := [(79, .iaload, 1), (80, .iload_n 3, 1), (81, .isub, 1), (82, .iastore, 1), (83, .aload_n 0, 1), (84, .getfield 13, 3), (87, .bipush 32, 2), (89, .iload_n 2, 1), (90, .iadd, 1), (91, .dup2, 1), (92, .iaload, 1), (93, .iload_n 3, 1), (94, .iadd, 1), (95, .iastore, 1), (96, .iconst 0, 1), (97, .ireturn, 1)]
theorem daX9_walk_2 : dlX9_walk_2.all (dcK cX9_walk) = true := by decide +kernel
theorem dX9_walk_79 : decode cX9_walk 79 = .ok (.iaload, 1) := dc_at daX9_walk_2 0 rfl
theorem dX9_walk_80 : decode cX9_walk 80 = .ok (.iload_n 3, 1) := dc_at daX9_walk_2 1 rfl
theorem dX9_walk_81 : decode cX9_walk 81 = .ok (.isub, 1) := dc_at daX9_walk_2 2 rfl
theorem dX9_walk_82 : decode cX9_walk 82 = .ok (.iastore, 1) := dc_at daX9_walk_2 3 rfl
theorem dX9_walk_83 : decode cX9_walk 83 = .ok (.aload_n 0, 1) := dc_at daX9_walk_2 4 rfl
theorem dX9_walk_84 : decode cX9_walk 84 = .ok (.getfield 13, 3) := dc_at daX9_walk_2 5 rfl
theorem dX9_walk_87 : decode cX9_walk 87 = .ok (.bipush 32, 2) := dc_at daX9_walk_2 6 rfl
theorem dX9_walk_89 : decode cX9_walk 89 = .ok (.iload_n 2, 1) := dc_at daX9_walk_2 7 rfl
theorem dX9_walk_90 : decode cX9_walk 90 = .ok (.iadd, 1) := dc_at daX9_walk_2 8 rfl
theorem dX9_walk_91 : decode cX9_walk 91 = .ok (.dup2, 1) := dc_at daX9_walk_2 9 rfl
theorem dX9_walk_92 : decode cX9_walk 92 = .ok (.iaload, 1) := dc_at daX9_walk_2 10 rfl
theorem dX9_walk_93 : decode cX9_walk 93 = .ok (.iload_n 3, 1) := dc_at daX9_walk_2 11 rfl
theorem dX9_walk_94 : decode cX9_walk 94 = .ok (.iadd, 1) := dc_at daX9_walk_2 12 rfl
theorem dX9_walk_95 : decode cX9_walk 95 = .ok (.iastore, 1) := dc_at daX9_walk_2 13 rfl
theorem dX9_walk_96 : decode cX9_walk 96 = .ok (.iconst 0, 1) := dc_at daX9_walk_2 14 rfl
theorem dX9_walk_97 : decode cX9_walk 97 = .ok (.ireturn, 1) := dc_at daX9_walk_2 15 rfl
def dlX9_total_0 : List (Nat × Jvm.ClassFile.Instr × Nat) := [(0, .iconst 0, 1), (1, .istore_n 1, 1), (2, .iconst 0, 1), (3, .istore_n 2, 1), (4, .iload_n 2, 1), (5, .bipush 6, 2), (7, .if_icmp .ge 18, 3), (10, .iload_n 1, 1), (11, .aload_n 0, 1), (12, .getfield 30, 3), (15, .iload_n 2, 1), (16, .iaload, 1), (17, .iadd, 1), (18, .istore_n 1, 1), (19, .iinc 2 1, 3), (22, .goto (-18), 3), (25, .iload_n 1, 1), (26, .ireturn, 1)]
theorem daX9_total_0 : dlX9_total_0.all (dcK cX9_total) = true := by decide +kernel
theorem dX9_total_0 : decode cX9_total 0 = .ok (.iconst 0, 1) := dc_at daX9_total_0 0 rfl
theorem dX9_total_1 : decode cX9_total 1 = .ok (.istore_n 1, 1) := dc_at daX9_total_0 1 rfl
theorem dX9_total_2 : decode cX9_total 2 = .ok (.iconst 0, 1) := dc_at daX9_total_0 2 rfl
theorem dX9_total_3 : decode cX9_total 3 = .ok (.istore_n 2, 1) := dc_at daX9_total_0 3 rfl
theorem dX9_total_4 : decode cX9_total 4 = .ok (.iload_n 2, 1) := dc_at daX9_total_0 4 rfl
theorem dX9_total_5 : decode cX9_total 5 = .ok (.bipush 6, 2) := dc_at daX9_total_0 5 rfl
theorem dX9_total_7 : decode cX9_total 7 = .ok (.if_icmp .ge 18, 3) := dc_at daX9_total_0 6 rfl
theorem dX9_total_10 : decode cX9_total 10 = .ok (.iload_n 1, 1) := dc_at daX9_total_0 7 rfl
theorem dX9_total_11 : decode cX9_total 11 = .ok (.aload_n 0, 1) := dc_at daX9_total_0 8 rfl
theorem dX9_total_12 : decode cX9_total 12 = .ok (.getfield 30, 3) := dc_at daX9_total_0 9 rfl
theorem dX9_total_15 : decode cX9_total 15 = .ok (.iload_n 2, 1) := dc_at daX9_total_0 10 rfl
theorem dX9_total_16 : decode cX9_total 16 = .ok (.iaload, 1) := dc_at daX9_total_0 11 rfl
theorem dX9_total_17 : decode cX9_total 17 = .ok (.iadd, 1) := dc_at daX9_total_0 12 rfl
theorem dX9_total_18 : decode cX9_total 18 = .ok (.istore_n 1, 1) := dc_at daX9_total_0 13 rfl
theorem dX9_total_19 : decode cX9_total 19 = .ok (.iinc 2 1, 3) := dc_at daX9_total_0 14 rfl
theorem dX9_total_22 : decode cX9_total 22 = .ok (.goto (-18), 3) := dc_at daX9_total_0 15 rfl
theorem dX9_total_25 : decode cX9_total 25 = .ok (.iload_n 1, 1) := dc_at daX9_total_0 16 rfl
theorem dX9_total_26 : decode cX9_total 26 = .ok (.ireturn, 1) := dc_at daX9_total_0 17 rfl
def dlX9_firstWorth_0 : List (Nat × Jvm.ClassFile.Instr × Nat) := [(0, .aload_n 0, 1), (1, .getfield 236, 3), (4, .ifCond .ne 8, 3), (7, .aload_n 0, 1), (8, .invokevirtual 239, 3), (11, .ireturn, 1), (12, .aload_n 0, 1), (13, .getfield 236, 3), (16, .iconst 3, 1), (17, .if_icmp .ne 13, 3), (20, .aload_n 0, 1), (21, .getfield 30, 3), (24, .aload_n 0, 1), (25, .getfield 242, 3), (28, .iaload, 1), (29, .ireturn, 1), (30, .iconst 0, 1), (31, .istore_n 1, 1), (32, .iconst (-1), 1), (33, .istore_n 2, 1), (34, .iconst 0, 1), (35, .istore_n 3, 1), (36, .iload_n 3, 1), (37, .bipush 6, 2)]
theorem daX9_firstWorth_0 : dlX9_firstWorth_0.all (dcK cX9_firstWorth) = true := by decide +kernel
theorem dX9_firstWorth_0 : decode cX9_firstWorth 0 = .ok (.aload_n 0, 1) := dc_at daX9_firstWorth_0 0 rfl
theorem dX9_firstWorth_1 : decode cX9_firstWorth 1 = .ok (.getfield 236, 3) := dc_at daX9_firstWorth_0 1 rfl
theorem dX9_firstWorth_4 : decode cX9_firstWorth 4 = .ok (.ifCond .ne 8, 3) := dc_at daX9_firstWorth_0 2 rfl
theorem dX9_firstWorth_7 : decode cX9_firstWorth 7 = .ok (.aload_n 0, 1) := dc_at daX9_firstWorth_0 3 rfl
theorem dX9_firstWorth_8 : decode cX9_firstWorth 8 = .ok (.invokevirtual 239, 3) := dc_at daX9_firstWorth_0 4 rfl
theorem dX9_firstWorth_11 : decode cX9_firstWorth 11 = .ok (.ireturn, 1) := dc_at daX9_firstWorth_0 5 rfl
theorem dX9_firstWorth_12 : decode cX9_firstWorth 12 = .ok (.aload_n 0, 1) := dc_at daX9_firstWorth_0 6 rfl
theorem dX9_firstWorth_13 : decode cX9_firstWorth 13 = .ok (.getfield 236, 3) := dc_at daX9_firstWorth_0 7 rfl
theorem dX9_firstWorth_16 : decode cX9_firstWorth 16 = .ok (.iconst 3, 1) := dc_at daX9_firstWorth_0 8 rfl
theorem dX9_firstWorth_17 : decode cX9_firstWorth 17 = .ok (.if_icmp .ne 13, 3) := dc_at daX9_firstWorth_0 9 rfl
theorem dX9_firstWorth_20 : decode cX9_firstWorth 20 = .ok (.aload_n 0, 1) := dc_at daX9_firstWorth_0 10 rfl
theorem dX9_firstWorth_21 : decode cX9_firstWorth 21 = .ok (.getfield 30, 3) := dc_at daX9_firstWorth_0 11 rfl
theorem dX9_firstWorth_24 : decode cX9_firstWorth 24 = .ok (.aload_n 0, 1) := dc_at daX9_firstWorth_0 12 rfl
theorem dX9_firstWorth_25 : decode cX9_firstWorth 25 = .ok (.getfield 242, 3) := dc_at daX9_firstWorth_0 13 rfl
theorem dX9_firstWorth_28 : decode cX9_firstWorth 28 = .ok (.iaload, 1) := dc_at daX9_firstWorth_0 14 rfl
theorem dX9_firstWorth_29 : decode cX9_firstWorth 29 = .ok (.ireturn, 1) := dc_at daX9_firstWorth_0 15 rfl
theorem dX9_firstWorth_30 : decode cX9_firstWorth 30 = .ok (.iconst 0, 1) := dc_at daX9_firstWorth_0 16 rfl
theorem dX9_firstWorth_31 : decode cX9_firstWorth 31 = .ok (.istore_n 1, 1) := dc_at daX9_firstWorth_0 17 rfl
theorem dX9_firstWorth_32 : decode cX9_firstWorth 32 = .ok (.iconst (-1), 1) := dc_at daX9_firstWorth_0 18 rfl
theorem dX9_firstWorth_33 : decode cX9_firstWorth 33 = .ok (.istore_n 2, 1) := dc_at daX9_firstWorth_0 19 rfl
theorem dX9_firstWorth_34 : decode cX9_firstWorth 34 = .ok (.iconst 0, 1) := dc_at daX9_firstWorth_0 20 rfl
theorem dX9_firstWorth_35 : decode cX9_firstWorth 35 = .ok (.istore_n 3, 1) := dc_at daX9_firstWorth_0 21 rfl
theorem dX9_firstWorth_36 : decode cX9_firstWorth 36 = .ok (.iload_n 3, 1) := dc_at daX9_firstWorth_0 22 rfl
theorem dX9_firstWorth_37 : decode cX9_firstWorth 37 = .ok (.bipush 6, 2) := dc_at daX9_firstWorth_0 23 rfl
def dlX9_firstWorth_1 : List (Nat × Jvm.ClassFile.Instr × Nat) := [(39, .if_icmp .ge 58, 3), (42, .iload_n 1, 1), (43, .aload_n 0, 1), (44, .getfield 30, 3), (47, .iload_n 3, 1), (48, .iaload, 1), (49, .aload_n 0, 1), (50, .getfield 13, 3), (53, .bipush 10, 2), (55, .iload_n 3, 1), (56, .iadd, 1), (57, .iaload, 1), (58, .imul, 1), (59, .iadd, 1), (60, .istore_n 1, 1), (61, .aload_n 0, 1), (62, .iload_n 3, 1), (63, .invokevirtual 185, 3), (66, .ifCond .eq 25, 3), (69, .iload_n 2, 1), (70, .iconst (-1), 1), (71, .if_icmp .eq 13, 3), (74, .aload_n 0, 1), (75, .getfield 30, 3)]
theorem daX9_firstWorth_1 : dlX9_firstWorth_1.all (dcK cX9_firstWorth) = true := by decide +kernel
theorem dX9_firstWorth_39 : decode cX9_firstWorth 39 = .ok (.if_icmp .ge 58, 3) := dc_at daX9_firstWorth_1 0 rfl
theorem dX9_firstWorth_42 : decode cX9_firstWorth 42 = .ok (.iload_n 1, 1) := dc_at daX9_firstWorth_1 1 rfl
theorem dX9_firstWorth_43 : decode cX9_firstWorth 43 = .ok (.aload_n 0, 1) := dc_at daX9_firstWorth_1 2 rfl
theorem dX9_firstWorth_44 : decode cX9_firstWorth 44 = .ok (.getfield 30, 3) := dc_at daX9_firstWorth_1 3 rfl
theorem dX9_firstWorth_47 : decode cX9_firstWorth 47 = .ok (.iload_n 3, 1) := dc_at daX9_firstWorth_1 4 rfl
theorem dX9_firstWorth_48 : decode cX9_firstWorth 48 = .ok (.iaload, 1) := dc_at daX9_firstWorth_1 5 rfl
theorem dX9_firstWorth_49 : decode cX9_firstWorth 49 = .ok (.aload_n 0, 1) := dc_at daX9_firstWorth_1 6 rfl
theorem dX9_firstWorth_50 : decode cX9_firstWorth 50 = .ok (.getfield 13, 3) := dc_at daX9_firstWorth_1 7 rfl
theorem dX9_firstWorth_53 : decode cX9_firstWorth 53 = .ok (.bipush 10, 2) := dc_at daX9_firstWorth_1 8 rfl
theorem dX9_firstWorth_55 : decode cX9_firstWorth 55 = .ok (.iload_n 3, 1) := dc_at daX9_firstWorth_1 9 rfl
theorem dX9_firstWorth_56 : decode cX9_firstWorth 56 = .ok (.iadd, 1) := dc_at daX9_firstWorth_1 10 rfl
theorem dX9_firstWorth_57 : decode cX9_firstWorth 57 = .ok (.iaload, 1) := dc_at daX9_firstWorth_1 11 rfl
theorem dX9_firstWorth_58 : decode cX9_firstWorth 58 = .ok (.imul, 1) := dc_at daX9_firstWorth_1 12 rfl
theorem dX9_firstWorth_59 : decode cX9_firstWorth 59 = .ok (.iadd, 1) := dc_at daX9_firstWorth_1 13 rfl
theorem dX9_firstWorth_60 : decode cX9_firstWorth 60 = .ok (.istore_n 1, 1) := dc_at daX9_firstWorth_1 14 rfl
theorem dX9_firstWorth_61 : decode cX9_firstWorth 61 = .ok (.aload_n 0, 1) := dc_at daX9_firstWorth_1 15 rfl
theorem dX9_firstWorth_62 : decode cX9_firstWorth 62 = .ok (.iload_n 3, 1) := dc_at daX9_firstWorth_1 16 rfl
theorem dX9_firstWorth_63 : decode cX9_firstWorth 63 = .ok (.invokevirtual 185, 3) := dc_at daX9_firstWorth_1 17 rfl
theorem dX9_firstWorth_66 : decode cX9_firstWorth 66 = .ok (.ifCond .eq 25, 3) := dc_at daX9_firstWorth_1 18 rfl
theorem dX9_firstWorth_69 : decode cX9_firstWorth 69 = .ok (.iload_n 2, 1) := dc_at daX9_firstWorth_1 19 rfl
theorem dX9_firstWorth_70 : decode cX9_firstWorth 70 = .ok (.iconst (-1), 1) := dc_at daX9_firstWorth_1 20 rfl
theorem dX9_firstWorth_71 : decode cX9_firstWorth 71 = .ok (.if_icmp .eq 13, 3) := dc_at daX9_firstWorth_1 21 rfl
theorem dX9_firstWorth_74 : decode cX9_firstWorth 74 = .ok (.aload_n 0, 1) := dc_at daX9_firstWorth_1 22 rfl
theorem dX9_firstWorth_75 : decode cX9_firstWorth 75 = .ok (.getfield 30, 3) := dc_at daX9_firstWorth_1 23 rfl
def dlX9_firstWorth_2 : List (Nat × Jvm.ClassFile.Instr × Nat) := [(78, .iload_n 3, 1), (79, .iaload, 1), (80, .iload_n 2, 1), (81, .if_icmp .ge 10, 3), (84, .aload_n 0, 1), (85, .getfield 30, 3), (88, .iload_n 3, 1), (89, .iaload, 1), (90, .istore_n 2, 1), (91, .iinc 3 1, 3), (94, .goto (-58), 3), (97, .aload_n 0, 1), (98, .getfield 236, 3), (101, .iconst 1, 1), (102, .if_icmp .ne 7, 3), (105, .iload_n 1, 1), (106, .goto 4, 3), (109, .iload_n 2, 1), (110, .ireturn, 1)]
theorem daX9_firstWorth_2 : dlX9_firstWorth_2.all (dcK cX9_firstWorth) = true := by decide +kernel
theorem dX9_firstWorth_78 : decode cX9_firstWorth 78 = .ok (.iload_n 3, 1) := dc_at daX9_firstWorth_2 0 rfl
theorem dX9_firstWorth_79 : decode cX9_firstWorth 79 = .ok (.iaload, 1) := dc_at daX9_firstWorth_2 1 rfl
theorem dX9_firstWorth_80 : decode cX9_firstWorth 80 = .ok (.iload_n 2, 1) := dc_at daX9_firstWorth_2 2 rfl
theorem dX9_firstWorth_81 : decode cX9_firstWorth 81 = .ok (.if_icmp .ge 10, 3) := dc_at daX9_firstWorth_2 3 rfl
theorem dX9_firstWorth_84 : decode cX9_firstWorth 84 = .ok (.aload_n 0, 1) := dc_at daX9_firstWorth_2 4 rfl
theorem dX9_firstWorth_85 : decode cX9_firstWorth 85 = .ok (.getfield 30, 3) := dc_at daX9_firstWorth_2 5 rfl
theorem dX9_firstWorth_88 : decode cX9_firstWorth 88 = .ok (.iload_n 3, 1) := dc_at daX9_firstWorth_2 6 rfl
theorem dX9_firstWorth_89 : decode cX9_firstWorth 89 = .ok (.iaload, 1) := dc_at daX9_firstWorth_2 7 rfl
theorem dX9_firstWorth_90 : decode cX9_firstWorth 90 = .ok (.istore_n 2, 1) := dc_at daX9_firstWorth_2 8 rfl
theorem dX9_firstWorth_91 : decode cX9_firstWorth 91 = .ok (.iinc 3 1, 3) := dc_at daX9_firstWorth_2 9 rfl
theorem dX9_firstWorth_94 : decode cX9_firstWorth 94 = .ok (.goto (-58), 3) := dc_at daX9_firstWorth_2 10 rfl
theorem dX9_firstWorth_97 : decode cX9_firstWorth 97 = .ok (.aload_n 0, 1) := dc_at daX9_firstWorth_2 11 rfl
theorem dX9_firstWorth_98 : decode cX9_firstWorth 98 = .ok (.getfield 236, 3) := dc_at daX9_firstWorth_2 12 rfl
theorem dX9_firstWorth_101 : decode cX9_firstWorth 101 = .ok (.iconst 1, 1) := dc_at daX9_firstWorth_2 13 rfl
theorem dX9_firstWorth_102 : decode cX9_firstWorth 102 = .ok (.if_icmp .ne 7, 3) := dc_at daX9_firstWorth_2 14 rfl
theorem dX9_firstWorth_105 : decode cX9_firstWorth 105 = .ok (.iload_n 1, 1) := dc_at daX9_firstWorth_2 15 rfl
theorem dX9_firstWorth_106 : decode cX9_firstWorth 106 = .ok (.goto 4, 3) := dc_at daX9_firstWorth_2 16 rfl
theorem dX9_firstWorth_109 : decode cX9_firstWorth 109 = .ok (.iload_n 2, 1) := dc_at daX9_firstWorth_2 17 rfl
theorem dX9_firstWorth_110 : decode cX9_firstWorth 110 = .ok (.ireturn, 1) := dc_at daX9_firstWorth_2 18 rfl
def dlX9_seeks_0 : List (Nat × Jvm.ClassFile.Instr × Nat) := [(0, .iload_n 1, 1), (1, .aload_n 0, 1), (2, .getfield 245, 3), (5, .if_icmp .ne 120, 3), (8, .aload_n 0, 1), (9, .invokevirtual 248, 3), (12, .istore_n 2, 1), (13, .aload_n 0, 1), (14, .getfield 236, 3), (17, .iconst 2, 1), (18, .if_icmp .ne 10, 3), (21, .aload_n 0, 1), (22, .invokevirtual 239, 3), (25, .goto 4, 3), (28, .iconst 0, 1), (29, .istore_n 3, 1), (30, .iload_n 2, 1), (31, .aload_n 0, 1), (32, .getfield 251, 3), (35, .if_icmp .lt 19, 3), (38, .iload_n 2, 1), (39, .aload_n 0, 1), (40, .getfield 251, 3), (43, .if_icmp .ne 12, 3)]
theorem daX9_seeks_0 : dlX9_seeks_0.all (dcK cX9_seeks) = true := by decide +kernel
theorem dX9_seeks_0 : decode cX9_seeks 0 = .ok (.iload_n 1, 1) := dc_at daX9_seeks_0 0 rfl
theorem dX9_seeks_1 : decode cX9_seeks 1 = .ok (.aload_n 0, 1) := dc_at daX9_seeks_0 1 rfl
theorem dX9_seeks_2 : decode cX9_seeks 2 = .ok (.getfield 245, 3) := dc_at daX9_seeks_0 2 rfl
theorem dX9_seeks_5 : decode cX9_seeks 5 = .ok (.if_icmp .ne 120, 3) := dc_at daX9_seeks_0 3 rfl
theorem dX9_seeks_8 : decode cX9_seeks 8 = .ok (.aload_n 0, 1) := dc_at daX9_seeks_0 4 rfl
theorem dX9_seeks_9 : decode cX9_seeks 9 = .ok (.invokevirtual 248, 3) := dc_at daX9_seeks_0 5 rfl
theorem dX9_seeks_12 : decode cX9_seeks 12 = .ok (.istore_n 2, 1) := dc_at daX9_seeks_0 6 rfl
theorem dX9_seeks_13 : decode cX9_seeks 13 = .ok (.aload_n 0, 1) := dc_at daX9_seeks_0 7 rfl
theorem dX9_seeks_14 : decode cX9_seeks 14 = .ok (.getfield 236, 3) := dc_at daX9_seeks_0 8 rfl
theorem dX9_seeks_17 : decode cX9_seeks 17 = .ok (.iconst 2, 1) := dc_at daX9_seeks_0 9 rfl
theorem dX9_seeks_18 : decode cX9_seeks 18 = .ok (.if_icmp .ne 10, 3) := dc_at daX9_seeks_0 10 rfl
theorem dX9_seeks_21 : decode cX9_seeks 21 = .ok (.aload_n 0, 1) := dc_at daX9_seeks_0 11 rfl
theorem dX9_seeks_22 : decode cX9_seeks 22 = .ok (.invokevirtual 239, 3) := dc_at daX9_seeks_0 12 rfl
theorem dX9_seeks_25 : decode cX9_seeks 25 = .ok (.goto 4, 3) := dc_at daX9_seeks_0 13 rfl
theorem dX9_seeks_28 : decode cX9_seeks 28 = .ok (.iconst 0, 1) := dc_at daX9_seeks_0 14 rfl
theorem dX9_seeks_29 : decode cX9_seeks 29 = .ok (.istore_n 3, 1) := dc_at daX9_seeks_0 15 rfl
theorem dX9_seeks_30 : decode cX9_seeks 30 = .ok (.iload_n 2, 1) := dc_at daX9_seeks_0 16 rfl
theorem dX9_seeks_31 : decode cX9_seeks 31 = .ok (.aload_n 0, 1) := dc_at daX9_seeks_0 17 rfl
theorem dX9_seeks_32 : decode cX9_seeks 32 = .ok (.getfield 251, 3) := dc_at daX9_seeks_0 18 rfl
theorem dX9_seeks_35 : decode cX9_seeks 35 = .ok (.if_icmp .lt 19, 3) := dc_at daX9_seeks_0 19 rfl
theorem dX9_seeks_38 : decode cX9_seeks 38 = .ok (.iload_n 2, 1) := dc_at daX9_seeks_0 20 rfl
theorem dX9_seeks_39 : decode cX9_seeks 39 = .ok (.aload_n 0, 1) := dc_at daX9_seeks_0 21 rfl
theorem dX9_seeks_40 : decode cX9_seeks 40 = .ok (.getfield 251, 3) := dc_at daX9_seeks_0 22 rfl
theorem dX9_seeks_43 : decode cX9_seeks 43 = .ok (.if_icmp .ne 12, 3) := dc_at daX9_seeks_0 23 rfl
def dlX9_seeks_1 : List (Nat × Jvm.ClassFile.Instr × Nat) := [(46, .iload_n 3, 1), (47, .aload_n 0, 1), (48, .getfield 254, 3), (51, .if_icmp .gt 4, 3), (54, .return_, 1), (55, .aload_n 0, 1), (56, .iload_n 2, 1), (57, .putfield 251, 3), (60, .aload_n 0, 1), (61, .iload_n 3, 1), (62, .putfield 254, 3), (65, .iconst 0, 1), (66, .istore 4, 2), (68, .iload 4, 2), (70, .iload_n 1, 1), (71, .if_icmp .ge 23, 3), (74, .aload_n 0, 1), (75, .getfield 39, 3), (78, .iload 4, 2), (80, .aload_n 0, 1), (81, .getfield 36, 3), (84, .iload 4, 2), (86, .iaload, 1), (87, .iastore, 1)]
theorem daX9_seeks_1 : dlX9_seeks_1.all (dcK cX9_seeks) = true := by decide +kernel
theorem dX9_seeks_46 : decode cX9_seeks 46 = .ok (.iload_n 3, 1) := dc_at daX9_seeks_1 0 rfl
theorem dX9_seeks_47 : decode cX9_seeks 47 = .ok (.aload_n 0, 1) := dc_at daX9_seeks_1 1 rfl
theorem dX9_seeks_48 : decode cX9_seeks 48 = .ok (.getfield 254, 3) := dc_at daX9_seeks_1 2 rfl
theorem dX9_seeks_51 : decode cX9_seeks 51 = .ok (.if_icmp .gt 4, 3) := dc_at daX9_seeks_1 3 rfl
theorem dX9_seeks_54 : decode cX9_seeks 54 = .ok (.return_, 1) := dc_at daX9_seeks_1 4 rfl
theorem dX9_seeks_55 : decode cX9_seeks 55 = .ok (.aload_n 0, 1) := dc_at daX9_seeks_1 5 rfl
theorem dX9_seeks_56 : decode cX9_seeks 56 = .ok (.iload_n 2, 1) := dc_at daX9_seeks_1 6 rfl
theorem dX9_seeks_57 : decode cX9_seeks 57 = .ok (.putfield 251, 3) := dc_at daX9_seeks_1 7 rfl
theorem dX9_seeks_60 : decode cX9_seeks 60 = .ok (.aload_n 0, 1) := dc_at daX9_seeks_1 8 rfl
theorem dX9_seeks_61 : decode cX9_seeks 61 = .ok (.iload_n 3, 1) := dc_at daX9_seeks_1 9 rfl
theorem dX9_seeks_62 : decode cX9_seeks 62 = .ok (.putfield 254, 3) := dc_at daX9_seeks_1 10 rfl
theorem dX9_seeks_65 : decode cX9_seeks 65 = .ok (.iconst 0, 1) := dc_at daX9_seeks_1 11 rfl
theorem dX9_seeks_66 : decode cX9_seeks 66 = .ok (.istore 4, 2) := dc_at daX9_seeks_1 12 rfl
theorem dX9_seeks_68 : decode cX9_seeks 68 = .ok (.iload 4, 2) := dc_at daX9_seeks_1 13 rfl
theorem dX9_seeks_70 : decode cX9_seeks 70 = .ok (.iload_n 1, 1) := dc_at daX9_seeks_1 14 rfl
theorem dX9_seeks_71 : decode cX9_seeks 71 = .ok (.if_icmp .ge 23, 3) := dc_at daX9_seeks_1 15 rfl
theorem dX9_seeks_74 : decode cX9_seeks 74 = .ok (.aload_n 0, 1) := dc_at daX9_seeks_1 16 rfl
theorem dX9_seeks_75 : decode cX9_seeks 75 = .ok (.getfield 39, 3) := dc_at daX9_seeks_1 17 rfl
theorem dX9_seeks_78 : decode cX9_seeks 78 = .ok (.iload 4, 2) := dc_at daX9_seeks_1 18 rfl
theorem dX9_seeks_80 : decode cX9_seeks 80 = .ok (.aload_n 0, 1) := dc_at daX9_seeks_1 19 rfl
theorem dX9_seeks_81 : decode cX9_seeks 81 = .ok (.getfield 36, 3) := dc_at daX9_seeks_1 20 rfl
theorem dX9_seeks_84 : decode cX9_seeks 84 = .ok (.iload 4, 2) := dc_at daX9_seeks_1 21 rfl
theorem dX9_seeks_86 : decode cX9_seeks 86 = .ok (.iaload, 1) := dc_at daX9_seeks_1 22 rfl
theorem dX9_seeks_87 : decode cX9_seeks 87 = .ok (.iastore, 1) := dc_at daX9_seeks_1 23 rfl
def dlX9_seeks_2 : List (Nat × Jvm.ClassFile.Instr × Nat) := [(88, .iinc 4 1, 3), (91, .goto (-23), 3), (94, .iconst 0, 1), (95, .istore 4, 2), (97, .iload 4, 2), (99, .bipush 6, 2), (101, .if_icmp .ge 23, 3), (104, .aload_n 0, 1), (105, .getfield 42, 3), (108, .iload 4, 2), (110, .aload_n 0, 1), (111, .getfield 30, 3), (114, .iload 4, 2), (116, .iaload, 1), (117, .iastore, 1), (118, .iinc 4 1, 3), (121, .goto (-24), 3), (124, .return_, 1), (125, .aload_n 0, 1), (126, .iload_n 1, 1), (127, .invokevirtual 216, 3), (130, .aload_n 0, 1), (131, .getfield 30, 3), (134, .iconst 0, 1)]
theorem daX9_seeks_2 : dlX9_seeks_2.all (dcK cX9_seeks) = true := by decide +kernel
theorem dX9_seeks_88 : decode cX9_seeks 88 = .ok (.iinc 4 1, 3) := dc_at daX9_seeks_2 0 rfl
theorem dX9_seeks_91 : decode cX9_seeks 91 = .ok (.goto (-23), 3) := dc_at daX9_seeks_2 1 rfl
theorem dX9_seeks_94 : decode cX9_seeks 94 = .ok (.iconst 0, 1) := dc_at daX9_seeks_2 2 rfl
theorem dX9_seeks_95 : decode cX9_seeks 95 = .ok (.istore 4, 2) := dc_at daX9_seeks_2 3 rfl
theorem dX9_seeks_97 : decode cX9_seeks 97 = .ok (.iload 4, 2) := dc_at daX9_seeks_2 4 rfl
theorem dX9_seeks_99 : decode cX9_seeks 99 = .ok (.bipush 6, 2) := dc_at daX9_seeks_2 5 rfl
theorem dX9_seeks_101 : decode cX9_seeks 101 = .ok (.if_icmp .ge 23, 3) := dc_at daX9_seeks_2 6 rfl
theorem dX9_seeks_104 : decode cX9_seeks 104 = .ok (.aload_n 0, 1) := dc_at daX9_seeks_2 7 rfl
theorem dX9_seeks_105 : decode cX9_seeks 105 = .ok (.getfield 42, 3) := dc_at daX9_seeks_2 8 rfl
theorem dX9_seeks_108 : decode cX9_seeks 108 = .ok (.iload 4, 2) := dc_at daX9_seeks_2 9 rfl
theorem dX9_seeks_110 : decode cX9_seeks 110 = .ok (.aload_n 0, 1) := dc_at daX9_seeks_2 10 rfl
theorem dX9_seeks_111 : decode cX9_seeks 111 = .ok (.getfield 30, 3) := dc_at daX9_seeks_2 11 rfl
theorem dX9_seeks_114 : decode cX9_seeks 114 = .ok (.iload 4, 2) := dc_at daX9_seeks_2 12 rfl
theorem dX9_seeks_116 : decode cX9_seeks 116 = .ok (.iaload, 1) := dc_at daX9_seeks_2 13 rfl
theorem dX9_seeks_117 : decode cX9_seeks 117 = .ok (.iastore, 1) := dc_at daX9_seeks_2 14 rfl
theorem dX9_seeks_118 : decode cX9_seeks 118 = .ok (.iinc 4 1, 3) := dc_at daX9_seeks_2 15 rfl
theorem dX9_seeks_121 : decode cX9_seeks 121 = .ok (.goto (-24), 3) := dc_at daX9_seeks_2 16 rfl
theorem dX9_seeks_124 : decode cX9_seeks 124 = .ok (.return_, 1) := dc_at daX9_seeks_2 17 rfl
theorem dX9_seeks_125 : decode cX9_seeks 125 = .ok (.aload_n 0, 1) := dc_at daX9_seeks_2 18 rfl
theorem dX9_seeks_126 : decode cX9_seeks 126 = .ok (.iload_n 1, 1) := dc_at daX9_seeks_2 19 rfl
theorem dX9_seeks_127 : decode cX9_seeks 127 = .ok (.invokevirtual 216, 3) := dc_at daX9_seeks_2 20 rfl
theorem dX9_seeks_130 : decode cX9_seeks 130 = .ok (.aload_n 0, 1) := dc_at daX9_seeks_2 21 rfl
theorem dX9_seeks_131 : decode cX9_seeks 131 = .ok (.getfield 30, 3) := dc_at daX9_seeks_2 22 rfl
theorem dX9_seeks_134 : decode cX9_seeks 134 = .ok (.iconst 0, 1) := dc_at daX9_seeks_2 23 rfl
def dlX9_seeks_3 : List (Nat × Jvm.ClassFile.Instr × Nat) := [(135, .iaload, 1), (136, .istore_n 2, 1), (137, .aload_n 0, 1), (138, .getfield 30, 3), (141, .iconst 1, 1), (142, .iaload, 1), (143, .istore_n 3, 1), (144, .aload_n 0, 1), (145, .getfield 30, 3), (148, .iconst 2, 1), (149, .iaload, 1), (150, .istore 4, 2), (152, .aload_n 0, 1), (153, .getfield 30, 3), (156, .iconst 3, 1), (157, .iaload, 1), (158, .istore 5, 2), (160, .aload_n 0, 1), (161, .getfield 30, 3), (164, .iconst 4, 1), (165, .iaload, 1), (166, .istore 6, 2), (168, .aload_n 0, 1), (169, .getfield 30, 3)]
theorem daX9_seeks_3 : dlX9_seeks_3.all (dcK cX9_seeks) = true := by decide +kernel
theorem dX9_seeks_135 : decode cX9_seeks 135 = .ok (.iaload, 1) := dc_at daX9_seeks_3 0 rfl
theorem dX9_seeks_136 : decode cX9_seeks 136 = .ok (.istore_n 2, 1) := dc_at daX9_seeks_3 1 rfl
theorem dX9_seeks_137 : decode cX9_seeks 137 = .ok (.aload_n 0, 1) := dc_at daX9_seeks_3 2 rfl
theorem dX9_seeks_138 : decode cX9_seeks 138 = .ok (.getfield 30, 3) := dc_at daX9_seeks_3 3 rfl
theorem dX9_seeks_141 : decode cX9_seeks 141 = .ok (.iconst 1, 1) := dc_at daX9_seeks_3 4 rfl
theorem dX9_seeks_142 : decode cX9_seeks 142 = .ok (.iaload, 1) := dc_at daX9_seeks_3 5 rfl
theorem dX9_seeks_143 : decode cX9_seeks 143 = .ok (.istore_n 3, 1) := dc_at daX9_seeks_3 6 rfl
theorem dX9_seeks_144 : decode cX9_seeks 144 = .ok (.aload_n 0, 1) := dc_at daX9_seeks_3 7 rfl
theorem dX9_seeks_145 : decode cX9_seeks 145 = .ok (.getfield 30, 3) := dc_at daX9_seeks_3 8 rfl
theorem dX9_seeks_148 : decode cX9_seeks 148 = .ok (.iconst 2, 1) := dc_at daX9_seeks_3 9 rfl
theorem dX9_seeks_149 : decode cX9_seeks 149 = .ok (.iaload, 1) := dc_at daX9_seeks_3 10 rfl
theorem dX9_seeks_150 : decode cX9_seeks 150 = .ok (.istore 4, 2) := dc_at daX9_seeks_3 11 rfl
theorem dX9_seeks_152 : decode cX9_seeks 152 = .ok (.aload_n 0, 1) := dc_at daX9_seeks_3 12 rfl
theorem dX9_seeks_153 : decode cX9_seeks 153 = .ok (.getfield 30, 3) := dc_at daX9_seeks_3 13 rfl
theorem dX9_seeks_156 : decode cX9_seeks 156 = .ok (.iconst 3, 1) := dc_at daX9_seeks_3 14 rfl
theorem dX9_seeks_157 : decode cX9_seeks 157 = .ok (.iaload, 1) := dc_at daX9_seeks_3 15 rfl
theorem dX9_seeks_158 : decode cX9_seeks 158 = .ok (.istore 5, 2) := dc_at daX9_seeks_3 16 rfl
theorem dX9_seeks_160 : decode cX9_seeks 160 = .ok (.aload_n 0, 1) := dc_at daX9_seeks_3 17 rfl
theorem dX9_seeks_161 : decode cX9_seeks 161 = .ok (.getfield 30, 3) := dc_at daX9_seeks_3 18 rfl
theorem dX9_seeks_164 : decode cX9_seeks 164 = .ok (.iconst 4, 1) := dc_at daX9_seeks_3 19 rfl
theorem dX9_seeks_165 : decode cX9_seeks 165 = .ok (.iaload, 1) := dc_at daX9_seeks_3 20 rfl
theorem dX9_seeks_166 : decode cX9_seeks 166 = .ok (.istore 6, 2) := dc_at daX9_seeks_3 21 rfl
theorem dX9_seeks_168 : decode cX9_seeks 168 = .ok (.aload_n 0, 1) := dc_at daX9_seeks_3 22 rfl
theorem dX9_seeks_169 : decode cX9_seeks 169 = .ok (.getfield 30, 3) := dc_at daX9_seeks_3 23 rfl
def dlX9_seeks_4 : List (Nat × Jvm.ClassFile.Instr × Nat) := [(172, .iconst 5, 1), (173, .iaload, 1), (174, .istore 7, 2), (176, .iconst 0, 1), (177, .istore 8, 2), (179, .iload 8, 2), (181, .iconst 3, 1), (182, .if_icmp .ge 96, 3), (185, .aload_n 0, 1), (186, .iload 8, 2), (188, .i2l, 1), (189, .invokevirtual 202, 3), (192, .ifCond .eq 6, 3), (195, .goto 77, 3), (198, .aload_n 0, 1), (199, .getfield 36, 3), (202, .iload_n 1, 1), (203, .iload 8, 2), (205, .iastore, 1), (206, .aload_n 0, 1), (207, .iload 8, 2), (209, .iconst 0, 1), (210, .invokevirtual 206, 3), (213, .pop, 1)]
theorem daX9_seeks_4 : dlX9_seeks_4.all (dcK cX9_seeks) = true := by decide +kernel
theorem dX9_seeks_172 : decode cX9_seeks 172 = .ok (.iconst 5, 1) := dc_at daX9_seeks_4 0 rfl
theorem dX9_seeks_173 : decode cX9_seeks 173 = .ok (.iaload, 1) := dc_at daX9_seeks_4 1 rfl
theorem dX9_seeks_174 : decode cX9_seeks 174 = .ok (.istore 7, 2) := dc_at daX9_seeks_4 2 rfl
theorem dX9_seeks_176 : decode cX9_seeks 176 = .ok (.iconst 0, 1) := dc_at daX9_seeks_4 3 rfl
theorem dX9_seeks_177 : decode cX9_seeks 177 = .ok (.istore 8, 2) := dc_at daX9_seeks_4 4 rfl
theorem dX9_seeks_179 : decode cX9_seeks 179 = .ok (.iload 8, 2) := dc_at daX9_seeks_4 5 rfl
theorem dX9_seeks_181 : decode cX9_seeks 181 = .ok (.iconst 3, 1) := dc_at daX9_seeks_4 6 rfl
theorem dX9_seeks_182 : decode cX9_seeks 182 = .ok (.if_icmp .ge 96, 3) := dc_at daX9_seeks_4 7 rfl
theorem dX9_seeks_185 : decode cX9_seeks 185 = .ok (.aload_n 0, 1) := dc_at daX9_seeks_4 8 rfl
theorem dX9_seeks_186 : decode cX9_seeks 186 = .ok (.iload 8, 2) := dc_at daX9_seeks_4 9 rfl
theorem dX9_seeks_188 : decode cX9_seeks 188 = .ok (.i2l, 1) := dc_at daX9_seeks_4 10 rfl
theorem dX9_seeks_189 : decode cX9_seeks 189 = .ok (.invokevirtual 202, 3) := dc_at daX9_seeks_4 11 rfl
theorem dX9_seeks_192 : decode cX9_seeks 192 = .ok (.ifCond .eq 6, 3) := dc_at daX9_seeks_4 12 rfl
theorem dX9_seeks_195 : decode cX9_seeks 195 = .ok (.goto 77, 3) := dc_at daX9_seeks_4 13 rfl
theorem dX9_seeks_198 : decode cX9_seeks 198 = .ok (.aload_n 0, 1) := dc_at daX9_seeks_4 14 rfl
theorem dX9_seeks_199 : decode cX9_seeks 199 = .ok (.getfield 36, 3) := dc_at daX9_seeks_4 15 rfl
theorem dX9_seeks_202 : decode cX9_seeks 202 = .ok (.iload_n 1, 1) := dc_at daX9_seeks_4 16 rfl
theorem dX9_seeks_203 : decode cX9_seeks 203 = .ok (.iload 8, 2) := dc_at daX9_seeks_4 17 rfl
theorem dX9_seeks_205 : decode cX9_seeks 205 = .ok (.iastore, 1) := dc_at daX9_seeks_4 18 rfl
theorem dX9_seeks_206 : decode cX9_seeks 206 = .ok (.aload_n 0, 1) := dc_at daX9_seeks_4 19 rfl
theorem dX9_seeks_207 : decode cX9_seeks 207 = .ok (.iload 8, 2) := dc_at daX9_seeks_4 20 rfl
theorem dX9_seeks_209 : decode cX9_seeks 209 = .ok (.iconst 0, 1) := dc_at daX9_seeks_4 21 rfl
theorem dX9_seeks_210 : decode cX9_seeks 210 = .ok (.invokevirtual 206, 3) := dc_at daX9_seeks_4 22 rfl
theorem dX9_seeks_213 : decode cX9_seeks 213 = .ok (.pop, 1) := dc_at daX9_seeks_4 23 rfl
def dlX9_seeks_5 : List (Nat × Jvm.ClassFile.Instr × Nat) := [(214, .aload_n 0, 1), (215, .iload_n 1, 1), (216, .iconst 1, 1), (217, .iadd, 1), (218, .invokevirtual 257, 3), (221, .aload_n 0, 1), (222, .iload_n 1, 1), (223, .invokevirtual 222, 3), (226, .aload_n 0, 1), (227, .getfield 30, 3), (230, .iconst 0, 1), (231, .iload_n 2, 1), (232, .iastore, 1), (233, .aload_n 0, 1), (234, .getfield 30, 3), (237, .iconst 1, 1), (238, .iload_n 3, 1), (239, .iastore, 1), (240, .aload_n 0, 1), (241, .getfield 30, 3), (244, .iconst 2, 1), (245, .iload 4, 2), (247, .iastore, 1), (248, .aload_n 0, 1)]
theorem daX9_seeks_5 : dlX9_seeks_5.all (dcK cX9_seeks) = true := by decide +kernel
theorem dX9_seeks_214 : decode cX9_seeks 214 = .ok (.aload_n 0, 1) := dc_at daX9_seeks_5 0 rfl
theorem dX9_seeks_215 : decode cX9_seeks 215 = .ok (.iload_n 1, 1) := dc_at daX9_seeks_5 1 rfl
theorem dX9_seeks_216 : decode cX9_seeks 216 = .ok (.iconst 1, 1) := dc_at daX9_seeks_5 2 rfl
theorem dX9_seeks_217 : decode cX9_seeks 217 = .ok (.iadd, 1) := dc_at daX9_seeks_5 3 rfl
theorem dX9_seeks_218 : decode cX9_seeks 218 = .ok (.invokevirtual 257, 3) := dc_at daX9_seeks_5 4 rfl
theorem dX9_seeks_221 : decode cX9_seeks 221 = .ok (.aload_n 0, 1) := dc_at daX9_seeks_5 5 rfl
theorem dX9_seeks_222 : decode cX9_seeks 222 = .ok (.iload_n 1, 1) := dc_at daX9_seeks_5 6 rfl
theorem dX9_seeks_223 : decode cX9_seeks 223 = .ok (.invokevirtual 222, 3) := dc_at daX9_seeks_5 7 rfl
theorem dX9_seeks_226 : decode cX9_seeks 226 = .ok (.aload_n 0, 1) := dc_at daX9_seeks_5 8 rfl
theorem dX9_seeks_227 : decode cX9_seeks 227 = .ok (.getfield 30, 3) := dc_at daX9_seeks_5 9 rfl
theorem dX9_seeks_230 : decode cX9_seeks 230 = .ok (.iconst 0, 1) := dc_at daX9_seeks_5 10 rfl
theorem dX9_seeks_231 : decode cX9_seeks 231 = .ok (.iload_n 2, 1) := dc_at daX9_seeks_5 11 rfl
theorem dX9_seeks_232 : decode cX9_seeks 232 = .ok (.iastore, 1) := dc_at daX9_seeks_5 12 rfl
theorem dX9_seeks_233 : decode cX9_seeks 233 = .ok (.aload_n 0, 1) := dc_at daX9_seeks_5 13 rfl
theorem dX9_seeks_234 : decode cX9_seeks 234 = .ok (.getfield 30, 3) := dc_at daX9_seeks_5 14 rfl
theorem dX9_seeks_237 : decode cX9_seeks 237 = .ok (.iconst 1, 1) := dc_at daX9_seeks_5 15 rfl
theorem dX9_seeks_238 : decode cX9_seeks 238 = .ok (.iload_n 3, 1) := dc_at daX9_seeks_5 16 rfl
theorem dX9_seeks_239 : decode cX9_seeks 239 = .ok (.iastore, 1) := dc_at daX9_seeks_5 17 rfl
theorem dX9_seeks_240 : decode cX9_seeks 240 = .ok (.aload_n 0, 1) := dc_at daX9_seeks_5 18 rfl
theorem dX9_seeks_241 : decode cX9_seeks 241 = .ok (.getfield 30, 3) := dc_at daX9_seeks_5 19 rfl
theorem dX9_seeks_244 : decode cX9_seeks 244 = .ok (.iconst 2, 1) := dc_at daX9_seeks_5 20 rfl
theorem dX9_seeks_245 : decode cX9_seeks 245 = .ok (.iload 4, 2) := dc_at daX9_seeks_5 21 rfl
theorem dX9_seeks_247 : decode cX9_seeks 247 = .ok (.iastore, 1) := dc_at daX9_seeks_5 22 rfl
theorem dX9_seeks_248 : decode cX9_seeks 248 = .ok (.aload_n 0, 1) := dc_at daX9_seeks_5 23 rfl
def dlX9_seeks_6 : List (Nat × Jvm.ClassFile.Instr × Nat) := [(249, .getfield 30, 3), (252, .iconst 3, 1), (253, .iload 5, 2), (255, .iastore, 1), (256, .aload_n 0, 1), (257, .getfield 30, 3), (260, .iconst 4, 1), (261, .iload 6, 2), (263, .iastore, 1), (264, .aload_n 0, 1), (265, .getfield 30, 3), (268, .iconst 5, 1), (269, .iload 7, 2), (271, .iastore, 1), (272, .iinc 8 1, 3), (275, .goto (-96), 3), (278, .return_, 1)]
theorem daX9_seeks_6 : dlX9_seeks_6.all (dcK cX9_seeks) = true := by decide +kernel
theorem dX9_seeks_249 : decode cX9_seeks 249 = .ok (.getfield 30, 3) := dc_at daX9_seeks_6 0 rfl
theorem dX9_seeks_252 : decode cX9_seeks 252 = .ok (.iconst 3, 1) := dc_at daX9_seeks_6 1 rfl
theorem dX9_seeks_253 : decode cX9_seeks 253 = .ok (.iload 5, 2) := dc_at daX9_seeks_6 2 rfl
theorem dX9_seeks_255 : decode cX9_seeks 255 = .ok (.iastore, 1) := dc_at daX9_seeks_6 3 rfl
theorem dX9_seeks_256 : decode cX9_seeks 256 = .ok (.aload_n 0, 1) := dc_at daX9_seeks_6 4 rfl
theorem dX9_seeks_257 : decode cX9_seeks 257 = .ok (.getfield 30, 3) := dc_at daX9_seeks_6 5 rfl
theorem dX9_seeks_260 : decode cX9_seeks 260 = .ok (.iconst 4, 1) := dc_at daX9_seeks_6 6 rfl
theorem dX9_seeks_261 : decode cX9_seeks 261 = .ok (.iload 6, 2) := dc_at daX9_seeks_6 7 rfl
theorem dX9_seeks_263 : decode cX9_seeks 263 = .ok (.iastore, 1) := dc_at daX9_seeks_6 8 rfl
theorem dX9_seeks_264 : decode cX9_seeks 264 = .ok (.aload_n 0, 1) := dc_at daX9_seeks_6 9 rfl
theorem dX9_seeks_265 : decode cX9_seeks 265 = .ok (.getfield 30, 3) := dc_at daX9_seeks_6 10 rfl
theorem dX9_seeks_268 : decode cX9_seeks 268 = .ok (.iconst 5, 1) := dc_at daX9_seeks_6 11 rfl
theorem dX9_seeks_269 : decode cX9_seeks 269 = .ok (.iload 7, 2) := dc_at daX9_seeks_6 12 rfl
theorem dX9_seeks_271 : decode cX9_seeks 271 = .ok (.iastore, 1) := dc_at daX9_seeks_6 13 rfl
theorem dX9_seeks_272 : decode cX9_seeks 272 = .ok (.iinc 8 1, 3) := dc_at daX9_seeks_6 14 rfl
theorem dX9_seeks_275 : decode cX9_seeks 275 = .ok (.goto (-96), 3) := dc_at daX9_seeks_6 15 rfl
theorem dX9_seeks_278 : decode cX9_seeks 278 = .ok (.return_, 1) := dc_at daX9_seeks_6 16 rfl
def dlX9_minutesOf_0 : List (Nat × Jvm.ClassFile.Instr × Nat) := [(0, .aload_n 0, 1), (1, .getfield 13, 3), (4, .bipush 6, 2), (6, .iaload, 1), (7, .iload_n 1, 1), (8, .if_icmp .ge 13, 3), (11, .aload_n 0, 1), (12, .getfield 13, 3), (15, .bipush 6, 2), (17, .iaload, 1), (18, .goto 4, 3), (21, .iload_n 1, 1), (22, .istore_n 2, 1), (23, .sipush 9999, 3), (26, .aload_n 0, 1), (27, .getfield 13, 3), (30, .iconst 1, 1), (31, .iaload, 1), (32, .isub, 1), (33, .iload_n 2, 1), (34, .if_icmp .ge 16, 3), (37, .sipush 9999, 3), (40, .aload_n 0, 1), (41, .getfield 13, 3)]
theorem daX9_minutesOf_0 : dlX9_minutesOf_0.all (dcK cX9_minutesOf) = true := by decide +kernel
theorem dX9_minutesOf_0 : decode cX9_minutesOf 0 = .ok (.aload_n 0, 1) := dc_at daX9_minutesOf_0 0 rfl
theorem dX9_minutesOf_1 : decode cX9_minutesOf 1 = .ok (.getfield 13, 3) := dc_at daX9_minutesOf_0 1 rfl
theorem dX9_minutesOf_4 : decode cX9_minutesOf 4 = .ok (.bipush 6, 2) := dc_at daX9_minutesOf_0 2 rfl
theorem dX9_minutesOf_6 : decode cX9_minutesOf 6 = .ok (.iaload, 1) := dc_at daX9_minutesOf_0 3 rfl
theorem dX9_minutesOf_7 : decode cX9_minutesOf 7 = .ok (.iload_n 1, 1) := dc_at daX9_minutesOf_0 4 rfl
theorem dX9_minutesOf_8 : decode cX9_minutesOf 8 = .ok (.if_icmp .ge 13, 3) := dc_at daX9_minutesOf_0 5 rfl
theorem dX9_minutesOf_11 : decode cX9_minutesOf 11 = .ok (.aload_n 0, 1) := dc_at daX9_minutesOf_0 6 rfl
theorem dX9_minutesOf_12 : decode cX9_minutesOf 12 = .ok (.getfield 13, 3) := dc_at daX9_minutesOf_0 7 rfl
theorem dX9_minutesOf_15 : decode cX9_minutesOf 15 = .ok (.bipush 6, 2) := dc_at daX9_minutesOf_0 8 rfl
theorem dX9_minutesOf_17 : decode cX9_minutesOf 17 = .ok (.iaload, 1) := dc_at daX9_minutesOf_0 9 rfl
theorem dX9_minutesOf_18 : decode cX9_minutesOf 18 = .ok (.goto 4, 3) := dc_at daX9_minutesOf_0 10 rfl
theorem dX9_minutesOf_21 : decode cX9_minutesOf 21 = .ok (.iload_n 1, 1) := dc_at daX9_minutesOf_0 11 rfl
theorem dX9_minutesOf_22 : decode cX9_minutesOf 22 = .ok (.istore_n 2, 1) := dc_at daX9_minutesOf_0 12 rfl
theorem dX9_minutesOf_23 : decode cX9_minutesOf 23 = .ok (.sipush 9999, 3) := dc_at daX9_minutesOf_0 13 rfl
theorem dX9_minutesOf_26 : decode cX9_minutesOf 26 = .ok (.aload_n 0, 1) := dc_at daX9_minutesOf_0 14 rfl
theorem dX9_minutesOf_27 : decode cX9_minutesOf 27 = .ok (.getfield 13, 3) := dc_at daX9_minutesOf_0 15 rfl
theorem dX9_minutesOf_30 : decode cX9_minutesOf 30 = .ok (.iconst 1, 1) := dc_at daX9_minutesOf_0 16 rfl
theorem dX9_minutesOf_31 : decode cX9_minutesOf 31 = .ok (.iaload, 1) := dc_at daX9_minutesOf_0 17 rfl
theorem dX9_minutesOf_32 : decode cX9_minutesOf 32 = .ok (.isub, 1) := dc_at daX9_minutesOf_0 18 rfl
theorem dX9_minutesOf_33 : decode cX9_minutesOf 33 = .ok (.iload_n 2, 1) := dc_at daX9_minutesOf_0 19 rfl
theorem dX9_minutesOf_34 : decode cX9_minutesOf 34 = .ok (.if_icmp .ge 16, 3) := dc_at daX9_minutesOf_0 20 rfl
theorem dX9_minutesOf_37 : decode cX9_minutesOf 37 = .ok (.sipush 9999, 3) := dc_at daX9_minutesOf_0 21 rfl
theorem dX9_minutesOf_40 : decode cX9_minutesOf 40 = .ok (.aload_n 0, 1) := dc_at daX9_minutesOf_0 22 rfl
theorem dX9_minutesOf_41 : decode cX9_minutesOf 41 = .ok (.getfield 13, 3) := dc_at daX9_minutesOf_0 23 rfl
def dlX9_minutesOf_1 : List (Nat × Jvm.ClassFile.Instr × Nat) := [(44, .iconst 1, 1), (45, .iaload, 1), (46, .isub, 1), (47, .goto 4, 3), (50, .iload_n 2, 1), (51, .ireturn, 1)]
theorem daX9_minutesOf_1 : dlX9_minutesOf_1.all (dcK cX9_minutesOf) = true := by decide +kernel
theorem dX9_minutesOf_44 : decode cX9_minutesOf 44 = .ok (.iconst 1, 1) := dc_at daX9_minutesOf_1 0 rfl
theorem dX9_minutesOf_45 : decode cX9_minutesOf 45 = .ok (.iaload, 1) := dc_at daX9_minutesOf_1 1 rfl
theorem dX9_minutesOf_46 : decode cX9_minutesOf 46 = .ok (.isub, 1) := dc_at daX9_minutesOf_1 2 rfl
theorem dX9_minutesOf_47 : decode cX9_minutesOf 47 = .ok (.goto 4, 3) := dc_at daX9_minutesOf_1 3 rfl
theorem dX9_minutesOf_50 : decode cX9_minutesOf 50 = .ok (.iload_n 2, 1) := dc_at daX9_minutesOf_1 4 rfl
theorem dX9_minutesOf_51 : decode cX9_minutesOf 51 = .ok (.ireturn, 1) := dc_at daX9_minutesOf_1 5 rfl
def dlX9_laysBest_0 : List (Nat × Jvm.ClassFile.Instr × Nat) := [(0, .aload_n 0, 1), (1, .iload_n 1, 1), (2, .putfield 236, 3), (5, .aload_n 0, 1), (6, .iload_n 2, 1), (7, .putfield 242, 3), (10, .aload_n 0, 1), (11, .aload_n 0, 1), (12, .iload_n 3, 1), (13, .invokevirtual 260, 3), (16, .putfield 245, 3), (19, .aload_n 0, 1), (20, .iconst (-1), 1), (21, .putfield 251, 3), (24, .aload_n 0, 1), (25, .iconst (-1), 1), (26, .putfield 254, 3), (29, .iconst 0, 1), (30, .istore 4, 2), (32, .iload 4, 2), (34, .bipush 6, 2), (36, .if_icmp .ge 17, 3), (39, .aload_n 0, 1), (40, .getfield 30, 3)]
theorem daX9_laysBest_0 : dlX9_laysBest_0.all (dcK cX9_laysBest) = true := by decide +kernel
theorem dX9_laysBest_0 : decode cX9_laysBest 0 = .ok (.aload_n 0, 1) := dc_at daX9_laysBest_0 0 rfl
theorem dX9_laysBest_1 : decode cX9_laysBest 1 = .ok (.iload_n 1, 1) := dc_at daX9_laysBest_0 1 rfl
theorem dX9_laysBest_2 : decode cX9_laysBest 2 = .ok (.putfield 236, 3) := dc_at daX9_laysBest_0 2 rfl
theorem dX9_laysBest_5 : decode cX9_laysBest 5 = .ok (.aload_n 0, 1) := dc_at daX9_laysBest_0 3 rfl
theorem dX9_laysBest_6 : decode cX9_laysBest 6 = .ok (.iload_n 2, 1) := dc_at daX9_laysBest_0 4 rfl
theorem dX9_laysBest_7 : decode cX9_laysBest 7 = .ok (.putfield 242, 3) := dc_at daX9_laysBest_0 5 rfl
theorem dX9_laysBest_10 : decode cX9_laysBest 10 = .ok (.aload_n 0, 1) := dc_at daX9_laysBest_0 6 rfl
theorem dX9_laysBest_11 : decode cX9_laysBest 11 = .ok (.aload_n 0, 1) := dc_at daX9_laysBest_0 7 rfl
theorem dX9_laysBest_12 : decode cX9_laysBest 12 = .ok (.iload_n 3, 1) := dc_at daX9_laysBest_0 8 rfl
theorem dX9_laysBest_13 : decode cX9_laysBest 13 = .ok (.invokevirtual 260, 3) := dc_at daX9_laysBest_0 9 rfl
theorem dX9_laysBest_16 : decode cX9_laysBest 16 = .ok (.putfield 245, 3) := dc_at daX9_laysBest_0 10 rfl
theorem dX9_laysBest_19 : decode cX9_laysBest 19 = .ok (.aload_n 0, 1) := dc_at daX9_laysBest_0 11 rfl
theorem dX9_laysBest_20 : decode cX9_laysBest 20 = .ok (.iconst (-1), 1) := dc_at daX9_laysBest_0 12 rfl
theorem dX9_laysBest_21 : decode cX9_laysBest 21 = .ok (.putfield 251, 3) := dc_at daX9_laysBest_0 13 rfl
theorem dX9_laysBest_24 : decode cX9_laysBest 24 = .ok (.aload_n 0, 1) := dc_at daX9_laysBest_0 14 rfl
theorem dX9_laysBest_25 : decode cX9_laysBest 25 = .ok (.iconst (-1), 1) := dc_at daX9_laysBest_0 15 rfl
theorem dX9_laysBest_26 : decode cX9_laysBest 26 = .ok (.putfield 254, 3) := dc_at daX9_laysBest_0 16 rfl
theorem dX9_laysBest_29 : decode cX9_laysBest 29 = .ok (.iconst 0, 1) := dc_at daX9_laysBest_0 17 rfl
theorem dX9_laysBest_30 : decode cX9_laysBest 30 = .ok (.istore 4, 2) := dc_at daX9_laysBest_0 18 rfl
theorem dX9_laysBest_32 : decode cX9_laysBest 32 = .ok (.iload 4, 2) := dc_at daX9_laysBest_0 19 rfl
theorem dX9_laysBest_34 : decode cX9_laysBest 34 = .ok (.bipush 6, 2) := dc_at daX9_laysBest_0 20 rfl
theorem dX9_laysBest_36 : decode cX9_laysBest 36 = .ok (.if_icmp .ge 17, 3) := dc_at daX9_laysBest_0 21 rfl
theorem dX9_laysBest_39 : decode cX9_laysBest 39 = .ok (.aload_n 0, 1) := dc_at daX9_laysBest_0 22 rfl
theorem dX9_laysBest_40 : decode cX9_laysBest 40 = .ok (.getfield 30, 3) := dc_at daX9_laysBest_0 23 rfl
def dlX9_laysBest_1 : List (Nat × Jvm.ClassFile.Instr × Nat) := [(43, .iload 4, 2), (45, .iconst 0, 1), (46, .iastore, 1), (47, .iinc 4 1, 3), (50, .goto (-18), 3), (53, .aload_n 0, 1), (54, .iconst 0, 1), (55, .invokevirtual 257, 3), (58, .aload_n 0, 1), (59, .getfield 251, 3), (62, .ireturn, 1)]
theorem daX9_laysBest_1 : dlX9_laysBest_1.all (dcK cX9_laysBest) = true := by decide +kernel
theorem dX9_laysBest_43 : decode cX9_laysBest 43 = .ok (.iload 4, 2) := dc_at daX9_laysBest_1 0 rfl
theorem dX9_laysBest_45 : decode cX9_laysBest 45 = .ok (.iconst 0, 1) := dc_at daX9_laysBest_1 1 rfl
theorem dX9_laysBest_46 : decode cX9_laysBest 46 = .ok (.iastore, 1) := dc_at daX9_laysBest_1 2 rfl
theorem dX9_laysBest_47 : decode cX9_laysBest 47 = .ok (.iinc 4 1, 3) := dc_at daX9_laysBest_1 3 rfl
theorem dX9_laysBest_50 : decode cX9_laysBest 50 = .ok (.goto (-18), 3) := dc_at daX9_laysBest_1 4 rfl
theorem dX9_laysBest_53 : decode cX9_laysBest 53 = .ok (.aload_n 0, 1) := dc_at daX9_laysBest_1 5 rfl
theorem dX9_laysBest_54 : decode cX9_laysBest 54 = .ok (.iconst 0, 1) := dc_at daX9_laysBest_1 6 rfl
theorem dX9_laysBest_55 : decode cX9_laysBest 55 = .ok (.invokevirtual 257, 3) := dc_at daX9_laysBest_1 7 rfl
theorem dX9_laysBest_58 : decode cX9_laysBest 58 = .ok (.aload_n 0, 1) := dc_at daX9_laysBest_1 8 rfl
theorem dX9_laysBest_59 : decode cX9_laysBest 59 = .ok (.getfield 251, 3) := dc_at daX9_laysBest_1 9 rfl
theorem dX9_laysBest_62 : decode cX9_laysBest 62 = .ok (.ireturn, 1) := dc_at daX9_laysBest_1 10 rfl
def dlX9_told_0 : List (Nat × Jvm.ClassFile.Instr × Nat) := [(0, .iload 4, 2), (2, .ifCond .eq 32, 3), (5, .iload 5, 2), (7, .ifCond .eq 9, 3), (10, .iload 4, 2), (12, .iconst 1, 1), (13, .if_icmp .eq 21, 3), (16, .iload 4, 2), (18, .i2l, 1), (19, .ldc2_w 263, 3), (22, .ldc2_w 265, 3), (25, .invokestatic 128, 3), (28, .ifCond .ne 6, 3), (31, .bipush (-2), 2), (33, .ireturn, 1), (34, .iload_n 3, 1), (35, .i2l, 1), (36, .lconst 1, 1), (37, .ldc2_w 267, 3), (40, .invokestatic 128, 3), (43, .ifCond .ne 6, 3), (46, .bipush (-3), 2), (48, .ireturn, 1), (49, .aload_n 0, 1)]
theorem daX9_told_0 : dlX9_told_0.all (dcK cX9_told) = true := by decide +kernel
theorem dX9_told_0 : decode cX9_told 0 = .ok (.iload 4, 2) := dc_at daX9_told_0 0 rfl
theorem dX9_told_2 : decode cX9_told 2 = .ok (.ifCond .eq 32, 3) := dc_at daX9_told_0 1 rfl
theorem dX9_told_5 : decode cX9_told 5 = .ok (.iload 5, 2) := dc_at daX9_told_0 2 rfl
theorem dX9_told_7 : decode cX9_told 7 = .ok (.ifCond .eq 9, 3) := dc_at daX9_told_0 3 rfl
theorem dX9_told_10 : decode cX9_told 10 = .ok (.iload 4, 2) := dc_at daX9_told_0 4 rfl
theorem dX9_told_12 : decode cX9_told 12 = .ok (.iconst 1, 1) := dc_at daX9_told_0 5 rfl
theorem dX9_told_13 : decode cX9_told 13 = .ok (.if_icmp .eq 21, 3) := dc_at daX9_told_0 6 rfl
theorem dX9_told_16 : decode cX9_told 16 = .ok (.iload 4, 2) := dc_at daX9_told_0 7 rfl
theorem dX9_told_18 : decode cX9_told 18 = .ok (.i2l, 1) := dc_at daX9_told_0 8 rfl
theorem dX9_told_19 : decode cX9_told 19 = .ok (.ldc2_w 263, 3) := dc_at daX9_told_0 9 rfl
theorem dX9_told_22 : decode cX9_told 22 = .ok (.ldc2_w 265, 3) := dc_at daX9_told_0 10 rfl
theorem dX9_told_25 : decode cX9_told 25 = .ok (.invokestatic 128, 3) := dc_at daX9_told_0 11 rfl
theorem dX9_told_28 : decode cX9_told 28 = .ok (.ifCond .ne 6, 3) := dc_at daX9_told_0 12 rfl
theorem dX9_told_31 : decode cX9_told 31 = .ok (.bipush (-2), 2) := dc_at daX9_told_0 13 rfl
theorem dX9_told_33 : decode cX9_told 33 = .ok (.ireturn, 1) := dc_at daX9_told_0 14 rfl
theorem dX9_told_34 : decode cX9_told 34 = .ok (.iload_n 3, 1) := dc_at daX9_told_0 15 rfl
theorem dX9_told_35 : decode cX9_told 35 = .ok (.i2l, 1) := dc_at daX9_told_0 16 rfl
theorem dX9_told_36 : decode cX9_told 36 = .ok (.lconst 1, 1) := dc_at daX9_told_0 17 rfl
theorem dX9_told_37 : decode cX9_told 37 = .ok (.ldc2_w 267, 3) := dc_at daX9_told_0 18 rfl
theorem dX9_told_40 : decode cX9_told 40 = .ok (.invokestatic 128, 3) := dc_at daX9_told_0 19 rfl
theorem dX9_told_43 : decode cX9_told 43 = .ok (.ifCond .ne 6, 3) := dc_at daX9_told_0 20 rfl
theorem dX9_told_46 : decode cX9_told 46 = .ok (.bipush (-3), 2) := dc_at daX9_told_0 21 rfl
theorem dX9_told_48 : decode cX9_told 48 = .ok (.ireturn, 1) := dc_at daX9_told_0 22 rfl
theorem dX9_told_49 : decode cX9_told 49 = .ok (.aload_n 0, 1) := dc_at daX9_told_0 23 rfl
def dlX9_told_1 : List (Nat × Jvm.ClassFile.Instr × Nat) := [(50, .getfield 13, 3), (53, .iconst 0, 1), (54, .iaload, 1), (55, .ifCond .ne 6, 3), (58, .bipush (-5), 2), (60, .ireturn, 1), (61, .aload_n 0, 1), (62, .iload_n 1, 1), (63, .iload_n 2, 1), (64, .iload_n 3, 1), (65, .invokevirtual 269, 3), (68, .pop, 1), (69, .iload 4, 2), (71, .ifCond .ne 8, 3), (74, .aload_n 0, 1), (75, .getfield 251, 3), (78, .ireturn, 1), (79, .iload 4, 2), (81, .iconst 1, 1), (82, .if_icmp .ne 20, 3), (85, .iload_n 1, 1), (86, .iconst 2, 1), (87, .if_icmp .ne 10, 3), (90, .aload_n 0, 1)]
theorem daX9_told_1 : dlX9_told_1.all (dcK cX9_told) = true := by decide +kernel
theorem dX9_told_50 : decode cX9_told 50 = .ok (.getfield 13, 3) := dc_at daX9_told_1 0 rfl
theorem dX9_told_53 : decode cX9_told 53 = .ok (.iconst 0, 1) := dc_at daX9_told_1 1 rfl
theorem dX9_told_54 : decode cX9_told 54 = .ok (.iaload, 1) := dc_at daX9_told_1 2 rfl
theorem dX9_told_55 : decode cX9_told 55 = .ok (.ifCond .ne 6, 3) := dc_at daX9_told_1 3 rfl
theorem dX9_told_58 : decode cX9_told 58 = .ok (.bipush (-5), 2) := dc_at daX9_told_1 4 rfl
theorem dX9_told_60 : decode cX9_told 60 = .ok (.ireturn, 1) := dc_at daX9_told_1 5 rfl
theorem dX9_told_61 : decode cX9_told 61 = .ok (.aload_n 0, 1) := dc_at daX9_told_1 6 rfl
theorem dX9_told_62 : decode cX9_told 62 = .ok (.iload_n 1, 1) := dc_at daX9_told_1 7 rfl
theorem dX9_told_63 : decode cX9_told 63 = .ok (.iload_n 2, 1) := dc_at daX9_told_1 8 rfl
theorem dX9_told_64 : decode cX9_told 64 = .ok (.iload_n 3, 1) := dc_at daX9_told_1 9 rfl
theorem dX9_told_65 : decode cX9_told 65 = .ok (.invokevirtual 269, 3) := dc_at daX9_told_1 10 rfl
theorem dX9_told_68 : decode cX9_told 68 = .ok (.pop, 1) := dc_at daX9_told_1 11 rfl
theorem dX9_told_69 : decode cX9_told 69 = .ok (.iload 4, 2) := dc_at daX9_told_1 12 rfl
theorem dX9_told_71 : decode cX9_told 71 = .ok (.ifCond .ne 8, 3) := dc_at daX9_told_1 13 rfl
theorem dX9_told_74 : decode cX9_told 74 = .ok (.aload_n 0, 1) := dc_at daX9_told_1 14 rfl
theorem dX9_told_75 : decode cX9_told 75 = .ok (.getfield 251, 3) := dc_at daX9_told_1 15 rfl
theorem dX9_told_78 : decode cX9_told 78 = .ok (.ireturn, 1) := dc_at daX9_told_1 16 rfl
theorem dX9_told_79 : decode cX9_told 79 = .ok (.iload 4, 2) := dc_at daX9_told_1 17 rfl
theorem dX9_told_81 : decode cX9_told 81 = .ok (.iconst 1, 1) := dc_at daX9_told_1 18 rfl
theorem dX9_told_82 : decode cX9_told 82 = .ok (.if_icmp .ne 20, 3) := dc_at daX9_told_1 19 rfl
theorem dX9_told_85 : decode cX9_told 85 = .ok (.iload_n 1, 1) := dc_at daX9_told_1 20 rfl
theorem dX9_told_86 : decode cX9_told 86 = .ok (.iconst 2, 1) := dc_at daX9_told_1 21 rfl
theorem dX9_told_87 : decode cX9_told 87 = .ok (.if_icmp .ne 10, 3) := dc_at daX9_told_1 22 rfl
theorem dX9_told_90 : decode cX9_told 90 = .ok (.aload_n 0, 1) := dc_at daX9_told_1 23 rfl
def dlX9_told_2 : List (Nat × Jvm.ClassFile.Instr × Nat) := [(91, .getfield 254, 3), (94, .goto 7, 3), (97, .aload_n 0, 1), (98, .getfield 245, 3), (101, .ireturn, 1), (102, .iload 4, 2), (104, .bipush 10, 2), (106, .isub, 1), (107, .aload_n 0, 1), (108, .getfield 245, 3), (111, .if_icmp .ge 16, 3), (114, .aload_n 0, 1), (115, .getfield 39, 3), (118, .iload 4, 2), (120, .bipush 10, 2), (122, .isub, 1), (123, .iaload, 1), (124, .goto 4, 3), (127, .iconst (-1), 1), (128, .ireturn, 1)]
theorem daX9_told_2 : dlX9_told_2.all (dcK cX9_told) = true := by decide +kernel
theorem dX9_told_91 : decode cX9_told 91 = .ok (.getfield 254, 3) := dc_at daX9_told_2 0 rfl
theorem dX9_told_94 : decode cX9_told 94 = .ok (.goto 7, 3) := dc_at daX9_told_2 1 rfl
theorem dX9_told_97 : decode cX9_told 97 = .ok (.aload_n 0, 1) := dc_at daX9_told_2 2 rfl
theorem dX9_told_98 : decode cX9_told 98 = .ok (.getfield 245, 3) := dc_at daX9_told_2 3 rfl
theorem dX9_told_101 : decode cX9_told 101 = .ok (.ireturn, 1) := dc_at daX9_told_2 4 rfl
theorem dX9_told_102 : decode cX9_told 102 = .ok (.iload 4, 2) := dc_at daX9_told_2 5 rfl
theorem dX9_told_104 : decode cX9_told 104 = .ok (.bipush 10, 2) := dc_at daX9_told_2 6 rfl
theorem dX9_told_106 : decode cX9_told 106 = .ok (.isub, 1) := dc_at daX9_told_2 7 rfl
theorem dX9_told_107 : decode cX9_told 107 = .ok (.aload_n 0, 1) := dc_at daX9_told_2 8 rfl
theorem dX9_told_108 : decode cX9_told 108 = .ok (.getfield 245, 3) := dc_at daX9_told_2 9 rfl
theorem dX9_told_111 : decode cX9_told 111 = .ok (.if_icmp .ge 16, 3) := dc_at daX9_told_2 10 rfl
theorem dX9_told_114 : decode cX9_told 114 = .ok (.aload_n 0, 1) := dc_at daX9_told_2 11 rfl
theorem dX9_told_115 : decode cX9_told 115 = .ok (.getfield 39, 3) := dc_at daX9_told_2 12 rfl
theorem dX9_told_118 : decode cX9_told 118 = .ok (.iload 4, 2) := dc_at daX9_told_2 13 rfl
theorem dX9_told_120 : decode cX9_told 120 = .ok (.bipush 10, 2) := dc_at daX9_told_2 14 rfl
theorem dX9_told_122 : decode cX9_told 122 = .ok (.isub, 1) := dc_at daX9_told_2 15 rfl
theorem dX9_told_123 : decode cX9_told 123 = .ok (.iaload, 1) := dc_at daX9_told_2 16 rfl
theorem dX9_told_124 : decode cX9_told 124 = .ok (.goto 4, 3) := dc_at daX9_told_2 17 rfl
theorem dX9_told_127 : decode cX9_told 127 = .ok (.iconst (-1), 1) := dc_at daX9_told_2 18 rfl
theorem dX9_told_128 : decode cX9_told 128 = .ok (.ireturn, 1) := dc_at daX9_told_2 19 rfl
def dlX9_most_0 : List (Nat × Jvm.ClassFile.Instr × Nat) := [(0, .aload_n 0, 1), (1, .iconst 0, 1), (2, .putfield 1, 3), (5, .aload_n 0, 1), (6, .iconst 0, 1), (7, .iconst 0, 1), (8, .iload_n 1, 1), (9, .iload_n 2, 1), (10, .iconst 1, 1), (11, .invokevirtual 272, 3), (14, .ireturn, 1)]
theorem daX9_most_0 : dlX9_most_0.all (dcK cX9_most) = true := by decide +kernel
theorem dX9_most_0 : decode cX9_most 0 = .ok (.aload_n 0, 1) := dc_at daX9_most_0 0 rfl
theorem dX9_most_1 : decode cX9_most 1 = .ok (.iconst 0, 1) := dc_at daX9_most_0 1 rfl
theorem dX9_most_2 : decode cX9_most 2 = .ok (.putfield 1, 3) := dc_at daX9_most_0 2 rfl
theorem dX9_most_5 : decode cX9_most 5 = .ok (.aload_n 0, 1) := dc_at daX9_most_0 3 rfl
theorem dX9_most_6 : decode cX9_most 6 = .ok (.iconst 0, 1) := dc_at daX9_most_0 4 rfl
theorem dX9_most_7 : decode cX9_most 7 = .ok (.iconst 0, 1) := dc_at daX9_most_0 5 rfl
theorem dX9_most_8 : decode cX9_most 8 = .ok (.iload_n 1, 1) := dc_at daX9_most_0 6 rfl
theorem dX9_most_9 : decode cX9_most 9 = .ok (.iload_n 2, 1) := dc_at daX9_most_0 7 rfl
theorem dX9_most_10 : decode cX9_most 10 = .ok (.iconst 1, 1) := dc_at daX9_most_0 8 rfl
theorem dX9_most_11 : decode cX9_most 11 = .ok (.invokevirtual 272, 3) := dc_at daX9_most_0 9 rfl
theorem dX9_most_14 : decode cX9_most 14 = .ok (.ireturn, 1) := dc_at daX9_most_0 10 rfl
def dlX9_dearest_0 : List (Nat × Jvm.ClassFile.Instr × Nat) := [(0, .aload_n 0, 1), (1, .iconst 0, 1), (2, .putfield 1, 3), (5, .aload_n 0, 1), (6, .iconst 1, 1), (7, .iconst 0, 1), (8, .iload_n 1, 1), (9, .iload_n 2, 1), (10, .iconst 0, 1), (11, .invokevirtual 272, 3), (14, .ireturn, 1)]
theorem daX9_dearest_0 : dlX9_dearest_0.all (dcK cX9_dearest) = true := by decide +kernel
theorem dX9_dearest_0 : decode cX9_dearest 0 = .ok (.aload_n 0, 1) := dc_at daX9_dearest_0 0 rfl
theorem dX9_dearest_1 : decode cX9_dearest 1 = .ok (.iconst 0, 1) := dc_at daX9_dearest_0 1 rfl
theorem dX9_dearest_2 : decode cX9_dearest 2 = .ok (.putfield 1, 3) := dc_at daX9_dearest_0 2 rfl
theorem dX9_dearest_5 : decode cX9_dearest 5 = .ok (.aload_n 0, 1) := dc_at daX9_dearest_0 3 rfl
theorem dX9_dearest_6 : decode cX9_dearest 6 = .ok (.iconst 1, 1) := dc_at daX9_dearest_0 4 rfl
theorem dX9_dearest_7 : decode cX9_dearest 7 = .ok (.iconst 0, 1) := dc_at daX9_dearest_0 5 rfl
theorem dX9_dearest_8 : decode cX9_dearest 8 = .ok (.iload_n 1, 1) := dc_at daX9_dearest_0 6 rfl
theorem dX9_dearest_9 : decode cX9_dearest 9 = .ok (.iload_n 2, 1) := dc_at daX9_dearest_0 7 rfl
theorem dX9_dearest_10 : decode cX9_dearest 10 = .ok (.iconst 0, 1) := dc_at daX9_dearest_0 8 rfl
theorem dX9_dearest_11 : decode cX9_dearest 11 = .ok (.invokevirtual 272, 3) := dc_at daX9_dearest_0 9 rfl
theorem dX9_dearest_14 : decode cX9_dearest 14 = .ok (.ireturn, 1) := dc_at daX9_dearest_0 10 rfl
def dlX9_fairest_0 : List (Nat × Jvm.ClassFile.Instr × Nat) := [(0, .aload_n 0, 1), (1, .iconst 0, 1), (2, .putfield 1, 3), (5, .aload_n 0, 1), (6, .iconst 2, 1), (7, .iconst 0, 1), (8, .iload_n 1, 1), (9, .iload_n 2, 1), (10, .iconst 1, 1), (11, .invokevirtual 272, 3), (14, .ireturn, 1)]
theorem daX9_fairest_0 : dlX9_fairest_0.all (dcK cX9_fairest) = true := by decide +kernel
theorem dX9_fairest_0 : decode cX9_fairest 0 = .ok (.aload_n 0, 1) := dc_at daX9_fairest_0 0 rfl
theorem dX9_fairest_1 : decode cX9_fairest 1 = .ok (.iconst 0, 1) := dc_at daX9_fairest_0 1 rfl
theorem dX9_fairest_2 : decode cX9_fairest 2 = .ok (.putfield 1, 3) := dc_at daX9_fairest_0 2 rfl
theorem dX9_fairest_5 : decode cX9_fairest 5 = .ok (.aload_n 0, 1) := dc_at daX9_fairest_0 3 rfl
theorem dX9_fairest_6 : decode cX9_fairest 6 = .ok (.iconst 2, 1) := dc_at daX9_fairest_0 4 rfl
theorem dX9_fairest_7 : decode cX9_fairest 7 = .ok (.iconst 0, 1) := dc_at daX9_fairest_0 5 rfl
theorem dX9_fairest_8 : decode cX9_fairest 8 = .ok (.iload_n 1, 1) := dc_at daX9_fairest_0 6 rfl
theorem dX9_fairest_9 : decode cX9_fairest 9 = .ok (.iload_n 2, 1) := dc_at daX9_fairest_0 7 rfl
theorem dX9_fairest_10 : decode cX9_fairest 10 = .ok (.iconst 1, 1) := dc_at daX9_fairest_0 8 rfl
theorem dX9_fairest_11 : decode cX9_fairest 11 = .ok (.invokevirtual 272, 3) := dc_at daX9_fairest_0 9 rfl
theorem dX9_fairest_14 : decode cX9_fairest 14 = .ok (.ireturn, 1) := dc_at daX9_fairest_0 10 rfl
def dlX9_alone_0 : List (Nat × Jvm.ClassFile.Instr × Nat) := [(0, .aload_n 0, 1), (1, .iconst 0, 1), (2, .putfield 1, 3), (5, .iload_n 1, 1), (6, .i2l, 1), (7, .lconst 0, 1), (8, .ldc2_w 175, 3), (11, .invokestatic 128, 3), (14, .ifCond .eq 15, 3), (17, .aload_n 0, 1), (18, .iconst 3, 1), (19, .iload_n 1, 1), (20, .iload_n 2, 1), (21, .iload_n 3, 1), (22, .iconst 0, 1), (23, .invokevirtual 272, 3), (26, .goto 5, 3), (29, .bipush (-2), 2), (31, .ireturn, 1)]
theorem daX9_alone_0 : dlX9_alone_0.all (dcK cX9_alone) = true := by decide +kernel
theorem dX9_alone_0 : decode cX9_alone 0 = .ok (.aload_n 0, 1) := dc_at daX9_alone_0 0 rfl
theorem dX9_alone_1 : decode cX9_alone 1 = .ok (.iconst 0, 1) := dc_at daX9_alone_0 1 rfl
theorem dX9_alone_2 : decode cX9_alone 2 = .ok (.putfield 1, 3) := dc_at daX9_alone_0 2 rfl
theorem dX9_alone_5 : decode cX9_alone 5 = .ok (.iload_n 1, 1) := dc_at daX9_alone_0 3 rfl
theorem dX9_alone_6 : decode cX9_alone 6 = .ok (.i2l, 1) := dc_at daX9_alone_0 4 rfl
theorem dX9_alone_7 : decode cX9_alone 7 = .ok (.lconst 0, 1) := dc_at daX9_alone_0 5 rfl
theorem dX9_alone_8 : decode cX9_alone 8 = .ok (.ldc2_w 175, 3) := dc_at daX9_alone_0 6 rfl
theorem dX9_alone_11 : decode cX9_alone 11 = .ok (.invokestatic 128, 3) := dc_at daX9_alone_0 7 rfl
theorem dX9_alone_14 : decode cX9_alone 14 = .ok (.ifCond .eq 15, 3) := dc_at daX9_alone_0 8 rfl
theorem dX9_alone_17 : decode cX9_alone 17 = .ok (.aload_n 0, 1) := dc_at daX9_alone_0 9 rfl
theorem dX9_alone_18 : decode cX9_alone 18 = .ok (.iconst 3, 1) := dc_at daX9_alone_0 10 rfl
theorem dX9_alone_19 : decode cX9_alone 19 = .ok (.iload_n 1, 1) := dc_at daX9_alone_0 11 rfl
theorem dX9_alone_20 : decode cX9_alone 20 = .ok (.iload_n 2, 1) := dc_at daX9_alone_0 12 rfl
theorem dX9_alone_21 : decode cX9_alone 21 = .ok (.iload_n 3, 1) := dc_at daX9_alone_0 13 rfl
theorem dX9_alone_22 : decode cX9_alone 22 = .ok (.iconst 0, 1) := dc_at daX9_alone_0 14 rfl
theorem dX9_alone_23 : decode cX9_alone 23 = .ok (.invokevirtual 272, 3) := dc_at daX9_alone_0 15 rfl
theorem dX9_alone_26 : decode cX9_alone 26 = .ok (.goto 5, 3) := dc_at daX9_alone_0 16 rfl
theorem dX9_alone_29 : decode cX9_alone 29 = .ok (.bipush (-2), 2) := dc_at daX9_alone_0 17 rfl
theorem dX9_alone_31 : decode cX9_alone 31 = .ok (.ireturn, 1) := dc_at daX9_alone_0 18 rfl
def dlX9_pays_0 : List (Nat × Jvm.ClassFile.Instr × Nat) := [(0, .aload_n 0, 1), (1, .iconst 0, 1), (2, .putfield 1, 3), (5, .iload_n 1, 1), (6, .i2l, 1), (7, .lconst 0, 1), (8, .ldc2_w 175, 3), (11, .invokestatic 128, 3), (14, .ifCond .ne 6, 3), (17, .bipush (-2), 2), (19, .ireturn, 1), (20, .iload_n 2, 1), (21, .i2l, 1), (22, .lconst 1, 1), (23, .ldc2_w 267, 3), (26, .invokestatic 128, 3), (29, .ifCond .ne 6, 3), (32, .bipush (-3), 2), (34, .ireturn, 1), (35, .aload_n 0, 1), (36, .getfield 13, 3), (39, .iconst 0, 1), (40, .iaload, 1), (41, .ifCond .ne 6, 3)]
theorem daX9_pays_0 : dlX9_pays_0.all (dcK cX9_pays) = true := by decide +kernel
theorem dX9_pays_0 : decode cX9_pays 0 = .ok (.aload_n 0, 1) := dc_at daX9_pays_0 0 rfl
theorem dX9_pays_1 : decode cX9_pays 1 = .ok (.iconst 0, 1) := dc_at daX9_pays_0 1 rfl
theorem dX9_pays_2 : decode cX9_pays 2 = .ok (.putfield 1, 3) := dc_at daX9_pays_0 2 rfl
theorem dX9_pays_5 : decode cX9_pays 5 = .ok (.iload_n 1, 1) := dc_at daX9_pays_0 3 rfl
theorem dX9_pays_6 : decode cX9_pays 6 = .ok (.i2l, 1) := dc_at daX9_pays_0 4 rfl
theorem dX9_pays_7 : decode cX9_pays 7 = .ok (.lconst 0, 1) := dc_at daX9_pays_0 5 rfl
theorem dX9_pays_8 : decode cX9_pays 8 = .ok (.ldc2_w 175, 3) := dc_at daX9_pays_0 6 rfl
theorem dX9_pays_11 : decode cX9_pays 11 = .ok (.invokestatic 128, 3) := dc_at daX9_pays_0 7 rfl
theorem dX9_pays_14 : decode cX9_pays 14 = .ok (.ifCond .ne 6, 3) := dc_at daX9_pays_0 8 rfl
theorem dX9_pays_17 : decode cX9_pays 17 = .ok (.bipush (-2), 2) := dc_at daX9_pays_0 9 rfl
theorem dX9_pays_19 : decode cX9_pays 19 = .ok (.ireturn, 1) := dc_at daX9_pays_0 10 rfl
theorem dX9_pays_20 : decode cX9_pays 20 = .ok (.iload_n 2, 1) := dc_at daX9_pays_0 11 rfl
theorem dX9_pays_21 : decode cX9_pays 21 = .ok (.i2l, 1) := dc_at daX9_pays_0 12 rfl
theorem dX9_pays_22 : decode cX9_pays 22 = .ok (.lconst 1, 1) := dc_at daX9_pays_0 13 rfl
theorem dX9_pays_23 : decode cX9_pays 23 = .ok (.ldc2_w 267, 3) := dc_at daX9_pays_0 14 rfl
theorem dX9_pays_26 : decode cX9_pays 26 = .ok (.invokestatic 128, 3) := dc_at daX9_pays_0 15 rfl
theorem dX9_pays_29 : decode cX9_pays 29 = .ok (.ifCond .ne 6, 3) := dc_at daX9_pays_0 16 rfl
theorem dX9_pays_32 : decode cX9_pays 32 = .ok (.bipush (-3), 2) := dc_at daX9_pays_0 17 rfl
theorem dX9_pays_34 : decode cX9_pays 34 = .ok (.ireturn, 1) := dc_at daX9_pays_0 18 rfl
theorem dX9_pays_35 : decode cX9_pays 35 = .ok (.aload_n 0, 1) := dc_at daX9_pays_0 19 rfl
theorem dX9_pays_36 : decode cX9_pays 36 = .ok (.getfield 13, 3) := dc_at daX9_pays_0 20 rfl
theorem dX9_pays_39 : decode cX9_pays 39 = .ok (.iconst 0, 1) := dc_at daX9_pays_0 21 rfl
theorem dX9_pays_40 : decode cX9_pays 40 = .ok (.iaload, 1) := dc_at daX9_pays_0 22 rfl
theorem dX9_pays_41 : decode cX9_pays 41 = .ok (.ifCond .ne 6, 3) := dc_at daX9_pays_0 23 rfl
def dlX9_pays_1 : List (Nat × Jvm.ClassFile.Instr × Nat) := [(44, .bipush (-5), 2), (46, .ireturn, 1), (47, .aload_n 0, 1), (48, .getfield 13, 3), (51, .bipush 10, 2), (53, .iload_n 1, 1), (54, .iadd, 1), (55, .iaload, 1), (56, .istore_n 3, 1), (57, .aload_n 0, 1), (58, .iconst 1, 1), (59, .iconst 0, 1), (60, .iload_n 2, 1), (61, .invokevirtual 269, 3), (64, .iload_n 3, 1), (65, .aload_n 0, 1), (66, .getfield 42, 3), (69, .iload_n 1, 1), (70, .iaload, 1), (71, .imul, 1), (72, .isub, 1), (73, .istore 4, 2), (75, .aload_n 0, 1), (76, .getfield 13, 3)]
theorem daX9_pays_1 : dlX9_pays_1.all (dcK cX9_pays) = true := by decide +kernel
theorem dX9_pays_44 : decode cX9_pays 44 = .ok (.bipush (-5), 2) := dc_at daX9_pays_1 0 rfl
theorem dX9_pays_46 : decode cX9_pays 46 = .ok (.ireturn, 1) := dc_at daX9_pays_1 1 rfl
theorem dX9_pays_47 : decode cX9_pays 47 = .ok (.aload_n 0, 1) := dc_at daX9_pays_1 2 rfl
theorem dX9_pays_48 : decode cX9_pays 48 = .ok (.getfield 13, 3) := dc_at daX9_pays_1 3 rfl
theorem dX9_pays_51 : decode cX9_pays 51 = .ok (.bipush 10, 2) := dc_at daX9_pays_1 4 rfl
theorem dX9_pays_53 : decode cX9_pays 53 = .ok (.iload_n 1, 1) := dc_at daX9_pays_1 5 rfl
theorem dX9_pays_54 : decode cX9_pays 54 = .ok (.iadd, 1) := dc_at daX9_pays_1 6 rfl
theorem dX9_pays_55 : decode cX9_pays 55 = .ok (.iaload, 1) := dc_at daX9_pays_1 7 rfl
theorem dX9_pays_56 : decode cX9_pays 56 = .ok (.istore_n 3, 1) := dc_at daX9_pays_1 8 rfl
theorem dX9_pays_57 : decode cX9_pays 57 = .ok (.aload_n 0, 1) := dc_at daX9_pays_1 9 rfl
theorem dX9_pays_58 : decode cX9_pays 58 = .ok (.iconst 1, 1) := dc_at daX9_pays_1 10 rfl
theorem dX9_pays_59 : decode cX9_pays 59 = .ok (.iconst 0, 1) := dc_at daX9_pays_1 11 rfl
theorem dX9_pays_60 : decode cX9_pays 60 = .ok (.iload_n 2, 1) := dc_at daX9_pays_1 12 rfl
theorem dX9_pays_61 : decode cX9_pays 61 = .ok (.invokevirtual 269, 3) := dc_at daX9_pays_1 13 rfl
theorem dX9_pays_64 : decode cX9_pays 64 = .ok (.iload_n 3, 1) := dc_at daX9_pays_1 14 rfl
theorem dX9_pays_65 : decode cX9_pays 65 = .ok (.aload_n 0, 1) := dc_at daX9_pays_1 15 rfl
theorem dX9_pays_66 : decode cX9_pays 66 = .ok (.getfield 42, 3) := dc_at daX9_pays_1 16 rfl
theorem dX9_pays_69 : decode cX9_pays 69 = .ok (.iload_n 1, 1) := dc_at daX9_pays_1 17 rfl
theorem dX9_pays_70 : decode cX9_pays 70 = .ok (.iaload, 1) := dc_at daX9_pays_1 18 rfl
theorem dX9_pays_71 : decode cX9_pays 71 = .ok (.imul, 1) := dc_at daX9_pays_1 19 rfl
theorem dX9_pays_72 : decode cX9_pays 72 = .ok (.isub, 1) := dc_at daX9_pays_1 20 rfl
theorem dX9_pays_73 : decode cX9_pays 73 = .ok (.istore 4, 2) := dc_at daX9_pays_1 21 rfl
theorem dX9_pays_75 : decode cX9_pays 75 = .ok (.aload_n 0, 1) := dc_at daX9_pays_1 22 rfl
theorem dX9_pays_76 : decode cX9_pays 76 = .ok (.getfield 13, 3) := dc_at daX9_pays_1 23 rfl
def dlX9_pays_2 : List (Nat × Jvm.ClassFile.Instr × Nat) := [(79, .bipush 10, 2), (81, .iload_n 1, 1), (82, .iadd, 1), (83, .iconst 0, 1), (84, .iastore, 1), (85, .aload_n 0, 1), (86, .iconst 1, 1), (87, .iconst 0, 1), (88, .iload_n 2, 1), (89, .invokevirtual 269, 3), (92, .istore 5, 2), (94, .aload_n 0, 1), (95, .getfield 13, 3), (98, .bipush 10, 2), (100, .iload_n 1, 1), (101, .iadd, 1), (102, .iload_n 3, 1), (103, .iastore, 1), (104, .iload 5, 2), (106, .iload 4, 2), (108, .isub, 1), (109, .ireturn, 1)]
theorem daX9_pays_2 : dlX9_pays_2.all (dcK cX9_pays) = true := by decide +kernel
theorem dX9_pays_79 : decode cX9_pays 79 = .ok (.bipush 10, 2) := dc_at daX9_pays_2 0 rfl
theorem dX9_pays_81 : decode cX9_pays 81 = .ok (.iload_n 1, 1) := dc_at daX9_pays_2 1 rfl
theorem dX9_pays_82 : decode cX9_pays 82 = .ok (.iadd, 1) := dc_at daX9_pays_2 2 rfl
theorem dX9_pays_83 : decode cX9_pays 83 = .ok (.iconst 0, 1) := dc_at daX9_pays_2 3 rfl
theorem dX9_pays_84 : decode cX9_pays 84 = .ok (.iastore, 1) := dc_at daX9_pays_2 4 rfl
theorem dX9_pays_85 : decode cX9_pays 85 = .ok (.aload_n 0, 1) := dc_at daX9_pays_2 5 rfl
theorem dX9_pays_86 : decode cX9_pays 86 = .ok (.iconst 1, 1) := dc_at daX9_pays_2 6 rfl
theorem dX9_pays_87 : decode cX9_pays 87 = .ok (.iconst 0, 1) := dc_at daX9_pays_2 7 rfl
theorem dX9_pays_88 : decode cX9_pays 88 = .ok (.iload_n 2, 1) := dc_at daX9_pays_2 8 rfl
theorem dX9_pays_89 : decode cX9_pays 89 = .ok (.invokevirtual 269, 3) := dc_at daX9_pays_2 9 rfl
theorem dX9_pays_92 : decode cX9_pays 92 = .ok (.istore 5, 2) := dc_at daX9_pays_2 10 rfl
theorem dX9_pays_94 : decode cX9_pays 94 = .ok (.aload_n 0, 1) := dc_at daX9_pays_2 11 rfl
theorem dX9_pays_95 : decode cX9_pays 95 = .ok (.getfield 13, 3) := dc_at daX9_pays_2 12 rfl
theorem dX9_pays_98 : decode cX9_pays 98 = .ok (.bipush 10, 2) := dc_at daX9_pays_2 13 rfl
theorem dX9_pays_100 : decode cX9_pays 100 = .ok (.iload_n 1, 1) := dc_at daX9_pays_2 14 rfl
theorem dX9_pays_101 : decode cX9_pays 101 = .ok (.iadd, 1) := dc_at daX9_pays_2 15 rfl
theorem dX9_pays_102 : decode cX9_pays 102 = .ok (.iload_n 3, 1) := dc_at daX9_pays_2 16 rfl
theorem dX9_pays_103 : decode cX9_pays 103 = .ok (.iastore, 1) := dc_at daX9_pays_2 17 rfl
theorem dX9_pays_104 : decode cX9_pays 104 = .ok (.iload 5, 2) := dc_at daX9_pays_2 18 rfl
theorem dX9_pays_106 : decode cX9_pays 106 = .ok (.iload 4, 2) := dc_at daX9_pays_2 19 rfl
theorem dX9_pays_108 : decode cX9_pays 108 = .ok (.isub, 1) := dc_at daX9_pays_2 20 rfl
theorem dX9_pays_109 : decode cX9_pays 109 = .ok (.ireturn, 1) := dc_at daX9_pays_2 21 rfl
def dlX9_shifted_0 : List (Nat × Jvm.ClassFile.Instr × Nat) := [(0, .aload_n 0, 1), (1, .iconst 0, 1), (2, .putfield 1, 3), (5, .iload_n 2, 1), (6, .i2l, 1), (7, .lconst 0, 1), (8, .ldc2_w 196, 3), (11, .invokestatic 128, 3), (14, .ifCond .ne 6, 3), (17, .bipush (-2), 2), (19, .ireturn, 1), (20, .iload_n 1, 1), (21, .i2l, 1), (22, .lconst 1, 1), (23, .ldc2_w 175, 3), (26, .invokestatic 128, 3), (29, .ifCond .ne 6, 3), (32, .bipush (-3), 2), (34, .ireturn, 1), (35, .aload_n 0, 1), (36, .getfield 13, 3), (39, .iconst 0, 1), (40, .iaload, 1), (41, .ifCond .ne 6, 3)]
theorem daX9_shifted_0 : dlX9_shifted_0.all (dcK cX9_shifted) = true := by decide +kernel
theorem dX9_shifted_0 : decode cX9_shifted 0 = .ok (.aload_n 0, 1) := dc_at daX9_shifted_0 0 rfl
theorem dX9_shifted_1 : decode cX9_shifted 1 = .ok (.iconst 0, 1) := dc_at daX9_shifted_0 1 rfl
theorem dX9_shifted_2 : decode cX9_shifted 2 = .ok (.putfield 1, 3) := dc_at daX9_shifted_0 2 rfl
theorem dX9_shifted_5 : decode cX9_shifted 5 = .ok (.iload_n 2, 1) := dc_at daX9_shifted_0 3 rfl
theorem dX9_shifted_6 : decode cX9_shifted 6 = .ok (.i2l, 1) := dc_at daX9_shifted_0 4 rfl
theorem dX9_shifted_7 : decode cX9_shifted 7 = .ok (.lconst 0, 1) := dc_at daX9_shifted_0 5 rfl
theorem dX9_shifted_8 : decode cX9_shifted 8 = .ok (.ldc2_w 196, 3) := dc_at daX9_shifted_0 6 rfl
theorem dX9_shifted_11 : decode cX9_shifted 11 = .ok (.invokestatic 128, 3) := dc_at daX9_shifted_0 7 rfl
theorem dX9_shifted_14 : decode cX9_shifted 14 = .ok (.ifCond .ne 6, 3) := dc_at daX9_shifted_0 8 rfl
theorem dX9_shifted_17 : decode cX9_shifted 17 = .ok (.bipush (-2), 2) := dc_at daX9_shifted_0 9 rfl
theorem dX9_shifted_19 : decode cX9_shifted 19 = .ok (.ireturn, 1) := dc_at daX9_shifted_0 10 rfl
theorem dX9_shifted_20 : decode cX9_shifted 20 = .ok (.iload_n 1, 1) := dc_at daX9_shifted_0 11 rfl
theorem dX9_shifted_21 : decode cX9_shifted 21 = .ok (.i2l, 1) := dc_at daX9_shifted_0 12 rfl
theorem dX9_shifted_22 : decode cX9_shifted 22 = .ok (.lconst 1, 1) := dc_at daX9_shifted_0 13 rfl
theorem dX9_shifted_23 : decode cX9_shifted 23 = .ok (.ldc2_w 175, 3) := dc_at daX9_shifted_0 14 rfl
theorem dX9_shifted_26 : decode cX9_shifted 26 = .ok (.invokestatic 128, 3) := dc_at daX9_shifted_0 15 rfl
theorem dX9_shifted_29 : decode cX9_shifted 29 = .ok (.ifCond .ne 6, 3) := dc_at daX9_shifted_0 16 rfl
theorem dX9_shifted_32 : decode cX9_shifted 32 = .ok (.bipush (-3), 2) := dc_at daX9_shifted_0 17 rfl
theorem dX9_shifted_34 : decode cX9_shifted 34 = .ok (.ireturn, 1) := dc_at daX9_shifted_0 18 rfl
theorem dX9_shifted_35 : decode cX9_shifted 35 = .ok (.aload_n 0, 1) := dc_at daX9_shifted_0 19 rfl
theorem dX9_shifted_36 : decode cX9_shifted 36 = .ok (.getfield 13, 3) := dc_at daX9_shifted_0 20 rfl
theorem dX9_shifted_39 : decode cX9_shifted 39 = .ok (.iconst 0, 1) := dc_at daX9_shifted_0 21 rfl
theorem dX9_shifted_40 : decode cX9_shifted 40 = .ok (.iaload, 1) := dc_at daX9_shifted_0 22 rfl
theorem dX9_shifted_41 : decode cX9_shifted 41 = .ok (.ifCond .ne 6, 3) := dc_at daX9_shifted_0 23 rfl
def dlX9_shifted_1 : List (Nat × Jvm.ClassFile.Instr × Nat) := [(44, .bipush (-5), 2), (46, .ireturn, 1), (47, .aload_n 0, 1), (48, .iconst 0, 1), (49, .iconst 0, 1), (50, .iload_n 1, 1), (51, .invokevirtual 269, 3), (54, .istore_n 3, 1), (55, .iconst 0, 1), (56, .istore 4, 2), (58, .iconst (-1), 1), (59, .istore 5, 2), (61, .iconst (-1), 1), (62, .istore 6, 2), (64, .iconst 0, 1), (65, .istore 7, 2), (67, .iload 7, 2), (69, .aload_n 0, 1), (70, .getfield 13, 3), (73, .iconst 0, 1), (74, .iaload, 1), (75, .if_icmp .ge 156, 3), (78, .iconst 0, 1), (79, .istore 8, 2)]
theorem daX9_shifted_1 : dlX9_shifted_1.all (dcK cX9_shifted) = true := by decide +kernel
theorem dX9_shifted_44 : decode cX9_shifted 44 = .ok (.bipush (-5), 2) := dc_at daX9_shifted_1 0 rfl
theorem dX9_shifted_46 : decode cX9_shifted 46 = .ok (.ireturn, 1) := dc_at daX9_shifted_1 1 rfl
theorem dX9_shifted_47 : decode cX9_shifted 47 = .ok (.aload_n 0, 1) := dc_at daX9_shifted_1 2 rfl
theorem dX9_shifted_48 : decode cX9_shifted 48 = .ok (.iconst 0, 1) := dc_at daX9_shifted_1 3 rfl
theorem dX9_shifted_49 : decode cX9_shifted 49 = .ok (.iconst 0, 1) := dc_at daX9_shifted_1 4 rfl
theorem dX9_shifted_50 : decode cX9_shifted 50 = .ok (.iload_n 1, 1) := dc_at daX9_shifted_1 5 rfl
theorem dX9_shifted_51 : decode cX9_shifted 51 = .ok (.invokevirtual 269, 3) := dc_at daX9_shifted_1 6 rfl
theorem dX9_shifted_54 : decode cX9_shifted 54 = .ok (.istore_n 3, 1) := dc_at daX9_shifted_1 7 rfl
theorem dX9_shifted_55 : decode cX9_shifted 55 = .ok (.iconst 0, 1) := dc_at daX9_shifted_1 8 rfl
theorem dX9_shifted_56 : decode cX9_shifted 56 = .ok (.istore 4, 2) := dc_at daX9_shifted_1 9 rfl
theorem dX9_shifted_58 : decode cX9_shifted 58 = .ok (.iconst (-1), 1) := dc_at daX9_shifted_1 10 rfl
theorem dX9_shifted_59 : decode cX9_shifted 59 = .ok (.istore 5, 2) := dc_at daX9_shifted_1 11 rfl
theorem dX9_shifted_61 : decode cX9_shifted 61 = .ok (.iconst (-1), 1) := dc_at daX9_shifted_1 12 rfl
theorem dX9_shifted_62 : decode cX9_shifted 62 = .ok (.istore 6, 2) := dc_at daX9_shifted_1 13 rfl
theorem dX9_shifted_64 : decode cX9_shifted 64 = .ok (.iconst 0, 1) := dc_at daX9_shifted_1 14 rfl
theorem dX9_shifted_65 : decode cX9_shifted 65 = .ok (.istore 7, 2) := dc_at daX9_shifted_1 15 rfl
theorem dX9_shifted_67 : decode cX9_shifted 67 = .ok (.iload 7, 2) := dc_at daX9_shifted_1 16 rfl
theorem dX9_shifted_69 : decode cX9_shifted 69 = .ok (.aload_n 0, 1) := dc_at daX9_shifted_1 17 rfl
theorem dX9_shifted_70 : decode cX9_shifted 70 = .ok (.getfield 13, 3) := dc_at daX9_shifted_1 18 rfl
theorem dX9_shifted_73 : decode cX9_shifted 73 = .ok (.iconst 0, 1) := dc_at daX9_shifted_1 19 rfl
theorem dX9_shifted_74 : decode cX9_shifted 74 = .ok (.iaload, 1) := dc_at daX9_shifted_1 20 rfl
theorem dX9_shifted_75 : decode cX9_shifted 75 = .ok (.if_icmp .ge 156, 3) := dc_at daX9_shifted_1 21 rfl
theorem dX9_shifted_78 : decode cX9_shifted 78 = .ok (.iconst 0, 1) := dc_at daX9_shifted_1 22 rfl
theorem dX9_shifted_79 : decode cX9_shifted 79 = .ok (.istore 8, 2) := dc_at daX9_shifted_1 23 rfl
def dlX9_shifted_2 : List (Nat × Jvm.ClassFile.Instr × Nat) := [(81, .iload 8, 2), (83, .aload_n 0, 1), (84, .getfield 13, 3), (87, .iconst 0, 1), (88, .iaload, 1), (89, .if_icmp .ge 136, 3), (92, .iload 7, 2), (94, .iload 8, 2), (96, .if_icmp .eq 123, 3), (99, .aload_n 0, 1), (100, .getfield 13, 3), (103, .bipush 32, 2), (105, .iload 7, 2), (107, .iadd, 1), (108, .iaload, 1), (109, .ifCond .eq 110, 3), (112, .aload_n 0, 1), (113, .getfield 13, 3), (116, .bipush 32, 2), (118, .iload 8, 2), (120, .iadd, 1), (121, .iaload, 1), (122, .bipush 9, 2), (124, .if_icmp .ne 6, 3)]
theorem daX9_shifted_2 : dlX9_shifted_2.all (dcK cX9_shifted) = true := by decide +kernel
theorem dX9_shifted_81 : decode cX9_shifted 81 = .ok (.iload 8, 2) := dc_at daX9_shifted_2 0 rfl
theorem dX9_shifted_83 : decode cX9_shifted 83 = .ok (.aload_n 0, 1) := dc_at daX9_shifted_2 1 rfl
theorem dX9_shifted_84 : decode cX9_shifted 84 = .ok (.getfield 13, 3) := dc_at daX9_shifted_2 2 rfl
theorem dX9_shifted_87 : decode cX9_shifted 87 = .ok (.iconst 0, 1) := dc_at daX9_shifted_2 3 rfl
theorem dX9_shifted_88 : decode cX9_shifted 88 = .ok (.iaload, 1) := dc_at daX9_shifted_2 4 rfl
theorem dX9_shifted_89 : decode cX9_shifted 89 = .ok (.if_icmp .ge 136, 3) := dc_at daX9_shifted_2 5 rfl
theorem dX9_shifted_92 : decode cX9_shifted 92 = .ok (.iload 7, 2) := dc_at daX9_shifted_2 6 rfl
theorem dX9_shifted_94 : decode cX9_shifted 94 = .ok (.iload 8, 2) := dc_at daX9_shifted_2 7 rfl
theorem dX9_shifted_96 : decode cX9_shifted 96 = .ok (.if_icmp .eq 123, 3) := dc_at daX9_shifted_2 8 rfl
theorem dX9_shifted_99 : decode cX9_shifted 99 = .ok (.aload_n 0, 1) := dc_at daX9_shifted_2 9 rfl
theorem dX9_shifted_100 : decode cX9_shifted 100 = .ok (.getfield 13, 3) := dc_at daX9_shifted_2 10 rfl
theorem dX9_shifted_103 : decode cX9_shifted 103 = .ok (.bipush 32, 2) := dc_at daX9_shifted_2 11 rfl
theorem dX9_shifted_105 : decode cX9_shifted 105 = .ok (.iload 7, 2) := dc_at daX9_shifted_2 12 rfl
theorem dX9_shifted_107 : decode cX9_shifted 107 = .ok (.iadd, 1) := dc_at daX9_shifted_2 13 rfl
theorem dX9_shifted_108 : decode cX9_shifted 108 = .ok (.iaload, 1) := dc_at daX9_shifted_2 14 rfl
theorem dX9_shifted_109 : decode cX9_shifted 109 = .ok (.ifCond .eq 110, 3) := dc_at daX9_shifted_2 15 rfl
theorem dX9_shifted_112 : decode cX9_shifted 112 = .ok (.aload_n 0, 1) := dc_at daX9_shifted_2 16 rfl
theorem dX9_shifted_113 : decode cX9_shifted 113 = .ok (.getfield 13, 3) := dc_at daX9_shifted_2 17 rfl
theorem dX9_shifted_116 : decode cX9_shifted 116 = .ok (.bipush 32, 2) := dc_at daX9_shifted_2 18 rfl
theorem dX9_shifted_118 : decode cX9_shifted 118 = .ok (.iload 8, 2) := dc_at daX9_shifted_2 19 rfl
theorem dX9_shifted_120 : decode cX9_shifted 120 = .ok (.iadd, 1) := dc_at daX9_shifted_2 20 rfl
theorem dX9_shifted_121 : decode cX9_shifted 121 = .ok (.iaload, 1) := dc_at daX9_shifted_2 21 rfl
theorem dX9_shifted_122 : decode cX9_shifted 122 = .ok (.bipush 9, 2) := dc_at daX9_shifted_2 22 rfl
theorem dX9_shifted_124 : decode cX9_shifted 124 = .ok (.if_icmp .ne 6, 3) := dc_at daX9_shifted_2 23 rfl
def dlX9_shifted_3 : List (Nat × Jvm.ClassFile.Instr × Nat) := [(127, .goto 92, 3), (130, .aload_n 0, 1), (131, .getfield 13, 3), (134, .bipush 32, 2), (136, .iload 7, 2), (138, .iadd, 1), (139, .dup2, 1), (140, .iaload, 1), (141, .iconst 1, 1), (142, .isub, 1), (143, .iastore, 1), (144, .aload_n 0, 1), (145, .getfield 13, 3), (148, .bipush 32, 2), (150, .iload 8, 2), (152, .iadd, 1), (153, .dup2, 1), (154, .iaload, 1), (155, .iconst 1, 1), (156, .iadd, 1), (157, .iastore, 1), (158, .aload_n 0, 1), (159, .iconst 0, 1), (160, .iconst 0, 1)]
theorem daX9_shifted_3 : dlX9_shifted_3.all (dcK cX9_shifted) = true := by decide +kernel
theorem dX9_shifted_127 : decode cX9_shifted 127 = .ok (.goto 92, 3) := dc_at daX9_shifted_3 0 rfl
theorem dX9_shifted_130 : decode cX9_shifted 130 = .ok (.aload_n 0, 1) := dc_at daX9_shifted_3 1 rfl
theorem dX9_shifted_131 : decode cX9_shifted 131 = .ok (.getfield 13, 3) := dc_at daX9_shifted_3 2 rfl
theorem dX9_shifted_134 : decode cX9_shifted 134 = .ok (.bipush 32, 2) := dc_at daX9_shifted_3 3 rfl
theorem dX9_shifted_136 : decode cX9_shifted 136 = .ok (.iload 7, 2) := dc_at daX9_shifted_3 4 rfl
theorem dX9_shifted_138 : decode cX9_shifted 138 = .ok (.iadd, 1) := dc_at daX9_shifted_3 5 rfl
