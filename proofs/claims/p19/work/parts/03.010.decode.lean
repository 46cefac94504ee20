theorem dX9_height_5 : decode cX9_height 5 = .ok (.iload_n 1, 1) := by decide +kernel
theorem dX9_height_6 : decode cX9_height 6 = .ok (.i2l, 1) := by decide +kernel
theorem dX9_height_7 : decode cX9_height 7 = .ok (.lconst 1, 1) := by decide +kernel
theorem dX9_height_8 : decode cX9_height 8 = .ok (.ldc2_w 194, 3) := by decide +kernel
theorem dX9_height_11 : decode cX9_height 11 = .ok (.invokestatic 128, 3) := by decide +kernel
theorem dX9_height_14 : decode cX9_height 14 = .ok (.ifCond .ne 6, 3) := by decide +kernel
theorem dX9_height_17 : decode cX9_height 17 = .ok (.bipush (-3), 2) := by decide +kernel
theorem dX9_height_19 : decode cX9_height 19 = .ok (.ireturn, 1) := by decide +kernel
theorem dX9_height_20 : decode cX9_height 20 = .ok (.aload_n 0, 1) := by decide +kernel
theorem dX9_height_21 : decode cX9_height 21 = .ok (.getfield 13, 3) := by decide +kernel
theorem dX9_height_24 : decode cX9_height 24 = .ok (.iconst 3, 1) := by decide +kernel
theorem dX9_height_25 : decode cX9_height 25 = .ok (.iaload, 1) := by decide +kernel
theorem dX9_height_26 : decode cX9_height 26 = .ok (.istore_n 2, 1) := by decide +kernel
theorem dX9_height_27 : decode cX9_height 27 = .ok (.aload_n 0, 1) := by decide +kernel
theorem dX9_height_28 : decode cX9_height 28 = .ok (.getfield 13, 3) := by decide +kernel
theorem dX9_height_31 : decode cX9_height 31 = .ok (.iconst 3, 1) := by decide +kernel
theorem dX9_height_32 : decode cX9_height 32 = .ok (.iload_n 1, 1) := by decide +kernel
theorem dX9_height_33 : decode cX9_height 33 = .ok (.iastore, 1) := by decide +kernel
theorem dX9_height_34 : decode cX9_height 34 = .ok (.iload_n 2, 1) := by decide +kernel
theorem dX9_height_35 : decode cX9_height 35 = .ok (.ireturn, 1) := by decide +kernel
theorem dX9_fell_0 : decode cX9_fell 0 = .ok (.aload_n 0, 1) := by decide +kernel
theorem dX9_fell_1 : decode cX9_fell 1 = .ok (.iconst 0, 1) := by decide +kernel
theorem dX9_fell_2 : decode cX9_fell 2 = .ok (.putfield 1, 3) := by decide +kernel
theorem dX9_fell_5 : decode cX9_fell 5 = .ok (.aload_n 0, 1) := by decide +kernel
theorem dX9_fell_6 : decode cX9_fell 6 = .ok (.iload_n 1, 1) := by decide +kernel
theorem dX9_fell_7 : decode cX9_fell 7 = .ok (.invokevirtual 172, 3) := by decide +kernel
theorem dX9_fell_10 : decode cX9_fell 10 = .ok (.ifCond .ne 6, 3) := by decide +kernel
theorem dX9_fell_13 : decode cX9_fell 13 = .ok (.bipush (-2), 2) := by decide +kernel
theorem dX9_fell_15 : decode cX9_fell 15 = .ok (.ireturn, 1) := by decide +kernel
theorem dX9_fell_16 : decode cX9_fell 16 = .ok (.aload_n 0, 1) := by decide +kernel
theorem dX9_fell_17 : decode cX9_fell 17 = .ok (.getfield 13, 3) := by decide +kernel
theorem dX9_fell_20 : decode cX9_fell 20 = .ok (.bipush 48, 2) := by decide +kernel
theorem dX9_fell_22 : decode cX9_fell 22 = .ok (.iload_n 1, 1) := by decide +kernel
theorem dX9_fell_23 : decode cX9_fell 23 = .ok (.iadd, 1) := by decide +kernel
theorem dX9_fell_24 : decode cX9_fell 24 = .ok (.iaload, 1) := by decide +kernel
theorem dX9_fell_25 : decode cX9_fell 25 = .ok (.ifCond .ne 6, 3) := by decide +kernel
theorem dX9_fell_28 : decode cX9_fell 28 = .ok (.bipush (-5), 2) := by decide +kernel
theorem dX9_fell_30 : decode cX9_fell 30 = .ok (.ireturn, 1) := by decide +kernel
theorem dX9_fell_31 : decode cX9_fell 31 = .ok (.aload_n 0, 1) := by decide +kernel
theorem dX9_fell_32 : decode cX9_fell 32 = .ok (.getfield 13, 3) := by decide +kernel
theorem dX9_fell_35 : decode cX9_fell 35 = .ok (.bipush 48, 2) := by decide +kernel
theorem dX9_fell_37 : decode cX9_fell 37 = .ok (.iload_n 1, 1) := by decide +kernel
theorem dX9_fell_38 : decode cX9_fell 38 = .ok (.iadd, 1) := by decide +kernel
theorem dX9_fell_39 : decode cX9_fell 39 = .ok (.iaload, 1) := by decide +kernel
theorem dX9_fell_40 : decode cX9_fell 40 = .ok (.istore_n 2, 1) := by decide +kernel
theorem dX9_fell_41 : decode cX9_fell 41 = .ok (.aload_n 0, 1) := by decide +kernel
theorem dX9_fell_42 : decode cX9_fell 42 = .ok (.getfield 13, 3) := by decide +kernel
theorem dX9_fell_45 : decode cX9_fell 45 = .ok (.bipush 48, 2) := by decide +kernel
theorem dX9_fell_47 : decode cX9_fell 47 = .ok (.iload_n 1, 1) := by decide +kernel
theorem dX9_fell_48 : decode cX9_fell 48 = .ok (.iadd, 1) := by decide +kernel
theorem dX9_fell_49 : decode cX9_fell 49 = .ok (.iconst 0, 1) := by decide +kernel
theorem dX9_fell_50 : decode cX9_fell 50 = .ok (.iastore, 1) := by decide +kernel
theorem dX9_fell_51 : decode cX9_fell 51 = .ok (.iload_n 2, 1) := by decide +kernel
theorem dX9_fell_52 : decode cX9_fell 52 = .ok (.ireturn, 1) := by decide +kernel
theorem dX9_then_0 : decode cX9_then 0 = .ok (.lload_n 1, 1) := by decide +kernel
theorem dX9_then_1 : decode cX9_then 1 = .ok (.lconst 1, 1) := by decide +kernel
theorem dX9_then_2 : decode cX9_then 2 = .ok (.lcmp, 1) := by decide +kernel
theorem dX9_then_3 : decode cX9_then 3 = .ok (.ifCond .ne 9, 3) := by decide +kernel
theorem dX9_then_6 : decode cX9_then 6 = .ok (.iload_n 0, 1) := by decide +kernel
theorem dX9_then_7 : decode cX9_then 7 = .ok (.iconst 1, 1) := by decide +kernel
theorem dX9_then_8 : decode cX9_then 8 = .ok (.isub, 1) := by decide +kernel
theorem dX9_then_9 : decode cX9_then 9 = .ok (.goto 18, 3) := by decide +kernel
theorem dX9_then_12 : decode cX9_then 12 = .ok (.lload_n 1, 1) := by decide +kernel
theorem dX9_then_13 : decode cX9_then 13 = .ok (.ldc2_w 196, 3) := by decide +kernel
theorem dX9_then_16 : decode cX9_then 16 = .ok (.lcmp, 1) := by decide +kernel
theorem dX9_then_17 : decode cX9_then 17 = .ok (.ifCond .ne 9, 3) := by decide +kernel
theorem dX9_then_20 : decode cX9_then 20 = .ok (.iload_n 0, 1) := by decide +kernel
theorem dX9_then_21 : decode cX9_then 21 = .ok (.iconst 1, 1) := by decide +kernel
theorem dX9_then_22 : decode cX9_then 22 = .ok (.iadd, 1) := by decide +kernel
theorem dX9_then_23 : decode cX9_then 23 = .ok (.goto 4, 3) := by decide +kernel
theorem dX9_then_26 : decode cX9_then 26 = .ok (.iload_n 0, 1) := by decide +kernel
theorem dX9_then_27 : decode cX9_then 27 = .ok (.ireturn, 1) := by decide +kernel
theorem dX9_refuses_0 : decode cX9_refuses 0 = .ok (.lload_n 1, 1) := by decide +kernel
theorem dX9_refuses_1 : decode cX9_refuses 1 = .ok (.lconst 0, 1) := by decide +kernel
theorem dX9_refuses_2 : decode cX9_refuses 2 = .ok (.ldc2_w 196, 3) := by decide +kernel
theorem dX9_refuses_5 : decode cX9_refuses 5 = .ok (.invokestatic 128, 3) := by decide +kernel
theorem dX9_refuses_8 : decode cX9_refuses 8 = .ok (.ifCond .eq 20, 3) := by decide +kernel
theorem dX9_refuses_11 : decode cX9_refuses 11 = .ok (.aload_n 0, 1) := by decide +kernel
theorem dX9_refuses_12 : decode cX9_refuses 12 = .ok (.aload_n 0, 1) := by decide +kernel
theorem dX9_refuses_13 : decode cX9_refuses 13 = .ok (.getfield 13, 3) := by decide +kernel
theorem dX9_refuses_16 : decode cX9_refuses 16 = .ok (.iconst 2, 1) := by decide +kernel
theorem dX9_refuses_17 : decode cX9_refuses 17 = .ok (.iaload, 1) := by decide +kernel
theorem dX9_refuses_18 : decode cX9_refuses 18 = .ok (.lload_n 1, 1) := by decide +kernel
theorem dX9_refuses_19 : decode cX9_refuses 19 = .ok (.invokestatic 198, 3) := by decide +kernel
theorem dX9_refuses_22 : decode cX9_refuses 22 = .ok (.invokevirtual 172, 3) := by decide +kernel
theorem dX9_refuses_25 : decode cX9_refuses 25 = .ok (.ifCond .ne 5, 3) := by decide +kernel
theorem dX9_refuses_28 : decode cX9_refuses 28 = .ok (.iconst 1, 1) := by decide +kernel
theorem dX9_refuses_29 : decode cX9_refuses 29 = .ok (.ireturn, 1) := by decide +kernel
theorem dX9_refuses_30 : decode cX9_refuses 30 = .ok (.aload_n 0, 1) := by decide +kernel
theorem dX9_refuses_31 : decode cX9_refuses 31 = .ok (.getfield 13, 3) := by decide +kernel
theorem dX9_refuses_34 : decode cX9_refuses 34 = .ok (.bipush 6, 2) := by decide +kernel
theorem dX9_refuses_36 : decode cX9_refuses 36 = .ok (.iaload, 1) := by decide +kernel
theorem dX9_refuses_37 : decode cX9_refuses 37 = .ok (.ifCond .ne 7, 3) := by decide +kernel
theorem dX9_refuses_40 : decode cX9_refuses 40 = .ok (.iconst 2, 1) := by decide +kernel
theorem dX9_refuses_41 : decode cX9_refuses 41 = .ok (.goto 20, 3) := by decide +kernel
theorem dX9_refuses_44 : decode cX9_refuses 44 = .ok (.aload_n 0, 1) := by decide +kernel
theorem dX9_refuses_45 : decode cX9_refuses 45 = .ok (.getfield 13, 3) := by decide +kernel
theorem dX9_refuses_48 : decode cX9_refuses 48 = .ok (.iconst 1, 1) := by decide +kernel
theorem dX9_refuses_49 : decode cX9_refuses 49 = .ok (.iaload, 1) := by decide +kernel
theorem dX9_refuses_50 : decode cX9_refuses 50 = .ok (.sipush 9999, 3) := by decide +kernel
theorem dX9_refuses_53 : decode cX9_refuses 53 = .ok (.if_icmp .ne 7, 3) := by decide +kernel
theorem dX9_refuses_56 : decode cX9_refuses 56 = .ok (.iconst 3, 1) := by decide +kernel
theorem dX9_refuses_57 : decode cX9_refuses 57 = .ok (.goto 4, 3) := by decide +kernel
theorem dX9_refuses_60 : decode cX9_refuses 60 = .ok (.iconst 0, 1) := by decide +kernel
theorem dX9_refuses_61 : decode cX9_refuses 61 = .ok (.ireturn, 1) := by decide +kernel
theorem dX9_goes_0 : decode cX9_goes 0 = .ok (.aload_n 0, 1) := by decide +kernel
theorem dX9_goes_1 : decode cX9_goes 1 = .ok (.getfield 13, 3) := by decide +kernel
theorem dX9_goes_4 : decode cX9_goes 4 = .ok (.iconst 2, 1) := by decide +kernel
theorem dX9_goes_5 : decode cX9_goes 5 = .ok (.aload_n 0, 1) := by decide +kernel
theorem dX9_goes_6 : decode cX9_goes 6 = .ok (.getfield 13, 3) := by decide +kernel
theorem dX9_goes_9 : decode cX9_goes 9 = .ok (.iconst 2, 1) := by decide +kernel
theorem dX9_goes_10 : decode cX9_goes 10 = .ok (.iaload, 1) := by decide +kernel
theorem dX9_goes_11 : decode cX9_goes 11 = .ok (.iload_n 1, 1) := by decide +kernel
theorem dX9_goes_12 : decode cX9_goes 12 = .ok (.i2l, 1) := by decide +kernel
theorem dX9_goes_13 : decode cX9_goes 13 = .ok (.invokestatic 198, 3) := by decide +kernel
theorem dX9_goes_16 : decode cX9_goes 16 = .ok (.iastore, 1) := by decide +kernel
theorem dX9_goes_17 : decode cX9_goes 17 = .ok (.aload_n 0, 1) := by decide +kernel
theorem dX9_goes_18 : decode cX9_goes 18 = .ok (.getfield 13, 3) := by decide +kernel
theorem dX9_goes_21 : decode cX9_goes 21 = .ok (.bipush 6, 2) := by decide +kernel
theorem dX9_goes_23 : decode cX9_goes 23 = .ok (.dup2, 1) := by decide +kernel
theorem dX9_goes_24 : decode cX9_goes 24 = .ok (.iaload, 1) := by decide +kernel
theorem dX9_goes_25 : decode cX9_goes 25 = .ok (.iconst 1, 1) := by decide +kernel
theorem dX9_goes_26 : decode cX9_goes 26 = .ok (.isub, 1) := by decide +kernel
theorem dX9_goes_27 : decode cX9_goes 27 = .ok (.iastore, 1) := by decide +kernel
theorem dX9_goes_28 : decode cX9_goes 28 = .ok (.aload_n 0, 1) := by decide +kernel
theorem dX9_goes_29 : decode cX9_goes 29 = .ok (.getfield 13, 3) := by decide +kernel
theorem dX9_goes_32 : decode cX9_goes 32 = .ok (.iconst 1, 1) := by decide +kernel
theorem dX9_goes_33 : decode cX9_goes 33 = .ok (.dup2, 1) := by decide +kernel
theorem dX9_goes_34 : decode cX9_goes 34 = .ok (.iaload, 1) := by decide +kernel
theorem dX9_goes_35 : decode cX9_goes 35 = .ok (.iconst 1, 1) := by decide +kernel
theorem dX9_goes_36 : decode cX9_goes 36 = .ok (.iadd, 1) := by decide +kernel
theorem dX9_goes_37 : decode cX9_goes 37 = .ok (.iastore, 1) := by decide +kernel
theorem dX9_goes_38 : decode cX9_goes 38 = .ok (.iconst 0, 1) := by decide +kernel
theorem dX9_goes_39 : decode cX9_goes 39 = .ok (.istore_n 3, 1) := by decide +kernel
theorem dX9_goes_40 : decode cX9_goes 40 = .ok (.iconst 0, 1) := by decide +kernel
theorem dX9_goes_41 : decode cX9_goes 41 = .ok (.istore 4, 2) := by decide +kernel
theorem dX9_goes_43 : decode cX9_goes 43 = .ok (.iload 4, 2) := by decide +kernel
theorem dX9_goes_45 : decode cX9_goes 45 = .ok (.aload_n 0, 1) := by decide +kernel
theorem dX9_goes_46 : decode cX9_goes 46 = .ok (.getfield 13, 3) := by decide +kernel
theorem dX9_goes_49 : decode cX9_goes 49 = .ok (.iconst 0, 1) := by decide +kernel
theorem dX9_goes_50 : decode cX9_goes 50 = .ok (.iaload, 1) := by decide +kernel
theorem dX9_goes_51 : decode cX9_goes 51 = .ok (.if_icmp .ge 146, 3) := by decide +kernel
theorem dX9_goes_54 : decode cX9_goes 54 = .ok (.iload_n 2, 1) := by decide +kernel
theorem dX9_goes_55 : decode cX9_goes 55 = .ok (.ifCond .ne 142, 3) := by decide +kernel
theorem dX9_goes_58 : decode cX9_goes 58 = .ok (.aload_n 0, 1) := by decide +kernel
theorem dX9_goes_59 : decode cX9_goes 59 = .ok (.aload_n 0, 1) := by decide +kernel
theorem dX9_goes_60 : decode cX9_goes 60 = .ok (.getfield 13, 3) := by decide +kernel
theorem dX9_goes_63 : decode cX9_goes 63 = .ok (.iconst 2, 1) := by decide +kernel
theorem dX9_goes_64 : decode cX9_goes 64 = .ok (.iaload, 1) := by decide +kernel
theorem dX9_goes_65 : decode cX9_goes 65 = .ok (.iload 4, 2) := by decide +kernel
theorem dX9_goes_67 : decode cX9_goes 67 = .ok (.invokevirtual 177, 3) := by decide +kernel
theorem dX9_goes_70 : decode cX9_goes 70 = .ok (.istore 5, 2) := by decide +kernel
theorem dX9_goes_72 : decode cX9_goes 72 = .ok (.aload_n 0, 1) := by decide +kernel
theorem dX9_goes_73 : decode cX9_goes 73 = .ok (.getfield 13, 3) := by decide +kernel
theorem dX9_goes_76 : decode cX9_goes 76 = .ok (.bipush 32, 2) := by decide +kernel
theorem dX9_goes_78 : decode cX9_goes 78 = .ok (.iload 4, 2) := by decide +kernel
theorem dX9_goes_80 : decode cX9_goes 80 = .ok (.iadd, 1) := by decide +kernel
theorem dX9_goes_81 : decode cX9_goes 81 = .ok (.iaload, 1) := by decide +kernel
theorem dX9_goes_82 : decode cX9_goes 82 = .ok (.iload 5, 2) := by decide +kernel
theorem dX9_goes_84 : decode cX9_goes 84 = .ok (.if_icmp .ge 16, 3) := by decide +kernel
theorem dX9_goes_87 : decode cX9_goes 87 = .ok (.aload_n 0, 1) := by decide +kernel
theorem dX9_goes_88 : decode cX9_goes 88 = .ok (.getfield 13, 3) := by decide +kernel
theorem dX9_goes_91 : decode cX9_goes 91 = .ok (.bipush 32, 2) := by decide +kernel
theorem dX9_goes_93 : decode cX9_goes 93 = .ok (.iload 4, 2) := by decide +kernel
theorem dX9_goes_95 : decode cX9_goes 95 = .ok (.iadd, 1) := by decide +kernel
theorem dX9_goes_96 : decode cX9_goes 96 = .ok (.iaload, 1) := by decide +kernel
theorem dX9_goes_97 : decode cX9_goes 97 = .ok (.goto 5, 3) := by decide +kernel
theorem dX9_goes_100 : decode cX9_goes 100 = .ok (.iload 5, 2) := by decide +kernel
theorem dX9_goes_102 : decode cX9_goes 102 = .ok (.istore 5, 2) := by decide +kernel
theorem dX9_goes_104 : decode cX9_goes 104 = .ok (.aload_n 0, 1) := by decide +kernel
theorem dX9_goes_105 : decode cX9_goes 105 = .ok (.getfield 13, 3) := by decide +kernel
theorem dX9_goes_108 : decode cX9_goes 108 = .ok (.bipush 16, 2) := by decide +kernel
theorem dX9_goes_110 : decode cX9_goes 110 = .ok (.iload 4, 2) := by decide +kernel
theorem dX9_goes_112 : decode cX9_goes 112 = .ok (.iadd, 1) := by decide +kernel
theorem dX9_goes_113 : decode cX9_goes 113 = .ok (.iaload, 1) := by decide +kernel
theorem dX9_goes_114 : decode cX9_goes 114 = .ok (.iload 5, 2) := by decide +kernel
theorem dX9_goes_116 : decode cX9_goes 116 = .ok (.if_icmp .ge 16, 3) := by decide +kernel
theorem dX9_goes_119 : decode cX9_goes 119 = .ok (.aload_n 0, 1) := by decide +kernel
theorem dX9_goes_120 : decode cX9_goes 120 = .ok (.getfield 13, 3) := by decide +kernel
theorem dX9_goes_123 : decode cX9_goes 123 = .ok (.bipush 16, 2) := by decide +kernel
theorem dX9_goes_125 : decode cX9_goes 125 = .ok (.iload 4, 2) := by decide +kernel
theorem dX9_goes_127 : decode cX9_goes 127 = .ok (.iadd, 1) := by decide +kernel
theorem dX9_goes_128 : decode cX9_goes 128 = .ok (.iaload, 1) := by decide +kernel
theorem dX9_goes_129 : decode cX9_goes 129 = .ok (.goto 5, 3) := by decide +kernel
theorem dX9_goes_132 : decode cX9_goes 132 = .ok (.iload 5, 2) := by decide +kernel
theorem dX9_goes_134 : decode cX9_goes 134 = .ok (.istore 5, 2) := by decide +kernel
theorem dX9_goes_136 : decode cX9_goes 136 = .ok (.aload_n 0, 1) := by decide +kernel
theorem dX9_goes_137 : decode cX9_goes 137 = .ok (.getfield 13, 3) := by decide +kernel
theorem dX9_goes_140 : decode cX9_goes 140 = .ok (.bipush 16, 2) := by decide +kernel
theorem dX9_goes_142 : decode cX9_goes 142 = .ok (.iload 4, 2) := by decide +kernel
theorem dX9_goes_144 : decode cX9_goes 144 = .ok (.iadd, 1) := by decide +kernel
theorem dX9_goes_145 : decode cX9_goes 145 = .ok (.dup2, 1) := by decide +kernel
theorem dX9_goes_146 : decode cX9_goes 146 = .ok (.iaload, 1) := by decide +kernel
theorem dX9_goes_147 : decode cX9_goes 147 = .ok (.iload 5, 2) := by decide +kernel
theorem dX9_goes_149 : decode cX9_goes 149 = .ok (.isub, 1) := by decide +kernel
theorem dX9_goes_150 : decode cX9_goes 150 = .ok (.iastore, 1) := by decide +kernel
theorem dX9_goes_151 : decode cX9_goes 151 = .ok (.aload_n 0, 1) := by decide +kernel
theorem dX9_goes_152 : decode cX9_goes 152 = .ok (.getfield 13, 3) := by decide +kernel
theorem dX9_goes_155 : decode cX9_goes 155 = .ok (.bipush 80, 2) := by decide +kernel
theorem dX9_goes_157 : decode cX9_goes 157 = .ok (.iload 4, 2) := by decide +kernel
theorem dX9_goes_159 : decode cX9_goes 159 = .ok (.iadd, 1) := by decide +kernel
theorem dX9_goes_160 : decode cX9_goes 160 = .ok (.dup2, 1) := by decide +kernel
theorem dX9_goes_161 : decode cX9_goes 161 = .ok (.iaload, 1) := by decide +kernel
theorem dX9_goes_162 : decode cX9_goes 162 = .ok (.iload 5, 2) := by decide +kernel
theorem dX9_goes_164 : decode cX9_goes 164 = .ok (.iadd, 1) := by decide +kernel
theorem dX9_goes_165 : decode cX9_goes 165 = .ok (.iastore, 1) := by decide +kernel
theorem dX9_goes_166 : decode cX9_goes 166 = .ok (.aload_n 0, 1) := by decide +kernel
theorem dX9_goes_167 : decode cX9_goes 167 = .ok (.getfield 30, 3) := by decide +kernel
theorem dX9_goes_170 : decode cX9_goes 170 = .ok (.aload_n 0, 1) := by decide +kernel
theorem dX9_goes_171 : decode cX9_goes 171 = .ok (.getfield 13, 3) := by decide +kernel
theorem dX9_goes_174 : decode cX9_goes 174 = .ok (.bipush 64, 2) := by decide +kernel
theorem dX9_goes_176 : decode cX9_goes 176 = .ok (.iload 4, 2) := by decide +kernel
theorem dX9_goes_178 : decode cX9_goes 178 = .ok (.iadd, 1) := by decide +kernel
theorem dX9_goes_179 : decode cX9_goes 179 = .ok (.iaload, 1) := by decide +kernel
theorem dX9_goes_180 : decode cX9_goes 180 = .ok (.dup2, 1) := by decide +kernel
theorem dX9_goes_181 : decode cX9_goes 181 = .ok (.iaload, 1) := by decide +kernel
theorem dX9_goes_182 : decode cX9_goes 182 = .ok (.iload 5, 2) := by decide +kernel
theorem dX9_goes_184 : decode cX9_goes 184 = .ok (.iadd, 1) := by decide +kernel
theorem dX9_goes_185 : decode cX9_goes 185 = .ok (.iastore, 1) := by decide +kernel
theorem dX9_goes_186 : decode cX9_goes 186 = .ok (.iload_n 3, 1) := by decide +kernel
theorem dX9_goes_187 : decode cX9_goes 187 = .ok (.iload 5, 2) := by decide +kernel
theorem dX9_goes_189 : decode cX9_goes 189 = .ok (.iadd, 1) := by decide +kernel
theorem dX9_goes_190 : decode cX9_goes 190 = .ok (.istore_n 3, 1) := by decide +kernel
theorem dX9_goes_191 : decode cX9_goes 191 = .ok (.iinc 4 1, 3) := by decide +kernel
theorem dX9_goes_194 : decode cX9_goes 194 = .ok (.goto (-151), 3) := by decide +kernel
theorem dX9_goes_197 : decode cX9_goes 197 = .ok (.iload_n 3, 1) := by decide +kernel
theorem dX9_goes_198 : decode cX9_goes 198 = .ok (.ireturn, 1) := by decide +kernel
theorem dX9_minute_0 : decode cX9_minute 0 = .ok (.aload_n 0, 1) := by decide +kernel
theorem dX9_minute_1 : decode cX9_minute 1 = .ok (.iconst 0, 1) := by decide +kernel
theorem dX9_minute_2 : decode cX9_minute 2 = .ok (.putfield 1, 3) := by decide +kernel
theorem dX9_minute_5 : decode cX9_minute 5 = .ok (.aload_n 0, 1) := by decide +kernel
theorem dX9_minute_6 : decode cX9_minute 6 = .ok (.iload_n 1, 1) := by decide +kernel
theorem dX9_minute_7 : decode cX9_minute 7 = .ok (.i2l, 1) := by decide +kernel
theorem dX9_minute_8 : decode cX9_minute 8 = .ok (.invokevirtual 202, 3) := by decide +kernel
theorem dX9_minute_11 : decode cX9_minute 11 = .ok (.istore_n 2, 1) := by decide +kernel
theorem dX9_minute_12 : decode cX9_minute 12 = .ok (.iload_n 2, 1) := by decide +kernel
theorem dX9_minute_13 : decode cX9_minute 13 = .ok (.iconst 1, 1) := by decide +kernel
theorem dX9_minute_14 : decode cX9_minute 14 = .ok (.if_icmp .ne 8, 3) := by decide +kernel
theorem dX9_minute_17 : decode cX9_minute 17 = .ok (.bipush (-2), 2) := by decide +kernel
theorem dX9_minute_19 : decode cX9_minute 19 = .ok (.goto 18, 3) := by decide +kernel
theorem dX9_minute_22 : decode cX9_minute 22 = .ok (.iload_n 2, 1) := by decide +kernel
theorem dX9_minute_23 : decode cX9_minute 23 = .ok (.ifCond .eq 8, 3) := by decide +kernel
theorem dX9_minute_26 : decode cX9_minute 26 = .ok (.bipush (-5), 2) := by decide +kernel
theorem dX9_minute_28 : decode cX9_minute 28 = .ok (.goto 9, 3) := by decide +kernel
theorem dX9_minute_31 : decode cX9_minute 31 = .ok (.aload_n 0, 1) := by decide +kernel
theorem dX9_minute_32 : decode cX9_minute 32 = .ok (.iload_n 1, 1) := by decide +kernel
theorem dX9_minute_33 : decode cX9_minute 33 = .ok (.iconst 0, 1) := by decide +kernel
theorem dX9_minute_34 : decode cX9_minute 34 = .ok (.invokevirtual 206, 3) := by decide +kernel
theorem dX9_minute_37 : decode cX9_minute 37 = .ok (.ireturn, 1) := by decide +kernel
theorem dX9_keeps_0 : decode cX9_keeps 0 = .ok (.iconst 0, 1) := by decide +kernel
theorem dX9_keeps_1 : decode cX9_keeps 1 = .ok (.istore_n 2, 1) := by decide +kernel
theorem dX9_keeps_2 : decode cX9_keeps 2 = .ok (.iload_n 2, 1) := by decide +kernel
theorem dX9_keeps_3 : decode cX9_keeps 3 = .ok (.bipush 96, 2) := by decide +kernel
theorem dX9_keeps_5 : decode cX9_keeps 5 = .ok (.if_icmp .ge 26, 3) := by decide +kernel
theorem dX9_keeps_8 : decode cX9_keeps 8 = .ok (.aload_n 0, 1) := by decide +kernel
theorem dX9_keeps_9 : decode cX9_keeps 9 = .ok (.getfield 33, 3) := by decide +kernel
theorem dX9_keeps_12 : decode cX9_keeps 12 = .ok (.bipush 96, 2) := by decide +kernel
theorem dX9_keeps_14 : decode cX9_keeps 14 = .ok (.iload_n 1, 1) := by decide +kernel
theorem dX9_keeps_15 : decode cX9_keeps 15 = .ok (.imul, 1) := by decide +kernel
theorem dX9_keeps_16 : decode cX9_keeps 16 = .ok (.iload_n 2, 1) := by decide +kernel
theorem dX9_keeps_17 : decode cX9_keeps 17 = .ok (.iadd, 1) := by decide +kernel
theorem dX9_keeps_18 : decode cX9_keeps 18 = .ok (.aload_n 0, 1) := by decide +kernel
theorem dX9_keeps_19 : decode cX9_keeps 19 = .ok (.getfield 13, 3) := by decide +kernel
theorem dX9_keeps_22 : decode cX9_keeps 22 = .ok (.iload_n 2, 1) := by decide +kernel
theorem dX9_keeps_23 : decode cX9_keeps 23 = .ok (.iaload, 1) := by decide +kernel
theorem dX9_keeps_24 : decode cX9_keeps 24 = .ok (.iastore, 1) := by decide +kernel
theorem dX9_keeps_25 : decode cX9_keeps 25 = .ok (.iinc 2 1, 3) := by decide +kernel
theorem dX9_keeps_28 : decode cX9_keeps 28 = .ok (.goto (-26), 3) := by decide +kernel
theorem dX9_keeps_31 : decode cX9_keeps 31 = .ok (.return_, 1) := by decide +kernel
theorem dX9_isAgain_0 : decode cX9_isAgain 0 = .ok (.iconst 0, 1) := by decide +kernel
theorem dX9_isAgain_1 : decode cX9_isAgain 1 = .ok (.istore_n 2, 1) := by decide +kernel
theorem dX9_isAgain_2 : decode cX9_isAgain 2 = .ok (.iload_n 2, 1) := by decide +kernel
theorem dX9_isAgain_3 : decode cX9_isAgain 3 = .ok (.bipush 96, 2) := by decide +kernel
theorem dX9_isAgain_5 : decode cX9_isAgain 5 = .ok (.if_icmp .ge 26, 3) := by decide +kernel
theorem dX9_isAgain_8 : decode cX9_isAgain 8 = .ok (.aload_n 0, 1) := by decide +kernel
theorem dX9_isAgain_9 : decode cX9_isAgain 9 = .ok (.getfield 13, 3) := by decide +kernel
theorem dX9_isAgain_12 : decode cX9_isAgain 12 = .ok (.iload_n 2, 1) := by decide +kernel
theorem dX9_isAgain_13 : decode cX9_isAgain 13 = .ok (.aload_n 0, 1) := by decide +kernel
theorem dX9_isAgain_14 : decode cX9_isAgain 14 = .ok (.getfield 33, 3) := by decide +kernel
theorem dX9_isAgain_17 : decode cX9_isAgain 17 = .ok (.bipush 96, 2) := by decide +kernel
theorem dX9_isAgain_19 : decode cX9_isAgain 19 = .ok (.iload_n 1, 1) := by decide +kernel
theorem dX9_isAgain_20 : decode cX9_isAgain 20 = .ok (.imul, 1) := by decide +kernel
theorem dX9_isAgain_21 : decode cX9_isAgain 21 = .ok (.iload_n 2, 1) := by decide +kernel
theorem dX9_isAgain_22 : decode cX9_isAgain 22 = .ok (.iadd, 1) := by decide +kernel
theorem dX9_isAgain_23 : decode cX9_isAgain 23 = .ok (.iaload, 1) := by decide +kernel
theorem dX9_isAgain_24 : decode cX9_isAgain 24 = .ok (.iastore, 1) := by decide +kernel
theorem dX9_isAgain_25 : decode cX9_isAgain 25 = .ok (.iinc 2 1, 3) := by decide +kernel
theorem dX9_isAgain_28 : decode cX9_isAgain 28 = .ok (.goto (-26), 3) := by decide +kernel
theorem dX9_isAgain_31 : decode cX9_isAgain 31 = .ok (.return_, 1) := by decide +kernel
theorem dX9_movesOf_0 : decode cX9_movesOf 0 = .ok (.aload_n 0, 1) := by decide +kernel
theorem dX9_movesOf_1 : decode cX9_movesOf 1 = .ok (.iconst 0, 1) := by decide +kernel
theorem dX9_movesOf_2 : decode cX9_movesOf 2 = .ok (.putfield 210, 3) := by decide +kernel
theorem dX9_movesOf_5 : decode cX9_movesOf 5 = .ok (.aload_n 0, 1) := by decide +kernel
theorem dX9_movesOf_6 : decode cX9_movesOf 6 = .ok (.iconst 0, 1) := by decide +kernel
theorem dX9_movesOf_7 : decode cX9_movesOf 7 = .ok (.putfield 213, 3) := by decide +kernel
theorem dX9_movesOf_10 : decode cX9_movesOf 10 = .ok (.iconst 0, 1) := by decide +kernel
theorem dX9_movesOf_11 : decode cX9_movesOf 11 = .ok (.istore_n 2, 1) := by decide +kernel
theorem dX9_movesOf_12 : decode cX9_movesOf 12 = .ok (.iload_n 2, 1) := by decide +kernel
theorem dX9_movesOf_13 : decode cX9_movesOf 13 = .ok (.aload_n 0, 1) := by decide +kernel
theorem dX9_movesOf_14 : decode cX9_movesOf 14 = .ok (.getfield 54, 3) := by decide +kernel
theorem dX9_movesOf_17 : decode cX9_movesOf 17 = .ok (.iload_n 1, 1) := by decide +kernel
theorem dX9_movesOf_18 : decode cX9_movesOf 18 = .ok (.iaload, 1) := by decide +kernel
theorem dX9_movesOf_19 : decode cX9_movesOf 19 = .ok (.if_icmp .ge 63, 3) := by decide +kernel
theorem dX9_movesOf_22 : decode cX9_movesOf 22 = .ok (.aload_n 0, 1) := by decide +kernel
theorem dX9_movesOf_23 : decode cX9_movesOf 23 = .ok (.aload_n 0, 1) := by decide +kernel
theorem dX9_movesOf_24 : decode cX9_movesOf 24 = .ok (.aload_n 0, 1) := by decide +kernel
theorem dX9_movesOf_25 : decode cX9_movesOf 25 = .ok (.getfield 57, 3) := by decide +kernel
theorem dX9_movesOf_28 : decode cX9_movesOf 28 = .ok (.bipush 40, 2) := by decide +kernel
theorem dX9_movesOf_30 : decode cX9_movesOf 30 = .ok (.iload_n 1, 1) := by decide +kernel
theorem dX9_movesOf_31 : decode cX9_movesOf 31 = .ok (.imul, 1) := by decide +kernel
theorem dX9_movesOf_32 : decode cX9_movesOf 32 = .ok (.iload_n 2, 1) := by decide +kernel
theorem dX9_movesOf_33 : decode cX9_movesOf 33 = .ok (.iadd, 1) := by decide +kernel
theorem dX9_movesOf_34 : decode cX9_movesOf 34 = .ok (.laload, 1) := by decide +kernel
theorem dX9_movesOf_35 : decode cX9_movesOf 35 = .ok (.invokevirtual 202, 3) := by decide +kernel
theorem dX9_movesOf_38 : decode cX9_movesOf 38 = .ok (.putfield 210, 3) := by decide +kernel
theorem dX9_movesOf_41 : decode cX9_movesOf 41 = .ok (.aload_n 0, 1) := by decide +kernel
theorem dX9_movesOf_42 : decode cX9_movesOf 42 = .ok (.getfield 210, 3) := by decide +kernel
theorem dX9_movesOf_45 : decode cX9_movesOf 45 = .ok (.ifCond .eq 5, 3) := by decide +kernel
theorem dX9_movesOf_48 : decode cX9_movesOf 48 = .ok (.iload_n 2, 1) := by decide +kernel
theorem dX9_movesOf_49 : decode cX9_movesOf 49 = .ok (.ireturn, 1) := by decide +kernel
theorem dX9_movesOf_50 : decode cX9_movesOf 50 = .ok (.aload_n 0, 1) := by decide +kernel
theorem dX9_movesOf_51 : decode cX9_movesOf 51 = .ok (.dup, 1) := by decide +kernel
theorem dX9_movesOf_52 : decode cX9_movesOf 52 = .ok (.getfield 213, 3) := by decide +kernel
theorem dX9_movesOf_55 : decode cX9_movesOf 55 = .ok (.aload_n 0, 1) := by decide +kernel
theorem dX9_movesOf_56 : decode cX9_movesOf 56 = .ok (.aload_n 0, 1) := by decide +kernel
theorem dX9_movesOf_57 : decode cX9_movesOf 57 = .ok (.getfield 57, 3) := by decide +kernel
theorem dX9_movesOf_60 : decode cX9_movesOf 60 = .ok (.bipush 40, 2) := by decide +kernel
theorem dX9_movesOf_62 : decode cX9_movesOf 62 = .ok (.iload_n 1, 1) := by decide +kernel
theorem dX9_movesOf_63 : decode cX9_movesOf 63 = .ok (.imul, 1) := by decide +kernel
theorem dX9_movesOf_64 : decode cX9_movesOf 64 = .ok (.iload_n 2, 1) := by decide +kernel
theorem dX9_movesOf_65 : decode cX9_movesOf 65 = .ok (.iadd, 1) := by decide +kernel
theorem dX9_movesOf_66 : decode cX9_movesOf 66 = .ok (.laload, 1) := by decide +kernel
theorem dX9_movesOf_67 : decode cX9_movesOf 67 = .ok (.l2i, 1) := by decide +kernel
theorem dX9_movesOf_68 : decode cX9_movesOf 68 = .ok (.iconst 0, 1) := by decide +kernel
theorem dX9_movesOf_69 : decode cX9_movesOf 69 = .ok (.invokevirtual 206, 3) := by decide +kernel
theorem dX9_movesOf_72 : decode cX9_movesOf 72 = .ok (.iadd, 1) := by decide +kernel
theorem dX9_movesOf_73 : decode cX9_movesOf 73 = .ok (.putfield 213, 3) := by decide +kernel
theorem dX9_movesOf_76 : decode cX9_movesOf 76 = .ok (.iinc 2 1, 3) := by decide +kernel
theorem dX9_movesOf_79 : decode cX9_movesOf 79 = .ok (.goto (-67), 3) := by decide +kernel
theorem dX9_movesOf_82 : decode cX9_movesOf 82 = .ok (.aload_n 0, 1) := by decide +kernel
theorem dX9_movesOf_83 : decode cX9_movesOf 83 = .ok (.getfield 54, 3) := by decide +kernel
theorem dX9_movesOf_86 : decode cX9_movesOf 86 = .ok (.iload_n 1, 1) := by decide +kernel
theorem dX9_movesOf_87 : decode cX9_movesOf 87 = .ok (.iaload, 1) := by decide +kernel
theorem dX9_movesOf_88 : decode cX9_movesOf 88 = .ok (.ireturn, 1) := by decide +kernel
theorem dX9_judge_0 : decode cX9_judge 0 = .ok (.aload_n 0, 1) := by decide +kernel
theorem dX9_judge_1 : decode cX9_judge 1 = .ok (.iconst 0, 1) := by decide +kernel
theorem dX9_judge_2 : decode cX9_judge 2 = .ok (.putfield 1, 3) := by decide +kernel
theorem dX9_judge_5 : decode cX9_judge 5 = .ok (.iload_n 1, 1) := by decide +kernel
theorem dX9_judge_6 : decode cX9_judge 6 = .ok (.i2l, 1) := by decide +kernel
theorem dX9_judge_7 : decode cX9_judge 7 = .ok (.lconst 0, 1) := by decide +kernel
theorem dX9_judge_8 : decode cX9_judge 8 = .ok (.ldc2_w 180, 3) := by decide +kernel
theorem dX9_judge_11 : decode cX9_judge 11 = .ok (.invokestatic 128, 3) := by decide +kernel
theorem dX9_judge_14 : decode cX9_judge 14 = .ok (.ifCond .eq 15, 3) := by decide +kernel
theorem dX9_judge_17 : decode cX9_judge 17 = .ok (.iload_n 2, 1) := by decide +kernel
theorem dX9_judge_18 : decode cX9_judge 18 = .ok (.i2l, 1) := by decide +kernel
theorem dX9_judge_19 : decode cX9_judge 19 = .ok (.lconst 0, 1) := by decide +kernel
theorem dX9_judge_20 : decode cX9_judge 20 = .ok (.ldc2_w 180, 3) := by decide +kernel
theorem dX9_judge_23 : decode cX9_judge 23 = .ok (.invokestatic 128, 3) := by decide +kernel
theorem dX9_judge_26 : decode cX9_judge 26 = .ok (.ifCond .ne 6, 3) := by decide +kernel
theorem dX9_judge_29 : decode cX9_judge 29 = .ok (.bipush (-2), 2) := by decide +kernel
theorem dX9_judge_31 : decode cX9_judge 31 = .ok (.ireturn, 1) := by decide +kernel
theorem dX9_judge_32 : decode cX9_judge 32 = .ok (.aload_n 0, 1) := by decide +kernel
theorem dX9_judge_33 : decode cX9_judge 33 = .ok (.getfield 51, 3) := by decide +kernel
theorem dX9_judge_36 : decode cX9_judge 36 = .ok (.iload_n 1, 1) := by decide +kernel
theorem dX9_judge_37 : decode cX9_judge 37 = .ok (.iaload, 1) := by decide +kernel
theorem dX9_judge_38 : decode cX9_judge 38 = .ok (.iconst (-1), 1) := by decide +kernel
theorem dX9_judge_39 : decode cX9_judge 39 = .ok (.if_icmp .ne 6, 3) := by decide +kernel
theorem dX9_judge_42 : decode cX9_judge 42 = .ok (.bipush (-6), 2) := by decide +kernel
theorem dX9_judge_44 : decode cX9_judge 44 = .ok (.ireturn, 1) := by decide +kernel
theorem dX9_judge_45 : decode cX9_judge 45 = .ok (.aload_n 0, 1) := by decide +kernel
theorem dX9_judge_46 : decode cX9_judge 46 = .ok (.iconst 0, 1) := by decide +kernel
theorem dX9_judge_47 : decode cX9_judge 47 = .ok (.invokevirtual 216, 3) := by decide +kernel
theorem dX9_judge_50 : decode cX9_judge 50 = .ok (.aload_n 0, 1) := by decide +kernel
theorem dX9_judge_51 : decode cX9_judge 51 = .ok (.iload_n 1, 1) := by decide +kernel
theorem dX9_judge_52 : decode cX9_judge 52 = .ok (.invokevirtual 219, 3) := by decide +kernel
theorem dX9_judge_55 : decode cX9_judge 55 = .ok (.istore_n 3, 1) := by decide +kernel
theorem dX9_judge_56 : decode cX9_judge 56 = .ok (.aload_n 0, 1) := by decide +kernel
theorem dX9_judge_57 : decode cX9_judge 57 = .ok (.getfield 13, 3) := by decide +kernel
theorem dX9_judge_60 : decode cX9_judge 60 = .ok (.iconst 0, 1) := by decide +kernel
theorem dX9_judge_61 : decode cX9_judge 61 = .ok (.iaload, 1) := by decide +kernel
theorem dX9_judge_62 : decode cX9_judge 62 = .ok (.ifCond .ne 7, 3) := by decide +kernel
theorem dX9_judge_65 : decode cX9_judge 65 = .ok (.iconst (-1), 1) := by decide +kernel
theorem dX9_judge_66 : decode cX9_judge 66 = .ok (.goto 9, 3) := by decide +kernel
theorem dX9_judge_69 : decode cX9_judge 69 = .ok (.aload_n 0, 1) := by decide +kernel
theorem dX9_judge_70 : decode cX9_judge 70 = .ok (.getfield 13, 3) := by decide +kernel
theorem dX9_judge_73 : decode cX9_judge 73 = .ok (.iconst 2, 1) := by decide +kernel
theorem dX9_judge_74 : decode cX9_judge 74 = .ok (.iaload, 1) := by decide +kernel
theorem dX9_judge_75 : decode cX9_judge 75 = .ok (.istore 4, 2) := by decide +kernel
theorem dX9_judge_77 : decode cX9_judge 77 = .ok (.aload_n 0, 1) := by decide +kernel
theorem dX9_judge_78 : decode cX9_judge 78 = .ok (.iconst 0, 1) := by decide +kernel
theorem dX9_judge_79 : decode cX9_judge 79 = .ok (.invokevirtual 222, 3) := by decide +kernel
theorem dX9_judge_82 : decode cX9_judge 82 = .ok (.iload_n 2, 1) := by decide +kernel
theorem dX9_judge_83 : decode cX9_judge 83 = .ok (.ifCond .ne 18, 3) := by decide +kernel
theorem dX9_judge_86 : decode cX9_judge 86 = .ok (.aload_n 0, 1) := by decide +kernel
theorem dX9_judge_87 : decode cX9_judge 87 = .ok (.getfield 210, 3) := by decide +kernel
theorem dX9_judge_90 : decode cX9_judge 90 = .ok (.ifCond .ne 7, 3) := by decide +kernel
theorem dX9_judge_93 : decode cX9_judge 93 = .ok (.iconst (-1), 1) := by decide +kernel
theorem dX9_judge_94 : decode cX9_judge 94 = .ok (.goto 33, 3) := by decide +kernel
theorem dX9_judge_97 : decode cX9_judge 97 = .ok (.iload_n 3, 1) := by decide +kernel
theorem dX9_judge_98 : decode cX9_judge 98 = .ok (.goto 29, 3) := by decide +kernel
theorem dX9_judge_101 : decode cX9_judge 101 = .ok (.iload_n 2, 1) := by decide +kernel
theorem dX9_judge_102 : decode cX9_judge 102 = .ok (.iconst 1, 1) := by decide +kernel
theorem dX9_judge_103 : decode cX9_judge 103 = .ok (.if_icmp .ne 10, 3) := by decide +kernel
theorem dX9_judge_106 : decode cX9_judge 106 = .ok (.aload_n 0, 1) := by decide +kernel
theorem dX9_judge_107 : decode cX9_judge 107 = .ok (.getfield 210, 3) := by decide +kernel
theorem dX9_judge_110 : decode cX9_judge 110 = .ok (.goto 17, 3) := by decide +kernel
theorem dX9_judge_113 : decode cX9_judge 113 = .ok (.iload_n 2, 1) := by decide +kernel
theorem dX9_judge_114 : decode cX9_judge 114 = .ok (.iconst 2, 1) := by decide +kernel
theorem dX9_judge_115 : decode cX9_judge 115 = .ok (.if_icmp .ne 10, 3) := by decide +kernel
theorem dX9_judge_118 : decode cX9_judge 118 = .ok (.aload_n 0, 1) := by decide +kernel
theorem dX9_judge_119 : decode cX9_judge 119 = .ok (.getfield 213, 3) := by decide +kernel
theorem dX9_judge_122 : decode cX9_judge 122 = .ok (.goto 5, 3) := by decide +kernel
theorem dX9_judge_125 : decode cX9_judge 125 = .ok (.iload 4, 2) := by decide +kernel
theorem dX9_judge_127 : decode cX9_judge 127 = .ok (.ireturn, 1) := by decide +kernel
theorem dX9_perform_0 : decode cX9_perform 0 = .ok (.aload_n 0, 1) := by decide +kernel
theorem dX9_perform_1 : decode cX9_perform 1 = .ok (.iconst 0, 1) := by decide +kernel
theorem dX9_perform_2 : decode cX9_perform 2 = .ok (.putfield 1, 3) := by decide +kernel
theorem dX9_perform_5 : decode cX9_perform 5 = .ok (.iload_n 1, 1) := by decide +kernel
theorem dX9_perform_6 : decode cX9_perform 6 = .ok (.i2l, 1) := by decide +kernel
theorem dX9_perform_7 : decode cX9_perform 7 = .ok (.lconst 0, 1) := by decide +kernel
theorem dX9_perform_8 : decode cX9_perform 8 = .ok (.ldc2_w 180, 3) := by decide +kernel
theorem dX9_perform_11 : decode cX9_perform 11 = .ok (.invokestatic 128, 3) := by decide +kernel
theorem dX9_perform_14 : decode cX9_perform 14 = .ok (.ifCond .ne 6, 3) := by decide +kernel
theorem dX9_perform_17 : decode cX9_perform 17 = .ok (.bipush (-2), 2) := by decide +kernel
theorem dX9_perform_19 : decode cX9_perform 19 = .ok (.ireturn, 1) := by decide +kernel
theorem dX9_perform_20 : decode cX9_perform 20 = .ok (.aload_n 0, 1) := by decide +kernel
theorem dX9_perform_21 : decode cX9_perform 21 = .ok (.getfield 51, 3) := by decide +kernel
theorem dX9_perform_24 : decode cX9_perform 24 = .ok (.iload_n 1, 1) := by decide +kernel
theorem dX9_perform_25 : decode cX9_perform 25 = .ok (.iaload, 1) := by decide +kernel
theorem dX9_perform_26 : decode cX9_perform 26 = .ok (.iconst (-1), 1) := by decide +kernel
theorem dX9_perform_27 : decode cX9_perform 27 = .ok (.if_icmp .ne 8, 3) := by decide +kernel
theorem dX9_perform_30 : decode cX9_perform 30 = .ok (.bipush (-6), 2) := by decide +kernel
theorem dX9_perform_32 : decode cX9_perform 32 = .ok (.goto 8, 3) := by decide +kernel
theorem dX9_perform_35 : decode cX9_perform 35 = .ok (.aload_n 0, 1) := by decide +kernel
theorem dX9_perform_36 : decode cX9_perform 36 = .ok (.iload_n 1, 1) := by decide +kernel
theorem dX9_perform_37 : decode cX9_perform 37 = .ok (.invokevirtual 219, 3) := by decide +kernel
theorem dX9_perform_40 : decode cX9_perform 40 = .ok (.ireturn, 1) := by decide +kernel
theorem dX9_fill_0 : decode cX9_fill 0 = .ok (.aload_n 0, 1) := by decide +kernel
theorem dX9_fill_1 : decode cX9_fill 1 = .ok (.iconst 0, 1) := by decide +kernel
theorem dX9_fill_2 : decode cX9_fill 2 = .ok (.putfield 1, 3) := by decide +kernel
theorem dX9_fill_5 : decode cX9_fill 5 = .ok (.iload_n 1, 1) := by decide +kernel
theorem dX9_fill_6 : decode cX9_fill 6 = .ok (.i2l, 1) := by decide +kernel
theorem dX9_fill_7 : decode cX9_fill 7 = .ok (.lconst 0, 1) := by decide +kernel
theorem dX9_fill_8 : decode cX9_fill 8 = .ok (.ldc2_w 225, 3) := by decide +kernel
theorem dX9_fill_11 : decode cX9_fill 11 = .ok (.invokestatic 128, 3) := by decide +kernel
theorem dX9_fill_14 : decode cX9_fill 14 = .ok (.ifCond .ne 6, 3) := by decide +kernel
theorem dX9_fill_17 : decode cX9_fill 17 = .ok (.bipush (-3), 2) := by decide +kernel
theorem dX9_fill_19 : decode cX9_fill 19 = .ok (.ireturn, 1) := by decide +kernel
theorem dX9_fill_20 : decode cX9_fill 20 = .ok (.aload_n 0, 1) := by decide +kernel
theorem dX9_fill_21 : decode cX9_fill 21 = .ok (.getfield 13, 3) := by decide +kernel
theorem dX9_fill_24 : decode cX9_fill 24 = .ok (.bipush 6, 2) := by decide +kernel
theorem dX9_fill_26 : decode cX9_fill 26 = .ok (.aload_n 0, 1) := by decide +kernel
theorem dX9_fill_27 : decode cX9_fill 27 = .ok (.getfield 13, 3) := by decide +kernel
theorem dX9_fill_30 : decode cX9_fill 30 = .ok (.bipush 6, 2) := by decide +kernel
theorem dX9_fill_32 : decode cX9_fill 32 = .ok (.iaload, 1) := by decide +kernel
theorem dX9_fill_33 : decode cX9_fill 33 = .ok (.iload_n 1, 1) := by decide +kernel
theorem dX9_fill_34 : decode cX9_fill 34 = .ok (.iadd, 1) := by decide +kernel
theorem dX9_fill_35 : decode cX9_fill 35 = .ok (.sipush 999, 3) := by decide +kernel
theorem dX9_fill_38 : decode cX9_fill 38 = .ok (.if_icmp .le 9, 3) := by decide +kernel
theorem dX9_fill_41 : decode cX9_fill 41 = .ok (.sipush 999, 3) := by decide +kernel
theorem dX9_fill_44 : decode cX9_fill 44 = .ok (.goto 12, 3) := by decide +kernel
theorem dX9_fill_47 : decode cX9_fill 47 = .ok (.aload_n 0, 1) := by decide +kernel
theorem dX9_fill_48 : decode cX9_fill 48 = .ok (.getfield 13, 3) := by decide +kernel
theorem dX9_fill_51 : decode cX9_fill 51 = .ok (.bipush 6, 2) := by decide +kernel
theorem dX9_fill_53 : decode cX9_fill 53 = .ok (.iaload, 1) := by decide +kernel
theorem dX9_fill_54 : decode cX9_fill 54 = .ok (.iload_n 1, 1) := by decide +kernel
theorem dX9_fill_55 : decode cX9_fill 55 = .ok (.iadd, 1) := by decide +kernel
theorem dX9_fill_56 : decode cX9_fill 56 = .ok (.iastore, 1) := by decide +kernel
theorem dX9_fill_57 : decode cX9_fill 57 = .ok (.aload_n 0, 1) := by decide +kernel
theorem dX9_fill_58 : decode cX9_fill 58 = .ok (.getfield 13, 3) := by decide +kernel
theorem dX9_fill_61 : decode cX9_fill 61 = .ok (.bipush 6, 2) := by decide +kernel
theorem dX9_fill_63 : decode cX9_fill 63 = .ok (.iaload, 1) := by decide +kernel
theorem dX9_fill_64 : decode cX9_fill 64 = .ok (.ireturn, 1) := by decide +kernel
theorem dX9_draw_0 : decode cX9_draw 0 = .ok (.aload_n 0, 1) := by decide +kernel
theorem dX9_draw_1 : decode cX9_draw 1 = .ok (.ldc 227, 2) := by decide +kernel
theorem dX9_draw_3 : decode cX9_draw 3 = .ok (.aload_n 0, 1) := by decide +kernel
theorem dX9_draw_4 : decode cX9_draw 4 = .ok (.getfield 228, 3) := by decide +kernel
theorem dX9_draw_7 : decode cX9_draw 7 = .ok (.imul, 1) := by decide +kernel
theorem dX9_draw_8 : decode cX9_draw 8 = .ok (.sipush 12345, 3) := by decide +kernel
theorem dX9_draw_11 : decode cX9_draw 11 = .ok (.iadd, 1) := by decide +kernel
theorem dX9_draw_12 : decode cX9_draw 12 = .ok (.putfield 228, 3) := by decide +kernel
theorem dX9_draw_15 : decode cX9_draw 15 = .ok (.aload_n 0, 1) := by decide +kernel
theorem dX9_draw_16 : decode cX9_draw 16 = .ok (.getfield 228, 3) := by decide +kernel
theorem dX9_draw_19 : decode cX9_draw 19 = .ok (.bipush 16, 2) := by decide +kernel
theorem dX9_draw_21 : decode cX9_draw 21 = .ok (.iushr, 1) := by decide +kernel
theorem dX9_draw_22 : decode cX9_draw 22 = .ok (.iload_n 1, 1) := by decide +kernel
theorem dX9_draw_23 : decode cX9_draw 23 = .ok (.irem, 1) := by decide +kernel
theorem dX9_draw_24 : decode cX9_draw 24 = .ok (.ireturn, 1) := by decide +kernel
theorem dX9_night_0 : decode cX9_night 0 = .ok (.aload_n 0, 1) := by decide +kernel
theorem dX9_night_1 : decode cX9_night 1 = .ok (.iconst 0, 1) := by decide +kernel
theorem dX9_night_2 : decode cX9_night 2 = .ok (.putfield 1, 3) := by decide +kernel
theorem dX9_night_5 : decode cX9_night 5 = .ok (.iload_n 2, 1) := by decide +kernel
theorem dX9_night_6 : decode cX9_night 6 = .ok (.i2l, 1) := by decide +kernel
theorem dX9_night_7 : decode cX9_night 7 = .ok (.lconst 1, 1) := by decide +kernel
theorem dX9_night_8 : decode cX9_night 8 = .ok (.ldc2_w 231, 3) := by decide +kernel
theorem dX9_night_11 : decode cX9_night 11 = .ok (.invokestatic 128, 3) := by decide +kernel
theorem dX9_night_14 : decode cX9_night 14 = .ok (.ifCond .ne 6, 3) := by decide +kernel
theorem dX9_night_17 : decode cX9_night 17 = .ok (.bipush (-3), 2) := by decide +kernel
theorem dX9_night_19 : decode cX9_night 19 = .ok (.ireturn, 1) := by decide +kernel
theorem dX9_night_20 : decode cX9_night 20 = .ok (.aload_n 0, 1) := by decide +kernel
theorem dX9_night_21 : decode cX9_night 21 = .ok (.getfield 13, 3) := by decide +kernel
theorem dX9_night_24 : decode cX9_night 24 = .ok (.iconst 0, 1) := by decide +kernel
theorem dX9_night_25 : decode cX9_night 25 = .ok (.iaload, 1) := by decide +kernel
theorem dX9_night_26 : decode cX9_night 26 = .ok (.ifCond .eq 27, 3) := by decide +kernel
theorem dX9_night_29 : decode cX9_night 29 = .ok (.aload_n 0, 1) := by decide +kernel
theorem dX9_night_30 : decode cX9_night 30 = .ok (.getfield 13, 3) := by decide +kernel
theorem dX9_night_33 : decode cX9_night 33 = .ok (.bipush 6, 2) := by decide +kernel
theorem dX9_night_35 : decode cX9_night 35 = .ok (.iaload, 1) := by decide +kernel
theorem dX9_night_36 : decode cX9_night 36 = .ok (.ifCond .eq 17, 3) := by decide +kernel
theorem dX9_night_39 : decode cX9_night 39 = .ok (.aload_n 0, 1) := by decide +kernel
theorem dX9_night_40 : decode cX9_night 40 = .ok (.getfield 13, 3) := by decide +kernel
theorem dX9_night_43 : decode cX9_night 43 = .ok (.iconst 1, 1) := by decide +kernel
theorem dX9_night_44 : decode cX9_night 44 = .ok (.iaload, 1) := by decide +kernel
theorem dX9_night_45 : decode cX9_night 45 = .ok (.iload_n 2, 1) := by decide +kernel
theorem dX9_night_46 : decode cX9_night 46 = .ok (.iadd, 1) := by decide +kernel
theorem dX9_night_47 : decode cX9_night 47 = .ok (.sipush 9999, 3) := by decide +kernel
theorem dX9_night_50 : decode cX9_night 50 = .ok (.if_icmp .le 6, 3) := by decide +kernel
theorem dX9_night_53 : decode cX9_night 53 = .ok (.bipush (-5), 2) := by decide +kernel
theorem dX9_night_55 : decode cX9_night 55 = .ok (.ireturn, 1) := by decide +kernel
theorem dX9_night_56 : decode cX9_night 56 = .ok (.aload_n 0, 1) := by decide +kernel
theorem dX9_night_57 : decode cX9_night 57 = .ok (.iload_n 1, 1) := by decide +kernel
theorem dX9_night_58 : decode cX9_night 58 = .ok (.putfield 228, 3) := by decide +kernel
theorem dX9_night_61 : decode cX9_night 61 = .ok (.iconst 0, 1) := by decide +kernel
theorem dX9_night_62 : decode cX9_night 62 = .ok (.istore_n 3, 1) := by decide +kernel
theorem dX9_night_63 : decode cX9_night 63 = .ok (.iconst 0, 1) := by decide +kernel
theorem dX9_night_64 : decode cX9_night 64 = .ok (.istore 4, 2) := by decide +kernel
theorem dX9_night_66 : decode cX9_night 66 = .ok (.iload 4, 2) := by decide +kernel
theorem dX9_night_68 : decode cX9_night 68 = .ok (.iload_n 2, 1) := by decide +kernel
theorem dX9_night_69 : decode cX9_night 69 = .ok (.if_icmp .ge 74, 3) := by decide +kernel
theorem dX9_night_72 : decode cX9_night 72 = .ok (.aload_n 0, 1) := by decide +kernel
theorem dX9_night_73 : decode cX9_night 73 = .ok (.getfield 13, 3) := by decide +kernel
theorem dX9_night_76 : decode cX9_night 76 = .ok (.bipush 6, 2) := by decide +kernel
theorem dX9_night_78 : decode cX9_night 78 = .ok (.iaload, 1) := by decide +kernel
theorem dX9_night_79 : decode cX9_night 79 = .ok (.ifCond .le 64, 3) := by decide +kernel
theorem dX9_night_82 : decode cX9_night 82 = .ok (.aload_n 0, 1) := by decide +kernel
theorem dX9_night_83 : decode cX9_night 83 = .ok (.iconst 3, 1) := by decide +kernel
theorem dX9_night_84 : decode cX9_night 84 = .ok (.invokevirtual 233, 3) := by decide +kernel
theorem dX9_night_87 : decode cX9_night 87 = .ok (.istore 5, 2) := by decide +kernel
theorem dX9_night_89 : decode cX9_night 89 = .ok (.aload_n 0, 1) := by decide +kernel
theorem dX9_night_90 : decode cX9_night 90 = .ok (.bipush 100, 2) := by decide +kernel
theorem dX9_night_92 : decode cX9_night 92 = .ok (.invokevirtual 233, 3) := by decide +kernel
theorem dX9_night_95 : decode cX9_night 95 = .ok (.aload_n 0, 1) := by decide +kernel
theorem dX9_night_96 : decode cX9_night 96 = .ok (.getfield 13, 3) := by decide +kernel
theorem dX9_night_99 : decode cX9_night 99 = .ok (.bipush 7, 2) := by decide +kernel
theorem dX9_night_101 : decode cX9_night 101 = .ok (.iaload, 1) := by decide +kernel
theorem dX9_night_102 : decode cX9_night 102 = .ok (.if_icmp .ge 7, 3) := by decide +kernel
theorem dX9_night_105 : decode cX9_night 105 = .ok (.iconst 1, 1) := by decide +kernel
theorem dX9_night_106 : decode cX9_night 106 = .ok (.goto 4, 3) := by decide +kernel
theorem dX9_night_109 : decode cX9_night 109 = .ok (.iconst 0, 1) := by decide +kernel
theorem dX9_night_110 : decode cX9_night 110 = .ok (.istore 6, 2) := by decide +kernel
theorem dX9_night_112 : decode cX9_night 112 = .ok (.iload_n 3, 1) := by decide +kernel
theorem dX9_night_113 : decode cX9_night 113 = .ok (.aload_n 0, 1) := by decide +kernel
theorem dX9_night_114 : decode cX9_night 114 = .ok (.aload_n 0, 1) := by decide +kernel
theorem dX9_night_115 : decode cX9_night 115 = .ok (.iload 5, 2) := by decide +kernel
theorem dX9_night_117 : decode cX9_night 117 = .ok (.i2l, 1) := by decide +kernel
theorem dX9_night_118 : decode cX9_night 118 = .ok (.invokevirtual 202, 3) := by decide +kernel
theorem dX9_night_121 : decode cX9_night 121 = .ok (.ifCond .ne 8, 3) := by decide +kernel
theorem dX9_night_124 : decode cX9_night 124 = .ok (.iload 5, 2) := by decide +kernel
theorem dX9_night_126 : decode cX9_night 126 = .ok (.goto 4, 3) := by decide +kernel
theorem dX9_night_129 : decode cX9_night 129 = .ok (.iconst 0, 1) := by decide +kernel
theorem dX9_night_130 : decode cX9_night 130 = .ok (.iload 6, 2) := by decide +kernel
theorem dX9_night_132 : decode cX9_night 132 = .ok (.invokevirtual 206, 3) := by decide +kernel
theorem dX9_night_135 : decode cX9_night 135 = .ok (.iadd, 1) := by decide +kernel
theorem dX9_night_136 : decode cX9_night 136 = .ok (.istore_n 3, 1) := by decide +kernel
theorem dX9_night_137 : decode cX9_night 137 = .ok (.iinc 4 1, 3) := by decide +kernel
theorem dX9_night_140 : decode cX9_night 140 = .ok (.goto (-74), 3) := by decide +kernel
theorem dX9_night_143 : decode cX9_night 143 = .ok (.iload_n 3, 1) := by decide +kernel
theorem dX9_night_144 : decode cX9_night 144 = .ok (.ireturn, 1) := by decide +kernel
theorem dX9_walk_0 : decode cX9_walk 0 = .ok (.aload_n 0, 1) := by decide +kernel
theorem dX9_walk_1 : decode cX9_walk 1 = .ok (.iconst 0, 1) := by decide +kernel
theorem dX9_walk_2 : decode cX9_walk 2 = .ok (.putfield 1, 3) := by decide +kernel
theorem dX9_walk_5 : decode cX9_walk 5 = .ok (.aload_n 0, 1) := by decide +kernel
theorem dX9_walk_6 : decode cX9_walk 6 = .ok (.iload_n 1, 1) := by decide +kernel
theorem dX9_walk_7 : decode cX9_walk 7 = .ok (.invokevirtual 172, 3) := by decide +kernel
theorem dX9_walk_10 : decode cX9_walk 10 = .ok (.ifCond .eq 11, 3) := by decide +kernel
theorem dX9_walk_13 : decode cX9_walk 13 = .ok (.aload_n 0, 1) := by decide +kernel
theorem dX9_walk_14 : decode cX9_walk 14 = .ok (.iload_n 2, 1) := by decide +kernel
theorem dX9_walk_15 : decode cX9_walk 15 = .ok (.invokevirtual 172, 3) := by decide +kernel
theorem dX9_walk_18 : decode cX9_walk 18 = .ok (.ifCond .ne 6, 3) := by decide +kernel
theorem dX9_walk_21 : decode cX9_walk 21 = .ok (.bipush (-2), 2) := by decide +kernel
theorem dX9_walk_23 : decode cX9_walk 23 = .ok (.ireturn, 1) := by decide +kernel
theorem dX9_walk_24 : decode cX9_walk 24 = .ok (.iload_n 3, 1) := by decide +kernel
theorem dX9_walk_25 : decode cX9_walk 25 = .ok (.i2l, 1) := by decide +kernel
theorem dX9_walk_26 : decode cX9_walk 26 = .ok (.lconst 0, 1) := by decide +kernel
theorem dX9_walk_27 : decode cX9_walk 27 = .ok (.aload_n 0, 1) := by decide +kernel
theorem dX9_walk_28 : decode cX9_walk 28 = .ok (.getfield 13, 3) := by decide +kernel
theorem dX9_walk_31 : decode cX9_walk 31 = .ok (.bipush 32, 2) := by decide +kernel
theorem dX9_walk_33 : decode cX9_walk 33 = .ok (.iload_n 1, 1) := by decide +kernel
theorem dX9_walk_34 : decode cX9_walk 34 = .ok (.iadd, 1) := by decide +kernel
theorem dX9_walk_35 : decode cX9_walk 35 = .ok (.iaload, 1) := by decide +kernel
theorem dX9_walk_36 : decode cX9_walk 36 = .ok (.i2l, 1) := by decide +kernel
theorem dX9_walk_37 : decode cX9_walk 37 = .ok (.invokestatic 128, 3) := by decide +kernel
theorem dX9_walk_40 : decode cX9_walk 40 = .ok (.ifCond .ne 6, 3) := by decide +kernel
theorem dX9_walk_43 : decode cX9_walk 43 = .ok (.bipush (-3), 2) := by decide +kernel
theorem dX9_walk_45 : decode cX9_walk 45 = .ok (.ireturn, 1) := by decide +kernel
theorem dX9_walk_46 : decode cX9_walk 46 = .ok (.iload_n 1, 1) := by decide +kernel
theorem dX9_walk_47 : decode cX9_walk 47 = .ok (.iload_n 2, 1) := by decide +kernel
theorem dX9_walk_48 : decode cX9_walk 48 = .ok (.if_icmp .eq 22, 3) := by decide +kernel
theorem dX9_walk_51 : decode cX9_walk 51 = .ok (.aload_n 0, 1) := by decide +kernel
theorem dX9_walk_52 : decode cX9_walk 52 = .ok (.getfield 13, 3) := by decide +kernel
