theorem dX9_height_5 : decode cX9_height 5 = .ok (.iload_n 1, 1) := by decide +kernel
theorem dX9_height_6 : decode cX9_height 6 = .ok (.i2l, 1) := by decide +kernel
theorem dX9_height_7 : decode cX9_height 7 = .ok (.lconst 1, 1) := by decide +kernel
theorem dX9_height_8 : decode cX9_height 8 = .ok (.ldc2_w 194, 3) := by decide +kernel
theorem dX9_height_11 : decode cX9_height 11 = .ok (.invokestatic 128, 3) := by decide +kernel
theorem dX9_height_14 : decode cX9_height 14 = .ok (.ifCond .ne 6, 3) := by decide +kernel
theorem dX9_height_17 : decode cX9_height 17 = .ok (.bipush (-3), 2) := by decide +kernel
theorem dX9_height_19 : decode cX9_height 19 = .ok (.ireturn, 1) := by decide +kernel
theorem dX9_height_20 : decode cX9_height 20 = .ok (.aload_n 0, 1) := by decide +kernel
theorem dX9_height_21 : decode cX9_height 21 = .ok (.getfield 13, 3) := by decide +kernel
theorem dX9_height_24 : decode cX9_height 24 = .ok (.iconst 3, 1) := by decide +kernel
theorem dX9_height_25 : decode cX9_height 25 = .ok (.iaload, 1) := by decide +kernel
theorem dX9_height_26 : decode cX9_height 26 = .ok (.istore_n 2, 1) := by decide +kernel
theorem dX9_height_27 : decode cX9_height 27 = .ok (.aload_n 0, 1) := by decide +kernel
theorem dX9_height_28 : decode cX9_height 28 = .ok (.getfield 13, 3) := by decide +kernel
theorem dX9_height_31 : decode cX9_height 31 = .ok (.iconst 3, 1) := by decide +kernel
theorem dX9_height_32 : decode cX9_height 32 = .ok (.iload_n 1, 1) := by decide +kernel
theorem dX9_height_33 : decode cX9_height 33 = .ok (.iastore, 1) := by decide +kernel
theorem dX9_height_34 : decode cX9_height 34 = .ok (.iload_n 2, 1) := by decide +kernel
theorem dX9_height_35 : decode cX9_height 35 = .ok (.ireturn, 1) := by decide +kernel
theorem dX9_fell_0 : decode cX9_fell 0 = .ok (.aload_n 0, 1) := by decide +kernel
theorem dX9_fell_1 : decode cX9_fell 1 = .ok (.iconst 0, 1) := by decide +kernel
theorem dX9_fell_2 : decode cX9_fell 2 = .ok (.putfield 1, 3) := by decide +kernel
theorem dX9_fell_5 : decode cX9_fell 5 = .ok (.aload_n 0, 1) := by decide +kernel
theorem dX9_fell_6 : decode cX9_fell 6 = .ok (.iload_n 1, 1) := by decide +kernel
theorem dX9_fell_7 : decode cX9_fell 7 = .ok (.invokevirtual 172, 3) := by decide +kernel
theorem dX9_fell_10 : decode cX9_fell 10 = .ok (.ifCond .ne 6, 3) := by decide +kernel
theorem dX9_fell_13 : decode cX9_fell 13 = .ok (.bipush (-2), 2) := by decide +kernel
theorem dX9_fell_15 : decode cX9_fell 15 = .ok (.ireturn, 1) := by decide +kernel
theorem dX9_fell_16 : decode cX9_fell 16 = .ok (.aload_n 0, 1) := by decide +kernel
theorem dX9_fell_17 : decode cX9_fell 17 = .ok (.getfield 13, 3) := by decide +kernel
theorem dX9_fell_20 : decode cX9_fell 20 = .ok (.bipush 48, 2) := by decide +kernel
theorem dX9_fell_22 : decode cX9_fell 22 = .ok (.iload_n 1, 1) := by decide +kernel
theorem dX9_fell_23 : decode cX9_fell 23 = .ok (.iadd, 1) := by decide +kernel
theorem dX9_fell_24 : decode cX9_fell 24 = .ok (.iaload, 1) := by decide +kernel
theorem dX9_fell_25 : decode cX9_fell 25 = .ok (.ifCond .ne 6, 3) := by decide +kernel
theorem dX9_fell_28 : decode cX9_fell 28 = .ok (.bipush (-5), 2) := by decide +kernel
theorem dX9_fell_30 : decode cX9_fell 30 = .ok (.ireturn, 1) := by decide +kernel
theorem dX9_fell_31 : decode cX9_fell 31 = .ok (.aload_n 0, 1) := by decide +kernel
theorem dX9_fell_32 : decode cX9_fell 32 = .ok (.getfield 13, 3) := by decide +kernel
theorem dX9_fell_35 : decode cX9_fell 35 = .ok (.bipush 48, 2) := by decide +kernel
theorem dX9_fell_37 : decode cX9_fell 37 = .ok (.iload_n 1, 1) := by decide +kernel
theorem dX9_fell_38 : decode cX9_fell 38 = .ok (.iadd, 1) := by decide +kernel
theorem dX9_fell_39 : decode cX9_fell 39 = .ok (.iaload, 1) := by decide +kernel
theorem dX9_fell_40 : decode cX9_fell 40 = .ok (.istore_n 2, 1) := by decide +kernel
theorem dX9_fell_41 : decode cX9_fell 41 = .ok (.aload_n 0, 1) := by decide +kernel
theorem dX9_fell_42 : decode cX9_fell 42 = .ok (.getfield 13, 3) := by decide +kernel
theorem dX9_fell_45 : decode cX9_fell 45 = .ok (.bipush 48, 2) := by decide +kernel
theorem dX9_fell_47 : decode cX9_fell 47 = .ok (.iload_n 1, 1) := by decide +kernel
theorem dX9_fell_48 : decode cX9_fell 48 = .ok (.iadd, 1) := by decide +kernel
theorem dX9_fell_49 : decode cX9_fell 49 = .ok (.iconst 0, 1) := by decide +kernel
theorem dX9_fell_50 : decode cX9_fell 50 = .ok (.iastore, 1) := by decide +kernel
theorem dX9_fell_51 : decode cX9_fell 51 = .ok (.iload_n 2, 1) := by decide +kernel
theorem dX9_fell_52 : decode cX9_fell 52 = .ok (.ireturn, 1) := by decide +kernel
theorem dX9_then_0 : decode cX9_then 0 = .ok (.lload_n 1, 1) := by decide +kernel
theorem dX9_then_1 : decode cX9_then 1 = .ok (.lconst 1, 1) := by decide +kernel
theorem dX9_then_2 : decode cX9_then 2 = .ok (.lcmp, 1) := by decide +kernel
theorem dX9_then_3 : decode cX9_then 3 = .ok (.ifCond .ne 9, 3) := by decide +kernel
theorem dX9_then_6 : decode cX9_then 6 = .ok (.iload_n 0, 1) := by decide +kernel
theorem dX9_then_7 : decode cX9_then 7 = .ok (.iconst 1, 1) := by decide +kernel
theorem dX9_then_8 : decode cX9_then 8 = .ok (.isub, 1) := by decide +kernel
theorem dX9_then_9 : decode cX9_then 9 = .ok (.goto 18, 3) := by decide +kernel
theorem dX9_then_12 : decode cX9_then 12 = .ok (.lload_n 1, 1) := by decide +kernel
theorem dX9_then_13 : decode cX9_then 13 = .ok (.ldc2_w 196, 3) := by decide +kernel
theorem dX9_then_16 : decode cX9_then 16 = .ok (.lcmp, 1) := by decide +kernel
theorem dX9_then_17 : decode cX9_then 17 = .ok (.ifCond .ne 9, 3) := by decide +kernel
theorem dX9_then_20 : decode cX9_then 20 = .ok (.iload_n 0, 1) := by decide +kernel
theorem dX9_then_21 : decode cX9_then 21 = .ok (.iconst 1, 1) := by decide +kernel
theorem dX9_then_22 : decode cX9_then 22 = .ok (.iadd, 1) := by decide +kernel
theorem dX9_then_23 : decode cX9_then 23 = .ok (.goto 4, 3) := by decide +kernel
theorem dX9_then_26 : decode cX9_then 26 = .ok (.iload_n 0, 1) := by decide +kernel
theorem dX9_then_27 : decode cX9_then 27 = .ok (.ireturn, 1) := by decide +kernel
theorem dX9_refuses_0 : decode cX9_refuses 0 = .ok (.lload_n 1, 1) := by decide +kernel
theorem dX9_refuses_1 : decode cX9_refuses 1 = .ok (.lconst 0, 1) := by decide +kernel
theorem dX9_refuses_2 : decode cX9_refuses 2 = .ok (.ldc2_w 196, 3) := by decide +kernel
theorem dX9_refuses_5 : decode cX9_refuses 5 = .ok (.invokestatic 128, 3) := by decide +kernel
theorem dX9_refuses_8 : decode cX9_refuses 8 = .ok (.ifCond .eq 20, 3) := by decide +kernel
theorem dX9_refuses_11 : decode cX9_refuses 11 = .ok (.aload_n 0, 1) := by decide +kernel
theorem dX9_refuses_12 : decode cX9_refuses 12 = .ok (.aload_n 0, 1) := by decide +kernel
theorem dX9_refuses_13 : decode cX9_refuses 13 = .ok (.getfield 13, 3) := by decide +kernel
theorem dX9_refuses_16 : decode cX9_refuses 16 = .ok (.iconst 2, 1) := by decide +kernel
theorem dX9_refuses_17 : decode cX9_refuses 17 = .ok (.iaload, 1) := by decide +kernel
theorem dX9_refuses_18 : decode cX9_refuses 18 = .ok (.lload_n 1, 1) := by decide +kernel
theorem dX9_refuses_19 : decode cX9_refuses 19 = .ok (.invokestatic 198, 3) := by decide +kernel
theorem dX9_refuses_22 : decode cX9_refuses 22 = .ok (.invokevirtual 172, 3) := by decide +kernel
theorem dX9_refuses_25 : decode cX9_refuses 25 = .ok (.ifCond .ne 5, 3) := by decide +kernel
theorem dX9_refuses_28 : decode cX9_refuses 28 = .ok (.iconst 1, 1) := by decide +kernel
theorem dX9_refuses_29 : decode cX9_refuses 29 = .ok (.ireturn, 1) := by decide +kernel
theorem dX9_refuses_30 : decode cX9_refuses 30 = .ok (.aload_n 0, 1) := by decide +kernel
theorem dX9_refuses_31 : decode cX9_refuses 31 = .ok (.getfield 13, 3) := by decide +kernel
theorem dX9_refuses_34 : decode cX9_refuses 34 = .ok (.bipush 6, 2) := by decide +kernel
theorem dX9_refuses_36 : decode cX9_refuses 36 = .ok (.iaload, 1) := by decide +kernel
theorem dX9_refuses_37 : decode cX9_refuses 37 = .ok (.ifCond .ne 7, 3) := by decide +kernel
theorem dX9_refuses_40 : decode cX9_refuses 40 = .ok (.iconst 2, 1) := by decide +kernel
theorem dX9_refuses_41 : decode cX9_refuses 41 = .ok (.goto 20, 3) := by decide +kernel
theorem dX9_refuses_44 : decode cX9_refuses 44 = .ok (.aload_n 0, 1) := by decide +kernel
theorem dX9_refuses_45 : decode cX9_refuses 45 = .ok (.getfield 13, 3) := by decide +kernel
theorem dX9_refuses_48 : decode cX9_refuses 48 = .ok (.iconst 1, 1) := by decide +kernel
theorem dX9_refuses_49 : decode cX9_refuses 49 = .ok (.iaload, 1) := by decide +kernel
theorem dX9_refuses_50 : decode cX9_refuses 50 = .ok (.sipush 9999, 3) := by decide +kernel
theorem dX9_refuses_53 : decode cX9_refuses 53 = .ok (.if_icmp .ne 7, 3) := by decide +kernel
theorem dX9_refuses_56 : decode cX9_refuses 56 = .ok (.iconst 3, 1) := by decide +kernel
theorem dX9_refuses_57 : decode cX9_refuses 57 = .ok (.goto 4, 3) := by decide +kernel
theorem dX9_refuses_60 : decode cX9_refuses 60 = .ok (.iconst 0, 1) := by decide +kernel
theorem dX9_refuses_61 : decode cX9_refuses 61 = .ok (.ireturn, 1) := by decide +kernel
theorem dX9_goes_0 : decode cX9_goes 0 = .ok (.aload_n 0, 1) := by decide +kernel
theorem dX9_goes_1 : decode cX9_goes 1 = .ok (.getfield 13, 3) := by decide +kernel
theorem dX9_goes_4 : decode cX9_goes 4 = .ok (.iconst 2, 1) := by decide +kernel
theorem dX9_goes_5 : decode cX9_goes 5 = .ok (.aload_n 0, 1) := by decide +kernel
theorem dX9_goes_6 : decode cX9_goes 6 = .ok (.getfield 13, 3) := by decide +kernel
theorem dX9_goes_9 : decode cX9_goes 9 = .ok (.iconst 2, 1) := by decide +kernel
theorem dX9_goes_10 : decode cX9_goes 10 = .ok (.iaload, 1) := by decide +kernel
theorem dX9_goes_11 : decode cX9_goes 11 = .ok (.iload_n 1, 1) := by decide +kernel
theorem dX9_goes_12 : decode cX9_goes 12 = .ok (.i2l, 1) := by decide +kernel
theorem dX9_goes_13 : decode cX9_goes 13 = .ok (.invokestatic 198, 3) := by decide +kernel
theorem dX9_goes_16 : decode cX9_goes 16 = .ok (.iastore, 1) := by decide +kernel
theorem dX9_goes_17 : decode cX9_goes 17 = .ok (.aload_n 0, 1) := by decide +kernel
theorem dX9_goes_18 : decode cX9_goes 18 = .ok (.getfield 13, 3) := by decide +kernel
theorem dX9_goes_21 : decode cX9_goes 21 = .ok (.bipush 6, 2) := by decide +kernel
theorem dX9_goes_23 : decode cX9_goes 23 = .ok (.dup2, 1) := by decide +kernel
theorem dX9_goes_24 : decode cX9_goes 24 = .ok (.iaload, 1) := by decide +kernel
theorem dX9_goes_25 : decode cX9_goes 25 = .ok (.iconst 1, 1) := by decide +kernel
theorem dX9_goes_26 : decode cX9_goes 26 = .ok (.isub, 1) := by decide +kernel
theorem dX9_goes_27 : decode cX9_goes 27 = .ok (.iastore, 1) := by decide +kernel
theorem dX9_goes_28 : decode cX9_goes 28 = .ok (.aload_n 0, 1) := by decide +kernel
theorem dX9_goes_29 : decode cX9_goes 29 = .ok (.getfield 13, 3) := by decide +kernel
theorem dX9_goes_32 : decode cX9_goes 32 = .ok (.iconst 1, 1) := by decide +kernel
theorem dX9_goes_33 : decode cX9_goes 33 = .ok (.dup2, 1) := by decide +kernel
theorem dX9_goes_34 : decode cX9_goes 34 = .ok (.iaload, 1) := by decide +kernel
theorem dX9_goes_35 : decode cX9_goes 35 = .ok (.iconst 1, 1) := by decide +kernel
theorem dX9_goes_36 : decode cX9_goes 36 = .ok (.iadd, 1) := by decide +kernel
theorem dX9_goes_37 : decode cX9_goes 37 = .ok (.iastore, 1) := by decide +kernel
theorem dX9_goes_38 : decode cX9_goes 38 = .ok (.iconst 0, 1) := by decide +kernel
theorem dX9_goes_39 : decode cX9_goes 39 = .ok (.istore_n 3, 1) := by decide +kernel
theorem dX9_goes_40 : decode cX9_goes 40 = .ok (.iconst 0, 1) := by decide +kernel
theorem dX9_goes_41 : decode cX9_goes 41 = .ok (.istore 4, 2) := by decide +kernel
theorem dX9_goes_43 : decode cX9_goes 43 = .ok (.iload 4, 2) := by decide +kernel
theorem dX9_goes_45 : decode cX9_goes 45 = .ok (.aload_n 0, 1) := by decide +kernel
theorem dX9_goes_46 : decode cX9_goes 46 = .ok (.getfield 13, 3) := by decide +kernel
theorem dX9_goes_49 : decode cX9_goes 49 = .ok (.iconst 0, 1) := by decide +kernel
theorem dX9_goes_50 : decode cX9_goes 50 = .ok (.iaload, 1) := by decide +kernel
theorem dX9_goes_51 : decode cX9_goes 51 = .ok (.if_icmp .ge 146, 3) := by decide +kernel
theorem dX9_goes_54 : decode cX9_goes 54 = .ok (.iload_n 2, 1) := by decide +kernel
theorem dX9_goes_55 : decode cX9_goes 55 = .ok (.ifCond .ne 142, 3) := by decide +kernel
theorem dX9_goes_58 : decode cX9_goes 58 = .ok (.aload_n 0, 1) := by decide +kernel
theorem dX9_goes_59 : decode cX9_goes 59 = .ok (.aload_n 0, 1) := by decide +kernel
theorem dX9_goes_60 : decode cX9_goes 60 = .ok (.getfield 13, 3) := by decide +kernel
theorem dX9_goes_63 : decode cX9_goes 63 = .ok (.iconst 2, 1) := by decide +kernel
theorem dX9_goes_64 : decode cX9_goes 64 = .ok (.iaload, 1) := by decide +kernel
theorem dX9_goes_65 : decode cX9_goes 65 = .ok (.iload 4, 2) := by decide +kernel
theorem dX9_goes_67 : decode cX9_goes 67 = .ok (.invokevirtual 177, 3) := by decide +kernel
theorem dX9_goes_70 : decode cX9_goes 70 = .ok (.istore 5, 2) := by decide +kernel
theorem dX9_goes_72 : decode cX9_goes 72 = .ok (.aload_n 0, 1) := by decide +kernel
theorem dX9_goes_73 : decode cX9_goes 73 = .ok (.getfield 13, 3) := by decide +kernel
theorem dX9_goes_76 : decode cX9_goes 76 = .ok (.bipush 32, 2) := by decide +kernel
theorem dX9_goes_78 : decode cX9_goes 78 = .ok (.iload 4, 2) := by decide +kernel
theorem dX9_goes_80 : decode cX9_goes 80 = .ok (.iadd, 1) := by decide +kernel
theorem dX9_goes_81 : decode cX9_goes 81 = .ok (.iaload, 1) := by decide +kernel
theorem dX9_goes_82 : decode cX9_goes 82 = .ok (.iload 5, 2) := by decide +kernel
theorem dX9_goes_84 : decode cX9_goes 84 = .ok (.if_icmp .ge 16, 3) := by decide +kernel
theorem dX9_goes_87 : decode cX9_goes 87 = .ok (.aload_n 0, 1) := by decide +kernel
theorem dX9_goes_88 : decode cX9_goes 88 = .ok (.getfield 13, 3) := by decide +kernel
theorem dX9_goes_91 : decode cX9_goes 91 = .ok (.bipush 32, 2) := by decide +kernel
theorem dX9_goes_93 : decode cX9_goes 93 = .ok (.iload 4, 2) := by decide +kernel
theorem dX9_goes_95 : decode cX9_goes 95 = .ok (.iadd, 1) := by decide +kernel
theorem dX9_goes_96 : decode cX9_goes 96 = .ok (.iaload, 1) := by decide +kernel
theorem dX9_goes_97 : decode cX9_goes 97 = .ok (.goto 5, 3) := by decide +kernel
theorem dX9_goes_100 : decode cX9_goes 100 = .ok (.iload 5, 2) := by decide +kernel
theorem dX9_goes_102 : decode cX9_goes 102 = .ok (.istore 5, 2) := by decide +kernel
theorem dX9_goes_104 : decode cX9_goes 104 = .ok (.aload_n 0, 1) := by decide +kernel
theorem dX9_goes_105 : decode cX9_goes 105 = .ok (.getfield 13, 3) := by decide +kernel
theorem dX9_goes_108 : decode cX9_goes 108 = .ok (.bipush 16, 2) := by decide +kernel
theorem dX9_goes_110 : decode cX9_goes 110 = .ok (.iload 4, 2) := by decide +kernel
theorem dX9_goes_112 : decode cX9_goes 112 = .ok (.iadd, 1) := by decide +kernel
theorem dX9_goes_113 : decode cX9_goes 113 = .ok (.iaload, 1) := by decide +kernel
theorem dX9_goes_114 : decode cX9_goes 114 = .ok (.iload 5, 2) := by decide +kernel
theorem dX9_goes_116 : decode cX9_goes 116 = .ok (.if_icmp .ge 16, 3) := by decide +kernel
theorem dX9_goes_119 : decode cX9_goes 119 = .ok (.aload_n 0, 1) := by decide +kernel
theorem dX9_goes_120 : decode cX9_goes 120 = .ok (.getfield 13, 3) := by decide +kernel
theorem dX9_goes_123 : decode cX9_goes 123 = .ok (.bipush 16, 2) := by decide +kernel
theorem dX9_goes_125 : decode cX9_goes 125 = .ok (.iload 4, 2) := by decide +kernel
theorem dX9_goes_127 : decode cX9_goes 127 = .ok (.iadd, 1) := by decide +kernel
theorem dX9_goes_128 : decode cX9_goes 128 = .ok (.iaload, 1) := by decide +kernel
theorem dX9_goes_129 : decode cX9_goes 129 = .ok (.goto 5, 3) := by decide +kernel
theorem dX9_goes_132 : decode cX9_goes 132 = .ok (.iload 5, 2) := by decide +kernel
theorem dX9_goes_134 : decode cX9_goes 134 = .ok (.istore 5, 2) := by decide +kernel
theorem dX9_goes_136 : decode cX9_goes 136 = .ok (.aload_n 0, 1) := by decide +kernel
theorem dX9_goes_137 : decode cX9_goes 137 = .ok (.getfield 13, 3) := by decide +kernel
theorem dX9_goes_140 : decode cX9_goes 140 = .ok (.bipush 16, 2) := by decide +kernel
theorem dX9_goes_142 : decode cX9_goes 142 = .ok (.iload 4, 2) := by decide +kernel
theorem dX9_goes_144 : decode cX9_goes 144 = .ok (.iadd, 1) := by decide +kernel
theorem dX9_goes_145 : decode cX9_goes 145 = .ok (.dup2, 1) := by decide +kernel
theorem dX9_goes_146 : decode cX9_goes 146 = .ok (.iaload, 1) := by decide +kernel
theorem dX9_goes_147 : decode cX9_goes 147 = .ok (.iload 5, 2) := by decide +kernel
theorem dX9_goes_149 : decode cX9_goes 149 = .ok (.isub, 1) := by decide +kernel
theorem dX9_goes_150 : decode cX9_goes 150 = .ok (.iastore, 1) := by decide +kernel
theorem dX9_goes_151 : decode cX9_goes 151 = .ok (.aload_n 0, 1) := by decide +kernel
theorem dX9_goes_152 : decode cX9_goes 152 = .ok (.getfield 13, 3) := by decide +kernel
theorem dX9_goes_155 : decode cX9_goes 155 = .ok (.bipush 80, 2) := by decide +kernel
theorem dX9_goes_157 : decode cX9_goes 157 = .ok (.iload 4, 2) := by decide +kernel
