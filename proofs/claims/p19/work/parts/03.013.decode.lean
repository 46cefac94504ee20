theorem dX9_explains_64 : decode cX9_explains 64 = .ok (.dup, 1) := by decide +kernel
theorem dX9_explains_65 : decode cX9_explains 65 = .ok (.getfield 300, 3) := by decide +kernel
theorem dX9_explains_68 : decode cX9_explains 68 = .ok (.aload_n 0, 1) := by decide +kernel
theorem dX9_explains_69 : decode cX9_explains 69 = .ok (.getfield 303, 3) := by decide +kernel
theorem dX9_explains_72 : decode cX9_explains 72 = .ok (.iand, 1) := by decide +kernel
theorem dX9_explains_73 : decode cX9_explains 73 = .ok (.putfield 300, 3) := by decide +kernel
theorem dX9_explains_76 : decode cX9_explains 76 = .ok (.return_, 1) := by decide +kernel
theorem dX9_explains_77 : decode cX9_explains 77 = .ok (.aload_n 0, 1) := by decide +kernel
theorem dX9_explains_78 : decode cX9_explains 78 = .ok (.iload_n 1, 1) := by decide +kernel
theorem dX9_explains_79 : decode cX9_explains 79 = .ok (.invokevirtual 216, 3) := by decide +kernel
theorem dX9_explains_82 : decode cX9_explains 82 = .ok (.aload_n 0, 1) := by decide +kernel
theorem dX9_explains_83 : decode cX9_explains 83 = .ok (.getfield 303, 3) := by decide +kernel
theorem dX9_explains_86 : decode cX9_explains 86 = .ok (.istore 4, 2) := by decide +kernel
theorem dX9_explains_88 : decode cX9_explains 88 = .ok (.iconst 0, 1) := by decide +kernel
theorem dX9_explains_89 : decode cX9_explains 89 = .ok (.istore 5, 2) := by decide +kernel
theorem dX9_explains_91 : decode cX9_explains 91 = .ok (.iload 5, 2) := by decide +kernel
theorem dX9_explains_93 : decode cX9_explains 93 = .ok (.iconst 3, 1) := by decide +kernel
theorem dX9_explains_94 : decode cX9_explains 94 = .ok (.if_icmp .ge 59, 3) := by decide +kernel
theorem dX9_explains_97 : decode cX9_explains 97 = .ok (.aload_n 0, 1) := by decide +kernel
theorem dX9_explains_98 : decode cX9_explains 98 = .ok (.iload 5, 2) := by decide +kernel
theorem dX9_explains_100 : decode cX9_explains 100 = .ok (.i2l, 1) := by decide +kernel
theorem dX9_explains_101 : decode cX9_explains 101 = .ok (.invokevirtual 202, 3) := by decide +kernel
theorem dX9_explains_104 : decode cX9_explains 104 = .ok (.ifCond .eq 6, 3) := by decide +kernel
theorem dX9_explains_107 : decode cX9_explains 107 = .ok (.goto 40, 3) := by decide +kernel
theorem dX9_explains_110 : decode cX9_explains 110 = .ok (.aload_n 0, 1) := by decide +kernel
theorem dX9_explains_111 : decode cX9_explains 111 = .ok (.iload 5, 2) := by decide +kernel
theorem dX9_explains_113 : decode cX9_explains 113 = .ok (.iconst 0, 1) := by decide +kernel
theorem dX9_explains_114 : decode cX9_explains 114 = .ok (.invokevirtual 206, 3) := by decide +kernel
theorem dX9_explains_117 : decode cX9_explains 117 = .ok (.pop, 1) := by decide +kernel
theorem dX9_explains_118 : decode cX9_explains 118 = .ok (.aload_n 0, 1) := by decide +kernel
theorem dX9_explains_119 : decode cX9_explains 119 = .ok (.iload 4, 2) := by decide +kernel
theorem dX9_explains_121 : decode cX9_explains 121 = .ok (.iconst 1, 1) := by decide +kernel
theorem dX9_explains_122 : decode cX9_explains 122 = .ok (.aload_n 0, 1) := by decide +kernel
theorem dX9_explains_123 : decode cX9_explains 123 = .ok (.getfield 13, 3) := by decide +kernel
theorem dX9_explains_126 : decode cX9_explains 126 = .ok (.iconst 2, 1) := by decide +kernel
theorem dX9_explains_127 : decode cX9_explains 127 = .ok (.iaload, 1) := by decide +kernel
theorem dX9_explains_128 : decode cX9_explains 128 = .ok (.ishl, 1) := by decide +kernel
theorem dX9_explains_129 : decode cX9_explains 129 = .ok (.ior, 1) := by decide +kernel
theorem dX9_explains_130 : decode cX9_explains 130 = .ok (.putfield 303, 3) := by decide +kernel
theorem dX9_explains_133 : decode cX9_explains 133 = .ok (.aload_n 0, 1) := by decide +kernel
theorem dX9_explains_134 : decode cX9_explains 134 = .ok (.iload_n 1, 1) := by decide +kernel
theorem dX9_explains_135 : decode cX9_explains 135 = .ok (.iconst 1, 1) := by decide +kernel
theorem dX9_explains_136 : decode cX9_explains 136 = .ok (.iadd, 1) := by decide +kernel
theorem dX9_explains_137 : decode cX9_explains 137 = .ok (.iload_n 2, 1) := by decide +kernel
theorem dX9_explains_138 : decode cX9_explains 138 = .ok (.iload_n 3, 1) := by decide +kernel
theorem dX9_explains_139 : decode cX9_explains 139 = .ok (.invokevirtual 306, 3) := by decide +kernel
theorem dX9_explains_142 : decode cX9_explains 142 = .ok (.aload_n 0, 1) := by decide +kernel
theorem dX9_explains_143 : decode cX9_explains 143 = .ok (.iload_n 1, 1) := by decide +kernel
theorem dX9_explains_144 : decode cX9_explains 144 = .ok (.invokevirtual 222, 3) := by decide +kernel
theorem dX9_explains_147 : decode cX9_explains 147 = .ok (.iinc 5 1, 3) := by decide +kernel
theorem dX9_explains_150 : decode cX9_explains 150 = .ok (.goto (-59), 3) := by decide +kernel
theorem dX9_explains_153 : decode cX9_explains 153 = .ok (.aload_n 0, 1) := by decide +kernel
theorem dX9_explains_154 : decode cX9_explains 154 = .ok (.iload 4, 2) := by decide +kernel
theorem dX9_explains_156 : decode cX9_explains 156 = .ok (.putfield 303, 3) := by decide +kernel
theorem dX9_explains_159 : decode cX9_explains 159 = .ok (.return_, 1) := by decide +kernel
theorem dX9_laysStubble_0 : decode cX9_laysStubble 0 = .ok (.iload_n 1, 1) := by decide +kernel
theorem dX9_laysStubble_1 : decode cX9_laysStubble 1 = .ok (.i2l, 1) := by decide +kernel
theorem dX9_laysStubble_2 : decode cX9_laysStubble 2 = .ok (.lconst 0, 1) := by decide +kernel
theorem dX9_laysStubble_3 : decode cX9_laysStubble 3 = .ok (.ldc2_w 180, 3) := by decide +kernel
theorem dX9_laysStubble_6 : decode cX9_laysStubble 6 = .ok (.invokestatic 128, 3) := by decide +kernel
theorem dX9_laysStubble_9 : decode cX9_laysStubble 9 = .ok (.ifCond .ne 6, 3) := by decide +kernel
theorem dX9_laysStubble_12 : decode cX9_laysStubble 12 = .ok (.bipush (-2), 2) := by decide +kernel
theorem dX9_laysStubble_14 : decode cX9_laysStubble 14 = .ok (.ireturn, 1) := by decide +kernel
theorem dX9_laysStubble_15 : decode cX9_laysStubble 15 = .ok (.aload_n 0, 1) := by decide +kernel
theorem dX9_laysStubble_16 : decode cX9_laysStubble 16 = .ok (.getfield 51, 3) := by decide +kernel
theorem dX9_laysStubble_19 : decode cX9_laysStubble 19 = .ok (.iload_n 1, 1) := by decide +kernel
theorem dX9_laysStubble_20 : decode cX9_laysStubble 20 = .ok (.iaload, 1) := by decide +kernel
theorem dX9_laysStubble_21 : decode cX9_laysStubble 21 = .ok (.iconst (-1), 1) := by decide +kernel
theorem dX9_laysStubble_22 : decode cX9_laysStubble 22 = .ok (.if_icmp .ne 6, 3) := by decide +kernel
theorem dX9_laysStubble_25 : decode cX9_laysStubble 25 = .ok (.bipush (-6), 2) := by decide +kernel
theorem dX9_laysStubble_27 : decode cX9_laysStubble 27 = .ok (.ireturn, 1) := by decide +kernel
theorem dX9_laysStubble_28 : decode cX9_laysStubble 28 = .ok (.aload_n 0, 1) := by decide +kernel
theorem dX9_laysStubble_29 : decode cX9_laysStubble 29 = .ok (.getfield 54, 3) := by decide +kernel
theorem dX9_laysStubble_32 : decode cX9_laysStubble 32 = .ok (.iload_n 1, 1) := by decide +kernel
theorem dX9_laysStubble_33 : decode cX9_laysStubble 33 = .ok (.iaload, 1) := by decide +kernel
theorem dX9_laysStubble_34 : decode cX9_laysStubble 34 = .ok (.aload_n 0, 1) := by decide +kernel
theorem dX9_laysStubble_35 : decode cX9_laysStubble 35 = .ok (.getfield 13, 3) := by decide +kernel
theorem dX9_laysStubble_38 : decode cX9_laysStubble 38 = .ok (.iconst 0, 1) := by decide +kernel
theorem dX9_laysStubble_39 : decode cX9_laysStubble 39 = .ok (.iaload, 1) := by decide +kernel
theorem dX9_laysStubble_40 : decode cX9_laysStubble 40 = .ok (.if_icmp .eq 6, 3) := by decide +kernel
theorem dX9_laysStubble_43 : decode cX9_laysStubble 43 = .ok (.bipush (-7), 2) := by decide +kernel
theorem dX9_laysStubble_45 : decode cX9_laysStubble 45 = .ok (.ireturn, 1) := by decide +kernel
theorem dX9_laysStubble_46 : decode cX9_laysStubble 46 = .ok (.iload_n 2, 1) := by decide +kernel
theorem dX9_laysStubble_47 : decode cX9_laysStubble 47 = .ok (.i2l, 1) := by decide +kernel
theorem dX9_laysStubble_48 : decode cX9_laysStubble 48 = .ok (.lconst 1, 1) := by decide +kernel
theorem dX9_laysStubble_49 : decode cX9_laysStubble 49 = .ok (.ldc2_w 267, 3) := by decide +kernel
theorem dX9_laysStubble_52 : decode cX9_laysStubble 52 = .ok (.invokestatic 128, 3) := by decide +kernel
theorem dX9_laysStubble_55 : decode cX9_laysStubble 55 = .ok (.ifCond .ne 6, 3) := by decide +kernel
theorem dX9_laysStubble_58 : decode cX9_laysStubble 58 = .ok (.bipush (-3), 2) := by decide +kernel
theorem dX9_laysStubble_60 : decode cX9_laysStubble 60 = .ok (.ireturn, 1) := by decide +kernel
theorem dX9_laysStubble_61 : decode cX9_laysStubble 61 = .ok (.aload_n 0, 1) := by decide +kernel
theorem dX9_laysStubble_62 : decode cX9_laysStubble 62 = .ok (.getfield 13, 3) := by decide +kernel
theorem dX9_laysStubble_65 : decode cX9_laysStubble 65 = .ok (.iconst 0, 1) := by decide +kernel
theorem dX9_laysStubble_66 : decode cX9_laysStubble 66 = .ok (.iaload, 1) := by decide +kernel
theorem dX9_laysStubble_67 : decode cX9_laysStubble 67 = .ok (.ifCond .ne 6, 3) := by decide +kernel
theorem dX9_laysStubble_70 : decode cX9_laysStubble 70 = .ok (.bipush (-5), 2) := by decide +kernel
theorem dX9_laysStubble_72 : decode cX9_laysStubble 72 = .ok (.ireturn, 1) := by decide +kernel
theorem dX9_laysStubble_73 : decode cX9_laysStubble 73 = .ok (.aload_n 0, 1) := by decide +kernel
theorem dX9_laysStubble_74 : decode cX9_laysStubble 74 = .ok (.iconst 0, 1) := by decide +kernel
theorem dX9_laysStubble_75 : decode cX9_laysStubble 75 = .ok (.putfield 297, 3) := by decide +kernel
theorem dX9_laysStubble_78 : decode cX9_laysStubble 78 = .ok (.aload_n 0, 1) := by decide +kernel
theorem dX9_laysStubble_79 : decode cX9_laysStubble 79 = .ok (.iconst 0, 1) := by decide +kernel
theorem dX9_laysStubble_80 : decode cX9_laysStubble 80 = .ok (.putfield 303, 3) := by decide +kernel
theorem dX9_laysStubble_83 : decode cX9_laysStubble 83 = .ok (.aload_n 0, 1) := by decide +kernel
theorem dX9_laysStubble_84 : decode cX9_laysStubble 84 = .ok (.iconst 1, 1) := by decide +kernel
theorem dX9_laysStubble_85 : decode cX9_laysStubble 85 = .ok (.aload_n 0, 1) := by decide +kernel
theorem dX9_laysStubble_86 : decode cX9_laysStubble 86 = .ok (.getfield 13, 3) := by decide +kernel
theorem dX9_laysStubble_89 : decode cX9_laysStubble 89 = .ok (.iconst 0, 1) := by decide +kernel
theorem dX9_laysStubble_90 : decode cX9_laysStubble 90 = .ok (.iaload, 1) := by decide +kernel
theorem dX9_laysStubble_91 : decode cX9_laysStubble 91 = .ok (.ishl, 1) := by decide +kernel
theorem dX9_laysStubble_92 : decode cX9_laysStubble 92 = .ok (.iconst 1, 1) := by decide +kernel
theorem dX9_laysStubble_93 : decode cX9_laysStubble 93 = .ok (.isub, 1) := by decide +kernel
theorem dX9_laysStubble_94 : decode cX9_laysStubble 94 = .ok (.putfield 300, 3) := by decide +kernel
theorem dX9_laysStubble_97 : decode cX9_laysStubble 97 = .ok (.aload_n 0, 1) := by decide +kernel
theorem dX9_laysStubble_98 : decode cX9_laysStubble 98 = .ok (.iconst 0, 1) := by decide +kernel
theorem dX9_laysStubble_99 : decode cX9_laysStubble 99 = .ok (.iload_n 2, 1) := by decide +kernel
theorem dX9_laysStubble_100 : decode cX9_laysStubble 100 = .ok (.iload_n 1, 1) := by decide +kernel
theorem dX9_laysStubble_101 : decode cX9_laysStubble 101 = .ok (.invokevirtual 306, 3) := by decide +kernel
theorem dX9_laysStubble_104 : decode cX9_laysStubble 104 = .ok (.iconst 0, 1) := by decide +kernel
theorem dX9_laysStubble_105 : decode cX9_laysStubble 105 = .ok (.ireturn, 1) := by decide +kernel
theorem dX9_stubble_0 : decode cX9_stubble 0 = .ok (.aload_n 0, 1) := by decide +kernel
theorem dX9_stubble_1 : decode cX9_stubble 1 = .ok (.iconst 0, 1) := by decide +kernel
theorem dX9_stubble_2 : decode cX9_stubble 2 = .ok (.putfield 1, 3) := by decide +kernel
theorem dX9_stubble_5 : decode cX9_stubble 5 = .ok (.aload_n 0, 1) := by decide +kernel
theorem dX9_stubble_6 : decode cX9_stubble 6 = .ok (.iload_n 1, 1) := by decide +kernel
theorem dX9_stubble_7 : decode cX9_stubble 7 = .ok (.iload_n 2, 1) := by decide +kernel
theorem dX9_stubble_8 : decode cX9_stubble 8 = .ok (.invokevirtual 310, 3) := by decide +kernel
theorem dX9_stubble_11 : decode cX9_stubble 11 = .ok (.istore_n 3, 1) := by decide +kernel
theorem dX9_stubble_12 : decode cX9_stubble 12 = .ok (.iload_n 3, 1) := by decide +kernel
theorem dX9_stubble_13 : decode cX9_stubble 13 = .ok (.ifCond .eq 7, 3) := by decide +kernel
theorem dX9_stubble_16 : decode cX9_stubble 16 = .ok (.iload_n 3, 1) := by decide +kernel
theorem dX9_stubble_17 : decode cX9_stubble 17 = .ok (.goto 7, 3) := by decide +kernel
theorem dX9_stubble_20 : decode cX9_stubble 20 = .ok (.aload_n 0, 1) := by decide +kernel
theorem dX9_stubble_21 : decode cX9_stubble 21 = .ok (.getfield 297, 3) := by decide +kernel
theorem dX9_stubble_24 : decode cX9_stubble 24 = .ok (.ireturn, 1) := by decide +kernel
theorem dX9_sure_0 : decode cX9_sure 0 = .ok (.aload_n 0, 1) := by decide +kernel
theorem dX9_sure_1 : decode cX9_sure 1 = .ok (.iconst 0, 1) := by decide +kernel
theorem dX9_sure_2 : decode cX9_sure 2 = .ok (.putfield 1, 3) := by decide +kernel
theorem dX9_sure_5 : decode cX9_sure 5 = .ok (.aload_n 0, 1) := by decide +kernel
theorem dX9_sure_6 : decode cX9_sure 6 = .ok (.iload_n 1, 1) := by decide +kernel
theorem dX9_sure_7 : decode cX9_sure 7 = .ok (.iload_n 2, 1) := by decide +kernel
theorem dX9_sure_8 : decode cX9_sure 8 = .ok (.invokevirtual 310, 3) := by decide +kernel
theorem dX9_sure_11 : decode cX9_sure 11 = .ok (.istore_n 3, 1) := by decide +kernel
theorem dX9_sure_12 : decode cX9_sure 12 = .ok (.iload_n 3, 1) := by decide +kernel
theorem dX9_sure_13 : decode cX9_sure 13 = .ok (.ifCond .eq 7, 3) := by decide +kernel
theorem dX9_sure_16 : decode cX9_sure 16 = .ok (.iload_n 3, 1) := by decide +kernel
theorem dX9_sure_17 : decode cX9_sure 17 = .ok (.goto 18, 3) := by decide +kernel
theorem dX9_sure_20 : decode cX9_sure 20 = .ok (.aload_n 0, 1) := by decide +kernel
theorem dX9_sure_21 : decode cX9_sure 21 = .ok (.getfield 297, 3) := by decide +kernel
theorem dX9_sure_24 : decode cX9_sure 24 = .ok (.ifCond .ne 7, 3) := by decide +kernel
theorem dX9_sure_27 : decode cX9_sure 27 = .ok (.iconst 0, 1) := by decide +kernel
theorem dX9_sure_28 : decode cX9_sure 28 = .ok (.goto 7, 3) := by decide +kernel
theorem dX9_sure_31 : decode cX9_sure 31 = .ok (.aload_n 0, 1) := by decide +kernel
theorem dX9_sure_32 : decode cX9_sure 32 = .ok (.getfield 300, 3) := by decide +kernel
theorem dX9_sure_35 : decode cX9_sure 35 = .ok (.ireturn, 1) := by decide +kernel
theorem dX9_isOther_0 : decode cX9_isOther 0 = .ok (.iload_n 2, 1) := by decide +kernel
theorem dX9_isOther_1 : decode cX9_isOther 1 = .ok (.aload_n 0, 1) := by decide +kernel
theorem dX9_isOther_2 : decode cX9_isOther 2 = .ok (.getfield 54, 3) := by decide +kernel
theorem dX9_isOther_5 : decode cX9_isOther 5 = .ok (.iload_n 1, 1) := by decide +kernel
theorem dX9_isOther_6 : decode cX9_isOther 6 = .ok (.iaload, 1) := by decide +kernel
theorem dX9_isOther_7 : decode cX9_isOther 7 = .ok (.if_icmp .ge 23, 3) := by decide +kernel
theorem dX9_isOther_10 : decode cX9_isOther 10 = .ok (.aload_n 0, 1) := by decide +kernel
theorem dX9_isOther_11 : decode cX9_isOther 11 = .ok (.getfield 57, 3) := by decide +kernel
theorem dX9_isOther_14 : decode cX9_isOther 14 = .ok (.bipush 40, 2) := by decide +kernel
theorem dX9_isOther_16 : decode cX9_isOther 16 = .ok (.iload_n 1, 1) := by decide +kernel
theorem dX9_isOther_17 : decode cX9_isOther 17 = .ok (.imul, 1) := by decide +kernel
theorem dX9_isOther_18 : decode cX9_isOther 18 = .ok (.iload_n 2, 1) := by decide +kernel
theorem dX9_isOther_19 : decode cX9_isOther 19 = .ok (.iadd, 1) := by decide +kernel
theorem dX9_isOther_20 : decode cX9_isOther 20 = .ok (.laload, 1) := by decide +kernel
theorem dX9_isOther_21 : decode cX9_isOther 21 = .ok (.lconst 0, 1) := by decide +kernel
theorem dX9_isOther_22 : decode cX9_isOther 22 = .ok (.lcmp, 1) := by decide +kernel
theorem dX9_isOther_23 : decode cX9_isOther 23 = .ok (.ifCond .ne 7, 3) := by decide +kernel
theorem dX9_isOther_26 : decode cX9_isOther 26 = .ok (.iconst 1, 1) := by decide +kernel
theorem dX9_isOther_27 : decode cX9_isOther 27 = .ok (.goto 4, 3) := by decide +kernel
theorem dX9_isOther_30 : decode cX9_isOther 30 = .ok (.iconst 0, 1) := by decide +kernel
theorem dX9_isOther_31 : decode cX9_isOther 31 = .ok (.ireturn, 1) := by decide +kernel
theorem dX9_canWalk_0 : decode cX9_canWalk 0 = .ok (.aload_n 0, 1) := by decide +kernel
theorem dX9_canWalk_1 : decode cX9_canWalk 1 = .ok (.getfield 13, 3) := by decide +kernel
theorem dX9_canWalk_4 : decode cX9_canWalk 4 = .ok (.iconst 2, 1) := by decide +kernel
theorem dX9_canWalk_5 : decode cX9_canWalk 5 = .ok (.iaload, 1) := by decide +kernel
theorem dX9_canWalk_6 : decode cX9_canWalk 6 = .ok (.istore_n 2, 1) := by decide +kernel
theorem dX9_canWalk_7 : decode cX9_canWalk 7 = .ok (.iconst 0, 1) := by decide +kernel
theorem dX9_canWalk_8 : decode cX9_canWalk 8 = .ok (.istore_n 3, 1) := by decide +kernel
theorem dX9_canWalk_9 : decode cX9_canWalk 9 = .ok (.iload_n 3, 1) := by decide +kernel
theorem dX9_canWalk_10 : decode cX9_canWalk 10 = .ok (.aload_n 0, 1) := by decide +kernel
theorem dX9_canWalk_11 : decode cX9_canWalk 11 = .ok (.getfield 54, 3) := by decide +kernel
theorem dX9_canWalk_14 : decode cX9_canWalk 14 = .ok (.iload_n 1, 1) := by decide +kernel
theorem dX9_canWalk_15 : decode cX9_canWalk 15 = .ok (.iaload, 1) := by decide +kernel
theorem dX9_canWalk_16 : decode cX9_canWalk 16 = .ok (.if_icmp .ge 56, 3) := by decide +kernel
theorem dX9_canWalk_19 : decode cX9_canWalk 19 = .ok (.aload_n 0, 1) := by decide +kernel
theorem dX9_canWalk_20 : decode cX9_canWalk 20 = .ok (.getfield 57, 3) := by decide +kernel
theorem dX9_canWalk_23 : decode cX9_canWalk 23 = .ok (.bipush 40, 2) := by decide +kernel
theorem dX9_canWalk_25 : decode cX9_canWalk 25 = .ok (.iload_n 1, 1) := by decide +kernel
theorem dX9_canWalk_26 : decode cX9_canWalk 26 = .ok (.imul, 1) := by decide +kernel
theorem dX9_canWalk_27 : decode cX9_canWalk 27 = .ok (.iload_n 3, 1) := by decide +kernel
theorem dX9_canWalk_28 : decode cX9_canWalk 28 = .ok (.iadd, 1) := by decide +kernel
theorem dX9_canWalk_29 : decode cX9_canWalk 29 = .ok (.laload, 1) := by decide +kernel
theorem dX9_canWalk_30 : decode cX9_canWalk 30 = .ok (.lstore 4, 2) := by decide +kernel
theorem dX9_canWalk_32 : decode cX9_canWalk 32 = .ok (.lload 4, 2) := by decide +kernel
theorem dX9_canWalk_34 : decode cX9_canWalk 34 = .ok (.lconst 0, 1) := by decide +kernel
theorem dX9_canWalk_35 : decode cX9_canWalk 35 = .ok (.ldc2_w 196, 3) := by decide +kernel
theorem dX9_canWalk_38 : decode cX9_canWalk 38 = .ok (.invokestatic 128, 3) := by decide +kernel
theorem dX9_canWalk_41 : decode cX9_canWalk 41 = .ok (.ifCond .eq 16, 3) := by decide +kernel
theorem dX9_canWalk_44 : decode cX9_canWalk 44 = .ok (.aload_n 0, 1) := by decide +kernel
theorem dX9_canWalk_45 : decode cX9_canWalk 45 = .ok (.iload_n 2, 1) := by decide +kernel
theorem dX9_canWalk_46 : decode cX9_canWalk 46 = .ok (.lload 4, 2) := by decide +kernel
theorem dX9_canWalk_48 : decode cX9_canWalk 48 = .ok (.invokestatic 198, 3) := by decide +kernel
theorem dX9_canWalk_51 : decode cX9_canWalk 51 = .ok (.invokevirtual 172, 3) := by decide +kernel
theorem dX9_canWalk_54 : decode cX9_canWalk 54 = .ok (.ifCond .ne 5, 3) := by decide +kernel
theorem dX9_canWalk_57 : decode cX9_canWalk 57 = .ok (.iconst 0, 1) := by decide +kernel
theorem dX9_canWalk_58 : decode cX9_canWalk 58 = .ok (.ireturn, 1) := by decide +kernel
theorem dX9_canWalk_59 : decode cX9_canWalk 59 = .ok (.iload_n 2, 1) := by decide +kernel
theorem dX9_canWalk_60 : decode cX9_canWalk 60 = .ok (.lload 4, 2) := by decide +kernel
theorem dX9_canWalk_62 : decode cX9_canWalk 62 = .ok (.invokestatic 198, 3) := by decide +kernel
theorem dX9_canWalk_65 : decode cX9_canWalk 65 = .ok (.istore_n 2, 1) := by decide +kernel
theorem dX9_canWalk_66 : decode cX9_canWalk 66 = .ok (.iinc 3 1, 3) := by decide +kernel
theorem dX9_canWalk_69 : decode cX9_canWalk 69 = .ok (.goto (-60), 3) := by decide +kernel
theorem dX9_canWalk_72 : decode cX9_canWalk 72 = .ok (.iconst 1, 1) := by decide +kernel
theorem dX9_canWalk_73 : decode cX9_canWalk 73 = .ok (.ireturn, 1) := by decide +kernel
theorem dX9_meets_0 : decode cX9_meets 0 = .ok (.aload_n 0, 1) := by decide +kernel
theorem dX9_meets_1 : decode cX9_meets 1 = .ok (.iconst 0, 1) := by decide +kernel
theorem dX9_meets_2 : decode cX9_meets 2 = .ok (.putfield 1, 3) := by decide +kernel
theorem dX9_meets_5 : decode cX9_meets 5 = .ok (.iload_n 1, 1) := by decide +kernel
theorem dX9_meets_6 : decode cX9_meets 6 = .ok (.i2l, 1) := by decide +kernel
theorem dX9_meets_7 : decode cX9_meets 7 = .ok (.lconst 0, 1) := by decide +kernel
theorem dX9_meets_8 : decode cX9_meets 8 = .ok (.ldc2_w 180, 3) := by decide +kernel
theorem dX9_meets_11 : decode cX9_meets 11 = .ok (.invokestatic 128, 3) := by decide +kernel
theorem dX9_meets_14 : decode cX9_meets 14 = .ok (.ifCond .eq 15, 3) := by decide +kernel
theorem dX9_meets_17 : decode cX9_meets 17 = .ok (.iload_n 2, 1) := by decide +kernel
theorem dX9_meets_18 : decode cX9_meets 18 = .ok (.i2l, 1) := by decide +kernel
theorem dX9_meets_19 : decode cX9_meets 19 = .ok (.lconst 0, 1) := by decide +kernel
theorem dX9_meets_20 : decode cX9_meets 20 = .ok (.ldc2_w 180, 3) := by decide +kernel
theorem dX9_meets_23 : decode cX9_meets 23 = .ok (.invokestatic 128, 3) := by decide +kernel
theorem dX9_meets_26 : decode cX9_meets 26 = .ok (.ifCond .ne 6, 3) := by decide +kernel
theorem dX9_meets_29 : decode cX9_meets 29 = .ok (.bipush (-2), 2) := by decide +kernel
theorem dX9_meets_31 : decode cX9_meets 31 = .ok (.ireturn, 1) := by decide +kernel
theorem dX9_meets_32 : decode cX9_meets 32 = .ok (.aload_n 0, 1) := by decide +kernel
theorem dX9_meets_33 : decode cX9_meets 33 = .ok (.getfield 51, 3) := by decide +kernel
theorem dX9_meets_36 : decode cX9_meets 36 = .ok (.iload_n 1, 1) := by decide +kernel
theorem dX9_meets_37 : decode cX9_meets 37 = .ok (.iaload, 1) := by decide +kernel
theorem dX9_meets_38 : decode cX9_meets 38 = .ok (.iconst (-1), 1) := by decide +kernel
theorem dX9_meets_39 : decode cX9_meets 39 = .ok (.if_icmp .eq 13, 3) := by decide +kernel
theorem dX9_meets_42 : decode cX9_meets 42 = .ok (.aload_n 0, 1) := by decide +kernel
theorem dX9_meets_43 : decode cX9_meets 43 = .ok (.getfield 51, 3) := by decide +kernel
theorem dX9_meets_46 : decode cX9_meets 46 = .ok (.iload_n 2, 1) := by decide +kernel
theorem dX9_meets_47 : decode cX9_meets 47 = .ok (.iaload, 1) := by decide +kernel
theorem dX9_meets_48 : decode cX9_meets 48 = .ok (.iconst (-1), 1) := by decide +kernel
theorem dX9_meets_49 : decode cX9_meets 49 = .ok (.if_icmp .ne 6, 3) := by decide +kernel
theorem dX9_meets_52 : decode cX9_meets 52 = .ok (.bipush (-6), 2) := by decide +kernel
theorem dX9_meets_54 : decode cX9_meets 54 = .ok (.ireturn, 1) := by decide +kernel
theorem dX9_meets_55 : decode cX9_meets 55 = .ok (.aload_n 0, 1) := by decide +kernel
theorem dX9_meets_56 : decode cX9_meets 56 = .ok (.iload_n 1, 1) := by decide +kernel
theorem dX9_meets_57 : decode cX9_meets 57 = .ok (.invokevirtual 313, 3) := by decide +kernel
theorem dX9_meets_60 : decode cX9_meets 60 = .ok (.ifCond .ne 6, 3) := by decide +kernel
theorem dX9_meets_63 : decode cX9_meets 63 = .ok (.bipush (-5), 2) := by decide +kernel
theorem dX9_meets_65 : decode cX9_meets 65 = .ok (.ireturn, 1) := by decide +kernel
theorem dX9_meets_66 : decode cX9_meets 66 = .ok (.aload_n 0, 1) := by decide +kernel
theorem dX9_meets_67 : decode cX9_meets 67 = .ok (.getfield 13, 3) := by decide +kernel
theorem dX9_meets_70 : decode cX9_meets 70 = .ok (.iconst 2, 1) := by decide +kernel
theorem dX9_meets_71 : decode cX9_meets 71 = .ok (.iaload, 1) := by decide +kernel
theorem dX9_meets_72 : decode cX9_meets 72 = .ok (.istore_n 3, 1) := by decide +kernel
theorem dX9_meets_73 : decode cX9_meets 73 = .ok (.iconst 0, 1) := by decide +kernel
theorem dX9_meets_74 : decode cX9_meets 74 = .ok (.istore 4, 2) := by decide +kernel
theorem dX9_meets_76 : decode cX9_meets 76 = .ok (.iload 4, 2) := by decide +kernel
theorem dX9_meets_78 : decode cX9_meets 78 = .ok (.aload_n 0, 1) := by decide +kernel
theorem dX9_meets_79 : decode cX9_meets 79 = .ok (.getfield 54, 3) := by decide +kernel
theorem dX9_meets_82 : decode cX9_meets 82 = .ok (.iload_n 1, 1) := by decide +kernel
theorem dX9_meets_83 : decode cX9_meets 83 = .ok (.iaload, 1) := by decide +kernel
theorem dX9_meets_84 : decode cX9_meets 84 = .ok (.if_icmp .ge 50, 3) := by decide +kernel
theorem dX9_meets_87 : decode cX9_meets 87 = .ok (.iload_n 3, 1) := by decide +kernel
theorem dX9_meets_88 : decode cX9_meets 88 = .ok (.aload_n 0, 1) := by decide +kernel
theorem dX9_meets_89 : decode cX9_meets 89 = .ok (.getfield 57, 3) := by decide +kernel
theorem dX9_meets_92 : decode cX9_meets 92 = .ok (.bipush 40, 2) := by decide +kernel
theorem dX9_meets_94 : decode cX9_meets 94 = .ok (.iload_n 1, 1) := by decide +kernel
theorem dX9_meets_95 : decode cX9_meets 95 = .ok (.imul, 1) := by decide +kernel
theorem dX9_meets_96 : decode cX9_meets 96 = .ok (.iload 4, 2) := by decide +kernel
theorem dX9_meets_98 : decode cX9_meets 98 = .ok (.iadd, 1) := by decide +kernel
theorem dX9_meets_99 : decode cX9_meets 99 = .ok (.laload, 1) := by decide +kernel
theorem dX9_meets_100 : decode cX9_meets 100 = .ok (.invokestatic 198, 3) := by decide +kernel
theorem dX9_meets_103 : decode cX9_meets 103 = .ok (.istore_n 3, 1) := by decide +kernel
theorem dX9_meets_104 : decode cX9_meets 104 = .ok (.iload_n 3, 1) := by decide +kernel
theorem dX9_meets_105 : decode cX9_meets 105 = .ok (.aload_n 0, 1) := by decide +kernel
theorem dX9_meets_106 : decode cX9_meets 106 = .ok (.getfield 13, 3) := by decide +kernel
theorem dX9_meets_109 : decode cX9_meets 109 = .ok (.bipush 8, 2) := by decide +kernel
theorem dX9_meets_111 : decode cX9_meets 111 = .ok (.iaload, 1) := by decide +kernel
theorem dX9_meets_112 : decode cX9_meets 112 = .ok (.if_icmp .ne 16, 3) := by decide +kernel
theorem dX9_meets_115 : decode cX9_meets 115 = .ok (.aload_n 0, 1) := by decide +kernel
theorem dX9_meets_116 : decode cX9_meets 116 = .ok (.iload_n 2, 1) := by decide +kernel
theorem dX9_meets_117 : decode cX9_meets 117 = .ok (.iload 4, 2) := by decide +kernel
theorem dX9_meets_119 : decode cX9_meets 119 = .ok (.invokevirtual 316, 3) := by decide +kernel
theorem dX9_meets_122 : decode cX9_meets 122 = .ok (.ifCond .eq 6, 3) := by decide +kernel
theorem dX9_meets_125 : decode cX9_meets 125 = .ok (.iload 4, 2) := by decide +kernel
theorem dX9_meets_127 : decode cX9_meets 127 = .ok (.ireturn, 1) := by decide +kernel
theorem dX9_meets_128 : decode cX9_meets 128 = .ok (.iinc 4 1, 3) := by decide +kernel
theorem dX9_meets_131 : decode cX9_meets 131 = .ok (.goto (-55), 3) := by decide +kernel
theorem dX9_meets_134 : decode cX9_meets 134 = .ok (.iconst (-1), 1) := by decide +kernel
theorem dX9_meets_135 : decode cX9_meets 135 = .ok (.ireturn, 1) := by decide +kernel
theorem dX9_meetBy_0 : decode cX9_meetBy 0 = .ok (.aload_n 0, 1) := by decide +kernel
theorem dX9_meetBy_1 : decode cX9_meetBy 1 = .ok (.getfield 13, 3) := by decide +kernel
theorem dX9_meetBy_4 : decode cX9_meetBy 4 = .ok (.iconst 2, 1) := by decide +kernel
theorem dX9_meetBy_5 : decode cX9_meetBy 5 = .ok (.iaload, 1) := by decide +kernel
theorem dX9_meetBy_6 : decode cX9_meetBy 6 = .ok (.istore 4, 2) := by decide +kernel
theorem dX9_meetBy_8 : decode cX9_meetBy 8 = .ok (.iconst 0, 1) := by decide +kernel
theorem dX9_meetBy_9 : decode cX9_meetBy 9 = .ok (.istore 5, 2) := by decide +kernel
theorem dX9_meetBy_11 : decode cX9_meetBy 11 = .ok (.iload 5, 2) := by decide +kernel
theorem dX9_meetBy_13 : decode cX9_meetBy 13 = .ok (.iload_n 3, 1) := by decide +kernel
theorem dX9_meetBy_14 : decode cX9_meetBy 14 = .ok (.aload_n 0, 1) := by decide +kernel
theorem dX9_meetBy_15 : decode cX9_meetBy 15 = .ok (.getfield 54, 3) := by decide +kernel
theorem dX9_meetBy_18 : decode cX9_meetBy 18 = .ok (.iload_n 1, 1) := by decide +kernel
theorem dX9_meetBy_19 : decode cX9_meetBy 19 = .ok (.iaload, 1) := by decide +kernel
theorem dX9_meetBy_20 : decode cX9_meetBy 20 = .ok (.iadd, 1) := by decide +kernel
theorem dX9_meetBy_21 : decode cX9_meetBy 21 = .ok (.if_icmp .ge 60, 3) := by decide +kernel
theorem dX9_meetBy_24 : decode cX9_meetBy 24 = .ok (.iload 5, 2) := by decide +kernel
theorem dX9_meetBy_26 : decode cX9_meetBy 26 = .ok (.iload_n 3, 1) := by decide +kernel
theorem dX9_meetBy_27 : decode cX9_meetBy 27 = .ok (.if_icmp .lt 24, 3) := by decide +kernel
theorem dX9_meetBy_30 : decode cX9_meetBy 30 = .ok (.iload 4, 2) := by decide +kernel
theorem dX9_meetBy_32 : decode cX9_meetBy 32 = .ok (.aload_n 0, 1) := by decide +kernel
theorem dX9_meetBy_33 : decode cX9_meetBy 33 = .ok (.getfield 57, 3) := by decide +kernel
theorem dX9_meetBy_36 : decode cX9_meetBy 36 = .ok (.bipush 40, 2) := by decide +kernel
theorem dX9_meetBy_38 : decode cX9_meetBy 38 = .ok (.iload_n 1, 1) := by decide +kernel
theorem dX9_meetBy_39 : decode cX9_meetBy 39 = .ok (.imul, 1) := by decide +kernel
theorem dX9_meetBy_40 : decode cX9_meetBy 40 = .ok (.iload 5, 2) := by decide +kernel
theorem dX9_meetBy_42 : decode cX9_meetBy 42 = .ok (.iadd, 1) := by decide +kernel
theorem dX9_meetBy_43 : decode cX9_meetBy 43 = .ok (.iload_n 3, 1) := by decide +kernel
theorem dX9_meetBy_44 : decode cX9_meetBy 44 = .ok (.isub, 1) := by decide +kernel
theorem dX9_meetBy_45 : decode cX9_meetBy 45 = .ok (.laload, 1) := by decide +kernel
theorem dX9_meetBy_46 : decode cX9_meetBy 46 = .ok (.invokestatic 198, 3) := by decide +kernel
theorem dX9_meetBy_49 : decode cX9_meetBy 49 = .ok (.istore 4, 2) := by decide +kernel
theorem dX9_meetBy_51 : decode cX9_meetBy 51 = .ok (.iload 4, 2) := by decide +kernel
theorem dX9_meetBy_53 : decode cX9_meetBy 53 = .ok (.aload_n 0, 1) := by decide +kernel
theorem dX9_meetBy_54 : decode cX9_meetBy 54 = .ok (.getfield 13, 3) := by decide +kernel
theorem dX9_meetBy_57 : decode cX9_meetBy 57 = .ok (.bipush 8, 2) := by decide +kernel
theorem dX9_meetBy_59 : decode cX9_meetBy 59 = .ok (.iaload, 1) := by decide +kernel
theorem dX9_meetBy_60 : decode cX9_meetBy 60 = .ok (.if_icmp .ne 15, 3) := by decide +kernel
theorem dX9_meetBy_63 : decode cX9_meetBy 63 = .ok (.aload_n 0, 1) := by decide +kernel
theorem dX9_meetBy_64 : decode cX9_meetBy 64 = .ok (.iload_n 2, 1) := by decide +kernel
theorem dX9_meetBy_65 : decode cX9_meetBy 65 = .ok (.iload 5, 2) := by decide +kernel
theorem dX9_meetBy_67 : decode cX9_meetBy 67 = .ok (.invokevirtual 316, 3) := by decide +kernel
theorem dX9_meetBy_70 : decode cX9_meetBy 70 = .ok (.ifCond .eq 5, 3) := by decide +kernel
theorem dX9_meetBy_73 : decode cX9_meetBy 73 = .ok (.iconst 1, 1) := by decide +kernel
theorem dX9_meetBy_74 : decode cX9_meetBy 74 = .ok (.ireturn, 1) := by decide +kernel
theorem dX9_meetBy_75 : decode cX9_meetBy 75 = .ok (.iinc 5 1, 3) := by decide +kernel
theorem dX9_meetBy_78 : decode cX9_meetBy 78 = .ok (.goto (-67), 3) := by decide +kernel
theorem dX9_meetBy_81 : decode cX9_meetBy 81 = .ok (.iconst 0, 1) := by decide +kernel
theorem dX9_meetBy_82 : decode cX9_meetBy 82 = .ok (.ireturn, 1) := by decide +kernel
theorem dX9_delay_0 : decode cX9_delay 0 = .ok (.aload_n 0, 1) := by decide +kernel
theorem dX9_delay_1 : decode cX9_delay 1 = .ok (.iconst 0, 1) := by decide +kernel
theorem dX9_delay_2 : decode cX9_delay 2 = .ok (.putfield 1, 3) := by decide +kernel
theorem dX9_delay_5 : decode cX9_delay 5 = .ok (.iload_n 1, 1) := by decide +kernel
theorem dX9_delay_6 : decode cX9_delay 6 = .ok (.i2l, 1) := by decide +kernel
theorem dX9_delay_7 : decode cX9_delay 7 = .ok (.lconst 0, 1) := by decide +kernel
theorem dX9_delay_8 : decode cX9_delay 8 = .ok (.ldc2_w 180, 3) := by decide +kernel
theorem dX9_delay_11 : decode cX9_delay 11 = .ok (.invokestatic 128, 3) := by decide +kernel
theorem dX9_delay_14 : decode cX9_delay 14 = .ok (.ifCond .eq 15, 3) := by decide +kernel
theorem dX9_delay_17 : decode cX9_delay 17 = .ok (.iload_n 2, 1) := by decide +kernel
theorem dX9_delay_18 : decode cX9_delay 18 = .ok (.i2l, 1) := by decide +kernel
theorem dX9_delay_19 : decode cX9_delay 19 = .ok (.lconst 0, 1) := by decide +kernel
theorem dX9_delay_20 : decode cX9_delay 20 = .ok (.ldc2_w 180, 3) := by decide +kernel
theorem dX9_delay_23 : decode cX9_delay 23 = .ok (.invokestatic 128, 3) := by decide +kernel
theorem dX9_delay_26 : decode cX9_delay 26 = .ok (.ifCond .ne 6, 3) := by decide +kernel
theorem dX9_delay_29 : decode cX9_delay 29 = .ok (.bipush (-2), 2) := by decide +kernel
theorem dX9_delay_31 : decode cX9_delay 31 = .ok (.ireturn, 1) := by decide +kernel
theorem dX9_delay_32 : decode cX9_delay 32 = .ok (.aload_n 0, 1) := by decide +kernel
theorem dX9_delay_33 : decode cX9_delay 33 = .ok (.getfield 51, 3) := by decide +kernel
theorem dX9_delay_36 : decode cX9_delay 36 = .ok (.iload_n 1, 1) := by decide +kernel
theorem dX9_delay_37 : decode cX9_delay 37 = .ok (.iaload, 1) := by decide +kernel
theorem dX9_delay_38 : decode cX9_delay 38 = .ok (.iconst (-1), 1) := by decide +kernel
theorem dX9_delay_39 : decode cX9_delay 39 = .ok (.if_icmp .eq 13, 3) := by decide +kernel
theorem dX9_delay_42 : decode cX9_delay 42 = .ok (.aload_n 0, 1) := by decide +kernel
theorem dX9_delay_43 : decode cX9_delay 43 = .ok (.getfield 51, 3) := by decide +kernel
theorem dX9_delay_46 : decode cX9_delay 46 = .ok (.iload_n 2, 1) := by decide +kernel
theorem dX9_delay_47 : decode cX9_delay 47 = .ok (.iaload, 1) := by decide +kernel
theorem dX9_delay_48 : decode cX9_delay 48 = .ok (.iconst (-1), 1) := by decide +kernel
theorem dX9_delay_49 : decode cX9_delay 49 = .ok (.if_icmp .ne 6, 3) := by decide +kernel
theorem dX9_delay_52 : decode cX9_delay 52 = .ok (.bipush (-6), 2) := by decide +kernel
theorem dX9_delay_54 : decode cX9_delay 54 = .ok (.ireturn, 1) := by decide +kernel
theorem dX9_delay_55 : decode cX9_delay 55 = .ok (.aload_n 0, 1) := by decide +kernel
theorem dX9_delay_56 : decode cX9_delay 56 = .ok (.iload_n 1, 1) := by decide +kernel
theorem dX9_delay_57 : decode cX9_delay 57 = .ok (.invokevirtual 313, 3) := by decide +kernel
theorem dX9_delay_60 : decode cX9_delay 60 = .ok (.ifCond .ne 6, 3) := by decide +kernel
theorem dX9_delay_63 : decode cX9_delay 63 = .ok (.bipush (-5), 2) := by decide +kernel
theorem dX9_delay_65 : decode cX9_delay 65 = .ok (.ireturn, 1) := by decide +kernel
theorem dX9_delay_66 : decode cX9_delay 66 = .ok (.iconst 0, 1) := by decide +kernel
theorem dX9_delay_67 : decode cX9_delay 67 = .ok (.istore_n 3, 1) := by decide +kernel
theorem dX9_delay_68 : decode cX9_delay 68 = .ok (.iload_n 3, 1) := by decide +kernel
theorem dX9_delay_69 : decode cX9_delay 69 = .ok (.bipush 40, 2) := by decide +kernel
theorem dX9_delay_71 : decode cX9_delay 71 = .ok (.if_icmp .gt 21, 3) := by decide +kernel
theorem dX9_delay_74 : decode cX9_delay 74 = .ok (.aload_n 0, 1) := by decide +kernel
theorem dX9_delay_75 : decode cX9_delay 75 = .ok (.iload_n 1, 1) := by decide +kernel
theorem dX9_delay_76 : decode cX9_delay 76 = .ok (.iload_n 2, 1) := by decide +kernel
theorem dX9_delay_77 : decode cX9_delay 77 = .ok (.iload_n 3, 1) := by decide +kernel
theorem dX9_delay_78 : decode cX9_delay 78 = .ok (.invokevirtual 320, 3) := by decide +kernel
theorem dX9_delay_81 : decode cX9_delay 81 = .ok (.ifCond .ne 5, 3) := by decide +kernel
theorem dX9_delay_84 : decode cX9_delay 84 = .ok (.iload_n 3, 1) := by decide +kernel
theorem dX9_delay_85 : decode cX9_delay 85 = .ok (.ireturn, 1) := by decide +kernel
theorem dX9_delay_86 : decode cX9_delay 86 = .ok (.iinc 3 1, 3) := by decide +kernel
theorem dX9_delay_89 : decode cX9_delay 89 = .ok (.goto (-21), 3) := by decide +kernel
theorem dX9_delay_92 : decode cX9_delay 92 = .ok (.iconst (-1), 1) := by decide +kernel
theorem dX9_delay_93 : decode cX9_delay 93 = .ok (.ireturn, 1) := by decide +kernel
theorem dX9_cut_0 : decode cX9_cut 0 = .ok (.iload_n 2, 1) := by decide +kernel
theorem dX9_cut_1 : decode cX9_cut 1 = .ok (.ifCond .ne 10, 3) := by decide +kernel
theorem dX9_cut_4 : decode cX9_cut 4 = .ok (.lload_n 0, 1) := by decide +kernel
theorem dX9_cut_5 : decode cX9_cut 5 = .ok (.l2i, 1) := by decide +kernel
theorem dX9_cut_6 : decode cX9_cut 6 = .ok (.i2b, 1) := by decide +kernel
theorem dX9_cut_7 : decode cX9_cut 7 = .ok (.i2l, 1) := by decide +kernel
theorem dX9_cut_8 : decode cX9_cut 8 = .ok (.goto 27, 3) := by decide +kernel
theorem dX9_cut_11 : decode cX9_cut 11 = .ok (.iload_n 2, 1) := by decide +kernel
theorem dX9_cut_12 : decode cX9_cut 12 = .ok (.iconst 1, 1) := by decide +kernel
theorem dX9_cut_13 : decode cX9_cut 13 = .ok (.if_icmp .ne 10, 3) := by decide +kernel
theorem dX9_cut_16 : decode cX9_cut 16 = .ok (.lload_n 0, 1) := by decide +kernel
theorem dX9_cut_17 : decode cX9_cut 17 = .ok (.l2i, 1) := by decide +kernel
theorem dX9_cut_18 : decode cX9_cut 18 = .ok (.i2s, 1) := by decide +kernel
theorem dX9_cut_19 : decode cX9_cut 19 = .ok (.i2l, 1) := by decide +kernel
theorem dX9_cut_20 : decode cX9_cut 20 = .ok (.goto 15, 3) := by decide +kernel
theorem dX9_cut_23 : decode cX9_cut 23 = .ok (.iload_n 2, 1) := by decide +kernel
theorem dX9_cut_24 : decode cX9_cut 24 = .ok (.iconst 2, 1) := by decide +kernel
theorem dX9_cut_25 : decode cX9_cut 25 = .ok (.if_icmp .ne 9, 3) := by decide +kernel
theorem dX9_cut_28 : decode cX9_cut 28 = .ok (.lload_n 0, 1) := by decide +kernel
theorem dX9_cut_29 : decode cX9_cut 29 = .ok (.l2i, 1) := by decide +kernel
theorem dX9_cut_30 : decode cX9_cut 30 = .ok (.i2l, 1) := by decide +kernel
theorem dX9_cut_31 : decode cX9_cut 31 = .ok (.goto 4, 3) := by decide +kernel
theorem dX9_cut_34 : decode cX9_cut 34 = .ok (.lload_n 0, 1) := by decide +kernel
theorem dX9_cut_35 : decode cX9_cut 35 = .ok (.lreturn, 1) := by decide +kernel
theorem dX9_numbers_0 : decode cX9_numbers 0 = .ok (.aload_n 0, 1) := by decide +kernel
theorem dX9_numbers_1 : decode cX9_numbers 1 = .ok (.iconst 0, 1) := by decide +kernel
theorem dX9_numbers_2 : decode cX9_numbers 2 = .ok (.putfield 1, 3) := by decide +kernel
theorem dX9_numbers_5 : decode cX9_numbers 5 = .ok (.iload_n 1, 1) := by decide +kernel
theorem dX9_numbers_6 : decode cX9_numbers 6 = .ok (.i2l, 1) := by decide +kernel
theorem dX9_numbers_7 : decode cX9_numbers 7 = .ok (.lconst 0, 1) := by decide +kernel
theorem dX9_numbers_8 : decode cX9_numbers 8 = .ok (.ldc2_w 180, 3) := by decide +kernel
theorem dX9_numbers_11 : decode cX9_numbers 11 = .ok (.invokestatic 128, 3) := by decide +kernel
theorem dX9_numbers_14 : decode cX9_numbers 14 = .ok (.ifCond .eq 15, 3) := by decide +kernel
theorem dX9_numbers_17 : decode cX9_numbers 17 = .ok (.iload_n 2, 1) := by decide +kernel
theorem dX9_numbers_18 : decode cX9_numbers 18 = .ok (.i2l, 1) := by decide +kernel
theorem dX9_numbers_19 : decode cX9_numbers 19 = .ok (.lconst 0, 1) := by decide +kernel
theorem dX9_numbers_20 : decode cX9_numbers 20 = .ok (.ldc2_w 180, 3) := by decide +kernel
theorem dX9_numbers_23 : decode cX9_numbers 23 = .ok (.invokestatic 128, 3) := by decide +kernel
theorem dX9_numbers_26 : decode cX9_numbers 26 = .ok (.ifCond .ne 6, 3) := by decide +kernel
theorem dX9_numbers_29 : decode cX9_numbers 29 = .ok (.bipush (-2), 2) := by decide +kernel
theorem dX9_numbers_31 : decode cX9_numbers 31 = .ok (.ireturn, 1) := by decide +kernel
theorem dX9_numbers_32 : decode cX9_numbers 32 = .ok (.iload_n 3, 1) := by decide +kernel
theorem dX9_numbers_33 : decode cX9_numbers 33 = .ok (.i2l, 1) := by decide +kernel
theorem dX9_numbers_34 : decode cX9_numbers 34 = .ok (.lconst 0, 1) := by decide +kernel
theorem dX9_numbers_35 : decode cX9_numbers 35 = .ok (.ldc2_w 323, 3) := by decide +kernel
theorem dX9_numbers_38 : decode cX9_numbers 38 = .ok (.invokestatic 128, 3) := by decide +kernel
theorem dX9_numbers_41 : decode cX9_numbers 41 = .ok (.ifCond .ne 6, 3) := by decide +kernel
theorem dX9_numbers_44 : decode cX9_numbers 44 = .ok (.bipush (-3), 2) := by decide +kernel
theorem dX9_numbers_46 : decode cX9_numbers 46 = .ok (.ireturn, 1) := by decide +kernel
theorem dX9_numbers_47 : decode cX9_numbers 47 = .ok (.aload_n 0, 1) := by decide +kernel
theorem dX9_numbers_48 : decode cX9_numbers 48 = .ok (.getfield 51, 3) := by decide +kernel
theorem dX9_numbers_51 : decode cX9_numbers 51 = .ok (.iload_n 1, 1) := by decide +kernel
theorem dX9_numbers_52 : decode cX9_numbers 52 = .ok (.iload_n 2, 1) := by decide +kernel
theorem dX9_numbers_53 : decode cX9_numbers 53 = .ok (.iastore, 1) := by decide +kernel
theorem dX9_numbers_54 : decode cX9_numbers 54 = .ok (.aload_n 0, 1) := by decide +kernel
theorem dX9_numbers_55 : decode cX9_numbers 55 = .ok (.getfield 54, 3) := by decide +kernel
theorem dX9_numbers_58 : decode cX9_numbers 58 = .ok (.iload_n 1, 1) := by decide +kernel
theorem dX9_numbers_59 : decode cX9_numbers 59 = .ok (.iload_n 3, 1) := by decide +kernel
theorem dX9_numbers_60 : decode cX9_numbers 60 = .ok (.iastore, 1) := by decide +kernel
theorem dX9_numbers_61 : decode cX9_numbers 61 = .ok (.iconst 0, 1) := by decide +kernel
theorem dX9_numbers_62 : decode cX9_numbers 62 = .ok (.istore 4, 2) := by decide +kernel
theorem dX9_numbers_64 : decode cX9_numbers 64 = .ok (.iload 4, 2) := by decide +kernel
theorem dX9_numbers_66 : decode cX9_numbers 66 = .ok (.iload_n 3, 1) := by decide +kernel
theorem dX9_numbers_67 : decode cX9_numbers 67 = .ok (.if_icmp .ge 22, 3) := by decide +kernel
theorem dX9_numbers_70 : decode cX9_numbers 70 = .ok (.aload_n 0, 1) := by decide +kernel
theorem dX9_numbers_71 : decode cX9_numbers 71 = .ok (.getfield 57, 3) := by decide +kernel
theorem dX9_numbers_74 : decode cX9_numbers 74 = .ok (.bipush 40, 2) := by decide +kernel
theorem dX9_numbers_76 : decode cX9_numbers 76 = .ok (.iload_n 1, 1) := by decide +kernel
theorem dX9_numbers_77 : decode cX9_numbers 77 = .ok (.imul, 1) := by decide +kernel
theorem dX9_numbers_78 : decode cX9_numbers 78 = .ok (.iload 4, 2) := by decide +kernel
theorem dX9_numbers_80 : decode cX9_numbers 80 = .ok (.iadd, 1) := by decide +kernel
theorem dX9_numbers_81 : decode cX9_numbers 81 = .ok (.lconst 0, 1) := by decide +kernel
theorem dX9_numbers_82 : decode cX9_numbers 82 = .ok (.lastore, 1) := by decide +kernel
theorem dX9_numbers_83 : decode cX9_numbers 83 = .ok (.iinc 4 1, 3) := by decide +kernel
theorem dX9_numbers_86 : decode cX9_numbers 86 = .ok (.goto (-22), 3) := by decide +kernel
theorem dX9_numbers_89 : decode cX9_numbers 89 = .ok (.iconst 0, 1) := by decide +kernel
theorem dX9_numbers_90 : decode cX9_numbers 90 = .ok (.ireturn, 1) := by decide +kernel
theorem dX9_write_0 : decode cX9_write 0 = .ok (.aload_n 0, 1) := by decide +kernel
theorem dX9_write_1 : decode cX9_write 1 = .ok (.iconst 0, 1) := by decide +kernel
theorem dX9_write_2 : decode cX9_write 2 = .ok (.putfield 1, 3) := by decide +kernel
theorem dX9_write_5 : decode cX9_write 5 = .ok (.iload_n 1, 1) := by decide +kernel
theorem dX9_write_6 : decode cX9_write 6 = .ok (.i2l, 1) := by decide +kernel
theorem dX9_write_7 : decode cX9_write 7 = .ok (.lconst 0, 1) := by decide +kernel
theorem dX9_write_8 : decode cX9_write 8 = .ok (.ldc2_w 180, 3) := by decide +kernel
theorem dX9_write_11 : decode cX9_write 11 = .ok (.invokestatic 128, 3) := by decide +kernel
theorem dX9_write_14 : decode cX9_write 14 = .ok (.ifCond .ne 7, 3) := by decide +kernel
theorem dX9_write_17 : decode cX9_write 17 = .ok (.ldc2_w 325, 3) := by decide +kernel
theorem dX9_write_20 : decode cX9_write 20 = .ok (.lreturn, 1) := by decide +kernel
theorem dX9_write_21 : decode cX9_write 21 = .ok (.aload_n 0, 1) := by decide +kernel
theorem dX9_write_22 : decode cX9_write 22 = .ok (.getfield 51, 3) := by decide +kernel
theorem dX9_write_25 : decode cX9_write 25 = .ok (.iload_n 1, 1) := by decide +kernel
theorem dX9_write_26 : decode cX9_write 26 = .ok (.iaload, 1) := by decide +kernel
theorem dX9_write_27 : decode cX9_write 27 = .ok (.iconst (-1), 1) := by decide +kernel
theorem dX9_write_28 : decode cX9_write 28 = .ok (.if_icmp .ne 7, 3) := by decide +kernel
theorem dX9_write_31 : decode cX9_write 31 = .ok (.ldc2_w 327, 3) := by decide +kernel
theorem dX9_write_34 : decode cX9_write 34 = .ok (.lreturn, 1) := by decide +kernel
theorem dX9_write_35 : decode cX9_write 35 = .ok (.iload_n 2, 1) := by decide +kernel
theorem dX9_write_36 : decode cX9_write 36 = .ok (.i2l, 1) := by decide +kernel
theorem dX9_write_37 : decode cX9_write 37 = .ok (.lconst 0, 1) := by decide +kernel
theorem dX9_write_38 : decode cX9_write 38 = .ok (.aload_n 0, 1) := by decide +kernel
theorem dX9_write_39 : decode cX9_write 39 = .ok (.getfield 54, 3) := by decide +kernel
theorem dX9_write_42 : decode cX9_write 42 = .ok (.iload_n 1, 1) := by decide +kernel
theorem dX9_write_43 : decode cX9_write 43 = .ok (.iaload, 1) := by decide +kernel
theorem dX9_write_44 : decode cX9_write 44 = .ok (.iconst 1, 1) := by decide +kernel
theorem dX9_write_45 : decode cX9_write 45 = .ok (.isub, 1) := by decide +kernel
theorem dX9_write_46 : decode cX9_write 46 = .ok (.i2l, 1) := by decide +kernel
theorem dX9_write_47 : decode cX9_write 47 = .ok (.invokestatic 128, 3) := by decide +kernel
theorem dX9_write_50 : decode cX9_write 50 = .ok (.ifCond .ne 7, 3) := by decide +kernel
theorem dX9_write_53 : decode cX9_write 53 = .ok (.ldc2_w 329, 3) := by decide +kernel
theorem dX9_write_56 : decode cX9_write 56 = .ok (.lreturn, 1) := by decide +kernel
theorem dX9_write_57 : decode cX9_write 57 = .ok (.aload_n 0, 1) := by decide +kernel
theorem dX9_write_58 : decode cX9_write 58 = .ok (.getfield 57, 3) := by decide +kernel
theorem dX9_write_61 : decode cX9_write 61 = .ok (.bipush 40, 2) := by decide +kernel
theorem dX9_write_63 : decode cX9_write 63 = .ok (.iload_n 1, 1) := by decide +kernel
theorem dX9_write_64 : decode cX9_write 64 = .ok (.imul, 1) := by decide +kernel
theorem dX9_write_65 : decode cX9_write 65 = .ok (.iload_n 2, 1) := by decide +kernel
theorem dX9_write_66 : decode cX9_write 66 = .ok (.iadd, 1) := by decide +kernel
theorem dX9_write_67 : decode cX9_write 67 = .ok (.lload_n 3, 1) := by decide +kernel
theorem dX9_write_68 : decode cX9_write 68 = .ok (.aload_n 0, 1) := by decide +kernel
theorem dX9_write_69 : decode cX9_write 69 = .ok (.getfield 51, 3) := by decide +kernel
theorem dX9_write_72 : decode cX9_write 72 = .ok (.iload_n 1, 1) := by decide +kernel
theorem dX9_write_73 : decode cX9_write 73 = .ok (.iaload, 1) := by decide +kernel
theorem dX9_write_74 : decode cX9_write 74 = .ok (.invokestatic 331, 3) := by decide +kernel
theorem dX9_write_77 : decode cX9_write 77 = .ok (.lastore, 1) := by decide +kernel
theorem dX9_write_78 : decode cX9_write 78 = .ok (.aload_n 0, 1) := by decide +kernel
theorem dX9_write_79 : decode cX9_write 79 = .ok (.getfield 57, 3) := by decide +kernel
theorem dX9_write_82 : decode cX9_write 82 = .ok (.bipush 40, 2) := by decide +kernel
theorem dX9_write_84 : decode cX9_write 84 = .ok (.iload_n 1, 1) := by decide +kernel
theorem dX9_write_85 : decode cX9_write 85 = .ok (.imul, 1) := by decide +kernel
theorem dX9_write_86 : decode cX9_write 86 = .ok (.iload_n 2, 1) := by decide +kernel
theorem dX9_write_87 : decode cX9_write 87 = .ok (.iadd, 1) := by decide +kernel
theorem dX9_write_88 : decode cX9_write 88 = .ok (.laload, 1) := by decide +kernel
theorem dX9_write_89 : decode cX9_write 89 = .ok (.lreturn, 1) := by decide +kernel
theorem dX9_copy_0 : decode cX9_copy 0 = .ok (.aload_n 0, 1) := by decide +kernel
theorem dX9_copy_1 : decode cX9_copy 1 = .ok (.iconst 0, 1) := by decide +kernel
theorem dX9_copy_2 : decode cX9_copy 2 = .ok (.putfield 1, 3) := by decide +kernel
theorem dX9_copy_5 : decode cX9_copy 5 = .ok (.iload_n 1, 1) := by decide +kernel
theorem dX9_copy_6 : decode cX9_copy 6 = .ok (.i2l, 1) := by decide +kernel
theorem dX9_copy_7 : decode cX9_copy 7 = .ok (.lconst 0, 1) := by decide +kernel
theorem dX9_copy_8 : decode cX9_copy 8 = .ok (.ldc2_w 180, 3) := by decide +kernel
theorem dX9_copy_11 : decode cX9_copy 11 = .ok (.invokestatic 128, 3) := by decide +kernel
theorem dX9_copy_14 : decode cX9_copy 14 = .ok (.ifCond .ne 6, 3) := by decide +kernel
theorem dX9_copy_17 : decode cX9_copy 17 = .ok (.bipush (-2), 2) := by decide +kernel
theorem dX9_copy_19 : decode cX9_copy 19 = .ok (.ireturn, 1) := by decide +kernel
theorem dX9_copy_20 : decode cX9_copy 20 = .ok (.aload_n 0, 1) := by decide +kernel
theorem dX9_copy_21 : decode cX9_copy 21 = .ok (.getfield 51, 3) := by decide +kernel
theorem dX9_copy_24 : decode cX9_copy 24 = .ok (.iload_n 1, 1) := by decide +kernel
theorem dX9_copy_25 : decode cX9_copy 25 = .ok (.iaload, 1) := by decide +kernel
theorem dX9_copy_26 : decode cX9_copy 26 = .ok (.iconst (-1), 1) := by decide +kernel
theorem dX9_copy_27 : decode cX9_copy 27 = .ok (.if_icmp .ne 6, 3) := by decide +kernel
theorem dX9_copy_30 : decode cX9_copy 30 = .ok (.bipush (-6), 2) := by decide +kernel
theorem dX9_copy_32 : decode cX9_copy 32 = .ok (.ireturn, 1) := by decide +kernel
theorem dX9_copy_33 : decode cX9_copy 33 = .ok (.aload_n 0, 1) := by decide +kernel
theorem dX9_copy_34 : decode cX9_copy 34 = .ok (.getfield 54, 3) := by decide +kernel
theorem dX9_copy_37 : decode cX9_copy 37 = .ok (.iload_n 1, 1) := by decide +kernel
theorem dX9_copy_38 : decode cX9_copy 38 = .ok (.iaload, 1) := by decide +kernel
theorem dX9_copy_39 : decode cX9_copy 39 = .ok (.aload_n 0, 1) := by decide +kernel
theorem dX9_copy_40 : decode cX9_copy 40 = .ok (.getfield 13, 3) := by decide +kernel
theorem dX9_copy_43 : decode cX9_copy 43 = .ok (.iconst 0, 1) := by decide +kernel
theorem dX9_copy_44 : decode cX9_copy 44 = .ok (.iaload, 1) := by decide +kernel
theorem dX9_copy_45 : decode cX9_copy 45 = .ok (.if_icmp .ge 6, 3) := by decide +kernel
theorem dX9_copy_48 : decode cX9_copy 48 = .ok (.bipush (-7), 2) := by decide +kernel
theorem dX9_copy_50 : decode cX9_copy 50 = .ok (.ireturn, 1) := by decide +kernel
theorem dX9_copy_51 : decode cX9_copy 51 = .ok (.iconst 0, 1) := by decide +kernel
theorem dX9_copy_52 : decode cX9_copy 52 = .ok (.istore_n 2, 1) := by decide +kernel
theorem dX9_copy_53 : decode cX9_copy 53 = .ok (.iload_n 2, 1) := by decide +kernel
theorem dX9_copy_54 : decode cX9_copy 54 = .ok (.aload_n 0, 1) := by decide +kernel
theorem dX9_copy_55 : decode cX9_copy 55 = .ok (.getfield 13, 3) := by decide +kernel
theorem dX9_copy_58 : decode cX9_copy 58 = .ok (.iconst 0, 1) := by decide +kernel
theorem dX9_copy_59 : decode cX9_copy 59 = .ok (.iaload, 1) := by decide +kernel
theorem dX9_copy_60 : decode cX9_copy 60 = .ok (.if_icmp .ge 30, 3) := by decide +kernel
theorem dX9_copy_63 : decode cX9_copy 63 = .ok (.aload_n 0, 1) := by decide +kernel
theorem dX9_copy_64 : decode cX9_copy 64 = .ok (.getfield 57, 3) := by decide +kernel
theorem dX9_copy_67 : decode cX9_copy 67 = .ok (.bipush 40, 2) := by decide +kernel
theorem dX9_copy_69 : decode cX9_copy 69 = .ok (.iload_n 1, 1) := by decide +kernel
theorem dX9_copy_70 : decode cX9_copy 70 = .ok (.imul, 1) := by decide +kernel
theorem dX9_copy_71 : decode cX9_copy 71 = .ok (.iload_n 2, 1) := by decide +kernel
theorem dX9_copy_72 : decode cX9_copy 72 = .ok (.iadd, 1) := by decide +kernel
theorem dX9_copy_73 : decode cX9_copy 73 = .ok (.aload_n 0, 1) := by decide +kernel
theorem dX9_copy_74 : decode cX9_copy 74 = .ok (.getfield 13, 3) := by decide +kernel
theorem dX9_copy_77 : decode cX9_copy 77 = .ok (.bipush 16, 2) := by decide +kernel
theorem dX9_copy_79 : decode cX9_copy 79 = .ok (.iload_n 2, 1) := by decide +kernel
theorem dX9_copy_80 : decode cX9_copy 80 = .ok (.iadd, 1) := by decide +kernel
theorem dX9_copy_81 : decode cX9_copy 81 = .ok (.iaload, 1) := by decide +kernel
theorem dX9_copy_82 : decode cX9_copy 82 = .ok (.i2l, 1) := by decide +kernel
theorem dX9_copy_83 : decode cX9_copy 83 = .ok (.lastore, 1) := by decide +kernel
theorem dX9_copy_84 : decode cX9_copy 84 = .ok (.iinc 2 1, 3) := by decide +kernel
theorem dX9_copy_87 : decode cX9_copy 87 = .ok (.goto (-34), 3) := by decide +kernel
theorem dX9_copy_90 : decode cX9_copy 90 = .ok (.aload_n 0, 1) := by decide +kernel
theorem dX9_copy_91 : decode cX9_copy 91 = .ok (.getfield 13, 3) := by decide +kernel
theorem dX9_copy_94 : decode cX9_copy 94 = .ok (.iconst 0, 1) := by decide +kernel
theorem dX9_copy_95 : decode cX9_copy 95 = .ok (.iaload, 1) := by decide +kernel
theorem dX9_copy_96 : decode cX9_copy 96 = .ok (.ireturn, 1) := by decide +kernel
theorem dX9_image_0 : decode cX9_image 0 = .ok (.aload_n 0, 1) := by decide +kernel
theorem dX9_image_1 : decode cX9_image 1 = .ok (.iconst 0, 1) := by decide +kernel
theorem dX9_image_2 : decode cX9_image 2 = .ok (.putfield 1, 3) := by decide +kernel
theorem dX9_image_5 : decode cX9_image 5 = .ok (.iload_n 1, 1) := by decide +kernel
theorem dX9_image_6 : decode cX9_image 6 = .ok (.i2l, 1) := by decide +kernel
theorem dX9_image_7 : decode cX9_image 7 = .ok (.lconst 0, 1) := by decide +kernel
theorem dX9_image_8 : decode cX9_image 8 = .ok (.lconst 1, 1) := by decide +kernel
theorem dX9_image_9 : decode cX9_image 9 = .ok (.invokestatic 128, 3) := by decide +kernel
