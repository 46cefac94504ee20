theorem dX9_explains_64 : decode cX9_explains 64 = .ok (.dup, 1) := by decide +kernel
theorem dX9_explains_65 : decode cX9_explains 65 = .ok (.getfield 300, 3) := by decide +kernel
theorem dX9_explains_68 : decode cX9_explains 68 = .ok (.aload_n 0, 1) := by decide +kernel
theorem dX9_explains_69 : decode cX9_explains 69 = .ok (.getfield 303, 3) := by decide +kernel
theorem dX9_explains_72 : decode cX9_explains 72 = .ok (.iand, 1) := by decide +kernel
theorem dX9_explains_73 : decode cX9_explains 73 = .ok (.putfield 300, 3) := by decide +kernel
theorem dX9_explains_76 : decode cX9_explains 76 = .ok (.return_, 1) := by decide +kernel
theorem dX9_explains_77 : decode cX9_explains 77 = .ok (.aload_n 0, 1) := by decide +kernel
theorem dX9_explains_78 : decode cX9_explains 78 = .ok (.iload_n 1, 1) := by decide +kernel
theorem dX9_explains_79 : decode cX9_explains 79 = .ok (.invokevirtual 216, 3) := by decide +kernel
theorem dX9_explains_82 : decode cX9_explains 82 = .ok (.aload_n 0, 1) := by decide +kernel
theorem dX9_explains_83 : decode cX9_explains 83 = .ok (.getfield 303, 3) := by decide +kernel
theorem dX9_explains_86 : decode cX9_explains 86 = .ok (.istore 4, 2) := by decide +kernel
theorem dX9_explains_88 : decode cX9_explains 88 = .ok (.iconst 0, 1) := by decide +kernel
theorem dX9_explains_89 : decode cX9_explains 89 = .ok (.istore 5, 2) := by decide +kernel
theorem dX9_explains_91 : decode cX9_explains 91 = .ok (.iload 5, 2) := by decide +kernel
theorem dX9_explains_93 : decode cX9_explains 93 = .ok (.iconst 3, 1) := by decide +kernel
theorem dX9_explains_94 : decode cX9_explains 94 = .ok (.if_icmp .ge 59, 3) := by decide +kernel
theorem dX9_explains_97 : decode cX9_explains 97 = .ok (.aload_n 0, 1) := by decide +kernel
theorem dX9_explains_98 : decode cX9_explains 98 = .ok (.iload 5, 2) := by decide +kernel
theorem dX9_explains_100 : decode cX9_explains 100 = .ok (.i2l, 1) := by decide +kernel
theorem dX9_explains_101 : decode cX9_explains 101 = .ok (.invokevirtual 202, 3) := by decide +kernel
theorem dX9_explains_104 : decode cX9_explains 104 = .ok (.ifCond .eq 6, 3) := by decide +kernel
theorem dX9_explains_107 : decode cX9_explains 107 = .ok (.goto 40, 3) := by decide +kernel
theorem dX9_explains_110 : decode cX9_explains 110 = .ok (.aload_n 0, 1) := by decide +kernel
theorem dX9_explains_111 : decode cX9_explains 111 = .ok (.iload 5, 2) := by decide +kernel
theorem dX9_explains_113 : decode cX9_explains 113 = .ok (.iconst 0, 1) := by decide +kernel
theorem dX9_explains_114 : decode cX9_explains 114 = .ok (.invokevirtual 206, 3) := by decide +kernel
theorem dX9_explains_117 : decode cX9_explains 117 = .ok (.pop, 1) := by decide +kernel
theorem dX9_explains_118 : decode cX9_explains 118 = .ok (.aload_n 0, 1) := by decide +kernel
theorem dX9_explains_119 : decode cX9_explains 119 = .ok (.iload 4, 2) := by decide +kernel
theorem dX9_explains_121 : decode cX9_explains 121 = .ok (.iconst 1, 1) := by decide +kernel
theorem dX9_explains_122 : decode cX9_explains 122 = .ok (.aload_n 0, 1) := by decide +kernel
theorem dX9_explains_123 : decode cX9_explains 123 = .ok (.getfield 13, 3) := by decide +kernel
theorem dX9_explains_126 : decode cX9_explains 126 = .ok (.iconst 2, 1) := by decide +kernel
theorem dX9_explains_127 : decode cX9_explains 127 = .ok (.iaload, 1) := by decide +kernel
theorem dX9_explains_128 : decode cX9_explains 128 = .ok (.ishl, 1) := by decide +kernel
theorem dX9_explains_129 : decode cX9_explains 129 = .ok (.ior, 1) := by decide +kernel
theorem dX9_explains_130 : decode cX9_explains 130 = .ok (.putfield 303, 3) := by decide +kernel
theorem dX9_explains_133 : decode cX9_explains 133 = .ok (.aload_n 0, 1) := by decide +kernel
theorem dX9_explains_134 : decode cX9_explains 134 = .ok (.iload_n 1, 1) := by decide +kernel
theorem dX9_explains_135 : decode cX9_explains 135 = .ok (.iconst 1, 1) := by decide +kernel
theorem dX9_explains_136 : decode cX9_explains 136 = .ok (.iadd, 1) := by decide +kernel
theorem dX9_explains_137 : decode cX9_explains 137 = .ok (.iload_n 2, 1) := by decide +kernel
theorem dX9_explains_138 : decode cX9_explains 138 = .ok (.iload_n 3, 1) := by decide +kernel
theorem dX9_explains_139 : decode cX9_explains 139 = .ok (.invokevirtual 306, 3) := by decide +kernel
theorem dX9_explains_142 : decode cX9_explains 142 = .ok (.aload_n 0, 1) := by decide +kernel
theorem dX9_explains_143 : decode cX9_explains 143 = .ok (.iload_n 1, 1) := by decide +kernel
theorem dX9_explains_144 : decode cX9_explains 144 = .ok (.invokevirtual 222, 3) := by decide +kernel
theorem dX9_explains_147 : decode cX9_explains 147 = .ok (.iinc 5 1, 3) := by decide +kernel
theorem dX9_explains_150 : decode cX9_explains 150 = .ok (.goto (-59), 3) := by decide +kernel
theorem dX9_explains_153 : decode cX9_explains 153 = .ok (.aload_n 0, 1) := by decide +kernel
theorem dX9_explains_154 : decode cX9_explains 154 = .ok (.iload 4, 2) := by decide +kernel
theorem dX9_explains_156 : decode cX9_explains 156 = .ok (.putfield 303, 3) := by decide +kernel
theorem dX9_explains_159 : decode cX9_explains 159 = .ok (.return_, 1) := by decide +kernel
theorem dX9_laysStubble_0 : decode cX9_laysStubble 0 = .ok (.iload_n 1, 1) := by decide +kernel
theorem dX9_laysStubble_1 : decode cX9_laysStubble 1 = .ok (.i2l, 1) := by decide +kernel
theorem dX9_laysStubble_2 : decode cX9_laysStubble 2 = .ok (.lconst 0, 1) := by decide +kernel
theorem dX9_laysStubble_3 : decode cX9_laysStubble 3 = .ok (.ldc2_w 180, 3) := by decide +kernel
theorem dX9_laysStubble_6 : decode cX9_laysStubble 6 = .ok (.invokestatic 128, 3) := by decide +kernel
theorem dX9_laysStubble_9 : decode cX9_laysStubble 9 = .ok (.ifCond .ne 6, 3) := by decide +kernel
theorem dX9_laysStubble_12 : decode cX9_laysStubble 12 = .ok (.bipush (-2), 2) := by decide +kernel
theorem dX9_laysStubble_14 : decode cX9_laysStubble 14 = .ok (.ireturn, 1) := by decide +kernel
theorem dX9_laysStubble_15 : decode cX9_laysStubble 15 = .ok (.aload_n 0, 1) := by decide +kernel
theorem dX9_laysStubble_16 : decode cX9_laysStubble 16 = .ok (.getfield 51, 3) := by decide +kernel
theorem dX9_laysStubble_19 : decode cX9_laysStubble 19 = .ok (.iload_n 1, 1) := by decide +kernel
theorem dX9_laysStubble_20 : decode cX9_laysStubble 20 = .ok (.iaload, 1) := by decide +kernel
theorem dX9_laysStubble_21 : decode cX9_laysStubble 21 = .ok (.iconst (-1), 1) := by decide +kernel
theorem dX9_laysStubble_22 : decode cX9_laysStubble 22 = .ok (.if_icmp .ne 6, 3) := by decide +kernel
theorem dX9_laysStubble_25 : decode cX9_laysStubble 25 = .ok (.bipush (-6), 2) := by decide +kernel
theorem dX9_laysStubble_27 : decode cX9_laysStubble 27 = .ok (.ireturn, 1) := by decide +kernel
theorem dX9_laysStubble_28 : decode cX9_laysStubble 28 = .ok (.aload_n 0, 1) := by decide +kernel
theorem dX9_laysStubble_29 : decode cX9_laysStubble 29 = .ok (.getfield 54, 3) := by decide +kernel
theorem dX9_laysStubble_32 : decode cX9_laysStubble 32 = .ok (.iload_n 1, 1) := by decide +kernel
theorem dX9_laysStubble_33 : decode cX9_laysStubble 33 = .ok (.iaload, 1) := by decide +kernel
theorem dX9_laysStubble_34 : decode cX9_laysStubble 34 = .ok (.aload_n 0, 1) := by decide +kernel
theorem dX9_laysStubble_35 : decode cX9_laysStubble 35 = .ok (.getfield 13, 3) := by decide +kernel
theorem dX9_laysStubble_38 : decode cX9_laysStubble 38 = .ok (.iconst 0, 1) := by decide +kernel
theorem dX9_laysStubble_39 : decode cX9_laysStubble 39 = .ok (.iaload, 1) := by decide +kernel
theorem dX9_laysStubble_40 : decode cX9_laysStubble 40 = .ok (.if_icmp .eq 6, 3) := by decide +kernel
theorem dX9_laysStubble_43 : decode cX9_laysStubble 43 = .ok (.bipush (-7), 2) := by decide +kernel
theorem dX9_laysStubble_45 : decode cX9_laysStubble 45 = .ok (.ireturn, 1) := by decide +kernel
theorem dX9_laysStubble_46 : decode cX9_laysStubble 46 = .ok (.iload_n 2, 1) := by decide +kernel
theorem dX9_laysStubble_47 : decode cX9_laysStubble 47 = .ok (.i2l, 1) := by decide +kernel
theorem dX9_laysStubble_48 : decode cX9_laysStubble 48 = .ok (.lconst 1, 1) := by decide +kernel
theorem dX9_laysStubble_49 : decode cX9_laysStubble 49 = .ok (.ldc2_w 267, 3) := by decide +kernel
theorem dX9_laysStubble_52 : decode cX9_laysStubble 52 = .ok (.invokestatic 128, 3) := by decide +kernel
theorem dX9_laysStubble_55 : decode cX9_laysStubble 55 = .ok (.ifCond .ne 6, 3) := by decide +kernel
theorem dX9_laysStubble_58 : decode cX9_laysStubble 58 = .ok (.bipush (-3), 2) := by decide +kernel
theorem dX9_laysStubble_60 : decode cX9_laysStubble 60 = .ok (.ireturn, 1) := by decide +kernel
theorem dX9_laysStubble_61 : decode cX9_laysStubble 61 = .ok (.aload_n 0, 1) := by decide +kernel
theorem dX9_laysStubble_62 : decode cX9_laysStubble 62 = .ok (.getfield 13, 3) := by decide +kernel
theorem dX9_laysStubble_65 : decode cX9_laysStubble 65 = .ok (.iconst 0, 1) := by decide +kernel
theorem dX9_laysStubble_66 : decode cX9_laysStubble 66 = .ok (.iaload, 1) := by decide +kernel
theorem dX9_laysStubble_67 : decode cX9_laysStubble 67 = .ok (.ifCond .ne 6, 3) := by decide +kernel
theorem dX9_laysStubble_70 : decode cX9_laysStubble 70 = .ok (.bipush (-5), 2) := by decide +kernel
theorem dX9_laysStubble_72 : decode cX9_laysStubble 72 = .ok (.ireturn, 1) := by decide +kernel
theorem dX9_laysStubble_73 : decode cX9_laysStubble 73 = .ok (.aload_n 0, 1) := by decide +kernel
theorem dX9_laysStubble_74 : decode cX9_laysStubble 74 = .ok (.iconst 0, 1) := by decide +kernel
theorem dX9_laysStubble_75 : decode cX9_laysStubble 75 = .ok (.putfield 297, 3) := by decide +kernel
theorem dX9_laysStubble_78 : decode cX9_laysStubble 78 = .ok (.aload_n 0, 1) := by decide +kernel
theorem dX9_laysStubble_79 : decode cX9_laysStubble 79 = .ok (.iconst 0, 1) := by decide +kernel
theorem dX9_laysStubble_80 : decode cX9_laysStubble 80 = .ok (.putfield 303, 3) := by decide +kernel
theorem dX9_laysStubble_83 : decode cX9_laysStubble 83 = .ok (.aload_n 0, 1) := by decide +kernel
theorem dX9_laysStubble_84 : decode cX9_laysStubble 84 = .ok (.iconst 1, 1) := by decide +kernel
theorem dX9_laysStubble_85 : decode cX9_laysStubble 85 = .ok (.aload_n 0, 1) := by decide +kernel
theorem dX9_laysStubble_86 : decode cX9_laysStubble 86 = .ok (.getfield 13, 3) := by decide +kernel
theorem dX9_laysStubble_89 : decode cX9_laysStubble 89 = .ok (.iconst 0, 1) := by decide +kernel
theorem dX9_laysStubble_90 : decode cX9_laysStubble 90 = .ok (.iaload, 1) := by decide +kernel
theorem dX9_laysStubble_91 : decode cX9_laysStubble 91 = .ok (.ishl, 1) := by decide +kernel
theorem dX9_laysStubble_92 : decode cX9_laysStubble 92 = .ok (.iconst 1, 1) := by decide +kernel
theorem dX9_laysStubble_93 : decode cX9_laysStubble 93 = .ok (.isub, 1) := by decide +kernel
theorem dX9_laysStubble_94 : decode cX9_laysStubble 94 = .ok (.putfield 300, 3) := by decide +kernel
theorem dX9_laysStubble_97 : decode cX9_laysStubble 97 = .ok (.aload_n 0, 1) := by decide +kernel
theorem dX9_laysStubble_98 : decode cX9_laysStubble 98 = .ok (.iconst 0, 1) := by decide +kernel
theorem dX9_laysStubble_99 : decode cX9_laysStubble 99 = .ok (.iload_n 2, 1) := by decide +kernel
theorem dX9_laysStubble_100 : decode cX9_laysStubble 100 = .ok (.iload_n 1, 1) := by decide +kernel
theorem dX9_laysStubble_101 : decode cX9_laysStubble 101 = .ok (.invokevirtual 306, 3) := by decide +kernel
theorem dX9_laysStubble_104 : decode cX9_laysStubble 104 = .ok (.iconst 0, 1) := by decide +kernel
theorem dX9_laysStubble_105 : decode cX9_laysStubble 105 = .ok (.ireturn, 1) := by decide +kernel
theorem dX9_stubble_0 : decode cX9_stubble 0 = .ok (.aload_n 0, 1) := by decide +kernel
theorem dX9_stubble_1 : decode cX9_stubble 1 = .ok (.iconst 0, 1) := by decide +kernel
theorem dX9_stubble_2 : decode cX9_stubble 2 = .ok (.putfield 1, 3) := by decide +kernel
theorem dX9_stubble_5 : decode cX9_stubble 5 = .ok (.aload_n 0, 1) := by decide +kernel
theorem dX9_stubble_6 : decode cX9_stubble 6 = .ok (.iload_n 1, 1) := by decide +kernel
theorem dX9_stubble_7 : decode cX9_stubble 7 = .ok (.iload_n 2, 1) := by decide +kernel
theorem dX9_stubble_8 : decode cX9_stubble 8 = .ok (.invokevirtual 310, 3) := by decide +kernel
theorem dX9_stubble_11 : decode cX9_stubble 11 = .ok (.istore_n 3, 1) := by decide +kernel
theorem dX9_stubble_12 : decode cX9_stubble 12 = .ok (.iload_n 3, 1) := by decide +kernel
theorem dX9_stubble_13 : decode cX9_stubble 13 = .ok (.ifCond .eq 7, 3) := by decide +kernel
theorem dX9_stubble_16 : decode cX9_stubble 16 = .ok (.iload_n 3, 1) := by decide +kernel
theorem dX9_stubble_17 : decode cX9_stubble 17 = .ok (.goto 7, 3) := by decide +kernel
theorem dX9_stubble_20 : decode cX9_stubble 20 = .ok (.aload_n 0, 1) := by decide +kernel
theorem dX9_stubble_21 : decode cX9_stubble 21 = .ok (.getfield 297, 3) := by decide +kernel
theorem dX9_stubble_24 : decode cX9_stubble 24 = .ok (.ireturn, 1) := by decide +kernel
theorem dX9_sure_0 : decode cX9_sure 0 = .ok (.aload_n 0, 1) := by decide +kernel
theorem dX9_sure_1 : decode cX9_sure 1 = .ok (.iconst 0, 1) := by decide +kernel
theorem dX9_sure_2 : decode cX9_sure 2 = .ok (.putfield 1, 3) := by decide +kernel
theorem dX9_sure_5 : decode cX9_sure 5 = .ok (.aload_n 0, 1) := by decide +kernel
theorem dX9_sure_6 : decode cX9_sure 6 = .ok (.iload_n 1, 1) := by decide +kernel
theorem dX9_sure_7 : decode cX9_sure 7 = .ok (.iload_n 2, 1) := by decide +kernel
theorem dX9_sure_8 : decode cX9_sure 8 = .ok (.invokevirtual 310, 3) := by decide +kernel
theorem dX9_sure_11 : decode cX9_sure 11 = .ok (.istore_n 3, 1) := by decide +kernel
theorem dX9_sure_12 : decode cX9_sure 12 = .ok (.iload_n 3, 1) := by decide +kernel
theorem dX9_sure_13 : decode cX9_sure 13 = .ok (.ifCond .eq 7, 3) := by decide +kernel
theorem dX9_sure_16 : decode cX9_sure 16 = .ok (.iload_n 3, 1) := by decide +kernel
theorem dX9_sure_17 : decode cX9_sure 17 = .ok (.goto 18, 3) := by decide +kernel
theorem dX9_sure_20 : decode cX9_sure 20 = .ok (.aload_n 0, 1) := by decide +kernel
theorem dX9_sure_21 : decode cX9_sure 21 = .ok (.getfield 297, 3) := by decide +kernel
theorem dX9_sure_24 : decode cX9_sure 24 = .ok (.ifCond .ne 7, 3) := by decide +kernel
theorem dX9_sure_27 : decode cX9_sure 27 = .ok (.iconst 0, 1) := by decide +kernel
theorem dX9_sure_28 : decode cX9_sure 28 = .ok (.goto 7, 3) := by decide +kernel
theorem dX9_sure_31 : decode cX9_sure 31 = .ok (.aload_n 0, 1) := by decide +kernel
theorem dX9_sure_32 : decode cX9_sure 32 = .ok (.getfield 300, 3) := by decide +kernel
theorem dX9_sure_35 : decode cX9_sure 35 = .ok (.ireturn, 1) := by decide +kernel
theorem dX9_isOther_0 : decode cX9_isOther 0 = .ok (.iload_n 2, 1) := by decide +kernel
theorem dX9_isOther_1 : decode cX9_isOther 1 = .ok (.aload_n 0, 1) := by decide +kernel
theorem dX9_isOther_2 : decode cX9_isOther 2 = .ok (.getfield 54, 3) := by decide +kernel
theorem dX9_isOther_5 : decode cX9_isOther 5 = .ok (.iload_n 1, 1) := by decide +kernel
theorem dX9_isOther_6 : decode cX9_isOther 6 = .ok (.iaload, 1) := by decide +kernel
theorem dX9_isOther_7 : decode cX9_isOther 7 = .ok (.if_icmp .ge 23, 3) := by decide +kernel
theorem dX9_isOther_10 : decode cX9_isOther 10 = .ok (.aload_n 0, 1) := by decide +kernel
theorem dX9_isOther_11 : decode cX9_isOther 11 = .ok (.getfield 57, 3) := by decide +kernel
theorem dX9_isOther_14 : decode cX9_isOther 14 = .ok (.bipush 40, 2) := by decide +kernel
theorem dX9_isOther_16 : decode cX9_isOther 16 = .ok (.iload_n 1, 1) := by decide +kernel
theorem dX9_isOther_17 : decode cX9_isOther 17 = .ok (.imul, 1) := by decide +kernel
theorem dX9_isOther_18 : decode cX9_isOther 18 = .ok (.iload_n 2, 1) := by decide +kernel
theorem dX9_isOther_19 : decode cX9_isOther 19 = .ok (.iadd, 1) := by decide +kernel
theorem dX9_isOther_20 : decode cX9_isOther 20 = .ok (.laload, 1) := by decide +kernel
theorem dX9_isOther_21 : decode cX9_isOther 21 = .ok (.lconst 0, 1) := by decide +kernel
theorem dX9_isOther_22 : decode cX9_isOther 22 = .ok (.lcmp, 1) := by decide +kernel
theorem dX9_isOther_23 : decode cX9_isOther 23 = .ok (.ifCond .ne 7, 3) := by decide +kernel
theorem dX9_isOther_26 : decode cX9_isOther 26 = .ok (.iconst 1, 1) := by decide +kernel
theorem dX9_isOther_27 : decode cX9_isOther 27 = .ok (.goto 4, 3) := by decide +kernel
theorem dX9_isOther_30 : decode cX9_isOther 30 = .ok (.iconst 0, 1) := by decide +kernel
theorem dX9_isOther_31 : decode cX9_isOther 31 = .ok (.ireturn, 1) := by decide +kernel
theorem dX9_canWalk_0 : decode cX9_canWalk 0 = .ok (.aload_n 0, 1) := by decide +kernel
theorem dX9_canWalk_1 : decode cX9_canWalk 1 = .ok (.getfield 13, 3) := by decide +kernel
theorem dX9_canWalk_4 : decode cX9_canWalk 4 = .ok (.iconst 2, 1) := by decide +kernel
theorem dX9_canWalk_5 : decode cX9_canWalk 5 = .ok (.iaload, 1) := by decide +kernel
theorem dX9_canWalk_6 : decode cX9_canWalk 6 = .ok (.istore_n 2, 1) := by decide +kernel
theorem dX9_canWalk_7 : decode cX9_canWalk 7 = .ok (.iconst 0, 1) := by decide +kernel
theorem dX9_canWalk_8 : decode cX9_canWalk 8 = .ok (.istore_n 3, 1) := by decide +kernel
theorem dX9_canWalk_9 : decode cX9_canWalk 9 = .ok (.iload_n 3, 1) := by decide +kernel
theorem dX9_canWalk_10 : decode cX9_canWalk 10 = .ok (.aload_n 0, 1) := by decide +kernel
theorem dX9_canWalk_11 : decode cX9_canWalk 11 = .ok (.getfield 54, 3) := by decide +kernel
theorem dX9_canWalk_14 : decode cX9_canWalk 14 = .ok (.iload_n 1, 1) := by decide +kernel
theorem dX9_canWalk_15 : decode cX9_canWalk 15 = .ok (.iaload, 1) := by decide +kernel
theorem dX9_canWalk_16 : decode cX9_canWalk 16 = .ok (.if_icmp .ge 56, 3) := by decide +kernel
theorem dX9_canWalk_19 : decode cX9_canWalk 19 = .ok (.aload_n 0, 1) := by decide +kernel
theorem dX9_canWalk_20 : decode cX9_canWalk 20 = .ok (.getfield 57, 3) := by decide +kernel
theorem dX9_canWalk_23 : decode cX9_canWalk 23 = .ok (.bipush 40, 2) := by decide +kernel
theorem dX9_canWalk_25 : decode cX9_canWalk 25 = .ok (.iload_n 1, 1) := by decide +kernel
theorem dX9_canWalk_26 : decode cX9_canWalk 26 = .ok (.imul, 1) := by decide +kernel
theorem dX9_canWalk_27 : decode cX9_canWalk 27 = .ok (.iload_n 3, 1) := by decide +kernel
theorem dX9_canWalk_28 : decode cX9_canWalk 28 = .ok (.iadd, 1) := by decide +kernel
theorem dX9_canWalk_29 : decode cX9_canWalk 29 = .ok (.laload, 1) := by decide +kernel
theorem dX9_canWalk_30 : decode cX9_canWalk 30 = .ok (.lstore 4, 2) := by decide +kernel
theorem dX9_canWalk_32 : decode cX9_canWalk 32 = .ok (.lload 4, 2) := by decide +kernel
theorem dX9_canWalk_34 : decode cX9_canWalk 34 = .ok (.lconst 0, 1) := by decide +kernel
