theorem dX9_walk_55 : decode cX9_walk 55 = .ok (.bipush 32, 2) := by decide +kernel
theorem dX9_walk_57 : decode cX9_walk 57 = .ok (.iload_n 2, 1) := by decide +kernel
theorem dX9_walk_58 : decode cX9_walk 58 = .ok (.iadd, 1) := by decide +kernel
theorem dX9_walk_59 : decode cX9_walk 59 = .ok (.iaload, 1) := by decide +kernel
theorem dX9_walk_60 : decode cX9_walk 60 = .ok (.iload_n 3, 1) := by decide +kernel
theorem dX9_walk_61 : decode cX9_walk 61 = .ok (.iadd, 1) := by decide +kernel
theorem dX9_walk_62 : decode cX9_walk 62 = .ok (.bipush 9, 2) := by decide +kernel
theorem dX9_walk_64 : decode cX9_walk 64 = .ok (.if_icmp .le 6, 3) := by decide +kernel
theorem dX9_walk_67 : decode cX9_walk 67 = .ok (.bipush (-4), 2) := by decide +kernel
theorem dX9_walk_69 : decode cX9_walk 69 = .ok (.ireturn, 1) := by decide +kernel
theorem dX9_walk_70 : decode cX9_walk 70 = .ok (.aload_n 0, 1) := by decide +kernel
theorem dX9_walk_71 : decode cX9_walk 71 = .ok (.getfield 13, 3) := by decide +kernel
theorem dX9_walk_74 : decode cX9_walk 74 = .ok (.bipush 32, 2) := by decide +kernel
theorem dX9_walk_76 : decode cX9_walk 76 = .ok (.iload_n 1, 1) := by decide +kernel
theorem dX9_walk_77 : decode cX9_walk 77 = .ok (.iadd, 1) := by decide +kernel
theorem dX9_walk_78 : decode cX9_walk 78 = .ok (.dup2, 1) := by decide +kernel
theorem dX9_walk_79 : decode cX9_walk 79 = .ok (.iaload, 1) := by decide +kernel
theorem dX9_walk_80 : decode cX9_walk 80 = .ok (.iload_n 3, 1) := by decide +kernel
theorem dX9_walk_81 : decode cX9_walk 81 = .ok (.isub, 1) := by decide +kernel
theorem dX9_walk_82 : decode cX9_walk 82 = .ok (.iastore, 1) := by decide +kernel
theorem dX9_walk_83 : decode cX9_walk 83 = .ok (.aload_n 0, 1) := by decide +kernel
theorem dX9_walk_84 : decode cX9_walk 84 = .ok (.getfield 13, 3) := by decide +kernel
theorem dX9_walk_87 : decode cX9_walk 87 = .ok (.bipush 32, 2) := by decide +kernel
theorem dX9_walk_89 : decode cX9_walk 89 = .ok (.iload_n 2, 1) := by decide +kernel
theorem dX9_walk_90 : decode cX9_walk 90 = .ok (.iadd, 1) := by decide +kernel
theorem dX9_walk_91 : decode cX9_walk 91 = .ok (.dup2, 1) := by decide +kernel
theorem dX9_walk_92 : decode cX9_walk 92 = .ok (.iaload, 1) := by decide +kernel
theorem dX9_walk_93 : decode cX9_walk 93 = .ok (.iload_n 3, 1) := by decide +kernel
theorem dX9_walk_94 : decode cX9_walk 94 = .ok (.iadd, 1) := by decide +kernel
theorem dX9_walk_95 : decode cX9_walk 95 = .ok (.iastore, 1) := by decide +kernel
theorem dX9_walk_96 : decode cX9_walk 96 = .ok (.iconst 0, 1) := by decide +kernel
theorem dX9_walk_97 : decode cX9_walk 97 = .ok (.ireturn, 1) := by decide +kernel
theorem dX9_total_0 : decode cX9_total 0 = .ok (.iconst 0, 1) := by decide +kernel
theorem dX9_total_1 : decode cX9_total 1 = .ok (.istore_n 1, 1) := by decide +kernel
theorem dX9_total_2 : decode cX9_total 2 = .ok (.iconst 0, 1) := by decide +kernel
theorem dX9_total_3 : decode cX9_total 3 = .ok (.istore_n 2, 1) := by decide +kernel
theorem dX9_total_4 : decode cX9_total 4 = .ok (.iload_n 2, 1) := by decide +kernel
theorem dX9_total_5 : decode cX9_total 5 = .ok (.bipush 6, 2) := by decide +kernel
theorem dX9_total_7 : decode cX9_total 7 = .ok (.if_icmp .ge 18, 3) := by decide +kernel
theorem dX9_total_10 : decode cX9_total 10 = .ok (.iload_n 1, 1) := by decide +kernel
theorem dX9_total_11 : decode cX9_total 11 = .ok (.aload_n 0, 1) := by decide +kernel
theorem dX9_total_12 : decode cX9_total 12 = .ok (.getfield 30, 3) := by decide +kernel
theorem dX9_total_15 : decode cX9_total 15 = .ok (.iload_n 2, 1) := by decide +kernel
theorem dX9_total_16 : decode cX9_total 16 = .ok (.iaload, 1) := by decide +kernel
theorem dX9_total_17 : decode cX9_total 17 = .ok (.iadd, 1) := by decide +kernel
theorem dX9_total_18 : decode cX9_total 18 = .ok (.istore_n 1, 1) := by decide +kernel
theorem dX9_total_19 : decode cX9_total 19 = .ok (.iinc 2 1, 3) := by decide +kernel
theorem dX9_total_22 : decode cX9_total 22 = .ok (.goto (-18), 3) := by decide +kernel
theorem dX9_total_25 : decode cX9_total 25 = .ok (.iload_n 1, 1) := by decide +kernel
theorem dX9_total_26 : decode cX9_total 26 = .ok (.ireturn, 1) := by decide +kernel
theorem dX9_firstWorth_0 : decode cX9_firstWorth 0 = .ok (.aload_n 0, 1) := by decide +kernel
theorem dX9_firstWorth_1 : decode cX9_firstWorth 1 = .ok (.getfield 236, 3) := by decide +kernel
theorem dX9_firstWorth_4 : decode cX9_firstWorth 4 = .ok (.ifCond .ne 8, 3) := by decide +kernel
theorem dX9_firstWorth_7 : decode cX9_firstWorth 7 = .ok (.aload_n 0, 1) := by decide +kernel
theorem dX9_firstWorth_8 : decode cX9_firstWorth 8 = .ok (.invokevirtual 239, 3) := by decide +kernel
theorem dX9_firstWorth_11 : decode cX9_firstWorth 11 = .ok (.ireturn, 1) := by decide +kernel
theorem dX9_firstWorth_12 : decode cX9_firstWorth 12 = .ok (.aload_n 0, 1) := by decide +kernel
theorem dX9_firstWorth_13 : decode cX9_firstWorth 13 = .ok (.getfield 236, 3) := by decide +kernel
theorem dX9_firstWorth_16 : decode cX9_firstWorth 16 = .ok (.iconst 3, 1) := by decide +kernel
theorem dX9_firstWorth_17 : decode cX9_firstWorth 17 = .ok (.if_icmp .ne 13, 3) := by decide +kernel
theorem dX9_firstWorth_20 : decode cX9_firstWorth 20 = .ok (.aload_n 0, 1) := by decide +kernel
theorem dX9_firstWorth_21 : decode cX9_firstWorth 21 = .ok (.getfield 30, 3) := by decide +kernel
theorem dX9_firstWorth_24 : decode cX9_firstWorth 24 = .ok (.aload_n 0, 1) := by decide +kernel
theorem dX9_firstWorth_25 : decode cX9_firstWorth 25 = .ok (.getfield 242, 3) := by decide +kernel
theorem dX9_firstWorth_28 : decode cX9_firstWorth 28 = .ok (.iaload, 1) := by decide +kernel
theorem dX9_firstWorth_29 : decode cX9_firstWorth 29 = .ok (.ireturn, 1) := by decide +kernel
theorem dX9_firstWorth_30 : decode cX9_firstWorth 30 = .ok (.iconst 0, 1) := by decide +kernel
theorem dX9_firstWorth_31 : decode cX9_firstWorth 31 = .ok (.istore_n 1, 1) := by decide +kernel
theorem dX9_firstWorth_32 : decode cX9_firstWorth 32 = .ok (.iconst (-1), 1) := by decide +kernel
theorem dX9_firstWorth_33 : decode cX9_firstWorth 33 = .ok (.istore_n 2, 1) := by decide +kernel
theorem dX9_firstWorth_34 : decode cX9_firstWorth 34 = .ok (.iconst 0, 1) := by decide +kernel
theorem dX9_firstWorth_35 : decode cX9_firstWorth 35 = .ok (.istore_n 3, 1) := by decide +kernel
theorem dX9_firstWorth_36 : decode cX9_firstWorth 36 = .ok (.iload_n 3, 1) := by decide +kernel
theorem dX9_firstWorth_37 : decode cX9_firstWorth 37 = .ok (.bipush 6, 2) := by decide +kernel
theorem dX9_firstWorth_39 : decode cX9_firstWorth 39 = .ok (.if_icmp .ge 58, 3) := by decide +kernel
theorem dX9_firstWorth_42 : decode cX9_firstWorth 42 = .ok (.iload_n 1, 1) := by decide +kernel
theorem dX9_firstWorth_43 : decode cX9_firstWorth 43 = .ok (.aload_n 0, 1) := by decide +kernel
theorem dX9_firstWorth_44 : decode cX9_firstWorth 44 = .ok (.getfield 30, 3) := by decide +kernel
theorem dX9_firstWorth_47 : decode cX9_firstWorth 47 = .ok (.iload_n 3, 1) := by decide +kernel
theorem dX9_firstWorth_48 : decode cX9_firstWorth 48 = .ok (.iaload, 1) := by decide +kernel
theorem dX9_firstWorth_49 : decode cX9_firstWorth 49 = .ok (.aload_n 0, 1) := by decide +kernel
theorem dX9_firstWorth_50 : decode cX9_firstWorth 50 = .ok (.getfield 13, 3) := by decide +kernel
theorem dX9_firstWorth_53 : decode cX9_firstWorth 53 = .ok (.bipush 10, 2) := by decide +kernel
theorem dX9_firstWorth_55 : decode cX9_firstWorth 55 = .ok (.iload_n 3, 1) := by decide +kernel
theorem dX9_firstWorth_56 : decode cX9_firstWorth 56 = .ok (.iadd, 1) := by decide +kernel
theorem dX9_firstWorth_57 : decode cX9_firstWorth 57 = .ok (.iaload, 1) := by decide +kernel
theorem dX9_firstWorth_58 : decode cX9_firstWorth 58 = .ok (.imul, 1) := by decide +kernel
theorem dX9_firstWorth_59 : decode cX9_firstWorth 59 = .ok (.iadd, 1) := by decide +kernel
theorem dX9_firstWorth_60 : decode cX9_firstWorth 60 = .ok (.istore_n 1, 1) := by decide +kernel
theorem dX9_firstWorth_61 : decode cX9_firstWorth 61 = .ok (.aload_n 0, 1) := by decide +kernel
theorem dX9_firstWorth_62 : decode cX9_firstWorth 62 = .ok (.iload_n 3, 1) := by decide +kernel
theorem dX9_firstWorth_63 : decode cX9_firstWorth 63 = .ok (.invokevirtual 185, 3) := by decide +kernel
theorem dX9_firstWorth_66 : decode cX9_firstWorth 66 = .ok (.ifCond .eq 25, 3) := by decide +kernel
theorem dX9_firstWorth_69 : decode cX9_firstWorth 69 = .ok (.iload_n 2, 1) := by decide +kernel
theorem dX9_firstWorth_70 : decode cX9_firstWorth 70 = .ok (.iconst (-1), 1) := by decide +kernel
theorem dX9_firstWorth_71 : decode cX9_firstWorth 71 = .ok (.if_icmp .eq 13, 3) := by decide +kernel
theorem dX9_firstWorth_74 : decode cX9_firstWorth 74 = .ok (.aload_n 0, 1) := by decide +kernel
theorem dX9_firstWorth_75 : decode cX9_firstWorth 75 = .ok (.getfield 30, 3) := by decide +kernel
theorem dX9_firstWorth_78 : decode cX9_firstWorth 78 = .ok (.iload_n 3, 1) := by decide +kernel
theorem dX9_firstWorth_79 : decode cX9_firstWorth 79 = .ok (.iaload, 1) := by decide +kernel
theorem dX9_firstWorth_80 : decode cX9_firstWorth 80 = .ok (.iload_n 2, 1) := by decide +kernel
theorem dX9_firstWorth_81 : decode cX9_firstWorth 81 = .ok (.if_icmp .ge 10, 3) := by decide +kernel
theorem dX9_firstWorth_84 : decode cX9_firstWorth 84 = .ok (.aload_n 0, 1) := by decide +kernel
theorem dX9_firstWorth_85 : decode cX9_firstWorth 85 = .ok (.getfield 30, 3) := by decide +kernel
theorem dX9_firstWorth_88 : decode cX9_firstWorth 88 = .ok (.iload_n 3, 1) := by decide +kernel
theorem dX9_firstWorth_89 : decode cX9_firstWorth 89 = .ok (.iaload, 1) := by decide +kernel
theorem dX9_firstWorth_90 : decode cX9_firstWorth 90 = .ok (.istore_n 2, 1) := by decide +kernel
theorem dX9_firstWorth_91 : decode cX9_firstWorth 91 = .ok (.iinc 3 1, 3) := by decide +kernel
theorem dX9_firstWorth_94 : decode cX9_firstWorth 94 = .ok (.goto (-58), 3) := by decide +kernel
theorem dX9_firstWorth_97 : decode cX9_firstWorth 97 = .ok (.aload_n 0, 1) := by decide +kernel
theorem dX9_firstWorth_98 : decode cX9_firstWorth 98 = .ok (.getfield 236, 3) := by decide +kernel
theorem dX9_firstWorth_101 : decode cX9_firstWorth 101 = .ok (.iconst 1, 1) := by decide +kernel
theorem dX9_firstWorth_102 : decode cX9_firstWorth 102 = .ok (.if_icmp .ne 7, 3) := by decide +kernel
theorem dX9_firstWorth_105 : decode cX9_firstWorth 105 = .ok (.iload_n 1, 1) := by decide +kernel
theorem dX9_firstWorth_106 : decode cX9_firstWorth 106 = .ok (.goto 4, 3) := by decide +kernel
theorem dX9_firstWorth_109 : decode cX9_firstWorth 109 = .ok (.iload_n 2, 1) := by decide +kernel
theorem dX9_firstWorth_110 : decode cX9_firstWorth 110 = .ok (.ireturn, 1) := by decide +kernel
theorem dX9_seeks_0 : decode cX9_seeks 0 = .ok (.iload_n 1, 1) := by decide +kernel
theorem dX9_seeks_1 : decode cX9_seeks 1 = .ok (.aload_n 0, 1) := by decide +kernel
theorem dX9_seeks_2 : decode cX9_seeks 2 = .ok (.getfield 245, 3) := by decide +kernel
theorem dX9_seeks_5 : decode cX9_seeks 5 = .ok (.if_icmp .ne 120, 3) := by decide +kernel
theorem dX9_seeks_8 : decode cX9_seeks 8 = .ok (.aload_n 0, 1) := by decide +kernel
theorem dX9_seeks_9 : decode cX9_seeks 9 = .ok (.invokevirtual 248, 3) := by decide +kernel
theorem dX9_seeks_12 : decode cX9_seeks 12 = .ok (.istore_n 2, 1) := by decide +kernel
theorem dX9_seeks_13 : decode cX9_seeks 13 = .ok (.aload_n 0, 1) := by decide +kernel
theorem dX9_seeks_14 : decode cX9_seeks 14 = .ok (.getfield 236, 3) := by decide +kernel
theorem dX9_seeks_17 : decode cX9_seeks 17 = .ok (.iconst 2, 1) := by decide +kernel
theorem dX9_seeks_18 : decode cX9_seeks 18 = .ok (.if_icmp .ne 10, 3) := by decide +kernel
theorem dX9_seeks_21 : decode cX9_seeks 21 = .ok (.aload_n 0, 1) := by decide +kernel
theorem dX9_seeks_22 : decode cX9_seeks 22 = .ok (.invokevirtual 239, 3) := by decide +kernel
theorem dX9_seeks_25 : decode cX9_seeks 25 = .ok (.goto 4, 3) := by decide +kernel
theorem dX9_seeks_28 : decode cX9_seeks 28 = .ok (.iconst 0, 1) := by decide +kernel
theorem dX9_seeks_29 : decode cX9_seeks 29 = .ok (.istore_n 3, 1) := by decide +kernel
theorem dX9_seeks_30 : decode cX9_seeks 30 = .ok (.iload_n 2, 1) := by decide +kernel
theorem dX9_seeks_31 : decode cX9_seeks 31 = .ok (.aload_n 0, 1) := by decide +kernel
theorem dX9_seeks_32 : decode cX9_seeks 32 = .ok (.getfield 251, 3) := by decide +kernel
theorem dX9_seeks_35 : decode cX9_seeks 35 = .ok (.if_icmp .lt 19, 3) := by decide +kernel
theorem dX9_seeks_38 : decode cX9_seeks 38 = .ok (.iload_n 2, 1) := by decide +kernel
theorem dX9_seeks_39 : decode cX9_seeks 39 = .ok (.aload_n 0, 1) := by decide +kernel
theorem dX9_seeks_40 : decode cX9_seeks 40 = .ok (.getfield 251, 3) := by decide +kernel
theorem dX9_seeks_43 : decode cX9_seeks 43 = .ok (.if_icmp .ne 12, 3) := by decide +kernel
theorem dX9_seeks_46 : decode cX9_seeks 46 = .ok (.iload_n 3, 1) := by decide +kernel
theorem dX9_seeks_47 : decode cX9_seeks 47 = .ok (.aload_n 0, 1) := by decide +kernel
theorem dX9_seeks_48 : decode cX9_seeks 48 = .ok (.getfield 254, 3) := by decide +kernel
theorem dX9_seeks_51 : decode cX9_seeks 51 = .ok (.if_icmp .gt 4, 3) := by decide +kernel
theorem dX9_seeks_54 : decode cX9_seeks 54 = .ok (.return_, 1) := by decide +kernel
theorem dX9_seeks_55 : decode cX9_seeks 55 = .ok (.aload_n 0, 1) := by decide +kernel
theorem dX9_seeks_56 : decode cX9_seeks 56 = .ok (.iload_n 2, 1) := by decide +kernel
theorem dX9_seeks_57 : decode cX9_seeks 57 = .ok (.putfield 251, 3) := by decide +kernel
theorem dX9_seeks_60 : decode cX9_seeks 60 = .ok (.aload_n 0, 1) := by decide +kernel
theorem dX9_seeks_61 : decode cX9_seeks 61 = .ok (.iload_n 3, 1) := by decide +kernel
theorem dX9_seeks_62 : decode cX9_seeks 62 = .ok (.putfield 254, 3) := by decide +kernel
theorem dX9_seeks_65 : decode cX9_seeks 65 = .ok (.iconst 0, 1) := by decide +kernel
theorem dX9_seeks_66 : decode cX9_seeks 66 = .ok (.istore 4, 2) := by decide +kernel
theorem dX9_seeks_68 : decode cX9_seeks 68 = .ok (.iload 4, 2) := by decide +kernel
theorem dX9_seeks_70 : decode cX9_seeks 70 = .ok (.iload_n 1, 1) := by decide +kernel
theorem dX9_seeks_71 : decode cX9_seeks 71 = .ok (.if_icmp .ge 23, 3) := by decide +kernel
theorem dX9_seeks_74 : decode cX9_seeks 74 = .ok (.aload_n 0, 1) := by decide +kernel
theorem dX9_seeks_75 : decode cX9_seeks 75 = .ok (.getfield 39, 3) := by decide +kernel
theorem dX9_seeks_78 : decode cX9_seeks 78 = .ok (.iload 4, 2) := by decide +kernel
theorem dX9_seeks_80 : decode cX9_seeks 80 = .ok (.aload_n 0, 1) := by decide +kernel
theorem dX9_seeks_81 : decode cX9_seeks 81 = .ok (.getfield 36, 3) := by decide +kernel
theorem dX9_seeks_84 : decode cX9_seeks 84 = .ok (.iload 4, 2) := by decide +kernel
theorem dX9_seeks_86 : decode cX9_seeks 86 = .ok (.iaload, 1) := by decide +kernel
theorem dX9_seeks_87 : decode cX9_seeks 87 = .ok (.iastore, 1) := by decide +kernel
theorem dX9_seeks_88 : decode cX9_seeks 88 = .ok (.iinc 4 1, 3) := by decide +kernel
theorem dX9_seeks_91 : decode cX9_seeks 91 = .ok (.goto (-23), 3) := by decide +kernel
theorem dX9_seeks_94 : decode cX9_seeks 94 = .ok (.iconst 0, 1) := by decide +kernel
theorem dX9_seeks_95 : decode cX9_seeks 95 = .ok (.istore 4, 2) := by decide +kernel
theorem dX9_seeks_97 : decode cX9_seeks 97 = .ok (.iload 4, 2) := by decide +kernel
theorem dX9_seeks_99 : decode cX9_seeks 99 = .ok (.bipush 6, 2) := by decide +kernel
theorem dX9_seeks_101 : decode cX9_seeks 101 = .ok (.if_icmp .ge 23, 3) := by decide +kernel
theorem dX9_seeks_104 : decode cX9_seeks 104 = .ok (.aload_n 0, 1) := by decide +kernel
theorem dX9_seeks_105 : decode cX9_seeks 105 = .ok (.getfield 42, 3) := by decide +kernel
theorem dX9_seeks_108 : decode cX9_seeks 108 = .ok (.iload 4, 2) := by decide +kernel
theorem dX9_seeks_110 : decode cX9_seeks 110 = .ok (.aload_n 0, 1) := by decide +kernel
theorem dX9_seeks_111 : decode cX9_seeks 111 = .ok (.getfield 30, 3) := by decide +kernel
theorem dX9_seeks_114 : decode cX9_seeks 114 = .ok (.iload 4, 2) := by decide +kernel
theorem dX9_seeks_116 : decode cX9_seeks 116 = .ok (.iaload, 1) := by decide +kernel
theorem dX9_seeks_117 : decode cX9_seeks 117 = .ok (.iastore, 1) := by decide +kernel
theorem dX9_seeks_118 : decode cX9_seeks 118 = .ok (.iinc 4 1, 3) := by decide +kernel
theorem dX9_seeks_121 : decode cX9_seeks 121 = .ok (.goto (-24), 3) := by decide +kernel
theorem dX9_seeks_124 : decode cX9_seeks 124 = .ok (.return_, 1) := by decide +kernel
theorem dX9_seeks_125 : decode cX9_seeks 125 = .ok (.aload_n 0, 1) := by decide +kernel
theorem dX9_seeks_126 : decode cX9_seeks 126 = .ok (.iload_n 1, 1) := by decide +kernel
theorem dX9_seeks_127 : decode cX9_seeks 127 = .ok (.invokevirtual 216, 3) := by decide +kernel
theorem dX9_seeks_130 : decode cX9_seeks 130 = .ok (.aload_n 0, 1) := by decide +kernel
theorem dX9_seeks_131 : decode cX9_seeks 131 = .ok (.getfield 30, 3) := by decide +kernel
theorem dX9_seeks_134 : decode cX9_seeks 134 = .ok (.iconst 0, 1) := by decide +kernel
theorem dX9_seeks_135 : decode cX9_seeks 135 = .ok (.iaload, 1) := by decide +kernel
theorem dX9_seeks_136 : decode cX9_seeks 136 = .ok (.istore_n 2, 1) := by decide +kernel
theorem dX9_seeks_137 : decode cX9_seeks 137 = .ok (.aload_n 0, 1) := by decide +kernel
theorem dX9_seeks_138 : decode cX9_seeks 138 = .ok (.getfield 30, 3) := by decide +kernel
theorem dX9_seeks_141 : decode cX9_seeks 141 = .ok (.iconst 1, 1) := by decide +kernel
theorem dX9_seeks_142 : decode cX9_seeks 142 = .ok (.iaload, 1) := by decide +kernel
theorem dX9_seeks_143 : decode cX9_seeks 143 = .ok (.istore_n 3, 1) := by decide +kernel
theorem dX9_seeks_144 : decode cX9_seeks 144 = .ok (.aload_n 0, 1) := by decide +kernel
theorem dX9_seeks_145 : decode cX9_seeks 145 = .ok (.getfield 30, 3) := by decide +kernel
theorem dX9_seeks_148 : decode cX9_seeks 148 = .ok (.iconst 2, 1) := by decide +kernel
theorem dX9_seeks_149 : decode cX9_seeks 149 = .ok (.iaload, 1) := by decide +kernel
theorem dX9_seeks_150 : decode cX9_seeks 150 = .ok (.istore 4, 2) := by decide +kernel
theorem dX9_seeks_152 : decode cX9_seeks 152 = .ok (.aload_n 0, 1) := by decide +kernel
theorem dX9_seeks_153 : decode cX9_seeks 153 = .ok (.getfield 30, 3) := by decide +kernel
theorem dX9_seeks_156 : decode cX9_seeks 156 = .ok (.iconst 3, 1) := by decide +kernel
theorem dX9_seeks_157 : decode cX9_seeks 157 = .ok (.iaload, 1) := by decide +kernel
theorem dX9_seeks_158 : decode cX9_seeks 158 = .ok (.istore 5, 2) := by decide +kernel
theorem dX9_seeks_160 : decode cX9_seeks 160 = .ok (.aload_n 0, 1) := by decide +kernel
theorem dX9_seeks_161 : decode cX9_seeks 161 = .ok (.getfield 30, 3) := by decide +kernel
theorem dX9_seeks_164 : decode cX9_seeks 164 = .ok (.iconst 4, 1) := by decide +kernel
theorem dX9_seeks_165 : decode cX9_seeks 165 = .ok (.iaload, 1) := by decide +kernel
theorem dX9_seeks_166 : decode cX9_seeks 166 = .ok (.istore 6, 2) := by decide +kernel
theorem dX9_seeks_168 : decode cX9_seeks 168 = .ok (.aload_n 0, 1) := by decide +kernel
theorem dX9_seeks_169 : decode cX9_seeks 169 = .ok (.getfield 30, 3) := by decide +kernel
theorem dX9_seeks_172 : decode cX9_seeks 172 = .ok (.iconst 5, 1) := by decide +kernel
theorem dX9_seeks_173 : decode cX9_seeks 173 = .ok (.iaload, 1) := by decide +kernel
theorem dX9_seeks_174 : decode cX9_seeks 174 = .ok (.istore 7, 2) := by decide +kernel
theorem dX9_seeks_176 : decode cX9_seeks 176 = .ok (.iconst 0, 1) := by decide +kernel
theorem dX9_seeks_177 : decode cX9_seeks 177 = .ok (.istore 8, 2) := by decide +kernel
theorem dX9_seeks_179 : decode cX9_seeks 179 = .ok (.iload 8, 2) := by decide +kernel
theorem dX9_seeks_181 : decode cX9_seeks 181 = .ok (.iconst 3, 1) := by decide +kernel
theorem dX9_seeks_182 : decode cX9_seeks 182 = .ok (.if_icmp .ge 96, 3) := by decide +kernel
theorem dX9_seeks_185 : decode cX9_seeks 185 = .ok (.aload_n 0, 1) := by decide +kernel
theorem dX9_seeks_186 : decode cX9_seeks 186 = .ok (.iload 8, 2) := by decide +kernel
theorem dX9_seeks_188 : decode cX9_seeks 188 = .ok (.i2l, 1) := by decide +kernel
theorem dX9_seeks_189 : decode cX9_seeks 189 = .ok (.invokevirtual 202, 3) := by decide +kernel
theorem dX9_seeks_192 : decode cX9_seeks 192 = .ok (.ifCond .eq 6, 3) := by decide +kernel
theorem dX9_seeks_195 : decode cX9_seeks 195 = .ok (.goto 77, 3) := by decide +kernel
theorem dX9_seeks_198 : decode cX9_seeks 198 = .ok (.aload_n 0, 1) := by decide +kernel
theorem dX9_seeks_199 : decode cX9_seeks 199 = .ok (.getfield 36, 3) := by decide +kernel
theorem dX9_seeks_202 : decode cX9_seeks 202 = .ok (.iload_n 1, 1) := by decide +kernel
theorem dX9_seeks_203 : decode cX9_seeks 203 = .ok (.iload 8, 2) := by decide +kernel
theorem dX9_seeks_205 : decode cX9_seeks 205 = .ok (.iastore, 1) := by decide +kernel
theorem dX9_seeks_206 : decode cX9_seeks 206 = .ok (.aload_n 0, 1) := by decide +kernel
theorem dX9_seeks_207 : decode cX9_seeks 207 = .ok (.iload 8, 2) := by decide +kernel
theorem dX9_seeks_209 : decode cX9_seeks 209 = .ok (.iconst 0, 1) := by decide +kernel
theorem dX9_seeks_210 : decode cX9_seeks 210 = .ok (.invokevirtual 206, 3) := by decide +kernel
theorem dX9_seeks_213 : decode cX9_seeks 213 = .ok (.pop, 1) := by decide +kernel
theorem dX9_seeks_214 : decode cX9_seeks 214 = .ok (.aload_n 0, 1) := by decide +kernel
theorem dX9_seeks_215 : decode cX9_seeks 215 = .ok (.iload_n 1, 1) := by decide +kernel
theorem dX9_seeks_216 : decode cX9_seeks 216 = .ok (.iconst 1, 1) := by decide +kernel
theorem dX9_seeks_217 : decode cX9_seeks 217 = .ok (.iadd, 1) := by decide +kernel
theorem dX9_seeks_218 : decode cX9_seeks 218 = .ok (.invokevirtual 257, 3) := by decide +kernel
theorem dX9_seeks_221 : decode cX9_seeks 221 = .ok (.aload_n 0, 1) := by decide +kernel
theorem dX9_seeks_222 : decode cX9_seeks 222 = .ok (.iload_n 1, 1) := by decide +kernel
theorem dX9_seeks_223 : decode cX9_seeks 223 = .ok (.invokevirtual 222, 3) := by decide +kernel
theorem dX9_seeks_226 : decode cX9_seeks 226 = .ok (.aload_n 0, 1) := by decide +kernel
theorem dX9_seeks_227 : decode cX9_seeks 227 = .ok (.getfield 30, 3) := by decide +kernel
theorem dX9_seeks_230 : decode cX9_seeks 230 = .ok (.iconst 0, 1) := by decide +kernel
theorem dX9_seeks_231 : decode cX9_seeks 231 = .ok (.iload_n 2, 1) := by decide +kernel
theorem dX9_seeks_232 : decode cX9_seeks 232 = .ok (.iastore, 1) := by decide +kernel
theorem dX9_seeks_233 : decode cX9_seeks 233 = .ok (.aload_n 0, 1) := by decide +kernel
theorem dX9_seeks_234 : decode cX9_seeks 234 = .ok (.getfield 30, 3) := by decide +kernel
theorem dX9_seeks_237 : decode cX9_seeks 237 = .ok (.iconst 1, 1) := by decide +kernel
theorem dX9_seeks_238 : decode cX9_seeks 238 = .ok (.iload_n 3, 1) := by decide +kernel
theorem dX9_seeks_239 : decode cX9_seeks 239 = .ok (.iastore, 1) := by decide +kernel
theorem dX9_seeks_240 : decode cX9_seeks 240 = .ok (.aload_n 0, 1) := by decide +kernel
theorem dX9_seeks_241 : decode cX9_seeks 241 = .ok (.getfield 30, 3) := by decide +kernel
theorem dX9_seeks_244 : decode cX9_seeks 244 = .ok (.iconst 2, 1) := by decide +kernel
theorem dX9_seeks_245 : decode cX9_seeks 245 = .ok (.iload 4, 2) := by decide +kernel
theorem dX9_seeks_247 : decode cX9_seeks 247 = .ok (.iastore, 1) := by decide +kernel
theorem dX9_seeks_248 : decode cX9_seeks 248 = .ok (.aload_n 0, 1) := by decide +kernel
theorem dX9_seeks_249 : decode cX9_seeks 249 = .ok (.getfield 30, 3) := by decide +kernel
theorem dX9_seeks_252 : decode cX9_seeks 252 = .ok (.iconst 3, 1) := by decide +kernel
theorem dX9_seeks_253 : decode cX9_seeks 253 = .ok (.iload 5, 2) := by decide +kernel
theorem dX9_seeks_255 : decode cX9_seeks 255 = .ok (.iastore, 1) := by decide +kernel
theorem dX9_seeks_256 : decode cX9_seeks 256 = .ok (.aload_n 0, 1) := by decide +kernel
theorem dX9_seeks_257 : decode cX9_seeks 257 = .ok (.getfield 30, 3) := by decide +kernel
theorem dX9_seeks_260 : decode cX9_seeks 260 = .ok (.iconst 4, 1) := by decide +kernel
theorem dX9_seeks_261 : decode cX9_seeks 261 = .ok (.iload 6, 2) := by decide +kernel
theorem dX9_seeks_263 : decode cX9_seeks 263 = .ok (.iastore, 1) := by decide +kernel
theorem dX9_seeks_264 : decode cX9_seeks 264 = .ok (.aload_n 0, 1) := by decide +kernel
theorem dX9_seeks_265 : decode cX9_seeks 265 = .ok (.getfield 30, 3) := by decide +kernel
theorem dX9_seeks_268 : decode cX9_seeks 268 = .ok (.iconst 5, 1) := by decide +kernel
theorem dX9_seeks_269 : decode cX9_seeks 269 = .ok (.iload 7, 2) := by decide +kernel
theorem dX9_seeks_271 : decode cX9_seeks 271 = .ok (.iastore, 1) := by decide +kernel
theorem dX9_seeks_272 : decode cX9_seeks 272 = .ok (.iinc 8 1, 3) := by decide +kernel
theorem dX9_seeks_275 : decode cX9_seeks 275 = .ok (.goto (-96), 3) := by decide +kernel
theorem dX9_seeks_278 : decode cX9_seeks 278 = .ok (.return_, 1) := by decide +kernel
theorem dX9_minutesOf_0 : decode cX9_minutesOf 0 = .ok (.aload_n 0, 1) := by decide +kernel
theorem dX9_minutesOf_1 : decode cX9_minutesOf 1 = .ok (.getfield 13, 3) := by decide +kernel
theorem dX9_minutesOf_4 : decode cX9_minutesOf 4 = .ok (.bipush 6, 2) := by decide +kernel
theorem dX9_minutesOf_6 : decode cX9_minutesOf 6 = .ok (.iaload, 1) := by decide +kernel
theorem dX9_minutesOf_7 : decode cX9_minutesOf 7 = .ok (.iload_n 1, 1) := by decide +kernel
theorem dX9_minutesOf_8 : decode cX9_minutesOf 8 = .ok (.if_icmp .ge 13, 3) := by decide +kernel
theorem dX9_minutesOf_11 : decode cX9_minutesOf 11 = .ok (.aload_n 0, 1) := by decide +kernel
theorem dX9_minutesOf_12 : decode cX9_minutesOf 12 = .ok (.getfield 13, 3) := by decide +kernel
theorem dX9_minutesOf_15 : decode cX9_minutesOf 15 = .ok (.bipush 6, 2) := by decide +kernel
theorem dX9_minutesOf_17 : decode cX9_minutesOf 17 = .ok (.iaload, 1) := by decide +kernel
theorem dX9_minutesOf_18 : decode cX9_minutesOf 18 = .ok (.goto 4, 3) := by decide +kernel
theorem dX9_minutesOf_21 : decode cX9_minutesOf 21 = .ok (.iload_n 1, 1) := by decide +kernel
theorem dX9_minutesOf_22 : decode cX9_minutesOf 22 = .ok (.istore_n 2, 1) := by decide +kernel
theorem dX9_minutesOf_23 : decode cX9_minutesOf 23 = .ok (.sipush 9999, 3) := by decide +kernel
theorem dX9_minutesOf_26 : decode cX9_minutesOf 26 = .ok (.aload_n 0, 1) := by decide +kernel
theorem dX9_minutesOf_27 : decode cX9_minutesOf 27 = .ok (.getfield 13, 3) := by decide +kernel
theorem dX9_minutesOf_30 : decode cX9_minutesOf 30 = .ok (.iconst 1, 1) := by decide +kernel
theorem dX9_minutesOf_31 : decode cX9_minutesOf 31 = .ok (.iaload, 1) := by decide +kernel
theorem dX9_minutesOf_32 : decode cX9_minutesOf 32 = .ok (.isub, 1) := by decide +kernel
theorem dX9_minutesOf_33 : decode cX9_minutesOf 33 = .ok (.iload_n 2, 1) := by decide +kernel
theorem dX9_minutesOf_34 : decode cX9_minutesOf 34 = .ok (.if_icmp .ge 16, 3) := by decide +kernel
theorem dX9_minutesOf_37 : decode cX9_minutesOf 37 = .ok (.sipush 9999, 3) := by decide +kernel
theorem dX9_minutesOf_40 : decode cX9_minutesOf 40 = .ok (.aload_n 0, 1) := by decide +kernel
theorem dX9_minutesOf_41 : decode cX9_minutesOf 41 = .ok (.getfield 13, 3) := by decide +kernel
theorem dX9_minutesOf_44 : decode cX9_minutesOf 44 = .ok (.iconst 1, 1) := by decide +kernel
theorem dX9_minutesOf_45 : decode cX9_minutesOf 45 = .ok (.iaload, 1) := by decide +kernel
theorem dX9_minutesOf_46 : decode cX9_minutesOf 46 = .ok (.isub, 1) := by decide +kernel
theorem dX9_minutesOf_47 : decode cX9_minutesOf 47 = .ok (.goto 4, 3) := by decide +kernel
theorem dX9_minutesOf_50 : decode cX9_minutesOf 50 = .ok (.iload_n 2, 1) := by decide +kernel
theorem dX9_minutesOf_51 : decode cX9_minutesOf 51 = .ok (.ireturn, 1) := by decide +kernel
theorem dX9_laysBest_0 : decode cX9_laysBest 0 = .ok (.aload_n 0, 1) := by decide +kernel
theorem dX9_laysBest_1 : decode cX9_laysBest 1 = .ok (.iload_n 1, 1) := by decide +kernel
theorem dX9_laysBest_2 : decode cX9_laysBest 2 = .ok (.putfield 236, 3) := by decide +kernel
theorem dX9_laysBest_5 : decode cX9_laysBest 5 = .ok (.aload_n 0, 1) := by decide +kernel
theorem dX9_laysBest_6 : decode cX9_laysBest 6 = .ok (.iload_n 2, 1) := by decide +kernel
theorem dX9_laysBest_7 : decode cX9_laysBest 7 = .ok (.putfield 242, 3) := by decide +kernel
theorem dX9_laysBest_10 : decode cX9_laysBest 10 = .ok (.aload_n 0, 1) := by decide +kernel
theorem dX9_laysBest_11 : decode cX9_laysBest 11 = .ok (.aload_n 0, 1) := by decide +kernel
theorem dX9_laysBest_12 : decode cX9_laysBest 12 = .ok (.iload_n 3, 1) := by decide +kernel
theorem dX9_laysBest_13 : decode cX9_laysBest 13 = .ok (.invokevirtual 260, 3) := by decide +kernel
theorem dX9_laysBest_16 : decode cX9_laysBest 16 = .ok (.putfield 245, 3) := by decide +kernel
theorem dX9_laysBest_19 : decode cX9_laysBest 19 = .ok (.aload_n 0, 1) := by decide +kernel
theorem dX9_laysBest_20 : decode cX9_laysBest 20 = .ok (.iconst (-1), 1) := by decide +kernel
theorem dX9_laysBest_21 : decode cX9_laysBest 21 = .ok (.putfield 251, 3) := by decide +kernel
theorem dX9_laysBest_24 : decode cX9_laysBest 24 = .ok (.aload_n 0, 1) := by decide +kernel
theorem dX9_laysBest_25 : decode cX9_laysBest 25 = .ok (.iconst (-1), 1) := by decide +kernel
theorem dX9_laysBest_26 : decode cX9_laysBest 26 = .ok (.putfield 254, 3) := by decide +kernel
theorem dX9_laysBest_29 : decode cX9_laysBest 29 = .ok (.iconst 0, 1) := by decide +kernel
theorem dX9_laysBest_30 : decode cX9_laysBest 30 = .ok (.istore 4, 2) := by decide +kernel
theorem dX9_laysBest_32 : decode cX9_laysBest 32 = .ok (.iload 4, 2) := by decide +kernel
theorem dX9_laysBest_34 : decode cX9_laysBest 34 = .ok (.bipush 6, 2) := by decide +kernel
theorem dX9_laysBest_36 : decode cX9_laysBest 36 = .ok (.if_icmp .ge 17, 3) := by decide +kernel
theorem dX9_laysBest_39 : decode cX9_laysBest 39 = .ok (.aload_n 0, 1) := by decide +kernel
theorem dX9_laysBest_40 : decode cX9_laysBest 40 = .ok (.getfield 30, 3) := by decide +kernel
theorem dX9_laysBest_43 : decode cX9_laysBest 43 = .ok (.iload 4, 2) := by decide +kernel
theorem dX9_laysBest_45 : decode cX9_laysBest 45 = .ok (.iconst 0, 1) := by decide +kernel
theorem dX9_laysBest_46 : decode cX9_laysBest 46 = .ok (.iastore, 1) := by decide +kernel
theorem dX9_laysBest_47 : decode cX9_laysBest 47 = .ok (.iinc 4 1, 3) := by decide +kernel
theorem dX9_laysBest_50 : decode cX9_laysBest 50 = .ok (.goto (-18), 3) := by decide +kernel
theorem dX9_laysBest_53 : decode cX9_laysBest 53 = .ok (.aload_n 0, 1) := by decide +kernel
theorem dX9_laysBest_54 : decode cX9_laysBest 54 = .ok (.iconst 0, 1) := by decide +kernel
theorem dX9_laysBest_55 : decode cX9_laysBest 55 = .ok (.invokevirtual 257, 3) := by decide +kernel
theorem dX9_laysBest_58 : decode cX9_laysBest 58 = .ok (.aload_n 0, 1) := by decide +kernel
theorem dX9_laysBest_59 : decode cX9_laysBest 59 = .ok (.getfield 251, 3) := by decide +kernel
theorem dX9_laysBest_62 : decode cX9_laysBest 62 = .ok (.ireturn, 1) := by decide +kernel
theorem dX9_told_0 : decode cX9_told 0 = .ok (.iload 4, 2) := by decide +kernel
theorem dX9_told_2 : decode cX9_told 2 = .ok (.ifCond .eq 32, 3) := by decide +kernel
theorem dX9_told_5 : decode cX9_told 5 = .ok (.iload 5, 2) := by decide +kernel
theorem dX9_told_7 : decode cX9_told 7 = .ok (.ifCond .eq 9, 3) := by decide +kernel
theorem dX9_told_10 : decode cX9_told 10 = .ok (.iload 4, 2) := by decide +kernel
theorem dX9_told_12 : decode cX9_told 12 = .ok (.iconst 1, 1) := by decide +kernel
theorem dX9_told_13 : decode cX9_told 13 = .ok (.if_icmp .eq 21, 3) := by decide +kernel
theorem dX9_told_16 : decode cX9_told 16 = .ok (.iload 4, 2) := by decide +kernel
theorem dX9_told_18 : decode cX9_told 18 = .ok (.i2l, 1) := by decide +kernel
theorem dX9_told_19 : decode cX9_told 19 = .ok (.ldc2_w 263, 3) := by decide +kernel
theorem dX9_told_22 : decode cX9_told 22 = .ok (.ldc2_w 265, 3) := by decide +kernel
theorem dX9_told_25 : decode cX9_told 25 = .ok (.invokestatic 128, 3) := by decide +kernel
theorem dX9_told_28 : decode cX9_told 28 = .ok (.ifCond .ne 6, 3) := by decide +kernel
theorem dX9_told_31 : decode cX9_told 31 = .ok (.bipush (-2), 2) := by decide +kernel
theorem dX9_told_33 : decode cX9_told 33 = .ok (.ireturn, 1) := by decide +kernel
theorem dX9_told_34 : decode cX9_told 34 = .ok (.iload_n 3, 1) := by decide +kernel
theorem dX9_told_35 : decode cX9_told 35 = .ok (.i2l, 1) := by decide +kernel
theorem dX9_told_36 : decode cX9_told 36 = .ok (.lconst 1, 1) := by decide +kernel
theorem dX9_told_37 : decode cX9_told 37 = .ok (.ldc2_w 267, 3) := by decide +kernel
theorem dX9_told_40 : decode cX9_told 40 = .ok (.invokestatic 128, 3) := by decide +kernel
theorem dX9_told_43 : decode cX9_told 43 = .ok (.ifCond .ne 6, 3) := by decide +kernel
theorem dX9_told_46 : decode cX9_told 46 = .ok (.bipush (-3), 2) := by decide +kernel
theorem dX9_told_48 : decode cX9_told 48 = .ok (.ireturn, 1) := by decide +kernel
theorem dX9_told_49 : decode cX9_told 49 = .ok (.aload_n 0, 1) := by decide +kernel
theorem dX9_told_50 : decode cX9_told 50 = .ok (.getfield 13, 3) := by decide +kernel
theorem dX9_told_53 : decode cX9_told 53 = .ok (.iconst 0, 1) := by decide +kernel
theorem dX9_told_54 : decode cX9_told 54 = .ok (.iaload, 1) := by decide +kernel
theorem dX9_told_55 : decode cX9_told 55 = .ok (.ifCond .ne 6, 3) := by decide +kernel
theorem dX9_told_58 : decode cX9_told 58 = .ok (.bipush (-5), 2) := by decide +kernel
theorem dX9_told_60 : decode cX9_told 60 = .ok (.ireturn, 1) := by decide +kernel
theorem dX9_told_61 : decode cX9_told 61 = .ok (.aload_n 0, 1) := by decide +kernel
theorem dX9_told_62 : decode cX9_told 62 = .ok (.iload_n 1, 1) := by decide +kernel
theorem dX9_told_63 : decode cX9_told 63 = .ok (.iload_n 2, 1) := by decide +kernel
theorem dX9_told_64 : decode cX9_told 64 = .ok (.iload_n 3, 1) := by decide +kernel
theorem dX9_told_65 : decode cX9_told 65 = .ok (.invokevirtual 269, 3) := by decide +kernel
theorem dX9_told_68 : decode cX9_told 68 = .ok (.pop, 1) := by decide +kernel
theorem dX9_told_69 : decode cX9_told 69 = .ok (.iload 4, 2) := by decide +kernel
theorem dX9_told_71 : decode cX9_told 71 = .ok (.ifCond .ne 8, 3) := by decide +kernel
theorem dX9_told_74 : decode cX9_told 74 = .ok (.aload_n 0, 1) := by decide +kernel
theorem dX9_told_75 : decode cX9_told 75 = .ok (.getfield 251, 3) := by decide +kernel
theorem dX9_told_78 : decode cX9_told 78 = .ok (.ireturn, 1) := by decide +kernel
theorem dX9_told_79 : decode cX9_told 79 = .ok (.iload 4, 2) := by decide +kernel
theorem dX9_told_81 : decode cX9_told 81 = .ok (.iconst 1, 1) := by decide +kernel
theorem dX9_told_82 : decode cX9_told 82 = .ok (.if_icmp .ne 20, 3) := by decide +kernel
theorem dX9_told_85 : decode cX9_told 85 = .ok (.iload_n 1, 1) := by decide +kernel
theorem dX9_told_86 : decode cX9_told 86 = .ok (.iconst 2, 1) := by decide +kernel
theorem dX9_told_87 : decode cX9_told 87 = .ok (.if_icmp .ne 10, 3) := by decide +kernel
theorem dX9_told_90 : decode cX9_told 90 = .ok (.aload_n 0, 1) := by decide +kernel
theorem dX9_told_91 : decode cX9_told 91 = .ok (.getfield 254, 3) := by decide +kernel
theorem dX9_told_94 : decode cX9_told 94 = .ok (.goto 7, 3) := by decide +kernel
theorem dX9_told_97 : decode cX9_told 97 = .ok (.aload_n 0, 1) := by decide +kernel
theorem dX9_told_98 : decode cX9_told 98 = .ok (.getfield 245, 3) := by decide +kernel
theorem dX9_told_101 : decode cX9_told 101 = .ok (.ireturn, 1) := by decide +kernel
theorem dX9_told_102 : decode cX9_told 102 = .ok (.iload 4, 2) := by decide +kernel
theorem dX9_told_104 : decode cX9_told 104 = .ok (.bipush 10, 2) := by decide +kernel
theorem dX9_told_106 : decode cX9_told 106 = .ok (.isub, 1) := by decide +kernel
theorem dX9_told_107 : decode cX9_told 107 = .ok (.aload_n 0, 1) := by decide +kernel
theorem dX9_told_108 : decode cX9_told 108 = .ok (.getfield 245, 3) := by decide +kernel
theorem dX9_told_111 : decode cX9_told 111 = .ok (.if_icmp .ge 16, 3) := by decide +kernel
theorem dX9_told_114 : decode cX9_told 114 = .ok (.aload_n 0, 1) := by decide +kernel
theorem dX9_told_115 : decode cX9_told 115 = .ok (.getfield 39, 3) := by decide +kernel
theorem dX9_told_118 : decode cX9_told 118 = .ok (.iload 4, 2) := by decide +kernel
theorem dX9_told_120 : decode cX9_told 120 = .ok (.bipush 10, 2) := by decide +kernel
theorem dX9_told_122 : decode cX9_told 122 = .ok (.isub, 1) := by decide +kernel
theorem dX9_told_123 : decode cX9_told 123 = .ok (.iaload, 1) := by decide +kernel
theorem dX9_told_124 : decode cX9_told 124 = .ok (.goto 4, 3) := by decide +kernel
theorem dX9_told_127 : decode cX9_told 127 = .ok (.iconst (-1), 1) := by decide +kernel
theorem dX9_told_128 : decode cX9_told 128 = .ok (.ireturn, 1) := by decide +kernel
theorem dX9_most_0 : decode cX9_most 0 = .ok (.aload_n 0, 1) := by decide +kernel
theorem dX9_most_1 : decode cX9_most 1 = .ok (.iconst 0, 1) := by decide +kernel
theorem dX9_most_2 : decode cX9_most 2 = .ok (.putfield 1, 3) := by decide +kernel
theorem dX9_most_5 : decode cX9_most 5 = .ok (.aload_n 0, 1) := by decide +kernel
theorem dX9_most_6 : decode cX9_most 6 = .ok (.iconst 0, 1) := by decide +kernel
theorem dX9_most_7 : decode cX9_most 7 = .ok (.iconst 0, 1) := by decide +kernel
theorem dX9_most_8 : decode cX9_most 8 = .ok (.iload_n 1, 1) := by decide +kernel
theorem dX9_most_9 : decode cX9_most 9 = .ok (.iload_n 2, 1) := by decide +kernel
theorem dX9_most_10 : decode cX9_most 10 = .ok (.iconst 1, 1) := by decide +kernel
theorem dX9_most_11 : decode cX9_most 11 = .ok (.invokevirtual 272, 3) := by decide +kernel
theorem dX9_most_14 : decode cX9_most 14 = .ok (.ireturn, 1) := by decide +kernel
theorem dX9_dearest_0 : decode cX9_dearest 0 = .ok (.aload_n 0, 1) := by decide +kernel
theorem dX9_dearest_1 : decode cX9_dearest 1 = .ok (.iconst 0, 1) := by decide +kernel
theorem dX9_dearest_2 : decode cX9_dearest 2 = .ok (.putfield 1, 3) := by decide +kernel
theorem dX9_dearest_5 : decode cX9_dearest 5 = .ok (.aload_n 0, 1) := by decide +kernel
theorem dX9_dearest_6 : decode cX9_dearest 6 = .ok (.iconst 1, 1) := by decide +kernel
theorem dX9_dearest_7 : decode cX9_dearest 7 = .ok (.iconst 0, 1) := by decide +kernel
theorem dX9_dearest_8 : decode cX9_dearest 8 = .ok (.iload_n 1, 1) := by decide +kernel
theorem dX9_dearest_9 : decode cX9_dearest 9 = .ok (.iload_n 2, 1) := by decide +kernel
theorem dX9_dearest_10 : decode cX9_dearest 10 = .ok (.iconst 0, 1) := by decide +kernel
theorem dX9_dearest_11 : decode cX9_dearest 11 = .ok (.invokevirtual 272, 3) := by decide +kernel
theorem dX9_dearest_14 : decode cX9_dearest 14 = .ok (.ireturn, 1) := by decide +kernel
theorem dX9_fairest_0 : decode cX9_fairest 0 = .ok (.aload_n 0, 1) := by decide +kernel
theorem dX9_fairest_1 : decode cX9_fairest 1 = .ok (.iconst 0, 1) := by decide +kernel
theorem dX9_fairest_2 : decode cX9_fairest 2 = .ok (.putfield 1, 3) := by decide +kernel
theorem dX9_fairest_5 : decode cX9_fairest 5 = .ok (.aload_n 0, 1) := by decide +kernel
theorem dX9_fairest_6 : decode cX9_fairest 6 = .ok (.iconst 2, 1) := by decide +kernel
theorem dX9_fairest_7 : decode cX9_fairest 7 = .ok (.iconst 0, 1) := by decide +kernel
theorem dX9_fairest_8 : decode cX9_fairest 8 = .ok (.iload_n 1, 1) := by decide +kernel
theorem dX9_fairest_9 : decode cX9_fairest 9 = .ok (.iload_n 2, 1) := by decide +kernel
theorem dX9_fairest_10 : decode cX9_fairest 10 = .ok (.iconst 1, 1) := by decide +kernel
theorem dX9_fairest_11 : decode cX9_fairest 11 = .ok (.invokevirtual 272, 3) := by decide +kernel
theorem dX9_fairest_14 : decode cX9_fairest 14 = .ok (.ireturn, 1) := by decide +kernel
theorem dX9_alone_0 : decode cX9_alone 0 = .ok (.aload_n 0, 1) := by decide +kernel
theorem dX9_alone_1 : decode cX9_alone 1 = .ok (.iconst 0, 1) := by decide +kernel
theorem dX9_alone_2 : decode cX9_alone 2 = .ok (.putfield 1, 3) := by decide +kernel
theorem dX9_alone_5 : decode cX9_alone 5 = .ok (.iload_n 1, 1) := by decide +kernel
theorem dX9_alone_6 : decode cX9_alone 6 = .ok (.i2l, 1) := by decide +kernel
theorem dX9_alone_7 : decode cX9_alone 7 = .ok (.lconst 0, 1) := by decide +kernel
theorem dX9_alone_8 : decode cX9_alone 8 = .ok (.ldc2_w 175, 3) := by decide +kernel
theorem dX9_alone_11 : decode cX9_alone 11 = .ok (.invokestatic 128, 3) := by decide +kernel
theorem dX9_alone_14 : decode cX9_alone 14 = .ok (.ifCond .eq 15, 3) := by decide +kernel
theorem dX9_alone_17 : decode cX9_alone 17 = .ok (.aload_n 0, 1) := by decide +kernel
theorem dX9_alone_18 : decode cX9_alone 18 = .ok (.iconst 3, 1) := by decide +kernel
theorem dX9_alone_19 : decode cX9_alone 19 = .ok (.iload_n 1, 1) := by decide +kernel
theorem dX9_alone_20 : decode cX9_alone 20 = .ok (.iload_n 2, 1) := by decide +kernel
theorem dX9_alone_21 : decode cX9_alone 21 = .ok (.iload_n 3, 1) := by decide +kernel
theorem dX9_alone_22 : decode cX9_alone 22 = .ok (.iconst 0, 1) := by decide +kernel
theorem dX9_alone_23 : decode cX9_alone 23 = .ok (.invokevirtual 272, 3) := by decide +kernel
theorem dX9_alone_26 : decode cX9_alone 26 = .ok (.goto 5, 3) := by decide +kernel
theorem dX9_alone_29 : decode cX9_alone 29 = .ok (.bipush (-2), 2) := by decide +kernel
theorem dX9_alone_31 : decode cX9_alone 31 = .ok (.ireturn, 1) := by decide +kernel
theorem dX9_pays_0 : decode cX9_pays 0 = .ok (.aload_n 0, 1) := by decide +kernel
theorem dX9_pays_1 : decode cX9_pays 1 = .ok (.iconst 0, 1) := by decide +kernel
theorem dX9_pays_2 : decode cX9_pays 2 = .ok (.putfield 1, 3) := by decide +kernel
theorem dX9_pays_5 : decode cX9_pays 5 = .ok (.iload_n 1, 1) := by decide +kernel
theorem dX9_pays_6 : decode cX9_pays 6 = .ok (.i2l, 1) := by decide +kernel
theorem dX9_pays_7 : decode cX9_pays 7 = .ok (.lconst 0, 1) := by decide +kernel
theorem dX9_pays_8 : decode cX9_pays 8 = .ok (.ldc2_w 175, 3) := by decide +kernel
theorem dX9_pays_11 : decode cX9_pays 11 = .ok (.invokestatic 128, 3) := by decide +kernel
theorem dX9_pays_14 : decode cX9_pays 14 = .ok (.ifCond .ne 6, 3) := by decide +kernel
theorem dX9_pays_17 : decode cX9_pays 17 = .ok (.bipush (-2), 2) := by decide +kernel
theorem dX9_pays_19 : decode cX9_pays 19 = .ok (.ireturn, 1) := by decide +kernel
theorem dX9_pays_20 : decode cX9_pays 20 = .ok (.iload_n 2, 1) := by decide +kernel
theorem dX9_pays_21 : decode cX9_pays 21 = .ok (.i2l, 1) := by decide +kernel
theorem dX9_pays_22 : decode cX9_pays 22 = .ok (.lconst 1, 1) := by decide +kernel
theorem dX9_pays_23 : decode cX9_pays 23 = .ok (.ldc2_w 267, 3) := by decide +kernel
theorem dX9_pays_26 : decode cX9_pays 26 = .ok (.invokestatic 128, 3) := by decide +kernel
theorem dX9_pays_29 : decode cX9_pays 29 = .ok (.ifCond .ne 6, 3) := by decide +kernel
theorem dX9_pays_32 : decode cX9_pays 32 = .ok (.bipush (-3), 2) := by decide +kernel
theorem dX9_pays_34 : decode cX9_pays 34 = .ok (.ireturn, 1) := by decide +kernel
theorem dX9_pays_35 : decode cX9_pays 35 = .ok (.aload_n 0, 1) := by decide +kernel
theorem dX9_pays_36 : decode cX9_pays 36 = .ok (.getfield 13, 3) := by decide +kernel
theorem dX9_pays_39 : decode cX9_pays 39 = .ok (.iconst 0, 1) := by decide +kernel
theorem dX9_pays_40 : decode cX9_pays 40 = .ok (.iaload, 1) := by decide +kernel
theorem dX9_pays_41 : decode cX9_pays 41 = .ok (.ifCond .ne 6, 3) := by decide +kernel
theorem dX9_pays_44 : decode cX9_pays 44 = .ok (.bipush (-5), 2) := by decide +kernel
theorem dX9_pays_46 : decode cX9_pays 46 = .ok (.ireturn, 1) := by decide +kernel
theorem dX9_pays_47 : decode cX9_pays 47 = .ok (.aload_n 0, 1) := by decide +kernel
theorem dX9_pays_48 : decode cX9_pays 48 = .ok (.getfield 13, 3) := by decide +kernel
theorem dX9_pays_51 : decode cX9_pays 51 = .ok (.bipush 10, 2) := by decide +kernel
theorem dX9_pays_53 : decode cX9_pays 53 = .ok (.iload_n 1, 1) := by decide +kernel
theorem dX9_pays_54 : decode cX9_pays 54 = .ok (.iadd, 1) := by decide +kernel
theorem dX9_pays_55 : decode cX9_pays 55 = .ok (.iaload, 1) := by decide +kernel
theorem dX9_pays_56 : decode cX9_pays 56 = .ok (.istore_n 3, 1) := by decide +kernel
theorem dX9_pays_57 : decode cX9_pays 57 = .ok (.aload_n 0, 1) := by decide +kernel
theorem dX9_pays_58 : decode cX9_pays 58 = .ok (.iconst 1, 1) := by decide +kernel
theorem dX9_pays_59 : decode cX9_pays 59 = .ok (.iconst 0, 1) := by decide +kernel
theorem dX9_pays_60 : decode cX9_pays 60 = .ok (.iload_n 2, 1) := by decide +kernel
theorem dX9_pays_61 : decode cX9_pays 61 = .ok (.invokevirtual 269, 3) := by decide +kernel
theorem dX9_pays_64 : decode cX9_pays 64 = .ok (.iload_n 3, 1) := by decide +kernel
theorem dX9_pays_65 : decode cX9_pays 65 = .ok (.aload_n 0, 1) := by decide +kernel
theorem dX9_pays_66 : decode cX9_pays 66 = .ok (.getfield 42, 3) := by decide +kernel
theorem dX9_pays_69 : decode cX9_pays 69 = .ok (.iload_n 1, 1) := by decide +kernel
theorem dX9_pays_70 : decode cX9_pays 70 = .ok (.iaload, 1) := by decide +kernel
theorem dX9_pays_71 : decode cX9_pays 71 = .ok (.imul, 1) := by decide +kernel
theorem dX9_pays_72 : decode cX9_pays 72 = .ok (.isub, 1) := by decide +kernel
theorem dX9_pays_73 : decode cX9_pays 73 = .ok (.istore 4, 2) := by decide +kernel
theorem dX9_pays_75 : decode cX9_pays 75 = .ok (.aload_n 0, 1) := by decide +kernel
theorem dX9_pays_76 : decode cX9_pays 76 = .ok (.getfield 13, 3) := by decide +kernel
theorem dX9_pays_79 : decode cX9_pays 79 = .ok (.bipush 10, 2) := by decide +kernel
theorem dX9_pays_81 : decode cX9_pays 81 = .ok (.iload_n 1, 1) := by decide +kernel
theorem dX9_pays_82 : decode cX9_pays 82 = .ok (.iadd, 1) := by decide +kernel
theorem dX9_pays_83 : decode cX9_pays 83 = .ok (.iconst 0, 1) := by decide +kernel
theorem dX9_pays_84 : decode cX9_pays 84 = .ok (.iastore, 1) := by decide +kernel
theorem dX9_pays_85 : decode cX9_pays 85 = .ok (.aload_n 0, 1) := by decide +kernel
theorem dX9_pays_86 : decode cX9_pays 86 = .ok (.iconst 1, 1) := by decide +kernel
theorem dX9_pays_87 : decode cX9_pays 87 = .ok (.iconst 0, 1) := by decide +kernel
theorem dX9_pays_88 : decode cX9_pays 88 = .ok (.iload_n 2, 1) := by decide +kernel
theorem dX9_pays_89 : decode cX9_pays 89 = .ok (.invokevirtual 269, 3) := by decide +kernel
theorem dX9_pays_92 : decode cX9_pays 92 = .ok (.istore 5, 2) := by decide +kernel
theorem dX9_pays_94 : decode cX9_pays 94 = .ok (.aload_n 0, 1) := by decide +kernel
theorem dX9_pays_95 : decode cX9_pays 95 = .ok (.getfield 13, 3) := by decide +kernel
theorem dX9_pays_98 : decode cX9_pays 98 = .ok (.bipush 10, 2) := by decide +kernel
theorem dX9_pays_100 : decode cX9_pays 100 = .ok (.iload_n 1, 1) := by decide +kernel
theorem dX9_pays_101 : decode cX9_pays 101 = .ok (.iadd, 1) := by decide +kernel
theorem dX9_pays_102 : decode cX9_pays 102 = .ok (.iload_n 3, 1) := by decide +kernel
theorem dX9_pays_103 : decode cX9_pays 103 = .ok (.iastore, 1) := by decide +kernel
theorem dX9_pays_104 : decode cX9_pays 104 = .ok (.iload 5, 2) := by decide +kernel
theorem dX9_pays_106 : decode cX9_pays 106 = .ok (.iload 4, 2) := by decide +kernel
theorem dX9_pays_108 : decode cX9_pays 108 = .ok (.isub, 1) := by decide +kernel
theorem dX9_pays_109 : decode cX9_pays 109 = .ok (.ireturn, 1) := by decide +kernel
theorem dX9_shifted_0 : decode cX9_shifted 0 = .ok (.aload_n 0, 1) := by decide +kernel
theorem dX9_shifted_1 : decode cX9_shifted 1 = .ok (.iconst 0, 1) := by decide +kernel
theorem dX9_shifted_2 : decode cX9_shifted 2 = .ok (.putfield 1, 3) := by decide +kernel
theorem dX9_shifted_5 : decode cX9_shifted 5 = .ok (.iload_n 2, 1) := by decide +kernel
theorem dX9_shifted_6 : decode cX9_shifted 6 = .ok (.i2l, 1) := by decide +kernel
theorem dX9_shifted_7 : decode cX9_shifted 7 = .ok (.lconst 0, 1) := by decide +kernel
theorem dX9_shifted_8 : decode cX9_shifted 8 = .ok (.ldc2_w 196, 3) := by decide +kernel
theorem dX9_shifted_11 : decode cX9_shifted 11 = .ok (.invokestatic 128, 3) := by decide +kernel
theorem dX9_shifted_14 : decode cX9_shifted 14 = .ok (.ifCond .ne 6, 3) := by decide +kernel
theorem dX9_shifted_17 : decode cX9_shifted 17 = .ok (.bipush (-2), 2) := by decide +kernel
theorem dX9_shifted_19 : decode cX9_shifted 19 = .ok (.ireturn, 1) := by decide +kernel
theorem dX9_shifted_20 : decode cX9_shifted 20 = .ok (.iload_n 1, 1) := by decide +kernel
theorem dX9_shifted_21 : decode cX9_shifted 21 = .ok (.i2l, 1) := by decide +kernel
theorem dX9_shifted_22 : decode cX9_shifted 22 = .ok (.lconst 1, 1) := by decide +kernel
theorem dX9_shifted_23 : decode cX9_shifted 23 = .ok (.ldc2_w 175, 3) := by decide +kernel
theorem dX9_shifted_26 : decode cX9_shifted 26 = .ok (.invokestatic 128, 3) := by decide +kernel
theorem dX9_shifted_29 : decode cX9_shifted 29 = .ok (.ifCond .ne 6, 3) := by decide +kernel
theorem dX9_shifted_32 : decode cX9_shifted 32 = .ok (.bipush (-3), 2) := by decide +kernel
theorem dX9_shifted_34 : decode cX9_shifted 34 = .ok (.ireturn, 1) := by decide +kernel
theorem dX9_shifted_35 : decode cX9_shifted 35 = .ok (.aload_n 0, 1) := by decide +kernel
theorem dX9_shifted_36 : decode cX9_shifted 36 = .ok (.getfield 13, 3) := by decide +kernel
theorem dX9_shifted_39 : decode cX9_shifted 39 = .ok (.iconst 0, 1) := by decide +kernel
theorem dX9_shifted_40 : decode cX9_shifted 40 = .ok (.iaload, 1) := by decide +kernel
theorem dX9_shifted_41 : decode cX9_shifted 41 = .ok (.ifCond .ne 6, 3) := by decide +kernel
theorem dX9_shifted_44 : decode cX9_shifted 44 = .ok (.bipush (-5), 2) := by decide +kernel
theorem dX9_shifted_46 : decode cX9_shifted 46 = .ok (.ireturn, 1) := by decide +kernel
theorem dX9_shifted_47 : decode cX9_shifted 47 = .ok (.aload_n 0, 1) := by decide +kernel
theorem dX9_shifted_48 : decode cX9_shifted 48 = .ok (.iconst 0, 1) := by decide +kernel
theorem dX9_shifted_49 : decode cX9_shifted 49 = .ok (.iconst 0, 1) := by decide +kernel
theorem dX9_shifted_50 : decode cX9_shifted 50 = .ok (.iload_n 1, 1) := by decide +kernel
theorem dX9_shifted_51 : decode cX9_shifted 51 = .ok (.invokevirtual 269, 3) := by decide +kernel
theorem dX9_shifted_54 : decode cX9_shifted 54 = .ok (.istore_n 3, 1) := by decide +kernel
theorem dX9_shifted_55 : decode cX9_shifted 55 = .ok (.iconst 0, 1) := by decide +kernel
theorem dX9_shifted_56 : decode cX9_shifted 56 = .ok (.istore 4, 2) := by decide +kernel
theorem dX9_shifted_58 : decode cX9_shifted 58 = .ok (.iconst (-1), 1) := by decide +kernel
theorem dX9_shifted_59 : decode cX9_shifted 59 = .ok (.istore 5, 2) := by decide +kernel
theorem dX9_shifted_61 : decode cX9_shifted 61 = .ok (.iconst (-1), 1) := by decide +kernel
theorem dX9_shifted_62 : decode cX9_shifted 62 = .ok (.istore 6, 2) := by decide +kernel
theorem dX9_shifted_64 : decode cX9_shifted 64 = .ok (.iconst 0, 1) := by decide +kernel
theorem dX9_shifted_65 : decode cX9_shifted 65 = .ok (.istore 7, 2) := by decide +kernel
theorem dX9_shifted_67 : decode cX9_shifted 67 = .ok (.iload 7, 2) := by decide +kernel
theorem dX9_shifted_69 : decode cX9_shifted 69 = .ok (.aload_n 0, 1) := by decide +kernel
theorem dX9_shifted_70 : decode cX9_shifted 70 = .ok (.getfield 13, 3) := by decide +kernel
theorem dX9_shifted_73 : decode cX9_shifted 73 = .ok (.iconst 0, 1) := by decide +kernel
theorem dX9_shifted_74 : decode cX9_shifted 74 = .ok (.iaload, 1) := by decide +kernel
theorem dX9_shifted_75 : decode cX9_shifted 75 = .ok (.if_icmp .ge 156, 3) := by decide +kernel
theorem dX9_shifted_78 : decode cX9_shifted 78 = .ok (.iconst 0, 1) := by decide +kernel
theorem dX9_shifted_79 : decode cX9_shifted 79 = .ok (.istore 8, 2) := by decide +kernel
theorem dX9_shifted_81 : decode cX9_shifted 81 = .ok (.iload 8, 2) := by decide +kernel
theorem dX9_shifted_83 : decode cX9_shifted 83 = .ok (.aload_n 0, 1) := by decide +kernel
theorem dX9_shifted_84 : decode cX9_shifted 84 = .ok (.getfield 13, 3) := by decide +kernel
theorem dX9_shifted_87 : decode cX9_shifted 87 = .ok (.iconst 0, 1) := by decide +kernel
theorem dX9_shifted_88 : decode cX9_shifted 88 = .ok (.iaload, 1) := by decide +kernel
theorem dX9_shifted_89 : decode cX9_shifted 89 = .ok (.if_icmp .ge 136, 3) := by decide +kernel
theorem dX9_shifted_92 : decode cX9_shifted 92 = .ok (.iload 7, 2) := by decide +kernel
theorem dX9_shifted_94 : decode cX9_shifted 94 = .ok (.iload 8, 2) := by decide +kernel
theorem dX9_shifted_96 : decode cX9_shifted 96 = .ok (.if_icmp .eq 123, 3) := by decide +kernel
theorem dX9_shifted_99 : decode cX9_shifted 99 = .ok (.aload_n 0, 1) := by decide +kernel
theorem dX9_shifted_100 : decode cX9_shifted 100 = .ok (.getfield 13, 3) := by decide +kernel
theorem dX9_shifted_103 : decode cX9_shifted 103 = .ok (.bipush 32, 2) := by decide +kernel
theorem dX9_shifted_105 : decode cX9_shifted 105 = .ok (.iload 7, 2) := by decide +kernel
theorem dX9_shifted_107 : decode cX9_shifted 107 = .ok (.iadd, 1) := by decide +kernel
theorem dX9_shifted_108 : decode cX9_shifted 108 = .ok (.iaload, 1) := by decide +kernel
theorem dX9_shifted_109 : decode cX9_shifted 109 = .ok (.ifCond .eq 110, 3) := by decide +kernel
theorem dX9_shifted_112 : decode cX9_shifted 112 = .ok (.aload_n 0, 1) := by decide +kernel
theorem dX9_shifted_113 : decode cX9_shifted 113 = .ok (.getfield 13, 3) := by decide +kernel
theorem dX9_shifted_116 : decode cX9_shifted 116 = .ok (.bipush 32, 2) := by decide +kernel
