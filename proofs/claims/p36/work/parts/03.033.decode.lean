theorem dX9_walk_55 : decode cX9_walk 55 = .ok (.bipush 32, 2) := by decide +kernel
theorem dX9_walk_57 : decode cX9_walk 57 = .ok (.iload_n 2, 1) := by decide +kernel
theorem dX9_walk_58 : decode cX9_walk 58 = .ok (.iadd, 1) := by decide +kernel
theorem dX9_walk_59 : decode cX9_walk 59 = .ok (.iaload, 1) := by decide +kernel
theorem dX9_walk_60 : decode cX9_walk 60 = .ok (.iload_n 3, 1) := by decide +kernel
theorem dX9_walk_61 : decode cX9_walk 61 = .ok (.iadd, 1) := by decide +kernel
theorem dX9_walk_62 : decode cX9_walk 62 = .ok (.bipush 9, 2) := by decide +kernel
theorem dX9_walk_64 : decode cX9_walk 64 = .ok (.if_icmp .le 6, 3) := by decide +kernel
theorem dX9_walk_67 : decode cX9_walk 67 = .ok (.bipush (-4), 2) := by decide +kernel
theorem dX9_walk_69 : decode cX9_walk 69 = .ok (.ireturn, 1) := by decide +kernel
theorem dX9_walk_70 : decode cX9_walk 70 = .ok (.aload_n 0, 1) := by decide +kernel
theorem dX9_walk_71 : decode cX9_walk 71 = .ok (.getfield 13, 3) := by decide +kernel
theorem dX9_walk_74 : decode cX9_walk 74 = .ok (.bipush 32, 2) := by decide +kernel
theorem dX9_walk_76 : decode cX9_walk 76 = .ok (.iload_n 1, 1) := by decide +kernel
theorem dX9_walk_77 : decode cX9_walk 77 = .ok (.iadd, 1) := by decide +kernel
theorem dX9_walk_78 : decode cX9_walk 78 = .ok (.dup2, 1) := by decide +kernel
theorem dX9_walk_79 : decode cX9_walk 79 = .ok (.iaload, 1) := by decide +kernel
theorem dX9_walk_80 : decode cX9_walk 80 = .ok (.iload_n 3, 1) := by decide +kernel
theorem dX9_walk_81 : decode cX9_walk 81 = .ok (.isub, 1) := by decide +kernel
theorem dX9_walk_82 : decode cX9_walk 82 = .ok (.iastore, 1) := by decide +kernel
theorem dX9_walk_83 : decode cX9_walk 83 = .ok (.aload_n 0, 1) := by decide +kernel
theorem dX9_walk_84 : decode cX9_walk 84 = .ok (.getfield 13, 3) := by decide +kernel
theorem dX9_walk_87 : decode cX9_walk 87 = .ok (.bipush 32, 2) := by decide +kernel
theorem dX9_walk_89 : decode cX9_walk 89 = .ok (.iload_n 2, 1) := by decide +kernel
theorem dX9_walk_90 : decode cX9_walk 90 = .ok (.iadd, 1) := by decide +kernel
theorem dX9_walk_91 : decode cX9_walk 91 = .ok (.dup2, 1) := by decide +kernel
theorem dX9_walk_92 : decode cX9_walk 92 = .ok (.iaload, 1) := by decide +kernel
theorem dX9_walk_93 : decode cX9_walk 93 = .ok (.iload_n 3, 1) := by decide +kernel
theorem dX9_walk_94 : decode cX9_walk 94 = .ok (.iadd, 1) := by decide +kernel
theorem dX9_walk_95 : decode cX9_walk 95 = .ok (.iastore, 1) := by decide +kernel
theorem dX9_walk_96 : decode cX9_walk 96 = .ok (.iconst 0, 1) := by decide +kernel
theorem dX9_walk_97 : decode cX9_walk 97 = .ok (.ireturn, 1) := by decide +kernel
theorem dX9_total_0 : decode cX9_total 0 = .ok (.iconst 0, 1) := by decide +kernel
theorem dX9_total_1 : decode cX9_total 1 = .ok (.istore_n 1, 1) := by decide +kernel
theorem dX9_total_2 : decode cX9_total 2 = .ok (.iconst 0, 1) := by decide +kernel
theorem dX9_total_3 : decode cX9_total 3 = .ok (.istore_n 2, 1) := by decide +kernel
theorem dX9_total_4 : decode cX9_total 4 = .ok (.iload_n 2, 1) := by decide +kernel
theorem dX9_total_5 : decode cX9_total 5 = .ok (.bipush 6, 2) := by decide +kernel
theorem dX9_total_7 : decode cX9_total 7 = .ok (.if_icmp .ge 18, 3) := by decide +kernel
theorem dX9_total_10 : decode cX9_total 10 = .ok (.iload_n 1, 1) := by decide +kernel
theorem dX9_total_11 : decode cX9_total 11 = .ok (.aload_n 0, 1) := by decide +kernel
theorem dX9_total_12 : decode cX9_total 12 = .ok (.getfield 30, 3) := by decide +kernel
theorem dX9_total_15 : decode cX9_total 15 = .ok (.iload_n 2, 1) := by decide +kernel
theorem dX9_total_16 : decode cX9_total 16 = .ok (.iaload, 1) := by decide +kernel
theorem dX9_total_17 : decode cX9_total 17 = .ok (.iadd, 1) := by decide +kernel
theorem dX9_total_18 : decode cX9_total 18 = .ok (.istore_n 1, 1) := by decide +kernel
theorem dX9_total_19 : decode cX9_total 19 = .ok (.iinc 2 1, 3) := by decide +kernel
theorem dX9_total_22 : decode cX9_total 22 = .ok (.goto (-18), 3) := by decide +kernel
theorem dX9_total_25 : decode cX9_total 25 = .ok (.iload_n 1, 1) := by decide +kernel
theorem dX9_total_26 : decode cX9_total 26 = .ok (.ireturn, 1) := by decide +kernel
theorem dX9_firstWorth_0 : decode cX9_firstWorth 0 = .ok (.aload_n 0, 1) := by decide +kernel
theorem dX9_firstWorth_1 : decode cX9_firstWorth 1 = .ok (.getfield 236, 3) := by decide +kernel
theorem dX9_firstWorth_4 : decode cX9_firstWorth 4 = .ok (.ifCond .ne 8, 3) := by decide +kernel
theorem dX9_firstWorth_7 : decode cX9_firstWorth 7 = .ok (.aload_n 0, 1) := by decide +kernel
theorem dX9_firstWorth_8 : decode cX9_firstWorth 8 = .ok (.invokevirtual 239, 3) := by decide +kernel
theorem dX9_firstWorth_11 : decode cX9_firstWorth 11 = .ok (.ireturn, 1) := by decide +kernel
theorem dX9_firstWorth_12 : decode cX9_firstWorth 12 = .ok (.aload_n 0, 1) := by decide +kernel
theorem dX9_firstWorth_13 : decode cX9_firstWorth 13 = .ok (.getfield 236, 3) := by decide +kernel
theorem dX9_firstWorth_16 : decode cX9_firstWorth 16 = .ok (.iconst 3, 1) := by decide +kernel
theorem dX9_firstWorth_17 : decode cX9_firstWorth 17 = .ok (.if_icmp .ne 13, 3) := by decide +kernel
theorem dX9_firstWorth_20 : decode cX9_firstWorth 20 = .ok (.aload_n 0, 1) := by decide +kernel
theorem dX9_firstWorth_21 : decode cX9_firstWorth 21 = .ok (.getfield 30, 3) := by decide +kernel
theorem dX9_firstWorth_24 : decode cX9_firstWorth 24 = .ok (.aload_n 0, 1) := by decide +kernel
theorem dX9_firstWorth_25 : decode cX9_firstWorth 25 = .ok (.getfield 242, 3) := by decide +kernel
theorem dX9_firstWorth_28 : decode cX9_firstWorth 28 = .ok (.iaload, 1) := by decide +kernel
theorem dX9_firstWorth_29 : decode cX9_firstWorth 29 = .ok (.ireturn, 1) := by decide +kernel
theorem dX9_firstWorth_30 : decode cX9_firstWorth 30 = .ok (.iconst 0, 1) := by decide +kernel
theorem dX9_firstWorth_31 : decode cX9_firstWorth 31 = .ok (.istore_n 1, 1) := by decide +kernel
theorem dX9_firstWorth_32 : decode cX9_firstWorth 32 = .ok (.iconst (-1), 1) := by decide +kernel
theorem dX9_firstWorth_33 : decode cX9_firstWorth 33 = .ok (.istore_n 2, 1) := by decide +kernel
theorem dX9_firstWorth_34 : decode cX9_firstWorth 34 = .ok (.iconst 0, 1) := by decide +kernel
theorem dX9_firstWorth_35 : decode cX9_firstWorth 35 = .ok (.istore_n 3, 1) := by decide +kernel
theorem dX9_firstWorth_36 : decode cX9_firstWorth 36 = .ok (.iload_n 3, 1) := by decide +kernel
theorem dX9_firstWorth_37 : decode cX9_firstWorth 37 = .ok (.bipush 6, 2) := by decide +kernel
theorem dX9_firstWorth_39 : decode cX9_firstWorth 39 = .ok (.if_icmp .ge 58, 3) := by decide +kernel
theorem dX9_firstWorth_42 : decode cX9_firstWorth 42 = .ok (.iload_n 1, 1) := by decide +kernel
theorem dX9_firstWorth_43 : decode cX9_firstWorth 43 = .ok (.aload_n 0, 1) := by decide +kernel
theorem dX9_firstWorth_44 : decode cX9_firstWorth 44 = .ok (.getfield 30, 3) := by decide +kernel
theorem dX9_firstWorth_47 : decode cX9_firstWorth 47 = .ok (.iload_n 3, 1) := by decide +kernel
theorem dX9_firstWorth_48 : decode cX9_firstWorth 48 = .ok (.iaload, 1) := by decide +kernel
theorem dX9_firstWorth_49 : decode cX9_firstWorth 49 = .ok (.aload_n 0, 1) := by decide +kernel
theorem dX9_firstWorth_50 : decode cX9_firstWorth 50 = .ok (.getfield 13, 3) := by decide +kernel
theorem dX9_firstWorth_53 : decode cX9_firstWorth 53 = .ok (.bipush 10, 2) := by decide +kernel
theorem dX9_firstWorth_55 : decode cX9_firstWorth 55 = .ok (.iload_n 3, 1) := by decide +kernel
theorem dX9_firstWorth_56 : decode cX9_firstWorth 56 = .ok (.iadd, 1) := by decide +kernel
theorem dX9_firstWorth_57 : decode cX9_firstWorth 57 = .ok (.iaload, 1) := by decide +kernel
theorem dX9_firstWorth_58 : decode cX9_firstWorth 58 = .ok (.imul, 1) := by decide +kernel
theorem dX9_firstWorth_59 : decode cX9_firstWorth 59 = .ok (.iadd, 1) := by decide +kernel
theorem dX9_firstWorth_60 : decode cX9_firstWorth 60 = .ok (.istore_n 1, 1) := by decide +kernel
theorem dX9_firstWorth_61 : decode cX9_firstWorth 61 = .ok (.aload_n 0, 1) := by decide +kernel
theorem dX9_firstWorth_62 : decode cX9_firstWorth 62 = .ok (.iload_n 3, 1) := by decide +kernel
theorem dX9_firstWorth_63 : decode cX9_firstWorth 63 = .ok (.invokevirtual 185, 3) := by decide +kernel
theorem dX9_firstWorth_66 : decode cX9_firstWorth 66 = .ok (.ifCond .eq 25, 3) := by decide +kernel
theorem dX9_firstWorth_69 : decode cX9_firstWorth 69 = .ok (.iload_n 2, 1) := by decide +kernel
theorem dX9_firstWorth_70 : decode cX9_firstWorth 70 = .ok (.iconst (-1), 1) := by decide +kernel
theorem dX9_firstWorth_71 : decode cX9_firstWorth 71 = .ok (.if_icmp .eq 13, 3) := by decide +kernel
theorem dX9_firstWorth_74 : decode cX9_firstWorth 74 = .ok (.aload_n 0, 1) := by decide +kernel
theorem dX9_firstWorth_75 : decode cX9_firstWorth 75 = .ok (.getfield 30, 3) := by decide +kernel
theorem dX9_firstWorth_78 : decode cX9_firstWorth 78 = .ok (.iload_n 3, 1) := by decide +kernel
theorem dX9_firstWorth_79 : decode cX9_firstWorth 79 = .ok (.iaload, 1) := by decide +kernel
theorem dX9_firstWorth_80 : decode cX9_firstWorth 80 = .ok (.iload_n 2, 1) := by decide +kernel
theorem dX9_firstWorth_81 : decode cX9_firstWorth 81 = .ok (.if_icmp .ge 10, 3) := by decide +kernel
theorem dX9_firstWorth_84 : decode cX9_firstWorth 84 = .ok (.aload_n 0, 1) := by decide +kernel
theorem dX9_firstWorth_85 : decode cX9_firstWorth 85 = .ok (.getfield 30, 3) := by decide +kernel
theorem dX9_firstWorth_88 : decode cX9_firstWorth 88 = .ok (.iload_n 3, 1) := by decide +kernel
theorem dX9_firstWorth_89 : decode cX9_firstWorth 89 = .ok (.iaload, 1) := by decide +kernel
theorem dX9_firstWorth_90 : decode cX9_firstWorth 90 = .ok (.istore_n 2, 1) := by decide +kernel
theorem dX9_firstWorth_91 : decode cX9_firstWorth 91 = .ok (.iinc 3 1, 3) := by decide +kernel
theorem dX9_firstWorth_94 : decode cX9_firstWorth 94 = .ok (.goto (-58), 3) := by decide +kernel
theorem dX9_firstWorth_97 : decode cX9_firstWorth 97 = .ok (.aload_n 0, 1) := by decide +kernel
theorem dX9_firstWorth_98 : decode cX9_firstWorth 98 = .ok (.getfield 236, 3) := by decide +kernel
theorem dX9_firstWorth_101 : decode cX9_firstWorth 101 = .ok (.iconst 1, 1) := by decide +kernel
theorem dX9_firstWorth_102 : decode cX9_firstWorth 102 = .ok (.if_icmp .ne 7, 3) := by decide +kernel
theorem dX9_firstWorth_105 : decode cX9_firstWorth 105 = .ok (.iload_n 1, 1) := by decide +kernel
theorem dX9_firstWorth_106 : decode cX9_firstWorth 106 = .ok (.goto 4, 3) := by decide +kernel
theorem dX9_firstWorth_109 : decode cX9_firstWorth 109 = .ok (.iload_n 2, 1) := by decide +kernel
theorem dX9_firstWorth_110 : decode cX9_firstWorth 110 = .ok (.ireturn, 1) := by decide +kernel
theorem dX9_seeks_0 : decode cX9_seeks 0 = .ok (.iload_n 1, 1) := by decide +kernel
theorem dX9_seeks_1 : decode cX9_seeks 1 = .ok (.aload_n 0, 1) := by decide +kernel
theorem dX9_seeks_2 : decode cX9_seeks 2 = .ok (.getfield 245, 3) := by decide +kernel
theorem dX9_seeks_5 : decode cX9_seeks 5 = .ok (.if_icmp .ne 120, 3) := by decide +kernel
theorem dX9_seeks_8 : decode cX9_seeks 8 = .ok (.aload_n 0, 1) := by decide +kernel
theorem dX9_seeks_9 : decode cX9_seeks 9 = .ok (.invokevirtual 248, 3) := by decide +kernel
theorem dX9_seeks_12 : decode cX9_seeks 12 = .ok (.istore_n 2, 1) := by decide +kernel
theorem dX9_seeks_13 : decode cX9_seeks 13 = .ok (.aload_n 0, 1) := by decide +kernel
theorem dX9_seeks_14 : decode cX9_seeks 14 = .ok (.getfield 236, 3) := by decide +kernel
theorem dX9_seeks_17 : decode cX9_seeks 17 = .ok (.iconst 2, 1) := by decide +kernel
theorem dX9_seeks_18 : decode cX9_seeks 18 = .ok (.if_icmp .ne 10, 3) := by decide +kernel
theorem dX9_seeks_21 : decode cX9_seeks 21 = .ok (.aload_n 0, 1) := by decide +kernel
theorem dX9_seeks_22 : decode cX9_seeks 22 = .ok (.invokevirtual 239, 3) := by decide +kernel
theorem dX9_seeks_25 : decode cX9_seeks 25 = .ok (.goto 4, 3) := by decide +kernel
theorem dX9_seeks_28 : decode cX9_seeks 28 = .ok (.iconst 0, 1) := by decide +kernel
theorem dX9_seeks_29 : decode cX9_seeks 29 = .ok (.istore_n 3, 1) := by decide +kernel
theorem dX9_seeks_30 : decode cX9_seeks 30 = .ok (.iload_n 2, 1) := by decide +kernel
theorem dX9_seeks_31 : decode cX9_seeks 31 = .ok (.aload_n 0, 1) := by decide +kernel
theorem dX9_seeks_32 : decode cX9_seeks 32 = .ok (.getfield 251, 3) := by decide +kernel
theorem dX9_seeks_35 : decode cX9_seeks 35 = .ok (.if_icmp .lt 19, 3) := by decide +kernel
theorem dX9_seeks_38 : decode cX9_seeks 38 = .ok (.iload_n 2, 1) := by decide +kernel
theorem dX9_seeks_39 : decode cX9_seeks 39 = .ok (.aload_n 0, 1) := by decide +kernel
theorem dX9_seeks_40 : decode cX9_seeks 40 = .ok (.getfield 251, 3) := by decide +kernel
theorem dX9_seeks_43 : decode cX9_seeks 43 = .ok (.if_icmp .ne 12, 3) := by decide +kernel
theorem dX9_seeks_46 : decode cX9_seeks 46 = .ok (.iload_n 3, 1) := by decide +kernel
theorem dX9_seeks_47 : decode cX9_seeks 47 = .ok (.aload_n 0, 1) := by decide +kernel
theorem dX9_seeks_48 : decode cX9_seeks 48 = .ok (.getfield 254, 3) := by decide +kernel
theorem dX9_seeks_51 : decode cX9_seeks 51 = .ok (.if_icmp .gt 4, 3) := by decide +kernel
theorem dX9_seeks_54 : decode cX9_seeks 54 = .ok (.return_, 1) := by decide +kernel
theorem dX9_seeks_55 : decode cX9_seeks 55 = .ok (.aload_n 0, 1) := by decide +kernel
theorem dX9_seeks_56 : decode cX9_seeks 56 = .ok (.iload_n 2, 1) := by decide +kernel
theorem dX9_seeks_57 : decode cX9_seeks 57 = .ok (.putfield 251, 3) := by decide +kernel
theorem dX9_seeks_60 : decode cX9_seeks 60 = .ok (.aload_n 0, 1) := by decide +kernel
theorem dX9_seeks_61 : decode cX9_seeks 61 = .ok (.iload_n 3, 1) := by decide +kernel
theorem dX9_seeks_62 : decode cX9_seeks 62 = .ok (.putfield 254, 3) := by decide +kernel
theorem dX9_seeks_65 : decode cX9_seeks 65 = .ok (.iconst 0, 1) := by decide +kernel
theorem dX9_seeks_66 : decode cX9_seeks 66 = .ok (.istore 4, 2) := by decide +kernel
theorem dX9_seeks_68 : decode cX9_seeks 68 = .ok (.iload 4, 2) := by decide +kernel
theorem dX9_seeks_70 : decode cX9_seeks 70 = .ok (.iload_n 1, 1) := by decide +kernel
theorem dX9_seeks_71 : decode cX9_seeks 71 = .ok (.if_icmp .ge 23, 3) := by decide +kernel
theorem dX9_seeks_74 : decode cX9_seeks 74 = .ok (.aload_n 0, 1) := by decide +kernel
theorem dX9_seeks_75 : decode cX9_seeks 75 = .ok (.getfield 39, 3) := by decide +kernel
theorem dX9_seeks_78 : decode cX9_seeks 78 = .ok (.iload 4, 2) := by decide +kernel
theorem dX9_seeks_80 : decode cX9_seeks 80 = .ok (.aload_n 0, 1) := by decide +kernel
theorem dX9_seeks_81 : decode cX9_seeks 81 = .ok (.getfield 36, 3) := by decide +kernel
theorem dX9_seeks_84 : decode cX9_seeks 84 = .ok (.iload 4, 2) := by decide +kernel
theorem dX9_seeks_86 : decode cX9_seeks 86 = .ok (.iaload, 1) := by decide +kernel
theorem dX9_seeks_87 : decode cX9_seeks 87 = .ok (.iastore, 1) := by decide +kernel
theorem dX9_seeks_88 : decode cX9_seeks 88 = .ok (.iinc 4 1, 3) := by decide +kernel
theorem dX9_seeks_91 : decode cX9_seeks 91 = .ok (.goto (-23), 3) := by decide +kernel
theorem dX9_seeks_94 : decode cX9_seeks 94 = .ok (.iconst 0, 1) := by decide +kernel
theorem dX9_seeks_95 : decode cX9_seeks 95 = .ok (.istore 4, 2) := by decide +kernel
theorem dX9_seeks_97 : decode cX9_seeks 97 = .ok (.iload 4, 2) := by decide +kernel
theorem dX9_seeks_99 : decode cX9_seeks 99 = .ok (.bipush 6, 2) := by decide +kernel
theorem dX9_seeks_101 : decode cX9_seeks 101 = .ok (.if_icmp .ge 23, 3) := by decide +kernel
theorem dX9_seeks_104 : decode cX9_seeks 104 = .ok (.aload_n 0, 1) := by decide +kernel
theorem dX9_seeks_105 : decode cX9_seeks 105 = .ok (.getfield 42, 3) := by decide +kernel
theorem dX9_seeks_108 : decode cX9_seeks 108 = .ok (.iload 4, 2) := by decide +kernel
theorem dX9_seeks_110 : decode cX9_seeks 110 = .ok (.aload_n 0, 1) := by decide +kernel
theorem dX9_seeks_111 : decode cX9_seeks 111 = .ok (.getfield 30, 3) := by decide +kernel
theorem dX9_seeks_114 : decode cX9_seeks 114 = .ok (.iload 4, 2) := by decide +kernel
theorem dX9_seeks_116 : decode cX9_seeks 116 = .ok (.iaload, 1) := by decide +kernel
theorem dX9_seeks_117 : decode cX9_seeks 117 = .ok (.iastore, 1) := by decide +kernel
theorem dX9_seeks_118 : decode cX9_seeks 118 = .ok (.iinc 4 1, 3) := by decide +kernel
theorem dX9_seeks_121 : decode cX9_seeks 121 = .ok (.goto (-24), 3) := by decide +kernel
theorem dX9_seeks_124 : decode cX9_seeks 124 = .ok (.return_, 1) := by decide +kernel
theorem dX9_seeks_125 : decode cX9_seeks 125 = .ok (.aload_n 0, 1) := by decide +kernel
theorem dX9_seeks_126 : decode cX9_seeks 126 = .ok (.iload_n 1, 1) := by decide +kernel
theorem dX9_seeks_127 : decode cX9_seeks 127 = .ok (.invokevirtual 216, 3) := by decide +kernel
theorem dX9_seeks_130 : decode cX9_seeks 130 = .ok (.aload_n 0, 1) := by decide +kernel
theorem dX9_seeks_131 : decode cX9_seeks 131 = .ok (.getfield 30, 3) := by decide +kernel
theorem dX9_seeks_134 : decode cX9_seeks 134 = .ok (.iconst 0, 1) := by decide +kernel
theorem dX9_seeks_135 : decode cX9_seeks 135 = .ok (.iaload, 1) := by decide +kernel
theorem dX9_seeks_136 : decode cX9_seeks 136 = .ok (.istore_n 2, 1) := by decide +kernel
theorem dX9_seeks_137 : decode cX9_seeks 137 = .ok (.aload_n 0, 1) := by decide +kernel
theorem dX9_seeks_138 : decode cX9_seeks 138 = .ok (.getfield 30, 3) := by decide +kernel
theorem dX9_seeks_141 : decode cX9_seeks 141 = .ok (.iconst 1, 1) := by decide +kernel
theorem dX9_seeks_142 : decode cX9_seeks 142 = .ok (.iaload, 1) := by decide +kernel
theorem dX9_seeks_143 : decode cX9_seeks 143 = .ok (.istore_n 3, 1) := by decide +kernel
theorem dX9_seeks_144 : decode cX9_seeks 144 = .ok (.aload_n 0, 1) := by decide +kernel
theorem dX9_seeks_145 : decode cX9_seeks 145 = .ok (.getfield 30, 3) := by decide +kernel
theorem dX9_seeks_148 : decode cX9_seeks 148 = .ok (.iconst 2, 1) := by decide +kernel
theorem dX9_seeks_149 : decode cX9_seeks 149 = .ok (.iaload, 1) := by decide +kernel
