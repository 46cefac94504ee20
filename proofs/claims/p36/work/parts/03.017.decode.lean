theorem dX8_night_116 : decode cX8_night 116 = .ok (.bipush 100, 2) := by decide +kernel
theorem dX8_night_118 : decode cX8_night 118 = .ok (.irem, 1) := by decide +kernel
theorem dX8_night_119 : decode cX8_night 119 = .ok (.aload_n 0, 1) := by decide +kernel
theorem dX8_night_120 : decode cX8_night 120 = .ok (.getfield 27, 3) := by decide +kernel
theorem dX8_night_123 : decode cX8_night 123 = .ok (.getfield 222, 3) := by decide +kernel
theorem dX8_night_126 : decode cX8_night 126 = .ok (.if_icmp .lt 7, 3) := by decide +kernel
theorem dX8_night_129 : decode cX8_night 129 = .ok (.iconst 1, 1) := by decide +kernel
theorem dX8_night_130 : decode cX8_night 130 = .ok (.goto 4, 3) := by decide +kernel
theorem dX8_night_133 : decode cX8_night 133 = .ok (.iconst 0, 1) := by decide +kernel
theorem dX8_night_134 : decode cX8_night 134 = .ok (.istore 8, 2) := by decide +kernel
theorem dX8_night_136 : decode cX8_night 136 = .ok (.iload 5, 2) := by decide +kernel
theorem dX8_night_138 : decode cX8_night 138 = .ok (.aload_n 0, 1) := by decide +kernel
theorem dX8_night_139 : decode cX8_night 139 = .ok (.getfield 27, 3) := by decide +kernel
theorem dX8_night_142 : decode cX8_night 142 = .ok (.iload 7, 2) := by decide +kernel
theorem dX8_night_144 : decode cX8_night 144 = .ok (.iconst (-1), 1) := by decide +kernel
theorem dX8_night_145 : decode cX8_night 145 = .ok (.if_icmp .ne 13, 3) := by decide +kernel
theorem dX8_night_148 : decode cX8_night 148 = .ok (.aload_n 0, 1) := by decide +kernel
theorem dX8_night_149 : decode cX8_night 149 = .ok (.getfield 27, 3) := by decide +kernel
theorem dX8_night_152 : decode cX8_night 152 = .ok (.getfield 128, 3) := by decide +kernel
theorem dX8_night_155 : decode cX8_night 155 = .ok (.goto 5, 3) := by decide +kernel
theorem dX8_night_158 : decode cX8_night 158 = .ok (.iload 7, 2) := by decide +kernel
theorem dX8_night_160 : decode cX8_night 160 = .ok (.iload 8, 2) := by decide +kernel
theorem dX8_night_162 : decode cX8_night 162 = .ok (.invokevirtual 178, 3) := by decide +kernel
theorem dX8_night_165 : decode cX8_night 165 = .ok (.iadd, 1) := by decide +kernel
theorem dX8_night_166 : decode cX8_night 166 = .ok (.istore 5, 2) := by decide +kernel
theorem dX8_night_168 : decode cX8_night 168 = .ok (.iinc 6 1, 3) := by decide +kernel
theorem dX8_night_171 : decode cX8_night 171 = .ok (.goto (-104), 3) := by decide +kernel
theorem dX8_night_174 : decode cX8_night 174 = .ok (.iload 5, 2) := by decide +kernel
theorem dX8_night_176 : decode cX8_night 176 = .ok (.ireturn, 1) := by decide +kernel
theorem dX8_walk_0 : decode cX8_walk 0 = .ok (.aload_n 0, 1) := by decide +kernel
theorem dX8_walk_1 : decode cX8_walk 1 = .ok (.getfield 27, 3) := by decide +kernel
theorem dX8_walk_4 : decode cX8_walk 4 = .ok (.iload_n 1, 1) := by decide +kernel
theorem dX8_walk_5 : decode cX8_walk 5 = .ok (.invokevirtual 108, 3) := by decide +kernel
theorem dX8_walk_8 : decode cX8_walk 8 = .ok (.ifCond .eq 14, 3) := by decide +kernel
theorem dX8_walk_11 : decode cX8_walk 11 = .ok (.aload_n 0, 1) := by decide +kernel
theorem dX8_walk_12 : decode cX8_walk 12 = .ok (.getfield 27, 3) := by decide +kernel
theorem dX8_walk_15 : decode cX8_walk 15 = .ok (.iload_n 2, 1) := by decide +kernel
theorem dX8_walk_16 : decode cX8_walk 16 = .ok (.invokevirtual 108, 3) := by decide +kernel
theorem dX8_walk_19 : decode cX8_walk 19 = .ok (.ifCond .ne 6, 3) := by decide +kernel
theorem dX8_walk_22 : decode cX8_walk 22 = .ok (.bipush (-2), 2) := by decide +kernel
theorem dX8_walk_24 : decode cX8_walk 24 = .ok (.ireturn, 1) := by decide +kernel
theorem dX8_walk_25 : decode cX8_walk 25 = .ok (.iload_n 3, 1) := by decide +kernel
theorem dX8_walk_26 : decode cX8_walk 26 = .ok (.ifCond .lt 16, 3) := by decide +kernel
theorem dX8_walk_29 : decode cX8_walk 29 = .ok (.iload_n 3, 1) := by decide +kernel
theorem dX8_walk_30 : decode cX8_walk 30 = .ok (.aload_n 0, 1) := by decide +kernel
theorem dX8_walk_31 : decode cX8_walk 31 = .ok (.getfield 27, 3) := by decide +kernel
theorem dX8_walk_34 : decode cX8_walk 34 = .ok (.getfield 116, 3) := by decide +kernel
theorem dX8_walk_37 : decode cX8_walk 37 = .ok (.iload_n 1, 1) := by decide +kernel
theorem dX8_walk_38 : decode cX8_walk 38 = .ok (.iaload, 1) := by decide +kernel
theorem dX8_walk_39 : decode cX8_walk 39 = .ok (.if_icmp .le 6, 3) := by decide +kernel
theorem dX8_walk_42 : decode cX8_walk 42 = .ok (.bipush (-3), 2) := by decide +kernel
theorem dX8_walk_44 : decode cX8_walk 44 = .ok (.ireturn, 1) := by decide +kernel
theorem dX8_walk_45 : decode cX8_walk 45 = .ok (.iload_n 1, 1) := by decide +kernel
theorem dX8_walk_46 : decode cX8_walk 46 = .ok (.iload_n 2, 1) := by decide +kernel
theorem dX8_walk_47 : decode cX8_walk 47 = .ok (.if_icmp .eq 22, 3) := by decide +kernel
theorem dX8_walk_50 : decode cX8_walk 50 = .ok (.aload_n 0, 1) := by decide +kernel
theorem dX8_walk_51 : decode cX8_walk 51 = .ok (.getfield 27, 3) := by decide +kernel
theorem dX8_walk_54 : decode cX8_walk 54 = .ok (.getfield 116, 3) := by decide +kernel
theorem dX8_walk_57 : decode cX8_walk 57 = .ok (.iload_n 2, 1) := by decide +kernel
theorem dX8_walk_58 : decode cX8_walk 58 = .ok (.iaload, 1) := by decide +kernel
theorem dX8_walk_59 : decode cX8_walk 59 = .ok (.iload_n 3, 1) := by decide +kernel
theorem dX8_walk_60 : decode cX8_walk 60 = .ok (.iadd, 1) := by decide +kernel
theorem dX8_walk_61 : decode cX8_walk 61 = .ok (.bipush 9, 2) := by decide +kernel
theorem dX8_walk_63 : decode cX8_walk 63 = .ok (.if_icmp .le 6, 3) := by decide +kernel
theorem dX8_walk_66 : decode cX8_walk 66 = .ok (.bipush (-4), 2) := by decide +kernel
theorem dX8_walk_68 : decode cX8_walk 68 = .ok (.ireturn, 1) := by decide +kernel
theorem dX8_walk_69 : decode cX8_walk 69 = .ok (.aload_n 0, 1) := by decide +kernel
theorem dX8_walk_70 : decode cX8_walk 70 = .ok (.getfield 27, 3) := by decide +kernel
theorem dX8_walk_73 : decode cX8_walk 73 = .ok (.getfield 116, 3) := by decide +kernel
theorem dX8_walk_76 : decode cX8_walk 76 = .ok (.iload_n 1, 1) := by decide +kernel
theorem dX8_walk_77 : decode cX8_walk 77 = .ok (.dup2, 1) := by decide +kernel
theorem dX8_walk_78 : decode cX8_walk 78 = .ok (.iaload, 1) := by decide +kernel
theorem dX8_walk_79 : decode cX8_walk 79 = .ok (.iload_n 3, 1) := by decide +kernel
theorem dX8_walk_80 : decode cX8_walk 80 = .ok (.isub, 1) := by decide +kernel
theorem dX8_walk_81 : decode cX8_walk 81 = .ok (.iastore, 1) := by decide +kernel
theorem dX8_walk_82 : decode cX8_walk 82 = .ok (.aload_n 0, 1) := by decide +kernel
theorem dX8_walk_83 : decode cX8_walk 83 = .ok (.getfield 27, 3) := by decide +kernel
theorem dX8_walk_86 : decode cX8_walk 86 = .ok (.getfield 116, 3) := by decide +kernel
theorem dX8_walk_89 : decode cX8_walk 89 = .ok (.iload_n 2, 1) := by decide +kernel
theorem dX8_walk_90 : decode cX8_walk 90 = .ok (.dup2, 1) := by decide +kernel
theorem dX8_walk_91 : decode cX8_walk 91 = .ok (.iaload, 1) := by decide +kernel
theorem dX8_walk_92 : decode cX8_walk 92 = .ok (.iload_n 3, 1) := by decide +kernel
theorem dX8_walk_93 : decode cX8_walk 93 = .ok (.iadd, 1) := by decide +kernel
theorem dX8_walk_94 : decode cX8_walk 94 = .ok (.iastore, 1) := by decide +kernel
theorem dX8_walk_95 : decode cX8_walk 95 = .ok (.iconst 0, 1) := by decide +kernel
theorem dX8_walk_96 : decode cX8_walk 96 = .ok (.ireturn, 1) := by decide +kernel
theorem dX8_most_0 : decode cX8_most 0 = .ok (.aload_n 0, 1) := by decide +kernel
theorem dX8_most_1 : decode cX8_most 1 = .ok (.iload_n 2, 1) := by decide +kernel
theorem dX8_most_2 : decode cX8_most 2 = .ok (.iconst 1, 1) := by decide +kernel
theorem dX8_most_3 : decode cX8_most 3 = .ok (.invokestatic 225, 3) := by decide +kernel
theorem dX8_most_6 : decode cX8_most 6 = .ok (.iload_n 1, 1) := by decide +kernel
theorem dX8_most_7 : decode cX8_most 7 = .ok (.bipush 8, 2) := by decide +kernel
theorem dX8_most_9 : decode cX8_most 9 = .ok (.invokevirtual 229, 3) := by decide +kernel
theorem dX8_most_12 : decode cX8_most 12 = .ok (.istore_n 3, 1) := by decide +kernel
theorem dX8_most_13 : decode cX8_most 13 = .ok (.iload_n 3, 1) := by decide +kernel
theorem dX8_most_14 : decode cX8_most 14 = .ok (.ifCond .eq 5, 3) := by decide +kernel
theorem dX8_most_17 : decode cX8_most 17 = .ok (.iload_n 3, 1) := by decide +kernel
theorem dX8_most_18 : decode cX8_most 18 = .ok (.ireturn, 1) := by decide +kernel
theorem dX8_most_19 : decode cX8_most 19 = .ok (.iload_n 2, 1) := by decide +kernel
theorem dX8_most_20 : decode cX8_most 20 = .ok (.iconst 1, 1) := by decide +kernel
theorem dX8_most_21 : decode cX8_most 21 = .ok (.if_icmp .ne 9, 3) := by decide +kernel
theorem dX8_most_24 : decode cX8_most 24 = .ok (.aload_n 0, 1) := by decide +kernel
theorem dX8_most_25 : decode cX8_most 25 = .ok (.iload_n 1, 1) := by decide +kernel
theorem dX8_most_26 : decode cX8_most 26 = .ok (.invokevirtual 233, 3) := by decide +kernel
theorem dX8_most_29 : decode cX8_most 29 = .ok (.ireturn, 1) := by decide +kernel
theorem dX8_most_30 : decode cX8_most 30 = .ok (.aload_n 0, 1) := by decide +kernel
theorem dX8_most_31 : decode cX8_most 31 = .ok (.iconst 0, 1) := by decide +kernel
theorem dX8_most_32 : decode cX8_most 32 = .ok (.iconst (-1), 1) := by decide +kernel
theorem dX8_most_33 : decode cX8_most 33 = .ok (.iload_n 1, 1) := by decide +kernel
theorem dX8_most_34 : decode cX8_most 34 = .ok (.invokevirtual 236, 3) := by decide +kernel
theorem dX8_most_37 : decode cX8_most 37 = .ok (.aload_n 0, 1) := by decide +kernel
theorem dX8_most_38 : decode cX8_most 38 = .ok (.iload_n 1, 1) := by decide +kernel
theorem dX8_most_39 : decode cX8_most 39 = .ok (.iload_n 2, 1) := by decide +kernel
theorem dX8_most_40 : decode cX8_most 40 = .ok (.aload_n 0, 1) := by decide +kernel
theorem dX8_most_41 : decode cX8_most 41 = .ok (.getfield 58, 3) := by decide +kernel
theorem dX8_most_44 : decode cX8_most 44 = .ok (.getfield 240, 3) := by decide +kernel
theorem dX8_most_47 : decode cX8_most 47 = .ok (.invokevirtual 243, 3) := by decide +kernel
theorem dX8_most_50 : decode cX8_most 50 = .ok (.ireturn, 1) := by decide +kernel
theorem dX8_dearest_0 : decode cX8_dearest 0 = .ok (.aload_n 0, 1) := by decide +kernel
theorem dX8_dearest_1 : decode cX8_dearest 1 = .ok (.iload_n 2, 1) := by decide +kernel
theorem dX8_dearest_2 : decode cX8_dearest 2 = .ok (.iconst 0, 1) := by decide +kernel
theorem dX8_dearest_3 : decode cX8_dearest 3 = .ok (.invokestatic 225, 3) := by decide +kernel
theorem dX8_dearest_6 : decode cX8_dearest 6 = .ok (.iload_n 1, 1) := by decide +kernel
theorem dX8_dearest_7 : decode cX8_dearest 7 = .ok (.bipush 8, 2) := by decide +kernel
theorem dX8_dearest_9 : decode cX8_dearest 9 = .ok (.invokevirtual 229, 3) := by decide +kernel
theorem dX8_dearest_12 : decode cX8_dearest 12 = .ok (.istore_n 3, 1) := by decide +kernel
theorem dX8_dearest_13 : decode cX8_dearest 13 = .ok (.iload_n 3, 1) := by decide +kernel
theorem dX8_dearest_14 : decode cX8_dearest 14 = .ok (.ifCond .eq 5, 3) := by decide +kernel
theorem dX8_dearest_17 : decode cX8_dearest 17 = .ok (.iload_n 3, 1) := by decide +kernel
theorem dX8_dearest_18 : decode cX8_dearest 18 = .ok (.ireturn, 1) := by decide +kernel
theorem dX8_dearest_19 : decode cX8_dearest 19 = .ok (.aload_n 0, 1) := by decide +kernel
theorem dX8_dearest_20 : decode cX8_dearest 20 = .ok (.iconst 1, 1) := by decide +kernel
theorem dX8_dearest_21 : decode cX8_dearest 21 = .ok (.iconst (-1), 1) := by decide +kernel
theorem dX8_dearest_22 : decode cX8_dearest 22 = .ok (.iload_n 1, 1) := by decide +kernel
theorem dX8_dearest_23 : decode cX8_dearest 23 = .ok (.invokevirtual 236, 3) := by decide +kernel
theorem dX8_dearest_26 : decode cX8_dearest 26 = .ok (.aload_n 0, 1) := by decide +kernel
theorem dX8_dearest_27 : decode cX8_dearest 27 = .ok (.iload_n 1, 1) := by decide +kernel
theorem dX8_dearest_28 : decode cX8_dearest 28 = .ok (.iload_n 2, 1) := by decide +kernel
theorem dX8_dearest_29 : decode cX8_dearest 29 = .ok (.aload_n 0, 1) := by decide +kernel
theorem dX8_dearest_30 : decode cX8_dearest 30 = .ok (.getfield 58, 3) := by decide +kernel
theorem dX8_dearest_33 : decode cX8_dearest 33 = .ok (.getfield 240, 3) := by decide +kernel
theorem dX8_dearest_36 : decode cX8_dearest 36 = .ok (.invokevirtual 243, 3) := by decide +kernel
theorem dX8_dearest_39 : decode cX8_dearest 39 = .ok (.ireturn, 1) := by decide +kernel
theorem dX8_fairest_0 : decode cX8_fairest 0 = .ok (.aload_n 0, 1) := by decide +kernel
theorem dX8_fairest_1 : decode cX8_fairest 1 = .ok (.iload_n 2, 1) := by decide +kernel
theorem dX8_fairest_2 : decode cX8_fairest 2 = .ok (.iconst 1, 1) := by decide +kernel
theorem dX8_fairest_3 : decode cX8_fairest 3 = .ok (.invokestatic 225, 3) := by decide +kernel
theorem dX8_fairest_6 : decode cX8_fairest 6 = .ok (.iload_n 1, 1) := by decide +kernel
theorem dX8_fairest_7 : decode cX8_fairest 7 = .ok (.bipush 8, 2) := by decide +kernel
theorem dX8_fairest_9 : decode cX8_fairest 9 = .ok (.invokevirtual 229, 3) := by decide +kernel
theorem dX8_fairest_12 : decode cX8_fairest 12 = .ok (.istore_n 3, 1) := by decide +kernel
theorem dX8_fairest_13 : decode cX8_fairest 13 = .ok (.iload_n 3, 1) := by decide +kernel
theorem dX8_fairest_14 : decode cX8_fairest 14 = .ok (.ifCond .eq 5, 3) := by decide +kernel
theorem dX8_fairest_17 : decode cX8_fairest 17 = .ok (.iload_n 3, 1) := by decide +kernel
theorem dX8_fairest_18 : decode cX8_fairest 18 = .ok (.ireturn, 1) := by decide +kernel
theorem dX8_fairest_19 : decode cX8_fairest 19 = .ok (.aload_n 0, 1) := by decide +kernel
theorem dX8_fairest_20 : decode cX8_fairest 20 = .ok (.iconst 2, 1) := by decide +kernel
theorem dX8_fairest_21 : decode cX8_fairest 21 = .ok (.iconst (-1), 1) := by decide +kernel
theorem dX8_fairest_22 : decode cX8_fairest 22 = .ok (.iload_n 1, 1) := by decide +kernel
theorem dX8_fairest_23 : decode cX8_fairest 23 = .ok (.invokevirtual 236, 3) := by decide +kernel
theorem dX8_fairest_26 : decode cX8_fairest 26 = .ok (.aload_n 0, 1) := by decide +kernel
theorem dX8_fairest_27 : decode cX8_fairest 27 = .ok (.getfield 58, 3) := by decide +kernel
theorem dX8_fairest_30 : decode cX8_fairest 30 = .ok (.getfield 240, 3) := by decide +kernel
theorem dX8_fairest_33 : decode cX8_fairest 33 = .ok (.istore 4, 2) := by decide +kernel
theorem dX8_fairest_35 : decode cX8_fairest 35 = .ok (.aload_n 0, 1) := by decide +kernel
theorem dX8_fairest_36 : decode cX8_fairest 36 = .ok (.iload_n 1, 1) := by decide +kernel
theorem dX8_fairest_37 : decode cX8_fairest 37 = .ok (.iload_n 2, 1) := by decide +kernel
theorem dX8_fairest_38 : decode cX8_fairest 38 = .ok (.iload_n 2, 1) := by decide +kernel
theorem dX8_fairest_39 : decode cX8_fairest 39 = .ok (.ifCond .ne 11, 3) := by decide +kernel
theorem dX8_fairest_42 : decode cX8_fairest 42 = .ok (.iload 4, 2) := by decide +kernel
theorem dX8_fairest_44 : decode cX8_fairest 44 = .ok (.invokestatic 247, 3) := by decide +kernel
theorem dX8_fairest_47 : decode cX8_fairest 47 = .ok (.goto 8, 3) := by decide +kernel
theorem dX8_fairest_50 : decode cX8_fairest 50 = .ok (.iload 4, 2) := by decide +kernel
theorem dX8_fairest_52 : decode cX8_fairest 52 = .ok (.invokestatic 250, 3) := by decide +kernel
theorem dX8_fairest_55 : decode cX8_fairest 55 = .ok (.invokevirtual 243, 3) := by decide +kernel
theorem dX8_fairest_58 : decode cX8_fairest 58 = .ok (.ireturn, 1) := by decide +kernel
theorem dX8_alone_0 : decode cX8_alone 0 = .ok (.aload_n 0, 1) := by decide +kernel
theorem dX8_alone_1 : decode cX8_alone 1 = .ok (.iload_n 1, 1) := by decide +kernel
theorem dX8_alone_2 : decode cX8_alone 2 = .ok (.invokestatic 135, 3) := by decide +kernel
theorem dX8_alone_5 : decode cX8_alone 5 = .ok (.ifCond .eq 15, 3) := by decide +kernel
theorem dX8_alone_8 : decode cX8_alone 8 = .ok (.iload_n 3, 1) := by decide +kernel
theorem dX8_alone_9 : decode cX8_alone 9 = .ok (.iconst 0, 1) := by decide +kernel
theorem dX8_alone_10 : decode cX8_alone 10 = .ok (.invokestatic 225, 3) := by decide +kernel
theorem dX8_alone_13 : decode cX8_alone 13 = .ok (.ifCond .eq 7, 3) := by decide +kernel
theorem dX8_alone_16 : decode cX8_alone 16 = .ok (.iconst 1, 1) := by decide +kernel
theorem dX8_alone_17 : decode cX8_alone 17 = .ok (.goto 4, 3) := by decide +kernel
theorem dX8_alone_20 : decode cX8_alone 20 = .ok (.iconst 0, 1) := by decide +kernel
theorem dX8_alone_21 : decode cX8_alone 21 = .ok (.iload_n 2, 1) := by decide +kernel
theorem dX8_alone_22 : decode cX8_alone 22 = .ok (.bipush 8, 2) := by decide +kernel
theorem dX8_alone_24 : decode cX8_alone 24 = .ok (.invokevirtual 229, 3) := by decide +kernel
theorem dX8_alone_27 : decode cX8_alone 27 = .ok (.istore 4, 2) := by decide +kernel
theorem dX8_alone_29 : decode cX8_alone 29 = .ok (.iload 4, 2) := by decide +kernel
theorem dX8_alone_31 : decode cX8_alone 31 = .ok (.ifCond .eq 6, 3) := by decide +kernel
theorem dX8_alone_34 : decode cX8_alone 34 = .ok (.iload 4, 2) := by decide +kernel
theorem dX8_alone_36 : decode cX8_alone 36 = .ok (.ireturn, 1) := by decide +kernel
theorem dX8_alone_37 : decode cX8_alone 37 = .ok (.aload_n 0, 1) := by decide +kernel
theorem dX8_alone_38 : decode cX8_alone 38 = .ok (.iconst 3, 1) := by decide +kernel
theorem dX8_alone_39 : decode cX8_alone 39 = .ok (.iload_n 1, 1) := by decide +kernel
theorem dX8_alone_40 : decode cX8_alone 40 = .ok (.iload_n 2, 1) := by decide +kernel
theorem dX8_alone_41 : decode cX8_alone 41 = .ok (.invokevirtual 236, 3) := by decide +kernel
