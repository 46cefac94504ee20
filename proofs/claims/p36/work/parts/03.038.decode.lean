theorem dX9_bitsOf_17 : decode cX9_bitsOf 17 = .ok (.istore_n 1, 1) := by decide +kernel
theorem dX9_bitsOf_18 : decode cX9_bitsOf 18 = .ok (.iinc 2 1, 3) := by decide +kernel
theorem dX9_bitsOf_21 : decode cX9_bitsOf 21 = .ok (.goto (-17), 3) := by decide +kernel
theorem dX9_bitsOf_24 : decode cX9_bitsOf 24 = .ok (.iload_n 1, 1) := by decide +kernel
theorem dX9_bitsOf_25 : decode cX9_bitsOf 25 = .ok (.ireturn, 1) := by decide +kernel
theorem dX9_haltsFor_0 : decode cX9_haltsFor 0 = .ok (.iconst 0, 1) := by decide +kernel
theorem dX9_haltsFor_1 : decode cX9_haltsFor 1 = .ok (.istore_n 2, 1) := by decide +kernel
theorem dX9_haltsFor_2 : decode cX9_haltsFor 2 = .ok (.iload_n 2, 1) := by decide +kernel
theorem dX9_haltsFor_3 : decode cX9_haltsFor 3 = .ok (.aload_n 0, 1) := by decide +kernel
theorem dX9_haltsFor_4 : decode cX9_haltsFor 4 = .ok (.getfield 13, 3) := by decide +kernel
theorem dX9_haltsFor_7 : decode cX9_haltsFor 7 = .ok (.iconst 0, 1) := by decide +kernel
theorem dX9_haltsFor_8 : decode cX9_haltsFor 8 = .ok (.iaload, 1) := by decide +kernel
theorem dX9_haltsFor_9 : decode cX9_haltsFor 9 = .ok (.if_icmp .ge 26, 3) := by decide +kernel
theorem dX9_haltsFor_12 : decode cX9_haltsFor 12 = .ok (.aload_n 0, 1) := by decide +kernel
theorem dX9_haltsFor_13 : decode cX9_haltsFor 13 = .ok (.getfield 48, 3) := by decide +kernel
theorem dX9_haltsFor_16 : decode cX9_haltsFor 16 = .ok (.iload_n 2, 1) := by decide +kernel
theorem dX9_haltsFor_17 : decode cX9_haltsFor 17 = .ok (.aload_n 0, 1) := by decide +kernel
theorem dX9_haltsFor_18 : decode cX9_haltsFor 18 = .ok (.iload_n 2, 1) := by decide +kernel
theorem dX9_haltsFor_19 : decode cX9_haltsFor 19 = .ok (.aload_n 0, 1) := by decide +kernel
theorem dX9_haltsFor_20 : decode cX9_haltsFor 20 = .ok (.getfield 13, 3) := by decide +kernel
theorem dX9_haltsFor_23 : decode cX9_haltsFor 23 = .ok (.iconst 3, 1) := by decide +kernel
theorem dX9_haltsFor_24 : decode cX9_haltsFor 24 = .ok (.iaload, 1) := by decide +kernel
theorem dX9_haltsFor_25 : decode cX9_haltsFor 25 = .ok (.invokevirtual 188, 3) := by decide +kernel
theorem dX9_haltsFor_28 : decode cX9_haltsFor 28 = .ok (.iastore, 1) := by decide +kernel
theorem dX9_haltsFor_29 : decode cX9_haltsFor 29 = .ok (.iinc 2 1, 3) := by decide +kernel
theorem dX9_haltsFor_32 : decode cX9_haltsFor 32 = .ok (.goto (-30), 3) := by decide +kernel
theorem dX9_haltsFor_35 : decode cX9_haltsFor 35 = .ok (.iconst (-1), 1) := by decide +kernel
theorem dX9_haltsFor_36 : decode cX9_haltsFor 36 = .ok (.istore_n 2, 1) := by decide +kernel
theorem dX9_haltsFor_37 : decode cX9_haltsFor 37 = .ok (.iconst 0, 1) := by decide +kernel
theorem dX9_haltsFor_38 : decode cX9_haltsFor 38 = .ok (.istore_n 3, 1) := by decide +kernel
theorem dX9_haltsFor_39 : decode cX9_haltsFor 39 = .ok (.iload_n 3, 1) := by decide +kernel
theorem dX9_haltsFor_40 : decode cX9_haltsFor 40 = .ok (.iconst 1, 1) := by decide +kernel
theorem dX9_haltsFor_41 : decode cX9_haltsFor 41 = .ok (.aload_n 0, 1) := by decide +kernel
theorem dX9_haltsFor_42 : decode cX9_haltsFor 42 = .ok (.getfield 13, 3) := by decide +kernel
theorem dX9_haltsFor_45 : decode cX9_haltsFor 45 = .ok (.iconst 0, 1) := by decide +kernel
theorem dX9_haltsFor_46 : decode cX9_haltsFor 46 = .ok (.iaload, 1) := by decide +kernel
theorem dX9_haltsFor_47 : decode cX9_haltsFor 47 = .ok (.ishl, 1) := by decide +kernel
theorem dX9_haltsFor_48 : decode cX9_haltsFor 48 = .ok (.if_icmp .ge 88, 3) := by decide +kernel
theorem dX9_haltsFor_51 : decode cX9_haltsFor 51 = .ok (.iload_n 2, 1) := by decide +kernel
theorem dX9_haltsFor_52 : decode cX9_haltsFor 52 = .ok (.iconst (-1), 1) := by decide +kernel
theorem dX9_haltsFor_53 : decode cX9_haltsFor 53 = .ok (.if_icmp .eq 17, 3) := by decide +kernel
theorem dX9_haltsFor_56 : decode cX9_haltsFor 56 = .ok (.iload_n 3, 1) := by decide +kernel
theorem dX9_haltsFor_57 : decode cX9_haltsFor 57 = .ok (.invokestatic 291, 3) := by decide +kernel
theorem dX9_haltsFor_60 : decode cX9_haltsFor 60 = .ok (.iload_n 2, 1) := by decide +kernel
theorem dX9_haltsFor_61 : decode cX9_haltsFor 61 = .ok (.invokestatic 291, 3) := by decide +kernel
theorem dX9_haltsFor_64 : decode cX9_haltsFor 64 = .ok (.if_icmp .lt 6, 3) := by decide +kernel
theorem dX9_haltsFor_67 : decode cX9_haltsFor 67 = .ok (.goto 63, 3) := by decide +kernel
theorem dX9_haltsFor_70 : decode cX9_haltsFor 70 = .ok (.iconst 0, 1) := by decide +kernel
theorem dX9_haltsFor_71 : decode cX9_haltsFor 71 = .ok (.istore 4, 2) := by decide +kernel
theorem dX9_haltsFor_73 : decode cX9_haltsFor 73 = .ok (.iconst 0, 1) := by decide +kernel
theorem dX9_haltsFor_74 : decode cX9_haltsFor 74 = .ok (.istore 5, 2) := by decide +kernel
theorem dX9_haltsFor_76 : decode cX9_haltsFor 76 = .ok (.iload 5, 2) := by decide +kernel
theorem dX9_haltsFor_78 : decode cX9_haltsFor 78 = .ok (.aload_n 0, 1) := by decide +kernel
theorem dX9_haltsFor_79 : decode cX9_haltsFor 79 = .ok (.getfield 13, 3) := by decide +kernel
theorem dX9_haltsFor_82 : decode cX9_haltsFor 82 = .ok (.iconst 0, 1) := by decide +kernel
theorem dX9_haltsFor_83 : decode cX9_haltsFor 83 = .ok (.iaload, 1) := by decide +kernel
theorem dX9_haltsFor_84 : decode cX9_haltsFor 84 = .ok (.if_icmp .ge 35, 3) := by decide +kernel
theorem dX9_haltsFor_87 : decode cX9_haltsFor 87 = .ok (.iload 4, 2) := by decide +kernel
theorem dX9_haltsFor_89 : decode cX9_haltsFor 89 = .ok (.iload_n 3, 1) := by decide +kernel
theorem dX9_haltsFor_90 : decode cX9_haltsFor 90 = .ok (.iload 5, 2) := by decide +kernel
theorem dX9_haltsFor_92 : decode cX9_haltsFor 92 = .ok (.ishr, 1) := by decide +kernel
theorem dX9_haltsFor_93 : decode cX9_haltsFor 93 = .ok (.iconst 1, 1) := by decide +kernel
theorem dX9_haltsFor_94 : decode cX9_haltsFor 94 = .ok (.iand, 1) := by decide +kernel
theorem dX9_haltsFor_95 : decode cX9_haltsFor 95 = .ok (.iconst 1, 1) := by decide +kernel
theorem dX9_haltsFor_96 : decode cX9_haltsFor 96 = .ok (.if_icmp .ne 13, 3) := by decide +kernel
theorem dX9_haltsFor_99 : decode cX9_haltsFor 99 = .ok (.aload_n 0, 1) := by decide +kernel
theorem dX9_haltsFor_100 : decode cX9_haltsFor 100 = .ok (.getfield 48, 3) := by decide +kernel
theorem dX9_haltsFor_103 : decode cX9_haltsFor 103 = .ok (.iload 5, 2) := by decide +kernel
theorem dX9_haltsFor_105 : decode cX9_haltsFor 105 = .ok (.iaload, 1) := by decide +kernel
theorem dX9_haltsFor_106 : decode cX9_haltsFor 106 = .ok (.goto 4, 3) := by decide +kernel
theorem dX9_haltsFor_109 : decode cX9_haltsFor 109 = .ok (.iconst 0, 1) := by decide +kernel
theorem dX9_haltsFor_110 : decode cX9_haltsFor 110 = .ok (.ior, 1) := by decide +kernel
theorem dX9_haltsFor_111 : decode cX9_haltsFor 111 = .ok (.istore 4, 2) := by decide +kernel
theorem dX9_haltsFor_113 : decode cX9_haltsFor 113 = .ok (.iinc 5 1, 3) := by decide +kernel
theorem dX9_haltsFor_116 : decode cX9_haltsFor 116 = .ok (.goto (-40), 3) := by decide +kernel
theorem dX9_haltsFor_119 : decode cX9_haltsFor 119 = .ok (.iload_n 1, 1) := by decide +kernel
theorem dX9_haltsFor_120 : decode cX9_haltsFor 120 = .ok (.iload 4, 2) := by decide +kernel
theorem dX9_haltsFor_122 : decode cX9_haltsFor 122 = .ok (.iconst (-1), 1) := by decide +kernel
theorem dX9_haltsFor_123 : decode cX9_haltsFor 123 = .ok (.ixor, 1) := by decide +kernel
theorem dX9_haltsFor_124 : decode cX9_haltsFor 124 = .ok (.iand, 1) := by decide +kernel
theorem dX9_haltsFor_125 : decode cX9_haltsFor 125 = .ok (.ifCond .ne 5, 3) := by decide +kernel
theorem dX9_haltsFor_128 : decode cX9_haltsFor 128 = .ok (.iload_n 3, 1) := by decide +kernel
theorem dX9_haltsFor_129 : decode cX9_haltsFor 129 = .ok (.istore_n 2, 1) := by decide +kernel
theorem dX9_haltsFor_130 : decode cX9_haltsFor 130 = .ok (.iinc 3 1, 3) := by decide +kernel
theorem dX9_haltsFor_133 : decode cX9_haltsFor 133 = .ok (.goto (-94), 3) := by decide +kernel
theorem dX9_haltsFor_136 : decode cX9_haltsFor 136 = .ok (.iload_n 2, 1) := by decide +kernel
theorem dX9_haltsFor_137 : decode cX9_haltsFor 137 = .ok (.ireturn, 1) := by decide +kernel
theorem dX9_halts_0 : decode cX9_halts 0 = .ok (.aload_n 0, 1) := by decide +kernel
theorem dX9_halts_1 : decode cX9_halts 1 = .ok (.iconst 0, 1) := by decide +kernel
theorem dX9_halts_2 : decode cX9_halts 2 = .ok (.putfield 1, 3) := by decide +kernel
theorem dX9_halts_5 : decode cX9_halts 5 = .ok (.aload_n 0, 1) := by decide +kernel
theorem dX9_halts_6 : decode cX9_halts 6 = .ok (.iload_n 1, 1) := by decide +kernel
theorem dX9_halts_7 : decode cX9_halts 7 = .ok (.invokevirtual 191, 3) := by decide +kernel
theorem dX9_halts_10 : decode cX9_halts 10 = .ok (.ifCond .eq 11, 3) := by decide +kernel
theorem dX9_halts_13 : decode cX9_halts 13 = .ok (.aload_n 0, 1) := by decide +kernel
theorem dX9_halts_14 : decode cX9_halts 14 = .ok (.iload_n 1, 1) := by decide +kernel
theorem dX9_halts_15 : decode cX9_halts 15 = .ok (.invokevirtual 294, 3) := by decide +kernel
theorem dX9_halts_18 : decode cX9_halts 18 = .ok (.goto 5, 3) := by decide +kernel
theorem dX9_halts_21 : decode cX9_halts 21 = .ok (.bipush (-3), 2) := by decide +kernel
theorem dX9_halts_23 : decode cX9_halts 23 = .ok (.ireturn, 1) := by decide +kernel
theorem dX9_tour_0 : decode cX9_tour 0 = .ok (.aload_n 0, 1) := by decide +kernel
theorem dX9_tour_1 : decode cX9_tour 1 = .ok (.iconst 0, 1) := by decide +kernel
theorem dX9_tour_2 : decode cX9_tour 2 = .ok (.putfield 1, 3) := by decide +kernel
theorem dX9_tour_5 : decode cX9_tour 5 = .ok (.aload_n 0, 1) := by decide +kernel
theorem dX9_tour_6 : decode cX9_tour 6 = .ok (.iload_n 1, 1) := by decide +kernel
theorem dX9_tour_7 : decode cX9_tour 7 = .ok (.invokevirtual 191, 3) := by decide +kernel
theorem dX9_tour_10 : decode cX9_tour 10 = .ok (.ifCond .ne 6, 3) := by decide +kernel
theorem dX9_tour_13 : decode cX9_tour 13 = .ok (.bipush (-3), 2) := by decide +kernel
theorem dX9_tour_15 : decode cX9_tour 15 = .ok (.ireturn, 1) := by decide +kernel
theorem dX9_tour_16 : decode cX9_tour 16 = .ok (.aload_n 0, 1) := by decide +kernel
theorem dX9_tour_17 : decode cX9_tour 17 = .ok (.iload_n 1, 1) := by decide +kernel
theorem dX9_tour_18 : decode cX9_tour 18 = .ok (.invokevirtual 294, 3) := by decide +kernel
theorem dX9_tour_21 : decode cX9_tour 21 = .ok (.istore_n 2, 1) := by decide +kernel
theorem dX9_tour_22 : decode cX9_tour 22 = .ok (.iload_n 2, 1) := by decide +kernel
theorem dX9_tour_23 : decode cX9_tour 23 = .ok (.ifCond .gt 5, 3) := by decide +kernel
theorem dX9_tour_26 : decode cX9_tour 26 = .ok (.iload_n 2, 1) := by decide +kernel
theorem dX9_tour_27 : decode cX9_tour 27 = .ok (.ireturn, 1) := by decide +kernel
theorem dX9_tour_28 : decode cX9_tour 28 = .ok (.iconst 0, 1) := by decide +kernel
theorem dX9_tour_29 : decode cX9_tour 29 = .ok (.istore_n 3, 1) := by decide +kernel
theorem dX9_tour_30 : decode cX9_tour 30 = .ok (.iload_n 2, 1) := by decide +kernel
theorem dX9_tour_31 : decode cX9_tour 31 = .ok (.iload_n 3, 1) := by decide +kernel
theorem dX9_tour_32 : decode cX9_tour 32 = .ok (.ishr, 1) := by decide +kernel
theorem dX9_tour_33 : decode cX9_tour 33 = .ok (.iconst 1, 1) := by decide +kernel
theorem dX9_tour_34 : decode cX9_tour 34 = .ok (.iand, 1) := by decide +kernel
theorem dX9_tour_35 : decode cX9_tour 35 = .ok (.ifCond .ne 9, 3) := by decide +kernel
theorem dX9_tour_38 : decode cX9_tour 38 = .ok (.iinc 3 1, 3) := by decide +kernel
theorem dX9_tour_41 : decode cX9_tour 41 = .ok (.goto (-11), 3) := by decide +kernel
theorem dX9_tour_44 : decode cX9_tour 44 = .ok (.bipush 16, 2) := by decide +kernel
theorem dX9_tour_46 : decode cX9_tour 46 = .ok (.istore 4, 2) := by decide +kernel
theorem dX9_tour_48 : decode cX9_tour 48 = .ok (.iload_n 2, 1) := by decide +kernel
theorem dX9_tour_49 : decode cX9_tour 49 = .ok (.iload 4, 2) := by decide +kernel
theorem dX9_tour_51 : decode cX9_tour 51 = .ok (.ishr, 1) := by decide +kernel
theorem dX9_tour_52 : decode cX9_tour 52 = .ok (.iconst 1, 1) := by decide +kernel
theorem dX9_tour_53 : decode cX9_tour 53 = .ok (.iand, 1) := by decide +kernel
theorem dX9_tour_54 : decode cX9_tour 54 = .ok (.ifCond .ne 9, 3) := by decide +kernel
theorem dX9_tour_57 : decode cX9_tour 57 = .ok (.iinc 4 (-1), 3) := by decide +kernel
theorem dX9_tour_60 : decode cX9_tour 60 = .ok (.goto (-12), 3) := by decide +kernel
theorem dX9_tour_63 : decode cX9_tour 63 = .ok (.aload_n 0, 1) := by decide +kernel
theorem dX9_tour_64 : decode cX9_tour 64 = .ok (.getfield 13, 3) := by decide +kernel
theorem dX9_tour_67 : decode cX9_tour 67 = .ok (.iconst 2, 1) := by decide +kernel
theorem dX9_tour_68 : decode cX9_tour 68 = .ok (.iaload, 1) := by decide +kernel
theorem dX9_tour_69 : decode cX9_tour 69 = .ok (.iload_n 3, 1) := by decide +kernel
theorem dX9_tour_70 : decode cX9_tour 70 = .ok (.invokestatic 158, 3) := by decide +kernel
theorem dX9_tour_73 : decode cX9_tour 73 = .ok (.istore 5, 2) := by decide +kernel
theorem dX9_tour_75 : decode cX9_tour 75 = .ok (.aload_n 0, 1) := by decide +kernel
theorem dX9_tour_76 : decode cX9_tour 76 = .ok (.getfield 13, 3) := by decide +kernel
theorem dX9_tour_79 : decode cX9_tour 79 = .ok (.iconst 2, 1) := by decide +kernel
theorem dX9_tour_80 : decode cX9_tour 80 = .ok (.iaload, 1) := by decide +kernel
theorem dX9_tour_81 : decode cX9_tour 81 = .ok (.iload 4, 2) := by decide +kernel
theorem dX9_tour_83 : decode cX9_tour 83 = .ok (.invokestatic 158, 3) := by decide +kernel
theorem dX9_tour_86 : decode cX9_tour 86 = .ok (.istore 6, 2) := by decide +kernel
theorem dX9_tour_88 : decode cX9_tour 88 = .ok (.iload 4, 2) := by decide +kernel
theorem dX9_tour_90 : decode cX9_tour 90 = .ok (.iload_n 3, 1) := by decide +kernel
theorem dX9_tour_91 : decode cX9_tour 91 = .ok (.isub, 1) := by decide +kernel
theorem dX9_tour_92 : decode cX9_tour 92 = .ok (.iload 5, 2) := by decide +kernel
theorem dX9_tour_94 : decode cX9_tour 94 = .ok (.iload 6, 2) := by decide +kernel
theorem dX9_tour_96 : decode cX9_tour 96 = .ok (.if_icmp .ge 8, 3) := by decide +kernel
theorem dX9_tour_99 : decode cX9_tour 99 = .ok (.iload 5, 2) := by decide +kernel
theorem dX9_tour_101 : decode cX9_tour 101 = .ok (.goto 5, 3) := by decide +kernel
theorem dX9_tour_104 : decode cX9_tour 104 = .ok (.iload 6, 2) := by decide +kernel
theorem dX9_tour_106 : decode cX9_tour 106 = .ok (.iadd, 1) := by decide +kernel
theorem dX9_tour_107 : decode cX9_tour 107 = .ok (.ireturn, 1) := by decide +kernel
theorem dX9_explains_0 : decode cX9_explains 0 = .ok (.iload_n 1, 1) := by decide +kernel
theorem dX9_explains_1 : decode cX9_explains 1 = .ok (.iload_n 2, 1) := by decide +kernel
theorem dX9_explains_2 : decode cX9_explains 2 = .ok (.if_icmp .ne 75, 3) := by decide +kernel
theorem dX9_explains_5 : decode cX9_explains 5 = .ok (.iconst 0, 1) := by decide +kernel
theorem dX9_explains_6 : decode cX9_explains 6 = .ok (.istore 4, 2) := by decide +kernel
theorem dX9_explains_8 : decode cX9_explains 8 = .ok (.iload 4, 2) := by decide +kernel
theorem dX9_explains_10 : decode cX9_explains 10 = .ok (.aload_n 0, 1) := by decide +kernel
theorem dX9_explains_11 : decode cX9_explains 11 = .ok (.getfield 13, 3) := by decide +kernel
theorem dX9_explains_14 : decode cX9_explains 14 = .ok (.iconst 0, 1) := by decide +kernel
theorem dX9_explains_15 : decode cX9_explains 15 = .ok (.iaload, 1) := by decide +kernel
theorem dX9_explains_16 : decode cX9_explains 16 = .ok (.if_icmp .ge 37, 3) := by decide +kernel
theorem dX9_explains_19 : decode cX9_explains 19 = .ok (.aload_n 0, 1) := by decide +kernel
theorem dX9_explains_20 : decode cX9_explains 20 = .ok (.getfield 13, 3) := by decide +kernel
theorem dX9_explains_23 : decode cX9_explains 23 = .ok (.bipush 16, 2) := by decide +kernel
theorem dX9_explains_25 : decode cX9_explains 25 = .ok (.iload 4, 2) := by decide +kernel
theorem dX9_explains_27 : decode cX9_explains 27 = .ok (.iadd, 1) := by decide +kernel
theorem dX9_explains_28 : decode cX9_explains 28 = .ok (.iaload, 1) := by decide +kernel
theorem dX9_explains_29 : decode cX9_explains 29 = .ok (.i2l, 1) := by decide +kernel
theorem dX9_explains_30 : decode cX9_explains 30 = .ok (.aload_n 0, 1) := by decide +kernel
theorem dX9_explains_31 : decode cX9_explains 31 = .ok (.getfield 57, 3) := by decide +kernel
theorem dX9_explains_34 : decode cX9_explains 34 = .ok (.bipush 40, 2) := by decide +kernel
theorem dX9_explains_36 : decode cX9_explains 36 = .ok (.iload_n 3, 1) := by decide +kernel
theorem dX9_explains_37 : decode cX9_explains 37 = .ok (.imul, 1) := by decide +kernel
theorem dX9_explains_38 : decode cX9_explains 38 = .ok (.iload 4, 2) := by decide +kernel
theorem dX9_explains_40 : decode cX9_explains 40 = .ok (.iadd, 1) := by decide +kernel
theorem dX9_explains_41 : decode cX9_explains 41 = .ok (.laload, 1) := by decide +kernel
theorem dX9_explains_42 : decode cX9_explains 42 = .ok (.lcmp, 1) := by decide +kernel
theorem dX9_explains_43 : decode cX9_explains 43 = .ok (.ifCond .eq 4, 3) := by decide +kernel
theorem dX9_explains_46 : decode cX9_explains 46 = .ok (.return_, 1) := by decide +kernel
theorem dX9_explains_47 : decode cX9_explains 47 = .ok (.iinc 4 1, 3) := by decide +kernel
theorem dX9_explains_50 : decode cX9_explains 50 = .ok (.goto (-42), 3) := by decide +kernel
theorem dX9_explains_53 : decode cX9_explains 53 = .ok (.aload_n 0, 1) := by decide +kernel
theorem dX9_explains_54 : decode cX9_explains 54 = .ok (.dup, 1) := by decide +kernel
theorem dX9_explains_55 : decode cX9_explains 55 = .ok (.getfield 297, 3) := by decide +kernel
theorem dX9_explains_58 : decode cX9_explains 58 = .ok (.iconst 1, 1) := by decide +kernel
theorem dX9_explains_59 : decode cX9_explains 59 = .ok (.iadd, 1) := by decide +kernel
theorem dX9_explains_60 : decode cX9_explains 60 = .ok (.putfield 297, 3) := by decide +kernel
theorem dX9_explains_63 : decode cX9_explains 63 = .ok (.aload_n 0, 1) := by decide +kernel
