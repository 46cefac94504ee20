theorem dX7_layMinute_51 : decode cX7_layMinute 51 = .ok (.aload_n 0, 1) := by decide +kernel
theorem dX7_layMinute_52 : decode cX7_layMinute 52 = .ok (.iload_n 2, 1) := by decide +kernel
theorem dX7_layMinute_53 : decode cX7_layMinute 53 = .ok (.aload_n 0, 1) := by decide +kernel
theorem dX7_layMinute_54 : decode cX7_layMinute 54 = .ok (.getfield 15, 3) := by decide +kernel
theorem dX7_layMinute_57 : decode cX7_layMinute 57 = .ok (.iload_n 2, 1) := by decide +kernel
theorem dX7_layMinute_58 : decode cX7_layMinute 58 = .ok (.iaload, 1) := by decide +kernel
theorem dX7_layMinute_59 : decode cX7_layMinute 59 = .ok (.iconst 1, 1) := by decide +kernel
theorem dX7_layMinute_60 : decode cX7_layMinute 60 = .ok (.iadd, 1) := by decide +kernel
theorem dX7_layMinute_61 : decode cX7_layMinute 61 = .ok (.iconst 2, 1) := by decide +kernel
theorem dX7_layMinute_62 : decode cX7_layMinute 62 = .ok (.iload_n 1, 1) := by decide +kernel
theorem dX7_layMinute_63 : decode cX7_layMinute 63 = .ok (.invokevirtual 77, 3) := by decide +kernel
theorem dX7_layMinute_66 : decode cX7_layMinute 66 = .ok (.iinc 2 1, 3) := by decide +kernel
theorem dX7_layMinute_69 : decode cX7_layMinute 69 = .ok (.goto (-51), 3) := by decide +kernel
theorem dX7_layMinute_72 : decode cX7_layMinute 72 = .ok (.aload_n 0, 1) := by decide +kernel
theorem dX7_layMinute_73 : decode cX7_layMinute 73 = .ok (.dup, 1) := by decide +kernel
theorem dX7_layMinute_74 : decode cX7_layMinute 74 = .ok (.getfield 42, 3) := by decide +kernel
theorem dX7_layMinute_77 : decode cX7_layMinute 77 = .ok (.iconst 1, 1) := by decide +kernel
theorem dX7_layMinute_78 : decode cX7_layMinute 78 = .ok (.iadd, 1) := by decide +kernel
theorem dX7_layMinute_79 : decode cX7_layMinute 79 = .ok (.putfield 42, 3) := by decide +kernel
theorem dX7_layMinute_82 : decode cX7_layMinute 82 = .ok (.aload_n 0, 1) := by decide +kernel
theorem dX7_layMinute_83 : decode cX7_layMinute 83 = .ok (.getfield 32, 3) := by decide +kernel
theorem dX7_layMinute_86 : decode cX7_layMinute 86 = .ok (.aload_n 0, 1) := by decide +kernel
theorem dX7_layMinute_87 : decode cX7_layMinute 87 = .ok (.getfield 42, 3) := by decide +kernel
theorem dX7_layMinute_90 : decode cX7_layMinute 90 = .ok (.iconst 1, 1) := by decide +kernel
theorem dX7_layMinute_91 : decode cX7_layMinute 91 = .ok (.iadd, 1) := by decide +kernel
theorem dX7_layMinute_92 : decode cX7_layMinute 92 = .ok (.aload_n 0, 1) := by decide +kernel
theorem dX7_layMinute_93 : decode cX7_layMinute 93 = .ok (.getfield 45, 3) := by decide +kernel
theorem dX7_layMinute_96 : decode cX7_layMinute 96 = .ok (.iastore, 1) := by decide +kernel
theorem dX7_layMinute_97 : decode cX7_layMinute 97 = .ok (.return_, 1) := by decide +kernel
theorem dX7_arrive_0 : decode cX7_arrive 0 = .ok (.iload_n 2, 1) := by decide +kernel
theorem dX7_arrive_1 : decode cX7_arrive 1 = .ok (.ifCond .lt 17, 3) := by decide +kernel
theorem dX7_arrive_4 : decode cX7_arrive 4 = .ok (.iload_n 2, 1) := by decide +kernel
theorem dX7_arrive_5 : decode cX7_arrive 5 = .ok (.aload_n 0, 1) := by decide +kernel
theorem dX7_arrive_6 : decode cX7_arrive 6 = .ok (.getfield 35, 3) := by decide +kernel
theorem dX7_arrive_9 : decode cX7_arrive 9 = .ok (.if_icmp .ge 9, 3) := by decide +kernel
theorem dX7_arrive_12 : decode cX7_arrive 12 = .ok (.iload_n 2, 1) := by decide +kernel
theorem dX7_arrive_13 : decode cX7_arrive 13 = .ok (.bipush 16, 2) := by decide +kernel
theorem dX7_arrive_15 : decode cX7_arrive 15 = .ok (.if_icmp .lt 4, 3) := by decide +kernel
theorem dX7_arrive_18 : decode cX7_arrive 18 = .ok (.return_, 1) := by decide +kernel
theorem dX7_arrive_19 : decode cX7_arrive 19 = .ok (.aload_n 0, 1) := by decide +kernel
theorem dX7_arrive_20 : decode cX7_arrive 20 = .ok (.getfield 11, 3) := by decide +kernel
theorem dX7_arrive_23 : decode cX7_arrive 23 = .ok (.iload_n 1, 1) := by decide +kernel
theorem dX7_arrive_24 : decode cX7_arrive 24 = .ok (.laload, 1) := by decide +kernel
theorem dX7_arrive_25 : decode cX7_arrive 25 = .ok (.lconst 1, 1) := by decide +kernel
theorem dX7_arrive_26 : decode cX7_arrive 26 = .ok (.iconst 4, 1) := by decide +kernel
theorem dX7_arrive_27 : decode cX7_arrive 27 = .ok (.iload_n 2, 1) := by decide +kernel
theorem dX7_arrive_28 : decode cX7_arrive 28 = .ok (.imul, 1) := by decide +kernel
theorem dX7_arrive_29 : decode cX7_arrive 29 = .ok (.lshl, 1) := by decide +kernel
theorem dX7_arrive_30 : decode cX7_arrive 30 = .ok (.ladd, 1) := by decide +kernel
theorem dX7_arrive_31 : decode cX7_arrive 31 = .ok (.lstore 5, 2) := by decide +kernel
theorem dX7_arrive_33 : decode cX7_arrive 33 = .ok (.iconst 0, 1) := by decide +kernel
theorem dX7_arrive_34 : decode cX7_arrive 34 = .ok (.istore 7, 2) := by decide +kernel
theorem dX7_arrive_36 : decode cX7_arrive 36 = .ok (.lload 5, 2) := by decide +kernel
theorem dX7_arrive_38 : decode cX7_arrive 38 = .ok (.ldc2_w 81, 3) := by decide +kernel
theorem dX7_arrive_41 : decode cX7_arrive 41 = .ok (.lmul, 1) := by decide +kernel
theorem dX7_arrive_42 : decode cX7_arrive 42 = .ok (.bipush 52, 2) := by decide +kernel
theorem dX7_arrive_44 : decode cX7_arrive 44 = .ok (.lushr, 1) := by decide +kernel
theorem dX7_arrive_45 : decode cX7_arrive 45 = .ok (.l2i, 1) := by decide +kernel
theorem dX7_arrive_46 : decode cX7_arrive 46 = .ok (.istore 8, 2) := by decide +kernel
theorem dX7_arrive_48 : decode cX7_arrive 48 = .ok (.iconst 0, 1) := by decide +kernel
theorem dX7_arrive_49 : decode cX7_arrive 49 = .ok (.istore 9, 2) := by decide +kernel
theorem dX7_arrive_51 : decode cX7_arrive 51 = .ok (.iload 9, 2) := by decide +kernel
theorem dX7_arrive_53 : decode cX7_arrive 53 = .ok (.sipush 4096, 3) := by decide +kernel
theorem dX7_arrive_56 : decode cX7_arrive 56 = .ok (.if_icmp .ge 102, 3) := by decide +kernel
theorem dX7_arrive_59 : decode cX7_arrive 59 = .ok (.aload_n 0, 1) := by decide +kernel
theorem dX7_arrive_60 : decode cX7_arrive 60 = .ok (.getfield 29, 3) := by decide +kernel
theorem dX7_arrive_63 : decode cX7_arrive 63 = .ok (.iload 8, 2) := by decide +kernel
theorem dX7_arrive_65 : decode cX7_arrive 65 = .ok (.iaload, 1) := by decide +kernel
theorem dX7_arrive_66 : decode cX7_arrive 66 = .ok (.istore 10, 2) := by decide +kernel
theorem dX7_arrive_68 : decode cX7_arrive 68 = .ok (.iload 10, 2) := by decide +kernel
theorem dX7_arrive_70 : decode cX7_arrive 70 = .ok (.iload 4, 2) := by decide +kernel
theorem dX7_arrive_72 : decode cX7_arrive 72 = .ok (.if_icmp .ge 26, 3) := by decide +kernel
theorem dX7_arrive_75 : decode cX7_arrive 75 = .ok (.aload_n 0, 1) := by decide +kernel
theorem dX7_arrive_76 : decode cX7_arrive 76 = .ok (.getfield 29, 3) := by decide +kernel
theorem dX7_arrive_79 : decode cX7_arrive 79 = .ok (.iload 8, 2) := by decide +kernel
theorem dX7_arrive_81 : decode cX7_arrive 81 = .ok (.aload_n 0, 1) := by decide +kernel
theorem dX7_arrive_82 : decode cX7_arrive 82 = .ok (.getfield 45, 3) := by decide +kernel
theorem dX7_arrive_85 : decode cX7_arrive 85 = .ok (.iastore, 1) := by decide +kernel
theorem dX7_arrive_86 : decode cX7_arrive 86 = .ok (.aload_n 0, 1) := by decide +kernel
theorem dX7_arrive_87 : decode cX7_arrive 87 = .ok (.iload_n 1, 1) := by decide +kernel
theorem dX7_arrive_88 : decode cX7_arrive 88 = .ok (.lload 5, 2) := by decide +kernel
theorem dX7_arrive_90 : decode cX7_arrive 90 = .ok (.iload_n 2, 1) := by decide +kernel
theorem dX7_arrive_91 : decode cX7_arrive 91 = .ok (.iload_n 3, 1) := by decide +kernel
theorem dX7_arrive_92 : decode cX7_arrive 92 = .ok (.iload 7, 2) := by decide +kernel
theorem dX7_arrive_94 : decode cX7_arrive 94 = .ok (.invokevirtual 83, 3) := by decide +kernel
theorem dX7_arrive_97 : decode cX7_arrive 97 = .ok (.return_, 1) := by decide +kernel
theorem dX7_arrive_98 : decode cX7_arrive 98 = .ok (.aload_n 0, 1) := by decide +kernel
theorem dX7_arrive_99 : decode cX7_arrive 99 = .ok (.getfield 11, 3) := by decide +kernel
theorem dX7_arrive_102 : decode cX7_arrive 102 = .ok (.iload 10, 2) := by decide +kernel
theorem dX7_arrive_104 : decode cX7_arrive 104 = .ok (.laload, 1) := by decide +kernel
theorem dX7_arrive_105 : decode cX7_arrive 105 = .ok (.lload 5, 2) := by decide +kernel
theorem dX7_arrive_107 : decode cX7_arrive 107 = .ok (.lcmp, 1) := by decide +kernel
theorem dX7_arrive_108 : decode cX7_arrive 108 = .ok (.ifCond .ne 34, 3) := by decide +kernel
theorem dX7_arrive_111 : decode cX7_arrive 111 = .ok (.aload_n 0, 1) := by decide +kernel
theorem dX7_arrive_112 : decode cX7_arrive 112 = .ok (.getfield 15, 3) := by decide +kernel
theorem dX7_arrive_115 : decode cX7_arrive 115 = .ok (.iload 10, 2) := by decide +kernel
theorem dX7_arrive_117 : decode cX7_arrive 117 = .ok (.iaload, 1) := by decide +kernel
theorem dX7_arrive_118 : decode cX7_arrive 118 = .ok (.iload_n 2, 1) := by decide +kernel
theorem dX7_arrive_119 : decode cX7_arrive 119 = .ok (.if_icmp .ne 20, 3) := by decide +kernel
theorem dX7_arrive_122 : decode cX7_arrive 122 = .ok (.aload_n 0, 1) := by decide +kernel
theorem dX7_arrive_123 : decode cX7_arrive 123 = .ok (.getfield 19, 3) := by decide +kernel
theorem dX7_arrive_126 : decode cX7_arrive 126 = .ok (.iload 10, 2) := by decide +kernel
theorem dX7_arrive_128 : decode cX7_arrive 128 = .ok (.dup2, 1) := by decide +kernel
theorem dX7_arrive_129 : decode cX7_arrive 129 = .ok (.iaload, 1) := by decide +kernel
theorem dX7_arrive_130 : decode cX7_arrive 130 = .ok (.aload_n 0, 1) := by decide +kernel
theorem dX7_arrive_131 : decode cX7_arrive 131 = .ok (.getfield 19, 3) := by decide +kernel
theorem dX7_arrive_134 : decode cX7_arrive 134 = .ok (.iload_n 1, 1) := by decide +kernel
theorem dX7_arrive_135 : decode cX7_arrive 135 = .ok (.iaload, 1) := by decide +kernel
theorem dX7_arrive_136 : decode cX7_arrive 136 = .ok (.iadd, 1) := by decide +kernel
theorem dX7_arrive_137 : decode cX7_arrive 137 = .ok (.iastore, 1) := by decide +kernel
theorem dX7_arrive_138 : decode cX7_arrive 138 = .ok (.return_, 1) := by decide +kernel
theorem dX7_arrive_139 : decode cX7_arrive 139 = .ok (.iconst 1, 1) := by decide +kernel
theorem dX7_arrive_140 : decode cX7_arrive 140 = .ok (.istore 7, 2) := by decide +kernel
theorem dX7_arrive_142 : decode cX7_arrive 142 = .ok (.iload 8, 2) := by decide +kernel
theorem dX7_arrive_144 : decode cX7_arrive 144 = .ok (.iconst 1, 1) := by decide +kernel
theorem dX7_arrive_145 : decode cX7_arrive 145 = .ok (.iadd, 1) := by decide +kernel
theorem dX7_arrive_146 : decode cX7_arrive 146 = .ok (.sipush 4095, 3) := by decide +kernel
theorem dX7_arrive_149 : decode cX7_arrive 149 = .ok (.iand, 1) := by decide +kernel
theorem dX7_arrive_150 : decode cX7_arrive 150 = .ok (.istore 8, 2) := by decide +kernel
theorem dX7_arrive_152 : decode cX7_arrive 152 = .ok (.iinc 9 1, 3) := by decide +kernel
theorem dX7_arrive_155 : decode cX7_arrive 155 = .ok (.goto (-104), 3) := by decide +kernel
theorem dX7_arrive_158 : decode cX7_arrive 158 = .ok (.return_, 1) := by decide +kernel
theorem dX7_append_0 : decode cX7_append 0 = .ok (.aload_n 0, 1) := by decide +kernel
theorem dX7_append_1 : decode cX7_append 1 = .ok (.getfield 45, 3) := by decide +kernel
theorem dX7_append_4 : decode cX7_append 4 = .ok (.sipush 2560, 3) := by decide +kernel
theorem dX7_append_7 : decode cX7_append 7 = .ok (.if_icmp .ge 80, 3) := by decide +kernel
theorem dX7_append_10 : decode cX7_append 10 = .ok (.aload_n 0, 1) := by decide +kernel
theorem dX7_append_11 : decode cX7_append 11 = .ok (.getfield 11, 3) := by decide +kernel
theorem dX7_append_14 : decode cX7_append 14 = .ok (.aload_n 0, 1) := by decide +kernel
theorem dX7_append_15 : decode cX7_append 15 = .ok (.getfield 45, 3) := by decide +kernel
theorem dX7_append_18 : decode cX7_append 18 = .ok (.lload_n 2, 1) := by decide +kernel
theorem dX7_append_19 : decode cX7_append 19 = .ok (.lastore, 1) := by decide +kernel
theorem dX7_append_20 : decode cX7_append 20 = .ok (.aload_n 0, 1) := by decide +kernel
theorem dX7_append_21 : decode cX7_append 21 = .ok (.getfield 15, 3) := by decide +kernel
theorem dX7_append_24 : decode cX7_append 24 = .ok (.aload_n 0, 1) := by decide +kernel
theorem dX7_append_25 : decode cX7_append 25 = .ok (.getfield 45, 3) := by decide +kernel
theorem dX7_append_28 : decode cX7_append 28 = .ok (.iload 4, 2) := by decide +kernel
theorem dX7_append_30 : decode cX7_append 30 = .ok (.iastore, 1) := by decide +kernel
theorem dX7_append_31 : decode cX7_append 31 = .ok (.aload_n 0, 1) := by decide +kernel
theorem dX7_append_32 : decode cX7_append 32 = .ok (.getfield 19, 3) := by decide +kernel
theorem dX7_append_35 : decode cX7_append 35 = .ok (.aload_n 0, 1) := by decide +kernel
theorem dX7_append_36 : decode cX7_append 36 = .ok (.getfield 45, 3) := by decide +kernel
theorem dX7_append_39 : decode cX7_append 39 = .ok (.aload_n 0, 1) := by decide +kernel
theorem dX7_append_40 : decode cX7_append 40 = .ok (.getfield 19, 3) := by decide +kernel
theorem dX7_append_43 : decode cX7_append 43 = .ok (.iload_n 1, 1) := by decide +kernel
theorem dX7_append_44 : decode cX7_append 44 = .ok (.iaload, 1) := by decide +kernel
theorem dX7_append_45 : decode cX7_append 45 = .ok (.iastore, 1) := by decide +kernel
theorem dX7_append_46 : decode cX7_append 46 = .ok (.aload_n 0, 1) := by decide +kernel
theorem dX7_append_47 : decode cX7_append 47 = .ok (.getfield 22, 3) := by decide +kernel
theorem dX7_append_50 : decode cX7_append 50 = .ok (.aload_n 0, 1) := by decide +kernel
theorem dX7_append_51 : decode cX7_append 51 = .ok (.getfield 45, 3) := by decide +kernel
theorem dX7_append_54 : decode cX7_append 54 = .ok (.aload_n 0, 1) := by decide +kernel
theorem dX7_append_55 : decode cX7_append 55 = .ok (.getfield 22, 3) := by decide +kernel
theorem dX7_append_58 : decode cX7_append 58 = .ok (.iload_n 1, 1) := by decide +kernel
theorem dX7_append_59 : decode cX7_append 59 = .ok (.iaload, 1) := by decide +kernel
theorem dX7_append_60 : decode cX7_append 60 = .ok (.iconst 2, 1) := by decide +kernel
theorem dX7_append_61 : decode cX7_append 61 = .ok (.ishl, 1) := by decide +kernel
theorem dX7_append_62 : decode cX7_append 62 = .ok (.iload 5, 2) := by decide +kernel
theorem dX7_append_64 : decode cX7_append 64 = .ok (.ior, 1) := by decide +kernel
theorem dX7_append_65 : decode cX7_append 65 = .ok (.iastore, 1) := by decide +kernel
theorem dX7_append_66 : decode cX7_append 66 = .ok (.aload_n 0, 1) := by decide +kernel
theorem dX7_append_67 : decode cX7_append 67 = .ok (.getfield 25, 3) := by decide +kernel
theorem dX7_append_70 : decode cX7_append 70 = .ok (.aload_n 0, 1) := by decide +kernel
theorem dX7_append_71 : decode cX7_append 71 = .ok (.getfield 45, 3) := by decide +kernel
theorem dX7_append_74 : decode cX7_append 74 = .ok (.iload 6, 2) := by decide +kernel
theorem dX7_append_76 : decode cX7_append 76 = .ok (.bastore, 1) := by decide +kernel
theorem dX7_append_77 : decode cX7_append 77 = .ok (.aload_n 0, 1) := by decide +kernel
theorem dX7_append_78 : decode cX7_append 78 = .ok (.dup, 1) := by decide +kernel
theorem dX7_append_79 : decode cX7_append 79 = .ok (.getfield 45, 3) := by decide +kernel
theorem dX7_append_82 : decode cX7_append 82 = .ok (.iconst 1, 1) := by decide +kernel
theorem dX7_append_83 : decode cX7_append 83 = .ok (.iadd, 1) := by decide +kernel
theorem dX7_append_84 : decode cX7_append 84 = .ok (.putfield 45, 3) := by decide +kernel
theorem dX7_append_87 : decode cX7_append 87 = .ok (.return_, 1) := by decide +kernel
theorem dX7_moveOf_0 : decode cX7_moveOf 0 = .ok (.iload_n 3, 1) := by decide +kernel
theorem dX7_moveOf_1 : decode cX7_moveOf 1 = .ok (.ifCond .lt 8, 3) := by decide +kernel
theorem dX7_moveOf_4 : decode cX7_moveOf 4 = .ok (.iload_n 3, 1) := by decide +kernel
theorem dX7_moveOf_5 : decode cX7_moveOf 5 = .ok (.iload_n 2, 1) := by decide +kernel
theorem dX7_moveOf_6 : decode cX7_moveOf 6 = .ok (.if_icmp .lt 5, 3) := by decide +kernel
theorem dX7_moveOf_9 : decode cX7_moveOf 9 = .ok (.iconst (-1), 1) := by decide +kernel
theorem dX7_moveOf_10 : decode cX7_moveOf 10 = .ok (.ireturn, 1) := by decide +kernel
theorem dX7_moveOf_11 : decode cX7_moveOf 11 = .ok (.aload_n 0, 1) := by decide +kernel
theorem dX7_moveOf_12 : decode cX7_moveOf 12 = .ok (.getfield 22, 3) := by decide +kernel
theorem dX7_moveOf_15 : decode cX7_moveOf 15 = .ok (.iload_n 1, 1) := by decide +kernel
theorem dX7_moveOf_16 : decode cX7_moveOf 16 = .ok (.iaload, 1) := by decide +kernel
theorem dX7_moveOf_17 : decode cX7_moveOf 17 = .ok (.iconst 2, 1) := by decide +kernel
theorem dX7_moveOf_18 : decode cX7_moveOf 18 = .ok (.iload_n 2, 1) := by decide +kernel
theorem dX7_moveOf_19 : decode cX7_moveOf 19 = .ok (.iconst 1, 1) := by decide +kernel
theorem dX7_moveOf_20 : decode cX7_moveOf 20 = .ok (.isub, 1) := by decide +kernel
theorem dX7_moveOf_21 : decode cX7_moveOf 21 = .ok (.iload_n 3, 1) := by decide +kernel
theorem dX7_moveOf_22 : decode cX7_moveOf 22 = .ok (.isub, 1) := by decide +kernel
theorem dX7_moveOf_23 : decode cX7_moveOf 23 = .ok (.imul, 1) := by decide +kernel
theorem dX7_moveOf_24 : decode cX7_moveOf 24 = .ok (.ishr, 1) := by decide +kernel
theorem dX7_moveOf_25 : decode cX7_moveOf 25 = .ok (.iconst 3, 1) := by decide +kernel
theorem dX7_moveOf_26 : decode cX7_moveOf 26 = .ok (.iand, 1) := by decide +kernel
theorem dX7_moveOf_27 : decode cX7_moveOf 27 = .ok (.ireturn, 1) := by decide +kernel
theorem dX8_init_0 : decode cX8_init 0 = .ok (.aload_n 0, 1) := by decide +kernel
theorem dX8_init_1 : decode cX8_init 1 = .ok (.invokespecial 1, 3) := by decide +kernel
theorem dX8_init_4 : decode cX8_init 4 = .ok (.aload_n 0, 1) := by decide +kernel
theorem dX8_init_5 : decode cX8_init 5 = .ok (.sipush 900, 3) := by decide +kernel
theorem dX8_init_8 : decode cX8_init 8 = .ok (.newarray .byte, 2) := by decide +kernel
