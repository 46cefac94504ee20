theorem dX5_weigh_75 : decode cX5_weigh 75 = .ok (.istore_n 3, 1) := by decide +kernel
theorem dX5_weigh_76 : decode cX5_weigh 76 = .ok (.iinc 4 1, 3) := by decide +kernel
theorem dX5_weigh_79 : decode cX5_weigh 79 = .ok (.goto (-66), 3) := by decide +kernel
theorem dX5_weigh_82 : decode cX5_weigh 82 = .ok (.iconst 0, 1) := by decide +kernel
theorem dX5_weigh_83 : decode cX5_weigh 83 = .ok (.istore 4, 2) := by decide +kernel
theorem dX5_weigh_85 : decode cX5_weigh 85 = .ok (.iload 4, 2) := by decide +kernel
theorem dX5_weigh_87 : decode cX5_weigh 87 = .ok (.iload_n 2, 1) := by decide +kernel
theorem dX5_weigh_88 : decode cX5_weigh 88 = .ok (.if_icmp .ge 81, 3) := by decide +kernel
theorem dX5_weigh_91 : decode cX5_weigh 91 = .ok (.iload_n 3, 1) := by decide +kernel
theorem dX5_weigh_92 : decode cX5_weigh 92 = .ok (.aload_n 0, 1) := by decide +kernel
theorem dX5_weigh_93 : decode cX5_weigh 93 = .ok (.getfield 18, 3) := by decide +kernel
theorem dX5_weigh_96 : decode cX5_weigh 96 = .ok (.iload 4, 2) := by decide +kernel
theorem dX5_weigh_98 : decode cX5_weigh 98 = .ok (.iaload, 1) := by decide +kernel
theorem dX5_weigh_99 : decode cX5_weigh 99 = .ok (.iadd, 1) := by decide +kernel
theorem dX5_weigh_100 : decode cX5_weigh 100 = .ok (.istore 5, 2) := by decide +kernel
theorem dX5_weigh_102 : decode cX5_weigh 102 = .ok (.iload 4, 2) := by decide +kernel
theorem dX5_weigh_104 : decode cX5_weigh 104 = .ok (.bipush 16, 2) := by decide +kernel
theorem dX5_weigh_106 : decode cX5_weigh 106 = .ok (.imul, 1) := by decide +kernel
theorem dX5_weigh_107 : decode cX5_weigh 107 = .ok (.istore 6, 2) := by decide +kernel
theorem dX5_weigh_109 : decode cX5_weigh 109 = .ok (.iconst 0, 1) := by decide +kernel
theorem dX5_weigh_110 : decode cX5_weigh 110 = .ok (.istore 7, 2) := by decide +kernel
theorem dX5_weigh_112 : decode cX5_weigh 112 = .ok (.iload 7, 2) := by decide +kernel
theorem dX5_weigh_114 : decode cX5_weigh 114 = .ok (.iload_n 2, 1) := by decide +kernel
theorem dX5_weigh_115 : decode cX5_weigh 115 = .ok (.if_icmp .ge 48, 3) := by decide +kernel
theorem dX5_weigh_118 : decode cX5_weigh 118 = .ok (.iload 5, 2) := by decide +kernel
theorem dX5_weigh_120 : decode cX5_weigh 120 = .ok (.aload_n 0, 1) := by decide +kernel
theorem dX5_weigh_121 : decode cX5_weigh 121 = .ok (.getfield 21, 3) := by decide +kernel
theorem dX5_weigh_124 : decode cX5_weigh 124 = .ok (.iload 7, 2) := by decide +kernel
theorem dX5_weigh_126 : decode cX5_weigh 126 = .ok (.iaload, 1) := by decide +kernel
theorem dX5_weigh_127 : decode cX5_weigh 127 = .ok (.iadd, 1) := by decide +kernel
theorem dX5_weigh_128 : decode cX5_weigh 128 = .ok (.istore 8, 2) := by decide +kernel
theorem dX5_weigh_130 : decode cX5_weigh 130 = .ok (.iload 8, 2) := by decide +kernel
theorem dX5_weigh_132 : decode cX5_weigh 132 = .ok (.aload_n 0, 1) := by decide +kernel
theorem dX5_weigh_133 : decode cX5_weigh 133 = .ok (.getfield 24, 3) := by decide +kernel
theorem dX5_weigh_136 : decode cX5_weigh 136 = .ok (.iload 6, 2) := by decide +kernel
theorem dX5_weigh_138 : decode cX5_weigh 138 = .ok (.iload 7, 2) := by decide +kernel
theorem dX5_weigh_140 : decode cX5_weigh 140 = .ok (.iadd, 1) := by decide +kernel
theorem dX5_weigh_141 : decode cX5_weigh 141 = .ok (.iaload, 1) := by decide +kernel
theorem dX5_weigh_142 : decode cX5_weigh 142 = .ok (.if_icmp .le 15, 3) := by decide +kernel
theorem dX5_weigh_145 : decode cX5_weigh 145 = .ok (.aload_n 0, 1) := by decide +kernel
theorem dX5_weigh_146 : decode cX5_weigh 146 = .ok (.getfield 24, 3) := by decide +kernel
theorem dX5_weigh_149 : decode cX5_weigh 149 = .ok (.iload 6, 2) := by decide +kernel
theorem dX5_weigh_151 : decode cX5_weigh 151 = .ok (.iload 7, 2) := by decide +kernel
theorem dX5_weigh_153 : decode cX5_weigh 153 = .ok (.iadd, 1) := by decide +kernel
theorem dX5_weigh_154 : decode cX5_weigh 154 = .ok (.iload 8, 2) := by decide +kernel
theorem dX5_weigh_156 : decode cX5_weigh 156 = .ok (.iastore, 1) := by decide +kernel
theorem dX5_weigh_157 : decode cX5_weigh 157 = .ok (.iinc 7 1, 3) := by decide +kernel
theorem dX5_weigh_160 : decode cX5_weigh 160 = .ok (.goto (-48), 3) := by decide +kernel
theorem dX5_weigh_163 : decode cX5_weigh 163 = .ok (.iinc 4 1, 3) := by decide +kernel
theorem dX5_weigh_166 : decode cX5_weigh 166 = .ok (.goto (-81), 3) := by decide +kernel
theorem dX5_weigh_169 : decode cX5_weigh 169 = .ok (.return_, 1) := by decide +kernel
theorem dX6_init_0 : decode cX6_init 0 = .ok (.aload_n 0, 1) := by decide +kernel
theorem dX6_init_1 : decode cX6_init 1 = .ok (.invokespecial 3, 3) := by decide +kernel
theorem dX6_init_4 : decode cX6_init 4 = .ok (.aload_n 0, 1) := by decide +kernel
theorem dX6_init_5 : decode cX6_init 5 = .ok (.new 9, 3) := by decide +kernel
theorem dX6_init_8 : decode cX6_init 8 = .ok (.dup, 1) := by decide +kernel
theorem dX6_init_9 : decode cX6_init 9 = .ok (.invokespecial 11, 3) := by decide +kernel
theorem dX6_init_12 : decode cX6_init 12 = .ok (.putfield 12, 3) := by decide +kernel
theorem dX6_init_15 : decode cX6_init 15 = .ok (.aload_n 0, 1) := by decide +kernel
theorem dX6_init_16 : decode cX6_init 16 = .ok (.iconst 0, 1) := by decide +kernel
theorem dX6_init_17 : decode cX6_init 17 = .ok (.putfield 18, 3) := by decide +kernel
theorem dX6_init_20 : decode cX6_init 20 = .ok (.aload_n 0, 1) := by decide +kernel
theorem dX6_init_21 : decode cX6_init 21 = .ok (.iconst (-1), 1) := by decide +kernel
theorem dX6_init_22 : decode cX6_init 22 = .ok (.putfield 22, 3) := by decide +kernel
theorem dX6_init_25 : decode cX6_init 25 = .ok (.aload_n 0, 1) := by decide +kernel
theorem dX6_init_26 : decode cX6_init 26 = .ok (.sipush 900, 3) := by decide +kernel
theorem dX6_init_29 : decode cX6_init 29 = .ok (.newarray .byte, 2) := by decide +kernel
theorem dX6_init_31 : decode cX6_init 31 = .ok (.putfield 25, 3) := by decide +kernel
theorem dX6_init_34 : decode cX6_init 34 = .ok (.aload_n 0, 1) := by decide +kernel
theorem dX6_init_35 : decode cX6_init 35 = .ok (.iconst 0, 1) := by decide +kernel
theorem dX6_init_36 : decode cX6_init 36 = .ok (.putfield 29, 3) := by decide +kernel
theorem dX6_init_39 : decode cX6_init 39 = .ok (.aload_n 0, 1) := by decide +kernel
theorem dX6_init_40 : decode cX6_init 40 = .ok (.iconst 0, 1) := by decide +kernel
theorem dX6_init_41 : decode cX6_init 41 = .ok (.putfield 32, 3) := by decide +kernel
theorem dX6_init_44 : decode cX6_init 44 = .ok (.aload_n 0, 1) := by decide +kernel
theorem dX6_init_45 : decode cX6_init 45 = .ok (.iconst 0, 1) := by decide +kernel
theorem dX6_init_46 : decode cX6_init 46 = .ok (.putfield 35, 3) := by decide +kernel
theorem dX6_init_49 : decode cX6_init 49 = .ok (.aload_n 0, 1) := by decide +kernel
theorem dX6_init_50 : decode cX6_init 50 = .ok (.iconst 0, 1) := by decide +kernel
theorem dX6_init_51 : decode cX6_init 51 = .ok (.putfield 38, 3) := by decide +kernel
theorem dX6_init_54 : decode cX6_init 54 = .ok (.aload_n 0, 1) := by decide +kernel
theorem dX6_init_55 : decode cX6_init 55 = .ok (.iconst 0, 1) := by decide +kernel
theorem dX6_init_56 : decode cX6_init 56 = .ok (.putfield 41, 3) := by decide +kernel
theorem dX6_init_59 : decode cX6_init 59 = .ok (.return_, 1) := by decide +kernel
theorem dX6_readText_0 : decode cX6_readText 0 = .ok (.aload_n 0, 1) := by decide +kernel
theorem dX6_readText_1 : decode cX6_readText 1 = .ok (.iconst 0, 1) := by decide +kernel
theorem dX6_readText_2 : decode cX6_readText 2 = .ok (.iload_n 2, 1) := by decide +kernel
theorem dX6_readText_3 : decode cX6_readText 3 = .ok (.aload_n 1, 1) := by decide +kernel
theorem dX6_readText_4 : decode cX6_readText 4 = .ok (.arraylength, 1) := by decide +kernel
theorem dX6_readText_5 : decode cX6_readText 5 = .ok (.sipush 900, 3) := by decide +kernel
theorem dX6_readText_8 : decode cX6_readText 8 = .ok (.invokestatic 44, 3) := by decide +kernel
theorem dX6_readText_11 : decode cX6_readText 11 = .ok (.invokestatic 44, 3) := by decide +kernel
theorem dX6_readText_14 : decode cX6_readText 14 = .ok (.invokestatic 50, 3) := by decide +kernel
theorem dX6_readText_17 : decode cX6_readText 17 = .ok (.putfield 29, 3) := by decide +kernel
theorem dX6_readText_20 : decode cX6_readText 20 = .ok (.aload_n 1, 1) := by decide +kernel
theorem dX6_readText_21 : decode cX6_readText 21 = .ok (.iconst 0, 1) := by decide +kernel
theorem dX6_readText_22 : decode cX6_readText 22 = .ok (.aload_n 0, 1) := by decide +kernel
theorem dX6_readText_23 : decode cX6_readText 23 = .ok (.getfield 25, 3) := by decide +kernel
theorem dX6_readText_26 : decode cX6_readText 26 = .ok (.iconst 0, 1) := by decide +kernel
theorem dX6_readText_27 : decode cX6_readText 27 = .ok (.aload_n 0, 1) := by decide +kernel
theorem dX6_readText_28 : decode cX6_readText 28 = .ok (.getfield 29, 3) := by decide +kernel
theorem dX6_readText_31 : decode cX6_readText 31 = .ok (.invokestatic 53, 3) := by decide +kernel
theorem dX6_readText_34 : decode cX6_readText 34 = .ok (.aload_n 0, 1) := by decide +kernel
theorem dX6_readText_35 : decode cX6_readText 35 = .ok (.getfield 12, 3) := by decide +kernel
theorem dX6_readText_38 : decode cX6_readText 38 = .ok (.invokevirtual 59, 3) := by decide +kernel
theorem dX6_readText_41 : decode cX6_readText 41 = .ok (.aload_n 0, 1) := by decide +kernel
theorem dX6_readText_42 : decode cX6_readText 42 = .ok (.iconst 0, 1) := by decide +kernel
theorem dX6_readText_43 : decode cX6_readText 43 = .ok (.putfield 18, 3) := by decide +kernel
theorem dX6_readText_46 : decode cX6_readText 46 = .ok (.aload_n 0, 1) := by decide +kernel
theorem dX6_readText_47 : decode cX6_readText 47 = .ok (.iconst (-1), 1) := by decide +kernel
theorem dX6_readText_48 : decode cX6_readText 48 = .ok (.putfield 22, 3) := by decide +kernel
theorem dX6_readText_51 : decode cX6_readText 51 = .ok (.aload_n 0, 1) := by decide +kernel
theorem dX6_readText_52 : decode cX6_readText 52 = .ok (.iconst 0, 1) := by decide +kernel
theorem dX6_readText_53 : decode cX6_readText 53 = .ok (.putfield 35, 3) := by decide +kernel
theorem dX6_readText_56 : decode cX6_readText 56 = .ok (.aload_n 0, 1) := by decide +kernel
theorem dX6_readText_57 : decode cX6_readText 57 = .ok (.invokevirtual 62, 3) := by decide +kernel
theorem dX6_readText_60 : decode cX6_readText 60 = .ok (.iconst 0, 1) := by decide +kernel
theorem dX6_readText_61 : decode cX6_readText 61 = .ok (.istore_n 3, 1) := by decide +kernel
theorem dX6_readText_62 : decode cX6_readText 62 = .ok (.iload_n 3, 1) := by decide +kernel
theorem dX6_readText_63 : decode cX6_readText 63 = .ok (.sipush 900, 3) := by decide +kernel
theorem dX6_readText_66 : decode cX6_readText 66 = .ok (.if_icmp .ge 27, 3) := by decide +kernel
theorem dX6_readText_69 : decode cX6_readText 69 = .ok (.aload_n 0, 1) := by decide +kernel
theorem dX6_readText_70 : decode cX6_readText 70 = .ok (.getfield 38, 3) := by decide +kernel
theorem dX6_readText_73 : decode cX6_readText 73 = .ok (.ifCond .eq 20, 3) := by decide +kernel
theorem dX6_readText_76 : decode cX6_readText 76 = .ok (.aload_n 0, 1) := by decide +kernel
theorem dX6_readText_77 : decode cX6_readText 77 = .ok (.getfield 18, 3) := by decide +kernel
theorem dX6_readText_80 : decode cX6_readText 80 = .ok (.ifCond .ne 13, 3) := by decide +kernel
theorem dX6_readText_83 : decode cX6_readText 83 = .ok (.aload_n 0, 1) := by decide +kernel
theorem dX6_readText_84 : decode cX6_readText 84 = .ok (.invokevirtual 65, 3) := by decide +kernel
theorem dX6_readText_87 : decode cX6_readText 87 = .ok (.iinc 3 1, 3) := by decide +kernel
theorem dX6_readText_90 : decode cX6_readText 90 = .ok (.goto (-28), 3) := by decide +kernel
theorem dX6_readText_93 : decode cX6_readText 93 = .ok (.aload_n 0, 1) := by decide +kernel
theorem dX6_readText_94 : decode cX6_readText 94 = .ok (.getfield 18, 3) := by decide +kernel
theorem dX6_readText_97 : decode cX6_readText 97 = .ok (.ireturn, 1) := by decide +kernel
theorem dX6_readLine_0 : decode cX6_readLine 0 = .ok (.aload_n 0, 1) := by decide +kernel
theorem dX6_readLine_1 : decode cX6_readLine 1 = .ok (.ldc 68, 2) := by decide +kernel
theorem dX6_readLine_3 : decode cX6_readLine 3 = .ok (.invokevirtual 70, 3) := by decide +kernel
theorem dX6_readLine_6 : decode cX6_readLine 6 = .ok (.ifCond .eq 10, 3) := by decide +kernel
theorem dX6_readLine_9 : decode cX6_readLine 9 = .ok (.aload_n 0, 1) := by decide +kernel
theorem dX6_readLine_10 : decode cX6_readLine 10 = .ok (.invokevirtual 74, 3) := by decide +kernel
theorem dX6_readLine_13 : decode cX6_readLine 13 = .ok (.goto 126, 3) := by decide +kernel
theorem dX6_readLine_16 : decode cX6_readLine 16 = .ok (.aload_n 0, 1) := by decide +kernel
theorem dX6_readLine_17 : decode cX6_readLine 17 = .ok (.ldc 77, 2) := by decide +kernel
theorem dX6_readLine_19 : decode cX6_readLine 19 = .ok (.invokevirtual 79, 3) := by decide +kernel
theorem dX6_readLine_22 : decode cX6_readLine 22 = .ok (.ifCond .eq 10, 3) := by decide +kernel
theorem dX6_readLine_25 : decode cX6_readLine 25 = .ok (.aload_n 0, 1) := by decide +kernel
theorem dX6_readLine_26 : decode cX6_readLine 26 = .ok (.invokevirtual 82, 3) := by decide +kernel
theorem dX6_readLine_29 : decode cX6_readLine 29 = .ok (.goto 110, 3) := by decide +kernel
theorem dX6_readLine_32 : decode cX6_readLine 32 = .ok (.aload_n 0, 1) := by decide +kernel
theorem dX6_readLine_33 : decode cX6_readLine 33 = .ok (.ldc 85, 2) := by decide +kernel
theorem dX6_readLine_35 : decode cX6_readLine 35 = .ok (.invokevirtual 79, 3) := by decide +kernel
theorem dX6_readLine_38 : decode cX6_readLine 38 = .ok (.ifCond .eq 21, 3) := by decide +kernel
theorem dX6_readLine_41 : decode cX6_readLine 41 = .ok (.aload_n 0, 1) := by decide +kernel
theorem dX6_readLine_42 : decode cX6_readLine 42 = .ok (.getfield 12, 3) := by decide +kernel
theorem dX6_readLine_45 : decode cX6_readLine 45 = .ok (.aload_n 0, 1) := by decide +kernel
theorem dX6_readLine_46 : decode cX6_readLine 46 = .ok (.iconst 0, 1) := by decide +kernel
theorem dX6_readLine_47 : decode cX6_readLine 47 = .ok (.sipush 999, 3) := by decide +kernel
theorem dX6_readLine_50 : decode cX6_readLine 50 = .ok (.invokevirtual 87, 3) := by decide +kernel
theorem dX6_readLine_53 : decode cX6_readLine 53 = .ok (.putfield 90, 3) := by decide +kernel
theorem dX6_readLine_56 : decode cX6_readLine 56 = .ok (.goto 83, 3) := by decide +kernel
theorem dX6_readLine_59 : decode cX6_readLine 59 = .ok (.aload_n 0, 1) := by decide +kernel
theorem dX6_readLine_60 : decode cX6_readLine 60 = .ok (.ldc 92, 2) := by decide +kernel
theorem dX6_readLine_62 : decode cX6_readLine 62 = .ok (.invokevirtual 79, 3) := by decide +kernel
theorem dX6_readLine_65 : decode cX6_readLine 65 = .ok (.ifCond .eq 10, 3) := by decide +kernel
theorem dX6_readLine_68 : decode cX6_readLine 68 = .ok (.aload_n 0, 1) := by decide +kernel
theorem dX6_readLine_69 : decode cX6_readLine 69 = .ok (.invokevirtual 94, 3) := by decide +kernel
theorem dX6_readLine_72 : decode cX6_readLine 72 = .ok (.goto 67, 3) := by decide +kernel
theorem dX6_readLine_75 : decode cX6_readLine 75 = .ok (.aload_n 0, 1) := by decide +kernel
theorem dX6_readLine_76 : decode cX6_readLine 76 = .ok (.ldc 97, 2) := by decide +kernel
theorem dX6_readLine_78 : decode cX6_readLine 78 = .ok (.invokevirtual 79, 3) := by decide +kernel
theorem dX6_readLine_81 : decode cX6_readLine 81 = .ok (.ifCond .eq 20, 3) := by decide +kernel
theorem dX6_readLine_84 : decode cX6_readLine 84 = .ok (.aload_n 0, 1) := by decide +kernel
theorem dX6_readLine_85 : decode cX6_readLine 85 = .ok (.getfield 12, 3) := by decide +kernel
theorem dX6_readLine_88 : decode cX6_readLine 88 = .ok (.aload_n 0, 1) := by decide +kernel
theorem dX6_readLine_89 : decode cX6_readLine 89 = .ok (.iconst 0, 1) := by decide +kernel
theorem dX6_readLine_90 : decode cX6_readLine 90 = .ok (.bipush 100, 2) := by decide +kernel
theorem dX6_readLine_92 : decode cX6_readLine 92 = .ok (.invokevirtual 87, 3) := by decide +kernel
theorem dX6_readLine_95 : decode cX6_readLine 95 = .ok (.putfield 99, 3) := by decide +kernel
theorem dX6_readLine_98 : decode cX6_readLine 98 = .ok (.goto 41, 3) := by decide +kernel
theorem dX6_readLine_101 : decode cX6_readLine 101 = .ok (.aload_n 0, 1) := by decide +kernel
theorem dX6_readLine_102 : decode cX6_readLine 102 = .ok (.ldc 101, 2) := by decide +kernel
theorem dX6_readLine_104 : decode cX6_readLine 104 = .ok (.invokevirtual 79, 3) := by decide +kernel
theorem dX6_readLine_107 : decode cX6_readLine 107 = .ok (.ifCond .eq 27, 3) := by decide +kernel
theorem dX6_readLine_110 : decode cX6_readLine 110 = .ok (.aload_n 0, 1) := by decide +kernel
theorem dX6_readLine_111 : decode cX6_readLine 111 = .ok (.getfield 12, 3) := by decide +kernel
theorem dX6_readLine_114 : decode cX6_readLine 114 = .ok (.aload_n 0, 1) := by decide +kernel
theorem dX6_readLine_115 : decode cX6_readLine 115 = .ok (.iconst 0, 1) := by decide +kernel
theorem dX6_readLine_116 : decode cX6_readLine 116 = .ok (.aload_n 0, 1) := by decide +kernel
theorem dX6_readLine_117 : decode cX6_readLine 117 = .ok (.getfield 12, 3) := by decide +kernel
theorem dX6_readLine_120 : decode cX6_readLine 120 = .ok (.getfield 103, 3) := by decide +kernel
theorem dX6_readLine_123 : decode cX6_readLine 123 = .ok (.iconst 1, 1) := by decide +kernel
theorem dX6_readLine_124 : decode cX6_readLine 124 = .ok (.isub, 1) := by decide +kernel
theorem dX6_readLine_125 : decode cX6_readLine 125 = .ok (.invokevirtual 87, 3) := by decide +kernel
theorem dX6_readLine_128 : decode cX6_readLine 128 = .ok (.putfield 106, 3) := by decide +kernel
theorem dX6_readLine_131 : decode cX6_readLine 131 = .ok (.goto 8, 3) := by decide +kernel
theorem dX6_readLine_134 : decode cX6_readLine 134 = .ok (.aload_n 0, 1) := by decide +kernel
theorem dX6_readLine_135 : decode cX6_readLine 135 = .ok (.iconst 2, 1) := by decide +kernel
theorem dX6_readLine_136 : decode cX6_readLine 136 = .ok (.invokevirtual 109, 3) := by decide +kernel
theorem dX6_readLine_139 : decode cX6_readLine 139 = .ok (.aload_n 0, 1) := by decide +kernel
theorem dX6_readLine_140 : decode cX6_readLine 140 = .ok (.invokevirtual 113, 3) := by decide +kernel
theorem dX6_readLine_143 : decode cX6_readLine 143 = .ok (.return_, 1) := by decide +kernel
theorem dX6_readStrip_0 : decode cX6_readStrip 0 = .ok (.aload_n 0, 1) := by decide +kernel
theorem dX6_readStrip_1 : decode cX6_readStrip 1 = .ok (.getfield 12, 3) := by decide +kernel
theorem dX6_readStrip_4 : decode cX6_readStrip 4 = .ok (.getfield 103, 3) := by decide +kernel
theorem dX6_readStrip_7 : decode cX6_readStrip 7 = .ok (.bipush 16, 2) := by decide +kernel
theorem dX6_readStrip_9 : decode cX6_readStrip 9 = .ok (.if_icmp .lt 9, 3) := by decide +kernel
theorem dX6_readStrip_12 : decode cX6_readStrip 12 = .ok (.aload_n 0, 1) := by decide +kernel
theorem dX6_readStrip_13 : decode cX6_readStrip 13 = .ok (.iconst 4, 1) := by decide +kernel
theorem dX6_readStrip_14 : decode cX6_readStrip 14 = .ok (.invokevirtual 109, 3) := by decide +kernel
theorem dX6_readStrip_17 : decode cX6_readStrip 17 = .ok (.return_, 1) := by decide +kernel
theorem dX6_readStrip_18 : decode cX6_readStrip 18 = .ok (.aload_n 0, 1) := by decide +kernel
theorem dX6_readStrip_19 : decode cX6_readStrip 19 = .ok (.invokevirtual 62, 3) := by decide +kernel
theorem dX6_readStrip_22 : decode cX6_readStrip 22 = .ok (.aload_n 0, 1) := by decide +kernel
theorem dX6_readStrip_23 : decode cX6_readStrip 23 = .ok (.iconst 0, 1) := by decide +kernel
theorem dX6_readStrip_24 : decode cX6_readStrip 24 = .ok (.bipush 99, 2) := by decide +kernel
theorem dX6_readStrip_26 : decode cX6_readStrip 26 = .ok (.invokevirtual 87, 3) := by decide +kernel
theorem dX6_readStrip_29 : decode cX6_readStrip 29 = .ok (.istore_n 1, 1) := by decide +kernel
theorem dX6_readStrip_30 : decode cX6_readStrip 30 = .ok (.aload_n 0, 1) := by decide +kernel
theorem dX6_readStrip_31 : decode cX6_readStrip 31 = .ok (.ldc 116, 2) := by decide +kernel
theorem dX6_readStrip_33 : decode cX6_readStrip 33 = .ok (.invokevirtual 79, 3) := by decide +kernel
theorem dX6_readStrip_36 : decode cX6_readStrip 36 = .ok (.ifCond .eq 13, 3) := by decide +kernel
theorem dX6_readStrip_39 : decode cX6_readStrip 39 = .ok (.aload_n 0, 1) := by decide +kernel
theorem dX6_readStrip_40 : decode cX6_readStrip 40 = .ok (.iconst 0, 1) := by decide +kernel
theorem dX6_readStrip_41 : decode cX6_readStrip 41 = .ok (.bipush 9, 2) := by decide +kernel
theorem dX6_readStrip_43 : decode cX6_readStrip 43 = .ok (.invokevirtual 87, 3) := by decide +kernel
theorem dX6_readStrip_46 : decode cX6_readStrip 46 = .ok (.goto 4, 3) := by decide +kernel
theorem dX6_readStrip_49 : decode cX6_readStrip 49 = .ok (.iconst 2, 1) := by decide +kernel
theorem dX6_readStrip_50 : decode cX6_readStrip 50 = .ok (.istore_n 2, 1) := by decide +kernel
theorem dX6_readStrip_51 : decode cX6_readStrip 51 = .ok (.aload_n 0, 1) := by decide +kernel
theorem dX6_readStrip_52 : decode cX6_readStrip 52 = .ok (.ldc 118, 2) := by decide +kernel
theorem dX6_readStrip_54 : decode cX6_readStrip 54 = .ok (.invokevirtual 79, 3) := by decide +kernel
theorem dX6_readStrip_57 : decode cX6_readStrip 57 = .ok (.ifCond .eq 13, 3) := by decide +kernel
theorem dX6_readStrip_60 : decode cX6_readStrip 60 = .ok (.aload_n 0, 1) := by decide +kernel
theorem dX6_readStrip_61 : decode cX6_readStrip 61 = .ok (.iconst 0, 1) := by decide +kernel
theorem dX6_readStrip_62 : decode cX6_readStrip 62 = .ok (.bipush 30, 2) := by decide +kernel
theorem dX6_readStrip_64 : decode cX6_readStrip 64 = .ok (.invokevirtual 87, 3) := by decide +kernel
theorem dX6_readStrip_67 : decode cX6_readStrip 67 = .ok (.goto 4, 3) := by decide +kernel
theorem dX6_readStrip_70 : decode cX6_readStrip 70 = .ok (.iconst 0, 1) := by decide +kernel
theorem dX6_readStrip_71 : decode cX6_readStrip 71 = .ok (.istore_n 3, 1) := by decide +kernel
theorem dX6_readStrip_72 : decode cX6_readStrip 72 = .ok (.aload_n 0, 1) := by decide +kernel
theorem dX6_readStrip_73 : decode cX6_readStrip 73 = .ok (.ldc 120, 2) := by decide +kernel
theorem dX6_readStrip_75 : decode cX6_readStrip 75 = .ok (.invokevirtual 79, 3) := by decide +kernel
theorem dX6_readStrip_78 : decode cX6_readStrip 78 = .ok (.ifCond .eq 12, 3) := by decide +kernel
theorem dX6_readStrip_81 : decode cX6_readStrip 81 = .ok (.aload_n 0, 1) := by decide +kernel
theorem dX6_readStrip_82 : decode cX6_readStrip 82 = .ok (.iconst 0, 1) := by decide +kernel
theorem dX6_readStrip_83 : decode cX6_readStrip 83 = .ok (.iconst 5, 1) := by decide +kernel
theorem dX6_readStrip_84 : decode cX6_readStrip 84 = .ok (.invokevirtual 87, 3) := by decide +kernel
theorem dX6_readStrip_87 : decode cX6_readStrip 87 = .ok (.goto 4, 3) := by decide +kernel
theorem dX6_readStrip_90 : decode cX6_readStrip 90 = .ok (.iconst 0, 1) := by decide +kernel
theorem dX6_readStrip_91 : decode cX6_readStrip 91 = .ok (.istore 4, 2) := by decide +kernel
theorem dX6_readStrip_93 : decode cX6_readStrip 93 = .ok (.aload_n 0, 1) := by decide +kernel
theorem dX6_readStrip_94 : decode cX6_readStrip 94 = .ok (.getfield 12, 3) := by decide +kernel
theorem dX6_readStrip_97 : decode cX6_readStrip 97 = .ok (.iload_n 1, 1) := by decide +kernel
theorem dX6_readStrip_98 : decode cX6_readStrip 98 = .ok (.iload_n 2, 1) := by decide +kernel
theorem dX6_readStrip_99 : decode cX6_readStrip 99 = .ok (.iload_n 3, 1) := by decide +kernel
theorem dX6_readStrip_100 : decode cX6_readStrip 100 = .ok (.iload 4, 2) := by decide +kernel
theorem dX6_readStrip_102 : decode cX6_readStrip 102 = .ok (.invokevirtual 122, 3) := by decide +kernel
theorem dX6_readStrip_105 : decode cX6_readStrip 105 = .ok (.return_, 1) := by decide +kernel
theorem dX6_readLamp_0 : decode cX6_readLamp 0 = .ok (.aload_n 0, 1) := by decide +kernel
theorem dX6_readLamp_1 : decode cX6_readLamp 1 = .ok (.getfield 12, 3) := by decide +kernel
theorem dX6_readLamp_4 : decode cX6_readLamp 4 = .ok (.aload_n 0, 1) := by decide +kernel
theorem dX6_readLamp_5 : decode cX6_readLamp 5 = .ok (.ldc 126, 2) := by decide +kernel
theorem dX6_readLamp_7 : decode cX6_readLamp 7 = .ok (.invokevirtual 79, 3) := by decide +kernel
theorem dX6_readLamp_10 : decode cX6_readLamp 10 = .ok (.ifCond .eq 20, 3) := by decide +kernel
theorem dX6_readLamp_13 : decode cX6_readLamp 13 = .ok (.aload_n 0, 1) := by decide +kernel
theorem dX6_readLamp_14 : decode cX6_readLamp 14 = .ok (.iconst 0, 1) := by decide +kernel
theorem dX6_readLamp_15 : decode cX6_readLamp 15 = .ok (.aload_n 0, 1) := by decide +kernel
theorem dX6_readLamp_16 : decode cX6_readLamp 16 = .ok (.getfield 12, 3) := by decide +kernel
theorem dX6_readLamp_19 : decode cX6_readLamp 19 = .ok (.getfield 103, 3) := by decide +kernel
theorem dX6_readLamp_22 : decode cX6_readLamp 22 = .ok (.iconst 1, 1) := by decide +kernel
theorem dX6_readLamp_23 : decode cX6_readLamp 23 = .ok (.isub, 1) := by decide +kernel
theorem dX6_readLamp_24 : decode cX6_readLamp 24 = .ok (.invokevirtual 87, 3) := by decide +kernel
theorem dX6_readLamp_27 : decode cX6_readLamp 27 = .ok (.goto 4, 3) := by decide +kernel
theorem dX6_readLamp_30 : decode cX6_readLamp 30 = .ok (.iconst 0, 1) := by decide +kernel
theorem dX6_readLamp_31 : decode cX6_readLamp 31 = .ok (.putfield 128, 3) := by decide +kernel
theorem dX6_readLamp_34 : decode cX6_readLamp 34 = .ok (.aload_n 0, 1) := by decide +kernel
theorem dX6_readLamp_35 : decode cX6_readLamp 35 = .ok (.getfield 12, 3) := by decide +kernel
theorem dX6_readLamp_38 : decode cX6_readLamp 38 = .ok (.aload_n 0, 1) := by decide +kernel
theorem dX6_readLamp_39 : decode cX6_readLamp 39 = .ok (.ldc 130, 2) := by decide +kernel
theorem dX6_readLamp_41 : decode cX6_readLamp 41 = .ok (.invokevirtual 79, 3) := by decide +kernel
theorem dX6_readLamp_44 : decode cX6_readLamp 44 = .ok (.ifCond .eq 13, 3) := by decide +kernel
theorem dX6_readLamp_47 : decode cX6_readLamp 47 = .ok (.aload_n 0, 1) := by decide +kernel
theorem dX6_readLamp_48 : decode cX6_readLamp 48 = .ok (.iconst 1, 1) := by decide +kernel
theorem dX6_readLamp_49 : decode cX6_readLamp 49 = .ok (.bipush 30, 2) := by decide +kernel
theorem dX6_readLamp_51 : decode cX6_readLamp 51 = .ok (.invokevirtual 87, 3) := by decide +kernel
theorem dX6_readLamp_54 : decode cX6_readLamp 54 = .ok (.goto 5, 3) := by decide +kernel
theorem dX6_readLamp_57 : decode cX6_readLamp 57 = .ok (.bipush 6, 2) := by decide +kernel
theorem dX6_readLamp_59 : decode cX6_readLamp 59 = .ok (.putfield 132, 3) := by decide +kernel
theorem dX6_readLamp_62 : decode cX6_readLamp 62 = .ok (.aload_n 0, 1) := by decide +kernel
theorem dX6_readLamp_63 : decode cX6_readLamp 63 = .ok (.getfield 12, 3) := by decide +kernel
theorem dX6_readLamp_66 : decode cX6_readLamp 66 = .ok (.aload_n 0, 1) := by decide +kernel
theorem dX6_readLamp_67 : decode cX6_readLamp 67 = .ok (.ldc 135, 2) := by decide +kernel
theorem dX6_readLamp_69 : decode cX6_readLamp 69 = .ok (.invokevirtual 79, 3) := by decide +kernel
theorem dX6_readLamp_72 : decode cX6_readLamp 72 = .ok (.ifCond .eq 13, 3) := by decide +kernel
theorem dX6_readLamp_75 : decode cX6_readLamp 75 = .ok (.aload_n 0, 1) := by decide +kernel
theorem dX6_readLamp_76 : decode cX6_readLamp 76 = .ok (.iconst 0, 1) := by decide +kernel
theorem dX6_readLamp_77 : decode cX6_readLamp 77 = .ok (.bipush 20, 2) := by decide +kernel
theorem dX6_readLamp_79 : decode cX6_readLamp 79 = .ok (.invokevirtual 87, 3) := by decide +kernel
theorem dX6_readLamp_82 : decode cX6_readLamp 82 = .ok (.goto 5, 3) := by decide +kernel
theorem dX6_readLamp_85 : decode cX6_readLamp 85 = .ok (.bipush 6, 2) := by decide +kernel
theorem dX6_readLamp_87 : decode cX6_readLamp 87 = .ok (.putfield 137, 3) := by decide +kernel
theorem dX6_readLamp_90 : decode cX6_readLamp 90 = .ok (.aload_n 0, 1) := by decide +kernel
theorem dX6_readLamp_91 : decode cX6_readLamp 91 = .ok (.getfield 12, 3) := by decide +kernel
theorem dX6_readLamp_94 : decode cX6_readLamp 94 = .ok (.aload_n 0, 1) := by decide +kernel
theorem dX6_readLamp_95 : decode cX6_readLamp 95 = .ok (.ldc 139, 2) := by decide +kernel
theorem dX6_readLamp_97 : decode cX6_readLamp 97 = .ok (.invokevirtual 79, 3) := by decide +kernel
theorem dX6_readLamp_100 : decode cX6_readLamp 100 = .ok (.ifCond .eq 13, 3) := by decide +kernel
theorem dX6_readLamp_103 : decode cX6_readLamp 103 = .ok (.aload_n 0, 1) := by decide +kernel
theorem dX6_readLamp_104 : decode cX6_readLamp 104 = .ok (.iconst 0, 1) := by decide +kernel
theorem dX6_readLamp_105 : decode cX6_readLamp 105 = .ok (.bipush 9, 2) := by decide +kernel
theorem dX6_readLamp_107 : decode cX6_readLamp 107 = .ok (.invokevirtual 87, 3) := by decide +kernel
theorem dX6_readLamp_110 : decode cX6_readLamp 110 = .ok (.goto 4, 3) := by decide +kernel
theorem dX6_readLamp_113 : decode cX6_readLamp 113 = .ok (.iconst 1, 1) := by decide +kernel
theorem dX6_readLamp_114 : decode cX6_readLamp 114 = .ok (.putfield 141, 3) := by decide +kernel
theorem dX6_readLamp_117 : decode cX6_readLamp 117 = .ok (.return_, 1) := by decide +kernel
theorem dX6_readBid_0 : decode cX6_readBid 0 = .ok (.aload_n 0, 1) := by decide +kernel
theorem dX6_readBid_1 : decode cX6_readBid 1 = .ok (.iconst 0, 1) := by decide +kernel
theorem dX6_readBid_2 : decode cX6_readBid 2 = .ok (.iconst 5, 1) := by decide +kernel
theorem dX6_readBid_3 : decode cX6_readBid 3 = .ok (.invokevirtual 87, 3) := by decide +kernel
theorem dX6_readBid_6 : decode cX6_readBid 6 = .ok (.istore_n 1, 1) := by decide +kernel
theorem dX6_readBid_7 : decode cX6_readBid 7 = .ok (.aload_n 0, 1) := by decide +kernel
theorem dX6_readBid_8 : decode cX6_readBid 8 = .ok (.iconst 0, 1) := by decide +kernel
theorem dX6_readBid_9 : decode cX6_readBid 9 = .ok (.bipush 99, 2) := by decide +kernel
theorem dX6_readBid_11 : decode cX6_readBid 11 = .ok (.invokevirtual 87, 3) := by decide +kernel
theorem dX6_readBid_14 : decode cX6_readBid 14 = .ok (.istore_n 2, 1) := by decide +kernel
theorem dX6_readBid_15 : decode cX6_readBid 15 = .ok (.aload_n 0, 1) := by decide +kernel
theorem dX6_readBid_16 : decode cX6_readBid 16 = .ok (.getfield 18, 3) := by decide +kernel
theorem dX6_readBid_19 : decode cX6_readBid 19 = .ok (.ifCond .ne 20, 3) := by decide +kernel
theorem dX6_readBid_22 : decode cX6_readBid 22 = .ok (.iload_n 1, 1) := by decide +kernel
theorem dX6_readBid_23 : decode cX6_readBid 23 = .ok (.invokestatic 143, 3) := by decide +kernel
theorem dX6_readBid_26 : decode cX6_readBid 26 = .ok (.ifCond .eq 13, 3) := by decide +kernel
theorem dX6_readBid_29 : decode cX6_readBid 29 = .ok (.aload_n 0, 1) := by decide +kernel
theorem dX6_readBid_30 : decode cX6_readBid 30 = .ok (.getfield 12, 3) := by decide +kernel
theorem dX6_readBid_33 : decode cX6_readBid 33 = .ok (.getfield 147, 3) := by decide +kernel
theorem dX6_readBid_36 : decode cX6_readBid 36 = .ok (.iload_n 1, 1) := by decide +kernel
theorem dX6_readBid_37 : decode cX6_readBid 37 = .ok (.iload_n 2, 1) := by decide +kernel
theorem dX6_readBid_38 : decode cX6_readBid 38 = .ok (.iastore, 1) := by decide +kernel
theorem dX6_readBid_39 : decode cX6_readBid 39 = .ok (.return_, 1) := by decide +kernel
theorem dX6_endLine_0 : decode cX6_endLine 0 = .ok (.aload_n 0, 1) := by decide +kernel
theorem dX6_endLine_1 : decode cX6_endLine 1 = .ok (.getfield 18, 3) := by decide +kernel
theorem dX6_endLine_4 : decode cX6_endLine 4 = .ok (.ifCond .ne 31, 3) := by decide +kernel
theorem dX6_endLine_7 : decode cX6_endLine 7 = .ok (.aload_n 0, 1) := by decide +kernel
theorem dX6_endLine_8 : decode cX6_endLine 8 = .ok (.getfield 38, 3) := by decide +kernel
theorem dX6_endLine_11 : decode cX6_endLine 11 = .ok (.iconst 3, 1) := by decide +kernel
theorem dX6_endLine_12 : decode cX6_endLine 12 = .ok (.if_icmp .ne 23, 3) := by decide +kernel
theorem dX6_endLine_15 : decode cX6_endLine 15 = .ok (.aload_n 0, 1) := by decide +kernel
theorem dX6_endLine_16 : decode cX6_endLine 16 = .ok (.getfield 12, 3) := by decide +kernel
theorem dX6_endLine_19 : decode cX6_endLine 19 = .ok (.dup, 1) := by decide +kernel
theorem dX6_endLine_20 : decode cX6_endLine 20 = .ok (.getfield 151, 3) := by decide +kernel
theorem dX6_endLine_23 : decode cX6_endLine 23 = .ok (.iconst 1, 1) := by decide +kernel
theorem dX6_endLine_24 : decode cX6_endLine 24 = .ok (.iadd, 1) := by decide +kernel
theorem dX6_endLine_25 : decode cX6_endLine 25 = .ok (.putfield 151, 3) := by decide +kernel
theorem dX6_endLine_28 : decode cX6_endLine 28 = .ok (.aload_n 0, 1) := by decide +kernel
theorem dX6_endLine_29 : decode cX6_endLine 29 = .ok (.invokevirtual 62, 3) := by decide +kernel
theorem dX6_endLine_32 : decode cX6_endLine 32 = .ok (.goto 8, 3) := by decide +kernel
theorem dX6_endLine_35 : decode cX6_endLine 35 = .ok (.aload_n 0, 1) := by decide +kernel
theorem dX6_endLine_36 : decode cX6_endLine 36 = .ok (.iconst 2, 1) := by decide +kernel
theorem dX6_endLine_37 : decode cX6_endLine 37 = .ok (.invokevirtual 109, 3) := by decide +kernel
theorem dX6_endLine_40 : decode cX6_endLine 40 = .ok (.return_, 1) := by decide +kernel
theorem dX6_takeWord_0 : decode cX6_takeWord 0 = .ok (.aload_n 0, 1) := by decide +kernel
theorem dX6_takeWord_1 : decode cX6_takeWord 1 = .ok (.getfield 18, 3) := by decide +kernel
theorem dX6_takeWord_4 : decode cX6_takeWord 4 = .ok (.ifCond .ne 11, 3) := by decide +kernel
theorem dX6_takeWord_7 : decode cX6_takeWord 7 = .ok (.aload_n 0, 1) := by decide +kernel
theorem dX6_takeWord_8 : decode cX6_takeWord 8 = .ok (.aload_n 1, 1) := by decide +kernel
theorem dX6_takeWord_9 : decode cX6_takeWord 9 = .ok (.invokevirtual 70, 3) := by decide +kernel
theorem dX6_takeWord_12 : decode cX6_takeWord 12 = .ok (.ifCond .ne 5, 3) := by decide +kernel
theorem dX6_takeWord_15 : decode cX6_takeWord 15 = .ok (.iconst 0, 1) := by decide +kernel
theorem dX6_takeWord_16 : decode cX6_takeWord 16 = .ok (.ireturn, 1) := by decide +kernel
theorem dX6_takeWord_17 : decode cX6_takeWord 17 = .ok (.aload_n 0, 1) := by decide +kernel
theorem dX6_takeWord_18 : decode cX6_takeWord 18 = .ok (.invokevirtual 62, 3) := by decide +kernel
theorem dX6_takeWord_21 : decode cX6_takeWord 21 = .ok (.iconst 1, 1) := by decide +kernel
theorem dX6_takeWord_22 : decode cX6_takeWord 22 = .ok (.ireturn, 1) := by decide +kernel
theorem dX6_takeNumber_0 : decode cX6_takeNumber 0 = .ok (.aload_n 0, 1) := by decide +kernel
theorem dX6_takeNumber_1 : decode cX6_takeNumber 1 = .ok (.getfield 18, 3) := by decide +kernel
theorem dX6_takeNumber_4 : decode cX6_takeNumber 4 = .ok (.ifCond .eq 5, 3) := by decide +kernel
theorem dX6_takeNumber_7 : decode cX6_takeNumber 7 = .ok (.iload_n 1, 1) := by decide +kernel
theorem dX6_takeNumber_8 : decode cX6_takeNumber 8 = .ok (.ireturn, 1) := by decide +kernel
theorem dX6_takeNumber_9 : decode cX6_takeNumber 9 = .ok (.aload_n 0, 1) := by decide +kernel
theorem dX6_takeNumber_10 : decode cX6_takeNumber 10 = .ok (.getfield 38, 3) := by decide +kernel
theorem dX6_takeNumber_13 : decode cX6_takeNumber 13 = .ok (.iconst 2, 1) := by decide +kernel
theorem dX6_takeNumber_14 : decode cX6_takeNumber 14 = .ok (.if_icmp .eq 10, 3) := by decide +kernel
theorem dX6_takeNumber_17 : decode cX6_takeNumber 17 = .ok (.aload_n 0, 1) := by decide +kernel
theorem dX6_takeNumber_18 : decode cX6_takeNumber 18 = .ok (.iconst 2, 1) := by decide +kernel
theorem dX6_takeNumber_19 : decode cX6_takeNumber 19 = .ok (.invokevirtual 109, 3) := by decide +kernel
theorem dX6_takeNumber_22 : decode cX6_takeNumber 22 = .ok (.iload_n 1, 1) := by decide +kernel
theorem dX6_takeNumber_23 : decode cX6_takeNumber 23 = .ok (.ireturn, 1) := by decide +kernel
theorem dX6_takeNumber_24 : decode cX6_takeNumber 24 = .ok (.aload_n 0, 1) := by decide +kernel
theorem dX6_takeNumber_25 : decode cX6_takeNumber 25 = .ok (.getfield 41, 3) := by decide +kernel
theorem dX6_takeNumber_28 : decode cX6_takeNumber 28 = .ok (.iload_n 1, 1) := by decide +kernel
theorem dX6_takeNumber_29 : decode cX6_takeNumber 29 = .ok (.if_icmp .lt 11, 3) := by decide +kernel
theorem dX6_takeNumber_32 : decode cX6_takeNumber 32 = .ok (.aload_n 0, 1) := by decide +kernel
theorem dX6_takeNumber_33 : decode cX6_takeNumber 33 = .ok (.getfield 41, 3) := by decide +kernel
theorem dX6_takeNumber_36 : decode cX6_takeNumber 36 = .ok (.iload_n 2, 1) := by decide +kernel
theorem dX6_takeNumber_37 : decode cX6_takeNumber 37 = .ok (.if_icmp .le 10, 3) := by decide +kernel
theorem dX6_takeNumber_40 : decode cX6_takeNumber 40 = .ok (.aload_n 0, 1) := by decide +kernel
theorem dX6_takeNumber_41 : decode cX6_takeNumber 41 = .ok (.iconst 3, 1) := by decide +kernel
theorem dX6_takeNumber_42 : decode cX6_takeNumber 42 = .ok (.invokevirtual 109, 3) := by decide +kernel
theorem dX6_takeNumber_45 : decode cX6_takeNumber 45 = .ok (.iload_n 1, 1) := by decide +kernel
theorem dX6_takeNumber_46 : decode cX6_takeNumber 46 = .ok (.ireturn, 1) := by decide +kernel
theorem dX6_takeNumber_47 : decode cX6_takeNumber 47 = .ok (.aload_n 0, 1) := by decide +kernel
theorem dX6_takeNumber_48 : decode cX6_takeNumber 48 = .ok (.getfield 41, 3) := by decide +kernel
theorem dX6_takeNumber_51 : decode cX6_takeNumber 51 = .ok (.istore_n 3, 1) := by decide +kernel
theorem dX6_takeNumber_52 : decode cX6_takeNumber 52 = .ok (.aload_n 0, 1) := by decide +kernel
theorem dX6_takeNumber_53 : decode cX6_takeNumber 53 = .ok (.invokevirtual 62, 3) := by decide +kernel
theorem dX6_takeNumber_56 : decode cX6_takeNumber 56 = .ok (.iload_n 3, 1) := by decide +kernel
theorem dX6_takeNumber_57 : decode cX6_takeNumber 57 = .ok (.ireturn, 1) := by decide +kernel
theorem dX6_refuse_0 : decode cX6_refuse 0 = .ok (.aload_n 0, 1) := by decide +kernel
theorem dX6_refuse_1 : decode cX6_refuse 1 = .ok (.getfield 18, 3) := by decide +kernel
theorem dX6_refuse_4 : decode cX6_refuse 4 = .ok (.ifCond .ne 28, 3) := by decide +kernel
theorem dX6_refuse_7 : decode cX6_refuse 7 = .ok (.aload_n 0, 1) := by decide +kernel
theorem dX6_refuse_8 : decode cX6_refuse 8 = .ok (.aload_n 0, 1) := by decide +kernel
theorem dX6_refuse_9 : decode cX6_refuse 9 = .ok (.getfield 38, 3) := by decide +kernel
theorem dX6_refuse_12 : decode cX6_refuse 12 = .ok (.iconst 4, 1) := by decide +kernel
theorem dX6_refuse_13 : decode cX6_refuse 13 = .ok (.if_icmp .ne 7, 3) := by decide +kernel
theorem dX6_refuse_16 : decode cX6_refuse 16 = .ok (.iconst 1, 1) := by decide +kernel
theorem dX6_refuse_17 : decode cX6_refuse 17 = .ok (.goto 4, 3) := by decide +kernel
theorem dX6_refuse_20 : decode cX6_refuse 20 = .ok (.iload_n 1, 1) := by decide +kernel
theorem dX6_refuse_21 : decode cX6_refuse 21 = .ok (.putfield 18, 3) := by decide +kernel
theorem dX6_refuse_24 : decode cX6_refuse 24 = .ok (.aload_n 0, 1) := by decide +kernel
theorem dX6_refuse_25 : decode cX6_refuse 25 = .ok (.aload_n 0, 1) := by decide +kernel
theorem dX6_refuse_26 : decode cX6_refuse 26 = .ok (.getfield 32, 3) := by decide +kernel
theorem dX6_refuse_29 : decode cX6_refuse 29 = .ok (.putfield 22, 3) := by decide +kernel
theorem dX6_refuse_32 : decode cX6_refuse 32 = .ok (.return_, 1) := by decide +kernel
theorem dX6_isWord_0 : decode cX6_isWord 0 = .ok (.aload_n 0, 1) := by decide +kernel
theorem dX6_isWord_1 : decode cX6_isWord 1 = .ok (.getfield 38, 3) := by decide +kernel
theorem dX6_isWord_4 : decode cX6_isWord 4 = .ok (.iconst 1, 1) := by decide +kernel
theorem dX6_isWord_5 : decode cX6_isWord 5 = .ok (.if_icmp .ne 19, 3) := by decide +kernel
theorem dX6_isWord_8 : decode cX6_isWord 8 = .ok (.aload_n 0, 1) := by decide +kernel
theorem dX6_isWord_9 : decode cX6_isWord 9 = .ok (.getfield 35, 3) := by decide +kernel
theorem dX6_isWord_12 : decode cX6_isWord 12 = .ok (.aload_n 0, 1) := by decide +kernel
theorem dX6_isWord_13 : decode cX6_isWord 13 = .ok (.getfield 32, 3) := by decide +kernel
theorem dX6_isWord_16 : decode cX6_isWord 16 = .ok (.isub, 1) := by decide +kernel
theorem dX6_isWord_17 : decode cX6_isWord 17 = .ok (.aload_n 1, 1) := by decide +kernel
theorem dX6_isWord_18 : decode cX6_isWord 18 = .ok (.invokevirtual 154, 3) := by decide +kernel
theorem dX6_isWord_21 : decode cX6_isWord 21 = .ok (.if_icmp .eq 5, 3) := by decide +kernel
theorem dX6_isWord_24 : decode cX6_isWord 24 = .ok (.iconst 0, 1) := by decide +kernel
theorem dX6_isWord_25 : decode cX6_isWord 25 = .ok (.ireturn, 1) := by decide +kernel
theorem dX6_isWord_26 : decode cX6_isWord 26 = .ok (.iconst 0, 1) := by decide +kernel
theorem dX6_isWord_27 : decode cX6_isWord 27 = .ok (.istore_n 2, 1) := by decide +kernel
theorem dX6_isWord_28 : decode cX6_isWord 28 = .ok (.iload_n 2, 1) := by decide +kernel
theorem dX6_isWord_29 : decode cX6_isWord 29 = .ok (.aload_n 1, 1) := by decide +kernel
theorem dX6_isWord_30 : decode cX6_isWord 30 = .ok (.invokevirtual 154, 3) := by decide +kernel
theorem dX6_isWord_33 : decode cX6_isWord 33 = .ok (.if_icmp .ge 30, 3) := by decide +kernel
theorem dX6_isWord_36 : decode cX6_isWord 36 = .ok (.aload_n 0, 1) := by decide +kernel
theorem dX6_isWord_37 : decode cX6_isWord 37 = .ok (.getfield 25, 3) := by decide +kernel
theorem dX6_isWord_40 : decode cX6_isWord 40 = .ok (.aload_n 0, 1) := by decide +kernel
theorem dX6_isWord_41 : decode cX6_isWord 41 = .ok (.getfield 32, 3) := by decide +kernel
theorem dX6_isWord_44 : decode cX6_isWord 44 = .ok (.iload_n 2, 1) := by decide +kernel
theorem dX6_isWord_45 : decode cX6_isWord 45 = .ok (.iadd, 1) := by decide +kernel
theorem dX6_isWord_46 : decode cX6_isWord 46 = .ok (.baload, 1) := by decide +kernel
theorem dX6_isWord_47 : decode cX6_isWord 47 = .ok (.aload_n 1, 1) := by decide +kernel
theorem dX6_isWord_48 : decode cX6_isWord 48 = .ok (.iload_n 2, 1) := by decide +kernel
theorem dX6_isWord_49 : decode cX6_isWord 49 = .ok (.invokevirtual 159, 3) := by decide +kernel
theorem dX6_isWord_52 : decode cX6_isWord 52 = .ok (.if_icmp .eq 5, 3) := by decide +kernel
theorem dX6_isWord_55 : decode cX6_isWord 55 = .ok (.iconst 0, 1) := by decide +kernel
theorem dX6_isWord_56 : decode cX6_isWord 56 = .ok (.ireturn, 1) := by decide +kernel
theorem dX6_isWord_57 : decode cX6_isWord 57 = .ok (.iinc 2 1, 3) := by decide +kernel
theorem dX6_isWord_60 : decode cX6_isWord 60 = .ok (.goto (-32), 3) := by decide +kernel
theorem dX6_isWord_63 : decode cX6_isWord 63 = .ok (.iconst 1, 1) := by decide +kernel
theorem dX6_isWord_64 : decode cX6_isWord 64 = .ok (.ireturn, 1) := by decide +kernel
theorem dX6_advance_0 : decode cX6_advance 0 = .ok (.aload_n 0, 1) := by decide +kernel
theorem dX6_advance_1 : decode cX6_advance 1 = .ok (.aload_n 0, 1) := by decide +kernel
theorem dX6_advance_2 : decode cX6_advance 2 = .ok (.iconst 1, 1) := by decide +kernel
theorem dX6_advance_3 : decode cX6_advance 3 = .ok (.aload_n 0, 1) := by decide +kernel
theorem dX6_advance_4 : decode cX6_advance 4 = .ok (.getfield 35, 3) := by decide +kernel
theorem dX6_advance_7 : decode cX6_advance 7 = .ok (.invokevirtual 163, 3) := by decide +kernel
theorem dX6_advance_10 : decode cX6_advance 10 = .ok (.putfield 32, 3) := by decide +kernel
theorem dX6_advance_13 : decode cX6_advance 13 = .ok (.aload_n 0, 1) := by decide +kernel
theorem dX6_advance_14 : decode cX6_advance 14 = .ok (.aload_n 0, 1) := by decide +kernel
theorem dX6_advance_15 : decode cX6_advance 15 = .ok (.getfield 32, 3) := by decide +kernel
theorem dX6_advance_18 : decode cX6_advance 18 = .ok (.iconst 1, 1) := by decide +kernel
theorem dX6_advance_19 : decode cX6_advance 19 = .ok (.iadd, 1) := by decide +kernel
theorem dX6_advance_20 : decode cX6_advance 20 = .ok (.putfield 35, 3) := by decide +kernel
theorem dX6_advance_23 : decode cX6_advance 23 = .ok (.aload_n 0, 1) := by decide +kernel
theorem dX6_advance_24 : decode cX6_advance 24 = .ok (.aload_n 0, 1) := by decide +kernel
theorem dX6_advance_25 : decode cX6_advance 25 = .ok (.getfield 32, 3) := by decide +kernel
theorem dX6_advance_28 : decode cX6_advance 28 = .ok (.invokevirtual 166, 3) := by decide +kernel
theorem dX6_advance_31 : decode cX6_advance 31 = .ok (.tableswitch 120 0 4 #[104, 120, 33, 54, 96], 33) := by decide +kernel
theorem dX6_advance_64 : decode cX6_advance 64 = .ok (.aload_n 0, 1) := by decide +kernel
theorem dX6_advance_65 : decode cX6_advance 65 = .ok (.aload_n 0, 1) := by decide +kernel
theorem dX6_advance_66 : decode cX6_advance 66 = .ok (.iconst 2, 1) := by decide +kernel
theorem dX6_advance_67 : decode cX6_advance 67 = .ok (.aload_n 0, 1) := by decide +kernel
theorem dX6_advance_68 : decode cX6_advance 68 = .ok (.getfield 32, 3) := by decide +kernel
theorem dX6_advance_71 : decode cX6_advance 71 = .ok (.invokevirtual 163, 3) := by decide +kernel
theorem dX6_advance_74 : decode cX6_advance 74 = .ok (.putfield 35, 3) := by decide +kernel
theorem dX6_advance_77 : decode cX6_advance 77 = .ok (.aload_n 0, 1) := by decide +kernel
theorem dX6_advance_78 : decode cX6_advance 78 = .ok (.iconst 1, 1) := by decide +kernel
theorem dX6_advance_79 : decode cX6_advance 79 = .ok (.putfield 38, 3) := by decide +kernel
theorem dX6_advance_82 : decode cX6_advance 82 = .ok (.goto 74, 3) := by decide +kernel
theorem dX6_advance_85 : decode cX6_advance 85 = .ok (.aload_n 0, 1) := by decide +kernel
theorem dX6_advance_86 : decode cX6_advance 86 = .ok (.aload_n 0, 1) := by decide +kernel
theorem dX6_advance_87 : decode cX6_advance 87 = .ok (.iconst 3, 1) := by decide +kernel
theorem dX6_advance_88 : decode cX6_advance 88 = .ok (.aload_n 0, 1) := by decide +kernel
theorem dX6_advance_89 : decode cX6_advance 89 = .ok (.getfield 32, 3) := by decide +kernel
theorem dX6_advance_92 : decode cX6_advance 92 = .ok (.invokevirtual 163, 3) := by decide +kernel
theorem dX6_advance_95 : decode cX6_advance 95 = .ok (.putfield 35, 3) := by decide +kernel
theorem dX6_advance_98 : decode cX6_advance 98 = .ok (.aload_n 0, 1) := by decide +kernel
theorem dX6_advance_99 : decode cX6_advance 99 = .ok (.aload_n 0, 1) := by decide +kernel
theorem dX6_advance_100 : decode cX6_advance 100 = .ok (.getfield 35, 3) := by decide +kernel
theorem dX6_advance_103 : decode cX6_advance 103 = .ok (.aload_n 0, 1) := by decide +kernel
theorem dX6_advance_104 : decode cX6_advance 104 = .ok (.getfield 32, 3) := by decide +kernel
theorem dX6_advance_107 : decode cX6_advance 107 = .ok (.isub, 1) := by decide +kernel
theorem dX6_advance_108 : decode cX6_advance 108 = .ok (.iconst 3, 1) := by decide +kernel
theorem dX6_advance_109 : decode cX6_advance 109 = .ok (.if_icmp .le 7, 3) := by decide +kernel
theorem dX6_advance_112 : decode cX6_advance 112 = .ok (.iconst 4, 1) := by decide +kernel
theorem dX6_advance_113 : decode cX6_advance 113 = .ok (.goto 4, 3) := by decide +kernel
theorem dX6_advance_116 : decode cX6_advance 116 = .ok (.iconst 2, 1) := by decide +kernel
theorem dX6_advance_117 : decode cX6_advance 117 = .ok (.putfield 38, 3) := by decide +kernel
theorem dX6_advance_120 : decode cX6_advance 120 = .ok (.aload_n 0, 1) := by decide +kernel
theorem dX6_advance_121 : decode cX6_advance 121 = .ok (.invokevirtual 170, 3) := by decide +kernel
theorem dX6_advance_124 : decode cX6_advance 124 = .ok (.goto 32, 3) := by decide +kernel
theorem dX6_advance_127 : decode cX6_advance 127 = .ok (.aload_n 0, 1) := by decide +kernel
theorem dX6_advance_128 : decode cX6_advance 128 = .ok (.iconst 3, 1) := by decide +kernel
theorem dX6_advance_129 : decode cX6_advance 129 = .ok (.putfield 38, 3) := by decide +kernel
theorem dX6_advance_132 : decode cX6_advance 132 = .ok (.goto 24, 3) := by decide +kernel
theorem dX6_advance_135 : decode cX6_advance 135 = .ok (.aload_n 0, 1) := by decide +kernel
theorem dX6_advance_136 : decode cX6_advance 136 = .ok (.aload_n 0, 1) := by decide +kernel
theorem dX6_advance_137 : decode cX6_advance 137 = .ok (.getfield 32, 3) := by decide +kernel
theorem dX6_advance_140 : decode cX6_advance 140 = .ok (.putfield 35, 3) := by decide +kernel
theorem dX6_advance_143 : decode cX6_advance 143 = .ok (.aload_n 0, 1) := by decide +kernel
theorem dX6_advance_144 : decode cX6_advance 144 = .ok (.iconst 0, 1) := by decide +kernel
theorem dX6_advance_145 : decode cX6_advance 145 = .ok (.putfield 38, 3) := by decide +kernel
theorem dX6_advance_148 : decode cX6_advance 148 = .ok (.goto 8, 3) := by decide +kernel
theorem dX6_advance_151 : decode cX6_advance 151 = .ok (.aload_n 0, 1) := by decide +kernel
theorem dX6_advance_152 : decode cX6_advance 152 = .ok (.iconst 4, 1) := by decide +kernel
theorem dX6_advance_153 : decode cX6_advance 153 = .ok (.putfield 38, 3) := by decide +kernel
theorem dX6_advance_156 : decode cX6_advance 156 = .ok (.return_, 1) := by decide +kernel
theorem dX6_endOf_0 : decode cX6_endOf 0 = .ok (.iload_n 2, 1) := by decide +kernel
theorem dX6_endOf_1 : decode cX6_endOf 1 = .ok (.istore_n 3, 1) := by decide +kernel
theorem dX6_endOf_2 : decode cX6_endOf 2 = .ok (.iload_n 3, 1) := by decide +kernel
theorem dX6_endOf_3 : decode cX6_endOf 3 = .ok (.aload_n 0, 1) := by decide +kernel
theorem dX6_endOf_4 : decode cX6_endOf 4 = .ok (.getfield 29, 3) := by decide +kernel
theorem dX6_endOf_7 : decode cX6_endOf 7 = .ok (.if_icmp .ge 18, 3) := by decide +kernel
theorem dX6_endOf_10 : decode cX6_endOf 10 = .ok (.aload_n 0, 1) := by decide +kernel
theorem dX6_endOf_11 : decode cX6_endOf 11 = .ok (.iload_n 3, 1) := by decide +kernel
theorem dX6_endOf_12 : decode cX6_endOf 12 = .ok (.invokevirtual 166, 3) := by decide +kernel
theorem dX6_endOf_15 : decode cX6_endOf 15 = .ok (.iload_n 1, 1) := by decide +kernel
theorem dX6_endOf_16 : decode cX6_endOf 16 = .ok (.if_icmp .ne 9, 3) := by decide +kernel
theorem dX6_endOf_19 : decode cX6_endOf 19 = .ok (.iinc 3 1, 3) := by decide +kernel
theorem dX6_endOf_22 : decode cX6_endOf 22 = .ok (.goto (-20), 3) := by decide +kernel
theorem dX6_endOf_25 : decode cX6_endOf 25 = .ok (.iload_n 3, 1) := by decide +kernel
theorem dX6_endOf_26 : decode cX6_endOf 26 = .ok (.ireturn, 1) := by decide +kernel
theorem dX6_kindAt_0 : decode cX6_kindAt 0 = .ok (.iload_n 1, 1) := by decide +kernel
theorem dX6_kindAt_1 : decode cX6_kindAt 1 = .ok (.ifCond .lt 11, 3) := by decide +kernel
theorem dX6_kindAt_4 : decode cX6_kindAt 4 = .ok (.iload_n 1, 1) := by decide +kernel
theorem dX6_kindAt_5 : decode cX6_kindAt 5 = .ok (.aload_n 0, 1) := by decide +kernel
theorem dX6_kindAt_6 : decode cX6_kindAt 6 = .ok (.getfield 29, 3) := by decide +kernel
theorem dX6_kindAt_9 : decode cX6_kindAt 9 = .ok (.if_icmp .lt 5, 3) := by decide +kernel
theorem dX6_kindAt_12 : decode cX6_kindAt 12 = .ok (.iconst 0, 1) := by decide +kernel
theorem dX6_kindAt_13 : decode cX6_kindAt 13 = .ok (.ireturn, 1) := by decide +kernel
theorem dX6_kindAt_14 : decode cX6_kindAt 14 = .ok (.aload_n 0, 1) := by decide +kernel
theorem dX6_kindAt_15 : decode cX6_kindAt 15 = .ok (.getfield 25, 3) := by decide +kernel
theorem dX6_kindAt_18 : decode cX6_kindAt 18 = .ok (.iload_n 1, 1) := by decide +kernel
theorem dX6_kindAt_19 : decode cX6_kindAt 19 = .ok (.baload, 1) := by decide +kernel
theorem dX6_kindAt_20 : decode cX6_kindAt 20 = .ok (.istore_n 2, 1) := by decide +kernel
theorem dX6_kindAt_21 : decode cX6_kindAt 21 = .ok (.iload_n 2, 1) := by decide +kernel
theorem dX6_kindAt_22 : decode cX6_kindAt 22 = .ok (.bipush 97, 2) := by decide +kernel
theorem dX6_kindAt_24 : decode cX6_kindAt 24 = .ok (.if_icmp .lt 11, 3) := by decide +kernel
theorem dX6_kindAt_27 : decode cX6_kindAt 27 = .ok (.iload_n 2, 1) := by decide +kernel
theorem dX6_kindAt_28 : decode cX6_kindAt 28 = .ok (.bipush 122, 2) := by decide +kernel
theorem dX6_kindAt_30 : decode cX6_kindAt 30 = .ok (.if_icmp .gt 5, 3) := by decide +kernel
theorem dX6_kindAt_33 : decode cX6_kindAt 33 = .ok (.iconst 2, 1) := by decide +kernel
theorem dX6_kindAt_34 : decode cX6_kindAt 34 = .ok (.ireturn, 1) := by decide +kernel
theorem dX6_kindAt_35 : decode cX6_kindAt 35 = .ok (.iload_n 2, 1) := by decide +kernel
theorem dX6_kindAt_36 : decode cX6_kindAt 36 = .ok (.bipush 48, 2) := by decide +kernel
theorem dX6_kindAt_38 : decode cX6_kindAt 38 = .ok (.if_icmp .lt 11, 3) := by decide +kernel
theorem dX6_kindAt_41 : decode cX6_kindAt 41 = .ok (.iload_n 2, 1) := by decide +kernel
theorem dX6_kindAt_42 : decode cX6_kindAt 42 = .ok (.bipush 57, 2) := by decide +kernel
theorem dX6_kindAt_44 : decode cX6_kindAt 44 = .ok (.if_icmp .gt 5, 3) := by decide +kernel
theorem dX6_kindAt_47 : decode cX6_kindAt 47 = .ok (.iconst 3, 1) := by decide +kernel
theorem dX6_kindAt_48 : decode cX6_kindAt 48 = .ok (.ireturn, 1) := by decide +kernel
theorem dX6_kindAt_49 : decode cX6_kindAt 49 = .ok (.iload_n 2, 1) := by decide +kernel
theorem dX6_kindAt_50 : decode cX6_kindAt 50 = .ok (.bipush 10, 2) := by decide +kernel
theorem dX6_kindAt_52 : decode cX6_kindAt 52 = .ok (.if_icmp .eq 9, 3) := by decide +kernel
theorem dX6_kindAt_55 : decode cX6_kindAt 55 = .ok (.iload_n 2, 1) := by decide +kernel
theorem dX6_kindAt_56 : decode cX6_kindAt 56 = .ok (.bipush 32, 2) := by decide +kernel
theorem dX6_kindAt_58 : decode cX6_kindAt 58 = .ok (.if_icmp .ne 5, 3) := by decide +kernel
theorem dX6_kindAt_61 : decode cX6_kindAt 61 = .ok (.iconst 1, 1) := by decide +kernel
theorem dX6_kindAt_62 : decode cX6_kindAt 62 = .ok (.ireturn, 1) := by decide +kernel
theorem dX6_kindAt_63 : decode cX6_kindAt 63 = .ok (.iload_n 2, 1) := by decide +kernel
theorem dX6_kindAt_64 : decode cX6_kindAt 64 = .ok (.bipush 59, 2) := by decide +kernel
theorem dX6_kindAt_66 : decode cX6_kindAt 66 = .ok (.if_icmp .ne 7, 3) := by decide +kernel
theorem dX6_kindAt_69 : decode cX6_kindAt 69 = .ok (.iconst 4, 1) := by decide +kernel
theorem dX6_kindAt_70 : decode cX6_kindAt 70 = .ok (.goto 4, 3) := by decide +kernel
theorem dX6_kindAt_73 : decode cX6_kindAt 73 = .ok (.iconst 5, 1) := by decide +kernel
theorem dX6_kindAt_74 : decode cX6_kindAt 74 = .ok (.ireturn, 1) := by decide +kernel
theorem dX6_readValue_0 : decode cX6_readValue 0 = .ok (.aload_n 0, 1) := by decide +kernel
theorem dX6_readValue_1 : decode cX6_readValue 1 = .ok (.iconst 0, 1) := by decide +kernel
theorem dX6_readValue_2 : decode cX6_readValue 2 = .ok (.putfield 41, 3) := by decide +kernel
theorem dX6_readValue_5 : decode cX6_readValue 5 = .ok (.aload_n 0, 1) := by decide +kernel
theorem dX6_readValue_6 : decode cX6_readValue 6 = .ok (.getfield 35, 3) := by decide +kernel
theorem dX6_readValue_9 : decode cX6_readValue 9 = .ok (.aload_n 0, 1) := by decide +kernel
theorem dX6_readValue_10 : decode cX6_readValue 10 = .ok (.getfield 32, 3) := by decide +kernel
theorem dX6_readValue_13 : decode cX6_readValue 13 = .ok (.iconst 3, 1) := by decide +kernel
theorem dX6_readValue_14 : decode cX6_readValue 14 = .ok (.iadd, 1) := by decide +kernel
theorem dX6_readValue_15 : decode cX6_readValue 15 = .ok (.invokestatic 44, 3) := by decide +kernel
theorem dX6_readValue_18 : decode cX6_readValue 18 = .ok (.istore_n 1, 1) := by decide +kernel
theorem dX6_readValue_19 : decode cX6_readValue 19 = .ok (.aload_n 0, 1) := by decide +kernel
theorem dX6_readValue_20 : decode cX6_readValue 20 = .ok (.getfield 32, 3) := by decide +kernel
theorem dX6_readValue_23 : decode cX6_readValue 23 = .ok (.istore_n 2, 1) := by decide +kernel
