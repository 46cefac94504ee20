theorem dX9_readLine_74 : decode cX9_readLine 74 = .ok (.bipush 11, 2) := by decide +kernel
theorem dX9_readLine_76 : decode cX9_readLine 76 = .ok (.invokevirtual 132, 3) := by decide +kernel
theorem dX9_readLine_79 : decode cX9_readLine 79 = .ok (.ifCond .eq 20, 3) := by decide +kernel
theorem dX9_readLine_82 : decode cX9_readLine 82 = .ok (.aload_n 0, 1) := by decide +kernel
theorem dX9_readLine_83 : decode cX9_readLine 83 = .ok (.getfield 24, 3) := by decide +kernel
theorem dX9_readLine_86 : decode cX9_readLine 86 = .ok (.bipush 7, 2) := by decide +kernel
theorem dX9_readLine_88 : decode cX9_readLine 88 = .ok (.aload_n 0, 1) := by decide +kernel
theorem dX9_readLine_89 : decode cX9_readLine 89 = .ok (.iconst 0, 1) := by decide +kernel
theorem dX9_readLine_90 : decode cX9_readLine 90 = .ok (.bipush 100, 2) := by decide +kernel
theorem dX9_readLine_92 : decode cX9_readLine 92 = .ok (.invokevirtual 135, 3) := by decide +kernel
theorem dX9_readLine_95 : decode cX9_readLine 95 = .ok (.iastore, 1) := by decide +kernel
theorem dX9_readLine_96 : decode cX9_readLine 96 = .ok (.goto 40, 3) := by decide +kernel
theorem dX9_readLine_99 : decode cX9_readLine 99 = .ok (.aload_n 0, 1) := by decide +kernel
theorem dX9_readLine_100 : decode cX9_readLine 100 = .ok (.bipush 12, 2) := by decide +kernel
theorem dX9_readLine_102 : decode cX9_readLine 102 = .ok (.invokevirtual 132, 3) := by decide +kernel
theorem dX9_readLine_105 : decode cX9_readLine 105 = .ok (.ifCond .eq 26, 3) := by decide +kernel
theorem dX9_readLine_108 : decode cX9_readLine 108 = .ok (.aload_n 0, 1) := by decide +kernel
theorem dX9_readLine_109 : decode cX9_readLine 109 = .ok (.getfield 24, 3) := by decide +kernel
theorem dX9_readLine_112 : decode cX9_readLine 112 = .ok (.bipush 8, 2) := by decide +kernel
theorem dX9_readLine_114 : decode cX9_readLine 114 = .ok (.aload_n 0, 1) := by decide +kernel
theorem dX9_readLine_115 : decode cX9_readLine 115 = .ok (.iconst 0, 1) := by decide +kernel
theorem dX9_readLine_116 : decode cX9_readLine 116 = .ok (.aload_n 0, 1) := by decide +kernel
theorem dX9_readLine_117 : decode cX9_readLine 117 = .ok (.getfield 24, 3) := by decide +kernel
theorem dX9_readLine_120 : decode cX9_readLine 120 = .ok (.iconst 0, 1) := by decide +kernel
theorem dX9_readLine_121 : decode cX9_readLine 121 = .ok (.iaload, 1) := by decide +kernel
theorem dX9_readLine_122 : decode cX9_readLine 122 = .ok (.iconst 1, 1) := by decide +kernel
theorem dX9_readLine_123 : decode cX9_readLine 123 = .ok (.isub, 1) := by decide +kernel
theorem dX9_readLine_124 : decode cX9_readLine 124 = .ok (.invokevirtual 135, 3) := by decide +kernel
theorem dX9_readLine_127 : decode cX9_readLine 127 = .ok (.iastore, 1) := by decide +kernel
theorem dX9_readLine_128 : decode cX9_readLine 128 = .ok (.goto 8, 3) := by decide +kernel
theorem dX9_readLine_131 : decode cX9_readLine 131 = .ok (.aload_n 0, 1) := by decide +kernel
theorem dX9_readLine_132 : decode cX9_readLine 132 = .ok (.iconst 2, 1) := by decide +kernel
theorem dX9_readLine_133 : decode cX9_readLine 133 = .ok (.invokevirtual 124, 3) := by decide +kernel
theorem dX9_readLine_136 : decode cX9_readLine 136 = .ok (.aload_n 0, 1) := by decide +kernel
theorem dX9_readLine_137 : decode cX9_readLine 137 = .ok (.bipush 15, 2) := by decide +kernel
theorem dX9_readLine_139 : decode cX9_readLine 139 = .ok (.invokevirtual 132, 3) := by decide +kernel
theorem dX9_readLine_142 : decode cX9_readLine 142 = .ok (.ifCond .ne 8, 3) := by decide +kernel
theorem dX9_readLine_145 : decode cX9_readLine 145 = .ok (.aload_n 0, 1) := by decide +kernel
theorem dX9_readLine_146 : decode cX9_readLine 146 = .ok (.iconst 2, 1) := by decide +kernel
theorem dX9_readLine_147 : decode cX9_readLine 147 = .ok (.invokevirtual 124, 3) := by decide +kernel
theorem dX9_readLine_150 : decode cX9_readLine 150 = .ok (.aload_n 0, 1) := by decide +kernel
theorem dX9_readLine_151 : decode cX9_readLine 151 = .ok (.getfield 24, 3) := by decide +kernel
theorem dX9_readLine_154 : decode cX9_readLine 154 = .ok (.bipush 9, 2) := by decide +kernel
theorem dX9_readLine_156 : decode cX9_readLine 156 = .ok (.dup2, 1) := by decide +kernel
theorem dX9_readLine_157 : decode cX9_readLine 157 = .ok (.iaload, 1) := by decide +kernel
theorem dX9_readLine_158 : decode cX9_readLine 158 = .ok (.iconst 1, 1) := by decide +kernel
theorem dX9_readLine_159 : decode cX9_readLine 159 = .ok (.iadd, 1) := by decide +kernel
theorem dX9_readLine_160 : decode cX9_readLine 160 = .ok (.iastore, 1) := by decide +kernel
theorem dX9_readLine_161 : decode cX9_readLine 161 = .ok (.return_, 1) := by decide +kernel
theorem dX9_plain_0 : decode cX9_plain 0 = .ok (.aload_n 0, 1) := by decide +kernel
theorem dX9_plain_1 : decode cX9_plain 1 = .ok (.iconst 0, 1) := by decide +kernel
theorem dX9_plain_2 : decode cX9_plain 2 = .ok (.putfield 1, 3) := by decide +kernel
theorem dX9_plain_5 : decode cX9_plain 5 = .ok (.iload_n 1, 1) := by decide +kernel
theorem dX9_plain_6 : decode cX9_plain 6 = .ok (.i2l, 1) := by decide +kernel
theorem dX9_plain_7 : decode cX9_plain 7 = .ok (.lconst 0, 1) := by decide +kernel
theorem dX9_plain_8 : decode cX9_plain 8 = .ok (.aload_n 0, 1) := by decide +kernel
theorem dX9_plain_9 : decode cX9_plain 9 = .ok (.getfield 68, 3) := by decide +kernel
theorem dX9_plain_12 : decode cX9_plain 12 = .ok (.i2l, 1) := by decide +kernel
theorem dX9_plain_13 : decode cX9_plain 13 = .ok (.invokestatic 128, 3) := by decide +kernel
theorem dX9_plain_16 : decode cX9_plain 16 = .ok (.ifCond .ne 6, 3) := by decide +kernel
theorem dX9_plain_19 : decode cX9_plain 19 = .ok (.bipush (-3), 2) := by decide +kernel
theorem dX9_plain_21 : decode cX9_plain 21 = .ok (.ireturn, 1) := by decide +kernel
theorem dX9_plain_22 : decode cX9_plain 22 = .ok (.aload_n 0, 1) := by decide +kernel
theorem dX9_plain_23 : decode cX9_plain 23 = .ok (.iload_n 1, 1) := by decide +kernel
theorem dX9_plain_24 : decode cX9_plain 24 = .ok (.putfield 71, 3) := by decide +kernel
theorem dX9_plain_27 : decode cX9_plain 27 = .ok (.aload_n 0, 1) := by decide +kernel
theorem dX9_plain_28 : decode cX9_plain 28 = .ok (.iconst 0, 1) := by decide +kernel
theorem dX9_plain_29 : decode cX9_plain 29 = .ok (.putfield 68, 3) := by decide +kernel
theorem dX9_plain_32 : decode cX9_plain 32 = .ok (.aload_n 0, 1) := by decide +kernel
theorem dX9_plain_33 : decode cX9_plain 33 = .ok (.iconst 0, 1) := by decide +kernel
theorem dX9_plain_34 : decode cX9_plain 34 = .ok (.putfield 89, 3) := by decide +kernel
theorem dX9_plain_37 : decode cX9_plain 37 = .ok (.aload_n 0, 1) := by decide +kernel
theorem dX9_plain_38 : decode cX9_plain 38 = .ok (.iconst 0, 1) := by decide +kernel
theorem dX9_plain_39 : decode cX9_plain 39 = .ok (.putfield 112, 3) := by decide +kernel
theorem dX9_plain_42 : decode cX9_plain 42 = .ok (.aload_n 0, 1) := by decide +kernel
theorem dX9_plain_43 : decode cX9_plain 43 = .ok (.getfield 24, 3) := by decide +kernel
theorem dX9_plain_46 : decode cX9_plain 46 = .ok (.invokestatic 61, 3) := by decide +kernel
theorem dX9_plain_49 : decode cX9_plain 49 = .ok (.aload_n 0, 1) := by decide +kernel
theorem dX9_plain_50 : decode cX9_plain 50 = .ok (.invokevirtual 121, 3) := by decide +kernel
theorem dX9_plain_53 : decode cX9_plain 53 = .ok (.aload_n 0, 1) := by decide +kernel
theorem dX9_plain_54 : decode cX9_plain 54 = .ok (.getfield 112, 3) := by decide +kernel
theorem dX9_plain_57 : decode cX9_plain 57 = .ok (.ifCond .ne 19, 3) := by decide +kernel
theorem dX9_plain_60 : decode cX9_plain 60 = .ok (.aload_n 0, 1) := by decide +kernel
theorem dX9_plain_61 : decode cX9_plain 61 = .ok (.getfield 96, 3) := by decide +kernel
theorem dX9_plain_64 : decode cX9_plain 64 = .ok (.bipush 16, 2) := by decide +kernel
theorem dX9_plain_66 : decode cX9_plain 66 = .ok (.if_icmp .eq 10, 3) := by decide +kernel
theorem dX9_plain_69 : decode cX9_plain 69 = .ok (.aload_n 0, 1) := by decide +kernel
theorem dX9_plain_70 : decode cX9_plain 70 = .ok (.invokevirtual 152, 3) := by decide +kernel
theorem dX9_plain_73 : decode cX9_plain 73 = .ok (.goto (-20), 3) := by decide +kernel
theorem dX9_plain_76 : decode cX9_plain 76 = .ok (.aload_n 0, 1) := by decide +kernel
theorem dX9_plain_77 : decode cX9_plain 77 = .ok (.aload_n 0, 1) := by decide +kernel
theorem dX9_plain_78 : decode cX9_plain 78 = .ok (.getfield 112, 3) := by decide +kernel
theorem dX9_plain_81 : decode cX9_plain 81 = .ok (.putfield 155, 3) := by decide +kernel
theorem dX9_plain_84 : decode cX9_plain 84 = .ok (.aload_n 0, 1) := by decide +kernel
theorem dX9_plain_85 : decode cX9_plain 85 = .ok (.aload_n 0, 1) := by decide +kernel
theorem dX9_plain_86 : decode cX9_plain 86 = .ok (.getfield 112, 3) := by decide +kernel
theorem dX9_plain_89 : decode cX9_plain 89 = .ok (.ifCond .ne 7, 3) := by decide +kernel
theorem dX9_plain_92 : decode cX9_plain 92 = .ok (.iconst (-1), 1) := by decide +kernel
theorem dX9_plain_93 : decode cX9_plain 93 = .ok (.goto 7, 3) := by decide +kernel
theorem dX9_plain_96 : decode cX9_plain 96 = .ok (.aload_n 0, 1) := by decide +kernel
theorem dX9_plain_97 : decode cX9_plain 97 = .ok (.getfield 115, 3) := by decide +kernel
theorem dX9_plain_100 : decode cX9_plain 100 = .ok (.putfield 27, 3) := by decide +kernel
theorem dX9_plain_103 : decode cX9_plain 103 = .ok (.aload_n 0, 1) := by decide +kernel
theorem dX9_plain_104 : decode cX9_plain 104 = .ok (.getfield 112, 3) := by decide +kernel
theorem dX9_plain_107 : decode cX9_plain 107 = .ok (.ifCond .eq 11, 3) := by decide +kernel
theorem dX9_plain_110 : decode cX9_plain 110 = .ok (.bipush (-30), 2) := by decide +kernel
theorem dX9_plain_112 : decode cX9_plain 112 = .ok (.aload_n 0, 1) := by decide +kernel
theorem dX9_plain_113 : decode cX9_plain 113 = .ok (.getfield 112, 3) := by decide +kernel
theorem dX9_plain_116 : decode cX9_plain 116 = .ok (.isub, 1) := by decide +kernel
theorem dX9_plain_117 : decode cX9_plain 117 = .ok (.ireturn, 1) := by decide +kernel
theorem dX9_plain_118 : decode cX9_plain 118 = .ok (.iconst 0, 1) := by decide +kernel
theorem dX9_plain_119 : decode cX9_plain 119 = .ok (.istore_n 2, 1) := by decide +kernel
theorem dX9_plain_120 : decode cX9_plain 120 = .ok (.iload_n 2, 1) := by decide +kernel
theorem dX9_plain_121 : decode cX9_plain 121 = .ok (.bipush 96, 2) := by decide +kernel
theorem dX9_plain_123 : decode cX9_plain 123 = .ok (.if_icmp .ge 21, 3) := by decide +kernel
theorem dX9_plain_126 : decode cX9_plain 126 = .ok (.aload_n 0, 1) := by decide +kernel
theorem dX9_plain_127 : decode cX9_plain 127 = .ok (.getfield 13, 3) := by decide +kernel
theorem dX9_plain_130 : decode cX9_plain 130 = .ok (.iload_n 2, 1) := by decide +kernel
theorem dX9_plain_131 : decode cX9_plain 131 = .ok (.aload_n 0, 1) := by decide +kernel
theorem dX9_plain_132 : decode cX9_plain 132 = .ok (.getfield 24, 3) := by decide +kernel
theorem dX9_plain_135 : decode cX9_plain 135 = .ok (.iload_n 2, 1) := by decide +kernel
theorem dX9_plain_136 : decode cX9_plain 136 = .ok (.iaload, 1) := by decide +kernel
theorem dX9_plain_137 : decode cX9_plain 137 = .ok (.iastore, 1) := by decide +kernel
theorem dX9_plain_138 : decode cX9_plain 138 = .ok (.iinc 2 1, 3) := by decide +kernel
theorem dX9_plain_141 : decode cX9_plain 141 = .ok (.goto (-21), 3) := by decide +kernel
theorem dX9_plain_144 : decode cX9_plain 144 = .ok (.aload_n 0, 1) := by decide +kernel
theorem dX9_plain_145 : decode cX9_plain 145 = .ok (.getfield 13, 3) := by decide +kernel
theorem dX9_plain_148 : decode cX9_plain 148 = .ok (.bipush 9, 2) := by decide +kernel
theorem dX9_plain_150 : decode cX9_plain 150 = .ok (.iaload, 1) := by decide +kernel
theorem dX9_plain_151 : decode cX9_plain 151 = .ok (.ireturn, 1) := by decide +kernel
theorem dX9_fault_0 : decode cX9_fault 0 = .ok (.aload_n 0, 1) := by decide +kernel
theorem dX9_fault_1 : decode cX9_fault 1 = .ok (.iconst 0, 1) := by decide +kernel
theorem dX9_fault_2 : decode cX9_fault 2 = .ok (.putfield 1, 3) := by decide +kernel
theorem dX9_fault_5 : decode cX9_fault 5 = .ok (.iload_n 1, 1) := by decide +kernel
theorem dX9_fault_6 : decode cX9_fault 6 = .ok (.ifCond .ne 10, 3) := by decide +kernel
theorem dX9_fault_9 : decode cX9_fault 9 = .ok (.aload_n 0, 1) := by decide +kernel
theorem dX9_fault_10 : decode cX9_fault 10 = .ok (.getfield 155, 3) := by decide +kernel
theorem dX9_fault_13 : decode cX9_fault 13 = .ok (.goto 16, 3) := by decide +kernel
theorem dX9_fault_16 : decode cX9_fault 16 = .ok (.iload_n 1, 1) := by decide +kernel
theorem dX9_fault_17 : decode cX9_fault 17 = .ok (.iconst 1, 1) := by decide +kernel
theorem dX9_fault_18 : decode cX9_fault 18 = .ok (.if_icmp .ne 10, 3) := by decide +kernel
theorem dX9_fault_21 : decode cX9_fault 21 = .ok (.aload_n 0, 1) := by decide +kernel
theorem dX9_fault_22 : decode cX9_fault 22 = .ok (.getfield 27, 3) := by decide +kernel
theorem dX9_fault_25 : decode cX9_fault 25 = .ok (.goto 4, 3) := by decide +kernel
theorem dX9_fault_28 : decode cX9_fault 28 = .ok (.iconst (-1), 1) := by decide +kernel
theorem dX9_fault_29 : decode cX9_fault 29 = .ok (.ireturn, 1) := by decide +kernel
theorem dX9_isStrip_0 : decode cX9_isStrip 0 = .ok (.iload_n 1, 1) := by decide +kernel
theorem dX9_isStrip_1 : decode cX9_isStrip 1 = .ok (.i2l, 1) := by decide +kernel
theorem dX9_isStrip_2 : decode cX9_isStrip 2 = .ok (.lconst 0, 1) := by decide +kernel
theorem dX9_isStrip_3 : decode cX9_isStrip 3 = .ok (.aload_n 0, 1) := by decide +kernel
theorem dX9_isStrip_4 : decode cX9_isStrip 4 = .ok (.getfield 13, 3) := by decide +kernel
theorem dX9_isStrip_7 : decode cX9_isStrip 7 = .ok (.iconst 0, 1) := by decide +kernel
theorem dX9_isStrip_8 : decode cX9_isStrip 8 = .ok (.iaload, 1) := by decide +kernel
theorem dX9_isStrip_9 : decode cX9_isStrip 9 = .ok (.iconst 1, 1) := by decide +kernel
theorem dX9_isStrip_10 : decode cX9_isStrip 10 = .ok (.isub, 1) := by decide +kernel
theorem dX9_isStrip_11 : decode cX9_isStrip 11 = .ok (.i2l, 1) := by decide +kernel
theorem dX9_isStrip_12 : decode cX9_isStrip 12 = .ok (.invokestatic 128, 3) := by decide +kernel
theorem dX9_isStrip_15 : decode cX9_isStrip 15 = .ok (.ireturn, 1) := by decide +kernel
theorem dX9_off_0 : decode cX9_off 0 = .ok (.iload_n 0, 1) := by decide +kernel
theorem dX9_off_1 : decode cX9_off 1 = .ok (.iload_n 1, 1) := by decide +kernel
theorem dX9_off_2 : decode cX9_off 2 = .ok (.if_icmp .le 9, 3) := by decide +kernel
theorem dX9_off_5 : decode cX9_off 5 = .ok (.iload_n 0, 1) := by decide +kernel
theorem dX9_off_6 : decode cX9_off 6 = .ok (.iload_n 1, 1) := by decide +kernel
theorem dX9_off_7 : decode cX9_off 7 = .ok (.isub, 1) := by decide +kernel
theorem dX9_off_8 : decode cX9_off 8 = .ok (.goto 6, 3) := by decide +kernel
theorem dX9_off_11 : decode cX9_off 11 = .ok (.iload_n 1, 1) := by decide +kernel
theorem dX9_off_12 : decode cX9_off 12 = .ok (.iload_n 0, 1) := by decide +kernel
theorem dX9_off_13 : decode cX9_off 13 = .ok (.isub, 1) := by decide +kernel
theorem dX9_off_14 : decode cX9_off 14 = .ok (.ireturn, 1) := by decide +kernel
theorem dX9_nearness_0 : decode cX9_nearness 0 = .ok (.aload_n 0, 1) := by decide +kernel
theorem dX9_nearness_1 : decode cX9_nearness 1 = .ok (.getfield 13, 3) := by decide +kernel
theorem dX9_nearness_4 : decode cX9_nearness 4 = .ok (.iconst 4, 1) := by decide +kernel
theorem dX9_nearness_5 : decode cX9_nearness 5 = .ok (.iaload, 1) := by decide +kernel
theorem dX9_nearness_6 : decode cX9_nearness 6 = .ok (.aload_n 0, 1) := by decide +kernel
theorem dX9_nearness_7 : decode cX9_nearness 7 = .ok (.getfield 13, 3) := by decide +kernel
theorem dX9_nearness_10 : decode cX9_nearness 10 = .ok (.iconst 5, 1) := by decide +kernel
theorem dX9_nearness_11 : decode cX9_nearness 11 = .ok (.iaload, 1) := by decide +kernel
theorem dX9_nearness_12 : decode cX9_nearness 12 = .ok (.iload_n 1, 1) := by decide +kernel
theorem dX9_nearness_13 : decode cX9_nearness 13 = .ok (.iload_n 2, 1) := by decide +kernel
theorem dX9_nearness_14 : decode cX9_nearness 14 = .ok (.invokestatic 158, 3) := by decide +kernel
theorem dX9_nearness_17 : decode cX9_nearness 17 = .ok (.imul, 1) := by decide +kernel
theorem dX9_nearness_18 : decode cX9_nearness 18 = .ok (.isub, 1) := by decide +kernel
theorem dX9_nearness_19 : decode cX9_nearness 19 = .ok (.istore_n 3, 1) := by decide +kernel
theorem dX9_nearness_20 : decode cX9_nearness 20 = .ok (.iload_n 3, 1) := by decide +kernel
theorem dX9_nearness_21 : decode cX9_nearness 21 = .ok (.ifCond .ge 7, 3) := by decide +kernel
theorem dX9_nearness_24 : decode cX9_nearness 24 = .ok (.iconst 0, 1) := by decide +kernel
theorem dX9_nearness_25 : decode cX9_nearness 25 = .ok (.goto 4, 3) := by decide +kernel
theorem dX9_nearness_28 : decode cX9_nearness 28 = .ok (.iload_n 3, 1) := by decide +kernel
theorem dX9_nearness_29 : decode cX9_nearness 29 = .ok (.ireturn, 1) := by decide +kernel
theorem dX9_isShaded_0 : decode cX9_isShaded 0 = .ok (.iload_n 1, 1) := by decide +kernel
theorem dX9_isShaded_1 : decode cX9_isShaded 1 = .ok (.iload_n 2, 1) := by decide +kernel
theorem dX9_isShaded_2 : decode cX9_isShaded 2 = .ok (.if_icmp .ge 7, 3) := by decide +kernel
theorem dX9_isShaded_5 : decode cX9_isShaded 5 = .ok (.iload_n 1, 1) := by decide +kernel
theorem dX9_isShaded_6 : decode cX9_isShaded 6 = .ok (.goto 4, 3) := by decide +kernel
theorem dX9_isShaded_9 : decode cX9_isShaded 9 = .ok (.iload_n 2, 1) := by decide +kernel
theorem dX9_isShaded_10 : decode cX9_isShaded 10 = .ok (.istore 4, 2) := by decide +kernel
theorem dX9_isShaded_12 : decode cX9_isShaded 12 = .ok (.iload_n 1, 1) := by decide +kernel
theorem dX9_isShaded_13 : decode cX9_isShaded 13 = .ok (.iload_n 2, 1) := by decide +kernel
theorem dX9_isShaded_14 : decode cX9_isShaded 14 = .ok (.if_icmp .ge 7, 3) := by decide +kernel
theorem dX9_isShaded_17 : decode cX9_isShaded 17 = .ok (.iload_n 2, 1) := by decide +kernel
theorem dX9_isShaded_18 : decode cX9_isShaded 18 = .ok (.goto 4, 3) := by decide +kernel
theorem dX9_isShaded_21 : decode cX9_isShaded 21 = .ok (.iload_n 1, 1) := by decide +kernel
theorem dX9_isShaded_22 : decode cX9_isShaded 22 = .ok (.istore 5, 2) := by decide +kernel
theorem dX9_isShaded_24 : decode cX9_isShaded 24 = .ok (.iload 4, 2) := by decide +kernel
theorem dX9_isShaded_26 : decode cX9_isShaded 26 = .ok (.iconst 1, 1) := by decide +kernel
theorem dX9_isShaded_27 : decode cX9_isShaded 27 = .ok (.iadd, 1) := by decide +kernel
theorem dX9_isShaded_28 : decode cX9_isShaded 28 = .ok (.istore 6, 2) := by decide +kernel
theorem dX9_isShaded_30 : decode cX9_isShaded 30 = .ok (.iload 6, 2) := by decide +kernel
theorem dX9_isShaded_32 : decode cX9_isShaded 32 = .ok (.iload 5, 2) := by decide +kernel
theorem dX9_isShaded_34 : decode cX9_isShaded 34 = .ok (.if_icmp .ge 38, 3) := by decide +kernel
theorem dX9_isShaded_37 : decode cX9_isShaded 37 = .ok (.aload_n 0, 1) := by decide +kernel
theorem dX9_isShaded_38 : decode cX9_isShaded 38 = .ok (.getfield 13, 3) := by decide +kernel
theorem dX9_isShaded_41 : decode cX9_isShaded 41 = .ok (.bipush 48, 2) := by decide +kernel
theorem dX9_isShaded_43 : decode cX9_isShaded 43 = .ok (.iload 6, 2) := by decide +kernel
theorem dX9_isShaded_45 : decode cX9_isShaded 45 = .ok (.iadd, 1) := by decide +kernel
theorem dX9_isShaded_46 : decode cX9_isShaded 46 = .ok (.iaload, 1) := by decide +kernel
theorem dX9_isShaded_47 : decode cX9_isShaded 47 = .ok (.iload 5, 2) := by decide +kernel
theorem dX9_isShaded_49 : decode cX9_isShaded 49 = .ok (.iload 4, 2) := by decide +kernel
theorem dX9_isShaded_51 : decode cX9_isShaded 51 = .ok (.isub, 1) := by decide +kernel
theorem dX9_isShaded_52 : decode cX9_isShaded 52 = .ok (.imul, 1) := by decide +kernel
theorem dX9_isShaded_53 : decode cX9_isShaded 53 = .ok (.iload_n 3, 1) := by decide +kernel
theorem dX9_isShaded_54 : decode cX9_isShaded 54 = .ok (.iload 6, 2) := by decide +kernel
theorem dX9_isShaded_56 : decode cX9_isShaded 56 = .ok (.iload_n 2, 1) := by decide +kernel
theorem dX9_isShaded_57 : decode cX9_isShaded 57 = .ok (.invokestatic 158, 3) := by decide +kernel
theorem dX9_isShaded_60 : decode cX9_isShaded 60 = .ok (.imul, 1) := by decide +kernel
theorem dX9_isShaded_61 : decode cX9_isShaded 61 = .ok (.if_icmp .le 5, 3) := by decide +kernel
theorem dX9_isShaded_64 : decode cX9_isShaded 64 = .ok (.iconst 1, 1) := by decide +kernel
theorem dX9_isShaded_65 : decode cX9_isShaded 65 = .ok (.ireturn, 1) := by decide +kernel
theorem dX9_isShaded_66 : decode cX9_isShaded 66 = .ok (.iinc 6 1, 3) := by decide +kernel
theorem dX9_isShaded_69 : decode cX9_isShaded 69 = .ok (.goto (-39), 3) := by decide +kernel
theorem dX9_isShaded_72 : decode cX9_isShaded 72 = .ok (.iconst 0, 1) := by decide +kernel
theorem dX9_isShaded_73 : decode cX9_isShaded 73 = .ok (.ireturn, 1) := by decide +kernel
theorem dX9_lightBy_0 : decode cX9_lightBy 0 = .ok (.aload_n 0, 1) := by decide +kernel
theorem dX9_lightBy_1 : decode cX9_lightBy 1 = .ok (.iload_n 1, 1) := by decide +kernel
theorem dX9_lightBy_2 : decode cX9_lightBy 2 = .ok (.iload_n 2, 1) := by decide +kernel
theorem dX9_lightBy_3 : decode cX9_lightBy 3 = .ok (.iload_n 3, 1) := by decide +kernel
theorem dX9_lightBy_4 : decode cX9_lightBy 4 = .ok (.invokevirtual 161, 3) := by decide +kernel
theorem dX9_lightBy_7 : decode cX9_lightBy 7 = .ok (.ifCond .eq 7, 3) := by decide +kernel
theorem dX9_lightBy_10 : decode cX9_lightBy 10 = .ok (.iconst 0, 1) := by decide +kernel
theorem dX9_lightBy_11 : decode cX9_lightBy 11 = .ok (.goto 9, 3) := by decide +kernel
theorem dX9_lightBy_14 : decode cX9_lightBy 14 = .ok (.aload_n 0, 1) := by decide +kernel
theorem dX9_lightBy_15 : decode cX9_lightBy 15 = .ok (.iload_n 1, 1) := by decide +kernel
theorem dX9_lightBy_16 : decode cX9_lightBy 16 = .ok (.iload_n 2, 1) := by decide +kernel
theorem dX9_lightBy_17 : decode cX9_lightBy 17 = .ok (.invokevirtual 165, 3) := by decide +kernel
theorem dX9_lightBy_20 : decode cX9_lightBy 20 = .ok (.ireturn, 1) := by decide +kernel
theorem dX9_lightOf_0 : decode cX9_lightOf 0 = .ok (.aload_n 0, 1) := by decide +kernel
theorem dX9_lightOf_1 : decode cX9_lightOf 1 = .ok (.iload_n 1, 1) := by decide +kernel
theorem dX9_lightOf_2 : decode cX9_lightOf 2 = .ok (.iload_n 2, 1) := by decide +kernel
theorem dX9_lightOf_3 : decode cX9_lightOf 3 = .ok (.aload_n 0, 1) := by decide +kernel
theorem dX9_lightOf_4 : decode cX9_lightOf 4 = .ok (.getfield 13, 3) := by decide +kernel
theorem dX9_lightOf_7 : decode cX9_lightOf 7 = .ok (.iconst 3, 1) := by decide +kernel
theorem dX9_lightOf_8 : decode cX9_lightOf 8 = .ok (.iaload, 1) := by decide +kernel
theorem dX9_lightOf_9 : decode cX9_lightOf 9 = .ok (.invokevirtual 168, 3) := by decide +kernel
theorem dX9_lightOf_12 : decode cX9_lightOf 12 = .ok (.ireturn, 1) := by decide +kernel
theorem dX9_strip_0 : decode cX9_strip 0 = .ok (.aload_n 0, 1) := by decide +kernel
theorem dX9_strip_1 : decode cX9_strip 1 = .ok (.iconst 0, 1) := by decide +kernel
theorem dX9_strip_2 : decode cX9_strip 2 = .ok (.putfield 1, 3) := by decide +kernel
theorem dX9_strip_5 : decode cX9_strip 5 = .ok (.aload_n 0, 1) := by decide +kernel
theorem dX9_strip_6 : decode cX9_strip 6 = .ok (.iload_n 1, 1) := by decide +kernel
theorem dX9_strip_7 : decode cX9_strip 7 = .ok (.invokevirtual 172, 3) := by decide +kernel
theorem dX9_strip_10 : decode cX9_strip 10 = .ok (.ifCond .eq 15, 3) := by decide +kernel
theorem dX9_strip_13 : decode cX9_strip 13 = .ok (.iload_n 2, 1) := by decide +kernel
theorem dX9_strip_14 : decode cX9_strip 14 = .ok (.i2l, 1) := by decide +kernel
theorem dX9_strip_15 : decode cX9_strip 15 = .ok (.lconst 0, 1) := by decide +kernel
theorem dX9_strip_16 : decode cX9_strip 16 = .ok (.ldc2_w 175, 3) := by decide +kernel
theorem dX9_strip_19 : decode cX9_strip 19 = .ok (.invokestatic 128, 3) := by decide +kernel
theorem dX9_strip_22 : decode cX9_strip 22 = .ok (.ifCond .ne 6, 3) := by decide +kernel
theorem dX9_strip_25 : decode cX9_strip 25 = .ok (.bipush (-2), 2) := by decide +kernel
theorem dX9_strip_27 : decode cX9_strip 27 = .ok (.ireturn, 1) := by decide +kernel
theorem dX9_strip_28 : decode cX9_strip 28 = .ok (.iload_n 2, 1) := by decide +kernel
theorem dX9_strip_29 : decode cX9_strip 29 = .ok (.iconst 5, 1) := by decide +kernel
theorem dX9_strip_30 : decode cX9_strip 30 = .ok (.if_icmp .ne 17, 3) := by decide +kernel
theorem dX9_strip_33 : decode cX9_strip 33 = .ok (.aload_n 0, 1) := by decide +kernel
theorem dX9_strip_34 : decode cX9_strip 34 = .ok (.aload_n 0, 1) := by decide +kernel
theorem dX9_strip_35 : decode cX9_strip 35 = .ok (.getfield 13, 3) := by decide +kernel
theorem dX9_strip_38 : decode cX9_strip 38 = .ok (.iconst 2, 1) := by decide +kernel
theorem dX9_strip_39 : decode cX9_strip 39 = .ok (.iaload, 1) := by decide +kernel
theorem dX9_strip_40 : decode cX9_strip 40 = .ok (.iload_n 1, 1) := by decide +kernel
theorem dX9_strip_41 : decode cX9_strip 41 = .ok (.invokevirtual 177, 3) := by decide +kernel
theorem dX9_strip_44 : decode cX9_strip 44 = .ok (.goto 17, 3) := by decide +kernel
theorem dX9_strip_47 : decode cX9_strip 47 = .ok (.aload_n 0, 1) := by decide +kernel
theorem dX9_strip_48 : decode cX9_strip 48 = .ok (.getfield 13, 3) := by decide +kernel
theorem dX9_strip_51 : decode cX9_strip 51 = .ok (.bipush 16, 2) := by decide +kernel
theorem dX9_strip_53 : decode cX9_strip 53 = .ok (.bipush 16, 2) := by decide +kernel
theorem dX9_strip_55 : decode cX9_strip 55 = .ok (.iload_n 2, 1) := by decide +kernel
theorem dX9_strip_56 : decode cX9_strip 56 = .ok (.imul, 1) := by decide +kernel
theorem dX9_strip_57 : decode cX9_strip 57 = .ok (.iadd, 1) := by decide +kernel
theorem dX9_strip_58 : decode cX9_strip 58 = .ok (.iload_n 1, 1) := by decide +kernel
theorem dX9_strip_59 : decode cX9_strip 59 = .ok (.iadd, 1) := by decide +kernel
theorem dX9_strip_60 : decode cX9_strip 60 = .ok (.iaload, 1) := by decide +kernel
theorem dX9_strip_61 : decode cX9_strip 61 = .ok (.ireturn, 1) := by decide +kernel
theorem dX9_ofFarm_0 : decode cX9_ofFarm 0 = .ok (.iconst 0, 1) := by decide +kernel
theorem dX9_ofFarm_1 : decode cX9_ofFarm 1 = .ok (.istore_n 3, 1) := by decide +kernel
theorem dX9_ofFarm_2 : decode cX9_ofFarm 2 = .ok (.iconst 0, 1) := by decide +kernel
theorem dX9_ofFarm_3 : decode cX9_ofFarm 3 = .ok (.istore 4, 2) := by decide +kernel
theorem dX9_ofFarm_5 : decode cX9_ofFarm 5 = .ok (.iload 4, 2) := by decide +kernel
theorem dX9_ofFarm_7 : decode cX9_ofFarm 7 = .ok (.aload_n 0, 1) := by decide +kernel
theorem dX9_ofFarm_8 : decode cX9_ofFarm 8 = .ok (.getfield 13, 3) := by decide +kernel
theorem dX9_ofFarm_11 : decode cX9_ofFarm 11 = .ok (.iconst 0, 1) := by decide +kernel
theorem dX9_ofFarm_12 : decode cX9_ofFarm 12 = .ok (.iaload, 1) := by decide +kernel
theorem dX9_ofFarm_13 : decode cX9_ofFarm 13 = .ok (.if_icmp .ge 39, 3) := by decide +kernel
theorem dX9_ofFarm_16 : decode cX9_ofFarm 16 = .ok (.iload_n 3, 1) := by decide +kernel
theorem dX9_ofFarm_17 : decode cX9_ofFarm 17 = .ok (.aload_n 0, 1) := by decide +kernel
theorem dX9_ofFarm_18 : decode cX9_ofFarm 18 = .ok (.getfield 13, 3) := by decide +kernel
theorem dX9_ofFarm_21 : decode cX9_ofFarm 21 = .ok (.bipush 64, 2) := by decide +kernel
theorem dX9_ofFarm_23 : decode cX9_ofFarm 23 = .ok (.iload 4, 2) := by decide +kernel
theorem dX9_ofFarm_25 : decode cX9_ofFarm 25 = .ok (.iadd, 1) := by decide +kernel
theorem dX9_ofFarm_26 : decode cX9_ofFarm 26 = .ok (.iaload, 1) := by decide +kernel
theorem dX9_ofFarm_27 : decode cX9_ofFarm 27 = .ok (.iload_n 1, 1) := by decide +kernel
theorem dX9_ofFarm_28 : decode cX9_ofFarm 28 = .ok (.if_icmp .ne 15, 3) := by decide +kernel
theorem dX9_ofFarm_31 : decode cX9_ofFarm 31 = .ok (.aload_n 0, 1) := by decide +kernel
theorem dX9_ofFarm_32 : decode cX9_ofFarm 32 = .ok (.getfield 13, 3) := by decide +kernel
theorem dX9_ofFarm_35 : decode cX9_ofFarm 35 = .ok (.iload_n 2, 1) := by decide +kernel
theorem dX9_ofFarm_36 : decode cX9_ofFarm 36 = .ok (.iload 4, 2) := by decide +kernel
theorem dX9_ofFarm_38 : decode cX9_ofFarm 38 = .ok (.iadd, 1) := by decide +kernel
theorem dX9_ofFarm_39 : decode cX9_ofFarm 39 = .ok (.iaload, 1) := by decide +kernel
theorem dX9_ofFarm_40 : decode cX9_ofFarm 40 = .ok (.goto 4, 3) := by decide +kernel
theorem dX9_ofFarm_43 : decode cX9_ofFarm 43 = .ok (.iconst 0, 1) := by decide +kernel
theorem dX9_ofFarm_44 : decode cX9_ofFarm 44 = .ok (.iadd, 1) := by decide +kernel
theorem dX9_ofFarm_45 : decode cX9_ofFarm 45 = .ok (.istore_n 3, 1) := by decide +kernel
theorem dX9_ofFarm_46 : decode cX9_ofFarm 46 = .ok (.iinc 4 1, 3) := by decide +kernel
theorem dX9_ofFarm_49 : decode cX9_ofFarm 49 = .ok (.goto (-44), 3) := by decide +kernel
theorem dX9_ofFarm_52 : decode cX9_ofFarm 52 = .ok (.iload_n 3, 1) := by decide +kernel
theorem dX9_ofFarm_53 : decode cX9_ofFarm 53 = .ok (.ireturn, 1) := by decide +kernel
theorem dX9_stripsOf_0 : decode cX9_stripsOf 0 = .ok (.iconst 0, 1) := by decide +kernel
theorem dX9_stripsOf_1 : decode cX9_stripsOf 1 = .ok (.istore_n 2, 1) := by decide +kernel
theorem dX9_stripsOf_2 : decode cX9_stripsOf 2 = .ok (.iconst 0, 1) := by decide +kernel
theorem dX9_stripsOf_3 : decode cX9_stripsOf 3 = .ok (.istore_n 3, 1) := by decide +kernel
theorem dX9_stripsOf_4 : decode cX9_stripsOf 4 = .ok (.iload_n 3, 1) := by decide +kernel
theorem dX9_stripsOf_5 : decode cX9_stripsOf 5 = .ok (.aload_n 0, 1) := by decide +kernel
theorem dX9_stripsOf_6 : decode cX9_stripsOf 6 = .ok (.getfield 13, 3) := by decide +kernel
theorem dX9_stripsOf_9 : decode cX9_stripsOf 9 = .ok (.iconst 0, 1) := by decide +kernel
theorem dX9_stripsOf_10 : decode cX9_stripsOf 10 = .ok (.iaload, 1) := by decide +kernel
theorem dX9_stripsOf_11 : decode cX9_stripsOf 11 = .ok (.if_icmp .ge 32, 3) := by decide +kernel
theorem dX9_stripsOf_14 : decode cX9_stripsOf 14 = .ok (.iload_n 2, 1) := by decide +kernel
theorem dX9_stripsOf_15 : decode cX9_stripsOf 15 = .ok (.aload_n 0, 1) := by decide +kernel
theorem dX9_stripsOf_16 : decode cX9_stripsOf 16 = .ok (.getfield 13, 3) := by decide +kernel
theorem dX9_stripsOf_19 : decode cX9_stripsOf 19 = .ok (.bipush 64, 2) := by decide +kernel
theorem dX9_stripsOf_21 : decode cX9_stripsOf 21 = .ok (.iload_n 3, 1) := by decide +kernel
theorem dX9_stripsOf_22 : decode cX9_stripsOf 22 = .ok (.iadd, 1) := by decide +kernel
theorem dX9_stripsOf_23 : decode cX9_stripsOf 23 = .ok (.iaload, 1) := by decide +kernel
theorem dX9_stripsOf_24 : decode cX9_stripsOf 24 = .ok (.iload_n 1, 1) := by decide +kernel
theorem dX9_stripsOf_25 : decode cX9_stripsOf 25 = .ok (.if_icmp .ne 9, 3) := by decide +kernel
theorem dX9_stripsOf_28 : decode cX9_stripsOf 28 = .ok (.iconst 1, 1) := by decide +kernel
theorem dX9_stripsOf_29 : decode cX9_stripsOf 29 = .ok (.iload_n 3, 1) := by decide +kernel
theorem dX9_stripsOf_30 : decode cX9_stripsOf 30 = .ok (.ishl, 1) := by decide +kernel
theorem dX9_stripsOf_31 : decode cX9_stripsOf 31 = .ok (.goto 4, 3) := by decide +kernel
theorem dX9_stripsOf_34 : decode cX9_stripsOf 34 = .ok (.iconst 0, 1) := by decide +kernel
theorem dX9_stripsOf_35 : decode cX9_stripsOf 35 = .ok (.ior, 1) := by decide +kernel
theorem dX9_stripsOf_36 : decode cX9_stripsOf 36 = .ok (.istore_n 2, 1) := by decide +kernel
theorem dX9_stripsOf_37 : decode cX9_stripsOf 37 = .ok (.iinc 3 1, 3) := by decide +kernel
theorem dX9_stripsOf_40 : decode cX9_stripsOf 40 = .ok (.goto (-36), 3) := by decide +kernel
theorem dX9_stripsOf_43 : decode cX9_stripsOf 43 = .ok (.iload_n 2, 1) := by decide +kernel
theorem dX9_stripsOf_44 : decode cX9_stripsOf 44 = .ok (.ireturn, 1) := by decide +kernel
theorem dX9_farm_0 : decode cX9_farm 0 = .ok (.aload_n 0, 1) := by decide +kernel
theorem dX9_farm_1 : decode cX9_farm 1 = .ok (.iconst 0, 1) := by decide +kernel
theorem dX9_farm_2 : decode cX9_farm 2 = .ok (.putfield 1, 3) := by decide +kernel
theorem dX9_farm_5 : decode cX9_farm 5 = .ok (.iload_n 1, 1) := by decide +kernel
theorem dX9_farm_6 : decode cX9_farm 6 = .ok (.i2l, 1) := by decide +kernel
theorem dX9_farm_7 : decode cX9_farm 7 = .ok (.lconst 0, 1) := by decide +kernel
theorem dX9_farm_8 : decode cX9_farm 8 = .ok (.ldc2_w 175, 3) := by decide +kernel
theorem dX9_farm_11 : decode cX9_farm 11 = .ok (.invokestatic 128, 3) := by decide +kernel
theorem dX9_farm_14 : decode cX9_farm 14 = .ok (.ifCond .eq 15, 3) := by decide +kernel
theorem dX9_farm_17 : decode cX9_farm 17 = .ok (.iload_n 2, 1) := by decide +kernel
theorem dX9_farm_18 : decode cX9_farm 18 = .ok (.i2l, 1) := by decide +kernel
theorem dX9_farm_19 : decode cX9_farm 19 = .ok (.lconst 0, 1) := by decide +kernel
theorem dX9_farm_20 : decode cX9_farm 20 = .ok (.ldc2_w 180, 3) := by decide +kernel
theorem dX9_farm_23 : decode cX9_farm 23 = .ok (.invokestatic 128, 3) := by decide +kernel
theorem dX9_farm_26 : decode cX9_farm 26 = .ok (.ifCond .ne 6, 3) := by decide +kernel
theorem dX9_farm_29 : decode cX9_farm 29 = .ok (.bipush (-2), 2) := by decide +kernel
theorem dX9_farm_31 : decode cX9_farm 31 = .ok (.ireturn, 1) := by decide +kernel
theorem dX9_farm_32 : decode cX9_farm 32 = .ok (.iload_n 2, 1) := by decide +kernel
theorem dX9_farm_33 : decode cX9_farm 33 = .ok (.ifCond .ne 13, 3) := by decide +kernel
theorem dX9_farm_36 : decode cX9_farm 36 = .ok (.aload_n 0, 1) := by decide +kernel
theorem dX9_farm_37 : decode cX9_farm 37 = .ok (.iload_n 1, 1) := by decide +kernel
theorem dX9_farm_38 : decode cX9_farm 38 = .ok (.bipush 80, 2) := by decide +kernel
theorem dX9_farm_40 : decode cX9_farm 40 = .ok (.invokevirtual 182, 3) := by decide +kernel
theorem dX9_farm_43 : decode cX9_farm 43 = .ok (.goto 40, 3) := by decide +kernel
theorem dX9_farm_46 : decode cX9_farm 46 = .ok (.iload_n 2, 1) := by decide +kernel
theorem dX9_farm_47 : decode cX9_farm 47 = .ok (.iconst 1, 1) := by decide +kernel
theorem dX9_farm_48 : decode cX9_farm 48 = .ok (.if_icmp .ne 13, 3) := by decide +kernel
theorem dX9_farm_51 : decode cX9_farm 51 = .ok (.aload_n 0, 1) := by decide +kernel
theorem dX9_farm_52 : decode cX9_farm 52 = .ok (.iload_n 1, 1) := by decide +kernel
theorem dX9_farm_53 : decode cX9_farm 53 = .ok (.bipush 16, 2) := by decide +kernel
theorem dX9_farm_55 : decode cX9_farm 55 = .ok (.invokevirtual 182, 3) := by decide +kernel
theorem dX9_farm_58 : decode cX9_farm 58 = .ok (.goto 25, 3) := by decide +kernel
theorem dX9_farm_61 : decode cX9_farm 61 = .ok (.iload_n 2, 1) := by decide +kernel
theorem dX9_farm_62 : decode cX9_farm 62 = .ok (.iconst 2, 1) := by decide +kernel
theorem dX9_farm_63 : decode cX9_farm 63 = .ok (.if_icmp .ne 15, 3) := by decide +kernel
theorem dX9_farm_66 : decode cX9_farm 66 = .ok (.aload_n 0, 1) := by decide +kernel
theorem dX9_farm_67 : decode cX9_farm 67 = .ok (.getfield 13, 3) := by decide +kernel
theorem dX9_farm_70 : decode cX9_farm 70 = .ok (.bipush 10, 2) := by decide +kernel
theorem dX9_farm_72 : decode cX9_farm 72 = .ok (.iload_n 1, 1) := by decide +kernel
theorem dX9_farm_73 : decode cX9_farm 73 = .ok (.iadd, 1) := by decide +kernel
theorem dX9_farm_74 : decode cX9_farm 74 = .ok (.iaload, 1) := by decide +kernel
theorem dX9_farm_75 : decode cX9_farm 75 = .ok (.goto 8, 3) := by decide +kernel
theorem dX9_farm_78 : decode cX9_farm 78 = .ok (.aload_n 0, 1) := by decide +kernel
theorem dX9_farm_79 : decode cX9_farm 79 = .ok (.iload_n 1, 1) := by decide +kernel
theorem dX9_farm_80 : decode cX9_farm 80 = .ok (.invokevirtual 185, 3) := by decide +kernel
theorem dX9_farm_83 : decode cX9_farm 83 = .ok (.ireturn, 1) := by decide +kernel
theorem dX9_light_0 : decode cX9_light 0 = .ok (.aload_n 0, 1) := by decide +kernel
theorem dX9_light_1 : decode cX9_light 1 = .ok (.iconst 0, 1) := by decide +kernel
theorem dX9_light_2 : decode cX9_light 2 = .ok (.putfield 1, 3) := by decide +kernel
theorem dX9_light_5 : decode cX9_light 5 = .ok (.aload_n 0, 1) := by decide +kernel
theorem dX9_light_6 : decode cX9_light 6 = .ok (.iload_n 1, 1) := by decide +kernel
theorem dX9_light_7 : decode cX9_light 7 = .ok (.invokevirtual 172, 3) := by decide +kernel
theorem dX9_light_10 : decode cX9_light 10 = .ok (.ifCond .eq 20, 3) := by decide +kernel
theorem dX9_light_13 : decode cX9_light 13 = .ok (.aload_n 0, 1) := by decide +kernel
theorem dX9_light_14 : decode cX9_light 14 = .ok (.iload_n 2, 1) := by decide +kernel
theorem dX9_light_15 : decode cX9_light 15 = .ok (.invokevirtual 172, 3) := by decide +kernel
theorem dX9_light_18 : decode cX9_light 18 = .ok (.ifCond .eq 12, 3) := by decide +kernel
theorem dX9_light_21 : decode cX9_light 21 = .ok (.aload_n 0, 1) := by decide +kernel
theorem dX9_light_22 : decode cX9_light 22 = .ok (.iload_n 1, 1) := by decide +kernel
theorem dX9_light_23 : decode cX9_light 23 = .ok (.iload_n 2, 1) := by decide +kernel
theorem dX9_light_24 : decode cX9_light 24 = .ok (.invokevirtual 177, 3) := by decide +kernel
theorem dX9_light_27 : decode cX9_light 27 = .ok (.goto 5, 3) := by decide +kernel
theorem dX9_light_30 : decode cX9_light 30 = .ok (.bipush (-2), 2) := by decide +kernel
theorem dX9_light_32 : decode cX9_light 32 = .ok (.ireturn, 1) := by decide +kernel
theorem dX9_litBy_0 : decode cX9_litBy 0 = .ok (.iconst 0, 1) := by decide +kernel
theorem dX9_litBy_1 : decode cX9_litBy 1 = .ok (.istore_n 3, 1) := by decide +kernel
theorem dX9_litBy_2 : decode cX9_litBy 2 = .ok (.iconst 0, 1) := by decide +kernel
theorem dX9_litBy_3 : decode cX9_litBy 3 = .ok (.istore 4, 2) := by decide +kernel
theorem dX9_litBy_5 : decode cX9_litBy 5 = .ok (.iload 4, 2) := by decide +kernel
theorem dX9_litBy_7 : decode cX9_litBy 7 = .ok (.aload_n 0, 1) := by decide +kernel
theorem dX9_litBy_8 : decode cX9_litBy 8 = .ok (.getfield 13, 3) := by decide +kernel
theorem dX9_litBy_11 : decode cX9_litBy 11 = .ok (.iconst 0, 1) := by decide +kernel
theorem dX9_litBy_12 : decode cX9_litBy 12 = .ok (.iaload, 1) := by decide +kernel
theorem dX9_litBy_13 : decode cX9_litBy 13 = .ok (.if_icmp .ge 31, 3) := by decide +kernel
theorem dX9_litBy_16 : decode cX9_litBy 16 = .ok (.iload_n 3, 1) := by decide +kernel
theorem dX9_litBy_17 : decode cX9_litBy 17 = .ok (.aload_n 0, 1) := by decide +kernel
theorem dX9_litBy_18 : decode cX9_litBy 18 = .ok (.iload_n 1, 1) := by decide +kernel
theorem dX9_litBy_19 : decode cX9_litBy 19 = .ok (.iload 4, 2) := by decide +kernel
theorem dX9_litBy_21 : decode cX9_litBy 21 = .ok (.iload_n 2, 1) := by decide +kernel
theorem dX9_litBy_22 : decode cX9_litBy 22 = .ok (.invokevirtual 168, 3) := by decide +kernel
theorem dX9_litBy_25 : decode cX9_litBy 25 = .ok (.ifCond .le 10, 3) := by decide +kernel
theorem dX9_litBy_28 : decode cX9_litBy 28 = .ok (.iconst 1, 1) := by decide +kernel
theorem dX9_litBy_29 : decode cX9_litBy 29 = .ok (.iload 4, 2) := by decide +kernel
theorem dX9_litBy_31 : decode cX9_litBy 31 = .ok (.ishl, 1) := by decide +kernel
theorem dX9_litBy_32 : decode cX9_litBy 32 = .ok (.goto 4, 3) := by decide +kernel
theorem dX9_litBy_35 : decode cX9_litBy 35 = .ok (.iconst 0, 1) := by decide +kernel
theorem dX9_litBy_36 : decode cX9_litBy 36 = .ok (.ior, 1) := by decide +kernel
theorem dX9_litBy_37 : decode cX9_litBy 37 = .ok (.istore_n 3, 1) := by decide +kernel
theorem dX9_litBy_38 : decode cX9_litBy 38 = .ok (.iinc 4 1, 3) := by decide +kernel
theorem dX9_litBy_41 : decode cX9_litBy 41 = .ok (.goto (-36), 3) := by decide +kernel
theorem dX9_litBy_44 : decode cX9_litBy 44 = .ok (.iload_n 3, 1) := by decide +kernel
theorem dX9_litBy_45 : decode cX9_litBy 45 = .ok (.ireturn, 1) := by decide +kernel
theorem dX9_lit_0 : decode cX9_lit 0 = .ok (.aload_n 0, 1) := by decide +kernel
theorem dX9_lit_1 : decode cX9_lit 1 = .ok (.iconst 0, 1) := by decide +kernel
theorem dX9_lit_2 : decode cX9_lit 2 = .ok (.putfield 1, 3) := by decide +kernel
theorem dX9_lit_5 : decode cX9_lit 5 = .ok (.aload_n 0, 1) := by decide +kernel
theorem dX9_lit_6 : decode cX9_lit 6 = .ok (.iload_n 1, 1) := by decide +kernel
theorem dX9_lit_7 : decode cX9_lit 7 = .ok (.invokevirtual 172, 3) := by decide +kernel
theorem dX9_lit_10 : decode cX9_lit 10 = .ok (.ifCond .eq 17, 3) := by decide +kernel
theorem dX9_lit_13 : decode cX9_lit 13 = .ok (.aload_n 0, 1) := by decide +kernel
theorem dX9_lit_14 : decode cX9_lit 14 = .ok (.iload_n 1, 1) := by decide +kernel
theorem dX9_lit_15 : decode cX9_lit 15 = .ok (.aload_n 0, 1) := by decide +kernel
theorem dX9_lit_16 : decode cX9_lit 16 = .ok (.getfield 13, 3) := by decide +kernel
theorem dX9_lit_19 : decode cX9_lit 19 = .ok (.iconst 3, 1) := by decide +kernel
theorem dX9_lit_20 : decode cX9_lit 20 = .ok (.iaload, 1) := by decide +kernel
theorem dX9_lit_21 : decode cX9_lit 21 = .ok (.invokevirtual 188, 3) := by decide +kernel
theorem dX9_lit_24 : decode cX9_lit 24 = .ok (.goto 5, 3) := by decide +kernel
theorem dX9_lit_27 : decode cX9_lit 27 = .ok (.bipush (-2), 2) := by decide +kernel
theorem dX9_lit_29 : decode cX9_lit 29 = .ok (.ireturn, 1) := by decide +kernel
theorem dX9_shaded_0 : decode cX9_shaded 0 = .ok (.aload_n 0, 1) := by decide +kernel
theorem dX9_shaded_1 : decode cX9_shaded 1 = .ok (.iconst 0, 1) := by decide +kernel
theorem dX9_shaded_2 : decode cX9_shaded 2 = .ok (.putfield 1, 3) := by decide +kernel
theorem dX9_shaded_5 : decode cX9_shaded 5 = .ok (.aload_n 0, 1) := by decide +kernel
theorem dX9_shaded_6 : decode cX9_shaded 6 = .ok (.iload_n 1, 1) := by decide +kernel
theorem dX9_shaded_7 : decode cX9_shaded 7 = .ok (.invokevirtual 172, 3) := by decide +kernel
theorem dX9_shaded_10 : decode cX9_shaded 10 = .ok (.ifCond .ne 6, 3) := by decide +kernel
theorem dX9_shaded_13 : decode cX9_shaded 13 = .ok (.bipush (-2), 2) := by decide +kernel
theorem dX9_shaded_15 : decode cX9_shaded 15 = .ok (.ireturn, 1) := by decide +kernel
theorem dX9_shaded_16 : decode cX9_shaded 16 = .ok (.iconst 0, 1) := by decide +kernel
theorem dX9_shaded_17 : decode cX9_shaded 17 = .ok (.istore_n 2, 1) := by decide +kernel
theorem dX9_shaded_18 : decode cX9_shaded 18 = .ok (.iconst 0, 1) := by decide +kernel
theorem dX9_shaded_19 : decode cX9_shaded 19 = .ok (.istore_n 3, 1) := by decide +kernel
theorem dX9_shaded_20 : decode cX9_shaded 20 = .ok (.iload_n 3, 1) := by decide +kernel
theorem dX9_shaded_21 : decode cX9_shaded 21 = .ok (.aload_n 0, 1) := by decide +kernel
theorem dX9_shaded_22 : decode cX9_shaded 22 = .ok (.getfield 13, 3) := by decide +kernel
theorem dX9_shaded_25 : decode cX9_shaded 25 = .ok (.iconst 0, 1) := by decide +kernel
theorem dX9_shaded_26 : decode cX9_shaded 26 = .ok (.iaload, 1) := by decide +kernel
theorem dX9_shaded_27 : decode cX9_shaded 27 = .ok (.if_icmp .ge 43, 3) := by decide +kernel
theorem dX9_shaded_30 : decode cX9_shaded 30 = .ok (.iload_n 2, 1) := by decide +kernel
theorem dX9_shaded_31 : decode cX9_shaded 31 = .ok (.aload_n 0, 1) := by decide +kernel
theorem dX9_shaded_32 : decode cX9_shaded 32 = .ok (.iload_n 1, 1) := by decide +kernel
theorem dX9_shaded_33 : decode cX9_shaded 33 = .ok (.iload_n 3, 1) := by decide +kernel
theorem dX9_shaded_34 : decode cX9_shaded 34 = .ok (.invokevirtual 165, 3) := by decide +kernel
theorem dX9_shaded_37 : decode cX9_shaded 37 = .ok (.ifCond .le 24, 3) := by decide +kernel
theorem dX9_shaded_40 : decode cX9_shaded 40 = .ok (.aload_n 0, 1) := by decide +kernel
theorem dX9_shaded_41 : decode cX9_shaded 41 = .ok (.iload_n 1, 1) := by decide +kernel
theorem dX9_shaded_42 : decode cX9_shaded 42 = .ok (.iload_n 3, 1) := by decide +kernel
theorem dX9_shaded_43 : decode cX9_shaded 43 = .ok (.aload_n 0, 1) := by decide +kernel
theorem dX9_shaded_44 : decode cX9_shaded 44 = .ok (.getfield 13, 3) := by decide +kernel
theorem dX9_shaded_47 : decode cX9_shaded 47 = .ok (.iconst 3, 1) := by decide +kernel
theorem dX9_shaded_48 : decode cX9_shaded 48 = .ok (.iaload, 1) := by decide +kernel
theorem dX9_shaded_49 : decode cX9_shaded 49 = .ok (.invokevirtual 161, 3) := by decide +kernel
theorem dX9_shaded_52 : decode cX9_shaded 52 = .ok (.ifCond .eq 9, 3) := by decide +kernel
theorem dX9_shaded_55 : decode cX9_shaded 55 = .ok (.iconst 1, 1) := by decide +kernel
theorem dX9_shaded_56 : decode cX9_shaded 56 = .ok (.iload_n 3, 1) := by decide +kernel
theorem dX9_shaded_57 : decode cX9_shaded 57 = .ok (.ishl, 1) := by decide +kernel
theorem dX9_shaded_58 : decode cX9_shaded 58 = .ok (.goto 4, 3) := by decide +kernel
theorem dX9_shaded_61 : decode cX9_shaded 61 = .ok (.iconst 0, 1) := by decide +kernel
theorem dX9_shaded_62 : decode cX9_shaded 62 = .ok (.ior, 1) := by decide +kernel
theorem dX9_shaded_63 : decode cX9_shaded 63 = .ok (.istore_n 2, 1) := by decide +kernel
theorem dX9_shaded_64 : decode cX9_shaded 64 = .ok (.iinc 3 1, 3) := by decide +kernel
theorem dX9_shaded_67 : decode cX9_shaded 67 = .ok (.goto (-47), 3) := by decide +kernel
theorem dX9_shaded_70 : decode cX9_shaded 70 = .ok (.iload_n 2, 1) := by decide +kernel
theorem dX9_shaded_71 : decode cX9_shaded 71 = .ok (.ireturn, 1) := by decide +kernel
theorem dX9_high_0 : decode cX9_high 0 = .ok (.aload_n 0, 1) := by decide +kernel
theorem dX9_high_1 : decode cX9_high 1 = .ok (.iconst 0, 1) := by decide +kernel
theorem dX9_high_2 : decode cX9_high 2 = .ok (.putfield 1, 3) := by decide +kernel
theorem dX9_high_5 : decode cX9_high 5 = .ok (.aload_n 0, 1) := by decide +kernel
theorem dX9_high_6 : decode cX9_high 6 = .ok (.iload_n 1, 1) := by decide +kernel
theorem dX9_high_7 : decode cX9_high 7 = .ok (.invokevirtual 172, 3) := by decide +kernel
theorem dX9_high_10 : decode cX9_high 10 = .ok (.ifCond .eq 11, 3) := by decide +kernel
theorem dX9_high_13 : decode cX9_high 13 = .ok (.aload_n 0, 1) := by decide +kernel
theorem dX9_high_14 : decode cX9_high 14 = .ok (.iload_n 2, 1) := by decide +kernel
theorem dX9_high_15 : decode cX9_high 15 = .ok (.invokevirtual 172, 3) := by decide +kernel
theorem dX9_high_18 : decode cX9_high 18 = .ok (.ifCond .ne 6, 3) := by decide +kernel
theorem dX9_high_21 : decode cX9_high 21 = .ok (.bipush (-2), 2) := by decide +kernel
theorem dX9_high_23 : decode cX9_high 23 = .ok (.ireturn, 1) := by decide +kernel
theorem dX9_high_24 : decode cX9_high 24 = .ok (.iconst 1, 1) := by decide +kernel
theorem dX9_high_25 : decode cX9_high 25 = .ok (.istore_n 3, 1) := by decide +kernel
theorem dX9_high_26 : decode cX9_high 26 = .ok (.iload_n 3, 1) := by decide +kernel
theorem dX9_high_27 : decode cX9_high 27 = .ok (.bipush 100, 2) := by decide +kernel
theorem dX9_high_29 : decode cX9_high 29 = .ok (.if_icmp .ge 21, 3) := by decide +kernel
theorem dX9_high_32 : decode cX9_high 32 = .ok (.aload_n 0, 1) := by decide +kernel
theorem dX9_high_33 : decode cX9_high 33 = .ok (.iload_n 1, 1) := by decide +kernel
theorem dX9_high_34 : decode cX9_high 34 = .ok (.iload_n 2, 1) := by decide +kernel
theorem dX9_high_35 : decode cX9_high 35 = .ok (.iload_n 3, 1) := by decide +kernel
theorem dX9_high_36 : decode cX9_high 36 = .ok (.invokevirtual 168, 3) := by decide +kernel
theorem dX9_high_39 : decode cX9_high 39 = .ok (.ifCond .le 5, 3) := by decide +kernel
theorem dX9_high_42 : decode cX9_high 42 = .ok (.iload_n 3, 1) := by decide +kernel
theorem dX9_high_43 : decode cX9_high 43 = .ok (.ireturn, 1) := by decide +kernel
theorem dX9_high_44 : decode cX9_high 44 = .ok (.iinc 3 1, 3) := by decide +kernel
theorem dX9_high_47 : decode cX9_high 47 = .ok (.goto (-21), 3) := by decide +kernel
theorem dX9_high_50 : decode cX9_high 50 = .ok (.iconst (-1), 1) := by decide +kernel
theorem dX9_high_51 : decode cX9_high 51 = .ok (.ireturn, 1) := by decide +kernel
theorem dX9_isSet_0 : decode cX9_isSet 0 = .ok (.iload_n 1, 1) := by decide +kernel
theorem dX9_isSet_1 : decode cX9_isSet 1 = .ok (.i2l, 1) := by decide +kernel
theorem dX9_isSet_2 : decode cX9_isSet 2 = .ok (.lconst 0, 1) := by decide +kernel
theorem dX9_isSet_3 : decode cX9_isSet 3 = .ok (.iconst 1, 1) := by decide +kernel
theorem dX9_isSet_4 : decode cX9_isSet 4 = .ok (.aload_n 0, 1) := by decide +kernel
theorem dX9_isSet_5 : decode cX9_isSet 5 = .ok (.getfield 13, 3) := by decide +kernel
theorem dX9_isSet_8 : decode cX9_isSet 8 = .ok (.iconst 0, 1) := by decide +kernel
theorem dX9_isSet_9 : decode cX9_isSet 9 = .ok (.iaload, 1) := by decide +kernel
theorem dX9_isSet_10 : decode cX9_isSet 10 = .ok (.ishl, 1) := by decide +kernel
theorem dX9_isSet_11 : decode cX9_isSet 11 = .ok (.iconst 1, 1) := by decide +kernel
theorem dX9_isSet_12 : decode cX9_isSet 12 = .ok (.isub, 1) := by decide +kernel
theorem dX9_isSet_13 : decode cX9_isSet 13 = .ok (.i2l, 1) := by decide +kernel
theorem dX9_isSet_14 : decode cX9_isSet 14 = .ok (.invokestatic 128, 3) := by decide +kernel
theorem dX9_isSet_17 : decode cX9_isSet 17 = .ok (.ireturn, 1) := by decide +kernel
theorem dX9_highFor_0 : decode cX9_highFor 0 = .ok (.aload_n 0, 1) := by decide +kernel
theorem dX9_highFor_1 : decode cX9_highFor 1 = .ok (.iconst 0, 1) := by decide +kernel
theorem dX9_highFor_2 : decode cX9_highFor 2 = .ok (.putfield 1, 3) := by decide +kernel
theorem dX9_highFor_5 : decode cX9_highFor 5 = .ok (.aload_n 0, 1) := by decide +kernel
theorem dX9_highFor_6 : decode cX9_highFor 6 = .ok (.iload_n 1, 1) := by decide +kernel
theorem dX9_highFor_7 : decode cX9_highFor 7 = .ok (.invokevirtual 191, 3) := by decide +kernel
theorem dX9_highFor_10 : decode cX9_highFor 10 = .ok (.ifCond .eq 7, 3) := by decide +kernel
theorem dX9_highFor_13 : decode cX9_highFor 13 = .ok (.iload_n 1, 1) := by decide +kernel
theorem dX9_highFor_14 : decode cX9_highFor 14 = .ok (.ifCond .ne 6, 3) := by decide +kernel
theorem dX9_highFor_17 : decode cX9_highFor 17 = .ok (.bipush (-3), 2) := by decide +kernel
theorem dX9_highFor_19 : decode cX9_highFor 19 = .ok (.ireturn, 1) := by decide +kernel
theorem dX9_highFor_20 : decode cX9_highFor 20 = .ok (.iconst 1, 1) := by decide +kernel
theorem dX9_highFor_21 : decode cX9_highFor 21 = .ok (.istore_n 3, 1) := by decide +kernel
theorem dX9_highFor_22 : decode cX9_highFor 22 = .ok (.iload_n 3, 1) := by decide +kernel
theorem dX9_highFor_23 : decode cX9_highFor 23 = .ok (.bipush 100, 2) := by decide +kernel
theorem dX9_highFor_25 : decode cX9_highFor 25 = .ok (.if_icmp .ge 54, 3) := by decide +kernel
theorem dX9_highFor_28 : decode cX9_highFor 28 = .ok (.iconst 0, 1) := by decide +kernel
theorem dX9_highFor_29 : decode cX9_highFor 29 = .ok (.istore 4, 2) := by decide +kernel
theorem dX9_highFor_31 : decode cX9_highFor 31 = .ok (.iload 4, 2) := by decide +kernel
theorem dX9_highFor_33 : decode cX9_highFor 33 = .ok (.aload_n 0, 1) := by decide +kernel
theorem dX9_highFor_34 : decode cX9_highFor 34 = .ok (.getfield 13, 3) := by decide +kernel
theorem dX9_highFor_37 : decode cX9_highFor 37 = .ok (.iconst 0, 1) := by decide +kernel
theorem dX9_highFor_38 : decode cX9_highFor 38 = .ok (.iaload, 1) := by decide +kernel
theorem dX9_highFor_39 : decode cX9_highFor 39 = .ok (.if_icmp .ge 34, 3) := by decide +kernel
theorem dX9_highFor_42 : decode cX9_highFor 42 = .ok (.iload_n 1, 1) := by decide +kernel
theorem dX9_highFor_43 : decode cX9_highFor 43 = .ok (.aload_n 0, 1) := by decide +kernel
theorem dX9_highFor_44 : decode cX9_highFor 44 = .ok (.iload 4, 2) := by decide +kernel
theorem dX9_highFor_46 : decode cX9_highFor 46 = .ok (.iload_n 3, 1) := by decide +kernel
theorem dX9_highFor_47 : decode cX9_highFor 47 = .ok (.invokevirtual 188, 3) := by decide +kernel
theorem dX9_highFor_50 : decode cX9_highFor 50 = .ok (.iconst (-1), 1) := by decide +kernel
theorem dX9_highFor_51 : decode cX9_highFor 51 = .ok (.ixor, 1) := by decide +kernel
theorem dX9_highFor_52 : decode cX9_highFor 52 = .ok (.iand, 1) := by decide +kernel
theorem dX9_highFor_53 : decode cX9_highFor 53 = .ok (.ifCond .ne 14, 3) := by decide +kernel
theorem dX9_highFor_56 : decode cX9_highFor 56 = .ok (.iload_n 2, 1) := by decide +kernel
theorem dX9_highFor_57 : decode cX9_highFor 57 = .ok (.ifCond .eq 8, 3) := by decide +kernel
theorem dX9_highFor_60 : decode cX9_highFor 60 = .ok (.iload 4, 2) := by decide +kernel
theorem dX9_highFor_62 : decode cX9_highFor 62 = .ok (.goto 4, 3) := by decide +kernel
theorem dX9_highFor_65 : decode cX9_highFor 65 = .ok (.iload_n 3, 1) := by decide +kernel
theorem dX9_highFor_66 : decode cX9_highFor 66 = .ok (.ireturn, 1) := by decide +kernel
theorem dX9_highFor_67 : decode cX9_highFor 67 = .ok (.iinc 4 1, 3) := by decide +kernel
theorem dX9_highFor_70 : decode cX9_highFor 70 = .ok (.goto (-39), 3) := by decide +kernel
theorem dX9_highFor_73 : decode cX9_highFor 73 = .ok (.iinc 3 1, 3) := by decide +kernel
theorem dX9_highFor_76 : decode cX9_highFor 76 = .ok (.goto (-54), 3) := by decide +kernel
theorem dX9_highFor_79 : decode cX9_highFor 79 = .ok (.iconst (-1), 1) := by decide +kernel
theorem dX9_highFor_80 : decode cX9_highFor 80 = .ok (.ireturn, 1) := by decide +kernel
theorem dX9_height_0 : decode cX9_height 0 = .ok (.aload_n 0, 1) := by decide +kernel
theorem dX9_height_1 : decode cX9_height 1 = .ok (.iconst 0, 1) := by decide +kernel
theorem dX9_height_2 : decode cX9_height 2 = .ok (.putfield 1, 3) := by decide +kernel
