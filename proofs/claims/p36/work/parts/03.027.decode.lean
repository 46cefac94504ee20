theorem dX9_readLine_74 : decode cX9_readLine 74 = .ok (.bipush 11, 2) := by decide +kernel
theorem dX9_readLine_76 : decode cX9_readLine 76 = .ok (.invokevirtual 132, 3) := by decide +kernel
theorem dX9_readLine_79 : decode cX9_readLine 79 = .ok (.ifCond .eq 20, 3) := by decide +kernel
theorem dX9_readLine_82 : decode cX9_readLine 82 = .ok (.aload_n 0, 1) := by decide +kernel
theorem dX9_readLine_83 : decode cX9_readLine 83 = .ok (.getfield 24, 3) := by decide +kernel
theorem dX9_readLine_86 : decode cX9_readLine 86 = .ok (.bipush 7, 2) := by decide +kernel
theorem dX9_readLine_88 : decode cX9_readLine 88 = .ok (.aload_n 0, 1) := by decide +kernel
theorem dX9_readLine_89 : decode cX9_readLine 89 = .ok (.iconst 0, 1) := by decide +kernel
theorem dX9_readLine_90 : decode cX9_readLine 90 = .ok (.bipush 100, 2) := by decide +kernel
theorem dX9_readLine_92 : decode cX9_readLine 92 = .ok (.invokevirtual 135, 3) := by decide +kernel
theorem dX9_readLine_95 : decode cX9_readLine 95 = .ok (.iastore, 1) := by decide +kernel
theorem dX9_readLine_96 : decode cX9_readLine 96 = .ok (.goto 40, 3) := by decide +kernel
theorem dX9_readLine_99 : decode cX9_readLine 99 = .ok (.aload_n 0, 1) := by decide +kernel
theorem dX9_readLine_100 : decode cX9_readLine 100 = .ok (.bipush 12, 2) := by decide +kernel
theorem dX9_readLine_102 : decode cX9_readLine 102 = .ok (.invokevirtual 132, 3) := by decide +kernel
theorem dX9_readLine_105 : decode cX9_readLine 105 = .ok (.ifCond .eq 26, 3) := by decide +kernel
theorem dX9_readLine_108 : decode cX9_readLine 108 = .ok (.aload_n 0, 1) := by decide +kernel
theorem dX9_readLine_109 : decode cX9_readLine 109 = .ok (.getfield 24, 3) := by decide +kernel
theorem dX9_readLine_112 : decode cX9_readLine 112 = .ok (.bipush 8, 2) := by decide +kernel
theorem dX9_readLine_114 : decode cX9_readLine 114 = .ok (.aload_n 0, 1) := by decide +kernel
theorem dX9_readLine_115 : decode cX9_readLine 115 = .ok (.iconst 0, 1) := by decide +kernel
theorem dX9_readLine_116 : decode cX9_readLine 116 = .ok (.aload_n 0, 1) := by decide +kernel
theorem dX9_readLine_117 : decode cX9_readLine 117 = .ok (.getfield 24, 3) := by decide +kernel
theorem dX9_readLine_120 : decode cX9_readLine 120 = .ok (.iconst 0, 1) := by decide +kernel
theorem dX9_readLine_121 : decode cX9_readLine 121 = .ok (.iaload, 1) := by decide +kernel
theorem dX9_readLine_122 : decode cX9_readLine 122 = .ok (.iconst 1, 1) := by decide +kernel
theorem dX9_readLine_123 : decode cX9_readLine 123 = .ok (.isub, 1) := by decide +kernel
theorem dX9_readLine_124 : decode cX9_readLine 124 = .ok (.invokevirtual 135, 3) := by decide +kernel
theorem dX9_readLine_127 : decode cX9_readLine 127 = .ok (.iastore, 1) := by decide +kernel
theorem dX9_readLine_128 : decode cX9_readLine 128 = .ok (.goto 8, 3) := by decide +kernel
theorem dX9_readLine_131 : decode cX9_readLine 131 = .ok (.aload_n 0, 1) := by decide +kernel
theorem dX9_readLine_132 : decode cX9_readLine 132 = .ok (.iconst 2, 1) := by decide +kernel
theorem dX9_readLine_133 : decode cX9_readLine 133 = .ok (.invokevirtual 124, 3) := by decide +kernel
theorem dX9_readLine_136 : decode cX9_readLine 136 = .ok (.aload_n 0, 1) := by decide +kernel
theorem dX9_readLine_137 : decode cX9_readLine 137 = .ok (.bipush 15, 2) := by decide +kernel
theorem dX9_readLine_139 : decode cX9_readLine 139 = .ok (.invokevirtual 132, 3) := by decide +kernel
theorem dX9_readLine_142 : decode cX9_readLine 142 = .ok (.ifCond .ne 8, 3) := by decide +kernel
theorem dX9_readLine_145 : decode cX9_readLine 145 = .ok (.aload_n 0, 1) := by decide +kernel
theorem dX9_readLine_146 : decode cX9_readLine 146 = .ok (.iconst 2, 1) := by decide +kernel
theorem dX9_readLine_147 : decode cX9_readLine 147 = .ok (.invokevirtual 124, 3) := by decide +kernel
theorem dX9_readLine_150 : decode cX9_readLine 150 = .ok (.aload_n 0, 1) := by decide +kernel
theorem dX9_readLine_151 : decode cX9_readLine 151 = .ok (.getfield 24, 3) := by decide +kernel
theorem dX9_readLine_154 : decode cX9_readLine 154 = .ok (.bipush 9, 2) := by decide +kernel
theorem dX9_readLine_156 : decode cX9_readLine 156 = .ok (.dup2, 1) := by decide +kernel
theorem dX9_readLine_157 : decode cX9_readLine 157 = .ok (.iaload, 1) := by decide +kernel
theorem dX9_readLine_158 : decode cX9_readLine 158 = .ok (.iconst 1, 1) := by decide +kernel
theorem dX9_readLine_159 : decode cX9_readLine 159 = .ok (.iadd, 1) := by decide +kernel
theorem dX9_readLine_160 : decode cX9_readLine 160 = .ok (.iastore, 1) := by decide +kernel
theorem dX9_readLine_161 : decode cX9_readLine 161 = .ok (.return_, 1) := by decide +kernel
theorem dX9_plain_0 : decode cX9_plain 0 = .ok (.aload_n 0, 1) := by decide +kernel
theorem dX9_plain_1 : decode cX9_plain 1 = .ok (.iconst 0, 1) := by decide +kernel
theorem dX9_plain_2 : decode cX9_plain 2 = .ok (.putfield 1, 3) := by decide +kernel
theorem dX9_plain_5 : decode cX9_plain 5 = .ok (.iload_n 1, 1) := by decide +kernel
theorem dX9_plain_6 : decode cX9_plain 6 = .ok (.i2l, 1) := by decide +kernel
theorem dX9_plain_7 : decode cX9_plain 7 = .ok (.lconst 0, 1) := by decide +kernel
theorem dX9_plain_8 : decode cX9_plain 8 = .ok (.aload_n 0, 1) := by decide +kernel
theorem dX9_plain_9 : decode cX9_plain 9 = .ok (.getfield 68, 3) := by decide +kernel
theorem dX9_plain_12 : decode cX9_plain 12 = .ok (.i2l, 1) := by decide +kernel
theorem dX9_plain_13 : decode cX9_plain 13 = .ok (.invokestatic 128, 3) := by decide +kernel
theorem dX9_plain_16 : decode cX9_plain 16 = .ok (.ifCond .ne 6, 3) := by decide +kernel
theorem dX9_plain_19 : decode cX9_plain 19 = .ok (.bipush (-3), 2) := by decide +kernel
theorem dX9_plain_21 : decode cX9_plain 21 = .ok (.ireturn, 1) := by decide +kernel
theorem dX9_plain_22 : decode cX9_plain 22 = .ok (.aload_n 0, 1) := by decide +kernel
theorem dX9_plain_23 : decode cX9_plain 23 = .ok (.iload_n 1, 1) := by decide +kernel
theorem dX9_plain_24 : decode cX9_plain 24 = .ok (.putfield 71, 3) := by decide +kernel
theorem dX9_plain_27 : decode cX9_plain 27 = .ok (.aload_n 0, 1) := by decide +kernel
theorem dX9_plain_28 : decode cX9_plain 28 = .ok (.iconst 0, 1) := by decide +kernel
theorem dX9_plain_29 : decode cX9_plain 29 = .ok (.putfield 68, 3) := by decide +kernel
theorem dX9_plain_32 : decode cX9_plain 32 = .ok (.aload_n 0, 1) := by decide +kernel
theorem dX9_plain_33 : decode cX9_plain 33 = .ok (.iconst 0, 1) := by decide +kernel
theorem dX9_plain_34 : decode cX9_plain 34 = .ok (.putfield 89, 3) := by decide +kernel
theorem dX9_plain_37 : decode cX9_plain 37 = .ok (.aload_n 0, 1) := by decide +kernel
theorem dX9_plain_38 : decode cX9_plain 38 = .ok (.iconst 0, 1) := by decide +kernel
theorem dX9_plain_39 : decode cX9_plain 39 = .ok (.putfield 112, 3) := by decide +kernel
theorem dX9_plain_42 : decode cX9_plain 42 = .ok (.aload_n 0, 1) := by decide +kernel
theorem dX9_plain_43 : decode cX9_plain 43 = .ok (.getfield 24, 3) := by decide +kernel
theorem dX9_plain_46 : decode cX9_plain 46 = .ok (.invokestatic 61, 3) := by decide +kernel
theorem dX9_plain_49 : decode cX9_plain 49 = .ok (.aload_n 0, 1) := by decide +kernel
theorem dX9_plain_50 : decode cX9_plain 50 = .ok (.invokevirtual 121, 3) := by decide +kernel
theorem dX9_plain_53 : decode cX9_plain 53 = .ok (.aload_n 0, 1) := by decide +kernel
theorem dX9_plain_54 : decode cX9_plain 54 = .ok (.getfield 112, 3) := by decide +kernel
theorem dX9_plain_57 : decode cX9_plain 57 = .ok (.ifCond .ne 19, 3) := by decide +kernel
theorem dX9_plain_60 : decode cX9_plain 60 = .ok (.aload_n 0, 1) := by decide +kernel
theorem dX9_plain_61 : decode cX9_plain 61 = .ok (.getfield 96, 3) := by decide +kernel
theorem dX9_plain_64 : decode cX9_plain 64 = .ok (.bipush 16, 2) := by decide +kernel
theorem dX9_plain_66 : decode cX9_plain 66 = .ok (.if_icmp .eq 10, 3) := by decide +kernel
theorem dX9_plain_69 : decode cX9_plain 69 = .ok (.aload_n 0, 1) := by decide +kernel
theorem dX9_plain_70 : decode cX9_plain 70 = .ok (.invokevirtual 152, 3) := by decide +kernel
theorem dX9_plain_73 : decode cX9_plain 73 = .ok (.goto (-20), 3) := by decide +kernel
theorem dX9_plain_76 : decode cX9_plain 76 = .ok (.aload_n 0, 1) := by decide +kernel
theorem dX9_plain_77 : decode cX9_plain 77 = .ok (.aload_n 0, 1) := by decide +kernel
theorem dX9_plain_78 : decode cX9_plain 78 = .ok (.getfield 112, 3) := by decide +kernel
theorem dX9_plain_81 : decode cX9_plain 81 = .ok (.putfield 155, 3) := by decide +kernel
theorem dX9_plain_84 : decode cX9_plain 84 = .ok (.aload_n 0, 1) := by decide +kernel
theorem dX9_plain_85 : decode cX9_plain 85 = .ok (.aload_n 0, 1) := by decide +kernel
theorem dX9_plain_86 : decode cX9_plain 86 = .ok (.getfield 112, 3) := by decide +kernel
theorem dX9_plain_89 : decode cX9_plain 89 = .ok (.ifCond .ne 7, 3) := by decide +kernel
theorem dX9_plain_92 : decode cX9_plain 92 = .ok (.iconst (-1), 1) := by decide +kernel
theorem dX9_plain_93 : decode cX9_plain 93 = .ok (.goto 7, 3) := by decide +kernel
theorem dX9_plain_96 : decode cX9_plain 96 = .ok (.aload_n 0, 1) := by decide +kernel
theorem dX9_plain_97 : decode cX9_plain 97 = .ok (.getfield 115, 3) := by decide +kernel
theorem dX9_plain_100 : decode cX9_plain 100 = .ok (.putfield 27, 3) := by decide +kernel
theorem dX9_plain_103 : decode cX9_plain 103 = .ok (.aload_n 0, 1) := by decide +kernel
theorem dX9_plain_104 : decode cX9_plain 104 = .ok (.getfield 112, 3) := by decide +kernel
theorem dX9_plain_107 : decode cX9_plain 107 = .ok (.ifCond .eq 11, 3) := by decide +kernel
theorem dX9_plain_110 : decode cX9_plain 110 = .ok (.bipush (-30), 2) := by decide +kernel
theorem dX9_plain_112 : decode cX9_plain 112 = .ok (.aload_n 0, 1) := by decide +kernel
theorem dX9_plain_113 : decode cX9_plain 113 = .ok (.getfield 112, 3) := by decide +kernel
theorem dX9_plain_116 : decode cX9_plain 116 = .ok (.isub, 1) := by decide +kernel
theorem dX9_plain_117 : decode cX9_plain 117 = .ok (.ireturn, 1) := by decide +kernel
theorem dX9_plain_118 : decode cX9_plain 118 = .ok (.iconst 0, 1) := by decide +kernel
theorem dX9_plain_119 : decode cX9_plain 119 = .ok (.istore_n 2, 1) := by decide +kernel
theorem dX9_plain_120 : decode cX9_plain 120 = .ok (.iload_n 2, 1) := by decide +kernel
theorem dX9_plain_121 : decode cX9_plain 121 = .ok (.bipush 96, 2) := by decide +kernel
theorem dX9_plain_123 : decode cX9_plain 123 = .ok (.if_icmp .ge 21, 3) := by decide +kernel
theorem dX9_plain_126 : decode cX9_plain 126 = .ok (.aload_n 0, 1) := by decide +kernel
theorem dX9_plain_127 : decode cX9_plain 127 = .ok (.getfield 13, 3) := by decide +kernel
theorem dX9_plain_130 : decode cX9_plain 130 = .ok (.iload_n 2, 1) := by decide +kernel
theorem dX9_plain_131 : decode cX9_plain 131 = .ok (.aload_n 0, 1) := by decide +kernel
theorem dX9_plain_132 : decode cX9_plain 132 = .ok (.getfield 24, 3) := by decide +kernel
theorem dX9_plain_135 : decode cX9_plain 135 = .ok (.iload_n 2, 1) := by decide +kernel
theorem dX9_plain_136 : decode cX9_plain 136 = .ok (.iaload, 1) := by decide +kernel
theorem dX9_plain_137 : decode cX9_plain 137 = .ok (.iastore, 1) := by decide +kernel
theorem dX9_plain_138 : decode cX9_plain 138 = .ok (.iinc 2 1, 3) := by decide +kernel
theorem dX9_plain_141 : decode cX9_plain 141 = .ok (.goto (-21), 3) := by decide +kernel
theorem dX9_plain_144 : decode cX9_plain 144 = .ok (.aload_n 0, 1) := by decide +kernel
theorem dX9_plain_145 : decode cX9_plain 145 = .ok (.getfield 13, 3) := by decide +kernel
theorem dX9_plain_148 : decode cX9_plain 148 = .ok (.bipush 9, 2) := by decide +kernel
theorem dX9_plain_150 : decode cX9_plain 150 = .ok (.iaload, 1) := by decide +kernel
theorem dX9_plain_151 : decode cX9_plain 151 = .ok (.ireturn, 1) := by decide +kernel
theorem dX9_fault_0 : decode cX9_fault 0 = .ok (.aload_n 0, 1) := by decide +kernel
theorem dX9_fault_1 : decode cX9_fault 1 = .ok (.iconst 0, 1) := by decide +kernel
theorem dX9_fault_2 : decode cX9_fault 2 = .ok (.putfield 1, 3) := by decide +kernel
theorem dX9_fault_5 : decode cX9_fault 5 = .ok (.iload_n 1, 1) := by decide +kernel
theorem dX9_fault_6 : decode cX9_fault 6 = .ok (.ifCond .ne 10, 3) := by decide +kernel
theorem dX9_fault_9 : decode cX9_fault 9 = .ok (.aload_n 0, 1) := by decide +kernel
theorem dX9_fault_10 : decode cX9_fault 10 = .ok (.getfield 155, 3) := by decide +kernel
theorem dX9_fault_13 : decode cX9_fault 13 = .ok (.goto 16, 3) := by decide +kernel
theorem dX9_fault_16 : decode cX9_fault 16 = .ok (.iload_n 1, 1) := by decide +kernel
theorem dX9_fault_17 : decode cX9_fault 17 = .ok (.iconst 1, 1) := by decide +kernel
theorem dX9_fault_18 : decode cX9_fault 18 = .ok (.if_icmp .ne 10, 3) := by decide +kernel
theorem dX9_fault_21 : decode cX9_fault 21 = .ok (.aload_n 0, 1) := by decide +kernel
theorem dX9_fault_22 : decode cX9_fault 22 = .ok (.getfield 27, 3) := by decide +kernel
theorem dX9_fault_25 : decode cX9_fault 25 = .ok (.goto 4, 3) := by decide +kernel
theorem dX9_fault_28 : decode cX9_fault 28 = .ok (.iconst (-1), 1) := by decide +kernel
theorem dX9_fault_29 : decode cX9_fault 29 = .ok (.ireturn, 1) := by decide +kernel
theorem dX9_isStrip_0 : decode cX9_isStrip 0 = .ok (.iload_n 1, 1) := by decide +kernel
theorem dX9_isStrip_1 : decode cX9_isStrip 1 = .ok (.i2l, 1) := by decide +kernel
theorem dX9_isStrip_2 : decode cX9_isStrip 2 = .ok (.lconst 0, 1) := by decide +kernel
theorem dX9_isStrip_3 : decode cX9_isStrip 3 = .ok (.aload_n 0, 1) := by decide +kernel
theorem dX9_isStrip_4 : decode cX9_isStrip 4 = .ok (.getfield 13, 3) := by decide +kernel
theorem dX9_isStrip_7 : decode cX9_isStrip 7 = .ok (.iconst 0, 1) := by decide +kernel
theorem dX9_isStrip_8 : decode cX9_isStrip 8 = .ok (.iaload, 1) := by decide +kernel
theorem dX9_isStrip_9 : decode cX9_isStrip 9 = .ok (.iconst 1, 1) := by decide +kernel
theorem dX9_isStrip_10 : decode cX9_isStrip 10 = .ok (.isub, 1) := by decide +kernel
theorem dX9_isStrip_11 : decode cX9_isStrip 11 = .ok (.i2l, 1) := by decide +kernel
theorem dX9_isStrip_12 : decode cX9_isStrip 12 = .ok (.invokestatic 128, 3) := by decide +kernel
theorem dX9_isStrip_15 : decode cX9_isStrip 15 = .ok (.ireturn, 1) := by decide +kernel
theorem dX9_off_0 : decode cX9_off 0 = .ok (.iload_n 0, 1) := by decide +kernel
theorem dX9_off_1 : decode cX9_off 1 = .ok (.iload_n 1, 1) := by decide +kernel
theorem dX9_off_2 : decode cX9_off 2 = .ok (.if_icmp .le 9, 3) := by decide +kernel
theorem dX9_off_5 : decode cX9_off 5 = .ok (.iload_n 0, 1) := by decide +kernel
theorem dX9_off_6 : decode cX9_off 6 = .ok (.iload_n 1, 1) := by decide +kernel
theorem dX9_off_7 : decode cX9_off 7 = .ok (.isub, 1) := by decide +kernel
theorem dX9_off_8 : decode cX9_off 8 = .ok (.goto 6, 3) := by decide +kernel
theorem dX9_off_11 : decode cX9_off 11 = .ok (.iload_n 1, 1) := by decide +kernel
theorem dX9_off_12 : decode cX9_off 12 = .ok (.iload_n 0, 1) := by decide +kernel
theorem dX9_off_13 : decode cX9_off 13 = .ok (.isub, 1) := by decide +kernel
theorem dX9_off_14 : decode cX9_off 14 = .ok (.ireturn, 1) := by decide +kernel
theorem dX9_nearness_0 : decode cX9_nearness 0 = .ok (.aload_n 0, 1) := by decide +kernel
theorem dX9_nearness_1 : decode cX9_nearness 1 = .ok (.getfield 13, 3) := by decide +kernel
theorem dX9_nearness_4 : decode cX9_nearness 4 = .ok (.iconst 4, 1) := by decide +kernel
theorem dX9_nearness_5 : decode cX9_nearness 5 = .ok (.iaload, 1) := by decide +kernel
theorem dX9_nearness_6 : decode cX9_nearness 6 = .ok (.aload_n 0, 1) := by decide +kernel
theorem dX9_nearness_7 : decode cX9_nearness 7 = .ok (.getfield 13, 3) := by decide +kernel
theorem dX9_nearness_10 : decode cX9_nearness 10 = .ok (.iconst 5, 1) := by decide +kernel
theorem dX9_nearness_11 : decode cX9_nearness 11 = .ok (.iaload, 1) := by decide +kernel
theorem dX9_nearness_12 : decode cX9_nearness 12 = .ok (.iload_n 1, 1) := by decide +kernel
theorem dX9_nearness_13 : decode cX9_nearness 13 = .ok (.iload_n 2, 1) := by decide +kernel
theorem dX9_nearness_14 : decode cX9_nearness 14 = .ok (.invokestatic 158, 3) := by decide +kernel
theorem dX9_nearness_17 : decode cX9_nearness 17 = .ok (.imul, 1) := by decide +kernel
theorem dX9_nearness_18 : decode cX9_nearness 18 = .ok (.isub, 1) := by decide +kernel
theorem dX9_nearness_19 : decode cX9_nearness 19 = .ok (.istore_n 3, 1) := by decide +kernel
theorem dX9_nearness_20 : decode cX9_nearness 20 = .ok (.iload_n 3, 1) := by decide +kernel
theorem dX9_nearness_21 : decode cX9_nearness 21 = .ok (.ifCond .ge 7, 3) := by decide +kernel
theorem dX9_nearness_24 : decode cX9_nearness 24 = .ok (.iconst 0, 1) := by decide +kernel
theorem dX9_nearness_25 : decode cX9_nearness 25 = .ok (.goto 4, 3) := by decide +kernel
theorem dX9_nearness_28 : decode cX9_nearness 28 = .ok (.iload_n 3, 1) := by decide +kernel
theorem dX9_nearness_29 : decode cX9_nearness 29 = .ok (.ireturn, 1) := by decide +kernel
theorem dX9_isShaded_0 : decode cX9_isShaded 0 = .ok (.iload_n 1, 1) := by decide +kernel
theorem dX9_isShaded_1 : decode cX9_isShaded 1 = .ok (.iload_n 2, 1) := by decide +kernel
theorem dX9_isShaded_2 : decode cX9_isShaded 2 = .ok (.if_icmp .ge 7, 3) := by decide +kernel
theorem dX9_isShaded_5 : decode cX9_isShaded 5 = .ok (.iload_n 1, 1) := by decide +kernel
theorem dX9_isShaded_6 : decode cX9_isShaded 6 = .ok (.goto 4, 3) := by decide +kernel
theorem dX9_isShaded_9 : decode cX9_isShaded 9 = .ok (.iload_n 2, 1) := by decide +kernel
theorem dX9_isShaded_10 : decode cX9_isShaded 10 = .ok (.istore 4, 2) := by decide +kernel
theorem dX9_isShaded_12 : decode cX9_isShaded 12 = .ok (.iload_n 1, 1) := by decide +kernel
theorem dX9_isShaded_13 : decode cX9_isShaded 13 = .ok (.iload_n 2, 1) := by decide +kernel
theorem dX9_isShaded_14 : decode cX9_isShaded 14 = .ok (.if_icmp .ge 7, 3) := by decide +kernel
theorem dX9_isShaded_17 : decode cX9_isShaded 17 = .ok (.iload_n 2, 1) := by decide +kernel
