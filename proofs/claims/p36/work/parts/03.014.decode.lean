theorem dX8_init_10 : decode cX8_init 10 = .ok (.putfield 9, 3) := by decide +kernel
theorem dX8_init_13 : decode cX8_init 13 = .ok (.aload_n 0, 1) := by decide +kernel
theorem dX8_init_14 : decode cX8_init 14 = .ok (.iconst 0, 1) := by decide +kernel
theorem dX8_init_15 : decode cX8_init 15 = .ok (.putfield 13, 3) := by decide +kernel
theorem dX8_init_18 : decode cX8_init 18 = .ok (.aload_n 0, 1) := by decide +kernel
theorem dX8_init_19 : decode cX8_init 19 = .ok (.new 17, 3) := by decide +kernel
theorem dX8_init_22 : decode cX8_init 22 = .ok (.dup, 1) := by decide +kernel
theorem dX8_init_23 : decode cX8_init 23 = .ok (.invokespecial 19, 3) := by decide +kernel
theorem dX8_init_26 : decode cX8_init 26 = .ok (.putfield 20, 3) := by decide +kernel
theorem dX8_init_29 : decode cX8_init 29 = .ok (.aload_n 0, 1) := by decide +kernel
theorem dX8_init_30 : decode cX8_init 30 = .ok (.new 24, 3) := by decide +kernel
theorem dX8_init_33 : decode cX8_init 33 = .ok (.dup, 1) := by decide +kernel
theorem dX8_init_34 : decode cX8_init 34 = .ok (.invokespecial 26, 3) := by decide +kernel
theorem dX8_init_37 : decode cX8_init 37 = .ok (.putfield 27, 3) := by decide +kernel
theorem dX8_init_40 : decode cX8_init 40 = .ok (.aload_n 0, 1) := by decide +kernel
theorem dX8_init_41 : decode cX8_init 41 = .ok (.new 24, 3) := by decide +kernel
theorem dX8_init_44 : decode cX8_init 44 = .ok (.dup, 1) := by decide +kernel
theorem dX8_init_45 : decode cX8_init 45 = .ok (.invokespecial 26, 3) := by decide +kernel
theorem dX8_init_48 : decode cX8_init 48 = .ok (.putfield 31, 3) := by decide +kernel
theorem dX8_init_51 : decode cX8_init 51 = .ok (.aload_n 0, 1) := by decide +kernel
theorem dX8_init_52 : decode cX8_init 52 = .ok (.iconst 2, 1) := by decide +kernel
theorem dX8_init_53 : decode cX8_init 53 = .ok (.anewarray 24, 3) := by decide +kernel
theorem dX8_init_56 : decode cX8_init 56 = .ok (.putfield 34, 3) := by decide +kernel
theorem dX8_init_59 : decode cX8_init 59 = .ok (.aload_n 0, 1) := by decide +kernel
theorem dX8_init_60 : decode cX8_init 60 = .ok (.iconst 2, 1) := by decide +kernel
theorem dX8_init_61 : decode cX8_init 61 = .ok (.newarray .boolean, 2) := by decide +kernel
theorem dX8_init_63 : decode cX8_init 63 = .ok (.putfield 38, 3) := by decide +kernel
theorem dX8_init_66 : decode cX8_init 66 = .ok (.aload_n 0, 1) := by decide +kernel
theorem dX8_init_67 : decode cX8_init 67 = .ok (.iconst 4, 1) := by decide +kernel
theorem dX8_init_68 : decode cX8_init 68 = .ok (.anewarray 42, 3) := by decide +kernel
theorem dX8_init_71 : decode cX8_init 71 = .ok (.putfield 44, 3) := by decide +kernel
theorem dX8_init_74 : decode cX8_init 74 = .ok (.aload_n 0, 1) := by decide +kernel
theorem dX8_init_75 : decode cX8_init 75 = .ok (.new 48, 3) := by decide +kernel
theorem dX8_init_78 : decode cX8_init 78 = .ok (.dup, 1) := by decide +kernel
theorem dX8_init_79 : decode cX8_init 79 = .ok (.invokespecial 50, 3) := by decide +kernel
theorem dX8_init_82 : decode cX8_init 82 = .ok (.putfield 51, 3) := by decide +kernel
theorem dX8_init_85 : decode cX8_init 85 = .ok (.aload_n 0, 1) := by decide +kernel
theorem dX8_init_86 : decode cX8_init 86 = .ok (.new 55, 3) := by decide +kernel
theorem dX8_init_89 : decode cX8_init 89 = .ok (.dup, 1) := by decide +kernel
theorem dX8_init_90 : decode cX8_init 90 = .ok (.invokespecial 57, 3) := by decide +kernel
theorem dX8_init_93 : decode cX8_init 93 = .ok (.putfield 58, 3) := by decide +kernel
theorem dX8_init_96 : decode cX8_init 96 = .ok (.aload_n 0, 1) := by decide +kernel
theorem dX8_init_97 : decode cX8_init 97 = .ok (.new 62, 3) := by decide +kernel
theorem dX8_init_100 : decode cX8_init 100 = .ok (.dup, 1) := by decide +kernel
theorem dX8_init_101 : decode cX8_init 101 = .ok (.invokespecial 64, 3) := by decide +kernel
theorem dX8_init_104 : decode cX8_init 104 = .ok (.putfield 65, 3) := by decide +kernel
theorem dX8_init_107 : decode cX8_init 107 = .ok (.aload_n 0, 1) := by decide +kernel
theorem dX8_init_108 : decode cX8_init 108 = .ok (.new 69, 3) := by decide +kernel
theorem dX8_init_111 : decode cX8_init 111 = .ok (.dup, 1) := by decide +kernel
theorem dX8_init_112 : decode cX8_init 112 = .ok (.invokespecial 71, 3) := by decide +kernel
theorem dX8_init_115 : decode cX8_init 115 = .ok (.putfield 72, 3) := by decide +kernel
theorem dX8_init_118 : decode cX8_init 118 = .ok (.aload_n 0, 1) := by decide +kernel
theorem dX8_init_119 : decode cX8_init 119 = .ok (.new 76, 3) := by decide +kernel
theorem dX8_init_122 : decode cX8_init 122 = .ok (.dup, 1) := by decide +kernel
theorem dX8_init_123 : decode cX8_init 123 = .ok (.invokespecial 78, 3) := by decide +kernel
theorem dX8_init_126 : decode cX8_init 126 = .ok (.putfield 79, 3) := by decide +kernel
theorem dX8_init_129 : decode cX8_init 129 = .ok (.iconst 0, 1) := by decide +kernel
theorem dX8_init_130 : decode cX8_init 130 = .ok (.istore_n 1, 1) := by decide +kernel
theorem dX8_init_131 : decode cX8_init 131 = .ok (.iload_n 1, 1) := by decide +kernel
theorem dX8_init_132 : decode cX8_init 132 = .ok (.iconst 2, 1) := by decide +kernel
theorem dX8_init_133 : decode cX8_init 133 = .ok (.if_icmp .ge 22, 3) := by decide +kernel
theorem dX8_init_136 : decode cX8_init 136 = .ok (.aload_n 0, 1) := by decide +kernel
theorem dX8_init_137 : decode cX8_init 137 = .ok (.getfield 34, 3) := by decide +kernel
theorem dX8_init_140 : decode cX8_init 140 = .ok (.iload_n 1, 1) := by decide +kernel
theorem dX8_init_141 : decode cX8_init 141 = .ok (.new 24, 3) := by decide +kernel
theorem dX8_init_144 : decode cX8_init 144 = .ok (.dup, 1) := by decide +kernel
theorem dX8_init_145 : decode cX8_init 145 = .ok (.invokespecial 26, 3) := by decide +kernel
theorem dX8_init_148 : decode cX8_init 148 = .ok (.aastore, 1) := by decide +kernel
theorem dX8_init_149 : decode cX8_init 149 = .ok (.iinc 1 1, 3) := by decide +kernel
theorem dX8_init_152 : decode cX8_init 152 = .ok (.goto (-21), 3) := by decide +kernel
theorem dX8_init_155 : decode cX8_init 155 = .ok (.iconst 0, 1) := by decide +kernel
theorem dX8_init_156 : decode cX8_init 156 = .ok (.istore_n 1, 1) := by decide +kernel
theorem dX8_init_157 : decode cX8_init 157 = .ok (.iload_n 1, 1) := by decide +kernel
theorem dX8_init_158 : decode cX8_init 158 = .ok (.iconst 4, 1) := by decide +kernel
theorem dX8_init_159 : decode cX8_init 159 = .ok (.if_icmp .ge 22, 3) := by decide +kernel
theorem dX8_init_162 : decode cX8_init 162 = .ok (.aload_n 0, 1) := by decide +kernel
theorem dX8_init_163 : decode cX8_init 163 = .ok (.getfield 44, 3) := by decide +kernel
theorem dX8_init_166 : decode cX8_init 166 = .ok (.iload_n 1, 1) := by decide +kernel
theorem dX8_init_167 : decode cX8_init 167 = .ok (.new 42, 3) := by decide +kernel
theorem dX8_init_170 : decode cX8_init 170 = .ok (.dup, 1) := by decide +kernel
theorem dX8_init_171 : decode cX8_init 171 = .ok (.invokespecial 83, 3) := by decide +kernel
theorem dX8_init_174 : decode cX8_init 174 = .ok (.aastore, 1) := by decide +kernel
theorem dX8_init_175 : decode cX8_init 175 = .ok (.iinc 1 1, 3) := by decide +kernel
theorem dX8_init_178 : decode cX8_init 178 = .ok (.goto (-21), 3) := by decide +kernel
theorem dX8_init_181 : decode cX8_init 181 = .ok (.return_, 1) := by decide +kernel
theorem dX8_feed_0 : decode cX8_feed 0 = .ok (.aload_n 0, 1) := by decide +kernel
theorem dX8_feed_1 : decode cX8_feed 1 = .ok (.getfield 13, 3) := by decide +kernel
theorem dX8_feed_4 : decode cX8_feed 4 = .ok (.bipush 20, 2) := by decide +kernel
theorem dX8_feed_6 : decode cX8_feed 6 = .ok (.iadd, 1) := by decide +kernel
theorem dX8_feed_7 : decode cX8_feed 7 = .ok (.sipush 900, 3) := by decide +kernel
theorem dX8_feed_10 : decode cX8_feed 10 = .ok (.if_icmp .le 6, 3) := by decide +kernel
theorem dX8_feed_13 : decode cX8_feed 13 = .ok (.bipush (-5), 2) := by decide +kernel
theorem dX8_feed_15 : decode cX8_feed 15 = .ok (.ireturn, 1) := by decide +kernel
theorem dX8_feed_16 : decode cX8_feed 16 = .ok (.aload_n 0, 1) := by decide +kernel
theorem dX8_feed_17 : decode cX8_feed 17 = .ok (.iload_n 1, 1) := by decide +kernel
theorem dX8_feed_18 : decode cX8_feed 18 = .ok (.invokevirtual 84, 3) := by decide +kernel
theorem dX8_feed_21 : decode cX8_feed 21 = .ok (.aload_n 0, 1) := by decide +kernel
theorem dX8_feed_22 : decode cX8_feed 22 = .ok (.iload_n 2, 1) := by decide +kernel
theorem dX8_feed_23 : decode cX8_feed 23 = .ok (.invokevirtual 84, 3) := by decide +kernel
theorem dX8_feed_26 : decode cX8_feed 26 = .ok (.aload_n 0, 1) := by decide +kernel
theorem dX8_feed_27 : decode cX8_feed 27 = .ok (.iload_n 3, 1) := by decide +kernel
theorem dX8_feed_28 : decode cX8_feed 28 = .ok (.invokevirtual 84, 3) := by decide +kernel
theorem dX8_feed_31 : decode cX8_feed 31 = .ok (.aload_n 0, 1) := by decide +kernel
theorem dX8_feed_32 : decode cX8_feed 32 = .ok (.iload 4, 2) := by decide +kernel
theorem dX8_feed_34 : decode cX8_feed 34 = .ok (.invokevirtual 84, 3) := by decide +kernel
theorem dX8_feed_37 : decode cX8_feed 37 = .ok (.aload_n 0, 1) := by decide +kernel
theorem dX8_feed_38 : decode cX8_feed 38 = .ok (.iload 5, 2) := by decide +kernel
theorem dX8_feed_40 : decode cX8_feed 40 = .ok (.invokevirtual 84, 3) := by decide +kernel
theorem dX8_feed_43 : decode cX8_feed 43 = .ok (.aload_n 0, 1) := by decide +kernel
theorem dX8_feed_44 : decode cX8_feed 44 = .ok (.getfield 13, 3) := by decide +kernel
theorem dX8_feed_47 : decode cX8_feed 47 = .ok (.ireturn, 1) := by decide +kernel
theorem dX8_plain_0 : decode cX8_plain 0 = .ok (.iload_n 1, 1) := by decide +kernel
theorem dX8_plain_1 : decode cX8_plain 1 = .ok (.ifCond .lt 11, 3) := by decide +kernel
theorem dX8_plain_4 : decode cX8_plain 4 = .ok (.iload_n 1, 1) := by decide +kernel
theorem dX8_plain_5 : decode cX8_plain 5 = .ok (.aload_n 0, 1) := by decide +kernel
theorem dX8_plain_6 : decode cX8_plain 6 = .ok (.getfield 13, 3) := by decide +kernel
theorem dX8_plain_9 : decode cX8_plain 9 = .ok (.if_icmp .le 6, 3) := by decide +kernel
theorem dX8_plain_12 : decode cX8_plain 12 = .ok (.bipush (-3), 2) := by decide +kernel
theorem dX8_plain_14 : decode cX8_plain 14 = .ok (.ireturn, 1) := by decide +kernel
theorem dX8_plain_15 : decode cX8_plain 15 = .ok (.aload_n 0, 1) := by decide +kernel
theorem dX8_plain_16 : decode cX8_plain 16 = .ok (.iconst 0, 1) := by decide +kernel
theorem dX8_plain_17 : decode cX8_plain 17 = .ok (.putfield 13, 3) := by decide +kernel
theorem dX8_plain_20 : decode cX8_plain 20 = .ok (.aload_n 0, 1) := by decide +kernel
theorem dX8_plain_21 : decode cX8_plain 21 = .ok (.getfield 20, 3) := by decide +kernel
theorem dX8_plain_24 : decode cX8_plain 24 = .ok (.aload_n 0, 1) := by decide +kernel
theorem dX8_plain_25 : decode cX8_plain 25 = .ok (.getfield 9, 3) := by decide +kernel
theorem dX8_plain_28 : decode cX8_plain 28 = .ok (.iload_n 1, 1) := by decide +kernel
theorem dX8_plain_29 : decode cX8_plain 29 = .ok (.invokevirtual 88, 3) := by decide +kernel
theorem dX8_plain_32 : decode cX8_plain 32 = .ok (.istore_n 2, 1) := by decide +kernel
theorem dX8_plain_33 : decode cX8_plain 33 = .ok (.iload_n 2, 1) := by decide +kernel
theorem dX8_plain_34 : decode cX8_plain 34 = .ok (.ifCond .eq 8, 3) := by decide +kernel
theorem dX8_plain_37 : decode cX8_plain 37 = .ok (.bipush (-30), 2) := by decide +kernel
theorem dX8_plain_39 : decode cX8_plain 39 = .ok (.iload_n 2, 1) := by decide +kernel
theorem dX8_plain_40 : decode cX8_plain 40 = .ok (.isub, 1) := by decide +kernel
theorem dX8_plain_41 : decode cX8_plain 41 = .ok (.ireturn, 1) := by decide +kernel
theorem dX8_plain_42 : decode cX8_plain 42 = .ok (.aload_n 0, 1) := by decide +kernel
theorem dX8_plain_43 : decode cX8_plain 43 = .ok (.getfield 27, 3) := by decide +kernel
theorem dX8_plain_46 : decode cX8_plain 46 = .ok (.aload_n 0, 1) := by decide +kernel
theorem dX8_plain_47 : decode cX8_plain 47 = .ok (.getfield 20, 3) := by decide +kernel
theorem dX8_plain_50 : decode cX8_plain 50 = .ok (.getfield 92, 3) := by decide +kernel
theorem dX8_plain_53 : decode cX8_plain 53 = .ok (.invokevirtual 95, 3) := by decide +kernel
theorem dX8_plain_56 : decode cX8_plain 56 = .ok (.aload_n 0, 1) := by decide +kernel
theorem dX8_plain_57 : decode cX8_plain 57 = .ok (.getfield 27, 3) := by decide +kernel
theorem dX8_plain_60 : decode cX8_plain 60 = .ok (.getfield 99, 3) := by decide +kernel
theorem dX8_plain_63 : decode cX8_plain 63 = .ok (.ireturn, 1) := by decide +kernel
theorem dX8_fault_0 : decode cX8_fault 0 = .ok (.iload_n 1, 1) := by decide +kernel
theorem dX8_fault_1 : decode cX8_fault 1 = .ok (.ifCond .ne 11, 3) := by decide +kernel
theorem dX8_fault_4 : decode cX8_fault 4 = .ok (.aload_n 0, 1) := by decide +kernel
theorem dX8_fault_5 : decode cX8_fault 5 = .ok (.getfield 20, 3) := by decide +kernel
theorem dX8_fault_8 : decode cX8_fault 8 = .ok (.getfield 102, 3) := by decide +kernel
theorem dX8_fault_11 : decode cX8_fault 11 = .ok (.ireturn, 1) := by decide +kernel
theorem dX8_fault_12 : decode cX8_fault 12 = .ok (.iload_n 1, 1) := by decide +kernel
theorem dX8_fault_13 : decode cX8_fault 13 = .ok (.iconst 1, 1) := by decide +kernel
theorem dX8_fault_14 : decode cX8_fault 14 = .ok (.if_icmp .ne 11, 3) := by decide +kernel
theorem dX8_fault_17 : decode cX8_fault 17 = .ok (.aload_n 0, 1) := by decide +kernel
theorem dX8_fault_18 : decode cX8_fault 18 = .ok (.getfield 20, 3) := by decide +kernel
theorem dX8_fault_21 : decode cX8_fault 21 = .ok (.getfield 105, 3) := by decide +kernel
theorem dX8_fault_24 : decode cX8_fault 24 = .ok (.ireturn, 1) := by decide +kernel
theorem dX8_fault_25 : decode cX8_fault 25 = .ok (.iconst (-1), 1) := by decide +kernel
theorem dX8_fault_26 : decode cX8_fault 26 = .ok (.ireturn, 1) := by decide +kernel
theorem dX8_strip_0 : decode cX8_strip 0 = .ok (.aload_n 0, 1) := by decide +kernel
theorem dX8_strip_1 : decode cX8_strip 1 = .ok (.getfield 27, 3) := by decide +kernel
theorem dX8_strip_4 : decode cX8_strip 4 = .ok (.iload_n 1, 1) := by decide +kernel
theorem dX8_strip_5 : decode cX8_strip 5 = .ok (.invokevirtual 108, 3) := by decide +kernel
theorem dX8_strip_8 : decode cX8_strip 8 = .ok (.ifCond .ne 6, 3) := by decide +kernel
theorem dX8_strip_11 : decode cX8_strip 11 = .ok (.bipush (-2), 2) := by decide +kernel
theorem dX8_strip_13 : decode cX8_strip 13 = .ok (.ireturn, 1) := by decide +kernel
theorem dX8_strip_14 : decode cX8_strip 14 = .ok (.iload_n 2, 1) := by decide +kernel
theorem dX8_strip_15 : decode cX8_strip 15 = .ok (.tableswitch 103 0 5 #[37, 47, 57, 67, 77, 87], 37) := by decide +kernel
theorem dX8_strip_52 : decode cX8_strip 52 = .ok (.aload_n 0, 1) := by decide +kernel
theorem dX8_strip_53 : decode cX8_strip 53 = .ok (.getfield 27, 3) := by decide +kernel
theorem dX8_strip_56 : decode cX8_strip 56 = .ok (.getfield 112, 3) := by decide +kernel
theorem dX8_strip_59 : decode cX8_strip 59 = .ok (.iload_n 1, 1) := by decide +kernel
theorem dX8_strip_60 : decode cX8_strip 60 = .ok (.iaload, 1) := by decide +kernel
theorem dX8_strip_61 : decode cX8_strip 61 = .ok (.ireturn, 1) := by decide +kernel
theorem dX8_strip_62 : decode cX8_strip 62 = .ok (.aload_n 0, 1) := by decide +kernel
theorem dX8_strip_63 : decode cX8_strip 63 = .ok (.getfield 27, 3) := by decide +kernel
theorem dX8_strip_66 : decode cX8_strip 66 = .ok (.getfield 116, 3) := by decide +kernel
theorem dX8_strip_69 : decode cX8_strip 69 = .ok (.iload_n 1, 1) := by decide +kernel
theorem dX8_strip_70 : decode cX8_strip 70 = .ok (.iaload, 1) := by decide +kernel
theorem dX8_strip_71 : decode cX8_strip 71 = .ok (.ireturn, 1) := by decide +kernel
theorem dX8_strip_72 : decode cX8_strip 72 = .ok (.aload_n 0, 1) := by decide +kernel
theorem dX8_strip_73 : decode cX8_strip 73 = .ok (.getfield 27, 3) := by decide +kernel
theorem dX8_strip_76 : decode cX8_strip 76 = .ok (.getfield 119, 3) := by decide +kernel
theorem dX8_strip_79 : decode cX8_strip 79 = .ok (.iload_n 1, 1) := by decide +kernel
theorem dX8_strip_80 : decode cX8_strip 80 = .ok (.iaload, 1) := by decide +kernel
theorem dX8_strip_81 : decode cX8_strip 81 = .ok (.ireturn, 1) := by decide +kernel
theorem dX8_strip_82 : decode cX8_strip 82 = .ok (.aload_n 0, 1) := by decide +kernel
theorem dX8_strip_83 : decode cX8_strip 83 = .ok (.getfield 27, 3) := by decide +kernel
theorem dX8_strip_86 : decode cX8_strip 86 = .ok (.getfield 122, 3) := by decide +kernel
theorem dX8_strip_89 : decode cX8_strip 89 = .ok (.iload_n 1, 1) := by decide +kernel
theorem dX8_strip_90 : decode cX8_strip 90 = .ok (.iaload, 1) := by decide +kernel
theorem dX8_strip_91 : decode cX8_strip 91 = .ok (.ireturn, 1) := by decide +kernel
theorem dX8_strip_92 : decode cX8_strip 92 = .ok (.aload_n 0, 1) := by decide +kernel
theorem dX8_strip_93 : decode cX8_strip 93 = .ok (.getfield 27, 3) := by decide +kernel
theorem dX8_strip_96 : decode cX8_strip 96 = .ok (.getfield 125, 3) := by decide +kernel
theorem dX8_strip_99 : decode cX8_strip 99 = .ok (.iload_n 1, 1) := by decide +kernel
theorem dX8_strip_100 : decode cX8_strip 100 = .ok (.iaload, 1) := by decide +kernel
theorem dX8_strip_101 : decode cX8_strip 101 = .ok (.ireturn, 1) := by decide +kernel
theorem dX8_strip_102 : decode cX8_strip 102 = .ok (.aload_n 0, 1) := by decide +kernel
