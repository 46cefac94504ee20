theorem dX8_write_55 : decode cX8_write 55 = .ok (.lreturn, 1) := by decide +kernel
theorem dX8_copy_0 : decode cX8_copy 0 = .ok (.iload_n 1, 1) := by decide +kernel
theorem dX8_copy_1 : decode cX8_copy 1 = .ok (.invokestatic 182, 3) := by decide +kernel
theorem dX8_copy_4 : decode cX8_copy 4 = .ok (.ifCond .ne 6, 3) := by decide +kernel
theorem dX8_copy_7 : decode cX8_copy 7 = .ok (.bipush (-2), 2) := by decide +kernel
theorem dX8_copy_9 : decode cX8_copy 9 = .ok (.ireturn, 1) := by decide +kernel
theorem dX8_copy_10 : decode cX8_copy 10 = .ok (.aload_n 0, 1) := by decide +kernel
theorem dX8_copy_11 : decode cX8_copy 11 = .ok (.getfield 44, 3) := by decide +kernel
theorem dX8_copy_14 : decode cX8_copy 14 = .ok (.iload_n 1, 1) := by decide +kernel
theorem dX8_copy_15 : decode cX8_copy 15 = .ok (.aaload, 1) := by decide +kernel
theorem dX8_copy_16 : decode cX8_copy 16 = .ok (.astore_n 2, 1) := by decide +kernel
theorem dX8_copy_17 : decode cX8_copy 17 = .ok (.aload_n 2, 1) := by decide +kernel
theorem dX8_copy_18 : decode cX8_copy 18 = .ok (.getfield 185, 3) := by decide +kernel
theorem dX8_copy_21 : decode cX8_copy 21 = .ok (.ifCond .eq 6, 3) := by decide +kernel
theorem dX8_copy_24 : decode cX8_copy 24 = .ok (.bipush (-6), 2) := by decide +kernel
theorem dX8_copy_26 : decode cX8_copy 26 = .ok (.ireturn, 1) := by decide +kernel
theorem dX8_copy_27 : decode cX8_copy 27 = .ok (.aload_n 2, 1) := by decide +kernel
theorem dX8_copy_28 : decode cX8_copy 28 = .ok (.getfield 193, 3) := by decide +kernel
theorem dX8_copy_31 : decode cX8_copy 31 = .ok (.aload_n 0, 1) := by decide +kernel
theorem dX8_copy_32 : decode cX8_copy 32 = .ok (.getfield 27, 3) := by decide +kernel
theorem dX8_copy_35 : decode cX8_copy 35 = .ok (.getfield 161, 3) := by decide +kernel
theorem dX8_copy_38 : decode cX8_copy 38 = .ok (.if_icmp .ge 6, 3) := by decide +kernel
theorem dX8_copy_41 : decode cX8_copy 41 = .ok (.bipush (-7), 2) := by decide +kernel
theorem dX8_copy_43 : decode cX8_copy 43 = .ok (.ireturn, 1) := by decide +kernel
theorem dX8_copy_44 : decode cX8_copy 44 = .ok (.iconst 0, 1) := by decide +kernel
theorem dX8_copy_45 : decode cX8_copy 45 = .ok (.istore_n 3, 1) := by decide +kernel
theorem dX8_copy_46 : decode cX8_copy 46 = .ok (.iload_n 3, 1) := by decide +kernel
theorem dX8_copy_47 : decode cX8_copy 47 = .ok (.aload_n 0, 1) := by decide +kernel
theorem dX8_copy_48 : decode cX8_copy 48 = .ok (.getfield 27, 3) := by decide +kernel
theorem dX8_copy_51 : decode cX8_copy 51 = .ok (.getfield 161, 3) := by decide +kernel
theorem dX8_copy_54 : decode cX8_copy 54 = .ok (.if_icmp .ge 25, 3) := by decide +kernel
theorem dX8_copy_57 : decode cX8_copy 57 = .ok (.aload_n 2, 1) := by decide +kernel
theorem dX8_copy_58 : decode cX8_copy 58 = .ok (.iload_n 3, 1) := by decide +kernel
theorem dX8_copy_59 : decode cX8_copy 59 = .ok (.aload_n 0, 1) := by decide +kernel
theorem dX8_copy_60 : decode cX8_copy 60 = .ok (.getfield 27, 3) := by decide +kernel
theorem dX8_copy_63 : decode cX8_copy 63 = .ok (.getfield 112, 3) := by decide +kernel
theorem dX8_copy_66 : decode cX8_copy 66 = .ok (.iload_n 3, 1) := by decide +kernel
theorem dX8_copy_67 : decode cX8_copy 67 = .ok (.iaload, 1) := by decide +kernel
theorem dX8_copy_68 : decode cX8_copy 68 = .ok (.i2l, 1) := by decide +kernel
theorem dX8_copy_69 : decode cX8_copy 69 = .ok (.invokevirtual 336, 3) := by decide +kernel
theorem dX8_copy_72 : decode cX8_copy 72 = .ok (.pop2, 1) := by decide +kernel
theorem dX8_copy_73 : decode cX8_copy 73 = .ok (.iinc 3 1, 3) := by decide +kernel
theorem dX8_copy_76 : decode cX8_copy 76 = .ok (.goto (-30), 3) := by decide +kernel
theorem dX8_copy_79 : decode cX8_copy 79 = .ok (.aload_n 0, 1) := by decide +kernel
theorem dX8_copy_80 : decode cX8_copy 80 = .ok (.getfield 27, 3) := by decide +kernel
theorem dX8_copy_83 : decode cX8_copy 83 = .ok (.getfield 161, 3) := by decide +kernel
theorem dX8_copy_86 : decode cX8_copy 86 = .ok (.ireturn, 1) := by decide +kernel
theorem dX8_image_0 : decode cX8_image 0 = .ok (.iload_n 1, 1) := by decide +kernel
theorem dX8_image_1 : decode cX8_image 1 = .ok (.ifCond .lt 8, 3) := by decide +kernel
theorem dX8_image_4 : decode cX8_image 4 = .ok (.iload_n 1, 1) := by decide +kernel
theorem dX8_image_5 : decode cX8_image 5 = .ok (.iconst 2, 1) := by decide +kernel
theorem dX8_image_6 : decode cX8_image 6 = .ok (.if_icmp .lt 6, 3) := by decide +kernel
theorem dX8_image_9 : decode cX8_image 9 = .ok (.bipush (-2), 2) := by decide +kernel
theorem dX8_image_11 : decode cX8_image 11 = .ok (.ireturn, 1) := by decide +kernel
theorem dX8_image_12 : decode cX8_image 12 = .ok (.aload_n 0, 1) := by decide +kernel
theorem dX8_image_13 : decode cX8_image 13 = .ok (.getfield 34, 3) := by decide +kernel
theorem dX8_image_16 : decode cX8_image 16 = .ok (.iload_n 1, 1) := by decide +kernel
theorem dX8_image_17 : decode cX8_image 17 = .ok (.aaload, 1) := by decide +kernel
theorem dX8_image_18 : decode cX8_image 18 = .ok (.aload_n 0, 1) := by decide +kernel
theorem dX8_image_19 : decode cX8_image 19 = .ok (.getfield 27, 3) := by decide +kernel
theorem dX8_image_22 : decode cX8_image 22 = .ok (.invokevirtual 95, 3) := by decide +kernel
theorem dX8_image_25 : decode cX8_image 25 = .ok (.aload_n 0, 1) := by decide +kernel
theorem dX8_image_26 : decode cX8_image 26 = .ok (.getfield 38, 3) := by decide +kernel
theorem dX8_image_29 : decode cX8_image 29 = .ok (.iload_n 1, 1) := by decide +kernel
theorem dX8_image_30 : decode cX8_image 30 = .ok (.iconst 1, 1) := by decide +kernel
theorem dX8_image_31 : decode cX8_image 31 = .ok (.bastore, 1) := by decide +kernel
theorem dX8_image_32 : decode cX8_image 32 = .ok (.iconst 0, 1) := by decide +kernel
theorem dX8_image_33 : decode cX8_image 33 = .ok (.ireturn, 1) := by decide +kernel
theorem dX8_restore_0 : decode cX8_restore 0 = .ok (.iload_n 1, 1) := by decide +kernel
theorem dX8_restore_1 : decode cX8_restore 1 = .ok (.ifCond .lt 8, 3) := by decide +kernel
theorem dX8_restore_4 : decode cX8_restore 4 = .ok (.iload_n 1, 1) := by decide +kernel
theorem dX8_restore_5 : decode cX8_restore 5 = .ok (.iconst 2, 1) := by decide +kernel
theorem dX8_restore_6 : decode cX8_restore 6 = .ok (.if_icmp .lt 6, 3) := by decide +kernel
theorem dX8_restore_9 : decode cX8_restore 9 = .ok (.bipush (-2), 2) := by decide +kernel
theorem dX8_restore_11 : decode cX8_restore 11 = .ok (.ireturn, 1) := by decide +kernel
theorem dX8_restore_12 : decode cX8_restore 12 = .ok (.aload_n 0, 1) := by decide +kernel
theorem dX8_restore_13 : decode cX8_restore 13 = .ok (.getfield 38, 3) := by decide +kernel
theorem dX8_restore_16 : decode cX8_restore 16 = .ok (.iload_n 1, 1) := by decide +kernel
theorem dX8_restore_17 : decode cX8_restore 17 = .ok (.baload, 1) := by decide +kernel
theorem dX8_restore_18 : decode cX8_restore 18 = .ok (.ifCond .ne 6, 3) := by decide +kernel
theorem dX8_restore_21 : decode cX8_restore 21 = .ok (.bipush (-5), 2) := by decide +kernel
theorem dX8_restore_23 : decode cX8_restore 23 = .ok (.ireturn, 1) := by decide +kernel
theorem dX8_restore_24 : decode cX8_restore 24 = .ok (.aload_n 0, 1) := by decide +kernel
theorem dX8_restore_25 : decode cX8_restore 25 = .ok (.getfield 27, 3) := by decide +kernel
theorem dX8_restore_28 : decode cX8_restore 28 = .ok (.aload_n 0, 1) := by decide +kernel
theorem dX8_restore_29 : decode cX8_restore 29 = .ok (.getfield 34, 3) := by decide +kernel
theorem dX8_restore_32 : decode cX8_restore 32 = .ok (.iload_n 1, 1) := by decide +kernel
theorem dX8_restore_33 : decode cX8_restore 33 = .ok (.aaload, 1) := by decide +kernel
theorem dX8_restore_34 : decode cX8_restore 34 = .ok (.invokevirtual 95, 3) := by decide +kernel
theorem dX8_restore_37 : decode cX8_restore 37 = .ok (.iconst 0, 1) := by decide +kernel
theorem dX8_restore_38 : decode cX8_restore 38 = .ok (.ireturn, 1) := by decide +kernel
theorem dX8_count_0 : decode cX8_count 0 = .ok (.iload_n 1, 1) := by decide +kernel
theorem dX8_count_1 : decode cX8_count 1 = .ok (.tableswitch 182 0 12 #[67, 75, 83, 91, 99, 107, 115, 123, 131, 139, 154, 169, 174], 67) := by decide +kernel
theorem dX8_count_68 : decode cX8_count 68 = .ok (.aload_n 0, 1) := by decide +kernel
theorem dX8_count_69 : decode cX8_count 69 = .ok (.getfield 27, 3) := by decide +kernel
theorem dX8_count_72 : decode cX8_count 72 = .ok (.getfield 161, 3) := by decide +kernel
theorem dX8_count_75 : decode cX8_count 75 = .ok (.ireturn, 1) := by decide +kernel
theorem dX8_count_76 : decode cX8_count 76 = .ok (.aload_n 0, 1) := by decide +kernel
theorem dX8_count_77 : decode cX8_count 77 = .ok (.getfield 27, 3) := by decide +kernel
theorem dX8_count_80 : decode cX8_count 80 = .ok (.getfield 216, 3) := by decide +kernel
theorem dX8_count_83 : decode cX8_count 83 = .ok (.ireturn, 1) := by decide +kernel
theorem dX8_count_84 : decode cX8_count 84 = .ok (.aload_n 0, 1) := by decide +kernel
theorem dX8_count_85 : decode cX8_count 85 = .ok (.getfield 27, 3) := by decide +kernel
theorem dX8_count_88 : decode cX8_count 88 = .ok (.invokevirtual 204, 3) := by decide +kernel
theorem dX8_count_91 : decode cX8_count 91 = .ok (.ireturn, 1) := by decide +kernel
theorem dX8_count_92 : decode cX8_count 92 = .ok (.aload_n 0, 1) := by decide +kernel
theorem dX8_count_93 : decode cX8_count 93 = .ok (.getfield 27, 3) := by decide +kernel
theorem dX8_count_96 : decode cX8_count 96 = .ok (.getfield 167, 3) := by decide +kernel
theorem dX8_count_99 : decode cX8_count 99 = .ok (.ireturn, 1) := by decide +kernel
theorem dX8_count_100 : decode cX8_count 100 = .ok (.aload_n 0, 1) := by decide +kernel
theorem dX8_count_101 : decode cX8_count 101 = .ok (.getfield 27, 3) := by decide +kernel
theorem dX8_count_104 : decode cX8_count 104 = .ok (.getfield 340, 3) := by decide +kernel
theorem dX8_count_107 : decode cX8_count 107 = .ok (.ireturn, 1) := by decide +kernel
theorem dX8_count_108 : decode cX8_count 108 = .ok (.aload_n 0, 1) := by decide +kernel
theorem dX8_count_109 : decode cX8_count 109 = .ok (.getfield 27, 3) := by decide +kernel
theorem dX8_count_112 : decode cX8_count 112 = .ok (.getfield 343, 3) := by decide +kernel
theorem dX8_count_115 : decode cX8_count 115 = .ok (.ireturn, 1) := by decide +kernel
theorem dX8_count_116 : decode cX8_count 116 = .ok (.aload_n 0, 1) := by decide +kernel
theorem dX8_count_117 : decode cX8_count 117 = .ok (.getfield 27, 3) := by decide +kernel
theorem dX8_count_120 : decode cX8_count 120 = .ok (.getfield 208, 3) := by decide +kernel
theorem dX8_count_123 : decode cX8_count 123 = .ok (.ireturn, 1) := by decide +kernel
theorem dX8_count_124 : decode cX8_count 124 = .ok (.aload_n 0, 1) := by decide +kernel
theorem dX8_count_125 : decode cX8_count 125 = .ok (.getfield 27, 3) := by decide +kernel
theorem dX8_count_128 : decode cX8_count 128 = .ok (.getfield 222, 3) := by decide +kernel
theorem dX8_count_131 : decode cX8_count 131 = .ok (.ireturn, 1) := by decide +kernel
theorem dX8_count_132 : decode cX8_count 132 = .ok (.aload_n 0, 1) := by decide +kernel
theorem dX8_count_133 : decode cX8_count 133 = .ok (.getfield 27, 3) := by decide +kernel
theorem dX8_count_136 : decode cX8_count 136 = .ok (.getfield 346, 3) := by decide +kernel
theorem dX8_count_139 : decode cX8_count 139 = .ok (.ireturn, 1) := by decide +kernel
theorem dX8_count_140 : decode cX8_count 140 = .ok (.aload_n 0, 1) := by decide +kernel
theorem dX8_count_141 : decode cX8_count 141 = .ok (.getfield 27, 3) := by decide +kernel
theorem dX8_count_144 : decode cX8_count 144 = .ok (.aload_n 0, 1) := by decide +kernel
theorem dX8_count_145 : decode cX8_count 145 = .ok (.getfield 27, 3) := by decide +kernel
theorem dX8_count_148 : decode cX8_count 148 = .ok (.getfield 112, 3) := by decide +kernel
theorem dX8_count_151 : decode cX8_count 151 = .ok (.invokevirtual 200, 3) := by decide +kernel
theorem dX8_count_154 : decode cX8_count 154 = .ok (.ireturn, 1) := by decide +kernel
theorem dX8_count_155 : decode cX8_count 155 = .ok (.aload_n 0, 1) := by decide +kernel
theorem dX8_count_156 : decode cX8_count 156 = .ok (.getfield 27, 3) := by decide +kernel
theorem dX8_count_159 : decode cX8_count 159 = .ok (.aload_n 0, 1) := by decide +kernel
theorem dX8_count_160 : decode cX8_count 160 = .ok (.getfield 27, 3) := by decide +kernel
theorem dX8_count_163 : decode cX8_count 163 = .ok (.getfield 125, 3) := by decide +kernel
theorem dX8_count_166 : decode cX8_count 166 = .ok (.invokevirtual 200, 3) := by decide +kernel
theorem dX8_count_169 : decode cX8_count 169 = .ok (.ireturn, 1) := by decide +kernel
theorem dX8_count_170 : decode cX8_count 170 = .ok (.aload_n 0, 1) := by decide +kernel
theorem dX8_count_171 : decode cX8_count 171 = .ok (.getfield 13, 3) := by decide +kernel
theorem dX8_count_174 : decode cX8_count 174 = .ok (.ireturn, 1) := by decide +kernel
theorem dX8_count_175 : decode cX8_count 175 = .ok (.aload_n 0, 1) := by decide +kernel
theorem dX8_count_176 : decode cX8_count 176 = .ok (.getfield 27, 3) := by decide +kernel
theorem dX8_count_179 : decode cX8_count 179 = .ok (.getfield 99, 3) := by decide +kernel
theorem dX8_count_182 : decode cX8_count 182 = .ok (.ireturn, 1) := by decide +kernel
theorem dX8_count_183 : decode cX8_count 183 = .ok (.iconst (-1), 1) := by decide +kernel
theorem dX8_count_184 : decode cX8_count 184 = .ok (.ireturn, 1) := by decide +kernel
theorem dX8_tapeInt_0 : decode cX8_tapeInt 0 = .ok (.bipush 24, 2) := by decide +kernel
theorem dX8_tapeInt_2 : decode cX8_tapeInt 2 = .ok (.istore_n 2, 1) := by decide +kernel
theorem dX8_tapeInt_3 : decode cX8_tapeInt 3 = .ok (.iload_n 2, 1) := by decide +kernel
theorem dX8_tapeInt_4 : decode cX8_tapeInt 4 = .ok (.ifCond .lt 42, 3) := by decide +kernel
theorem dX8_tapeInt_7 : decode cX8_tapeInt 7 = .ok (.aload_n 0, 1) := by decide +kernel
theorem dX8_tapeInt_8 : decode cX8_tapeInt 8 = .ok (.getfield 13, 3) := by decide +kernel
theorem dX8_tapeInt_11 : decode cX8_tapeInt 11 = .ok (.sipush 900, 3) := by decide +kernel
theorem dX8_tapeInt_14 : decode cX8_tapeInt 14 = .ok (.if_icmp .ge 32, 3) := by decide +kernel
theorem dX8_tapeInt_17 : decode cX8_tapeInt 17 = .ok (.aload_n 0, 1) := by decide +kernel
theorem dX8_tapeInt_18 : decode cX8_tapeInt 18 = .ok (.getfield 9, 3) := by decide +kernel
theorem dX8_tapeInt_21 : decode cX8_tapeInt 21 = .ok (.aload_n 0, 1) := by decide +kernel
theorem dX8_tapeInt_22 : decode cX8_tapeInt 22 = .ok (.getfield 13, 3) := by decide +kernel
theorem dX8_tapeInt_25 : decode cX8_tapeInt 25 = .ok (.iload_n 1, 1) := by decide +kernel
theorem dX8_tapeInt_26 : decode cX8_tapeInt 26 = .ok (.iload_n 2, 1) := by decide +kernel
theorem dX8_tapeInt_27 : decode cX8_tapeInt 27 = .ok (.iushr, 1) := by decide +kernel
theorem dX8_tapeInt_28 : decode cX8_tapeInt 28 = .ok (.i2b, 1) := by decide +kernel
theorem dX8_tapeInt_29 : decode cX8_tapeInt 29 = .ok (.bastore, 1) := by decide +kernel
theorem dX8_tapeInt_30 : decode cX8_tapeInt 30 = .ok (.aload_n 0, 1) := by decide +kernel
theorem dX8_tapeInt_31 : decode cX8_tapeInt 31 = .ok (.dup, 1) := by decide +kernel
theorem dX8_tapeInt_32 : decode cX8_tapeInt 32 = .ok (.getfield 13, 3) := by decide +kernel
theorem dX8_tapeInt_35 : decode cX8_tapeInt 35 = .ok (.iconst 1, 1) := by decide +kernel
theorem dX8_tapeInt_36 : decode cX8_tapeInt 36 = .ok (.iadd, 1) := by decide +kernel
theorem dX8_tapeInt_37 : decode cX8_tapeInt 37 = .ok (.putfield 13, 3) := by decide +kernel
theorem dX8_tapeInt_40 : decode cX8_tapeInt 40 = .ok (.iinc 2 (-8), 3) := by decide +kernel
theorem dX8_tapeInt_43 : decode cX8_tapeInt 43 = .ok (.goto (-40), 3) := by decide +kernel
theorem dX8_tapeInt_46 : decode cX8_tapeInt 46 = .ok (.return_, 1) := by decide +kernel
theorem dX8_isFarm_0 : decode cX8_isFarm 0 = .ok (.iload_n 0, 1) := by decide +kernel
theorem dX8_isFarm_1 : decode cX8_isFarm 1 = .ok (.ifCond .lt 13, 3) := by decide +kernel
theorem dX8_isFarm_4 : decode cX8_isFarm 4 = .ok (.iload_n 0, 1) := by decide +kernel
theorem dX8_isFarm_5 : decode cX8_isFarm 5 = .ok (.bipush 6, 2) := by decide +kernel
theorem dX8_isFarm_7 : decode cX8_isFarm 7 = .ok (.if_icmp .ge 7, 3) := by decide +kernel
theorem dX8_isFarm_10 : decode cX8_isFarm 10 = .ok (.iconst 1, 1) := by decide +kernel
theorem dX8_isFarm_11 : decode cX8_isFarm 11 = .ok (.goto 4, 3) := by decide +kernel
theorem dX8_isFarm_14 : decode cX8_isFarm 14 = .ok (.iconst 0, 1) := by decide +kernel
theorem dX8_isFarm_15 : decode cX8_isFarm 15 = .ok (.ireturn, 1) := by decide +kernel
theorem dX8_isRow_0 : decode cX8_isRow 0 = .ok (.iload_n 0, 1) := by decide +kernel
theorem dX8_isRow_1 : decode cX8_isRow 1 = .ok (.ifCond .lt 12, 3) := by decide +kernel
theorem dX8_isRow_4 : decode cX8_isRow 4 = .ok (.iload_n 0, 1) := by decide +kernel
theorem dX8_isRow_5 : decode cX8_isRow 5 = .ok (.iconst 4, 1) := by decide +kernel
theorem dX8_isRow_6 : decode cX8_isRow 6 = .ok (.if_icmp .ge 7, 3) := by decide +kernel
theorem dX8_isRow_9 : decode cX8_isRow 9 = .ok (.iconst 1, 1) := by decide +kernel
theorem dX8_isRow_10 : decode cX8_isRow 10 = .ok (.goto 4, 3) := by decide +kernel
theorem dX8_isRow_13 : decode cX8_isRow 13 = .ok (.iconst 0, 1) := by decide +kernel
theorem dX8_isRow_14 : decode cX8_isRow 14 = .ok (.ireturn, 1) := by decide +kernel
theorem dX8_isAskable_0 : decode cX8_isAskable 0 = .ok (.iload_n 0, 1) := by decide +kernel
theorem dX8_isAskable_1 : decode cX8_isAskable 1 = .ok (.ifCond .lt 8, 3) := by decide +kernel
theorem dX8_isAskable_4 : decode cX8_isAskable 4 = .ok (.iload_n 0, 1) := by decide +kernel
theorem dX8_isAskable_5 : decode cX8_isAskable 5 = .ok (.iload_n 1, 1) := by decide +kernel
theorem dX8_isAskable_6 : decode cX8_isAskable 6 = .ok (.if_icmp .le 15, 3) := by decide +kernel
theorem dX8_isAskable_9 : decode cX8_isAskable 9 = .ok (.iload_n 0, 1) := by decide +kernel
theorem dX8_isAskable_10 : decode cX8_isAskable 10 = .ok (.bipush 10, 2) := by decide +kernel
theorem dX8_isAskable_12 : decode cX8_isAskable 12 = .ok (.if_icmp .lt 13, 3) := by decide +kernel
theorem dX8_isAskable_15 : decode cX8_isAskable 15 = .ok (.iload_n 0, 1) := by decide +kernel
theorem dX8_isAskable_16 : decode cX8_isAskable 16 = .ok (.bipush 18, 2) := by decide +kernel
theorem dX8_isAskable_18 : decode cX8_isAskable 18 = .ok (.if_icmp .ge 7, 3) := by decide +kernel
theorem dX8_isAskable_21 : decode cX8_isAskable 21 = .ok (.iconst 1, 1) := by decide +kernel
theorem dX8_isAskable_22 : decode cX8_isAskable 22 = .ok (.goto 4, 3) := by decide +kernel
theorem dX8_isAskable_25 : decode cX8_isAskable 25 = .ok (.iconst 0, 1) := by decide +kernel
theorem dX8_isAskable_26 : decode cX8_isAskable 26 = .ok (.ireturn, 1) := by decide +kernel
theorem dX8_nextDraw_0 : decode cX8_nextDraw 0 = .ok (.ldc_w 349, 3) := by decide +kernel
theorem dX8_nextDraw_3 : decode cX8_nextDraw 3 = .ok (.iload_n 0, 1) := by decide +kernel
theorem dX8_nextDraw_4 : decode cX8_nextDraw 4 = .ok (.imul, 1) := by decide +kernel
theorem dX8_nextDraw_5 : decode cX8_nextDraw 5 = .ok (.sipush 12345, 3) := by decide +kernel
theorem dX8_nextDraw_8 : decode cX8_nextDraw 8 = .ok (.iadd, 1) := by decide +kernel
theorem dX8_nextDraw_9 : decode cX8_nextDraw 9 = .ok (.ireturn, 1) := by decide +kernel
theorem dX8_refusedSearch_0 : decode cX8_refusedSearch 0 = .ok (.iload_n 1, 1) := by decide +kernel
theorem dX8_refusedSearch_1 : decode cX8_refusedSearch 1 = .ok (.ifCond .ne 6, 3) := by decide +kernel
theorem dX8_refusedSearch_4 : decode cX8_refusedSearch 4 = .ok (.bipush (-2), 2) := by decide +kernel
theorem dX8_refusedSearch_6 : decode cX8_refusedSearch 6 = .ok (.ireturn, 1) := by decide +kernel
theorem dX8_refusedSearch_7 : decode cX8_refusedSearch 7 = .ok (.iload_n 2, 1) := by decide +kernel
theorem dX8_refusedSearch_8 : decode cX8_refusedSearch 8 = .ok (.iconst 1, 1) := by decide +kernel
theorem dX8_refusedSearch_9 : decode cX8_refusedSearch 9 = .ok (.if_icmp .lt 8, 3) := by decide +kernel
theorem dX8_refusedSearch_12 : decode cX8_refusedSearch 12 = .ok (.iload_n 2, 1) := by decide +kernel
theorem dX8_refusedSearch_13 : decode cX8_refusedSearch 13 = .ok (.iload_n 3, 1) := by decide +kernel
theorem dX8_refusedSearch_14 : decode cX8_refusedSearch 14 = .ok (.if_icmp .le 6, 3) := by decide +kernel
theorem dX8_refusedSearch_17 : decode cX8_refusedSearch 17 = .ok (.bipush (-3), 2) := by decide +kernel
theorem dX8_refusedSearch_19 : decode cX8_refusedSearch 19 = .ok (.ireturn, 1) := by decide +kernel
theorem dX8_refusedSearch_20 : decode cX8_refusedSearch 20 = .ok (.aload_n 0, 1) := by decide +kernel
theorem dX8_refusedSearch_21 : decode cX8_refusedSearch 21 = .ok (.getfield 27, 3) := by decide +kernel
theorem dX8_refusedSearch_24 : decode cX8_refusedSearch 24 = .ok (.getfield 161, 3) := by decide +kernel
theorem dX8_refusedSearch_27 : decode cX8_refusedSearch 27 = .ok (.ifCond .ne 8, 3) := by decide +kernel
theorem dX8_refusedSearch_30 : decode cX8_refusedSearch 30 = .ok (.bipush (-5), 2) := by decide +kernel
theorem dX8_refusedSearch_32 : decode cX8_refusedSearch 32 = .ok (.goto 4, 3) := by decide +kernel
theorem dX8_refusedSearch_35 : decode cX8_refusedSearch 35 = .ok (.iconst 0, 1) := by decide +kernel
theorem dX8_refusedSearch_36 : decode cX8_refusedSearch 36 = .ok (.ireturn, 1) := by decide +kernel
theorem dX8_possibleMinutes_0 : decode cX8_possibleMinutes 0 = .ok (.iload_n 1, 1) := by decide +kernel
theorem dX8_possibleMinutes_1 : decode cX8_possibleMinutes 1 = .ok (.aload_n 0, 1) := by decide +kernel
theorem dX8_possibleMinutes_2 : decode cX8_possibleMinutes 2 = .ok (.getfield 27, 3) := by decide +kernel
theorem dX8_possibleMinutes_5 : decode cX8_possibleMinutes 5 = .ok (.getfield 208, 3) := by decide +kernel
theorem dX8_possibleMinutes_8 : decode cX8_possibleMinutes 8 = .ok (.sipush 9999, 3) := by decide +kernel
theorem dX8_possibleMinutes_11 : decode cX8_possibleMinutes 11 = .ok (.aload_n 0, 1) := by decide +kernel
theorem dX8_possibleMinutes_12 : decode cX8_possibleMinutes 12 = .ok (.getfield 27, 3) := by decide +kernel
theorem dX8_possibleMinutes_15 : decode cX8_possibleMinutes 15 = .ok (.getfield 216, 3) := by decide +kernel
theorem dX8_possibleMinutes_18 : decode cX8_possibleMinutes 18 = .ok (.isub, 1) := by decide +kernel
theorem dX8_possibleMinutes_19 : decode cX8_possibleMinutes 19 = .ok (.invokestatic 211, 3) := by decide +kernel
theorem dX8_possibleMinutes_22 : decode cX8_possibleMinutes 22 = .ok (.invokestatic 211, 3) := by decide +kernel
theorem dX8_possibleMinutes_25 : decode cX8_possibleMinutes 25 = .ok (.ireturn, 1) := by decide +kernel
theorem dX8_seek_0 : decode cX8_seek 0 = .ok (.aload_n 0, 1) := by decide +kernel
theorem dX8_seek_1 : decode cX8_seek 1 = .ok (.iload_n 3, 1) := by decide +kernel
theorem dX8_seek_2 : decode cX8_seek 2 = .ok (.invokevirtual 233, 3) := by decide +kernel
theorem dX8_seek_5 : decode cX8_seek 5 = .ok (.istore 4, 2) := by decide +kernel
theorem dX8_seek_7 : decode cX8_seek 7 = .ok (.aload_n 0, 1) := by decide +kernel
theorem dX8_seek_8 : decode cX8_seek 8 = .ok (.getfield 51, 3) := by decide +kernel
theorem dX8_seek_11 : decode cX8_seek 11 = .ok (.aload_n 0, 1) := by decide +kernel
theorem dX8_seek_12 : decode cX8_seek 12 = .ok (.getfield 27, 3) := by decide +kernel
theorem dX8_seek_15 : decode cX8_seek 15 = .ok (.getfield 161, 3) := by decide +kernel
theorem dX8_seek_18 : decode cX8_seek 18 = .ok (.aload_n 0, 1) := by decide +kernel
theorem dX8_seek_19 : decode cX8_seek 19 = .ok (.getfield 27, 3) := by decide +kernel
theorem dX8_seek_22 : decode cX8_seek 22 = .ok (.getfield 128, 3) := by decide +kernel
theorem dX8_seek_25 : decode cX8_seek 25 = .ok (.iload 4, 2) := by decide +kernel
theorem dX8_seek_27 : decode cX8_seek 27 = .ok (.invokevirtual 281, 3) := by decide +kernel
theorem dX8_seek_30 : decode cX8_seek 30 = .ok (.aload_n 0, 1) := by decide +kernel
theorem dX8_seek_31 : decode cX8_seek 31 = .ok (.getfield 58, 3) := by decide +kernel
theorem dX8_seek_34 : decode cX8_seek 34 = .ok (.aload_n 0, 1) := by decide +kernel
theorem dX8_seek_35 : decode cX8_seek 35 = .ok (.getfield 27, 3) := by decide +kernel
theorem dX8_seek_38 : decode cX8_seek 38 = .ok (.iload_n 1, 1) := by decide +kernel
theorem dX8_seek_39 : decode cX8_seek 39 = .ok (.iload_n 2, 1) := by decide +kernel
theorem dX8_seek_40 : decode cX8_seek 40 = .ok (.invokevirtual 273, 3) := by decide +kernel
theorem dX8_seek_43 : decode cX8_seek 43 = .ok (.aload_n 0, 1) := by decide +kernel
theorem dX8_seek_44 : decode cX8_seek 44 = .ok (.getfield 58, 3) := by decide +kernel
theorem dX8_seek_47 : decode cX8_seek 47 = .ok (.aload_n 0, 1) := by decide +kernel
theorem dX8_seek_48 : decode cX8_seek 48 = .ok (.getfield 51, 3) := by decide +kernel
theorem dX8_seek_51 : decode cX8_seek 51 = .ok (.iload 4, 2) := by decide +kernel
theorem dX8_seek_53 : decode cX8_seek 53 = .ok (.iconst (-1), 1) := by decide +kernel
theorem dX8_seek_54 : decode cX8_seek 54 = .ok (.invokevirtual 277, 3) := by decide +kernel
theorem dX8_seek_57 : decode cX8_seek 57 = .ok (.return_, 1) := by decide +kernel
theorem dX8_foundAnswer_0 : decode cX8_foundAnswer 0 = .ok (.iload_n 2, 1) := by decide +kernel
theorem dX8_foundAnswer_1 : decode cX8_foundAnswer 1 = .ok (.bipush 10, 2) := by decide +kernel
theorem dX8_foundAnswer_3 : decode cX8_foundAnswer 3 = .ok (.if_icmp .ge 5, 3) := by decide +kernel
theorem dX8_foundAnswer_6 : decode cX8_foundAnswer 6 = .ok (.iload_n 3, 1) := by decide +kernel
theorem dX8_foundAnswer_7 : decode cX8_foundAnswer 7 = .ok (.ireturn, 1) := by decide +kernel
theorem dX8_foundAnswer_8 : decode cX8_foundAnswer 8 = .ok (.aload_n 0, 1) := by decide +kernel
theorem dX8_foundAnswer_9 : decode cX8_foundAnswer 9 = .ok (.getfield 51, 3) := by decide +kernel
theorem dX8_foundAnswer_12 : decode cX8_foundAnswer 12 = .ok (.aload_n 0, 1) := by decide +kernel
theorem dX8_foundAnswer_13 : decode cX8_foundAnswer 13 = .ok (.getfield 58, 3) := by decide +kernel
theorem dX8_foundAnswer_16 : decode cX8_foundAnswer 16 = .ok (.getfield 257, 3) := by decide +kernel
theorem dX8_foundAnswer_19 : decode cX8_foundAnswer 19 = .ok (.aload_n 0, 1) := by decide +kernel
theorem dX8_foundAnswer_20 : decode cX8_foundAnswer 20 = .ok (.iload_n 1, 1) := by decide +kernel
theorem dX8_foundAnswer_21 : decode cX8_foundAnswer 21 = .ok (.invokevirtual 233, 3) := by decide +kernel
theorem dX8_foundAnswer_24 : decode cX8_foundAnswer 24 = .ok (.iload_n 2, 1) := by decide +kernel
theorem dX8_foundAnswer_25 : decode cX8_foundAnswer 25 = .ok (.bipush 10, 2) := by decide +kernel
theorem dX8_foundAnswer_27 : decode cX8_foundAnswer 27 = .ok (.isub, 1) := by decide +kernel
theorem dX8_foundAnswer_28 : decode cX8_foundAnswer 28 = .ok (.invokevirtual 350, 3) := by decide +kernel
theorem dX8_foundAnswer_31 : decode cX8_foundAnswer 31 = .ok (.ireturn, 1) := by decide +kernel
theorem dX8_canShift_0 : decode cX8_canShift 0 = .ok (.iload_n 1, 1) := by decide +kernel
theorem dX8_canShift_1 : decode cX8_canShift 1 = .ok (.iload_n 2, 1) := by decide +kernel
theorem dX8_canShift_2 : decode cX8_canShift 2 = .ok (.if_icmp .eq 55, 3) := by decide +kernel
theorem dX8_canShift_5 : decode cX8_canShift 5 = .ok (.aload_n 0, 1) := by decide +kernel
theorem dX8_canShift_6 : decode cX8_canShift 6 = .ok (.getfield 27, 3) := by decide +kernel
theorem dX8_canShift_9 : decode cX8_canShift 9 = .ok (.iload_n 1, 1) := by decide +kernel
theorem dX8_canShift_10 : decode cX8_canShift 10 = .ok (.invokevirtual 108, 3) := by decide +kernel
theorem dX8_canShift_13 : decode cX8_canShift 13 = .ok (.ifCond .eq 44, 3) := by decide +kernel
theorem dX8_canShift_16 : decode cX8_canShift 16 = .ok (.aload_n 0, 1) := by decide +kernel
theorem dX8_canShift_17 : decode cX8_canShift 17 = .ok (.getfield 27, 3) := by decide +kernel
theorem dX8_canShift_20 : decode cX8_canShift 20 = .ok (.iload_n 2, 1) := by decide +kernel
theorem dX8_canShift_21 : decode cX8_canShift 21 = .ok (.invokevirtual 108, 3) := by decide +kernel
theorem dX8_canShift_24 : decode cX8_canShift 24 = .ok (.ifCond .eq 33, 3) := by decide +kernel
theorem dX8_canShift_27 : decode cX8_canShift 27 = .ok (.aload_n 0, 1) := by decide +kernel
theorem dX8_canShift_28 : decode cX8_canShift 28 = .ok (.getfield 27, 3) := by decide +kernel
theorem dX8_canShift_31 : decode cX8_canShift 31 = .ok (.getfield 116, 3) := by decide +kernel
theorem dX8_canShift_34 : decode cX8_canShift 34 = .ok (.iload_n 1, 1) := by decide +kernel
theorem dX8_canShift_35 : decode cX8_canShift 35 = .ok (.iaload, 1) := by decide +kernel
theorem dX8_canShift_36 : decode cX8_canShift 36 = .ok (.ifCond .le 21, 3) := by decide +kernel
theorem dX8_canShift_39 : decode cX8_canShift 39 = .ok (.aload_n 0, 1) := by decide +kernel
theorem dX8_canShift_40 : decode cX8_canShift 40 = .ok (.getfield 27, 3) := by decide +kernel
theorem dX8_canShift_43 : decode cX8_canShift 43 = .ok (.getfield 116, 3) := by decide +kernel
theorem dX8_canShift_46 : decode cX8_canShift 46 = .ok (.iload_n 2, 1) := by decide +kernel
theorem dX8_canShift_47 : decode cX8_canShift 47 = .ok (.iaload, 1) := by decide +kernel
theorem dX8_canShift_48 : decode cX8_canShift 48 = .ok (.bipush 9, 2) := by decide +kernel
theorem dX8_canShift_50 : decode cX8_canShift 50 = .ok (.if_icmp .ge 7, 3) := by decide +kernel
theorem dX8_canShift_53 : decode cX8_canShift 53 = .ok (.iconst 1, 1) := by decide +kernel
theorem dX8_canShift_54 : decode cX8_canShift 54 = .ok (.goto 4, 3) := by decide +kernel
theorem dX8_canShift_57 : decode cX8_canShift 57 = .ok (.iconst 0, 1) := by decide +kernel
theorem dX8_canShift_58 : decode cX8_canShift 58 = .ok (.ireturn, 1) := by decide +kernel
theorem dX8_refusedStubble_0 : decode cX8_refusedStubble 0 = .ok (.iload_n 1, 1) := by decide +kernel
theorem dX8_refusedStubble_1 : decode cX8_refusedStubble 1 = .ok (.invokestatic 182, 3) := by decide +kernel
theorem dX8_refusedStubble_4 : decode cX8_refusedStubble 4 = .ok (.ifCond .ne 6, 3) := by decide +kernel
theorem dX8_refusedStubble_7 : decode cX8_refusedStubble 7 = .ok (.bipush (-2), 2) := by decide +kernel
theorem dX8_refusedStubble_9 : decode cX8_refusedStubble 9 = .ok (.ireturn, 1) := by decide +kernel
theorem dX8_refusedStubble_10 : decode cX8_refusedStubble 10 = .ok (.aload_n 0, 1) := by decide +kernel
theorem dX8_refusedStubble_11 : decode cX8_refusedStubble 11 = .ok (.getfield 44, 3) := by decide +kernel
theorem dX8_refusedStubble_14 : decode cX8_refusedStubble 14 = .ok (.iload_n 1, 1) := by decide +kernel
theorem dX8_refusedStubble_15 : decode cX8_refusedStubble 15 = .ok (.aaload, 1) := by decide +kernel
theorem dX8_refusedStubble_16 : decode cX8_refusedStubble 16 = .ok (.getfield 185, 3) := by decide +kernel
theorem dX8_refusedStubble_19 : decode cX8_refusedStubble 19 = .ok (.ifCond .eq 6, 3) := by decide +kernel
theorem dX8_refusedStubble_22 : decode cX8_refusedStubble 22 = .ok (.bipush (-6), 2) := by decide +kernel
theorem dX8_refusedStubble_24 : decode cX8_refusedStubble 24 = .ok (.ireturn, 1) := by decide +kernel
theorem dX8_refusedStubble_25 : decode cX8_refusedStubble 25 = .ok (.aload_n 0, 1) := by decide +kernel
theorem dX8_refusedStubble_26 : decode cX8_refusedStubble 26 = .ok (.getfield 44, 3) := by decide +kernel
theorem dX8_refusedStubble_29 : decode cX8_refusedStubble 29 = .ok (.iload_n 1, 1) := by decide +kernel
theorem dX8_refusedStubble_30 : decode cX8_refusedStubble 30 = .ok (.aaload, 1) := by decide +kernel
theorem dX8_refusedStubble_31 : decode cX8_refusedStubble 31 = .ok (.getfield 193, 3) := by decide +kernel
theorem dX8_refusedStubble_34 : decode cX8_refusedStubble 34 = .ok (.aload_n 0, 1) := by decide +kernel
theorem dX8_refusedStubble_35 : decode cX8_refusedStubble 35 = .ok (.getfield 27, 3) := by decide +kernel
theorem dX8_refusedStubble_38 : decode cX8_refusedStubble 38 = .ok (.getfield 161, 3) := by decide +kernel
theorem dX8_refusedStubble_41 : decode cX8_refusedStubble 41 = .ok (.if_icmp .eq 6, 3) := by decide +kernel
theorem dX8_refusedStubble_44 : decode cX8_refusedStubble 44 = .ok (.bipush (-7), 2) := by decide +kernel
theorem dX8_refusedStubble_46 : decode cX8_refusedStubble 46 = .ok (.ireturn, 1) := by decide +kernel
theorem dX8_refusedStubble_47 : decode cX8_refusedStubble 47 = .ok (.aload_n 0, 1) := by decide +kernel
theorem dX8_refusedStubble_48 : decode cX8_refusedStubble 48 = .ok (.iconst 1, 1) := by decide +kernel
theorem dX8_refusedStubble_49 : decode cX8_refusedStubble 49 = .ok (.iload_n 2, 1) := by decide +kernel
theorem dX8_refusedStubble_50 : decode cX8_refusedStubble 50 = .ok (.bipush 8, 2) := by decide +kernel
theorem dX8_refusedStubble_52 : decode cX8_refusedStubble 52 = .ok (.invokevirtual 229, 3) := by decide +kernel
theorem dX8_refusedStubble_55 : decode cX8_refusedStubble 55 = .ok (.ireturn, 1) := by decide +kernel
theorem dX8_explain_0 : decode cX8_explain 0 = .ok (.aload_n 0, 1) := by decide +kernel
theorem dX8_explain_1 : decode cX8_explain 1 = .ok (.iload_n 2, 1) := by decide +kernel
theorem dX8_explain_2 : decode cX8_explain 2 = .ok (.invokevirtual 233, 3) := by decide +kernel
theorem dX8_explain_5 : decode cX8_explain 5 = .ok (.iload_n 2, 1) := by decide +kernel
theorem dX8_explain_6 : decode cX8_explain 6 = .ok (.if_icmp .ge 11, 3) := by decide +kernel
theorem dX8_explain_9 : decode cX8_explain 9 = .ok (.aload_n 0, 1) := by decide +kernel
theorem dX8_explain_10 : decode cX8_explain 10 = .ok (.getfield 72, 3) := by decide +kernel
theorem dX8_explain_13 : decode cX8_explain 13 = .ok (.invokevirtual 353, 3) := by decide +kernel
theorem dX8_explain_16 : decode cX8_explain 16 = .ok (.return_, 1) := by decide +kernel
theorem dX8_explain_17 : decode cX8_explain 17 = .ok (.aload_n 0, 1) := by decide +kernel
theorem dX8_explain_18 : decode cX8_explain 18 = .ok (.getfield 51, 3) := by decide +kernel
theorem dX8_explain_21 : decode cX8_explain 21 = .ok (.aload_n 0, 1) := by decide +kernel
theorem dX8_explain_22 : decode cX8_explain 22 = .ok (.getfield 27, 3) := by decide +kernel
theorem dX8_explain_25 : decode cX8_explain 25 = .ok (.getfield 161, 3) := by decide +kernel
theorem dX8_explain_28 : decode cX8_explain 28 = .ok (.aload_n 0, 1) := by decide +kernel
theorem dX8_explain_29 : decode cX8_explain 29 = .ok (.getfield 27, 3) := by decide +kernel
theorem dX8_explain_32 : decode cX8_explain 32 = .ok (.getfield 128, 3) := by decide +kernel
theorem dX8_explain_35 : decode cX8_explain 35 = .ok (.iload_n 2, 1) := by decide +kernel
theorem dX8_explain_36 : decode cX8_explain 36 = .ok (.invokevirtual 281, 3) := by decide +kernel
theorem dX8_explain_39 : decode cX8_explain 39 = .ok (.aload_n 0, 1) := by decide +kernel
theorem dX8_explain_40 : decode cX8_explain 40 = .ok (.getfield 58, 3) := by decide +kernel
theorem dX8_explain_43 : decode cX8_explain 43 = .ok (.aload_n 0, 1) := by decide +kernel
theorem dX8_explain_44 : decode cX8_explain 44 = .ok (.getfield 27, 3) := by decide +kernel
theorem dX8_explain_47 : decode cX8_explain 47 = .ok (.iconst 0, 1) := by decide +kernel
theorem dX8_explain_48 : decode cX8_explain 48 = .ok (.iconst (-1), 1) := by decide +kernel
theorem dX8_explain_49 : decode cX8_explain 49 = .ok (.invokevirtual 273, 3) := by decide +kernel
theorem dX8_explain_52 : decode cX8_explain 52 = .ok (.aload_n 0, 1) := by decide +kernel
theorem dX8_explain_53 : decode cX8_explain 53 = .ok (.getfield 72, 3) := by decide +kernel
theorem dX8_explain_56 : decode cX8_explain 56 = .ok (.aload_n 0, 1) := by decide +kernel
theorem dX8_explain_57 : decode cX8_explain 57 = .ok (.getfield 58, 3) := by decide +kernel
theorem dX8_explain_60 : decode cX8_explain 60 = .ok (.aload_n 0, 1) := by decide +kernel
theorem dX8_explain_61 : decode cX8_explain 61 = .ok (.getfield 51, 3) := by decide +kernel
theorem dX8_explain_64 : decode cX8_explain 64 = .ok (.iload_n 2, 1) := by decide +kernel
theorem dX8_explain_65 : decode cX8_explain 65 = .ok (.aload_n 1, 1) := by decide +kernel
theorem dX8_explain_66 : decode cX8_explain 66 = .ok (.invokevirtual 356, 3) := by decide +kernel
theorem dX8_explain_69 : decode cX8_explain 69 = .ok (.return_, 1) := by decide +kernel
theorem dX8_refusedMeeting_0 : decode cX8_refusedMeeting 0 = .ok (.iload_n 1, 1) := by decide +kernel
theorem dX8_refusedMeeting_1 : decode cX8_refusedMeeting 1 = .ok (.invokestatic 182, 3) := by decide +kernel
theorem dX8_refusedMeeting_4 : decode cX8_refusedMeeting 4 = .ok (.ifCond .eq 10, 3) := by decide +kernel
theorem dX8_refusedMeeting_7 : decode cX8_refusedMeeting 7 = .ok (.iload_n 2, 1) := by decide +kernel
theorem dX8_refusedMeeting_8 : decode cX8_refusedMeeting 8 = .ok (.invokestatic 182, 3) := by decide +kernel
theorem dX8_refusedMeeting_11 : decode cX8_refusedMeeting 11 = .ok (.ifCond .ne 6, 3) := by decide +kernel
theorem dX8_refusedMeeting_14 : decode cX8_refusedMeeting 14 = .ok (.bipush (-2), 2) := by decide +kernel
theorem dX8_refusedMeeting_16 : decode cX8_refusedMeeting 16 = .ok (.ireturn, 1) := by decide +kernel
theorem dX8_refusedMeeting_17 : decode cX8_refusedMeeting 17 = .ok (.aload_n 0, 1) := by decide +kernel
theorem dX8_refusedMeeting_18 : decode cX8_refusedMeeting 18 = .ok (.getfield 44, 3) := by decide +kernel
theorem dX8_refusedMeeting_21 : decode cX8_refusedMeeting 21 = .ok (.iload_n 1, 1) := by decide +kernel
theorem dX8_refusedMeeting_22 : decode cX8_refusedMeeting 22 = .ok (.aaload, 1) := by decide +kernel
theorem dX8_refusedMeeting_23 : decode cX8_refusedMeeting 23 = .ok (.getfield 185, 3) := by decide +kernel
theorem dX8_refusedMeeting_26 : decode cX8_refusedMeeting 26 = .ok (.ifCond .ne 15, 3) := by decide +kernel
theorem dX8_refusedMeeting_29 : decode cX8_refusedMeeting 29 = .ok (.aload_n 0, 1) := by decide +kernel
theorem dX8_refusedMeeting_30 : decode cX8_refusedMeeting 30 = .ok (.getfield 44, 3) := by decide +kernel
theorem dX8_refusedMeeting_33 : decode cX8_refusedMeeting 33 = .ok (.iload_n 2, 1) := by decide +kernel
theorem dX8_refusedMeeting_34 : decode cX8_refusedMeeting 34 = .ok (.aaload, 1) := by decide +kernel
theorem dX8_refusedMeeting_35 : decode cX8_refusedMeeting 35 = .ok (.getfield 185, 3) := by decide +kernel
theorem dX8_refusedMeeting_38 : decode cX8_refusedMeeting 38 = .ok (.ifCond .eq 6, 3) := by decide +kernel
theorem dX8_refusedMeeting_41 : decode cX8_refusedMeeting 41 = .ok (.bipush (-6), 2) := by decide +kernel
theorem dX8_refusedMeeting_43 : decode cX8_refusedMeeting 43 = .ok (.ireturn, 1) := by decide +kernel
theorem dX8_refusedMeeting_44 : decode cX8_refusedMeeting 44 = .ok (.aload_n 0, 1) := by decide +kernel
theorem dX8_refusedMeeting_45 : decode cX8_refusedMeeting 45 = .ok (.getfield 27, 3) := by decide +kernel
theorem dX8_refusedMeeting_48 : decode cX8_refusedMeeting 48 = .ok (.getfield 128, 3) := by decide +kernel
theorem dX8_refusedMeeting_51 : decode cX8_refusedMeeting 51 = .ok (.istore_n 3, 1) := by decide +kernel
theorem dX8_refusedMeeting_52 : decode cX8_refusedMeeting 52 = .ok (.iconst 0, 1) := by decide +kernel
theorem dX8_refusedMeeting_53 : decode cX8_refusedMeeting 53 = .ok (.istore 4, 2) := by decide +kernel
theorem dX8_refusedMeeting_55 : decode cX8_refusedMeeting 55 = .ok (.iload 4, 2) := by decide +kernel
theorem dX8_refusedMeeting_57 : decode cX8_refusedMeeting 57 = .ok (.aload_n 0, 1) := by decide +kernel
theorem dX8_refusedMeeting_58 : decode cX8_refusedMeeting 58 = .ok (.getfield 44, 3) := by decide +kernel
theorem dX8_refusedMeeting_61 : decode cX8_refusedMeeting 61 = .ok (.iload_n 1, 1) := by decide +kernel
theorem dX8_refusedMeeting_62 : decode cX8_refusedMeeting 62 = .ok (.aaload, 1) := by decide +kernel
theorem dX8_refusedMeeting_63 : decode cX8_refusedMeeting 63 = .ok (.getfield 193, 3) := by decide +kernel
theorem dX8_refusedMeeting_66 : decode cX8_refusedMeeting 66 = .ok (.if_icmp .ge 37, 3) := by decide +kernel
theorem dX8_refusedMeeting_69 : decode cX8_refusedMeeting 69 = .ok (.aload_n 0, 1) := by decide +kernel
theorem dX8_refusedMeeting_70 : decode cX8_refusedMeeting 70 = .ok (.getfield 27, 3) := by decide +kernel
theorem dX8_refusedMeeting_73 : decode cX8_refusedMeeting 73 = .ok (.iload_n 3, 1) := by decide +kernel
theorem dX8_refusedMeeting_74 : decode cX8_refusedMeeting 74 = .ok (.aload_n 0, 1) := by decide +kernel
theorem dX8_refusedMeeting_75 : decode cX8_refusedMeeting 75 = .ok (.getfield 44, 3) := by decide +kernel
theorem dX8_refusedMeeting_78 : decode cX8_refusedMeeting 78 = .ok (.iload_n 1, 1) := by decide +kernel
theorem dX8_refusedMeeting_79 : decode cX8_refusedMeeting 79 = .ok (.aaload, 1) := by decide +kernel
theorem dX8_refusedMeeting_80 : decode cX8_refusedMeeting 80 = .ok (.iload 4, 2) := by decide +kernel
theorem dX8_refusedMeeting_82 : decode cX8_refusedMeeting 82 = .ok (.invokevirtual 196, 3) := by decide +kernel
theorem dX8_refusedMeeting_85 : decode cX8_refusedMeeting 85 = .ok (.invokevirtual 174, 3) := by decide +kernel
theorem dX8_refusedMeeting_88 : decode cX8_refusedMeeting 88 = .ok (.istore_n 3, 1) := by decide +kernel
theorem dX8_refusedMeeting_89 : decode cX8_refusedMeeting 89 = .ok (.iload_n 3, 1) := by decide +kernel
theorem dX8_refusedMeeting_90 : decode cX8_refusedMeeting 90 = .ok (.iconst (-1), 1) := by decide +kernel
theorem dX8_refusedMeeting_91 : decode cX8_refusedMeeting 91 = .ok (.if_icmp .ne 6, 3) := by decide +kernel
theorem dX8_refusedMeeting_94 : decode cX8_refusedMeeting 94 = .ok (.bipush (-5), 2) := by decide +kernel
theorem dX8_refusedMeeting_96 : decode cX8_refusedMeeting 96 = .ok (.ireturn, 1) := by decide +kernel
theorem dX8_refusedMeeting_97 : decode cX8_refusedMeeting 97 = .ok (.iinc 4 1, 3) := by decide +kernel
theorem dX8_refusedMeeting_100 : decode cX8_refusedMeeting 100 = .ok (.goto (-45), 3) := by decide +kernel
theorem dX8_refusedMeeting_103 : decode cX8_refusedMeeting 103 = .ok (.iconst 0, 1) := by decide +kernel
theorem dX8_refusedMeeting_104 : decode cX8_refusedMeeting 104 = .ok (.ireturn, 1) := by decide +kernel
theorem dX8_firstMeeting_0 : decode cX8_firstMeeting 0 = .ok (.aload_n 0, 1) := by decide +kernel
theorem dX8_firstMeeting_1 : decode cX8_firstMeeting 1 = .ok (.getfield 27, 3) := by decide +kernel
theorem dX8_firstMeeting_4 : decode cX8_firstMeeting 4 = .ok (.getfield 128, 3) := by decide +kernel
theorem dX8_firstMeeting_7 : decode cX8_firstMeeting 7 = .ok (.istore 4, 2) := by decide +kernel
theorem dX8_firstMeeting_9 : decode cX8_firstMeeting 9 = .ok (.iload_n 3, 1) := by decide +kernel
theorem dX8_firstMeeting_10 : decode cX8_firstMeeting 10 = .ok (.aload_n 1, 1) := by decide +kernel
theorem dX8_firstMeeting_11 : decode cX8_firstMeeting 11 = .ok (.getfield 193, 3) := by decide +kernel
theorem dX8_firstMeeting_14 : decode cX8_firstMeeting 14 = .ok (.iadd, 1) := by decide +kernel
theorem dX8_firstMeeting_15 : decode cX8_firstMeeting 15 = .ok (.aload_n 2, 1) := by decide +kernel
theorem dX8_firstMeeting_16 : decode cX8_firstMeeting 16 = .ok (.getfield 193, 3) := by decide +kernel
theorem dX8_firstMeeting_19 : decode cX8_firstMeeting 19 = .ok (.invokestatic 211, 3) := by decide +kernel
theorem dX8_firstMeeting_22 : decode cX8_firstMeeting 22 = .ok (.istore 5, 2) := by decide +kernel
theorem dX8_firstMeeting_24 : decode cX8_firstMeeting 24 = .ok (.iconst 0, 1) := by decide +kernel
theorem dX8_firstMeeting_25 : decode cX8_firstMeeting 25 = .ok (.istore 6, 2) := by decide +kernel
theorem dX8_firstMeeting_27 : decode cX8_firstMeeting 27 = .ok (.iload 6, 2) := by decide +kernel
theorem dX8_firstMeeting_29 : decode cX8_firstMeeting 29 = .ok (.iload 5, 2) := by decide +kernel
theorem dX8_firstMeeting_31 : decode cX8_firstMeeting 31 = .ok (.if_icmp .ge 60, 3) := by decide +kernel
theorem dX8_firstMeeting_34 : decode cX8_firstMeeting 34 = .ok (.iload 6, 2) := by decide +kernel
theorem dX8_firstMeeting_36 : decode cX8_firstMeeting 36 = .ok (.iload_n 3, 1) := by decide +kernel
theorem dX8_firstMeeting_37 : decode cX8_firstMeeting 37 = .ok (.if_icmp .lt 22, 3) := by decide +kernel
theorem dX8_firstMeeting_40 : decode cX8_firstMeeting 40 = .ok (.aload_n 0, 1) := by decide +kernel
theorem dX8_firstMeeting_41 : decode cX8_firstMeeting 41 = .ok (.getfield 27, 3) := by decide +kernel
theorem dX8_firstMeeting_44 : decode cX8_firstMeeting 44 = .ok (.iload 4, 2) := by decide +kernel
theorem dX8_firstMeeting_46 : decode cX8_firstMeeting 46 = .ok (.aload_n 1, 1) := by decide +kernel
theorem dX8_firstMeeting_47 : decode cX8_firstMeeting 47 = .ok (.iload 6, 2) := by decide +kernel
theorem dX8_firstMeeting_49 : decode cX8_firstMeeting 49 = .ok (.iload_n 3, 1) := by decide +kernel
theorem dX8_firstMeeting_50 : decode cX8_firstMeeting 50 = .ok (.isub, 1) := by decide +kernel
theorem dX8_firstMeeting_51 : decode cX8_firstMeeting 51 = .ok (.invokevirtual 196, 3) := by decide +kernel
theorem dX8_firstMeeting_54 : decode cX8_firstMeeting 54 = .ok (.invokevirtual 174, 3) := by decide +kernel
theorem dX8_firstMeeting_57 : decode cX8_firstMeeting 57 = .ok (.istore 4, 2) := by decide +kernel
theorem dX8_firstMeeting_59 : decode cX8_firstMeeting 59 = .ok (.iload 4, 2) := by decide +kernel
theorem dX8_firstMeeting_61 : decode cX8_firstMeeting 61 = .ok (.aload_n 0, 1) := by decide +kernel
theorem dX8_firstMeeting_62 : decode cX8_firstMeeting 62 = .ok (.getfield 27, 3) := by decide +kernel
theorem dX8_firstMeeting_65 : decode cX8_firstMeeting 65 = .ok (.getfield 346, 3) := by decide +kernel
theorem dX8_firstMeeting_68 : decode cX8_firstMeeting 68 = .ok (.if_icmp .ne 17, 3) := by decide +kernel
theorem dX8_firstMeeting_71 : decode cX8_firstMeeting 71 = .ok (.aload_n 2, 1) := by decide +kernel
theorem dX8_firstMeeting_72 : decode cX8_firstMeeting 72 = .ok (.iload 6, 2) := by decide +kernel
theorem dX8_firstMeeting_74 : decode cX8_firstMeeting 74 = .ok (.invokevirtual 196, 3) := by decide +kernel
theorem dX8_firstMeeting_77 : decode cX8_firstMeeting 77 = .ok (.lconst 0, 1) := by decide +kernel
theorem dX8_firstMeeting_78 : decode cX8_firstMeeting 78 = .ok (.lcmp, 1) := by decide +kernel
theorem dX8_firstMeeting_79 : decode cX8_firstMeeting 79 = .ok (.ifCond .ne 6, 3) := by decide +kernel
theorem dX8_firstMeeting_82 : decode cX8_firstMeeting 82 = .ok (.iload 6, 2) := by decide +kernel
theorem dX8_firstMeeting_84 : decode cX8_firstMeeting 84 = .ok (.ireturn, 1) := by decide +kernel
theorem dX8_firstMeeting_85 : decode cX8_firstMeeting 85 = .ok (.iinc 6 1, 3) := by decide +kernel
theorem dX8_firstMeeting_88 : decode cX8_firstMeeting 88 = .ok (.goto (-61), 3) := by decide +kernel
theorem dX8_firstMeeting_91 : decode cX8_firstMeeting 91 = .ok (.iconst (-1), 1) := by decide +kernel
theorem dX8_firstMeeting_92 : decode cX8_firstMeeting 92 = .ok (.ireturn, 1) := by decide +kernel
theorem dX9_within_0 : decode cX9_within 0 = .ok (.lload_n 0, 1) := by decide +kernel
theorem dX9_within_1 : decode cX9_within 1 = .ok (.lload_n 2, 1) := by decide +kernel
theorem dX9_within_2 : decode cX9_within 2 = .ok (.lcmp, 1) := by decide +kernel
theorem dX9_within_3 : decode cX9_within 3 = .ok (.ifCond .lt 14, 3) := by decide +kernel
theorem dX9_within_6 : decode cX9_within 6 = .ok (.lload_n 0, 1) := by decide +kernel
theorem dX9_within_7 : decode cX9_within 7 = .ok (.lload 4, 2) := by decide +kernel
theorem dX9_within_9 : decode cX9_within 9 = .ok (.lcmp, 1) := by decide +kernel
theorem dX9_within_10 : decode cX9_within 10 = .ok (.ifCond .gt 7, 3) := by decide +kernel
theorem dX9_within_13 : decode cX9_within 13 = .ok (.iconst 1, 1) := by decide +kernel
theorem dX9_within_14 : decode cX9_within 14 = .ok (.goto 4, 3) := by decide +kernel
theorem dX9_within_17 : decode cX9_within 17 = .ok (.iconst 0, 1) := by decide +kernel
theorem dX9_within_18 : decode cX9_within 18 = .ok (.ireturn, 1) := by decide +kernel
theorem dX9_init_0 : decode cX9_init 0 = .ok (.aload_n 0, 1) := by decide +kernel
theorem dX9_init_1 : decode cX9_init 1 = .ok (.invokespecial 7, 3) := by decide +kernel
theorem dX9_init_4 : decode cX9_init 4 = .ok (.aload_n 0, 1) := by decide +kernel
theorem dX9_init_5 : decode cX9_init 5 = .ok (.sipush 288, 3) := by decide +kernel
theorem dX9_init_8 : decode cX9_init 8 = .ok (.newarray .int, 2) := by decide +kernel
theorem dX9_init_10 : decode cX9_init 10 = .ok (.putfield 13, 3) := by decide +kernel
theorem dX9_init_13 : decode cX9_init 13 = .ok (.aload_n 0, 1) := by decide +kernel
theorem dX9_init_14 : decode cX9_init 14 = .ok (.iconst 2, 1) := by decide +kernel
theorem dX9_init_15 : decode cX9_init 15 = .ok (.newarray .boolean, 2) := by decide +kernel
theorem dX9_init_17 : decode cX9_init 17 = .ok (.putfield 17, 3) := by decide +kernel
theorem dX9_init_20 : decode cX9_init 20 = .ok (.aload_n 0, 1) := by decide +kernel
theorem dX9_init_21 : decode cX9_init 21 = .ok (.sipush 900, 3) := by decide +kernel
theorem dX9_init_24 : decode cX9_init 24 = .ok (.newarray .int, 2) := by decide +kernel
theorem dX9_init_26 : decode cX9_init 26 = .ok (.putfield 21, 3) := by decide +kernel
theorem dX9_init_29 : decode cX9_init 29 = .ok (.aload_n 0, 1) := by decide +kernel
theorem dX9_init_30 : decode cX9_init 30 = .ok (.bipush 96, 2) := by decide +kernel
theorem dX9_init_32 : decode cX9_init 32 = .ok (.newarray .int, 2) := by decide +kernel
theorem dX9_init_34 : decode cX9_init 34 = .ok (.putfield 24, 3) := by decide +kernel
theorem dX9_init_37 : decode cX9_init 37 = .ok (.aload_n 0, 1) := by decide +kernel
theorem dX9_init_38 : decode cX9_init 38 = .ok (.iconst (-1), 1) := by decide +kernel
theorem dX9_init_39 : decode cX9_init 39 = .ok (.putfield 27, 3) := by decide +kernel
theorem dX9_init_42 : decode cX9_init 42 = .ok (.aload_n 0, 1) := by decide +kernel
theorem dX9_init_43 : decode cX9_init 43 = .ok (.bipush 6, 2) := by decide +kernel
theorem dX9_init_45 : decode cX9_init 45 = .ok (.newarray .int, 2) := by decide +kernel
theorem dX9_init_47 : decode cX9_init 47 = .ok (.putfield 30, 3) := by decide +kernel
theorem dX9_init_50 : decode cX9_init 50 = .ok (.aload_n 0, 1) := by decide +kernel
theorem dX9_init_51 : decode cX9_init 51 = .ok (.sipush 960, 3) := by decide +kernel
theorem dX9_init_54 : decode cX9_init 54 = .ok (.newarray .int, 2) := by decide +kernel
theorem dX9_init_56 : decode cX9_init 56 = .ok (.putfield 33, 3) := by decide +kernel
theorem dX9_init_59 : decode cX9_init 59 = .ok (.aload_n 0, 1) := by decide +kernel
theorem dX9_init_60 : decode cX9_init 60 = .ok (.bipush 8, 2) := by decide +kernel
theorem dX9_init_62 : decode cX9_init 62 = .ok (.newarray .int, 2) := by decide +kernel
theorem dX9_init_64 : decode cX9_init 64 = .ok (.putfield 36, 3) := by decide +kernel
theorem dX9_init_67 : decode cX9_init 67 = .ok (.aload_n 0, 1) := by decide +kernel
theorem dX9_init_68 : decode cX9_init 68 = .ok (.bipush 8, 2) := by decide +kernel
theorem dX9_init_70 : decode cX9_init 70 = .ok (.newarray .int, 2) := by decide +kernel
theorem dX9_init_72 : decode cX9_init 72 = .ok (.putfield 39, 3) := by decide +kernel
theorem dX9_init_75 : decode cX9_init 75 = .ok (.aload_n 0, 1) := by decide +kernel
theorem dX9_init_76 : decode cX9_init 76 = .ok (.bipush 6, 2) := by decide +kernel
theorem dX9_init_78 : decode cX9_init 78 = .ok (.newarray .int, 2) := by decide +kernel
theorem dX9_init_80 : decode cX9_init 80 = .ok (.putfield 42, 3) := by decide +kernel
theorem dX9_init_83 : decode cX9_init 83 = .ok (.aload_n 0, 1) := by decide +kernel
theorem dX9_init_84 : decode cX9_init 84 = .ok (.sipush 11664, 3) := by decide +kernel
theorem dX9_init_87 : decode cX9_init 87 = .ok (.newarray .int, 2) := by decide +kernel
theorem dX9_init_89 : decode cX9_init 89 = .ok (.putfield 45, 3) := by decide +kernel
theorem dX9_init_92 : decode cX9_init 92 = .ok (.aload_n 0, 1) := by decide +kernel
theorem dX9_init_93 : decode cX9_init 93 = .ok (.bipush 16, 2) := by decide +kernel
theorem dX9_init_95 : decode cX9_init 95 = .ok (.newarray .int, 2) := by decide +kernel
theorem dX9_init_97 : decode cX9_init 97 = .ok (.putfield 48, 3) := by decide +kernel
theorem dX9_init_100 : decode cX9_init 100 = .ok (.aload_n 0, 1) := by decide +kernel
theorem dX9_init_101 : decode cX9_init 101 = .ok (.iconst 4, 1) := by decide +kernel
theorem dX9_init_102 : decode cX9_init 102 = .ok (.newarray .int, 2) := by decide +kernel
theorem dX9_init_104 : decode cX9_init 104 = .ok (.dup, 1) := by decide +kernel
theorem dX9_init_105 : decode cX9_init 105 = .ok (.iconst 0, 1) := by decide +kernel
theorem dX9_init_106 : decode cX9_init 106 = .ok (.iconst (-1), 1) := by decide +kernel
theorem dX9_init_107 : decode cX9_init 107 = .ok (.iastore, 1) := by decide +kernel
theorem dX9_init_108 : decode cX9_init 108 = .ok (.dup, 1) := by decide +kernel
theorem dX9_init_109 : decode cX9_init 109 = .ok (.iconst 1, 1) := by decide +kernel
theorem dX9_init_110 : decode cX9_init 110 = .ok (.iconst (-1), 1) := by decide +kernel
theorem dX9_init_111 : decode cX9_init 111 = .ok (.iastore, 1) := by decide +kernel
theorem dX9_init_112 : decode cX9_init 112 = .ok (.dup, 1) := by decide +kernel
theorem dX9_init_113 : decode cX9_init 113 = .ok (.iconst 2, 1) := by decide +kernel
theorem dX9_init_114 : decode cX9_init 114 = .ok (.iconst (-1), 1) := by decide +kernel
theorem dX9_init_115 : decode cX9_init 115 = .ok (.iastore, 1) := by decide +kernel
theorem dX9_init_116 : decode cX9_init 116 = .ok (.dup, 1) := by decide +kernel
theorem dX9_init_117 : decode cX9_init 117 = .ok (.iconst 3, 1) := by decide +kernel
theorem dX9_init_118 : decode cX9_init 118 = .ok (.iconst (-1), 1) := by decide +kernel
theorem dX9_init_119 : decode cX9_init 119 = .ok (.iastore, 1) := by decide +kernel
theorem dX9_init_120 : decode cX9_init 120 = .ok (.putfield 51, 3) := by decide +kernel
theorem dX9_init_123 : decode cX9_init 123 = .ok (.aload_n 0, 1) := by decide +kernel
theorem dX9_init_124 : decode cX9_init 124 = .ok (.iconst 4, 1) := by decide +kernel
theorem dX9_init_125 : decode cX9_init 125 = .ok (.newarray .int, 2) := by decide +kernel
theorem dX9_init_127 : decode cX9_init 127 = .ok (.putfield 54, 3) := by decide +kernel
theorem dX9_init_130 : decode cX9_init 130 = .ok (.aload_n 0, 1) := by decide +kernel
theorem dX9_init_131 : decode cX9_init 131 = .ok (.sipush 160, 3) := by decide +kernel
theorem dX9_init_134 : decode cX9_init 134 = .ok (.newarray .long, 2) := by decide +kernel
theorem dX9_init_136 : decode cX9_init 136 = .ok (.putfield 57, 3) := by decide +kernel
theorem dX9_init_139 : decode cX9_init 139 = .ok (.aload_n 0, 1) := by decide +kernel
theorem dX9_init_140 : decode cX9_init 140 = .ok (.getfield 13, 3) := by decide +kernel
theorem dX9_init_143 : decode cX9_init 143 = .ok (.invokestatic 61, 3) := by decide +kernel
theorem dX9_init_146 : decode cX9_init 146 = .ok (.return_, 1) := by decide +kernel
theorem dX9_lampIn_0 : decode cX9_lampIn 0 = .ok (.aload_n 0, 1) := by decide +kernel
theorem dX9_lampIn_1 : decode cX9_lampIn 1 = .ok (.iconst 2, 1) := by decide +kernel
theorem dX9_lampIn_2 : decode cX9_lampIn 2 = .ok (.iconst 0, 1) := by decide +kernel
theorem dX9_lampIn_3 : decode cX9_lampIn 3 = .ok (.iastore, 1) := by decide +kernel
theorem dX9_lampIn_4 : decode cX9_lampIn 4 = .ok (.aload_n 0, 1) := by decide +kernel
theorem dX9_lampIn_5 : decode cX9_lampIn 5 = .ok (.iconst 3, 1) := by decide +kernel
theorem dX9_lampIn_6 : decode cX9_lampIn 6 = .ok (.bipush 6, 2) := by decide +kernel
theorem dX9_lampIn_8 : decode cX9_lampIn 8 = .ok (.iastore, 1) := by decide +kernel
theorem dX9_lampIn_9 : decode cX9_lampIn 9 = .ok (.aload_n 0, 1) := by decide +kernel
theorem dX9_lampIn_10 : decode cX9_lampIn 10 = .ok (.iconst 4, 1) := by decide +kernel
theorem dX9_lampIn_11 : decode cX9_lampIn 11 = .ok (.bipush 6, 2) := by decide +kernel
theorem dX9_lampIn_13 : decode cX9_lampIn 13 = .ok (.iastore, 1) := by decide +kernel
theorem dX9_lampIn_14 : decode cX9_lampIn 14 = .ok (.aload_n 0, 1) := by decide +kernel
