theorem dX9_image_12 : decode cX9_image 12 = .ok (.ifCond .ne 6, 3) := by decide +kernel
theorem dX9_image_15 : decode cX9_image 15 = .ok (.bipush (-2), 2) := by decide +kernel
theorem dX9_image_17 : decode cX9_image 17 = .ok (.ireturn, 1) := by decide +kernel
theorem dX9_image_18 : decode cX9_image 18 = .ok (.iconst 0, 1) := by decide +kernel
theorem dX9_image_19 : decode cX9_image 19 = .ok (.istore_n 2, 1) := by decide +kernel
theorem dX9_image_20 : decode cX9_image 20 = .ok (.iload_n 2, 1) := by decide +kernel
theorem dX9_image_21 : decode cX9_image 21 = .ok (.bipush 96, 2) := by decide +kernel
theorem dX9_image_23 : decode cX9_image 23 = .ok (.if_icmp .ge 28, 3) := by decide +kernel
theorem dX9_image_26 : decode cX9_image 26 = .ok (.aload_n 0, 1) := by decide +kernel
theorem dX9_image_27 : decode cX9_image 27 = .ok (.getfield 13, 3) := by decide +kernel
theorem dX9_image_30 : decode cX9_image 30 = .ok (.bipush 96, 2) := by decide +kernel
theorem dX9_image_32 : decode cX9_image 32 = .ok (.iload_n 1, 1) := by decide +kernel
theorem dX9_image_33 : decode cX9_image 33 = .ok (.iconst 1, 1) := by decide +kernel
theorem dX9_image_34 : decode cX9_image 34 = .ok (.iadd, 1) := by decide +kernel
theorem dX9_image_35 : decode cX9_image 35 = .ok (.imul, 1) := by decide +kernel
theorem dX9_image_36 : decode cX9_image 36 = .ok (.iload_n 2, 1) := by decide +kernel
theorem dX9_image_37 : decode cX9_image 37 = .ok (.iadd, 1) := by decide +kernel
theorem dX9_image_38 : decode cX9_image 38 = .ok (.aload_n 0, 1) := by decide +kernel
theorem dX9_image_39 : decode cX9_image 39 = .ok (.getfield 13, 3) := by decide +kernel
theorem dX9_image_42 : decode cX9_image 42 = .ok (.iload_n 2, 1) := by decide +kernel
theorem dX9_image_43 : decode cX9_image 43 = .ok (.iaload, 1) := by decide +kernel
theorem dX9_image_44 : decode cX9_image 44 = .ok (.iastore, 1) := by decide +kernel
theorem dX9_image_45 : decode cX9_image 45 = .ok (.iinc 2 1, 3) := by decide +kernel
theorem dX9_image_48 : decode cX9_image 48 = .ok (.goto (-28), 3) := by decide +kernel
theorem dX9_image_51 : decode cX9_image 51 = .ok (.aload_n 0, 1) := by decide +kernel
theorem dX9_image_52 : decode cX9_image 52 = .ok (.getfield 17, 3) := by decide +kernel
theorem dX9_image_55 : decode cX9_image 55 = .ok (.iload_n 1, 1) := by decide +kernel
theorem dX9_image_56 : decode cX9_image 56 = .ok (.iconst 1, 1) := by decide +kernel
theorem dX9_image_57 : decode cX9_image 57 = .ok (.bastore, 1) := by decide +kernel
theorem dX9_image_58 : decode cX9_image 58 = .ok (.iconst 0, 1) := by decide +kernel
theorem dX9_image_59 : decode cX9_image 59 = .ok (.ireturn, 1) := by decide +kernel
theorem dX9_restore_0 : decode cX9_restore 0 = .ok (.aload_n 0, 1) := by decide +kernel
theorem dX9_restore_1 : decode cX9_restore 1 = .ok (.iconst 0, 1) := by decide +kernel
theorem dX9_restore_2 : decode cX9_restore 2 = .ok (.putfield 1, 3) := by decide +kernel
theorem dX9_restore_5 : decode cX9_restore 5 = .ok (.iload_n 1, 1) := by decide +kernel
theorem dX9_restore_6 : decode cX9_restore 6 = .ok (.i2l, 1) := by decide +kernel
theorem dX9_restore_7 : decode cX9_restore 7 = .ok (.lconst 0, 1) := by decide +kernel
theorem dX9_restore_8 : decode cX9_restore 8 = .ok (.lconst 1, 1) := by decide +kernel
theorem dX9_restore_9 : decode cX9_restore 9 = .ok (.invokestatic 128, 3) := by decide +kernel
theorem dX9_restore_12 : decode cX9_restore 12 = .ok (.ifCond .ne 6, 3) := by decide +kernel
theorem dX9_restore_15 : decode cX9_restore 15 = .ok (.bipush (-2), 2) := by decide +kernel
theorem dX9_restore_17 : decode cX9_restore 17 = .ok (.ireturn, 1) := by decide +kernel
theorem dX9_restore_18 : decode cX9_restore 18 = .ok (.aload_n 0, 1) := by decide +kernel
theorem dX9_restore_19 : decode cX9_restore 19 = .ok (.getfield 17, 3) := by decide +kernel
theorem dX9_restore_22 : decode cX9_restore 22 = .ok (.iload_n 1, 1) := by decide +kernel
theorem dX9_restore_23 : decode cX9_restore 23 = .ok (.baload, 1) := by decide +kernel
theorem dX9_restore_24 : decode cX9_restore 24 = .ok (.ifCond .ne 6, 3) := by decide +kernel
theorem dX9_restore_27 : decode cX9_restore 27 = .ok (.bipush (-5), 2) := by decide +kernel
theorem dX9_restore_29 : decode cX9_restore 29 = .ok (.ireturn, 1) := by decide +kernel
theorem dX9_restore_30 : decode cX9_restore 30 = .ok (.iconst 0, 1) := by decide +kernel
theorem dX9_restore_31 : decode cX9_restore 31 = .ok (.istore_n 2, 1) := by decide +kernel
theorem dX9_restore_32 : decode cX9_restore 32 = .ok (.iload_n 2, 1) := by decide +kernel
theorem dX9_restore_33 : decode cX9_restore 33 = .ok (.bipush 96, 2) := by decide +kernel
theorem dX9_restore_35 : decode cX9_restore 35 = .ok (.if_icmp .ge 28, 3) := by decide +kernel
theorem dX9_restore_38 : decode cX9_restore 38 = .ok (.aload_n 0, 1) := by decide +kernel
theorem dX9_restore_39 : decode cX9_restore 39 = .ok (.getfield 13, 3) := by decide +kernel
theorem dX9_restore_42 : decode cX9_restore 42 = .ok (.iload_n 2, 1) := by decide +kernel
theorem dX9_restore_43 : decode cX9_restore 43 = .ok (.aload_n 0, 1) := by decide +kernel
theorem dX9_restore_44 : decode cX9_restore 44 = .ok (.getfield 13, 3) := by decide +kernel
theorem dX9_restore_47 : decode cX9_restore 47 = .ok (.bipush 96, 2) := by decide +kernel
theorem dX9_restore_49 : decode cX9_restore 49 = .ok (.iload_n 1, 1) := by decide +kernel
theorem dX9_restore_50 : decode cX9_restore 50 = .ok (.iconst 1, 1) := by decide +kernel
theorem dX9_restore_51 : decode cX9_restore 51 = .ok (.iadd, 1) := by decide +kernel
theorem dX9_restore_52 : decode cX9_restore 52 = .ok (.imul, 1) := by decide +kernel
theorem dX9_restore_53 : decode cX9_restore 53 = .ok (.iload_n 2, 1) := by decide +kernel
theorem dX9_restore_54 : decode cX9_restore 54 = .ok (.iadd, 1) := by decide +kernel
theorem dX9_restore_55 : decode cX9_restore 55 = .ok (.iaload, 1) := by decide +kernel
theorem dX9_restore_56 : decode cX9_restore 56 = .ok (.iastore, 1) := by decide +kernel
theorem dX9_restore_57 : decode cX9_restore 57 = .ok (.iinc 2 1, 3) := by decide +kernel
theorem dX9_restore_60 : decode cX9_restore 60 = .ok (.goto (-28), 3) := by decide +kernel
theorem dX9_restore_63 : decode cX9_restore 63 = .ok (.iconst 0, 1) := by decide +kernel
theorem dX9_restore_64 : decode cX9_restore 64 = .ok (.ireturn, 1) := by decide +kernel
theorem dX9_sumOf_0 : decode cX9_sumOf 0 = .ok (.iconst 0, 1) := by decide +kernel
theorem dX9_sumOf_1 : decode cX9_sumOf 1 = .ok (.istore_n 2, 1) := by decide +kernel
theorem dX9_sumOf_2 : decode cX9_sumOf 2 = .ok (.iconst 0, 1) := by decide +kernel
theorem dX9_sumOf_3 : decode cX9_sumOf 3 = .ok (.istore_n 3, 1) := by decide +kernel
theorem dX9_sumOf_4 : decode cX9_sumOf 4 = .ok (.iload_n 3, 1) := by decide +kernel
theorem dX9_sumOf_5 : decode cX9_sumOf 5 = .ok (.aload_n 0, 1) := by decide +kernel
theorem dX9_sumOf_6 : decode cX9_sumOf 6 = .ok (.getfield 13, 3) := by decide +kernel
theorem dX9_sumOf_9 : decode cX9_sumOf 9 = .ok (.iconst 0, 1) := by decide +kernel
theorem dX9_sumOf_10 : decode cX9_sumOf 10 = .ok (.iaload, 1) := by decide +kernel
theorem dX9_sumOf_11 : decode cX9_sumOf 11 = .ok (.if_icmp .ge 20, 3) := by decide +kernel
theorem dX9_sumOf_14 : decode cX9_sumOf 14 = .ok (.iload_n 2, 1) := by decide +kernel
theorem dX9_sumOf_15 : decode cX9_sumOf 15 = .ok (.aload_n 0, 1) := by decide +kernel
theorem dX9_sumOf_16 : decode cX9_sumOf 16 = .ok (.getfield 13, 3) := by decide +kernel
theorem dX9_sumOf_19 : decode cX9_sumOf 19 = .ok (.iload_n 1, 1) := by decide +kernel
theorem dX9_sumOf_20 : decode cX9_sumOf 20 = .ok (.iload_n 3, 1) := by decide +kernel
theorem dX9_sumOf_21 : decode cX9_sumOf 21 = .ok (.iadd, 1) := by decide +kernel
theorem dX9_sumOf_22 : decode cX9_sumOf 22 = .ok (.iaload, 1) := by decide +kernel
theorem dX9_sumOf_23 : decode cX9_sumOf 23 = .ok (.iadd, 1) := by decide +kernel
theorem dX9_sumOf_24 : decode cX9_sumOf 24 = .ok (.istore_n 2, 1) := by decide +kernel
theorem dX9_sumOf_25 : decode cX9_sumOf 25 = .ok (.iinc 3 1, 3) := by decide +kernel
theorem dX9_sumOf_28 : decode cX9_sumOf 28 = .ok (.goto (-24), 3) := by decide +kernel
theorem dX9_sumOf_31 : decode cX9_sumOf 31 = .ok (.iload_n 2, 1) := by decide +kernel
theorem dX9_sumOf_32 : decode cX9_sumOf 32 = .ok (.ireturn, 1) := by decide +kernel
theorem dX9_count_0 : decode cX9_count 0 = .ok (.aload_n 0, 1) := by decide +kernel
theorem dX9_count_1 : decode cX9_count 1 = .ok (.iconst 0, 1) := by decide +kernel
theorem dX9_count_2 : decode cX9_count 2 = .ok (.putfield 1, 3) := by decide +kernel
theorem dX9_count_5 : decode cX9_count 5 = .ok (.iload_n 1, 1) := by decide +kernel
theorem dX9_count_6 : decode cX9_count 6 = .ok (.tableswitch 105 2 12 #[85, 105, 105, 105, 105, 105, 105, 58, 65, 72, 77], 58) := by decide +kernel
theorem dX9_count_64 : decode cX9_count 64 = .ok (.aload_n 0, 1) := by decide +kernel
theorem dX9_count_65 : decode cX9_count 65 = .ok (.bipush 16, 2) := by decide +kernel
theorem dX9_count_67 : decode cX9_count 67 = .ok (.invokevirtual 335, 3) := by decide +kernel
theorem dX9_count_70 : decode cX9_count 70 = .ok (.ireturn, 1) := by decide +kernel
theorem dX9_count_71 : decode cX9_count 71 = .ok (.aload_n 0, 1) := by decide +kernel
theorem dX9_count_72 : decode cX9_count 72 = .ok (.bipush 80, 2) := by decide +kernel
theorem dX9_count_74 : decode cX9_count 74 = .ok (.invokevirtual 335, 3) := by decide +kernel
theorem dX9_count_77 : decode cX9_count 77 = .ok (.ireturn, 1) := by decide +kernel
theorem dX9_count_78 : decode cX9_count 78 = .ok (.aload_n 0, 1) := by decide +kernel
theorem dX9_count_79 : decode cX9_count 79 = .ok (.getfield 68, 3) := by decide +kernel
theorem dX9_count_82 : decode cX9_count 82 = .ok (.ireturn, 1) := by decide +kernel
theorem dX9_count_83 : decode cX9_count 83 = .ok (.aload_n 0, 1) := by decide +kernel
theorem dX9_count_84 : decode cX9_count 84 = .ok (.getfield 13, 3) := by decide +kernel
theorem dX9_count_87 : decode cX9_count 87 = .ok (.bipush 9, 2) := by decide +kernel
theorem dX9_count_89 : decode cX9_count 89 = .ok (.iaload, 1) := by decide +kernel
theorem dX9_count_90 : decode cX9_count 90 = .ok (.ireturn, 1) := by decide +kernel
theorem dX9_count_91 : decode cX9_count 91 = .ok (.aload_n 0, 1) := by decide +kernel
theorem dX9_count_92 : decode cX9_count 92 = .ok (.getfield 13, 3) := by decide +kernel
theorem dX9_count_95 : decode cX9_count 95 = .ok (.iconst 0, 1) := by decide +kernel
theorem dX9_count_96 : decode cX9_count 96 = .ok (.iaload, 1) := by decide +kernel
theorem dX9_count_97 : decode cX9_count 97 = .ok (.ifCond .ne 7, 3) := by decide +kernel
theorem dX9_count_100 : decode cX9_count 100 = .ok (.iconst (-1), 1) := by decide +kernel
theorem dX9_count_101 : decode cX9_count 101 = .ok (.goto 9, 3) := by decide +kernel
theorem dX9_count_104 : decode cX9_count 104 = .ok (.aload_n 0, 1) := by decide +kernel
theorem dX9_count_105 : decode cX9_count 105 = .ok (.getfield 13, 3) := by decide +kernel
theorem dX9_count_108 : decode cX9_count 108 = .ok (.iconst 2, 1) := by decide +kernel
theorem dX9_count_109 : decode cX9_count 109 = .ok (.iaload, 1) := by decide +kernel
theorem dX9_count_110 : decode cX9_count 110 = .ok (.ireturn, 1) := by decide +kernel
theorem dX9_count_111 : decode cX9_count 111 = .ok (.iload_n 1, 1) := by decide +kernel
theorem dX9_count_112 : decode cX9_count 112 = .ok (.i2l, 1) := by decide +kernel
theorem dX9_count_113 : decode cX9_count 113 = .ok (.lconst 0, 1) := by decide +kernel
theorem dX9_count_114 : decode cX9_count 114 = .ok (.ldc2_w 267, 3) := by decide +kernel
theorem dX9_count_117 : decode cX9_count 117 = .ok (.invokestatic 128, 3) := by decide +kernel
theorem dX9_count_120 : decode cX9_count 120 = .ok (.ifCond .eq 12, 3) := by decide +kernel
theorem dX9_count_123 : decode cX9_count 123 = .ok (.aload_n 0, 1) := by decide +kernel
theorem dX9_count_124 : decode cX9_count 124 = .ok (.getfield 13, 3) := by decide +kernel
theorem dX9_count_127 : decode cX9_count 127 = .ok (.iload_n 1, 1) := by decide +kernel
theorem dX9_count_128 : decode cX9_count 128 = .ok (.iaload, 1) := by decide +kernel
theorem dX9_count_129 : decode cX9_count 129 = .ok (.goto 4, 3) := by decide +kernel
theorem dX9_count_132 : decode cX9_count 132 = .ok (.iconst (-1), 1) := by decide +kernel
theorem dX9_count_133 : decode cX9_count 133 = .ok (.ireturn, 1) := by decide +kernel
theorem dJ6_numberOfLeadingZeros_0f7a4_0 : decode cJ6_numberOfLeadingZeros_0f7a4 0 = .ok (.iload_n 0, 1) := by decide +kernel
theorem dJ6_numberOfLeadingZeros_0f7a4_1 : decode cJ6_numberOfLeadingZeros_0f7a4 1 = .ok (.ifCond .gt 14, 3) := by decide +kernel
theorem dJ6_numberOfLeadingZeros_0f7a4_4 : decode cJ6_numberOfLeadingZeros_0f7a4 4 = .ok (.iload_n 0, 1) := by decide +kernel
theorem dJ6_numberOfLeadingZeros_0f7a4_5 : decode cJ6_numberOfLeadingZeros_0f7a4 5 = .ok (.ifCond .ne 8, 3) := by decide +kernel
theorem dJ6_numberOfLeadingZeros_0f7a4_8 : decode cJ6_numberOfLeadingZeros_0f7a4 8 = .ok (.bipush 32, 2) := by decide +kernel
theorem dJ6_numberOfLeadingZeros_0f7a4_10 : decode cJ6_numberOfLeadingZeros_0f7a4 10 = .ok (.goto 4, 3) := by decide +kernel
theorem dJ6_numberOfLeadingZeros_0f7a4_13 : decode cJ6_numberOfLeadingZeros_0f7a4 13 = .ok (.iconst 0, 1) := by decide +kernel
theorem dJ6_numberOfLeadingZeros_0f7a4_14 : decode cJ6_numberOfLeadingZeros_0f7a4 14 = .ok (.ireturn, 1) := by decide +kernel
theorem dJ6_numberOfLeadingZeros_0f7a4_15 : decode cJ6_numberOfLeadingZeros_0f7a4 15 = .ok (.bipush 31, 2) := by decide +kernel
theorem dJ6_numberOfLeadingZeros_0f7a4_17 : decode cJ6_numberOfLeadingZeros_0f7a4 17 = .ok (.istore_n 1, 1) := by decide +kernel
theorem dJ6_numberOfLeadingZeros_0f7a4_18 : decode cJ6_numberOfLeadingZeros_0f7a4 18 = .ok (.iload_n 0, 1) := by decide +kernel
theorem dJ6_numberOfLeadingZeros_0f7a4_19 : decode cJ6_numberOfLeadingZeros_0f7a4 19 = .ok (.ldc_w 264, 3) := by decide +kernel
theorem dJ6_numberOfLeadingZeros_0f7a4_22 : decode cJ6_numberOfLeadingZeros_0f7a4 22 = .ok (.if_icmp .lt 11, 3) := by decide +kernel
theorem dJ6_numberOfLeadingZeros_0f7a4_25 : decode cJ6_numberOfLeadingZeros_0f7a4 25 = .ok (.iinc 1 (-16), 3) := by decide +kernel
theorem dJ6_numberOfLeadingZeros_0f7a4_28 : decode cJ6_numberOfLeadingZeros_0f7a4 28 = .ok (.iload_n 0, 1) := by decide +kernel
theorem dJ6_numberOfLeadingZeros_0f7a4_29 : decode cJ6_numberOfLeadingZeros_0f7a4 29 = .ok (.bipush 16, 2) := by decide +kernel
theorem dJ6_numberOfLeadingZeros_0f7a4_31 : decode cJ6_numberOfLeadingZeros_0f7a4 31 = .ok (.iushr, 1) := by decide +kernel
theorem dJ6_numberOfLeadingZeros_0f7a4_32 : decode cJ6_numberOfLeadingZeros_0f7a4 32 = .ok (.istore_n 0, 1) := by decide +kernel
theorem dJ6_numberOfLeadingZeros_0f7a4_33 : decode cJ6_numberOfLeadingZeros_0f7a4 33 = .ok (.iload_n 0, 1) := by decide +kernel
theorem dJ6_numberOfLeadingZeros_0f7a4_34 : decode cJ6_numberOfLeadingZeros_0f7a4 34 = .ok (.sipush 256, 3) := by decide +kernel
theorem dJ6_numberOfLeadingZeros_0f7a4_37 : decode cJ6_numberOfLeadingZeros_0f7a4 37 = .ok (.if_icmp .lt 11, 3) := by decide +kernel
theorem dJ6_numberOfLeadingZeros_0f7a4_40 : decode cJ6_numberOfLeadingZeros_0f7a4 40 = .ok (.iinc 1 (-8), 3) := by decide +kernel
theorem dJ6_numberOfLeadingZeros_0f7a4_43 : decode cJ6_numberOfLeadingZeros_0f7a4 43 = .ok (.iload_n 0, 1) := by decide +kernel
theorem dJ6_numberOfLeadingZeros_0f7a4_44 : decode cJ6_numberOfLeadingZeros_0f7a4 44 = .ok (.bipush 8, 2) := by decide +kernel
theorem dJ6_numberOfLeadingZeros_0f7a4_46 : decode cJ6_numberOfLeadingZeros_0f7a4 46 = .ok (.iushr, 1) := by decide +kernel
theorem dJ6_numberOfLeadingZeros_0f7a4_47 : decode cJ6_numberOfLeadingZeros_0f7a4 47 = .ok (.istore_n 0, 1) := by decide +kernel
theorem dJ6_numberOfLeadingZeros_0f7a4_48 : decode cJ6_numberOfLeadingZeros_0f7a4 48 = .ok (.iload_n 0, 1) := by decide +kernel
theorem dJ6_numberOfLeadingZeros_0f7a4_49 : decode cJ6_numberOfLeadingZeros_0f7a4 49 = .ok (.bipush 16, 2) := by decide +kernel
theorem dJ6_numberOfLeadingZeros_0f7a4_51 : decode cJ6_numberOfLeadingZeros_0f7a4 51 = .ok (.if_icmp .lt 10, 3) := by decide +kernel
theorem dJ6_numberOfLeadingZeros_0f7a4_54 : decode cJ6_numberOfLeadingZeros_0f7a4 54 = .ok (.iinc 1 (-4), 3) := by decide +kernel
theorem dJ6_numberOfLeadingZeros_0f7a4_57 : decode cJ6_numberOfLeadingZeros_0f7a4 57 = .ok (.iload_n 0, 1) := by decide +kernel
theorem dJ6_numberOfLeadingZeros_0f7a4_58 : decode cJ6_numberOfLeadingZeros_0f7a4 58 = .ok (.iconst 4, 1) := by decide +kernel
theorem dJ6_numberOfLeadingZeros_0f7a4_59 : decode cJ6_numberOfLeadingZeros_0f7a4 59 = .ok (.iushr, 1) := by decide +kernel
theorem dJ6_numberOfLeadingZeros_0f7a4_60 : decode cJ6_numberOfLeadingZeros_0f7a4 60 = .ok (.istore_n 0, 1) := by decide +kernel
theorem dJ6_numberOfLeadingZeros_0f7a4_61 : decode cJ6_numberOfLeadingZeros_0f7a4 61 = .ok (.iload_n 0, 1) := by decide +kernel
theorem dJ6_numberOfLeadingZeros_0f7a4_62 : decode cJ6_numberOfLeadingZeros_0f7a4 62 = .ok (.iconst 4, 1) := by decide +kernel
theorem dJ6_numberOfLeadingZeros_0f7a4_63 : decode cJ6_numberOfLeadingZeros_0f7a4 63 = .ok (.if_icmp .lt 10, 3) := by decide +kernel
theorem dJ6_numberOfLeadingZeros_0f7a4_66 : decode cJ6_numberOfLeadingZeros_0f7a4 66 = .ok (.iinc 1 (-2), 3) := by decide +kernel
theorem dJ6_numberOfLeadingZeros_0f7a4_69 : decode cJ6_numberOfLeadingZeros_0f7a4 69 = .ok (.iload_n 0, 1) := by decide +kernel
theorem dJ6_numberOfLeadingZeros_0f7a4_70 : decode cJ6_numberOfLeadingZeros_0f7a4 70 = .ok (.iconst 2, 1) := by decide +kernel
theorem dJ6_numberOfLeadingZeros_0f7a4_71 : decode cJ6_numberOfLeadingZeros_0f7a4 71 = .ok (.iushr, 1) := by decide +kernel
theorem dJ6_numberOfLeadingZeros_0f7a4_72 : decode cJ6_numberOfLeadingZeros_0f7a4 72 = .ok (.istore_n 0, 1) := by decide +kernel
theorem dJ6_numberOfLeadingZeros_0f7a4_73 : decode cJ6_numberOfLeadingZeros_0f7a4 73 = .ok (.iload_n 1, 1) := by decide +kernel
theorem dJ6_numberOfLeadingZeros_0f7a4_74 : decode cJ6_numberOfLeadingZeros_0f7a4 74 = .ok (.iload_n 0, 1) := by decide +kernel
theorem dJ6_numberOfLeadingZeros_0f7a4_75 : decode cJ6_numberOfLeadingZeros_0f7a4 75 = .ok (.iconst 1, 1) := by decide +kernel
theorem dJ6_numberOfLeadingZeros_0f7a4_76 : decode cJ6_numberOfLeadingZeros_0f7a4 76 = .ok (.iushr, 1) := by decide +kernel
theorem dJ6_numberOfLeadingZeros_0f7a4_77 : decode cJ6_numberOfLeadingZeros_0f7a4 77 = .ok (.isub, 1) := by decide +kernel
theorem dJ6_numberOfLeadingZeros_0f7a4_78 : decode cJ6_numberOfLeadingZeros_0f7a4 78 = .ok (.ireturn, 1) := by decide +kernel
theorem dJ6_numberOfTrailingZeros_0f7a4_0 : decode cJ6_numberOfTrailingZeros_0f7a4 0 = .ok (.iload_n 0, 1) := by decide +kernel
theorem dJ6_numberOfTrailingZeros_0f7a4_1 : decode cJ6_numberOfTrailingZeros_0f7a4 1 = .ok (.iconst (-1), 1) := by decide +kernel
theorem dJ6_numberOfTrailingZeros_0f7a4_2 : decode cJ6_numberOfTrailingZeros_0f7a4 2 = .ok (.ixor, 1) := by decide +kernel
theorem dJ6_numberOfTrailingZeros_0f7a4_3 : decode cJ6_numberOfTrailingZeros_0f7a4 3 = .ok (.iload_n 0, 1) := by decide +kernel
theorem dJ6_numberOfTrailingZeros_0f7a4_4 : decode cJ6_numberOfTrailingZeros_0f7a4 4 = .ok (.iconst 1, 1) := by decide +kernel
theorem dJ6_numberOfTrailingZeros_0f7a4_5 : decode cJ6_numberOfTrailingZeros_0f7a4 5 = .ok (.isub, 1) := by decide +kernel
theorem dJ6_numberOfTrailingZeros_0f7a4_6 : decode cJ6_numberOfTrailingZeros_0f7a4 6 = .ok (.iand, 1) := by decide +kernel
theorem dJ6_numberOfTrailingZeros_0f7a4_7 : decode cJ6_numberOfTrailingZeros_0f7a4 7 = .ok (.istore_n 0, 1) := by decide +kernel
theorem dJ6_numberOfTrailingZeros_0f7a4_8 : decode cJ6_numberOfTrailingZeros_0f7a4 8 = .ok (.iload_n 0, 1) := by decide +kernel
theorem dJ6_numberOfTrailingZeros_0f7a4_9 : decode cJ6_numberOfTrailingZeros_0f7a4 9 = .ok (.ifCond .gt 8, 3) := by decide +kernel
theorem dJ6_numberOfTrailingZeros_0f7a4_12 : decode cJ6_numberOfTrailingZeros_0f7a4 12 = .ok (.iload_n 0, 1) := by decide +kernel
