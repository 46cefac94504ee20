theorem dX9_lampIn_15 : decode cX9_lampIn 15 = .ok (.iconst 5, 1) := by decide +kernel
theorem dX9_lampIn_16 : decode cX9_lampIn 16 = .ok (.iconst 1, 1) := by decide +kernel
theorem dX9_lampIn_17 : decode cX9_lampIn 17 = .ok (.iastore, 1) := by decide +kernel
theorem dX9_lampIn_18 : decode cX9_lampIn 18 = .ok (.return_, 1) := by decide +kernel
theorem dX9_plainIn_0 : decode cX9_plainIn 0 = .ok (.iconst 0, 1) := by decide +kernel
theorem dX9_plainIn_1 : decode cX9_plainIn 1 = .ok (.istore_n 1, 1) := by decide +kernel
theorem dX9_plainIn_2 : decode cX9_plainIn 2 = .ok (.iload_n 1, 1) := by decide +kernel
theorem dX9_plainIn_3 : decode cX9_plainIn 3 = .ok (.bipush 96, 2) := by decide +kernel
theorem dX9_plainIn_5 : decode cX9_plainIn 5 = .ok (.if_icmp .ge 13, 3) := by decide +kernel
theorem dX9_plainIn_8 : decode cX9_plainIn 8 = .ok (.aload_n 0, 1) := by decide +kernel
theorem dX9_plainIn_9 : decode cX9_plainIn 9 = .ok (.iload_n 1, 1) := by decide +kernel
theorem dX9_plainIn_10 : decode cX9_plainIn 10 = .ok (.iconst 0, 1) := by decide +kernel
theorem dX9_plainIn_11 : decode cX9_plainIn 11 = .ok (.iastore, 1) := by decide +kernel
theorem dX9_plainIn_12 : decode cX9_plainIn 12 = .ok (.iinc 1 1, 3) := by decide +kernel
theorem dX9_plainIn_15 : decode cX9_plainIn 15 = .ok (.goto (-13), 3) := by decide +kernel
theorem dX9_plainIn_18 : decode cX9_plainIn 18 = .ok (.aload_n 0, 1) := by decide +kernel
theorem dX9_plainIn_19 : decode cX9_plainIn 19 = .ok (.invokestatic 65, 3) := by decide +kernel
theorem dX9_plainIn_22 : decode cX9_plainIn 22 = .ok (.aload_n 0, 1) := by decide +kernel
theorem dX9_plainIn_23 : decode cX9_plainIn 23 = .ok (.bipush 6, 2) := by decide +kernel
theorem dX9_plainIn_25 : decode cX9_plainIn 25 = .ok (.bipush 60, 2) := by decide +kernel
theorem dX9_plainIn_27 : decode cX9_plainIn 27 = .ok (.iastore, 1) := by decide +kernel
theorem dX9_plainIn_28 : decode cX9_plainIn 28 = .ok (.iconst 0, 1) := by decide +kernel
theorem dX9_plainIn_29 : decode cX9_plainIn 29 = .ok (.istore_n 1, 1) := by decide +kernel
theorem dX9_plainIn_30 : decode cX9_plainIn 30 = .ok (.iload_n 1, 1) := by decide +kernel
theorem dX9_plainIn_31 : decode cX9_plainIn 31 = .ok (.bipush 6, 2) := by decide +kernel
theorem dX9_plainIn_33 : decode cX9_plainIn 33 = .ok (.if_icmp .ge 16, 3) := by decide +kernel
theorem dX9_plainIn_36 : decode cX9_plainIn 36 = .ok (.aload_n 0, 1) := by decide +kernel
theorem dX9_plainIn_37 : decode cX9_plainIn 37 = .ok (.bipush 10, 2) := by decide +kernel
theorem dX9_plainIn_39 : decode cX9_plainIn 39 = .ok (.iload_n 1, 1) := by decide +kernel
theorem dX9_plainIn_40 : decode cX9_plainIn 40 = .ok (.iadd, 1) := by decide +kernel
theorem dX9_plainIn_41 : decode cX9_plainIn 41 = .ok (.iconst 1, 1) := by decide +kernel
theorem dX9_plainIn_42 : decode cX9_plainIn 42 = .ok (.iastore, 1) := by decide +kernel
theorem dX9_plainIn_43 : decode cX9_plainIn 43 = .ok (.iinc 1 1, 3) := by decide +kernel
theorem dX9_plainIn_46 : decode cX9_plainIn 46 = .ok (.goto (-16), 3) := by decide +kernel
theorem dX9_plainIn_49 : decode cX9_plainIn 49 = .ok (.return_, 1) := by decide +kernel
theorem dX9_feed_0 : decode cX9_feed 0 = .ok (.aload_n 0, 1) := by decide +kernel
theorem dX9_feed_1 : decode cX9_feed 1 = .ok (.iconst 0, 1) := by decide +kernel
theorem dX9_feed_2 : decode cX9_feed 2 = .ok (.putfield 1, 3) := by decide +kernel
theorem dX9_feed_5 : decode cX9_feed 5 = .ok (.aload_n 0, 1) := by decide +kernel
theorem dX9_feed_6 : decode cX9_feed 6 = .ok (.getfield 68, 3) := by decide +kernel
theorem dX9_feed_9 : decode cX9_feed 9 = .ok (.bipush 20, 2) := by decide +kernel
theorem dX9_feed_11 : decode cX9_feed 11 = .ok (.iadd, 1) := by decide +kernel
theorem dX9_feed_12 : decode cX9_feed 12 = .ok (.sipush 900, 3) := by decide +kernel
theorem dX9_feed_15 : decode cX9_feed 15 = .ok (.if_icmp .le 6, 3) := by decide +kernel
theorem dX9_feed_18 : decode cX9_feed 18 = .ok (.bipush (-5), 2) := by decide +kernel
theorem dX9_feed_20 : decode cX9_feed 20 = .ok (.ireturn, 1) := by decide +kernel
theorem dX9_feed_21 : decode cX9_feed 21 = .ok (.iconst 0, 1) := by decide +kernel
theorem dX9_feed_22 : decode cX9_feed 22 = .ok (.istore 6, 2) := by decide +kernel
theorem dX9_feed_24 : decode cX9_feed 24 = .ok (.iload 6, 2) := by decide +kernel
theorem dX9_feed_26 : decode cX9_feed 26 = .ok (.bipush 20, 2) := by decide +kernel
theorem dX9_feed_28 : decode cX9_feed 28 = .ok (.if_icmp .ge 93, 3) := by decide +kernel
theorem dX9_feed_31 : decode cX9_feed 31 = .ok (.iload 6, 2) := by decide +kernel
theorem dX9_feed_33 : decode cX9_feed 33 = .ok (.iconst 4, 1) := by decide +kernel
theorem dX9_feed_34 : decode cX9_feed 34 = .ok (.if_icmp .ge 7, 3) := by decide +kernel
theorem dX9_feed_37 : decode cX9_feed 37 = .ok (.iload_n 1, 1) := by decide +kernel
theorem dX9_feed_38 : decode cX9_feed 38 = .ok (.goto 39, 3) := by decide +kernel
theorem dX9_feed_41 : decode cX9_feed 41 = .ok (.iload 6, 2) := by decide +kernel
theorem dX9_feed_43 : decode cX9_feed 43 = .ok (.bipush 8, 2) := by decide +kernel
theorem dX9_feed_45 : decode cX9_feed 45 = .ok (.if_icmp .ge 7, 3) := by decide +kernel
theorem dX9_feed_48 : decode cX9_feed 48 = .ok (.iload_n 2, 1) := by decide +kernel
theorem dX9_feed_49 : decode cX9_feed 49 = .ok (.goto 28, 3) := by decide +kernel
theorem dX9_feed_52 : decode cX9_feed 52 = .ok (.iload 6, 2) := by decide +kernel
theorem dX9_feed_54 : decode cX9_feed 54 = .ok (.bipush 12, 2) := by decide +kernel
theorem dX9_feed_56 : decode cX9_feed 56 = .ok (.if_icmp .ge 7, 3) := by decide +kernel
theorem dX9_feed_59 : decode cX9_feed 59 = .ok (.iload_n 3, 1) := by decide +kernel
theorem dX9_feed_60 : decode cX9_feed 60 = .ok (.goto 17, 3) := by decide +kernel
theorem dX9_feed_63 : decode cX9_feed 63 = .ok (.iload 6, 2) := by decide +kernel
theorem dX9_feed_65 : decode cX9_feed 65 = .ok (.bipush 16, 2) := by decide +kernel
theorem dX9_feed_67 : decode cX9_feed 67 = .ok (.if_icmp .ge 8, 3) := by decide +kernel
theorem dX9_feed_70 : decode cX9_feed 70 = .ok (.iload 4, 2) := by decide +kernel
theorem dX9_feed_72 : decode cX9_feed 72 = .ok (.goto 5, 3) := by decide +kernel
theorem dX9_feed_75 : decode cX9_feed 75 = .ok (.iload 5, 2) := by decide +kernel
theorem dX9_feed_77 : decode cX9_feed 77 = .ok (.istore 7, 2) := by decide +kernel
theorem dX9_feed_79 : decode cX9_feed 79 = .ok (.aload_n 0, 1) := by decide +kernel
theorem dX9_feed_80 : decode cX9_feed 80 = .ok (.getfield 21, 3) := by decide +kernel
theorem dX9_feed_83 : decode cX9_feed 83 = .ok (.aload_n 0, 1) := by decide +kernel
theorem dX9_feed_84 : decode cX9_feed 84 = .ok (.getfield 68, 3) := by decide +kernel
theorem dX9_feed_87 : decode cX9_feed 87 = .ok (.iload 7, 2) := by decide +kernel
theorem dX9_feed_89 : decode cX9_feed 89 = .ok (.bipush 24, 2) := by decide +kernel
theorem dX9_feed_91 : decode cX9_feed 91 = .ok (.bipush 8, 2) := by decide +kernel
theorem dX9_feed_93 : decode cX9_feed 93 = .ok (.iload 6, 2) := by decide +kernel
theorem dX9_feed_95 : decode cX9_feed 95 = .ok (.iconst 4, 1) := by decide +kernel
theorem dX9_feed_96 : decode cX9_feed 96 = .ok (.irem, 1) := by decide +kernel
theorem dX9_feed_97 : decode cX9_feed 97 = .ok (.imul, 1) := by decide +kernel
theorem dX9_feed_98 : decode cX9_feed 98 = .ok (.isub, 1) := by decide +kernel
theorem dX9_feed_99 : decode cX9_feed 99 = .ok (.ishr, 1) := by decide +kernel
theorem dX9_feed_100 : decode cX9_feed 100 = .ok (.sipush 255, 3) := by decide +kernel
theorem dX9_feed_103 : decode cX9_feed 103 = .ok (.iand, 1) := by decide +kernel
theorem dX9_feed_104 : decode cX9_feed 104 = .ok (.iastore, 1) := by decide +kernel
theorem dX9_feed_105 : decode cX9_feed 105 = .ok (.aload_n 0, 1) := by decide +kernel
theorem dX9_feed_106 : decode cX9_feed 106 = .ok (.dup, 1) := by decide +kernel
theorem dX9_feed_107 : decode cX9_feed 107 = .ok (.getfield 68, 3) := by decide +kernel
theorem dX9_feed_110 : decode cX9_feed 110 = .ok (.iconst 1, 1) := by decide +kernel
theorem dX9_feed_111 : decode cX9_feed 111 = .ok (.iadd, 1) := by decide +kernel
theorem dX9_feed_112 : decode cX9_feed 112 = .ok (.putfield 68, 3) := by decide +kernel
theorem dX9_feed_115 : decode cX9_feed 115 = .ok (.iinc 6 1, 3) := by decide +kernel
theorem dX9_feed_118 : decode cX9_feed 118 = .ok (.goto (-94), 3) := by decide +kernel
theorem dX9_feed_121 : decode cX9_feed 121 = .ok (.aload_n 0, 1) := by decide +kernel
theorem dX9_feed_122 : decode cX9_feed 122 = .ok (.getfield 68, 3) := by decide +kernel
theorem dX9_feed_125 : decode cX9_feed 125 = .ok (.ireturn, 1) := by decide +kernel
theorem dX9_see_0 : decode cX9_see 0 = .ok (.iload_n 1, 1) := by decide +kernel
theorem dX9_see_1 : decode cX9_see 1 = .ok (.aload_n 0, 1) := by decide +kernel
theorem dX9_see_2 : decode cX9_see 2 = .ok (.getfield 71, 3) := by decide +kernel
theorem dX9_see_5 : decode cX9_see 5 = .ok (.if_icmp .ge 12, 3) := by decide +kernel
theorem dX9_see_8 : decode cX9_see 8 = .ok (.aload_n 0, 1) := by decide +kernel
theorem dX9_see_9 : decode cX9_see 9 = .ok (.getfield 21, 3) := by decide +kernel
theorem dX9_see_12 : decode cX9_see 12 = .ok (.iload_n 1, 1) := by decide +kernel
theorem dX9_see_13 : decode cX9_see 13 = .ok (.iaload, 1) := by decide +kernel
theorem dX9_see_14 : decode cX9_see 14 = .ok (.goto 4, 3) := by decide +kernel
theorem dX9_see_17 : decode cX9_see 17 = .ok (.iconst (-1), 1) := by decide +kernel
theorem dX9_see_18 : decode cX9_see 18 = .ok (.ireturn, 1) := by decide +kernel
theorem dX9_isSmall_0 : decode cX9_isSmall 0 = .ok (.iload_n 0, 1) := by decide +kernel
theorem dX9_isSmall_1 : decode cX9_isSmall 1 = .ok (.bipush 97, 2) := by decide +kernel
theorem dX9_isSmall_3 : decode cX9_isSmall 3 = .ok (.if_icmp .lt 13, 3) := by decide +kernel
theorem dX9_isSmall_6 : decode cX9_isSmall 6 = .ok (.iload_n 0, 1) := by decide +kernel
theorem dX9_isSmall_7 : decode cX9_isSmall 7 = .ok (.bipush 122, 2) := by decide +kernel
theorem dX9_isSmall_9 : decode cX9_isSmall 9 = .ok (.if_icmp .gt 7, 3) := by decide +kernel
theorem dX9_isSmall_12 : decode cX9_isSmall 12 = .ok (.iconst 1, 1) := by decide +kernel
theorem dX9_isSmall_13 : decode cX9_isSmall 13 = .ok (.goto 4, 3) := by decide +kernel
theorem dX9_isSmall_16 : decode cX9_isSmall 16 = .ok (.iconst 0, 1) := by decide +kernel
theorem dX9_isSmall_17 : decode cX9_isSmall 17 = .ok (.ireturn, 1) := by decide +kernel
theorem dX9_isDigit_0 : decode cX9_isDigit 0 = .ok (.iload_n 0, 1) := by decide +kernel
theorem dX9_isDigit_1 : decode cX9_isDigit 1 = .ok (.bipush 48, 2) := by decide +kernel
theorem dX9_isDigit_3 : decode cX9_isDigit 3 = .ok (.if_icmp .lt 13, 3) := by decide +kernel
theorem dX9_isDigit_6 : decode cX9_isDigit 6 = .ok (.iload_n 0, 1) := by decide +kernel
theorem dX9_isDigit_7 : decode cX9_isDigit 7 = .ok (.bipush 57, 2) := by decide +kernel
theorem dX9_isDigit_9 : decode cX9_isDigit 9 = .ok (.if_icmp .gt 7, 3) := by decide +kernel
theorem dX9_isDigit_12 : decode cX9_isDigit 12 = .ok (.iconst 1, 1) := by decide +kernel
theorem dX9_isDigit_13 : decode cX9_isDigit 13 = .ok (.goto 4, 3) := by decide +kernel
theorem dX9_isDigit_16 : decode cX9_isDigit 16 = .ok (.iconst 0, 1) := by decide +kernel
theorem dX9_isDigit_17 : decode cX9_isDigit 17 = .ok (.ireturn, 1) := by decide +kernel
theorem dX9_keyAt_0 : decode cX9_keyAt 0 = .ok (.iconst 0, 1) := by decide +kernel
theorem dX9_keyAt_1 : decode cX9_keyAt 1 = .ok (.istore_n 1, 1) := by decide +kernel
theorem dX9_keyAt_2 : decode cX9_keyAt 2 = .ok (.iconst 1, 1) := by decide +kernel
theorem dX9_keyAt_3 : decode cX9_keyAt 3 = .ok (.istore_n 2, 1) := by decide +kernel
theorem dX9_keyAt_4 : decode cX9_keyAt 4 = .ok (.iload_n 2, 1) := by decide +kernel
theorem dX9_keyAt_5 : decode cX9_keyAt 5 = .ok (.ldc 74, 2) := by decide +kernel
theorem dX9_keyAt_7 : decode cX9_keyAt 7 = .ok (.invokevirtual 76, 3) := by decide +kernel
theorem dX9_keyAt_10 : decode cX9_keyAt 10 = .ok (.if_icmp .ge 113, 3) := by decide +kernel
theorem dX9_keyAt_13 : decode cX9_keyAt 13 = .ok (.iconst 0, 1) := by decide +kernel
theorem dX9_keyAt_14 : decode cX9_keyAt 14 = .ok (.istore_n 3, 1) := by decide +kernel
theorem dX9_keyAt_15 : decode cX9_keyAt 15 = .ok (.ldc 74, 2) := by decide +kernel
theorem dX9_keyAt_17 : decode cX9_keyAt 17 = .ok (.iload_n 2, 1) := by decide +kernel
theorem dX9_keyAt_18 : decode cX9_keyAt 18 = .ok (.iload_n 3, 1) := by decide +kernel
theorem dX9_keyAt_19 : decode cX9_keyAt 19 = .ok (.iadd, 1) := by decide +kernel
theorem dX9_keyAt_20 : decode cX9_keyAt 20 = .ok (.invokevirtual 82, 3) := by decide +kernel
theorem dX9_keyAt_23 : decode cX9_keyAt 23 = .ok (.bipush 32, 2) := by decide +kernel
theorem dX9_keyAt_25 : decode cX9_keyAt 25 = .ok (.if_icmp .eq 44, 3) := by decide +kernel
theorem dX9_keyAt_28 : decode cX9_keyAt 28 = .ok (.aload_n 0, 1) := by decide +kernel
theorem dX9_keyAt_29 : decode cX9_keyAt 29 = .ok (.getfield 86, 3) := by decide +kernel
theorem dX9_keyAt_32 : decode cX9_keyAt 32 = .ok (.iload_n 3, 1) := by decide +kernel
theorem dX9_keyAt_33 : decode cX9_keyAt 33 = .ok (.iadd, 1) := by decide +kernel
theorem dX9_keyAt_34 : decode cX9_keyAt 34 = .ok (.aload_n 0, 1) := by decide +kernel
theorem dX9_keyAt_35 : decode cX9_keyAt 35 = .ok (.getfield 89, 3) := by decide +kernel
theorem dX9_keyAt_38 : decode cX9_keyAt 38 = .ok (.if_icmp .ge 31, 3) := by decide +kernel
theorem dX9_keyAt_41 : decode cX9_keyAt 41 = .ok (.aload_n 0, 1) := by decide +kernel
theorem dX9_keyAt_42 : decode cX9_keyAt 42 = .ok (.getfield 21, 3) := by decide +kernel
theorem dX9_keyAt_45 : decode cX9_keyAt 45 = .ok (.aload_n 0, 1) := by decide +kernel
theorem dX9_keyAt_46 : decode cX9_keyAt 46 = .ok (.getfield 86, 3) := by decide +kernel
theorem dX9_keyAt_49 : decode cX9_keyAt 49 = .ok (.iload_n 3, 1) := by decide +kernel
theorem dX9_keyAt_50 : decode cX9_keyAt 50 = .ok (.iadd, 1) := by decide +kernel
theorem dX9_keyAt_51 : decode cX9_keyAt 51 = .ok (.iaload, 1) := by decide +kernel
theorem dX9_keyAt_52 : decode cX9_keyAt 52 = .ok (.ldc 74, 2) := by decide +kernel
theorem dX9_keyAt_54 : decode cX9_keyAt 54 = .ok (.iload_n 2, 1) := by decide +kernel
theorem dX9_keyAt_55 : decode cX9_keyAt 55 = .ok (.iload_n 3, 1) := by decide +kernel
theorem dX9_keyAt_56 : decode cX9_keyAt 56 = .ok (.iadd, 1) := by decide +kernel
theorem dX9_keyAt_57 : decode cX9_keyAt 57 = .ok (.invokevirtual 82, 3) := by decide +kernel
theorem dX9_keyAt_60 : decode cX9_keyAt 60 = .ok (.if_icmp .ne 9, 3) := by decide +kernel
theorem dX9_keyAt_63 : decode cX9_keyAt 63 = .ok (.iinc 3 1, 3) := by decide +kernel
theorem dX9_keyAt_66 : decode cX9_keyAt 66 = .ok (.goto (-51), 3) := by decide +kernel
theorem dX9_keyAt_69 : decode cX9_keyAt 69 = .ok (.ldc 74, 2) := by decide +kernel
theorem dX9_keyAt_71 : decode cX9_keyAt 71 = .ok (.iload_n 2, 1) := by decide +kernel
theorem dX9_keyAt_72 : decode cX9_keyAt 72 = .ok (.iload_n 3, 1) := by decide +kernel
theorem dX9_keyAt_73 : decode cX9_keyAt 73 = .ok (.iadd, 1) := by decide +kernel
theorem dX9_keyAt_74 : decode cX9_keyAt 74 = .ok (.invokevirtual 82, 3) := by decide +kernel
theorem dX9_keyAt_77 : decode cX9_keyAt 77 = .ok (.bipush 32, 2) := by decide +kernel
theorem dX9_keyAt_79 : decode cX9_keyAt 79 = .ok (.if_icmp .ne 18, 3) := by decide +kernel
theorem dX9_keyAt_82 : decode cX9_keyAt 82 = .ok (.aload_n 0, 1) := by decide +kernel
theorem dX9_keyAt_83 : decode cX9_keyAt 83 = .ok (.getfield 86, 3) := by decide +kernel
theorem dX9_keyAt_86 : decode cX9_keyAt 86 = .ok (.iload_n 3, 1) := by decide +kernel
theorem dX9_keyAt_87 : decode cX9_keyAt 87 = .ok (.iadd, 1) := by decide +kernel
theorem dX9_keyAt_88 : decode cX9_keyAt 88 = .ok (.aload_n 0, 1) := by decide +kernel
theorem dX9_keyAt_89 : decode cX9_keyAt 89 = .ok (.getfield 89, 3) := by decide +kernel
theorem dX9_keyAt_92 : decode cX9_keyAt 92 = .ok (.if_icmp .ne 5, 3) := by decide +kernel
theorem dX9_keyAt_95 : decode cX9_keyAt 95 = .ok (.iload_n 1, 1) := by decide +kernel
theorem dX9_keyAt_96 : decode cX9_keyAt 96 = .ok (.ireturn, 1) := by decide +kernel
theorem dX9_keyAt_97 : decode cX9_keyAt 97 = .ok (.ldc 74, 2) := by decide +kernel
theorem dX9_keyAt_99 : decode cX9_keyAt 99 = .ok (.iload_n 2, 1) := by decide +kernel
theorem dX9_keyAt_100 : decode cX9_keyAt 100 = .ok (.invokevirtual 82, 3) := by decide +kernel
theorem dX9_keyAt_103 : decode cX9_keyAt 103 = .ok (.bipush 32, 2) := by decide +kernel
theorem dX9_keyAt_105 : decode cX9_keyAt 105 = .ok (.if_icmp .eq 9, 3) := by decide +kernel
theorem dX9_keyAt_108 : decode cX9_keyAt 108 = .ok (.iinc 2 1, 3) := by decide +kernel
theorem dX9_keyAt_111 : decode cX9_keyAt 111 = .ok (.goto (-14), 3) := by decide +kernel
theorem dX9_keyAt_114 : decode cX9_keyAt 114 = .ok (.iinc 2 1, 3) := by decide +kernel
theorem dX9_keyAt_117 : decode cX9_keyAt 117 = .ok (.iinc 1 1, 3) := by decide +kernel
theorem dX9_keyAt_120 : decode cX9_keyAt 120 = .ok (.goto (-116), 3) := by decide +kernel
theorem dX9_keyAt_123 : decode cX9_keyAt 123 = .ok (.bipush 13, 2) := by decide +kernel
theorem dX9_keyAt_125 : decode cX9_keyAt 125 = .ok (.ireturn, 1) := by decide +kernel
theorem dX9_next_0 : decode cX9_next 0 = .ok (.aload_n 0, 1) := by decide +kernel
theorem dX9_next_1 : decode cX9_next 1 = .ok (.aload_n 0, 1) := by decide +kernel
