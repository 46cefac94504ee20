theorem dX9_lampIn_15 : decode cX9_lampIn 15 = .ok (.iconst 5, 1) := by decide +kernel
theorem dX9_lampIn_16 : decode cX9_lampIn 16 = .ok (.iconst 1, 1) := by decide +kernel
theorem dX9_lampIn_17 : decode cX9_lampIn 17 = .ok (.iastore, 1) := by decide +kernel
theorem dX9_lampIn_18 : decode cX9_lampIn 18 = .ok (.return_, 1) := by decide +kernel
theorem dX9_plainIn_0 : decode cX9_plainIn 0 = .ok (.iconst 0, 1) := by decide +kernel
theorem dX9_plainIn_1 : decode cX9_plainIn 1 = .ok (.istore_n 1, 1) := by decide +kernel
theorem dX9_plainIn_2 : decode cX9_plainIn 2 = .ok (.iload_n 1, 1) := by decide +kernel
theorem dX9_plainIn_3 : decode cX9_plainIn 3 = .ok (.bipush 96, 2) := by decide +kernel
theorem dX9_plainIn_5 : decode cX9_plainIn 5 = .ok (.if_icmp .ge 13, 3) := by decide +kernel
theorem dX9_plainIn_8 : decode cX9_plainIn 8 = .ok (.aload_n 0, 1) := by decide +kernel
theorem dX9_plainIn_9 : decode cX9_plainIn 9 = .ok (.iload_n 1, 1) := by decide +kernel
theorem dX9_plainIn_10 : decode cX9_plainIn 10 = .ok (.iconst 0, 1) := by decide +kernel
theorem dX9_plainIn_11 : decode cX9_plainIn 11 = .ok (.iastore, 1) := by decide +kernel
theorem dX9_plainIn_12 : decode cX9_plainIn 12 = .ok (.iinc 1 1, 3) := by decide +kernel
theorem dX9_plainIn_15 : decode cX9_plainIn 15 = .ok (.goto (-13), 3) := by decide +kernel
theorem dX9_plainIn_18 : decode cX9_plainIn 18 = .ok (.aload_n 0, 1) := by decide +kernel
theorem dX9_plainIn_19 : decode cX9_plainIn 19 = .ok (.invokestatic 65, 3) := by decide +kernel
theorem dX9_plainIn_22 : decode cX9_plainIn 22 = .ok (.aload_n 0, 1) := by decide +kernel
theorem dX9_plainIn_23 : decode cX9_plainIn 23 = .ok (.bipush 6, 2) := by decide +kernel
theorem dX9_plainIn_25 : decode cX9_plainIn 25 = .ok (.bipush 60, 2) := by decide +kernel
theorem dX9_plainIn_27 : decode cX9_plainIn 27 = .ok (.iastore, 1) := by decide +kernel
theorem dX9_plainIn_28 : decode cX9_plainIn 28 = .ok (.iconst 0, 1) := by decide +kernel
theorem dX9_plainIn_29 : decode cX9_plainIn 29 = .ok (.istore_n 1, 1) := by decide +kernel
theorem dX9_plainIn_30 : decode cX9_plainIn 30 = .ok (.iload_n 1, 1) := by decide +kernel
theorem dX9_plainIn_31 : decode cX9_plainIn 31 = .ok (.bipush 6, 2) := by decide +kernel
theorem dX9_plainIn_33 : decode cX9_plainIn 33 = .ok (.if_icmp .ge 16, 3) := by decide +kernel
theorem dX9_plainIn_36 : decode cX9_plainIn 36 = .ok (.aload_n 0, 1) := by decide +kernel
theorem dX9_plainIn_37 : decode cX9_plainIn 37 = .ok (.bipush 10, 2) := by decide +kernel
theorem dX9_plainIn_39 : decode cX9_plainIn 39 = .ok (.iload_n 1, 1) := by decide +kernel
theorem dX9_plainIn_40 : decode cX9_plainIn 40 = .ok (.iadd, 1) := by decide +kernel
theorem dX9_plainIn_41 : decode cX9_plainIn 41 = .ok (.iconst 1, 1) := by decide +kernel
theorem dX9_plainIn_42 : decode cX9_plainIn 42 = .ok (.iastore, 1) := by decide +kernel
theorem dX9_plainIn_43 : decode cX9_plainIn 43 = .ok (.iinc 1 1, 3) := by decide +kernel
theorem dX9_plainIn_46 : decode cX9_plainIn 46 = .ok (.goto (-16), 3) := by decide +kernel
theorem dX9_plainIn_49 : decode cX9_plainIn 49 = .ok (.return_, 1) := by decide +kernel
theorem dX9_feed_0 : decode cX9_feed 0 = .ok (.aload_n 0, 1) := by decide +kernel
theorem dX9_feed_1 : decode cX9_feed 1 = .ok (.iconst 0, 1) := by decide +kernel
theorem dX9_feed_2 : decode cX9_feed 2 = .ok (.putfield 1, 3) := by decide +kernel
theorem dX9_feed_5 : decode cX9_feed 5 = .ok (.aload_n 0, 1) := by decide +kernel
theorem dX9_feed_6 : decode cX9_feed 6 = .ok (.getfield 68, 3) := by decide +kernel
theorem dX9_feed_9 : decode cX9_feed 9 = .ok (.bipush 20, 2) := by decide +kernel
theorem dX9_feed_11 : decode cX9_feed 11 = .ok (.iadd, 1) := by decide +kernel
theorem dX9_feed_12 : decode cX9_feed 12 = .ok (.sipush 900, 3) := by decide +kernel
theorem dX9_feed_15 : decode cX9_feed 15 = .ok (.if_icmp .le 6, 3) := by decide +kernel
theorem dX9_feed_18 : decode cX9_feed 18 = .ok (.bipush (-5), 2) := by decide +kernel
theorem dX9_feed_20 : decode cX9_feed 20 = .ok (.ireturn, 1) := by decide +kernel
theorem dX9_feed_21 : decode cX9_feed 21 = .ok (.iconst 0, 1) := by decide +kernel
theorem dX9_feed_22 : decode cX9_feed 22 = .ok (.istore 6, 2) := by decide +kernel
theorem dX9_feed_24 : decode cX9_feed 24 = .ok (.iload 6, 2) := by decide +kernel
theorem dX9_feed_26 : decode cX9_feed 26 = .ok (.bipush 20, 2) := by decide +kernel
theorem dX9_feed_28 : decode cX9_feed 28 = .ok (.if_icmp .ge 93, 3) := by decide +kernel
theorem dX9_feed_31 : decode cX9_feed 31 = .ok (.iload 6, 2) := by decide +kernel
theorem dX9_feed_33 : decode cX9_feed 33 = .ok (.iconst 4, 1) := by decide +kernel
theorem dX9_feed_34 : decode cX9_feed 34 = .ok (.if_icmp .ge 7, 3) := by decide +kernel
theorem dX9_feed_37 : decode cX9_feed 37 = .ok (.iload_n 1, 1) := by decide +kernel
theorem dX9_feed_38 : decode cX9_feed 38 = .ok (.goto 39, 3) := by decide +kernel
theorem dX9_feed_41 : decode cX9_feed 41 = .ok (.iload 6, 2) := by decide +kernel
theorem dX9_feed_43 : decode cX9_feed 43 = .ok (.bipush 8, 2) := by decide +kernel
theorem dX9_feed_45 : decode cX9_feed 45 = .ok (.if_icmp .ge 7, 3) := by decide +kernel
theorem dX9_feed_48 : decode cX9_feed 48 = .ok (.iload_n 2, 1) := by decide +kernel
theorem dX9_feed_49 : decode cX9_feed 49 = .ok (.goto 28, 3) := by decide +kernel
theorem dX9_feed_52 : decode cX9_feed 52 = .ok (.iload 6, 2) := by decide +kernel
theorem dX9_feed_54 : decode cX9_feed 54 = .ok (.bipush 12, 2) := by decide +kernel
theorem dX9_feed_56 : decode cX9_feed 56 = .ok (.if_icmp .ge 7, 3) := by decide +kernel
theorem dX9_feed_59 : decode cX9_feed 59 = .ok (.iload_n 3, 1) := by decide +kernel
theorem dX9_feed_60 : decode cX9_feed 60 = .ok (.goto 17, 3) := by decide +kernel
theorem dX9_feed_63 : decode cX9_feed 63 = .ok (.iload 6, 2) := by decide +kernel
theorem dX9_feed_65 : decode cX9_feed 65 = .ok (.bipush 16, 2) := by decide +kernel
theorem dX9_feed_67 : decode cX9_feed 67 = .ok (.if_icmp .ge 8, 3) := by decide +kernel
theorem dX9_feed_70 : decode cX9_feed 70 = .ok (.iload 4, 2) := by decide +kernel
theorem dX9_feed_72 : decode cX9_feed 72 = .ok (.goto 5, 3) := by decide +kernel
theorem dX9_feed_75 : decode cX9_feed 75 = .ok (.iload 5, 2) := by decide +kernel
theorem dX9_feed_77 : decode cX9_feed 77 = .ok (.istore 7, 2) := by decide +kernel
theorem dX9_feed_79 : decode cX9_feed 79 = .ok (.aload_n 0, 1) := by decide +kernel
theorem dX9_feed_80 : decode cX9_feed 80 = .ok (.getfield 21, 3) := by decide +kernel
theorem dX9_feed_83 : decode cX9_feed 83 = .ok (.aload_n 0, 1) := by decide +kernel
theorem dX9_feed_84 : decode cX9_feed 84 = .ok (.getfield 68, 3) := by decide +kernel
theorem dX9_feed_87 : decode cX9_feed 87 = .ok (.iload 7, 2) := by decide +kernel
theorem dX9_feed_89 : decode cX9_feed 89 = .ok (.bipush 24, 2) := by decide +kernel
theorem dX9_feed_91 : decode cX9_feed 91 = .ok (.bipush 8, 2) := by decide +kernel
theorem dX9_feed_93 : decode cX9_feed 93 = .ok (.iload 6, 2) := by decide +kernel
theorem dX9_feed_95 : decode cX9_feed 95 = .ok (.iconst 4, 1) := by decide +kernel
theorem dX9_feed_96 : decode cX9_feed 96 = .ok (.irem, 1) := by decide +kernel
theorem dX9_feed_97 : decode cX9_feed 97 = .ok (.imul, 1) := by decide +kernel
theorem dX9_feed_98 : decode cX9_feed 98 = .ok (.isub, 1) := by decide +kernel
theorem dX9_feed_99 : decode cX9_feed 99 = .ok (.ishr, 1) := by decide +kernel
theorem dX9_feed_100 : decode cX9_feed 100 = .ok (.sipush 255, 3) := by decide +kernel
theorem dX9_feed_103 : decode cX9_feed 103 = .ok (.iand, 1) := by decide +kernel
theorem dX9_feed_104 : decode cX9_feed 104 = .ok (.iastore, 1) := by decide +kernel
theorem dX9_feed_105 : decode cX9_feed 105 = .ok (.aload_n 0, 1) := by decide +kernel
theorem dX9_feed_106 : decode cX9_feed 106 = .ok (.dup, 1) := by decide +kernel
theorem dX9_feed_107 : decode cX9_feed 107 = .ok (.getfield 68, 3) := by decide +kernel
theorem dX9_feed_110 : decode cX9_feed 110 = .ok (.iconst 1, 1) := by decide +kernel
theorem dX9_feed_111 : decode cX9_feed 111 = .ok (.iadd, 1) := by decide +kernel
theorem dX9_feed_112 : decode cX9_feed 112 = .ok (.putfield 68, 3) := by decide +kernel
theorem dX9_feed_115 : decode cX9_feed 115 = .ok (.iinc 6 1, 3) := by decide +kernel
theorem dX9_feed_118 : decode cX9_feed 118 = .ok (.goto (-94), 3) := by decide +kernel
theorem dX9_feed_121 : decode cX9_feed 121 = .ok (.aload_n 0, 1) := by decide +kernel
theorem dX9_feed_122 : decode cX9_feed 122 = .ok (.getfield 68, 3) := by decide +kernel
theorem dX9_feed_125 : decode cX9_feed 125 = .ok (.ireturn, 1) := by decide +kernel
theorem dX9_see_0 : decode cX9_see 0 = .ok (.iload_n 1, 1) := by decide +kernel
theorem dX9_see_1 : decode cX9_see 1 = .ok (.aload_n 0, 1) := by decide +kernel
theorem dX9_see_2 : decode cX9_see 2 = .ok (.getfield 71, 3) := by decide +kernel
theorem dX9_see_5 : decode cX9_see 5 = .ok (.if_icmp .ge 12, 3) := by decide +kernel
theorem dX9_see_8 : decode cX9_see 8 = .ok (.aload_n 0, 1) := by decide +kernel
theorem dX9_see_9 : decode cX9_see 9 = .ok (.getfield 21, 3) := by decide +kernel
theorem dX9_see_12 : decode cX9_see 12 = .ok (.iload_n 1, 1) := by decide +kernel
theorem dX9_see_13 : decode cX9_see 13 = .ok (.iaload, 1) := by decide +kernel
theorem dX9_see_14 : decode cX9_see 14 = .ok (.goto 4, 3) := by decide +kernel
theorem dX9_see_17 : decode cX9_see 17 = .ok (.iconst (-1), 1) := by decide +kernel
theorem dX9_see_18 : decode cX9_see 18 = .ok (.ireturn, 1) := by decide +kernel
theorem dX9_isSmall_0 : decode cX9_isSmall 0 = .ok (.iload_n 0, 1) := by decide +kernel
theorem dX9_isSmall_1 : decode cX9_isSmall 1 = .ok (.bipush 97, 2) := by decide +kernel
theorem dX9_isSmall_3 : decode cX9_isSmall 3 = .ok (.if_icmp .lt 13, 3) := by decide +kernel
theorem dX9_isSmall_6 : decode cX9_isSmall 6 = .ok (.iload_n 0, 1) := by decide +kernel
theorem dX9_isSmall_7 : decode cX9_isSmall 7 = .ok (.bipush 122, 2) := by decide +kernel
theorem dX9_isSmall_9 : decode cX9_isSmall 9 = .ok (.if_icmp .gt 7, 3) := by decide +kernel
theorem dX9_isSmall_12 : decode cX9_isSmall 12 = .ok (.iconst 1, 1) := by decide +kernel
theorem dX9_isSmall_13 : decode cX9_isSmall 13 = .ok (.goto 4, 3) := by decide +kernel
theorem dX9_isSmall_16 : decode cX9_isSmall 16 = .ok (.iconst 0, 1) := by decide +kernel
theorem dX9_isSmall_17 : decode cX9_isSmall 17 = .ok (.ireturn, 1) := by decide +kernel
theorem dX9_isDigit_0 : decode cX9_isDigit 0 = .ok (.iload_n 0, 1) := by decide +kernel
theorem dX9_isDigit_1 : decode cX9_isDigit 1 = .ok (.bipush 48, 2) := by decide +kernel
theorem dX9_isDigit_3 : decode cX9_isDigit 3 = .ok (.if_icmp .lt 13, 3) := by decide +kernel
theorem dX9_isDigit_6 : decode cX9_isDigit 6 = .ok (.iload_n 0, 1) := by decide +kernel
theorem dX9_isDigit_7 : decode cX9_isDigit 7 = .ok (.bipush 57, 2) := by decide +kernel
theorem dX9_isDigit_9 : decode cX9_isDigit 9 = .ok (.if_icmp .gt 7, 3) := by decide +kernel
theorem dX9_isDigit_12 : decode cX9_isDigit 12 = .ok (.iconst 1, 1) := by decide +kernel
theorem dX9_isDigit_13 : decode cX9_isDigit 13 = .ok (.goto 4, 3) := by decide +kernel
theorem dX9_isDigit_16 : decode cX9_isDigit 16 = .ok (.iconst 0, 1) := by decide +kernel
theorem dX9_isDigit_17 : decode cX9_isDigit 17 = .ok (.ireturn, 1) := by decide +kernel
theorem dX9_keyAt_0 : decode cX9_keyAt 0 = .ok (.iconst 0, 1) := by decide +kernel
theorem dX9_keyAt_1 : decode cX9_keyAt 1 = .ok (.istore_n 1, 1) := by decide +kernel
theorem dX9_keyAt_2 : decode cX9_keyAt 2 = .ok (.iconst 1, 1) := by decide +kernel
theorem dX9_keyAt_3 : decode cX9_keyAt 3 = .ok (.istore_n 2, 1) := by decide +kernel
theorem dX9_keyAt_4 : decode cX9_keyAt 4 = .ok (.iload_n 2, 1) := by decide +kernel
theorem dX9_keyAt_5 : decode cX9_keyAt 5 = .ok (.ldc 74, 2) := by decide +kernel
theorem dX9_keyAt_7 : decode cX9_keyAt 7 = .ok (.invokevirtual 76, 3) := by decide +kernel
theorem dX9_keyAt_10 : decode cX9_keyAt 10 = .ok (.if_icmp .ge 113, 3) := by decide +kernel
theorem dX9_keyAt_13 : decode cX9_keyAt 13 = .ok (.iconst 0, 1) := by decide +kernel
theorem dX9_keyAt_14 : decode cX9_keyAt 14 = .ok (.istore_n 3, 1) := by decide +kernel
theorem dX9_keyAt_15 : decode cX9_keyAt 15 = .ok (.ldc 74, 2) := by decide +kernel
theorem dX9_keyAt_17 : decode cX9_keyAt 17 = .ok (.iload_n 2, 1) := by decide +kernel
theorem dX9_keyAt_18 : decode cX9_keyAt 18 = .ok (.iload_n 3, 1) := by decide +kernel
theorem dX9_keyAt_19 : decode cX9_keyAt 19 = .ok (.iadd, 1) := by decide +kernel
theorem dX9_keyAt_20 : decode cX9_keyAt 20 = .ok (.invokevirtual 82, 3) := by decide +kernel
theorem dX9_keyAt_23 : decode cX9_keyAt 23 = .ok (.bipush 32, 2) := by decide +kernel
theorem dX9_keyAt_25 : decode cX9_keyAt 25 = .ok (.if_icmp .eq 44, 3) := by decide +kernel
theorem dX9_keyAt_28 : decode cX9_keyAt 28 = .ok (.aload_n 0, 1) := by decide +kernel
theorem dX9_keyAt_29 : decode cX9_keyAt 29 = .ok (.getfield 86, 3) := by decide +kernel
theorem dX9_keyAt_32 : decode cX9_keyAt 32 = .ok (.iload_n 3, 1) := by decide +kernel
theorem dX9_keyAt_33 : decode cX9_keyAt 33 = .ok (.iadd, 1) := by decide +kernel
theorem dX9_keyAt_34 : decode cX9_keyAt 34 = .ok (.aload_n 0, 1) := by decide +kernel
theorem dX9_keyAt_35 : decode cX9_keyAt 35 = .ok (.getfield 89, 3) := by decide +kernel
theorem dX9_keyAt_38 : decode cX9_keyAt 38 = .ok (.if_icmp .ge 31, 3) := by decide +kernel
theorem dX9_keyAt_41 : decode cX9_keyAt 41 = .ok (.aload_n 0, 1) := by decide +kernel
theorem dX9_keyAt_42 : decode cX9_keyAt 42 = .ok (.getfield 21, 3) := by decide +kernel
theorem dX9_keyAt_45 : decode cX9_keyAt 45 = .ok (.aload_n 0, 1) := by decide +kernel
theorem dX9_keyAt_46 : decode cX9_keyAt 46 = .ok (.getfield 86, 3) := by decide +kernel
theorem dX9_keyAt_49 : decode cX9_keyAt 49 = .ok (.iload_n 3, 1) := by decide +kernel
theorem dX9_keyAt_50 : decode cX9_keyAt 50 = .ok (.iadd, 1) := by decide +kernel
theorem dX9_keyAt_51 : decode cX9_keyAt 51 = .ok (.iaload, 1) := by decide +kernel
theorem dX9_keyAt_52 : decode cX9_keyAt 52 = .ok (.ldc 74, 2) := by decide +kernel
theorem dX9_keyAt_54 : decode cX9_keyAt 54 = .ok (.iload_n 2, 1) := by decide +kernel
theorem dX9_keyAt_55 : decode cX9_keyAt 55 = .ok (.iload_n 3, 1) := by decide +kernel
theorem dX9_keyAt_56 : decode cX9_keyAt 56 = .ok (.iadd, 1) := by decide +kernel
theorem dX9_keyAt_57 : decode cX9_keyAt 57 = .ok (.invokevirtual 82, 3) := by decide +kernel
theorem dX9_keyAt_60 : decode cX9_keyAt 60 = .ok (.if_icmp .ne 9, 3) := by decide +kernel
theorem dX9_keyAt_63 : decode cX9_keyAt 63 = .ok (.iinc 3 1, 3) := by decide +kernel
theorem dX9_keyAt_66 : decode cX9_keyAt 66 = .ok (.goto (-51), 3) := by decide +kernel
theorem dX9_keyAt_69 : decode cX9_keyAt 69 = .ok (.ldc 74, 2) := by decide +kernel
theorem dX9_keyAt_71 : decode cX9_keyAt 71 = .ok (.iload_n 2, 1) := by decide +kernel
theorem dX9_keyAt_72 : decode cX9_keyAt 72 = .ok (.iload_n 3, 1) := by decide +kernel
theorem dX9_keyAt_73 : decode cX9_keyAt 73 = .ok (.iadd, 1) := by decide +kernel
theorem dX9_keyAt_74 : decode cX9_keyAt 74 = .ok (.invokevirtual 82, 3) := by decide +kernel
theorem dX9_keyAt_77 : decode cX9_keyAt 77 = .ok (.bipush 32, 2) := by decide +kernel
theorem dX9_keyAt_79 : decode cX9_keyAt 79 = .ok (.if_icmp .ne 18, 3) := by decide +kernel
theorem dX9_keyAt_82 : decode cX9_keyAt 82 = .ok (.aload_n 0, 1) := by decide +kernel
theorem dX9_keyAt_83 : decode cX9_keyAt 83 = .ok (.getfield 86, 3) := by decide +kernel
theorem dX9_keyAt_86 : decode cX9_keyAt 86 = .ok (.iload_n 3, 1) := by decide +kernel
theorem dX9_keyAt_87 : decode cX9_keyAt 87 = .ok (.iadd, 1) := by decide +kernel
theorem dX9_keyAt_88 : decode cX9_keyAt 88 = .ok (.aload_n 0, 1) := by decide +kernel
theorem dX9_keyAt_89 : decode cX9_keyAt 89 = .ok (.getfield 89, 3) := by decide +kernel
theorem dX9_keyAt_92 : decode cX9_keyAt 92 = .ok (.if_icmp .ne 5, 3) := by decide +kernel
theorem dX9_keyAt_95 : decode cX9_keyAt 95 = .ok (.iload_n 1, 1) := by decide +kernel
theorem dX9_keyAt_96 : decode cX9_keyAt 96 = .ok (.ireturn, 1) := by decide +kernel
theorem dX9_keyAt_97 : decode cX9_keyAt 97 = .ok (.ldc 74, 2) := by decide +kernel
theorem dX9_keyAt_99 : decode cX9_keyAt 99 = .ok (.iload_n 2, 1) := by decide +kernel
theorem dX9_keyAt_100 : decode cX9_keyAt 100 = .ok (.invokevirtual 82, 3) := by decide +kernel
theorem dX9_keyAt_103 : decode cX9_keyAt 103 = .ok (.bipush 32, 2) := by decide +kernel
theorem dX9_keyAt_105 : decode cX9_keyAt 105 = .ok (.if_icmp .eq 9, 3) := by decide +kernel
theorem dX9_keyAt_108 : decode cX9_keyAt 108 = .ok (.iinc 2 1, 3) := by decide +kernel
theorem dX9_keyAt_111 : decode cX9_keyAt 111 = .ok (.goto (-14), 3) := by decide +kernel
theorem dX9_keyAt_114 : decode cX9_keyAt 114 = .ok (.iinc 2 1, 3) := by decide +kernel
theorem dX9_keyAt_117 : decode cX9_keyAt 117 = .ok (.iinc 1 1, 3) := by decide +kernel
theorem dX9_keyAt_120 : decode cX9_keyAt 120 = .ok (.goto (-116), 3) := by decide +kernel
theorem dX9_keyAt_123 : decode cX9_keyAt 123 = .ok (.bipush 13, 2) := by decide +kernel
theorem dX9_keyAt_125 : decode cX9_keyAt 125 = .ok (.ireturn, 1) := by decide +kernel
theorem dX9_next_0 : decode cX9_next 0 = .ok (.aload_n 0, 1) := by decide +kernel
theorem dX9_next_1 : decode cX9_next 1 = .ok (.aload_n 0, 1) := by decide +kernel
theorem dX9_next_2 : decode cX9_next 2 = .ok (.getfield 89, 3) := by decide +kernel
theorem dX9_next_5 : decode cX9_next 5 = .ok (.putfield 86, 3) := by decide +kernel
theorem dX9_next_8 : decode cX9_next 8 = .ok (.aload_n 0, 1) := by decide +kernel
theorem dX9_next_9 : decode cX9_next 9 = .ok (.aload_n 0, 1) := by decide +kernel
theorem dX9_next_10 : decode cX9_next 10 = .ok (.getfield 86, 3) := by decide +kernel
theorem dX9_next_13 : decode cX9_next 13 = .ok (.invokevirtual 92, 3) := by decide +kernel
theorem dX9_next_16 : decode cX9_next 16 = .ok (.bipush 10, 2) := by decide +kernel
theorem dX9_next_18 : decode cX9_next 18 = .ok (.if_icmp .eq 16, 3) := by decide +kernel
theorem dX9_next_21 : decode cX9_next 21 = .ok (.aload_n 0, 1) := by decide +kernel
theorem dX9_next_22 : decode cX9_next 22 = .ok (.aload_n 0, 1) := by decide +kernel
theorem dX9_next_23 : decode cX9_next 23 = .ok (.getfield 86, 3) := by decide +kernel
theorem dX9_next_26 : decode cX9_next 26 = .ok (.invokevirtual 92, 3) := by decide +kernel
theorem dX9_next_29 : decode cX9_next 29 = .ok (.bipush 32, 2) := by decide +kernel
theorem dX9_next_31 : decode cX9_next 31 = .ok (.if_icmp .ne 16, 3) := by decide +kernel
theorem dX9_next_34 : decode cX9_next 34 = .ok (.aload_n 0, 1) := by decide +kernel
theorem dX9_next_35 : decode cX9_next 35 = .ok (.dup, 1) := by decide +kernel
theorem dX9_next_36 : decode cX9_next 36 = .ok (.getfield 86, 3) := by decide +kernel
theorem dX9_next_39 : decode cX9_next 39 = .ok (.iconst 1, 1) := by decide +kernel
theorem dX9_next_40 : decode cX9_next 40 = .ok (.iadd, 1) := by decide +kernel
theorem dX9_next_41 : decode cX9_next 41 = .ok (.putfield 86, 3) := by decide +kernel
theorem dX9_next_44 : decode cX9_next 44 = .ok (.goto (-36), 3) := by decide +kernel
theorem dX9_next_47 : decode cX9_next 47 = .ok (.aload_n 0, 1) := by decide +kernel
theorem dX9_next_48 : decode cX9_next 48 = .ok (.aload_n 0, 1) := by decide +kernel
theorem dX9_next_49 : decode cX9_next 49 = .ok (.getfield 86, 3) := by decide +kernel
theorem dX9_next_52 : decode cX9_next 52 = .ok (.putfield 89, 3) := by decide +kernel
theorem dX9_next_55 : decode cX9_next 55 = .ok (.aload_n 0, 1) := by decide +kernel
theorem dX9_next_56 : decode cX9_next 56 = .ok (.getfield 86, 3) := by decide +kernel
theorem dX9_next_59 : decode cX9_next 59 = .ok (.aload_n 0, 1) := by decide +kernel
theorem dX9_next_60 : decode cX9_next 60 = .ok (.getfield 71, 3) := by decide +kernel
theorem dX9_next_63 : decode cX9_next 63 = .ok (.if_icmp .lt 12, 3) := by decide +kernel
theorem dX9_next_66 : decode cX9_next 66 = .ok (.aload_n 0, 1) := by decide +kernel
theorem dX9_next_67 : decode cX9_next 67 = .ok (.bipush 16, 2) := by decide +kernel
theorem dX9_next_69 : decode cX9_next 69 = .ok (.putfield 96, 3) := by decide +kernel
theorem dX9_next_72 : decode cX9_next 72 = .ok (.goto 198, 3) := by decide +kernel
theorem dX9_next_75 : decode cX9_next 75 = .ok (.aload_n 0, 1) := by decide +kernel
theorem dX9_next_76 : decode cX9_next 76 = .ok (.aload_n 0, 1) := by decide +kernel
theorem dX9_next_77 : decode cX9_next 77 = .ok (.getfield 86, 3) := by decide +kernel
theorem dX9_next_80 : decode cX9_next 80 = .ok (.invokevirtual 92, 3) := by decide +kernel
theorem dX9_next_83 : decode cX9_next 83 = .ok (.invokestatic 99, 3) := by decide +kernel
theorem dX9_next_86 : decode cX9_next 86 = .ok (.ifCond .eq 41, 3) := by decide +kernel
theorem dX9_next_89 : decode cX9_next 89 = .ok (.aload_n 0, 1) := by decide +kernel
theorem dX9_next_90 : decode cX9_next 90 = .ok (.aload_n 0, 1) := by decide +kernel
theorem dX9_next_91 : decode cX9_next 91 = .ok (.getfield 89, 3) := by decide +kernel
theorem dX9_next_94 : decode cX9_next 94 = .ok (.invokevirtual 92, 3) := by decide +kernel
theorem dX9_next_97 : decode cX9_next 97 = .ok (.invokestatic 99, 3) := by decide +kernel
theorem dX9_next_100 : decode cX9_next 100 = .ok (.ifCond .eq 16, 3) := by decide +kernel
theorem dX9_next_103 : decode cX9_next 103 = .ok (.aload_n 0, 1) := by decide +kernel
theorem dX9_next_104 : decode cX9_next 104 = .ok (.dup, 1) := by decide +kernel
theorem dX9_next_105 : decode cX9_next 105 = .ok (.getfield 89, 3) := by decide +kernel
theorem dX9_next_108 : decode cX9_next 108 = .ok (.iconst 1, 1) := by decide +kernel
theorem dX9_next_109 : decode cX9_next 109 = .ok (.iadd, 1) := by decide +kernel
theorem dX9_next_110 : decode cX9_next 110 = .ok (.putfield 89, 3) := by decide +kernel
theorem dX9_next_113 : decode cX9_next 113 = .ok (.goto (-24), 3) := by decide +kernel
theorem dX9_next_116 : decode cX9_next 116 = .ok (.aload_n 0, 1) := by decide +kernel
theorem dX9_next_117 : decode cX9_next 117 = .ok (.aload_n 0, 1) := by decide +kernel
theorem dX9_next_118 : decode cX9_next 118 = .ok (.invokevirtual 103, 3) := by decide +kernel
theorem dX9_next_121 : decode cX9_next 121 = .ok (.putfield 96, 3) := by decide +kernel
theorem dX9_next_124 : decode cX9_next 124 = .ok (.goto 146, 3) := by decide +kernel
theorem dX9_next_127 : decode cX9_next 127 = .ok (.aload_n 0, 1) := by decide +kernel
theorem dX9_next_128 : decode cX9_next 128 = .ok (.aload_n 0, 1) := by decide +kernel
theorem dX9_next_129 : decode cX9_next 129 = .ok (.getfield 86, 3) := by decide +kernel
theorem dX9_next_132 : decode cX9_next 132 = .ok (.invokevirtual 92, 3) := by decide +kernel
theorem dX9_next_135 : decode cX9_next 135 = .ok (.invokestatic 106, 3) := by decide +kernel
theorem dX9_next_138 : decode cX9_next 138 = .ok (.ifCond .eq 98, 3) := by decide +kernel
theorem dX9_next_141 : decode cX9_next 141 = .ok (.aload_n 0, 1) := by decide +kernel
theorem dX9_next_142 : decode cX9_next 142 = .ok (.iconst 0, 1) := by decide +kernel
theorem dX9_next_143 : decode cX9_next 143 = .ok (.putfield 109, 3) := by decide +kernel
theorem dX9_next_146 : decode cX9_next 146 = .ok (.aload_n 0, 1) := by decide +kernel
theorem dX9_next_147 : decode cX9_next 147 = .ok (.aload_n 0, 1) := by decide +kernel
theorem dX9_next_148 : decode cX9_next 148 = .ok (.getfield 89, 3) := by decide +kernel
theorem dX9_next_151 : decode cX9_next 151 = .ok (.invokevirtual 92, 3) := by decide +kernel
theorem dX9_next_154 : decode cX9_next 154 = .ok (.invokestatic 106, 3) := by decide +kernel
theorem dX9_next_157 : decode cX9_next 157 = .ok (.ifCond .eq 52, 3) := by decide +kernel
theorem dX9_next_160 : decode cX9_next 160 = .ok (.aload_n 0, 1) := by decide +kernel
theorem dX9_next_161 : decode cX9_next 161 = .ok (.getfield 89, 3) := by decide +kernel
theorem dX9_next_164 : decode cX9_next 164 = .ok (.aload_n 0, 1) := by decide +kernel
theorem dX9_next_165 : decode cX9_next 165 = .ok (.getfield 86, 3) := by decide +kernel
theorem dX9_next_168 : decode cX9_next 168 = .ok (.isub, 1) := by decide +kernel
theorem dX9_next_169 : decode cX9_next 169 = .ok (.iconst 3, 1) := by decide +kernel
theorem dX9_next_170 : decode cX9_next 170 = .ok (.if_icmp .ge 26, 3) := by decide +kernel
theorem dX9_next_173 : decode cX9_next 173 = .ok (.aload_n 0, 1) := by decide +kernel
theorem dX9_next_174 : decode cX9_next 174 = .ok (.bipush 10, 2) := by decide +kernel
theorem dX9_next_176 : decode cX9_next 176 = .ok (.aload_n 0, 1) := by decide +kernel
theorem dX9_next_177 : decode cX9_next 177 = .ok (.getfield 109, 3) := by decide +kernel
theorem dX9_next_180 : decode cX9_next 180 = .ok (.imul, 1) := by decide +kernel
theorem dX9_next_181 : decode cX9_next 181 = .ok (.aload_n 0, 1) := by decide +kernel
theorem dX9_next_182 : decode cX9_next 182 = .ok (.aload_n 0, 1) := by decide +kernel
theorem dX9_next_183 : decode cX9_next 183 = .ok (.getfield 89, 3) := by decide +kernel
theorem dX9_next_186 : decode cX9_next 186 = .ok (.invokevirtual 92, 3) := by decide +kernel
theorem dX9_next_189 : decode cX9_next 189 = .ok (.iadd, 1) := by decide +kernel
theorem dX9_next_190 : decode cX9_next 190 = .ok (.bipush 48, 2) := by decide +kernel
theorem dX9_next_192 : decode cX9_next 192 = .ok (.isub, 1) := by decide +kernel
theorem dX9_next_193 : decode cX9_next 193 = .ok (.putfield 109, 3) := by decide +kernel
theorem dX9_next_196 : decode cX9_next 196 = .ok (.aload_n 0, 1) := by decide +kernel
theorem dX9_next_197 : decode cX9_next 197 = .ok (.dup, 1) := by decide +kernel
theorem dX9_next_198 : decode cX9_next 198 = .ok (.getfield 89, 3) := by decide +kernel
theorem dX9_next_201 : decode cX9_next 201 = .ok (.iconst 1, 1) := by decide +kernel
theorem dX9_next_202 : decode cX9_next 202 = .ok (.iadd, 1) := by decide +kernel
theorem dX9_next_203 : decode cX9_next 203 = .ok (.putfield 89, 3) := by decide +kernel
theorem dX9_next_206 : decode cX9_next 206 = .ok (.goto (-60), 3) := by decide +kernel
theorem dX9_next_209 : decode cX9_next 209 = .ok (.aload_n 0, 1) := by decide +kernel
theorem dX9_next_210 : decode cX9_next 210 = .ok (.aload_n 0, 1) := by decide +kernel
theorem dX9_next_211 : decode cX9_next 211 = .ok (.getfield 89, 3) := by decide +kernel
theorem dX9_next_214 : decode cX9_next 214 = .ok (.aload_n 0, 1) := by decide +kernel
theorem dX9_next_215 : decode cX9_next 215 = .ok (.getfield 86, 3) := by decide +kernel
theorem dX9_next_218 : decode cX9_next 218 = .ok (.isub, 1) := by decide +kernel
theorem dX9_next_219 : decode cX9_next 219 = .ok (.iconst 3, 1) := by decide +kernel
theorem dX9_next_220 : decode cX9_next 220 = .ok (.if_icmp .le 8, 3) := by decide +kernel
theorem dX9_next_223 : decode cX9_next 223 = .ok (.bipush 17, 2) := by decide +kernel
theorem dX9_next_225 : decode cX9_next 225 = .ok (.goto 5, 3) := by decide +kernel
theorem dX9_next_228 : decode cX9_next 228 = .ok (.bipush 14, 2) := by decide +kernel
theorem dX9_next_230 : decode cX9_next 230 = .ok (.putfield 96, 3) := by decide +kernel
theorem dX9_next_233 : decode cX9_next 233 = .ok (.goto 37, 3) := by decide +kernel
theorem dX9_next_236 : decode cX9_next 236 = .ok (.aload_n 0, 1) := by decide +kernel
theorem dX9_next_237 : decode cX9_next 237 = .ok (.dup, 1) := by decide +kernel
theorem dX9_next_238 : decode cX9_next 238 = .ok (.getfield 89, 3) := by decide +kernel
theorem dX9_next_241 : decode cX9_next 241 = .ok (.iconst 1, 1) := by decide +kernel
theorem dX9_next_242 : decode cX9_next 242 = .ok (.iadd, 1) := by decide +kernel
theorem dX9_next_243 : decode cX9_next 243 = .ok (.putfield 89, 3) := by decide +kernel
theorem dX9_next_246 : decode cX9_next 246 = .ok (.aload_n 0, 1) := by decide +kernel
theorem dX9_next_247 : decode cX9_next 247 = .ok (.aload_n 0, 1) := by decide +kernel
theorem dX9_next_248 : decode cX9_next 248 = .ok (.aload_n 0, 1) := by decide +kernel
theorem dX9_next_249 : decode cX9_next 249 = .ok (.getfield 86, 3) := by decide +kernel
theorem dX9_next_252 : decode cX9_next 252 = .ok (.invokevirtual 92, 3) := by decide +kernel
theorem dX9_next_255 : decode cX9_next 255 = .ok (.bipush 59, 2) := by decide +kernel
theorem dX9_next_257 : decode cX9_next 257 = .ok (.if_icmp .ne 8, 3) := by decide +kernel
theorem dX9_next_260 : decode cX9_next 260 = .ok (.bipush 15, 2) := by decide +kernel
theorem dX9_next_262 : decode cX9_next 262 = .ok (.goto 5, 3) := by decide +kernel
theorem dX9_next_265 : decode cX9_next 265 = .ok (.bipush 17, 2) := by decide +kernel
theorem dX9_next_267 : decode cX9_next 267 = .ok (.putfield 96, 3) := by decide +kernel
theorem dX9_next_270 : decode cX9_next 270 = .ok (.return_, 1) := by decide +kernel
theorem dX9_fails_0 : decode cX9_fails 0 = .ok (.aload_n 0, 1) := by decide +kernel
theorem dX9_fails_1 : decode cX9_fails 1 = .ok (.getfield 112, 3) := by decide +kernel
theorem dX9_fails_4 : decode cX9_fails 4 = .ok (.ifCond .eq 4, 3) := by decide +kernel
theorem dX9_fails_7 : decode cX9_fails 7 = .ok (.return_, 1) := by decide +kernel
theorem dX9_fails_8 : decode cX9_fails 8 = .ok (.aload_n 0, 1) := by decide +kernel
theorem dX9_fails_9 : decode cX9_fails 9 = .ok (.aload_n 0, 1) := by decide +kernel
theorem dX9_fails_10 : decode cX9_fails 10 = .ok (.getfield 96, 3) := by decide +kernel
theorem dX9_fails_13 : decode cX9_fails 13 = .ok (.bipush 17, 2) := by decide +kernel
theorem dX9_fails_15 : decode cX9_fails 15 = .ok (.if_icmp .ne 7, 3) := by decide +kernel
theorem dX9_fails_18 : decode cX9_fails 18 = .ok (.iconst 1, 1) := by decide +kernel
theorem dX9_fails_19 : decode cX9_fails 19 = .ok (.goto 4, 3) := by decide +kernel
theorem dX9_fails_22 : decode cX9_fails 22 = .ok (.iload_n 1, 1) := by decide +kernel
theorem dX9_fails_23 : decode cX9_fails 23 = .ok (.putfield 112, 3) := by decide +kernel
theorem dX9_fails_26 : decode cX9_fails 26 = .ok (.aload_n 0, 1) := by decide +kernel
theorem dX9_fails_27 : decode cX9_fails 27 = .ok (.aload_n 0, 1) := by decide +kernel
theorem dX9_fails_28 : decode cX9_fails 28 = .ok (.getfield 86, 3) := by decide +kernel
theorem dX9_fails_31 : decode cX9_fails 31 = .ok (.putfield 115, 3) := by decide +kernel
theorem dX9_fails_34 : decode cX9_fails 34 = .ok (.return_, 1) := by decide +kernel
theorem dX9_is_0 : decode cX9_is 0 = .ok (.aload_n 0, 1) := by decide +kernel
theorem dX9_is_1 : decode cX9_is 1 = .ok (.getfield 112, 3) := by decide +kernel
theorem dX9_is_4 : decode cX9_is 4 = .ok (.ifCond .ne 15, 3) := by decide +kernel
theorem dX9_is_7 : decode cX9_is 7 = .ok (.aload_n 0, 1) := by decide +kernel
theorem dX9_is_8 : decode cX9_is 8 = .ok (.getfield 96, 3) := by decide +kernel
theorem dX9_is_11 : decode cX9_is 11 = .ok (.iload_n 1, 1) := by decide +kernel
theorem dX9_is_12 : decode cX9_is 12 = .ok (.if_icmp .ne 7, 3) := by decide +kernel
theorem dX9_is_15 : decode cX9_is 15 = .ok (.iconst 1, 1) := by decide +kernel
theorem dX9_is_16 : decode cX9_is 16 = .ok (.goto 4, 3) := by decide +kernel
theorem dX9_is_19 : decode cX9_is 19 = .ok (.iconst 0, 1) := by decide +kernel
theorem dX9_is_20 : decode cX9_is 20 = .ok (.ireturn, 1) := by decide +kernel
theorem dX9_eats_0 : decode cX9_eats 0 = .ok (.aload_n 0, 1) := by decide +kernel
theorem dX9_eats_1 : decode cX9_eats 1 = .ok (.iload_n 1, 1) := by decide +kernel
theorem dX9_eats_2 : decode cX9_eats 2 = .ok (.invokevirtual 118, 3) := by decide +kernel
theorem dX9_eats_5 : decode cX9_eats 5 = .ok (.ifCond .ne 5, 3) := by decide +kernel
theorem dX9_eats_8 : decode cX9_eats 8 = .ok (.iconst 0, 1) := by decide +kernel
theorem dX9_eats_9 : decode cX9_eats 9 = .ok (.ireturn, 1) := by decide +kernel
theorem dX9_eats_10 : decode cX9_eats 10 = .ok (.aload_n 0, 1) := by decide +kernel
theorem dX9_eats_11 : decode cX9_eats 11 = .ok (.invokevirtual 121, 3) := by decide +kernel
theorem dX9_eats_14 : decode cX9_eats 14 = .ok (.iconst 1, 1) := by decide +kernel
theorem dX9_eats_15 : decode cX9_eats 15 = .ok (.ireturn, 1) := by decide +kernel
theorem dX9_takes_0 : decode cX9_takes 0 = .ok (.aload_n 0, 1) := by decide +kernel
theorem dX9_takes_1 : decode cX9_takes 1 = .ok (.bipush 14, 2) := by decide +kernel
theorem dX9_takes_3 : decode cX9_takes 3 = .ok (.invokevirtual 118, 3) := by decide +kernel
theorem dX9_takes_6 : decode cX9_takes 6 = .ok (.ifCond .ne 11, 3) := by decide +kernel
theorem dX9_takes_9 : decode cX9_takes 9 = .ok (.aload_n 0, 1) := by decide +kernel
theorem dX9_takes_10 : decode cX9_takes 10 = .ok (.iconst 2, 1) := by decide +kernel
theorem dX9_takes_11 : decode cX9_takes 11 = .ok (.invokevirtual 124, 3) := by decide +kernel
theorem dX9_takes_14 : decode cX9_takes 14 = .ok (.goto 23, 3) := by decide +kernel
theorem dX9_takes_17 : decode cX9_takes 17 = .ok (.aload_n 0, 1) := by decide +kernel
theorem dX9_takes_18 : decode cX9_takes 18 = .ok (.getfield 109, 3) := by decide +kernel
theorem dX9_takes_21 : decode cX9_takes 21 = .ok (.i2l, 1) := by decide +kernel
theorem dX9_takes_22 : decode cX9_takes 22 = .ok (.iload_n 1, 1) := by decide +kernel
theorem dX9_takes_23 : decode cX9_takes 23 = .ok (.i2l, 1) := by decide +kernel
theorem dX9_takes_24 : decode cX9_takes 24 = .ok (.iload_n 2, 1) := by decide +kernel
theorem dX9_takes_25 : decode cX9_takes 25 = .ok (.i2l, 1) := by decide +kernel
theorem dX9_takes_26 : decode cX9_takes 26 = .ok (.invokestatic 128, 3) := by decide +kernel
theorem dX9_takes_29 : decode cX9_takes 29 = .ok (.ifCond .ne 8, 3) := by decide +kernel
theorem dX9_takes_32 : decode cX9_takes 32 = .ok (.aload_n 0, 1) := by decide +kernel
theorem dX9_takes_33 : decode cX9_takes 33 = .ok (.iconst 3, 1) := by decide +kernel
theorem dX9_takes_34 : decode cX9_takes 34 = .ok (.invokevirtual 124, 3) := by decide +kernel
theorem dX9_takes_37 : decode cX9_takes 37 = .ok (.aload_n 0, 1) := by decide +kernel
theorem dX9_takes_38 : decode cX9_takes 38 = .ok (.getfield 109, 3) := by decide +kernel
theorem dX9_takes_41 : decode cX9_takes 41 = .ok (.istore_n 3, 1) := by decide +kernel
theorem dX9_takes_42 : decode cX9_takes 42 = .ok (.aload_n 0, 1) := by decide +kernel
theorem dX9_takes_43 : decode cX9_takes 43 = .ok (.getfield 112, 3) := by decide +kernel
theorem dX9_takes_46 : decode cX9_takes 46 = .ok (.ifCond .ne 7, 3) := by decide +kernel
theorem dX9_takes_49 : decode cX9_takes 49 = .ok (.aload_n 0, 1) := by decide +kernel
theorem dX9_takes_50 : decode cX9_takes 50 = .ok (.invokevirtual 121, 3) := by decide +kernel
theorem dX9_takes_53 : decode cX9_takes 53 = .ok (.iload_n 3, 1) := by decide +kernel
theorem dX9_takes_54 : decode cX9_takes 54 = .ok (.ireturn, 1) := by decide +kernel
theorem dX9_takesIf_0 : decode cX9_takesIf 0 = .ok (.aload_n 0, 1) := by decide +kernel
theorem dX9_takesIf_1 : decode cX9_takesIf 1 = .ok (.iload_n 1, 1) := by decide +kernel
theorem dX9_takesIf_2 : decode cX9_takesIf 2 = .ok (.invokevirtual 132, 3) := by decide +kernel
theorem dX9_takesIf_5 : decode cX9_takesIf 5 = .ok (.ifCond .eq 12, 3) := by decide +kernel
theorem dX9_takesIf_8 : decode cX9_takesIf 8 = .ok (.aload_n 0, 1) := by decide +kernel
theorem dX9_takesIf_9 : decode cX9_takesIf 9 = .ok (.iload_n 2, 1) := by decide +kernel
theorem dX9_takesIf_10 : decode cX9_takesIf 10 = .ok (.iload_n 3, 1) := by decide +kernel
theorem dX9_takesIf_11 : decode cX9_takesIf 11 = .ok (.invokevirtual 135, 3) := by decide +kernel
theorem dX9_takesIf_14 : decode cX9_takesIf 14 = .ok (.goto 5, 3) := by decide +kernel
theorem dX9_takesIf_17 : decode cX9_takesIf 17 = .ok (.iload 4, 2) := by decide +kernel
theorem dX9_takesIf_19 : decode cX9_takesIf 19 = .ok (.ireturn, 1) := by decide +kernel
theorem dX9_readStrip_0 : decode cX9_readStrip 0 = .ok (.aload_n 0, 1) := by decide +kernel
theorem dX9_readStrip_1 : decode cX9_readStrip 1 = .ok (.getfield 24, 3) := by decide +kernel
theorem dX9_readStrip_4 : decode cX9_readStrip 4 = .ok (.iconst 0, 1) := by decide +kernel
theorem dX9_readStrip_5 : decode cX9_readStrip 5 = .ok (.iaload, 1) := by decide +kernel
theorem dX9_readStrip_6 : decode cX9_readStrip 6 = .ok (.istore_n 1, 1) := by decide +kernel
theorem dX9_readStrip_7 : decode cX9_readStrip 7 = .ok (.iload_n 1, 1) := by decide +kernel
theorem dX9_readStrip_8 : decode cX9_readStrip 8 = .ok (.bipush 16, 2) := by decide +kernel
theorem dX9_readStrip_10 : decode cX9_readStrip 10 = .ok (.if_icmp .ne 8, 3) := by decide +kernel
theorem dX9_readStrip_13 : decode cX9_readStrip 13 = .ok (.aload_n 0, 1) := by decide +kernel
theorem dX9_readStrip_14 : decode cX9_readStrip 14 = .ok (.iconst 4, 1) := by decide +kernel
theorem dX9_readStrip_15 : decode cX9_readStrip 15 = .ok (.invokevirtual 124, 3) := by decide +kernel
theorem dX9_readStrip_18 : decode cX9_readStrip 18 = .ok (.aload_n 0, 1) := by decide +kernel
theorem dX9_readStrip_19 : decode cX9_readStrip 19 = .ok (.getfield 112, 3) := by decide +kernel
theorem dX9_readStrip_22 : decode cX9_readStrip 22 = .ok (.ifCond .eq 4, 3) := by decide +kernel
theorem dX9_readStrip_25 : decode cX9_readStrip 25 = .ok (.return_, 1) := by decide +kernel
theorem dX9_readStrip_26 : decode cX9_readStrip 26 = .ok (.aload_n 0, 1) := by decide +kernel
theorem dX9_readStrip_27 : decode cX9_readStrip 27 = .ok (.invokevirtual 121, 3) := by decide +kernel
theorem dX9_readStrip_30 : decode cX9_readStrip 30 = .ok (.aload_n 0, 1) := by decide +kernel
theorem dX9_readStrip_31 : decode cX9_readStrip 31 = .ok (.iconst 0, 1) := by decide +kernel
theorem dX9_readStrip_32 : decode cX9_readStrip 32 = .ok (.bipush 99, 2) := by decide +kernel
theorem dX9_readStrip_34 : decode cX9_readStrip 34 = .ok (.invokevirtual 135, 3) := by decide +kernel
theorem dX9_readStrip_37 : decode cX9_readStrip 37 = .ok (.istore_n 2, 1) := by decide +kernel
theorem dX9_readStrip_38 : decode cX9_readStrip 38 = .ok (.aload_n 0, 1) := by decide +kernel
theorem dX9_readStrip_39 : decode cX9_readStrip 39 = .ok (.iconst 1, 1) := by decide +kernel
theorem dX9_readStrip_40 : decode cX9_readStrip 40 = .ok (.iconst 0, 1) := by decide +kernel
theorem dX9_readStrip_41 : decode cX9_readStrip 41 = .ok (.bipush 9, 2) := by decide +kernel
theorem dX9_readStrip_43 : decode cX9_readStrip 43 = .ok (.iconst 2, 1) := by decide +kernel
theorem dX9_readStrip_44 : decode cX9_readStrip 44 = .ok (.invokevirtual 139, 3) := by decide +kernel
theorem dX9_readStrip_47 : decode cX9_readStrip 47 = .ok (.istore_n 3, 1) := by decide +kernel
theorem dX9_readStrip_48 : decode cX9_readStrip 48 = .ok (.aload_n 0, 1) := by decide +kernel
theorem dX9_readStrip_49 : decode cX9_readStrip 49 = .ok (.iconst 2, 1) := by decide +kernel
theorem dX9_readStrip_50 : decode cX9_readStrip 50 = .ok (.iconst 0, 1) := by decide +kernel
theorem dX9_readStrip_51 : decode cX9_readStrip 51 = .ok (.bipush 30, 2) := by decide +kernel
theorem dX9_readStrip_53 : decode cX9_readStrip 53 = .ok (.iconst 0, 1) := by decide +kernel
theorem dX9_readStrip_54 : decode cX9_readStrip 54 = .ok (.invokevirtual 139, 3) := by decide +kernel
theorem dX9_readStrip_57 : decode cX9_readStrip 57 = .ok (.istore 4, 2) := by decide +kernel
theorem dX9_readStrip_59 : decode cX9_readStrip 59 = .ok (.aload_n 0, 1) := by decide +kernel
theorem dX9_readStrip_60 : decode cX9_readStrip 60 = .ok (.iconst 3, 1) := by decide +kernel
theorem dX9_readStrip_61 : decode cX9_readStrip 61 = .ok (.iconst 0, 1) := by decide +kernel
theorem dX9_readStrip_62 : decode cX9_readStrip 62 = .ok (.iconst 5, 1) := by decide +kernel
theorem dX9_readStrip_63 : decode cX9_readStrip 63 = .ok (.iconst 0, 1) := by decide +kernel
theorem dX9_readStrip_64 : decode cX9_readStrip 64 = .ok (.invokevirtual 139, 3) := by decide +kernel
theorem dX9_readStrip_67 : decode cX9_readStrip 67 = .ok (.istore 5, 2) := by decide +kernel
theorem dX9_readStrip_69 : decode cX9_readStrip 69 = .ok (.aload_n 0, 1) := by decide +kernel
theorem dX9_readStrip_70 : decode cX9_readStrip 70 = .ok (.getfield 112, 3) := by decide +kernel
theorem dX9_readStrip_73 : decode cX9_readStrip 73 = .ok (.ifCond .eq 4, 3) := by decide +kernel
theorem dX9_readStrip_76 : decode cX9_readStrip 76 = .ok (.return_, 1) := by decide +kernel
theorem dX9_readStrip_77 : decode cX9_readStrip 77 = .ok (.aload_n 0, 1) := by decide +kernel
theorem dX9_readStrip_78 : decode cX9_readStrip 78 = .ok (.getfield 24, 3) := by decide +kernel
theorem dX9_readStrip_81 : decode cX9_readStrip 81 = .ok (.bipush 16, 2) := by decide +kernel
theorem dX9_readStrip_83 : decode cX9_readStrip 83 = .ok (.iload_n 1, 1) := by decide +kernel
theorem dX9_readStrip_84 : decode cX9_readStrip 84 = .ok (.iadd, 1) := by decide +kernel
theorem dX9_readStrip_85 : decode cX9_readStrip 85 = .ok (.iload_n 2, 1) := by decide +kernel
theorem dX9_readStrip_86 : decode cX9_readStrip 86 = .ok (.iastore, 1) := by decide +kernel
theorem dX9_readStrip_87 : decode cX9_readStrip 87 = .ok (.aload_n 0, 1) := by decide +kernel
theorem dX9_readStrip_88 : decode cX9_readStrip 88 = .ok (.getfield 24, 3) := by decide +kernel
theorem dX9_readStrip_91 : decode cX9_readStrip 91 = .ok (.bipush 32, 2) := by decide +kernel
theorem dX9_readStrip_93 : decode cX9_readStrip 93 = .ok (.iload_n 1, 1) := by decide +kernel
theorem dX9_readStrip_94 : decode cX9_readStrip 94 = .ok (.iadd, 1) := by decide +kernel
theorem dX9_readStrip_95 : decode cX9_readStrip 95 = .ok (.iload_n 3, 1) := by decide +kernel
theorem dX9_readStrip_96 : decode cX9_readStrip 96 = .ok (.iastore, 1) := by decide +kernel
theorem dX9_readStrip_97 : decode cX9_readStrip 97 = .ok (.aload_n 0, 1) := by decide +kernel
theorem dX9_readStrip_98 : decode cX9_readStrip 98 = .ok (.getfield 24, 3) := by decide +kernel
theorem dX9_readStrip_101 : decode cX9_readStrip 101 = .ok (.bipush 48, 2) := by decide +kernel
theorem dX9_readStrip_103 : decode cX9_readStrip 103 = .ok (.iload_n 1, 1) := by decide +kernel
theorem dX9_readStrip_104 : decode cX9_readStrip 104 = .ok (.iadd, 1) := by decide +kernel
theorem dX9_readStrip_105 : decode cX9_readStrip 105 = .ok (.iload 4, 2) := by decide +kernel
theorem dX9_readStrip_107 : decode cX9_readStrip 107 = .ok (.iastore, 1) := by decide +kernel
theorem dX9_readStrip_108 : decode cX9_readStrip 108 = .ok (.aload_n 0, 1) := by decide +kernel
theorem dX9_readStrip_109 : decode cX9_readStrip 109 = .ok (.getfield 24, 3) := by decide +kernel
theorem dX9_readStrip_112 : decode cX9_readStrip 112 = .ok (.bipush 64, 2) := by decide +kernel
theorem dX9_readStrip_114 : decode cX9_readStrip 114 = .ok (.iload_n 1, 1) := by decide +kernel
theorem dX9_readStrip_115 : decode cX9_readStrip 115 = .ok (.iadd, 1) := by decide +kernel
theorem dX9_readStrip_116 : decode cX9_readStrip 116 = .ok (.iload 5, 2) := by decide +kernel
theorem dX9_readStrip_118 : decode cX9_readStrip 118 = .ok (.iastore, 1) := by decide +kernel
theorem dX9_readStrip_119 : decode cX9_readStrip 119 = .ok (.aload_n 0, 1) := by decide +kernel
theorem dX9_readStrip_120 : decode cX9_readStrip 120 = .ok (.getfield 24, 3) := by decide +kernel
theorem dX9_readStrip_123 : decode cX9_readStrip 123 = .ok (.iconst 0, 1) := by decide +kernel
theorem dX9_readStrip_124 : decode cX9_readStrip 124 = .ok (.dup2, 1) := by decide +kernel
theorem dX9_readStrip_125 : decode cX9_readStrip 125 = .ok (.iaload, 1) := by decide +kernel
theorem dX9_readStrip_126 : decode cX9_readStrip 126 = .ok (.iconst 1, 1) := by decide +kernel
theorem dX9_readStrip_127 : decode cX9_readStrip 127 = .ok (.iadd, 1) := by decide +kernel
theorem dX9_readStrip_128 : decode cX9_readStrip 128 = .ok (.iastore, 1) := by decide +kernel
theorem dX9_readStrip_129 : decode cX9_readStrip 129 = .ok (.return_, 1) := by decide +kernel
theorem dX9_readLamp_0 : decode cX9_readLamp 0 = .ok (.aload_n 0, 1) := by decide +kernel
theorem dX9_readLamp_1 : decode cX9_readLamp 1 = .ok (.getfield 24, 3) := by decide +kernel
theorem dX9_readLamp_4 : decode cX9_readLamp 4 = .ok (.invokestatic 65, 3) := by decide +kernel
theorem dX9_readLamp_7 : decode cX9_readLamp 7 = .ok (.aload_n 0, 1) := by decide +kernel
theorem dX9_readLamp_8 : decode cX9_readLamp 8 = .ok (.getfield 24, 3) := by decide +kernel
theorem dX9_readLamp_11 : decode cX9_readLamp 11 = .ok (.iconst 2, 1) := by decide +kernel
theorem dX9_readLamp_12 : decode cX9_readLamp 12 = .ok (.aload_n 0, 1) := by decide +kernel
theorem dX9_readLamp_13 : decode cX9_readLamp 13 = .ok (.iconst 5, 1) := by decide +kernel
theorem dX9_readLamp_14 : decode cX9_readLamp 14 = .ok (.iconst 0, 1) := by decide +kernel
theorem dX9_readLamp_15 : decode cX9_readLamp 15 = .ok (.aload_n 0, 1) := by decide +kernel
theorem dX9_readLamp_16 : decode cX9_readLamp 16 = .ok (.getfield 24, 3) := by decide +kernel
theorem dX9_readLamp_19 : decode cX9_readLamp 19 = .ok (.iconst 0, 1) := by decide +kernel
theorem dX9_readLamp_20 : decode cX9_readLamp 20 = .ok (.iaload, 1) := by decide +kernel
theorem dX9_readLamp_21 : decode cX9_readLamp 21 = .ok (.iconst 1, 1) := by decide +kernel
theorem dX9_readLamp_22 : decode cX9_readLamp 22 = .ok (.isub, 1) := by decide +kernel
theorem dX9_readLamp_23 : decode cX9_readLamp 23 = .ok (.iconst 0, 1) := by decide +kernel
theorem dX9_readLamp_24 : decode cX9_readLamp 24 = .ok (.invokevirtual 139, 3) := by decide +kernel
theorem dX9_readLamp_27 : decode cX9_readLamp 27 = .ok (.iastore, 1) := by decide +kernel
theorem dX9_readLamp_28 : decode cX9_readLamp 28 = .ok (.aload_n 0, 1) := by decide +kernel
theorem dX9_readLamp_29 : decode cX9_readLamp 29 = .ok (.getfield 24, 3) := by decide +kernel
theorem dX9_readLamp_32 : decode cX9_readLamp 32 = .ok (.iconst 3, 1) := by decide +kernel
theorem dX9_readLamp_33 : decode cX9_readLamp 33 = .ok (.aload_n 0, 1) := by decide +kernel
theorem dX9_readLamp_34 : decode cX9_readLamp 34 = .ok (.bipush 6, 2) := by decide +kernel
theorem dX9_readLamp_36 : decode cX9_readLamp 36 = .ok (.iconst 1, 1) := by decide +kernel
theorem dX9_readLamp_37 : decode cX9_readLamp 37 = .ok (.bipush 30, 2) := by decide +kernel
theorem dX9_readLamp_39 : decode cX9_readLamp 39 = .ok (.bipush 6, 2) := by decide +kernel
theorem dX9_readLamp_41 : decode cX9_readLamp 41 = .ok (.invokevirtual 139, 3) := by decide +kernel
theorem dX9_readLamp_44 : decode cX9_readLamp 44 = .ok (.iastore, 1) := by decide +kernel
theorem dX9_readLamp_45 : decode cX9_readLamp 45 = .ok (.aload_n 0, 1) := by decide +kernel
theorem dX9_readLamp_46 : decode cX9_readLamp 46 = .ok (.getfield 24, 3) := by decide +kernel
theorem dX9_readLamp_49 : decode cX9_readLamp 49 = .ok (.iconst 4, 1) := by decide +kernel
theorem dX9_readLamp_50 : decode cX9_readLamp 50 = .ok (.aload_n 0, 1) := by decide +kernel
theorem dX9_readLamp_51 : decode cX9_readLamp 51 = .ok (.bipush 7, 2) := by decide +kernel
theorem dX9_readLamp_53 : decode cX9_readLamp 53 = .ok (.iconst 0, 1) := by decide +kernel
theorem dX9_readLamp_54 : decode cX9_readLamp 54 = .ok (.bipush 20, 2) := by decide +kernel
theorem dX9_readLamp_56 : decode cX9_readLamp 56 = .ok (.bipush 6, 2) := by decide +kernel
theorem dX9_readLamp_58 : decode cX9_readLamp 58 = .ok (.invokevirtual 139, 3) := by decide +kernel
theorem dX9_readLamp_61 : decode cX9_readLamp 61 = .ok (.iastore, 1) := by decide +kernel
theorem dX9_readLamp_62 : decode cX9_readLamp 62 = .ok (.aload_n 0, 1) := by decide +kernel
theorem dX9_readLamp_63 : decode cX9_readLamp 63 = .ok (.getfield 24, 3) := by decide +kernel
theorem dX9_readLamp_66 : decode cX9_readLamp 66 = .ok (.iconst 5, 1) := by decide +kernel
theorem dX9_readLamp_67 : decode cX9_readLamp 67 = .ok (.aload_n 0, 1) := by decide +kernel
theorem dX9_readLamp_68 : decode cX9_readLamp 68 = .ok (.bipush 8, 2) := by decide +kernel
theorem dX9_readLamp_70 : decode cX9_readLamp 70 = .ok (.iconst 0, 1) := by decide +kernel
theorem dX9_readLamp_71 : decode cX9_readLamp 71 = .ok (.bipush 9, 2) := by decide +kernel
theorem dX9_readLamp_73 : decode cX9_readLamp 73 = .ok (.iconst 1, 1) := by decide +kernel
theorem dX9_readLamp_74 : decode cX9_readLamp 74 = .ok (.invokevirtual 139, 3) := by decide +kernel
theorem dX9_readLamp_77 : decode cX9_readLamp 77 = .ok (.iastore, 1) := by decide +kernel
theorem dX9_readLamp_78 : decode cX9_readLamp 78 = .ok (.return_, 1) := by decide +kernel
theorem dX9_readBid_0 : decode cX9_readBid 0 = .ok (.aload_n 0, 1) := by decide +kernel
theorem dX9_readBid_1 : decode cX9_readBid 1 = .ok (.iconst 0, 1) := by decide +kernel
theorem dX9_readBid_2 : decode cX9_readBid 2 = .ok (.iconst 5, 1) := by decide +kernel
theorem dX9_readBid_3 : decode cX9_readBid 3 = .ok (.invokevirtual 135, 3) := by decide +kernel
theorem dX9_readBid_6 : decode cX9_readBid 6 = .ok (.istore_n 1, 1) := by decide +kernel
theorem dX9_readBid_7 : decode cX9_readBid 7 = .ok (.aload_n 0, 1) := by decide +kernel
theorem dX9_readBid_8 : decode cX9_readBid 8 = .ok (.iconst 0, 1) := by decide +kernel
theorem dX9_readBid_9 : decode cX9_readBid 9 = .ok (.bipush 99, 2) := by decide +kernel
theorem dX9_readBid_11 : decode cX9_readBid 11 = .ok (.invokevirtual 135, 3) := by decide +kernel
theorem dX9_readBid_14 : decode cX9_readBid 14 = .ok (.istore_n 2, 1) := by decide +kernel
theorem dX9_readBid_15 : decode cX9_readBid 15 = .ok (.aload_n 0, 1) := by decide +kernel
theorem dX9_readBid_16 : decode cX9_readBid 16 = .ok (.getfield 112, 3) := by decide +kernel
theorem dX9_readBid_19 : decode cX9_readBid 19 = .ok (.ifCond .ne 13, 3) := by decide +kernel
theorem dX9_readBid_22 : decode cX9_readBid 22 = .ok (.aload_n 0, 1) := by decide +kernel
theorem dX9_readBid_23 : decode cX9_readBid 23 = .ok (.getfield 24, 3) := by decide +kernel
theorem dX9_readBid_26 : decode cX9_readBid 26 = .ok (.bipush 10, 2) := by decide +kernel
theorem dX9_readBid_28 : decode cX9_readBid 28 = .ok (.iload_n 1, 1) := by decide +kernel
theorem dX9_readBid_29 : decode cX9_readBid 29 = .ok (.iadd, 1) := by decide +kernel
theorem dX9_readBid_30 : decode cX9_readBid 30 = .ok (.iload_n 2, 1) := by decide +kernel
theorem dX9_readBid_31 : decode cX9_readBid 31 = .ok (.iastore, 1) := by decide +kernel
theorem dX9_readBid_32 : decode cX9_readBid 32 = .ok (.return_, 1) := by decide +kernel
theorem dX9_readLine_0 : decode cX9_readLine 0 = .ok (.aload_n 0, 1) := by decide +kernel
theorem dX9_readLine_1 : decode cX9_readLine 1 = .ok (.iconst 0, 1) := by decide +kernel
theorem dX9_readLine_2 : decode cX9_readLine 2 = .ok (.invokevirtual 118, 3) := by decide +kernel
theorem dX9_readLine_5 : decode cX9_readLine 5 = .ok (.ifCond .eq 10, 3) := by decide +kernel
theorem dX9_readLine_8 : decode cX9_readLine 8 = .ok (.aload_n 0, 1) := by decide +kernel
theorem dX9_readLine_9 : decode cX9_readLine 9 = .ok (.invokevirtual 143, 3) := by decide +kernel
theorem dX9_readLine_12 : decode cX9_readLine 12 = .ok (.goto 124, 3) := by decide +kernel
theorem dX9_readLine_15 : decode cX9_readLine 15 = .ok (.aload_n 0, 1) := by decide +kernel
theorem dX9_readLine_16 : decode cX9_readLine 16 = .ok (.iconst 4, 1) := by decide +kernel
theorem dX9_readLine_17 : decode cX9_readLine 17 = .ok (.invokevirtual 132, 3) := by decide +kernel
theorem dX9_readLine_20 : decode cX9_readLine 20 = .ok (.ifCond .eq 10, 3) := by decide +kernel
theorem dX9_readLine_23 : decode cX9_readLine 23 = .ok (.aload_n 0, 1) := by decide +kernel
theorem dX9_readLine_24 : decode cX9_readLine 24 = .ok (.invokevirtual 146, 3) := by decide +kernel
theorem dX9_readLine_27 : decode cX9_readLine 27 = .ok (.goto 109, 3) := by decide +kernel
theorem dX9_readLine_30 : decode cX9_readLine 30 = .ok (.aload_n 0, 1) := by decide +kernel
theorem dX9_readLine_31 : decode cX9_readLine 31 = .ok (.bipush 9, 2) := by decide +kernel
theorem dX9_readLine_33 : decode cX9_readLine 33 = .ok (.invokevirtual 132, 3) := by decide +kernel
theorem dX9_readLine_36 : decode cX9_readLine 36 = .ok (.ifCond .eq 21, 3) := by decide +kernel
theorem dX9_readLine_39 : decode cX9_readLine 39 = .ok (.aload_n 0, 1) := by decide +kernel
theorem dX9_readLine_40 : decode cX9_readLine 40 = .ok (.getfield 24, 3) := by decide +kernel
theorem dX9_readLine_43 : decode cX9_readLine 43 = .ok (.bipush 6, 2) := by decide +kernel
theorem dX9_readLine_45 : decode cX9_readLine 45 = .ok (.aload_n 0, 1) := by decide +kernel
theorem dX9_readLine_46 : decode cX9_readLine 46 = .ok (.iconst 0, 1) := by decide +kernel
theorem dX9_readLine_47 : decode cX9_readLine 47 = .ok (.sipush 999, 3) := by decide +kernel
theorem dX9_readLine_50 : decode cX9_readLine 50 = .ok (.invokevirtual 135, 3) := by decide +kernel
theorem dX9_readLine_53 : decode cX9_readLine 53 = .ok (.iastore, 1) := by decide +kernel
theorem dX9_readLine_54 : decode cX9_readLine 54 = .ok (.goto 82, 3) := by decide +kernel
theorem dX9_readLine_57 : decode cX9_readLine 57 = .ok (.aload_n 0, 1) := by decide +kernel
theorem dX9_readLine_58 : decode cX9_readLine 58 = .ok (.bipush 10, 2) := by decide +kernel
theorem dX9_readLine_60 : decode cX9_readLine 60 = .ok (.invokevirtual 132, 3) := by decide +kernel
theorem dX9_readLine_63 : decode cX9_readLine 63 = .ok (.ifCond .eq 10, 3) := by decide +kernel
theorem dX9_readLine_66 : decode cX9_readLine 66 = .ok (.aload_n 0, 1) := by decide +kernel
theorem dX9_readLine_67 : decode cX9_readLine 67 = .ok (.invokevirtual 149, 3) := by decide +kernel
theorem dX9_readLine_70 : decode cX9_readLine 70 = .ok (.goto 66, 3) := by decide +kernel
theorem dX9_readLine_73 : decode cX9_readLine 73 = .ok (.aload_n 0, 1) := by decide +kernel
