theorem dX8_refusedSearch_9 : decode cX8_refusedSearch 9 = .ok (.if_icmp .lt 8, 3) := by decide +kernel
theorem dX8_refusedSearch_12 : decode cX8_refusedSearch 12 = .ok (.iload_n 2, 1) := by decide +kernel
theorem dX8_refusedSearch_13 : decode cX8_refusedSearch 13 = .ok (.iload_n 3, 1) := by decide +kernel
theorem dX8_refusedSearch_14 : decode cX8_refusedSearch 14 = .ok (.if_icmp .le 6, 3) := by decide +kernel
theorem dX8_refusedSearch_17 : decode cX8_refusedSearch 17 = .ok (.bipush (-3), 2) := by decide +kernel
theorem dX8_refusedSearch_19 : decode cX8_refusedSearch 19 = .ok (.ireturn, 1) := by decide +kernel
theorem dX8_refusedSearch_20 : decode cX8_refusedSearch 20 = .ok (.aload_n 0, 1) := by decide +kernel
theorem dX8_refusedSearch_21 : decode cX8_refusedSearch 21 = .ok (.getfield 27, 3) := by decide +kernel
theorem dX8_refusedSearch_24 : decode cX8_refusedSearch 24 = .ok (.getfield 161, 3) := by decide +kernel
theorem dX8_refusedSearch_27 : decode cX8_refusedSearch 27 = .ok (.ifCond .ne 8, 3) := by decide +kernel
theorem dX8_refusedSearch_30 : decode cX8_refusedSearch 30 = .ok (.bipush (-5), 2) := by decide +kernel
theorem dX8_refusedSearch_32 : decode cX8_refusedSearch 32 = .ok (.goto 4, 3) := by decide +kernel
theorem dX8_refusedSearch_36 : decode cX8_refusedSearch 36 = .ok (.ireturn, 1) := by decide +kernel
theorem dX8_refusedStubble_0 : decode cX8_refusedStubble 0 = .ok (.iload_n 1, 1) := by decide +kernel
theorem dX8_refusedStubble_1 : decode cX8_refusedStubble 1 = .ok (.invokestatic 182, 3) := by decide +kernel
theorem dX8_refusedStubble_4 : decode cX8_refusedStubble 4 = .ok (.ifCond .ne 6, 3) := by decide +kernel
theorem dX8_refusedStubble_7 : decode cX8_refusedStubble 7 = .ok (.bipush (-2), 2) := by decide +kernel
theorem dX8_refusedStubble_9 : decode cX8_refusedStubble 9 = .ok (.ireturn, 1) := by decide +kernel
theorem dX8_refusedStubble_10 : decode cX8_refusedStubble 10 = .ok (.aload_n 0, 1) := by decide +kernel
theorem dX8_refusedStubble_11 : decode cX8_refusedStubble 11 = .ok (.getfield 44, 3) := by decide +kernel
theorem dX8_refusedStubble_14 : decode cX8_refusedStubble 14 = .ok (.iload_n 1, 1) := by decide +kernel
theorem dX8_refusedStubble_15 : decode cX8_refusedStubble 15 = .ok (.aaload, 1) := by decide +kernel
theorem dX8_refusedStubble_16 : decode cX8_refusedStubble 16 = .ok (.getfield 185, 3) := by decide +kernel
theorem dX8_refusedStubble_19 : decode cX8_refusedStubble 19 = .ok (.ifCond .eq 6, 3) := by decide +kernel
theorem dX8_refusedStubble_22 : decode cX8_refusedStubble 22 = .ok (.bipush (-6), 2) := by decide +kernel
theorem dX8_refusedStubble_24 : decode cX8_refusedStubble 24 = .ok (.ireturn, 1) := by decide +kernel
theorem dX8_refusedMeeting_0 : decode cX8_refusedMeeting 0 = .ok (.iload_n 1, 1) := by decide +kernel
theorem dX8_refusedMeeting_1 : decode cX8_refusedMeeting 1 = .ok (.invokestatic 182, 3) := by decide +kernel
theorem dX8_refusedMeeting_4 : decode cX8_refusedMeeting 4 = .ok (.ifCond .eq 10, 3) := by decide +kernel
theorem dX8_refusedMeeting_7 : decode cX8_refusedMeeting 7 = .ok (.iload_n 2, 1) := by decide +kernel
theorem dX8_refusedMeeting_8 : decode cX8_refusedMeeting 8 = .ok (.invokestatic 182, 3) := by decide +kernel
theorem dX8_refusedMeeting_11 : decode cX8_refusedMeeting 11 = .ok (.ifCond .ne 6, 3) := by decide +kernel
theorem dX8_refusedMeeting_14 : decode cX8_refusedMeeting 14 = .ok (.bipush (-2), 2) := by decide +kernel
theorem dX8_refusedMeeting_16 : decode cX8_refusedMeeting 16 = .ok (.ireturn, 1) := by decide +kernel
theorem dX8_refusedMeeting_17 : decode cX8_refusedMeeting 17 = .ok (.aload_n 0, 1) := by decide +kernel
theorem dX8_refusedMeeting_18 : decode cX8_refusedMeeting 18 = .ok (.getfield 44, 3) := by decide +kernel
theorem dX8_refusedMeeting_21 : decode cX8_refusedMeeting 21 = .ok (.iload_n 1, 1) := by decide +kernel
theorem dX8_refusedMeeting_22 : decode cX8_refusedMeeting 22 = .ok (.aaload, 1) := by decide +kernel
theorem dX8_refusedMeeting_23 : decode cX8_refusedMeeting 23 = .ok (.getfield 185, 3) := by decide +kernel
theorem dX8_refusedMeeting_26 : decode cX8_refusedMeeting 26 = .ok (.ifCond .ne 15, 3) := by decide +kernel
theorem dX8_refusedMeeting_41 : decode cX8_refusedMeeting 41 = .ok (.bipush (-6), 2) := by decide +kernel
theorem dX8_refusedMeeting_43 : decode cX8_refusedMeeting 43 = .ok (.ireturn, 1) := by decide +kernel
theorem dX9_within_0 : decode cX9_within 0 = .ok (.lload_n 0, 1) := by decide +kernel
theorem dX9_within_1 : decode cX9_within 1 = .ok (.lload_n 2, 1) := by decide +kernel
theorem dX9_within_2 : decode cX9_within 2 = .ok (.lcmp, 1) := by decide +kernel
theorem dX9_within_3 : decode cX9_within 3 = .ok (.ifCond .lt 14, 3) := by decide +kernel
theorem dX9_within_6 : decode cX9_within 6 = .ok (.lload_n 0, 1) := by decide +kernel
theorem dX9_within_7 : decode cX9_within 7 = .ok (.lload 4, 2) := by decide +kernel
theorem dX9_within_9 : decode cX9_within 9 = .ok (.lcmp, 1) := by decide +kernel
theorem dX9_within_10 : decode cX9_within 10 = .ok (.ifCond .gt 7, 3) := by decide +kernel
theorem dX9_within_13 : decode cX9_within 13 = .ok (.iconst 1, 1) := by decide +kernel
theorem dX9_within_14 : decode cX9_within 14 = .ok (.goto 4, 3) := by decide +kernel
theorem dX9_within_17 : decode cX9_within 17 = .ok (.iconst 0, 1) := by decide +kernel
theorem dX9_within_18 : decode cX9_within 18 = .ok (.ireturn, 1) := by decide +kernel
theorem dX9_init_0 : decode cX9_init 0 = .ok (.aload_n 0, 1) := by decide +kernel
theorem dX9_init_1 : decode cX9_init 1 = .ok (.invokespecial 7, 3) := by decide +kernel
theorem dX9_init_4 : decode cX9_init 4 = .ok (.aload_n 0, 1) := by decide +kernel
theorem dX9_init_5 : decode cX9_init 5 = .ok (.sipush 288, 3) := by decide +kernel
theorem dX9_init_8 : decode cX9_init 8 = .ok (.newarray .int, 2) := by decide +kernel
theorem dX9_init_10 : decode cX9_init 10 = .ok (.putfield 13, 3) := by decide +kernel
theorem dX9_init_13 : decode cX9_init 13 = .ok (.aload_n 0, 1) := by decide +kernel
theorem dX9_init_14 : decode cX9_init 14 = .ok (.iconst 2, 1) := by decide +kernel
theorem dX9_init_15 : decode cX9_init 15 = .ok (.newarray .boolean, 2) := by decide +kernel
theorem dX9_init_17 : decode cX9_init 17 = .ok (.putfield 17, 3) := by decide +kernel
theorem dX9_init_20 : decode cX9_init 20 = .ok (.aload_n 0, 1) := by decide +kernel
theorem dX9_init_21 : decode cX9_init 21 = .ok (.sipush 900, 3) := by decide +kernel
theorem dX9_init_24 : decode cX9_init 24 = .ok (.newarray .int, 2) := by decide +kernel
theorem dX9_init_26 : decode cX9_init 26 = .ok (.putfield 21, 3) := by decide +kernel
theorem dX9_init_29 : decode cX9_init 29 = .ok (.aload_n 0, 1) := by decide +kernel
theorem dX9_init_30 : decode cX9_init 30 = .ok (.bipush 96, 2) := by decide +kernel
theorem dX9_init_32 : decode cX9_init 32 = .ok (.newarray .int, 2) := by decide +kernel
theorem dX9_init_34 : decode cX9_init 34 = .ok (.putfield 24, 3) := by decide +kernel
theorem dX9_init_37 : decode cX9_init 37 = .ok (.aload_n 0, 1) := by decide +kernel
theorem dX9_init_38 : decode cX9_init 38 = .ok (.iconst (-1), 1) := by decide +kernel
theorem dX9_init_39 : decode cX9_init 39 = .ok (.putfield 27, 3) := by decide +kernel
theorem dX9_init_42 : decode cX9_init 42 = .ok (.aload_n 0, 1) := by decide +kernel
theorem dX9_init_43 : decode cX9_init 43 = .ok (.bipush 6, 2) := by decide +kernel
theorem dX9_init_45 : decode cX9_init 45 = .ok (.newarray .int, 2) := by decide +kernel
theorem dX9_init_47 : decode cX9_init 47 = .ok (.putfield 30, 3) := by decide +kernel
theorem dX9_init_50 : decode cX9_init 50 = .ok (.aload_n 0, 1) := by decide +kernel
theorem dX9_init_51 : decode cX9_init 51 = .ok (.sipush 960, 3) := by decide +kernel
theorem dX9_init_54 : decode cX9_init 54 = .ok (.newarray .int, 2) := by decide +kernel
theorem dX9_init_56 : decode cX9_init 56 = .ok (.putfield 33, 3) := by decide +kernel
theorem dX9_init_59 : decode cX9_init 59 = .ok (.aload_n 0, 1) := by decide +kernel
theorem dX9_init_60 : decode cX9_init 60 = .ok (.bipush 8, 2) := by decide +kernel
theorem dX9_init_62 : decode cX9_init 62 = .ok (.newarray .int, 2) := by decide +kernel
theorem dX9_init_64 : decode cX9_init 64 = .ok (.putfield 36, 3) := by decide +kernel
theorem dX9_init_67 : decode cX9_init 67 = .ok (.aload_n 0, 1) := by decide +kernel
theorem dX9_init_68 : decode cX9_init 68 = .ok (.bipush 8, 2) := by decide +kernel
theorem dX9_init_70 : decode cX9_init 70 = .ok (.newarray .int, 2) := by decide +kernel
theorem dX9_init_72 : decode cX9_init 72 = .ok (.putfield 39, 3) := by decide +kernel
theorem dX9_init_75 : decode cX9_init 75 = .ok (.aload_n 0, 1) := by decide +kernel
theorem dX9_init_76 : decode cX9_init 76 = .ok (.bipush 6, 2) := by decide +kernel
theorem dX9_init_78 : decode cX9_init 78 = .ok (.newarray .int, 2) := by decide +kernel
theorem dX9_init_80 : decode cX9_init 80 = .ok (.putfield 42, 3) := by decide +kernel
theorem dX9_init_83 : decode cX9_init 83 = .ok (.aload_n 0, 1) := by decide +kernel
theorem dX9_init_84 : decode cX9_init 84 = .ok (.sipush 11664, 3) := by decide +kernel
theorem dX9_init_87 : decode cX9_init 87 = .ok (.newarray .int, 2) := by decide +kernel
theorem dX9_init_89 : decode cX9_init 89 = .ok (.putfield 45, 3) := by decide +kernel
theorem dX9_init_92 : decode cX9_init 92 = .ok (.aload_n 0, 1) := by decide +kernel
theorem dX9_init_93 : decode cX9_init 93 = .ok (.bipush 16, 2) := by decide +kernel
theorem dX9_init_95 : decode cX9_init 95 = .ok (.newarray .int, 2) := by decide +kernel
theorem dX9_init_97 : decode cX9_init 97 = .ok (.putfield 48, 3) := by decide +kernel
theorem dX9_init_100 : decode cX9_init 100 = .ok (.aload_n 0, 1) := by decide +kernel
theorem dX9_init_101 : decode cX9_init 101 = .ok (.iconst 4, 1) := by decide +kernel
theorem dX9_init_102 : decode cX9_init 102 = .ok (.newarray .int, 2) := by decide +kernel
theorem dX9_init_104 : decode cX9_init 104 = .ok (.dup, 1) := by decide +kernel
theorem dX9_init_105 : decode cX9_init 105 = .ok (.iconst 0, 1) := by decide +kernel
theorem dX9_init_106 : decode cX9_init 106 = .ok (.iconst (-1), 1) := by decide +kernel
theorem dX9_init_107 : decode cX9_init 107 = .ok (.iastore, 1) := by decide +kernel
theorem dX9_init_108 : decode cX9_init 108 = .ok (.dup, 1) := by decide +kernel
theorem dX9_init_109 : decode cX9_init 109 = .ok (.iconst 1, 1) := by decide +kernel
theorem dX9_init_110 : decode cX9_init 110 = .ok (.iconst (-1), 1) := by decide +kernel
theorem dX9_init_111 : decode cX9_init 111 = .ok (.iastore, 1) := by decide +kernel
theorem dX9_init_112 : decode cX9_init 112 = .ok (.dup, 1) := by decide +kernel
theorem dX9_init_113 : decode cX9_init 113 = .ok (.iconst 2, 1) := by decide +kernel
theorem dX9_init_114 : decode cX9_init 114 = .ok (.iconst (-1), 1) := by decide +kernel
theorem dX9_init_115 : decode cX9_init 115 = .ok (.iastore, 1) := by decide +kernel
theorem dX9_init_116 : decode cX9_init 116 = .ok (.dup, 1) := by decide +kernel
theorem dX9_init_117 : decode cX9_init 117 = .ok (.iconst 3, 1) := by decide +kernel
theorem dX9_init_118 : decode cX9_init 118 = .ok (.iconst (-1), 1) := by decide +kernel
theorem dX9_init_119 : decode cX9_init 119 = .ok (.iastore, 1) := by decide +kernel
theorem dX9_init_120 : decode cX9_init 120 = .ok (.putfield 51, 3) := by decide +kernel
theorem dX9_init_123 : decode cX9_init 123 = .ok (.aload_n 0, 1) := by decide +kernel
theorem dX9_init_124 : decode cX9_init 124 = .ok (.iconst 4, 1) := by decide +kernel
theorem dX9_init_125 : decode cX9_init 125 = .ok (.newarray .int, 2) := by decide +kernel
theorem dX9_init_127 : decode cX9_init 127 = .ok (.putfield 54, 3) := by decide +kernel
theorem dX9_init_130 : decode cX9_init 130 = .ok (.aload_n 0, 1) := by decide +kernel
theorem dX9_init_131 : decode cX9_init 131 = .ok (.sipush 160, 3) := by decide +kernel
theorem dX9_init_134 : decode cX9_init 134 = .ok (.newarray .long, 2) := by decide +kernel
theorem dX9_init_136 : decode cX9_init 136 = .ok (.putfield 57, 3) := by decide +kernel
theorem dX9_init_139 : decode cX9_init 139 = .ok (.aload_n 0, 1) := by decide +kernel
theorem dX9_init_140 : decode cX9_init 140 = .ok (.getfield 13, 3) := by decide +kernel
theorem dX9_init_143 : decode cX9_init 143 = .ok (.invokestatic 61, 3) := by decide +kernel
theorem dX9_init_146 : decode cX9_init 146 = .ok (.return_, 1) := by decide +kernel
theorem dX9_lampIn_0 : decode cX9_lampIn 0 = .ok (.aload_n 0, 1) := by decide +kernel
theorem dX9_lampIn_1 : decode cX9_lampIn 1 = .ok (.iconst 2, 1) := by decide +kernel
theorem dX9_lampIn_2 : decode cX9_lampIn 2 = .ok (.iconst 0, 1) := by decide +kernel
theorem dX9_lampIn_3 : decode cX9_lampIn 3 = .ok (.iastore, 1) := by decide +kernel
theorem dX9_lampIn_4 : decode cX9_lampIn 4 = .ok (.aload_n 0, 1) := by decide +kernel
theorem dX9_lampIn_5 : decode cX9_lampIn 5 = .ok (.iconst 3, 1) := by decide +kernel
theorem dX9_lampIn_6 : decode cX9_lampIn 6 = .ok (.bipush 6, 2) := by decide +kernel
theorem dX9_lampIn_8 : decode cX9_lampIn 8 = .ok (.iastore, 1) := by decide +kernel
theorem dX9_lampIn_9 : decode cX9_lampIn 9 = .ok (.aload_n 0, 1) := by decide +kernel
theorem dX9_lampIn_10 : decode cX9_lampIn 10 = .ok (.iconst 4, 1) := by decide +kernel
theorem dX9_lampIn_11 : decode cX9_lampIn 11 = .ok (.bipush 6, 2) := by decide +kernel
theorem dX9_lampIn_13 : decode cX9_lampIn 13 = .ok (.iastore, 1) := by decide +kernel
theorem dX9_lampIn_14 : decode cX9_lampIn 14 = .ok (.aload_n 0, 1) := by decide +kernel
theorem dX9_lampIn_15 : decode cX9_lampIn 15 = .ok (.iconst 5, 1) := by decide +kernel
theorem dX9_lampIn_16 : decode cX9_lampIn 16 = .ok (.iconst 1, 1) := by decide +kernel
theorem dX9_lampIn_17 : decode cX9_lampIn 17 = .ok (.iastore, 1) := by decide +kernel
theorem dX9_lampIn_18 : decode cX9_lampIn 18 = .ok (.return_, 1) := by decide +kernel
theorem dX9_plainIn_0 : decode cX9_plainIn 0 = .ok (.iconst 0, 1) := by decide +kernel
theorem dX9_plainIn_1 : decode cX9_plainIn 1 = .ok (.istore_n 1, 1) := by decide +kernel
theorem dX9_plainIn_2 : decode cX9_plainIn 2 = .ok (.iload_n 1, 1) := by decide +kernel
theorem dX9_plainIn_3 : decode cX9_plainIn 3 = .ok (.bipush 96, 2) := by decide +kernel
theorem dX9_plainIn_5 : decode cX9_plainIn 5 = .ok (.if_icmp .ge 13, 3) := by decide +kernel
theorem dX9_plainIn_8 : decode cX9_plainIn 8 = .ok (.aload_n 0, 1) := by decide +kernel
theorem dX9_plainIn_9 : decode cX9_plainIn 9 = .ok (.iload_n 1, 1) := by decide +kernel
theorem dX9_plainIn_10 : decode cX9_plainIn 10 = .ok (.iconst 0, 1) := by decide +kernel
theorem dX9_plainIn_11 : decode cX9_plainIn 11 = .ok (.iastore, 1) := by decide +kernel
theorem dX9_plainIn_12 : decode cX9_plainIn 12 = .ok (.iinc 1 1, 3) := by decide +kernel
theorem dX9_plainIn_15 : decode cX9_plainIn 15 = .ok (.goto (-13), 3) := by decide +kernel
theorem dX9_plainIn_18 : decode cX9_plainIn 18 = .ok (.aload_n 0, 1) := by decide +kernel
theorem dX9_plainIn_19 : decode cX9_plainIn 19 = .ok (.invokestatic 65, 3) := by decide +kernel
theorem dX9_plainIn_22 : decode cX9_plainIn 22 = .ok (.aload_n 0, 1) := by decide +kernel
theorem dX9_plainIn_23 : decode cX9_plainIn 23 = .ok (.bipush 6, 2) := by decide +kernel
theorem dX9_plainIn_25 : decode cX9_plainIn 25 = .ok (.bipush 60, 2) := by decide +kernel
theorem dX9_plainIn_27 : decode cX9_plainIn 27 = .ok (.iastore, 1) := by decide +kernel
theorem dX9_plainIn_28 : decode cX9_plainIn 28 = .ok (.iconst 0, 1) := by decide +kernel
theorem dX9_plainIn_29 : decode cX9_plainIn 29 = .ok (.istore_n 1, 1) := by decide +kernel
theorem dX9_plainIn_30 : decode cX9_plainIn 30 = .ok (.iload_n 1, 1) := by decide +kernel
theorem dX9_plainIn_31 : decode cX9_plainIn 31 = .ok (.bipush 6, 2) := by decide +kernel
theorem dX9_plainIn_33 : decode cX9_plainIn 33 = .ok (.if_icmp .ge 16, 3) := by decide +kernel
theorem dX9_plainIn_36 : decode cX9_plainIn 36 = .ok (.aload_n 0, 1) := by decide +kernel
theorem dX9_plainIn_37 : decode cX9_plainIn 37 = .ok (.bipush 10, 2) := by decide +kernel
theorem dX9_plainIn_39 : decode cX9_plainIn 39 = .ok (.iload_n 1, 1) := by decide +kernel
theorem dX9_plainIn_40 : decode cX9_plainIn 40 = .ok (.iadd, 1) := by decide +kernel
theorem dX9_plainIn_41 : decode cX9_plainIn 41 = .ok (.iconst 1, 1) := by decide +kernel
theorem dX9_plainIn_42 : decode cX9_plainIn 42 = .ok (.iastore, 1) := by decide +kernel
theorem dX9_plainIn_43 : decode cX9_plainIn 43 = .ok (.iinc 1 1, 3) := by decide +kernel
theorem dX9_plainIn_46 : decode cX9_plainIn 46 = .ok (.goto (-16), 3) := by decide +kernel
theorem dX9_plainIn_49 : decode cX9_plainIn 49 = .ok (.return_, 1) := by decide +kernel
theorem dX9_feed_0 : decode cX9_feed 0 = .ok (.aload_n 0, 1) := by decide +kernel
theorem dX9_feed_1 : decode cX9_feed 1 = .ok (.iconst 0, 1) := by decide +kernel
theorem dX9_feed_2 : decode cX9_feed 2 = .ok (.putfield 1, 3) := by decide +kernel
theorem dX9_feed_5 : decode cX9_feed 5 = .ok (.aload_n 0, 1) := by decide +kernel
theorem dX9_feed_6 : decode cX9_feed 6 = .ok (.getfield 68, 3) := by decide +kernel
theorem dX9_feed_9 : decode cX9_feed 9 = .ok (.bipush 20, 2) := by decide +kernel
theorem dX9_feed_11 : decode cX9_feed 11 = .ok (.iadd, 1) := by decide +kernel
theorem dX9_feed_12 : decode cX9_feed 12 = .ok (.sipush 900, 3) := by decide +kernel
theorem dX9_feed_15 : decode cX9_feed 15 = .ok (.if_icmp .le 6, 3) := by decide +kernel
theorem dX9_feed_21 : decode cX9_feed 21 = .ok (.iconst 0, 1) := by decide +kernel
theorem dX9_feed_22 : decode cX9_feed 22 = .ok (.istore 6, 2) := by decide +kernel
theorem dX9_feed_24 : decode cX9_feed 24 = .ok (.iload 6, 2) := by decide +kernel
theorem dX9_feed_26 : decode cX9_feed 26 = .ok (.bipush 20, 2) := by decide +kernel
theorem dX9_feed_28 : decode cX9_feed 28 = .ok (.if_icmp .ge 93, 3) := by decide +kernel
theorem dX9_feed_31 : decode cX9_feed 31 = .ok (.iload 6, 2) := by decide +kernel
theorem dX9_feed_33 : decode cX9_feed 33 = .ok (.iconst 4, 1) := by decide +kernel
theorem dX9_feed_34 : decode cX9_feed 34 = .ok (.if_icmp .ge 7, 3) := by decide +kernel
