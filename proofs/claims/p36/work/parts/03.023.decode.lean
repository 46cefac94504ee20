theorem dX8_refusedMeeting_17 : decode cX8_refusedMeeting 17 = .ok (.aload_n 0, 1) := by decide +kernel
theorem dX8_refusedMeeting_18 : decode cX8_refusedMeeting 18 = .ok (.getfield 44, 3) := by decide +kernel
theorem dX8_refusedMeeting_21 : decode cX8_refusedMeeting 21 = .ok (.iload_n 1, 1) := by decide +kernel
theorem dX8_refusedMeeting_22 : decode cX8_refusedMeeting 22 = .ok (.aaload, 1) := by decide +kernel
theorem dX8_refusedMeeting_23 : decode cX8_refusedMeeting 23 = .ok (.getfield 185, 3) := by decide +kernel
theorem dX8_refusedMeeting_26 : decode cX8_refusedMeeting 26 = .ok (.ifCond .ne 15, 3) := by decide +kernel
theorem dX8_refusedMeeting_29 : decode cX8_refusedMeeting 29 = .ok (.aload_n 0, 1) := by decide +kernel
theorem dX8_refusedMeeting_30 : decode cX8_refusedMeeting 30 = .ok (.getfield 44, 3) := by decide +kernel
theorem dX8_refusedMeeting_33 : decode cX8_refusedMeeting 33 = .ok (.iload_n 2, 1) := by decide +kernel
theorem dX8_refusedMeeting_34 : decode cX8_refusedMeeting 34 = .ok (.aaload, 1) := by decide +kernel
theorem dX8_refusedMeeting_35 : decode cX8_refusedMeeting 35 = .ok (.getfield 185, 3) := by decide +kernel
theorem dX8_refusedMeeting_38 : decode cX8_refusedMeeting 38 = .ok (.ifCond .eq 6, 3) := by decide +kernel
theorem dX8_refusedMeeting_41 : decode cX8_refusedMeeting 41 = .ok (.bipush (-6), 2) := by decide +kernel
theorem dX8_refusedMeeting_43 : decode cX8_refusedMeeting 43 = .ok (.ireturn, 1) := by decide +kernel
theorem dX8_refusedMeeting_44 : decode cX8_refusedMeeting 44 = .ok (.aload_n 0, 1) := by decide +kernel
theorem dX8_refusedMeeting_45 : decode cX8_refusedMeeting 45 = .ok (.getfield 27, 3) := by decide +kernel
theorem dX8_refusedMeeting_48 : decode cX8_refusedMeeting 48 = .ok (.getfield 128, 3) := by decide +kernel
theorem dX8_refusedMeeting_51 : decode cX8_refusedMeeting 51 = .ok (.istore_n 3, 1) := by decide +kernel
theorem dX8_refusedMeeting_52 : decode cX8_refusedMeeting 52 = .ok (.iconst 0, 1) := by decide +kernel
theorem dX8_refusedMeeting_53 : decode cX8_refusedMeeting 53 = .ok (.istore 4, 2) := by decide +kernel
theorem dX8_refusedMeeting_55 : decode cX8_refusedMeeting 55 = .ok (.iload 4, 2) := by decide +kernel
theorem dX8_refusedMeeting_57 : decode cX8_refusedMeeting 57 = .ok (.aload_n 0, 1) := by decide +kernel
theorem dX8_refusedMeeting_58 : decode cX8_refusedMeeting 58 = .ok (.getfield 44, 3) := by decide +kernel
theorem dX8_refusedMeeting_61 : decode cX8_refusedMeeting 61 = .ok (.iload_n 1, 1) := by decide +kernel
theorem dX8_refusedMeeting_62 : decode cX8_refusedMeeting 62 = .ok (.aaload, 1) := by decide +kernel
theorem dX8_refusedMeeting_63 : decode cX8_refusedMeeting 63 = .ok (.getfield 193, 3) := by decide +kernel
theorem dX8_refusedMeeting_66 : decode cX8_refusedMeeting 66 = .ok (.if_icmp .ge 37, 3) := by decide +kernel
theorem dX8_refusedMeeting_69 : decode cX8_refusedMeeting 69 = .ok (.aload_n 0, 1) := by decide +kernel
theorem dX8_refusedMeeting_70 : decode cX8_refusedMeeting 70 = .ok (.getfield 27, 3) := by decide +kernel
theorem dX8_refusedMeeting_73 : decode cX8_refusedMeeting 73 = .ok (.iload_n 3, 1) := by decide +kernel
theorem dX8_refusedMeeting_74 : decode cX8_refusedMeeting 74 = .ok (.aload_n 0, 1) := by decide +kernel
theorem dX8_refusedMeeting_75 : decode cX8_refusedMeeting 75 = .ok (.getfield 44, 3) := by decide +kernel
theorem dX8_refusedMeeting_78 : decode cX8_refusedMeeting 78 = .ok (.iload_n 1, 1) := by decide +kernel
theorem dX8_refusedMeeting_79 : decode cX8_refusedMeeting 79 = .ok (.aaload, 1) := by decide +kernel
theorem dX8_refusedMeeting_80 : decode cX8_refusedMeeting 80 = .ok (.iload 4, 2) := by decide +kernel
theorem dX8_refusedMeeting_82 : decode cX8_refusedMeeting 82 = .ok (.invokevirtual 196, 3) := by decide +kernel
theorem dX8_refusedMeeting_85 : decode cX8_refusedMeeting 85 = .ok (.invokevirtual 174, 3) := by decide +kernel
theorem dX8_refusedMeeting_88 : decode cX8_refusedMeeting 88 = .ok (.istore_n 3, 1) := by decide +kernel
theorem dX8_refusedMeeting_89 : decode cX8_refusedMeeting 89 = .ok (.iload_n 3, 1) := by decide +kernel
theorem dX8_refusedMeeting_90 : decode cX8_refusedMeeting 90 = .ok (.iconst (-1), 1) := by decide +kernel
theorem dX8_refusedMeeting_91 : decode cX8_refusedMeeting 91 = .ok (.if_icmp .ne 6, 3) := by decide +kernel
theorem dX8_refusedMeeting_94 : decode cX8_refusedMeeting 94 = .ok (.bipush (-5), 2) := by decide +kernel
theorem dX8_refusedMeeting_96 : decode cX8_refusedMeeting 96 = .ok (.ireturn, 1) := by decide +kernel
theorem dX8_refusedMeeting_97 : decode cX8_refusedMeeting 97 = .ok (.iinc 4 1, 3) := by decide +kernel
theorem dX8_refusedMeeting_100 : decode cX8_refusedMeeting 100 = .ok (.goto (-45), 3) := by decide +kernel
theorem dX8_refusedMeeting_103 : decode cX8_refusedMeeting 103 = .ok (.iconst 0, 1) := by decide +kernel
theorem dX8_refusedMeeting_104 : decode cX8_refusedMeeting 104 = .ok (.ireturn, 1) := by decide +kernel
theorem dX8_firstMeeting_0 : decode cX8_firstMeeting 0 = .ok (.aload_n 0, 1) := by decide +kernel
theorem dX8_firstMeeting_1 : decode cX8_firstMeeting 1 = .ok (.getfield 27, 3) := by decide +kernel
theorem dX8_firstMeeting_4 : decode cX8_firstMeeting 4 = .ok (.getfield 128, 3) := by decide +kernel
theorem dX8_firstMeeting_7 : decode cX8_firstMeeting 7 = .ok (.istore 4, 2) := by decide +kernel
theorem dX8_firstMeeting_9 : decode cX8_firstMeeting 9 = .ok (.iload_n 3, 1) := by decide +kernel
theorem dX8_firstMeeting_10 : decode cX8_firstMeeting 10 = .ok (.aload_n 1, 1) := by decide +kernel
theorem dX8_firstMeeting_11 : decode cX8_firstMeeting 11 = .ok (.getfield 193, 3) := by decide +kernel
theorem dX8_firstMeeting_14 : decode cX8_firstMeeting 14 = .ok (.iadd, 1) := by decide +kernel
theorem dX8_firstMeeting_15 : decode cX8_firstMeeting 15 = .ok (.aload_n 2, 1) := by decide +kernel
theorem dX8_firstMeeting_16 : decode cX8_firstMeeting 16 = .ok (.getfield 193, 3) := by decide +kernel
theorem dX8_firstMeeting_19 : decode cX8_firstMeeting 19 = .ok (.invokestatic 211, 3) := by decide +kernel
theorem dX8_firstMeeting_22 : decode cX8_firstMeeting 22 = .ok (.istore 5, 2) := by decide +kernel
theorem dX8_firstMeeting_24 : decode cX8_firstMeeting 24 = .ok (.iconst 0, 1) := by decide +kernel
theorem dX8_firstMeeting_25 : decode cX8_firstMeeting 25 = .ok (.istore 6, 2) := by decide +kernel
theorem dX8_firstMeeting_27 : decode cX8_firstMeeting 27 = .ok (.iload 6, 2) := by decide +kernel
theorem dX8_firstMeeting_29 : decode cX8_firstMeeting 29 = .ok (.iload 5, 2) := by decide +kernel
theorem dX8_firstMeeting_31 : decode cX8_firstMeeting 31 = .ok (.if_icmp .ge 60, 3) := by decide +kernel
theorem dX8_firstMeeting_34 : decode cX8_firstMeeting 34 = .ok (.iload 6, 2) := by decide +kernel
theorem dX8_firstMeeting_36 : decode cX8_firstMeeting 36 = .ok (.iload_n 3, 1) := by decide +kernel
theorem dX8_firstMeeting_37 : decode cX8_firstMeeting 37 = .ok (.if_icmp .lt 22, 3) := by decide +kernel
theorem dX8_firstMeeting_40 : decode cX8_firstMeeting 40 = .ok (.aload_n 0, 1) := by decide +kernel
theorem dX8_firstMeeting_41 : decode cX8_firstMeeting 41 = .ok (.getfield 27, 3) := by decide +kernel
theorem dX8_firstMeeting_44 : decode cX8_firstMeeting 44 = .ok (.iload 4, 2) := by decide +kernel
theorem dX8_firstMeeting_46 : decode cX8_firstMeeting 46 = .ok (.aload_n 1, 1) := by decide +kernel
theorem dX8_firstMeeting_47 : decode cX8_firstMeeting 47 = .ok (.iload 6, 2) := by decide +kernel
theorem dX8_firstMeeting_49 : decode cX8_firstMeeting 49 = .ok (.iload_n 3, 1) := by decide +kernel
theorem dX8_firstMeeting_50 : decode cX8_firstMeeting 50 = .ok (.isub, 1) := by decide +kernel
theorem dX8_firstMeeting_51 : decode cX8_firstMeeting 51 = .ok (.invokevirtual 196, 3) := by decide +kernel
theorem dX8_firstMeeting_54 : decode cX8_firstMeeting 54 = .ok (.invokevirtual 174, 3) := by decide +kernel
theorem dX8_firstMeeting_57 : decode cX8_firstMeeting 57 = .ok (.istore 4, 2) := by decide +kernel
theorem dX8_firstMeeting_59 : decode cX8_firstMeeting 59 = .ok (.iload 4, 2) := by decide +kernel
theorem dX8_firstMeeting_61 : decode cX8_firstMeeting 61 = .ok (.aload_n 0, 1) := by decide +kernel
theorem dX8_firstMeeting_62 : decode cX8_firstMeeting 62 = .ok (.getfield 27, 3) := by decide +kernel
theorem dX8_firstMeeting_65 : decode cX8_firstMeeting 65 = .ok (.getfield 346, 3) := by decide +kernel
theorem dX8_firstMeeting_68 : decode cX8_firstMeeting 68 = .ok (.if_icmp .ne 17, 3) := by decide +kernel
theorem dX8_firstMeeting_71 : decode cX8_firstMeeting 71 = .ok (.aload_n 2, 1) := by decide +kernel
theorem dX8_firstMeeting_72 : decode cX8_firstMeeting 72 = .ok (.iload 6, 2) := by decide +kernel
theorem dX8_firstMeeting_74 : decode cX8_firstMeeting 74 = .ok (.invokevirtual 196, 3) := by decide +kernel
theorem dX8_firstMeeting_77 : decode cX8_firstMeeting 77 = .ok (.lconst 0, 1) := by decide +kernel
theorem dX8_firstMeeting_78 : decode cX8_firstMeeting 78 = .ok (.lcmp, 1) := by decide +kernel
theorem dX8_firstMeeting_79 : decode cX8_firstMeeting 79 = .ok (.ifCond .ne 6, 3) := by decide +kernel
theorem dX8_firstMeeting_82 : decode cX8_firstMeeting 82 = .ok (.iload 6, 2) := by decide +kernel
theorem dX8_firstMeeting_84 : decode cX8_firstMeeting 84 = .ok (.ireturn, 1) := by decide +kernel
theorem dX8_firstMeeting_85 : decode cX8_firstMeeting 85 = .ok (.iinc 6 1, 3) := by decide +kernel
theorem dX8_firstMeeting_88 : decode cX8_firstMeeting 88 = .ok (.goto (-61), 3) := by decide +kernel
theorem dX8_firstMeeting_91 : decode cX8_firstMeeting 91 = .ok (.iconst (-1), 1) := by decide +kernel
theorem dX8_firstMeeting_92 : decode cX8_firstMeeting 92 = .ok (.ireturn, 1) := by decide +kernel
theorem dX9_within_0 : decode cX9_within 0 = .ok (.lload_n 0, 1) := by decide +kernel
theorem dX9_within_1 : decode cX9_within 1 = .ok (.lload_n 2, 1) := by decide +kernel
theorem dX9_within_2 : decode cX9_within 2 = .ok (.lcmp, 1) := by decide +kernel
theorem dX9_within_3 : decode cX9_within 3 = .ok (.ifCond .lt 14, 3) := by decide +kernel
theorem dX9_within_6 : decode cX9_within 6 = .ok (.lload_n 0, 1) := by decide +kernel
theorem dX9_within_7 : decode cX9_within 7 = .ok (.lload 4, 2) := by decide +kernel
theorem dX9_within_9 : decode cX9_within 9 = .ok (.lcmp, 1) := by decide +kernel
theorem dX9_within_10 : decode cX9_within 10 = .ok (.ifCond .gt 7, 3) := by decide +kernel
theorem dX9_within_13 : decode cX9_within 13 = .ok (.iconst 1, 1) := by decide +kernel
theorem dX9_within_14 : decode cX9_within 14 = .ok (.goto 4, 3) := by decide +kernel
theorem dX9_within_17 : decode cX9_within 17 = .ok (.iconst 0, 1) := by decide +kernel
theorem dX9_within_18 : decode cX9_within 18 = .ok (.ireturn, 1) := by decide +kernel
theorem dX9_init_0 : decode cX9_init 0 = .ok (.aload_n 0, 1) := by decide +kernel
theorem dX9_init_1 : decode cX9_init 1 = .ok (.invokespecial 7, 3) := by decide +kernel
theorem dX9_init_4 : decode cX9_init 4 = .ok (.aload_n 0, 1) := by decide +kernel
theorem dX9_init_5 : decode cX9_init 5 = .ok (.sipush 288, 3) := by decide +kernel
theorem dX9_init_8 : decode cX9_init 8 = .ok (.newarray .int, 2) := by decide +kernel
theorem dX9_init_10 : decode cX9_init 10 = .ok (.putfield 13, 3) := by decide +kernel
theorem dX9_init_13 : decode cX9_init 13 = .ok (.aload_n 0, 1) := by decide +kernel
theorem dX9_init_14 : decode cX9_init 14 = .ok (.iconst 2, 1) := by decide +kernel
theorem dX9_init_15 : decode cX9_init 15 = .ok (.newarray .boolean, 2) := by decide +kernel
theorem dX9_init_17 : decode cX9_init 17 = .ok (.putfield 17, 3) := by decide +kernel
theorem dX9_init_20 : decode cX9_init 20 = .ok (.aload_n 0, 1) := by decide +kernel
theorem dX9_init_21 : decode cX9_init 21 = .ok (.sipush 900, 3) := by decide +kernel
theorem dX9_init_24 : decode cX9_init 24 = .ok (.newarray .int, 2) := by decide +kernel
theorem dX9_init_26 : decode cX9_init 26 = .ok (.putfield 21, 3) := by decide +kernel
theorem dX9_init_29 : decode cX9_init 29 = .ok (.aload_n 0, 1) := by decide +kernel
theorem dX9_init_30 : decode cX9_init 30 = .ok (.bipush 96, 2) := by decide +kernel
theorem dX9_init_32 : decode cX9_init 32 = .ok (.newarray .int, 2) := by decide +kernel
theorem dX9_init_34 : decode cX9_init 34 = .ok (.putfield 24, 3) := by decide +kernel
theorem dX9_init_37 : decode cX9_init 37 = .ok (.aload_n 0, 1) := by decide +kernel
theorem dX9_init_38 : decode cX9_init 38 = .ok (.iconst (-1), 1) := by decide +kernel
theorem dX9_init_39 : decode cX9_init 39 = .ok (.putfield 27, 3) := by decide +kernel
theorem dX9_init_42 : decode cX9_init 42 = .ok (.aload_n 0, 1) := by decide +kernel
theorem dX9_init_43 : decode cX9_init 43 = .ok (.bipush 6, 2) := by decide +kernel
theorem dX9_init_45 : decode cX9_init 45 = .ok (.newarray .int, 2) := by decide +kernel
theorem dX9_init_47 : decode cX9_init 47 = .ok (.putfield 30, 3) := by decide +kernel
theorem dX9_init_50 : decode cX9_init 50 = .ok (.aload_n 0, 1) := by decide +kernel
theorem dX9_init_51 : decode cX9_init 51 = .ok (.sipush 960, 3) := by decide +kernel
theorem dX9_init_54 : decode cX9_init 54 = .ok (.newarray .int, 2) := by decide +kernel
theorem dX9_init_56 : decode cX9_init 56 = .ok (.putfield 33, 3) := by decide +kernel
theorem dX9_init_59 : decode cX9_init 59 = .ok (.aload_n 0, 1) := by decide +kernel
theorem dX9_init_60 : decode cX9_init 60 = .ok (.bipush 8, 2) := by decide +kernel
theorem dX9_init_62 : decode cX9_init 62 = .ok (.newarray .int, 2) := by decide +kernel
theorem dX9_init_64 : decode cX9_init 64 = .ok (.putfield 36, 3) := by decide +kernel
theorem dX9_init_67 : decode cX9_init 67 = .ok (.aload_n 0, 1) := by decide +kernel
theorem dX9_init_68 : decode cX9_init 68 = .ok (.bipush 8, 2) := by decide +kernel
theorem dX9_init_70 : decode cX9_init 70 = .ok (.newarray .int, 2) := by decide +kernel
theorem dX9_init_72 : decode cX9_init 72 = .ok (.putfield 39, 3) := by decide +kernel
theorem dX9_init_75 : decode cX9_init 75 = .ok (.aload_n 0, 1) := by decide +kernel
theorem dX9_init_76 : decode cX9_init 76 = .ok (.bipush 6, 2) := by decide +kernel
theorem dX9_init_78 : decode cX9_init 78 = .ok (.newarray .int, 2) := by decide +kernel
theorem dX9_init_80 : decode cX9_init 80 = .ok (.putfield 42, 3) := by decide +kernel
theorem dX9_init_83 : decode cX9_init 83 = .ok (.aload_n 0, 1) := by decide +kernel
theorem dX9_init_84 : decode cX9_init 84 = .ok (.sipush 11664, 3) := by decide +kernel
theorem dX9_init_87 : decode cX9_init 87 = .ok (.newarray .int, 2) := by decide +kernel
theorem dX9_init_89 : decode cX9_init 89 = .ok (.putfield 45, 3) := by decide +kernel
theorem dX9_init_92 : decode cX9_init 92 = .ok (.aload_n 0, 1) := by decide +kernel
theorem dX9_init_93 : decode cX9_init 93 = .ok (.bipush 16, 2) := by decide +kernel
theorem dX9_init_95 : decode cX9_init 95 = .ok (.newarray .int, 2) := by decide +kernel
theorem dX9_init_97 : decode cX9_init 97 = .ok (.putfield 48, 3) := by decide +kernel
theorem dX9_init_100 : decode cX9_init 100 = .ok (.aload_n 0, 1) := by decide +kernel
theorem dX9_init_101 : decode cX9_init 101 = .ok (.iconst 4, 1) := by decide +kernel
theorem dX9_init_102 : decode cX9_init 102 = .ok (.newarray .int, 2) := by decide +kernel
theorem dX9_init_104 : decode cX9_init 104 = .ok (.dup, 1) := by decide +kernel
theorem dX9_init_105 : decode cX9_init 105 = .ok (.iconst 0, 1) := by decide +kernel
theorem dX9_init_106 : decode cX9_init 106 = .ok (.iconst (-1), 1) := by decide +kernel
theorem dX9_init_107 : decode cX9_init 107 = .ok (.iastore, 1) := by decide +kernel
theorem dX9_init_108 : decode cX9_init 108 = .ok (.dup, 1) := by decide +kernel
theorem dX9_init_109 : decode cX9_init 109 = .ok (.iconst 1, 1) := by decide +kernel
theorem dX9_init_110 : decode cX9_init 110 = .ok (.iconst (-1), 1) := by decide +kernel
theorem dX9_init_111 : decode cX9_init 111 = .ok (.iastore, 1) := by decide +kernel
theorem dX9_init_112 : decode cX9_init 112 = .ok (.dup, 1) := by decide +kernel
theorem dX9_init_113 : decode cX9_init 113 = .ok (.iconst 2, 1) := by decide +kernel
theorem dX9_init_114 : decode cX9_init 114 = .ok (.iconst (-1), 1) := by decide +kernel
theorem dX9_init_115 : decode cX9_init 115 = .ok (.iastore, 1) := by decide +kernel
theorem dX9_init_116 : decode cX9_init 116 = .ok (.dup, 1) := by decide +kernel
theorem dX9_init_117 : decode cX9_init 117 = .ok (.iconst 3, 1) := by decide +kernel
theorem dX9_init_118 : decode cX9_init 118 = .ok (.iconst (-1), 1) := by decide +kernel
theorem dX9_init_119 : decode cX9_init 119 = .ok (.iastore, 1) := by decide +kernel
theorem dX9_init_120 : decode cX9_init 120 = .ok (.putfield 51, 3) := by decide +kernel
theorem dX9_init_123 : decode cX9_init 123 = .ok (.aload_n 0, 1) := by decide +kernel
theorem dX9_init_124 : decode cX9_init 124 = .ok (.iconst 4, 1) := by decide +kernel
theorem dX9_init_125 : decode cX9_init 125 = .ok (.newarray .int, 2) := by decide +kernel
theorem dX9_init_127 : decode cX9_init 127 = .ok (.putfield 54, 3) := by decide +kernel
theorem dX9_init_130 : decode cX9_init 130 = .ok (.aload_n 0, 1) := by decide +kernel
theorem dX9_init_131 : decode cX9_init 131 = .ok (.sipush 160, 3) := by decide +kernel
theorem dX9_init_134 : decode cX9_init 134 = .ok (.newarray .long, 2) := by decide +kernel
theorem dX9_init_136 : decode cX9_init 136 = .ok (.putfield 57, 3) := by decide +kernel
theorem dX9_init_139 : decode cX9_init 139 = .ok (.aload_n 0, 1) := by decide +kernel
theorem dX9_init_140 : decode cX9_init 140 = .ok (.getfield 13, 3) := by decide +kernel
theorem dX9_init_143 : decode cX9_init 143 = .ok (.invokestatic 61, 3) := by decide +kernel
theorem dX9_init_146 : decode cX9_init 146 = .ok (.return_, 1) := by decide +kernel
theorem dX9_lampIn_0 : decode cX9_lampIn 0 = .ok (.aload_n 0, 1) := by decide +kernel
theorem dX9_lampIn_1 : decode cX9_lampIn 1 = .ok (.iconst 2, 1) := by decide +kernel
theorem dX9_lampIn_2 : decode cX9_lampIn 2 = .ok (.iconst 0, 1) := by decide +kernel
theorem dX9_lampIn_3 : decode cX9_lampIn 3 = .ok (.iastore, 1) := by decide +kernel
theorem dX9_lampIn_4 : decode cX9_lampIn 4 = .ok (.aload_n 0, 1) := by decide +kernel
theorem dX9_lampIn_5 : decode cX9_lampIn 5 = .ok (.iconst 3, 1) := by decide +kernel
theorem dX9_lampIn_6 : decode cX9_lampIn 6 = .ok (.bipush 6, 2) := by decide +kernel
theorem dX9_lampIn_8 : decode cX9_lampIn 8 = .ok (.iastore, 1) := by decide +kernel
theorem dX9_lampIn_9 : decode cX9_lampIn 9 = .ok (.aload_n 0, 1) := by decide +kernel
theorem dX9_lampIn_10 : decode cX9_lampIn 10 = .ok (.iconst 4, 1) := by decide +kernel
theorem dX9_lampIn_11 : decode cX9_lampIn 11 = .ok (.bipush 6, 2) := by decide +kernel
theorem dX9_lampIn_13 : decode cX9_lampIn 13 = .ok (.iastore, 1) := by decide +kernel
theorem dX9_lampIn_14 : decode cX9_lampIn 14 = .ok (.aload_n 0, 1) := by decide +kernel
