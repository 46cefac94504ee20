theorem dX9_takesIf_0 : decode cX9_takesIf 0 = .ok (.aload_n 0, 1) := by decide +kernel
theorem dX9_takesIf_1 : decode cX9_takesIf 1 = .ok (.iload_n 1, 1) := by decide +kernel
theorem dX9_takesIf_2 : decode cX9_takesIf 2 = .ok (.invokevirtual 132, 3) := by decide +kernel
theorem dX9_takesIf_5 : decode cX9_takesIf 5 = .ok (.ifCond .eq 12, 3) := by decide +kernel
theorem dX9_takesIf_8 : decode cX9_takesIf 8 = .ok (.aload_n 0, 1) := by decide +kernel
theorem dX9_takesIf_9 : decode cX9_takesIf 9 = .ok (.iload_n 2, 1) := by decide +kernel
theorem dX9_takesIf_10 : decode cX9_takesIf 10 = .ok (.iload_n 3, 1) := by decide +kernel
theorem dX9_takesIf_11 : decode cX9_takesIf 11 = .ok (.invokevirtual 135, 3) := by decide +kernel
theorem dX9_takesIf_14 : decode cX9_takesIf 14 = .ok (.goto 5, 3) := by decide +kernel
theorem dX9_takesIf_17 : decode cX9_takesIf 17 = .ok (.iload 4, 2) := by decide +kernel
theorem dX9_takesIf_19 : decode cX9_takesIf 19 = .ok (.ireturn, 1) := by decide +kernel
theorem dX9_readStrip_0 : decode cX9_readStrip 0 = .ok (.aload_n 0, 1) := by decide +kernel
theorem dX9_readStrip_1 : decode cX9_readStrip 1 = .ok (.getfield 24, 3) := by decide +kernel
theorem dX9_readStrip_4 : decode cX9_readStrip 4 = .ok (.iconst 0, 1) := by decide +kernel
theorem dX9_readStrip_5 : decode cX9_readStrip 5 = .ok (.iaload, 1) := by decide +kernel
theorem dX9_readStrip_6 : decode cX9_readStrip 6 = .ok (.istore_n 1, 1) := by decide +kernel
theorem dX9_readStrip_7 : decode cX9_readStrip 7 = .ok (.iload_n 1, 1) := by decide +kernel
theorem dX9_readStrip_8 : decode cX9_readStrip 8 = .ok (.bipush 16, 2) := by decide +kernel
theorem dX9_readStrip_10 : decode cX9_readStrip 10 = .ok (.if_icmp .ne 8, 3) := by decide +kernel
theorem dX9_readStrip_13 : decode cX9_readStrip 13 = .ok (.aload_n 0, 1) := by decide +kernel
theorem dX9_readStrip_14 : decode cX9_readStrip 14 = .ok (.iconst 4, 1) := by decide +kernel
theorem dX9_readStrip_15 : decode cX9_readStrip 15 = .ok (.invokevirtual 124, 3) := by decide +kernel
theorem dX9_readStrip_18 : decode cX9_readStrip 18 = .ok (.aload_n 0, 1) := by decide +kernel
theorem dX9_readStrip_19 : decode cX9_readStrip 19 = .ok (.getfield 112, 3) := by decide +kernel
theorem dX9_readStrip_22 : decode cX9_readStrip 22 = .ok (.ifCond .eq 4, 3) := by decide +kernel
theorem dX9_readStrip_25 : decode cX9_readStrip 25 = .ok (.return_, 1) := by decide +kernel
theorem dX9_readStrip_26 : decode cX9_readStrip 26 = .ok (.aload_n 0, 1) := by decide +kernel
theorem dX9_readStrip_27 : decode cX9_readStrip 27 = .ok (.invokevirtual 121, 3) := by decide +kernel
theorem dX9_readStrip_30 : decode cX9_readStrip 30 = .ok (.aload_n 0, 1) := by decide +kernel
theorem dX9_readStrip_31 : decode cX9_readStrip 31 = .ok (.iconst 0, 1) := by decide +kernel
theorem dX9_readStrip_32 : decode cX9_readStrip 32 = .ok (.bipush 99, 2) := by decide +kernel
theorem dX9_readStrip_34 : decode cX9_readStrip 34 = .ok (.invokevirtual 135, 3) := by decide +kernel
theorem dX9_readStrip_37 : decode cX9_readStrip 37 = .ok (.istore_n 2, 1) := by decide +kernel
theorem dX9_readStrip_38 : decode cX9_readStrip 38 = .ok (.aload_n 0, 1) := by decide +kernel
theorem dX9_readStrip_39 : decode cX9_readStrip 39 = .ok (.iconst 1, 1) := by decide +kernel
theorem dX9_readStrip_40 : decode cX9_readStrip 40 = .ok (.iconst 0, 1) := by decide +kernel
theorem dX9_readStrip_41 : decode cX9_readStrip 41 = .ok (.bipush 9, 2) := by decide +kernel
theorem dX9_readStrip_43 : decode cX9_readStrip 43 = .ok (.iconst 2, 1) := by decide +kernel
theorem dX9_readStrip_44 : decode cX9_readStrip 44 = .ok (.invokevirtual 139, 3) := by decide +kernel
theorem dX9_readStrip_47 : decode cX9_readStrip 47 = .ok (.istore_n 3, 1) := by decide +kernel
theorem dX9_readStrip_48 : decode cX9_readStrip 48 = .ok (.aload_n 0, 1) := by decide +kernel
theorem dX9_readStrip_49 : decode cX9_readStrip 49 = .ok (.iconst 2, 1) := by decide +kernel
theorem dX9_readStrip_50 : decode cX9_readStrip 50 = .ok (.iconst 0, 1) := by decide +kernel
theorem dX9_readStrip_51 : decode cX9_readStrip 51 = .ok (.bipush 30, 2) := by decide +kernel
theorem dX9_readStrip_53 : decode cX9_readStrip 53 = .ok (.iconst 0, 1) := by decide +kernel
theorem dX9_readStrip_54 : decode cX9_readStrip 54 = .ok (.invokevirtual 139, 3) := by decide +kernel
theorem dX9_readStrip_57 : decode cX9_readStrip 57 = .ok (.istore 4, 2) := by decide +kernel
theorem dX9_readStrip_59 : decode cX9_readStrip 59 = .ok (.aload_n 0, 1) := by decide +kernel
theorem dX9_readStrip_60 : decode cX9_readStrip 60 = .ok (.iconst 3, 1) := by decide +kernel
theorem dX9_readStrip_61 : decode cX9_readStrip 61 = .ok (.iconst 0, 1) := by decide +kernel
theorem dX9_readStrip_62 : decode cX9_readStrip 62 = .ok (.iconst 5, 1) := by decide +kernel
theorem dX9_readStrip_63 : decode cX9_readStrip 63 = .ok (.iconst 0, 1) := by decide +kernel
theorem dX9_readStrip_64 : decode cX9_readStrip 64 = .ok (.invokevirtual 139, 3) := by decide +kernel
theorem dX9_readStrip_67 : decode cX9_readStrip 67 = .ok (.istore 5, 2) := by decide +kernel
theorem dX9_readStrip_69 : decode cX9_readStrip 69 = .ok (.aload_n 0, 1) := by decide +kernel
theorem dX9_readStrip_70 : decode cX9_readStrip 70 = .ok (.getfield 112, 3) := by decide +kernel
theorem dX9_readStrip_73 : decode cX9_readStrip 73 = .ok (.ifCond .eq 4, 3) := by decide +kernel
theorem dX9_readStrip_76 : decode cX9_readStrip 76 = .ok (.return_, 1) := by decide +kernel
theorem dX9_readStrip_77 : decode cX9_readStrip 77 = .ok (.aload_n 0, 1) := by decide +kernel
theorem dX9_readStrip_78 : decode cX9_readStrip 78 = .ok (.getfield 24, 3) := by decide +kernel
theorem dX9_readStrip_81 : decode cX9_readStrip 81 = .ok (.bipush 16, 2) := by decide +kernel
theorem dX9_readStrip_83 : decode cX9_readStrip 83 = .ok (.iload_n 1, 1) := by decide +kernel
theorem dX9_readStrip_84 : decode cX9_readStrip 84 = .ok (.iadd, 1) := by decide +kernel
theorem dX9_readStrip_85 : decode cX9_readStrip 85 = .ok (.iload_n 2, 1) := by decide +kernel
theorem dX9_readStrip_86 : decode cX9_readStrip 86 = .ok (.iastore, 1) := by decide +kernel
theorem dX9_readStrip_87 : decode cX9_readStrip 87 = .ok (.aload_n 0, 1) := by decide +kernel
theorem dX9_readStrip_88 : decode cX9_readStrip 88 = .ok (.getfield 24, 3) := by decide +kernel
theorem dX9_readStrip_91 : decode cX9_readStrip 91 = .ok (.bipush 32, 2) := by decide +kernel
theorem dX9_readStrip_93 : decode cX9_readStrip 93 = .ok (.iload_n 1, 1) := by decide +kernel
theorem dX9_readStrip_94 : decode cX9_readStrip 94 = .ok (.iadd, 1) := by decide +kernel
theorem dX9_readStrip_95 : decode cX9_readStrip 95 = .ok (.iload_n 3, 1) := by decide +kernel
theorem dX9_readStrip_96 : decode cX9_readStrip 96 = .ok (.iastore, 1) := by decide +kernel
theorem dX9_readStrip_97 : decode cX9_readStrip 97 = .ok (.aload_n 0, 1) := by decide +kernel
theorem dX9_readStrip_98 : decode cX9_readStrip 98 = .ok (.getfield 24, 3) := by decide +kernel
theorem dX9_readStrip_101 : decode cX9_readStrip 101 = .ok (.bipush 48, 2) := by decide +kernel
theorem dX9_readStrip_103 : decode cX9_readStrip 103 = .ok (.iload_n 1, 1) := by decide +kernel
theorem dX9_readStrip_104 : decode cX9_readStrip 104 = .ok (.iadd, 1) := by decide +kernel
theorem dX9_readStrip_105 : decode cX9_readStrip 105 = .ok (.iload 4, 2) := by decide +kernel
theorem dX9_readStrip_107 : decode cX9_readStrip 107 = .ok (.iastore, 1) := by decide +kernel
theorem dX9_readStrip_108 : decode cX9_readStrip 108 = .ok (.aload_n 0, 1) := by decide +kernel
theorem dX9_readStrip_109 : decode cX9_readStrip 109 = .ok (.getfield 24, 3) := by decide +kernel
theorem dX9_readStrip_112 : decode cX9_readStrip 112 = .ok (.bipush 64, 2) := by decide +kernel
theorem dX9_readStrip_114 : decode cX9_readStrip 114 = .ok (.iload_n 1, 1) := by decide +kernel
theorem dX9_readStrip_115 : decode cX9_readStrip 115 = .ok (.iadd, 1) := by decide +kernel
theorem dX9_readStrip_116 : decode cX9_readStrip 116 = .ok (.iload 5, 2) := by decide +kernel
theorem dX9_readStrip_118 : decode cX9_readStrip 118 = .ok (.iastore, 1) := by decide +kernel
theorem dX9_readStrip_119 : decode cX9_readStrip 119 = .ok (.aload_n 0, 1) := by decide +kernel
theorem dX9_readStrip_120 : decode cX9_readStrip 120 = .ok (.getfield 24, 3) := by decide +kernel
theorem dX9_readStrip_123 : decode cX9_readStrip 123 = .ok (.iconst 0, 1) := by decide +kernel
theorem dX9_readStrip_124 : decode cX9_readStrip 124 = .ok (.dup2, 1) := by decide +kernel
theorem dX9_readStrip_125 : decode cX9_readStrip 125 = .ok (.iaload, 1) := by decide +kernel
theorem dX9_readStrip_126 : decode cX9_readStrip 126 = .ok (.iconst 1, 1) := by decide +kernel
theorem dX9_readStrip_127 : decode cX9_readStrip 127 = .ok (.iadd, 1) := by decide +kernel
theorem dX9_readStrip_128 : decode cX9_readStrip 128 = .ok (.iastore, 1) := by decide +kernel
theorem dX9_readStrip_129 : decode cX9_readStrip 129 = .ok (.return_, 1) := by decide +kernel
theorem dX9_readLamp_0 : decode cX9_readLamp 0 = .ok (.aload_n 0, 1) := by decide +kernel
theorem dX9_readLamp_1 : decode cX9_readLamp 1 = .ok (.getfield 24, 3) := by decide +kernel
theorem dX9_readLamp_4 : decode cX9_readLamp 4 = .ok (.invokestatic 65, 3) := by decide +kernel
theorem dX9_readLamp_7 : decode cX9_readLamp 7 = .ok (.aload_n 0, 1) := by decide +kernel
theorem dX9_readLamp_8 : decode cX9_readLamp 8 = .ok (.getfield 24, 3) := by decide +kernel
theorem dX9_readLamp_11 : decode cX9_readLamp 11 = .ok (.iconst 2, 1) := by decide +kernel
theorem dX9_readLamp_12 : decode cX9_readLamp 12 = .ok (.aload_n 0, 1) := by decide +kernel
theorem dX9_readLamp_13 : decode cX9_readLamp 13 = .ok (.iconst 5, 1) := by decide +kernel
theorem dX9_readLamp_14 : decode cX9_readLamp 14 = .ok (.iconst 0, 1) := by decide +kernel
theorem dX9_readLamp_15 : decode cX9_readLamp 15 = .ok (.aload_n 0, 1) := by decide +kernel
theorem dX9_readLamp_16 : decode cX9_readLamp 16 = .ok (.getfield 24, 3) := by decide +kernel
theorem dX9_readLamp_19 : decode cX9_readLamp 19 = .ok (.iconst 0, 1) := by decide +kernel
theorem dX9_readLamp_20 : decode cX9_readLamp 20 = .ok (.iaload, 1) := by decide +kernel
theorem dX9_readLamp_21 : decode cX9_readLamp 21 = .ok (.iconst 1, 1) := by decide +kernel
theorem dX9_readLamp_22 : decode cX9_readLamp 22 = .ok (.isub, 1) := by decide +kernel
theorem dX9_readLamp_23 : decode cX9_readLamp 23 = .ok (.iconst 0, 1) := by decide +kernel
theorem dX9_readLamp_24 : decode cX9_readLamp 24 = .ok (.invokevirtual 139, 3) := by decide +kernel
theorem dX9_readLamp_27 : decode cX9_readLamp 27 = .ok (.iastore, 1) := by decide +kernel
theorem dX9_readLamp_28 : decode cX9_readLamp 28 = .ok (.aload_n 0, 1) := by decide +kernel
theorem dX9_readLamp_29 : decode cX9_readLamp 29 = .ok (.getfield 24, 3) := by decide +kernel
theorem dX9_readLamp_32 : decode cX9_readLamp 32 = .ok (.iconst 3, 1) := by decide +kernel
theorem dX9_readLamp_33 : decode cX9_readLamp 33 = .ok (.aload_n 0, 1) := by decide +kernel
theorem dX9_readLamp_34 : decode cX9_readLamp 34 = .ok (.bipush 6, 2) := by decide +kernel
theorem dX9_readLamp_36 : decode cX9_readLamp 36 = .ok (.iconst 1, 1) := by decide +kernel
theorem dX9_readLamp_37 : decode cX9_readLamp 37 = .ok (.bipush 30, 2) := by decide +kernel
theorem dX9_readLamp_39 : decode cX9_readLamp 39 = .ok (.bipush 6, 2) := by decide +kernel
theorem dX9_readLamp_41 : decode cX9_readLamp 41 = .ok (.invokevirtual 139, 3) := by decide +kernel
theorem dX9_readLamp_44 : decode cX9_readLamp 44 = .ok (.iastore, 1) := by decide +kernel
theorem dX9_readLamp_45 : decode cX9_readLamp 45 = .ok (.aload_n 0, 1) := by decide +kernel
theorem dX9_readLamp_46 : decode cX9_readLamp 46 = .ok (.getfield 24, 3) := by decide +kernel
theorem dX9_readLamp_49 : decode cX9_readLamp 49 = .ok (.iconst 4, 1) := by decide +kernel
theorem dX9_readLamp_50 : decode cX9_readLamp 50 = .ok (.aload_n 0, 1) := by decide +kernel
theorem dX9_readLamp_51 : decode cX9_readLamp 51 = .ok (.bipush 7, 2) := by decide +kernel
theorem dX9_readLamp_53 : decode cX9_readLamp 53 = .ok (.iconst 0, 1) := by decide +kernel
theorem dX9_readLamp_54 : decode cX9_readLamp 54 = .ok (.bipush 20, 2) := by decide +kernel
theorem dX9_readLamp_56 : decode cX9_readLamp 56 = .ok (.bipush 6, 2) := by decide +kernel
theorem dX9_readLamp_58 : decode cX9_readLamp 58 = .ok (.invokevirtual 139, 3) := by decide +kernel
theorem dX9_readLamp_61 : decode cX9_readLamp 61 = .ok (.iastore, 1) := by decide +kernel
theorem dX9_readLamp_62 : decode cX9_readLamp 62 = .ok (.aload_n 0, 1) := by decide +kernel
theorem dX9_readLamp_63 : decode cX9_readLamp 63 = .ok (.getfield 24, 3) := by decide +kernel
theorem dX9_readLamp_66 : decode cX9_readLamp 66 = .ok (.iconst 5, 1) := by decide +kernel
theorem dX9_readLamp_67 : decode cX9_readLamp 67 = .ok (.aload_n 0, 1) := by decide +kernel
theorem dX9_readLamp_68 : decode cX9_readLamp 68 = .ok (.bipush 8, 2) := by decide +kernel
theorem dX9_readLamp_70 : decode cX9_readLamp 70 = .ok (.iconst 0, 1) := by decide +kernel
theorem dX9_readLamp_71 : decode cX9_readLamp 71 = .ok (.bipush 9, 2) := by decide +kernel
theorem dX9_readLamp_73 : decode cX9_readLamp 73 = .ok (.iconst 1, 1) := by decide +kernel
theorem dX9_readLamp_74 : decode cX9_readLamp 74 = .ok (.invokevirtual 139, 3) := by decide +kernel
theorem dX9_readLamp_77 : decode cX9_readLamp 77 = .ok (.iastore, 1) := by decide +kernel
theorem dX9_readLamp_78 : decode cX9_readLamp 78 = .ok (.return_, 1) := by decide +kernel
theorem dX9_readBid_0 : decode cX9_readBid 0 = .ok (.aload_n 0, 1) := by decide +kernel
theorem dX9_readBid_1 : decode cX9_readBid 1 = .ok (.iconst 0, 1) := by decide +kernel
theorem dX9_readBid_2 : decode cX9_readBid 2 = .ok (.iconst 5, 1) := by decide +kernel
theorem dX9_readBid_3 : decode cX9_readBid 3 = .ok (.invokevirtual 135, 3) := by decide +kernel
theorem dX9_readBid_6 : decode cX9_readBid 6 = .ok (.istore_n 1, 1) := by decide +kernel
theorem dX9_readBid_7 : decode cX9_readBid 7 = .ok (.aload_n 0, 1) := by decide +kernel
theorem dX9_readBid_8 : decode cX9_readBid 8 = .ok (.iconst 0, 1) := by decide +kernel
theorem dX9_readBid_9 : decode cX9_readBid 9 = .ok (.bipush 99, 2) := by decide +kernel
theorem dX9_readBid_11 : decode cX9_readBid 11 = .ok (.invokevirtual 135, 3) := by decide +kernel
theorem dX9_readBid_14 : decode cX9_readBid 14 = .ok (.istore_n 2, 1) := by decide +kernel
theorem dX9_readBid_15 : decode cX9_readBid 15 = .ok (.aload_n 0, 1) := by decide +kernel
theorem dX9_readBid_16 : decode cX9_readBid 16 = .ok (.getfield 112, 3) := by decide +kernel
theorem dX9_readBid_19 : decode cX9_readBid 19 = .ok (.ifCond .ne 13, 3) := by decide +kernel
theorem dX9_readBid_22 : decode cX9_readBid 22 = .ok (.aload_n 0, 1) := by decide +kernel
theorem dX9_readBid_23 : decode cX9_readBid 23 = .ok (.getfield 24, 3) := by decide +kernel
theorem dX9_readBid_26 : decode cX9_readBid 26 = .ok (.bipush 10, 2) := by decide +kernel
theorem dX9_readBid_28 : decode cX9_readBid 28 = .ok (.iload_n 1, 1) := by decide +kernel
theorem dX9_readBid_29 : decode cX9_readBid 29 = .ok (.iadd, 1) := by decide +kernel
theorem dX9_readBid_30 : decode cX9_readBid 30 = .ok (.iload_n 2, 1) := by decide +kernel
theorem dX9_readBid_31 : decode cX9_readBid 31 = .ok (.iastore, 1) := by decide +kernel
theorem dX9_readBid_32 : decode cX9_readBid 32 = .ok (.return_, 1) := by decide +kernel
theorem dX9_readLine_0 : decode cX9_readLine 0 = .ok (.aload_n 0, 1) := by decide +kernel
theorem dX9_readLine_1 : decode cX9_readLine 1 = .ok (.iconst 0, 1) := by decide +kernel
theorem dX9_readLine_2 : decode cX9_readLine 2 = .ok (.invokevirtual 118, 3) := by decide +kernel
theorem dX9_readLine_5 : decode cX9_readLine 5 = .ok (.ifCond .eq 10, 3) := by decide +kernel
theorem dX9_readLine_8 : decode cX9_readLine 8 = .ok (.aload_n 0, 1) := by decide +kernel
theorem dX9_readLine_9 : decode cX9_readLine 9 = .ok (.invokevirtual 143, 3) := by decide +kernel
theorem dX9_readLine_12 : decode cX9_readLine 12 = .ok (.goto 124, 3) := by decide +kernel
theorem dX9_readLine_15 : decode cX9_readLine 15 = .ok (.aload_n 0, 1) := by decide +kernel
theorem dX9_readLine_16 : decode cX9_readLine 16 = .ok (.iconst 4, 1) := by decide +kernel
theorem dX9_readLine_17 : decode cX9_readLine 17 = .ok (.invokevirtual 132, 3) := by decide +kernel
theorem dX9_readLine_20 : decode cX9_readLine 20 = .ok (.ifCond .eq 10, 3) := by decide +kernel
theorem dX9_readLine_23 : decode cX9_readLine 23 = .ok (.aload_n 0, 1) := by decide +kernel
theorem dX9_readLine_24 : decode cX9_readLine 24 = .ok (.invokevirtual 146, 3) := by decide +kernel
theorem dX9_readLine_27 : decode cX9_readLine 27 = .ok (.goto 109, 3) := by decide +kernel
theorem dX9_readLine_30 : decode cX9_readLine 30 = .ok (.aload_n 0, 1) := by decide +kernel
theorem dX9_readLine_31 : decode cX9_readLine 31 = .ok (.bipush 9, 2) := by decide +kernel
theorem dX9_readLine_33 : decode cX9_readLine 33 = .ok (.invokevirtual 132, 3) := by decide +kernel
theorem dX9_readLine_36 : decode cX9_readLine 36 = .ok (.ifCond .eq 21, 3) := by decide +kernel
theorem dX9_readLine_39 : decode cX9_readLine 39 = .ok (.aload_n 0, 1) := by decide +kernel
theorem dX9_readLine_40 : decode cX9_readLine 40 = .ok (.getfield 24, 3) := by decide +kernel
theorem dX9_readLine_43 : decode cX9_readLine 43 = .ok (.bipush 6, 2) := by decide +kernel
theorem dX9_readLine_45 : decode cX9_readLine 45 = .ok (.aload_n 0, 1) := by decide +kernel
theorem dX9_readLine_46 : decode cX9_readLine 46 = .ok (.iconst 0, 1) := by decide +kernel
theorem dX9_readLine_47 : decode cX9_readLine 47 = .ok (.sipush 999, 3) := by decide +kernel
theorem dX9_readLine_50 : decode cX9_readLine 50 = .ok (.invokevirtual 135, 3) := by decide +kernel
theorem dX9_readLine_53 : decode cX9_readLine 53 = .ok (.iastore, 1) := by decide +kernel
theorem dX9_readLine_54 : decode cX9_readLine 54 = .ok (.goto 82, 3) := by decide +kernel
theorem dX9_readLine_57 : decode cX9_readLine 57 = .ok (.aload_n 0, 1) := by decide +kernel
theorem dX9_readLine_58 : decode cX9_readLine 58 = .ok (.bipush 10, 2) := by decide +kernel
theorem dX9_readLine_60 : decode cX9_readLine 60 = .ok (.invokevirtual 132, 3) := by decide +kernel
theorem dX9_readLine_63 : decode cX9_readLine 63 = .ok (.ifCond .eq 10, 3) := by decide +kernel
theorem dX9_readLine_66 : decode cX9_readLine 66 = .ok (.aload_n 0, 1) := by decide +kernel
theorem dX9_readLine_67 : decode cX9_readLine 67 = .ok (.invokevirtual 149, 3) := by decide +kernel
theorem dX9_readLine_70 : decode cX9_readLine 70 = .ok (.goto 66, 3) := by decide +kernel
theorem dX9_readLine_73 : decode cX9_readLine 73 = .ok (.aload_n 0, 1) := by decide +kernel
