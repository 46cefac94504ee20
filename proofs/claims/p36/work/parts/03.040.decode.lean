theorem dX9_canWalk_35 : decode cX9_canWalk 35 = .ok (.ldc2_w 196, 3) := by decide +kernel
theorem dX9_canWalk_38 : decode cX9_canWalk 38 = .ok (.invokestatic 128, 3) := by decide +kernel
theorem dX9_canWalk_41 : decode cX9_canWalk 41 = .ok (.ifCond .eq 16, 3) := by decide +kernel
theorem dX9_canWalk_44 : decode cX9_canWalk 44 = .ok (.aload_n 0, 1) := by decide +kernel
theorem dX9_canWalk_45 : decode cX9_canWalk 45 = .ok (.iload_n 2, 1) := by decide +kernel
theorem dX9_canWalk_46 : decode cX9_canWalk 46 = .ok (.lload 4, 2) := by decide +kernel
theorem dX9_canWalk_48 : decode cX9_canWalk 48 = .ok (.invokestatic 198, 3) := by decide +kernel
theorem dX9_canWalk_51 : decode cX9_canWalk 51 = .ok (.invokevirtual 172, 3) := by decide +kernel
theorem dX9_canWalk_54 : decode cX9_canWalk 54 = .ok (.ifCond .ne 5, 3) := by decide +kernel
theorem dX9_canWalk_57 : decode cX9_canWalk 57 = .ok (.iconst 0, 1) := by decide +kernel
theorem dX9_canWalk_58 : decode cX9_canWalk 58 = .ok (.ireturn, 1) := by decide +kernel
theorem dX9_canWalk_59 : decode cX9_canWalk 59 = .ok (.iload_n 2, 1) := by decide +kernel
theorem dX9_canWalk_60 : decode cX9_canWalk 60 = .ok (.lload 4, 2) := by decide +kernel
theorem dX9_canWalk_62 : decode cX9_canWalk 62 = .ok (.invokestatic 198, 3) := by decide +kernel
theorem dX9_canWalk_65 : decode cX9_canWalk 65 = .ok (.istore_n 2, 1) := by decide +kernel
theorem dX9_canWalk_66 : decode cX9_canWalk 66 = .ok (.iinc 3 1, 3) := by decide +kernel
theorem dX9_canWalk_69 : decode cX9_canWalk 69 = .ok (.goto (-60), 3) := by decide +kernel
theorem dX9_canWalk_72 : decode cX9_canWalk 72 = .ok (.iconst 1, 1) := by decide +kernel
theorem dX9_canWalk_73 : decode cX9_canWalk 73 = .ok (.ireturn, 1) := by decide +kernel
theorem dX9_meets_0 : decode cX9_meets 0 = .ok (.aload_n 0, 1) := by decide +kernel
theorem dX9_meets_1 : decode cX9_meets 1 = .ok (.iconst 0, 1) := by decide +kernel
theorem dX9_meets_2 : decode cX9_meets 2 = .ok (.putfield 1, 3) := by decide +kernel
theorem dX9_meets_5 : decode cX9_meets 5 = .ok (.iload_n 1, 1) := by decide +kernel
theorem dX9_meets_6 : decode cX9_meets 6 = .ok (.i2l, 1) := by decide +kernel
theorem dX9_meets_7 : decode cX9_meets 7 = .ok (.lconst 0, 1) := by decide +kernel
theorem dX9_meets_8 : decode cX9_meets 8 = .ok (.ldc2_w 180, 3) := by decide +kernel
theorem dX9_meets_11 : decode cX9_meets 11 = .ok (.invokestatic 128, 3) := by decide +kernel
theorem dX9_meets_14 : decode cX9_meets 14 = .ok (.ifCond .eq 15, 3) := by decide +kernel
theorem dX9_meets_17 : decode cX9_meets 17 = .ok (.iload_n 2, 1) := by decide +kernel
theorem dX9_meets_18 : decode cX9_meets 18 = .ok (.i2l, 1) := by decide +kernel
theorem dX9_meets_19 : decode cX9_meets 19 = .ok (.lconst 0, 1) := by decide +kernel
theorem dX9_meets_20 : decode cX9_meets 20 = .ok (.ldc2_w 180, 3) := by decide +kernel
theorem dX9_meets_23 : decode cX9_meets 23 = .ok (.invokestatic 128, 3) := by decide +kernel
theorem dX9_meets_26 : decode cX9_meets 26 = .ok (.ifCond .ne 6, 3) := by decide +kernel
theorem dX9_meets_29 : decode cX9_meets 29 = .ok (.bipush (-2), 2) := by decide +kernel
theorem dX9_meets_31 : decode cX9_meets 31 = .ok (.ireturn, 1) := by decide +kernel
theorem dX9_meets_32 : decode cX9_meets 32 = .ok (.aload_n 0, 1) := by decide +kernel
theorem dX9_meets_33 : decode cX9_meets 33 = .ok (.getfield 51, 3) := by decide +kernel
theorem dX9_meets_36 : decode cX9_meets 36 = .ok (.iload_n 1, 1) := by decide +kernel
theorem dX9_meets_37 : decode cX9_meets 37 = .ok (.iaload, 1) := by decide +kernel
theorem dX9_meets_38 : decode cX9_meets 38 = .ok (.iconst (-1), 1) := by decide +kernel
theorem dX9_meets_39 : decode cX9_meets 39 = .ok (.if_icmp .eq 13, 3) := by decide +kernel
theorem dX9_meets_42 : decode cX9_meets 42 = .ok (.aload_n 0, 1) := by decide +kernel
theorem dX9_meets_43 : decode cX9_meets 43 = .ok (.getfield 51, 3) := by decide +kernel
theorem dX9_meets_46 : decode cX9_meets 46 = .ok (.iload_n 2, 1) := by decide +kernel
theorem dX9_meets_47 : decode cX9_meets 47 = .ok (.iaload, 1) := by decide +kernel
theorem dX9_meets_48 : decode cX9_meets 48 = .ok (.iconst (-1), 1) := by decide +kernel
theorem dX9_meets_49 : decode cX9_meets 49 = .ok (.if_icmp .ne 6, 3) := by decide +kernel
theorem dX9_meets_52 : decode cX9_meets 52 = .ok (.bipush (-6), 2) := by decide +kernel
theorem dX9_meets_54 : decode cX9_meets 54 = .ok (.ireturn, 1) := by decide +kernel
theorem dX9_meets_55 : decode cX9_meets 55 = .ok (.aload_n 0, 1) := by decide +kernel
theorem dX9_meets_56 : decode cX9_meets 56 = .ok (.iload_n 1, 1) := by decide +kernel
theorem dX9_meets_57 : decode cX9_meets 57 = .ok (.invokevirtual 313, 3) := by decide +kernel
theorem dX9_meets_60 : decode cX9_meets 60 = .ok (.ifCond .ne 6, 3) := by decide +kernel
theorem dX9_meets_63 : decode cX9_meets 63 = .ok (.bipush (-5), 2) := by decide +kernel
theorem dX9_meets_65 : decode cX9_meets 65 = .ok (.ireturn, 1) := by decide +kernel
theorem dX9_meets_66 : decode cX9_meets 66 = .ok (.aload_n 0, 1) := by decide +kernel
theorem dX9_meets_67 : decode cX9_meets 67 = .ok (.getfield 13, 3) := by decide +kernel
theorem dX9_meets_70 : decode cX9_meets 70 = .ok (.iconst 2, 1) := by decide +kernel
theorem dX9_meets_71 : decode cX9_meets 71 = .ok (.iaload, 1) := by decide +kernel
theorem dX9_meets_72 : decode cX9_meets 72 = .ok (.istore_n 3, 1) := by decide +kernel
theorem dX9_meets_73 : decode cX9_meets 73 = .ok (.iconst 0, 1) := by decide +kernel
theorem dX9_meets_74 : decode cX9_meets 74 = .ok (.istore 4, 2) := by decide +kernel
theorem dX9_meets_76 : decode cX9_meets 76 = .ok (.iload 4, 2) := by decide +kernel
theorem dX9_meets_78 : decode cX9_meets 78 = .ok (.aload_n 0, 1) := by decide +kernel
theorem dX9_meets_79 : decode cX9_meets 79 = .ok (.getfield 54, 3) := by decide +kernel
theorem dX9_meets_82 : decode cX9_meets 82 = .ok (.iload_n 1, 1) := by decide +kernel
theorem dX9_meets_83 : decode cX9_meets 83 = .ok (.iaload, 1) := by decide +kernel
theorem dX9_meets_84 : decode cX9_meets 84 = .ok (.if_icmp .ge 50, 3) := by decide +kernel
theorem dX9_meets_87 : decode cX9_meets 87 = .ok (.iload_n 3, 1) := by decide +kernel
theorem dX9_meets_88 : decode cX9_meets 88 = .ok (.aload_n 0, 1) := by decide +kernel
theorem dX9_meets_89 : decode cX9_meets 89 = .ok (.getfield 57, 3) := by decide +kernel
theorem dX9_meets_92 : decode cX9_meets 92 = .ok (.bipush 40, 2) := by decide +kernel
theorem dX9_meets_94 : decode cX9_meets 94 = .ok (.iload_n 1, 1) := by decide +kernel
theorem dX9_meets_95 : decode cX9_meets 95 = .ok (.imul, 1) := by decide +kernel
theorem dX9_meets_96 : decode cX9_meets 96 = .ok (.iload 4, 2) := by decide +kernel
theorem dX9_meets_98 : decode cX9_meets 98 = .ok (.iadd, 1) := by decide +kernel
theorem dX9_meets_99 : decode cX9_meets 99 = .ok (.laload, 1) := by decide +kernel
theorem dX9_meets_100 : decode cX9_meets 100 = .ok (.invokestatic 198, 3) := by decide +kernel
theorem dX9_meets_103 : decode cX9_meets 103 = .ok (.istore_n 3, 1) := by decide +kernel
theorem dX9_meets_104 : decode cX9_meets 104 = .ok (.iload_n 3, 1) := by decide +kernel
theorem dX9_meets_105 : decode cX9_meets 105 = .ok (.aload_n 0, 1) := by decide +kernel
theorem dX9_meets_106 : decode cX9_meets 106 = .ok (.getfield 13, 3) := by decide +kernel
theorem dX9_meets_109 : decode cX9_meets 109 = .ok (.bipush 8, 2) := by decide +kernel
theorem dX9_meets_111 : decode cX9_meets 111 = .ok (.iaload, 1) := by decide +kernel
theorem dX9_meets_112 : decode cX9_meets 112 = .ok (.if_icmp .ne 16, 3) := by decide +kernel
theorem dX9_meets_115 : decode cX9_meets 115 = .ok (.aload_n 0, 1) := by decide +kernel
theorem dX9_meets_116 : decode cX9_meets 116 = .ok (.iload_n 2, 1) := by decide +kernel
theorem dX9_meets_117 : decode cX9_meets 117 = .ok (.iload 4, 2) := by decide +kernel
theorem dX9_meets_119 : decode cX9_meets 119 = .ok (.invokevirtual 316, 3) := by decide +kernel
theorem dX9_meets_122 : decode cX9_meets 122 = .ok (.ifCond .eq 6, 3) := by decide +kernel
theorem dX9_meets_125 : decode cX9_meets 125 = .ok (.iload 4, 2) := by decide +kernel
theorem dX9_meets_127 : decode cX9_meets 127 = .ok (.ireturn, 1) := by decide +kernel
theorem dX9_meets_128 : decode cX9_meets 128 = .ok (.iinc 4 1, 3) := by decide +kernel
theorem dX9_meets_131 : decode cX9_meets 131 = .ok (.goto (-55), 3) := by decide +kernel
theorem dX9_meets_134 : decode cX9_meets 134 = .ok (.iconst (-1), 1) := by decide +kernel
theorem dX9_meets_135 : decode cX9_meets 135 = .ok (.ireturn, 1) := by decide +kernel
theorem dX9_meetBy_0 : decode cX9_meetBy 0 = .ok (.aload_n 0, 1) := by decide +kernel
theorem dX9_meetBy_1 : decode cX9_meetBy 1 = .ok (.getfield 13, 3) := by decide +kernel
theorem dX9_meetBy_4 : decode cX9_meetBy 4 = .ok (.iconst 2, 1) := by decide +kernel
theorem dX9_meetBy_5 : decode cX9_meetBy 5 = .ok (.iaload, 1) := by decide +kernel
theorem dX9_meetBy_6 : decode cX9_meetBy 6 = .ok (.istore 4, 2) := by decide +kernel
theorem dX9_meetBy_8 : decode cX9_meetBy 8 = .ok (.iconst 0, 1) := by decide +kernel
theorem dX9_meetBy_9 : decode cX9_meetBy 9 = .ok (.istore 5, 2) := by decide +kernel
theorem dX9_meetBy_11 : decode cX9_meetBy 11 = .ok (.iload 5, 2) := by decide +kernel
theorem dX9_meetBy_13 : decode cX9_meetBy 13 = .ok (.iload_n 3, 1) := by decide +kernel
theorem dX9_meetBy_14 : decode cX9_meetBy 14 = .ok (.aload_n 0, 1) := by decide +kernel
theorem dX9_meetBy_15 : decode cX9_meetBy 15 = .ok (.getfield 54, 3) := by decide +kernel
theorem dX9_meetBy_18 : decode cX9_meetBy 18 = .ok (.iload_n 1, 1) := by decide +kernel
theorem dX9_meetBy_19 : decode cX9_meetBy 19 = .ok (.iaload, 1) := by decide +kernel
theorem dX9_meetBy_20 : decode cX9_meetBy 20 = .ok (.iadd, 1) := by decide +kernel
theorem dX9_meetBy_21 : decode cX9_meetBy 21 = .ok (.if_icmp .ge 60, 3) := by decide +kernel
theorem dX9_meetBy_24 : decode cX9_meetBy 24 = .ok (.iload 5, 2) := by decide +kernel
theorem dX9_meetBy_26 : decode cX9_meetBy 26 = .ok (.iload_n 3, 1) := by decide +kernel
theorem dX9_meetBy_27 : decode cX9_meetBy 27 = .ok (.if_icmp .lt 24, 3) := by decide +kernel
theorem dX9_meetBy_30 : decode cX9_meetBy 30 = .ok (.iload 4, 2) := by decide +kernel
theorem dX9_meetBy_32 : decode cX9_meetBy 32 = .ok (.aload_n 0, 1) := by decide +kernel
theorem dX9_meetBy_33 : decode cX9_meetBy 33 = .ok (.getfield 57, 3) := by decide +kernel
theorem dX9_meetBy_36 : decode cX9_meetBy 36 = .ok (.bipush 40, 2) := by decide +kernel
theorem dX9_meetBy_38 : decode cX9_meetBy 38 = .ok (.iload_n 1, 1) := by decide +kernel
theorem dX9_meetBy_39 : decode cX9_meetBy 39 = .ok (.imul, 1) := by decide +kernel
theorem dX9_meetBy_40 : decode cX9_meetBy 40 = .ok (.iload 5, 2) := by decide +kernel
theorem dX9_meetBy_42 : decode cX9_meetBy 42 = .ok (.iadd, 1) := by decide +kernel
theorem dX9_meetBy_43 : decode cX9_meetBy 43 = .ok (.iload_n 3, 1) := by decide +kernel
theorem dX9_meetBy_44 : decode cX9_meetBy 44 = .ok (.isub, 1) := by decide +kernel
theorem dX9_meetBy_45 : decode cX9_meetBy 45 = .ok (.laload, 1) := by decide +kernel
theorem dX9_meetBy_46 : decode cX9_meetBy 46 = .ok (.invokestatic 198, 3) := by decide +kernel
theorem dX9_meetBy_49 : decode cX9_meetBy 49 = .ok (.istore 4, 2) := by decide +kernel
theorem dX9_meetBy_51 : decode cX9_meetBy 51 = .ok (.iload 4, 2) := by decide +kernel
theorem dX9_meetBy_53 : decode cX9_meetBy 53 = .ok (.aload_n 0, 1) := by decide +kernel
theorem dX9_meetBy_54 : decode cX9_meetBy 54 = .ok (.getfield 13, 3) := by decide +kernel
theorem dX9_meetBy_57 : decode cX9_meetBy 57 = .ok (.bipush 8, 2) := by decide +kernel
theorem dX9_meetBy_59 : decode cX9_meetBy 59 = .ok (.iaload, 1) := by decide +kernel
theorem dX9_meetBy_60 : decode cX9_meetBy 60 = .ok (.if_icmp .ne 15, 3) := by decide +kernel
theorem dX9_meetBy_63 : decode cX9_meetBy 63 = .ok (.aload_n 0, 1) := by decide +kernel
theorem dX9_meetBy_64 : decode cX9_meetBy 64 = .ok (.iload_n 2, 1) := by decide +kernel
theorem dX9_meetBy_65 : decode cX9_meetBy 65 = .ok (.iload 5, 2) := by decide +kernel
theorem dX9_meetBy_67 : decode cX9_meetBy 67 = .ok (.invokevirtual 316, 3) := by decide +kernel
theorem dX9_meetBy_70 : decode cX9_meetBy 70 = .ok (.ifCond .eq 5, 3) := by decide +kernel
theorem dX9_meetBy_73 : decode cX9_meetBy 73 = .ok (.iconst 1, 1) := by decide +kernel
theorem dX9_meetBy_74 : decode cX9_meetBy 74 = .ok (.ireturn, 1) := by decide +kernel
theorem dX9_meetBy_75 : decode cX9_meetBy 75 = .ok (.iinc 5 1, 3) := by decide +kernel
theorem dX9_meetBy_78 : decode cX9_meetBy 78 = .ok (.goto (-67), 3) := by decide +kernel
theorem dX9_meetBy_81 : decode cX9_meetBy 81 = .ok (.iconst 0, 1) := by decide +kernel
theorem dX9_meetBy_82 : decode cX9_meetBy 82 = .ok (.ireturn, 1) := by decide +kernel
theorem dX9_delay_0 : decode cX9_delay 0 = .ok (.aload_n 0, 1) := by decide +kernel
theorem dX9_delay_1 : decode cX9_delay 1 = .ok (.iconst 0, 1) := by decide +kernel
theorem dX9_delay_2 : decode cX9_delay 2 = .ok (.putfield 1, 3) := by decide +kernel
theorem dX9_delay_5 : decode cX9_delay 5 = .ok (.iload_n 1, 1) := by decide +kernel
theorem dX9_delay_6 : decode cX9_delay 6 = .ok (.i2l, 1) := by decide +kernel
theorem dX9_delay_7 : decode cX9_delay 7 = .ok (.lconst 0, 1) := by decide +kernel
theorem dX9_delay_8 : decode cX9_delay 8 = .ok (.ldc2_w 180, 3) := by decide +kernel
theorem dX9_delay_11 : decode cX9_delay 11 = .ok (.invokestatic 128, 3) := by decide +kernel
theorem dX9_delay_14 : decode cX9_delay 14 = .ok (.ifCond .eq 15, 3) := by decide +kernel
theorem dX9_delay_17 : decode cX9_delay 17 = .ok (.iload_n 2, 1) := by decide +kernel
theorem dX9_delay_18 : decode cX9_delay 18 = .ok (.i2l, 1) := by decide +kernel
theorem dX9_delay_19 : decode cX9_delay 19 = .ok (.lconst 0, 1) := by decide +kernel
theorem dX9_delay_20 : decode cX9_delay 20 = .ok (.ldc2_w 180, 3) := by decide +kernel
theorem dX9_delay_23 : decode cX9_delay 23 = .ok (.invokestatic 128, 3) := by decide +kernel
theorem dX9_delay_26 : decode cX9_delay 26 = .ok (.ifCond .ne 6, 3) := by decide +kernel
theorem dX9_delay_29 : decode cX9_delay 29 = .ok (.bipush (-2), 2) := by decide +kernel
theorem dX9_delay_31 : decode cX9_delay 31 = .ok (.ireturn, 1) := by decide +kernel
theorem dX9_delay_32 : decode cX9_delay 32 = .ok (.aload_n 0, 1) := by decide +kernel
theorem dX9_delay_33 : decode cX9_delay 33 = .ok (.getfield 51, 3) := by decide +kernel
theorem dX9_delay_36 : decode cX9_delay 36 = .ok (.iload_n 1, 1) := by decide +kernel
theorem dX9_delay_37 : decode cX9_delay 37 = .ok (.iaload, 1) := by decide +kernel
theorem dX9_delay_38 : decode cX9_delay 38 = .ok (.iconst (-1), 1) := by decide +kernel
theorem dX9_delay_39 : decode cX9_delay 39 = .ok (.if_icmp .eq 13, 3) := by decide +kernel
theorem dX9_delay_42 : decode cX9_delay 42 = .ok (.aload_n 0, 1) := by decide +kernel
theorem dX9_delay_43 : decode cX9_delay 43 = .ok (.getfield 51, 3) := by decide +kernel
theorem dX9_delay_46 : decode cX9_delay 46 = .ok (.iload_n 2, 1) := by decide +kernel
theorem dX9_delay_47 : decode cX9_delay 47 = .ok (.iaload, 1) := by decide +kernel
theorem dX9_delay_48 : decode cX9_delay 48 = .ok (.iconst (-1), 1) := by decide +kernel
theorem dX9_delay_49 : decode cX9_delay 49 = .ok (.if_icmp .ne 6, 3) := by decide +kernel
theorem dX9_delay_52 : decode cX9_delay 52 = .ok (.bipush (-6), 2) := by decide +kernel
theorem dX9_delay_54 : decode cX9_delay 54 = .ok (.ireturn, 1) := by decide +kernel
theorem dX9_delay_55 : decode cX9_delay 55 = .ok (.aload_n 0, 1) := by decide +kernel
theorem dX9_delay_56 : decode cX9_delay 56 = .ok (.iload_n 1, 1) := by decide +kernel
theorem dX9_delay_57 : decode cX9_delay 57 = .ok (.invokevirtual 313, 3) := by decide +kernel
theorem dX9_delay_60 : decode cX9_delay 60 = .ok (.ifCond .ne 6, 3) := by decide +kernel
theorem dX9_delay_63 : decode cX9_delay 63 = .ok (.bipush (-5), 2) := by decide +kernel
theorem dX9_delay_65 : decode cX9_delay 65 = .ok (.ireturn, 1) := by decide +kernel
theorem dX9_delay_66 : decode cX9_delay 66 = .ok (.iconst 0, 1) := by decide +kernel
theorem dX9_delay_67 : decode cX9_delay 67 = .ok (.istore_n 3, 1) := by decide +kernel
theorem dX9_delay_68 : decode cX9_delay 68 = .ok (.iload_n 3, 1) := by decide +kernel
theorem dX9_delay_69 : decode cX9_delay 69 = .ok (.bipush 40, 2) := by decide +kernel
theorem dX9_delay_71 : decode cX9_delay 71 = .ok (.if_icmp .gt 21, 3) := by decide +kernel
theorem dX9_delay_74 : decode cX9_delay 74 = .ok (.aload_n 0, 1) := by decide +kernel
theorem dX9_delay_75 : decode cX9_delay 75 = .ok (.iload_n 1, 1) := by decide +kernel
theorem dX9_delay_76 : decode cX9_delay 76 = .ok (.iload_n 2, 1) := by decide +kernel
theorem dX9_delay_77 : decode cX9_delay 77 = .ok (.iload_n 3, 1) := by decide +kernel
theorem dX9_delay_78 : decode cX9_delay 78 = .ok (.invokevirtual 320, 3) := by decide +kernel
theorem dX9_delay_81 : decode cX9_delay 81 = .ok (.ifCond .ne 5, 3) := by decide +kernel
theorem dX9_delay_84 : decode cX9_delay 84 = .ok (.iload_n 3, 1) := by decide +kernel
theorem dX9_delay_85 : decode cX9_delay 85 = .ok (.ireturn, 1) := by decide +kernel
theorem dX9_delay_86 : decode cX9_delay 86 = .ok (.iinc 3 1, 3) := by decide +kernel
theorem dX9_delay_89 : decode cX9_delay 89 = .ok (.goto (-21), 3) := by decide +kernel
theorem dX9_delay_92 : decode cX9_delay 92 = .ok (.iconst (-1), 1) := by decide +kernel
theorem dX9_delay_93 : decode cX9_delay 93 = .ok (.ireturn, 1) := by decide +kernel
theorem dX9_cut_0 : decode cX9_cut 0 = .ok (.iload_n 2, 1) := by decide +kernel
