theorem dX3_leastHeight_64 : decode cX3_leastHeight 64 = .ok (.iaload, 1) := by decide +kernel
theorem dX3_leastHeight_65 : decode cX3_leastHeight 65 = .ok (.iload 4, 2) := by decide +kernel
theorem dX3_leastHeight_67 : decode cX3_leastHeight 67 = .ok (.imul, 1) := by decide +kernel
theorem dX3_leastHeight_68 : decode cX3_leastHeight 68 = .ok (.iload 7, 2) := by decide +kernel
theorem dX3_leastHeight_70 : decode cX3_leastHeight 70 = .ok (.iadd, 1) := by decide +kernel
theorem dX3_leastHeight_71 : decode cX3_leastHeight 71 = .ok (.iconst 1, 1) := by decide +kernel
theorem dX3_leastHeight_72 : decode cX3_leastHeight 72 = .ok (.isub, 1) := by decide +kernel
theorem dX3_leastHeight_73 : decode cX3_leastHeight 73 = .ok (.iload 7, 2) := by decide +kernel
theorem dX3_leastHeight_75 : decode cX3_leastHeight 75 = .ok (.idiv, 1) := by decide +kernel
theorem dX3_leastHeight_76 : decode cX3_leastHeight 76 = .ok (.goto 4, 3) := by decide +kernel
theorem dX3_leastHeight_79 : decode cX3_leastHeight 79 = .ok (.iconst 0, 1) := by decide +kernel
theorem dX3_leastHeight_80 : decode cX3_leastHeight 80 = .ok (.istore 8, 2) := by decide +kernel
theorem dX3_leastHeight_82 : decode cX3_leastHeight 82 = .ok (.iload_n 3, 1) := by decide +kernel
theorem dX3_leastHeight_83 : decode cX3_leastHeight 83 = .ok (.iload 8, 2) := by decide +kernel
theorem dX3_leastHeight_85 : decode cX3_leastHeight 85 = .ok (.invokestatic 86, 3) := by decide +kernel
theorem dX3_leastHeight_88 : decode cX3_leastHeight 88 = .ok (.istore_n 3, 1) := by decide +kernel
theorem dX3_leastHeight_89 : decode cX3_leastHeight 89 = .ok (.iinc 6 1, 3) := by decide +kernel
theorem dX3_leastHeight_92 : decode cX3_leastHeight 92 = .ok (.goto (-55), 3) := by decide +kernel
theorem dX3_leastHeight_95 : decode cX3_leastHeight 95 = .ok (.iload_n 3, 1) := by decide +kernel
theorem dX3_leastHeight_96 : decode cX3_leastHeight 96 = .ok (.bipush 99, 2) := by decide +kernel
theorem dX3_leastHeight_98 : decode cX3_leastHeight 98 = .ok (.if_icmp .le 7, 3) := by decide +kernel
theorem dX3_leastHeight_101 : decode cX3_leastHeight 101 = .ok (.iconst (-1), 1) := by decide +kernel
theorem dX3_leastHeight_102 : decode cX3_leastHeight 102 = .ok (.goto 4, 3) := by decide +kernel
theorem dX3_leastHeight_105 : decode cX3_leastHeight 105 = .ok (.iload_n 3, 1) := by decide +kernel
theorem dX3_leastHeight_106 : decode cX3_leastHeight 106 = .ok (.ireturn, 1) := by decide +kernel
theorem dX3_leastHeightForAll_0 : decode cX3_leastHeightForAll 0 = .ok (.iconst 1, 1) := by decide +kernel
theorem dX3_leastHeightForAll_1 : decode cX3_leastHeightForAll 1 = .ok (.istore_n 3, 1) := by decide +kernel
theorem dX3_leastHeightForAll_2 : decode cX3_leastHeightForAll 2 = .ok (.iconst 0, 1) := by decide +kernel
theorem dX3_leastHeightForAll_3 : decode cX3_leastHeightForAll 3 = .ok (.istore 4, 2) := by decide +kernel
theorem dX3_leastHeightForAll_5 : decode cX3_leastHeightForAll 5 = .ok (.iload 4, 2) := by decide +kernel
theorem dX3_leastHeightForAll_7 : decode cX3_leastHeightForAll 7 = .ok (.aload_n 0, 1) := by decide +kernel
theorem dX3_leastHeightForAll_8 : decode cX3_leastHeightForAll 8 = .ok (.getfield 33, 3) := by decide +kernel
theorem dX3_leastHeightForAll_11 : decode cX3_leastHeightForAll 11 = .ok (.if_icmp .ge 42, 3) := by decide +kernel
theorem dX3_leastHeightForAll_14 : decode cX3_leastHeightForAll 14 = .ok (.iload_n 2, 1) := by decide +kernel
theorem dX3_leastHeightForAll_15 : decode cX3_leastHeightForAll 15 = .ok (.iload 4, 2) := by decide +kernel
theorem dX3_leastHeightForAll_17 : decode cX3_leastHeightForAll 17 = .ok (.ishr, 1) := by decide +kernel
theorem dX3_leastHeightForAll_18 : decode cX3_leastHeightForAll 18 = .ok (.iconst 1, 1) := by decide +kernel
theorem dX3_leastHeightForAll_19 : decode cX3_leastHeightForAll 19 = .ok (.iand, 1) := by decide +kernel
theorem dX3_leastHeightForAll_20 : decode cX3_leastHeightForAll 20 = .ok (.ifCond .eq 27, 3) := by decide +kernel
theorem dX3_leastHeightForAll_23 : decode cX3_leastHeightForAll 23 = .ok (.aload_n 0, 1) := by decide +kernel
theorem dX3_leastHeightForAll_24 : decode cX3_leastHeightForAll 24 = .ok (.iload_n 1, 1) := by decide +kernel
theorem dX3_leastHeightForAll_25 : decode cX3_leastHeightForAll 25 = .ok (.iload 4, 2) := by decide +kernel
theorem dX3_leastHeightForAll_27 : decode cX3_leastHeightForAll 27 = .ok (.invokevirtual 103, 3) := by decide +kernel
theorem dX3_leastHeightForAll_30 : decode cX3_leastHeightForAll 30 = .ok (.istore 5, 2) := by decide +kernel
theorem dX3_leastHeightForAll_32 : decode cX3_leastHeightForAll 32 = .ok (.iload 5, 2) := by decide +kernel
theorem dX3_leastHeightForAll_34 : decode cX3_leastHeightForAll 34 = .ok (.iconst (-1), 1) := by decide +kernel
theorem dX3_leastHeightForAll_35 : decode cX3_leastHeightForAll 35 = .ok (.if_icmp .ne 5, 3) := by decide +kernel
theorem dX3_leastHeightForAll_38 : decode cX3_leastHeightForAll 38 = .ok (.iconst (-1), 1) := by decide +kernel
theorem dX3_leastHeightForAll_39 : decode cX3_leastHeightForAll 39 = .ok (.ireturn, 1) := by decide +kernel
theorem dX3_leastHeightForAll_40 : decode cX3_leastHeightForAll 40 = .ok (.iload_n 3, 1) := by decide +kernel
theorem dX3_leastHeightForAll_41 : decode cX3_leastHeightForAll 41 = .ok (.iload 5, 2) := by decide +kernel
theorem dX3_leastHeightForAll_43 : decode cX3_leastHeightForAll 43 = .ok (.invokestatic 86, 3) := by decide +kernel
theorem dX3_leastHeightForAll_46 : decode cX3_leastHeightForAll 46 = .ok (.istore_n 3, 1) := by decide +kernel
theorem dX3_leastHeightForAll_47 : decode cX3_leastHeightForAll 47 = .ok (.iinc 4 1, 3) := by decide +kernel
theorem dX3_leastHeightForAll_50 : decode cX3_leastHeightForAll 50 = .ok (.goto (-45), 3) := by decide +kernel
theorem dX3_leastHeightForAll_53 : decode cX3_leastHeightForAll 53 = .ok (.iload_n 3, 1) := by decide +kernel
theorem dX3_leastHeightForAll_54 : decode cX3_leastHeightForAll 54 = .ok (.ireturn, 1) := by decide +kernel
theorem dX3_target_0 : decode cX3_target 0 = .ok (.iload_n 1, 1) := by decide +kernel
theorem dX3_target_1 : decode cX3_target 1 = .ok (.istore 4, 2) := by decide +kernel
theorem dX3_target_3 : decode cX3_target 3 = .ok (.lload_n 2, 1) := by decide +kernel
theorem dX3_target_4 : decode cX3_target 4 = .ok (.lconst 1, 1) := by decide +kernel
theorem dX3_target_5 : decode cX3_target 5 = .ok (.lcmp, 1) := by decide +kernel
theorem dX3_target_6 : decode cX3_target 6 = .ok (.ifCond .ne 11, 3) := by decide +kernel
theorem dX3_target_9 : decode cX3_target 9 = .ok (.iload_n 1, 1) := by decide +kernel
theorem dX3_target_10 : decode cX3_target 10 = .ok (.iconst 1, 1) := by decide +kernel
theorem dX3_target_11 : decode cX3_target 11 = .ok (.isub, 1) := by decide +kernel
theorem dX3_target_12 : decode cX3_target 12 = .ok (.istore 4, 2) := by decide +kernel
theorem dX3_target_14 : decode cX3_target 14 = .ok (.goto 27, 3) := by decide +kernel
theorem dX3_target_17 : decode cX3_target 17 = .ok (.lload_n 2, 1) := by decide +kernel
theorem dX3_target_18 : decode cX3_target 18 = .ok (.ldc2_w 106, 3) := by decide +kernel
theorem dX3_target_21 : decode cX3_target 21 = .ok (.lcmp, 1) := by decide +kernel
theorem dX3_target_22 : decode cX3_target 22 = .ok (.ifCond .ne 11, 3) := by decide +kernel
theorem dX3_target_25 : decode cX3_target 25 = .ok (.iload_n 1, 1) := by decide +kernel
theorem dX3_target_26 : decode cX3_target 26 = .ok (.iconst 1, 1) := by decide +kernel
theorem dX3_target_27 : decode cX3_target 27 = .ok (.iadd, 1) := by decide +kernel
theorem dX3_target_28 : decode cX3_target 28 = .ok (.istore 4, 2) := by decide +kernel
theorem dX3_target_30 : decode cX3_target 30 = .ok (.goto 11, 3) := by decide +kernel
theorem dX3_target_33 : decode cX3_target 33 = .ok (.lload_n 2, 1) := by decide +kernel
theorem dX3_target_34 : decode cX3_target 34 = .ok (.lconst 0, 1) := by decide +kernel
theorem dX3_target_35 : decode cX3_target 35 = .ok (.lcmp, 1) := by decide +kernel
theorem dX3_target_36 : decode cX3_target 36 = .ok (.ifCond .eq 5, 3) := by decide +kernel
theorem dX3_target_39 : decode cX3_target 39 = .ok (.iconst (-1), 1) := by decide +kernel
theorem dX3_target_40 : decode cX3_target 40 = .ok (.ireturn, 1) := by decide +kernel
theorem dX3_target_41 : decode cX3_target 41 = .ok (.aload_n 0, 1) := by decide +kernel
theorem dX3_target_42 : decode cX3_target 42 = .ok (.iload 4, 2) := by decide +kernel
theorem dX3_target_44 : decode cX3_target 44 = .ok (.invokevirtual 108, 3) := by decide +kernel
theorem dX3_target_47 : decode cX3_target 47 = .ok (.ifCond .eq 8, 3) := by decide +kernel
theorem dX3_target_50 : decode cX3_target 50 = .ok (.iload 4, 2) := by decide +kernel
theorem dX3_target_52 : decode cX3_target 52 = .ok (.goto 4, 3) := by decide +kernel
theorem dX3_target_55 : decode cX3_target 55 = .ok (.iconst (-1), 1) := by decide +kernel
theorem dX3_target_56 : decode cX3_target 56 = .ok (.ireturn, 1) := by decide +kernel
theorem dX3_whyNot_0 : decode cX3_whyNot 0 = .ok (.aload_n 0, 1) := by decide +kernel
theorem dX3_whyNot_1 : decode cX3_whyNot 1 = .ok (.aload_n 0, 1) := by decide +kernel
theorem dX3_whyNot_2 : decode cX3_whyNot 2 = .ok (.getfield 43, 3) := by decide +kernel
theorem dX3_whyNot_5 : decode cX3_whyNot 5 = .ok (.lload_n 1, 1) := by decide +kernel
theorem dX3_whyNot_6 : decode cX3_whyNot 6 = .ok (.invokevirtual 112, 3) := by decide +kernel
theorem dX3_whyNot_9 : decode cX3_whyNot 9 = .ok (.iconst (-1), 1) := by decide +kernel
theorem dX3_whyNot_10 : decode cX3_whyNot 10 = .ok (.if_icmp .ne 5, 3) := by decide +kernel
theorem dX3_whyNot_13 : decode cX3_whyNot 13 = .ok (.iconst 1, 1) := by decide +kernel
theorem dX3_whyNot_14 : decode cX3_whyNot 14 = .ok (.ireturn, 1) := by decide +kernel
theorem dX3_whyNot_15 : decode cX3_whyNot 15 = .ok (.aload_n 0, 1) := by decide +kernel
theorem dX3_whyNot_16 : decode cX3_whyNot 16 = .ok (.getfield 55, 3) := by decide +kernel
theorem dX3_whyNot_19 : decode cX3_whyNot 19 = .ok (.ifCond .ne 5, 3) := by decide +kernel
theorem dX3_whyNot_22 : decode cX3_whyNot 22 = .ok (.iconst 2, 1) := by decide +kernel
theorem dX3_whyNot_23 : decode cX3_whyNot 23 = .ok (.ireturn, 1) := by decide +kernel
theorem dX3_whyNot_24 : decode cX3_whyNot 24 = .ok (.aload_n 0, 1) := by decide +kernel
theorem dX3_whyNot_25 : decode cX3_whyNot 25 = .ok (.getfield 40, 3) := by decide +kernel
theorem dX3_whyNot_28 : decode cX3_whyNot 28 = .ok (.sipush 9999, 3) := by decide +kernel
theorem dX3_whyNot_31 : decode cX3_whyNot 31 = .ok (.if_icmp .lt 7, 3) := by decide +kernel
theorem dX3_whyNot_34 : decode cX3_whyNot 34 = .ok (.iconst 3, 1) := by decide +kernel
theorem dX3_whyNot_35 : decode cX3_whyNot 35 = .ok (.goto 4, 3) := by decide +kernel
theorem dX3_whyNot_38 : decode cX3_whyNot 38 = .ok (.iconst 0, 1) := by decide +kernel
theorem dX3_whyNot_39 : decode cX3_whyNot 39 = .ok (.ireturn, 1) := by decide +kernel
theorem dX3_pass_0 : decode cX3_pass 0 = .ok (.aload_n 0, 1) := by decide +kernel
theorem dX3_pass_1 : decode cX3_pass 1 = .ok (.iload_n 1, 1) := by decide +kernel
theorem dX3_pass_2 : decode cX3_pass 2 = .ok (.putfield 43, 3) := by decide +kernel
theorem dX3_pass_5 : decode cX3_pass 5 = .ok (.aload_n 0, 1) := by decide +kernel
theorem dX3_pass_6 : decode cX3_pass 6 = .ok (.dup, 1) := by decide +kernel
theorem dX3_pass_7 : decode cX3_pass 7 = .ok (.getfield 55, 3) := by decide +kernel
theorem dX3_pass_10 : decode cX3_pass 10 = .ok (.iconst 1, 1) := by decide +kernel
theorem dX3_pass_11 : decode cX3_pass 11 = .ok (.isub, 1) := by decide +kernel
theorem dX3_pass_12 : decode cX3_pass 12 = .ok (.putfield 55, 3) := by decide +kernel
theorem dX3_pass_15 : decode cX3_pass 15 = .ok (.aload_n 0, 1) := by decide +kernel
theorem dX3_pass_16 : decode cX3_pass 16 = .ok (.dup, 1) := by decide +kernel
theorem dX3_pass_17 : decode cX3_pass 17 = .ok (.getfield 40, 3) := by decide +kernel
theorem dX3_pass_20 : decode cX3_pass 20 = .ok (.iconst 1, 1) := by decide +kernel
theorem dX3_pass_21 : decode cX3_pass 21 = .ok (.iadd, 1) := by decide +kernel
theorem dX3_pass_22 : decode cX3_pass 22 = .ok (.putfield 40, 3) := by decide +kernel
theorem dX3_pass_25 : decode cX3_pass 25 = .ok (.iconst 0, 1) := by decide +kernel
theorem dX3_pass_26 : decode cX3_pass 26 = .ok (.istore_n 3, 1) := by decide +kernel
theorem dX3_pass_27 : decode cX3_pass 27 = .ok (.iconst 0, 1) := by decide +kernel
theorem dX3_pass_28 : decode cX3_pass 28 = .ok (.istore 4, 2) := by decide +kernel
theorem dX3_pass_30 : decode cX3_pass 30 = .ok (.iload_n 2, 1) := by decide +kernel
theorem dX3_pass_31 : decode cX3_pass 31 = .ok (.ifCond .eq 76, 3) := by decide +kernel
theorem dX3_pass_34 : decode cX3_pass 34 = .ok (.iload 4, 2) := by decide +kernel
theorem dX3_pass_36 : decode cX3_pass 36 = .ok (.aload_n 0, 1) := by decide +kernel
theorem dX3_pass_37 : decode cX3_pass 37 = .ok (.getfield 33, 3) := by decide +kernel
theorem dX3_pass_40 : decode cX3_pass 40 = .ok (.if_icmp .ge 67, 3) := by decide +kernel
theorem dX3_pass_43 : decode cX3_pass 43 = .ok (.aload_n 0, 1) := by decide +kernel
theorem dX3_pass_44 : decode cX3_pass 44 = .ok (.getfield 15, 3) := by decide +kernel
theorem dX3_pass_47 : decode cX3_pass 47 = .ok (.iload 4, 2) := by decide +kernel
theorem dX3_pass_49 : decode cX3_pass 49 = .ok (.iaload, 1) := by decide +kernel
theorem dX3_pass_50 : decode cX3_pass 50 = .ok (.aload_n 0, 1) := by decide +kernel
theorem dX3_pass_51 : decode cX3_pass 51 = .ok (.getfield 9, 3) := by decide +kernel
theorem dX3_pass_54 : decode cX3_pass 54 = .ok (.iload 4, 2) := by decide +kernel
theorem dX3_pass_56 : decode cX3_pass 56 = .ok (.iaload, 1) := by decide +kernel
theorem dX3_pass_57 : decode cX3_pass 57 = .ok (.invokestatic 90, 3) := by decide +kernel
theorem dX3_pass_60 : decode cX3_pass 60 = .ok (.aload_n 0, 1) := by decide +kernel
theorem dX3_pass_61 : decode cX3_pass 61 = .ok (.iload_n 1, 1) := by decide +kernel
theorem dX3_pass_62 : decode cX3_pass 62 = .ok (.iload 4, 2) := by decide +kernel
theorem dX3_pass_64 : decode cX3_pass 64 = .ok (.invokevirtual 100, 3) := by decide +kernel
theorem dX3_pass_67 : decode cX3_pass 67 = .ok (.invokestatic 90, 3) := by decide +kernel
theorem dX3_pass_70 : decode cX3_pass 70 = .ok (.istore 5, 2) := by decide +kernel
theorem dX3_pass_72 : decode cX3_pass 72 = .ok (.aload_n 0, 1) := by decide +kernel
theorem dX3_pass_73 : decode cX3_pass 73 = .ok (.getfield 9, 3) := by decide +kernel
theorem dX3_pass_76 : decode cX3_pass 76 = .ok (.iload 4, 2) := by decide +kernel
theorem dX3_pass_78 : decode cX3_pass 78 = .ok (.dup2, 1) := by decide +kernel
theorem dX3_pass_79 : decode cX3_pass 79 = .ok (.iaload, 1) := by decide +kernel
theorem dX3_pass_80 : decode cX3_pass 80 = .ok (.iload 5, 2) := by decide +kernel
theorem dX3_pass_82 : decode cX3_pass 82 = .ok (.isub, 1) := by decide +kernel
theorem dX3_pass_83 : decode cX3_pass 83 = .ok (.iastore, 1) := by decide +kernel
theorem dX3_pass_84 : decode cX3_pass 84 = .ok (.aload_n 0, 1) := by decide +kernel
theorem dX3_pass_85 : decode cX3_pass 85 = .ok (.getfield 24, 3) := by decide +kernel
theorem dX3_pass_88 : decode cX3_pass 88 = .ok (.iload 4, 2) := by decide +kernel
theorem dX3_pass_90 : decode cX3_pass 90 = .ok (.dup2, 1) := by decide +kernel
theorem dX3_pass_91 : decode cX3_pass 91 = .ok (.iaload, 1) := by decide +kernel
theorem dX3_pass_92 : decode cX3_pass 92 = .ok (.iload 5, 2) := by decide +kernel
theorem dX3_pass_94 : decode cX3_pass 94 = .ok (.iadd, 1) := by decide +kernel
theorem dX3_pass_95 : decode cX3_pass 95 = .ok (.iastore, 1) := by decide +kernel
theorem dX3_pass_96 : decode cX3_pass 96 = .ok (.iload_n 3, 1) := by decide +kernel
theorem dX3_pass_97 : decode cX3_pass 97 = .ok (.iload 5, 2) := by decide +kernel
theorem dX3_pass_99 : decode cX3_pass 99 = .ok (.iadd, 1) := by decide +kernel
theorem dX3_pass_100 : decode cX3_pass 100 = .ok (.istore_n 3, 1) := by decide +kernel
theorem dX3_pass_101 : decode cX3_pass 101 = .ok (.iinc 4 1, 3) := by decide +kernel
theorem dX3_pass_104 : decode cX3_pass 104 = .ok (.goto (-74), 3) := by decide +kernel
theorem dX3_pass_107 : decode cX3_pass 107 = .ok (.iload_n 3, 1) := by decide +kernel
theorem dX3_pass_108 : decode cX3_pass 108 = .ok (.ireturn, 1) := by decide +kernel
theorem dX3_passAll_0 : decode cX3_passAll 0 = .ok (.iconst 0, 1) := by decide +kernel
theorem dX3_passAll_1 : decode cX3_passAll 1 = .ok (.istore_n 2, 1) := by decide +kernel
theorem dX3_passAll_2 : decode cX3_passAll 2 = .ok (.iload_n 2, 1) := by decide +kernel
theorem dX3_passAll_3 : decode cX3_passAll 3 = .ok (.aload_n 1, 1) := by decide +kernel
theorem dX3_passAll_4 : decode cX3_passAll 4 = .ok (.getfield 116, 3) := by decide +kernel
theorem dX3_passAll_7 : decode cX3_passAll 7 = .ok (.if_icmp .ge 40, 3) := by decide +kernel
theorem dX3_passAll_10 : decode cX3_passAll 10 = .ok (.aload_n 1, 1) := by decide +kernel
theorem dX3_passAll_11 : decode cX3_passAll 11 = .ok (.iload_n 2, 1) := by decide +kernel
theorem dX3_passAll_12 : decode cX3_passAll 12 = .ok (.invokevirtual 121, 3) := by decide +kernel
theorem dX3_passAll_15 : decode cX3_passAll 15 = .ok (.lstore_n 3, 1) := by decide +kernel
theorem dX3_passAll_16 : decode cX3_passAll 16 = .ok (.aload_n 0, 1) := by decide +kernel
theorem dX3_passAll_17 : decode cX3_passAll 17 = .ok (.lload_n 3, 1) := by decide +kernel
theorem dX3_passAll_18 : decode cX3_passAll 18 = .ok (.invokevirtual 125, 3) := by decide +kernel
theorem dX3_passAll_21 : decode cX3_passAll 21 = .ok (.ifCond .eq 5, 3) := by decide +kernel
theorem dX3_passAll_24 : decode cX3_passAll 24 = .ok (.iload_n 2, 1) := by decide +kernel
theorem dX3_passAll_25 : decode cX3_passAll 25 = .ok (.ireturn, 1) := by decide +kernel
theorem dX3_passAll_26 : decode cX3_passAll 26 = .ok (.aload_n 0, 1) := by decide +kernel
theorem dX3_passAll_27 : decode cX3_passAll 27 = .ok (.aload_n 0, 1) := by decide +kernel
theorem dX3_passAll_28 : decode cX3_passAll 28 = .ok (.aload_n 0, 1) := by decide +kernel
theorem dX3_passAll_29 : decode cX3_passAll 29 = .ok (.getfield 43, 3) := by decide +kernel
theorem dX3_passAll_32 : decode cX3_passAll 32 = .ok (.lload_n 3, 1) := by decide +kernel
theorem dX3_passAll_33 : decode cX3_passAll 33 = .ok (.invokevirtual 112, 3) := by decide +kernel
theorem dX3_passAll_36 : decode cX3_passAll 36 = .ok (.iconst 1, 1) := by decide +kernel
