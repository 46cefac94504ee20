theorem dX3_litFrom_0 : decode cX3_litFrom 0 = .ok (.iconst 0, 1) := by decide +kernel
theorem dX3_litFrom_1 : decode cX3_litFrom 1 = .ok (.istore_n 2, 1) := by decide +kernel
theorem dX3_litFrom_2 : decode cX3_litFrom 2 = .ok (.iconst 0, 1) := by decide +kernel
theorem dX3_litFrom_3 : decode cX3_litFrom 3 = .ok (.istore_n 3, 1) := by decide +kernel
theorem dX3_litFrom_4 : decode cX3_litFrom 4 = .ok (.iload_n 3, 1) := by decide +kernel
theorem dX3_litFrom_5 : decode cX3_litFrom 5 = .ok (.aload_n 0, 1) := by decide +kernel
theorem dX3_litFrom_6 : decode cX3_litFrom 6 = .ok (.getfield 33, 3) := by decide +kernel
theorem dX3_litFrom_9 : decode cX3_litFrom 9 = .ok (.if_icmp .ge 24, 3) := by decide +kernel
theorem dX3_litFrom_12 : decode cX3_litFrom 12 = .ok (.aload_n 0, 1) := by decide +kernel
theorem dX3_litFrom_13 : decode cX3_litFrom 13 = .ok (.iload_n 1, 1) := by decide +kernel
theorem dX3_litFrom_14 : decode cX3_litFrom 14 = .ok (.iload_n 3, 1) := by decide +kernel
theorem dX3_litFrom_15 : decode cX3_litFrom 15 = .ok (.invokevirtual 100, 3) := by decide +kernel
theorem dX3_litFrom_18 : decode cX3_litFrom 18 = .ok (.ifCond .le 9, 3) := by decide +kernel
theorem dX3_litFrom_21 : decode cX3_litFrom 21 = .ok (.iload_n 2, 1) := by decide +kernel
theorem dX3_litFrom_22 : decode cX3_litFrom 22 = .ok (.iconst 1, 1) := by decide +kernel
theorem dX3_litFrom_23 : decode cX3_litFrom 23 = .ok (.iload_n 3, 1) := by decide +kernel
theorem dX3_litFrom_24 : decode cX3_litFrom 24 = .ok (.ishl, 1) := by decide +kernel
theorem dX3_litFrom_25 : decode cX3_litFrom 25 = .ok (.ior, 1) := by decide +kernel
theorem dX3_litFrom_26 : decode cX3_litFrom 26 = .ok (.istore_n 2, 1) := by decide +kernel
theorem dX3_litFrom_27 : decode cX3_litFrom 27 = .ok (.iinc 3 1, 3) := by decide +kernel
theorem dX3_litFrom_30 : decode cX3_litFrom 30 = .ok (.goto (-26), 3) := by decide +kernel
theorem dX3_litFrom_33 : decode cX3_litFrom 33 = .ok (.iload_n 2, 1) := by decide +kernel
theorem dX3_litFrom_34 : decode cX3_litFrom 34 = .ok (.ireturn, 1) := by decide +kernel
theorem dX3_shadedFrom_0 : decode cX3_shadedFrom 0 = .ok (.iconst 0, 1) := by decide +kernel
theorem dX3_shadedFrom_1 : decode cX3_shadedFrom 1 = .ok (.istore_n 2, 1) := by decide +kernel
theorem dX3_shadedFrom_2 : decode cX3_shadedFrom 2 = .ok (.iconst 0, 1) := by decide +kernel
theorem dX3_shadedFrom_3 : decode cX3_shadedFrom 3 = .ok (.istore_n 3, 1) := by decide +kernel
theorem dX3_shadedFrom_4 : decode cX3_shadedFrom 4 = .ok (.iload_n 3, 1) := by decide +kernel
theorem dX3_shadedFrom_5 : decode cX3_shadedFrom 5 = .ok (.aload_n 0, 1) := by decide +kernel
theorem dX3_shadedFrom_6 : decode cX3_shadedFrom 6 = .ok (.getfield 33, 3) := by decide +kernel
theorem dX3_shadedFrom_9 : decode cX3_shadedFrom 9 = .ok (.if_icmp .ge 33, 3) := by decide +kernel
theorem dX3_shadedFrom_12 : decode cX3_shadedFrom 12 = .ok (.aload_n 0, 1) := by decide +kernel
theorem dX3_shadedFrom_13 : decode cX3_shadedFrom 13 = .ok (.iload_n 1, 1) := by decide +kernel
theorem dX3_shadedFrom_14 : decode cX3_shadedFrom 14 = .ok (.iload_n 3, 1) := by decide +kernel
theorem dX3_shadedFrom_15 : decode cX3_shadedFrom 15 = .ok (.invokevirtual 93, 3) := by decide +kernel
theorem dX3_shadedFrom_18 : decode cX3_shadedFrom 18 = .ok (.ifCond .le 18, 3) := by decide +kernel
theorem dX3_shadedFrom_21 : decode cX3_shadedFrom 21 = .ok (.aload_n 0, 1) := by decide +kernel
theorem dX3_shadedFrom_22 : decode cX3_shadedFrom 22 = .ok (.iload_n 1, 1) := by decide +kernel
theorem dX3_shadedFrom_23 : decode cX3_shadedFrom 23 = .ok (.iload_n 3, 1) := by decide +kernel
theorem dX3_shadedFrom_24 : decode cX3_shadedFrom 24 = .ok (.invokevirtual 96, 3) := by decide +kernel
theorem dX3_shadedFrom_27 : decode cX3_shadedFrom 27 = .ok (.ifCond .eq 9, 3) := by decide +kernel
theorem dX3_shadedFrom_30 : decode cX3_shadedFrom 30 = .ok (.iload_n 2, 1) := by decide +kernel
theorem dX3_shadedFrom_31 : decode cX3_shadedFrom 31 = .ok (.iconst 1, 1) := by decide +kernel
theorem dX3_shadedFrom_32 : decode cX3_shadedFrom 32 = .ok (.iload_n 3, 1) := by decide +kernel
theorem dX3_shadedFrom_33 : decode cX3_shadedFrom 33 = .ok (.ishl, 1) := by decide +kernel
theorem dX3_shadedFrom_34 : decode cX3_shadedFrom 34 = .ok (.ior, 1) := by decide +kernel
theorem dX3_shadedFrom_35 : decode cX3_shadedFrom 35 = .ok (.istore_n 2, 1) := by decide +kernel
theorem dX3_shadedFrom_36 : decode cX3_shadedFrom 36 = .ok (.iinc 3 1, 3) := by decide +kernel
theorem dX3_shadedFrom_39 : decode cX3_shadedFrom 39 = .ok (.goto (-35), 3) := by decide +kernel
theorem dX3_shadedFrom_42 : decode cX3_shadedFrom 42 = .ok (.iload_n 2, 1) := by decide +kernel
theorem dX3_shadedFrom_43 : decode cX3_shadedFrom 43 = .ok (.ireturn, 1) := by decide +kernel
theorem dX3_leastHeight_0 : decode cX3_leastHeight 0 = .ok (.aload_n 0, 1) := by decide +kernel
theorem dX3_leastHeight_1 : decode cX3_leastHeight 1 = .ok (.iload_n 1, 1) := by decide +kernel
theorem dX3_leastHeight_2 : decode cX3_leastHeight 2 = .ok (.iload_n 2, 1) := by decide +kernel
theorem dX3_leastHeight_3 : decode cX3_leastHeight 3 = .ok (.invokevirtual 93, 3) := by decide +kernel
theorem dX3_leastHeight_6 : decode cX3_leastHeight 6 = .ok (.ifCond .ne 5, 3) := by decide +kernel
theorem dX3_leastHeight_9 : decode cX3_leastHeight 9 = .ok (.iconst (-1), 1) := by decide +kernel
theorem dX3_leastHeight_10 : decode cX3_leastHeight 10 = .ok (.ireturn, 1) := by decide +kernel
theorem dX3_leastHeight_11 : decode cX3_leastHeight 11 = .ok (.iconst 1, 1) := by decide +kernel
theorem dX3_leastHeight_12 : decode cX3_leastHeight 12 = .ok (.istore_n 3, 1) := by decide +kernel
theorem dX3_leastHeight_13 : decode cX3_leastHeight 13 = .ok (.iload_n 1, 1) := by decide +kernel
theorem dX3_leastHeight_14 : decode cX3_leastHeight 14 = .ok (.iload_n 2, 1) := by decide +kernel
theorem dX3_leastHeight_15 : decode cX3_leastHeight 15 = .ok (.isub, 1) := by decide +kernel
theorem dX3_leastHeight_16 : decode cX3_leastHeight 16 = .ok (.invokestatic 80, 3) := by decide +kernel
theorem dX3_leastHeight_19 : decode cX3_leastHeight 19 = .ok (.istore 4, 2) := by decide +kernel
theorem dX3_leastHeight_21 : decode cX3_leastHeight 21 = .ok (.iload_n 1, 1) := by decide +kernel
theorem dX3_leastHeight_22 : decode cX3_leastHeight 22 = .ok (.iload_n 2, 1) := by decide +kernel
theorem dX3_leastHeight_23 : decode cX3_leastHeight 23 = .ok (.invokestatic 86, 3) := by decide +kernel
theorem dX3_leastHeight_26 : decode cX3_leastHeight 26 = .ok (.istore 5, 2) := by decide +kernel
theorem dX3_leastHeight_28 : decode cX3_leastHeight 28 = .ok (.iload_n 1, 1) := by decide +kernel
theorem dX3_leastHeight_29 : decode cX3_leastHeight 29 = .ok (.iload_n 2, 1) := by decide +kernel
theorem dX3_leastHeight_30 : decode cX3_leastHeight 30 = .ok (.invokestatic 90, 3) := by decide +kernel
theorem dX3_leastHeight_33 : decode cX3_leastHeight 33 = .ok (.iconst 1, 1) := by decide +kernel
theorem dX3_leastHeight_34 : decode cX3_leastHeight 34 = .ok (.iadd, 1) := by decide +kernel
theorem dX3_leastHeight_35 : decode cX3_leastHeight 35 = .ok (.istore 6, 2) := by decide +kernel
theorem dX3_leastHeight_37 : decode cX3_leastHeight 37 = .ok (.iload 6, 2) := by decide +kernel
theorem dX3_leastHeight_39 : decode cX3_leastHeight 39 = .ok (.iload 5, 2) := by decide +kernel
theorem dX3_leastHeight_41 : decode cX3_leastHeight 41 = .ok (.if_icmp .ge 54, 3) := by decide +kernel
theorem dX3_leastHeight_44 : decode cX3_leastHeight 44 = .ok (.iload 6, 2) := by decide +kernel
theorem dX3_leastHeight_46 : decode cX3_leastHeight 46 = .ok (.iload_n 2, 1) := by decide +kernel
theorem dX3_leastHeight_47 : decode cX3_leastHeight 47 = .ok (.isub, 1) := by decide +kernel
theorem dX3_leastHeight_48 : decode cX3_leastHeight 48 = .ok (.invokestatic 80, 3) := by decide +kernel
theorem dX3_leastHeight_51 : decode cX3_leastHeight 51 = .ok (.istore 7, 2) := by decide +kernel
theorem dX3_leastHeight_53 : decode cX3_leastHeight 53 = .ok (.iload 7, 2) := by decide +kernel
theorem dX3_leastHeight_55 : decode cX3_leastHeight 55 = .ok (.ifCond .le 24, 3) := by decide +kernel
theorem dX3_leastHeight_58 : decode cX3_leastHeight 58 = .ok (.aload_n 0, 1) := by decide +kernel
theorem dX3_leastHeight_59 : decode cX3_leastHeight 59 = .ok (.getfield 18, 3) := by decide +kernel
theorem dX3_leastHeight_62 : decode cX3_leastHeight 62 = .ok (.iload 6, 2) := by decide +kernel
theorem dX3_leastHeight_64 : decode cX3_leastHeight 64 = .ok (.iaload, 1) := by decide +kernel
theorem dX3_leastHeight_65 : decode cX3_leastHeight 65 = .ok (.iload 4, 2) := by decide +kernel
theorem dX3_leastHeight_67 : decode cX3_leastHeight 67 = .ok (.imul, 1) := by decide +kernel
theorem dX3_leastHeight_68 : decode cX3_leastHeight 68 = .ok (.iload 7, 2) := by decide +kernel
theorem dX3_leastHeight_70 : decode cX3_leastHeight 70 = .ok (.iadd, 1) := by decide +kernel
theorem dX3_leastHeight_71 : decode cX3_leastHeight 71 = .ok (.iconst 1, 1) := by decide +kernel
theorem dX3_leastHeight_72 : decode cX3_leastHeight 72 = .ok (.isub, 1) := by decide +kernel
theorem dX3_leastHeight_73 : decode cX3_leastHeight 73 = .ok (.iload 7, 2) := by decide +kernel
theorem dX3_leastHeight_75 : decode cX3_leastHeight 75 = .ok (.idiv, 1) := by decide +kernel
theorem dX3_leastHeight_76 : decode cX3_leastHeight 76 = .ok (.goto 4, 3) := by decide +kernel
theorem dX3_leastHeight_79 : decode cX3_leastHeight 79 = .ok (.iconst 0, 1) := by decide +kernel
theorem dX3_leastHeight_80 : decode cX3_leastHeight 80 = .ok (.istore 8, 2) := by decide +kernel
theorem dX3_leastHeight_82 : decode cX3_leastHeight 82 = .ok (.iload_n 3, 1) := by decide +kernel
theorem dX3_leastHeight_83 : decode cX3_leastHeight 83 = .ok (.iload 8, 2) := by decide +kernel
theorem dX3_leastHeight_85 : decode cX3_leastHeight 85 = .ok (.invokestatic 86, 3) := by decide +kernel
theorem dX3_leastHeight_88 : decode cX3_leastHeight 88 = .ok (.istore_n 3, 1) := by decide +kernel
theorem dX3_leastHeight_89 : decode cX3_leastHeight 89 = .ok (.iinc 6 1, 3) := by decide +kernel
theorem dX3_leastHeight_92 : decode cX3_leastHeight 92 = .ok (.goto (-55), 3) := by decide +kernel
theorem dX3_leastHeight_95 : decode cX3_leastHeight 95 = .ok (.iload_n 3, 1) := by decide +kernel
theorem dX3_leastHeight_96 : decode cX3_leastHeight 96 = .ok (.bipush 99, 2) := by decide +kernel
theorem dX3_leastHeight_98 : decode cX3_leastHeight 98 = .ok (.if_icmp .le 7, 3) := by decide +kernel
theorem dX3_leastHeight_101 : decode cX3_leastHeight 101 = .ok (.iconst (-1), 1) := by decide +kernel
theorem dX3_leastHeight_102 : decode cX3_leastHeight 102 = .ok (.goto 4, 3) := by decide +kernel
theorem dX3_leastHeight_105 : decode cX3_leastHeight 105 = .ok (.iload_n 3, 1) := by decide +kernel
theorem dX3_leastHeight_106 : decode cX3_leastHeight 106 = .ok (.ireturn, 1) := by decide +kernel
theorem dX3_leastHeightForAll_0 : decode cX3_leastHeightForAll 0 = .ok (.iconst 1, 1) := by decide +kernel
theorem dX3_leastHeightForAll_1 : decode cX3_leastHeightForAll 1 = .ok (.istore_n 3, 1) := by decide +kernel
theorem dX3_leastHeightForAll_2 : decode cX3_leastHeightForAll 2 = .ok (.iconst 0, 1) := by decide +kernel
theorem dX3_leastHeightForAll_3 : decode cX3_leastHeightForAll 3 = .ok (.istore 4, 2) := by decide +kernel
theorem dX3_leastHeightForAll_5 : decode cX3_leastHeightForAll 5 = .ok (.iload 4, 2) := by decide +kernel
theorem dX3_leastHeightForAll_7 : decode cX3_leastHeightForAll 7 = .ok (.aload_n 0, 1) := by decide +kernel
theorem dX3_leastHeightForAll_8 : decode cX3_leastHeightForAll 8 = .ok (.getfield 33, 3) := by decide +kernel
theorem dX3_leastHeightForAll_11 : decode cX3_leastHeightForAll 11 = .ok (.if_icmp .ge 42, 3) := by decide +kernel
theorem dX3_leastHeightForAll_14 : decode cX3_leastHeightForAll 14 = .ok (.iload_n 2, 1) := by decide +kernel
theorem dX3_leastHeightForAll_15 : decode cX3_leastHeightForAll 15 = .ok (.iload 4, 2) := by decide +kernel
theorem dX3_leastHeightForAll_17 : decode cX3_leastHeightForAll 17 = .ok (.ishr, 1) := by decide +kernel
theorem dX3_leastHeightForAll_18 : decode cX3_leastHeightForAll 18 = .ok (.iconst 1, 1) := by decide +kernel
theorem dX3_leastHeightForAll_19 : decode cX3_leastHeightForAll 19 = .ok (.iand, 1) := by decide +kernel
theorem dX3_leastHeightForAll_20 : decode cX3_leastHeightForAll 20 = .ok (.ifCond .eq 27, 3) := by decide +kernel
theorem dX3_leastHeightForAll_23 : decode cX3_leastHeightForAll 23 = .ok (.aload_n 0, 1) := by decide +kernel
theorem dX3_leastHeightForAll_24 : decode cX3_leastHeightForAll 24 = .ok (.iload_n 1, 1) := by decide +kernel
theorem dX3_leastHeightForAll_25 : decode cX3_leastHeightForAll 25 = .ok (.iload 4, 2) := by decide +kernel
theorem dX3_leastHeightForAll_27 : decode cX3_leastHeightForAll 27 = .ok (.invokevirtual 103, 3) := by decide +kernel
theorem dX3_leastHeightForAll_30 : decode cX3_leastHeightForAll 30 = .ok (.istore 5, 2) := by decide +kernel
theorem dX3_leastHeightForAll_32 : decode cX3_leastHeightForAll 32 = .ok (.iload 5, 2) := by decide +kernel
theorem dX3_leastHeightForAll_34 : decode cX3_leastHeightForAll 34 = .ok (.iconst (-1), 1) := by decide +kernel
theorem dX3_leastHeightForAll_35 : decode cX3_leastHeightForAll 35 = .ok (.if_icmp .ne 5, 3) := by decide +kernel
theorem dX3_leastHeightForAll_38 : decode cX3_leastHeightForAll 38 = .ok (.iconst (-1), 1) := by decide +kernel
theorem dX3_leastHeightForAll_39 : decode cX3_leastHeightForAll 39 = .ok (.ireturn, 1) := by decide +kernel
theorem dX3_leastHeightForAll_40 : decode cX3_leastHeightForAll 40 = .ok (.iload_n 3, 1) := by decide +kernel
theorem dX3_leastHeightForAll_41 : decode cX3_leastHeightForAll 41 = .ok (.iload 5, 2) := by decide +kernel
theorem dX3_leastHeightForAll_43 : decode cX3_leastHeightForAll 43 = .ok (.invokestatic 86, 3) := by decide +kernel
theorem dX3_leastHeightForAll_46 : decode cX3_leastHeightForAll 46 = .ok (.istore_n 3, 1) := by decide +kernel
theorem dX3_leastHeightForAll_47 : decode cX3_leastHeightForAll 47 = .ok (.iinc 4 1, 3) := by decide +kernel
theorem dX3_leastHeightForAll_50 : decode cX3_leastHeightForAll 50 = .ok (.goto (-45), 3) := by decide +kernel
theorem dX3_leastHeightForAll_53 : decode cX3_leastHeightForAll 53 = .ok (.iload_n 3, 1) := by decide +kernel
theorem dX3_leastHeightForAll_54 : decode cX3_leastHeightForAll 54 = .ok (.ireturn, 1) := by decide +kernel
theorem dX3_target_0 : decode cX3_target 0 = .ok (.iload_n 1, 1) := by decide +kernel
theorem dX3_target_1 : decode cX3_target 1 = .ok (.istore 4, 2) := by decide +kernel
theorem dX3_target_3 : decode cX3_target 3 = .ok (.lload_n 2, 1) := by decide +kernel
theorem dX3_target_4 : decode cX3_target 4 = .ok (.lconst 1, 1) := by decide +kernel
theorem dX3_target_5 : decode cX3_target 5 = .ok (.lcmp, 1) := by decide +kernel
theorem dX3_target_6 : decode cX3_target 6 = .ok (.ifCond .ne 11, 3) := by decide +kernel
theorem dX3_target_9 : decode cX3_target 9 = .ok (.iload_n 1, 1) := by decide +kernel
theorem dX3_target_10 : decode cX3_target 10 = .ok (.iconst 1, 1) := by decide +kernel
theorem dX3_target_11 : decode cX3_target 11 = .ok (.isub, 1) := by decide +kernel
theorem dX3_target_12 : decode cX3_target 12 = .ok (.istore 4, 2) := by decide +kernel
theorem dX3_target_14 : decode cX3_target 14 = .ok (.goto 27, 3) := by decide +kernel
theorem dX3_target_17 : decode cX3_target 17 = .ok (.lload_n 2, 1) := by decide +kernel
theorem dX3_target_18 : decode cX3_target 18 = .ok (.ldc2_w 106, 3) := by decide +kernel
theorem dX3_target_21 : decode cX3_target 21 = .ok (.lcmp, 1) := by decide +kernel
theorem dX3_target_22 : decode cX3_target 22 = .ok (.ifCond .ne 11, 3) := by decide +kernel
theorem dX3_target_25 : decode cX3_target 25 = .ok (.iload_n 1, 1) := by decide +kernel
theorem dX3_target_26 : decode cX3_target 26 = .ok (.iconst 1, 1) := by decide +kernel
theorem dX3_target_27 : decode cX3_target 27 = .ok (.iadd, 1) := by decide +kernel
theorem dX3_target_28 : decode cX3_target 28 = .ok (.istore 4, 2) := by decide +kernel
theorem dX3_target_30 : decode cX3_target 30 = .ok (.goto 11, 3) := by decide +kernel
theorem dX3_target_33 : decode cX3_target 33 = .ok (.lload_n 2, 1) := by decide +kernel
theorem dX3_target_34 : decode cX3_target 34 = .ok (.lconst 0, 1) := by decide +kernel
theorem dX3_target_35 : decode cX3_target 35 = .ok (.lcmp, 1) := by decide +kernel
theorem dX3_target_36 : decode cX3_target 36 = .ok (.ifCond .eq 5, 3) := by decide +kernel
theorem dX3_target_39 : decode cX3_target 39 = .ok (.iconst (-1), 1) := by decide +kernel
theorem dX3_target_40 : decode cX3_target 40 = .ok (.ireturn, 1) := by decide +kernel
theorem dX3_target_41 : decode cX3_target 41 = .ok (.aload_n 0, 1) := by decide +kernel
theorem dX3_target_42 : decode cX3_target 42 = .ok (.iload 4, 2) := by decide +kernel
theorem dX3_target_44 : decode cX3_target 44 = .ok (.invokevirtual 108, 3) := by decide +kernel
theorem dX3_target_47 : decode cX3_target 47 = .ok (.ifCond .eq 8, 3) := by decide +kernel
theorem dX3_target_50 : decode cX3_target 50 = .ok (.iload 4, 2) := by decide +kernel
theorem dX3_target_52 : decode cX3_target 52 = .ok (.goto 4, 3) := by decide +kernel
theorem dX3_target_55 : decode cX3_target 55 = .ok (.iconst (-1), 1) := by decide +kernel
theorem dX3_target_56 : decode cX3_target 56 = .ok (.ireturn, 1) := by decide +kernel
theorem dX3_whyNot_0 : decode cX3_whyNot 0 = .ok (.aload_n 0, 1) := by decide +kernel
theorem dX3_whyNot_1 : decode cX3_whyNot 1 = .ok (.aload_n 0, 1) := by decide +kernel
theorem dX3_whyNot_2 : decode cX3_whyNot 2 = .ok (.getfield 43, 3) := by decide +kernel
theorem dX3_whyNot_5 : decode cX3_whyNot 5 = .ok (.lload_n 1, 1) := by decide +kernel
theorem dX3_whyNot_6 : decode cX3_whyNot 6 = .ok (.invokevirtual 112, 3) := by decide +kernel
theorem dX3_whyNot_9 : decode cX3_whyNot 9 = .ok (.iconst (-1), 1) := by decide +kernel
theorem dX3_whyNot_10 : decode cX3_whyNot 10 = .ok (.if_icmp .ne 5, 3) := by decide +kernel
theorem dX3_whyNot_13 : decode cX3_whyNot 13 = .ok (.iconst 1, 1) := by decide +kernel
theorem dX3_whyNot_14 : decode cX3_whyNot 14 = .ok (.ireturn, 1) := by decide +kernel
theorem dX3_whyNot_15 : decode cX3_whyNot 15 = .ok (.aload_n 0, 1) := by decide +kernel
theorem dX3_whyNot_16 : decode cX3_whyNot 16 = .ok (.getfield 55, 3) := by decide +kernel
theorem dX3_whyNot_19 : decode cX3_whyNot 19 = .ok (.ifCond .ne 5, 3) := by decide +kernel
theorem dX3_whyNot_22 : decode cX3_whyNot 22 = .ok (.iconst 2, 1) := by decide +kernel
theorem dX3_whyNot_23 : decode cX3_whyNot 23 = .ok (.ireturn, 1) := by decide +kernel
theorem dX3_whyNot_24 : decode cX3_whyNot 24 = .ok (.aload_n 0, 1) := by decide +kernel
theorem dX3_whyNot_25 : decode cX3_whyNot 25 = .ok (.getfield 40, 3) := by decide +kernel
theorem dX3_whyNot_28 : decode cX3_whyNot 28 = .ok (.sipush 9999, 3) := by decide +kernel
theorem dX3_whyNot_31 : decode cX3_whyNot 31 = .ok (.if_icmp .lt 7, 3) := by decide +kernel
theorem dX3_whyNot_34 : decode cX3_whyNot 34 = .ok (.iconst 3, 1) := by decide +kernel
theorem dX3_whyNot_35 : decode cX3_whyNot 35 = .ok (.goto 4, 3) := by decide +kernel
theorem dX3_whyNot_38 : decode cX3_whyNot 38 = .ok (.iconst 0, 1) := by decide +kernel
