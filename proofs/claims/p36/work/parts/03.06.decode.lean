theorem dX3_leastHeightForAll_20 : decode cX3_leastHeightForAll 20 = .ok (.ifCond .eq 27, 3) := by decide +kernel
theorem dX3_leastHeightForAll_23 : decode cX3_leastHeightForAll 23 = .ok (.aload_n 0, 1) := by decide +kernel
theorem dX3_leastHeightForAll_24 : decode cX3_leastHeightForAll 24 = .ok (.iload_n 1, 1) := by decide +kernel
theorem dX3_leastHeightForAll_25 : decode cX3_leastHeightForAll 25 = .ok (.iload 4, 2) := by decide +kernel
theorem dX3_leastHeightForAll_27 : decode cX3_leastHeightForAll 27 = .ok (.invokevirtual 103, 3) := by decide +kernel
theorem dX3_leastHeightForAll_30 : decode cX3_leastHeightForAll 30 = .ok (.istore 5, 2) := by decide +kernel
theorem dX3_leastHeightForAll_32 : decode cX3_leastHeightForAll 32 = .ok (.iload 5, 2) := by decide +kernel
theorem dX3_leastHeightForAll_34 : decode cX3_leastHeightForAll 34 = .ok (.iconst (-1), 1) := by decide +kernel
theorem dX3_leastHeightForAll_35 : decode cX3_leastHeightForAll 35 = .ok (.if_icmp .ne 5, 3) := by decide +kernel
theorem dX3_leastHeightForAll_38 : decode cX3_leastHeightForAll 38 = .ok (.iconst (-1), 1) := by decide +kernel
theorem dX3_leastHeightForAll_39 : decode cX3_leastHeightForAll 39 = .ok (.ireturn, 1) := by decide +kernel
theorem dX3_leastHeightForAll_40 : decode cX3_leastHeightForAll 40 = .ok (.iload_n 3, 1) := by decide +kernel
theorem dX3_leastHeightForAll_41 : decode cX3_leastHeightForAll 41 = .ok (.iload 5, 2) := by decide +kernel
theorem dX3_leastHeightForAll_43 : decode cX3_leastHeightForAll 43 = .ok (.invokestatic 86, 3) := by decide +kernel
theorem dX3_leastHeightForAll_46 : decode cX3_leastHeightForAll 46 = .ok (.istore_n 3, 1) := by decide +kernel
theorem dX3_leastHeightForAll_47 : decode cX3_leastHeightForAll 47 = .ok (.iinc 4 1, 3) := by decide +kernel
theorem dX3_leastHeightForAll_50 : decode cX3_leastHeightForAll 50 = .ok (.goto (-45), 3) := by decide +kernel
theorem dX3_leastHeightForAll_53 : decode cX3_leastHeightForAll 53 = .ok (.iload_n 3, 1) := by decide +kernel
theorem dX3_leastHeightForAll_54 : decode cX3_leastHeightForAll 54 = .ok (.ireturn, 1) := by decide +kernel
theorem dX3_target_0 : decode cX3_target 0 = .ok (.iload_n 1, 1) := by decide +kernel
theorem dX3_target_1 : decode cX3_target 1 = .ok (.istore 4, 2) := by decide +kernel
theorem dX3_target_3 : decode cX3_target 3 = .ok (.lload_n 2, 1) := by decide +kernel
theorem dX3_target_4 : decode cX3_target 4 = .ok (.lconst 1, 1) := by decide +kernel
theorem dX3_target_5 : decode cX3_target 5 = .ok (.lcmp, 1) := by decide +kernel
theorem dX3_target_6 : decode cX3_target 6 = .ok (.ifCond .ne 11, 3) := by decide +kernel
theorem dX3_target_9 : decode cX3_target 9 = .ok (.iload_n 1, 1) := by decide +kernel
theorem dX3_target_10 : decode cX3_target 10 = .ok (.iconst 1, 1) := by decide +kernel
theorem dX3_target_11 : decode cX3_target 11 = .ok (.isub, 1) := by decide +kernel
theorem dX3_target_12 : decode cX3_target 12 = .ok (.istore 4, 2) := by decide +kernel
theorem dX3_target_14 : decode cX3_target 14 = .ok (.goto 27, 3) := by decide +kernel
theorem dX3_target_17 : decode cX3_target 17 = .ok (.lload_n 2, 1) := by decide +kernel
theorem dX3_target_18 : decode cX3_target 18 = .ok (.ldc2_w 106, 3) := by decide +kernel
theorem dX3_target_21 : decode cX3_target 21 = .ok (.lcmp, 1) := by decide +kernel
theorem dX3_target_22 : decode cX3_target 22 = .ok (.ifCond .ne 11, 3) := by decide +kernel
theorem dX3_target_25 : decode cX3_target 25 = .ok (.iload_n 1, 1) := by decide +kernel
theorem dX3_target_26 : decode cX3_target 26 = .ok (.iconst 1, 1) := by decide +kernel
theorem dX3_target_27 : decode cX3_target 27 = .ok (.iadd, 1) := by decide +kernel
theorem dX3_target_28 : decode cX3_target 28 = .ok (.istore 4, 2) := by decide +kernel
theorem dX3_target_30 : decode cX3_target 30 = .ok (.goto 11, 3) := by decide +kernel
theorem dX3_target_33 : decode cX3_target 33 = .ok (.lload_n 2, 1) := by decide +kernel
theorem dX3_target_34 : decode cX3_target 34 = .ok (.lconst 0, 1) := by decide +kernel
theorem dX3_target_35 : decode cX3_target 35 = .ok (.lcmp, 1) := by decide +kernel
theorem dX3_target_36 : decode cX3_target 36 = .ok (.ifCond .eq 5, 3) := by decide +kernel
theorem dX3_target_39 : decode cX3_target 39 = .ok (.iconst (-1), 1) := by decide +kernel
theorem dX3_target_40 : decode cX3_target 40 = .ok (.ireturn, 1) := by decide +kernel
theorem dX3_target_41 : decode cX3_target 41 = .ok (.aload_n 0, 1) := by decide +kernel
theorem dX3_target_42 : decode cX3_target 42 = .ok (.iload 4, 2) := by decide +kernel
theorem dX3_target_44 : decode cX3_target 44 = .ok (.invokevirtual 108, 3) := by decide +kernel
theorem dX3_target_47 : decode cX3_target 47 = .ok (.ifCond .eq 8, 3) := by decide +kernel
theorem dX3_target_50 : decode cX3_target 50 = .ok (.iload 4, 2) := by decide +kernel
theorem dX3_target_52 : decode cX3_target 52 = .ok (.goto 4, 3) := by decide +kernel
theorem dX3_target_55 : decode cX3_target 55 = .ok (.iconst (-1), 1) := by decide +kernel
theorem dX3_target_56 : decode cX3_target 56 = .ok (.ireturn, 1) := by decide +kernel
theorem dX3_whyNot_0 : decode cX3_whyNot 0 = .ok (.aload_n 0, 1) := by decide +kernel
theorem dX3_whyNot_1 : decode cX3_whyNot 1 = .ok (.aload_n 0, 1) := by decide +kernel
theorem dX3_whyNot_2 : decode cX3_whyNot 2 = .ok (.getfield 43, 3) := by decide +kernel
theorem dX3_whyNot_5 : decode cX3_whyNot 5 = .ok (.lload_n 1, 1) := by decide +kernel
theorem dX3_whyNot_6 : decode cX3_whyNot 6 = .ok (.invokevirtual 112, 3) := by decide +kernel
theorem dX3_whyNot_9 : decode cX3_whyNot 9 = .ok (.iconst (-1), 1) := by decide +kernel
theorem dX3_whyNot_10 : decode cX3_whyNot 10 = .ok (.if_icmp .ne 5, 3) := by decide +kernel
theorem dX3_whyNot_13 : decode cX3_whyNot 13 = .ok (.iconst 1, 1) := by decide +kernel
theorem dX3_whyNot_14 : decode cX3_whyNot 14 = .ok (.ireturn, 1) := by decide +kernel
theorem dX3_whyNot_15 : decode cX3_whyNot 15 = .ok (.aload_n 0, 1) := by decide +kernel
theorem dX3_whyNot_16 : decode cX3_whyNot 16 = .ok (.getfield 55, 3) := by decide +kernel
theorem dX3_whyNot_19 : decode cX3_whyNot 19 = .ok (.ifCond .ne 5, 3) := by decide +kernel
theorem dX3_whyNot_22 : decode cX3_whyNot 22 = .ok (.iconst 2, 1) := by decide +kernel
theorem dX3_whyNot_23 : decode cX3_whyNot 23 = .ok (.ireturn, 1) := by decide +kernel
theorem dX3_whyNot_24 : decode cX3_whyNot 24 = .ok (.aload_n 0, 1) := by decide +kernel
theorem dX3_whyNot_25 : decode cX3_whyNot 25 = .ok (.getfield 40, 3) := by decide +kernel
theorem dX3_whyNot_28 : decode cX3_whyNot 28 = .ok (.sipush 9999, 3) := by decide +kernel
theorem dX3_whyNot_31 : decode cX3_whyNot 31 = .ok (.if_icmp .lt 7, 3) := by decide +kernel
theorem dX3_whyNot_34 : decode cX3_whyNot 34 = .ok (.iconst 3, 1) := by decide +kernel
theorem dX3_whyNot_35 : decode cX3_whyNot 35 = .ok (.goto 4, 3) := by decide +kernel
theorem dX3_whyNot_38 : decode cX3_whyNot 38 = .ok (.iconst 0, 1) := by decide +kernel
theorem dX3_whyNot_39 : decode cX3_whyNot 39 = .ok (.ireturn, 1) := by decide +kernel
theorem dX3_pass_0 : decode cX3_pass 0 = .ok (.aload_n 0, 1) := by decide +kernel
theorem dX3_pass_1 : decode cX3_pass 1 = .ok (.iload_n 1, 1) := by decide +kernel
theorem dX3_pass_2 : decode cX3_pass 2 = .ok (.putfield 43, 3) := by decide +kernel
theorem dX3_pass_5 : decode cX3_pass 5 = .ok (.aload_n 0, 1) := by decide +kernel
theorem dX3_pass_6 : decode cX3_pass 6 = .ok (.dup, 1) := by decide +kernel
theorem dX3_pass_7 : decode cX3_pass 7 = .ok (.getfield 55, 3) := by decide +kernel
theorem dX3_pass_10 : decode cX3_pass 10 = .ok (.iconst 1, 1) := by decide +kernel
theorem dX3_pass_11 : decode cX3_pass 11 = .ok (.isub, 1) := by decide +kernel
theorem dX3_pass_12 : decode cX3_pass 12 = .ok (.putfield 55, 3) := by decide +kernel
theorem dX3_pass_15 : decode cX3_pass 15 = .ok (.aload_n 0, 1) := by decide +kernel
theorem dX3_pass_16 : decode cX3_pass 16 = .ok (.dup, 1) := by decide +kernel
theorem dX3_pass_17 : decode cX3_pass 17 = .ok (.getfield 40, 3) := by decide +kernel
theorem dX3_pass_20 : decode cX3_pass 20 = .ok (.iconst 1, 1) := by decide +kernel
theorem dX3_pass_21 : decode cX3_pass 21 = .ok (.iadd, 1) := by decide +kernel
theorem dX3_pass_22 : decode cX3_pass 22 = .ok (.putfield 40, 3) := by decide +kernel
theorem dX3_pass_25 : decode cX3_pass 25 = .ok (.iconst 0, 1) := by decide +kernel
theorem dX3_pass_26 : decode cX3_pass 26 = .ok (.istore_n 3, 1) := by decide +kernel
theorem dX3_pass_27 : decode cX3_pass 27 = .ok (.iconst 0, 1) := by decide +kernel
theorem dX3_pass_28 : decode cX3_pass 28 = .ok (.istore 4, 2) := by decide +kernel
theorem dX3_pass_30 : decode cX3_pass 30 = .ok (.iload_n 2, 1) := by decide +kernel
theorem dX3_pass_31 : decode cX3_pass 31 = .ok (.ifCond .eq 76, 3) := by decide +kernel
theorem dX3_pass_34 : decode cX3_pass 34 = .ok (.iload 4, 2) := by decide +kernel
theorem dX3_pass_36 : decode cX3_pass 36 = .ok (.aload_n 0, 1) := by decide +kernel
theorem dX3_pass_37 : decode cX3_pass 37 = .ok (.getfield 33, 3) := by decide +kernel
theorem dX3_pass_40 : decode cX3_pass 40 = .ok (.if_icmp .ge 67, 3) := by decide +kernel
theorem dX3_pass_43 : decode cX3_pass 43 = .ok (.aload_n 0, 1) := by decide +kernel
theorem dX3_pass_44 : decode cX3_pass 44 = .ok (.getfield 15, 3) := by decide +kernel
theorem dX3_pass_47 : decode cX3_pass 47 = .ok (.iload 4, 2) := by decide +kernel
theorem dX3_pass_49 : decode cX3_pass 49 = .ok (.iaload, 1) := by decide +kernel
theorem dX3_pass_50 : decode cX3_pass 50 = .ok (.aload_n 0, 1) := by decide +kernel
theorem dX3_pass_51 : decode cX3_pass 51 = .ok (.getfield 9, 3) := by decide +kernel
theorem dX3_pass_54 : decode cX3_pass 54 = .ok (.iload 4, 2) := by decide +kernel
theorem dX3_pass_56 : decode cX3_pass 56 = .ok (.iaload, 1) := by decide +kernel
theorem dX3_pass_57 : decode cX3_pass 57 = .ok (.invokestatic 90, 3) := by decide +kernel
theorem dX3_pass_60 : decode cX3_pass 60 = .ok (.aload_n 0, 1) := by decide +kernel
theorem dX3_pass_61 : decode cX3_pass 61 = .ok (.iload_n 1, 1) := by decide +kernel
theorem dX3_pass_62 : decode cX3_pass 62 = .ok (.iload 4, 2) := by decide +kernel
theorem dX3_pass_64 : decode cX3_pass 64 = .ok (.invokevirtual 100, 3) := by decide +kernel
theorem dX3_pass_67 : decode cX3_pass 67 = .ok (.invokestatic 90, 3) := by decide +kernel
theorem dX3_pass_70 : decode cX3_pass 70 = .ok (.istore 5, 2) := by decide +kernel
theorem dX3_pass_72 : decode cX3_pass 72 = .ok (.aload_n 0, 1) := by decide +kernel
theorem dX3_pass_73 : decode cX3_pass 73 = .ok (.getfield 9, 3) := by decide +kernel
theorem dX3_pass_76 : decode cX3_pass 76 = .ok (.iload 4, 2) := by decide +kernel
theorem dX3_pass_78 : decode cX3_pass 78 = .ok (.dup2, 1) := by decide +kernel
theorem dX3_pass_79 : decode cX3_pass 79 = .ok (.iaload, 1) := by decide +kernel
theorem dX3_pass_80 : decode cX3_pass 80 = .ok (.iload 5, 2) := by decide +kernel
theorem dX3_pass_82 : decode cX3_pass 82 = .ok (.isub, 1) := by decide +kernel
theorem dX3_pass_83 : decode cX3_pass 83 = .ok (.iastore, 1) := by decide +kernel
theorem dX3_pass_84 : decode cX3_pass 84 = .ok (.aload_n 0, 1) := by decide +kernel
theorem dX3_pass_85 : decode cX3_pass 85 = .ok (.getfield 24, 3) := by decide +kernel
theorem dX3_pass_88 : decode cX3_pass 88 = .ok (.iload 4, 2) := by decide +kernel
theorem dX3_pass_90 : decode cX3_pass 90 = .ok (.dup2, 1) := by decide +kernel
theorem dX3_pass_91 : decode cX3_pass 91 = .ok (.iaload, 1) := by decide +kernel
theorem dX3_pass_92 : decode cX3_pass 92 = .ok (.iload 5, 2) := by decide +kernel
theorem dX3_pass_94 : decode cX3_pass 94 = .ok (.iadd, 1) := by decide +kernel
theorem dX3_pass_95 : decode cX3_pass 95 = .ok (.iastore, 1) := by decide +kernel
theorem dX3_pass_96 : decode cX3_pass 96 = .ok (.iload_n 3, 1) := by decide +kernel
theorem dX3_pass_97 : decode cX3_pass 97 = .ok (.iload 5, 2) := by decide +kernel
theorem dX3_pass_99 : decode cX3_pass 99 = .ok (.iadd, 1) := by decide +kernel
theorem dX3_pass_100 : decode cX3_pass 100 = .ok (.istore_n 3, 1) := by decide +kernel
theorem dX3_pass_101 : decode cX3_pass 101 = .ok (.iinc 4 1, 3) := by decide +kernel
theorem dX3_pass_104 : decode cX3_pass 104 = .ok (.goto (-74), 3) := by decide +kernel
theorem dX3_pass_107 : decode cX3_pass 107 = .ok (.iload_n 3, 1) := by decide +kernel
theorem dX3_pass_108 : decode cX3_pass 108 = .ok (.ireturn, 1) := by decide +kernel
theorem dX3_passAll_0 : decode cX3_passAll 0 = .ok (.iconst 0, 1) := by decide +kernel
theorem dX3_passAll_1 : decode cX3_passAll 1 = .ok (.istore_n 2, 1) := by decide +kernel
theorem dX3_passAll_2 : decode cX3_passAll 2 = .ok (.iload_n 2, 1) := by decide +kernel
theorem dX3_passAll_3 : decode cX3_passAll 3 = .ok (.aload_n 1, 1) := by decide +kernel
theorem dX3_passAll_4 : decode cX3_passAll 4 = .ok (.getfield 116, 3) := by decide +kernel
theorem dX3_passAll_7 : decode cX3_passAll 7 = .ok (.if_icmp .ge 40, 3) := by decide +kernel
theorem dX3_passAll_10 : decode cX3_passAll 10 = .ok (.aload_n 1, 1) := by decide +kernel
theorem dX3_passAll_11 : decode cX3_passAll 11 = .ok (.iload_n 2, 1) := by decide +kernel
theorem dX3_passAll_12 : decode cX3_passAll 12 = .ok (.invokevirtual 121, 3) := by decide +kernel
theorem dX3_passAll_15 : decode cX3_passAll 15 = .ok (.lstore_n 3, 1) := by decide +kernel
theorem dX3_passAll_16 : decode cX3_passAll 16 = .ok (.aload_n 0, 1) := by decide +kernel
theorem dX3_passAll_17 : decode cX3_passAll 17 = .ok (.lload_n 3, 1) := by decide +kernel
theorem dX3_passAll_18 : decode cX3_passAll 18 = .ok (.invokevirtual 125, 3) := by decide +kernel
theorem dX3_passAll_21 : decode cX3_passAll 21 = .ok (.ifCond .eq 5, 3) := by decide +kernel
theorem dX3_passAll_24 : decode cX3_passAll 24 = .ok (.iload_n 2, 1) := by decide +kernel
theorem dX3_passAll_25 : decode cX3_passAll 25 = .ok (.ireturn, 1) := by decide +kernel
theorem dX3_passAll_26 : decode cX3_passAll 26 = .ok (.aload_n 0, 1) := by decide +kernel
theorem dX3_passAll_27 : decode cX3_passAll 27 = .ok (.aload_n 0, 1) := by decide +kernel
theorem dX3_passAll_28 : decode cX3_passAll 28 = .ok (.aload_n 0, 1) := by decide +kernel
theorem dX3_passAll_29 : decode cX3_passAll 29 = .ok (.getfield 43, 3) := by decide +kernel
theorem dX3_passAll_32 : decode cX3_passAll 32 = .ok (.lload_n 3, 1) := by decide +kernel
theorem dX3_passAll_33 : decode cX3_passAll 33 = .ok (.invokevirtual 112, 3) := by decide +kernel
theorem dX3_passAll_36 : decode cX3_passAll 36 = .ok (.iconst 1, 1) := by decide +kernel
theorem dX3_passAll_37 : decode cX3_passAll 37 = .ok (.invokevirtual 129, 3) := by decide +kernel
theorem dX3_passAll_40 : decode cX3_passAll 40 = .ok (.pop, 1) := by decide +kernel
theorem dX3_passAll_41 : decode cX3_passAll 41 = .ok (.iinc 2 1, 3) := by decide +kernel
theorem dX3_passAll_44 : decode cX3_passAll 44 = .ok (.goto (-42), 3) := by decide +kernel
theorem dX3_passAll_47 : decode cX3_passAll 47 = .ok (.aload_n 1, 1) := by decide +kernel
theorem dX3_passAll_48 : decode cX3_passAll 48 = .ok (.getfield 116, 3) := by decide +kernel
theorem dX3_passAll_51 : decode cX3_passAll 51 = .ok (.ireturn, 1) := by decide +kernel
theorem dX4_valueAt_0 : decode cX4_valueAt 0 = .ok (.iload_n 1, 1) := by decide +kernel
theorem dX4_valueAt_1 : decode cX4_valueAt 1 = .ok (.ifCond .lt 20, 3) := by decide +kernel
theorem dX4_valueAt_4 : decode cX4_valueAt 4 = .ok (.iload_n 1, 1) := by decide +kernel
theorem dX4_valueAt_5 : decode cX4_valueAt 5 = .ok (.aload_n 0, 1) := by decide +kernel
theorem dX4_valueAt_6 : decode cX4_valueAt 6 = .ok (.getfield 19, 3) := by decide +kernel
theorem dX4_valueAt_9 : decode cX4_valueAt 9 = .ok (.if_icmp .ge 12, 3) := by decide +kernel
theorem dX4_valueAt_12 : decode cX4_valueAt 12 = .ok (.aload_n 0, 1) := by decide +kernel
theorem dX4_valueAt_13 : decode cX4_valueAt 13 = .ok (.getfield 22, 3) := by decide +kernel
theorem dX4_valueAt_16 : decode cX4_valueAt 16 = .ok (.iload_n 1, 1) := by decide +kernel
theorem dX4_valueAt_17 : decode cX4_valueAt 17 = .ok (.laload, 1) := by decide +kernel
theorem dX4_valueAt_18 : decode cX4_valueAt 18 = .ok (.goto 6, 3) := by decide +kernel
theorem dX4_valueAt_21 : decode cX4_valueAt 21 = .ok (.ldc2_w 41, 3) := by decide +kernel
theorem dX4_valueAt_24 : decode cX4_valueAt 24 = .ok (.lreturn, 1) := by decide +kernel
theorem dX4_put_0 : decode cX4_put 0 = .ok (.iload_n 1, 1) := by decide +kernel
theorem dX4_put_1 : decode cX4_put 1 = .ok (.ifCond .lt 11, 3) := by decide +kernel
theorem dX4_put_4 : decode cX4_put 4 = .ok (.iload_n 1, 1) := by decide +kernel
theorem dX4_put_5 : decode cX4_put 5 = .ok (.aload_n 0, 1) := by decide +kernel
theorem dX4_put_6 : decode cX4_put 6 = .ok (.getfield 19, 3) := by decide +kernel
theorem dX4_put_9 : decode cX4_put 9 = .ok (.if_icmp .lt 7, 3) := by decide +kernel
theorem dX4_put_12 : decode cX4_put 12 = .ok (.ldc2_w 43, 3) := by decide +kernel
theorem dX4_put_15 : decode cX4_put 15 = .ok (.lreturn, 1) := by decide +kernel
theorem dX4_put_16 : decode cX4_put 16 = .ok (.aload_n 0, 1) := by decide +kernel
theorem dX4_put_17 : decode cX4_put 17 = .ok (.getfield 22, 3) := by decide +kernel
theorem dX4_put_20 : decode cX4_put 20 = .ok (.iload_n 1, 1) := by decide +kernel
theorem dX4_put_21 : decode cX4_put 21 = .ok (.aload_n 0, 1) := by decide +kernel
theorem dX4_put_22 : decode cX4_put 22 = .ok (.lload_n 2, 1) := by decide +kernel
theorem dX4_put_23 : decode cX4_put 23 = .ok (.invokevirtual 45, 3) := by decide +kernel
theorem dX4_put_26 : decode cX4_put 26 = .ok (.lastore, 1) := by decide +kernel
theorem dX4_put_27 : decode cX4_put 27 = .ok (.aload_n 0, 1) := by decide +kernel
theorem dX4_put_28 : decode cX4_put 28 = .ok (.getfield 22, 3) := by decide +kernel
theorem dX4_put_31 : decode cX4_put 31 = .ok (.iload_n 1, 1) := by decide +kernel
