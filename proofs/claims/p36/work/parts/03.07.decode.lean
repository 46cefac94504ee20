theorem dX3_whyNot_39 : decode cX3_whyNot 39 = .ok (.ireturn, 1) := by decide +kernel
theorem dX3_pass_0 : decode cX3_pass 0 = .ok (.aload_n 0, 1) := by decide +kernel
theorem dX3_pass_1 : decode cX3_pass 1 = .ok (.iload_n 1, 1) := by decide +kernel
theorem dX3_pass_2 : decode cX3_pass 2 = .ok (.putfield 43, 3) := by decide +kernel
theorem dX3_pass_5 : decode cX3_pass 5 = .ok (.aload_n 0, 1) := by decide +kernel
theorem dX3_pass_6 : decode cX3_pass 6 = .ok (.dup, 1) := by decide +kernel
theorem dX3_pass_7 : decode cX3_pass 7 = .ok (.getfield 55, 3) := by decide +kernel
theorem dX3_pass_10 : decode cX3_pass 10 = .ok (.iconst 1, 1) := by decide +kernel
theorem dX3_pass_11 : decode cX3_pass 11 = .ok (.isub, 1) := by decide +kernel
theorem dX3_pass_12 : decode cX3_pass 12 = .ok (.putfield 55, 3) := by decide +kernel
theorem dX3_pass_15 : decode cX3_pass 15 = .ok (.aload_n 0, 1) := by decide +kernel
theorem dX3_pass_16 : decode cX3_pass 16 = .ok (.dup, 1) := by decide +kernel
theorem dX3_pass_17 : decode cX3_pass 17 = .ok (.getfield 40, 3) := by decide +kernel
theorem dX3_pass_20 : decode cX3_pass 20 = .ok (.iconst 1, 1) := by decide +kernel
theorem dX3_pass_21 : decode cX3_pass 21 = .ok (.iadd, 1) := by decide +kernel
theorem dX3_pass_22 : decode cX3_pass 22 = .ok (.putfield 40, 3) := by decide +kernel
theorem dX3_pass_25 : decode cX3_pass 25 = .ok (.iconst 0, 1) := by decide +kernel
theorem dX3_pass_26 : decode cX3_pass 26 = .ok (.istore_n 3, 1) := by decide +kernel
theorem dX3_pass_27 : decode cX3_pass 27 = .ok (.iconst 0, 1) := by decide +kernel
theorem dX3_pass_28 : decode cX3_pass 28 = .ok (.istore 4, 2) := by decide +kernel
theorem dX3_pass_30 : decode cX3_pass 30 = .ok (.iload_n 2, 1) := by decide +kernel
theorem dX3_pass_31 : decode cX3_pass 31 = .ok (.ifCond .eq 76, 3) := by decide +kernel
theorem dX3_pass_34 : decode cX3_pass 34 = .ok (.iload 4, 2) := by decide +kernel
theorem dX3_pass_36 : decode cX3_pass 36 = .ok (.aload_n 0, 1) := by decide +kernel
theorem dX3_pass_37 : decode cX3_pass 37 = .ok (.getfield 33, 3) := by decide +kernel
theorem dX3_pass_40 : decode cX3_pass 40 = .ok (.if_icmp .ge 67, 3) := by decide +kernel
theorem dX3_pass_43 : decode cX3_pass 43 = .ok (.aload_n 0, 1) := by decide +kernel
theorem dX3_pass_44 : decode cX3_pass 44 = .ok (.getfield 15, 3) := by decide +kernel
theorem dX3_pass_47 : decode cX3_pass 47 = .ok (.iload 4, 2) := by decide +kernel
theorem dX3_pass_49 : decode cX3_pass 49 = .ok (.iaload, 1) := by decide +kernel
theorem dX3_pass_50 : decode cX3_pass 50 = .ok (.aload_n 0, 1) := by decide +kernel
theorem dX3_pass_51 : decode cX3_pass 51 = .ok (.getfield 9, 3) := by decide +kernel
theorem dX3_pass_54 : decode cX3_pass 54 = .ok (.iload 4, 2) := by decide +kernel
theorem dX3_pass_56 : decode cX3_pass 56 = .ok (.iaload, 1) := by decide +kernel
theorem dX3_pass_57 : decode cX3_pass 57 = .ok (.invokestatic 90, 3) := by decide +kernel
theorem dX3_pass_60 : decode cX3_pass 60 = .ok (.aload_n 0, 1) := by decide +kernel
theorem dX3_pass_61 : decode cX3_pass 61 = .ok (.iload_n 1, 1) := by decide +kernel
theorem dX3_pass_62 : decode cX3_pass 62 = .ok (.iload 4, 2) := by decide +kernel
theorem dX3_pass_64 : decode cX3_pass 64 = .ok (.invokevirtual 100, 3) := by decide +kernel
theorem dX3_pass_67 : decode cX3_pass 67 = .ok (.invokestatic 90, 3) := by decide +kernel
theorem dX3_pass_70 : decode cX3_pass 70 = .ok (.istore 5, 2) := by decide +kernel
theorem dX3_pass_72 : decode cX3_pass 72 = .ok (.aload_n 0, 1) := by decide +kernel
theorem dX3_pass_73 : decode cX3_pass 73 = .ok (.getfield 9, 3) := by decide +kernel
theorem dX3_pass_76 : decode cX3_pass 76 = .ok (.iload 4, 2) := by decide +kernel
theorem dX3_pass_78 : decode cX3_pass 78 = .ok (.dup2, 1) := by decide +kernel
theorem dX3_pass_79 : decode cX3_pass 79 = .ok (.iaload, 1) := by decide +kernel
theorem dX3_pass_80 : decode cX3_pass 80 = .ok (.iload 5, 2) := by decide +kernel
theorem dX3_pass_82 : decode cX3_pass 82 = .ok (.isub, 1) := by decide +kernel
theorem dX3_pass_83 : decode cX3_pass 83 = .ok (.iastore, 1) := by decide +kernel
theorem dX3_pass_84 : decode cX3_pass 84 = .ok (.aload_n 0, 1) := by decide +kernel
theorem dX3_pass_85 : decode cX3_pass 85 = .ok (.getfield 24, 3) := by decide +kernel
theorem dX3_pass_88 : decode cX3_pass 88 = .ok (.iload 4, 2) := by decide +kernel
theorem dX3_pass_90 : decode cX3_pass 90 = .ok (.dup2, 1) := by decide +kernel
theorem dX3_pass_91 : decode cX3_pass 91 = .ok (.iaload, 1) := by decide +kernel
theorem dX3_pass_92 : decode cX3_pass 92 = .ok (.iload 5, 2) := by decide +kernel
theorem dX3_pass_94 : decode cX3_pass 94 = .ok (.iadd, 1) := by decide +kernel
theorem dX3_pass_95 : decode cX3_pass 95 = .ok (.iastore, 1) := by decide +kernel
theorem dX3_pass_96 : decode cX3_pass 96 = .ok (.iload_n 3, 1) := by decide +kernel
theorem dX3_pass_97 : decode cX3_pass 97 = .ok (.iload 5, 2) := by decide +kernel
theorem dX3_pass_99 : decode cX3_pass 99 = .ok (.iadd, 1) := by decide +kernel
theorem dX3_pass_100 : decode cX3_pass 100 = .ok (.istore_n 3, 1) := by decide +kernel
theorem dX3_pass_101 : decode cX3_pass 101 = .ok (.iinc 4 1, 3) := by decide +kernel
theorem dX3_pass_104 : decode cX3_pass 104 = .ok (.goto (-74), 3) := by decide +kernel
theorem dX3_pass_107 : decode cX3_pass 107 = .ok (.iload_n 3, 1) := by decide +kernel
theorem dX3_pass_108 : decode cX3_pass 108 = .ok (.ireturn, 1) := by decide +kernel
theorem dX3_passAll_0 : decode cX3_passAll 0 = .ok (.iconst 0, 1) := by decide +kernel
theorem dX3_passAll_1 : decode cX3_passAll 1 = .ok (.istore_n 2, 1) := by decide +kernel
theorem dX3_passAll_2 : decode cX3_passAll 2 = .ok (.iload_n 2, 1) := by decide +kernel
theorem dX3_passAll_3 : decode cX3_passAll 3 = .ok (.aload_n 1, 1) := by decide +kernel
theorem dX3_passAll_4 : decode cX3_passAll 4 = .ok (.getfield 116, 3) := by decide +kernel
theorem dX3_passAll_7 : decode cX3_passAll 7 = .ok (.if_icmp .ge 40, 3) := by decide +kernel
theorem dX3_passAll_10 : decode cX3_passAll 10 = .ok (.aload_n 1, 1) := by decide +kernel
theorem dX3_passAll_11 : decode cX3_passAll 11 = .ok (.iload_n 2, 1) := by decide +kernel
theorem dX3_passAll_12 : decode cX3_passAll 12 = .ok (.invokevirtual 121, 3) := by decide +kernel
theorem dX3_passAll_15 : decode cX3_passAll 15 = .ok (.lstore_n 3, 1) := by decide +kernel
theorem dX3_passAll_16 : decode cX3_passAll 16 = .ok (.aload_n 0, 1) := by decide +kernel
theorem dX3_passAll_17 : decode cX3_passAll 17 = .ok (.lload_n 3, 1) := by decide +kernel
theorem dX3_passAll_18 : decode cX3_passAll 18 = .ok (.invokevirtual 125, 3) := by decide +kernel
theorem dX3_passAll_21 : decode cX3_passAll 21 = .ok (.ifCond .eq 5, 3) := by decide +kernel
theorem dX3_passAll_24 : decode cX3_passAll 24 = .ok (.iload_n 2, 1) := by decide +kernel
theorem dX3_passAll_25 : decode cX3_passAll 25 = .ok (.ireturn, 1) := by decide +kernel
theorem dX3_passAll_26 : decode cX3_passAll 26 = .ok (.aload_n 0, 1) := by decide +kernel
theorem dX3_passAll_27 : decode cX3_passAll 27 = .ok (.aload_n 0, 1) := by decide +kernel
theorem dX3_passAll_28 : decode cX3_passAll 28 = .ok (.aload_n 0, 1) := by decide +kernel
theorem dX3_passAll_29 : decode cX3_passAll 29 = .ok (.getfield 43, 3) := by decide +kernel
theorem dX3_passAll_32 : decode cX3_passAll 32 = .ok (.lload_n 3, 1) := by decide +kernel
theorem dX3_passAll_33 : decode cX3_passAll 33 = .ok (.invokevirtual 112, 3) := by decide +kernel
theorem dX3_passAll_36 : decode cX3_passAll 36 = .ok (.iconst 1, 1) := by decide +kernel
theorem dX3_passAll_37 : decode cX3_passAll 37 = .ok (.invokevirtual 129, 3) := by decide +kernel
theorem dX3_passAll_40 : decode cX3_passAll 40 = .ok (.pop, 1) := by decide +kernel
theorem dX3_passAll_41 : decode cX3_passAll 41 = .ok (.iinc 2 1, 3) := by decide +kernel
theorem dX3_passAll_44 : decode cX3_passAll 44 = .ok (.goto (-42), 3) := by decide +kernel
theorem dX3_passAll_47 : decode cX3_passAll 47 = .ok (.aload_n 1, 1) := by decide +kernel
theorem dX3_passAll_48 : decode cX3_passAll 48 = .ok (.getfield 116, 3) := by decide +kernel
theorem dX3_passAll_51 : decode cX3_passAll 51 = .ok (.ireturn, 1) := by decide +kernel
theorem dX4_valueAt_0 : decode cX4_valueAt 0 = .ok (.iload_n 1, 1) := by decide +kernel
theorem dX4_valueAt_1 : decode cX4_valueAt 1 = .ok (.ifCond .lt 20, 3) := by decide +kernel
theorem dX4_valueAt_4 : decode cX4_valueAt 4 = .ok (.iload_n 1, 1) := by decide +kernel
theorem dX4_valueAt_5 : decode cX4_valueAt 5 = .ok (.aload_n 0, 1) := by decide +kernel
theorem dX4_valueAt_6 : decode cX4_valueAt 6 = .ok (.getfield 19, 3) := by decide +kernel
theorem dX4_valueAt_9 : decode cX4_valueAt 9 = .ok (.if_icmp .ge 12, 3) := by decide +kernel
theorem dX4_valueAt_12 : decode cX4_valueAt 12 = .ok (.aload_n 0, 1) := by decide +kernel
theorem dX4_valueAt_13 : decode cX4_valueAt 13 = .ok (.getfield 22, 3) := by decide +kernel
theorem dX4_valueAt_16 : decode cX4_valueAt 16 = .ok (.iload_n 1, 1) := by decide +kernel
theorem dX4_valueAt_17 : decode cX4_valueAt 17 = .ok (.laload, 1) := by decide +kernel
theorem dX4_valueAt_18 : decode cX4_valueAt 18 = .ok (.goto 6, 3) := by decide +kernel
theorem dX4_valueAt_21 : decode cX4_valueAt 21 = .ok (.ldc2_w 41, 3) := by decide +kernel
theorem dX4_valueAt_24 : decode cX4_valueAt 24 = .ok (.lreturn, 1) := by decide +kernel
theorem dX4_put_0 : decode cX4_put 0 = .ok (.iload_n 1, 1) := by decide +kernel
theorem dX4_put_1 : decode cX4_put 1 = .ok (.ifCond .lt 11, 3) := by decide +kernel
theorem dX4_put_4 : decode cX4_put 4 = .ok (.iload_n 1, 1) := by decide +kernel
theorem dX4_put_5 : decode cX4_put 5 = .ok (.aload_n 0, 1) := by decide +kernel
theorem dX4_put_6 : decode cX4_put 6 = .ok (.getfield 19, 3) := by decide +kernel
theorem dX4_put_9 : decode cX4_put 9 = .ok (.if_icmp .lt 7, 3) := by decide +kernel
theorem dX4_put_12 : decode cX4_put 12 = .ok (.ldc2_w 43, 3) := by decide +kernel
theorem dX4_put_15 : decode cX4_put 15 = .ok (.lreturn, 1) := by decide +kernel
theorem dX4_put_16 : decode cX4_put 16 = .ok (.aload_n 0, 1) := by decide +kernel
theorem dX4_put_17 : decode cX4_put 17 = .ok (.getfield 22, 3) := by decide +kernel
theorem dX4_put_20 : decode cX4_put 20 = .ok (.iload_n 1, 1) := by decide +kernel
theorem dX4_put_21 : decode cX4_put 21 = .ok (.aload_n 0, 1) := by decide +kernel
theorem dX4_put_22 : decode cX4_put 22 = .ok (.lload_n 2, 1) := by decide +kernel
theorem dX4_put_23 : decode cX4_put 23 = .ok (.invokevirtual 45, 3) := by decide +kernel
theorem dX4_put_26 : decode cX4_put 26 = .ok (.lastore, 1) := by decide +kernel
theorem dX4_put_27 : decode cX4_put 27 = .ok (.aload_n 0, 1) := by decide +kernel
theorem dX4_put_28 : decode cX4_put 28 = .ok (.getfield 22, 3) := by decide +kernel
theorem dX4_put_31 : decode cX4_put 31 = .ok (.iload_n 1, 1) := by decide +kernel
theorem dX4_put_32 : decode cX4_put 32 = .ok (.laload, 1) := by decide +kernel
theorem dX4_put_33 : decode cX4_put 33 = .ok (.lreturn, 1) := by decide +kernel
theorem dX4_cut_0 : decode cX4_cut 0 = .ok (.aload_n 0, 1) := by decide +kernel
theorem dX4_cut_1 : decode cX4_cut 1 = .ok (.getfield 15, 3) := by decide +kernel
theorem dX4_cut_4 : decode cX4_cut 4 = .ok (.tableswitch 42 0 2 #[28, 33, 38], 28) := by decide +kernel
theorem dX4_cut_32 : decode cX4_cut 32 = .ok (.lload_n 1, 1) := by decide +kernel
theorem dX4_cut_33 : decode cX4_cut 33 = .ok (.l2i, 1) := by decide +kernel
theorem dX4_cut_34 : decode cX4_cut 34 = .ok (.i2b, 1) := by decide +kernel
theorem dX4_cut_35 : decode cX4_cut 35 = .ok (.i2l, 1) := by decide +kernel
theorem dX4_cut_36 : decode cX4_cut 36 = .ok (.lreturn, 1) := by decide +kernel
theorem dX4_cut_37 : decode cX4_cut 37 = .ok (.lload_n 1, 1) := by decide +kernel
theorem dX4_cut_38 : decode cX4_cut 38 = .ok (.l2i, 1) := by decide +kernel
theorem dX4_cut_39 : decode cX4_cut 39 = .ok (.i2s, 1) := by decide +kernel
theorem dX4_cut_40 : decode cX4_cut 40 = .ok (.i2l, 1) := by decide +kernel
theorem dX4_cut_41 : decode cX4_cut 41 = .ok (.lreturn, 1) := by decide +kernel
theorem dX4_cut_42 : decode cX4_cut 42 = .ok (.lload_n 1, 1) := by decide +kernel
theorem dX4_cut_43 : decode cX4_cut 43 = .ok (.l2i, 1) := by decide +kernel
theorem dX4_cut_44 : decode cX4_cut 44 = .ok (.i2l, 1) := by decide +kernel
theorem dX4_cut_45 : decode cX4_cut 45 = .ok (.lreturn, 1) := by decide +kernel
theorem dX4_cut_46 : decode cX4_cut 46 = .ok (.lload_n 1, 1) := by decide +kernel
theorem dX4_cut_47 : decode cX4_cut 47 = .ok (.lreturn, 1) := by decide +kernel
theorem dX5_seekAll_0 : decode cX5_seekAll 0 = .ok (.aload_n 1, 1) := by decide +kernel
theorem dX5_seekAll_1 : decode cX5_seekAll 1 = .ok (.aload_n 0, 1) := by decide +kernel
theorem dX5_seekAll_2 : decode cX5_seekAll 2 = .ok (.getfield 9, 3) := by decide +kernel
theorem dX5_seekAll_5 : decode cX5_seekAll 5 = .ok (.iconst (-1), 1) := by decide +kernel
theorem dX5_seekAll_6 : decode cX5_seekAll 6 = .ok (.invokevirtual 27, 3) := by decide +kernel
theorem dX5_seekAll_9 : decode cX5_seekAll 9 = .ok (.aload_n 1, 1) := by decide +kernel
theorem dX5_seekAll_10 : decode cX5_seekAll 10 = .ok (.aload_n 0, 1) := by decide +kernel
theorem dX5_seekAll_11 : decode cX5_seekAll 11 = .ok (.getfield 15, 3) := by decide +kernel
theorem dX5_seekAll_14 : decode cX5_seekAll 14 = .ok (.iconst 1, 1) := by decide +kernel
theorem dX5_seekAll_15 : decode cX5_seekAll 15 = .ok (.invokevirtual 27, 3) := by decide +kernel
theorem dX5_seekAll_18 : decode cX5_seekAll 18 = .ok (.aload_n 0, 1) := by decide +kernel
theorem dX5_seekAll_19 : decode cX5_seekAll 19 = .ok (.getfield 24, 3) := by decide +kernel
theorem dX5_seekAll_22 : decode cX5_seekAll 22 = .ok (.iconst 0, 1) := by decide +kernel
theorem dX5_seekAll_23 : decode cX5_seekAll 23 = .ok (.invokestatic 33, 3) := by decide +kernel
theorem dX5_seekAll_26 : decode cX5_seekAll 26 = .ok (.aload_n 2, 1) := by decide +kernel
theorem dX5_seekAll_27 : decode cX5_seekAll 27 = .ok (.iload_n 3, 1) := by decide +kernel
theorem dX5_seekAll_28 : decode cX5_seekAll 28 = .ok (.invokevirtual 38, 3) := by decide +kernel
theorem dX5_seekAll_31 : decode cX5_seekAll 31 = .ok (.istore 4, 2) := by decide +kernel
theorem dX5_seekAll_33 : decode cX5_seekAll 33 = .ok (.aload_n 2, 1) := by decide +kernel
theorem dX5_seekAll_34 : decode cX5_seekAll 34 = .ok (.iload_n 3, 1) := by decide +kernel
theorem dX5_seekAll_35 : decode cX5_seekAll 35 = .ok (.invokevirtual 44, 3) := by decide +kernel
theorem dX5_seekAll_38 : decode cX5_seekAll 38 = .ok (.istore 5, 2) := by decide +kernel
theorem dX5_seekAll_40 : decode cX5_seekAll 40 = .ok (.iload 5, 2) := by decide +kernel
theorem dX5_seekAll_42 : decode cX5_seekAll 42 = .ok (.iload 4, 2) := by decide +kernel
theorem dX5_seekAll_44 : decode cX5_seekAll 44 = .ok (.if_icmp .ge 35, 3) := by decide +kernel
theorem dX5_seekAll_47 : decode cX5_seekAll 47 = .ok (.aload_n 2, 1) := by decide +kernel
theorem dX5_seekAll_48 : decode cX5_seekAll 48 = .ok (.getfield 47, 3) := by decide +kernel
theorem dX5_seekAll_51 : decode cX5_seekAll 51 = .ok (.iload 5, 2) := by decide +kernel
theorem dX5_seekAll_53 : decode cX5_seekAll 53 = .ok (.baload, 1) := by decide +kernel
theorem dX5_seekAll_54 : decode cX5_seekAll 54 = .ok (.ifCond .ne 19, 3) := by decide +kernel
theorem dX5_seekAll_57 : decode cX5_seekAll 57 = .ok (.aload_n 1, 1) := by decide +kernel
theorem dX5_seekAll_58 : decode cX5_seekAll 58 = .ok (.aload_n 2, 1) := by decide +kernel
theorem dX5_seekAll_59 : decode cX5_seekAll 59 = .ok (.getfield 51, 3) := by decide +kernel
theorem dX5_seekAll_62 : decode cX5_seekAll 62 = .ok (.iload 5, 2) := by decide +kernel
theorem dX5_seekAll_64 : decode cX5_seekAll 64 = .ok (.laload, 1) := by decide +kernel
theorem dX5_seekAll_65 : decode cX5_seekAll 65 = .ok (.invokevirtual 55, 3) := by decide +kernel
theorem dX5_seekAll_68 : decode cX5_seekAll 68 = .ok (.aload_n 0, 1) := by decide +kernel
theorem dX5_seekAll_69 : decode cX5_seekAll 69 = .ok (.aload_n 1, 1) := by decide +kernel
theorem dX5_seekAll_70 : decode cX5_seekAll 70 = .ok (.invokevirtual 59, 3) := by decide +kernel
theorem dX5_seekAll_73 : decode cX5_seekAll 73 = .ok (.iinc 5 1, 3) := by decide +kernel
theorem dX5_seekAll_76 : decode cX5_seekAll 76 = .ok (.goto (-36), 3) := by decide +kernel
theorem dX5_seekAll_79 : decode cX5_seekAll 79 = .ok (.return_, 1) := by decide +kernel
theorem dX5_weigh_0 : decode cX5_weigh 0 = .ok (.aload_n 1, 1) := by decide +kernel
theorem dX5_weigh_1 : decode cX5_weigh 1 = .ok (.getfield 63, 3) := by decide +kernel
theorem dX5_weigh_4 : decode cX5_weigh 4 = .ok (.getfield 67, 3) := by decide +kernel
theorem dX5_weigh_7 : decode cX5_weigh 7 = .ok (.istore_n 2, 1) := by decide +kernel
theorem dX5_weigh_8 : decode cX5_weigh 8 = .ok (.iconst 0, 1) := by decide +kernel
theorem dX5_weigh_9 : decode cX5_weigh 9 = .ok (.istore_n 3, 1) := by decide +kernel
theorem dX5_weigh_10 : decode cX5_weigh 10 = .ok (.iconst 0, 1) := by decide +kernel
theorem dX5_weigh_11 : decode cX5_weigh 11 = .ok (.istore 4, 2) := by decide +kernel
theorem dX5_weigh_13 : decode cX5_weigh 13 = .ok (.iload 4, 2) := by decide +kernel
theorem dX5_weigh_15 : decode cX5_weigh 15 = .ok (.iload_n 2, 1) := by decide +kernel
theorem dX5_weigh_16 : decode cX5_weigh 16 = .ok (.if_icmp .ge 66, 3) := by decide +kernel
