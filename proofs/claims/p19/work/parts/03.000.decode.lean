theorem dX0_init_0 : decode cX0_init 0 = .ok (.aload_n 0, 1) := by decide +kernel
theorem dX0_init_1 : decode cX0_init 1 = .ok (.invokespecial 3, 3) := by decide +kernel
theorem dX0_init_4 : decode cX0_init 4 = .ok (.aload_n 0, 1) := by decide +kernel
theorem dX0_init_5 : decode cX0_init 5 = .ok (.bipush 16, 2) := by decide +kernel
theorem dX0_init_7 : decode cX0_init 7 = .ok (.newarray .int, 2) := by decide +kernel
theorem dX0_init_9 : decode cX0_init 9 = .ok (.putfield 9, 3) := by decide +kernel
theorem dX0_init_12 : decode cX0_init 12 = .ok (.aload_n 0, 1) := by decide +kernel
theorem dX0_init_13 : decode cX0_init 13 = .ok (.bipush 16, 2) := by decide +kernel
theorem dX0_init_15 : decode cX0_init 15 = .ok (.newarray .int, 2) := by decide +kernel
theorem dX0_init_17 : decode cX0_init 17 = .ok (.putfield 15, 3) := by decide +kernel
theorem dX0_init_20 : decode cX0_init 20 = .ok (.return_, 1) := by decide +kernel
theorem dX0_fewest_0 : decode cX0_fewest 0 = .ok (.aload_n 0, 1) := by decide +kernel
theorem dX0_fewest_1 : decode cX0_fewest 1 = .ok (.aload_n 1, 1) := by decide +kernel
theorem dX0_fewest_2 : decode cX0_fewest 2 = .ok (.invokevirtual 18, 3) := by decide +kernel
theorem dX0_fewest_5 : decode cX0_fewest 5 = .ok (.aload_n 1, 1) := by decide +kernel
theorem dX0_fewest_6 : decode cX0_fewest 6 = .ok (.invokevirtual 22, 3) := by decide +kernel
theorem dX0_fewest_9 : decode cX0_fewest 9 = .ok (.istore_n 3, 1) := by decide +kernel
theorem dX0_fewest_10 : decode cX0_fewest 10 = .ok (.iconst 0, 1) := by decide +kernel
theorem dX0_fewest_11 : decode cX0_fewest 11 = .ok (.istore 4, 2) := by decide +kernel
theorem dX0_fewest_13 : decode cX0_fewest 13 = .ok (.iload 4, 2) := by decide +kernel
theorem dX0_fewest_15 : decode cX0_fewest 15 = .ok (.aload_n 1, 1) := by decide +kernel
theorem dX0_fewest_16 : decode cX0_fewest 16 = .ok (.getfield 28, 3) := by decide +kernel
theorem dX0_fewest_19 : decode cX0_fewest 19 = .ok (.if_icmp .gt 27, 3) := by decide +kernel
theorem dX0_fewest_22 : decode cX0_fewest 22 = .ok (.aload_n 0, 1) := by decide +kernel
theorem dX0_fewest_23 : decode cX0_fewest 23 = .ok (.getfield 9, 3) := by decide +kernel
theorem dX0_fewest_26 : decode cX0_fewest 26 = .ok (.aload_n 0, 1) := by decide +kernel
theorem dX0_fewest_27 : decode cX0_fewest 27 = .ok (.getfield 15, 3) := by decide +kernel
theorem dX0_fewest_30 : decode cX0_fewest 30 = .ok (.iload_n 2, 1) := by decide +kernel
theorem dX0_fewest_31 : decode cX0_fewest 31 = .ok (.iload_n 3, 1) := by decide +kernel
theorem dX0_fewest_32 : decode cX0_fewest 32 = .ok (.iload 4, 2) := by decide +kernel
theorem dX0_fewest_34 : decode cX0_fewest 34 = .ok (.invokestatic 32, 3) := by decide +kernel
theorem dX0_fewest_37 : decode cX0_fewest 37 = .ok (.ifCond .ne 9, 3) := by decide +kernel
theorem dX0_fewest_40 : decode cX0_fewest 40 = .ok (.iinc 4 1, 3) := by decide +kernel
theorem dX0_fewest_43 : decode cX0_fewest 43 = .ok (.goto (-30), 3) := by decide +kernel
theorem dX0_fewest_46 : decode cX0_fewest 46 = .ok (.iload 4, 2) := by decide +kernel
theorem dX0_fewest_48 : decode cX0_fewest 48 = .ok (.aload_n 1, 1) := by decide +kernel
theorem dX0_fewest_49 : decode cX0_fewest 49 = .ok (.getfield 28, 3) := by decide +kernel
theorem dX0_fewest_52 : decode cX0_fewest 52 = .ok (.if_icmp .le 5, 3) := by decide +kernel
theorem dX0_fewest_55 : decode cX0_fewest 55 = .ok (.iconst (-1), 1) := by decide +kernel
theorem dX0_fewest_56 : decode cX0_fewest 56 = .ok (.ireturn, 1) := by decide +kernel
theorem dX0_fewest_57 : decode cX0_fewest 57 = .ok (.aload_n 0, 1) := by decide +kernel
theorem dX0_fewest_58 : decode cX0_fewest 58 = .ok (.aload_n 1, 1) := by decide +kernel
theorem dX0_fewest_59 : decode cX0_fewest 59 = .ok (.getfield 28, 3) := by decide +kernel
theorem dX0_fewest_62 : decode cX0_fewest 62 = .ok (.iload_n 2, 1) := by decide +kernel
theorem dX0_fewest_63 : decode cX0_fewest 63 = .ok (.iload 4, 2) := by decide +kernel
theorem dX0_fewest_65 : decode cX0_fewest 65 = .ok (.invokevirtual 36, 3) := by decide +kernel
theorem dX0_fewest_68 : decode cX0_fewest 68 = .ok (.ireturn, 1) := by decide +kernel
theorem dX0_leastBits_0 : decode cX0_leastBits 0 = .ok (.iconst 0, 1) := by decide +kernel
theorem dX0_leastBits_1 : decode cX0_leastBits 1 = .ok (.istore 4, 2) := by decide +kernel
theorem dX0_leastBits_3 : decode cX0_leastBits 3 = .ok (.iload_n 2, 1) := by decide +kernel
theorem dX0_leastBits_4 : decode cX0_leastBits 4 = .ok (.istore 5, 2) := by decide +kernel
theorem dX0_leastBits_6 : decode cX0_leastBits 6 = .ok (.iload_n 3, 1) := by decide +kernel
theorem dX0_leastBits_7 : decode cX0_leastBits 7 = .ok (.istore 6, 2) := by decide +kernel
theorem dX0_leastBits_9 : decode cX0_leastBits 9 = .ok (.iload_n 1, 1) := by decide +kernel
theorem dX0_leastBits_10 : decode cX0_leastBits 10 = .ok (.iconst 1, 1) := by decide +kernel
theorem dX0_leastBits_11 : decode cX0_leastBits 11 = .ok (.isub, 1) := by decide +kernel
theorem dX0_leastBits_12 : decode cX0_leastBits 12 = .ok (.istore 7, 2) := by decide +kernel
theorem dX0_leastBits_14 : decode cX0_leastBits 14 = .ok (.iload 7, 2) := by decide +kernel
theorem dX0_leastBits_16 : decode cX0_leastBits 16 = .ok (.ifCond .lt 59, 3) := by decide +kernel
theorem dX0_leastBits_19 : decode cX0_leastBits 19 = .ok (.aload_n 0, 1) := by decide +kernel
theorem dX0_leastBits_20 : decode cX0_leastBits 20 = .ok (.getfield 9, 3) := by decide +kernel
theorem dX0_leastBits_23 : decode cX0_leastBits 23 = .ok (.aload_n 0, 1) := by decide +kernel
theorem dX0_leastBits_24 : decode cX0_leastBits 24 = .ok (.getfield 15, 3) := by decide +kernel
theorem dX0_leastBits_27 : decode cX0_leastBits 27 = .ok (.iload 5, 2) := by decide +kernel
theorem dX0_leastBits_29 : decode cX0_leastBits 29 = .ok (.iconst 1, 1) := by decide +kernel
theorem dX0_leastBits_30 : decode cX0_leastBits 30 = .ok (.iload 7, 2) := by decide +kernel
theorem dX0_leastBits_32 : decode cX0_leastBits 32 = .ok (.ishl, 1) := by decide +kernel
theorem dX0_leastBits_33 : decode cX0_leastBits 33 = .ok (.iconst 1, 1) := by decide +kernel
theorem dX0_leastBits_34 : decode cX0_leastBits 34 = .ok (.isub, 1) := by decide +kernel
theorem dX0_leastBits_35 : decode cX0_leastBits 35 = .ok (.iload 6, 2) := by decide +kernel
theorem dX0_leastBits_37 : decode cX0_leastBits 37 = .ok (.invokestatic 32, 3) := by decide +kernel
theorem dX0_leastBits_40 : decode cX0_leastBits 40 = .ok (.ifCond .ne 29, 3) := by decide +kernel
theorem dX0_leastBits_43 : decode cX0_leastBits 43 = .ok (.iload 4, 2) := by decide +kernel
theorem dX0_leastBits_45 : decode cX0_leastBits 45 = .ok (.iconst 1, 1) := by decide +kernel
theorem dX0_leastBits_46 : decode cX0_leastBits 46 = .ok (.iload 7, 2) := by decide +kernel
theorem dX0_leastBits_48 : decode cX0_leastBits 48 = .ok (.ishl, 1) := by decide +kernel
theorem dX0_leastBits_49 : decode cX0_leastBits 49 = .ok (.ior, 1) := by decide +kernel
theorem dX0_leastBits_50 : decode cX0_leastBits 50 = .ok (.istore 4, 2) := by decide +kernel
theorem dX0_leastBits_52 : decode cX0_leastBits 52 = .ok (.iload 5, 2) := by decide +kernel
theorem dX0_leastBits_54 : decode cX0_leastBits 54 = .ok (.aload_n 0, 1) := by decide +kernel
theorem dX0_leastBits_55 : decode cX0_leastBits 55 = .ok (.getfield 9, 3) := by decide +kernel
theorem dX0_leastBits_58 : decode cX0_leastBits 58 = .ok (.iload 7, 2) := by decide +kernel
theorem dX0_leastBits_60 : decode cX0_leastBits 60 = .ok (.iaload, 1) := by decide +kernel
theorem dX0_leastBits_61 : decode cX0_leastBits 61 = .ok (.iconst (-1), 1) := by decide +kernel
theorem dX0_leastBits_62 : decode cX0_leastBits 62 = .ok (.ixor, 1) := by decide +kernel
theorem dX0_leastBits_63 : decode cX0_leastBits 63 = .ok (.iand, 1) := by decide +kernel
theorem dX0_leastBits_64 : decode cX0_leastBits 64 = .ok (.istore 5, 2) := by decide +kernel
theorem dX0_leastBits_66 : decode cX0_leastBits 66 = .ok (.iinc 6 (-1), 3) := by decide +kernel
theorem dX0_leastBits_69 : decode cX0_leastBits 69 = .ok (.iinc 7 (-1), 3) := by decide +kernel
theorem dX0_leastBits_72 : decode cX0_leastBits 72 = .ok (.goto (-58), 3) := by decide +kernel
theorem dX0_leastBits_75 : decode cX0_leastBits 75 = .ok (.iload 4, 2) := by decide +kernel
theorem dX0_leastBits_77 : decode cX0_leastBits 77 = .ok (.ireturn, 1) := by decide +kernel
theorem dX0_look_0 : decode cX0_look 0 = .ok (.aload_n 0, 1) := by decide +kernel
theorem dX0_look_1 : decode cX0_look 1 = .ok (.getfield 15, 3) := by decide +kernel
theorem dX0_look_4 : decode cX0_look 4 = .ok (.iconst 0, 1) := by decide +kernel
theorem dX0_look_5 : decode cX0_look 5 = .ok (.invokestatic 40, 3) := by decide +kernel
theorem dX0_look_8 : decode cX0_look 8 = .ok (.iconst 0, 1) := by decide +kernel
theorem dX0_look_9 : decode cX0_look 9 = .ok (.istore_n 2, 1) := by decide +kernel
theorem dX0_look_10 : decode cX0_look 10 = .ok (.iload_n 2, 1) := by decide +kernel
theorem dX0_look_11 : decode cX0_look 11 = .ok (.aload_n 1, 1) := by decide +kernel
theorem dX0_look_12 : decode cX0_look 12 = .ok (.getfield 28, 3) := by decide +kernel
theorem dX0_look_15 : decode cX0_look 15 = .ok (.if_icmp .ge 57, 3) := by decide +kernel
theorem dX0_look_18 : decode cX0_look 18 = .ok (.aload_n 0, 1) := by decide +kernel
theorem dX0_look_19 : decode cX0_look 19 = .ok (.getfield 9, 3) := by decide +kernel
theorem dX0_look_22 : decode cX0_look 22 = .ok (.iload_n 2, 1) := by decide +kernel
theorem dX0_look_23 : decode cX0_look 23 = .ok (.aload_n 1, 1) := by decide +kernel
theorem dX0_look_24 : decode cX0_look 24 = .ok (.iload_n 2, 1) := by decide +kernel
theorem dX0_look_25 : decode cX0_look 25 = .ok (.invokevirtual 46, 3) := by decide +kernel
theorem dX0_look_28 : decode cX0_look 28 = .ok (.iastore, 1) := by decide +kernel
theorem dX0_look_29 : decode cX0_look 29 = .ok (.iconst 0, 1) := by decide +kernel
theorem dX0_look_30 : decode cX0_look 30 = .ok (.istore_n 3, 1) := by decide +kernel
theorem dX0_look_31 : decode cX0_look 31 = .ok (.iload_n 3, 1) := by decide +kernel
theorem dX0_look_32 : decode cX0_look 32 = .ok (.aload_n 1, 1) := by decide +kernel
theorem dX0_look_33 : decode cX0_look 33 = .ok (.getfield 28, 3) := by decide +kernel
theorem dX0_look_36 : decode cX0_look 36 = .ok (.if_icmp .ge 30, 3) := by decide +kernel
theorem dX0_look_39 : decode cX0_look 39 = .ok (.aload_n 0, 1) := by decide +kernel
theorem dX0_look_40 : decode cX0_look 40 = .ok (.getfield 15, 3) := by decide +kernel
theorem dX0_look_43 : decode cX0_look 43 = .ok (.iload_n 3, 1) := by decide +kernel
theorem dX0_look_44 : decode cX0_look 44 = .ok (.dup2, 1) := by decide +kernel
theorem dX0_look_45 : decode cX0_look 45 = .ok (.iaload, 1) := by decide +kernel
theorem dX0_look_46 : decode cX0_look 46 = .ok (.aload_n 0, 1) := by decide +kernel
theorem dX0_look_47 : decode cX0_look 47 = .ok (.getfield 9, 3) := by decide +kernel
theorem dX0_look_50 : decode cX0_look 50 = .ok (.iload_n 2, 1) := by decide +kernel
theorem dX0_look_51 : decode cX0_look 51 = .ok (.iaload, 1) := by decide +kernel
theorem dX0_look_52 : decode cX0_look 52 = .ok (.iload_n 3, 1) := by decide +kernel
theorem dX0_look_53 : decode cX0_look 53 = .ok (.ishr, 1) := by decide +kernel
theorem dX0_look_54 : decode cX0_look 54 = .ok (.iconst 1, 1) := by decide +kernel
theorem dX0_look_55 : decode cX0_look 55 = .ok (.iand, 1) := by decide +kernel
theorem dX0_look_56 : decode cX0_look 56 = .ok (.iload_n 2, 1) := by decide +kernel
theorem dX0_look_57 : decode cX0_look 57 = .ok (.ishl, 1) := by decide +kernel
theorem dX0_look_58 : decode cX0_look 58 = .ok (.ior, 1) := by decide +kernel
theorem dX0_look_59 : decode cX0_look 59 = .ok (.iastore, 1) := by decide +kernel
theorem dX0_look_60 : decode cX0_look 60 = .ok (.iinc 3 1, 3) := by decide +kernel
theorem dX0_look_63 : decode cX0_look 63 = .ok (.goto (-32), 3) := by decide +kernel
theorem dX0_look_66 : decode cX0_look 66 = .ok (.iinc 2 1, 3) := by decide +kernel
theorem dX0_look_69 : decode cX0_look 69 = .ok (.goto (-59), 3) := by decide +kernel
theorem dX0_look_72 : decode cX0_look 72 = .ok (.return_, 1) := by decide +kernel
theorem dX0_canLight_0 : decode cX0_canLight 0 = .ok (.iload_n 2, 1) := by decide +kernel
theorem dX0_canLight_1 : decode cX0_canLight 1 = .ok (.ifCond .ne 5, 3) := by decide +kernel
theorem dX0_canLight_4 : decode cX0_canLight 4 = .ok (.iconst 1, 1) := by decide +kernel
theorem dX0_canLight_5 : decode cX0_canLight 5 = .ok (.ireturn, 1) := by decide +kernel
theorem dX0_canLight_6 : decode cX0_canLight 6 = .ok (.iload_n 2, 1) := by decide +kernel
theorem dX0_canLight_7 : decode cX0_canLight 7 = .ok (.invokestatic 49, 3) := by decide +kernel
theorem dX0_canLight_10 : decode cX0_canLight 10 = .ok (.istore 5, 2) := by decide +kernel
theorem dX0_canLight_12 : decode cX0_canLight 12 = .ok (.iload 4, 2) := by decide +kernel
theorem dX0_canLight_14 : decode cX0_canLight 14 = .ok (.ifCond .le 10, 3) := by decide +kernel
theorem dX0_canLight_17 : decode cX0_canLight 17 = .ok (.iload 5, 2) := by decide +kernel
theorem dX0_canLight_19 : decode cX0_canLight 19 = .ok (.bipush 16, 2) := by decide +kernel
theorem dX0_canLight_21 : decode cX0_canLight 21 = .ok (.if_icmp .lt 5, 3) := by decide +kernel
theorem dX0_canLight_24 : decode cX0_canLight 24 = .ok (.iconst 0, 1) := by decide +kernel
theorem dX0_canLight_25 : decode cX0_canLight 25 = .ok (.ireturn, 1) := by decide +kernel
theorem dX0_canLight_26 : decode cX0_canLight 26 = .ok (.aload_n 1, 1) := by decide +kernel
theorem dX0_canLight_27 : decode cX0_canLight 27 = .ok (.iload 5, 2) := by decide +kernel
theorem dX0_canLight_29 : decode cX0_canLight 29 = .ok (.iaload, 1) := by decide +kernel
theorem dX0_canLight_30 : decode cX0_canLight 30 = .ok (.iload_n 3, 1) := by decide +kernel
theorem dX0_canLight_31 : decode cX0_canLight 31 = .ok (.iand, 1) := by decide +kernel
theorem dX0_canLight_32 : decode cX0_canLight 32 = .ok (.istore 6, 2) := by decide +kernel
theorem dX0_canLight_34 : decode cX0_canLight 34 = .ok (.iconst 0, 1) := by decide +kernel
theorem dX0_canLight_35 : decode cX0_canLight 35 = .ok (.istore 7, 2) := by decide +kernel
theorem dX0_canLight_37 : decode cX0_canLight 37 = .ok (.iload 7, 2) := by decide +kernel
theorem dX0_canLight_39 : decode cX0_canLight 39 = .ok (.bipush 16, 2) := by decide +kernel
theorem dX0_canLight_41 : decode cX0_canLight 41 = .ok (.if_icmp .ge 42, 3) := by decide +kernel
theorem dX0_canLight_44 : decode cX0_canLight 44 = .ok (.iload 6, 2) := by decide +kernel
theorem dX0_canLight_46 : decode cX0_canLight 46 = .ok (.iload 7, 2) := by decide +kernel
theorem dX0_canLight_48 : decode cX0_canLight 48 = .ok (.ishr, 1) := by decide +kernel
theorem dX0_canLight_49 : decode cX0_canLight 49 = .ok (.iconst 1, 1) := by decide +kernel
theorem dX0_canLight_50 : decode cX0_canLight 50 = .ok (.iand, 1) := by decide +kernel
theorem dX0_canLight_51 : decode cX0_canLight 51 = .ok (.ifCond .eq 26, 3) := by decide +kernel
theorem dX0_canLight_54 : decode cX0_canLight 54 = .ok (.aload_n 0, 1) := by decide +kernel
theorem dX0_canLight_55 : decode cX0_canLight 55 = .ok (.aload_n 1, 1) := by decide +kernel
theorem dX0_canLight_56 : decode cX0_canLight 56 = .ok (.iload_n 2, 1) := by decide +kernel
theorem dX0_canLight_57 : decode cX0_canLight 57 = .ok (.aload_n 0, 1) := by decide +kernel
theorem dX0_canLight_58 : decode cX0_canLight 58 = .ok (.iload 7, 2) := by decide +kernel
theorem dX0_canLight_60 : decode cX0_canLight 60 = .ok (.iaload, 1) := by decide +kernel
theorem dX0_canLight_61 : decode cX0_canLight 61 = .ok (.iconst (-1), 1) := by decide +kernel
theorem dX0_canLight_62 : decode cX0_canLight 62 = .ok (.ixor, 1) := by decide +kernel
theorem dX0_canLight_63 : decode cX0_canLight 63 = .ok (.iand, 1) := by decide +kernel
theorem dX0_canLight_64 : decode cX0_canLight 64 = .ok (.iload_n 3, 1) := by decide +kernel
theorem dX0_canLight_65 : decode cX0_canLight 65 = .ok (.iload 4, 2) := by decide +kernel
theorem dX0_canLight_67 : decode cX0_canLight 67 = .ok (.iconst 1, 1) := by decide +kernel
theorem dX0_canLight_68 : decode cX0_canLight 68 = .ok (.isub, 1) := by decide +kernel
theorem dX0_canLight_69 : decode cX0_canLight 69 = .ok (.invokestatic 32, 3) := by decide +kernel
theorem dX0_canLight_72 : decode cX0_canLight 72 = .ok (.ifCond .eq 5, 3) := by decide +kernel
theorem dX0_canLight_75 : decode cX0_canLight 75 = .ok (.iconst 1, 1) := by decide +kernel
theorem dX0_canLight_76 : decode cX0_canLight 76 = .ok (.ireturn, 1) := by decide +kernel
theorem dX0_canLight_77 : decode cX0_canLight 77 = .ok (.iinc 7 1, 3) := by decide +kernel
theorem dX0_canLight_80 : decode cX0_canLight 80 = .ok (.goto (-43), 3) := by decide +kernel
theorem dX0_canLight_83 : decode cX0_canLight 83 = .ok (.iconst 0, 1) := by decide +kernel
theorem dX0_canLight_84 : decode cX0_canLight 84 = .ok (.ireturn, 1) := by decide +kernel
theorem dX1_init_0 : decode cX1_init 0 = .ok (.aload_n 0, 1) := by decide +kernel
theorem dX1_init_1 : decode cX1_init 1 = .ok (.invokespecial 3, 3) := by decide +kernel
theorem dX1_init_4 : decode cX1_init 4 = .ok (.aload_n 0, 1) := by decide +kernel
theorem dX1_init_5 : decode cX1_init 5 = .ok (.sipush 176, 3) := by decide +kernel
theorem dX1_init_8 : decode cX1_init 8 = .ok (.newarray .long, 2) := by decide +kernel
theorem dX1_init_10 : decode cX1_init 10 = .ok (.putfield 11, 3) := by decide +kernel
theorem dX1_init_13 : decode cX1_init 13 = .ok (.aload_n 0, 1) := by decide +kernel
theorem dX1_init_14 : decode cX1_init 14 = .ok (.sipush 176, 3) := by decide +kernel
theorem dX1_init_17 : decode cX1_init 17 = .ok (.newarray .long, 2) := by decide +kernel
theorem dX1_init_19 : decode cX1_init 19 = .ok (.putfield 15, 3) := by decide +kernel
theorem dX1_init_22 : decode cX1_init 22 = .ok (.aload_n 0, 1) := by decide +kernel
theorem dX1_init_23 : decode cX1_init 23 = .ok (.iconst 0, 1) := by decide +kernel
theorem dX1_init_24 : decode cX1_init 24 = .ok (.putfield 18, 3) := by decide +kernel
theorem dX1_init_27 : decode cX1_init 27 = .ok (.aload_n 0, 1) := by decide +kernel
theorem dX1_init_28 : decode cX1_init 28 = .ok (.iconst 0, 1) := by decide +kernel
theorem dX1_init_29 : decode cX1_init 29 = .ok (.putfield 22, 3) := by decide +kernel
theorem dX1_init_32 : decode cX1_init 32 = .ok (.aload_n 0, 1) := by decide +kernel
theorem dX1_init_33 : decode cX1_init 33 = .ok (.iconst 0, 1) := by decide +kernel
theorem dX1_init_34 : decode cX1_init 34 = .ok (.putfield 25, 3) := by decide +kernel
theorem dX1_init_37 : decode cX1_init 37 = .ok (.return_, 1) := by decide +kernel
theorem dX1_countUnlike_0 : decode cX1_countUnlike 0 = .ok (.aload_n 0, 1) := by decide +kernel
theorem dX1_countUnlike_1 : decode cX1_countUnlike 1 = .ok (.iconst 0, 1) := by decide +kernel
theorem dX1_countUnlike_2 : decode cX1_countUnlike 2 = .ok (.putfield 18, 3) := by decide +kernel
theorem dX1_countUnlike_5 : decode cX1_countUnlike 5 = .ok (.aload_n 2, 1) := by decide +kernel
theorem dX1_countUnlike_6 : decode cX1_countUnlike 6 = .ok (.iload_n 3, 1) := by decide +kernel
theorem dX1_countUnlike_7 : decode cX1_countUnlike 7 = .ok (.invokevirtual 28, 3) := by decide +kernel
theorem dX1_countUnlike_10 : decode cX1_countUnlike 10 = .ok (.istore 4, 2) := by decide +kernel
theorem dX1_countUnlike_12 : decode cX1_countUnlike 12 = .ok (.aload_n 2, 1) := by decide +kernel
theorem dX1_countUnlike_13 : decode cX1_countUnlike 13 = .ok (.iload_n 3, 1) := by decide +kernel
theorem dX1_countUnlike_14 : decode cX1_countUnlike 14 = .ok (.invokevirtual 34, 3) := by decide +kernel
theorem dX1_countUnlike_17 : decode cX1_countUnlike 17 = .ok (.istore 5, 2) := by decide +kernel
theorem dX1_countUnlike_19 : decode cX1_countUnlike 19 = .ok (.iload 5, 2) := by decide +kernel
theorem dX1_countUnlike_21 : decode cX1_countUnlike 21 = .ok (.iload 4, 2) := by decide +kernel
theorem dX1_countUnlike_23 : decode cX1_countUnlike 23 = .ok (.if_icmp .ge 45, 3) := by decide +kernel
theorem dX1_countUnlike_26 : decode cX1_countUnlike 26 = .ok (.aload_n 2, 1) := by decide +kernel
theorem dX1_countUnlike_27 : decode cX1_countUnlike 27 = .ok (.getfield 37, 3) := by decide +kernel
theorem dX1_countUnlike_30 : decode cX1_countUnlike 30 = .ok (.iload 5, 2) := by decide +kernel
theorem dX1_countUnlike_32 : decode cX1_countUnlike 32 = .ok (.baload, 1) := by decide +kernel
theorem dX1_countUnlike_33 : decode cX1_countUnlike 33 = .ok (.ifCond .ne 29, 3) := by decide +kernel
theorem dX1_countUnlike_36 : decode cX1_countUnlike 36 = .ok (.aload_n 1, 1) := by decide +kernel
theorem dX1_countUnlike_37 : decode cX1_countUnlike 37 = .ok (.aload_n 2, 1) := by decide +kernel
theorem dX1_countUnlike_38 : decode cX1_countUnlike 38 = .ok (.getfield 41, 3) := by decide +kernel
theorem dX1_countUnlike_41 : decode cX1_countUnlike 41 = .ok (.iload 5, 2) := by decide +kernel
theorem dX1_countUnlike_43 : decode cX1_countUnlike 43 = .ok (.laload, 1) := by decide +kernel
theorem dX1_countUnlike_44 : decode cX1_countUnlike 44 = .ok (.invokevirtual 44, 3) := by decide +kernel
theorem dX1_countUnlike_47 : decode cX1_countUnlike 47 = .ok (.aload_n 0, 1) := by decide +kernel
theorem dX1_countUnlike_48 : decode cX1_countUnlike 48 = .ok (.aload_n 1, 1) := by decide +kernel
theorem dX1_countUnlike_49 : decode cX1_countUnlike 49 = .ok (.iconst 0, 1) := by decide +kernel
theorem dX1_countUnlike_50 : decode cX1_countUnlike 50 = .ok (.invokestatic 50, 3) := by decide +kernel
theorem dX1_countUnlike_53 : decode cX1_countUnlike 53 = .ok (.aload_n 1, 1) := by decide +kernel
theorem dX1_countUnlike_54 : decode cX1_countUnlike 54 = .ok (.bipush 8, 2) := by decide +kernel
theorem dX1_countUnlike_56 : decode cX1_countUnlike 56 = .ok (.invokestatic 50, 3) := by decide +kernel
theorem dX1_countUnlike_59 : decode cX1_countUnlike 59 = .ok (.invokevirtual 54, 3) := by decide +kernel
theorem dX1_countUnlike_62 : decode cX1_countUnlike 62 = .ok (.iinc 5 1, 3) := by decide +kernel
theorem dX1_countUnlike_65 : decode cX1_countUnlike 65 = .ok (.goto (-46), 3) := by decide +kernel
theorem dX1_countUnlike_68 : decode cX1_countUnlike 68 = .ok (.aload_n 0, 1) := by decide +kernel
theorem dX1_countUnlike_69 : decode cX1_countUnlike 69 = .ok (.getfield 18, 3) := by decide +kernel
theorem dX1_countUnlike_72 : decode cX1_countUnlike 72 = .ok (.ireturn, 1) := by decide +kernel
theorem dX1_packed_0 : decode cX1_packed 0 = .ok (.lconst 0, 1) := by decide +kernel
theorem dX1_packed_1 : decode cX1_packed 1 = .ok (.lstore_n 2, 1) := by decide +kernel
theorem dX1_packed_2 : decode cX1_packed 2 = .ok (.iload_n 1, 1) := by decide +kernel
theorem dX1_packed_3 : decode cX1_packed 3 = .ok (.bipush 8, 2) := by decide +kernel
theorem dX1_packed_5 : decode cX1_packed 5 = .ok (.iadd, 1) := by decide +kernel
theorem dX1_packed_6 : decode cX1_packed 6 = .ok (.aload_n 0, 1) := by decide +kernel
theorem dX1_packed_7 : decode cX1_packed 7 = .ok (.getfield 58, 3) := by decide +kernel
theorem dX1_packed_10 : decode cX1_packed 10 = .ok (.getfield 62, 3) := by decide +kernel
theorem dX1_packed_13 : decode cX1_packed 13 = .ok (.invokestatic 67, 3) := by decide +kernel
theorem dX1_packed_16 : decode cX1_packed 16 = .ok (.istore 4, 2) := by decide +kernel
theorem dX1_packed_18 : decode cX1_packed 18 = .ok (.iload_n 1, 1) := by decide +kernel
theorem dX1_packed_19 : decode cX1_packed 19 = .ok (.istore 5, 2) := by decide +kernel
theorem dX1_packed_21 : decode cX1_packed 21 = .ok (.iload 5, 2) := by decide +kernel
theorem dX1_packed_23 : decode cX1_packed 23 = .ok (.iload 4, 2) := by decide +kernel
theorem dX1_packed_25 : decode cX1_packed 25 = .ok (.if_icmp .ge 37, 3) := by decide +kernel
theorem dX1_packed_28 : decode cX1_packed 28 = .ok (.lload_n 2, 1) := by decide +kernel
theorem dX1_packed_29 : decode cX1_packed 29 = .ok (.bipush 7, 2) := by decide +kernel
theorem dX1_packed_31 : decode cX1_packed 31 = .ok (.lshl, 1) := by decide +kernel
theorem dX1_packed_32 : decode cX1_packed 32 = .ok (.aload_n 0, 1) := by decide +kernel
theorem dX1_packed_33 : decode cX1_packed 33 = .ok (.getfield 58, 3) := by decide +kernel
theorem dX1_packed_36 : decode cX1_packed 36 = .ok (.getfield 73, 3) := by decide +kernel
theorem dX1_packed_39 : decode cX1_packed 39 = .ok (.iload 5, 2) := by decide +kernel
theorem dX1_packed_41 : decode cX1_packed 41 = .ok (.iaload, 1) := by decide +kernel
theorem dX1_packed_42 : decode cX1_packed 42 = .ok (.aload_n 0, 1) := by decide +kernel
theorem dX1_packed_43 : decode cX1_packed 43 = .ok (.aload_n 0, 1) := by decide +kernel
theorem dX1_packed_44 : decode cX1_packed 44 = .ok (.getfield 77, 3) := by decide +kernel
theorem dX1_packed_47 : decode cX1_packed 47 = .ok (.iload 5, 2) := by decide +kernel
theorem dX1_packed_49 : decode cX1_packed 49 = .ok (.invokevirtual 80, 3) := by decide +kernel
theorem dX1_packed_52 : decode cX1_packed 52 = .ok (.isub, 1) := by decide +kernel
theorem dX1_packed_53 : decode cX1_packed 53 = .ok (.i2l, 1) := by decide +kernel
theorem dX1_packed_54 : decode cX1_packed 54 = .ok (.lor, 1) := by decide +kernel
theorem dX1_packed_55 : decode cX1_packed 55 = .ok (.lstore_n 2, 1) := by decide +kernel
theorem dX1_packed_56 : decode cX1_packed 56 = .ok (.iinc 5 1, 3) := by decide +kernel
theorem dX1_packed_59 : decode cX1_packed 59 = .ok (.goto (-38), 3) := by decide +kernel
theorem dX1_packed_62 : decode cX1_packed 62 = .ok (.lload_n 2, 1) := by decide +kernel
theorem dX1_packed_63 : decode cX1_packed 63 = .ok (.lreturn, 1) := by decide +kernel
theorem dX1_keep_0 : decode cX1_keep 0 = .ok (.iconst 0, 1) := by decide +kernel
theorem dX1_keep_1 : decode cX1_keep 1 = .ok (.istore 5, 2) := by decide +kernel
theorem dX1_keep_3 : decode cX1_keep 3 = .ok (.iload 5, 2) := by decide +kernel
theorem dX1_keep_5 : decode cX1_keep 5 = .ok (.aload_n 0, 1) := by decide +kernel
theorem dX1_keep_6 : decode cX1_keep 6 = .ok (.getfield 18, 3) := by decide +kernel
theorem dX1_keep_9 : decode cX1_keep 9 = .ok (.if_icmp .ge 34, 3) := by decide +kernel
theorem dX1_keep_12 : decode cX1_keep 12 = .ok (.aload_n 0, 1) := by decide +kernel
theorem dX1_keep_13 : decode cX1_keep 13 = .ok (.getfield 11, 3) := by decide +kernel
theorem dX1_keep_16 : decode cX1_keep 16 = .ok (.iload 5, 2) := by decide +kernel
theorem dX1_keep_18 : decode cX1_keep 18 = .ok (.laload, 1) := by decide +kernel
theorem dX1_keep_19 : decode cX1_keep 19 = .ok (.lload_n 1, 1) := by decide +kernel
theorem dX1_keep_20 : decode cX1_keep 20 = .ok (.lcmp, 1) := by decide +kernel
theorem dX1_keep_21 : decode cX1_keep 21 = .ok (.ifCond .ne 16, 3) := by decide +kernel
theorem dX1_keep_24 : decode cX1_keep 24 = .ok (.aload_n 0, 1) := by decide +kernel
theorem dX1_keep_25 : decode cX1_keep 25 = .ok (.getfield 15, 3) := by decide +kernel
theorem dX1_keep_28 : decode cX1_keep 28 = .ok (.iload 5, 2) := by decide +kernel
theorem dX1_keep_30 : decode cX1_keep 30 = .ok (.laload, 1) := by decide +kernel
theorem dX1_keep_31 : decode cX1_keep 31 = .ok (.lload_n 3, 1) := by decide +kernel
theorem dX1_keep_32 : decode cX1_keep 32 = .ok (.lcmp, 1) := by decide +kernel
theorem dX1_keep_33 : decode cX1_keep 33 = .ok (.ifCond .ne 4, 3) := by decide +kernel
theorem dX1_keep_36 : decode cX1_keep 36 = .ok (.return_, 1) := by decide +kernel
theorem dX1_keep_37 : decode cX1_keep 37 = .ok (.iinc 5 1, 3) := by decide +kernel
theorem dX1_keep_40 : decode cX1_keep 40 = .ok (.goto (-37), 3) := by decide +kernel
theorem dX1_keep_43 : decode cX1_keep 43 = .ok (.aload_n 0, 1) := by decide +kernel
theorem dX1_keep_44 : decode cX1_keep 44 = .ok (.getfield 18, 3) := by decide +kernel
theorem dX1_keep_47 : decode cX1_keep 47 = .ok (.sipush 176, 3) := by decide +kernel
theorem dX1_keep_50 : decode cX1_keep 50 = .ok (.if_icmp .ge 33, 3) := by decide +kernel
theorem dX1_keep_53 : decode cX1_keep 53 = .ok (.aload_n 0, 1) := by decide +kernel
theorem dX1_keep_54 : decode cX1_keep 54 = .ok (.getfield 11, 3) := by decide +kernel
theorem dX1_keep_57 : decode cX1_keep 57 = .ok (.aload_n 0, 1) := by decide +kernel
theorem dX1_keep_58 : decode cX1_keep 58 = .ok (.getfield 18, 3) := by decide +kernel
theorem dX1_keep_61 : decode cX1_keep 61 = .ok (.lload_n 1, 1) := by decide +kernel
theorem dX1_keep_62 : decode cX1_keep 62 = .ok (.lastore, 1) := by decide +kernel
theorem dX1_keep_63 : decode cX1_keep 63 = .ok (.aload_n 0, 1) := by decide +kernel
theorem dX1_keep_64 : decode cX1_keep 64 = .ok (.getfield 15, 3) := by decide +kernel
theorem dX1_keep_67 : decode cX1_keep 67 = .ok (.aload_n 0, 1) := by decide +kernel
theorem dX1_keep_68 : decode cX1_keep 68 = .ok (.getfield 18, 3) := by decide +kernel
theorem dX1_keep_71 : decode cX1_keep 71 = .ok (.lload_n 3, 1) := by decide +kernel
theorem dX1_keep_72 : decode cX1_keep 72 = .ok (.lastore, 1) := by decide +kernel
theorem dX1_keep_73 : decode cX1_keep 73 = .ok (.aload_n 0, 1) := by decide +kernel
theorem dX1_keep_74 : decode cX1_keep 74 = .ok (.dup, 1) := by decide +kernel
theorem dX1_keep_75 : decode cX1_keep 75 = .ok (.getfield 18, 3) := by decide +kernel
theorem dX1_keep_78 : decode cX1_keep 78 = .ok (.iconst 1, 1) := by decide +kernel
theorem dX1_keep_79 : decode cX1_keep 79 = .ok (.iadd, 1) := by decide +kernel
theorem dX1_keep_80 : decode cX1_keep 80 = .ok (.putfield 18, 3) := by decide +kernel
theorem dX1_keep_83 : decode cX1_keep 83 = .ok (.return_, 1) := by decide +kernel
theorem dX1_explainNothing_0 : decode cX1_explainNothing 0 = .ok (.aload_n 0, 1) := by decide +kernel
theorem dX1_explainNothing_1 : decode cX1_explainNothing 1 = .ok (.iconst 0, 1) := by decide +kernel
theorem dX1_explainNothing_2 : decode cX1_explainNothing 2 = .ok (.putfield 22, 3) := by decide +kernel
theorem dX1_explainNothing_5 : decode cX1_explainNothing 5 = .ok (.aload_n 0, 1) := by decide +kernel
theorem dX1_explainNothing_6 : decode cX1_explainNothing 6 = .ok (.iconst 0, 1) := by decide +kernel
theorem dX1_explainNothing_7 : decode cX1_explainNothing 7 = .ok (.putfield 25, 3) := by decide +kernel
theorem dX1_explainNothing_10 : decode cX1_explainNothing 10 = .ok (.return_, 1) := by decide +kernel
theorem dX1_explain_0 : decode cX1_explain 0 = .ok (.aload_n 0, 1) := by decide +kernel
theorem dX1_explain_1 : decode cX1_explain 1 = .ok (.invokevirtual 84, 3) := by decide +kernel
theorem dX1_explain_4 : decode cX1_explain 4 = .ok (.aload_n 1, 1) := by decide +kernel
theorem dX1_explain_5 : decode cX1_explain 5 = .ok (.getfield 58, 3) := by decide +kernel
theorem dX1_explain_8 : decode cX1_explain 8 = .ok (.invokevirtual 87, 3) := by decide +kernel
theorem dX1_explain_11 : decode cX1_explain 11 = .ok (.istore 5, 2) := by decide +kernel
theorem dX1_explain_13 : decode cX1_explain 13 = .ok (.aload_n 2, 1) := by decide +kernel
theorem dX1_explain_14 : decode cX1_explain 14 = .ok (.iload_n 3, 1) := by decide +kernel
theorem dX1_explain_15 : decode cX1_explain 15 = .ok (.invokevirtual 28, 3) := by decide +kernel
theorem dX1_explain_18 : decode cX1_explain 18 = .ok (.istore 6, 2) := by decide +kernel
theorem dX1_explain_20 : decode cX1_explain 20 = .ok (.aload_n 2, 1) := by decide +kernel
theorem dX1_explain_21 : decode cX1_explain 21 = .ok (.iload_n 3, 1) := by decide +kernel
theorem dX1_explain_22 : decode cX1_explain 22 = .ok (.invokevirtual 34, 3) := by decide +kernel
theorem dX1_explain_25 : decode cX1_explain 25 = .ok (.istore 7, 2) := by decide +kernel
theorem dX1_explain_27 : decode cX1_explain 27 = .ok (.iload 7, 2) := by decide +kernel
theorem dX1_explain_29 : decode cX1_explain 29 = .ok (.iload 6, 2) := by decide +kernel
theorem dX1_explain_31 : decode cX1_explain 31 = .ok (.if_icmp .ge 54, 3) := by decide +kernel
theorem dX1_explain_34 : decode cX1_explain 34 = .ok (.aload_n 1, 1) := by decide +kernel
theorem dX1_explain_35 : decode cX1_explain 35 = .ok (.aload_n 2, 1) := by decide +kernel
theorem dX1_explain_36 : decode cX1_explain 36 = .ok (.getfield 41, 3) := by decide +kernel
theorem dX1_explain_39 : decode cX1_explain 39 = .ok (.iload 7, 2) := by decide +kernel
theorem dX1_explain_41 : decode cX1_explain 41 = .ok (.laload, 1) := by decide +kernel
theorem dX1_explain_42 : decode cX1_explain 42 = .ok (.invokevirtual 44, 3) := by decide +kernel
theorem dX1_explain_45 : decode cX1_explain 45 = .ok (.aload_n 1, 1) := by decide +kernel
theorem dX1_explain_46 : decode cX1_explain 46 = .ok (.aload 4, 2) := by decide +kernel
theorem dX1_explain_48 : decode cX1_explain 48 = .ok (.invokestatic 91, 3) := by decide +kernel
theorem dX1_explain_51 : decode cX1_explain 51 = .ok (.ifCond .eq 28, 3) := by decide +kernel
theorem dX1_explain_54 : decode cX1_explain 54 = .ok (.aload_n 0, 1) := by decide +kernel
theorem dX1_explain_55 : decode cX1_explain 55 = .ok (.dup, 1) := by decide +kernel
theorem dX1_explain_56 : decode cX1_explain 56 = .ok (.getfield 22, 3) := by decide +kernel
theorem dX1_explain_59 : decode cX1_explain 59 = .ok (.aload_n 2, 1) := by decide +kernel
theorem dX1_explain_60 : decode cX1_explain 60 = .ok (.getfield 95, 3) := by decide +kernel
theorem dX1_explain_63 : decode cX1_explain 63 = .ok (.iload 7, 2) := by decide +kernel
theorem dX1_explain_65 : decode cX1_explain 65 = .ok (.iaload, 1) := by decide +kernel
theorem dX1_explain_66 : decode cX1_explain 66 = .ok (.iadd, 1) := by decide +kernel
theorem dX1_explain_67 : decode cX1_explain 67 = .ok (.putfield 22, 3) := by decide +kernel
theorem dX1_explain_70 : decode cX1_explain 70 = .ok (.iload 5, 2) := by decide +kernel
theorem dX1_explain_72 : decode cX1_explain 72 = .ok (.aload_n 1, 1) := by decide +kernel
theorem dX1_explain_73 : decode cX1_explain 73 = .ok (.invokevirtual 98, 3) := by decide +kernel
theorem dX1_explain_76 : decode cX1_explain 76 = .ok (.iand, 1) := by decide +kernel
theorem dX1_explain_77 : decode cX1_explain 77 = .ok (.istore 5, 2) := by decide +kernel
theorem dX1_explain_79 : decode cX1_explain 79 = .ok (.iinc 7 1, 3) := by decide +kernel
theorem dX1_explain_82 : decode cX1_explain 82 = .ok (.goto (-55), 3) := by decide +kernel
theorem dX1_explain_85 : decode cX1_explain 85 = .ok (.aload_n 0, 1) := by decide +kernel
theorem dX1_explain_86 : decode cX1_explain 86 = .ok (.getfield 22, 3) := by decide +kernel
theorem dX1_explain_89 : decode cX1_explain 89 = .ok (.ifCond .le 9, 3) := by decide +kernel
theorem dX1_explain_92 : decode cX1_explain 92 = .ok (.aload_n 0, 1) := by decide +kernel
theorem dX1_explain_93 : decode cX1_explain 93 = .ok (.iload 5, 2) := by decide +kernel
theorem dX1_explain_95 : decode cX1_explain 95 = .ok (.putfield 25, 3) := by decide +kernel
theorem dX1_explain_98 : decode cX1_explain 98 = .ok (.return_, 1) := by decide +kernel
theorem dX1_leaves_0 : decode cX1_leaves 0 = .ok (.iconst 0, 1) := by decide +kernel
theorem dX1_leaves_1 : decode cX1_leaves 1 = .ok (.istore_n 2, 1) := by decide +kernel
theorem dX1_leaves_2 : decode cX1_leaves 2 = .ok (.iload_n 2, 1) := by decide +kernel
theorem dX1_leaves_3 : decode cX1_leaves 3 = .ok (.aload_n 0, 1) := by decide +kernel
theorem dX1_leaves_4 : decode cX1_leaves 4 = .ok (.getfield 58, 3) := by decide +kernel
theorem dX1_leaves_7 : decode cX1_leaves 7 = .ok (.getfield 62, 3) := by decide +kernel
theorem dX1_leaves_10 : decode cX1_leaves 10 = .ok (.if_icmp .ge 40, 3) := by decide +kernel
theorem dX1_leaves_13 : decode cX1_leaves 13 = .ok (.aload_n 0, 1) := by decide +kernel
theorem dX1_leaves_14 : decode cX1_leaves 14 = .ok (.getfield 58, 3) := by decide +kernel
theorem dX1_leaves_17 : decode cX1_leaves 17 = .ok (.getfield 73, 3) := by decide +kernel
theorem dX1_leaves_20 : decode cX1_leaves 20 = .ok (.iload_n 2, 1) := by decide +kernel
theorem dX1_leaves_21 : decode cX1_leaves 21 = .ok (.iaload, 1) := by decide +kernel
theorem dX1_leaves_22 : decode cX1_leaves 22 = .ok (.aload_n 0, 1) := by decide +kernel
theorem dX1_leaves_23 : decode cX1_leaves 23 = .ok (.aload_n 0, 1) := by decide +kernel
theorem dX1_leaves_24 : decode cX1_leaves 24 = .ok (.getfield 77, 3) := by decide +kernel
theorem dX1_leaves_27 : decode cX1_leaves 27 = .ok (.iload_n 2, 1) := by decide +kernel
theorem dX1_leaves_28 : decode cX1_leaves 28 = .ok (.invokevirtual 80, 3) := by decide +kernel
theorem dX1_leaves_31 : decode cX1_leaves 31 = .ok (.isub, 1) := by decide +kernel
theorem dX1_leaves_32 : decode cX1_leaves 32 = .ok (.i2l, 1) := by decide +kernel
theorem dX1_leaves_33 : decode cX1_leaves 33 = .ok (.aload_n 1, 1) := by decide +kernel
theorem dX1_leaves_34 : decode cX1_leaves 34 = .ok (.iload_n 2, 1) := by decide +kernel
theorem dX1_leaves_35 : decode cX1_leaves 35 = .ok (.invokevirtual 101, 3) := by decide +kernel
theorem dX1_leaves_38 : decode cX1_leaves 38 = .ok (.lcmp, 1) := by decide +kernel
theorem dX1_leaves_39 : decode cX1_leaves 39 = .ok (.ifCond .eq 5, 3) := by decide +kernel
theorem dX1_leaves_42 : decode cX1_leaves 42 = .ok (.iconst 0, 1) := by decide +kernel
theorem dX1_leaves_43 : decode cX1_leaves 43 = .ok (.ireturn, 1) := by decide +kernel
theorem dX1_leaves_44 : decode cX1_leaves 44 = .ok (.iinc 2 1, 3) := by decide +kernel
theorem dX1_leaves_47 : decode cX1_leaves 47 = .ok (.goto (-45), 3) := by decide +kernel
theorem dX1_leaves_50 : decode cX1_leaves 50 = .ok (.iconst 1, 1) := by decide +kernel
theorem dX1_leaves_51 : decode cX1_leaves 51 = .ok (.ireturn, 1) := by decide +kernel
theorem dX2_init_0 : decode cX2_init 0 = .ok (.aload_n 0, 1) := by decide +kernel
theorem dX2_init_1 : decode cX2_init 1 = .ok (.invokespecial 3, 3) := by decide +kernel
theorem dX2_init_4 : decode cX2_init 4 = .ok (.aload_n 0, 1) := by decide +kernel
theorem dX2_init_5 : decode cX2_init 5 = .ok (.new 9, 3) := by decide +kernel
theorem dX2_init_8 : decode cX2_init 8 = .ok (.dup, 1) := by decide +kernel
theorem dX2_init_9 : decode cX2_init 9 = .ok (.invokespecial 11, 3) := by decide +kernel
theorem dX2_init_12 : decode cX2_init 12 = .ok (.putfield 12, 3) := by decide +kernel
theorem dX2_init_15 : decode cX2_init 15 = .ok (.aload_n 0, 1) := by decide +kernel
theorem dX2_init_16 : decode cX2_init 16 = .ok (.iconst 0, 1) := by decide +kernel
theorem dX2_init_17 : decode cX2_init 17 = .ok (.putfield 18, 3) := by decide +kernel
theorem dX2_init_20 : decode cX2_init 20 = .ok (.aload_n 0, 1) := by decide +kernel
theorem dX2_init_21 : decode cX2_init 21 = .ok (.bipush 16, 2) := by decide +kernel
theorem dX2_init_23 : decode cX2_init 23 = .ok (.newarray .int, 2) := by decide +kernel
theorem dX2_init_25 : decode cX2_init 25 = .ok (.putfield 22, 3) := by decide +kernel
theorem dX2_init_28 : decode cX2_init 28 = .ok (.aload_n 0, 1) := by decide +kernel
theorem dX2_init_29 : decode cX2_init 29 = .ok (.sipush 256, 3) := by decide +kernel
theorem dX2_init_32 : decode cX2_init 32 = .ok (.newarray .int, 2) := by decide +kernel
theorem dX2_init_34 : decode cX2_init 34 = .ok (.putfield 26, 3) := by decide +kernel
theorem dX2_init_37 : decode cX2_init 37 = .ok (.aload_n 0, 1) := by decide +kernel
theorem dX2_init_38 : decode cX2_init 38 = .ok (.bipush 16, 2) := by decide +kernel
theorem dX2_init_40 : decode cX2_init 40 = .ok (.newarray .int, 2) := by decide +kernel
theorem dX2_init_42 : decode cX2_init 42 = .ok (.putfield 29, 3) := by decide +kernel
theorem dX2_init_45 : decode cX2_init 45 = .ok (.aload_n 0, 1) := by decide +kernel
theorem dX2_init_46 : decode cX2_init 46 = .ok (.bipush 6, 2) := by decide +kernel
theorem dX2_init_48 : decode cX2_init 48 = .ok (.newarray .int, 2) := by decide +kernel
theorem dX2_init_50 : decode cX2_init 50 = .ok (.putfield 32, 3) := by decide +kernel
theorem dX2_init_53 : decode cX2_init 53 = .ok (.aload_n 0, 1) := by decide +kernel
theorem dX2_init_54 : decode cX2_init 54 = .ok (.bipush 8, 2) := by decide +kernel
theorem dX2_init_56 : decode cX2_init 56 = .ok (.newarray .int, 2) := by decide +kernel
theorem dX2_init_58 : decode cX2_init 58 = .ok (.putfield 35, 3) := by decide +kernel
theorem dX2_init_61 : decode cX2_init 61 = .ok (.aload_n 0, 1) := by decide +kernel
theorem dX2_init_62 : decode cX2_init 62 = .ok (.bipush 8, 2) := by decide +kernel
theorem dX2_init_64 : decode cX2_init 64 = .ok (.newarray .int, 2) := by decide +kernel
theorem dX2_init_66 : decode cX2_init 66 = .ok (.putfield 38, 3) := by decide +kernel
theorem dX2_init_69 : decode cX2_init 69 = .ok (.aload_n 0, 1) := by decide +kernel
theorem dX2_init_70 : decode cX2_init 70 = .ok (.iconst 0, 1) := by decide +kernel
theorem dX2_init_71 : decode cX2_init 71 = .ok (.putfield 41, 3) := by decide +kernel
theorem dX2_init_74 : decode cX2_init 74 = .ok (.aload_n 0, 1) := by decide +kernel
theorem dX2_init_75 : decode cX2_init 75 = .ok (.iconst 0, 1) := by decide +kernel
theorem dX2_init_76 : decode cX2_init 76 = .ok (.putfield 44, 3) := by decide +kernel
theorem dX2_init_79 : decode cX2_init 79 = .ok (.aload_n 0, 1) := by decide +kernel
theorem dX2_init_80 : decode cX2_init 80 = .ok (.iconst 0, 1) := by decide +kernel
theorem dX2_init_81 : decode cX2_init 81 = .ok (.putfield 47, 3) := by decide +kernel
theorem dX2_init_84 : decode cX2_init 84 = .ok (.return_, 1) := by decide +kernel
theorem dX2_prepare_0 : decode cX2_prepare 0 = .ok (.aload_n 0, 1) := by decide +kernel
theorem dX2_prepare_1 : decode cX2_prepare 1 = .ok (.aload_n 1, 1) := by decide +kernel
theorem dX2_prepare_2 : decode cX2_prepare 2 = .ok (.putfield 12, 3) := by decide +kernel
theorem dX2_prepare_5 : decode cX2_prepare 5 = .ok (.aload_n 0, 1) := by decide +kernel
theorem dX2_prepare_6 : decode cX2_prepare 6 = .ok (.iload_n 2, 1) := by decide +kernel
theorem dX2_prepare_7 : decode cX2_prepare 7 = .ok (.putfield 18, 3) := by decide +kernel
theorem dX2_prepare_10 : decode cX2_prepare 10 = .ok (.iconst 0, 1) := by decide +kernel
theorem dX2_prepare_11 : decode cX2_prepare 11 = .ok (.istore 4, 2) := by decide +kernel
theorem dX2_prepare_13 : decode cX2_prepare 13 = .ok (.iload 4, 2) := by decide +kernel
theorem dX2_prepare_15 : decode cX2_prepare 15 = .ok (.aload_n 1, 1) := by decide +kernel
theorem dX2_prepare_16 : decode cX2_prepare 16 = .ok (.getfield 50, 3) := by decide +kernel
theorem dX2_prepare_19 : decode cX2_prepare 19 = .ok (.if_icmp .ge 28, 3) := by decide +kernel
theorem dX2_prepare_22 : decode cX2_prepare 22 = .ok (.aload_n 0, 1) := by decide +kernel
theorem dX2_prepare_23 : decode cX2_prepare 23 = .ok (.getfield 22, 3) := by decide +kernel
theorem dX2_prepare_26 : decode cX2_prepare 26 = .ok (.iload 4, 2) := by decide +kernel
theorem dX2_prepare_28 : decode cX2_prepare 28 = .ok (.aload_n 0, 1) := by decide +kernel
theorem dX2_prepare_29 : decode cX2_prepare 29 = .ok (.aload_n 1, 1) := by decide +kernel
theorem dX2_prepare_30 : decode cX2_prepare 30 = .ok (.getfield 53, 3) := by decide +kernel
theorem dX2_prepare_33 : decode cX2_prepare 33 = .ok (.iload 4, 2) := by decide +kernel
theorem dX2_prepare_35 : decode cX2_prepare 35 = .ok (.iaload, 1) := by decide +kernel
theorem dX2_prepare_36 : decode cX2_prepare 36 = .ok (.iload_n 3, 1) := by decide +kernel
theorem dX2_prepare_37 : decode cX2_prepare 37 = .ok (.invokevirtual 56, 3) := by decide +kernel
theorem dX2_prepare_40 : decode cX2_prepare 40 = .ok (.iastore, 1) := by decide +kernel
theorem dX2_prepare_41 : decode cX2_prepare 41 = .ok (.iinc 4 1, 3) := by decide +kernel
theorem dX2_prepare_44 : decode cX2_prepare 44 = .ok (.goto (-31), 3) := by decide +kernel
theorem dX2_prepare_47 : decode cX2_prepare 47 = .ok (.aload_n 0, 1) := by decide +kernel
theorem dX2_prepare_48 : decode cX2_prepare 48 = .ok (.aload_n 0, 1) := by decide +kernel
theorem dX2_prepare_49 : decode cX2_prepare 49 = .ok (.getfield 26, 3) := by decide +kernel
theorem dX2_prepare_52 : decode cX2_prepare 52 = .ok (.iconst 0, 1) := by decide +kernel
theorem dX2_prepare_53 : decode cX2_prepare 53 = .ok (.invokevirtual 60, 3) := by decide +kernel
theorem dX2_prepare_56 : decode cX2_prepare 56 = .ok (.iconst 0, 1) := by decide +kernel
theorem dX2_prepare_57 : decode cX2_prepare 57 = .ok (.istore 4, 2) := by decide +kernel
theorem dX2_prepare_59 : decode cX2_prepare 59 = .ok (.iload 4, 2) := by decide +kernel
theorem dX2_prepare_61 : decode cX2_prepare 61 = .ok (.aload_n 1, 1) := by decide +kernel
theorem dX2_prepare_62 : decode cX2_prepare 62 = .ok (.getfield 50, 3) := by decide +kernel
theorem dX2_prepare_65 : decode cX2_prepare 65 = .ok (.if_icmp .ge 22, 3) := by decide +kernel
theorem dX2_prepare_68 : decode cX2_prepare 68 = .ok (.aload_n 0, 1) := by decide +kernel
theorem dX2_prepare_69 : decode cX2_prepare 69 = .ok (.getfield 29, 3) := by decide +kernel
theorem dX2_prepare_72 : decode cX2_prepare 72 = .ok (.iload 4, 2) := by decide +kernel
theorem dX2_prepare_74 : decode cX2_prepare 74 = .ok (.aload_n 0, 1) := by decide +kernel
theorem dX2_prepare_75 : decode cX2_prepare 75 = .ok (.iload 4, 2) := by decide +kernel
theorem dX2_prepare_77 : decode cX2_prepare 77 = .ok (.invokevirtual 64, 3) := by decide +kernel
theorem dX2_prepare_80 : decode cX2_prepare 80 = .ok (.iastore, 1) := by decide +kernel
theorem dX2_prepare_81 : decode cX2_prepare 81 = .ok (.iinc 4 1, 3) := by decide +kernel
theorem dX2_prepare_84 : decode cX2_prepare 84 = .ok (.goto (-25), 3) := by decide +kernel
theorem dX2_prepare_87 : decode cX2_prepare 87 = .ok (.return_, 1) := by decide +kernel
theorem dX2_firstWorth_0 : decode cX2_firstWorth 0 = .ok (.iconst 0, 1) := by decide +kernel
theorem dX2_firstWorth_1 : decode cX2_firstWorth 1 = .ok (.istore_n 2, 1) := by decide +kernel
theorem dX2_firstWorth_2 : decode cX2_firstWorth 2 = .ok (.iconst 0, 1) := by decide +kernel
theorem dX2_firstWorth_3 : decode cX2_firstWorth 3 = .ok (.istore_n 3, 1) := by decide +kernel
theorem dX2_firstWorth_4 : decode cX2_firstWorth 4 = .ok (.iload_n 3, 1) := by decide +kernel
theorem dX2_firstWorth_5 : decode cX2_firstWorth 5 = .ok (.aload_n 0, 1) := by decide +kernel
theorem dX2_firstWorth_6 : decode cX2_firstWorth 6 = .ok (.getfield 12, 3) := by decide +kernel
theorem dX2_firstWorth_9 : decode cX2_firstWorth 9 = .ok (.getfield 50, 3) := by decide +kernel
theorem dX2_firstWorth_12 : decode cX2_firstWorth 12 = .ok (.if_icmp .ge 42, 3) := by decide +kernel
theorem dX2_firstWorth_15 : decode cX2_firstWorth 15 = .ok (.iload_n 2, 1) := by decide +kernel
theorem dX2_firstWorth_16 : decode cX2_firstWorth 16 = .ok (.aload_n 0, 1) := by decide +kernel
theorem dX2_firstWorth_17 : decode cX2_firstWorth 17 = .ok (.getfield 22, 3) := by decide +kernel
theorem dX2_firstWorth_20 : decode cX2_firstWorth 20 = .ok (.iload_n 3, 1) := by decide +kernel
theorem dX2_firstWorth_21 : decode cX2_firstWorth 21 = .ok (.iaload, 1) := by decide +kernel
theorem dX2_firstWorth_22 : decode cX2_firstWorth 22 = .ok (.aload_n 0, 1) := by decide +kernel
theorem dX2_firstWorth_23 : decode cX2_firstWorth 23 = .ok (.getfield 26, 3) := by decide +kernel
theorem dX2_firstWorth_26 : decode cX2_firstWorth 26 = .ok (.iload_n 1, 1) := by decide +kernel
theorem dX2_firstWorth_27 : decode cX2_firstWorth 27 = .ok (.bipush 16, 2) := by decide +kernel
theorem dX2_firstWorth_29 : decode cX2_firstWorth 29 = .ok (.imul, 1) := by decide +kernel
theorem dX2_firstWorth_30 : decode cX2_firstWorth 30 = .ok (.iload_n 3, 1) := by decide +kernel
theorem dX2_firstWorth_31 : decode cX2_firstWorth 31 = .ok (.iadd, 1) := by decide +kernel
theorem dX2_firstWorth_32 : decode cX2_firstWorth 32 = .ok (.iaload, 1) := by decide +kernel
theorem dX2_firstWorth_33 : decode cX2_firstWorth 33 = .ok (.aload_n 0, 1) := by decide +kernel
theorem dX2_firstWorth_34 : decode cX2_firstWorth 34 = .ok (.getfield 12, 3) := by decide +kernel
theorem dX2_firstWorth_37 : decode cX2_firstWorth 37 = .ok (.getfield 68, 3) := by decide +kernel
theorem dX2_firstWorth_40 : decode cX2_firstWorth 40 = .ok (.iload_n 3, 1) := by decide +kernel
theorem dX2_firstWorth_41 : decode cX2_firstWorth 41 = .ok (.iaload, 1) := by decide +kernel
theorem dX2_firstWorth_42 : decode cX2_firstWorth 42 = .ok (.invokestatic 71, 3) := by decide +kernel
theorem dX2_firstWorth_45 : decode cX2_firstWorth 45 = .ok (.imul, 1) := by decide +kernel
theorem dX2_firstWorth_46 : decode cX2_firstWorth 46 = .ok (.iadd, 1) := by decide +kernel
theorem dX2_firstWorth_47 : decode cX2_firstWorth 47 = .ok (.istore_n 2, 1) := by decide +kernel
theorem dX2_firstWorth_48 : decode cX2_firstWorth 48 = .ok (.iinc 3 1, 3) := by decide +kernel
theorem dX2_firstWorth_51 : decode cX2_firstWorth 51 = .ok (.goto (-47), 3) := by decide +kernel
theorem dX2_firstWorth_54 : decode cX2_firstWorth 54 = .ok (.iload_n 2, 1) := by decide +kernel
theorem dX2_firstWorth_55 : decode cX2_firstWorth 55 = .ok (.ireturn, 1) := by decide +kernel
theorem dX2_weightOf_0 : decode cX2_weightOf 0 = .ok (.aload_n 0, 1) := by decide +kernel
theorem dX2_weightOf_1 : decode cX2_weightOf 1 = .ok (.getfield 18, 3) := by decide +kernel
theorem dX2_weightOf_4 : decode cX2_weightOf 4 = .ok (.iconst 1, 1) := by decide +kernel
theorem dX2_weightOf_5 : decode cX2_weightOf 5 = .ok (.if_icmp .ne 22, 3) := by decide +kernel
theorem dX2_weightOf_8 : decode cX2_weightOf 8 = .ok (.iload_n 1, 1) := by decide +kernel
theorem dX2_weightOf_9 : decode cX2_weightOf 9 = .ok (.iload_n 2, 1) := by decide +kernel
theorem dX2_weightOf_10 : decode cX2_weightOf 10 = .ok (.if_icmp .ne 7, 3) := by decide +kernel
theorem dX2_weightOf_13 : decode cX2_weightOf 13 = .ok (.iconst 0, 1) := by decide +kernel
theorem dX2_weightOf_14 : decode cX2_weightOf 14 = .ok (.goto 12, 3) := by decide +kernel
theorem dX2_weightOf_17 : decode cX2_weightOf 17 = .ok (.aload_n 0, 1) := by decide +kernel
theorem dX2_weightOf_18 : decode cX2_weightOf 18 = .ok (.getfield 12, 3) := by decide +kernel
theorem dX2_weightOf_21 : decode cX2_weightOf 21 = .ok (.getfield 76, 3) := by decide +kernel
theorem dX2_weightOf_24 : decode cX2_weightOf 24 = .ok (.iload_n 1, 1) := by decide +kernel
theorem dX2_weightOf_25 : decode cX2_weightOf 25 = .ok (.iaload, 1) := by decide +kernel
theorem dX2_weightOf_26 : decode cX2_weightOf 26 = .ok (.ireturn, 1) := by decide +kernel
theorem dX2_weightOf_27 : decode cX2_weightOf 27 = .ok (.aload_n 0, 1) := by decide +kernel
theorem dX2_weightOf_28 : decode cX2_weightOf 28 = .ok (.getfield 18, 3) := by decide +kernel
theorem dX2_weightOf_31 : decode cX2_weightOf 31 = .ok (.iconst 3, 1) := by decide +kernel
theorem dX2_weightOf_32 : decode cX2_weightOf 32 = .ok (.if_icmp .ne 8, 3) := by decide +kernel
theorem dX2_weightOf_35 : decode cX2_weightOf 35 = .ok (.iload_n 1, 1) := by decide +kernel
theorem dX2_weightOf_36 : decode cX2_weightOf 36 = .ok (.iload_n 2, 1) := by decide +kernel
theorem dX2_weightOf_37 : decode cX2_weightOf 37 = .ok (.if_icmp .ne 7, 3) := by decide +kernel
theorem dX2_weightOf_40 : decode cX2_weightOf 40 = .ok (.iconst 1, 1) := by decide +kernel
theorem dX2_weightOf_41 : decode cX2_weightOf 41 = .ok (.goto 4, 3) := by decide +kernel
theorem dX2_weightOf_44 : decode cX2_weightOf 44 = .ok (.iconst 0, 1) := by decide +kernel
theorem dX2_weightOf_45 : decode cX2_weightOf 45 = .ok (.ireturn, 1) := by decide +kernel
theorem dX2_fillCaps_0 : decode cX2_fillCaps 0 = .ok (.iconst 0, 1) := by decide +kernel
theorem dX2_fillCaps_1 : decode cX2_fillCaps 1 = .ok (.istore_n 3, 1) := by decide +kernel
theorem dX2_fillCaps_2 : decode cX2_fillCaps 2 = .ok (.iload_n 3, 1) := by decide +kernel
theorem dX2_fillCaps_3 : decode cX2_fillCaps 3 = .ok (.aload_n 0, 1) := by decide +kernel
theorem dX2_fillCaps_4 : decode cX2_fillCaps 4 = .ok (.getfield 12, 3) := by decide +kernel
theorem dX2_fillCaps_7 : decode cX2_fillCaps 7 = .ok (.getfield 50, 3) := by decide +kernel
theorem dX2_fillCaps_10 : decode cX2_fillCaps 10 = .ok (.if_icmp .ge 72, 3) := by decide +kernel
theorem dX2_fillCaps_13 : decode cX2_fillCaps 13 = .ok (.iconst 0, 1) := by decide +kernel
theorem dX2_fillCaps_14 : decode cX2_fillCaps 14 = .ok (.istore 4, 2) := by decide +kernel
theorem dX2_fillCaps_16 : decode cX2_fillCaps 16 = .ok (.iload 4, 2) := by decide +kernel
theorem dX2_fillCaps_18 : decode cX2_fillCaps 18 = .ok (.aload_n 0, 1) := by decide +kernel
theorem dX2_fillCaps_19 : decode cX2_fillCaps 19 = .ok (.getfield 12, 3) := by decide +kernel
theorem dX2_fillCaps_22 : decode cX2_fillCaps 22 = .ok (.getfield 50, 3) := by decide +kernel
theorem dX2_fillCaps_25 : decode cX2_fillCaps 25 = .ok (.if_icmp .ge 51, 3) := by decide +kernel
theorem dX2_fillCaps_28 : decode cX2_fillCaps 28 = .ok (.iconst 0, 1) := by decide +kernel
theorem dX2_fillCaps_29 : decode cX2_fillCaps 29 = .ok (.aload_n 0, 1) := by decide +kernel
theorem dX2_fillCaps_30 : decode cX2_fillCaps 30 = .ok (.getfield 12, 3) := by decide +kernel
theorem dX2_fillCaps_33 : decode cX2_fillCaps 33 = .ok (.getfield 79, 3) := by decide +kernel
theorem dX2_fillCaps_36 : decode cX2_fillCaps 36 = .ok (.iload 4, 2) := by decide +kernel
theorem dX2_fillCaps_38 : decode cX2_fillCaps 38 = .ok (.iaload, 1) := by decide +kernel
theorem dX2_fillCaps_39 : decode cX2_fillCaps 39 = .ok (.iload_n 2, 1) := by decide +kernel
theorem dX2_fillCaps_40 : decode cX2_fillCaps 40 = .ok (.iadd, 1) := by decide +kernel
theorem dX2_fillCaps_41 : decode cX2_fillCaps 41 = .ok (.invokestatic 82, 3) := by decide +kernel
theorem dX2_fillCaps_44 : decode cX2_fillCaps 44 = .ok (.istore 5, 2) := by decide +kernel
theorem dX2_fillCaps_46 : decode cX2_fillCaps 46 = .ok (.aload_n 1, 1) := by decide +kernel
theorem dX2_fillCaps_47 : decode cX2_fillCaps 47 = .ok (.iload_n 3, 1) := by decide +kernel
theorem dX2_fillCaps_48 : decode cX2_fillCaps 48 = .ok (.bipush 16, 2) := by decide +kernel
theorem dX2_fillCaps_50 : decode cX2_fillCaps 50 = .ok (.imul, 1) := by decide +kernel
theorem dX2_fillCaps_51 : decode cX2_fillCaps 51 = .ok (.iload 4, 2) := by decide +kernel
theorem dX2_fillCaps_53 : decode cX2_fillCaps 53 = .ok (.iadd, 1) := by decide +kernel
theorem dX2_fillCaps_54 : decode cX2_fillCaps 54 = .ok (.iload 5, 2) := by decide +kernel
theorem dX2_fillCaps_56 : decode cX2_fillCaps 56 = .ok (.aload_n 0, 1) := by decide +kernel
theorem dX2_fillCaps_57 : decode cX2_fillCaps 57 = .ok (.getfield 12, 3) := by decide +kernel
