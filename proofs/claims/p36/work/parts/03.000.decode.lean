theorem dX0_init_0 : decode cX0_init 0 = .ok (.aload_n 0, 1) := by decide +kernel
theorem dX0_init_1 : decode cX0_init 1 = .ok (.invokespecial 3, 3) := by decide +kernel
theorem dX0_init_4 : decode cX0_init 4 = .ok (.aload_n 0, 1) := by decide +kernel
theorem dX0_init_5 : decode cX0_init 5 = .ok (.bipush 16, 2) := by decide +kernel
theorem dX0_init_7 : decode cX0_init 7 = .ok (.newarray .int, 2) := by decide +kernel
theorem dX0_init_9 : decode cX0_init 9 = .ok (.putfield 9, 3) := by decide +kernel
theorem dX0_init_12 : decode cX0_init 12 = .ok (.aload_n 0, 1) := by decide +kernel
theorem dX0_init_13 : decode cX0_init 13 = .ok (.bipush 16, 2) := by decide +kernel
theorem dX0_init_15 : decode cX0_init 15 = .ok (.newarray .int, 2) := by decide +kernel
theorem dX0_init_17 : decode cX0_init 17 = .ok (.putfield 15, 3) := by decide +kernel
theorem dX0_init_20 : decode cX0_init 20 = .ok (.return_, 1) := by decide +kernel
theorem dX0_fewest_0 : decode cX0_fewest 0 = .ok (.aload_n 0, 1) := by decide +kernel
theorem dX0_fewest_1 : decode cX0_fewest 1 = .ok (.aload_n 1, 1) := by decide +kernel
theorem dX0_fewest_2 : decode cX0_fewest 2 = .ok (.invokevirtual 18, 3) := by decide +kernel
theorem dX0_fewest_5 : decode cX0_fewest 5 = .ok (.aload_n 1, 1) := by decide +kernel
theorem dX0_fewest_6 : decode cX0_fewest 6 = .ok (.invokevirtual 22, 3) := by decide +kernel
theorem dX0_fewest_9 : decode cX0_fewest 9 = .ok (.istore_n 3, 1) := by decide +kernel
theorem dX0_fewest_10 : decode cX0_fewest 10 = .ok (.iconst 0, 1) := by decide +kernel
theorem dX0_fewest_11 : decode cX0_fewest 11 = .ok (.istore 4, 2) := by decide +kernel
theorem dX0_fewest_13 : decode cX0_fewest 13 = .ok (.iload 4, 2) := by decide +kernel
theorem dX0_fewest_15 : decode cX0_fewest 15 = .ok (.aload_n 1, 1) := by decide +kernel
theorem dX0_fewest_16 : decode cX0_fewest 16 = .ok (.getfield 28, 3) := by decide +kernel
theorem dX0_fewest_19 : decode cX0_fewest 19 = .ok (.if_icmp .gt 27, 3) := by decide +kernel
theorem dX0_fewest_22 : decode cX0_fewest 22 = .ok (.aload_n 0, 1) := by decide +kernel
theorem dX0_fewest_23 : decode cX0_fewest 23 = .ok (.getfield 9, 3) := by decide +kernel
theorem dX0_fewest_26 : decode cX0_fewest 26 = .ok (.aload_n 0, 1) := by decide +kernel
theorem dX0_fewest_27 : decode cX0_fewest 27 = .ok (.getfield 15, 3) := by decide +kernel
theorem dX0_fewest_30 : decode cX0_fewest 30 = .ok (.iload_n 2, 1) := by decide +kernel
theorem dX0_fewest_31 : decode cX0_fewest 31 = .ok (.iload_n 3, 1) := by decide +kernel
theorem dX0_fewest_32 : decode cX0_fewest 32 = .ok (.iload 4, 2) := by decide +kernel
theorem dX0_fewest_34 : decode cX0_fewest 34 = .ok (.invokestatic 32, 3) := by decide +kernel
theorem dX0_fewest_37 : decode cX0_fewest 37 = .ok (.ifCond .ne 9, 3) := by decide +kernel
theorem dX0_fewest_40 : decode cX0_fewest 40 = .ok (.iinc 4 1, 3) := by decide +kernel
theorem dX0_fewest_43 : decode cX0_fewest 43 = .ok (.goto (-30), 3) := by decide +kernel
theorem dX0_fewest_46 : decode cX0_fewest 46 = .ok (.iload 4, 2) := by decide +kernel
theorem dX0_fewest_48 : decode cX0_fewest 48 = .ok (.aload_n 1, 1) := by decide +kernel
theorem dX0_fewest_49 : decode cX0_fewest 49 = .ok (.getfield 28, 3) := by decide +kernel
theorem dX0_fewest_52 : decode cX0_fewest 52 = .ok (.if_icmp .le 5, 3) := by decide +kernel
theorem dX0_fewest_55 : decode cX0_fewest 55 = .ok (.iconst (-1), 1) := by decide +kernel
theorem dX0_fewest_56 : decode cX0_fewest 56 = .ok (.ireturn, 1) := by decide +kernel
theorem dX0_fewest_57 : decode cX0_fewest 57 = .ok (.aload_n 0, 1) := by decide +kernel
theorem dX0_fewest_58 : decode cX0_fewest 58 = .ok (.aload_n 1, 1) := by decide +kernel
theorem dX0_fewest_59 : decode cX0_fewest 59 = .ok (.getfield 28, 3) := by decide +kernel
theorem dX0_fewest_62 : decode cX0_fewest 62 = .ok (.iload_n 2, 1) := by decide +kernel
theorem dX0_fewest_63 : decode cX0_fewest 63 = .ok (.iload 4, 2) := by decide +kernel
theorem dX0_fewest_65 : decode cX0_fewest 65 = .ok (.invokevirtual 36, 3) := by decide +kernel
theorem dX0_fewest_68 : decode cX0_fewest 68 = .ok (.ireturn, 1) := by decide +kernel
theorem dX0_leastBits_0 : decode cX0_leastBits 0 = .ok (.iconst 0, 1) := by decide +kernel
theorem dX0_leastBits_1 : decode cX0_leastBits 1 = .ok (.istore 4, 2) := by decide +kernel
theorem dX0_leastBits_3 : decode cX0_leastBits 3 = .ok (.iload_n 2, 1) := by decide +kernel
theorem dX0_leastBits_4 : decode cX0_leastBits 4 = .ok (.istore 5, 2) := by decide +kernel
theorem dX0_leastBits_6 : decode cX0_leastBits 6 = .ok (.iload_n 3, 1) := by decide +kernel
theorem dX0_leastBits_7 : decode cX0_leastBits 7 = .ok (.istore 6, 2) := by decide +kernel
theorem dX0_leastBits_9 : decode cX0_leastBits 9 = .ok (.iload_n 1, 1) := by decide +kernel
theorem dX0_leastBits_10 : decode cX0_leastBits 10 = .ok (.iconst 1, 1) := by decide +kernel
theorem dX0_leastBits_11 : decode cX0_leastBits 11 = .ok (.isub, 1) := by decide +kernel
theorem dX0_leastBits_12 : decode cX0_leastBits 12 = .ok (.istore 7, 2) := by decide +kernel
theorem dX0_leastBits_14 : decode cX0_leastBits 14 = .ok (.iload 7, 2) := by decide +kernel
theorem dX0_leastBits_16 : decode cX0_leastBits 16 = .ok (.ifCond .lt 59, 3) := by decide +kernel
theorem dX0_leastBits_19 : decode cX0_leastBits 19 = .ok (.aload_n 0, 1) := by decide +kernel
theorem dX0_leastBits_20 : decode cX0_leastBits 20 = .ok (.getfield 9, 3) := by decide +kernel
theorem dX0_leastBits_23 : decode cX0_leastBits 23 = .ok (.aload_n 0, 1) := by decide +kernel
theorem dX0_leastBits_24 : decode cX0_leastBits 24 = .ok (.getfield 15, 3) := by decide +kernel
theorem dX0_leastBits_27 : decode cX0_leastBits 27 = .ok (.iload 5, 2) := by decide +kernel
theorem dX0_leastBits_29 : decode cX0_leastBits 29 = .ok (.iconst 1, 1) := by decide +kernel
theorem dX0_leastBits_30 : decode cX0_leastBits 30 = .ok (.iload 7, 2) := by decide +kernel
theorem dX0_leastBits_32 : decode cX0_leastBits 32 = .ok (.ishl, 1) := by decide +kernel
theorem dX0_leastBits_33 : decode cX0_leastBits 33 = .ok (.iconst 1, 1) := by decide +kernel
theorem dX0_leastBits_34 : decode cX0_leastBits 34 = .ok (.isub, 1) := by decide +kernel
theorem dX0_leastBits_35 : decode cX0_leastBits 35 = .ok (.iload 6, 2) := by decide +kernel
theorem dX0_leastBits_37 : decode cX0_leastBits 37 = .ok (.invokestatic 32, 3) := by decide +kernel
theorem dX0_leastBits_40 : decode cX0_leastBits 40 = .ok (.ifCond .ne 29, 3) := by decide +kernel
theorem dX0_leastBits_43 : decode cX0_leastBits 43 = .ok (.iload 4, 2) := by decide +kernel
theorem dX0_leastBits_45 : decode cX0_leastBits 45 = .ok (.iconst 1, 1) := by decide +kernel
theorem dX0_leastBits_46 : decode cX0_leastBits 46 = .ok (.iload 7, 2) := by decide +kernel
theorem dX0_leastBits_48 : decode cX0_leastBits 48 = .ok (.ishl, 1) := by decide +kernel
theorem dX0_leastBits_49 : decode cX0_leastBits 49 = .ok (.ior, 1) := by decide +kernel
theorem dX0_leastBits_50 : decode cX0_leastBits 50 = .ok (.istore 4, 2) := by decide +kernel
theorem dX0_leastBits_52 : decode cX0_leastBits 52 = .ok (.iload 5, 2) := by decide +kernel
theorem dX0_leastBits_54 : decode cX0_leastBits 54 = .ok (.aload_n 0, 1) := by decide +kernel
theorem dX0_leastBits_55 : decode cX0_leastBits 55 = .ok (.getfield 9, 3) := by decide +kernel
theorem dX0_leastBits_58 : decode cX0_leastBits 58 = .ok (.iload 7, 2) := by decide +kernel
theorem dX0_leastBits_60 : decode cX0_leastBits 60 = .ok (.iaload, 1) := by decide +kernel
theorem dX0_leastBits_61 : decode cX0_leastBits 61 = .ok (.iconst (-1), 1) := by decide +kernel
theorem dX0_leastBits_62 : decode cX0_leastBits 62 = .ok (.ixor, 1) := by decide +kernel
theorem dX0_leastBits_63 : decode cX0_leastBits 63 = .ok (.iand, 1) := by decide +kernel
theorem dX0_leastBits_64 : decode cX0_leastBits 64 = .ok (.istore 5, 2) := by decide +kernel
theorem dX0_leastBits_66 : decode cX0_leastBits 66 = .ok (.iinc 6 (-1), 3) := by decide +kernel
theorem dX0_leastBits_69 : decode cX0_leastBits 69 = .ok (.iinc 7 (-1), 3) := by decide +kernel
theorem dX0_leastBits_72 : decode cX0_leastBits 72 = .ok (.goto (-58), 3) := by decide +kernel
theorem dX0_leastBits_75 : decode cX0_leastBits 75 = .ok (.iload 4, 2) := by decide +kernel
theorem dX0_leastBits_77 : decode cX0_leastBits 77 = .ok (.ireturn, 1) := by decide +kernel
theorem dX0_look_0 : decode cX0_look 0 = .ok (.aload_n 0, 1) := by decide +kernel
theorem dX0_look_1 : decode cX0_look 1 = .ok (.getfield 15, 3) := by decide +kernel
theorem dX0_look_4 : decode cX0_look 4 = .ok (.iconst 0, 1) := by decide +kernel
theorem dX0_look_5 : decode cX0_look 5 = .ok (.invokestatic 40, 3) := by decide +kernel
theorem dX0_look_8 : decode cX0_look 8 = .ok (.iconst 0, 1) := by decide +kernel
theorem dX0_look_9 : decode cX0_look 9 = .ok (.istore_n 2, 1) := by decide +kernel
theorem dX0_look_10 : decode cX0_look 10 = .ok (.iload_n 2, 1) := by decide +kernel
theorem dX0_look_11 : decode cX0_look 11 = .ok (.aload_n 1, 1) := by decide +kernel
theorem dX0_look_12 : decode cX0_look 12 = .ok (.getfield 28, 3) := by decide +kernel
theorem dX0_look_15 : decode cX0_look 15 = .ok (.if_icmp .ge 57, 3) := by decide +kernel
theorem dX0_look_18 : decode cX0_look 18 = .ok (.aload_n 0, 1) := by decide +kernel
theorem dX0_look_19 : decode cX0_look 19 = .ok (.getfield 9, 3) := by decide +kernel
theorem dX0_look_22 : decode cX0_look 22 = .ok (.iload_n 2, 1) := by decide +kernel
theorem dX0_look_23 : decode cX0_look 23 = .ok (.aload_n 1, 1) := by decide +kernel
theorem dX0_look_24 : decode cX0_look 24 = .ok (.iload_n 2, 1) := by decide +kernel
theorem dX0_look_25 : decode cX0_look 25 = .ok (.invokevirtual 46, 3) := by decide +kernel
theorem dX0_look_28 : decode cX0_look 28 = .ok (.iastore, 1) := by decide +kernel
theorem dX0_look_29 : decode cX0_look 29 = .ok (.iconst 0, 1) := by decide +kernel
theorem dX0_look_30 : decode cX0_look 30 = .ok (.istore_n 3, 1) := by decide +kernel
theorem dX0_look_31 : decode cX0_look 31 = .ok (.iload_n 3, 1) := by decide +kernel
theorem dX0_look_32 : decode cX0_look 32 = .ok (.aload_n 1, 1) := by decide +kernel
theorem dX0_look_33 : decode cX0_look 33 = .ok (.getfield 28, 3) := by decide +kernel
theorem dX0_look_36 : decode cX0_look 36 = .ok (.if_icmp .ge 30, 3) := by decide +kernel
theorem dX0_look_39 : decode cX0_look 39 = .ok (.aload_n 0, 1) := by decide +kernel
theorem dX0_look_40 : decode cX0_look 40 = .ok (.getfield 15, 3) := by decide +kernel
theorem dX0_look_43 : decode cX0_look 43 = .ok (.iload_n 3, 1) := by decide +kernel
theorem dX0_look_44 : decode cX0_look 44 = .ok (.dup2, 1) := by decide +kernel
theorem dX0_look_45 : decode cX0_look 45 = .ok (.iaload, 1) := by decide +kernel
theorem dX0_look_46 : decode cX0_look 46 = .ok (.aload_n 0, 1) := by decide +kernel
theorem dX0_look_47 : decode cX0_look 47 = .ok (.getfield 9, 3) := by decide +kernel
theorem dX0_look_50 : decode cX0_look 50 = .ok (.iload_n 2, 1) := by decide +kernel
theorem dX0_look_51 : decode cX0_look 51 = .ok (.iaload, 1) := by decide +kernel
theorem dX0_look_52 : decode cX0_look 52 = .ok (.iload_n 3, 1) := by decide +kernel
theorem dX0_look_53 : decode cX0_look 53 = .ok (.ishr, 1) := by decide +kernel
theorem dX0_look_54 : decode cX0_look 54 = .ok (.iconst 1, 1) := by decide +kernel
theorem dX0_look_55 : decode cX0_look 55 = .ok (.iand, 1) := by decide +kernel
theorem dX0_look_56 : decode cX0_look 56 = .ok (.iload_n 2, 1) := by decide +kernel
theorem dX0_look_57 : decode cX0_look 57 = .ok (.ishl, 1) := by decide +kernel
theorem dX0_look_58 : decode cX0_look 58 = .ok (.ior, 1) := by decide +kernel
theorem dX0_look_59 : decode cX0_look 59 = .ok (.iastore, 1) := by decide +kernel
theorem dX0_look_60 : decode cX0_look 60 = .ok (.iinc 3 1, 3) := by decide +kernel
theorem dX0_look_63 : decode cX0_look 63 = .ok (.goto (-32), 3) := by decide +kernel
theorem dX0_look_66 : decode cX0_look 66 = .ok (.iinc 2 1, 3) := by decide +kernel
theorem dX0_look_69 : decode cX0_look 69 = .ok (.goto (-59), 3) := by decide +kernel
theorem dX0_look_72 : decode cX0_look 72 = .ok (.return_, 1) := by decide +kernel
theorem dX0_canLight_0 : decode cX0_canLight 0 = .ok (.iload_n 2, 1) := by decide +kernel
theorem dX0_canLight_1 : decode cX0_canLight 1 = .ok (.ifCond .ne 5, 3) := by decide +kernel
theorem dX0_canLight_4 : decode cX0_canLight 4 = .ok (.iconst 1, 1) := by decide +kernel
theorem dX0_canLight_5 : decode cX0_canLight 5 = .ok (.ireturn, 1) := by decide +kernel
theorem dX0_canLight_6 : decode cX0_canLight 6 = .ok (.iload_n 2, 1) := by decide +kernel
theorem dX0_canLight_7 : decode cX0_canLight 7 = .ok (.invokestatic 49, 3) := by decide +kernel
theorem dX0_canLight_10 : decode cX0_canLight 10 = .ok (.istore 5, 2) := by decide +kernel
theorem dX0_canLight_12 : decode cX0_canLight 12 = .ok (.iload 4, 2) := by decide +kernel
theorem dX0_canLight_14 : decode cX0_canLight 14 = .ok (.ifCond .le 10, 3) := by decide +kernel
theorem dX0_canLight_17 : decode cX0_canLight 17 = .ok (.iload 5, 2) := by decide +kernel
theorem dX0_canLight_19 : decode cX0_canLight 19 = .ok (.bipush 16, 2) := by decide +kernel
theorem dX0_canLight_21 : decode cX0_canLight 21 = .ok (.if_icmp .lt 5, 3) := by decide +kernel
theorem dX0_canLight_24 : decode cX0_canLight 24 = .ok (.iconst 0, 1) := by decide +kernel
theorem dX0_canLight_25 : decode cX0_canLight 25 = .ok (.ireturn, 1) := by decide +kernel
theorem dX0_canLight_26 : decode cX0_canLight 26 = .ok (.aload_n 1, 1) := by decide +kernel
theorem dX0_canLight_27 : decode cX0_canLight 27 = .ok (.iload 5, 2) := by decide +kernel
theorem dX0_canLight_29 : decode cX0_canLight 29 = .ok (.iaload, 1) := by decide +kernel
theorem dX0_canLight_30 : decode cX0_canLight 30 = .ok (.iload_n 3, 1) := by decide +kernel
theorem dX0_canLight_31 : decode cX0_canLight 31 = .ok (.iand, 1) := by decide +kernel
theorem dX0_canLight_32 : decode cX0_canLight 32 = .ok (.istore 6, 2) := by decide +kernel
theorem dX0_canLight_34 : decode cX0_canLight 34 = .ok (.iconst 0, 1) := by decide +kernel
theorem dX0_canLight_35 : decode cX0_canLight 35 = .ok (.istore 7, 2) := by decide +kernel
theorem dX0_canLight_37 : decode cX0_canLight 37 = .ok (.iload 7, 2) := by decide +kernel
theorem dX0_canLight_39 : decode cX0_canLight 39 = .ok (.bipush 16, 2) := by decide +kernel
theorem dX0_canLight_41 : decode cX0_canLight 41 = .ok (.if_icmp .ge 42, 3) := by decide +kernel
theorem dX0_canLight_44 : decode cX0_canLight 44 = .ok (.iload 6, 2) := by decide +kernel
theorem dX0_canLight_46 : decode cX0_canLight 46 = .ok (.iload 7, 2) := by decide +kernel
theorem dX0_canLight_48 : decode cX0_canLight 48 = .ok (.ishr, 1) := by decide +kernel
theorem dX0_canLight_49 : decode cX0_canLight 49 = .ok (.iconst 1, 1) := by decide +kernel
theorem dX0_canLight_50 : decode cX0_canLight 50 = .ok (.iand, 1) := by decide +kernel
theorem dX0_canLight_51 : decode cX0_canLight 51 = .ok (.ifCond .eq 26, 3) := by decide +kernel
theorem dX0_canLight_54 : decode cX0_canLight 54 = .ok (.aload_n 0, 1) := by decide +kernel
theorem dX0_canLight_55 : decode cX0_canLight 55 = .ok (.aload_n 1, 1) := by decide +kernel
theorem dX0_canLight_56 : decode cX0_canLight 56 = .ok (.iload_n 2, 1) := by decide +kernel
theorem dX0_canLight_57 : decode cX0_canLight 57 = .ok (.aload_n 0, 1) := by decide +kernel
theorem dX0_canLight_58 : decode cX0_canLight 58 = .ok (.iload 7, 2) := by decide +kernel
theorem dX0_canLight_60 : decode cX0_canLight 60 = .ok (.iaload, 1) := by decide +kernel
theorem dX0_canLight_61 : decode cX0_canLight 61 = .ok (.iconst (-1), 1) := by decide +kernel
theorem dX0_canLight_62 : decode cX0_canLight 62 = .ok (.ixor, 1) := by decide +kernel
theorem dX0_canLight_63 : decode cX0_canLight 63 = .ok (.iand, 1) := by decide +kernel
theorem dX0_canLight_64 : decode cX0_canLight 64 = .ok (.iload_n 3, 1) := by decide +kernel
theorem dX0_canLight_65 : decode cX0_canLight 65 = .ok (.iload 4, 2) := by decide +kernel
theorem dX0_canLight_67 : decode cX0_canLight 67 = .ok (.iconst 1, 1) := by decide +kernel
theorem dX0_canLight_68 : decode cX0_canLight 68 = .ok (.isub, 1) := by decide +kernel
theorem dX0_canLight_69 : decode cX0_canLight 69 = .ok (.invokestatic 32, 3) := by decide +kernel
theorem dX0_canLight_72 : decode cX0_canLight 72 = .ok (.ifCond .eq 5, 3) := by decide +kernel
theorem dX0_canLight_75 : decode cX0_canLight 75 = .ok (.iconst 1, 1) := by decide +kernel
theorem dX0_canLight_76 : decode cX0_canLight 76 = .ok (.ireturn, 1) := by decide +kernel
theorem dX0_canLight_77 : decode cX0_canLight 77 = .ok (.iinc 7 1, 3) := by decide +kernel
theorem dX0_canLight_80 : decode cX0_canLight 80 = .ok (.goto (-43), 3) := by decide +kernel
theorem dX0_canLight_83 : decode cX0_canLight 83 = .ok (.iconst 0, 1) := by decide +kernel
theorem dX0_canLight_84 : decode cX0_canLight 84 = .ok (.ireturn, 1) := by decide +kernel
theorem dX1_init_0 : decode cX1_init 0 = .ok (.aload_n 0, 1) := by decide +kernel
theorem dX1_init_1 : decode cX1_init 1 = .ok (.invokespecial 3, 3) := by decide +kernel
theorem dX1_init_4 : decode cX1_init 4 = .ok (.aload_n 0, 1) := by decide +kernel
theorem dX1_init_5 : decode cX1_init 5 = .ok (.sipush 176, 3) := by decide +kernel
theorem dX1_init_8 : decode cX1_init 8 = .ok (.newarray .long, 2) := by decide +kernel
theorem dX1_init_10 : decode cX1_init 10 = .ok (.putfield 11, 3) := by decide +kernel
theorem dX1_init_13 : decode cX1_init 13 = .ok (.aload_n 0, 1) := by decide +kernel
theorem dX1_init_14 : decode cX1_init 14 = .ok (.sipush 176, 3) := by decide +kernel
theorem dX1_init_17 : decode cX1_init 17 = .ok (.newarray .long, 2) := by decide +kernel
theorem dX1_init_19 : decode cX1_init 19 = .ok (.putfield 15, 3) := by decide +kernel
theorem dX1_init_22 : decode cX1_init 22 = .ok (.aload_n 0, 1) := by decide +kernel
