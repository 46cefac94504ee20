theorem dX1_leaves_24 : decode cX1_leaves 24 = .ok (.getfield 77, 3) := by decide +kernel
theorem dX1_leaves_27 : decode cX1_leaves 27 = .ok (.iload_n 2, 1) := by decide +kernel
theorem dX1_leaves_28 : decode cX1_leaves 28 = .ok (.invokevirtual 80, 3) := by decide +kernel
theorem dX1_leaves_31 : decode cX1_leaves 31 = .ok (.isub, 1) := by decide +kernel
theorem dX1_leaves_32 : decode cX1_leaves 32 = .ok (.i2l, 1) := by decide +kernel
theorem dX1_leaves_33 : decode cX1_leaves 33 = .ok (.aload_n 1, 1) := by decide +kernel
theorem dX1_leaves_34 : decode cX1_leaves 34 = .ok (.iload_n 2, 1) := by decide +kernel
theorem dX1_leaves_35 : decode cX1_leaves 35 = .ok (.invokevirtual 101, 3) := by decide +kernel
theorem dX1_leaves_38 : decode cX1_leaves 38 = .ok (.lcmp, 1) := by decide +kernel
theorem dX1_leaves_39 : decode cX1_leaves 39 = .ok (.ifCond .eq 5, 3) := by decide +kernel
theorem dX1_leaves_42 : decode cX1_leaves 42 = .ok (.iconst 0, 1) := by decide +kernel
theorem dX1_leaves_43 : decode cX1_leaves 43 = .ok (.ireturn, 1) := by decide +kernel
theorem dX1_leaves_44 : decode cX1_leaves 44 = .ok (.iinc 2 1, 3) := by decide +kernel
theorem dX1_leaves_47 : decode cX1_leaves 47 = .ok (.goto (-45), 3) := by decide +kernel
theorem dX1_leaves_50 : decode cX1_leaves 50 = .ok (.iconst 1, 1) := by decide +kernel
theorem dX1_leaves_51 : decode cX1_leaves 51 = .ok (.ireturn, 1) := by decide +kernel
theorem dX2_init_0 : decode cX2_init 0 = .ok (.aload_n 0, 1) := by decide +kernel
theorem dX2_init_1 : decode cX2_init 1 = .ok (.invokespecial 3, 3) := by decide +kernel
theorem dX2_init_4 : decode cX2_init 4 = .ok (.aload_n 0, 1) := by decide +kernel
theorem dX2_init_5 : decode cX2_init 5 = .ok (.new 9, 3) := by decide +kernel
theorem dX2_init_8 : decode cX2_init 8 = .ok (.dup, 1) := by decide +kernel
theorem dX2_init_9 : decode cX2_init 9 = .ok (.invokespecial 11, 3) := by decide +kernel
theorem dX2_init_12 : decode cX2_init 12 = .ok (.putfield 12, 3) := by decide +kernel
theorem dX2_init_15 : decode cX2_init 15 = .ok (.aload_n 0, 1) := by decide +kernel
theorem dX2_init_16 : decode cX2_init 16 = .ok (.iconst 0, 1) := by decide +kernel
theorem dX2_init_17 : decode cX2_init 17 = .ok (.putfield 18, 3) := by decide +kernel
theorem dX2_init_20 : decode cX2_init 20 = .ok (.aload_n 0, 1) := by decide +kernel
theorem dX2_init_21 : decode cX2_init 21 = .ok (.bipush 16, 2) := by decide +kernel
theorem dX2_init_23 : decode cX2_init 23 = .ok (.newarray .int, 2) := by decide +kernel
theorem dX2_init_25 : decode cX2_init 25 = .ok (.putfield 22, 3) := by decide +kernel
theorem dX2_init_28 : decode cX2_init 28 = .ok (.aload_n 0, 1) := by decide +kernel
theorem dX2_init_29 : decode cX2_init 29 = .ok (.sipush 256, 3) := by decide +kernel
theorem dX2_init_32 : decode cX2_init 32 = .ok (.newarray .int, 2) := by decide +kernel
theorem dX2_init_34 : decode cX2_init 34 = .ok (.putfield 26, 3) := by decide +kernel
theorem dX2_init_37 : decode cX2_init 37 = .ok (.aload_n 0, 1) := by decide +kernel
theorem dX2_init_38 : decode cX2_init 38 = .ok (.bipush 16, 2) := by decide +kernel
theorem dX2_init_40 : decode cX2_init 40 = .ok (.newarray .int, 2) := by decide +kernel
theorem dX2_init_42 : decode cX2_init 42 = .ok (.putfield 29, 3) := by decide +kernel
theorem dX2_init_45 : decode cX2_init 45 = .ok (.aload_n 0, 1) := by decide +kernel
theorem dX2_init_46 : decode cX2_init 46 = .ok (.bipush 6, 2) := by decide +kernel
theorem dX2_init_48 : decode cX2_init 48 = .ok (.newarray .int, 2) := by decide +kernel
theorem dX2_init_50 : decode cX2_init 50 = .ok (.putfield 32, 3) := by decide +kernel
theorem dX2_init_53 : decode cX2_init 53 = .ok (.aload_n 0, 1) := by decide +kernel
theorem dX2_init_54 : decode cX2_init 54 = .ok (.bipush 8, 2) := by decide +kernel
theorem dX2_init_56 : decode cX2_init 56 = .ok (.newarray .int, 2) := by decide +kernel
theorem dX2_init_58 : decode cX2_init 58 = .ok (.putfield 35, 3) := by decide +kernel
theorem dX2_init_61 : decode cX2_init 61 = .ok (.aload_n 0, 1) := by decide +kernel
theorem dX2_init_62 : decode cX2_init 62 = .ok (.bipush 8, 2) := by decide +kernel
theorem dX2_init_64 : decode cX2_init 64 = .ok (.newarray .int, 2) := by decide +kernel
theorem dX2_init_66 : decode cX2_init 66 = .ok (.putfield 38, 3) := by decide +kernel
theorem dX2_init_69 : decode cX2_init 69 = .ok (.aload_n 0, 1) := by decide +kernel
theorem dX2_init_70 : decode cX2_init 70 = .ok (.iconst 0, 1) := by decide +kernel
theorem dX2_init_71 : decode cX2_init 71 = .ok (.putfield 41, 3) := by decide +kernel
theorem dX2_init_74 : decode cX2_init 74 = .ok (.aload_n 0, 1) := by decide +kernel
theorem dX2_init_75 : decode cX2_init 75 = .ok (.iconst 0, 1) := by decide +kernel
theorem dX2_init_76 : decode cX2_init 76 = .ok (.putfield 44, 3) := by decide +kernel
theorem dX2_init_79 : decode cX2_init 79 = .ok (.aload_n 0, 1) := by decide +kernel
theorem dX2_init_80 : decode cX2_init 80 = .ok (.iconst 0, 1) := by decide +kernel
theorem dX2_init_81 : decode cX2_init 81 = .ok (.putfield 47, 3) := by decide +kernel
theorem dX2_init_84 : decode cX2_init 84 = .ok (.return_, 1) := by decide +kernel
theorem dX2_prepare_0 : decode cX2_prepare 0 = .ok (.aload_n 0, 1) := by decide +kernel
theorem dX2_prepare_1 : decode cX2_prepare 1 = .ok (.aload_n 1, 1) := by decide +kernel
theorem dX2_prepare_2 : decode cX2_prepare 2 = .ok (.putfield 12, 3) := by decide +kernel
theorem dX2_prepare_5 : decode cX2_prepare 5 = .ok (.aload_n 0, 1) := by decide +kernel
theorem dX2_prepare_6 : decode cX2_prepare 6 = .ok (.iload_n 2, 1) := by decide +kernel
theorem dX2_prepare_7 : decode cX2_prepare 7 = .ok (.putfield 18, 3) := by decide +kernel
theorem dX2_prepare_10 : decode cX2_prepare 10 = .ok (.iconst 0, 1) := by decide +kernel
theorem dX2_prepare_11 : decode cX2_prepare 11 = .ok (.istore 4, 2) := by decide +kernel
theorem dX2_prepare_13 : decode cX2_prepare 13 = .ok (.iload 4, 2) := by decide +kernel
theorem dX2_prepare_15 : decode cX2_prepare 15 = .ok (.aload_n 1, 1) := by decide +kernel
theorem dX2_prepare_16 : decode cX2_prepare 16 = .ok (.getfield 50, 3) := by decide +kernel
theorem dX2_prepare_19 : decode cX2_prepare 19 = .ok (.if_icmp .ge 28, 3) := by decide +kernel
theorem dX2_prepare_22 : decode cX2_prepare 22 = .ok (.aload_n 0, 1) := by decide +kernel
theorem dX2_prepare_23 : decode cX2_prepare 23 = .ok (.getfield 22, 3) := by decide +kernel
theorem dX2_prepare_26 : decode cX2_prepare 26 = .ok (.iload 4, 2) := by decide +kernel
theorem dX2_prepare_28 : decode cX2_prepare 28 = .ok (.aload_n 0, 1) := by decide +kernel
theorem dX2_prepare_29 : decode cX2_prepare 29 = .ok (.aload_n 1, 1) := by decide +kernel
theorem dX2_prepare_30 : decode cX2_prepare 30 = .ok (.getfield 53, 3) := by decide +kernel
theorem dX2_prepare_33 : decode cX2_prepare 33 = .ok (.iload 4, 2) := by decide +kernel
theorem dX2_prepare_35 : decode cX2_prepare 35 = .ok (.iaload, 1) := by decide +kernel
theorem dX2_prepare_36 : decode cX2_prepare 36 = .ok (.iload_n 3, 1) := by decide +kernel
theorem dX2_prepare_37 : decode cX2_prepare 37 = .ok (.invokevirtual 56, 3) := by decide +kernel
theorem dX2_prepare_40 : decode cX2_prepare 40 = .ok (.iastore, 1) := by decide +kernel
theorem dX2_prepare_41 : decode cX2_prepare 41 = .ok (.iinc 4 1, 3) := by decide +kernel
theorem dX2_prepare_44 : decode cX2_prepare 44 = .ok (.goto (-31), 3) := by decide +kernel
theorem dX2_prepare_47 : decode cX2_prepare 47 = .ok (.aload_n 0, 1) := by decide +kernel
theorem dX2_prepare_48 : decode cX2_prepare 48 = .ok (.aload_n 0, 1) := by decide +kernel
theorem dX2_prepare_49 : decode cX2_prepare 49 = .ok (.getfield 26, 3) := by decide +kernel
theorem dX2_prepare_52 : decode cX2_prepare 52 = .ok (.iconst 0, 1) := by decide +kernel
theorem dX2_prepare_53 : decode cX2_prepare 53 = .ok (.invokevirtual 60, 3) := by decide +kernel
theorem dX2_prepare_56 : decode cX2_prepare 56 = .ok (.iconst 0, 1) := by decide +kernel
theorem dX2_prepare_57 : decode cX2_prepare 57 = .ok (.istore 4, 2) := by decide +kernel
theorem dX2_prepare_59 : decode cX2_prepare 59 = .ok (.iload 4, 2) := by decide +kernel
theorem dX2_prepare_61 : decode cX2_prepare 61 = .ok (.aload_n 1, 1) := by decide +kernel
theorem dX2_prepare_62 : decode cX2_prepare 62 = .ok (.getfield 50, 3) := by decide +kernel
theorem dX2_prepare_65 : decode cX2_prepare 65 = .ok (.if_icmp .ge 22, 3) := by decide +kernel
theorem dX2_prepare_68 : decode cX2_prepare 68 = .ok (.aload_n 0, 1) := by decide +kernel
theorem dX2_prepare_69 : decode cX2_prepare 69 = .ok (.getfield 29, 3) := by decide +kernel
theorem dX2_prepare_72 : decode cX2_prepare 72 = .ok (.iload 4, 2) := by decide +kernel
theorem dX2_prepare_74 : decode cX2_prepare 74 = .ok (.aload_n 0, 1) := by decide +kernel
theorem dX2_prepare_75 : decode cX2_prepare 75 = .ok (.iload 4, 2) := by decide +kernel
theorem dX2_prepare_77 : decode cX2_prepare 77 = .ok (.invokevirtual 64, 3) := by decide +kernel
theorem dX2_prepare_80 : decode cX2_prepare 80 = .ok (.iastore, 1) := by decide +kernel
theorem dX2_prepare_81 : decode cX2_prepare 81 = .ok (.iinc 4 1, 3) := by decide +kernel
theorem dX2_prepare_84 : decode cX2_prepare 84 = .ok (.goto (-25), 3) := by decide +kernel
theorem dX2_prepare_87 : decode cX2_prepare 87 = .ok (.return_, 1) := by decide +kernel
theorem dX2_firstWorth_0 : decode cX2_firstWorth 0 = .ok (.iconst 0, 1) := by decide +kernel
theorem dX2_firstWorth_1 : decode cX2_firstWorth 1 = .ok (.istore_n 2, 1) := by decide +kernel
theorem dX2_firstWorth_2 : decode cX2_firstWorth 2 = .ok (.iconst 0, 1) := by decide +kernel
theorem dX2_firstWorth_3 : decode cX2_firstWorth 3 = .ok (.istore_n 3, 1) := by decide +kernel
theorem dX2_firstWorth_4 : decode cX2_firstWorth 4 = .ok (.iload_n 3, 1) := by decide +kernel
theorem dX2_firstWorth_5 : decode cX2_firstWorth 5 = .ok (.aload_n 0, 1) := by decide +kernel
theorem dX2_firstWorth_6 : decode cX2_firstWorth 6 = .ok (.getfield 12, 3) := by decide +kernel
theorem dX2_firstWorth_9 : decode cX2_firstWorth 9 = .ok (.getfield 50, 3) := by decide +kernel
theorem dX2_firstWorth_12 : decode cX2_firstWorth 12 = .ok (.if_icmp .ge 42, 3) := by decide +kernel
theorem dX2_firstWorth_15 : decode cX2_firstWorth 15 = .ok (.iload_n 2, 1) := by decide +kernel
theorem dX2_firstWorth_16 : decode cX2_firstWorth 16 = .ok (.aload_n 0, 1) := by decide +kernel
theorem dX2_firstWorth_17 : decode cX2_firstWorth 17 = .ok (.getfield 22, 3) := by decide +kernel
theorem dX2_firstWorth_20 : decode cX2_firstWorth 20 = .ok (.iload_n 3, 1) := by decide +kernel
theorem dX2_firstWorth_21 : decode cX2_firstWorth 21 = .ok (.iaload, 1) := by decide +kernel
theorem dX2_firstWorth_22 : decode cX2_firstWorth 22 = .ok (.aload_n 0, 1) := by decide +kernel
theorem dX2_firstWorth_23 : decode cX2_firstWorth 23 = .ok (.getfield 26, 3) := by decide +kernel
theorem dX2_firstWorth_26 : decode cX2_firstWorth 26 = .ok (.iload_n 1, 1) := by decide +kernel
theorem dX2_firstWorth_27 : decode cX2_firstWorth 27 = .ok (.bipush 16, 2) := by decide +kernel
theorem dX2_firstWorth_29 : decode cX2_firstWorth 29 = .ok (.imul, 1) := by decide +kernel
theorem dX2_firstWorth_30 : decode cX2_firstWorth 30 = .ok (.iload_n 3, 1) := by decide +kernel
theorem dX2_firstWorth_31 : decode cX2_firstWorth 31 = .ok (.iadd, 1) := by decide +kernel
theorem dX2_firstWorth_32 : decode cX2_firstWorth 32 = .ok (.iaload, 1) := by decide +kernel
theorem dX2_firstWorth_33 : decode cX2_firstWorth 33 = .ok (.aload_n 0, 1) := by decide +kernel
theorem dX2_firstWorth_34 : decode cX2_firstWorth 34 = .ok (.getfield 12, 3) := by decide +kernel
theorem dX2_firstWorth_37 : decode cX2_firstWorth 37 = .ok (.getfield 68, 3) := by decide +kernel
theorem dX2_firstWorth_40 : decode cX2_firstWorth 40 = .ok (.iload_n 3, 1) := by decide +kernel
theorem dX2_firstWorth_41 : decode cX2_firstWorth 41 = .ok (.iaload, 1) := by decide +kernel
theorem dX2_firstWorth_42 : decode cX2_firstWorth 42 = .ok (.invokestatic 71, 3) := by decide +kernel
theorem dX2_firstWorth_45 : decode cX2_firstWorth 45 = .ok (.imul, 1) := by decide +kernel
theorem dX2_firstWorth_46 : decode cX2_firstWorth 46 = .ok (.iadd, 1) := by decide +kernel
theorem dX2_firstWorth_47 : decode cX2_firstWorth 47 = .ok (.istore_n 2, 1) := by decide +kernel
theorem dX2_firstWorth_48 : decode cX2_firstWorth 48 = .ok (.iinc 3 1, 3) := by decide +kernel
theorem dX2_firstWorth_51 : decode cX2_firstWorth 51 = .ok (.goto (-47), 3) := by decide +kernel
theorem dX2_firstWorth_54 : decode cX2_firstWorth 54 = .ok (.iload_n 2, 1) := by decide +kernel
theorem dX2_firstWorth_55 : decode cX2_firstWorth 55 = .ok (.ireturn, 1) := by decide +kernel
theorem dX2_weightOf_0 : decode cX2_weightOf 0 = .ok (.aload_n 0, 1) := by decide +kernel
theorem dX2_weightOf_1 : decode cX2_weightOf 1 = .ok (.getfield 18, 3) := by decide +kernel
theorem dX2_weightOf_4 : decode cX2_weightOf 4 = .ok (.iconst 1, 1) := by decide +kernel
theorem dX2_weightOf_5 : decode cX2_weightOf 5 = .ok (.if_icmp .ne 22, 3) := by decide +kernel
theorem dX2_weightOf_8 : decode cX2_weightOf 8 = .ok (.iload_n 1, 1) := by decide +kernel
theorem dX2_weightOf_9 : decode cX2_weightOf 9 = .ok (.iload_n 2, 1) := by decide +kernel
theorem dX2_weightOf_10 : decode cX2_weightOf 10 = .ok (.if_icmp .ne 7, 3) := by decide +kernel
theorem dX2_weightOf_13 : decode cX2_weightOf 13 = .ok (.iconst 0, 1) := by decide +kernel
theorem dX2_weightOf_14 : decode cX2_weightOf 14 = .ok (.goto 12, 3) := by decide +kernel
theorem dX2_weightOf_17 : decode cX2_weightOf 17 = .ok (.aload_n 0, 1) := by decide +kernel
theorem dX2_weightOf_18 : decode cX2_weightOf 18 = .ok (.getfield 12, 3) := by decide +kernel
theorem dX2_weightOf_21 : decode cX2_weightOf 21 = .ok (.getfield 76, 3) := by decide +kernel
theorem dX2_weightOf_24 : decode cX2_weightOf 24 = .ok (.iload_n 1, 1) := by decide +kernel
theorem dX2_weightOf_25 : decode cX2_weightOf 25 = .ok (.iaload, 1) := by decide +kernel
theorem dX2_weightOf_26 : decode cX2_weightOf 26 = .ok (.ireturn, 1) := by decide +kernel
theorem dX2_weightOf_27 : decode cX2_weightOf 27 = .ok (.aload_n 0, 1) := by decide +kernel
theorem dX2_weightOf_28 : decode cX2_weightOf 28 = .ok (.getfield 18, 3) := by decide +kernel
theorem dX2_weightOf_31 : decode cX2_weightOf 31 = .ok (.iconst 3, 1) := by decide +kernel
theorem dX2_weightOf_32 : decode cX2_weightOf 32 = .ok (.if_icmp .ne 8, 3) := by decide +kernel
theorem dX2_weightOf_35 : decode cX2_weightOf 35 = .ok (.iload_n 1, 1) := by decide +kernel
theorem dX2_weightOf_36 : decode cX2_weightOf 36 = .ok (.iload_n 2, 1) := by decide +kernel
theorem dX2_weightOf_37 : decode cX2_weightOf 37 = .ok (.if_icmp .ne 7, 3) := by decide +kernel
theorem dX2_weightOf_40 : decode cX2_weightOf 40 = .ok (.iconst 1, 1) := by decide +kernel
theorem dX2_weightOf_41 : decode cX2_weightOf 41 = .ok (.goto 4, 3) := by decide +kernel
theorem dX2_weightOf_44 : decode cX2_weightOf 44 = .ok (.iconst 0, 1) := by decide +kernel
theorem dX2_weightOf_45 : decode cX2_weightOf 45 = .ok (.ireturn, 1) := by decide +kernel
theorem dX2_fillCaps_0 : decode cX2_fillCaps 0 = .ok (.iconst 0, 1) := by decide +kernel
theorem dX2_fillCaps_1 : decode cX2_fillCaps 1 = .ok (.istore_n 3, 1) := by decide +kernel
theorem dX2_fillCaps_2 : decode cX2_fillCaps 2 = .ok (.iload_n 3, 1) := by decide +kernel
theorem dX2_fillCaps_3 : decode cX2_fillCaps 3 = .ok (.aload_n 0, 1) := by decide +kernel
theorem dX2_fillCaps_4 : decode cX2_fillCaps 4 = .ok (.getfield 12, 3) := by decide +kernel
theorem dX2_fillCaps_7 : decode cX2_fillCaps 7 = .ok (.getfield 50, 3) := by decide +kernel
theorem dX2_fillCaps_10 : decode cX2_fillCaps 10 = .ok (.if_icmp .ge 72, 3) := by decide +kernel
theorem dX2_fillCaps_13 : decode cX2_fillCaps 13 = .ok (.iconst 0, 1) := by decide +kernel
theorem dX2_fillCaps_14 : decode cX2_fillCaps 14 = .ok (.istore 4, 2) := by decide +kernel
theorem dX2_fillCaps_16 : decode cX2_fillCaps 16 = .ok (.iload 4, 2) := by decide +kernel
theorem dX2_fillCaps_18 : decode cX2_fillCaps 18 = .ok (.aload_n 0, 1) := by decide +kernel
theorem dX2_fillCaps_19 : decode cX2_fillCaps 19 = .ok (.getfield 12, 3) := by decide +kernel
theorem dX2_fillCaps_22 : decode cX2_fillCaps 22 = .ok (.getfield 50, 3) := by decide +kernel
theorem dX2_fillCaps_25 : decode cX2_fillCaps 25 = .ok (.if_icmp .ge 51, 3) := by decide +kernel
theorem dX2_fillCaps_28 : decode cX2_fillCaps 28 = .ok (.iconst 0, 1) := by decide +kernel
theorem dX2_fillCaps_29 : decode cX2_fillCaps 29 = .ok (.aload_n 0, 1) := by decide +kernel
theorem dX2_fillCaps_30 : decode cX2_fillCaps 30 = .ok (.getfield 12, 3) := by decide +kernel
theorem dX2_fillCaps_33 : decode cX2_fillCaps 33 = .ok (.getfield 79, 3) := by decide +kernel
theorem dX2_fillCaps_36 : decode cX2_fillCaps 36 = .ok (.iload 4, 2) := by decide +kernel
theorem dX2_fillCaps_38 : decode cX2_fillCaps 38 = .ok (.iaload, 1) := by decide +kernel
theorem dX2_fillCaps_39 : decode cX2_fillCaps 39 = .ok (.iload_n 2, 1) := by decide +kernel
theorem dX2_fillCaps_40 : decode cX2_fillCaps 40 = .ok (.iadd, 1) := by decide +kernel
theorem dX2_fillCaps_41 : decode cX2_fillCaps 41 = .ok (.invokestatic 82, 3) := by decide +kernel
theorem dX2_fillCaps_44 : decode cX2_fillCaps 44 = .ok (.istore 5, 2) := by decide +kernel
theorem dX2_fillCaps_46 : decode cX2_fillCaps 46 = .ok (.aload_n 1, 1) := by decide +kernel
theorem dX2_fillCaps_47 : decode cX2_fillCaps 47 = .ok (.iload_n 3, 1) := by decide +kernel
theorem dX2_fillCaps_48 : decode cX2_fillCaps 48 = .ok (.bipush 16, 2) := by decide +kernel
theorem dX2_fillCaps_50 : decode cX2_fillCaps 50 = .ok (.imul, 1) := by decide +kernel
theorem dX2_fillCaps_51 : decode cX2_fillCaps 51 = .ok (.iload 4, 2) := by decide +kernel
theorem dX2_fillCaps_53 : decode cX2_fillCaps 53 = .ok (.iadd, 1) := by decide +kernel
theorem dX2_fillCaps_54 : decode cX2_fillCaps 54 = .ok (.iload 5, 2) := by decide +kernel
theorem dX2_fillCaps_56 : decode cX2_fillCaps 56 = .ok (.aload_n 0, 1) := by decide +kernel
theorem dX2_fillCaps_57 : decode cX2_fillCaps 57 = .ok (.getfield 12, 3) := by decide +kernel
