theorem dX2_weighedScore_33 : decode cX2_weighedScore 33 = .ok (.ifCond .eq 22, 3) := by decide +kernel
theorem dX2_weighedScore_36 : decode cX2_weighedScore 36 = .ok (.iload_n 1, 1) := by decide +kernel
theorem dX2_weighedScore_37 : decode cX2_weighedScore 37 = .ok (.aload_n 0, 1) := by decide +kernel
theorem dX2_weighedScore_38 : decode cX2_weighedScore 38 = .ok (.getfield 22, 3) := by decide +kernel
theorem dX2_weighedScore_41 : decode cX2_weighedScore 41 = .ok (.iload_n 2, 1) := by decide +kernel
theorem dX2_weighedScore_42 : decode cX2_weighedScore 42 = .ok (.iaload, 1) := by decide +kernel
theorem dX2_weighedScore_43 : decode cX2_weighedScore 43 = .ok (.aload_n 0, 1) := by decide +kernel
theorem dX2_weighedScore_44 : decode cX2_weighedScore 44 = .ok (.aload_n 0, 1) := by decide +kernel
theorem dX2_weighedScore_45 : decode cX2_weighedScore 45 = .ok (.getfield 26, 3) := by decide +kernel
theorem dX2_weighedScore_48 : decode cX2_weighedScore 48 = .ok (.iload_n 2, 1) := by decide +kernel
theorem dX2_weighedScore_49 : decode cX2_weighedScore 49 = .ok (.invokevirtual 120, 3) := by decide +kernel
theorem dX2_weighedScore_52 : decode cX2_weighedScore 52 = .ok (.imul, 1) := by decide +kernel
theorem dX2_weighedScore_53 : decode cX2_weighedScore 53 = .ok (.iadd, 1) := by decide +kernel
theorem dX2_weighedScore_54 : decode cX2_weighedScore 54 = .ok (.istore_n 1, 1) := by decide +kernel
theorem dX2_weighedScore_55 : decode cX2_weighedScore 55 = .ok (.iinc 2 1, 3) := by decide +kernel
theorem dX2_weighedScore_58 : decode cX2_weighedScore 58 = .ok (.goto (-54), 3) := by decide +kernel
theorem dX2_weighedScore_61 : decode cX2_weighedScore 61 = .ok (.iload_n 1, 1) := by decide +kernel
theorem dX2_weighedScore_62 : decode cX2_weighedScore 62 = .ok (.ireturn, 1) := by decide +kernel
theorem dX2_fairScore_0 : decode cX2_fairScore 0 = .ok (.aload_n 0, 1) := by decide +kernel
theorem dX2_fairScore_1 : decode cX2_fairScore 1 = .ok (.getfield 32, 3) := by decide +kernel
theorem dX2_fairScore_4 : decode cX2_fairScore 4 = .ok (.iconst 0, 1) := by decide +kernel
theorem dX2_fairScore_5 : decode cX2_fairScore 5 = .ok (.invokestatic 124, 3) := by decide +kernel
theorem dX2_fairScore_8 : decode cX2_fairScore 8 = .ok (.iconst 0, 1) := by decide +kernel
theorem dX2_fairScore_9 : decode cX2_fairScore 9 = .ok (.istore_n 1, 1) := by decide +kernel
theorem dX2_fairScore_10 : decode cX2_fairScore 10 = .ok (.iconst 0, 1) := by decide +kernel
theorem dX2_fairScore_11 : decode cX2_fairScore 11 = .ok (.istore_n 2, 1) := by decide +kernel
theorem dX2_fairScore_12 : decode cX2_fairScore 12 = .ok (.iload_n 2, 1) := by decide +kernel
theorem dX2_fairScore_13 : decode cX2_fairScore 13 = .ok (.aload_n 0, 1) := by decide +kernel
theorem dX2_fairScore_14 : decode cX2_fairScore 14 = .ok (.getfield 12, 3) := by decide +kernel
theorem dX2_fairScore_17 : decode cX2_fairScore 17 = .ok (.getfield 50, 3) := by decide +kernel
theorem dX2_fairScore_20 : decode cX2_fairScore 20 = .ok (.if_icmp .ge 41, 3) := by decide +kernel
theorem dX2_fairScore_23 : decode cX2_fairScore 23 = .ok (.aload_n 0, 1) := by decide +kernel
theorem dX2_fairScore_24 : decode cX2_fairScore 24 = .ok (.aload_n 0, 1) := by decide +kernel
theorem dX2_fairScore_25 : decode cX2_fairScore 25 = .ok (.getfield 26, 3) := by decide +kernel
theorem dX2_fairScore_28 : decode cX2_fairScore 28 = .ok (.iload_n 2, 1) := by decide +kernel
theorem dX2_fairScore_29 : decode cX2_fairScore 29 = .ok (.invokevirtual 120, 3) := by decide +kernel
theorem dX2_fairScore_32 : decode cX2_fairScore 32 = .ok (.istore_n 3, 1) := by decide +kernel
theorem dX2_fairScore_33 : decode cX2_fairScore 33 = .ok (.aload_n 0, 1) := by decide +kernel
theorem dX2_fairScore_34 : decode cX2_fairScore 34 = .ok (.getfield 32, 3) := by decide +kernel
theorem dX2_fairScore_37 : decode cX2_fairScore 37 = .ok (.aload_n 0, 1) := by decide +kernel
theorem dX2_fairScore_38 : decode cX2_fairScore 38 = .ok (.getfield 12, 3) := by decide +kernel
theorem dX2_fairScore_41 : decode cX2_fairScore 41 = .ok (.getfield 53, 3) := by decide +kernel
theorem dX2_fairScore_44 : decode cX2_fairScore 44 = .ok (.iload_n 2, 1) := by decide +kernel
theorem dX2_fairScore_45 : decode cX2_fairScore 45 = .ok (.iaload, 1) := by decide +kernel
theorem dX2_fairScore_46 : decode cX2_fairScore 46 = .ok (.dup2, 1) := by decide +kernel
theorem dX2_fairScore_47 : decode cX2_fairScore 47 = .ok (.iaload, 1) := by decide +kernel
theorem dX2_fairScore_48 : decode cX2_fairScore 48 = .ok (.iload_n 3, 1) := by decide +kernel
theorem dX2_fairScore_49 : decode cX2_fairScore 49 = .ok (.iadd, 1) := by decide +kernel
theorem dX2_fairScore_50 : decode cX2_fairScore 50 = .ok (.iastore, 1) := by decide +kernel
theorem dX2_fairScore_51 : decode cX2_fairScore 51 = .ok (.iload_n 1, 1) := by decide +kernel
theorem dX2_fairScore_52 : decode cX2_fairScore 52 = .ok (.iload_n 3, 1) := by decide +kernel
theorem dX2_fairScore_53 : decode cX2_fairScore 53 = .ok (.iadd, 1) := by decide +kernel
theorem dX2_fairScore_54 : decode cX2_fairScore 54 = .ok (.istore_n 1, 1) := by decide +kernel
theorem dX2_fairScore_55 : decode cX2_fairScore 55 = .ok (.iinc 2 1, 3) := by decide +kernel
theorem dX2_fairScore_58 : decode cX2_fairScore 58 = .ok (.goto (-46), 3) := by decide +kernel
theorem dX2_fairScore_61 : decode cX2_fairScore 61 = .ok (.iload_n 1, 1) := by decide +kernel
theorem dX2_fairScore_62 : decode cX2_fairScore 62 = .ok (.istore_n 2, 1) := by decide +kernel
theorem dX2_fairScore_63 : decode cX2_fairScore 63 = .ok (.iconst 0, 1) := by decide +kernel
theorem dX2_fairScore_64 : decode cX2_fairScore 64 = .ok (.istore_n 3, 1) := by decide +kernel
theorem dX2_fairScore_65 : decode cX2_fairScore 65 = .ok (.iload_n 3, 1) := by decide +kernel
theorem dX2_fairScore_66 : decode cX2_fairScore 66 = .ok (.aload_n 0, 1) := by decide +kernel
theorem dX2_fairScore_67 : decode cX2_fairScore 67 = .ok (.getfield 12, 3) := by decide +kernel
theorem dX2_fairScore_70 : decode cX2_fairScore 70 = .ok (.getfield 50, 3) := by decide +kernel
theorem dX2_fairScore_73 : decode cX2_fairScore 73 = .ok (.if_icmp .ge 28, 3) := by decide +kernel
theorem dX2_fairScore_76 : decode cX2_fairScore 76 = .ok (.iload_n 2, 1) := by decide +kernel
theorem dX2_fairScore_77 : decode cX2_fairScore 77 = .ok (.aload_n 0, 1) := by decide +kernel
theorem dX2_fairScore_78 : decode cX2_fairScore 78 = .ok (.getfield 32, 3) := by decide +kernel
theorem dX2_fairScore_81 : decode cX2_fairScore 81 = .ok (.aload_n 0, 1) := by decide +kernel
theorem dX2_fairScore_82 : decode cX2_fairScore 82 = .ok (.getfield 12, 3) := by decide +kernel
theorem dX2_fairScore_85 : decode cX2_fairScore 85 = .ok (.getfield 53, 3) := by decide +kernel
theorem dX2_fairScore_88 : decode cX2_fairScore 88 = .ok (.iload_n 3, 1) := by decide +kernel
theorem dX2_fairScore_89 : decode cX2_fairScore 89 = .ok (.iaload, 1) := by decide +kernel
theorem dX2_fairScore_90 : decode cX2_fairScore 90 = .ok (.iaload, 1) := by decide +kernel
theorem dX2_fairScore_91 : decode cX2_fairScore 91 = .ok (.invokestatic 71, 3) := by decide +kernel
theorem dX2_fairScore_94 : decode cX2_fairScore 94 = .ok (.istore_n 2, 1) := by decide +kernel
theorem dX2_fairScore_95 : decode cX2_fairScore 95 = .ok (.iinc 3 1, 3) := by decide +kernel
theorem dX2_fairScore_98 : decode cX2_fairScore 98 = .ok (.goto (-33), 3) := by decide +kernel
theorem dX2_fairScore_101 : decode cX2_fairScore 101 = .ok (.iload_n 2, 1) := by decide +kernel
theorem dX2_fairScore_102 : decode cX2_fairScore 102 = .ok (.sipush 2048, 3) := by decide +kernel
theorem dX2_fairScore_105 : decode cX2_fairScore 105 = .ok (.imul, 1) := by decide +kernel
theorem dX2_fairScore_106 : decode cX2_fairScore 106 = .ok (.iload_n 1, 1) := by decide +kernel
theorem dX2_fairScore_107 : decode cX2_fairScore 107 = .ok (.iadd, 1) := by decide +kernel
theorem dX2_fairScore_108 : decode cX2_fairScore 108 = .ok (.ireturn, 1) := by decide +kernel
theorem dX2_fewestIn_0 : decode cX2_fewestIn 0 = .ok (.iload_n 0, 1) := by decide +kernel
theorem dX2_fewestIn_1 : decode cX2_fewestIn 1 = .ok (.sipush 2048, 3) := by decide +kernel
theorem dX2_fewestIn_4 : decode cX2_fewestIn 4 = .ok (.idiv, 1) := by decide +kernel
theorem dX2_fewestIn_5 : decode cX2_fewestIn 5 = .ok (.ireturn, 1) := by decide +kernel
theorem dX2_allIn_0 : decode cX2_allIn 0 = .ok (.iload_n 0, 1) := by decide +kernel
theorem dX2_allIn_1 : decode cX2_allIn 1 = .ok (.sipush 2048, 3) := by decide +kernel
theorem dX2_allIn_4 : decode cX2_allIn 4 = .ok (.irem, 1) := by decide +kernel
theorem dX2_allIn_5 : decode cX2_allIn 5 = .ok (.ireturn, 1) := by decide +kernel
theorem dX2_stripsHungOver_0 : decode cX2_stripsHungOver 0 = .ok (.iconst 0, 1) := by decide +kernel
theorem dX2_stripsHungOver_1 : decode cX2_stripsHungOver 1 = .ok (.istore_n 1, 1) := by decide +kernel
theorem dX2_stripsHungOver_2 : decode cX2_stripsHungOver 2 = .ok (.iconst 0, 1) := by decide +kernel
theorem dX2_stripsHungOver_3 : decode cX2_stripsHungOver 3 = .ok (.istore_n 2, 1) := by decide +kernel
theorem dX2_stripsHungOver_4 : decode cX2_stripsHungOver 4 = .ok (.iload_n 2, 1) := by decide +kernel
theorem dX2_stripsHungOver_5 : decode cX2_stripsHungOver 5 = .ok (.aload_n 0, 1) := by decide +kernel
theorem dX2_stripsHungOver_6 : decode cX2_stripsHungOver 6 = .ok (.getfield 41, 3) := by decide +kernel
theorem dX2_stripsHungOver_9 : decode cX2_stripsHungOver 9 = .ok (.if_icmp .ge 20, 3) := by decide +kernel
theorem dX2_stripsHungOver_12 : decode cX2_stripsHungOver 12 = .ok (.iload_n 1, 1) := by decide +kernel
theorem dX2_stripsHungOver_13 : decode cX2_stripsHungOver 13 = .ok (.iconst 1, 1) := by decide +kernel
theorem dX2_stripsHungOver_14 : decode cX2_stripsHungOver 14 = .ok (.aload_n 0, 1) := by decide +kernel
theorem dX2_stripsHungOver_15 : decode cX2_stripsHungOver 15 = .ok (.getfield 35, 3) := by decide +kernel
theorem dX2_stripsHungOver_18 : decode cX2_stripsHungOver 18 = .ok (.iload_n 2, 1) := by decide +kernel
theorem dX2_stripsHungOver_19 : decode cX2_stripsHungOver 19 = .ok (.iaload, 1) := by decide +kernel
theorem dX2_stripsHungOver_20 : decode cX2_stripsHungOver 20 = .ok (.ishl, 1) := by decide +kernel
theorem dX2_stripsHungOver_21 : decode cX2_stripsHungOver 21 = .ok (.ior, 1) := by decide +kernel
theorem dX2_stripsHungOver_22 : decode cX2_stripsHungOver 22 = .ok (.istore_n 1, 1) := by decide +kernel
theorem dX2_stripsHungOver_23 : decode cX2_stripsHungOver 23 = .ok (.iinc 2 1, 3) := by decide +kernel
theorem dX2_stripsHungOver_26 : decode cX2_stripsHungOver 26 = .ok (.goto (-22), 3) := by decide +kernel
theorem dX2_stripsHungOver_29 : decode cX2_stripsHungOver 29 = .ok (.iload_n 1, 1) := by decide +kernel
theorem dX2_stripsHungOver_30 : decode cX2_stripsHungOver 30 = .ok (.ireturn, 1) := by decide +kernel
theorem dX2_bidsOf_0 : decode cX2_bidsOf 0 = .ok (.aload_n 0, 1) := by decide +kernel
theorem dX2_bidsOf_1 : decode cX2_bidsOf 1 = .ok (.lload_n 2, 1) := by decide +kernel
theorem dX2_bidsOf_2 : decode cX2_bidsOf 2 = .ok (.invokevirtual 104, 3) := by decide +kernel
theorem dX2_bidsOf_5 : decode cX2_bidsOf 5 = .ok (.iconst 0, 1) := by decide +kernel
theorem dX2_bidsOf_6 : decode cX2_bidsOf 6 = .ok (.istore 4, 2) := by decide +kernel
theorem dX2_bidsOf_8 : decode cX2_bidsOf 8 = .ok (.iconst 0, 1) := by decide +kernel
theorem dX2_bidsOf_9 : decode cX2_bidsOf 9 = .ok (.istore 5, 2) := by decide +kernel
theorem dX2_bidsOf_11 : decode cX2_bidsOf 11 = .ok (.iload 5, 2) := by decide +kernel
theorem dX2_bidsOf_13 : decode cX2_bidsOf 13 = .ok (.aload_n 0, 1) := by decide +kernel
theorem dX2_bidsOf_14 : decode cX2_bidsOf 14 = .ok (.getfield 12, 3) := by decide +kernel
theorem dX2_bidsOf_17 : decode cX2_bidsOf 17 = .ok (.getfield 50, 3) := by decide +kernel
theorem dX2_bidsOf_20 : decode cX2_bidsOf 20 = .ok (.if_icmp .ge 48, 3) := by decide +kernel
theorem dX2_bidsOf_23 : decode cX2_bidsOf 23 = .ok (.aload_n 0, 1) := by decide +kernel
theorem dX2_bidsOf_24 : decode cX2_bidsOf 24 = .ok (.getfield 12, 3) := by decide +kernel
theorem dX2_bidsOf_27 : decode cX2_bidsOf 27 = .ok (.getfield 53, 3) := by decide +kernel
theorem dX2_bidsOf_30 : decode cX2_bidsOf 30 = .ok (.iload 5, 2) := by decide +kernel
theorem dX2_bidsOf_32 : decode cX2_bidsOf 32 = .ok (.iaload, 1) := by decide +kernel
theorem dX2_bidsOf_33 : decode cX2_bidsOf 33 = .ok (.iload_n 1, 1) := by decide +kernel
theorem dX2_bidsOf_34 : decode cX2_bidsOf 34 = .ok (.if_icmp .ne 28, 3) := by decide +kernel
theorem dX2_bidsOf_37 : decode cX2_bidsOf 37 = .ok (.iload 4, 2) := by decide +kernel
theorem dX2_bidsOf_39 : decode cX2_bidsOf 39 = .ok (.aload_n 0, 1) := by decide +kernel
theorem dX2_bidsOf_40 : decode cX2_bidsOf 40 = .ok (.getfield 12, 3) := by decide +kernel
theorem dX2_bidsOf_43 : decode cX2_bidsOf 43 = .ok (.getfield 76, 3) := by decide +kernel
theorem dX2_bidsOf_46 : decode cX2_bidsOf 46 = .ok (.iload_n 1, 1) := by decide +kernel
theorem dX2_bidsOf_47 : decode cX2_bidsOf 47 = .ok (.iaload, 1) := by decide +kernel
theorem dX2_bidsOf_48 : decode cX2_bidsOf 48 = .ok (.aload_n 0, 1) := by decide +kernel
theorem dX2_bidsOf_49 : decode cX2_bidsOf 49 = .ok (.aload_n 0, 1) := by decide +kernel
theorem dX2_bidsOf_50 : decode cX2_bidsOf 50 = .ok (.getfield 26, 3) := by decide +kernel
theorem dX2_bidsOf_53 : decode cX2_bidsOf 53 = .ok (.iload 5, 2) := by decide +kernel
theorem dX2_bidsOf_55 : decode cX2_bidsOf 55 = .ok (.invokevirtual 120, 3) := by decide +kernel
theorem dX2_bidsOf_58 : decode cX2_bidsOf 58 = .ok (.imul, 1) := by decide +kernel
theorem dX2_bidsOf_59 : decode cX2_bidsOf 59 = .ok (.iadd, 1) := by decide +kernel
theorem dX2_bidsOf_60 : decode cX2_bidsOf 60 = .ok (.istore 4, 2) := by decide +kernel
theorem dX2_bidsOf_62 : decode cX2_bidsOf 62 = .ok (.iinc 5 1, 3) := by decide +kernel
theorem dX2_bidsOf_65 : decode cX2_bidsOf 65 = .ok (.goto (-54), 3) := by decide +kernel
theorem dX2_bidsOf_68 : decode cX2_bidsOf 68 = .ok (.iload 4, 2) := by decide +kernel
theorem dX2_bidsOf_70 : decode cX2_bidsOf 70 = .ok (.ireturn, 1) := by decide +kernel
theorem dX3_init_0 : decode cX3_init 0 = .ok (.aload_n 0, 1) := by decide +kernel
theorem dX3_init_1 : decode cX3_init 1 = .ok (.invokespecial 3, 3) := by decide +kernel
theorem dX3_init_4 : decode cX3_init 4 = .ok (.aload_n 0, 1) := by decide +kernel
theorem dX3_init_5 : decode cX3_init 5 = .ok (.bipush 16, 2) := by decide +kernel
theorem dX3_init_7 : decode cX3_init 7 = .ok (.newarray .int, 2) := by decide +kernel
theorem dX3_init_9 : decode cX3_init 9 = .ok (.putfield 9, 3) := by decide +kernel
theorem dX3_init_12 : decode cX3_init 12 = .ok (.aload_n 0, 1) := by decide +kernel
theorem dX3_init_13 : decode cX3_init 13 = .ok (.bipush 16, 2) := by decide +kernel
theorem dX3_init_15 : decode cX3_init 15 = .ok (.newarray .int, 2) := by decide +kernel
theorem dX3_init_17 : decode cX3_init 17 = .ok (.putfield 15, 3) := by decide +kernel
theorem dX3_init_20 : decode cX3_init 20 = .ok (.aload_n 0, 1) := by decide +kernel
theorem dX3_init_21 : decode cX3_init 21 = .ok (.bipush 16, 2) := by decide +kernel
theorem dX3_init_23 : decode cX3_init 23 = .ok (.newarray .int, 2) := by decide +kernel
theorem dX3_init_25 : decode cX3_init 25 = .ok (.putfield 18, 3) := by decide +kernel
theorem dX3_init_28 : decode cX3_init 28 = .ok (.aload_n 0, 1) := by decide +kernel
theorem dX3_init_29 : decode cX3_init 29 = .ok (.bipush 16, 2) := by decide +kernel
theorem dX3_init_31 : decode cX3_init 31 = .ok (.newarray .int, 2) := by decide +kernel
theorem dX3_init_33 : decode cX3_init 33 = .ok (.putfield 21, 3) := by decide +kernel
theorem dX3_init_36 : decode cX3_init 36 = .ok (.aload_n 0, 1) := by decide +kernel
theorem dX3_init_37 : decode cX3_init 37 = .ok (.bipush 16, 2) := by decide +kernel
theorem dX3_init_39 : decode cX3_init 39 = .ok (.newarray .int, 2) := by decide +kernel
theorem dX3_init_41 : decode cX3_init 41 = .ok (.putfield 24, 3) := by decide +kernel
theorem dX3_init_44 : decode cX3_init 44 = .ok (.aload_n 0, 1) := by decide +kernel
theorem dX3_init_45 : decode cX3_init 45 = .ok (.bipush 6, 2) := by decide +kernel
theorem dX3_init_47 : decode cX3_init 47 = .ok (.newarray .int, 2) := by decide +kernel
theorem dX3_init_49 : decode cX3_init 49 = .ok (.putfield 27, 3) := by decide +kernel
theorem dX3_init_52 : decode cX3_init 52 = .ok (.aload_n 0, 1) := by decide +kernel
theorem dX3_init_53 : decode cX3_init 53 = .ok (.invokevirtual 30, 3) := by decide +kernel
theorem dX3_init_56 : decode cX3_init 56 = .ok (.return_, 1) := by decide +kernel
theorem dX3_empty_0 : decode cX3_empty 0 = .ok (.aload_n 0, 1) := by decide +kernel
theorem dX3_empty_1 : decode cX3_empty 1 = .ok (.iconst 0, 1) := by decide +kernel
theorem dX3_empty_2 : decode cX3_empty 2 = .ok (.putfield 33, 3) := by decide +kernel
theorem dX3_empty_5 : decode cX3_empty 5 = .ok (.aload_n 0, 1) := by decide +kernel
theorem dX3_empty_6 : decode cX3_empty 6 = .ok (.iconst 0, 1) := by decide +kernel
theorem dX3_empty_7 : decode cX3_empty 7 = .ok (.putfield 37, 3) := by decide +kernel
theorem dX3_empty_10 : decode cX3_empty 10 = .ok (.aload_n 0, 1) := by decide +kernel
theorem dX3_empty_11 : decode cX3_empty 11 = .ok (.iconst 0, 1) := by decide +kernel
theorem dX3_empty_12 : decode cX3_empty 12 = .ok (.putfield 40, 3) := by decide +kernel
theorem dX3_empty_15 : decode cX3_empty 15 = .ok (.aload_n 0, 1) := by decide +kernel
theorem dX3_empty_16 : decode cX3_empty 16 = .ok (.iconst 0, 1) := by decide +kernel
theorem dX3_empty_17 : decode cX3_empty 17 = .ok (.putfield 43, 3) := by decide +kernel
theorem dX3_empty_20 : decode cX3_empty 20 = .ok (.aload_n 0, 1) := by decide +kernel
theorem dX3_empty_21 : decode cX3_empty 21 = .ok (.bipush 6, 2) := by decide +kernel
theorem dX3_empty_23 : decode cX3_empty 23 = .ok (.putfield 46, 3) := by decide +kernel
theorem dX3_empty_26 : decode cX3_empty 26 = .ok (.aload_n 0, 1) := by decide +kernel
theorem dX3_empty_27 : decode cX3_empty 27 = .ok (.bipush 6, 2) := by decide +kernel
theorem dX3_empty_29 : decode cX3_empty 29 = .ok (.putfield 49, 3) := by decide +kernel
theorem dX3_empty_32 : decode cX3_empty 32 = .ok (.aload_n 0, 1) := by decide +kernel
theorem dX3_empty_33 : decode cX3_empty 33 = .ok (.iconst 1, 1) := by decide +kernel
theorem dX3_empty_34 : decode cX3_empty 34 = .ok (.putfield 52, 3) := by decide +kernel
theorem dX3_empty_37 : decode cX3_empty 37 = .ok (.aload_n 0, 1) := by decide +kernel
