theorem dX1_init_23 : decode cX1_init 23 = .ok (.iconst 0, 1) := by decide +kernel
theorem dX1_init_24 : decode cX1_init 24 = .ok (.putfield 18, 3) := by decide +kernel
theorem dX1_init_27 : decode cX1_init 27 = .ok (.aload_n 0, 1) := by decide +kernel
theorem dX1_init_28 : decode cX1_init 28 = .ok (.iconst 0, 1) := by decide +kernel
theorem dX1_init_29 : decode cX1_init 29 = .ok (.putfield 22, 3) := by decide +kernel
theorem dX1_init_32 : decode cX1_init 32 = .ok (.aload_n 0, 1) := by decide +kernel
theorem dX1_init_33 : decode cX1_init 33 = .ok (.iconst 0, 1) := by decide +kernel
theorem dX1_init_34 : decode cX1_init 34 = .ok (.putfield 25, 3) := by decide +kernel
theorem dX1_init_37 : decode cX1_init 37 = .ok (.return_, 1) := by decide +kernel
theorem dX1_countUnlike_0 : decode cX1_countUnlike 0 = .ok (.aload_n 0, 1) := by decide +kernel
theorem dX1_countUnlike_1 : decode cX1_countUnlike 1 = .ok (.iconst 0, 1) := by decide +kernel
theorem dX1_countUnlike_2 : decode cX1_countUnlike 2 = .ok (.putfield 18, 3) := by decide +kernel
theorem dX1_countUnlike_5 : decode cX1_countUnlike 5 = .ok (.aload_n 2, 1) := by decide +kernel
theorem dX1_countUnlike_6 : decode cX1_countUnlike 6 = .ok (.iload_n 3, 1) := by decide +kernel
theorem dX1_countUnlike_7 : decode cX1_countUnlike 7 = .ok (.invokevirtual 28, 3) := by decide +kernel
theorem dX1_countUnlike_10 : decode cX1_countUnlike 10 = .ok (.istore 4, 2) := by decide +kernel
theorem dX1_countUnlike_12 : decode cX1_countUnlike 12 = .ok (.aload_n 2, 1) := by decide +kernel
theorem dX1_countUnlike_13 : decode cX1_countUnlike 13 = .ok (.iload_n 3, 1) := by decide +kernel
theorem dX1_countUnlike_14 : decode cX1_countUnlike 14 = .ok (.invokevirtual 34, 3) := by decide +kernel
theorem dX1_countUnlike_17 : decode cX1_countUnlike 17 = .ok (.istore 5, 2) := by decide +kernel
theorem dX1_countUnlike_19 : decode cX1_countUnlike 19 = .ok (.iload 5, 2) := by decide +kernel
theorem dX1_countUnlike_21 : decode cX1_countUnlike 21 = .ok (.iload 4, 2) := by decide +kernel
theorem dX1_countUnlike_23 : decode cX1_countUnlike 23 = .ok (.if_icmp .ge 45, 3) := by decide +kernel
theorem dX1_countUnlike_26 : decode cX1_countUnlike 26 = .ok (.aload_n 2, 1) := by decide +kernel
theorem dX1_countUnlike_27 : decode cX1_countUnlike 27 = .ok (.getfield 37, 3) := by decide +kernel
theorem dX1_countUnlike_30 : decode cX1_countUnlike 30 = .ok (.iload 5, 2) := by decide +kernel
theorem dX1_countUnlike_32 : decode cX1_countUnlike 32 = .ok (.baload, 1) := by decide +kernel
theorem dX1_countUnlike_33 : decode cX1_countUnlike 33 = .ok (.ifCond .ne 29, 3) := by decide +kernel
theorem dX1_countUnlike_36 : decode cX1_countUnlike 36 = .ok (.aload_n 1, 1) := by decide +kernel
theorem dX1_countUnlike_37 : decode cX1_countUnlike 37 = .ok (.aload_n 2, 1) := by decide +kernel
theorem dX1_countUnlike_38 : decode cX1_countUnlike 38 = .ok (.getfield 41, 3) := by decide +kernel
theorem dX1_countUnlike_41 : decode cX1_countUnlike 41 = .ok (.iload 5, 2) := by decide +kernel
theorem dX1_countUnlike_43 : decode cX1_countUnlike 43 = .ok (.laload, 1) := by decide +kernel
theorem dX1_countUnlike_44 : decode cX1_countUnlike 44 = .ok (.invokevirtual 44, 3) := by decide +kernel
theorem dX1_countUnlike_47 : decode cX1_countUnlike 47 = .ok (.aload_n 0, 1) := by decide +kernel
theorem dX1_countUnlike_48 : decode cX1_countUnlike 48 = .ok (.aload_n 1, 1) := by decide +kernel
theorem dX1_countUnlike_49 : decode cX1_countUnlike 49 = .ok (.iconst 0, 1) := by decide +kernel
theorem dX1_countUnlike_50 : decode cX1_countUnlike 50 = .ok (.invokestatic 50, 3) := by decide +kernel
theorem dX1_countUnlike_53 : decode cX1_countUnlike 53 = .ok (.aload_n 1, 1) := by decide +kernel
theorem dX1_countUnlike_54 : decode cX1_countUnlike 54 = .ok (.bipush 8, 2) := by decide +kernel
theorem dX1_countUnlike_56 : decode cX1_countUnlike 56 = .ok (.invokestatic 50, 3) := by decide +kernel
theorem dX1_countUnlike_59 : decode cX1_countUnlike 59 = .ok (.invokevirtual 54, 3) := by decide +kernel
theorem dX1_countUnlike_62 : decode cX1_countUnlike 62 = .ok (.iinc 5 1, 3) := by decide +kernel
theorem dX1_countUnlike_65 : decode cX1_countUnlike 65 = .ok (.goto (-46), 3) := by decide +kernel
theorem dX1_countUnlike_68 : decode cX1_countUnlike 68 = .ok (.aload_n 0, 1) := by decide +kernel
theorem dX1_countUnlike_69 : decode cX1_countUnlike 69 = .ok (.getfield 18, 3) := by decide +kernel
theorem dX1_countUnlike_72 : decode cX1_countUnlike 72 = .ok (.ireturn, 1) := by decide +kernel
theorem dX1_packed_0 : decode cX1_packed 0 = .ok (.lconst 0, 1) := by decide +kernel
theorem dX1_packed_1 : decode cX1_packed 1 = .ok (.lstore_n 2, 1) := by decide +kernel
theorem dX1_packed_2 : decode cX1_packed 2 = .ok (.iload_n 1, 1) := by decide +kernel
theorem dX1_packed_3 : decode cX1_packed 3 = .ok (.bipush 8, 2) := by decide +kernel
theorem dX1_packed_5 : decode cX1_packed 5 = .ok (.iadd, 1) := by decide +kernel
theorem dX1_packed_6 : decode cX1_packed 6 = .ok (.aload_n 0, 1) := by decide +kernel
theorem dX1_packed_7 : decode cX1_packed 7 = .ok (.getfield 58, 3) := by decide +kernel
theorem dX1_packed_10 : decode cX1_packed 10 = .ok (.getfield 62, 3) := by decide +kernel
theorem dX1_packed_13 : decode cX1_packed 13 = .ok (.invokestatic 67, 3) := by decide +kernel
theorem dX1_packed_16 : decode cX1_packed 16 = .ok (.istore 4, 2) := by decide +kernel
theorem dX1_packed_18 : decode cX1_packed 18 = .ok (.iload_n 1, 1) := by decide +kernel
theorem dX1_packed_19 : decode cX1_packed 19 = .ok (.istore 5, 2) := by decide +kernel
theorem dX1_packed_21 : decode cX1_packed 21 = .ok (.iload 5, 2) := by decide +kernel
theorem dX1_packed_23 : decode cX1_packed 23 = .ok (.iload 4, 2) := by decide +kernel
theorem dX1_packed_25 : decode cX1_packed 25 = .ok (.if_icmp .ge 37, 3) := by decide +kernel
theorem dX1_packed_28 : decode cX1_packed 28 = .ok (.lload_n 2, 1) := by decide +kernel
theorem dX1_packed_29 : decode cX1_packed 29 = .ok (.bipush 7, 2) := by decide +kernel
theorem dX1_packed_31 : decode cX1_packed 31 = .ok (.lshl, 1) := by decide +kernel
theorem dX1_packed_32 : decode cX1_packed 32 = .ok (.aload_n 0, 1) := by decide +kernel
theorem dX1_packed_33 : decode cX1_packed 33 = .ok (.getfield 58, 3) := by decide +kernel
theorem dX1_packed_36 : decode cX1_packed 36 = .ok (.getfield 73, 3) := by decide +kernel
theorem dX1_packed_39 : decode cX1_packed 39 = .ok (.iload 5, 2) := by decide +kernel
theorem dX1_packed_41 : decode cX1_packed 41 = .ok (.iaload, 1) := by decide +kernel
theorem dX1_packed_42 : decode cX1_packed 42 = .ok (.aload_n 0, 1) := by decide +kernel
theorem dX1_packed_43 : decode cX1_packed 43 = .ok (.aload_n 0, 1) := by decide +kernel
theorem dX1_packed_44 : decode cX1_packed 44 = .ok (.getfield 77, 3) := by decide +kernel
theorem dX1_packed_47 : decode cX1_packed 47 = .ok (.iload 5, 2) := by decide +kernel
theorem dX1_packed_49 : decode cX1_packed 49 = .ok (.invokevirtual 80, 3) := by decide +kernel
theorem dX1_packed_52 : decode cX1_packed 52 = .ok (.isub, 1) := by decide +kernel
theorem dX1_packed_53 : decode cX1_packed 53 = .ok (.i2l, 1) := by decide +kernel
theorem dX1_packed_54 : decode cX1_packed 54 = .ok (.lor, 1) := by decide +kernel
theorem dX1_packed_55 : decode cX1_packed 55 = .ok (.lstore_n 2, 1) := by decide +kernel
theorem dX1_packed_56 : decode cX1_packed 56 = .ok (.iinc 5 1, 3) := by decide +kernel
theorem dX1_packed_59 : decode cX1_packed 59 = .ok (.goto (-38), 3) := by decide +kernel
theorem dX1_packed_62 : decode cX1_packed 62 = .ok (.lload_n 2, 1) := by decide +kernel
theorem dX1_packed_63 : decode cX1_packed 63 = .ok (.lreturn, 1) := by decide +kernel
theorem dX1_keep_0 : decode cX1_keep 0 = .ok (.iconst 0, 1) := by decide +kernel
theorem dX1_keep_1 : decode cX1_keep 1 = .ok (.istore 5, 2) := by decide +kernel
theorem dX1_keep_3 : decode cX1_keep 3 = .ok (.iload 5, 2) := by decide +kernel
theorem dX1_keep_5 : decode cX1_keep 5 = .ok (.aload_n 0, 1) := by decide +kernel
theorem dX1_keep_6 : decode cX1_keep 6 = .ok (.getfield 18, 3) := by decide +kernel
theorem dX1_keep_9 : decode cX1_keep 9 = .ok (.if_icmp .ge 34, 3) := by decide +kernel
theorem dX1_keep_12 : decode cX1_keep 12 = .ok (.aload_n 0, 1) := by decide +kernel
theorem dX1_keep_13 : decode cX1_keep 13 = .ok (.getfield 11, 3) := by decide +kernel
theorem dX1_keep_16 : decode cX1_keep 16 = .ok (.iload 5, 2) := by decide +kernel
theorem dX1_keep_18 : decode cX1_keep 18 = .ok (.laload, 1) := by decide +kernel
theorem dX1_keep_19 : decode cX1_keep 19 = .ok (.lload_n 1, 1) := by decide +kernel
theorem dX1_keep_20 : decode cX1_keep 20 = .ok (.lcmp, 1) := by decide +kernel
theorem dX1_keep_21 : decode cX1_keep 21 = .ok (.ifCond .ne 16, 3) := by decide +kernel
theorem dX1_keep_24 : decode cX1_keep 24 = .ok (.aload_n 0, 1) := by decide +kernel
theorem dX1_keep_25 : decode cX1_keep 25 = .ok (.getfield 15, 3) := by decide +kernel
theorem dX1_keep_28 : decode cX1_keep 28 = .ok (.iload 5, 2) := by decide +kernel
theorem dX1_keep_30 : decode cX1_keep 30 = .ok (.laload, 1) := by decide +kernel
theorem dX1_keep_31 : decode cX1_keep 31 = .ok (.lload_n 3, 1) := by decide +kernel
theorem dX1_keep_32 : decode cX1_keep 32 = .ok (.lcmp, 1) := by decide +kernel
theorem dX1_keep_33 : decode cX1_keep 33 = .ok (.ifCond .ne 4, 3) := by decide +kernel
theorem dX1_keep_36 : decode cX1_keep 36 = .ok (.return_, 1) := by decide +kernel
theorem dX1_keep_37 : decode cX1_keep 37 = .ok (.iinc 5 1, 3) := by decide +kernel
theorem dX1_keep_40 : decode cX1_keep 40 = .ok (.goto (-37), 3) := by decide +kernel
theorem dX1_keep_43 : decode cX1_keep 43 = .ok (.aload_n 0, 1) := by decide +kernel
theorem dX1_keep_44 : decode cX1_keep 44 = .ok (.getfield 18, 3) := by decide +kernel
theorem dX1_keep_47 : decode cX1_keep 47 = .ok (.sipush 176, 3) := by decide +kernel
theorem dX1_keep_50 : decode cX1_keep 50 = .ok (.if_icmp .ge 33, 3) := by decide +kernel
theorem dX1_keep_53 : decode cX1_keep 53 = .ok (.aload_n 0, 1) := by decide +kernel
theorem dX1_keep_54 : decode cX1_keep 54 = .ok (.getfield 11, 3) := by decide +kernel
theorem dX1_keep_57 : decode cX1_keep 57 = .ok (.aload_n 0, 1) := by decide +kernel
theorem dX1_keep_58 : decode cX1_keep 58 = .ok (.getfield 18, 3) := by decide +kernel
theorem dX1_keep_61 : decode cX1_keep 61 = .ok (.lload_n 1, 1) := by decide +kernel
theorem dX1_keep_62 : decode cX1_keep 62 = .ok (.lastore, 1) := by decide +kernel
theorem dX1_keep_63 : decode cX1_keep 63 = .ok (.aload_n 0, 1) := by decide +kernel
theorem dX1_keep_64 : decode cX1_keep 64 = .ok (.getfield 15, 3) := by decide +kernel
theorem dX1_keep_67 : decode cX1_keep 67 = .ok (.aload_n 0, 1) := by decide +kernel
theorem dX1_keep_68 : decode cX1_keep 68 = .ok (.getfield 18, 3) := by decide +kernel
theorem dX1_keep_71 : decode cX1_keep 71 = .ok (.lload_n 3, 1) := by decide +kernel
theorem dX1_keep_72 : decode cX1_keep 72 = .ok (.lastore, 1) := by decide +kernel
theorem dX1_keep_73 : decode cX1_keep 73 = .ok (.aload_n 0, 1) := by decide +kernel
theorem dX1_keep_74 : decode cX1_keep 74 = .ok (.dup, 1) := by decide +kernel
theorem dX1_keep_75 : decode cX1_keep 75 = .ok (.getfield 18, 3) := by decide +kernel
theorem dX1_keep_78 : decode cX1_keep 78 = .ok (.iconst 1, 1) := by decide +kernel
theorem dX1_keep_79 : decode cX1_keep 79 = .ok (.iadd, 1) := by decide +kernel
theorem dX1_keep_80 : decode cX1_keep 80 = .ok (.putfield 18, 3) := by decide +kernel
theorem dX1_keep_83 : decode cX1_keep 83 = .ok (.return_, 1) := by decide +kernel
theorem dX1_explainNothing_0 : decode cX1_explainNothing 0 = .ok (.aload_n 0, 1) := by decide +kernel
theorem dX1_explainNothing_1 : decode cX1_explainNothing 1 = .ok (.iconst 0, 1) := by decide +kernel
theorem dX1_explainNothing_2 : decode cX1_explainNothing 2 = .ok (.putfield 22, 3) := by decide +kernel
theorem dX1_explainNothing_5 : decode cX1_explainNothing 5 = .ok (.aload_n 0, 1) := by decide +kernel
theorem dX1_explainNothing_6 : decode cX1_explainNothing 6 = .ok (.iconst 0, 1) := by decide +kernel
theorem dX1_explainNothing_7 : decode cX1_explainNothing 7 = .ok (.putfield 25, 3) := by decide +kernel
theorem dX1_explainNothing_10 : decode cX1_explainNothing 10 = .ok (.return_, 1) := by decide +kernel
theorem dX1_explain_0 : decode cX1_explain 0 = .ok (.aload_n 0, 1) := by decide +kernel
theorem dX1_explain_1 : decode cX1_explain 1 = .ok (.invokevirtual 84, 3) := by decide +kernel
theorem dX1_explain_4 : decode cX1_explain 4 = .ok (.aload_n 1, 1) := by decide +kernel
theorem dX1_explain_5 : decode cX1_explain 5 = .ok (.getfield 58, 3) := by decide +kernel
theorem dX1_explain_8 : decode cX1_explain 8 = .ok (.invokevirtual 87, 3) := by decide +kernel
theorem dX1_explain_11 : decode cX1_explain 11 = .ok (.istore 5, 2) := by decide +kernel
theorem dX1_explain_13 : decode cX1_explain 13 = .ok (.aload_n 2, 1) := by decide +kernel
theorem dX1_explain_14 : decode cX1_explain 14 = .ok (.iload_n 3, 1) := by decide +kernel
theorem dX1_explain_15 : decode cX1_explain 15 = .ok (.invokevirtual 28, 3) := by decide +kernel
theorem dX1_explain_18 : decode cX1_explain 18 = .ok (.istore 6, 2) := by decide +kernel
theorem dX1_explain_20 : decode cX1_explain 20 = .ok (.aload_n 2, 1) := by decide +kernel
theorem dX1_explain_21 : decode cX1_explain 21 = .ok (.iload_n 3, 1) := by decide +kernel
theorem dX1_explain_22 : decode cX1_explain 22 = .ok (.invokevirtual 34, 3) := by decide +kernel
theorem dX1_explain_25 : decode cX1_explain 25 = .ok (.istore 7, 2) := by decide +kernel
theorem dX1_explain_27 : decode cX1_explain 27 = .ok (.iload 7, 2) := by decide +kernel
theorem dX1_explain_29 : decode cX1_explain 29 = .ok (.iload 6, 2) := by decide +kernel
theorem dX1_explain_31 : decode cX1_explain 31 = .ok (.if_icmp .ge 54, 3) := by decide +kernel
theorem dX1_explain_34 : decode cX1_explain 34 = .ok (.aload_n 1, 1) := by decide +kernel
theorem dX1_explain_35 : decode cX1_explain 35 = .ok (.aload_n 2, 1) := by decide +kernel
theorem dX1_explain_36 : decode cX1_explain 36 = .ok (.getfield 41, 3) := by decide +kernel
theorem dX1_explain_39 : decode cX1_explain 39 = .ok (.iload 7, 2) := by decide +kernel
theorem dX1_explain_41 : decode cX1_explain 41 = .ok (.laload, 1) := by decide +kernel
theorem dX1_explain_42 : decode cX1_explain 42 = .ok (.invokevirtual 44, 3) := by decide +kernel
theorem dX1_explain_45 : decode cX1_explain 45 = .ok (.aload_n 1, 1) := by decide +kernel
theorem dX1_explain_46 : decode cX1_explain 46 = .ok (.aload 4, 2) := by decide +kernel
theorem dX1_explain_48 : decode cX1_explain 48 = .ok (.invokestatic 91, 3) := by decide +kernel
theorem dX1_explain_51 : decode cX1_explain 51 = .ok (.ifCond .eq 28, 3) := by decide +kernel
theorem dX1_explain_54 : decode cX1_explain 54 = .ok (.aload_n 0, 1) := by decide +kernel
theorem dX1_explain_55 : decode cX1_explain 55 = .ok (.dup, 1) := by decide +kernel
theorem dX1_explain_56 : decode cX1_explain 56 = .ok (.getfield 22, 3) := by decide +kernel
theorem dX1_explain_59 : decode cX1_explain 59 = .ok (.aload_n 2, 1) := by decide +kernel
theorem dX1_explain_60 : decode cX1_explain 60 = .ok (.getfield 95, 3) := by decide +kernel
theorem dX1_explain_63 : decode cX1_explain 63 = .ok (.iload 7, 2) := by decide +kernel
theorem dX1_explain_65 : decode cX1_explain 65 = .ok (.iaload, 1) := by decide +kernel
theorem dX1_explain_66 : decode cX1_explain 66 = .ok (.iadd, 1) := by decide +kernel
theorem dX1_explain_67 : decode cX1_explain 67 = .ok (.putfield 22, 3) := by decide +kernel
theorem dX1_explain_70 : decode cX1_explain 70 = .ok (.iload 5, 2) := by decide +kernel
theorem dX1_explain_72 : decode cX1_explain 72 = .ok (.aload_n 1, 1) := by decide +kernel
theorem dX1_explain_73 : decode cX1_explain 73 = .ok (.invokevirtual 98, 3) := by decide +kernel
theorem dX1_explain_76 : decode cX1_explain 76 = .ok (.iand, 1) := by decide +kernel
theorem dX1_explain_77 : decode cX1_explain 77 = .ok (.istore 5, 2) := by decide +kernel
theorem dX1_explain_79 : decode cX1_explain 79 = .ok (.iinc 7 1, 3) := by decide +kernel
theorem dX1_explain_82 : decode cX1_explain 82 = .ok (.goto (-55), 3) := by decide +kernel
theorem dX1_explain_85 : decode cX1_explain 85 = .ok (.aload_n 0, 1) := by decide +kernel
theorem dX1_explain_86 : decode cX1_explain 86 = .ok (.getfield 22, 3) := by decide +kernel
theorem dX1_explain_89 : decode cX1_explain 89 = .ok (.ifCond .le 9, 3) := by decide +kernel
theorem dX1_explain_92 : decode cX1_explain 92 = .ok (.aload_n 0, 1) := by decide +kernel
theorem dX1_explain_93 : decode cX1_explain 93 = .ok (.iload 5, 2) := by decide +kernel
theorem dX1_explain_95 : decode cX1_explain 95 = .ok (.putfield 25, 3) := by decide +kernel
theorem dX1_explain_98 : decode cX1_explain 98 = .ok (.return_, 1) := by decide +kernel
theorem dX1_leaves_0 : decode cX1_leaves 0 = .ok (.iconst 0, 1) := by decide +kernel
theorem dX1_leaves_1 : decode cX1_leaves 1 = .ok (.istore_n 2, 1) := by decide +kernel
theorem dX1_leaves_2 : decode cX1_leaves 2 = .ok (.iload_n 2, 1) := by decide +kernel
theorem dX1_leaves_3 : decode cX1_leaves 3 = .ok (.aload_n 0, 1) := by decide +kernel
theorem dX1_leaves_4 : decode cX1_leaves 4 = .ok (.getfield 58, 3) := by decide +kernel
theorem dX1_leaves_7 : decode cX1_leaves 7 = .ok (.getfield 62, 3) := by decide +kernel
theorem dX1_leaves_10 : decode cX1_leaves 10 = .ok (.if_icmp .ge 40, 3) := by decide +kernel
theorem dX1_leaves_13 : decode cX1_leaves 13 = .ok (.aload_n 0, 1) := by decide +kernel
theorem dX1_leaves_14 : decode cX1_leaves 14 = .ok (.getfield 58, 3) := by decide +kernel
theorem dX1_leaves_17 : decode cX1_leaves 17 = .ok (.getfield 73, 3) := by decide +kernel
theorem dX1_leaves_20 : decode cX1_leaves 20 = .ok (.iload_n 2, 1) := by decide +kernel
theorem dX1_leaves_21 : decode cX1_leaves 21 = .ok (.iaload, 1) := by decide +kernel
theorem dX1_leaves_22 : decode cX1_leaves 22 = .ok (.aload_n 0, 1) := by decide +kernel
theorem dX1_leaves_23 : decode cX1_leaves 23 = .ok (.aload_n 0, 1) := by decide +kernel
