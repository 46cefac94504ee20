theorem dX9_cut_1 : decode cX9_cut 1 = .ok (.ifCond .ne 10, 3) := by decide +kernel
theorem dX9_cut_4 : decode cX9_cut 4 = .ok (.lload_n 0, 1) := by decide +kernel
theorem dX9_cut_5 : decode cX9_cut 5 = .ok (.l2i, 1) := by decide +kernel
theorem dX9_cut_6 : decode cX9_cut 6 = .ok (.i2b, 1) := by decide +kernel
theorem dX9_cut_7 : decode cX9_cut 7 = .ok (.i2l, 1) := by decide +kernel
theorem dX9_cut_8 : decode cX9_cut 8 = .ok (.goto 27, 3) := by decide +kernel
theorem dX9_cut_11 : decode cX9_cut 11 = .ok (.iload_n 2, 1) := by decide +kernel
theorem dX9_cut_12 : decode cX9_cut 12 = .ok (.iconst 1, 1) := by decide +kernel
theorem dX9_cut_13 : decode cX9_cut 13 = .ok (.if_icmp .ne 10, 3) := by decide +kernel
theorem dX9_cut_16 : decode cX9_cut 16 = .ok (.lload_n 0, 1) := by decide +kernel
theorem dX9_cut_17 : decode cX9_cut 17 = .ok (.l2i, 1) := by decide +kernel
theorem dX9_cut_18 : decode cX9_cut 18 = .ok (.i2s, 1) := by decide +kernel
theorem dX9_cut_19 : decode cX9_cut 19 = .ok (.i2l, 1) := by decide +kernel
theorem dX9_cut_20 : decode cX9_cut 20 = .ok (.goto 15, 3) := by decide +kernel
theorem dX9_cut_23 : decode cX9_cut 23 = .ok (.iload_n 2, 1) := by decide +kernel
theorem dX9_cut_24 : decode cX9_cut 24 = .ok (.iconst 2, 1) := by decide +kernel
theorem dX9_cut_25 : decode cX9_cut 25 = .ok (.if_icmp .ne 9, 3) := by decide +kernel
theorem dX9_cut_28 : decode cX9_cut 28 = .ok (.lload_n 0, 1) := by decide +kernel
theorem dX9_cut_29 : decode cX9_cut 29 = .ok (.l2i, 1) := by decide +kernel
theorem dX9_cut_30 : decode cX9_cut 30 = .ok (.i2l, 1) := by decide +kernel
theorem dX9_cut_31 : decode cX9_cut 31 = .ok (.goto 4, 3) := by decide +kernel
theorem dX9_cut_34 : decode cX9_cut 34 = .ok (.lload_n 0, 1) := by decide +kernel
theorem dX9_cut_35 : decode cX9_cut 35 = .ok (.lreturn, 1) := by decide +kernel
theorem dX9_numbers_0 : decode cX9_numbers 0 = .ok (.aload_n 0, 1) := by decide +kernel
theorem dX9_numbers_1 : decode cX9_numbers 1 = .ok (.iconst 0, 1) := by decide +kernel
theorem dX9_numbers_2 : decode cX9_numbers 2 = .ok (.putfield 1, 3) := by decide +kernel
theorem dX9_numbers_5 : decode cX9_numbers 5 = .ok (.iload_n 1, 1) := by decide +kernel
theorem dX9_numbers_6 : decode cX9_numbers 6 = .ok (.i2l, 1) := by decide +kernel
theorem dX9_numbers_7 : decode cX9_numbers 7 = .ok (.lconst 0, 1) := by decide +kernel
theorem dX9_numbers_8 : decode cX9_numbers 8 = .ok (.ldc2_w 180, 3) := by decide +kernel
theorem dX9_numbers_11 : decode cX9_numbers 11 = .ok (.invokestatic 128, 3) := by decide +kernel
theorem dX9_numbers_14 : decode cX9_numbers 14 = .ok (.ifCond .eq 15, 3) := by decide +kernel
theorem dX9_numbers_17 : decode cX9_numbers 17 = .ok (.iload_n 2, 1) := by decide +kernel
theorem dX9_numbers_18 : decode cX9_numbers 18 = .ok (.i2l, 1) := by decide +kernel
theorem dX9_numbers_19 : decode cX9_numbers 19 = .ok (.lconst 0, 1) := by decide +kernel
theorem dX9_numbers_20 : decode cX9_numbers 20 = .ok (.ldc2_w 180, 3) := by decide +kernel
theorem dX9_numbers_23 : decode cX9_numbers 23 = .ok (.invokestatic 128, 3) := by decide +kernel
theorem dX9_numbers_26 : decode cX9_numbers 26 = .ok (.ifCond .ne 6, 3) := by decide +kernel
theorem dX9_numbers_29 : decode cX9_numbers 29 = .ok (.bipush (-2), 2) := by decide +kernel
theorem dX9_numbers_31 : decode cX9_numbers 31 = .ok (.ireturn, 1) := by decide +kernel
theorem dX9_numbers_32 : decode cX9_numbers 32 = .ok (.iload_n 3, 1) := by decide +kernel
theorem dX9_numbers_33 : decode cX9_numbers 33 = .ok (.i2l, 1) := by decide +kernel
theorem dX9_numbers_34 : decode cX9_numbers 34 = .ok (.lconst 0, 1) := by decide +kernel
theorem dX9_numbers_35 : decode cX9_numbers 35 = .ok (.ldc2_w 323, 3) := by decide +kernel
theorem dX9_numbers_38 : decode cX9_numbers 38 = .ok (.invokestatic 128, 3) := by decide +kernel
theorem dX9_numbers_41 : decode cX9_numbers 41 = .ok (.ifCond .ne 6, 3) := by decide +kernel
theorem dX9_numbers_44 : decode cX9_numbers 44 = .ok (.bipush (-3), 2) := by decide +kernel
theorem dX9_numbers_46 : decode cX9_numbers 46 = .ok (.ireturn, 1) := by decide +kernel
theorem dX9_numbers_47 : decode cX9_numbers 47 = .ok (.aload_n 0, 1) := by decide +kernel
theorem dX9_numbers_48 : decode cX9_numbers 48 = .ok (.getfield 51, 3) := by decide +kernel
theorem dX9_numbers_51 : decode cX9_numbers 51 = .ok (.iload_n 1, 1) := by decide +kernel
theorem dX9_numbers_52 : decode cX9_numbers 52 = .ok (.iload_n 2, 1) := by decide +kernel
theorem dX9_numbers_53 : decode cX9_numbers 53 = .ok (.iastore, 1) := by decide +kernel
theorem dX9_numbers_54 : decode cX9_numbers 54 = .ok (.aload_n 0, 1) := by decide +kernel
theorem dX9_numbers_55 : decode cX9_numbers 55 = .ok (.getfield 54, 3) := by decide +kernel
theorem dX9_numbers_58 : decode cX9_numbers 58 = .ok (.iload_n 1, 1) := by decide +kernel
theorem dX9_numbers_59 : decode cX9_numbers 59 = .ok (.iload_n 3, 1) := by decide +kernel
theorem dX9_numbers_60 : decode cX9_numbers 60 = .ok (.iastore, 1) := by decide +kernel
theorem dX9_numbers_61 : decode cX9_numbers 61 = .ok (.iconst 0, 1) := by decide +kernel
theorem dX9_numbers_62 : decode cX9_numbers 62 = .ok (.istore 4, 2) := by decide +kernel
theorem dX9_numbers_64 : decode cX9_numbers 64 = .ok (.iload 4, 2) := by decide +kernel
theorem dX9_numbers_66 : decode cX9_numbers 66 = .ok (.iload_n 3, 1) := by decide +kernel
theorem dX9_numbers_67 : decode cX9_numbers 67 = .ok (.if_icmp .ge 22, 3) := by decide +kernel
theorem dX9_numbers_70 : decode cX9_numbers 70 = .ok (.aload_n 0, 1) := by decide +kernel
theorem dX9_numbers_71 : decode cX9_numbers 71 = .ok (.getfield 57, 3) := by decide +kernel
theorem dX9_numbers_74 : decode cX9_numbers 74 = .ok (.bipush 40, 2) := by decide +kernel
theorem dX9_numbers_76 : decode cX9_numbers 76 = .ok (.iload_n 1, 1) := by decide +kernel
theorem dX9_numbers_77 : decode cX9_numbers 77 = .ok (.imul, 1) := by decide +kernel
theorem dX9_numbers_78 : decode cX9_numbers 78 = .ok (.iload 4, 2) := by decide +kernel
theorem dX9_numbers_80 : decode cX9_numbers 80 = .ok (.iadd, 1) := by decide +kernel
theorem dX9_numbers_81 : decode cX9_numbers 81 = .ok (.lconst 0, 1) := by decide +kernel
theorem dX9_numbers_82 : decode cX9_numbers 82 = .ok (.lastore, 1) := by decide +kernel
theorem dX9_numbers_83 : decode cX9_numbers 83 = .ok (.iinc 4 1, 3) := by decide +kernel
theorem dX9_numbers_86 : decode cX9_numbers 86 = .ok (.goto (-22), 3) := by decide +kernel
theorem dX9_numbers_89 : decode cX9_numbers 89 = .ok (.iconst 0, 1) := by decide +kernel
theorem dX9_numbers_90 : decode cX9_numbers 90 = .ok (.ireturn, 1) := by decide +kernel
theorem dX9_write_0 : decode cX9_write 0 = .ok (.aload_n 0, 1) := by decide +kernel
theorem dX9_write_1 : decode cX9_write 1 = .ok (.iconst 0, 1) := by decide +kernel
theorem dX9_write_2 : decode cX9_write 2 = .ok (.putfield 1, 3) := by decide +kernel
theorem dX9_write_5 : decode cX9_write 5 = .ok (.iload_n 1, 1) := by decide +kernel
theorem dX9_write_6 : decode cX9_write 6 = .ok (.i2l, 1) := by decide +kernel
theorem dX9_write_7 : decode cX9_write 7 = .ok (.lconst 0, 1) := by decide +kernel
theorem dX9_write_8 : decode cX9_write 8 = .ok (.ldc2_w 180, 3) := by decide +kernel
theorem dX9_write_11 : decode cX9_write 11 = .ok (.invokestatic 128, 3) := by decide +kernel
theorem dX9_write_14 : decode cX9_write 14 = .ok (.ifCond .ne 7, 3) := by decide +kernel
theorem dX9_write_17 : decode cX9_write 17 = .ok (.ldc2_w 325, 3) := by decide +kernel
theorem dX9_write_20 : decode cX9_write 20 = .ok (.lreturn, 1) := by decide +kernel
theorem dX9_write_21 : decode cX9_write 21 = .ok (.aload_n 0, 1) := by decide +kernel
theorem dX9_write_22 : decode cX9_write 22 = .ok (.getfield 51, 3) := by decide +kernel
theorem dX9_write_25 : decode cX9_write 25 = .ok (.iload_n 1, 1) := by decide +kernel
theorem dX9_write_26 : decode cX9_write 26 = .ok (.iaload, 1) := by decide +kernel
theorem dX9_write_27 : decode cX9_write 27 = .ok (.iconst (-1), 1) := by decide +kernel
theorem dX9_write_28 : decode cX9_write 28 = .ok (.if_icmp .ne 7, 3) := by decide +kernel
theorem dX9_write_31 : decode cX9_write 31 = .ok (.ldc2_w 327, 3) := by decide +kernel
theorem dX9_write_34 : decode cX9_write 34 = .ok (.lreturn, 1) := by decide +kernel
theorem dX9_write_35 : decode cX9_write 35 = .ok (.iload_n 2, 1) := by decide +kernel
theorem dX9_write_36 : decode cX9_write 36 = .ok (.i2l, 1) := by decide +kernel
theorem dX9_write_37 : decode cX9_write 37 = .ok (.lconst 0, 1) := by decide +kernel
theorem dX9_write_38 : decode cX9_write 38 = .ok (.aload_n 0, 1) := by decide +kernel
theorem dX9_write_39 : decode cX9_write 39 = .ok (.getfield 54, 3) := by decide +kernel
theorem dX9_write_42 : decode cX9_write 42 = .ok (.iload_n 1, 1) := by decide +kernel
theorem dX9_write_43 : decode cX9_write 43 = .ok (.iaload, 1) := by decide +kernel
theorem dX9_write_44 : decode cX9_write 44 = .ok (.iconst 1, 1) := by decide +kernel
theorem dX9_write_45 : decode cX9_write 45 = .ok (.isub, 1) := by decide +kernel
theorem dX9_write_46 : decode cX9_write 46 = .ok (.i2l, 1) := by decide +kernel
theorem dX9_write_47 : decode cX9_write 47 = .ok (.invokestatic 128, 3) := by decide +kernel
theorem dX9_write_50 : decode cX9_write 50 = .ok (.ifCond .ne 7, 3) := by decide +kernel
theorem dX9_write_53 : decode cX9_write 53 = .ok (.ldc2_w 329, 3) := by decide +kernel
theorem dX9_write_56 : decode cX9_write 56 = .ok (.lreturn, 1) := by decide +kernel
theorem dX9_write_57 : decode cX9_write 57 = .ok (.aload_n 0, 1) := by decide +kernel
theorem dX9_write_58 : decode cX9_write 58 = .ok (.getfield 57, 3) := by decide +kernel
theorem dX9_write_61 : decode cX9_write 61 = .ok (.bipush 40, 2) := by decide +kernel
theorem dX9_write_63 : decode cX9_write 63 = .ok (.iload_n 1, 1) := by decide +kernel
theorem dX9_write_64 : decode cX9_write 64 = .ok (.imul, 1) := by decide +kernel
theorem dX9_write_65 : decode cX9_write 65 = .ok (.iload_n 2, 1) := by decide +kernel
theorem dX9_write_66 : decode cX9_write 66 = .ok (.iadd, 1) := by decide +kernel
theorem dX9_write_67 : decode cX9_write 67 = .ok (.lload_n 3, 1) := by decide +kernel
theorem dX9_write_68 : decode cX9_write 68 = .ok (.aload_n 0, 1) := by decide +kernel
theorem dX9_write_69 : decode cX9_write 69 = .ok (.getfield 51, 3) := by decide +kernel
theorem dX9_write_72 : decode cX9_write 72 = .ok (.iload_n 1, 1) := by decide +kernel
theorem dX9_write_73 : decode cX9_write 73 = .ok (.iaload, 1) := by decide +kernel
theorem dX9_write_74 : decode cX9_write 74 = .ok (.invokestatic 331, 3) := by decide +kernel
theorem dX9_write_77 : decode cX9_write 77 = .ok (.lastore, 1) := by decide +kernel
theorem dX9_write_78 : decode cX9_write 78 = .ok (.aload_n 0, 1) := by decide +kernel
theorem dX9_write_79 : decode cX9_write 79 = .ok (.getfield 57, 3) := by decide +kernel
theorem dX9_write_82 : decode cX9_write 82 = .ok (.bipush 40, 2) := by decide +kernel
theorem dX9_write_84 : decode cX9_write 84 = .ok (.iload_n 1, 1) := by decide +kernel
theorem dX9_write_85 : decode cX9_write 85 = .ok (.imul, 1) := by decide +kernel
theorem dX9_write_86 : decode cX9_write 86 = .ok (.iload_n 2, 1) := by decide +kernel
theorem dX9_write_87 : decode cX9_write 87 = .ok (.iadd, 1) := by decide +kernel
theorem dX9_write_88 : decode cX9_write 88 = .ok (.laload, 1) := by decide +kernel
theorem dX9_write_89 : decode cX9_write 89 = .ok (.lreturn, 1) := by decide +kernel
theorem dX9_copy_0 : decode cX9_copy 0 = .ok (.aload_n 0, 1) := by decide +kernel
theorem dX9_copy_1 : decode cX9_copy 1 = .ok (.iconst 0, 1) := by decide +kernel
theorem dX9_copy_2 : decode cX9_copy 2 = .ok (.putfield 1, 3) := by decide +kernel
theorem dX9_copy_5 : decode cX9_copy 5 = .ok (.iload_n 1, 1) := by decide +kernel
theorem dX9_copy_6 : decode cX9_copy 6 = .ok (.i2l, 1) := by decide +kernel
theorem dX9_copy_7 : decode cX9_copy 7 = .ok (.lconst 0, 1) := by decide +kernel
theorem dX9_copy_8 : decode cX9_copy 8 = .ok (.ldc2_w 180, 3) := by decide +kernel
theorem dX9_copy_11 : decode cX9_copy 11 = .ok (.invokestatic 128, 3) := by decide +kernel
theorem dX9_copy_14 : decode cX9_copy 14 = .ok (.ifCond .ne 6, 3) := by decide +kernel
theorem dX9_copy_17 : decode cX9_copy 17 = .ok (.bipush (-2), 2) := by decide +kernel
theorem dX9_copy_19 : decode cX9_copy 19 = .ok (.ireturn, 1) := by decide +kernel
theorem dX9_copy_20 : decode cX9_copy 20 = .ok (.aload_n 0, 1) := by decide +kernel
theorem dX9_copy_21 : decode cX9_copy 21 = .ok (.getfield 51, 3) := by decide +kernel
theorem dX9_copy_24 : decode cX9_copy 24 = .ok (.iload_n 1, 1) := by decide +kernel
theorem dX9_copy_25 : decode cX9_copy 25 = .ok (.iaload, 1) := by decide +kernel
theorem dX9_copy_26 : decode cX9_copy 26 = .ok (.iconst (-1), 1) := by decide +kernel
theorem dX9_copy_27 : decode cX9_copy 27 = .ok (.if_icmp .ne 6, 3) := by decide +kernel
theorem dX9_copy_30 : decode cX9_copy 30 = .ok (.bipush (-6), 2) := by decide +kernel
theorem dX9_copy_32 : decode cX9_copy 32 = .ok (.ireturn, 1) := by decide +kernel
theorem dX9_copy_33 : decode cX9_copy 33 = .ok (.aload_n 0, 1) := by decide +kernel
theorem dX9_copy_34 : decode cX9_copy 34 = .ok (.getfield 54, 3) := by decide +kernel
theorem dX9_copy_37 : decode cX9_copy 37 = .ok (.iload_n 1, 1) := by decide +kernel
theorem dX9_copy_38 : decode cX9_copy 38 = .ok (.iaload, 1) := by decide +kernel
theorem dX9_copy_39 : decode cX9_copy 39 = .ok (.aload_n 0, 1) := by decide +kernel
theorem dX9_copy_40 : decode cX9_copy 40 = .ok (.getfield 13, 3) := by decide +kernel
theorem dX9_copy_43 : decode cX9_copy 43 = .ok (.iconst 0, 1) := by decide +kernel
theorem dX9_copy_44 : decode cX9_copy 44 = .ok (.iaload, 1) := by decide +kernel
theorem dX9_copy_45 : decode cX9_copy 45 = .ok (.if_icmp .ge 6, 3) := by decide +kernel
theorem dX9_copy_48 : decode cX9_copy 48 = .ok (.bipush (-7), 2) := by decide +kernel
theorem dX9_copy_50 : decode cX9_copy 50 = .ok (.ireturn, 1) := by decide +kernel
theorem dX9_copy_51 : decode cX9_copy 51 = .ok (.iconst 0, 1) := by decide +kernel
theorem dX9_copy_52 : decode cX9_copy 52 = .ok (.istore_n 2, 1) := by decide +kernel
theorem dX9_copy_53 : decode cX9_copy 53 = .ok (.iload_n 2, 1) := by decide +kernel
theorem dX9_copy_54 : decode cX9_copy 54 = .ok (.aload_n 0, 1) := by decide +kernel
theorem dX9_copy_55 : decode cX9_copy 55 = .ok (.getfield 13, 3) := by decide +kernel
theorem dX9_copy_58 : decode cX9_copy 58 = .ok (.iconst 0, 1) := by decide +kernel
theorem dX9_copy_59 : decode cX9_copy 59 = .ok (.iaload, 1) := by decide +kernel
theorem dX9_copy_60 : decode cX9_copy 60 = .ok (.if_icmp .ge 30, 3) := by decide +kernel
theorem dX9_copy_63 : decode cX9_copy 63 = .ok (.aload_n 0, 1) := by decide +kernel
theorem dX9_copy_64 : decode cX9_copy 64 = .ok (.getfield 57, 3) := by decide +kernel
theorem dX9_copy_67 : decode cX9_copy 67 = .ok (.bipush 40, 2) := by decide +kernel
theorem dX9_copy_69 : decode cX9_copy 69 = .ok (.iload_n 1, 1) := by decide +kernel
theorem dX9_copy_70 : decode cX9_copy 70 = .ok (.imul, 1) := by decide +kernel
theorem dX9_copy_71 : decode cX9_copy 71 = .ok (.iload_n 2, 1) := by decide +kernel
theorem dX9_copy_72 : decode cX9_copy 72 = .ok (.iadd, 1) := by decide +kernel
theorem dX9_copy_73 : decode cX9_copy 73 = .ok (.aload_n 0, 1) := by decide +kernel
theorem dX9_copy_74 : decode cX9_copy 74 = .ok (.getfield 13, 3) := by decide +kernel
theorem dX9_copy_77 : decode cX9_copy 77 = .ok (.bipush 16, 2) := by decide +kernel
theorem dX9_copy_79 : decode cX9_copy 79 = .ok (.iload_n 2, 1) := by decide +kernel
theorem dX9_copy_80 : decode cX9_copy 80 = .ok (.iadd, 1) := by decide +kernel
theorem dX9_copy_81 : decode cX9_copy 81 = .ok (.iaload, 1) := by decide +kernel
theorem dX9_copy_82 : decode cX9_copy 82 = .ok (.i2l, 1) := by decide +kernel
theorem dX9_copy_83 : decode cX9_copy 83 = .ok (.lastore, 1) := by decide +kernel
theorem dX9_copy_84 : decode cX9_copy 84 = .ok (.iinc 2 1, 3) := by decide +kernel
theorem dX9_copy_87 : decode cX9_copy 87 = .ok (.goto (-34), 3) := by decide +kernel
theorem dX9_copy_90 : decode cX9_copy 90 = .ok (.aload_n 0, 1) := by decide +kernel
theorem dX9_copy_91 : decode cX9_copy 91 = .ok (.getfield 13, 3) := by decide +kernel
theorem dX9_copy_94 : decode cX9_copy 94 = .ok (.iconst 0, 1) := by decide +kernel
theorem dX9_copy_95 : decode cX9_copy 95 = .ok (.iaload, 1) := by decide +kernel
theorem dX9_copy_96 : decode cX9_copy 96 = .ok (.ireturn, 1) := by decide +kernel
theorem dX9_image_0 : decode cX9_image 0 = .ok (.aload_n 0, 1) := by decide +kernel
theorem dX9_image_1 : decode cX9_image 1 = .ok (.iconst 0, 1) := by decide +kernel
theorem dX9_image_2 : decode cX9_image 2 = .ok (.putfield 1, 3) := by decide +kernel
theorem dX9_image_5 : decode cX9_image 5 = .ok (.iload_n 1, 1) := by decide +kernel
theorem dX9_image_6 : decode cX9_image 6 = .ok (.i2l, 1) := by decide +kernel
theorem dX9_image_7 : decode cX9_image 7 = .ok (.lconst 0, 1) := by decide +kernel
theorem dX9_image_8 : decode cX9_image 8 = .ok (.lconst 1, 1) := by decide +kernel
theorem dX9_image_9 : decode cX9_image 9 = .ok (.invokestatic 128, 3) := by decide +kernel
