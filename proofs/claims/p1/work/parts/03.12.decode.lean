theorem dX9_laysStubble_0 : decode cX9_laysStubble 0 = .ok (.iload_n 1, 1) := by decide +kernel
theorem dX9_laysStubble_1 : decode cX9_laysStubble 1 = .ok (.i2l, 1) := by decide +kernel
theorem dX9_laysStubble_2 : decode cX9_laysStubble 2 = .ok (.lconst 0, 1) := by decide +kernel
theorem dX9_laysStubble_3 : decode cX9_laysStubble 3 = .ok (.ldc2_w 180, 3) := by decide +kernel
theorem dX9_laysStubble_6 : decode cX9_laysStubble 6 = .ok (.invokestatic 128, 3) := by decide +kernel
theorem dX9_laysStubble_9 : decode cX9_laysStubble 9 = .ok (.ifCond .ne 6, 3) := by decide +kernel
theorem dX9_laysStubble_12 : decode cX9_laysStubble 12 = .ok (.bipush (-2), 2) := by decide +kernel
theorem dX9_laysStubble_14 : decode cX9_laysStubble 14 = .ok (.ireturn, 1) := by decide +kernel
theorem dX9_laysStubble_15 : decode cX9_laysStubble 15 = .ok (.aload_n 0, 1) := by decide +kernel
theorem dX9_laysStubble_16 : decode cX9_laysStubble 16 = .ok (.getfield 51, 3) := by decide +kernel
theorem dX9_laysStubble_19 : decode cX9_laysStubble 19 = .ok (.iload_n 1, 1) := by decide +kernel
theorem dX9_laysStubble_20 : decode cX9_laysStubble 20 = .ok (.iaload, 1) := by decide +kernel
theorem dX9_laysStubble_21 : decode cX9_laysStubble 21 = .ok (.iconst (-1), 1) := by decide +kernel
theorem dX9_laysStubble_22 : decode cX9_laysStubble 22 = .ok (.if_icmp .ne 6, 3) := by decide +kernel
theorem dX9_laysStubble_25 : decode cX9_laysStubble 25 = .ok (.bipush (-6), 2) := by decide +kernel
theorem dX9_laysStubble_27 : decode cX9_laysStubble 27 = .ok (.ireturn, 1) := by decide +kernel
theorem dX9_stubble_0 : decode cX9_stubble 0 = .ok (.aload_n 0, 1) := by decide +kernel
theorem dX9_stubble_1 : decode cX9_stubble 1 = .ok (.iconst 0, 1) := by decide +kernel
theorem dX9_stubble_2 : decode cX9_stubble 2 = .ok (.putfield 1, 3) := by decide +kernel
theorem dX9_stubble_5 : decode cX9_stubble 5 = .ok (.aload_n 0, 1) := by decide +kernel
theorem dX9_stubble_6 : decode cX9_stubble 6 = .ok (.iload_n 1, 1) := by decide +kernel
theorem dX9_stubble_7 : decode cX9_stubble 7 = .ok (.iload_n 2, 1) := by decide +kernel
theorem dX9_stubble_8 : decode cX9_stubble 8 = .ok (.invokevirtual 310, 3) := by decide +kernel
theorem dX9_stubble_11 : decode cX9_stubble 11 = .ok (.istore_n 3, 1) := by decide +kernel
theorem dX9_stubble_12 : decode cX9_stubble 12 = .ok (.iload_n 3, 1) := by decide +kernel
theorem dX9_stubble_13 : decode cX9_stubble 13 = .ok (.ifCond .eq 7, 3) := by decide +kernel
theorem dX9_stubble_16 : decode cX9_stubble 16 = .ok (.iload_n 3, 1) := by decide +kernel
theorem dX9_stubble_17 : decode cX9_stubble 17 = .ok (.goto 7, 3) := by decide +kernel
theorem dX9_stubble_24 : decode cX9_stubble 24 = .ok (.ireturn, 1) := by decide +kernel
theorem dX9_sure_0 : decode cX9_sure 0 = .ok (.aload_n 0, 1) := by decide +kernel
theorem dX9_sure_1 : decode cX9_sure 1 = .ok (.iconst 0, 1) := by decide +kernel
theorem dX9_sure_2 : decode cX9_sure 2 = .ok (.putfield 1, 3) := by decide +kernel
theorem dX9_sure_5 : decode cX9_sure 5 = .ok (.aload_n 0, 1) := by decide +kernel
theorem dX9_sure_6 : decode cX9_sure 6 = .ok (.iload_n 1, 1) := by decide +kernel
theorem dX9_sure_7 : decode cX9_sure 7 = .ok (.iload_n 2, 1) := by decide +kernel
theorem dX9_sure_8 : decode cX9_sure 8 = .ok (.invokevirtual 310, 3) := by decide +kernel
theorem dX9_sure_11 : decode cX9_sure 11 = .ok (.istore_n 3, 1) := by decide +kernel
theorem dX9_sure_12 : decode cX9_sure 12 = .ok (.iload_n 3, 1) := by decide +kernel
theorem dX9_sure_13 : decode cX9_sure 13 = .ok (.ifCond .eq 7, 3) := by decide +kernel
theorem dX9_sure_16 : decode cX9_sure 16 = .ok (.iload_n 3, 1) := by decide +kernel
theorem dX9_sure_17 : decode cX9_sure 17 = .ok (.goto 18, 3) := by decide +kernel
theorem dX9_sure_35 : decode cX9_sure 35 = .ok (.ireturn, 1) := by decide +kernel
theorem dX9_meets_0 : decode cX9_meets 0 = .ok (.aload_n 0, 1) := by decide +kernel
theorem dX9_meets_1 : decode cX9_meets 1 = .ok (.iconst 0, 1) := by decide +kernel
theorem dX9_meets_2 : decode cX9_meets 2 = .ok (.putfield 1, 3) := by decide +kernel
theorem dX9_meets_5 : decode cX9_meets 5 = .ok (.iload_n 1, 1) := by decide +kernel
theorem dX9_meets_6 : decode cX9_meets 6 = .ok (.i2l, 1) := by decide +kernel
theorem dX9_meets_7 : decode cX9_meets 7 = .ok (.lconst 0, 1) := by decide +kernel
theorem dX9_meets_8 : decode cX9_meets 8 = .ok (.ldc2_w 180, 3) := by decide +kernel
theorem dX9_meets_11 : decode cX9_meets 11 = .ok (.invokestatic 128, 3) := by decide +kernel
theorem dX9_meets_14 : decode cX9_meets 14 = .ok (.ifCond .eq 15, 3) := by decide +kernel
theorem dX9_meets_17 : decode cX9_meets 17 = .ok (.iload_n 2, 1) := by decide +kernel
theorem dX9_meets_18 : decode cX9_meets 18 = .ok (.i2l, 1) := by decide +kernel
theorem dX9_meets_19 : decode cX9_meets 19 = .ok (.lconst 0, 1) := by decide +kernel
theorem dX9_meets_20 : decode cX9_meets 20 = .ok (.ldc2_w 180, 3) := by decide +kernel
theorem dX9_meets_23 : decode cX9_meets 23 = .ok (.invokestatic 128, 3) := by decide +kernel
theorem dX9_meets_26 : decode cX9_meets 26 = .ok (.ifCond .ne 6, 3) := by decide +kernel
theorem dX9_meets_29 : decode cX9_meets 29 = .ok (.bipush (-2), 2) := by decide +kernel
theorem dX9_meets_31 : decode cX9_meets 31 = .ok (.ireturn, 1) := by decide +kernel
theorem dX9_meets_32 : decode cX9_meets 32 = .ok (.aload_n 0, 1) := by decide +kernel
theorem dX9_meets_33 : decode cX9_meets 33 = .ok (.getfield 51, 3) := by decide +kernel
theorem dX9_meets_36 : decode cX9_meets 36 = .ok (.iload_n 1, 1) := by decide +kernel
theorem dX9_meets_37 : decode cX9_meets 37 = .ok (.iaload, 1) := by decide +kernel
theorem dX9_meets_38 : decode cX9_meets 38 = .ok (.iconst (-1), 1) := by decide +kernel
theorem dX9_meets_39 : decode cX9_meets 39 = .ok (.if_icmp .eq 13, 3) := by decide +kernel
theorem dX9_meets_52 : decode cX9_meets 52 = .ok (.bipush (-6), 2) := by decide +kernel
theorem dX9_meets_54 : decode cX9_meets 54 = .ok (.ireturn, 1) := by decide +kernel
theorem dX9_delay_0 : decode cX9_delay 0 = .ok (.aload_n 0, 1) := by decide +kernel
theorem dX9_delay_1 : decode cX9_delay 1 = .ok (.iconst 0, 1) := by decide +kernel
theorem dX9_delay_2 : decode cX9_delay 2 = .ok (.putfield 1, 3) := by decide +kernel
theorem dX9_delay_5 : decode cX9_delay 5 = .ok (.iload_n 1, 1) := by decide +kernel
theorem dX9_delay_6 : decode cX9_delay 6 = .ok (.i2l, 1) := by decide +kernel
theorem dX9_delay_7 : decode cX9_delay 7 = .ok (.lconst 0, 1) := by decide +kernel
theorem dX9_delay_8 : decode cX9_delay 8 = .ok (.ldc2_w 180, 3) := by decide +kernel
theorem dX9_delay_11 : decode cX9_delay 11 = .ok (.invokestatic 128, 3) := by decide +kernel
theorem dX9_delay_14 : decode cX9_delay 14 = .ok (.ifCond .eq 15, 3) := by decide +kernel
theorem dX9_delay_17 : decode cX9_delay 17 = .ok (.iload_n 2, 1) := by decide +kernel
theorem dX9_delay_18 : decode cX9_delay 18 = .ok (.i2l, 1) := by decide +kernel
theorem dX9_delay_19 : decode cX9_delay 19 = .ok (.lconst 0, 1) := by decide +kernel
theorem dX9_delay_20 : decode cX9_delay 20 = .ok (.ldc2_w 180, 3) := by decide +kernel
theorem dX9_delay_23 : decode cX9_delay 23 = .ok (.invokestatic 128, 3) := by decide +kernel
theorem dX9_delay_26 : decode cX9_delay 26 = .ok (.ifCond .ne 6, 3) := by decide +kernel
theorem dX9_delay_29 : decode cX9_delay 29 = .ok (.bipush (-2), 2) := by decide +kernel
theorem dX9_delay_31 : decode cX9_delay 31 = .ok (.ireturn, 1) := by decide +kernel
theorem dX9_delay_32 : decode cX9_delay 32 = .ok (.aload_n 0, 1) := by decide +kernel
theorem dX9_delay_33 : decode cX9_delay 33 = .ok (.getfield 51, 3) := by decide +kernel
theorem dX9_delay_36 : decode cX9_delay 36 = .ok (.iload_n 1, 1) := by decide +kernel
theorem dX9_delay_37 : decode cX9_delay 37 = .ok (.iaload, 1) := by decide +kernel
theorem dX9_delay_38 : decode cX9_delay 38 = .ok (.iconst (-1), 1) := by decide +kernel
theorem dX9_delay_39 : decode cX9_delay 39 = .ok (.if_icmp .eq 13, 3) := by decide +kernel
theorem dX9_delay_52 : decode cX9_delay 52 = .ok (.bipush (-6), 2) := by decide +kernel
theorem dX9_delay_54 : decode cX9_delay 54 = .ok (.ireturn, 1) := by decide +kernel
theorem dX9_numbers_0 : decode cX9_numbers 0 = .ok (.aload_n 0, 1) := by decide +kernel
theorem dX9_numbers_1 : decode cX9_numbers 1 = .ok (.iconst 0, 1) := by decide +kernel
theorem dX9_numbers_2 : decode cX9_numbers 2 = .ok (.putfield 1, 3) := by decide +kernel
theorem dX9_numbers_5 : decode cX9_numbers 5 = .ok (.iload_n 1, 1) := by decide +kernel
theorem dX9_numbers_6 : decode cX9_numbers 6 = .ok (.i2l, 1) := by decide +kernel
theorem dX9_numbers_7 : decode cX9_numbers 7 = .ok (.lconst 0, 1) := by decide +kernel
theorem dX9_numbers_8 : decode cX9_numbers 8 = .ok (.ldc2_w 180, 3) := by decide +kernel
theorem dX9_numbers_11 : decode cX9_numbers 11 = .ok (.invokestatic 128, 3) := by decide +kernel
theorem dX9_numbers_14 : decode cX9_numbers 14 = .ok (.ifCond .eq 15, 3) := by decide +kernel
theorem dX9_numbers_17 : decode cX9_numbers 17 = .ok (.iload_n 2, 1) := by decide +kernel
theorem dX9_numbers_18 : decode cX9_numbers 18 = .ok (.i2l, 1) := by decide +kernel
theorem dX9_numbers_19 : decode cX9_numbers 19 = .ok (.lconst 0, 1) := by decide +kernel
theorem dX9_numbers_20 : decode cX9_numbers 20 = .ok (.ldc2_w 180, 3) := by decide +kernel
theorem dX9_numbers_23 : decode cX9_numbers 23 = .ok (.invokestatic 128, 3) := by decide +kernel
theorem dX9_numbers_26 : decode cX9_numbers 26 = .ok (.ifCond .ne 6, 3) := by decide +kernel
theorem dX9_numbers_29 : decode cX9_numbers 29 = .ok (.bipush (-2), 2) := by decide +kernel
theorem dX9_numbers_31 : decode cX9_numbers 31 = .ok (.ireturn, 1) := by decide +kernel
theorem dX9_numbers_32 : decode cX9_numbers 32 = .ok (.iload_n 3, 1) := by decide +kernel
theorem dX9_numbers_33 : decode cX9_numbers 33 = .ok (.i2l, 1) := by decide +kernel
theorem dX9_numbers_34 : decode cX9_numbers 34 = .ok (.lconst 0, 1) := by decide +kernel
theorem dX9_numbers_35 : decode cX9_numbers 35 = .ok (.ldc2_w 323, 3) := by decide +kernel
theorem dX9_numbers_38 : decode cX9_numbers 38 = .ok (.invokestatic 128, 3) := by decide +kernel
theorem dX9_numbers_41 : decode cX9_numbers 41 = .ok (.ifCond .ne 6, 3) := by decide +kernel
theorem dX9_numbers_44 : decode cX9_numbers 44 = .ok (.bipush (-3), 2) := by decide +kernel
theorem dX9_numbers_46 : decode cX9_numbers 46 = .ok (.ireturn, 1) := by decide +kernel
theorem dX9_numbers_47 : decode cX9_numbers 47 = .ok (.aload_n 0, 1) := by decide +kernel
theorem dX9_numbers_48 : decode cX9_numbers 48 = .ok (.getfield 51, 3) := by decide +kernel
theorem dX9_numbers_51 : decode cX9_numbers 51 = .ok (.iload_n 1, 1) := by decide +kernel
theorem dX9_numbers_52 : decode cX9_numbers 52 = .ok (.iload_n 2, 1) := by decide +kernel
theorem dX9_numbers_53 : decode cX9_numbers 53 = .ok (.iastore, 1) := by decide +kernel
theorem dX9_numbers_54 : decode cX9_numbers 54 = .ok (.aload_n 0, 1) := by decide +kernel
theorem dX9_numbers_55 : decode cX9_numbers 55 = .ok (.getfield 54, 3) := by decide +kernel
theorem dX9_numbers_58 : decode cX9_numbers 58 = .ok (.iload_n 1, 1) := by decide +kernel
theorem dX9_numbers_59 : decode cX9_numbers 59 = .ok (.iload_n 3, 1) := by decide +kernel
theorem dX9_numbers_60 : decode cX9_numbers 60 = .ok (.iastore, 1) := by decide +kernel
theorem dX9_numbers_61 : decode cX9_numbers 61 = .ok (.iconst 0, 1) := by decide +kernel
theorem dX9_numbers_62 : decode cX9_numbers 62 = .ok (.istore 4, 2) := by decide +kernel
theorem dX9_numbers_64 : decode cX9_numbers 64 = .ok (.iload 4, 2) := by decide +kernel
theorem dX9_numbers_66 : decode cX9_numbers 66 = .ok (.iload_n 3, 1) := by decide +kernel
theorem dX9_numbers_67 : decode cX9_numbers 67 = .ok (.if_icmp .ge 22, 3) := by decide +kernel
theorem dX9_numbers_70 : decode cX9_numbers 70 = .ok (.aload_n 0, 1) := by decide +kernel
theorem dX9_numbers_71 : decode cX9_numbers 71 = .ok (.getfield 57, 3) := by decide +kernel
theorem dX9_numbers_74 : decode cX9_numbers 74 = .ok (.bipush 40, 2) := by decide +kernel
theorem dX9_numbers_76 : decode cX9_numbers 76 = .ok (.iload_n 1, 1) := by decide +kernel
theorem dX9_numbers_77 : decode cX9_numbers 77 = .ok (.imul, 1) := by decide +kernel
theorem dX9_numbers_78 : decode cX9_numbers 78 = .ok (.iload 4, 2) := by decide +kernel
theorem dX9_numbers_80 : decode cX9_numbers 80 = .ok (.iadd, 1) := by decide +kernel
theorem dX9_numbers_81 : decode cX9_numbers 81 = .ok (.lconst 0, 1) := by decide +kernel
theorem dX9_numbers_82 : decode cX9_numbers 82 = .ok (.lastore, 1) := by decide +kernel
theorem dX9_numbers_83 : decode cX9_numbers 83 = .ok (.iinc 4 1, 3) := by decide +kernel
theorem dX9_numbers_86 : decode cX9_numbers 86 = .ok (.goto (-22), 3) := by decide +kernel
theorem dX9_numbers_89 : decode cX9_numbers 89 = .ok (.iconst 0, 1) := by decide +kernel
theorem dX9_numbers_90 : decode cX9_numbers 90 = .ok (.ireturn, 1) := by decide +kernel
theorem dX9_write_0 : decode cX9_write 0 = .ok (.aload_n 0, 1) := by decide +kernel
theorem dX9_write_1 : decode cX9_write 1 = .ok (.iconst 0, 1) := by decide +kernel
theorem dX9_write_2 : decode cX9_write 2 = .ok (.putfield 1, 3) := by decide +kernel
theorem dX9_write_5 : decode cX9_write 5 = .ok (.iload_n 1, 1) := by decide +kernel
theorem dX9_write_6 : decode cX9_write 6 = .ok (.i2l, 1) := by decide +kernel
theorem dX9_write_7 : decode cX9_write 7 = .ok (.lconst 0, 1) := by decide +kernel
theorem dX9_write_8 : decode cX9_write 8 = .ok (.ldc2_w 180, 3) := by decide +kernel
theorem dX9_write_11 : decode cX9_write 11 = .ok (.invokestatic 128, 3) := by decide +kernel
theorem dX9_write_14 : decode cX9_write 14 = .ok (.ifCond .ne 7, 3) := by decide +kernel
theorem dX9_write_17 : decode cX9_write 17 = .ok (.ldc2_w 325, 3) := by decide +kernel
theorem dX9_write_20 : decode cX9_write 20 = .ok (.lreturn, 1) := by decide +kernel
theorem dX9_write_21 : decode cX9_write 21 = .ok (.aload_n 0, 1) := by decide +kernel
theorem dX9_write_22 : decode cX9_write 22 = .ok (.getfield 51, 3) := by decide +kernel
theorem dX9_write_25 : decode cX9_write 25 = .ok (.iload_n 1, 1) := by decide +kernel
theorem dX9_write_26 : decode cX9_write 26 = .ok (.iaload, 1) := by decide +kernel
theorem dX9_write_27 : decode cX9_write 27 = .ok (.iconst (-1), 1) := by decide +kernel
theorem dX9_write_28 : decode cX9_write 28 = .ok (.if_icmp .ne 7, 3) := by decide +kernel
theorem dX9_write_31 : decode cX9_write 31 = .ok (.ldc2_w 327, 3) := by decide +kernel
theorem dX9_write_34 : decode cX9_write 34 = .ok (.lreturn, 1) := by decide +kernel
theorem dX9_copy_0 : decode cX9_copy 0 = .ok (.aload_n 0, 1) := by decide +kernel
theorem dX9_copy_1 : decode cX9_copy 1 = .ok (.iconst 0, 1) := by decide +kernel
theorem dX9_copy_2 : decode cX9_copy 2 = .ok (.putfield 1, 3) := by decide +kernel
theorem dX9_copy_5 : decode cX9_copy 5 = .ok (.iload_n 1, 1) := by decide +kernel
theorem dX9_copy_6 : decode cX9_copy 6 = .ok (.i2l, 1) := by decide +kernel
theorem dX9_copy_7 : decode cX9_copy 7 = .ok (.lconst 0, 1) := by decide +kernel
theorem dX9_copy_8 : decode cX9_copy 8 = .ok (.ldc2_w 180, 3) := by decide +kernel
theorem dX9_copy_11 : decode cX9_copy 11 = .ok (.invokestatic 128, 3) := by decide +kernel
theorem dX9_copy_14 : decode cX9_copy 14 = .ok (.ifCond .ne 6, 3) := by decide +kernel
theorem dX9_copy_17 : decode cX9_copy 17 = .ok (.bipush (-2), 2) := by decide +kernel
theorem dX9_copy_19 : decode cX9_copy 19 = .ok (.ireturn, 1) := by decide +kernel
theorem dX9_copy_20 : decode cX9_copy 20 = .ok (.aload_n 0, 1) := by decide +kernel
theorem dX9_copy_21 : decode cX9_copy 21 = .ok (.getfield 51, 3) := by decide +kernel
theorem dX9_copy_24 : decode cX9_copy 24 = .ok (.iload_n 1, 1) := by decide +kernel
theorem dX9_copy_25 : decode cX9_copy 25 = .ok (.iaload, 1) := by decide +kernel
theorem dX9_copy_26 : decode cX9_copy 26 = .ok (.iconst (-1), 1) := by decide +kernel
theorem dX9_copy_27 : decode cX9_copy 27 = .ok (.if_icmp .ne 6, 3) := by decide +kernel
theorem dX9_copy_30 : decode cX9_copy 30 = .ok (.bipush (-6), 2) := by decide +kernel
theorem dX9_copy_32 : decode cX9_copy 32 = .ok (.ireturn, 1) := by decide +kernel
theorem dX9_image_0 : decode cX9_image 0 = .ok (.aload_n 0, 1) := by decide +kernel
theorem dX9_image_1 : decode cX9_image 1 = .ok (.iconst 0, 1) := by decide +kernel
theorem dX9_image_2 : decode cX9_image 2 = .ok (.putfield 1, 3) := by decide +kernel
theorem dX9_image_5 : decode cX9_image 5 = .ok (.iload_n 1, 1) := by decide +kernel
theorem dX9_image_6 : decode cX9_image 6 = .ok (.i2l, 1) := by decide +kernel
theorem dX9_image_7 : decode cX9_image 7 = .ok (.lconst 0, 1) := by decide +kernel
theorem dX9_image_8 : decode cX9_image 8 = .ok (.lconst 1, 1) := by decide +kernel
theorem dX9_image_9 : decode cX9_image 9 = .ok (.invokestatic 128, 3) := by decide +kernel
theorem dX9_image_12 : decode cX9_image 12 = .ok (.ifCond .ne 6, 3) := by decide +kernel
theorem dX9_image_15 : decode cX9_image 15 = .ok (.bipush (-2), 2) := by decide +kernel
theorem dX9_image_17 : decode cX9_image 17 = .ok (.ireturn, 1) := by decide +kernel
theorem dX9_image_18 : decode cX9_image 18 = .ok (.iconst 0, 1) := by decide +kernel
theorem dX9_image_19 : decode cX9_image 19 = .ok (.istore_n 2, 1) := by decide +kernel
theorem dX9_image_20 : decode cX9_image 20 = .ok (.iload_n 2, 1) := by decide +kernel
theorem dX9_image_21 : decode cX9_image 21 = .ok (.bipush 96, 2) := by decide +kernel
theorem dX9_image_23 : decode cX9_image 23 = .ok (.if_icmp .ge 28, 3) := by decide +kernel
theorem dX9_image_26 : decode cX9_image 26 = .ok (.aload_n 0, 1) := by decide +kernel
