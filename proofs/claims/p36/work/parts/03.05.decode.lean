theorem dX3_addStrip_19 : decode cX3_addStrip 19 = .ok (.aload_n 0, 1) := by decide +kernel
theorem dX3_addStrip_20 : decode cX3_addStrip 20 = .ok (.getfield 15, 3) := by decide +kernel
theorem dX3_addStrip_23 : decode cX3_addStrip 23 = .ok (.aload_n 0, 1) := by decide +kernel
theorem dX3_addStrip_24 : decode cX3_addStrip 24 = .ok (.getfield 33, 3) := by decide +kernel
theorem dX3_addStrip_27 : decode cX3_addStrip 27 = .ok (.iload_n 2, 1) := by decide +kernel
theorem dX3_addStrip_28 : decode cX3_addStrip 28 = .ok (.iastore, 1) := by decide +kernel
theorem dX3_addStrip_29 : decode cX3_addStrip 29 = .ok (.aload_n 0, 1) := by decide +kernel
theorem dX3_addStrip_30 : decode cX3_addStrip 30 = .ok (.getfield 18, 3) := by decide +kernel
theorem dX3_addStrip_33 : decode cX3_addStrip 33 = .ok (.aload_n 0, 1) := by decide +kernel
theorem dX3_addStrip_34 : decode cX3_addStrip 34 = .ok (.getfield 33, 3) := by decide +kernel
theorem dX3_addStrip_37 : decode cX3_addStrip 37 = .ok (.iload_n 3, 1) := by decide +kernel
theorem dX3_addStrip_38 : decode cX3_addStrip 38 = .ok (.iastore, 1) := by decide +kernel
theorem dX3_addStrip_39 : decode cX3_addStrip 39 = .ok (.aload_n 0, 1) := by decide +kernel
theorem dX3_addStrip_40 : decode cX3_addStrip 40 = .ok (.getfield 21, 3) := by decide +kernel
theorem dX3_addStrip_43 : decode cX3_addStrip 43 = .ok (.aload_n 0, 1) := by decide +kernel
theorem dX3_addStrip_44 : decode cX3_addStrip 44 = .ok (.getfield 33, 3) := by decide +kernel
theorem dX3_addStrip_47 : decode cX3_addStrip 47 = .ok (.iload 4, 2) := by decide +kernel
theorem dX3_addStrip_49 : decode cX3_addStrip 49 = .ok (.iastore, 1) := by decide +kernel
theorem dX3_addStrip_50 : decode cX3_addStrip 50 = .ok (.aload_n 0, 1) := by decide +kernel
theorem dX3_addStrip_51 : decode cX3_addStrip 51 = .ok (.getfield 24, 3) := by decide +kernel
theorem dX3_addStrip_54 : decode cX3_addStrip 54 = .ok (.aload_n 0, 1) := by decide +kernel
theorem dX3_addStrip_55 : decode cX3_addStrip 55 = .ok (.getfield 33, 3) := by decide +kernel
theorem dX3_addStrip_58 : decode cX3_addStrip 58 = .ok (.iconst 0, 1) := by decide +kernel
theorem dX3_addStrip_59 : decode cX3_addStrip 59 = .ok (.iastore, 1) := by decide +kernel
theorem dX3_addStrip_60 : decode cX3_addStrip 60 = .ok (.aload_n 0, 1) := by decide +kernel
theorem dX3_addStrip_61 : decode cX3_addStrip 61 = .ok (.dup, 1) := by decide +kernel
theorem dX3_addStrip_62 : decode cX3_addStrip 62 = .ok (.getfield 33, 3) := by decide +kernel
theorem dX3_addStrip_65 : decode cX3_addStrip 65 = .ok (.iconst 1, 1) := by decide +kernel
theorem dX3_addStrip_66 : decode cX3_addStrip 66 = .ok (.iadd, 1) := by decide +kernel
theorem dX3_addStrip_67 : decode cX3_addStrip 67 = .ok (.putfield 33, 3) := by decide +kernel
theorem dX3_addStrip_70 : decode cX3_addStrip 70 = .ok (.return_, 1) := by decide +kernel
theorem dX3_hasStrip_0 : decode cX3_hasStrip 0 = .ok (.iload_n 1, 1) := by decide +kernel
theorem dX3_hasStrip_1 : decode cX3_hasStrip 1 = .ok (.ifCond .lt 15, 3) := by decide +kernel
theorem dX3_hasStrip_4 : decode cX3_hasStrip 4 = .ok (.iload_n 1, 1) := by decide +kernel
theorem dX3_hasStrip_5 : decode cX3_hasStrip 5 = .ok (.aload_n 0, 1) := by decide +kernel
theorem dX3_hasStrip_6 : decode cX3_hasStrip 6 = .ok (.getfield 33, 3) := by decide +kernel
theorem dX3_hasStrip_9 : decode cX3_hasStrip 9 = .ok (.if_icmp .ge 7, 3) := by decide +kernel
theorem dX3_hasStrip_12 : decode cX3_hasStrip 12 = .ok (.iconst 1, 1) := by decide +kernel
theorem dX3_hasStrip_13 : decode cX3_hasStrip 13 = .ok (.goto 4, 3) := by decide +kernel
theorem dX3_hasStrip_16 : decode cX3_hasStrip 16 = .ok (.iconst 0, 1) := by decide +kernel
theorem dX3_hasStrip_17 : decode cX3_hasStrip 17 = .ok (.ireturn, 1) := by decide +kernel
theorem dX3_allStrips_0 : decode cX3_allStrips 0 = .ok (.iconst 1, 1) := by decide +kernel
theorem dX3_allStrips_1 : decode cX3_allStrips 1 = .ok (.aload_n 0, 1) := by decide +kernel
theorem dX3_allStrips_2 : decode cX3_allStrips 2 = .ok (.getfield 33, 3) := by decide +kernel
theorem dX3_allStrips_5 : decode cX3_allStrips 5 = .ok (.ishl, 1) := by decide +kernel
theorem dX3_allStrips_6 : decode cX3_allStrips 6 = .ok (.iconst 1, 1) := by decide +kernel
theorem dX3_allStrips_7 : decode cX3_allStrips 7 = .ok (.isub, 1) := by decide +kernel
theorem dX3_allStrips_8 : decode cX3_allStrips 8 = .ok (.ireturn, 1) := by decide +kernel
theorem dX3_areStrips_0 : decode cX3_areStrips 0 = .ok (.iload_n 1, 1) := by decide +kernel
theorem dX3_areStrips_1 : decode cX3_areStrips 1 = .ok (.aload_n 0, 1) := by decide +kernel
theorem dX3_areStrips_2 : decode cX3_areStrips 2 = .ok (.invokevirtual 76, 3) := by decide +kernel
theorem dX3_areStrips_5 : decode cX3_areStrips 5 = .ok (.iconst (-1), 1) := by decide +kernel
theorem dX3_areStrips_6 : decode cX3_areStrips 6 = .ok (.ixor, 1) := by decide +kernel
theorem dX3_areStrips_7 : decode cX3_areStrips 7 = .ok (.iand, 1) := by decide +kernel
theorem dX3_areStrips_8 : decode cX3_areStrips 8 = .ok (.ifCond .ne 7, 3) := by decide +kernel
theorem dX3_areStrips_11 : decode cX3_areStrips 11 = .ok (.iconst 1, 1) := by decide +kernel
theorem dX3_areStrips_12 : decode cX3_areStrips 12 = .ok (.goto 4, 3) := by decide +kernel
theorem dX3_areStrips_15 : decode cX3_areStrips 15 = .ok (.iconst 0, 1) := by decide +kernel
theorem dX3_areStrips_16 : decode cX3_areStrips 16 = .ok (.ireturn, 1) := by decide +kernel
theorem dX3_hangsOver_0 : decode cX3_hangsOver 0 = .ok (.aload_n 0, 1) := by decide +kernel
theorem dX3_hangsOver_1 : decode cX3_hangsOver 1 = .ok (.getfield 33, 3) := by decide +kernel
theorem dX3_hangsOver_4 : decode cX3_hangsOver 4 = .ok (.ifCond .ne 7, 3) := by decide +kernel
theorem dX3_hangsOver_7 : decode cX3_hangsOver 7 = .ok (.iconst (-1), 1) := by decide +kernel
theorem dX3_hangsOver_8 : decode cX3_hangsOver 8 = .ok (.goto 7, 3) := by decide +kernel
theorem dX3_hangsOver_11 : decode cX3_hangsOver 11 = .ok (.aload_n 0, 1) := by decide +kernel
theorem dX3_hangsOver_12 : decode cX3_hangsOver 12 = .ok (.getfield 43, 3) := by decide +kernel
theorem dX3_hangsOver_15 : decode cX3_hangsOver 15 = .ok (.ireturn, 1) := by decide +kernel
theorem dX3_sum_0 : decode cX3_sum 0 = .ok (.iconst 0, 1) := by decide +kernel
theorem dX3_sum_1 : decode cX3_sum 1 = .ok (.istore_n 2, 1) := by decide +kernel
theorem dX3_sum_2 : decode cX3_sum 2 = .ok (.iconst 0, 1) := by decide +kernel
theorem dX3_sum_3 : decode cX3_sum 3 = .ok (.istore_n 3, 1) := by decide +kernel
theorem dX3_sum_4 : decode cX3_sum 4 = .ok (.iload_n 3, 1) := by decide +kernel
theorem dX3_sum_5 : decode cX3_sum 5 = .ok (.aload_n 0, 1) := by decide +kernel
theorem dX3_sum_6 : decode cX3_sum 6 = .ok (.getfield 33, 3) := by decide +kernel
theorem dX3_sum_9 : decode cX3_sum 9 = .ok (.if_icmp .ge 15, 3) := by decide +kernel
theorem dX3_sum_12 : decode cX3_sum 12 = .ok (.iload_n 2, 1) := by decide +kernel
theorem dX3_sum_13 : decode cX3_sum 13 = .ok (.aload_n 1, 1) := by decide +kernel
theorem dX3_sum_14 : decode cX3_sum 14 = .ok (.iload_n 3, 1) := by decide +kernel
theorem dX3_sum_15 : decode cX3_sum 15 = .ok (.iaload, 1) := by decide +kernel
theorem dX3_sum_16 : decode cX3_sum 16 = .ok (.iadd, 1) := by decide +kernel
theorem dX3_sum_17 : decode cX3_sum 17 = .ok (.istore_n 2, 1) := by decide +kernel
theorem dX3_sum_18 : decode cX3_sum 18 = .ok (.iinc 3 1, 3) := by decide +kernel
theorem dX3_sum_21 : decode cX3_sum 21 = .ok (.goto (-17), 3) := by decide +kernel
theorem dX3_sum_24 : decode cX3_sum 24 = .ok (.iload_n 2, 1) := by decide +kernel
theorem dX3_sum_25 : decode cX3_sum 25 = .ok (.ireturn, 1) := by decide +kernel
theorem dX3_sumOfFarm_0 : decode cX3_sumOfFarm 0 = .ok (.iconst 0, 1) := by decide +kernel
theorem dX3_sumOfFarm_1 : decode cX3_sumOfFarm 1 = .ok (.istore_n 3, 1) := by decide +kernel
theorem dX3_sumOfFarm_2 : decode cX3_sumOfFarm 2 = .ok (.iconst 0, 1) := by decide +kernel
theorem dX3_sumOfFarm_3 : decode cX3_sumOfFarm 3 = .ok (.istore 4, 2) := by decide +kernel
theorem dX3_sumOfFarm_5 : decode cX3_sumOfFarm 5 = .ok (.iload 4, 2) := by decide +kernel
theorem dX3_sumOfFarm_7 : decode cX3_sumOfFarm 7 = .ok (.aload_n 0, 1) := by decide +kernel
theorem dX3_sumOfFarm_8 : decode cX3_sumOfFarm 8 = .ok (.getfield 33, 3) := by decide +kernel
theorem dX3_sumOfFarm_11 : decode cX3_sumOfFarm 11 = .ok (.if_icmp .ge 27, 3) := by decide +kernel
theorem dX3_sumOfFarm_14 : decode cX3_sumOfFarm 14 = .ok (.aload_n 0, 1) := by decide +kernel
theorem dX3_sumOfFarm_15 : decode cX3_sumOfFarm 15 = .ok (.getfield 21, 3) := by decide +kernel
theorem dX3_sumOfFarm_18 : decode cX3_sumOfFarm 18 = .ok (.iload 4, 2) := by decide +kernel
theorem dX3_sumOfFarm_20 : decode cX3_sumOfFarm 20 = .ok (.iaload, 1) := by decide +kernel
theorem dX3_sumOfFarm_21 : decode cX3_sumOfFarm 21 = .ok (.iload_n 2, 1) := by decide +kernel
theorem dX3_sumOfFarm_22 : decode cX3_sumOfFarm 22 = .ok (.if_icmp .ne 10, 3) := by decide +kernel
theorem dX3_sumOfFarm_25 : decode cX3_sumOfFarm 25 = .ok (.iload_n 3, 1) := by decide +kernel
theorem dX3_sumOfFarm_26 : decode cX3_sumOfFarm 26 = .ok (.aload_n 1, 1) := by decide +kernel
theorem dX3_sumOfFarm_27 : decode cX3_sumOfFarm 27 = .ok (.iload 4, 2) := by decide +kernel
theorem dX3_sumOfFarm_29 : decode cX3_sumOfFarm 29 = .ok (.iaload, 1) := by decide +kernel
theorem dX3_sumOfFarm_30 : decode cX3_sumOfFarm 30 = .ok (.iadd, 1) := by decide +kernel
theorem dX3_sumOfFarm_31 : decode cX3_sumOfFarm 31 = .ok (.istore_n 3, 1) := by decide +kernel
theorem dX3_sumOfFarm_32 : decode cX3_sumOfFarm 32 = .ok (.iinc 4 1, 3) := by decide +kernel
theorem dX3_sumOfFarm_35 : decode cX3_sumOfFarm 35 = .ok (.goto (-30), 3) := by decide +kernel
theorem dX3_sumOfFarm_38 : decode cX3_sumOfFarm 38 = .ok (.iload_n 3, 1) := by decide +kernel
theorem dX3_sumOfFarm_39 : decode cX3_sumOfFarm 39 = .ok (.ireturn, 1) := by decide +kernel
theorem dX3_stripsOfFarm_0 : decode cX3_stripsOfFarm 0 = .ok (.iconst 0, 1) := by decide +kernel
theorem dX3_stripsOfFarm_1 : decode cX3_stripsOfFarm 1 = .ok (.istore_n 2, 1) := by decide +kernel
theorem dX3_stripsOfFarm_2 : decode cX3_stripsOfFarm 2 = .ok (.iconst 0, 1) := by decide +kernel
theorem dX3_stripsOfFarm_3 : decode cX3_stripsOfFarm 3 = .ok (.istore_n 3, 1) := by decide +kernel
theorem dX3_stripsOfFarm_4 : decode cX3_stripsOfFarm 4 = .ok (.iload_n 3, 1) := by decide +kernel
theorem dX3_stripsOfFarm_5 : decode cX3_stripsOfFarm 5 = .ok (.aload_n 0, 1) := by decide +kernel
theorem dX3_stripsOfFarm_6 : decode cX3_stripsOfFarm 6 = .ok (.getfield 33, 3) := by decide +kernel
theorem dX3_stripsOfFarm_9 : decode cX3_stripsOfFarm 9 = .ok (.if_icmp .ge 25, 3) := by decide +kernel
theorem dX3_stripsOfFarm_12 : decode cX3_stripsOfFarm 12 = .ok (.aload_n 0, 1) := by decide +kernel
theorem dX3_stripsOfFarm_13 : decode cX3_stripsOfFarm 13 = .ok (.getfield 21, 3) := by decide +kernel
theorem dX3_stripsOfFarm_16 : decode cX3_stripsOfFarm 16 = .ok (.iload_n 3, 1) := by decide +kernel
theorem dX3_stripsOfFarm_17 : decode cX3_stripsOfFarm 17 = .ok (.iaload, 1) := by decide +kernel
theorem dX3_stripsOfFarm_18 : decode cX3_stripsOfFarm 18 = .ok (.iload_n 1, 1) := by decide +kernel
theorem dX3_stripsOfFarm_19 : decode cX3_stripsOfFarm 19 = .ok (.if_icmp .ne 9, 3) := by decide +kernel
theorem dX3_stripsOfFarm_22 : decode cX3_stripsOfFarm 22 = .ok (.iload_n 2, 1) := by decide +kernel
theorem dX3_stripsOfFarm_23 : decode cX3_stripsOfFarm 23 = .ok (.iconst 1, 1) := by decide +kernel
theorem dX3_stripsOfFarm_24 : decode cX3_stripsOfFarm 24 = .ok (.iload_n 3, 1) := by decide +kernel
theorem dX3_stripsOfFarm_25 : decode cX3_stripsOfFarm 25 = .ok (.ishl, 1) := by decide +kernel
theorem dX3_stripsOfFarm_26 : decode cX3_stripsOfFarm 26 = .ok (.ior, 1) := by decide +kernel
theorem dX3_stripsOfFarm_27 : decode cX3_stripsOfFarm 27 = .ok (.istore_n 2, 1) := by decide +kernel
theorem dX3_stripsOfFarm_28 : decode cX3_stripsOfFarm 28 = .ok (.iinc 3 1, 3) := by decide +kernel
theorem dX3_stripsOfFarm_31 : decode cX3_stripsOfFarm 31 = .ok (.goto (-27), 3) := by decide +kernel
theorem dX3_stripsOfFarm_34 : decode cX3_stripsOfFarm 34 = .ok (.iload_n 2, 1) := by decide +kernel
theorem dX3_stripsOfFarm_35 : decode cX3_stripsOfFarm 35 = .ok (.ireturn, 1) := by decide +kernel
theorem dX3_unshadedLight_0 : decode cX3_unshadedLight 0 = .ok (.iconst 0, 1) := by decide +kernel
theorem dX3_unshadedLight_1 : decode cX3_unshadedLight 1 = .ok (.aload_n 0, 1) := by decide +kernel
theorem dX3_unshadedLight_2 : decode cX3_unshadedLight 2 = .ok (.getfield 49, 3) := by decide +kernel
theorem dX3_unshadedLight_5 : decode cX3_unshadedLight 5 = .ok (.aload_n 0, 1) := by decide +kernel
theorem dX3_unshadedLight_6 : decode cX3_unshadedLight 6 = .ok (.getfield 52, 3) := by decide +kernel
theorem dX3_unshadedLight_9 : decode cX3_unshadedLight 9 = .ok (.iload_n 1, 1) := by decide +kernel
theorem dX3_unshadedLight_10 : decode cX3_unshadedLight 10 = .ok (.iload_n 2, 1) := by decide +kernel
theorem dX3_unshadedLight_11 : decode cX3_unshadedLight 11 = .ok (.isub, 1) := by decide +kernel
theorem dX3_unshadedLight_12 : decode cX3_unshadedLight 12 = .ok (.invokestatic 80, 3) := by decide +kernel
theorem dX3_unshadedLight_15 : decode cX3_unshadedLight 15 = .ok (.imul, 1) := by decide +kernel
theorem dX3_unshadedLight_16 : decode cX3_unshadedLight 16 = .ok (.isub, 1) := by decide +kernel
theorem dX3_unshadedLight_17 : decode cX3_unshadedLight 17 = .ok (.invokestatic 86, 3) := by decide +kernel
theorem dX3_unshadedLight_20 : decode cX3_unshadedLight 20 = .ok (.ireturn, 1) := by decide +kernel
theorem dX3_isShaded_0 : decode cX3_isShaded 0 = .ok (.iload_n 1, 1) := by decide +kernel
theorem dX3_isShaded_1 : decode cX3_isShaded 1 = .ok (.iload_n 2, 1) := by decide +kernel
theorem dX3_isShaded_2 : decode cX3_isShaded 2 = .ok (.isub, 1) := by decide +kernel
theorem dX3_isShaded_3 : decode cX3_isShaded 3 = .ok (.invokestatic 80, 3) := by decide +kernel
theorem dX3_isShaded_6 : decode cX3_isShaded 6 = .ok (.istore_n 3, 1) := by decide +kernel
theorem dX3_isShaded_7 : decode cX3_isShaded 7 = .ok (.iload_n 1, 1) := by decide +kernel
theorem dX3_isShaded_8 : decode cX3_isShaded 8 = .ok (.iload_n 2, 1) := by decide +kernel
theorem dX3_isShaded_9 : decode cX3_isShaded 9 = .ok (.invokestatic 86, 3) := by decide +kernel
theorem dX3_isShaded_12 : decode cX3_isShaded 12 = .ok (.istore 4, 2) := by decide +kernel
theorem dX3_isShaded_14 : decode cX3_isShaded 14 = .ok (.iload_n 1, 1) := by decide +kernel
theorem dX3_isShaded_15 : decode cX3_isShaded 15 = .ok (.iload_n 2, 1) := by decide +kernel
theorem dX3_isShaded_16 : decode cX3_isShaded 16 = .ok (.invokestatic 90, 3) := by decide +kernel
theorem dX3_isShaded_19 : decode cX3_isShaded 19 = .ok (.iconst 1, 1) := by decide +kernel
theorem dX3_isShaded_20 : decode cX3_isShaded 20 = .ok (.iadd, 1) := by decide +kernel
theorem dX3_isShaded_21 : decode cX3_isShaded 21 = .ok (.istore 5, 2) := by decide +kernel
theorem dX3_isShaded_23 : decode cX3_isShaded 23 = .ok (.iload 5, 2) := by decide +kernel
theorem dX3_isShaded_25 : decode cX3_isShaded 25 = .ok (.iload 4, 2) := by decide +kernel
theorem dX3_isShaded_27 : decode cX3_isShaded 27 = .ok (.if_icmp .ge 35, 3) := by decide +kernel
theorem dX3_isShaded_30 : decode cX3_isShaded 30 = .ok (.aload_n 0, 1) := by decide +kernel
theorem dX3_isShaded_31 : decode cX3_isShaded 31 = .ok (.getfield 18, 3) := by decide +kernel
theorem dX3_isShaded_34 : decode cX3_isShaded 34 = .ok (.iload 5, 2) := by decide +kernel
theorem dX3_isShaded_36 : decode cX3_isShaded 36 = .ok (.iaload, 1) := by decide +kernel
theorem dX3_isShaded_37 : decode cX3_isShaded 37 = .ok (.iload_n 3, 1) := by decide +kernel
theorem dX3_isShaded_38 : decode cX3_isShaded 38 = .ok (.imul, 1) := by decide +kernel
theorem dX3_isShaded_39 : decode cX3_isShaded 39 = .ok (.aload_n 0, 1) := by decide +kernel
theorem dX3_isShaded_40 : decode cX3_isShaded 40 = .ok (.getfield 46, 3) := by decide +kernel
theorem dX3_isShaded_43 : decode cX3_isShaded 43 = .ok (.iload 5, 2) := by decide +kernel
theorem dX3_isShaded_45 : decode cX3_isShaded 45 = .ok (.iload_n 2, 1) := by decide +kernel
theorem dX3_isShaded_46 : decode cX3_isShaded 46 = .ok (.isub, 1) := by decide +kernel
theorem dX3_isShaded_47 : decode cX3_isShaded 47 = .ok (.invokestatic 80, 3) := by decide +kernel
theorem dX3_isShaded_50 : decode cX3_isShaded 50 = .ok (.imul, 1) := by decide +kernel
theorem dX3_isShaded_51 : decode cX3_isShaded 51 = .ok (.if_icmp .le 5, 3) := by decide +kernel
theorem dX3_isShaded_54 : decode cX3_isShaded 54 = .ok (.iconst 1, 1) := by decide +kernel
theorem dX3_isShaded_55 : decode cX3_isShaded 55 = .ok (.ireturn, 1) := by decide +kernel
theorem dX3_isShaded_56 : decode cX3_isShaded 56 = .ok (.iinc 5 1, 3) := by decide +kernel
theorem dX3_isShaded_59 : decode cX3_isShaded 59 = .ok (.goto (-36), 3) := by decide +kernel
theorem dX3_isShaded_62 : decode cX3_isShaded 62 = .ok (.iconst 0, 1) := by decide +kernel
theorem dX3_isShaded_63 : decode cX3_isShaded 63 = .ok (.ireturn, 1) := by decide +kernel
theorem dX3_lightOf_0 : decode cX3_lightOf 0 = .ok (.aload_n 0, 1) := by decide +kernel
theorem dX3_lightOf_1 : decode cX3_lightOf 1 = .ok (.iload_n 1, 1) := by decide +kernel
theorem dX3_lightOf_2 : decode cX3_lightOf 2 = .ok (.iload_n 2, 1) := by decide +kernel
theorem dX3_lightOf_3 : decode cX3_lightOf 3 = .ok (.invokevirtual 93, 3) := by decide +kernel
theorem dX3_lightOf_6 : decode cX3_lightOf 6 = .ok (.istore_n 3, 1) := by decide +kernel
theorem dX3_lightOf_7 : decode cX3_lightOf 7 = .ok (.iload_n 3, 1) := by decide +kernel
theorem dX3_lightOf_8 : decode cX3_lightOf 8 = .ok (.ifCond .le 16, 3) := by decide +kernel
theorem dX3_lightOf_11 : decode cX3_lightOf 11 = .ok (.aload_n 0, 1) := by decide +kernel
theorem dX3_lightOf_12 : decode cX3_lightOf 12 = .ok (.iload_n 1, 1) := by decide +kernel
theorem dX3_lightOf_13 : decode cX3_lightOf 13 = .ok (.iload_n 2, 1) := by decide +kernel
theorem dX3_lightOf_14 : decode cX3_lightOf 14 = .ok (.invokevirtual 96, 3) := by decide +kernel
theorem dX3_lightOf_17 : decode cX3_lightOf 17 = .ok (.ifCond .eq 7, 3) := by decide +kernel
theorem dX3_lightOf_20 : decode cX3_lightOf 20 = .ok (.iconst 0, 1) := by decide +kernel
theorem dX3_lightOf_21 : decode cX3_lightOf 21 = .ok (.goto 4, 3) := by decide +kernel
theorem dX3_lightOf_24 : decode cX3_lightOf 24 = .ok (.iload_n 3, 1) := by decide +kernel
theorem dX3_lightOf_25 : decode cX3_lightOf 25 = .ok (.ireturn, 1) := by decide +kernel
