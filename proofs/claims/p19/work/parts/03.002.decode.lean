theorem dX3_sumOfFarm_3 : decode cX3_sumOfFarm 3 = .ok (.istore 4, 2) := by decide +kernel
theorem dX3_sumOfFarm_5 : decode cX3_sumOfFarm 5 = .ok (.iload 4, 2) := by decide +kernel
theorem dX3_sumOfFarm_7 : decode cX3_sumOfFarm 7 = .ok (.aload_n 0, 1) := by decide +kernel
theorem dX3_sumOfFarm_8 : decode cX3_sumOfFarm 8 = .ok (.getfield 33, 3) := by decide +kernel
theorem dX3_sumOfFarm_11 : decode cX3_sumOfFarm 11 = .ok (.if_icmp .ge 27, 3) := by decide +kernel
theorem dX3_sumOfFarm_14 : decode cX3_sumOfFarm 14 = .ok (.aload_n 0, 1) := by decide +kernel
theorem dX3_sumOfFarm_15 : decode cX3_sumOfFarm 15 = .ok (.getfield 21, 3) := by decide +kernel
theorem dX3_sumOfFarm_18 : decode cX3_sumOfFarm 18 = .ok (.iload 4, 2) := by decide +kernel
theorem dX3_sumOfFarm_20 : decode cX3_sumOfFarm 20 = .ok (.iaload, 1) := by decide +kernel
theorem dX3_sumOfFarm_21 : decode cX3_sumOfFarm 21 = .ok (.iload_n 2, 1) := by decide +kernel
theorem dX3_sumOfFarm_22 : decode cX3_sumOfFarm 22 = .ok (.if_icmp .ne 10, 3) := by decide +kernel
theorem dX3_sumOfFarm_25 : decode cX3_sumOfFarm 25 = .ok (.iload_n 3, 1) := by decide +kernel
theorem dX3_sumOfFarm_26 : decode cX3_sumOfFarm 26 = .ok (.aload_n 1, 1) := by decide +kernel
theorem dX3_sumOfFarm_27 : decode cX3_sumOfFarm 27 = .ok (.iload 4, 2) := by decide +kernel
theorem dX3_sumOfFarm_29 : decode cX3_sumOfFarm 29 = .ok (.iaload, 1) := by decide +kernel
theorem dX3_sumOfFarm_30 : decode cX3_sumOfFarm 30 = .ok (.iadd, 1) := by decide +kernel
theorem dX3_sumOfFarm_31 : decode cX3_sumOfFarm 31 = .ok (.istore_n 3, 1) := by decide +kernel
theorem dX3_sumOfFarm_32 : decode cX3_sumOfFarm 32 = .ok (.iinc 4 1, 3) := by decide +kernel
theorem dX3_sumOfFarm_35 : decode cX3_sumOfFarm 35 = .ok (.goto (-30), 3) := by decide +kernel
theorem dX3_sumOfFarm_38 : decode cX3_sumOfFarm 38 = .ok (.iload_n 3, 1) := by decide +kernel
theorem dX3_sumOfFarm_39 : decode cX3_sumOfFarm 39 = .ok (.ireturn, 1) := by decide +kernel
theorem dX3_stripsOfFarm_0 : decode cX3_stripsOfFarm 0 = .ok (.iconst 0, 1) := by decide +kernel
theorem dX3_stripsOfFarm_1 : decode cX3_stripsOfFarm 1 = .ok (.istore_n 2, 1) := by decide +kernel
theorem dX3_stripsOfFarm_2 : decode cX3_stripsOfFarm 2 = .ok (.iconst 0, 1) := by decide +kernel
theorem dX3_stripsOfFarm_3 : decode cX3_stripsOfFarm 3 = .ok (.istore_n 3, 1) := by decide +kernel
theorem dX3_stripsOfFarm_4 : decode cX3_stripsOfFarm 4 = .ok (.iload_n 3, 1) := by decide +kernel
theorem dX3_stripsOfFarm_5 : decode cX3_stripsOfFarm 5 = .ok (.aload_n 0, 1) := by decide +kernel
theorem dX3_stripsOfFarm_6 : decode cX3_stripsOfFarm 6 = .ok (.getfield 33, 3) := by decide +kernel
theorem dX3_stripsOfFarm_9 : decode cX3_stripsOfFarm 9 = .ok (.if_icmp .ge 25, 3) := by decide +kernel
theorem dX3_stripsOfFarm_12 : decode cX3_stripsOfFarm 12 = .ok (.aload_n 0, 1) := by decide +kernel
theorem dX3_stripsOfFarm_13 : decode cX3_stripsOfFarm 13 = .ok (.getfield 21, 3) := by decide +kernel
theorem dX3_stripsOfFarm_16 : decode cX3_stripsOfFarm 16 = .ok (.iload_n 3, 1) := by decide +kernel
theorem dX3_stripsOfFarm_17 : decode cX3_stripsOfFarm 17 = .ok (.iaload, 1) := by decide +kernel
theorem dX3_stripsOfFarm_18 : decode cX3_stripsOfFarm 18 = .ok (.iload_n 1, 1) := by decide +kernel
theorem dX3_stripsOfFarm_19 : decode cX3_stripsOfFarm 19 = .ok (.if_icmp .ne 9, 3) := by decide +kernel
theorem dX3_stripsOfFarm_22 : decode cX3_stripsOfFarm 22 = .ok (.iload_n 2, 1) := by decide +kernel
theorem dX3_stripsOfFarm_23 : decode cX3_stripsOfFarm 23 = .ok (.iconst 1, 1) := by decide +kernel
theorem dX3_stripsOfFarm_24 : decode cX3_stripsOfFarm 24 = .ok (.iload_n 3, 1) := by decide +kernel
theorem dX3_stripsOfFarm_25 : decode cX3_stripsOfFarm 25 = .ok (.ishl, 1) := by decide +kernel
theorem dX3_stripsOfFarm_26 : decode cX3_stripsOfFarm 26 = .ok (.ior, 1) := by decide +kernel
theorem dX3_stripsOfFarm_27 : decode cX3_stripsOfFarm 27 = .ok (.istore_n 2, 1) := by decide +kernel
theorem dX3_stripsOfFarm_28 : decode cX3_stripsOfFarm 28 = .ok (.iinc 3 1, 3) := by decide +kernel
theorem dX3_stripsOfFarm_31 : decode cX3_stripsOfFarm 31 = .ok (.goto (-27), 3) := by decide +kernel
theorem dX3_stripsOfFarm_34 : decode cX3_stripsOfFarm 34 = .ok (.iload_n 2, 1) := by decide +kernel
theorem dX3_stripsOfFarm_35 : decode cX3_stripsOfFarm 35 = .ok (.ireturn, 1) := by decide +kernel
theorem dX3_unshadedLight_0 : decode cX3_unshadedLight 0 = .ok (.iconst 0, 1) := by decide +kernel
theorem dX3_unshadedLight_1 : decode cX3_unshadedLight 1 = .ok (.aload_n 0, 1) := by decide +kernel
theorem dX3_unshadedLight_2 : decode cX3_unshadedLight 2 = .ok (.getfield 49, 3) := by decide +kernel
theorem dX3_unshadedLight_5 : decode cX3_unshadedLight 5 = .ok (.aload_n 0, 1) := by decide +kernel
theorem dX3_unshadedLight_6 : decode cX3_unshadedLight 6 = .ok (.getfield 52, 3) := by decide +kernel
theorem dX3_unshadedLight_9 : decode cX3_unshadedLight 9 = .ok (.iload_n 1, 1) := by decide +kernel
theorem dX3_unshadedLight_10 : decode cX3_unshadedLight 10 = .ok (.iload_n 2, 1) := by decide +kernel
theorem dX3_unshadedLight_11 : decode cX3_unshadedLight 11 = .ok (.isub, 1) := by decide +kernel
theorem dX3_unshadedLight_12 : decode cX3_unshadedLight 12 = .ok (.invokestatic 80, 3) := by decide +kernel
theorem dX3_unshadedLight_15 : decode cX3_unshadedLight 15 = .ok (.imul, 1) := by decide +kernel
theorem dX3_unshadedLight_16 : decode cX3_unshadedLight 16 = .ok (.isub, 1) := by decide +kernel
theorem dX3_unshadedLight_17 : decode cX3_unshadedLight 17 = .ok (.invokestatic 86, 3) := by decide +kernel
theorem dX3_unshadedLight_20 : decode cX3_unshadedLight 20 = .ok (.ireturn, 1) := by decide +kernel
theorem dX3_isShaded_0 : decode cX3_isShaded 0 = .ok (.iload_n 1, 1) := by decide +kernel
theorem dX3_isShaded_1 : decode cX3_isShaded 1 = .ok (.iload_n 2, 1) := by decide +kernel
theorem dX3_isShaded_2 : decode cX3_isShaded 2 = .ok (.isub, 1) := by decide +kernel
theorem dX3_isShaded_3 : decode cX3_isShaded 3 = .ok (.invokestatic 80, 3) := by decide +kernel
theorem dX3_isShaded_6 : decode cX3_isShaded 6 = .ok (.istore_n 3, 1) := by decide +kernel
theorem dX3_isShaded_7 : decode cX3_isShaded 7 = .ok (.iload_n 1, 1) := by decide +kernel
theorem dX3_isShaded_8 : decode cX3_isShaded 8 = .ok (.iload_n 2, 1) := by decide +kernel
theorem dX3_isShaded_9 : decode cX3_isShaded 9 = .ok (.invokestatic 86, 3) := by decide +kernel
theorem dX3_isShaded_12 : decode cX3_isShaded 12 = .ok (.istore 4, 2) := by decide +kernel
theorem dX3_isShaded_14 : decode cX3_isShaded 14 = .ok (.iload_n 1, 1) := by decide +kernel
theorem dX3_isShaded_15 : decode cX3_isShaded 15 = .ok (.iload_n 2, 1) := by decide +kernel
theorem dX3_isShaded_16 : decode cX3_isShaded 16 = .ok (.invokestatic 90, 3) := by decide +kernel
theorem dX3_isShaded_19 : decode cX3_isShaded 19 = .ok (.iconst 1, 1) := by decide +kernel
theorem dX3_isShaded_20 : decode cX3_isShaded 20 = .ok (.iadd, 1) := by decide +kernel
theorem dX3_isShaded_21 : decode cX3_isShaded 21 = .ok (.istore 5, 2) := by decide +kernel
theorem dX3_isShaded_23 : decode cX3_isShaded 23 = .ok (.iload 5, 2) := by decide +kernel
theorem dX3_isShaded_25 : decode cX3_isShaded 25 = .ok (.iload 4, 2) := by decide +kernel
theorem dX3_isShaded_27 : decode cX3_isShaded 27 = .ok (.if_icmp .ge 35, 3) := by decide +kernel
theorem dX3_isShaded_30 : decode cX3_isShaded 30 = .ok (.aload_n 0, 1) := by decide +kernel
theorem dX3_isShaded_31 : decode cX3_isShaded 31 = .ok (.getfield 18, 3) := by decide +kernel
theorem dX3_isShaded_34 : decode cX3_isShaded 34 = .ok (.iload 5, 2) := by decide +kernel
theorem dX3_isShaded_36 : decode cX3_isShaded 36 = .ok (.iaload, 1) := by decide +kernel
theorem dX3_isShaded_37 : decode cX3_isShaded 37 = .ok (.iload_n 3, 1) := by decide +kernel
theorem dX3_isShaded_38 : decode cX3_isShaded 38 = .ok (.imul, 1) := by decide +kernel
theorem dX3_isShaded_39 : decode cX3_isShaded 39 = .ok (.aload_n 0, 1) := by decide +kernel
theorem dX3_isShaded_40 : decode cX3_isShaded 40 = .ok (.getfield 46, 3) := by decide +kernel
theorem dX3_isShaded_43 : decode cX3_isShaded 43 = .ok (.iload 5, 2) := by decide +kernel
theorem dX3_isShaded_45 : decode cX3_isShaded 45 = .ok (.iload_n 2, 1) := by decide +kernel
theorem dX3_isShaded_46 : decode cX3_isShaded 46 = .ok (.isub, 1) := by decide +kernel
theorem dX3_isShaded_47 : decode cX3_isShaded 47 = .ok (.invokestatic 80, 3) := by decide +kernel
theorem dX3_isShaded_50 : decode cX3_isShaded 50 = .ok (.imul, 1) := by decide +kernel
theorem dX3_isShaded_51 : decode cX3_isShaded 51 = .ok (.if_icmp .le 5, 3) := by decide +kernel
theorem dX3_isShaded_54 : decode cX3_isShaded 54 = .ok (.iconst 1, 1) := by decide +kernel
theorem dX3_isShaded_55 : decode cX3_isShaded 55 = .ok (.ireturn, 1) := by decide +kernel
theorem dX3_isShaded_56 : decode cX3_isShaded 56 = .ok (.iinc 5 1, 3) := by decide +kernel
theorem dX3_isShaded_59 : decode cX3_isShaded 59 = .ok (.goto (-36), 3) := by decide +kernel
theorem dX3_isShaded_62 : decode cX3_isShaded 62 = .ok (.iconst 0, 1) := by decide +kernel
theorem dX3_isShaded_63 : decode cX3_isShaded 63 = .ok (.ireturn, 1) := by decide +kernel
theorem dX3_lightOf_0 : decode cX3_lightOf 0 = .ok (.aload_n 0, 1) := by decide +kernel
theorem dX3_lightOf_1 : decode cX3_lightOf 1 = .ok (.iload_n 1, 1) := by decide +kernel
theorem dX3_lightOf_2 : decode cX3_lightOf 2 = .ok (.iload_n 2, 1) := by decide +kernel
theorem dX3_lightOf_3 : decode cX3_lightOf 3 = .ok (.invokevirtual 93, 3) := by decide +kernel
theorem dX3_lightOf_6 : decode cX3_lightOf 6 = .ok (.istore_n 3, 1) := by decide +kernel
theorem dX3_lightOf_7 : decode cX3_lightOf 7 = .ok (.iload_n 3, 1) := by decide +kernel
theorem dX3_lightOf_8 : decode cX3_lightOf 8 = .ok (.ifCond .le 16, 3) := by decide +kernel
theorem dX3_lightOf_11 : decode cX3_lightOf 11 = .ok (.aload_n 0, 1) := by decide +kernel
theorem dX3_lightOf_12 : decode cX3_lightOf 12 = .ok (.iload_n 1, 1) := by decide +kernel
theorem dX3_lightOf_13 : decode cX3_lightOf 13 = .ok (.iload_n 2, 1) := by decide +kernel
theorem dX3_lightOf_14 : decode cX3_lightOf 14 = .ok (.invokevirtual 96, 3) := by decide +kernel
theorem dX3_lightOf_17 : decode cX3_lightOf 17 = .ok (.ifCond .eq 7, 3) := by decide +kernel
theorem dX3_lightOf_20 : decode cX3_lightOf 20 = .ok (.iconst 0, 1) := by decide +kernel
theorem dX3_lightOf_21 : decode cX3_lightOf 21 = .ok (.goto 4, 3) := by decide +kernel
theorem dX3_lightOf_24 : decode cX3_lightOf 24 = .ok (.iload_n 3, 1) := by decide +kernel
theorem dX3_lightOf_25 : decode cX3_lightOf 25 = .ok (.ireturn, 1) := by decide +kernel
theorem dX3_litFrom_0 : decode cX3_litFrom 0 = .ok (.iconst 0, 1) := by decide +kernel
theorem dX3_litFrom_1 : decode cX3_litFrom 1 = .ok (.istore_n 2, 1) := by decide +kernel
theorem dX3_litFrom_2 : decode cX3_litFrom 2 = .ok (.iconst 0, 1) := by decide +kernel
theorem dX3_litFrom_3 : decode cX3_litFrom 3 = .ok (.istore_n 3, 1) := by decide +kernel
theorem dX3_litFrom_4 : decode cX3_litFrom 4 = .ok (.iload_n 3, 1) := by decide +kernel
theorem dX3_litFrom_5 : decode cX3_litFrom 5 = .ok (.aload_n 0, 1) := by decide +kernel
theorem dX3_litFrom_6 : decode cX3_litFrom 6 = .ok (.getfield 33, 3) := by decide +kernel
theorem dX3_litFrom_9 : decode cX3_litFrom 9 = .ok (.if_icmp .ge 24, 3) := by decide +kernel
theorem dX3_litFrom_12 : decode cX3_litFrom 12 = .ok (.aload_n 0, 1) := by decide +kernel
theorem dX3_litFrom_13 : decode cX3_litFrom 13 = .ok (.iload_n 1, 1) := by decide +kernel
theorem dX3_litFrom_14 : decode cX3_litFrom 14 = .ok (.iload_n 3, 1) := by decide +kernel
theorem dX3_litFrom_15 : decode cX3_litFrom 15 = .ok (.invokevirtual 100, 3) := by decide +kernel
theorem dX3_litFrom_18 : decode cX3_litFrom 18 = .ok (.ifCond .le 9, 3) := by decide +kernel
theorem dX3_litFrom_21 : decode cX3_litFrom 21 = .ok (.iload_n 2, 1) := by decide +kernel
theorem dX3_litFrom_22 : decode cX3_litFrom 22 = .ok (.iconst 1, 1) := by decide +kernel
theorem dX3_litFrom_23 : decode cX3_litFrom 23 = .ok (.iload_n 3, 1) := by decide +kernel
theorem dX3_litFrom_24 : decode cX3_litFrom 24 = .ok (.ishl, 1) := by decide +kernel
theorem dX3_litFrom_25 : decode cX3_litFrom 25 = .ok (.ior, 1) := by decide +kernel
theorem dX3_litFrom_26 : decode cX3_litFrom 26 = .ok (.istore_n 2, 1) := by decide +kernel
theorem dX3_litFrom_27 : decode cX3_litFrom 27 = .ok (.iinc 3 1, 3) := by decide +kernel
theorem dX3_litFrom_30 : decode cX3_litFrom 30 = .ok (.goto (-26), 3) := by decide +kernel
theorem dX3_litFrom_33 : decode cX3_litFrom 33 = .ok (.iload_n 2, 1) := by decide +kernel
theorem dX3_litFrom_34 : decode cX3_litFrom 34 = .ok (.ireturn, 1) := by decide +kernel
theorem dX3_shadedFrom_0 : decode cX3_shadedFrom 0 = .ok (.iconst 0, 1) := by decide +kernel
theorem dX3_shadedFrom_1 : decode cX3_shadedFrom 1 = .ok (.istore_n 2, 1) := by decide +kernel
theorem dX3_shadedFrom_2 : decode cX3_shadedFrom 2 = .ok (.iconst 0, 1) := by decide +kernel
theorem dX3_shadedFrom_3 : decode cX3_shadedFrom 3 = .ok (.istore_n 3, 1) := by decide +kernel
theorem dX3_shadedFrom_4 : decode cX3_shadedFrom 4 = .ok (.iload_n 3, 1) := by decide +kernel
theorem dX3_shadedFrom_5 : decode cX3_shadedFrom 5 = .ok (.aload_n 0, 1) := by decide +kernel
theorem dX3_shadedFrom_6 : decode cX3_shadedFrom 6 = .ok (.getfield 33, 3) := by decide +kernel
theorem dX3_shadedFrom_9 : decode cX3_shadedFrom 9 = .ok (.if_icmp .ge 33, 3) := by decide +kernel
theorem dX3_shadedFrom_12 : decode cX3_shadedFrom 12 = .ok (.aload_n 0, 1) := by decide +kernel
theorem dX3_shadedFrom_13 : decode cX3_shadedFrom 13 = .ok (.iload_n 1, 1) := by decide +kernel
theorem dX3_shadedFrom_14 : decode cX3_shadedFrom 14 = .ok (.iload_n 3, 1) := by decide +kernel
theorem dX3_shadedFrom_15 : decode cX3_shadedFrom 15 = .ok (.invokevirtual 93, 3) := by decide +kernel
theorem dX3_shadedFrom_18 : decode cX3_shadedFrom 18 = .ok (.ifCond .le 18, 3) := by decide +kernel
theorem dX3_shadedFrom_21 : decode cX3_shadedFrom 21 = .ok (.aload_n 0, 1) := by decide +kernel
theorem dX3_shadedFrom_22 : decode cX3_shadedFrom 22 = .ok (.iload_n 1, 1) := by decide +kernel
theorem dX3_shadedFrom_23 : decode cX3_shadedFrom 23 = .ok (.iload_n 3, 1) := by decide +kernel
theorem dX3_shadedFrom_24 : decode cX3_shadedFrom 24 = .ok (.invokevirtual 96, 3) := by decide +kernel
theorem dX3_shadedFrom_27 : decode cX3_shadedFrom 27 = .ok (.ifCond .eq 9, 3) := by decide +kernel
theorem dX3_shadedFrom_30 : decode cX3_shadedFrom 30 = .ok (.iload_n 2, 1) := by decide +kernel
theorem dX3_shadedFrom_31 : decode cX3_shadedFrom 31 = .ok (.iconst 1, 1) := by decide +kernel
theorem dX3_shadedFrom_32 : decode cX3_shadedFrom 32 = .ok (.iload_n 3, 1) := by decide +kernel
theorem dX3_shadedFrom_33 : decode cX3_shadedFrom 33 = .ok (.ishl, 1) := by decide +kernel
theorem dX3_shadedFrom_34 : decode cX3_shadedFrom 34 = .ok (.ior, 1) := by decide +kernel
theorem dX3_shadedFrom_35 : decode cX3_shadedFrom 35 = .ok (.istore_n 2, 1) := by decide +kernel
theorem dX3_shadedFrom_36 : decode cX3_shadedFrom 36 = .ok (.iinc 3 1, 3) := by decide +kernel
theorem dX3_shadedFrom_39 : decode cX3_shadedFrom 39 = .ok (.goto (-35), 3) := by decide +kernel
theorem dX3_shadedFrom_42 : decode cX3_shadedFrom 42 = .ok (.iload_n 2, 1) := by decide +kernel
theorem dX3_shadedFrom_43 : decode cX3_shadedFrom 43 = .ok (.ireturn, 1) := by decide +kernel
theorem dX3_leastHeight_0 : decode cX3_leastHeight 0 = .ok (.aload_n 0, 1) := by decide +kernel
theorem dX3_leastHeight_1 : decode cX3_leastHeight 1 = .ok (.iload_n 1, 1) := by decide +kernel
theorem dX3_leastHeight_2 : decode cX3_leastHeight 2 = .ok (.iload_n 2, 1) := by decide +kernel
theorem dX3_leastHeight_3 : decode cX3_leastHeight 3 = .ok (.invokevirtual 93, 3) := by decide +kernel
theorem dX3_leastHeight_6 : decode cX3_leastHeight 6 = .ok (.ifCond .ne 5, 3) := by decide +kernel
theorem dX3_leastHeight_9 : decode cX3_leastHeight 9 = .ok (.iconst (-1), 1) := by decide +kernel
theorem dX3_leastHeight_10 : decode cX3_leastHeight 10 = .ok (.ireturn, 1) := by decide +kernel
theorem dX3_leastHeight_11 : decode cX3_leastHeight 11 = .ok (.iconst 1, 1) := by decide +kernel
theorem dX3_leastHeight_12 : decode cX3_leastHeight 12 = .ok (.istore_n 3, 1) := by decide +kernel
theorem dX3_leastHeight_13 : decode cX3_leastHeight 13 = .ok (.iload_n 1, 1) := by decide +kernel
theorem dX3_leastHeight_14 : decode cX3_leastHeight 14 = .ok (.iload_n 2, 1) := by decide +kernel
theorem dX3_leastHeight_15 : decode cX3_leastHeight 15 = .ok (.isub, 1) := by decide +kernel
theorem dX3_leastHeight_16 : decode cX3_leastHeight 16 = .ok (.invokestatic 80, 3) := by decide +kernel
theorem dX3_leastHeight_19 : decode cX3_leastHeight 19 = .ok (.istore 4, 2) := by decide +kernel
theorem dX3_leastHeight_21 : decode cX3_leastHeight 21 = .ok (.iload_n 1, 1) := by decide +kernel
theorem dX3_leastHeight_22 : decode cX3_leastHeight 22 = .ok (.iload_n 2, 1) := by decide +kernel
theorem dX3_leastHeight_23 : decode cX3_leastHeight 23 = .ok (.invokestatic 86, 3) := by decide +kernel
theorem dX3_leastHeight_26 : decode cX3_leastHeight 26 = .ok (.istore 5, 2) := by decide +kernel
theorem dX3_leastHeight_28 : decode cX3_leastHeight 28 = .ok (.iload_n 1, 1) := by decide +kernel
theorem dX3_leastHeight_29 : decode cX3_leastHeight 29 = .ok (.iload_n 2, 1) := by decide +kernel
theorem dX3_leastHeight_30 : decode cX3_leastHeight 30 = .ok (.invokestatic 90, 3) := by decide +kernel
theorem dX3_leastHeight_33 : decode cX3_leastHeight 33 = .ok (.iconst 1, 1) := by decide +kernel
theorem dX3_leastHeight_34 : decode cX3_leastHeight 34 = .ok (.iadd, 1) := by decide +kernel
theorem dX3_leastHeight_35 : decode cX3_leastHeight 35 = .ok (.istore 6, 2) := by decide +kernel
theorem dX3_leastHeight_37 : decode cX3_leastHeight 37 = .ok (.iload 6, 2) := by decide +kernel
theorem dX3_leastHeight_39 : decode cX3_leastHeight 39 = .ok (.iload 5, 2) := by decide +kernel
theorem dX3_leastHeight_41 : decode cX3_leastHeight 41 = .ok (.if_icmp .ge 54, 3) := by decide +kernel
theorem dX3_leastHeight_44 : decode cX3_leastHeight 44 = .ok (.iload 6, 2) := by decide +kernel
theorem dX3_leastHeight_46 : decode cX3_leastHeight 46 = .ok (.iload_n 2, 1) := by decide +kernel
theorem dX3_leastHeight_47 : decode cX3_leastHeight 47 = .ok (.isub, 1) := by decide +kernel
theorem dX3_leastHeight_48 : decode cX3_leastHeight 48 = .ok (.invokestatic 80, 3) := by decide +kernel
theorem dX3_leastHeight_51 : decode cX3_leastHeight 51 = .ok (.istore 7, 2) := by decide +kernel
theorem dX3_leastHeight_53 : decode cX3_leastHeight 53 = .ok (.iload 7, 2) := by decide +kernel
theorem dX3_leastHeight_55 : decode cX3_leastHeight 55 = .ok (.ifCond .le 24, 3) := by decide +kernel
theorem dX3_leastHeight_58 : decode cX3_leastHeight 58 = .ok (.aload_n 0, 1) := by decide +kernel
theorem dX3_leastHeight_59 : decode cX3_leastHeight 59 = .ok (.getfield 18, 3) := by decide +kernel
theorem dX3_leastHeight_62 : decode cX3_leastHeight 62 = .ok (.iload 6, 2) := by decide +kernel
theorem dX3_leastHeight_64 : decode cX3_leastHeight 64 = .ok (.iaload, 1) := by decide +kernel
theorem dX3_leastHeight_65 : decode cX3_leastHeight 65 = .ok (.iload 4, 2) := by decide +kernel
theorem dX3_leastHeight_67 : decode cX3_leastHeight 67 = .ok (.imul, 1) := by decide +kernel
theorem dX3_leastHeight_68 : decode cX3_leastHeight 68 = .ok (.iload 7, 2) := by decide +kernel
theorem dX3_leastHeight_70 : decode cX3_leastHeight 70 = .ok (.iadd, 1) := by decide +kernel
theorem dX3_leastHeight_71 : decode cX3_leastHeight 71 = .ok (.iconst 1, 1) := by decide +kernel
theorem dX3_leastHeight_72 : decode cX3_leastHeight 72 = .ok (.isub, 1) := by decide +kernel
theorem dX3_leastHeight_73 : decode cX3_leastHeight 73 = .ok (.iload 7, 2) := by decide +kernel
theorem dX3_leastHeight_75 : decode cX3_leastHeight 75 = .ok (.idiv, 1) := by decide +kernel
theorem dX3_leastHeight_76 : decode cX3_leastHeight 76 = .ok (.goto 4, 3) := by decide +kernel
theorem dX3_leastHeight_79 : decode cX3_leastHeight 79 = .ok (.iconst 0, 1) := by decide +kernel
theorem dX3_leastHeight_80 : decode cX3_leastHeight 80 = .ok (.istore 8, 2) := by decide +kernel
theorem dX3_leastHeight_82 : decode cX3_leastHeight 82 = .ok (.iload_n 3, 1) := by decide +kernel
theorem dX3_leastHeight_83 : decode cX3_leastHeight 83 = .ok (.iload 8, 2) := by decide +kernel
theorem dX3_leastHeight_85 : decode cX3_leastHeight 85 = .ok (.invokestatic 86, 3) := by decide +kernel
theorem dX3_leastHeight_88 : decode cX3_leastHeight 88 = .ok (.istore_n 3, 1) := by decide +kernel
theorem dX3_leastHeight_89 : decode cX3_leastHeight 89 = .ok (.iinc 6 1, 3) := by decide +kernel
theorem dX3_leastHeight_92 : decode cX3_leastHeight 92 = .ok (.goto (-55), 3) := by decide +kernel
theorem dX3_leastHeight_95 : decode cX3_leastHeight 95 = .ok (.iload_n 3, 1) := by decide +kernel
theorem dX3_leastHeight_96 : decode cX3_leastHeight 96 = .ok (.bipush 99, 2) := by decide +kernel
theorem dX3_leastHeight_98 : decode cX3_leastHeight 98 = .ok (.if_icmp .le 7, 3) := by decide +kernel
theorem dX3_leastHeight_101 : decode cX3_leastHeight 101 = .ok (.iconst (-1), 1) := by decide +kernel
theorem dX3_leastHeight_102 : decode cX3_leastHeight 102 = .ok (.goto 4, 3) := by decide +kernel
theorem dX3_leastHeight_105 : decode cX3_leastHeight 105 = .ok (.iload_n 3, 1) := by decide +kernel
theorem dX3_leastHeight_106 : decode cX3_leastHeight 106 = .ok (.ireturn, 1) := by decide +kernel
theorem dX3_leastHeightForAll_0 : decode cX3_leastHeightForAll 0 = .ok (.iconst 1, 1) := by decide +kernel
theorem dX3_leastHeightForAll_1 : decode cX3_leastHeightForAll 1 = .ok (.istore_n 3, 1) := by decide +kernel
theorem dX3_leastHeightForAll_2 : decode cX3_leastHeightForAll 2 = .ok (.iconst 0, 1) := by decide +kernel
theorem dX3_leastHeightForAll_3 : decode cX3_leastHeightForAll 3 = .ok (.istore 4, 2) := by decide +kernel
theorem dX3_leastHeightForAll_5 : decode cX3_leastHeightForAll 5 = .ok (.iload 4, 2) := by decide +kernel
theorem dX3_leastHeightForAll_7 : decode cX3_leastHeightForAll 7 = .ok (.aload_n 0, 1) := by decide +kernel
theorem dX3_leastHeightForAll_8 : decode cX3_leastHeightForAll 8 = .ok (.getfield 33, 3) := by decide +kernel
theorem dX3_leastHeightForAll_11 : decode cX3_leastHeightForAll 11 = .ok (.if_icmp .ge 42, 3) := by decide +kernel
theorem dX3_leastHeightForAll_14 : decode cX3_leastHeightForAll 14 = .ok (.iload_n 2, 1) := by decide +kernel
theorem dX3_leastHeightForAll_15 : decode cX3_leastHeightForAll 15 = .ok (.iload 4, 2) := by decide +kernel
theorem dX3_leastHeightForAll_17 : decode cX3_leastHeightForAll 17 = .ok (.ishr, 1) := by decide +kernel
theorem dX3_leastHeightForAll_18 : decode cX3_leastHeightForAll 18 = .ok (.iconst 1, 1) := by decide +kernel
theorem dX3_leastHeightForAll_19 : decode cX3_leastHeightForAll 19 = .ok (.iand, 1) := by decide +kernel
theorem dX3_leastHeightForAll_20 : decode cX3_leastHeightForAll 20 = .ok (.ifCond .eq 27, 3) := by decide +kernel
theorem dX3_leastHeightForAll_23 : decode cX3_leastHeightForAll 23 = .ok (.aload_n 0, 1) := by decide +kernel
theorem dX3_leastHeightForAll_24 : decode cX3_leastHeightForAll 24 = .ok (.iload_n 1, 1) := by decide +kernel
theorem dX3_leastHeightForAll_25 : decode cX3_leastHeightForAll 25 = .ok (.iload 4, 2) := by decide +kernel
theorem dX3_leastHeightForAll_27 : decode cX3_leastHeightForAll 27 = .ok (.invokevirtual 103, 3) := by decide +kernel
theorem dX3_leastHeightForAll_30 : decode cX3_leastHeightForAll 30 = .ok (.istore 5, 2) := by decide +kernel
theorem dX3_leastHeightForAll_32 : decode cX3_leastHeightForAll 32 = .ok (.iload 5, 2) := by decide +kernel
theorem dX3_leastHeightForAll_34 : decode cX3_leastHeightForAll 34 = .ok (.iconst (-1), 1) := by decide +kernel
theorem dX3_leastHeightForAll_35 : decode cX3_leastHeightForAll 35 = .ok (.if_icmp .ne 5, 3) := by decide +kernel
theorem dX3_leastHeightForAll_38 : decode cX3_leastHeightForAll 38 = .ok (.iconst (-1), 1) := by decide +kernel
theorem dX3_leastHeightForAll_39 : decode cX3_leastHeightForAll 39 = .ok (.ireturn, 1) := by decide +kernel
theorem dX3_leastHeightForAll_40 : decode cX3_leastHeightForAll 40 = .ok (.iload_n 3, 1) := by decide +kernel
theorem dX3_leastHeightForAll_41 : decode cX3_leastHeightForAll 41 = .ok (.iload 5, 2) := by decide +kernel
theorem dX3_leastHeightForAll_43 : decode cX3_leastHeightForAll 43 = .ok (.invokestatic 86, 3) := by decide +kernel
theorem dX3_leastHeightForAll_46 : decode cX3_leastHeightForAll 46 = .ok (.istore_n 3, 1) := by decide +kernel
theorem dX3_leastHeightForAll_47 : decode cX3_leastHeightForAll 47 = .ok (.iinc 4 1, 3) := by decide +kernel
theorem dX3_leastHeightForAll_50 : decode cX3_leastHeightForAll 50 = .ok (.goto (-45), 3) := by decide +kernel
theorem dX3_leastHeightForAll_53 : decode cX3_leastHeightForAll 53 = .ok (.iload_n 3, 1) := by decide +kernel
theorem dX3_leastHeightForAll_54 : decode cX3_leastHeightForAll 54 = .ok (.ireturn, 1) := by decide +kernel
theorem dX3_target_0 : decode cX3_target 0 = .ok (.iload_n 1, 1) := by decide +kernel
theorem dX3_target_1 : decode cX3_target 1 = .ok (.istore 4, 2) := by decide +kernel
theorem dX3_target_3 : decode cX3_target 3 = .ok (.lload_n 2, 1) := by decide +kernel
theorem dX3_target_4 : decode cX3_target 4 = .ok (.lconst 1, 1) := by decide +kernel
theorem dX3_target_5 : decode cX3_target 5 = .ok (.lcmp, 1) := by decide +kernel
theorem dX3_target_6 : decode cX3_target 6 = .ok (.ifCond .ne 11, 3) := by decide +kernel
theorem dX3_target_9 : decode cX3_target 9 = .ok (.iload_n 1, 1) := by decide +kernel
theorem dX3_target_10 : decode cX3_target 10 = .ok (.iconst 1, 1) := by decide +kernel
theorem dX3_target_11 : decode cX3_target 11 = .ok (.isub, 1) := by decide +kernel
theorem dX3_target_12 : decode cX3_target 12 = .ok (.istore 4, 2) := by decide +kernel
theorem dX3_target_14 : decode cX3_target 14 = .ok (.goto 27, 3) := by decide +kernel
theorem dX3_target_17 : decode cX3_target 17 = .ok (.lload_n 2, 1) := by decide +kernel
theorem dX3_target_18 : decode cX3_target 18 = .ok (.ldc2_w 106, 3) := by decide +kernel
theorem dX3_target_21 : decode cX3_target 21 = .ok (.lcmp, 1) := by decide +kernel
theorem dX3_target_22 : decode cX3_target 22 = .ok (.ifCond .ne 11, 3) := by decide +kernel
theorem dX3_target_25 : decode cX3_target 25 = .ok (.iload_n 1, 1) := by decide +kernel
theorem dX3_target_26 : decode cX3_target 26 = .ok (.iconst 1, 1) := by decide +kernel
theorem dX3_target_27 : decode cX3_target 27 = .ok (.iadd, 1) := by decide +kernel
theorem dX3_target_28 : decode cX3_target 28 = .ok (.istore 4, 2) := by decide +kernel
theorem dX3_target_30 : decode cX3_target 30 = .ok (.goto 11, 3) := by decide +kernel
theorem dX3_target_33 : decode cX3_target 33 = .ok (.lload_n 2, 1) := by decide +kernel
theorem dX3_target_34 : decode cX3_target 34 = .ok (.lconst 0, 1) := by decide +kernel
theorem dX3_target_35 : decode cX3_target 35 = .ok (.lcmp, 1) := by decide +kernel
theorem dX3_target_36 : decode cX3_target 36 = .ok (.ifCond .eq 5, 3) := by decide +kernel
theorem dX3_target_39 : decode cX3_target 39 = .ok (.iconst (-1), 1) := by decide +kernel
theorem dX3_target_40 : decode cX3_target 40 = .ok (.ireturn, 1) := by decide +kernel
theorem dX3_target_41 : decode cX3_target 41 = .ok (.aload_n 0, 1) := by decide +kernel
theorem dX3_target_42 : decode cX3_target 42 = .ok (.iload 4, 2) := by decide +kernel
theorem dX3_target_44 : decode cX3_target 44 = .ok (.invokevirtual 108, 3) := by decide +kernel
theorem dX3_target_47 : decode cX3_target 47 = .ok (.ifCond .eq 8, 3) := by decide +kernel
theorem dX3_target_50 : decode cX3_target 50 = .ok (.iload 4, 2) := by decide +kernel
theorem dX3_target_52 : decode cX3_target 52 = .ok (.goto 4, 3) := by decide +kernel
theorem dX3_target_55 : decode cX3_target 55 = .ok (.iconst (-1), 1) := by decide +kernel
theorem dX3_target_56 : decode cX3_target 56 = .ok (.ireturn, 1) := by decide +kernel
theorem dX3_whyNot_0 : decode cX3_whyNot 0 = .ok (.aload_n 0, 1) := by decide +kernel
theorem dX3_whyNot_1 : decode cX3_whyNot 1 = .ok (.aload_n 0, 1) := by decide +kernel
theorem dX3_whyNot_2 : decode cX3_whyNot 2 = .ok (.getfield 43, 3) := by decide +kernel
theorem dX3_whyNot_5 : decode cX3_whyNot 5 = .ok (.lload_n 1, 1) := by decide +kernel
theorem dX3_whyNot_6 : decode cX3_whyNot 6 = .ok (.invokevirtual 112, 3) := by decide +kernel
theorem dX3_whyNot_9 : decode cX3_whyNot 9 = .ok (.iconst (-1), 1) := by decide +kernel
theorem dX3_whyNot_10 : decode cX3_whyNot 10 = .ok (.if_icmp .ne 5, 3) := by decide +kernel
theorem dX3_whyNot_13 : decode cX3_whyNot 13 = .ok (.iconst 1, 1) := by decide +kernel
theorem dX3_whyNot_14 : decode cX3_whyNot 14 = .ok (.ireturn, 1) := by decide +kernel
theorem dX3_whyNot_15 : decode cX3_whyNot 15 = .ok (.aload_n 0, 1) := by decide +kernel
theorem dX3_whyNot_16 : decode cX3_whyNot 16 = .ok (.getfield 55, 3) := by decide +kernel
theorem dX3_whyNot_19 : decode cX3_whyNot 19 = .ok (.ifCond .ne 5, 3) := by decide +kernel
theorem dX3_whyNot_22 : decode cX3_whyNot 22 = .ok (.iconst 2, 1) := by decide +kernel
theorem dX3_whyNot_23 : decode cX3_whyNot 23 = .ok (.ireturn, 1) := by decide +kernel
theorem dX3_whyNot_24 : decode cX3_whyNot 24 = .ok (.aload_n 0, 1) := by decide +kernel
theorem dX3_whyNot_25 : decode cX3_whyNot 25 = .ok (.getfield 40, 3) := by decide +kernel
theorem dX3_whyNot_28 : decode cX3_whyNot 28 = .ok (.sipush 9999, 3) := by decide +kernel
theorem dX3_whyNot_31 : decode cX3_whyNot 31 = .ok (.if_icmp .lt 7, 3) := by decide +kernel
theorem dX3_whyNot_34 : decode cX3_whyNot 34 = .ok (.iconst 3, 1) := by decide +kernel
theorem dX3_whyNot_35 : decode cX3_whyNot 35 = .ok (.goto 4, 3) := by decide +kernel
theorem dX3_whyNot_38 : decode cX3_whyNot 38 = .ok (.iconst 0, 1) := by decide +kernel
theorem dX3_whyNot_39 : decode cX3_whyNot 39 = .ok (.ireturn, 1) := by decide +kernel
theorem dX3_pass_0 : decode cX3_pass 0 = .ok (.aload_n 0, 1) := by decide +kernel
theorem dX3_pass_1 : decode cX3_pass 1 = .ok (.iload_n 1, 1) := by decide +kernel
theorem dX3_pass_2 : decode cX3_pass 2 = .ok (.putfield 43, 3) := by decide +kernel
theorem dX3_pass_5 : decode cX3_pass 5 = .ok (.aload_n 0, 1) := by decide +kernel
theorem dX3_pass_6 : decode cX3_pass 6 = .ok (.dup, 1) := by decide +kernel
theorem dX3_pass_7 : decode cX3_pass 7 = .ok (.getfield 55, 3) := by decide +kernel
theorem dX3_pass_10 : decode cX3_pass 10 = .ok (.iconst 1, 1) := by decide +kernel
theorem dX3_pass_11 : decode cX3_pass 11 = .ok (.isub, 1) := by decide +kernel
theorem dX3_pass_12 : decode cX3_pass 12 = .ok (.putfield 55, 3) := by decide +kernel
theorem dX3_pass_15 : decode cX3_pass 15 = .ok (.aload_n 0, 1) := by decide +kernel
theorem dX3_pass_16 : decode cX3_pass 16 = .ok (.dup, 1) := by decide +kernel
theorem dX3_pass_17 : decode cX3_pass 17 = .ok (.getfield 40, 3) := by decide +kernel
theorem dX3_pass_20 : decode cX3_pass 20 = .ok (.iconst 1, 1) := by decide +kernel
theorem dX3_pass_21 : decode cX3_pass 21 = .ok (.iadd, 1) := by decide +kernel
theorem dX3_pass_22 : decode cX3_pass 22 = .ok (.putfield 40, 3) := by decide +kernel
theorem dX3_pass_25 : decode cX3_pass 25 = .ok (.iconst 0, 1) := by decide +kernel
theorem dX3_pass_26 : decode cX3_pass 26 = .ok (.istore_n 3, 1) := by decide +kernel
theorem dX3_pass_27 : decode cX3_pass 27 = .ok (.iconst 0, 1) := by decide +kernel
theorem dX3_pass_28 : decode cX3_pass 28 = .ok (.istore 4, 2) := by decide +kernel
theorem dX3_pass_30 : decode cX3_pass 30 = .ok (.iload_n 2, 1) := by decide +kernel
theorem dX3_pass_31 : decode cX3_pass 31 = .ok (.ifCond .eq 76, 3) := by decide +kernel
theorem dX3_pass_34 : decode cX3_pass 34 = .ok (.iload 4, 2) := by decide +kernel
theorem dX3_pass_36 : decode cX3_pass 36 = .ok (.aload_n 0, 1) := by decide +kernel
theorem dX3_pass_37 : decode cX3_pass 37 = .ok (.getfield 33, 3) := by decide +kernel
theorem dX3_pass_40 : decode cX3_pass 40 = .ok (.if_icmp .ge 67, 3) := by decide +kernel
theorem dX3_pass_43 : decode cX3_pass 43 = .ok (.aload_n 0, 1) := by decide +kernel
theorem dX3_pass_44 : decode cX3_pass 44 = .ok (.getfield 15, 3) := by decide +kernel
theorem dX3_pass_47 : decode cX3_pass 47 = .ok (.iload 4, 2) := by decide +kernel
theorem dX3_pass_49 : decode cX3_pass 49 = .ok (.iaload, 1) := by decide +kernel
theorem dX3_pass_50 : decode cX3_pass 50 = .ok (.aload_n 0, 1) := by decide +kernel
theorem dX3_pass_51 : decode cX3_pass 51 = .ok (.getfield 9, 3) := by decide +kernel
theorem dX3_pass_54 : decode cX3_pass 54 = .ok (.iload 4, 2) := by decide +kernel
theorem dX3_pass_56 : decode cX3_pass 56 = .ok (.iaload, 1) := by decide +kernel
theorem dX3_pass_57 : decode cX3_pass 57 = .ok (.invokestatic 90, 3) := by decide +kernel
theorem dX3_pass_60 : decode cX3_pass 60 = .ok (.aload_n 0, 1) := by decide +kernel
theorem dX3_pass_61 : decode cX3_pass 61 = .ok (.iload_n 1, 1) := by decide +kernel
theorem dX3_pass_62 : decode cX3_pass 62 = .ok (.iload 4, 2) := by decide +kernel
theorem dX3_pass_64 : decode cX3_pass 64 = .ok (.invokevirtual 100, 3) := by decide +kernel
theorem dX3_pass_67 : decode cX3_pass 67 = .ok (.invokestatic 90, 3) := by decide +kernel
theorem dX3_pass_70 : decode cX3_pass 70 = .ok (.istore 5, 2) := by decide +kernel
theorem dX3_pass_72 : decode cX3_pass 72 = .ok (.aload_n 0, 1) := by decide +kernel
theorem dX3_pass_73 : decode cX3_pass 73 = .ok (.getfield 9, 3) := by decide +kernel
theorem dX3_pass_76 : decode cX3_pass 76 = .ok (.iload 4, 2) := by decide +kernel
theorem dX3_pass_78 : decode cX3_pass 78 = .ok (.dup2, 1) := by decide +kernel
theorem dX3_pass_79 : decode cX3_pass 79 = .ok (.iaload, 1) := by decide +kernel
theorem dX3_pass_80 : decode cX3_pass 80 = .ok (.iload 5, 2) := by decide +kernel
theorem dX3_pass_82 : decode cX3_pass 82 = .ok (.isub, 1) := by decide +kernel
theorem dX3_pass_83 : decode cX3_pass 83 = .ok (.iastore, 1) := by decide +kernel
theorem dX3_pass_84 : decode cX3_pass 84 = .ok (.aload_n 0, 1) := by decide +kernel
theorem dX3_pass_85 : decode cX3_pass 85 = .ok (.getfield 24, 3) := by decide +kernel
theorem dX3_pass_88 : decode cX3_pass 88 = .ok (.iload 4, 2) := by decide +kernel
theorem dX3_pass_90 : decode cX3_pass 90 = .ok (.dup2, 1) := by decide +kernel
theorem dX3_pass_91 : decode cX3_pass 91 = .ok (.iaload, 1) := by decide +kernel
theorem dX3_pass_92 : decode cX3_pass 92 = .ok (.iload 5, 2) := by decide +kernel
theorem dX3_pass_94 : decode cX3_pass 94 = .ok (.iadd, 1) := by decide +kernel
theorem dX3_pass_95 : decode cX3_pass 95 = .ok (.iastore, 1) := by decide +kernel
theorem dX3_pass_96 : decode cX3_pass 96 = .ok (.iload_n 3, 1) := by decide +kernel
theorem dX3_pass_97 : decode cX3_pass 97 = .ok (.iload 5, 2) := by decide +kernel
theorem dX3_pass_99 : decode cX3_pass 99 = .ok (.iadd, 1) := by decide +kernel
theorem dX3_pass_100 : decode cX3_pass 100 = .ok (.istore_n 3, 1) := by decide +kernel
theorem dX3_pass_101 : decode cX3_pass 101 = .ok (.iinc 4 1, 3) := by decide +kernel
theorem dX3_pass_104 : decode cX3_pass 104 = .ok (.goto (-74), 3) := by decide +kernel
theorem dX3_pass_107 : decode cX3_pass 107 = .ok (.iload_n 3, 1) := by decide +kernel
theorem dX3_pass_108 : decode cX3_pass 108 = .ok (.ireturn, 1) := by decide +kernel
theorem dX3_passAll_0 : decode cX3_passAll 0 = .ok (.iconst 0, 1) := by decide +kernel
theorem dX3_passAll_1 : decode cX3_passAll 1 = .ok (.istore_n 2, 1) := by decide +kernel
theorem dX3_passAll_2 : decode cX3_passAll 2 = .ok (.iload_n 2, 1) := by decide +kernel
theorem dX3_passAll_3 : decode cX3_passAll 3 = .ok (.aload_n 1, 1) := by decide +kernel
theorem dX3_passAll_4 : decode cX3_passAll 4 = .ok (.getfield 116, 3) := by decide +kernel
theorem dX3_passAll_7 : decode cX3_passAll 7 = .ok (.if_icmp .ge 40, 3) := by decide +kernel
theorem dX3_passAll_10 : decode cX3_passAll 10 = .ok (.aload_n 1, 1) := by decide +kernel
theorem dX3_passAll_11 : decode cX3_passAll 11 = .ok (.iload_n 2, 1) := by decide +kernel
theorem dX3_passAll_12 : decode cX3_passAll 12 = .ok (.invokevirtual 121, 3) := by decide +kernel
theorem dX3_passAll_15 : decode cX3_passAll 15 = .ok (.lstore_n 3, 1) := by decide +kernel
theorem dX3_passAll_16 : decode cX3_passAll 16 = .ok (.aload_n 0, 1) := by decide +kernel
theorem dX3_passAll_17 : decode cX3_passAll 17 = .ok (.lload_n 3, 1) := by decide +kernel
theorem dX3_passAll_18 : decode cX3_passAll 18 = .ok (.invokevirtual 125, 3) := by decide +kernel
theorem dX3_passAll_21 : decode cX3_passAll 21 = .ok (.ifCond .eq 5, 3) := by decide +kernel
theorem dX3_passAll_24 : decode cX3_passAll 24 = .ok (.iload_n 2, 1) := by decide +kernel
theorem dX3_passAll_25 : decode cX3_passAll 25 = .ok (.ireturn, 1) := by decide +kernel
theorem dX3_passAll_26 : decode cX3_passAll 26 = .ok (.aload_n 0, 1) := by decide +kernel
theorem dX3_passAll_27 : decode cX3_passAll 27 = .ok (.aload_n 0, 1) := by decide +kernel
theorem dX3_passAll_28 : decode cX3_passAll 28 = .ok (.aload_n 0, 1) := by decide +kernel
theorem dX3_passAll_29 : decode cX3_passAll 29 = .ok (.getfield 43, 3) := by decide +kernel
theorem dX3_passAll_32 : decode cX3_passAll 32 = .ok (.lload_n 3, 1) := by decide +kernel
theorem dX3_passAll_33 : decode cX3_passAll 33 = .ok (.invokevirtual 112, 3) := by decide +kernel
theorem dX3_passAll_36 : decode cX3_passAll 36 = .ok (.iconst 1, 1) := by decide +kernel
theorem dX3_passAll_37 : decode cX3_passAll 37 = .ok (.invokevirtual 129, 3) := by decide +kernel
theorem dX3_passAll_40 : decode cX3_passAll 40 = .ok (.pop, 1) := by decide +kernel
theorem dX3_passAll_41 : decode cX3_passAll 41 = .ok (.iinc 2 1, 3) := by decide +kernel
theorem dX3_passAll_44 : decode cX3_passAll 44 = .ok (.goto (-42), 3) := by decide +kernel
theorem dX3_passAll_47 : decode cX3_passAll 47 = .ok (.aload_n 1, 1) := by decide +kernel
theorem dX3_passAll_48 : decode cX3_passAll 48 = .ok (.getfield 116, 3) := by decide +kernel
theorem dX3_passAll_51 : decode cX3_passAll 51 = .ok (.ireturn, 1) := by decide +kernel
theorem dX4_init_0 : decode cX4_init 0 = .ok (.aload_n 0, 1) := by decide +kernel
theorem dX4_init_1 : decode cX4_init 1 = .ok (.invokespecial 3, 3) := by decide +kernel
theorem dX4_init_4 : decode cX4_init 4 = .ok (.aload_n 0, 1) := by decide +kernel
theorem dX4_init_5 : decode cX4_init 5 = .ok (.iconst 1, 1) := by decide +kernel
theorem dX4_init_6 : decode cX4_init 6 = .ok (.putfield 9, 3) := by decide +kernel
theorem dX4_init_9 : decode cX4_init 9 = .ok (.aload_n 0, 1) := by decide +kernel
theorem dX4_init_10 : decode cX4_init 10 = .ok (.iconst 0, 1) := by decide +kernel
theorem dX4_init_11 : decode cX4_init 11 = .ok (.putfield 15, 3) := by decide +kernel
theorem dX4_init_14 : decode cX4_init 14 = .ok (.aload_n 0, 1) := by decide +kernel
theorem dX4_init_15 : decode cX4_init 15 = .ok (.iconst 0, 1) := by decide +kernel
theorem dX4_init_16 : decode cX4_init 16 = .ok (.putfield 19, 3) := by decide +kernel
theorem dX4_init_19 : decode cX4_init 19 = .ok (.aload_n 0, 1) := by decide +kernel
theorem dX4_init_20 : decode cX4_init 20 = .ok (.bipush 40, 2) := by decide +kernel
theorem dX4_init_22 : decode cX4_init 22 = .ok (.newarray .long, 2) := by decide +kernel
theorem dX4_init_24 : decode cX4_init 24 = .ok (.putfield 22, 3) := by decide +kernel
theorem dX4_init_27 : decode cX4_init 27 = .ok (.return_, 1) := by decide +kernel
theorem dX4_renew_0 : decode cX4_renew 0 = .ok (.aload_n 0, 1) := by decide +kernel
theorem dX4_renew_1 : decode cX4_renew 1 = .ok (.iconst 0, 1) := by decide +kernel
theorem dX4_renew_2 : decode cX4_renew 2 = .ok (.putfield 9, 3) := by decide +kernel
theorem dX4_renew_5 : decode cX4_renew 5 = .ok (.aload_n 0, 1) := by decide +kernel
theorem dX4_renew_6 : decode cX4_renew 6 = .ok (.iload_n 1, 1) := by decide +kernel
theorem dX4_renew_7 : decode cX4_renew 7 = .ok (.putfield 15, 3) := by decide +kernel
theorem dX4_renew_10 : decode cX4_renew 10 = .ok (.aload_n 0, 1) := by decide +kernel
theorem dX4_renew_11 : decode cX4_renew 11 = .ok (.iconst 0, 1) := by decide +kernel
theorem dX4_renew_12 : decode cX4_renew 12 = .ok (.iload_n 2, 1) := by decide +kernel
theorem dX4_renew_13 : decode cX4_renew 13 = .ok (.bipush 40, 2) := by decide +kernel
theorem dX4_renew_15 : decode cX4_renew 15 = .ok (.invokestatic 26, 3) := by decide +kernel
theorem dX4_renew_18 : decode cX4_renew 18 = .ok (.invokestatic 32, 3) := by decide +kernel
theorem dX4_renew_21 : decode cX4_renew 21 = .ok (.putfield 19, 3) := by decide +kernel
theorem dX4_renew_24 : decode cX4_renew 24 = .ok (.aload_n 0, 1) := by decide +kernel
theorem dX4_renew_25 : decode cX4_renew 25 = .ok (.getfield 22, 3) := by decide +kernel
theorem dX4_renew_28 : decode cX4_renew 28 = .ok (.lconst 0, 1) := by decide +kernel
theorem dX4_renew_29 : decode cX4_renew 29 = .ok (.invokestatic 35, 3) := by decide +kernel
theorem dX4_renew_32 : decode cX4_renew 32 = .ok (.return_, 1) := by decide +kernel
theorem dX4_valueAt_0 : decode cX4_valueAt 0 = .ok (.iload_n 1, 1) := by decide +kernel
theorem dX4_valueAt_1 : decode cX4_valueAt 1 = .ok (.ifCond .lt 20, 3) := by decide +kernel
theorem dX4_valueAt_4 : decode cX4_valueAt 4 = .ok (.iload_n 1, 1) := by decide +kernel
theorem dX4_valueAt_5 : decode cX4_valueAt 5 = .ok (.aload_n 0, 1) := by decide +kernel
theorem dX4_valueAt_6 : decode cX4_valueAt 6 = .ok (.getfield 19, 3) := by decide +kernel
theorem dX4_valueAt_9 : decode cX4_valueAt 9 = .ok (.if_icmp .ge 12, 3) := by decide +kernel
theorem dX4_valueAt_12 : decode cX4_valueAt 12 = .ok (.aload_n 0, 1) := by decide +kernel
theorem dX4_valueAt_13 : decode cX4_valueAt 13 = .ok (.getfield 22, 3) := by decide +kernel
theorem dX4_valueAt_16 : decode cX4_valueAt 16 = .ok (.iload_n 1, 1) := by decide +kernel
theorem dX4_valueAt_17 : decode cX4_valueAt 17 = .ok (.laload, 1) := by decide +kernel
theorem dX4_valueAt_18 : decode cX4_valueAt 18 = .ok (.goto 6, 3) := by decide +kernel
theorem dX4_valueAt_21 : decode cX4_valueAt 21 = .ok (.ldc2_w 41, 3) := by decide +kernel
theorem dX4_valueAt_24 : decode cX4_valueAt 24 = .ok (.lreturn, 1) := by decide +kernel
theorem dX4_put_0 : decode cX4_put 0 = .ok (.iload_n 1, 1) := by decide +kernel
theorem dX4_put_1 : decode cX4_put 1 = .ok (.ifCond .lt 11, 3) := by decide +kernel
theorem dX4_put_4 : decode cX4_put 4 = .ok (.iload_n 1, 1) := by decide +kernel
theorem dX4_put_5 : decode cX4_put 5 = .ok (.aload_n 0, 1) := by decide +kernel
theorem dX4_put_6 : decode cX4_put 6 = .ok (.getfield 19, 3) := by decide +kernel
theorem dX4_put_9 : decode cX4_put 9 = .ok (.if_icmp .lt 7, 3) := by decide +kernel
theorem dX4_put_12 : decode cX4_put 12 = .ok (.ldc2_w 43, 3) := by decide +kernel
theorem dX4_put_15 : decode cX4_put 15 = .ok (.lreturn, 1) := by decide +kernel
theorem dX4_put_16 : decode cX4_put 16 = .ok (.aload_n 0, 1) := by decide +kernel
theorem dX4_put_17 : decode cX4_put 17 = .ok (.getfield 22, 3) := by decide +kernel
theorem dX4_put_20 : decode cX4_put 20 = .ok (.iload_n 1, 1) := by decide +kernel
theorem dX4_put_21 : decode cX4_put 21 = .ok (.aload_n 0, 1) := by decide +kernel
theorem dX4_put_22 : decode cX4_put 22 = .ok (.lload_n 2, 1) := by decide +kernel
theorem dX4_put_23 : decode cX4_put 23 = .ok (.invokevirtual 45, 3) := by decide +kernel
theorem dX4_put_26 : decode cX4_put 26 = .ok (.lastore, 1) := by decide +kernel
theorem dX4_put_27 : decode cX4_put 27 = .ok (.aload_n 0, 1) := by decide +kernel
theorem dX4_put_28 : decode cX4_put 28 = .ok (.getfield 22, 3) := by decide +kernel
theorem dX4_put_31 : decode cX4_put 31 = .ok (.iload_n 1, 1) := by decide +kernel
theorem dX4_put_32 : decode cX4_put 32 = .ok (.laload, 1) := by decide +kernel
theorem dX4_put_33 : decode cX4_put 33 = .ok (.lreturn, 1) := by decide +kernel
theorem dX4_cut_0 : decode cX4_cut 0 = .ok (.aload_n 0, 1) := by decide +kernel
theorem dX4_cut_1 : decode cX4_cut 1 = .ok (.getfield 15, 3) := by decide +kernel
theorem dX4_cut_4 : decode cX4_cut 4 = .ok (.tableswitch 42 0 2 #[28, 33, 38], 28) := by decide +kernel
theorem dX4_cut_32 : decode cX4_cut 32 = .ok (.lload_n 1, 1) := by decide +kernel
theorem dX4_cut_33 : decode cX4_cut 33 = .ok (.l2i, 1) := by decide +kernel
theorem dX4_cut_34 : decode cX4_cut 34 = .ok (.i2b, 1) := by decide +kernel
theorem dX4_cut_35 : decode cX4_cut 35 = .ok (.i2l, 1) := by decide +kernel
theorem dX4_cut_36 : decode cX4_cut 36 = .ok (.lreturn, 1) := by decide +kernel
theorem dX4_cut_37 : decode cX4_cut 37 = .ok (.lload_n 1, 1) := by decide +kernel
theorem dX4_cut_38 : decode cX4_cut 38 = .ok (.l2i, 1) := by decide +kernel
theorem dX4_cut_39 : decode cX4_cut 39 = .ok (.i2s, 1) := by decide +kernel
theorem dX4_cut_40 : decode cX4_cut 40 = .ok (.i2l, 1) := by decide +kernel
theorem dX4_cut_41 : decode cX4_cut 41 = .ok (.lreturn, 1) := by decide +kernel
theorem dX4_cut_42 : decode cX4_cut 42 = .ok (.lload_n 1, 1) := by decide +kernel
theorem dX4_cut_43 : decode cX4_cut 43 = .ok (.l2i, 1) := by decide +kernel
theorem dX4_cut_44 : decode cX4_cut 44 = .ok (.i2l, 1) := by decide +kernel
theorem dX4_cut_45 : decode cX4_cut 45 = .ok (.lreturn, 1) := by decide +kernel
theorem dX4_cut_46 : decode cX4_cut 46 = .ok (.lload_n 1, 1) := by decide +kernel
theorem dX4_cut_47 : decode cX4_cut 47 = .ok (.lreturn, 1) := by decide +kernel
theorem dX5_init_0 : decode cX5_init 0 = .ok (.aload_n 0, 1) := by decide +kernel
theorem dX5_init_1 : decode cX5_init 1 = .ok (.invokespecial 3, 3) := by decide +kernel
theorem dX5_init_4 : decode cX5_init 4 = .ok (.aload_n 0, 1) := by decide +kernel
theorem dX5_init_5 : decode cX5_init 5 = .ok (.sipush 256, 3) := by decide +kernel
theorem dX5_init_8 : decode cX5_init 8 = .ok (.newarray .int, 2) := by decide +kernel
theorem dX5_init_10 : decode cX5_init 10 = .ok (.putfield 9, 3) := by decide +kernel
theorem dX5_init_13 : decode cX5_init 13 = .ok (.aload_n 0, 1) := by decide +kernel
theorem dX5_init_14 : decode cX5_init 14 = .ok (.sipush 256, 3) := by decide +kernel
theorem dX5_init_17 : decode cX5_init 17 = .ok (.newarray .int, 2) := by decide +kernel
theorem dX5_init_19 : decode cX5_init 19 = .ok (.putfield 15, 3) := by decide +kernel
theorem dX5_init_22 : decode cX5_init 22 = .ok (.aload_n 0, 1) := by decide +kernel
theorem dX5_init_23 : decode cX5_init 23 = .ok (.bipush 16, 2) := by decide +kernel
theorem dX5_init_25 : decode cX5_init 25 = .ok (.newarray .int, 2) := by decide +kernel
theorem dX5_init_27 : decode cX5_init 27 = .ok (.putfield 18, 3) := by decide +kernel
theorem dX5_init_30 : decode cX5_init 30 = .ok (.aload_n 0, 1) := by decide +kernel
theorem dX5_init_31 : decode cX5_init 31 = .ok (.bipush 16, 2) := by decide +kernel
theorem dX5_init_33 : decode cX5_init 33 = .ok (.newarray .int, 2) := by decide +kernel
theorem dX5_init_35 : decode cX5_init 35 = .ok (.putfield 21, 3) := by decide +kernel
theorem dX5_init_38 : decode cX5_init 38 = .ok (.aload_n 0, 1) := by decide +kernel
theorem dX5_init_39 : decode cX5_init 39 = .ok (.sipush 256, 3) := by decide +kernel
theorem dX5_init_42 : decode cX5_init 42 = .ok (.newarray .int, 2) := by decide +kernel
theorem dX5_init_44 : decode cX5_init 44 = .ok (.putfield 24, 3) := by decide +kernel
theorem dX5_init_47 : decode cX5_init 47 = .ok (.return_, 1) := by decide +kernel
theorem dX5_seekAll_0 : decode cX5_seekAll 0 = .ok (.aload_n 1, 1) := by decide +kernel
theorem dX5_seekAll_1 : decode cX5_seekAll 1 = .ok (.aload_n 0, 1) := by decide +kernel
theorem dX5_seekAll_2 : decode cX5_seekAll 2 = .ok (.getfield 9, 3) := by decide +kernel
theorem dX5_seekAll_5 : decode cX5_seekAll 5 = .ok (.iconst (-1), 1) := by decide +kernel
theorem dX5_seekAll_6 : decode cX5_seekAll 6 = .ok (.invokevirtual 27, 3) := by decide +kernel
theorem dX5_seekAll_9 : decode cX5_seekAll 9 = .ok (.aload_n 1, 1) := by decide +kernel
theorem dX5_seekAll_10 : decode cX5_seekAll 10 = .ok (.aload_n 0, 1) := by decide +kernel
theorem dX5_seekAll_11 : decode cX5_seekAll 11 = .ok (.getfield 15, 3) := by decide +kernel
theorem dX5_seekAll_14 : decode cX5_seekAll 14 = .ok (.iconst 1, 1) := by decide +kernel
theorem dX5_seekAll_15 : decode cX5_seekAll 15 = .ok (.invokevirtual 27, 3) := by decide +kernel
theorem dX5_seekAll_18 : decode cX5_seekAll 18 = .ok (.aload_n 0, 1) := by decide +kernel
theorem dX5_seekAll_19 : decode cX5_seekAll 19 = .ok (.getfield 24, 3) := by decide +kernel
theorem dX5_seekAll_22 : decode cX5_seekAll 22 = .ok (.iconst 0, 1) := by decide +kernel
theorem dX5_seekAll_23 : decode cX5_seekAll 23 = .ok (.invokestatic 33, 3) := by decide +kernel
theorem dX5_seekAll_26 : decode cX5_seekAll 26 = .ok (.aload_n 2, 1) := by decide +kernel
theorem dX5_seekAll_27 : decode cX5_seekAll 27 = .ok (.iload_n 3, 1) := by decide +kernel
theorem dX5_seekAll_28 : decode cX5_seekAll 28 = .ok (.invokevirtual 38, 3) := by decide +kernel
theorem dX5_seekAll_31 : decode cX5_seekAll 31 = .ok (.istore 4, 2) := by decide +kernel
theorem dX5_seekAll_33 : decode cX5_seekAll 33 = .ok (.aload_n 2, 1) := by decide +kernel
theorem dX5_seekAll_34 : decode cX5_seekAll 34 = .ok (.iload_n 3, 1) := by decide +kernel
theorem dX5_seekAll_35 : decode cX5_seekAll 35 = .ok (.invokevirtual 44, 3) := by decide +kernel
theorem dX5_seekAll_38 : decode cX5_seekAll 38 = .ok (.istore 5, 2) := by decide +kernel
theorem dX5_seekAll_40 : decode cX5_seekAll 40 = .ok (.iload 5, 2) := by decide +kernel
theorem dX5_seekAll_42 : decode cX5_seekAll 42 = .ok (.iload 4, 2) := by decide +kernel
theorem dX5_seekAll_44 : decode cX5_seekAll 44 = .ok (.if_icmp .ge 35, 3) := by decide +kernel
theorem dX5_seekAll_47 : decode cX5_seekAll 47 = .ok (.aload_n 2, 1) := by decide +kernel
theorem dX5_seekAll_48 : decode cX5_seekAll 48 = .ok (.getfield 47, 3) := by decide +kernel
theorem dX5_seekAll_51 : decode cX5_seekAll 51 = .ok (.iload 5, 2) := by decide +kernel
theorem dX5_seekAll_53 : decode cX5_seekAll 53 = .ok (.baload, 1) := by decide +kernel
theorem dX5_seekAll_54 : decode cX5_seekAll 54 = .ok (.ifCond .ne 19, 3) := by decide +kernel
theorem dX5_seekAll_57 : decode cX5_seekAll 57 = .ok (.aload_n 1, 1) := by decide +kernel
theorem dX5_seekAll_58 : decode cX5_seekAll 58 = .ok (.aload_n 2, 1) := by decide +kernel
theorem dX5_seekAll_59 : decode cX5_seekAll 59 = .ok (.getfield 51, 3) := by decide +kernel
theorem dX5_seekAll_62 : decode cX5_seekAll 62 = .ok (.iload 5, 2) := by decide +kernel
theorem dX5_seekAll_64 : decode cX5_seekAll 64 = .ok (.laload, 1) := by decide +kernel
theorem dX5_seekAll_65 : decode cX5_seekAll 65 = .ok (.invokevirtual 55, 3) := by decide +kernel
theorem dX5_seekAll_68 : decode cX5_seekAll 68 = .ok (.aload_n 0, 1) := by decide +kernel
theorem dX5_seekAll_69 : decode cX5_seekAll 69 = .ok (.aload_n 1, 1) := by decide +kernel
theorem dX5_seekAll_70 : decode cX5_seekAll 70 = .ok (.invokevirtual 59, 3) := by decide +kernel
theorem dX5_seekAll_73 : decode cX5_seekAll 73 = .ok (.iinc 5 1, 3) := by decide +kernel
theorem dX5_seekAll_76 : decode cX5_seekAll 76 = .ok (.goto (-36), 3) := by decide +kernel
theorem dX5_seekAll_79 : decode cX5_seekAll 79 = .ok (.return_, 1) := by decide +kernel
theorem dX5_weigh_0 : decode cX5_weigh 0 = .ok (.aload_n 1, 1) := by decide +kernel
theorem dX5_weigh_1 : decode cX5_weigh 1 = .ok (.getfield 63, 3) := by decide +kernel
theorem dX5_weigh_4 : decode cX5_weigh 4 = .ok (.getfield 67, 3) := by decide +kernel
theorem dX5_weigh_7 : decode cX5_weigh 7 = .ok (.istore_n 2, 1) := by decide +kernel
theorem dX5_weigh_8 : decode cX5_weigh 8 = .ok (.iconst 0, 1) := by decide +kernel
theorem dX5_weigh_9 : decode cX5_weigh 9 = .ok (.istore_n 3, 1) := by decide +kernel
theorem dX5_weigh_10 : decode cX5_weigh 10 = .ok (.iconst 0, 1) := by decide +kernel
theorem dX5_weigh_11 : decode cX5_weigh 11 = .ok (.istore 4, 2) := by decide +kernel
theorem dX5_weigh_13 : decode cX5_weigh 13 = .ok (.iload 4, 2) := by decide +kernel
theorem dX5_weigh_15 : decode cX5_weigh 15 = .ok (.iload_n 2, 1) := by decide +kernel
theorem dX5_weigh_16 : decode cX5_weigh 16 = .ok (.if_icmp .ge 66, 3) := by decide +kernel
theorem dX5_weigh_19 : decode cX5_weigh 19 = .ok (.aload_n 1, 1) := by decide +kernel
theorem dX5_weigh_20 : decode cX5_weigh 20 = .ok (.aload_n 1, 1) := by decide +kernel
theorem dX5_weigh_21 : decode cX5_weigh 21 = .ok (.getfield 73, 3) := by decide +kernel
theorem dX5_weigh_24 : decode cX5_weigh 24 = .ok (.iload 4, 2) := by decide +kernel
theorem dX5_weigh_26 : decode cX5_weigh 26 = .ok (.invokevirtual 76, 3) := by decide +kernel
theorem dX5_weigh_29 : decode cX5_weigh 29 = .ok (.istore 5, 2) := by decide +kernel
theorem dX5_weigh_31 : decode cX5_weigh 31 = .ok (.aload_n 0, 1) := by decide +kernel
theorem dX5_weigh_32 : decode cX5_weigh 32 = .ok (.getfield 18, 3) := by decide +kernel
theorem dX5_weigh_35 : decode cX5_weigh 35 = .ok (.iload 4, 2) := by decide +kernel
theorem dX5_weigh_37 : decode cX5_weigh 37 = .ok (.aload_n 1, 1) := by decide +kernel
theorem dX5_weigh_38 : decode cX5_weigh 38 = .ok (.aload_n 0, 1) := by decide +kernel
theorem dX5_weigh_39 : decode cX5_weigh 39 = .ok (.getfield 9, 3) := by decide +kernel
theorem dX5_weigh_42 : decode cX5_weigh 42 = .ok (.iload 4, 2) := by decide +kernel
theorem dX5_weigh_44 : decode cX5_weigh 44 = .ok (.invokevirtual 76, 3) := by decide +kernel
theorem dX5_weigh_47 : decode cX5_weigh 47 = .ok (.iload 5, 2) := by decide +kernel
theorem dX5_weigh_49 : decode cX5_weigh 49 = .ok (.isub, 1) := by decide +kernel
theorem dX5_weigh_50 : decode cX5_weigh 50 = .ok (.iastore, 1) := by decide +kernel
theorem dX5_weigh_51 : decode cX5_weigh 51 = .ok (.aload_n 0, 1) := by decide +kernel
theorem dX5_weigh_52 : decode cX5_weigh 52 = .ok (.getfield 21, 3) := by decide +kernel
theorem dX5_weigh_55 : decode cX5_weigh 55 = .ok (.iload 4, 2) := by decide +kernel
theorem dX5_weigh_57 : decode cX5_weigh 57 = .ok (.aload_n 1, 1) := by decide +kernel
theorem dX5_weigh_58 : decode cX5_weigh 58 = .ok (.aload_n 0, 1) := by decide +kernel
theorem dX5_weigh_59 : decode cX5_weigh 59 = .ok (.getfield 15, 3) := by decide +kernel
theorem dX5_weigh_62 : decode cX5_weigh 62 = .ok (.iload 4, 2) := by decide +kernel
theorem dX5_weigh_64 : decode cX5_weigh 64 = .ok (.invokevirtual 76, 3) := by decide +kernel
theorem dX5_weigh_67 : decode cX5_weigh 67 = .ok (.iload 5, 2) := by decide +kernel
theorem dX5_weigh_69 : decode cX5_weigh 69 = .ok (.isub, 1) := by decide +kernel
theorem dX5_weigh_70 : decode cX5_weigh 70 = .ok (.iastore, 1) := by decide +kernel
theorem dX5_weigh_71 : decode cX5_weigh 71 = .ok (.iload_n 3, 1) := by decide +kernel
theorem dX5_weigh_72 : decode cX5_weigh 72 = .ok (.iload 5, 2) := by decide +kernel
theorem dX5_weigh_74 : decode cX5_weigh 74 = .ok (.iadd, 1) := by decide +kernel
