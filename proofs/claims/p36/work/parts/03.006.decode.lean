theorem dX3_sumOfFarm_3 : decode cX3_sumOfFarm 3 = .ok (.istore 4, 2) := by decide +kernel
theorem dX3_sumOfFarm_5 : decode cX3_sumOfFarm 5 = .ok (.iload 4, 2) := by decide +kernel
theorem dX3_sumOfFarm_7 : decode cX3_sumOfFarm 7 = .ok (.aload_n 0, 1) := by decide +kernel
theorem dX3_sumOfFarm_8 : decode cX3_sumOfFarm 8 = .ok (.getfield 33, 3) := by decide +kernel
theorem dX3_sumOfFarm_11 : decode cX3_sumOfFarm 11 = .ok (.if_icmp .ge 27, 3) := by decide +kernel
theorem dX3_sumOfFarm_14 : decode cX3_sumOfFarm 14 = .ok (.aload_n 0, 1) := by decide +kernel
theorem dX3_sumOfFarm_15 : decode cX3_sumOfFarm 15 = .ok (.getfield 21, 3) := by decide +kernel
theorem dX3_sumOfFarm_18 : decode cX3_sumOfFarm 18 = .ok (.iload 4, 2) := by decide +kernel
theorem dX3_sumOfFarm_20 : decode cX3_sumOfFarm 20 = .ok (.iaload, 1) := by decide +kernel
theorem dX3_sumOfFarm_21 : decode cX3_sumOfFarm 21 = .ok (.iload_n 2, 1) := by decide +kernel
theorem dX3_sumOfFarm_22 : decode cX3_sumOfFarm 22 = .ok (.if_icmp .ne 10, 3) := by decide +kernel
theorem dX3_sumOfFarm_25 : decode cX3_sumOfFarm 25 = .ok (.iload_n 3, 1) := by decide +kernel
theorem dX3_sumOfFarm_26 : decode cX3_sumOfFarm 26 = .ok (.aload_n 1, 1) := by decide +kernel
theorem dX3_sumOfFarm_27 : decode cX3_sumOfFarm 27 = .ok (.iload 4, 2) := by decide +kernel
theorem dX3_sumOfFarm_29 : decode cX3_sumOfFarm 29 = .ok (.iaload, 1) := by decide +kernel
theorem dX3_sumOfFarm_30 : decode cX3_sumOfFarm 30 = .ok (.iadd, 1) := by decide +kernel
theorem dX3_sumOfFarm_31 : decode cX3_sumOfFarm 31 = .ok (.istore_n 3, 1) := by decide +kernel
theorem dX3_sumOfFarm_32 : decode cX3_sumOfFarm 32 = .ok (.iinc 4 1, 3) := by decide +kernel
theorem dX3_sumOfFarm_35 : decode cX3_sumOfFarm 35 = .ok (.goto (-30), 3) := by decide +kernel
theorem dX3_sumOfFarm_38 : decode cX3_sumOfFarm 38 = .ok (.iload_n 3, 1) := by decide +kernel
theorem dX3_sumOfFarm_39 : decode cX3_sumOfFarm 39 = .ok (.ireturn, 1) := by decide +kernel
theorem dX3_stripsOfFarm_0 : decode cX3_stripsOfFarm 0 = .ok (.iconst 0, 1) := by decide +kernel
theorem dX3_stripsOfFarm_1 : decode cX3_stripsOfFarm 1 = .ok (.istore_n 2, 1) := by decide +kernel
theorem dX3_stripsOfFarm_2 : decode cX3_stripsOfFarm 2 = .ok (.iconst 0, 1) := by decide +kernel
theorem dX3_stripsOfFarm_3 : decode cX3_stripsOfFarm 3 = .ok (.istore_n 3, 1) := by decide +kernel
theorem dX3_stripsOfFarm_4 : decode cX3_stripsOfFarm 4 = .ok (.iload_n 3, 1) := by decide +kernel
theorem dX3_stripsOfFarm_5 : decode cX3_stripsOfFarm 5 = .ok (.aload_n 0, 1) := by decide +kernel
theorem dX3_stripsOfFarm_6 : decode cX3_stripsOfFarm 6 = .ok (.getfield 33, 3) := by decide +kernel
theorem dX3_stripsOfFarm_9 : decode cX3_stripsOfFarm 9 = .ok (.if_icmp .ge 25, 3) := by decide +kernel
theorem dX3_stripsOfFarm_12 : decode cX3_stripsOfFarm 12 = .ok (.aload_n 0, 1) := by decide +kernel
theorem dX3_stripsOfFarm_13 : decode cX3_stripsOfFarm 13 = .ok (.getfield 21, 3) := by decide +kernel
theorem dX3_stripsOfFarm_16 : decode cX3_stripsOfFarm 16 = .ok (.iload_n 3, 1) := by decide +kernel
theorem dX3_stripsOfFarm_17 : decode cX3_stripsOfFarm 17 = .ok (.iaload, 1) := by decide +kernel
theorem dX3_stripsOfFarm_18 : decode cX3_stripsOfFarm 18 = .ok (.iload_n 1, 1) := by decide +kernel
theorem dX3_stripsOfFarm_19 : decode cX3_stripsOfFarm 19 = .ok (.if_icmp .ne 9, 3) := by decide +kernel
theorem dX3_stripsOfFarm_22 : decode cX3_stripsOfFarm 22 = .ok (.iload_n 2, 1) := by decide +kernel
theorem dX3_stripsOfFarm_23 : decode cX3_stripsOfFarm 23 = .ok (.iconst 1, 1) := by decide +kernel
theorem dX3_stripsOfFarm_24 : decode cX3_stripsOfFarm 24 = .ok (.iload_n 3, 1) := by decide +kernel
theorem dX3_stripsOfFarm_25 : decode cX3_stripsOfFarm 25 = .ok (.ishl, 1) := by decide +kernel
theorem dX3_stripsOfFarm_26 : decode cX3_stripsOfFarm 26 = .ok (.ior, 1) := by decide +kernel
theorem dX3_stripsOfFarm_27 : decode cX3_stripsOfFarm 27 = .ok (.istore_n 2, 1) := by decide +kernel
theorem dX3_stripsOfFarm_28 : decode cX3_stripsOfFarm 28 = .ok (.iinc 3 1, 3) := by decide +kernel
theorem dX3_stripsOfFarm_31 : decode cX3_stripsOfFarm 31 = .ok (.goto (-27), 3) := by decide +kernel
theorem dX3_stripsOfFarm_34 : decode cX3_stripsOfFarm 34 = .ok (.iload_n 2, 1) := by decide +kernel
theorem dX3_stripsOfFarm_35 : decode cX3_stripsOfFarm 35 = .ok (.ireturn, 1) := by decide +kernel
theorem dX3_unshadedLight_0 : decode cX3_unshadedLight 0 = .ok (.iconst 0, 1) := by decide +kernel
theorem dX3_unshadedLight_1 : decode cX3_unshadedLight 1 = .ok (.aload_n 0, 1) := by decide +kernel
theorem dX3_unshadedLight_2 : decode cX3_unshadedLight 2 = .ok (.getfield 49, 3) := by decide +kernel
theorem dX3_unshadedLight_5 : decode cX3_unshadedLight 5 = .ok (.aload_n 0, 1) := by decide +kernel
theorem dX3_unshadedLight_6 : decode cX3_unshadedLight 6 = .ok (.getfield 52, 3) := by decide +kernel
theorem dX3_unshadedLight_9 : decode cX3_unshadedLight 9 = .ok (.iload_n 1, 1) := by decide +kernel
theorem dX3_unshadedLight_10 : decode cX3_unshadedLight 10 = .ok (.iload_n 2, 1) := by decide +kernel
theorem dX3_unshadedLight_11 : decode cX3_unshadedLight 11 = .ok (.isub, 1) := by decide +kernel
theorem dX3_unshadedLight_12 : decode cX3_unshadedLight 12 = .ok (.invokestatic 80, 3) := by decide +kernel
theorem dX3_unshadedLight_15 : decode cX3_unshadedLight 15 = .ok (.imul, 1) := by decide +kernel
theorem dX3_unshadedLight_16 : decode cX3_unshadedLight 16 = .ok (.isub, 1) := by decide +kernel
theorem dX3_unshadedLight_17 : decode cX3_unshadedLight 17 = .ok (.invokestatic 86, 3) := by decide +kernel
theorem dX3_unshadedLight_20 : decode cX3_unshadedLight 20 = .ok (.ireturn, 1) := by decide +kernel
theorem dX3_isShaded_0 : decode cX3_isShaded 0 = .ok (.iload_n 1, 1) := by decide +kernel
theorem dX3_isShaded_1 : decode cX3_isShaded 1 = .ok (.iload_n 2, 1) := by decide +kernel
theorem dX3_isShaded_2 : decode cX3_isShaded 2 = .ok (.isub, 1) := by decide +kernel
theorem dX3_isShaded_3 : decode cX3_isShaded 3 = .ok (.invokestatic 80, 3) := by decide +kernel
theorem dX3_isShaded_6 : decode cX3_isShaded 6 = .ok (.istore_n 3, 1) := by decide +kernel
theorem dX3_isShaded_7 : decode cX3_isShaded 7 = .ok (.iload_n 1, 1) := by decide +kernel
theorem dX3_isShaded_8 : decode cX3_isShaded 8 = .ok (.iload_n 2, 1) := by decide +kernel
theorem dX3_isShaded_9 : decode cX3_isShaded 9 = .ok (.invokestatic 86, 3) := by decide +kernel
theorem dX3_isShaded_12 : decode cX3_isShaded 12 = .ok (.istore 4, 2) := by decide +kernel
theorem dX3_isShaded_14 : decode cX3_isShaded 14 = .ok (.iload_n 1, 1) := by decide +kernel
theorem dX3_isShaded_15 : decode cX3_isShaded 15 = .ok (.iload_n 2, 1) := by decide +kernel
theorem dX3_isShaded_16 : decode cX3_isShaded 16 = .ok (.invokestatic 90, 3) := by decide +kernel
theorem dX3_isShaded_19 : decode cX3_isShaded 19 = .ok (.iconst 1, 1) := by decide +kernel
theorem dX3_isShaded_20 : decode cX3_isShaded 20 = .ok (.iadd, 1) := by decide +kernel
theorem dX3_isShaded_21 : decode cX3_isShaded 21 = .ok (.istore 5, 2) := by decide +kernel
theorem dX3_isShaded_23 : decode cX3_isShaded 23 = .ok (.iload 5, 2) := by decide +kernel
theorem dX3_isShaded_25 : decode cX3_isShaded 25 = .ok (.iload 4, 2) := by decide +kernel
theorem dX3_isShaded_27 : decode cX3_isShaded 27 = .ok (.if_icmp .ge 35, 3) := by decide +kernel
theorem dX3_isShaded_30 : decode cX3_isShaded 30 = .ok (.aload_n 0, 1) := by decide +kernel
theorem dX3_isShaded_31 : decode cX3_isShaded 31 = .ok (.getfield 18, 3) := by decide +kernel
theorem dX3_isShaded_34 : decode cX3_isShaded 34 = .ok (.iload 5, 2) := by decide +kernel
theorem dX3_isShaded_36 : decode cX3_isShaded 36 = .ok (.iaload, 1) := by decide +kernel
theorem dX3_isShaded_37 : decode cX3_isShaded 37 = .ok (.iload_n 3, 1) := by decide +kernel
theorem dX3_isShaded_38 : decode cX3_isShaded 38 = .ok (.imul, 1) := by decide +kernel
theorem dX3_isShaded_39 : decode cX3_isShaded 39 = .ok (.aload_n 0, 1) := by decide +kernel
theorem dX3_isShaded_40 : decode cX3_isShaded 40 = .ok (.getfield 46, 3) := by decide +kernel
theorem dX3_isShaded_43 : decode cX3_isShaded 43 = .ok (.iload 5, 2) := by decide +kernel
theorem dX3_isShaded_45 : decode cX3_isShaded 45 = .ok (.iload_n 2, 1) := by decide +kernel
theorem dX3_isShaded_46 : decode cX3_isShaded 46 = .ok (.isub, 1) := by decide +kernel
theorem dX3_isShaded_47 : decode cX3_isShaded 47 = .ok (.invokestatic 80, 3) := by decide +kernel
theorem dX3_isShaded_50 : decode cX3_isShaded 50 = .ok (.imul, 1) := by decide +kernel
theorem dX3_isShaded_51 : decode cX3_isShaded 51 = .ok (.if_icmp .le 5, 3) := by decide +kernel
theorem dX3_isShaded_54 : decode cX3_isShaded 54 = .ok (.iconst 1, 1) := by decide +kernel
theorem dX3_isShaded_55 : decode cX3_isShaded 55 = .ok (.ireturn, 1) := by decide +kernel
theorem dX3_isShaded_56 : decode cX3_isShaded 56 = .ok (.iinc 5 1, 3) := by decide +kernel
theorem dX3_isShaded_59 : decode cX3_isShaded 59 = .ok (.goto (-36), 3) := by decide +kernel
theorem dX3_isShaded_62 : decode cX3_isShaded 62 = .ok (.iconst 0, 1) := by decide +kernel
theorem dX3_isShaded_63 : decode cX3_isShaded 63 = .ok (.ireturn, 1) := by decide +kernel
theorem dX3_lightOf_0 : decode cX3_lightOf 0 = .ok (.aload_n 0, 1) := by decide +kernel
theorem dX3_lightOf_1 : decode cX3_lightOf 1 = .ok (.iload_n 1, 1) := by decide +kernel
theorem dX3_lightOf_2 : decode cX3_lightOf 2 = .ok (.iload_n 2, 1) := by decide +kernel
theorem dX3_lightOf_3 : decode cX3_lightOf 3 = .ok (.invokevirtual 93, 3) := by decide +kernel
theorem dX3_lightOf_6 : decode cX3_lightOf 6 = .ok (.istore_n 3, 1) := by decide +kernel
theorem dX3_lightOf_7 : decode cX3_lightOf 7 = .ok (.iload_n 3, 1) := by decide +kernel
theorem dX3_lightOf_8 : decode cX3_lightOf 8 = .ok (.ifCond .le 16, 3) := by decide +kernel
theorem dX3_lightOf_11 : decode cX3_lightOf 11 = .ok (.aload_n 0, 1) := by decide +kernel
theorem dX3_lightOf_12 : decode cX3_lightOf 12 = .ok (.iload_n 1, 1) := by decide +kernel
theorem dX3_lightOf_13 : decode cX3_lightOf 13 = .ok (.iload_n 2, 1) := by decide +kernel
theorem dX3_lightOf_14 : decode cX3_lightOf 14 = .ok (.invokevirtual 96, 3) := by decide +kernel
theorem dX3_lightOf_17 : decode cX3_lightOf 17 = .ok (.ifCond .eq 7, 3) := by decide +kernel
theorem dX3_lightOf_20 : decode cX3_lightOf 20 = .ok (.iconst 0, 1) := by decide +kernel
theorem dX3_lightOf_21 : decode cX3_lightOf 21 = .ok (.goto 4, 3) := by decide +kernel
theorem dX3_lightOf_24 : decode cX3_lightOf 24 = .ok (.iload_n 3, 1) := by decide +kernel
theorem dX3_lightOf_25 : decode cX3_lightOf 25 = .ok (.ireturn, 1) := by decide +kernel
theorem dX3_litFrom_0 : decode cX3_litFrom 0 = .ok (.iconst 0, 1) := by decide +kernel
theorem dX3_litFrom_1 : decode cX3_litFrom 1 = .ok (.istore_n 2, 1) := by decide +kernel
theorem dX3_litFrom_2 : decode cX3_litFrom 2 = .ok (.iconst 0, 1) := by decide +kernel
theorem dX3_litFrom_3 : decode cX3_litFrom 3 = .ok (.istore_n 3, 1) := by decide +kernel
theorem dX3_litFrom_4 : decode cX3_litFrom 4 = .ok (.iload_n 3, 1) := by decide +kernel
theorem dX3_litFrom_5 : decode cX3_litFrom 5 = .ok (.aload_n 0, 1) := by decide +kernel
theorem dX3_litFrom_6 : decode cX3_litFrom 6 = .ok (.getfield 33, 3) := by decide +kernel
theorem dX3_litFrom_9 : decode cX3_litFrom 9 = .ok (.if_icmp .ge 24, 3) := by decide +kernel
theorem dX3_litFrom_12 : decode cX3_litFrom 12 = .ok (.aload_n 0, 1) := by decide +kernel
theorem dX3_litFrom_13 : decode cX3_litFrom 13 = .ok (.iload_n 1, 1) := by decide +kernel
theorem dX3_litFrom_14 : decode cX3_litFrom 14 = .ok (.iload_n 3, 1) := by decide +kernel
theorem dX3_litFrom_15 : decode cX3_litFrom 15 = .ok (.invokevirtual 100, 3) := by decide +kernel
theorem dX3_litFrom_18 : decode cX3_litFrom 18 = .ok (.ifCond .le 9, 3) := by decide +kernel
theorem dX3_litFrom_21 : decode cX3_litFrom 21 = .ok (.iload_n 2, 1) := by decide +kernel
theorem dX3_litFrom_22 : decode cX3_litFrom 22 = .ok (.iconst 1, 1) := by decide +kernel
theorem dX3_litFrom_23 : decode cX3_litFrom 23 = .ok (.iload_n 3, 1) := by decide +kernel
theorem dX3_litFrom_24 : decode cX3_litFrom 24 = .ok (.ishl, 1) := by decide +kernel
theorem dX3_litFrom_25 : decode cX3_litFrom 25 = .ok (.ior, 1) := by decide +kernel
theorem dX3_litFrom_26 : decode cX3_litFrom 26 = .ok (.istore_n 2, 1) := by decide +kernel
theorem dX3_litFrom_27 : decode cX3_litFrom 27 = .ok (.iinc 3 1, 3) := by decide +kernel
theorem dX3_litFrom_30 : decode cX3_litFrom 30 = .ok (.goto (-26), 3) := by decide +kernel
theorem dX3_litFrom_33 : decode cX3_litFrom 33 = .ok (.iload_n 2, 1) := by decide +kernel
theorem dX3_litFrom_34 : decode cX3_litFrom 34 = .ok (.ireturn, 1) := by decide +kernel
theorem dX3_shadedFrom_0 : decode cX3_shadedFrom 0 = .ok (.iconst 0, 1) := by decide +kernel
theorem dX3_shadedFrom_1 : decode cX3_shadedFrom 1 = .ok (.istore_n 2, 1) := by decide +kernel
theorem dX3_shadedFrom_2 : decode cX3_shadedFrom 2 = .ok (.iconst 0, 1) := by decide +kernel
theorem dX3_shadedFrom_3 : decode cX3_shadedFrom 3 = .ok (.istore_n 3, 1) := by decide +kernel
theorem dX3_shadedFrom_4 : decode cX3_shadedFrom 4 = .ok (.iload_n 3, 1) := by decide +kernel
theorem dX3_shadedFrom_5 : decode cX3_shadedFrom 5 = .ok (.aload_n 0, 1) := by decide +kernel
theorem dX3_shadedFrom_6 : decode cX3_shadedFrom 6 = .ok (.getfield 33, 3) := by decide +kernel
theorem dX3_shadedFrom_9 : decode cX3_shadedFrom 9 = .ok (.if_icmp .ge 33, 3) := by decide +kernel
theorem dX3_shadedFrom_12 : decode cX3_shadedFrom 12 = .ok (.aload_n 0, 1) := by decide +kernel
theorem dX3_shadedFrom_13 : decode cX3_shadedFrom 13 = .ok (.iload_n 1, 1) := by decide +kernel
theorem dX3_shadedFrom_14 : decode cX3_shadedFrom 14 = .ok (.iload_n 3, 1) := by decide +kernel
theorem dX3_shadedFrom_15 : decode cX3_shadedFrom 15 = .ok (.invokevirtual 93, 3) := by decide +kernel
theorem dX3_shadedFrom_18 : decode cX3_shadedFrom 18 = .ok (.ifCond .le 18, 3) := by decide +kernel
theorem dX3_shadedFrom_21 : decode cX3_shadedFrom 21 = .ok (.aload_n 0, 1) := by decide +kernel
theorem dX3_shadedFrom_22 : decode cX3_shadedFrom 22 = .ok (.iload_n 1, 1) := by decide +kernel
theorem dX3_shadedFrom_23 : decode cX3_shadedFrom 23 = .ok (.iload_n 3, 1) := by decide +kernel
theorem dX3_shadedFrom_24 : decode cX3_shadedFrom 24 = .ok (.invokevirtual 96, 3) := by decide +kernel
theorem dX3_shadedFrom_27 : decode cX3_shadedFrom 27 = .ok (.ifCond .eq 9, 3) := by decide +kernel
theorem dX3_shadedFrom_30 : decode cX3_shadedFrom 30 = .ok (.iload_n 2, 1) := by decide +kernel
theorem dX3_shadedFrom_31 : decode cX3_shadedFrom 31 = .ok (.iconst 1, 1) := by decide +kernel
theorem dX3_shadedFrom_32 : decode cX3_shadedFrom 32 = .ok (.iload_n 3, 1) := by decide +kernel
theorem dX3_shadedFrom_33 : decode cX3_shadedFrom 33 = .ok (.ishl, 1) := by decide +kernel
theorem dX3_shadedFrom_34 : decode cX3_shadedFrom 34 = .ok (.ior, 1) := by decide +kernel
theorem dX3_shadedFrom_35 : decode cX3_shadedFrom 35 = .ok (.istore_n 2, 1) := by decide +kernel
theorem dX3_shadedFrom_36 : decode cX3_shadedFrom 36 = .ok (.iinc 3 1, 3) := by decide +kernel
theorem dX3_shadedFrom_39 : decode cX3_shadedFrom 39 = .ok (.goto (-35), 3) := by decide +kernel
theorem dX3_shadedFrom_42 : decode cX3_shadedFrom 42 = .ok (.iload_n 2, 1) := by decide +kernel
theorem dX3_shadedFrom_43 : decode cX3_shadedFrom 43 = .ok (.ireturn, 1) := by decide +kernel
theorem dX3_leastHeight_0 : decode cX3_leastHeight 0 = .ok (.aload_n 0, 1) := by decide +kernel
theorem dX3_leastHeight_1 : decode cX3_leastHeight 1 = .ok (.iload_n 1, 1) := by decide +kernel
theorem dX3_leastHeight_2 : decode cX3_leastHeight 2 = .ok (.iload_n 2, 1) := by decide +kernel
theorem dX3_leastHeight_3 : decode cX3_leastHeight 3 = .ok (.invokevirtual 93, 3) := by decide +kernel
theorem dX3_leastHeight_6 : decode cX3_leastHeight 6 = .ok (.ifCond .ne 5, 3) := by decide +kernel
theorem dX3_leastHeight_9 : decode cX3_leastHeight 9 = .ok (.iconst (-1), 1) := by decide +kernel
theorem dX3_leastHeight_10 : decode cX3_leastHeight 10 = .ok (.ireturn, 1) := by decide +kernel
theorem dX3_leastHeight_11 : decode cX3_leastHeight 11 = .ok (.iconst 1, 1) := by decide +kernel
theorem dX3_leastHeight_12 : decode cX3_leastHeight 12 = .ok (.istore_n 3, 1) := by decide +kernel
theorem dX3_leastHeight_13 : decode cX3_leastHeight 13 = .ok (.iload_n 1, 1) := by decide +kernel
theorem dX3_leastHeight_14 : decode cX3_leastHeight 14 = .ok (.iload_n 2, 1) := by decide +kernel
theorem dX3_leastHeight_15 : decode cX3_leastHeight 15 = .ok (.isub, 1) := by decide +kernel
theorem dX3_leastHeight_16 : decode cX3_leastHeight 16 = .ok (.invokestatic 80, 3) := by decide +kernel
theorem dX3_leastHeight_19 : decode cX3_leastHeight 19 = .ok (.istore 4, 2) := by decide +kernel
theorem dX3_leastHeight_21 : decode cX3_leastHeight 21 = .ok (.iload_n 1, 1) := by decide +kernel
theorem dX3_leastHeight_22 : decode cX3_leastHeight 22 = .ok (.iload_n 2, 1) := by decide +kernel
theorem dX3_leastHeight_23 : decode cX3_leastHeight 23 = .ok (.invokestatic 86, 3) := by decide +kernel
theorem dX3_leastHeight_26 : decode cX3_leastHeight 26 = .ok (.istore 5, 2) := by decide +kernel
theorem dX3_leastHeight_28 : decode cX3_leastHeight 28 = .ok (.iload_n 1, 1) := by decide +kernel
theorem dX3_leastHeight_29 : decode cX3_leastHeight 29 = .ok (.iload_n 2, 1) := by decide +kernel
theorem dX3_leastHeight_30 : decode cX3_leastHeight 30 = .ok (.invokestatic 90, 3) := by decide +kernel
theorem dX3_leastHeight_33 : decode cX3_leastHeight 33 = .ok (.iconst 1, 1) := by decide +kernel
theorem dX3_leastHeight_34 : decode cX3_leastHeight 34 = .ok (.iadd, 1) := by decide +kernel
theorem dX3_leastHeight_35 : decode cX3_leastHeight 35 = .ok (.istore 6, 2) := by decide +kernel
theorem dX3_leastHeight_37 : decode cX3_leastHeight 37 = .ok (.iload 6, 2) := by decide +kernel
theorem dX3_leastHeight_39 : decode cX3_leastHeight 39 = .ok (.iload 5, 2) := by decide +kernel
theorem dX3_leastHeight_41 : decode cX3_leastHeight 41 = .ok (.if_icmp .ge 54, 3) := by decide +kernel
theorem dX3_leastHeight_44 : decode cX3_leastHeight 44 = .ok (.iload 6, 2) := by decide +kernel
theorem dX3_leastHeight_46 : decode cX3_leastHeight 46 = .ok (.iload_n 2, 1) := by decide +kernel
theorem dX3_leastHeight_47 : decode cX3_leastHeight 47 = .ok (.isub, 1) := by decide +kernel
theorem dX3_leastHeight_48 : decode cX3_leastHeight 48 = .ok (.invokestatic 80, 3) := by decide +kernel
theorem dX3_leastHeight_51 : decode cX3_leastHeight 51 = .ok (.istore 7, 2) := by decide +kernel
theorem dX3_leastHeight_53 : decode cX3_leastHeight 53 = .ok (.iload 7, 2) := by decide +kernel
theorem dX3_leastHeight_55 : decode cX3_leastHeight 55 = .ok (.ifCond .le 24, 3) := by decide +kernel
theorem dX3_leastHeight_58 : decode cX3_leastHeight 58 = .ok (.aload_n 0, 1) := by decide +kernel
theorem dX3_leastHeight_59 : decode cX3_leastHeight 59 = .ok (.getfield 18, 3) := by decide +kernel
theorem dX3_leastHeight_62 : decode cX3_leastHeight 62 = .ok (.iload 6, 2) := by decide +kernel
