theorem dX3_hasStrip_16 : DR cX3_hasStrip 16 (.iconst 0) 1 := dk_3 (bA_sl (a := 0) (j := 16) bkX3_hasStrip_0 rfl)
theorem dX3_hasStrip_17 : DR cX3_hasStrip 17 (.ireturn) 1 := dk_172 (bA_sl (a := 0) (j := 17) bkX3_hasStrip_0 rfl)
theorem bkX3_allStrips_0 : ((cX3_allStrips.data.toList.drop 0).take 64).map UInt8.toNat = [4, 42, 180, 0, 33, 120, 4, 100, 172] := by decide +kernel
theorem dX3_allStrips_0 : DR cX3_allStrips 0 (.iconst 1) 1 := dk_4 (bA_sl (a := 0) (j := 0) bkX3_allStrips_0 rfl)
theorem dX3_allStrips_1 : DR cX3_allStrips 1 (.aload_n 0) 1 := dk_42 (bA_sl (a := 0) (j := 1) bkX3_allStrips_0 rfl)
theorem dX3_allStrips_2 : DR cX3_allStrips 2 (.getfield 33) 3 := dk_180 (bA_sl (a := 0) (j := 2) bkX3_allStrips_0 rfl) (bA_sl (a := 0) (j := 3) bkX3_allStrips_0 rfl) (bA_sl (a := 0) (j := 4) bkX3_allStrips_0 rfl) (by decide) rfl
theorem dX3_allStrips_5 : DR cX3_allStrips 5 (.ishl) 1 := dk_120 (bA_sl (a := 0) (j := 5) bkX3_allStrips_0 rfl)
theorem dX3_allStrips_6 : DR cX3_allStrips 6 (.iconst 1) 1 := dk_4 (bA_sl (a := 0) (j := 6) bkX3_allStrips_0 rfl)
theorem dX3_allStrips_7 : DR cX3_allStrips 7 (.isub) 1 := dk_100 (bA_sl (a := 0) (j := 7) bkX3_allStrips_0 rfl)
theorem dX3_allStrips_8 : DR cX3_allStrips 8 (.ireturn) 1 := dk_172 (bA_sl (a := 0) (j := 8) bkX3_allStrips_0 rfl)
theorem bkX3_areStrips_0 : ((cX3_areStrips.data.toList.drop 0).take 64).map UInt8.toNat = [27, 42, 182, 0, 76, 2, 130, 126, 154, 0, 7, 4, 167, 0, 4, 3, 172] := by decide +kernel
theorem dX3_areStrips_0 : DR cX3_areStrips 0 (.iload_n 1) 1 := dk_27 (bA_sl (a := 0) (j := 0) bkX3_areStrips_0 rfl)
theorem dX3_areStrips_1 : DR cX3_areStrips 1 (.aload_n 0) 1 := dk_42 (bA_sl (a := 0) (j := 1) bkX3_areStrips_0 rfl)
theorem dX3_areStrips_2 : DR cX3_areStrips 2 (.invokevirtual 76) 3 := dk_182 (bA_sl (a := 0) (j := 2) bkX3_areStrips_0 rfl) (bA_sl (a := 0) (j := 3) bkX3_areStrips_0 rfl) (bA_sl (a := 0) (j := 4) bkX3_areStrips_0 rfl) (by decide) rfl
theorem dX3_areStrips_5 : DR cX3_areStrips 5 (.iconst (-1)) 1 := dk_2 (bA_sl (a := 0) (j := 5) bkX3_areStrips_0 rfl)
theorem dX3_areStrips_6 : DR cX3_areStrips 6 (.ixor) 1 := dk_130 (bA_sl (a := 0) (j := 6) bkX3_areStrips_0 rfl)
theorem dX3_areStrips_7 : DR cX3_areStrips 7 (.iand) 1 := dk_126 (bA_sl (a := 0) (j := 7) bkX3_areStrips_0 rfl)
theorem dX3_areStrips_8 : DR cX3_areStrips 8 (.ifCond .ne 7) 3 := dk_154 (bA_sl (a := 0) (j := 8) bkX3_areStrips_0 rfl) (bA_sl (a := 0) (j := 9) bkX3_areStrips_0 rfl) (bA_sl (a := 0) (j := 10) bkX3_areStrips_0 rfl) (by decide) (by decide)
theorem dX3_areStrips_11 : DR cX3_areStrips 11 (.iconst 1) 1 := dk_4 (bA_sl (a := 0) (j := 11) bkX3_areStrips_0 rfl)
theorem dX3_areStrips_12 : DR cX3_areStrips 12 (.goto 4) 3 := dk_167 (bA_sl (a := 0) (j := 12) bkX3_areStrips_0 rfl) (bA_sl (a := 0) (j := 13) bkX3_areStrips_0 rfl) (bA_sl (a := 0) (j := 14) bkX3_areStrips_0 rfl) (by decide) (by decide)
theorem dX3_areStrips_15 : DR cX3_areStrips 15 (.iconst 0) 1 := dk_3 (bA_sl (a := 0) (j := 15) bkX3_areStrips_0 rfl)
theorem dX3_areStrips_16 : DR cX3_areStrips 16 (.ireturn) 1 := dk_172 (bA_sl (a := 0) (j := 16) bkX3_areStrips_0 rfl)
theorem bkX3_hangsOver_0 : ((cX3_hangsOver.data.toList.drop 0).take 64).map UInt8.toNat = [42, 180, 0, 33, 154, 0, 7, 2, 167, 0, 7, 42, 180, 0, 43, 172] := by decide +kernel
theorem dX3_hangsOver_0 : DR cX3_hangsOver 0 (.aload_n 0) 1 := dk_42 (bA_sl (a := 0) (j := 0) bkX3_hangsOver_0 rfl)
theorem dX3_hangsOver_1 : DR cX3_hangsOver 1 (.getfield 33) 3 := dk_180 (bA_sl (a := 0) (j := 1) bkX3_hangsOver_0 rfl) (bA_sl (a := 0) (j := 2) bkX3_hangsOver_0 rfl) (bA_sl (a := 0) (j := 3) bkX3_hangsOver_0 rfl) (by decide) rfl
theorem dX3_hangsOver_4 : DR cX3_hangsOver 4 (.ifCond .ne 7) 3 := dk_154 (bA_sl (a := 0) (j := 4) bkX3_hangsOver_0 rfl) (bA_sl (a := 0) (j := 5) bkX3_hangsOver_0 rfl) (bA_sl (a := 0) (j := 6) bkX3_hangsOver_0 rfl) (by decide) (by decide)
theorem dX3_hangsOver_7 : DR cX3_hangsOver 7 (.iconst (-1)) 1 := dk_2 (bA_sl (a := 0) (j := 7) bkX3_hangsOver_0 rfl)
theorem dX3_hangsOver_8 : DR cX3_hangsOver 8 (.goto 7) 3 := dk_167 (bA_sl (a := 0) (j := 8) bkX3_hangsOver_0 rfl) (bA_sl (a := 0) (j := 9) bkX3_hangsOver_0 rfl) (bA_sl (a := 0) (j := 10) bkX3_hangsOver_0 rfl) (by decide) (by decide)
theorem dX3_hangsOver_11 : DR cX3_hangsOver 11 (.aload_n 0) 1 := dk_42 (bA_sl (a := 0) (j := 11) bkX3_hangsOver_0 rfl)
theorem dX3_hangsOver_12 : DR cX3_hangsOver 12 (.getfield 43) 3 := dk_180 (bA_sl (a := 0) (j := 12) bkX3_hangsOver_0 rfl) (bA_sl (a := 0) (j := 13) bkX3_hangsOver_0 rfl) (bA_sl (a := 0) (j := 14) bkX3_hangsOver_0 rfl) (by decide) rfl
theorem dX3_hangsOver_15 : DR cX3_hangsOver 15 (.ireturn) 1 := dk_172 (bA_sl (a := 0) (j := 15) bkX3_hangsOver_0 rfl)
theorem bkX3_sum_0 : ((cX3_sum.data.toList.drop 0).take 64).map UInt8.toNat = [3, 61, 3, 62, 29, 42, 180, 0, 33, 162, 0, 15, 28, 43, 29, 46, 96, 61, 132, 3, 1, 167, 255, 239, 28, 172] := by decide +kernel
theorem dX3_sum_0 : DR cX3_sum 0 (.iconst 0) 1 := dk_3 (bA_sl (a := 0) (j := 0) bkX3_sum_0 rfl)
theorem dX3_sum_1 : DR cX3_sum 1 (.istore_n 2) 1 := dk_61 (bA_sl (a := 0) (j := 1) bkX3_sum_0 rfl)
theorem dX3_sum_2 : DR cX3_sum 2 (.iconst 0) 1 := dk_3 (bA_sl (a := 0) (j := 2) bkX3_sum_0 rfl)
theorem dX3_sum_3 : DR cX3_sum 3 (.istore_n 3) 1 := dk_62 (bA_sl (a := 0) (j := 3) bkX3_sum_0 rfl)
theorem dX3_sum_4 : DR cX3_sum 4 (.iload_n 3) 1 := dk_29 (bA_sl (a := 0) (j := 4) bkX3_sum_0 rfl)
theorem dX3_sum_5 : DR cX3_sum 5 (.aload_n 0) 1 := dk_42 (bA_sl (a := 0) (j := 5) bkX3_sum_0 rfl)
theorem dX3_sum_6 : DR cX3_sum 6 (.getfield 33) 3 := dk_180 (bA_sl (a := 0) (j := 6) bkX3_sum_0 rfl) (bA_sl (a := 0) (j := 7) bkX3_sum_0 rfl) (bA_sl (a := 0) (j := 8) bkX3_sum_0 rfl) (by decide) rfl
theorem dX3_sum_9 : DR cX3_sum 9 (.if_icmp .ge 15) 3 := dk_162 (bA_sl (a := 0) (j := 9) bkX3_sum_0 rfl) (bA_sl (a := 0) (j := 10) bkX3_sum_0 rfl) (bA_sl (a := 0) (j := 11) bkX3_sum_0 rfl) (by decide) (by decide)
theorem dX3_sum_12 : DR cX3_sum 12 (.iload_n 2) 1 := dk_28 (bA_sl (a := 0) (j := 12) bkX3_sum_0 rfl)
theorem dX3_sum_13 : DR cX3_sum 13 (.aload_n 1) 1 := dk_43 (bA_sl (a := 0) (j := 13) bkX3_sum_0 rfl)
theorem dX3_sum_14 : DR cX3_sum 14 (.iload_n 3) 1 := dk_29 (bA_sl (a := 0) (j := 14) bkX3_sum_0 rfl)
theorem dX3_sum_15 : DR cX3_sum 15 (.iaload) 1 := dk_46 (bA_sl (a := 0) (j := 15) bkX3_sum_0 rfl)
theorem dX3_sum_16 : DR cX3_sum 16 (.iadd) 1 := dk_96 (bA_sl (a := 0) (j := 16) bkX3_sum_0 rfl)
theorem dX3_sum_17 : DR cX3_sum 17 (.istore_n 2) 1 := dk_61 (bA_sl (a := 0) (j := 17) bkX3_sum_0 rfl)
theorem dX3_sum_18 : DR cX3_sum 18 (.iinc 3 1) 3 := dk_132 (bA_sl (a := 0) (j := 18) bkX3_sum_0 rfl) (bA_sl (a := 0) (j := 19) bkX3_sum_0 rfl) (bA_sl (a := 0) (j := 20) bkX3_sum_0 rfl) (by decide) (by decide)
theorem dX3_sum_21 : DR cX3_sum 21 (.goto (-17)) 3 := dk_167 (bA_sl (a := 0) (j := 21) bkX3_sum_0 rfl) (bA_sl (a := 0) (j := 22) bkX3_sum_0 rfl) (bA_sl (a := 0) (j := 23) bkX3_sum_0 rfl) (by decide) (by decide)
theorem dX3_sum_24 : DR cX3_sum 24 (.iload_n 2) 1 := dk_28 (bA_sl (a := 0) (j := 24) bkX3_sum_0 rfl)
theorem dX3_sum_25 : DR cX3_sum 25 (.ireturn) 1 := dk_172 (bA_sl (a := 0) (j := 25) bkX3_sum_0 rfl)
theorem bkX3_sumOfFarm_0 : ((cX3_sumOfFarm.data.toList.drop 0).take 64).map UInt8.toNat = [3, 62, 3, 54, 4, 21, 4, 42, 180, 0, 33, 162, 0, 27, 42, 180, 0, 21, 21, 4, 46, 28, 160, 0, 10, 29, 43, 21, 4, 46, 96, 62, 132, 4, 1, 167, 255, 226, 29, 172] := by decide +kernel
theorem dX3_sumOfFarm_0 : DR cX3_sumOfFarm 0 (.iconst 0) 1 := dk_3 (bA_sl (a := 0) (j := 0) bkX3_sumOfFarm_0 rfl)
theorem dX3_sumOfFarm_1 : DR cX3_sumOfFarm 1 (.istore_n 3) 1 := dk_62 (bA_sl (a := 0) (j := 1) bkX3_sumOfFarm_0 rfl)
theorem dX3_sumOfFarm_2 : DR cX3_sumOfFarm 2 (.iconst 0) 1 := dk_3 (bA_sl (a := 0) (j := 2) bkX3_sumOfFarm_0 rfl)
theorem dX3_sumOfFarm_3 : DR cX3_sumOfFarm 3 (.istore 4) 2 := dk_54 (bA_sl (a := 0) (j := 3) bkX3_sumOfFarm_0 rfl) (bA_sl (a := 0) (j := 4) bkX3_sumOfFarm_0 rfl) (by decide)
theorem dX3_sumOfFarm_5 : DR cX3_sumOfFarm 5 (.iload 4) 2 := dk_21 (bA_sl (a := 0) (j := 5) bkX3_sumOfFarm_0 rfl) (bA_sl (a := 0) (j := 6) bkX3_sumOfFarm_0 rfl) (by decide)
theorem dX3_sumOfFarm_7 : DR cX3_sumOfFarm 7 (.aload_n 0) 1 := dk_42 (bA_sl (a := 0) (j := 7) bkX3_sumOfFarm_0 rfl)
theorem dX3_sumOfFarm_8 : DR cX3_sumOfFarm 8 (.getfield 33) 3 := dk_180 (bA_sl (a := 0) (j := 8) bkX3_sumOfFarm_0 rfl) (bA_sl (a := 0) (j := 9) bkX3_sumOfFarm_0 rfl) (bA_sl (a := 0) (j := 10) bkX3_sumOfFarm_0 rfl) (by decide) rfl
theorem dX3_sumOfFarm_11 : DR cX3_sumOfFarm 11 (.if_icmp .ge 27) 3 := dk_162 (bA_sl (a := 0) (j := 11) bkX3_sumOfFarm_0 rfl) (bA_sl (a := 0) (j := 12) bkX3_sumOfFarm_0 rfl) (bA_sl (a := 0) (j := 13) bkX3_sumOfFarm_0 rfl) (by decide) (by decide)
theorem dX3_sumOfFarm_14 : DR cX3_sumOfFarm 14 (.aload_n 0) 1 := dk_42 (bA_sl (a := 0) (j := 14) bkX3_sumOfFarm_0 rfl)
theorem dX3_sumOfFarm_15 : DR cX3_sumOfFarm 15 (.getfield 21) 3 := dk_180 (bA_sl (a := 0) (j := 15) bkX3_sumOfFarm_0 rfl) (bA_sl (a := 0) (j := 16) bkX3_sumOfFarm_0 rfl) (bA_sl (a := 0) (j := 17) bkX3_sumOfFarm_0 rfl) (by decide) rfl
theorem dX3_sumOfFarm_18 : DR cX3_sumOfFarm 18 (.iload 4) 2 := dk_21 (bA_sl (a := 0) (j := 18) bkX3_sumOfFarm_0 rfl) (bA_sl (a := 0) (j := 19) bkX3_sumOfFarm_0 rfl) (by decide)
theorem dX3_sumOfFarm_20 : DR cX3_sumOfFarm 20 (.iaload) 1 := dk_46 (bA_sl (a := 0) (j := 20) bkX3_sumOfFarm_0 rfl)
theorem dX3_sumOfFarm_21 : DR cX3_sumOfFarm 21 (.iload_n 2) 1 := dk_28 (bA_sl (a := 0) (j := 21) bkX3_sumOfFarm_0 rfl)
theorem dX3_sumOfFarm_22 : DR cX3_sumOfFarm 22 (.if_icmp .ne 10) 3 := dk_160 (bA_sl (a := 0) (j := 22) bkX3_sumOfFarm_0 rfl) (bA_sl (a := 0) (j := 23) bkX3_sumOfFarm_0 rfl) (bA_sl (a := 0) (j := 24) bkX3_sumOfFarm_0 rfl) (by decide) (by decide)
theorem dX3_sumOfFarm_25 : DR cX3_sumOfFarm 25 (.iload_n 3) 1 := dk_29 (bA_sl (a := 0) (j := 25) bkX3_sumOfFarm_0 rfl)
theorem dX3_sumOfFarm_26 : DR cX3_sumOfFarm 26 (.aload_n 1) 1 := dk_43 (bA_sl (a := 0) (j := 26) bkX3_sumOfFarm_0 rfl)
theorem dX3_sumOfFarm_27 : DR cX3_sumOfFarm 27 (.iload 4) 2 := dk_21 (bA_sl (a := 0) (j := 27) bkX3_sumOfFarm_0 rfl) (bA_sl (a := 0) (j := 28) bkX3_sumOfFarm_0 rfl) (by decide)
theorem dX3_sumOfFarm_29 : DR cX3_sumOfFarm 29 (.iaload) 1 := dk_46 (bA_sl (a := 0) (j := 29) bkX3_sumOfFarm_0 rfl)
theorem dX3_sumOfFarm_30 : DR cX3_sumOfFarm 30 (.iadd) 1 := dk_96 (bA_sl (a := 0) (j := 30) bkX3_sumOfFarm_0 rfl)
theorem dX3_sumOfFarm_31 : DR cX3_sumOfFarm 31 (.istore_n 3) 1 := dk_62 (bA_sl (a := 0) (j := 31) bkX3_sumOfFarm_0 rfl)
theorem dX3_sumOfFarm_32 : DR cX3_sumOfFarm 32 (.iinc 4 1) 3 := dk_132 (bA_sl (a := 0) (j := 32) bkX3_sumOfFarm_0 rfl) (bA_sl (a := 0) (j := 33) bkX3_sumOfFarm_0 rfl) (bA_sl (a := 0) (j := 34) bkX3_sumOfFarm_0 rfl) (by decide) (by decide)
theorem dX3_sumOfFarm_35 : DR cX3_sumOfFarm 35 (.goto (-30)) 3 := dk_167 (bA_sl (a := 0) (j := 35) bkX3_sumOfFarm_0 rfl) (bA_sl (a := 0) (j := 36) bkX3_sumOfFarm_0 rfl) (bA_sl (a := 0) (j := 37) bkX3_sumOfFarm_0 rfl) (by decide) (by decide)
theorem dX3_sumOfFarm_38 : DR cX3_sumOfFarm 38 (.iload_n 3) 1 := dk_29 (bA_sl (a := 0) (j := 38) bkX3_sumOfFarm_0 rfl)
theorem dX3_sumOfFarm_39 : DR cX3_sumOfFarm 39 (.ireturn) 1 := dk_172 (bA_sl (a := 0) (j := 39) bkX3_sumOfFarm_0 rfl)
theorem bkX3_stripsOfFarm_0 : ((cX3_stripsOfFarm.data.toList.drop 0).take 64).map UInt8.toNat = [3, 61, 3, 62, 29, 42, 180, 0, 33, 162, 0, 25, 42, 180, 0, 21, 29, 46, 27, 160, 0, 9, 28, 4, 29, 120, 128, 61, 132, 3, 1, 167, 255, 229, 28, 172] := by decide +kernel
theorem dX3_stripsOfFarm_0 : DR cX3_stripsOfFarm 0 (.iconst 0) 1 := dk_3 (bA_sl (a := 0) (j := 0) bkX3_stripsOfFarm_0 rfl)
theorem dX3_stripsOfFarm_1 : DR cX3_stripsOfFarm 1 (.istore_n 2) 1 := dk_61 (bA_sl (a := 0) (j := 1) bkX3_stripsOfFarm_0 rfl)
theorem dX3_stripsOfFarm_2 : DR cX3_stripsOfFarm 2 (.iconst 0) 1 := dk_3 (bA_sl (a := 0) (j := 2) bkX3_stripsOfFarm_0 rfl)
theorem dX3_stripsOfFarm_3 : DR cX3_stripsOfFarm 3 (.istore_n 3) 1 := dk_62 (bA_sl (a := 0) (j := 3) bkX3_stripsOfFarm_0 rfl)
theorem dX3_stripsOfFarm_4 : DR cX3_stripsOfFarm 4 (.iload_n 3) 1 := dk_29 (bA_sl (a := 0) (j := 4) bkX3_stripsOfFarm_0 rfl)
theorem dX3_stripsOfFarm_5 : DR cX3_stripsOfFarm 5 (.aload_n 0) 1 := dk_42 (bA_sl (a := 0) (j := 5) bkX3_stripsOfFarm_0 rfl)
theorem dX3_stripsOfFarm_6 : DR cX3_stripsOfFarm 6 (.getfield 33) 3 := dk_180 (bA_sl (a := 0) (j := 6) bkX3_stripsOfFarm_0 rfl) (bA_sl (a := 0) (j := 7) bkX3_stripsOfFarm_0 rfl) (bA_sl (a := 0) (j := 8) bkX3_stripsOfFarm_0 rfl) (by decide) rfl
theorem dX3_stripsOfFarm_9 : DR cX3_stripsOfFarm 9 (.if_icmp .ge 25) 3 := dk_162 (bA_sl (a := 0) (j := 9) bkX3_stripsOfFarm_0 rfl) (bA_sl (a := 0) (j := 10) bkX3_stripsOfFarm_0 rfl) (bA_sl (a := 0) (j := 11) bkX3_stripsOfFarm_0 rfl) (by decide) (by decide)
theorem dX3_stripsOfFarm_12 : DR cX3_stripsOfFarm 12 (.aload_n 0) 1 := dk_42 (bA_sl (a := 0) (j := 12) bkX3_stripsOfFarm_0 rfl)
theorem dX3_stripsOfFarm_13 : DR cX3_stripsOfFarm 13 (.getfield 21) 3 := dk_180 (bA_sl (a := 0) (j := 13) bkX3_stripsOfFarm_0 rfl) (bA_sl (a := 0) (j := 14) bkX3_stripsOfFarm_0 rfl) (bA_sl (a := 0) (j := 15) bkX3_stripsOfFarm_0 rfl) (by decide) rfl
theorem dX3_stripsOfFarm_16 : DR cX3_stripsOfFarm 16 (.iload_n 3) 1 := dk_29 (bA_sl (a := 0) (j := 16) bkX3_stripsOfFarm_0 rfl)
theorem dX3_stripsOfFarm_17 : DR cX3_stripsOfFarm 17 (.iaload) 1 := dk_46 (bA_sl (a := 0) (j := 17) bkX3_stripsOfFarm_0 rfl)
theorem dX3_stripsOfFarm_18 : DR cX3_stripsOfFarm 18 (.iload_n 1) 1 := dk_27 (bA_sl (a := 0) (j := 18) bkX3_stripsOfFarm_0 rfl)
theorem dX3_stripsOfFarm_19 : DR cX3_stripsOfFarm 19 (.if_icmp .ne 9) 3 := dk_160 (bA_sl (a := 0) (j := 19) bkX3_stripsOfFarm_0 rfl) (bA_sl (a := 0) (j := 20) bkX3_stripsOfFarm_0 rfl) (bA_sl (a := 0) (j := 21) bkX3_stripsOfFarm_0 rfl) (by decide) (by decide)
theorem dX3_stripsOfFarm_22 : DR cX3_stripsOfFarm 22 (.iload_n 2) 1 := dk_28 (bA_sl (a := 0) (j := 22) bkX3_stripsOfFarm_0 rfl)
theorem dX3_stripsOfFarm_23 : DR cX3_stripsOfFarm 23 (.iconst 1) 1 := dk_4 (bA_sl (a := 0) (j := 23) bkX3_stripsOfFarm_0 rfl)
theorem dX3_stripsOfFarm_24 : DR cX3_stripsOfFarm 24 (.iload_n 3) 1 := dk_29 (bA_sl (a := 0) (j := 24) bkX3_stripsOfFarm_0 rfl)
theorem dX3_stripsOfFarm_25 : DR cX3_stripsOfFarm 25 (.ishl) 1 := dk_120 (bA_sl (a := 0) (j := 25) bkX3_stripsOfFarm_0 rfl)
theorem dX3_stripsOfFarm_26 : DR cX3_stripsOfFarm 26 (.ior) 1 := dk_128 (bA_sl (a := 0) (j := 26) bkX3_stripsOfFarm_0 rfl)
theorem dX3_stripsOfFarm_27 : DR cX3_stripsOfFarm 27 (.istore_n 2) 1 := dk_61 (bA_sl (a := 0) (j := 27) bkX3_stripsOfFarm_0 rfl)
theorem dX3_stripsOfFarm_28 : DR cX3_stripsOfFarm 28 (.iinc 3 1) 3 := dk_132 (bA_sl (a := 0) (j := 28) bkX3_stripsOfFarm_0 rfl) (bA_sl (a := 0) (j := 29) bkX3_stripsOfFarm_0 rfl) (bA_sl (a := 0) (j := 30) bkX3_stripsOfFarm_0 rfl) (by decide) (by decide)
theorem dX3_stripsOfFarm_31 : DR cX3_stripsOfFarm 31 (.goto (-27)) 3 := dk_167 (bA_sl (a := 0) (j := 31) bkX3_stripsOfFarm_0 rfl) (bA_sl (a := 0) (j := 32) bkX3_stripsOfFarm_0 rfl) (bA_sl (a := 0) (j := 33) bkX3_stripsOfFarm_0 rfl) (by decide) (by decide)
theorem dX3_stripsOfFarm_34 : DR cX3_stripsOfFarm 34 (.iload_n 2) 1 := dk_28 (bA_sl (a := 0) (j := 34) bkX3_stripsOfFarm_0 rfl)
theorem dX3_stripsOfFarm_35 : DR cX3_stripsOfFarm 35 (.ireturn) 1 := dk_172 (bA_sl (a := 0) (j := 35) bkX3_stripsOfFarm_0 rfl)
theorem bkX3_unshadedLight_0 : ((cX3_unshadedLight.data.toList.drop 0).take 64).map UInt8.toNat = [3, 42, 180, 0, 49, 42, 180, 0, 52, 27, 28, 100, 184, 0, 80, 104, 100, 184, 0, 86, 172] := by decide +kernel
theorem dX3_unshadedLight_0 : DR cX3_unshadedLight 0 (.iconst 0) 1 := dk_3 (bA_sl (a := 0) (j := 0) bkX3_unshadedLight_0 rfl)
theorem dX3_unshadedLight_1 : DR cX3_unshadedLight 1 (.aload_n 0) 1 := dk_42 (bA_sl (a := 0) (j := 1) bkX3_unshadedLight_0 rfl)
theorem dX3_unshadedLight_2 : DR cX3_unshadedLight 2 (.getfield 49) 3 := dk_180 (bA_sl (a := 0) (j := 2) bkX3_unshadedLight_0 rfl) (bA_sl (a := 0) (j := 3) bkX3_unshadedLight_0 rfl) (bA_sl (a := 0) (j := 4) bkX3_unshadedLight_0 rfl) (by decide) rfl
theorem dX3_unshadedLight_5 : DR cX3_unshadedLight 5 (.aload_n 0) 1 := dk_42 (bA_sl (a := 0) (j := 5) bkX3_unshadedLight_0 rfl)
theorem dX3_unshadedLight_6 : DR cX3_unshadedLight 6 (.getfield 52) 3 := dk_180 (bA_sl (a := 0) (j := 6) bkX3_unshadedLight_0 rfl) (bA_sl (a := 0) (j := 7) bkX3_unshadedLight_0 rfl) (bA_sl (a := 0) (j := 8) bkX3_unshadedLight_0 rfl) (by decide) rfl
theorem dX3_unshadedLight_9 : DR cX3_unshadedLight 9 (.iload_n 1) 1 := dk_27 (bA_sl (a := 0) (j := 9) bkX3_unshadedLight_0 rfl)
theorem dX3_unshadedLight_10 : DR cX3_unshadedLight 10 (.iload_n 2) 1 := dk_28 (bA_sl (a := 0) (j := 10) bkX3_unshadedLight_0 rfl)
theorem dX3_unshadedLight_11 : DR cX3_unshadedLight 11 (.isub) 1 := dk_100 (bA_sl (a := 0) (j := 11) bkX3_unshadedLight_0 rfl)
theorem dX3_unshadedLight_12 : DR cX3_unshadedLight 12 (.invokestatic 80) 3 := dk_184 (bA_sl (a := 0) (j := 12) bkX3_unshadedLight_0 rfl) (bA_sl (a := 0) (j := 13) bkX3_unshadedLight_0 rfl) (bA_sl (a := 0) (j := 14) bkX3_unshadedLight_0 rfl) (by decide) rfl
theorem dX3_unshadedLight_15 : DR cX3_unshadedLight 15 (.imul) 1 := dk_104 (bA_sl (a := 0) (j := 15) bkX3_unshadedLight_0 rfl)
theorem dX3_unshadedLight_16 : DR cX3_unshadedLight 16 (.isub) 1 := dk_100 (bA_sl (a := 0) (j := 16) bkX3_unshadedLight_0 rfl)
theorem dX3_unshadedLight_17 : DR cX3_unshadedLight 17 (.invokestatic 86) 3 := dk_184 (bA_sl (a := 0) (j := 17) bkX3_unshadedLight_0 rfl) (bA_sl (a := 0) (j := 18) bkX3_unshadedLight_0 rfl) (bA_sl (a := 0) (j := 19) bkX3_unshadedLight_0 rfl) (by decide) rfl
theorem dX3_unshadedLight_20 : DR cX3_unshadedLight 20 (.ireturn) 1 := dk_172 (bA_sl (a := 0) (j := 20) bkX3_unshadedLight_0 rfl)
theorem bkX3_isShaded_0 : ((cX3_isShaded.data.toList.drop 0).take 64).map UInt8.toNat = [27, 28, 100, 184, 0, 80, 62, 27, 28, 184, 0, 86, 54, 4, 27, 28, 184, 0, 90, 4, 96, 54, 5, 21, 5, 21, 4, 162, 0, 35, 42, 180, 0, 18, 21, 5, 46, 29, 104, 42, 180, 0, 46, 21, 5, 28, 100, 184, 0, 80, 104, 164, 0, 5, 4, 172, 132, 5, 1, 167, 255, 220, 3, 172] := by decide +kernel
theorem dX3_isShaded_0 : DR cX3_isShaded 0 (.iload_n 1) 1 := dk_27 (bA_sl (a := 0) (j := 0) bkX3_isShaded_0 rfl)
theorem dX3_isShaded_1 : DR cX3_isShaded 1 (.iload_n 2) 1 := dk_28 (bA_sl (a := 0) (j := 1) bkX3_isShaded_0 rfl)
theorem dX3_isShaded_2 : DR cX3_isShaded 2 (.isub) 1 := dk_100 (bA_sl (a := 0) (j := 2) bkX3_isShaded_0 rfl)
theorem dX3_isShaded_3 : DR cX3_isShaded 3 (.invokestatic 80) 3 := dk_184 (bA_sl (a := 0) (j := 3) bkX3_isShaded_0 rfl) (bA_sl (a := 0) (j := 4) bkX3_isShaded_0 rfl) (bA_sl (a := 0) (j := 5) bkX3_isShaded_0 rfl) (by decide) rfl
theorem dX3_isShaded_6 : DR cX3_isShaded 6 (.istore_n 3) 1 := dk_62 (bA_sl (a := 0) (j := 6) bkX3_isShaded_0 rfl)
theorem dX3_isShaded_7 : DR cX3_isShaded 7 (.iload_n 1) 1 := dk_27 (bA_sl (a := 0) (j := 7) bkX3_isShaded_0 rfl)
theorem dX3_isShaded_8 : DR cX3_isShaded 8 (.iload_n 2) 1 := dk_28 (bA_sl (a := 0) (j := 8) bkX3_isShaded_0 rfl)
theorem dX3_isShaded_9 : DR cX3_isShaded 9 (.invokestatic 86) 3 := dk_184 (bA_sl (a := 0) (j := 9) bkX3_isShaded_0 rfl) (bA_sl (a := 0) (j := 10) bkX3_isShaded_0 rfl) (bA_sl (a := 0) (j := 11) bkX3_isShaded_0 rfl) (by decide) rfl
theorem dX3_isShaded_12 : DR cX3_isShaded 12 (.istore 4) 2 := dk_54 (bA_sl (a := 0) (j := 12) bkX3_isShaded_0 rfl) (bA_sl (a := 0) (j := 13) bkX3_isShaded_0 rfl) (by decide)
theorem dX3_isShaded_14 : DR cX3_isShaded 14 (.iload_n 1) 1 := dk_27 (bA_sl (a := 0) (j := 14) bkX3_isShaded_0 rfl)
theorem dX3_isShaded_15 : DR cX3_isShaded 15 (.iload_n 2) 1 := dk_28 (bA_sl (a := 0) (j := 15) bkX3_isShaded_0 rfl)
theorem dX3_isShaded_16 : DR cX3_isShaded 16 (.invokestatic 90) 3 := dk_184 (bA_sl (a := 0) (j := 16) bkX3_isShaded_0 rfl) (bA_sl (a := 0) (j := 17) bkX3_isShaded_0 rfl) (bA_sl (a := 0) (j := 18) bkX3_isShaded_0 rfl) (by decide) rfl
theorem dX3_isShaded_19 : DR cX3_isShaded 19 (.iconst 1) 1 := dk_4 (bA_sl (a := 0) (j := 19) bkX3_isShaded_0 rfl)
theorem dX3_isShaded_20 : DR cX3_isShaded 20 (.iadd) 1 := dk_96 (bA_sl (a := 0) (j := 20) bkX3_isShaded_0 rfl)
theorem dX3_isShaded_21 : DR cX3_isShaded 21 (.istore 5) 2 := dk_54 (bA_sl (a := 0) (j := 21) bkX3_isShaded_0 rfl) (bA_sl (a := 0) (j := 22) bkX3_isShaded_0 rfl) (by decide)
theorem dX3_isShaded_23 : DR cX3_isShaded 23 (.iload 5) 2 := dk_21 (bA_sl (a := 0) (j := 23) bkX3_isShaded_0 rfl) (bA_sl (a := 0) (j := 24) bkX3_isShaded_0 rfl) (by decide)
theorem dX3_isShaded_25 : DR cX3_isShaded 25 (.iload 4) 2 := dk_21 (bA_sl (a := 0) (j := 25) bkX3_isShaded_0 rfl) (bA_sl (a := 0) (j := 26) bkX3_isShaded_0 rfl) (by decide)
theorem dX3_isShaded_27 : DR cX3_isShaded 27 (.if_icmp .ge 35) 3 := dk_162 (bA_sl (a := 0) (j := 27) bkX3_isShaded_0 rfl) (bA_sl (a := 0) (j := 28) bkX3_isShaded_0 rfl) (bA_sl (a := 0) (j := 29) bkX3_isShaded_0 rfl) (by decide) (by decide)
theorem dX3_isShaded_30 : DR cX3_isShaded 30 (.aload_n 0) 1 := dk_42 (bA_sl (a := 0) (j := 30) bkX3_isShaded_0 rfl)
theorem dX3_isShaded_31 : DR cX3_isShaded 31 (.getfield 18) 3 := dk_180 (bA_sl (a := 0) (j := 31) bkX3_isShaded_0 rfl) (bA_sl (a := 0) (j := 32) bkX3_isShaded_0 rfl) (bA_sl (a := 0) (j := 33) bkX3_isShaded_0 rfl) (by decide) rfl
theorem dX3_isShaded_34 : DR cX3_isShaded 34 (.iload 5) 2 := dk_21 (bA_sl (a := 0) (j := 34) bkX3_isShaded_0 rfl) (bA_sl (a := 0) (j := 35) bkX3_isShaded_0 rfl) (by decide)
theorem dX3_isShaded_36 : DR cX3_isShaded 36 (.iaload) 1 := dk_46 (bA_sl (a := 0) (j := 36) bkX3_isShaded_0 rfl)
theorem dX3_isShaded_37 : DR cX3_isShaded 37 (.iload_n 3) 1 := dk_29 (bA_sl (a := 0) (j := 37) bkX3_isShaded_0 rfl)
theorem dX3_isShaded_38 : DR cX3_isShaded 38 (.imul) 1 := dk_104 (bA_sl (a := 0) (j := 38) bkX3_isShaded_0 rfl)
theorem dX3_isShaded_39 : DR cX3_isShaded 39 (.aload_n 0) 1 := dk_42 (bA_sl (a := 0) (j := 39) bkX3_isShaded_0 rfl)
theorem dX3_isShaded_40 : DR cX3_isShaded 40 (.getfield 46) 3 := dk_180 (bA_sl (a := 0) (j := 40) bkX3_isShaded_0 rfl) (bA_sl (a := 0) (j := 41) bkX3_isShaded_0 rfl) (bA_sl (a := 0) (j := 42) bkX3_isShaded_0 rfl) (by decide) rfl
theorem dX3_isShaded_43 : DR cX3_isShaded 43 (.iload 5) 2 := dk_21 (bA_sl (a := 0) (j := 43) bkX3_isShaded_0 rfl) (bA_sl (a := 0) (j := 44) bkX3_isShaded_0 rfl) (by decide)
theorem dX3_isShaded_45 : DR cX3_isShaded 45 (.iload_n 2) 1 := dk_28 (bA_sl (a := 0) (j := 45) bkX3_isShaded_0 rfl)
theorem dX3_isShaded_46 : DR cX3_isShaded 46 (.isub) 1 := dk_100 (bA_sl (a := 0) (j := 46) bkX3_isShaded_0 rfl)
theorem dX3_isShaded_47 : DR cX3_isShaded 47 (.invokestatic 80) 3 := dk_184 (bA_sl (a := 0) (j := 47) bkX3_isShaded_0 rfl) (bA_sl (a := 0) (j := 48) bkX3_isShaded_0 rfl) (bA_sl (a := 0) (j := 49) bkX3_isShaded_0 rfl) (by decide) rfl
theorem dX3_isShaded_50 : DR cX3_isShaded 50 (.imul) 1 := dk_104 (bA_sl (a := 0) (j := 50) bkX3_isShaded_0 rfl)
theorem dX3_isShaded_51 : DR cX3_isShaded 51 (.if_icmp .le 5) 3 := dk_164 (bA_sl (a := 0) (j := 51) bkX3_isShaded_0 rfl) (bA_sl (a := 0) (j := 52) bkX3_isShaded_0 rfl) (bA_sl (a := 0) (j := 53) bkX3_isShaded_0 rfl) (by decide) (by decide)
theorem dX3_isShaded_54 : DR cX3_isShaded 54 (.iconst 1) 1 := dk_4 (bA_sl (a := 0) (j := 54) bkX3_isShaded_0 rfl)
theorem dX3_isShaded_55 : DR cX3_isShaded 55 (.ireturn) 1 := dk_172 (bA_sl (a := 0) (j := 55) bkX3_isShaded_0 rfl)
theorem dX3_isShaded_56 : DR cX3_isShaded 56 (.iinc 5 1) 3 := dk_132 (bA_sl (a := 0) (j := 56) bkX3_isShaded_0 rfl) (bA_sl (a := 0) (j := 57) bkX3_isShaded_0 rfl) (bA_sl (a := 0) (j := 58) bkX3_isShaded_0 rfl) (by decide) (by decide)
theorem dX3_isShaded_59 : DR cX3_isShaded 59 (.goto (-36)) 3 := dk_167 (bA_sl (a := 0) (j := 59) bkX3_isShaded_0 rfl) (bA_sl (a := 0) (j := 60) bkX3_isShaded_0 rfl) (bA_sl (a := 0) (j := 61) bkX3_isShaded_0 rfl) (by decide) (by decide)
theorem dX3_isShaded_62 : DR cX3_isShaded 62 (.iconst 0) 1 := dk_3 (bA_sl (a := 0) (j := 62) bkX3_isShaded_0 rfl)
theorem dX3_isShaded_63 : DR cX3_isShaded 63 (.ireturn) 1 := dk_172 (bA_sl (a := 0) (j := 63) bkX3_isShaded_0 rfl)
theorem bkX3_lightOf_0 : ((cX3_lightOf.data.toList.drop 0).take 64).map UInt8.toNat = [42, 27, 28, 182, 0, 93, 62, 29, 158, 0, 16, 42, 27, 28, 182, 0, 96, 153, 0, 7, 3, 167, 0, 4, 29, 172] := by decide +kernel
theorem dX3_lightOf_0 : DR cX3_lightOf 0 (.aload_n 0) 1 := dk_42 (bA_sl (a := 0) (j := 0) bkX3_lightOf_0 rfl)
theorem dX3_lightOf_1 : DR cX3_lightOf 1 (.iload_n 1) 1 := dk_27 (bA_sl (a := 0) (j := 1) bkX3_lightOf_0 rfl)
theorem dX3_lightOf_2 : DR cX3_lightOf 2 (.iload_n 2) 1 := dk_28 (bA_sl (a := 0) (j := 2) bkX3_lightOf_0 rfl)
theorem dX3_lightOf_3 : DR cX3_lightOf 3 (.invokevirtual 93) 3 := dk_182 (bA_sl (a := 0) (j := 3) bkX3_lightOf_0 rfl) (bA_sl (a := 0) (j := 4) bkX3_lightOf_0 rfl) (bA_sl (a := 0) (j := 5) bkX3_lightOf_0 rfl) (by decide) rfl
theorem dX3_lightOf_6 : DR cX3_lightOf 6 (.istore_n 3) 1 := dk_62 (bA_sl (a := 0) (j := 6) bkX3_lightOf_0 rfl)
theorem dX3_lightOf_7 : DR cX3_lightOf 7 (.iload_n 3) 1 := dk_29 (bA_sl (a := 0) (j := 7) bkX3_lightOf_0 rfl)
theorem dX3_lightOf_8 : DR cX3_lightOf 8 (.ifCond .le 16) 3 := dk_158 (bA_sl (a := 0) (j := 8) bkX3_lightOf_0 rfl) (bA_sl (a := 0) (j := 9) bkX3_lightOf_0 rfl) (bA_sl (a := 0) (j := 10) bkX3_lightOf_0 rfl) (by decide) (by decide)
theorem dX3_lightOf_11 : DR cX3_lightOf 11 (.aload_n 0) 1 := dk_42 (bA_sl (a := 0) (j := 11) bkX3_lightOf_0 rfl)
theorem dX3_lightOf_12 : DR cX3_lightOf 12 (.iload_n 1) 1 := dk_27 (bA_sl (a := 0) (j := 12) bkX3_lightOf_0 rfl)
theorem dX3_lightOf_13 : DR cX3_lightOf 13 (.iload_n 2) 1 := dk_28 (bA_sl (a := 0) (j := 13) bkX3_lightOf_0 rfl)
theorem dX3_lightOf_14 : DR cX3_lightOf 14 (.invokevirtual 96) 3 := dk_182 (bA_sl (a := 0) (j := 14) bkX3_lightOf_0 rfl) (bA_sl (a := 0) (j := 15) bkX3_lightOf_0 rfl) (bA_sl (a := 0) (j := 16) bkX3_lightOf_0 rfl) (by decide) rfl
theorem dX3_lightOf_17 : DR cX3_lightOf 17 (.ifCond .eq 7) 3 := dk_153 (bA_sl (a := 0) (j := 17) bkX3_lightOf_0 rfl) (bA_sl (a := 0) (j := 18) bkX3_lightOf_0 rfl) (bA_sl (a := 0) (j := 19) bkX3_lightOf_0 rfl) (by decide) (by decide)
theorem dX3_lightOf_20 : DR cX3_lightOf 20 (.iconst 0) 1 := dk_3 (bA_sl (a := 0) (j := 20) bkX3_lightOf_0 rfl)
theorem dX3_lightOf_21 : DR cX3_lightOf 21 (.goto 4) 3 := dk_167 (bA_sl (a := 0) (j := 21) bkX3_lightOf_0 rfl) (bA_sl (a := 0) (j := 22) bkX3_lightOf_0 rfl) (bA_sl (a := 0) (j := 23) bkX3_lightOf_0 rfl) (by decide) (by decide)
theorem dX3_lightOf_24 : DR cX3_lightOf 24 (.iload_n 3) 1 := dk_29 (bA_sl (a := 0) (j := 24) bkX3_lightOf_0 rfl)
theorem dX3_lightOf_25 : DR cX3_lightOf 25 (.ireturn) 1 := dk_172 (bA_sl (a := 0) (j := 25) bkX3_lightOf_0 rfl)
theorem bkX3_litFrom_0 : ((cX3_litFrom.data.toList.drop 0).take 64).map UInt8.toNat = [3, 61, 3, 62, 29, 42, 180, 0, 33, 162, 0, 24, 42, 27, 29, 182, 0, 100, 158, 0, 9, 28, 4, 29, 120, 128, 61, 132, 3, 1, 167, 255, 230, 28, 172] := by decide +kernel
theorem dX3_litFrom_0 : DR cX3_litFrom 0 (.iconst 0) 1 := dk_3 (bA_sl (a := 0) (j := 0) bkX3_litFrom_0 rfl)
theorem dX3_litFrom_1 : DR cX3_litFrom 1 (.istore_n 2) 1 := dk_61 (bA_sl (a := 0) (j := 1) bkX3_litFrom_0 rfl)
theorem dX3_litFrom_2 : DR cX3_litFrom 2 (.iconst 0) 1 := dk_3 (bA_sl (a := 0) (j := 2) bkX3_litFrom_0 rfl)
theorem dX3_litFrom_3 : DR cX3_litFrom 3 (.istore_n 3) 1 := dk_62 (bA_sl (a := 0) (j := 3) bkX3_litFrom_0 rfl)
theorem dX3_litFrom_4 : DR cX3_litFrom 4 (.iload_n 3) 1 := dk_29 (bA_sl (a := 0) (j := 4) bkX3_litFrom_0 rfl)
theorem dX3_litFrom_5 : DR cX3_litFrom 5 (.aload_n 0) 1 := dk_42 (bA_sl (a := 0) (j := 5) bkX3_litFrom_0 rfl)
theorem dX3_litFrom_6 : DR cX3_litFrom 6 (.getfield 33) 3 := dk_180 (bA_sl (a := 0) (j := 6) bkX3_litFrom_0 rfl) (bA_sl (a := 0) (j := 7) bkX3_litFrom_0 rfl) (bA_sl (a := 0) (j := 8) bkX3_litFrom_0 rfl) (by decide) rfl
theorem dX3_litFrom_9 : DR cX3_litFrom 9 (.if_icmp .ge 24) 3 := dk_162 (bA_sl (a := 0) (j := 9) bkX3_litFrom_0 rfl) (bA_sl (a := 0) (j := 10) bkX3_litFrom_0 rfl) (bA_sl (a := 0) (j := 11) bkX3_litFrom_0 rfl) (by decide) (by decide)
theorem dX3_litFrom_12 : DR cX3_litFrom 12 (.aload_n 0) 1 := dk_42 (bA_sl (a := 0) (j := 12) bkX3_litFrom_0 rfl)
theorem dX3_litFrom_13 : DR cX3_litFrom 13 (.iload_n 1) 1 := dk_27 (bA_sl (a := 0) (j := 13) bkX3_litFrom_0 rfl)
theorem dX3_litFrom_14 : DR cX3_litFrom 14 (.iload_n 3) 1 := dk_29 (bA_sl (a := 0) (j := 14) bkX3_litFrom_0 rfl)
theorem dX3_litFrom_15 : DR cX3_litFrom 15 (.invokevirtual 100) 3 := dk_182 (bA_sl (a := 0) (j := 15) bkX3_litFrom_0 rfl) (bA_sl (a := 0) (j := 16) bkX3_litFrom_0 rfl) (bA_sl (a := 0) (j := 17) bkX3_litFrom_0 rfl) (by decide) rfl
theorem dX3_litFrom_18 : DR cX3_litFrom 18 (.ifCond .le 9) 3 := dk_158 (bA_sl (a := 0) (j := 18) bkX3_litFrom_0 rfl) (bA_sl (a := 0) (j := 19) bkX3_litFrom_0 rfl) (bA_sl (a := 0) (j := 20) bkX3_litFrom_0 rfl) (by decide) (by decide)
theorem dX3_litFrom_21 : DR cX3_litFrom 21 (.iload_n 2) 1 := dk_28 (bA_sl (a := 0) (j := 21) bkX3_litFrom_0 rfl)
theorem dX3_litFrom_22 : DR cX3_litFrom 22 (.iconst 1) 1 := dk_4 (bA_sl (a := 0) (j := 22) bkX3_litFrom_0 rfl)
theorem dX3_litFrom_23 : DR cX3_litFrom 23 (.iload_n 3) 1 := dk_29 (bA_sl (a := 0) (j := 23) bkX3_litFrom_0 rfl)
theorem dX3_litFrom_24 : DR cX3_litFrom 24 (.ishl) 1 := dk_120 (bA_sl (a := 0) (j := 24) bkX3_litFrom_0 rfl)
theorem dX3_litFrom_25 : DR cX3_litFrom 25 (.ior) 1 := dk_128 (bA_sl (a := 0) (j := 25) bkX3_litFrom_0 rfl)
theorem dX3_litFrom_26 : DR cX3_litFrom 26 (.istore_n 2) 1 := dk_61 (bA_sl (a := 0) (j := 26) bkX3_litFrom_0 rfl)
theorem dX3_litFrom_27 : DR cX3_litFrom 27 (.iinc 3 1) 3 := dk_132 (bA_sl (a := 0) (j := 27) bkX3_litFrom_0 rfl) (bA_sl (a := 0) (j := 28) bkX3_litFrom_0 rfl) (bA_sl (a := 0) (j := 29) bkX3_litFrom_0 rfl) (by decide) (by decide)
theorem dX3_litFrom_30 : DR cX3_litFrom 30 (.goto (-26)) 3 := dk_167 (bA_sl (a := 0) (j := 30) bkX3_litFrom_0 rfl) (bA_sl (a := 0) (j := 31) bkX3_litFrom_0 rfl) (bA_sl (a := 0) (j := 32) bkX3_litFrom_0 rfl) (by decide) (by decide)
theorem dX3_litFrom_33 : DR cX3_litFrom 33 (.iload_n 2) 1 := dk_28 (bA_sl (a := 0) (j := 33) bkX3_litFrom_0 rfl)
theorem dX3_litFrom_34 : DR cX3_litFrom 34 (.ireturn) 1 := dk_172 (bA_sl (a := 0) (j := 34) bkX3_litFrom_0 rfl)
theorem bkX3_shadedFrom_0 : ((cX3_shadedFrom.data.toList.drop 0).take 64).map UInt8.toNat = [3, 61, 3, 62, 29, 42, 180, 0, 33, 162, 0, 33, 42, 27, 29, 182, 0, 93, 158, 0, 18, 42, 27, 29, 182, 0, 96, 153, 0, 9, 28, 4, 29, 120, 128, 61, 132, 3, 1, 167, 255, 221, 28, 172] := by decide +kernel
theorem dX3_shadedFrom_0 : DR cX3_shadedFrom 0 (.iconst 0) 1 := dk_3 (bA_sl (a := 0) (j := 0) bkX3_shadedFrom_0 rfl)
theorem dX3_shadedFrom_1 : DR cX3_shadedFrom 1 (.istore_n 2) 1 := dk_61 (bA_sl (a := 0) (j := 1) bkX3_shadedFrom_0 rfl)
theorem dX3_shadedFrom_2 : DR cX3_shadedFrom 2 (.iconst 0) 1 := dk_3 (bA_sl (a := 0) (j := 2) bkX3_shadedFrom_0 rfl)
theorem dX3_shadedFrom_3 : DR cX3_shadedFrom 3 (.istore_n 3) 1 := dk_62 (bA_sl (a := 0) (j := 3) bkX3_shadedFrom_0 rfl)
theorem dX3_shadedFrom_4 : DR cX3_shadedFrom 4 (.iload_n 3) 1 := dk_29 (bA_sl (a := 0) (j := 4) bkX3_shadedFrom_0 rfl)
theorem dX3_shadedFrom_5 : DR cX3_shadedFrom 5 (.aload_n 0) 1 := dk_42 (bA_sl (a := 0) (j := 5) bkX3_shadedFrom_0 rfl)
theorem dX3_shadedFrom_6 : DR cX3_shadedFrom 6 (.getfield 33) 3 := dk_180 (bA_sl (a := 0) (j := 6) bkX3_shadedFrom_0 rfl) (bA_sl (a := 0) (j := 7) bkX3_shadedFrom_0 rfl) (bA_sl (a := 0) (j := 8) bkX3_shadedFrom_0 rfl) (by decide) rfl
theorem dX3_shadedFrom_9 : DR cX3_shadedFrom 9 (.if_icmp .ge 33) 3 := dk_162 (bA_sl (a := 0) (j := 9) bkX3_shadedFrom_0 rfl) (bA_sl (a := 0) (j := 10) bkX3_shadedFrom_0 rfl) (bA_sl (a := 0) (j := 11) bkX3_shadedFrom_0 rfl) (by decide) (by decide)
theorem dX3_shadedFrom_12 : DR cX3_shadedFrom 12 (.aload_n 0) 1 := dk_42 (bA_sl (a := 0) (j := 12) bkX3_shadedFrom_0 rfl)
theorem dX3_shadedFrom_13 : DR cX3_shadedFrom 13 (.iload_n 1) 1 := dk_27 (bA_sl (a := 0) (j := 13) bkX3_shadedFrom_0 rfl)
theorem dX3_shadedFrom_14 : DR cX3_shadedFrom 14 (.iload_n 3) 1 := dk_29 (bA_sl (a := 0) (j := 14) bkX3_shadedFrom_0 rfl)
theorem dX3_shadedFrom_15 : DR cX3_shadedFrom 15 (.invokevirtual 93) 3 := dk_182 (bA_sl (a := 0) (j := 15) bkX3_shadedFrom_0 rfl) (bA_sl (a := 0) (j := 16) bkX3_shadedFrom_0 rfl) (bA_sl (a := 0) (j := 17) bkX3_shadedFrom_0 rfl) (by decide) rfl
theorem dX3_shadedFrom_18 : DR cX3_shadedFrom 18 (.ifCond .le 18) 3 := dk_158 (bA_sl (a := 0) (j := 18) bkX3_shadedFrom_0 rfl) (bA_sl (a := 0) (j := 19) bkX3_shadedFrom_0 rfl) (bA_sl (a := 0) (j := 20) bkX3_shadedFrom_0 rfl) (by decide) (by decide)
theorem dX3_shadedFrom_21 : DR cX3_shadedFrom 21 (.aload_n 0) 1 := dk_42 (bA_sl (a := 0) (j := 21) bkX3_shadedFrom_0 rfl)
theorem dX3_shadedFrom_22 : DR cX3_shadedFrom 22 (.iload_n 1) 1 := dk_27 (bA_sl (a := 0) (j := 22) bkX3_shadedFrom_0 rfl)
theorem dX3_shadedFrom_23 : DR cX3_shadedFrom 23 (.iload_n 3) 1 := dk_29 (bA_sl (a := 0) (j := 23) bkX3_shadedFrom_0 rfl)
theorem dX3_shadedFrom_24 : DR cX3_shadedFrom 24 (.invokevirtual 96) 3 := dk_182 (bA_sl (a := 0) (j := 24) bkX3_shadedFrom_0 rfl) (bA_sl (a := 0) (j := 25) bkX3_shadedFrom_0 rfl) (bA_sl (a := 0) (j := 26) bkX3_shadedFrom_0 rfl) (by decide) rfl
theorem dX3_shadedFrom_27 : DR cX3_shadedFrom 27 (.ifCond .eq 9) 3 := dk_153 (bA_sl (a := 0) (j := 27) bkX3_shadedFrom_0 rfl) (bA_sl (a := 0) (j := 28) bkX3_shadedFrom_0 rfl) (bA_sl (a := 0) (j := 29) bkX3_shadedFrom_0 rfl) (by decide) (by decide)
theorem dX3_shadedFrom_30 : DR cX3_shadedFrom 30 (.iload_n 2) 1 := dk_28 (bA_sl (a := 0) (j := 30) bkX3_shadedFrom_0 rfl)
theorem dX3_shadedFrom_31 : DR cX3_shadedFrom 31 (.iconst 1) 1 := dk_4 (bA_sl (a := 0) (j := 31) bkX3_shadedFrom_0 rfl)
theorem dX3_shadedFrom_32 : DR cX3_shadedFrom 32 (.iload_n 3) 1 := dk_29 (bA_sl (a := 0) (j := 32) bkX3_shadedFrom_0 rfl)
theorem dX3_shadedFrom_33 : DR cX3_shadedFrom 33 (.ishl) 1 := dk_120 (bA_sl (a := 0) (j := 33) bkX3_shadedFrom_0 rfl)
theorem dX3_shadedFrom_34 : DR cX3_shadedFrom 34 (.ior) 1 := dk_128 (bA_sl (a := 0) (j := 34) bkX3_shadedFrom_0 rfl)
theorem dX3_shadedFrom_35 : DR cX3_shadedFrom 35 (.istore_n 2) 1 := dk_61 (bA_sl (a := 0) (j := 35) bkX3_shadedFrom_0 rfl)
theorem dX3_shadedFrom_36 : DR cX3_shadedFrom 36 (.iinc 3 1) 3 := dk_132 (bA_sl (a := 0) (j := 36) bkX3_shadedFrom_0 rfl) (bA_sl (a := 0) (j := 37) bkX3_shadedFrom_0 rfl) (bA_sl (a := 0) (j := 38) bkX3_shadedFrom_0 rfl) (by decide) (by decide)
theorem dX3_shadedFrom_39 : DR cX3_shadedFrom 39 (.goto (-35)) 3 := dk_167 (bA_sl (a := 0) (j := 39) bkX3_shadedFrom_0 rfl) (bA_sl (a := 0) (j := 40) bkX3_shadedFrom_0 rfl) (bA_sl (a := 0) (j := 41) bkX3_shadedFrom_0 rfl) (by decide) (by decide)
theorem dX3_shadedFrom_42 : DR cX3_shadedFrom 42 (.iload_n 2) 1 := dk_28 (bA_sl (a := 0) (j := 42) bkX3_shadedFrom_0 rfl)
theorem dX3_shadedFrom_43 : DR cX3_shadedFrom 43 (.ireturn) 1 := dk_172 (bA_sl (a := 0) (j := 43) bkX3_shadedFrom_0 rfl)
theorem bkX3_leastHeight_0 : ((cX3_leastHeight.data.toList.drop 0).take 64).map UInt8.toNat = [42, 27, 28, 182, 0, 93, 154, 0, 5, 2, 172, 4, 62, 27, 28, 100, 184, 0, 80, 54, 4, 27, 28, 184, 0, 86, 54, 5, 27, 28, 184, 0, 90, 4, 96, 54, 6, 21, 6, 21, 5, 162, 0, 54, 21, 6, 28, 100, 184, 0, 80, 54, 7, 21, 7, 158, 0, 24, 42, 180, 0, 18, 21, 6] := by decide +kernel
theorem dX3_leastHeight_0 : DR cX3_leastHeight 0 (.aload_n 0) 1 := dk_42 (bA_sl (a := 0) (j := 0) bkX3_leastHeight_0 rfl)
theorem dX3_leastHeight_1 : DR cX3_leastHeight 1 (.iload_n 1) 1 := dk_27 (bA_sl (a := 0) (j := 1) bkX3_leastHeight_0 rfl)
theorem dX3_leastHeight_2 : DR cX3_leastHeight 2 (.iload_n 2) 1 := dk_28 (bA_sl (a := 0) (j := 2) bkX3_leastHeight_0 rfl)
theorem dX3_leastHeight_3 : DR cX3_leastHeight 3 (.invokevirtual 93) 3 := dk_182 (bA_sl (a := 0) (j := 3) bkX3_leastHeight_0 rfl) (bA_sl (a := 0) (j := 4) bkX3_leastHeight_0 rfl) (bA_sl (a := 0) (j := 5) bkX3_leastHeight_0 rfl) (by decide) rfl
theorem dX3_leastHeight_6 : DR cX3_leastHeight 6 (.ifCond .ne 5) 3 := dk_154 (bA_sl (a := 0) (j := 6) bkX3_leastHeight_0 rfl) (bA_sl (a := 0) (j := 7) bkX3_leastHeight_0 rfl) (bA_sl (a := 0) (j := 8) bkX3_leastHeight_0 rfl) (by decide) (by decide)
theorem dX3_leastHeight_9 : DR cX3_leastHeight 9 (.iconst (-1)) 1 := dk_2 (bA_sl (a := 0) (j := 9) bkX3_leastHeight_0 rfl)
theorem dX3_leastHeight_10 : DR cX3_leastHeight 10 (.ireturn) 1 := dk_172 (bA_sl (a := 0) (j := 10) bkX3_leastHeight_0 rfl)
theorem dX3_leastHeight_11 : DR cX3_leastHeight 11 (.iconst 1) 1 := dk_4 (bA_sl (a := 0) (j := 11) bkX3_leastHeight_0 rfl)
theorem dX3_leastHeight_12 : DR cX3_leastHeight 12 (.istore_n 3) 1 := dk_62 (bA_sl (a := 0) (j := 12) bkX3_leastHeight_0 rfl)
theorem dX3_leastHeight_13 : DR cX3_leastHeight 13 (.iload_n 1) 1 := dk_27 (bA_sl (a := 0) (j := 13) bkX3_leastHeight_0 rfl)
theorem dX3_leastHeight_14 : DR cX3_leastHeight 14 (.iload_n 2) 1 := dk_28 (bA_sl (a := 0) (j := 14) bkX3_leastHeight_0 rfl)
theorem dX3_leastHeight_15 : DR cX3_leastHeight 15 (.isub) 1 := dk_100 (bA_sl (a := 0) (j := 15) bkX3_leastHeight_0 rfl)
theorem dX3_leastHeight_16 : DR cX3_leastHeight 16 (.invokestatic 80) 3 := dk_184 (bA_sl (a := 0) (j := 16) bkX3_leastHeight_0 rfl) (bA_sl (a := 0) (j := 17) bkX3_leastHeight_0 rfl) (bA_sl (a := 0) (j := 18) bkX3_leastHeight_0 rfl) (by decide) rfl
theorem dX3_leastHeight_19 : DR cX3_leastHeight 19 (.istore 4) 2 := dk_54 (bA_sl (a := 0) (j := 19) bkX3_leastHeight_0 rfl) (bA_sl (a := 0) (j := 20) bkX3_leastHeight_0 rfl) (by decide)
theorem dX3_leastHeight_21 : DR cX3_leastHeight 21 (.iload_n 1) 1 := dk_27 (bA_sl (a := 0) (j := 21) bkX3_leastHeight_0 rfl)
theorem dX3_leastHeight_22 : DR cX3_leastHeight 22 (.iload_n 2) 1 := dk_28 (bA_sl (a := 0) (j := 22) bkX3_leastHeight_0 rfl)
theorem dX3_leastHeight_23 : DR cX3_leastHeight 23 (.invokestatic 86) 3 := dk_184 (bA_sl (a := 0) (j := 23) bkX3_leastHeight_0 rfl) (bA_sl (a := 0) (j := 24) bkX3_leastHeight_0 rfl) (bA_sl (a := 0) (j := 25) bkX3_leastHeight_0 rfl) (by decide) rfl
theorem dX3_leastHeight_26 : DR cX3_leastHeight 26 (.istore 5) 2 := dk_54 (bA_sl (a := 0) (j := 26) bkX3_leastHeight_0 rfl) (bA_sl (a := 0) (j := 27) bkX3_leastHeight_0 rfl) (by decide)
theorem dX3_leastHeight_28 : DR cX3_leastHeight 28 (.iload_n 1) 1 := dk_27 (bA_sl (a := 0) (j := 28) bkX3_leastHeight_0 rfl)
theorem dX3_leastHeight_29 : DR cX3_leastHeight 29 (.iload_n 2) 1 := dk_28 (bA_sl (a := 0) (j := 29) bkX3_leastHeight_0 rfl)
theorem dX3_leastHeight_30 : DR cX3_leastHeight 30 (.invokestatic 90) 3 := dk_184 (bA_sl (a := 0) (j := 30) bkX3_leastHeight_0 rfl) (bA_sl (a := 0) (j := 31) bkX3_leastHeight_0 rfl) (bA_sl (a := 0) (j := 32) bkX3_leastHeight_0 rfl) (by decide) rfl
theorem dX3_leastHeight_33 : DR cX3_leastHeight 33 (.iconst 1) 1 := dk_4 (bA_sl (a := 0) (j := 33) bkX3_leastHeight_0 rfl)
theorem dX3_leastHeight_34 : DR cX3_leastHeight 34 (.iadd) 1 := dk_96 (bA_sl (a := 0) (j := 34) bkX3_leastHeight_0 rfl)
theorem dX3_leastHeight_35 : DR cX3_leastHeight 35 (.istore 6) 2 := dk_54 (bA_sl (a := 0) (j := 35) bkX3_leastHeight_0 rfl) (bA_sl (a := 0) (j := 36) bkX3_leastHeight_0 rfl) (by decide)
theorem dX3_leastHeight_37 : DR cX3_leastHeight 37 (.iload 6) 2 := dk_21 (bA_sl (a := 0) (j := 37) bkX3_leastHeight_0 rfl) (bA_sl (a := 0) (j := 38) bkX3_leastHeight_0 rfl) (by decide)
theorem dX3_leastHeight_39 : DR cX3_leastHeight 39 (.iload 5) 2 := dk_21 (bA_sl (a := 0) (j := 39) bkX3_leastHeight_0 rfl) (bA_sl (a := 0) (j := 40) bkX3_leastHeight_0 rfl) (by decide)
theorem dX3_leastHeight_41 : DR cX3_leastHeight 41 (.if_icmp .ge 54) 3 := dk_162 (bA_sl (a := 0) (j := 41) bkX3_leastHeight_0 rfl) (bA_sl (a := 0) (j := 42) bkX3_leastHeight_0 rfl) (bA_sl (a := 0) (j := 43) bkX3_leastHeight_0 rfl) (by decide) (by decide)
theorem dX3_leastHeight_44 : DR cX3_leastHeight 44 (.iload 6) 2 := dk_21 (bA_sl (a := 0) (j := 44) bkX3_leastHeight_0 rfl) (bA_sl (a := 0) (j := 45) bkX3_leastHeight_0 rfl) (by decide)
theorem dX3_leastHeight_46 : DR cX3_leastHeight 46 (.iload_n 2) 1 := dk_28 (bA_sl (a := 0) (j := 46) bkX3_leastHeight_0 rfl)
theorem dX3_leastHeight_47 : DR cX3_leastHeight 47 (.isub) 1 := dk_100 (bA_sl (a := 0) (j := 47) bkX3_leastHeight_0 rfl)
theorem dX3_leastHeight_48 : DR cX3_leastHeight 48 (.invokestatic 80) 3 := dk_184 (bA_sl (a := 0) (j := 48) bkX3_leastHeight_0 rfl) (bA_sl (a := 0) (j := 49) bkX3_leastHeight_0 rfl) (bA_sl (a := 0) (j := 50) bkX3_leastHeight_0 rfl) (by decide) rfl
theorem dX3_leastHeight_51 : DR cX3_leastHeight 51 (.istore 7) 2 := dk_54 (bA_sl (a := 0) (j := 51) bkX3_leastHeight_0 rfl) (bA_sl (a := 0) (j := 52) bkX3_leastHeight_0 rfl) (by decide)
theorem dX3_leastHeight_53 : DR cX3_leastHeight 53 (.iload 7) 2 := dk_21 (bA_sl (a := 0) (j := 53) bkX3_leastHeight_0 rfl) (bA_sl (a := 0) (j := 54) bkX3_leastHeight_0 rfl) (by decide)
theorem dX3_leastHeight_55 : DR cX3_leastHeight 55 (.ifCond .le 24) 3 := dk_158 (bA_sl (a := 0) (j := 55) bkX3_leastHeight_0 rfl) (bA_sl (a := 0) (j := 56) bkX3_leastHeight_0 rfl) (bA_sl (a := 0) (j := 57) bkX3_leastHeight_0 rfl) (by decide) (by decide)
theorem dX3_leastHeight_58 : DR cX3_leastHeight 58 (.aload_n 0) 1 := dk_42 (bA_sl (a := 0) (j := 58) bkX3_leastHeight_0 rfl)
theorem dX3_leastHeight_59 : DR cX3_leastHeight 59 (.getfield 18) 3 := dk_180 (bA_sl (a := 0) (j := 59) bkX3_leastHeight_0 rfl) (bA_sl (a := 0) (j := 60) bkX3_leastHeight_0 rfl) (bA_sl (a := 0) (j := 61) bkX3_leastHeight_0 rfl) (by decide) rfl
theorem dX3_leastHeight_62 : DR cX3_leastHeight 62 (.iload 6) 2 := dk_21 (bA_sl (a := 0) (j := 62) bkX3_leastHeight_0 rfl) (bA_sl (a := 0) (j := 63) bkX3_leastHeight_0 rfl) (by decide)
theorem bkX3_leastHeight_1 : ((cX3_leastHeight.data.toList.drop 64).take 64).map UInt8.toNat = [46, 21, 4, 104, 21, 7, 96, 4, 100, 21, 7, 108, 167, 0, 4, 3, 54, 8, 29, 21, 8, 184, 0, 86, 62, 132, 6, 1, 167, 255, 201, 29, 16, 99, 164, 0, 7, 2, 167, 0, 4, 29, 172] := by decide +kernel
theorem dX3_leastHeight_64 : DR cX3_leastHeight 64 (.iaload) 1 := dk_46 (bA_sl (a := 64) (j := 0) bkX3_leastHeight_1 rfl)
theorem dX3_leastHeight_65 : DR cX3_leastHeight 65 (.iload 4) 2 := dk_21 (bA_sl (a := 64) (j := 1) bkX3_leastHeight_1 rfl) (bA_sl (a := 64) (j := 2) bkX3_leastHeight_1 rfl) (by decide)
theorem dX3_leastHeight_67 : DR cX3_leastHeight 67 (.imul) 1 := dk_104 (bA_sl (a := 64) (j := 3) bkX3_leastHeight_1 rfl)
theorem dX3_leastHeight_68 : DR cX3_leastHeight 68 (.iload 7) 2 := dk_21 (bA_sl (a := 64) (j := 4) bkX3_leastHeight_1 rfl) (bA_sl (a := 64) (j := 5) bkX3_leastHeight_1 rfl) (by decide)
theorem dX3_leastHeight_70 : DR cX3_leastHeight 70 (.iadd) 1 := dk_96 (bA_sl (a := 64) (j := 6) bkX3_leastHeight_1 rfl)
theorem dX3_leastHeight_71 : DR cX3_leastHeight 71 (.iconst 1) 1 := dk_4 (bA_sl (a := 64) (j := 7) bkX3_leastHeight_1 rfl)
theorem dX3_leastHeight_72 : DR cX3_leastHeight 72 (.isub) 1 := dk_100 (bA_sl (a := 64) (j := 8) bkX3_leastHeight_1 rfl)
theorem dX3_leastHeight_73 : DR cX3_leastHeight 73 (.iload 7) 2 := dk_21 (bA_sl (a := 64) (j := 9) bkX3_leastHeight_1 rfl) (bA_sl (a := 64) (j := 10) bkX3_leastHeight_1 rfl) (by decide)
theorem dX3_leastHeight_75 : DR cX3_leastHeight 75 (.idiv) 1 := dk_108 (bA_sl (a := 64) (j := 11) bkX3_leastHeight_1 rfl)
theorem dX3_leastHeight_76 : DR cX3_leastHeight 76 (.goto 4) 3 := dk_167 (bA_sl (a := 64) (j := 12) bkX3_leastHeight_1 rfl) (bA_sl (a := 64) (j := 13) bkX3_leastHeight_1 rfl) (bA_sl (a := 64) (j := 14) bkX3_leastHeight_1 rfl) (by decide) (by decide)
theorem dX3_leastHeight_79 : DR cX3_leastHeight 79 (.iconst 0) 1 := dk_3 (bA_sl (a := 64) (j := 15) bkX3_leastHeight_1 rfl)
theorem dX3_leastHeight_80 : DR cX3_leastHeight 80 (.istore 8) 2 := dk_54 (bA_sl (a := 64) (j := 16) bkX3_leastHeight_1 rfl) (bA_sl (a := 64) (j := 17) bkX3_leastHeight_1 rfl) (by decide)
theorem dX3_leastHeight_82 : DR cX3_leastHeight 82 (.iload_n 3) 1 := dk_29 (bA_sl (a := 64) (j := 18) bkX3_leastHeight_1 rfl)
theorem dX3_leastHeight_83 : DR cX3_leastHeight 83 (.iload 8) 2 := dk_21 (bA_sl (a := 64) (j := 19) bkX3_leastHeight_1 rfl) (bA_sl (a := 64) (j := 20) bkX3_leastHeight_1 rfl) (by decide)
theorem dX3_leastHeight_85 : DR cX3_leastHeight 85 (.invokestatic 86) 3 := dk_184 (bA_sl (a := 64) (j := 21) bkX3_leastHeight_1 rfl) (bA_sl (a := 64) (j := 22) bkX3_leastHeight_1 rfl) (bA_sl (a := 64) (j := 23) bkX3_leastHeight_1 rfl) (by decide) rfl
theorem dX3_leastHeight_88 : DR cX3_leastHeight 88 (.istore_n 3) 1 := dk_62 (bA_sl (a := 64) (j := 24) bkX3_leastHeight_1 rfl)
theorem dX3_leastHeight_89 : DR cX3_leastHeight 89 (.iinc 6 1) 3 := dk_132 (bA_sl (a := 64) (j := 25) bkX3_leastHeight_1 rfl) (bA_sl (a := 64) (j := 26) bkX3_leastHeight_1 rfl) (bA_sl (a := 64) (j := 27) bkX3_leastHeight_1 rfl) (by decide) (by decide)
theorem dX3_leastHeight_92 : DR cX3_leastHeight 92 (.goto (-55)) 3 := dk_167 (bA_sl (a := 64) (j := 28) bkX3_leastHeight_1 rfl) (bA_sl (a := 64) (j := 29) bkX3_leastHeight_1 rfl) (bA_sl (a := 64) (j := 30) bkX3_leastHeight_1 rfl) (by decide) (by decide)
theorem dX3_leastHeight_95 : DR cX3_leastHeight 95 (.iload_n 3) 1 := dk_29 (bA_sl (a := 64) (j := 31) bkX3_leastHeight_1 rfl)
theorem dX3_leastHeight_96 : DR cX3_leastHeight 96 (.bipush 99) 2 := dk_16 (bA_sl (a := 64) (j := 32) bkX3_leastHeight_1 rfl) (bA_sl (a := 64) (j := 33) bkX3_leastHeight_1 rfl) (by decide) (by decide)
theorem dX3_leastHeight_98 : DR cX3_leastHeight 98 (.if_icmp .le 7) 3 := dk_164 (bA_sl (a := 64) (j := 34) bkX3_leastHeight_1 rfl) (bA_sl (a := 64) (j := 35) bkX3_leastHeight_1 rfl) (bA_sl (a := 64) (j := 36) bkX3_leastHeight_1 rfl) (by decide) (by decide)
theorem dX3_leastHeight_101 : DR cX3_leastHeight 101 (.iconst (-1)) 1 := dk_2 (bA_sl (a := 64) (j := 37) bkX3_leastHeight_1 rfl)
theorem dX3_leastHeight_102 : DR cX3_leastHeight 102 (.goto 4) 3 := dk_167 (bA_sl (a := 64) (j := 38) bkX3_leastHeight_1 rfl) (bA_sl (a := 64) (j := 39) bkX3_leastHeight_1 rfl) (bA_sl (a := 64) (j := 40) bkX3_leastHeight_1 rfl) (by decide) (by decide)
theorem dX3_leastHeight_105 : DR cX3_leastHeight 105 (.iload_n 3) 1 := dk_29 (bA_sl (a := 64) (j := 41) bkX3_leastHeight_1 rfl)
theorem dX3_leastHeight_106 : DR cX3_leastHeight 106 (.ireturn) 1 := dk_172 (bA_sl (a := 64) (j := 42) bkX3_leastHeight_1 rfl)
theorem bkX3_leastHeightForAll_0 : ((cX3_leastHeightForAll.data.toList.drop 0).take 64).map UInt8.toNat = [4, 62, 3, 54, 4, 21, 4, 42, 180, 0, 33, 162, 0, 42, 28, 21, 4, 122, 4, 126, 153, 0, 27, 42, 27, 21, 4, 182, 0, 103, 54, 5, 21, 5, 2, 160, 0, 5, 2, 172, 29, 21, 5, 184, 0, 86, 62, 132, 4, 1, 167, 255, 211, 29, 172] := by decide +kernel
theorem dX3_leastHeightForAll_0 : DR cX3_leastHeightForAll 0 (.iconst 1) 1 := dk_4 (bA_sl (a := 0) (j := 0) bkX3_leastHeightForAll_0 rfl)
theorem dX3_leastHeightForAll_1 : DR cX3_leastHeightForAll 1 (.istore_n 3) 1 := dk_62 (bA_sl (a := 0) (j := 1) bkX3_leastHeightForAll_0 rfl)
theorem dX3_leastHeightForAll_2 : DR cX3_leastHeightForAll 2 (.iconst 0) 1 := dk_3 (bA_sl (a := 0) (j := 2) bkX3_leastHeightForAll_0 rfl)
theorem dX3_leastHeightForAll_3 : DR cX3_leastHeightForAll 3 (.istore 4) 2 := dk_54 (bA_sl (a := 0) (j := 3) bkX3_leastHeightForAll_0 rfl) (bA_sl (a := 0) (j := 4) bkX3_leastHeightForAll_0 rfl) (by decide)
theorem dX3_leastHeightForAll_5 : DR cX3_leastHeightForAll 5 (.iload 4) 2 := dk_21 (bA_sl (a := 0) (j := 5) bkX3_leastHeightForAll_0 rfl) (bA_sl (a := 0) (j := 6) bkX3_leastHeightForAll_0 rfl) (by decide)
theorem dX3_leastHeightForAll_7 : DR cX3_leastHeightForAll 7 (.aload_n 0) 1 := dk_42 (bA_sl (a := 0) (j := 7) bkX3_leastHeightForAll_0 rfl)
theorem dX3_leastHeightForAll_8 : DR cX3_leastHeightForAll 8 (.getfield 33) 3 := dk_180 (bA_sl (a := 0) (j := 8) bkX3_leastHeightForAll_0 rfl) (bA_sl (a := 0) (j := 9) bkX3_leastHeightForAll_0 rfl) (bA_sl (a := 0) (j := 10) bkX3_leastHeightForAll_0 rfl) (by decide) rfl
theorem dX3_leastHeightForAll_11 : DR cX3_leastHeightForAll 11 (.if_icmp .ge 42) 3 := dk_162 (bA_sl (a := 0) (j := 11) bkX3_leastHeightForAll_0 rfl) (bA_sl (a := 0) (j := 12) bkX3_leastHeightForAll_0 rfl) (bA_sl (a := 0) (j := 13) bkX3_leastHeightForAll_0 rfl) (by decide) (by decide)
theorem dX3_leastHeightForAll_14 : DR cX3_leastHeightForAll 14 (.iload_n 2) 1 := dk_28 (bA_sl (a := 0) (j := 14) bkX3_leastHeightForAll_0 rfl)
theorem dX3_leastHeightForAll_15 : DR cX3_leastHeightForAll 15 (.iload 4) 2 := dk_21 (bA_sl (a := 0) (j := 15) bkX3_leastHeightForAll_0 rfl) (bA_sl (a := 0) (j := 16) bkX3_leastHeightForAll_0 rfl) (by decide)
theorem dX3_leastHeightForAll_17 : DR cX3_leastHeightForAll 17 (.ishr) 1 := dk_122 (bA_sl (a := 0) (j := 17) bkX3_leastHeightForAll_0 rfl)
theorem dX3_leastHeightForAll_18 : DR cX3_leastHeightForAll 18 (.iconst 1) 1 := dk_4 (bA_sl (a := 0) (j := 18) bkX3_leastHeightForAll_0 rfl)
theorem dX3_leastHeightForAll_19 : DR cX3_leastHeightForAll 19 (.iand) 1 := dk_126 (bA_sl (a := 0) (j := 19) bkX3_leastHeightForAll_0 rfl)
theorem dX3_leastHeightForAll_20 : DR cX3_leastHeightForAll 20 (.ifCond .eq 27) 3 := dk_153 (bA_sl (a := 0) (j := 20) bkX3_leastHeightForAll_0 rfl) (bA_sl (a := 0) (j := 21) bkX3_leastHeightForAll_0 rfl) (bA_sl (a := 0) (j := 22) bkX3_leastHeightForAll_0 rfl) (by decide) (by decide)
theorem dX3_leastHeightForAll_23 : DR cX3_leastHeightForAll 23 (.aload_n 0) 1 := dk_42 (bA_sl (a := 0) (j := 23) bkX3_leastHeightForAll_0 rfl)
theorem dX3_leastHeightForAll_24 : DR cX3_leastHeightForAll 24 (.iload_n 1) 1 := dk_27 (bA_sl (a := 0) (j := 24) bkX3_leastHeightForAll_0 rfl)
theorem dX3_leastHeightForAll_25 : DR cX3_leastHeightForAll 25 (.iload 4) 2 := dk_21 (bA_sl (a := 0) (j := 25) bkX3_leastHeightForAll_0 rfl) (bA_sl (a := 0) (j := 26) bkX3_leastHeightForAll_0 rfl) (by decide)
theorem dX3_leastHeightForAll_27 : DR cX3_leastHeightForAll 27 (.invokevirtual 103) 3 := dk_182 (bA_sl (a := 0) (j := 27) bkX3_leastHeightForAll_0 rfl) (bA_sl (a := 0) (j := 28) bkX3_leastHeightForAll_0 rfl) (bA_sl (a := 0) (j := 29) bkX3_leastHeightForAll_0 rfl) (by decide) rfl
theorem dX3_leastHeightForAll_30 : DR cX3_leastHeightForAll 30 (.istore 5) 2 := dk_54 (bA_sl (a := 0) (j := 30) bkX3_leastHeightForAll_0 rfl) (bA_sl (a := 0) (j := 31) bkX3_leastHeightForAll_0 rfl) (by decide)
theorem dX3_leastHeightForAll_32 : DR cX3_leastHeightForAll 32 (.iload 5) 2 := dk_21 (bA_sl (a := 0) (j := 32) bkX3_leastHeightForAll_0 rfl) (bA_sl (a := 0) (j := 33) bkX3_leastHeightForAll_0 rfl) (by decide)
theorem dX3_leastHeightForAll_34 : DR cX3_leastHeightForAll 34 (.iconst (-1)) 1 := dk_2 (bA_sl (a := 0) (j := 34) bkX3_leastHeightForAll_0 rfl)
theorem dX3_leastHeightForAll_35 : DR cX3_leastHeightForAll 35 (.if_icmp .ne 5) 3 := dk_160 (bA_sl (a := 0) (j := 35) bkX3_leastHeightForAll_0 rfl) (bA_sl (a := 0) (j := 36) bkX3_leastHeightForAll_0 rfl) (bA_sl (a := 0) (j := 37) bkX3_leastHeightForAll_0 rfl) (by decide) (by decide)
theorem dX3_leastHeightForAll_38 : DR cX3_leastHeightForAll 38 (.iconst (-1)) 1 := dk_2 (bA_sl (a := 0) (j := 38) bkX3_leastHeightForAll_0 rfl)
theorem dX3_leastHeightForAll_39 : DR cX3_leastHeightForAll 39 (.ireturn) 1 := dk_172 (bA_sl (a := 0) (j := 39) bkX3_leastHeightForAll_0 rfl)
theorem dX3_leastHeightForAll_40 : DR cX3_leastHeightForAll 40 (.iload_n 3) 1 := dk_29 (bA_sl (a := 0) (j := 40) bkX3_leastHeightForAll_0 rfl)
theorem dX3_leastHeightForAll_41 : DR cX3_leastHeightForAll 41 (.iload 5) 2 := dk_21 (bA_sl (a := 0) (j := 41) bkX3_leastHeightForAll_0 rfl) (bA_sl (a := 0) (j := 42) bkX3_leastHeightForAll_0 rfl) (by decide)
theorem dX3_leastHeightForAll_43 : DR cX3_leastHeightForAll 43 (.invokestatic 86) 3 := dk_184 (bA_sl (a := 0) (j := 43) bkX3_leastHeightForAll_0 rfl) (bA_sl (a := 0) (j := 44) bkX3_leastHeightForAll_0 rfl) (bA_sl (a := 0) (j := 45) bkX3_leastHeightForAll_0 rfl) (by decide) rfl
theorem dX3_leastHeightForAll_46 : DR cX3_leastHeightForAll 46 (.istore_n 3) 1 := dk_62 (bA_sl (a := 0) (j := 46) bkX3_leastHeightForAll_0 rfl)
theorem dX3_leastHeightForAll_47 : DR cX3_leastHeightForAll 47 (.iinc 4 1) 3 := dk_132 (bA_sl (a := 0) (j := 47) bkX3_leastHeightForAll_0 rfl) (bA_sl (a := 0) (j := 48) bkX3_leastHeightForAll_0 rfl) (bA_sl (a := 0) (j := 49) bkX3_leastHeightForAll_0 rfl) (by decide) (by decide)
theorem dX3_leastHeightForAll_50 : DR cX3_leastHeightForAll 50 (.goto (-45)) 3 := dk_167 (bA_sl (a := 0) (j := 50) bkX3_leastHeightForAll_0 rfl) (bA_sl (a := 0) (j := 51) bkX3_leastHeightForAll_0 rfl) (bA_sl (a := 0) (j := 52) bkX3_leastHeightForAll_0 rfl) (by decide) (by decide)
theorem dX3_leastHeightForAll_53 : DR cX3_leastHeightForAll 53 (.iload_n 3) 1 := dk_29 (bA_sl (a := 0) (j := 53) bkX3_leastHeightForAll_0 rfl)
theorem dX3_leastHeightForAll_54 : DR cX3_leastHeightForAll 54 (.ireturn) 1 := dk_172 (bA_sl (a := 0) (j := 54) bkX3_leastHeightForAll_0 rfl)
theorem bkX3_target_0 : ((cX3_target.data.toList.drop 0).take 64).map UInt8.toNat = [27, 54, 4, 32, 10, 148, 154, 0, 11, 27, 4, 100, 54, 4, 167, 0, 27, 32, 20, 0, 106, 148, 154, 0, 11, 27, 4, 96, 54, 4, 167, 0, 11, 32, 9, 148, 153, 0, 5, 2, 172, 42, 21, 4, 182, 0, 108, 153, 0, 8, 21, 4, 167, 0, 4, 2, 172] := by decide +kernel
theorem dX3_target_0 : DR cX3_target 0 (.iload_n 1) 1 := dk_27 (bA_sl (a := 0) (j := 0) bkX3_target_0 rfl)
theorem dX3_target_1 : DR cX3_target 1 (.istore 4) 2 := dk_54 (bA_sl (a := 0) (j := 1) bkX3_target_0 rfl) (bA_sl (a := 0) (j := 2) bkX3_target_0 rfl) (by decide)
theorem dX3_target_3 : DR cX3_target 3 (.lload_n 2) 1 := dk_32 (bA_sl (a := 0) (j := 3) bkX3_target_0 rfl)
theorem dX3_target_4 : DR cX3_target 4 (.lconst 1) 1 := dk_10 (bA_sl (a := 0) (j := 4) bkX3_target_0 rfl)
theorem dX3_target_5 : DR cX3_target 5 (.lcmp) 1 := dk_148 (bA_sl (a := 0) (j := 5) bkX3_target_0 rfl)
theorem dX3_target_6 : DR cX3_target 6 (.ifCond .ne 11) 3 := dk_154 (bA_sl (a := 0) (j := 6) bkX3_target_0 rfl) (bA_sl (a := 0) (j := 7) bkX3_target_0 rfl) (bA_sl (a := 0) (j := 8) bkX3_target_0 rfl) (by decide) (by decide)
theorem dX3_target_9 : DR cX3_target 9 (.iload_n 1) 1 := dk_27 (bA_sl (a := 0) (j := 9) bkX3_target_0 rfl)
theorem dX3_target_10 : DR cX3_target 10 (.iconst 1) 1 := dk_4 (bA_sl (a := 0) (j := 10) bkX3_target_0 rfl)
theorem dX3_target_11 : DR cX3_target 11 (.isub) 1 := dk_100 (bA_sl (a := 0) (j := 11) bkX3_target_0 rfl)
theorem dX3_target_12 : DR cX3_target 12 (.istore 4) 2 := dk_54 (bA_sl (a := 0) (j := 12) bkX3_target_0 rfl) (bA_sl (a := 0) (j := 13) bkX3_target_0 rfl) (by decide)
theorem dX3_target_14 : DR cX3_target 14 (.goto 27) 3 := dk_167 (bA_sl (a := 0) (j := 14) bkX3_target_0 rfl) (bA_sl (a := 0) (j := 15) bkX3_target_0 rfl) (bA_sl (a := 0) (j := 16) bkX3_target_0 rfl) (by decide) (by decide)
theorem dX3_target_17 : DR cX3_target 17 (.lload_n 2) 1 := dk_32 (bA_sl (a := 0) (j := 17) bkX3_target_0 rfl)
theorem dX3_target_18 : DR cX3_target 18 (.ldc2_w 106) 3 := dk_20 (bA_sl (a := 0) (j := 18) bkX3_target_0 rfl) (bA_sl (a := 0) (j := 19) bkX3_target_0 rfl) (bA_sl (a := 0) (j := 20) bkX3_target_0 rfl) (by decide) rfl
theorem dX3_target_21 : DR cX3_target 21 (.lcmp) 1 := dk_148 (bA_sl (a := 0) (j := 21) bkX3_target_0 rfl)
theorem dX3_target_22 : DR cX3_target 22 (.ifCond .ne 11) 3 := dk_154 (bA_sl (a := 0) (j := 22) bkX3_target_0 rfl) (bA_sl (a := 0) (j := 23) bkX3_target_0 rfl) (bA_sl (a := 0) (j := 24) bkX3_target_0 rfl) (by decide) (by decide)
theorem dX3_target_25 : DR cX3_target 25 (.iload_n 1) 1 := dk_27 (bA_sl (a := 0) (j := 25) bkX3_target_0 rfl)
theorem dX3_target_26 : DR cX3_target 26 (.iconst 1) 1 := dk_4 (bA_sl (a := 0) (j := 26) bkX3_target_0 rfl)
theorem dX3_target_27 : DR cX3_target 27 (.iadd) 1 := dk_96 (bA_sl (a := 0) (j := 27) bkX3_target_0 rfl)
theorem dX3_target_28 : DR cX3_target 28 (.istore 4) 2 := dk_54 (bA_sl (a := 0) (j := 28) bkX3_target_0 rfl) (bA_sl (a := 0) (j := 29) bkX3_target_0 rfl) (by decide)
theorem dX3_target_30 : DR cX3_target 30 (.goto 11) 3 := dk_167 (bA_sl (a := 0) (j := 30) bkX3_target_0 rfl) (bA_sl (a := 0) (j := 31) bkX3_target_0 rfl) (bA_sl (a := 0) (j := 32) bkX3_target_0 rfl) (by decide) (by decide)
theorem dX3_target_33 : DR cX3_target 33 (.lload_n 2) 1 := dk_32 (bA_sl (a := 0) (j := 33) bkX3_target_0 rfl)
theorem dX3_target_34 : DR cX3_target 34 (.lconst 0) 1 := dk_9 (bA_sl (a := 0) (j := 34) bkX3_target_0 rfl)
theorem dX3_target_35 : DR cX3_target 35 (.lcmp) 1 := dk_148 (bA_sl (a := 0) (j := 35) bkX3_target_0 rfl)
theorem dX3_target_36 : DR cX3_target 36 (.ifCond .eq 5) 3 := dk_153 (bA_sl (a := 0) (j := 36) bkX3_target_0 rfl) (bA_sl (a := 0) (j := 37) bkX3_target_0 rfl) (bA_sl (a := 0) (j := 38) bkX3_target_0 rfl) (by decide) (by decide)
theorem dX3_target_39 : DR cX3_target 39 (.iconst (-1)) 1 := dk_2 (bA_sl (a := 0) (j := 39) bkX3_target_0 rfl)
theorem dX3_target_40 : DR cX3_target 40 (.ireturn) 1 := dk_172 (bA_sl (a := 0) (j := 40) bkX3_target_0 rfl)
theorem dX3_target_41 : DR cX3_target 41 (.aload_n 0) 1 := dk_42 (bA_sl (a := 0) (j := 41) bkX3_target_0 rfl)
theorem dX3_target_42 : DR cX3_target 42 (.iload 4) 2 := dk_21 (bA_sl (a := 0) (j := 42) bkX3_target_0 rfl) (bA_sl (a := 0) (j := 43) bkX3_target_0 rfl) (by decide)
theorem dX3_target_44 : DR cX3_target 44 (.invokevirtual 108) 3 := dk_182 (bA_sl (a := 0) (j := 44) bkX3_target_0 rfl) (bA_sl (a := 0) (j := 45) bkX3_target_0 rfl) (bA_sl (a := 0) (j := 46) bkX3_target_0 rfl) (by decide) rfl
theorem dX3_target_47 : DR cX3_target 47 (.ifCond .eq 8) 3 := dk_153 (bA_sl (a := 0) (j := 47) bkX3_target_0 rfl) (bA_sl (a := 0) (j := 48) bkX3_target_0 rfl) (bA_sl (a := 0) (j := 49) bkX3_target_0 rfl) (by decide) (by decide)
theorem dX3_target_50 : DR cX3_target 50 (.iload 4) 2 := dk_21 (bA_sl (a := 0) (j := 50) bkX3_target_0 rfl) (bA_sl (a := 0) (j := 51) bkX3_target_0 rfl) (by decide)
theorem dX3_target_52 : DR cX3_target 52 (.goto 4) 3 := dk_167 (bA_sl (a := 0) (j := 52) bkX3_target_0 rfl) (bA_sl (a := 0) (j := 53) bkX3_target_0 rfl) (bA_sl (a := 0) (j := 54) bkX3_target_0 rfl) (by decide) (by decide)
theorem dX3_target_55 : DR cX3_target 55 (.iconst (-1)) 1 := dk_2 (bA_sl (a := 0) (j := 55) bkX3_target_0 rfl)
theorem dX3_target_56 : DR cX3_target 56 (.ireturn) 1 := dk_172 (bA_sl (a := 0) (j := 56) bkX3_target_0 rfl)
theorem bkX3_whyNot_0 : ((cX3_whyNot.data.toList.drop 0).take 64).map UInt8.toNat = [42, 42, 180, 0, 43, 31, 182, 0, 112, 2, 160, 0, 5, 4, 172, 42, 180, 0, 55, 154, 0, 5, 5, 172, 42, 180, 0, 40, 17, 39, 15, 161, 0, 7, 6, 167, 0, 4, 3, 172] := by decide +kernel
theorem dX3_whyNot_0 : DR cX3_whyNot 0 (.aload_n 0) 1 := dk_42 (bA_sl (a := 0) (j := 0) bkX3_whyNot_0 rfl)
theorem dX3_whyNot_1 : DR cX3_whyNot 1 (.aload_n 0) 1 := dk_42 (bA_sl (a := 0) (j := 1) bkX3_whyNot_0 rfl)
theorem dX3_whyNot_2 : DR cX3_whyNot 2 (.getfield 43) 3 := dk_180 (bA_sl (a := 0) (j := 2) bkX3_whyNot_0 rfl) (bA_sl (a := 0) (j := 3) bkX3_whyNot_0 rfl) (bA_sl (a := 0) (j := 4) bkX3_whyNot_0 rfl) (by decide) rfl
theorem dX3_whyNot_5 : DR cX3_whyNot 5 (.lload_n 1) 1 := dk_31 (bA_sl (a := 0) (j := 5) bkX3_whyNot_0 rfl)
theorem dX3_whyNot_6 : DR cX3_whyNot 6 (.invokevirtual 112) 3 := dk_182 (bA_sl (a := 0) (j := 6) bkX3_whyNot_0 rfl) (bA_sl (a := 0) (j := 7) bkX3_whyNot_0 rfl) (bA_sl (a := 0) (j := 8) bkX3_whyNot_0 rfl) (by decide) rfl
theorem dX3_whyNot_9 : DR cX3_whyNot 9 (.iconst (-1)) 1 := dk_2 (bA_sl (a := 0) (j := 9) bkX3_whyNot_0 rfl)
theorem dX3_whyNot_10 : DR cX3_whyNot 10 (.if_icmp .ne 5) 3 := dk_160 (bA_sl (a := 0) (j := 10) bkX3_whyNot_0 rfl) (bA_sl (a := 0) (j := 11) bkX3_whyNot_0 rfl) (bA_sl (a := 0) (j := 12) bkX3_whyNot_0 rfl) (by decide) (by decide)
theorem dX3_whyNot_13 : DR cX3_whyNot 13 (.iconst 1) 1 := dk_4 (bA_sl (a := 0) (j := 13) bkX3_whyNot_0 rfl)
theorem dX3_whyNot_14 : DR cX3_whyNot 14 (.ireturn) 1 := dk_172 (bA_sl (a := 0) (j := 14) bkX3_whyNot_0 rfl)
theorem dX3_whyNot_15 : DR cX3_whyNot 15 (.aload_n 0) 1 := dk_42 (bA_sl (a := 0) (j := 15) bkX3_whyNot_0 rfl)
theorem dX3_whyNot_16 : DR cX3_whyNot 16 (.getfield 55) 3 := dk_180 (bA_sl (a := 0) (j := 16) bkX3_whyNot_0 rfl) (bA_sl (a := 0) (j := 17) bkX3_whyNot_0 rfl) (bA_sl (a := 0) (j := 18) bkX3_whyNot_0 rfl) (by decide) rfl
theorem dX3_whyNot_19 : DR cX3_whyNot 19 (.ifCond .ne 5) 3 := dk_154 (bA_sl (a := 0) (j := 19) bkX3_whyNot_0 rfl) (bA_sl (a := 0) (j := 20) bkX3_whyNot_0 rfl) (bA_sl (a := 0) (j := 21) bkX3_whyNot_0 rfl) (by decide) (by decide)
theorem dX3_whyNot_22 : DR cX3_whyNot 22 (.iconst 2) 1 := dk_5 (bA_sl (a := 0) (j := 22) bkX3_whyNot_0 rfl)
theorem dX3_whyNot_23 : DR cX3_whyNot 23 (.ireturn) 1 := dk_172 (bA_sl (a := 0) (j := 23) bkX3_whyNot_0 rfl)
theorem dX3_whyNot_24 : DR cX3_whyNot 24 (.aload_n 0) 1 := dk_42 (bA_sl (a := 0) (j := 24) bkX3_whyNot_0 rfl)
theorem dX3_whyNot_25 : DR cX3_whyNot 25 (.getfield 40) 3 := dk_180 (bA_sl (a := 0) (j := 25) bkX3_whyNot_0 rfl) (bA_sl (a := 0) (j := 26) bkX3_whyNot_0 rfl) (bA_sl (a := 0) (j := 27) bkX3_whyNot_0 rfl) (by decide) rfl
theorem dX3_whyNot_28 : DR cX3_whyNot 28 (.sipush 9999) 3 := dk_17 (bA_sl (a := 0) (j := 28) bkX3_whyNot_0 rfl) (bA_sl (a := 0) (j := 29) bkX3_whyNot_0 rfl) (bA_sl (a := 0) (j := 30) bkX3_whyNot_0 rfl) (by decide) (by decide)
theorem dX3_whyNot_31 : DR cX3_whyNot 31 (.if_icmp .lt 7) 3 := dk_161 (bA_sl (a := 0) (j := 31) bkX3_whyNot_0 rfl) (bA_sl (a := 0) (j := 32) bkX3_whyNot_0 rfl) (bA_sl (a := 0) (j := 33) bkX3_whyNot_0 rfl) (by decide) (by decide)
theorem dX3_whyNot_34 : DR cX3_whyNot 34 (.iconst 3) 1 := dk_6 (bA_sl (a := 0) (j := 34) bkX3_whyNot_0 rfl)
theorem dX3_whyNot_35 : DR cX3_whyNot 35 (.goto 4) 3 := dk_167 (bA_sl (a := 0) (j := 35) bkX3_whyNot_0 rfl) (bA_sl (a := 0) (j := 36) bkX3_whyNot_0 rfl) (bA_sl (a := 0) (j := 37) bkX3_whyNot_0 rfl) (by decide) (by decide)
theorem dX3_whyNot_38 : DR cX3_whyNot 38 (.iconst 0) 1 := dk_3 (bA_sl (a := 0) (j := 38) bkX3_whyNot_0 rfl)
theorem dX3_whyNot_39 : DR cX3_whyNot 39 (.ireturn) 1 := dk_172 (bA_sl (a := 0) (j := 39) bkX3_whyNot_0 rfl)
theorem bkX3_pass_0 : ((cX3_pass.data.toList.drop 0).take 64).map UInt8.toNat = [42, 27, 181, 0, 43, 42, 89, 180, 0, 55, 4, 100, 181, 0, 55, 42, 89, 180, 0, 40, 4, 96, 181, 0, 40, 3, 62, 3, 54, 4, 28, 153, 0, 76, 21, 4, 42, 180, 0, 33, 162, 0, 67, 42, 180, 0, 15, 21, 4, 46, 42, 180, 0, 9, 21, 4, 46, 184, 0, 90, 42, 27, 21, 4] := by decide +kernel
theorem dX3_pass_0 : DR cX3_pass 0 (.aload_n 0) 1 := dk_42 (bA_sl (a := 0) (j := 0) bkX3_pass_0 rfl)
theorem dX3_pass_1 : DR cX3_pass 1 (.iload_n 1) 1 := dk_27 (bA_sl (a := 0) (j := 1) bkX3_pass_0 rfl)
theorem dX3_pass_2 : DR cX3_pass 2 (.putfield 43) 3 := dk_181 (bA_sl (a := 0) (j := 2) bkX3_pass_0 rfl) (bA_sl (a := 0) (j := 3) bkX3_pass_0 rfl) (bA_sl (a := 0) (j := 4) bkX3_pass_0 rfl) (by decide) rfl
theorem dX3_pass_5 : DR cX3_pass 5 (.aload_n 0) 1 := dk_42 (bA_sl (a := 0) (j := 5) bkX3_pass_0 rfl)
theorem dX3_pass_6 : DR cX3_pass 6 (.dup) 1 := dk_89 (bA_sl (a := 0) (j := 6) bkX3_pass_0 rfl)
theorem dX3_pass_7 : DR cX3_pass 7 (.getfield 55) 3 := dk_180 (bA_sl (a := 0) (j := 7) bkX3_pass_0 rfl) (bA_sl (a := 0) (j := 8) bkX3_pass_0 rfl) (bA_sl (a := 0) (j := 9) bkX3_pass_0 rfl) (by decide) rfl
theorem dX3_pass_10 : DR cX3_pass 10 (.iconst 1) 1 := dk_4 (bA_sl (a := 0) (j := 10) bkX3_pass_0 rfl)
theorem dX3_pass_11 : DR cX3_pass 11 (.isub) 1 := dk_100 (bA_sl (a := 0) (j := 11) bkX3_pass_0 rfl)
theorem dX3_pass_12 : DR cX3_pass 12 (.putfield 55) 3 := dk_181 (bA_sl (a := 0) (j := 12) bkX3_pass_0 rfl) (bA_sl (a := 0) (j := 13) bkX3_pass_0 rfl) (bA_sl (a := 0) (j := 14) bkX3_pass_0 rfl) (by decide) rfl
theorem dX3_pass_15 : DR cX3_pass 15 (.aload_n 0) 1 := dk_42 (bA_sl (a := 0) (j := 15) bkX3_pass_0 rfl)
theorem dX3_pass_16 : DR cX3_pass 16 (.dup) 1 := dk_89 (bA_sl (a := 0) (j := 16) bkX3_pass_0 rfl)
theorem dX3_pass_17 : DR cX3_pass 17 (.getfield 40) 3 := dk_180 (bA_sl (a := 0) (j := 17) bkX3_pass_0 rfl) (bA_sl (a := 0) (j := 18) bkX3_pass_0 rfl) (bA_sl (a := 0) (j := 19) bkX3_pass_0 rfl) (by decide) rfl
theorem dX3_pass_20 : DR cX3_pass 20 (.iconst 1) 1 := dk_4 (bA_sl (a := 0) (j := 20) bkX3_pass_0 rfl)
theorem dX3_pass_21 : DR cX3_pass 21 (.iadd) 1 := dk_96 (bA_sl (a := 0) (j := 21) bkX3_pass_0 rfl)
theorem dX3_pass_22 : DR cX3_pass 22 (.putfield 40) 3 := dk_181 (bA_sl (a := 0) (j := 22) bkX3_pass_0 rfl) (bA_sl (a := 0) (j := 23) bkX3_pass_0 rfl) (bA_sl (a := 0) (j := 24) bkX3_pass_0 rfl) (by decide) rfl
theorem dX3_pass_25 : DR cX3_pass 25 (.iconst 0) 1 := dk_3 (bA_sl (a := 0) (j := 25) bkX3_pass_0 rfl)
theorem dX3_pass_26 : DR cX3_pass 26 (.istore_n 3) 1 := dk_62 (bA_sl (a := 0) (j := 26) bkX3_pass_0 rfl)
theorem dX3_pass_27 : DR cX3_pass 27 (.iconst 0) 1 := dk_3 (bA_sl (a := 0) (j := 27) bkX3_pass_0 rfl)
theorem dX3_pass_28 : DR cX3_pass 28 (.istore 4) 2 := dk_54 (bA_sl (a := 0) (j := 28) bkX3_pass_0 rfl) (bA_sl (a := 0) (j := 29) bkX3_pass_0 rfl) (by decide)
theorem dX3_pass_30 : DR cX3_pass 30 (.iload_n 2) 1 := dk_28 (bA_sl (a := 0) (j := 30) bkX3_pass_0 rfl)
theorem dX3_pass_31 : DR cX3_pass 31 (.ifCond .eq 76) 3 := dk_153 (bA_sl (a := 0) (j := 31) bkX3_pass_0 rfl) (bA_sl (a := 0) (j := 32) bkX3_pass_0 rfl) (bA_sl (a := 0) (j := 33) bkX3_pass_0 rfl) (by decide) (by decide)
theorem dX3_pass_34 : DR cX3_pass 34 (.iload 4) 2 := dk_21 (bA_sl (a := 0) (j := 34) bkX3_pass_0 rfl) (bA_sl (a := 0) (j := 35) bkX3_pass_0 rfl) (by decide)
theorem dX3_pass_36 : DR cX3_pass 36 (.aload_n 0) 1 := dk_42 (bA_sl (a := 0) (j := 36) bkX3_pass_0 rfl)
theorem dX3_pass_37 : DR cX3_pass 37 (.getfield 33) 3 := dk_180 (bA_sl (a := 0) (j := 37) bkX3_pass_0 rfl) (bA_sl (a := 0) (j := 38) bkX3_pass_0 rfl) (bA_sl (a := 0) (j := 39) bkX3_pass_0 rfl) (by decide) rfl
theorem dX3_pass_40 : DR cX3_pass 40 (.if_icmp .ge 67) 3 := dk_162 (bA_sl (a := 0) (j := 40) bkX3_pass_0 rfl) (bA_sl (a := 0) (j := 41) bkX3_pass_0 rfl) (bA_sl (a := 0) (j := 42) bkX3_pass_0 rfl) (by decide) (by decide)
theorem dX3_pass_43 : DR cX3_pass 43 (.aload_n 0) 1 := dk_42 (bA_sl (a := 0) (j := 43) bkX3_pass_0 rfl)
theorem dX3_pass_44 : DR cX3_pass 44 (.getfield 15) 3 := dk_180 (bA_sl (a := 0) (j := 44) bkX3_pass_0 rfl) (bA_sl (a := 0) (j := 45) bkX3_pass_0 rfl) (bA_sl (a := 0) (j := 46) bkX3_pass_0 rfl) (by decide) rfl
theorem dX3_pass_47 : DR cX3_pass 47 (.iload 4) 2 := dk_21 (bA_sl (a := 0) (j := 47) bkX3_pass_0 rfl) (bA_sl (a := 0) (j := 48) bkX3_pass_0 rfl) (by decide)
theorem dX3_pass_49 : DR cX3_pass 49 (.iaload) 1 := dk_46 (bA_sl (a := 0) (j := 49) bkX3_pass_0 rfl)
theorem dX3_pass_50 : DR cX3_pass 50 (.aload_n 0) 1 := dk_42 (bA_sl (a := 0) (j := 50) bkX3_pass_0 rfl)
theorem dX3_pass_51 : DR cX3_pass 51 (.getfield 9) 3 := dk_180 (bA_sl (a := 0) (j := 51) bkX3_pass_0 rfl) (bA_sl (a := 0) (j := 52) bkX3_pass_0 rfl) (bA_sl (a := 0) (j := 53) bkX3_pass_0 rfl) (by decide) rfl
theorem dX3_pass_54 : DR cX3_pass 54 (.iload 4) 2 := dk_21 (bA_sl (a := 0) (j := 54) bkX3_pass_0 rfl) (bA_sl (a := 0) (j := 55) bkX3_pass_0 rfl) (by decide)
theorem dX3_pass_56 : DR cX3_pass 56 (.iaload) 1 := dk_46 (bA_sl (a := 0) (j := 56) bkX3_pass_0 rfl)
theorem dX3_pass_57 : DR cX3_pass 57 (.invokestatic 90) 3 := dk_184 (bA_sl (a := 0) (j := 57) bkX3_pass_0 rfl) (bA_sl (a := 0) (j := 58) bkX3_pass_0 rfl) (bA_sl (a := 0) (j := 59) bkX3_pass_0 rfl) (by decide) rfl
theorem dX3_pass_60 : DR cX3_pass 60 (.aload_n 0) 1 := dk_42 (bA_sl (a := 0) (j := 60) bkX3_pass_0 rfl)
theorem dX3_pass_61 : DR cX3_pass 61 (.iload_n 1) 1 := dk_27 (bA_sl (a := 0) (j := 61) bkX3_pass_0 rfl)
theorem dX3_pass_62 : DR cX3_pass 62 (.iload 4) 2 := dk_21 (bA_sl (a := 0) (j := 62) bkX3_pass_0 rfl) (bA_sl (a := 0) (j := 63) bkX3_pass_0 rfl) (by decide)
theorem bkX3_pass_1 : ((cX3_pass.data.toList.drop 64).take 64).map UInt8.toNat = [182, 0, 100, 184, 0, 90, 54, 5, 42, 180, 0, 9, 21, 4, 92, 46, 21, 5, 100, 79, 42, 180, 0, 24, 21, 4, 92, 46, 21, 5, 96, 79, 29, 21, 5, 96, 62, 132, 4, 1, 167, 255, 182, 29, 172] := by decide +kernel
theorem dX3_pass_64 : DR cX3_pass 64 (.invokevirtual 100) 3 := dk_182 (bA_sl (a := 64) (j := 0) bkX3_pass_1 rfl) (bA_sl (a := 64) (j := 1) bkX3_pass_1 rfl) (bA_sl (a := 64) (j := 2) bkX3_pass_1 rfl) (by decide) rfl
theorem dX3_pass_67 : DR cX3_pass 67 (.invokestatic 90) 3 := dk_184 (bA_sl (a := 64) (j := 3) bkX3_pass_1 rfl) (bA_sl (a := 64) (j := 4) bkX3_pass_1 rfl) (bA_sl (a := 64) (j := 5) bkX3_pass_1 rfl) (by decide) rfl
theorem dX3_pass_70 : DR cX3_pass 70 (.istore 5) 2 := dk_54 (bA_sl (a := 64) (j := 6) bkX3_pass_1 rfl) (bA_sl (a := 64) (j := 7) bkX3_pass_1 rfl) (by decide)
theorem dX3_pass_72 : DR cX3_pass 72 (.aload_n 0) 1 := dk_42 (bA_sl (a := 64) (j := 8) bkX3_pass_1 rfl)
theorem dX3_pass_73 : DR cX3_pass 73 (.getfield 9) 3 := dk_180 (bA_sl (a := 64) (j := 9) bkX3_pass_1 rfl) (bA_sl (a := 64) (j := 10) bkX3_pass_1 rfl) (bA_sl (a := 64) (j := 11) bkX3_pass_1 rfl) (by decide) rfl
theorem dX3_pass_76 : DR cX3_pass 76 (.iload 4) 2 := dk_21 (bA_sl (a := 64) (j := 12) bkX3_pass_1 rfl) (bA_sl (a := 64) (j := 13) bkX3_pass_1 rfl) (by decide)
theorem dX3_pass_78 : DR cX3_pass 78 (.dup2) 1 := dk_92 (bA_sl (a := 64) (j := 14) bkX3_pass_1 rfl)
theorem dX3_pass_79 : DR cX3_pass 79 (.iaload) 1 := dk_46 (bA_sl (a := 64) (j := 15) bkX3_pass_1 rfl)
theorem dX3_pass_80 : DR cX3_pass 80 (.iload 5) 2 := dk_21 (bA_sl (a := 64) (j := 16) bkX3_pass_1 rfl) (bA_sl (a := 64) (j := 17) bkX3_pass_1 rfl) (by decide)
theorem dX3_pass_82 : DR cX3_pass 82 (.isub) 1 := dk_100 (bA_sl (a := 64) (j := 18) bkX3_pass_1 rfl)
theorem dX3_pass_83 : DR cX3_pass 83 (.iastore) 1 := dk_79 (bA_sl (a := 64) (j := 19) bkX3_pass_1 rfl)
theorem dX3_pass_84 : DR cX3_pass 84 (.aload_n 0) 1 := dk_42 (bA_sl (a := 64) (j := 20) bkX3_pass_1 rfl)
theorem dX3_pass_85 : DR cX3_pass 85 (.getfield 24) 3 := dk_180 (bA_sl (a := 64) (j := 21) bkX3_pass_1 rfl) (bA_sl (a := 64) (j := 22) bkX3_pass_1 rfl) (bA_sl (a := 64) (j := 23) bkX3_pass_1 rfl) (by decide) rfl
theorem dX3_pass_88 : DR cX3_pass 88 (.iload 4) 2 := dk_21 (bA_sl (a := 64) (j := 24) bkX3_pass_1 rfl) (bA_sl (a := 64) (j := 25) bkX3_pass_1 rfl) (by decide)
theorem dX3_pass_90 : DR cX3_pass 90 (.dup2) 1 := dk_92 (bA_sl (a := 64) (j := 26) bkX3_pass_1 rfl)
theorem dX3_pass_91 : DR cX3_pass 91 (.iaload) 1 := dk_46 (bA_sl (a := 64) (j := 27) bkX3_pass_1 rfl)
theorem dX3_pass_92 : DR cX3_pass 92 (.iload 5) 2 := dk_21 (bA_sl (a := 64) (j := 28) bkX3_pass_1 rfl) (bA_sl (a := 64) (j := 29) bkX3_pass_1 rfl) (by decide)
theorem dX3_pass_94 : DR cX3_pass 94 (.iadd) 1 := dk_96 (bA_sl (a := 64) (j := 30) bkX3_pass_1 rfl)
theorem dX3_pass_95 : DR cX3_pass 95 (.iastore) 1 := dk_79 (bA_sl (a := 64) (j := 31) bkX3_pass_1 rfl)
theorem dX3_pass_96 : DR cX3_pass 96 (.iload_n 3) 1 := dk_29 (bA_sl (a := 64) (j := 32) bkX3_pass_1 rfl)
theorem dX3_pass_97 : DR cX3_pass 97 (.iload 5) 2 := dk_21 (bA_sl (a := 64) (j := 33) bkX3_pass_1 rfl) (bA_sl (a := 64) (j := 34) bkX3_pass_1 rfl) (by decide)
theorem dX3_pass_99 : DR cX3_pass 99 (.iadd) 1 := dk_96 (bA_sl (a := 64) (j := 35) bkX3_pass_1 rfl)
theorem dX3_pass_100 : DR cX3_pass 100 (.istore_n 3) 1 := dk_62 (bA_sl (a := 64) (j := 36) bkX3_pass_1 rfl)
theorem dX3_pass_101 : DR cX3_pass 101 (.iinc 4 1) 3 := dk_132 (bA_sl (a := 64) (j := 37) bkX3_pass_1 rfl) (bA_sl (a := 64) (j := 38) bkX3_pass_1 rfl) (bA_sl (a := 64) (j := 39) bkX3_pass_1 rfl) (by decide) (by decide)
theorem dX3_pass_104 : DR cX3_pass 104 (.goto (-74)) 3 := dk_167 (bA_sl (a := 64) (j := 40) bkX3_pass_1 rfl) (bA_sl (a := 64) (j := 41) bkX3_pass_1 rfl) (bA_sl (a := 64) (j := 42) bkX3_pass_1 rfl) (by decide) (by decide)
theorem dX3_pass_107 : DR cX3_pass 107 (.iload_n 3) 1 := dk_29 (bA_sl (a := 64) (j := 43) bkX3_pass_1 rfl)
theorem dX3_pass_108 : DR cX3_pass 108 (.ireturn) 1 := dk_172 (bA_sl (a := 64) (j := 44) bkX3_pass_1 rfl)
theorem bkX3_passAll_0 : ((cX3_passAll.data.toList.drop 0).take 64).map UInt8.toNat = [3, 61, 28, 43, 180, 0, 116, 162, 0, 40, 43, 28, 182, 0, 121, 66, 42, 33, 182, 0, 125, 153, 0, 5, 28, 172, 42, 42, 42, 180, 0, 43, 33, 182, 0, 112, 4, 182, 0, 129, 87, 132, 2, 1, 167, 255, 214, 43, 180, 0, 116, 172] := by decide +kernel
theorem dX3_passAll_0 : DR cX3_passAll 0 (.iconst 0) 1 := dk_3 (bA_sl (a := 0) (j := 0) bkX3_passAll_0 rfl)
theorem dX3_passAll_1 : DR cX3_passAll 1 (.istore_n 2) 1 := dk_61 (bA_sl (a := 0) (j := 1) bkX3_passAll_0 rfl)
theorem dX3_passAll_2 : DR cX3_passAll 2 (.iload_n 2) 1 := dk_28 (bA_sl (a := 0) (j := 2) bkX3_passAll_0 rfl)
theorem dX3_passAll_3 : DR cX3_passAll 3 (.aload_n 1) 1 := dk_43 (bA_sl (a := 0) (j := 3) bkX3_passAll_0 rfl)
theorem dX3_passAll_4 : DR cX3_passAll 4 (.getfield 116) 3 := dk_180 (bA_sl (a := 0) (j := 4) bkX3_passAll_0 rfl) (bA_sl (a := 0) (j := 5) bkX3_passAll_0 rfl) (bA_sl (a := 0) (j := 6) bkX3_passAll_0 rfl) (by decide) rfl
theorem dX3_passAll_7 : DR cX3_passAll 7 (.if_icmp .ge 40) 3 := dk_162 (bA_sl (a := 0) (j := 7) bkX3_passAll_0 rfl) (bA_sl (a := 0) (j := 8) bkX3_passAll_0 rfl) (bA_sl (a := 0) (j := 9) bkX3_passAll_0 rfl) (by decide) (by decide)
theorem dX3_passAll_10 : DR cX3_passAll 10 (.aload_n 1) 1 := dk_43 (bA_sl (a := 0) (j := 10) bkX3_passAll_0 rfl)
theorem dX3_passAll_11 : DR cX3_passAll 11 (.iload_n 2) 1 := dk_28 (bA_sl (a := 0) (j := 11) bkX3_passAll_0 rfl)
theorem dX3_passAll_12 : DR cX3_passAll 12 (.invokevirtual 121) 3 := dk_182 (bA_sl (a := 0) (j := 12) bkX3_passAll_0 rfl) (bA_sl (a := 0) (j := 13) bkX3_passAll_0 rfl) (bA_sl (a := 0) (j := 14) bkX3_passAll_0 rfl) (by decide) rfl
theorem dX3_passAll_15 : DR cX3_passAll 15 (.lstore_n 3) 1 := dk_66 (bA_sl (a := 0) (j := 15) bkX3_passAll_0 rfl)
theorem dX3_passAll_16 : DR cX3_passAll 16 (.aload_n 0) 1 := dk_42 (bA_sl (a := 0) (j := 16) bkX3_passAll_0 rfl)
theorem dX3_passAll_17 : DR cX3_passAll 17 (.lload_n 3) 1 := dk_33 (bA_sl (a := 0) (j := 17) bkX3_passAll_0 rfl)
theorem dX3_passAll_18 : DR cX3_passAll 18 (.invokevirtual 125) 3 := dk_182 (bA_sl (a := 0) (j := 18) bkX3_passAll_0 rfl) (bA_sl (a := 0) (j := 19) bkX3_passAll_0 rfl) (bA_sl (a := 0) (j := 20) bkX3_passAll_0 rfl) (by decide) rfl
theorem dX3_passAll_21 : DR cX3_passAll 21 (.ifCond .eq 5) 3 := dk_153 (bA_sl (a := 0) (j := 21) bkX3_passAll_0 rfl) (bA_sl (a := 0) (j := 22) bkX3_passAll_0 rfl) (bA_sl (a := 0) (j := 23) bkX3_passAll_0 rfl) (by decide) (by decide)
theorem dX3_passAll_24 : DR cX3_passAll 24 (.iload_n 2) 1 := dk_28 (bA_sl (a := 0) (j := 24) bkX3_passAll_0 rfl)
theorem dX3_passAll_25 : DR cX3_passAll 25 (.ireturn) 1 := dk_172 (bA_sl (a := 0) (j := 25) bkX3_passAll_0 rfl)
theorem dX3_passAll_26 : DR cX3_passAll 26 (.aload_n 0) 1 := dk_42 (bA_sl (a := 0) (j := 26) bkX3_passAll_0 rfl)
theorem dX3_passAll_27 : DR cX3_passAll 27 (.aload_n 0) 1 := dk_42 (bA_sl (a := 0) (j := 27) bkX3_passAll_0 rfl)
theorem dX3_passAll_28 : DR cX3_passAll 28 (.aload_n 0) 1 := dk_42 (bA_sl (a := 0) (j := 28) bkX3_passAll_0 rfl)
theorem dX3_passAll_29 : DR cX3_passAll 29 (.getfield 43) 3 := dk_180 (bA_sl (a := 0) (j := 29) bkX3_passAll_0 rfl) (bA_sl (a := 0) (j := 30) bkX3_passAll_0 rfl) (bA_sl (a := 0) (j := 31) bkX3_passAll_0 rfl) (by decide) rfl
theorem dX3_passAll_32 : DR cX3_passAll 32 (.lload_n 3) 1 := dk_33 (bA_sl (a := 0) (j := 32) bkX3_passAll_0 rfl)
theorem dX3_passAll_33 : DR cX3_passAll 33 (.invokevirtual 112) 3 := dk_182 (bA_sl (a := 0) (j := 33) bkX3_passAll_0 rfl) (bA_sl (a := 0) (j := 34) bkX3_passAll_0 rfl) (bA_sl (a := 0) (j := 35) bkX3_passAll_0 rfl) (by decide) rfl
theorem dX3_passAll_36 : DR cX3_passAll 36 (.iconst 1) 1 := dk_4 (bA_sl (a := 0) (j := 36) bkX3_passAll_0 rfl)
theorem dX3_passAll_37 : DR cX3_passAll 37 (.invokevirtual 129) 3 := dk_182 (bA_sl (a := 0) (j := 37) bkX3_passAll_0 rfl) (bA_sl (a := 0) (j := 38) bkX3_passAll_0 rfl) (bA_sl (a := 0) (j := 39) bkX3_passAll_0 rfl) (by decide) rfl
theorem dX3_passAll_40 : DR cX3_passAll 40 (.pop) 1 := dk_87 (bA_sl (a := 0) (j := 40) bkX3_passAll_0 rfl)
theorem dX3_passAll_41 : DR cX3_passAll 41 (.iinc 2 1) 3 := dk_132 (bA_sl (a := 0) (j := 41) bkX3_passAll_0 rfl) (bA_sl (a := 0) (j := 42) bkX3_passAll_0 rfl) (bA_sl (a := 0) (j := 43) bkX3_passAll_0 rfl) (by decide) (by decide)
theorem dX3_passAll_44 : DR cX3_passAll 44 (.goto (-42)) 3 := dk_167 (bA_sl (a := 0) (j := 44) bkX3_passAll_0 rfl) (bA_sl (a := 0) (j := 45) bkX3_passAll_0 rfl) (bA_sl (a := 0) (j := 46) bkX3_passAll_0 rfl) (by decide) (by decide)
theorem dX3_passAll_47 : DR cX3_passAll 47 (.aload_n 1) 1 := dk_43 (bA_sl (a := 0) (j := 47) bkX3_passAll_0 rfl)
theorem dX3_passAll_48 : DR cX3_passAll 48 (.getfield 116) 3 := dk_180 (bA_sl (a := 0) (j := 48) bkX3_passAll_0 rfl) (bA_sl (a := 0) (j := 49) bkX3_passAll_0 rfl) (bA_sl (a := 0) (j := 50) bkX3_passAll_0 rfl) (by decide) rfl
theorem dX3_passAll_51 : DR cX3_passAll 51 (.ireturn) 1 := dk_172 (bA_sl (a := 0) (j := 51) bkX3_passAll_0 rfl)
theorem bkX4_init_0 : ((cX4_init.data.toList.drop 0).take 64).map UInt8.toNat = [42, 183, 0, 3, 42, 4, 181, 0, 9, 42, 3, 181, 0, 15, 42, 3, 181, 0, 19, 42, 16, 40, 188, 11, 181, 0, 22, 177] := by decide +kernel
theorem dX4_init_0 : DR cX4_init 0 (.aload_n 0) 1 := dk_42 (bA_sl (a := 0) (j := 0) bkX4_init_0 rfl)
theorem dX4_init_1 : DR cX4_init 1 (.invokespecial 3) 3 := dk_183 (bA_sl (a := 0) (j := 1) bkX4_init_0 rfl) (bA_sl (a := 0) (j := 2) bkX4_init_0 rfl) (bA_sl (a := 0) (j := 3) bkX4_init_0 rfl) (by decide) rfl
theorem dX4_init_4 : DR cX4_init 4 (.aload_n 0) 1 := dk_42 (bA_sl (a := 0) (j := 4) bkX4_init_0 rfl)
theorem dX4_init_5 : DR cX4_init 5 (.iconst 1) 1 := dk_4 (bA_sl (a := 0) (j := 5) bkX4_init_0 rfl)
theorem dX4_init_6 : DR cX4_init 6 (.putfield 9) 3 := dk_181 (bA_sl (a := 0) (j := 6) bkX4_init_0 rfl) (bA_sl (a := 0) (j := 7) bkX4_init_0 rfl) (bA_sl (a := 0) (j := 8) bkX4_init_0 rfl) (by decide) rfl
theorem dX4_init_9 : DR cX4_init 9 (.aload_n 0) 1 := dk_42 (bA_sl (a := 0) (j := 9) bkX4_init_0 rfl)
theorem dX4_init_10 : DR cX4_init 10 (.iconst 0) 1 := dk_3 (bA_sl (a := 0) (j := 10) bkX4_init_0 rfl)
theorem dX4_init_11 : DR cX4_init 11 (.putfield 15) 3 := dk_181 (bA_sl (a := 0) (j := 11) bkX4_init_0 rfl) (bA_sl (a := 0) (j := 12) bkX4_init_0 rfl) (bA_sl (a := 0) (j := 13) bkX4_init_0 rfl) (by decide) rfl
theorem dX4_init_14 : DR cX4_init 14 (.aload_n 0) 1 := dk_42 (bA_sl (a := 0) (j := 14) bkX4_init_0 rfl)
theorem dX4_init_15 : DR cX4_init 15 (.iconst 0) 1 := dk_3 (bA_sl (a := 0) (j := 15) bkX4_init_0 rfl)
theorem dX4_init_16 : DR cX4_init 16 (.putfield 19) 3 := dk_181 (bA_sl (a := 0) (j := 16) bkX4_init_0 rfl) (bA_sl (a := 0) (j := 17) bkX4_init_0 rfl) (bA_sl (a := 0) (j := 18) bkX4_init_0 rfl) (by decide) rfl
theorem dX4_init_19 : DR cX4_init 19 (.aload_n 0) 1 := dk_42 (bA_sl (a := 0) (j := 19) bkX4_init_0 rfl)
theorem dX4_init_20 : DR cX4_init 20 (.bipush 40) 2 := dk_16 (bA_sl (a := 0) (j := 20) bkX4_init_0 rfl) (bA_sl (a := 0) (j := 21) bkX4_init_0 rfl) (by decide) (by decide)
theorem dX4_init_22 : decode cX4_init 22 = .ok (.newarray .long, 2) := by decide +kernel
theorem dX4_init_24 : DR cX4_init 24 (.putfield 22) 3 := dk_181 (bA_sl (a := 0) (j := 24) bkX4_init_0 rfl) (bA_sl (a := 0) (j := 25) bkX4_init_0 rfl) (bA_sl (a := 0) (j := 26) bkX4_init_0 rfl) (by decide) rfl
theorem dX4_init_27 : DR cX4_init 27 (.return_) 1 := dk_177 (bA_sl (a := 0) (j := 27) bkX4_init_0 rfl)
theorem bkX4_renew_0 : ((cX4_renew.data.toList.drop 0).take 64).map UInt8.toNat = [42, 3, 181, 0, 9, 42, 27, 181, 0, 15, 42, 3, 28, 16, 40, 184, 0, 26, 184, 0, 32, 181, 0, 19, 42, 180, 0, 22, 9, 184, 0, 35, 177] := by decide +kernel
theorem dX4_renew_0 : DR cX4_renew 0 (.aload_n 0) 1 := dk_42 (bA_sl (a := 0) (j := 0) bkX4_renew_0 rfl)
theorem dX4_renew_1 : DR cX4_renew 1 (.iconst 0) 1 := dk_3 (bA_sl (a := 0) (j := 1) bkX4_renew_0 rfl)
theorem dX4_renew_2 : DR cX4_renew 2 (.putfield 9) 3 := dk_181 (bA_sl (a := 0) (j := 2) bkX4_renew_0 rfl) (bA_sl (a := 0) (j := 3) bkX4_renew_0 rfl) (bA_sl (a := 0) (j := 4) bkX4_renew_0 rfl) (by decide) rfl
theorem dX4_renew_5 : DR cX4_renew 5 (.aload_n 0) 1 := dk_42 (bA_sl (a := 0) (j := 5) bkX4_renew_0 rfl)
theorem dX4_renew_6 : DR cX4_renew 6 (.iload_n 1) 1 := dk_27 (bA_sl (a := 0) (j := 6) bkX4_renew_0 rfl)
theorem dX4_renew_7 : DR cX4_renew 7 (.putfield 15) 3 := dk_181 (bA_sl (a := 0) (j := 7) bkX4_renew_0 rfl) (bA_sl (a := 0) (j := 8) bkX4_renew_0 rfl) (bA_sl (a := 0) (j := 9) bkX4_renew_0 rfl) (by decide) rfl
theorem dX4_renew_10 : DR cX4_renew 10 (.aload_n 0) 1 := dk_42 (bA_sl (a := 0) (j := 10) bkX4_renew_0 rfl)
theorem dX4_renew_11 : DR cX4_renew 11 (.iconst 0) 1 := dk_3 (bA_sl (a := 0) (j := 11) bkX4_renew_0 rfl)
theorem dX4_renew_12 : DR cX4_renew 12 (.iload_n 2) 1 := dk_28 (bA_sl (a := 0) (j := 12) bkX4_renew_0 rfl)
theorem dX4_renew_13 : DR cX4_renew 13 (.bipush 40) 2 := dk_16 (bA_sl (a := 0) (j := 13) bkX4_renew_0 rfl) (bA_sl (a := 0) (j := 14) bkX4_renew_0 rfl) (by decide) (by decide)
theorem dX4_renew_15 : DR cX4_renew 15 (.invokestatic 26) 3 := dk_184 (bA_sl (a := 0) (j := 15) bkX4_renew_0 rfl) (bA_sl (a := 0) (j := 16) bkX4_renew_0 rfl) (bA_sl (a := 0) (j := 17) bkX4_renew_0 rfl) (by decide) rfl
theorem dX4_renew_18 : DR cX4_renew 18 (.invokestatic 32) 3 := dk_184 (bA_sl (a := 0) (j := 18) bkX4_renew_0 rfl) (bA_sl (a := 0) (j := 19) bkX4_renew_0 rfl) (bA_sl (a := 0) (j := 20) bkX4_renew_0 rfl) (by decide) rfl
theorem dX4_renew_21 : DR cX4_renew 21 (.putfield 19) 3 := dk_181 (bA_sl (a := 0) (j := 21) bkX4_renew_0 rfl) (bA_sl (a := 0) (j := 22) bkX4_renew_0 rfl) (bA_sl (a := 0) (j := 23) bkX4_renew_0 rfl) (by decide) rfl
theorem dX4_renew_24 : DR cX4_renew 24 (.aload_n 0) 1 := dk_42 (bA_sl (a := 0) (j := 24) bkX4_renew_0 rfl)
theorem dX4_renew_25 : DR cX4_renew 25 (.getfield 22) 3 := dk_180 (bA_sl (a := 0) (j := 25) bkX4_renew_0 rfl) (bA_sl (a := 0) (j := 26) bkX4_renew_0 rfl) (bA_sl (a := 0) (j := 27) bkX4_renew_0 rfl) (by decide) rfl
theorem dX4_renew_28 : DR cX4_renew 28 (.lconst 0) 1 := dk_9 (bA_sl (a := 0) (j := 28) bkX4_renew_0 rfl)
theorem dX4_renew_29 : DR cX4_renew 29 (.invokestatic 35) 3 := dk_184 (bA_sl (a := 0) (j := 29) bkX4_renew_0 rfl) (bA_sl (a := 0) (j := 30) bkX4_renew_0 rfl) (bA_sl (a := 0) (j := 31) bkX4_renew_0 rfl) (by decide) rfl
theorem dX4_renew_32 : DR cX4_renew 32 (.return_) 1 := dk_177 (bA_sl (a := 0) (j := 32) bkX4_renew_0 rfl)
theorem bkX4_valueAt_0 : ((cX4_valueAt.data.toList.drop 0).take 64).map UInt8.toNat = [27, 155, 0, 20, 27, 42, 180, 0, 19, 162, 0, 12, 42, 180, 0, 22, 27, 47, 167, 0, 6, 20, 0, 41, 173] := by decide +kernel
theorem dX4_valueAt_0 : DR cX4_valueAt 0 (.iload_n 1) 1 := dk_27 (bA_sl (a := 0) (j := 0) bkX4_valueAt_0 rfl)
theorem dX4_valueAt_1 : DR cX4_valueAt 1 (.ifCond .lt 20) 3 := dk_155 (bA_sl (a := 0) (j := 1) bkX4_valueAt_0 rfl) (bA_sl (a := 0) (j := 2) bkX4_valueAt_0 rfl) (bA_sl (a := 0) (j := 3) bkX4_valueAt_0 rfl) (by decide) (by decide)
theorem dX4_valueAt_4 : DR cX4_valueAt 4 (.iload_n 1) 1 := dk_27 (bA_sl (a := 0) (j := 4) bkX4_valueAt_0 rfl)
theorem dX4_valueAt_5 : DR cX4_valueAt 5 (.aload_n 0) 1 := dk_42 (bA_sl (a := 0) (j := 5) bkX4_valueAt_0 rfl)
theorem dX4_valueAt_6 : DR cX4_valueAt 6 (.getfield 19) 3 := dk_180 (bA_sl (a := 0) (j := 6) bkX4_valueAt_0 rfl) (bA_sl (a := 0) (j := 7) bkX4_valueAt_0 rfl) (bA_sl (a := 0) (j := 8) bkX4_valueAt_0 rfl) (by decide) rfl
theorem dX4_valueAt_9 : DR cX4_valueAt 9 (.if_icmp .ge 12) 3 := dk_162 (bA_sl (a := 0) (j := 9) bkX4_valueAt_0 rfl) (bA_sl (a := 0) (j := 10) bkX4_valueAt_0 rfl) (bA_sl (a := 0) (j := 11) bkX4_valueAt_0 rfl) (by decide) (by decide)
theorem dX4_valueAt_12 : DR cX4_valueAt 12 (.aload_n 0) 1 := dk_42 (bA_sl (a := 0) (j := 12) bkX4_valueAt_0 rfl)
theorem dX4_valueAt_13 : DR cX4_valueAt 13 (.getfield 22) 3 := dk_180 (bA_sl (a := 0) (j := 13) bkX4_valueAt_0 rfl) (bA_sl (a := 0) (j := 14) bkX4_valueAt_0 rfl) (bA_sl (a := 0) (j := 15) bkX4_valueAt_0 rfl) (by decide) rfl
theorem dX4_valueAt_16 : DR cX4_valueAt 16 (.iload_n 1) 1 := dk_27 (bA_sl (a := 0) (j := 16) bkX4_valueAt_0 rfl)
theorem dX4_valueAt_17 : DR cX4_valueAt 17 (.laload) 1 := dk_47 (bA_sl (a := 0) (j := 17) bkX4_valueAt_0 rfl)
theorem dX4_valueAt_18 : DR cX4_valueAt 18 (.goto 6) 3 := dk_167 (bA_sl (a := 0) (j := 18) bkX4_valueAt_0 rfl) (bA_sl (a := 0) (j := 19) bkX4_valueAt_0 rfl) (bA_sl (a := 0) (j := 20) bkX4_valueAt_0 rfl) (by decide) (by decide)
theorem dX4_valueAt_21 : DR cX4_valueAt 21 (.ldc2_w 41) 3 := dk_20 (bA_sl (a := 0) (j := 21) bkX4_valueAt_0 rfl) (bA_sl (a := 0) (j := 22) bkX4_valueAt_0 rfl) (bA_sl (a := 0) (j := 23) bkX4_valueAt_0 rfl) (by decide) rfl
theorem dX4_valueAt_24 : DR cX4_valueAt 24 (.lreturn) 1 := dk_173 (bA_sl (a := 0) (j := 24) bkX4_valueAt_0 rfl)
theorem bkX4_put_0 : ((cX4_put.data.toList.drop 0).take 64).map UInt8.toNat = [27, 155, 0, 11, 27, 42, 180, 0, 19, 161, 0, 7, 20, 0, 43, 173, 42, 180, 0, 22, 27, 42, 32, 182, 0, 45, 80, 42, 180, 0, 22, 27, 47, 173] := by decide +kernel
theorem dX4_put_0 : DR cX4_put 0 (.iload_n 1) 1 := dk_27 (bA_sl (a := 0) (j := 0) bkX4_put_0 rfl)
theorem dX4_put_1 : DR cX4_put 1 (.ifCond .lt 11) 3 := dk_155 (bA_sl (a := 0) (j := 1) bkX4_put_0 rfl) (bA_sl (a := 0) (j := 2) bkX4_put_0 rfl) (bA_sl (a := 0) (j := 3) bkX4_put_0 rfl) (by decide) (by decide)
theorem dX4_put_4 : DR cX4_put 4 (.iload_n 1) 1 := dk_27 (bA_sl (a := 0) (j := 4) bkX4_put_0 rfl)
theorem dX4_put_5 : DR cX4_put 5 (.aload_n 0) 1 := dk_42 (bA_sl (a := 0) (j := 5) bkX4_put_0 rfl)
theorem dX4_put_6 : DR cX4_put 6 (.getfield 19) 3 := dk_180 (bA_sl (a := 0) (j := 6) bkX4_put_0 rfl) (bA_sl (a := 0) (j := 7) bkX4_put_0 rfl) (bA_sl (a := 0) (j := 8) bkX4_put_0 rfl) (by decide) rfl
theorem dX4_put_9 : DR cX4_put 9 (.if_icmp .lt 7) 3 := dk_161 (bA_sl (a := 0) (j := 9) bkX4_put_0 rfl) (bA_sl (a := 0) (j := 10) bkX4_put_0 rfl) (bA_sl (a := 0) (j := 11) bkX4_put_0 rfl) (by decide) (by decide)
theorem dX4_put_12 : DR cX4_put 12 (.ldc2_w 43) 3 := dk_20 (bA_sl (a := 0) (j := 12) bkX4_put_0 rfl) (bA_sl (a := 0) (j := 13) bkX4_put_0 rfl) (bA_sl (a := 0) (j := 14) bkX4_put_0 rfl) (by decide) rfl
theorem dX4_put_15 : DR cX4_put 15 (.lreturn) 1 := dk_173 (bA_sl (a := 0) (j := 15) bkX4_put_0 rfl)
theorem dX4_put_16 : DR cX4_put 16 (.aload_n 0) 1 := dk_42 (bA_sl (a := 0) (j := 16) bkX4_put_0 rfl)
theorem dX4_put_17 : DR cX4_put 17 (.getfield 22) 3 := dk_180 (bA_sl (a := 0) (j := 17) bkX4_put_0 rfl) (bA_sl (a := 0) (j := 18) bkX4_put_0 rfl) (bA_sl (a := 0) (j := 19) bkX4_put_0 rfl) (by decide) rfl
theorem dX4_put_20 : DR cX4_put 20 (.iload_n 1) 1 := dk_27 (bA_sl (a := 0) (j := 20) bkX4_put_0 rfl)
theorem dX4_put_21 : DR cX4_put 21 (.aload_n 0) 1 := dk_42 (bA_sl (a := 0) (j := 21) bkX4_put_0 rfl)
theorem dX4_put_22 : DR cX4_put 22 (.lload_n 2) 1 := dk_32 (bA_sl (a := 0) (j := 22) bkX4_put_0 rfl)
theorem dX4_put_23 : DR cX4_put 23 (.invokevirtual 45) 3 := dk_182 (bA_sl (a := 0) (j := 23) bkX4_put_0 rfl) (bA_sl (a := 0) (j := 24) bkX4_put_0 rfl) (bA_sl (a := 0) (j := 25) bkX4_put_0 rfl) (by decide) rfl
theorem dX4_put_26 : DR cX4_put 26 (.lastore) 1 := dk_80 (bA_sl (a := 0) (j := 26) bkX4_put_0 rfl)
theorem dX4_put_27 : DR cX4_put 27 (.aload_n 0) 1 := dk_42 (bA_sl (a := 0) (j := 27) bkX4_put_0 rfl)
theorem dX4_put_28 : DR cX4_put 28 (.getfield 22) 3 := dk_180 (bA_sl (a := 0) (j := 28) bkX4_put_0 rfl) (bA_sl (a := 0) (j := 29) bkX4_put_0 rfl) (bA_sl (a := 0) (j := 30) bkX4_put_0 rfl) (by decide) rfl
theorem dX4_put_31 : DR cX4_put 31 (.iload_n 1) 1 := dk_27 (bA_sl (a := 0) (j := 31) bkX4_put_0 rfl)
theorem dX4_put_32 : DR cX4_put 32 (.laload) 1 := dk_47 (bA_sl (a := 0) (j := 32) bkX4_put_0 rfl)
theorem dX4_put_33 : DR cX4_put 33 (.lreturn) 1 := dk_173 (bA_sl (a := 0) (j := 33) bkX4_put_0 rfl)
theorem bkX4_cut_0 : ((cX4_cut.data.toList.drop 0).take 64).map UInt8.toNat = [42, 180, 0, 15, 170, 0, 0, 0, 0, 0, 0, 42, 0, 0, 0, 0, 0, 0, 0, 2, 0, 0, 0, 28, 0, 0, 0, 33, 0, 0, 0, 38, 31, 136, 145, 133, 173, 31, 136, 147, 133, 173, 31, 136, 133, 173, 31, 173] := by decide +kernel
theorem dX4_cut_0 : DR cX4_cut 0 (.aload_n 0) 1 := dk_42 (bA_sl (a := 0) (j := 0) bkX4_cut_0 rfl)
theorem dX4_cut_1 : DR cX4_cut 1 (.getfield 15) 3 := dk_180 (bA_sl (a := 0) (j := 1) bkX4_cut_0 rfl) (bA_sl (a := 0) (j := 2) bkX4_cut_0 rfl) (bA_sl (a := 0) (j := 3) bkX4_cut_0 rfl) (by decide) rfl
theorem dX4_cut_4 : decode cX4_cut 4 = .ok (.tableswitch 42 0 2 #[28, 33, 38], 28) := by decide +kernel
theorem dX4_cut_32 : DR cX4_cut 32 (.lload_n 1) 1 := dk_31 (bA_sl (a := 0) (j := 32) bkX4_cut_0 rfl)
theorem dX4_cut_33 : DR cX4_cut 33 (.l2i) 1 := dk_136 (bA_sl (a := 0) (j := 33) bkX4_cut_0 rfl)
theorem dX4_cut_34 : DR cX4_cut 34 (.i2b) 1 := dk_145 (bA_sl (a := 0) (j := 34) bkX4_cut_0 rfl)
theorem dX4_cut_35 : DR cX4_cut 35 (.i2l) 1 := dk_133 (bA_sl (a := 0) (j := 35) bkX4_cut_0 rfl)
theorem dX4_cut_36 : DR cX4_cut 36 (.lreturn) 1 := dk_173 (bA_sl (a := 0) (j := 36) bkX4_cut_0 rfl)
theorem dX4_cut_37 : DR cX4_cut 37 (.lload_n 1) 1 := dk_31 (bA_sl (a := 0) (j := 37) bkX4_cut_0 rfl)
theorem dX4_cut_38 : DR cX4_cut 38 (.l2i) 1 := dk_136 (bA_sl (a := 0) (j := 38) bkX4_cut_0 rfl)
theorem dX4_cut_39 : DR cX4_cut 39 (.i2s) 1 := dk_147 (bA_sl (a := 0) (j := 39) bkX4_cut_0 rfl)
theorem dX4_cut_40 : DR cX4_cut 40 (.i2l) 1 := dk_133 (bA_sl (a := 0) (j := 40) bkX4_cut_0 rfl)
theorem dX4_cut_41 : DR cX4_cut 41 (.lreturn) 1 := dk_173 (bA_sl (a := 0) (j := 41) bkX4_cut_0 rfl)
theorem dX4_cut_42 : DR cX4_cut 42 (.lload_n 1) 1 := dk_31 (bA_sl (a := 0) (j := 42) bkX4_cut_0 rfl)
theorem dX4_cut_43 : DR cX4_cut 43 (.l2i) 1 := dk_136 (bA_sl (a := 0) (j := 43) bkX4_cut_0 rfl)
theorem dX4_cut_44 : DR cX4_cut 44 (.i2l) 1 := dk_133 (bA_sl (a := 0) (j := 44) bkX4_cut_0 rfl)
theorem dX4_cut_45 : DR cX4_cut 45 (.lreturn) 1 := dk_173 (bA_sl (a := 0) (j := 45) bkX4_cut_0 rfl)
theorem dX4_cut_46 : DR cX4_cut 46 (.lload_n 1) 1 := dk_31 (bA_sl (a := 0) (j := 46) bkX4_cut_0 rfl)
theorem dX4_cut_47 : DR cX4_cut 47 (.lreturn) 1 := dk_173 (bA_sl (a := 0) (j := 47) bkX4_cut_0 rfl)
theorem bkX5_init_0 : ((cX5_init.data.toList.drop 0).take 64).map UInt8.toNat = [42, 183, 0, 3, 42, 17, 1, 0, 188, 10, 181, 0, 9, 42, 17, 1, 0, 188, 10, 181, 0, 15, 42, 16, 16, 188, 10, 181, 0, 18, 42, 16, 16, 188, 10, 181, 0, 21, 42, 17, 1, 0, 188, 10, 181, 0, 24, 177] := by decide +kernel
theorem dX5_init_0 : DR cX5_init 0 (.aload_n 0) 1 := dk_42 (bA_sl (a := 0) (j := 0) bkX5_init_0 rfl)
theorem dX5_init_1 : DR cX5_init 1 (.invokespecial 3) 3 := dk_183 (bA_sl (a := 0) (j := 1) bkX5_init_0 rfl) (bA_sl (a := 0) (j := 2) bkX5_init_0 rfl) (bA_sl (a := 0) (j := 3) bkX5_init_0 rfl) (by decide) rfl
theorem dX5_init_4 : DR cX5_init 4 (.aload_n 0) 1 := dk_42 (bA_sl (a := 0) (j := 4) bkX5_init_0 rfl)
theorem dX5_init_5 : DR cX5_init 5 (.sipush 256) 3 := dk_17 (bA_sl (a := 0) (j := 5) bkX5_init_0 rfl) (bA_sl (a := 0) (j := 6) bkX5_init_0 rfl) (bA_sl (a := 0) (j := 7) bkX5_init_0 rfl) (by decide) (by decide)
theorem dX5_init_8 : decode cX5_init 8 = .ok (.newarray .int, 2) := by decide +kernel
theorem dX5_init_10 : DR cX5_init 10 (.putfield 9) 3 := dk_181 (bA_sl (a := 0) (j := 10) bkX5_init_0 rfl) (bA_sl (a := 0) (j := 11) bkX5_init_0 rfl) (bA_sl (a := 0) (j := 12) bkX5_init_0 rfl) (by decide) rfl
theorem dX5_init_13 : DR cX5_init 13 (.aload_n 0) 1 := dk_42 (bA_sl (a := 0) (j := 13) bkX5_init_0 rfl)
theorem dX5_init_14 : DR cX5_init 14 (.sipush 256) 3 := dk_17 (bA_sl (a := 0) (j := 14) bkX5_init_0 rfl) (bA_sl (a := 0) (j := 15) bkX5_init_0 rfl) (bA_sl (a := 0) (j := 16) bkX5_init_0 rfl) (by decide) (by decide)
theorem dX5_init_17 : decode cX5_init 17 = .ok (.newarray .int, 2) := by decide +kernel
theorem dX5_init_19 : DR cX5_init 19 (.putfield 15) 3 := dk_181 (bA_sl (a := 0) (j := 19) bkX5_init_0 rfl) (bA_sl (a := 0) (j := 20) bkX5_init_0 rfl) (bA_sl (a := 0) (j := 21) bkX5_init_0 rfl) (by decide) rfl
theorem dX5_init_22 : DR cX5_init 22 (.aload_n 0) 1 := dk_42 (bA_sl (a := 0) (j := 22) bkX5_init_0 rfl)
theorem dX5_init_23 : DR cX5_init 23 (.bipush 16) 2 := dk_16 (bA_sl (a := 0) (j := 23) bkX5_init_0 rfl) (bA_sl (a := 0) (j := 24) bkX5_init_0 rfl) (by decide) (by decide)
theorem dX5_init_25 : decode cX5_init 25 = .ok (.newarray .int, 2) := by decide +kernel
theorem dX5_init_27 : DR cX5_init 27 (.putfield 18) 3 := dk_181 (bA_sl (a := 0) (j := 27) bkX5_init_0 rfl) (bA_sl (a := 0) (j := 28) bkX5_init_0 rfl) (bA_sl (a := 0) (j := 29) bkX5_init_0 rfl) (by decide) rfl
theorem dX5_init_30 : DR cX5_init 30 (.aload_n 0) 1 := dk_42 (bA_sl (a := 0) (j := 30) bkX5_init_0 rfl)
theorem dX5_init_31 : DR cX5_init 31 (.bipush 16) 2 := dk_16 (bA_sl (a := 0) (j := 31) bkX5_init_0 rfl) (bA_sl (a := 0) (j := 32) bkX5_init_0 rfl) (by decide) (by decide)
theorem dX5_init_33 : decode cX5_init 33 = .ok (.newarray .int, 2) := by decide +kernel
theorem dX5_init_35 : DR cX5_init 35 (.putfield 21) 3 := dk_181 (bA_sl (a := 0) (j := 35) bkX5_init_0 rfl) (bA_sl (a := 0) (j := 36) bkX5_init_0 rfl) (bA_sl (a := 0) (j := 37) bkX5_init_0 rfl) (by decide) rfl
theorem dX5_init_38 : DR cX5_init 38 (.aload_n 0) 1 := dk_42 (bA_sl (a := 0) (j := 38) bkX5_init_0 rfl)
theorem dX5_init_39 : DR cX5_init 39 (.sipush 256) 3 := dk_17 (bA_sl (a := 0) (j := 39) bkX5_init_0 rfl) (bA_sl (a := 0) (j := 40) bkX5_init_0 rfl) (bA_sl (a := 0) (j := 41) bkX5_init_0 rfl) (by decide) (by decide)
theorem dX5_init_42 : decode cX5_init 42 = .ok (.newarray .int, 2) := by decide +kernel
theorem dX5_init_44 : DR cX5_init 44 (.putfield 24) 3 := dk_181 (bA_sl (a := 0) (j := 44) bkX5_init_0 rfl) (bA_sl (a := 0) (j := 45) bkX5_init_0 rfl) (bA_sl (a := 0) (j := 46) bkX5_init_0 rfl) (by decide) rfl
theorem dX5_init_47 : DR cX5_init 47 (.return_) 1 := dk_177 (bA_sl (a := 0) (j := 47) bkX5_init_0 rfl)
theorem bkX5_seekAll_0 : ((cX5_seekAll.data.toList.drop 0).take 64).map UInt8.toNat = [43, 42, 180, 0, 9, 2, 182, 0, 27, 43, 42, 180, 0, 15, 4, 182, 0, 27, 42, 180, 0, 24, 3, 184, 0, 33, 44, 29, 182, 0, 38, 54, 4, 44, 29, 182, 0, 44, 54, 5, 21, 5, 21, 4, 162, 0, 35, 44, 180, 0, 47, 21, 5, 51, 154, 0, 19, 43, 44, 180, 0, 51, 21, 5] := by decide +kernel
theorem dX5_seekAll_0 : DR cX5_seekAll 0 (.aload_n 1) 1 := dk_43 (bA_sl (a := 0) (j := 0) bkX5_seekAll_0 rfl)
theorem dX5_seekAll_1 : DR cX5_seekAll 1 (.aload_n 0) 1 := dk_42 (bA_sl (a := 0) (j := 1) bkX5_seekAll_0 rfl)
theorem dX5_seekAll_2 : DR cX5_seekAll 2 (.getfield 9) 3 := dk_180 (bA_sl (a := 0) (j := 2) bkX5_seekAll_0 rfl) (bA_sl (a := 0) (j := 3) bkX5_seekAll_0 rfl) (bA_sl (a := 0) (j := 4) bkX5_seekAll_0 rfl) (by decide) rfl
theorem dX5_seekAll_5 : DR cX5_seekAll 5 (.iconst (-1)) 1 := dk_2 (bA_sl (a := 0) (j := 5) bkX5_seekAll_0 rfl)
theorem dX5_seekAll_6 : DR cX5_seekAll 6 (.invokevirtual 27) 3 := dk_182 (bA_sl (a := 0) (j := 6) bkX5_seekAll_0 rfl) (bA_sl (a := 0) (j := 7) bkX5_seekAll_0 rfl) (bA_sl (a := 0) (j := 8) bkX5_seekAll_0 rfl) (by decide) rfl
theorem dX5_seekAll_9 : DR cX5_seekAll 9 (.aload_n 1) 1 := dk_43 (bA_sl (a := 0) (j := 9) bkX5_seekAll_0 rfl)
theorem dX5_seekAll_10 : DR cX5_seekAll 10 (.aload_n 0) 1 := dk_42 (bA_sl (a := 0) (j := 10) bkX5_seekAll_0 rfl)
theorem dX5_seekAll_11 : DR cX5_seekAll 11 (.getfield 15) 3 := dk_180 (bA_sl (a := 0) (j := 11) bkX5_seekAll_0 rfl) (bA_sl (a := 0) (j := 12) bkX5_seekAll_0 rfl) (bA_sl (a := 0) (j := 13) bkX5_seekAll_0 rfl) (by decide) rfl
theorem dX5_seekAll_14 : DR cX5_seekAll 14 (.iconst 1) 1 := dk_4 (bA_sl (a := 0) (j := 14) bkX5_seekAll_0 rfl)
theorem dX5_seekAll_15 : DR cX5_seekAll 15 (.invokevirtual 27) 3 := dk_182 (bA_sl (a := 0) (j := 15) bkX5_seekAll_0 rfl) (bA_sl (a := 0) (j := 16) bkX5_seekAll_0 rfl) (bA_sl (a := 0) (j := 17) bkX5_seekAll_0 rfl) (by decide) rfl
theorem dX5_seekAll_18 : DR cX5_seekAll 18 (.aload_n 0) 1 := dk_42 (bA_sl (a := 0) (j := 18) bkX5_seekAll_0 rfl)
theorem dX5_seekAll_19 : DR cX5_seekAll 19 (.getfield 24) 3 := dk_180 (bA_sl (a := 0) (j := 19) bkX5_seekAll_0 rfl) (bA_sl (a := 0) (j := 20) bkX5_seekAll_0 rfl) (bA_sl (a := 0) (j := 21) bkX5_seekAll_0 rfl) (by decide) rfl
theorem dX5_seekAll_22 : DR cX5_seekAll 22 (.iconst 0) 1 := dk_3 (bA_sl (a := 0) (j := 22) bkX5_seekAll_0 rfl)
theorem dX5_seekAll_23 : DR cX5_seekAll 23 (.invokestatic 33) 3 := dk_184 (bA_sl (a := 0) (j := 23) bkX5_seekAll_0 rfl) (bA_sl (a := 0) (j := 24) bkX5_seekAll_0 rfl) (bA_sl (a := 0) (j := 25) bkX5_seekAll_0 rfl) (by decide) rfl
theorem dX5_seekAll_26 : DR cX5_seekAll 26 (.aload_n 2) 1 := dk_44 (bA_sl (a := 0) (j := 26) bkX5_seekAll_0 rfl)
theorem dX5_seekAll_27 : DR cX5_seekAll 27 (.iload_n 3) 1 := dk_29 (bA_sl (a := 0) (j := 27) bkX5_seekAll_0 rfl)
theorem dX5_seekAll_28 : DR cX5_seekAll 28 (.invokevirtual 38) 3 := dk_182 (bA_sl (a := 0) (j := 28) bkX5_seekAll_0 rfl) (bA_sl (a := 0) (j := 29) bkX5_seekAll_0 rfl) (bA_sl (a := 0) (j := 30) bkX5_seekAll_0 rfl) (by decide) rfl
theorem dX5_seekAll_31 : DR cX5_seekAll 31 (.istore 4) 2 := dk_54 (bA_sl (a := 0) (j := 31) bkX5_seekAll_0 rfl) (bA_sl (a := 0) (j := 32) bkX5_seekAll_0 rfl) (by decide)
theorem dX5_seekAll_33 : DR cX5_seekAll 33 (.aload_n 2) 1 := dk_44 (bA_sl (a := 0) (j := 33) bkX5_seekAll_0 rfl)
theorem dX5_seekAll_34 : DR cX5_seekAll 34 (.iload_n 3) 1 := dk_29 (bA_sl (a := 0) (j := 34) bkX5_seekAll_0 rfl)
theorem dX5_seekAll_35 : DR cX5_seekAll 35 (.invokevirtual 44) 3 := dk_182 (bA_sl (a := 0) (j := 35) bkX5_seekAll_0 rfl) (bA_sl (a := 0) (j := 36) bkX5_seekAll_0 rfl) (bA_sl (a := 0) (j := 37) bkX5_seekAll_0 rfl) (by decide) rfl
theorem dX5_seekAll_38 : DR cX5_seekAll 38 (.istore 5) 2 := dk_54 (bA_sl (a := 0) (j := 38) bkX5_seekAll_0 rfl) (bA_sl (a := 0) (j := 39) bkX5_seekAll_0 rfl) (by decide)
theorem dX5_seekAll_40 : DR cX5_seekAll 40 (.iload 5) 2 := dk_21 (bA_sl (a := 0) (j := 40) bkX5_seekAll_0 rfl) (bA_sl (a := 0) (j := 41) bkX5_seekAll_0 rfl) (by decide)
theorem dX5_seekAll_42 : DR cX5_seekAll 42 (.iload 4) 2 := dk_21 (bA_sl (a := 0) (j := 42) bkX5_seekAll_0 rfl) (bA_sl (a := 0) (j := 43) bkX5_seekAll_0 rfl) (by decide)
theorem dX5_seekAll_44 : DR cX5_seekAll 44 (.if_icmp .ge 35) 3 := dk_162 (bA_sl (a := 0) (j := 44) bkX5_seekAll_0 rfl) (bA_sl (a := 0) (j := 45) bkX5_seekAll_0 rfl) (bA_sl (a := 0) (j := 46) bkX5_seekAll_0 rfl) (by decide) (by decide)
theorem dX5_seekAll_47 : DR cX5_seekAll 47 (.aload_n 2) 1 := dk_44 (bA_sl (a := 0) (j := 47) bkX5_seekAll_0 rfl)
theorem dX5_seekAll_48 : DR cX5_seekAll 48 (.getfield 47) 3 := dk_180 (bA_sl (a := 0) (j := 48) bkX5_seekAll_0 rfl) (bA_sl (a := 0) (j := 49) bkX5_seekAll_0 rfl) (bA_sl (a := 0) (j := 50) bkX5_seekAll_0 rfl) (by decide) rfl
theorem dX5_seekAll_51 : DR cX5_seekAll 51 (.iload 5) 2 := dk_21 (bA_sl (a := 0) (j := 51) bkX5_seekAll_0 rfl) (bA_sl (a := 0) (j := 52) bkX5_seekAll_0 rfl) (by decide)
theorem dX5_seekAll_53 : DR cX5_seekAll 53 (.baload) 1 := dk_51 (bA_sl (a := 0) (j := 53) bkX5_seekAll_0 rfl)
theorem dX5_seekAll_54 : DR cX5_seekAll 54 (.ifCond .ne 19) 3 := dk_154 (bA_sl (a := 0) (j := 54) bkX5_seekAll_0 rfl) (bA_sl (a := 0) (j := 55) bkX5_seekAll_0 rfl) (bA_sl (a := 0) (j := 56) bkX5_seekAll_0 rfl) (by decide) (by decide)
theorem dX5_seekAll_57 : DR cX5_seekAll 57 (.aload_n 1) 1 := dk_43 (bA_sl (a := 0) (j := 57) bkX5_seekAll_0 rfl)
theorem dX5_seekAll_58 : DR cX5_seekAll 58 (.aload_n 2) 1 := dk_44 (bA_sl (a := 0) (j := 58) bkX5_seekAll_0 rfl)
theorem dX5_seekAll_59 : DR cX5_seekAll 59 (.getfield 51) 3 := dk_180 (bA_sl (a := 0) (j := 59) bkX5_seekAll_0 rfl) (bA_sl (a := 0) (j := 60) bkX5_seekAll_0 rfl) (bA_sl (a := 0) (j := 61) bkX5_seekAll_0 rfl) (by decide) rfl
theorem dX5_seekAll_62 : DR cX5_seekAll 62 (.iload 5) 2 := dk_21 (bA_sl (a := 0) (j := 62) bkX5_seekAll_0 rfl) (bA_sl (a := 0) (j := 63) bkX5_seekAll_0 rfl) (by decide)
theorem bkX5_seekAll_1 : ((cX5_seekAll.data.toList.drop 64).take 64).map UInt8.toNat = [47, 182, 0, 55, 42, 43, 182, 0, 59, 132, 5, 1, 167, 255, 220, 177] := by decide +kernel
theorem dX5_seekAll_64 : DR cX5_seekAll 64 (.laload) 1 := dk_47 (bA_sl (a := 64) (j := 0) bkX5_seekAll_1 rfl)
theorem dX5_seekAll_65 : DR cX5_seekAll 65 (.invokevirtual 55) 3 := dk_182 (bA_sl (a := 64) (j := 1) bkX5_seekAll_1 rfl) (bA_sl (a := 64) (j := 2) bkX5_seekAll_1 rfl) (bA_sl (a := 64) (j := 3) bkX5_seekAll_1 rfl) (by decide) rfl
theorem dX5_seekAll_68 : DR cX5_seekAll 68 (.aload_n 0) 1 := dk_42 (bA_sl (a := 64) (j := 4) bkX5_seekAll_1 rfl)
theorem dX5_seekAll_69 : DR cX5_seekAll 69 (.aload_n 1) 1 := dk_43 (bA_sl (a := 64) (j := 5) bkX5_seekAll_1 rfl)
theorem dX5_seekAll_70 : DR cX5_seekAll 70 (.invokevirtual 59) 3 := dk_182 (bA_sl (a := 64) (j := 6) bkX5_seekAll_1 rfl) (bA_sl (a := 64) (j := 7) bkX5_seekAll_1 rfl) (bA_sl (a := 64) (j := 8) bkX5_seekAll_1 rfl) (by decide) rfl
theorem dX5_seekAll_73 : DR cX5_seekAll 73 (.iinc 5 1) 3 := dk_132 (bA_sl (a := 64) (j := 9) bkX5_seekAll_1 rfl) (bA_sl (a := 64) (j := 10) bkX5_seekAll_1 rfl) (bA_sl (a := 64) (j := 11) bkX5_seekAll_1 rfl) (by decide) (by decide)
theorem dX5_seekAll_76 : DR cX5_seekAll 76 (.goto (-36)) 3 := dk_167 (bA_sl (a := 64) (j := 12) bkX5_seekAll_1 rfl) (bA_sl (a := 64) (j := 13) bkX5_seekAll_1 rfl) (bA_sl (a := 64) (j := 14) bkX5_seekAll_1 rfl) (by decide) (by decide)
theorem dX5_seekAll_79 : DR cX5_seekAll 79 (.return_) 1 := dk_177 (bA_sl (a := 64) (j := 15) bkX5_seekAll_1 rfl)
theorem bkX5_weigh_0 : ((cX5_weigh.data.toList.drop 0).take 64).map UInt8.toNat = [43, 180, 0, 63, 180, 0, 67, 61, 3, 62, 3, 54, 4, 21, 4, 28, 162, 0, 66, 43, 43, 180, 0, 73, 21, 4, 182, 0, 76, 54, 5, 42, 180, 0, 18, 21, 4, 43, 42, 180, 0, 9, 21, 4, 182, 0, 76, 21, 5, 100, 79, 42, 180, 0, 21, 21, 4, 43, 42, 180, 0, 15, 21, 4] := by decide +kernel
theorem dX5_weigh_0 : DR cX5_weigh 0 (.aload_n 1) 1 := dk_43 (bA_sl (a := 0) (j := 0) bkX5_weigh_0 rfl)
theorem dX5_weigh_1 : DR cX5_weigh 1 (.getfield 63) 3 := dk_180 (bA_sl (a := 0) (j := 1) bkX5_weigh_0 rfl) (bA_sl (a := 0) (j := 2) bkX5_weigh_0 rfl) (bA_sl (a := 0) (j := 3) bkX5_weigh_0 rfl) (by decide) rfl
theorem dX5_weigh_4 : DR cX5_weigh 4 (.getfield 67) 3 := dk_180 (bA_sl (a := 0) (j := 4) bkX5_weigh_0 rfl) (bA_sl (a := 0) (j := 5) bkX5_weigh_0 rfl) (bA_sl (a := 0) (j := 6) bkX5_weigh_0 rfl) (by decide) rfl
theorem dX5_weigh_7 : DR cX5_weigh 7 (.istore_n 2) 1 := dk_61 (bA_sl (a := 0) (j := 7) bkX5_weigh_0 rfl)
theorem dX5_weigh_8 : DR cX5_weigh 8 (.iconst 0) 1 := dk_3 (bA_sl (a := 0) (j := 8) bkX5_weigh_0 rfl)
theorem dX5_weigh_9 : DR cX5_weigh 9 (.istore_n 3) 1 := dk_62 (bA_sl (a := 0) (j := 9) bkX5_weigh_0 rfl)
theorem dX5_weigh_10 : DR cX5_weigh 10 (.iconst 0) 1 := dk_3 (bA_sl (a := 0) (j := 10) bkX5_weigh_0 rfl)
theorem dX5_weigh_11 : DR cX5_weigh 11 (.istore 4) 2 := dk_54 (bA_sl (a := 0) (j := 11) bkX5_weigh_0 rfl) (bA_sl (a := 0) (j := 12) bkX5_weigh_0 rfl) (by decide)
theorem dX5_weigh_13 : DR cX5_weigh 13 (.iload 4) 2 := dk_21 (bA_sl (a := 0) (j := 13) bkX5_weigh_0 rfl) (bA_sl (a := 0) (j := 14) bkX5_weigh_0 rfl) (by decide)
theorem dX5_weigh_15 : DR cX5_weigh 15 (.iload_n 2) 1 := dk_28 (bA_sl (a := 0) (j := 15) bkX5_weigh_0 rfl)
theorem dX5_weigh_16 : DR cX5_weigh 16 (.if_icmp .ge 66) 3 := dk_162 (bA_sl (a := 0) (j := 16) bkX5_weigh_0 rfl) (bA_sl (a := 0) (j := 17) bkX5_weigh_0 rfl) (bA_sl (a := 0) (j := 18) bkX5_weigh_0 rfl) (by decide) (by decide)
theorem dX5_weigh_19 : DR cX5_weigh 19 (.aload_n 1) 1 := dk_43 (bA_sl (a := 0) (j := 19) bkX5_weigh_0 rfl)
theorem dX5_weigh_20 : DR cX5_weigh 20 (.aload_n 1) 1 := dk_43 (bA_sl (a := 0) (j := 20) bkX5_weigh_0 rfl)
theorem dX5_weigh_21 : DR cX5_weigh 21 (.getfield 73) 3 := dk_180 (bA_sl (a := 0) (j := 21) bkX5_weigh_0 rfl) (bA_sl (a := 0) (j := 22) bkX5_weigh_0 rfl) (bA_sl (a := 0) (j := 23) bkX5_weigh_0 rfl) (by decide) rfl
theorem dX5_weigh_24 : DR cX5_weigh 24 (.iload 4) 2 := dk_21 (bA_sl (a := 0) (j := 24) bkX5_weigh_0 rfl) (bA_sl (a := 0) (j := 25) bkX5_weigh_0 rfl) (by decide)
theorem dX5_weigh_26 : DR cX5_weigh 26 (.invokevirtual 76) 3 := dk_182 (bA_sl (a := 0) (j := 26) bkX5_weigh_0 rfl) (bA_sl (a := 0) (j := 27) bkX5_weigh_0 rfl) (bA_sl (a := 0) (j := 28) bkX5_weigh_0 rfl) (by decide) rfl
theorem dX5_weigh_29 : DR cX5_weigh 29 (.istore 5) 2 := dk_54 (bA_sl (a := 0) (j := 29) bkX5_weigh_0 rfl) (bA_sl (a := 0) (j := 30) bkX5_weigh_0 rfl) (by decide)
theorem dX5_weigh_31 : DR cX5_weigh 31 (.aload_n 0) 1 := dk_42 (bA_sl (a := 0) (j := 31) bkX5_weigh_0 rfl)
theorem dX5_weigh_32 : DR cX5_weigh 32 (.getfield 18) 3 := dk_180 (bA_sl (a := 0) (j := 32) bkX5_weigh_0 rfl) (bA_sl (a := 0) (j := 33) bkX5_weigh_0 rfl) (bA_sl (a := 0) (j := 34) bkX5_weigh_0 rfl) (by decide) rfl
theorem dX5_weigh_35 : DR cX5_weigh 35 (.iload 4) 2 := dk_21 (bA_sl (a := 0) (j := 35) bkX5_weigh_0 rfl) (bA_sl (a := 0) (j := 36) bkX5_weigh_0 rfl) (by decide)
theorem dX5_weigh_37 : DR cX5_weigh 37 (.aload_n 1) 1 := dk_43 (bA_sl (a := 0) (j := 37) bkX5_weigh_0 rfl)
theorem dX5_weigh_38 : DR cX5_weigh 38 (.aload_n 0) 1 := dk_42 (bA_sl (a := 0) (j := 38) bkX5_weigh_0 rfl)
theorem dX5_weigh_39 : DR cX5_weigh 39 (.getfield 9) 3 := dk_180 (bA_sl (a := 0) (j := 39) bkX5_weigh_0 rfl) (bA_sl (a := 0) (j := 40) bkX5_weigh_0 rfl) (bA_sl (a := 0) (j := 41) bkX5_weigh_0 rfl) (by decide) rfl
theorem dX5_weigh_42 : DR cX5_weigh 42 (.iload 4) 2 := dk_21 (bA_sl (a := 0) (j := 42) bkX5_weigh_0 rfl) (bA_sl (a := 0) (j := 43) bkX5_weigh_0 rfl) (by decide)
theorem dX5_weigh_44 : DR cX5_weigh 44 (.invokevirtual 76) 3 := dk_182 (bA_sl (a := 0) (j := 44) bkX5_weigh_0 rfl) (bA_sl (a := 0) (j := 45) bkX5_weigh_0 rfl) (bA_sl (a := 0) (j := 46) bkX5_weigh_0 rfl) (by decide) rfl
theorem dX5_weigh_47 : DR cX5_weigh 47 (.iload 5) 2 := dk_21 (bA_sl (a := 0) (j := 47) bkX5_weigh_0 rfl) (bA_sl (a := 0) (j := 48) bkX5_weigh_0 rfl) (by decide)
theorem dX5_weigh_49 : DR cX5_weigh 49 (.isub) 1 := dk_100 (bA_sl (a := 0) (j := 49) bkX5_weigh_0 rfl)
theorem dX5_weigh_50 : DR cX5_weigh 50 (.iastore) 1 := dk_79 (bA_sl (a := 0) (j := 50) bkX5_weigh_0 rfl)
theorem dX5_weigh_51 : DR cX5_weigh 51 (.aload_n 0) 1 := dk_42 (bA_sl (a := 0) (j := 51) bkX5_weigh_0 rfl)
theorem dX5_weigh_52 : DR cX5_weigh 52 (.getfield 21) 3 := dk_180 (bA_sl (a := 0) (j := 52) bkX5_weigh_0 rfl) (bA_sl (a := 0) (j := 53) bkX5_weigh_0 rfl) (bA_sl (a := 0) (j := 54) bkX5_weigh_0 rfl) (by decide) rfl
theorem dX5_weigh_55 : DR cX5_weigh 55 (.iload 4) 2 := dk_21 (bA_sl (a := 0) (j := 55) bkX5_weigh_0 rfl) (bA_sl (a := 0) (j := 56) bkX5_weigh_0 rfl) (by decide)
theorem dX5_weigh_57 : DR cX5_weigh 57 (.aload_n 1) 1 := dk_43 (bA_sl (a := 0) (j := 57) bkX5_weigh_0 rfl)
theorem dX5_weigh_58 : DR cX5_weigh 58 (.aload_n 0) 1 := dk_42 (bA_sl (a := 0) (j := 58) bkX5_weigh_0 rfl)
theorem dX5_weigh_59 : DR cX5_weigh 59 (.getfield 15) 3 := dk_180 (bA_sl (a := 0) (j := 59) bkX5_weigh_0 rfl) (bA_sl (a := 0) (j := 60) bkX5_weigh_0 rfl) (bA_sl (a := 0) (j := 61) bkX5_weigh_0 rfl) (by decide) rfl
theorem dX5_weigh_62 : DR cX5_weigh 62 (.iload 4) 2 := dk_21 (bA_sl (a := 0) (j := 62) bkX5_weigh_0 rfl) (bA_sl (a := 0) (j := 63) bkX5_weigh_0 rfl) (by decide)
theorem bkX5_weigh_1 : ((cX5_weigh.data.toList.drop 64).take 64).map UInt8.toNat = [182, 0, 76, 21, 5, 100, 79, 29, 21, 5, 96, 62, 132, 4, 1, 167, 255, 190, 3, 54, 4, 21, 4, 28, 162, 0, 81, 29, 42, 180, 0, 18, 21, 4, 46, 96, 54, 5, 21, 4, 16, 16, 104, 54, 6, 3, 54, 7, 21, 7, 28, 162, 0, 48, 21, 5, 42, 180, 0, 21, 21, 7, 46, 96] := by decide +kernel
theorem dX5_weigh_64 : DR cX5_weigh 64 (.invokevirtual 76) 3 := dk_182 (bA_sl (a := 64) (j := 0) bkX5_weigh_1 rfl) (bA_sl (a := 64) (j := 1) bkX5_weigh_1 rfl) (bA_sl (a := 64) (j := 2) bkX5_weigh_1 rfl) (by decide) rfl
theorem dX5_weigh_67 : DR cX5_weigh 67 (.iload 5) 2 := dk_21 (bA_sl (a := 64) (j := 3) bkX5_weigh_1 rfl) (bA_sl (a := 64) (j := 4) bkX5_weigh_1 rfl) (by decide)
theorem dX5_weigh_69 : DR cX5_weigh 69 (.isub) 1 := dk_100 (bA_sl (a := 64) (j := 5) bkX5_weigh_1 rfl)
theorem dX5_weigh_70 : DR cX5_weigh 70 (.iastore) 1 := dk_79 (bA_sl (a := 64) (j := 6) bkX5_weigh_1 rfl)
theorem dX5_weigh_71 : DR cX5_weigh 71 (.iload_n 3) 1 := dk_29 (bA_sl (a := 64) (j := 7) bkX5_weigh_1 rfl)
theorem dX5_weigh_72 : DR cX5_weigh 72 (.iload 5) 2 := dk_21 (bA_sl (a := 64) (j := 8) bkX5_weigh_1 rfl) (bA_sl (a := 64) (j := 9) bkX5_weigh_1 rfl) (by decide)
theorem dX5_weigh_74 : DR cX5_weigh 74 (.iadd) 1 := dk_96 (bA_sl (a := 64) (j := 10) bkX5_weigh_1 rfl)
theorem dX5_weigh_75 : DR cX5_weigh 75 (.istore_n 3) 1 := dk_62 (bA_sl (a := 64) (j := 11) bkX5_weigh_1 rfl)
theorem dX5_weigh_76 : DR cX5_weigh 76 (.iinc 4 1) 3 := dk_132 (bA_sl (a := 64) (j := 12) bkX5_weigh_1 rfl) (bA_sl (a := 64) (j := 13) bkX5_weigh_1 rfl) (bA_sl (a := 64) (j := 14) bkX5_weigh_1 rfl) (by decide) (by decide)
theorem dX5_weigh_79 : DR cX5_weigh 79 (.goto (-66)) 3 := dk_167 (bA_sl (a := 64) (j := 15) bkX5_weigh_1 rfl) (bA_sl (a := 64) (j := 16) bkX5_weigh_1 rfl) (bA_sl (a := 64) (j := 17) bkX5_weigh_1 rfl) (by decide) (by decide)
theorem dX5_weigh_82 : DR cX5_weigh 82 (.iconst 0) 1 := dk_3 (bA_sl (a := 64) (j := 18) bkX5_weigh_1 rfl)
theorem dX5_weigh_83 : DR cX5_weigh 83 (.istore 4) 2 := dk_54 (bA_sl (a := 64) (j := 19) bkX5_weigh_1 rfl) (bA_sl (a := 64) (j := 20) bkX5_weigh_1 rfl) (by decide)
theorem dX5_weigh_85 : DR cX5_weigh 85 (.iload 4) 2 := dk_21 (bA_sl (a := 64) (j := 21) bkX5_weigh_1 rfl) (bA_sl (a := 64) (j := 22) bkX5_weigh_1 rfl) (by decide)
theorem dX5_weigh_87 : DR cX5_weigh 87 (.iload_n 2) 1 := dk_28 (bA_sl (a := 64) (j := 23) bkX5_weigh_1 rfl)
theorem dX5_weigh_88 : DR cX5_weigh 88 (.if_icmp .ge 81) 3 := dk_162 (bA_sl (a := 64) (j := 24) bkX5_weigh_1 rfl) (bA_sl (a := 64) (j := 25) bkX5_weigh_1 rfl) (bA_sl (a := 64) (j := 26) bkX5_weigh_1 rfl) (by decide) (by decide)
theorem dX5_weigh_91 : DR cX5_weigh 91 (.iload_n 3) 1 := dk_29 (bA_sl (a := 64) (j := 27) bkX5_weigh_1 rfl)
theorem dX5_weigh_92 : DR cX5_weigh 92 (.aload_n 0) 1 := dk_42 (bA_sl (a := 64) (j := 28) bkX5_weigh_1 rfl)
theorem dX5_weigh_93 : DR cX5_weigh 93 (.getfield 18) 3 := dk_180 (bA_sl (a := 64) (j := 29) bkX5_weigh_1 rfl) (bA_sl (a := 64) (j := 30) bkX5_weigh_1 rfl) (bA_sl (a := 64) (j := 31) bkX5_weigh_1 rfl) (by decide) rfl
theorem dX5_weigh_96 : DR cX5_weigh 96 (.iload 4) 2 := dk_21 (bA_sl (a := 64) (j := 32) bkX5_weigh_1 rfl) (bA_sl (a := 64) (j := 33) bkX5_weigh_1 rfl) (by decide)
theorem dX5_weigh_98 : DR cX5_weigh 98 (.iaload) 1 := dk_46 (bA_sl (a := 64) (j := 34) bkX5_weigh_1 rfl)
theorem dX5_weigh_99 : DR cX5_weigh 99 (.iadd) 1 := dk_96 (bA_sl (a := 64) (j := 35) bkX5_weigh_1 rfl)
theorem dX5_weigh_100 : DR cX5_weigh 100 (.istore 5) 2 := dk_54 (bA_sl (a := 64) (j := 36) bkX5_weigh_1 rfl) (bA_sl (a := 64) (j := 37) bkX5_weigh_1 rfl) (by decide)
theorem dX5_weigh_102 : DR cX5_weigh 102 (.iload 4) 2 := dk_21 (bA_sl (a := 64) (j := 38) bkX5_weigh_1 rfl) (bA_sl (a := 64) (j := 39) bkX5_weigh_1 rfl) (by decide)
theorem dX5_weigh_104 : DR cX5_weigh 104 (.bipush 16) 2 := dk_16 (bA_sl (a := 64) (j := 40) bkX5_weigh_1 rfl) (bA_sl (a := 64) (j := 41) bkX5_weigh_1 rfl) (by decide) (by decide)
theorem dX5_weigh_106 : DR cX5_weigh 106 (.imul) 1 := dk_104 (bA_sl (a := 64) (j := 42) bkX5_weigh_1 rfl)
theorem dX5_weigh_107 : DR cX5_weigh 107 (.istore 6) 2 := dk_54 (bA_sl (a := 64) (j := 43) bkX5_weigh_1 rfl) (bA_sl (a := 64) (j := 44) bkX5_weigh_1 rfl) (by decide)
theorem dX5_weigh_109 : DR cX5_weigh 109 (.iconst 0) 1 := dk_3 (bA_sl (a := 64) (j := 45) bkX5_weigh_1 rfl)
theorem dX5_weigh_110 : DR cX5_weigh 110 (.istore 7) 2 := dk_54 (bA_sl (a := 64) (j := 46) bkX5_weigh_1 rfl) (bA_sl (a := 64) (j := 47) bkX5_weigh_1 rfl) (by decide)
theorem dX5_weigh_112 : DR cX5_weigh 112 (.iload 7) 2 := dk_21 (bA_sl (a := 64) (j := 48) bkX5_weigh_1 rfl) (bA_sl (a := 64) (j := 49) bkX5_weigh_1 rfl) (by decide)
theorem dX5_weigh_114 : DR cX5_weigh 114 (.iload_n 2) 1 := dk_28 (bA_sl (a := 64) (j := 50) bkX5_weigh_1 rfl)
theorem dX5_weigh_115 : DR cX5_weigh 115 (.if_icmp .ge 48) 3 := dk_162 (bA_sl (a := 64) (j := 51) bkX5_weigh_1 rfl) (bA_sl (a := 64) (j := 52) bkX5_weigh_1 rfl) (bA_sl (a := 64) (j := 53) bkX5_weigh_1 rfl) (by decide) (by decide)
theorem dX5_weigh_118 : DR cX5_weigh 118 (.iload 5) 2 := dk_21 (bA_sl (a := 64) (j := 54) bkX5_weigh_1 rfl) (bA_sl (a := 64) (j := 55) bkX5_weigh_1 rfl) (by decide)
theorem dX5_weigh_120 : DR cX5_weigh 120 (.aload_n 0) 1 := dk_42 (bA_sl (a := 64) (j := 56) bkX5_weigh_1 rfl)
theorem dX5_weigh_121 : DR cX5_weigh 121 (.getfield 21) 3 := dk_180 (bA_sl (a := 64) (j := 57) bkX5_weigh_1 rfl) (bA_sl (a := 64) (j := 58) bkX5_weigh_1 rfl) (bA_sl (a := 64) (j := 59) bkX5_weigh_1 rfl) (by decide) rfl
theorem dX5_weigh_124 : DR cX5_weigh 124 (.iload 7) 2 := dk_21 (bA_sl (a := 64) (j := 60) bkX5_weigh_1 rfl) (bA_sl (a := 64) (j := 61) bkX5_weigh_1 rfl) (by decide)
theorem dX5_weigh_126 : DR cX5_weigh 126 (.iaload) 1 := dk_46 (bA_sl (a := 64) (j := 62) bkX5_weigh_1 rfl)
theorem dX5_weigh_127 : DR cX5_weigh 127 (.iadd) 1 := dk_96 (bA_sl (a := 64) (j := 63) bkX5_weigh_1 rfl)
theorem bkX5_weigh_2 : ((cX5_weigh.data.toList.drop 128).take 64).map UInt8.toNat = [54, 8, 21, 8, 42, 180, 0, 24, 21, 6, 21, 7, 96, 46, 164, 0, 15, 42, 180, 0, 24, 21, 6, 21, 7, 96, 21, 8, 79, 132, 7, 1, 167, 255, 208, 132, 4, 1, 167, 255, 175, 177] := by decide +kernel
theorem dX5_weigh_128 : DR cX5_weigh 128 (.istore 8) 2 := dk_54 (bA_sl (a := 128) (j := 0) bkX5_weigh_2 rfl) (bA_sl (a := 128) (j := 1) bkX5_weigh_2 rfl) (by decide)
theorem dX5_weigh_130 : DR cX5_weigh 130 (.iload 8) 2 := dk_21 (bA_sl (a := 128) (j := 2) bkX5_weigh_2 rfl) (bA_sl (a := 128) (j := 3) bkX5_weigh_2 rfl) (by decide)
theorem dX5_weigh_132 : DR cX5_weigh 132 (.aload_n 0) 1 := dk_42 (bA_sl (a := 128) (j := 4) bkX5_weigh_2 rfl)
theorem dX5_weigh_133 : DR cX5_weigh 133 (.getfield 24) 3 := dk_180 (bA_sl (a := 128) (j := 5) bkX5_weigh_2 rfl) (bA_sl (a := 128) (j := 6) bkX5_weigh_2 rfl) (bA_sl (a := 128) (j := 7) bkX5_weigh_2 rfl) (by decide) rfl
theorem dX5_weigh_136 : DR cX5_weigh 136 (.iload 6) 2 := dk_21 (bA_sl (a := 128) (j := 8) bkX5_weigh_2 rfl) (bA_sl (a := 128) (j := 9) bkX5_weigh_2 rfl) (by decide)
theorem dX5_weigh_138 : DR cX5_weigh 138 (.iload 7) 2 := dk_21 (bA_sl (a := 128) (j := 10) bkX5_weigh_2 rfl) (bA_sl (a := 128) (j := 11) bkX5_weigh_2 rfl) (by decide)
theorem dX5_weigh_140 : DR cX5_weigh 140 (.iadd) 1 := dk_96 (bA_sl (a := 128) (j := 12) bkX5_weigh_2 rfl)
theorem dX5_weigh_141 : DR cX5_weigh 141 (.iaload) 1 := dk_46 (bA_sl (a := 128) (j := 13) bkX5_weigh_2 rfl)
theorem dX5_weigh_142 : DR cX5_weigh 142 (.if_icmp .le 15) 3 := dk_164 (bA_sl (a := 128) (j := 14) bkX5_weigh_2 rfl) (bA_sl (a := 128) (j := 15) bkX5_weigh_2 rfl) (bA_sl (a := 128) (j := 16) bkX5_weigh_2 rfl) (by decide) (by decide)
theorem dX5_weigh_145 : DR cX5_weigh 145 (.aload_n 0) 1 := dk_42 (bA_sl (a := 128) (j := 17) bkX5_weigh_2 rfl)
theorem dX5_weigh_146 : DR cX5_weigh 146 (.getfield 24) 3 := dk_180 (bA_sl (a := 128) (j := 18) bkX5_weigh_2 rfl) (bA_sl (a := 128) (j := 19) bkX5_weigh_2 rfl) (bA_sl (a := 128) (j := 20) bkX5_weigh_2 rfl) (by decide) rfl
theorem dX5_weigh_149 : DR cX5_weigh 149 (.iload 6) 2 := dk_21 (bA_sl (a := 128) (j := 21) bkX5_weigh_2 rfl) (bA_sl (a := 128) (j := 22) bkX5_weigh_2 rfl) (by decide)
theorem dX5_weigh_151 : DR cX5_weigh 151 (.iload 7) 2 := dk_21 (bA_sl (a := 128) (j := 23) bkX5_weigh_2 rfl) (bA_sl (a := 128) (j := 24) bkX5_weigh_2 rfl) (by decide)
theorem dX5_weigh_153 : DR cX5_weigh 153 (.iadd) 1 := dk_96 (bA_sl (a := 128) (j := 25) bkX5_weigh_2 rfl)
theorem dX5_weigh_154 : DR cX5_weigh 154 (.iload 8) 2 := dk_21 (bA_sl (a := 128) (j := 26) bkX5_weigh_2 rfl) (bA_sl (a := 128) (j := 27) bkX5_weigh_2 rfl) (by decide)
theorem dX5_weigh_156 : DR cX5_weigh 156 (.iastore) 1 := dk_79 (bA_sl (a := 128) (j := 28) bkX5_weigh_2 rfl)
theorem dX5_weigh_157 : DR cX5_weigh 157 (.iinc 7 1) 3 := dk_132 (bA_sl (a := 128) (j := 29) bkX5_weigh_2 rfl) (bA_sl (a := 128) (j := 30) bkX5_weigh_2 rfl) (bA_sl (a := 128) (j := 31) bkX5_weigh_2 rfl) (by decide) (by decide)
theorem dX5_weigh_160 : DR cX5_weigh 160 (.goto (-48)) 3 := dk_167 (bA_sl (a := 128) (j := 32) bkX5_weigh_2 rfl) (bA_sl (a := 128) (j := 33) bkX5_weigh_2 rfl) (bA_sl (a := 128) (j := 34) bkX5_weigh_2 rfl) (by decide) (by decide)
theorem dX5_weigh_163 : DR cX5_weigh 163 (.iinc 4 1) 3 := dk_132 (bA_sl (a := 128) (j := 35) bkX5_weigh_2 rfl) (bA_sl (a := 128) (j := 36) bkX5_weigh_2 rfl) (bA_sl (a := 128) (j := 37) bkX5_weigh_2 rfl) (by decide) (by decide)
theorem dX5_weigh_166 : DR cX5_weigh 166 (.goto (-81)) 3 := dk_167 (bA_sl (a := 128) (j := 38) bkX5_weigh_2 rfl) (bA_sl (a := 128) (j := 39) bkX5_weigh_2 rfl) (bA_sl (a := 128) (j := 40) bkX5_weigh_2 rfl) (by decide) (by decide)
theorem dX5_weigh_169 : DR cX5_weigh 169 (.return_) 1 := dk_177 (bA_sl (a := 128) (j := 41) bkX5_weigh_2 rfl)
theorem bkX6_init_0 : ((cX6_init.data.toList.drop 0).take 64).map UInt8.toNat = [42, 183, 0, 3, 42, 187, 0, 9, 89, 183, 0, 11, 181, 0, 12, 42, 3, 181, 0, 18, 42, 2, 181, 0, 22, 42, 17, 3, 132, 188, 8, 181, 0, 25, 42, 3, 181, 0, 29, 42, 3, 181, 0, 32, 42, 3, 181, 0, 35, 42, 3, 181, 0, 38, 42, 3, 181, 0, 41, 177] := by decide +kernel
theorem dX6_init_0 : DR cX6_init 0 (.aload_n 0) 1 := dk_42 (bA_sl (a := 0) (j := 0) bkX6_init_0 rfl)
theorem dX6_init_1 : DR cX6_init 1 (.invokespecial 3) 3 := dk_183 (bA_sl (a := 0) (j := 1) bkX6_init_0 rfl) (bA_sl (a := 0) (j := 2) bkX6_init_0 rfl) (bA_sl (a := 0) (j := 3) bkX6_init_0 rfl) (by decide) rfl
theorem dX6_init_4 : DR cX6_init 4 (.aload_n 0) 1 := dk_42 (bA_sl (a := 0) (j := 4) bkX6_init_0 rfl)
theorem dX6_init_5 : DR cX6_init 5 (.new 9) 3 := dk_187 (bA_sl (a := 0) (j := 5) bkX6_init_0 rfl) (bA_sl (a := 0) (j := 6) bkX6_init_0 rfl) (bA_sl (a := 0) (j := 7) bkX6_init_0 rfl) (by decide) rfl
theorem dX6_init_8 : DR cX6_init 8 (.dup) 1 := dk_89 (bA_sl (a := 0) (j := 8) bkX6_init_0 rfl)
theorem dX6_init_9 : DR cX6_init 9 (.invokespecial 11) 3 := dk_183 (bA_sl (a := 0) (j := 9) bkX6_init_0 rfl) (bA_sl (a := 0) (j := 10) bkX6_init_0 rfl) (bA_sl (a := 0) (j := 11) bkX6_init_0 rfl) (by decide) rfl
theorem dX6_init_12 : DR cX6_init 12 (.putfield 12) 3 := dk_181 (bA_sl (a := 0) (j := 12) bkX6_init_0 rfl) (bA_sl (a := 0) (j := 13) bkX6_init_0 rfl) (bA_sl (a := 0) (j := 14) bkX6_init_0 rfl) (by decide) rfl
theorem dX6_init_15 : DR cX6_init 15 (.aload_n 0) 1 := dk_42 (bA_sl (a := 0) (j := 15) bkX6_init_0 rfl)
theorem dX6_init_16 : DR cX6_init 16 (.iconst 0) 1 := dk_3 (bA_sl (a := 0) (j := 16) bkX6_init_0 rfl)
theorem dX6_init_17 : DR cX6_init 17 (.putfield 18) 3 := dk_181 (bA_sl (a := 0) (j := 17) bkX6_init_0 rfl) (bA_sl (a := 0) (j := 18) bkX6_init_0 rfl) (bA_sl (a := 0) (j := 19) bkX6_init_0 rfl) (by decide) rfl
theorem dX6_init_20 : DR cX6_init 20 (.aload_n 0) 1 := dk_42 (bA_sl (a := 0) (j := 20) bkX6_init_0 rfl)
theorem dX6_init_21 : DR cX6_init 21 (.iconst (-1)) 1 := dk_2 (bA_sl (a := 0) (j := 21) bkX6_init_0 rfl)
theorem dX6_init_22 : DR cX6_init 22 (.putfield 22) 3 := dk_181 (bA_sl (a := 0) (j := 22) bkX6_init_0 rfl) (bA_sl (a := 0) (j := 23) bkX6_init_0 rfl) (bA_sl (a := 0) (j := 24) bkX6_init_0 rfl) (by decide) rfl
theorem dX6_init_25 : DR cX6_init 25 (.aload_n 0) 1 := dk_42 (bA_sl (a := 0) (j := 25) bkX6_init_0 rfl)
theorem dX6_init_26 : DR cX6_init 26 (.sipush 900) 3 := dk_17 (bA_sl (a := 0) (j := 26) bkX6_init_0 rfl) (bA_sl (a := 0) (j := 27) bkX6_init_0 rfl) (bA_sl (a := 0) (j := 28) bkX6_init_0 rfl) (by decide) (by decide)
theorem dX6_init_29 : decode cX6_init 29 = .ok (.newarray .byte, 2) := by decide +kernel
theorem dX6_init_31 : DR cX6_init 31 (.putfield 25) 3 := dk_181 (bA_sl (a := 0) (j := 31) bkX6_init_0 rfl) (bA_sl (a := 0) (j := 32) bkX6_init_0 rfl) (bA_sl (a := 0) (j := 33) bkX6_init_0 rfl) (by decide) rfl
theorem dX6_init_34 : DR cX6_init 34 (.aload_n 0) 1 := dk_42 (bA_sl (a := 0) (j := 34) bkX6_init_0 rfl)
theorem dX6_init_35 : DR cX6_init 35 (.iconst 0) 1 := dk_3 (bA_sl (a := 0) (j := 35) bkX6_init_0 rfl)
theorem dX6_init_36 : DR cX6_init 36 (.putfield 29) 3 := dk_181 (bA_sl (a := 0) (j := 36) bkX6_init_0 rfl) (bA_sl (a := 0) (j := 37) bkX6_init_0 rfl) (bA_sl (a := 0) (j := 38) bkX6_init_0 rfl) (by decide) rfl
theorem dX6_init_39 : DR cX6_init 39 (.aload_n 0) 1 := dk_42 (bA_sl (a := 0) (j := 39) bkX6_init_0 rfl)
theorem dX6_init_40 : DR cX6_init 40 (.iconst 0) 1 := dk_3 (bA_sl (a := 0) (j := 40) bkX6_init_0 rfl)
theorem dX6_init_41 : DR cX6_init 41 (.putfield 32) 3 := dk_181 (bA_sl (a := 0) (j := 41) bkX6_init_0 rfl) (bA_sl (a := 0) (j := 42) bkX6_init_0 rfl) (bA_sl (a := 0) (j := 43) bkX6_init_0 rfl) (by decide) rfl
theorem dX6_init_44 : DR cX6_init 44 (.aload_n 0) 1 := dk_42 (bA_sl (a := 0) (j := 44) bkX6_init_0 rfl)
theorem dX6_init_45 : DR cX6_init 45 (.iconst 0) 1 := dk_3 (bA_sl (a := 0) (j := 45) bkX6_init_0 rfl)
theorem dX6_init_46 : DR cX6_init 46 (.putfield 35) 3 := dk_181 (bA_sl (a := 0) (j := 46) bkX6_init_0 rfl) (bA_sl (a := 0) (j := 47) bkX6_init_0 rfl) (bA_sl (a := 0) (j := 48) bkX6_init_0 rfl) (by decide) rfl
theorem dX6_init_49 : DR cX6_init 49 (.aload_n 0) 1 := dk_42 (bA_sl (a := 0) (j := 49) bkX6_init_0 rfl)
theorem dX6_init_50 : DR cX6_init 50 (.iconst 0) 1 := dk_3 (bA_sl (a := 0) (j := 50) bkX6_init_0 rfl)
theorem dX6_init_51 : DR cX6_init 51 (.putfield 38) 3 := dk_181 (bA_sl (a := 0) (j := 51) bkX6_init_0 rfl) (bA_sl (a := 0) (j := 52) bkX6_init_0 rfl) (bA_sl (a := 0) (j := 53) bkX6_init_0 rfl) (by decide) rfl
theorem dX6_init_54 : DR cX6_init 54 (.aload_n 0) 1 := dk_42 (bA_sl (a := 0) (j := 54) bkX6_init_0 rfl)
theorem dX6_init_55 : DR cX6_init 55 (.iconst 0) 1 := dk_3 (bA_sl (a := 0) (j := 55) bkX6_init_0 rfl)
theorem dX6_init_56 : DR cX6_init 56 (.putfield 41) 3 := dk_181 (bA_sl (a := 0) (j := 56) bkX6_init_0 rfl) (bA_sl (a := 0) (j := 57) bkX6_init_0 rfl) (bA_sl (a := 0) (j := 58) bkX6_init_0 rfl) (by decide) rfl
theorem dX6_init_59 : DR cX6_init 59 (.return_) 1 := dk_177 (bA_sl (a := 0) (j := 59) bkX6_init_0 rfl)
theorem bkX6_readText_0 : ((cX6_readText.data.toList.drop 0).take 64).map UInt8.toNat = [42, 3, 28, 43, 190, 17, 3, 132, 184, 0, 44, 184, 0, 44, 184, 0, 50, 181, 0, 29, 43, 3, 42, 180, 0, 25, 3, 42, 180, 0, 29, 184, 0, 53, 42, 180, 0, 12, 182, 0, 59, 42, 3, 181, 0, 18, 42, 2, 181, 0, 22, 42, 3, 181, 0, 35, 42, 182, 0, 62, 3, 62, 29, 17] := by decide +kernel
theorem dX6_readText_0 : DR cX6_readText 0 (.aload_n 0) 1 := dk_42 (bA_sl (a := 0) (j := 0) bkX6_readText_0 rfl)
theorem dX6_readText_1 : DR cX6_readText 1 (.iconst 0) 1 := dk_3 (bA_sl (a := 0) (j := 1) bkX6_readText_0 rfl)
theorem dX6_readText_2 : DR cX6_readText 2 (.iload_n 2) 1 := dk_28 (bA_sl (a := 0) (j := 2) bkX6_readText_0 rfl)
theorem dX6_readText_3 : DR cX6_readText 3 (.aload_n 1) 1 := dk_43 (bA_sl (a := 0) (j := 3) bkX6_readText_0 rfl)
theorem dX6_readText_4 : DR cX6_readText 4 (.arraylength) 1 := dk_190 (bA_sl (a := 0) (j := 4) bkX6_readText_0 rfl)
theorem dX6_readText_5 : DR cX6_readText 5 (.sipush 900) 3 := dk_17 (bA_sl (a := 0) (j := 5) bkX6_readText_0 rfl) (bA_sl (a := 0) (j := 6) bkX6_readText_0 rfl) (bA_sl (a := 0) (j := 7) bkX6_readText_0 rfl) (by decide) (by decide)
theorem dX6_readText_8 : DR cX6_readText 8 (.invokestatic 44) 3 := dk_184 (bA_sl (a := 0) (j := 8) bkX6_readText_0 rfl) (bA_sl (a := 0) (j := 9) bkX6_readText_0 rfl) (bA_sl (a := 0) (j := 10) bkX6_readText_0 rfl) (by decide) rfl
theorem dX6_readText_11 : DR cX6_readText 11 (.invokestatic 44) 3 := dk_184 (bA_sl (a := 0) (j := 11) bkX6_readText_0 rfl) (bA_sl (a := 0) (j := 12) bkX6_readText_0 rfl) (bA_sl (a := 0) (j := 13) bkX6_readText_0 rfl) (by decide) rfl
theorem dX6_readText_14 : DR cX6_readText 14 (.invokestatic 50) 3 := dk_184 (bA_sl (a := 0) (j := 14) bkX6_readText_0 rfl) (bA_sl (a := 0) (j := 15) bkX6_readText_0 rfl) (bA_sl (a := 0) (j := 16) bkX6_readText_0 rfl) (by decide) rfl
theorem dX6_readText_17 : DR cX6_readText 17 (.putfield 29) 3 := dk_181 (bA_sl (a := 0) (j := 17) bkX6_readText_0 rfl) (bA_sl (a := 0) (j := 18) bkX6_readText_0 rfl) (bA_sl (a := 0) (j := 19) bkX6_readText_0 rfl) (by decide) rfl
theorem dX6_readText_20 : DR cX6_readText 20 (.aload_n 1) 1 := dk_43 (bA_sl (a := 0) (j := 20) bkX6_readText_0 rfl)
theorem dX6_readText_21 : DR cX6_readText 21 (.iconst 0) 1 := dk_3 (bA_sl (a := 0) (j := 21) bkX6_readText_0 rfl)
theorem dX6_readText_22 : DR cX6_readText 22 (.aload_n 0) 1 := dk_42 (bA_sl (a := 0) (j := 22) bkX6_readText_0 rfl)
theorem dX6_readText_23 : DR cX6_readText 23 (.getfield 25) 3 := dk_180 (bA_sl (a := 0) (j := 23) bkX6_readText_0 rfl) (bA_sl (a := 0) (j := 24) bkX6_readText_0 rfl) (bA_sl (a := 0) (j := 25) bkX6_readText_0 rfl) (by decide) rfl
theorem dX6_readText_26 : DR cX6_readText 26 (.iconst 0) 1 := dk_3 (bA_sl (a := 0) (j := 26) bkX6_readText_0 rfl)
theorem dX6_readText_27 : DR cX6_readText 27 (.aload_n 0) 1 := dk_42 (bA_sl (a := 0) (j := 27) bkX6_readText_0 rfl)
theorem dX6_readText_28 : DR cX6_readText 28 (.getfield 29) 3 := dk_180 (bA_sl (a := 0) (j := 28) bkX6_readText_0 rfl) (bA_sl (a := 0) (j := 29) bkX6_readText_0 rfl) (bA_sl (a := 0) (j := 30) bkX6_readText_0 rfl) (by decide) rfl
theorem dX6_readText_31 : DR cX6_readText 31 (.invokestatic 53) 3 := dk_184 (bA_sl (a := 0) (j := 31) bkX6_readText_0 rfl) (bA_sl (a := 0) (j := 32) bkX6_readText_0 rfl) (bA_sl (a := 0) (j := 33) bkX6_readText_0 rfl) (by decide) rfl
theorem dX6_readText_34 : DR cX6_readText 34 (.aload_n 0) 1 := dk_42 (bA_sl (a := 0) (j := 34) bkX6_readText_0 rfl)
theorem dX6_readText_35 : DR cX6_readText 35 (.getfield 12) 3 := dk_180 (bA_sl (a := 0) (j := 35) bkX6_readText_0 rfl) (bA_sl (a := 0) (j := 36) bkX6_readText_0 rfl) (bA_sl (a := 0) (j := 37) bkX6_readText_0 rfl) (by decide) rfl
theorem dX6_readText_38 : DR cX6_readText 38 (.invokevirtual 59) 3 := dk_182 (bA_sl (a := 0) (j := 38) bkX6_readText_0 rfl) (bA_sl (a := 0) (j := 39) bkX6_readText_0 rfl) (bA_sl (a := 0) (j := 40) bkX6_readText_0 rfl) (by decide) rfl
theorem dX6_readText_41 : DR cX6_readText 41 (.aload_n 0) 1 := dk_42 (bA_sl (a := 0) (j := 41) bkX6_readText_0 rfl)
theorem dX6_readText_42 : DR cX6_readText 42 (.iconst 0) 1 := dk_3 (bA_sl (a := 0) (j := 42) bkX6_readText_0 rfl)
theorem dX6_readText_43 : DR cX6_readText 43 (.putfield 18) 3 := dk_181 (bA_sl (a := 0) (j := 43) bkX6_readText_0 rfl) (bA_sl (a := 0) (j := 44) bkX6_readText_0 rfl) (bA_sl (a := 0) (j := 45) bkX6_readText_0 rfl) (by decide) rfl
theorem dX6_readText_46 : DR cX6_readText 46 (.aload_n 0) 1 := dk_42 (bA_sl (a := 0) (j := 46) bkX6_readText_0 rfl)
theorem dX6_readText_47 : DR cX6_readText 47 (.iconst (-1)) 1 := dk_2 (bA_sl (a := 0) (j := 47) bkX6_readText_0 rfl)
theorem dX6_readText_48 : DR cX6_readText 48 (.putfield 22) 3 := dk_181 (bA_sl (a := 0) (j := 48) bkX6_readText_0 rfl) (bA_sl (a := 0) (j := 49) bkX6_readText_0 rfl) (bA_sl (a := 0) (j := 50) bkX6_readText_0 rfl) (by decide) rfl
theorem dX6_readText_51 : DR cX6_readText 51 (.aload_n 0) 1 := dk_42 (bA_sl (a := 0) (j := 51) bkX6_readText_0 rfl)
theorem dX6_readText_52 : DR cX6_readText 52 (.iconst 0) 1 := dk_3 (bA_sl (a := 0) (j := 52) bkX6_readText_0 rfl)
theorem dX6_readText_53 : DR cX6_readText 53 (.putfield 35) 3 := dk_181 (bA_sl (a := 0) (j := 53) bkX6_readText_0 rfl) (bA_sl (a := 0) (j := 54) bkX6_readText_0 rfl) (bA_sl (a := 0) (j := 55) bkX6_readText_0 rfl) (by decide) rfl
theorem dX6_readText_56 : DR cX6_readText 56 (.aload_n 0) 1 := dk_42 (bA_sl (a := 0) (j := 56) bkX6_readText_0 rfl)
theorem dX6_readText_57 : DR cX6_readText 57 (.invokevirtual 62) 3 := dk_182 (bA_sl (a := 0) (j := 57) bkX6_readText_0 rfl) (bA_sl (a := 0) (j := 58) bkX6_readText_0 rfl) (bA_sl (a := 0) (j := 59) bkX6_readText_0 rfl) (by decide) rfl
theorem dX6_readText_60 : DR cX6_readText 60 (.iconst 0) 1 := dk_3 (bA_sl (a := 0) (j := 60) bkX6_readText_0 rfl)
theorem dX6_readText_61 : DR cX6_readText 61 (.istore_n 3) 1 := dk_62 (bA_sl (a := 0) (j := 61) bkX6_readText_0 rfl)
theorem dX6_readText_62 : DR cX6_readText 62 (.iload_n 3) 1 := dk_29 (bA_sl (a := 0) (j := 62) bkX6_readText_0 rfl)
theorem bkX6_readText_1 : ((cX6_readText.data.toList.drop 64).take 64).map UInt8.toNat = [3, 132, 162, 0, 27, 42, 180, 0, 38, 153, 0, 20, 42, 180, 0, 18, 154, 0, 13, 42, 182, 0, 65, 132, 3, 1, 167, 255, 228, 42, 180, 0, 18, 172] := by decide +kernel
theorem dX6_readText_63 : DR cX6_readText 63 (.sipush 900) 3 := dk_17 (bA_sl (a := 0) (j := 63) bkX6_readText_0 rfl) (bA_sl (a := 64) (j := 0) bkX6_readText_1 rfl) (bA_sl (a := 64) (j := 1) bkX6_readText_1 rfl) (by decide) (by decide)
theorem dX6_readText_66 : DR cX6_readText 66 (.if_icmp .ge 27) 3 := dk_162 (bA_sl (a := 64) (j := 2) bkX6_readText_1 rfl) (bA_sl (a := 64) (j := 3) bkX6_readText_1 rfl) (bA_sl (a := 64) (j := 4) bkX6_readText_1 rfl) (by decide) (by decide)
theorem dX6_readText_69 : DR cX6_readText 69 (.aload_n 0) 1 := dk_42 (bA_sl (a := 64) (j := 5) bkX6_readText_1 rfl)
theorem dX6_readText_70 : DR cX6_readText 70 (.getfield 38) 3 := dk_180 (bA_sl (a := 64) (j := 6) bkX6_readText_1 rfl) (bA_sl (a := 64) (j := 7) bkX6_readText_1 rfl) (bA_sl (a := 64) (j := 8) bkX6_readText_1 rfl) (by decide) rfl
theorem dX6_readText_73 : DR cX6_readText 73 (.ifCond .eq 20) 3 := dk_153 (bA_sl (a := 64) (j := 9) bkX6_readText_1 rfl) (bA_sl (a := 64) (j := 10) bkX6_readText_1 rfl) (bA_sl (a := 64) (j := 11) bkX6_readText_1 rfl) (by decide) (by decide)
theorem dX6_readText_76 : DR cX6_readText 76 (.aload_n 0) 1 := dk_42 (bA_sl (a := 64) (j := 12) bkX6_readText_1 rfl)
theorem dX6_readText_77 : DR cX6_readText 77 (.getfield 18) 3 := dk_180 (bA_sl (a := 64) (j := 13) bkX6_readText_1 rfl) (bA_sl (a := 64) (j := 14) bkX6_readText_1 rfl) (bA_sl (a := 64) (j := 15) bkX6_readText_1 rfl) (by decide) rfl
theorem dX6_readText_80 : DR cX6_readText 80 (.ifCond .ne 13) 3 := dk_154 (bA_sl (a := 64) (j := 16) bkX6_readText_1 rfl) (bA_sl (a := 64) (j := 17) bkX6_readText_1 rfl) (bA_sl (a := 64) (j := 18) bkX6_readText_1 rfl) (by decide) (by decide)
theorem dX6_readText_83 : DR cX6_readText 83 (.aload_n 0) 1 := dk_42 (bA_sl (a := 64) (j := 19) bkX6_readText_1 rfl)
theorem dX6_readText_84 : DR cX6_readText 84 (.invokevirtual 65) 3 := dk_182 (bA_sl (a := 64) (j := 20) bkX6_readText_1 rfl) (bA_sl (a := 64) (j := 21) bkX6_readText_1 rfl) (bA_sl (a := 64) (j := 22) bkX6_readText_1 rfl) (by decide) rfl
theorem dX6_readText_87 : DR cX6_readText 87 (.iinc 3 1) 3 := dk_132 (bA_sl (a := 64) (j := 23) bkX6_readText_1 rfl) (bA_sl (a := 64) (j := 24) bkX6_readText_1 rfl) (bA_sl (a := 64) (j := 25) bkX6_readText_1 rfl) (by decide) (by decide)
theorem dX6_readText_90 : DR cX6_readText 90 (.goto (-28)) 3 := dk_167 (bA_sl (a := 64) (j := 26) bkX6_readText_1 rfl) (bA_sl (a := 64) (j := 27) bkX6_readText_1 rfl) (bA_sl (a := 64) (j := 28) bkX6_readText_1 rfl) (by decide) (by decide)
theorem dX6_readText_93 : DR cX6_readText 93 (.aload_n 0) 1 := dk_42 (bA_sl (a := 64) (j := 29) bkX6_readText_1 rfl)
theorem dX6_readText_94 : DR cX6_readText 94 (.getfield 18) 3 := dk_180 (bA_sl (a := 64) (j := 30) bkX6_readText_1 rfl) (bA_sl (a := 64) (j := 31) bkX6_readText_1 rfl) (bA_sl (a := 64) (j := 32) bkX6_readText_1 rfl) (by decide) rfl
theorem dX6_readText_97 : DR cX6_readText 97 (.ireturn) 1 := dk_172 (bA_sl (a := 64) (j := 33) bkX6_readText_1 rfl)
theorem bkX6_readLine_0 : ((cX6_readLine.data.toList.drop 0).take 64).map UInt8.toNat = [42, 18, 68, 182, 0, 70, 153, 0, 10, 42, 182, 0, 74, 167, 0, 126, 42, 18, 77, 182, 0, 79, 153, 0, 10, 42, 182, 0, 82, 167, 0, 110, 42, 18, 85, 182, 0, 79, 153, 0, 21, 42, 180, 0, 12, 42, 3, 17, 3, 231, 182, 0, 87, 181, 0, 90, 167, 0, 83, 42, 18, 92, 182, 0] := by decide +kernel
theorem dX6_readLine_0 : DR cX6_readLine 0 (.aload_n 0) 1 := dk_42 (bA_sl (a := 0) (j := 0) bkX6_readLine_0 rfl)
theorem dX6_readLine_1 : DR cX6_readLine 1 (.ldc 68) 2 := dk_18 (bA_sl (a := 0) (j := 1) bkX6_readLine_0 rfl) (bA_sl (a := 0) (j := 2) bkX6_readLine_0 rfl) (by decide)
theorem dX6_readLine_3 : DR cX6_readLine 3 (.invokevirtual 70) 3 := dk_182 (bA_sl (a := 0) (j := 3) bkX6_readLine_0 rfl) (bA_sl (a := 0) (j := 4) bkX6_readLine_0 rfl) (bA_sl (a := 0) (j := 5) bkX6_readLine_0 rfl) (by decide) rfl
theorem dX6_readLine_6 : DR cX6_readLine 6 (.ifCond .eq 10) 3 := dk_153 (bA_sl (a := 0) (j := 6) bkX6_readLine_0 rfl) (bA_sl (a := 0) (j := 7) bkX6_readLine_0 rfl) (bA_sl (a := 0) (j := 8) bkX6_readLine_0 rfl) (by decide) (by decide)
theorem dX6_readLine_9 : DR cX6_readLine 9 (.aload_n 0) 1 := dk_42 (bA_sl (a := 0) (j := 9) bkX6_readLine_0 rfl)
theorem dX6_readLine_10 : DR cX6_readLine 10 (.invokevirtual 74) 3 := dk_182 (bA_sl (a := 0) (j := 10) bkX6_readLine_0 rfl) (bA_sl (a := 0) (j := 11) bkX6_readLine_0 rfl) (bA_sl (a := 0) (j := 12) bkX6_readLine_0 rfl) (by decide) rfl
theorem dX6_readLine_13 : DR cX6_readLine 13 (.goto 126) 3 := dk_167 (bA_sl (a := 0) (j := 13) bkX6_readLine_0 rfl) (bA_sl (a := 0) (j := 14) bkX6_readLine_0 rfl) (bA_sl (a := 0) (j := 15) bkX6_readLine_0 rfl) (by decide) (by decide)
theorem dX6_readLine_16 : DR cX6_readLine 16 (.aload_n 0) 1 := dk_42 (bA_sl (a := 0) (j := 16) bkX6_readLine_0 rfl)
theorem dX6_readLine_17 : DR cX6_readLine 17 (.ldc 77) 2 := dk_18 (bA_sl (a := 0) (j := 17) bkX6_readLine_0 rfl) (bA_sl (a := 0) (j := 18) bkX6_readLine_0 rfl) (by decide)
theorem dX6_readLine_19 : DR cX6_readLine 19 (.invokevirtual 79) 3 := dk_182 (bA_sl (a := 0) (j := 19) bkX6_readLine_0 rfl) (bA_sl (a := 0) (j := 20) bkX6_readLine_0 rfl) (bA_sl (a := 0) (j := 21) bkX6_readLine_0 rfl) (by decide) rfl
theorem dX6_readLine_22 : DR cX6_readLine 22 (.ifCond .eq 10) 3 := dk_153 (bA_sl (a := 0) (j := 22) bkX6_readLine_0 rfl) (bA_sl (a := 0) (j := 23) bkX6_readLine_0 rfl) (bA_sl (a := 0) (j := 24) bkX6_readLine_0 rfl) (by decide) (by decide)
theorem dX6_readLine_25 : DR cX6_readLine 25 (.aload_n 0) 1 := dk_42 (bA_sl (a := 0) (j := 25) bkX6_readLine_0 rfl)
theorem dX6_readLine_26 : DR cX6_readLine 26 (.invokevirtual 82) 3 := dk_182 (bA_sl (a := 0) (j := 26) bkX6_readLine_0 rfl) (bA_sl (a := 0) (j := 27) bkX6_readLine_0 rfl) (bA_sl (a := 0) (j := 28) bkX6_readLine_0 rfl) (by decide) rfl
theorem dX6_readLine_29 : DR cX6_readLine 29 (.goto 110) 3 := dk_167 (bA_sl (a := 0) (j := 29) bkX6_readLine_0 rfl) (bA_sl (a := 0) (j := 30) bkX6_readLine_0 rfl) (bA_sl (a := 0) (j := 31) bkX6_readLine_0 rfl) (by decide) (by decide)
theorem dX6_readLine_32 : DR cX6_readLine 32 (.aload_n 0) 1 := dk_42 (bA_sl (a := 0) (j := 32) bkX6_readLine_0 rfl)
theorem dX6_readLine_33 : DR cX6_readLine 33 (.ldc 85) 2 := dk_18 (bA_sl (a := 0) (j := 33) bkX6_readLine_0 rfl) (bA_sl (a := 0) (j := 34) bkX6_readLine_0 rfl) (by decide)
theorem dX6_readLine_35 : DR cX6_readLine 35 (.invokevirtual 79) 3 := dk_182 (bA_sl (a := 0) (j := 35) bkX6_readLine_0 rfl) (bA_sl (a := 0) (j := 36) bkX6_readLine_0 rfl) (bA_sl (a := 0) (j := 37) bkX6_readLine_0 rfl) (by decide) rfl
theorem dX6_readLine_38 : DR cX6_readLine 38 (.ifCond .eq 21) 3 := dk_153 (bA_sl (a := 0) (j := 38) bkX6_readLine_0 rfl) (bA_sl (a := 0) (j := 39) bkX6_readLine_0 rfl) (bA_sl (a := 0) (j := 40) bkX6_readLine_0 rfl) (by decide) (by decide)
theorem dX6_readLine_41 : DR cX6_readLine 41 (.aload_n 0) 1 := dk_42 (bA_sl (a := 0) (j := 41) bkX6_readLine_0 rfl)
theorem dX6_readLine_42 : DR cX6_readLine 42 (.getfield 12) 3 := dk_180 (bA_sl (a := 0) (j := 42) bkX6_readLine_0 rfl) (bA_sl (a := 0) (j := 43) bkX6_readLine_0 rfl) (bA_sl (a := 0) (j := 44) bkX6_readLine_0 rfl) (by decide) rfl
theorem dX6_readLine_45 : DR cX6_readLine 45 (.aload_n 0) 1 := dk_42 (bA_sl (a := 0) (j := 45) bkX6_readLine_0 rfl)
theorem dX6_readLine_46 : DR cX6_readLine 46 (.iconst 0) 1 := dk_3 (bA_sl (a := 0) (j := 46) bkX6_readLine_0 rfl)
theorem dX6_readLine_47 : DR cX6_readLine 47 (.sipush 999) 3 := dk_17 (bA_sl (a := 0) (j := 47) bkX6_readLine_0 rfl) (bA_sl (a := 0) (j := 48) bkX6_readLine_0 rfl) (bA_sl (a := 0) (j := 49) bkX6_readLine_0 rfl) (by decide) (by decide)
theorem dX6_readLine_50 : DR cX6_readLine 50 (.invokevirtual 87) 3 := dk_182 (bA_sl (a := 0) (j := 50) bkX6_readLine_0 rfl) (bA_sl (a := 0) (j := 51) bkX6_readLine_0 rfl) (bA_sl (a := 0) (j := 52) bkX6_readLine_0 rfl) (by decide) rfl
theorem dX6_readLine_53 : DR cX6_readLine 53 (.putfield 90) 3 := dk_181 (bA_sl (a := 0) (j := 53) bkX6_readLine_0 rfl) (bA_sl (a := 0) (j := 54) bkX6_readLine_0 rfl) (bA_sl (a := 0) (j := 55) bkX6_readLine_0 rfl) (by decide) rfl
theorem dX6_readLine_56 : DR cX6_readLine 56 (.goto 83) 3 := dk_167 (bA_sl (a := 0) (j := 56) bkX6_readLine_0 rfl) (bA_sl (a := 0) (j := 57) bkX6_readLine_0 rfl) (bA_sl (a := 0) (j := 58) bkX6_readLine_0 rfl) (by decide) (by decide)
theorem dX6_readLine_59 : DR cX6_readLine 59 (.aload_n 0) 1 := dk_42 (bA_sl (a := 0) (j := 59) bkX6_readLine_0 rfl)
theorem dX6_readLine_60 : DR cX6_readLine 60 (.ldc 92) 2 := dk_18 (bA_sl (a := 0) (j := 60) bkX6_readLine_0 rfl) (bA_sl (a := 0) (j := 61) bkX6_readLine_0 rfl) (by decide)
theorem bkX6_readLine_1 : ((cX6_readLine.data.toList.drop 64).take 64).map UInt8.toNat = [79, 153, 0, 10, 42, 182, 0, 94, 167, 0, 67, 42, 18, 97, 182, 0, 79, 153, 0, 20, 42, 180, 0, 12, 42, 3, 16, 100, 182, 0, 87, 181, 0, 99, 167, 0, 41, 42, 18, 101, 182, 0, 79, 153, 0, 27, 42, 180, 0, 12, 42, 3, 42, 180, 0, 12, 180, 0, 103, 4, 100, 182, 0, 87] := by decide +kernel
theorem dX6_readLine_62 : DR cX6_readLine 62 (.invokevirtual 79) 3 := dk_182 (bA_sl (a := 0) (j := 62) bkX6_readLine_0 rfl) (bA_sl (a := 0) (j := 63) bkX6_readLine_0 rfl) (bA_sl (a := 64) (j := 0) bkX6_readLine_1 rfl) (by decide) rfl
theorem dX6_readLine_65 : DR cX6_readLine 65 (.ifCond .eq 10) 3 := dk_153 (bA_sl (a := 64) (j := 1) bkX6_readLine_1 rfl) (bA_sl (a := 64) (j := 2) bkX6_readLine_1 rfl) (bA_sl (a := 64) (j := 3) bkX6_readLine_1 rfl) (by decide) (by decide)
theorem dX6_readLine_68 : DR cX6_readLine 68 (.aload_n 0) 1 := dk_42 (bA_sl (a := 64) (j := 4) bkX6_readLine_1 rfl)
theorem dX6_readLine_69 : DR cX6_readLine 69 (.invokevirtual 94) 3 := dk_182 (bA_sl (a := 64) (j := 5) bkX6_readLine_1 rfl) (bA_sl (a := 64) (j := 6) bkX6_readLine_1 rfl) (bA_sl (a := 64) (j := 7) bkX6_readLine_1 rfl) (by decide) rfl
theorem dX6_readLine_72 : DR cX6_readLine 72 (.goto 67) 3 := dk_167 (bA_sl (a := 64) (j := 8) bkX6_readLine_1 rfl) (bA_sl (a := 64) (j := 9) bkX6_readLine_1 rfl) (bA_sl (a := 64) (j := 10) bkX6_readLine_1 rfl) (by decide) (by decide)
theorem dX6_readLine_75 : DR cX6_readLine 75 (.aload_n 0) 1 := dk_42 (bA_sl (a := 64) (j := 11) bkX6_readLine_1 rfl)
theorem dX6_readLine_76 : DR cX6_readLine 76 (.ldc 97) 2 := dk_18 (bA_sl (a := 64) (j := 12) bkX6_readLine_1 rfl) (bA_sl (a := 64) (j := 13) bkX6_readLine_1 rfl) (by decide)
theorem dX6_readLine_78 : DR cX6_readLine 78 (.invokevirtual 79) 3 := dk_182 (bA_sl (a := 64) (j := 14) bkX6_readLine_1 rfl) (bA_sl (a := 64) (j := 15) bkX6_readLine_1 rfl) (bA_sl (a := 64) (j := 16) bkX6_readLine_1 rfl) (by decide) rfl
theorem dX6_readLine_81 : DR cX6_readLine 81 (.ifCond .eq 20) 3 := dk_153 (bA_sl (a := 64) (j := 17) bkX6_readLine_1 rfl) (bA_sl (a := 64) (j := 18) bkX6_readLine_1 rfl) (bA_sl (a := 64) (j := 19) bkX6_readLine_1 rfl) (by decide) (by decide)
theorem dX6_readLine_84 : DR cX6_readLine 84 (.aload_n 0) 1 := dk_42 (bA_sl (a := 64) (j := 20) bkX6_readLine_1 rfl)
theorem dX6_readLine_85 : DR cX6_readLine 85 (.getfield 12) 3 := dk_180 (bA_sl (a := 64) (j := 21) bkX6_readLine_1 rfl) (bA_sl (a := 64) (j := 22) bkX6_readLine_1 rfl) (bA_sl (a := 64) (j := 23) bkX6_readLine_1 rfl) (by decide) rfl
theorem dX6_readLine_88 : DR cX6_readLine 88 (.aload_n 0) 1 := dk_42 (bA_sl (a := 64) (j := 24) bkX6_readLine_1 rfl)
theorem dX6_readLine_89 : DR cX6_readLine 89 (.iconst 0) 1 := dk_3 (bA_sl (a := 64) (j := 25) bkX6_readLine_1 rfl)
theorem dX6_readLine_90 : DR cX6_readLine 90 (.bipush 100) 2 := dk_16 (bA_sl (a := 64) (j := 26) bkX6_readLine_1 rfl) (bA_sl (a := 64) (j := 27) bkX6_readLine_1 rfl) (by decide) (by decide)
theorem dX6_readLine_92 : DR cX6_readLine 92 (.invokevirtual 87) 3 := dk_182 (bA_sl (a := 64) (j := 28) bkX6_readLine_1 rfl) (bA_sl (a := 64) (j := 29) bkX6_readLine_1 rfl) (bA_sl (a := 64) (j := 30) bkX6_readLine_1 rfl) (by decide) rfl
theorem dX6_readLine_95 : DR cX6_readLine 95 (.putfield 99) 3 := dk_181 (bA_sl (a := 64) (j := 31) bkX6_readLine_1 rfl) (bA_sl (a := 64) (j := 32) bkX6_readLine_1 rfl) (bA_sl (a := 64) (j := 33) bkX6_readLine_1 rfl) (by decide) rfl
theorem dX6_readLine_98 : DR cX6_readLine 98 (.goto 41) 3 := dk_167 (bA_sl (a := 64) (j := 34) bkX6_readLine_1 rfl) (bA_sl (a := 64) (j := 35) bkX6_readLine_1 rfl) (bA_sl (a := 64) (j := 36) bkX6_readLine_1 rfl) (by decide) (by decide)
theorem dX6_readLine_101 : DR cX6_readLine 101 (.aload_n 0) 1 := dk_42 (bA_sl (a := 64) (j := 37) bkX6_readLine_1 rfl)
theorem dX6_readLine_102 : DR cX6_readLine 102 (.ldc 101) 2 := dk_18 (bA_sl (a := 64) (j := 38) bkX6_readLine_1 rfl) (bA_sl (a := 64) (j := 39) bkX6_readLine_1 rfl) (by decide)
theorem dX6_readLine_104 : DR cX6_readLine 104 (.invokevirtual 79) 3 := dk_182 (bA_sl (a := 64) (j := 40) bkX6_readLine_1 rfl) (bA_sl (a := 64) (j := 41) bkX6_readLine_1 rfl) (bA_sl (a := 64) (j := 42) bkX6_readLine_1 rfl) (by decide) rfl
theorem dX6_readLine_107 : DR cX6_readLine 107 (.ifCond .eq 27) 3 := dk_153 (bA_sl (a := 64) (j := 43) bkX6_readLine_1 rfl) (bA_sl (a := 64) (j := 44) bkX6_readLine_1 rfl) (bA_sl (a := 64) (j := 45) bkX6_readLine_1 rfl) (by decide) (by decide)
theorem dX6_readLine_110 : DR cX6_readLine 110 (.aload_n 0) 1 := dk_42 (bA_sl (a := 64) (j := 46) bkX6_readLine_1 rfl)
theorem dX6_readLine_111 : DR cX6_readLine 111 (.getfield 12) 3 := dk_180 (bA_sl (a := 64) (j := 47) bkX6_readLine_1 rfl) (bA_sl (a := 64) (j := 48) bkX6_readLine_1 rfl) (bA_sl (a := 64) (j := 49) bkX6_readLine_1 rfl) (by decide) rfl
theorem dX6_readLine_114 : DR cX6_readLine 114 (.aload_n 0) 1 := dk_42 (bA_sl (a := 64) (j := 50) bkX6_readLine_1 rfl)
theorem dX6_readLine_115 : DR cX6_readLine 115 (.iconst 0) 1 := dk_3 (bA_sl (a := 64) (j := 51) bkX6_readLine_1 rfl)
theorem dX6_readLine_116 : DR cX6_readLine 116 (.aload_n 0) 1 := dk_42 (bA_sl (a := 64) (j := 52) bkX6_readLine_1 rfl)
theorem dX6_readLine_117 : DR cX6_readLine 117 (.getfield 12) 3 := dk_180 (bA_sl (a := 64) (j := 53) bkX6_readLine_1 rfl) (bA_sl (a := 64) (j := 54) bkX6_readLine_1 rfl) (bA_sl (a := 64) (j := 55) bkX6_readLine_1 rfl) (by decide) rfl
theorem dX6_readLine_120 : DR cX6_readLine 120 (.getfield 103) 3 := dk_180 (bA_sl (a := 64) (j := 56) bkX6_readLine_1 rfl) (bA_sl (a := 64) (j := 57) bkX6_readLine_1 rfl) (bA_sl (a := 64) (j := 58) bkX6_readLine_1 rfl) (by decide) rfl
theorem dX6_readLine_123 : DR cX6_readLine 123 (.iconst 1) 1 := dk_4 (bA_sl (a := 64) (j := 59) bkX6_readLine_1 rfl)
theorem dX6_readLine_124 : DR cX6_readLine 124 (.isub) 1 := dk_100 (bA_sl (a := 64) (j := 60) bkX6_readLine_1 rfl)
theorem dX6_readLine_125 : DR cX6_readLine 125 (.invokevirtual 87) 3 := dk_182 (bA_sl (a := 64) (j := 61) bkX6_readLine_1 rfl) (bA_sl (a := 64) (j := 62) bkX6_readLine_1 rfl) (bA_sl (a := 64) (j := 63) bkX6_readLine_1 rfl) (by decide) rfl
theorem bkX6_readLine_2 : ((cX6_readLine.data.toList.drop 128).take 64).map UInt8.toNat = [181, 0, 106, 167, 0, 8, 42, 5, 182, 0, 109, 42, 182, 0, 113, 177] := by decide +kernel
theorem dX6_readLine_128 : DR cX6_readLine 128 (.putfield 106) 3 := dk_181 (bA_sl (a := 128) (j := 0) bkX6_readLine_2 rfl) (bA_sl (a := 128) (j := 1) bkX6_readLine_2 rfl) (bA_sl (a := 128) (j := 2) bkX6_readLine_2 rfl) (by decide) rfl
theorem dX6_readLine_131 : DR cX6_readLine 131 (.goto 8) 3 := dk_167 (bA_sl (a := 128) (j := 3) bkX6_readLine_2 rfl) (bA_sl (a := 128) (j := 4) bkX6_readLine_2 rfl) (bA_sl (a := 128) (j := 5) bkX6_readLine_2 rfl) (by decide) (by decide)
theorem dX6_readLine_134 : DR cX6_readLine 134 (.aload_n 0) 1 := dk_42 (bA_sl (a := 128) (j := 6) bkX6_readLine_2 rfl)
theorem dX6_readLine_135 : DR cX6_readLine 135 (.iconst 2) 1 := dk_5 (bA_sl (a := 128) (j := 7) bkX6_readLine_2 rfl)
theorem dX6_readLine_136 : DR cX6_readLine 136 (.invokevirtual 109) 3 := dk_182 (bA_sl (a := 128) (j := 8) bkX6_readLine_2 rfl) (bA_sl (a := 128) (j := 9) bkX6_readLine_2 rfl) (bA_sl (a := 128) (j := 10) bkX6_readLine_2 rfl) (by decide) rfl
theorem dX6_readLine_139 : DR cX6_readLine 139 (.aload_n 0) 1 := dk_42 (bA_sl (a := 128) (j := 11) bkX6_readLine_2 rfl)
theorem dX6_readLine_140 : DR cX6_readLine 140 (.invokevirtual 113) 3 := dk_182 (bA_sl (a := 128) (j := 12) bkX6_readLine_2 rfl) (bA_sl (a := 128) (j := 13) bkX6_readLine_2 rfl) (bA_sl (a := 128) (j := 14) bkX6_readLine_2 rfl) (by decide) rfl
theorem dX6_readLine_143 : DR cX6_readLine 143 (.return_) 1 := dk_177 (bA_sl (a := 128) (j := 15) bkX6_readLine_2 rfl)
theorem bkX6_readStrip_0 : ((cX6_readStrip.data.toList.drop 0).take 64).map UInt8.toNat = [42, 180, 0, 12, 180, 0, 103, 16, 16, 161, 0, 9, 42, 7, 182, 0, 109, 177, 42, 182, 0, 62, 42, 3, 16, 99, 182, 0, 87, 60, 42, 18, 116, 182, 0, 79, 153, 0, 13, 42, 3, 16, 9, 182, 0, 87, 167, 0, 4, 5, 61, 42, 18, 118, 182, 0, 79, 153, 0, 13, 42, 3, 16, 30] := by decide +kernel
theorem dX6_readStrip_0 : DR cX6_readStrip 0 (.aload_n 0) 1 := dk_42 (bA_sl (a := 0) (j := 0) bkX6_readStrip_0 rfl)
theorem dX6_readStrip_1 : DR cX6_readStrip 1 (.getfield 12) 3 := dk_180 (bA_sl (a := 0) (j := 1) bkX6_readStrip_0 rfl) (bA_sl (a := 0) (j := 2) bkX6_readStrip_0 rfl) (bA_sl (a := 0) (j := 3) bkX6_readStrip_0 rfl) (by decide) rfl
theorem dX6_readStrip_4 : DR cX6_readStrip 4 (.getfield 103) 3 := dk_180 (bA_sl (a := 0) (j := 4) bkX6_readStrip_0 rfl) (bA_sl (a := 0) (j := 5) bkX6_readStrip_0 rfl) (bA_sl (a := 0) (j := 6) bkX6_readStrip_0 rfl) (by decide) rfl
theorem dX6_readStrip_7 : DR cX6_readStrip 7 (.bipush 16) 2 := dk_16 (bA_sl (a := 0) (j := 7) bkX6_readStrip_0 rfl) (bA_sl (a := 0) (j := 8) bkX6_readStrip_0 rfl) (by decide) (by decide)
theorem dX6_readStrip_9 : DR cX6_readStrip 9 (.if_icmp .lt 9) 3 := dk_161 (bA_sl (a := 0) (j := 9) bkX6_readStrip_0 rfl) (bA_sl (a := 0) (j := 10) bkX6_readStrip_0 rfl) (bA_sl (a := 0) (j := 11) bkX6_readStrip_0 rfl) (by decide) (by decide)
theorem dX6_readStrip_12 : DR cX6_readStrip 12 (.aload_n 0) 1 := dk_42 (bA_sl (a := 0) (j := 12) bkX6_readStrip_0 rfl)
theorem dX6_readStrip_13 : DR cX6_readStrip 13 (.iconst 4) 1 := dk_7 (bA_sl (a := 0) (j := 13) bkX6_readStrip_0 rfl)
theorem dX6_readStrip_14 : DR cX6_readStrip 14 (.invokevirtual 109) 3 := dk_182 (bA_sl (a := 0) (j := 14) bkX6_readStrip_0 rfl) (bA_sl (a := 0) (j := 15) bkX6_readStrip_0 rfl) (bA_sl (a := 0) (j := 16) bkX6_readStrip_0 rfl) (by decide) rfl
theorem dX6_readStrip_17 : DR cX6_readStrip 17 (.return_) 1 := dk_177 (bA_sl (a := 0) (j := 17) bkX6_readStrip_0 rfl)
theorem dX6_readStrip_18 : DR cX6_readStrip 18 (.aload_n 0) 1 := dk_42 (bA_sl (a := 0) (j := 18) bkX6_readStrip_0 rfl)
theorem dX6_readStrip_19 : DR cX6_readStrip 19 (.invokevirtual 62) 3 := dk_182 (bA_sl (a := 0) (j := 19) bkX6_readStrip_0 rfl) (bA_sl (a := 0) (j := 20) bkX6_readStrip_0 rfl) (bA_sl (a := 0) (j := 21) bkX6_readStrip_0 rfl) (by decide) rfl
theorem dX6_readStrip_22 : DR cX6_readStrip 22 (.aload_n 0) 1 := dk_42 (bA_sl (a := 0) (j := 22) bkX6_readStrip_0 rfl)
theorem dX6_readStrip_23 : DR cX6_readStrip 23 (.iconst 0) 1 := dk_3 (bA_sl (a := 0) (j := 23) bkX6_readStrip_0 rfl)
theorem dX6_readStrip_24 : DR cX6_readStrip 24 (.bipush 99) 2 := dk_16 (bA_sl (a := 0) (j := 24) bkX6_readStrip_0 rfl) (bA_sl (a := 0) (j := 25) bkX6_readStrip_0 rfl) (by decide) (by decide)
theorem dX6_readStrip_26 : DR cX6_readStrip 26 (.invokevirtual 87) 3 := dk_182 (bA_sl (a := 0) (j := 26) bkX6_readStrip_0 rfl) (bA_sl (a := 0) (j := 27) bkX6_readStrip_0 rfl) (bA_sl (a := 0) (j := 28) bkX6_readStrip_0 rfl) (by decide) rfl
theorem dX6_readStrip_29 : DR cX6_readStrip 29 (.istore_n 1) 1 := dk_60 (bA_sl (a := 0) (j := 29) bkX6_readStrip_0 rfl)
theorem dX6_readStrip_30 : DR cX6_readStrip 30 (.aload_n 0) 1 := dk_42 (bA_sl (a := 0) (j := 30) bkX6_readStrip_0 rfl)
theorem dX6_readStrip_31 : DR cX6_readStrip 31 (.ldc 116) 2 := dk_18 (bA_sl (a := 0) (j := 31) bkX6_readStrip_0 rfl) (bA_sl (a := 0) (j := 32) bkX6_readStrip_0 rfl) (by decide)
theorem dX6_readStrip_33 : DR cX6_readStrip 33 (.invokevirtual 79) 3 := dk_182 (bA_sl (a := 0) (j := 33) bkX6_readStrip_0 rfl) (bA_sl (a := 0) (j := 34) bkX6_readStrip_0 rfl) (bA_sl (a := 0) (j := 35) bkX6_readStrip_0 rfl) (by decide) rfl
theorem dX6_readStrip_36 : DR cX6_readStrip 36 (.ifCond .eq 13) 3 := dk_153 (bA_sl (a := 0) (j := 36) bkX6_readStrip_0 rfl) (bA_sl (a := 0) (j := 37) bkX6_readStrip_0 rfl) (bA_sl (a := 0) (j := 38) bkX6_readStrip_0 rfl) (by decide) (by decide)
theorem dX6_readStrip_39 : DR cX6_readStrip 39 (.aload_n 0) 1 := dk_42 (bA_sl (a := 0) (j := 39) bkX6_readStrip_0 rfl)
theorem dX6_readStrip_40 : DR cX6_readStrip 40 (.iconst 0) 1 := dk_3 (bA_sl (a := 0) (j := 40) bkX6_readStrip_0 rfl)
theorem dX6_readStrip_41 : DR cX6_readStrip 41 (.bipush 9) 2 := dk_16 (bA_sl (a := 0) (j := 41) bkX6_readStrip_0 rfl) (bA_sl (a := 0) (j := 42) bkX6_readStrip_0 rfl) (by decide) (by decide)
theorem dX6_readStrip_43 : DR cX6_readStrip 43 (.invokevirtual 87) 3 := dk_182 (bA_sl (a := 0) (j := 43) bkX6_readStrip_0 rfl) (bA_sl (a := 0) (j := 44) bkX6_readStrip_0 rfl) (bA_sl (a := 0) (j := 45) bkX6_readStrip_0 rfl) (by decide) rfl
theorem dX6_readStrip_46 : DR cX6_readStrip 46 (.goto 4) 3 := dk_167 (bA_sl (a := 0) (j := 46) bkX6_readStrip_0 rfl) (bA_sl (a := 0) (j := 47) bkX6_readStrip_0 rfl) (bA_sl (a := 0) (j := 48) bkX6_readStrip_0 rfl) (by decide) (by decide)
theorem dX6_readStrip_49 : DR cX6_readStrip 49 (.iconst 2) 1 := dk_5 (bA_sl (a := 0) (j := 49) bkX6_readStrip_0 rfl)
theorem dX6_readStrip_50 : DR cX6_readStrip 50 (.istore_n 2) 1 := dk_61 (bA_sl (a := 0) (j := 50) bkX6_readStrip_0 rfl)
theorem dX6_readStrip_51 : DR cX6_readStrip 51 (.aload_n 0) 1 := dk_42 (bA_sl (a := 0) (j := 51) bkX6_readStrip_0 rfl)
theorem dX6_readStrip_52 : DR cX6_readStrip 52 (.ldc 118) 2 := dk_18 (bA_sl (a := 0) (j := 52) bkX6_readStrip_0 rfl) (bA_sl (a := 0) (j := 53) bkX6_readStrip_0 rfl) (by decide)
theorem dX6_readStrip_54 : DR cX6_readStrip 54 (.invokevirtual 79) 3 := dk_182 (bA_sl (a := 0) (j := 54) bkX6_readStrip_0 rfl) (bA_sl (a := 0) (j := 55) bkX6_readStrip_0 rfl) (bA_sl (a := 0) (j := 56) bkX6_readStrip_0 rfl) (by decide) rfl
theorem dX6_readStrip_57 : DR cX6_readStrip 57 (.ifCond .eq 13) 3 := dk_153 (bA_sl (a := 0) (j := 57) bkX6_readStrip_0 rfl) (bA_sl (a := 0) (j := 58) bkX6_readStrip_0 rfl) (bA_sl (a := 0) (j := 59) bkX6_readStrip_0 rfl) (by decide) (by decide)
theorem dX6_readStrip_60 : DR cX6_readStrip 60 (.aload_n 0) 1 := dk_42 (bA_sl (a := 0) (j := 60) bkX6_readStrip_0 rfl)
theorem dX6_readStrip_61 : DR cX6_readStrip 61 (.iconst 0) 1 := dk_3 (bA_sl (a := 0) (j := 61) bkX6_readStrip_0 rfl)
theorem dX6_readStrip_62 : DR cX6_readStrip 62 (.bipush 30) 2 := dk_16 (bA_sl (a := 0) (j := 62) bkX6_readStrip_0 rfl) (bA_sl (a := 0) (j := 63) bkX6_readStrip_0 rfl) (by decide) (by decide)
theorem bkX6_readStrip_1 : ((cX6_readStrip.data.toList.drop 64).take 64).map UInt8.toNat = [182, 0, 87, 167, 0, 4, 3, 62, 42, 18, 120, 182, 0, 79, 153, 0, 12, 42, 3, 8, 182, 0, 87, 167, 0, 4, 3, 54, 4, 42, 180, 0, 12, 27, 28, 29, 21, 4, 182, 0, 122, 177] := by decide +kernel
theorem dX6_readStrip_64 : DR cX6_readStrip 64 (.invokevirtual 87) 3 := dk_182 (bA_sl (a := 64) (j := 0) bkX6_readStrip_1 rfl) (bA_sl (a := 64) (j := 1) bkX6_readStrip_1 rfl) (bA_sl (a := 64) (j := 2) bkX6_readStrip_1 rfl) (by decide) rfl
theorem dX6_readStrip_67 : DR cX6_readStrip 67 (.goto 4) 3 := dk_167 (bA_sl (a := 64) (j := 3) bkX6_readStrip_1 rfl) (bA_sl (a := 64) (j := 4) bkX6_readStrip_1 rfl) (bA_sl (a := 64) (j := 5) bkX6_readStrip_1 rfl) (by decide) (by decide)
theorem dX6_readStrip_70 : DR cX6_readStrip 70 (.iconst 0) 1 := dk_3 (bA_sl (a := 64) (j := 6) bkX6_readStrip_1 rfl)
theorem dX6_readStrip_71 : DR cX6_readStrip 71 (.istore_n 3) 1 := dk_62 (bA_sl (a := 64) (j := 7) bkX6_readStrip_1 rfl)
theorem dX6_readStrip_72 : DR cX6_readStrip 72 (.aload_n 0) 1 := dk_42 (bA_sl (a := 64) (j := 8) bkX6_readStrip_1 rfl)
theorem dX6_readStrip_73 : DR cX6_readStrip 73 (.ldc 120) 2 := dk_18 (bA_sl (a := 64) (j := 9) bkX6_readStrip_1 rfl) (bA_sl (a := 64) (j := 10) bkX6_readStrip_1 rfl) (by decide)
theorem dX6_readStrip_75 : DR cX6_readStrip 75 (.invokevirtual 79) 3 := dk_182 (bA_sl (a := 64) (j := 11) bkX6_readStrip_1 rfl) (bA_sl (a := 64) (j := 12) bkX6_readStrip_1 rfl) (bA_sl (a := 64) (j := 13) bkX6_readStrip_1 rfl) (by decide) rfl
theorem dX6_readStrip_78 : DR cX6_readStrip 78 (.ifCond .eq 12) 3 := dk_153 (bA_sl (a := 64) (j := 14) bkX6_readStrip_1 rfl) (bA_sl (a := 64) (j := 15) bkX6_readStrip_1 rfl) (bA_sl (a := 64) (j := 16) bkX6_readStrip_1 rfl) (by decide) (by decide)
theorem dX6_readStrip_81 : DR cX6_readStrip 81 (.aload_n 0) 1 := dk_42 (bA_sl (a := 64) (j := 17) bkX6_readStrip_1 rfl)
theorem dX6_readStrip_82 : DR cX6_readStrip 82 (.iconst 0) 1 := dk_3 (bA_sl (a := 64) (j := 18) bkX6_readStrip_1 rfl)
theorem dX6_readStrip_83 : DR cX6_readStrip 83 (.iconst 5) 1 := dk_8 (bA_sl (a := 64) (j := 19) bkX6_readStrip_1 rfl)
theorem dX6_readStrip_84 : DR cX6_readStrip 84 (.invokevirtual 87) 3 := dk_182 (bA_sl (a := 64) (j := 20) bkX6_readStrip_1 rfl) (bA_sl (a := 64) (j := 21) bkX6_readStrip_1 rfl) (bA_sl (a := 64) (j := 22) bkX6_readStrip_1 rfl) (by decide) rfl
theorem dX6_readStrip_87 : DR cX6_readStrip 87 (.goto 4) 3 := dk_167 (bA_sl (a := 64) (j := 23) bkX6_readStrip_1 rfl) (bA_sl (a := 64) (j := 24) bkX6_readStrip_1 rfl) (bA_sl (a := 64) (j := 25) bkX6_readStrip_1 rfl) (by decide) (by decide)
theorem dX6_readStrip_90 : DR cX6_readStrip 90 (.iconst 0) 1 := dk_3 (bA_sl (a := 64) (j := 26) bkX6_readStrip_1 rfl)
theorem dX6_readStrip_91 : DR cX6_readStrip 91 (.istore 4) 2 := dk_54 (bA_sl (a := 64) (j := 27) bkX6_readStrip_1 rfl) (bA_sl (a := 64) (j := 28) bkX6_readStrip_1 rfl) (by decide)
theorem dX6_readStrip_93 : DR cX6_readStrip 93 (.aload_n 0) 1 := dk_42 (bA_sl (a := 64) (j := 29) bkX6_readStrip_1 rfl)
theorem dX6_readStrip_94 : DR cX6_readStrip 94 (.getfield 12) 3 := dk_180 (bA_sl (a := 64) (j := 30) bkX6_readStrip_1 rfl) (bA_sl (a := 64) (j := 31) bkX6_readStrip_1 rfl) (bA_sl (a := 64) (j := 32) bkX6_readStrip_1 rfl) (by decide) rfl
theorem dX6_readStrip_97 : DR cX6_readStrip 97 (.iload_n 1) 1 := dk_27 (bA_sl (a := 64) (j := 33) bkX6_readStrip_1 rfl)
theorem dX6_readStrip_98 : DR cX6_readStrip 98 (.iload_n 2) 1 := dk_28 (bA_sl (a := 64) (j := 34) bkX6_readStrip_1 rfl)
theorem dX6_readStrip_99 : DR cX6_readStrip 99 (.iload_n 3) 1 := dk_29 (bA_sl (a := 64) (j := 35) bkX6_readStrip_1 rfl)
theorem dX6_readStrip_100 : DR cX6_readStrip 100 (.iload 4) 2 := dk_21 (bA_sl (a := 64) (j := 36) bkX6_readStrip_1 rfl) (bA_sl (a := 64) (j := 37) bkX6_readStrip_1 rfl) (by decide)
theorem dX6_readStrip_102 : DR cX6_readStrip 102 (.invokevirtual 122) 3 := dk_182 (bA_sl (a := 64) (j := 38) bkX6_readStrip_1 rfl) (bA_sl (a := 64) (j := 39) bkX6_readStrip_1 rfl) (bA_sl (a := 64) (j := 40) bkX6_readStrip_1 rfl) (by decide) rfl
theorem dX6_readStrip_105 : DR cX6_readStrip 105 (.return_) 1 := dk_177 (bA_sl (a := 64) (j := 41) bkX6_readStrip_1 rfl)
theorem bkX6_readLamp_0 : ((cX6_readLamp.data.toList.drop 0).take 64).map UInt8.toNat = [42, 180, 0, 12, 42, 18, 126, 182, 0, 79, 153, 0, 20, 42, 3, 42, 180, 0, 12, 180, 0, 103, 4, 100, 182, 0, 87, 167, 0, 4, 3, 181, 0, 128, 42, 180, 0, 12, 42, 18, 130, 182, 0, 79, 153, 0, 13, 42, 4, 16, 30, 182, 0, 87, 167, 0, 5, 16, 6, 181, 0, 132, 42, 180] := by decide +kernel
theorem dX6_readLamp_0 : DR cX6_readLamp 0 (.aload_n 0) 1 := dk_42 (bA_sl (a := 0) (j := 0) bkX6_readLamp_0 rfl)
theorem dX6_readLamp_1 : DR cX6_readLamp 1 (.getfield 12) 3 := dk_180 (bA_sl (a := 0) (j := 1) bkX6_readLamp_0 rfl) (bA_sl (a := 0) (j := 2) bkX6_readLamp_0 rfl) (bA_sl (a := 0) (j := 3) bkX6_readLamp_0 rfl) (by decide) rfl
theorem dX6_readLamp_4 : DR cX6_readLamp 4 (.aload_n 0) 1 := dk_42 (bA_sl (a := 0) (j := 4) bkX6_readLamp_0 rfl)
theorem dX6_readLamp_5 : DR cX6_readLamp 5 (.ldc 126) 2 := dk_18 (bA_sl (a := 0) (j := 5) bkX6_readLamp_0 rfl) (bA_sl (a := 0) (j := 6) bkX6_readLamp_0 rfl) (by decide)
theorem dX6_readLamp_7 : DR cX6_readLamp 7 (.invokevirtual 79) 3 := dk_182 (bA_sl (a := 0) (j := 7) bkX6_readLamp_0 rfl) (bA_sl (a := 0) (j := 8) bkX6_readLamp_0 rfl) (bA_sl (a := 0) (j := 9) bkX6_readLamp_0 rfl) (by decide) rfl
theorem dX6_readLamp_10 : DR cX6_readLamp 10 (.ifCond .eq 20) 3 := dk_153 (bA_sl (a := 0) (j := 10) bkX6_readLamp_0 rfl) (bA_sl (a := 0) (j := 11) bkX6_readLamp_0 rfl) (bA_sl (a := 0) (j := 12) bkX6_readLamp_0 rfl) (by decide) (by decide)
theorem dX6_readLamp_13 : DR cX6_readLamp 13 (.aload_n 0) 1 := dk_42 (bA_sl (a := 0) (j := 13) bkX6_readLamp_0 rfl)
theorem dX6_readLamp_14 : DR cX6_readLamp 14 (.iconst 0) 1 := dk_3 (bA_sl (a := 0) (j := 14) bkX6_readLamp_0 rfl)
theorem dX6_readLamp_15 : DR cX6_readLamp 15 (.aload_n 0) 1 := dk_42 (bA_sl (a := 0) (j := 15) bkX6_readLamp_0 rfl)
theorem dX6_readLamp_16 : DR cX6_readLamp 16 (.getfield 12) 3 := dk_180 (bA_sl (a := 0) (j := 16) bkX6_readLamp_0 rfl) (bA_sl (a := 0) (j := 17) bkX6_readLamp_0 rfl) (bA_sl (a := 0) (j := 18) bkX6_readLamp_0 rfl) (by decide) rfl
theorem dX6_readLamp_19 : DR cX6_readLamp 19 (.getfield 103) 3 := dk_180 (bA_sl (a := 0) (j := 19) bkX6_readLamp_0 rfl) (bA_sl (a := 0) (j := 20) bkX6_readLamp_0 rfl) (bA_sl (a := 0) (j := 21) bkX6_readLamp_0 rfl) (by decide) rfl
theorem dX6_readLamp_22 : DR cX6_readLamp 22 (.iconst 1) 1 := dk_4 (bA_sl (a := 0) (j := 22) bkX6_readLamp_0 rfl)
theorem dX6_readLamp_23 : DR cX6_readLamp 23 (.isub) 1 := dk_100 (bA_sl (a := 0) (j := 23) bkX6_readLamp_0 rfl)
theorem dX6_readLamp_24 : DR cX6_readLamp 24 (.invokevirtual 87) 3 := dk_182 (bA_sl (a := 0) (j := 24) bkX6_readLamp_0 rfl) (bA_sl (a := 0) (j := 25) bkX6_readLamp_0 rfl) (bA_sl (a := 0) (j := 26) bkX6_readLamp_0 rfl) (by decide) rfl
theorem dX6_readLamp_27 : DR cX6_readLamp 27 (.goto 4) 3 := dk_167 (bA_sl (a := 0) (j := 27) bkX6_readLamp_0 rfl) (bA_sl (a := 0) (j := 28) bkX6_readLamp_0 rfl) (bA_sl (a := 0) (j := 29) bkX6_readLamp_0 rfl) (by decide) (by decide)
theorem dX6_readLamp_30 : DR cX6_readLamp 30 (.iconst 0) 1 := dk_3 (bA_sl (a := 0) (j := 30) bkX6_readLamp_0 rfl)
theorem dX6_readLamp_31 : DR cX6_readLamp 31 (.putfield 128) 3 := dk_181 (bA_sl (a := 0) (j := 31) bkX6_readLamp_0 rfl) (bA_sl (a := 0) (j := 32) bkX6_readLamp_0 rfl) (bA_sl (a := 0) (j := 33) bkX6_readLamp_0 rfl) (by decide) rfl
theorem dX6_readLamp_34 : DR cX6_readLamp 34 (.aload_n 0) 1 := dk_42 (bA_sl (a := 0) (j := 34) bkX6_readLamp_0 rfl)
theorem dX6_readLamp_35 : DR cX6_readLamp 35 (.getfield 12) 3 := dk_180 (bA_sl (a := 0) (j := 35) bkX6_readLamp_0 rfl) (bA_sl (a := 0) (j := 36) bkX6_readLamp_0 rfl) (bA_sl (a := 0) (j := 37) bkX6_readLamp_0 rfl) (by decide) rfl
theorem dX6_readLamp_38 : DR cX6_readLamp 38 (.aload_n 0) 1 := dk_42 (bA_sl (a := 0) (j := 38) bkX6_readLamp_0 rfl)
theorem dX6_readLamp_39 : DR cX6_readLamp 39 (.ldc 130) 2 := dk_18 (bA_sl (a := 0) (j := 39) bkX6_readLamp_0 rfl) (bA_sl (a := 0) (j := 40) bkX6_readLamp_0 rfl) (by decide)
theorem dX6_readLamp_41 : DR cX6_readLamp 41 (.invokevirtual 79) 3 := dk_182 (bA_sl (a := 0) (j := 41) bkX6_readLamp_0 rfl) (bA_sl (a := 0) (j := 42) bkX6_readLamp_0 rfl) (bA_sl (a := 0) (j := 43) bkX6_readLamp_0 rfl) (by decide) rfl
theorem dX6_readLamp_44 : DR cX6_readLamp 44 (.ifCond .eq 13) 3 := dk_153 (bA_sl (a := 0) (j := 44) bkX6_readLamp_0 rfl) (bA_sl (a := 0) (j := 45) bkX6_readLamp_0 rfl) (bA_sl (a := 0) (j := 46) bkX6_readLamp_0 rfl) (by decide) (by decide)
theorem dX6_readLamp_47 : DR cX6_readLamp 47 (.aload_n 0) 1 := dk_42 (bA_sl (a := 0) (j := 47) bkX6_readLamp_0 rfl)
theorem dX6_readLamp_48 : DR cX6_readLamp 48 (.iconst 1) 1 := dk_4 (bA_sl (a := 0) (j := 48) bkX6_readLamp_0 rfl)
theorem dX6_readLamp_49 : DR cX6_readLamp 49 (.bipush 30) 2 := dk_16 (bA_sl (a := 0) (j := 49) bkX6_readLamp_0 rfl) (bA_sl (a := 0) (j := 50) bkX6_readLamp_0 rfl) (by decide) (by decide)
theorem dX6_readLamp_51 : DR cX6_readLamp 51 (.invokevirtual 87) 3 := dk_182 (bA_sl (a := 0) (j := 51) bkX6_readLamp_0 rfl) (bA_sl (a := 0) (j := 52) bkX6_readLamp_0 rfl) (bA_sl (a := 0) (j := 53) bkX6_readLamp_0 rfl) (by decide) rfl
theorem dX6_readLamp_54 : DR cX6_readLamp 54 (.goto 5) 3 := dk_167 (bA_sl (a := 0) (j := 54) bkX6_readLamp_0 rfl) (bA_sl (a := 0) (j := 55) bkX6_readLamp_0 rfl) (bA_sl (a := 0) (j := 56) bkX6_readLamp_0 rfl) (by decide) (by decide)
theorem dX6_readLamp_57 : DR cX6_readLamp 57 (.bipush 6) 2 := dk_16 (bA_sl (a := 0) (j := 57) bkX6_readLamp_0 rfl) (bA_sl (a := 0) (j := 58) bkX6_readLamp_0 rfl) (by decide) (by decide)
theorem dX6_readLamp_59 : DR cX6_readLamp 59 (.putfield 132) 3 := dk_181 (bA_sl (a := 0) (j := 59) bkX6_readLamp_0 rfl) (bA_sl (a := 0) (j := 60) bkX6_readLamp_0 rfl) (bA_sl (a := 0) (j := 61) bkX6_readLamp_0 rfl) (by decide) rfl
theorem dX6_readLamp_62 : DR cX6_readLamp 62 (.aload_n 0) 1 := dk_42 (bA_sl (a := 0) (j := 62) bkX6_readLamp_0 rfl)
theorem bkX6_readLamp_1 : ((cX6_readLamp.data.toList.drop 64).take 64).map UInt8.toNat = [0, 12, 42, 18, 135, 182, 0, 79, 153, 0, 13, 42, 3, 16, 20, 182, 0, 87, 167, 0, 5, 16, 6, 181, 0, 137, 42, 180, 0, 12, 42, 18, 139, 182, 0, 79, 153, 0, 13, 42, 3, 16, 9, 182, 0, 87, 167, 0, 4, 4, 181, 0, 141, 177] := by decide +kernel
theorem dX6_readLamp_63 : DR cX6_readLamp 63 (.getfield 12) 3 := dk_180 (bA_sl (a := 0) (j := 63) bkX6_readLamp_0 rfl) (bA_sl (a := 64) (j := 0) bkX6_readLamp_1 rfl) (bA_sl (a := 64) (j := 1) bkX6_readLamp_1 rfl) (by decide) rfl
theorem dX6_readLamp_66 : DR cX6_readLamp 66 (.aload_n 0) 1 := dk_42 (bA_sl (a := 64) (j := 2) bkX6_readLamp_1 rfl)
theorem dX6_readLamp_67 : DR cX6_readLamp 67 (.ldc 135) 2 := dk_18 (bA_sl (a := 64) (j := 3) bkX6_readLamp_1 rfl) (bA_sl (a := 64) (j := 4) bkX6_readLamp_1 rfl) (by decide)
theorem dX6_readLamp_69 : DR cX6_readLamp 69 (.invokevirtual 79) 3 := dk_182 (bA_sl (a := 64) (j := 5) bkX6_readLamp_1 rfl) (bA_sl (a := 64) (j := 6) bkX6_readLamp_1 rfl) (bA_sl (a := 64) (j := 7) bkX6_readLamp_1 rfl) (by decide) rfl
theorem dX6_readLamp_72 : DR cX6_readLamp 72 (.ifCond .eq 13) 3 := dk_153 (bA_sl (a := 64) (j := 8) bkX6_readLamp_1 rfl) (bA_sl (a := 64) (j := 9) bkX6_readLamp_1 rfl) (bA_sl (a := 64) (j := 10) bkX6_readLamp_1 rfl) (by decide) (by decide)
theorem dX6_readLamp_75 : DR cX6_readLamp 75 (.aload_n 0) 1 := dk_42 (bA_sl (a := 64) (j := 11) bkX6_readLamp_1 rfl)
theorem dX6_readLamp_76 : DR cX6_readLamp 76 (.iconst 0) 1 := dk_3 (bA_sl (a := 64) (j := 12) bkX6_readLamp_1 rfl)
theorem dX6_readLamp_77 : DR cX6_readLamp 77 (.bipush 20) 2 := dk_16 (bA_sl (a := 64) (j := 13) bkX6_readLamp_1 rfl) (bA_sl (a := 64) (j := 14) bkX6_readLamp_1 rfl) (by decide) (by decide)
theorem dX6_readLamp_79 : DR cX6_readLamp 79 (.invokevirtual 87) 3 := dk_182 (bA_sl (a := 64) (j := 15) bkX6_readLamp_1 rfl) (bA_sl (a := 64) (j := 16) bkX6_readLamp_1 rfl) (bA_sl (a := 64) (j := 17) bkX6_readLamp_1 rfl) (by decide) rfl
theorem dX6_readLamp_82 : DR cX6_readLamp 82 (.goto 5) 3 := dk_167 (bA_sl (a := 64) (j := 18) bkX6_readLamp_1 rfl) (bA_sl (a := 64) (j := 19) bkX6_readLamp_1 rfl) (bA_sl (a := 64) (j := 20) bkX6_readLamp_1 rfl) (by decide) (by decide)
theorem dX6_readLamp_85 : DR cX6_readLamp 85 (.bipush 6) 2 := dk_16 (bA_sl (a := 64) (j := 21) bkX6_readLamp_1 rfl) (bA_sl (a := 64) (j := 22) bkX6_readLamp_1 rfl) (by decide) (by decide)
theorem dX6_readLamp_87 : DR cX6_readLamp 87 (.putfield 137) 3 := dk_181 (bA_sl (a := 64) (j := 23) bkX6_readLamp_1 rfl) (bA_sl (a := 64) (j := 24) bkX6_readLamp_1 rfl) (bA_sl (a := 64) (j := 25) bkX6_readLamp_1 rfl) (by decide) rfl
theorem dX6_readLamp_90 : DR cX6_readLamp 90 (.aload_n 0) 1 := dk_42 (bA_sl (a := 64) (j := 26) bkX6_readLamp_1 rfl)
theorem dX6_readLamp_91 : DR cX6_readLamp 91 (.getfield 12) 3 := dk_180 (bA_sl (a := 64) (j := 27) bkX6_readLamp_1 rfl) (bA_sl (a := 64) (j := 28) bkX6_readLamp_1 rfl) (bA_sl (a := 64) (j := 29) bkX6_readLamp_1 rfl) (by decide) rfl
theorem dX6_readLamp_94 : DR cX6_readLamp 94 (.aload_n 0) 1 := dk_42 (bA_sl (a := 64) (j := 30) bkX6_readLamp_1 rfl)
theorem dX6_readLamp_95 : DR cX6_readLamp 95 (.ldc 139) 2 := dk_18 (bA_sl (a := 64) (j := 31) bkX6_readLamp_1 rfl) (bA_sl (a := 64) (j := 32) bkX6_readLamp_1 rfl) (by decide)
theorem dX6_readLamp_97 : DR cX6_readLamp 97 (.invokevirtual 79) 3 := dk_182 (bA_sl (a := 64) (j := 33) bkX6_readLamp_1 rfl) (bA_sl (a := 64) (j := 34) bkX6_readLamp_1 rfl) (bA_sl (a := 64) (j := 35) bkX6_readLamp_1 rfl) (by decide) rfl
theorem dX6_readLamp_100 : DR cX6_readLamp 100 (.ifCond .eq 13) 3 := dk_153 (bA_sl (a := 64) (j := 36) bkX6_readLamp_1 rfl) (bA_sl (a := 64) (j := 37) bkX6_readLamp_1 rfl) (bA_sl (a := 64) (j := 38) bkX6_readLamp_1 rfl) (by decide) (by decide)
theorem dX6_readLamp_103 : DR cX6_readLamp 103 (.aload_n 0) 1 := dk_42 (bA_sl (a := 64) (j := 39) bkX6_readLamp_1 rfl)
theorem dX6_readLamp_104 : DR cX6_readLamp 104 (.iconst 0) 1 := dk_3 (bA_sl (a := 64) (j := 40) bkX6_readLamp_1 rfl)
theorem dX6_readLamp_105 : DR cX6_readLamp 105 (.bipush 9) 2 := dk_16 (bA_sl (a := 64) (j := 41) bkX6_readLamp_1 rfl) (bA_sl (a := 64) (j := 42) bkX6_readLamp_1 rfl) (by decide) (by decide)
theorem dX6_readLamp_107 : DR cX6_readLamp 107 (.invokevirtual 87) 3 := dk_182 (bA_sl (a := 64) (j := 43) bkX6_readLamp_1 rfl) (bA_sl (a := 64) (j := 44) bkX6_readLamp_1 rfl) (bA_sl (a := 64) (j := 45) bkX6_readLamp_1 rfl) (by decide) rfl
theorem dX6_readLamp_110 : DR cX6_readLamp 110 (.goto 4) 3 := dk_167 (bA_sl (a := 64) (j := 46) bkX6_readLamp_1 rfl) (bA_sl (a := 64) (j := 47) bkX6_readLamp_1 rfl) (bA_sl (a := 64) (j := 48) bkX6_readLamp_1 rfl) (by decide) (by decide)
theorem dX6_readLamp_113 : DR cX6_readLamp 113 (.iconst 1) 1 := dk_4 (bA_sl (a := 64) (j := 49) bkX6_readLamp_1 rfl)
theorem dX6_readLamp_114 : DR cX6_readLamp 114 (.putfield 141) 3 := dk_181 (bA_sl (a := 64) (j := 50) bkX6_readLamp_1 rfl) (bA_sl (a := 64) (j := 51) bkX6_readLamp_1 rfl) (bA_sl (a := 64) (j := 52) bkX6_readLamp_1 rfl) (by decide) rfl
theorem dX6_readLamp_117 : DR cX6_readLamp 117 (.return_) 1 := dk_177 (bA_sl (a := 64) (j := 53) bkX6_readLamp_1 rfl)
theorem bkX6_readBid_0 : ((cX6_readBid.data.toList.drop 0).take 64).map UInt8.toNat = [42, 3, 8, 182, 0, 87, 60, 42, 3, 16, 99, 182, 0, 87, 61, 42, 180, 0, 18, 154, 0, 20, 27, 184, 0, 143, 153, 0, 13, 42, 180, 0, 12, 180, 0, 147, 27, 28, 79, 177] := by decide +kernel
theorem dX6_readBid_0 : DR cX6_readBid 0 (.aload_n 0) 1 := dk_42 (bA_sl (a := 0) (j := 0) bkX6_readBid_0 rfl)
theorem dX6_readBid_1 : DR cX6_readBid 1 (.iconst 0) 1 := dk_3 (bA_sl (a := 0) (j := 1) bkX6_readBid_0 rfl)
theorem dX6_readBid_2 : DR cX6_readBid 2 (.iconst 5) 1 := dk_8 (bA_sl (a := 0) (j := 2) bkX6_readBid_0 rfl)
theorem dX6_readBid_3 : DR cX6_readBid 3 (.invokevirtual 87) 3 := dk_182 (bA_sl (a := 0) (j := 3) bkX6_readBid_0 rfl) (bA_sl (a := 0) (j := 4) bkX6_readBid_0 rfl) (bA_sl (a := 0) (j := 5) bkX6_readBid_0 rfl) (by decide) rfl
theorem dX6_readBid_6 : DR cX6_readBid 6 (.istore_n 1) 1 := dk_60 (bA_sl (a := 0) (j := 6) bkX6_readBid_0 rfl)
theorem dX6_readBid_7 : DR cX6_readBid 7 (.aload_n 0) 1 := dk_42 (bA_sl (a := 0) (j := 7) bkX6_readBid_0 rfl)
theorem dX6_readBid_8 : DR cX6_readBid 8 (.iconst 0) 1 := dk_3 (bA_sl (a := 0) (j := 8) bkX6_readBid_0 rfl)
theorem dX6_readBid_9 : DR cX6_readBid 9 (.bipush 99) 2 := dk_16 (bA_sl (a := 0) (j := 9) bkX6_readBid_0 rfl) (bA_sl (a := 0) (j := 10) bkX6_readBid_0 rfl) (by decide) (by decide)
theorem dX6_readBid_11 : DR cX6_readBid 11 (.invokevirtual 87) 3 := dk_182 (bA_sl (a := 0) (j := 11) bkX6_readBid_0 rfl) (bA_sl (a := 0) (j := 12) bkX6_readBid_0 rfl) (bA_sl (a := 0) (j := 13) bkX6_readBid_0 rfl) (by decide) rfl
theorem dX6_readBid_14 : DR cX6_readBid 14 (.istore_n 2) 1 := dk_61 (bA_sl (a := 0) (j := 14) bkX6_readBid_0 rfl)
theorem dX6_readBid_15 : DR cX6_readBid 15 (.aload_n 0) 1 := dk_42 (bA_sl (a := 0) (j := 15) bkX6_readBid_0 rfl)
theorem dX6_readBid_16 : DR cX6_readBid 16 (.getfield 18) 3 := dk_180 (bA_sl (a := 0) (j := 16) bkX6_readBid_0 rfl) (bA_sl (a := 0) (j := 17) bkX6_readBid_0 rfl) (bA_sl (a := 0) (j := 18) bkX6_readBid_0 rfl) (by decide) rfl
theorem dX6_readBid_19 : DR cX6_readBid 19 (.ifCond .ne 20) 3 := dk_154 (bA_sl (a := 0) (j := 19) bkX6_readBid_0 rfl) (bA_sl (a := 0) (j := 20) bkX6_readBid_0 rfl) (bA_sl (a := 0) (j := 21) bkX6_readBid_0 rfl) (by decide) (by decide)
theorem dX6_readBid_22 : DR cX6_readBid 22 (.iload_n 1) 1 := dk_27 (bA_sl (a := 0) (j := 22) bkX6_readBid_0 rfl)
theorem dX6_readBid_23 : DR cX6_readBid 23 (.invokestatic 143) 3 := dk_184 (bA_sl (a := 0) (j := 23) bkX6_readBid_0 rfl) (bA_sl (a := 0) (j := 24) bkX6_readBid_0 rfl) (bA_sl (a := 0) (j := 25) bkX6_readBid_0 rfl) (by decide) rfl
theorem dX6_readBid_26 : DR cX6_readBid 26 (.ifCond .eq 13) 3 := dk_153 (bA_sl (a := 0) (j := 26) bkX6_readBid_0 rfl) (bA_sl (a := 0) (j := 27) bkX6_readBid_0 rfl) (bA_sl (a := 0) (j := 28) bkX6_readBid_0 rfl) (by decide) (by decide)
theorem dX6_readBid_29 : DR cX6_readBid 29 (.aload_n 0) 1 := dk_42 (bA_sl (a := 0) (j := 29) bkX6_readBid_0 rfl)
theorem dX6_readBid_30 : DR cX6_readBid 30 (.getfield 12) 3 := dk_180 (bA_sl (a := 0) (j := 30) bkX6_readBid_0 rfl) (bA_sl (a := 0) (j := 31) bkX6_readBid_0 rfl) (bA_sl (a := 0) (j := 32) bkX6_readBid_0 rfl) (by decide) rfl
theorem dX6_readBid_33 : DR cX6_readBid 33 (.getfield 147) 3 := dk_180 (bA_sl (a := 0) (j := 33) bkX6_readBid_0 rfl) (bA_sl (a := 0) (j := 34) bkX6_readBid_0 rfl) (bA_sl (a := 0) (j := 35) bkX6_readBid_0 rfl) (by decide) rfl
theorem dX6_readBid_36 : DR cX6_readBid 36 (.iload_n 1) 1 := dk_27 (bA_sl (a := 0) (j := 36) bkX6_readBid_0 rfl)
theorem dX6_readBid_37 : DR cX6_readBid 37 (.iload_n 2) 1 := dk_28 (bA_sl (a := 0) (j := 37) bkX6_readBid_0 rfl)
theorem dX6_readBid_38 : DR cX6_readBid 38 (.iastore) 1 := dk_79 (bA_sl (a := 0) (j := 38) bkX6_readBid_0 rfl)
theorem dX6_readBid_39 : DR cX6_readBid 39 (.return_) 1 := dk_177 (bA_sl (a := 0) (j := 39) bkX6_readBid_0 rfl)
theorem bkX6_endLine_0 : ((cX6_endLine.data.toList.drop 0).take 64).map UInt8.toNat = [42, 180, 0, 18, 154, 0, 31, 42, 180, 0, 38, 6, 160, 0, 23, 42, 180, 0, 12, 89, 180, 0, 151, 4, 96, 181, 0, 151, 42, 182, 0, 62, 167, 0, 8, 42, 5, 182, 0, 109, 177] := by decide +kernel
theorem dX6_endLine_0 : DR cX6_endLine 0 (.aload_n 0) 1 := dk_42 (bA_sl (a := 0) (j := 0) bkX6_endLine_0 rfl)
theorem dX6_endLine_1 : DR cX6_endLine 1 (.getfield 18) 3 := dk_180 (bA_sl (a := 0) (j := 1) bkX6_endLine_0 rfl) (bA_sl (a := 0) (j := 2) bkX6_endLine_0 rfl) (bA_sl (a := 0) (j := 3) bkX6_endLine_0 rfl) (by decide) rfl
theorem dX6_endLine_4 : DR cX6_endLine 4 (.ifCond .ne 31) 3 := dk_154 (bA_sl (a := 0) (j := 4) bkX6_endLine_0 rfl) (bA_sl (a := 0) (j := 5) bkX6_endLine_0 rfl) (bA_sl (a := 0) (j := 6) bkX6_endLine_0 rfl) (by decide) (by decide)
theorem dX6_endLine_7 : DR cX6_endLine 7 (.aload_n 0) 1 := dk_42 (bA_sl (a := 0) (j := 7) bkX6_endLine_0 rfl)
theorem dX6_endLine_8 : DR cX6_endLine 8 (.getfield 38) 3 := dk_180 (bA_sl (a := 0) (j := 8) bkX6_endLine_0 rfl) (bA_sl (a := 0) (j := 9) bkX6_endLine_0 rfl) (bA_sl (a := 0) (j := 10) bkX6_endLine_0 rfl) (by decide) rfl
theorem dX6_endLine_11 : DR cX6_endLine 11 (.iconst 3) 1 := dk_6 (bA_sl (a := 0) (j := 11) bkX6_endLine_0 rfl)
theorem dX6_endLine_12 : DR cX6_endLine 12 (.if_icmp .ne 23) 3 := dk_160 (bA_sl (a := 0) (j := 12) bkX6_endLine_0 rfl) (bA_sl (a := 0) (j := 13) bkX6_endLine_0 rfl) (bA_sl (a := 0) (j := 14) bkX6_endLine_0 rfl) (by decide) (by decide)
theorem dX6_endLine_15 : DR cX6_endLine 15 (.aload_n 0) 1 := dk_42 (bA_sl (a := 0) (j := 15) bkX6_endLine_0 rfl)
theorem dX6_endLine_16 : DR cX6_endLine 16 (.getfield 12) 3 := dk_180 (bA_sl (a := 0) (j := 16) bkX6_endLine_0 rfl) (bA_sl (a := 0) (j := 17) bkX6_endLine_0 rfl) (bA_sl (a := 0) (j := 18) bkX6_endLine_0 rfl) (by decide) rfl
theorem dX6_endLine_19 : DR cX6_endLine 19 (.dup) 1 := dk_89 (bA_sl (a := 0) (j := 19) bkX6_endLine_0 rfl)
theorem dX6_endLine_20 : DR cX6_endLine 20 (.getfield 151) 3 := dk_180 (bA_sl (a := 0) (j := 20) bkX6_endLine_0 rfl) (bA_sl (a := 0) (j := 21) bkX6_endLine_0 rfl) (bA_sl (a := 0) (j := 22) bkX6_endLine_0 rfl) (by decide) rfl
theorem dX6_endLine_23 : DR cX6_endLine 23 (.iconst 1) 1 := dk_4 (bA_sl (a := 0) (j := 23) bkX6_endLine_0 rfl)
theorem dX6_endLine_24 : DR cX6_endLine 24 (.iadd) 1 := dk_96 (bA_sl (a := 0) (j := 24) bkX6_endLine_0 rfl)
theorem dX6_endLine_25 : DR cX6_endLine 25 (.putfield 151) 3 := dk_181 (bA_sl (a := 0) (j := 25) bkX6_endLine_0 rfl) (bA_sl (a := 0) (j := 26) bkX6_endLine_0 rfl) (bA_sl (a := 0) (j := 27) bkX6_endLine_0 rfl) (by decide) rfl
theorem dX6_endLine_28 : DR cX6_endLine 28 (.aload_n 0) 1 := dk_42 (bA_sl (a := 0) (j := 28) bkX6_endLine_0 rfl)
theorem dX6_endLine_29 : DR cX6_endLine 29 (.invokevirtual 62) 3 := dk_182 (bA_sl (a := 0) (j := 29) bkX6_endLine_0 rfl) (bA_sl (a := 0) (j := 30) bkX6_endLine_0 rfl) (bA_sl (a := 0) (j := 31) bkX6_endLine_0 rfl) (by decide) rfl
theorem dX6_endLine_32 : DR cX6_endLine 32 (.goto 8) 3 := dk_167 (bA_sl (a := 0) (j := 32) bkX6_endLine_0 rfl) (bA_sl (a := 0) (j := 33) bkX6_endLine_0 rfl) (bA_sl (a := 0) (j := 34) bkX6_endLine_0 rfl) (by decide) (by decide)
theorem dX6_endLine_35 : DR cX6_endLine 35 (.aload_n 0) 1 := dk_42 (bA_sl (a := 0) (j := 35) bkX6_endLine_0 rfl)
theorem dX6_endLine_36 : DR cX6_endLine 36 (.iconst 2) 1 := dk_5 (bA_sl (a := 0) (j := 36) bkX6_endLine_0 rfl)
theorem dX6_endLine_37 : DR cX6_endLine 37 (.invokevirtual 109) 3 := dk_182 (bA_sl (a := 0) (j := 37) bkX6_endLine_0 rfl) (bA_sl (a := 0) (j := 38) bkX6_endLine_0 rfl) (bA_sl (a := 0) (j := 39) bkX6_endLine_0 rfl) (by decide) rfl
theorem dX6_endLine_40 : DR cX6_endLine 40 (.return_) 1 := dk_177 (bA_sl (a := 0) (j := 40) bkX6_endLine_0 rfl)
theorem bkX6_takeWord_0 : ((cX6_takeWord.data.toList.drop 0).take 64).map UInt8.toNat = [42, 180, 0, 18, 154, 0, 11, 42, 43, 182, 0, 70, 154, 0, 5, 3, 172, 42, 182, 0, 62, 4, 172] := by decide +kernel
theorem dX6_takeWord_0 : DR cX6_takeWord 0 (.aload_n 0) 1 := dk_42 (bA_sl (a := 0) (j := 0) bkX6_takeWord_0 rfl)
theorem dX6_takeWord_1 : DR cX6_takeWord 1 (.getfield 18) 3 := dk_180 (bA_sl (a := 0) (j := 1) bkX6_takeWord_0 rfl) (bA_sl (a := 0) (j := 2) bkX6_takeWord_0 rfl) (bA_sl (a := 0) (j := 3) bkX6_takeWord_0 rfl) (by decide) rfl
theorem dX6_takeWord_4 : DR cX6_takeWord 4 (.ifCond .ne 11) 3 := dk_154 (bA_sl (a := 0) (j := 4) bkX6_takeWord_0 rfl) (bA_sl (a := 0) (j := 5) bkX6_takeWord_0 rfl) (bA_sl (a := 0) (j := 6) bkX6_takeWord_0 rfl) (by decide) (by decide)
theorem dX6_takeWord_7 : DR cX6_takeWord 7 (.aload_n 0) 1 := dk_42 (bA_sl (a := 0) (j := 7) bkX6_takeWord_0 rfl)
theorem dX6_takeWord_8 : DR cX6_takeWord 8 (.aload_n 1) 1 := dk_43 (bA_sl (a := 0) (j := 8) bkX6_takeWord_0 rfl)
theorem dX6_takeWord_9 : DR cX6_takeWord 9 (.invokevirtual 70) 3 := dk_182 (bA_sl (a := 0) (j := 9) bkX6_takeWord_0 rfl) (bA_sl (a := 0) (j := 10) bkX6_takeWord_0 rfl) (bA_sl (a := 0) (j := 11) bkX6_takeWord_0 rfl) (by decide) rfl
theorem dX6_takeWord_12 : DR cX6_takeWord 12 (.ifCond .ne 5) 3 := dk_154 (bA_sl (a := 0) (j := 12) bkX6_takeWord_0 rfl) (bA_sl (a := 0) (j := 13) bkX6_takeWord_0 rfl) (bA_sl (a := 0) (j := 14) bkX6_takeWord_0 rfl) (by decide) (by decide)
theorem dX6_takeWord_15 : DR cX6_takeWord 15 (.iconst 0) 1 := dk_3 (bA_sl (a := 0) (j := 15) bkX6_takeWord_0 rfl)
theorem dX6_takeWord_16 : DR cX6_takeWord 16 (.ireturn) 1 := dk_172 (bA_sl (a := 0) (j := 16) bkX6_takeWord_0 rfl)
theorem dX6_takeWord_17 : DR cX6_takeWord 17 (.aload_n 0) 1 := dk_42 (bA_sl (a := 0) (j := 17) bkX6_takeWord_0 rfl)
theorem dX6_takeWord_18 : DR cX6_takeWord 18 (.invokevirtual 62) 3 := dk_182 (bA_sl (a := 0) (j := 18) bkX6_takeWord_0 rfl) (bA_sl (a := 0) (j := 19) bkX6_takeWord_0 rfl) (bA_sl (a := 0) (j := 20) bkX6_takeWord_0 rfl) (by decide) rfl
theorem dX6_takeWord_21 : DR cX6_takeWord 21 (.iconst 1) 1 := dk_4 (bA_sl (a := 0) (j := 21) bkX6_takeWord_0 rfl)
theorem dX6_takeWord_22 : DR cX6_takeWord 22 (.ireturn) 1 := dk_172 (bA_sl (a := 0) (j := 22) bkX6_takeWord_0 rfl)
theorem bkX6_takeNumber_0 : ((cX6_takeNumber.data.toList.drop 0).take 64).map UInt8.toNat = [42, 180, 0, 18, 153, 0, 5, 27, 172, 42, 180, 0, 38, 5, 159, 0, 10, 42, 5, 182, 0, 109, 27, 172, 42, 180, 0, 41, 27, 161, 0, 11, 42, 180, 0, 41, 28, 164, 0, 10, 42, 6, 182, 0, 109, 27, 172, 42, 180, 0, 41, 62, 42, 182, 0, 62, 29, 172] := by decide +kernel
theorem dX6_takeNumber_0 : DR cX6_takeNumber 0 (.aload_n 0) 1 := dk_42 (bA_sl (a := 0) (j := 0) bkX6_takeNumber_0 rfl)
theorem dX6_takeNumber_1 : DR cX6_takeNumber 1 (.getfield 18) 3 := dk_180 (bA_sl (a := 0) (j := 1) bkX6_takeNumber_0 rfl) (bA_sl (a := 0) (j := 2) bkX6_takeNumber_0 rfl) (bA_sl (a := 0) (j := 3) bkX6_takeNumber_0 rfl) (by decide) rfl
theorem dX6_takeNumber_4 : DR cX6_takeNumber 4 (.ifCond .eq 5) 3 := dk_153 (bA_sl (a := 0) (j := 4) bkX6_takeNumber_0 rfl) (bA_sl (a := 0) (j := 5) bkX6_takeNumber_0 rfl) (bA_sl (a := 0) (j := 6) bkX6_takeNumber_0 rfl) (by decide) (by decide)
theorem dX6_takeNumber_7 : DR cX6_takeNumber 7 (.iload_n 1) 1 := dk_27 (bA_sl (a := 0) (j := 7) bkX6_takeNumber_0 rfl)
theorem dX6_takeNumber_8 : DR cX6_takeNumber 8 (.ireturn) 1 := dk_172 (bA_sl (a := 0) (j := 8) bkX6_takeNumber_0 rfl)
theorem dX6_takeNumber_9 : DR cX6_takeNumber 9 (.aload_n 0) 1 := dk_42 (bA_sl (a := 0) (j := 9) bkX6_takeNumber_0 rfl)
theorem dX6_takeNumber_10 : DR cX6_takeNumber 10 (.getfield 38) 3 := dk_180 (bA_sl (a := 0) (j := 10) bkX6_takeNumber_0 rfl) (bA_sl (a := 0) (j := 11) bkX6_takeNumber_0 rfl) (bA_sl (a := 0) (j := 12) bkX6_takeNumber_0 rfl) (by decide) rfl
theorem dX6_takeNumber_13 : DR cX6_takeNumber 13 (.iconst 2) 1 := dk_5 (bA_sl (a := 0) (j := 13) bkX6_takeNumber_0 rfl)
theorem dX6_takeNumber_14 : DR cX6_takeNumber 14 (.if_icmp .eq 10) 3 := dk_159 (bA_sl (a := 0) (j := 14) bkX6_takeNumber_0 rfl) (bA_sl (a := 0) (j := 15) bkX6_takeNumber_0 rfl) (bA_sl (a := 0) (j := 16) bkX6_takeNumber_0 rfl) (by decide) (by decide)
theorem dX6_takeNumber_17 : DR cX6_takeNumber 17 (.aload_n 0) 1 := dk_42 (bA_sl (a := 0) (j := 17) bkX6_takeNumber_0 rfl)
theorem dX6_takeNumber_18 : DR cX6_takeNumber 18 (.iconst 2) 1 := dk_5 (bA_sl (a := 0) (j := 18) bkX6_takeNumber_0 rfl)
theorem dX6_takeNumber_19 : DR cX6_takeNumber 19 (.invokevirtual 109) 3 := dk_182 (bA_sl (a := 0) (j := 19) bkX6_takeNumber_0 rfl) (bA_sl (a := 0) (j := 20) bkX6_takeNumber_0 rfl) (bA_sl (a := 0) (j := 21) bkX6_takeNumber_0 rfl) (by decide) rfl
theorem dX6_takeNumber_22 : DR cX6_takeNumber 22 (.iload_n 1) 1 := dk_27 (bA_sl (a := 0) (j := 22) bkX6_takeNumber_0 rfl)
theorem dX6_takeNumber_23 : DR cX6_takeNumber 23 (.ireturn) 1 := dk_172 (bA_sl (a := 0) (j := 23) bkX6_takeNumber_0 rfl)
theorem dX6_takeNumber_24 : DR cX6_takeNumber 24 (.aload_n 0) 1 := dk_42 (bA_sl (a := 0) (j := 24) bkX6_takeNumber_0 rfl)
theorem dX6_takeNumber_25 : DR cX6_takeNumber 25 (.getfield 41) 3 := dk_180 (bA_sl (a := 0) (j := 25) bkX6_takeNumber_0 rfl) (bA_sl (a := 0) (j := 26) bkX6_takeNumber_0 rfl) (bA_sl (a := 0) (j := 27) bkX6_takeNumber_0 rfl) (by decide) rfl
theorem dX6_takeNumber_28 : DR cX6_takeNumber 28 (.iload_n 1) 1 := dk_27 (bA_sl (a := 0) (j := 28) bkX6_takeNumber_0 rfl)
theorem dX6_takeNumber_29 : DR cX6_takeNumber 29 (.if_icmp .lt 11) 3 := dk_161 (bA_sl (a := 0) (j := 29) bkX6_takeNumber_0 rfl) (bA_sl (a := 0) (j := 30) bkX6_takeNumber_0 rfl) (bA_sl (a := 0) (j := 31) bkX6_takeNumber_0 rfl) (by decide) (by decide)
theorem dX6_takeNumber_32 : DR cX6_takeNumber 32 (.aload_n 0) 1 := dk_42 (bA_sl (a := 0) (j := 32) bkX6_takeNumber_0 rfl)
theorem dX6_takeNumber_33 : DR cX6_takeNumber 33 (.getfield 41) 3 := dk_180 (bA_sl (a := 0) (j := 33) bkX6_takeNumber_0 rfl) (bA_sl (a := 0) (j := 34) bkX6_takeNumber_0 rfl) (bA_sl (a := 0) (j := 35) bkX6_takeNumber_0 rfl) (by decide) rfl
theorem dX6_takeNumber_36 : DR cX6_takeNumber 36 (.iload_n 2) 1 := dk_28 (bA_sl (a := 0) (j := 36) bkX6_takeNumber_0 rfl)
theorem dX6_takeNumber_37 : DR cX6_takeNumber 37 (.if_icmp .le 10) 3 := dk_164 (bA_sl (a := 0) (j := 37) bkX6_takeNumber_0 rfl) (bA_sl (a := 0) (j := 38) bkX6_takeNumber_0 rfl) (bA_sl (a := 0) (j := 39) bkX6_takeNumber_0 rfl) (by decide) (by decide)
theorem dX6_takeNumber_40 : DR cX6_takeNumber 40 (.aload_n 0) 1 := dk_42 (bA_sl (a := 0) (j := 40) bkX6_takeNumber_0 rfl)
theorem dX6_takeNumber_41 : DR cX6_takeNumber 41 (.iconst 3) 1 := dk_6 (bA_sl (a := 0) (j := 41) bkX6_takeNumber_0 rfl)
theorem dX6_takeNumber_42 : DR cX6_takeNumber 42 (.invokevirtual 109) 3 := dk_182 (bA_sl (a := 0) (j := 42) bkX6_takeNumber_0 rfl) (bA_sl (a := 0) (j := 43) bkX6_takeNumber_0 rfl) (bA_sl (a := 0) (j := 44) bkX6_takeNumber_0 rfl) (by decide) rfl
theorem dX6_takeNumber_45 : DR cX6_takeNumber 45 (.iload_n 1) 1 := dk_27 (bA_sl (a := 0) (j := 45) bkX6_takeNumber_0 rfl)
theorem dX6_takeNumber_46 : DR cX6_takeNumber 46 (.ireturn) 1 := dk_172 (bA_sl (a := 0) (j := 46) bkX6_takeNumber_0 rfl)
theorem dX6_takeNumber_47 : DR cX6_takeNumber 47 (.aload_n 0) 1 := dk_42 (bA_sl (a := 0) (j := 47) bkX6_takeNumber_0 rfl)
theorem dX6_takeNumber_48 : DR cX6_takeNumber 48 (.getfield 41) 3 := dk_180 (bA_sl (a := 0) (j := 48) bkX6_takeNumber_0 rfl) (bA_sl (a := 0) (j := 49) bkX6_takeNumber_0 rfl) (bA_sl (a := 0) (j := 50) bkX6_takeNumber_0 rfl) (by decide) rfl
theorem dX6_takeNumber_51 : DR cX6_takeNumber 51 (.istore_n 3) 1 := dk_62 (bA_sl (a := 0) (j := 51) bkX6_takeNumber_0 rfl)
theorem dX6_takeNumber_52 : DR cX6_takeNumber 52 (.aload_n 0) 1 := dk_42 (bA_sl (a := 0) (j := 52) bkX6_takeNumber_0 rfl)
theorem dX6_takeNumber_53 : DR cX6_takeNumber 53 (.invokevirtual 62) 3 := dk_182 (bA_sl (a := 0) (j := 53) bkX6_takeNumber_0 rfl) (bA_sl (a := 0) (j := 54) bkX6_takeNumber_0 rfl) (bA_sl (a := 0) (j := 55) bkX6_takeNumber_0 rfl) (by decide) rfl
theorem dX6_takeNumber_56 : DR cX6_takeNumber 56 (.iload_n 3) 1 := dk_29 (bA_sl (a := 0) (j := 56) bkX6_takeNumber_0 rfl)
theorem dX6_takeNumber_57 : DR cX6_takeNumber 57 (.ireturn) 1 := dk_172 (bA_sl (a := 0) (j := 57) bkX6_takeNumber_0 rfl)
theorem bkX6_refuse_0 : ((cX6_refuse.data.toList.drop 0).take 64).map UInt8.toNat = [42, 180, 0, 18, 154, 0, 28, 42, 42, 180, 0, 38, 7, 160, 0, 7, 4, 167, 0, 4, 27, 181, 0, 18, 42, 42, 180, 0, 32, 181, 0, 22, 177] := by decide +kernel
theorem dX6_refuse_0 : DR cX6_refuse 0 (.aload_n 0) 1 := dk_42 (bA_sl (a := 0) (j := 0) bkX6_refuse_0 rfl)
theorem dX6_refuse_1 : DR cX6_refuse 1 (.getfield 18) 3 := dk_180 (bA_sl (a := 0) (j := 1) bkX6_refuse_0 rfl) (bA_sl (a := 0) (j := 2) bkX6_refuse_0 rfl) (bA_sl (a := 0) (j := 3) bkX6_refuse_0 rfl) (by decide) rfl
theorem dX6_refuse_4 : DR cX6_refuse 4 (.ifCond .ne 28) 3 := dk_154 (bA_sl (a := 0) (j := 4) bkX6_refuse_0 rfl) (bA_sl (a := 0) (j := 5) bkX6_refuse_0 rfl) (bA_sl (a := 0) (j := 6) bkX6_refuse_0 rfl) (by decide) (by decide)
theorem dX6_refuse_7 : DR cX6_refuse 7 (.aload_n 0) 1 := dk_42 (bA_sl (a := 0) (j := 7) bkX6_refuse_0 rfl)
theorem dX6_refuse_8 : DR cX6_refuse 8 (.aload_n 0) 1 := dk_42 (bA_sl (a := 0) (j := 8) bkX6_refuse_0 rfl)
theorem dX6_refuse_9 : DR cX6_refuse 9 (.getfield 38) 3 := dk_180 (bA_sl (a := 0) (j := 9) bkX6_refuse_0 rfl) (bA_sl (a := 0) (j := 10) bkX6_refuse_0 rfl) (bA_sl (a := 0) (j := 11) bkX6_refuse_0 rfl) (by decide) rfl
theorem dX6_refuse_12 : DR cX6_refuse 12 (.iconst 4) 1 := dk_7 (bA_sl (a := 0) (j := 12) bkX6_refuse_0 rfl)
theorem dX6_refuse_13 : DR cX6_refuse 13 (.if_icmp .ne 7) 3 := dk_160 (bA_sl (a := 0) (j := 13) bkX6_refuse_0 rfl) (bA_sl (a := 0) (j := 14) bkX6_refuse_0 rfl) (bA_sl (a := 0) (j := 15) bkX6_refuse_0 rfl) (by decide) (by decide)
theorem dX6_refuse_16 : DR cX6_refuse 16 (.iconst 1) 1 := dk_4 (bA_sl (a := 0) (j := 16) bkX6_refuse_0 rfl)
theorem dX6_refuse_17 : DR cX6_refuse 17 (.goto 4) 3 := dk_167 (bA_sl (a := 0) (j := 17) bkX6_refuse_0 rfl) (bA_sl (a := 0) (j := 18) bkX6_refuse_0 rfl) (bA_sl (a := 0) (j := 19) bkX6_refuse_0 rfl) (by decide) (by decide)
theorem dX6_refuse_20 : DR cX6_refuse 20 (.iload_n 1) 1 := dk_27 (bA_sl (a := 0) (j := 20) bkX6_refuse_0 rfl)
theorem dX6_refuse_21 : DR cX6_refuse 21 (.putfield 18) 3 := dk_181 (bA_sl (a := 0) (j := 21) bkX6_refuse_0 rfl) (bA_sl (a := 0) (j := 22) bkX6_refuse_0 rfl) (bA_sl (a := 0) (j := 23) bkX6_refuse_0 rfl) (by decide) rfl
theorem dX6_refuse_24 : DR cX6_refuse 24 (.aload_n 0) 1 := dk_42 (bA_sl (a := 0) (j := 24) bkX6_refuse_0 rfl)
theorem dX6_refuse_25 : DR cX6_refuse 25 (.aload_n 0) 1 := dk_42 (bA_sl (a := 0) (j := 25) bkX6_refuse_0 rfl)
theorem dX6_refuse_26 : DR cX6_refuse 26 (.getfield 32) 3 := dk_180 (bA_sl (a := 0) (j := 26) bkX6_refuse_0 rfl) (bA_sl (a := 0) (j := 27) bkX6_refuse_0 rfl) (bA_sl (a := 0) (j := 28) bkX6_refuse_0 rfl) (by decide) rfl
theorem dX6_refuse_29 : DR cX6_refuse 29 (.putfield 22) 3 := dk_181 (bA_sl (a := 0) (j := 29) bkX6_refuse_0 rfl) (bA_sl (a := 0) (j := 30) bkX6_refuse_0 rfl) (bA_sl (a := 0) (j := 31) bkX6_refuse_0 rfl) (by decide) rfl
theorem dX6_refuse_32 : DR cX6_refuse 32 (.return_) 1 := dk_177 (bA_sl (a := 0) (j := 32) bkX6_refuse_0 rfl)
theorem bkX6_isWord_0 : ((cX6_isWord.data.toList.drop 0).take 64).map UInt8.toNat = [42, 180, 0, 38, 4, 160, 0, 19, 42, 180, 0, 35, 42, 180, 0, 32, 100, 43, 182, 0, 154, 159, 0, 5, 3, 172, 3, 61, 28, 43, 182, 0, 154, 162, 0, 30, 42, 180, 0, 25, 42, 180, 0, 32, 28, 96, 51, 43, 28, 182, 0, 159, 159, 0, 5, 3, 172, 132, 2, 1, 167, 255, 224, 4] := by decide +kernel
theorem dX6_isWord_0 : DR cX6_isWord 0 (.aload_n 0) 1 := dk_42 (bA_sl (a := 0) (j := 0) bkX6_isWord_0 rfl)
theorem dX6_isWord_1 : DR cX6_isWord 1 (.getfield 38) 3 := dk_180 (bA_sl (a := 0) (j := 1) bkX6_isWord_0 rfl) (bA_sl (a := 0) (j := 2) bkX6_isWord_0 rfl) (bA_sl (a := 0) (j := 3) bkX6_isWord_0 rfl) (by decide) rfl
theorem dX6_isWord_4 : DR cX6_isWord 4 (.iconst 1) 1 := dk_4 (bA_sl (a := 0) (j := 4) bkX6_isWord_0 rfl)
theorem dX6_isWord_5 : DR cX6_isWord 5 (.if_icmp .ne 19) 3 := dk_160 (bA_sl (a := 0) (j := 5) bkX6_isWord_0 rfl) (bA_sl (a := 0) (j := 6) bkX6_isWord_0 rfl) (bA_sl (a := 0) (j := 7) bkX6_isWord_0 rfl) (by decide) (by decide)
theorem dX6_isWord_8 : DR cX6_isWord 8 (.aload_n 0) 1 := dk_42 (bA_sl (a := 0) (j := 8) bkX6_isWord_0 rfl)
theorem dX6_isWord_9 : DR cX6_isWord 9 (.getfield 35) 3 := dk_180 (bA_sl (a := 0) (j := 9) bkX6_isWord_0 rfl) (bA_sl (a := 0) (j := 10) bkX6_isWord_0 rfl) (bA_sl (a := 0) (j := 11) bkX6_isWord_0 rfl) (by decide) rfl
theorem dX6_isWord_12 : DR cX6_isWord 12 (.aload_n 0) 1 := dk_42 (bA_sl (a := 0) (j := 12) bkX6_isWord_0 rfl)
theorem dX6_isWord_13 : DR cX6_isWord 13 (.getfield 32) 3 := dk_180 (bA_sl (a := 0) (j := 13) bkX6_isWord_0 rfl) (bA_sl (a := 0) (j := 14) bkX6_isWord_0 rfl) (bA_sl (a := 0) (j := 15) bkX6_isWord_0 rfl) (by decide) rfl
theorem dX6_isWord_16 : DR cX6_isWord 16 (.isub) 1 := dk_100 (bA_sl (a := 0) (j := 16) bkX6_isWord_0 rfl)
theorem dX6_isWord_17 : DR cX6_isWord 17 (.aload_n 1) 1 := dk_43 (bA_sl (a := 0) (j := 17) bkX6_isWord_0 rfl)
theorem dX6_isWord_18 : DR cX6_isWord 18 (.invokevirtual 154) 3 := dk_182 (bA_sl (a := 0) (j := 18) bkX6_isWord_0 rfl) (bA_sl (a := 0) (j := 19) bkX6_isWord_0 rfl) (bA_sl (a := 0) (j := 20) bkX6_isWord_0 rfl) (by decide) rfl
theorem dX6_isWord_21 : DR cX6_isWord 21 (.if_icmp .eq 5) 3 := dk_159 (bA_sl (a := 0) (j := 21) bkX6_isWord_0 rfl) (bA_sl (a := 0) (j := 22) bkX6_isWord_0 rfl) (bA_sl (a := 0) (j := 23) bkX6_isWord_0 rfl) (by decide) (by decide)
theorem dX6_isWord_24 : DR cX6_isWord 24 (.iconst 0) 1 := dk_3 (bA_sl (a := 0) (j := 24) bkX6_isWord_0 rfl)
theorem dX6_isWord_25 : DR cX6_isWord 25 (.ireturn) 1 := dk_172 (bA_sl (a := 0) (j := 25) bkX6_isWord_0 rfl)
theorem dX6_isWord_26 : DR cX6_isWord 26 (.iconst 0) 1 := dk_3 (bA_sl (a := 0) (j := 26) bkX6_isWord_0 rfl)
theorem dX6_isWord_27 : DR cX6_isWord 27 (.istore_n 2) 1 := dk_61 (bA_sl (a := 0) (j := 27) bkX6_isWord_0 rfl)
theorem dX6_isWord_28 : DR cX6_isWord 28 (.iload_n 2) 1 := dk_28 (bA_sl (a := 0) (j := 28) bkX6_isWord_0 rfl)
theorem dX6_isWord_29 : DR cX6_isWord 29 (.aload_n 1) 1 := dk_43 (bA_sl (a := 0) (j := 29) bkX6_isWord_0 rfl)
theorem dX6_isWord_30 : DR cX6_isWord 30 (.invokevirtual 154) 3 := dk_182 (bA_sl (a := 0) (j := 30) bkX6_isWord_0 rfl) (bA_sl (a := 0) (j := 31) bkX6_isWord_0 rfl) (bA_sl (a := 0) (j := 32) bkX6_isWord_0 rfl) (by decide) rfl
theorem dX6_isWord_33 : DR cX6_isWord 33 (.if_icmp .ge 30) 3 := dk_162 (bA_sl (a := 0) (j := 33) bkX6_isWord_0 rfl) (bA_sl (a := 0) (j := 34) bkX6_isWord_0 rfl) (bA_sl (a := 0) (j := 35) bkX6_isWord_0 rfl) (by decide) (by decide)
theorem dX6_isWord_36 : DR cX6_isWord 36 (.aload_n 0) 1 := dk_42 (bA_sl (a := 0) (j := 36) bkX6_isWord_0 rfl)
theorem dX6_isWord_37 : DR cX6_isWord 37 (.getfield 25) 3 := dk_180 (bA_sl (a := 0) (j := 37) bkX6_isWord_0 rfl) (bA_sl (a := 0) (j := 38) bkX6_isWord_0 rfl) (bA_sl (a := 0) (j := 39) bkX6_isWord_0 rfl) (by decide) rfl
theorem dX6_isWord_40 : DR cX6_isWord 40 (.aload_n 0) 1 := dk_42 (bA_sl (a := 0) (j := 40) bkX6_isWord_0 rfl)
theorem dX6_isWord_41 : DR cX6_isWord 41 (.getfield 32) 3 := dk_180 (bA_sl (a := 0) (j := 41) bkX6_isWord_0 rfl) (bA_sl (a := 0) (j := 42) bkX6_isWord_0 rfl) (bA_sl (a := 0) (j := 43) bkX6_isWord_0 rfl) (by decide) rfl
theorem dX6_isWord_44 : DR cX6_isWord 44 (.iload_n 2) 1 := dk_28 (bA_sl (a := 0) (j := 44) bkX6_isWord_0 rfl)
theorem dX6_isWord_45 : DR cX6_isWord 45 (.iadd) 1 := dk_96 (bA_sl (a := 0) (j := 45) bkX6_isWord_0 rfl)
theorem dX6_isWord_46 : DR cX6_isWord 46 (.baload) 1 := dk_51 (bA_sl (a := 0) (j := 46) bkX6_isWord_0 rfl)
theorem dX6_isWord_47 : DR cX6_isWord 47 (.aload_n 1) 1 := dk_43 (bA_sl (a := 0) (j := 47) bkX6_isWord_0 rfl)
theorem dX6_isWord_48 : DR cX6_isWord 48 (.iload_n 2) 1 := dk_28 (bA_sl (a := 0) (j := 48) bkX6_isWord_0 rfl)
theorem dX6_isWord_49 : DR cX6_isWord 49 (.invokevirtual 159) 3 := dk_182 (bA_sl (a := 0) (j := 49) bkX6_isWord_0 rfl) (bA_sl (a := 0) (j := 50) bkX6_isWord_0 rfl) (bA_sl (a := 0) (j := 51) bkX6_isWord_0 rfl) (by decide) rfl
theorem dX6_isWord_52 : DR cX6_isWord 52 (.if_icmp .eq 5) 3 := dk_159 (bA_sl (a := 0) (j := 52) bkX6_isWord_0 rfl) (bA_sl (a := 0) (j := 53) bkX6_isWord_0 rfl) (bA_sl (a := 0) (j := 54) bkX6_isWord_0 rfl) (by decide) (by decide)
theorem dX6_isWord_55 : DR cX6_isWord 55 (.iconst 0) 1 := dk_3 (bA_sl (a := 0) (j := 55) bkX6_isWord_0 rfl)
theorem dX6_isWord_56 : DR cX6_isWord 56 (.ireturn) 1 := dk_172 (bA_sl (a := 0) (j := 56) bkX6_isWord_0 rfl)
theorem dX6_isWord_57 : DR cX6_isWord 57 (.iinc 2 1) 3 := dk_132 (bA_sl (a := 0) (j := 57) bkX6_isWord_0 rfl) (bA_sl (a := 0) (j := 58) bkX6_isWord_0 rfl) (bA_sl (a := 0) (j := 59) bkX6_isWord_0 rfl) (by decide) (by decide)
theorem dX6_isWord_60 : DR cX6_isWord 60 (.goto (-32)) 3 := dk_167 (bA_sl (a := 0) (j := 60) bkX6_isWord_0 rfl) (bA_sl (a := 0) (j := 61) bkX6_isWord_0 rfl) (bA_sl (a := 0) (j := 62) bkX6_isWord_0 rfl) (by decide) (by decide)
theorem dX6_isWord_63 : DR cX6_isWord 63 (.iconst 1) 1 := dk_4 (bA_sl (a := 0) (j := 63) bkX6_isWord_0 rfl)
theorem bkX6_isWord_1 : ((cX6_isWord.data.toList.drop 64).take 64).map UInt8.toNat = [172] := by decide +kernel
theorem dX6_isWord_64 : DR cX6_isWord 64 (.ireturn) 1 := dk_172 (bA_sl (a := 64) (j := 0) bkX6_isWord_1 rfl)
theorem bkX6_advance_0 : ((cX6_advance.data.toList.drop 0).take 64).map UInt8.toNat = [42, 42, 4, 42, 180, 0, 35, 182, 0, 163, 181, 0, 32, 42, 42, 180, 0, 32, 4, 96, 181, 0, 35, 42, 42, 180, 0, 32, 182, 0, 166, 170, 0, 0, 0, 120, 0, 0, 0, 0, 0, 0, 0, 4, 0, 0, 0, 104, 0, 0, 0, 120, 0, 0, 0, 33, 0, 0, 0, 54, 0, 0, 0, 96] := by decide +kernel
theorem dX6_advance_0 : DR cX6_advance 0 (.aload_n 0) 1 := dk_42 (bA_sl (a := 0) (j := 0) bkX6_advance_0 rfl)
theorem dX6_advance_1 : DR cX6_advance 1 (.aload_n 0) 1 := dk_42 (bA_sl (a := 0) (j := 1) bkX6_advance_0 rfl)
theorem dX6_advance_2 : DR cX6_advance 2 (.iconst 1) 1 := dk_4 (bA_sl (a := 0) (j := 2) bkX6_advance_0 rfl)
theorem dX6_advance_3 : DR cX6_advance 3 (.aload_n 0) 1 := dk_42 (bA_sl (a := 0) (j := 3) bkX6_advance_0 rfl)
theorem dX6_advance_4 : DR cX6_advance 4 (.getfield 35) 3 := dk_180 (bA_sl (a := 0) (j := 4) bkX6_advance_0 rfl) (bA_sl (a := 0) (j := 5) bkX6_advance_0 rfl) (bA_sl (a := 0) (j := 6) bkX6_advance_0 rfl) (by decide) rfl
theorem dX6_advance_7 : DR cX6_advance 7 (.invokevirtual 163) 3 := dk_182 (bA_sl (a := 0) (j := 7) bkX6_advance_0 rfl) (bA_sl (a := 0) (j := 8) bkX6_advance_0 rfl) (bA_sl (a := 0) (j := 9) bkX6_advance_0 rfl) (by decide) rfl
theorem dX6_advance_10 : DR cX6_advance 10 (.putfield 32) 3 := dk_181 (bA_sl (a := 0) (j := 10) bkX6_advance_0 rfl) (bA_sl (a := 0) (j := 11) bkX6_advance_0 rfl) (bA_sl (a := 0) (j := 12) bkX6_advance_0 rfl) (by decide) rfl
theorem dX6_advance_13 : DR cX6_advance 13 (.aload_n 0) 1 := dk_42 (bA_sl (a := 0) (j := 13) bkX6_advance_0 rfl)
theorem dX6_advance_14 : DR cX6_advance 14 (.aload_n 0) 1 := dk_42 (bA_sl (a := 0) (j := 14) bkX6_advance_0 rfl)
theorem dX6_advance_15 : DR cX6_advance 15 (.getfield 32) 3 := dk_180 (bA_sl (a := 0) (j := 15) bkX6_advance_0 rfl) (bA_sl (a := 0) (j := 16) bkX6_advance_0 rfl) (bA_sl (a := 0) (j := 17) bkX6_advance_0 rfl) (by decide) rfl
theorem dX6_advance_18 : DR cX6_advance 18 (.iconst 1) 1 := dk_4 (bA_sl (a := 0) (j := 18) bkX6_advance_0 rfl)
theorem dX6_advance_19 : DR cX6_advance 19 (.iadd) 1 := dk_96 (bA_sl (a := 0) (j := 19) bkX6_advance_0 rfl)
theorem dX6_advance_20 : DR cX6_advance 20 (.putfield 35) 3 := dk_181 (bA_sl (a := 0) (j := 20) bkX6_advance_0 rfl) (bA_sl (a := 0) (j := 21) bkX6_advance_0 rfl) (bA_sl (a := 0) (j := 22) bkX6_advance_0 rfl) (by decide) rfl
theorem dX6_advance_23 : DR cX6_advance 23 (.aload_n 0) 1 := dk_42 (bA_sl (a := 0) (j := 23) bkX6_advance_0 rfl)
theorem dX6_advance_24 : DR cX6_advance 24 (.aload_n 0) 1 := dk_42 (bA_sl (a := 0) (j := 24) bkX6_advance_0 rfl)
theorem dX6_advance_25 : DR cX6_advance 25 (.getfield 32) 3 := dk_180 (bA_sl (a := 0) (j := 25) bkX6_advance_0 rfl) (bA_sl (a := 0) (j := 26) bkX6_advance_0 rfl) (bA_sl (a := 0) (j := 27) bkX6_advance_0 rfl) (by decide) rfl
theorem dX6_advance_28 : DR cX6_advance 28 (.invokevirtual 166) 3 := dk_182 (bA_sl (a := 0) (j := 28) bkX6_advance_0 rfl) (bA_sl (a := 0) (j := 29) bkX6_advance_0 rfl) (bA_sl (a := 0) (j := 30) bkX6_advance_0 rfl) (by decide) rfl
theorem dX6_advance_31 : decode cX6_advance 31 = .ok (.tableswitch 120 0 4 #[104, 120, 33, 54, 96], 33) := by decide +kernel
theorem bkX6_advance_1 : ((cX6_advance.data.toList.drop 64).take 64).map UInt8.toNat = [42, 42, 5, 42, 180, 0, 32, 182, 0, 163, 181, 0, 35, 42, 4, 181, 0, 38, 167, 0, 74, 42, 42, 6, 42, 180, 0, 32, 182, 0, 163, 181, 0, 35, 42, 42, 180, 0, 35, 42, 180, 0, 32, 100, 6, 164, 0, 7, 7, 167, 0, 4, 5, 181, 0, 38, 42, 182, 0, 170, 167, 0, 32, 42] := by decide +kernel
theorem dX6_advance_64 : DR cX6_advance 64 (.aload_n 0) 1 := dk_42 (bA_sl (a := 64) (j := 0) bkX6_advance_1 rfl)
theorem dX6_advance_65 : DR cX6_advance 65 (.aload_n 0) 1 := dk_42 (bA_sl (a := 64) (j := 1) bkX6_advance_1 rfl)
theorem dX6_advance_66 : DR cX6_advance 66 (.iconst 2) 1 := dk_5 (bA_sl (a := 64) (j := 2) bkX6_advance_1 rfl)
theorem dX6_advance_67 : DR cX6_advance 67 (.aload_n 0) 1 := dk_42 (bA_sl (a := 64) (j := 3) bkX6_advance_1 rfl)
theorem dX6_advance_68 : DR cX6_advance 68 (.getfield 32) 3 := dk_180 (bA_sl (a := 64) (j := 4) bkX6_advance_1 rfl) (bA_sl (a := 64) (j := 5) bkX6_advance_1 rfl) (bA_sl (a := 64) (j := 6) bkX6_advance_1 rfl) (by decide) rfl
theorem dX6_advance_71 : DR cX6_advance 71 (.invokevirtual 163) 3 := dk_182 (bA_sl (a := 64) (j := 7) bkX6_advance_1 rfl) (bA_sl (a := 64) (j := 8) bkX6_advance_1 rfl) (bA_sl (a := 64) (j := 9) bkX6_advance_1 rfl) (by decide) rfl
theorem dX6_advance_74 : DR cX6_advance 74 (.putfield 35) 3 := dk_181 (bA_sl (a := 64) (j := 10) bkX6_advance_1 rfl) (bA_sl (a := 64) (j := 11) bkX6_advance_1 rfl) (bA_sl (a := 64) (j := 12) bkX6_advance_1 rfl) (by decide) rfl
theorem dX6_advance_77 : DR cX6_advance 77 (.aload_n 0) 1 := dk_42 (bA_sl (a := 64) (j := 13) bkX6_advance_1 rfl)
theorem dX6_advance_78 : DR cX6_advance 78 (.iconst 1) 1 := dk_4 (bA_sl (a := 64) (j := 14) bkX6_advance_1 rfl)
theorem dX6_advance_79 : DR cX6_advance 79 (.putfield 38) 3 := dk_181 (bA_sl (a := 64) (j := 15) bkX6_advance_1 rfl) (bA_sl (a := 64) (j := 16) bkX6_advance_1 rfl) (bA_sl (a := 64) (j := 17) bkX6_advance_1 rfl) (by decide) rfl
theorem dX6_advance_82 : DR cX6_advance 82 (.goto 74) 3 := dk_167 (bA_sl (a := 64) (j := 18) bkX6_advance_1 rfl) (bA_sl (a := 64) (j := 19) bkX6_advance_1 rfl) (bA_sl (a := 64) (j := 20) bkX6_advance_1 rfl) (by decide) (by decide)
theorem dX6_advance_85 : DR cX6_advance 85 (.aload_n 0) 1 := dk_42 (bA_sl (a := 64) (j := 21) bkX6_advance_1 rfl)
theorem dX6_advance_86 : DR cX6_advance 86 (.aload_n 0) 1 := dk_42 (bA_sl (a := 64) (j := 22) bkX6_advance_1 rfl)
theorem dX6_advance_87 : DR cX6_advance 87 (.iconst 3) 1 := dk_6 (bA_sl (a := 64) (j := 23) bkX6_advance_1 rfl)
theorem dX6_advance_88 : DR cX6_advance 88 (.aload_n 0) 1 := dk_42 (bA_sl (a := 64) (j := 24) bkX6_advance_1 rfl)
theorem dX6_advance_89 : DR cX6_advance 89 (.getfield 32) 3 := dk_180 (bA_sl (a := 64) (j := 25) bkX6_advance_1 rfl) (bA_sl (a := 64) (j := 26) bkX6_advance_1 rfl) (bA_sl (a := 64) (j := 27) bkX6_advance_1 rfl) (by decide) rfl
theorem dX6_advance_92 : DR cX6_advance 92 (.invokevirtual 163) 3 := dk_182 (bA_sl (a := 64) (j := 28) bkX6_advance_1 rfl) (bA_sl (a := 64) (j := 29) bkX6_advance_1 rfl) (bA_sl (a := 64) (j := 30) bkX6_advance_1 rfl) (by decide) rfl
theorem dX6_advance_95 : DR cX6_advance 95 (.putfield 35) 3 := dk_181 (bA_sl (a := 64) (j := 31) bkX6_advance_1 rfl) (bA_sl (a := 64) (j := 32) bkX6_advance_1 rfl) (bA_sl (a := 64) (j := 33) bkX6_advance_1 rfl) (by decide) rfl
theorem dX6_advance_98 : DR cX6_advance 98 (.aload_n 0) 1 := dk_42 (bA_sl (a := 64) (j := 34) bkX6_advance_1 rfl)
theorem dX6_advance_99 : DR cX6_advance 99 (.aload_n 0) 1 := dk_42 (bA_sl (a := 64) (j := 35) bkX6_advance_1 rfl)
theorem dX6_advance_100 : DR cX6_advance 100 (.getfield 35) 3 := dk_180 (bA_sl (a := 64) (j := 36) bkX6_advance_1 rfl) (bA_sl (a := 64) (j := 37) bkX6_advance_1 rfl) (bA_sl (a := 64) (j := 38) bkX6_advance_1 rfl) (by decide) rfl
theorem dX6_advance_103 : DR cX6_advance 103 (.aload_n 0) 1 := dk_42 (bA_sl (a := 64) (j := 39) bkX6_advance_1 rfl)
theorem dX6_advance_104 : DR cX6_advance 104 (.getfield 32) 3 := dk_180 (bA_sl (a := 64) (j := 40) bkX6_advance_1 rfl) (bA_sl (a := 64) (j := 41) bkX6_advance_1 rfl) (bA_sl (a := 64) (j := 42) bkX6_advance_1 rfl) (by decide) rfl
theorem dX6_advance_107 : DR cX6_advance 107 (.isub) 1 := dk_100 (bA_sl (a := 64) (j := 43) bkX6_advance_1 rfl)
