theorem bkX0_init_0 : ((cX0_init.data.toList.drop 0).take 64).map UInt8.toNat = [42, 183, 0, 3, 42, 16, 16, 188, 10, 181, 0, 9, 42, 16, 16, 188, 10, 181, 0, 15, 177] := by decide +kernel
theorem dX0_init_0 : DR cX0_init 0 (.aload_n 0) 1 := dk_42 (bA_sl (a := 0) (j := 0) bkX0_init_0 rfl)
theorem dX0_init_1 : DR cX0_init 1 (.invokespecial 3) 3 := dk_183 (bA_sl (a := 0) (j := 1) bkX0_init_0 rfl) (bA_sl (a := 0) (j := 2) bkX0_init_0 rfl) (bA_sl (a := 0) (j := 3) bkX0_init_0 rfl) (by decide) rfl
theorem dX0_init_4 : DR cX0_init 4 (.aload_n 0) 1 := dk_42 (bA_sl (a := 0) (j := 4) bkX0_init_0 rfl)
theorem dX0_init_5 : DR cX0_init 5 (.bipush 16) 2 := dk_16 (bA_sl (a := 0) (j := 5) bkX0_init_0 rfl) (bA_sl (a := 0) (j := 6) bkX0_init_0 rfl) (by decide) (by decide)
theorem dX0_init_7 : decode cX0_init 7 = .ok (.newarray .int, 2) := by decide +kernel
theorem dX0_init_9 : DR cX0_init 9 (.putfield 9) 3 := dk_181 (bA_sl (a := 0) (j := 9) bkX0_init_0 rfl) (bA_sl (a := 0) (j := 10) bkX0_init_0 rfl) (bA_sl (a := 0) (j := 11) bkX0_init_0 rfl) (by decide) rfl
theorem dX0_init_12 : DR cX0_init 12 (.aload_n 0) 1 := dk_42 (bA_sl (a := 0) (j := 12) bkX0_init_0 rfl)
theorem dX0_init_13 : DR cX0_init 13 (.bipush 16) 2 := dk_16 (bA_sl (a := 0) (j := 13) bkX0_init_0 rfl) (bA_sl (a := 0) (j := 14) bkX0_init_0 rfl) (by decide) (by decide)
theorem dX0_init_15 : decode cX0_init 15 = .ok (.newarray .int, 2) := by decide +kernel
theorem dX0_init_17 : DR cX0_init 17 (.putfield 15) 3 := dk_181 (bA_sl (a := 0) (j := 17) bkX0_init_0 rfl) (bA_sl (a := 0) (j := 18) bkX0_init_0 rfl) (bA_sl (a := 0) (j := 19) bkX0_init_0 rfl) (by decide) rfl
theorem dX0_init_20 : DR cX0_init 20 (.return_) 1 := dk_177 (bA_sl (a := 0) (j := 20) bkX0_init_0 rfl)
theorem bkX0_fewest_0 : ((cX0_fewest.data.toList.drop 0).take 64).map UInt8.toNat = [42, 43, 182, 0, 18, 43, 182, 0, 22, 62, 3, 54, 4, 21, 4, 43, 180, 0, 28, 163, 0, 27, 42, 180, 0, 9, 42, 180, 0, 15, 28, 29, 21, 4, 184, 0, 32, 154, 0, 9, 132, 4, 1, 167, 255, 226, 21, 4, 43, 180, 0, 28, 164, 0, 5, 2, 172, 42, 43, 180, 0, 28, 28, 21] := by decide +kernel
theorem dX0_fewest_0 : DR cX0_fewest 0 (.aload_n 0) 1 := dk_42 (bA_sl (a := 0) (j := 0) bkX0_fewest_0 rfl)
theorem dX0_fewest_1 : DR cX0_fewest 1 (.aload_n 1) 1 := dk_43 (bA_sl (a := 0) (j := 1) bkX0_fewest_0 rfl)
theorem dX0_fewest_2 : DR cX0_fewest 2 (.invokevirtual 18) 3 := dk_182 (bA_sl (a := 0) (j := 2) bkX0_fewest_0 rfl) (bA_sl (a := 0) (j := 3) bkX0_fewest_0 rfl) (bA_sl (a := 0) (j := 4) bkX0_fewest_0 rfl) (by decide) rfl
theorem dX0_fewest_5 : DR cX0_fewest 5 (.aload_n 1) 1 := dk_43 (bA_sl (a := 0) (j := 5) bkX0_fewest_0 rfl)
theorem dX0_fewest_6 : DR cX0_fewest 6 (.invokevirtual 22) 3 := dk_182 (bA_sl (a := 0) (j := 6) bkX0_fewest_0 rfl) (bA_sl (a := 0) (j := 7) bkX0_fewest_0 rfl) (bA_sl (a := 0) (j := 8) bkX0_fewest_0 rfl) (by decide) rfl
theorem dX0_fewest_9 : DR cX0_fewest 9 (.istore_n 3) 1 := dk_62 (bA_sl (a := 0) (j := 9) bkX0_fewest_0 rfl)
theorem dX0_fewest_10 : DR cX0_fewest 10 (.iconst 0) 1 := dk_3 (bA_sl (a := 0) (j := 10) bkX0_fewest_0 rfl)
theorem dX0_fewest_11 : DR cX0_fewest 11 (.istore 4) 2 := dk_54 (bA_sl (a := 0) (j := 11) bkX0_fewest_0 rfl) (bA_sl (a := 0) (j := 12) bkX0_fewest_0 rfl) (by decide)
theorem dX0_fewest_13 : DR cX0_fewest 13 (.iload 4) 2 := dk_21 (bA_sl (a := 0) (j := 13) bkX0_fewest_0 rfl) (bA_sl (a := 0) (j := 14) bkX0_fewest_0 rfl) (by decide)
theorem dX0_fewest_15 : DR cX0_fewest 15 (.aload_n 1) 1 := dk_43 (bA_sl (a := 0) (j := 15) bkX0_fewest_0 rfl)
theorem dX0_fewest_16 : DR cX0_fewest 16 (.getfield 28) 3 := dk_180 (bA_sl (a := 0) (j := 16) bkX0_fewest_0 rfl) (bA_sl (a := 0) (j := 17) bkX0_fewest_0 rfl) (bA_sl (a := 0) (j := 18) bkX0_fewest_0 rfl) (by decide) rfl
theorem dX0_fewest_19 : DR cX0_fewest 19 (.if_icmp .gt 27) 3 := dk_163 (bA_sl (a := 0) (j := 19) bkX0_fewest_0 rfl) (bA_sl (a := 0) (j := 20) bkX0_fewest_0 rfl) (bA_sl (a := 0) (j := 21) bkX0_fewest_0 rfl) (by decide) (by decide)
theorem dX0_fewest_22 : DR cX0_fewest 22 (.aload_n 0) 1 := dk_42 (bA_sl (a := 0) (j := 22) bkX0_fewest_0 rfl)
theorem dX0_fewest_23 : DR cX0_fewest 23 (.getfield 9) 3 := dk_180 (bA_sl (a := 0) (j := 23) bkX0_fewest_0 rfl) (bA_sl (a := 0) (j := 24) bkX0_fewest_0 rfl) (bA_sl (a := 0) (j := 25) bkX0_fewest_0 rfl) (by decide) rfl
theorem dX0_fewest_26 : DR cX0_fewest 26 (.aload_n 0) 1 := dk_42 (bA_sl (a := 0) (j := 26) bkX0_fewest_0 rfl)
theorem dX0_fewest_27 : DR cX0_fewest 27 (.getfield 15) 3 := dk_180 (bA_sl (a := 0) (j := 27) bkX0_fewest_0 rfl) (bA_sl (a := 0) (j := 28) bkX0_fewest_0 rfl) (bA_sl (a := 0) (j := 29) bkX0_fewest_0 rfl) (by decide) rfl
theorem dX0_fewest_30 : DR cX0_fewest 30 (.iload_n 2) 1 := dk_28 (bA_sl (a := 0) (j := 30) bkX0_fewest_0 rfl)
theorem dX0_fewest_31 : DR cX0_fewest 31 (.iload_n 3) 1 := dk_29 (bA_sl (a := 0) (j := 31) bkX0_fewest_0 rfl)
theorem dX0_fewest_32 : DR cX0_fewest 32 (.iload 4) 2 := dk_21 (bA_sl (a := 0) (j := 32) bkX0_fewest_0 rfl) (bA_sl (a := 0) (j := 33) bkX0_fewest_0 rfl) (by decide)
theorem dX0_fewest_34 : DR cX0_fewest 34 (.invokestatic 32) 3 := dk_184 (bA_sl (a := 0) (j := 34) bkX0_fewest_0 rfl) (bA_sl (a := 0) (j := 35) bkX0_fewest_0 rfl) (bA_sl (a := 0) (j := 36) bkX0_fewest_0 rfl) (by decide) rfl
theorem dX0_fewest_37 : DR cX0_fewest 37 (.ifCond .ne 9) 3 := dk_154 (bA_sl (a := 0) (j := 37) bkX0_fewest_0 rfl) (bA_sl (a := 0) (j := 38) bkX0_fewest_0 rfl) (bA_sl (a := 0) (j := 39) bkX0_fewest_0 rfl) (by decide) (by decide)
theorem dX0_fewest_40 : DR cX0_fewest 40 (.iinc 4 1) 3 := dk_132 (bA_sl (a := 0) (j := 40) bkX0_fewest_0 rfl) (bA_sl (a := 0) (j := 41) bkX0_fewest_0 rfl) (bA_sl (a := 0) (j := 42) bkX0_fewest_0 rfl) (by decide) (by decide)
theorem dX0_fewest_43 : DR cX0_fewest 43 (.goto (-30)) 3 := dk_167 (bA_sl (a := 0) (j := 43) bkX0_fewest_0 rfl) (bA_sl (a := 0) (j := 44) bkX0_fewest_0 rfl) (bA_sl (a := 0) (j := 45) bkX0_fewest_0 rfl) (by decide) (by decide)
theorem dX0_fewest_46 : DR cX0_fewest 46 (.iload 4) 2 := dk_21 (bA_sl (a := 0) (j := 46) bkX0_fewest_0 rfl) (bA_sl (a := 0) (j := 47) bkX0_fewest_0 rfl) (by decide)
theorem dX0_fewest_48 : DR cX0_fewest 48 (.aload_n 1) 1 := dk_43 (bA_sl (a := 0) (j := 48) bkX0_fewest_0 rfl)
theorem dX0_fewest_49 : DR cX0_fewest 49 (.getfield 28) 3 := dk_180 (bA_sl (a := 0) (j := 49) bkX0_fewest_0 rfl) (bA_sl (a := 0) (j := 50) bkX0_fewest_0 rfl) (bA_sl (a := 0) (j := 51) bkX0_fewest_0 rfl) (by decide) rfl
theorem dX0_fewest_52 : DR cX0_fewest 52 (.if_icmp .le 5) 3 := dk_164 (bA_sl (a := 0) (j := 52) bkX0_fewest_0 rfl) (bA_sl (a := 0) (j := 53) bkX0_fewest_0 rfl) (bA_sl (a := 0) (j := 54) bkX0_fewest_0 rfl) (by decide) (by decide)
theorem dX0_fewest_55 : DR cX0_fewest 55 (.iconst (-1)) 1 := dk_2 (bA_sl (a := 0) (j := 55) bkX0_fewest_0 rfl)
theorem dX0_fewest_56 : DR cX0_fewest 56 (.ireturn) 1 := dk_172 (bA_sl (a := 0) (j := 56) bkX0_fewest_0 rfl)
theorem dX0_fewest_57 : DR cX0_fewest 57 (.aload_n 0) 1 := dk_42 (bA_sl (a := 0) (j := 57) bkX0_fewest_0 rfl)
theorem dX0_fewest_58 : DR cX0_fewest 58 (.aload_n 1) 1 := dk_43 (bA_sl (a := 0) (j := 58) bkX0_fewest_0 rfl)
theorem dX0_fewest_59 : DR cX0_fewest 59 (.getfield 28) 3 := dk_180 (bA_sl (a := 0) (j := 59) bkX0_fewest_0 rfl) (bA_sl (a := 0) (j := 60) bkX0_fewest_0 rfl) (bA_sl (a := 0) (j := 61) bkX0_fewest_0 rfl) (by decide) rfl
theorem dX0_fewest_62 : DR cX0_fewest 62 (.iload_n 2) 1 := dk_28 (bA_sl (a := 0) (j := 62) bkX0_fewest_0 rfl)
theorem bkX0_fewest_1 : ((cX0_fewest.data.toList.drop 64).take 64).map UInt8.toNat = [4, 182, 0, 36, 172] := by decide +kernel
theorem dX0_fewest_63 : DR cX0_fewest 63 (.iload 4) 2 := dk_21 (bA_sl (a := 0) (j := 63) bkX0_fewest_0 rfl) (bA_sl (a := 64) (j := 0) bkX0_fewest_1 rfl) (by decide)
theorem dX0_fewest_65 : DR cX0_fewest 65 (.invokevirtual 36) 3 := dk_182 (bA_sl (a := 64) (j := 1) bkX0_fewest_1 rfl) (bA_sl (a := 64) (j := 2) bkX0_fewest_1 rfl) (bA_sl (a := 64) (j := 3) bkX0_fewest_1 rfl) (by decide) rfl
theorem dX0_fewest_68 : DR cX0_fewest 68 (.ireturn) 1 := dk_172 (bA_sl (a := 64) (j := 4) bkX0_fewest_1 rfl)
theorem bkX0_leastBits_0 : ((cX0_leastBits.data.toList.drop 0).take 64).map UInt8.toNat = [3, 54, 4, 28, 54, 5, 29, 54, 6, 27, 4, 100, 54, 7, 21, 7, 155, 0, 59, 42, 180, 0, 9, 42, 180, 0, 15, 21, 5, 4, 21, 7, 120, 4, 100, 21, 6, 184, 0, 32, 154, 0, 29, 21, 4, 4, 21, 7, 120, 128, 54, 4, 21, 5, 42, 180, 0, 9, 21, 7, 46, 2, 130, 126] := by decide +kernel
theorem dX0_leastBits_0 : DR cX0_leastBits 0 (.iconst 0) 1 := dk_3 (bA_sl (a := 0) (j := 0) bkX0_leastBits_0 rfl)
theorem dX0_leastBits_1 : DR cX0_leastBits 1 (.istore 4) 2 := dk_54 (bA_sl (a := 0) (j := 1) bkX0_leastBits_0 rfl) (bA_sl (a := 0) (j := 2) bkX0_leastBits_0 rfl) (by decide)
theorem dX0_leastBits_3 : DR cX0_leastBits 3 (.iload_n 2) 1 := dk_28 (bA_sl (a := 0) (j := 3) bkX0_leastBits_0 rfl)
theorem dX0_leastBits_4 : DR cX0_leastBits 4 (.istore 5) 2 := dk_54 (bA_sl (a := 0) (j := 4) bkX0_leastBits_0 rfl) (bA_sl (a := 0) (j := 5) bkX0_leastBits_0 rfl) (by decide)
theorem dX0_leastBits_6 : DR cX0_leastBits 6 (.iload_n 3) 1 := dk_29 (bA_sl (a := 0) (j := 6) bkX0_leastBits_0 rfl)
theorem dX0_leastBits_7 : DR cX0_leastBits 7 (.istore 6) 2 := dk_54 (bA_sl (a := 0) (j := 7) bkX0_leastBits_0 rfl) (bA_sl (a := 0) (j := 8) bkX0_leastBits_0 rfl) (by decide)
theorem dX0_leastBits_9 : DR cX0_leastBits 9 (.iload_n 1) 1 := dk_27 (bA_sl (a := 0) (j := 9) bkX0_leastBits_0 rfl)
theorem dX0_leastBits_10 : DR cX0_leastBits 10 (.iconst 1) 1 := dk_4 (bA_sl (a := 0) (j := 10) bkX0_leastBits_0 rfl)
theorem dX0_leastBits_11 : DR cX0_leastBits 11 (.isub) 1 := dk_100 (bA_sl (a := 0) (j := 11) bkX0_leastBits_0 rfl)
theorem dX0_leastBits_12 : DR cX0_leastBits 12 (.istore 7) 2 := dk_54 (bA_sl (a := 0) (j := 12) bkX0_leastBits_0 rfl) (bA_sl (a := 0) (j := 13) bkX0_leastBits_0 rfl) (by decide)
theorem dX0_leastBits_14 : DR cX0_leastBits 14 (.iload 7) 2 := dk_21 (bA_sl (a := 0) (j := 14) bkX0_leastBits_0 rfl) (bA_sl (a := 0) (j := 15) bkX0_leastBits_0 rfl) (by decide)
theorem dX0_leastBits_16 : DR cX0_leastBits 16 (.ifCond .lt 59) 3 := dk_155 (bA_sl (a := 0) (j := 16) bkX0_leastBits_0 rfl) (bA_sl (a := 0) (j := 17) bkX0_leastBits_0 rfl) (bA_sl (a := 0) (j := 18) bkX0_leastBits_0 rfl) (by decide) (by decide)
theorem dX0_leastBits_19 : DR cX0_leastBits 19 (.aload_n 0) 1 := dk_42 (bA_sl (a := 0) (j := 19) bkX0_leastBits_0 rfl)
theorem dX0_leastBits_20 : DR cX0_leastBits 20 (.getfield 9) 3 := dk_180 (bA_sl (a := 0) (j := 20) bkX0_leastBits_0 rfl) (bA_sl (a := 0) (j := 21) bkX0_leastBits_0 rfl) (bA_sl (a := 0) (j := 22) bkX0_leastBits_0 rfl) (by decide) rfl
theorem dX0_leastBits_23 : DR cX0_leastBits 23 (.aload_n 0) 1 := dk_42 (bA_sl (a := 0) (j := 23) bkX0_leastBits_0 rfl)
theorem dX0_leastBits_24 : DR cX0_leastBits 24 (.getfield 15) 3 := dk_180 (bA_sl (a := 0) (j := 24) bkX0_leastBits_0 rfl) (bA_sl (a := 0) (j := 25) bkX0_leastBits_0 rfl) (bA_sl (a := 0) (j := 26) bkX0_leastBits_0 rfl) (by decide) rfl
theorem dX0_leastBits_27 : DR cX0_leastBits 27 (.iload 5) 2 := dk_21 (bA_sl (a := 0) (j := 27) bkX0_leastBits_0 rfl) (bA_sl (a := 0) (j := 28) bkX0_leastBits_0 rfl) (by decide)
theorem dX0_leastBits_29 : DR cX0_leastBits 29 (.iconst 1) 1 := dk_4 (bA_sl (a := 0) (j := 29) bkX0_leastBits_0 rfl)
theorem dX0_leastBits_30 : DR cX0_leastBits 30 (.iload 7) 2 := dk_21 (bA_sl (a := 0) (j := 30) bkX0_leastBits_0 rfl) (bA_sl (a := 0) (j := 31) bkX0_leastBits_0 rfl) (by decide)
theorem dX0_leastBits_32 : DR cX0_leastBits 32 (.ishl) 1 := dk_120 (bA_sl (a := 0) (j := 32) bkX0_leastBits_0 rfl)
theorem dX0_leastBits_33 : DR cX0_leastBits 33 (.iconst 1) 1 := dk_4 (bA_sl (a := 0) (j := 33) bkX0_leastBits_0 rfl)
theorem dX0_leastBits_34 : DR cX0_leastBits 34 (.isub) 1 := dk_100 (bA_sl (a := 0) (j := 34) bkX0_leastBits_0 rfl)
theorem dX0_leastBits_35 : DR cX0_leastBits 35 (.iload 6) 2 := dk_21 (bA_sl (a := 0) (j := 35) bkX0_leastBits_0 rfl) (bA_sl (a := 0) (j := 36) bkX0_leastBits_0 rfl) (by decide)
theorem dX0_leastBits_37 : DR cX0_leastBits 37 (.invokestatic 32) 3 := dk_184 (bA_sl (a := 0) (j := 37) bkX0_leastBits_0 rfl) (bA_sl (a := 0) (j := 38) bkX0_leastBits_0 rfl) (bA_sl (a := 0) (j := 39) bkX0_leastBits_0 rfl) (by decide) rfl
theorem dX0_leastBits_40 : DR cX0_leastBits 40 (.ifCond .ne 29) 3 := dk_154 (bA_sl (a := 0) (j := 40) bkX0_leastBits_0 rfl) (bA_sl (a := 0) (j := 41) bkX0_leastBits_0 rfl) (bA_sl (a := 0) (j := 42) bkX0_leastBits_0 rfl) (by decide) (by decide)
theorem dX0_leastBits_43 : DR cX0_leastBits 43 (.iload 4) 2 := dk_21 (bA_sl (a := 0) (j := 43) bkX0_leastBits_0 rfl) (bA_sl (a := 0) (j := 44) bkX0_leastBits_0 rfl) (by decide)
theorem dX0_leastBits_45 : DR cX0_leastBits 45 (.iconst 1) 1 := dk_4 (bA_sl (a := 0) (j := 45) bkX0_leastBits_0 rfl)
theorem dX0_leastBits_46 : DR cX0_leastBits 46 (.iload 7) 2 := dk_21 (bA_sl (a := 0) (j := 46) bkX0_leastBits_0 rfl) (bA_sl (a := 0) (j := 47) bkX0_leastBits_0 rfl) (by decide)
theorem dX0_leastBits_48 : DR cX0_leastBits 48 (.ishl) 1 := dk_120 (bA_sl (a := 0) (j := 48) bkX0_leastBits_0 rfl)
theorem dX0_leastBits_49 : DR cX0_leastBits 49 (.ior) 1 := dk_128 (bA_sl (a := 0) (j := 49) bkX0_leastBits_0 rfl)
theorem dX0_leastBits_50 : DR cX0_leastBits 50 (.istore 4) 2 := dk_54 (bA_sl (a := 0) (j := 50) bkX0_leastBits_0 rfl) (bA_sl (a := 0) (j := 51) bkX0_leastBits_0 rfl) (by decide)
theorem dX0_leastBits_52 : DR cX0_leastBits 52 (.iload 5) 2 := dk_21 (bA_sl (a := 0) (j := 52) bkX0_leastBits_0 rfl) (bA_sl (a := 0) (j := 53) bkX0_leastBits_0 rfl) (by decide)
theorem dX0_leastBits_54 : DR cX0_leastBits 54 (.aload_n 0) 1 := dk_42 (bA_sl (a := 0) (j := 54) bkX0_leastBits_0 rfl)
theorem dX0_leastBits_55 : DR cX0_leastBits 55 (.getfield 9) 3 := dk_180 (bA_sl (a := 0) (j := 55) bkX0_leastBits_0 rfl) (bA_sl (a := 0) (j := 56) bkX0_leastBits_0 rfl) (bA_sl (a := 0) (j := 57) bkX0_leastBits_0 rfl) (by decide) rfl
theorem dX0_leastBits_58 : DR cX0_leastBits 58 (.iload 7) 2 := dk_21 (bA_sl (a := 0) (j := 58) bkX0_leastBits_0 rfl) (bA_sl (a := 0) (j := 59) bkX0_leastBits_0 rfl) (by decide)
theorem dX0_leastBits_60 : DR cX0_leastBits 60 (.iaload) 1 := dk_46 (bA_sl (a := 0) (j := 60) bkX0_leastBits_0 rfl)
theorem dX0_leastBits_61 : DR cX0_leastBits 61 (.iconst (-1)) 1 := dk_2 (bA_sl (a := 0) (j := 61) bkX0_leastBits_0 rfl)
theorem dX0_leastBits_62 : DR cX0_leastBits 62 (.ixor) 1 := dk_130 (bA_sl (a := 0) (j := 62) bkX0_leastBits_0 rfl)
theorem dX0_leastBits_63 : DR cX0_leastBits 63 (.iand) 1 := dk_126 (bA_sl (a := 0) (j := 63) bkX0_leastBits_0 rfl)
theorem bkX0_leastBits_1 : ((cX0_leastBits.data.toList.drop 64).take 64).map UInt8.toNat = [54, 5, 132, 6, 255, 132, 7, 255, 167, 255, 198, 21, 4, 172] := by decide +kernel
theorem dX0_leastBits_64 : DR cX0_leastBits 64 (.istore 5) 2 := dk_54 (bA_sl (a := 64) (j := 0) bkX0_leastBits_1 rfl) (bA_sl (a := 64) (j := 1) bkX0_leastBits_1 rfl) (by decide)
theorem dX0_leastBits_66 : DR cX0_leastBits 66 (.iinc 6 (-1)) 3 := dk_132 (bA_sl (a := 64) (j := 2) bkX0_leastBits_1 rfl) (bA_sl (a := 64) (j := 3) bkX0_leastBits_1 rfl) (bA_sl (a := 64) (j := 4) bkX0_leastBits_1 rfl) (by decide) (by decide)
theorem dX0_leastBits_69 : DR cX0_leastBits 69 (.iinc 7 (-1)) 3 := dk_132 (bA_sl (a := 64) (j := 5) bkX0_leastBits_1 rfl) (bA_sl (a := 64) (j := 6) bkX0_leastBits_1 rfl) (bA_sl (a := 64) (j := 7) bkX0_leastBits_1 rfl) (by decide) (by decide)
theorem dX0_leastBits_72 : DR cX0_leastBits 72 (.goto (-58)) 3 := dk_167 (bA_sl (a := 64) (j := 8) bkX0_leastBits_1 rfl) (bA_sl (a := 64) (j := 9) bkX0_leastBits_1 rfl) (bA_sl (a := 64) (j := 10) bkX0_leastBits_1 rfl) (by decide) (by decide)
theorem dX0_leastBits_75 : DR cX0_leastBits 75 (.iload 4) 2 := dk_21 (bA_sl (a := 64) (j := 11) bkX0_leastBits_1 rfl) (bA_sl (a := 64) (j := 12) bkX0_leastBits_1 rfl) (by decide)
theorem dX0_leastBits_77 : DR cX0_leastBits 77 (.ireturn) 1 := dk_172 (bA_sl (a := 64) (j := 13) bkX0_leastBits_1 rfl)
theorem bkX0_look_0 : ((cX0_look.data.toList.drop 0).take 64).map UInt8.toNat = [42, 180, 0, 15, 3, 184, 0, 40, 3, 61, 28, 43, 180, 0, 28, 162, 0, 57, 42, 180, 0, 9, 28, 43, 28, 182, 0, 46, 79, 3, 62, 29, 43, 180, 0, 28, 162, 0, 30, 42, 180, 0, 15, 29, 92, 46, 42, 180, 0, 9, 28, 46, 29, 122, 4, 126, 28, 120, 128, 79, 132, 3, 1, 167] := by decide +kernel
theorem dX0_look_0 : DR cX0_look 0 (.aload_n 0) 1 := dk_42 (bA_sl (a := 0) (j := 0) bkX0_look_0 rfl)
theorem dX0_look_1 : DR cX0_look 1 (.getfield 15) 3 := dk_180 (bA_sl (a := 0) (j := 1) bkX0_look_0 rfl) (bA_sl (a := 0) (j := 2) bkX0_look_0 rfl) (bA_sl (a := 0) (j := 3) bkX0_look_0 rfl) (by decide) rfl
theorem dX0_look_4 : DR cX0_look 4 (.iconst 0) 1 := dk_3 (bA_sl (a := 0) (j := 4) bkX0_look_0 rfl)
theorem dX0_look_5 : DR cX0_look 5 (.invokestatic 40) 3 := dk_184 (bA_sl (a := 0) (j := 5) bkX0_look_0 rfl) (bA_sl (a := 0) (j := 6) bkX0_look_0 rfl) (bA_sl (a := 0) (j := 7) bkX0_look_0 rfl) (by decide) rfl
theorem dX0_look_8 : DR cX0_look 8 (.iconst 0) 1 := dk_3 (bA_sl (a := 0) (j := 8) bkX0_look_0 rfl)
theorem dX0_look_9 : DR cX0_look 9 (.istore_n 2) 1 := dk_61 (bA_sl (a := 0) (j := 9) bkX0_look_0 rfl)
theorem dX0_look_10 : DR cX0_look 10 (.iload_n 2) 1 := dk_28 (bA_sl (a := 0) (j := 10) bkX0_look_0 rfl)
theorem dX0_look_11 : DR cX0_look 11 (.aload_n 1) 1 := dk_43 (bA_sl (a := 0) (j := 11) bkX0_look_0 rfl)
theorem dX0_look_12 : DR cX0_look 12 (.getfield 28) 3 := dk_180 (bA_sl (a := 0) (j := 12) bkX0_look_0 rfl) (bA_sl (a := 0) (j := 13) bkX0_look_0 rfl) (bA_sl (a := 0) (j := 14) bkX0_look_0 rfl) (by decide) rfl
theorem dX0_look_15 : DR cX0_look 15 (.if_icmp .ge 57) 3 := dk_162 (bA_sl (a := 0) (j := 15) bkX0_look_0 rfl) (bA_sl (a := 0) (j := 16) bkX0_look_0 rfl) (bA_sl (a := 0) (j := 17) bkX0_look_0 rfl) (by decide) (by decide)
theorem dX0_look_18 : DR cX0_look 18 (.aload_n 0) 1 := dk_42 (bA_sl (a := 0) (j := 18) bkX0_look_0 rfl)
theorem dX0_look_19 : DR cX0_look 19 (.getfield 9) 3 := dk_180 (bA_sl (a := 0) (j := 19) bkX0_look_0 rfl) (bA_sl (a := 0) (j := 20) bkX0_look_0 rfl) (bA_sl (a := 0) (j := 21) bkX0_look_0 rfl) (by decide) rfl
theorem dX0_look_22 : DR cX0_look 22 (.iload_n 2) 1 := dk_28 (bA_sl (a := 0) (j := 22) bkX0_look_0 rfl)
theorem dX0_look_23 : DR cX0_look 23 (.aload_n 1) 1 := dk_43 (bA_sl (a := 0) (j := 23) bkX0_look_0 rfl)
theorem dX0_look_24 : DR cX0_look 24 (.iload_n 2) 1 := dk_28 (bA_sl (a := 0) (j := 24) bkX0_look_0 rfl)
theorem dX0_look_25 : DR cX0_look 25 (.invokevirtual 46) 3 := dk_182 (bA_sl (a := 0) (j := 25) bkX0_look_0 rfl) (bA_sl (a := 0) (j := 26) bkX0_look_0 rfl) (bA_sl (a := 0) (j := 27) bkX0_look_0 rfl) (by decide) rfl
theorem dX0_look_28 : DR cX0_look 28 (.iastore) 1 := dk_79 (bA_sl (a := 0) (j := 28) bkX0_look_0 rfl)
theorem dX0_look_29 : DR cX0_look 29 (.iconst 0) 1 := dk_3 (bA_sl (a := 0) (j := 29) bkX0_look_0 rfl)
theorem dX0_look_30 : DR cX0_look 30 (.istore_n 3) 1 := dk_62 (bA_sl (a := 0) (j := 30) bkX0_look_0 rfl)
theorem dX0_look_31 : DR cX0_look 31 (.iload_n 3) 1 := dk_29 (bA_sl (a := 0) (j := 31) bkX0_look_0 rfl)
theorem dX0_look_32 : DR cX0_look 32 (.aload_n 1) 1 := dk_43 (bA_sl (a := 0) (j := 32) bkX0_look_0 rfl)
theorem dX0_look_33 : DR cX0_look 33 (.getfield 28) 3 := dk_180 (bA_sl (a := 0) (j := 33) bkX0_look_0 rfl) (bA_sl (a := 0) (j := 34) bkX0_look_0 rfl) (bA_sl (a := 0) (j := 35) bkX0_look_0 rfl) (by decide) rfl
theorem dX0_look_36 : DR cX0_look 36 (.if_icmp .ge 30) 3 := dk_162 (bA_sl (a := 0) (j := 36) bkX0_look_0 rfl) (bA_sl (a := 0) (j := 37) bkX0_look_0 rfl) (bA_sl (a := 0) (j := 38) bkX0_look_0 rfl) (by decide) (by decide)
theorem dX0_look_39 : DR cX0_look 39 (.aload_n 0) 1 := dk_42 (bA_sl (a := 0) (j := 39) bkX0_look_0 rfl)
theorem dX0_look_40 : DR cX0_look 40 (.getfield 15) 3 := dk_180 (bA_sl (a := 0) (j := 40) bkX0_look_0 rfl) (bA_sl (a := 0) (j := 41) bkX0_look_0 rfl) (bA_sl (a := 0) (j := 42) bkX0_look_0 rfl) (by decide) rfl
theorem dX0_look_43 : DR cX0_look 43 (.iload_n 3) 1 := dk_29 (bA_sl (a := 0) (j := 43) bkX0_look_0 rfl)
theorem dX0_look_44 : DR cX0_look 44 (.dup2) 1 := dk_92 (bA_sl (a := 0) (j := 44) bkX0_look_0 rfl)
theorem dX0_look_45 : DR cX0_look 45 (.iaload) 1 := dk_46 (bA_sl (a := 0) (j := 45) bkX0_look_0 rfl)
theorem dX0_look_46 : DR cX0_look 46 (.aload_n 0) 1 := dk_42 (bA_sl (a := 0) (j := 46) bkX0_look_0 rfl)
theorem dX0_look_47 : DR cX0_look 47 (.getfield 9) 3 := dk_180 (bA_sl (a := 0) (j := 47) bkX0_look_0 rfl) (bA_sl (a := 0) (j := 48) bkX0_look_0 rfl) (bA_sl (a := 0) (j := 49) bkX0_look_0 rfl) (by decide) rfl
theorem dX0_look_50 : DR cX0_look 50 (.iload_n 2) 1 := dk_28 (bA_sl (a := 0) (j := 50) bkX0_look_0 rfl)
theorem dX0_look_51 : DR cX0_look 51 (.iaload) 1 := dk_46 (bA_sl (a := 0) (j := 51) bkX0_look_0 rfl)
theorem dX0_look_52 : DR cX0_look 52 (.iload_n 3) 1 := dk_29 (bA_sl (a := 0) (j := 52) bkX0_look_0 rfl)
theorem dX0_look_53 : DR cX0_look 53 (.ishr) 1 := dk_122 (bA_sl (a := 0) (j := 53) bkX0_look_0 rfl)
theorem dX0_look_54 : DR cX0_look 54 (.iconst 1) 1 := dk_4 (bA_sl (a := 0) (j := 54) bkX0_look_0 rfl)
theorem dX0_look_55 : DR cX0_look 55 (.iand) 1 := dk_126 (bA_sl (a := 0) (j := 55) bkX0_look_0 rfl)
theorem dX0_look_56 : DR cX0_look 56 (.iload_n 2) 1 := dk_28 (bA_sl (a := 0) (j := 56) bkX0_look_0 rfl)
theorem dX0_look_57 : DR cX0_look 57 (.ishl) 1 := dk_120 (bA_sl (a := 0) (j := 57) bkX0_look_0 rfl)
theorem dX0_look_58 : DR cX0_look 58 (.ior) 1 := dk_128 (bA_sl (a := 0) (j := 58) bkX0_look_0 rfl)
theorem dX0_look_59 : DR cX0_look 59 (.iastore) 1 := dk_79 (bA_sl (a := 0) (j := 59) bkX0_look_0 rfl)
theorem dX0_look_60 : DR cX0_look 60 (.iinc 3 1) 3 := dk_132 (bA_sl (a := 0) (j := 60) bkX0_look_0 rfl) (bA_sl (a := 0) (j := 61) bkX0_look_0 rfl) (bA_sl (a := 0) (j := 62) bkX0_look_0 rfl) (by decide) (by decide)
theorem bkX0_look_1 : ((cX0_look.data.toList.drop 64).take 64).map UInt8.toNat = [255, 224, 132, 2, 1, 167, 255, 197, 177] := by decide +kernel
theorem dX0_look_63 : DR cX0_look 63 (.goto (-32)) 3 := dk_167 (bA_sl (a := 0) (j := 63) bkX0_look_0 rfl) (bA_sl (a := 64) (j := 0) bkX0_look_1 rfl) (bA_sl (a := 64) (j := 1) bkX0_look_1 rfl) (by decide) (by decide)
theorem dX0_look_66 : DR cX0_look 66 (.iinc 2 1) 3 := dk_132 (bA_sl (a := 64) (j := 2) bkX0_look_1 rfl) (bA_sl (a := 64) (j := 3) bkX0_look_1 rfl) (bA_sl (a := 64) (j := 4) bkX0_look_1 rfl) (by decide) (by decide)
theorem dX0_look_69 : DR cX0_look 69 (.goto (-59)) 3 := dk_167 (bA_sl (a := 64) (j := 5) bkX0_look_1 rfl) (bA_sl (a := 64) (j := 6) bkX0_look_1 rfl) (bA_sl (a := 64) (j := 7) bkX0_look_1 rfl) (by decide) (by decide)
theorem dX0_look_72 : DR cX0_look 72 (.return_) 1 := dk_177 (bA_sl (a := 64) (j := 8) bkX0_look_1 rfl)
theorem bkX0_canLight_0 : ((cX0_canLight.data.toList.drop 0).take 64).map UInt8.toNat = [28, 154, 0, 5, 4, 172, 28, 184, 0, 49, 54, 5, 21, 4, 158, 0, 10, 21, 5, 16, 16, 161, 0, 5, 3, 172, 43, 21, 5, 46, 29, 126, 54, 6, 3, 54, 7, 21, 7, 16, 16, 162, 0, 42, 21, 6, 21, 7, 122, 4, 126, 153, 0, 26, 42, 43, 28, 42, 21, 7, 46, 2, 130, 126] := by decide +kernel
theorem dX0_canLight_0 : DR cX0_canLight 0 (.iload_n 2) 1 := dk_28 (bA_sl (a := 0) (j := 0) bkX0_canLight_0 rfl)
theorem dX0_canLight_1 : DR cX0_canLight 1 (.ifCond .ne 5) 3 := dk_154 (bA_sl (a := 0) (j := 1) bkX0_canLight_0 rfl) (bA_sl (a := 0) (j := 2) bkX0_canLight_0 rfl) (bA_sl (a := 0) (j := 3) bkX0_canLight_0 rfl) (by decide) (by decide)
theorem dX0_canLight_4 : DR cX0_canLight 4 (.iconst 1) 1 := dk_4 (bA_sl (a := 0) (j := 4) bkX0_canLight_0 rfl)
theorem dX0_canLight_5 : DR cX0_canLight 5 (.ireturn) 1 := dk_172 (bA_sl (a := 0) (j := 5) bkX0_canLight_0 rfl)
theorem dX0_canLight_6 : DR cX0_canLight 6 (.iload_n 2) 1 := dk_28 (bA_sl (a := 0) (j := 6) bkX0_canLight_0 rfl)
theorem dX0_canLight_7 : DR cX0_canLight 7 (.invokestatic 49) 3 := dk_184 (bA_sl (a := 0) (j := 7) bkX0_canLight_0 rfl) (bA_sl (a := 0) (j := 8) bkX0_canLight_0 rfl) (bA_sl (a := 0) (j := 9) bkX0_canLight_0 rfl) (by decide) rfl
theorem dX0_canLight_10 : DR cX0_canLight 10 (.istore 5) 2 := dk_54 (bA_sl (a := 0) (j := 10) bkX0_canLight_0 rfl) (bA_sl (a := 0) (j := 11) bkX0_canLight_0 rfl) (by decide)
theorem dX0_canLight_12 : DR cX0_canLight 12 (.iload 4) 2 := dk_21 (bA_sl (a := 0) (j := 12) bkX0_canLight_0 rfl) (bA_sl (a := 0) (j := 13) bkX0_canLight_0 rfl) (by decide)
theorem dX0_canLight_14 : DR cX0_canLight 14 (.ifCond .le 10) 3 := dk_158 (bA_sl (a := 0) (j := 14) bkX0_canLight_0 rfl) (bA_sl (a := 0) (j := 15) bkX0_canLight_0 rfl) (bA_sl (a := 0) (j := 16) bkX0_canLight_0 rfl) (by decide) (by decide)
theorem dX0_canLight_17 : DR cX0_canLight 17 (.iload 5) 2 := dk_21 (bA_sl (a := 0) (j := 17) bkX0_canLight_0 rfl) (bA_sl (a := 0) (j := 18) bkX0_canLight_0 rfl) (by decide)
theorem dX0_canLight_19 : DR cX0_canLight 19 (.bipush 16) 2 := dk_16 (bA_sl (a := 0) (j := 19) bkX0_canLight_0 rfl) (bA_sl (a := 0) (j := 20) bkX0_canLight_0 rfl) (by decide) (by decide)
theorem dX0_canLight_21 : DR cX0_canLight 21 (.if_icmp .lt 5) 3 := dk_161 (bA_sl (a := 0) (j := 21) bkX0_canLight_0 rfl) (bA_sl (a := 0) (j := 22) bkX0_canLight_0 rfl) (bA_sl (a := 0) (j := 23) bkX0_canLight_0 rfl) (by decide) (by decide)
theorem dX0_canLight_24 : DR cX0_canLight 24 (.iconst 0) 1 := dk_3 (bA_sl (a := 0) (j := 24) bkX0_canLight_0 rfl)
theorem dX0_canLight_25 : DR cX0_canLight 25 (.ireturn) 1 := dk_172 (bA_sl (a := 0) (j := 25) bkX0_canLight_0 rfl)
theorem dX0_canLight_26 : DR cX0_canLight 26 (.aload_n 1) 1 := dk_43 (bA_sl (a := 0) (j := 26) bkX0_canLight_0 rfl)
theorem dX0_canLight_27 : DR cX0_canLight 27 (.iload 5) 2 := dk_21 (bA_sl (a := 0) (j := 27) bkX0_canLight_0 rfl) (bA_sl (a := 0) (j := 28) bkX0_canLight_0 rfl) (by decide)
theorem dX0_canLight_29 : DR cX0_canLight 29 (.iaload) 1 := dk_46 (bA_sl (a := 0) (j := 29) bkX0_canLight_0 rfl)
theorem dX0_canLight_30 : DR cX0_canLight 30 (.iload_n 3) 1 := dk_29 (bA_sl (a := 0) (j := 30) bkX0_canLight_0 rfl)
theorem dX0_canLight_31 : DR cX0_canLight 31 (.iand) 1 := dk_126 (bA_sl (a := 0) (j := 31) bkX0_canLight_0 rfl)
theorem dX0_canLight_32 : DR cX0_canLight 32 (.istore 6) 2 := dk_54 (bA_sl (a := 0) (j := 32) bkX0_canLight_0 rfl) (bA_sl (a := 0) (j := 33) bkX0_canLight_0 rfl) (by decide)
theorem dX0_canLight_34 : DR cX0_canLight 34 (.iconst 0) 1 := dk_3 (bA_sl (a := 0) (j := 34) bkX0_canLight_0 rfl)
theorem dX0_canLight_35 : DR cX0_canLight 35 (.istore 7) 2 := dk_54 (bA_sl (a := 0) (j := 35) bkX0_canLight_0 rfl) (bA_sl (a := 0) (j := 36) bkX0_canLight_0 rfl) (by decide)
theorem dX0_canLight_37 : DR cX0_canLight 37 (.iload 7) 2 := dk_21 (bA_sl (a := 0) (j := 37) bkX0_canLight_0 rfl) (bA_sl (a := 0) (j := 38) bkX0_canLight_0 rfl) (by decide)
theorem dX0_canLight_39 : DR cX0_canLight 39 (.bipush 16) 2 := dk_16 (bA_sl (a := 0) (j := 39) bkX0_canLight_0 rfl) (bA_sl (a := 0) (j := 40) bkX0_canLight_0 rfl) (by decide) (by decide)
theorem dX0_canLight_41 : DR cX0_canLight 41 (.if_icmp .ge 42) 3 := dk_162 (bA_sl (a := 0) (j := 41) bkX0_canLight_0 rfl) (bA_sl (a := 0) (j := 42) bkX0_canLight_0 rfl) (bA_sl (a := 0) (j := 43) bkX0_canLight_0 rfl) (by decide) (by decide)
theorem dX0_canLight_44 : DR cX0_canLight 44 (.iload 6) 2 := dk_21 (bA_sl (a := 0) (j := 44) bkX0_canLight_0 rfl) (bA_sl (a := 0) (j := 45) bkX0_canLight_0 rfl) (by decide)
theorem dX0_canLight_46 : DR cX0_canLight 46 (.iload 7) 2 := dk_21 (bA_sl (a := 0) (j := 46) bkX0_canLight_0 rfl) (bA_sl (a := 0) (j := 47) bkX0_canLight_0 rfl) (by decide)
theorem dX0_canLight_48 : DR cX0_canLight 48 (.ishr) 1 := dk_122 (bA_sl (a := 0) (j := 48) bkX0_canLight_0 rfl)
theorem dX0_canLight_49 : DR cX0_canLight 49 (.iconst 1) 1 := dk_4 (bA_sl (a := 0) (j := 49) bkX0_canLight_0 rfl)
theorem dX0_canLight_50 : DR cX0_canLight 50 (.iand) 1 := dk_126 (bA_sl (a := 0) (j := 50) bkX0_canLight_0 rfl)
theorem dX0_canLight_51 : DR cX0_canLight 51 (.ifCond .eq 26) 3 := dk_153 (bA_sl (a := 0) (j := 51) bkX0_canLight_0 rfl) (bA_sl (a := 0) (j := 52) bkX0_canLight_0 rfl) (bA_sl (a := 0) (j := 53) bkX0_canLight_0 rfl) (by decide) (by decide)
theorem dX0_canLight_54 : DR cX0_canLight 54 (.aload_n 0) 1 := dk_42 (bA_sl (a := 0) (j := 54) bkX0_canLight_0 rfl)
theorem dX0_canLight_55 : DR cX0_canLight 55 (.aload_n 1) 1 := dk_43 (bA_sl (a := 0) (j := 55) bkX0_canLight_0 rfl)
theorem dX0_canLight_56 : DR cX0_canLight 56 (.iload_n 2) 1 := dk_28 (bA_sl (a := 0) (j := 56) bkX0_canLight_0 rfl)
theorem dX0_canLight_57 : DR cX0_canLight 57 (.aload_n 0) 1 := dk_42 (bA_sl (a := 0) (j := 57) bkX0_canLight_0 rfl)
theorem dX0_canLight_58 : DR cX0_canLight 58 (.iload 7) 2 := dk_21 (bA_sl (a := 0) (j := 58) bkX0_canLight_0 rfl) (bA_sl (a := 0) (j := 59) bkX0_canLight_0 rfl) (by decide)
theorem dX0_canLight_60 : DR cX0_canLight 60 (.iaload) 1 := dk_46 (bA_sl (a := 0) (j := 60) bkX0_canLight_0 rfl)
theorem dX0_canLight_61 : DR cX0_canLight 61 (.iconst (-1)) 1 := dk_2 (bA_sl (a := 0) (j := 61) bkX0_canLight_0 rfl)
theorem dX0_canLight_62 : DR cX0_canLight 62 (.ixor) 1 := dk_130 (bA_sl (a := 0) (j := 62) bkX0_canLight_0 rfl)
theorem dX0_canLight_63 : DR cX0_canLight 63 (.iand) 1 := dk_126 (bA_sl (a := 0) (j := 63) bkX0_canLight_0 rfl)
theorem bkX0_canLight_1 : ((cX0_canLight.data.toList.drop 64).take 64).map UInt8.toNat = [29, 21, 4, 4, 100, 184, 0, 32, 153, 0, 5, 4, 172, 132, 7, 1, 167, 255, 213, 3, 172] := by decide +kernel
theorem dX0_canLight_64 : DR cX0_canLight 64 (.iload_n 3) 1 := dk_29 (bA_sl (a := 64) (j := 0) bkX0_canLight_1 rfl)
theorem dX0_canLight_65 : DR cX0_canLight 65 (.iload 4) 2 := dk_21 (bA_sl (a := 64) (j := 1) bkX0_canLight_1 rfl) (bA_sl (a := 64) (j := 2) bkX0_canLight_1 rfl) (by decide)
theorem dX0_canLight_67 : DR cX0_canLight 67 (.iconst 1) 1 := dk_4 (bA_sl (a := 64) (j := 3) bkX0_canLight_1 rfl)
theorem dX0_canLight_68 : DR cX0_canLight 68 (.isub) 1 := dk_100 (bA_sl (a := 64) (j := 4) bkX0_canLight_1 rfl)
theorem dX0_canLight_69 : DR cX0_canLight 69 (.invokestatic 32) 3 := dk_184 (bA_sl (a := 64) (j := 5) bkX0_canLight_1 rfl) (bA_sl (a := 64) (j := 6) bkX0_canLight_1 rfl) (bA_sl (a := 64) (j := 7) bkX0_canLight_1 rfl) (by decide) rfl
theorem dX0_canLight_72 : DR cX0_canLight 72 (.ifCond .eq 5) 3 := dk_153 (bA_sl (a := 64) (j := 8) bkX0_canLight_1 rfl) (bA_sl (a := 64) (j := 9) bkX0_canLight_1 rfl) (bA_sl (a := 64) (j := 10) bkX0_canLight_1 rfl) (by decide) (by decide)
theorem dX0_canLight_75 : DR cX0_canLight 75 (.iconst 1) 1 := dk_4 (bA_sl (a := 64) (j := 11) bkX0_canLight_1 rfl)
theorem dX0_canLight_76 : DR cX0_canLight 76 (.ireturn) 1 := dk_172 (bA_sl (a := 64) (j := 12) bkX0_canLight_1 rfl)
theorem dX0_canLight_77 : DR cX0_canLight 77 (.iinc 7 1) 3 := dk_132 (bA_sl (a := 64) (j := 13) bkX0_canLight_1 rfl) (bA_sl (a := 64) (j := 14) bkX0_canLight_1 rfl) (bA_sl (a := 64) (j := 15) bkX0_canLight_1 rfl) (by decide) (by decide)
theorem dX0_canLight_80 : DR cX0_canLight 80 (.goto (-43)) 3 := dk_167 (bA_sl (a := 64) (j := 16) bkX0_canLight_1 rfl) (bA_sl (a := 64) (j := 17) bkX0_canLight_1 rfl) (bA_sl (a := 64) (j := 18) bkX0_canLight_1 rfl) (by decide) (by decide)
theorem dX0_canLight_83 : DR cX0_canLight 83 (.iconst 0) 1 := dk_3 (bA_sl (a := 64) (j := 19) bkX0_canLight_1 rfl)
theorem dX0_canLight_84 : DR cX0_canLight 84 (.ireturn) 1 := dk_172 (bA_sl (a := 64) (j := 20) bkX0_canLight_1 rfl)
theorem bkX1_init_0 : ((cX1_init.data.toList.drop 0).take 64).map UInt8.toNat = [42, 183, 0, 3, 42, 17, 0, 176, 188, 11, 181, 0, 11, 42, 17, 0, 176, 188, 11, 181, 0, 15, 42, 3, 181, 0, 18, 42, 3, 181, 0, 22, 42, 3, 181, 0, 25, 177] := by decide +kernel
theorem dX1_init_0 : DR cX1_init 0 (.aload_n 0) 1 := dk_42 (bA_sl (a := 0) (j := 0) bkX1_init_0 rfl)
theorem dX1_init_1 : DR cX1_init 1 (.invokespecial 3) 3 := dk_183 (bA_sl (a := 0) (j := 1) bkX1_init_0 rfl) (bA_sl (a := 0) (j := 2) bkX1_init_0 rfl) (bA_sl (a := 0) (j := 3) bkX1_init_0 rfl) (by decide) rfl
theorem dX1_init_4 : DR cX1_init 4 (.aload_n 0) 1 := dk_42 (bA_sl (a := 0) (j := 4) bkX1_init_0 rfl)
theorem dX1_init_5 : DR cX1_init 5 (.sipush 176) 3 := dk_17 (bA_sl (a := 0) (j := 5) bkX1_init_0 rfl) (bA_sl (a := 0) (j := 6) bkX1_init_0 rfl) (bA_sl (a := 0) (j := 7) bkX1_init_0 rfl) (by decide) (by decide)
theorem dX1_init_8 : decode cX1_init 8 = .ok (.newarray .long, 2) := by decide +kernel
theorem dX1_init_10 : DR cX1_init 10 (.putfield 11) 3 := dk_181 (bA_sl (a := 0) (j := 10) bkX1_init_0 rfl) (bA_sl (a := 0) (j := 11) bkX1_init_0 rfl) (bA_sl (a := 0) (j := 12) bkX1_init_0 rfl) (by decide) rfl
theorem dX1_init_13 : DR cX1_init 13 (.aload_n 0) 1 := dk_42 (bA_sl (a := 0) (j := 13) bkX1_init_0 rfl)
theorem dX1_init_14 : DR cX1_init 14 (.sipush 176) 3 := dk_17 (bA_sl (a := 0) (j := 14) bkX1_init_0 rfl) (bA_sl (a := 0) (j := 15) bkX1_init_0 rfl) (bA_sl (a := 0) (j := 16) bkX1_init_0 rfl) (by decide) (by decide)
theorem dX1_init_17 : decode cX1_init 17 = .ok (.newarray .long, 2) := by decide +kernel
theorem dX1_init_19 : DR cX1_init 19 (.putfield 15) 3 := dk_181 (bA_sl (a := 0) (j := 19) bkX1_init_0 rfl) (bA_sl (a := 0) (j := 20) bkX1_init_0 rfl) (bA_sl (a := 0) (j := 21) bkX1_init_0 rfl) (by decide) rfl
theorem dX1_init_22 : DR cX1_init 22 (.aload_n 0) 1 := dk_42 (bA_sl (a := 0) (j := 22) bkX1_init_0 rfl)
theorem dX1_init_23 : DR cX1_init 23 (.iconst 0) 1 := dk_3 (bA_sl (a := 0) (j := 23) bkX1_init_0 rfl)
theorem dX1_init_24 : DR cX1_init 24 (.putfield 18) 3 := dk_181 (bA_sl (a := 0) (j := 24) bkX1_init_0 rfl) (bA_sl (a := 0) (j := 25) bkX1_init_0 rfl) (bA_sl (a := 0) (j := 26) bkX1_init_0 rfl) (by decide) rfl
theorem dX1_init_27 : DR cX1_init 27 (.aload_n 0) 1 := dk_42 (bA_sl (a := 0) (j := 27) bkX1_init_0 rfl)
theorem dX1_init_28 : DR cX1_init 28 (.iconst 0) 1 := dk_3 (bA_sl (a := 0) (j := 28) bkX1_init_0 rfl)
theorem dX1_init_29 : DR cX1_init 29 (.putfield 22) 3 := dk_181 (bA_sl (a := 0) (j := 29) bkX1_init_0 rfl) (bA_sl (a := 0) (j := 30) bkX1_init_0 rfl) (bA_sl (a := 0) (j := 31) bkX1_init_0 rfl) (by decide) rfl
theorem dX1_init_32 : DR cX1_init 32 (.aload_n 0) 1 := dk_42 (bA_sl (a := 0) (j := 32) bkX1_init_0 rfl)
theorem dX1_init_33 : DR cX1_init 33 (.iconst 0) 1 := dk_3 (bA_sl (a := 0) (j := 33) bkX1_init_0 rfl)
theorem dX1_init_34 : DR cX1_init 34 (.putfield 25) 3 := dk_181 (bA_sl (a := 0) (j := 34) bkX1_init_0 rfl) (bA_sl (a := 0) (j := 35) bkX1_init_0 rfl) (bA_sl (a := 0) (j := 36) bkX1_init_0 rfl) (by decide) rfl
theorem dX1_init_37 : DR cX1_init 37 (.return_) 1 := dk_177 (bA_sl (a := 0) (j := 37) bkX1_init_0 rfl)
theorem bkX1_countUnlike_0 : ((cX1_countUnlike.data.toList.drop 0).take 64).map UInt8.toNat = [42, 3, 181, 0, 18, 44, 29, 182, 0, 28, 54, 4, 44, 29, 182, 0, 34, 54, 5, 21, 5, 21, 4, 162, 0, 45, 44, 180, 0, 37, 21, 5, 51, 154, 0, 29, 43, 44, 180, 0, 41, 21, 5, 47, 182, 0, 44, 42, 43, 3, 184, 0, 50, 43, 16, 8, 184, 0, 50, 182, 0, 54, 132, 5] := by decide +kernel
theorem dX1_countUnlike_0 : DR cX1_countUnlike 0 (.aload_n 0) 1 := dk_42 (bA_sl (a := 0) (j := 0) bkX1_countUnlike_0 rfl)
theorem dX1_countUnlike_1 : DR cX1_countUnlike 1 (.iconst 0) 1 := dk_3 (bA_sl (a := 0) (j := 1) bkX1_countUnlike_0 rfl)
theorem dX1_countUnlike_2 : DR cX1_countUnlike 2 (.putfield 18) 3 := dk_181 (bA_sl (a := 0) (j := 2) bkX1_countUnlike_0 rfl) (bA_sl (a := 0) (j := 3) bkX1_countUnlike_0 rfl) (bA_sl (a := 0) (j := 4) bkX1_countUnlike_0 rfl) (by decide) rfl
theorem dX1_countUnlike_5 : DR cX1_countUnlike 5 (.aload_n 2) 1 := dk_44 (bA_sl (a := 0) (j := 5) bkX1_countUnlike_0 rfl)
theorem dX1_countUnlike_6 : DR cX1_countUnlike 6 (.iload_n 3) 1 := dk_29 (bA_sl (a := 0) (j := 6) bkX1_countUnlike_0 rfl)
theorem dX1_countUnlike_7 : DR cX1_countUnlike 7 (.invokevirtual 28) 3 := dk_182 (bA_sl (a := 0) (j := 7) bkX1_countUnlike_0 rfl) (bA_sl (a := 0) (j := 8) bkX1_countUnlike_0 rfl) (bA_sl (a := 0) (j := 9) bkX1_countUnlike_0 rfl) (by decide) rfl
theorem dX1_countUnlike_10 : DR cX1_countUnlike 10 (.istore 4) 2 := dk_54 (bA_sl (a := 0) (j := 10) bkX1_countUnlike_0 rfl) (bA_sl (a := 0) (j := 11) bkX1_countUnlike_0 rfl) (by decide)
theorem dX1_countUnlike_12 : DR cX1_countUnlike 12 (.aload_n 2) 1 := dk_44 (bA_sl (a := 0) (j := 12) bkX1_countUnlike_0 rfl)
theorem dX1_countUnlike_13 : DR cX1_countUnlike 13 (.iload_n 3) 1 := dk_29 (bA_sl (a := 0) (j := 13) bkX1_countUnlike_0 rfl)
theorem dX1_countUnlike_14 : DR cX1_countUnlike 14 (.invokevirtual 34) 3 := dk_182 (bA_sl (a := 0) (j := 14) bkX1_countUnlike_0 rfl) (bA_sl (a := 0) (j := 15) bkX1_countUnlike_0 rfl) (bA_sl (a := 0) (j := 16) bkX1_countUnlike_0 rfl) (by decide) rfl
theorem dX1_countUnlike_17 : DR cX1_countUnlike 17 (.istore 5) 2 := dk_54 (bA_sl (a := 0) (j := 17) bkX1_countUnlike_0 rfl) (bA_sl (a := 0) (j := 18) bkX1_countUnlike_0 rfl) (by decide)
theorem dX1_countUnlike_19 : DR cX1_countUnlike 19 (.iload 5) 2 := dk_21 (bA_sl (a := 0) (j := 19) bkX1_countUnlike_0 rfl) (bA_sl (a := 0) (j := 20) bkX1_countUnlike_0 rfl) (by decide)
theorem dX1_countUnlike_21 : DR cX1_countUnlike 21 (.iload 4) 2 := dk_21 (bA_sl (a := 0) (j := 21) bkX1_countUnlike_0 rfl) (bA_sl (a := 0) (j := 22) bkX1_countUnlike_0 rfl) (by decide)
theorem dX1_countUnlike_23 : DR cX1_countUnlike 23 (.if_icmp .ge 45) 3 := dk_162 (bA_sl (a := 0) (j := 23) bkX1_countUnlike_0 rfl) (bA_sl (a := 0) (j := 24) bkX1_countUnlike_0 rfl) (bA_sl (a := 0) (j := 25) bkX1_countUnlike_0 rfl) (by decide) (by decide)
theorem dX1_countUnlike_26 : DR cX1_countUnlike 26 (.aload_n 2) 1 := dk_44 (bA_sl (a := 0) (j := 26) bkX1_countUnlike_0 rfl)
theorem dX1_countUnlike_27 : DR cX1_countUnlike 27 (.getfield 37) 3 := dk_180 (bA_sl (a := 0) (j := 27) bkX1_countUnlike_0 rfl) (bA_sl (a := 0) (j := 28) bkX1_countUnlike_0 rfl) (bA_sl (a := 0) (j := 29) bkX1_countUnlike_0 rfl) (by decide) rfl
theorem dX1_countUnlike_30 : DR cX1_countUnlike 30 (.iload 5) 2 := dk_21 (bA_sl (a := 0) (j := 30) bkX1_countUnlike_0 rfl) (bA_sl (a := 0) (j := 31) bkX1_countUnlike_0 rfl) (by decide)
theorem dX1_countUnlike_32 : DR cX1_countUnlike 32 (.baload) 1 := dk_51 (bA_sl (a := 0) (j := 32) bkX1_countUnlike_0 rfl)
theorem dX1_countUnlike_33 : DR cX1_countUnlike 33 (.ifCond .ne 29) 3 := dk_154 (bA_sl (a := 0) (j := 33) bkX1_countUnlike_0 rfl) (bA_sl (a := 0) (j := 34) bkX1_countUnlike_0 rfl) (bA_sl (a := 0) (j := 35) bkX1_countUnlike_0 rfl) (by decide) (by decide)
theorem dX1_countUnlike_36 : DR cX1_countUnlike 36 (.aload_n 1) 1 := dk_43 (bA_sl (a := 0) (j := 36) bkX1_countUnlike_0 rfl)
theorem dX1_countUnlike_37 : DR cX1_countUnlike 37 (.aload_n 2) 1 := dk_44 (bA_sl (a := 0) (j := 37) bkX1_countUnlike_0 rfl)
theorem dX1_countUnlike_38 : DR cX1_countUnlike 38 (.getfield 41) 3 := dk_180 (bA_sl (a := 0) (j := 38) bkX1_countUnlike_0 rfl) (bA_sl (a := 0) (j := 39) bkX1_countUnlike_0 rfl) (bA_sl (a := 0) (j := 40) bkX1_countUnlike_0 rfl) (by decide) rfl
theorem dX1_countUnlike_41 : DR cX1_countUnlike 41 (.iload 5) 2 := dk_21 (bA_sl (a := 0) (j := 41) bkX1_countUnlike_0 rfl) (bA_sl (a := 0) (j := 42) bkX1_countUnlike_0 rfl) (by decide)
theorem dX1_countUnlike_43 : DR cX1_countUnlike 43 (.laload) 1 := dk_47 (bA_sl (a := 0) (j := 43) bkX1_countUnlike_0 rfl)
theorem dX1_countUnlike_44 : DR cX1_countUnlike 44 (.invokevirtual 44) 3 := dk_182 (bA_sl (a := 0) (j := 44) bkX1_countUnlike_0 rfl) (bA_sl (a := 0) (j := 45) bkX1_countUnlike_0 rfl) (bA_sl (a := 0) (j := 46) bkX1_countUnlike_0 rfl) (by decide) rfl
theorem dX1_countUnlike_47 : DR cX1_countUnlike 47 (.aload_n 0) 1 := dk_42 (bA_sl (a := 0) (j := 47) bkX1_countUnlike_0 rfl)
theorem dX1_countUnlike_48 : DR cX1_countUnlike 48 (.aload_n 1) 1 := dk_43 (bA_sl (a := 0) (j := 48) bkX1_countUnlike_0 rfl)
theorem dX1_countUnlike_49 : DR cX1_countUnlike 49 (.iconst 0) 1 := dk_3 (bA_sl (a := 0) (j := 49) bkX1_countUnlike_0 rfl)
theorem dX1_countUnlike_50 : DR cX1_countUnlike 50 (.invokestatic 50) 3 := dk_184 (bA_sl (a := 0) (j := 50) bkX1_countUnlike_0 rfl) (bA_sl (a := 0) (j := 51) bkX1_countUnlike_0 rfl) (bA_sl (a := 0) (j := 52) bkX1_countUnlike_0 rfl) (by decide) rfl
theorem dX1_countUnlike_53 : DR cX1_countUnlike 53 (.aload_n 1) 1 := dk_43 (bA_sl (a := 0) (j := 53) bkX1_countUnlike_0 rfl)
theorem dX1_countUnlike_54 : DR cX1_countUnlike 54 (.bipush 8) 2 := dk_16 (bA_sl (a := 0) (j := 54) bkX1_countUnlike_0 rfl) (bA_sl (a := 0) (j := 55) bkX1_countUnlike_0 rfl) (by decide) (by decide)
theorem dX1_countUnlike_56 : DR cX1_countUnlike 56 (.invokestatic 50) 3 := dk_184 (bA_sl (a := 0) (j := 56) bkX1_countUnlike_0 rfl) (bA_sl (a := 0) (j := 57) bkX1_countUnlike_0 rfl) (bA_sl (a := 0) (j := 58) bkX1_countUnlike_0 rfl) (by decide) rfl
theorem dX1_countUnlike_59 : DR cX1_countUnlike 59 (.invokevirtual 54) 3 := dk_182 (bA_sl (a := 0) (j := 59) bkX1_countUnlike_0 rfl) (bA_sl (a := 0) (j := 60) bkX1_countUnlike_0 rfl) (bA_sl (a := 0) (j := 61) bkX1_countUnlike_0 rfl) (by decide) rfl
theorem bkX1_countUnlike_1 : ((cX1_countUnlike.data.toList.drop 64).take 64).map UInt8.toNat = [1, 167, 255, 210, 42, 180, 0, 18, 172] := by decide +kernel
theorem dX1_countUnlike_62 : DR cX1_countUnlike 62 (.iinc 5 1) 3 := dk_132 (bA_sl (a := 0) (j := 62) bkX1_countUnlike_0 rfl) (bA_sl (a := 0) (j := 63) bkX1_countUnlike_0 rfl) (bA_sl (a := 64) (j := 0) bkX1_countUnlike_1 rfl) (by decide) (by decide)
theorem dX1_countUnlike_65 : DR cX1_countUnlike 65 (.goto (-46)) 3 := dk_167 (bA_sl (a := 64) (j := 1) bkX1_countUnlike_1 rfl) (bA_sl (a := 64) (j := 2) bkX1_countUnlike_1 rfl) (bA_sl (a := 64) (j := 3) bkX1_countUnlike_1 rfl) (by decide) (by decide)
theorem dX1_countUnlike_68 : DR cX1_countUnlike 68 (.aload_n 0) 1 := dk_42 (bA_sl (a := 64) (j := 4) bkX1_countUnlike_1 rfl)
theorem dX1_countUnlike_69 : DR cX1_countUnlike 69 (.getfield 18) 3 := dk_180 (bA_sl (a := 64) (j := 5) bkX1_countUnlike_1 rfl) (bA_sl (a := 64) (j := 6) bkX1_countUnlike_1 rfl) (bA_sl (a := 64) (j := 7) bkX1_countUnlike_1 rfl) (by decide) rfl
theorem dX1_countUnlike_72 : DR cX1_countUnlike 72 (.ireturn) 1 := dk_172 (bA_sl (a := 64) (j := 8) bkX1_countUnlike_1 rfl)
theorem bkX1_packed_0 : ((cX1_packed.data.toList.drop 0).take 64).map UInt8.toNat = [9, 65, 27, 16, 8, 96, 42, 180, 0, 58, 180, 0, 62, 184, 0, 67, 54, 4, 27, 54, 5, 21, 5, 21, 4, 162, 0, 37, 32, 16, 7, 121, 42, 180, 0, 58, 180, 0, 73, 21, 5, 46, 42, 42, 180, 0, 77, 21, 5, 182, 0, 80, 100, 133, 129, 65, 132, 5, 1, 167, 255, 218, 32, 173] := by decide +kernel
theorem dX1_packed_0 : DR cX1_packed 0 (.lconst 0) 1 := dk_9 (bA_sl (a := 0) (j := 0) bkX1_packed_0 rfl)
theorem dX1_packed_1 : DR cX1_packed 1 (.lstore_n 2) 1 := dk_65 (bA_sl (a := 0) (j := 1) bkX1_packed_0 rfl)
theorem dX1_packed_2 : DR cX1_packed 2 (.iload_n 1) 1 := dk_27 (bA_sl (a := 0) (j := 2) bkX1_packed_0 rfl)
theorem dX1_packed_3 : DR cX1_packed 3 (.bipush 8) 2 := dk_16 (bA_sl (a := 0) (j := 3) bkX1_packed_0 rfl) (bA_sl (a := 0) (j := 4) bkX1_packed_0 rfl) (by decide) (by decide)
theorem dX1_packed_5 : DR cX1_packed 5 (.iadd) 1 := dk_96 (bA_sl (a := 0) (j := 5) bkX1_packed_0 rfl)
theorem dX1_packed_6 : DR cX1_packed 6 (.aload_n 0) 1 := dk_42 (bA_sl (a := 0) (j := 6) bkX1_packed_0 rfl)
theorem dX1_packed_7 : DR cX1_packed 7 (.getfield 58) 3 := dk_180 (bA_sl (a := 0) (j := 7) bkX1_packed_0 rfl) (bA_sl (a := 0) (j := 8) bkX1_packed_0 rfl) (bA_sl (a := 0) (j := 9) bkX1_packed_0 rfl) (by decide) rfl
theorem dX1_packed_10 : DR cX1_packed 10 (.getfield 62) 3 := dk_180 (bA_sl (a := 0) (j := 10) bkX1_packed_0 rfl) (bA_sl (a := 0) (j := 11) bkX1_packed_0 rfl) (bA_sl (a := 0) (j := 12) bkX1_packed_0 rfl) (by decide) rfl
theorem dX1_packed_13 : DR cX1_packed 13 (.invokestatic 67) 3 := dk_184 (bA_sl (a := 0) (j := 13) bkX1_packed_0 rfl) (bA_sl (a := 0) (j := 14) bkX1_packed_0 rfl) (bA_sl (a := 0) (j := 15) bkX1_packed_0 rfl) (by decide) rfl
theorem dX1_packed_16 : DR cX1_packed 16 (.istore 4) 2 := dk_54 (bA_sl (a := 0) (j := 16) bkX1_packed_0 rfl) (bA_sl (a := 0) (j := 17) bkX1_packed_0 rfl) (by decide)
theorem dX1_packed_18 : DR cX1_packed 18 (.iload_n 1) 1 := dk_27 (bA_sl (a := 0) (j := 18) bkX1_packed_0 rfl)
theorem dX1_packed_19 : DR cX1_packed 19 (.istore 5) 2 := dk_54 (bA_sl (a := 0) (j := 19) bkX1_packed_0 rfl) (bA_sl (a := 0) (j := 20) bkX1_packed_0 rfl) (by decide)
theorem dX1_packed_21 : DR cX1_packed 21 (.iload 5) 2 := dk_21 (bA_sl (a := 0) (j := 21) bkX1_packed_0 rfl) (bA_sl (a := 0) (j := 22) bkX1_packed_0 rfl) (by decide)
theorem dX1_packed_23 : DR cX1_packed 23 (.iload 4) 2 := dk_21 (bA_sl (a := 0) (j := 23) bkX1_packed_0 rfl) (bA_sl (a := 0) (j := 24) bkX1_packed_0 rfl) (by decide)
theorem dX1_packed_25 : DR cX1_packed 25 (.if_icmp .ge 37) 3 := dk_162 (bA_sl (a := 0) (j := 25) bkX1_packed_0 rfl) (bA_sl (a := 0) (j := 26) bkX1_packed_0 rfl) (bA_sl (a := 0) (j := 27) bkX1_packed_0 rfl) (by decide) (by decide)
theorem dX1_packed_28 : DR cX1_packed 28 (.lload_n 2) 1 := dk_32 (bA_sl (a := 0) (j := 28) bkX1_packed_0 rfl)
theorem dX1_packed_29 : DR cX1_packed 29 (.bipush 7) 2 := dk_16 (bA_sl (a := 0) (j := 29) bkX1_packed_0 rfl) (bA_sl (a := 0) (j := 30) bkX1_packed_0 rfl) (by decide) (by decide)
theorem dX1_packed_31 : DR cX1_packed 31 (.lshl) 1 := dk_121 (bA_sl (a := 0) (j := 31) bkX1_packed_0 rfl)
theorem dX1_packed_32 : DR cX1_packed 32 (.aload_n 0) 1 := dk_42 (bA_sl (a := 0) (j := 32) bkX1_packed_0 rfl)
theorem dX1_packed_33 : DR cX1_packed 33 (.getfield 58) 3 := dk_180 (bA_sl (a := 0) (j := 33) bkX1_packed_0 rfl) (bA_sl (a := 0) (j := 34) bkX1_packed_0 rfl) (bA_sl (a := 0) (j := 35) bkX1_packed_0 rfl) (by decide) rfl
theorem dX1_packed_36 : DR cX1_packed 36 (.getfield 73) 3 := dk_180 (bA_sl (a := 0) (j := 36) bkX1_packed_0 rfl) (bA_sl (a := 0) (j := 37) bkX1_packed_0 rfl) (bA_sl (a := 0) (j := 38) bkX1_packed_0 rfl) (by decide) rfl
theorem dX1_packed_39 : DR cX1_packed 39 (.iload 5) 2 := dk_21 (bA_sl (a := 0) (j := 39) bkX1_packed_0 rfl) (bA_sl (a := 0) (j := 40) bkX1_packed_0 rfl) (by decide)
theorem dX1_packed_41 : DR cX1_packed 41 (.iaload) 1 := dk_46 (bA_sl (a := 0) (j := 41) bkX1_packed_0 rfl)
theorem dX1_packed_42 : DR cX1_packed 42 (.aload_n 0) 1 := dk_42 (bA_sl (a := 0) (j := 42) bkX1_packed_0 rfl)
theorem dX1_packed_43 : DR cX1_packed 43 (.aload_n 0) 1 := dk_42 (bA_sl (a := 0) (j := 43) bkX1_packed_0 rfl)
theorem dX1_packed_44 : DR cX1_packed 44 (.getfield 77) 3 := dk_180 (bA_sl (a := 0) (j := 44) bkX1_packed_0 rfl) (bA_sl (a := 0) (j := 45) bkX1_packed_0 rfl) (bA_sl (a := 0) (j := 46) bkX1_packed_0 rfl) (by decide) rfl
theorem dX1_packed_47 : DR cX1_packed 47 (.iload 5) 2 := dk_21 (bA_sl (a := 0) (j := 47) bkX1_packed_0 rfl) (bA_sl (a := 0) (j := 48) bkX1_packed_0 rfl) (by decide)
theorem dX1_packed_49 : DR cX1_packed 49 (.invokevirtual 80) 3 := dk_182 (bA_sl (a := 0) (j := 49) bkX1_packed_0 rfl) (bA_sl (a := 0) (j := 50) bkX1_packed_0 rfl) (bA_sl (a := 0) (j := 51) bkX1_packed_0 rfl) (by decide) rfl
theorem dX1_packed_52 : DR cX1_packed 52 (.isub) 1 := dk_100 (bA_sl (a := 0) (j := 52) bkX1_packed_0 rfl)
theorem dX1_packed_53 : DR cX1_packed 53 (.i2l) 1 := dk_133 (bA_sl (a := 0) (j := 53) bkX1_packed_0 rfl)
theorem dX1_packed_54 : DR cX1_packed 54 (.lor) 1 := dk_129 (bA_sl (a := 0) (j := 54) bkX1_packed_0 rfl)
theorem dX1_packed_55 : DR cX1_packed 55 (.lstore_n 2) 1 := dk_65 (bA_sl (a := 0) (j := 55) bkX1_packed_0 rfl)
theorem dX1_packed_56 : DR cX1_packed 56 (.iinc 5 1) 3 := dk_132 (bA_sl (a := 0) (j := 56) bkX1_packed_0 rfl) (bA_sl (a := 0) (j := 57) bkX1_packed_0 rfl) (bA_sl (a := 0) (j := 58) bkX1_packed_0 rfl) (by decide) (by decide)
theorem dX1_packed_59 : DR cX1_packed 59 (.goto (-38)) 3 := dk_167 (bA_sl (a := 0) (j := 59) bkX1_packed_0 rfl) (bA_sl (a := 0) (j := 60) bkX1_packed_0 rfl) (bA_sl (a := 0) (j := 61) bkX1_packed_0 rfl) (by decide) (by decide)
theorem dX1_packed_62 : DR cX1_packed 62 (.lload_n 2) 1 := dk_32 (bA_sl (a := 0) (j := 62) bkX1_packed_0 rfl)
theorem dX1_packed_63 : DR cX1_packed 63 (.lreturn) 1 := dk_173 (bA_sl (a := 0) (j := 63) bkX1_packed_0 rfl)
theorem bkX1_keep_0 : ((cX1_keep.data.toList.drop 0).take 64).map UInt8.toNat = [3, 54, 5, 21, 5, 42, 180, 0, 18, 162, 0, 34, 42, 180, 0, 11, 21, 5, 47, 31, 148, 154, 0, 16, 42, 180, 0, 15, 21, 5, 47, 33, 148, 154, 0, 4, 177, 132, 5, 1, 167, 255, 219, 42, 180, 0, 18, 17, 0, 176, 162, 0, 33, 42, 180, 0, 11, 42, 180, 0, 18, 31, 80, 42] := by decide +kernel
theorem dX1_keep_0 : DR cX1_keep 0 (.iconst 0) 1 := dk_3 (bA_sl (a := 0) (j := 0) bkX1_keep_0 rfl)
theorem dX1_keep_1 : DR cX1_keep 1 (.istore 5) 2 := dk_54 (bA_sl (a := 0) (j := 1) bkX1_keep_0 rfl) (bA_sl (a := 0) (j := 2) bkX1_keep_0 rfl) (by decide)
theorem dX1_keep_3 : DR cX1_keep 3 (.iload 5) 2 := dk_21 (bA_sl (a := 0) (j := 3) bkX1_keep_0 rfl) (bA_sl (a := 0) (j := 4) bkX1_keep_0 rfl) (by decide)
theorem dX1_keep_5 : DR cX1_keep 5 (.aload_n 0) 1 := dk_42 (bA_sl (a := 0) (j := 5) bkX1_keep_0 rfl)
theorem dX1_keep_6 : DR cX1_keep 6 (.getfield 18) 3 := dk_180 (bA_sl (a := 0) (j := 6) bkX1_keep_0 rfl) (bA_sl (a := 0) (j := 7) bkX1_keep_0 rfl) (bA_sl (a := 0) (j := 8) bkX1_keep_0 rfl) (by decide) rfl
theorem dX1_keep_9 : DR cX1_keep 9 (.if_icmp .ge 34) 3 := dk_162 (bA_sl (a := 0) (j := 9) bkX1_keep_0 rfl) (bA_sl (a := 0) (j := 10) bkX1_keep_0 rfl) (bA_sl (a := 0) (j := 11) bkX1_keep_0 rfl) (by decide) (by decide)
theorem dX1_keep_12 : DR cX1_keep 12 (.aload_n 0) 1 := dk_42 (bA_sl (a := 0) (j := 12) bkX1_keep_0 rfl)
theorem dX1_keep_13 : DR cX1_keep 13 (.getfield 11) 3 := dk_180 (bA_sl (a := 0) (j := 13) bkX1_keep_0 rfl) (bA_sl (a := 0) (j := 14) bkX1_keep_0 rfl) (bA_sl (a := 0) (j := 15) bkX1_keep_0 rfl) (by decide) rfl
theorem dX1_keep_16 : DR cX1_keep 16 (.iload 5) 2 := dk_21 (bA_sl (a := 0) (j := 16) bkX1_keep_0 rfl) (bA_sl (a := 0) (j := 17) bkX1_keep_0 rfl) (by decide)
theorem dX1_keep_18 : DR cX1_keep 18 (.laload) 1 := dk_47 (bA_sl (a := 0) (j := 18) bkX1_keep_0 rfl)
theorem dX1_keep_19 : DR cX1_keep 19 (.lload_n 1) 1 := dk_31 (bA_sl (a := 0) (j := 19) bkX1_keep_0 rfl)
theorem dX1_keep_20 : DR cX1_keep 20 (.lcmp) 1 := dk_148 (bA_sl (a := 0) (j := 20) bkX1_keep_0 rfl)
theorem dX1_keep_21 : DR cX1_keep 21 (.ifCond .ne 16) 3 := dk_154 (bA_sl (a := 0) (j := 21) bkX1_keep_0 rfl) (bA_sl (a := 0) (j := 22) bkX1_keep_0 rfl) (bA_sl (a := 0) (j := 23) bkX1_keep_0 rfl) (by decide) (by decide)
theorem dX1_keep_24 : DR cX1_keep 24 (.aload_n 0) 1 := dk_42 (bA_sl (a := 0) (j := 24) bkX1_keep_0 rfl)
theorem dX1_keep_25 : DR cX1_keep 25 (.getfield 15) 3 := dk_180 (bA_sl (a := 0) (j := 25) bkX1_keep_0 rfl) (bA_sl (a := 0) (j := 26) bkX1_keep_0 rfl) (bA_sl (a := 0) (j := 27) bkX1_keep_0 rfl) (by decide) rfl
theorem dX1_keep_28 : DR cX1_keep 28 (.iload 5) 2 := dk_21 (bA_sl (a := 0) (j := 28) bkX1_keep_0 rfl) (bA_sl (a := 0) (j := 29) bkX1_keep_0 rfl) (by decide)
theorem dX1_keep_30 : DR cX1_keep 30 (.laload) 1 := dk_47 (bA_sl (a := 0) (j := 30) bkX1_keep_0 rfl)
theorem dX1_keep_31 : DR cX1_keep 31 (.lload_n 3) 1 := dk_33 (bA_sl (a := 0) (j := 31) bkX1_keep_0 rfl)
theorem dX1_keep_32 : DR cX1_keep 32 (.lcmp) 1 := dk_148 (bA_sl (a := 0) (j := 32) bkX1_keep_0 rfl)
theorem dX1_keep_33 : DR cX1_keep 33 (.ifCond .ne 4) 3 := dk_154 (bA_sl (a := 0) (j := 33) bkX1_keep_0 rfl) (bA_sl (a := 0) (j := 34) bkX1_keep_0 rfl) (bA_sl (a := 0) (j := 35) bkX1_keep_0 rfl) (by decide) (by decide)
theorem dX1_keep_36 : DR cX1_keep 36 (.return_) 1 := dk_177 (bA_sl (a := 0) (j := 36) bkX1_keep_0 rfl)
theorem dX1_keep_37 : DR cX1_keep 37 (.iinc 5 1) 3 := dk_132 (bA_sl (a := 0) (j := 37) bkX1_keep_0 rfl) (bA_sl (a := 0) (j := 38) bkX1_keep_0 rfl) (bA_sl (a := 0) (j := 39) bkX1_keep_0 rfl) (by decide) (by decide)
theorem dX1_keep_40 : DR cX1_keep 40 (.goto (-37)) 3 := dk_167 (bA_sl (a := 0) (j := 40) bkX1_keep_0 rfl) (bA_sl (a := 0) (j := 41) bkX1_keep_0 rfl) (bA_sl (a := 0) (j := 42) bkX1_keep_0 rfl) (by decide) (by decide)
theorem dX1_keep_43 : DR cX1_keep 43 (.aload_n 0) 1 := dk_42 (bA_sl (a := 0) (j := 43) bkX1_keep_0 rfl)
theorem dX1_keep_44 : DR cX1_keep 44 (.getfield 18) 3 := dk_180 (bA_sl (a := 0) (j := 44) bkX1_keep_0 rfl) (bA_sl (a := 0) (j := 45) bkX1_keep_0 rfl) (bA_sl (a := 0) (j := 46) bkX1_keep_0 rfl) (by decide) rfl
theorem dX1_keep_47 : DR cX1_keep 47 (.sipush 176) 3 := dk_17 (bA_sl (a := 0) (j := 47) bkX1_keep_0 rfl) (bA_sl (a := 0) (j := 48) bkX1_keep_0 rfl) (bA_sl (a := 0) (j := 49) bkX1_keep_0 rfl) (by decide) (by decide)
theorem dX1_keep_50 : DR cX1_keep 50 (.if_icmp .ge 33) 3 := dk_162 (bA_sl (a := 0) (j := 50) bkX1_keep_0 rfl) (bA_sl (a := 0) (j := 51) bkX1_keep_0 rfl) (bA_sl (a := 0) (j := 52) bkX1_keep_0 rfl) (by decide) (by decide)
theorem dX1_keep_53 : DR cX1_keep 53 (.aload_n 0) 1 := dk_42 (bA_sl (a := 0) (j := 53) bkX1_keep_0 rfl)
theorem dX1_keep_54 : DR cX1_keep 54 (.getfield 11) 3 := dk_180 (bA_sl (a := 0) (j := 54) bkX1_keep_0 rfl) (bA_sl (a := 0) (j := 55) bkX1_keep_0 rfl) (bA_sl (a := 0) (j := 56) bkX1_keep_0 rfl) (by decide) rfl
theorem dX1_keep_57 : DR cX1_keep 57 (.aload_n 0) 1 := dk_42 (bA_sl (a := 0) (j := 57) bkX1_keep_0 rfl)
theorem dX1_keep_58 : DR cX1_keep 58 (.getfield 18) 3 := dk_180 (bA_sl (a := 0) (j := 58) bkX1_keep_0 rfl) (bA_sl (a := 0) (j := 59) bkX1_keep_0 rfl) (bA_sl (a := 0) (j := 60) bkX1_keep_0 rfl) (by decide) rfl
theorem dX1_keep_61 : DR cX1_keep 61 (.lload_n 1) 1 := dk_31 (bA_sl (a := 0) (j := 61) bkX1_keep_0 rfl)
theorem dX1_keep_62 : DR cX1_keep 62 (.lastore) 1 := dk_80 (bA_sl (a := 0) (j := 62) bkX1_keep_0 rfl)
theorem dX1_keep_63 : DR cX1_keep 63 (.aload_n 0) 1 := dk_42 (bA_sl (a := 0) (j := 63) bkX1_keep_0 rfl)
theorem bkX1_keep_1 : ((cX1_keep.data.toList.drop 64).take 64).map UInt8.toNat = [180, 0, 15, 42, 180, 0, 18, 33, 80, 42, 89, 180, 0, 18, 4, 96, 181, 0, 18, 177] := by decide +kernel
theorem dX1_keep_64 : DR cX1_keep 64 (.getfield 15) 3 := dk_180 (bA_sl (a := 64) (j := 0) bkX1_keep_1 rfl) (bA_sl (a := 64) (j := 1) bkX1_keep_1 rfl) (bA_sl (a := 64) (j := 2) bkX1_keep_1 rfl) (by decide) rfl
theorem dX1_keep_67 : DR cX1_keep 67 (.aload_n 0) 1 := dk_42 (bA_sl (a := 64) (j := 3) bkX1_keep_1 rfl)
theorem dX1_keep_68 : DR cX1_keep 68 (.getfield 18) 3 := dk_180 (bA_sl (a := 64) (j := 4) bkX1_keep_1 rfl) (bA_sl (a := 64) (j := 5) bkX1_keep_1 rfl) (bA_sl (a := 64) (j := 6) bkX1_keep_1 rfl) (by decide) rfl
theorem dX1_keep_71 : DR cX1_keep 71 (.lload_n 3) 1 := dk_33 (bA_sl (a := 64) (j := 7) bkX1_keep_1 rfl)
theorem dX1_keep_72 : DR cX1_keep 72 (.lastore) 1 := dk_80 (bA_sl (a := 64) (j := 8) bkX1_keep_1 rfl)
theorem dX1_keep_73 : DR cX1_keep 73 (.aload_n 0) 1 := dk_42 (bA_sl (a := 64) (j := 9) bkX1_keep_1 rfl)
theorem dX1_keep_74 : DR cX1_keep 74 (.dup) 1 := dk_89 (bA_sl (a := 64) (j := 10) bkX1_keep_1 rfl)
theorem dX1_keep_75 : DR cX1_keep 75 (.getfield 18) 3 := dk_180 (bA_sl (a := 64) (j := 11) bkX1_keep_1 rfl) (bA_sl (a := 64) (j := 12) bkX1_keep_1 rfl) (bA_sl (a := 64) (j := 13) bkX1_keep_1 rfl) (by decide) rfl
theorem dX1_keep_78 : DR cX1_keep 78 (.iconst 1) 1 := dk_4 (bA_sl (a := 64) (j := 14) bkX1_keep_1 rfl)
theorem dX1_keep_79 : DR cX1_keep 79 (.iadd) 1 := dk_96 (bA_sl (a := 64) (j := 15) bkX1_keep_1 rfl)
theorem dX1_keep_80 : DR cX1_keep 80 (.putfield 18) 3 := dk_181 (bA_sl (a := 64) (j := 16) bkX1_keep_1 rfl) (bA_sl (a := 64) (j := 17) bkX1_keep_1 rfl) (bA_sl (a := 64) (j := 18) bkX1_keep_1 rfl) (by decide) rfl
theorem dX1_keep_83 : DR cX1_keep 83 (.return_) 1 := dk_177 (bA_sl (a := 64) (j := 19) bkX1_keep_1 rfl)
theorem bkX1_explainNothing_0 : ((cX1_explainNothing.data.toList.drop 0).take 64).map UInt8.toNat = [42, 3, 181, 0, 22, 42, 3, 181, 0, 25, 177] := by decide +kernel
theorem dX1_explainNothing_0 : DR cX1_explainNothing 0 (.aload_n 0) 1 := dk_42 (bA_sl (a := 0) (j := 0) bkX1_explainNothing_0 rfl)
theorem dX1_explainNothing_1 : DR cX1_explainNothing 1 (.iconst 0) 1 := dk_3 (bA_sl (a := 0) (j := 1) bkX1_explainNothing_0 rfl)
theorem dX1_explainNothing_2 : DR cX1_explainNothing 2 (.putfield 22) 3 := dk_181 (bA_sl (a := 0) (j := 2) bkX1_explainNothing_0 rfl) (bA_sl (a := 0) (j := 3) bkX1_explainNothing_0 rfl) (bA_sl (a := 0) (j := 4) bkX1_explainNothing_0 rfl) (by decide) rfl
theorem dX1_explainNothing_5 : DR cX1_explainNothing 5 (.aload_n 0) 1 := dk_42 (bA_sl (a := 0) (j := 5) bkX1_explainNothing_0 rfl)
theorem dX1_explainNothing_6 : DR cX1_explainNothing 6 (.iconst 0) 1 := dk_3 (bA_sl (a := 0) (j := 6) bkX1_explainNothing_0 rfl)
theorem dX1_explainNothing_7 : DR cX1_explainNothing 7 (.putfield 25) 3 := dk_181 (bA_sl (a := 0) (j := 7) bkX1_explainNothing_0 rfl) (bA_sl (a := 0) (j := 8) bkX1_explainNothing_0 rfl) (bA_sl (a := 0) (j := 9) bkX1_explainNothing_0 rfl) (by decide) rfl
theorem dX1_explainNothing_10 : DR cX1_explainNothing 10 (.return_) 1 := dk_177 (bA_sl (a := 0) (j := 10) bkX1_explainNothing_0 rfl)
theorem bkX1_explain_0 : ((cX1_explain.data.toList.drop 0).take 64).map UInt8.toNat = [42, 182, 0, 84, 43, 180, 0, 58, 182, 0, 87, 54, 5, 44, 29, 182, 0, 28, 54, 6, 44, 29, 182, 0, 34, 54, 7, 21, 7, 21, 6, 162, 0, 54, 43, 44, 180, 0, 41, 21, 7, 47, 182, 0, 44, 43, 25, 4, 184, 0, 91, 153, 0, 28, 42, 89, 180, 0, 22, 44, 180, 0, 95, 21] := by decide +kernel
theorem dX1_explain_0 : DR cX1_explain 0 (.aload_n 0) 1 := dk_42 (bA_sl (a := 0) (j := 0) bkX1_explain_0 rfl)
theorem dX1_explain_1 : DR cX1_explain 1 (.invokevirtual 84) 3 := dk_182 (bA_sl (a := 0) (j := 1) bkX1_explain_0 rfl) (bA_sl (a := 0) (j := 2) bkX1_explain_0 rfl) (bA_sl (a := 0) (j := 3) bkX1_explain_0 rfl) (by decide) rfl
theorem dX1_explain_4 : DR cX1_explain 4 (.aload_n 1) 1 := dk_43 (bA_sl (a := 0) (j := 4) bkX1_explain_0 rfl)
theorem dX1_explain_5 : DR cX1_explain 5 (.getfield 58) 3 := dk_180 (bA_sl (a := 0) (j := 5) bkX1_explain_0 rfl) (bA_sl (a := 0) (j := 6) bkX1_explain_0 rfl) (bA_sl (a := 0) (j := 7) bkX1_explain_0 rfl) (by decide) rfl
theorem dX1_explain_8 : DR cX1_explain 8 (.invokevirtual 87) 3 := dk_182 (bA_sl (a := 0) (j := 8) bkX1_explain_0 rfl) (bA_sl (a := 0) (j := 9) bkX1_explain_0 rfl) (bA_sl (a := 0) (j := 10) bkX1_explain_0 rfl) (by decide) rfl
theorem dX1_explain_11 : DR cX1_explain 11 (.istore 5) 2 := dk_54 (bA_sl (a := 0) (j := 11) bkX1_explain_0 rfl) (bA_sl (a := 0) (j := 12) bkX1_explain_0 rfl) (by decide)
theorem dX1_explain_13 : DR cX1_explain 13 (.aload_n 2) 1 := dk_44 (bA_sl (a := 0) (j := 13) bkX1_explain_0 rfl)
theorem dX1_explain_14 : DR cX1_explain 14 (.iload_n 3) 1 := dk_29 (bA_sl (a := 0) (j := 14) bkX1_explain_0 rfl)
theorem dX1_explain_15 : DR cX1_explain 15 (.invokevirtual 28) 3 := dk_182 (bA_sl (a := 0) (j := 15) bkX1_explain_0 rfl) (bA_sl (a := 0) (j := 16) bkX1_explain_0 rfl) (bA_sl (a := 0) (j := 17) bkX1_explain_0 rfl) (by decide) rfl
theorem dX1_explain_18 : DR cX1_explain 18 (.istore 6) 2 := dk_54 (bA_sl (a := 0) (j := 18) bkX1_explain_0 rfl) (bA_sl (a := 0) (j := 19) bkX1_explain_0 rfl) (by decide)
theorem dX1_explain_20 : DR cX1_explain 20 (.aload_n 2) 1 := dk_44 (bA_sl (a := 0) (j := 20) bkX1_explain_0 rfl)
theorem dX1_explain_21 : DR cX1_explain 21 (.iload_n 3) 1 := dk_29 (bA_sl (a := 0) (j := 21) bkX1_explain_0 rfl)
theorem dX1_explain_22 : DR cX1_explain 22 (.invokevirtual 34) 3 := dk_182 (bA_sl (a := 0) (j := 22) bkX1_explain_0 rfl) (bA_sl (a := 0) (j := 23) bkX1_explain_0 rfl) (bA_sl (a := 0) (j := 24) bkX1_explain_0 rfl) (by decide) rfl
theorem dX1_explain_25 : DR cX1_explain 25 (.istore 7) 2 := dk_54 (bA_sl (a := 0) (j := 25) bkX1_explain_0 rfl) (bA_sl (a := 0) (j := 26) bkX1_explain_0 rfl) (by decide)
theorem dX1_explain_27 : DR cX1_explain 27 (.iload 7) 2 := dk_21 (bA_sl (a := 0) (j := 27) bkX1_explain_0 rfl) (bA_sl (a := 0) (j := 28) bkX1_explain_0 rfl) (by decide)
theorem dX1_explain_29 : DR cX1_explain 29 (.iload 6) 2 := dk_21 (bA_sl (a := 0) (j := 29) bkX1_explain_0 rfl) (bA_sl (a := 0) (j := 30) bkX1_explain_0 rfl) (by decide)
theorem dX1_explain_31 : DR cX1_explain 31 (.if_icmp .ge 54) 3 := dk_162 (bA_sl (a := 0) (j := 31) bkX1_explain_0 rfl) (bA_sl (a := 0) (j := 32) bkX1_explain_0 rfl) (bA_sl (a := 0) (j := 33) bkX1_explain_0 rfl) (by decide) (by decide)
theorem dX1_explain_34 : DR cX1_explain 34 (.aload_n 1) 1 := dk_43 (bA_sl (a := 0) (j := 34) bkX1_explain_0 rfl)
theorem dX1_explain_35 : DR cX1_explain 35 (.aload_n 2) 1 := dk_44 (bA_sl (a := 0) (j := 35) bkX1_explain_0 rfl)
theorem dX1_explain_36 : DR cX1_explain 36 (.getfield 41) 3 := dk_180 (bA_sl (a := 0) (j := 36) bkX1_explain_0 rfl) (bA_sl (a := 0) (j := 37) bkX1_explain_0 rfl) (bA_sl (a := 0) (j := 38) bkX1_explain_0 rfl) (by decide) rfl
theorem dX1_explain_39 : DR cX1_explain 39 (.iload 7) 2 := dk_21 (bA_sl (a := 0) (j := 39) bkX1_explain_0 rfl) (bA_sl (a := 0) (j := 40) bkX1_explain_0 rfl) (by decide)
theorem dX1_explain_41 : DR cX1_explain 41 (.laload) 1 := dk_47 (bA_sl (a := 0) (j := 41) bkX1_explain_0 rfl)
theorem dX1_explain_42 : DR cX1_explain 42 (.invokevirtual 44) 3 := dk_182 (bA_sl (a := 0) (j := 42) bkX1_explain_0 rfl) (bA_sl (a := 0) (j := 43) bkX1_explain_0 rfl) (bA_sl (a := 0) (j := 44) bkX1_explain_0 rfl) (by decide) rfl
theorem dX1_explain_45 : DR cX1_explain 45 (.aload_n 1) 1 := dk_43 (bA_sl (a := 0) (j := 45) bkX1_explain_0 rfl)
theorem dX1_explain_46 : DR cX1_explain 46 (.aload 4) 2 := dk_25 (bA_sl (a := 0) (j := 46) bkX1_explain_0 rfl) (bA_sl (a := 0) (j := 47) bkX1_explain_0 rfl) (by decide)
theorem dX1_explain_48 : DR cX1_explain 48 (.invokestatic 91) 3 := dk_184 (bA_sl (a := 0) (j := 48) bkX1_explain_0 rfl) (bA_sl (a := 0) (j := 49) bkX1_explain_0 rfl) (bA_sl (a := 0) (j := 50) bkX1_explain_0 rfl) (by decide) rfl
theorem dX1_explain_51 : DR cX1_explain 51 (.ifCond .eq 28) 3 := dk_153 (bA_sl (a := 0) (j := 51) bkX1_explain_0 rfl) (bA_sl (a := 0) (j := 52) bkX1_explain_0 rfl) (bA_sl (a := 0) (j := 53) bkX1_explain_0 rfl) (by decide) (by decide)
theorem dX1_explain_54 : DR cX1_explain 54 (.aload_n 0) 1 := dk_42 (bA_sl (a := 0) (j := 54) bkX1_explain_0 rfl)
theorem dX1_explain_55 : DR cX1_explain 55 (.dup) 1 := dk_89 (bA_sl (a := 0) (j := 55) bkX1_explain_0 rfl)
theorem dX1_explain_56 : DR cX1_explain 56 (.getfield 22) 3 := dk_180 (bA_sl (a := 0) (j := 56) bkX1_explain_0 rfl) (bA_sl (a := 0) (j := 57) bkX1_explain_0 rfl) (bA_sl (a := 0) (j := 58) bkX1_explain_0 rfl) (by decide) rfl
theorem dX1_explain_59 : DR cX1_explain 59 (.aload_n 2) 1 := dk_44 (bA_sl (a := 0) (j := 59) bkX1_explain_0 rfl)
theorem dX1_explain_60 : DR cX1_explain 60 (.getfield 95) 3 := dk_180 (bA_sl (a := 0) (j := 60) bkX1_explain_0 rfl) (bA_sl (a := 0) (j := 61) bkX1_explain_0 rfl) (bA_sl (a := 0) (j := 62) bkX1_explain_0 rfl) (by decide) rfl
theorem bkX1_explain_1 : ((cX1_explain.data.toList.drop 64).take 64).map UInt8.toNat = [7, 46, 96, 181, 0, 22, 21, 5, 43, 182, 0, 98, 126, 54, 5, 132, 7, 1, 167, 255, 201, 42, 180, 0, 22, 158, 0, 9, 42, 21, 5, 181, 0, 25, 177] := by decide +kernel
theorem dX1_explain_63 : DR cX1_explain 63 (.iload 7) 2 := dk_21 (bA_sl (a := 0) (j := 63) bkX1_explain_0 rfl) (bA_sl (a := 64) (j := 0) bkX1_explain_1 rfl) (by decide)
theorem dX1_explain_65 : DR cX1_explain 65 (.iaload) 1 := dk_46 (bA_sl (a := 64) (j := 1) bkX1_explain_1 rfl)
theorem dX1_explain_66 : DR cX1_explain 66 (.iadd) 1 := dk_96 (bA_sl (a := 64) (j := 2) bkX1_explain_1 rfl)
theorem dX1_explain_67 : DR cX1_explain 67 (.putfield 22) 3 := dk_181 (bA_sl (a := 64) (j := 3) bkX1_explain_1 rfl) (bA_sl (a := 64) (j := 4) bkX1_explain_1 rfl) (bA_sl (a := 64) (j := 5) bkX1_explain_1 rfl) (by decide) rfl
theorem dX1_explain_70 : DR cX1_explain 70 (.iload 5) 2 := dk_21 (bA_sl (a := 64) (j := 6) bkX1_explain_1 rfl) (bA_sl (a := 64) (j := 7) bkX1_explain_1 rfl) (by decide)
theorem dX1_explain_72 : DR cX1_explain 72 (.aload_n 1) 1 := dk_43 (bA_sl (a := 64) (j := 8) bkX1_explain_1 rfl)
theorem dX1_explain_73 : DR cX1_explain 73 (.invokevirtual 98) 3 := dk_182 (bA_sl (a := 64) (j := 9) bkX1_explain_1 rfl) (bA_sl (a := 64) (j := 10) bkX1_explain_1 rfl) (bA_sl (a := 64) (j := 11) bkX1_explain_1 rfl) (by decide) rfl
theorem dX1_explain_76 : DR cX1_explain 76 (.iand) 1 := dk_126 (bA_sl (a := 64) (j := 12) bkX1_explain_1 rfl)
theorem dX1_explain_77 : DR cX1_explain 77 (.istore 5) 2 := dk_54 (bA_sl (a := 64) (j := 13) bkX1_explain_1 rfl) (bA_sl (a := 64) (j := 14) bkX1_explain_1 rfl) (by decide)
theorem dX1_explain_79 : DR cX1_explain 79 (.iinc 7 1) 3 := dk_132 (bA_sl (a := 64) (j := 15) bkX1_explain_1 rfl) (bA_sl (a := 64) (j := 16) bkX1_explain_1 rfl) (bA_sl (a := 64) (j := 17) bkX1_explain_1 rfl) (by decide) (by decide)
theorem dX1_explain_82 : DR cX1_explain 82 (.goto (-55)) 3 := dk_167 (bA_sl (a := 64) (j := 18) bkX1_explain_1 rfl) (bA_sl (a := 64) (j := 19) bkX1_explain_1 rfl) (bA_sl (a := 64) (j := 20) bkX1_explain_1 rfl) (by decide) (by decide)
theorem dX1_explain_85 : DR cX1_explain 85 (.aload_n 0) 1 := dk_42 (bA_sl (a := 64) (j := 21) bkX1_explain_1 rfl)
theorem dX1_explain_86 : DR cX1_explain 86 (.getfield 22) 3 := dk_180 (bA_sl (a := 64) (j := 22) bkX1_explain_1 rfl) (bA_sl (a := 64) (j := 23) bkX1_explain_1 rfl) (bA_sl (a := 64) (j := 24) bkX1_explain_1 rfl) (by decide) rfl
theorem dX1_explain_89 : DR cX1_explain 89 (.ifCond .le 9) 3 := dk_158 (bA_sl (a := 64) (j := 25) bkX1_explain_1 rfl) (bA_sl (a := 64) (j := 26) bkX1_explain_1 rfl) (bA_sl (a := 64) (j := 27) bkX1_explain_1 rfl) (by decide) (by decide)
theorem dX1_explain_92 : DR cX1_explain 92 (.aload_n 0) 1 := dk_42 (bA_sl (a := 64) (j := 28) bkX1_explain_1 rfl)
theorem dX1_explain_93 : DR cX1_explain 93 (.iload 5) 2 := dk_21 (bA_sl (a := 64) (j := 29) bkX1_explain_1 rfl) (bA_sl (a := 64) (j := 30) bkX1_explain_1 rfl) (by decide)
theorem dX1_explain_95 : DR cX1_explain 95 (.putfield 25) 3 := dk_181 (bA_sl (a := 64) (j := 31) bkX1_explain_1 rfl) (bA_sl (a := 64) (j := 32) bkX1_explain_1 rfl) (bA_sl (a := 64) (j := 33) bkX1_explain_1 rfl) (by decide) rfl
theorem dX1_explain_98 : DR cX1_explain 98 (.return_) 1 := dk_177 (bA_sl (a := 64) (j := 34) bkX1_explain_1 rfl)
theorem bkX1_leaves_0 : ((cX1_leaves.data.toList.drop 0).take 64).map UInt8.toNat = [3, 61, 28, 42, 180, 0, 58, 180, 0, 62, 162, 0, 40, 42, 180, 0, 58, 180, 0, 73, 28, 46, 42, 42, 180, 0, 77, 28, 182, 0, 80, 100, 133, 43, 28, 182, 0, 101, 148, 153, 0, 5, 3, 172, 132, 2, 1, 167, 255, 211, 4, 172] := by decide +kernel
theorem dX1_leaves_0 : DR cX1_leaves 0 (.iconst 0) 1 := dk_3 (bA_sl (a := 0) (j := 0) bkX1_leaves_0 rfl)
theorem dX1_leaves_1 : DR cX1_leaves 1 (.istore_n 2) 1 := dk_61 (bA_sl (a := 0) (j := 1) bkX1_leaves_0 rfl)
theorem dX1_leaves_2 : DR cX1_leaves 2 (.iload_n 2) 1 := dk_28 (bA_sl (a := 0) (j := 2) bkX1_leaves_0 rfl)
theorem dX1_leaves_3 : DR cX1_leaves 3 (.aload_n 0) 1 := dk_42 (bA_sl (a := 0) (j := 3) bkX1_leaves_0 rfl)
theorem dX1_leaves_4 : DR cX1_leaves 4 (.getfield 58) 3 := dk_180 (bA_sl (a := 0) (j := 4) bkX1_leaves_0 rfl) (bA_sl (a := 0) (j := 5) bkX1_leaves_0 rfl) (bA_sl (a := 0) (j := 6) bkX1_leaves_0 rfl) (by decide) rfl
theorem dX1_leaves_7 : DR cX1_leaves 7 (.getfield 62) 3 := dk_180 (bA_sl (a := 0) (j := 7) bkX1_leaves_0 rfl) (bA_sl (a := 0) (j := 8) bkX1_leaves_0 rfl) (bA_sl (a := 0) (j := 9) bkX1_leaves_0 rfl) (by decide) rfl
theorem dX1_leaves_10 : DR cX1_leaves 10 (.if_icmp .ge 40) 3 := dk_162 (bA_sl (a := 0) (j := 10) bkX1_leaves_0 rfl) (bA_sl (a := 0) (j := 11) bkX1_leaves_0 rfl) (bA_sl (a := 0) (j := 12) bkX1_leaves_0 rfl) (by decide) (by decide)
theorem dX1_leaves_13 : DR cX1_leaves 13 (.aload_n 0) 1 := dk_42 (bA_sl (a := 0) (j := 13) bkX1_leaves_0 rfl)
theorem dX1_leaves_14 : DR cX1_leaves 14 (.getfield 58) 3 := dk_180 (bA_sl (a := 0) (j := 14) bkX1_leaves_0 rfl) (bA_sl (a := 0) (j := 15) bkX1_leaves_0 rfl) (bA_sl (a := 0) (j := 16) bkX1_leaves_0 rfl) (by decide) rfl
theorem dX1_leaves_17 : DR cX1_leaves 17 (.getfield 73) 3 := dk_180 (bA_sl (a := 0) (j := 17) bkX1_leaves_0 rfl) (bA_sl (a := 0) (j := 18) bkX1_leaves_0 rfl) (bA_sl (a := 0) (j := 19) bkX1_leaves_0 rfl) (by decide) rfl
theorem dX1_leaves_20 : DR cX1_leaves 20 (.iload_n 2) 1 := dk_28 (bA_sl (a := 0) (j := 20) bkX1_leaves_0 rfl)
theorem dX1_leaves_21 : DR cX1_leaves 21 (.iaload) 1 := dk_46 (bA_sl (a := 0) (j := 21) bkX1_leaves_0 rfl)
theorem dX1_leaves_22 : DR cX1_leaves 22 (.aload_n 0) 1 := dk_42 (bA_sl (a := 0) (j := 22) bkX1_leaves_0 rfl)
theorem dX1_leaves_23 : DR cX1_leaves 23 (.aload_n 0) 1 := dk_42 (bA_sl (a := 0) (j := 23) bkX1_leaves_0 rfl)
theorem dX1_leaves_24 : DR cX1_leaves 24 (.getfield 77) 3 := dk_180 (bA_sl (a := 0) (j := 24) bkX1_leaves_0 rfl) (bA_sl (a := 0) (j := 25) bkX1_leaves_0 rfl) (bA_sl (a := 0) (j := 26) bkX1_leaves_0 rfl) (by decide) rfl
theorem dX1_leaves_27 : DR cX1_leaves 27 (.iload_n 2) 1 := dk_28 (bA_sl (a := 0) (j := 27) bkX1_leaves_0 rfl)
theorem dX1_leaves_28 : DR cX1_leaves 28 (.invokevirtual 80) 3 := dk_182 (bA_sl (a := 0) (j := 28) bkX1_leaves_0 rfl) (bA_sl (a := 0) (j := 29) bkX1_leaves_0 rfl) (bA_sl (a := 0) (j := 30) bkX1_leaves_0 rfl) (by decide) rfl
theorem dX1_leaves_31 : DR cX1_leaves 31 (.isub) 1 := dk_100 (bA_sl (a := 0) (j := 31) bkX1_leaves_0 rfl)
theorem dX1_leaves_32 : DR cX1_leaves 32 (.i2l) 1 := dk_133 (bA_sl (a := 0) (j := 32) bkX1_leaves_0 rfl)
theorem dX1_leaves_33 : DR cX1_leaves 33 (.aload_n 1) 1 := dk_43 (bA_sl (a := 0) (j := 33) bkX1_leaves_0 rfl)
theorem dX1_leaves_34 : DR cX1_leaves 34 (.iload_n 2) 1 := dk_28 (bA_sl (a := 0) (j := 34) bkX1_leaves_0 rfl)
theorem dX1_leaves_35 : DR cX1_leaves 35 (.invokevirtual 101) 3 := dk_182 (bA_sl (a := 0) (j := 35) bkX1_leaves_0 rfl) (bA_sl (a := 0) (j := 36) bkX1_leaves_0 rfl) (bA_sl (a := 0) (j := 37) bkX1_leaves_0 rfl) (by decide) rfl
theorem dX1_leaves_38 : DR cX1_leaves 38 (.lcmp) 1 := dk_148 (bA_sl (a := 0) (j := 38) bkX1_leaves_0 rfl)
theorem dX1_leaves_39 : DR cX1_leaves 39 (.ifCond .eq 5) 3 := dk_153 (bA_sl (a := 0) (j := 39) bkX1_leaves_0 rfl) (bA_sl (a := 0) (j := 40) bkX1_leaves_0 rfl) (bA_sl (a := 0) (j := 41) bkX1_leaves_0 rfl) (by decide) (by decide)
theorem dX1_leaves_42 : DR cX1_leaves 42 (.iconst 0) 1 := dk_3 (bA_sl (a := 0) (j := 42) bkX1_leaves_0 rfl)
theorem dX1_leaves_43 : DR cX1_leaves 43 (.ireturn) 1 := dk_172 (bA_sl (a := 0) (j := 43) bkX1_leaves_0 rfl)
theorem dX1_leaves_44 : DR cX1_leaves 44 (.iinc 2 1) 3 := dk_132 (bA_sl (a := 0) (j := 44) bkX1_leaves_0 rfl) (bA_sl (a := 0) (j := 45) bkX1_leaves_0 rfl) (bA_sl (a := 0) (j := 46) bkX1_leaves_0 rfl) (by decide) (by decide)
theorem dX1_leaves_47 : DR cX1_leaves 47 (.goto (-45)) 3 := dk_167 (bA_sl (a := 0) (j := 47) bkX1_leaves_0 rfl) (bA_sl (a := 0) (j := 48) bkX1_leaves_0 rfl) (bA_sl (a := 0) (j := 49) bkX1_leaves_0 rfl) (by decide) (by decide)
theorem dX1_leaves_50 : DR cX1_leaves 50 (.iconst 1) 1 := dk_4 (bA_sl (a := 0) (j := 50) bkX1_leaves_0 rfl)
theorem dX1_leaves_51 : DR cX1_leaves 51 (.ireturn) 1 := dk_172 (bA_sl (a := 0) (j := 51) bkX1_leaves_0 rfl)
theorem bkX2_init_0 : ((cX2_init.data.toList.drop 0).take 64).map UInt8.toNat = [42, 183, 0, 3, 42, 187, 0, 9, 89, 183, 0, 11, 181, 0, 12, 42, 3, 181, 0, 18, 42, 16, 16, 188, 10, 181, 0, 22, 42, 17, 1, 0, 188, 10, 181, 0, 26, 42, 16, 16, 188, 10, 181, 0, 29, 42, 16, 6, 188, 10, 181, 0, 32, 42, 16, 8, 188, 10, 181, 0, 35, 42, 16, 8] := by decide +kernel
theorem dX2_init_0 : DR cX2_init 0 (.aload_n 0) 1 := dk_42 (bA_sl (a := 0) (j := 0) bkX2_init_0 rfl)
theorem dX2_init_1 : DR cX2_init 1 (.invokespecial 3) 3 := dk_183 (bA_sl (a := 0) (j := 1) bkX2_init_0 rfl) (bA_sl (a := 0) (j := 2) bkX2_init_0 rfl) (bA_sl (a := 0) (j := 3) bkX2_init_0 rfl) (by decide) rfl
theorem dX2_init_4 : DR cX2_init 4 (.aload_n 0) 1 := dk_42 (bA_sl (a := 0) (j := 4) bkX2_init_0 rfl)
theorem dX2_init_5 : DR cX2_init 5 (.new 9) 3 := dk_187 (bA_sl (a := 0) (j := 5) bkX2_init_0 rfl) (bA_sl (a := 0) (j := 6) bkX2_init_0 rfl) (bA_sl (a := 0) (j := 7) bkX2_init_0 rfl) (by decide) rfl
theorem dX2_init_8 : DR cX2_init 8 (.dup) 1 := dk_89 (bA_sl (a := 0) (j := 8) bkX2_init_0 rfl)
theorem dX2_init_9 : DR cX2_init 9 (.invokespecial 11) 3 := dk_183 (bA_sl (a := 0) (j := 9) bkX2_init_0 rfl) (bA_sl (a := 0) (j := 10) bkX2_init_0 rfl) (bA_sl (a := 0) (j := 11) bkX2_init_0 rfl) (by decide) rfl
theorem dX2_init_12 : DR cX2_init 12 (.putfield 12) 3 := dk_181 (bA_sl (a := 0) (j := 12) bkX2_init_0 rfl) (bA_sl (a := 0) (j := 13) bkX2_init_0 rfl) (bA_sl (a := 0) (j := 14) bkX2_init_0 rfl) (by decide) rfl
theorem dX2_init_15 : DR cX2_init 15 (.aload_n 0) 1 := dk_42 (bA_sl (a := 0) (j := 15) bkX2_init_0 rfl)
theorem dX2_init_16 : DR cX2_init 16 (.iconst 0) 1 := dk_3 (bA_sl (a := 0) (j := 16) bkX2_init_0 rfl)
theorem dX2_init_17 : DR cX2_init 17 (.putfield 18) 3 := dk_181 (bA_sl (a := 0) (j := 17) bkX2_init_0 rfl) (bA_sl (a := 0) (j := 18) bkX2_init_0 rfl) (bA_sl (a := 0) (j := 19) bkX2_init_0 rfl) (by decide) rfl
theorem dX2_init_20 : DR cX2_init 20 (.aload_n 0) 1 := dk_42 (bA_sl (a := 0) (j := 20) bkX2_init_0 rfl)
theorem dX2_init_21 : DR cX2_init 21 (.bipush 16) 2 := dk_16 (bA_sl (a := 0) (j := 21) bkX2_init_0 rfl) (bA_sl (a := 0) (j := 22) bkX2_init_0 rfl) (by decide) (by decide)
theorem dX2_init_23 : decode cX2_init 23 = .ok (.newarray .int, 2) := by decide +kernel
theorem dX2_init_25 : DR cX2_init 25 (.putfield 22) 3 := dk_181 (bA_sl (a := 0) (j := 25) bkX2_init_0 rfl) (bA_sl (a := 0) (j := 26) bkX2_init_0 rfl) (bA_sl (a := 0) (j := 27) bkX2_init_0 rfl) (by decide) rfl
theorem dX2_init_28 : DR cX2_init 28 (.aload_n 0) 1 := dk_42 (bA_sl (a := 0) (j := 28) bkX2_init_0 rfl)
theorem dX2_init_29 : DR cX2_init 29 (.sipush 256) 3 := dk_17 (bA_sl (a := 0) (j := 29) bkX2_init_0 rfl) (bA_sl (a := 0) (j := 30) bkX2_init_0 rfl) (bA_sl (a := 0) (j := 31) bkX2_init_0 rfl) (by decide) (by decide)
theorem dX2_init_32 : decode cX2_init 32 = .ok (.newarray .int, 2) := by decide +kernel
theorem dX2_init_34 : DR cX2_init 34 (.putfield 26) 3 := dk_181 (bA_sl (a := 0) (j := 34) bkX2_init_0 rfl) (bA_sl (a := 0) (j := 35) bkX2_init_0 rfl) (bA_sl (a := 0) (j := 36) bkX2_init_0 rfl) (by decide) rfl
theorem dX2_init_37 : DR cX2_init 37 (.aload_n 0) 1 := dk_42 (bA_sl (a := 0) (j := 37) bkX2_init_0 rfl)
theorem dX2_init_38 : DR cX2_init 38 (.bipush 16) 2 := dk_16 (bA_sl (a := 0) (j := 38) bkX2_init_0 rfl) (bA_sl (a := 0) (j := 39) bkX2_init_0 rfl) (by decide) (by decide)
theorem dX2_init_40 : decode cX2_init 40 = .ok (.newarray .int, 2) := by decide +kernel
theorem dX2_init_42 : DR cX2_init 42 (.putfield 29) 3 := dk_181 (bA_sl (a := 0) (j := 42) bkX2_init_0 rfl) (bA_sl (a := 0) (j := 43) bkX2_init_0 rfl) (bA_sl (a := 0) (j := 44) bkX2_init_0 rfl) (by decide) rfl
theorem dX2_init_45 : DR cX2_init 45 (.aload_n 0) 1 := dk_42 (bA_sl (a := 0) (j := 45) bkX2_init_0 rfl)
theorem dX2_init_46 : DR cX2_init 46 (.bipush 6) 2 := dk_16 (bA_sl (a := 0) (j := 46) bkX2_init_0 rfl) (bA_sl (a := 0) (j := 47) bkX2_init_0 rfl) (by decide) (by decide)
theorem dX2_init_48 : decode cX2_init 48 = .ok (.newarray .int, 2) := by decide +kernel
theorem dX2_init_50 : DR cX2_init 50 (.putfield 32) 3 := dk_181 (bA_sl (a := 0) (j := 50) bkX2_init_0 rfl) (bA_sl (a := 0) (j := 51) bkX2_init_0 rfl) (bA_sl (a := 0) (j := 52) bkX2_init_0 rfl) (by decide) rfl
theorem dX2_init_53 : DR cX2_init 53 (.aload_n 0) 1 := dk_42 (bA_sl (a := 0) (j := 53) bkX2_init_0 rfl)
theorem dX2_init_54 : DR cX2_init 54 (.bipush 8) 2 := dk_16 (bA_sl (a := 0) (j := 54) bkX2_init_0 rfl) (bA_sl (a := 0) (j := 55) bkX2_init_0 rfl) (by decide) (by decide)
theorem dX2_init_56 : decode cX2_init 56 = .ok (.newarray .int, 2) := by decide +kernel
theorem dX2_init_58 : DR cX2_init 58 (.putfield 35) 3 := dk_181 (bA_sl (a := 0) (j := 58) bkX2_init_0 rfl) (bA_sl (a := 0) (j := 59) bkX2_init_0 rfl) (bA_sl (a := 0) (j := 60) bkX2_init_0 rfl) (by decide) rfl
theorem dX2_init_61 : DR cX2_init 61 (.aload_n 0) 1 := dk_42 (bA_sl (a := 0) (j := 61) bkX2_init_0 rfl)
theorem dX2_init_62 : DR cX2_init 62 (.bipush 8) 2 := dk_16 (bA_sl (a := 0) (j := 62) bkX2_init_0 rfl) (bA_sl (a := 0) (j := 63) bkX2_init_0 rfl) (by decide) (by decide)
theorem dX2_init_64 : decode cX2_init 64 = .ok (.newarray .int, 2) := by decide +kernel
theorem bkX2_init_1 : ((cX2_init.data.toList.drop 64).take 64).map UInt8.toNat = [188, 10, 181, 0, 38, 42, 3, 181, 0, 41, 42, 3, 181, 0, 44, 42, 3, 181, 0, 47, 177] := by decide +kernel
theorem dX2_init_66 : DR cX2_init 66 (.putfield 38) 3 := dk_181 (bA_sl (a := 64) (j := 2) bkX2_init_1 rfl) (bA_sl (a := 64) (j := 3) bkX2_init_1 rfl) (bA_sl (a := 64) (j := 4) bkX2_init_1 rfl) (by decide) rfl
theorem dX2_init_69 : DR cX2_init 69 (.aload_n 0) 1 := dk_42 (bA_sl (a := 64) (j := 5) bkX2_init_1 rfl)
theorem dX2_init_70 : DR cX2_init 70 (.iconst 0) 1 := dk_3 (bA_sl (a := 64) (j := 6) bkX2_init_1 rfl)
theorem dX2_init_71 : DR cX2_init 71 (.putfield 41) 3 := dk_181 (bA_sl (a := 64) (j := 7) bkX2_init_1 rfl) (bA_sl (a := 64) (j := 8) bkX2_init_1 rfl) (bA_sl (a := 64) (j := 9) bkX2_init_1 rfl) (by decide) rfl
theorem dX2_init_74 : DR cX2_init 74 (.aload_n 0) 1 := dk_42 (bA_sl (a := 64) (j := 10) bkX2_init_1 rfl)
theorem dX2_init_75 : DR cX2_init 75 (.iconst 0) 1 := dk_3 (bA_sl (a := 64) (j := 11) bkX2_init_1 rfl)
theorem dX2_init_76 : DR cX2_init 76 (.putfield 44) 3 := dk_181 (bA_sl (a := 64) (j := 12) bkX2_init_1 rfl) (bA_sl (a := 64) (j := 13) bkX2_init_1 rfl) (bA_sl (a := 64) (j := 14) bkX2_init_1 rfl) (by decide) rfl
theorem dX2_init_79 : DR cX2_init 79 (.aload_n 0) 1 := dk_42 (bA_sl (a := 64) (j := 15) bkX2_init_1 rfl)
theorem dX2_init_80 : DR cX2_init 80 (.iconst 0) 1 := dk_3 (bA_sl (a := 64) (j := 16) bkX2_init_1 rfl)
theorem dX2_init_81 : DR cX2_init 81 (.putfield 47) 3 := dk_181 (bA_sl (a := 64) (j := 17) bkX2_init_1 rfl) (bA_sl (a := 64) (j := 18) bkX2_init_1 rfl) (bA_sl (a := 64) (j := 19) bkX2_init_1 rfl) (by decide) rfl
theorem dX2_init_84 : DR cX2_init 84 (.return_) 1 := dk_177 (bA_sl (a := 64) (j := 20) bkX2_init_1 rfl)
theorem bkX2_prepare_0 : ((cX2_prepare.data.toList.drop 0).take 64).map UInt8.toNat = [42, 43, 181, 0, 12, 42, 28, 181, 0, 18, 3, 54, 4, 21, 4, 43, 180, 0, 50, 162, 0, 28, 42, 180, 0, 22, 21, 4, 42, 43, 180, 0, 53, 21, 4, 46, 29, 182, 0, 56, 79, 132, 4, 1, 167, 255, 225, 42, 42, 180, 0, 26, 3, 182, 0, 60, 3, 54, 4, 21, 4, 43, 180, 0] := by decide +kernel
theorem dX2_prepare_0 : DR cX2_prepare 0 (.aload_n 0) 1 := dk_42 (bA_sl (a := 0) (j := 0) bkX2_prepare_0 rfl)
theorem dX2_prepare_1 : DR cX2_prepare 1 (.aload_n 1) 1 := dk_43 (bA_sl (a := 0) (j := 1) bkX2_prepare_0 rfl)
theorem dX2_prepare_2 : DR cX2_prepare 2 (.putfield 12) 3 := dk_181 (bA_sl (a := 0) (j := 2) bkX2_prepare_0 rfl) (bA_sl (a := 0) (j := 3) bkX2_prepare_0 rfl) (bA_sl (a := 0) (j := 4) bkX2_prepare_0 rfl) (by decide) rfl
theorem dX2_prepare_5 : DR cX2_prepare 5 (.aload_n 0) 1 := dk_42 (bA_sl (a := 0) (j := 5) bkX2_prepare_0 rfl)
theorem dX2_prepare_6 : DR cX2_prepare 6 (.iload_n 2) 1 := dk_28 (bA_sl (a := 0) (j := 6) bkX2_prepare_0 rfl)
theorem dX2_prepare_7 : DR cX2_prepare 7 (.putfield 18) 3 := dk_181 (bA_sl (a := 0) (j := 7) bkX2_prepare_0 rfl) (bA_sl (a := 0) (j := 8) bkX2_prepare_0 rfl) (bA_sl (a := 0) (j := 9) bkX2_prepare_0 rfl) (by decide) rfl
theorem dX2_prepare_10 : DR cX2_prepare 10 (.iconst 0) 1 := dk_3 (bA_sl (a := 0) (j := 10) bkX2_prepare_0 rfl)
theorem dX2_prepare_11 : DR cX2_prepare 11 (.istore 4) 2 := dk_54 (bA_sl (a := 0) (j := 11) bkX2_prepare_0 rfl) (bA_sl (a := 0) (j := 12) bkX2_prepare_0 rfl) (by decide)
theorem dX2_prepare_13 : DR cX2_prepare 13 (.iload 4) 2 := dk_21 (bA_sl (a := 0) (j := 13) bkX2_prepare_0 rfl) (bA_sl (a := 0) (j := 14) bkX2_prepare_0 rfl) (by decide)
theorem dX2_prepare_15 : DR cX2_prepare 15 (.aload_n 1) 1 := dk_43 (bA_sl (a := 0) (j := 15) bkX2_prepare_0 rfl)
theorem dX2_prepare_16 : DR cX2_prepare 16 (.getfield 50) 3 := dk_180 (bA_sl (a := 0) (j := 16) bkX2_prepare_0 rfl) (bA_sl (a := 0) (j := 17) bkX2_prepare_0 rfl) (bA_sl (a := 0) (j := 18) bkX2_prepare_0 rfl) (by decide) rfl
theorem dX2_prepare_19 : DR cX2_prepare 19 (.if_icmp .ge 28) 3 := dk_162 (bA_sl (a := 0) (j := 19) bkX2_prepare_0 rfl) (bA_sl (a := 0) (j := 20) bkX2_prepare_0 rfl) (bA_sl (a := 0) (j := 21) bkX2_prepare_0 rfl) (by decide) (by decide)
theorem dX2_prepare_22 : DR cX2_prepare 22 (.aload_n 0) 1 := dk_42 (bA_sl (a := 0) (j := 22) bkX2_prepare_0 rfl)
theorem dX2_prepare_23 : DR cX2_prepare 23 (.getfield 22) 3 := dk_180 (bA_sl (a := 0) (j := 23) bkX2_prepare_0 rfl) (bA_sl (a := 0) (j := 24) bkX2_prepare_0 rfl) (bA_sl (a := 0) (j := 25) bkX2_prepare_0 rfl) (by decide) rfl
theorem dX2_prepare_26 : DR cX2_prepare 26 (.iload 4) 2 := dk_21 (bA_sl (a := 0) (j := 26) bkX2_prepare_0 rfl) (bA_sl (a := 0) (j := 27) bkX2_prepare_0 rfl) (by decide)
theorem dX2_prepare_28 : DR cX2_prepare 28 (.aload_n 0) 1 := dk_42 (bA_sl (a := 0) (j := 28) bkX2_prepare_0 rfl)
theorem dX2_prepare_29 : DR cX2_prepare 29 (.aload_n 1) 1 := dk_43 (bA_sl (a := 0) (j := 29) bkX2_prepare_0 rfl)
theorem dX2_prepare_30 : DR cX2_prepare 30 (.getfield 53) 3 := dk_180 (bA_sl (a := 0) (j := 30) bkX2_prepare_0 rfl) (bA_sl (a := 0) (j := 31) bkX2_prepare_0 rfl) (bA_sl (a := 0) (j := 32) bkX2_prepare_0 rfl) (by decide) rfl
theorem dX2_prepare_33 : DR cX2_prepare 33 (.iload 4) 2 := dk_21 (bA_sl (a := 0) (j := 33) bkX2_prepare_0 rfl) (bA_sl (a := 0) (j := 34) bkX2_prepare_0 rfl) (by decide)
theorem dX2_prepare_35 : DR cX2_prepare 35 (.iaload) 1 := dk_46 (bA_sl (a := 0) (j := 35) bkX2_prepare_0 rfl)
theorem dX2_prepare_36 : DR cX2_prepare 36 (.iload_n 3) 1 := dk_29 (bA_sl (a := 0) (j := 36) bkX2_prepare_0 rfl)
theorem dX2_prepare_37 : DR cX2_prepare 37 (.invokevirtual 56) 3 := dk_182 (bA_sl (a := 0) (j := 37) bkX2_prepare_0 rfl) (bA_sl (a := 0) (j := 38) bkX2_prepare_0 rfl) (bA_sl (a := 0) (j := 39) bkX2_prepare_0 rfl) (by decide) rfl
theorem dX2_prepare_40 : DR cX2_prepare 40 (.iastore) 1 := dk_79 (bA_sl (a := 0) (j := 40) bkX2_prepare_0 rfl)
theorem dX2_prepare_41 : DR cX2_prepare 41 (.iinc 4 1) 3 := dk_132 (bA_sl (a := 0) (j := 41) bkX2_prepare_0 rfl) (bA_sl (a := 0) (j := 42) bkX2_prepare_0 rfl) (bA_sl (a := 0) (j := 43) bkX2_prepare_0 rfl) (by decide) (by decide)
theorem dX2_prepare_44 : DR cX2_prepare 44 (.goto (-31)) 3 := dk_167 (bA_sl (a := 0) (j := 44) bkX2_prepare_0 rfl) (bA_sl (a := 0) (j := 45) bkX2_prepare_0 rfl) (bA_sl (a := 0) (j := 46) bkX2_prepare_0 rfl) (by decide) (by decide)
theorem dX2_prepare_47 : DR cX2_prepare 47 (.aload_n 0) 1 := dk_42 (bA_sl (a := 0) (j := 47) bkX2_prepare_0 rfl)
theorem dX2_prepare_48 : DR cX2_prepare 48 (.aload_n 0) 1 := dk_42 (bA_sl (a := 0) (j := 48) bkX2_prepare_0 rfl)
theorem dX2_prepare_49 : DR cX2_prepare 49 (.getfield 26) 3 := dk_180 (bA_sl (a := 0) (j := 49) bkX2_prepare_0 rfl) (bA_sl (a := 0) (j := 50) bkX2_prepare_0 rfl) (bA_sl (a := 0) (j := 51) bkX2_prepare_0 rfl) (by decide) rfl
theorem dX2_prepare_52 : DR cX2_prepare 52 (.iconst 0) 1 := dk_3 (bA_sl (a := 0) (j := 52) bkX2_prepare_0 rfl)
theorem dX2_prepare_53 : DR cX2_prepare 53 (.invokevirtual 60) 3 := dk_182 (bA_sl (a := 0) (j := 53) bkX2_prepare_0 rfl) (bA_sl (a := 0) (j := 54) bkX2_prepare_0 rfl) (bA_sl (a := 0) (j := 55) bkX2_prepare_0 rfl) (by decide) rfl
theorem dX2_prepare_56 : DR cX2_prepare 56 (.iconst 0) 1 := dk_3 (bA_sl (a := 0) (j := 56) bkX2_prepare_0 rfl)
theorem dX2_prepare_57 : DR cX2_prepare 57 (.istore 4) 2 := dk_54 (bA_sl (a := 0) (j := 57) bkX2_prepare_0 rfl) (bA_sl (a := 0) (j := 58) bkX2_prepare_0 rfl) (by decide)
theorem dX2_prepare_59 : DR cX2_prepare 59 (.iload 4) 2 := dk_21 (bA_sl (a := 0) (j := 59) bkX2_prepare_0 rfl) (bA_sl (a := 0) (j := 60) bkX2_prepare_0 rfl) (by decide)
theorem dX2_prepare_61 : DR cX2_prepare 61 (.aload_n 1) 1 := dk_43 (bA_sl (a := 0) (j := 61) bkX2_prepare_0 rfl)
theorem bkX2_prepare_1 : ((cX2_prepare.data.toList.drop 64).take 64).map UInt8.toNat = [50, 162, 0, 22, 42, 180, 0, 29, 21, 4, 42, 21, 4, 182, 0, 64, 79, 132, 4, 1, 167, 255, 231, 177] := by decide +kernel
theorem dX2_prepare_62 : DR cX2_prepare 62 (.getfield 50) 3 := dk_180 (bA_sl (a := 0) (j := 62) bkX2_prepare_0 rfl) (bA_sl (a := 0) (j := 63) bkX2_prepare_0 rfl) (bA_sl (a := 64) (j := 0) bkX2_prepare_1 rfl) (by decide) rfl
theorem dX2_prepare_65 : DR cX2_prepare 65 (.if_icmp .ge 22) 3 := dk_162 (bA_sl (a := 64) (j := 1) bkX2_prepare_1 rfl) (bA_sl (a := 64) (j := 2) bkX2_prepare_1 rfl) (bA_sl (a := 64) (j := 3) bkX2_prepare_1 rfl) (by decide) (by decide)
theorem dX2_prepare_68 : DR cX2_prepare 68 (.aload_n 0) 1 := dk_42 (bA_sl (a := 64) (j := 4) bkX2_prepare_1 rfl)
theorem dX2_prepare_69 : DR cX2_prepare 69 (.getfield 29) 3 := dk_180 (bA_sl (a := 64) (j := 5) bkX2_prepare_1 rfl) (bA_sl (a := 64) (j := 6) bkX2_prepare_1 rfl) (bA_sl (a := 64) (j := 7) bkX2_prepare_1 rfl) (by decide) rfl
theorem dX2_prepare_72 : DR cX2_prepare 72 (.iload 4) 2 := dk_21 (bA_sl (a := 64) (j := 8) bkX2_prepare_1 rfl) (bA_sl (a := 64) (j := 9) bkX2_prepare_1 rfl) (by decide)
theorem dX2_prepare_74 : DR cX2_prepare 74 (.aload_n 0) 1 := dk_42 (bA_sl (a := 64) (j := 10) bkX2_prepare_1 rfl)
theorem dX2_prepare_75 : DR cX2_prepare 75 (.iload 4) 2 := dk_21 (bA_sl (a := 64) (j := 11) bkX2_prepare_1 rfl) (bA_sl (a := 64) (j := 12) bkX2_prepare_1 rfl) (by decide)
theorem dX2_prepare_77 : DR cX2_prepare 77 (.invokevirtual 64) 3 := dk_182 (bA_sl (a := 64) (j := 13) bkX2_prepare_1 rfl) (bA_sl (a := 64) (j := 14) bkX2_prepare_1 rfl) (bA_sl (a := 64) (j := 15) bkX2_prepare_1 rfl) (by decide) rfl
theorem dX2_prepare_80 : DR cX2_prepare 80 (.iastore) 1 := dk_79 (bA_sl (a := 64) (j := 16) bkX2_prepare_1 rfl)
theorem dX2_prepare_81 : DR cX2_prepare 81 (.iinc 4 1) 3 := dk_132 (bA_sl (a := 64) (j := 17) bkX2_prepare_1 rfl) (bA_sl (a := 64) (j := 18) bkX2_prepare_1 rfl) (bA_sl (a := 64) (j := 19) bkX2_prepare_1 rfl) (by decide) (by decide)
theorem dX2_prepare_84 : DR cX2_prepare 84 (.goto (-25)) 3 := dk_167 (bA_sl (a := 64) (j := 20) bkX2_prepare_1 rfl) (bA_sl (a := 64) (j := 21) bkX2_prepare_1 rfl) (bA_sl (a := 64) (j := 22) bkX2_prepare_1 rfl) (by decide) (by decide)
theorem dX2_prepare_87 : DR cX2_prepare 87 (.return_) 1 := dk_177 (bA_sl (a := 64) (j := 23) bkX2_prepare_1 rfl)
theorem bkX2_firstWorth_0 : ((cX2_firstWorth.data.toList.drop 0).take 64).map UInt8.toNat = [3, 61, 3, 62, 29, 42, 180, 0, 12, 180, 0, 50, 162, 0, 42, 28, 42, 180, 0, 22, 29, 46, 42, 180, 0, 26, 27, 16, 16, 104, 29, 96, 46, 42, 180, 0, 12, 180, 0, 68, 29, 46, 184, 0, 71, 104, 96, 61, 132, 3, 1, 167, 255, 209, 28, 172] := by decide +kernel
theorem dX2_firstWorth_0 : DR cX2_firstWorth 0 (.iconst 0) 1 := dk_3 (bA_sl (a := 0) (j := 0) bkX2_firstWorth_0 rfl)
theorem dX2_firstWorth_1 : DR cX2_firstWorth 1 (.istore_n 2) 1 := dk_61 (bA_sl (a := 0) (j := 1) bkX2_firstWorth_0 rfl)
theorem dX2_firstWorth_2 : DR cX2_firstWorth 2 (.iconst 0) 1 := dk_3 (bA_sl (a := 0) (j := 2) bkX2_firstWorth_0 rfl)
theorem dX2_firstWorth_3 : DR cX2_firstWorth 3 (.istore_n 3) 1 := dk_62 (bA_sl (a := 0) (j := 3) bkX2_firstWorth_0 rfl)
theorem dX2_firstWorth_4 : DR cX2_firstWorth 4 (.iload_n 3) 1 := dk_29 (bA_sl (a := 0) (j := 4) bkX2_firstWorth_0 rfl)
theorem dX2_firstWorth_5 : DR cX2_firstWorth 5 (.aload_n 0) 1 := dk_42 (bA_sl (a := 0) (j := 5) bkX2_firstWorth_0 rfl)
theorem dX2_firstWorth_6 : DR cX2_firstWorth 6 (.getfield 12) 3 := dk_180 (bA_sl (a := 0) (j := 6) bkX2_firstWorth_0 rfl) (bA_sl (a := 0) (j := 7) bkX2_firstWorth_0 rfl) (bA_sl (a := 0) (j := 8) bkX2_firstWorth_0 rfl) (by decide) rfl
theorem dX2_firstWorth_9 : DR cX2_firstWorth 9 (.getfield 50) 3 := dk_180 (bA_sl (a := 0) (j := 9) bkX2_firstWorth_0 rfl) (bA_sl (a := 0) (j := 10) bkX2_firstWorth_0 rfl) (bA_sl (a := 0) (j := 11) bkX2_firstWorth_0 rfl) (by decide) rfl
theorem dX2_firstWorth_12 : DR cX2_firstWorth 12 (.if_icmp .ge 42) 3 := dk_162 (bA_sl (a := 0) (j := 12) bkX2_firstWorth_0 rfl) (bA_sl (a := 0) (j := 13) bkX2_firstWorth_0 rfl) (bA_sl (a := 0) (j := 14) bkX2_firstWorth_0 rfl) (by decide) (by decide)
theorem dX2_firstWorth_15 : DR cX2_firstWorth 15 (.iload_n 2) 1 := dk_28 (bA_sl (a := 0) (j := 15) bkX2_firstWorth_0 rfl)
theorem dX2_firstWorth_16 : DR cX2_firstWorth 16 (.aload_n 0) 1 := dk_42 (bA_sl (a := 0) (j := 16) bkX2_firstWorth_0 rfl)
theorem dX2_firstWorth_17 : DR cX2_firstWorth 17 (.getfield 22) 3 := dk_180 (bA_sl (a := 0) (j := 17) bkX2_firstWorth_0 rfl) (bA_sl (a := 0) (j := 18) bkX2_firstWorth_0 rfl) (bA_sl (a := 0) (j := 19) bkX2_firstWorth_0 rfl) (by decide) rfl
theorem dX2_firstWorth_20 : DR cX2_firstWorth 20 (.iload_n 3) 1 := dk_29 (bA_sl (a := 0) (j := 20) bkX2_firstWorth_0 rfl)
theorem dX2_firstWorth_21 : DR cX2_firstWorth 21 (.iaload) 1 := dk_46 (bA_sl (a := 0) (j := 21) bkX2_firstWorth_0 rfl)
theorem dX2_firstWorth_22 : DR cX2_firstWorth 22 (.aload_n 0) 1 := dk_42 (bA_sl (a := 0) (j := 22) bkX2_firstWorth_0 rfl)
theorem dX2_firstWorth_23 : DR cX2_firstWorth 23 (.getfield 26) 3 := dk_180 (bA_sl (a := 0) (j := 23) bkX2_firstWorth_0 rfl) (bA_sl (a := 0) (j := 24) bkX2_firstWorth_0 rfl) (bA_sl (a := 0) (j := 25) bkX2_firstWorth_0 rfl) (by decide) rfl
theorem dX2_firstWorth_26 : DR cX2_firstWorth 26 (.iload_n 1) 1 := dk_27 (bA_sl (a := 0) (j := 26) bkX2_firstWorth_0 rfl)
theorem dX2_firstWorth_27 : DR cX2_firstWorth 27 (.bipush 16) 2 := dk_16 (bA_sl (a := 0) (j := 27) bkX2_firstWorth_0 rfl) (bA_sl (a := 0) (j := 28) bkX2_firstWorth_0 rfl) (by decide) (by decide)
theorem dX2_firstWorth_29 : DR cX2_firstWorth 29 (.imul) 1 := dk_104 (bA_sl (a := 0) (j := 29) bkX2_firstWorth_0 rfl)
theorem dX2_firstWorth_30 : DR cX2_firstWorth 30 (.iload_n 3) 1 := dk_29 (bA_sl (a := 0) (j := 30) bkX2_firstWorth_0 rfl)
theorem dX2_firstWorth_31 : DR cX2_firstWorth 31 (.iadd) 1 := dk_96 (bA_sl (a := 0) (j := 31) bkX2_firstWorth_0 rfl)
theorem dX2_firstWorth_32 : DR cX2_firstWorth 32 (.iaload) 1 := dk_46 (bA_sl (a := 0) (j := 32) bkX2_firstWorth_0 rfl)
theorem dX2_firstWorth_33 : DR cX2_firstWorth 33 (.aload_n 0) 1 := dk_42 (bA_sl (a := 0) (j := 33) bkX2_firstWorth_0 rfl)
theorem dX2_firstWorth_34 : DR cX2_firstWorth 34 (.getfield 12) 3 := dk_180 (bA_sl (a := 0) (j := 34) bkX2_firstWorth_0 rfl) (bA_sl (a := 0) (j := 35) bkX2_firstWorth_0 rfl) (bA_sl (a := 0) (j := 36) bkX2_firstWorth_0 rfl) (by decide) rfl
theorem dX2_firstWorth_37 : DR cX2_firstWorth 37 (.getfield 68) 3 := dk_180 (bA_sl (a := 0) (j := 37) bkX2_firstWorth_0 rfl) (bA_sl (a := 0) (j := 38) bkX2_firstWorth_0 rfl) (bA_sl (a := 0) (j := 39) bkX2_firstWorth_0 rfl) (by decide) rfl
theorem dX2_firstWorth_40 : DR cX2_firstWorth 40 (.iload_n 3) 1 := dk_29 (bA_sl (a := 0) (j := 40) bkX2_firstWorth_0 rfl)
theorem dX2_firstWorth_41 : DR cX2_firstWorth 41 (.iaload) 1 := dk_46 (bA_sl (a := 0) (j := 41) bkX2_firstWorth_0 rfl)
theorem dX2_firstWorth_42 : DR cX2_firstWorth 42 (.invokestatic 71) 3 := dk_184 (bA_sl (a := 0) (j := 42) bkX2_firstWorth_0 rfl) (bA_sl (a := 0) (j := 43) bkX2_firstWorth_0 rfl) (bA_sl (a := 0) (j := 44) bkX2_firstWorth_0 rfl) (by decide) rfl
theorem dX2_firstWorth_45 : DR cX2_firstWorth 45 (.imul) 1 := dk_104 (bA_sl (a := 0) (j := 45) bkX2_firstWorth_0 rfl)
theorem dX2_firstWorth_46 : DR cX2_firstWorth 46 (.iadd) 1 := dk_96 (bA_sl (a := 0) (j := 46) bkX2_firstWorth_0 rfl)
theorem dX2_firstWorth_47 : DR cX2_firstWorth 47 (.istore_n 2) 1 := dk_61 (bA_sl (a := 0) (j := 47) bkX2_firstWorth_0 rfl)
theorem dX2_firstWorth_48 : DR cX2_firstWorth 48 (.iinc 3 1) 3 := dk_132 (bA_sl (a := 0) (j := 48) bkX2_firstWorth_0 rfl) (bA_sl (a := 0) (j := 49) bkX2_firstWorth_0 rfl) (bA_sl (a := 0) (j := 50) bkX2_firstWorth_0 rfl) (by decide) (by decide)
theorem dX2_firstWorth_51 : DR cX2_firstWorth 51 (.goto (-47)) 3 := dk_167 (bA_sl (a := 0) (j := 51) bkX2_firstWorth_0 rfl) (bA_sl (a := 0) (j := 52) bkX2_firstWorth_0 rfl) (bA_sl (a := 0) (j := 53) bkX2_firstWorth_0 rfl) (by decide) (by decide)
theorem dX2_firstWorth_54 : DR cX2_firstWorth 54 (.iload_n 2) 1 := dk_28 (bA_sl (a := 0) (j := 54) bkX2_firstWorth_0 rfl)
theorem dX2_firstWorth_55 : DR cX2_firstWorth 55 (.ireturn) 1 := dk_172 (bA_sl (a := 0) (j := 55) bkX2_firstWorth_0 rfl)
theorem bkX2_weightOf_0 : ((cX2_weightOf.data.toList.drop 0).take 64).map UInt8.toNat = [42, 180, 0, 18, 4, 160, 0, 22, 27, 28, 160, 0, 7, 3, 167, 0, 12, 42, 180, 0, 12, 180, 0, 76, 27, 46, 172, 42, 180, 0, 18, 6, 160, 0, 8, 27, 28, 160, 0, 7, 4, 167, 0, 4, 3, 172] := by decide +kernel
theorem dX2_weightOf_0 : DR cX2_weightOf 0 (.aload_n 0) 1 := dk_42 (bA_sl (a := 0) (j := 0) bkX2_weightOf_0 rfl)
theorem dX2_weightOf_1 : DR cX2_weightOf 1 (.getfield 18) 3 := dk_180 (bA_sl (a := 0) (j := 1) bkX2_weightOf_0 rfl) (bA_sl (a := 0) (j := 2) bkX2_weightOf_0 rfl) (bA_sl (a := 0) (j := 3) bkX2_weightOf_0 rfl) (by decide) rfl
theorem dX2_weightOf_4 : DR cX2_weightOf 4 (.iconst 1) 1 := dk_4 (bA_sl (a := 0) (j := 4) bkX2_weightOf_0 rfl)
theorem dX2_weightOf_5 : DR cX2_weightOf 5 (.if_icmp .ne 22) 3 := dk_160 (bA_sl (a := 0) (j := 5) bkX2_weightOf_0 rfl) (bA_sl (a := 0) (j := 6) bkX2_weightOf_0 rfl) (bA_sl (a := 0) (j := 7) bkX2_weightOf_0 rfl) (by decide) (by decide)
theorem dX2_weightOf_8 : DR cX2_weightOf 8 (.iload_n 1) 1 := dk_27 (bA_sl (a := 0) (j := 8) bkX2_weightOf_0 rfl)
theorem dX2_weightOf_9 : DR cX2_weightOf 9 (.iload_n 2) 1 := dk_28 (bA_sl (a := 0) (j := 9) bkX2_weightOf_0 rfl)
theorem dX2_weightOf_10 : DR cX2_weightOf 10 (.if_icmp .ne 7) 3 := dk_160 (bA_sl (a := 0) (j := 10) bkX2_weightOf_0 rfl) (bA_sl (a := 0) (j := 11) bkX2_weightOf_0 rfl) (bA_sl (a := 0) (j := 12) bkX2_weightOf_0 rfl) (by decide) (by decide)
theorem dX2_weightOf_13 : DR cX2_weightOf 13 (.iconst 0) 1 := dk_3 (bA_sl (a := 0) (j := 13) bkX2_weightOf_0 rfl)
theorem dX2_weightOf_14 : DR cX2_weightOf 14 (.goto 12) 3 := dk_167 (bA_sl (a := 0) (j := 14) bkX2_weightOf_0 rfl) (bA_sl (a := 0) (j := 15) bkX2_weightOf_0 rfl) (bA_sl (a := 0) (j := 16) bkX2_weightOf_0 rfl) (by decide) (by decide)
theorem dX2_weightOf_17 : DR cX2_weightOf 17 (.aload_n 0) 1 := dk_42 (bA_sl (a := 0) (j := 17) bkX2_weightOf_0 rfl)
theorem dX2_weightOf_18 : DR cX2_weightOf 18 (.getfield 12) 3 := dk_180 (bA_sl (a := 0) (j := 18) bkX2_weightOf_0 rfl) (bA_sl (a := 0) (j := 19) bkX2_weightOf_0 rfl) (bA_sl (a := 0) (j := 20) bkX2_weightOf_0 rfl) (by decide) rfl
theorem dX2_weightOf_21 : DR cX2_weightOf 21 (.getfield 76) 3 := dk_180 (bA_sl (a := 0) (j := 21) bkX2_weightOf_0 rfl) (bA_sl (a := 0) (j := 22) bkX2_weightOf_0 rfl) (bA_sl (a := 0) (j := 23) bkX2_weightOf_0 rfl) (by decide) rfl
theorem dX2_weightOf_24 : DR cX2_weightOf 24 (.iload_n 1) 1 := dk_27 (bA_sl (a := 0) (j := 24) bkX2_weightOf_0 rfl)
theorem dX2_weightOf_25 : DR cX2_weightOf 25 (.iaload) 1 := dk_46 (bA_sl (a := 0) (j := 25) bkX2_weightOf_0 rfl)
theorem dX2_weightOf_26 : DR cX2_weightOf 26 (.ireturn) 1 := dk_172 (bA_sl (a := 0) (j := 26) bkX2_weightOf_0 rfl)
theorem dX2_weightOf_27 : DR cX2_weightOf 27 (.aload_n 0) 1 := dk_42 (bA_sl (a := 0) (j := 27) bkX2_weightOf_0 rfl)
theorem dX2_weightOf_28 : DR cX2_weightOf 28 (.getfield 18) 3 := dk_180 (bA_sl (a := 0) (j := 28) bkX2_weightOf_0 rfl) (bA_sl (a := 0) (j := 29) bkX2_weightOf_0 rfl) (bA_sl (a := 0) (j := 30) bkX2_weightOf_0 rfl) (by decide) rfl
theorem dX2_weightOf_31 : DR cX2_weightOf 31 (.iconst 3) 1 := dk_6 (bA_sl (a := 0) (j := 31) bkX2_weightOf_0 rfl)
theorem dX2_weightOf_32 : DR cX2_weightOf 32 (.if_icmp .ne 8) 3 := dk_160 (bA_sl (a := 0) (j := 32) bkX2_weightOf_0 rfl) (bA_sl (a := 0) (j := 33) bkX2_weightOf_0 rfl) (bA_sl (a := 0) (j := 34) bkX2_weightOf_0 rfl) (by decide) (by decide)
theorem dX2_weightOf_35 : DR cX2_weightOf 35 (.iload_n 1) 1 := dk_27 (bA_sl (a := 0) (j := 35) bkX2_weightOf_0 rfl)
theorem dX2_weightOf_36 : DR cX2_weightOf 36 (.iload_n 2) 1 := dk_28 (bA_sl (a := 0) (j := 36) bkX2_weightOf_0 rfl)
theorem dX2_weightOf_37 : DR cX2_weightOf 37 (.if_icmp .ne 7) 3 := dk_160 (bA_sl (a := 0) (j := 37) bkX2_weightOf_0 rfl) (bA_sl (a := 0) (j := 38) bkX2_weightOf_0 rfl) (bA_sl (a := 0) (j := 39) bkX2_weightOf_0 rfl) (by decide) (by decide)
theorem dX2_weightOf_40 : DR cX2_weightOf 40 (.iconst 1) 1 := dk_4 (bA_sl (a := 0) (j := 40) bkX2_weightOf_0 rfl)
theorem dX2_weightOf_41 : DR cX2_weightOf 41 (.goto 4) 3 := dk_167 (bA_sl (a := 0) (j := 41) bkX2_weightOf_0 rfl) (bA_sl (a := 0) (j := 42) bkX2_weightOf_0 rfl) (bA_sl (a := 0) (j := 43) bkX2_weightOf_0 rfl) (by decide) (by decide)
theorem dX2_weightOf_44 : DR cX2_weightOf 44 (.iconst 0) 1 := dk_3 (bA_sl (a := 0) (j := 44) bkX2_weightOf_0 rfl)
theorem dX2_weightOf_45 : DR cX2_weightOf 45 (.ireturn) 1 := dk_172 (bA_sl (a := 0) (j := 45) bkX2_weightOf_0 rfl)
theorem bkX2_fillCaps_0 : ((cX2_fillCaps.data.toList.drop 0).take 64).map UInt8.toNat = [3, 62, 29, 42, 180, 0, 12, 180, 0, 50, 162, 0, 72, 3, 54, 4, 21, 4, 42, 180, 0, 12, 180, 0, 50, 162, 0, 51, 3, 42, 180, 0, 12, 180, 0, 79, 21, 4, 46, 28, 96, 184, 0, 82, 54, 5, 43, 29, 16, 16, 104, 21, 4, 96, 21, 5, 42, 180, 0, 12, 29, 21, 4, 182] := by decide +kernel
theorem dX2_fillCaps_0 : DR cX2_fillCaps 0 (.iconst 0) 1 := dk_3 (bA_sl (a := 0) (j := 0) bkX2_fillCaps_0 rfl)
theorem dX2_fillCaps_1 : DR cX2_fillCaps 1 (.istore_n 3) 1 := dk_62 (bA_sl (a := 0) (j := 1) bkX2_fillCaps_0 rfl)
theorem dX2_fillCaps_2 : DR cX2_fillCaps 2 (.iload_n 3) 1 := dk_29 (bA_sl (a := 0) (j := 2) bkX2_fillCaps_0 rfl)
theorem dX2_fillCaps_3 : DR cX2_fillCaps 3 (.aload_n 0) 1 := dk_42 (bA_sl (a := 0) (j := 3) bkX2_fillCaps_0 rfl)
theorem dX2_fillCaps_4 : DR cX2_fillCaps 4 (.getfield 12) 3 := dk_180 (bA_sl (a := 0) (j := 4) bkX2_fillCaps_0 rfl) (bA_sl (a := 0) (j := 5) bkX2_fillCaps_0 rfl) (bA_sl (a := 0) (j := 6) bkX2_fillCaps_0 rfl) (by decide) rfl
theorem dX2_fillCaps_7 : DR cX2_fillCaps 7 (.getfield 50) 3 := dk_180 (bA_sl (a := 0) (j := 7) bkX2_fillCaps_0 rfl) (bA_sl (a := 0) (j := 8) bkX2_fillCaps_0 rfl) (bA_sl (a := 0) (j := 9) bkX2_fillCaps_0 rfl) (by decide) rfl
theorem dX2_fillCaps_10 : DR cX2_fillCaps 10 (.if_icmp .ge 72) 3 := dk_162 (bA_sl (a := 0) (j := 10) bkX2_fillCaps_0 rfl) (bA_sl (a := 0) (j := 11) bkX2_fillCaps_0 rfl) (bA_sl (a := 0) (j := 12) bkX2_fillCaps_0 rfl) (by decide) (by decide)
theorem dX2_fillCaps_13 : DR cX2_fillCaps 13 (.iconst 0) 1 := dk_3 (bA_sl (a := 0) (j := 13) bkX2_fillCaps_0 rfl)
theorem dX2_fillCaps_14 : DR cX2_fillCaps 14 (.istore 4) 2 := dk_54 (bA_sl (a := 0) (j := 14) bkX2_fillCaps_0 rfl) (bA_sl (a := 0) (j := 15) bkX2_fillCaps_0 rfl) (by decide)
theorem dX2_fillCaps_16 : DR cX2_fillCaps 16 (.iload 4) 2 := dk_21 (bA_sl (a := 0) (j := 16) bkX2_fillCaps_0 rfl) (bA_sl (a := 0) (j := 17) bkX2_fillCaps_0 rfl) (by decide)
theorem dX2_fillCaps_18 : DR cX2_fillCaps 18 (.aload_n 0) 1 := dk_42 (bA_sl (a := 0) (j := 18) bkX2_fillCaps_0 rfl)
theorem dX2_fillCaps_19 : DR cX2_fillCaps 19 (.getfield 12) 3 := dk_180 (bA_sl (a := 0) (j := 19) bkX2_fillCaps_0 rfl) (bA_sl (a := 0) (j := 20) bkX2_fillCaps_0 rfl) (bA_sl (a := 0) (j := 21) bkX2_fillCaps_0 rfl) (by decide) rfl
theorem dX2_fillCaps_22 : DR cX2_fillCaps 22 (.getfield 50) 3 := dk_180 (bA_sl (a := 0) (j := 22) bkX2_fillCaps_0 rfl) (bA_sl (a := 0) (j := 23) bkX2_fillCaps_0 rfl) (bA_sl (a := 0) (j := 24) bkX2_fillCaps_0 rfl) (by decide) rfl
theorem dX2_fillCaps_25 : DR cX2_fillCaps 25 (.if_icmp .ge 51) 3 := dk_162 (bA_sl (a := 0) (j := 25) bkX2_fillCaps_0 rfl) (bA_sl (a := 0) (j := 26) bkX2_fillCaps_0 rfl) (bA_sl (a := 0) (j := 27) bkX2_fillCaps_0 rfl) (by decide) (by decide)
theorem dX2_fillCaps_28 : DR cX2_fillCaps 28 (.iconst 0) 1 := dk_3 (bA_sl (a := 0) (j := 28) bkX2_fillCaps_0 rfl)
theorem dX2_fillCaps_29 : DR cX2_fillCaps 29 (.aload_n 0) 1 := dk_42 (bA_sl (a := 0) (j := 29) bkX2_fillCaps_0 rfl)
theorem dX2_fillCaps_30 : DR cX2_fillCaps 30 (.getfield 12) 3 := dk_180 (bA_sl (a := 0) (j := 30) bkX2_fillCaps_0 rfl) (bA_sl (a := 0) (j := 31) bkX2_fillCaps_0 rfl) (bA_sl (a := 0) (j := 32) bkX2_fillCaps_0 rfl) (by decide) rfl
theorem dX2_fillCaps_33 : DR cX2_fillCaps 33 (.getfield 79) 3 := dk_180 (bA_sl (a := 0) (j := 33) bkX2_fillCaps_0 rfl) (bA_sl (a := 0) (j := 34) bkX2_fillCaps_0 rfl) (bA_sl (a := 0) (j := 35) bkX2_fillCaps_0 rfl) (by decide) rfl
theorem dX2_fillCaps_36 : DR cX2_fillCaps 36 (.iload 4) 2 := dk_21 (bA_sl (a := 0) (j := 36) bkX2_fillCaps_0 rfl) (bA_sl (a := 0) (j := 37) bkX2_fillCaps_0 rfl) (by decide)
theorem dX2_fillCaps_38 : DR cX2_fillCaps 38 (.iaload) 1 := dk_46 (bA_sl (a := 0) (j := 38) bkX2_fillCaps_0 rfl)
theorem dX2_fillCaps_39 : DR cX2_fillCaps 39 (.iload_n 2) 1 := dk_28 (bA_sl (a := 0) (j := 39) bkX2_fillCaps_0 rfl)
theorem dX2_fillCaps_40 : DR cX2_fillCaps 40 (.iadd) 1 := dk_96 (bA_sl (a := 0) (j := 40) bkX2_fillCaps_0 rfl)
theorem dX2_fillCaps_41 : DR cX2_fillCaps 41 (.invokestatic 82) 3 := dk_184 (bA_sl (a := 0) (j := 41) bkX2_fillCaps_0 rfl) (bA_sl (a := 0) (j := 42) bkX2_fillCaps_0 rfl) (bA_sl (a := 0) (j := 43) bkX2_fillCaps_0 rfl) (by decide) rfl
theorem dX2_fillCaps_44 : DR cX2_fillCaps 44 (.istore 5) 2 := dk_54 (bA_sl (a := 0) (j := 44) bkX2_fillCaps_0 rfl) (bA_sl (a := 0) (j := 45) bkX2_fillCaps_0 rfl) (by decide)
theorem dX2_fillCaps_46 : DR cX2_fillCaps 46 (.aload_n 1) 1 := dk_43 (bA_sl (a := 0) (j := 46) bkX2_fillCaps_0 rfl)
theorem dX2_fillCaps_47 : DR cX2_fillCaps 47 (.iload_n 3) 1 := dk_29 (bA_sl (a := 0) (j := 47) bkX2_fillCaps_0 rfl)
theorem dX2_fillCaps_48 : DR cX2_fillCaps 48 (.bipush 16) 2 := dk_16 (bA_sl (a := 0) (j := 48) bkX2_fillCaps_0 rfl) (bA_sl (a := 0) (j := 49) bkX2_fillCaps_0 rfl) (by decide) (by decide)
theorem dX2_fillCaps_50 : DR cX2_fillCaps 50 (.imul) 1 := dk_104 (bA_sl (a := 0) (j := 50) bkX2_fillCaps_0 rfl)
theorem dX2_fillCaps_51 : DR cX2_fillCaps 51 (.iload 4) 2 := dk_21 (bA_sl (a := 0) (j := 51) bkX2_fillCaps_0 rfl) (bA_sl (a := 0) (j := 52) bkX2_fillCaps_0 rfl) (by decide)
theorem dX2_fillCaps_53 : DR cX2_fillCaps 53 (.iadd) 1 := dk_96 (bA_sl (a := 0) (j := 53) bkX2_fillCaps_0 rfl)
theorem dX2_fillCaps_54 : DR cX2_fillCaps 54 (.iload 5) 2 := dk_21 (bA_sl (a := 0) (j := 54) bkX2_fillCaps_0 rfl) (bA_sl (a := 0) (j := 55) bkX2_fillCaps_0 rfl) (by decide)
theorem dX2_fillCaps_56 : DR cX2_fillCaps 56 (.aload_n 0) 1 := dk_42 (bA_sl (a := 0) (j := 56) bkX2_fillCaps_0 rfl)
theorem dX2_fillCaps_57 : DR cX2_fillCaps 57 (.getfield 12) 3 := dk_180 (bA_sl (a := 0) (j := 57) bkX2_fillCaps_0 rfl) (bA_sl (a := 0) (j := 58) bkX2_fillCaps_0 rfl) (bA_sl (a := 0) (j := 59) bkX2_fillCaps_0 rfl) (by decide) rfl
theorem dX2_fillCaps_60 : DR cX2_fillCaps 60 (.iload_n 3) 1 := dk_29 (bA_sl (a := 0) (j := 60) bkX2_fillCaps_0 rfl)
theorem dX2_fillCaps_61 : DR cX2_fillCaps 61 (.iload 4) 2 := dk_21 (bA_sl (a := 0) (j := 61) bkX2_fillCaps_0 rfl) (bA_sl (a := 0) (j := 62) bkX2_fillCaps_0 rfl) (by decide)
theorem bkX2_fillCaps_1 : ((cX2_fillCaps.data.toList.drop 64).take 64).map UInt8.toNat = [0, 85, 184, 0, 71, 79, 132, 4, 1, 167, 255, 199, 132, 3, 1, 167, 255, 179, 177] := by decide +kernel
theorem dX2_fillCaps_63 : DR cX2_fillCaps 63 (.invokevirtual 85) 3 := dk_182 (bA_sl (a := 0) (j := 63) bkX2_fillCaps_0 rfl) (bA_sl (a := 64) (j := 0) bkX2_fillCaps_1 rfl) (bA_sl (a := 64) (j := 1) bkX2_fillCaps_1 rfl) (by decide) rfl
theorem dX2_fillCaps_66 : DR cX2_fillCaps 66 (.invokestatic 71) 3 := dk_184 (bA_sl (a := 64) (j := 2) bkX2_fillCaps_1 rfl) (bA_sl (a := 64) (j := 3) bkX2_fillCaps_1 rfl) (bA_sl (a := 64) (j := 4) bkX2_fillCaps_1 rfl) (by decide) rfl
theorem dX2_fillCaps_69 : DR cX2_fillCaps 69 (.iastore) 1 := dk_79 (bA_sl (a := 64) (j := 5) bkX2_fillCaps_1 rfl)
theorem dX2_fillCaps_70 : DR cX2_fillCaps 70 (.iinc 4 1) 3 := dk_132 (bA_sl (a := 64) (j := 6) bkX2_fillCaps_1 rfl) (bA_sl (a := 64) (j := 7) bkX2_fillCaps_1 rfl) (bA_sl (a := 64) (j := 8) bkX2_fillCaps_1 rfl) (by decide) (by decide)
theorem dX2_fillCaps_73 : DR cX2_fillCaps 73 (.goto (-57)) 3 := dk_167 (bA_sl (a := 64) (j := 9) bkX2_fillCaps_1 rfl) (bA_sl (a := 64) (j := 10) bkX2_fillCaps_1 rfl) (bA_sl (a := 64) (j := 11) bkX2_fillCaps_1 rfl) (by decide) (by decide)
theorem dX2_fillCaps_76 : DR cX2_fillCaps 76 (.iinc 3 1) 3 := dk_132 (bA_sl (a := 64) (j := 12) bkX2_fillCaps_1 rfl) (bA_sl (a := 64) (j := 13) bkX2_fillCaps_1 rfl) (bA_sl (a := 64) (j := 14) bkX2_fillCaps_1 rfl) (by decide) (by decide)
theorem dX2_fillCaps_79 : DR cX2_fillCaps 79 (.goto (-77)) 3 := dk_167 (bA_sl (a := 64) (j := 15) bkX2_fillCaps_1 rfl) (bA_sl (a := 64) (j := 16) bkX2_fillCaps_1 rfl) (bA_sl (a := 64) (j := 17) bkX2_fillCaps_1 rfl) (by decide) (by decide)
theorem dX2_fillCaps_82 : DR cX2_fillCaps 82 (.return_) 1 := dk_177 (bA_sl (a := 64) (j := 18) bkX2_fillCaps_1 rfl)
theorem bkX2_seekBest_0 : ((cX2_seekBest.data.toList.drop 0).take 64).map UInt8.toNat = [42, 29, 181, 0, 44, 43, 28, 182, 0, 88, 54, 4, 43, 28, 182, 0, 93, 54, 5, 21, 5, 21, 4, 162, 0, 94, 43, 180, 0, 96, 21, 5, 51, 153, 0, 6, 167, 0, 75, 42, 43, 180, 0, 100, 21, 5, 47, 182, 0, 104, 42, 180, 0, 18, 5, 159, 0, 14, 42, 182, 0, 108, 42, 180] := by decide +kernel
theorem dX2_seekBest_0 : DR cX2_seekBest 0 (.aload_n 0) 1 := dk_42 (bA_sl (a := 0) (j := 0) bkX2_seekBest_0 rfl)
theorem dX2_seekBest_1 : DR cX2_seekBest 1 (.iload_n 3) 1 := dk_29 (bA_sl (a := 0) (j := 1) bkX2_seekBest_0 rfl)
theorem dX2_seekBest_2 : DR cX2_seekBest 2 (.putfield 44) 3 := dk_181 (bA_sl (a := 0) (j := 2) bkX2_seekBest_0 rfl) (bA_sl (a := 0) (j := 3) bkX2_seekBest_0 rfl) (bA_sl (a := 0) (j := 4) bkX2_seekBest_0 rfl) (by decide) rfl
theorem dX2_seekBest_5 : DR cX2_seekBest 5 (.aload_n 1) 1 := dk_43 (bA_sl (a := 0) (j := 5) bkX2_seekBest_0 rfl)
theorem dX2_seekBest_6 : DR cX2_seekBest 6 (.iload_n 2) 1 := dk_28 (bA_sl (a := 0) (j := 6) bkX2_seekBest_0 rfl)
theorem dX2_seekBest_7 : DR cX2_seekBest 7 (.invokevirtual 88) 3 := dk_182 (bA_sl (a := 0) (j := 7) bkX2_seekBest_0 rfl) (bA_sl (a := 0) (j := 8) bkX2_seekBest_0 rfl) (bA_sl (a := 0) (j := 9) bkX2_seekBest_0 rfl) (by decide) rfl
theorem dX2_seekBest_10 : DR cX2_seekBest 10 (.istore 4) 2 := dk_54 (bA_sl (a := 0) (j := 10) bkX2_seekBest_0 rfl) (bA_sl (a := 0) (j := 11) bkX2_seekBest_0 rfl) (by decide)
theorem dX2_seekBest_12 : DR cX2_seekBest 12 (.aload_n 1) 1 := dk_43 (bA_sl (a := 0) (j := 12) bkX2_seekBest_0 rfl)
theorem dX2_seekBest_13 : DR cX2_seekBest 13 (.iload_n 2) 1 := dk_28 (bA_sl (a := 0) (j := 13) bkX2_seekBest_0 rfl)
theorem dX2_seekBest_14 : DR cX2_seekBest 14 (.invokevirtual 93) 3 := dk_182 (bA_sl (a := 0) (j := 14) bkX2_seekBest_0 rfl) (bA_sl (a := 0) (j := 15) bkX2_seekBest_0 rfl) (bA_sl (a := 0) (j := 16) bkX2_seekBest_0 rfl) (by decide) rfl
theorem dX2_seekBest_17 : DR cX2_seekBest 17 (.istore 5) 2 := dk_54 (bA_sl (a := 0) (j := 17) bkX2_seekBest_0 rfl) (bA_sl (a := 0) (j := 18) bkX2_seekBest_0 rfl) (by decide)
theorem dX2_seekBest_19 : DR cX2_seekBest 19 (.iload 5) 2 := dk_21 (bA_sl (a := 0) (j := 19) bkX2_seekBest_0 rfl) (bA_sl (a := 0) (j := 20) bkX2_seekBest_0 rfl) (by decide)
theorem dX2_seekBest_21 : DR cX2_seekBest 21 (.iload 4) 2 := dk_21 (bA_sl (a := 0) (j := 21) bkX2_seekBest_0 rfl) (bA_sl (a := 0) (j := 22) bkX2_seekBest_0 rfl) (by decide)
theorem dX2_seekBest_23 : DR cX2_seekBest 23 (.if_icmp .ge 94) 3 := dk_162 (bA_sl (a := 0) (j := 23) bkX2_seekBest_0 rfl) (bA_sl (a := 0) (j := 24) bkX2_seekBest_0 rfl) (bA_sl (a := 0) (j := 25) bkX2_seekBest_0 rfl) (by decide) (by decide)
theorem dX2_seekBest_26 : DR cX2_seekBest 26 (.aload_n 1) 1 := dk_43 (bA_sl (a := 0) (j := 26) bkX2_seekBest_0 rfl)
theorem dX2_seekBest_27 : DR cX2_seekBest 27 (.getfield 96) 3 := dk_180 (bA_sl (a := 0) (j := 27) bkX2_seekBest_0 rfl) (bA_sl (a := 0) (j := 28) bkX2_seekBest_0 rfl) (bA_sl (a := 0) (j := 29) bkX2_seekBest_0 rfl) (by decide) rfl
theorem dX2_seekBest_30 : DR cX2_seekBest 30 (.iload 5) 2 := dk_21 (bA_sl (a := 0) (j := 30) bkX2_seekBest_0 rfl) (bA_sl (a := 0) (j := 31) bkX2_seekBest_0 rfl) (by decide)
theorem dX2_seekBest_32 : DR cX2_seekBest 32 (.baload) 1 := dk_51 (bA_sl (a := 0) (j := 32) bkX2_seekBest_0 rfl)
theorem dX2_seekBest_33 : DR cX2_seekBest 33 (.ifCond .eq 6) 3 := dk_153 (bA_sl (a := 0) (j := 33) bkX2_seekBest_0 rfl) (bA_sl (a := 0) (j := 34) bkX2_seekBest_0 rfl) (bA_sl (a := 0) (j := 35) bkX2_seekBest_0 rfl) (by decide) (by decide)
theorem dX2_seekBest_36 : DR cX2_seekBest 36 (.goto 75) 3 := dk_167 (bA_sl (a := 0) (j := 36) bkX2_seekBest_0 rfl) (bA_sl (a := 0) (j := 37) bkX2_seekBest_0 rfl) (bA_sl (a := 0) (j := 38) bkX2_seekBest_0 rfl) (by decide) (by decide)
theorem dX2_seekBest_39 : DR cX2_seekBest 39 (.aload_n 0) 1 := dk_42 (bA_sl (a := 0) (j := 39) bkX2_seekBest_0 rfl)
theorem dX2_seekBest_40 : DR cX2_seekBest 40 (.aload_n 1) 1 := dk_43 (bA_sl (a := 0) (j := 40) bkX2_seekBest_0 rfl)
theorem dX2_seekBest_41 : DR cX2_seekBest 41 (.getfield 100) 3 := dk_180 (bA_sl (a := 0) (j := 41) bkX2_seekBest_0 rfl) (bA_sl (a := 0) (j := 42) bkX2_seekBest_0 rfl) (bA_sl (a := 0) (j := 43) bkX2_seekBest_0 rfl) (by decide) rfl
theorem dX2_seekBest_44 : DR cX2_seekBest 44 (.iload 5) 2 := dk_21 (bA_sl (a := 0) (j := 44) bkX2_seekBest_0 rfl) (bA_sl (a := 0) (j := 45) bkX2_seekBest_0 rfl) (by decide)
theorem dX2_seekBest_46 : DR cX2_seekBest 46 (.laload) 1 := dk_47 (bA_sl (a := 0) (j := 46) bkX2_seekBest_0 rfl)
theorem dX2_seekBest_47 : DR cX2_seekBest 47 (.invokevirtual 104) 3 := dk_182 (bA_sl (a := 0) (j := 47) bkX2_seekBest_0 rfl) (bA_sl (a := 0) (j := 48) bkX2_seekBest_0 rfl) (bA_sl (a := 0) (j := 49) bkX2_seekBest_0 rfl) (by decide) rfl
theorem dX2_seekBest_50 : DR cX2_seekBest 50 (.aload_n 0) 1 := dk_42 (bA_sl (a := 0) (j := 50) bkX2_seekBest_0 rfl)
theorem dX2_seekBest_51 : DR cX2_seekBest 51 (.getfield 18) 3 := dk_180 (bA_sl (a := 0) (j := 51) bkX2_seekBest_0 rfl) (bA_sl (a := 0) (j := 52) bkX2_seekBest_0 rfl) (bA_sl (a := 0) (j := 53) bkX2_seekBest_0 rfl) (by decide) rfl
theorem dX2_seekBest_54 : DR cX2_seekBest 54 (.iconst 2) 1 := dk_5 (bA_sl (a := 0) (j := 54) bkX2_seekBest_0 rfl)
theorem dX2_seekBest_55 : DR cX2_seekBest 55 (.if_icmp .eq 14) 3 := dk_159 (bA_sl (a := 0) (j := 55) bkX2_seekBest_0 rfl) (bA_sl (a := 0) (j := 56) bkX2_seekBest_0 rfl) (bA_sl (a := 0) (j := 57) bkX2_seekBest_0 rfl) (by decide) (by decide)
theorem dX2_seekBest_58 : DR cX2_seekBest 58 (.aload_n 0) 1 := dk_42 (bA_sl (a := 0) (j := 58) bkX2_seekBest_0 rfl)
theorem dX2_seekBest_59 : DR cX2_seekBest 59 (.invokevirtual 108) 3 := dk_182 (bA_sl (a := 0) (j := 59) bkX2_seekBest_0 rfl) (bA_sl (a := 0) (j := 60) bkX2_seekBest_0 rfl) (bA_sl (a := 0) (j := 61) bkX2_seekBest_0 rfl) (by decide) rfl
theorem dX2_seekBest_62 : DR cX2_seekBest 62 (.aload_n 0) 1 := dk_42 (bA_sl (a := 0) (j := 62) bkX2_seekBest_0 rfl)
theorem bkX2_seekBest_1 : ((cX2_seekBest.data.toList.drop 64).take 64).map UInt8.toNat = [0, 44, 164, 0, 45, 42, 180, 0, 18, 5, 160, 0, 10, 42, 182, 0, 112, 167, 0, 7, 42, 182, 0, 115, 54, 6, 21, 6, 42, 180, 0, 44, 164, 0, 15, 42, 21, 6, 181, 0, 44, 42, 21, 5, 181, 0, 47, 132, 5, 1, 167, 255, 161, 177] := by decide +kernel
theorem dX2_seekBest_63 : DR cX2_seekBest 63 (.getfield 44) 3 := dk_180 (bA_sl (a := 0) (j := 63) bkX2_seekBest_0 rfl) (bA_sl (a := 64) (j := 0) bkX2_seekBest_1 rfl) (bA_sl (a := 64) (j := 1) bkX2_seekBest_1 rfl) (by decide) rfl
theorem dX2_seekBest_66 : DR cX2_seekBest 66 (.if_icmp .le 45) 3 := dk_164 (bA_sl (a := 64) (j := 2) bkX2_seekBest_1 rfl) (bA_sl (a := 64) (j := 3) bkX2_seekBest_1 rfl) (bA_sl (a := 64) (j := 4) bkX2_seekBest_1 rfl) (by decide) (by decide)
theorem dX2_seekBest_69 : DR cX2_seekBest 69 (.aload_n 0) 1 := dk_42 (bA_sl (a := 64) (j := 5) bkX2_seekBest_1 rfl)
theorem dX2_seekBest_70 : DR cX2_seekBest 70 (.getfield 18) 3 := dk_180 (bA_sl (a := 64) (j := 6) bkX2_seekBest_1 rfl) (bA_sl (a := 64) (j := 7) bkX2_seekBest_1 rfl) (bA_sl (a := 64) (j := 8) bkX2_seekBest_1 rfl) (by decide) rfl
theorem dX2_seekBest_73 : DR cX2_seekBest 73 (.iconst 2) 1 := dk_5 (bA_sl (a := 64) (j := 9) bkX2_seekBest_1 rfl)
theorem dX2_seekBest_74 : DR cX2_seekBest 74 (.if_icmp .ne 10) 3 := dk_160 (bA_sl (a := 64) (j := 10) bkX2_seekBest_1 rfl) (bA_sl (a := 64) (j := 11) bkX2_seekBest_1 rfl) (bA_sl (a := 64) (j := 12) bkX2_seekBest_1 rfl) (by decide) (by decide)
theorem dX2_seekBest_77 : DR cX2_seekBest 77 (.aload_n 0) 1 := dk_42 (bA_sl (a := 64) (j := 13) bkX2_seekBest_1 rfl)
theorem dX2_seekBest_78 : DR cX2_seekBest 78 (.invokevirtual 112) 3 := dk_182 (bA_sl (a := 64) (j := 14) bkX2_seekBest_1 rfl) (bA_sl (a := 64) (j := 15) bkX2_seekBest_1 rfl) (bA_sl (a := 64) (j := 16) bkX2_seekBest_1 rfl) (by decide) rfl
theorem dX2_seekBest_81 : DR cX2_seekBest 81 (.goto 7) 3 := dk_167 (bA_sl (a := 64) (j := 17) bkX2_seekBest_1 rfl) (bA_sl (a := 64) (j := 18) bkX2_seekBest_1 rfl) (bA_sl (a := 64) (j := 19) bkX2_seekBest_1 rfl) (by decide) (by decide)
theorem dX2_seekBest_84 : DR cX2_seekBest 84 (.aload_n 0) 1 := dk_42 (bA_sl (a := 64) (j := 20) bkX2_seekBest_1 rfl)
theorem dX2_seekBest_85 : DR cX2_seekBest 85 (.invokevirtual 115) 3 := dk_182 (bA_sl (a := 64) (j := 21) bkX2_seekBest_1 rfl) (bA_sl (a := 64) (j := 22) bkX2_seekBest_1 rfl) (bA_sl (a := 64) (j := 23) bkX2_seekBest_1 rfl) (by decide) rfl
theorem dX2_seekBest_88 : DR cX2_seekBest 88 (.istore 6) 2 := dk_54 (bA_sl (a := 64) (j := 24) bkX2_seekBest_1 rfl) (bA_sl (a := 64) (j := 25) bkX2_seekBest_1 rfl) (by decide)
theorem dX2_seekBest_90 : DR cX2_seekBest 90 (.iload 6) 2 := dk_21 (bA_sl (a := 64) (j := 26) bkX2_seekBest_1 rfl) (bA_sl (a := 64) (j := 27) bkX2_seekBest_1 rfl) (by decide)
theorem dX2_seekBest_92 : DR cX2_seekBest 92 (.aload_n 0) 1 := dk_42 (bA_sl (a := 64) (j := 28) bkX2_seekBest_1 rfl)
theorem dX2_seekBest_93 : DR cX2_seekBest 93 (.getfield 44) 3 := dk_180 (bA_sl (a := 64) (j := 29) bkX2_seekBest_1 rfl) (bA_sl (a := 64) (j := 30) bkX2_seekBest_1 rfl) (bA_sl (a := 64) (j := 31) bkX2_seekBest_1 rfl) (by decide) rfl
theorem dX2_seekBest_96 : DR cX2_seekBest 96 (.if_icmp .le 15) 3 := dk_164 (bA_sl (a := 64) (j := 32) bkX2_seekBest_1 rfl) (bA_sl (a := 64) (j := 33) bkX2_seekBest_1 rfl) (bA_sl (a := 64) (j := 34) bkX2_seekBest_1 rfl) (by decide) (by decide)
theorem dX2_seekBest_99 : DR cX2_seekBest 99 (.aload_n 0) 1 := dk_42 (bA_sl (a := 64) (j := 35) bkX2_seekBest_1 rfl)
theorem dX2_seekBest_100 : DR cX2_seekBest 100 (.iload 6) 2 := dk_21 (bA_sl (a := 64) (j := 36) bkX2_seekBest_1 rfl) (bA_sl (a := 64) (j := 37) bkX2_seekBest_1 rfl) (by decide)
theorem dX2_seekBest_102 : DR cX2_seekBest 102 (.putfield 44) 3 := dk_181 (bA_sl (a := 64) (j := 38) bkX2_seekBest_1 rfl) (bA_sl (a := 64) (j := 39) bkX2_seekBest_1 rfl) (bA_sl (a := 64) (j := 40) bkX2_seekBest_1 rfl) (by decide) rfl
theorem dX2_seekBest_105 : DR cX2_seekBest 105 (.aload_n 0) 1 := dk_42 (bA_sl (a := 64) (j := 41) bkX2_seekBest_1 rfl)
theorem dX2_seekBest_106 : DR cX2_seekBest 106 (.iload 5) 2 := dk_21 (bA_sl (a := 64) (j := 42) bkX2_seekBest_1 rfl) (bA_sl (a := 64) (j := 43) bkX2_seekBest_1 rfl) (by decide)
theorem dX2_seekBest_108 : DR cX2_seekBest 108 (.putfield 47) 3 := dk_181 (bA_sl (a := 64) (j := 44) bkX2_seekBest_1 rfl) (bA_sl (a := 64) (j := 45) bkX2_seekBest_1 rfl) (bA_sl (a := 64) (j := 46) bkX2_seekBest_1 rfl) (by decide) rfl
theorem dX2_seekBest_111 : DR cX2_seekBest 111 (.iinc 5 1) 3 := dk_132 (bA_sl (a := 64) (j := 47) bkX2_seekBest_1 rfl) (bA_sl (a := 64) (j := 48) bkX2_seekBest_1 rfl) (bA_sl (a := 64) (j := 49) bkX2_seekBest_1 rfl) (by decide) (by decide)
theorem dX2_seekBest_114 : DR cX2_seekBest 114 (.goto (-95)) 3 := dk_167 (bA_sl (a := 64) (j := 50) bkX2_seekBest_1 rfl) (bA_sl (a := 64) (j := 51) bkX2_seekBest_1 rfl) (bA_sl (a := 64) (j := 52) bkX2_seekBest_1 rfl) (by decide) (by decide)
theorem dX2_seekBest_117 : DR cX2_seekBest 117 (.return_) 1 := dk_177 (bA_sl (a := 64) (j := 53) bkX2_seekBest_1 rfl)
theorem bkX2_couldBeWorth_0 : ((cX2_couldBeWorth.data.toList.drop 0).take 64).map UInt8.toNat = [3, 60, 3, 61, 28, 42, 180, 0, 41, 162, 0, 30, 27, 42, 180, 0, 38, 28, 46, 42, 180, 0, 29, 42, 180, 0, 35, 28, 46, 46, 104, 96, 60, 132, 2, 1, 167, 255, 224, 27, 172] := by decide +kernel
theorem dX2_couldBeWorth_0 : DR cX2_couldBeWorth 0 (.iconst 0) 1 := dk_3 (bA_sl (a := 0) (j := 0) bkX2_couldBeWorth_0 rfl)
theorem dX2_couldBeWorth_1 : DR cX2_couldBeWorth 1 (.istore_n 1) 1 := dk_60 (bA_sl (a := 0) (j := 1) bkX2_couldBeWorth_0 rfl)
theorem dX2_couldBeWorth_2 : DR cX2_couldBeWorth 2 (.iconst 0) 1 := dk_3 (bA_sl (a := 0) (j := 2) bkX2_couldBeWorth_0 rfl)
theorem dX2_couldBeWorth_3 : DR cX2_couldBeWorth 3 (.istore_n 2) 1 := dk_61 (bA_sl (a := 0) (j := 3) bkX2_couldBeWorth_0 rfl)
theorem dX2_couldBeWorth_4 : DR cX2_couldBeWorth 4 (.iload_n 2) 1 := dk_28 (bA_sl (a := 0) (j := 4) bkX2_couldBeWorth_0 rfl)
theorem dX2_couldBeWorth_5 : DR cX2_couldBeWorth 5 (.aload_n 0) 1 := dk_42 (bA_sl (a := 0) (j := 5) bkX2_couldBeWorth_0 rfl)
theorem dX2_couldBeWorth_6 : DR cX2_couldBeWorth 6 (.getfield 41) 3 := dk_180 (bA_sl (a := 0) (j := 6) bkX2_couldBeWorth_0 rfl) (bA_sl (a := 0) (j := 7) bkX2_couldBeWorth_0 rfl) (bA_sl (a := 0) (j := 8) bkX2_couldBeWorth_0 rfl) (by decide) rfl
theorem dX2_couldBeWorth_9 : DR cX2_couldBeWorth 9 (.if_icmp .ge 30) 3 := dk_162 (bA_sl (a := 0) (j := 9) bkX2_couldBeWorth_0 rfl) (bA_sl (a := 0) (j := 10) bkX2_couldBeWorth_0 rfl) (bA_sl (a := 0) (j := 11) bkX2_couldBeWorth_0 rfl) (by decide) (by decide)
theorem dX2_couldBeWorth_12 : DR cX2_couldBeWorth 12 (.iload_n 1) 1 := dk_27 (bA_sl (a := 0) (j := 12) bkX2_couldBeWorth_0 rfl)
theorem dX2_couldBeWorth_13 : DR cX2_couldBeWorth 13 (.aload_n 0) 1 := dk_42 (bA_sl (a := 0) (j := 13) bkX2_couldBeWorth_0 rfl)
theorem dX2_couldBeWorth_14 : DR cX2_couldBeWorth 14 (.getfield 38) 3 := dk_180 (bA_sl (a := 0) (j := 14) bkX2_couldBeWorth_0 rfl) (bA_sl (a := 0) (j := 15) bkX2_couldBeWorth_0 rfl) (bA_sl (a := 0) (j := 16) bkX2_couldBeWorth_0 rfl) (by decide) rfl
theorem dX2_couldBeWorth_17 : DR cX2_couldBeWorth 17 (.iload_n 2) 1 := dk_28 (bA_sl (a := 0) (j := 17) bkX2_couldBeWorth_0 rfl)
theorem dX2_couldBeWorth_18 : DR cX2_couldBeWorth 18 (.iaload) 1 := dk_46 (bA_sl (a := 0) (j := 18) bkX2_couldBeWorth_0 rfl)
theorem dX2_couldBeWorth_19 : DR cX2_couldBeWorth 19 (.aload_n 0) 1 := dk_42 (bA_sl (a := 0) (j := 19) bkX2_couldBeWorth_0 rfl)
theorem dX2_couldBeWorth_20 : DR cX2_couldBeWorth 20 (.getfield 29) 3 := dk_180 (bA_sl (a := 0) (j := 20) bkX2_couldBeWorth_0 rfl) (bA_sl (a := 0) (j := 21) bkX2_couldBeWorth_0 rfl) (bA_sl (a := 0) (j := 22) bkX2_couldBeWorth_0 rfl) (by decide) rfl
theorem dX2_couldBeWorth_23 : DR cX2_couldBeWorth 23 (.aload_n 0) 1 := dk_42 (bA_sl (a := 0) (j := 23) bkX2_couldBeWorth_0 rfl)
theorem dX2_couldBeWorth_24 : DR cX2_couldBeWorth 24 (.getfield 35) 3 := dk_180 (bA_sl (a := 0) (j := 24) bkX2_couldBeWorth_0 rfl) (bA_sl (a := 0) (j := 25) bkX2_couldBeWorth_0 rfl) (bA_sl (a := 0) (j := 26) bkX2_couldBeWorth_0 rfl) (by decide) rfl
theorem dX2_couldBeWorth_27 : DR cX2_couldBeWorth 27 (.iload_n 2) 1 := dk_28 (bA_sl (a := 0) (j := 27) bkX2_couldBeWorth_0 rfl)
theorem dX2_couldBeWorth_28 : DR cX2_couldBeWorth 28 (.iaload) 1 := dk_46 (bA_sl (a := 0) (j := 28) bkX2_couldBeWorth_0 rfl)
theorem dX2_couldBeWorth_29 : DR cX2_couldBeWorth 29 (.iaload) 1 := dk_46 (bA_sl (a := 0) (j := 29) bkX2_couldBeWorth_0 rfl)
theorem dX2_couldBeWorth_30 : DR cX2_couldBeWorth 30 (.imul) 1 := dk_104 (bA_sl (a := 0) (j := 30) bkX2_couldBeWorth_0 rfl)
theorem dX2_couldBeWorth_31 : DR cX2_couldBeWorth 31 (.iadd) 1 := dk_96 (bA_sl (a := 0) (j := 31) bkX2_couldBeWorth_0 rfl)
theorem dX2_couldBeWorth_32 : DR cX2_couldBeWorth 32 (.istore_n 1) 1 := dk_60 (bA_sl (a := 0) (j := 32) bkX2_couldBeWorth_0 rfl)
theorem dX2_couldBeWorth_33 : DR cX2_couldBeWorth 33 (.iinc 2 1) 3 := dk_132 (bA_sl (a := 0) (j := 33) bkX2_couldBeWorth_0 rfl) (bA_sl (a := 0) (j := 34) bkX2_couldBeWorth_0 rfl) (bA_sl (a := 0) (j := 35) bkX2_couldBeWorth_0 rfl) (by decide) (by decide)
theorem dX2_couldBeWorth_36 : DR cX2_couldBeWorth 36 (.goto (-32)) 3 := dk_167 (bA_sl (a := 0) (j := 36) bkX2_couldBeWorth_0 rfl) (bA_sl (a := 0) (j := 37) bkX2_couldBeWorth_0 rfl) (bA_sl (a := 0) (j := 38) bkX2_couldBeWorth_0 rfl) (by decide) (by decide)
theorem dX2_couldBeWorth_39 : DR cX2_couldBeWorth 39 (.iload_n 1) 1 := dk_27 (bA_sl (a := 0) (j := 39) bkX2_couldBeWorth_0 rfl)
theorem dX2_couldBeWorth_40 : DR cX2_couldBeWorth 40 (.ireturn) 1 := dk_172 (bA_sl (a := 0) (j := 40) bkX2_couldBeWorth_0 rfl)
theorem bkX2_open_0 : ((cX2_open.data.toList.drop 0).take 64).map UInt8.toNat = [42, 3, 181, 0, 41, 31, 66, 3, 54, 5, 21, 5, 16, 16, 162, 0, 73, 33, 9, 148, 153, 0, 67, 42, 180, 0, 41, 16, 8, 162, 0, 58, 33, 20, 0, 118, 127, 136, 54, 6, 21, 6, 153, 0, 35, 42, 180, 0, 35, 42, 180, 0, 41, 21, 5, 79, 42, 180, 0, 38, 42, 180, 0, 41] := by decide +kernel
theorem dX2_open_0 : DR cX2_open 0 (.aload_n 0) 1 := dk_42 (bA_sl (a := 0) (j := 0) bkX2_open_0 rfl)
theorem dX2_open_1 : DR cX2_open 1 (.iconst 0) 1 := dk_3 (bA_sl (a := 0) (j := 1) bkX2_open_0 rfl)
theorem dX2_open_2 : DR cX2_open 2 (.putfield 41) 3 := dk_181 (bA_sl (a := 0) (j := 2) bkX2_open_0 rfl) (bA_sl (a := 0) (j := 3) bkX2_open_0 rfl) (bA_sl (a := 0) (j := 4) bkX2_open_0 rfl) (by decide) rfl
theorem dX2_open_5 : DR cX2_open 5 (.lload_n 1) 1 := dk_31 (bA_sl (a := 0) (j := 5) bkX2_open_0 rfl)
theorem dX2_open_6 : DR cX2_open 6 (.lstore_n 3) 1 := dk_66 (bA_sl (a := 0) (j := 6) bkX2_open_0 rfl)
theorem dX2_open_7 : DR cX2_open 7 (.iconst 0) 1 := dk_3 (bA_sl (a := 0) (j := 7) bkX2_open_0 rfl)
theorem dX2_open_8 : DR cX2_open 8 (.istore 5) 2 := dk_54 (bA_sl (a := 0) (j := 8) bkX2_open_0 rfl) (bA_sl (a := 0) (j := 9) bkX2_open_0 rfl) (by decide)
theorem dX2_open_10 : DR cX2_open 10 (.iload 5) 2 := dk_21 (bA_sl (a := 0) (j := 10) bkX2_open_0 rfl) (bA_sl (a := 0) (j := 11) bkX2_open_0 rfl) (by decide)
theorem dX2_open_12 : DR cX2_open 12 (.bipush 16) 2 := dk_16 (bA_sl (a := 0) (j := 12) bkX2_open_0 rfl) (bA_sl (a := 0) (j := 13) bkX2_open_0 rfl) (by decide) (by decide)
theorem dX2_open_14 : DR cX2_open 14 (.if_icmp .ge 73) 3 := dk_162 (bA_sl (a := 0) (j := 14) bkX2_open_0 rfl) (bA_sl (a := 0) (j := 15) bkX2_open_0 rfl) (bA_sl (a := 0) (j := 16) bkX2_open_0 rfl) (by decide) (by decide)
theorem dX2_open_17 : DR cX2_open 17 (.lload_n 3) 1 := dk_33 (bA_sl (a := 0) (j := 17) bkX2_open_0 rfl)
theorem dX2_open_18 : DR cX2_open 18 (.lconst 0) 1 := dk_9 (bA_sl (a := 0) (j := 18) bkX2_open_0 rfl)
theorem dX2_open_19 : DR cX2_open 19 (.lcmp) 1 := dk_148 (bA_sl (a := 0) (j := 19) bkX2_open_0 rfl)
theorem dX2_open_20 : DR cX2_open 20 (.ifCond .eq 67) 3 := dk_153 (bA_sl (a := 0) (j := 20) bkX2_open_0 rfl) (bA_sl (a := 0) (j := 21) bkX2_open_0 rfl) (bA_sl (a := 0) (j := 22) bkX2_open_0 rfl) (by decide) (by decide)
theorem dX2_open_23 : DR cX2_open 23 (.aload_n 0) 1 := dk_42 (bA_sl (a := 0) (j := 23) bkX2_open_0 rfl)
theorem dX2_open_24 : DR cX2_open 24 (.getfield 41) 3 := dk_180 (bA_sl (a := 0) (j := 24) bkX2_open_0 rfl) (bA_sl (a := 0) (j := 25) bkX2_open_0 rfl) (bA_sl (a := 0) (j := 26) bkX2_open_0 rfl) (by decide) rfl
theorem dX2_open_27 : DR cX2_open 27 (.bipush 8) 2 := dk_16 (bA_sl (a := 0) (j := 27) bkX2_open_0 rfl) (bA_sl (a := 0) (j := 28) bkX2_open_0 rfl) (by decide) (by decide)
theorem dX2_open_29 : DR cX2_open 29 (.if_icmp .ge 58) 3 := dk_162 (bA_sl (a := 0) (j := 29) bkX2_open_0 rfl) (bA_sl (a := 0) (j := 30) bkX2_open_0 rfl) (bA_sl (a := 0) (j := 31) bkX2_open_0 rfl) (by decide) (by decide)
theorem dX2_open_32 : DR cX2_open 32 (.lload_n 3) 1 := dk_33 (bA_sl (a := 0) (j := 32) bkX2_open_0 rfl)
theorem dX2_open_33 : DR cX2_open 33 (.ldc2_w 118) 3 := dk_20 (bA_sl (a := 0) (j := 33) bkX2_open_0 rfl) (bA_sl (a := 0) (j := 34) bkX2_open_0 rfl) (bA_sl (a := 0) (j := 35) bkX2_open_0 rfl) (by decide) rfl
theorem dX2_open_36 : DR cX2_open 36 (.land) 1 := dk_127 (bA_sl (a := 0) (j := 36) bkX2_open_0 rfl)
theorem dX2_open_37 : DR cX2_open 37 (.l2i) 1 := dk_136 (bA_sl (a := 0) (j := 37) bkX2_open_0 rfl)
theorem dX2_open_38 : DR cX2_open 38 (.istore 6) 2 := dk_54 (bA_sl (a := 0) (j := 38) bkX2_open_0 rfl) (bA_sl (a := 0) (j := 39) bkX2_open_0 rfl) (by decide)
theorem dX2_open_40 : DR cX2_open 40 (.iload 6) 2 := dk_21 (bA_sl (a := 0) (j := 40) bkX2_open_0 rfl) (bA_sl (a := 0) (j := 41) bkX2_open_0 rfl) (by decide)
theorem dX2_open_42 : DR cX2_open 42 (.ifCond .eq 35) 3 := dk_153 (bA_sl (a := 0) (j := 42) bkX2_open_0 rfl) (bA_sl (a := 0) (j := 43) bkX2_open_0 rfl) (bA_sl (a := 0) (j := 44) bkX2_open_0 rfl) (by decide) (by decide)
theorem dX2_open_45 : DR cX2_open 45 (.aload_n 0) 1 := dk_42 (bA_sl (a := 0) (j := 45) bkX2_open_0 rfl)
theorem dX2_open_46 : DR cX2_open 46 (.getfield 35) 3 := dk_180 (bA_sl (a := 0) (j := 46) bkX2_open_0 rfl) (bA_sl (a := 0) (j := 47) bkX2_open_0 rfl) (bA_sl (a := 0) (j := 48) bkX2_open_0 rfl) (by decide) rfl
theorem dX2_open_49 : DR cX2_open 49 (.aload_n 0) 1 := dk_42 (bA_sl (a := 0) (j := 49) bkX2_open_0 rfl)
theorem dX2_open_50 : DR cX2_open 50 (.getfield 41) 3 := dk_180 (bA_sl (a := 0) (j := 50) bkX2_open_0 rfl) (bA_sl (a := 0) (j := 51) bkX2_open_0 rfl) (bA_sl (a := 0) (j := 52) bkX2_open_0 rfl) (by decide) rfl
theorem dX2_open_53 : DR cX2_open 53 (.iload 5) 2 := dk_21 (bA_sl (a := 0) (j := 53) bkX2_open_0 rfl) (bA_sl (a := 0) (j := 54) bkX2_open_0 rfl) (by decide)
theorem dX2_open_55 : DR cX2_open 55 (.iastore) 1 := dk_79 (bA_sl (a := 0) (j := 55) bkX2_open_0 rfl)
theorem dX2_open_56 : DR cX2_open 56 (.aload_n 0) 1 := dk_42 (bA_sl (a := 0) (j := 56) bkX2_open_0 rfl)
theorem dX2_open_57 : DR cX2_open 57 (.getfield 38) 3 := dk_180 (bA_sl (a := 0) (j := 57) bkX2_open_0 rfl) (bA_sl (a := 0) (j := 58) bkX2_open_0 rfl) (bA_sl (a := 0) (j := 59) bkX2_open_0 rfl) (by decide) rfl
theorem dX2_open_60 : DR cX2_open 60 (.aload_n 0) 1 := dk_42 (bA_sl (a := 0) (j := 60) bkX2_open_0 rfl)
theorem dX2_open_61 : DR cX2_open 61 (.getfield 41) 3 := dk_180 (bA_sl (a := 0) (j := 61) bkX2_open_0 rfl) (bA_sl (a := 0) (j := 62) bkX2_open_0 rfl) (bA_sl (a := 0) (j := 63) bkX2_open_0 rfl) (by decide) rfl
theorem bkX2_open_1 : ((cX2_open.data.toList.drop 64).take 64).map UInt8.toNat = [21, 6, 79, 42, 89, 180, 0, 41, 4, 96, 181, 0, 41, 33, 7, 125, 66, 132, 5, 1, 167, 255, 182, 177] := by decide +kernel
theorem dX2_open_64 : DR cX2_open 64 (.iload 6) 2 := dk_21 (bA_sl (a := 64) (j := 0) bkX2_open_1 rfl) (bA_sl (a := 64) (j := 1) bkX2_open_1 rfl) (by decide)
theorem dX2_open_66 : DR cX2_open 66 (.iastore) 1 := dk_79 (bA_sl (a := 64) (j := 2) bkX2_open_1 rfl)
theorem dX2_open_67 : DR cX2_open 67 (.aload_n 0) 1 := dk_42 (bA_sl (a := 64) (j := 3) bkX2_open_1 rfl)
theorem dX2_open_68 : DR cX2_open 68 (.dup) 1 := dk_89 (bA_sl (a := 64) (j := 4) bkX2_open_1 rfl)
theorem dX2_open_69 : DR cX2_open 69 (.getfield 41) 3 := dk_180 (bA_sl (a := 64) (j := 5) bkX2_open_1 rfl) (bA_sl (a := 64) (j := 6) bkX2_open_1 rfl) (bA_sl (a := 64) (j := 7) bkX2_open_1 rfl) (by decide) rfl
theorem dX2_open_72 : DR cX2_open 72 (.iconst 1) 1 := dk_4 (bA_sl (a := 64) (j := 8) bkX2_open_1 rfl)
theorem dX2_open_73 : DR cX2_open 73 (.iadd) 1 := dk_96 (bA_sl (a := 64) (j := 9) bkX2_open_1 rfl)
theorem dX2_open_74 : DR cX2_open 74 (.putfield 41) 3 := dk_181 (bA_sl (a := 64) (j := 10) bkX2_open_1 rfl) (bA_sl (a := 64) (j := 11) bkX2_open_1 rfl) (bA_sl (a := 64) (j := 12) bkX2_open_1 rfl) (by decide) rfl
theorem dX2_open_77 : DR cX2_open 77 (.lload_n 3) 1 := dk_33 (bA_sl (a := 64) (j := 13) bkX2_open_1 rfl)
theorem dX2_open_78 : DR cX2_open 78 (.iconst 4) 1 := dk_7 (bA_sl (a := 64) (j := 14) bkX2_open_1 rfl)
theorem dX2_open_79 : DR cX2_open 79 (.lushr) 1 := dk_125 (bA_sl (a := 64) (j := 15) bkX2_open_1 rfl)
theorem dX2_open_80 : DR cX2_open 80 (.lstore_n 3) 1 := dk_66 (bA_sl (a := 64) (j := 16) bkX2_open_1 rfl)
theorem dX2_open_81 : DR cX2_open 81 (.iinc 5 1) 3 := dk_132 (bA_sl (a := 64) (j := 17) bkX2_open_1 rfl) (bA_sl (a := 64) (j := 18) bkX2_open_1 rfl) (bA_sl (a := 64) (j := 19) bkX2_open_1 rfl) (by decide) (by decide)
theorem dX2_open_84 : DR cX2_open 84 (.goto (-74)) 3 := dk_167 (bA_sl (a := 64) (j := 20) bkX2_open_1 rfl) (bA_sl (a := 64) (j := 21) bkX2_open_1 rfl) (bA_sl (a := 64) (j := 22) bkX2_open_1 rfl) (by decide) (by decide)
theorem dX2_open_87 : DR cX2_open 87 (.return_) 1 := dk_177 (bA_sl (a := 64) (j := 23) bkX2_open_1 rfl)
theorem bkX2_cutOf_0 : ((cX2_cutOf.data.toList.drop 0).take 64).map UInt8.toNat = [3, 62, 3, 54, 4, 21, 4, 42, 180, 0, 41, 162, 0, 34, 29, 42, 180, 0, 38, 21, 4, 46, 43, 42, 180, 0, 35, 21, 4, 46, 16, 16, 104, 28, 96, 46, 104, 96, 62, 132, 4, 1, 167, 255, 219, 29, 42, 180, 0, 12, 180, 0, 68, 28, 46, 184, 0, 71, 172] := by decide +kernel
theorem dX2_cutOf_0 : DR cX2_cutOf 0 (.iconst 0) 1 := dk_3 (bA_sl (a := 0) (j := 0) bkX2_cutOf_0 rfl)
theorem dX2_cutOf_1 : DR cX2_cutOf 1 (.istore_n 3) 1 := dk_62 (bA_sl (a := 0) (j := 1) bkX2_cutOf_0 rfl)
theorem dX2_cutOf_2 : DR cX2_cutOf 2 (.iconst 0) 1 := dk_3 (bA_sl (a := 0) (j := 2) bkX2_cutOf_0 rfl)
theorem dX2_cutOf_3 : DR cX2_cutOf 3 (.istore 4) 2 := dk_54 (bA_sl (a := 0) (j := 3) bkX2_cutOf_0 rfl) (bA_sl (a := 0) (j := 4) bkX2_cutOf_0 rfl) (by decide)
theorem dX2_cutOf_5 : DR cX2_cutOf 5 (.iload 4) 2 := dk_21 (bA_sl (a := 0) (j := 5) bkX2_cutOf_0 rfl) (bA_sl (a := 0) (j := 6) bkX2_cutOf_0 rfl) (by decide)
theorem dX2_cutOf_7 : DR cX2_cutOf 7 (.aload_n 0) 1 := dk_42 (bA_sl (a := 0) (j := 7) bkX2_cutOf_0 rfl)
theorem dX2_cutOf_8 : DR cX2_cutOf 8 (.getfield 41) 3 := dk_180 (bA_sl (a := 0) (j := 8) bkX2_cutOf_0 rfl) (bA_sl (a := 0) (j := 9) bkX2_cutOf_0 rfl) (bA_sl (a := 0) (j := 10) bkX2_cutOf_0 rfl) (by decide) rfl
theorem dX2_cutOf_11 : DR cX2_cutOf 11 (.if_icmp .ge 34) 3 := dk_162 (bA_sl (a := 0) (j := 11) bkX2_cutOf_0 rfl) (bA_sl (a := 0) (j := 12) bkX2_cutOf_0 rfl) (bA_sl (a := 0) (j := 13) bkX2_cutOf_0 rfl) (by decide) (by decide)
theorem dX2_cutOf_14 : DR cX2_cutOf 14 (.iload_n 3) 1 := dk_29 (bA_sl (a := 0) (j := 14) bkX2_cutOf_0 rfl)
theorem dX2_cutOf_15 : DR cX2_cutOf 15 (.aload_n 0) 1 := dk_42 (bA_sl (a := 0) (j := 15) bkX2_cutOf_0 rfl)
theorem dX2_cutOf_16 : DR cX2_cutOf 16 (.getfield 38) 3 := dk_180 (bA_sl (a := 0) (j := 16) bkX2_cutOf_0 rfl) (bA_sl (a := 0) (j := 17) bkX2_cutOf_0 rfl) (bA_sl (a := 0) (j := 18) bkX2_cutOf_0 rfl) (by decide) rfl
theorem dX2_cutOf_19 : DR cX2_cutOf 19 (.iload 4) 2 := dk_21 (bA_sl (a := 0) (j := 19) bkX2_cutOf_0 rfl) (bA_sl (a := 0) (j := 20) bkX2_cutOf_0 rfl) (by decide)
theorem dX2_cutOf_21 : DR cX2_cutOf 21 (.iaload) 1 := dk_46 (bA_sl (a := 0) (j := 21) bkX2_cutOf_0 rfl)
theorem dX2_cutOf_22 : DR cX2_cutOf 22 (.aload_n 1) 1 := dk_43 (bA_sl (a := 0) (j := 22) bkX2_cutOf_0 rfl)
theorem dX2_cutOf_23 : DR cX2_cutOf 23 (.aload_n 0) 1 := dk_42 (bA_sl (a := 0) (j := 23) bkX2_cutOf_0 rfl)
theorem dX2_cutOf_24 : DR cX2_cutOf 24 (.getfield 35) 3 := dk_180 (bA_sl (a := 0) (j := 24) bkX2_cutOf_0 rfl) (bA_sl (a := 0) (j := 25) bkX2_cutOf_0 rfl) (bA_sl (a := 0) (j := 26) bkX2_cutOf_0 rfl) (by decide) rfl
theorem dX2_cutOf_27 : DR cX2_cutOf 27 (.iload 4) 2 := dk_21 (bA_sl (a := 0) (j := 27) bkX2_cutOf_0 rfl) (bA_sl (a := 0) (j := 28) bkX2_cutOf_0 rfl) (by decide)
theorem dX2_cutOf_29 : DR cX2_cutOf 29 (.iaload) 1 := dk_46 (bA_sl (a := 0) (j := 29) bkX2_cutOf_0 rfl)
theorem dX2_cutOf_30 : DR cX2_cutOf 30 (.bipush 16) 2 := dk_16 (bA_sl (a := 0) (j := 30) bkX2_cutOf_0 rfl) (bA_sl (a := 0) (j := 31) bkX2_cutOf_0 rfl) (by decide) (by decide)
theorem dX2_cutOf_32 : DR cX2_cutOf 32 (.imul) 1 := dk_104 (bA_sl (a := 0) (j := 32) bkX2_cutOf_0 rfl)
theorem dX2_cutOf_33 : DR cX2_cutOf 33 (.iload_n 2) 1 := dk_28 (bA_sl (a := 0) (j := 33) bkX2_cutOf_0 rfl)
theorem dX2_cutOf_34 : DR cX2_cutOf 34 (.iadd) 1 := dk_96 (bA_sl (a := 0) (j := 34) bkX2_cutOf_0 rfl)
theorem dX2_cutOf_35 : DR cX2_cutOf 35 (.iaload) 1 := dk_46 (bA_sl (a := 0) (j := 35) bkX2_cutOf_0 rfl)
theorem dX2_cutOf_36 : DR cX2_cutOf 36 (.imul) 1 := dk_104 (bA_sl (a := 0) (j := 36) bkX2_cutOf_0 rfl)
theorem dX2_cutOf_37 : DR cX2_cutOf 37 (.iadd) 1 := dk_96 (bA_sl (a := 0) (j := 37) bkX2_cutOf_0 rfl)
theorem dX2_cutOf_38 : DR cX2_cutOf 38 (.istore_n 3) 1 := dk_62 (bA_sl (a := 0) (j := 38) bkX2_cutOf_0 rfl)
theorem dX2_cutOf_39 : DR cX2_cutOf 39 (.iinc 4 1) 3 := dk_132 (bA_sl (a := 0) (j := 39) bkX2_cutOf_0 rfl) (bA_sl (a := 0) (j := 40) bkX2_cutOf_0 rfl) (bA_sl (a := 0) (j := 41) bkX2_cutOf_0 rfl) (by decide) (by decide)
theorem dX2_cutOf_42 : DR cX2_cutOf 42 (.goto (-37)) 3 := dk_167 (bA_sl (a := 0) (j := 42) bkX2_cutOf_0 rfl) (bA_sl (a := 0) (j := 43) bkX2_cutOf_0 rfl) (bA_sl (a := 0) (j := 44) bkX2_cutOf_0 rfl) (by decide) (by decide)
theorem dX2_cutOf_45 : DR cX2_cutOf 45 (.iload_n 3) 1 := dk_29 (bA_sl (a := 0) (j := 45) bkX2_cutOf_0 rfl)
theorem dX2_cutOf_46 : DR cX2_cutOf 46 (.aload_n 0) 1 := dk_42 (bA_sl (a := 0) (j := 46) bkX2_cutOf_0 rfl)
theorem dX2_cutOf_47 : DR cX2_cutOf 47 (.getfield 12) 3 := dk_180 (bA_sl (a := 0) (j := 47) bkX2_cutOf_0 rfl) (bA_sl (a := 0) (j := 48) bkX2_cutOf_0 rfl) (bA_sl (a := 0) (j := 49) bkX2_cutOf_0 rfl) (by decide) rfl
theorem dX2_cutOf_50 : DR cX2_cutOf 50 (.getfield 68) 3 := dk_180 (bA_sl (a := 0) (j := 50) bkX2_cutOf_0 rfl) (bA_sl (a := 0) (j := 51) bkX2_cutOf_0 rfl) (bA_sl (a := 0) (j := 52) bkX2_cutOf_0 rfl) (by decide) rfl
theorem dX2_cutOf_53 : DR cX2_cutOf 53 (.iload_n 2) 1 := dk_28 (bA_sl (a := 0) (j := 53) bkX2_cutOf_0 rfl)
theorem dX2_cutOf_54 : DR cX2_cutOf 54 (.iaload) 1 := dk_46 (bA_sl (a := 0) (j := 54) bkX2_cutOf_0 rfl)
theorem dX2_cutOf_55 : DR cX2_cutOf 55 (.invokestatic 71) 3 := dk_184 (bA_sl (a := 0) (j := 55) bkX2_cutOf_0 rfl) (bA_sl (a := 0) (j := 56) bkX2_cutOf_0 rfl) (bA_sl (a := 0) (j := 57) bkX2_cutOf_0 rfl) (by decide) rfl
theorem dX2_cutOf_58 : DR cX2_cutOf 58 (.ireturn) 1 := dk_172 (bA_sl (a := 0) (j := 58) bkX2_cutOf_0 rfl)
theorem bkX2_weighedScore_0 : ((cX2_weighedScore.data.toList.drop 0).take 64).map UInt8.toNat = [3, 60, 3, 61, 28, 42, 180, 0, 12, 180, 0, 50, 162, 0, 49, 42, 180, 0, 22, 28, 46, 153, 0, 34, 42, 180, 0, 12, 180, 0, 68, 28, 46, 153, 0, 22, 27, 42, 180, 0, 22, 28, 46, 42, 42, 180, 0, 26, 28, 182, 0, 120, 104, 96, 60, 132, 2, 1, 167, 255, 202, 27, 172] := by decide +kernel
theorem dX2_weighedScore_0 : DR cX2_weighedScore 0 (.iconst 0) 1 := dk_3 (bA_sl (a := 0) (j := 0) bkX2_weighedScore_0 rfl)
theorem dX2_weighedScore_1 : DR cX2_weighedScore 1 (.istore_n 1) 1 := dk_60 (bA_sl (a := 0) (j := 1) bkX2_weighedScore_0 rfl)
theorem dX2_weighedScore_2 : DR cX2_weighedScore 2 (.iconst 0) 1 := dk_3 (bA_sl (a := 0) (j := 2) bkX2_weighedScore_0 rfl)
theorem dX2_weighedScore_3 : DR cX2_weighedScore 3 (.istore_n 2) 1 := dk_61 (bA_sl (a := 0) (j := 3) bkX2_weighedScore_0 rfl)
theorem dX2_weighedScore_4 : DR cX2_weighedScore 4 (.iload_n 2) 1 := dk_28 (bA_sl (a := 0) (j := 4) bkX2_weighedScore_0 rfl)
theorem dX2_weighedScore_5 : DR cX2_weighedScore 5 (.aload_n 0) 1 := dk_42 (bA_sl (a := 0) (j := 5) bkX2_weighedScore_0 rfl)
theorem dX2_weighedScore_6 : DR cX2_weighedScore 6 (.getfield 12) 3 := dk_180 (bA_sl (a := 0) (j := 6) bkX2_weighedScore_0 rfl) (bA_sl (a := 0) (j := 7) bkX2_weighedScore_0 rfl) (bA_sl (a := 0) (j := 8) bkX2_weighedScore_0 rfl) (by decide) rfl
theorem dX2_weighedScore_9 : DR cX2_weighedScore 9 (.getfield 50) 3 := dk_180 (bA_sl (a := 0) (j := 9) bkX2_weighedScore_0 rfl) (bA_sl (a := 0) (j := 10) bkX2_weighedScore_0 rfl) (bA_sl (a := 0) (j := 11) bkX2_weighedScore_0 rfl) (by decide) rfl
theorem dX2_weighedScore_12 : DR cX2_weighedScore 12 (.if_icmp .ge 49) 3 := dk_162 (bA_sl (a := 0) (j := 12) bkX2_weighedScore_0 rfl) (bA_sl (a := 0) (j := 13) bkX2_weighedScore_0 rfl) (bA_sl (a := 0) (j := 14) bkX2_weighedScore_0 rfl) (by decide) (by decide)
theorem dX2_weighedScore_15 : DR cX2_weighedScore 15 (.aload_n 0) 1 := dk_42 (bA_sl (a := 0) (j := 15) bkX2_weighedScore_0 rfl)
theorem dX2_weighedScore_16 : DR cX2_weighedScore 16 (.getfield 22) 3 := dk_180 (bA_sl (a := 0) (j := 16) bkX2_weighedScore_0 rfl) (bA_sl (a := 0) (j := 17) bkX2_weighedScore_0 rfl) (bA_sl (a := 0) (j := 18) bkX2_weighedScore_0 rfl) (by decide) rfl
theorem dX2_weighedScore_19 : DR cX2_weighedScore 19 (.iload_n 2) 1 := dk_28 (bA_sl (a := 0) (j := 19) bkX2_weighedScore_0 rfl)
theorem dX2_weighedScore_20 : DR cX2_weighedScore 20 (.iaload) 1 := dk_46 (bA_sl (a := 0) (j := 20) bkX2_weighedScore_0 rfl)
theorem dX2_weighedScore_21 : DR cX2_weighedScore 21 (.ifCond .eq 34) 3 := dk_153 (bA_sl (a := 0) (j := 21) bkX2_weighedScore_0 rfl) (bA_sl (a := 0) (j := 22) bkX2_weighedScore_0 rfl) (bA_sl (a := 0) (j := 23) bkX2_weighedScore_0 rfl) (by decide) (by decide)
theorem dX2_weighedScore_24 : DR cX2_weighedScore 24 (.aload_n 0) 1 := dk_42 (bA_sl (a := 0) (j := 24) bkX2_weighedScore_0 rfl)
theorem dX2_weighedScore_25 : DR cX2_weighedScore 25 (.getfield 12) 3 := dk_180 (bA_sl (a := 0) (j := 25) bkX2_weighedScore_0 rfl) (bA_sl (a := 0) (j := 26) bkX2_weighedScore_0 rfl) (bA_sl (a := 0) (j := 27) bkX2_weighedScore_0 rfl) (by decide) rfl
theorem dX2_weighedScore_28 : DR cX2_weighedScore 28 (.getfield 68) 3 := dk_180 (bA_sl (a := 0) (j := 28) bkX2_weighedScore_0 rfl) (bA_sl (a := 0) (j := 29) bkX2_weighedScore_0 rfl) (bA_sl (a := 0) (j := 30) bkX2_weighedScore_0 rfl) (by decide) rfl
theorem dX2_weighedScore_31 : DR cX2_weighedScore 31 (.iload_n 2) 1 := dk_28 (bA_sl (a := 0) (j := 31) bkX2_weighedScore_0 rfl)
theorem dX2_weighedScore_32 : DR cX2_weighedScore 32 (.iaload) 1 := dk_46 (bA_sl (a := 0) (j := 32) bkX2_weighedScore_0 rfl)
theorem dX2_weighedScore_33 : DR cX2_weighedScore 33 (.ifCond .eq 22) 3 := dk_153 (bA_sl (a := 0) (j := 33) bkX2_weighedScore_0 rfl) (bA_sl (a := 0) (j := 34) bkX2_weighedScore_0 rfl) (bA_sl (a := 0) (j := 35) bkX2_weighedScore_0 rfl) (by decide) (by decide)
theorem dX2_weighedScore_36 : DR cX2_weighedScore 36 (.iload_n 1) 1 := dk_27 (bA_sl (a := 0) (j := 36) bkX2_weighedScore_0 rfl)
theorem dX2_weighedScore_37 : DR cX2_weighedScore 37 (.aload_n 0) 1 := dk_42 (bA_sl (a := 0) (j := 37) bkX2_weighedScore_0 rfl)
theorem dX2_weighedScore_38 : DR cX2_weighedScore 38 (.getfield 22) 3 := dk_180 (bA_sl (a := 0) (j := 38) bkX2_weighedScore_0 rfl) (bA_sl (a := 0) (j := 39) bkX2_weighedScore_0 rfl) (bA_sl (a := 0) (j := 40) bkX2_weighedScore_0 rfl) (by decide) rfl
theorem dX2_weighedScore_41 : DR cX2_weighedScore 41 (.iload_n 2) 1 := dk_28 (bA_sl (a := 0) (j := 41) bkX2_weighedScore_0 rfl)
theorem dX2_weighedScore_42 : DR cX2_weighedScore 42 (.iaload) 1 := dk_46 (bA_sl (a := 0) (j := 42) bkX2_weighedScore_0 rfl)
theorem dX2_weighedScore_43 : DR cX2_weighedScore 43 (.aload_n 0) 1 := dk_42 (bA_sl (a := 0) (j := 43) bkX2_weighedScore_0 rfl)
theorem dX2_weighedScore_44 : DR cX2_weighedScore 44 (.aload_n 0) 1 := dk_42 (bA_sl (a := 0) (j := 44) bkX2_weighedScore_0 rfl)
theorem dX2_weighedScore_45 : DR cX2_weighedScore 45 (.getfield 26) 3 := dk_180 (bA_sl (a := 0) (j := 45) bkX2_weighedScore_0 rfl) (bA_sl (a := 0) (j := 46) bkX2_weighedScore_0 rfl) (bA_sl (a := 0) (j := 47) bkX2_weighedScore_0 rfl) (by decide) rfl
theorem dX2_weighedScore_48 : DR cX2_weighedScore 48 (.iload_n 2) 1 := dk_28 (bA_sl (a := 0) (j := 48) bkX2_weighedScore_0 rfl)
theorem dX2_weighedScore_49 : DR cX2_weighedScore 49 (.invokevirtual 120) 3 := dk_182 (bA_sl (a := 0) (j := 49) bkX2_weighedScore_0 rfl) (bA_sl (a := 0) (j := 50) bkX2_weighedScore_0 rfl) (bA_sl (a := 0) (j := 51) bkX2_weighedScore_0 rfl) (by decide) rfl
theorem dX2_weighedScore_52 : DR cX2_weighedScore 52 (.imul) 1 := dk_104 (bA_sl (a := 0) (j := 52) bkX2_weighedScore_0 rfl)
theorem dX2_weighedScore_53 : DR cX2_weighedScore 53 (.iadd) 1 := dk_96 (bA_sl (a := 0) (j := 53) bkX2_weighedScore_0 rfl)
theorem dX2_weighedScore_54 : DR cX2_weighedScore 54 (.istore_n 1) 1 := dk_60 (bA_sl (a := 0) (j := 54) bkX2_weighedScore_0 rfl)
theorem dX2_weighedScore_55 : DR cX2_weighedScore 55 (.iinc 2 1) 3 := dk_132 (bA_sl (a := 0) (j := 55) bkX2_weighedScore_0 rfl) (bA_sl (a := 0) (j := 56) bkX2_weighedScore_0 rfl) (bA_sl (a := 0) (j := 57) bkX2_weighedScore_0 rfl) (by decide) (by decide)
theorem dX2_weighedScore_58 : DR cX2_weighedScore 58 (.goto (-54)) 3 := dk_167 (bA_sl (a := 0) (j := 58) bkX2_weighedScore_0 rfl) (bA_sl (a := 0) (j := 59) bkX2_weighedScore_0 rfl) (bA_sl (a := 0) (j := 60) bkX2_weighedScore_0 rfl) (by decide) (by decide)
theorem dX2_weighedScore_61 : DR cX2_weighedScore 61 (.iload_n 1) 1 := dk_27 (bA_sl (a := 0) (j := 61) bkX2_weighedScore_0 rfl)
theorem dX2_weighedScore_62 : DR cX2_weighedScore 62 (.ireturn) 1 := dk_172 (bA_sl (a := 0) (j := 62) bkX2_weighedScore_0 rfl)
theorem bkX2_fairScore_0 : ((cX2_fairScore.data.toList.drop 0).take 64).map UInt8.toNat = [42, 180, 0, 32, 3, 184, 0, 124, 3, 60, 3, 61, 28, 42, 180, 0, 12, 180, 0, 50, 162, 0, 41, 42, 42, 180, 0, 26, 28, 182, 0, 120, 62, 42, 180, 0, 32, 42, 180, 0, 12, 180, 0, 53, 28, 46, 92, 46, 29, 96, 79, 27, 29, 96, 60, 132, 2, 1, 167, 255, 210, 27, 61, 3] := by decide +kernel
theorem dX2_fairScore_0 : DR cX2_fairScore 0 (.aload_n 0) 1 := dk_42 (bA_sl (a := 0) (j := 0) bkX2_fairScore_0 rfl)
theorem dX2_fairScore_1 : DR cX2_fairScore 1 (.getfield 32) 3 := dk_180 (bA_sl (a := 0) (j := 1) bkX2_fairScore_0 rfl) (bA_sl (a := 0) (j := 2) bkX2_fairScore_0 rfl) (bA_sl (a := 0) (j := 3) bkX2_fairScore_0 rfl) (by decide) rfl
theorem dX2_fairScore_4 : DR cX2_fairScore 4 (.iconst 0) 1 := dk_3 (bA_sl (a := 0) (j := 4) bkX2_fairScore_0 rfl)
theorem dX2_fairScore_5 : DR cX2_fairScore 5 (.invokestatic 124) 3 := dk_184 (bA_sl (a := 0) (j := 5) bkX2_fairScore_0 rfl) (bA_sl (a := 0) (j := 6) bkX2_fairScore_0 rfl) (bA_sl (a := 0) (j := 7) bkX2_fairScore_0 rfl) (by decide) rfl
theorem dX2_fairScore_8 : DR cX2_fairScore 8 (.iconst 0) 1 := dk_3 (bA_sl (a := 0) (j := 8) bkX2_fairScore_0 rfl)
theorem dX2_fairScore_9 : DR cX2_fairScore 9 (.istore_n 1) 1 := dk_60 (bA_sl (a := 0) (j := 9) bkX2_fairScore_0 rfl)
theorem dX2_fairScore_10 : DR cX2_fairScore 10 (.iconst 0) 1 := dk_3 (bA_sl (a := 0) (j := 10) bkX2_fairScore_0 rfl)
theorem dX2_fairScore_11 : DR cX2_fairScore 11 (.istore_n 2) 1 := dk_61 (bA_sl (a := 0) (j := 11) bkX2_fairScore_0 rfl)
theorem dX2_fairScore_12 : DR cX2_fairScore 12 (.iload_n 2) 1 := dk_28 (bA_sl (a := 0) (j := 12) bkX2_fairScore_0 rfl)
theorem dX2_fairScore_13 : DR cX2_fairScore 13 (.aload_n 0) 1 := dk_42 (bA_sl (a := 0) (j := 13) bkX2_fairScore_0 rfl)
theorem dX2_fairScore_14 : DR cX2_fairScore 14 (.getfield 12) 3 := dk_180 (bA_sl (a := 0) (j := 14) bkX2_fairScore_0 rfl) (bA_sl (a := 0) (j := 15) bkX2_fairScore_0 rfl) (bA_sl (a := 0) (j := 16) bkX2_fairScore_0 rfl) (by decide) rfl
theorem dX2_fairScore_17 : DR cX2_fairScore 17 (.getfield 50) 3 := dk_180 (bA_sl (a := 0) (j := 17) bkX2_fairScore_0 rfl) (bA_sl (a := 0) (j := 18) bkX2_fairScore_0 rfl) (bA_sl (a := 0) (j := 19) bkX2_fairScore_0 rfl) (by decide) rfl
theorem dX2_fairScore_20 : DR cX2_fairScore 20 (.if_icmp .ge 41) 3 := dk_162 (bA_sl (a := 0) (j := 20) bkX2_fairScore_0 rfl) (bA_sl (a := 0) (j := 21) bkX2_fairScore_0 rfl) (bA_sl (a := 0) (j := 22) bkX2_fairScore_0 rfl) (by decide) (by decide)
theorem dX2_fairScore_23 : DR cX2_fairScore 23 (.aload_n 0) 1 := dk_42 (bA_sl (a := 0) (j := 23) bkX2_fairScore_0 rfl)
theorem dX2_fairScore_24 : DR cX2_fairScore 24 (.aload_n 0) 1 := dk_42 (bA_sl (a := 0) (j := 24) bkX2_fairScore_0 rfl)
theorem dX2_fairScore_25 : DR cX2_fairScore 25 (.getfield 26) 3 := dk_180 (bA_sl (a := 0) (j := 25) bkX2_fairScore_0 rfl) (bA_sl (a := 0) (j := 26) bkX2_fairScore_0 rfl) (bA_sl (a := 0) (j := 27) bkX2_fairScore_0 rfl) (by decide) rfl
theorem dX2_fairScore_28 : DR cX2_fairScore 28 (.iload_n 2) 1 := dk_28 (bA_sl (a := 0) (j := 28) bkX2_fairScore_0 rfl)
theorem dX2_fairScore_29 : DR cX2_fairScore 29 (.invokevirtual 120) 3 := dk_182 (bA_sl (a := 0) (j := 29) bkX2_fairScore_0 rfl) (bA_sl (a := 0) (j := 30) bkX2_fairScore_0 rfl) (bA_sl (a := 0) (j := 31) bkX2_fairScore_0 rfl) (by decide) rfl
theorem dX2_fairScore_32 : DR cX2_fairScore 32 (.istore_n 3) 1 := dk_62 (bA_sl (a := 0) (j := 32) bkX2_fairScore_0 rfl)
theorem dX2_fairScore_33 : DR cX2_fairScore 33 (.aload_n 0) 1 := dk_42 (bA_sl (a := 0) (j := 33) bkX2_fairScore_0 rfl)
theorem dX2_fairScore_34 : DR cX2_fairScore 34 (.getfield 32) 3 := dk_180 (bA_sl (a := 0) (j := 34) bkX2_fairScore_0 rfl) (bA_sl (a := 0) (j := 35) bkX2_fairScore_0 rfl) (bA_sl (a := 0) (j := 36) bkX2_fairScore_0 rfl) (by decide) rfl
theorem dX2_fairScore_37 : DR cX2_fairScore 37 (.aload_n 0) 1 := dk_42 (bA_sl (a := 0) (j := 37) bkX2_fairScore_0 rfl)
theorem dX2_fairScore_38 : DR cX2_fairScore 38 (.getfield 12) 3 := dk_180 (bA_sl (a := 0) (j := 38) bkX2_fairScore_0 rfl) (bA_sl (a := 0) (j := 39) bkX2_fairScore_0 rfl) (bA_sl (a := 0) (j := 40) bkX2_fairScore_0 rfl) (by decide) rfl
theorem dX2_fairScore_41 : DR cX2_fairScore 41 (.getfield 53) 3 := dk_180 (bA_sl (a := 0) (j := 41) bkX2_fairScore_0 rfl) (bA_sl (a := 0) (j := 42) bkX2_fairScore_0 rfl) (bA_sl (a := 0) (j := 43) bkX2_fairScore_0 rfl) (by decide) rfl
theorem dX2_fairScore_44 : DR cX2_fairScore 44 (.iload_n 2) 1 := dk_28 (bA_sl (a := 0) (j := 44) bkX2_fairScore_0 rfl)
theorem dX2_fairScore_45 : DR cX2_fairScore 45 (.iaload) 1 := dk_46 (bA_sl (a := 0) (j := 45) bkX2_fairScore_0 rfl)
theorem dX2_fairScore_46 : DR cX2_fairScore 46 (.dup2) 1 := dk_92 (bA_sl (a := 0) (j := 46) bkX2_fairScore_0 rfl)
theorem dX2_fairScore_47 : DR cX2_fairScore 47 (.iaload) 1 := dk_46 (bA_sl (a := 0) (j := 47) bkX2_fairScore_0 rfl)
theorem dX2_fairScore_48 : DR cX2_fairScore 48 (.iload_n 3) 1 := dk_29 (bA_sl (a := 0) (j := 48) bkX2_fairScore_0 rfl)
theorem dX2_fairScore_49 : DR cX2_fairScore 49 (.iadd) 1 := dk_96 (bA_sl (a := 0) (j := 49) bkX2_fairScore_0 rfl)
theorem dX2_fairScore_50 : DR cX2_fairScore 50 (.iastore) 1 := dk_79 (bA_sl (a := 0) (j := 50) bkX2_fairScore_0 rfl)
theorem dX2_fairScore_51 : DR cX2_fairScore 51 (.iload_n 1) 1 := dk_27 (bA_sl (a := 0) (j := 51) bkX2_fairScore_0 rfl)
theorem dX2_fairScore_52 : DR cX2_fairScore 52 (.iload_n 3) 1 := dk_29 (bA_sl (a := 0) (j := 52) bkX2_fairScore_0 rfl)
theorem dX2_fairScore_53 : DR cX2_fairScore 53 (.iadd) 1 := dk_96 (bA_sl (a := 0) (j := 53) bkX2_fairScore_0 rfl)
theorem dX2_fairScore_54 : DR cX2_fairScore 54 (.istore_n 1) 1 := dk_60 (bA_sl (a := 0) (j := 54) bkX2_fairScore_0 rfl)
theorem dX2_fairScore_55 : DR cX2_fairScore 55 (.iinc 2 1) 3 := dk_132 (bA_sl (a := 0) (j := 55) bkX2_fairScore_0 rfl) (bA_sl (a := 0) (j := 56) bkX2_fairScore_0 rfl) (bA_sl (a := 0) (j := 57) bkX2_fairScore_0 rfl) (by decide) (by decide)
theorem dX2_fairScore_58 : DR cX2_fairScore 58 (.goto (-46)) 3 := dk_167 (bA_sl (a := 0) (j := 58) bkX2_fairScore_0 rfl) (bA_sl (a := 0) (j := 59) bkX2_fairScore_0 rfl) (bA_sl (a := 0) (j := 60) bkX2_fairScore_0 rfl) (by decide) (by decide)
theorem dX2_fairScore_61 : DR cX2_fairScore 61 (.iload_n 1) 1 := dk_27 (bA_sl (a := 0) (j := 61) bkX2_fairScore_0 rfl)
theorem dX2_fairScore_62 : DR cX2_fairScore 62 (.istore_n 2) 1 := dk_61 (bA_sl (a := 0) (j := 62) bkX2_fairScore_0 rfl)
theorem dX2_fairScore_63 : DR cX2_fairScore 63 (.iconst 0) 1 := dk_3 (bA_sl (a := 0) (j := 63) bkX2_fairScore_0 rfl)
theorem bkX2_fairScore_1 : ((cX2_fairScore.data.toList.drop 64).take 64).map UInt8.toNat = [62, 29, 42, 180, 0, 12, 180, 0, 50, 162, 0, 28, 28, 42, 180, 0, 32, 42, 180, 0, 12, 180, 0, 53, 29, 46, 46, 184, 0, 71, 61, 132, 3, 1, 167, 255, 223, 28, 17, 8, 0, 104, 27, 96, 172] := by decide +kernel
theorem dX2_fairScore_64 : DR cX2_fairScore 64 (.istore_n 3) 1 := dk_62 (bA_sl (a := 64) (j := 0) bkX2_fairScore_1 rfl)
theorem dX2_fairScore_65 : DR cX2_fairScore 65 (.iload_n 3) 1 := dk_29 (bA_sl (a := 64) (j := 1) bkX2_fairScore_1 rfl)
theorem dX2_fairScore_66 : DR cX2_fairScore 66 (.aload_n 0) 1 := dk_42 (bA_sl (a := 64) (j := 2) bkX2_fairScore_1 rfl)
theorem dX2_fairScore_67 : DR cX2_fairScore 67 (.getfield 12) 3 := dk_180 (bA_sl (a := 64) (j := 3) bkX2_fairScore_1 rfl) (bA_sl (a := 64) (j := 4) bkX2_fairScore_1 rfl) (bA_sl (a := 64) (j := 5) bkX2_fairScore_1 rfl) (by decide) rfl
theorem dX2_fairScore_70 : DR cX2_fairScore 70 (.getfield 50) 3 := dk_180 (bA_sl (a := 64) (j := 6) bkX2_fairScore_1 rfl) (bA_sl (a := 64) (j := 7) bkX2_fairScore_1 rfl) (bA_sl (a := 64) (j := 8) bkX2_fairScore_1 rfl) (by decide) rfl
theorem dX2_fairScore_73 : DR cX2_fairScore 73 (.if_icmp .ge 28) 3 := dk_162 (bA_sl (a := 64) (j := 9) bkX2_fairScore_1 rfl) (bA_sl (a := 64) (j := 10) bkX2_fairScore_1 rfl) (bA_sl (a := 64) (j := 11) bkX2_fairScore_1 rfl) (by decide) (by decide)
theorem dX2_fairScore_76 : DR cX2_fairScore 76 (.iload_n 2) 1 := dk_28 (bA_sl (a := 64) (j := 12) bkX2_fairScore_1 rfl)
theorem dX2_fairScore_77 : DR cX2_fairScore 77 (.aload_n 0) 1 := dk_42 (bA_sl (a := 64) (j := 13) bkX2_fairScore_1 rfl)
theorem dX2_fairScore_78 : DR cX2_fairScore 78 (.getfield 32) 3 := dk_180 (bA_sl (a := 64) (j := 14) bkX2_fairScore_1 rfl) (bA_sl (a := 64) (j := 15) bkX2_fairScore_1 rfl) (bA_sl (a := 64) (j := 16) bkX2_fairScore_1 rfl) (by decide) rfl
theorem dX2_fairScore_81 : DR cX2_fairScore 81 (.aload_n 0) 1 := dk_42 (bA_sl (a := 64) (j := 17) bkX2_fairScore_1 rfl)
theorem dX2_fairScore_82 : DR cX2_fairScore 82 (.getfield 12) 3 := dk_180 (bA_sl (a := 64) (j := 18) bkX2_fairScore_1 rfl) (bA_sl (a := 64) (j := 19) bkX2_fairScore_1 rfl) (bA_sl (a := 64) (j := 20) bkX2_fairScore_1 rfl) (by decide) rfl
theorem dX2_fairScore_85 : DR cX2_fairScore 85 (.getfield 53) 3 := dk_180 (bA_sl (a := 64) (j := 21) bkX2_fairScore_1 rfl) (bA_sl (a := 64) (j := 22) bkX2_fairScore_1 rfl) (bA_sl (a := 64) (j := 23) bkX2_fairScore_1 rfl) (by decide) rfl
theorem dX2_fairScore_88 : DR cX2_fairScore 88 (.iload_n 3) 1 := dk_29 (bA_sl (a := 64) (j := 24) bkX2_fairScore_1 rfl)
theorem dX2_fairScore_89 : DR cX2_fairScore 89 (.iaload) 1 := dk_46 (bA_sl (a := 64) (j := 25) bkX2_fairScore_1 rfl)
theorem dX2_fairScore_90 : DR cX2_fairScore 90 (.iaload) 1 := dk_46 (bA_sl (a := 64) (j := 26) bkX2_fairScore_1 rfl)
theorem dX2_fairScore_91 : DR cX2_fairScore 91 (.invokestatic 71) 3 := dk_184 (bA_sl (a := 64) (j := 27) bkX2_fairScore_1 rfl) (bA_sl (a := 64) (j := 28) bkX2_fairScore_1 rfl) (bA_sl (a := 64) (j := 29) bkX2_fairScore_1 rfl) (by decide) rfl
theorem dX2_fairScore_94 : DR cX2_fairScore 94 (.istore_n 2) 1 := dk_61 (bA_sl (a := 64) (j := 30) bkX2_fairScore_1 rfl)
theorem dX2_fairScore_95 : DR cX2_fairScore 95 (.iinc 3 1) 3 := dk_132 (bA_sl (a := 64) (j := 31) bkX2_fairScore_1 rfl) (bA_sl (a := 64) (j := 32) bkX2_fairScore_1 rfl) (bA_sl (a := 64) (j := 33) bkX2_fairScore_1 rfl) (by decide) (by decide)
theorem dX2_fairScore_98 : DR cX2_fairScore 98 (.goto (-33)) 3 := dk_167 (bA_sl (a := 64) (j := 34) bkX2_fairScore_1 rfl) (bA_sl (a := 64) (j := 35) bkX2_fairScore_1 rfl) (bA_sl (a := 64) (j := 36) bkX2_fairScore_1 rfl) (by decide) (by decide)
theorem dX2_fairScore_101 : DR cX2_fairScore 101 (.iload_n 2) 1 := dk_28 (bA_sl (a := 64) (j := 37) bkX2_fairScore_1 rfl)
theorem dX2_fairScore_102 : DR cX2_fairScore 102 (.sipush 2048) 3 := dk_17 (bA_sl (a := 64) (j := 38) bkX2_fairScore_1 rfl) (bA_sl (a := 64) (j := 39) bkX2_fairScore_1 rfl) (bA_sl (a := 64) (j := 40) bkX2_fairScore_1 rfl) (by decide) (by decide)
theorem dX2_fairScore_105 : DR cX2_fairScore 105 (.imul) 1 := dk_104 (bA_sl (a := 64) (j := 41) bkX2_fairScore_1 rfl)
theorem dX2_fairScore_106 : DR cX2_fairScore 106 (.iload_n 1) 1 := dk_27 (bA_sl (a := 64) (j := 42) bkX2_fairScore_1 rfl)
theorem dX2_fairScore_107 : DR cX2_fairScore 107 (.iadd) 1 := dk_96 (bA_sl (a := 64) (j := 43) bkX2_fairScore_1 rfl)
theorem dX2_fairScore_108 : DR cX2_fairScore 108 (.ireturn) 1 := dk_172 (bA_sl (a := 64) (j := 44) bkX2_fairScore_1 rfl)
theorem bkX2_fewestIn_0 : ((cX2_fewestIn.data.toList.drop 0).take 64).map UInt8.toNat = [26, 17, 8, 0, 108, 172] := by decide +kernel
theorem dX2_fewestIn_0 : DR cX2_fewestIn 0 (.iload_n 0) 1 := dk_26 (bA_sl (a := 0) (j := 0) bkX2_fewestIn_0 rfl)
theorem dX2_fewestIn_1 : DR cX2_fewestIn 1 (.sipush 2048) 3 := dk_17 (bA_sl (a := 0) (j := 1) bkX2_fewestIn_0 rfl) (bA_sl (a := 0) (j := 2) bkX2_fewestIn_0 rfl) (bA_sl (a := 0) (j := 3) bkX2_fewestIn_0 rfl) (by decide) (by decide)
theorem dX2_fewestIn_4 : DR cX2_fewestIn 4 (.idiv) 1 := dk_108 (bA_sl (a := 0) (j := 4) bkX2_fewestIn_0 rfl)
theorem dX2_fewestIn_5 : DR cX2_fewestIn 5 (.ireturn) 1 := dk_172 (bA_sl (a := 0) (j := 5) bkX2_fewestIn_0 rfl)
theorem bkX2_allIn_0 : ((cX2_allIn.data.toList.drop 0).take 64).map UInt8.toNat = [26, 17, 8, 0, 112, 172] := by decide +kernel
theorem dX2_allIn_0 : DR cX2_allIn 0 (.iload_n 0) 1 := dk_26 (bA_sl (a := 0) (j := 0) bkX2_allIn_0 rfl)
theorem dX2_allIn_1 : DR cX2_allIn 1 (.sipush 2048) 3 := dk_17 (bA_sl (a := 0) (j := 1) bkX2_allIn_0 rfl) (bA_sl (a := 0) (j := 2) bkX2_allIn_0 rfl) (bA_sl (a := 0) (j := 3) bkX2_allIn_0 rfl) (by decide) (by decide)
theorem dX2_allIn_4 : DR cX2_allIn 4 (.irem) 1 := dk_112 (bA_sl (a := 0) (j := 4) bkX2_allIn_0 rfl)
theorem dX2_allIn_5 : DR cX2_allIn 5 (.ireturn) 1 := dk_172 (bA_sl (a := 0) (j := 5) bkX2_allIn_0 rfl)
theorem bkX2_stripsHungOver_0 : ((cX2_stripsHungOver.data.toList.drop 0).take 64).map UInt8.toNat = [3, 60, 3, 61, 28, 42, 180, 0, 41, 162, 0, 20, 27, 4, 42, 180, 0, 35, 28, 46, 120, 128, 60, 132, 2, 1, 167, 255, 234, 27, 172] := by decide +kernel
theorem dX2_stripsHungOver_0 : DR cX2_stripsHungOver 0 (.iconst 0) 1 := dk_3 (bA_sl (a := 0) (j := 0) bkX2_stripsHungOver_0 rfl)
theorem dX2_stripsHungOver_1 : DR cX2_stripsHungOver 1 (.istore_n 1) 1 := dk_60 (bA_sl (a := 0) (j := 1) bkX2_stripsHungOver_0 rfl)
theorem dX2_stripsHungOver_2 : DR cX2_stripsHungOver 2 (.iconst 0) 1 := dk_3 (bA_sl (a := 0) (j := 2) bkX2_stripsHungOver_0 rfl)
theorem dX2_stripsHungOver_3 : DR cX2_stripsHungOver 3 (.istore_n 2) 1 := dk_61 (bA_sl (a := 0) (j := 3) bkX2_stripsHungOver_0 rfl)
theorem dX2_stripsHungOver_4 : DR cX2_stripsHungOver 4 (.iload_n 2) 1 := dk_28 (bA_sl (a := 0) (j := 4) bkX2_stripsHungOver_0 rfl)
theorem dX2_stripsHungOver_5 : DR cX2_stripsHungOver 5 (.aload_n 0) 1 := dk_42 (bA_sl (a := 0) (j := 5) bkX2_stripsHungOver_0 rfl)
theorem dX2_stripsHungOver_6 : DR cX2_stripsHungOver 6 (.getfield 41) 3 := dk_180 (bA_sl (a := 0) (j := 6) bkX2_stripsHungOver_0 rfl) (bA_sl (a := 0) (j := 7) bkX2_stripsHungOver_0 rfl) (bA_sl (a := 0) (j := 8) bkX2_stripsHungOver_0 rfl) (by decide) rfl
theorem dX2_stripsHungOver_9 : DR cX2_stripsHungOver 9 (.if_icmp .ge 20) 3 := dk_162 (bA_sl (a := 0) (j := 9) bkX2_stripsHungOver_0 rfl) (bA_sl (a := 0) (j := 10) bkX2_stripsHungOver_0 rfl) (bA_sl (a := 0) (j := 11) bkX2_stripsHungOver_0 rfl) (by decide) (by decide)
theorem dX2_stripsHungOver_12 : DR cX2_stripsHungOver 12 (.iload_n 1) 1 := dk_27 (bA_sl (a := 0) (j := 12) bkX2_stripsHungOver_0 rfl)
theorem dX2_stripsHungOver_13 : DR cX2_stripsHungOver 13 (.iconst 1) 1 := dk_4 (bA_sl (a := 0) (j := 13) bkX2_stripsHungOver_0 rfl)
theorem dX2_stripsHungOver_14 : DR cX2_stripsHungOver 14 (.aload_n 0) 1 := dk_42 (bA_sl (a := 0) (j := 14) bkX2_stripsHungOver_0 rfl)
theorem dX2_stripsHungOver_15 : DR cX2_stripsHungOver 15 (.getfield 35) 3 := dk_180 (bA_sl (a := 0) (j := 15) bkX2_stripsHungOver_0 rfl) (bA_sl (a := 0) (j := 16) bkX2_stripsHungOver_0 rfl) (bA_sl (a := 0) (j := 17) bkX2_stripsHungOver_0 rfl) (by decide) rfl
theorem dX2_stripsHungOver_18 : DR cX2_stripsHungOver 18 (.iload_n 2) 1 := dk_28 (bA_sl (a := 0) (j := 18) bkX2_stripsHungOver_0 rfl)
theorem dX2_stripsHungOver_19 : DR cX2_stripsHungOver 19 (.iaload) 1 := dk_46 (bA_sl (a := 0) (j := 19) bkX2_stripsHungOver_0 rfl)
theorem dX2_stripsHungOver_20 : DR cX2_stripsHungOver 20 (.ishl) 1 := dk_120 (bA_sl (a := 0) (j := 20) bkX2_stripsHungOver_0 rfl)
theorem dX2_stripsHungOver_21 : DR cX2_stripsHungOver 21 (.ior) 1 := dk_128 (bA_sl (a := 0) (j := 21) bkX2_stripsHungOver_0 rfl)
theorem dX2_stripsHungOver_22 : DR cX2_stripsHungOver 22 (.istore_n 1) 1 := dk_60 (bA_sl (a := 0) (j := 22) bkX2_stripsHungOver_0 rfl)
theorem dX2_stripsHungOver_23 : DR cX2_stripsHungOver 23 (.iinc 2 1) 3 := dk_132 (bA_sl (a := 0) (j := 23) bkX2_stripsHungOver_0 rfl) (bA_sl (a := 0) (j := 24) bkX2_stripsHungOver_0 rfl) (bA_sl (a := 0) (j := 25) bkX2_stripsHungOver_0 rfl) (by decide) (by decide)
theorem dX2_stripsHungOver_26 : DR cX2_stripsHungOver 26 (.goto (-22)) 3 := dk_167 (bA_sl (a := 0) (j := 26) bkX2_stripsHungOver_0 rfl) (bA_sl (a := 0) (j := 27) bkX2_stripsHungOver_0 rfl) (bA_sl (a := 0) (j := 28) bkX2_stripsHungOver_0 rfl) (by decide) (by decide)
theorem dX2_stripsHungOver_29 : DR cX2_stripsHungOver 29 (.iload_n 1) 1 := dk_27 (bA_sl (a := 0) (j := 29) bkX2_stripsHungOver_0 rfl)
theorem dX2_stripsHungOver_30 : DR cX2_stripsHungOver 30 (.ireturn) 1 := dk_172 (bA_sl (a := 0) (j := 30) bkX2_stripsHungOver_0 rfl)
theorem bkX2_bidsOf_0 : ((cX2_bidsOf.data.toList.drop 0).take 64).map UInt8.toNat = [42, 32, 182, 0, 104, 3, 54, 4, 3, 54, 5, 21, 5, 42, 180, 0, 12, 180, 0, 50, 162, 0, 48, 42, 180, 0, 12, 180, 0, 53, 21, 5, 46, 27, 160, 0, 28, 21, 4, 42, 180, 0, 12, 180, 0, 76, 27, 46, 42, 42, 180, 0, 26, 21, 5, 182, 0, 120, 104, 96, 54, 4, 132, 5] := by decide +kernel
theorem dX2_bidsOf_0 : DR cX2_bidsOf 0 (.aload_n 0) 1 := dk_42 (bA_sl (a := 0) (j := 0) bkX2_bidsOf_0 rfl)
theorem dX2_bidsOf_1 : DR cX2_bidsOf 1 (.lload_n 2) 1 := dk_32 (bA_sl (a := 0) (j := 1) bkX2_bidsOf_0 rfl)
theorem dX2_bidsOf_2 : DR cX2_bidsOf 2 (.invokevirtual 104) 3 := dk_182 (bA_sl (a := 0) (j := 2) bkX2_bidsOf_0 rfl) (bA_sl (a := 0) (j := 3) bkX2_bidsOf_0 rfl) (bA_sl (a := 0) (j := 4) bkX2_bidsOf_0 rfl) (by decide) rfl
theorem dX2_bidsOf_5 : DR cX2_bidsOf 5 (.iconst 0) 1 := dk_3 (bA_sl (a := 0) (j := 5) bkX2_bidsOf_0 rfl)
theorem dX2_bidsOf_6 : DR cX2_bidsOf 6 (.istore 4) 2 := dk_54 (bA_sl (a := 0) (j := 6) bkX2_bidsOf_0 rfl) (bA_sl (a := 0) (j := 7) bkX2_bidsOf_0 rfl) (by decide)
theorem dX2_bidsOf_8 : DR cX2_bidsOf 8 (.iconst 0) 1 := dk_3 (bA_sl (a := 0) (j := 8) bkX2_bidsOf_0 rfl)
theorem dX2_bidsOf_9 : DR cX2_bidsOf 9 (.istore 5) 2 := dk_54 (bA_sl (a := 0) (j := 9) bkX2_bidsOf_0 rfl) (bA_sl (a := 0) (j := 10) bkX2_bidsOf_0 rfl) (by decide)
theorem dX2_bidsOf_11 : DR cX2_bidsOf 11 (.iload 5) 2 := dk_21 (bA_sl (a := 0) (j := 11) bkX2_bidsOf_0 rfl) (bA_sl (a := 0) (j := 12) bkX2_bidsOf_0 rfl) (by decide)
theorem dX2_bidsOf_13 : DR cX2_bidsOf 13 (.aload_n 0) 1 := dk_42 (bA_sl (a := 0) (j := 13) bkX2_bidsOf_0 rfl)
theorem dX2_bidsOf_14 : DR cX2_bidsOf 14 (.getfield 12) 3 := dk_180 (bA_sl (a := 0) (j := 14) bkX2_bidsOf_0 rfl) (bA_sl (a := 0) (j := 15) bkX2_bidsOf_0 rfl) (bA_sl (a := 0) (j := 16) bkX2_bidsOf_0 rfl) (by decide) rfl
theorem dX2_bidsOf_17 : DR cX2_bidsOf 17 (.getfield 50) 3 := dk_180 (bA_sl (a := 0) (j := 17) bkX2_bidsOf_0 rfl) (bA_sl (a := 0) (j := 18) bkX2_bidsOf_0 rfl) (bA_sl (a := 0) (j := 19) bkX2_bidsOf_0 rfl) (by decide) rfl
theorem dX2_bidsOf_20 : DR cX2_bidsOf 20 (.if_icmp .ge 48) 3 := dk_162 (bA_sl (a := 0) (j := 20) bkX2_bidsOf_0 rfl) (bA_sl (a := 0) (j := 21) bkX2_bidsOf_0 rfl) (bA_sl (a := 0) (j := 22) bkX2_bidsOf_0 rfl) (by decide) (by decide)
theorem dX2_bidsOf_23 : DR cX2_bidsOf 23 (.aload_n 0) 1 := dk_42 (bA_sl (a := 0) (j := 23) bkX2_bidsOf_0 rfl)
theorem dX2_bidsOf_24 : DR cX2_bidsOf 24 (.getfield 12) 3 := dk_180 (bA_sl (a := 0) (j := 24) bkX2_bidsOf_0 rfl) (bA_sl (a := 0) (j := 25) bkX2_bidsOf_0 rfl) (bA_sl (a := 0) (j := 26) bkX2_bidsOf_0 rfl) (by decide) rfl
theorem dX2_bidsOf_27 : DR cX2_bidsOf 27 (.getfield 53) 3 := dk_180 (bA_sl (a := 0) (j := 27) bkX2_bidsOf_0 rfl) (bA_sl (a := 0) (j := 28) bkX2_bidsOf_0 rfl) (bA_sl (a := 0) (j := 29) bkX2_bidsOf_0 rfl) (by decide) rfl
theorem dX2_bidsOf_30 : DR cX2_bidsOf 30 (.iload 5) 2 := dk_21 (bA_sl (a := 0) (j := 30) bkX2_bidsOf_0 rfl) (bA_sl (a := 0) (j := 31) bkX2_bidsOf_0 rfl) (by decide)
theorem dX2_bidsOf_32 : DR cX2_bidsOf 32 (.iaload) 1 := dk_46 (bA_sl (a := 0) (j := 32) bkX2_bidsOf_0 rfl)
theorem dX2_bidsOf_33 : DR cX2_bidsOf 33 (.iload_n 1) 1 := dk_27 (bA_sl (a := 0) (j := 33) bkX2_bidsOf_0 rfl)
theorem dX2_bidsOf_34 : DR cX2_bidsOf 34 (.if_icmp .ne 28) 3 := dk_160 (bA_sl (a := 0) (j := 34) bkX2_bidsOf_0 rfl) (bA_sl (a := 0) (j := 35) bkX2_bidsOf_0 rfl) (bA_sl (a := 0) (j := 36) bkX2_bidsOf_0 rfl) (by decide) (by decide)
theorem dX2_bidsOf_37 : DR cX2_bidsOf 37 (.iload 4) 2 := dk_21 (bA_sl (a := 0) (j := 37) bkX2_bidsOf_0 rfl) (bA_sl (a := 0) (j := 38) bkX2_bidsOf_0 rfl) (by decide)
theorem dX2_bidsOf_39 : DR cX2_bidsOf 39 (.aload_n 0) 1 := dk_42 (bA_sl (a := 0) (j := 39) bkX2_bidsOf_0 rfl)
theorem dX2_bidsOf_40 : DR cX2_bidsOf 40 (.getfield 12) 3 := dk_180 (bA_sl (a := 0) (j := 40) bkX2_bidsOf_0 rfl) (bA_sl (a := 0) (j := 41) bkX2_bidsOf_0 rfl) (bA_sl (a := 0) (j := 42) bkX2_bidsOf_0 rfl) (by decide) rfl
theorem dX2_bidsOf_43 : DR cX2_bidsOf 43 (.getfield 76) 3 := dk_180 (bA_sl (a := 0) (j := 43) bkX2_bidsOf_0 rfl) (bA_sl (a := 0) (j := 44) bkX2_bidsOf_0 rfl) (bA_sl (a := 0) (j := 45) bkX2_bidsOf_0 rfl) (by decide) rfl
theorem dX2_bidsOf_46 : DR cX2_bidsOf 46 (.iload_n 1) 1 := dk_27 (bA_sl (a := 0) (j := 46) bkX2_bidsOf_0 rfl)
theorem dX2_bidsOf_47 : DR cX2_bidsOf 47 (.iaload) 1 := dk_46 (bA_sl (a := 0) (j := 47) bkX2_bidsOf_0 rfl)
theorem dX2_bidsOf_48 : DR cX2_bidsOf 48 (.aload_n 0) 1 := dk_42 (bA_sl (a := 0) (j := 48) bkX2_bidsOf_0 rfl)
theorem dX2_bidsOf_49 : DR cX2_bidsOf 49 (.aload_n 0) 1 := dk_42 (bA_sl (a := 0) (j := 49) bkX2_bidsOf_0 rfl)
theorem dX2_bidsOf_50 : DR cX2_bidsOf 50 (.getfield 26) 3 := dk_180 (bA_sl (a := 0) (j := 50) bkX2_bidsOf_0 rfl) (bA_sl (a := 0) (j := 51) bkX2_bidsOf_0 rfl) (bA_sl (a := 0) (j := 52) bkX2_bidsOf_0 rfl) (by decide) rfl
theorem dX2_bidsOf_53 : DR cX2_bidsOf 53 (.iload 5) 2 := dk_21 (bA_sl (a := 0) (j := 53) bkX2_bidsOf_0 rfl) (bA_sl (a := 0) (j := 54) bkX2_bidsOf_0 rfl) (by decide)
theorem dX2_bidsOf_55 : DR cX2_bidsOf 55 (.invokevirtual 120) 3 := dk_182 (bA_sl (a := 0) (j := 55) bkX2_bidsOf_0 rfl) (bA_sl (a := 0) (j := 56) bkX2_bidsOf_0 rfl) (bA_sl (a := 0) (j := 57) bkX2_bidsOf_0 rfl) (by decide) rfl
theorem dX2_bidsOf_58 : DR cX2_bidsOf 58 (.imul) 1 := dk_104 (bA_sl (a := 0) (j := 58) bkX2_bidsOf_0 rfl)
theorem dX2_bidsOf_59 : DR cX2_bidsOf 59 (.iadd) 1 := dk_96 (bA_sl (a := 0) (j := 59) bkX2_bidsOf_0 rfl)
theorem dX2_bidsOf_60 : DR cX2_bidsOf 60 (.istore 4) 2 := dk_54 (bA_sl (a := 0) (j := 60) bkX2_bidsOf_0 rfl) (bA_sl (a := 0) (j := 61) bkX2_bidsOf_0 rfl) (by decide)
theorem bkX2_bidsOf_1 : ((cX2_bidsOf.data.toList.drop 64).take 64).map UInt8.toNat = [1, 167, 255, 202, 21, 4, 172] := by decide +kernel
theorem dX2_bidsOf_62 : DR cX2_bidsOf 62 (.iinc 5 1) 3 := dk_132 (bA_sl (a := 0) (j := 62) bkX2_bidsOf_0 rfl) (bA_sl (a := 0) (j := 63) bkX2_bidsOf_0 rfl) (bA_sl (a := 64) (j := 0) bkX2_bidsOf_1 rfl) (by decide) (by decide)
theorem dX2_bidsOf_65 : DR cX2_bidsOf 65 (.goto (-54)) 3 := dk_167 (bA_sl (a := 64) (j := 1) bkX2_bidsOf_1 rfl) (bA_sl (a := 64) (j := 2) bkX2_bidsOf_1 rfl) (bA_sl (a := 64) (j := 3) bkX2_bidsOf_1 rfl) (by decide) (by decide)
theorem dX2_bidsOf_68 : DR cX2_bidsOf 68 (.iload 4) 2 := dk_21 (bA_sl (a := 64) (j := 4) bkX2_bidsOf_1 rfl) (bA_sl (a := 64) (j := 5) bkX2_bidsOf_1 rfl) (by decide)
theorem dX2_bidsOf_70 : DR cX2_bidsOf 70 (.ireturn) 1 := dk_172 (bA_sl (a := 64) (j := 6) bkX2_bidsOf_1 rfl)
theorem bkX3_init_0 : ((cX3_init.data.toList.drop 0).take 64).map UInt8.toNat = [42, 183, 0, 3, 42, 16, 16, 188, 10, 181, 0, 9, 42, 16, 16, 188, 10, 181, 0, 15, 42, 16, 16, 188, 10, 181, 0, 18, 42, 16, 16, 188, 10, 181, 0, 21, 42, 16, 16, 188, 10, 181, 0, 24, 42, 16, 6, 188, 10, 181, 0, 27, 42, 182, 0, 30, 177] := by decide +kernel
theorem dX3_init_0 : DR cX3_init 0 (.aload_n 0) 1 := dk_42 (bA_sl (a := 0) (j := 0) bkX3_init_0 rfl)
theorem dX3_init_1 : DR cX3_init 1 (.invokespecial 3) 3 := dk_183 (bA_sl (a := 0) (j := 1) bkX3_init_0 rfl) (bA_sl (a := 0) (j := 2) bkX3_init_0 rfl) (bA_sl (a := 0) (j := 3) bkX3_init_0 rfl) (by decide) rfl
theorem dX3_init_4 : DR cX3_init 4 (.aload_n 0) 1 := dk_42 (bA_sl (a := 0) (j := 4) bkX3_init_0 rfl)
theorem dX3_init_5 : DR cX3_init 5 (.bipush 16) 2 := dk_16 (bA_sl (a := 0) (j := 5) bkX3_init_0 rfl) (bA_sl (a := 0) (j := 6) bkX3_init_0 rfl) (by decide) (by decide)
theorem dX3_init_7 : decode cX3_init 7 = .ok (.newarray .int, 2) := by decide +kernel
theorem dX3_init_9 : DR cX3_init 9 (.putfield 9) 3 := dk_181 (bA_sl (a := 0) (j := 9) bkX3_init_0 rfl) (bA_sl (a := 0) (j := 10) bkX3_init_0 rfl) (bA_sl (a := 0) (j := 11) bkX3_init_0 rfl) (by decide) rfl
theorem dX3_init_12 : DR cX3_init 12 (.aload_n 0) 1 := dk_42 (bA_sl (a := 0) (j := 12) bkX3_init_0 rfl)
theorem dX3_init_13 : DR cX3_init 13 (.bipush 16) 2 := dk_16 (bA_sl (a := 0) (j := 13) bkX3_init_0 rfl) (bA_sl (a := 0) (j := 14) bkX3_init_0 rfl) (by decide) (by decide)
theorem dX3_init_15 : decode cX3_init 15 = .ok (.newarray .int, 2) := by decide +kernel
theorem dX3_init_17 : DR cX3_init 17 (.putfield 15) 3 := dk_181 (bA_sl (a := 0) (j := 17) bkX3_init_0 rfl) (bA_sl (a := 0) (j := 18) bkX3_init_0 rfl) (bA_sl (a := 0) (j := 19) bkX3_init_0 rfl) (by decide) rfl
theorem dX3_init_20 : DR cX3_init 20 (.aload_n 0) 1 := dk_42 (bA_sl (a := 0) (j := 20) bkX3_init_0 rfl)
theorem dX3_init_21 : DR cX3_init 21 (.bipush 16) 2 := dk_16 (bA_sl (a := 0) (j := 21) bkX3_init_0 rfl) (bA_sl (a := 0) (j := 22) bkX3_init_0 rfl) (by decide) (by decide)
theorem dX3_init_23 : decode cX3_init 23 = .ok (.newarray .int, 2) := by decide +kernel
theorem dX3_init_25 : DR cX3_init 25 (.putfield 18) 3 := dk_181 (bA_sl (a := 0) (j := 25) bkX3_init_0 rfl) (bA_sl (a := 0) (j := 26) bkX3_init_0 rfl) (bA_sl (a := 0) (j := 27) bkX3_init_0 rfl) (by decide) rfl
theorem dX3_init_28 : DR cX3_init 28 (.aload_n 0) 1 := dk_42 (bA_sl (a := 0) (j := 28) bkX3_init_0 rfl)
theorem dX3_init_29 : DR cX3_init 29 (.bipush 16) 2 := dk_16 (bA_sl (a := 0) (j := 29) bkX3_init_0 rfl) (bA_sl (a := 0) (j := 30) bkX3_init_0 rfl) (by decide) (by decide)
theorem dX3_init_31 : decode cX3_init 31 = .ok (.newarray .int, 2) := by decide +kernel
theorem dX3_init_33 : DR cX3_init 33 (.putfield 21) 3 := dk_181 (bA_sl (a := 0) (j := 33) bkX3_init_0 rfl) (bA_sl (a := 0) (j := 34) bkX3_init_0 rfl) (bA_sl (a := 0) (j := 35) bkX3_init_0 rfl) (by decide) rfl
theorem dX3_init_36 : DR cX3_init 36 (.aload_n 0) 1 := dk_42 (bA_sl (a := 0) (j := 36) bkX3_init_0 rfl)
theorem dX3_init_37 : DR cX3_init 37 (.bipush 16) 2 := dk_16 (bA_sl (a := 0) (j := 37) bkX3_init_0 rfl) (bA_sl (a := 0) (j := 38) bkX3_init_0 rfl) (by decide) (by decide)
theorem dX3_init_39 : decode cX3_init 39 = .ok (.newarray .int, 2) := by decide +kernel
theorem dX3_init_41 : DR cX3_init 41 (.putfield 24) 3 := dk_181 (bA_sl (a := 0) (j := 41) bkX3_init_0 rfl) (bA_sl (a := 0) (j := 42) bkX3_init_0 rfl) (bA_sl (a := 0) (j := 43) bkX3_init_0 rfl) (by decide) rfl
theorem dX3_init_44 : DR cX3_init 44 (.aload_n 0) 1 := dk_42 (bA_sl (a := 0) (j := 44) bkX3_init_0 rfl)
theorem dX3_init_45 : DR cX3_init 45 (.bipush 6) 2 := dk_16 (bA_sl (a := 0) (j := 45) bkX3_init_0 rfl) (bA_sl (a := 0) (j := 46) bkX3_init_0 rfl) (by decide) (by decide)
theorem dX3_init_47 : decode cX3_init 47 = .ok (.newarray .int, 2) := by decide +kernel
theorem dX3_init_49 : DR cX3_init 49 (.putfield 27) 3 := dk_181 (bA_sl (a := 0) (j := 49) bkX3_init_0 rfl) (bA_sl (a := 0) (j := 50) bkX3_init_0 rfl) (bA_sl (a := 0) (j := 51) bkX3_init_0 rfl) (by decide) rfl
theorem dX3_init_52 : DR cX3_init 52 (.aload_n 0) 1 := dk_42 (bA_sl (a := 0) (j := 52) bkX3_init_0 rfl)
theorem dX3_init_53 : DR cX3_init 53 (.invokevirtual 30) 3 := dk_182 (bA_sl (a := 0) (j := 53) bkX3_init_0 rfl) (bA_sl (a := 0) (j := 54) bkX3_init_0 rfl) (bA_sl (a := 0) (j := 55) bkX3_init_0 rfl) (by decide) rfl
theorem dX3_init_56 : DR cX3_init 56 (.return_) 1 := dk_177 (bA_sl (a := 0) (j := 56) bkX3_init_0 rfl)
theorem bkX3_empty_0 : ((cX3_empty.data.toList.drop 0).take 64).map UInt8.toNat = [42, 3, 181, 0, 33, 42, 3, 181, 0, 37, 42, 3, 181, 0, 40, 42, 3, 181, 0, 43, 42, 16, 6, 181, 0, 46, 42, 16, 6, 181, 0, 49, 42, 4, 181, 0, 52, 42, 16, 60, 181, 0, 55, 42, 3, 181, 0, 58, 42, 3, 181, 0, 61, 42, 180, 0, 27, 4, 184, 0, 64, 177] := by decide +kernel
theorem dX3_empty_0 : DR cX3_empty 0 (.aload_n 0) 1 := dk_42 (bA_sl (a := 0) (j := 0) bkX3_empty_0 rfl)
theorem dX3_empty_1 : DR cX3_empty 1 (.iconst 0) 1 := dk_3 (bA_sl (a := 0) (j := 1) bkX3_empty_0 rfl)
theorem dX3_empty_2 : DR cX3_empty 2 (.putfield 33) 3 := dk_181 (bA_sl (a := 0) (j := 2) bkX3_empty_0 rfl) (bA_sl (a := 0) (j := 3) bkX3_empty_0 rfl) (bA_sl (a := 0) (j := 4) bkX3_empty_0 rfl) (by decide) rfl
theorem dX3_empty_5 : DR cX3_empty 5 (.aload_n 0) 1 := dk_42 (bA_sl (a := 0) (j := 5) bkX3_empty_0 rfl)
theorem dX3_empty_6 : DR cX3_empty 6 (.iconst 0) 1 := dk_3 (bA_sl (a := 0) (j := 6) bkX3_empty_0 rfl)
theorem dX3_empty_7 : DR cX3_empty 7 (.putfield 37) 3 := dk_181 (bA_sl (a := 0) (j := 7) bkX3_empty_0 rfl) (bA_sl (a := 0) (j := 8) bkX3_empty_0 rfl) (bA_sl (a := 0) (j := 9) bkX3_empty_0 rfl) (by decide) rfl
theorem dX3_empty_10 : DR cX3_empty 10 (.aload_n 0) 1 := dk_42 (bA_sl (a := 0) (j := 10) bkX3_empty_0 rfl)
theorem dX3_empty_11 : DR cX3_empty 11 (.iconst 0) 1 := dk_3 (bA_sl (a := 0) (j := 11) bkX3_empty_0 rfl)
theorem dX3_empty_12 : DR cX3_empty 12 (.putfield 40) 3 := dk_181 (bA_sl (a := 0) (j := 12) bkX3_empty_0 rfl) (bA_sl (a := 0) (j := 13) bkX3_empty_0 rfl) (bA_sl (a := 0) (j := 14) bkX3_empty_0 rfl) (by decide) rfl
theorem dX3_empty_15 : DR cX3_empty 15 (.aload_n 0) 1 := dk_42 (bA_sl (a := 0) (j := 15) bkX3_empty_0 rfl)
theorem dX3_empty_16 : DR cX3_empty 16 (.iconst 0) 1 := dk_3 (bA_sl (a := 0) (j := 16) bkX3_empty_0 rfl)
theorem dX3_empty_17 : DR cX3_empty 17 (.putfield 43) 3 := dk_181 (bA_sl (a := 0) (j := 17) bkX3_empty_0 rfl) (bA_sl (a := 0) (j := 18) bkX3_empty_0 rfl) (bA_sl (a := 0) (j := 19) bkX3_empty_0 rfl) (by decide) rfl
theorem dX3_empty_20 : DR cX3_empty 20 (.aload_n 0) 1 := dk_42 (bA_sl (a := 0) (j := 20) bkX3_empty_0 rfl)
theorem dX3_empty_21 : DR cX3_empty 21 (.bipush 6) 2 := dk_16 (bA_sl (a := 0) (j := 21) bkX3_empty_0 rfl) (bA_sl (a := 0) (j := 22) bkX3_empty_0 rfl) (by decide) (by decide)
theorem dX3_empty_23 : DR cX3_empty 23 (.putfield 46) 3 := dk_181 (bA_sl (a := 0) (j := 23) bkX3_empty_0 rfl) (bA_sl (a := 0) (j := 24) bkX3_empty_0 rfl) (bA_sl (a := 0) (j := 25) bkX3_empty_0 rfl) (by decide) rfl
theorem dX3_empty_26 : DR cX3_empty 26 (.aload_n 0) 1 := dk_42 (bA_sl (a := 0) (j := 26) bkX3_empty_0 rfl)
theorem dX3_empty_27 : DR cX3_empty 27 (.bipush 6) 2 := dk_16 (bA_sl (a := 0) (j := 27) bkX3_empty_0 rfl) (bA_sl (a := 0) (j := 28) bkX3_empty_0 rfl) (by decide) (by decide)
theorem dX3_empty_29 : DR cX3_empty 29 (.putfield 49) 3 := dk_181 (bA_sl (a := 0) (j := 29) bkX3_empty_0 rfl) (bA_sl (a := 0) (j := 30) bkX3_empty_0 rfl) (bA_sl (a := 0) (j := 31) bkX3_empty_0 rfl) (by decide) rfl
theorem dX3_empty_32 : DR cX3_empty 32 (.aload_n 0) 1 := dk_42 (bA_sl (a := 0) (j := 32) bkX3_empty_0 rfl)
theorem dX3_empty_33 : DR cX3_empty 33 (.iconst 1) 1 := dk_4 (bA_sl (a := 0) (j := 33) bkX3_empty_0 rfl)
theorem dX3_empty_34 : DR cX3_empty 34 (.putfield 52) 3 := dk_181 (bA_sl (a := 0) (j := 34) bkX3_empty_0 rfl) (bA_sl (a := 0) (j := 35) bkX3_empty_0 rfl) (bA_sl (a := 0) (j := 36) bkX3_empty_0 rfl) (by decide) rfl
theorem dX3_empty_37 : DR cX3_empty 37 (.aload_n 0) 1 := dk_42 (bA_sl (a := 0) (j := 37) bkX3_empty_0 rfl)
theorem dX3_empty_38 : DR cX3_empty 38 (.bipush 60) 2 := dk_16 (bA_sl (a := 0) (j := 38) bkX3_empty_0 rfl) (bA_sl (a := 0) (j := 39) bkX3_empty_0 rfl) (by decide) (by decide)
theorem dX3_empty_40 : DR cX3_empty 40 (.putfield 55) 3 := dk_181 (bA_sl (a := 0) (j := 40) bkX3_empty_0 rfl) (bA_sl (a := 0) (j := 41) bkX3_empty_0 rfl) (bA_sl (a := 0) (j := 42) bkX3_empty_0 rfl) (by decide) rfl
theorem dX3_empty_43 : DR cX3_empty 43 (.aload_n 0) 1 := dk_42 (bA_sl (a := 0) (j := 43) bkX3_empty_0 rfl)
theorem dX3_empty_44 : DR cX3_empty 44 (.iconst 0) 1 := dk_3 (bA_sl (a := 0) (j := 44) bkX3_empty_0 rfl)
theorem dX3_empty_45 : DR cX3_empty 45 (.putfield 58) 3 := dk_181 (bA_sl (a := 0) (j := 45) bkX3_empty_0 rfl) (bA_sl (a := 0) (j := 46) bkX3_empty_0 rfl) (bA_sl (a := 0) (j := 47) bkX3_empty_0 rfl) (by decide) rfl
theorem dX3_empty_48 : DR cX3_empty 48 (.aload_n 0) 1 := dk_42 (bA_sl (a := 0) (j := 48) bkX3_empty_0 rfl)
theorem dX3_empty_49 : DR cX3_empty 49 (.iconst 0) 1 := dk_3 (bA_sl (a := 0) (j := 49) bkX3_empty_0 rfl)
theorem dX3_empty_50 : DR cX3_empty 50 (.putfield 61) 3 := dk_181 (bA_sl (a := 0) (j := 50) bkX3_empty_0 rfl) (bA_sl (a := 0) (j := 51) bkX3_empty_0 rfl) (bA_sl (a := 0) (j := 52) bkX3_empty_0 rfl) (by decide) rfl
theorem dX3_empty_53 : DR cX3_empty 53 (.aload_n 0) 1 := dk_42 (bA_sl (a := 0) (j := 53) bkX3_empty_0 rfl)
theorem dX3_empty_54 : DR cX3_empty 54 (.getfield 27) 3 := dk_180 (bA_sl (a := 0) (j := 54) bkX3_empty_0 rfl) (bA_sl (a := 0) (j := 55) bkX3_empty_0 rfl) (bA_sl (a := 0) (j := 56) bkX3_empty_0 rfl) (by decide) rfl
theorem dX3_empty_57 : DR cX3_empty 57 (.iconst 1) 1 := dk_4 (bA_sl (a := 0) (j := 57) bkX3_empty_0 rfl)
theorem dX3_empty_58 : DR cX3_empty 58 (.invokestatic 64) 3 := dk_184 (bA_sl (a := 0) (j := 58) bkX3_empty_0 rfl) (bA_sl (a := 0) (j := 59) bkX3_empty_0 rfl) (bA_sl (a := 0) (j := 60) bkX3_empty_0 rfl) (by decide) rfl
theorem dX3_empty_61 : DR cX3_empty 61 (.return_) 1 := dk_177 (bA_sl (a := 0) (j := 61) bkX3_empty_0 rfl)
theorem bkX3_become_0 : ((cX3_become.data.toList.drop 0).take 64).map UInt8.toNat = [42, 43, 180, 0, 33, 181, 0, 33, 42, 43, 180, 0, 37, 181, 0, 37, 42, 43, 180, 0, 40, 181, 0, 40, 42, 43, 180, 0, 43, 181, 0, 43, 42, 43, 180, 0, 46, 181, 0, 46, 42, 43, 180, 0, 49, 181, 0, 49, 42, 43, 180, 0, 52, 181, 0, 52, 42, 43, 180, 0, 55, 181, 0, 55] := by decide +kernel
theorem dX3_become_0 : DR cX3_become 0 (.aload_n 0) 1 := dk_42 (bA_sl (a := 0) (j := 0) bkX3_become_0 rfl)
theorem dX3_become_1 : DR cX3_become 1 (.aload_n 1) 1 := dk_43 (bA_sl (a := 0) (j := 1) bkX3_become_0 rfl)
theorem dX3_become_2 : DR cX3_become 2 (.getfield 33) 3 := dk_180 (bA_sl (a := 0) (j := 2) bkX3_become_0 rfl) (bA_sl (a := 0) (j := 3) bkX3_become_0 rfl) (bA_sl (a := 0) (j := 4) bkX3_become_0 rfl) (by decide) rfl
theorem dX3_become_5 : DR cX3_become 5 (.putfield 33) 3 := dk_181 (bA_sl (a := 0) (j := 5) bkX3_become_0 rfl) (bA_sl (a := 0) (j := 6) bkX3_become_0 rfl) (bA_sl (a := 0) (j := 7) bkX3_become_0 rfl) (by decide) rfl
theorem dX3_become_8 : DR cX3_become 8 (.aload_n 0) 1 := dk_42 (bA_sl (a := 0) (j := 8) bkX3_become_0 rfl)
theorem dX3_become_9 : DR cX3_become 9 (.aload_n 1) 1 := dk_43 (bA_sl (a := 0) (j := 9) bkX3_become_0 rfl)
theorem dX3_become_10 : DR cX3_become 10 (.getfield 37) 3 := dk_180 (bA_sl (a := 0) (j := 10) bkX3_become_0 rfl) (bA_sl (a := 0) (j := 11) bkX3_become_0 rfl) (bA_sl (a := 0) (j := 12) bkX3_become_0 rfl) (by decide) rfl
theorem dX3_become_13 : DR cX3_become 13 (.putfield 37) 3 := dk_181 (bA_sl (a := 0) (j := 13) bkX3_become_0 rfl) (bA_sl (a := 0) (j := 14) bkX3_become_0 rfl) (bA_sl (a := 0) (j := 15) bkX3_become_0 rfl) (by decide) rfl
theorem dX3_become_16 : DR cX3_become 16 (.aload_n 0) 1 := dk_42 (bA_sl (a := 0) (j := 16) bkX3_become_0 rfl)
theorem dX3_become_17 : DR cX3_become 17 (.aload_n 1) 1 := dk_43 (bA_sl (a := 0) (j := 17) bkX3_become_0 rfl)
theorem dX3_become_18 : DR cX3_become 18 (.getfield 40) 3 := dk_180 (bA_sl (a := 0) (j := 18) bkX3_become_0 rfl) (bA_sl (a := 0) (j := 19) bkX3_become_0 rfl) (bA_sl (a := 0) (j := 20) bkX3_become_0 rfl) (by decide) rfl
theorem dX3_become_21 : DR cX3_become 21 (.putfield 40) 3 := dk_181 (bA_sl (a := 0) (j := 21) bkX3_become_0 rfl) (bA_sl (a := 0) (j := 22) bkX3_become_0 rfl) (bA_sl (a := 0) (j := 23) bkX3_become_0 rfl) (by decide) rfl
theorem dX3_become_24 : DR cX3_become 24 (.aload_n 0) 1 := dk_42 (bA_sl (a := 0) (j := 24) bkX3_become_0 rfl)
theorem dX3_become_25 : DR cX3_become 25 (.aload_n 1) 1 := dk_43 (bA_sl (a := 0) (j := 25) bkX3_become_0 rfl)
theorem dX3_become_26 : DR cX3_become 26 (.getfield 43) 3 := dk_180 (bA_sl (a := 0) (j := 26) bkX3_become_0 rfl) (bA_sl (a := 0) (j := 27) bkX3_become_0 rfl) (bA_sl (a := 0) (j := 28) bkX3_become_0 rfl) (by decide) rfl
theorem dX3_become_29 : DR cX3_become 29 (.putfield 43) 3 := dk_181 (bA_sl (a := 0) (j := 29) bkX3_become_0 rfl) (bA_sl (a := 0) (j := 30) bkX3_become_0 rfl) (bA_sl (a := 0) (j := 31) bkX3_become_0 rfl) (by decide) rfl
theorem dX3_become_32 : DR cX3_become 32 (.aload_n 0) 1 := dk_42 (bA_sl (a := 0) (j := 32) bkX3_become_0 rfl)
theorem dX3_become_33 : DR cX3_become 33 (.aload_n 1) 1 := dk_43 (bA_sl (a := 0) (j := 33) bkX3_become_0 rfl)
theorem dX3_become_34 : DR cX3_become 34 (.getfield 46) 3 := dk_180 (bA_sl (a := 0) (j := 34) bkX3_become_0 rfl) (bA_sl (a := 0) (j := 35) bkX3_become_0 rfl) (bA_sl (a := 0) (j := 36) bkX3_become_0 rfl) (by decide) rfl
theorem dX3_become_37 : DR cX3_become 37 (.putfield 46) 3 := dk_181 (bA_sl (a := 0) (j := 37) bkX3_become_0 rfl) (bA_sl (a := 0) (j := 38) bkX3_become_0 rfl) (bA_sl (a := 0) (j := 39) bkX3_become_0 rfl) (by decide) rfl
theorem dX3_become_40 : DR cX3_become 40 (.aload_n 0) 1 := dk_42 (bA_sl (a := 0) (j := 40) bkX3_become_0 rfl)
theorem dX3_become_41 : DR cX3_become 41 (.aload_n 1) 1 := dk_43 (bA_sl (a := 0) (j := 41) bkX3_become_0 rfl)
theorem dX3_become_42 : DR cX3_become 42 (.getfield 49) 3 := dk_180 (bA_sl (a := 0) (j := 42) bkX3_become_0 rfl) (bA_sl (a := 0) (j := 43) bkX3_become_0 rfl) (bA_sl (a := 0) (j := 44) bkX3_become_0 rfl) (by decide) rfl
theorem dX3_become_45 : DR cX3_become 45 (.putfield 49) 3 := dk_181 (bA_sl (a := 0) (j := 45) bkX3_become_0 rfl) (bA_sl (a := 0) (j := 46) bkX3_become_0 rfl) (bA_sl (a := 0) (j := 47) bkX3_become_0 rfl) (by decide) rfl
theorem dX3_become_48 : DR cX3_become 48 (.aload_n 0) 1 := dk_42 (bA_sl (a := 0) (j := 48) bkX3_become_0 rfl)
theorem dX3_become_49 : DR cX3_become 49 (.aload_n 1) 1 := dk_43 (bA_sl (a := 0) (j := 49) bkX3_become_0 rfl)
theorem dX3_become_50 : DR cX3_become 50 (.getfield 52) 3 := dk_180 (bA_sl (a := 0) (j := 50) bkX3_become_0 rfl) (bA_sl (a := 0) (j := 51) bkX3_become_0 rfl) (bA_sl (a := 0) (j := 52) bkX3_become_0 rfl) (by decide) rfl
theorem dX3_become_53 : DR cX3_become 53 (.putfield 52) 3 := dk_181 (bA_sl (a := 0) (j := 53) bkX3_become_0 rfl) (bA_sl (a := 0) (j := 54) bkX3_become_0 rfl) (bA_sl (a := 0) (j := 55) bkX3_become_0 rfl) (by decide) rfl
theorem dX3_become_56 : DR cX3_become 56 (.aload_n 0) 1 := dk_42 (bA_sl (a := 0) (j := 56) bkX3_become_0 rfl)
theorem dX3_become_57 : DR cX3_become 57 (.aload_n 1) 1 := dk_43 (bA_sl (a := 0) (j := 57) bkX3_become_0 rfl)
theorem dX3_become_58 : DR cX3_become 58 (.getfield 55) 3 := dk_180 (bA_sl (a := 0) (j := 58) bkX3_become_0 rfl) (bA_sl (a := 0) (j := 59) bkX3_become_0 rfl) (bA_sl (a := 0) (j := 60) bkX3_become_0 rfl) (by decide) rfl
theorem dX3_become_61 : DR cX3_become 61 (.putfield 55) 3 := dk_181 (bA_sl (a := 0) (j := 61) bkX3_become_0 rfl) (bA_sl (a := 0) (j := 62) bkX3_become_0 rfl) (bA_sl (a := 0) (j := 63) bkX3_become_0 rfl) (by decide) rfl
theorem bkX3_become_1 : ((cX3_become.data.toList.drop 64).take 64).map UInt8.toNat = [42, 43, 180, 0, 58, 181, 0, 58, 42, 43, 180, 0, 61, 181, 0, 61, 43, 180, 0, 9, 3, 42, 180, 0, 9, 3, 16, 16, 184, 0, 70, 43, 180, 0, 15, 3, 42, 180, 0, 15, 3, 16, 16, 184, 0, 70, 43, 180, 0, 18, 3, 42, 180, 0, 18, 3, 16, 16, 184, 0, 70, 43, 180, 0] := by decide +kernel
theorem dX3_become_64 : DR cX3_become 64 (.aload_n 0) 1 := dk_42 (bA_sl (a := 64) (j := 0) bkX3_become_1 rfl)
theorem dX3_become_65 : DR cX3_become 65 (.aload_n 1) 1 := dk_43 (bA_sl (a := 64) (j := 1) bkX3_become_1 rfl)
theorem dX3_become_66 : DR cX3_become 66 (.getfield 58) 3 := dk_180 (bA_sl (a := 64) (j := 2) bkX3_become_1 rfl) (bA_sl (a := 64) (j := 3) bkX3_become_1 rfl) (bA_sl (a := 64) (j := 4) bkX3_become_1 rfl) (by decide) rfl
theorem dX3_become_69 : DR cX3_become 69 (.putfield 58) 3 := dk_181 (bA_sl (a := 64) (j := 5) bkX3_become_1 rfl) (bA_sl (a := 64) (j := 6) bkX3_become_1 rfl) (bA_sl (a := 64) (j := 7) bkX3_become_1 rfl) (by decide) rfl
theorem dX3_become_72 : DR cX3_become 72 (.aload_n 0) 1 := dk_42 (bA_sl (a := 64) (j := 8) bkX3_become_1 rfl)
theorem dX3_become_73 : DR cX3_become 73 (.aload_n 1) 1 := dk_43 (bA_sl (a := 64) (j := 9) bkX3_become_1 rfl)
theorem dX3_become_74 : DR cX3_become 74 (.getfield 61) 3 := dk_180 (bA_sl (a := 64) (j := 10) bkX3_become_1 rfl) (bA_sl (a := 64) (j := 11) bkX3_become_1 rfl) (bA_sl (a := 64) (j := 12) bkX3_become_1 rfl) (by decide) rfl
theorem dX3_become_77 : DR cX3_become 77 (.putfield 61) 3 := dk_181 (bA_sl (a := 64) (j := 13) bkX3_become_1 rfl) (bA_sl (a := 64) (j := 14) bkX3_become_1 rfl) (bA_sl (a := 64) (j := 15) bkX3_become_1 rfl) (by decide) rfl
theorem dX3_become_80 : DR cX3_become 80 (.aload_n 1) 1 := dk_43 (bA_sl (a := 64) (j := 16) bkX3_become_1 rfl)
theorem dX3_become_81 : DR cX3_become 81 (.getfield 9) 3 := dk_180 (bA_sl (a := 64) (j := 17) bkX3_become_1 rfl) (bA_sl (a := 64) (j := 18) bkX3_become_1 rfl) (bA_sl (a := 64) (j := 19) bkX3_become_1 rfl) (by decide) rfl
theorem dX3_become_84 : DR cX3_become 84 (.iconst 0) 1 := dk_3 (bA_sl (a := 64) (j := 20) bkX3_become_1 rfl)
theorem dX3_become_85 : DR cX3_become 85 (.aload_n 0) 1 := dk_42 (bA_sl (a := 64) (j := 21) bkX3_become_1 rfl)
theorem dX3_become_86 : DR cX3_become 86 (.getfield 9) 3 := dk_180 (bA_sl (a := 64) (j := 22) bkX3_become_1 rfl) (bA_sl (a := 64) (j := 23) bkX3_become_1 rfl) (bA_sl (a := 64) (j := 24) bkX3_become_1 rfl) (by decide) rfl
theorem dX3_become_89 : DR cX3_become 89 (.iconst 0) 1 := dk_3 (bA_sl (a := 64) (j := 25) bkX3_become_1 rfl)
theorem dX3_become_90 : DR cX3_become 90 (.bipush 16) 2 := dk_16 (bA_sl (a := 64) (j := 26) bkX3_become_1 rfl) (bA_sl (a := 64) (j := 27) bkX3_become_1 rfl) (by decide) (by decide)
theorem dX3_become_92 : DR cX3_become 92 (.invokestatic 70) 3 := dk_184 (bA_sl (a := 64) (j := 28) bkX3_become_1 rfl) (bA_sl (a := 64) (j := 29) bkX3_become_1 rfl) (bA_sl (a := 64) (j := 30) bkX3_become_1 rfl) (by decide) rfl
theorem dX3_become_95 : DR cX3_become 95 (.aload_n 1) 1 := dk_43 (bA_sl (a := 64) (j := 31) bkX3_become_1 rfl)
theorem dX3_become_96 : DR cX3_become 96 (.getfield 15) 3 := dk_180 (bA_sl (a := 64) (j := 32) bkX3_become_1 rfl) (bA_sl (a := 64) (j := 33) bkX3_become_1 rfl) (bA_sl (a := 64) (j := 34) bkX3_become_1 rfl) (by decide) rfl
theorem dX3_become_99 : DR cX3_become 99 (.iconst 0) 1 := dk_3 (bA_sl (a := 64) (j := 35) bkX3_become_1 rfl)
theorem dX3_become_100 : DR cX3_become 100 (.aload_n 0) 1 := dk_42 (bA_sl (a := 64) (j := 36) bkX3_become_1 rfl)
theorem dX3_become_101 : DR cX3_become 101 (.getfield 15) 3 := dk_180 (bA_sl (a := 64) (j := 37) bkX3_become_1 rfl) (bA_sl (a := 64) (j := 38) bkX3_become_1 rfl) (bA_sl (a := 64) (j := 39) bkX3_become_1 rfl) (by decide) rfl
theorem dX3_become_104 : DR cX3_become 104 (.iconst 0) 1 := dk_3 (bA_sl (a := 64) (j := 40) bkX3_become_1 rfl)
theorem dX3_become_105 : DR cX3_become 105 (.bipush 16) 2 := dk_16 (bA_sl (a := 64) (j := 41) bkX3_become_1 rfl) (bA_sl (a := 64) (j := 42) bkX3_become_1 rfl) (by decide) (by decide)
theorem dX3_become_107 : DR cX3_become 107 (.invokestatic 70) 3 := dk_184 (bA_sl (a := 64) (j := 43) bkX3_become_1 rfl) (bA_sl (a := 64) (j := 44) bkX3_become_1 rfl) (bA_sl (a := 64) (j := 45) bkX3_become_1 rfl) (by decide) rfl
theorem dX3_become_110 : DR cX3_become 110 (.aload_n 1) 1 := dk_43 (bA_sl (a := 64) (j := 46) bkX3_become_1 rfl)
theorem dX3_become_111 : DR cX3_become 111 (.getfield 18) 3 := dk_180 (bA_sl (a := 64) (j := 47) bkX3_become_1 rfl) (bA_sl (a := 64) (j := 48) bkX3_become_1 rfl) (bA_sl (a := 64) (j := 49) bkX3_become_1 rfl) (by decide) rfl
theorem dX3_become_114 : DR cX3_become 114 (.iconst 0) 1 := dk_3 (bA_sl (a := 64) (j := 50) bkX3_become_1 rfl)
theorem dX3_become_115 : DR cX3_become 115 (.aload_n 0) 1 := dk_42 (bA_sl (a := 64) (j := 51) bkX3_become_1 rfl)
theorem dX3_become_116 : DR cX3_become 116 (.getfield 18) 3 := dk_180 (bA_sl (a := 64) (j := 52) bkX3_become_1 rfl) (bA_sl (a := 64) (j := 53) bkX3_become_1 rfl) (bA_sl (a := 64) (j := 54) bkX3_become_1 rfl) (by decide) rfl
theorem dX3_become_119 : DR cX3_become 119 (.iconst 0) 1 := dk_3 (bA_sl (a := 64) (j := 55) bkX3_become_1 rfl)
theorem dX3_become_120 : DR cX3_become 120 (.bipush 16) 2 := dk_16 (bA_sl (a := 64) (j := 56) bkX3_become_1 rfl) (bA_sl (a := 64) (j := 57) bkX3_become_1 rfl) (by decide) (by decide)
theorem dX3_become_122 : DR cX3_become 122 (.invokestatic 70) 3 := dk_184 (bA_sl (a := 64) (j := 58) bkX3_become_1 rfl) (bA_sl (a := 64) (j := 59) bkX3_become_1 rfl) (bA_sl (a := 64) (j := 60) bkX3_become_1 rfl) (by decide) rfl
theorem dX3_become_125 : DR cX3_become 125 (.aload_n 1) 1 := dk_43 (bA_sl (a := 64) (j := 61) bkX3_become_1 rfl)
theorem bkX3_become_2 : ((cX3_become.data.toList.drop 128).take 64).map UInt8.toNat = [21, 3, 42, 180, 0, 21, 3, 16, 16, 184, 0, 70, 43, 180, 0, 24, 3, 42, 180, 0, 24, 3, 16, 16, 184, 0, 70, 43, 180, 0, 27, 3, 42, 180, 0, 27, 3, 16, 6, 184, 0, 70, 177] := by decide +kernel
theorem dX3_become_126 : DR cX3_become 126 (.getfield 21) 3 := dk_180 (bA_sl (a := 64) (j := 62) bkX3_become_1 rfl) (bA_sl (a := 64) (j := 63) bkX3_become_1 rfl) (bA_sl (a := 128) (j := 0) bkX3_become_2 rfl) (by decide) rfl
theorem dX3_become_129 : DR cX3_become 129 (.iconst 0) 1 := dk_3 (bA_sl (a := 128) (j := 1) bkX3_become_2 rfl)
theorem dX3_become_130 : DR cX3_become 130 (.aload_n 0) 1 := dk_42 (bA_sl (a := 128) (j := 2) bkX3_become_2 rfl)
theorem dX3_become_131 : DR cX3_become 131 (.getfield 21) 3 := dk_180 (bA_sl (a := 128) (j := 3) bkX3_become_2 rfl) (bA_sl (a := 128) (j := 4) bkX3_become_2 rfl) (bA_sl (a := 128) (j := 5) bkX3_become_2 rfl) (by decide) rfl
theorem dX3_become_134 : DR cX3_become 134 (.iconst 0) 1 := dk_3 (bA_sl (a := 128) (j := 6) bkX3_become_2 rfl)
theorem dX3_become_135 : DR cX3_become 135 (.bipush 16) 2 := dk_16 (bA_sl (a := 128) (j := 7) bkX3_become_2 rfl) (bA_sl (a := 128) (j := 8) bkX3_become_2 rfl) (by decide) (by decide)
theorem dX3_become_137 : DR cX3_become 137 (.invokestatic 70) 3 := dk_184 (bA_sl (a := 128) (j := 9) bkX3_become_2 rfl) (bA_sl (a := 128) (j := 10) bkX3_become_2 rfl) (bA_sl (a := 128) (j := 11) bkX3_become_2 rfl) (by decide) rfl
theorem dX3_become_140 : DR cX3_become 140 (.aload_n 1) 1 := dk_43 (bA_sl (a := 128) (j := 12) bkX3_become_2 rfl)
theorem dX3_become_141 : DR cX3_become 141 (.getfield 24) 3 := dk_180 (bA_sl (a := 128) (j := 13) bkX3_become_2 rfl) (bA_sl (a := 128) (j := 14) bkX3_become_2 rfl) (bA_sl (a := 128) (j := 15) bkX3_become_2 rfl) (by decide) rfl
theorem dX3_become_144 : DR cX3_become 144 (.iconst 0) 1 := dk_3 (bA_sl (a := 128) (j := 16) bkX3_become_2 rfl)
theorem dX3_become_145 : DR cX3_become 145 (.aload_n 0) 1 := dk_42 (bA_sl (a := 128) (j := 17) bkX3_become_2 rfl)
theorem dX3_become_146 : DR cX3_become 146 (.getfield 24) 3 := dk_180 (bA_sl (a := 128) (j := 18) bkX3_become_2 rfl) (bA_sl (a := 128) (j := 19) bkX3_become_2 rfl) (bA_sl (a := 128) (j := 20) bkX3_become_2 rfl) (by decide) rfl
theorem dX3_become_149 : DR cX3_become 149 (.iconst 0) 1 := dk_3 (bA_sl (a := 128) (j := 21) bkX3_become_2 rfl)
theorem dX3_become_150 : DR cX3_become 150 (.bipush 16) 2 := dk_16 (bA_sl (a := 128) (j := 22) bkX3_become_2 rfl) (bA_sl (a := 128) (j := 23) bkX3_become_2 rfl) (by decide) (by decide)
theorem dX3_become_152 : DR cX3_become 152 (.invokestatic 70) 3 := dk_184 (bA_sl (a := 128) (j := 24) bkX3_become_2 rfl) (bA_sl (a := 128) (j := 25) bkX3_become_2 rfl) (bA_sl (a := 128) (j := 26) bkX3_become_2 rfl) (by decide) rfl
theorem dX3_become_155 : DR cX3_become 155 (.aload_n 1) 1 := dk_43 (bA_sl (a := 128) (j := 27) bkX3_become_2 rfl)
theorem dX3_become_156 : DR cX3_become 156 (.getfield 27) 3 := dk_180 (bA_sl (a := 128) (j := 28) bkX3_become_2 rfl) (bA_sl (a := 128) (j := 29) bkX3_become_2 rfl) (bA_sl (a := 128) (j := 30) bkX3_become_2 rfl) (by decide) rfl
theorem dX3_become_159 : DR cX3_become 159 (.iconst 0) 1 := dk_3 (bA_sl (a := 128) (j := 31) bkX3_become_2 rfl)
theorem dX3_become_160 : DR cX3_become 160 (.aload_n 0) 1 := dk_42 (bA_sl (a := 128) (j := 32) bkX3_become_2 rfl)
theorem dX3_become_161 : DR cX3_become 161 (.getfield 27) 3 := dk_180 (bA_sl (a := 128) (j := 33) bkX3_become_2 rfl) (bA_sl (a := 128) (j := 34) bkX3_become_2 rfl) (bA_sl (a := 128) (j := 35) bkX3_become_2 rfl) (by decide) rfl
theorem dX3_become_164 : DR cX3_become 164 (.iconst 0) 1 := dk_3 (bA_sl (a := 128) (j := 36) bkX3_become_2 rfl)
theorem dX3_become_165 : DR cX3_become 165 (.bipush 6) 2 := dk_16 (bA_sl (a := 128) (j := 37) bkX3_become_2 rfl) (bA_sl (a := 128) (j := 38) bkX3_become_2 rfl) (by decide) (by decide)
theorem dX3_become_167 : DR cX3_become 167 (.invokestatic 70) 3 := dk_184 (bA_sl (a := 128) (j := 39) bkX3_become_2 rfl) (bA_sl (a := 128) (j := 40) bkX3_become_2 rfl) (bA_sl (a := 128) (j := 41) bkX3_become_2 rfl) (by decide) rfl
theorem dX3_become_170 : DR cX3_become 170 (.return_) 1 := dk_177 (bA_sl (a := 128) (j := 42) bkX3_become_2 rfl)
theorem bkX3_addStrip_0 : ((cX3_addStrip.data.toList.drop 0).take 64).map UInt8.toNat = [42, 180, 0, 33, 16, 16, 162, 0, 64, 42, 180, 0, 9, 42, 180, 0, 33, 27, 79, 42, 180, 0, 15, 42, 180, 0, 33, 28, 79, 42, 180, 0, 18, 42, 180, 0, 33, 29, 79, 42, 180, 0, 21, 42, 180, 0, 33, 21, 4, 79, 42, 180, 0, 24, 42, 180, 0, 33, 3, 79, 42, 89, 180, 0] := by decide +kernel
theorem dX3_addStrip_0 : DR cX3_addStrip 0 (.aload_n 0) 1 := dk_42 (bA_sl (a := 0) (j := 0) bkX3_addStrip_0 rfl)
theorem dX3_addStrip_1 : DR cX3_addStrip 1 (.getfield 33) 3 := dk_180 (bA_sl (a := 0) (j := 1) bkX3_addStrip_0 rfl) (bA_sl (a := 0) (j := 2) bkX3_addStrip_0 rfl) (bA_sl (a := 0) (j := 3) bkX3_addStrip_0 rfl) (by decide) rfl
theorem dX3_addStrip_4 : DR cX3_addStrip 4 (.bipush 16) 2 := dk_16 (bA_sl (a := 0) (j := 4) bkX3_addStrip_0 rfl) (bA_sl (a := 0) (j := 5) bkX3_addStrip_0 rfl) (by decide) (by decide)
theorem dX3_addStrip_6 : DR cX3_addStrip 6 (.if_icmp .ge 64) 3 := dk_162 (bA_sl (a := 0) (j := 6) bkX3_addStrip_0 rfl) (bA_sl (a := 0) (j := 7) bkX3_addStrip_0 rfl) (bA_sl (a := 0) (j := 8) bkX3_addStrip_0 rfl) (by decide) (by decide)
theorem dX3_addStrip_9 : DR cX3_addStrip 9 (.aload_n 0) 1 := dk_42 (bA_sl (a := 0) (j := 9) bkX3_addStrip_0 rfl)
theorem dX3_addStrip_10 : DR cX3_addStrip 10 (.getfield 9) 3 := dk_180 (bA_sl (a := 0) (j := 10) bkX3_addStrip_0 rfl) (bA_sl (a := 0) (j := 11) bkX3_addStrip_0 rfl) (bA_sl (a := 0) (j := 12) bkX3_addStrip_0 rfl) (by decide) rfl
theorem dX3_addStrip_13 : DR cX3_addStrip 13 (.aload_n 0) 1 := dk_42 (bA_sl (a := 0) (j := 13) bkX3_addStrip_0 rfl)
theorem dX3_addStrip_14 : DR cX3_addStrip 14 (.getfield 33) 3 := dk_180 (bA_sl (a := 0) (j := 14) bkX3_addStrip_0 rfl) (bA_sl (a := 0) (j := 15) bkX3_addStrip_0 rfl) (bA_sl (a := 0) (j := 16) bkX3_addStrip_0 rfl) (by decide) rfl
theorem dX3_addStrip_17 : DR cX3_addStrip 17 (.iload_n 1) 1 := dk_27 (bA_sl (a := 0) (j := 17) bkX3_addStrip_0 rfl)
theorem dX3_addStrip_18 : DR cX3_addStrip 18 (.iastore) 1 := dk_79 (bA_sl (a := 0) (j := 18) bkX3_addStrip_0 rfl)
theorem dX3_addStrip_19 : DR cX3_addStrip 19 (.aload_n 0) 1 := dk_42 (bA_sl (a := 0) (j := 19) bkX3_addStrip_0 rfl)
theorem dX3_addStrip_20 : DR cX3_addStrip 20 (.getfield 15) 3 := dk_180 (bA_sl (a := 0) (j := 20) bkX3_addStrip_0 rfl) (bA_sl (a := 0) (j := 21) bkX3_addStrip_0 rfl) (bA_sl (a := 0) (j := 22) bkX3_addStrip_0 rfl) (by decide) rfl
theorem dX3_addStrip_23 : DR cX3_addStrip 23 (.aload_n 0) 1 := dk_42 (bA_sl (a := 0) (j := 23) bkX3_addStrip_0 rfl)
theorem dX3_addStrip_24 : DR cX3_addStrip 24 (.getfield 33) 3 := dk_180 (bA_sl (a := 0) (j := 24) bkX3_addStrip_0 rfl) (bA_sl (a := 0) (j := 25) bkX3_addStrip_0 rfl) (bA_sl (a := 0) (j := 26) bkX3_addStrip_0 rfl) (by decide) rfl
theorem dX3_addStrip_27 : DR cX3_addStrip 27 (.iload_n 2) 1 := dk_28 (bA_sl (a := 0) (j := 27) bkX3_addStrip_0 rfl)
theorem dX3_addStrip_28 : DR cX3_addStrip 28 (.iastore) 1 := dk_79 (bA_sl (a := 0) (j := 28) bkX3_addStrip_0 rfl)
theorem dX3_addStrip_29 : DR cX3_addStrip 29 (.aload_n 0) 1 := dk_42 (bA_sl (a := 0) (j := 29) bkX3_addStrip_0 rfl)
theorem dX3_addStrip_30 : DR cX3_addStrip 30 (.getfield 18) 3 := dk_180 (bA_sl (a := 0) (j := 30) bkX3_addStrip_0 rfl) (bA_sl (a := 0) (j := 31) bkX3_addStrip_0 rfl) (bA_sl (a := 0) (j := 32) bkX3_addStrip_0 rfl) (by decide) rfl
theorem dX3_addStrip_33 : DR cX3_addStrip 33 (.aload_n 0) 1 := dk_42 (bA_sl (a := 0) (j := 33) bkX3_addStrip_0 rfl)
theorem dX3_addStrip_34 : DR cX3_addStrip 34 (.getfield 33) 3 := dk_180 (bA_sl (a := 0) (j := 34) bkX3_addStrip_0 rfl) (bA_sl (a := 0) (j := 35) bkX3_addStrip_0 rfl) (bA_sl (a := 0) (j := 36) bkX3_addStrip_0 rfl) (by decide) rfl
theorem dX3_addStrip_37 : DR cX3_addStrip 37 (.iload_n 3) 1 := dk_29 (bA_sl (a := 0) (j := 37) bkX3_addStrip_0 rfl)
theorem dX3_addStrip_38 : DR cX3_addStrip 38 (.iastore) 1 := dk_79 (bA_sl (a := 0) (j := 38) bkX3_addStrip_0 rfl)
theorem dX3_addStrip_39 : DR cX3_addStrip 39 (.aload_n 0) 1 := dk_42 (bA_sl (a := 0) (j := 39) bkX3_addStrip_0 rfl)
theorem dX3_addStrip_40 : DR cX3_addStrip 40 (.getfield 21) 3 := dk_180 (bA_sl (a := 0) (j := 40) bkX3_addStrip_0 rfl) (bA_sl (a := 0) (j := 41) bkX3_addStrip_0 rfl) (bA_sl (a := 0) (j := 42) bkX3_addStrip_0 rfl) (by decide) rfl
theorem dX3_addStrip_43 : DR cX3_addStrip 43 (.aload_n 0) 1 := dk_42 (bA_sl (a := 0) (j := 43) bkX3_addStrip_0 rfl)
theorem dX3_addStrip_44 : DR cX3_addStrip 44 (.getfield 33) 3 := dk_180 (bA_sl (a := 0) (j := 44) bkX3_addStrip_0 rfl) (bA_sl (a := 0) (j := 45) bkX3_addStrip_0 rfl) (bA_sl (a := 0) (j := 46) bkX3_addStrip_0 rfl) (by decide) rfl
theorem dX3_addStrip_47 : DR cX3_addStrip 47 (.iload 4) 2 := dk_21 (bA_sl (a := 0) (j := 47) bkX3_addStrip_0 rfl) (bA_sl (a := 0) (j := 48) bkX3_addStrip_0 rfl) (by decide)
theorem dX3_addStrip_49 : DR cX3_addStrip 49 (.iastore) 1 := dk_79 (bA_sl (a := 0) (j := 49) bkX3_addStrip_0 rfl)
theorem dX3_addStrip_50 : DR cX3_addStrip 50 (.aload_n 0) 1 := dk_42 (bA_sl (a := 0) (j := 50) bkX3_addStrip_0 rfl)
theorem dX3_addStrip_51 : DR cX3_addStrip 51 (.getfield 24) 3 := dk_180 (bA_sl (a := 0) (j := 51) bkX3_addStrip_0 rfl) (bA_sl (a := 0) (j := 52) bkX3_addStrip_0 rfl) (bA_sl (a := 0) (j := 53) bkX3_addStrip_0 rfl) (by decide) rfl
theorem dX3_addStrip_54 : DR cX3_addStrip 54 (.aload_n 0) 1 := dk_42 (bA_sl (a := 0) (j := 54) bkX3_addStrip_0 rfl)
theorem dX3_addStrip_55 : DR cX3_addStrip 55 (.getfield 33) 3 := dk_180 (bA_sl (a := 0) (j := 55) bkX3_addStrip_0 rfl) (bA_sl (a := 0) (j := 56) bkX3_addStrip_0 rfl) (bA_sl (a := 0) (j := 57) bkX3_addStrip_0 rfl) (by decide) rfl
theorem dX3_addStrip_58 : DR cX3_addStrip 58 (.iconst 0) 1 := dk_3 (bA_sl (a := 0) (j := 58) bkX3_addStrip_0 rfl)
theorem dX3_addStrip_59 : DR cX3_addStrip 59 (.iastore) 1 := dk_79 (bA_sl (a := 0) (j := 59) bkX3_addStrip_0 rfl)
theorem dX3_addStrip_60 : DR cX3_addStrip 60 (.aload_n 0) 1 := dk_42 (bA_sl (a := 0) (j := 60) bkX3_addStrip_0 rfl)
theorem dX3_addStrip_61 : DR cX3_addStrip 61 (.dup) 1 := dk_89 (bA_sl (a := 0) (j := 61) bkX3_addStrip_0 rfl)
theorem bkX3_addStrip_1 : ((cX3_addStrip.data.toList.drop 64).take 64).map UInt8.toNat = [33, 4, 96, 181, 0, 33, 177] := by decide +kernel
theorem dX3_addStrip_62 : DR cX3_addStrip 62 (.getfield 33) 3 := dk_180 (bA_sl (a := 0) (j := 62) bkX3_addStrip_0 rfl) (bA_sl (a := 0) (j := 63) bkX3_addStrip_0 rfl) (bA_sl (a := 64) (j := 0) bkX3_addStrip_1 rfl) (by decide) rfl
theorem dX3_addStrip_65 : DR cX3_addStrip 65 (.iconst 1) 1 := dk_4 (bA_sl (a := 64) (j := 1) bkX3_addStrip_1 rfl)
theorem dX3_addStrip_66 : DR cX3_addStrip 66 (.iadd) 1 := dk_96 (bA_sl (a := 64) (j := 2) bkX3_addStrip_1 rfl)
theorem dX3_addStrip_67 : DR cX3_addStrip 67 (.putfield 33) 3 := dk_181 (bA_sl (a := 64) (j := 3) bkX3_addStrip_1 rfl) (bA_sl (a := 64) (j := 4) bkX3_addStrip_1 rfl) (bA_sl (a := 64) (j := 5) bkX3_addStrip_1 rfl) (by decide) rfl
theorem dX3_addStrip_70 : DR cX3_addStrip 70 (.return_) 1 := dk_177 (bA_sl (a := 64) (j := 6) bkX3_addStrip_1 rfl)
theorem bkX3_hasStrip_0 : ((cX3_hasStrip.data.toList.drop 0).take 64).map UInt8.toNat = [27, 155, 0, 15, 27, 42, 180, 0, 33, 162, 0, 7, 4, 167, 0, 4, 3, 172] := by decide +kernel
theorem dX3_hasStrip_0 : DR cX3_hasStrip 0 (.iload_n 1) 1 := dk_27 (bA_sl (a := 0) (j := 0) bkX3_hasStrip_0 rfl)
theorem dX3_hasStrip_1 : DR cX3_hasStrip 1 (.ifCond .lt 15) 3 := dk_155 (bA_sl (a := 0) (j := 1) bkX3_hasStrip_0 rfl) (bA_sl (a := 0) (j := 2) bkX3_hasStrip_0 rfl) (bA_sl (a := 0) (j := 3) bkX3_hasStrip_0 rfl) (by decide) (by decide)
theorem dX3_hasStrip_4 : DR cX3_hasStrip 4 (.iload_n 1) 1 := dk_27 (bA_sl (a := 0) (j := 4) bkX3_hasStrip_0 rfl)
theorem dX3_hasStrip_5 : DR cX3_hasStrip 5 (.aload_n 0) 1 := dk_42 (bA_sl (a := 0) (j := 5) bkX3_hasStrip_0 rfl)
theorem dX3_hasStrip_6 : DR cX3_hasStrip 6 (.getfield 33) 3 := dk_180 (bA_sl (a := 0) (j := 6) bkX3_hasStrip_0 rfl) (bA_sl (a := 0) (j := 7) bkX3_hasStrip_0 rfl) (bA_sl (a := 0) (j := 8) bkX3_hasStrip_0 rfl) (by decide) rfl
theorem dX3_hasStrip_9 : DR cX3_hasStrip 9 (.if_icmp .ge 7) 3 := dk_162 (bA_sl (a := 0) (j := 9) bkX3_hasStrip_0 rfl) (bA_sl (a := 0) (j := 10) bkX3_hasStrip_0 rfl) (bA_sl (a := 0) (j := 11) bkX3_hasStrip_0 rfl) (by decide) (by decide)
theorem dX3_hasStrip_12 : DR cX3_hasStrip 12 (.iconst 1) 1 := dk_4 (bA_sl (a := 0) (j := 12) bkX3_hasStrip_0 rfl)
theorem dX3_hasStrip_13 : DR cX3_hasStrip 13 (.goto 4) 3 := dk_167 (bA_sl (a := 0) (j := 13) bkX3_hasStrip_0 rfl) (bA_sl (a := 0) (j := 14) bkX3_hasStrip_0 rfl) (bA_sl (a := 0) (j := 15) bkX3_hasStrip_0 rfl) (by decide) (by decide)
