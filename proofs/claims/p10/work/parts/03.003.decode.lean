theorem dX8_walk_47 : DR cX8_walk 47 (.if_icmp .eq 22) 3 := dk_159 (bA_sl (a := 0) (j := 47) bkX8_walk_0 rfl) (bA_sl (a := 0) (j := 48) bkX8_walk_0 rfl) (bA_sl (a := 0) (j := 49) bkX8_walk_0 rfl) (by decide) (by decide)
theorem dX8_walk_50 : DR cX8_walk 50 (.aload_n 0) 1 := dk_42 (bA_sl (a := 0) (j := 50) bkX8_walk_0 rfl)
theorem dX8_walk_51 : DR cX8_walk 51 (.getfield 27) 3 := dk_180 (bA_sl (a := 0) (j := 51) bkX8_walk_0 rfl) (bA_sl (a := 0) (j := 52) bkX8_walk_0 rfl) (bA_sl (a := 0) (j := 53) bkX8_walk_0 rfl) (by decide) rfl
theorem dX8_walk_54 : DR cX8_walk 54 (.getfield 116) 3 := dk_180 (bA_sl (a := 0) (j := 54) bkX8_walk_0 rfl) (bA_sl (a := 0) (j := 55) bkX8_walk_0 rfl) (bA_sl (a := 0) (j := 56) bkX8_walk_0 rfl) (by decide) rfl
theorem dX8_walk_57 : DR cX8_walk 57 (.iload_n 2) 1 := dk_28 (bA_sl (a := 0) (j := 57) bkX8_walk_0 rfl)
theorem dX8_walk_58 : DR cX8_walk 58 (.iaload) 1 := dk_46 (bA_sl (a := 0) (j := 58) bkX8_walk_0 rfl)
theorem dX8_walk_59 : DR cX8_walk 59 (.iload_n 3) 1 := dk_29 (bA_sl (a := 0) (j := 59) bkX8_walk_0 rfl)
theorem dX8_walk_60 : DR cX8_walk 60 (.iadd) 1 := dk_96 (bA_sl (a := 0) (j := 60) bkX8_walk_0 rfl)
theorem dX8_walk_61 : DR cX8_walk 61 (.bipush 9) 2 := dk_16 (bA_sl (a := 0) (j := 61) bkX8_walk_0 rfl) (bA_sl (a := 0) (j := 62) bkX8_walk_0 rfl) (by decide) (by decide)
theorem bkX8_walk_1 : ((cX8_walk.data.toList.drop 64).take 64).map UInt8.toNat = [0, 6, 16, 252, 172, 42, 180, 0, 27, 180, 0, 116, 27, 92, 46, 29, 100, 79, 42, 180, 0, 27, 180, 0, 116, 28, 92, 46, 29, 96, 79, 3, 172] := by decide +kernel
theorem dX8_walk_63 : DR cX8_walk 63 (.if_icmp .le 6) 3 := dk_164 (bA_sl (a := 0) (j := 63) bkX8_walk_0 rfl) (bA_sl (a := 64) (j := 0) bkX8_walk_1 rfl) (bA_sl (a := 64) (j := 1) bkX8_walk_1 rfl) (by decide) (by decide)
theorem dX8_walk_66 : DR cX8_walk 66 (.bipush (-4)) 2 := dk_16 (bA_sl (a := 64) (j := 2) bkX8_walk_1 rfl) (bA_sl (a := 64) (j := 3) bkX8_walk_1 rfl) (by decide) (by decide)
theorem dX8_walk_68 : DR cX8_walk 68 (.ireturn) 1 := dk_172 (bA_sl (a := 64) (j := 4) bkX8_walk_1 rfl)
theorem dX8_walk_69 : DR cX8_walk 69 (.aload_n 0) 1 := dk_42 (bA_sl (a := 64) (j := 5) bkX8_walk_1 rfl)
theorem dX8_walk_70 : DR cX8_walk 70 (.getfield 27) 3 := dk_180 (bA_sl (a := 64) (j := 6) bkX8_walk_1 rfl) (bA_sl (a := 64) (j := 7) bkX8_walk_1 rfl) (bA_sl (a := 64) (j := 8) bkX8_walk_1 rfl) (by decide) rfl
theorem dX8_walk_73 : DR cX8_walk 73 (.getfield 116) 3 := dk_180 (bA_sl (a := 64) (j := 9) bkX8_walk_1 rfl) (bA_sl (a := 64) (j := 10) bkX8_walk_1 rfl) (bA_sl (a := 64) (j := 11) bkX8_walk_1 rfl) (by decide) rfl
theorem dX8_walk_76 : DR cX8_walk 76 (.iload_n 1) 1 := dk_27 (bA_sl (a := 64) (j := 12) bkX8_walk_1 rfl)
theorem dX8_walk_77 : DR cX8_walk 77 (.dup2) 1 := dk_92 (bA_sl (a := 64) (j := 13) bkX8_walk_1 rfl)
theorem dX8_walk_78 : DR cX8_walk 78 (.iaload) 1 := dk_46 (bA_sl (a := 64) (j := 14) bkX8_walk_1 rfl)
theorem dX8_walk_79 : DR cX8_walk 79 (.iload_n 3) 1 := dk_29 (bA_sl (a := 64) (j := 15) bkX8_walk_1 rfl)
theorem dX8_walk_80 : DR cX8_walk 80 (.isub) 1 := dk_100 (bA_sl (a := 64) (j := 16) bkX8_walk_1 rfl)
theorem dX8_walk_81 : DR cX8_walk 81 (.iastore) 1 := dk_79 (bA_sl (a := 64) (j := 17) bkX8_walk_1 rfl)
theorem dX8_walk_82 : DR cX8_walk 82 (.aload_n 0) 1 := dk_42 (bA_sl (a := 64) (j := 18) bkX8_walk_1 rfl)
theorem dX8_walk_83 : DR cX8_walk 83 (.getfield 27) 3 := dk_180 (bA_sl (a := 64) (j := 19) bkX8_walk_1 rfl) (bA_sl (a := 64) (j := 20) bkX8_walk_1 rfl) (bA_sl (a := 64) (j := 21) bkX8_walk_1 rfl) (by decide) rfl
theorem dX8_walk_86 : DR cX8_walk 86 (.getfield 116) 3 := dk_180 (bA_sl (a := 64) (j := 22) bkX8_walk_1 rfl) (bA_sl (a := 64) (j := 23) bkX8_walk_1 rfl) (bA_sl (a := 64) (j := 24) bkX8_walk_1 rfl) (by decide) rfl
theorem dX8_walk_89 : DR cX8_walk 89 (.iload_n 2) 1 := dk_28 (bA_sl (a := 64) (j := 25) bkX8_walk_1 rfl)
theorem dX8_walk_90 : DR cX8_walk 90 (.dup2) 1 := dk_92 (bA_sl (a := 64) (j := 26) bkX8_walk_1 rfl)
theorem dX8_walk_91 : DR cX8_walk 91 (.iaload) 1 := dk_46 (bA_sl (a := 64) (j := 27) bkX8_walk_1 rfl)
theorem dX8_walk_92 : DR cX8_walk 92 (.iload_n 3) 1 := dk_29 (bA_sl (a := 64) (j := 28) bkX8_walk_1 rfl)
theorem dX8_walk_93 : DR cX8_walk 93 (.iadd) 1 := dk_96 (bA_sl (a := 64) (j := 29) bkX8_walk_1 rfl)
theorem dX8_walk_94 : DR cX8_walk 94 (.iastore) 1 := dk_79 (bA_sl (a := 64) (j := 30) bkX8_walk_1 rfl)
theorem dX8_walk_95 : DR cX8_walk 95 (.iconst 0) 1 := dk_3 (bA_sl (a := 64) (j := 31) bkX8_walk_1 rfl)
theorem dX8_walk_96 : DR cX8_walk 96 (.ireturn) 1 := dk_172 (bA_sl (a := 64) (j := 32) bkX8_walk_1 rfl)
theorem bkX8_most_0 : ((cX8_most.data.toList.drop 0).take 64).map UInt8.toNat = [42, 28, 4, 184, 0, 225, 27, 16, 8, 182, 0, 229, 62, 29, 153, 0, 5, 29, 172, 28, 4, 160, 0, 9, 42, 27, 182, 0, 233, 172, 42, 3, 2, 27, 182, 0, 236, 42, 27, 28, 42, 180, 0, 58, 180, 0, 240, 182, 0, 243, 172] := by decide +kernel
theorem dX8_most_0 : DR cX8_most 0 (.aload_n 0) 1 := dk_42 (bA_sl (a := 0) (j := 0) bkX8_most_0 rfl)
theorem dX8_most_1 : DR cX8_most 1 (.iload_n 2) 1 := dk_28 (bA_sl (a := 0) (j := 1) bkX8_most_0 rfl)
theorem dX8_most_2 : DR cX8_most 2 (.iconst 1) 1 := dk_4 (bA_sl (a := 0) (j := 2) bkX8_most_0 rfl)
theorem dX8_most_3 : DR cX8_most 3 (.invokestatic 225) 3 := dk_184 (bA_sl (a := 0) (j := 3) bkX8_most_0 rfl) (bA_sl (a := 0) (j := 4) bkX8_most_0 rfl) (bA_sl (a := 0) (j := 5) bkX8_most_0 rfl) (by decide) rfl
theorem dX8_most_6 : DR cX8_most 6 (.iload_n 1) 1 := dk_27 (bA_sl (a := 0) (j := 6) bkX8_most_0 rfl)
theorem dX8_most_7 : DR cX8_most 7 (.bipush 8) 2 := dk_16 (bA_sl (a := 0) (j := 7) bkX8_most_0 rfl) (bA_sl (a := 0) (j := 8) bkX8_most_0 rfl) (by decide) (by decide)
theorem dX8_most_9 : DR cX8_most 9 (.invokevirtual 229) 3 := dk_182 (bA_sl (a := 0) (j := 9) bkX8_most_0 rfl) (bA_sl (a := 0) (j := 10) bkX8_most_0 rfl) (bA_sl (a := 0) (j := 11) bkX8_most_0 rfl) (by decide) rfl
theorem dX8_most_12 : DR cX8_most 12 (.istore_n 3) 1 := dk_62 (bA_sl (a := 0) (j := 12) bkX8_most_0 rfl)
theorem dX8_most_13 : DR cX8_most 13 (.iload_n 3) 1 := dk_29 (bA_sl (a := 0) (j := 13) bkX8_most_0 rfl)
theorem dX8_most_14 : DR cX8_most 14 (.ifCond .eq 5) 3 := dk_153 (bA_sl (a := 0) (j := 14) bkX8_most_0 rfl) (bA_sl (a := 0) (j := 15) bkX8_most_0 rfl) (bA_sl (a := 0) (j := 16) bkX8_most_0 rfl) (by decide) (by decide)
theorem dX8_most_17 : DR cX8_most 17 (.iload_n 3) 1 := dk_29 (bA_sl (a := 0) (j := 17) bkX8_most_0 rfl)
theorem dX8_most_18 : DR cX8_most 18 (.ireturn) 1 := dk_172 (bA_sl (a := 0) (j := 18) bkX8_most_0 rfl)
theorem dX8_most_19 : DR cX8_most 19 (.iload_n 2) 1 := dk_28 (bA_sl (a := 0) (j := 19) bkX8_most_0 rfl)
theorem dX8_most_20 : DR cX8_most 20 (.iconst 1) 1 := dk_4 (bA_sl (a := 0) (j := 20) bkX8_most_0 rfl)
theorem dX8_most_21 : DR cX8_most 21 (.if_icmp .ne 9) 3 := dk_160 (bA_sl (a := 0) (j := 21) bkX8_most_0 rfl) (bA_sl (a := 0) (j := 22) bkX8_most_0 rfl) (bA_sl (a := 0) (j := 23) bkX8_most_0 rfl) (by decide) (by decide)
theorem dX8_most_24 : DR cX8_most 24 (.aload_n 0) 1 := dk_42 (bA_sl (a := 0) (j := 24) bkX8_most_0 rfl)
theorem dX8_most_25 : DR cX8_most 25 (.iload_n 1) 1 := dk_27 (bA_sl (a := 0) (j := 25) bkX8_most_0 rfl)
theorem dX8_most_26 : DR cX8_most 26 (.invokevirtual 233) 3 := dk_182 (bA_sl (a := 0) (j := 26) bkX8_most_0 rfl) (bA_sl (a := 0) (j := 27) bkX8_most_0 rfl) (bA_sl (a := 0) (j := 28) bkX8_most_0 rfl) (by decide) rfl
theorem dX8_most_29 : DR cX8_most 29 (.ireturn) 1 := dk_172 (bA_sl (a := 0) (j := 29) bkX8_most_0 rfl)
theorem dX8_most_30 : DR cX8_most 30 (.aload_n 0) 1 := dk_42 (bA_sl (a := 0) (j := 30) bkX8_most_0 rfl)
theorem dX8_most_31 : DR cX8_most 31 (.iconst 0) 1 := dk_3 (bA_sl (a := 0) (j := 31) bkX8_most_0 rfl)
theorem dX8_most_32 : DR cX8_most 32 (.iconst (-1)) 1 := dk_2 (bA_sl (a := 0) (j := 32) bkX8_most_0 rfl)
theorem dX8_most_33 : DR cX8_most 33 (.iload_n 1) 1 := dk_27 (bA_sl (a := 0) (j := 33) bkX8_most_0 rfl)
theorem dX8_most_34 : DR cX8_most 34 (.invokevirtual 236) 3 := dk_182 (bA_sl (a := 0) (j := 34) bkX8_most_0 rfl) (bA_sl (a := 0) (j := 35) bkX8_most_0 rfl) (bA_sl (a := 0) (j := 36) bkX8_most_0 rfl) (by decide) rfl
theorem dX8_most_37 : DR cX8_most 37 (.aload_n 0) 1 := dk_42 (bA_sl (a := 0) (j := 37) bkX8_most_0 rfl)
theorem dX8_most_38 : DR cX8_most 38 (.iload_n 1) 1 := dk_27 (bA_sl (a := 0) (j := 38) bkX8_most_0 rfl)
theorem dX8_most_39 : DR cX8_most 39 (.iload_n 2) 1 := dk_28 (bA_sl (a := 0) (j := 39) bkX8_most_0 rfl)
theorem dX8_most_40 : DR cX8_most 40 (.aload_n 0) 1 := dk_42 (bA_sl (a := 0) (j := 40) bkX8_most_0 rfl)
theorem dX8_most_41 : DR cX8_most 41 (.getfield 58) 3 := dk_180 (bA_sl (a := 0) (j := 41) bkX8_most_0 rfl) (bA_sl (a := 0) (j := 42) bkX8_most_0 rfl) (bA_sl (a := 0) (j := 43) bkX8_most_0 rfl) (by decide) rfl
theorem dX8_most_44 : DR cX8_most 44 (.getfield 240) 3 := dk_180 (bA_sl (a := 0) (j := 44) bkX8_most_0 rfl) (bA_sl (a := 0) (j := 45) bkX8_most_0 rfl) (bA_sl (a := 0) (j := 46) bkX8_most_0 rfl) (by decide) rfl
theorem dX8_most_47 : DR cX8_most 47 (.invokevirtual 243) 3 := dk_182 (bA_sl (a := 0) (j := 47) bkX8_most_0 rfl) (bA_sl (a := 0) (j := 48) bkX8_most_0 rfl) (bA_sl (a := 0) (j := 49) bkX8_most_0 rfl) (by decide) rfl
theorem dX8_most_50 : DR cX8_most 50 (.ireturn) 1 := dk_172 (bA_sl (a := 0) (j := 50) bkX8_most_0 rfl)
theorem bkX8_dearest_0 : ((cX8_dearest.data.toList.drop 0).take 64).map UInt8.toNat = [42, 28, 3, 184, 0, 225, 27, 16, 8, 182, 0, 229, 62, 29, 153, 0, 5, 29, 172, 42, 4, 2, 27, 182, 0, 236, 42, 27, 28, 42, 180, 0, 58, 180, 0, 240, 182, 0, 243, 172] := by decide +kernel
theorem dX8_dearest_0 : DR cX8_dearest 0 (.aload_n 0) 1 := dk_42 (bA_sl (a := 0) (j := 0) bkX8_dearest_0 rfl)
theorem dX8_dearest_1 : DR cX8_dearest 1 (.iload_n 2) 1 := dk_28 (bA_sl (a := 0) (j := 1) bkX8_dearest_0 rfl)
theorem dX8_dearest_2 : DR cX8_dearest 2 (.iconst 0) 1 := dk_3 (bA_sl (a := 0) (j := 2) bkX8_dearest_0 rfl)
theorem dX8_dearest_3 : DR cX8_dearest 3 (.invokestatic 225) 3 := dk_184 (bA_sl (a := 0) (j := 3) bkX8_dearest_0 rfl) (bA_sl (a := 0) (j := 4) bkX8_dearest_0 rfl) (bA_sl (a := 0) (j := 5) bkX8_dearest_0 rfl) (by decide) rfl
theorem dX8_dearest_6 : DR cX8_dearest 6 (.iload_n 1) 1 := dk_27 (bA_sl (a := 0) (j := 6) bkX8_dearest_0 rfl)
theorem dX8_dearest_7 : DR cX8_dearest 7 (.bipush 8) 2 := dk_16 (bA_sl (a := 0) (j := 7) bkX8_dearest_0 rfl) (bA_sl (a := 0) (j := 8) bkX8_dearest_0 rfl) (by decide) (by decide)
theorem dX8_dearest_9 : DR cX8_dearest 9 (.invokevirtual 229) 3 := dk_182 (bA_sl (a := 0) (j := 9) bkX8_dearest_0 rfl) (bA_sl (a := 0) (j := 10) bkX8_dearest_0 rfl) (bA_sl (a := 0) (j := 11) bkX8_dearest_0 rfl) (by decide) rfl
theorem dX8_dearest_12 : DR cX8_dearest 12 (.istore_n 3) 1 := dk_62 (bA_sl (a := 0) (j := 12) bkX8_dearest_0 rfl)
theorem dX8_dearest_13 : DR cX8_dearest 13 (.iload_n 3) 1 := dk_29 (bA_sl (a := 0) (j := 13) bkX8_dearest_0 rfl)
theorem dX8_dearest_14 : DR cX8_dearest 14 (.ifCond .eq 5) 3 := dk_153 (bA_sl (a := 0) (j := 14) bkX8_dearest_0 rfl) (bA_sl (a := 0) (j := 15) bkX8_dearest_0 rfl) (bA_sl (a := 0) (j := 16) bkX8_dearest_0 rfl) (by decide) (by decide)
theorem dX8_dearest_17 : DR cX8_dearest 17 (.iload_n 3) 1 := dk_29 (bA_sl (a := 0) (j := 17) bkX8_dearest_0 rfl)
theorem dX8_dearest_18 : DR cX8_dearest 18 (.ireturn) 1 := dk_172 (bA_sl (a := 0) (j := 18) bkX8_dearest_0 rfl)
theorem dX8_dearest_19 : DR cX8_dearest 19 (.aload_n 0) 1 := dk_42 (bA_sl (a := 0) (j := 19) bkX8_dearest_0 rfl)
theorem dX8_dearest_20 : DR cX8_dearest 20 (.iconst 1) 1 := dk_4 (bA_sl (a := 0) (j := 20) bkX8_dearest_0 rfl)
theorem dX8_dearest_21 : DR cX8_dearest 21 (.iconst (-1)) 1 := dk_2 (bA_sl (a := 0) (j := 21) bkX8_dearest_0 rfl)
theorem dX8_dearest_22 : DR cX8_dearest 22 (.iload_n 1) 1 := dk_27 (bA_sl (a := 0) (j := 22) bkX8_dearest_0 rfl)
theorem dX8_dearest_23 : DR cX8_dearest 23 (.invokevirtual 236) 3 := dk_182 (bA_sl (a := 0) (j := 23) bkX8_dearest_0 rfl) (bA_sl (a := 0) (j := 24) bkX8_dearest_0 rfl) (bA_sl (a := 0) (j := 25) bkX8_dearest_0 rfl) (by decide) rfl
theorem dX8_dearest_26 : DR cX8_dearest 26 (.aload_n 0) 1 := dk_42 (bA_sl (a := 0) (j := 26) bkX8_dearest_0 rfl)
theorem dX8_dearest_27 : DR cX8_dearest 27 (.iload_n 1) 1 := dk_27 (bA_sl (a := 0) (j := 27) bkX8_dearest_0 rfl)
theorem dX8_dearest_28 : DR cX8_dearest 28 (.iload_n 2) 1 := dk_28 (bA_sl (a := 0) (j := 28) bkX8_dearest_0 rfl)
theorem dX8_dearest_29 : DR cX8_dearest 29 (.aload_n 0) 1 := dk_42 (bA_sl (a := 0) (j := 29) bkX8_dearest_0 rfl)
theorem dX8_dearest_30 : DR cX8_dearest 30 (.getfield 58) 3 := dk_180 (bA_sl (a := 0) (j := 30) bkX8_dearest_0 rfl) (bA_sl (a := 0) (j := 31) bkX8_dearest_0 rfl) (bA_sl (a := 0) (j := 32) bkX8_dearest_0 rfl) (by decide) rfl
theorem dX8_dearest_33 : DR cX8_dearest 33 (.getfield 240) 3 := dk_180 (bA_sl (a := 0) (j := 33) bkX8_dearest_0 rfl) (bA_sl (a := 0) (j := 34) bkX8_dearest_0 rfl) (bA_sl (a := 0) (j := 35) bkX8_dearest_0 rfl) (by decide) rfl
theorem dX8_dearest_36 : DR cX8_dearest 36 (.invokevirtual 243) 3 := dk_182 (bA_sl (a := 0) (j := 36) bkX8_dearest_0 rfl) (bA_sl (a := 0) (j := 37) bkX8_dearest_0 rfl) (bA_sl (a := 0) (j := 38) bkX8_dearest_0 rfl) (by decide) rfl
theorem dX8_dearest_39 : DR cX8_dearest 39 (.ireturn) 1 := dk_172 (bA_sl (a := 0) (j := 39) bkX8_dearest_0 rfl)
theorem bkX8_fairest_0 : ((cX8_fairest.data.toList.drop 0).take 64).map UInt8.toNat = [42, 28, 4, 184, 0, 225, 27, 16, 8, 182, 0, 229, 62, 29, 153, 0, 5, 29, 172, 42, 5, 2, 27, 182, 0, 236, 42, 180, 0, 58, 180, 0, 240, 54, 4, 42, 27, 28, 28, 154, 0, 11, 21, 4, 184, 0, 247, 167, 0, 8, 21, 4, 184, 0, 250, 182, 0, 243, 172] := by decide +kernel
theorem dX8_fairest_0 : DR cX8_fairest 0 (.aload_n 0) 1 := dk_42 (bA_sl (a := 0) (j := 0) bkX8_fairest_0 rfl)
theorem dX8_fairest_1 : DR cX8_fairest 1 (.iload_n 2) 1 := dk_28 (bA_sl (a := 0) (j := 1) bkX8_fairest_0 rfl)
theorem dX8_fairest_2 : DR cX8_fairest 2 (.iconst 1) 1 := dk_4 (bA_sl (a := 0) (j := 2) bkX8_fairest_0 rfl)
theorem dX8_fairest_3 : DR cX8_fairest 3 (.invokestatic 225) 3 := dk_184 (bA_sl (a := 0) (j := 3) bkX8_fairest_0 rfl) (bA_sl (a := 0) (j := 4) bkX8_fairest_0 rfl) (bA_sl (a := 0) (j := 5) bkX8_fairest_0 rfl) (by decide) rfl
theorem dX8_fairest_6 : DR cX8_fairest 6 (.iload_n 1) 1 := dk_27 (bA_sl (a := 0) (j := 6) bkX8_fairest_0 rfl)
theorem dX8_fairest_7 : DR cX8_fairest 7 (.bipush 8) 2 := dk_16 (bA_sl (a := 0) (j := 7) bkX8_fairest_0 rfl) (bA_sl (a := 0) (j := 8) bkX8_fairest_0 rfl) (by decide) (by decide)
theorem dX8_fairest_9 : DR cX8_fairest 9 (.invokevirtual 229) 3 := dk_182 (bA_sl (a := 0) (j := 9) bkX8_fairest_0 rfl) (bA_sl (a := 0) (j := 10) bkX8_fairest_0 rfl) (bA_sl (a := 0) (j := 11) bkX8_fairest_0 rfl) (by decide) rfl
theorem dX8_fairest_12 : DR cX8_fairest 12 (.istore_n 3) 1 := dk_62 (bA_sl (a := 0) (j := 12) bkX8_fairest_0 rfl)
theorem dX8_fairest_13 : DR cX8_fairest 13 (.iload_n 3) 1 := dk_29 (bA_sl (a := 0) (j := 13) bkX8_fairest_0 rfl)
theorem dX8_fairest_14 : DR cX8_fairest 14 (.ifCond .eq 5) 3 := dk_153 (bA_sl (a := 0) (j := 14) bkX8_fairest_0 rfl) (bA_sl (a := 0) (j := 15) bkX8_fairest_0 rfl) (bA_sl (a := 0) (j := 16) bkX8_fairest_0 rfl) (by decide) (by decide)
theorem dX8_fairest_17 : DR cX8_fairest 17 (.iload_n 3) 1 := dk_29 (bA_sl (a := 0) (j := 17) bkX8_fairest_0 rfl)
theorem dX8_fairest_18 : DR cX8_fairest 18 (.ireturn) 1 := dk_172 (bA_sl (a := 0) (j := 18) bkX8_fairest_0 rfl)
theorem dX8_fairest_19 : DR cX8_fairest 19 (.aload_n 0) 1 := dk_42 (bA_sl (a := 0) (j := 19) bkX8_fairest_0 rfl)
theorem dX8_fairest_20 : DR cX8_fairest 20 (.iconst 2) 1 := dk_5 (bA_sl (a := 0) (j := 20) bkX8_fairest_0 rfl)
theorem dX8_fairest_21 : DR cX8_fairest 21 (.iconst (-1)) 1 := dk_2 (bA_sl (a := 0) (j := 21) bkX8_fairest_0 rfl)
theorem dX8_fairest_22 : DR cX8_fairest 22 (.iload_n 1) 1 := dk_27 (bA_sl (a := 0) (j := 22) bkX8_fairest_0 rfl)
theorem dX8_fairest_23 : DR cX8_fairest 23 (.invokevirtual 236) 3 := dk_182 (bA_sl (a := 0) (j := 23) bkX8_fairest_0 rfl) (bA_sl (a := 0) (j := 24) bkX8_fairest_0 rfl) (bA_sl (a := 0) (j := 25) bkX8_fairest_0 rfl) (by decide) rfl
theorem dX8_fairest_26 : DR cX8_fairest 26 (.aload_n 0) 1 := dk_42 (bA_sl (a := 0) (j := 26) bkX8_fairest_0 rfl)
theorem dX8_fairest_27 : DR cX8_fairest 27 (.getfield 58) 3 := dk_180 (bA_sl (a := 0) (j := 27) bkX8_fairest_0 rfl) (bA_sl (a := 0) (j := 28) bkX8_fairest_0 rfl) (bA_sl (a := 0) (j := 29) bkX8_fairest_0 rfl) (by decide) rfl
theorem dX8_fairest_30 : DR cX8_fairest 30 (.getfield 240) 3 := dk_180 (bA_sl (a := 0) (j := 30) bkX8_fairest_0 rfl) (bA_sl (a := 0) (j := 31) bkX8_fairest_0 rfl) (bA_sl (a := 0) (j := 32) bkX8_fairest_0 rfl) (by decide) rfl
theorem dX8_fairest_33 : DR cX8_fairest 33 (.istore 4) 2 := dk_54 (bA_sl (a := 0) (j := 33) bkX8_fairest_0 rfl) (bA_sl (a := 0) (j := 34) bkX8_fairest_0 rfl) (by decide)
theorem dX8_fairest_35 : DR cX8_fairest 35 (.aload_n 0) 1 := dk_42 (bA_sl (a := 0) (j := 35) bkX8_fairest_0 rfl)
theorem dX8_fairest_36 : DR cX8_fairest 36 (.iload_n 1) 1 := dk_27 (bA_sl (a := 0) (j := 36) bkX8_fairest_0 rfl)
theorem dX8_fairest_37 : DR cX8_fairest 37 (.iload_n 2) 1 := dk_28 (bA_sl (a := 0) (j := 37) bkX8_fairest_0 rfl)
theorem dX8_fairest_38 : DR cX8_fairest 38 (.iload_n 2) 1 := dk_28 (bA_sl (a := 0) (j := 38) bkX8_fairest_0 rfl)
theorem dX8_fairest_39 : DR cX8_fairest 39 (.ifCond .ne 11) 3 := dk_154 (bA_sl (a := 0) (j := 39) bkX8_fairest_0 rfl) (bA_sl (a := 0) (j := 40) bkX8_fairest_0 rfl) (bA_sl (a := 0) (j := 41) bkX8_fairest_0 rfl) (by decide) (by decide)
theorem dX8_fairest_42 : DR cX8_fairest 42 (.iload 4) 2 := dk_21 (bA_sl (a := 0) (j := 42) bkX8_fairest_0 rfl) (bA_sl (a := 0) (j := 43) bkX8_fairest_0 rfl) (by decide)
theorem dX8_fairest_44 : DR cX8_fairest 44 (.invokestatic 247) 3 := dk_184 (bA_sl (a := 0) (j := 44) bkX8_fairest_0 rfl) (bA_sl (a := 0) (j := 45) bkX8_fairest_0 rfl) (bA_sl (a := 0) (j := 46) bkX8_fairest_0 rfl) (by decide) rfl
theorem dX8_fairest_47 : DR cX8_fairest 47 (.goto 8) 3 := dk_167 (bA_sl (a := 0) (j := 47) bkX8_fairest_0 rfl) (bA_sl (a := 0) (j := 48) bkX8_fairest_0 rfl) (bA_sl (a := 0) (j := 49) bkX8_fairest_0 rfl) (by decide) (by decide)
theorem dX8_fairest_50 : DR cX8_fairest 50 (.iload 4) 2 := dk_21 (bA_sl (a := 0) (j := 50) bkX8_fairest_0 rfl) (bA_sl (a := 0) (j := 51) bkX8_fairest_0 rfl) (by decide)
theorem dX8_fairest_52 : DR cX8_fairest 52 (.invokestatic 250) 3 := dk_184 (bA_sl (a := 0) (j := 52) bkX8_fairest_0 rfl) (bA_sl (a := 0) (j := 53) bkX8_fairest_0 rfl) (bA_sl (a := 0) (j := 54) bkX8_fairest_0 rfl) (by decide) rfl
theorem dX8_fairest_55 : DR cX8_fairest 55 (.invokevirtual 243) 3 := dk_182 (bA_sl (a := 0) (j := 55) bkX8_fairest_0 rfl) (bA_sl (a := 0) (j := 56) bkX8_fairest_0 rfl) (bA_sl (a := 0) (j := 57) bkX8_fairest_0 rfl) (by decide) rfl
theorem dX8_fairest_58 : DR cX8_fairest 58 (.ireturn) 1 := dk_172 (bA_sl (a := 0) (j := 58) bkX8_fairest_0 rfl)
theorem bkX8_alone_0 : ((cX8_alone.data.toList.drop 0).take 64).map UInt8.toNat = [42, 27, 184, 0, 135, 153, 0, 15, 29, 3, 184, 0, 225, 153, 0, 7, 4, 167, 0, 4, 3, 28, 16, 8, 182, 0, 229, 54, 4, 21, 4, 153, 0, 6, 21, 4, 172, 42, 6, 27, 28, 182, 0, 236, 42, 28, 29, 42, 180, 0, 58, 180, 0, 240, 182, 0, 243, 172] := by decide +kernel
theorem dX8_alone_0 : DR cX8_alone 0 (.aload_n 0) 1 := dk_42 (bA_sl (a := 0) (j := 0) bkX8_alone_0 rfl)
theorem dX8_alone_1 : DR cX8_alone 1 (.iload_n 1) 1 := dk_27 (bA_sl (a := 0) (j := 1) bkX8_alone_0 rfl)
theorem dX8_alone_2 : DR cX8_alone 2 (.invokestatic 135) 3 := dk_184 (bA_sl (a := 0) (j := 2) bkX8_alone_0 rfl) (bA_sl (a := 0) (j := 3) bkX8_alone_0 rfl) (bA_sl (a := 0) (j := 4) bkX8_alone_0 rfl) (by decide) rfl
theorem dX8_alone_5 : DR cX8_alone 5 (.ifCond .eq 15) 3 := dk_153 (bA_sl (a := 0) (j := 5) bkX8_alone_0 rfl) (bA_sl (a := 0) (j := 6) bkX8_alone_0 rfl) (bA_sl (a := 0) (j := 7) bkX8_alone_0 rfl) (by decide) (by decide)
theorem dX8_alone_8 : DR cX8_alone 8 (.iload_n 3) 1 := dk_29 (bA_sl (a := 0) (j := 8) bkX8_alone_0 rfl)
theorem dX8_alone_9 : DR cX8_alone 9 (.iconst 0) 1 := dk_3 (bA_sl (a := 0) (j := 9) bkX8_alone_0 rfl)
theorem dX8_alone_10 : DR cX8_alone 10 (.invokestatic 225) 3 := dk_184 (bA_sl (a := 0) (j := 10) bkX8_alone_0 rfl) (bA_sl (a := 0) (j := 11) bkX8_alone_0 rfl) (bA_sl (a := 0) (j := 12) bkX8_alone_0 rfl) (by decide) rfl
theorem dX8_alone_13 : DR cX8_alone 13 (.ifCond .eq 7) 3 := dk_153 (bA_sl (a := 0) (j := 13) bkX8_alone_0 rfl) (bA_sl (a := 0) (j := 14) bkX8_alone_0 rfl) (bA_sl (a := 0) (j := 15) bkX8_alone_0 rfl) (by decide) (by decide)
theorem dX8_alone_16 : DR cX8_alone 16 (.iconst 1) 1 := dk_4 (bA_sl (a := 0) (j := 16) bkX8_alone_0 rfl)
theorem dX8_alone_17 : DR cX8_alone 17 (.goto 4) 3 := dk_167 (bA_sl (a := 0) (j := 17) bkX8_alone_0 rfl) (bA_sl (a := 0) (j := 18) bkX8_alone_0 rfl) (bA_sl (a := 0) (j := 19) bkX8_alone_0 rfl) (by decide) (by decide)
theorem dX8_alone_20 : DR cX8_alone 20 (.iconst 0) 1 := dk_3 (bA_sl (a := 0) (j := 20) bkX8_alone_0 rfl)
theorem dX8_alone_21 : DR cX8_alone 21 (.iload_n 2) 1 := dk_28 (bA_sl (a := 0) (j := 21) bkX8_alone_0 rfl)
theorem dX8_alone_22 : DR cX8_alone 22 (.bipush 8) 2 := dk_16 (bA_sl (a := 0) (j := 22) bkX8_alone_0 rfl) (bA_sl (a := 0) (j := 23) bkX8_alone_0 rfl) (by decide) (by decide)
theorem dX8_alone_24 : DR cX8_alone 24 (.invokevirtual 229) 3 := dk_182 (bA_sl (a := 0) (j := 24) bkX8_alone_0 rfl) (bA_sl (a := 0) (j := 25) bkX8_alone_0 rfl) (bA_sl (a := 0) (j := 26) bkX8_alone_0 rfl) (by decide) rfl
theorem dX8_alone_27 : DR cX8_alone 27 (.istore 4) 2 := dk_54 (bA_sl (a := 0) (j := 27) bkX8_alone_0 rfl) (bA_sl (a := 0) (j := 28) bkX8_alone_0 rfl) (by decide)
theorem dX8_alone_29 : DR cX8_alone 29 (.iload 4) 2 := dk_21 (bA_sl (a := 0) (j := 29) bkX8_alone_0 rfl) (bA_sl (a := 0) (j := 30) bkX8_alone_0 rfl) (by decide)
theorem dX8_alone_31 : DR cX8_alone 31 (.ifCond .eq 6) 3 := dk_153 (bA_sl (a := 0) (j := 31) bkX8_alone_0 rfl) (bA_sl (a := 0) (j := 32) bkX8_alone_0 rfl) (bA_sl (a := 0) (j := 33) bkX8_alone_0 rfl) (by decide) (by decide)
theorem dX8_alone_34 : DR cX8_alone 34 (.iload 4) 2 := dk_21 (bA_sl (a := 0) (j := 34) bkX8_alone_0 rfl) (bA_sl (a := 0) (j := 35) bkX8_alone_0 rfl) (by decide)
theorem dX8_alone_36 : DR cX8_alone 36 (.ireturn) 1 := dk_172 (bA_sl (a := 0) (j := 36) bkX8_alone_0 rfl)
theorem dX8_alone_37 : DR cX8_alone 37 (.aload_n 0) 1 := dk_42 (bA_sl (a := 0) (j := 37) bkX8_alone_0 rfl)
theorem dX8_alone_38 : DR cX8_alone 38 (.iconst 3) 1 := dk_6 (bA_sl (a := 0) (j := 38) bkX8_alone_0 rfl)
theorem dX8_alone_39 : DR cX8_alone 39 (.iload_n 1) 1 := dk_27 (bA_sl (a := 0) (j := 39) bkX8_alone_0 rfl)
theorem dX8_alone_40 : DR cX8_alone 40 (.iload_n 2) 1 := dk_28 (bA_sl (a := 0) (j := 40) bkX8_alone_0 rfl)
theorem dX8_alone_41 : DR cX8_alone 41 (.invokevirtual 236) 3 := dk_182 (bA_sl (a := 0) (j := 41) bkX8_alone_0 rfl) (bA_sl (a := 0) (j := 42) bkX8_alone_0 rfl) (bA_sl (a := 0) (j := 43) bkX8_alone_0 rfl) (by decide) rfl
theorem dX8_alone_44 : DR cX8_alone 44 (.aload_n 0) 1 := dk_42 (bA_sl (a := 0) (j := 44) bkX8_alone_0 rfl)
theorem dX8_alone_45 : DR cX8_alone 45 (.iload_n 2) 1 := dk_28 (bA_sl (a := 0) (j := 45) bkX8_alone_0 rfl)
theorem dX8_alone_46 : DR cX8_alone 46 (.iload_n 3) 1 := dk_29 (bA_sl (a := 0) (j := 46) bkX8_alone_0 rfl)
theorem dX8_alone_47 : DR cX8_alone 47 (.aload_n 0) 1 := dk_42 (bA_sl (a := 0) (j := 47) bkX8_alone_0 rfl)
theorem dX8_alone_48 : DR cX8_alone 48 (.getfield 58) 3 := dk_180 (bA_sl (a := 0) (j := 48) bkX8_alone_0 rfl) (bA_sl (a := 0) (j := 49) bkX8_alone_0 rfl) (bA_sl (a := 0) (j := 50) bkX8_alone_0 rfl) (by decide) rfl
theorem dX8_alone_51 : DR cX8_alone 51 (.getfield 240) 3 := dk_180 (bA_sl (a := 0) (j := 51) bkX8_alone_0 rfl) (bA_sl (a := 0) (j := 52) bkX8_alone_0 rfl) (bA_sl (a := 0) (j := 53) bkX8_alone_0 rfl) (by decide) rfl
theorem dX8_alone_54 : DR cX8_alone 54 (.invokevirtual 243) 3 := dk_182 (bA_sl (a := 0) (j := 54) bkX8_alone_0 rfl) (bA_sl (a := 0) (j := 55) bkX8_alone_0 rfl) (bA_sl (a := 0) (j := 56) bkX8_alone_0 rfl) (by decide) rfl
theorem dX8_alone_57 : DR cX8_alone 57 (.ireturn) 1 := dk_172 (bA_sl (a := 0) (j := 57) bkX8_alone_0 rfl)
theorem bkX8_pays_0 : ((cX8_pays.data.toList.drop 0).take 64).map UInt8.toNat = [42, 27, 184, 0, 135, 28, 16, 8, 182, 0, 229, 62, 29, 153, 0, 5, 29, 172, 42, 4, 2, 28, 182, 0, 236, 42, 180, 0, 58, 180, 0, 240, 42, 180, 0, 58, 27, 42, 180, 0, 51, 180, 0, 253, 42, 180, 0, 58, 180, 1, 1, 47, 182, 1, 4, 100, 54, 4, 42, 4, 27, 28, 182, 0] := by decide +kernel
theorem dX8_pays_0 : DR cX8_pays 0 (.aload_n 0) 1 := dk_42 (bA_sl (a := 0) (j := 0) bkX8_pays_0 rfl)
theorem dX8_pays_1 : DR cX8_pays 1 (.iload_n 1) 1 := dk_27 (bA_sl (a := 0) (j := 1) bkX8_pays_0 rfl)
theorem dX8_pays_2 : DR cX8_pays 2 (.invokestatic 135) 3 := dk_184 (bA_sl (a := 0) (j := 2) bkX8_pays_0 rfl) (bA_sl (a := 0) (j := 3) bkX8_pays_0 rfl) (bA_sl (a := 0) (j := 4) bkX8_pays_0 rfl) (by decide) rfl
theorem dX8_pays_5 : DR cX8_pays 5 (.iload_n 2) 1 := dk_28 (bA_sl (a := 0) (j := 5) bkX8_pays_0 rfl)
theorem dX8_pays_6 : DR cX8_pays 6 (.bipush 8) 2 := dk_16 (bA_sl (a := 0) (j := 6) bkX8_pays_0 rfl) (bA_sl (a := 0) (j := 7) bkX8_pays_0 rfl) (by decide) (by decide)
theorem dX8_pays_8 : DR cX8_pays 8 (.invokevirtual 229) 3 := dk_182 (bA_sl (a := 0) (j := 8) bkX8_pays_0 rfl) (bA_sl (a := 0) (j := 9) bkX8_pays_0 rfl) (bA_sl (a := 0) (j := 10) bkX8_pays_0 rfl) (by decide) rfl
theorem dX8_pays_11 : DR cX8_pays 11 (.istore_n 3) 1 := dk_62 (bA_sl (a := 0) (j := 11) bkX8_pays_0 rfl)
theorem dX8_pays_12 : DR cX8_pays 12 (.iload_n 3) 1 := dk_29 (bA_sl (a := 0) (j := 12) bkX8_pays_0 rfl)
theorem dX8_pays_13 : DR cX8_pays 13 (.ifCond .eq 5) 3 := dk_153 (bA_sl (a := 0) (j := 13) bkX8_pays_0 rfl) (bA_sl (a := 0) (j := 14) bkX8_pays_0 rfl) (bA_sl (a := 0) (j := 15) bkX8_pays_0 rfl) (by decide) (by decide)
theorem dX8_pays_16 : DR cX8_pays 16 (.iload_n 3) 1 := dk_29 (bA_sl (a := 0) (j := 16) bkX8_pays_0 rfl)
theorem dX8_pays_17 : DR cX8_pays 17 (.ireturn) 1 := dk_172 (bA_sl (a := 0) (j := 17) bkX8_pays_0 rfl)
theorem dX8_pays_18 : DR cX8_pays 18 (.aload_n 0) 1 := dk_42 (bA_sl (a := 0) (j := 18) bkX8_pays_0 rfl)
theorem dX8_pays_19 : DR cX8_pays 19 (.iconst 1) 1 := dk_4 (bA_sl (a := 0) (j := 19) bkX8_pays_0 rfl)
theorem dX8_pays_20 : DR cX8_pays 20 (.iconst (-1)) 1 := dk_2 (bA_sl (a := 0) (j := 20) bkX8_pays_0 rfl)
theorem dX8_pays_21 : DR cX8_pays 21 (.iload_n 2) 1 := dk_28 (bA_sl (a := 0) (j := 21) bkX8_pays_0 rfl)
theorem dX8_pays_22 : DR cX8_pays 22 (.invokevirtual 236) 3 := dk_182 (bA_sl (a := 0) (j := 22) bkX8_pays_0 rfl) (bA_sl (a := 0) (j := 23) bkX8_pays_0 rfl) (bA_sl (a := 0) (j := 24) bkX8_pays_0 rfl) (by decide) rfl
theorem dX8_pays_25 : DR cX8_pays 25 (.aload_n 0) 1 := dk_42 (bA_sl (a := 0) (j := 25) bkX8_pays_0 rfl)
theorem dX8_pays_26 : DR cX8_pays 26 (.getfield 58) 3 := dk_180 (bA_sl (a := 0) (j := 26) bkX8_pays_0 rfl) (bA_sl (a := 0) (j := 27) bkX8_pays_0 rfl) (bA_sl (a := 0) (j := 28) bkX8_pays_0 rfl) (by decide) rfl
theorem dX8_pays_29 : DR cX8_pays 29 (.getfield 240) 3 := dk_180 (bA_sl (a := 0) (j := 29) bkX8_pays_0 rfl) (bA_sl (a := 0) (j := 30) bkX8_pays_0 rfl) (bA_sl (a := 0) (j := 31) bkX8_pays_0 rfl) (by decide) rfl
theorem dX8_pays_32 : DR cX8_pays 32 (.aload_n 0) 1 := dk_42 (bA_sl (a := 0) (j := 32) bkX8_pays_0 rfl)
theorem dX8_pays_33 : DR cX8_pays 33 (.getfield 58) 3 := dk_180 (bA_sl (a := 0) (j := 33) bkX8_pays_0 rfl) (bA_sl (a := 0) (j := 34) bkX8_pays_0 rfl) (bA_sl (a := 0) (j := 35) bkX8_pays_0 rfl) (by decide) rfl
theorem dX8_pays_36 : DR cX8_pays 36 (.iload_n 1) 1 := dk_27 (bA_sl (a := 0) (j := 36) bkX8_pays_0 rfl)
theorem dX8_pays_37 : DR cX8_pays 37 (.aload_n 0) 1 := dk_42 (bA_sl (a := 0) (j := 37) bkX8_pays_0 rfl)
theorem dX8_pays_38 : DR cX8_pays 38 (.getfield 51) 3 := dk_180 (bA_sl (a := 0) (j := 38) bkX8_pays_0 rfl) (bA_sl (a := 0) (j := 39) bkX8_pays_0 rfl) (bA_sl (a := 0) (j := 40) bkX8_pays_0 rfl) (by decide) rfl
theorem dX8_pays_41 : DR cX8_pays 41 (.getfield 253) 3 := dk_180 (bA_sl (a := 0) (j := 41) bkX8_pays_0 rfl) (bA_sl (a := 0) (j := 42) bkX8_pays_0 rfl) (bA_sl (a := 0) (j := 43) bkX8_pays_0 rfl) (by decide) rfl
theorem dX8_pays_44 : DR cX8_pays 44 (.aload_n 0) 1 := dk_42 (bA_sl (a := 0) (j := 44) bkX8_pays_0 rfl)
theorem dX8_pays_45 : DR cX8_pays 45 (.getfield 58) 3 := dk_180 (bA_sl (a := 0) (j := 45) bkX8_pays_0 rfl) (bA_sl (a := 0) (j := 46) bkX8_pays_0 rfl) (bA_sl (a := 0) (j := 47) bkX8_pays_0 rfl) (by decide) rfl
theorem dX8_pays_48 : DR cX8_pays 48 (.getfield 257) 3 := dk_180 (bA_sl (a := 0) (j := 48) bkX8_pays_0 rfl) (bA_sl (a := 0) (j := 49) bkX8_pays_0 rfl) (bA_sl (a := 0) (j := 50) bkX8_pays_0 rfl) (by decide) rfl
theorem dX8_pays_51 : DR cX8_pays 51 (.laload) 1 := dk_47 (bA_sl (a := 0) (j := 51) bkX8_pays_0 rfl)
theorem dX8_pays_52 : DR cX8_pays 52 (.invokevirtual 260) 3 := dk_182 (bA_sl (a := 0) (j := 52) bkX8_pays_0 rfl) (bA_sl (a := 0) (j := 53) bkX8_pays_0 rfl) (bA_sl (a := 0) (j := 54) bkX8_pays_0 rfl) (by decide) rfl
theorem dX8_pays_55 : DR cX8_pays 55 (.isub) 1 := dk_100 (bA_sl (a := 0) (j := 55) bkX8_pays_0 rfl)
theorem dX8_pays_56 : DR cX8_pays 56 (.istore 4) 2 := dk_54 (bA_sl (a := 0) (j := 56) bkX8_pays_0 rfl) (bA_sl (a := 0) (j := 57) bkX8_pays_0 rfl) (by decide)
theorem dX8_pays_58 : DR cX8_pays 58 (.aload_n 0) 1 := dk_42 (bA_sl (a := 0) (j := 58) bkX8_pays_0 rfl)
theorem dX8_pays_59 : DR cX8_pays 59 (.iconst 1) 1 := dk_4 (bA_sl (a := 0) (j := 59) bkX8_pays_0 rfl)
theorem dX8_pays_60 : DR cX8_pays 60 (.iload_n 1) 1 := dk_27 (bA_sl (a := 0) (j := 60) bkX8_pays_0 rfl)
theorem dX8_pays_61 : DR cX8_pays 61 (.iload_n 2) 1 := dk_28 (bA_sl (a := 0) (j := 61) bkX8_pays_0 rfl)
theorem bkX8_pays_1 : ((cX8_pays.data.toList.drop 64).take 64).map UInt8.toNat = [236, 42, 180, 0, 58, 180, 0, 240, 21, 4, 100, 172] := by decide +kernel
theorem dX8_pays_62 : DR cX8_pays 62 (.invokevirtual 236) 3 := dk_182 (bA_sl (a := 0) (j := 62) bkX8_pays_0 rfl) (bA_sl (a := 0) (j := 63) bkX8_pays_0 rfl) (bA_sl (a := 64) (j := 0) bkX8_pays_1 rfl) (by decide) rfl
theorem dX8_pays_65 : DR cX8_pays 65 (.aload_n 0) 1 := dk_42 (bA_sl (a := 64) (j := 1) bkX8_pays_1 rfl)
theorem dX8_pays_66 : DR cX8_pays 66 (.getfield 58) 3 := dk_180 (bA_sl (a := 64) (j := 2) bkX8_pays_1 rfl) (bA_sl (a := 64) (j := 3) bkX8_pays_1 rfl) (bA_sl (a := 64) (j := 4) bkX8_pays_1 rfl) (by decide) rfl
theorem dX8_pays_69 : DR cX8_pays 69 (.getfield 240) 3 := dk_180 (bA_sl (a := 64) (j := 5) bkX8_pays_1 rfl) (bA_sl (a := 64) (j := 6) bkX8_pays_1 rfl) (bA_sl (a := 64) (j := 7) bkX8_pays_1 rfl) (by decide) rfl
theorem dX8_pays_72 : DR cX8_pays 72 (.iload 4) 2 := dk_21 (bA_sl (a := 64) (j := 8) bkX8_pays_1 rfl) (bA_sl (a := 64) (j := 9) bkX8_pays_1 rfl) (by decide)
theorem dX8_pays_74 : DR cX8_pays 74 (.isub) 1 := dk_100 (bA_sl (a := 64) (j := 10) bkX8_pays_1 rfl)
theorem dX8_pays_75 : DR cX8_pays 75 (.ireturn) 1 := dk_172 (bA_sl (a := 64) (j := 11) bkX8_pays_1 rfl)
theorem bkX8_shifted_0 : ((cX8_shifted.data.toList.drop 0).take 64).map UInt8.toNat = [42, 28, 155, 0, 12, 28, 5, 163, 0, 7, 4, 167, 0, 4, 3, 27, 8, 182, 0, 229, 62, 29, 153, 0, 5, 29, 172, 42, 3, 2, 27, 182, 0, 236, 42, 180, 0, 58, 180, 0, 240, 54, 4, 42, 180, 0, 65, 42, 180, 0, 58, 42, 180, 0, 51, 42, 27, 182, 0, 233, 182, 1, 7, 3] := by decide +kernel
theorem dX8_shifted_0 : DR cX8_shifted 0 (.aload_n 0) 1 := dk_42 (bA_sl (a := 0) (j := 0) bkX8_shifted_0 rfl)
theorem dX8_shifted_1 : DR cX8_shifted 1 (.iload_n 2) 1 := dk_28 (bA_sl (a := 0) (j := 1) bkX8_shifted_0 rfl)
theorem dX8_shifted_2 : DR cX8_shifted 2 (.ifCond .lt 12) 3 := dk_155 (bA_sl (a := 0) (j := 2) bkX8_shifted_0 rfl) (bA_sl (a := 0) (j := 3) bkX8_shifted_0 rfl) (bA_sl (a := 0) (j := 4) bkX8_shifted_0 rfl) (by decide) (by decide)
theorem dX8_shifted_5 : DR cX8_shifted 5 (.iload_n 2) 1 := dk_28 (bA_sl (a := 0) (j := 5) bkX8_shifted_0 rfl)
theorem dX8_shifted_6 : DR cX8_shifted 6 (.iconst 2) 1 := dk_5 (bA_sl (a := 0) (j := 6) bkX8_shifted_0 rfl)
theorem dX8_shifted_7 : DR cX8_shifted 7 (.if_icmp .gt 7) 3 := dk_163 (bA_sl (a := 0) (j := 7) bkX8_shifted_0 rfl) (bA_sl (a := 0) (j := 8) bkX8_shifted_0 rfl) (bA_sl (a := 0) (j := 9) bkX8_shifted_0 rfl) (by decide) (by decide)
theorem dX8_shifted_10 : DR cX8_shifted 10 (.iconst 1) 1 := dk_4 (bA_sl (a := 0) (j := 10) bkX8_shifted_0 rfl)
theorem dX8_shifted_11 : DR cX8_shifted 11 (.goto 4) 3 := dk_167 (bA_sl (a := 0) (j := 11) bkX8_shifted_0 rfl) (bA_sl (a := 0) (j := 12) bkX8_shifted_0 rfl) (bA_sl (a := 0) (j := 13) bkX8_shifted_0 rfl) (by decide) (by decide)
theorem dX8_shifted_14 : DR cX8_shifted 14 (.iconst 0) 1 := dk_3 (bA_sl (a := 0) (j := 14) bkX8_shifted_0 rfl)
theorem dX8_shifted_15 : DR cX8_shifted 15 (.iload_n 1) 1 := dk_27 (bA_sl (a := 0) (j := 15) bkX8_shifted_0 rfl)
theorem dX8_shifted_16 : DR cX8_shifted 16 (.iconst 5) 1 := dk_8 (bA_sl (a := 0) (j := 16) bkX8_shifted_0 rfl)
theorem dX8_shifted_17 : DR cX8_shifted 17 (.invokevirtual 229) 3 := dk_182 (bA_sl (a := 0) (j := 17) bkX8_shifted_0 rfl) (bA_sl (a := 0) (j := 18) bkX8_shifted_0 rfl) (bA_sl (a := 0) (j := 19) bkX8_shifted_0 rfl) (by decide) rfl
theorem dX8_shifted_20 : DR cX8_shifted 20 (.istore_n 3) 1 := dk_62 (bA_sl (a := 0) (j := 20) bkX8_shifted_0 rfl)
theorem dX8_shifted_21 : DR cX8_shifted 21 (.iload_n 3) 1 := dk_29 (bA_sl (a := 0) (j := 21) bkX8_shifted_0 rfl)
theorem dX8_shifted_22 : DR cX8_shifted 22 (.ifCond .eq 5) 3 := dk_153 (bA_sl (a := 0) (j := 22) bkX8_shifted_0 rfl) (bA_sl (a := 0) (j := 23) bkX8_shifted_0 rfl) (bA_sl (a := 0) (j := 24) bkX8_shifted_0 rfl) (by decide) (by decide)
theorem dX8_shifted_25 : DR cX8_shifted 25 (.iload_n 3) 1 := dk_29 (bA_sl (a := 0) (j := 25) bkX8_shifted_0 rfl)
theorem dX8_shifted_26 : DR cX8_shifted 26 (.ireturn) 1 := dk_172 (bA_sl (a := 0) (j := 26) bkX8_shifted_0 rfl)
theorem dX8_shifted_27 : DR cX8_shifted 27 (.aload_n 0) 1 := dk_42 (bA_sl (a := 0) (j := 27) bkX8_shifted_0 rfl)
theorem dX8_shifted_28 : DR cX8_shifted 28 (.iconst 0) 1 := dk_3 (bA_sl (a := 0) (j := 28) bkX8_shifted_0 rfl)
theorem dX8_shifted_29 : DR cX8_shifted 29 (.iconst (-1)) 1 := dk_2 (bA_sl (a := 0) (j := 29) bkX8_shifted_0 rfl)
theorem dX8_shifted_30 : DR cX8_shifted 30 (.iload_n 1) 1 := dk_27 (bA_sl (a := 0) (j := 30) bkX8_shifted_0 rfl)
theorem dX8_shifted_31 : DR cX8_shifted 31 (.invokevirtual 236) 3 := dk_182 (bA_sl (a := 0) (j := 31) bkX8_shifted_0 rfl) (bA_sl (a := 0) (j := 32) bkX8_shifted_0 rfl) (bA_sl (a := 0) (j := 33) bkX8_shifted_0 rfl) (by decide) rfl
theorem dX8_shifted_34 : DR cX8_shifted 34 (.aload_n 0) 1 := dk_42 (bA_sl (a := 0) (j := 34) bkX8_shifted_0 rfl)
theorem dX8_shifted_35 : DR cX8_shifted 35 (.getfield 58) 3 := dk_180 (bA_sl (a := 0) (j := 35) bkX8_shifted_0 rfl) (bA_sl (a := 0) (j := 36) bkX8_shifted_0 rfl) (bA_sl (a := 0) (j := 37) bkX8_shifted_0 rfl) (by decide) rfl
theorem dX8_shifted_38 : DR cX8_shifted 38 (.getfield 240) 3 := dk_180 (bA_sl (a := 0) (j := 38) bkX8_shifted_0 rfl) (bA_sl (a := 0) (j := 39) bkX8_shifted_0 rfl) (bA_sl (a := 0) (j := 40) bkX8_shifted_0 rfl) (by decide) rfl
theorem dX8_shifted_41 : DR cX8_shifted 41 (.istore 4) 2 := dk_54 (bA_sl (a := 0) (j := 41) bkX8_shifted_0 rfl) (bA_sl (a := 0) (j := 42) bkX8_shifted_0 rfl) (by decide)
theorem dX8_shifted_43 : DR cX8_shifted 43 (.aload_n 0) 1 := dk_42 (bA_sl (a := 0) (j := 43) bkX8_shifted_0 rfl)
theorem dX8_shifted_44 : DR cX8_shifted 44 (.getfield 65) 3 := dk_180 (bA_sl (a := 0) (j := 44) bkX8_shifted_0 rfl) (bA_sl (a := 0) (j := 45) bkX8_shifted_0 rfl) (bA_sl (a := 0) (j := 46) bkX8_shifted_0 rfl) (by decide) rfl
theorem dX8_shifted_47 : DR cX8_shifted 47 (.aload_n 0) 1 := dk_42 (bA_sl (a := 0) (j := 47) bkX8_shifted_0 rfl)
theorem dX8_shifted_48 : DR cX8_shifted 48 (.getfield 58) 3 := dk_180 (bA_sl (a := 0) (j := 48) bkX8_shifted_0 rfl) (bA_sl (a := 0) (j := 49) bkX8_shifted_0 rfl) (bA_sl (a := 0) (j := 50) bkX8_shifted_0 rfl) (by decide) rfl
theorem dX8_shifted_51 : DR cX8_shifted 51 (.aload_n 0) 1 := dk_42 (bA_sl (a := 0) (j := 51) bkX8_shifted_0 rfl)
theorem dX8_shifted_52 : DR cX8_shifted 52 (.getfield 51) 3 := dk_180 (bA_sl (a := 0) (j := 52) bkX8_shifted_0 rfl) (bA_sl (a := 0) (j := 53) bkX8_shifted_0 rfl) (bA_sl (a := 0) (j := 54) bkX8_shifted_0 rfl) (by decide) rfl
theorem dX8_shifted_55 : DR cX8_shifted 55 (.aload_n 0) 1 := dk_42 (bA_sl (a := 0) (j := 55) bkX8_shifted_0 rfl)
theorem dX8_shifted_56 : DR cX8_shifted 56 (.iload_n 1) 1 := dk_27 (bA_sl (a := 0) (j := 56) bkX8_shifted_0 rfl)
theorem dX8_shifted_57 : DR cX8_shifted 57 (.invokevirtual 233) 3 := dk_182 (bA_sl (a := 0) (j := 57) bkX8_shifted_0 rfl) (bA_sl (a := 0) (j := 58) bkX8_shifted_0 rfl) (bA_sl (a := 0) (j := 59) bkX8_shifted_0 rfl) (by decide) rfl
theorem dX8_shifted_60 : DR cX8_shifted 60 (.invokevirtual 263) 3 := dk_182 (bA_sl (a := 0) (j := 60) bkX8_shifted_0 rfl) (bA_sl (a := 0) (j := 61) bkX8_shifted_0 rfl) (bA_sl (a := 0) (j := 62) bkX8_shifted_0 rfl) (by decide) rfl
theorem dX8_shifted_63 : DR cX8_shifted 63 (.iconst 0) 1 := dk_3 (bA_sl (a := 0) (j := 63) bkX8_shifted_0 rfl)
theorem bkX8_shifted_1 : ((cX8_shifted.data.toList.drop 64).take 64).map UInt8.toNat = [54, 5, 2, 54, 6, 3, 54, 7, 21, 7, 17, 1, 0, 162, 0, 63, 42, 21, 7, 16, 16, 108, 21, 7, 16, 16, 112, 182, 1, 11, 153, 0, 40, 42, 180, 0, 65, 180, 1, 14, 21, 7, 46, 21, 4, 100, 21, 5, 164, 0, 22, 42, 180, 0, 65, 180, 1, 14, 21, 7, 46, 21, 4, 100] := by decide +kernel
theorem dX8_shifted_64 : DR cX8_shifted 64 (.istore 5) 2 := dk_54 (bA_sl (a := 64) (j := 0) bkX8_shifted_1 rfl) (bA_sl (a := 64) (j := 1) bkX8_shifted_1 rfl) (by decide)
theorem dX8_shifted_66 : DR cX8_shifted 66 (.iconst (-1)) 1 := dk_2 (bA_sl (a := 64) (j := 2) bkX8_shifted_1 rfl)
theorem dX8_shifted_67 : DR cX8_shifted 67 (.istore 6) 2 := dk_54 (bA_sl (a := 64) (j := 3) bkX8_shifted_1 rfl) (bA_sl (a := 64) (j := 4) bkX8_shifted_1 rfl) (by decide)
theorem dX8_shifted_69 : DR cX8_shifted 69 (.iconst 0) 1 := dk_3 (bA_sl (a := 64) (j := 5) bkX8_shifted_1 rfl)
theorem dX8_shifted_70 : DR cX8_shifted 70 (.istore 7) 2 := dk_54 (bA_sl (a := 64) (j := 6) bkX8_shifted_1 rfl) (bA_sl (a := 64) (j := 7) bkX8_shifted_1 rfl) (by decide)
theorem dX8_shifted_72 : DR cX8_shifted 72 (.iload 7) 2 := dk_21 (bA_sl (a := 64) (j := 8) bkX8_shifted_1 rfl) (bA_sl (a := 64) (j := 9) bkX8_shifted_1 rfl) (by decide)
theorem dX8_shifted_74 : DR cX8_shifted 74 (.sipush 256) 3 := dk_17 (bA_sl (a := 64) (j := 10) bkX8_shifted_1 rfl) (bA_sl (a := 64) (j := 11) bkX8_shifted_1 rfl) (bA_sl (a := 64) (j := 12) bkX8_shifted_1 rfl) (by decide) (by decide)
theorem dX8_shifted_77 : DR cX8_shifted 77 (.if_icmp .ge 63) 3 := dk_162 (bA_sl (a := 64) (j := 13) bkX8_shifted_1 rfl) (bA_sl (a := 64) (j := 14) bkX8_shifted_1 rfl) (bA_sl (a := 64) (j := 15) bkX8_shifted_1 rfl) (by decide) (by decide)
theorem dX8_shifted_80 : DR cX8_shifted 80 (.aload_n 0) 1 := dk_42 (bA_sl (a := 64) (j := 16) bkX8_shifted_1 rfl)
theorem dX8_shifted_81 : DR cX8_shifted 81 (.iload 7) 2 := dk_21 (bA_sl (a := 64) (j := 17) bkX8_shifted_1 rfl) (bA_sl (a := 64) (j := 18) bkX8_shifted_1 rfl) (by decide)
theorem dX8_shifted_83 : DR cX8_shifted 83 (.bipush 16) 2 := dk_16 (bA_sl (a := 64) (j := 19) bkX8_shifted_1 rfl) (bA_sl (a := 64) (j := 20) bkX8_shifted_1 rfl) (by decide) (by decide)
theorem dX8_shifted_85 : DR cX8_shifted 85 (.idiv) 1 := dk_108 (bA_sl (a := 64) (j := 21) bkX8_shifted_1 rfl)
theorem dX8_shifted_86 : DR cX8_shifted 86 (.iload 7) 2 := dk_21 (bA_sl (a := 64) (j := 22) bkX8_shifted_1 rfl) (bA_sl (a := 64) (j := 23) bkX8_shifted_1 rfl) (by decide)
theorem dX8_shifted_88 : DR cX8_shifted 88 (.bipush 16) 2 := dk_16 (bA_sl (a := 64) (j := 24) bkX8_shifted_1 rfl) (bA_sl (a := 64) (j := 25) bkX8_shifted_1 rfl) (by decide) (by decide)
theorem dX8_shifted_90 : DR cX8_shifted 90 (.irem) 1 := dk_112 (bA_sl (a := 64) (j := 26) bkX8_shifted_1 rfl)
theorem dX8_shifted_91 : DR cX8_shifted 91 (.invokevirtual 267) 3 := dk_182 (bA_sl (a := 64) (j := 27) bkX8_shifted_1 rfl) (bA_sl (a := 64) (j := 28) bkX8_shifted_1 rfl) (bA_sl (a := 64) (j := 29) bkX8_shifted_1 rfl) (by decide) rfl
theorem dX8_shifted_94 : DR cX8_shifted 94 (.ifCond .eq 40) 3 := dk_153 (bA_sl (a := 64) (j := 30) bkX8_shifted_1 rfl) (bA_sl (a := 64) (j := 31) bkX8_shifted_1 rfl) (bA_sl (a := 64) (j := 32) bkX8_shifted_1 rfl) (by decide) (by decide)
theorem dX8_shifted_97 : DR cX8_shifted 97 (.aload_n 0) 1 := dk_42 (bA_sl (a := 64) (j := 33) bkX8_shifted_1 rfl)
theorem dX8_shifted_98 : DR cX8_shifted 98 (.getfield 65) 3 := dk_180 (bA_sl (a := 64) (j := 34) bkX8_shifted_1 rfl) (bA_sl (a := 64) (j := 35) bkX8_shifted_1 rfl) (bA_sl (a := 64) (j := 36) bkX8_shifted_1 rfl) (by decide) rfl
theorem dX8_shifted_101 : DR cX8_shifted 101 (.getfield 270) 3 := dk_180 (bA_sl (a := 64) (j := 37) bkX8_shifted_1 rfl) (bA_sl (a := 64) (j := 38) bkX8_shifted_1 rfl) (bA_sl (a := 64) (j := 39) bkX8_shifted_1 rfl) (by decide) rfl
theorem dX8_shifted_104 : DR cX8_shifted 104 (.iload 7) 2 := dk_21 (bA_sl (a := 64) (j := 40) bkX8_shifted_1 rfl) (bA_sl (a := 64) (j := 41) bkX8_shifted_1 rfl) (by decide)
theorem dX8_shifted_106 : DR cX8_shifted 106 (.iaload) 1 := dk_46 (bA_sl (a := 64) (j := 42) bkX8_shifted_1 rfl)
theorem dX8_shifted_107 : DR cX8_shifted 107 (.iload 4) 2 := dk_21 (bA_sl (a := 64) (j := 43) bkX8_shifted_1 rfl) (bA_sl (a := 64) (j := 44) bkX8_shifted_1 rfl) (by decide)
theorem dX8_shifted_109 : DR cX8_shifted 109 (.isub) 1 := dk_100 (bA_sl (a := 64) (j := 45) bkX8_shifted_1 rfl)
theorem dX8_shifted_110 : DR cX8_shifted 110 (.iload 5) 2 := dk_21 (bA_sl (a := 64) (j := 46) bkX8_shifted_1 rfl) (bA_sl (a := 64) (j := 47) bkX8_shifted_1 rfl) (by decide)
theorem dX8_shifted_112 : DR cX8_shifted 112 (.if_icmp .le 22) 3 := dk_164 (bA_sl (a := 64) (j := 48) bkX8_shifted_1 rfl) (bA_sl (a := 64) (j := 49) bkX8_shifted_1 rfl) (bA_sl (a := 64) (j := 50) bkX8_shifted_1 rfl) (by decide) (by decide)
theorem dX8_shifted_115 : DR cX8_shifted 115 (.aload_n 0) 1 := dk_42 (bA_sl (a := 64) (j := 51) bkX8_shifted_1 rfl)
theorem dX8_shifted_116 : DR cX8_shifted 116 (.getfield 65) 3 := dk_180 (bA_sl (a := 64) (j := 52) bkX8_shifted_1 rfl) (bA_sl (a := 64) (j := 53) bkX8_shifted_1 rfl) (bA_sl (a := 64) (j := 54) bkX8_shifted_1 rfl) (by decide) rfl
theorem dX8_shifted_119 : DR cX8_shifted 119 (.getfield 270) 3 := dk_180 (bA_sl (a := 64) (j := 55) bkX8_shifted_1 rfl) (bA_sl (a := 64) (j := 56) bkX8_shifted_1 rfl) (bA_sl (a := 64) (j := 57) bkX8_shifted_1 rfl) (by decide) rfl
theorem dX8_shifted_122 : DR cX8_shifted 122 (.iload 7) 2 := dk_21 (bA_sl (a := 64) (j := 58) bkX8_shifted_1 rfl) (bA_sl (a := 64) (j := 59) bkX8_shifted_1 rfl) (by decide)
theorem dX8_shifted_124 : DR cX8_shifted 124 (.iaload) 1 := dk_46 (bA_sl (a := 64) (j := 60) bkX8_shifted_1 rfl)
theorem dX8_shifted_125 : DR cX8_shifted 125 (.iload 4) 2 := dk_21 (bA_sl (a := 64) (j := 61) bkX8_shifted_1 rfl) (bA_sl (a := 64) (j := 62) bkX8_shifted_1 rfl) (by decide)
theorem dX8_shifted_127 : DR cX8_shifted 127 (.isub) 1 := dk_100 (bA_sl (a := 64) (j := 63) bkX8_shifted_1 rfl)
theorem bkX8_shifted_2 : ((cX8_shifted.data.toList.drop 128).take 64).map UInt8.toNat = [54, 5, 21, 7, 54, 6, 132, 7, 1, 167, 255, 191, 28, 154, 0, 6, 21, 5, 172, 21, 6, 2, 160, 0, 5, 2, 172, 28, 4, 160, 0, 11, 21, 6, 16, 16, 108, 167, 0, 8, 21, 6, 16, 16, 112, 172] := by decide +kernel
theorem dX8_shifted_128 : DR cX8_shifted 128 (.istore 5) 2 := dk_54 (bA_sl (a := 128) (j := 0) bkX8_shifted_2 rfl) (bA_sl (a := 128) (j := 1) bkX8_shifted_2 rfl) (by decide)
theorem dX8_shifted_130 : DR cX8_shifted 130 (.iload 7) 2 := dk_21 (bA_sl (a := 128) (j := 2) bkX8_shifted_2 rfl) (bA_sl (a := 128) (j := 3) bkX8_shifted_2 rfl) (by decide)
theorem dX8_shifted_132 : DR cX8_shifted 132 (.istore 6) 2 := dk_54 (bA_sl (a := 128) (j := 4) bkX8_shifted_2 rfl) (bA_sl (a := 128) (j := 5) bkX8_shifted_2 rfl) (by decide)
theorem dX8_shifted_134 : DR cX8_shifted 134 (.iinc 7 1) 3 := dk_132 (bA_sl (a := 128) (j := 6) bkX8_shifted_2 rfl) (bA_sl (a := 128) (j := 7) bkX8_shifted_2 rfl) (bA_sl (a := 128) (j := 8) bkX8_shifted_2 rfl) (by decide) (by decide)
theorem dX8_shifted_137 : DR cX8_shifted 137 (.goto (-65)) 3 := dk_167 (bA_sl (a := 128) (j := 9) bkX8_shifted_2 rfl) (bA_sl (a := 128) (j := 10) bkX8_shifted_2 rfl) (bA_sl (a := 128) (j := 11) bkX8_shifted_2 rfl) (by decide) (by decide)
theorem dX8_shifted_140 : DR cX8_shifted 140 (.iload_n 2) 1 := dk_28 (bA_sl (a := 128) (j := 12) bkX8_shifted_2 rfl)
theorem dX8_shifted_141 : DR cX8_shifted 141 (.ifCond .ne 6) 3 := dk_154 (bA_sl (a := 128) (j := 13) bkX8_shifted_2 rfl) (bA_sl (a := 128) (j := 14) bkX8_shifted_2 rfl) (bA_sl (a := 128) (j := 15) bkX8_shifted_2 rfl) (by decide) (by decide)
theorem dX8_shifted_144 : DR cX8_shifted 144 (.iload 5) 2 := dk_21 (bA_sl (a := 128) (j := 16) bkX8_shifted_2 rfl) (bA_sl (a := 128) (j := 17) bkX8_shifted_2 rfl) (by decide)
theorem dX8_shifted_146 : DR cX8_shifted 146 (.ireturn) 1 := dk_172 (bA_sl (a := 128) (j := 18) bkX8_shifted_2 rfl)
theorem dX8_shifted_147 : DR cX8_shifted 147 (.iload 6) 2 := dk_21 (bA_sl (a := 128) (j := 19) bkX8_shifted_2 rfl) (bA_sl (a := 128) (j := 20) bkX8_shifted_2 rfl) (by decide)
theorem dX8_shifted_149 : DR cX8_shifted 149 (.iconst (-1)) 1 := dk_2 (bA_sl (a := 128) (j := 21) bkX8_shifted_2 rfl)
theorem dX8_shifted_150 : DR cX8_shifted 150 (.if_icmp .ne 5) 3 := dk_160 (bA_sl (a := 128) (j := 22) bkX8_shifted_2 rfl) (bA_sl (a := 128) (j := 23) bkX8_shifted_2 rfl) (bA_sl (a := 128) (j := 24) bkX8_shifted_2 rfl) (by decide) (by decide)
theorem dX8_shifted_153 : DR cX8_shifted 153 (.iconst (-1)) 1 := dk_2 (bA_sl (a := 128) (j := 25) bkX8_shifted_2 rfl)
theorem dX8_shifted_154 : DR cX8_shifted 154 (.ireturn) 1 := dk_172 (bA_sl (a := 128) (j := 26) bkX8_shifted_2 rfl)
theorem dX8_shifted_155 : DR cX8_shifted 155 (.iload_n 2) 1 := dk_28 (bA_sl (a := 128) (j := 27) bkX8_shifted_2 rfl)
theorem dX8_shifted_156 : DR cX8_shifted 156 (.iconst 1) 1 := dk_4 (bA_sl (a := 128) (j := 28) bkX8_shifted_2 rfl)
theorem dX8_shifted_157 : DR cX8_shifted 157 (.if_icmp .ne 11) 3 := dk_160 (bA_sl (a := 128) (j := 29) bkX8_shifted_2 rfl) (bA_sl (a := 128) (j := 30) bkX8_shifted_2 rfl) (bA_sl (a := 128) (j := 31) bkX8_shifted_2 rfl) (by decide) (by decide)
theorem dX8_shifted_160 : DR cX8_shifted 160 (.iload 6) 2 := dk_21 (bA_sl (a := 128) (j := 32) bkX8_shifted_2 rfl) (bA_sl (a := 128) (j := 33) bkX8_shifted_2 rfl) (by decide)
theorem dX8_shifted_162 : DR cX8_shifted 162 (.bipush 16) 2 := dk_16 (bA_sl (a := 128) (j := 34) bkX8_shifted_2 rfl) (bA_sl (a := 128) (j := 35) bkX8_shifted_2 rfl) (by decide) (by decide)
theorem dX8_shifted_164 : DR cX8_shifted 164 (.idiv) 1 := dk_108 (bA_sl (a := 128) (j := 36) bkX8_shifted_2 rfl)
theorem dX8_shifted_165 : DR cX8_shifted 165 (.goto 8) 3 := dk_167 (bA_sl (a := 128) (j := 37) bkX8_shifted_2 rfl) (bA_sl (a := 128) (j := 38) bkX8_shifted_2 rfl) (bA_sl (a := 128) (j := 39) bkX8_shifted_2 rfl) (by decide) (by decide)
theorem dX8_shifted_168 : DR cX8_shifted 168 (.iload 6) 2 := dk_21 (bA_sl (a := 128) (j := 40) bkX8_shifted_2 rfl) (bA_sl (a := 128) (j := 41) bkX8_shifted_2 rfl) (by decide)
theorem dX8_shifted_170 : DR cX8_shifted 170 (.bipush 16) 2 := dk_16 (bA_sl (a := 128) (j := 42) bkX8_shifted_2 rfl) (bA_sl (a := 128) (j := 43) bkX8_shifted_2 rfl) (by decide) (by decide)
theorem dX8_shifted_172 : DR cX8_shifted 172 (.irem) 1 := dk_112 (bA_sl (a := 128) (j := 44) bkX8_shifted_2 rfl)
theorem dX8_shifted_173 : DR cX8_shifted 173 (.ireturn) 1 := dk_172 (bA_sl (a := 128) (j := 45) bkX8_shifted_2 rfl)
theorem bkX8_felled_0 : ((cX8_felled.data.toList.drop 0).take 64).map UInt8.toNat = [42, 28, 153, 0, 8, 28, 4, 160, 0, 7, 4, 167, 0, 4, 3, 27, 16, 6, 182, 0, 229, 62, 29, 153, 0, 5, 29, 172, 42, 3, 2, 27, 182, 0, 236, 42, 180, 0, 58, 180, 0, 240, 54, 4, 21, 4, 54, 5, 2, 54, 6, 42, 180, 0, 31, 42, 180, 0, 27, 182, 0, 95, 3, 54] := by decide +kernel
theorem dX8_felled_0 : DR cX8_felled 0 (.aload_n 0) 1 := dk_42 (bA_sl (a := 0) (j := 0) bkX8_felled_0 rfl)
theorem dX8_felled_1 : DR cX8_felled 1 (.iload_n 2) 1 := dk_28 (bA_sl (a := 0) (j := 1) bkX8_felled_0 rfl)
theorem dX8_felled_2 : DR cX8_felled 2 (.ifCond .eq 8) 3 := dk_153 (bA_sl (a := 0) (j := 2) bkX8_felled_0 rfl) (bA_sl (a := 0) (j := 3) bkX8_felled_0 rfl) (bA_sl (a := 0) (j := 4) bkX8_felled_0 rfl) (by decide) (by decide)
theorem dX8_felled_5 : DR cX8_felled 5 (.iload_n 2) 1 := dk_28 (bA_sl (a := 0) (j := 5) bkX8_felled_0 rfl)
theorem dX8_felled_6 : DR cX8_felled 6 (.iconst 1) 1 := dk_4 (bA_sl (a := 0) (j := 6) bkX8_felled_0 rfl)
theorem dX8_felled_7 : DR cX8_felled 7 (.if_icmp .ne 7) 3 := dk_160 (bA_sl (a := 0) (j := 7) bkX8_felled_0 rfl) (bA_sl (a := 0) (j := 8) bkX8_felled_0 rfl) (bA_sl (a := 0) (j := 9) bkX8_felled_0 rfl) (by decide) (by decide)
theorem dX8_felled_10 : DR cX8_felled 10 (.iconst 1) 1 := dk_4 (bA_sl (a := 0) (j := 10) bkX8_felled_0 rfl)
theorem dX8_felled_11 : DR cX8_felled 11 (.goto 4) 3 := dk_167 (bA_sl (a := 0) (j := 11) bkX8_felled_0 rfl) (bA_sl (a := 0) (j := 12) bkX8_felled_0 rfl) (bA_sl (a := 0) (j := 13) bkX8_felled_0 rfl) (by decide) (by decide)
theorem dX8_felled_14 : DR cX8_felled 14 (.iconst 0) 1 := dk_3 (bA_sl (a := 0) (j := 14) bkX8_felled_0 rfl)
theorem dX8_felled_15 : DR cX8_felled 15 (.iload_n 1) 1 := dk_27 (bA_sl (a := 0) (j := 15) bkX8_felled_0 rfl)
theorem dX8_felled_16 : DR cX8_felled 16 (.bipush 6) 2 := dk_16 (bA_sl (a := 0) (j := 16) bkX8_felled_0 rfl) (bA_sl (a := 0) (j := 17) bkX8_felled_0 rfl) (by decide) (by decide)
theorem dX8_felled_18 : DR cX8_felled 18 (.invokevirtual 229) 3 := dk_182 (bA_sl (a := 0) (j := 18) bkX8_felled_0 rfl) (bA_sl (a := 0) (j := 19) bkX8_felled_0 rfl) (bA_sl (a := 0) (j := 20) bkX8_felled_0 rfl) (by decide) rfl
theorem dX8_felled_21 : DR cX8_felled 21 (.istore_n 3) 1 := dk_62 (bA_sl (a := 0) (j := 21) bkX8_felled_0 rfl)
theorem dX8_felled_22 : DR cX8_felled 22 (.iload_n 3) 1 := dk_29 (bA_sl (a := 0) (j := 22) bkX8_felled_0 rfl)
theorem dX8_felled_23 : DR cX8_felled 23 (.ifCond .eq 5) 3 := dk_153 (bA_sl (a := 0) (j := 23) bkX8_felled_0 rfl) (bA_sl (a := 0) (j := 24) bkX8_felled_0 rfl) (bA_sl (a := 0) (j := 25) bkX8_felled_0 rfl) (by decide) (by decide)
theorem dX8_felled_26 : DR cX8_felled 26 (.iload_n 3) 1 := dk_29 (bA_sl (a := 0) (j := 26) bkX8_felled_0 rfl)
theorem dX8_felled_27 : DR cX8_felled 27 (.ireturn) 1 := dk_172 (bA_sl (a := 0) (j := 27) bkX8_felled_0 rfl)
theorem dX8_felled_28 : DR cX8_felled 28 (.aload_n 0) 1 := dk_42 (bA_sl (a := 0) (j := 28) bkX8_felled_0 rfl)
theorem dX8_felled_29 : DR cX8_felled 29 (.iconst 0) 1 := dk_3 (bA_sl (a := 0) (j := 29) bkX8_felled_0 rfl)
theorem dX8_felled_30 : DR cX8_felled 30 (.iconst (-1)) 1 := dk_2 (bA_sl (a := 0) (j := 30) bkX8_felled_0 rfl)
theorem dX8_felled_31 : DR cX8_felled 31 (.iload_n 1) 1 := dk_27 (bA_sl (a := 0) (j := 31) bkX8_felled_0 rfl)
theorem dX8_felled_32 : DR cX8_felled 32 (.invokevirtual 236) 3 := dk_182 (bA_sl (a := 0) (j := 32) bkX8_felled_0 rfl) (bA_sl (a := 0) (j := 33) bkX8_felled_0 rfl) (bA_sl (a := 0) (j := 34) bkX8_felled_0 rfl) (by decide) rfl
theorem dX8_felled_35 : DR cX8_felled 35 (.aload_n 0) 1 := dk_42 (bA_sl (a := 0) (j := 35) bkX8_felled_0 rfl)
theorem dX8_felled_36 : DR cX8_felled 36 (.getfield 58) 3 := dk_180 (bA_sl (a := 0) (j := 36) bkX8_felled_0 rfl) (bA_sl (a := 0) (j := 37) bkX8_felled_0 rfl) (bA_sl (a := 0) (j := 38) bkX8_felled_0 rfl) (by decide) rfl
theorem dX8_felled_39 : DR cX8_felled 39 (.getfield 240) 3 := dk_180 (bA_sl (a := 0) (j := 39) bkX8_felled_0 rfl) (bA_sl (a := 0) (j := 40) bkX8_felled_0 rfl) (bA_sl (a := 0) (j := 41) bkX8_felled_0 rfl) (by decide) rfl
theorem dX8_felled_42 : DR cX8_felled 42 (.istore 4) 2 := dk_54 (bA_sl (a := 0) (j := 42) bkX8_felled_0 rfl) (bA_sl (a := 0) (j := 43) bkX8_felled_0 rfl) (by decide)
theorem dX8_felled_44 : DR cX8_felled 44 (.iload 4) 2 := dk_21 (bA_sl (a := 0) (j := 44) bkX8_felled_0 rfl) (bA_sl (a := 0) (j := 45) bkX8_felled_0 rfl) (by decide)
theorem dX8_felled_46 : DR cX8_felled 46 (.istore 5) 2 := dk_54 (bA_sl (a := 0) (j := 46) bkX8_felled_0 rfl) (bA_sl (a := 0) (j := 47) bkX8_felled_0 rfl) (by decide)
theorem dX8_felled_48 : DR cX8_felled 48 (.iconst (-1)) 1 := dk_2 (bA_sl (a := 0) (j := 48) bkX8_felled_0 rfl)
theorem dX8_felled_49 : DR cX8_felled 49 (.istore 6) 2 := dk_54 (bA_sl (a := 0) (j := 49) bkX8_felled_0 rfl) (bA_sl (a := 0) (j := 50) bkX8_felled_0 rfl) (by decide)
theorem dX8_felled_51 : DR cX8_felled 51 (.aload_n 0) 1 := dk_42 (bA_sl (a := 0) (j := 51) bkX8_felled_0 rfl)
theorem dX8_felled_52 : DR cX8_felled 52 (.getfield 31) 3 := dk_180 (bA_sl (a := 0) (j := 52) bkX8_felled_0 rfl) (bA_sl (a := 0) (j := 53) bkX8_felled_0 rfl) (bA_sl (a := 0) (j := 54) bkX8_felled_0 rfl) (by decide) rfl
theorem dX8_felled_55 : DR cX8_felled 55 (.aload_n 0) 1 := dk_42 (bA_sl (a := 0) (j := 55) bkX8_felled_0 rfl)
theorem dX8_felled_56 : DR cX8_felled 56 (.getfield 27) 3 := dk_180 (bA_sl (a := 0) (j := 56) bkX8_felled_0 rfl) (bA_sl (a := 0) (j := 57) bkX8_felled_0 rfl) (bA_sl (a := 0) (j := 58) bkX8_felled_0 rfl) (by decide) rfl
theorem dX8_felled_59 : DR cX8_felled 59 (.invokevirtual 95) 3 := dk_182 (bA_sl (a := 0) (j := 59) bkX8_felled_0 rfl) (bA_sl (a := 0) (j := 60) bkX8_felled_0 rfl) (bA_sl (a := 0) (j := 61) bkX8_felled_0 rfl) (by decide) rfl
theorem dX8_felled_62 : DR cX8_felled 62 (.iconst 0) 1 := dk_3 (bA_sl (a := 0) (j := 62) bkX8_felled_0 rfl)
theorem bkX8_felled_1 : ((cX8_felled.data.toList.drop 64).take 64).map UInt8.toNat = [7, 21, 7, 42, 180, 0, 27, 180, 0, 161, 162, 0, 109, 42, 180, 0, 27, 180, 0, 119, 21, 7, 46, 158, 0, 90, 42, 180, 0, 31, 180, 0, 119, 21, 7, 3, 79, 42, 180, 0, 58, 42, 180, 0, 31, 3, 2, 182, 1, 17, 42, 180, 0, 31, 180, 0, 119, 21, 7, 42, 180, 0, 27, 180] := by decide +kernel
theorem dX8_felled_63 : DR cX8_felled 63 (.istore 7) 2 := dk_54 (bA_sl (a := 0) (j := 63) bkX8_felled_0 rfl) (bA_sl (a := 64) (j := 0) bkX8_felled_1 rfl) (by decide)
theorem dX8_felled_65 : DR cX8_felled 65 (.iload 7) 2 := dk_21 (bA_sl (a := 64) (j := 1) bkX8_felled_1 rfl) (bA_sl (a := 64) (j := 2) bkX8_felled_1 rfl) (by decide)
theorem dX8_felled_67 : DR cX8_felled 67 (.aload_n 0) 1 := dk_42 (bA_sl (a := 64) (j := 3) bkX8_felled_1 rfl)
theorem dX8_felled_68 : DR cX8_felled 68 (.getfield 27) 3 := dk_180 (bA_sl (a := 64) (j := 4) bkX8_felled_1 rfl) (bA_sl (a := 64) (j := 5) bkX8_felled_1 rfl) (bA_sl (a := 64) (j := 6) bkX8_felled_1 rfl) (by decide) rfl
theorem dX8_felled_71 : DR cX8_felled 71 (.getfield 161) 3 := dk_180 (bA_sl (a := 64) (j := 7) bkX8_felled_1 rfl) (bA_sl (a := 64) (j := 8) bkX8_felled_1 rfl) (bA_sl (a := 64) (j := 9) bkX8_felled_1 rfl) (by decide) rfl
theorem dX8_felled_74 : DR cX8_felled 74 (.if_icmp .ge 109) 3 := dk_162 (bA_sl (a := 64) (j := 10) bkX8_felled_1 rfl) (bA_sl (a := 64) (j := 11) bkX8_felled_1 rfl) (bA_sl (a := 64) (j := 12) bkX8_felled_1 rfl) (by decide) (by decide)
theorem dX8_felled_77 : DR cX8_felled 77 (.aload_n 0) 1 := dk_42 (bA_sl (a := 64) (j := 13) bkX8_felled_1 rfl)
theorem dX8_felled_78 : DR cX8_felled 78 (.getfield 27) 3 := dk_180 (bA_sl (a := 64) (j := 14) bkX8_felled_1 rfl) (bA_sl (a := 64) (j := 15) bkX8_felled_1 rfl) (bA_sl (a := 64) (j := 16) bkX8_felled_1 rfl) (by decide) rfl
theorem dX8_felled_81 : DR cX8_felled 81 (.getfield 119) 3 := dk_180 (bA_sl (a := 64) (j := 17) bkX8_felled_1 rfl) (bA_sl (a := 64) (j := 18) bkX8_felled_1 rfl) (bA_sl (a := 64) (j := 19) bkX8_felled_1 rfl) (by decide) rfl
theorem dX8_felled_84 : DR cX8_felled 84 (.iload 7) 2 := dk_21 (bA_sl (a := 64) (j := 20) bkX8_felled_1 rfl) (bA_sl (a := 64) (j := 21) bkX8_felled_1 rfl) (by decide)
theorem dX8_felled_86 : DR cX8_felled 86 (.iaload) 1 := dk_46 (bA_sl (a := 64) (j := 22) bkX8_felled_1 rfl)
theorem dX8_felled_87 : DR cX8_felled 87 (.ifCond .le 90) 3 := dk_158 (bA_sl (a := 64) (j := 23) bkX8_felled_1 rfl) (bA_sl (a := 64) (j := 24) bkX8_felled_1 rfl) (bA_sl (a := 64) (j := 25) bkX8_felled_1 rfl) (by decide) (by decide)
theorem dX8_felled_90 : DR cX8_felled 90 (.aload_n 0) 1 := dk_42 (bA_sl (a := 64) (j := 26) bkX8_felled_1 rfl)
theorem dX8_felled_91 : DR cX8_felled 91 (.getfield 31) 3 := dk_180 (bA_sl (a := 64) (j := 27) bkX8_felled_1 rfl) (bA_sl (a := 64) (j := 28) bkX8_felled_1 rfl) (bA_sl (a := 64) (j := 29) bkX8_felled_1 rfl) (by decide) rfl
theorem dX8_felled_94 : DR cX8_felled 94 (.getfield 119) 3 := dk_180 (bA_sl (a := 64) (j := 30) bkX8_felled_1 rfl) (bA_sl (a := 64) (j := 31) bkX8_felled_1 rfl) (bA_sl (a := 64) (j := 32) bkX8_felled_1 rfl) (by decide) rfl
theorem dX8_felled_97 : DR cX8_felled 97 (.iload 7) 2 := dk_21 (bA_sl (a := 64) (j := 33) bkX8_felled_1 rfl) (bA_sl (a := 64) (j := 34) bkX8_felled_1 rfl) (by decide)
theorem dX8_felled_99 : DR cX8_felled 99 (.iconst 0) 1 := dk_3 (bA_sl (a := 64) (j := 35) bkX8_felled_1 rfl)
theorem dX8_felled_100 : DR cX8_felled 100 (.iastore) 1 := dk_79 (bA_sl (a := 64) (j := 36) bkX8_felled_1 rfl)
theorem dX8_felled_101 : DR cX8_felled 101 (.aload_n 0) 1 := dk_42 (bA_sl (a := 64) (j := 37) bkX8_felled_1 rfl)
theorem dX8_felled_102 : DR cX8_felled 102 (.getfield 58) 3 := dk_180 (bA_sl (a := 64) (j := 38) bkX8_felled_1 rfl) (bA_sl (a := 64) (j := 39) bkX8_felled_1 rfl) (bA_sl (a := 64) (j := 40) bkX8_felled_1 rfl) (by decide) rfl
theorem dX8_felled_105 : DR cX8_felled 105 (.aload_n 0) 1 := dk_42 (bA_sl (a := 64) (j := 41) bkX8_felled_1 rfl)
theorem dX8_felled_106 : DR cX8_felled 106 (.getfield 31) 3 := dk_180 (bA_sl (a := 64) (j := 42) bkX8_felled_1 rfl) (bA_sl (a := 64) (j := 43) bkX8_felled_1 rfl) (bA_sl (a := 64) (j := 44) bkX8_felled_1 rfl) (by decide) rfl
theorem dX8_felled_109 : DR cX8_felled 109 (.iconst 0) 1 := dk_3 (bA_sl (a := 64) (j := 45) bkX8_felled_1 rfl)
theorem dX8_felled_110 : DR cX8_felled 110 (.iconst (-1)) 1 := dk_2 (bA_sl (a := 64) (j := 46) bkX8_felled_1 rfl)
theorem dX8_felled_111 : DR cX8_felled 111 (.invokevirtual 273) 3 := dk_182 (bA_sl (a := 64) (j := 47) bkX8_felled_1 rfl) (bA_sl (a := 64) (j := 48) bkX8_felled_1 rfl) (bA_sl (a := 64) (j := 49) bkX8_felled_1 rfl) (by decide) rfl
theorem dX8_felled_114 : DR cX8_felled 114 (.aload_n 0) 1 := dk_42 (bA_sl (a := 64) (j := 50) bkX8_felled_1 rfl)
theorem dX8_felled_115 : DR cX8_felled 115 (.getfield 31) 3 := dk_180 (bA_sl (a := 64) (j := 51) bkX8_felled_1 rfl) (bA_sl (a := 64) (j := 52) bkX8_felled_1 rfl) (bA_sl (a := 64) (j := 53) bkX8_felled_1 rfl) (by decide) rfl
theorem dX8_felled_118 : DR cX8_felled 118 (.getfield 119) 3 := dk_180 (bA_sl (a := 64) (j := 54) bkX8_felled_1 rfl) (bA_sl (a := 64) (j := 55) bkX8_felled_1 rfl) (bA_sl (a := 64) (j := 56) bkX8_felled_1 rfl) (by decide) rfl
theorem dX8_felled_121 : DR cX8_felled 121 (.iload 7) 2 := dk_21 (bA_sl (a := 64) (j := 57) bkX8_felled_1 rfl) (bA_sl (a := 64) (j := 58) bkX8_felled_1 rfl) (by decide)
theorem dX8_felled_123 : DR cX8_felled 123 (.aload_n 0) 1 := dk_42 (bA_sl (a := 64) (j := 59) bkX8_felled_1 rfl)
theorem dX8_felled_124 : DR cX8_felled 124 (.getfield 27) 3 := dk_180 (bA_sl (a := 64) (j := 60) bkX8_felled_1 rfl) (bA_sl (a := 64) (j := 61) bkX8_felled_1 rfl) (bA_sl (a := 64) (j := 62) bkX8_felled_1 rfl) (by decide) rfl
theorem bkX8_felled_2 : ((cX8_felled.data.toList.drop 128).take 64).map UInt8.toNat = [0, 119, 21, 7, 46, 79, 42, 180, 0, 58, 42, 180, 0, 51, 42, 27, 182, 0, 233, 21, 5, 182, 1, 21, 42, 180, 0, 58, 180, 0, 240, 21, 5, 164, 0, 16, 42, 180, 0, 58, 180, 0, 240, 54, 5, 21, 7, 54, 6, 132, 7, 1, 167, 255, 141, 28, 154, 0, 11, 21, 5, 21, 4, 100] := by decide +kernel
theorem dX8_felled_127 : DR cX8_felled 127 (.getfield 119) 3 := dk_180 (bA_sl (a := 64) (j := 63) bkX8_felled_1 rfl) (bA_sl (a := 128) (j := 0) bkX8_felled_2 rfl) (bA_sl (a := 128) (j := 1) bkX8_felled_2 rfl) (by decide) rfl
theorem dX8_felled_130 : DR cX8_felled 130 (.iload 7) 2 := dk_21 (bA_sl (a := 128) (j := 2) bkX8_felled_2 rfl) (bA_sl (a := 128) (j := 3) bkX8_felled_2 rfl) (by decide)
theorem dX8_felled_132 : DR cX8_felled 132 (.iaload) 1 := dk_46 (bA_sl (a := 128) (j := 4) bkX8_felled_2 rfl)
theorem dX8_felled_133 : DR cX8_felled 133 (.iastore) 1 := dk_79 (bA_sl (a := 128) (j := 5) bkX8_felled_2 rfl)
theorem dX8_felled_134 : DR cX8_felled 134 (.aload_n 0) 1 := dk_42 (bA_sl (a := 128) (j := 6) bkX8_felled_2 rfl)
theorem dX8_felled_135 : DR cX8_felled 135 (.getfield 58) 3 := dk_180 (bA_sl (a := 128) (j := 7) bkX8_felled_2 rfl) (bA_sl (a := 128) (j := 8) bkX8_felled_2 rfl) (bA_sl (a := 128) (j := 9) bkX8_felled_2 rfl) (by decide) rfl
theorem dX8_felled_138 : DR cX8_felled 138 (.aload_n 0) 1 := dk_42 (bA_sl (a := 128) (j := 10) bkX8_felled_2 rfl)
theorem dX8_felled_139 : DR cX8_felled 139 (.getfield 51) 3 := dk_180 (bA_sl (a := 128) (j := 11) bkX8_felled_2 rfl) (bA_sl (a := 128) (j := 12) bkX8_felled_2 rfl) (bA_sl (a := 128) (j := 13) bkX8_felled_2 rfl) (by decide) rfl
theorem dX8_felled_142 : DR cX8_felled 142 (.aload_n 0) 1 := dk_42 (bA_sl (a := 128) (j := 14) bkX8_felled_2 rfl)
theorem dX8_felled_143 : DR cX8_felled 143 (.iload_n 1) 1 := dk_27 (bA_sl (a := 128) (j := 15) bkX8_felled_2 rfl)
theorem dX8_felled_144 : DR cX8_felled 144 (.invokevirtual 233) 3 := dk_182 (bA_sl (a := 128) (j := 16) bkX8_felled_2 rfl) (bA_sl (a := 128) (j := 17) bkX8_felled_2 rfl) (bA_sl (a := 128) (j := 18) bkX8_felled_2 rfl) (by decide) rfl
theorem dX8_felled_147 : DR cX8_felled 147 (.iload 5) 2 := dk_21 (bA_sl (a := 128) (j := 19) bkX8_felled_2 rfl) (bA_sl (a := 128) (j := 20) bkX8_felled_2 rfl) (by decide)
theorem dX8_felled_149 : DR cX8_felled 149 (.invokevirtual 277) 3 := dk_182 (bA_sl (a := 128) (j := 21) bkX8_felled_2 rfl) (bA_sl (a := 128) (j := 22) bkX8_felled_2 rfl) (bA_sl (a := 128) (j := 23) bkX8_felled_2 rfl) (by decide) rfl
theorem dX8_felled_152 : DR cX8_felled 152 (.aload_n 0) 1 := dk_42 (bA_sl (a := 128) (j := 24) bkX8_felled_2 rfl)
theorem dX8_felled_153 : DR cX8_felled 153 (.getfield 58) 3 := dk_180 (bA_sl (a := 128) (j := 25) bkX8_felled_2 rfl) (bA_sl (a := 128) (j := 26) bkX8_felled_2 rfl) (bA_sl (a := 128) (j := 27) bkX8_felled_2 rfl) (by decide) rfl
theorem dX8_felled_156 : DR cX8_felled 156 (.getfield 240) 3 := dk_180 (bA_sl (a := 128) (j := 28) bkX8_felled_2 rfl) (bA_sl (a := 128) (j := 29) bkX8_felled_2 rfl) (bA_sl (a := 128) (j := 30) bkX8_felled_2 rfl) (by decide) rfl
theorem dX8_felled_159 : DR cX8_felled 159 (.iload 5) 2 := dk_21 (bA_sl (a := 128) (j := 31) bkX8_felled_2 rfl) (bA_sl (a := 128) (j := 32) bkX8_felled_2 rfl) (by decide)
theorem dX8_felled_161 : DR cX8_felled 161 (.if_icmp .le 16) 3 := dk_164 (bA_sl (a := 128) (j := 33) bkX8_felled_2 rfl) (bA_sl (a := 128) (j := 34) bkX8_felled_2 rfl) (bA_sl (a := 128) (j := 35) bkX8_felled_2 rfl) (by decide) (by decide)
theorem dX8_felled_164 : DR cX8_felled 164 (.aload_n 0) 1 := dk_42 (bA_sl (a := 128) (j := 36) bkX8_felled_2 rfl)
theorem dX8_felled_165 : DR cX8_felled 165 (.getfield 58) 3 := dk_180 (bA_sl (a := 128) (j := 37) bkX8_felled_2 rfl) (bA_sl (a := 128) (j := 38) bkX8_felled_2 rfl) (bA_sl (a := 128) (j := 39) bkX8_felled_2 rfl) (by decide) rfl
theorem dX8_felled_168 : DR cX8_felled 168 (.getfield 240) 3 := dk_180 (bA_sl (a := 128) (j := 40) bkX8_felled_2 rfl) (bA_sl (a := 128) (j := 41) bkX8_felled_2 rfl) (bA_sl (a := 128) (j := 42) bkX8_felled_2 rfl) (by decide) rfl
theorem dX8_felled_171 : DR cX8_felled 171 (.istore 5) 2 := dk_54 (bA_sl (a := 128) (j := 43) bkX8_felled_2 rfl) (bA_sl (a := 128) (j := 44) bkX8_felled_2 rfl) (by decide)
theorem dX8_felled_173 : DR cX8_felled 173 (.iload 7) 2 := dk_21 (bA_sl (a := 128) (j := 45) bkX8_felled_2 rfl) (bA_sl (a := 128) (j := 46) bkX8_felled_2 rfl) (by decide)
theorem dX8_felled_175 : DR cX8_felled 175 (.istore 6) 2 := dk_54 (bA_sl (a := 128) (j := 47) bkX8_felled_2 rfl) (bA_sl (a := 128) (j := 48) bkX8_felled_2 rfl) (by decide)
theorem dX8_felled_177 : DR cX8_felled 177 (.iinc 7 1) 3 := dk_132 (bA_sl (a := 128) (j := 49) bkX8_felled_2 rfl) (bA_sl (a := 128) (j := 50) bkX8_felled_2 rfl) (bA_sl (a := 128) (j := 51) bkX8_felled_2 rfl) (by decide) (by decide)
theorem dX8_felled_180 : DR cX8_felled 180 (.goto (-115)) 3 := dk_167 (bA_sl (a := 128) (j := 52) bkX8_felled_2 rfl) (bA_sl (a := 128) (j := 53) bkX8_felled_2 rfl) (bA_sl (a := 128) (j := 54) bkX8_felled_2 rfl) (by decide) (by decide)
theorem dX8_felled_183 : DR cX8_felled 183 (.iload_n 2) 1 := dk_28 (bA_sl (a := 128) (j := 55) bkX8_felled_2 rfl)
theorem dX8_felled_184 : DR cX8_felled 184 (.ifCond .ne 11) 3 := dk_154 (bA_sl (a := 128) (j := 56) bkX8_felled_2 rfl) (bA_sl (a := 128) (j := 57) bkX8_felled_2 rfl) (bA_sl (a := 128) (j := 58) bkX8_felled_2 rfl) (by decide) (by decide)
theorem dX8_felled_187 : DR cX8_felled 187 (.iload 5) 2 := dk_21 (bA_sl (a := 128) (j := 59) bkX8_felled_2 rfl) (bA_sl (a := 128) (j := 60) bkX8_felled_2 rfl) (by decide)
theorem dX8_felled_189 : DR cX8_felled 189 (.iload 4) 2 := dk_21 (bA_sl (a := 128) (j := 61) bkX8_felled_2 rfl) (bA_sl (a := 128) (j := 62) bkX8_felled_2 rfl) (by decide)
theorem dX8_felled_191 : DR cX8_felled 191 (.isub) 1 := dk_100 (bA_sl (a := 128) (j := 63) bkX8_felled_2 rfl)
theorem bkX8_felled_3 : ((cX8_felled.data.toList.drop 192).take 64).map UInt8.toNat = [167, 0, 5, 21, 6, 172] := by decide +kernel
theorem dX8_felled_192 : DR cX8_felled 192 (.goto 5) 3 := dk_167 (bA_sl (a := 192) (j := 0) bkX8_felled_3 rfl) (bA_sl (a := 192) (j := 1) bkX8_felled_3 rfl) (bA_sl (a := 192) (j := 2) bkX8_felled_3 rfl) (by decide) (by decide)
theorem dX8_felled_195 : DR cX8_felled 195 (.iload 6) 2 := dk_21 (bA_sl (a := 192) (j := 3) bkX8_felled_3 rfl) (bA_sl (a := 192) (j := 4) bkX8_felled_3 rfl) (by decide)
theorem dX8_felled_197 : DR cX8_felled 197 (.ireturn) 1 := dk_172 (bA_sl (a := 192) (j := 5) bkX8_felled_3 rfl)
theorem bkX8_soonest_0 : ((cX8_soonest.data.toList.drop 0).take 64).map UInt8.toNat = [27, 155, 0, 10, 27, 17, 39, 15, 164, 0, 6, 16, 253, 172, 42, 180, 0, 27, 180, 0, 161, 154, 0, 6, 16, 251, 172, 27, 154, 0, 5, 3, 172, 27, 42, 180, 0, 27, 42, 180, 0, 27, 180, 0, 112, 182, 0, 200, 164, 0, 5, 2, 172, 42, 180, 0, 58, 42, 180, 0, 27, 3, 2, 182] := by decide +kernel
theorem dX8_soonest_0 : DR cX8_soonest 0 (.iload_n 1) 1 := dk_27 (bA_sl (a := 0) (j := 0) bkX8_soonest_0 rfl)
theorem dX8_soonest_1 : DR cX8_soonest 1 (.ifCond .lt 10) 3 := dk_155 (bA_sl (a := 0) (j := 1) bkX8_soonest_0 rfl) (bA_sl (a := 0) (j := 2) bkX8_soonest_0 rfl) (bA_sl (a := 0) (j := 3) bkX8_soonest_0 rfl) (by decide) (by decide)
theorem dX8_soonest_4 : DR cX8_soonest 4 (.iload_n 1) 1 := dk_27 (bA_sl (a := 0) (j := 4) bkX8_soonest_0 rfl)
theorem dX8_soonest_5 : DR cX8_soonest 5 (.sipush 9999) 3 := dk_17 (bA_sl (a := 0) (j := 5) bkX8_soonest_0 rfl) (bA_sl (a := 0) (j := 6) bkX8_soonest_0 rfl) (bA_sl (a := 0) (j := 7) bkX8_soonest_0 rfl) (by decide) (by decide)
theorem dX8_soonest_8 : DR cX8_soonest 8 (.if_icmp .le 6) 3 := dk_164 (bA_sl (a := 0) (j := 8) bkX8_soonest_0 rfl) (bA_sl (a := 0) (j := 9) bkX8_soonest_0 rfl) (bA_sl (a := 0) (j := 10) bkX8_soonest_0 rfl) (by decide) (by decide)
theorem dX8_soonest_11 : DR cX8_soonest 11 (.bipush (-3)) 2 := dk_16 (bA_sl (a := 0) (j := 11) bkX8_soonest_0 rfl) (bA_sl (a := 0) (j := 12) bkX8_soonest_0 rfl) (by decide) (by decide)
theorem dX8_soonest_13 : DR cX8_soonest 13 (.ireturn) 1 := dk_172 (bA_sl (a := 0) (j := 13) bkX8_soonest_0 rfl)
theorem dX8_soonest_14 : DR cX8_soonest 14 (.aload_n 0) 1 := dk_42 (bA_sl (a := 0) (j := 14) bkX8_soonest_0 rfl)
theorem dX8_soonest_15 : DR cX8_soonest 15 (.getfield 27) 3 := dk_180 (bA_sl (a := 0) (j := 15) bkX8_soonest_0 rfl) (bA_sl (a := 0) (j := 16) bkX8_soonest_0 rfl) (bA_sl (a := 0) (j := 17) bkX8_soonest_0 rfl) (by decide) rfl
theorem dX8_soonest_18 : DR cX8_soonest 18 (.getfield 161) 3 := dk_180 (bA_sl (a := 0) (j := 18) bkX8_soonest_0 rfl) (bA_sl (a := 0) (j := 19) bkX8_soonest_0 rfl) (bA_sl (a := 0) (j := 20) bkX8_soonest_0 rfl) (by decide) rfl
theorem dX8_soonest_21 : DR cX8_soonest 21 (.ifCond .ne 6) 3 := dk_154 (bA_sl (a := 0) (j := 21) bkX8_soonest_0 rfl) (bA_sl (a := 0) (j := 22) bkX8_soonest_0 rfl) (bA_sl (a := 0) (j := 23) bkX8_soonest_0 rfl) (by decide) (by decide)
theorem dX8_soonest_24 : DR cX8_soonest 24 (.bipush (-5)) 2 := dk_16 (bA_sl (a := 0) (j := 24) bkX8_soonest_0 rfl) (bA_sl (a := 0) (j := 25) bkX8_soonest_0 rfl) (by decide) (by decide)
theorem dX8_soonest_26 : DR cX8_soonest 26 (.ireturn) 1 := dk_172 (bA_sl (a := 0) (j := 26) bkX8_soonest_0 rfl)
theorem dX8_soonest_27 : DR cX8_soonest 27 (.iload_n 1) 1 := dk_27 (bA_sl (a := 0) (j := 27) bkX8_soonest_0 rfl)
theorem dX8_soonest_28 : DR cX8_soonest 28 (.ifCond .ne 5) 3 := dk_154 (bA_sl (a := 0) (j := 28) bkX8_soonest_0 rfl) (bA_sl (a := 0) (j := 29) bkX8_soonest_0 rfl) (bA_sl (a := 0) (j := 30) bkX8_soonest_0 rfl) (by decide) (by decide)
theorem dX8_soonest_31 : DR cX8_soonest 31 (.iconst 0) 1 := dk_3 (bA_sl (a := 0) (j := 31) bkX8_soonest_0 rfl)
theorem dX8_soonest_32 : DR cX8_soonest 32 (.ireturn) 1 := dk_172 (bA_sl (a := 0) (j := 32) bkX8_soonest_0 rfl)
theorem dX8_soonest_33 : DR cX8_soonest 33 (.iload_n 1) 1 := dk_27 (bA_sl (a := 0) (j := 33) bkX8_soonest_0 rfl)
theorem dX8_soonest_34 : DR cX8_soonest 34 (.aload_n 0) 1 := dk_42 (bA_sl (a := 0) (j := 34) bkX8_soonest_0 rfl)
theorem dX8_soonest_35 : DR cX8_soonest 35 (.getfield 27) 3 := dk_180 (bA_sl (a := 0) (j := 35) bkX8_soonest_0 rfl) (bA_sl (a := 0) (j := 36) bkX8_soonest_0 rfl) (bA_sl (a := 0) (j := 37) bkX8_soonest_0 rfl) (by decide) rfl
theorem dX8_soonest_38 : DR cX8_soonest 38 (.aload_n 0) 1 := dk_42 (bA_sl (a := 0) (j := 38) bkX8_soonest_0 rfl)
theorem dX8_soonest_39 : DR cX8_soonest 39 (.getfield 27) 3 := dk_180 (bA_sl (a := 0) (j := 39) bkX8_soonest_0 rfl) (bA_sl (a := 0) (j := 40) bkX8_soonest_0 rfl) (bA_sl (a := 0) (j := 41) bkX8_soonest_0 rfl) (by decide) rfl
theorem dX8_soonest_42 : DR cX8_soonest 42 (.getfield 112) 3 := dk_180 (bA_sl (a := 0) (j := 42) bkX8_soonest_0 rfl) (bA_sl (a := 0) (j := 43) bkX8_soonest_0 rfl) (bA_sl (a := 0) (j := 44) bkX8_soonest_0 rfl) (by decide) rfl
theorem dX8_soonest_45 : DR cX8_soonest 45 (.invokevirtual 200) 3 := dk_182 (bA_sl (a := 0) (j := 45) bkX8_soonest_0 rfl) (bA_sl (a := 0) (j := 46) bkX8_soonest_0 rfl) (bA_sl (a := 0) (j := 47) bkX8_soonest_0 rfl) (by decide) rfl
theorem dX8_soonest_48 : DR cX8_soonest 48 (.if_icmp .le 5) 3 := dk_164 (bA_sl (a := 0) (j := 48) bkX8_soonest_0 rfl) (bA_sl (a := 0) (j := 49) bkX8_soonest_0 rfl) (bA_sl (a := 0) (j := 50) bkX8_soonest_0 rfl) (by decide) (by decide)
theorem dX8_soonest_51 : DR cX8_soonest 51 (.iconst (-1)) 1 := dk_2 (bA_sl (a := 0) (j := 51) bkX8_soonest_0 rfl)
theorem dX8_soonest_52 : DR cX8_soonest 52 (.ireturn) 1 := dk_172 (bA_sl (a := 0) (j := 52) bkX8_soonest_0 rfl)
theorem dX8_soonest_53 : DR cX8_soonest 53 (.aload_n 0) 1 := dk_42 (bA_sl (a := 0) (j := 53) bkX8_soonest_0 rfl)
theorem dX8_soonest_54 : DR cX8_soonest 54 (.getfield 58) 3 := dk_180 (bA_sl (a := 0) (j := 54) bkX8_soonest_0 rfl) (bA_sl (a := 0) (j := 55) bkX8_soonest_0 rfl) (bA_sl (a := 0) (j := 56) bkX8_soonest_0 rfl) (by decide) rfl
theorem dX8_soonest_57 : DR cX8_soonest 57 (.aload_n 0) 1 := dk_42 (bA_sl (a := 0) (j := 57) bkX8_soonest_0 rfl)
theorem dX8_soonest_58 : DR cX8_soonest 58 (.getfield 27) 3 := dk_180 (bA_sl (a := 0) (j := 58) bkX8_soonest_0 rfl) (bA_sl (a := 0) (j := 59) bkX8_soonest_0 rfl) (bA_sl (a := 0) (j := 60) bkX8_soonest_0 rfl) (by decide) rfl
theorem dX8_soonest_61 : DR cX8_soonest 61 (.iconst 0) 1 := dk_3 (bA_sl (a := 0) (j := 61) bkX8_soonest_0 rfl)
theorem dX8_soonest_62 : DR cX8_soonest 62 (.iconst (-1)) 1 := dk_2 (bA_sl (a := 0) (j := 62) bkX8_soonest_0 rfl)
theorem bkX8_soonest_1 : ((cX8_soonest.data.toList.drop 64).take 64).map UInt8.toNat = [1, 17, 42, 16, 8, 182, 0, 233, 61, 4, 62, 29, 28, 163, 0, 59, 42, 180, 0, 51, 42, 180, 0, 27, 180, 0, 161, 42, 180, 0, 27, 180, 0, 128, 29, 182, 1, 25, 42, 180, 0, 58, 42, 180, 0, 51, 29, 27, 4, 100, 182, 1, 21, 42, 180, 0, 58, 180, 0, 240, 27, 161, 0, 5] := by decide +kernel
theorem dX8_soonest_63 : DR cX8_soonest 63 (.invokevirtual 273) 3 := dk_182 (bA_sl (a := 0) (j := 63) bkX8_soonest_0 rfl) (bA_sl (a := 64) (j := 0) bkX8_soonest_1 rfl) (bA_sl (a := 64) (j := 1) bkX8_soonest_1 rfl) (by decide) rfl
theorem dX8_soonest_66 : DR cX8_soonest 66 (.aload_n 0) 1 := dk_42 (bA_sl (a := 64) (j := 2) bkX8_soonest_1 rfl)
theorem dX8_soonest_67 : DR cX8_soonest 67 (.bipush 8) 2 := dk_16 (bA_sl (a := 64) (j := 3) bkX8_soonest_1 rfl) (bA_sl (a := 64) (j := 4) bkX8_soonest_1 rfl) (by decide) (by decide)
theorem dX8_soonest_69 : DR cX8_soonest 69 (.invokevirtual 233) 3 := dk_182 (bA_sl (a := 64) (j := 5) bkX8_soonest_1 rfl) (bA_sl (a := 64) (j := 6) bkX8_soonest_1 rfl) (bA_sl (a := 64) (j := 7) bkX8_soonest_1 rfl) (by decide) rfl
theorem dX8_soonest_72 : DR cX8_soonest 72 (.istore_n 2) 1 := dk_61 (bA_sl (a := 64) (j := 8) bkX8_soonest_1 rfl)
theorem dX8_soonest_73 : DR cX8_soonest 73 (.iconst 1) 1 := dk_4 (bA_sl (a := 64) (j := 9) bkX8_soonest_1 rfl)
theorem dX8_soonest_74 : DR cX8_soonest 74 (.istore_n 3) 1 := dk_62 (bA_sl (a := 64) (j := 10) bkX8_soonest_1 rfl)
theorem dX8_soonest_75 : DR cX8_soonest 75 (.iload_n 3) 1 := dk_29 (bA_sl (a := 64) (j := 11) bkX8_soonest_1 rfl)
theorem dX8_soonest_76 : DR cX8_soonest 76 (.iload_n 2) 1 := dk_28 (bA_sl (a := 64) (j := 12) bkX8_soonest_1 rfl)
theorem dX8_soonest_77 : DR cX8_soonest 77 (.if_icmp .gt 59) 3 := dk_163 (bA_sl (a := 64) (j := 13) bkX8_soonest_1 rfl) (bA_sl (a := 64) (j := 14) bkX8_soonest_1 rfl) (bA_sl (a := 64) (j := 15) bkX8_soonest_1 rfl) (by decide) (by decide)
theorem dX8_soonest_80 : DR cX8_soonest 80 (.aload_n 0) 1 := dk_42 (bA_sl (a := 64) (j := 16) bkX8_soonest_1 rfl)
theorem dX8_soonest_81 : DR cX8_soonest 81 (.getfield 51) 3 := dk_180 (bA_sl (a := 64) (j := 17) bkX8_soonest_1 rfl) (bA_sl (a := 64) (j := 18) bkX8_soonest_1 rfl) (bA_sl (a := 64) (j := 19) bkX8_soonest_1 rfl) (by decide) rfl
theorem dX8_soonest_84 : DR cX8_soonest 84 (.aload_n 0) 1 := dk_42 (bA_sl (a := 64) (j := 20) bkX8_soonest_1 rfl)
theorem dX8_soonest_85 : DR cX8_soonest 85 (.getfield 27) 3 := dk_180 (bA_sl (a := 64) (j := 21) bkX8_soonest_1 rfl) (bA_sl (a := 64) (j := 22) bkX8_soonest_1 rfl) (bA_sl (a := 64) (j := 23) bkX8_soonest_1 rfl) (by decide) rfl
theorem dX8_soonest_88 : DR cX8_soonest 88 (.getfield 161) 3 := dk_180 (bA_sl (a := 64) (j := 24) bkX8_soonest_1 rfl) (bA_sl (a := 64) (j := 25) bkX8_soonest_1 rfl) (bA_sl (a := 64) (j := 26) bkX8_soonest_1 rfl) (by decide) rfl
theorem dX8_soonest_91 : DR cX8_soonest 91 (.aload_n 0) 1 := dk_42 (bA_sl (a := 64) (j := 27) bkX8_soonest_1 rfl)
theorem dX8_soonest_92 : DR cX8_soonest 92 (.getfield 27) 3 := dk_180 (bA_sl (a := 64) (j := 28) bkX8_soonest_1 rfl) (bA_sl (a := 64) (j := 29) bkX8_soonest_1 rfl) (bA_sl (a := 64) (j := 30) bkX8_soonest_1 rfl) (by decide) rfl
theorem dX8_soonest_95 : DR cX8_soonest 95 (.getfield 128) 3 := dk_180 (bA_sl (a := 64) (j := 31) bkX8_soonest_1 rfl) (bA_sl (a := 64) (j := 32) bkX8_soonest_1 rfl) (bA_sl (a := 64) (j := 33) bkX8_soonest_1 rfl) (by decide) rfl
theorem dX8_soonest_98 : DR cX8_soonest 98 (.iload_n 3) 1 := dk_29 (bA_sl (a := 64) (j := 34) bkX8_soonest_1 rfl)
theorem dX8_soonest_99 : DR cX8_soonest 99 (.invokevirtual 281) 3 := dk_182 (bA_sl (a := 64) (j := 35) bkX8_soonest_1 rfl) (bA_sl (a := 64) (j := 36) bkX8_soonest_1 rfl) (bA_sl (a := 64) (j := 37) bkX8_soonest_1 rfl) (by decide) rfl
theorem dX8_soonest_102 : DR cX8_soonest 102 (.aload_n 0) 1 := dk_42 (bA_sl (a := 64) (j := 38) bkX8_soonest_1 rfl)
theorem dX8_soonest_103 : DR cX8_soonest 103 (.getfield 58) 3 := dk_180 (bA_sl (a := 64) (j := 39) bkX8_soonest_1 rfl) (bA_sl (a := 64) (j := 40) bkX8_soonest_1 rfl) (bA_sl (a := 64) (j := 41) bkX8_soonest_1 rfl) (by decide) rfl
theorem dX8_soonest_106 : DR cX8_soonest 106 (.aload_n 0) 1 := dk_42 (bA_sl (a := 64) (j := 42) bkX8_soonest_1 rfl)
theorem dX8_soonest_107 : DR cX8_soonest 107 (.getfield 51) 3 := dk_180 (bA_sl (a := 64) (j := 43) bkX8_soonest_1 rfl) (bA_sl (a := 64) (j := 44) bkX8_soonest_1 rfl) (bA_sl (a := 64) (j := 45) bkX8_soonest_1 rfl) (by decide) rfl
theorem dX8_soonest_110 : DR cX8_soonest 110 (.iload_n 3) 1 := dk_29 (bA_sl (a := 64) (j := 46) bkX8_soonest_1 rfl)
theorem dX8_soonest_111 : DR cX8_soonest 111 (.iload_n 1) 1 := dk_27 (bA_sl (a := 64) (j := 47) bkX8_soonest_1 rfl)
theorem dX8_soonest_112 : DR cX8_soonest 112 (.iconst 1) 1 := dk_4 (bA_sl (a := 64) (j := 48) bkX8_soonest_1 rfl)
theorem dX8_soonest_113 : DR cX8_soonest 113 (.isub) 1 := dk_100 (bA_sl (a := 64) (j := 49) bkX8_soonest_1 rfl)
theorem dX8_soonest_114 : DR cX8_soonest 114 (.invokevirtual 277) 3 := dk_182 (bA_sl (a := 64) (j := 50) bkX8_soonest_1 rfl) (bA_sl (a := 64) (j := 51) bkX8_soonest_1 rfl) (bA_sl (a := 64) (j := 52) bkX8_soonest_1 rfl) (by decide) rfl
theorem dX8_soonest_117 : DR cX8_soonest 117 (.aload_n 0) 1 := dk_42 (bA_sl (a := 64) (j := 53) bkX8_soonest_1 rfl)
theorem dX8_soonest_118 : DR cX8_soonest 118 (.getfield 58) 3 := dk_180 (bA_sl (a := 64) (j := 54) bkX8_soonest_1 rfl) (bA_sl (a := 64) (j := 55) bkX8_soonest_1 rfl) (bA_sl (a := 64) (j := 56) bkX8_soonest_1 rfl) (by decide) rfl
theorem dX8_soonest_121 : DR cX8_soonest 121 (.getfield 240) 3 := dk_180 (bA_sl (a := 64) (j := 57) bkX8_soonest_1 rfl) (bA_sl (a := 64) (j := 58) bkX8_soonest_1 rfl) (bA_sl (a := 64) (j := 59) bkX8_soonest_1 rfl) (by decide) rfl
theorem dX8_soonest_124 : DR cX8_soonest 124 (.iload_n 1) 1 := dk_27 (bA_sl (a := 64) (j := 60) bkX8_soonest_1 rfl)
theorem dX8_soonest_125 : DR cX8_soonest 125 (.if_icmp .lt 5) 3 := dk_161 (bA_sl (a := 64) (j := 61) bkX8_soonest_1 rfl) (bA_sl (a := 64) (j := 62) bkX8_soonest_1 rfl) (bA_sl (a := 64) (j := 63) bkX8_soonest_1 rfl) (by decide) (by decide)
theorem bkX8_soonest_2 : ((cX8_soonest.data.toList.drop 128).take 64).map UInt8.toNat = [29, 172, 132, 3, 1, 167, 255, 198, 2, 172] := by decide +kernel
theorem dX8_soonest_128 : DR cX8_soonest 128 (.iload_n 3) 1 := dk_29 (bA_sl (a := 128) (j := 0) bkX8_soonest_2 rfl)
theorem dX8_soonest_129 : DR cX8_soonest 129 (.ireturn) 1 := dk_172 (bA_sl (a := 128) (j := 1) bkX8_soonest_2 rfl)
theorem dX8_soonest_130 : DR cX8_soonest 130 (.iinc 3 1) 3 := dk_132 (bA_sl (a := 128) (j := 2) bkX8_soonest_2 rfl) (bA_sl (a := 128) (j := 3) bkX8_soonest_2 rfl) (bA_sl (a := 128) (j := 4) bkX8_soonest_2 rfl) (by decide) (by decide)
theorem dX8_soonest_133 : DR cX8_soonest 133 (.goto (-58)) 3 := dk_167 (bA_sl (a := 128) (j := 5) bkX8_soonest_2 rfl) (bA_sl (a := 128) (j := 6) bkX8_soonest_2 rfl) (bA_sl (a := 128) (j := 7) bkX8_soonest_2 rfl) (by decide) (by decide)
theorem dX8_soonest_136 : DR cX8_soonest 136 (.iconst (-1)) 1 := dk_2 (bA_sl (a := 128) (j := 8) bkX8_soonest_2 rfl)
theorem dX8_soonest_137 : DR cX8_soonest 137 (.ireturn) 1 := dk_172 (bA_sl (a := 128) (j := 9) bkX8_soonest_2 rfl)
theorem bkX8_dark_0 : ((cX8_dark.data.toList.drop 0).take 64).map UInt8.toNat = [3, 60, 3, 61, 28, 42, 180, 0, 27, 180, 0, 161, 162, 0, 20, 27, 42, 180, 0, 27, 28, 182, 0, 149, 128, 60, 132, 2, 1, 167, 255, 231, 42, 180, 0, 27, 182, 1, 28, 27, 2, 130, 126, 172] := by decide +kernel
theorem dX8_dark_0 : DR cX8_dark 0 (.iconst 0) 1 := dk_3 (bA_sl (a := 0) (j := 0) bkX8_dark_0 rfl)
theorem dX8_dark_1 : DR cX8_dark 1 (.istore_n 1) 1 := dk_60 (bA_sl (a := 0) (j := 1) bkX8_dark_0 rfl)
theorem dX8_dark_2 : DR cX8_dark 2 (.iconst 0) 1 := dk_3 (bA_sl (a := 0) (j := 2) bkX8_dark_0 rfl)
theorem dX8_dark_3 : DR cX8_dark 3 (.istore_n 2) 1 := dk_61 (bA_sl (a := 0) (j := 3) bkX8_dark_0 rfl)
theorem dX8_dark_4 : DR cX8_dark 4 (.iload_n 2) 1 := dk_28 (bA_sl (a := 0) (j := 4) bkX8_dark_0 rfl)
theorem dX8_dark_5 : DR cX8_dark 5 (.aload_n 0) 1 := dk_42 (bA_sl (a := 0) (j := 5) bkX8_dark_0 rfl)
theorem dX8_dark_6 : DR cX8_dark 6 (.getfield 27) 3 := dk_180 (bA_sl (a := 0) (j := 6) bkX8_dark_0 rfl) (bA_sl (a := 0) (j := 7) bkX8_dark_0 rfl) (bA_sl (a := 0) (j := 8) bkX8_dark_0 rfl) (by decide) rfl
theorem dX8_dark_9 : DR cX8_dark 9 (.getfield 161) 3 := dk_180 (bA_sl (a := 0) (j := 9) bkX8_dark_0 rfl) (bA_sl (a := 0) (j := 10) bkX8_dark_0 rfl) (bA_sl (a := 0) (j := 11) bkX8_dark_0 rfl) (by decide) rfl
theorem dX8_dark_12 : DR cX8_dark 12 (.if_icmp .ge 20) 3 := dk_162 (bA_sl (a := 0) (j := 12) bkX8_dark_0 rfl) (bA_sl (a := 0) (j := 13) bkX8_dark_0 rfl) (bA_sl (a := 0) (j := 14) bkX8_dark_0 rfl) (by decide) (by decide)
theorem dX8_dark_15 : DR cX8_dark 15 (.iload_n 1) 1 := dk_27 (bA_sl (a := 0) (j := 15) bkX8_dark_0 rfl)
theorem dX8_dark_16 : DR cX8_dark 16 (.aload_n 0) 1 := dk_42 (bA_sl (a := 0) (j := 16) bkX8_dark_0 rfl)
theorem dX8_dark_17 : DR cX8_dark 17 (.getfield 27) 3 := dk_180 (bA_sl (a := 0) (j := 17) bkX8_dark_0 rfl) (bA_sl (a := 0) (j := 18) bkX8_dark_0 rfl) (bA_sl (a := 0) (j := 19) bkX8_dark_0 rfl) (by decide) rfl
theorem dX8_dark_20 : DR cX8_dark 20 (.iload_n 2) 1 := dk_28 (bA_sl (a := 0) (j := 20) bkX8_dark_0 rfl)
theorem dX8_dark_21 : DR cX8_dark 21 (.invokevirtual 149) 3 := dk_182 (bA_sl (a := 0) (j := 21) bkX8_dark_0 rfl) (bA_sl (a := 0) (j := 22) bkX8_dark_0 rfl) (bA_sl (a := 0) (j := 23) bkX8_dark_0 rfl) (by decide) rfl
theorem dX8_dark_24 : DR cX8_dark 24 (.ior) 1 := dk_128 (bA_sl (a := 0) (j := 24) bkX8_dark_0 rfl)
theorem dX8_dark_25 : DR cX8_dark 25 (.istore_n 1) 1 := dk_60 (bA_sl (a := 0) (j := 25) bkX8_dark_0 rfl)
theorem dX8_dark_26 : DR cX8_dark 26 (.iinc 2 1) 3 := dk_132 (bA_sl (a := 0) (j := 26) bkX8_dark_0 rfl) (bA_sl (a := 0) (j := 27) bkX8_dark_0 rfl) (bA_sl (a := 0) (j := 28) bkX8_dark_0 rfl) (by decide) (by decide)
theorem dX8_dark_29 : DR cX8_dark 29 (.goto (-25)) 3 := dk_167 (bA_sl (a := 0) (j := 29) bkX8_dark_0 rfl) (bA_sl (a := 0) (j := 30) bkX8_dark_0 rfl) (bA_sl (a := 0) (j := 31) bkX8_dark_0 rfl) (by decide) (by decide)
theorem dX8_dark_32 : DR cX8_dark 32 (.aload_n 0) 1 := dk_42 (bA_sl (a := 0) (j := 32) bkX8_dark_0 rfl)
theorem dX8_dark_33 : DR cX8_dark 33 (.getfield 27) 3 := dk_180 (bA_sl (a := 0) (j := 33) bkX8_dark_0 rfl) (bA_sl (a := 0) (j := 34) bkX8_dark_0 rfl) (bA_sl (a := 0) (j := 35) bkX8_dark_0 rfl) (by decide) rfl
theorem dX8_dark_36 : DR cX8_dark 36 (.invokevirtual 284) 3 := dk_182 (bA_sl (a := 0) (j := 36) bkX8_dark_0 rfl) (bA_sl (a := 0) (j := 37) bkX8_dark_0 rfl) (bA_sl (a := 0) (j := 38) bkX8_dark_0 rfl) (by decide) rfl
theorem dX8_dark_39 : DR cX8_dark 39 (.iload_n 1) 1 := dk_27 (bA_sl (a := 0) (j := 39) bkX8_dark_0 rfl)
theorem dX8_dark_40 : DR cX8_dark 40 (.iconst (-1)) 1 := dk_2 (bA_sl (a := 0) (j := 40) bkX8_dark_0 rfl)
theorem dX8_dark_41 : DR cX8_dark 41 (.ixor) 1 := dk_130 (bA_sl (a := 0) (j := 41) bkX8_dark_0 rfl)
theorem dX8_dark_42 : DR cX8_dark 42 (.iand) 1 := dk_126 (bA_sl (a := 0) (j := 42) bkX8_dark_0 rfl)
theorem dX8_dark_43 : DR cX8_dark 43 (.ireturn) 1 := dk_172 (bA_sl (a := 0) (j := 43) bkX8_dark_0 rfl)
theorem bkX8_ends_0 : ((cX8_ends.data.toList.drop 0).take 64).map UInt8.toNat = [42, 4, 27, 16, 6, 182, 0, 229, 61, 28, 153, 0, 5, 28, 172, 42, 27, 182, 0, 233, 62, 42, 180, 0, 51, 42, 180, 0, 27, 180, 0, 161, 42, 180, 0, 27, 180, 0, 128, 29, 182, 1, 25, 42, 180, 0, 58, 42, 180, 0, 27, 3, 2, 182, 1, 17, 42, 180, 0, 72, 42, 180, 0, 58] := by decide +kernel
theorem dX8_ends_0 : DR cX8_ends 0 (.aload_n 0) 1 := dk_42 (bA_sl (a := 0) (j := 0) bkX8_ends_0 rfl)
theorem dX8_ends_1 : DR cX8_ends 1 (.iconst 1) 1 := dk_4 (bA_sl (a := 0) (j := 1) bkX8_ends_0 rfl)
theorem dX8_ends_2 : DR cX8_ends 2 (.iload_n 1) 1 := dk_27 (bA_sl (a := 0) (j := 2) bkX8_ends_0 rfl)
theorem dX8_ends_3 : DR cX8_ends 3 (.bipush 6) 2 := dk_16 (bA_sl (a := 0) (j := 3) bkX8_ends_0 rfl) (bA_sl (a := 0) (j := 4) bkX8_ends_0 rfl) (by decide) (by decide)
theorem dX8_ends_5 : DR cX8_ends 5 (.invokevirtual 229) 3 := dk_182 (bA_sl (a := 0) (j := 5) bkX8_ends_0 rfl) (bA_sl (a := 0) (j := 6) bkX8_ends_0 rfl) (bA_sl (a := 0) (j := 7) bkX8_ends_0 rfl) (by decide) rfl
theorem dX8_ends_8 : DR cX8_ends 8 (.istore_n 2) 1 := dk_61 (bA_sl (a := 0) (j := 8) bkX8_ends_0 rfl)
theorem dX8_ends_9 : DR cX8_ends 9 (.iload_n 2) 1 := dk_28 (bA_sl (a := 0) (j := 9) bkX8_ends_0 rfl)
theorem dX8_ends_10 : DR cX8_ends 10 (.ifCond .eq 5) 3 := dk_153 (bA_sl (a := 0) (j := 10) bkX8_ends_0 rfl) (bA_sl (a := 0) (j := 11) bkX8_ends_0 rfl) (bA_sl (a := 0) (j := 12) bkX8_ends_0 rfl) (by decide) (by decide)
theorem dX8_ends_13 : DR cX8_ends 13 (.iload_n 2) 1 := dk_28 (bA_sl (a := 0) (j := 13) bkX8_ends_0 rfl)
theorem dX8_ends_14 : DR cX8_ends 14 (.ireturn) 1 := dk_172 (bA_sl (a := 0) (j := 14) bkX8_ends_0 rfl)
theorem dX8_ends_15 : DR cX8_ends 15 (.aload_n 0) 1 := dk_42 (bA_sl (a := 0) (j := 15) bkX8_ends_0 rfl)
theorem dX8_ends_16 : DR cX8_ends 16 (.iload_n 1) 1 := dk_27 (bA_sl (a := 0) (j := 16) bkX8_ends_0 rfl)
theorem dX8_ends_17 : DR cX8_ends 17 (.invokevirtual 233) 3 := dk_182 (bA_sl (a := 0) (j := 17) bkX8_ends_0 rfl) (bA_sl (a := 0) (j := 18) bkX8_ends_0 rfl) (bA_sl (a := 0) (j := 19) bkX8_ends_0 rfl) (by decide) rfl
theorem dX8_ends_20 : DR cX8_ends 20 (.istore_n 3) 1 := dk_62 (bA_sl (a := 0) (j := 20) bkX8_ends_0 rfl)
theorem dX8_ends_21 : DR cX8_ends 21 (.aload_n 0) 1 := dk_42 (bA_sl (a := 0) (j := 21) bkX8_ends_0 rfl)
theorem dX8_ends_22 : DR cX8_ends 22 (.getfield 51) 3 := dk_180 (bA_sl (a := 0) (j := 22) bkX8_ends_0 rfl) (bA_sl (a := 0) (j := 23) bkX8_ends_0 rfl) (bA_sl (a := 0) (j := 24) bkX8_ends_0 rfl) (by decide) rfl
theorem dX8_ends_25 : DR cX8_ends 25 (.aload_n 0) 1 := dk_42 (bA_sl (a := 0) (j := 25) bkX8_ends_0 rfl)
theorem dX8_ends_26 : DR cX8_ends 26 (.getfield 27) 3 := dk_180 (bA_sl (a := 0) (j := 26) bkX8_ends_0 rfl) (bA_sl (a := 0) (j := 27) bkX8_ends_0 rfl) (bA_sl (a := 0) (j := 28) bkX8_ends_0 rfl) (by decide) rfl
theorem dX8_ends_29 : DR cX8_ends 29 (.getfield 161) 3 := dk_180 (bA_sl (a := 0) (j := 29) bkX8_ends_0 rfl) (bA_sl (a := 0) (j := 30) bkX8_ends_0 rfl) (bA_sl (a := 0) (j := 31) bkX8_ends_0 rfl) (by decide) rfl
theorem dX8_ends_32 : DR cX8_ends 32 (.aload_n 0) 1 := dk_42 (bA_sl (a := 0) (j := 32) bkX8_ends_0 rfl)
theorem dX8_ends_33 : DR cX8_ends 33 (.getfield 27) 3 := dk_180 (bA_sl (a := 0) (j := 33) bkX8_ends_0 rfl) (bA_sl (a := 0) (j := 34) bkX8_ends_0 rfl) (bA_sl (a := 0) (j := 35) bkX8_ends_0 rfl) (by decide) rfl
theorem dX8_ends_36 : DR cX8_ends 36 (.getfield 128) 3 := dk_180 (bA_sl (a := 0) (j := 36) bkX8_ends_0 rfl) (bA_sl (a := 0) (j := 37) bkX8_ends_0 rfl) (bA_sl (a := 0) (j := 38) bkX8_ends_0 rfl) (by decide) rfl
theorem dX8_ends_39 : DR cX8_ends 39 (.iload_n 3) 1 := dk_29 (bA_sl (a := 0) (j := 39) bkX8_ends_0 rfl)
theorem dX8_ends_40 : DR cX8_ends 40 (.invokevirtual 281) 3 := dk_182 (bA_sl (a := 0) (j := 40) bkX8_ends_0 rfl) (bA_sl (a := 0) (j := 41) bkX8_ends_0 rfl) (bA_sl (a := 0) (j := 42) bkX8_ends_0 rfl) (by decide) rfl
theorem dX8_ends_43 : DR cX8_ends 43 (.aload_n 0) 1 := dk_42 (bA_sl (a := 0) (j := 43) bkX8_ends_0 rfl)
theorem dX8_ends_44 : DR cX8_ends 44 (.getfield 58) 3 := dk_180 (bA_sl (a := 0) (j := 44) bkX8_ends_0 rfl) (bA_sl (a := 0) (j := 45) bkX8_ends_0 rfl) (bA_sl (a := 0) (j := 46) bkX8_ends_0 rfl) (by decide) rfl
theorem dX8_ends_47 : DR cX8_ends 47 (.aload_n 0) 1 := dk_42 (bA_sl (a := 0) (j := 47) bkX8_ends_0 rfl)
theorem dX8_ends_48 : DR cX8_ends 48 (.getfield 27) 3 := dk_180 (bA_sl (a := 0) (j := 48) bkX8_ends_0 rfl) (bA_sl (a := 0) (j := 49) bkX8_ends_0 rfl) (bA_sl (a := 0) (j := 50) bkX8_ends_0 rfl) (by decide) rfl
theorem dX8_ends_51 : DR cX8_ends 51 (.iconst 0) 1 := dk_3 (bA_sl (a := 0) (j := 51) bkX8_ends_0 rfl)
theorem dX8_ends_52 : DR cX8_ends 52 (.iconst (-1)) 1 := dk_2 (bA_sl (a := 0) (j := 52) bkX8_ends_0 rfl)
theorem dX8_ends_53 : DR cX8_ends 53 (.invokevirtual 273) 3 := dk_182 (bA_sl (a := 0) (j := 53) bkX8_ends_0 rfl) (bA_sl (a := 0) (j := 54) bkX8_ends_0 rfl) (bA_sl (a := 0) (j := 55) bkX8_ends_0 rfl) (by decide) rfl
theorem dX8_ends_56 : DR cX8_ends 56 (.aload_n 0) 1 := dk_42 (bA_sl (a := 0) (j := 56) bkX8_ends_0 rfl)
theorem dX8_ends_57 : DR cX8_ends 57 (.getfield 72) 3 := dk_180 (bA_sl (a := 0) (j := 57) bkX8_ends_0 rfl) (bA_sl (a := 0) (j := 58) bkX8_ends_0 rfl) (bA_sl (a := 0) (j := 59) bkX8_ends_0 rfl) (by decide) rfl
theorem dX8_ends_60 : DR cX8_ends 60 (.aload_n 0) 1 := dk_42 (bA_sl (a := 0) (j := 60) bkX8_ends_0 rfl)
theorem dX8_ends_61 : DR cX8_ends 61 (.getfield 58) 3 := dk_180 (bA_sl (a := 0) (j := 61) bkX8_ends_0 rfl) (bA_sl (a := 0) (j := 62) bkX8_ends_0 rfl) (bA_sl (a := 0) (j := 63) bkX8_ends_0 rfl) (by decide) rfl
theorem bkX8_ends_1 : ((cX8_ends.data.toList.drop 64).take 64).map UInt8.toNat = [42, 180, 0, 51, 29, 182, 1, 31, 172] := by decide +kernel
theorem dX8_ends_64 : DR cX8_ends 64 (.aload_n 0) 1 := dk_42 (bA_sl (a := 64) (j := 0) bkX8_ends_1 rfl)
theorem dX8_ends_65 : DR cX8_ends 65 (.getfield 51) 3 := dk_180 (bA_sl (a := 64) (j := 1) bkX8_ends_1 rfl) (bA_sl (a := 64) (j := 2) bkX8_ends_1 rfl) (bA_sl (a := 64) (j := 3) bkX8_ends_1 rfl) (by decide) rfl
theorem dX8_ends_68 : DR cX8_ends 68 (.iload_n 3) 1 := dk_29 (bA_sl (a := 64) (j := 4) bkX8_ends_1 rfl)
theorem dX8_ends_69 : DR cX8_ends 69 (.invokevirtual 287) 3 := dk_182 (bA_sl (a := 64) (j := 5) bkX8_ends_1 rfl) (bA_sl (a := 64) (j := 6) bkX8_ends_1 rfl) (bA_sl (a := 64) (j := 7) bkX8_ends_1 rfl) (by decide) rfl
theorem dX8_ends_72 : DR cX8_ends 72 (.ireturn) 1 := dk_172 (bA_sl (a := 64) (j := 8) bkX8_ends_1 rfl)
theorem bkX8_halts_0 : ((cX8_halts.data.toList.drop 0).take 64).map UInt8.toNat = [42, 180, 0, 27, 27, 182, 0, 158, 154, 0, 6, 16, 253, 172, 42, 180, 0, 79, 42, 180, 0, 27, 27, 182, 1, 35, 172] := by decide +kernel
theorem dX8_halts_0 : DR cX8_halts 0 (.aload_n 0) 1 := dk_42 (bA_sl (a := 0) (j := 0) bkX8_halts_0 rfl)
theorem dX8_halts_1 : DR cX8_halts 1 (.getfield 27) 3 := dk_180 (bA_sl (a := 0) (j := 1) bkX8_halts_0 rfl) (bA_sl (a := 0) (j := 2) bkX8_halts_0 rfl) (bA_sl (a := 0) (j := 3) bkX8_halts_0 rfl) (by decide) rfl
theorem dX8_halts_4 : DR cX8_halts 4 (.iload_n 1) 1 := dk_27 (bA_sl (a := 0) (j := 4) bkX8_halts_0 rfl)
theorem dX8_halts_5 : DR cX8_halts 5 (.invokevirtual 158) 3 := dk_182 (bA_sl (a := 0) (j := 5) bkX8_halts_0 rfl) (bA_sl (a := 0) (j := 6) bkX8_halts_0 rfl) (bA_sl (a := 0) (j := 7) bkX8_halts_0 rfl) (by decide) rfl
theorem dX8_halts_8 : DR cX8_halts 8 (.ifCond .ne 6) 3 := dk_154 (bA_sl (a := 0) (j := 8) bkX8_halts_0 rfl) (bA_sl (a := 0) (j := 9) bkX8_halts_0 rfl) (bA_sl (a := 0) (j := 10) bkX8_halts_0 rfl) (by decide) (by decide)
theorem dX8_halts_11 : DR cX8_halts 11 (.bipush (-3)) 2 := dk_16 (bA_sl (a := 0) (j := 11) bkX8_halts_0 rfl) (bA_sl (a := 0) (j := 12) bkX8_halts_0 rfl) (by decide) (by decide)
theorem dX8_halts_13 : DR cX8_halts 13 (.ireturn) 1 := dk_172 (bA_sl (a := 0) (j := 13) bkX8_halts_0 rfl)
theorem dX8_halts_14 : DR cX8_halts 14 (.aload_n 0) 1 := dk_42 (bA_sl (a := 0) (j := 14) bkX8_halts_0 rfl)
theorem dX8_halts_15 : DR cX8_halts 15 (.getfield 79) 3 := dk_180 (bA_sl (a := 0) (j := 15) bkX8_halts_0 rfl) (bA_sl (a := 0) (j := 16) bkX8_halts_0 rfl) (bA_sl (a := 0) (j := 17) bkX8_halts_0 rfl) (by decide) rfl
theorem dX8_halts_18 : DR cX8_halts 18 (.aload_n 0) 1 := dk_42 (bA_sl (a := 0) (j := 18) bkX8_halts_0 rfl)
theorem dX8_halts_19 : DR cX8_halts 19 (.getfield 27) 3 := dk_180 (bA_sl (a := 0) (j := 19) bkX8_halts_0 rfl) (bA_sl (a := 0) (j := 20) bkX8_halts_0 rfl) (bA_sl (a := 0) (j := 21) bkX8_halts_0 rfl) (by decide) rfl
theorem dX8_halts_22 : DR cX8_halts 22 (.iload_n 1) 1 := dk_27 (bA_sl (a := 0) (j := 22) bkX8_halts_0 rfl)
theorem dX8_halts_23 : DR cX8_halts 23 (.invokevirtual 291) 3 := dk_182 (bA_sl (a := 0) (j := 23) bkX8_halts_0 rfl) (bA_sl (a := 0) (j := 24) bkX8_halts_0 rfl) (bA_sl (a := 0) (j := 25) bkX8_halts_0 rfl) (by decide) rfl
theorem dX8_halts_26 : DR cX8_halts 26 (.ireturn) 1 := dk_172 (bA_sl (a := 0) (j := 26) bkX8_halts_0 rfl)
theorem bkX8_tour_0 : ((cX8_tour.data.toList.drop 0).take 64).map UInt8.toNat = [42, 180, 0, 27, 27, 182, 0, 158, 154, 0, 6, 16, 253, 172, 42, 180, 0, 79, 42, 180, 0, 27, 27, 182, 1, 35, 61, 28, 2, 159, 0, 7, 28, 154, 0, 5, 28, 172, 42, 180, 0, 27, 180, 0, 128, 28, 184, 1, 39, 184, 0, 211, 62, 42, 180, 0, 27, 180, 0, 128, 16, 31, 28, 184] := by decide +kernel
theorem dX8_tour_0 : DR cX8_tour 0 (.aload_n 0) 1 := dk_42 (bA_sl (a := 0) (j := 0) bkX8_tour_0 rfl)
theorem dX8_tour_1 : DR cX8_tour 1 (.getfield 27) 3 := dk_180 (bA_sl (a := 0) (j := 1) bkX8_tour_0 rfl) (bA_sl (a := 0) (j := 2) bkX8_tour_0 rfl) (bA_sl (a := 0) (j := 3) bkX8_tour_0 rfl) (by decide) rfl
theorem dX8_tour_4 : DR cX8_tour 4 (.iload_n 1) 1 := dk_27 (bA_sl (a := 0) (j := 4) bkX8_tour_0 rfl)
theorem dX8_tour_5 : DR cX8_tour 5 (.invokevirtual 158) 3 := dk_182 (bA_sl (a := 0) (j := 5) bkX8_tour_0 rfl) (bA_sl (a := 0) (j := 6) bkX8_tour_0 rfl) (bA_sl (a := 0) (j := 7) bkX8_tour_0 rfl) (by decide) rfl
theorem dX8_tour_8 : DR cX8_tour 8 (.ifCond .ne 6) 3 := dk_154 (bA_sl (a := 0) (j := 8) bkX8_tour_0 rfl) (bA_sl (a := 0) (j := 9) bkX8_tour_0 rfl) (bA_sl (a := 0) (j := 10) bkX8_tour_0 rfl) (by decide) (by decide)
theorem dX8_tour_11 : DR cX8_tour 11 (.bipush (-3)) 2 := dk_16 (bA_sl (a := 0) (j := 11) bkX8_tour_0 rfl) (bA_sl (a := 0) (j := 12) bkX8_tour_0 rfl) (by decide) (by decide)
theorem dX8_tour_13 : DR cX8_tour 13 (.ireturn) 1 := dk_172 (bA_sl (a := 0) (j := 13) bkX8_tour_0 rfl)
theorem dX8_tour_14 : DR cX8_tour 14 (.aload_n 0) 1 := dk_42 (bA_sl (a := 0) (j := 14) bkX8_tour_0 rfl)
theorem dX8_tour_15 : DR cX8_tour 15 (.getfield 79) 3 := dk_180 (bA_sl (a := 0) (j := 15) bkX8_tour_0 rfl) (bA_sl (a := 0) (j := 16) bkX8_tour_0 rfl) (bA_sl (a := 0) (j := 17) bkX8_tour_0 rfl) (by decide) rfl
theorem dX8_tour_18 : DR cX8_tour 18 (.aload_n 0) 1 := dk_42 (bA_sl (a := 0) (j := 18) bkX8_tour_0 rfl)
theorem dX8_tour_19 : DR cX8_tour 19 (.getfield 27) 3 := dk_180 (bA_sl (a := 0) (j := 19) bkX8_tour_0 rfl) (bA_sl (a := 0) (j := 20) bkX8_tour_0 rfl) (bA_sl (a := 0) (j := 21) bkX8_tour_0 rfl) (by decide) rfl
theorem dX8_tour_22 : DR cX8_tour 22 (.iload_n 1) 1 := dk_27 (bA_sl (a := 0) (j := 22) bkX8_tour_0 rfl)
theorem dX8_tour_23 : DR cX8_tour 23 (.invokevirtual 291) 3 := dk_182 (bA_sl (a := 0) (j := 23) bkX8_tour_0 rfl) (bA_sl (a := 0) (j := 24) bkX8_tour_0 rfl) (bA_sl (a := 0) (j := 25) bkX8_tour_0 rfl) (by decide) rfl
theorem dX8_tour_26 : DR cX8_tour 26 (.istore_n 2) 1 := dk_61 (bA_sl (a := 0) (j := 26) bkX8_tour_0 rfl)
theorem dX8_tour_27 : DR cX8_tour 27 (.iload_n 2) 1 := dk_28 (bA_sl (a := 0) (j := 27) bkX8_tour_0 rfl)
theorem dX8_tour_28 : DR cX8_tour 28 (.iconst (-1)) 1 := dk_2 (bA_sl (a := 0) (j := 28) bkX8_tour_0 rfl)
theorem dX8_tour_29 : DR cX8_tour 29 (.if_icmp .eq 7) 3 := dk_159 (bA_sl (a := 0) (j := 29) bkX8_tour_0 rfl) (bA_sl (a := 0) (j := 30) bkX8_tour_0 rfl) (bA_sl (a := 0) (j := 31) bkX8_tour_0 rfl) (by decide) (by decide)
theorem dX8_tour_32 : DR cX8_tour 32 (.iload_n 2) 1 := dk_28 (bA_sl (a := 0) (j := 32) bkX8_tour_0 rfl)
theorem dX8_tour_33 : DR cX8_tour 33 (.ifCond .ne 5) 3 := dk_154 (bA_sl (a := 0) (j := 33) bkX8_tour_0 rfl) (bA_sl (a := 0) (j := 34) bkX8_tour_0 rfl) (bA_sl (a := 0) (j := 35) bkX8_tour_0 rfl) (by decide) (by decide)
theorem dX8_tour_36 : DR cX8_tour 36 (.iload_n 2) 1 := dk_28 (bA_sl (a := 0) (j := 36) bkX8_tour_0 rfl)
theorem dX8_tour_37 : DR cX8_tour 37 (.ireturn) 1 := dk_172 (bA_sl (a := 0) (j := 37) bkX8_tour_0 rfl)
theorem dX8_tour_38 : DR cX8_tour 38 (.aload_n 0) 1 := dk_42 (bA_sl (a := 0) (j := 38) bkX8_tour_0 rfl)
theorem dX8_tour_39 : DR cX8_tour 39 (.getfield 27) 3 := dk_180 (bA_sl (a := 0) (j := 39) bkX8_tour_0 rfl) (bA_sl (a := 0) (j := 40) bkX8_tour_0 rfl) (bA_sl (a := 0) (j := 41) bkX8_tour_0 rfl) (by decide) rfl
theorem dX8_tour_42 : DR cX8_tour 42 (.getfield 128) 3 := dk_180 (bA_sl (a := 0) (j := 42) bkX8_tour_0 rfl) (bA_sl (a := 0) (j := 43) bkX8_tour_0 rfl) (bA_sl (a := 0) (j := 44) bkX8_tour_0 rfl) (by decide) rfl
theorem dX8_tour_45 : DR cX8_tour 45 (.iload_n 2) 1 := dk_28 (bA_sl (a := 0) (j := 45) bkX8_tour_0 rfl)
theorem dX8_tour_46 : DR cX8_tour 46 (.invokestatic 295) 3 := dk_184 (bA_sl (a := 0) (j := 46) bkX8_tour_0 rfl) (bA_sl (a := 0) (j := 47) bkX8_tour_0 rfl) (bA_sl (a := 0) (j := 48) bkX8_tour_0 rfl) (by decide) rfl
theorem dX8_tour_49 : DR cX8_tour 49 (.invokestatic 211) 3 := dk_184 (bA_sl (a := 0) (j := 49) bkX8_tour_0 rfl) (bA_sl (a := 0) (j := 50) bkX8_tour_0 rfl) (bA_sl (a := 0) (j := 51) bkX8_tour_0 rfl) (by decide) rfl
theorem dX8_tour_52 : DR cX8_tour 52 (.istore_n 3) 1 := dk_62 (bA_sl (a := 0) (j := 52) bkX8_tour_0 rfl)
theorem dX8_tour_53 : DR cX8_tour 53 (.aload_n 0) 1 := dk_42 (bA_sl (a := 0) (j := 53) bkX8_tour_0 rfl)
theorem dX8_tour_54 : DR cX8_tour 54 (.getfield 27) 3 := dk_180 (bA_sl (a := 0) (j := 54) bkX8_tour_0 rfl) (bA_sl (a := 0) (j := 55) bkX8_tour_0 rfl) (bA_sl (a := 0) (j := 56) bkX8_tour_0 rfl) (by decide) rfl
theorem dX8_tour_57 : DR cX8_tour 57 (.getfield 128) 3 := dk_180 (bA_sl (a := 0) (j := 57) bkX8_tour_0 rfl) (bA_sl (a := 0) (j := 58) bkX8_tour_0 rfl) (bA_sl (a := 0) (j := 59) bkX8_tour_0 rfl) (by decide) rfl
theorem dX8_tour_60 : DR cX8_tour 60 (.bipush 31) 2 := dk_16 (bA_sl (a := 0) (j := 60) bkX8_tour_0 rfl) (bA_sl (a := 0) (j := 61) bkX8_tour_0 rfl) (by decide) (by decide)
theorem dX8_tour_62 : DR cX8_tour 62 (.iload_n 2) 1 := dk_28 (bA_sl (a := 0) (j := 62) bkX8_tour_0 rfl)
theorem bkX8_tour_1 : ((cX8_tour.data.toList.drop 64).take 64).map UInt8.toNat = [1, 44, 100, 184, 1, 47, 54, 4, 21, 4, 29, 100, 42, 180, 0, 27, 180, 0, 128, 29, 100, 21, 4, 42, 180, 0, 27, 180, 0, 128, 100, 184, 0, 211, 96, 172] := by decide +kernel
theorem dX8_tour_63 : DR cX8_tour 63 (.invokestatic 300) 3 := dk_184 (bA_sl (a := 0) (j := 63) bkX8_tour_0 rfl) (bA_sl (a := 64) (j := 0) bkX8_tour_1 rfl) (bA_sl (a := 64) (j := 1) bkX8_tour_1 rfl) (by decide) rfl
theorem dX8_tour_66 : DR cX8_tour 66 (.isub) 1 := dk_100 (bA_sl (a := 64) (j := 2) bkX8_tour_1 rfl)
theorem dX8_tour_67 : DR cX8_tour 67 (.invokestatic 303) 3 := dk_184 (bA_sl (a := 64) (j := 3) bkX8_tour_1 rfl) (bA_sl (a := 64) (j := 4) bkX8_tour_1 rfl) (bA_sl (a := 64) (j := 5) bkX8_tour_1 rfl) (by decide) rfl
theorem dX8_tour_70 : DR cX8_tour 70 (.istore 4) 2 := dk_54 (bA_sl (a := 64) (j := 6) bkX8_tour_1 rfl) (bA_sl (a := 64) (j := 7) bkX8_tour_1 rfl) (by decide)
theorem dX8_tour_72 : DR cX8_tour 72 (.iload 4) 2 := dk_21 (bA_sl (a := 64) (j := 8) bkX8_tour_1 rfl) (bA_sl (a := 64) (j := 9) bkX8_tour_1 rfl) (by decide)
theorem dX8_tour_74 : DR cX8_tour 74 (.iload_n 3) 1 := dk_29 (bA_sl (a := 64) (j := 10) bkX8_tour_1 rfl)
theorem dX8_tour_75 : DR cX8_tour 75 (.isub) 1 := dk_100 (bA_sl (a := 64) (j := 11) bkX8_tour_1 rfl)
theorem dX8_tour_76 : DR cX8_tour 76 (.aload_n 0) 1 := dk_42 (bA_sl (a := 64) (j := 12) bkX8_tour_1 rfl)
theorem dX8_tour_77 : DR cX8_tour 77 (.getfield 27) 3 := dk_180 (bA_sl (a := 64) (j := 13) bkX8_tour_1 rfl) (bA_sl (a := 64) (j := 14) bkX8_tour_1 rfl) (bA_sl (a := 64) (j := 15) bkX8_tour_1 rfl) (by decide) rfl
theorem dX8_tour_80 : DR cX8_tour 80 (.getfield 128) 3 := dk_180 (bA_sl (a := 64) (j := 16) bkX8_tour_1 rfl) (bA_sl (a := 64) (j := 17) bkX8_tour_1 rfl) (bA_sl (a := 64) (j := 18) bkX8_tour_1 rfl) (by decide) rfl
theorem dX8_tour_83 : DR cX8_tour 83 (.iload_n 3) 1 := dk_29 (bA_sl (a := 64) (j := 19) bkX8_tour_1 rfl)
theorem dX8_tour_84 : DR cX8_tour 84 (.isub) 1 := dk_100 (bA_sl (a := 64) (j := 20) bkX8_tour_1 rfl)
theorem dX8_tour_85 : DR cX8_tour 85 (.iload 4) 2 := dk_21 (bA_sl (a := 64) (j := 21) bkX8_tour_1 rfl) (bA_sl (a := 64) (j := 22) bkX8_tour_1 rfl) (by decide)
theorem dX8_tour_87 : DR cX8_tour 87 (.aload_n 0) 1 := dk_42 (bA_sl (a := 64) (j := 23) bkX8_tour_1 rfl)
theorem dX8_tour_88 : DR cX8_tour 88 (.getfield 27) 3 := dk_180 (bA_sl (a := 64) (j := 24) bkX8_tour_1 rfl) (bA_sl (a := 64) (j := 25) bkX8_tour_1 rfl) (bA_sl (a := 64) (j := 26) bkX8_tour_1 rfl) (by decide) rfl
theorem dX8_tour_91 : DR cX8_tour 91 (.getfield 128) 3 := dk_180 (bA_sl (a := 64) (j := 27) bkX8_tour_1 rfl) (bA_sl (a := 64) (j := 28) bkX8_tour_1 rfl) (bA_sl (a := 64) (j := 29) bkX8_tour_1 rfl) (by decide) rfl
theorem dX8_tour_94 : DR cX8_tour 94 (.isub) 1 := dk_100 (bA_sl (a := 64) (j := 30) bkX8_tour_1 rfl)
theorem dX8_tour_95 : DR cX8_tour 95 (.invokestatic 211) 3 := dk_184 (bA_sl (a := 64) (j := 31) bkX8_tour_1 rfl) (bA_sl (a := 64) (j := 32) bkX8_tour_1 rfl) (bA_sl (a := 64) (j := 33) bkX8_tour_1 rfl) (by decide) rfl
theorem dX8_tour_98 : DR cX8_tour 98 (.iadd) 1 := dk_96 (bA_sl (a := 64) (j := 34) bkX8_tour_1 rfl)
theorem dX8_tour_99 : DR cX8_tour 99 (.ireturn) 1 := dk_172 (bA_sl (a := 64) (j := 35) bkX8_tour_1 rfl)
theorem bkX8_stubble_0 : ((cX8_stubble.data.toList.drop 0).take 64).map UInt8.toNat = [42, 27, 28, 182, 1, 50, 62, 29, 153, 0, 5, 29, 172, 42, 42, 180, 0, 44, 27, 50, 28, 182, 1, 53, 42, 180, 0, 72, 180, 1, 57, 172] := by decide +kernel
theorem dX8_stubble_0 : DR cX8_stubble 0 (.aload_n 0) 1 := dk_42 (bA_sl (a := 0) (j := 0) bkX8_stubble_0 rfl)
theorem dX8_stubble_1 : DR cX8_stubble 1 (.iload_n 1) 1 := dk_27 (bA_sl (a := 0) (j := 1) bkX8_stubble_0 rfl)
theorem dX8_stubble_2 : DR cX8_stubble 2 (.iload_n 2) 1 := dk_28 (bA_sl (a := 0) (j := 2) bkX8_stubble_0 rfl)
theorem dX8_stubble_3 : DR cX8_stubble 3 (.invokevirtual 306) 3 := dk_182 (bA_sl (a := 0) (j := 3) bkX8_stubble_0 rfl) (bA_sl (a := 0) (j := 4) bkX8_stubble_0 rfl) (bA_sl (a := 0) (j := 5) bkX8_stubble_0 rfl) (by decide) rfl
theorem dX8_stubble_6 : DR cX8_stubble 6 (.istore_n 3) 1 := dk_62 (bA_sl (a := 0) (j := 6) bkX8_stubble_0 rfl)
theorem dX8_stubble_7 : DR cX8_stubble 7 (.iload_n 3) 1 := dk_29 (bA_sl (a := 0) (j := 7) bkX8_stubble_0 rfl)
theorem dX8_stubble_8 : DR cX8_stubble 8 (.ifCond .eq 5) 3 := dk_153 (bA_sl (a := 0) (j := 8) bkX8_stubble_0 rfl) (bA_sl (a := 0) (j := 9) bkX8_stubble_0 rfl) (bA_sl (a := 0) (j := 10) bkX8_stubble_0 rfl) (by decide) (by decide)
theorem dX8_stubble_11 : DR cX8_stubble 11 (.iload_n 3) 1 := dk_29 (bA_sl (a := 0) (j := 11) bkX8_stubble_0 rfl)
theorem dX8_stubble_12 : DR cX8_stubble 12 (.ireturn) 1 := dk_172 (bA_sl (a := 0) (j := 12) bkX8_stubble_0 rfl)
theorem dX8_stubble_13 : DR cX8_stubble 13 (.aload_n 0) 1 := dk_42 (bA_sl (a := 0) (j := 13) bkX8_stubble_0 rfl)
theorem dX8_stubble_14 : DR cX8_stubble 14 (.aload_n 0) 1 := dk_42 (bA_sl (a := 0) (j := 14) bkX8_stubble_0 rfl)
theorem dX8_stubble_15 : DR cX8_stubble 15 (.getfield 44) 3 := dk_180 (bA_sl (a := 0) (j := 15) bkX8_stubble_0 rfl) (bA_sl (a := 0) (j := 16) bkX8_stubble_0 rfl) (bA_sl (a := 0) (j := 17) bkX8_stubble_0 rfl) (by decide) rfl
theorem dX8_stubble_18 : DR cX8_stubble 18 (.iload_n 1) 1 := dk_27 (bA_sl (a := 0) (j := 18) bkX8_stubble_0 rfl)
theorem dX8_stubble_19 : DR cX8_stubble 19 (.aaload) 1 := dk_50 (bA_sl (a := 0) (j := 19) bkX8_stubble_0 rfl)
theorem dX8_stubble_20 : DR cX8_stubble 20 (.iload_n 2) 1 := dk_28 (bA_sl (a := 0) (j := 20) bkX8_stubble_0 rfl)
theorem dX8_stubble_21 : DR cX8_stubble 21 (.invokevirtual 309) 3 := dk_182 (bA_sl (a := 0) (j := 21) bkX8_stubble_0 rfl) (bA_sl (a := 0) (j := 22) bkX8_stubble_0 rfl) (bA_sl (a := 0) (j := 23) bkX8_stubble_0 rfl) (by decide) rfl
theorem dX8_stubble_24 : DR cX8_stubble 24 (.aload_n 0) 1 := dk_42 (bA_sl (a := 0) (j := 24) bkX8_stubble_0 rfl)
theorem dX8_stubble_25 : DR cX8_stubble 25 (.getfield 72) 3 := dk_180 (bA_sl (a := 0) (j := 25) bkX8_stubble_0 rfl) (bA_sl (a := 0) (j := 26) bkX8_stubble_0 rfl) (bA_sl (a := 0) (j := 27) bkX8_stubble_0 rfl) (by decide) rfl
theorem dX8_stubble_28 : DR cX8_stubble 28 (.getfield 313) 3 := dk_180 (bA_sl (a := 0) (j := 28) bkX8_stubble_0 rfl) (bA_sl (a := 0) (j := 29) bkX8_stubble_0 rfl) (bA_sl (a := 0) (j := 30) bkX8_stubble_0 rfl) (by decide) rfl
theorem dX8_stubble_31 : DR cX8_stubble 31 (.ireturn) 1 := dk_172 (bA_sl (a := 0) (j := 31) bkX8_stubble_0 rfl)
theorem bkX8_sure_0 : ((cX8_sure.data.toList.drop 0).take 64).map UInt8.toNat = [42, 27, 28, 182, 1, 50, 62, 29, 153, 0, 5, 29, 172, 42, 42, 180, 0, 44, 27, 50, 28, 182, 1, 53, 42, 180, 0, 72, 180, 1, 60, 172] := by decide +kernel
theorem dX8_sure_0 : DR cX8_sure 0 (.aload_n 0) 1 := dk_42 (bA_sl (a := 0) (j := 0) bkX8_sure_0 rfl)
theorem dX8_sure_1 : DR cX8_sure 1 (.iload_n 1) 1 := dk_27 (bA_sl (a := 0) (j := 1) bkX8_sure_0 rfl)
theorem dX8_sure_2 : DR cX8_sure 2 (.iload_n 2) 1 := dk_28 (bA_sl (a := 0) (j := 2) bkX8_sure_0 rfl)
theorem dX8_sure_3 : DR cX8_sure 3 (.invokevirtual 306) 3 := dk_182 (bA_sl (a := 0) (j := 3) bkX8_sure_0 rfl) (bA_sl (a := 0) (j := 4) bkX8_sure_0 rfl) (bA_sl (a := 0) (j := 5) bkX8_sure_0 rfl) (by decide) rfl
theorem dX8_sure_6 : DR cX8_sure 6 (.istore_n 3) 1 := dk_62 (bA_sl (a := 0) (j := 6) bkX8_sure_0 rfl)
theorem dX8_sure_7 : DR cX8_sure 7 (.iload_n 3) 1 := dk_29 (bA_sl (a := 0) (j := 7) bkX8_sure_0 rfl)
theorem dX8_sure_8 : DR cX8_sure 8 (.ifCond .eq 5) 3 := dk_153 (bA_sl (a := 0) (j := 8) bkX8_sure_0 rfl) (bA_sl (a := 0) (j := 9) bkX8_sure_0 rfl) (bA_sl (a := 0) (j := 10) bkX8_sure_0 rfl) (by decide) (by decide)
theorem dX8_sure_11 : DR cX8_sure 11 (.iload_n 3) 1 := dk_29 (bA_sl (a := 0) (j := 11) bkX8_sure_0 rfl)
theorem dX8_sure_12 : DR cX8_sure 12 (.ireturn) 1 := dk_172 (bA_sl (a := 0) (j := 12) bkX8_sure_0 rfl)
theorem dX8_sure_13 : DR cX8_sure 13 (.aload_n 0) 1 := dk_42 (bA_sl (a := 0) (j := 13) bkX8_sure_0 rfl)
theorem dX8_sure_14 : DR cX8_sure 14 (.aload_n 0) 1 := dk_42 (bA_sl (a := 0) (j := 14) bkX8_sure_0 rfl)
theorem dX8_sure_15 : DR cX8_sure 15 (.getfield 44) 3 := dk_180 (bA_sl (a := 0) (j := 15) bkX8_sure_0 rfl) (bA_sl (a := 0) (j := 16) bkX8_sure_0 rfl) (bA_sl (a := 0) (j := 17) bkX8_sure_0 rfl) (by decide) rfl
theorem dX8_sure_18 : DR cX8_sure 18 (.iload_n 1) 1 := dk_27 (bA_sl (a := 0) (j := 18) bkX8_sure_0 rfl)
theorem dX8_sure_19 : DR cX8_sure 19 (.aaload) 1 := dk_50 (bA_sl (a := 0) (j := 19) bkX8_sure_0 rfl)
theorem dX8_sure_20 : DR cX8_sure 20 (.iload_n 2) 1 := dk_28 (bA_sl (a := 0) (j := 20) bkX8_sure_0 rfl)
theorem dX8_sure_21 : DR cX8_sure 21 (.invokevirtual 309) 3 := dk_182 (bA_sl (a := 0) (j := 21) bkX8_sure_0 rfl) (bA_sl (a := 0) (j := 22) bkX8_sure_0 rfl) (bA_sl (a := 0) (j := 23) bkX8_sure_0 rfl) (by decide) rfl
theorem dX8_sure_24 : DR cX8_sure 24 (.aload_n 0) 1 := dk_42 (bA_sl (a := 0) (j := 24) bkX8_sure_0 rfl)
theorem dX8_sure_25 : DR cX8_sure 25 (.getfield 72) 3 := dk_180 (bA_sl (a := 0) (j := 25) bkX8_sure_0 rfl) (bA_sl (a := 0) (j := 26) bkX8_sure_0 rfl) (bA_sl (a := 0) (j := 27) bkX8_sure_0 rfl) (by decide) rfl
theorem dX8_sure_28 : DR cX8_sure 28 (.getfield 316) 3 := dk_180 (bA_sl (a := 0) (j := 28) bkX8_sure_0 rfl) (bA_sl (a := 0) (j := 29) bkX8_sure_0 rfl) (bA_sl (a := 0) (j := 30) bkX8_sure_0 rfl) (by decide) rfl
theorem dX8_sure_31 : DR cX8_sure 31 (.ireturn) 1 := dk_172 (bA_sl (a := 0) (j := 31) bkX8_sure_0 rfl)
theorem bkX8_meets_0 : ((cX8_meets.data.toList.drop 0).take 64).map UInt8.toNat = [42, 27, 28, 182, 1, 63, 62, 29, 153, 0, 5, 29, 172, 42, 42, 180, 0, 44, 27, 50, 42, 180, 0, 44, 28, 50, 3, 182, 1, 66, 172] := by decide +kernel
theorem dX8_meets_0 : DR cX8_meets 0 (.aload_n 0) 1 := dk_42 (bA_sl (a := 0) (j := 0) bkX8_meets_0 rfl)
theorem dX8_meets_1 : DR cX8_meets 1 (.iload_n 1) 1 := dk_27 (bA_sl (a := 0) (j := 1) bkX8_meets_0 rfl)
theorem dX8_meets_2 : DR cX8_meets 2 (.iload_n 2) 1 := dk_28 (bA_sl (a := 0) (j := 2) bkX8_meets_0 rfl)
theorem dX8_meets_3 : DR cX8_meets 3 (.invokevirtual 319) 3 := dk_182 (bA_sl (a := 0) (j := 3) bkX8_meets_0 rfl) (bA_sl (a := 0) (j := 4) bkX8_meets_0 rfl) (bA_sl (a := 0) (j := 5) bkX8_meets_0 rfl) (by decide) rfl
theorem dX8_meets_6 : DR cX8_meets 6 (.istore_n 3) 1 := dk_62 (bA_sl (a := 0) (j := 6) bkX8_meets_0 rfl)
theorem dX8_meets_7 : DR cX8_meets 7 (.iload_n 3) 1 := dk_29 (bA_sl (a := 0) (j := 7) bkX8_meets_0 rfl)
theorem dX8_meets_8 : DR cX8_meets 8 (.ifCond .eq 5) 3 := dk_153 (bA_sl (a := 0) (j := 8) bkX8_meets_0 rfl) (bA_sl (a := 0) (j := 9) bkX8_meets_0 rfl) (bA_sl (a := 0) (j := 10) bkX8_meets_0 rfl) (by decide) (by decide)
theorem dX8_meets_11 : DR cX8_meets 11 (.iload_n 3) 1 := dk_29 (bA_sl (a := 0) (j := 11) bkX8_meets_0 rfl)
theorem dX8_meets_12 : DR cX8_meets 12 (.ireturn) 1 := dk_172 (bA_sl (a := 0) (j := 12) bkX8_meets_0 rfl)
theorem dX8_meets_13 : DR cX8_meets 13 (.aload_n 0) 1 := dk_42 (bA_sl (a := 0) (j := 13) bkX8_meets_0 rfl)
theorem dX8_meets_14 : DR cX8_meets 14 (.aload_n 0) 1 := dk_42 (bA_sl (a := 0) (j := 14) bkX8_meets_0 rfl)
theorem dX8_meets_15 : DR cX8_meets 15 (.getfield 44) 3 := dk_180 (bA_sl (a := 0) (j := 15) bkX8_meets_0 rfl) (bA_sl (a := 0) (j := 16) bkX8_meets_0 rfl) (bA_sl (a := 0) (j := 17) bkX8_meets_0 rfl) (by decide) rfl
theorem dX8_meets_18 : DR cX8_meets 18 (.iload_n 1) 1 := dk_27 (bA_sl (a := 0) (j := 18) bkX8_meets_0 rfl)
theorem dX8_meets_19 : DR cX8_meets 19 (.aaload) 1 := dk_50 (bA_sl (a := 0) (j := 19) bkX8_meets_0 rfl)
theorem dX8_meets_20 : DR cX8_meets 20 (.aload_n 0) 1 := dk_42 (bA_sl (a := 0) (j := 20) bkX8_meets_0 rfl)
theorem dX8_meets_21 : DR cX8_meets 21 (.getfield 44) 3 := dk_180 (bA_sl (a := 0) (j := 21) bkX8_meets_0 rfl) (bA_sl (a := 0) (j := 22) bkX8_meets_0 rfl) (bA_sl (a := 0) (j := 23) bkX8_meets_0 rfl) (by decide) rfl
theorem dX8_meets_24 : DR cX8_meets 24 (.iload_n 2) 1 := dk_28 (bA_sl (a := 0) (j := 24) bkX8_meets_0 rfl)
theorem dX8_meets_25 : DR cX8_meets 25 (.aaload) 1 := dk_50 (bA_sl (a := 0) (j := 25) bkX8_meets_0 rfl)
theorem dX8_meets_26 : DR cX8_meets 26 (.iconst 0) 1 := dk_3 (bA_sl (a := 0) (j := 26) bkX8_meets_0 rfl)
theorem dX8_meets_27 : DR cX8_meets 27 (.invokevirtual 322) 3 := dk_182 (bA_sl (a := 0) (j := 27) bkX8_meets_0 rfl) (bA_sl (a := 0) (j := 28) bkX8_meets_0 rfl) (bA_sl (a := 0) (j := 29) bkX8_meets_0 rfl) (by decide) rfl
theorem dX8_meets_30 : DR cX8_meets 30 (.ireturn) 1 := dk_172 (bA_sl (a := 0) (j := 30) bkX8_meets_0 rfl)
theorem bkX8_delay_0 : ((cX8_delay.data.toList.drop 0).take 64).map UInt8.toNat = [42, 27, 28, 182, 1, 63, 62, 29, 153, 0, 5, 29, 172, 3, 54, 4, 21, 4, 16, 40, 163, 0, 34, 42, 42, 180, 0, 44, 27, 50, 42, 180, 0, 44, 28, 50, 21, 4, 182, 1, 66, 2, 160, 0, 6, 21, 4, 172, 132, 4, 1, 167, 255, 221, 2, 172] := by decide +kernel
theorem dX8_delay_0 : DR cX8_delay 0 (.aload_n 0) 1 := dk_42 (bA_sl (a := 0) (j := 0) bkX8_delay_0 rfl)
theorem dX8_delay_1 : DR cX8_delay 1 (.iload_n 1) 1 := dk_27 (bA_sl (a := 0) (j := 1) bkX8_delay_0 rfl)
theorem dX8_delay_2 : DR cX8_delay 2 (.iload_n 2) 1 := dk_28 (bA_sl (a := 0) (j := 2) bkX8_delay_0 rfl)
theorem dX8_delay_3 : DR cX8_delay 3 (.invokevirtual 319) 3 := dk_182 (bA_sl (a := 0) (j := 3) bkX8_delay_0 rfl) (bA_sl (a := 0) (j := 4) bkX8_delay_0 rfl) (bA_sl (a := 0) (j := 5) bkX8_delay_0 rfl) (by decide) rfl
theorem dX8_delay_6 : DR cX8_delay 6 (.istore_n 3) 1 := dk_62 (bA_sl (a := 0) (j := 6) bkX8_delay_0 rfl)
theorem dX8_delay_7 : DR cX8_delay 7 (.iload_n 3) 1 := dk_29 (bA_sl (a := 0) (j := 7) bkX8_delay_0 rfl)
theorem dX8_delay_8 : DR cX8_delay 8 (.ifCond .eq 5) 3 := dk_153 (bA_sl (a := 0) (j := 8) bkX8_delay_0 rfl) (bA_sl (a := 0) (j := 9) bkX8_delay_0 rfl) (bA_sl (a := 0) (j := 10) bkX8_delay_0 rfl) (by decide) (by decide)
theorem dX8_delay_11 : DR cX8_delay 11 (.iload_n 3) 1 := dk_29 (bA_sl (a := 0) (j := 11) bkX8_delay_0 rfl)
theorem dX8_delay_12 : DR cX8_delay 12 (.ireturn) 1 := dk_172 (bA_sl (a := 0) (j := 12) bkX8_delay_0 rfl)
theorem dX8_delay_13 : DR cX8_delay 13 (.iconst 0) 1 := dk_3 (bA_sl (a := 0) (j := 13) bkX8_delay_0 rfl)
theorem dX8_delay_14 : DR cX8_delay 14 (.istore 4) 2 := dk_54 (bA_sl (a := 0) (j := 14) bkX8_delay_0 rfl) (bA_sl (a := 0) (j := 15) bkX8_delay_0 rfl) (by decide)
theorem dX8_delay_16 : DR cX8_delay 16 (.iload 4) 2 := dk_21 (bA_sl (a := 0) (j := 16) bkX8_delay_0 rfl) (bA_sl (a := 0) (j := 17) bkX8_delay_0 rfl) (by decide)
theorem dX8_delay_18 : DR cX8_delay 18 (.bipush 40) 2 := dk_16 (bA_sl (a := 0) (j := 18) bkX8_delay_0 rfl) (bA_sl (a := 0) (j := 19) bkX8_delay_0 rfl) (by decide) (by decide)
theorem dX8_delay_20 : DR cX8_delay 20 (.if_icmp .gt 34) 3 := dk_163 (bA_sl (a := 0) (j := 20) bkX8_delay_0 rfl) (bA_sl (a := 0) (j := 21) bkX8_delay_0 rfl) (bA_sl (a := 0) (j := 22) bkX8_delay_0 rfl) (by decide) (by decide)
theorem dX8_delay_23 : DR cX8_delay 23 (.aload_n 0) 1 := dk_42 (bA_sl (a := 0) (j := 23) bkX8_delay_0 rfl)
theorem dX8_delay_24 : DR cX8_delay 24 (.aload_n 0) 1 := dk_42 (bA_sl (a := 0) (j := 24) bkX8_delay_0 rfl)
theorem dX8_delay_25 : DR cX8_delay 25 (.getfield 44) 3 := dk_180 (bA_sl (a := 0) (j := 25) bkX8_delay_0 rfl) (bA_sl (a := 0) (j := 26) bkX8_delay_0 rfl) (bA_sl (a := 0) (j := 27) bkX8_delay_0 rfl) (by decide) rfl
theorem dX8_delay_28 : DR cX8_delay 28 (.iload_n 1) 1 := dk_27 (bA_sl (a := 0) (j := 28) bkX8_delay_0 rfl)
theorem dX8_delay_29 : DR cX8_delay 29 (.aaload) 1 := dk_50 (bA_sl (a := 0) (j := 29) bkX8_delay_0 rfl)
theorem dX8_delay_30 : DR cX8_delay 30 (.aload_n 0) 1 := dk_42 (bA_sl (a := 0) (j := 30) bkX8_delay_0 rfl)
theorem dX8_delay_31 : DR cX8_delay 31 (.getfield 44) 3 := dk_180 (bA_sl (a := 0) (j := 31) bkX8_delay_0 rfl) (bA_sl (a := 0) (j := 32) bkX8_delay_0 rfl) (bA_sl (a := 0) (j := 33) bkX8_delay_0 rfl) (by decide) rfl
theorem dX8_delay_34 : DR cX8_delay 34 (.iload_n 2) 1 := dk_28 (bA_sl (a := 0) (j := 34) bkX8_delay_0 rfl)
theorem dX8_delay_35 : DR cX8_delay 35 (.aaload) 1 := dk_50 (bA_sl (a := 0) (j := 35) bkX8_delay_0 rfl)
theorem dX8_delay_36 : DR cX8_delay 36 (.iload 4) 2 := dk_21 (bA_sl (a := 0) (j := 36) bkX8_delay_0 rfl) (bA_sl (a := 0) (j := 37) bkX8_delay_0 rfl) (by decide)
theorem dX8_delay_38 : DR cX8_delay 38 (.invokevirtual 322) 3 := dk_182 (bA_sl (a := 0) (j := 38) bkX8_delay_0 rfl) (bA_sl (a := 0) (j := 39) bkX8_delay_0 rfl) (bA_sl (a := 0) (j := 40) bkX8_delay_0 rfl) (by decide) rfl
theorem dX8_delay_41 : DR cX8_delay 41 (.iconst (-1)) 1 := dk_2 (bA_sl (a := 0) (j := 41) bkX8_delay_0 rfl)
theorem dX8_delay_42 : DR cX8_delay 42 (.if_icmp .ne 6) 3 := dk_160 (bA_sl (a := 0) (j := 42) bkX8_delay_0 rfl) (bA_sl (a := 0) (j := 43) bkX8_delay_0 rfl) (bA_sl (a := 0) (j := 44) bkX8_delay_0 rfl) (by decide) (by decide)
theorem dX8_delay_45 : DR cX8_delay 45 (.iload 4) 2 := dk_21 (bA_sl (a := 0) (j := 45) bkX8_delay_0 rfl) (bA_sl (a := 0) (j := 46) bkX8_delay_0 rfl) (by decide)
theorem dX8_delay_47 : DR cX8_delay 47 (.ireturn) 1 := dk_172 (bA_sl (a := 0) (j := 47) bkX8_delay_0 rfl)
theorem dX8_delay_48 : DR cX8_delay 48 (.iinc 4 1) 3 := dk_132 (bA_sl (a := 0) (j := 48) bkX8_delay_0 rfl) (bA_sl (a := 0) (j := 49) bkX8_delay_0 rfl) (bA_sl (a := 0) (j := 50) bkX8_delay_0 rfl) (by decide) (by decide)
theorem dX8_delay_51 : DR cX8_delay 51 (.goto (-35)) 3 := dk_167 (bA_sl (a := 0) (j := 51) bkX8_delay_0 rfl) (bA_sl (a := 0) (j := 52) bkX8_delay_0 rfl) (bA_sl (a := 0) (j := 53) bkX8_delay_0 rfl) (by decide) (by decide)
theorem dX8_delay_54 : DR cX8_delay 54 (.iconst (-1)) 1 := dk_2 (bA_sl (a := 0) (j := 54) bkX8_delay_0 rfl)
theorem dX8_delay_55 : DR cX8_delay 55 (.ireturn) 1 := dk_172 (bA_sl (a := 0) (j := 55) bkX8_delay_0 rfl)
theorem bkX8_numbers_0 : ((cX8_numbers.data.toList.drop 0).take 64).map UInt8.toNat = [27, 184, 0, 182, 153, 0, 12, 28, 155, 0, 8, 28, 7, 161, 0, 6, 16, 254, 172, 29, 155, 0, 9, 29, 16, 40, 164, 0, 6, 16, 253, 172, 42, 180, 0, 44, 27, 50, 28, 29, 182, 1, 70, 3, 172] := by decide +kernel
theorem dX8_numbers_0 : DR cX8_numbers 0 (.iload_n 1) 1 := dk_27 (bA_sl (a := 0) (j := 0) bkX8_numbers_0 rfl)
theorem dX8_numbers_1 : DR cX8_numbers 1 (.invokestatic 182) 3 := dk_184 (bA_sl (a := 0) (j := 1) bkX8_numbers_0 rfl) (bA_sl (a := 0) (j := 2) bkX8_numbers_0 rfl) (bA_sl (a := 0) (j := 3) bkX8_numbers_0 rfl) (by decide) rfl
theorem dX8_numbers_4 : DR cX8_numbers 4 (.ifCond .eq 12) 3 := dk_153 (bA_sl (a := 0) (j := 4) bkX8_numbers_0 rfl) (bA_sl (a := 0) (j := 5) bkX8_numbers_0 rfl) (bA_sl (a := 0) (j := 6) bkX8_numbers_0 rfl) (by decide) (by decide)
theorem dX8_numbers_7 : DR cX8_numbers 7 (.iload_n 2) 1 := dk_28 (bA_sl (a := 0) (j := 7) bkX8_numbers_0 rfl)
theorem dX8_numbers_8 : DR cX8_numbers 8 (.ifCond .lt 8) 3 := dk_155 (bA_sl (a := 0) (j := 8) bkX8_numbers_0 rfl) (bA_sl (a := 0) (j := 9) bkX8_numbers_0 rfl) (bA_sl (a := 0) (j := 10) bkX8_numbers_0 rfl) (by decide) (by decide)
theorem dX8_numbers_11 : DR cX8_numbers 11 (.iload_n 2) 1 := dk_28 (bA_sl (a := 0) (j := 11) bkX8_numbers_0 rfl)
theorem dX8_numbers_12 : DR cX8_numbers 12 (.iconst 4) 1 := dk_7 (bA_sl (a := 0) (j := 12) bkX8_numbers_0 rfl)
theorem dX8_numbers_13 : DR cX8_numbers 13 (.if_icmp .lt 6) 3 := dk_161 (bA_sl (a := 0) (j := 13) bkX8_numbers_0 rfl) (bA_sl (a := 0) (j := 14) bkX8_numbers_0 rfl) (bA_sl (a := 0) (j := 15) bkX8_numbers_0 rfl) (by decide) (by decide)
theorem dX8_numbers_16 : DR cX8_numbers 16 (.bipush (-2)) 2 := dk_16 (bA_sl (a := 0) (j := 16) bkX8_numbers_0 rfl) (bA_sl (a := 0) (j := 17) bkX8_numbers_0 rfl) (by decide) (by decide)
theorem dX8_numbers_18 : DR cX8_numbers 18 (.ireturn) 1 := dk_172 (bA_sl (a := 0) (j := 18) bkX8_numbers_0 rfl)
theorem dX8_numbers_19 : DR cX8_numbers 19 (.iload_n 3) 1 := dk_29 (bA_sl (a := 0) (j := 19) bkX8_numbers_0 rfl)
theorem dX8_numbers_20 : DR cX8_numbers 20 (.ifCond .lt 9) 3 := dk_155 (bA_sl (a := 0) (j := 20) bkX8_numbers_0 rfl) (bA_sl (a := 0) (j := 21) bkX8_numbers_0 rfl) (bA_sl (a := 0) (j := 22) bkX8_numbers_0 rfl) (by decide) (by decide)
theorem dX8_numbers_23 : DR cX8_numbers 23 (.iload_n 3) 1 := dk_29 (bA_sl (a := 0) (j := 23) bkX8_numbers_0 rfl)
theorem dX8_numbers_24 : DR cX8_numbers 24 (.bipush 40) 2 := dk_16 (bA_sl (a := 0) (j := 24) bkX8_numbers_0 rfl) (bA_sl (a := 0) (j := 25) bkX8_numbers_0 rfl) (by decide) (by decide)
theorem dX8_numbers_26 : DR cX8_numbers 26 (.if_icmp .le 6) 3 := dk_164 (bA_sl (a := 0) (j := 26) bkX8_numbers_0 rfl) (bA_sl (a := 0) (j := 27) bkX8_numbers_0 rfl) (bA_sl (a := 0) (j := 28) bkX8_numbers_0 rfl) (by decide) (by decide)
theorem dX8_numbers_29 : DR cX8_numbers 29 (.bipush (-3)) 2 := dk_16 (bA_sl (a := 0) (j := 29) bkX8_numbers_0 rfl) (bA_sl (a := 0) (j := 30) bkX8_numbers_0 rfl) (by decide) (by decide)
theorem dX8_numbers_31 : DR cX8_numbers 31 (.ireturn) 1 := dk_172 (bA_sl (a := 0) (j := 31) bkX8_numbers_0 rfl)
theorem dX8_numbers_32 : DR cX8_numbers 32 (.aload_n 0) 1 := dk_42 (bA_sl (a := 0) (j := 32) bkX8_numbers_0 rfl)
theorem dX8_numbers_33 : DR cX8_numbers 33 (.getfield 44) 3 := dk_180 (bA_sl (a := 0) (j := 33) bkX8_numbers_0 rfl) (bA_sl (a := 0) (j := 34) bkX8_numbers_0 rfl) (bA_sl (a := 0) (j := 35) bkX8_numbers_0 rfl) (by decide) rfl
theorem dX8_numbers_36 : DR cX8_numbers 36 (.iload_n 1) 1 := dk_27 (bA_sl (a := 0) (j := 36) bkX8_numbers_0 rfl)
theorem dX8_numbers_37 : DR cX8_numbers 37 (.aaload) 1 := dk_50 (bA_sl (a := 0) (j := 37) bkX8_numbers_0 rfl)
theorem dX8_numbers_38 : DR cX8_numbers 38 (.iload_n 2) 1 := dk_28 (bA_sl (a := 0) (j := 38) bkX8_numbers_0 rfl)
theorem dX8_numbers_39 : DR cX8_numbers 39 (.iload_n 3) 1 := dk_29 (bA_sl (a := 0) (j := 39) bkX8_numbers_0 rfl)
theorem dX8_numbers_40 : DR cX8_numbers 40 (.invokevirtual 326) 3 := dk_182 (bA_sl (a := 0) (j := 40) bkX8_numbers_0 rfl) (bA_sl (a := 0) (j := 41) bkX8_numbers_0 rfl) (bA_sl (a := 0) (j := 42) bkX8_numbers_0 rfl) (by decide) rfl
theorem dX8_numbers_43 : DR cX8_numbers 43 (.iconst 0) 1 := dk_3 (bA_sl (a := 0) (j := 43) bkX8_numbers_0 rfl)
theorem dX8_numbers_44 : DR cX8_numbers 44 (.ireturn) 1 := dk_172 (bA_sl (a := 0) (j := 44) bkX8_numbers_0 rfl)
theorem bkX8_write_0 : ((cX8_write.data.toList.drop 0).take 64).map UInt8.toNat = [27, 184, 0, 182, 154, 0, 7, 20, 1, 74, 173, 42, 180, 0, 44, 27, 50, 58, 5, 25, 5, 180, 0, 185, 153, 0, 7, 20, 1, 76, 173, 28, 155, 0, 12, 28, 25, 5, 180, 0, 193, 161, 0, 7, 20, 1, 78, 173, 25, 5, 28, 33, 182, 1, 80, 173] := by decide +kernel
theorem dX8_write_0 : DR cX8_write 0 (.iload_n 1) 1 := dk_27 (bA_sl (a := 0) (j := 0) bkX8_write_0 rfl)
theorem dX8_write_1 : DR cX8_write 1 (.invokestatic 182) 3 := dk_184 (bA_sl (a := 0) (j := 1) bkX8_write_0 rfl) (bA_sl (a := 0) (j := 2) bkX8_write_0 rfl) (bA_sl (a := 0) (j := 3) bkX8_write_0 rfl) (by decide) rfl
theorem dX8_write_4 : DR cX8_write 4 (.ifCond .ne 7) 3 := dk_154 (bA_sl (a := 0) (j := 4) bkX8_write_0 rfl) (bA_sl (a := 0) (j := 5) bkX8_write_0 rfl) (bA_sl (a := 0) (j := 6) bkX8_write_0 rfl) (by decide) (by decide)
theorem dX8_write_7 : DR cX8_write 7 (.ldc2_w 330) 3 := dk_20 (bA_sl (a := 0) (j := 7) bkX8_write_0 rfl) (bA_sl (a := 0) (j := 8) bkX8_write_0 rfl) (bA_sl (a := 0) (j := 9) bkX8_write_0 rfl) (by decide) rfl
theorem dX8_write_10 : DR cX8_write 10 (.lreturn) 1 := dk_173 (bA_sl (a := 0) (j := 10) bkX8_write_0 rfl)
theorem dX8_write_11 : DR cX8_write 11 (.aload_n 0) 1 := dk_42 (bA_sl (a := 0) (j := 11) bkX8_write_0 rfl)
theorem dX8_write_12 : DR cX8_write 12 (.getfield 44) 3 := dk_180 (bA_sl (a := 0) (j := 12) bkX8_write_0 rfl) (bA_sl (a := 0) (j := 13) bkX8_write_0 rfl) (bA_sl (a := 0) (j := 14) bkX8_write_0 rfl) (by decide) rfl
theorem dX8_write_15 : DR cX8_write 15 (.iload_n 1) 1 := dk_27 (bA_sl (a := 0) (j := 15) bkX8_write_0 rfl)
theorem dX8_write_16 : DR cX8_write 16 (.aaload) 1 := dk_50 (bA_sl (a := 0) (j := 16) bkX8_write_0 rfl)
theorem dX8_write_17 : DR cX8_write 17 (.astore 5) 2 := dk_58 (bA_sl (a := 0) (j := 17) bkX8_write_0 rfl) (bA_sl (a := 0) (j := 18) bkX8_write_0 rfl) (by decide)
theorem dX8_write_19 : DR cX8_write 19 (.aload 5) 2 := dk_25 (bA_sl (a := 0) (j := 19) bkX8_write_0 rfl) (bA_sl (a := 0) (j := 20) bkX8_write_0 rfl) (by decide)
theorem dX8_write_21 : DR cX8_write 21 (.getfield 185) 3 := dk_180 (bA_sl (a := 0) (j := 21) bkX8_write_0 rfl) (bA_sl (a := 0) (j := 22) bkX8_write_0 rfl) (bA_sl (a := 0) (j := 23) bkX8_write_0 rfl) (by decide) rfl
theorem dX8_write_24 : DR cX8_write 24 (.ifCond .eq 7) 3 := dk_153 (bA_sl (a := 0) (j := 24) bkX8_write_0 rfl) (bA_sl (a := 0) (j := 25) bkX8_write_0 rfl) (bA_sl (a := 0) (j := 26) bkX8_write_0 rfl) (by decide) (by decide)
theorem dX8_write_27 : DR cX8_write 27 (.ldc2_w 332) 3 := dk_20 (bA_sl (a := 0) (j := 27) bkX8_write_0 rfl) (bA_sl (a := 0) (j := 28) bkX8_write_0 rfl) (bA_sl (a := 0) (j := 29) bkX8_write_0 rfl) (by decide) rfl
theorem dX8_write_30 : DR cX8_write 30 (.lreturn) 1 := dk_173 (bA_sl (a := 0) (j := 30) bkX8_write_0 rfl)
theorem dX8_write_31 : DR cX8_write 31 (.iload_n 2) 1 := dk_28 (bA_sl (a := 0) (j := 31) bkX8_write_0 rfl)
theorem dX8_write_32 : DR cX8_write 32 (.ifCond .lt 12) 3 := dk_155 (bA_sl (a := 0) (j := 32) bkX8_write_0 rfl) (bA_sl (a := 0) (j := 33) bkX8_write_0 rfl) (bA_sl (a := 0) (j := 34) bkX8_write_0 rfl) (by decide) (by decide)
theorem dX8_write_35 : DR cX8_write 35 (.iload_n 2) 1 := dk_28 (bA_sl (a := 0) (j := 35) bkX8_write_0 rfl)
theorem dX8_write_36 : DR cX8_write 36 (.aload 5) 2 := dk_25 (bA_sl (a := 0) (j := 36) bkX8_write_0 rfl) (bA_sl (a := 0) (j := 37) bkX8_write_0 rfl) (by decide)
theorem dX8_write_38 : DR cX8_write 38 (.getfield 193) 3 := dk_180 (bA_sl (a := 0) (j := 38) bkX8_write_0 rfl) (bA_sl (a := 0) (j := 39) bkX8_write_0 rfl) (bA_sl (a := 0) (j := 40) bkX8_write_0 rfl) (by decide) rfl
theorem dX8_write_41 : DR cX8_write 41 (.if_icmp .lt 7) 3 := dk_161 (bA_sl (a := 0) (j := 41) bkX8_write_0 rfl) (bA_sl (a := 0) (j := 42) bkX8_write_0 rfl) (bA_sl (a := 0) (j := 43) bkX8_write_0 rfl) (by decide) (by decide)
theorem dX8_write_44 : DR cX8_write 44 (.ldc2_w 334) 3 := dk_20 (bA_sl (a := 0) (j := 44) bkX8_write_0 rfl) (bA_sl (a := 0) (j := 45) bkX8_write_0 rfl) (bA_sl (a := 0) (j := 46) bkX8_write_0 rfl) (by decide) rfl
theorem dX8_write_47 : DR cX8_write 47 (.lreturn) 1 := dk_173 (bA_sl (a := 0) (j := 47) bkX8_write_0 rfl)
theorem dX8_write_48 : DR cX8_write 48 (.aload 5) 2 := dk_25 (bA_sl (a := 0) (j := 48) bkX8_write_0 rfl) (bA_sl (a := 0) (j := 49) bkX8_write_0 rfl) (by decide)
theorem dX8_write_50 : DR cX8_write 50 (.iload_n 2) 1 := dk_28 (bA_sl (a := 0) (j := 50) bkX8_write_0 rfl)
theorem dX8_write_51 : DR cX8_write 51 (.lload_n 3) 1 := dk_33 (bA_sl (a := 0) (j := 51) bkX8_write_0 rfl)
theorem dX8_write_52 : DR cX8_write 52 (.invokevirtual 336) 3 := dk_182 (bA_sl (a := 0) (j := 52) bkX8_write_0 rfl) (bA_sl (a := 0) (j := 53) bkX8_write_0 rfl) (bA_sl (a := 0) (j := 54) bkX8_write_0 rfl) (by decide) rfl
theorem dX8_write_55 : DR cX8_write 55 (.lreturn) 1 := dk_173 (bA_sl (a := 0) (j := 55) bkX8_write_0 rfl)
theorem bkX8_copy_0 : ((cX8_copy.data.toList.drop 0).take 64).map UInt8.toNat = [27, 184, 0, 182, 154, 0, 6, 16, 254, 172, 42, 180, 0, 44, 27, 50, 77, 44, 180, 0, 185, 153, 0, 6, 16, 250, 172, 44, 180, 0, 193, 42, 180, 0, 27, 180, 0, 161, 162, 0, 6, 16, 249, 172, 3, 62, 29, 42, 180, 0, 27, 180, 0, 161, 162, 0, 25, 44, 29, 42, 180, 0, 27, 180] := by decide +kernel
theorem dX8_copy_0 : DR cX8_copy 0 (.iload_n 1) 1 := dk_27 (bA_sl (a := 0) (j := 0) bkX8_copy_0 rfl)
theorem dX8_copy_1 : DR cX8_copy 1 (.invokestatic 182) 3 := dk_184 (bA_sl (a := 0) (j := 1) bkX8_copy_0 rfl) (bA_sl (a := 0) (j := 2) bkX8_copy_0 rfl) (bA_sl (a := 0) (j := 3) bkX8_copy_0 rfl) (by decide) rfl
theorem dX8_copy_4 : DR cX8_copy 4 (.ifCond .ne 6) 3 := dk_154 (bA_sl (a := 0) (j := 4) bkX8_copy_0 rfl) (bA_sl (a := 0) (j := 5) bkX8_copy_0 rfl) (bA_sl (a := 0) (j := 6) bkX8_copy_0 rfl) (by decide) (by decide)
theorem dX8_copy_7 : DR cX8_copy 7 (.bipush (-2)) 2 := dk_16 (bA_sl (a := 0) (j := 7) bkX8_copy_0 rfl) (bA_sl (a := 0) (j := 8) bkX8_copy_0 rfl) (by decide) (by decide)
theorem dX8_copy_9 : DR cX8_copy 9 (.ireturn) 1 := dk_172 (bA_sl (a := 0) (j := 9) bkX8_copy_0 rfl)
theorem dX8_copy_10 : DR cX8_copy 10 (.aload_n 0) 1 := dk_42 (bA_sl (a := 0) (j := 10) bkX8_copy_0 rfl)
theorem dX8_copy_11 : DR cX8_copy 11 (.getfield 44) 3 := dk_180 (bA_sl (a := 0) (j := 11) bkX8_copy_0 rfl) (bA_sl (a := 0) (j := 12) bkX8_copy_0 rfl) (bA_sl (a := 0) (j := 13) bkX8_copy_0 rfl) (by decide) rfl
theorem dX8_copy_14 : DR cX8_copy 14 (.iload_n 1) 1 := dk_27 (bA_sl (a := 0) (j := 14) bkX8_copy_0 rfl)
theorem dX8_copy_15 : DR cX8_copy 15 (.aaload) 1 := dk_50 (bA_sl (a := 0) (j := 15) bkX8_copy_0 rfl)
theorem dX8_copy_16 : DR cX8_copy 16 (.astore_n 2) 1 := dk_77 (bA_sl (a := 0) (j := 16) bkX8_copy_0 rfl)
theorem dX8_copy_17 : DR cX8_copy 17 (.aload_n 2) 1 := dk_44 (bA_sl (a := 0) (j := 17) bkX8_copy_0 rfl)
theorem dX8_copy_18 : DR cX8_copy 18 (.getfield 185) 3 := dk_180 (bA_sl (a := 0) (j := 18) bkX8_copy_0 rfl) (bA_sl (a := 0) (j := 19) bkX8_copy_0 rfl) (bA_sl (a := 0) (j := 20) bkX8_copy_0 rfl) (by decide) rfl
theorem dX8_copy_21 : DR cX8_copy 21 (.ifCond .eq 6) 3 := dk_153 (bA_sl (a := 0) (j := 21) bkX8_copy_0 rfl) (bA_sl (a := 0) (j := 22) bkX8_copy_0 rfl) (bA_sl (a := 0) (j := 23) bkX8_copy_0 rfl) (by decide) (by decide)
theorem dX8_copy_24 : DR cX8_copy 24 (.bipush (-6)) 2 := dk_16 (bA_sl (a := 0) (j := 24) bkX8_copy_0 rfl) (bA_sl (a := 0) (j := 25) bkX8_copy_0 rfl) (by decide) (by decide)
theorem dX8_copy_26 : DR cX8_copy 26 (.ireturn) 1 := dk_172 (bA_sl (a := 0) (j := 26) bkX8_copy_0 rfl)
theorem dX8_copy_27 : DR cX8_copy 27 (.aload_n 2) 1 := dk_44 (bA_sl (a := 0) (j := 27) bkX8_copy_0 rfl)
theorem dX8_copy_28 : DR cX8_copy 28 (.getfield 193) 3 := dk_180 (bA_sl (a := 0) (j := 28) bkX8_copy_0 rfl) (bA_sl (a := 0) (j := 29) bkX8_copy_0 rfl) (bA_sl (a := 0) (j := 30) bkX8_copy_0 rfl) (by decide) rfl
theorem dX8_copy_31 : DR cX8_copy 31 (.aload_n 0) 1 := dk_42 (bA_sl (a := 0) (j := 31) bkX8_copy_0 rfl)
theorem dX8_copy_32 : DR cX8_copy 32 (.getfield 27) 3 := dk_180 (bA_sl (a := 0) (j := 32) bkX8_copy_0 rfl) (bA_sl (a := 0) (j := 33) bkX8_copy_0 rfl) (bA_sl (a := 0) (j := 34) bkX8_copy_0 rfl) (by decide) rfl
theorem dX8_copy_35 : DR cX8_copy 35 (.getfield 161) 3 := dk_180 (bA_sl (a := 0) (j := 35) bkX8_copy_0 rfl) (bA_sl (a := 0) (j := 36) bkX8_copy_0 rfl) (bA_sl (a := 0) (j := 37) bkX8_copy_0 rfl) (by decide) rfl
theorem dX8_copy_38 : DR cX8_copy 38 (.if_icmp .ge 6) 3 := dk_162 (bA_sl (a := 0) (j := 38) bkX8_copy_0 rfl) (bA_sl (a := 0) (j := 39) bkX8_copy_0 rfl) (bA_sl (a := 0) (j := 40) bkX8_copy_0 rfl) (by decide) (by decide)
theorem dX8_copy_41 : DR cX8_copy 41 (.bipush (-7)) 2 := dk_16 (bA_sl (a := 0) (j := 41) bkX8_copy_0 rfl) (bA_sl (a := 0) (j := 42) bkX8_copy_0 rfl) (by decide) (by decide)
theorem dX8_copy_43 : DR cX8_copy 43 (.ireturn) 1 := dk_172 (bA_sl (a := 0) (j := 43) bkX8_copy_0 rfl)
theorem dX8_copy_44 : DR cX8_copy 44 (.iconst 0) 1 := dk_3 (bA_sl (a := 0) (j := 44) bkX8_copy_0 rfl)
theorem dX8_copy_45 : DR cX8_copy 45 (.istore_n 3) 1 := dk_62 (bA_sl (a := 0) (j := 45) bkX8_copy_0 rfl)
theorem dX8_copy_46 : DR cX8_copy 46 (.iload_n 3) 1 := dk_29 (bA_sl (a := 0) (j := 46) bkX8_copy_0 rfl)
theorem dX8_copy_47 : DR cX8_copy 47 (.aload_n 0) 1 := dk_42 (bA_sl (a := 0) (j := 47) bkX8_copy_0 rfl)
theorem dX8_copy_48 : DR cX8_copy 48 (.getfield 27) 3 := dk_180 (bA_sl (a := 0) (j := 48) bkX8_copy_0 rfl) (bA_sl (a := 0) (j := 49) bkX8_copy_0 rfl) (bA_sl (a := 0) (j := 50) bkX8_copy_0 rfl) (by decide) rfl
theorem dX8_copy_51 : DR cX8_copy 51 (.getfield 161) 3 := dk_180 (bA_sl (a := 0) (j := 51) bkX8_copy_0 rfl) (bA_sl (a := 0) (j := 52) bkX8_copy_0 rfl) (bA_sl (a := 0) (j := 53) bkX8_copy_0 rfl) (by decide) rfl
theorem dX8_copy_54 : DR cX8_copy 54 (.if_icmp .ge 25) 3 := dk_162 (bA_sl (a := 0) (j := 54) bkX8_copy_0 rfl) (bA_sl (a := 0) (j := 55) bkX8_copy_0 rfl) (bA_sl (a := 0) (j := 56) bkX8_copy_0 rfl) (by decide) (by decide)
theorem dX8_copy_57 : DR cX8_copy 57 (.aload_n 2) 1 := dk_44 (bA_sl (a := 0) (j := 57) bkX8_copy_0 rfl)
theorem dX8_copy_58 : DR cX8_copy 58 (.iload_n 3) 1 := dk_29 (bA_sl (a := 0) (j := 58) bkX8_copy_0 rfl)
theorem dX8_copy_59 : DR cX8_copy 59 (.aload_n 0) 1 := dk_42 (bA_sl (a := 0) (j := 59) bkX8_copy_0 rfl)
theorem dX8_copy_60 : DR cX8_copy 60 (.getfield 27) 3 := dk_180 (bA_sl (a := 0) (j := 60) bkX8_copy_0 rfl) (bA_sl (a := 0) (j := 61) bkX8_copy_0 rfl) (bA_sl (a := 0) (j := 62) bkX8_copy_0 rfl) (by decide) rfl
theorem bkX8_copy_1 : ((cX8_copy.data.toList.drop 64).take 64).map UInt8.toNat = [0, 112, 29, 46, 133, 182, 1, 80, 88, 132, 3, 1, 167, 255, 226, 42, 180, 0, 27, 180, 0, 161, 172] := by decide +kernel
theorem dX8_copy_63 : DR cX8_copy 63 (.getfield 112) 3 := dk_180 (bA_sl (a := 0) (j := 63) bkX8_copy_0 rfl) (bA_sl (a := 64) (j := 0) bkX8_copy_1 rfl) (bA_sl (a := 64) (j := 1) bkX8_copy_1 rfl) (by decide) rfl
theorem dX8_copy_66 : DR cX8_copy 66 (.iload_n 3) 1 := dk_29 (bA_sl (a := 64) (j := 2) bkX8_copy_1 rfl)
theorem dX8_copy_67 : DR cX8_copy 67 (.iaload) 1 := dk_46 (bA_sl (a := 64) (j := 3) bkX8_copy_1 rfl)
theorem dX8_copy_68 : DR cX8_copy 68 (.i2l) 1 := dk_133 (bA_sl (a := 64) (j := 4) bkX8_copy_1 rfl)
theorem dX8_copy_69 : DR cX8_copy 69 (.invokevirtual 336) 3 := dk_182 (bA_sl (a := 64) (j := 5) bkX8_copy_1 rfl) (bA_sl (a := 64) (j := 6) bkX8_copy_1 rfl) (bA_sl (a := 64) (j := 7) bkX8_copy_1 rfl) (by decide) rfl
theorem dX8_copy_72 : DR cX8_copy 72 (.pop2) 1 := dk_88 (bA_sl (a := 64) (j := 8) bkX8_copy_1 rfl)
theorem dX8_copy_73 : DR cX8_copy 73 (.iinc 3 1) 3 := dk_132 (bA_sl (a := 64) (j := 9) bkX8_copy_1 rfl) (bA_sl (a := 64) (j := 10) bkX8_copy_1 rfl) (bA_sl (a := 64) (j := 11) bkX8_copy_1 rfl) (by decide) (by decide)
theorem dX8_copy_76 : DR cX8_copy 76 (.goto (-30)) 3 := dk_167 (bA_sl (a := 64) (j := 12) bkX8_copy_1 rfl) (bA_sl (a := 64) (j := 13) bkX8_copy_1 rfl) (bA_sl (a := 64) (j := 14) bkX8_copy_1 rfl) (by decide) (by decide)
theorem dX8_copy_79 : DR cX8_copy 79 (.aload_n 0) 1 := dk_42 (bA_sl (a := 64) (j := 15) bkX8_copy_1 rfl)
theorem dX8_copy_80 : DR cX8_copy 80 (.getfield 27) 3 := dk_180 (bA_sl (a := 64) (j := 16) bkX8_copy_1 rfl) (bA_sl (a := 64) (j := 17) bkX8_copy_1 rfl) (bA_sl (a := 64) (j := 18) bkX8_copy_1 rfl) (by decide) rfl
theorem dX8_copy_83 : DR cX8_copy 83 (.getfield 161) 3 := dk_180 (bA_sl (a := 64) (j := 19) bkX8_copy_1 rfl) (bA_sl (a := 64) (j := 20) bkX8_copy_1 rfl) (bA_sl (a := 64) (j := 21) bkX8_copy_1 rfl) (by decide) rfl
theorem dX8_copy_86 : DR cX8_copy 86 (.ireturn) 1 := dk_172 (bA_sl (a := 64) (j := 22) bkX8_copy_1 rfl)
theorem bkX8_image_0 : ((cX8_image.data.toList.drop 0).take 64).map UInt8.toNat = [27, 155, 0, 8, 27, 5, 161, 0, 6, 16, 254, 172, 42, 180, 0, 34, 27, 50, 42, 180, 0, 27, 182, 0, 95, 42, 180, 0, 38, 27, 4, 84, 3, 172] := by decide +kernel
theorem dX8_image_0 : DR cX8_image 0 (.iload_n 1) 1 := dk_27 (bA_sl (a := 0) (j := 0) bkX8_image_0 rfl)
theorem dX8_image_1 : DR cX8_image 1 (.ifCond .lt 8) 3 := dk_155 (bA_sl (a := 0) (j := 1) bkX8_image_0 rfl) (bA_sl (a := 0) (j := 2) bkX8_image_0 rfl) (bA_sl (a := 0) (j := 3) bkX8_image_0 rfl) (by decide) (by decide)
theorem dX8_image_4 : DR cX8_image 4 (.iload_n 1) 1 := dk_27 (bA_sl (a := 0) (j := 4) bkX8_image_0 rfl)
theorem dX8_image_5 : DR cX8_image 5 (.iconst 2) 1 := dk_5 (bA_sl (a := 0) (j := 5) bkX8_image_0 rfl)
theorem dX8_image_6 : DR cX8_image 6 (.if_icmp .lt 6) 3 := dk_161 (bA_sl (a := 0) (j := 6) bkX8_image_0 rfl) (bA_sl (a := 0) (j := 7) bkX8_image_0 rfl) (bA_sl (a := 0) (j := 8) bkX8_image_0 rfl) (by decide) (by decide)
theorem dX8_image_9 : DR cX8_image 9 (.bipush (-2)) 2 := dk_16 (bA_sl (a := 0) (j := 9) bkX8_image_0 rfl) (bA_sl (a := 0) (j := 10) bkX8_image_0 rfl) (by decide) (by decide)
theorem dX8_image_11 : DR cX8_image 11 (.ireturn) 1 := dk_172 (bA_sl (a := 0) (j := 11) bkX8_image_0 rfl)
theorem dX8_image_12 : DR cX8_image 12 (.aload_n 0) 1 := dk_42 (bA_sl (a := 0) (j := 12) bkX8_image_0 rfl)
theorem dX8_image_13 : DR cX8_image 13 (.getfield 34) 3 := dk_180 (bA_sl (a := 0) (j := 13) bkX8_image_0 rfl) (bA_sl (a := 0) (j := 14) bkX8_image_0 rfl) (bA_sl (a := 0) (j := 15) bkX8_image_0 rfl) (by decide) rfl
theorem dX8_image_16 : DR cX8_image 16 (.iload_n 1) 1 := dk_27 (bA_sl (a := 0) (j := 16) bkX8_image_0 rfl)
theorem dX8_image_17 : DR cX8_image 17 (.aaload) 1 := dk_50 (bA_sl (a := 0) (j := 17) bkX8_image_0 rfl)
theorem dX8_image_18 : DR cX8_image 18 (.aload_n 0) 1 := dk_42 (bA_sl (a := 0) (j := 18) bkX8_image_0 rfl)
theorem dX8_image_19 : DR cX8_image 19 (.getfield 27) 3 := dk_180 (bA_sl (a := 0) (j := 19) bkX8_image_0 rfl) (bA_sl (a := 0) (j := 20) bkX8_image_0 rfl) (bA_sl (a := 0) (j := 21) bkX8_image_0 rfl) (by decide) rfl
theorem dX8_image_22 : DR cX8_image 22 (.invokevirtual 95) 3 := dk_182 (bA_sl (a := 0) (j := 22) bkX8_image_0 rfl) (bA_sl (a := 0) (j := 23) bkX8_image_0 rfl) (bA_sl (a := 0) (j := 24) bkX8_image_0 rfl) (by decide) rfl
theorem dX8_image_25 : DR cX8_image 25 (.aload_n 0) 1 := dk_42 (bA_sl (a := 0) (j := 25) bkX8_image_0 rfl)
theorem dX8_image_26 : DR cX8_image 26 (.getfield 38) 3 := dk_180 (bA_sl (a := 0) (j := 26) bkX8_image_0 rfl) (bA_sl (a := 0) (j := 27) bkX8_image_0 rfl) (bA_sl (a := 0) (j := 28) bkX8_image_0 rfl) (by decide) rfl
theorem dX8_image_29 : DR cX8_image 29 (.iload_n 1) 1 := dk_27 (bA_sl (a := 0) (j := 29) bkX8_image_0 rfl)
theorem dX8_image_30 : DR cX8_image 30 (.iconst 1) 1 := dk_4 (bA_sl (a := 0) (j := 30) bkX8_image_0 rfl)
theorem dX8_image_31 : DR cX8_image 31 (.bastore) 1 := dk_84 (bA_sl (a := 0) (j := 31) bkX8_image_0 rfl)
theorem dX8_image_32 : DR cX8_image 32 (.iconst 0) 1 := dk_3 (bA_sl (a := 0) (j := 32) bkX8_image_0 rfl)
theorem dX8_image_33 : DR cX8_image 33 (.ireturn) 1 := dk_172 (bA_sl (a := 0) (j := 33) bkX8_image_0 rfl)
theorem bkX8_restore_0 : ((cX8_restore.data.toList.drop 0).take 64).map UInt8.toNat = [27, 155, 0, 8, 27, 5, 161, 0, 6, 16, 254, 172, 42, 180, 0, 38, 27, 51, 154, 0, 6, 16, 251, 172, 42, 180, 0, 27, 42, 180, 0, 34, 27, 50, 182, 0, 95, 3, 172] := by decide +kernel
theorem dX8_restore_0 : DR cX8_restore 0 (.iload_n 1) 1 := dk_27 (bA_sl (a := 0) (j := 0) bkX8_restore_0 rfl)
theorem dX8_restore_1 : DR cX8_restore 1 (.ifCond .lt 8) 3 := dk_155 (bA_sl (a := 0) (j := 1) bkX8_restore_0 rfl) (bA_sl (a := 0) (j := 2) bkX8_restore_0 rfl) (bA_sl (a := 0) (j := 3) bkX8_restore_0 rfl) (by decide) (by decide)
theorem dX8_restore_4 : DR cX8_restore 4 (.iload_n 1) 1 := dk_27 (bA_sl (a := 0) (j := 4) bkX8_restore_0 rfl)
theorem dX8_restore_5 : DR cX8_restore 5 (.iconst 2) 1 := dk_5 (bA_sl (a := 0) (j := 5) bkX8_restore_0 rfl)
theorem dX8_restore_6 : DR cX8_restore 6 (.if_icmp .lt 6) 3 := dk_161 (bA_sl (a := 0) (j := 6) bkX8_restore_0 rfl) (bA_sl (a := 0) (j := 7) bkX8_restore_0 rfl) (bA_sl (a := 0) (j := 8) bkX8_restore_0 rfl) (by decide) (by decide)
theorem dX8_restore_9 : DR cX8_restore 9 (.bipush (-2)) 2 := dk_16 (bA_sl (a := 0) (j := 9) bkX8_restore_0 rfl) (bA_sl (a := 0) (j := 10) bkX8_restore_0 rfl) (by decide) (by decide)
theorem dX8_restore_11 : DR cX8_restore 11 (.ireturn) 1 := dk_172 (bA_sl (a := 0) (j := 11) bkX8_restore_0 rfl)
theorem dX8_restore_12 : DR cX8_restore 12 (.aload_n 0) 1 := dk_42 (bA_sl (a := 0) (j := 12) bkX8_restore_0 rfl)
theorem dX8_restore_13 : DR cX8_restore 13 (.getfield 38) 3 := dk_180 (bA_sl (a := 0) (j := 13) bkX8_restore_0 rfl) (bA_sl (a := 0) (j := 14) bkX8_restore_0 rfl) (bA_sl (a := 0) (j := 15) bkX8_restore_0 rfl) (by decide) rfl
theorem dX8_restore_16 : DR cX8_restore 16 (.iload_n 1) 1 := dk_27 (bA_sl (a := 0) (j := 16) bkX8_restore_0 rfl)
theorem dX8_restore_17 : DR cX8_restore 17 (.baload) 1 := dk_51 (bA_sl (a := 0) (j := 17) bkX8_restore_0 rfl)
theorem dX8_restore_18 : DR cX8_restore 18 (.ifCond .ne 6) 3 := dk_154 (bA_sl (a := 0) (j := 18) bkX8_restore_0 rfl) (bA_sl (a := 0) (j := 19) bkX8_restore_0 rfl) (bA_sl (a := 0) (j := 20) bkX8_restore_0 rfl) (by decide) (by decide)
theorem dX8_restore_21 : DR cX8_restore 21 (.bipush (-5)) 2 := dk_16 (bA_sl (a := 0) (j := 21) bkX8_restore_0 rfl) (bA_sl (a := 0) (j := 22) bkX8_restore_0 rfl) (by decide) (by decide)
theorem dX8_restore_23 : DR cX8_restore 23 (.ireturn) 1 := dk_172 (bA_sl (a := 0) (j := 23) bkX8_restore_0 rfl)
theorem dX8_restore_24 : DR cX8_restore 24 (.aload_n 0) 1 := dk_42 (bA_sl (a := 0) (j := 24) bkX8_restore_0 rfl)
theorem dX8_restore_25 : DR cX8_restore 25 (.getfield 27) 3 := dk_180 (bA_sl (a := 0) (j := 25) bkX8_restore_0 rfl) (bA_sl (a := 0) (j := 26) bkX8_restore_0 rfl) (bA_sl (a := 0) (j := 27) bkX8_restore_0 rfl) (by decide) rfl
theorem dX8_restore_28 : DR cX8_restore 28 (.aload_n 0) 1 := dk_42 (bA_sl (a := 0) (j := 28) bkX8_restore_0 rfl)
theorem dX8_restore_29 : DR cX8_restore 29 (.getfield 34) 3 := dk_180 (bA_sl (a := 0) (j := 29) bkX8_restore_0 rfl) (bA_sl (a := 0) (j := 30) bkX8_restore_0 rfl) (bA_sl (a := 0) (j := 31) bkX8_restore_0 rfl) (by decide) rfl
theorem dX8_restore_32 : DR cX8_restore 32 (.iload_n 1) 1 := dk_27 (bA_sl (a := 0) (j := 32) bkX8_restore_0 rfl)
theorem dX8_restore_33 : DR cX8_restore 33 (.aaload) 1 := dk_50 (bA_sl (a := 0) (j := 33) bkX8_restore_0 rfl)
theorem dX8_restore_34 : DR cX8_restore 34 (.invokevirtual 95) 3 := dk_182 (bA_sl (a := 0) (j := 34) bkX8_restore_0 rfl) (bA_sl (a := 0) (j := 35) bkX8_restore_0 rfl) (bA_sl (a := 0) (j := 36) bkX8_restore_0 rfl) (by decide) rfl
theorem dX8_restore_37 : DR cX8_restore 37 (.iconst 0) 1 := dk_3 (bA_sl (a := 0) (j := 37) bkX8_restore_0 rfl)
theorem dX8_restore_38 : DR cX8_restore 38 (.ireturn) 1 := dk_172 (bA_sl (a := 0) (j := 38) bkX8_restore_0 rfl)
theorem bkX8_count_0 : ((cX8_count.data.toList.drop 0).take 64).map UInt8.toNat = [27, 170, 0, 0, 0, 0, 0, 182, 0, 0, 0, 0, 0, 0, 0, 12, 0, 0, 0, 67, 0, 0, 0, 75, 0, 0, 0, 83, 0, 0, 0, 91, 0, 0, 0, 99, 0, 0, 0, 107, 0, 0, 0, 115, 0, 0, 0, 123, 0, 0, 0, 131, 0, 0, 0, 139, 0, 0, 0, 154, 0, 0, 0, 169] := by decide +kernel
theorem dX8_count_0 : DR cX8_count 0 (.iload_n 1) 1 := dk_27 (bA_sl (a := 0) (j := 0) bkX8_count_0 rfl)
theorem dX8_count_1 : decode cX8_count 1 = .ok (.tableswitch 182 0 12 #[67, 75, 83, 91, 99, 107, 115, 123, 131, 139, 154, 169, 174], 67) := by decide +kernel
theorem bkX8_count_1 : ((cX8_count.data.toList.drop 64).take 64).map UInt8.toNat = [0, 0, 0, 174, 42, 180, 0, 27, 180, 0, 161, 172, 42, 180, 0, 27, 180, 0, 216, 172, 42, 180, 0, 27, 182, 0, 204, 172, 42, 180, 0, 27, 180, 0, 167, 172, 42, 180, 0, 27, 180, 1, 84, 172, 42, 180, 0, 27, 180, 1, 87, 172, 42, 180, 0, 27, 180, 0, 208, 172, 42, 180, 0, 27] := by decide +kernel
theorem dX8_count_68 : DR cX8_count 68 (.aload_n 0) 1 := dk_42 (bA_sl (a := 64) (j := 4) bkX8_count_1 rfl)
theorem dX8_count_69 : DR cX8_count 69 (.getfield 27) 3 := dk_180 (bA_sl (a := 64) (j := 5) bkX8_count_1 rfl) (bA_sl (a := 64) (j := 6) bkX8_count_1 rfl) (bA_sl (a := 64) (j := 7) bkX8_count_1 rfl) (by decide) rfl
theorem dX8_count_72 : DR cX8_count 72 (.getfield 161) 3 := dk_180 (bA_sl (a := 64) (j := 8) bkX8_count_1 rfl) (bA_sl (a := 64) (j := 9) bkX8_count_1 rfl) (bA_sl (a := 64) (j := 10) bkX8_count_1 rfl) (by decide) rfl
theorem dX8_count_75 : DR cX8_count 75 (.ireturn) 1 := dk_172 (bA_sl (a := 64) (j := 11) bkX8_count_1 rfl)
theorem dX8_count_76 : DR cX8_count 76 (.aload_n 0) 1 := dk_42 (bA_sl (a := 64) (j := 12) bkX8_count_1 rfl)
theorem dX8_count_77 : DR cX8_count 77 (.getfield 27) 3 := dk_180 (bA_sl (a := 64) (j := 13) bkX8_count_1 rfl) (bA_sl (a := 64) (j := 14) bkX8_count_1 rfl) (bA_sl (a := 64) (j := 15) bkX8_count_1 rfl) (by decide) rfl
theorem dX8_count_80 : DR cX8_count 80 (.getfield 216) 3 := dk_180 (bA_sl (a := 64) (j := 16) bkX8_count_1 rfl) (bA_sl (a := 64) (j := 17) bkX8_count_1 rfl) (bA_sl (a := 64) (j := 18) bkX8_count_1 rfl) (by decide) rfl
theorem dX8_count_83 : DR cX8_count 83 (.ireturn) 1 := dk_172 (bA_sl (a := 64) (j := 19) bkX8_count_1 rfl)
theorem dX8_count_84 : DR cX8_count 84 (.aload_n 0) 1 := dk_42 (bA_sl (a := 64) (j := 20) bkX8_count_1 rfl)
theorem dX8_count_85 : DR cX8_count 85 (.getfield 27) 3 := dk_180 (bA_sl (a := 64) (j := 21) bkX8_count_1 rfl) (bA_sl (a := 64) (j := 22) bkX8_count_1 rfl) (bA_sl (a := 64) (j := 23) bkX8_count_1 rfl) (by decide) rfl
theorem dX8_count_88 : DR cX8_count 88 (.invokevirtual 204) 3 := dk_182 (bA_sl (a := 64) (j := 24) bkX8_count_1 rfl) (bA_sl (a := 64) (j := 25) bkX8_count_1 rfl) (bA_sl (a := 64) (j := 26) bkX8_count_1 rfl) (by decide) rfl
theorem dX8_count_91 : DR cX8_count 91 (.ireturn) 1 := dk_172 (bA_sl (a := 64) (j := 27) bkX8_count_1 rfl)
theorem dX8_count_92 : DR cX8_count 92 (.aload_n 0) 1 := dk_42 (bA_sl (a := 64) (j := 28) bkX8_count_1 rfl)
theorem dX8_count_93 : DR cX8_count 93 (.getfield 27) 3 := dk_180 (bA_sl (a := 64) (j := 29) bkX8_count_1 rfl) (bA_sl (a := 64) (j := 30) bkX8_count_1 rfl) (bA_sl (a := 64) (j := 31) bkX8_count_1 rfl) (by decide) rfl
theorem dX8_count_96 : DR cX8_count 96 (.getfield 167) 3 := dk_180 (bA_sl (a := 64) (j := 32) bkX8_count_1 rfl) (bA_sl (a := 64) (j := 33) bkX8_count_1 rfl) (bA_sl (a := 64) (j := 34) bkX8_count_1 rfl) (by decide) rfl
theorem dX8_count_99 : DR cX8_count 99 (.ireturn) 1 := dk_172 (bA_sl (a := 64) (j := 35) bkX8_count_1 rfl)
theorem dX8_count_100 : DR cX8_count 100 (.aload_n 0) 1 := dk_42 (bA_sl (a := 64) (j := 36) bkX8_count_1 rfl)
theorem dX8_count_101 : DR cX8_count 101 (.getfield 27) 3 := dk_180 (bA_sl (a := 64) (j := 37) bkX8_count_1 rfl) (bA_sl (a := 64) (j := 38) bkX8_count_1 rfl) (bA_sl (a := 64) (j := 39) bkX8_count_1 rfl) (by decide) rfl
theorem dX8_count_104 : DR cX8_count 104 (.getfield 340) 3 := dk_180 (bA_sl (a := 64) (j := 40) bkX8_count_1 rfl) (bA_sl (a := 64) (j := 41) bkX8_count_1 rfl) (bA_sl (a := 64) (j := 42) bkX8_count_1 rfl) (by decide) rfl
theorem dX8_count_107 : DR cX8_count 107 (.ireturn) 1 := dk_172 (bA_sl (a := 64) (j := 43) bkX8_count_1 rfl)
theorem dX8_count_108 : DR cX8_count 108 (.aload_n 0) 1 := dk_42 (bA_sl (a := 64) (j := 44) bkX8_count_1 rfl)
theorem dX8_count_109 : DR cX8_count 109 (.getfield 27) 3 := dk_180 (bA_sl (a := 64) (j := 45) bkX8_count_1 rfl) (bA_sl (a := 64) (j := 46) bkX8_count_1 rfl) (bA_sl (a := 64) (j := 47) bkX8_count_1 rfl) (by decide) rfl
theorem dX8_count_112 : DR cX8_count 112 (.getfield 343) 3 := dk_180 (bA_sl (a := 64) (j := 48) bkX8_count_1 rfl) (bA_sl (a := 64) (j := 49) bkX8_count_1 rfl) (bA_sl (a := 64) (j := 50) bkX8_count_1 rfl) (by decide) rfl
theorem dX8_count_115 : DR cX8_count 115 (.ireturn) 1 := dk_172 (bA_sl (a := 64) (j := 51) bkX8_count_1 rfl)
theorem dX8_count_116 : DR cX8_count 116 (.aload_n 0) 1 := dk_42 (bA_sl (a := 64) (j := 52) bkX8_count_1 rfl)
theorem dX8_count_117 : DR cX8_count 117 (.getfield 27) 3 := dk_180 (bA_sl (a := 64) (j := 53) bkX8_count_1 rfl) (bA_sl (a := 64) (j := 54) bkX8_count_1 rfl) (bA_sl (a := 64) (j := 55) bkX8_count_1 rfl) (by decide) rfl
theorem dX8_count_120 : DR cX8_count 120 (.getfield 208) 3 := dk_180 (bA_sl (a := 64) (j := 56) bkX8_count_1 rfl) (bA_sl (a := 64) (j := 57) bkX8_count_1 rfl) (bA_sl (a := 64) (j := 58) bkX8_count_1 rfl) (by decide) rfl
theorem dX8_count_123 : DR cX8_count 123 (.ireturn) 1 := dk_172 (bA_sl (a := 64) (j := 59) bkX8_count_1 rfl)
theorem dX8_count_124 : DR cX8_count 124 (.aload_n 0) 1 := dk_42 (bA_sl (a := 64) (j := 60) bkX8_count_1 rfl)
theorem dX8_count_125 : DR cX8_count 125 (.getfield 27) 3 := dk_180 (bA_sl (a := 64) (j := 61) bkX8_count_1 rfl) (bA_sl (a := 64) (j := 62) bkX8_count_1 rfl) (bA_sl (a := 64) (j := 63) bkX8_count_1 rfl) (by decide) rfl
theorem bkX8_count_2 : ((cX8_count.data.toList.drop 128).take 64).map UInt8.toNat = [180, 0, 222, 172, 42, 180, 0, 27, 180, 1, 90, 172, 42, 180, 0, 27, 42, 180, 0, 27, 180, 0, 112, 182, 0, 200, 172, 42, 180, 0, 27, 42, 180, 0, 27, 180, 0, 125, 182, 0, 200, 172, 42, 180, 0, 13, 172, 42, 180, 0, 27, 180, 0, 99, 172, 2, 172] := by decide +kernel
theorem dX8_count_128 : DR cX8_count 128 (.getfield 222) 3 := dk_180 (bA_sl (a := 128) (j := 0) bkX8_count_2 rfl) (bA_sl (a := 128) (j := 1) bkX8_count_2 rfl) (bA_sl (a := 128) (j := 2) bkX8_count_2 rfl) (by decide) rfl
theorem dX8_count_131 : DR cX8_count 131 (.ireturn) 1 := dk_172 (bA_sl (a := 128) (j := 3) bkX8_count_2 rfl)
theorem dX8_count_132 : DR cX8_count 132 (.aload_n 0) 1 := dk_42 (bA_sl (a := 128) (j := 4) bkX8_count_2 rfl)
theorem dX8_count_133 : DR cX8_count 133 (.getfield 27) 3 := dk_180 (bA_sl (a := 128) (j := 5) bkX8_count_2 rfl) (bA_sl (a := 128) (j := 6) bkX8_count_2 rfl) (bA_sl (a := 128) (j := 7) bkX8_count_2 rfl) (by decide) rfl
theorem dX8_count_136 : DR cX8_count 136 (.getfield 346) 3 := dk_180 (bA_sl (a := 128) (j := 8) bkX8_count_2 rfl) (bA_sl (a := 128) (j := 9) bkX8_count_2 rfl) (bA_sl (a := 128) (j := 10) bkX8_count_2 rfl) (by decide) rfl
theorem dX8_count_139 : DR cX8_count 139 (.ireturn) 1 := dk_172 (bA_sl (a := 128) (j := 11) bkX8_count_2 rfl)
theorem dX8_count_140 : DR cX8_count 140 (.aload_n 0) 1 := dk_42 (bA_sl (a := 128) (j := 12) bkX8_count_2 rfl)
theorem dX8_count_141 : DR cX8_count 141 (.getfield 27) 3 := dk_180 (bA_sl (a := 128) (j := 13) bkX8_count_2 rfl) (bA_sl (a := 128) (j := 14) bkX8_count_2 rfl) (bA_sl (a := 128) (j := 15) bkX8_count_2 rfl) (by decide) rfl
theorem dX8_count_144 : DR cX8_count 144 (.aload_n 0) 1 := dk_42 (bA_sl (a := 128) (j := 16) bkX8_count_2 rfl)
theorem dX8_count_145 : DR cX8_count 145 (.getfield 27) 3 := dk_180 (bA_sl (a := 128) (j := 17) bkX8_count_2 rfl) (bA_sl (a := 128) (j := 18) bkX8_count_2 rfl) (bA_sl (a := 128) (j := 19) bkX8_count_2 rfl) (by decide) rfl
theorem dX8_count_148 : DR cX8_count 148 (.getfield 112) 3 := dk_180 (bA_sl (a := 128) (j := 20) bkX8_count_2 rfl) (bA_sl (a := 128) (j := 21) bkX8_count_2 rfl) (bA_sl (a := 128) (j := 22) bkX8_count_2 rfl) (by decide) rfl
theorem dX8_count_151 : DR cX8_count 151 (.invokevirtual 200) 3 := dk_182 (bA_sl (a := 128) (j := 23) bkX8_count_2 rfl) (bA_sl (a := 128) (j := 24) bkX8_count_2 rfl) (bA_sl (a := 128) (j := 25) bkX8_count_2 rfl) (by decide) rfl
theorem dX8_count_154 : DR cX8_count 154 (.ireturn) 1 := dk_172 (bA_sl (a := 128) (j := 26) bkX8_count_2 rfl)
theorem dX8_count_155 : DR cX8_count 155 (.aload_n 0) 1 := dk_42 (bA_sl (a := 128) (j := 27) bkX8_count_2 rfl)
theorem dX8_count_156 : DR cX8_count 156 (.getfield 27) 3 := dk_180 (bA_sl (a := 128) (j := 28) bkX8_count_2 rfl) (bA_sl (a := 128) (j := 29) bkX8_count_2 rfl) (bA_sl (a := 128) (j := 30) bkX8_count_2 rfl) (by decide) rfl
theorem dX8_count_159 : DR cX8_count 159 (.aload_n 0) 1 := dk_42 (bA_sl (a := 128) (j := 31) bkX8_count_2 rfl)
theorem dX8_count_160 : DR cX8_count 160 (.getfield 27) 3 := dk_180 (bA_sl (a := 128) (j := 32) bkX8_count_2 rfl) (bA_sl (a := 128) (j := 33) bkX8_count_2 rfl) (bA_sl (a := 128) (j := 34) bkX8_count_2 rfl) (by decide) rfl
theorem dX8_count_163 : DR cX8_count 163 (.getfield 125) 3 := dk_180 (bA_sl (a := 128) (j := 35) bkX8_count_2 rfl) (bA_sl (a := 128) (j := 36) bkX8_count_2 rfl) (bA_sl (a := 128) (j := 37) bkX8_count_2 rfl) (by decide) rfl
theorem dX8_count_166 : DR cX8_count 166 (.invokevirtual 200) 3 := dk_182 (bA_sl (a := 128) (j := 38) bkX8_count_2 rfl) (bA_sl (a := 128) (j := 39) bkX8_count_2 rfl) (bA_sl (a := 128) (j := 40) bkX8_count_2 rfl) (by decide) rfl
theorem dX8_count_169 : DR cX8_count 169 (.ireturn) 1 := dk_172 (bA_sl (a := 128) (j := 41) bkX8_count_2 rfl)
theorem dX8_count_170 : DR cX8_count 170 (.aload_n 0) 1 := dk_42 (bA_sl (a := 128) (j := 42) bkX8_count_2 rfl)
theorem dX8_count_171 : DR cX8_count 171 (.getfield 13) 3 := dk_180 (bA_sl (a := 128) (j := 43) bkX8_count_2 rfl) (bA_sl (a := 128) (j := 44) bkX8_count_2 rfl) (bA_sl (a := 128) (j := 45) bkX8_count_2 rfl) (by decide) rfl
theorem dX8_count_174 : DR cX8_count 174 (.ireturn) 1 := dk_172 (bA_sl (a := 128) (j := 46) bkX8_count_2 rfl)
theorem dX8_count_175 : DR cX8_count 175 (.aload_n 0) 1 := dk_42 (bA_sl (a := 128) (j := 47) bkX8_count_2 rfl)
theorem dX8_count_176 : DR cX8_count 176 (.getfield 27) 3 := dk_180 (bA_sl (a := 128) (j := 48) bkX8_count_2 rfl) (bA_sl (a := 128) (j := 49) bkX8_count_2 rfl) (bA_sl (a := 128) (j := 50) bkX8_count_2 rfl) (by decide) rfl
theorem dX8_count_179 : DR cX8_count 179 (.getfield 99) 3 := dk_180 (bA_sl (a := 128) (j := 51) bkX8_count_2 rfl) (bA_sl (a := 128) (j := 52) bkX8_count_2 rfl) (bA_sl (a := 128) (j := 53) bkX8_count_2 rfl) (by decide) rfl
theorem dX8_count_182 : DR cX8_count 182 (.ireturn) 1 := dk_172 (bA_sl (a := 128) (j := 54) bkX8_count_2 rfl)
theorem dX8_count_183 : DR cX8_count 183 (.iconst (-1)) 1 := dk_2 (bA_sl (a := 128) (j := 55) bkX8_count_2 rfl)
theorem dX8_count_184 : DR cX8_count 184 (.ireturn) 1 := dk_172 (bA_sl (a := 128) (j := 56) bkX8_count_2 rfl)
theorem bkX8_tapeInt_0 : ((cX8_tapeInt.data.toList.drop 0).take 64).map UInt8.toNat = [16, 24, 61, 28, 155, 0, 42, 42, 180, 0, 13, 17, 3, 132, 162, 0, 32, 42, 180, 0, 9, 42, 180, 0, 13, 27, 28, 124, 145, 84, 42, 89, 180, 0, 13, 4, 96, 181, 0, 13, 132, 2, 248, 167, 255, 216, 177] := by decide +kernel
theorem dX8_tapeInt_0 : DR cX8_tapeInt 0 (.bipush 24) 2 := dk_16 (bA_sl (a := 0) (j := 0) bkX8_tapeInt_0 rfl) (bA_sl (a := 0) (j := 1) bkX8_tapeInt_0 rfl) (by decide) (by decide)
theorem dX8_tapeInt_2 : DR cX8_tapeInt 2 (.istore_n 2) 1 := dk_61 (bA_sl (a := 0) (j := 2) bkX8_tapeInt_0 rfl)
theorem dX8_tapeInt_3 : DR cX8_tapeInt 3 (.iload_n 2) 1 := dk_28 (bA_sl (a := 0) (j := 3) bkX8_tapeInt_0 rfl)
theorem dX8_tapeInt_4 : DR cX8_tapeInt 4 (.ifCond .lt 42) 3 := dk_155 (bA_sl (a := 0) (j := 4) bkX8_tapeInt_0 rfl) (bA_sl (a := 0) (j := 5) bkX8_tapeInt_0 rfl) (bA_sl (a := 0) (j := 6) bkX8_tapeInt_0 rfl) (by decide) (by decide)
theorem dX8_tapeInt_7 : DR cX8_tapeInt 7 (.aload_n 0) 1 := dk_42 (bA_sl (a := 0) (j := 7) bkX8_tapeInt_0 rfl)
theorem dX8_tapeInt_8 : DR cX8_tapeInt 8 (.getfield 13) 3 := dk_180 (bA_sl (a := 0) (j := 8) bkX8_tapeInt_0 rfl) (bA_sl (a := 0) (j := 9) bkX8_tapeInt_0 rfl) (bA_sl (a := 0) (j := 10) bkX8_tapeInt_0 rfl) (by decide) rfl
theorem dX8_tapeInt_11 : DR cX8_tapeInt 11 (.sipush 900) 3 := dk_17 (bA_sl (a := 0) (j := 11) bkX8_tapeInt_0 rfl) (bA_sl (a := 0) (j := 12) bkX8_tapeInt_0 rfl) (bA_sl (a := 0) (j := 13) bkX8_tapeInt_0 rfl) (by decide) (by decide)
theorem dX8_tapeInt_14 : DR cX8_tapeInt 14 (.if_icmp .ge 32) 3 := dk_162 (bA_sl (a := 0) (j := 14) bkX8_tapeInt_0 rfl) (bA_sl (a := 0) (j := 15) bkX8_tapeInt_0 rfl) (bA_sl (a := 0) (j := 16) bkX8_tapeInt_0 rfl) (by decide) (by decide)
theorem dX8_tapeInt_17 : DR cX8_tapeInt 17 (.aload_n 0) 1 := dk_42 (bA_sl (a := 0) (j := 17) bkX8_tapeInt_0 rfl)
theorem dX8_tapeInt_18 : DR cX8_tapeInt 18 (.getfield 9) 3 := dk_180 (bA_sl (a := 0) (j := 18) bkX8_tapeInt_0 rfl) (bA_sl (a := 0) (j := 19) bkX8_tapeInt_0 rfl) (bA_sl (a := 0) (j := 20) bkX8_tapeInt_0 rfl) (by decide) rfl
theorem dX8_tapeInt_21 : DR cX8_tapeInt 21 (.aload_n 0) 1 := dk_42 (bA_sl (a := 0) (j := 21) bkX8_tapeInt_0 rfl)
theorem dX8_tapeInt_22 : DR cX8_tapeInt 22 (.getfield 13) 3 := dk_180 (bA_sl (a := 0) (j := 22) bkX8_tapeInt_0 rfl) (bA_sl (a := 0) (j := 23) bkX8_tapeInt_0 rfl) (bA_sl (a := 0) (j := 24) bkX8_tapeInt_0 rfl) (by decide) rfl
theorem dX8_tapeInt_25 : DR cX8_tapeInt 25 (.iload_n 1) 1 := dk_27 (bA_sl (a := 0) (j := 25) bkX8_tapeInt_0 rfl)
theorem dX8_tapeInt_26 : DR cX8_tapeInt 26 (.iload_n 2) 1 := dk_28 (bA_sl (a := 0) (j := 26) bkX8_tapeInt_0 rfl)
theorem dX8_tapeInt_27 : DR cX8_tapeInt 27 (.iushr) 1 := dk_124 (bA_sl (a := 0) (j := 27) bkX8_tapeInt_0 rfl)
theorem dX8_tapeInt_28 : DR cX8_tapeInt 28 (.i2b) 1 := dk_145 (bA_sl (a := 0) (j := 28) bkX8_tapeInt_0 rfl)
theorem dX8_tapeInt_29 : DR cX8_tapeInt 29 (.bastore) 1 := dk_84 (bA_sl (a := 0) (j := 29) bkX8_tapeInt_0 rfl)
theorem dX8_tapeInt_30 : DR cX8_tapeInt 30 (.aload_n 0) 1 := dk_42 (bA_sl (a := 0) (j := 30) bkX8_tapeInt_0 rfl)
theorem dX8_tapeInt_31 : DR cX8_tapeInt 31 (.dup) 1 := dk_89 (bA_sl (a := 0) (j := 31) bkX8_tapeInt_0 rfl)
theorem dX8_tapeInt_32 : DR cX8_tapeInt 32 (.getfield 13) 3 := dk_180 (bA_sl (a := 0) (j := 32) bkX8_tapeInt_0 rfl) (bA_sl (a := 0) (j := 33) bkX8_tapeInt_0 rfl) (bA_sl (a := 0) (j := 34) bkX8_tapeInt_0 rfl) (by decide) rfl
theorem dX8_tapeInt_35 : DR cX8_tapeInt 35 (.iconst 1) 1 := dk_4 (bA_sl (a := 0) (j := 35) bkX8_tapeInt_0 rfl)
theorem dX8_tapeInt_36 : DR cX8_tapeInt 36 (.iadd) 1 := dk_96 (bA_sl (a := 0) (j := 36) bkX8_tapeInt_0 rfl)
theorem dX8_tapeInt_37 : DR cX8_tapeInt 37 (.putfield 13) 3 := dk_181 (bA_sl (a := 0) (j := 37) bkX8_tapeInt_0 rfl) (bA_sl (a := 0) (j := 38) bkX8_tapeInt_0 rfl) (bA_sl (a := 0) (j := 39) bkX8_tapeInt_0 rfl) (by decide) rfl
theorem dX8_tapeInt_40 : DR cX8_tapeInt 40 (.iinc 2 (-8)) 3 := dk_132 (bA_sl (a := 0) (j := 40) bkX8_tapeInt_0 rfl) (bA_sl (a := 0) (j := 41) bkX8_tapeInt_0 rfl) (bA_sl (a := 0) (j := 42) bkX8_tapeInt_0 rfl) (by decide) (by decide)
theorem dX8_tapeInt_43 : DR cX8_tapeInt 43 (.goto (-40)) 3 := dk_167 (bA_sl (a := 0) (j := 43) bkX8_tapeInt_0 rfl) (bA_sl (a := 0) (j := 44) bkX8_tapeInt_0 rfl) (bA_sl (a := 0) (j := 45) bkX8_tapeInt_0 rfl) (by decide) (by decide)
theorem dX8_tapeInt_46 : DR cX8_tapeInt 46 (.return_) 1 := dk_177 (bA_sl (a := 0) (j := 46) bkX8_tapeInt_0 rfl)
theorem bkX8_isFarm_0 : ((cX8_isFarm.data.toList.drop 0).take 64).map UInt8.toNat = [26, 155, 0, 13, 26, 16, 6, 162, 0, 7, 4, 167, 0, 4, 3, 172] := by decide +kernel
theorem dX8_isFarm_0 : DR cX8_isFarm 0 (.iload_n 0) 1 := dk_26 (bA_sl (a := 0) (j := 0) bkX8_isFarm_0 rfl)
theorem dX8_isFarm_1 : DR cX8_isFarm 1 (.ifCond .lt 13) 3 := dk_155 (bA_sl (a := 0) (j := 1) bkX8_isFarm_0 rfl) (bA_sl (a := 0) (j := 2) bkX8_isFarm_0 rfl) (bA_sl (a := 0) (j := 3) bkX8_isFarm_0 rfl) (by decide) (by decide)
theorem dX8_isFarm_4 : DR cX8_isFarm 4 (.iload_n 0) 1 := dk_26 (bA_sl (a := 0) (j := 4) bkX8_isFarm_0 rfl)
theorem dX8_isFarm_5 : DR cX8_isFarm 5 (.bipush 6) 2 := dk_16 (bA_sl (a := 0) (j := 5) bkX8_isFarm_0 rfl) (bA_sl (a := 0) (j := 6) bkX8_isFarm_0 rfl) (by decide) (by decide)
theorem dX8_isFarm_7 : DR cX8_isFarm 7 (.if_icmp .ge 7) 3 := dk_162 (bA_sl (a := 0) (j := 7) bkX8_isFarm_0 rfl) (bA_sl (a := 0) (j := 8) bkX8_isFarm_0 rfl) (bA_sl (a := 0) (j := 9) bkX8_isFarm_0 rfl) (by decide) (by decide)
theorem dX8_isFarm_10 : DR cX8_isFarm 10 (.iconst 1) 1 := dk_4 (bA_sl (a := 0) (j := 10) bkX8_isFarm_0 rfl)
theorem dX8_isFarm_11 : DR cX8_isFarm 11 (.goto 4) 3 := dk_167 (bA_sl (a := 0) (j := 11) bkX8_isFarm_0 rfl) (bA_sl (a := 0) (j := 12) bkX8_isFarm_0 rfl) (bA_sl (a := 0) (j := 13) bkX8_isFarm_0 rfl) (by decide) (by decide)
theorem dX8_isFarm_14 : DR cX8_isFarm 14 (.iconst 0) 1 := dk_3 (bA_sl (a := 0) (j := 14) bkX8_isFarm_0 rfl)
theorem dX8_isFarm_15 : DR cX8_isFarm 15 (.ireturn) 1 := dk_172 (bA_sl (a := 0) (j := 15) bkX8_isFarm_0 rfl)
theorem bkX8_isRow_0 : ((cX8_isRow.data.toList.drop 0).take 64).map UInt8.toNat = [26, 155, 0, 12, 26, 7, 162, 0, 7, 4, 167, 0, 4, 3, 172] := by decide +kernel
theorem dX8_isRow_0 : DR cX8_isRow 0 (.iload_n 0) 1 := dk_26 (bA_sl (a := 0) (j := 0) bkX8_isRow_0 rfl)
theorem dX8_isRow_1 : DR cX8_isRow 1 (.ifCond .lt 12) 3 := dk_155 (bA_sl (a := 0) (j := 1) bkX8_isRow_0 rfl) (bA_sl (a := 0) (j := 2) bkX8_isRow_0 rfl) (bA_sl (a := 0) (j := 3) bkX8_isRow_0 rfl) (by decide) (by decide)
theorem dX8_isRow_4 : DR cX8_isRow 4 (.iload_n 0) 1 := dk_26 (bA_sl (a := 0) (j := 4) bkX8_isRow_0 rfl)
theorem dX8_isRow_5 : DR cX8_isRow 5 (.iconst 4) 1 := dk_7 (bA_sl (a := 0) (j := 5) bkX8_isRow_0 rfl)
theorem dX8_isRow_6 : DR cX8_isRow 6 (.if_icmp .ge 7) 3 := dk_162 (bA_sl (a := 0) (j := 6) bkX8_isRow_0 rfl) (bA_sl (a := 0) (j := 7) bkX8_isRow_0 rfl) (bA_sl (a := 0) (j := 8) bkX8_isRow_0 rfl) (by decide) (by decide)
theorem dX8_isRow_9 : DR cX8_isRow 9 (.iconst 1) 1 := dk_4 (bA_sl (a := 0) (j := 9) bkX8_isRow_0 rfl)
theorem dX8_isRow_10 : DR cX8_isRow 10 (.goto 4) 3 := dk_167 (bA_sl (a := 0) (j := 10) bkX8_isRow_0 rfl) (bA_sl (a := 0) (j := 11) bkX8_isRow_0 rfl) (bA_sl (a := 0) (j := 12) bkX8_isRow_0 rfl) (by decide) (by decide)
theorem dX8_isRow_13 : DR cX8_isRow 13 (.iconst 0) 1 := dk_3 (bA_sl (a := 0) (j := 13) bkX8_isRow_0 rfl)
theorem dX8_isRow_14 : DR cX8_isRow 14 (.ireturn) 1 := dk_172 (bA_sl (a := 0) (j := 14) bkX8_isRow_0 rfl)
theorem bkX8_isAskable_0 : ((cX8_isAskable.data.toList.drop 0).take 64).map UInt8.toNat = [26, 155, 0, 8, 26, 27, 164, 0, 15, 26, 16, 10, 161, 0, 13, 26, 16, 18, 162, 0, 7, 4, 167, 0, 4, 3, 172] := by decide +kernel
theorem dX8_isAskable_0 : DR cX8_isAskable 0 (.iload_n 0) 1 := dk_26 (bA_sl (a := 0) (j := 0) bkX8_isAskable_0 rfl)
theorem dX8_isAskable_1 : DR cX8_isAskable 1 (.ifCond .lt 8) 3 := dk_155 (bA_sl (a := 0) (j := 1) bkX8_isAskable_0 rfl) (bA_sl (a := 0) (j := 2) bkX8_isAskable_0 rfl) (bA_sl (a := 0) (j := 3) bkX8_isAskable_0 rfl) (by decide) (by decide)
theorem dX8_isAskable_4 : DR cX8_isAskable 4 (.iload_n 0) 1 := dk_26 (bA_sl (a := 0) (j := 4) bkX8_isAskable_0 rfl)
theorem dX8_isAskable_5 : DR cX8_isAskable 5 (.iload_n 1) 1 := dk_27 (bA_sl (a := 0) (j := 5) bkX8_isAskable_0 rfl)
theorem dX8_isAskable_6 : DR cX8_isAskable 6 (.if_icmp .le 15) 3 := dk_164 (bA_sl (a := 0) (j := 6) bkX8_isAskable_0 rfl) (bA_sl (a := 0) (j := 7) bkX8_isAskable_0 rfl) (bA_sl (a := 0) (j := 8) bkX8_isAskable_0 rfl) (by decide) (by decide)
theorem dX8_isAskable_9 : DR cX8_isAskable 9 (.iload_n 0) 1 := dk_26 (bA_sl (a := 0) (j := 9) bkX8_isAskable_0 rfl)
theorem dX8_isAskable_10 : DR cX8_isAskable 10 (.bipush 10) 2 := dk_16 (bA_sl (a := 0) (j := 10) bkX8_isAskable_0 rfl) (bA_sl (a := 0) (j := 11) bkX8_isAskable_0 rfl) (by decide) (by decide)
theorem dX8_isAskable_12 : DR cX8_isAskable 12 (.if_icmp .lt 13) 3 := dk_161 (bA_sl (a := 0) (j := 12) bkX8_isAskable_0 rfl) (bA_sl (a := 0) (j := 13) bkX8_isAskable_0 rfl) (bA_sl (a := 0) (j := 14) bkX8_isAskable_0 rfl) (by decide) (by decide)
theorem dX8_isAskable_15 : DR cX8_isAskable 15 (.iload_n 0) 1 := dk_26 (bA_sl (a := 0) (j := 15) bkX8_isAskable_0 rfl)
theorem dX8_isAskable_16 : DR cX8_isAskable 16 (.bipush 18) 2 := dk_16 (bA_sl (a := 0) (j := 16) bkX8_isAskable_0 rfl) (bA_sl (a := 0) (j := 17) bkX8_isAskable_0 rfl) (by decide) (by decide)
theorem dX8_isAskable_18 : DR cX8_isAskable 18 (.if_icmp .ge 7) 3 := dk_162 (bA_sl (a := 0) (j := 18) bkX8_isAskable_0 rfl) (bA_sl (a := 0) (j := 19) bkX8_isAskable_0 rfl) (bA_sl (a := 0) (j := 20) bkX8_isAskable_0 rfl) (by decide) (by decide)
theorem dX8_isAskable_21 : DR cX8_isAskable 21 (.iconst 1) 1 := dk_4 (bA_sl (a := 0) (j := 21) bkX8_isAskable_0 rfl)
theorem dX8_isAskable_22 : DR cX8_isAskable 22 (.goto 4) 3 := dk_167 (bA_sl (a := 0) (j := 22) bkX8_isAskable_0 rfl) (bA_sl (a := 0) (j := 23) bkX8_isAskable_0 rfl) (bA_sl (a := 0) (j := 24) bkX8_isAskable_0 rfl) (by decide) (by decide)
theorem dX8_isAskable_25 : DR cX8_isAskable 25 (.iconst 0) 1 := dk_3 (bA_sl (a := 0) (j := 25) bkX8_isAskable_0 rfl)
theorem dX8_isAskable_26 : DR cX8_isAskable 26 (.ireturn) 1 := dk_172 (bA_sl (a := 0) (j := 26) bkX8_isAskable_0 rfl)
theorem bkX8_nextDraw_0 : ((cX8_nextDraw.data.toList.drop 0).take 64).map UInt8.toNat = [19, 1, 93, 26, 104, 17, 48, 57, 96, 172] := by decide +kernel
theorem dX8_nextDraw_0 : DR cX8_nextDraw 0 (.ldc_w 349) 3 := dk_19 (bA_sl (a := 0) (j := 0) bkX8_nextDraw_0 rfl) (bA_sl (a := 0) (j := 1) bkX8_nextDraw_0 rfl) (bA_sl (a := 0) (j := 2) bkX8_nextDraw_0 rfl) (by decide) rfl
theorem dX8_nextDraw_3 : DR cX8_nextDraw 3 (.iload_n 0) 1 := dk_26 (bA_sl (a := 0) (j := 3) bkX8_nextDraw_0 rfl)
theorem dX8_nextDraw_4 : DR cX8_nextDraw 4 (.imul) 1 := dk_104 (bA_sl (a := 0) (j := 4) bkX8_nextDraw_0 rfl)
theorem dX8_nextDraw_5 : DR cX8_nextDraw 5 (.sipush 12345) 3 := dk_17 (bA_sl (a := 0) (j := 5) bkX8_nextDraw_0 rfl) (bA_sl (a := 0) (j := 6) bkX8_nextDraw_0 rfl) (bA_sl (a := 0) (j := 7) bkX8_nextDraw_0 rfl) (by decide) (by decide)
theorem dX8_nextDraw_8 : DR cX8_nextDraw 8 (.iadd) 1 := dk_96 (bA_sl (a := 0) (j := 8) bkX8_nextDraw_0 rfl)
theorem dX8_nextDraw_9 : DR cX8_nextDraw 9 (.ireturn) 1 := dk_172 (bA_sl (a := 0) (j := 9) bkX8_nextDraw_0 rfl)
theorem bkX8_refusedSearch_0 : ((cX8_refusedSearch.data.toList.drop 0).take 64).map UInt8.toNat = [27, 154, 0, 6, 16, 254, 172, 28, 4, 161, 0, 8, 28, 29, 164, 0, 6, 16, 253, 172, 42, 180, 0, 27, 180, 0, 161, 154, 0, 8, 16, 251, 167, 0, 4, 3, 172] := by decide +kernel
theorem dX8_refusedSearch_0 : DR cX8_refusedSearch 0 (.iload_n 1) 1 := dk_27 (bA_sl (a := 0) (j := 0) bkX8_refusedSearch_0 rfl)
theorem dX8_refusedSearch_1 : DR cX8_refusedSearch 1 (.ifCond .ne 6) 3 := dk_154 (bA_sl (a := 0) (j := 1) bkX8_refusedSearch_0 rfl) (bA_sl (a := 0) (j := 2) bkX8_refusedSearch_0 rfl) (bA_sl (a := 0) (j := 3) bkX8_refusedSearch_0 rfl) (by decide) (by decide)
theorem dX8_refusedSearch_4 : DR cX8_refusedSearch 4 (.bipush (-2)) 2 := dk_16 (bA_sl (a := 0) (j := 4) bkX8_refusedSearch_0 rfl) (bA_sl (a := 0) (j := 5) bkX8_refusedSearch_0 rfl) (by decide) (by decide)
theorem dX8_refusedSearch_6 : DR cX8_refusedSearch 6 (.ireturn) 1 := dk_172 (bA_sl (a := 0) (j := 6) bkX8_refusedSearch_0 rfl)
theorem dX8_refusedSearch_7 : DR cX8_refusedSearch 7 (.iload_n 2) 1 := dk_28 (bA_sl (a := 0) (j := 7) bkX8_refusedSearch_0 rfl)
theorem dX8_refusedSearch_8 : DR cX8_refusedSearch 8 (.iconst 1) 1 := dk_4 (bA_sl (a := 0) (j := 8) bkX8_refusedSearch_0 rfl)
theorem dX8_refusedSearch_9 : DR cX8_refusedSearch 9 (.if_icmp .lt 8) 3 := dk_161 (bA_sl (a := 0) (j := 9) bkX8_refusedSearch_0 rfl) (bA_sl (a := 0) (j := 10) bkX8_refusedSearch_0 rfl) (bA_sl (a := 0) (j := 11) bkX8_refusedSearch_0 rfl) (by decide) (by decide)
theorem dX8_refusedSearch_12 : DR cX8_refusedSearch 12 (.iload_n 2) 1 := dk_28 (bA_sl (a := 0) (j := 12) bkX8_refusedSearch_0 rfl)
theorem dX8_refusedSearch_13 : DR cX8_refusedSearch 13 (.iload_n 3) 1 := dk_29 (bA_sl (a := 0) (j := 13) bkX8_refusedSearch_0 rfl)
theorem dX8_refusedSearch_14 : DR cX8_refusedSearch 14 (.if_icmp .le 6) 3 := dk_164 (bA_sl (a := 0) (j := 14) bkX8_refusedSearch_0 rfl) (bA_sl (a := 0) (j := 15) bkX8_refusedSearch_0 rfl) (bA_sl (a := 0) (j := 16) bkX8_refusedSearch_0 rfl) (by decide) (by decide)
theorem dX8_refusedSearch_17 : DR cX8_refusedSearch 17 (.bipush (-3)) 2 := dk_16 (bA_sl (a := 0) (j := 17) bkX8_refusedSearch_0 rfl) (bA_sl (a := 0) (j := 18) bkX8_refusedSearch_0 rfl) (by decide) (by decide)
theorem dX8_refusedSearch_19 : DR cX8_refusedSearch 19 (.ireturn) 1 := dk_172 (bA_sl (a := 0) (j := 19) bkX8_refusedSearch_0 rfl)
theorem dX8_refusedSearch_20 : DR cX8_refusedSearch 20 (.aload_n 0) 1 := dk_42 (bA_sl (a := 0) (j := 20) bkX8_refusedSearch_0 rfl)
theorem dX8_refusedSearch_21 : DR cX8_refusedSearch 21 (.getfield 27) 3 := dk_180 (bA_sl (a := 0) (j := 21) bkX8_refusedSearch_0 rfl) (bA_sl (a := 0) (j := 22) bkX8_refusedSearch_0 rfl) (bA_sl (a := 0) (j := 23) bkX8_refusedSearch_0 rfl) (by decide) rfl
theorem dX8_refusedSearch_24 : DR cX8_refusedSearch 24 (.getfield 161) 3 := dk_180 (bA_sl (a := 0) (j := 24) bkX8_refusedSearch_0 rfl) (bA_sl (a := 0) (j := 25) bkX8_refusedSearch_0 rfl) (bA_sl (a := 0) (j := 26) bkX8_refusedSearch_0 rfl) (by decide) rfl
theorem dX8_refusedSearch_27 : DR cX8_refusedSearch 27 (.ifCond .ne 8) 3 := dk_154 (bA_sl (a := 0) (j := 27) bkX8_refusedSearch_0 rfl) (bA_sl (a := 0) (j := 28) bkX8_refusedSearch_0 rfl) (bA_sl (a := 0) (j := 29) bkX8_refusedSearch_0 rfl) (by decide) (by decide)
theorem dX8_refusedSearch_30 : DR cX8_refusedSearch 30 (.bipush (-5)) 2 := dk_16 (bA_sl (a := 0) (j := 30) bkX8_refusedSearch_0 rfl) (bA_sl (a := 0) (j := 31) bkX8_refusedSearch_0 rfl) (by decide) (by decide)
theorem dX8_refusedSearch_32 : DR cX8_refusedSearch 32 (.goto 4) 3 := dk_167 (bA_sl (a := 0) (j := 32) bkX8_refusedSearch_0 rfl) (bA_sl (a := 0) (j := 33) bkX8_refusedSearch_0 rfl) (bA_sl (a := 0) (j := 34) bkX8_refusedSearch_0 rfl) (by decide) (by decide)
theorem dX8_refusedSearch_35 : DR cX8_refusedSearch 35 (.iconst 0) 1 := dk_3 (bA_sl (a := 0) (j := 35) bkX8_refusedSearch_0 rfl)
theorem dX8_refusedSearch_36 : DR cX8_refusedSearch 36 (.ireturn) 1 := dk_172 (bA_sl (a := 0) (j := 36) bkX8_refusedSearch_0 rfl)
theorem bkX8_possibleMinutes_0 : ((cX8_possibleMinutes.data.toList.drop 0).take 64).map UInt8.toNat = [27, 42, 180, 0, 27, 180, 0, 208, 17, 39, 15, 42, 180, 0, 27, 180, 0, 216, 100, 184, 0, 211, 184, 0, 211, 172] := by decide +kernel
theorem dX8_possibleMinutes_0 : DR cX8_possibleMinutes 0 (.iload_n 1) 1 := dk_27 (bA_sl (a := 0) (j := 0) bkX8_possibleMinutes_0 rfl)
theorem dX8_possibleMinutes_1 : DR cX8_possibleMinutes 1 (.aload_n 0) 1 := dk_42 (bA_sl (a := 0) (j := 1) bkX8_possibleMinutes_0 rfl)
theorem dX8_possibleMinutes_2 : DR cX8_possibleMinutes 2 (.getfield 27) 3 := dk_180 (bA_sl (a := 0) (j := 2) bkX8_possibleMinutes_0 rfl) (bA_sl (a := 0) (j := 3) bkX8_possibleMinutes_0 rfl) (bA_sl (a := 0) (j := 4) bkX8_possibleMinutes_0 rfl) (by decide) rfl
theorem dX8_possibleMinutes_5 : DR cX8_possibleMinutes 5 (.getfield 208) 3 := dk_180 (bA_sl (a := 0) (j := 5) bkX8_possibleMinutes_0 rfl) (bA_sl (a := 0) (j := 6) bkX8_possibleMinutes_0 rfl) (bA_sl (a := 0) (j := 7) bkX8_possibleMinutes_0 rfl) (by decide) rfl
theorem dX8_possibleMinutes_8 : DR cX8_possibleMinutes 8 (.sipush 9999) 3 := dk_17 (bA_sl (a := 0) (j := 8) bkX8_possibleMinutes_0 rfl) (bA_sl (a := 0) (j := 9) bkX8_possibleMinutes_0 rfl) (bA_sl (a := 0) (j := 10) bkX8_possibleMinutes_0 rfl) (by decide) (by decide)
theorem dX8_possibleMinutes_11 : DR cX8_possibleMinutes 11 (.aload_n 0) 1 := dk_42 (bA_sl (a := 0) (j := 11) bkX8_possibleMinutes_0 rfl)
theorem dX8_possibleMinutes_12 : DR cX8_possibleMinutes 12 (.getfield 27) 3 := dk_180 (bA_sl (a := 0) (j := 12) bkX8_possibleMinutes_0 rfl) (bA_sl (a := 0) (j := 13) bkX8_possibleMinutes_0 rfl) (bA_sl (a := 0) (j := 14) bkX8_possibleMinutes_0 rfl) (by decide) rfl
theorem dX8_possibleMinutes_15 : DR cX8_possibleMinutes 15 (.getfield 216) 3 := dk_180 (bA_sl (a := 0) (j := 15) bkX8_possibleMinutes_0 rfl) (bA_sl (a := 0) (j := 16) bkX8_possibleMinutes_0 rfl) (bA_sl (a := 0) (j := 17) bkX8_possibleMinutes_0 rfl) (by decide) rfl
theorem dX8_possibleMinutes_18 : DR cX8_possibleMinutes 18 (.isub) 1 := dk_100 (bA_sl (a := 0) (j := 18) bkX8_possibleMinutes_0 rfl)
theorem dX8_possibleMinutes_19 : DR cX8_possibleMinutes 19 (.invokestatic 211) 3 := dk_184 (bA_sl (a := 0) (j := 19) bkX8_possibleMinutes_0 rfl) (bA_sl (a := 0) (j := 20) bkX8_possibleMinutes_0 rfl) (bA_sl (a := 0) (j := 21) bkX8_possibleMinutes_0 rfl) (by decide) rfl
theorem dX8_possibleMinutes_22 : DR cX8_possibleMinutes 22 (.invokestatic 211) 3 := dk_184 (bA_sl (a := 0) (j := 22) bkX8_possibleMinutes_0 rfl) (bA_sl (a := 0) (j := 23) bkX8_possibleMinutes_0 rfl) (bA_sl (a := 0) (j := 24) bkX8_possibleMinutes_0 rfl) (by decide) rfl
theorem dX8_possibleMinutes_25 : DR cX8_possibleMinutes 25 (.ireturn) 1 := dk_172 (bA_sl (a := 0) (j := 25) bkX8_possibleMinutes_0 rfl)
theorem bkX8_seek_0 : ((cX8_seek.data.toList.drop 0).take 64).map UInt8.toNat = [42, 29, 182, 0, 233, 54, 4, 42, 180, 0, 51, 42, 180, 0, 27, 180, 0, 161, 42, 180, 0, 27, 180, 0, 128, 21, 4, 182, 1, 25, 42, 180, 0, 58, 42, 180, 0, 27, 27, 28, 182, 1, 17, 42, 180, 0, 58, 42, 180, 0, 51, 21, 4, 2, 182, 1, 21, 177] := by decide +kernel
theorem dX8_seek_0 : DR cX8_seek 0 (.aload_n 0) 1 := dk_42 (bA_sl (a := 0) (j := 0) bkX8_seek_0 rfl)
theorem dX8_seek_1 : DR cX8_seek 1 (.iload_n 3) 1 := dk_29 (bA_sl (a := 0) (j := 1) bkX8_seek_0 rfl)
theorem dX8_seek_2 : DR cX8_seek 2 (.invokevirtual 233) 3 := dk_182 (bA_sl (a := 0) (j := 2) bkX8_seek_0 rfl) (bA_sl (a := 0) (j := 3) bkX8_seek_0 rfl) (bA_sl (a := 0) (j := 4) bkX8_seek_0 rfl) (by decide) rfl
theorem dX8_seek_5 : DR cX8_seek 5 (.istore 4) 2 := dk_54 (bA_sl (a := 0) (j := 5) bkX8_seek_0 rfl) (bA_sl (a := 0) (j := 6) bkX8_seek_0 rfl) (by decide)
theorem dX8_seek_7 : DR cX8_seek 7 (.aload_n 0) 1 := dk_42 (bA_sl (a := 0) (j := 7) bkX8_seek_0 rfl)
theorem dX8_seek_8 : DR cX8_seek 8 (.getfield 51) 3 := dk_180 (bA_sl (a := 0) (j := 8) bkX8_seek_0 rfl) (bA_sl (a := 0) (j := 9) bkX8_seek_0 rfl) (bA_sl (a := 0) (j := 10) bkX8_seek_0 rfl) (by decide) rfl
theorem dX8_seek_11 : DR cX8_seek 11 (.aload_n 0) 1 := dk_42 (bA_sl (a := 0) (j := 11) bkX8_seek_0 rfl)
theorem dX8_seek_12 : DR cX8_seek 12 (.getfield 27) 3 := dk_180 (bA_sl (a := 0) (j := 12) bkX8_seek_0 rfl) (bA_sl (a := 0) (j := 13) bkX8_seek_0 rfl) (bA_sl (a := 0) (j := 14) bkX8_seek_0 rfl) (by decide) rfl
theorem dX8_seek_15 : DR cX8_seek 15 (.getfield 161) 3 := dk_180 (bA_sl (a := 0) (j := 15) bkX8_seek_0 rfl) (bA_sl (a := 0) (j := 16) bkX8_seek_0 rfl) (bA_sl (a := 0) (j := 17) bkX8_seek_0 rfl) (by decide) rfl
theorem dX8_seek_18 : DR cX8_seek 18 (.aload_n 0) 1 := dk_42 (bA_sl (a := 0) (j := 18) bkX8_seek_0 rfl)
theorem dX8_seek_19 : DR cX8_seek 19 (.getfield 27) 3 := dk_180 (bA_sl (a := 0) (j := 19) bkX8_seek_0 rfl) (bA_sl (a := 0) (j := 20) bkX8_seek_0 rfl) (bA_sl (a := 0) (j := 21) bkX8_seek_0 rfl) (by decide) rfl
theorem dX8_seek_22 : DR cX8_seek 22 (.getfield 128) 3 := dk_180 (bA_sl (a := 0) (j := 22) bkX8_seek_0 rfl) (bA_sl (a := 0) (j := 23) bkX8_seek_0 rfl) (bA_sl (a := 0) (j := 24) bkX8_seek_0 rfl) (by decide) rfl
theorem dX8_seek_25 : DR cX8_seek 25 (.iload 4) 2 := dk_21 (bA_sl (a := 0) (j := 25) bkX8_seek_0 rfl) (bA_sl (a := 0) (j := 26) bkX8_seek_0 rfl) (by decide)
theorem dX8_seek_27 : DR cX8_seek 27 (.invokevirtual 281) 3 := dk_182 (bA_sl (a := 0) (j := 27) bkX8_seek_0 rfl) (bA_sl (a := 0) (j := 28) bkX8_seek_0 rfl) (bA_sl (a := 0) (j := 29) bkX8_seek_0 rfl) (by decide) rfl
theorem dX8_seek_30 : DR cX8_seek 30 (.aload_n 0) 1 := dk_42 (bA_sl (a := 0) (j := 30) bkX8_seek_0 rfl)
theorem dX8_seek_31 : DR cX8_seek 31 (.getfield 58) 3 := dk_180 (bA_sl (a := 0) (j := 31) bkX8_seek_0 rfl) (bA_sl (a := 0) (j := 32) bkX8_seek_0 rfl) (bA_sl (a := 0) (j := 33) bkX8_seek_0 rfl) (by decide) rfl
theorem dX8_seek_34 : DR cX8_seek 34 (.aload_n 0) 1 := dk_42 (bA_sl (a := 0) (j := 34) bkX8_seek_0 rfl)
theorem dX8_seek_35 : DR cX8_seek 35 (.getfield 27) 3 := dk_180 (bA_sl (a := 0) (j := 35) bkX8_seek_0 rfl) (bA_sl (a := 0) (j := 36) bkX8_seek_0 rfl) (bA_sl (a := 0) (j := 37) bkX8_seek_0 rfl) (by decide) rfl
theorem dX8_seek_38 : DR cX8_seek 38 (.iload_n 1) 1 := dk_27 (bA_sl (a := 0) (j := 38) bkX8_seek_0 rfl)
theorem dX8_seek_39 : DR cX8_seek 39 (.iload_n 2) 1 := dk_28 (bA_sl (a := 0) (j := 39) bkX8_seek_0 rfl)
theorem dX8_seek_40 : DR cX8_seek 40 (.invokevirtual 273) 3 := dk_182 (bA_sl (a := 0) (j := 40) bkX8_seek_0 rfl) (bA_sl (a := 0) (j := 41) bkX8_seek_0 rfl) (bA_sl (a := 0) (j := 42) bkX8_seek_0 rfl) (by decide) rfl
theorem dX8_seek_43 : DR cX8_seek 43 (.aload_n 0) 1 := dk_42 (bA_sl (a := 0) (j := 43) bkX8_seek_0 rfl)
theorem dX8_seek_44 : DR cX8_seek 44 (.getfield 58) 3 := dk_180 (bA_sl (a := 0) (j := 44) bkX8_seek_0 rfl) (bA_sl (a := 0) (j := 45) bkX8_seek_0 rfl) (bA_sl (a := 0) (j := 46) bkX8_seek_0 rfl) (by decide) rfl
theorem dX8_seek_47 : DR cX8_seek 47 (.aload_n 0) 1 := dk_42 (bA_sl (a := 0) (j := 47) bkX8_seek_0 rfl)
theorem dX8_seek_48 : DR cX8_seek 48 (.getfield 51) 3 := dk_180 (bA_sl (a := 0) (j := 48) bkX8_seek_0 rfl) (bA_sl (a := 0) (j := 49) bkX8_seek_0 rfl) (bA_sl (a := 0) (j := 50) bkX8_seek_0 rfl) (by decide) rfl
theorem dX8_seek_51 : DR cX8_seek 51 (.iload 4) 2 := dk_21 (bA_sl (a := 0) (j := 51) bkX8_seek_0 rfl) (bA_sl (a := 0) (j := 52) bkX8_seek_0 rfl) (by decide)
theorem dX8_seek_53 : DR cX8_seek 53 (.iconst (-1)) 1 := dk_2 (bA_sl (a := 0) (j := 53) bkX8_seek_0 rfl)
theorem dX8_seek_54 : DR cX8_seek 54 (.invokevirtual 277) 3 := dk_182 (bA_sl (a := 0) (j := 54) bkX8_seek_0 rfl) (bA_sl (a := 0) (j := 55) bkX8_seek_0 rfl) (bA_sl (a := 0) (j := 56) bkX8_seek_0 rfl) (by decide) rfl
theorem dX8_seek_57 : DR cX8_seek 57 (.return_) 1 := dk_177 (bA_sl (a := 0) (j := 57) bkX8_seek_0 rfl)
theorem bkX8_foundAnswer_0 : ((cX8_foundAnswer.data.toList.drop 0).take 64).map UInt8.toNat = [28, 16, 10, 162, 0, 5, 29, 172, 42, 180, 0, 51, 42, 180, 0, 58, 180, 1, 1, 42, 27, 182, 0, 233, 28, 16, 10, 100, 182, 1, 94, 172] := by decide +kernel
theorem dX8_foundAnswer_0 : DR cX8_foundAnswer 0 (.iload_n 2) 1 := dk_28 (bA_sl (a := 0) (j := 0) bkX8_foundAnswer_0 rfl)
theorem dX8_foundAnswer_1 : DR cX8_foundAnswer 1 (.bipush 10) 2 := dk_16 (bA_sl (a := 0) (j := 1) bkX8_foundAnswer_0 rfl) (bA_sl (a := 0) (j := 2) bkX8_foundAnswer_0 rfl) (by decide) (by decide)
theorem dX8_foundAnswer_3 : DR cX8_foundAnswer 3 (.if_icmp .ge 5) 3 := dk_162 (bA_sl (a := 0) (j := 3) bkX8_foundAnswer_0 rfl) (bA_sl (a := 0) (j := 4) bkX8_foundAnswer_0 rfl) (bA_sl (a := 0) (j := 5) bkX8_foundAnswer_0 rfl) (by decide) (by decide)
theorem dX8_foundAnswer_6 : DR cX8_foundAnswer 6 (.iload_n 3) 1 := dk_29 (bA_sl (a := 0) (j := 6) bkX8_foundAnswer_0 rfl)
theorem dX8_foundAnswer_7 : DR cX8_foundAnswer 7 (.ireturn) 1 := dk_172 (bA_sl (a := 0) (j := 7) bkX8_foundAnswer_0 rfl)
theorem dX8_foundAnswer_8 : DR cX8_foundAnswer 8 (.aload_n 0) 1 := dk_42 (bA_sl (a := 0) (j := 8) bkX8_foundAnswer_0 rfl)
theorem dX8_foundAnswer_9 : DR cX8_foundAnswer 9 (.getfield 51) 3 := dk_180 (bA_sl (a := 0) (j := 9) bkX8_foundAnswer_0 rfl) (bA_sl (a := 0) (j := 10) bkX8_foundAnswer_0 rfl) (bA_sl (a := 0) (j := 11) bkX8_foundAnswer_0 rfl) (by decide) rfl
theorem dX8_foundAnswer_12 : DR cX8_foundAnswer 12 (.aload_n 0) 1 := dk_42 (bA_sl (a := 0) (j := 12) bkX8_foundAnswer_0 rfl)
theorem dX8_foundAnswer_13 : DR cX8_foundAnswer 13 (.getfield 58) 3 := dk_180 (bA_sl (a := 0) (j := 13) bkX8_foundAnswer_0 rfl) (bA_sl (a := 0) (j := 14) bkX8_foundAnswer_0 rfl) (bA_sl (a := 0) (j := 15) bkX8_foundAnswer_0 rfl) (by decide) rfl
theorem dX8_foundAnswer_16 : DR cX8_foundAnswer 16 (.getfield 257) 3 := dk_180 (bA_sl (a := 0) (j := 16) bkX8_foundAnswer_0 rfl) (bA_sl (a := 0) (j := 17) bkX8_foundAnswer_0 rfl) (bA_sl (a := 0) (j := 18) bkX8_foundAnswer_0 rfl) (by decide) rfl
theorem dX8_foundAnswer_19 : DR cX8_foundAnswer 19 (.aload_n 0) 1 := dk_42 (bA_sl (a := 0) (j := 19) bkX8_foundAnswer_0 rfl)
theorem dX8_foundAnswer_20 : DR cX8_foundAnswer 20 (.iload_n 1) 1 := dk_27 (bA_sl (a := 0) (j := 20) bkX8_foundAnswer_0 rfl)
theorem dX8_foundAnswer_21 : DR cX8_foundAnswer 21 (.invokevirtual 233) 3 := dk_182 (bA_sl (a := 0) (j := 21) bkX8_foundAnswer_0 rfl) (bA_sl (a := 0) (j := 22) bkX8_foundAnswer_0 rfl) (bA_sl (a := 0) (j := 23) bkX8_foundAnswer_0 rfl) (by decide) rfl
theorem dX8_foundAnswer_24 : DR cX8_foundAnswer 24 (.iload_n 2) 1 := dk_28 (bA_sl (a := 0) (j := 24) bkX8_foundAnswer_0 rfl)
theorem dX8_foundAnswer_25 : DR cX8_foundAnswer 25 (.bipush 10) 2 := dk_16 (bA_sl (a := 0) (j := 25) bkX8_foundAnswer_0 rfl) (bA_sl (a := 0) (j := 26) bkX8_foundAnswer_0 rfl) (by decide) (by decide)
theorem dX8_foundAnswer_27 : DR cX8_foundAnswer 27 (.isub) 1 := dk_100 (bA_sl (a := 0) (j := 27) bkX8_foundAnswer_0 rfl)
theorem dX8_foundAnswer_28 : DR cX8_foundAnswer 28 (.invokevirtual 350) 3 := dk_182 (bA_sl (a := 0) (j := 28) bkX8_foundAnswer_0 rfl) (bA_sl (a := 0) (j := 29) bkX8_foundAnswer_0 rfl) (bA_sl (a := 0) (j := 30) bkX8_foundAnswer_0 rfl) (by decide) rfl
theorem dX8_foundAnswer_31 : DR cX8_foundAnswer 31 (.ireturn) 1 := dk_172 (bA_sl (a := 0) (j := 31) bkX8_foundAnswer_0 rfl)
theorem bkX8_canShift_0 : ((cX8_canShift.data.toList.drop 0).take 64).map UInt8.toNat = [27, 28, 159, 0, 55, 42, 180, 0, 27, 27, 182, 0, 108, 153, 0, 44, 42, 180, 0, 27, 28, 182, 0, 108, 153, 0, 33, 42, 180, 0, 27, 180, 0, 116, 27, 46, 158, 0, 21, 42, 180, 0, 27, 180, 0, 116, 28, 46, 16, 9, 162, 0, 7, 4, 167, 0, 4, 3, 172] := by decide +kernel
theorem dX8_canShift_0 : DR cX8_canShift 0 (.iload_n 1) 1 := dk_27 (bA_sl (a := 0) (j := 0) bkX8_canShift_0 rfl)
theorem dX8_canShift_1 : DR cX8_canShift 1 (.iload_n 2) 1 := dk_28 (bA_sl (a := 0) (j := 1) bkX8_canShift_0 rfl)
theorem dX8_canShift_2 : DR cX8_canShift 2 (.if_icmp .eq 55) 3 := dk_159 (bA_sl (a := 0) (j := 2) bkX8_canShift_0 rfl) (bA_sl (a := 0) (j := 3) bkX8_canShift_0 rfl) (bA_sl (a := 0) (j := 4) bkX8_canShift_0 rfl) (by decide) (by decide)
theorem dX8_canShift_5 : DR cX8_canShift 5 (.aload_n 0) 1 := dk_42 (bA_sl (a := 0) (j := 5) bkX8_canShift_0 rfl)
theorem dX8_canShift_6 : DR cX8_canShift 6 (.getfield 27) 3 := dk_180 (bA_sl (a := 0) (j := 6) bkX8_canShift_0 rfl) (bA_sl (a := 0) (j := 7) bkX8_canShift_0 rfl) (bA_sl (a := 0) (j := 8) bkX8_canShift_0 rfl) (by decide) rfl
theorem dX8_canShift_9 : DR cX8_canShift 9 (.iload_n 1) 1 := dk_27 (bA_sl (a := 0) (j := 9) bkX8_canShift_0 rfl)
theorem dX8_canShift_10 : DR cX8_canShift 10 (.invokevirtual 108) 3 := dk_182 (bA_sl (a := 0) (j := 10) bkX8_canShift_0 rfl) (bA_sl (a := 0) (j := 11) bkX8_canShift_0 rfl) (bA_sl (a := 0) (j := 12) bkX8_canShift_0 rfl) (by decide) rfl
theorem dX8_canShift_13 : DR cX8_canShift 13 (.ifCond .eq 44) 3 := dk_153 (bA_sl (a := 0) (j := 13) bkX8_canShift_0 rfl) (bA_sl (a := 0) (j := 14) bkX8_canShift_0 rfl) (bA_sl (a := 0) (j := 15) bkX8_canShift_0 rfl) (by decide) (by decide)
theorem dX8_canShift_16 : DR cX8_canShift 16 (.aload_n 0) 1 := dk_42 (bA_sl (a := 0) (j := 16) bkX8_canShift_0 rfl)
theorem dX8_canShift_17 : DR cX8_canShift 17 (.getfield 27) 3 := dk_180 (bA_sl (a := 0) (j := 17) bkX8_canShift_0 rfl) (bA_sl (a := 0) (j := 18) bkX8_canShift_0 rfl) (bA_sl (a := 0) (j := 19) bkX8_canShift_0 rfl) (by decide) rfl
theorem dX8_canShift_20 : DR cX8_canShift 20 (.iload_n 2) 1 := dk_28 (bA_sl (a := 0) (j := 20) bkX8_canShift_0 rfl)
theorem dX8_canShift_21 : DR cX8_canShift 21 (.invokevirtual 108) 3 := dk_182 (bA_sl (a := 0) (j := 21) bkX8_canShift_0 rfl) (bA_sl (a := 0) (j := 22) bkX8_canShift_0 rfl) (bA_sl (a := 0) (j := 23) bkX8_canShift_0 rfl) (by decide) rfl
theorem dX8_canShift_24 : DR cX8_canShift 24 (.ifCond .eq 33) 3 := dk_153 (bA_sl (a := 0) (j := 24) bkX8_canShift_0 rfl) (bA_sl (a := 0) (j := 25) bkX8_canShift_0 rfl) (bA_sl (a := 0) (j := 26) bkX8_canShift_0 rfl) (by decide) (by decide)
theorem dX8_canShift_27 : DR cX8_canShift 27 (.aload_n 0) 1 := dk_42 (bA_sl (a := 0) (j := 27) bkX8_canShift_0 rfl)
theorem dX8_canShift_28 : DR cX8_canShift 28 (.getfield 27) 3 := dk_180 (bA_sl (a := 0) (j := 28) bkX8_canShift_0 rfl) (bA_sl (a := 0) (j := 29) bkX8_canShift_0 rfl) (bA_sl (a := 0) (j := 30) bkX8_canShift_0 rfl) (by decide) rfl
theorem dX8_canShift_31 : DR cX8_canShift 31 (.getfield 116) 3 := dk_180 (bA_sl (a := 0) (j := 31) bkX8_canShift_0 rfl) (bA_sl (a := 0) (j := 32) bkX8_canShift_0 rfl) (bA_sl (a := 0) (j := 33) bkX8_canShift_0 rfl) (by decide) rfl
theorem dX8_canShift_34 : DR cX8_canShift 34 (.iload_n 1) 1 := dk_27 (bA_sl (a := 0) (j := 34) bkX8_canShift_0 rfl)
theorem dX8_canShift_35 : DR cX8_canShift 35 (.iaload) 1 := dk_46 (bA_sl (a := 0) (j := 35) bkX8_canShift_0 rfl)
theorem dX8_canShift_36 : DR cX8_canShift 36 (.ifCond .le 21) 3 := dk_158 (bA_sl (a := 0) (j := 36) bkX8_canShift_0 rfl) (bA_sl (a := 0) (j := 37) bkX8_canShift_0 rfl) (bA_sl (a := 0) (j := 38) bkX8_canShift_0 rfl) (by decide) (by decide)
theorem dX8_canShift_39 : DR cX8_canShift 39 (.aload_n 0) 1 := dk_42 (bA_sl (a := 0) (j := 39) bkX8_canShift_0 rfl)
theorem dX8_canShift_40 : DR cX8_canShift 40 (.getfield 27) 3 := dk_180 (bA_sl (a := 0) (j := 40) bkX8_canShift_0 rfl) (bA_sl (a := 0) (j := 41) bkX8_canShift_0 rfl) (bA_sl (a := 0) (j := 42) bkX8_canShift_0 rfl) (by decide) rfl
theorem dX8_canShift_43 : DR cX8_canShift 43 (.getfield 116) 3 := dk_180 (bA_sl (a := 0) (j := 43) bkX8_canShift_0 rfl) (bA_sl (a := 0) (j := 44) bkX8_canShift_0 rfl) (bA_sl (a := 0) (j := 45) bkX8_canShift_0 rfl) (by decide) rfl
theorem dX8_canShift_46 : DR cX8_canShift 46 (.iload_n 2) 1 := dk_28 (bA_sl (a := 0) (j := 46) bkX8_canShift_0 rfl)
theorem dX8_canShift_47 : DR cX8_canShift 47 (.iaload) 1 := dk_46 (bA_sl (a := 0) (j := 47) bkX8_canShift_0 rfl)
theorem dX8_canShift_48 : DR cX8_canShift 48 (.bipush 9) 2 := dk_16 (bA_sl (a := 0) (j := 48) bkX8_canShift_0 rfl) (bA_sl (a := 0) (j := 49) bkX8_canShift_0 rfl) (by decide) (by decide)
theorem dX8_canShift_50 : DR cX8_canShift 50 (.if_icmp .ge 7) 3 := dk_162 (bA_sl (a := 0) (j := 50) bkX8_canShift_0 rfl) (bA_sl (a := 0) (j := 51) bkX8_canShift_0 rfl) (bA_sl (a := 0) (j := 52) bkX8_canShift_0 rfl) (by decide) (by decide)
theorem dX8_canShift_53 : DR cX8_canShift 53 (.iconst 1) 1 := dk_4 (bA_sl (a := 0) (j := 53) bkX8_canShift_0 rfl)
theorem dX8_canShift_54 : DR cX8_canShift 54 (.goto 4) 3 := dk_167 (bA_sl (a := 0) (j := 54) bkX8_canShift_0 rfl) (bA_sl (a := 0) (j := 55) bkX8_canShift_0 rfl) (bA_sl (a := 0) (j := 56) bkX8_canShift_0 rfl) (by decide) (by decide)
theorem dX8_canShift_57 : DR cX8_canShift 57 (.iconst 0) 1 := dk_3 (bA_sl (a := 0) (j := 57) bkX8_canShift_0 rfl)
theorem dX8_canShift_58 : DR cX8_canShift 58 (.ireturn) 1 := dk_172 (bA_sl (a := 0) (j := 58) bkX8_canShift_0 rfl)
theorem bkX8_refusedStubble_0 : ((cX8_refusedStubble.data.toList.drop 0).take 64).map UInt8.toNat = [27, 184, 0, 182, 154, 0, 6, 16, 254, 172, 42, 180, 0, 44, 27, 50, 180, 0, 185, 153, 0, 6, 16, 250, 172, 42, 180, 0, 44, 27, 50, 180, 0, 193, 42, 180, 0, 27, 180, 0, 161, 159, 0, 6, 16, 249, 172, 42, 4, 28, 16, 8, 182, 0, 229, 172] := by decide +kernel
theorem dX8_refusedStubble_0 : DR cX8_refusedStubble 0 (.iload_n 1) 1 := dk_27 (bA_sl (a := 0) (j := 0) bkX8_refusedStubble_0 rfl)
theorem dX8_refusedStubble_1 : DR cX8_refusedStubble 1 (.invokestatic 182) 3 := dk_184 (bA_sl (a := 0) (j := 1) bkX8_refusedStubble_0 rfl) (bA_sl (a := 0) (j := 2) bkX8_refusedStubble_0 rfl) (bA_sl (a := 0) (j := 3) bkX8_refusedStubble_0 rfl) (by decide) rfl
theorem dX8_refusedStubble_4 : DR cX8_refusedStubble 4 (.ifCond .ne 6) 3 := dk_154 (bA_sl (a := 0) (j := 4) bkX8_refusedStubble_0 rfl) (bA_sl (a := 0) (j := 5) bkX8_refusedStubble_0 rfl) (bA_sl (a := 0) (j := 6) bkX8_refusedStubble_0 rfl) (by decide) (by decide)
theorem dX8_refusedStubble_7 : DR cX8_refusedStubble 7 (.bipush (-2)) 2 := dk_16 (bA_sl (a := 0) (j := 7) bkX8_refusedStubble_0 rfl) (bA_sl (a := 0) (j := 8) bkX8_refusedStubble_0 rfl) (by decide) (by decide)
theorem dX8_refusedStubble_9 : DR cX8_refusedStubble 9 (.ireturn) 1 := dk_172 (bA_sl (a := 0) (j := 9) bkX8_refusedStubble_0 rfl)
theorem dX8_refusedStubble_10 : DR cX8_refusedStubble 10 (.aload_n 0) 1 := dk_42 (bA_sl (a := 0) (j := 10) bkX8_refusedStubble_0 rfl)
theorem dX8_refusedStubble_11 : DR cX8_refusedStubble 11 (.getfield 44) 3 := dk_180 (bA_sl (a := 0) (j := 11) bkX8_refusedStubble_0 rfl) (bA_sl (a := 0) (j := 12) bkX8_refusedStubble_0 rfl) (bA_sl (a := 0) (j := 13) bkX8_refusedStubble_0 rfl) (by decide) rfl
theorem dX8_refusedStubble_14 : DR cX8_refusedStubble 14 (.iload_n 1) 1 := dk_27 (bA_sl (a := 0) (j := 14) bkX8_refusedStubble_0 rfl)
theorem dX8_refusedStubble_15 : DR cX8_refusedStubble 15 (.aaload) 1 := dk_50 (bA_sl (a := 0) (j := 15) bkX8_refusedStubble_0 rfl)
theorem dX8_refusedStubble_16 : DR cX8_refusedStubble 16 (.getfield 185) 3 := dk_180 (bA_sl (a := 0) (j := 16) bkX8_refusedStubble_0 rfl) (bA_sl (a := 0) (j := 17) bkX8_refusedStubble_0 rfl) (bA_sl (a := 0) (j := 18) bkX8_refusedStubble_0 rfl) (by decide) rfl
theorem dX8_refusedStubble_19 : DR cX8_refusedStubble 19 (.ifCond .eq 6) 3 := dk_153 (bA_sl (a := 0) (j := 19) bkX8_refusedStubble_0 rfl) (bA_sl (a := 0) (j := 20) bkX8_refusedStubble_0 rfl) (bA_sl (a := 0) (j := 21) bkX8_refusedStubble_0 rfl) (by decide) (by decide)
theorem dX8_refusedStubble_22 : DR cX8_refusedStubble 22 (.bipush (-6)) 2 := dk_16 (bA_sl (a := 0) (j := 22) bkX8_refusedStubble_0 rfl) (bA_sl (a := 0) (j := 23) bkX8_refusedStubble_0 rfl) (by decide) (by decide)
theorem dX8_refusedStubble_24 : DR cX8_refusedStubble 24 (.ireturn) 1 := dk_172 (bA_sl (a := 0) (j := 24) bkX8_refusedStubble_0 rfl)
theorem dX8_refusedStubble_25 : DR cX8_refusedStubble 25 (.aload_n 0) 1 := dk_42 (bA_sl (a := 0) (j := 25) bkX8_refusedStubble_0 rfl)
theorem dX8_refusedStubble_26 : DR cX8_refusedStubble 26 (.getfield 44) 3 := dk_180 (bA_sl (a := 0) (j := 26) bkX8_refusedStubble_0 rfl) (bA_sl (a := 0) (j := 27) bkX8_refusedStubble_0 rfl) (bA_sl (a := 0) (j := 28) bkX8_refusedStubble_0 rfl) (by decide) rfl
theorem dX8_refusedStubble_29 : DR cX8_refusedStubble 29 (.iload_n 1) 1 := dk_27 (bA_sl (a := 0) (j := 29) bkX8_refusedStubble_0 rfl)
theorem dX8_refusedStubble_30 : DR cX8_refusedStubble 30 (.aaload) 1 := dk_50 (bA_sl (a := 0) (j := 30) bkX8_refusedStubble_0 rfl)
theorem dX8_refusedStubble_31 : DR cX8_refusedStubble 31 (.getfield 193) 3 := dk_180 (bA_sl (a := 0) (j := 31) bkX8_refusedStubble_0 rfl) (bA_sl (a := 0) (j := 32) bkX8_refusedStubble_0 rfl) (bA_sl (a := 0) (j := 33) bkX8_refusedStubble_0 rfl) (by decide) rfl
theorem dX8_refusedStubble_34 : DR cX8_refusedStubble 34 (.aload_n 0) 1 := dk_42 (bA_sl (a := 0) (j := 34) bkX8_refusedStubble_0 rfl)
theorem dX8_refusedStubble_35 : DR cX8_refusedStubble 35 (.getfield 27) 3 := dk_180 (bA_sl (a := 0) (j := 35) bkX8_refusedStubble_0 rfl) (bA_sl (a := 0) (j := 36) bkX8_refusedStubble_0 rfl) (bA_sl (a := 0) (j := 37) bkX8_refusedStubble_0 rfl) (by decide) rfl
theorem dX8_refusedStubble_38 : DR cX8_refusedStubble 38 (.getfield 161) 3 := dk_180 (bA_sl (a := 0) (j := 38) bkX8_refusedStubble_0 rfl) (bA_sl (a := 0) (j := 39) bkX8_refusedStubble_0 rfl) (bA_sl (a := 0) (j := 40) bkX8_refusedStubble_0 rfl) (by decide) rfl
theorem dX8_refusedStubble_41 : DR cX8_refusedStubble 41 (.if_icmp .eq 6) 3 := dk_159 (bA_sl (a := 0) (j := 41) bkX8_refusedStubble_0 rfl) (bA_sl (a := 0) (j := 42) bkX8_refusedStubble_0 rfl) (bA_sl (a := 0) (j := 43) bkX8_refusedStubble_0 rfl) (by decide) (by decide)
theorem dX8_refusedStubble_44 : DR cX8_refusedStubble 44 (.bipush (-7)) 2 := dk_16 (bA_sl (a := 0) (j := 44) bkX8_refusedStubble_0 rfl) (bA_sl (a := 0) (j := 45) bkX8_refusedStubble_0 rfl) (by decide) (by decide)
theorem dX8_refusedStubble_46 : DR cX8_refusedStubble 46 (.ireturn) 1 := dk_172 (bA_sl (a := 0) (j := 46) bkX8_refusedStubble_0 rfl)
theorem dX8_refusedStubble_47 : DR cX8_refusedStubble 47 (.aload_n 0) 1 := dk_42 (bA_sl (a := 0) (j := 47) bkX8_refusedStubble_0 rfl)
theorem dX8_refusedStubble_48 : DR cX8_refusedStubble 48 (.iconst 1) 1 := dk_4 (bA_sl (a := 0) (j := 48) bkX8_refusedStubble_0 rfl)
theorem dX8_refusedStubble_49 : DR cX8_refusedStubble 49 (.iload_n 2) 1 := dk_28 (bA_sl (a := 0) (j := 49) bkX8_refusedStubble_0 rfl)
theorem dX8_refusedStubble_50 : DR cX8_refusedStubble 50 (.bipush 8) 2 := dk_16 (bA_sl (a := 0) (j := 50) bkX8_refusedStubble_0 rfl) (bA_sl (a := 0) (j := 51) bkX8_refusedStubble_0 rfl) (by decide) (by decide)
theorem dX8_refusedStubble_52 : DR cX8_refusedStubble 52 (.invokevirtual 229) 3 := dk_182 (bA_sl (a := 0) (j := 52) bkX8_refusedStubble_0 rfl) (bA_sl (a := 0) (j := 53) bkX8_refusedStubble_0 rfl) (bA_sl (a := 0) (j := 54) bkX8_refusedStubble_0 rfl) (by decide) rfl
theorem dX8_refusedStubble_55 : DR cX8_refusedStubble 55 (.ireturn) 1 := dk_172 (bA_sl (a := 0) (j := 55) bkX8_refusedStubble_0 rfl)
theorem bkX8_explain_0 : ((cX8_explain.data.toList.drop 0).take 64).map UInt8.toNat = [42, 28, 182, 0, 233, 28, 162, 0, 11, 42, 180, 0, 72, 182, 1, 97, 177, 42, 180, 0, 51, 42, 180, 0, 27, 180, 0, 161, 42, 180, 0, 27, 180, 0, 128, 28, 182, 1, 25, 42, 180, 0, 58, 42, 180, 0, 27, 3, 2, 182, 1, 17, 42, 180, 0, 72, 42, 180, 0, 58, 42, 180, 0, 51] := by decide +kernel
theorem dX8_explain_0 : DR cX8_explain 0 (.aload_n 0) 1 := dk_42 (bA_sl (a := 0) (j := 0) bkX8_explain_0 rfl)
theorem dX8_explain_1 : DR cX8_explain 1 (.iload_n 2) 1 := dk_28 (bA_sl (a := 0) (j := 1) bkX8_explain_0 rfl)
theorem dX8_explain_2 : DR cX8_explain 2 (.invokevirtual 233) 3 := dk_182 (bA_sl (a := 0) (j := 2) bkX8_explain_0 rfl) (bA_sl (a := 0) (j := 3) bkX8_explain_0 rfl) (bA_sl (a := 0) (j := 4) bkX8_explain_0 rfl) (by decide) rfl
theorem dX8_explain_5 : DR cX8_explain 5 (.iload_n 2) 1 := dk_28 (bA_sl (a := 0) (j := 5) bkX8_explain_0 rfl)
theorem dX8_explain_6 : DR cX8_explain 6 (.if_icmp .ge 11) 3 := dk_162 (bA_sl (a := 0) (j := 6) bkX8_explain_0 rfl) (bA_sl (a := 0) (j := 7) bkX8_explain_0 rfl) (bA_sl (a := 0) (j := 8) bkX8_explain_0 rfl) (by decide) (by decide)
theorem dX8_explain_9 : DR cX8_explain 9 (.aload_n 0) 1 := dk_42 (bA_sl (a := 0) (j := 9) bkX8_explain_0 rfl)
theorem dX8_explain_10 : DR cX8_explain 10 (.getfield 72) 3 := dk_180 (bA_sl (a := 0) (j := 10) bkX8_explain_0 rfl) (bA_sl (a := 0) (j := 11) bkX8_explain_0 rfl) (bA_sl (a := 0) (j := 12) bkX8_explain_0 rfl) (by decide) rfl
theorem dX8_explain_13 : DR cX8_explain 13 (.invokevirtual 353) 3 := dk_182 (bA_sl (a := 0) (j := 13) bkX8_explain_0 rfl) (bA_sl (a := 0) (j := 14) bkX8_explain_0 rfl) (bA_sl (a := 0) (j := 15) bkX8_explain_0 rfl) (by decide) rfl
theorem dX8_explain_16 : DR cX8_explain 16 (.return_) 1 := dk_177 (bA_sl (a := 0) (j := 16) bkX8_explain_0 rfl)
theorem dX8_explain_17 : DR cX8_explain 17 (.aload_n 0) 1 := dk_42 (bA_sl (a := 0) (j := 17) bkX8_explain_0 rfl)
theorem dX8_explain_18 : DR cX8_explain 18 (.getfield 51) 3 := dk_180 (bA_sl (a := 0) (j := 18) bkX8_explain_0 rfl) (bA_sl (a := 0) (j := 19) bkX8_explain_0 rfl) (bA_sl (a := 0) (j := 20) bkX8_explain_0 rfl) (by decide) rfl
theorem dX8_explain_21 : DR cX8_explain 21 (.aload_n 0) 1 := dk_42 (bA_sl (a := 0) (j := 21) bkX8_explain_0 rfl)
theorem dX8_explain_22 : DR cX8_explain 22 (.getfield 27) 3 := dk_180 (bA_sl (a := 0) (j := 22) bkX8_explain_0 rfl) (bA_sl (a := 0) (j := 23) bkX8_explain_0 rfl) (bA_sl (a := 0) (j := 24) bkX8_explain_0 rfl) (by decide) rfl
theorem dX8_explain_25 : DR cX8_explain 25 (.getfield 161) 3 := dk_180 (bA_sl (a := 0) (j := 25) bkX8_explain_0 rfl) (bA_sl (a := 0) (j := 26) bkX8_explain_0 rfl) (bA_sl (a := 0) (j := 27) bkX8_explain_0 rfl) (by decide) rfl
theorem dX8_explain_28 : DR cX8_explain 28 (.aload_n 0) 1 := dk_42 (bA_sl (a := 0) (j := 28) bkX8_explain_0 rfl)
theorem dX8_explain_29 : DR cX8_explain 29 (.getfield 27) 3 := dk_180 (bA_sl (a := 0) (j := 29) bkX8_explain_0 rfl) (bA_sl (a := 0) (j := 30) bkX8_explain_0 rfl) (bA_sl (a := 0) (j := 31) bkX8_explain_0 rfl) (by decide) rfl
theorem dX8_explain_32 : DR cX8_explain 32 (.getfield 128) 3 := dk_180 (bA_sl (a := 0) (j := 32) bkX8_explain_0 rfl) (bA_sl (a := 0) (j := 33) bkX8_explain_0 rfl) (bA_sl (a := 0) (j := 34) bkX8_explain_0 rfl) (by decide) rfl
theorem dX8_explain_35 : DR cX8_explain 35 (.iload_n 2) 1 := dk_28 (bA_sl (a := 0) (j := 35) bkX8_explain_0 rfl)
theorem dX8_explain_36 : DR cX8_explain 36 (.invokevirtual 281) 3 := dk_182 (bA_sl (a := 0) (j := 36) bkX8_explain_0 rfl) (bA_sl (a := 0) (j := 37) bkX8_explain_0 rfl) (bA_sl (a := 0) (j := 38) bkX8_explain_0 rfl) (by decide) rfl
theorem dX8_explain_39 : DR cX8_explain 39 (.aload_n 0) 1 := dk_42 (bA_sl (a := 0) (j := 39) bkX8_explain_0 rfl)
theorem dX8_explain_40 : DR cX8_explain 40 (.getfield 58) 3 := dk_180 (bA_sl (a := 0) (j := 40) bkX8_explain_0 rfl) (bA_sl (a := 0) (j := 41) bkX8_explain_0 rfl) (bA_sl (a := 0) (j := 42) bkX8_explain_0 rfl) (by decide) rfl
theorem dX8_explain_43 : DR cX8_explain 43 (.aload_n 0) 1 := dk_42 (bA_sl (a := 0) (j := 43) bkX8_explain_0 rfl)
theorem dX8_explain_44 : DR cX8_explain 44 (.getfield 27) 3 := dk_180 (bA_sl (a := 0) (j := 44) bkX8_explain_0 rfl) (bA_sl (a := 0) (j := 45) bkX8_explain_0 rfl) (bA_sl (a := 0) (j := 46) bkX8_explain_0 rfl) (by decide) rfl
theorem dX8_explain_47 : DR cX8_explain 47 (.iconst 0) 1 := dk_3 (bA_sl (a := 0) (j := 47) bkX8_explain_0 rfl)
theorem dX8_explain_48 : DR cX8_explain 48 (.iconst (-1)) 1 := dk_2 (bA_sl (a := 0) (j := 48) bkX8_explain_0 rfl)
theorem dX8_explain_49 : DR cX8_explain 49 (.invokevirtual 273) 3 := dk_182 (bA_sl (a := 0) (j := 49) bkX8_explain_0 rfl) (bA_sl (a := 0) (j := 50) bkX8_explain_0 rfl) (bA_sl (a := 0) (j := 51) bkX8_explain_0 rfl) (by decide) rfl
theorem dX8_explain_52 : DR cX8_explain 52 (.aload_n 0) 1 := dk_42 (bA_sl (a := 0) (j := 52) bkX8_explain_0 rfl)
theorem dX8_explain_53 : DR cX8_explain 53 (.getfield 72) 3 := dk_180 (bA_sl (a := 0) (j := 53) bkX8_explain_0 rfl) (bA_sl (a := 0) (j := 54) bkX8_explain_0 rfl) (bA_sl (a := 0) (j := 55) bkX8_explain_0 rfl) (by decide) rfl
theorem dX8_explain_56 : DR cX8_explain 56 (.aload_n 0) 1 := dk_42 (bA_sl (a := 0) (j := 56) bkX8_explain_0 rfl)
theorem dX8_explain_57 : DR cX8_explain 57 (.getfield 58) 3 := dk_180 (bA_sl (a := 0) (j := 57) bkX8_explain_0 rfl) (bA_sl (a := 0) (j := 58) bkX8_explain_0 rfl) (bA_sl (a := 0) (j := 59) bkX8_explain_0 rfl) (by decide) rfl
theorem dX8_explain_60 : DR cX8_explain 60 (.aload_n 0) 1 := dk_42 (bA_sl (a := 0) (j := 60) bkX8_explain_0 rfl)
theorem dX8_explain_61 : DR cX8_explain 61 (.getfield 51) 3 := dk_180 (bA_sl (a := 0) (j := 61) bkX8_explain_0 rfl) (bA_sl (a := 0) (j := 62) bkX8_explain_0 rfl) (bA_sl (a := 0) (j := 63) bkX8_explain_0 rfl) (by decide) rfl
theorem bkX8_explain_1 : ((cX8_explain.data.toList.drop 64).take 64).map UInt8.toNat = [28, 43, 182, 1, 100, 177] := by decide +kernel
theorem dX8_explain_64 : DR cX8_explain 64 (.iload_n 2) 1 := dk_28 (bA_sl (a := 64) (j := 0) bkX8_explain_1 rfl)
theorem dX8_explain_65 : DR cX8_explain 65 (.aload_n 1) 1 := dk_43 (bA_sl (a := 64) (j := 1) bkX8_explain_1 rfl)
theorem dX8_explain_66 : DR cX8_explain 66 (.invokevirtual 356) 3 := dk_182 (bA_sl (a := 64) (j := 2) bkX8_explain_1 rfl) (bA_sl (a := 64) (j := 3) bkX8_explain_1 rfl) (bA_sl (a := 64) (j := 4) bkX8_explain_1 rfl) (by decide) rfl
theorem dX8_explain_69 : DR cX8_explain 69 (.return_) 1 := dk_177 (bA_sl (a := 64) (j := 5) bkX8_explain_1 rfl)
theorem bkX8_refusedMeeting_0 : ((cX8_refusedMeeting.data.toList.drop 0).take 64).map UInt8.toNat = [27, 184, 0, 182, 153, 0, 10, 28, 184, 0, 182, 154, 0, 6, 16, 254, 172, 42, 180, 0, 44, 27, 50, 180, 0, 185, 154, 0, 15, 42, 180, 0, 44, 28, 50, 180, 0, 185, 153, 0, 6, 16, 250, 172, 42, 180, 0, 27, 180, 0, 128, 62, 3, 54, 4, 21, 4, 42, 180, 0, 44, 27, 50, 180] := by decide +kernel
theorem dX8_refusedMeeting_0 : DR cX8_refusedMeeting 0 (.iload_n 1) 1 := dk_27 (bA_sl (a := 0) (j := 0) bkX8_refusedMeeting_0 rfl)
theorem dX8_refusedMeeting_1 : DR cX8_refusedMeeting 1 (.invokestatic 182) 3 := dk_184 (bA_sl (a := 0) (j := 1) bkX8_refusedMeeting_0 rfl) (bA_sl (a := 0) (j := 2) bkX8_refusedMeeting_0 rfl) (bA_sl (a := 0) (j := 3) bkX8_refusedMeeting_0 rfl) (by decide) rfl
theorem dX8_refusedMeeting_4 : DR cX8_refusedMeeting 4 (.ifCond .eq 10) 3 := dk_153 (bA_sl (a := 0) (j := 4) bkX8_refusedMeeting_0 rfl) (bA_sl (a := 0) (j := 5) bkX8_refusedMeeting_0 rfl) (bA_sl (a := 0) (j := 6) bkX8_refusedMeeting_0 rfl) (by decide) (by decide)
theorem dX8_refusedMeeting_7 : DR cX8_refusedMeeting 7 (.iload_n 2) 1 := dk_28 (bA_sl (a := 0) (j := 7) bkX8_refusedMeeting_0 rfl)
theorem dX8_refusedMeeting_8 : DR cX8_refusedMeeting 8 (.invokestatic 182) 3 := dk_184 (bA_sl (a := 0) (j := 8) bkX8_refusedMeeting_0 rfl) (bA_sl (a := 0) (j := 9) bkX8_refusedMeeting_0 rfl) (bA_sl (a := 0) (j := 10) bkX8_refusedMeeting_0 rfl) (by decide) rfl
theorem dX8_refusedMeeting_11 : DR cX8_refusedMeeting 11 (.ifCond .ne 6) 3 := dk_154 (bA_sl (a := 0) (j := 11) bkX8_refusedMeeting_0 rfl) (bA_sl (a := 0) (j := 12) bkX8_refusedMeeting_0 rfl) (bA_sl (a := 0) (j := 13) bkX8_refusedMeeting_0 rfl) (by decide) (by decide)
theorem dX8_refusedMeeting_14 : DR cX8_refusedMeeting 14 (.bipush (-2)) 2 := dk_16 (bA_sl (a := 0) (j := 14) bkX8_refusedMeeting_0 rfl) (bA_sl (a := 0) (j := 15) bkX8_refusedMeeting_0 rfl) (by decide) (by decide)
theorem dX8_refusedMeeting_16 : DR cX8_refusedMeeting 16 (.ireturn) 1 := dk_172 (bA_sl (a := 0) (j := 16) bkX8_refusedMeeting_0 rfl)
theorem dX8_refusedMeeting_17 : DR cX8_refusedMeeting 17 (.aload_n 0) 1 := dk_42 (bA_sl (a := 0) (j := 17) bkX8_refusedMeeting_0 rfl)
theorem dX8_refusedMeeting_18 : DR cX8_refusedMeeting 18 (.getfield 44) 3 := dk_180 (bA_sl (a := 0) (j := 18) bkX8_refusedMeeting_0 rfl) (bA_sl (a := 0) (j := 19) bkX8_refusedMeeting_0 rfl) (bA_sl (a := 0) (j := 20) bkX8_refusedMeeting_0 rfl) (by decide) rfl
theorem dX8_refusedMeeting_21 : DR cX8_refusedMeeting 21 (.iload_n 1) 1 := dk_27 (bA_sl (a := 0) (j := 21) bkX8_refusedMeeting_0 rfl)
theorem dX8_refusedMeeting_22 : DR cX8_refusedMeeting 22 (.aaload) 1 := dk_50 (bA_sl (a := 0) (j := 22) bkX8_refusedMeeting_0 rfl)
