theorem dX8_refusedMeeting_23 : DR cX8_refusedMeeting 23 (.getfield 185) 3 := dk_180 (bA_sl (a := 0) (j := 23) bkX8_refusedMeeting_0 rfl) (bA_sl (a := 0) (j := 24) bkX8_refusedMeeting_0 rfl) (bA_sl (a := 0) (j := 25) bkX8_refusedMeeting_0 rfl) (by decide) rfl
theorem dX8_refusedMeeting_26 : DR cX8_refusedMeeting 26 (.ifCond .ne 15) 3 := dk_154 (bA_sl (a := 0) (j := 26) bkX8_refusedMeeting_0 rfl) (bA_sl (a := 0) (j := 27) bkX8_refusedMeeting_0 rfl) (bA_sl (a := 0) (j := 28) bkX8_refusedMeeting_0 rfl) (by decide) (by decide)
theorem dX8_refusedMeeting_29 : DR cX8_refusedMeeting 29 (.aload_n 0) 1 := dk_42 (bA_sl (a := 0) (j := 29) bkX8_refusedMeeting_0 rfl)
theorem dX8_refusedMeeting_30 : DR cX8_refusedMeeting 30 (.getfield 44) 3 := dk_180 (bA_sl (a := 0) (j := 30) bkX8_refusedMeeting_0 rfl) (bA_sl (a := 0) (j := 31) bkX8_refusedMeeting_0 rfl) (bA_sl (a := 0) (j := 32) bkX8_refusedMeeting_0 rfl) (by decide) rfl
theorem dX8_refusedMeeting_33 : DR cX8_refusedMeeting 33 (.iload_n 2) 1 := dk_28 (bA_sl (a := 0) (j := 33) bkX8_refusedMeeting_0 rfl)
theorem dX8_refusedMeeting_34 : DR cX8_refusedMeeting 34 (.aaload) 1 := dk_50 (bA_sl (a := 0) (j := 34) bkX8_refusedMeeting_0 rfl)
theorem dX8_refusedMeeting_35 : DR cX8_refusedMeeting 35 (.getfield 185) 3 := dk_180 (bA_sl (a := 0) (j := 35) bkX8_refusedMeeting_0 rfl) (bA_sl (a := 0) (j := 36) bkX8_refusedMeeting_0 rfl) (bA_sl (a := 0) (j := 37) bkX8_refusedMeeting_0 rfl) (by decide) rfl
theorem dX8_refusedMeeting_38 : DR cX8_refusedMeeting 38 (.ifCond .eq 6) 3 := dk_153 (bA_sl (a := 0) (j := 38) bkX8_refusedMeeting_0 rfl) (bA_sl (a := 0) (j := 39) bkX8_refusedMeeting_0 rfl) (bA_sl (a := 0) (j := 40) bkX8_refusedMeeting_0 rfl) (by decide) (by decide)
theorem dX8_refusedMeeting_41 : DR cX8_refusedMeeting 41 (.bipush (-6)) 2 := dk_16 (bA_sl (a := 0) (j := 41) bkX8_refusedMeeting_0 rfl) (bA_sl (a := 0) (j := 42) bkX8_refusedMeeting_0 rfl) (by decide) (by decide)
theorem dX8_refusedMeeting_43 : DR cX8_refusedMeeting 43 (.ireturn) 1 := dk_172 (bA_sl (a := 0) (j := 43) bkX8_refusedMeeting_0 rfl)
theorem dX8_refusedMeeting_44 : DR cX8_refusedMeeting 44 (.aload_n 0) 1 := dk_42 (bA_sl (a := 0) (j := 44) bkX8_refusedMeeting_0 rfl)
theorem dX8_refusedMeeting_45 : DR cX8_refusedMeeting 45 (.getfield 27) 3 := dk_180 (bA_sl (a := 0) (j := 45) bkX8_refusedMeeting_0 rfl) (bA_sl (a := 0) (j := 46) bkX8_refusedMeeting_0 rfl) (bA_sl (a := 0) (j := 47) bkX8_refusedMeeting_0 rfl) (by decide) rfl
theorem dX8_refusedMeeting_48 : DR cX8_refusedMeeting 48 (.getfield 128) 3 := dk_180 (bA_sl (a := 0) (j := 48) bkX8_refusedMeeting_0 rfl) (bA_sl (a := 0) (j := 49) bkX8_refusedMeeting_0 rfl) (bA_sl (a := 0) (j := 50) bkX8_refusedMeeting_0 rfl) (by decide) rfl
theorem dX8_refusedMeeting_51 : DR cX8_refusedMeeting 51 (.istore_n 3) 1 := dk_62 (bA_sl (a := 0) (j := 51) bkX8_refusedMeeting_0 rfl)
theorem dX8_refusedMeeting_52 : DR cX8_refusedMeeting 52 (.iconst 0) 1 := dk_3 (bA_sl (a := 0) (j := 52) bkX8_refusedMeeting_0 rfl)
theorem dX8_refusedMeeting_53 : DR cX8_refusedMeeting 53 (.istore 4) 2 := dk_54 (bA_sl (a := 0) (j := 53) bkX8_refusedMeeting_0 rfl) (bA_sl (a := 0) (j := 54) bkX8_refusedMeeting_0 rfl) (by decide)
theorem dX8_refusedMeeting_55 : DR cX8_refusedMeeting 55 (.iload 4) 2 := dk_21 (bA_sl (a := 0) (j := 55) bkX8_refusedMeeting_0 rfl) (bA_sl (a := 0) (j := 56) bkX8_refusedMeeting_0 rfl) (by decide)
theorem dX8_refusedMeeting_57 : DR cX8_refusedMeeting 57 (.aload_n 0) 1 := dk_42 (bA_sl (a := 0) (j := 57) bkX8_refusedMeeting_0 rfl)
theorem dX8_refusedMeeting_58 : DR cX8_refusedMeeting 58 (.getfield 44) 3 := dk_180 (bA_sl (a := 0) (j := 58) bkX8_refusedMeeting_0 rfl) (bA_sl (a := 0) (j := 59) bkX8_refusedMeeting_0 rfl) (bA_sl (a := 0) (j := 60) bkX8_refusedMeeting_0 rfl) (by decide) rfl
theorem dX8_refusedMeeting_61 : DR cX8_refusedMeeting 61 (.iload_n 1) 1 := dk_27 (bA_sl (a := 0) (j := 61) bkX8_refusedMeeting_0 rfl)
theorem dX8_refusedMeeting_62 : DR cX8_refusedMeeting 62 (.aaload) 1 := dk_50 (bA_sl (a := 0) (j := 62) bkX8_refusedMeeting_0 rfl)
theorem bkX8_refusedMeeting_1 : ((cX8_refusedMeeting.data.toList.drop 64).take 64).map UInt8.toNat = [0, 193, 162, 0, 37, 42, 180, 0, 27, 29, 42, 180, 0, 44, 27, 50, 21, 4, 182, 0, 196, 182, 0, 174, 62, 29, 2, 160, 0, 6, 16, 251, 172, 132, 4, 1, 167, 255, 211, 3, 172] := by decide +kernel
theorem dX8_refusedMeeting_63 : DR cX8_refusedMeeting 63 (.getfield 193) 3 := dk_180 (bA_sl (a := 0) (j := 63) bkX8_refusedMeeting_0 rfl) (bA_sl (a := 64) (j := 0) bkX8_refusedMeeting_1 rfl) (bA_sl (a := 64) (j := 1) bkX8_refusedMeeting_1 rfl) (by decide) rfl
theorem dX8_refusedMeeting_66 : DR cX8_refusedMeeting 66 (.if_icmp .ge 37) 3 := dk_162 (bA_sl (a := 64) (j := 2) bkX8_refusedMeeting_1 rfl) (bA_sl (a := 64) (j := 3) bkX8_refusedMeeting_1 rfl) (bA_sl (a := 64) (j := 4) bkX8_refusedMeeting_1 rfl) (by decide) (by decide)
theorem dX8_refusedMeeting_69 : DR cX8_refusedMeeting 69 (.aload_n 0) 1 := dk_42 (bA_sl (a := 64) (j := 5) bkX8_refusedMeeting_1 rfl)
theorem dX8_refusedMeeting_70 : DR cX8_refusedMeeting 70 (.getfield 27) 3 := dk_180 (bA_sl (a := 64) (j := 6) bkX8_refusedMeeting_1 rfl) (bA_sl (a := 64) (j := 7) bkX8_refusedMeeting_1 rfl) (bA_sl (a := 64) (j := 8) bkX8_refusedMeeting_1 rfl) (by decide) rfl
theorem dX8_refusedMeeting_73 : DR cX8_refusedMeeting 73 (.iload_n 3) 1 := dk_29 (bA_sl (a := 64) (j := 9) bkX8_refusedMeeting_1 rfl)
theorem dX8_refusedMeeting_74 : DR cX8_refusedMeeting 74 (.aload_n 0) 1 := dk_42 (bA_sl (a := 64) (j := 10) bkX8_refusedMeeting_1 rfl)
theorem dX8_refusedMeeting_75 : DR cX8_refusedMeeting 75 (.getfield 44) 3 := dk_180 (bA_sl (a := 64) (j := 11) bkX8_refusedMeeting_1 rfl) (bA_sl (a := 64) (j := 12) bkX8_refusedMeeting_1 rfl) (bA_sl (a := 64) (j := 13) bkX8_refusedMeeting_1 rfl) (by decide) rfl
theorem dX8_refusedMeeting_78 : DR cX8_refusedMeeting 78 (.iload_n 1) 1 := dk_27 (bA_sl (a := 64) (j := 14) bkX8_refusedMeeting_1 rfl)
theorem dX8_refusedMeeting_79 : DR cX8_refusedMeeting 79 (.aaload) 1 := dk_50 (bA_sl (a := 64) (j := 15) bkX8_refusedMeeting_1 rfl)
theorem dX8_refusedMeeting_80 : DR cX8_refusedMeeting 80 (.iload 4) 2 := dk_21 (bA_sl (a := 64) (j := 16) bkX8_refusedMeeting_1 rfl) (bA_sl (a := 64) (j := 17) bkX8_refusedMeeting_1 rfl) (by decide)
theorem dX8_refusedMeeting_82 : DR cX8_refusedMeeting 82 (.invokevirtual 196) 3 := dk_182 (bA_sl (a := 64) (j := 18) bkX8_refusedMeeting_1 rfl) (bA_sl (a := 64) (j := 19) bkX8_refusedMeeting_1 rfl) (bA_sl (a := 64) (j := 20) bkX8_refusedMeeting_1 rfl) (by decide) rfl
theorem dX8_refusedMeeting_85 : DR cX8_refusedMeeting 85 (.invokevirtual 174) 3 := dk_182 (bA_sl (a := 64) (j := 21) bkX8_refusedMeeting_1 rfl) (bA_sl (a := 64) (j := 22) bkX8_refusedMeeting_1 rfl) (bA_sl (a := 64) (j := 23) bkX8_refusedMeeting_1 rfl) (by decide) rfl
theorem dX8_refusedMeeting_88 : DR cX8_refusedMeeting 88 (.istore_n 3) 1 := dk_62 (bA_sl (a := 64) (j := 24) bkX8_refusedMeeting_1 rfl)
theorem dX8_refusedMeeting_89 : DR cX8_refusedMeeting 89 (.iload_n 3) 1 := dk_29 (bA_sl (a := 64) (j := 25) bkX8_refusedMeeting_1 rfl)
theorem dX8_refusedMeeting_90 : DR cX8_refusedMeeting 90 (.iconst (-1)) 1 := dk_2 (bA_sl (a := 64) (j := 26) bkX8_refusedMeeting_1 rfl)
theorem dX8_refusedMeeting_91 : DR cX8_refusedMeeting 91 (.if_icmp .ne 6) 3 := dk_160 (bA_sl (a := 64) (j := 27) bkX8_refusedMeeting_1 rfl) (bA_sl (a := 64) (j := 28) bkX8_refusedMeeting_1 rfl) (bA_sl (a := 64) (j := 29) bkX8_refusedMeeting_1 rfl) (by decide) (by decide)
theorem dX8_refusedMeeting_94 : DR cX8_refusedMeeting 94 (.bipush (-5)) 2 := dk_16 (bA_sl (a := 64) (j := 30) bkX8_refusedMeeting_1 rfl) (bA_sl (a := 64) (j := 31) bkX8_refusedMeeting_1 rfl) (by decide) (by decide)
theorem dX8_refusedMeeting_96 : DR cX8_refusedMeeting 96 (.ireturn) 1 := dk_172 (bA_sl (a := 64) (j := 32) bkX8_refusedMeeting_1 rfl)
theorem dX8_refusedMeeting_97 : DR cX8_refusedMeeting 97 (.iinc 4 1) 3 := dk_132 (bA_sl (a := 64) (j := 33) bkX8_refusedMeeting_1 rfl) (bA_sl (a := 64) (j := 34) bkX8_refusedMeeting_1 rfl) (bA_sl (a := 64) (j := 35) bkX8_refusedMeeting_1 rfl) (by decide) (by decide)
theorem dX8_refusedMeeting_100 : DR cX8_refusedMeeting 100 (.goto (-45)) 3 := dk_167 (bA_sl (a := 64) (j := 36) bkX8_refusedMeeting_1 rfl) (bA_sl (a := 64) (j := 37) bkX8_refusedMeeting_1 rfl) (bA_sl (a := 64) (j := 38) bkX8_refusedMeeting_1 rfl) (by decide) (by decide)
theorem dX8_refusedMeeting_103 : DR cX8_refusedMeeting 103 (.iconst 0) 1 := dk_3 (bA_sl (a := 64) (j := 39) bkX8_refusedMeeting_1 rfl)
theorem dX8_refusedMeeting_104 : DR cX8_refusedMeeting 104 (.ireturn) 1 := dk_172 (bA_sl (a := 64) (j := 40) bkX8_refusedMeeting_1 rfl)
theorem bkX8_firstMeeting_0 : ((cX8_firstMeeting.data.toList.drop 0).take 64).map UInt8.toNat = [42, 180, 0, 27, 180, 0, 128, 54, 4, 29, 43, 180, 0, 193, 96, 44, 180, 0, 193, 184, 0, 211, 54, 5, 3, 54, 6, 21, 6, 21, 5, 162, 0, 60, 21, 6, 29, 161, 0, 22, 42, 180, 0, 27, 21, 4, 43, 21, 6, 29, 100, 182, 0, 196, 182, 0, 174, 54, 4, 21, 4, 42, 180, 0] := by decide +kernel
theorem dX8_firstMeeting_0 : DR cX8_firstMeeting 0 (.aload_n 0) 1 := dk_42 (bA_sl (a := 0) (j := 0) bkX8_firstMeeting_0 rfl)
theorem dX8_firstMeeting_1 : DR cX8_firstMeeting 1 (.getfield 27) 3 := dk_180 (bA_sl (a := 0) (j := 1) bkX8_firstMeeting_0 rfl) (bA_sl (a := 0) (j := 2) bkX8_firstMeeting_0 rfl) (bA_sl (a := 0) (j := 3) bkX8_firstMeeting_0 rfl) (by decide) rfl
theorem dX8_firstMeeting_4 : DR cX8_firstMeeting 4 (.getfield 128) 3 := dk_180 (bA_sl (a := 0) (j := 4) bkX8_firstMeeting_0 rfl) (bA_sl (a := 0) (j := 5) bkX8_firstMeeting_0 rfl) (bA_sl (a := 0) (j := 6) bkX8_firstMeeting_0 rfl) (by decide) rfl
theorem dX8_firstMeeting_7 : DR cX8_firstMeeting 7 (.istore 4) 2 := dk_54 (bA_sl (a := 0) (j := 7) bkX8_firstMeeting_0 rfl) (bA_sl (a := 0) (j := 8) bkX8_firstMeeting_0 rfl) (by decide)
theorem dX8_firstMeeting_9 : DR cX8_firstMeeting 9 (.iload_n 3) 1 := dk_29 (bA_sl (a := 0) (j := 9) bkX8_firstMeeting_0 rfl)
theorem dX8_firstMeeting_10 : DR cX8_firstMeeting 10 (.aload_n 1) 1 := dk_43 (bA_sl (a := 0) (j := 10) bkX8_firstMeeting_0 rfl)
theorem dX8_firstMeeting_11 : DR cX8_firstMeeting 11 (.getfield 193) 3 := dk_180 (bA_sl (a := 0) (j := 11) bkX8_firstMeeting_0 rfl) (bA_sl (a := 0) (j := 12) bkX8_firstMeeting_0 rfl) (bA_sl (a := 0) (j := 13) bkX8_firstMeeting_0 rfl) (by decide) rfl
theorem dX8_firstMeeting_14 : DR cX8_firstMeeting 14 (.iadd) 1 := dk_96 (bA_sl (a := 0) (j := 14) bkX8_firstMeeting_0 rfl)
theorem dX8_firstMeeting_15 : DR cX8_firstMeeting 15 (.aload_n 2) 1 := dk_44 (bA_sl (a := 0) (j := 15) bkX8_firstMeeting_0 rfl)
theorem dX8_firstMeeting_16 : DR cX8_firstMeeting 16 (.getfield 193) 3 := dk_180 (bA_sl (a := 0) (j := 16) bkX8_firstMeeting_0 rfl) (bA_sl (a := 0) (j := 17) bkX8_firstMeeting_0 rfl) (bA_sl (a := 0) (j := 18) bkX8_firstMeeting_0 rfl) (by decide) rfl
theorem dX8_firstMeeting_19 : DR cX8_firstMeeting 19 (.invokestatic 211) 3 := dk_184 (bA_sl (a := 0) (j := 19) bkX8_firstMeeting_0 rfl) (bA_sl (a := 0) (j := 20) bkX8_firstMeeting_0 rfl) (bA_sl (a := 0) (j := 21) bkX8_firstMeeting_0 rfl) (by decide) rfl
theorem dX8_firstMeeting_22 : DR cX8_firstMeeting 22 (.istore 5) 2 := dk_54 (bA_sl (a := 0) (j := 22) bkX8_firstMeeting_0 rfl) (bA_sl (a := 0) (j := 23) bkX8_firstMeeting_0 rfl) (by decide)
theorem dX8_firstMeeting_24 : DR cX8_firstMeeting 24 (.iconst 0) 1 := dk_3 (bA_sl (a := 0) (j := 24) bkX8_firstMeeting_0 rfl)
theorem dX8_firstMeeting_25 : DR cX8_firstMeeting 25 (.istore 6) 2 := dk_54 (bA_sl (a := 0) (j := 25) bkX8_firstMeeting_0 rfl) (bA_sl (a := 0) (j := 26) bkX8_firstMeeting_0 rfl) (by decide)
theorem dX8_firstMeeting_27 : DR cX8_firstMeeting 27 (.iload 6) 2 := dk_21 (bA_sl (a := 0) (j := 27) bkX8_firstMeeting_0 rfl) (bA_sl (a := 0) (j := 28) bkX8_firstMeeting_0 rfl) (by decide)
theorem dX8_firstMeeting_29 : DR cX8_firstMeeting 29 (.iload 5) 2 := dk_21 (bA_sl (a := 0) (j := 29) bkX8_firstMeeting_0 rfl) (bA_sl (a := 0) (j := 30) bkX8_firstMeeting_0 rfl) (by decide)
theorem dX8_firstMeeting_31 : DR cX8_firstMeeting 31 (.if_icmp .ge 60) 3 := dk_162 (bA_sl (a := 0) (j := 31) bkX8_firstMeeting_0 rfl) (bA_sl (a := 0) (j := 32) bkX8_firstMeeting_0 rfl) (bA_sl (a := 0) (j := 33) bkX8_firstMeeting_0 rfl) (by decide) (by decide)
theorem dX8_firstMeeting_34 : DR cX8_firstMeeting 34 (.iload 6) 2 := dk_21 (bA_sl (a := 0) (j := 34) bkX8_firstMeeting_0 rfl) (bA_sl (a := 0) (j := 35) bkX8_firstMeeting_0 rfl) (by decide)
theorem dX8_firstMeeting_36 : DR cX8_firstMeeting 36 (.iload_n 3) 1 := dk_29 (bA_sl (a := 0) (j := 36) bkX8_firstMeeting_0 rfl)
theorem dX8_firstMeeting_37 : DR cX8_firstMeeting 37 (.if_icmp .lt 22) 3 := dk_161 (bA_sl (a := 0) (j := 37) bkX8_firstMeeting_0 rfl) (bA_sl (a := 0) (j := 38) bkX8_firstMeeting_0 rfl) (bA_sl (a := 0) (j := 39) bkX8_firstMeeting_0 rfl) (by decide) (by decide)
theorem dX8_firstMeeting_40 : DR cX8_firstMeeting 40 (.aload_n 0) 1 := dk_42 (bA_sl (a := 0) (j := 40) bkX8_firstMeeting_0 rfl)
theorem dX8_firstMeeting_41 : DR cX8_firstMeeting 41 (.getfield 27) 3 := dk_180 (bA_sl (a := 0) (j := 41) bkX8_firstMeeting_0 rfl) (bA_sl (a := 0) (j := 42) bkX8_firstMeeting_0 rfl) (bA_sl (a := 0) (j := 43) bkX8_firstMeeting_0 rfl) (by decide) rfl
theorem dX8_firstMeeting_44 : DR cX8_firstMeeting 44 (.iload 4) 2 := dk_21 (bA_sl (a := 0) (j := 44) bkX8_firstMeeting_0 rfl) (bA_sl (a := 0) (j := 45) bkX8_firstMeeting_0 rfl) (by decide)
theorem dX8_firstMeeting_46 : DR cX8_firstMeeting 46 (.aload_n 1) 1 := dk_43 (bA_sl (a := 0) (j := 46) bkX8_firstMeeting_0 rfl)
theorem dX8_firstMeeting_47 : DR cX8_firstMeeting 47 (.iload 6) 2 := dk_21 (bA_sl (a := 0) (j := 47) bkX8_firstMeeting_0 rfl) (bA_sl (a := 0) (j := 48) bkX8_firstMeeting_0 rfl) (by decide)
theorem dX8_firstMeeting_49 : DR cX8_firstMeeting 49 (.iload_n 3) 1 := dk_29 (bA_sl (a := 0) (j := 49) bkX8_firstMeeting_0 rfl)
theorem dX8_firstMeeting_50 : DR cX8_firstMeeting 50 (.isub) 1 := dk_100 (bA_sl (a := 0) (j := 50) bkX8_firstMeeting_0 rfl)
theorem dX8_firstMeeting_51 : DR cX8_firstMeeting 51 (.invokevirtual 196) 3 := dk_182 (bA_sl (a := 0) (j := 51) bkX8_firstMeeting_0 rfl) (bA_sl (a := 0) (j := 52) bkX8_firstMeeting_0 rfl) (bA_sl (a := 0) (j := 53) bkX8_firstMeeting_0 rfl) (by decide) rfl
theorem dX8_firstMeeting_54 : DR cX8_firstMeeting 54 (.invokevirtual 174) 3 := dk_182 (bA_sl (a := 0) (j := 54) bkX8_firstMeeting_0 rfl) (bA_sl (a := 0) (j := 55) bkX8_firstMeeting_0 rfl) (bA_sl (a := 0) (j := 56) bkX8_firstMeeting_0 rfl) (by decide) rfl
theorem dX8_firstMeeting_57 : DR cX8_firstMeeting 57 (.istore 4) 2 := dk_54 (bA_sl (a := 0) (j := 57) bkX8_firstMeeting_0 rfl) (bA_sl (a := 0) (j := 58) bkX8_firstMeeting_0 rfl) (by decide)
theorem dX8_firstMeeting_59 : DR cX8_firstMeeting 59 (.iload 4) 2 := dk_21 (bA_sl (a := 0) (j := 59) bkX8_firstMeeting_0 rfl) (bA_sl (a := 0) (j := 60) bkX8_firstMeeting_0 rfl) (by decide)
theorem dX8_firstMeeting_61 : DR cX8_firstMeeting 61 (.aload_n 0) 1 := dk_42 (bA_sl (a := 0) (j := 61) bkX8_firstMeeting_0 rfl)
theorem bkX8_firstMeeting_1 : ((cX8_firstMeeting.data.toList.drop 64).take 64).map UInt8.toNat = [27, 180, 1, 90, 160, 0, 17, 44, 21, 6, 182, 0, 196, 9, 148, 154, 0, 6, 21, 6, 172, 132, 6, 1, 167, 255, 195, 2, 172] := by decide +kernel
theorem dX8_firstMeeting_62 : DR cX8_firstMeeting 62 (.getfield 27) 3 := dk_180 (bA_sl (a := 0) (j := 62) bkX8_firstMeeting_0 rfl) (bA_sl (a := 0) (j := 63) bkX8_firstMeeting_0 rfl) (bA_sl (a := 64) (j := 0) bkX8_firstMeeting_1 rfl) (by decide) rfl
theorem dX8_firstMeeting_65 : DR cX8_firstMeeting 65 (.getfield 346) 3 := dk_180 (bA_sl (a := 64) (j := 1) bkX8_firstMeeting_1 rfl) (bA_sl (a := 64) (j := 2) bkX8_firstMeeting_1 rfl) (bA_sl (a := 64) (j := 3) bkX8_firstMeeting_1 rfl) (by decide) rfl
theorem dX8_firstMeeting_68 : DR cX8_firstMeeting 68 (.if_icmp .ne 17) 3 := dk_160 (bA_sl (a := 64) (j := 4) bkX8_firstMeeting_1 rfl) (bA_sl (a := 64) (j := 5) bkX8_firstMeeting_1 rfl) (bA_sl (a := 64) (j := 6) bkX8_firstMeeting_1 rfl) (by decide) (by decide)
theorem dX8_firstMeeting_71 : DR cX8_firstMeeting 71 (.aload_n 2) 1 := dk_44 (bA_sl (a := 64) (j := 7) bkX8_firstMeeting_1 rfl)
theorem dX8_firstMeeting_72 : DR cX8_firstMeeting 72 (.iload 6) 2 := dk_21 (bA_sl (a := 64) (j := 8) bkX8_firstMeeting_1 rfl) (bA_sl (a := 64) (j := 9) bkX8_firstMeeting_1 rfl) (by decide)
theorem dX8_firstMeeting_74 : DR cX8_firstMeeting 74 (.invokevirtual 196) 3 := dk_182 (bA_sl (a := 64) (j := 10) bkX8_firstMeeting_1 rfl) (bA_sl (a := 64) (j := 11) bkX8_firstMeeting_1 rfl) (bA_sl (a := 64) (j := 12) bkX8_firstMeeting_1 rfl) (by decide) rfl
theorem dX8_firstMeeting_77 : DR cX8_firstMeeting 77 (.lconst 0) 1 := dk_9 (bA_sl (a := 64) (j := 13) bkX8_firstMeeting_1 rfl)
theorem dX8_firstMeeting_78 : DR cX8_firstMeeting 78 (.lcmp) 1 := dk_148 (bA_sl (a := 64) (j := 14) bkX8_firstMeeting_1 rfl)
theorem dX8_firstMeeting_79 : DR cX8_firstMeeting 79 (.ifCond .ne 6) 3 := dk_154 (bA_sl (a := 64) (j := 15) bkX8_firstMeeting_1 rfl) (bA_sl (a := 64) (j := 16) bkX8_firstMeeting_1 rfl) (bA_sl (a := 64) (j := 17) bkX8_firstMeeting_1 rfl) (by decide) (by decide)
theorem dX8_firstMeeting_82 : DR cX8_firstMeeting 82 (.iload 6) 2 := dk_21 (bA_sl (a := 64) (j := 18) bkX8_firstMeeting_1 rfl) (bA_sl (a := 64) (j := 19) bkX8_firstMeeting_1 rfl) (by decide)
theorem dX8_firstMeeting_84 : DR cX8_firstMeeting 84 (.ireturn) 1 := dk_172 (bA_sl (a := 64) (j := 20) bkX8_firstMeeting_1 rfl)
theorem dX8_firstMeeting_85 : DR cX8_firstMeeting 85 (.iinc 6 1) 3 := dk_132 (bA_sl (a := 64) (j := 21) bkX8_firstMeeting_1 rfl) (bA_sl (a := 64) (j := 22) bkX8_firstMeeting_1 rfl) (bA_sl (a := 64) (j := 23) bkX8_firstMeeting_1 rfl) (by decide) (by decide)
theorem dX8_firstMeeting_88 : DR cX8_firstMeeting 88 (.goto (-61)) 3 := dk_167 (bA_sl (a := 64) (j := 24) bkX8_firstMeeting_1 rfl) (bA_sl (a := 64) (j := 25) bkX8_firstMeeting_1 rfl) (bA_sl (a := 64) (j := 26) bkX8_firstMeeting_1 rfl) (by decide) (by decide)
theorem dX8_firstMeeting_91 : DR cX8_firstMeeting 91 (.iconst (-1)) 1 := dk_2 (bA_sl (a := 64) (j := 27) bkX8_firstMeeting_1 rfl)
theorem dX8_firstMeeting_92 : DR cX8_firstMeeting 92 (.ireturn) 1 := dk_172 (bA_sl (a := 64) (j := 28) bkX8_firstMeeting_1 rfl)
theorem bkX9_within_0 : ((cX9_within.data.toList.drop 0).take 64).map UInt8.toNat = [30, 32, 148, 155, 0, 14, 30, 22, 4, 148, 157, 0, 7, 4, 167, 0, 4, 3, 172] := by decide +kernel
theorem dX9_within_0 : DR cX9_within 0 (.lload_n 0) 1 := dk_30 (bA_sl (a := 0) (j := 0) bkX9_within_0 rfl)
theorem dX9_within_1 : DR cX9_within 1 (.lload_n 2) 1 := dk_32 (bA_sl (a := 0) (j := 1) bkX9_within_0 rfl)
theorem dX9_within_2 : DR cX9_within 2 (.lcmp) 1 := dk_148 (bA_sl (a := 0) (j := 2) bkX9_within_0 rfl)
theorem dX9_within_3 : DR cX9_within 3 (.ifCond .lt 14) 3 := dk_155 (bA_sl (a := 0) (j := 3) bkX9_within_0 rfl) (bA_sl (a := 0) (j := 4) bkX9_within_0 rfl) (bA_sl (a := 0) (j := 5) bkX9_within_0 rfl) (by decide) (by decide)
theorem dX9_within_6 : DR cX9_within 6 (.lload_n 0) 1 := dk_30 (bA_sl (a := 0) (j := 6) bkX9_within_0 rfl)
theorem dX9_within_7 : DR cX9_within 7 (.lload 4) 2 := dk_22 (bA_sl (a := 0) (j := 7) bkX9_within_0 rfl) (bA_sl (a := 0) (j := 8) bkX9_within_0 rfl) (by decide)
theorem dX9_within_9 : DR cX9_within 9 (.lcmp) 1 := dk_148 (bA_sl (a := 0) (j := 9) bkX9_within_0 rfl)
theorem dX9_within_10 : DR cX9_within 10 (.ifCond .gt 7) 3 := dk_157 (bA_sl (a := 0) (j := 10) bkX9_within_0 rfl) (bA_sl (a := 0) (j := 11) bkX9_within_0 rfl) (bA_sl (a := 0) (j := 12) bkX9_within_0 rfl) (by decide) (by decide)
theorem dX9_within_13 : DR cX9_within 13 (.iconst 1) 1 := dk_4 (bA_sl (a := 0) (j := 13) bkX9_within_0 rfl)
theorem dX9_within_14 : DR cX9_within 14 (.goto 4) 3 := dk_167 (bA_sl (a := 0) (j := 14) bkX9_within_0 rfl) (bA_sl (a := 0) (j := 15) bkX9_within_0 rfl) (bA_sl (a := 0) (j := 16) bkX9_within_0 rfl) (by decide) (by decide)
theorem dX9_within_17 : DR cX9_within 17 (.iconst 0) 1 := dk_3 (bA_sl (a := 0) (j := 17) bkX9_within_0 rfl)
theorem dX9_within_18 : DR cX9_within 18 (.ireturn) 1 := dk_172 (bA_sl (a := 0) (j := 18) bkX9_within_0 rfl)
theorem bkX9_init_0 : ((cX9_init.data.toList.drop 0).take 64).map UInt8.toNat = [42, 183, 0, 7, 42, 17, 1, 32, 188, 10, 181, 0, 13, 42, 5, 188, 4, 181, 0, 17, 42, 17, 3, 132, 188, 10, 181, 0, 21, 42, 16, 96, 188, 10, 181, 0, 24, 42, 2, 181, 0, 27, 42, 16, 6, 188, 10, 181, 0, 30, 42, 17, 3, 192, 188, 10, 181, 0, 33, 42, 16, 8, 188, 10] := by decide +kernel
theorem dX9_init_0 : DR cX9_init 0 (.aload_n 0) 1 := dk_42 (bA_sl (a := 0) (j := 0) bkX9_init_0 rfl)
theorem dX9_init_1 : DR cX9_init 1 (.invokespecial 7) 3 := dk_183 (bA_sl (a := 0) (j := 1) bkX9_init_0 rfl) (bA_sl (a := 0) (j := 2) bkX9_init_0 rfl) (bA_sl (a := 0) (j := 3) bkX9_init_0 rfl) (by decide) rfl
theorem dX9_init_4 : DR cX9_init 4 (.aload_n 0) 1 := dk_42 (bA_sl (a := 0) (j := 4) bkX9_init_0 rfl)
theorem dX9_init_5 : DR cX9_init 5 (.sipush 288) 3 := dk_17 (bA_sl (a := 0) (j := 5) bkX9_init_0 rfl) (bA_sl (a := 0) (j := 6) bkX9_init_0 rfl) (bA_sl (a := 0) (j := 7) bkX9_init_0 rfl) (by decide) (by decide)
theorem dX9_init_8 : decode cX9_init 8 = .ok (.newarray .int, 2) := by decide +kernel
theorem dX9_init_10 : DR cX9_init 10 (.putfield 13) 3 := dk_181 (bA_sl (a := 0) (j := 10) bkX9_init_0 rfl) (bA_sl (a := 0) (j := 11) bkX9_init_0 rfl) (bA_sl (a := 0) (j := 12) bkX9_init_0 rfl) (by decide) rfl
theorem dX9_init_13 : DR cX9_init 13 (.aload_n 0) 1 := dk_42 (bA_sl (a := 0) (j := 13) bkX9_init_0 rfl)
theorem dX9_init_14 : DR cX9_init 14 (.iconst 2) 1 := dk_5 (bA_sl (a := 0) (j := 14) bkX9_init_0 rfl)
theorem dX9_init_15 : decode cX9_init 15 = .ok (.newarray .boolean, 2) := by decide +kernel
theorem dX9_init_17 : DR cX9_init 17 (.putfield 17) 3 := dk_181 (bA_sl (a := 0) (j := 17) bkX9_init_0 rfl) (bA_sl (a := 0) (j := 18) bkX9_init_0 rfl) (bA_sl (a := 0) (j := 19) bkX9_init_0 rfl) (by decide) rfl
theorem dX9_init_20 : DR cX9_init 20 (.aload_n 0) 1 := dk_42 (bA_sl (a := 0) (j := 20) bkX9_init_0 rfl)
theorem dX9_init_21 : DR cX9_init 21 (.sipush 900) 3 := dk_17 (bA_sl (a := 0) (j := 21) bkX9_init_0 rfl) (bA_sl (a := 0) (j := 22) bkX9_init_0 rfl) (bA_sl (a := 0) (j := 23) bkX9_init_0 rfl) (by decide) (by decide)
theorem dX9_init_24 : decode cX9_init 24 = .ok (.newarray .int, 2) := by decide +kernel
theorem dX9_init_26 : DR cX9_init 26 (.putfield 21) 3 := dk_181 (bA_sl (a := 0) (j := 26) bkX9_init_0 rfl) (bA_sl (a := 0) (j := 27) bkX9_init_0 rfl) (bA_sl (a := 0) (j := 28) bkX9_init_0 rfl) (by decide) rfl
theorem dX9_init_29 : DR cX9_init 29 (.aload_n 0) 1 := dk_42 (bA_sl (a := 0) (j := 29) bkX9_init_0 rfl)
theorem dX9_init_30 : DR cX9_init 30 (.bipush 96) 2 := dk_16 (bA_sl (a := 0) (j := 30) bkX9_init_0 rfl) (bA_sl (a := 0) (j := 31) bkX9_init_0 rfl) (by decide) (by decide)
theorem dX9_init_32 : decode cX9_init 32 = .ok (.newarray .int, 2) := by decide +kernel
theorem dX9_init_34 : DR cX9_init 34 (.putfield 24) 3 := dk_181 (bA_sl (a := 0) (j := 34) bkX9_init_0 rfl) (bA_sl (a := 0) (j := 35) bkX9_init_0 rfl) (bA_sl (a := 0) (j := 36) bkX9_init_0 rfl) (by decide) rfl
theorem dX9_init_37 : DR cX9_init 37 (.aload_n 0) 1 := dk_42 (bA_sl (a := 0) (j := 37) bkX9_init_0 rfl)
theorem dX9_init_38 : DR cX9_init 38 (.iconst (-1)) 1 := dk_2 (bA_sl (a := 0) (j := 38) bkX9_init_0 rfl)
theorem dX9_init_39 : DR cX9_init 39 (.putfield 27) 3 := dk_181 (bA_sl (a := 0) (j := 39) bkX9_init_0 rfl) (bA_sl (a := 0) (j := 40) bkX9_init_0 rfl) (bA_sl (a := 0) (j := 41) bkX9_init_0 rfl) (by decide) rfl
theorem dX9_init_42 : DR cX9_init 42 (.aload_n 0) 1 := dk_42 (bA_sl (a := 0) (j := 42) bkX9_init_0 rfl)
theorem dX9_init_43 : DR cX9_init 43 (.bipush 6) 2 := dk_16 (bA_sl (a := 0) (j := 43) bkX9_init_0 rfl) (bA_sl (a := 0) (j := 44) bkX9_init_0 rfl) (by decide) (by decide)
theorem dX9_init_45 : decode cX9_init 45 = .ok (.newarray .int, 2) := by decide +kernel
theorem dX9_init_47 : DR cX9_init 47 (.putfield 30) 3 := dk_181 (bA_sl (a := 0) (j := 47) bkX9_init_0 rfl) (bA_sl (a := 0) (j := 48) bkX9_init_0 rfl) (bA_sl (a := 0) (j := 49) bkX9_init_0 rfl) (by decide) rfl
theorem dX9_init_50 : DR cX9_init 50 (.aload_n 0) 1 := dk_42 (bA_sl (a := 0) (j := 50) bkX9_init_0 rfl)
theorem dX9_init_51 : DR cX9_init 51 (.sipush 960) 3 := dk_17 (bA_sl (a := 0) (j := 51) bkX9_init_0 rfl) (bA_sl (a := 0) (j := 52) bkX9_init_0 rfl) (bA_sl (a := 0) (j := 53) bkX9_init_0 rfl) (by decide) (by decide)
theorem dX9_init_54 : decode cX9_init 54 = .ok (.newarray .int, 2) := by decide +kernel
theorem dX9_init_56 : DR cX9_init 56 (.putfield 33) 3 := dk_181 (bA_sl (a := 0) (j := 56) bkX9_init_0 rfl) (bA_sl (a := 0) (j := 57) bkX9_init_0 rfl) (bA_sl (a := 0) (j := 58) bkX9_init_0 rfl) (by decide) rfl
theorem dX9_init_59 : DR cX9_init 59 (.aload_n 0) 1 := dk_42 (bA_sl (a := 0) (j := 59) bkX9_init_0 rfl)
theorem dX9_init_60 : DR cX9_init 60 (.bipush 8) 2 := dk_16 (bA_sl (a := 0) (j := 60) bkX9_init_0 rfl) (bA_sl (a := 0) (j := 61) bkX9_init_0 rfl) (by decide) (by decide)
theorem dX9_init_62 : decode cX9_init 62 = .ok (.newarray .int, 2) := by decide +kernel
theorem bkX9_init_1 : ((cX9_init.data.toList.drop 64).take 64).map UInt8.toNat = [181, 0, 36, 42, 16, 8, 188, 10, 181, 0, 39, 42, 16, 6, 188, 10, 181, 0, 42, 42, 17, 45, 144, 188, 10, 181, 0, 45, 42, 16, 16, 188, 10, 181, 0, 48, 42, 7, 188, 10, 89, 3, 2, 79, 89, 4, 2, 79, 89, 5, 2, 79, 89, 6, 2, 79, 181, 0, 51, 42, 7, 188, 10, 181] := by decide +kernel
theorem dX9_init_64 : DR cX9_init 64 (.putfield 36) 3 := dk_181 (bA_sl (a := 64) (j := 0) bkX9_init_1 rfl) (bA_sl (a := 64) (j := 1) bkX9_init_1 rfl) (bA_sl (a := 64) (j := 2) bkX9_init_1 rfl) (by decide) rfl
theorem dX9_init_67 : DR cX9_init 67 (.aload_n 0) 1 := dk_42 (bA_sl (a := 64) (j := 3) bkX9_init_1 rfl)
theorem dX9_init_68 : DR cX9_init 68 (.bipush 8) 2 := dk_16 (bA_sl (a := 64) (j := 4) bkX9_init_1 rfl) (bA_sl (a := 64) (j := 5) bkX9_init_1 rfl) (by decide) (by decide)
theorem dX9_init_70 : decode cX9_init 70 = .ok (.newarray .int, 2) := by decide +kernel
theorem dX9_init_72 : DR cX9_init 72 (.putfield 39) 3 := dk_181 (bA_sl (a := 64) (j := 8) bkX9_init_1 rfl) (bA_sl (a := 64) (j := 9) bkX9_init_1 rfl) (bA_sl (a := 64) (j := 10) bkX9_init_1 rfl) (by decide) rfl
theorem dX9_init_75 : DR cX9_init 75 (.aload_n 0) 1 := dk_42 (bA_sl (a := 64) (j := 11) bkX9_init_1 rfl)
theorem dX9_init_76 : DR cX9_init 76 (.bipush 6) 2 := dk_16 (bA_sl (a := 64) (j := 12) bkX9_init_1 rfl) (bA_sl (a := 64) (j := 13) bkX9_init_1 rfl) (by decide) (by decide)
theorem dX9_init_78 : decode cX9_init 78 = .ok (.newarray .int, 2) := by decide +kernel
theorem dX9_init_80 : DR cX9_init 80 (.putfield 42) 3 := dk_181 (bA_sl (a := 64) (j := 16) bkX9_init_1 rfl) (bA_sl (a := 64) (j := 17) bkX9_init_1 rfl) (bA_sl (a := 64) (j := 18) bkX9_init_1 rfl) (by decide) rfl
theorem dX9_init_83 : DR cX9_init 83 (.aload_n 0) 1 := dk_42 (bA_sl (a := 64) (j := 19) bkX9_init_1 rfl)
theorem dX9_init_84 : DR cX9_init 84 (.sipush 11664) 3 := dk_17 (bA_sl (a := 64) (j := 20) bkX9_init_1 rfl) (bA_sl (a := 64) (j := 21) bkX9_init_1 rfl) (bA_sl (a := 64) (j := 22) bkX9_init_1 rfl) (by decide) (by decide)
theorem dX9_init_87 : decode cX9_init 87 = .ok (.newarray .int, 2) := by decide +kernel
theorem dX9_init_89 : DR cX9_init 89 (.putfield 45) 3 := dk_181 (bA_sl (a := 64) (j := 25) bkX9_init_1 rfl) (bA_sl (a := 64) (j := 26) bkX9_init_1 rfl) (bA_sl (a := 64) (j := 27) bkX9_init_1 rfl) (by decide) rfl
theorem dX9_init_92 : DR cX9_init 92 (.aload_n 0) 1 := dk_42 (bA_sl (a := 64) (j := 28) bkX9_init_1 rfl)
theorem dX9_init_93 : DR cX9_init 93 (.bipush 16) 2 := dk_16 (bA_sl (a := 64) (j := 29) bkX9_init_1 rfl) (bA_sl (a := 64) (j := 30) bkX9_init_1 rfl) (by decide) (by decide)
theorem dX9_init_95 : decode cX9_init 95 = .ok (.newarray .int, 2) := by decide +kernel
theorem dX9_init_97 : DR cX9_init 97 (.putfield 48) 3 := dk_181 (bA_sl (a := 64) (j := 33) bkX9_init_1 rfl) (bA_sl (a := 64) (j := 34) bkX9_init_1 rfl) (bA_sl (a := 64) (j := 35) bkX9_init_1 rfl) (by decide) rfl
theorem dX9_init_100 : DR cX9_init 100 (.aload_n 0) 1 := dk_42 (bA_sl (a := 64) (j := 36) bkX9_init_1 rfl)
theorem dX9_init_101 : DR cX9_init 101 (.iconst 4) 1 := dk_7 (bA_sl (a := 64) (j := 37) bkX9_init_1 rfl)
theorem dX9_init_102 : decode cX9_init 102 = .ok (.newarray .int, 2) := by decide +kernel
theorem dX9_init_104 : DR cX9_init 104 (.dup) 1 := dk_89 (bA_sl (a := 64) (j := 40) bkX9_init_1 rfl)
theorem dX9_init_105 : DR cX9_init 105 (.iconst 0) 1 := dk_3 (bA_sl (a := 64) (j := 41) bkX9_init_1 rfl)
theorem dX9_init_106 : DR cX9_init 106 (.iconst (-1)) 1 := dk_2 (bA_sl (a := 64) (j := 42) bkX9_init_1 rfl)
theorem dX9_init_107 : DR cX9_init 107 (.iastore) 1 := dk_79 (bA_sl (a := 64) (j := 43) bkX9_init_1 rfl)
theorem dX9_init_108 : DR cX9_init 108 (.dup) 1 := dk_89 (bA_sl (a := 64) (j := 44) bkX9_init_1 rfl)
theorem dX9_init_109 : DR cX9_init 109 (.iconst 1) 1 := dk_4 (bA_sl (a := 64) (j := 45) bkX9_init_1 rfl)
theorem dX9_init_110 : DR cX9_init 110 (.iconst (-1)) 1 := dk_2 (bA_sl (a := 64) (j := 46) bkX9_init_1 rfl)
theorem dX9_init_111 : DR cX9_init 111 (.iastore) 1 := dk_79 (bA_sl (a := 64) (j := 47) bkX9_init_1 rfl)
theorem dX9_init_112 : DR cX9_init 112 (.dup) 1 := dk_89 (bA_sl (a := 64) (j := 48) bkX9_init_1 rfl)
theorem dX9_init_113 : DR cX9_init 113 (.iconst 2) 1 := dk_5 (bA_sl (a := 64) (j := 49) bkX9_init_1 rfl)
theorem dX9_init_114 : DR cX9_init 114 (.iconst (-1)) 1 := dk_2 (bA_sl (a := 64) (j := 50) bkX9_init_1 rfl)
theorem dX9_init_115 : DR cX9_init 115 (.iastore) 1 := dk_79 (bA_sl (a := 64) (j := 51) bkX9_init_1 rfl)
theorem dX9_init_116 : DR cX9_init 116 (.dup) 1 := dk_89 (bA_sl (a := 64) (j := 52) bkX9_init_1 rfl)
theorem dX9_init_117 : DR cX9_init 117 (.iconst 3) 1 := dk_6 (bA_sl (a := 64) (j := 53) bkX9_init_1 rfl)
theorem dX9_init_118 : DR cX9_init 118 (.iconst (-1)) 1 := dk_2 (bA_sl (a := 64) (j := 54) bkX9_init_1 rfl)
theorem dX9_init_119 : DR cX9_init 119 (.iastore) 1 := dk_79 (bA_sl (a := 64) (j := 55) bkX9_init_1 rfl)
theorem dX9_init_120 : DR cX9_init 120 (.putfield 51) 3 := dk_181 (bA_sl (a := 64) (j := 56) bkX9_init_1 rfl) (bA_sl (a := 64) (j := 57) bkX9_init_1 rfl) (bA_sl (a := 64) (j := 58) bkX9_init_1 rfl) (by decide) rfl
theorem dX9_init_123 : DR cX9_init 123 (.aload_n 0) 1 := dk_42 (bA_sl (a := 64) (j := 59) bkX9_init_1 rfl)
theorem dX9_init_124 : DR cX9_init 124 (.iconst 4) 1 := dk_7 (bA_sl (a := 64) (j := 60) bkX9_init_1 rfl)
theorem dX9_init_125 : decode cX9_init 125 = .ok (.newarray .int, 2) := by decide +kernel
theorem bkX9_init_2 : ((cX9_init.data.toList.drop 128).take 64).map UInt8.toNat = [0, 54, 42, 17, 0, 160, 188, 11, 181, 0, 57, 42, 180, 0, 13, 184, 0, 61, 177] := by decide +kernel
theorem dX9_init_127 : DR cX9_init 127 (.putfield 54) 3 := dk_181 (bA_sl (a := 64) (j := 63) bkX9_init_1 rfl) (bA_sl (a := 128) (j := 0) bkX9_init_2 rfl) (bA_sl (a := 128) (j := 1) bkX9_init_2 rfl) (by decide) rfl
theorem dX9_init_130 : DR cX9_init 130 (.aload_n 0) 1 := dk_42 (bA_sl (a := 128) (j := 2) bkX9_init_2 rfl)
theorem dX9_init_131 : DR cX9_init 131 (.sipush 160) 3 := dk_17 (bA_sl (a := 128) (j := 3) bkX9_init_2 rfl) (bA_sl (a := 128) (j := 4) bkX9_init_2 rfl) (bA_sl (a := 128) (j := 5) bkX9_init_2 rfl) (by decide) (by decide)
theorem dX9_init_134 : decode cX9_init 134 = .ok (.newarray .long, 2) := by decide +kernel
theorem dX9_init_136 : DR cX9_init 136 (.putfield 57) 3 := dk_181 (bA_sl (a := 128) (j := 8) bkX9_init_2 rfl) (bA_sl (a := 128) (j := 9) bkX9_init_2 rfl) (bA_sl (a := 128) (j := 10) bkX9_init_2 rfl) (by decide) rfl
theorem dX9_init_139 : DR cX9_init 139 (.aload_n 0) 1 := dk_42 (bA_sl (a := 128) (j := 11) bkX9_init_2 rfl)
theorem dX9_init_140 : DR cX9_init 140 (.getfield 13) 3 := dk_180 (bA_sl (a := 128) (j := 12) bkX9_init_2 rfl) (bA_sl (a := 128) (j := 13) bkX9_init_2 rfl) (bA_sl (a := 128) (j := 14) bkX9_init_2 rfl) (by decide) rfl
theorem dX9_init_143 : DR cX9_init 143 (.invokestatic 61) 3 := dk_184 (bA_sl (a := 128) (j := 15) bkX9_init_2 rfl) (bA_sl (a := 128) (j := 16) bkX9_init_2 rfl) (bA_sl (a := 128) (j := 17) bkX9_init_2 rfl) (by decide) rfl
theorem dX9_init_146 : DR cX9_init 146 (.return_) 1 := dk_177 (bA_sl (a := 128) (j := 18) bkX9_init_2 rfl)
theorem bkX9_lampIn_0 : ((cX9_lampIn.data.toList.drop 0).take 64).map UInt8.toNat = [42, 5, 3, 79, 42, 6, 16, 6, 79, 42, 7, 16, 6, 79, 42, 8, 4, 79, 177] := by decide +kernel
theorem dX9_lampIn_0 : DR cX9_lampIn 0 (.aload_n 0) 1 := dk_42 (bA_sl (a := 0) (j := 0) bkX9_lampIn_0 rfl)
theorem dX9_lampIn_1 : DR cX9_lampIn 1 (.iconst 2) 1 := dk_5 (bA_sl (a := 0) (j := 1) bkX9_lampIn_0 rfl)
theorem dX9_lampIn_2 : DR cX9_lampIn 2 (.iconst 0) 1 := dk_3 (bA_sl (a := 0) (j := 2) bkX9_lampIn_0 rfl)
theorem dX9_lampIn_3 : DR cX9_lampIn 3 (.iastore) 1 := dk_79 (bA_sl (a := 0) (j := 3) bkX9_lampIn_0 rfl)
theorem dX9_lampIn_4 : DR cX9_lampIn 4 (.aload_n 0) 1 := dk_42 (bA_sl (a := 0) (j := 4) bkX9_lampIn_0 rfl)
theorem dX9_lampIn_5 : DR cX9_lampIn 5 (.iconst 3) 1 := dk_6 (bA_sl (a := 0) (j := 5) bkX9_lampIn_0 rfl)
theorem dX9_lampIn_6 : DR cX9_lampIn 6 (.bipush 6) 2 := dk_16 (bA_sl (a := 0) (j := 6) bkX9_lampIn_0 rfl) (bA_sl (a := 0) (j := 7) bkX9_lampIn_0 rfl) (by decide) (by decide)
theorem dX9_lampIn_8 : DR cX9_lampIn 8 (.iastore) 1 := dk_79 (bA_sl (a := 0) (j := 8) bkX9_lampIn_0 rfl)
theorem dX9_lampIn_9 : DR cX9_lampIn 9 (.aload_n 0) 1 := dk_42 (bA_sl (a := 0) (j := 9) bkX9_lampIn_0 rfl)
theorem dX9_lampIn_10 : DR cX9_lampIn 10 (.iconst 4) 1 := dk_7 (bA_sl (a := 0) (j := 10) bkX9_lampIn_0 rfl)
theorem dX9_lampIn_11 : DR cX9_lampIn 11 (.bipush 6) 2 := dk_16 (bA_sl (a := 0) (j := 11) bkX9_lampIn_0 rfl) (bA_sl (a := 0) (j := 12) bkX9_lampIn_0 rfl) (by decide) (by decide)
theorem dX9_lampIn_13 : DR cX9_lampIn 13 (.iastore) 1 := dk_79 (bA_sl (a := 0) (j := 13) bkX9_lampIn_0 rfl)
theorem dX9_lampIn_14 : DR cX9_lampIn 14 (.aload_n 0) 1 := dk_42 (bA_sl (a := 0) (j := 14) bkX9_lampIn_0 rfl)
theorem dX9_lampIn_15 : DR cX9_lampIn 15 (.iconst 5) 1 := dk_8 (bA_sl (a := 0) (j := 15) bkX9_lampIn_0 rfl)
theorem dX9_lampIn_16 : DR cX9_lampIn 16 (.iconst 1) 1 := dk_4 (bA_sl (a := 0) (j := 16) bkX9_lampIn_0 rfl)
theorem dX9_lampIn_17 : DR cX9_lampIn 17 (.iastore) 1 := dk_79 (bA_sl (a := 0) (j := 17) bkX9_lampIn_0 rfl)
theorem dX9_lampIn_18 : DR cX9_lampIn 18 (.return_) 1 := dk_177 (bA_sl (a := 0) (j := 18) bkX9_lampIn_0 rfl)
theorem bkX9_plainIn_0 : ((cX9_plainIn.data.toList.drop 0).take 64).map UInt8.toNat = [3, 60, 27, 16, 96, 162, 0, 13, 42, 27, 3, 79, 132, 1, 1, 167, 255, 243, 42, 184, 0, 65, 42, 16, 6, 16, 60, 79, 3, 60, 27, 16, 6, 162, 0, 16, 42, 16, 10, 27, 96, 4, 79, 132, 1, 1, 167, 255, 240, 177] := by decide +kernel
theorem dX9_plainIn_0 : DR cX9_plainIn 0 (.iconst 0) 1 := dk_3 (bA_sl (a := 0) (j := 0) bkX9_plainIn_0 rfl)
theorem dX9_plainIn_1 : DR cX9_plainIn 1 (.istore_n 1) 1 := dk_60 (bA_sl (a := 0) (j := 1) bkX9_plainIn_0 rfl)
theorem dX9_plainIn_2 : DR cX9_plainIn 2 (.iload_n 1) 1 := dk_27 (bA_sl (a := 0) (j := 2) bkX9_plainIn_0 rfl)
theorem dX9_plainIn_3 : DR cX9_plainIn 3 (.bipush 96) 2 := dk_16 (bA_sl (a := 0) (j := 3) bkX9_plainIn_0 rfl) (bA_sl (a := 0) (j := 4) bkX9_plainIn_0 rfl) (by decide) (by decide)
theorem dX9_plainIn_5 : DR cX9_plainIn 5 (.if_icmp .ge 13) 3 := dk_162 (bA_sl (a := 0) (j := 5) bkX9_plainIn_0 rfl) (bA_sl (a := 0) (j := 6) bkX9_plainIn_0 rfl) (bA_sl (a := 0) (j := 7) bkX9_plainIn_0 rfl) (by decide) (by decide)
theorem dX9_plainIn_8 : DR cX9_plainIn 8 (.aload_n 0) 1 := dk_42 (bA_sl (a := 0) (j := 8) bkX9_plainIn_0 rfl)
theorem dX9_plainIn_9 : DR cX9_plainIn 9 (.iload_n 1) 1 := dk_27 (bA_sl (a := 0) (j := 9) bkX9_plainIn_0 rfl)
theorem dX9_plainIn_10 : DR cX9_plainIn 10 (.iconst 0) 1 := dk_3 (bA_sl (a := 0) (j := 10) bkX9_plainIn_0 rfl)
theorem dX9_plainIn_11 : DR cX9_plainIn 11 (.iastore) 1 := dk_79 (bA_sl (a := 0) (j := 11) bkX9_plainIn_0 rfl)
theorem dX9_plainIn_12 : DR cX9_plainIn 12 (.iinc 1 1) 3 := dk_132 (bA_sl (a := 0) (j := 12) bkX9_plainIn_0 rfl) (bA_sl (a := 0) (j := 13) bkX9_plainIn_0 rfl) (bA_sl (a := 0) (j := 14) bkX9_plainIn_0 rfl) (by decide) (by decide)
theorem dX9_plainIn_15 : DR cX9_plainIn 15 (.goto (-13)) 3 := dk_167 (bA_sl (a := 0) (j := 15) bkX9_plainIn_0 rfl) (bA_sl (a := 0) (j := 16) bkX9_plainIn_0 rfl) (bA_sl (a := 0) (j := 17) bkX9_plainIn_0 rfl) (by decide) (by decide)
theorem dX9_plainIn_18 : DR cX9_plainIn 18 (.aload_n 0) 1 := dk_42 (bA_sl (a := 0) (j := 18) bkX9_plainIn_0 rfl)
theorem dX9_plainIn_19 : DR cX9_plainIn 19 (.invokestatic 65) 3 := dk_184 (bA_sl (a := 0) (j := 19) bkX9_plainIn_0 rfl) (bA_sl (a := 0) (j := 20) bkX9_plainIn_0 rfl) (bA_sl (a := 0) (j := 21) bkX9_plainIn_0 rfl) (by decide) rfl
theorem dX9_plainIn_22 : DR cX9_plainIn 22 (.aload_n 0) 1 := dk_42 (bA_sl (a := 0) (j := 22) bkX9_plainIn_0 rfl)
theorem dX9_plainIn_23 : DR cX9_plainIn 23 (.bipush 6) 2 := dk_16 (bA_sl (a := 0) (j := 23) bkX9_plainIn_0 rfl) (bA_sl (a := 0) (j := 24) bkX9_plainIn_0 rfl) (by decide) (by decide)
theorem dX9_plainIn_25 : DR cX9_plainIn 25 (.bipush 60) 2 := dk_16 (bA_sl (a := 0) (j := 25) bkX9_plainIn_0 rfl) (bA_sl (a := 0) (j := 26) bkX9_plainIn_0 rfl) (by decide) (by decide)
theorem dX9_plainIn_27 : DR cX9_plainIn 27 (.iastore) 1 := dk_79 (bA_sl (a := 0) (j := 27) bkX9_plainIn_0 rfl)
theorem dX9_plainIn_28 : DR cX9_plainIn 28 (.iconst 0) 1 := dk_3 (bA_sl (a := 0) (j := 28) bkX9_plainIn_0 rfl)
theorem dX9_plainIn_29 : DR cX9_plainIn 29 (.istore_n 1) 1 := dk_60 (bA_sl (a := 0) (j := 29) bkX9_plainIn_0 rfl)
theorem dX9_plainIn_30 : DR cX9_plainIn 30 (.iload_n 1) 1 := dk_27 (bA_sl (a := 0) (j := 30) bkX9_plainIn_0 rfl)
theorem dX9_plainIn_31 : DR cX9_plainIn 31 (.bipush 6) 2 := dk_16 (bA_sl (a := 0) (j := 31) bkX9_plainIn_0 rfl) (bA_sl (a := 0) (j := 32) bkX9_plainIn_0 rfl) (by decide) (by decide)
theorem dX9_plainIn_33 : DR cX9_plainIn 33 (.if_icmp .ge 16) 3 := dk_162 (bA_sl (a := 0) (j := 33) bkX9_plainIn_0 rfl) (bA_sl (a := 0) (j := 34) bkX9_plainIn_0 rfl) (bA_sl (a := 0) (j := 35) bkX9_plainIn_0 rfl) (by decide) (by decide)
theorem dX9_plainIn_36 : DR cX9_plainIn 36 (.aload_n 0) 1 := dk_42 (bA_sl (a := 0) (j := 36) bkX9_plainIn_0 rfl)
theorem dX9_plainIn_37 : DR cX9_plainIn 37 (.bipush 10) 2 := dk_16 (bA_sl (a := 0) (j := 37) bkX9_plainIn_0 rfl) (bA_sl (a := 0) (j := 38) bkX9_plainIn_0 rfl) (by decide) (by decide)
theorem dX9_plainIn_39 : DR cX9_plainIn 39 (.iload_n 1) 1 := dk_27 (bA_sl (a := 0) (j := 39) bkX9_plainIn_0 rfl)
theorem dX9_plainIn_40 : DR cX9_plainIn 40 (.iadd) 1 := dk_96 (bA_sl (a := 0) (j := 40) bkX9_plainIn_0 rfl)
theorem dX9_plainIn_41 : DR cX9_plainIn 41 (.iconst 1) 1 := dk_4 (bA_sl (a := 0) (j := 41) bkX9_plainIn_0 rfl)
theorem dX9_plainIn_42 : DR cX9_plainIn 42 (.iastore) 1 := dk_79 (bA_sl (a := 0) (j := 42) bkX9_plainIn_0 rfl)
theorem dX9_plainIn_43 : DR cX9_plainIn 43 (.iinc 1 1) 3 := dk_132 (bA_sl (a := 0) (j := 43) bkX9_plainIn_0 rfl) (bA_sl (a := 0) (j := 44) bkX9_plainIn_0 rfl) (bA_sl (a := 0) (j := 45) bkX9_plainIn_0 rfl) (by decide) (by decide)
theorem dX9_plainIn_46 : DR cX9_plainIn 46 (.goto (-16)) 3 := dk_167 (bA_sl (a := 0) (j := 46) bkX9_plainIn_0 rfl) (bA_sl (a := 0) (j := 47) bkX9_plainIn_0 rfl) (bA_sl (a := 0) (j := 48) bkX9_plainIn_0 rfl) (by decide) (by decide)
theorem dX9_plainIn_49 : DR cX9_plainIn 49 (.return_) 1 := dk_177 (bA_sl (a := 0) (j := 49) bkX9_plainIn_0 rfl)
theorem bkX9_feed_0 : ((cX9_feed.data.toList.drop 0).take 64).map UInt8.toNat = [42, 3, 181, 0, 1, 42, 180, 0, 68, 16, 20, 96, 17, 3, 132, 164, 0, 6, 16, 251, 172, 3, 54, 6, 21, 6, 16, 20, 162, 0, 93, 21, 6, 7, 162, 0, 7, 27, 167, 0, 39, 21, 6, 16, 8, 162, 0, 7, 28, 167, 0, 28, 21, 6, 16, 12, 162, 0, 7, 29, 167, 0, 17, 21] := by decide +kernel
theorem dX9_feed_0 : DR cX9_feed 0 (.aload_n 0) 1 := dk_42 (bA_sl (a := 0) (j := 0) bkX9_feed_0 rfl)
theorem dX9_feed_1 : DR cX9_feed 1 (.iconst 0) 1 := dk_3 (bA_sl (a := 0) (j := 1) bkX9_feed_0 rfl)
theorem dX9_feed_2 : DR cX9_feed 2 (.putfield 1) 3 := dk_181 (bA_sl (a := 0) (j := 2) bkX9_feed_0 rfl) (bA_sl (a := 0) (j := 3) bkX9_feed_0 rfl) (bA_sl (a := 0) (j := 4) bkX9_feed_0 rfl) (by decide) rfl
theorem dX9_feed_5 : DR cX9_feed 5 (.aload_n 0) 1 := dk_42 (bA_sl (a := 0) (j := 5) bkX9_feed_0 rfl)
theorem dX9_feed_6 : DR cX9_feed 6 (.getfield 68) 3 := dk_180 (bA_sl (a := 0) (j := 6) bkX9_feed_0 rfl) (bA_sl (a := 0) (j := 7) bkX9_feed_0 rfl) (bA_sl (a := 0) (j := 8) bkX9_feed_0 rfl) (by decide) rfl
theorem dX9_feed_9 : DR cX9_feed 9 (.bipush 20) 2 := dk_16 (bA_sl (a := 0) (j := 9) bkX9_feed_0 rfl) (bA_sl (a := 0) (j := 10) bkX9_feed_0 rfl) (by decide) (by decide)
theorem dX9_feed_11 : DR cX9_feed 11 (.iadd) 1 := dk_96 (bA_sl (a := 0) (j := 11) bkX9_feed_0 rfl)
theorem dX9_feed_12 : DR cX9_feed 12 (.sipush 900) 3 := dk_17 (bA_sl (a := 0) (j := 12) bkX9_feed_0 rfl) (bA_sl (a := 0) (j := 13) bkX9_feed_0 rfl) (bA_sl (a := 0) (j := 14) bkX9_feed_0 rfl) (by decide) (by decide)
theorem dX9_feed_15 : DR cX9_feed 15 (.if_icmp .le 6) 3 := dk_164 (bA_sl (a := 0) (j := 15) bkX9_feed_0 rfl) (bA_sl (a := 0) (j := 16) bkX9_feed_0 rfl) (bA_sl (a := 0) (j := 17) bkX9_feed_0 rfl) (by decide) (by decide)
theorem dX9_feed_18 : DR cX9_feed 18 (.bipush (-5)) 2 := dk_16 (bA_sl (a := 0) (j := 18) bkX9_feed_0 rfl) (bA_sl (a := 0) (j := 19) bkX9_feed_0 rfl) (by decide) (by decide)
theorem dX9_feed_20 : DR cX9_feed 20 (.ireturn) 1 := dk_172 (bA_sl (a := 0) (j := 20) bkX9_feed_0 rfl)
theorem dX9_feed_21 : DR cX9_feed 21 (.iconst 0) 1 := dk_3 (bA_sl (a := 0) (j := 21) bkX9_feed_0 rfl)
theorem dX9_feed_22 : DR cX9_feed 22 (.istore 6) 2 := dk_54 (bA_sl (a := 0) (j := 22) bkX9_feed_0 rfl) (bA_sl (a := 0) (j := 23) bkX9_feed_0 rfl) (by decide)
theorem dX9_feed_24 : DR cX9_feed 24 (.iload 6) 2 := dk_21 (bA_sl (a := 0) (j := 24) bkX9_feed_0 rfl) (bA_sl (a := 0) (j := 25) bkX9_feed_0 rfl) (by decide)
theorem dX9_feed_26 : DR cX9_feed 26 (.bipush 20) 2 := dk_16 (bA_sl (a := 0) (j := 26) bkX9_feed_0 rfl) (bA_sl (a := 0) (j := 27) bkX9_feed_0 rfl) (by decide) (by decide)
theorem dX9_feed_28 : DR cX9_feed 28 (.if_icmp .ge 93) 3 := dk_162 (bA_sl (a := 0) (j := 28) bkX9_feed_0 rfl) (bA_sl (a := 0) (j := 29) bkX9_feed_0 rfl) (bA_sl (a := 0) (j := 30) bkX9_feed_0 rfl) (by decide) (by decide)
theorem dX9_feed_31 : DR cX9_feed 31 (.iload 6) 2 := dk_21 (bA_sl (a := 0) (j := 31) bkX9_feed_0 rfl) (bA_sl (a := 0) (j := 32) bkX9_feed_0 rfl) (by decide)
theorem dX9_feed_33 : DR cX9_feed 33 (.iconst 4) 1 := dk_7 (bA_sl (a := 0) (j := 33) bkX9_feed_0 rfl)
theorem dX9_feed_34 : DR cX9_feed 34 (.if_icmp .ge 7) 3 := dk_162 (bA_sl (a := 0) (j := 34) bkX9_feed_0 rfl) (bA_sl (a := 0) (j := 35) bkX9_feed_0 rfl) (bA_sl (a := 0) (j := 36) bkX9_feed_0 rfl) (by decide) (by decide)
theorem dX9_feed_37 : DR cX9_feed 37 (.iload_n 1) 1 := dk_27 (bA_sl (a := 0) (j := 37) bkX9_feed_0 rfl)
theorem dX9_feed_38 : DR cX9_feed 38 (.goto 39) 3 := dk_167 (bA_sl (a := 0) (j := 38) bkX9_feed_0 rfl) (bA_sl (a := 0) (j := 39) bkX9_feed_0 rfl) (bA_sl (a := 0) (j := 40) bkX9_feed_0 rfl) (by decide) (by decide)
theorem dX9_feed_41 : DR cX9_feed 41 (.iload 6) 2 := dk_21 (bA_sl (a := 0) (j := 41) bkX9_feed_0 rfl) (bA_sl (a := 0) (j := 42) bkX9_feed_0 rfl) (by decide)
theorem dX9_feed_43 : DR cX9_feed 43 (.bipush 8) 2 := dk_16 (bA_sl (a := 0) (j := 43) bkX9_feed_0 rfl) (bA_sl (a := 0) (j := 44) bkX9_feed_0 rfl) (by decide) (by decide)
theorem dX9_feed_45 : DR cX9_feed 45 (.if_icmp .ge 7) 3 := dk_162 (bA_sl (a := 0) (j := 45) bkX9_feed_0 rfl) (bA_sl (a := 0) (j := 46) bkX9_feed_0 rfl) (bA_sl (a := 0) (j := 47) bkX9_feed_0 rfl) (by decide) (by decide)
theorem dX9_feed_48 : DR cX9_feed 48 (.iload_n 2) 1 := dk_28 (bA_sl (a := 0) (j := 48) bkX9_feed_0 rfl)
theorem dX9_feed_49 : DR cX9_feed 49 (.goto 28) 3 := dk_167 (bA_sl (a := 0) (j := 49) bkX9_feed_0 rfl) (bA_sl (a := 0) (j := 50) bkX9_feed_0 rfl) (bA_sl (a := 0) (j := 51) bkX9_feed_0 rfl) (by decide) (by decide)
theorem dX9_feed_52 : DR cX9_feed 52 (.iload 6) 2 := dk_21 (bA_sl (a := 0) (j := 52) bkX9_feed_0 rfl) (bA_sl (a := 0) (j := 53) bkX9_feed_0 rfl) (by decide)
theorem dX9_feed_54 : DR cX9_feed 54 (.bipush 12) 2 := dk_16 (bA_sl (a := 0) (j := 54) bkX9_feed_0 rfl) (bA_sl (a := 0) (j := 55) bkX9_feed_0 rfl) (by decide) (by decide)
theorem dX9_feed_56 : DR cX9_feed 56 (.if_icmp .ge 7) 3 := dk_162 (bA_sl (a := 0) (j := 56) bkX9_feed_0 rfl) (bA_sl (a := 0) (j := 57) bkX9_feed_0 rfl) (bA_sl (a := 0) (j := 58) bkX9_feed_0 rfl) (by decide) (by decide)
theorem dX9_feed_59 : DR cX9_feed 59 (.iload_n 3) 1 := dk_29 (bA_sl (a := 0) (j := 59) bkX9_feed_0 rfl)
theorem dX9_feed_60 : DR cX9_feed 60 (.goto 17) 3 := dk_167 (bA_sl (a := 0) (j := 60) bkX9_feed_0 rfl) (bA_sl (a := 0) (j := 61) bkX9_feed_0 rfl) (bA_sl (a := 0) (j := 62) bkX9_feed_0 rfl) (by decide) (by decide)
theorem bkX9_feed_1 : ((cX9_feed.data.toList.drop 64).take 64).map UInt8.toNat = [6, 16, 16, 162, 0, 8, 21, 4, 167, 0, 5, 21, 5, 54, 7, 42, 180, 0, 21, 42, 180, 0, 68, 21, 7, 16, 24, 16, 8, 21, 6, 7, 112, 104, 100, 122, 17, 0, 255, 126, 79, 42, 89, 180, 0, 68, 4, 96, 181, 0, 68, 132, 6, 1, 167, 255, 162, 42, 180, 0, 68, 172] := by decide +kernel
theorem dX9_feed_63 : DR cX9_feed 63 (.iload 6) 2 := dk_21 (bA_sl (a := 0) (j := 63) bkX9_feed_0 rfl) (bA_sl (a := 64) (j := 0) bkX9_feed_1 rfl) (by decide)
theorem dX9_feed_65 : DR cX9_feed 65 (.bipush 16) 2 := dk_16 (bA_sl (a := 64) (j := 1) bkX9_feed_1 rfl) (bA_sl (a := 64) (j := 2) bkX9_feed_1 rfl) (by decide) (by decide)
theorem dX9_feed_67 : DR cX9_feed 67 (.if_icmp .ge 8) 3 := dk_162 (bA_sl (a := 64) (j := 3) bkX9_feed_1 rfl) (bA_sl (a := 64) (j := 4) bkX9_feed_1 rfl) (bA_sl (a := 64) (j := 5) bkX9_feed_1 rfl) (by decide) (by decide)
theorem dX9_feed_70 : DR cX9_feed 70 (.iload 4) 2 := dk_21 (bA_sl (a := 64) (j := 6) bkX9_feed_1 rfl) (bA_sl (a := 64) (j := 7) bkX9_feed_1 rfl) (by decide)
theorem dX9_feed_72 : DR cX9_feed 72 (.goto 5) 3 := dk_167 (bA_sl (a := 64) (j := 8) bkX9_feed_1 rfl) (bA_sl (a := 64) (j := 9) bkX9_feed_1 rfl) (bA_sl (a := 64) (j := 10) bkX9_feed_1 rfl) (by decide) (by decide)
theorem dX9_feed_75 : DR cX9_feed 75 (.iload 5) 2 := dk_21 (bA_sl (a := 64) (j := 11) bkX9_feed_1 rfl) (bA_sl (a := 64) (j := 12) bkX9_feed_1 rfl) (by decide)
theorem dX9_feed_77 : DR cX9_feed 77 (.istore 7) 2 := dk_54 (bA_sl (a := 64) (j := 13) bkX9_feed_1 rfl) (bA_sl (a := 64) (j := 14) bkX9_feed_1 rfl) (by decide)
theorem dX9_feed_79 : DR cX9_feed 79 (.aload_n 0) 1 := dk_42 (bA_sl (a := 64) (j := 15) bkX9_feed_1 rfl)
theorem dX9_feed_80 : DR cX9_feed 80 (.getfield 21) 3 := dk_180 (bA_sl (a := 64) (j := 16) bkX9_feed_1 rfl) (bA_sl (a := 64) (j := 17) bkX9_feed_1 rfl) (bA_sl (a := 64) (j := 18) bkX9_feed_1 rfl) (by decide) rfl
theorem dX9_feed_83 : DR cX9_feed 83 (.aload_n 0) 1 := dk_42 (bA_sl (a := 64) (j := 19) bkX9_feed_1 rfl)
theorem dX9_feed_84 : DR cX9_feed 84 (.getfield 68) 3 := dk_180 (bA_sl (a := 64) (j := 20) bkX9_feed_1 rfl) (bA_sl (a := 64) (j := 21) bkX9_feed_1 rfl) (bA_sl (a := 64) (j := 22) bkX9_feed_1 rfl) (by decide) rfl
theorem dX9_feed_87 : DR cX9_feed 87 (.iload 7) 2 := dk_21 (bA_sl (a := 64) (j := 23) bkX9_feed_1 rfl) (bA_sl (a := 64) (j := 24) bkX9_feed_1 rfl) (by decide)
theorem dX9_feed_89 : DR cX9_feed 89 (.bipush 24) 2 := dk_16 (bA_sl (a := 64) (j := 25) bkX9_feed_1 rfl) (bA_sl (a := 64) (j := 26) bkX9_feed_1 rfl) (by decide) (by decide)
theorem dX9_feed_91 : DR cX9_feed 91 (.bipush 8) 2 := dk_16 (bA_sl (a := 64) (j := 27) bkX9_feed_1 rfl) (bA_sl (a := 64) (j := 28) bkX9_feed_1 rfl) (by decide) (by decide)
theorem dX9_feed_93 : DR cX9_feed 93 (.iload 6) 2 := dk_21 (bA_sl (a := 64) (j := 29) bkX9_feed_1 rfl) (bA_sl (a := 64) (j := 30) bkX9_feed_1 rfl) (by decide)
theorem dX9_feed_95 : DR cX9_feed 95 (.iconst 4) 1 := dk_7 (bA_sl (a := 64) (j := 31) bkX9_feed_1 rfl)
theorem dX9_feed_96 : DR cX9_feed 96 (.irem) 1 := dk_112 (bA_sl (a := 64) (j := 32) bkX9_feed_1 rfl)
theorem dX9_feed_97 : DR cX9_feed 97 (.imul) 1 := dk_104 (bA_sl (a := 64) (j := 33) bkX9_feed_1 rfl)
theorem dX9_feed_98 : DR cX9_feed 98 (.isub) 1 := dk_100 (bA_sl (a := 64) (j := 34) bkX9_feed_1 rfl)
theorem dX9_feed_99 : DR cX9_feed 99 (.ishr) 1 := dk_122 (bA_sl (a := 64) (j := 35) bkX9_feed_1 rfl)
theorem dX9_feed_100 : DR cX9_feed 100 (.sipush 255) 3 := dk_17 (bA_sl (a := 64) (j := 36) bkX9_feed_1 rfl) (bA_sl (a := 64) (j := 37) bkX9_feed_1 rfl) (bA_sl (a := 64) (j := 38) bkX9_feed_1 rfl) (by decide) (by decide)
theorem dX9_feed_103 : DR cX9_feed 103 (.iand) 1 := dk_126 (bA_sl (a := 64) (j := 39) bkX9_feed_1 rfl)
theorem dX9_feed_104 : DR cX9_feed 104 (.iastore) 1 := dk_79 (bA_sl (a := 64) (j := 40) bkX9_feed_1 rfl)
theorem dX9_feed_105 : DR cX9_feed 105 (.aload_n 0) 1 := dk_42 (bA_sl (a := 64) (j := 41) bkX9_feed_1 rfl)
theorem dX9_feed_106 : DR cX9_feed 106 (.dup) 1 := dk_89 (bA_sl (a := 64) (j := 42) bkX9_feed_1 rfl)
theorem dX9_feed_107 : DR cX9_feed 107 (.getfield 68) 3 := dk_180 (bA_sl (a := 64) (j := 43) bkX9_feed_1 rfl) (bA_sl (a := 64) (j := 44) bkX9_feed_1 rfl) (bA_sl (a := 64) (j := 45) bkX9_feed_1 rfl) (by decide) rfl
theorem dX9_feed_110 : DR cX9_feed 110 (.iconst 1) 1 := dk_4 (bA_sl (a := 64) (j := 46) bkX9_feed_1 rfl)
theorem dX9_feed_111 : DR cX9_feed 111 (.iadd) 1 := dk_96 (bA_sl (a := 64) (j := 47) bkX9_feed_1 rfl)
theorem dX9_feed_112 : DR cX9_feed 112 (.putfield 68) 3 := dk_181 (bA_sl (a := 64) (j := 48) bkX9_feed_1 rfl) (bA_sl (a := 64) (j := 49) bkX9_feed_1 rfl) (bA_sl (a := 64) (j := 50) bkX9_feed_1 rfl) (by decide) rfl
theorem dX9_feed_115 : DR cX9_feed 115 (.iinc 6 1) 3 := dk_132 (bA_sl (a := 64) (j := 51) bkX9_feed_1 rfl) (bA_sl (a := 64) (j := 52) bkX9_feed_1 rfl) (bA_sl (a := 64) (j := 53) bkX9_feed_1 rfl) (by decide) (by decide)
theorem dX9_feed_118 : DR cX9_feed 118 (.goto (-94)) 3 := dk_167 (bA_sl (a := 64) (j := 54) bkX9_feed_1 rfl) (bA_sl (a := 64) (j := 55) bkX9_feed_1 rfl) (bA_sl (a := 64) (j := 56) bkX9_feed_1 rfl) (by decide) (by decide)
theorem dX9_feed_121 : DR cX9_feed 121 (.aload_n 0) 1 := dk_42 (bA_sl (a := 64) (j := 57) bkX9_feed_1 rfl)
theorem dX9_feed_122 : DR cX9_feed 122 (.getfield 68) 3 := dk_180 (bA_sl (a := 64) (j := 58) bkX9_feed_1 rfl) (bA_sl (a := 64) (j := 59) bkX9_feed_1 rfl) (bA_sl (a := 64) (j := 60) bkX9_feed_1 rfl) (by decide) rfl
theorem dX9_feed_125 : DR cX9_feed 125 (.ireturn) 1 := dk_172 (bA_sl (a := 64) (j := 61) bkX9_feed_1 rfl)
theorem bkX9_see_0 : ((cX9_see.data.toList.drop 0).take 64).map UInt8.toNat = [27, 42, 180, 0, 71, 162, 0, 12, 42, 180, 0, 21, 27, 46, 167, 0, 4, 2, 172] := by decide +kernel
theorem dX9_see_0 : DR cX9_see 0 (.iload_n 1) 1 := dk_27 (bA_sl (a := 0) (j := 0) bkX9_see_0 rfl)
theorem dX9_see_1 : DR cX9_see 1 (.aload_n 0) 1 := dk_42 (bA_sl (a := 0) (j := 1) bkX9_see_0 rfl)
theorem dX9_see_2 : DR cX9_see 2 (.getfield 71) 3 := dk_180 (bA_sl (a := 0) (j := 2) bkX9_see_0 rfl) (bA_sl (a := 0) (j := 3) bkX9_see_0 rfl) (bA_sl (a := 0) (j := 4) bkX9_see_0 rfl) (by decide) rfl
theorem dX9_see_5 : DR cX9_see 5 (.if_icmp .ge 12) 3 := dk_162 (bA_sl (a := 0) (j := 5) bkX9_see_0 rfl) (bA_sl (a := 0) (j := 6) bkX9_see_0 rfl) (bA_sl (a := 0) (j := 7) bkX9_see_0 rfl) (by decide) (by decide)
theorem dX9_see_8 : DR cX9_see 8 (.aload_n 0) 1 := dk_42 (bA_sl (a := 0) (j := 8) bkX9_see_0 rfl)
theorem dX9_see_9 : DR cX9_see 9 (.getfield 21) 3 := dk_180 (bA_sl (a := 0) (j := 9) bkX9_see_0 rfl) (bA_sl (a := 0) (j := 10) bkX9_see_0 rfl) (bA_sl (a := 0) (j := 11) bkX9_see_0 rfl) (by decide) rfl
theorem dX9_see_12 : DR cX9_see 12 (.iload_n 1) 1 := dk_27 (bA_sl (a := 0) (j := 12) bkX9_see_0 rfl)
theorem dX9_see_13 : DR cX9_see 13 (.iaload) 1 := dk_46 (bA_sl (a := 0) (j := 13) bkX9_see_0 rfl)
theorem dX9_see_14 : DR cX9_see 14 (.goto 4) 3 := dk_167 (bA_sl (a := 0) (j := 14) bkX9_see_0 rfl) (bA_sl (a := 0) (j := 15) bkX9_see_0 rfl) (bA_sl (a := 0) (j := 16) bkX9_see_0 rfl) (by decide) (by decide)
theorem dX9_see_17 : DR cX9_see 17 (.iconst (-1)) 1 := dk_2 (bA_sl (a := 0) (j := 17) bkX9_see_0 rfl)
theorem dX9_see_18 : DR cX9_see 18 (.ireturn) 1 := dk_172 (bA_sl (a := 0) (j := 18) bkX9_see_0 rfl)
theorem bkX9_isSmall_0 : ((cX9_isSmall.data.toList.drop 0).take 64).map UInt8.toNat = [26, 16, 97, 161, 0, 13, 26, 16, 122, 163, 0, 7, 4, 167, 0, 4, 3, 172] := by decide +kernel
theorem dX9_isSmall_0 : DR cX9_isSmall 0 (.iload_n 0) 1 := dk_26 (bA_sl (a := 0) (j := 0) bkX9_isSmall_0 rfl)
theorem dX9_isSmall_1 : DR cX9_isSmall 1 (.bipush 97) 2 := dk_16 (bA_sl (a := 0) (j := 1) bkX9_isSmall_0 rfl) (bA_sl (a := 0) (j := 2) bkX9_isSmall_0 rfl) (by decide) (by decide)
theorem dX9_isSmall_3 : DR cX9_isSmall 3 (.if_icmp .lt 13) 3 := dk_161 (bA_sl (a := 0) (j := 3) bkX9_isSmall_0 rfl) (bA_sl (a := 0) (j := 4) bkX9_isSmall_0 rfl) (bA_sl (a := 0) (j := 5) bkX9_isSmall_0 rfl) (by decide) (by decide)
theorem dX9_isSmall_6 : DR cX9_isSmall 6 (.iload_n 0) 1 := dk_26 (bA_sl (a := 0) (j := 6) bkX9_isSmall_0 rfl)
theorem dX9_isSmall_7 : DR cX9_isSmall 7 (.bipush 122) 2 := dk_16 (bA_sl (a := 0) (j := 7) bkX9_isSmall_0 rfl) (bA_sl (a := 0) (j := 8) bkX9_isSmall_0 rfl) (by decide) (by decide)
theorem dX9_isSmall_9 : DR cX9_isSmall 9 (.if_icmp .gt 7) 3 := dk_163 (bA_sl (a := 0) (j := 9) bkX9_isSmall_0 rfl) (bA_sl (a := 0) (j := 10) bkX9_isSmall_0 rfl) (bA_sl (a := 0) (j := 11) bkX9_isSmall_0 rfl) (by decide) (by decide)
theorem dX9_isSmall_12 : DR cX9_isSmall 12 (.iconst 1) 1 := dk_4 (bA_sl (a := 0) (j := 12) bkX9_isSmall_0 rfl)
theorem dX9_isSmall_13 : DR cX9_isSmall 13 (.goto 4) 3 := dk_167 (bA_sl (a := 0) (j := 13) bkX9_isSmall_0 rfl) (bA_sl (a := 0) (j := 14) bkX9_isSmall_0 rfl) (bA_sl (a := 0) (j := 15) bkX9_isSmall_0 rfl) (by decide) (by decide)
theorem dX9_isSmall_16 : DR cX9_isSmall 16 (.iconst 0) 1 := dk_3 (bA_sl (a := 0) (j := 16) bkX9_isSmall_0 rfl)
theorem dX9_isSmall_17 : DR cX9_isSmall 17 (.ireturn) 1 := dk_172 (bA_sl (a := 0) (j := 17) bkX9_isSmall_0 rfl)
theorem bkX9_isDigit_0 : ((cX9_isDigit.data.toList.drop 0).take 64).map UInt8.toNat = [26, 16, 48, 161, 0, 13, 26, 16, 57, 163, 0, 7, 4, 167, 0, 4, 3, 172] := by decide +kernel
theorem dX9_isDigit_0 : DR cX9_isDigit 0 (.iload_n 0) 1 := dk_26 (bA_sl (a := 0) (j := 0) bkX9_isDigit_0 rfl)
theorem dX9_isDigit_1 : DR cX9_isDigit 1 (.bipush 48) 2 := dk_16 (bA_sl (a := 0) (j := 1) bkX9_isDigit_0 rfl) (bA_sl (a := 0) (j := 2) bkX9_isDigit_0 rfl) (by decide) (by decide)
theorem dX9_isDigit_3 : DR cX9_isDigit 3 (.if_icmp .lt 13) 3 := dk_161 (bA_sl (a := 0) (j := 3) bkX9_isDigit_0 rfl) (bA_sl (a := 0) (j := 4) bkX9_isDigit_0 rfl) (bA_sl (a := 0) (j := 5) bkX9_isDigit_0 rfl) (by decide) (by decide)
theorem dX9_isDigit_6 : DR cX9_isDigit 6 (.iload_n 0) 1 := dk_26 (bA_sl (a := 0) (j := 6) bkX9_isDigit_0 rfl)
theorem dX9_isDigit_7 : DR cX9_isDigit 7 (.bipush 57) 2 := dk_16 (bA_sl (a := 0) (j := 7) bkX9_isDigit_0 rfl) (bA_sl (a := 0) (j := 8) bkX9_isDigit_0 rfl) (by decide) (by decide)
theorem dX9_isDigit_9 : DR cX9_isDigit 9 (.if_icmp .gt 7) 3 := dk_163 (bA_sl (a := 0) (j := 9) bkX9_isDigit_0 rfl) (bA_sl (a := 0) (j := 10) bkX9_isDigit_0 rfl) (bA_sl (a := 0) (j := 11) bkX9_isDigit_0 rfl) (by decide) (by decide)
theorem dX9_isDigit_12 : DR cX9_isDigit 12 (.iconst 1) 1 := dk_4 (bA_sl (a := 0) (j := 12) bkX9_isDigit_0 rfl)
theorem dX9_isDigit_13 : DR cX9_isDigit 13 (.goto 4) 3 := dk_167 (bA_sl (a := 0) (j := 13) bkX9_isDigit_0 rfl) (bA_sl (a := 0) (j := 14) bkX9_isDigit_0 rfl) (bA_sl (a := 0) (j := 15) bkX9_isDigit_0 rfl) (by decide) (by decide)
theorem dX9_isDigit_16 : DR cX9_isDigit 16 (.iconst 0) 1 := dk_3 (bA_sl (a := 0) (j := 16) bkX9_isDigit_0 rfl)
theorem dX9_isDigit_17 : DR cX9_isDigit 17 (.ireturn) 1 := dk_172 (bA_sl (a := 0) (j := 17) bkX9_isDigit_0 rfl)
theorem bkX9_keyAt_0 : ((cX9_keyAt.data.toList.drop 0).take 64).map UInt8.toNat = [3, 60, 4, 61, 28, 18, 74, 182, 0, 76, 162, 0, 113, 3, 62, 18, 74, 28, 29, 96, 182, 0, 82, 16, 32, 159, 0, 44, 42, 180, 0, 86, 29, 96, 42, 180, 0, 89, 162, 0, 31, 42, 180, 0, 21, 42, 180, 0, 86, 29, 96, 46, 18, 74, 28, 29, 96, 182, 0, 82, 160, 0, 9, 132] := by decide +kernel
theorem dX9_keyAt_0 : DR cX9_keyAt 0 (.iconst 0) 1 := dk_3 (bA_sl (a := 0) (j := 0) bkX9_keyAt_0 rfl)
theorem dX9_keyAt_1 : DR cX9_keyAt 1 (.istore_n 1) 1 := dk_60 (bA_sl (a := 0) (j := 1) bkX9_keyAt_0 rfl)
theorem dX9_keyAt_2 : DR cX9_keyAt 2 (.iconst 1) 1 := dk_4 (bA_sl (a := 0) (j := 2) bkX9_keyAt_0 rfl)
theorem dX9_keyAt_3 : DR cX9_keyAt 3 (.istore_n 2) 1 := dk_61 (bA_sl (a := 0) (j := 3) bkX9_keyAt_0 rfl)
theorem dX9_keyAt_4 : DR cX9_keyAt 4 (.iload_n 2) 1 := dk_28 (bA_sl (a := 0) (j := 4) bkX9_keyAt_0 rfl)
theorem dX9_keyAt_5 : DR cX9_keyAt 5 (.ldc 74) 2 := dk_18 (bA_sl (a := 0) (j := 5) bkX9_keyAt_0 rfl) (bA_sl (a := 0) (j := 6) bkX9_keyAt_0 rfl) (by decide)
theorem dX9_keyAt_7 : DR cX9_keyAt 7 (.invokevirtual 76) 3 := dk_182 (bA_sl (a := 0) (j := 7) bkX9_keyAt_0 rfl) (bA_sl (a := 0) (j := 8) bkX9_keyAt_0 rfl) (bA_sl (a := 0) (j := 9) bkX9_keyAt_0 rfl) (by decide) rfl
theorem dX9_keyAt_10 : DR cX9_keyAt 10 (.if_icmp .ge 113) 3 := dk_162 (bA_sl (a := 0) (j := 10) bkX9_keyAt_0 rfl) (bA_sl (a := 0) (j := 11) bkX9_keyAt_0 rfl) (bA_sl (a := 0) (j := 12) bkX9_keyAt_0 rfl) (by decide) (by decide)
theorem dX9_keyAt_13 : DR cX9_keyAt 13 (.iconst 0) 1 := dk_3 (bA_sl (a := 0) (j := 13) bkX9_keyAt_0 rfl)
theorem dX9_keyAt_14 : DR cX9_keyAt 14 (.istore_n 3) 1 := dk_62 (bA_sl (a := 0) (j := 14) bkX9_keyAt_0 rfl)
theorem dX9_keyAt_15 : DR cX9_keyAt 15 (.ldc 74) 2 := dk_18 (bA_sl (a := 0) (j := 15) bkX9_keyAt_0 rfl) (bA_sl (a := 0) (j := 16) bkX9_keyAt_0 rfl) (by decide)
theorem dX9_keyAt_17 : DR cX9_keyAt 17 (.iload_n 2) 1 := dk_28 (bA_sl (a := 0) (j := 17) bkX9_keyAt_0 rfl)
theorem dX9_keyAt_18 : DR cX9_keyAt 18 (.iload_n 3) 1 := dk_29 (bA_sl (a := 0) (j := 18) bkX9_keyAt_0 rfl)
theorem dX9_keyAt_19 : DR cX9_keyAt 19 (.iadd) 1 := dk_96 (bA_sl (a := 0) (j := 19) bkX9_keyAt_0 rfl)
theorem dX9_keyAt_20 : DR cX9_keyAt 20 (.invokevirtual 82) 3 := dk_182 (bA_sl (a := 0) (j := 20) bkX9_keyAt_0 rfl) (bA_sl (a := 0) (j := 21) bkX9_keyAt_0 rfl) (bA_sl (a := 0) (j := 22) bkX9_keyAt_0 rfl) (by decide) rfl
theorem dX9_keyAt_23 : DR cX9_keyAt 23 (.bipush 32) 2 := dk_16 (bA_sl (a := 0) (j := 23) bkX9_keyAt_0 rfl) (bA_sl (a := 0) (j := 24) bkX9_keyAt_0 rfl) (by decide) (by decide)
theorem dX9_keyAt_25 : DR cX9_keyAt 25 (.if_icmp .eq 44) 3 := dk_159 (bA_sl (a := 0) (j := 25) bkX9_keyAt_0 rfl) (bA_sl (a := 0) (j := 26) bkX9_keyAt_0 rfl) (bA_sl (a := 0) (j := 27) bkX9_keyAt_0 rfl) (by decide) (by decide)
theorem dX9_keyAt_28 : DR cX9_keyAt 28 (.aload_n 0) 1 := dk_42 (bA_sl (a := 0) (j := 28) bkX9_keyAt_0 rfl)
theorem dX9_keyAt_29 : DR cX9_keyAt 29 (.getfield 86) 3 := dk_180 (bA_sl (a := 0) (j := 29) bkX9_keyAt_0 rfl) (bA_sl (a := 0) (j := 30) bkX9_keyAt_0 rfl) (bA_sl (a := 0) (j := 31) bkX9_keyAt_0 rfl) (by decide) rfl
theorem dX9_keyAt_32 : DR cX9_keyAt 32 (.iload_n 3) 1 := dk_29 (bA_sl (a := 0) (j := 32) bkX9_keyAt_0 rfl)
theorem dX9_keyAt_33 : DR cX9_keyAt 33 (.iadd) 1 := dk_96 (bA_sl (a := 0) (j := 33) bkX9_keyAt_0 rfl)
theorem dX9_keyAt_34 : DR cX9_keyAt 34 (.aload_n 0) 1 := dk_42 (bA_sl (a := 0) (j := 34) bkX9_keyAt_0 rfl)
theorem dX9_keyAt_35 : DR cX9_keyAt 35 (.getfield 89) 3 := dk_180 (bA_sl (a := 0) (j := 35) bkX9_keyAt_0 rfl) (bA_sl (a := 0) (j := 36) bkX9_keyAt_0 rfl) (bA_sl (a := 0) (j := 37) bkX9_keyAt_0 rfl) (by decide) rfl
theorem dX9_keyAt_38 : DR cX9_keyAt 38 (.if_icmp .ge 31) 3 := dk_162 (bA_sl (a := 0) (j := 38) bkX9_keyAt_0 rfl) (bA_sl (a := 0) (j := 39) bkX9_keyAt_0 rfl) (bA_sl (a := 0) (j := 40) bkX9_keyAt_0 rfl) (by decide) (by decide)
theorem dX9_keyAt_41 : DR cX9_keyAt 41 (.aload_n 0) 1 := dk_42 (bA_sl (a := 0) (j := 41) bkX9_keyAt_0 rfl)
theorem dX9_keyAt_42 : DR cX9_keyAt 42 (.getfield 21) 3 := dk_180 (bA_sl (a := 0) (j := 42) bkX9_keyAt_0 rfl) (bA_sl (a := 0) (j := 43) bkX9_keyAt_0 rfl) (bA_sl (a := 0) (j := 44) bkX9_keyAt_0 rfl) (by decide) rfl
theorem dX9_keyAt_45 : DR cX9_keyAt 45 (.aload_n 0) 1 := dk_42 (bA_sl (a := 0) (j := 45) bkX9_keyAt_0 rfl)
theorem dX9_keyAt_46 : DR cX9_keyAt 46 (.getfield 86) 3 := dk_180 (bA_sl (a := 0) (j := 46) bkX9_keyAt_0 rfl) (bA_sl (a := 0) (j := 47) bkX9_keyAt_0 rfl) (bA_sl (a := 0) (j := 48) bkX9_keyAt_0 rfl) (by decide) rfl
theorem dX9_keyAt_49 : DR cX9_keyAt 49 (.iload_n 3) 1 := dk_29 (bA_sl (a := 0) (j := 49) bkX9_keyAt_0 rfl)
theorem dX9_keyAt_50 : DR cX9_keyAt 50 (.iadd) 1 := dk_96 (bA_sl (a := 0) (j := 50) bkX9_keyAt_0 rfl)
theorem dX9_keyAt_51 : DR cX9_keyAt 51 (.iaload) 1 := dk_46 (bA_sl (a := 0) (j := 51) bkX9_keyAt_0 rfl)
theorem dX9_keyAt_52 : DR cX9_keyAt 52 (.ldc 74) 2 := dk_18 (bA_sl (a := 0) (j := 52) bkX9_keyAt_0 rfl) (bA_sl (a := 0) (j := 53) bkX9_keyAt_0 rfl) (by decide)
theorem dX9_keyAt_54 : DR cX9_keyAt 54 (.iload_n 2) 1 := dk_28 (bA_sl (a := 0) (j := 54) bkX9_keyAt_0 rfl)
theorem dX9_keyAt_55 : DR cX9_keyAt 55 (.iload_n 3) 1 := dk_29 (bA_sl (a := 0) (j := 55) bkX9_keyAt_0 rfl)
theorem dX9_keyAt_56 : DR cX9_keyAt 56 (.iadd) 1 := dk_96 (bA_sl (a := 0) (j := 56) bkX9_keyAt_0 rfl)
theorem dX9_keyAt_57 : DR cX9_keyAt 57 (.invokevirtual 82) 3 := dk_182 (bA_sl (a := 0) (j := 57) bkX9_keyAt_0 rfl) (bA_sl (a := 0) (j := 58) bkX9_keyAt_0 rfl) (bA_sl (a := 0) (j := 59) bkX9_keyAt_0 rfl) (by decide) rfl
theorem dX9_keyAt_60 : DR cX9_keyAt 60 (.if_icmp .ne 9) 3 := dk_160 (bA_sl (a := 0) (j := 60) bkX9_keyAt_0 rfl) (bA_sl (a := 0) (j := 61) bkX9_keyAt_0 rfl) (bA_sl (a := 0) (j := 62) bkX9_keyAt_0 rfl) (by decide) (by decide)
theorem bkX9_keyAt_1 : ((cX9_keyAt.data.toList.drop 64).take 64).map UInt8.toNat = [3, 1, 167, 255, 205, 18, 74, 28, 29, 96, 182, 0, 82, 16, 32, 160, 0, 18, 42, 180, 0, 86, 29, 96, 42, 180, 0, 89, 160, 0, 5, 27, 172, 18, 74, 28, 182, 0, 82, 16, 32, 159, 0, 9, 132, 2, 1, 167, 255, 242, 132, 2, 1, 132, 1, 1, 167, 255, 140, 16, 13, 172] := by decide +kernel
theorem dX9_keyAt_63 : DR cX9_keyAt 63 (.iinc 3 1) 3 := dk_132 (bA_sl (a := 0) (j := 63) bkX9_keyAt_0 rfl) (bA_sl (a := 64) (j := 0) bkX9_keyAt_1 rfl) (bA_sl (a := 64) (j := 1) bkX9_keyAt_1 rfl) (by decide) (by decide)
theorem dX9_keyAt_66 : DR cX9_keyAt 66 (.goto (-51)) 3 := dk_167 (bA_sl (a := 64) (j := 2) bkX9_keyAt_1 rfl) (bA_sl (a := 64) (j := 3) bkX9_keyAt_1 rfl) (bA_sl (a := 64) (j := 4) bkX9_keyAt_1 rfl) (by decide) (by decide)
theorem dX9_keyAt_69 : DR cX9_keyAt 69 (.ldc 74) 2 := dk_18 (bA_sl (a := 64) (j := 5) bkX9_keyAt_1 rfl) (bA_sl (a := 64) (j := 6) bkX9_keyAt_1 rfl) (by decide)
theorem dX9_keyAt_71 : DR cX9_keyAt 71 (.iload_n 2) 1 := dk_28 (bA_sl (a := 64) (j := 7) bkX9_keyAt_1 rfl)
theorem dX9_keyAt_72 : DR cX9_keyAt 72 (.iload_n 3) 1 := dk_29 (bA_sl (a := 64) (j := 8) bkX9_keyAt_1 rfl)
theorem dX9_keyAt_73 : DR cX9_keyAt 73 (.iadd) 1 := dk_96 (bA_sl (a := 64) (j := 9) bkX9_keyAt_1 rfl)
theorem dX9_keyAt_74 : DR cX9_keyAt 74 (.invokevirtual 82) 3 := dk_182 (bA_sl (a := 64) (j := 10) bkX9_keyAt_1 rfl) (bA_sl (a := 64) (j := 11) bkX9_keyAt_1 rfl) (bA_sl (a := 64) (j := 12) bkX9_keyAt_1 rfl) (by decide) rfl
theorem dX9_keyAt_77 : DR cX9_keyAt 77 (.bipush 32) 2 := dk_16 (bA_sl (a := 64) (j := 13) bkX9_keyAt_1 rfl) (bA_sl (a := 64) (j := 14) bkX9_keyAt_1 rfl) (by decide) (by decide)
theorem dX9_keyAt_79 : DR cX9_keyAt 79 (.if_icmp .ne 18) 3 := dk_160 (bA_sl (a := 64) (j := 15) bkX9_keyAt_1 rfl) (bA_sl (a := 64) (j := 16) bkX9_keyAt_1 rfl) (bA_sl (a := 64) (j := 17) bkX9_keyAt_1 rfl) (by decide) (by decide)
theorem dX9_keyAt_82 : DR cX9_keyAt 82 (.aload_n 0) 1 := dk_42 (bA_sl (a := 64) (j := 18) bkX9_keyAt_1 rfl)
theorem dX9_keyAt_83 : DR cX9_keyAt 83 (.getfield 86) 3 := dk_180 (bA_sl (a := 64) (j := 19) bkX9_keyAt_1 rfl) (bA_sl (a := 64) (j := 20) bkX9_keyAt_1 rfl) (bA_sl (a := 64) (j := 21) bkX9_keyAt_1 rfl) (by decide) rfl
theorem dX9_keyAt_86 : DR cX9_keyAt 86 (.iload_n 3) 1 := dk_29 (bA_sl (a := 64) (j := 22) bkX9_keyAt_1 rfl)
theorem dX9_keyAt_87 : DR cX9_keyAt 87 (.iadd) 1 := dk_96 (bA_sl (a := 64) (j := 23) bkX9_keyAt_1 rfl)
theorem dX9_keyAt_88 : DR cX9_keyAt 88 (.aload_n 0) 1 := dk_42 (bA_sl (a := 64) (j := 24) bkX9_keyAt_1 rfl)
theorem dX9_keyAt_89 : DR cX9_keyAt 89 (.getfield 89) 3 := dk_180 (bA_sl (a := 64) (j := 25) bkX9_keyAt_1 rfl) (bA_sl (a := 64) (j := 26) bkX9_keyAt_1 rfl) (bA_sl (a := 64) (j := 27) bkX9_keyAt_1 rfl) (by decide) rfl
theorem dX9_keyAt_92 : DR cX9_keyAt 92 (.if_icmp .ne 5) 3 := dk_160 (bA_sl (a := 64) (j := 28) bkX9_keyAt_1 rfl) (bA_sl (a := 64) (j := 29) bkX9_keyAt_1 rfl) (bA_sl (a := 64) (j := 30) bkX9_keyAt_1 rfl) (by decide) (by decide)
theorem dX9_keyAt_95 : DR cX9_keyAt 95 (.iload_n 1) 1 := dk_27 (bA_sl (a := 64) (j := 31) bkX9_keyAt_1 rfl)
theorem dX9_keyAt_96 : DR cX9_keyAt 96 (.ireturn) 1 := dk_172 (bA_sl (a := 64) (j := 32) bkX9_keyAt_1 rfl)
theorem dX9_keyAt_97 : DR cX9_keyAt 97 (.ldc 74) 2 := dk_18 (bA_sl (a := 64) (j := 33) bkX9_keyAt_1 rfl) (bA_sl (a := 64) (j := 34) bkX9_keyAt_1 rfl) (by decide)
theorem dX9_keyAt_99 : DR cX9_keyAt 99 (.iload_n 2) 1 := dk_28 (bA_sl (a := 64) (j := 35) bkX9_keyAt_1 rfl)
theorem dX9_keyAt_100 : DR cX9_keyAt 100 (.invokevirtual 82) 3 := dk_182 (bA_sl (a := 64) (j := 36) bkX9_keyAt_1 rfl) (bA_sl (a := 64) (j := 37) bkX9_keyAt_1 rfl) (bA_sl (a := 64) (j := 38) bkX9_keyAt_1 rfl) (by decide) rfl
theorem dX9_keyAt_103 : DR cX9_keyAt 103 (.bipush 32) 2 := dk_16 (bA_sl (a := 64) (j := 39) bkX9_keyAt_1 rfl) (bA_sl (a := 64) (j := 40) bkX9_keyAt_1 rfl) (by decide) (by decide)
theorem dX9_keyAt_105 : DR cX9_keyAt 105 (.if_icmp .eq 9) 3 := dk_159 (bA_sl (a := 64) (j := 41) bkX9_keyAt_1 rfl) (bA_sl (a := 64) (j := 42) bkX9_keyAt_1 rfl) (bA_sl (a := 64) (j := 43) bkX9_keyAt_1 rfl) (by decide) (by decide)
theorem dX9_keyAt_108 : DR cX9_keyAt 108 (.iinc 2 1) 3 := dk_132 (bA_sl (a := 64) (j := 44) bkX9_keyAt_1 rfl) (bA_sl (a := 64) (j := 45) bkX9_keyAt_1 rfl) (bA_sl (a := 64) (j := 46) bkX9_keyAt_1 rfl) (by decide) (by decide)
theorem dX9_keyAt_111 : DR cX9_keyAt 111 (.goto (-14)) 3 := dk_167 (bA_sl (a := 64) (j := 47) bkX9_keyAt_1 rfl) (bA_sl (a := 64) (j := 48) bkX9_keyAt_1 rfl) (bA_sl (a := 64) (j := 49) bkX9_keyAt_1 rfl) (by decide) (by decide)
theorem dX9_keyAt_114 : DR cX9_keyAt 114 (.iinc 2 1) 3 := dk_132 (bA_sl (a := 64) (j := 50) bkX9_keyAt_1 rfl) (bA_sl (a := 64) (j := 51) bkX9_keyAt_1 rfl) (bA_sl (a := 64) (j := 52) bkX9_keyAt_1 rfl) (by decide) (by decide)
theorem dX9_keyAt_117 : DR cX9_keyAt 117 (.iinc 1 1) 3 := dk_132 (bA_sl (a := 64) (j := 53) bkX9_keyAt_1 rfl) (bA_sl (a := 64) (j := 54) bkX9_keyAt_1 rfl) (bA_sl (a := 64) (j := 55) bkX9_keyAt_1 rfl) (by decide) (by decide)
theorem dX9_keyAt_120 : DR cX9_keyAt 120 (.goto (-116)) 3 := dk_167 (bA_sl (a := 64) (j := 56) bkX9_keyAt_1 rfl) (bA_sl (a := 64) (j := 57) bkX9_keyAt_1 rfl) (bA_sl (a := 64) (j := 58) bkX9_keyAt_1 rfl) (by decide) (by decide)
theorem dX9_keyAt_123 : DR cX9_keyAt 123 (.bipush 13) 2 := dk_16 (bA_sl (a := 64) (j := 59) bkX9_keyAt_1 rfl) (bA_sl (a := 64) (j := 60) bkX9_keyAt_1 rfl) (by decide) (by decide)
theorem dX9_keyAt_125 : DR cX9_keyAt 125 (.ireturn) 1 := dk_172 (bA_sl (a := 64) (j := 61) bkX9_keyAt_1 rfl)
theorem bkX9_next_0 : ((cX9_next.data.toList.drop 0).take 64).map UInt8.toNat = [42, 42, 180, 0, 89, 181, 0, 86, 42, 42, 180, 0, 86, 182, 0, 92, 16, 10, 159, 0, 16, 42, 42, 180, 0, 86, 182, 0, 92, 16, 32, 160, 0, 16, 42, 89, 180, 0, 86, 4, 96, 181, 0, 86, 167, 255, 220, 42, 42, 180, 0, 86, 181, 0, 89, 42, 180, 0, 86, 42, 180, 0, 71, 161] := by decide +kernel
theorem dX9_next_0 : DR cX9_next 0 (.aload_n 0) 1 := dk_42 (bA_sl (a := 0) (j := 0) bkX9_next_0 rfl)
theorem dX9_next_1 : DR cX9_next 1 (.aload_n 0) 1 := dk_42 (bA_sl (a := 0) (j := 1) bkX9_next_0 rfl)
theorem dX9_next_2 : DR cX9_next 2 (.getfield 89) 3 := dk_180 (bA_sl (a := 0) (j := 2) bkX9_next_0 rfl) (bA_sl (a := 0) (j := 3) bkX9_next_0 rfl) (bA_sl (a := 0) (j := 4) bkX9_next_0 rfl) (by decide) rfl
theorem dX9_next_5 : DR cX9_next 5 (.putfield 86) 3 := dk_181 (bA_sl (a := 0) (j := 5) bkX9_next_0 rfl) (bA_sl (a := 0) (j := 6) bkX9_next_0 rfl) (bA_sl (a := 0) (j := 7) bkX9_next_0 rfl) (by decide) rfl
theorem dX9_next_8 : DR cX9_next 8 (.aload_n 0) 1 := dk_42 (bA_sl (a := 0) (j := 8) bkX9_next_0 rfl)
theorem dX9_next_9 : DR cX9_next 9 (.aload_n 0) 1 := dk_42 (bA_sl (a := 0) (j := 9) bkX9_next_0 rfl)
theorem dX9_next_10 : DR cX9_next 10 (.getfield 86) 3 := dk_180 (bA_sl (a := 0) (j := 10) bkX9_next_0 rfl) (bA_sl (a := 0) (j := 11) bkX9_next_0 rfl) (bA_sl (a := 0) (j := 12) bkX9_next_0 rfl) (by decide) rfl
theorem dX9_next_13 : DR cX9_next 13 (.invokevirtual 92) 3 := dk_182 (bA_sl (a := 0) (j := 13) bkX9_next_0 rfl) (bA_sl (a := 0) (j := 14) bkX9_next_0 rfl) (bA_sl (a := 0) (j := 15) bkX9_next_0 rfl) (by decide) rfl
theorem dX9_next_16 : DR cX9_next 16 (.bipush 10) 2 := dk_16 (bA_sl (a := 0) (j := 16) bkX9_next_0 rfl) (bA_sl (a := 0) (j := 17) bkX9_next_0 rfl) (by decide) (by decide)
theorem dX9_next_18 : DR cX9_next 18 (.if_icmp .eq 16) 3 := dk_159 (bA_sl (a := 0) (j := 18) bkX9_next_0 rfl) (bA_sl (a := 0) (j := 19) bkX9_next_0 rfl) (bA_sl (a := 0) (j := 20) bkX9_next_0 rfl) (by decide) (by decide)
theorem dX9_next_21 : DR cX9_next 21 (.aload_n 0) 1 := dk_42 (bA_sl (a := 0) (j := 21) bkX9_next_0 rfl)
theorem dX9_next_22 : DR cX9_next 22 (.aload_n 0) 1 := dk_42 (bA_sl (a := 0) (j := 22) bkX9_next_0 rfl)
theorem dX9_next_23 : DR cX9_next 23 (.getfield 86) 3 := dk_180 (bA_sl (a := 0) (j := 23) bkX9_next_0 rfl) (bA_sl (a := 0) (j := 24) bkX9_next_0 rfl) (bA_sl (a := 0) (j := 25) bkX9_next_0 rfl) (by decide) rfl
theorem dX9_next_26 : DR cX9_next 26 (.invokevirtual 92) 3 := dk_182 (bA_sl (a := 0) (j := 26) bkX9_next_0 rfl) (bA_sl (a := 0) (j := 27) bkX9_next_0 rfl) (bA_sl (a := 0) (j := 28) bkX9_next_0 rfl) (by decide) rfl
theorem dX9_next_29 : DR cX9_next 29 (.bipush 32) 2 := dk_16 (bA_sl (a := 0) (j := 29) bkX9_next_0 rfl) (bA_sl (a := 0) (j := 30) bkX9_next_0 rfl) (by decide) (by decide)
theorem dX9_next_31 : DR cX9_next 31 (.if_icmp .ne 16) 3 := dk_160 (bA_sl (a := 0) (j := 31) bkX9_next_0 rfl) (bA_sl (a := 0) (j := 32) bkX9_next_0 rfl) (bA_sl (a := 0) (j := 33) bkX9_next_0 rfl) (by decide) (by decide)
theorem dX9_next_34 : DR cX9_next 34 (.aload_n 0) 1 := dk_42 (bA_sl (a := 0) (j := 34) bkX9_next_0 rfl)
theorem dX9_next_35 : DR cX9_next 35 (.dup) 1 := dk_89 (bA_sl (a := 0) (j := 35) bkX9_next_0 rfl)
theorem dX9_next_36 : DR cX9_next 36 (.getfield 86) 3 := dk_180 (bA_sl (a := 0) (j := 36) bkX9_next_0 rfl) (bA_sl (a := 0) (j := 37) bkX9_next_0 rfl) (bA_sl (a := 0) (j := 38) bkX9_next_0 rfl) (by decide) rfl
theorem dX9_next_39 : DR cX9_next 39 (.iconst 1) 1 := dk_4 (bA_sl (a := 0) (j := 39) bkX9_next_0 rfl)
theorem dX9_next_40 : DR cX9_next 40 (.iadd) 1 := dk_96 (bA_sl (a := 0) (j := 40) bkX9_next_0 rfl)
theorem dX9_next_41 : DR cX9_next 41 (.putfield 86) 3 := dk_181 (bA_sl (a := 0) (j := 41) bkX9_next_0 rfl) (bA_sl (a := 0) (j := 42) bkX9_next_0 rfl) (bA_sl (a := 0) (j := 43) bkX9_next_0 rfl) (by decide) rfl
theorem dX9_next_44 : DR cX9_next 44 (.goto (-36)) 3 := dk_167 (bA_sl (a := 0) (j := 44) bkX9_next_0 rfl) (bA_sl (a := 0) (j := 45) bkX9_next_0 rfl) (bA_sl (a := 0) (j := 46) bkX9_next_0 rfl) (by decide) (by decide)
theorem dX9_next_47 : DR cX9_next 47 (.aload_n 0) 1 := dk_42 (bA_sl (a := 0) (j := 47) bkX9_next_0 rfl)
theorem dX9_next_48 : DR cX9_next 48 (.aload_n 0) 1 := dk_42 (bA_sl (a := 0) (j := 48) bkX9_next_0 rfl)
theorem dX9_next_49 : DR cX9_next 49 (.getfield 86) 3 := dk_180 (bA_sl (a := 0) (j := 49) bkX9_next_0 rfl) (bA_sl (a := 0) (j := 50) bkX9_next_0 rfl) (bA_sl (a := 0) (j := 51) bkX9_next_0 rfl) (by decide) rfl
theorem dX9_next_52 : DR cX9_next 52 (.putfield 89) 3 := dk_181 (bA_sl (a := 0) (j := 52) bkX9_next_0 rfl) (bA_sl (a := 0) (j := 53) bkX9_next_0 rfl) (bA_sl (a := 0) (j := 54) bkX9_next_0 rfl) (by decide) rfl
theorem dX9_next_55 : DR cX9_next 55 (.aload_n 0) 1 := dk_42 (bA_sl (a := 0) (j := 55) bkX9_next_0 rfl)
theorem dX9_next_56 : DR cX9_next 56 (.getfield 86) 3 := dk_180 (bA_sl (a := 0) (j := 56) bkX9_next_0 rfl) (bA_sl (a := 0) (j := 57) bkX9_next_0 rfl) (bA_sl (a := 0) (j := 58) bkX9_next_0 rfl) (by decide) rfl
theorem dX9_next_59 : DR cX9_next 59 (.aload_n 0) 1 := dk_42 (bA_sl (a := 0) (j := 59) bkX9_next_0 rfl)
theorem dX9_next_60 : DR cX9_next 60 (.getfield 71) 3 := dk_180 (bA_sl (a := 0) (j := 60) bkX9_next_0 rfl) (bA_sl (a := 0) (j := 61) bkX9_next_0 rfl) (bA_sl (a := 0) (j := 62) bkX9_next_0 rfl) (by decide) rfl
theorem bkX9_next_1 : ((cX9_next.data.toList.drop 64).take 64).map UInt8.toNat = [0, 12, 42, 16, 16, 181, 0, 96, 167, 0, 198, 42, 42, 180, 0, 86, 182, 0, 92, 184, 0, 99, 153, 0, 41, 42, 42, 180, 0, 89, 182, 0, 92, 184, 0, 99, 153, 0, 16, 42, 89, 180, 0, 89, 4, 96, 181, 0, 89, 167, 255, 232, 42, 42, 182, 0, 103, 181, 0, 96, 167, 0, 146, 42] := by decide +kernel
theorem dX9_next_63 : DR cX9_next 63 (.if_icmp .lt 12) 3 := dk_161 (bA_sl (a := 0) (j := 63) bkX9_next_0 rfl) (bA_sl (a := 64) (j := 0) bkX9_next_1 rfl) (bA_sl (a := 64) (j := 1) bkX9_next_1 rfl) (by decide) (by decide)
theorem dX9_next_66 : DR cX9_next 66 (.aload_n 0) 1 := dk_42 (bA_sl (a := 64) (j := 2) bkX9_next_1 rfl)
theorem dX9_next_67 : DR cX9_next 67 (.bipush 16) 2 := dk_16 (bA_sl (a := 64) (j := 3) bkX9_next_1 rfl) (bA_sl (a := 64) (j := 4) bkX9_next_1 rfl) (by decide) (by decide)
theorem dX9_next_69 : DR cX9_next 69 (.putfield 96) 3 := dk_181 (bA_sl (a := 64) (j := 5) bkX9_next_1 rfl) (bA_sl (a := 64) (j := 6) bkX9_next_1 rfl) (bA_sl (a := 64) (j := 7) bkX9_next_1 rfl) (by decide) rfl
theorem dX9_next_72 : DR cX9_next 72 (.goto 198) 3 := dk_167 (bA_sl (a := 64) (j := 8) bkX9_next_1 rfl) (bA_sl (a := 64) (j := 9) bkX9_next_1 rfl) (bA_sl (a := 64) (j := 10) bkX9_next_1 rfl) (by decide) (by decide)
theorem dX9_next_75 : DR cX9_next 75 (.aload_n 0) 1 := dk_42 (bA_sl (a := 64) (j := 11) bkX9_next_1 rfl)
theorem dX9_next_76 : DR cX9_next 76 (.aload_n 0) 1 := dk_42 (bA_sl (a := 64) (j := 12) bkX9_next_1 rfl)
theorem dX9_next_77 : DR cX9_next 77 (.getfield 86) 3 := dk_180 (bA_sl (a := 64) (j := 13) bkX9_next_1 rfl) (bA_sl (a := 64) (j := 14) bkX9_next_1 rfl) (bA_sl (a := 64) (j := 15) bkX9_next_1 rfl) (by decide) rfl
theorem dX9_next_80 : DR cX9_next 80 (.invokevirtual 92) 3 := dk_182 (bA_sl (a := 64) (j := 16) bkX9_next_1 rfl) (bA_sl (a := 64) (j := 17) bkX9_next_1 rfl) (bA_sl (a := 64) (j := 18) bkX9_next_1 rfl) (by decide) rfl
theorem dX9_next_83 : DR cX9_next 83 (.invokestatic 99) 3 := dk_184 (bA_sl (a := 64) (j := 19) bkX9_next_1 rfl) (bA_sl (a := 64) (j := 20) bkX9_next_1 rfl) (bA_sl (a := 64) (j := 21) bkX9_next_1 rfl) (by decide) rfl
theorem dX9_next_86 : DR cX9_next 86 (.ifCond .eq 41) 3 := dk_153 (bA_sl (a := 64) (j := 22) bkX9_next_1 rfl) (bA_sl (a := 64) (j := 23) bkX9_next_1 rfl) (bA_sl (a := 64) (j := 24) bkX9_next_1 rfl) (by decide) (by decide)
theorem dX9_next_89 : DR cX9_next 89 (.aload_n 0) 1 := dk_42 (bA_sl (a := 64) (j := 25) bkX9_next_1 rfl)
theorem dX9_next_90 : DR cX9_next 90 (.aload_n 0) 1 := dk_42 (bA_sl (a := 64) (j := 26) bkX9_next_1 rfl)
theorem dX9_next_91 : DR cX9_next 91 (.getfield 89) 3 := dk_180 (bA_sl (a := 64) (j := 27) bkX9_next_1 rfl) (bA_sl (a := 64) (j := 28) bkX9_next_1 rfl) (bA_sl (a := 64) (j := 29) bkX9_next_1 rfl) (by decide) rfl
theorem dX9_next_94 : DR cX9_next 94 (.invokevirtual 92) 3 := dk_182 (bA_sl (a := 64) (j := 30) bkX9_next_1 rfl) (bA_sl (a := 64) (j := 31) bkX9_next_1 rfl) (bA_sl (a := 64) (j := 32) bkX9_next_1 rfl) (by decide) rfl
theorem dX9_next_97 : DR cX9_next 97 (.invokestatic 99) 3 := dk_184 (bA_sl (a := 64) (j := 33) bkX9_next_1 rfl) (bA_sl (a := 64) (j := 34) bkX9_next_1 rfl) (bA_sl (a := 64) (j := 35) bkX9_next_1 rfl) (by decide) rfl
theorem dX9_next_100 : DR cX9_next 100 (.ifCond .eq 16) 3 := dk_153 (bA_sl (a := 64) (j := 36) bkX9_next_1 rfl) (bA_sl (a := 64) (j := 37) bkX9_next_1 rfl) (bA_sl (a := 64) (j := 38) bkX9_next_1 rfl) (by decide) (by decide)
theorem dX9_next_103 : DR cX9_next 103 (.aload_n 0) 1 := dk_42 (bA_sl (a := 64) (j := 39) bkX9_next_1 rfl)
theorem dX9_next_104 : DR cX9_next 104 (.dup) 1 := dk_89 (bA_sl (a := 64) (j := 40) bkX9_next_1 rfl)
theorem dX9_next_105 : DR cX9_next 105 (.getfield 89) 3 := dk_180 (bA_sl (a := 64) (j := 41) bkX9_next_1 rfl) (bA_sl (a := 64) (j := 42) bkX9_next_1 rfl) (bA_sl (a := 64) (j := 43) bkX9_next_1 rfl) (by decide) rfl
theorem dX9_next_108 : DR cX9_next 108 (.iconst 1) 1 := dk_4 (bA_sl (a := 64) (j := 44) bkX9_next_1 rfl)
theorem dX9_next_109 : DR cX9_next 109 (.iadd) 1 := dk_96 (bA_sl (a := 64) (j := 45) bkX9_next_1 rfl)
theorem dX9_next_110 : DR cX9_next 110 (.putfield 89) 3 := dk_181 (bA_sl (a := 64) (j := 46) bkX9_next_1 rfl) (bA_sl (a := 64) (j := 47) bkX9_next_1 rfl) (bA_sl (a := 64) (j := 48) bkX9_next_1 rfl) (by decide) rfl
theorem dX9_next_113 : DR cX9_next 113 (.goto (-24)) 3 := dk_167 (bA_sl (a := 64) (j := 49) bkX9_next_1 rfl) (bA_sl (a := 64) (j := 50) bkX9_next_1 rfl) (bA_sl (a := 64) (j := 51) bkX9_next_1 rfl) (by decide) (by decide)
theorem dX9_next_116 : DR cX9_next 116 (.aload_n 0) 1 := dk_42 (bA_sl (a := 64) (j := 52) bkX9_next_1 rfl)
theorem dX9_next_117 : DR cX9_next 117 (.aload_n 0) 1 := dk_42 (bA_sl (a := 64) (j := 53) bkX9_next_1 rfl)
theorem dX9_next_118 : DR cX9_next 118 (.invokevirtual 103) 3 := dk_182 (bA_sl (a := 64) (j := 54) bkX9_next_1 rfl) (bA_sl (a := 64) (j := 55) bkX9_next_1 rfl) (bA_sl (a := 64) (j := 56) bkX9_next_1 rfl) (by decide) rfl
theorem dX9_next_121 : DR cX9_next 121 (.putfield 96) 3 := dk_181 (bA_sl (a := 64) (j := 57) bkX9_next_1 rfl) (bA_sl (a := 64) (j := 58) bkX9_next_1 rfl) (bA_sl (a := 64) (j := 59) bkX9_next_1 rfl) (by decide) rfl
theorem dX9_next_124 : DR cX9_next 124 (.goto 146) 3 := dk_167 (bA_sl (a := 64) (j := 60) bkX9_next_1 rfl) (bA_sl (a := 64) (j := 61) bkX9_next_1 rfl) (bA_sl (a := 64) (j := 62) bkX9_next_1 rfl) (by decide) (by decide)
theorem dX9_next_127 : DR cX9_next 127 (.aload_n 0) 1 := dk_42 (bA_sl (a := 64) (j := 63) bkX9_next_1 rfl)
theorem bkX9_next_2 : ((cX9_next.data.toList.drop 128).take 64).map UInt8.toNat = [42, 180, 0, 86, 182, 0, 92, 184, 0, 106, 153, 0, 98, 42, 3, 181, 0, 109, 42, 42, 180, 0, 89, 182, 0, 92, 184, 0, 106, 153, 0, 52, 42, 180, 0, 89, 42, 180, 0, 86, 100, 6, 162, 0, 26, 42, 16, 10, 42, 180, 0, 109, 104, 42, 42, 180, 0, 89, 182, 0, 92, 96, 16, 48] := by decide +kernel
theorem dX9_next_128 : DR cX9_next 128 (.aload_n 0) 1 := dk_42 (bA_sl (a := 128) (j := 0) bkX9_next_2 rfl)
theorem dX9_next_129 : DR cX9_next 129 (.getfield 86) 3 := dk_180 (bA_sl (a := 128) (j := 1) bkX9_next_2 rfl) (bA_sl (a := 128) (j := 2) bkX9_next_2 rfl) (bA_sl (a := 128) (j := 3) bkX9_next_2 rfl) (by decide) rfl
theorem dX9_next_132 : DR cX9_next 132 (.invokevirtual 92) 3 := dk_182 (bA_sl (a := 128) (j := 4) bkX9_next_2 rfl) (bA_sl (a := 128) (j := 5) bkX9_next_2 rfl) (bA_sl (a := 128) (j := 6) bkX9_next_2 rfl) (by decide) rfl
theorem dX9_next_135 : DR cX9_next 135 (.invokestatic 106) 3 := dk_184 (bA_sl (a := 128) (j := 7) bkX9_next_2 rfl) (bA_sl (a := 128) (j := 8) bkX9_next_2 rfl) (bA_sl (a := 128) (j := 9) bkX9_next_2 rfl) (by decide) rfl
theorem dX9_next_138 : DR cX9_next 138 (.ifCond .eq 98) 3 := dk_153 (bA_sl (a := 128) (j := 10) bkX9_next_2 rfl) (bA_sl (a := 128) (j := 11) bkX9_next_2 rfl) (bA_sl (a := 128) (j := 12) bkX9_next_2 rfl) (by decide) (by decide)
theorem dX9_next_141 : DR cX9_next 141 (.aload_n 0) 1 := dk_42 (bA_sl (a := 128) (j := 13) bkX9_next_2 rfl)
theorem dX9_next_142 : DR cX9_next 142 (.iconst 0) 1 := dk_3 (bA_sl (a := 128) (j := 14) bkX9_next_2 rfl)
theorem dX9_next_143 : DR cX9_next 143 (.putfield 109) 3 := dk_181 (bA_sl (a := 128) (j := 15) bkX9_next_2 rfl) (bA_sl (a := 128) (j := 16) bkX9_next_2 rfl) (bA_sl (a := 128) (j := 17) bkX9_next_2 rfl) (by decide) rfl
theorem dX9_next_146 : DR cX9_next 146 (.aload_n 0) 1 := dk_42 (bA_sl (a := 128) (j := 18) bkX9_next_2 rfl)
theorem dX9_next_147 : DR cX9_next 147 (.aload_n 0) 1 := dk_42 (bA_sl (a := 128) (j := 19) bkX9_next_2 rfl)
theorem dX9_next_148 : DR cX9_next 148 (.getfield 89) 3 := dk_180 (bA_sl (a := 128) (j := 20) bkX9_next_2 rfl) (bA_sl (a := 128) (j := 21) bkX9_next_2 rfl) (bA_sl (a := 128) (j := 22) bkX9_next_2 rfl) (by decide) rfl
theorem dX9_next_151 : DR cX9_next 151 (.invokevirtual 92) 3 := dk_182 (bA_sl (a := 128) (j := 23) bkX9_next_2 rfl) (bA_sl (a := 128) (j := 24) bkX9_next_2 rfl) (bA_sl (a := 128) (j := 25) bkX9_next_2 rfl) (by decide) rfl
theorem dX9_next_154 : DR cX9_next 154 (.invokestatic 106) 3 := dk_184 (bA_sl (a := 128) (j := 26) bkX9_next_2 rfl) (bA_sl (a := 128) (j := 27) bkX9_next_2 rfl) (bA_sl (a := 128) (j := 28) bkX9_next_2 rfl) (by decide) rfl
theorem dX9_next_157 : DR cX9_next 157 (.ifCond .eq 52) 3 := dk_153 (bA_sl (a := 128) (j := 29) bkX9_next_2 rfl) (bA_sl (a := 128) (j := 30) bkX9_next_2 rfl) (bA_sl (a := 128) (j := 31) bkX9_next_2 rfl) (by decide) (by decide)
theorem dX9_next_160 : DR cX9_next 160 (.aload_n 0) 1 := dk_42 (bA_sl (a := 128) (j := 32) bkX9_next_2 rfl)
theorem dX9_next_161 : DR cX9_next 161 (.getfield 89) 3 := dk_180 (bA_sl (a := 128) (j := 33) bkX9_next_2 rfl) (bA_sl (a := 128) (j := 34) bkX9_next_2 rfl) (bA_sl (a := 128) (j := 35) bkX9_next_2 rfl) (by decide) rfl
theorem dX9_next_164 : DR cX9_next 164 (.aload_n 0) 1 := dk_42 (bA_sl (a := 128) (j := 36) bkX9_next_2 rfl)
theorem dX9_next_165 : DR cX9_next 165 (.getfield 86) 3 := dk_180 (bA_sl (a := 128) (j := 37) bkX9_next_2 rfl) (bA_sl (a := 128) (j := 38) bkX9_next_2 rfl) (bA_sl (a := 128) (j := 39) bkX9_next_2 rfl) (by decide) rfl
theorem dX9_next_168 : DR cX9_next 168 (.isub) 1 := dk_100 (bA_sl (a := 128) (j := 40) bkX9_next_2 rfl)
theorem dX9_next_169 : DR cX9_next 169 (.iconst 3) 1 := dk_6 (bA_sl (a := 128) (j := 41) bkX9_next_2 rfl)
theorem dX9_next_170 : DR cX9_next 170 (.if_icmp .ge 26) 3 := dk_162 (bA_sl (a := 128) (j := 42) bkX9_next_2 rfl) (bA_sl (a := 128) (j := 43) bkX9_next_2 rfl) (bA_sl (a := 128) (j := 44) bkX9_next_2 rfl) (by decide) (by decide)
theorem dX9_next_173 : DR cX9_next 173 (.aload_n 0) 1 := dk_42 (bA_sl (a := 128) (j := 45) bkX9_next_2 rfl)
theorem dX9_next_174 : DR cX9_next 174 (.bipush 10) 2 := dk_16 (bA_sl (a := 128) (j := 46) bkX9_next_2 rfl) (bA_sl (a := 128) (j := 47) bkX9_next_2 rfl) (by decide) (by decide)
theorem dX9_next_176 : DR cX9_next 176 (.aload_n 0) 1 := dk_42 (bA_sl (a := 128) (j := 48) bkX9_next_2 rfl)
theorem dX9_next_177 : DR cX9_next 177 (.getfield 109) 3 := dk_180 (bA_sl (a := 128) (j := 49) bkX9_next_2 rfl) (bA_sl (a := 128) (j := 50) bkX9_next_2 rfl) (bA_sl (a := 128) (j := 51) bkX9_next_2 rfl) (by decide) rfl
theorem dX9_next_180 : DR cX9_next 180 (.imul) 1 := dk_104 (bA_sl (a := 128) (j := 52) bkX9_next_2 rfl)
theorem dX9_next_181 : DR cX9_next 181 (.aload_n 0) 1 := dk_42 (bA_sl (a := 128) (j := 53) bkX9_next_2 rfl)
theorem dX9_next_182 : DR cX9_next 182 (.aload_n 0) 1 := dk_42 (bA_sl (a := 128) (j := 54) bkX9_next_2 rfl)
theorem dX9_next_183 : DR cX9_next 183 (.getfield 89) 3 := dk_180 (bA_sl (a := 128) (j := 55) bkX9_next_2 rfl) (bA_sl (a := 128) (j := 56) bkX9_next_2 rfl) (bA_sl (a := 128) (j := 57) bkX9_next_2 rfl) (by decide) rfl
theorem dX9_next_186 : DR cX9_next 186 (.invokevirtual 92) 3 := dk_182 (bA_sl (a := 128) (j := 58) bkX9_next_2 rfl) (bA_sl (a := 128) (j := 59) bkX9_next_2 rfl) (bA_sl (a := 128) (j := 60) bkX9_next_2 rfl) (by decide) rfl
theorem dX9_next_189 : DR cX9_next 189 (.iadd) 1 := dk_96 (bA_sl (a := 128) (j := 61) bkX9_next_2 rfl)
theorem dX9_next_190 : DR cX9_next 190 (.bipush 48) 2 := dk_16 (bA_sl (a := 128) (j := 62) bkX9_next_2 rfl) (bA_sl (a := 128) (j := 63) bkX9_next_2 rfl) (by decide) (by decide)
theorem bkX9_next_3 : ((cX9_next.data.toList.drop 192).take 64).map UInt8.toNat = [100, 181, 0, 109, 42, 89, 180, 0, 89, 4, 96, 181, 0, 89, 167, 255, 196, 42, 42, 180, 0, 89, 42, 180, 0, 86, 100, 6, 164, 0, 8, 16, 17, 167, 0, 5, 16, 14, 181, 0, 96, 167, 0, 37, 42, 89, 180, 0, 89, 4, 96, 181, 0, 89, 42, 42, 42, 180, 0, 86, 182, 0, 92, 16] := by decide +kernel
theorem dX9_next_192 : DR cX9_next 192 (.isub) 1 := dk_100 (bA_sl (a := 192) (j := 0) bkX9_next_3 rfl)
theorem dX9_next_193 : DR cX9_next 193 (.putfield 109) 3 := dk_181 (bA_sl (a := 192) (j := 1) bkX9_next_3 rfl) (bA_sl (a := 192) (j := 2) bkX9_next_3 rfl) (bA_sl (a := 192) (j := 3) bkX9_next_3 rfl) (by decide) rfl
theorem dX9_next_196 : DR cX9_next 196 (.aload_n 0) 1 := dk_42 (bA_sl (a := 192) (j := 4) bkX9_next_3 rfl)
theorem dX9_next_197 : DR cX9_next 197 (.dup) 1 := dk_89 (bA_sl (a := 192) (j := 5) bkX9_next_3 rfl)
theorem dX9_next_198 : DR cX9_next 198 (.getfield 89) 3 := dk_180 (bA_sl (a := 192) (j := 6) bkX9_next_3 rfl) (bA_sl (a := 192) (j := 7) bkX9_next_3 rfl) (bA_sl (a := 192) (j := 8) bkX9_next_3 rfl) (by decide) rfl
theorem dX9_next_201 : DR cX9_next 201 (.iconst 1) 1 := dk_4 (bA_sl (a := 192) (j := 9) bkX9_next_3 rfl)
theorem dX9_next_202 : DR cX9_next 202 (.iadd) 1 := dk_96 (bA_sl (a := 192) (j := 10) bkX9_next_3 rfl)
theorem dX9_next_203 : DR cX9_next 203 (.putfield 89) 3 := dk_181 (bA_sl (a := 192) (j := 11) bkX9_next_3 rfl) (bA_sl (a := 192) (j := 12) bkX9_next_3 rfl) (bA_sl (a := 192) (j := 13) bkX9_next_3 rfl) (by decide) rfl
theorem dX9_next_206 : DR cX9_next 206 (.goto (-60)) 3 := dk_167 (bA_sl (a := 192) (j := 14) bkX9_next_3 rfl) (bA_sl (a := 192) (j := 15) bkX9_next_3 rfl) (bA_sl (a := 192) (j := 16) bkX9_next_3 rfl) (by decide) (by decide)
theorem dX9_next_209 : DR cX9_next 209 (.aload_n 0) 1 := dk_42 (bA_sl (a := 192) (j := 17) bkX9_next_3 rfl)
theorem dX9_next_210 : DR cX9_next 210 (.aload_n 0) 1 := dk_42 (bA_sl (a := 192) (j := 18) bkX9_next_3 rfl)
theorem dX9_next_211 : DR cX9_next 211 (.getfield 89) 3 := dk_180 (bA_sl (a := 192) (j := 19) bkX9_next_3 rfl) (bA_sl (a := 192) (j := 20) bkX9_next_3 rfl) (bA_sl (a := 192) (j := 21) bkX9_next_3 rfl) (by decide) rfl
theorem dX9_next_214 : DR cX9_next 214 (.aload_n 0) 1 := dk_42 (bA_sl (a := 192) (j := 22) bkX9_next_3 rfl)
theorem dX9_next_215 : DR cX9_next 215 (.getfield 86) 3 := dk_180 (bA_sl (a := 192) (j := 23) bkX9_next_3 rfl) (bA_sl (a := 192) (j := 24) bkX9_next_3 rfl) (bA_sl (a := 192) (j := 25) bkX9_next_3 rfl) (by decide) rfl
theorem dX9_next_218 : DR cX9_next 218 (.isub) 1 := dk_100 (bA_sl (a := 192) (j := 26) bkX9_next_3 rfl)
theorem dX9_next_219 : DR cX9_next 219 (.iconst 3) 1 := dk_6 (bA_sl (a := 192) (j := 27) bkX9_next_3 rfl)
theorem dX9_next_220 : DR cX9_next 220 (.if_icmp .le 8) 3 := dk_164 (bA_sl (a := 192) (j := 28) bkX9_next_3 rfl) (bA_sl (a := 192) (j := 29) bkX9_next_3 rfl) (bA_sl (a := 192) (j := 30) bkX9_next_3 rfl) (by decide) (by decide)
theorem dX9_next_223 : DR cX9_next 223 (.bipush 17) 2 := dk_16 (bA_sl (a := 192) (j := 31) bkX9_next_3 rfl) (bA_sl (a := 192) (j := 32) bkX9_next_3 rfl) (by decide) (by decide)
theorem dX9_next_225 : DR cX9_next 225 (.goto 5) 3 := dk_167 (bA_sl (a := 192) (j := 33) bkX9_next_3 rfl) (bA_sl (a := 192) (j := 34) bkX9_next_3 rfl) (bA_sl (a := 192) (j := 35) bkX9_next_3 rfl) (by decide) (by decide)
theorem dX9_next_228 : DR cX9_next 228 (.bipush 14) 2 := dk_16 (bA_sl (a := 192) (j := 36) bkX9_next_3 rfl) (bA_sl (a := 192) (j := 37) bkX9_next_3 rfl) (by decide) (by decide)
theorem dX9_next_230 : DR cX9_next 230 (.putfield 96) 3 := dk_181 (bA_sl (a := 192) (j := 38) bkX9_next_3 rfl) (bA_sl (a := 192) (j := 39) bkX9_next_3 rfl) (bA_sl (a := 192) (j := 40) bkX9_next_3 rfl) (by decide) rfl
theorem dX9_next_233 : DR cX9_next 233 (.goto 37) 3 := dk_167 (bA_sl (a := 192) (j := 41) bkX9_next_3 rfl) (bA_sl (a := 192) (j := 42) bkX9_next_3 rfl) (bA_sl (a := 192) (j := 43) bkX9_next_3 rfl) (by decide) (by decide)
theorem dX9_next_236 : DR cX9_next 236 (.aload_n 0) 1 := dk_42 (bA_sl (a := 192) (j := 44) bkX9_next_3 rfl)
theorem dX9_next_237 : DR cX9_next 237 (.dup) 1 := dk_89 (bA_sl (a := 192) (j := 45) bkX9_next_3 rfl)
theorem dX9_next_238 : DR cX9_next 238 (.getfield 89) 3 := dk_180 (bA_sl (a := 192) (j := 46) bkX9_next_3 rfl) (bA_sl (a := 192) (j := 47) bkX9_next_3 rfl) (bA_sl (a := 192) (j := 48) bkX9_next_3 rfl) (by decide) rfl
theorem dX9_next_241 : DR cX9_next 241 (.iconst 1) 1 := dk_4 (bA_sl (a := 192) (j := 49) bkX9_next_3 rfl)
theorem dX9_next_242 : DR cX9_next 242 (.iadd) 1 := dk_96 (bA_sl (a := 192) (j := 50) bkX9_next_3 rfl)
theorem dX9_next_243 : DR cX9_next 243 (.putfield 89) 3 := dk_181 (bA_sl (a := 192) (j := 51) bkX9_next_3 rfl) (bA_sl (a := 192) (j := 52) bkX9_next_3 rfl) (bA_sl (a := 192) (j := 53) bkX9_next_3 rfl) (by decide) rfl
theorem dX9_next_246 : DR cX9_next 246 (.aload_n 0) 1 := dk_42 (bA_sl (a := 192) (j := 54) bkX9_next_3 rfl)
theorem dX9_next_247 : DR cX9_next 247 (.aload_n 0) 1 := dk_42 (bA_sl (a := 192) (j := 55) bkX9_next_3 rfl)
theorem dX9_next_248 : DR cX9_next 248 (.aload_n 0) 1 := dk_42 (bA_sl (a := 192) (j := 56) bkX9_next_3 rfl)
theorem dX9_next_249 : DR cX9_next 249 (.getfield 86) 3 := dk_180 (bA_sl (a := 192) (j := 57) bkX9_next_3 rfl) (bA_sl (a := 192) (j := 58) bkX9_next_3 rfl) (bA_sl (a := 192) (j := 59) bkX9_next_3 rfl) (by decide) rfl
theorem dX9_next_252 : DR cX9_next 252 (.invokevirtual 92) 3 := dk_182 (bA_sl (a := 192) (j := 60) bkX9_next_3 rfl) (bA_sl (a := 192) (j := 61) bkX9_next_3 rfl) (bA_sl (a := 192) (j := 62) bkX9_next_3 rfl) (by decide) rfl
theorem bkX9_next_4 : ((cX9_next.data.toList.drop 256).take 64).map UInt8.toNat = [59, 160, 0, 8, 16, 15, 167, 0, 5, 16, 17, 181, 0, 96, 177] := by decide +kernel
theorem dX9_next_255 : DR cX9_next 255 (.bipush 59) 2 := dk_16 (bA_sl (a := 192) (j := 63) bkX9_next_3 rfl) (bA_sl (a := 256) (j := 0) bkX9_next_4 rfl) (by decide) (by decide)
theorem dX9_next_257 : DR cX9_next 257 (.if_icmp .ne 8) 3 := dk_160 (bA_sl (a := 256) (j := 1) bkX9_next_4 rfl) (bA_sl (a := 256) (j := 2) bkX9_next_4 rfl) (bA_sl (a := 256) (j := 3) bkX9_next_4 rfl) (by decide) (by decide)
theorem dX9_next_260 : DR cX9_next 260 (.bipush 15) 2 := dk_16 (bA_sl (a := 256) (j := 4) bkX9_next_4 rfl) (bA_sl (a := 256) (j := 5) bkX9_next_4 rfl) (by decide) (by decide)
theorem dX9_next_262 : DR cX9_next 262 (.goto 5) 3 := dk_167 (bA_sl (a := 256) (j := 6) bkX9_next_4 rfl) (bA_sl (a := 256) (j := 7) bkX9_next_4 rfl) (bA_sl (a := 256) (j := 8) bkX9_next_4 rfl) (by decide) (by decide)
theorem dX9_next_265 : DR cX9_next 265 (.bipush 17) 2 := dk_16 (bA_sl (a := 256) (j := 9) bkX9_next_4 rfl) (bA_sl (a := 256) (j := 10) bkX9_next_4 rfl) (by decide) (by decide)
theorem dX9_next_267 : DR cX9_next 267 (.putfield 96) 3 := dk_181 (bA_sl (a := 256) (j := 11) bkX9_next_4 rfl) (bA_sl (a := 256) (j := 12) bkX9_next_4 rfl) (bA_sl (a := 256) (j := 13) bkX9_next_4 rfl) (by decide) rfl
theorem dX9_next_270 : DR cX9_next 270 (.return_) 1 := dk_177 (bA_sl (a := 256) (j := 14) bkX9_next_4 rfl)
theorem bkX9_fails_0 : ((cX9_fails.data.toList.drop 0).take 64).map UInt8.toNat = [42, 180, 0, 112, 153, 0, 4, 177, 42, 42, 180, 0, 96, 16, 17, 160, 0, 7, 4, 167, 0, 4, 27, 181, 0, 112, 42, 42, 180, 0, 86, 181, 0, 115, 177] := by decide +kernel
theorem dX9_fails_0 : DR cX9_fails 0 (.aload_n 0) 1 := dk_42 (bA_sl (a := 0) (j := 0) bkX9_fails_0 rfl)
theorem dX9_fails_1 : DR cX9_fails 1 (.getfield 112) 3 := dk_180 (bA_sl (a := 0) (j := 1) bkX9_fails_0 rfl) (bA_sl (a := 0) (j := 2) bkX9_fails_0 rfl) (bA_sl (a := 0) (j := 3) bkX9_fails_0 rfl) (by decide) rfl
theorem dX9_fails_4 : DR cX9_fails 4 (.ifCond .eq 4) 3 := dk_153 (bA_sl (a := 0) (j := 4) bkX9_fails_0 rfl) (bA_sl (a := 0) (j := 5) bkX9_fails_0 rfl) (bA_sl (a := 0) (j := 6) bkX9_fails_0 rfl) (by decide) (by decide)
theorem dX9_fails_7 : DR cX9_fails 7 (.return_) 1 := dk_177 (bA_sl (a := 0) (j := 7) bkX9_fails_0 rfl)
theorem dX9_fails_8 : DR cX9_fails 8 (.aload_n 0) 1 := dk_42 (bA_sl (a := 0) (j := 8) bkX9_fails_0 rfl)
theorem dX9_fails_9 : DR cX9_fails 9 (.aload_n 0) 1 := dk_42 (bA_sl (a := 0) (j := 9) bkX9_fails_0 rfl)
theorem dX9_fails_10 : DR cX9_fails 10 (.getfield 96) 3 := dk_180 (bA_sl (a := 0) (j := 10) bkX9_fails_0 rfl) (bA_sl (a := 0) (j := 11) bkX9_fails_0 rfl) (bA_sl (a := 0) (j := 12) bkX9_fails_0 rfl) (by decide) rfl
theorem dX9_fails_13 : DR cX9_fails 13 (.bipush 17) 2 := dk_16 (bA_sl (a := 0) (j := 13) bkX9_fails_0 rfl) (bA_sl (a := 0) (j := 14) bkX9_fails_0 rfl) (by decide) (by decide)
theorem dX9_fails_15 : DR cX9_fails 15 (.if_icmp .ne 7) 3 := dk_160 (bA_sl (a := 0) (j := 15) bkX9_fails_0 rfl) (bA_sl (a := 0) (j := 16) bkX9_fails_0 rfl) (bA_sl (a := 0) (j := 17) bkX9_fails_0 rfl) (by decide) (by decide)
theorem dX9_fails_18 : DR cX9_fails 18 (.iconst 1) 1 := dk_4 (bA_sl (a := 0) (j := 18) bkX9_fails_0 rfl)
theorem dX9_fails_19 : DR cX9_fails 19 (.goto 4) 3 := dk_167 (bA_sl (a := 0) (j := 19) bkX9_fails_0 rfl) (bA_sl (a := 0) (j := 20) bkX9_fails_0 rfl) (bA_sl (a := 0) (j := 21) bkX9_fails_0 rfl) (by decide) (by decide)
theorem dX9_fails_22 : DR cX9_fails 22 (.iload_n 1) 1 := dk_27 (bA_sl (a := 0) (j := 22) bkX9_fails_0 rfl)
theorem dX9_fails_23 : DR cX9_fails 23 (.putfield 112) 3 := dk_181 (bA_sl (a := 0) (j := 23) bkX9_fails_0 rfl) (bA_sl (a := 0) (j := 24) bkX9_fails_0 rfl) (bA_sl (a := 0) (j := 25) bkX9_fails_0 rfl) (by decide) rfl
theorem dX9_fails_26 : DR cX9_fails 26 (.aload_n 0) 1 := dk_42 (bA_sl (a := 0) (j := 26) bkX9_fails_0 rfl)
theorem dX9_fails_27 : DR cX9_fails 27 (.aload_n 0) 1 := dk_42 (bA_sl (a := 0) (j := 27) bkX9_fails_0 rfl)
theorem dX9_fails_28 : DR cX9_fails 28 (.getfield 86) 3 := dk_180 (bA_sl (a := 0) (j := 28) bkX9_fails_0 rfl) (bA_sl (a := 0) (j := 29) bkX9_fails_0 rfl) (bA_sl (a := 0) (j := 30) bkX9_fails_0 rfl) (by decide) rfl
theorem dX9_fails_31 : DR cX9_fails 31 (.putfield 115) 3 := dk_181 (bA_sl (a := 0) (j := 31) bkX9_fails_0 rfl) (bA_sl (a := 0) (j := 32) bkX9_fails_0 rfl) (bA_sl (a := 0) (j := 33) bkX9_fails_0 rfl) (by decide) rfl
theorem dX9_fails_34 : DR cX9_fails 34 (.return_) 1 := dk_177 (bA_sl (a := 0) (j := 34) bkX9_fails_0 rfl)
theorem bkX9_is_0 : ((cX9_is.data.toList.drop 0).take 64).map UInt8.toNat = [42, 180, 0, 112, 154, 0, 15, 42, 180, 0, 96, 27, 160, 0, 7, 4, 167, 0, 4, 3, 172] := by decide +kernel
theorem dX9_is_0 : DR cX9_is 0 (.aload_n 0) 1 := dk_42 (bA_sl (a := 0) (j := 0) bkX9_is_0 rfl)
theorem dX9_is_1 : DR cX9_is 1 (.getfield 112) 3 := dk_180 (bA_sl (a := 0) (j := 1) bkX9_is_0 rfl) (bA_sl (a := 0) (j := 2) bkX9_is_0 rfl) (bA_sl (a := 0) (j := 3) bkX9_is_0 rfl) (by decide) rfl
theorem dX9_is_4 : DR cX9_is 4 (.ifCond .ne 15) 3 := dk_154 (bA_sl (a := 0) (j := 4) bkX9_is_0 rfl) (bA_sl (a := 0) (j := 5) bkX9_is_0 rfl) (bA_sl (a := 0) (j := 6) bkX9_is_0 rfl) (by decide) (by decide)
theorem dX9_is_7 : DR cX9_is 7 (.aload_n 0) 1 := dk_42 (bA_sl (a := 0) (j := 7) bkX9_is_0 rfl)
theorem dX9_is_8 : DR cX9_is 8 (.getfield 96) 3 := dk_180 (bA_sl (a := 0) (j := 8) bkX9_is_0 rfl) (bA_sl (a := 0) (j := 9) bkX9_is_0 rfl) (bA_sl (a := 0) (j := 10) bkX9_is_0 rfl) (by decide) rfl
theorem dX9_is_11 : DR cX9_is 11 (.iload_n 1) 1 := dk_27 (bA_sl (a := 0) (j := 11) bkX9_is_0 rfl)
theorem dX9_is_12 : DR cX9_is 12 (.if_icmp .ne 7) 3 := dk_160 (bA_sl (a := 0) (j := 12) bkX9_is_0 rfl) (bA_sl (a := 0) (j := 13) bkX9_is_0 rfl) (bA_sl (a := 0) (j := 14) bkX9_is_0 rfl) (by decide) (by decide)
theorem dX9_is_15 : DR cX9_is 15 (.iconst 1) 1 := dk_4 (bA_sl (a := 0) (j := 15) bkX9_is_0 rfl)
theorem dX9_is_16 : DR cX9_is 16 (.goto 4) 3 := dk_167 (bA_sl (a := 0) (j := 16) bkX9_is_0 rfl) (bA_sl (a := 0) (j := 17) bkX9_is_0 rfl) (bA_sl (a := 0) (j := 18) bkX9_is_0 rfl) (by decide) (by decide)
theorem dX9_is_19 : DR cX9_is 19 (.iconst 0) 1 := dk_3 (bA_sl (a := 0) (j := 19) bkX9_is_0 rfl)
theorem dX9_is_20 : DR cX9_is 20 (.ireturn) 1 := dk_172 (bA_sl (a := 0) (j := 20) bkX9_is_0 rfl)
theorem bkX9_eats_0 : ((cX9_eats.data.toList.drop 0).take 64).map UInt8.toNat = [42, 27, 182, 0, 118, 154, 0, 5, 3, 172, 42, 182, 0, 121, 4, 172] := by decide +kernel
theorem dX9_eats_0 : DR cX9_eats 0 (.aload_n 0) 1 := dk_42 (bA_sl (a := 0) (j := 0) bkX9_eats_0 rfl)
theorem dX9_eats_1 : DR cX9_eats 1 (.iload_n 1) 1 := dk_27 (bA_sl (a := 0) (j := 1) bkX9_eats_0 rfl)
theorem dX9_eats_2 : DR cX9_eats 2 (.invokevirtual 118) 3 := dk_182 (bA_sl (a := 0) (j := 2) bkX9_eats_0 rfl) (bA_sl (a := 0) (j := 3) bkX9_eats_0 rfl) (bA_sl (a := 0) (j := 4) bkX9_eats_0 rfl) (by decide) rfl
theorem dX9_eats_5 : DR cX9_eats 5 (.ifCond .ne 5) 3 := dk_154 (bA_sl (a := 0) (j := 5) bkX9_eats_0 rfl) (bA_sl (a := 0) (j := 6) bkX9_eats_0 rfl) (bA_sl (a := 0) (j := 7) bkX9_eats_0 rfl) (by decide) (by decide)
theorem dX9_eats_8 : DR cX9_eats 8 (.iconst 0) 1 := dk_3 (bA_sl (a := 0) (j := 8) bkX9_eats_0 rfl)
theorem dX9_eats_9 : DR cX9_eats 9 (.ireturn) 1 := dk_172 (bA_sl (a := 0) (j := 9) bkX9_eats_0 rfl)
theorem dX9_eats_10 : DR cX9_eats 10 (.aload_n 0) 1 := dk_42 (bA_sl (a := 0) (j := 10) bkX9_eats_0 rfl)
theorem dX9_eats_11 : DR cX9_eats 11 (.invokevirtual 121) 3 := dk_182 (bA_sl (a := 0) (j := 11) bkX9_eats_0 rfl) (bA_sl (a := 0) (j := 12) bkX9_eats_0 rfl) (bA_sl (a := 0) (j := 13) bkX9_eats_0 rfl) (by decide) rfl
theorem dX9_eats_14 : DR cX9_eats 14 (.iconst 1) 1 := dk_4 (bA_sl (a := 0) (j := 14) bkX9_eats_0 rfl)
theorem dX9_eats_15 : DR cX9_eats 15 (.ireturn) 1 := dk_172 (bA_sl (a := 0) (j := 15) bkX9_eats_0 rfl)
theorem bkX9_takes_0 : ((cX9_takes.data.toList.drop 0).take 64).map UInt8.toNat = [42, 16, 14, 182, 0, 118, 154, 0, 11, 42, 5, 182, 0, 124, 167, 0, 23, 42, 180, 0, 109, 133, 27, 133, 28, 133, 184, 0, 128, 154, 0, 8, 42, 6, 182, 0, 124, 42, 180, 0, 109, 62, 42, 180, 0, 112, 154, 0, 7, 42, 182, 0, 121, 29, 172] := by decide +kernel
theorem dX9_takes_0 : DR cX9_takes 0 (.aload_n 0) 1 := dk_42 (bA_sl (a := 0) (j := 0) bkX9_takes_0 rfl)
theorem dX9_takes_1 : DR cX9_takes 1 (.bipush 14) 2 := dk_16 (bA_sl (a := 0) (j := 1) bkX9_takes_0 rfl) (bA_sl (a := 0) (j := 2) bkX9_takes_0 rfl) (by decide) (by decide)
theorem dX9_takes_3 : DR cX9_takes 3 (.invokevirtual 118) 3 := dk_182 (bA_sl (a := 0) (j := 3) bkX9_takes_0 rfl) (bA_sl (a := 0) (j := 4) bkX9_takes_0 rfl) (bA_sl (a := 0) (j := 5) bkX9_takes_0 rfl) (by decide) rfl
theorem dX9_takes_6 : DR cX9_takes 6 (.ifCond .ne 11) 3 := dk_154 (bA_sl (a := 0) (j := 6) bkX9_takes_0 rfl) (bA_sl (a := 0) (j := 7) bkX9_takes_0 rfl) (bA_sl (a := 0) (j := 8) bkX9_takes_0 rfl) (by decide) (by decide)
theorem dX9_takes_9 : DR cX9_takes 9 (.aload_n 0) 1 := dk_42 (bA_sl (a := 0) (j := 9) bkX9_takes_0 rfl)
theorem dX9_takes_10 : DR cX9_takes 10 (.iconst 2) 1 := dk_5 (bA_sl (a := 0) (j := 10) bkX9_takes_0 rfl)
theorem dX9_takes_11 : DR cX9_takes 11 (.invokevirtual 124) 3 := dk_182 (bA_sl (a := 0) (j := 11) bkX9_takes_0 rfl) (bA_sl (a := 0) (j := 12) bkX9_takes_0 rfl) (bA_sl (a := 0) (j := 13) bkX9_takes_0 rfl) (by decide) rfl
theorem dX9_takes_14 : DR cX9_takes 14 (.goto 23) 3 := dk_167 (bA_sl (a := 0) (j := 14) bkX9_takes_0 rfl) (bA_sl (a := 0) (j := 15) bkX9_takes_0 rfl) (bA_sl (a := 0) (j := 16) bkX9_takes_0 rfl) (by decide) (by decide)
theorem dX9_takes_17 : DR cX9_takes 17 (.aload_n 0) 1 := dk_42 (bA_sl (a := 0) (j := 17) bkX9_takes_0 rfl)
theorem dX9_takes_18 : DR cX9_takes 18 (.getfield 109) 3 := dk_180 (bA_sl (a := 0) (j := 18) bkX9_takes_0 rfl) (bA_sl (a := 0) (j := 19) bkX9_takes_0 rfl) (bA_sl (a := 0) (j := 20) bkX9_takes_0 rfl) (by decide) rfl
theorem dX9_takes_21 : DR cX9_takes 21 (.i2l) 1 := dk_133 (bA_sl (a := 0) (j := 21) bkX9_takes_0 rfl)
theorem dX9_takes_22 : DR cX9_takes 22 (.iload_n 1) 1 := dk_27 (bA_sl (a := 0) (j := 22) bkX9_takes_0 rfl)
theorem dX9_takes_23 : DR cX9_takes 23 (.i2l) 1 := dk_133 (bA_sl (a := 0) (j := 23) bkX9_takes_0 rfl)
theorem dX9_takes_24 : DR cX9_takes 24 (.iload_n 2) 1 := dk_28 (bA_sl (a := 0) (j := 24) bkX9_takes_0 rfl)
theorem dX9_takes_25 : DR cX9_takes 25 (.i2l) 1 := dk_133 (bA_sl (a := 0) (j := 25) bkX9_takes_0 rfl)
theorem dX9_takes_26 : DR cX9_takes 26 (.invokestatic 128) 3 := dk_184 (bA_sl (a := 0) (j := 26) bkX9_takes_0 rfl) (bA_sl (a := 0) (j := 27) bkX9_takes_0 rfl) (bA_sl (a := 0) (j := 28) bkX9_takes_0 rfl) (by decide) rfl
theorem dX9_takes_29 : DR cX9_takes 29 (.ifCond .ne 8) 3 := dk_154 (bA_sl (a := 0) (j := 29) bkX9_takes_0 rfl) (bA_sl (a := 0) (j := 30) bkX9_takes_0 rfl) (bA_sl (a := 0) (j := 31) bkX9_takes_0 rfl) (by decide) (by decide)
theorem dX9_takes_32 : DR cX9_takes 32 (.aload_n 0) 1 := dk_42 (bA_sl (a := 0) (j := 32) bkX9_takes_0 rfl)
theorem dX9_takes_33 : DR cX9_takes 33 (.iconst 3) 1 := dk_6 (bA_sl (a := 0) (j := 33) bkX9_takes_0 rfl)
theorem dX9_takes_34 : DR cX9_takes 34 (.invokevirtual 124) 3 := dk_182 (bA_sl (a := 0) (j := 34) bkX9_takes_0 rfl) (bA_sl (a := 0) (j := 35) bkX9_takes_0 rfl) (bA_sl (a := 0) (j := 36) bkX9_takes_0 rfl) (by decide) rfl
theorem dX9_takes_37 : DR cX9_takes 37 (.aload_n 0) 1 := dk_42 (bA_sl (a := 0) (j := 37) bkX9_takes_0 rfl)
theorem dX9_takes_38 : DR cX9_takes 38 (.getfield 109) 3 := dk_180 (bA_sl (a := 0) (j := 38) bkX9_takes_0 rfl) (bA_sl (a := 0) (j := 39) bkX9_takes_0 rfl) (bA_sl (a := 0) (j := 40) bkX9_takes_0 rfl) (by decide) rfl
theorem dX9_takes_41 : DR cX9_takes 41 (.istore_n 3) 1 := dk_62 (bA_sl (a := 0) (j := 41) bkX9_takes_0 rfl)
theorem dX9_takes_42 : DR cX9_takes 42 (.aload_n 0) 1 := dk_42 (bA_sl (a := 0) (j := 42) bkX9_takes_0 rfl)
theorem dX9_takes_43 : DR cX9_takes 43 (.getfield 112) 3 := dk_180 (bA_sl (a := 0) (j := 43) bkX9_takes_0 rfl) (bA_sl (a := 0) (j := 44) bkX9_takes_0 rfl) (bA_sl (a := 0) (j := 45) bkX9_takes_0 rfl) (by decide) rfl
theorem dX9_takes_46 : DR cX9_takes 46 (.ifCond .ne 7) 3 := dk_154 (bA_sl (a := 0) (j := 46) bkX9_takes_0 rfl) (bA_sl (a := 0) (j := 47) bkX9_takes_0 rfl) (bA_sl (a := 0) (j := 48) bkX9_takes_0 rfl) (by decide) (by decide)
theorem dX9_takes_49 : DR cX9_takes 49 (.aload_n 0) 1 := dk_42 (bA_sl (a := 0) (j := 49) bkX9_takes_0 rfl)
theorem dX9_takes_50 : DR cX9_takes 50 (.invokevirtual 121) 3 := dk_182 (bA_sl (a := 0) (j := 50) bkX9_takes_0 rfl) (bA_sl (a := 0) (j := 51) bkX9_takes_0 rfl) (bA_sl (a := 0) (j := 52) bkX9_takes_0 rfl) (by decide) rfl
theorem dX9_takes_53 : DR cX9_takes 53 (.iload_n 3) 1 := dk_29 (bA_sl (a := 0) (j := 53) bkX9_takes_0 rfl)
theorem dX9_takes_54 : DR cX9_takes 54 (.ireturn) 1 := dk_172 (bA_sl (a := 0) (j := 54) bkX9_takes_0 rfl)
theorem bkX9_takesIf_0 : ((cX9_takesIf.data.toList.drop 0).take 64).map UInt8.toNat = [42, 27, 182, 0, 132, 153, 0, 12, 42, 28, 29, 182, 0, 135, 167, 0, 5, 21, 4, 172] := by decide +kernel
theorem dX9_takesIf_0 : DR cX9_takesIf 0 (.aload_n 0) 1 := dk_42 (bA_sl (a := 0) (j := 0) bkX9_takesIf_0 rfl)
theorem dX9_takesIf_1 : DR cX9_takesIf 1 (.iload_n 1) 1 := dk_27 (bA_sl (a := 0) (j := 1) bkX9_takesIf_0 rfl)
theorem dX9_takesIf_2 : DR cX9_takesIf 2 (.invokevirtual 132) 3 := dk_182 (bA_sl (a := 0) (j := 2) bkX9_takesIf_0 rfl) (bA_sl (a := 0) (j := 3) bkX9_takesIf_0 rfl) (bA_sl (a := 0) (j := 4) bkX9_takesIf_0 rfl) (by decide) rfl
theorem dX9_takesIf_5 : DR cX9_takesIf 5 (.ifCond .eq 12) 3 := dk_153 (bA_sl (a := 0) (j := 5) bkX9_takesIf_0 rfl) (bA_sl (a := 0) (j := 6) bkX9_takesIf_0 rfl) (bA_sl (a := 0) (j := 7) bkX9_takesIf_0 rfl) (by decide) (by decide)
theorem dX9_takesIf_8 : DR cX9_takesIf 8 (.aload_n 0) 1 := dk_42 (bA_sl (a := 0) (j := 8) bkX9_takesIf_0 rfl)
theorem dX9_takesIf_9 : DR cX9_takesIf 9 (.iload_n 2) 1 := dk_28 (bA_sl (a := 0) (j := 9) bkX9_takesIf_0 rfl)
theorem dX9_takesIf_10 : DR cX9_takesIf 10 (.iload_n 3) 1 := dk_29 (bA_sl (a := 0) (j := 10) bkX9_takesIf_0 rfl)
theorem dX9_takesIf_11 : DR cX9_takesIf 11 (.invokevirtual 135) 3 := dk_182 (bA_sl (a := 0) (j := 11) bkX9_takesIf_0 rfl) (bA_sl (a := 0) (j := 12) bkX9_takesIf_0 rfl) (bA_sl (a := 0) (j := 13) bkX9_takesIf_0 rfl) (by decide) rfl
theorem dX9_takesIf_14 : DR cX9_takesIf 14 (.goto 5) 3 := dk_167 (bA_sl (a := 0) (j := 14) bkX9_takesIf_0 rfl) (bA_sl (a := 0) (j := 15) bkX9_takesIf_0 rfl) (bA_sl (a := 0) (j := 16) bkX9_takesIf_0 rfl) (by decide) (by decide)
theorem dX9_takesIf_17 : DR cX9_takesIf 17 (.iload 4) 2 := dk_21 (bA_sl (a := 0) (j := 17) bkX9_takesIf_0 rfl) (bA_sl (a := 0) (j := 18) bkX9_takesIf_0 rfl) (by decide)
theorem dX9_takesIf_19 : DR cX9_takesIf 19 (.ireturn) 1 := dk_172 (bA_sl (a := 0) (j := 19) bkX9_takesIf_0 rfl)
theorem bkX9_readStrip_0 : ((cX9_readStrip.data.toList.drop 0).take 64).map UInt8.toNat = [42, 180, 0, 24, 3, 46, 60, 27, 16, 16, 160, 0, 8, 42, 7, 182, 0, 124, 42, 180, 0, 112, 153, 0, 4, 177, 42, 182, 0, 121, 42, 3, 16, 99, 182, 0, 135, 61, 42, 4, 3, 16, 9, 5, 182, 0, 139, 62, 42, 5, 3, 16, 30, 3, 182, 0, 139, 54, 4, 42, 6, 3, 8, 3] := by decide +kernel
theorem dX9_readStrip_0 : DR cX9_readStrip 0 (.aload_n 0) 1 := dk_42 (bA_sl (a := 0) (j := 0) bkX9_readStrip_0 rfl)
theorem dX9_readStrip_1 : DR cX9_readStrip 1 (.getfield 24) 3 := dk_180 (bA_sl (a := 0) (j := 1) bkX9_readStrip_0 rfl) (bA_sl (a := 0) (j := 2) bkX9_readStrip_0 rfl) (bA_sl (a := 0) (j := 3) bkX9_readStrip_0 rfl) (by decide) rfl
theorem dX9_readStrip_4 : DR cX9_readStrip 4 (.iconst 0) 1 := dk_3 (bA_sl (a := 0) (j := 4) bkX9_readStrip_0 rfl)
theorem dX9_readStrip_5 : DR cX9_readStrip 5 (.iaload) 1 := dk_46 (bA_sl (a := 0) (j := 5) bkX9_readStrip_0 rfl)
theorem dX9_readStrip_6 : DR cX9_readStrip 6 (.istore_n 1) 1 := dk_60 (bA_sl (a := 0) (j := 6) bkX9_readStrip_0 rfl)
theorem dX9_readStrip_7 : DR cX9_readStrip 7 (.iload_n 1) 1 := dk_27 (bA_sl (a := 0) (j := 7) bkX9_readStrip_0 rfl)
theorem dX9_readStrip_8 : DR cX9_readStrip 8 (.bipush 16) 2 := dk_16 (bA_sl (a := 0) (j := 8) bkX9_readStrip_0 rfl) (bA_sl (a := 0) (j := 9) bkX9_readStrip_0 rfl) (by decide) (by decide)
theorem dX9_readStrip_10 : DR cX9_readStrip 10 (.if_icmp .ne 8) 3 := dk_160 (bA_sl (a := 0) (j := 10) bkX9_readStrip_0 rfl) (bA_sl (a := 0) (j := 11) bkX9_readStrip_0 rfl) (bA_sl (a := 0) (j := 12) bkX9_readStrip_0 rfl) (by decide) (by decide)
theorem dX9_readStrip_13 : DR cX9_readStrip 13 (.aload_n 0) 1 := dk_42 (bA_sl (a := 0) (j := 13) bkX9_readStrip_0 rfl)
theorem dX9_readStrip_14 : DR cX9_readStrip 14 (.iconst 4) 1 := dk_7 (bA_sl (a := 0) (j := 14) bkX9_readStrip_0 rfl)
theorem dX9_readStrip_15 : DR cX9_readStrip 15 (.invokevirtual 124) 3 := dk_182 (bA_sl (a := 0) (j := 15) bkX9_readStrip_0 rfl) (bA_sl (a := 0) (j := 16) bkX9_readStrip_0 rfl) (bA_sl (a := 0) (j := 17) bkX9_readStrip_0 rfl) (by decide) rfl
theorem dX9_readStrip_18 : DR cX9_readStrip 18 (.aload_n 0) 1 := dk_42 (bA_sl (a := 0) (j := 18) bkX9_readStrip_0 rfl)
theorem dX9_readStrip_19 : DR cX9_readStrip 19 (.getfield 112) 3 := dk_180 (bA_sl (a := 0) (j := 19) bkX9_readStrip_0 rfl) (bA_sl (a := 0) (j := 20) bkX9_readStrip_0 rfl) (bA_sl (a := 0) (j := 21) bkX9_readStrip_0 rfl) (by decide) rfl
theorem dX9_readStrip_22 : DR cX9_readStrip 22 (.ifCond .eq 4) 3 := dk_153 (bA_sl (a := 0) (j := 22) bkX9_readStrip_0 rfl) (bA_sl (a := 0) (j := 23) bkX9_readStrip_0 rfl) (bA_sl (a := 0) (j := 24) bkX9_readStrip_0 rfl) (by decide) (by decide)
theorem dX9_readStrip_25 : DR cX9_readStrip 25 (.return_) 1 := dk_177 (bA_sl (a := 0) (j := 25) bkX9_readStrip_0 rfl)
theorem dX9_readStrip_26 : DR cX9_readStrip 26 (.aload_n 0) 1 := dk_42 (bA_sl (a := 0) (j := 26) bkX9_readStrip_0 rfl)
theorem dX9_readStrip_27 : DR cX9_readStrip 27 (.invokevirtual 121) 3 := dk_182 (bA_sl (a := 0) (j := 27) bkX9_readStrip_0 rfl) (bA_sl (a := 0) (j := 28) bkX9_readStrip_0 rfl) (bA_sl (a := 0) (j := 29) bkX9_readStrip_0 rfl) (by decide) rfl
theorem dX9_readStrip_30 : DR cX9_readStrip 30 (.aload_n 0) 1 := dk_42 (bA_sl (a := 0) (j := 30) bkX9_readStrip_0 rfl)
theorem dX9_readStrip_31 : DR cX9_readStrip 31 (.iconst 0) 1 := dk_3 (bA_sl (a := 0) (j := 31) bkX9_readStrip_0 rfl)
theorem dX9_readStrip_32 : DR cX9_readStrip 32 (.bipush 99) 2 := dk_16 (bA_sl (a := 0) (j := 32) bkX9_readStrip_0 rfl) (bA_sl (a := 0) (j := 33) bkX9_readStrip_0 rfl) (by decide) (by decide)
theorem dX9_readStrip_34 : DR cX9_readStrip 34 (.invokevirtual 135) 3 := dk_182 (bA_sl (a := 0) (j := 34) bkX9_readStrip_0 rfl) (bA_sl (a := 0) (j := 35) bkX9_readStrip_0 rfl) (bA_sl (a := 0) (j := 36) bkX9_readStrip_0 rfl) (by decide) rfl
theorem dX9_readStrip_37 : DR cX9_readStrip 37 (.istore_n 2) 1 := dk_61 (bA_sl (a := 0) (j := 37) bkX9_readStrip_0 rfl)
theorem dX9_readStrip_38 : DR cX9_readStrip 38 (.aload_n 0) 1 := dk_42 (bA_sl (a := 0) (j := 38) bkX9_readStrip_0 rfl)
theorem dX9_readStrip_39 : DR cX9_readStrip 39 (.iconst 1) 1 := dk_4 (bA_sl (a := 0) (j := 39) bkX9_readStrip_0 rfl)
theorem dX9_readStrip_40 : DR cX9_readStrip 40 (.iconst 0) 1 := dk_3 (bA_sl (a := 0) (j := 40) bkX9_readStrip_0 rfl)
theorem dX9_readStrip_41 : DR cX9_readStrip 41 (.bipush 9) 2 := dk_16 (bA_sl (a := 0) (j := 41) bkX9_readStrip_0 rfl) (bA_sl (a := 0) (j := 42) bkX9_readStrip_0 rfl) (by decide) (by decide)
theorem dX9_readStrip_43 : DR cX9_readStrip 43 (.iconst 2) 1 := dk_5 (bA_sl (a := 0) (j := 43) bkX9_readStrip_0 rfl)
theorem dX9_readStrip_44 : DR cX9_readStrip 44 (.invokevirtual 139) 3 := dk_182 (bA_sl (a := 0) (j := 44) bkX9_readStrip_0 rfl) (bA_sl (a := 0) (j := 45) bkX9_readStrip_0 rfl) (bA_sl (a := 0) (j := 46) bkX9_readStrip_0 rfl) (by decide) rfl
theorem dX9_readStrip_47 : DR cX9_readStrip 47 (.istore_n 3) 1 := dk_62 (bA_sl (a := 0) (j := 47) bkX9_readStrip_0 rfl)
theorem dX9_readStrip_48 : DR cX9_readStrip 48 (.aload_n 0) 1 := dk_42 (bA_sl (a := 0) (j := 48) bkX9_readStrip_0 rfl)
theorem dX9_readStrip_49 : DR cX9_readStrip 49 (.iconst 2) 1 := dk_5 (bA_sl (a := 0) (j := 49) bkX9_readStrip_0 rfl)
theorem dX9_readStrip_50 : DR cX9_readStrip 50 (.iconst 0) 1 := dk_3 (bA_sl (a := 0) (j := 50) bkX9_readStrip_0 rfl)
theorem dX9_readStrip_51 : DR cX9_readStrip 51 (.bipush 30) 2 := dk_16 (bA_sl (a := 0) (j := 51) bkX9_readStrip_0 rfl) (bA_sl (a := 0) (j := 52) bkX9_readStrip_0 rfl) (by decide) (by decide)
theorem dX9_readStrip_53 : DR cX9_readStrip 53 (.iconst 0) 1 := dk_3 (bA_sl (a := 0) (j := 53) bkX9_readStrip_0 rfl)
theorem dX9_readStrip_54 : DR cX9_readStrip 54 (.invokevirtual 139) 3 := dk_182 (bA_sl (a := 0) (j := 54) bkX9_readStrip_0 rfl) (bA_sl (a := 0) (j := 55) bkX9_readStrip_0 rfl) (bA_sl (a := 0) (j := 56) bkX9_readStrip_0 rfl) (by decide) rfl
theorem dX9_readStrip_57 : DR cX9_readStrip 57 (.istore 4) 2 := dk_54 (bA_sl (a := 0) (j := 57) bkX9_readStrip_0 rfl) (bA_sl (a := 0) (j := 58) bkX9_readStrip_0 rfl) (by decide)
theorem dX9_readStrip_59 : DR cX9_readStrip 59 (.aload_n 0) 1 := dk_42 (bA_sl (a := 0) (j := 59) bkX9_readStrip_0 rfl)
theorem dX9_readStrip_60 : DR cX9_readStrip 60 (.iconst 3) 1 := dk_6 (bA_sl (a := 0) (j := 60) bkX9_readStrip_0 rfl)
theorem dX9_readStrip_61 : DR cX9_readStrip 61 (.iconst 0) 1 := dk_3 (bA_sl (a := 0) (j := 61) bkX9_readStrip_0 rfl)
theorem dX9_readStrip_62 : DR cX9_readStrip 62 (.iconst 5) 1 := dk_8 (bA_sl (a := 0) (j := 62) bkX9_readStrip_0 rfl)
theorem dX9_readStrip_63 : DR cX9_readStrip 63 (.iconst 0) 1 := dk_3 (bA_sl (a := 0) (j := 63) bkX9_readStrip_0 rfl)
theorem bkX9_readStrip_1 : ((cX9_readStrip.data.toList.drop 64).take 64).map UInt8.toNat = [182, 0, 139, 54, 5, 42, 180, 0, 112, 153, 0, 4, 177, 42, 180, 0, 24, 16, 16, 27, 96, 28, 79, 42, 180, 0, 24, 16, 32, 27, 96, 29, 79, 42, 180, 0, 24, 16, 48, 27, 96, 21, 4, 79, 42, 180, 0, 24, 16, 64, 27, 96, 21, 5, 79, 42, 180, 0, 24, 3, 92, 46, 4, 96] := by decide +kernel
theorem dX9_readStrip_64 : DR cX9_readStrip 64 (.invokevirtual 139) 3 := dk_182 (bA_sl (a := 64) (j := 0) bkX9_readStrip_1 rfl) (bA_sl (a := 64) (j := 1) bkX9_readStrip_1 rfl) (bA_sl (a := 64) (j := 2) bkX9_readStrip_1 rfl) (by decide) rfl
theorem dX9_readStrip_67 : DR cX9_readStrip 67 (.istore 5) 2 := dk_54 (bA_sl (a := 64) (j := 3) bkX9_readStrip_1 rfl) (bA_sl (a := 64) (j := 4) bkX9_readStrip_1 rfl) (by decide)
theorem dX9_readStrip_69 : DR cX9_readStrip 69 (.aload_n 0) 1 := dk_42 (bA_sl (a := 64) (j := 5) bkX9_readStrip_1 rfl)
theorem dX9_readStrip_70 : DR cX9_readStrip 70 (.getfield 112) 3 := dk_180 (bA_sl (a := 64) (j := 6) bkX9_readStrip_1 rfl) (bA_sl (a := 64) (j := 7) bkX9_readStrip_1 rfl) (bA_sl (a := 64) (j := 8) bkX9_readStrip_1 rfl) (by decide) rfl
theorem dX9_readStrip_73 : DR cX9_readStrip 73 (.ifCond .eq 4) 3 := dk_153 (bA_sl (a := 64) (j := 9) bkX9_readStrip_1 rfl) (bA_sl (a := 64) (j := 10) bkX9_readStrip_1 rfl) (bA_sl (a := 64) (j := 11) bkX9_readStrip_1 rfl) (by decide) (by decide)
theorem dX9_readStrip_76 : DR cX9_readStrip 76 (.return_) 1 := dk_177 (bA_sl (a := 64) (j := 12) bkX9_readStrip_1 rfl)
theorem dX9_readStrip_77 : DR cX9_readStrip 77 (.aload_n 0) 1 := dk_42 (bA_sl (a := 64) (j := 13) bkX9_readStrip_1 rfl)
theorem dX9_readStrip_78 : DR cX9_readStrip 78 (.getfield 24) 3 := dk_180 (bA_sl (a := 64) (j := 14) bkX9_readStrip_1 rfl) (bA_sl (a := 64) (j := 15) bkX9_readStrip_1 rfl) (bA_sl (a := 64) (j := 16) bkX9_readStrip_1 rfl) (by decide) rfl
theorem dX9_readStrip_81 : DR cX9_readStrip 81 (.bipush 16) 2 := dk_16 (bA_sl (a := 64) (j := 17) bkX9_readStrip_1 rfl) (bA_sl (a := 64) (j := 18) bkX9_readStrip_1 rfl) (by decide) (by decide)
theorem dX9_readStrip_83 : DR cX9_readStrip 83 (.iload_n 1) 1 := dk_27 (bA_sl (a := 64) (j := 19) bkX9_readStrip_1 rfl)
theorem dX9_readStrip_84 : DR cX9_readStrip 84 (.iadd) 1 := dk_96 (bA_sl (a := 64) (j := 20) bkX9_readStrip_1 rfl)
theorem dX9_readStrip_85 : DR cX9_readStrip 85 (.iload_n 2) 1 := dk_28 (bA_sl (a := 64) (j := 21) bkX9_readStrip_1 rfl)
theorem dX9_readStrip_86 : DR cX9_readStrip 86 (.iastore) 1 := dk_79 (bA_sl (a := 64) (j := 22) bkX9_readStrip_1 rfl)
theorem dX9_readStrip_87 : DR cX9_readStrip 87 (.aload_n 0) 1 := dk_42 (bA_sl (a := 64) (j := 23) bkX9_readStrip_1 rfl)
theorem dX9_readStrip_88 : DR cX9_readStrip 88 (.getfield 24) 3 := dk_180 (bA_sl (a := 64) (j := 24) bkX9_readStrip_1 rfl) (bA_sl (a := 64) (j := 25) bkX9_readStrip_1 rfl) (bA_sl (a := 64) (j := 26) bkX9_readStrip_1 rfl) (by decide) rfl
theorem dX9_readStrip_91 : DR cX9_readStrip 91 (.bipush 32) 2 := dk_16 (bA_sl (a := 64) (j := 27) bkX9_readStrip_1 rfl) (bA_sl (a := 64) (j := 28) bkX9_readStrip_1 rfl) (by decide) (by decide)
theorem dX9_readStrip_93 : DR cX9_readStrip 93 (.iload_n 1) 1 := dk_27 (bA_sl (a := 64) (j := 29) bkX9_readStrip_1 rfl)
theorem dX9_readStrip_94 : DR cX9_readStrip 94 (.iadd) 1 := dk_96 (bA_sl (a := 64) (j := 30) bkX9_readStrip_1 rfl)
theorem dX9_readStrip_95 : DR cX9_readStrip 95 (.iload_n 3) 1 := dk_29 (bA_sl (a := 64) (j := 31) bkX9_readStrip_1 rfl)
theorem dX9_readStrip_96 : DR cX9_readStrip 96 (.iastore) 1 := dk_79 (bA_sl (a := 64) (j := 32) bkX9_readStrip_1 rfl)
theorem dX9_readStrip_97 : DR cX9_readStrip 97 (.aload_n 0) 1 := dk_42 (bA_sl (a := 64) (j := 33) bkX9_readStrip_1 rfl)
theorem dX9_readStrip_98 : DR cX9_readStrip 98 (.getfield 24) 3 := dk_180 (bA_sl (a := 64) (j := 34) bkX9_readStrip_1 rfl) (bA_sl (a := 64) (j := 35) bkX9_readStrip_1 rfl) (bA_sl (a := 64) (j := 36) bkX9_readStrip_1 rfl) (by decide) rfl
theorem dX9_readStrip_101 : DR cX9_readStrip 101 (.bipush 48) 2 := dk_16 (bA_sl (a := 64) (j := 37) bkX9_readStrip_1 rfl) (bA_sl (a := 64) (j := 38) bkX9_readStrip_1 rfl) (by decide) (by decide)
theorem dX9_readStrip_103 : DR cX9_readStrip 103 (.iload_n 1) 1 := dk_27 (bA_sl (a := 64) (j := 39) bkX9_readStrip_1 rfl)
theorem dX9_readStrip_104 : DR cX9_readStrip 104 (.iadd) 1 := dk_96 (bA_sl (a := 64) (j := 40) bkX9_readStrip_1 rfl)
theorem dX9_readStrip_105 : DR cX9_readStrip 105 (.iload 4) 2 := dk_21 (bA_sl (a := 64) (j := 41) bkX9_readStrip_1 rfl) (bA_sl (a := 64) (j := 42) bkX9_readStrip_1 rfl) (by decide)
theorem dX9_readStrip_107 : DR cX9_readStrip 107 (.iastore) 1 := dk_79 (bA_sl (a := 64) (j := 43) bkX9_readStrip_1 rfl)
theorem dX9_readStrip_108 : DR cX9_readStrip 108 (.aload_n 0) 1 := dk_42 (bA_sl (a := 64) (j := 44) bkX9_readStrip_1 rfl)
theorem dX9_readStrip_109 : DR cX9_readStrip 109 (.getfield 24) 3 := dk_180 (bA_sl (a := 64) (j := 45) bkX9_readStrip_1 rfl) (bA_sl (a := 64) (j := 46) bkX9_readStrip_1 rfl) (bA_sl (a := 64) (j := 47) bkX9_readStrip_1 rfl) (by decide) rfl
theorem dX9_readStrip_112 : DR cX9_readStrip 112 (.bipush 64) 2 := dk_16 (bA_sl (a := 64) (j := 48) bkX9_readStrip_1 rfl) (bA_sl (a := 64) (j := 49) bkX9_readStrip_1 rfl) (by decide) (by decide)
theorem dX9_readStrip_114 : DR cX9_readStrip 114 (.iload_n 1) 1 := dk_27 (bA_sl (a := 64) (j := 50) bkX9_readStrip_1 rfl)
theorem dX9_readStrip_115 : DR cX9_readStrip 115 (.iadd) 1 := dk_96 (bA_sl (a := 64) (j := 51) bkX9_readStrip_1 rfl)
theorem dX9_readStrip_116 : DR cX9_readStrip 116 (.iload 5) 2 := dk_21 (bA_sl (a := 64) (j := 52) bkX9_readStrip_1 rfl) (bA_sl (a := 64) (j := 53) bkX9_readStrip_1 rfl) (by decide)
theorem dX9_readStrip_118 : DR cX9_readStrip 118 (.iastore) 1 := dk_79 (bA_sl (a := 64) (j := 54) bkX9_readStrip_1 rfl)
theorem dX9_readStrip_119 : DR cX9_readStrip 119 (.aload_n 0) 1 := dk_42 (bA_sl (a := 64) (j := 55) bkX9_readStrip_1 rfl)
theorem dX9_readStrip_120 : DR cX9_readStrip 120 (.getfield 24) 3 := dk_180 (bA_sl (a := 64) (j := 56) bkX9_readStrip_1 rfl) (bA_sl (a := 64) (j := 57) bkX9_readStrip_1 rfl) (bA_sl (a := 64) (j := 58) bkX9_readStrip_1 rfl) (by decide) rfl
theorem dX9_readStrip_123 : DR cX9_readStrip 123 (.iconst 0) 1 := dk_3 (bA_sl (a := 64) (j := 59) bkX9_readStrip_1 rfl)
theorem dX9_readStrip_124 : DR cX9_readStrip 124 (.dup2) 1 := dk_92 (bA_sl (a := 64) (j := 60) bkX9_readStrip_1 rfl)
theorem dX9_readStrip_125 : DR cX9_readStrip 125 (.iaload) 1 := dk_46 (bA_sl (a := 64) (j := 61) bkX9_readStrip_1 rfl)
theorem dX9_readStrip_126 : DR cX9_readStrip 126 (.iconst 1) 1 := dk_4 (bA_sl (a := 64) (j := 62) bkX9_readStrip_1 rfl)
theorem dX9_readStrip_127 : DR cX9_readStrip 127 (.iadd) 1 := dk_96 (bA_sl (a := 64) (j := 63) bkX9_readStrip_1 rfl)
theorem bkX9_readStrip_2 : ((cX9_readStrip.data.toList.drop 128).take 64).map UInt8.toNat = [79, 177] := by decide +kernel
theorem dX9_readStrip_128 : DR cX9_readStrip 128 (.iastore) 1 := dk_79 (bA_sl (a := 128) (j := 0) bkX9_readStrip_2 rfl)
theorem dX9_readStrip_129 : DR cX9_readStrip 129 (.return_) 1 := dk_177 (bA_sl (a := 128) (j := 1) bkX9_readStrip_2 rfl)
theorem bkX9_readLamp_0 : ((cX9_readLamp.data.toList.drop 0).take 64).map UInt8.toNat = [42, 180, 0, 24, 184, 0, 65, 42, 180, 0, 24, 5, 42, 8, 3, 42, 180, 0, 24, 3, 46, 4, 100, 3, 182, 0, 139, 79, 42, 180, 0, 24, 6, 42, 16, 6, 4, 16, 30, 16, 6, 182, 0, 139, 79, 42, 180, 0, 24, 7, 42, 16, 7, 3, 16, 20, 16, 6, 182, 0, 139, 79, 42, 180] := by decide +kernel
theorem dX9_readLamp_0 : DR cX9_readLamp 0 (.aload_n 0) 1 := dk_42 (bA_sl (a := 0) (j := 0) bkX9_readLamp_0 rfl)
theorem dX9_readLamp_1 : DR cX9_readLamp 1 (.getfield 24) 3 := dk_180 (bA_sl (a := 0) (j := 1) bkX9_readLamp_0 rfl) (bA_sl (a := 0) (j := 2) bkX9_readLamp_0 rfl) (bA_sl (a := 0) (j := 3) bkX9_readLamp_0 rfl) (by decide) rfl
theorem dX9_readLamp_4 : DR cX9_readLamp 4 (.invokestatic 65) 3 := dk_184 (bA_sl (a := 0) (j := 4) bkX9_readLamp_0 rfl) (bA_sl (a := 0) (j := 5) bkX9_readLamp_0 rfl) (bA_sl (a := 0) (j := 6) bkX9_readLamp_0 rfl) (by decide) rfl
theorem dX9_readLamp_7 : DR cX9_readLamp 7 (.aload_n 0) 1 := dk_42 (bA_sl (a := 0) (j := 7) bkX9_readLamp_0 rfl)
theorem dX9_readLamp_8 : DR cX9_readLamp 8 (.getfield 24) 3 := dk_180 (bA_sl (a := 0) (j := 8) bkX9_readLamp_0 rfl) (bA_sl (a := 0) (j := 9) bkX9_readLamp_0 rfl) (bA_sl (a := 0) (j := 10) bkX9_readLamp_0 rfl) (by decide) rfl
theorem dX9_readLamp_11 : DR cX9_readLamp 11 (.iconst 2) 1 := dk_5 (bA_sl (a := 0) (j := 11) bkX9_readLamp_0 rfl)
theorem dX9_readLamp_12 : DR cX9_readLamp 12 (.aload_n 0) 1 := dk_42 (bA_sl (a := 0) (j := 12) bkX9_readLamp_0 rfl)
theorem dX9_readLamp_13 : DR cX9_readLamp 13 (.iconst 5) 1 := dk_8 (bA_sl (a := 0) (j := 13) bkX9_readLamp_0 rfl)
theorem dX9_readLamp_14 : DR cX9_readLamp 14 (.iconst 0) 1 := dk_3 (bA_sl (a := 0) (j := 14) bkX9_readLamp_0 rfl)
theorem dX9_readLamp_15 : DR cX9_readLamp 15 (.aload_n 0) 1 := dk_42 (bA_sl (a := 0) (j := 15) bkX9_readLamp_0 rfl)
theorem dX9_readLamp_16 : DR cX9_readLamp 16 (.getfield 24) 3 := dk_180 (bA_sl (a := 0) (j := 16) bkX9_readLamp_0 rfl) (bA_sl (a := 0) (j := 17) bkX9_readLamp_0 rfl) (bA_sl (a := 0) (j := 18) bkX9_readLamp_0 rfl) (by decide) rfl
theorem dX9_readLamp_19 : DR cX9_readLamp 19 (.iconst 0) 1 := dk_3 (bA_sl (a := 0) (j := 19) bkX9_readLamp_0 rfl)
theorem dX9_readLamp_20 : DR cX9_readLamp 20 (.iaload) 1 := dk_46 (bA_sl (a := 0) (j := 20) bkX9_readLamp_0 rfl)
theorem dX9_readLamp_21 : DR cX9_readLamp 21 (.iconst 1) 1 := dk_4 (bA_sl (a := 0) (j := 21) bkX9_readLamp_0 rfl)
theorem dX9_readLamp_22 : DR cX9_readLamp 22 (.isub) 1 := dk_100 (bA_sl (a := 0) (j := 22) bkX9_readLamp_0 rfl)
theorem dX9_readLamp_23 : DR cX9_readLamp 23 (.iconst 0) 1 := dk_3 (bA_sl (a := 0) (j := 23) bkX9_readLamp_0 rfl)
theorem dX9_readLamp_24 : DR cX9_readLamp 24 (.invokevirtual 139) 3 := dk_182 (bA_sl (a := 0) (j := 24) bkX9_readLamp_0 rfl) (bA_sl (a := 0) (j := 25) bkX9_readLamp_0 rfl) (bA_sl (a := 0) (j := 26) bkX9_readLamp_0 rfl) (by decide) rfl
theorem dX9_readLamp_27 : DR cX9_readLamp 27 (.iastore) 1 := dk_79 (bA_sl (a := 0) (j := 27) bkX9_readLamp_0 rfl)
theorem dX9_readLamp_28 : DR cX9_readLamp 28 (.aload_n 0) 1 := dk_42 (bA_sl (a := 0) (j := 28) bkX9_readLamp_0 rfl)
theorem dX9_readLamp_29 : DR cX9_readLamp 29 (.getfield 24) 3 := dk_180 (bA_sl (a := 0) (j := 29) bkX9_readLamp_0 rfl) (bA_sl (a := 0) (j := 30) bkX9_readLamp_0 rfl) (bA_sl (a := 0) (j := 31) bkX9_readLamp_0 rfl) (by decide) rfl
theorem dX9_readLamp_32 : DR cX9_readLamp 32 (.iconst 3) 1 := dk_6 (bA_sl (a := 0) (j := 32) bkX9_readLamp_0 rfl)
theorem dX9_readLamp_33 : DR cX9_readLamp 33 (.aload_n 0) 1 := dk_42 (bA_sl (a := 0) (j := 33) bkX9_readLamp_0 rfl)
theorem dX9_readLamp_34 : DR cX9_readLamp 34 (.bipush 6) 2 := dk_16 (bA_sl (a := 0) (j := 34) bkX9_readLamp_0 rfl) (bA_sl (a := 0) (j := 35) bkX9_readLamp_0 rfl) (by decide) (by decide)
theorem dX9_readLamp_36 : DR cX9_readLamp 36 (.iconst 1) 1 := dk_4 (bA_sl (a := 0) (j := 36) bkX9_readLamp_0 rfl)
theorem dX9_readLamp_37 : DR cX9_readLamp 37 (.bipush 30) 2 := dk_16 (bA_sl (a := 0) (j := 37) bkX9_readLamp_0 rfl) (bA_sl (a := 0) (j := 38) bkX9_readLamp_0 rfl) (by decide) (by decide)
theorem dX9_readLamp_39 : DR cX9_readLamp 39 (.bipush 6) 2 := dk_16 (bA_sl (a := 0) (j := 39) bkX9_readLamp_0 rfl) (bA_sl (a := 0) (j := 40) bkX9_readLamp_0 rfl) (by decide) (by decide)
theorem dX9_readLamp_41 : DR cX9_readLamp 41 (.invokevirtual 139) 3 := dk_182 (bA_sl (a := 0) (j := 41) bkX9_readLamp_0 rfl) (bA_sl (a := 0) (j := 42) bkX9_readLamp_0 rfl) (bA_sl (a := 0) (j := 43) bkX9_readLamp_0 rfl) (by decide) rfl
theorem dX9_readLamp_44 : DR cX9_readLamp 44 (.iastore) 1 := dk_79 (bA_sl (a := 0) (j := 44) bkX9_readLamp_0 rfl)
theorem dX9_readLamp_45 : DR cX9_readLamp 45 (.aload_n 0) 1 := dk_42 (bA_sl (a := 0) (j := 45) bkX9_readLamp_0 rfl)
theorem dX9_readLamp_46 : DR cX9_readLamp 46 (.getfield 24) 3 := dk_180 (bA_sl (a := 0) (j := 46) bkX9_readLamp_0 rfl) (bA_sl (a := 0) (j := 47) bkX9_readLamp_0 rfl) (bA_sl (a := 0) (j := 48) bkX9_readLamp_0 rfl) (by decide) rfl
theorem dX9_readLamp_49 : DR cX9_readLamp 49 (.iconst 4) 1 := dk_7 (bA_sl (a := 0) (j := 49) bkX9_readLamp_0 rfl)
theorem dX9_readLamp_50 : DR cX9_readLamp 50 (.aload_n 0) 1 := dk_42 (bA_sl (a := 0) (j := 50) bkX9_readLamp_0 rfl)
theorem dX9_readLamp_51 : DR cX9_readLamp 51 (.bipush 7) 2 := dk_16 (bA_sl (a := 0) (j := 51) bkX9_readLamp_0 rfl) (bA_sl (a := 0) (j := 52) bkX9_readLamp_0 rfl) (by decide) (by decide)
theorem dX9_readLamp_53 : DR cX9_readLamp 53 (.iconst 0) 1 := dk_3 (bA_sl (a := 0) (j := 53) bkX9_readLamp_0 rfl)
theorem dX9_readLamp_54 : DR cX9_readLamp 54 (.bipush 20) 2 := dk_16 (bA_sl (a := 0) (j := 54) bkX9_readLamp_0 rfl) (bA_sl (a := 0) (j := 55) bkX9_readLamp_0 rfl) (by decide) (by decide)
theorem dX9_readLamp_56 : DR cX9_readLamp 56 (.bipush 6) 2 := dk_16 (bA_sl (a := 0) (j := 56) bkX9_readLamp_0 rfl) (bA_sl (a := 0) (j := 57) bkX9_readLamp_0 rfl) (by decide) (by decide)
theorem dX9_readLamp_58 : DR cX9_readLamp 58 (.invokevirtual 139) 3 := dk_182 (bA_sl (a := 0) (j := 58) bkX9_readLamp_0 rfl) (bA_sl (a := 0) (j := 59) bkX9_readLamp_0 rfl) (bA_sl (a := 0) (j := 60) bkX9_readLamp_0 rfl) (by decide) rfl
theorem dX9_readLamp_61 : DR cX9_readLamp 61 (.iastore) 1 := dk_79 (bA_sl (a := 0) (j := 61) bkX9_readLamp_0 rfl)
theorem dX9_readLamp_62 : DR cX9_readLamp 62 (.aload_n 0) 1 := dk_42 (bA_sl (a := 0) (j := 62) bkX9_readLamp_0 rfl)
theorem bkX9_readLamp_1 : ((cX9_readLamp.data.toList.drop 64).take 64).map UInt8.toNat = [0, 24, 8, 42, 16, 8, 3, 16, 9, 4, 182, 0, 139, 79, 177] := by decide +kernel
theorem dX9_readLamp_63 : DR cX9_readLamp 63 (.getfield 24) 3 := dk_180 (bA_sl (a := 0) (j := 63) bkX9_readLamp_0 rfl) (bA_sl (a := 64) (j := 0) bkX9_readLamp_1 rfl) (bA_sl (a := 64) (j := 1) bkX9_readLamp_1 rfl) (by decide) rfl
theorem dX9_readLamp_66 : DR cX9_readLamp 66 (.iconst 5) 1 := dk_8 (bA_sl (a := 64) (j := 2) bkX9_readLamp_1 rfl)
theorem dX9_readLamp_67 : DR cX9_readLamp 67 (.aload_n 0) 1 := dk_42 (bA_sl (a := 64) (j := 3) bkX9_readLamp_1 rfl)
theorem dX9_readLamp_68 : DR cX9_readLamp 68 (.bipush 8) 2 := dk_16 (bA_sl (a := 64) (j := 4) bkX9_readLamp_1 rfl) (bA_sl (a := 64) (j := 5) bkX9_readLamp_1 rfl) (by decide) (by decide)
theorem dX9_readLamp_70 : DR cX9_readLamp 70 (.iconst 0) 1 := dk_3 (bA_sl (a := 64) (j := 6) bkX9_readLamp_1 rfl)
theorem dX9_readLamp_71 : DR cX9_readLamp 71 (.bipush 9) 2 := dk_16 (bA_sl (a := 64) (j := 7) bkX9_readLamp_1 rfl) (bA_sl (a := 64) (j := 8) bkX9_readLamp_1 rfl) (by decide) (by decide)
theorem dX9_readLamp_73 : DR cX9_readLamp 73 (.iconst 1) 1 := dk_4 (bA_sl (a := 64) (j := 9) bkX9_readLamp_1 rfl)
theorem dX9_readLamp_74 : DR cX9_readLamp 74 (.invokevirtual 139) 3 := dk_182 (bA_sl (a := 64) (j := 10) bkX9_readLamp_1 rfl) (bA_sl (a := 64) (j := 11) bkX9_readLamp_1 rfl) (bA_sl (a := 64) (j := 12) bkX9_readLamp_1 rfl) (by decide) rfl
theorem dX9_readLamp_77 : DR cX9_readLamp 77 (.iastore) 1 := dk_79 (bA_sl (a := 64) (j := 13) bkX9_readLamp_1 rfl)
theorem dX9_readLamp_78 : DR cX9_readLamp 78 (.return_) 1 := dk_177 (bA_sl (a := 64) (j := 14) bkX9_readLamp_1 rfl)
theorem bkX9_readBid_0 : ((cX9_readBid.data.toList.drop 0).take 64).map UInt8.toNat = [42, 3, 8, 182, 0, 135, 60, 42, 3, 16, 99, 182, 0, 135, 61, 42, 180, 0, 112, 154, 0, 13, 42, 180, 0, 24, 16, 10, 27, 96, 28, 79, 177] := by decide +kernel
theorem dX9_readBid_0 : DR cX9_readBid 0 (.aload_n 0) 1 := dk_42 (bA_sl (a := 0) (j := 0) bkX9_readBid_0 rfl)
theorem dX9_readBid_1 : DR cX9_readBid 1 (.iconst 0) 1 := dk_3 (bA_sl (a := 0) (j := 1) bkX9_readBid_0 rfl)
theorem dX9_readBid_2 : DR cX9_readBid 2 (.iconst 5) 1 := dk_8 (bA_sl (a := 0) (j := 2) bkX9_readBid_0 rfl)
theorem dX9_readBid_3 : DR cX9_readBid 3 (.invokevirtual 135) 3 := dk_182 (bA_sl (a := 0) (j := 3) bkX9_readBid_0 rfl) (bA_sl (a := 0) (j := 4) bkX9_readBid_0 rfl) (bA_sl (a := 0) (j := 5) bkX9_readBid_0 rfl) (by decide) rfl
theorem dX9_readBid_6 : DR cX9_readBid 6 (.istore_n 1) 1 := dk_60 (bA_sl (a := 0) (j := 6) bkX9_readBid_0 rfl)
theorem dX9_readBid_7 : DR cX9_readBid 7 (.aload_n 0) 1 := dk_42 (bA_sl (a := 0) (j := 7) bkX9_readBid_0 rfl)
theorem dX9_readBid_8 : DR cX9_readBid 8 (.iconst 0) 1 := dk_3 (bA_sl (a := 0) (j := 8) bkX9_readBid_0 rfl)
theorem dX9_readBid_9 : DR cX9_readBid 9 (.bipush 99) 2 := dk_16 (bA_sl (a := 0) (j := 9) bkX9_readBid_0 rfl) (bA_sl (a := 0) (j := 10) bkX9_readBid_0 rfl) (by decide) (by decide)
theorem dX9_readBid_11 : DR cX9_readBid 11 (.invokevirtual 135) 3 := dk_182 (bA_sl (a := 0) (j := 11) bkX9_readBid_0 rfl) (bA_sl (a := 0) (j := 12) bkX9_readBid_0 rfl) (bA_sl (a := 0) (j := 13) bkX9_readBid_0 rfl) (by decide) rfl
theorem dX9_readBid_14 : DR cX9_readBid 14 (.istore_n 2) 1 := dk_61 (bA_sl (a := 0) (j := 14) bkX9_readBid_0 rfl)
theorem dX9_readBid_15 : DR cX9_readBid 15 (.aload_n 0) 1 := dk_42 (bA_sl (a := 0) (j := 15) bkX9_readBid_0 rfl)
theorem dX9_readBid_16 : DR cX9_readBid 16 (.getfield 112) 3 := dk_180 (bA_sl (a := 0) (j := 16) bkX9_readBid_0 rfl) (bA_sl (a := 0) (j := 17) bkX9_readBid_0 rfl) (bA_sl (a := 0) (j := 18) bkX9_readBid_0 rfl) (by decide) rfl
theorem dX9_readBid_19 : DR cX9_readBid 19 (.ifCond .ne 13) 3 := dk_154 (bA_sl (a := 0) (j := 19) bkX9_readBid_0 rfl) (bA_sl (a := 0) (j := 20) bkX9_readBid_0 rfl) (bA_sl (a := 0) (j := 21) bkX9_readBid_0 rfl) (by decide) (by decide)
theorem dX9_readBid_22 : DR cX9_readBid 22 (.aload_n 0) 1 := dk_42 (bA_sl (a := 0) (j := 22) bkX9_readBid_0 rfl)
theorem dX9_readBid_23 : DR cX9_readBid 23 (.getfield 24) 3 := dk_180 (bA_sl (a := 0) (j := 23) bkX9_readBid_0 rfl) (bA_sl (a := 0) (j := 24) bkX9_readBid_0 rfl) (bA_sl (a := 0) (j := 25) bkX9_readBid_0 rfl) (by decide) rfl
theorem dX9_readBid_26 : DR cX9_readBid 26 (.bipush 10) 2 := dk_16 (bA_sl (a := 0) (j := 26) bkX9_readBid_0 rfl) (bA_sl (a := 0) (j := 27) bkX9_readBid_0 rfl) (by decide) (by decide)
theorem dX9_readBid_28 : DR cX9_readBid 28 (.iload_n 1) 1 := dk_27 (bA_sl (a := 0) (j := 28) bkX9_readBid_0 rfl)
theorem dX9_readBid_29 : DR cX9_readBid 29 (.iadd) 1 := dk_96 (bA_sl (a := 0) (j := 29) bkX9_readBid_0 rfl)
theorem dX9_readBid_30 : DR cX9_readBid 30 (.iload_n 2) 1 := dk_28 (bA_sl (a := 0) (j := 30) bkX9_readBid_0 rfl)
theorem dX9_readBid_31 : DR cX9_readBid 31 (.iastore) 1 := dk_79 (bA_sl (a := 0) (j := 31) bkX9_readBid_0 rfl)
theorem dX9_readBid_32 : DR cX9_readBid 32 (.return_) 1 := dk_177 (bA_sl (a := 0) (j := 32) bkX9_readBid_0 rfl)
theorem bkX9_readLine_0 : ((cX9_readLine.data.toList.drop 0).take 64).map UInt8.toNat = [42, 3, 182, 0, 118, 153, 0, 10, 42, 182, 0, 143, 167, 0, 124, 42, 7, 182, 0, 132, 153, 0, 10, 42, 182, 0, 146, 167, 0, 109, 42, 16, 9, 182, 0, 132, 153, 0, 21, 42, 180, 0, 24, 16, 6, 42, 3, 17, 3, 231, 182, 0, 135, 79, 167, 0, 82, 42, 16, 10, 182, 0, 132, 153] := by decide +kernel
theorem dX9_readLine_0 : DR cX9_readLine 0 (.aload_n 0) 1 := dk_42 (bA_sl (a := 0) (j := 0) bkX9_readLine_0 rfl)
theorem dX9_readLine_1 : DR cX9_readLine 1 (.iconst 0) 1 := dk_3 (bA_sl (a := 0) (j := 1) bkX9_readLine_0 rfl)
theorem dX9_readLine_2 : DR cX9_readLine 2 (.invokevirtual 118) 3 := dk_182 (bA_sl (a := 0) (j := 2) bkX9_readLine_0 rfl) (bA_sl (a := 0) (j := 3) bkX9_readLine_0 rfl) (bA_sl (a := 0) (j := 4) bkX9_readLine_0 rfl) (by decide) rfl
theorem dX9_readLine_5 : DR cX9_readLine 5 (.ifCond .eq 10) 3 := dk_153 (bA_sl (a := 0) (j := 5) bkX9_readLine_0 rfl) (bA_sl (a := 0) (j := 6) bkX9_readLine_0 rfl) (bA_sl (a := 0) (j := 7) bkX9_readLine_0 rfl) (by decide) (by decide)
theorem dX9_readLine_8 : DR cX9_readLine 8 (.aload_n 0) 1 := dk_42 (bA_sl (a := 0) (j := 8) bkX9_readLine_0 rfl)
theorem dX9_readLine_9 : DR cX9_readLine 9 (.invokevirtual 143) 3 := dk_182 (bA_sl (a := 0) (j := 9) bkX9_readLine_0 rfl) (bA_sl (a := 0) (j := 10) bkX9_readLine_0 rfl) (bA_sl (a := 0) (j := 11) bkX9_readLine_0 rfl) (by decide) rfl
theorem dX9_readLine_12 : DR cX9_readLine 12 (.goto 124) 3 := dk_167 (bA_sl (a := 0) (j := 12) bkX9_readLine_0 rfl) (bA_sl (a := 0) (j := 13) bkX9_readLine_0 rfl) (bA_sl (a := 0) (j := 14) bkX9_readLine_0 rfl) (by decide) (by decide)
theorem dX9_readLine_15 : DR cX9_readLine 15 (.aload_n 0) 1 := dk_42 (bA_sl (a := 0) (j := 15) bkX9_readLine_0 rfl)
theorem dX9_readLine_16 : DR cX9_readLine 16 (.iconst 4) 1 := dk_7 (bA_sl (a := 0) (j := 16) bkX9_readLine_0 rfl)
theorem dX9_readLine_17 : DR cX9_readLine 17 (.invokevirtual 132) 3 := dk_182 (bA_sl (a := 0) (j := 17) bkX9_readLine_0 rfl) (bA_sl (a := 0) (j := 18) bkX9_readLine_0 rfl) (bA_sl (a := 0) (j := 19) bkX9_readLine_0 rfl) (by decide) rfl
theorem dX9_readLine_20 : DR cX9_readLine 20 (.ifCond .eq 10) 3 := dk_153 (bA_sl (a := 0) (j := 20) bkX9_readLine_0 rfl) (bA_sl (a := 0) (j := 21) bkX9_readLine_0 rfl) (bA_sl (a := 0) (j := 22) bkX9_readLine_0 rfl) (by decide) (by decide)
theorem dX9_readLine_23 : DR cX9_readLine 23 (.aload_n 0) 1 := dk_42 (bA_sl (a := 0) (j := 23) bkX9_readLine_0 rfl)
theorem dX9_readLine_24 : DR cX9_readLine 24 (.invokevirtual 146) 3 := dk_182 (bA_sl (a := 0) (j := 24) bkX9_readLine_0 rfl) (bA_sl (a := 0) (j := 25) bkX9_readLine_0 rfl) (bA_sl (a := 0) (j := 26) bkX9_readLine_0 rfl) (by decide) rfl
theorem dX9_readLine_27 : DR cX9_readLine 27 (.goto 109) 3 := dk_167 (bA_sl (a := 0) (j := 27) bkX9_readLine_0 rfl) (bA_sl (a := 0) (j := 28) bkX9_readLine_0 rfl) (bA_sl (a := 0) (j := 29) bkX9_readLine_0 rfl) (by decide) (by decide)
theorem dX9_readLine_30 : DR cX9_readLine 30 (.aload_n 0) 1 := dk_42 (bA_sl (a := 0) (j := 30) bkX9_readLine_0 rfl)
theorem dX9_readLine_31 : DR cX9_readLine 31 (.bipush 9) 2 := dk_16 (bA_sl (a := 0) (j := 31) bkX9_readLine_0 rfl) (bA_sl (a := 0) (j := 32) bkX9_readLine_0 rfl) (by decide) (by decide)
theorem dX9_readLine_33 : DR cX9_readLine 33 (.invokevirtual 132) 3 := dk_182 (bA_sl (a := 0) (j := 33) bkX9_readLine_0 rfl) (bA_sl (a := 0) (j := 34) bkX9_readLine_0 rfl) (bA_sl (a := 0) (j := 35) bkX9_readLine_0 rfl) (by decide) rfl
theorem dX9_readLine_36 : DR cX9_readLine 36 (.ifCond .eq 21) 3 := dk_153 (bA_sl (a := 0) (j := 36) bkX9_readLine_0 rfl) (bA_sl (a := 0) (j := 37) bkX9_readLine_0 rfl) (bA_sl (a := 0) (j := 38) bkX9_readLine_0 rfl) (by decide) (by decide)
theorem dX9_readLine_39 : DR cX9_readLine 39 (.aload_n 0) 1 := dk_42 (bA_sl (a := 0) (j := 39) bkX9_readLine_0 rfl)
theorem dX9_readLine_40 : DR cX9_readLine 40 (.getfield 24) 3 := dk_180 (bA_sl (a := 0) (j := 40) bkX9_readLine_0 rfl) (bA_sl (a := 0) (j := 41) bkX9_readLine_0 rfl) (bA_sl (a := 0) (j := 42) bkX9_readLine_0 rfl) (by decide) rfl
theorem dX9_readLine_43 : DR cX9_readLine 43 (.bipush 6) 2 := dk_16 (bA_sl (a := 0) (j := 43) bkX9_readLine_0 rfl) (bA_sl (a := 0) (j := 44) bkX9_readLine_0 rfl) (by decide) (by decide)
theorem dX9_readLine_45 : DR cX9_readLine 45 (.aload_n 0) 1 := dk_42 (bA_sl (a := 0) (j := 45) bkX9_readLine_0 rfl)
theorem dX9_readLine_46 : DR cX9_readLine 46 (.iconst 0) 1 := dk_3 (bA_sl (a := 0) (j := 46) bkX9_readLine_0 rfl)
theorem dX9_readLine_47 : DR cX9_readLine 47 (.sipush 999) 3 := dk_17 (bA_sl (a := 0) (j := 47) bkX9_readLine_0 rfl) (bA_sl (a := 0) (j := 48) bkX9_readLine_0 rfl) (bA_sl (a := 0) (j := 49) bkX9_readLine_0 rfl) (by decide) (by decide)
theorem dX9_readLine_50 : DR cX9_readLine 50 (.invokevirtual 135) 3 := dk_182 (bA_sl (a := 0) (j := 50) bkX9_readLine_0 rfl) (bA_sl (a := 0) (j := 51) bkX9_readLine_0 rfl) (bA_sl (a := 0) (j := 52) bkX9_readLine_0 rfl) (by decide) rfl
theorem dX9_readLine_53 : DR cX9_readLine 53 (.iastore) 1 := dk_79 (bA_sl (a := 0) (j := 53) bkX9_readLine_0 rfl)
theorem dX9_readLine_54 : DR cX9_readLine 54 (.goto 82) 3 := dk_167 (bA_sl (a := 0) (j := 54) bkX9_readLine_0 rfl) (bA_sl (a := 0) (j := 55) bkX9_readLine_0 rfl) (bA_sl (a := 0) (j := 56) bkX9_readLine_0 rfl) (by decide) (by decide)
theorem dX9_readLine_57 : DR cX9_readLine 57 (.aload_n 0) 1 := dk_42 (bA_sl (a := 0) (j := 57) bkX9_readLine_0 rfl)
theorem dX9_readLine_58 : DR cX9_readLine 58 (.bipush 10) 2 := dk_16 (bA_sl (a := 0) (j := 58) bkX9_readLine_0 rfl) (bA_sl (a := 0) (j := 59) bkX9_readLine_0 rfl) (by decide) (by decide)
theorem dX9_readLine_60 : DR cX9_readLine 60 (.invokevirtual 132) 3 := dk_182 (bA_sl (a := 0) (j := 60) bkX9_readLine_0 rfl) (bA_sl (a := 0) (j := 61) bkX9_readLine_0 rfl) (bA_sl (a := 0) (j := 62) bkX9_readLine_0 rfl) (by decide) rfl
theorem bkX9_readLine_1 : ((cX9_readLine.data.toList.drop 64).take 64).map UInt8.toNat = [0, 10, 42, 182, 0, 149, 167, 0, 66, 42, 16, 11, 182, 0, 132, 153, 0, 20, 42, 180, 0, 24, 16, 7, 42, 3, 16, 100, 182, 0, 135, 79, 167, 0, 40, 42, 16, 12, 182, 0, 132, 153, 0, 26, 42, 180, 0, 24, 16, 8, 42, 3, 42, 180, 0, 24, 3, 46, 4, 100, 182, 0, 135, 79] := by decide +kernel
theorem dX9_readLine_63 : DR cX9_readLine 63 (.ifCond .eq 10) 3 := dk_153 (bA_sl (a := 0) (j := 63) bkX9_readLine_0 rfl) (bA_sl (a := 64) (j := 0) bkX9_readLine_1 rfl) (bA_sl (a := 64) (j := 1) bkX9_readLine_1 rfl) (by decide) (by decide)
theorem dX9_readLine_66 : DR cX9_readLine 66 (.aload_n 0) 1 := dk_42 (bA_sl (a := 64) (j := 2) bkX9_readLine_1 rfl)
theorem dX9_readLine_67 : DR cX9_readLine 67 (.invokevirtual 149) 3 := dk_182 (bA_sl (a := 64) (j := 3) bkX9_readLine_1 rfl) (bA_sl (a := 64) (j := 4) bkX9_readLine_1 rfl) (bA_sl (a := 64) (j := 5) bkX9_readLine_1 rfl) (by decide) rfl
theorem dX9_readLine_70 : DR cX9_readLine 70 (.goto 66) 3 := dk_167 (bA_sl (a := 64) (j := 6) bkX9_readLine_1 rfl) (bA_sl (a := 64) (j := 7) bkX9_readLine_1 rfl) (bA_sl (a := 64) (j := 8) bkX9_readLine_1 rfl) (by decide) (by decide)
theorem dX9_readLine_73 : DR cX9_readLine 73 (.aload_n 0) 1 := dk_42 (bA_sl (a := 64) (j := 9) bkX9_readLine_1 rfl)
theorem dX9_readLine_74 : DR cX9_readLine 74 (.bipush 11) 2 := dk_16 (bA_sl (a := 64) (j := 10) bkX9_readLine_1 rfl) (bA_sl (a := 64) (j := 11) bkX9_readLine_1 rfl) (by decide) (by decide)
theorem dX9_readLine_76 : DR cX9_readLine 76 (.invokevirtual 132) 3 := dk_182 (bA_sl (a := 64) (j := 12) bkX9_readLine_1 rfl) (bA_sl (a := 64) (j := 13) bkX9_readLine_1 rfl) (bA_sl (a := 64) (j := 14) bkX9_readLine_1 rfl) (by decide) rfl
theorem dX9_readLine_79 : DR cX9_readLine 79 (.ifCond .eq 20) 3 := dk_153 (bA_sl (a := 64) (j := 15) bkX9_readLine_1 rfl) (bA_sl (a := 64) (j := 16) bkX9_readLine_1 rfl) (bA_sl (a := 64) (j := 17) bkX9_readLine_1 rfl) (by decide) (by decide)
theorem dX9_readLine_82 : DR cX9_readLine 82 (.aload_n 0) 1 := dk_42 (bA_sl (a := 64) (j := 18) bkX9_readLine_1 rfl)
theorem dX9_readLine_83 : DR cX9_readLine 83 (.getfield 24) 3 := dk_180 (bA_sl (a := 64) (j := 19) bkX9_readLine_1 rfl) (bA_sl (a := 64) (j := 20) bkX9_readLine_1 rfl) (bA_sl (a := 64) (j := 21) bkX9_readLine_1 rfl) (by decide) rfl
theorem dX9_readLine_86 : DR cX9_readLine 86 (.bipush 7) 2 := dk_16 (bA_sl (a := 64) (j := 22) bkX9_readLine_1 rfl) (bA_sl (a := 64) (j := 23) bkX9_readLine_1 rfl) (by decide) (by decide)
theorem dX9_readLine_88 : DR cX9_readLine 88 (.aload_n 0) 1 := dk_42 (bA_sl (a := 64) (j := 24) bkX9_readLine_1 rfl)
theorem dX9_readLine_89 : DR cX9_readLine 89 (.iconst 0) 1 := dk_3 (bA_sl (a := 64) (j := 25) bkX9_readLine_1 rfl)
theorem dX9_readLine_90 : DR cX9_readLine 90 (.bipush 100) 2 := dk_16 (bA_sl (a := 64) (j := 26) bkX9_readLine_1 rfl) (bA_sl (a := 64) (j := 27) bkX9_readLine_1 rfl) (by decide) (by decide)
theorem dX9_readLine_92 : DR cX9_readLine 92 (.invokevirtual 135) 3 := dk_182 (bA_sl (a := 64) (j := 28) bkX9_readLine_1 rfl) (bA_sl (a := 64) (j := 29) bkX9_readLine_1 rfl) (bA_sl (a := 64) (j := 30) bkX9_readLine_1 rfl) (by decide) rfl
theorem dX9_readLine_95 : DR cX9_readLine 95 (.iastore) 1 := dk_79 (bA_sl (a := 64) (j := 31) bkX9_readLine_1 rfl)
theorem dX9_readLine_96 : DR cX9_readLine 96 (.goto 40) 3 := dk_167 (bA_sl (a := 64) (j := 32) bkX9_readLine_1 rfl) (bA_sl (a := 64) (j := 33) bkX9_readLine_1 rfl) (bA_sl (a := 64) (j := 34) bkX9_readLine_1 rfl) (by decide) (by decide)
theorem dX9_readLine_99 : DR cX9_readLine 99 (.aload_n 0) 1 := dk_42 (bA_sl (a := 64) (j := 35) bkX9_readLine_1 rfl)
theorem dX9_readLine_100 : DR cX9_readLine 100 (.bipush 12) 2 := dk_16 (bA_sl (a := 64) (j := 36) bkX9_readLine_1 rfl) (bA_sl (a := 64) (j := 37) bkX9_readLine_1 rfl) (by decide) (by decide)
theorem dX9_readLine_102 : DR cX9_readLine 102 (.invokevirtual 132) 3 := dk_182 (bA_sl (a := 64) (j := 38) bkX9_readLine_1 rfl) (bA_sl (a := 64) (j := 39) bkX9_readLine_1 rfl) (bA_sl (a := 64) (j := 40) bkX9_readLine_1 rfl) (by decide) rfl
theorem dX9_readLine_105 : DR cX9_readLine 105 (.ifCond .eq 26) 3 := dk_153 (bA_sl (a := 64) (j := 41) bkX9_readLine_1 rfl) (bA_sl (a := 64) (j := 42) bkX9_readLine_1 rfl) (bA_sl (a := 64) (j := 43) bkX9_readLine_1 rfl) (by decide) (by decide)
theorem dX9_readLine_108 : DR cX9_readLine 108 (.aload_n 0) 1 := dk_42 (bA_sl (a := 64) (j := 44) bkX9_readLine_1 rfl)
theorem dX9_readLine_109 : DR cX9_readLine 109 (.getfield 24) 3 := dk_180 (bA_sl (a := 64) (j := 45) bkX9_readLine_1 rfl) (bA_sl (a := 64) (j := 46) bkX9_readLine_1 rfl) (bA_sl (a := 64) (j := 47) bkX9_readLine_1 rfl) (by decide) rfl
theorem dX9_readLine_112 : DR cX9_readLine 112 (.bipush 8) 2 := dk_16 (bA_sl (a := 64) (j := 48) bkX9_readLine_1 rfl) (bA_sl (a := 64) (j := 49) bkX9_readLine_1 rfl) (by decide) (by decide)
theorem dX9_readLine_114 : DR cX9_readLine 114 (.aload_n 0) 1 := dk_42 (bA_sl (a := 64) (j := 50) bkX9_readLine_1 rfl)
theorem dX9_readLine_115 : DR cX9_readLine 115 (.iconst 0) 1 := dk_3 (bA_sl (a := 64) (j := 51) bkX9_readLine_1 rfl)
theorem dX9_readLine_116 : DR cX9_readLine 116 (.aload_n 0) 1 := dk_42 (bA_sl (a := 64) (j := 52) bkX9_readLine_1 rfl)
theorem dX9_readLine_117 : DR cX9_readLine 117 (.getfield 24) 3 := dk_180 (bA_sl (a := 64) (j := 53) bkX9_readLine_1 rfl) (bA_sl (a := 64) (j := 54) bkX9_readLine_1 rfl) (bA_sl (a := 64) (j := 55) bkX9_readLine_1 rfl) (by decide) rfl
theorem dX9_readLine_120 : DR cX9_readLine 120 (.iconst 0) 1 := dk_3 (bA_sl (a := 64) (j := 56) bkX9_readLine_1 rfl)
theorem dX9_readLine_121 : DR cX9_readLine 121 (.iaload) 1 := dk_46 (bA_sl (a := 64) (j := 57) bkX9_readLine_1 rfl)
theorem dX9_readLine_122 : DR cX9_readLine 122 (.iconst 1) 1 := dk_4 (bA_sl (a := 64) (j := 58) bkX9_readLine_1 rfl)
theorem dX9_readLine_123 : DR cX9_readLine 123 (.isub) 1 := dk_100 (bA_sl (a := 64) (j := 59) bkX9_readLine_1 rfl)
theorem dX9_readLine_124 : DR cX9_readLine 124 (.invokevirtual 135) 3 := dk_182 (bA_sl (a := 64) (j := 60) bkX9_readLine_1 rfl) (bA_sl (a := 64) (j := 61) bkX9_readLine_1 rfl) (bA_sl (a := 64) (j := 62) bkX9_readLine_1 rfl) (by decide) rfl
theorem dX9_readLine_127 : DR cX9_readLine 127 (.iastore) 1 := dk_79 (bA_sl (a := 64) (j := 63) bkX9_readLine_1 rfl)
theorem bkX9_readLine_2 : ((cX9_readLine.data.toList.drop 128).take 64).map UInt8.toNat = [167, 0, 8, 42, 5, 182, 0, 124, 42, 16, 15, 182, 0, 132, 154, 0, 8, 42, 5, 182, 0, 124, 42, 180, 0, 24, 16, 9, 92, 46, 4, 96, 79, 177] := by decide +kernel
theorem dX9_readLine_128 : DR cX9_readLine 128 (.goto 8) 3 := dk_167 (bA_sl (a := 128) (j := 0) bkX9_readLine_2 rfl) (bA_sl (a := 128) (j := 1) bkX9_readLine_2 rfl) (bA_sl (a := 128) (j := 2) bkX9_readLine_2 rfl) (by decide) (by decide)
theorem dX9_readLine_131 : DR cX9_readLine 131 (.aload_n 0) 1 := dk_42 (bA_sl (a := 128) (j := 3) bkX9_readLine_2 rfl)
theorem dX9_readLine_132 : DR cX9_readLine 132 (.iconst 2) 1 := dk_5 (bA_sl (a := 128) (j := 4) bkX9_readLine_2 rfl)
theorem dX9_readLine_133 : DR cX9_readLine 133 (.invokevirtual 124) 3 := dk_182 (bA_sl (a := 128) (j := 5) bkX9_readLine_2 rfl) (bA_sl (a := 128) (j := 6) bkX9_readLine_2 rfl) (bA_sl (a := 128) (j := 7) bkX9_readLine_2 rfl) (by decide) rfl
theorem dX9_readLine_136 : DR cX9_readLine 136 (.aload_n 0) 1 := dk_42 (bA_sl (a := 128) (j := 8) bkX9_readLine_2 rfl)
theorem dX9_readLine_137 : DR cX9_readLine 137 (.bipush 15) 2 := dk_16 (bA_sl (a := 128) (j := 9) bkX9_readLine_2 rfl) (bA_sl (a := 128) (j := 10) bkX9_readLine_2 rfl) (by decide) (by decide)
theorem dX9_readLine_139 : DR cX9_readLine 139 (.invokevirtual 132) 3 := dk_182 (bA_sl (a := 128) (j := 11) bkX9_readLine_2 rfl) (bA_sl (a := 128) (j := 12) bkX9_readLine_2 rfl) (bA_sl (a := 128) (j := 13) bkX9_readLine_2 rfl) (by decide) rfl
theorem dX9_readLine_142 : DR cX9_readLine 142 (.ifCond .ne 8) 3 := dk_154 (bA_sl (a := 128) (j := 14) bkX9_readLine_2 rfl) (bA_sl (a := 128) (j := 15) bkX9_readLine_2 rfl) (bA_sl (a := 128) (j := 16) bkX9_readLine_2 rfl) (by decide) (by decide)
theorem dX9_readLine_145 : DR cX9_readLine 145 (.aload_n 0) 1 := dk_42 (bA_sl (a := 128) (j := 17) bkX9_readLine_2 rfl)
theorem dX9_readLine_146 : DR cX9_readLine 146 (.iconst 2) 1 := dk_5 (bA_sl (a := 128) (j := 18) bkX9_readLine_2 rfl)
theorem dX9_readLine_147 : DR cX9_readLine 147 (.invokevirtual 124) 3 := dk_182 (bA_sl (a := 128) (j := 19) bkX9_readLine_2 rfl) (bA_sl (a := 128) (j := 20) bkX9_readLine_2 rfl) (bA_sl (a := 128) (j := 21) bkX9_readLine_2 rfl) (by decide) rfl
theorem dX9_readLine_150 : DR cX9_readLine 150 (.aload_n 0) 1 := dk_42 (bA_sl (a := 128) (j := 22) bkX9_readLine_2 rfl)
theorem dX9_readLine_151 : DR cX9_readLine 151 (.getfield 24) 3 := dk_180 (bA_sl (a := 128) (j := 23) bkX9_readLine_2 rfl) (bA_sl (a := 128) (j := 24) bkX9_readLine_2 rfl) (bA_sl (a := 128) (j := 25) bkX9_readLine_2 rfl) (by decide) rfl
theorem dX9_readLine_154 : DR cX9_readLine 154 (.bipush 9) 2 := dk_16 (bA_sl (a := 128) (j := 26) bkX9_readLine_2 rfl) (bA_sl (a := 128) (j := 27) bkX9_readLine_2 rfl) (by decide) (by decide)
theorem dX9_readLine_156 : DR cX9_readLine 156 (.dup2) 1 := dk_92 (bA_sl (a := 128) (j := 28) bkX9_readLine_2 rfl)
theorem dX9_readLine_157 : DR cX9_readLine 157 (.iaload) 1 := dk_46 (bA_sl (a := 128) (j := 29) bkX9_readLine_2 rfl)
theorem dX9_readLine_158 : DR cX9_readLine 158 (.iconst 1) 1 := dk_4 (bA_sl (a := 128) (j := 30) bkX9_readLine_2 rfl)
theorem dX9_readLine_159 : DR cX9_readLine 159 (.iadd) 1 := dk_96 (bA_sl (a := 128) (j := 31) bkX9_readLine_2 rfl)
theorem dX9_readLine_160 : DR cX9_readLine 160 (.iastore) 1 := dk_79 (bA_sl (a := 128) (j := 32) bkX9_readLine_2 rfl)
theorem dX9_readLine_161 : DR cX9_readLine 161 (.return_) 1 := dk_177 (bA_sl (a := 128) (j := 33) bkX9_readLine_2 rfl)
theorem bkX9_plain_0 : ((cX9_plain.data.toList.drop 0).take 64).map UInt8.toNat = [42, 3, 181, 0, 1, 27, 133, 9, 42, 180, 0, 68, 133, 184, 0, 128, 154, 0, 6, 16, 253, 172, 42, 27, 181, 0, 71, 42, 3, 181, 0, 68, 42, 3, 181, 0, 89, 42, 3, 181, 0, 112, 42, 180, 0, 24, 184, 0, 61, 42, 182, 0, 121, 42, 180, 0, 112, 154, 0, 19, 42, 180, 0, 96] := by decide +kernel
theorem dX9_plain_0 : DR cX9_plain 0 (.aload_n 0) 1 := dk_42 (bA_sl (a := 0) (j := 0) bkX9_plain_0 rfl)
theorem dX9_plain_1 : DR cX9_plain 1 (.iconst 0) 1 := dk_3 (bA_sl (a := 0) (j := 1) bkX9_plain_0 rfl)
theorem dX9_plain_2 : DR cX9_plain 2 (.putfield 1) 3 := dk_181 (bA_sl (a := 0) (j := 2) bkX9_plain_0 rfl) (bA_sl (a := 0) (j := 3) bkX9_plain_0 rfl) (bA_sl (a := 0) (j := 4) bkX9_plain_0 rfl) (by decide) rfl
theorem dX9_plain_5 : DR cX9_plain 5 (.iload_n 1) 1 := dk_27 (bA_sl (a := 0) (j := 5) bkX9_plain_0 rfl)
theorem dX9_plain_6 : DR cX9_plain 6 (.i2l) 1 := dk_133 (bA_sl (a := 0) (j := 6) bkX9_plain_0 rfl)
theorem dX9_plain_7 : DR cX9_plain 7 (.lconst 0) 1 := dk_9 (bA_sl (a := 0) (j := 7) bkX9_plain_0 rfl)
theorem dX9_plain_8 : DR cX9_plain 8 (.aload_n 0) 1 := dk_42 (bA_sl (a := 0) (j := 8) bkX9_plain_0 rfl)
theorem dX9_plain_9 : DR cX9_plain 9 (.getfield 68) 3 := dk_180 (bA_sl (a := 0) (j := 9) bkX9_plain_0 rfl) (bA_sl (a := 0) (j := 10) bkX9_plain_0 rfl) (bA_sl (a := 0) (j := 11) bkX9_plain_0 rfl) (by decide) rfl
theorem dX9_plain_12 : DR cX9_plain 12 (.i2l) 1 := dk_133 (bA_sl (a := 0) (j := 12) bkX9_plain_0 rfl)
theorem dX9_plain_13 : DR cX9_plain 13 (.invokestatic 128) 3 := dk_184 (bA_sl (a := 0) (j := 13) bkX9_plain_0 rfl) (bA_sl (a := 0) (j := 14) bkX9_plain_0 rfl) (bA_sl (a := 0) (j := 15) bkX9_plain_0 rfl) (by decide) rfl
theorem dX9_plain_16 : DR cX9_plain 16 (.ifCond .ne 6) 3 := dk_154 (bA_sl (a := 0) (j := 16) bkX9_plain_0 rfl) (bA_sl (a := 0) (j := 17) bkX9_plain_0 rfl) (bA_sl (a := 0) (j := 18) bkX9_plain_0 rfl) (by decide) (by decide)
theorem dX9_plain_19 : DR cX9_plain 19 (.bipush (-3)) 2 := dk_16 (bA_sl (a := 0) (j := 19) bkX9_plain_0 rfl) (bA_sl (a := 0) (j := 20) bkX9_plain_0 rfl) (by decide) (by decide)
theorem dX9_plain_21 : DR cX9_plain 21 (.ireturn) 1 := dk_172 (bA_sl (a := 0) (j := 21) bkX9_plain_0 rfl)
theorem dX9_plain_22 : DR cX9_plain 22 (.aload_n 0) 1 := dk_42 (bA_sl (a := 0) (j := 22) bkX9_plain_0 rfl)
theorem dX9_plain_23 : DR cX9_plain 23 (.iload_n 1) 1 := dk_27 (bA_sl (a := 0) (j := 23) bkX9_plain_0 rfl)
theorem dX9_plain_24 : DR cX9_plain 24 (.putfield 71) 3 := dk_181 (bA_sl (a := 0) (j := 24) bkX9_plain_0 rfl) (bA_sl (a := 0) (j := 25) bkX9_plain_0 rfl) (bA_sl (a := 0) (j := 26) bkX9_plain_0 rfl) (by decide) rfl
theorem dX9_plain_27 : DR cX9_plain 27 (.aload_n 0) 1 := dk_42 (bA_sl (a := 0) (j := 27) bkX9_plain_0 rfl)
theorem dX9_plain_28 : DR cX9_plain 28 (.iconst 0) 1 := dk_3 (bA_sl (a := 0) (j := 28) bkX9_plain_0 rfl)
theorem dX9_plain_29 : DR cX9_plain 29 (.putfield 68) 3 := dk_181 (bA_sl (a := 0) (j := 29) bkX9_plain_0 rfl) (bA_sl (a := 0) (j := 30) bkX9_plain_0 rfl) (bA_sl (a := 0) (j := 31) bkX9_plain_0 rfl) (by decide) rfl
theorem dX9_plain_32 : DR cX9_plain 32 (.aload_n 0) 1 := dk_42 (bA_sl (a := 0) (j := 32) bkX9_plain_0 rfl)
theorem dX9_plain_33 : DR cX9_plain 33 (.iconst 0) 1 := dk_3 (bA_sl (a := 0) (j := 33) bkX9_plain_0 rfl)
theorem dX9_plain_34 : DR cX9_plain 34 (.putfield 89) 3 := dk_181 (bA_sl (a := 0) (j := 34) bkX9_plain_0 rfl) (bA_sl (a := 0) (j := 35) bkX9_plain_0 rfl) (bA_sl (a := 0) (j := 36) bkX9_plain_0 rfl) (by decide) rfl
theorem dX9_plain_37 : DR cX9_plain 37 (.aload_n 0) 1 := dk_42 (bA_sl (a := 0) (j := 37) bkX9_plain_0 rfl)
theorem dX9_plain_38 : DR cX9_plain 38 (.iconst 0) 1 := dk_3 (bA_sl (a := 0) (j := 38) bkX9_plain_0 rfl)
theorem dX9_plain_39 : DR cX9_plain 39 (.putfield 112) 3 := dk_181 (bA_sl (a := 0) (j := 39) bkX9_plain_0 rfl) (bA_sl (a := 0) (j := 40) bkX9_plain_0 rfl) (bA_sl (a := 0) (j := 41) bkX9_plain_0 rfl) (by decide) rfl
theorem dX9_plain_42 : DR cX9_plain 42 (.aload_n 0) 1 := dk_42 (bA_sl (a := 0) (j := 42) bkX9_plain_0 rfl)
theorem dX9_plain_43 : DR cX9_plain 43 (.getfield 24) 3 := dk_180 (bA_sl (a := 0) (j := 43) bkX9_plain_0 rfl) (bA_sl (a := 0) (j := 44) bkX9_plain_0 rfl) (bA_sl (a := 0) (j := 45) bkX9_plain_0 rfl) (by decide) rfl
theorem dX9_plain_46 : DR cX9_plain 46 (.invokestatic 61) 3 := dk_184 (bA_sl (a := 0) (j := 46) bkX9_plain_0 rfl) (bA_sl (a := 0) (j := 47) bkX9_plain_0 rfl) (bA_sl (a := 0) (j := 48) bkX9_plain_0 rfl) (by decide) rfl
theorem dX9_plain_49 : DR cX9_plain 49 (.aload_n 0) 1 := dk_42 (bA_sl (a := 0) (j := 49) bkX9_plain_0 rfl)
theorem dX9_plain_50 : DR cX9_plain 50 (.invokevirtual 121) 3 := dk_182 (bA_sl (a := 0) (j := 50) bkX9_plain_0 rfl) (bA_sl (a := 0) (j := 51) bkX9_plain_0 rfl) (bA_sl (a := 0) (j := 52) bkX9_plain_0 rfl) (by decide) rfl
theorem dX9_plain_53 : DR cX9_plain 53 (.aload_n 0) 1 := dk_42 (bA_sl (a := 0) (j := 53) bkX9_plain_0 rfl)
theorem dX9_plain_54 : DR cX9_plain 54 (.getfield 112) 3 := dk_180 (bA_sl (a := 0) (j := 54) bkX9_plain_0 rfl) (bA_sl (a := 0) (j := 55) bkX9_plain_0 rfl) (bA_sl (a := 0) (j := 56) bkX9_plain_0 rfl) (by decide) rfl
theorem dX9_plain_57 : DR cX9_plain 57 (.ifCond .ne 19) 3 := dk_154 (bA_sl (a := 0) (j := 57) bkX9_plain_0 rfl) (bA_sl (a := 0) (j := 58) bkX9_plain_0 rfl) (bA_sl (a := 0) (j := 59) bkX9_plain_0 rfl) (by decide) (by decide)
theorem dX9_plain_60 : DR cX9_plain 60 (.aload_n 0) 1 := dk_42 (bA_sl (a := 0) (j := 60) bkX9_plain_0 rfl)
theorem dX9_plain_61 : DR cX9_plain 61 (.getfield 96) 3 := dk_180 (bA_sl (a := 0) (j := 61) bkX9_plain_0 rfl) (bA_sl (a := 0) (j := 62) bkX9_plain_0 rfl) (bA_sl (a := 0) (j := 63) bkX9_plain_0 rfl) (by decide) rfl
theorem bkX9_plain_1 : ((cX9_plain.data.toList.drop 64).take 64).map UInt8.toNat = [16, 16, 159, 0, 10, 42, 182, 0, 152, 167, 255, 236, 42, 42, 180, 0, 112, 181, 0, 155, 42, 42, 180, 0, 112, 154, 0, 7, 2, 167, 0, 7, 42, 180, 0, 115, 181, 0, 27, 42, 180, 0, 112, 153, 0, 11, 16, 226, 42, 180, 0, 112, 100, 172, 3, 61, 28, 16, 96, 162, 0, 21, 42, 180] := by decide +kernel
theorem dX9_plain_64 : DR cX9_plain 64 (.bipush 16) 2 := dk_16 (bA_sl (a := 64) (j := 0) bkX9_plain_1 rfl) (bA_sl (a := 64) (j := 1) bkX9_plain_1 rfl) (by decide) (by decide)
theorem dX9_plain_66 : DR cX9_plain 66 (.if_icmp .eq 10) 3 := dk_159 (bA_sl (a := 64) (j := 2) bkX9_plain_1 rfl) (bA_sl (a := 64) (j := 3) bkX9_plain_1 rfl) (bA_sl (a := 64) (j := 4) bkX9_plain_1 rfl) (by decide) (by decide)
theorem dX9_plain_69 : DR cX9_plain 69 (.aload_n 0) 1 := dk_42 (bA_sl (a := 64) (j := 5) bkX9_plain_1 rfl)
theorem dX9_plain_70 : DR cX9_plain 70 (.invokevirtual 152) 3 := dk_182 (bA_sl (a := 64) (j := 6) bkX9_plain_1 rfl) (bA_sl (a := 64) (j := 7) bkX9_plain_1 rfl) (bA_sl (a := 64) (j := 8) bkX9_plain_1 rfl) (by decide) rfl
theorem dX9_plain_73 : DR cX9_plain 73 (.goto (-20)) 3 := dk_167 (bA_sl (a := 64) (j := 9) bkX9_plain_1 rfl) (bA_sl (a := 64) (j := 10) bkX9_plain_1 rfl) (bA_sl (a := 64) (j := 11) bkX9_plain_1 rfl) (by decide) (by decide)
theorem dX9_plain_76 : DR cX9_plain 76 (.aload_n 0) 1 := dk_42 (bA_sl (a := 64) (j := 12) bkX9_plain_1 rfl)
theorem dX9_plain_77 : DR cX9_plain 77 (.aload_n 0) 1 := dk_42 (bA_sl (a := 64) (j := 13) bkX9_plain_1 rfl)
theorem dX9_plain_78 : DR cX9_plain 78 (.getfield 112) 3 := dk_180 (bA_sl (a := 64) (j := 14) bkX9_plain_1 rfl) (bA_sl (a := 64) (j := 15) bkX9_plain_1 rfl) (bA_sl (a := 64) (j := 16) bkX9_plain_1 rfl) (by decide) rfl
theorem dX9_plain_81 : DR cX9_plain 81 (.putfield 155) 3 := dk_181 (bA_sl (a := 64) (j := 17) bkX9_plain_1 rfl) (bA_sl (a := 64) (j := 18) bkX9_plain_1 rfl) (bA_sl (a := 64) (j := 19) bkX9_plain_1 rfl) (by decide) rfl
theorem dX9_plain_84 : DR cX9_plain 84 (.aload_n 0) 1 := dk_42 (bA_sl (a := 64) (j := 20) bkX9_plain_1 rfl)
theorem dX9_plain_85 : DR cX9_plain 85 (.aload_n 0) 1 := dk_42 (bA_sl (a := 64) (j := 21) bkX9_plain_1 rfl)
theorem dX9_plain_86 : DR cX9_plain 86 (.getfield 112) 3 := dk_180 (bA_sl (a := 64) (j := 22) bkX9_plain_1 rfl) (bA_sl (a := 64) (j := 23) bkX9_plain_1 rfl) (bA_sl (a := 64) (j := 24) bkX9_plain_1 rfl) (by decide) rfl
theorem dX9_plain_89 : DR cX9_plain 89 (.ifCond .ne 7) 3 := dk_154 (bA_sl (a := 64) (j := 25) bkX9_plain_1 rfl) (bA_sl (a := 64) (j := 26) bkX9_plain_1 rfl) (bA_sl (a := 64) (j := 27) bkX9_plain_1 rfl) (by decide) (by decide)
theorem dX9_plain_92 : DR cX9_plain 92 (.iconst (-1)) 1 := dk_2 (bA_sl (a := 64) (j := 28) bkX9_plain_1 rfl)
theorem dX9_plain_93 : DR cX9_plain 93 (.goto 7) 3 := dk_167 (bA_sl (a := 64) (j := 29) bkX9_plain_1 rfl) (bA_sl (a := 64) (j := 30) bkX9_plain_1 rfl) (bA_sl (a := 64) (j := 31) bkX9_plain_1 rfl) (by decide) (by decide)
theorem dX9_plain_96 : DR cX9_plain 96 (.aload_n 0) 1 := dk_42 (bA_sl (a := 64) (j := 32) bkX9_plain_1 rfl)
theorem dX9_plain_97 : DR cX9_plain 97 (.getfield 115) 3 := dk_180 (bA_sl (a := 64) (j := 33) bkX9_plain_1 rfl) (bA_sl (a := 64) (j := 34) bkX9_plain_1 rfl) (bA_sl (a := 64) (j := 35) bkX9_plain_1 rfl) (by decide) rfl
theorem dX9_plain_100 : DR cX9_plain 100 (.putfield 27) 3 := dk_181 (bA_sl (a := 64) (j := 36) bkX9_plain_1 rfl) (bA_sl (a := 64) (j := 37) bkX9_plain_1 rfl) (bA_sl (a := 64) (j := 38) bkX9_plain_1 rfl) (by decide) rfl
theorem dX9_plain_103 : DR cX9_plain 103 (.aload_n 0) 1 := dk_42 (bA_sl (a := 64) (j := 39) bkX9_plain_1 rfl)
theorem dX9_plain_104 : DR cX9_plain 104 (.getfield 112) 3 := dk_180 (bA_sl (a := 64) (j := 40) bkX9_plain_1 rfl) (bA_sl (a := 64) (j := 41) bkX9_plain_1 rfl) (bA_sl (a := 64) (j := 42) bkX9_plain_1 rfl) (by decide) rfl
theorem dX9_plain_107 : DR cX9_plain 107 (.ifCond .eq 11) 3 := dk_153 (bA_sl (a := 64) (j := 43) bkX9_plain_1 rfl) (bA_sl (a := 64) (j := 44) bkX9_plain_1 rfl) (bA_sl (a := 64) (j := 45) bkX9_plain_1 rfl) (by decide) (by decide)
theorem dX9_plain_110 : DR cX9_plain 110 (.bipush (-30)) 2 := dk_16 (bA_sl (a := 64) (j := 46) bkX9_plain_1 rfl) (bA_sl (a := 64) (j := 47) bkX9_plain_1 rfl) (by decide) (by decide)
theorem dX9_plain_112 : DR cX9_plain 112 (.aload_n 0) 1 := dk_42 (bA_sl (a := 64) (j := 48) bkX9_plain_1 rfl)
theorem dX9_plain_113 : DR cX9_plain 113 (.getfield 112) 3 := dk_180 (bA_sl (a := 64) (j := 49) bkX9_plain_1 rfl) (bA_sl (a := 64) (j := 50) bkX9_plain_1 rfl) (bA_sl (a := 64) (j := 51) bkX9_plain_1 rfl) (by decide) rfl
theorem dX9_plain_116 : DR cX9_plain 116 (.isub) 1 := dk_100 (bA_sl (a := 64) (j := 52) bkX9_plain_1 rfl)
theorem dX9_plain_117 : DR cX9_plain 117 (.ireturn) 1 := dk_172 (bA_sl (a := 64) (j := 53) bkX9_plain_1 rfl)
theorem dX9_plain_118 : DR cX9_plain 118 (.iconst 0) 1 := dk_3 (bA_sl (a := 64) (j := 54) bkX9_plain_1 rfl)
theorem dX9_plain_119 : DR cX9_plain 119 (.istore_n 2) 1 := dk_61 (bA_sl (a := 64) (j := 55) bkX9_plain_1 rfl)
theorem dX9_plain_120 : DR cX9_plain 120 (.iload_n 2) 1 := dk_28 (bA_sl (a := 64) (j := 56) bkX9_plain_1 rfl)
theorem dX9_plain_121 : DR cX9_plain 121 (.bipush 96) 2 := dk_16 (bA_sl (a := 64) (j := 57) bkX9_plain_1 rfl) (bA_sl (a := 64) (j := 58) bkX9_plain_1 rfl) (by decide) (by decide)
theorem dX9_plain_123 : DR cX9_plain 123 (.if_icmp .ge 21) 3 := dk_162 (bA_sl (a := 64) (j := 59) bkX9_plain_1 rfl) (bA_sl (a := 64) (j := 60) bkX9_plain_1 rfl) (bA_sl (a := 64) (j := 61) bkX9_plain_1 rfl) (by decide) (by decide)
theorem dX9_plain_126 : DR cX9_plain 126 (.aload_n 0) 1 := dk_42 (bA_sl (a := 64) (j := 62) bkX9_plain_1 rfl)
theorem bkX9_plain_2 : ((cX9_plain.data.toList.drop 128).take 64).map UInt8.toNat = [0, 13, 28, 42, 180, 0, 24, 28, 46, 79, 132, 2, 1, 167, 255, 235, 42, 180, 0, 13, 16, 9, 46, 172] := by decide +kernel
theorem dX9_plain_127 : DR cX9_plain 127 (.getfield 13) 3 := dk_180 (bA_sl (a := 64) (j := 63) bkX9_plain_1 rfl) (bA_sl (a := 128) (j := 0) bkX9_plain_2 rfl) (bA_sl (a := 128) (j := 1) bkX9_plain_2 rfl) (by decide) rfl
theorem dX9_plain_130 : DR cX9_plain 130 (.iload_n 2) 1 := dk_28 (bA_sl (a := 128) (j := 2) bkX9_plain_2 rfl)
theorem dX9_plain_131 : DR cX9_plain 131 (.aload_n 0) 1 := dk_42 (bA_sl (a := 128) (j := 3) bkX9_plain_2 rfl)
theorem dX9_plain_132 : DR cX9_plain 132 (.getfield 24) 3 := dk_180 (bA_sl (a := 128) (j := 4) bkX9_plain_2 rfl) (bA_sl (a := 128) (j := 5) bkX9_plain_2 rfl) (bA_sl (a := 128) (j := 6) bkX9_plain_2 rfl) (by decide) rfl
theorem dX9_plain_135 : DR cX9_plain 135 (.iload_n 2) 1 := dk_28 (bA_sl (a := 128) (j := 7) bkX9_plain_2 rfl)
theorem dX9_plain_136 : DR cX9_plain 136 (.iaload) 1 := dk_46 (bA_sl (a := 128) (j := 8) bkX9_plain_2 rfl)
theorem dX9_plain_137 : DR cX9_plain 137 (.iastore) 1 := dk_79 (bA_sl (a := 128) (j := 9) bkX9_plain_2 rfl)
theorem dX9_plain_138 : DR cX9_plain 138 (.iinc 2 1) 3 := dk_132 (bA_sl (a := 128) (j := 10) bkX9_plain_2 rfl) (bA_sl (a := 128) (j := 11) bkX9_plain_2 rfl) (bA_sl (a := 128) (j := 12) bkX9_plain_2 rfl) (by decide) (by decide)
theorem dX9_plain_141 : DR cX9_plain 141 (.goto (-21)) 3 := dk_167 (bA_sl (a := 128) (j := 13) bkX9_plain_2 rfl) (bA_sl (a := 128) (j := 14) bkX9_plain_2 rfl) (bA_sl (a := 128) (j := 15) bkX9_plain_2 rfl) (by decide) (by decide)
theorem dX9_plain_144 : DR cX9_plain 144 (.aload_n 0) 1 := dk_42 (bA_sl (a := 128) (j := 16) bkX9_plain_2 rfl)
theorem dX9_plain_145 : DR cX9_plain 145 (.getfield 13) 3 := dk_180 (bA_sl (a := 128) (j := 17) bkX9_plain_2 rfl) (bA_sl (a := 128) (j := 18) bkX9_plain_2 rfl) (bA_sl (a := 128) (j := 19) bkX9_plain_2 rfl) (by decide) rfl
theorem dX9_plain_148 : DR cX9_plain 148 (.bipush 9) 2 := dk_16 (bA_sl (a := 128) (j := 20) bkX9_plain_2 rfl) (bA_sl (a := 128) (j := 21) bkX9_plain_2 rfl) (by decide) (by decide)
theorem dX9_plain_150 : DR cX9_plain 150 (.iaload) 1 := dk_46 (bA_sl (a := 128) (j := 22) bkX9_plain_2 rfl)
theorem dX9_plain_151 : DR cX9_plain 151 (.ireturn) 1 := dk_172 (bA_sl (a := 128) (j := 23) bkX9_plain_2 rfl)
theorem bkX9_fault_0 : ((cX9_fault.data.toList.drop 0).take 64).map UInt8.toNat = [42, 3, 181, 0, 1, 27, 154, 0, 10, 42, 180, 0, 155, 167, 0, 16, 27, 4, 160, 0, 10, 42, 180, 0, 27, 167, 0, 4, 2, 172] := by decide +kernel
theorem dX9_fault_0 : DR cX9_fault 0 (.aload_n 0) 1 := dk_42 (bA_sl (a := 0) (j := 0) bkX9_fault_0 rfl)
theorem dX9_fault_1 : DR cX9_fault 1 (.iconst 0) 1 := dk_3 (bA_sl (a := 0) (j := 1) bkX9_fault_0 rfl)
theorem dX9_fault_2 : DR cX9_fault 2 (.putfield 1) 3 := dk_181 (bA_sl (a := 0) (j := 2) bkX9_fault_0 rfl) (bA_sl (a := 0) (j := 3) bkX9_fault_0 rfl) (bA_sl (a := 0) (j := 4) bkX9_fault_0 rfl) (by decide) rfl
theorem dX9_fault_5 : DR cX9_fault 5 (.iload_n 1) 1 := dk_27 (bA_sl (a := 0) (j := 5) bkX9_fault_0 rfl)
theorem dX9_fault_6 : DR cX9_fault 6 (.ifCond .ne 10) 3 := dk_154 (bA_sl (a := 0) (j := 6) bkX9_fault_0 rfl) (bA_sl (a := 0) (j := 7) bkX9_fault_0 rfl) (bA_sl (a := 0) (j := 8) bkX9_fault_0 rfl) (by decide) (by decide)
theorem dX9_fault_9 : DR cX9_fault 9 (.aload_n 0) 1 := dk_42 (bA_sl (a := 0) (j := 9) bkX9_fault_0 rfl)
theorem dX9_fault_10 : DR cX9_fault 10 (.getfield 155) 3 := dk_180 (bA_sl (a := 0) (j := 10) bkX9_fault_0 rfl) (bA_sl (a := 0) (j := 11) bkX9_fault_0 rfl) (bA_sl (a := 0) (j := 12) bkX9_fault_0 rfl) (by decide) rfl
theorem dX9_fault_13 : DR cX9_fault 13 (.goto 16) 3 := dk_167 (bA_sl (a := 0) (j := 13) bkX9_fault_0 rfl) (bA_sl (a := 0) (j := 14) bkX9_fault_0 rfl) (bA_sl (a := 0) (j := 15) bkX9_fault_0 rfl) (by decide) (by decide)
theorem dX9_fault_16 : DR cX9_fault 16 (.iload_n 1) 1 := dk_27 (bA_sl (a := 0) (j := 16) bkX9_fault_0 rfl)
theorem dX9_fault_17 : DR cX9_fault 17 (.iconst 1) 1 := dk_4 (bA_sl (a := 0) (j := 17) bkX9_fault_0 rfl)
theorem dX9_fault_18 : DR cX9_fault 18 (.if_icmp .ne 10) 3 := dk_160 (bA_sl (a := 0) (j := 18) bkX9_fault_0 rfl) (bA_sl (a := 0) (j := 19) bkX9_fault_0 rfl) (bA_sl (a := 0) (j := 20) bkX9_fault_0 rfl) (by decide) (by decide)
theorem dX9_fault_21 : DR cX9_fault 21 (.aload_n 0) 1 := dk_42 (bA_sl (a := 0) (j := 21) bkX9_fault_0 rfl)
theorem dX9_fault_22 : DR cX9_fault 22 (.getfield 27) 3 := dk_180 (bA_sl (a := 0) (j := 22) bkX9_fault_0 rfl) (bA_sl (a := 0) (j := 23) bkX9_fault_0 rfl) (bA_sl (a := 0) (j := 24) bkX9_fault_0 rfl) (by decide) rfl
theorem dX9_fault_25 : DR cX9_fault 25 (.goto 4) 3 := dk_167 (bA_sl (a := 0) (j := 25) bkX9_fault_0 rfl) (bA_sl (a := 0) (j := 26) bkX9_fault_0 rfl) (bA_sl (a := 0) (j := 27) bkX9_fault_0 rfl) (by decide) (by decide)
theorem dX9_fault_28 : DR cX9_fault 28 (.iconst (-1)) 1 := dk_2 (bA_sl (a := 0) (j := 28) bkX9_fault_0 rfl)
theorem dX9_fault_29 : DR cX9_fault 29 (.ireturn) 1 := dk_172 (bA_sl (a := 0) (j := 29) bkX9_fault_0 rfl)
theorem bkX9_isStrip_0 : ((cX9_isStrip.data.toList.drop 0).take 64).map UInt8.toNat = [27, 133, 9, 42, 180, 0, 13, 3, 46, 4, 100, 133, 184, 0, 128, 172] := by decide +kernel
theorem dX9_isStrip_0 : DR cX9_isStrip 0 (.iload_n 1) 1 := dk_27 (bA_sl (a := 0) (j := 0) bkX9_isStrip_0 rfl)
theorem dX9_isStrip_1 : DR cX9_isStrip 1 (.i2l) 1 := dk_133 (bA_sl (a := 0) (j := 1) bkX9_isStrip_0 rfl)
theorem dX9_isStrip_2 : DR cX9_isStrip 2 (.lconst 0) 1 := dk_9 (bA_sl (a := 0) (j := 2) bkX9_isStrip_0 rfl)
theorem dX9_isStrip_3 : DR cX9_isStrip 3 (.aload_n 0) 1 := dk_42 (bA_sl (a := 0) (j := 3) bkX9_isStrip_0 rfl)
theorem dX9_isStrip_4 : DR cX9_isStrip 4 (.getfield 13) 3 := dk_180 (bA_sl (a := 0) (j := 4) bkX9_isStrip_0 rfl) (bA_sl (a := 0) (j := 5) bkX9_isStrip_0 rfl) (bA_sl (a := 0) (j := 6) bkX9_isStrip_0 rfl) (by decide) rfl
theorem dX9_isStrip_7 : DR cX9_isStrip 7 (.iconst 0) 1 := dk_3 (bA_sl (a := 0) (j := 7) bkX9_isStrip_0 rfl)
theorem dX9_isStrip_8 : DR cX9_isStrip 8 (.iaload) 1 := dk_46 (bA_sl (a := 0) (j := 8) bkX9_isStrip_0 rfl)
theorem dX9_isStrip_9 : DR cX9_isStrip 9 (.iconst 1) 1 := dk_4 (bA_sl (a := 0) (j := 9) bkX9_isStrip_0 rfl)
theorem dX9_isStrip_10 : DR cX9_isStrip 10 (.isub) 1 := dk_100 (bA_sl (a := 0) (j := 10) bkX9_isStrip_0 rfl)
theorem dX9_isStrip_11 : DR cX9_isStrip 11 (.i2l) 1 := dk_133 (bA_sl (a := 0) (j := 11) bkX9_isStrip_0 rfl)
theorem dX9_isStrip_12 : DR cX9_isStrip 12 (.invokestatic 128) 3 := dk_184 (bA_sl (a := 0) (j := 12) bkX9_isStrip_0 rfl) (bA_sl (a := 0) (j := 13) bkX9_isStrip_0 rfl) (bA_sl (a := 0) (j := 14) bkX9_isStrip_0 rfl) (by decide) rfl
theorem dX9_isStrip_15 : DR cX9_isStrip 15 (.ireturn) 1 := dk_172 (bA_sl (a := 0) (j := 15) bkX9_isStrip_0 rfl)
theorem bkX9_off_0 : ((cX9_off.data.toList.drop 0).take 64).map UInt8.toNat = [26, 27, 164, 0, 9, 26, 27, 100, 167, 0, 6, 27, 26, 100, 172] := by decide +kernel
theorem dX9_off_0 : DR cX9_off 0 (.iload_n 0) 1 := dk_26 (bA_sl (a := 0) (j := 0) bkX9_off_0 rfl)
theorem dX9_off_1 : DR cX9_off 1 (.iload_n 1) 1 := dk_27 (bA_sl (a := 0) (j := 1) bkX9_off_0 rfl)
theorem dX9_off_2 : DR cX9_off 2 (.if_icmp .le 9) 3 := dk_164 (bA_sl (a := 0) (j := 2) bkX9_off_0 rfl) (bA_sl (a := 0) (j := 3) bkX9_off_0 rfl) (bA_sl (a := 0) (j := 4) bkX9_off_0 rfl) (by decide) (by decide)
theorem dX9_off_5 : DR cX9_off 5 (.iload_n 0) 1 := dk_26 (bA_sl (a := 0) (j := 5) bkX9_off_0 rfl)
theorem dX9_off_6 : DR cX9_off 6 (.iload_n 1) 1 := dk_27 (bA_sl (a := 0) (j := 6) bkX9_off_0 rfl)
theorem dX9_off_7 : DR cX9_off 7 (.isub) 1 := dk_100 (bA_sl (a := 0) (j := 7) bkX9_off_0 rfl)
theorem dX9_off_8 : DR cX9_off 8 (.goto 6) 3 := dk_167 (bA_sl (a := 0) (j := 8) bkX9_off_0 rfl) (bA_sl (a := 0) (j := 9) bkX9_off_0 rfl) (bA_sl (a := 0) (j := 10) bkX9_off_0 rfl) (by decide) (by decide)
theorem dX9_off_11 : DR cX9_off 11 (.iload_n 1) 1 := dk_27 (bA_sl (a := 0) (j := 11) bkX9_off_0 rfl)
theorem dX9_off_12 : DR cX9_off 12 (.iload_n 0) 1 := dk_26 (bA_sl (a := 0) (j := 12) bkX9_off_0 rfl)
theorem dX9_off_13 : DR cX9_off 13 (.isub) 1 := dk_100 (bA_sl (a := 0) (j := 13) bkX9_off_0 rfl)
theorem dX9_off_14 : DR cX9_off 14 (.ireturn) 1 := dk_172 (bA_sl (a := 0) (j := 14) bkX9_off_0 rfl)
theorem bkX9_nearness_0 : ((cX9_nearness.data.toList.drop 0).take 64).map UInt8.toNat = [42, 180, 0, 13, 7, 46, 42, 180, 0, 13, 8, 46, 27, 28, 184, 0, 158, 104, 100, 62, 29, 156, 0, 7, 3, 167, 0, 4, 29, 172] := by decide +kernel
theorem dX9_nearness_0 : DR cX9_nearness 0 (.aload_n 0) 1 := dk_42 (bA_sl (a := 0) (j := 0) bkX9_nearness_0 rfl)
theorem dX9_nearness_1 : DR cX9_nearness 1 (.getfield 13) 3 := dk_180 (bA_sl (a := 0) (j := 1) bkX9_nearness_0 rfl) (bA_sl (a := 0) (j := 2) bkX9_nearness_0 rfl) (bA_sl (a := 0) (j := 3) bkX9_nearness_0 rfl) (by decide) rfl
theorem dX9_nearness_4 : DR cX9_nearness 4 (.iconst 4) 1 := dk_7 (bA_sl (a := 0) (j := 4) bkX9_nearness_0 rfl)
theorem dX9_nearness_5 : DR cX9_nearness 5 (.iaload) 1 := dk_46 (bA_sl (a := 0) (j := 5) bkX9_nearness_0 rfl)
theorem dX9_nearness_6 : DR cX9_nearness 6 (.aload_n 0) 1 := dk_42 (bA_sl (a := 0) (j := 6) bkX9_nearness_0 rfl)
theorem dX9_nearness_7 : DR cX9_nearness 7 (.getfield 13) 3 := dk_180 (bA_sl (a := 0) (j := 7) bkX9_nearness_0 rfl) (bA_sl (a := 0) (j := 8) bkX9_nearness_0 rfl) (bA_sl (a := 0) (j := 9) bkX9_nearness_0 rfl) (by decide) rfl
theorem dX9_nearness_10 : DR cX9_nearness 10 (.iconst 5) 1 := dk_8 (bA_sl (a := 0) (j := 10) bkX9_nearness_0 rfl)
theorem dX9_nearness_11 : DR cX9_nearness 11 (.iaload) 1 := dk_46 (bA_sl (a := 0) (j := 11) bkX9_nearness_0 rfl)
theorem dX9_nearness_12 : DR cX9_nearness 12 (.iload_n 1) 1 := dk_27 (bA_sl (a := 0) (j := 12) bkX9_nearness_0 rfl)
theorem dX9_nearness_13 : DR cX9_nearness 13 (.iload_n 2) 1 := dk_28 (bA_sl (a := 0) (j := 13) bkX9_nearness_0 rfl)
theorem dX9_nearness_14 : DR cX9_nearness 14 (.invokestatic 158) 3 := dk_184 (bA_sl (a := 0) (j := 14) bkX9_nearness_0 rfl) (bA_sl (a := 0) (j := 15) bkX9_nearness_0 rfl) (bA_sl (a := 0) (j := 16) bkX9_nearness_0 rfl) (by decide) rfl
theorem dX9_nearness_17 : DR cX9_nearness 17 (.imul) 1 := dk_104 (bA_sl (a := 0) (j := 17) bkX9_nearness_0 rfl)
theorem dX9_nearness_18 : DR cX9_nearness 18 (.isub) 1 := dk_100 (bA_sl (a := 0) (j := 18) bkX9_nearness_0 rfl)
theorem dX9_nearness_19 : DR cX9_nearness 19 (.istore_n 3) 1 := dk_62 (bA_sl (a := 0) (j := 19) bkX9_nearness_0 rfl)
theorem dX9_nearness_20 : DR cX9_nearness 20 (.iload_n 3) 1 := dk_29 (bA_sl (a := 0) (j := 20) bkX9_nearness_0 rfl)
theorem dX9_nearness_21 : DR cX9_nearness 21 (.ifCond .ge 7) 3 := dk_156 (bA_sl (a := 0) (j := 21) bkX9_nearness_0 rfl) (bA_sl (a := 0) (j := 22) bkX9_nearness_0 rfl) (bA_sl (a := 0) (j := 23) bkX9_nearness_0 rfl) (by decide) (by decide)
theorem dX9_nearness_24 : DR cX9_nearness 24 (.iconst 0) 1 := dk_3 (bA_sl (a := 0) (j := 24) bkX9_nearness_0 rfl)
theorem dX9_nearness_25 : DR cX9_nearness 25 (.goto 4) 3 := dk_167 (bA_sl (a := 0) (j := 25) bkX9_nearness_0 rfl) (bA_sl (a := 0) (j := 26) bkX9_nearness_0 rfl) (bA_sl (a := 0) (j := 27) bkX9_nearness_0 rfl) (by decide) (by decide)
theorem dX9_nearness_28 : DR cX9_nearness 28 (.iload_n 3) 1 := dk_29 (bA_sl (a := 0) (j := 28) bkX9_nearness_0 rfl)
theorem dX9_nearness_29 : DR cX9_nearness 29 (.ireturn) 1 := dk_172 (bA_sl (a := 0) (j := 29) bkX9_nearness_0 rfl)
theorem bkX9_isShaded_0 : ((cX9_isShaded.data.toList.drop 0).take 64).map UInt8.toNat = [27, 28, 162, 0, 7, 27, 167, 0, 4, 28, 54, 4, 27, 28, 162, 0, 7, 28, 167, 0, 4, 27, 54, 5, 21, 4, 4, 96, 54, 6, 21, 6, 21, 5, 162, 0, 38, 42, 180, 0, 13, 16, 48, 21, 6, 96, 46, 21, 5, 21, 4, 100, 104, 29, 21, 6, 28, 184, 0, 158, 104, 164, 0, 5] := by decide +kernel
theorem dX9_isShaded_0 : DR cX9_isShaded 0 (.iload_n 1) 1 := dk_27 (bA_sl (a := 0) (j := 0) bkX9_isShaded_0 rfl)
theorem dX9_isShaded_1 : DR cX9_isShaded 1 (.iload_n 2) 1 := dk_28 (bA_sl (a := 0) (j := 1) bkX9_isShaded_0 rfl)
theorem dX9_isShaded_2 : DR cX9_isShaded 2 (.if_icmp .ge 7) 3 := dk_162 (bA_sl (a := 0) (j := 2) bkX9_isShaded_0 rfl) (bA_sl (a := 0) (j := 3) bkX9_isShaded_0 rfl) (bA_sl (a := 0) (j := 4) bkX9_isShaded_0 rfl) (by decide) (by decide)
theorem dX9_isShaded_5 : DR cX9_isShaded 5 (.iload_n 1) 1 := dk_27 (bA_sl (a := 0) (j := 5) bkX9_isShaded_0 rfl)
theorem dX9_isShaded_6 : DR cX9_isShaded 6 (.goto 4) 3 := dk_167 (bA_sl (a := 0) (j := 6) bkX9_isShaded_0 rfl) (bA_sl (a := 0) (j := 7) bkX9_isShaded_0 rfl) (bA_sl (a := 0) (j := 8) bkX9_isShaded_0 rfl) (by decide) (by decide)
theorem dX9_isShaded_9 : DR cX9_isShaded 9 (.iload_n 2) 1 := dk_28 (bA_sl (a := 0) (j := 9) bkX9_isShaded_0 rfl)
theorem dX9_isShaded_10 : DR cX9_isShaded 10 (.istore 4) 2 := dk_54 (bA_sl (a := 0) (j := 10) bkX9_isShaded_0 rfl) (bA_sl (a := 0) (j := 11) bkX9_isShaded_0 rfl) (by decide)
theorem dX9_isShaded_12 : DR cX9_isShaded 12 (.iload_n 1) 1 := dk_27 (bA_sl (a := 0) (j := 12) bkX9_isShaded_0 rfl)
theorem dX9_isShaded_13 : DR cX9_isShaded 13 (.iload_n 2) 1 := dk_28 (bA_sl (a := 0) (j := 13) bkX9_isShaded_0 rfl)
theorem dX9_isShaded_14 : DR cX9_isShaded 14 (.if_icmp .ge 7) 3 := dk_162 (bA_sl (a := 0) (j := 14) bkX9_isShaded_0 rfl) (bA_sl (a := 0) (j := 15) bkX9_isShaded_0 rfl) (bA_sl (a := 0) (j := 16) bkX9_isShaded_0 rfl) (by decide) (by decide)
theorem dX9_isShaded_17 : DR cX9_isShaded 17 (.iload_n 2) 1 := dk_28 (bA_sl (a := 0) (j := 17) bkX9_isShaded_0 rfl)
theorem dX9_isShaded_18 : DR cX9_isShaded 18 (.goto 4) 3 := dk_167 (bA_sl (a := 0) (j := 18) bkX9_isShaded_0 rfl) (bA_sl (a := 0) (j := 19) bkX9_isShaded_0 rfl) (bA_sl (a := 0) (j := 20) bkX9_isShaded_0 rfl) (by decide) (by decide)
theorem dX9_isShaded_21 : DR cX9_isShaded 21 (.iload_n 1) 1 := dk_27 (bA_sl (a := 0) (j := 21) bkX9_isShaded_0 rfl)
theorem dX9_isShaded_22 : DR cX9_isShaded 22 (.istore 5) 2 := dk_54 (bA_sl (a := 0) (j := 22) bkX9_isShaded_0 rfl) (bA_sl (a := 0) (j := 23) bkX9_isShaded_0 rfl) (by decide)
theorem dX9_isShaded_24 : DR cX9_isShaded 24 (.iload 4) 2 := dk_21 (bA_sl (a := 0) (j := 24) bkX9_isShaded_0 rfl) (bA_sl (a := 0) (j := 25) bkX9_isShaded_0 rfl) (by decide)
theorem dX9_isShaded_26 : DR cX9_isShaded 26 (.iconst 1) 1 := dk_4 (bA_sl (a := 0) (j := 26) bkX9_isShaded_0 rfl)
theorem dX9_isShaded_27 : DR cX9_isShaded 27 (.iadd) 1 := dk_96 (bA_sl (a := 0) (j := 27) bkX9_isShaded_0 rfl)
theorem dX9_isShaded_28 : DR cX9_isShaded 28 (.istore 6) 2 := dk_54 (bA_sl (a := 0) (j := 28) bkX9_isShaded_0 rfl) (bA_sl (a := 0) (j := 29) bkX9_isShaded_0 rfl) (by decide)
theorem dX9_isShaded_30 : DR cX9_isShaded 30 (.iload 6) 2 := dk_21 (bA_sl (a := 0) (j := 30) bkX9_isShaded_0 rfl) (bA_sl (a := 0) (j := 31) bkX9_isShaded_0 rfl) (by decide)
theorem dX9_isShaded_32 : DR cX9_isShaded 32 (.iload 5) 2 := dk_21 (bA_sl (a := 0) (j := 32) bkX9_isShaded_0 rfl) (bA_sl (a := 0) (j := 33) bkX9_isShaded_0 rfl) (by decide)
theorem dX9_isShaded_34 : DR cX9_isShaded 34 (.if_icmp .ge 38) 3 := dk_162 (bA_sl (a := 0) (j := 34) bkX9_isShaded_0 rfl) (bA_sl (a := 0) (j := 35) bkX9_isShaded_0 rfl) (bA_sl (a := 0) (j := 36) bkX9_isShaded_0 rfl) (by decide) (by decide)
theorem dX9_isShaded_37 : DR cX9_isShaded 37 (.aload_n 0) 1 := dk_42 (bA_sl (a := 0) (j := 37) bkX9_isShaded_0 rfl)
theorem dX9_isShaded_38 : DR cX9_isShaded 38 (.getfield 13) 3 := dk_180 (bA_sl (a := 0) (j := 38) bkX9_isShaded_0 rfl) (bA_sl (a := 0) (j := 39) bkX9_isShaded_0 rfl) (bA_sl (a := 0) (j := 40) bkX9_isShaded_0 rfl) (by decide) rfl
theorem dX9_isShaded_41 : DR cX9_isShaded 41 (.bipush 48) 2 := dk_16 (bA_sl (a := 0) (j := 41) bkX9_isShaded_0 rfl) (bA_sl (a := 0) (j := 42) bkX9_isShaded_0 rfl) (by decide) (by decide)
theorem dX9_isShaded_43 : DR cX9_isShaded 43 (.iload 6) 2 := dk_21 (bA_sl (a := 0) (j := 43) bkX9_isShaded_0 rfl) (bA_sl (a := 0) (j := 44) bkX9_isShaded_0 rfl) (by decide)
theorem dX9_isShaded_45 : DR cX9_isShaded 45 (.iadd) 1 := dk_96 (bA_sl (a := 0) (j := 45) bkX9_isShaded_0 rfl)
theorem dX9_isShaded_46 : DR cX9_isShaded 46 (.iaload) 1 := dk_46 (bA_sl (a := 0) (j := 46) bkX9_isShaded_0 rfl)
theorem dX9_isShaded_47 : DR cX9_isShaded 47 (.iload 5) 2 := dk_21 (bA_sl (a := 0) (j := 47) bkX9_isShaded_0 rfl) (bA_sl (a := 0) (j := 48) bkX9_isShaded_0 rfl) (by decide)
theorem dX9_isShaded_49 : DR cX9_isShaded 49 (.iload 4) 2 := dk_21 (bA_sl (a := 0) (j := 49) bkX9_isShaded_0 rfl) (bA_sl (a := 0) (j := 50) bkX9_isShaded_0 rfl) (by decide)
theorem dX9_isShaded_51 : DR cX9_isShaded 51 (.isub) 1 := dk_100 (bA_sl (a := 0) (j := 51) bkX9_isShaded_0 rfl)
theorem dX9_isShaded_52 : DR cX9_isShaded 52 (.imul) 1 := dk_104 (bA_sl (a := 0) (j := 52) bkX9_isShaded_0 rfl)
theorem dX9_isShaded_53 : DR cX9_isShaded 53 (.iload_n 3) 1 := dk_29 (bA_sl (a := 0) (j := 53) bkX9_isShaded_0 rfl)
theorem dX9_isShaded_54 : DR cX9_isShaded 54 (.iload 6) 2 := dk_21 (bA_sl (a := 0) (j := 54) bkX9_isShaded_0 rfl) (bA_sl (a := 0) (j := 55) bkX9_isShaded_0 rfl) (by decide)
theorem dX9_isShaded_56 : DR cX9_isShaded 56 (.iload_n 2) 1 := dk_28 (bA_sl (a := 0) (j := 56) bkX9_isShaded_0 rfl)
theorem dX9_isShaded_57 : DR cX9_isShaded 57 (.invokestatic 158) 3 := dk_184 (bA_sl (a := 0) (j := 57) bkX9_isShaded_0 rfl) (bA_sl (a := 0) (j := 58) bkX9_isShaded_0 rfl) (bA_sl (a := 0) (j := 59) bkX9_isShaded_0 rfl) (by decide) rfl
theorem dX9_isShaded_60 : DR cX9_isShaded 60 (.imul) 1 := dk_104 (bA_sl (a := 0) (j := 60) bkX9_isShaded_0 rfl)
theorem dX9_isShaded_61 : DR cX9_isShaded 61 (.if_icmp .le 5) 3 := dk_164 (bA_sl (a := 0) (j := 61) bkX9_isShaded_0 rfl) (bA_sl (a := 0) (j := 62) bkX9_isShaded_0 rfl) (bA_sl (a := 0) (j := 63) bkX9_isShaded_0 rfl) (by decide) (by decide)
theorem bkX9_isShaded_1 : ((cX9_isShaded.data.toList.drop 64).take 64).map UInt8.toNat = [4, 172, 132, 6, 1, 167, 255, 217, 3, 172] := by decide +kernel
theorem dX9_isShaded_64 : DR cX9_isShaded 64 (.iconst 1) 1 := dk_4 (bA_sl (a := 64) (j := 0) bkX9_isShaded_1 rfl)
theorem dX9_isShaded_65 : DR cX9_isShaded 65 (.ireturn) 1 := dk_172 (bA_sl (a := 64) (j := 1) bkX9_isShaded_1 rfl)
theorem dX9_isShaded_66 : DR cX9_isShaded 66 (.iinc 6 1) 3 := dk_132 (bA_sl (a := 64) (j := 2) bkX9_isShaded_1 rfl) (bA_sl (a := 64) (j := 3) bkX9_isShaded_1 rfl) (bA_sl (a := 64) (j := 4) bkX9_isShaded_1 rfl) (by decide) (by decide)
theorem dX9_isShaded_69 : DR cX9_isShaded 69 (.goto (-39)) 3 := dk_167 (bA_sl (a := 64) (j := 5) bkX9_isShaded_1 rfl) (bA_sl (a := 64) (j := 6) bkX9_isShaded_1 rfl) (bA_sl (a := 64) (j := 7) bkX9_isShaded_1 rfl) (by decide) (by decide)
theorem dX9_isShaded_72 : DR cX9_isShaded 72 (.iconst 0) 1 := dk_3 (bA_sl (a := 64) (j := 8) bkX9_isShaded_1 rfl)
theorem dX9_isShaded_73 : DR cX9_isShaded 73 (.ireturn) 1 := dk_172 (bA_sl (a := 64) (j := 9) bkX9_isShaded_1 rfl)
theorem bkX9_lightBy_0 : ((cX9_lightBy.data.toList.drop 0).take 64).map UInt8.toNat = [42, 27, 28, 29, 182, 0, 161, 153, 0, 7, 3, 167, 0, 9, 42, 27, 28, 182, 0, 165, 172] := by decide +kernel
theorem dX9_lightBy_0 : DR cX9_lightBy 0 (.aload_n 0) 1 := dk_42 (bA_sl (a := 0) (j := 0) bkX9_lightBy_0 rfl)
theorem dX9_lightBy_1 : DR cX9_lightBy 1 (.iload_n 1) 1 := dk_27 (bA_sl (a := 0) (j := 1) bkX9_lightBy_0 rfl)
theorem dX9_lightBy_2 : DR cX9_lightBy 2 (.iload_n 2) 1 := dk_28 (bA_sl (a := 0) (j := 2) bkX9_lightBy_0 rfl)
theorem dX9_lightBy_3 : DR cX9_lightBy 3 (.iload_n 3) 1 := dk_29 (bA_sl (a := 0) (j := 3) bkX9_lightBy_0 rfl)
theorem dX9_lightBy_4 : DR cX9_lightBy 4 (.invokevirtual 161) 3 := dk_182 (bA_sl (a := 0) (j := 4) bkX9_lightBy_0 rfl) (bA_sl (a := 0) (j := 5) bkX9_lightBy_0 rfl) (bA_sl (a := 0) (j := 6) bkX9_lightBy_0 rfl) (by decide) rfl
theorem dX9_lightBy_7 : DR cX9_lightBy 7 (.ifCond .eq 7) 3 := dk_153 (bA_sl (a := 0) (j := 7) bkX9_lightBy_0 rfl) (bA_sl (a := 0) (j := 8) bkX9_lightBy_0 rfl) (bA_sl (a := 0) (j := 9) bkX9_lightBy_0 rfl) (by decide) (by decide)
theorem dX9_lightBy_10 : DR cX9_lightBy 10 (.iconst 0) 1 := dk_3 (bA_sl (a := 0) (j := 10) bkX9_lightBy_0 rfl)
theorem dX9_lightBy_11 : DR cX9_lightBy 11 (.goto 9) 3 := dk_167 (bA_sl (a := 0) (j := 11) bkX9_lightBy_0 rfl) (bA_sl (a := 0) (j := 12) bkX9_lightBy_0 rfl) (bA_sl (a := 0) (j := 13) bkX9_lightBy_0 rfl) (by decide) (by decide)
theorem dX9_lightBy_14 : DR cX9_lightBy 14 (.aload_n 0) 1 := dk_42 (bA_sl (a := 0) (j := 14) bkX9_lightBy_0 rfl)
theorem dX9_lightBy_15 : DR cX9_lightBy 15 (.iload_n 1) 1 := dk_27 (bA_sl (a := 0) (j := 15) bkX9_lightBy_0 rfl)
theorem dX9_lightBy_16 : DR cX9_lightBy 16 (.iload_n 2) 1 := dk_28 (bA_sl (a := 0) (j := 16) bkX9_lightBy_0 rfl)
theorem dX9_lightBy_17 : DR cX9_lightBy 17 (.invokevirtual 165) 3 := dk_182 (bA_sl (a := 0) (j := 17) bkX9_lightBy_0 rfl) (bA_sl (a := 0) (j := 18) bkX9_lightBy_0 rfl) (bA_sl (a := 0) (j := 19) bkX9_lightBy_0 rfl) (by decide) rfl
theorem dX9_lightBy_20 : DR cX9_lightBy 20 (.ireturn) 1 := dk_172 (bA_sl (a := 0) (j := 20) bkX9_lightBy_0 rfl)
theorem bkX9_lightOf_0 : ((cX9_lightOf.data.toList.drop 0).take 64).map UInt8.toNat = [42, 27, 28, 42, 180, 0, 13, 6, 46, 182, 0, 168, 172] := by decide +kernel
theorem dX9_lightOf_0 : DR cX9_lightOf 0 (.aload_n 0) 1 := dk_42 (bA_sl (a := 0) (j := 0) bkX9_lightOf_0 rfl)
theorem dX9_lightOf_1 : DR cX9_lightOf 1 (.iload_n 1) 1 := dk_27 (bA_sl (a := 0) (j := 1) bkX9_lightOf_0 rfl)
theorem dX9_lightOf_2 : DR cX9_lightOf 2 (.iload_n 2) 1 := dk_28 (bA_sl (a := 0) (j := 2) bkX9_lightOf_0 rfl)
theorem dX9_lightOf_3 : DR cX9_lightOf 3 (.aload_n 0) 1 := dk_42 (bA_sl (a := 0) (j := 3) bkX9_lightOf_0 rfl)
theorem dX9_lightOf_4 : DR cX9_lightOf 4 (.getfield 13) 3 := dk_180 (bA_sl (a := 0) (j := 4) bkX9_lightOf_0 rfl) (bA_sl (a := 0) (j := 5) bkX9_lightOf_0 rfl) (bA_sl (a := 0) (j := 6) bkX9_lightOf_0 rfl) (by decide) rfl
theorem dX9_lightOf_7 : DR cX9_lightOf 7 (.iconst 3) 1 := dk_6 (bA_sl (a := 0) (j := 7) bkX9_lightOf_0 rfl)
theorem dX9_lightOf_8 : DR cX9_lightOf 8 (.iaload) 1 := dk_46 (bA_sl (a := 0) (j := 8) bkX9_lightOf_0 rfl)
theorem dX9_lightOf_9 : DR cX9_lightOf 9 (.invokevirtual 168) 3 := dk_182 (bA_sl (a := 0) (j := 9) bkX9_lightOf_0 rfl) (bA_sl (a := 0) (j := 10) bkX9_lightOf_0 rfl) (bA_sl (a := 0) (j := 11) bkX9_lightOf_0 rfl) (by decide) rfl
theorem dX9_lightOf_12 : DR cX9_lightOf 12 (.ireturn) 1 := dk_172 (bA_sl (a := 0) (j := 12) bkX9_lightOf_0 rfl)
theorem bkX9_strip_0 : ((cX9_strip.data.toList.drop 0).take 64).map UInt8.toNat = [42, 3, 181, 0, 1, 42, 27, 182, 0, 172, 153, 0, 15, 28, 133, 9, 20, 0, 175, 184, 0, 128, 154, 0, 6, 16, 254, 172, 28, 8, 160, 0, 17, 42, 42, 180, 0, 13, 5, 46, 27, 182, 0, 177, 167, 0, 17, 42, 180, 0, 13, 16, 16, 16, 16, 28, 104, 96, 27, 96, 46, 172] := by decide +kernel
theorem dX9_strip_0 : DR cX9_strip 0 (.aload_n 0) 1 := dk_42 (bA_sl (a := 0) (j := 0) bkX9_strip_0 rfl)
theorem dX9_strip_1 : DR cX9_strip 1 (.iconst 0) 1 := dk_3 (bA_sl (a := 0) (j := 1) bkX9_strip_0 rfl)
theorem dX9_strip_2 : DR cX9_strip 2 (.putfield 1) 3 := dk_181 (bA_sl (a := 0) (j := 2) bkX9_strip_0 rfl) (bA_sl (a := 0) (j := 3) bkX9_strip_0 rfl) (bA_sl (a := 0) (j := 4) bkX9_strip_0 rfl) (by decide) rfl
theorem dX9_strip_5 : DR cX9_strip 5 (.aload_n 0) 1 := dk_42 (bA_sl (a := 0) (j := 5) bkX9_strip_0 rfl)
theorem dX9_strip_6 : DR cX9_strip 6 (.iload_n 1) 1 := dk_27 (bA_sl (a := 0) (j := 6) bkX9_strip_0 rfl)
theorem dX9_strip_7 : DR cX9_strip 7 (.invokevirtual 172) 3 := dk_182 (bA_sl (a := 0) (j := 7) bkX9_strip_0 rfl) (bA_sl (a := 0) (j := 8) bkX9_strip_0 rfl) (bA_sl (a := 0) (j := 9) bkX9_strip_0 rfl) (by decide) rfl
theorem dX9_strip_10 : DR cX9_strip 10 (.ifCond .eq 15) 3 := dk_153 (bA_sl (a := 0) (j := 10) bkX9_strip_0 rfl) (bA_sl (a := 0) (j := 11) bkX9_strip_0 rfl) (bA_sl (a := 0) (j := 12) bkX9_strip_0 rfl) (by decide) (by decide)
theorem dX9_strip_13 : DR cX9_strip 13 (.iload_n 2) 1 := dk_28 (bA_sl (a := 0) (j := 13) bkX9_strip_0 rfl)
theorem dX9_strip_14 : DR cX9_strip 14 (.i2l) 1 := dk_133 (bA_sl (a := 0) (j := 14) bkX9_strip_0 rfl)
theorem dX9_strip_15 : DR cX9_strip 15 (.lconst 0) 1 := dk_9 (bA_sl (a := 0) (j := 15) bkX9_strip_0 rfl)
theorem dX9_strip_16 : DR cX9_strip 16 (.ldc2_w 175) 3 := dk_20 (bA_sl (a := 0) (j := 16) bkX9_strip_0 rfl) (bA_sl (a := 0) (j := 17) bkX9_strip_0 rfl) (bA_sl (a := 0) (j := 18) bkX9_strip_0 rfl) (by decide) rfl
theorem dX9_strip_19 : DR cX9_strip 19 (.invokestatic 128) 3 := dk_184 (bA_sl (a := 0) (j := 19) bkX9_strip_0 rfl) (bA_sl (a := 0) (j := 20) bkX9_strip_0 rfl) (bA_sl (a := 0) (j := 21) bkX9_strip_0 rfl) (by decide) rfl
theorem dX9_strip_22 : DR cX9_strip 22 (.ifCond .ne 6) 3 := dk_154 (bA_sl (a := 0) (j := 22) bkX9_strip_0 rfl) (bA_sl (a := 0) (j := 23) bkX9_strip_0 rfl) (bA_sl (a := 0) (j := 24) bkX9_strip_0 rfl) (by decide) (by decide)
theorem dX9_strip_25 : DR cX9_strip 25 (.bipush (-2)) 2 := dk_16 (bA_sl (a := 0) (j := 25) bkX9_strip_0 rfl) (bA_sl (a := 0) (j := 26) bkX9_strip_0 rfl) (by decide) (by decide)
theorem dX9_strip_27 : DR cX9_strip 27 (.ireturn) 1 := dk_172 (bA_sl (a := 0) (j := 27) bkX9_strip_0 rfl)
theorem dX9_strip_28 : DR cX9_strip 28 (.iload_n 2) 1 := dk_28 (bA_sl (a := 0) (j := 28) bkX9_strip_0 rfl)
theorem dX9_strip_29 : DR cX9_strip 29 (.iconst 5) 1 := dk_8 (bA_sl (a := 0) (j := 29) bkX9_strip_0 rfl)
theorem dX9_strip_30 : DR cX9_strip 30 (.if_icmp .ne 17) 3 := dk_160 (bA_sl (a := 0) (j := 30) bkX9_strip_0 rfl) (bA_sl (a := 0) (j := 31) bkX9_strip_0 rfl) (bA_sl (a := 0) (j := 32) bkX9_strip_0 rfl) (by decide) (by decide)
theorem dX9_strip_33 : DR cX9_strip 33 (.aload_n 0) 1 := dk_42 (bA_sl (a := 0) (j := 33) bkX9_strip_0 rfl)
theorem dX9_strip_34 : DR cX9_strip 34 (.aload_n 0) 1 := dk_42 (bA_sl (a := 0) (j := 34) bkX9_strip_0 rfl)
theorem dX9_strip_35 : DR cX9_strip 35 (.getfield 13) 3 := dk_180 (bA_sl (a := 0) (j := 35) bkX9_strip_0 rfl) (bA_sl (a := 0) (j := 36) bkX9_strip_0 rfl) (bA_sl (a := 0) (j := 37) bkX9_strip_0 rfl) (by decide) rfl
theorem dX9_strip_38 : DR cX9_strip 38 (.iconst 2) 1 := dk_5 (bA_sl (a := 0) (j := 38) bkX9_strip_0 rfl)
theorem dX9_strip_39 : DR cX9_strip 39 (.iaload) 1 := dk_46 (bA_sl (a := 0) (j := 39) bkX9_strip_0 rfl)
theorem dX9_strip_40 : DR cX9_strip 40 (.iload_n 1) 1 := dk_27 (bA_sl (a := 0) (j := 40) bkX9_strip_0 rfl)
theorem dX9_strip_41 : DR cX9_strip 41 (.invokevirtual 177) 3 := dk_182 (bA_sl (a := 0) (j := 41) bkX9_strip_0 rfl) (bA_sl (a := 0) (j := 42) bkX9_strip_0 rfl) (bA_sl (a := 0) (j := 43) bkX9_strip_0 rfl) (by decide) rfl
theorem dX9_strip_44 : DR cX9_strip 44 (.goto 17) 3 := dk_167 (bA_sl (a := 0) (j := 44) bkX9_strip_0 rfl) (bA_sl (a := 0) (j := 45) bkX9_strip_0 rfl) (bA_sl (a := 0) (j := 46) bkX9_strip_0 rfl) (by decide) (by decide)
theorem dX9_strip_47 : DR cX9_strip 47 (.aload_n 0) 1 := dk_42 (bA_sl (a := 0) (j := 47) bkX9_strip_0 rfl)
theorem dX9_strip_48 : DR cX9_strip 48 (.getfield 13) 3 := dk_180 (bA_sl (a := 0) (j := 48) bkX9_strip_0 rfl) (bA_sl (a := 0) (j := 49) bkX9_strip_0 rfl) (bA_sl (a := 0) (j := 50) bkX9_strip_0 rfl) (by decide) rfl
theorem dX9_strip_51 : DR cX9_strip 51 (.bipush 16) 2 := dk_16 (bA_sl (a := 0) (j := 51) bkX9_strip_0 rfl) (bA_sl (a := 0) (j := 52) bkX9_strip_0 rfl) (by decide) (by decide)
theorem dX9_strip_53 : DR cX9_strip 53 (.bipush 16) 2 := dk_16 (bA_sl (a := 0) (j := 53) bkX9_strip_0 rfl) (bA_sl (a := 0) (j := 54) bkX9_strip_0 rfl) (by decide) (by decide)
theorem dX9_strip_55 : DR cX9_strip 55 (.iload_n 2) 1 := dk_28 (bA_sl (a := 0) (j := 55) bkX9_strip_0 rfl)
theorem dX9_strip_56 : DR cX9_strip 56 (.imul) 1 := dk_104 (bA_sl (a := 0) (j := 56) bkX9_strip_0 rfl)
theorem dX9_strip_57 : DR cX9_strip 57 (.iadd) 1 := dk_96 (bA_sl (a := 0) (j := 57) bkX9_strip_0 rfl)
theorem dX9_strip_58 : DR cX9_strip 58 (.iload_n 1) 1 := dk_27 (bA_sl (a := 0) (j := 58) bkX9_strip_0 rfl)
theorem dX9_strip_59 : DR cX9_strip 59 (.iadd) 1 := dk_96 (bA_sl (a := 0) (j := 59) bkX9_strip_0 rfl)
theorem dX9_strip_60 : DR cX9_strip 60 (.iaload) 1 := dk_46 (bA_sl (a := 0) (j := 60) bkX9_strip_0 rfl)
theorem dX9_strip_61 : DR cX9_strip 61 (.ireturn) 1 := dk_172 (bA_sl (a := 0) (j := 61) bkX9_strip_0 rfl)
theorem bkX9_ofFarm_0 : ((cX9_ofFarm.data.toList.drop 0).take 64).map UInt8.toNat = [3, 62, 3, 54, 4, 21, 4, 42, 180, 0, 13, 3, 46, 162, 0, 39, 29, 42, 180, 0, 13, 16, 64, 21, 4, 96, 46, 27, 160, 0, 15, 42, 180, 0, 13, 28, 21, 4, 96, 46, 167, 0, 4, 3, 96, 62, 132, 4, 1, 167, 255, 212, 29, 172] := by decide +kernel
theorem dX9_ofFarm_0 : DR cX9_ofFarm 0 (.iconst 0) 1 := dk_3 (bA_sl (a := 0) (j := 0) bkX9_ofFarm_0 rfl)
theorem dX9_ofFarm_1 : DR cX9_ofFarm 1 (.istore_n 3) 1 := dk_62 (bA_sl (a := 0) (j := 1) bkX9_ofFarm_0 rfl)
theorem dX9_ofFarm_2 : DR cX9_ofFarm 2 (.iconst 0) 1 := dk_3 (bA_sl (a := 0) (j := 2) bkX9_ofFarm_0 rfl)
theorem dX9_ofFarm_3 : DR cX9_ofFarm 3 (.istore 4) 2 := dk_54 (bA_sl (a := 0) (j := 3) bkX9_ofFarm_0 rfl) (bA_sl (a := 0) (j := 4) bkX9_ofFarm_0 rfl) (by decide)
theorem dX9_ofFarm_5 : DR cX9_ofFarm 5 (.iload 4) 2 := dk_21 (bA_sl (a := 0) (j := 5) bkX9_ofFarm_0 rfl) (bA_sl (a := 0) (j := 6) bkX9_ofFarm_0 rfl) (by decide)
theorem dX9_ofFarm_7 : DR cX9_ofFarm 7 (.aload_n 0) 1 := dk_42 (bA_sl (a := 0) (j := 7) bkX9_ofFarm_0 rfl)
theorem dX9_ofFarm_8 : DR cX9_ofFarm 8 (.getfield 13) 3 := dk_180 (bA_sl (a := 0) (j := 8) bkX9_ofFarm_0 rfl) (bA_sl (a := 0) (j := 9) bkX9_ofFarm_0 rfl) (bA_sl (a := 0) (j := 10) bkX9_ofFarm_0 rfl) (by decide) rfl
theorem dX9_ofFarm_11 : DR cX9_ofFarm 11 (.iconst 0) 1 := dk_3 (bA_sl (a := 0) (j := 11) bkX9_ofFarm_0 rfl)
theorem dX9_ofFarm_12 : DR cX9_ofFarm 12 (.iaload) 1 := dk_46 (bA_sl (a := 0) (j := 12) bkX9_ofFarm_0 rfl)
theorem dX9_ofFarm_13 : DR cX9_ofFarm 13 (.if_icmp .ge 39) 3 := dk_162 (bA_sl (a := 0) (j := 13) bkX9_ofFarm_0 rfl) (bA_sl (a := 0) (j := 14) bkX9_ofFarm_0 rfl) (bA_sl (a := 0) (j := 15) bkX9_ofFarm_0 rfl) (by decide) (by decide)
theorem dX9_ofFarm_16 : DR cX9_ofFarm 16 (.iload_n 3) 1 := dk_29 (bA_sl (a := 0) (j := 16) bkX9_ofFarm_0 rfl)
theorem dX9_ofFarm_17 : DR cX9_ofFarm 17 (.aload_n 0) 1 := dk_42 (bA_sl (a := 0) (j := 17) bkX9_ofFarm_0 rfl)
theorem dX9_ofFarm_18 : DR cX9_ofFarm 18 (.getfield 13) 3 := dk_180 (bA_sl (a := 0) (j := 18) bkX9_ofFarm_0 rfl) (bA_sl (a := 0) (j := 19) bkX9_ofFarm_0 rfl) (bA_sl (a := 0) (j := 20) bkX9_ofFarm_0 rfl) (by decide) rfl
theorem dX9_ofFarm_21 : DR cX9_ofFarm 21 (.bipush 64) 2 := dk_16 (bA_sl (a := 0) (j := 21) bkX9_ofFarm_0 rfl) (bA_sl (a := 0) (j := 22) bkX9_ofFarm_0 rfl) (by decide) (by decide)
theorem dX9_ofFarm_23 : DR cX9_ofFarm 23 (.iload 4) 2 := dk_21 (bA_sl (a := 0) (j := 23) bkX9_ofFarm_0 rfl) (bA_sl (a := 0) (j := 24) bkX9_ofFarm_0 rfl) (by decide)
theorem dX9_ofFarm_25 : DR cX9_ofFarm 25 (.iadd) 1 := dk_96 (bA_sl (a := 0) (j := 25) bkX9_ofFarm_0 rfl)
theorem dX9_ofFarm_26 : DR cX9_ofFarm 26 (.iaload) 1 := dk_46 (bA_sl (a := 0) (j := 26) bkX9_ofFarm_0 rfl)
theorem dX9_ofFarm_27 : DR cX9_ofFarm 27 (.iload_n 1) 1 := dk_27 (bA_sl (a := 0) (j := 27) bkX9_ofFarm_0 rfl)
theorem dX9_ofFarm_28 : DR cX9_ofFarm 28 (.if_icmp .ne 15) 3 := dk_160 (bA_sl (a := 0) (j := 28) bkX9_ofFarm_0 rfl) (bA_sl (a := 0) (j := 29) bkX9_ofFarm_0 rfl) (bA_sl (a := 0) (j := 30) bkX9_ofFarm_0 rfl) (by decide) (by decide)
theorem dX9_ofFarm_31 : DR cX9_ofFarm 31 (.aload_n 0) 1 := dk_42 (bA_sl (a := 0) (j := 31) bkX9_ofFarm_0 rfl)
theorem dX9_ofFarm_32 : DR cX9_ofFarm 32 (.getfield 13) 3 := dk_180 (bA_sl (a := 0) (j := 32) bkX9_ofFarm_0 rfl) (bA_sl (a := 0) (j := 33) bkX9_ofFarm_0 rfl) (bA_sl (a := 0) (j := 34) bkX9_ofFarm_0 rfl) (by decide) rfl
theorem dX9_ofFarm_35 : DR cX9_ofFarm 35 (.iload_n 2) 1 := dk_28 (bA_sl (a := 0) (j := 35) bkX9_ofFarm_0 rfl)
theorem dX9_ofFarm_36 : DR cX9_ofFarm 36 (.iload 4) 2 := dk_21 (bA_sl (a := 0) (j := 36) bkX9_ofFarm_0 rfl) (bA_sl (a := 0) (j := 37) bkX9_ofFarm_0 rfl) (by decide)
theorem dX9_ofFarm_38 : DR cX9_ofFarm 38 (.iadd) 1 := dk_96 (bA_sl (a := 0) (j := 38) bkX9_ofFarm_0 rfl)
theorem dX9_ofFarm_39 : DR cX9_ofFarm 39 (.iaload) 1 := dk_46 (bA_sl (a := 0) (j := 39) bkX9_ofFarm_0 rfl)
theorem dX9_ofFarm_40 : DR cX9_ofFarm 40 (.goto 4) 3 := dk_167 (bA_sl (a := 0) (j := 40) bkX9_ofFarm_0 rfl) (bA_sl (a := 0) (j := 41) bkX9_ofFarm_0 rfl) (bA_sl (a := 0) (j := 42) bkX9_ofFarm_0 rfl) (by decide) (by decide)
theorem dX9_ofFarm_43 : DR cX9_ofFarm 43 (.iconst 0) 1 := dk_3 (bA_sl (a := 0) (j := 43) bkX9_ofFarm_0 rfl)
theorem dX9_ofFarm_44 : DR cX9_ofFarm 44 (.iadd) 1 := dk_96 (bA_sl (a := 0) (j := 44) bkX9_ofFarm_0 rfl)
theorem dX9_ofFarm_45 : DR cX9_ofFarm 45 (.istore_n 3) 1 := dk_62 (bA_sl (a := 0) (j := 45) bkX9_ofFarm_0 rfl)
theorem dX9_ofFarm_46 : DR cX9_ofFarm 46 (.iinc 4 1) 3 := dk_132 (bA_sl (a := 0) (j := 46) bkX9_ofFarm_0 rfl) (bA_sl (a := 0) (j := 47) bkX9_ofFarm_0 rfl) (bA_sl (a := 0) (j := 48) bkX9_ofFarm_0 rfl) (by decide) (by decide)
theorem dX9_ofFarm_49 : DR cX9_ofFarm 49 (.goto (-44)) 3 := dk_167 (bA_sl (a := 0) (j := 49) bkX9_ofFarm_0 rfl) (bA_sl (a := 0) (j := 50) bkX9_ofFarm_0 rfl) (bA_sl (a := 0) (j := 51) bkX9_ofFarm_0 rfl) (by decide) (by decide)
theorem dX9_ofFarm_52 : DR cX9_ofFarm 52 (.iload_n 3) 1 := dk_29 (bA_sl (a := 0) (j := 52) bkX9_ofFarm_0 rfl)
theorem dX9_ofFarm_53 : DR cX9_ofFarm 53 (.ireturn) 1 := dk_172 (bA_sl (a := 0) (j := 53) bkX9_ofFarm_0 rfl)
theorem bkX9_stripsOf_0 : ((cX9_stripsOf.data.toList.drop 0).take 64).map UInt8.toNat = [3, 61, 3, 62, 29, 42, 180, 0, 13, 3, 46, 162, 0, 32, 28, 42, 180, 0, 13, 16, 64, 29, 96, 46, 27, 160, 0, 9, 4, 29, 120, 167, 0, 4, 3, 128, 61, 132, 3, 1, 167, 255, 220, 28, 172] := by decide +kernel
theorem dX9_stripsOf_0 : DR cX9_stripsOf 0 (.iconst 0) 1 := dk_3 (bA_sl (a := 0) (j := 0) bkX9_stripsOf_0 rfl)
theorem dX9_stripsOf_1 : DR cX9_stripsOf 1 (.istore_n 2) 1 := dk_61 (bA_sl (a := 0) (j := 1) bkX9_stripsOf_0 rfl)
theorem dX9_stripsOf_2 : DR cX9_stripsOf 2 (.iconst 0) 1 := dk_3 (bA_sl (a := 0) (j := 2) bkX9_stripsOf_0 rfl)
theorem dX9_stripsOf_3 : DR cX9_stripsOf 3 (.istore_n 3) 1 := dk_62 (bA_sl (a := 0) (j := 3) bkX9_stripsOf_0 rfl)
theorem dX9_stripsOf_4 : DR cX9_stripsOf 4 (.iload_n 3) 1 := dk_29 (bA_sl (a := 0) (j := 4) bkX9_stripsOf_0 rfl)
theorem dX9_stripsOf_5 : DR cX9_stripsOf 5 (.aload_n 0) 1 := dk_42 (bA_sl (a := 0) (j := 5) bkX9_stripsOf_0 rfl)
theorem dX9_stripsOf_6 : DR cX9_stripsOf 6 (.getfield 13) 3 := dk_180 (bA_sl (a := 0) (j := 6) bkX9_stripsOf_0 rfl) (bA_sl (a := 0) (j := 7) bkX9_stripsOf_0 rfl) (bA_sl (a := 0) (j := 8) bkX9_stripsOf_0 rfl) (by decide) rfl
theorem dX9_stripsOf_9 : DR cX9_stripsOf 9 (.iconst 0) 1 := dk_3 (bA_sl (a := 0) (j := 9) bkX9_stripsOf_0 rfl)
theorem dX9_stripsOf_10 : DR cX9_stripsOf 10 (.iaload) 1 := dk_46 (bA_sl (a := 0) (j := 10) bkX9_stripsOf_0 rfl)
theorem dX9_stripsOf_11 : DR cX9_stripsOf 11 (.if_icmp .ge 32) 3 := dk_162 (bA_sl (a := 0) (j := 11) bkX9_stripsOf_0 rfl) (bA_sl (a := 0) (j := 12) bkX9_stripsOf_0 rfl) (bA_sl (a := 0) (j := 13) bkX9_stripsOf_0 rfl) (by decide) (by decide)
theorem dX9_stripsOf_14 : DR cX9_stripsOf 14 (.iload_n 2) 1 := dk_28 (bA_sl (a := 0) (j := 14) bkX9_stripsOf_0 rfl)
theorem dX9_stripsOf_15 : DR cX9_stripsOf 15 (.aload_n 0) 1 := dk_42 (bA_sl (a := 0) (j := 15) bkX9_stripsOf_0 rfl)
theorem dX9_stripsOf_16 : DR cX9_stripsOf 16 (.getfield 13) 3 := dk_180 (bA_sl (a := 0) (j := 16) bkX9_stripsOf_0 rfl) (bA_sl (a := 0) (j := 17) bkX9_stripsOf_0 rfl) (bA_sl (a := 0) (j := 18) bkX9_stripsOf_0 rfl) (by decide) rfl
theorem dX9_stripsOf_19 : DR cX9_stripsOf 19 (.bipush 64) 2 := dk_16 (bA_sl (a := 0) (j := 19) bkX9_stripsOf_0 rfl) (bA_sl (a := 0) (j := 20) bkX9_stripsOf_0 rfl) (by decide) (by decide)
theorem dX9_stripsOf_21 : DR cX9_stripsOf 21 (.iload_n 3) 1 := dk_29 (bA_sl (a := 0) (j := 21) bkX9_stripsOf_0 rfl)
theorem dX9_stripsOf_22 : DR cX9_stripsOf 22 (.iadd) 1 := dk_96 (bA_sl (a := 0) (j := 22) bkX9_stripsOf_0 rfl)
theorem dX9_stripsOf_23 : DR cX9_stripsOf 23 (.iaload) 1 := dk_46 (bA_sl (a := 0) (j := 23) bkX9_stripsOf_0 rfl)
theorem dX9_stripsOf_24 : DR cX9_stripsOf 24 (.iload_n 1) 1 := dk_27 (bA_sl (a := 0) (j := 24) bkX9_stripsOf_0 rfl)
theorem dX9_stripsOf_25 : DR cX9_stripsOf 25 (.if_icmp .ne 9) 3 := dk_160 (bA_sl (a := 0) (j := 25) bkX9_stripsOf_0 rfl) (bA_sl (a := 0) (j := 26) bkX9_stripsOf_0 rfl) (bA_sl (a := 0) (j := 27) bkX9_stripsOf_0 rfl) (by decide) (by decide)
theorem dX9_stripsOf_28 : DR cX9_stripsOf 28 (.iconst 1) 1 := dk_4 (bA_sl (a := 0) (j := 28) bkX9_stripsOf_0 rfl)
theorem dX9_stripsOf_29 : DR cX9_stripsOf 29 (.iload_n 3) 1 := dk_29 (bA_sl (a := 0) (j := 29) bkX9_stripsOf_0 rfl)
theorem dX9_stripsOf_30 : DR cX9_stripsOf 30 (.ishl) 1 := dk_120 (bA_sl (a := 0) (j := 30) bkX9_stripsOf_0 rfl)
theorem dX9_stripsOf_31 : DR cX9_stripsOf 31 (.goto 4) 3 := dk_167 (bA_sl (a := 0) (j := 31) bkX9_stripsOf_0 rfl) (bA_sl (a := 0) (j := 32) bkX9_stripsOf_0 rfl) (bA_sl (a := 0) (j := 33) bkX9_stripsOf_0 rfl) (by decide) (by decide)
theorem dX9_stripsOf_34 : DR cX9_stripsOf 34 (.iconst 0) 1 := dk_3 (bA_sl (a := 0) (j := 34) bkX9_stripsOf_0 rfl)
theorem dX9_stripsOf_35 : DR cX9_stripsOf 35 (.ior) 1 := dk_128 (bA_sl (a := 0) (j := 35) bkX9_stripsOf_0 rfl)
theorem dX9_stripsOf_36 : DR cX9_stripsOf 36 (.istore_n 2) 1 := dk_61 (bA_sl (a := 0) (j := 36) bkX9_stripsOf_0 rfl)
theorem dX9_stripsOf_37 : DR cX9_stripsOf 37 (.iinc 3 1) 3 := dk_132 (bA_sl (a := 0) (j := 37) bkX9_stripsOf_0 rfl) (bA_sl (a := 0) (j := 38) bkX9_stripsOf_0 rfl) (bA_sl (a := 0) (j := 39) bkX9_stripsOf_0 rfl) (by decide) (by decide)
theorem dX9_stripsOf_40 : DR cX9_stripsOf 40 (.goto (-36)) 3 := dk_167 (bA_sl (a := 0) (j := 40) bkX9_stripsOf_0 rfl) (bA_sl (a := 0) (j := 41) bkX9_stripsOf_0 rfl) (bA_sl (a := 0) (j := 42) bkX9_stripsOf_0 rfl) (by decide) (by decide)
theorem dX9_stripsOf_43 : DR cX9_stripsOf 43 (.iload_n 2) 1 := dk_28 (bA_sl (a := 0) (j := 43) bkX9_stripsOf_0 rfl)
theorem dX9_stripsOf_44 : DR cX9_stripsOf 44 (.ireturn) 1 := dk_172 (bA_sl (a := 0) (j := 44) bkX9_stripsOf_0 rfl)
theorem bkX9_farm_0 : ((cX9_farm.data.toList.drop 0).take 64).map UInt8.toNat = [42, 3, 181, 0, 1, 27, 133, 9, 20, 0, 175, 184, 0, 128, 153, 0, 15, 28, 133, 9, 20, 0, 180, 184, 0, 128, 154, 0, 6, 16, 254, 172, 28, 154, 0, 13, 42, 27, 16, 80, 182, 0, 182, 167, 0, 40, 28, 4, 160, 0, 13, 42, 27, 16, 16, 182, 0, 182, 167, 0, 25, 28, 5, 160] := by decide +kernel
