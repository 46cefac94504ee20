theorem dX6_advance_108 : DR cX6_advance 108 (.iconst 3) 1 := dk_6 (bA_sl (a := 64) (j := 44) bkX6_advance_1 rfl)
theorem dX6_advance_109 : DR cX6_advance 109 (.if_icmp .le 7) 3 := dk_164 (bA_sl (a := 64) (j := 45) bkX6_advance_1 rfl) (bA_sl (a := 64) (j := 46) bkX6_advance_1 rfl) (bA_sl (a := 64) (j := 47) bkX6_advance_1 rfl) (by decide) (by decide)
theorem dX6_advance_112 : DR cX6_advance 112 (.iconst 4) 1 := dk_7 (bA_sl (a := 64) (j := 48) bkX6_advance_1 rfl)
theorem dX6_advance_113 : DR cX6_advance 113 (.goto 4) 3 := dk_167 (bA_sl (a := 64) (j := 49) bkX6_advance_1 rfl) (bA_sl (a := 64) (j := 50) bkX6_advance_1 rfl) (bA_sl (a := 64) (j := 51) bkX6_advance_1 rfl) (by decide) (by decide)
theorem dX6_advance_116 : DR cX6_advance 116 (.iconst 2) 1 := dk_5 (bA_sl (a := 64) (j := 52) bkX6_advance_1 rfl)
theorem dX6_advance_117 : DR cX6_advance 117 (.putfield 38) 3 := dk_181 (bA_sl (a := 64) (j := 53) bkX6_advance_1 rfl) (bA_sl (a := 64) (j := 54) bkX6_advance_1 rfl) (bA_sl (a := 64) (j := 55) bkX6_advance_1 rfl) (by decide) rfl
theorem dX6_advance_120 : DR cX6_advance 120 (.aload_n 0) 1 := dk_42 (bA_sl (a := 64) (j := 56) bkX6_advance_1 rfl)
theorem dX6_advance_121 : DR cX6_advance 121 (.invokevirtual 170) 3 := dk_182 (bA_sl (a := 64) (j := 57) bkX6_advance_1 rfl) (bA_sl (a := 64) (j := 58) bkX6_advance_1 rfl) (bA_sl (a := 64) (j := 59) bkX6_advance_1 rfl) (by decide) rfl
theorem dX6_advance_124 : DR cX6_advance 124 (.goto 32) 3 := dk_167 (bA_sl (a := 64) (j := 60) bkX6_advance_1 rfl) (bA_sl (a := 64) (j := 61) bkX6_advance_1 rfl) (bA_sl (a := 64) (j := 62) bkX6_advance_1 rfl) (by decide) (by decide)
theorem dX6_advance_127 : DR cX6_advance 127 (.aload_n 0) 1 := dk_42 (bA_sl (a := 64) (j := 63) bkX6_advance_1 rfl)
theorem bkX6_advance_2 : ((cX6_advance.data.toList.drop 128).take 64).map UInt8.toNat = [6, 181, 0, 38, 167, 0, 24, 42, 42, 180, 0, 32, 181, 0, 35, 42, 3, 181, 0, 38, 167, 0, 8, 42, 7, 181, 0, 38, 177] := by decide +kernel
theorem dX6_advance_128 : DR cX6_advance 128 (.iconst 3) 1 := dk_6 (bA_sl (a := 128) (j := 0) bkX6_advance_2 rfl)
theorem dX6_advance_129 : DR cX6_advance 129 (.putfield 38) 3 := dk_181 (bA_sl (a := 128) (j := 1) bkX6_advance_2 rfl) (bA_sl (a := 128) (j := 2) bkX6_advance_2 rfl) (bA_sl (a := 128) (j := 3) bkX6_advance_2 rfl) (by decide) rfl
theorem dX6_advance_132 : DR cX6_advance 132 (.goto 24) 3 := dk_167 (bA_sl (a := 128) (j := 4) bkX6_advance_2 rfl) (bA_sl (a := 128) (j := 5) bkX6_advance_2 rfl) (bA_sl (a := 128) (j := 6) bkX6_advance_2 rfl) (by decide) (by decide)
theorem dX6_advance_135 : DR cX6_advance 135 (.aload_n 0) 1 := dk_42 (bA_sl (a := 128) (j := 7) bkX6_advance_2 rfl)
theorem dX6_advance_136 : DR cX6_advance 136 (.aload_n 0) 1 := dk_42 (bA_sl (a := 128) (j := 8) bkX6_advance_2 rfl)
theorem dX6_advance_137 : DR cX6_advance 137 (.getfield 32) 3 := dk_180 (bA_sl (a := 128) (j := 9) bkX6_advance_2 rfl) (bA_sl (a := 128) (j := 10) bkX6_advance_2 rfl) (bA_sl (a := 128) (j := 11) bkX6_advance_2 rfl) (by decide) rfl
theorem dX6_advance_140 : DR cX6_advance 140 (.putfield 35) 3 := dk_181 (bA_sl (a := 128) (j := 12) bkX6_advance_2 rfl) (bA_sl (a := 128) (j := 13) bkX6_advance_2 rfl) (bA_sl (a := 128) (j := 14) bkX6_advance_2 rfl) (by decide) rfl
theorem dX6_advance_143 : DR cX6_advance 143 (.aload_n 0) 1 := dk_42 (bA_sl (a := 128) (j := 15) bkX6_advance_2 rfl)
theorem dX6_advance_144 : DR cX6_advance 144 (.iconst 0) 1 := dk_3 (bA_sl (a := 128) (j := 16) bkX6_advance_2 rfl)
theorem dX6_advance_145 : DR cX6_advance 145 (.putfield 38) 3 := dk_181 (bA_sl (a := 128) (j := 17) bkX6_advance_2 rfl) (bA_sl (a := 128) (j := 18) bkX6_advance_2 rfl) (bA_sl (a := 128) (j := 19) bkX6_advance_2 rfl) (by decide) rfl
theorem dX6_advance_148 : DR cX6_advance 148 (.goto 8) 3 := dk_167 (bA_sl (a := 128) (j := 20) bkX6_advance_2 rfl) (bA_sl (a := 128) (j := 21) bkX6_advance_2 rfl) (bA_sl (a := 128) (j := 22) bkX6_advance_2 rfl) (by decide) (by decide)
theorem dX6_advance_151 : DR cX6_advance 151 (.aload_n 0) 1 := dk_42 (bA_sl (a := 128) (j := 23) bkX6_advance_2 rfl)
theorem dX6_advance_152 : DR cX6_advance 152 (.iconst 4) 1 := dk_7 (bA_sl (a := 128) (j := 24) bkX6_advance_2 rfl)
theorem dX6_advance_153 : DR cX6_advance 153 (.putfield 38) 3 := dk_181 (bA_sl (a := 128) (j := 25) bkX6_advance_2 rfl) (bA_sl (a := 128) (j := 26) bkX6_advance_2 rfl) (bA_sl (a := 128) (j := 27) bkX6_advance_2 rfl) (by decide) rfl
theorem dX6_advance_156 : DR cX6_advance 156 (.return_) 1 := dk_177 (bA_sl (a := 128) (j := 28) bkX6_advance_2 rfl)
theorem bkX6_endOf_0 : ((cX6_endOf.data.toList.drop 0).take 64).map UInt8.toNat = [28, 62, 29, 42, 180, 0, 29, 162, 0, 18, 42, 29, 182, 0, 166, 27, 160, 0, 9, 132, 3, 1, 167, 255, 236, 29, 172] := by decide +kernel
theorem dX6_endOf_0 : DR cX6_endOf 0 (.iload_n 2) 1 := dk_28 (bA_sl (a := 0) (j := 0) bkX6_endOf_0 rfl)
theorem dX6_endOf_1 : DR cX6_endOf 1 (.istore_n 3) 1 := dk_62 (bA_sl (a := 0) (j := 1) bkX6_endOf_0 rfl)
theorem dX6_endOf_2 : DR cX6_endOf 2 (.iload_n 3) 1 := dk_29 (bA_sl (a := 0) (j := 2) bkX6_endOf_0 rfl)
theorem dX6_endOf_3 : DR cX6_endOf 3 (.aload_n 0) 1 := dk_42 (bA_sl (a := 0) (j := 3) bkX6_endOf_0 rfl)
theorem dX6_endOf_4 : DR cX6_endOf 4 (.getfield 29) 3 := dk_180 (bA_sl (a := 0) (j := 4) bkX6_endOf_0 rfl) (bA_sl (a := 0) (j := 5) bkX6_endOf_0 rfl) (bA_sl (a := 0) (j := 6) bkX6_endOf_0 rfl) (by decide) rfl
theorem dX6_endOf_7 : DR cX6_endOf 7 (.if_icmp .ge 18) 3 := dk_162 (bA_sl (a := 0) (j := 7) bkX6_endOf_0 rfl) (bA_sl (a := 0) (j := 8) bkX6_endOf_0 rfl) (bA_sl (a := 0) (j := 9) bkX6_endOf_0 rfl) (by decide) (by decide)
theorem dX6_endOf_10 : DR cX6_endOf 10 (.aload_n 0) 1 := dk_42 (bA_sl (a := 0) (j := 10) bkX6_endOf_0 rfl)
theorem dX6_endOf_11 : DR cX6_endOf 11 (.iload_n 3) 1 := dk_29 (bA_sl (a := 0) (j := 11) bkX6_endOf_0 rfl)
theorem dX6_endOf_12 : DR cX6_endOf 12 (.invokevirtual 166) 3 := dk_182 (bA_sl (a := 0) (j := 12) bkX6_endOf_0 rfl) (bA_sl (a := 0) (j := 13) bkX6_endOf_0 rfl) (bA_sl (a := 0) (j := 14) bkX6_endOf_0 rfl) (by decide) rfl
theorem dX6_endOf_15 : DR cX6_endOf 15 (.iload_n 1) 1 := dk_27 (bA_sl (a := 0) (j := 15) bkX6_endOf_0 rfl)
theorem dX6_endOf_16 : DR cX6_endOf 16 (.if_icmp .ne 9) 3 := dk_160 (bA_sl (a := 0) (j := 16) bkX6_endOf_0 rfl) (bA_sl (a := 0) (j := 17) bkX6_endOf_0 rfl) (bA_sl (a := 0) (j := 18) bkX6_endOf_0 rfl) (by decide) (by decide)
theorem dX6_endOf_19 : DR cX6_endOf 19 (.iinc 3 1) 3 := dk_132 (bA_sl (a := 0) (j := 19) bkX6_endOf_0 rfl) (bA_sl (a := 0) (j := 20) bkX6_endOf_0 rfl) (bA_sl (a := 0) (j := 21) bkX6_endOf_0 rfl) (by decide) (by decide)
theorem dX6_endOf_22 : DR cX6_endOf 22 (.goto (-20)) 3 := dk_167 (bA_sl (a := 0) (j := 22) bkX6_endOf_0 rfl) (bA_sl (a := 0) (j := 23) bkX6_endOf_0 rfl) (bA_sl (a := 0) (j := 24) bkX6_endOf_0 rfl) (by decide) (by decide)
theorem dX6_endOf_25 : DR cX6_endOf 25 (.iload_n 3) 1 := dk_29 (bA_sl (a := 0) (j := 25) bkX6_endOf_0 rfl)
theorem dX6_endOf_26 : DR cX6_endOf 26 (.ireturn) 1 := dk_172 (bA_sl (a := 0) (j := 26) bkX6_endOf_0 rfl)
theorem bkX6_kindAt_0 : ((cX6_kindAt.data.toList.drop 0).take 64).map UInt8.toNat = [27, 155, 0, 11, 27, 42, 180, 0, 29, 161, 0, 5, 3, 172, 42, 180, 0, 25, 27, 51, 61, 28, 16, 97, 161, 0, 11, 28, 16, 122, 163, 0, 5, 5, 172, 28, 16, 48, 161, 0, 11, 28, 16, 57, 163, 0, 5, 6, 172, 28, 16, 10, 159, 0, 9, 28, 16, 32, 160, 0, 5, 4, 172, 28] := by decide +kernel
theorem dX6_kindAt_0 : DR cX6_kindAt 0 (.iload_n 1) 1 := dk_27 (bA_sl (a := 0) (j := 0) bkX6_kindAt_0 rfl)
theorem dX6_kindAt_1 : DR cX6_kindAt 1 (.ifCond .lt 11) 3 := dk_155 (bA_sl (a := 0) (j := 1) bkX6_kindAt_0 rfl) (bA_sl (a := 0) (j := 2) bkX6_kindAt_0 rfl) (bA_sl (a := 0) (j := 3) bkX6_kindAt_0 rfl) (by decide) (by decide)
theorem dX6_kindAt_4 : DR cX6_kindAt 4 (.iload_n 1) 1 := dk_27 (bA_sl (a := 0) (j := 4) bkX6_kindAt_0 rfl)
theorem dX6_kindAt_5 : DR cX6_kindAt 5 (.aload_n 0) 1 := dk_42 (bA_sl (a := 0) (j := 5) bkX6_kindAt_0 rfl)
theorem dX6_kindAt_6 : DR cX6_kindAt 6 (.getfield 29) 3 := dk_180 (bA_sl (a := 0) (j := 6) bkX6_kindAt_0 rfl) (bA_sl (a := 0) (j := 7) bkX6_kindAt_0 rfl) (bA_sl (a := 0) (j := 8) bkX6_kindAt_0 rfl) (by decide) rfl
theorem dX6_kindAt_9 : DR cX6_kindAt 9 (.if_icmp .lt 5) 3 := dk_161 (bA_sl (a := 0) (j := 9) bkX6_kindAt_0 rfl) (bA_sl (a := 0) (j := 10) bkX6_kindAt_0 rfl) (bA_sl (a := 0) (j := 11) bkX6_kindAt_0 rfl) (by decide) (by decide)
theorem dX6_kindAt_12 : DR cX6_kindAt 12 (.iconst 0) 1 := dk_3 (bA_sl (a := 0) (j := 12) bkX6_kindAt_0 rfl)
theorem dX6_kindAt_13 : DR cX6_kindAt 13 (.ireturn) 1 := dk_172 (bA_sl (a := 0) (j := 13) bkX6_kindAt_0 rfl)
theorem dX6_kindAt_14 : DR cX6_kindAt 14 (.aload_n 0) 1 := dk_42 (bA_sl (a := 0) (j := 14) bkX6_kindAt_0 rfl)
theorem dX6_kindAt_15 : DR cX6_kindAt 15 (.getfield 25) 3 := dk_180 (bA_sl (a := 0) (j := 15) bkX6_kindAt_0 rfl) (bA_sl (a := 0) (j := 16) bkX6_kindAt_0 rfl) (bA_sl (a := 0) (j := 17) bkX6_kindAt_0 rfl) (by decide) rfl
theorem dX6_kindAt_18 : DR cX6_kindAt 18 (.iload_n 1) 1 := dk_27 (bA_sl (a := 0) (j := 18) bkX6_kindAt_0 rfl)
theorem dX6_kindAt_19 : DR cX6_kindAt 19 (.baload) 1 := dk_51 (bA_sl (a := 0) (j := 19) bkX6_kindAt_0 rfl)
theorem dX6_kindAt_20 : DR cX6_kindAt 20 (.istore_n 2) 1 := dk_61 (bA_sl (a := 0) (j := 20) bkX6_kindAt_0 rfl)
theorem dX6_kindAt_21 : DR cX6_kindAt 21 (.iload_n 2) 1 := dk_28 (bA_sl (a := 0) (j := 21) bkX6_kindAt_0 rfl)
theorem dX6_kindAt_22 : DR cX6_kindAt 22 (.bipush 97) 2 := dk_16 (bA_sl (a := 0) (j := 22) bkX6_kindAt_0 rfl) (bA_sl (a := 0) (j := 23) bkX6_kindAt_0 rfl) (by decide) (by decide)
theorem dX6_kindAt_24 : DR cX6_kindAt 24 (.if_icmp .lt 11) 3 := dk_161 (bA_sl (a := 0) (j := 24) bkX6_kindAt_0 rfl) (bA_sl (a := 0) (j := 25) bkX6_kindAt_0 rfl) (bA_sl (a := 0) (j := 26) bkX6_kindAt_0 rfl) (by decide) (by decide)
theorem dX6_kindAt_27 : DR cX6_kindAt 27 (.iload_n 2) 1 := dk_28 (bA_sl (a := 0) (j := 27) bkX6_kindAt_0 rfl)
theorem dX6_kindAt_28 : DR cX6_kindAt 28 (.bipush 122) 2 := dk_16 (bA_sl (a := 0) (j := 28) bkX6_kindAt_0 rfl) (bA_sl (a := 0) (j := 29) bkX6_kindAt_0 rfl) (by decide) (by decide)
theorem dX6_kindAt_30 : DR cX6_kindAt 30 (.if_icmp .gt 5) 3 := dk_163 (bA_sl (a := 0) (j := 30) bkX6_kindAt_0 rfl) (bA_sl (a := 0) (j := 31) bkX6_kindAt_0 rfl) (bA_sl (a := 0) (j := 32) bkX6_kindAt_0 rfl) (by decide) (by decide)
theorem dX6_kindAt_33 : DR cX6_kindAt 33 (.iconst 2) 1 := dk_5 (bA_sl (a := 0) (j := 33) bkX6_kindAt_0 rfl)
theorem dX6_kindAt_34 : DR cX6_kindAt 34 (.ireturn) 1 := dk_172 (bA_sl (a := 0) (j := 34) bkX6_kindAt_0 rfl)
theorem dX6_kindAt_35 : DR cX6_kindAt 35 (.iload_n 2) 1 := dk_28 (bA_sl (a := 0) (j := 35) bkX6_kindAt_0 rfl)
theorem dX6_kindAt_36 : DR cX6_kindAt 36 (.bipush 48) 2 := dk_16 (bA_sl (a := 0) (j := 36) bkX6_kindAt_0 rfl) (bA_sl (a := 0) (j := 37) bkX6_kindAt_0 rfl) (by decide) (by decide)
theorem dX6_kindAt_38 : DR cX6_kindAt 38 (.if_icmp .lt 11) 3 := dk_161 (bA_sl (a := 0) (j := 38) bkX6_kindAt_0 rfl) (bA_sl (a := 0) (j := 39) bkX6_kindAt_0 rfl) (bA_sl (a := 0) (j := 40) bkX6_kindAt_0 rfl) (by decide) (by decide)
theorem dX6_kindAt_41 : DR cX6_kindAt 41 (.iload_n 2) 1 := dk_28 (bA_sl (a := 0) (j := 41) bkX6_kindAt_0 rfl)
theorem dX6_kindAt_42 : DR cX6_kindAt 42 (.bipush 57) 2 := dk_16 (bA_sl (a := 0) (j := 42) bkX6_kindAt_0 rfl) (bA_sl (a := 0) (j := 43) bkX6_kindAt_0 rfl) (by decide) (by decide)
theorem dX6_kindAt_44 : DR cX6_kindAt 44 (.if_icmp .gt 5) 3 := dk_163 (bA_sl (a := 0) (j := 44) bkX6_kindAt_0 rfl) (bA_sl (a := 0) (j := 45) bkX6_kindAt_0 rfl) (bA_sl (a := 0) (j := 46) bkX6_kindAt_0 rfl) (by decide) (by decide)
theorem dX6_kindAt_47 : DR cX6_kindAt 47 (.iconst 3) 1 := dk_6 (bA_sl (a := 0) (j := 47) bkX6_kindAt_0 rfl)
theorem dX6_kindAt_48 : DR cX6_kindAt 48 (.ireturn) 1 := dk_172 (bA_sl (a := 0) (j := 48) bkX6_kindAt_0 rfl)
theorem dX6_kindAt_49 : DR cX6_kindAt 49 (.iload_n 2) 1 := dk_28 (bA_sl (a := 0) (j := 49) bkX6_kindAt_0 rfl)
theorem dX6_kindAt_50 : DR cX6_kindAt 50 (.bipush 10) 2 := dk_16 (bA_sl (a := 0) (j := 50) bkX6_kindAt_0 rfl) (bA_sl (a := 0) (j := 51) bkX6_kindAt_0 rfl) (by decide) (by decide)
theorem dX6_kindAt_52 : DR cX6_kindAt 52 (.if_icmp .eq 9) 3 := dk_159 (bA_sl (a := 0) (j := 52) bkX6_kindAt_0 rfl) (bA_sl (a := 0) (j := 53) bkX6_kindAt_0 rfl) (bA_sl (a := 0) (j := 54) bkX6_kindAt_0 rfl) (by decide) (by decide)
theorem dX6_kindAt_55 : DR cX6_kindAt 55 (.iload_n 2) 1 := dk_28 (bA_sl (a := 0) (j := 55) bkX6_kindAt_0 rfl)
theorem dX6_kindAt_56 : DR cX6_kindAt 56 (.bipush 32) 2 := dk_16 (bA_sl (a := 0) (j := 56) bkX6_kindAt_0 rfl) (bA_sl (a := 0) (j := 57) bkX6_kindAt_0 rfl) (by decide) (by decide)
theorem dX6_kindAt_58 : DR cX6_kindAt 58 (.if_icmp .ne 5) 3 := dk_160 (bA_sl (a := 0) (j := 58) bkX6_kindAt_0 rfl) (bA_sl (a := 0) (j := 59) bkX6_kindAt_0 rfl) (bA_sl (a := 0) (j := 60) bkX6_kindAt_0 rfl) (by decide) (by decide)
theorem dX6_kindAt_61 : DR cX6_kindAt 61 (.iconst 1) 1 := dk_4 (bA_sl (a := 0) (j := 61) bkX6_kindAt_0 rfl)
theorem dX6_kindAt_62 : DR cX6_kindAt 62 (.ireturn) 1 := dk_172 (bA_sl (a := 0) (j := 62) bkX6_kindAt_0 rfl)
theorem dX6_kindAt_63 : DR cX6_kindAt 63 (.iload_n 2) 1 := dk_28 (bA_sl (a := 0) (j := 63) bkX6_kindAt_0 rfl)
theorem bkX6_kindAt_1 : ((cX6_kindAt.data.toList.drop 64).take 64).map UInt8.toNat = [16, 59, 160, 0, 7, 7, 167, 0, 4, 8, 172] := by decide +kernel
theorem dX6_kindAt_64 : DR cX6_kindAt 64 (.bipush 59) 2 := dk_16 (bA_sl (a := 64) (j := 0) bkX6_kindAt_1 rfl) (bA_sl (a := 64) (j := 1) bkX6_kindAt_1 rfl) (by decide) (by decide)
theorem dX6_kindAt_66 : DR cX6_kindAt 66 (.if_icmp .ne 7) 3 := dk_160 (bA_sl (a := 64) (j := 2) bkX6_kindAt_1 rfl) (bA_sl (a := 64) (j := 3) bkX6_kindAt_1 rfl) (bA_sl (a := 64) (j := 4) bkX6_kindAt_1 rfl) (by decide) (by decide)
theorem dX6_kindAt_69 : DR cX6_kindAt 69 (.iconst 4) 1 := dk_7 (bA_sl (a := 64) (j := 5) bkX6_kindAt_1 rfl)
theorem dX6_kindAt_70 : DR cX6_kindAt 70 (.goto 4) 3 := dk_167 (bA_sl (a := 64) (j := 6) bkX6_kindAt_1 rfl) (bA_sl (a := 64) (j := 7) bkX6_kindAt_1 rfl) (bA_sl (a := 64) (j := 8) bkX6_kindAt_1 rfl) (by decide) (by decide)
theorem dX6_kindAt_73 : DR cX6_kindAt 73 (.iconst 5) 1 := dk_8 (bA_sl (a := 64) (j := 9) bkX6_kindAt_1 rfl)
theorem dX6_kindAt_74 : DR cX6_kindAt 74 (.ireturn) 1 := dk_172 (bA_sl (a := 64) (j := 10) bkX6_kindAt_1 rfl)
theorem bkX6_readValue_0 : ((cX6_readValue.data.toList.drop 0).take 64).map UInt8.toNat = [42, 3, 181, 0, 41, 42, 180, 0, 35, 42, 180, 0, 32, 6, 96, 184, 0, 44, 60, 42, 180, 0, 32, 61, 28, 27, 162, 0, 30, 42, 42, 180, 0, 41, 16, 10, 104, 42, 180, 0, 25, 28, 51, 96, 16, 48, 100, 181, 0, 41, 132, 2, 1, 167, 255, 227, 177] := by decide +kernel
theorem dX6_readValue_0 : DR cX6_readValue 0 (.aload_n 0) 1 := dk_42 (bA_sl (a := 0) (j := 0) bkX6_readValue_0 rfl)
theorem dX6_readValue_1 : DR cX6_readValue 1 (.iconst 0) 1 := dk_3 (bA_sl (a := 0) (j := 1) bkX6_readValue_0 rfl)
theorem dX6_readValue_2 : DR cX6_readValue 2 (.putfield 41) 3 := dk_181 (bA_sl (a := 0) (j := 2) bkX6_readValue_0 rfl) (bA_sl (a := 0) (j := 3) bkX6_readValue_0 rfl) (bA_sl (a := 0) (j := 4) bkX6_readValue_0 rfl) (by decide) rfl
theorem dX6_readValue_5 : DR cX6_readValue 5 (.aload_n 0) 1 := dk_42 (bA_sl (a := 0) (j := 5) bkX6_readValue_0 rfl)
theorem dX6_readValue_6 : DR cX6_readValue 6 (.getfield 35) 3 := dk_180 (bA_sl (a := 0) (j := 6) bkX6_readValue_0 rfl) (bA_sl (a := 0) (j := 7) bkX6_readValue_0 rfl) (bA_sl (a := 0) (j := 8) bkX6_readValue_0 rfl) (by decide) rfl
theorem dX6_readValue_9 : DR cX6_readValue 9 (.aload_n 0) 1 := dk_42 (bA_sl (a := 0) (j := 9) bkX6_readValue_0 rfl)
theorem dX6_readValue_10 : DR cX6_readValue 10 (.getfield 32) 3 := dk_180 (bA_sl (a := 0) (j := 10) bkX6_readValue_0 rfl) (bA_sl (a := 0) (j := 11) bkX6_readValue_0 rfl) (bA_sl (a := 0) (j := 12) bkX6_readValue_0 rfl) (by decide) rfl
theorem dX6_readValue_13 : DR cX6_readValue 13 (.iconst 3) 1 := dk_6 (bA_sl (a := 0) (j := 13) bkX6_readValue_0 rfl)
theorem dX6_readValue_14 : DR cX6_readValue 14 (.iadd) 1 := dk_96 (bA_sl (a := 0) (j := 14) bkX6_readValue_0 rfl)
theorem dX6_readValue_15 : DR cX6_readValue 15 (.invokestatic 44) 3 := dk_184 (bA_sl (a := 0) (j := 15) bkX6_readValue_0 rfl) (bA_sl (a := 0) (j := 16) bkX6_readValue_0 rfl) (bA_sl (a := 0) (j := 17) bkX6_readValue_0 rfl) (by decide) rfl
theorem dX6_readValue_18 : DR cX6_readValue 18 (.istore_n 1) 1 := dk_60 (bA_sl (a := 0) (j := 18) bkX6_readValue_0 rfl)
theorem dX6_readValue_19 : DR cX6_readValue 19 (.aload_n 0) 1 := dk_42 (bA_sl (a := 0) (j := 19) bkX6_readValue_0 rfl)
theorem dX6_readValue_20 : DR cX6_readValue 20 (.getfield 32) 3 := dk_180 (bA_sl (a := 0) (j := 20) bkX6_readValue_0 rfl) (bA_sl (a := 0) (j := 21) bkX6_readValue_0 rfl) (bA_sl (a := 0) (j := 22) bkX6_readValue_0 rfl) (by decide) rfl
theorem dX6_readValue_23 : DR cX6_readValue 23 (.istore_n 2) 1 := dk_61 (bA_sl (a := 0) (j := 23) bkX6_readValue_0 rfl)
theorem dX6_readValue_24 : DR cX6_readValue 24 (.iload_n 2) 1 := dk_28 (bA_sl (a := 0) (j := 24) bkX6_readValue_0 rfl)
theorem dX6_readValue_25 : DR cX6_readValue 25 (.iload_n 1) 1 := dk_27 (bA_sl (a := 0) (j := 25) bkX6_readValue_0 rfl)
theorem dX6_readValue_26 : DR cX6_readValue 26 (.if_icmp .ge 30) 3 := dk_162 (bA_sl (a := 0) (j := 26) bkX6_readValue_0 rfl) (bA_sl (a := 0) (j := 27) bkX6_readValue_0 rfl) (bA_sl (a := 0) (j := 28) bkX6_readValue_0 rfl) (by decide) (by decide)
theorem dX6_readValue_29 : DR cX6_readValue 29 (.aload_n 0) 1 := dk_42 (bA_sl (a := 0) (j := 29) bkX6_readValue_0 rfl)
theorem dX6_readValue_30 : DR cX6_readValue 30 (.aload_n 0) 1 := dk_42 (bA_sl (a := 0) (j := 30) bkX6_readValue_0 rfl)
theorem dX6_readValue_31 : DR cX6_readValue 31 (.getfield 41) 3 := dk_180 (bA_sl (a := 0) (j := 31) bkX6_readValue_0 rfl) (bA_sl (a := 0) (j := 32) bkX6_readValue_0 rfl) (bA_sl (a := 0) (j := 33) bkX6_readValue_0 rfl) (by decide) rfl
theorem dX6_readValue_34 : DR cX6_readValue 34 (.bipush 10) 2 := dk_16 (bA_sl (a := 0) (j := 34) bkX6_readValue_0 rfl) (bA_sl (a := 0) (j := 35) bkX6_readValue_0 rfl) (by decide) (by decide)
theorem dX6_readValue_36 : DR cX6_readValue 36 (.imul) 1 := dk_104 (bA_sl (a := 0) (j := 36) bkX6_readValue_0 rfl)
theorem dX6_readValue_37 : DR cX6_readValue 37 (.aload_n 0) 1 := dk_42 (bA_sl (a := 0) (j := 37) bkX6_readValue_0 rfl)
theorem dX6_readValue_38 : DR cX6_readValue 38 (.getfield 25) 3 := dk_180 (bA_sl (a := 0) (j := 38) bkX6_readValue_0 rfl) (bA_sl (a := 0) (j := 39) bkX6_readValue_0 rfl) (bA_sl (a := 0) (j := 40) bkX6_readValue_0 rfl) (by decide) rfl
theorem dX6_readValue_41 : DR cX6_readValue 41 (.iload_n 2) 1 := dk_28 (bA_sl (a := 0) (j := 41) bkX6_readValue_0 rfl)
theorem dX6_readValue_42 : DR cX6_readValue 42 (.baload) 1 := dk_51 (bA_sl (a := 0) (j := 42) bkX6_readValue_0 rfl)
theorem dX6_readValue_43 : DR cX6_readValue 43 (.iadd) 1 := dk_96 (bA_sl (a := 0) (j := 43) bkX6_readValue_0 rfl)
theorem dX6_readValue_44 : DR cX6_readValue 44 (.bipush 48) 2 := dk_16 (bA_sl (a := 0) (j := 44) bkX6_readValue_0 rfl) (bA_sl (a := 0) (j := 45) bkX6_readValue_0 rfl) (by decide) (by decide)
theorem dX6_readValue_46 : DR cX6_readValue 46 (.isub) 1 := dk_100 (bA_sl (a := 0) (j := 46) bkX6_readValue_0 rfl)
theorem dX6_readValue_47 : DR cX6_readValue 47 (.putfield 41) 3 := dk_181 (bA_sl (a := 0) (j := 47) bkX6_readValue_0 rfl) (bA_sl (a := 0) (j := 48) bkX6_readValue_0 rfl) (bA_sl (a := 0) (j := 49) bkX6_readValue_0 rfl) (by decide) rfl
theorem dX6_readValue_50 : DR cX6_readValue 50 (.iinc 2 1) 3 := dk_132 (bA_sl (a := 0) (j := 50) bkX6_readValue_0 rfl) (bA_sl (a := 0) (j := 51) bkX6_readValue_0 rfl) (bA_sl (a := 0) (j := 52) bkX6_readValue_0 rfl) (by decide) (by decide)
theorem dX6_readValue_53 : DR cX6_readValue 53 (.goto (-29)) 3 := dk_167 (bA_sl (a := 0) (j := 53) bkX6_readValue_0 rfl) (bA_sl (a := 0) (j := 54) bkX6_readValue_0 rfl) (bA_sl (a := 0) (j := 55) bkX6_readValue_0 rfl) (by decide) (by decide)
theorem dX6_readValue_56 : DR cX6_readValue 56 (.return_) 1 := dk_177 (bA_sl (a := 0) (j := 56) bkX6_readValue_0 rfl)
theorem bkX7_init_0 : ((cX7_init.data.toList.drop 0).take 64).map UInt8.toNat = [42, 183, 0, 3, 42, 17, 10, 0, 188, 11, 181, 0, 11, 42, 17, 10, 0, 188, 10, 181, 0, 15, 42, 17, 10, 0, 188, 10, 181, 0, 19, 42, 17, 10, 0, 188, 10, 181, 0, 22, 42, 17, 10, 0, 188, 4, 181, 0, 25, 42, 17, 16, 0, 188, 10, 181, 0, 29, 42, 16, 10, 188, 10, 181] := by decide +kernel
theorem dX7_init_0 : DR cX7_init 0 (.aload_n 0) 1 := dk_42 (bA_sl (a := 0) (j := 0) bkX7_init_0 rfl)
theorem dX7_init_1 : DR cX7_init 1 (.invokespecial 3) 3 := dk_183 (bA_sl (a := 0) (j := 1) bkX7_init_0 rfl) (bA_sl (a := 0) (j := 2) bkX7_init_0 rfl) (bA_sl (a := 0) (j := 3) bkX7_init_0 rfl) (by decide) rfl
theorem dX7_init_4 : DR cX7_init 4 (.aload_n 0) 1 := dk_42 (bA_sl (a := 0) (j := 4) bkX7_init_0 rfl)
theorem dX7_init_5 : DR cX7_init 5 (.sipush 2560) 3 := dk_17 (bA_sl (a := 0) (j := 5) bkX7_init_0 rfl) (bA_sl (a := 0) (j := 6) bkX7_init_0 rfl) (bA_sl (a := 0) (j := 7) bkX7_init_0 rfl) (by decide) (by decide)
theorem dX7_init_8 : decode cX7_init 8 = .ok (.newarray .long, 2) := by decide +kernel
theorem dX7_init_10 : DR cX7_init 10 (.putfield 11) 3 := dk_181 (bA_sl (a := 0) (j := 10) bkX7_init_0 rfl) (bA_sl (a := 0) (j := 11) bkX7_init_0 rfl) (bA_sl (a := 0) (j := 12) bkX7_init_0 rfl) (by decide) rfl
theorem dX7_init_13 : DR cX7_init 13 (.aload_n 0) 1 := dk_42 (bA_sl (a := 0) (j := 13) bkX7_init_0 rfl)
theorem dX7_init_14 : DR cX7_init 14 (.sipush 2560) 3 := dk_17 (bA_sl (a := 0) (j := 14) bkX7_init_0 rfl) (bA_sl (a := 0) (j := 15) bkX7_init_0 rfl) (bA_sl (a := 0) (j := 16) bkX7_init_0 rfl) (by decide) (by decide)
theorem dX7_init_17 : decode cX7_init 17 = .ok (.newarray .int, 2) := by decide +kernel
theorem dX7_init_19 : DR cX7_init 19 (.putfield 15) 3 := dk_181 (bA_sl (a := 0) (j := 19) bkX7_init_0 rfl) (bA_sl (a := 0) (j := 20) bkX7_init_0 rfl) (bA_sl (a := 0) (j := 21) bkX7_init_0 rfl) (by decide) rfl
theorem dX7_init_22 : DR cX7_init 22 (.aload_n 0) 1 := dk_42 (bA_sl (a := 0) (j := 22) bkX7_init_0 rfl)
theorem dX7_init_23 : DR cX7_init 23 (.sipush 2560) 3 := dk_17 (bA_sl (a := 0) (j := 23) bkX7_init_0 rfl) (bA_sl (a := 0) (j := 24) bkX7_init_0 rfl) (bA_sl (a := 0) (j := 25) bkX7_init_0 rfl) (by decide) (by decide)
theorem dX7_init_26 : decode cX7_init 26 = .ok (.newarray .int, 2) := by decide +kernel
theorem dX7_init_28 : DR cX7_init 28 (.putfield 19) 3 := dk_181 (bA_sl (a := 0) (j := 28) bkX7_init_0 rfl) (bA_sl (a := 0) (j := 29) bkX7_init_0 rfl) (bA_sl (a := 0) (j := 30) bkX7_init_0 rfl) (by decide) rfl
theorem dX7_init_31 : DR cX7_init 31 (.aload_n 0) 1 := dk_42 (bA_sl (a := 0) (j := 31) bkX7_init_0 rfl)
theorem dX7_init_32 : DR cX7_init 32 (.sipush 2560) 3 := dk_17 (bA_sl (a := 0) (j := 32) bkX7_init_0 rfl) (bA_sl (a := 0) (j := 33) bkX7_init_0 rfl) (bA_sl (a := 0) (j := 34) bkX7_init_0 rfl) (by decide) (by decide)
theorem dX7_init_35 : decode cX7_init 35 = .ok (.newarray .int, 2) := by decide +kernel
theorem dX7_init_37 : DR cX7_init 37 (.putfield 22) 3 := dk_181 (bA_sl (a := 0) (j := 37) bkX7_init_0 rfl) (bA_sl (a := 0) (j := 38) bkX7_init_0 rfl) (bA_sl (a := 0) (j := 39) bkX7_init_0 rfl) (by decide) rfl
theorem dX7_init_40 : DR cX7_init 40 (.aload_n 0) 1 := dk_42 (bA_sl (a := 0) (j := 40) bkX7_init_0 rfl)
theorem dX7_init_41 : DR cX7_init 41 (.sipush 2560) 3 := dk_17 (bA_sl (a := 0) (j := 41) bkX7_init_0 rfl) (bA_sl (a := 0) (j := 42) bkX7_init_0 rfl) (bA_sl (a := 0) (j := 43) bkX7_init_0 rfl) (by decide) (by decide)
theorem dX7_init_44 : decode cX7_init 44 = .ok (.newarray .boolean, 2) := by decide +kernel
theorem dX7_init_46 : DR cX7_init 46 (.putfield 25) 3 := dk_181 (bA_sl (a := 0) (j := 46) bkX7_init_0 rfl) (bA_sl (a := 0) (j := 47) bkX7_init_0 rfl) (bA_sl (a := 0) (j := 48) bkX7_init_0 rfl) (by decide) rfl
theorem dX7_init_49 : DR cX7_init 49 (.aload_n 0) 1 := dk_42 (bA_sl (a := 0) (j := 49) bkX7_init_0 rfl)
theorem dX7_init_50 : DR cX7_init 50 (.sipush 4096) 3 := dk_17 (bA_sl (a := 0) (j := 50) bkX7_init_0 rfl) (bA_sl (a := 0) (j := 51) bkX7_init_0 rfl) (bA_sl (a := 0) (j := 52) bkX7_init_0 rfl) (by decide) (by decide)
theorem dX7_init_53 : decode cX7_init 53 = .ok (.newarray .int, 2) := by decide +kernel
theorem dX7_init_55 : DR cX7_init 55 (.putfield 29) 3 := dk_181 (bA_sl (a := 0) (j := 55) bkX7_init_0 rfl) (bA_sl (a := 0) (j := 56) bkX7_init_0 rfl) (bA_sl (a := 0) (j := 57) bkX7_init_0 rfl) (by decide) rfl
theorem dX7_init_58 : DR cX7_init 58 (.aload_n 0) 1 := dk_42 (bA_sl (a := 0) (j := 58) bkX7_init_0 rfl)
theorem dX7_init_59 : DR cX7_init 59 (.bipush 10) 2 := dk_16 (bA_sl (a := 0) (j := 59) bkX7_init_0 rfl) (bA_sl (a := 0) (j := 60) bkX7_init_0 rfl) (by decide) (by decide)
theorem dX7_init_61 : decode cX7_init 61 = .ok (.newarray .int, 2) := by decide +kernel
theorem bkX7_init_1 : ((cX7_init.data.toList.drop 64).take 64).map UInt8.toNat = [0, 32, 42, 3, 181, 0, 35, 42, 3, 181, 0, 39, 42, 3, 181, 0, 42, 42, 3, 181, 0, 45, 177] := by decide +kernel
theorem dX7_init_63 : DR cX7_init 63 (.putfield 32) 3 := dk_181 (bA_sl (a := 0) (j := 63) bkX7_init_0 rfl) (bA_sl (a := 64) (j := 0) bkX7_init_1 rfl) (bA_sl (a := 64) (j := 1) bkX7_init_1 rfl) (by decide) rfl
theorem dX7_init_66 : DR cX7_init 66 (.aload_n 0) 1 := dk_42 (bA_sl (a := 64) (j := 2) bkX7_init_1 rfl)
theorem dX7_init_67 : DR cX7_init 67 (.iconst 0) 1 := dk_3 (bA_sl (a := 64) (j := 3) bkX7_init_1 rfl)
theorem dX7_init_68 : DR cX7_init 68 (.putfield 35) 3 := dk_181 (bA_sl (a := 64) (j := 4) bkX7_init_1 rfl) (bA_sl (a := 64) (j := 5) bkX7_init_1 rfl) (bA_sl (a := 64) (j := 6) bkX7_init_1 rfl) (by decide) rfl
theorem dX7_init_71 : DR cX7_init 71 (.aload_n 0) 1 := dk_42 (bA_sl (a := 64) (j := 7) bkX7_init_1 rfl)
theorem dX7_init_72 : DR cX7_init 72 (.iconst 0) 1 := dk_3 (bA_sl (a := 64) (j := 8) bkX7_init_1 rfl)
theorem dX7_init_73 : DR cX7_init 73 (.putfield 39) 3 := dk_181 (bA_sl (a := 64) (j := 9) bkX7_init_1 rfl) (bA_sl (a := 64) (j := 10) bkX7_init_1 rfl) (bA_sl (a := 64) (j := 11) bkX7_init_1 rfl) (by decide) rfl
theorem dX7_init_76 : DR cX7_init 76 (.aload_n 0) 1 := dk_42 (bA_sl (a := 64) (j := 12) bkX7_init_1 rfl)
theorem dX7_init_77 : DR cX7_init 77 (.iconst 0) 1 := dk_3 (bA_sl (a := 64) (j := 13) bkX7_init_1 rfl)
theorem dX7_init_78 : DR cX7_init 78 (.putfield 42) 3 := dk_181 (bA_sl (a := 64) (j := 14) bkX7_init_1 rfl) (bA_sl (a := 64) (j := 15) bkX7_init_1 rfl) (bA_sl (a := 64) (j := 16) bkX7_init_1 rfl) (by decide) rfl
theorem dX7_init_81 : DR cX7_init 81 (.aload_n 0) 1 := dk_42 (bA_sl (a := 64) (j := 17) bkX7_init_1 rfl)
theorem dX7_init_82 : DR cX7_init 82 (.iconst 0) 1 := dk_3 (bA_sl (a := 64) (j := 18) bkX7_init_1 rfl)
theorem dX7_init_83 : DR cX7_init 83 (.putfield 45) 3 := dk_181 (bA_sl (a := 64) (j := 19) bkX7_init_1 rfl) (bA_sl (a := 64) (j := 20) bkX7_init_1 rfl) (bA_sl (a := 64) (j := 21) bkX7_init_1 rfl) (by decide) rfl
theorem dX7_init_86 : DR cX7_init 86 (.return_) 1 := dk_177 (bA_sl (a := 64) (j := 22) bkX7_init_1 rfl)
theorem bkX7_lay_0 : ((cX7_lay.data.toList.drop 0).take 64).map UInt8.toNat = [42, 180, 0, 45, 153, 0, 19, 27, 42, 180, 0, 35, 160, 0, 11, 28, 42, 180, 0, 39, 159, 0, 9, 42, 27, 28, 182, 0, 48, 29, 16, 8, 184, 0, 52, 54, 4, 42, 180, 0, 42, 54, 5, 21, 5, 21, 4, 162, 0, 13, 42, 182, 0, 58, 132, 5, 1, 167, 255, 242, 177] := by decide +kernel
theorem dX7_lay_0 : DR cX7_lay 0 (.aload_n 0) 1 := dk_42 (bA_sl (a := 0) (j := 0) bkX7_lay_0 rfl)
theorem dX7_lay_1 : DR cX7_lay 1 (.getfield 45) 3 := dk_180 (bA_sl (a := 0) (j := 1) bkX7_lay_0 rfl) (bA_sl (a := 0) (j := 2) bkX7_lay_0 rfl) (bA_sl (a := 0) (j := 3) bkX7_lay_0 rfl) (by decide) rfl
theorem dX7_lay_4 : DR cX7_lay 4 (.ifCond .eq 19) 3 := dk_153 (bA_sl (a := 0) (j := 4) bkX7_lay_0 rfl) (bA_sl (a := 0) (j := 5) bkX7_lay_0 rfl) (bA_sl (a := 0) (j := 6) bkX7_lay_0 rfl) (by decide) (by decide)
theorem dX7_lay_7 : DR cX7_lay 7 (.iload_n 1) 1 := dk_27 (bA_sl (a := 0) (j := 7) bkX7_lay_0 rfl)
theorem dX7_lay_8 : DR cX7_lay 8 (.aload_n 0) 1 := dk_42 (bA_sl (a := 0) (j := 8) bkX7_lay_0 rfl)
theorem dX7_lay_9 : DR cX7_lay 9 (.getfield 35) 3 := dk_180 (bA_sl (a := 0) (j := 9) bkX7_lay_0 rfl) (bA_sl (a := 0) (j := 10) bkX7_lay_0 rfl) (bA_sl (a := 0) (j := 11) bkX7_lay_0 rfl) (by decide) rfl
theorem dX7_lay_12 : DR cX7_lay 12 (.if_icmp .ne 11) 3 := dk_160 (bA_sl (a := 0) (j := 12) bkX7_lay_0 rfl) (bA_sl (a := 0) (j := 13) bkX7_lay_0 rfl) (bA_sl (a := 0) (j := 14) bkX7_lay_0 rfl) (by decide) (by decide)
theorem dX7_lay_15 : DR cX7_lay 15 (.iload_n 2) 1 := dk_28 (bA_sl (a := 0) (j := 15) bkX7_lay_0 rfl)
theorem dX7_lay_16 : DR cX7_lay 16 (.aload_n 0) 1 := dk_42 (bA_sl (a := 0) (j := 16) bkX7_lay_0 rfl)
theorem dX7_lay_17 : DR cX7_lay 17 (.getfield 39) 3 := dk_180 (bA_sl (a := 0) (j := 17) bkX7_lay_0 rfl) (bA_sl (a := 0) (j := 18) bkX7_lay_0 rfl) (bA_sl (a := 0) (j := 19) bkX7_lay_0 rfl) (by decide) rfl
theorem dX7_lay_20 : DR cX7_lay 20 (.if_icmp .eq 9) 3 := dk_159 (bA_sl (a := 0) (j := 20) bkX7_lay_0 rfl) (bA_sl (a := 0) (j := 21) bkX7_lay_0 rfl) (bA_sl (a := 0) (j := 22) bkX7_lay_0 rfl) (by decide) (by decide)
theorem dX7_lay_23 : DR cX7_lay 23 (.aload_n 0) 1 := dk_42 (bA_sl (a := 0) (j := 23) bkX7_lay_0 rfl)
theorem dX7_lay_24 : DR cX7_lay 24 (.iload_n 1) 1 := dk_27 (bA_sl (a := 0) (j := 24) bkX7_lay_0 rfl)
theorem dX7_lay_25 : DR cX7_lay 25 (.iload_n 2) 1 := dk_28 (bA_sl (a := 0) (j := 25) bkX7_lay_0 rfl)
theorem dX7_lay_26 : DR cX7_lay 26 (.invokevirtual 48) 3 := dk_182 (bA_sl (a := 0) (j := 26) bkX7_lay_0 rfl) (bA_sl (a := 0) (j := 27) bkX7_lay_0 rfl) (bA_sl (a := 0) (j := 28) bkX7_lay_0 rfl) (by decide) rfl
theorem dX7_lay_29 : DR cX7_lay 29 (.iload_n 3) 1 := dk_29 (bA_sl (a := 0) (j := 29) bkX7_lay_0 rfl)
theorem dX7_lay_30 : DR cX7_lay 30 (.bipush 8) 2 := dk_16 (bA_sl (a := 0) (j := 30) bkX7_lay_0 rfl) (bA_sl (a := 0) (j := 31) bkX7_lay_0 rfl) (by decide) (by decide)
theorem dX7_lay_32 : DR cX7_lay 32 (.invokestatic 52) 3 := dk_184 (bA_sl (a := 0) (j := 32) bkX7_lay_0 rfl) (bA_sl (a := 0) (j := 33) bkX7_lay_0 rfl) (bA_sl (a := 0) (j := 34) bkX7_lay_0 rfl) (by decide) rfl
theorem dX7_lay_35 : DR cX7_lay 35 (.istore 4) 2 := dk_54 (bA_sl (a := 0) (j := 35) bkX7_lay_0 rfl) (bA_sl (a := 0) (j := 36) bkX7_lay_0 rfl) (by decide)
theorem dX7_lay_37 : DR cX7_lay 37 (.aload_n 0) 1 := dk_42 (bA_sl (a := 0) (j := 37) bkX7_lay_0 rfl)
theorem dX7_lay_38 : DR cX7_lay 38 (.getfield 42) 3 := dk_180 (bA_sl (a := 0) (j := 38) bkX7_lay_0 rfl) (bA_sl (a := 0) (j := 39) bkX7_lay_0 rfl) (bA_sl (a := 0) (j := 40) bkX7_lay_0 rfl) (by decide) rfl
theorem dX7_lay_41 : DR cX7_lay 41 (.istore 5) 2 := dk_54 (bA_sl (a := 0) (j := 41) bkX7_lay_0 rfl) (bA_sl (a := 0) (j := 42) bkX7_lay_0 rfl) (by decide)
theorem dX7_lay_43 : DR cX7_lay 43 (.iload 5) 2 := dk_21 (bA_sl (a := 0) (j := 43) bkX7_lay_0 rfl) (bA_sl (a := 0) (j := 44) bkX7_lay_0 rfl) (by decide)
theorem dX7_lay_45 : DR cX7_lay 45 (.iload 4) 2 := dk_21 (bA_sl (a := 0) (j := 45) bkX7_lay_0 rfl) (bA_sl (a := 0) (j := 46) bkX7_lay_0 rfl) (by decide)
theorem dX7_lay_47 : DR cX7_lay 47 (.if_icmp .ge 13) 3 := dk_162 (bA_sl (a := 0) (j := 47) bkX7_lay_0 rfl) (bA_sl (a := 0) (j := 48) bkX7_lay_0 rfl) (bA_sl (a := 0) (j := 49) bkX7_lay_0 rfl) (by decide) (by decide)
theorem dX7_lay_50 : DR cX7_lay 50 (.aload_n 0) 1 := dk_42 (bA_sl (a := 0) (j := 50) bkX7_lay_0 rfl)
theorem dX7_lay_51 : DR cX7_lay 51 (.invokevirtual 58) 3 := dk_182 (bA_sl (a := 0) (j := 51) bkX7_lay_0 rfl) (bA_sl (a := 0) (j := 52) bkX7_lay_0 rfl) (bA_sl (a := 0) (j := 53) bkX7_lay_0 rfl) (by decide) rfl
theorem dX7_lay_54 : DR cX7_lay 54 (.iinc 5 1) 3 := dk_132 (bA_sl (a := 0) (j := 54) bkX7_lay_0 rfl) (bA_sl (a := 0) (j := 55) bkX7_lay_0 rfl) (bA_sl (a := 0) (j := 56) bkX7_lay_0 rfl) (by decide) (by decide)
theorem dX7_lay_57 : DR cX7_lay 57 (.goto (-14)) 3 := dk_167 (bA_sl (a := 0) (j := 57) bkX7_lay_0 rfl) (bA_sl (a := 0) (j := 58) bkX7_lay_0 rfl) (bA_sl (a := 0) (j := 59) bkX7_lay_0 rfl) (by decide) (by decide)
theorem dX7_lay_60 : DR cX7_lay 60 (.return_) 1 := dk_177 (bA_sl (a := 0) (j := 60) bkX7_lay_0 rfl)
theorem bkX7_begin_0 : ((cX7_begin.data.toList.drop 0).take 64).map UInt8.toNat = [42, 27, 181, 0, 35, 42, 28, 181, 0, 39, 42, 3, 181, 0, 42, 42, 180, 0, 11, 3, 9, 80, 42, 180, 0, 15, 3, 42, 180, 0, 39, 79, 42, 180, 0, 19, 3, 4, 79, 42, 180, 0, 22, 3, 3, 79, 42, 180, 0, 25, 3, 3, 84, 42, 4, 181, 0, 45, 42, 180, 0, 32, 3, 3] := by decide +kernel
theorem dX7_begin_0 : DR cX7_begin 0 (.aload_n 0) 1 := dk_42 (bA_sl (a := 0) (j := 0) bkX7_begin_0 rfl)
theorem dX7_begin_1 : DR cX7_begin 1 (.iload_n 1) 1 := dk_27 (bA_sl (a := 0) (j := 1) bkX7_begin_0 rfl)
theorem dX7_begin_2 : DR cX7_begin 2 (.putfield 35) 3 := dk_181 (bA_sl (a := 0) (j := 2) bkX7_begin_0 rfl) (bA_sl (a := 0) (j := 3) bkX7_begin_0 rfl) (bA_sl (a := 0) (j := 4) bkX7_begin_0 rfl) (by decide) rfl
theorem dX7_begin_5 : DR cX7_begin 5 (.aload_n 0) 1 := dk_42 (bA_sl (a := 0) (j := 5) bkX7_begin_0 rfl)
theorem dX7_begin_6 : DR cX7_begin 6 (.iload_n 2) 1 := dk_28 (bA_sl (a := 0) (j := 6) bkX7_begin_0 rfl)
theorem dX7_begin_7 : DR cX7_begin 7 (.putfield 39) 3 := dk_181 (bA_sl (a := 0) (j := 7) bkX7_begin_0 rfl) (bA_sl (a := 0) (j := 8) bkX7_begin_0 rfl) (bA_sl (a := 0) (j := 9) bkX7_begin_0 rfl) (by decide) rfl
theorem dX7_begin_10 : DR cX7_begin 10 (.aload_n 0) 1 := dk_42 (bA_sl (a := 0) (j := 10) bkX7_begin_0 rfl)
theorem dX7_begin_11 : DR cX7_begin 11 (.iconst 0) 1 := dk_3 (bA_sl (a := 0) (j := 11) bkX7_begin_0 rfl)
theorem dX7_begin_12 : DR cX7_begin 12 (.putfield 42) 3 := dk_181 (bA_sl (a := 0) (j := 12) bkX7_begin_0 rfl) (bA_sl (a := 0) (j := 13) bkX7_begin_0 rfl) (bA_sl (a := 0) (j := 14) bkX7_begin_0 rfl) (by decide) rfl
theorem dX7_begin_15 : DR cX7_begin 15 (.aload_n 0) 1 := dk_42 (bA_sl (a := 0) (j := 15) bkX7_begin_0 rfl)
theorem dX7_begin_16 : DR cX7_begin 16 (.getfield 11) 3 := dk_180 (bA_sl (a := 0) (j := 16) bkX7_begin_0 rfl) (bA_sl (a := 0) (j := 17) bkX7_begin_0 rfl) (bA_sl (a := 0) (j := 18) bkX7_begin_0 rfl) (by decide) rfl
theorem dX7_begin_19 : DR cX7_begin 19 (.iconst 0) 1 := dk_3 (bA_sl (a := 0) (j := 19) bkX7_begin_0 rfl)
theorem dX7_begin_20 : DR cX7_begin 20 (.lconst 0) 1 := dk_9 (bA_sl (a := 0) (j := 20) bkX7_begin_0 rfl)
theorem dX7_begin_21 : DR cX7_begin 21 (.lastore) 1 := dk_80 (bA_sl (a := 0) (j := 21) bkX7_begin_0 rfl)
theorem dX7_begin_22 : DR cX7_begin 22 (.aload_n 0) 1 := dk_42 (bA_sl (a := 0) (j := 22) bkX7_begin_0 rfl)
theorem dX7_begin_23 : DR cX7_begin 23 (.getfield 15) 3 := dk_180 (bA_sl (a := 0) (j := 23) bkX7_begin_0 rfl) (bA_sl (a := 0) (j := 24) bkX7_begin_0 rfl) (bA_sl (a := 0) (j := 25) bkX7_begin_0 rfl) (by decide) rfl
theorem dX7_begin_26 : DR cX7_begin 26 (.iconst 0) 1 := dk_3 (bA_sl (a := 0) (j := 26) bkX7_begin_0 rfl)
theorem dX7_begin_27 : DR cX7_begin 27 (.aload_n 0) 1 := dk_42 (bA_sl (a := 0) (j := 27) bkX7_begin_0 rfl)
theorem dX7_begin_28 : DR cX7_begin 28 (.getfield 39) 3 := dk_180 (bA_sl (a := 0) (j := 28) bkX7_begin_0 rfl) (bA_sl (a := 0) (j := 29) bkX7_begin_0 rfl) (bA_sl (a := 0) (j := 30) bkX7_begin_0 rfl) (by decide) rfl
theorem dX7_begin_31 : DR cX7_begin 31 (.iastore) 1 := dk_79 (bA_sl (a := 0) (j := 31) bkX7_begin_0 rfl)
theorem dX7_begin_32 : DR cX7_begin 32 (.aload_n 0) 1 := dk_42 (bA_sl (a := 0) (j := 32) bkX7_begin_0 rfl)
theorem dX7_begin_33 : DR cX7_begin 33 (.getfield 19) 3 := dk_180 (bA_sl (a := 0) (j := 33) bkX7_begin_0 rfl) (bA_sl (a := 0) (j := 34) bkX7_begin_0 rfl) (bA_sl (a := 0) (j := 35) bkX7_begin_0 rfl) (by decide) rfl
theorem dX7_begin_36 : DR cX7_begin 36 (.iconst 0) 1 := dk_3 (bA_sl (a := 0) (j := 36) bkX7_begin_0 rfl)
theorem dX7_begin_37 : DR cX7_begin 37 (.iconst 1) 1 := dk_4 (bA_sl (a := 0) (j := 37) bkX7_begin_0 rfl)
theorem dX7_begin_38 : DR cX7_begin 38 (.iastore) 1 := dk_79 (bA_sl (a := 0) (j := 38) bkX7_begin_0 rfl)
theorem dX7_begin_39 : DR cX7_begin 39 (.aload_n 0) 1 := dk_42 (bA_sl (a := 0) (j := 39) bkX7_begin_0 rfl)
theorem dX7_begin_40 : DR cX7_begin 40 (.getfield 22) 3 := dk_180 (bA_sl (a := 0) (j := 40) bkX7_begin_0 rfl) (bA_sl (a := 0) (j := 41) bkX7_begin_0 rfl) (bA_sl (a := 0) (j := 42) bkX7_begin_0 rfl) (by decide) rfl
theorem dX7_begin_43 : DR cX7_begin 43 (.iconst 0) 1 := dk_3 (bA_sl (a := 0) (j := 43) bkX7_begin_0 rfl)
theorem dX7_begin_44 : DR cX7_begin 44 (.iconst 0) 1 := dk_3 (bA_sl (a := 0) (j := 44) bkX7_begin_0 rfl)
theorem dX7_begin_45 : DR cX7_begin 45 (.iastore) 1 := dk_79 (bA_sl (a := 0) (j := 45) bkX7_begin_0 rfl)
theorem dX7_begin_46 : DR cX7_begin 46 (.aload_n 0) 1 := dk_42 (bA_sl (a := 0) (j := 46) bkX7_begin_0 rfl)
theorem dX7_begin_47 : DR cX7_begin 47 (.getfield 25) 3 := dk_180 (bA_sl (a := 0) (j := 47) bkX7_begin_0 rfl) (bA_sl (a := 0) (j := 48) bkX7_begin_0 rfl) (bA_sl (a := 0) (j := 49) bkX7_begin_0 rfl) (by decide) rfl
theorem dX7_begin_50 : DR cX7_begin 50 (.iconst 0) 1 := dk_3 (bA_sl (a := 0) (j := 50) bkX7_begin_0 rfl)
theorem dX7_begin_51 : DR cX7_begin 51 (.iconst 0) 1 := dk_3 (bA_sl (a := 0) (j := 51) bkX7_begin_0 rfl)
theorem dX7_begin_52 : DR cX7_begin 52 (.bastore) 1 := dk_84 (bA_sl (a := 0) (j := 52) bkX7_begin_0 rfl)
theorem dX7_begin_53 : DR cX7_begin 53 (.aload_n 0) 1 := dk_42 (bA_sl (a := 0) (j := 53) bkX7_begin_0 rfl)
theorem dX7_begin_54 : DR cX7_begin 54 (.iconst 1) 1 := dk_4 (bA_sl (a := 0) (j := 54) bkX7_begin_0 rfl)
theorem dX7_begin_55 : DR cX7_begin 55 (.putfield 45) 3 := dk_181 (bA_sl (a := 0) (j := 55) bkX7_begin_0 rfl) (bA_sl (a := 0) (j := 56) bkX7_begin_0 rfl) (bA_sl (a := 0) (j := 57) bkX7_begin_0 rfl) (by decide) rfl
theorem dX7_begin_58 : DR cX7_begin 58 (.aload_n 0) 1 := dk_42 (bA_sl (a := 0) (j := 58) bkX7_begin_0 rfl)
theorem dX7_begin_59 : DR cX7_begin 59 (.getfield 32) 3 := dk_180 (bA_sl (a := 0) (j := 59) bkX7_begin_0 rfl) (bA_sl (a := 0) (j := 60) bkX7_begin_0 rfl) (bA_sl (a := 0) (j := 61) bkX7_begin_0 rfl) (by decide) rfl
theorem dX7_begin_62 : DR cX7_begin 62 (.iconst 0) 1 := dk_3 (bA_sl (a := 0) (j := 62) bkX7_begin_0 rfl)
theorem dX7_begin_63 : DR cX7_begin 63 (.iconst 0) 1 := dk_3 (bA_sl (a := 0) (j := 63) bkX7_begin_0 rfl)
theorem bkX7_begin_1 : ((cX7_begin.data.toList.drop 64).take 64).map UInt8.toNat = [79, 42, 180, 0, 32, 4, 4, 79, 42, 180, 0, 29, 3, 184, 0, 61, 177] := by decide +kernel
theorem dX7_begin_64 : DR cX7_begin 64 (.iastore) 1 := dk_79 (bA_sl (a := 64) (j := 0) bkX7_begin_1 rfl)
theorem dX7_begin_65 : DR cX7_begin 65 (.aload_n 0) 1 := dk_42 (bA_sl (a := 64) (j := 1) bkX7_begin_1 rfl)
theorem dX7_begin_66 : DR cX7_begin 66 (.getfield 32) 3 := dk_180 (bA_sl (a := 64) (j := 2) bkX7_begin_1 rfl) (bA_sl (a := 64) (j := 3) bkX7_begin_1 rfl) (bA_sl (a := 64) (j := 4) bkX7_begin_1 rfl) (by decide) rfl
theorem dX7_begin_69 : DR cX7_begin 69 (.iconst 1) 1 := dk_4 (bA_sl (a := 64) (j := 5) bkX7_begin_1 rfl)
theorem dX7_begin_70 : DR cX7_begin 70 (.iconst 1) 1 := dk_4 (bA_sl (a := 64) (j := 6) bkX7_begin_1 rfl)
theorem dX7_begin_71 : DR cX7_begin 71 (.iastore) 1 := dk_79 (bA_sl (a := 64) (j := 7) bkX7_begin_1 rfl)
theorem dX7_begin_72 : DR cX7_begin 72 (.aload_n 0) 1 := dk_42 (bA_sl (a := 64) (j := 8) bkX7_begin_1 rfl)
theorem dX7_begin_73 : DR cX7_begin 73 (.getfield 29) 3 := dk_180 (bA_sl (a := 64) (j := 9) bkX7_begin_1 rfl) (bA_sl (a := 64) (j := 10) bkX7_begin_1 rfl) (bA_sl (a := 64) (j := 11) bkX7_begin_1 rfl) (by decide) rfl
theorem dX7_begin_76 : DR cX7_begin 76 (.iconst 0) 1 := dk_3 (bA_sl (a := 64) (j := 12) bkX7_begin_1 rfl)
theorem dX7_begin_77 : DR cX7_begin 77 (.invokestatic 61) 3 := dk_184 (bA_sl (a := 64) (j := 13) bkX7_begin_1 rfl) (bA_sl (a := 64) (j := 14) bkX7_begin_1 rfl) (bA_sl (a := 64) (j := 15) bkX7_begin_1 rfl) (by decide) rfl
theorem dX7_begin_80 : DR cX7_begin 80 (.return_) 1 := dk_177 (bA_sl (a := 64) (j := 16) bkX7_begin_1 rfl)
theorem bkX7_first_0 : ((cX7_first.data.toList.drop 0).take 64).map UInt8.toNat = [42, 180, 0, 32, 3, 27, 42, 180, 0, 42, 184, 0, 52, 184, 0, 67, 46, 172] := by decide +kernel
theorem dX7_first_0 : DR cX7_first 0 (.aload_n 0) 1 := dk_42 (bA_sl (a := 0) (j := 0) bkX7_first_0 rfl)
theorem dX7_first_1 : DR cX7_first 1 (.getfield 32) 3 := dk_180 (bA_sl (a := 0) (j := 1) bkX7_first_0 rfl) (bA_sl (a := 0) (j := 2) bkX7_first_0 rfl) (bA_sl (a := 0) (j := 3) bkX7_first_0 rfl) (by decide) rfl
theorem dX7_first_4 : DR cX7_first 4 (.iconst 0) 1 := dk_3 (bA_sl (a := 0) (j := 4) bkX7_first_0 rfl)
theorem dX7_first_5 : DR cX7_first 5 (.iload_n 1) 1 := dk_27 (bA_sl (a := 0) (j := 5) bkX7_first_0 rfl)
theorem dX7_first_6 : DR cX7_first 6 (.aload_n 0) 1 := dk_42 (bA_sl (a := 0) (j := 6) bkX7_first_0 rfl)
theorem dX7_first_7 : DR cX7_first 7 (.getfield 42) 3 := dk_180 (bA_sl (a := 0) (j := 7) bkX7_first_0 rfl) (bA_sl (a := 0) (j := 8) bkX7_first_0 rfl) (bA_sl (a := 0) (j := 9) bkX7_first_0 rfl) (by decide) rfl
theorem dX7_first_10 : DR cX7_first 10 (.invokestatic 52) 3 := dk_184 (bA_sl (a := 0) (j := 10) bkX7_first_0 rfl) (bA_sl (a := 0) (j := 11) bkX7_first_0 rfl) (bA_sl (a := 0) (j := 12) bkX7_first_0 rfl) (by decide) rfl
theorem dX7_first_13 : DR cX7_first 13 (.invokestatic 67) 3 := dk_184 (bA_sl (a := 0) (j := 13) bkX7_first_0 rfl) (bA_sl (a := 0) (j := 14) bkX7_first_0 rfl) (bA_sl (a := 0) (j := 15) bkX7_first_0 rfl) (by decide) rfl
theorem dX7_first_16 : DR cX7_first 16 (.iaload) 1 := dk_46 (bA_sl (a := 0) (j := 16) bkX7_first_0 rfl)
theorem dX7_first_17 : DR cX7_first 17 (.ireturn) 1 := dk_172 (bA_sl (a := 0) (j := 17) bkX7_first_0 rfl)
theorem bkX7_end_0 : ((cX7_end.data.toList.drop 0).take 64).map UInt8.toNat = [42, 180, 0, 32, 3, 27, 42, 180, 0, 42, 184, 0, 52, 184, 0, 67, 4, 96, 46, 172] := by decide +kernel
theorem dX7_end_0 : DR cX7_end 0 (.aload_n 0) 1 := dk_42 (bA_sl (a := 0) (j := 0) bkX7_end_0 rfl)
theorem dX7_end_1 : DR cX7_end 1 (.getfield 32) 3 := dk_180 (bA_sl (a := 0) (j := 1) bkX7_end_0 rfl) (bA_sl (a := 0) (j := 2) bkX7_end_0 rfl) (bA_sl (a := 0) (j := 3) bkX7_end_0 rfl) (by decide) rfl
theorem dX7_end_4 : DR cX7_end 4 (.iconst 0) 1 := dk_3 (bA_sl (a := 0) (j := 4) bkX7_end_0 rfl)
theorem dX7_end_5 : DR cX7_end 5 (.iload_n 1) 1 := dk_27 (bA_sl (a := 0) (j := 5) bkX7_end_0 rfl)
theorem dX7_end_6 : DR cX7_end 6 (.aload_n 0) 1 := dk_42 (bA_sl (a := 0) (j := 6) bkX7_end_0 rfl)
theorem dX7_end_7 : DR cX7_end 7 (.getfield 42) 3 := dk_180 (bA_sl (a := 0) (j := 7) bkX7_end_0 rfl) (bA_sl (a := 0) (j := 8) bkX7_end_0 rfl) (bA_sl (a := 0) (j := 9) bkX7_end_0 rfl) (by decide) rfl
theorem dX7_end_10 : DR cX7_end 10 (.invokestatic 52) 3 := dk_184 (bA_sl (a := 0) (j := 10) bkX7_end_0 rfl) (bA_sl (a := 0) (j := 11) bkX7_end_0 rfl) (bA_sl (a := 0) (j := 12) bkX7_end_0 rfl) (by decide) rfl
theorem dX7_end_13 : DR cX7_end 13 (.invokestatic 67) 3 := dk_184 (bA_sl (a := 0) (j := 13) bkX7_end_0 rfl) (bA_sl (a := 0) (j := 14) bkX7_end_0 rfl) (bA_sl (a := 0) (j := 15) bkX7_end_0 rfl) (by decide) rfl
theorem dX7_end_16 : DR cX7_end 16 (.iconst 1) 1 := dk_4 (bA_sl (a := 0) (j := 16) bkX7_end_0 rfl)
theorem dX7_end_17 : DR cX7_end 17 (.iadd) 1 := dk_96 (bA_sl (a := 0) (j := 17) bkX7_end_0 rfl)
theorem dX7_end_18 : DR cX7_end 18 (.iaload) 1 := dk_46 (bA_sl (a := 0) (j := 18) bkX7_end_0 rfl)
theorem dX7_end_19 : DR cX7_end 19 (.ireturn) 1 := dk_172 (bA_sl (a := 0) (j := 19) bkX7_end_0 rfl)
theorem bkX7_layMinute_0 : ((cX7_layMinute.data.toList.drop 0).take 64).map UInt8.toNat = [42, 42, 180, 0, 42, 182, 0, 70, 60, 42, 42, 180, 0, 42, 182, 0, 74, 61, 28, 27, 162, 0, 52, 42, 28, 42, 180, 0, 15, 28, 46, 3, 27, 182, 0, 77, 42, 28, 42, 180, 0, 15, 28, 46, 4, 100, 4, 27, 182, 0, 77, 42, 28, 42, 180, 0, 15, 28, 46, 4, 96, 5, 27, 182] := by decide +kernel
theorem dX7_layMinute_0 : DR cX7_layMinute 0 (.aload_n 0) 1 := dk_42 (bA_sl (a := 0) (j := 0) bkX7_layMinute_0 rfl)
theorem dX7_layMinute_1 : DR cX7_layMinute 1 (.aload_n 0) 1 := dk_42 (bA_sl (a := 0) (j := 1) bkX7_layMinute_0 rfl)
theorem dX7_layMinute_2 : DR cX7_layMinute 2 (.getfield 42) 3 := dk_180 (bA_sl (a := 0) (j := 2) bkX7_layMinute_0 rfl) (bA_sl (a := 0) (j := 3) bkX7_layMinute_0 rfl) (bA_sl (a := 0) (j := 4) bkX7_layMinute_0 rfl) (by decide) rfl
theorem dX7_layMinute_5 : DR cX7_layMinute 5 (.invokevirtual 70) 3 := dk_182 (bA_sl (a := 0) (j := 5) bkX7_layMinute_0 rfl) (bA_sl (a := 0) (j := 6) bkX7_layMinute_0 rfl) (bA_sl (a := 0) (j := 7) bkX7_layMinute_0 rfl) (by decide) rfl
theorem dX7_layMinute_8 : DR cX7_layMinute 8 (.istore_n 1) 1 := dk_60 (bA_sl (a := 0) (j := 8) bkX7_layMinute_0 rfl)
theorem dX7_layMinute_9 : DR cX7_layMinute 9 (.aload_n 0) 1 := dk_42 (bA_sl (a := 0) (j := 9) bkX7_layMinute_0 rfl)
theorem dX7_layMinute_10 : DR cX7_layMinute 10 (.aload_n 0) 1 := dk_42 (bA_sl (a := 0) (j := 10) bkX7_layMinute_0 rfl)
theorem dX7_layMinute_11 : DR cX7_layMinute 11 (.getfield 42) 3 := dk_180 (bA_sl (a := 0) (j := 11) bkX7_layMinute_0 rfl) (bA_sl (a := 0) (j := 12) bkX7_layMinute_0 rfl) (bA_sl (a := 0) (j := 13) bkX7_layMinute_0 rfl) (by decide) rfl
theorem dX7_layMinute_14 : DR cX7_layMinute 14 (.invokevirtual 74) 3 := dk_182 (bA_sl (a := 0) (j := 14) bkX7_layMinute_0 rfl) (bA_sl (a := 0) (j := 15) bkX7_layMinute_0 rfl) (bA_sl (a := 0) (j := 16) bkX7_layMinute_0 rfl) (by decide) rfl
theorem dX7_layMinute_17 : DR cX7_layMinute 17 (.istore_n 2) 1 := dk_61 (bA_sl (a := 0) (j := 17) bkX7_layMinute_0 rfl)
theorem dX7_layMinute_18 : DR cX7_layMinute 18 (.iload_n 2) 1 := dk_28 (bA_sl (a := 0) (j := 18) bkX7_layMinute_0 rfl)
theorem dX7_layMinute_19 : DR cX7_layMinute 19 (.iload_n 1) 1 := dk_27 (bA_sl (a := 0) (j := 19) bkX7_layMinute_0 rfl)
theorem dX7_layMinute_20 : DR cX7_layMinute 20 (.if_icmp .ge 52) 3 := dk_162 (bA_sl (a := 0) (j := 20) bkX7_layMinute_0 rfl) (bA_sl (a := 0) (j := 21) bkX7_layMinute_0 rfl) (bA_sl (a := 0) (j := 22) bkX7_layMinute_0 rfl) (by decide) (by decide)
theorem dX7_layMinute_23 : DR cX7_layMinute 23 (.aload_n 0) 1 := dk_42 (bA_sl (a := 0) (j := 23) bkX7_layMinute_0 rfl)
theorem dX7_layMinute_24 : DR cX7_layMinute 24 (.iload_n 2) 1 := dk_28 (bA_sl (a := 0) (j := 24) bkX7_layMinute_0 rfl)
theorem dX7_layMinute_25 : DR cX7_layMinute 25 (.aload_n 0) 1 := dk_42 (bA_sl (a := 0) (j := 25) bkX7_layMinute_0 rfl)
theorem dX7_layMinute_26 : DR cX7_layMinute 26 (.getfield 15) 3 := dk_180 (bA_sl (a := 0) (j := 26) bkX7_layMinute_0 rfl) (bA_sl (a := 0) (j := 27) bkX7_layMinute_0 rfl) (bA_sl (a := 0) (j := 28) bkX7_layMinute_0 rfl) (by decide) rfl
theorem dX7_layMinute_29 : DR cX7_layMinute 29 (.iload_n 2) 1 := dk_28 (bA_sl (a := 0) (j := 29) bkX7_layMinute_0 rfl)
theorem dX7_layMinute_30 : DR cX7_layMinute 30 (.iaload) 1 := dk_46 (bA_sl (a := 0) (j := 30) bkX7_layMinute_0 rfl)
theorem dX7_layMinute_31 : DR cX7_layMinute 31 (.iconst 0) 1 := dk_3 (bA_sl (a := 0) (j := 31) bkX7_layMinute_0 rfl)
theorem dX7_layMinute_32 : DR cX7_layMinute 32 (.iload_n 1) 1 := dk_27 (bA_sl (a := 0) (j := 32) bkX7_layMinute_0 rfl)
theorem dX7_layMinute_33 : DR cX7_layMinute 33 (.invokevirtual 77) 3 := dk_182 (bA_sl (a := 0) (j := 33) bkX7_layMinute_0 rfl) (bA_sl (a := 0) (j := 34) bkX7_layMinute_0 rfl) (bA_sl (a := 0) (j := 35) bkX7_layMinute_0 rfl) (by decide) rfl
theorem dX7_layMinute_36 : DR cX7_layMinute 36 (.aload_n 0) 1 := dk_42 (bA_sl (a := 0) (j := 36) bkX7_layMinute_0 rfl)
theorem dX7_layMinute_37 : DR cX7_layMinute 37 (.iload_n 2) 1 := dk_28 (bA_sl (a := 0) (j := 37) bkX7_layMinute_0 rfl)
theorem dX7_layMinute_38 : DR cX7_layMinute 38 (.aload_n 0) 1 := dk_42 (bA_sl (a := 0) (j := 38) bkX7_layMinute_0 rfl)
theorem dX7_layMinute_39 : DR cX7_layMinute 39 (.getfield 15) 3 := dk_180 (bA_sl (a := 0) (j := 39) bkX7_layMinute_0 rfl) (bA_sl (a := 0) (j := 40) bkX7_layMinute_0 rfl) (bA_sl (a := 0) (j := 41) bkX7_layMinute_0 rfl) (by decide) rfl
theorem dX7_layMinute_42 : DR cX7_layMinute 42 (.iload_n 2) 1 := dk_28 (bA_sl (a := 0) (j := 42) bkX7_layMinute_0 rfl)
theorem dX7_layMinute_43 : DR cX7_layMinute 43 (.iaload) 1 := dk_46 (bA_sl (a := 0) (j := 43) bkX7_layMinute_0 rfl)
theorem dX7_layMinute_44 : DR cX7_layMinute 44 (.iconst 1) 1 := dk_4 (bA_sl (a := 0) (j := 44) bkX7_layMinute_0 rfl)
theorem dX7_layMinute_45 : DR cX7_layMinute 45 (.isub) 1 := dk_100 (bA_sl (a := 0) (j := 45) bkX7_layMinute_0 rfl)
theorem dX7_layMinute_46 : DR cX7_layMinute 46 (.iconst 1) 1 := dk_4 (bA_sl (a := 0) (j := 46) bkX7_layMinute_0 rfl)
theorem dX7_layMinute_47 : DR cX7_layMinute 47 (.iload_n 1) 1 := dk_27 (bA_sl (a := 0) (j := 47) bkX7_layMinute_0 rfl)
theorem dX7_layMinute_48 : DR cX7_layMinute 48 (.invokevirtual 77) 3 := dk_182 (bA_sl (a := 0) (j := 48) bkX7_layMinute_0 rfl) (bA_sl (a := 0) (j := 49) bkX7_layMinute_0 rfl) (bA_sl (a := 0) (j := 50) bkX7_layMinute_0 rfl) (by decide) rfl
theorem dX7_layMinute_51 : DR cX7_layMinute 51 (.aload_n 0) 1 := dk_42 (bA_sl (a := 0) (j := 51) bkX7_layMinute_0 rfl)
theorem dX7_layMinute_52 : DR cX7_layMinute 52 (.iload_n 2) 1 := dk_28 (bA_sl (a := 0) (j := 52) bkX7_layMinute_0 rfl)
theorem dX7_layMinute_53 : DR cX7_layMinute 53 (.aload_n 0) 1 := dk_42 (bA_sl (a := 0) (j := 53) bkX7_layMinute_0 rfl)
theorem dX7_layMinute_54 : DR cX7_layMinute 54 (.getfield 15) 3 := dk_180 (bA_sl (a := 0) (j := 54) bkX7_layMinute_0 rfl) (bA_sl (a := 0) (j := 55) bkX7_layMinute_0 rfl) (bA_sl (a := 0) (j := 56) bkX7_layMinute_0 rfl) (by decide) rfl
theorem dX7_layMinute_57 : DR cX7_layMinute 57 (.iload_n 2) 1 := dk_28 (bA_sl (a := 0) (j := 57) bkX7_layMinute_0 rfl)
theorem dX7_layMinute_58 : DR cX7_layMinute 58 (.iaload) 1 := dk_46 (bA_sl (a := 0) (j := 58) bkX7_layMinute_0 rfl)
theorem dX7_layMinute_59 : DR cX7_layMinute 59 (.iconst 1) 1 := dk_4 (bA_sl (a := 0) (j := 59) bkX7_layMinute_0 rfl)
theorem dX7_layMinute_60 : DR cX7_layMinute 60 (.iadd) 1 := dk_96 (bA_sl (a := 0) (j := 60) bkX7_layMinute_0 rfl)
theorem dX7_layMinute_61 : DR cX7_layMinute 61 (.iconst 2) 1 := dk_5 (bA_sl (a := 0) (j := 61) bkX7_layMinute_0 rfl)
theorem dX7_layMinute_62 : DR cX7_layMinute 62 (.iload_n 1) 1 := dk_27 (bA_sl (a := 0) (j := 62) bkX7_layMinute_0 rfl)
theorem bkX7_layMinute_1 : ((cX7_layMinute.data.toList.drop 64).take 64).map UInt8.toNat = [0, 77, 132, 2, 1, 167, 255, 205, 42, 89, 180, 0, 42, 4, 96, 181, 0, 42, 42, 180, 0, 32, 42, 180, 0, 42, 4, 96, 42, 180, 0, 45, 79, 177] := by decide +kernel
theorem dX7_layMinute_63 : DR cX7_layMinute 63 (.invokevirtual 77) 3 := dk_182 (bA_sl (a := 0) (j := 63) bkX7_layMinute_0 rfl) (bA_sl (a := 64) (j := 0) bkX7_layMinute_1 rfl) (bA_sl (a := 64) (j := 1) bkX7_layMinute_1 rfl) (by decide) rfl
theorem dX7_layMinute_66 : DR cX7_layMinute 66 (.iinc 2 1) 3 := dk_132 (bA_sl (a := 64) (j := 2) bkX7_layMinute_1 rfl) (bA_sl (a := 64) (j := 3) bkX7_layMinute_1 rfl) (bA_sl (a := 64) (j := 4) bkX7_layMinute_1 rfl) (by decide) (by decide)
theorem dX7_layMinute_69 : DR cX7_layMinute 69 (.goto (-51)) 3 := dk_167 (bA_sl (a := 64) (j := 5) bkX7_layMinute_1 rfl) (bA_sl (a := 64) (j := 6) bkX7_layMinute_1 rfl) (bA_sl (a := 64) (j := 7) bkX7_layMinute_1 rfl) (by decide) (by decide)
theorem dX7_layMinute_72 : DR cX7_layMinute 72 (.aload_n 0) 1 := dk_42 (bA_sl (a := 64) (j := 8) bkX7_layMinute_1 rfl)
theorem dX7_layMinute_73 : DR cX7_layMinute 73 (.dup) 1 := dk_89 (bA_sl (a := 64) (j := 9) bkX7_layMinute_1 rfl)
theorem dX7_layMinute_74 : DR cX7_layMinute 74 (.getfield 42) 3 := dk_180 (bA_sl (a := 64) (j := 10) bkX7_layMinute_1 rfl) (bA_sl (a := 64) (j := 11) bkX7_layMinute_1 rfl) (bA_sl (a := 64) (j := 12) bkX7_layMinute_1 rfl) (by decide) rfl
theorem dX7_layMinute_77 : DR cX7_layMinute 77 (.iconst 1) 1 := dk_4 (bA_sl (a := 64) (j := 13) bkX7_layMinute_1 rfl)
theorem dX7_layMinute_78 : DR cX7_layMinute 78 (.iadd) 1 := dk_96 (bA_sl (a := 64) (j := 14) bkX7_layMinute_1 rfl)
theorem dX7_layMinute_79 : DR cX7_layMinute 79 (.putfield 42) 3 := dk_181 (bA_sl (a := 64) (j := 15) bkX7_layMinute_1 rfl) (bA_sl (a := 64) (j := 16) bkX7_layMinute_1 rfl) (bA_sl (a := 64) (j := 17) bkX7_layMinute_1 rfl) (by decide) rfl
theorem dX7_layMinute_82 : DR cX7_layMinute 82 (.aload_n 0) 1 := dk_42 (bA_sl (a := 64) (j := 18) bkX7_layMinute_1 rfl)
theorem dX7_layMinute_83 : DR cX7_layMinute 83 (.getfield 32) 3 := dk_180 (bA_sl (a := 64) (j := 19) bkX7_layMinute_1 rfl) (bA_sl (a := 64) (j := 20) bkX7_layMinute_1 rfl) (bA_sl (a := 64) (j := 21) bkX7_layMinute_1 rfl) (by decide) rfl
theorem dX7_layMinute_86 : DR cX7_layMinute 86 (.aload_n 0) 1 := dk_42 (bA_sl (a := 64) (j := 22) bkX7_layMinute_1 rfl)
theorem dX7_layMinute_87 : DR cX7_layMinute 87 (.getfield 42) 3 := dk_180 (bA_sl (a := 64) (j := 23) bkX7_layMinute_1 rfl) (bA_sl (a := 64) (j := 24) bkX7_layMinute_1 rfl) (bA_sl (a := 64) (j := 25) bkX7_layMinute_1 rfl) (by decide) rfl
theorem dX7_layMinute_90 : DR cX7_layMinute 90 (.iconst 1) 1 := dk_4 (bA_sl (a := 64) (j := 26) bkX7_layMinute_1 rfl)
theorem dX7_layMinute_91 : DR cX7_layMinute 91 (.iadd) 1 := dk_96 (bA_sl (a := 64) (j := 27) bkX7_layMinute_1 rfl)
theorem dX7_layMinute_92 : DR cX7_layMinute 92 (.aload_n 0) 1 := dk_42 (bA_sl (a := 64) (j := 28) bkX7_layMinute_1 rfl)
theorem dX7_layMinute_93 : DR cX7_layMinute 93 (.getfield 45) 3 := dk_180 (bA_sl (a := 64) (j := 29) bkX7_layMinute_1 rfl) (bA_sl (a := 64) (j := 30) bkX7_layMinute_1 rfl) (bA_sl (a := 64) (j := 31) bkX7_layMinute_1 rfl) (by decide) rfl
theorem dX7_layMinute_96 : DR cX7_layMinute 96 (.iastore) 1 := dk_79 (bA_sl (a := 64) (j := 32) bkX7_layMinute_1 rfl)
theorem dX7_layMinute_97 : DR cX7_layMinute 97 (.return_) 1 := dk_177 (bA_sl (a := 64) (j := 33) bkX7_layMinute_1 rfl)
theorem bkX7_arrive_0 : ((cX7_arrive.data.toList.drop 0).take 64).map UInt8.toNat = [28, 155, 0, 17, 28, 42, 180, 0, 35, 162, 0, 9, 28, 16, 16, 161, 0, 4, 177, 42, 180, 0, 11, 27, 47, 10, 7, 28, 104, 121, 97, 55, 5, 3, 54, 7, 22, 5, 20, 0, 81, 105, 16, 52, 125, 136, 54, 8, 3, 54, 9, 21, 9, 17, 16, 0, 162, 0, 102, 42, 180, 0, 29, 21] := by decide +kernel
theorem dX7_arrive_0 : DR cX7_arrive 0 (.iload_n 2) 1 := dk_28 (bA_sl (a := 0) (j := 0) bkX7_arrive_0 rfl)
theorem dX7_arrive_1 : DR cX7_arrive 1 (.ifCond .lt 17) 3 := dk_155 (bA_sl (a := 0) (j := 1) bkX7_arrive_0 rfl) (bA_sl (a := 0) (j := 2) bkX7_arrive_0 rfl) (bA_sl (a := 0) (j := 3) bkX7_arrive_0 rfl) (by decide) (by decide)
theorem dX7_arrive_4 : DR cX7_arrive 4 (.iload_n 2) 1 := dk_28 (bA_sl (a := 0) (j := 4) bkX7_arrive_0 rfl)
theorem dX7_arrive_5 : DR cX7_arrive 5 (.aload_n 0) 1 := dk_42 (bA_sl (a := 0) (j := 5) bkX7_arrive_0 rfl)
theorem dX7_arrive_6 : DR cX7_arrive 6 (.getfield 35) 3 := dk_180 (bA_sl (a := 0) (j := 6) bkX7_arrive_0 rfl) (bA_sl (a := 0) (j := 7) bkX7_arrive_0 rfl) (bA_sl (a := 0) (j := 8) bkX7_arrive_0 rfl) (by decide) rfl
theorem dX7_arrive_9 : DR cX7_arrive 9 (.if_icmp .ge 9) 3 := dk_162 (bA_sl (a := 0) (j := 9) bkX7_arrive_0 rfl) (bA_sl (a := 0) (j := 10) bkX7_arrive_0 rfl) (bA_sl (a := 0) (j := 11) bkX7_arrive_0 rfl) (by decide) (by decide)
theorem dX7_arrive_12 : DR cX7_arrive 12 (.iload_n 2) 1 := dk_28 (bA_sl (a := 0) (j := 12) bkX7_arrive_0 rfl)
theorem dX7_arrive_13 : DR cX7_arrive 13 (.bipush 16) 2 := dk_16 (bA_sl (a := 0) (j := 13) bkX7_arrive_0 rfl) (bA_sl (a := 0) (j := 14) bkX7_arrive_0 rfl) (by decide) (by decide)
theorem dX7_arrive_15 : DR cX7_arrive 15 (.if_icmp .lt 4) 3 := dk_161 (bA_sl (a := 0) (j := 15) bkX7_arrive_0 rfl) (bA_sl (a := 0) (j := 16) bkX7_arrive_0 rfl) (bA_sl (a := 0) (j := 17) bkX7_arrive_0 rfl) (by decide) (by decide)
theorem dX7_arrive_18 : DR cX7_arrive 18 (.return_) 1 := dk_177 (bA_sl (a := 0) (j := 18) bkX7_arrive_0 rfl)
theorem dX7_arrive_19 : DR cX7_arrive 19 (.aload_n 0) 1 := dk_42 (bA_sl (a := 0) (j := 19) bkX7_arrive_0 rfl)
theorem dX7_arrive_20 : DR cX7_arrive 20 (.getfield 11) 3 := dk_180 (bA_sl (a := 0) (j := 20) bkX7_arrive_0 rfl) (bA_sl (a := 0) (j := 21) bkX7_arrive_0 rfl) (bA_sl (a := 0) (j := 22) bkX7_arrive_0 rfl) (by decide) rfl
theorem dX7_arrive_23 : DR cX7_arrive 23 (.iload_n 1) 1 := dk_27 (bA_sl (a := 0) (j := 23) bkX7_arrive_0 rfl)
theorem dX7_arrive_24 : DR cX7_arrive 24 (.laload) 1 := dk_47 (bA_sl (a := 0) (j := 24) bkX7_arrive_0 rfl)
theorem dX7_arrive_25 : DR cX7_arrive 25 (.lconst 1) 1 := dk_10 (bA_sl (a := 0) (j := 25) bkX7_arrive_0 rfl)
theorem dX7_arrive_26 : DR cX7_arrive 26 (.iconst 4) 1 := dk_7 (bA_sl (a := 0) (j := 26) bkX7_arrive_0 rfl)
theorem dX7_arrive_27 : DR cX7_arrive 27 (.iload_n 2) 1 := dk_28 (bA_sl (a := 0) (j := 27) bkX7_arrive_0 rfl)
theorem dX7_arrive_28 : DR cX7_arrive 28 (.imul) 1 := dk_104 (bA_sl (a := 0) (j := 28) bkX7_arrive_0 rfl)
theorem dX7_arrive_29 : DR cX7_arrive 29 (.lshl) 1 := dk_121 (bA_sl (a := 0) (j := 29) bkX7_arrive_0 rfl)
theorem dX7_arrive_30 : DR cX7_arrive 30 (.ladd) 1 := dk_97 (bA_sl (a := 0) (j := 30) bkX7_arrive_0 rfl)
theorem dX7_arrive_31 : DR cX7_arrive 31 (.lstore 5) 2 := dk_55 (bA_sl (a := 0) (j := 31) bkX7_arrive_0 rfl) (bA_sl (a := 0) (j := 32) bkX7_arrive_0 rfl) (by decide)
theorem dX7_arrive_33 : DR cX7_arrive 33 (.iconst 0) 1 := dk_3 (bA_sl (a := 0) (j := 33) bkX7_arrive_0 rfl)
theorem dX7_arrive_34 : DR cX7_arrive 34 (.istore 7) 2 := dk_54 (bA_sl (a := 0) (j := 34) bkX7_arrive_0 rfl) (bA_sl (a := 0) (j := 35) bkX7_arrive_0 rfl) (by decide)
theorem dX7_arrive_36 : DR cX7_arrive 36 (.lload 5) 2 := dk_22 (bA_sl (a := 0) (j := 36) bkX7_arrive_0 rfl) (bA_sl (a := 0) (j := 37) bkX7_arrive_0 rfl) (by decide)
theorem dX7_arrive_38 : DR cX7_arrive 38 (.ldc2_w 81) 3 := dk_20 (bA_sl (a := 0) (j := 38) bkX7_arrive_0 rfl) (bA_sl (a := 0) (j := 39) bkX7_arrive_0 rfl) (bA_sl (a := 0) (j := 40) bkX7_arrive_0 rfl) (by decide) rfl
theorem dX7_arrive_41 : DR cX7_arrive 41 (.lmul) 1 := dk_105 (bA_sl (a := 0) (j := 41) bkX7_arrive_0 rfl)
theorem dX7_arrive_42 : DR cX7_arrive 42 (.bipush 52) 2 := dk_16 (bA_sl (a := 0) (j := 42) bkX7_arrive_0 rfl) (bA_sl (a := 0) (j := 43) bkX7_arrive_0 rfl) (by decide) (by decide)
theorem dX7_arrive_44 : DR cX7_arrive 44 (.lushr) 1 := dk_125 (bA_sl (a := 0) (j := 44) bkX7_arrive_0 rfl)
theorem dX7_arrive_45 : DR cX7_arrive 45 (.l2i) 1 := dk_136 (bA_sl (a := 0) (j := 45) bkX7_arrive_0 rfl)
theorem dX7_arrive_46 : DR cX7_arrive 46 (.istore 8) 2 := dk_54 (bA_sl (a := 0) (j := 46) bkX7_arrive_0 rfl) (bA_sl (a := 0) (j := 47) bkX7_arrive_0 rfl) (by decide)
theorem dX7_arrive_48 : DR cX7_arrive 48 (.iconst 0) 1 := dk_3 (bA_sl (a := 0) (j := 48) bkX7_arrive_0 rfl)
theorem dX7_arrive_49 : DR cX7_arrive 49 (.istore 9) 2 := dk_54 (bA_sl (a := 0) (j := 49) bkX7_arrive_0 rfl) (bA_sl (a := 0) (j := 50) bkX7_arrive_0 rfl) (by decide)
theorem dX7_arrive_51 : DR cX7_arrive 51 (.iload 9) 2 := dk_21 (bA_sl (a := 0) (j := 51) bkX7_arrive_0 rfl) (bA_sl (a := 0) (j := 52) bkX7_arrive_0 rfl) (by decide)
theorem dX7_arrive_53 : DR cX7_arrive 53 (.sipush 4096) 3 := dk_17 (bA_sl (a := 0) (j := 53) bkX7_arrive_0 rfl) (bA_sl (a := 0) (j := 54) bkX7_arrive_0 rfl) (bA_sl (a := 0) (j := 55) bkX7_arrive_0 rfl) (by decide) (by decide)
theorem dX7_arrive_56 : DR cX7_arrive 56 (.if_icmp .ge 102) 3 := dk_162 (bA_sl (a := 0) (j := 56) bkX7_arrive_0 rfl) (bA_sl (a := 0) (j := 57) bkX7_arrive_0 rfl) (bA_sl (a := 0) (j := 58) bkX7_arrive_0 rfl) (by decide) (by decide)
theorem dX7_arrive_59 : DR cX7_arrive 59 (.aload_n 0) 1 := dk_42 (bA_sl (a := 0) (j := 59) bkX7_arrive_0 rfl)
theorem dX7_arrive_60 : DR cX7_arrive 60 (.getfield 29) 3 := dk_180 (bA_sl (a := 0) (j := 60) bkX7_arrive_0 rfl) (bA_sl (a := 0) (j := 61) bkX7_arrive_0 rfl) (bA_sl (a := 0) (j := 62) bkX7_arrive_0 rfl) (by decide) rfl
theorem bkX7_arrive_1 : ((cX7_arrive.data.toList.drop 64).take 64).map UInt8.toNat = [8, 46, 54, 10, 21, 10, 21, 4, 162, 0, 26, 42, 180, 0, 29, 21, 8, 42, 180, 0, 45, 79, 42, 27, 22, 5, 28, 29, 21, 7, 182, 0, 83, 177, 42, 180, 0, 11, 21, 10, 47, 22, 5, 148, 154, 0, 34, 42, 180, 0, 15, 21, 10, 46, 28, 160, 0, 20, 42, 180, 0, 19, 21, 10] := by decide +kernel
theorem dX7_arrive_63 : DR cX7_arrive 63 (.iload 8) 2 := dk_21 (bA_sl (a := 0) (j := 63) bkX7_arrive_0 rfl) (bA_sl (a := 64) (j := 0) bkX7_arrive_1 rfl) (by decide)
theorem dX7_arrive_65 : DR cX7_arrive 65 (.iaload) 1 := dk_46 (bA_sl (a := 64) (j := 1) bkX7_arrive_1 rfl)
theorem dX7_arrive_66 : DR cX7_arrive 66 (.istore 10) 2 := dk_54 (bA_sl (a := 64) (j := 2) bkX7_arrive_1 rfl) (bA_sl (a := 64) (j := 3) bkX7_arrive_1 rfl) (by decide)
theorem dX7_arrive_68 : DR cX7_arrive 68 (.iload 10) 2 := dk_21 (bA_sl (a := 64) (j := 4) bkX7_arrive_1 rfl) (bA_sl (a := 64) (j := 5) bkX7_arrive_1 rfl) (by decide)
theorem dX7_arrive_70 : DR cX7_arrive 70 (.iload 4) 2 := dk_21 (bA_sl (a := 64) (j := 6) bkX7_arrive_1 rfl) (bA_sl (a := 64) (j := 7) bkX7_arrive_1 rfl) (by decide)
theorem dX7_arrive_72 : DR cX7_arrive 72 (.if_icmp .ge 26) 3 := dk_162 (bA_sl (a := 64) (j := 8) bkX7_arrive_1 rfl) (bA_sl (a := 64) (j := 9) bkX7_arrive_1 rfl) (bA_sl (a := 64) (j := 10) bkX7_arrive_1 rfl) (by decide) (by decide)
theorem dX7_arrive_75 : DR cX7_arrive 75 (.aload_n 0) 1 := dk_42 (bA_sl (a := 64) (j := 11) bkX7_arrive_1 rfl)
theorem dX7_arrive_76 : DR cX7_arrive 76 (.getfield 29) 3 := dk_180 (bA_sl (a := 64) (j := 12) bkX7_arrive_1 rfl) (bA_sl (a := 64) (j := 13) bkX7_arrive_1 rfl) (bA_sl (a := 64) (j := 14) bkX7_arrive_1 rfl) (by decide) rfl
theorem dX7_arrive_79 : DR cX7_arrive 79 (.iload 8) 2 := dk_21 (bA_sl (a := 64) (j := 15) bkX7_arrive_1 rfl) (bA_sl (a := 64) (j := 16) bkX7_arrive_1 rfl) (by decide)
theorem dX7_arrive_81 : DR cX7_arrive 81 (.aload_n 0) 1 := dk_42 (bA_sl (a := 64) (j := 17) bkX7_arrive_1 rfl)
theorem dX7_arrive_82 : DR cX7_arrive 82 (.getfield 45) 3 := dk_180 (bA_sl (a := 64) (j := 18) bkX7_arrive_1 rfl) (bA_sl (a := 64) (j := 19) bkX7_arrive_1 rfl) (bA_sl (a := 64) (j := 20) bkX7_arrive_1 rfl) (by decide) rfl
theorem dX7_arrive_85 : DR cX7_arrive 85 (.iastore) 1 := dk_79 (bA_sl (a := 64) (j := 21) bkX7_arrive_1 rfl)
theorem dX7_arrive_86 : DR cX7_arrive 86 (.aload_n 0) 1 := dk_42 (bA_sl (a := 64) (j := 22) bkX7_arrive_1 rfl)
theorem dX7_arrive_87 : DR cX7_arrive 87 (.iload_n 1) 1 := dk_27 (bA_sl (a := 64) (j := 23) bkX7_arrive_1 rfl)
theorem dX7_arrive_88 : DR cX7_arrive 88 (.lload 5) 2 := dk_22 (bA_sl (a := 64) (j := 24) bkX7_arrive_1 rfl) (bA_sl (a := 64) (j := 25) bkX7_arrive_1 rfl) (by decide)
theorem dX7_arrive_90 : DR cX7_arrive 90 (.iload_n 2) 1 := dk_28 (bA_sl (a := 64) (j := 26) bkX7_arrive_1 rfl)
theorem dX7_arrive_91 : DR cX7_arrive 91 (.iload_n 3) 1 := dk_29 (bA_sl (a := 64) (j := 27) bkX7_arrive_1 rfl)
theorem dX7_arrive_92 : DR cX7_arrive 92 (.iload 7) 2 := dk_21 (bA_sl (a := 64) (j := 28) bkX7_arrive_1 rfl) (bA_sl (a := 64) (j := 29) bkX7_arrive_1 rfl) (by decide)
theorem dX7_arrive_94 : DR cX7_arrive 94 (.invokevirtual 83) 3 := dk_182 (bA_sl (a := 64) (j := 30) bkX7_arrive_1 rfl) (bA_sl (a := 64) (j := 31) bkX7_arrive_1 rfl) (bA_sl (a := 64) (j := 32) bkX7_arrive_1 rfl) (by decide) rfl
theorem dX7_arrive_97 : DR cX7_arrive 97 (.return_) 1 := dk_177 (bA_sl (a := 64) (j := 33) bkX7_arrive_1 rfl)
theorem dX7_arrive_98 : DR cX7_arrive 98 (.aload_n 0) 1 := dk_42 (bA_sl (a := 64) (j := 34) bkX7_arrive_1 rfl)
theorem dX7_arrive_99 : DR cX7_arrive 99 (.getfield 11) 3 := dk_180 (bA_sl (a := 64) (j := 35) bkX7_arrive_1 rfl) (bA_sl (a := 64) (j := 36) bkX7_arrive_1 rfl) (bA_sl (a := 64) (j := 37) bkX7_arrive_1 rfl) (by decide) rfl
theorem dX7_arrive_102 : DR cX7_arrive 102 (.iload 10) 2 := dk_21 (bA_sl (a := 64) (j := 38) bkX7_arrive_1 rfl) (bA_sl (a := 64) (j := 39) bkX7_arrive_1 rfl) (by decide)
theorem dX7_arrive_104 : DR cX7_arrive 104 (.laload) 1 := dk_47 (bA_sl (a := 64) (j := 40) bkX7_arrive_1 rfl)
theorem dX7_arrive_105 : DR cX7_arrive 105 (.lload 5) 2 := dk_22 (bA_sl (a := 64) (j := 41) bkX7_arrive_1 rfl) (bA_sl (a := 64) (j := 42) bkX7_arrive_1 rfl) (by decide)
theorem dX7_arrive_107 : DR cX7_arrive 107 (.lcmp) 1 := dk_148 (bA_sl (a := 64) (j := 43) bkX7_arrive_1 rfl)
theorem dX7_arrive_108 : DR cX7_arrive 108 (.ifCond .ne 34) 3 := dk_154 (bA_sl (a := 64) (j := 44) bkX7_arrive_1 rfl) (bA_sl (a := 64) (j := 45) bkX7_arrive_1 rfl) (bA_sl (a := 64) (j := 46) bkX7_arrive_1 rfl) (by decide) (by decide)
theorem dX7_arrive_111 : DR cX7_arrive 111 (.aload_n 0) 1 := dk_42 (bA_sl (a := 64) (j := 47) bkX7_arrive_1 rfl)
theorem dX7_arrive_112 : DR cX7_arrive 112 (.getfield 15) 3 := dk_180 (bA_sl (a := 64) (j := 48) bkX7_arrive_1 rfl) (bA_sl (a := 64) (j := 49) bkX7_arrive_1 rfl) (bA_sl (a := 64) (j := 50) bkX7_arrive_1 rfl) (by decide) rfl
theorem dX7_arrive_115 : DR cX7_arrive 115 (.iload 10) 2 := dk_21 (bA_sl (a := 64) (j := 51) bkX7_arrive_1 rfl) (bA_sl (a := 64) (j := 52) bkX7_arrive_1 rfl) (by decide)
theorem dX7_arrive_117 : DR cX7_arrive 117 (.iaload) 1 := dk_46 (bA_sl (a := 64) (j := 53) bkX7_arrive_1 rfl)
theorem dX7_arrive_118 : DR cX7_arrive 118 (.iload_n 2) 1 := dk_28 (bA_sl (a := 64) (j := 54) bkX7_arrive_1 rfl)
theorem dX7_arrive_119 : DR cX7_arrive 119 (.if_icmp .ne 20) 3 := dk_160 (bA_sl (a := 64) (j := 55) bkX7_arrive_1 rfl) (bA_sl (a := 64) (j := 56) bkX7_arrive_1 rfl) (bA_sl (a := 64) (j := 57) bkX7_arrive_1 rfl) (by decide) (by decide)
theorem dX7_arrive_122 : DR cX7_arrive 122 (.aload_n 0) 1 := dk_42 (bA_sl (a := 64) (j := 58) bkX7_arrive_1 rfl)
theorem dX7_arrive_123 : DR cX7_arrive 123 (.getfield 19) 3 := dk_180 (bA_sl (a := 64) (j := 59) bkX7_arrive_1 rfl) (bA_sl (a := 64) (j := 60) bkX7_arrive_1 rfl) (bA_sl (a := 64) (j := 61) bkX7_arrive_1 rfl) (by decide) rfl
theorem dX7_arrive_126 : DR cX7_arrive 126 (.iload 10) 2 := dk_21 (bA_sl (a := 64) (j := 62) bkX7_arrive_1 rfl) (bA_sl (a := 64) (j := 63) bkX7_arrive_1 rfl) (by decide)
theorem bkX7_arrive_2 : ((cX7_arrive.data.toList.drop 128).take 64).map UInt8.toNat = [92, 46, 42, 180, 0, 19, 27, 46, 96, 79, 177, 4, 54, 7, 21, 8, 4, 96, 17, 15, 255, 126, 54, 8, 132, 9, 1, 167, 255, 152, 177] := by decide +kernel
theorem dX7_arrive_128 : DR cX7_arrive 128 (.dup2) 1 := dk_92 (bA_sl (a := 128) (j := 0) bkX7_arrive_2 rfl)
theorem dX7_arrive_129 : DR cX7_arrive 129 (.iaload) 1 := dk_46 (bA_sl (a := 128) (j := 1) bkX7_arrive_2 rfl)
theorem dX7_arrive_130 : DR cX7_arrive 130 (.aload_n 0) 1 := dk_42 (bA_sl (a := 128) (j := 2) bkX7_arrive_2 rfl)
theorem dX7_arrive_131 : DR cX7_arrive 131 (.getfield 19) 3 := dk_180 (bA_sl (a := 128) (j := 3) bkX7_arrive_2 rfl) (bA_sl (a := 128) (j := 4) bkX7_arrive_2 rfl) (bA_sl (a := 128) (j := 5) bkX7_arrive_2 rfl) (by decide) rfl
theorem dX7_arrive_134 : DR cX7_arrive 134 (.iload_n 1) 1 := dk_27 (bA_sl (a := 128) (j := 6) bkX7_arrive_2 rfl)
theorem dX7_arrive_135 : DR cX7_arrive 135 (.iaload) 1 := dk_46 (bA_sl (a := 128) (j := 7) bkX7_arrive_2 rfl)
theorem dX7_arrive_136 : DR cX7_arrive 136 (.iadd) 1 := dk_96 (bA_sl (a := 128) (j := 8) bkX7_arrive_2 rfl)
theorem dX7_arrive_137 : DR cX7_arrive 137 (.iastore) 1 := dk_79 (bA_sl (a := 128) (j := 9) bkX7_arrive_2 rfl)
theorem dX7_arrive_138 : DR cX7_arrive 138 (.return_) 1 := dk_177 (bA_sl (a := 128) (j := 10) bkX7_arrive_2 rfl)
theorem dX7_arrive_139 : DR cX7_arrive 139 (.iconst 1) 1 := dk_4 (bA_sl (a := 128) (j := 11) bkX7_arrive_2 rfl)
theorem dX7_arrive_140 : DR cX7_arrive 140 (.istore 7) 2 := dk_54 (bA_sl (a := 128) (j := 12) bkX7_arrive_2 rfl) (bA_sl (a := 128) (j := 13) bkX7_arrive_2 rfl) (by decide)
theorem dX7_arrive_142 : DR cX7_arrive 142 (.iload 8) 2 := dk_21 (bA_sl (a := 128) (j := 14) bkX7_arrive_2 rfl) (bA_sl (a := 128) (j := 15) bkX7_arrive_2 rfl) (by decide)
theorem dX7_arrive_144 : DR cX7_arrive 144 (.iconst 1) 1 := dk_4 (bA_sl (a := 128) (j := 16) bkX7_arrive_2 rfl)
theorem dX7_arrive_145 : DR cX7_arrive 145 (.iadd) 1 := dk_96 (bA_sl (a := 128) (j := 17) bkX7_arrive_2 rfl)
theorem dX7_arrive_146 : DR cX7_arrive 146 (.sipush 4095) 3 := dk_17 (bA_sl (a := 128) (j := 18) bkX7_arrive_2 rfl) (bA_sl (a := 128) (j := 19) bkX7_arrive_2 rfl) (bA_sl (a := 128) (j := 20) bkX7_arrive_2 rfl) (by decide) (by decide)
theorem dX7_arrive_149 : DR cX7_arrive 149 (.iand) 1 := dk_126 (bA_sl (a := 128) (j := 21) bkX7_arrive_2 rfl)
theorem dX7_arrive_150 : DR cX7_arrive 150 (.istore 8) 2 := dk_54 (bA_sl (a := 128) (j := 22) bkX7_arrive_2 rfl) (bA_sl (a := 128) (j := 23) bkX7_arrive_2 rfl) (by decide)
theorem dX7_arrive_152 : DR cX7_arrive 152 (.iinc 9 1) 3 := dk_132 (bA_sl (a := 128) (j := 24) bkX7_arrive_2 rfl) (bA_sl (a := 128) (j := 25) bkX7_arrive_2 rfl) (bA_sl (a := 128) (j := 26) bkX7_arrive_2 rfl) (by decide) (by decide)
theorem dX7_arrive_155 : DR cX7_arrive 155 (.goto (-104)) 3 := dk_167 (bA_sl (a := 128) (j := 27) bkX7_arrive_2 rfl) (bA_sl (a := 128) (j := 28) bkX7_arrive_2 rfl) (bA_sl (a := 128) (j := 29) bkX7_arrive_2 rfl) (by decide) (by decide)
theorem dX7_arrive_158 : DR cX7_arrive 158 (.return_) 1 := dk_177 (bA_sl (a := 128) (j := 30) bkX7_arrive_2 rfl)
theorem bkX7_append_0 : ((cX7_append.data.toList.drop 0).take 64).map UInt8.toNat = [42, 180, 0, 45, 17, 10, 0, 162, 0, 80, 42, 180, 0, 11, 42, 180, 0, 45, 32, 80, 42, 180, 0, 15, 42, 180, 0, 45, 21, 4, 79, 42, 180, 0, 19, 42, 180, 0, 45, 42, 180, 0, 19, 27, 46, 79, 42, 180, 0, 22, 42, 180, 0, 45, 42, 180, 0, 22, 27, 46, 5, 120, 21, 5] := by decide +kernel
theorem dX7_append_0 : DR cX7_append 0 (.aload_n 0) 1 := dk_42 (bA_sl (a := 0) (j := 0) bkX7_append_0 rfl)
theorem dX7_append_1 : DR cX7_append 1 (.getfield 45) 3 := dk_180 (bA_sl (a := 0) (j := 1) bkX7_append_0 rfl) (bA_sl (a := 0) (j := 2) bkX7_append_0 rfl) (bA_sl (a := 0) (j := 3) bkX7_append_0 rfl) (by decide) rfl
theorem dX7_append_4 : DR cX7_append 4 (.sipush 2560) 3 := dk_17 (bA_sl (a := 0) (j := 4) bkX7_append_0 rfl) (bA_sl (a := 0) (j := 5) bkX7_append_0 rfl) (bA_sl (a := 0) (j := 6) bkX7_append_0 rfl) (by decide) (by decide)
theorem dX7_append_7 : DR cX7_append 7 (.if_icmp .ge 80) 3 := dk_162 (bA_sl (a := 0) (j := 7) bkX7_append_0 rfl) (bA_sl (a := 0) (j := 8) bkX7_append_0 rfl) (bA_sl (a := 0) (j := 9) bkX7_append_0 rfl) (by decide) (by decide)
theorem dX7_append_10 : DR cX7_append 10 (.aload_n 0) 1 := dk_42 (bA_sl (a := 0) (j := 10) bkX7_append_0 rfl)
theorem dX7_append_11 : DR cX7_append 11 (.getfield 11) 3 := dk_180 (bA_sl (a := 0) (j := 11) bkX7_append_0 rfl) (bA_sl (a := 0) (j := 12) bkX7_append_0 rfl) (bA_sl (a := 0) (j := 13) bkX7_append_0 rfl) (by decide) rfl
theorem dX7_append_14 : DR cX7_append 14 (.aload_n 0) 1 := dk_42 (bA_sl (a := 0) (j := 14) bkX7_append_0 rfl)
theorem dX7_append_15 : DR cX7_append 15 (.getfield 45) 3 := dk_180 (bA_sl (a := 0) (j := 15) bkX7_append_0 rfl) (bA_sl (a := 0) (j := 16) bkX7_append_0 rfl) (bA_sl (a := 0) (j := 17) bkX7_append_0 rfl) (by decide) rfl
theorem dX7_append_18 : DR cX7_append 18 (.lload_n 2) 1 := dk_32 (bA_sl (a := 0) (j := 18) bkX7_append_0 rfl)
theorem dX7_append_19 : DR cX7_append 19 (.lastore) 1 := dk_80 (bA_sl (a := 0) (j := 19) bkX7_append_0 rfl)
theorem dX7_append_20 : DR cX7_append 20 (.aload_n 0) 1 := dk_42 (bA_sl (a := 0) (j := 20) bkX7_append_0 rfl)
theorem dX7_append_21 : DR cX7_append 21 (.getfield 15) 3 := dk_180 (bA_sl (a := 0) (j := 21) bkX7_append_0 rfl) (bA_sl (a := 0) (j := 22) bkX7_append_0 rfl) (bA_sl (a := 0) (j := 23) bkX7_append_0 rfl) (by decide) rfl
theorem dX7_append_24 : DR cX7_append 24 (.aload_n 0) 1 := dk_42 (bA_sl (a := 0) (j := 24) bkX7_append_0 rfl)
theorem dX7_append_25 : DR cX7_append 25 (.getfield 45) 3 := dk_180 (bA_sl (a := 0) (j := 25) bkX7_append_0 rfl) (bA_sl (a := 0) (j := 26) bkX7_append_0 rfl) (bA_sl (a := 0) (j := 27) bkX7_append_0 rfl) (by decide) rfl
theorem dX7_append_28 : DR cX7_append 28 (.iload 4) 2 := dk_21 (bA_sl (a := 0) (j := 28) bkX7_append_0 rfl) (bA_sl (a := 0) (j := 29) bkX7_append_0 rfl) (by decide)
theorem dX7_append_30 : DR cX7_append 30 (.iastore) 1 := dk_79 (bA_sl (a := 0) (j := 30) bkX7_append_0 rfl)
theorem dX7_append_31 : DR cX7_append 31 (.aload_n 0) 1 := dk_42 (bA_sl (a := 0) (j := 31) bkX7_append_0 rfl)
theorem dX7_append_32 : DR cX7_append 32 (.getfield 19) 3 := dk_180 (bA_sl (a := 0) (j := 32) bkX7_append_0 rfl) (bA_sl (a := 0) (j := 33) bkX7_append_0 rfl) (bA_sl (a := 0) (j := 34) bkX7_append_0 rfl) (by decide) rfl
theorem dX7_append_35 : DR cX7_append 35 (.aload_n 0) 1 := dk_42 (bA_sl (a := 0) (j := 35) bkX7_append_0 rfl)
theorem dX7_append_36 : DR cX7_append 36 (.getfield 45) 3 := dk_180 (bA_sl (a := 0) (j := 36) bkX7_append_0 rfl) (bA_sl (a := 0) (j := 37) bkX7_append_0 rfl) (bA_sl (a := 0) (j := 38) bkX7_append_0 rfl) (by decide) rfl
theorem dX7_append_39 : DR cX7_append 39 (.aload_n 0) 1 := dk_42 (bA_sl (a := 0) (j := 39) bkX7_append_0 rfl)
theorem dX7_append_40 : DR cX7_append 40 (.getfield 19) 3 := dk_180 (bA_sl (a := 0) (j := 40) bkX7_append_0 rfl) (bA_sl (a := 0) (j := 41) bkX7_append_0 rfl) (bA_sl (a := 0) (j := 42) bkX7_append_0 rfl) (by decide) rfl
theorem dX7_append_43 : DR cX7_append 43 (.iload_n 1) 1 := dk_27 (bA_sl (a := 0) (j := 43) bkX7_append_0 rfl)
theorem dX7_append_44 : DR cX7_append 44 (.iaload) 1 := dk_46 (bA_sl (a := 0) (j := 44) bkX7_append_0 rfl)
theorem dX7_append_45 : DR cX7_append 45 (.iastore) 1 := dk_79 (bA_sl (a := 0) (j := 45) bkX7_append_0 rfl)
theorem dX7_append_46 : DR cX7_append 46 (.aload_n 0) 1 := dk_42 (bA_sl (a := 0) (j := 46) bkX7_append_0 rfl)
theorem dX7_append_47 : DR cX7_append 47 (.getfield 22) 3 := dk_180 (bA_sl (a := 0) (j := 47) bkX7_append_0 rfl) (bA_sl (a := 0) (j := 48) bkX7_append_0 rfl) (bA_sl (a := 0) (j := 49) bkX7_append_0 rfl) (by decide) rfl
theorem dX7_append_50 : DR cX7_append 50 (.aload_n 0) 1 := dk_42 (bA_sl (a := 0) (j := 50) bkX7_append_0 rfl)
theorem dX7_append_51 : DR cX7_append 51 (.getfield 45) 3 := dk_180 (bA_sl (a := 0) (j := 51) bkX7_append_0 rfl) (bA_sl (a := 0) (j := 52) bkX7_append_0 rfl) (bA_sl (a := 0) (j := 53) bkX7_append_0 rfl) (by decide) rfl
theorem dX7_append_54 : DR cX7_append 54 (.aload_n 0) 1 := dk_42 (bA_sl (a := 0) (j := 54) bkX7_append_0 rfl)
theorem dX7_append_55 : DR cX7_append 55 (.getfield 22) 3 := dk_180 (bA_sl (a := 0) (j := 55) bkX7_append_0 rfl) (bA_sl (a := 0) (j := 56) bkX7_append_0 rfl) (bA_sl (a := 0) (j := 57) bkX7_append_0 rfl) (by decide) rfl
theorem dX7_append_58 : DR cX7_append 58 (.iload_n 1) 1 := dk_27 (bA_sl (a := 0) (j := 58) bkX7_append_0 rfl)
theorem dX7_append_59 : DR cX7_append 59 (.iaload) 1 := dk_46 (bA_sl (a := 0) (j := 59) bkX7_append_0 rfl)
theorem dX7_append_60 : DR cX7_append 60 (.iconst 2) 1 := dk_5 (bA_sl (a := 0) (j := 60) bkX7_append_0 rfl)
theorem dX7_append_61 : DR cX7_append 61 (.ishl) 1 := dk_120 (bA_sl (a := 0) (j := 61) bkX7_append_0 rfl)
theorem dX7_append_62 : DR cX7_append 62 (.iload 5) 2 := dk_21 (bA_sl (a := 0) (j := 62) bkX7_append_0 rfl) (bA_sl (a := 0) (j := 63) bkX7_append_0 rfl) (by decide)
theorem bkX7_append_1 : ((cX7_append.data.toList.drop 64).take 64).map UInt8.toNat = [128, 79, 42, 180, 0, 25, 42, 180, 0, 45, 21, 6, 84, 42, 89, 180, 0, 45, 4, 96, 181, 0, 45, 177] := by decide +kernel
theorem dX7_append_64 : DR cX7_append 64 (.ior) 1 := dk_128 (bA_sl (a := 64) (j := 0) bkX7_append_1 rfl)
theorem dX7_append_65 : DR cX7_append 65 (.iastore) 1 := dk_79 (bA_sl (a := 64) (j := 1) bkX7_append_1 rfl)
theorem dX7_append_66 : DR cX7_append 66 (.aload_n 0) 1 := dk_42 (bA_sl (a := 64) (j := 2) bkX7_append_1 rfl)
theorem dX7_append_67 : DR cX7_append 67 (.getfield 25) 3 := dk_180 (bA_sl (a := 64) (j := 3) bkX7_append_1 rfl) (bA_sl (a := 64) (j := 4) bkX7_append_1 rfl) (bA_sl (a := 64) (j := 5) bkX7_append_1 rfl) (by decide) rfl
theorem dX7_append_70 : DR cX7_append 70 (.aload_n 0) 1 := dk_42 (bA_sl (a := 64) (j := 6) bkX7_append_1 rfl)
theorem dX7_append_71 : DR cX7_append 71 (.getfield 45) 3 := dk_180 (bA_sl (a := 64) (j := 7) bkX7_append_1 rfl) (bA_sl (a := 64) (j := 8) bkX7_append_1 rfl) (bA_sl (a := 64) (j := 9) bkX7_append_1 rfl) (by decide) rfl
theorem dX7_append_74 : DR cX7_append 74 (.iload 6) 2 := dk_21 (bA_sl (a := 64) (j := 10) bkX7_append_1 rfl) (bA_sl (a := 64) (j := 11) bkX7_append_1 rfl) (by decide)
theorem dX7_append_76 : DR cX7_append 76 (.bastore) 1 := dk_84 (bA_sl (a := 64) (j := 12) bkX7_append_1 rfl)
theorem dX7_append_77 : DR cX7_append 77 (.aload_n 0) 1 := dk_42 (bA_sl (a := 64) (j := 13) bkX7_append_1 rfl)
theorem dX7_append_78 : DR cX7_append 78 (.dup) 1 := dk_89 (bA_sl (a := 64) (j := 14) bkX7_append_1 rfl)
theorem dX7_append_79 : DR cX7_append 79 (.getfield 45) 3 := dk_180 (bA_sl (a := 64) (j := 15) bkX7_append_1 rfl) (bA_sl (a := 64) (j := 16) bkX7_append_1 rfl) (bA_sl (a := 64) (j := 17) bkX7_append_1 rfl) (by decide) rfl
theorem dX7_append_82 : DR cX7_append 82 (.iconst 1) 1 := dk_4 (bA_sl (a := 64) (j := 18) bkX7_append_1 rfl)
theorem dX7_append_83 : DR cX7_append 83 (.iadd) 1 := dk_96 (bA_sl (a := 64) (j := 19) bkX7_append_1 rfl)
theorem dX7_append_84 : DR cX7_append 84 (.putfield 45) 3 := dk_181 (bA_sl (a := 64) (j := 20) bkX7_append_1 rfl) (bA_sl (a := 64) (j := 21) bkX7_append_1 rfl) (bA_sl (a := 64) (j := 22) bkX7_append_1 rfl) (by decide) rfl
theorem dX7_append_87 : DR cX7_append 87 (.return_) 1 := dk_177 (bA_sl (a := 64) (j := 23) bkX7_append_1 rfl)
theorem bkX7_moveOf_0 : ((cX7_moveOf.data.toList.drop 0).take 64).map UInt8.toNat = [29, 155, 0, 8, 29, 28, 161, 0, 5, 2, 172, 42, 180, 0, 22, 27, 46, 5, 28, 4, 100, 29, 100, 104, 122, 6, 126, 172] := by decide +kernel
theorem dX7_moveOf_0 : DR cX7_moveOf 0 (.iload_n 3) 1 := dk_29 (bA_sl (a := 0) (j := 0) bkX7_moveOf_0 rfl)
theorem dX7_moveOf_1 : DR cX7_moveOf 1 (.ifCond .lt 8) 3 := dk_155 (bA_sl (a := 0) (j := 1) bkX7_moveOf_0 rfl) (bA_sl (a := 0) (j := 2) bkX7_moveOf_0 rfl) (bA_sl (a := 0) (j := 3) bkX7_moveOf_0 rfl) (by decide) (by decide)
theorem dX7_moveOf_4 : DR cX7_moveOf 4 (.iload_n 3) 1 := dk_29 (bA_sl (a := 0) (j := 4) bkX7_moveOf_0 rfl)
theorem dX7_moveOf_5 : DR cX7_moveOf 5 (.iload_n 2) 1 := dk_28 (bA_sl (a := 0) (j := 5) bkX7_moveOf_0 rfl)
theorem dX7_moveOf_6 : DR cX7_moveOf 6 (.if_icmp .lt 5) 3 := dk_161 (bA_sl (a := 0) (j := 6) bkX7_moveOf_0 rfl) (bA_sl (a := 0) (j := 7) bkX7_moveOf_0 rfl) (bA_sl (a := 0) (j := 8) bkX7_moveOf_0 rfl) (by decide) (by decide)
theorem dX7_moveOf_9 : DR cX7_moveOf 9 (.iconst (-1)) 1 := dk_2 (bA_sl (a := 0) (j := 9) bkX7_moveOf_0 rfl)
theorem dX7_moveOf_10 : DR cX7_moveOf 10 (.ireturn) 1 := dk_172 (bA_sl (a := 0) (j := 10) bkX7_moveOf_0 rfl)
theorem dX7_moveOf_11 : DR cX7_moveOf 11 (.aload_n 0) 1 := dk_42 (bA_sl (a := 0) (j := 11) bkX7_moveOf_0 rfl)
theorem dX7_moveOf_12 : DR cX7_moveOf 12 (.getfield 22) 3 := dk_180 (bA_sl (a := 0) (j := 12) bkX7_moveOf_0 rfl) (bA_sl (a := 0) (j := 13) bkX7_moveOf_0 rfl) (bA_sl (a := 0) (j := 14) bkX7_moveOf_0 rfl) (by decide) rfl
theorem dX7_moveOf_15 : DR cX7_moveOf 15 (.iload_n 1) 1 := dk_27 (bA_sl (a := 0) (j := 15) bkX7_moveOf_0 rfl)
theorem dX7_moveOf_16 : DR cX7_moveOf 16 (.iaload) 1 := dk_46 (bA_sl (a := 0) (j := 16) bkX7_moveOf_0 rfl)
theorem dX7_moveOf_17 : DR cX7_moveOf 17 (.iconst 2) 1 := dk_5 (bA_sl (a := 0) (j := 17) bkX7_moveOf_0 rfl)
theorem dX7_moveOf_18 : DR cX7_moveOf 18 (.iload_n 2) 1 := dk_28 (bA_sl (a := 0) (j := 18) bkX7_moveOf_0 rfl)
theorem dX7_moveOf_19 : DR cX7_moveOf 19 (.iconst 1) 1 := dk_4 (bA_sl (a := 0) (j := 19) bkX7_moveOf_0 rfl)
theorem dX7_moveOf_20 : DR cX7_moveOf 20 (.isub) 1 := dk_100 (bA_sl (a := 0) (j := 20) bkX7_moveOf_0 rfl)
theorem dX7_moveOf_21 : DR cX7_moveOf 21 (.iload_n 3) 1 := dk_29 (bA_sl (a := 0) (j := 21) bkX7_moveOf_0 rfl)
theorem dX7_moveOf_22 : DR cX7_moveOf 22 (.isub) 1 := dk_100 (bA_sl (a := 0) (j := 22) bkX7_moveOf_0 rfl)
theorem dX7_moveOf_23 : DR cX7_moveOf 23 (.imul) 1 := dk_104 (bA_sl (a := 0) (j := 23) bkX7_moveOf_0 rfl)
theorem dX7_moveOf_24 : DR cX7_moveOf 24 (.ishr) 1 := dk_122 (bA_sl (a := 0) (j := 24) bkX7_moveOf_0 rfl)
theorem dX7_moveOf_25 : DR cX7_moveOf 25 (.iconst 3) 1 := dk_6 (bA_sl (a := 0) (j := 25) bkX7_moveOf_0 rfl)
theorem dX7_moveOf_26 : DR cX7_moveOf 26 (.iand) 1 := dk_126 (bA_sl (a := 0) (j := 26) bkX7_moveOf_0 rfl)
theorem dX7_moveOf_27 : DR cX7_moveOf 27 (.ireturn) 1 := dk_172 (bA_sl (a := 0) (j := 27) bkX7_moveOf_0 rfl)
theorem bkX8_init_0 : ((cX8_init.data.toList.drop 0).take 64).map UInt8.toNat = [42, 183, 0, 1, 42, 17, 3, 132, 188, 8, 181, 0, 9, 42, 3, 181, 0, 13, 42, 187, 0, 17, 89, 183, 0, 19, 181, 0, 20, 42, 187, 0, 24, 89, 183, 0, 26, 181, 0, 27, 42, 187, 0, 24, 89, 183, 0, 26, 181, 0, 31, 42, 5, 189, 0, 24, 181, 0, 34, 42, 5, 188, 4, 181] := by decide +kernel
theorem dX8_init_0 : DR cX8_init 0 (.aload_n 0) 1 := dk_42 (bA_sl (a := 0) (j := 0) bkX8_init_0 rfl)
theorem dX8_init_1 : DR cX8_init 1 (.invokespecial 1) 3 := dk_183 (bA_sl (a := 0) (j := 1) bkX8_init_0 rfl) (bA_sl (a := 0) (j := 2) bkX8_init_0 rfl) (bA_sl (a := 0) (j := 3) bkX8_init_0 rfl) (by decide) rfl
theorem dX8_init_4 : DR cX8_init 4 (.aload_n 0) 1 := dk_42 (bA_sl (a := 0) (j := 4) bkX8_init_0 rfl)
theorem dX8_init_5 : DR cX8_init 5 (.sipush 900) 3 := dk_17 (bA_sl (a := 0) (j := 5) bkX8_init_0 rfl) (bA_sl (a := 0) (j := 6) bkX8_init_0 rfl) (bA_sl (a := 0) (j := 7) bkX8_init_0 rfl) (by decide) (by decide)
theorem dX8_init_8 : decode cX8_init 8 = .ok (.newarray .byte, 2) := by decide +kernel
theorem dX8_init_10 : DR cX8_init 10 (.putfield 9) 3 := dk_181 (bA_sl (a := 0) (j := 10) bkX8_init_0 rfl) (bA_sl (a := 0) (j := 11) bkX8_init_0 rfl) (bA_sl (a := 0) (j := 12) bkX8_init_0 rfl) (by decide) rfl
theorem dX8_init_13 : DR cX8_init 13 (.aload_n 0) 1 := dk_42 (bA_sl (a := 0) (j := 13) bkX8_init_0 rfl)
theorem dX8_init_14 : DR cX8_init 14 (.iconst 0) 1 := dk_3 (bA_sl (a := 0) (j := 14) bkX8_init_0 rfl)
theorem dX8_init_15 : DR cX8_init 15 (.putfield 13) 3 := dk_181 (bA_sl (a := 0) (j := 15) bkX8_init_0 rfl) (bA_sl (a := 0) (j := 16) bkX8_init_0 rfl) (bA_sl (a := 0) (j := 17) bkX8_init_0 rfl) (by decide) rfl
theorem dX8_init_18 : DR cX8_init 18 (.aload_n 0) 1 := dk_42 (bA_sl (a := 0) (j := 18) bkX8_init_0 rfl)
theorem dX8_init_19 : DR cX8_init 19 (.new 17) 3 := dk_187 (bA_sl (a := 0) (j := 19) bkX8_init_0 rfl) (bA_sl (a := 0) (j := 20) bkX8_init_0 rfl) (bA_sl (a := 0) (j := 21) bkX8_init_0 rfl) (by decide) rfl
theorem dX8_init_22 : DR cX8_init 22 (.dup) 1 := dk_89 (bA_sl (a := 0) (j := 22) bkX8_init_0 rfl)
theorem dX8_init_23 : DR cX8_init 23 (.invokespecial 19) 3 := dk_183 (bA_sl (a := 0) (j := 23) bkX8_init_0 rfl) (bA_sl (a := 0) (j := 24) bkX8_init_0 rfl) (bA_sl (a := 0) (j := 25) bkX8_init_0 rfl) (by decide) rfl
theorem dX8_init_26 : DR cX8_init 26 (.putfield 20) 3 := dk_181 (bA_sl (a := 0) (j := 26) bkX8_init_0 rfl) (bA_sl (a := 0) (j := 27) bkX8_init_0 rfl) (bA_sl (a := 0) (j := 28) bkX8_init_0 rfl) (by decide) rfl
theorem dX8_init_29 : DR cX8_init 29 (.aload_n 0) 1 := dk_42 (bA_sl (a := 0) (j := 29) bkX8_init_0 rfl)
theorem dX8_init_30 : DR cX8_init 30 (.new 24) 3 := dk_187 (bA_sl (a := 0) (j := 30) bkX8_init_0 rfl) (bA_sl (a := 0) (j := 31) bkX8_init_0 rfl) (bA_sl (a := 0) (j := 32) bkX8_init_0 rfl) (by decide) rfl
theorem dX8_init_33 : DR cX8_init 33 (.dup) 1 := dk_89 (bA_sl (a := 0) (j := 33) bkX8_init_0 rfl)
theorem dX8_init_34 : DR cX8_init 34 (.invokespecial 26) 3 := dk_183 (bA_sl (a := 0) (j := 34) bkX8_init_0 rfl) (bA_sl (a := 0) (j := 35) bkX8_init_0 rfl) (bA_sl (a := 0) (j := 36) bkX8_init_0 rfl) (by decide) rfl
theorem dX8_init_37 : DR cX8_init 37 (.putfield 27) 3 := dk_181 (bA_sl (a := 0) (j := 37) bkX8_init_0 rfl) (bA_sl (a := 0) (j := 38) bkX8_init_0 rfl) (bA_sl (a := 0) (j := 39) bkX8_init_0 rfl) (by decide) rfl
theorem dX8_init_40 : DR cX8_init 40 (.aload_n 0) 1 := dk_42 (bA_sl (a := 0) (j := 40) bkX8_init_0 rfl)
theorem dX8_init_41 : DR cX8_init 41 (.new 24) 3 := dk_187 (bA_sl (a := 0) (j := 41) bkX8_init_0 rfl) (bA_sl (a := 0) (j := 42) bkX8_init_0 rfl) (bA_sl (a := 0) (j := 43) bkX8_init_0 rfl) (by decide) rfl
theorem dX8_init_44 : DR cX8_init 44 (.dup) 1 := dk_89 (bA_sl (a := 0) (j := 44) bkX8_init_0 rfl)
theorem dX8_init_45 : DR cX8_init 45 (.invokespecial 26) 3 := dk_183 (bA_sl (a := 0) (j := 45) bkX8_init_0 rfl) (bA_sl (a := 0) (j := 46) bkX8_init_0 rfl) (bA_sl (a := 0) (j := 47) bkX8_init_0 rfl) (by decide) rfl
theorem dX8_init_48 : DR cX8_init 48 (.putfield 31) 3 := dk_181 (bA_sl (a := 0) (j := 48) bkX8_init_0 rfl) (bA_sl (a := 0) (j := 49) bkX8_init_0 rfl) (bA_sl (a := 0) (j := 50) bkX8_init_0 rfl) (by decide) rfl
theorem dX8_init_51 : DR cX8_init 51 (.aload_n 0) 1 := dk_42 (bA_sl (a := 0) (j := 51) bkX8_init_0 rfl)
theorem dX8_init_52 : DR cX8_init 52 (.iconst 2) 1 := dk_5 (bA_sl (a := 0) (j := 52) bkX8_init_0 rfl)
theorem dX8_init_53 : DR cX8_init 53 (.anewarray 24) 3 := dk_189 (bA_sl (a := 0) (j := 53) bkX8_init_0 rfl) (bA_sl (a := 0) (j := 54) bkX8_init_0 rfl) (bA_sl (a := 0) (j := 55) bkX8_init_0 rfl) (by decide) rfl
theorem dX8_init_56 : DR cX8_init 56 (.putfield 34) 3 := dk_181 (bA_sl (a := 0) (j := 56) bkX8_init_0 rfl) (bA_sl (a := 0) (j := 57) bkX8_init_0 rfl) (bA_sl (a := 0) (j := 58) bkX8_init_0 rfl) (by decide) rfl
theorem dX8_init_59 : DR cX8_init 59 (.aload_n 0) 1 := dk_42 (bA_sl (a := 0) (j := 59) bkX8_init_0 rfl)
theorem dX8_init_60 : DR cX8_init 60 (.iconst 2) 1 := dk_5 (bA_sl (a := 0) (j := 60) bkX8_init_0 rfl)
theorem dX8_init_61 : decode cX8_init 61 = .ok (.newarray .boolean, 2) := by decide +kernel
theorem bkX8_init_1 : ((cX8_init.data.toList.drop 64).take 64).map UInt8.toNat = [0, 38, 42, 7, 189, 0, 42, 181, 0, 44, 42, 187, 0, 48, 89, 183, 0, 50, 181, 0, 51, 42, 187, 0, 55, 89, 183, 0, 57, 181, 0, 58, 42, 187, 0, 62, 89, 183, 0, 64, 181, 0, 65, 42, 187, 0, 69, 89, 183, 0, 71, 181, 0, 72, 42, 187, 0, 76, 89, 183, 0, 78, 181, 0] := by decide +kernel
theorem dX8_init_63 : DR cX8_init 63 (.putfield 38) 3 := dk_181 (bA_sl (a := 0) (j := 63) bkX8_init_0 rfl) (bA_sl (a := 64) (j := 0) bkX8_init_1 rfl) (bA_sl (a := 64) (j := 1) bkX8_init_1 rfl) (by decide) rfl
theorem dX8_init_66 : DR cX8_init 66 (.aload_n 0) 1 := dk_42 (bA_sl (a := 64) (j := 2) bkX8_init_1 rfl)
theorem dX8_init_67 : DR cX8_init 67 (.iconst 4) 1 := dk_7 (bA_sl (a := 64) (j := 3) bkX8_init_1 rfl)
theorem dX8_init_68 : DR cX8_init 68 (.anewarray 42) 3 := dk_189 (bA_sl (a := 64) (j := 4) bkX8_init_1 rfl) (bA_sl (a := 64) (j := 5) bkX8_init_1 rfl) (bA_sl (a := 64) (j := 6) bkX8_init_1 rfl) (by decide) rfl
theorem dX8_init_71 : DR cX8_init 71 (.putfield 44) 3 := dk_181 (bA_sl (a := 64) (j := 7) bkX8_init_1 rfl) (bA_sl (a := 64) (j := 8) bkX8_init_1 rfl) (bA_sl (a := 64) (j := 9) bkX8_init_1 rfl) (by decide) rfl
theorem dX8_init_74 : DR cX8_init 74 (.aload_n 0) 1 := dk_42 (bA_sl (a := 64) (j := 10) bkX8_init_1 rfl)
theorem dX8_init_75 : DR cX8_init 75 (.new 48) 3 := dk_187 (bA_sl (a := 64) (j := 11) bkX8_init_1 rfl) (bA_sl (a := 64) (j := 12) bkX8_init_1 rfl) (bA_sl (a := 64) (j := 13) bkX8_init_1 rfl) (by decide) rfl
theorem dX8_init_78 : DR cX8_init 78 (.dup) 1 := dk_89 (bA_sl (a := 64) (j := 14) bkX8_init_1 rfl)
theorem dX8_init_79 : DR cX8_init 79 (.invokespecial 50) 3 := dk_183 (bA_sl (a := 64) (j := 15) bkX8_init_1 rfl) (bA_sl (a := 64) (j := 16) bkX8_init_1 rfl) (bA_sl (a := 64) (j := 17) bkX8_init_1 rfl) (by decide) rfl
theorem dX8_init_82 : DR cX8_init 82 (.putfield 51) 3 := dk_181 (bA_sl (a := 64) (j := 18) bkX8_init_1 rfl) (bA_sl (a := 64) (j := 19) bkX8_init_1 rfl) (bA_sl (a := 64) (j := 20) bkX8_init_1 rfl) (by decide) rfl
theorem dX8_init_85 : DR cX8_init 85 (.aload_n 0) 1 := dk_42 (bA_sl (a := 64) (j := 21) bkX8_init_1 rfl)
theorem dX8_init_86 : DR cX8_init 86 (.new 55) 3 := dk_187 (bA_sl (a := 64) (j := 22) bkX8_init_1 rfl) (bA_sl (a := 64) (j := 23) bkX8_init_1 rfl) (bA_sl (a := 64) (j := 24) bkX8_init_1 rfl) (by decide) rfl
theorem dX8_init_89 : DR cX8_init 89 (.dup) 1 := dk_89 (bA_sl (a := 64) (j := 25) bkX8_init_1 rfl)
theorem dX8_init_90 : DR cX8_init 90 (.invokespecial 57) 3 := dk_183 (bA_sl (a := 64) (j := 26) bkX8_init_1 rfl) (bA_sl (a := 64) (j := 27) bkX8_init_1 rfl) (bA_sl (a := 64) (j := 28) bkX8_init_1 rfl) (by decide) rfl
theorem dX8_init_93 : DR cX8_init 93 (.putfield 58) 3 := dk_181 (bA_sl (a := 64) (j := 29) bkX8_init_1 rfl) (bA_sl (a := 64) (j := 30) bkX8_init_1 rfl) (bA_sl (a := 64) (j := 31) bkX8_init_1 rfl) (by decide) rfl
theorem dX8_init_96 : DR cX8_init 96 (.aload_n 0) 1 := dk_42 (bA_sl (a := 64) (j := 32) bkX8_init_1 rfl)
theorem dX8_init_97 : DR cX8_init 97 (.new 62) 3 := dk_187 (bA_sl (a := 64) (j := 33) bkX8_init_1 rfl) (bA_sl (a := 64) (j := 34) bkX8_init_1 rfl) (bA_sl (a := 64) (j := 35) bkX8_init_1 rfl) (by decide) rfl
theorem dX8_init_100 : DR cX8_init 100 (.dup) 1 := dk_89 (bA_sl (a := 64) (j := 36) bkX8_init_1 rfl)
theorem dX8_init_101 : DR cX8_init 101 (.invokespecial 64) 3 := dk_183 (bA_sl (a := 64) (j := 37) bkX8_init_1 rfl) (bA_sl (a := 64) (j := 38) bkX8_init_1 rfl) (bA_sl (a := 64) (j := 39) bkX8_init_1 rfl) (by decide) rfl
theorem dX8_init_104 : DR cX8_init 104 (.putfield 65) 3 := dk_181 (bA_sl (a := 64) (j := 40) bkX8_init_1 rfl) (bA_sl (a := 64) (j := 41) bkX8_init_1 rfl) (bA_sl (a := 64) (j := 42) bkX8_init_1 rfl) (by decide) rfl
theorem dX8_init_107 : DR cX8_init 107 (.aload_n 0) 1 := dk_42 (bA_sl (a := 64) (j := 43) bkX8_init_1 rfl)
theorem dX8_init_108 : DR cX8_init 108 (.new 69) 3 := dk_187 (bA_sl (a := 64) (j := 44) bkX8_init_1 rfl) (bA_sl (a := 64) (j := 45) bkX8_init_1 rfl) (bA_sl (a := 64) (j := 46) bkX8_init_1 rfl) (by decide) rfl
theorem dX8_init_111 : DR cX8_init 111 (.dup) 1 := dk_89 (bA_sl (a := 64) (j := 47) bkX8_init_1 rfl)
theorem dX8_init_112 : DR cX8_init 112 (.invokespecial 71) 3 := dk_183 (bA_sl (a := 64) (j := 48) bkX8_init_1 rfl) (bA_sl (a := 64) (j := 49) bkX8_init_1 rfl) (bA_sl (a := 64) (j := 50) bkX8_init_1 rfl) (by decide) rfl
theorem dX8_init_115 : DR cX8_init 115 (.putfield 72) 3 := dk_181 (bA_sl (a := 64) (j := 51) bkX8_init_1 rfl) (bA_sl (a := 64) (j := 52) bkX8_init_1 rfl) (bA_sl (a := 64) (j := 53) bkX8_init_1 rfl) (by decide) rfl
theorem dX8_init_118 : DR cX8_init 118 (.aload_n 0) 1 := dk_42 (bA_sl (a := 64) (j := 54) bkX8_init_1 rfl)
theorem dX8_init_119 : DR cX8_init 119 (.new 76) 3 := dk_187 (bA_sl (a := 64) (j := 55) bkX8_init_1 rfl) (bA_sl (a := 64) (j := 56) bkX8_init_1 rfl) (bA_sl (a := 64) (j := 57) bkX8_init_1 rfl) (by decide) rfl
theorem dX8_init_122 : DR cX8_init 122 (.dup) 1 := dk_89 (bA_sl (a := 64) (j := 58) bkX8_init_1 rfl)
theorem dX8_init_123 : DR cX8_init 123 (.invokespecial 78) 3 := dk_183 (bA_sl (a := 64) (j := 59) bkX8_init_1 rfl) (bA_sl (a := 64) (j := 60) bkX8_init_1 rfl) (bA_sl (a := 64) (j := 61) bkX8_init_1 rfl) (by decide) rfl
theorem bkX8_init_2 : ((cX8_init.data.toList.drop 128).take 64).map UInt8.toNat = [79, 3, 60, 27, 5, 162, 0, 22, 42, 180, 0, 34, 27, 187, 0, 24, 89, 183, 0, 26, 83, 132, 1, 1, 167, 255, 235, 3, 60, 27, 7, 162, 0, 22, 42, 180, 0, 44, 27, 187, 0, 42, 89, 183, 0, 83, 83, 132, 1, 1, 167, 255, 235, 177] := by decide +kernel
theorem dX8_init_126 : DR cX8_init 126 (.putfield 79) 3 := dk_181 (bA_sl (a := 64) (j := 62) bkX8_init_1 rfl) (bA_sl (a := 64) (j := 63) bkX8_init_1 rfl) (bA_sl (a := 128) (j := 0) bkX8_init_2 rfl) (by decide) rfl
theorem dX8_init_129 : DR cX8_init 129 (.iconst 0) 1 := dk_3 (bA_sl (a := 128) (j := 1) bkX8_init_2 rfl)
theorem dX8_init_130 : DR cX8_init 130 (.istore_n 1) 1 := dk_60 (bA_sl (a := 128) (j := 2) bkX8_init_2 rfl)
theorem dX8_init_131 : DR cX8_init 131 (.iload_n 1) 1 := dk_27 (bA_sl (a := 128) (j := 3) bkX8_init_2 rfl)
theorem dX8_init_132 : DR cX8_init 132 (.iconst 2) 1 := dk_5 (bA_sl (a := 128) (j := 4) bkX8_init_2 rfl)
theorem dX8_init_133 : DR cX8_init 133 (.if_icmp .ge 22) 3 := dk_162 (bA_sl (a := 128) (j := 5) bkX8_init_2 rfl) (bA_sl (a := 128) (j := 6) bkX8_init_2 rfl) (bA_sl (a := 128) (j := 7) bkX8_init_2 rfl) (by decide) (by decide)
theorem dX8_init_136 : DR cX8_init 136 (.aload_n 0) 1 := dk_42 (bA_sl (a := 128) (j := 8) bkX8_init_2 rfl)
theorem dX8_init_137 : DR cX8_init 137 (.getfield 34) 3 := dk_180 (bA_sl (a := 128) (j := 9) bkX8_init_2 rfl) (bA_sl (a := 128) (j := 10) bkX8_init_2 rfl) (bA_sl (a := 128) (j := 11) bkX8_init_2 rfl) (by decide) rfl
theorem dX8_init_140 : DR cX8_init 140 (.iload_n 1) 1 := dk_27 (bA_sl (a := 128) (j := 12) bkX8_init_2 rfl)
theorem dX8_init_141 : DR cX8_init 141 (.new 24) 3 := dk_187 (bA_sl (a := 128) (j := 13) bkX8_init_2 rfl) (bA_sl (a := 128) (j := 14) bkX8_init_2 rfl) (bA_sl (a := 128) (j := 15) bkX8_init_2 rfl) (by decide) rfl
theorem dX8_init_144 : DR cX8_init 144 (.dup) 1 := dk_89 (bA_sl (a := 128) (j := 16) bkX8_init_2 rfl)
theorem dX8_init_145 : DR cX8_init 145 (.invokespecial 26) 3 := dk_183 (bA_sl (a := 128) (j := 17) bkX8_init_2 rfl) (bA_sl (a := 128) (j := 18) bkX8_init_2 rfl) (bA_sl (a := 128) (j := 19) bkX8_init_2 rfl) (by decide) rfl
theorem dX8_init_148 : DR cX8_init 148 (.aastore) 1 := dk_83 (bA_sl (a := 128) (j := 20) bkX8_init_2 rfl)
theorem dX8_init_149 : DR cX8_init 149 (.iinc 1 1) 3 := dk_132 (bA_sl (a := 128) (j := 21) bkX8_init_2 rfl) (bA_sl (a := 128) (j := 22) bkX8_init_2 rfl) (bA_sl (a := 128) (j := 23) bkX8_init_2 rfl) (by decide) (by decide)
theorem dX8_init_152 : DR cX8_init 152 (.goto (-21)) 3 := dk_167 (bA_sl (a := 128) (j := 24) bkX8_init_2 rfl) (bA_sl (a := 128) (j := 25) bkX8_init_2 rfl) (bA_sl (a := 128) (j := 26) bkX8_init_2 rfl) (by decide) (by decide)
theorem dX8_init_155 : DR cX8_init 155 (.iconst 0) 1 := dk_3 (bA_sl (a := 128) (j := 27) bkX8_init_2 rfl)
theorem dX8_init_156 : DR cX8_init 156 (.istore_n 1) 1 := dk_60 (bA_sl (a := 128) (j := 28) bkX8_init_2 rfl)
theorem dX8_init_157 : DR cX8_init 157 (.iload_n 1) 1 := dk_27 (bA_sl (a := 128) (j := 29) bkX8_init_2 rfl)
theorem dX8_init_158 : DR cX8_init 158 (.iconst 4) 1 := dk_7 (bA_sl (a := 128) (j := 30) bkX8_init_2 rfl)
theorem dX8_init_159 : DR cX8_init 159 (.if_icmp .ge 22) 3 := dk_162 (bA_sl (a := 128) (j := 31) bkX8_init_2 rfl) (bA_sl (a := 128) (j := 32) bkX8_init_2 rfl) (bA_sl (a := 128) (j := 33) bkX8_init_2 rfl) (by decide) (by decide)
theorem dX8_init_162 : DR cX8_init 162 (.aload_n 0) 1 := dk_42 (bA_sl (a := 128) (j := 34) bkX8_init_2 rfl)
theorem dX8_init_163 : DR cX8_init 163 (.getfield 44) 3 := dk_180 (bA_sl (a := 128) (j := 35) bkX8_init_2 rfl) (bA_sl (a := 128) (j := 36) bkX8_init_2 rfl) (bA_sl (a := 128) (j := 37) bkX8_init_2 rfl) (by decide) rfl
theorem dX8_init_166 : DR cX8_init 166 (.iload_n 1) 1 := dk_27 (bA_sl (a := 128) (j := 38) bkX8_init_2 rfl)
theorem dX8_init_167 : DR cX8_init 167 (.new 42) 3 := dk_187 (bA_sl (a := 128) (j := 39) bkX8_init_2 rfl) (bA_sl (a := 128) (j := 40) bkX8_init_2 rfl) (bA_sl (a := 128) (j := 41) bkX8_init_2 rfl) (by decide) rfl
theorem dX8_init_170 : DR cX8_init 170 (.dup) 1 := dk_89 (bA_sl (a := 128) (j := 42) bkX8_init_2 rfl)
theorem dX8_init_171 : DR cX8_init 171 (.invokespecial 83) 3 := dk_183 (bA_sl (a := 128) (j := 43) bkX8_init_2 rfl) (bA_sl (a := 128) (j := 44) bkX8_init_2 rfl) (bA_sl (a := 128) (j := 45) bkX8_init_2 rfl) (by decide) rfl
theorem dX8_init_174 : DR cX8_init 174 (.aastore) 1 := dk_83 (bA_sl (a := 128) (j := 46) bkX8_init_2 rfl)
theorem dX8_init_175 : DR cX8_init 175 (.iinc 1 1) 3 := dk_132 (bA_sl (a := 128) (j := 47) bkX8_init_2 rfl) (bA_sl (a := 128) (j := 48) bkX8_init_2 rfl) (bA_sl (a := 128) (j := 49) bkX8_init_2 rfl) (by decide) (by decide)
theorem dX8_init_178 : DR cX8_init 178 (.goto (-21)) 3 := dk_167 (bA_sl (a := 128) (j := 50) bkX8_init_2 rfl) (bA_sl (a := 128) (j := 51) bkX8_init_2 rfl) (bA_sl (a := 128) (j := 52) bkX8_init_2 rfl) (by decide) (by decide)
theorem dX8_init_181 : DR cX8_init 181 (.return_) 1 := dk_177 (bA_sl (a := 128) (j := 53) bkX8_init_2 rfl)
theorem bkX8_feed_0 : ((cX8_feed.data.toList.drop 0).take 64).map UInt8.toNat = [42, 180, 0, 13, 16, 20, 96, 17, 3, 132, 164, 0, 6, 16, 251, 172, 42, 27, 182, 0, 84, 42, 28, 182, 0, 84, 42, 29, 182, 0, 84, 42, 21, 4, 182, 0, 84, 42, 21, 5, 182, 0, 84, 42, 180, 0, 13, 172] := by decide +kernel
theorem dX8_feed_0 : DR cX8_feed 0 (.aload_n 0) 1 := dk_42 (bA_sl (a := 0) (j := 0) bkX8_feed_0 rfl)
theorem dX8_feed_1 : DR cX8_feed 1 (.getfield 13) 3 := dk_180 (bA_sl (a := 0) (j := 1) bkX8_feed_0 rfl) (bA_sl (a := 0) (j := 2) bkX8_feed_0 rfl) (bA_sl (a := 0) (j := 3) bkX8_feed_0 rfl) (by decide) rfl
theorem dX8_feed_4 : DR cX8_feed 4 (.bipush 20) 2 := dk_16 (bA_sl (a := 0) (j := 4) bkX8_feed_0 rfl) (bA_sl (a := 0) (j := 5) bkX8_feed_0 rfl) (by decide) (by decide)
theorem dX8_feed_6 : DR cX8_feed 6 (.iadd) 1 := dk_96 (bA_sl (a := 0) (j := 6) bkX8_feed_0 rfl)
theorem dX8_feed_7 : DR cX8_feed 7 (.sipush 900) 3 := dk_17 (bA_sl (a := 0) (j := 7) bkX8_feed_0 rfl) (bA_sl (a := 0) (j := 8) bkX8_feed_0 rfl) (bA_sl (a := 0) (j := 9) bkX8_feed_0 rfl) (by decide) (by decide)
theorem dX8_feed_10 : DR cX8_feed 10 (.if_icmp .le 6) 3 := dk_164 (bA_sl (a := 0) (j := 10) bkX8_feed_0 rfl) (bA_sl (a := 0) (j := 11) bkX8_feed_0 rfl) (bA_sl (a := 0) (j := 12) bkX8_feed_0 rfl) (by decide) (by decide)
theorem dX8_feed_13 : DR cX8_feed 13 (.bipush (-5)) 2 := dk_16 (bA_sl (a := 0) (j := 13) bkX8_feed_0 rfl) (bA_sl (a := 0) (j := 14) bkX8_feed_0 rfl) (by decide) (by decide)
theorem dX8_feed_15 : DR cX8_feed 15 (.ireturn) 1 := dk_172 (bA_sl (a := 0) (j := 15) bkX8_feed_0 rfl)
theorem dX8_feed_16 : DR cX8_feed 16 (.aload_n 0) 1 := dk_42 (bA_sl (a := 0) (j := 16) bkX8_feed_0 rfl)
theorem dX8_feed_17 : DR cX8_feed 17 (.iload_n 1) 1 := dk_27 (bA_sl (a := 0) (j := 17) bkX8_feed_0 rfl)
theorem dX8_feed_18 : DR cX8_feed 18 (.invokevirtual 84) 3 := dk_182 (bA_sl (a := 0) (j := 18) bkX8_feed_0 rfl) (bA_sl (a := 0) (j := 19) bkX8_feed_0 rfl) (bA_sl (a := 0) (j := 20) bkX8_feed_0 rfl) (by decide) rfl
theorem dX8_feed_21 : DR cX8_feed 21 (.aload_n 0) 1 := dk_42 (bA_sl (a := 0) (j := 21) bkX8_feed_0 rfl)
theorem dX8_feed_22 : DR cX8_feed 22 (.iload_n 2) 1 := dk_28 (bA_sl (a := 0) (j := 22) bkX8_feed_0 rfl)
theorem dX8_feed_23 : DR cX8_feed 23 (.invokevirtual 84) 3 := dk_182 (bA_sl (a := 0) (j := 23) bkX8_feed_0 rfl) (bA_sl (a := 0) (j := 24) bkX8_feed_0 rfl) (bA_sl (a := 0) (j := 25) bkX8_feed_0 rfl) (by decide) rfl
theorem dX8_feed_26 : DR cX8_feed 26 (.aload_n 0) 1 := dk_42 (bA_sl (a := 0) (j := 26) bkX8_feed_0 rfl)
theorem dX8_feed_27 : DR cX8_feed 27 (.iload_n 3) 1 := dk_29 (bA_sl (a := 0) (j := 27) bkX8_feed_0 rfl)
theorem dX8_feed_28 : DR cX8_feed 28 (.invokevirtual 84) 3 := dk_182 (bA_sl (a := 0) (j := 28) bkX8_feed_0 rfl) (bA_sl (a := 0) (j := 29) bkX8_feed_0 rfl) (bA_sl (a := 0) (j := 30) bkX8_feed_0 rfl) (by decide) rfl
theorem dX8_feed_31 : DR cX8_feed 31 (.aload_n 0) 1 := dk_42 (bA_sl (a := 0) (j := 31) bkX8_feed_0 rfl)
theorem dX8_feed_32 : DR cX8_feed 32 (.iload 4) 2 := dk_21 (bA_sl (a := 0) (j := 32) bkX8_feed_0 rfl) (bA_sl (a := 0) (j := 33) bkX8_feed_0 rfl) (by decide)
theorem dX8_feed_34 : DR cX8_feed 34 (.invokevirtual 84) 3 := dk_182 (bA_sl (a := 0) (j := 34) bkX8_feed_0 rfl) (bA_sl (a := 0) (j := 35) bkX8_feed_0 rfl) (bA_sl (a := 0) (j := 36) bkX8_feed_0 rfl) (by decide) rfl
theorem dX8_feed_37 : DR cX8_feed 37 (.aload_n 0) 1 := dk_42 (bA_sl (a := 0) (j := 37) bkX8_feed_0 rfl)
theorem dX8_feed_38 : DR cX8_feed 38 (.iload 5) 2 := dk_21 (bA_sl (a := 0) (j := 38) bkX8_feed_0 rfl) (bA_sl (a := 0) (j := 39) bkX8_feed_0 rfl) (by decide)
theorem dX8_feed_40 : DR cX8_feed 40 (.invokevirtual 84) 3 := dk_182 (bA_sl (a := 0) (j := 40) bkX8_feed_0 rfl) (bA_sl (a := 0) (j := 41) bkX8_feed_0 rfl) (bA_sl (a := 0) (j := 42) bkX8_feed_0 rfl) (by decide) rfl
theorem dX8_feed_43 : DR cX8_feed 43 (.aload_n 0) 1 := dk_42 (bA_sl (a := 0) (j := 43) bkX8_feed_0 rfl)
theorem dX8_feed_44 : DR cX8_feed 44 (.getfield 13) 3 := dk_180 (bA_sl (a := 0) (j := 44) bkX8_feed_0 rfl) (bA_sl (a := 0) (j := 45) bkX8_feed_0 rfl) (bA_sl (a := 0) (j := 46) bkX8_feed_0 rfl) (by decide) rfl
theorem dX8_feed_47 : DR cX8_feed 47 (.ireturn) 1 := dk_172 (bA_sl (a := 0) (j := 47) bkX8_feed_0 rfl)
theorem bkX8_plain_0 : ((cX8_plain.data.toList.drop 0).take 64).map UInt8.toNat = [27, 155, 0, 11, 27, 42, 180, 0, 13, 164, 0, 6, 16, 253, 172, 42, 3, 181, 0, 13, 42, 180, 0, 20, 42, 180, 0, 9, 27, 182, 0, 88, 61, 28, 153, 0, 8, 16, 226, 28, 100, 172, 42, 180, 0, 27, 42, 180, 0, 20, 180, 0, 92, 182, 0, 95, 42, 180, 0, 27, 180, 0, 99, 172] := by decide +kernel
theorem dX8_plain_0 : DR cX8_plain 0 (.iload_n 1) 1 := dk_27 (bA_sl (a := 0) (j := 0) bkX8_plain_0 rfl)
theorem dX8_plain_1 : DR cX8_plain 1 (.ifCond .lt 11) 3 := dk_155 (bA_sl (a := 0) (j := 1) bkX8_plain_0 rfl) (bA_sl (a := 0) (j := 2) bkX8_plain_0 rfl) (bA_sl (a := 0) (j := 3) bkX8_plain_0 rfl) (by decide) (by decide)
theorem dX8_plain_4 : DR cX8_plain 4 (.iload_n 1) 1 := dk_27 (bA_sl (a := 0) (j := 4) bkX8_plain_0 rfl)
theorem dX8_plain_5 : DR cX8_plain 5 (.aload_n 0) 1 := dk_42 (bA_sl (a := 0) (j := 5) bkX8_plain_0 rfl)
theorem dX8_plain_6 : DR cX8_plain 6 (.getfield 13) 3 := dk_180 (bA_sl (a := 0) (j := 6) bkX8_plain_0 rfl) (bA_sl (a := 0) (j := 7) bkX8_plain_0 rfl) (bA_sl (a := 0) (j := 8) bkX8_plain_0 rfl) (by decide) rfl
theorem dX8_plain_9 : DR cX8_plain 9 (.if_icmp .le 6) 3 := dk_164 (bA_sl (a := 0) (j := 9) bkX8_plain_0 rfl) (bA_sl (a := 0) (j := 10) bkX8_plain_0 rfl) (bA_sl (a := 0) (j := 11) bkX8_plain_0 rfl) (by decide) (by decide)
theorem dX8_plain_12 : DR cX8_plain 12 (.bipush (-3)) 2 := dk_16 (bA_sl (a := 0) (j := 12) bkX8_plain_0 rfl) (bA_sl (a := 0) (j := 13) bkX8_plain_0 rfl) (by decide) (by decide)
theorem dX8_plain_14 : DR cX8_plain 14 (.ireturn) 1 := dk_172 (bA_sl (a := 0) (j := 14) bkX8_plain_0 rfl)
theorem dX8_plain_15 : DR cX8_plain 15 (.aload_n 0) 1 := dk_42 (bA_sl (a := 0) (j := 15) bkX8_plain_0 rfl)
theorem dX8_plain_16 : DR cX8_plain 16 (.iconst 0) 1 := dk_3 (bA_sl (a := 0) (j := 16) bkX8_plain_0 rfl)
theorem dX8_plain_17 : DR cX8_plain 17 (.putfield 13) 3 := dk_181 (bA_sl (a := 0) (j := 17) bkX8_plain_0 rfl) (bA_sl (a := 0) (j := 18) bkX8_plain_0 rfl) (bA_sl (a := 0) (j := 19) bkX8_plain_0 rfl) (by decide) rfl
theorem dX8_plain_20 : DR cX8_plain 20 (.aload_n 0) 1 := dk_42 (bA_sl (a := 0) (j := 20) bkX8_plain_0 rfl)
theorem dX8_plain_21 : DR cX8_plain 21 (.getfield 20) 3 := dk_180 (bA_sl (a := 0) (j := 21) bkX8_plain_0 rfl) (bA_sl (a := 0) (j := 22) bkX8_plain_0 rfl) (bA_sl (a := 0) (j := 23) bkX8_plain_0 rfl) (by decide) rfl
theorem dX8_plain_24 : DR cX8_plain 24 (.aload_n 0) 1 := dk_42 (bA_sl (a := 0) (j := 24) bkX8_plain_0 rfl)
theorem dX8_plain_25 : DR cX8_plain 25 (.getfield 9) 3 := dk_180 (bA_sl (a := 0) (j := 25) bkX8_plain_0 rfl) (bA_sl (a := 0) (j := 26) bkX8_plain_0 rfl) (bA_sl (a := 0) (j := 27) bkX8_plain_0 rfl) (by decide) rfl
theorem dX8_plain_28 : DR cX8_plain 28 (.iload_n 1) 1 := dk_27 (bA_sl (a := 0) (j := 28) bkX8_plain_0 rfl)
theorem dX8_plain_29 : DR cX8_plain 29 (.invokevirtual 88) 3 := dk_182 (bA_sl (a := 0) (j := 29) bkX8_plain_0 rfl) (bA_sl (a := 0) (j := 30) bkX8_plain_0 rfl) (bA_sl (a := 0) (j := 31) bkX8_plain_0 rfl) (by decide) rfl
theorem dX8_plain_32 : DR cX8_plain 32 (.istore_n 2) 1 := dk_61 (bA_sl (a := 0) (j := 32) bkX8_plain_0 rfl)
theorem dX8_plain_33 : DR cX8_plain 33 (.iload_n 2) 1 := dk_28 (bA_sl (a := 0) (j := 33) bkX8_plain_0 rfl)
theorem dX8_plain_34 : DR cX8_plain 34 (.ifCond .eq 8) 3 := dk_153 (bA_sl (a := 0) (j := 34) bkX8_plain_0 rfl) (bA_sl (a := 0) (j := 35) bkX8_plain_0 rfl) (bA_sl (a := 0) (j := 36) bkX8_plain_0 rfl) (by decide) (by decide)
theorem dX8_plain_37 : DR cX8_plain 37 (.bipush (-30)) 2 := dk_16 (bA_sl (a := 0) (j := 37) bkX8_plain_0 rfl) (bA_sl (a := 0) (j := 38) bkX8_plain_0 rfl) (by decide) (by decide)
theorem dX8_plain_39 : DR cX8_plain 39 (.iload_n 2) 1 := dk_28 (bA_sl (a := 0) (j := 39) bkX8_plain_0 rfl)
theorem dX8_plain_40 : DR cX8_plain 40 (.isub) 1 := dk_100 (bA_sl (a := 0) (j := 40) bkX8_plain_0 rfl)
theorem dX8_plain_41 : DR cX8_plain 41 (.ireturn) 1 := dk_172 (bA_sl (a := 0) (j := 41) bkX8_plain_0 rfl)
theorem dX8_plain_42 : DR cX8_plain 42 (.aload_n 0) 1 := dk_42 (bA_sl (a := 0) (j := 42) bkX8_plain_0 rfl)
theorem dX8_plain_43 : DR cX8_plain 43 (.getfield 27) 3 := dk_180 (bA_sl (a := 0) (j := 43) bkX8_plain_0 rfl) (bA_sl (a := 0) (j := 44) bkX8_plain_0 rfl) (bA_sl (a := 0) (j := 45) bkX8_plain_0 rfl) (by decide) rfl
theorem dX8_plain_46 : DR cX8_plain 46 (.aload_n 0) 1 := dk_42 (bA_sl (a := 0) (j := 46) bkX8_plain_0 rfl)
theorem dX8_plain_47 : DR cX8_plain 47 (.getfield 20) 3 := dk_180 (bA_sl (a := 0) (j := 47) bkX8_plain_0 rfl) (bA_sl (a := 0) (j := 48) bkX8_plain_0 rfl) (bA_sl (a := 0) (j := 49) bkX8_plain_0 rfl) (by decide) rfl
theorem dX8_plain_50 : DR cX8_plain 50 (.getfield 92) 3 := dk_180 (bA_sl (a := 0) (j := 50) bkX8_plain_0 rfl) (bA_sl (a := 0) (j := 51) bkX8_plain_0 rfl) (bA_sl (a := 0) (j := 52) bkX8_plain_0 rfl) (by decide) rfl
theorem dX8_plain_53 : DR cX8_plain 53 (.invokevirtual 95) 3 := dk_182 (bA_sl (a := 0) (j := 53) bkX8_plain_0 rfl) (bA_sl (a := 0) (j := 54) bkX8_plain_0 rfl) (bA_sl (a := 0) (j := 55) bkX8_plain_0 rfl) (by decide) rfl
theorem dX8_plain_56 : DR cX8_plain 56 (.aload_n 0) 1 := dk_42 (bA_sl (a := 0) (j := 56) bkX8_plain_0 rfl)
theorem dX8_plain_57 : DR cX8_plain 57 (.getfield 27) 3 := dk_180 (bA_sl (a := 0) (j := 57) bkX8_plain_0 rfl) (bA_sl (a := 0) (j := 58) bkX8_plain_0 rfl) (bA_sl (a := 0) (j := 59) bkX8_plain_0 rfl) (by decide) rfl
theorem dX8_plain_60 : DR cX8_plain 60 (.getfield 99) 3 := dk_180 (bA_sl (a := 0) (j := 60) bkX8_plain_0 rfl) (bA_sl (a := 0) (j := 61) bkX8_plain_0 rfl) (bA_sl (a := 0) (j := 62) bkX8_plain_0 rfl) (by decide) rfl
theorem dX8_plain_63 : DR cX8_plain 63 (.ireturn) 1 := dk_172 (bA_sl (a := 0) (j := 63) bkX8_plain_0 rfl)
theorem bkX8_fault_0 : ((cX8_fault.data.toList.drop 0).take 64).map UInt8.toNat = [27, 154, 0, 11, 42, 180, 0, 20, 180, 0, 102, 172, 27, 4, 160, 0, 11, 42, 180, 0, 20, 180, 0, 105, 172, 2, 172] := by decide +kernel
theorem dX8_fault_0 : DR cX8_fault 0 (.iload_n 1) 1 := dk_27 (bA_sl (a := 0) (j := 0) bkX8_fault_0 rfl)
theorem dX8_fault_1 : DR cX8_fault 1 (.ifCond .ne 11) 3 := dk_154 (bA_sl (a := 0) (j := 1) bkX8_fault_0 rfl) (bA_sl (a := 0) (j := 2) bkX8_fault_0 rfl) (bA_sl (a := 0) (j := 3) bkX8_fault_0 rfl) (by decide) (by decide)
theorem dX8_fault_4 : DR cX8_fault 4 (.aload_n 0) 1 := dk_42 (bA_sl (a := 0) (j := 4) bkX8_fault_0 rfl)
theorem dX8_fault_5 : DR cX8_fault 5 (.getfield 20) 3 := dk_180 (bA_sl (a := 0) (j := 5) bkX8_fault_0 rfl) (bA_sl (a := 0) (j := 6) bkX8_fault_0 rfl) (bA_sl (a := 0) (j := 7) bkX8_fault_0 rfl) (by decide) rfl
theorem dX8_fault_8 : DR cX8_fault 8 (.getfield 102) 3 := dk_180 (bA_sl (a := 0) (j := 8) bkX8_fault_0 rfl) (bA_sl (a := 0) (j := 9) bkX8_fault_0 rfl) (bA_sl (a := 0) (j := 10) bkX8_fault_0 rfl) (by decide) rfl
theorem dX8_fault_11 : DR cX8_fault 11 (.ireturn) 1 := dk_172 (bA_sl (a := 0) (j := 11) bkX8_fault_0 rfl)
theorem dX8_fault_12 : DR cX8_fault 12 (.iload_n 1) 1 := dk_27 (bA_sl (a := 0) (j := 12) bkX8_fault_0 rfl)
theorem dX8_fault_13 : DR cX8_fault 13 (.iconst 1) 1 := dk_4 (bA_sl (a := 0) (j := 13) bkX8_fault_0 rfl)
theorem dX8_fault_14 : DR cX8_fault 14 (.if_icmp .ne 11) 3 := dk_160 (bA_sl (a := 0) (j := 14) bkX8_fault_0 rfl) (bA_sl (a := 0) (j := 15) bkX8_fault_0 rfl) (bA_sl (a := 0) (j := 16) bkX8_fault_0 rfl) (by decide) (by decide)
theorem dX8_fault_17 : DR cX8_fault 17 (.aload_n 0) 1 := dk_42 (bA_sl (a := 0) (j := 17) bkX8_fault_0 rfl)
theorem dX8_fault_18 : DR cX8_fault 18 (.getfield 20) 3 := dk_180 (bA_sl (a := 0) (j := 18) bkX8_fault_0 rfl) (bA_sl (a := 0) (j := 19) bkX8_fault_0 rfl) (bA_sl (a := 0) (j := 20) bkX8_fault_0 rfl) (by decide) rfl
theorem dX8_fault_21 : DR cX8_fault 21 (.getfield 105) 3 := dk_180 (bA_sl (a := 0) (j := 21) bkX8_fault_0 rfl) (bA_sl (a := 0) (j := 22) bkX8_fault_0 rfl) (bA_sl (a := 0) (j := 23) bkX8_fault_0 rfl) (by decide) rfl
theorem dX8_fault_24 : DR cX8_fault 24 (.ireturn) 1 := dk_172 (bA_sl (a := 0) (j := 24) bkX8_fault_0 rfl)
theorem dX8_fault_25 : DR cX8_fault 25 (.iconst (-1)) 1 := dk_2 (bA_sl (a := 0) (j := 25) bkX8_fault_0 rfl)
theorem dX8_fault_26 : DR cX8_fault 26 (.ireturn) 1 := dk_172 (bA_sl (a := 0) (j := 26) bkX8_fault_0 rfl)
theorem bkX8_strip_0 : ((cX8_strip.data.toList.drop 0).take 64).map UInt8.toNat = [42, 180, 0, 27, 27, 182, 0, 108, 154, 0, 6, 16, 254, 172, 28, 170, 0, 0, 0, 103, 0, 0, 0, 0, 0, 0, 0, 5, 0, 0, 0, 37, 0, 0, 0, 47, 0, 0, 0, 57, 0, 0, 0, 67, 0, 0, 0, 77, 0, 0, 0, 87, 42, 180, 0, 27, 180, 0, 112, 27, 46, 172, 42, 180] := by decide +kernel
theorem dX8_strip_0 : DR cX8_strip 0 (.aload_n 0) 1 := dk_42 (bA_sl (a := 0) (j := 0) bkX8_strip_0 rfl)
theorem dX8_strip_1 : DR cX8_strip 1 (.getfield 27) 3 := dk_180 (bA_sl (a := 0) (j := 1) bkX8_strip_0 rfl) (bA_sl (a := 0) (j := 2) bkX8_strip_0 rfl) (bA_sl (a := 0) (j := 3) bkX8_strip_0 rfl) (by decide) rfl
theorem dX8_strip_4 : DR cX8_strip 4 (.iload_n 1) 1 := dk_27 (bA_sl (a := 0) (j := 4) bkX8_strip_0 rfl)
theorem dX8_strip_5 : DR cX8_strip 5 (.invokevirtual 108) 3 := dk_182 (bA_sl (a := 0) (j := 5) bkX8_strip_0 rfl) (bA_sl (a := 0) (j := 6) bkX8_strip_0 rfl) (bA_sl (a := 0) (j := 7) bkX8_strip_0 rfl) (by decide) rfl
theorem dX8_strip_8 : DR cX8_strip 8 (.ifCond .ne 6) 3 := dk_154 (bA_sl (a := 0) (j := 8) bkX8_strip_0 rfl) (bA_sl (a := 0) (j := 9) bkX8_strip_0 rfl) (bA_sl (a := 0) (j := 10) bkX8_strip_0 rfl) (by decide) (by decide)
theorem dX8_strip_11 : DR cX8_strip 11 (.bipush (-2)) 2 := dk_16 (bA_sl (a := 0) (j := 11) bkX8_strip_0 rfl) (bA_sl (a := 0) (j := 12) bkX8_strip_0 rfl) (by decide) (by decide)
theorem dX8_strip_13 : DR cX8_strip 13 (.ireturn) 1 := dk_172 (bA_sl (a := 0) (j := 13) bkX8_strip_0 rfl)
theorem dX8_strip_14 : DR cX8_strip 14 (.iload_n 2) 1 := dk_28 (bA_sl (a := 0) (j := 14) bkX8_strip_0 rfl)
theorem dX8_strip_15 : decode cX8_strip 15 = .ok (.tableswitch 103 0 5 #[37, 47, 57, 67, 77, 87], 37) := by decide +kernel
theorem dX8_strip_52 : DR cX8_strip 52 (.aload_n 0) 1 := dk_42 (bA_sl (a := 0) (j := 52) bkX8_strip_0 rfl)
theorem dX8_strip_53 : DR cX8_strip 53 (.getfield 27) 3 := dk_180 (bA_sl (a := 0) (j := 53) bkX8_strip_0 rfl) (bA_sl (a := 0) (j := 54) bkX8_strip_0 rfl) (bA_sl (a := 0) (j := 55) bkX8_strip_0 rfl) (by decide) rfl
theorem dX8_strip_56 : DR cX8_strip 56 (.getfield 112) 3 := dk_180 (bA_sl (a := 0) (j := 56) bkX8_strip_0 rfl) (bA_sl (a := 0) (j := 57) bkX8_strip_0 rfl) (bA_sl (a := 0) (j := 58) bkX8_strip_0 rfl) (by decide) rfl
theorem dX8_strip_59 : DR cX8_strip 59 (.iload_n 1) 1 := dk_27 (bA_sl (a := 0) (j := 59) bkX8_strip_0 rfl)
theorem dX8_strip_60 : DR cX8_strip 60 (.iaload) 1 := dk_46 (bA_sl (a := 0) (j := 60) bkX8_strip_0 rfl)
theorem dX8_strip_61 : DR cX8_strip 61 (.ireturn) 1 := dk_172 (bA_sl (a := 0) (j := 61) bkX8_strip_0 rfl)
theorem dX8_strip_62 : DR cX8_strip 62 (.aload_n 0) 1 := dk_42 (bA_sl (a := 0) (j := 62) bkX8_strip_0 rfl)
theorem bkX8_strip_1 : ((cX8_strip.data.toList.drop 64).take 64).map UInt8.toNat = [0, 27, 180, 0, 116, 27, 46, 172, 42, 180, 0, 27, 180, 0, 119, 27, 46, 172, 42, 180, 0, 27, 180, 0, 122, 27, 46, 172, 42, 180, 0, 27, 180, 0, 125, 27, 46, 172, 42, 180, 0, 27, 42, 180, 0, 27, 180, 0, 128, 27, 182, 0, 131, 172, 16, 254, 172] := by decide +kernel
theorem dX8_strip_63 : DR cX8_strip 63 (.getfield 27) 3 := dk_180 (bA_sl (a := 0) (j := 63) bkX8_strip_0 rfl) (bA_sl (a := 64) (j := 0) bkX8_strip_1 rfl) (bA_sl (a := 64) (j := 1) bkX8_strip_1 rfl) (by decide) rfl
theorem dX8_strip_66 : DR cX8_strip 66 (.getfield 116) 3 := dk_180 (bA_sl (a := 64) (j := 2) bkX8_strip_1 rfl) (bA_sl (a := 64) (j := 3) bkX8_strip_1 rfl) (bA_sl (a := 64) (j := 4) bkX8_strip_1 rfl) (by decide) rfl
theorem dX8_strip_69 : DR cX8_strip 69 (.iload_n 1) 1 := dk_27 (bA_sl (a := 64) (j := 5) bkX8_strip_1 rfl)
theorem dX8_strip_70 : DR cX8_strip 70 (.iaload) 1 := dk_46 (bA_sl (a := 64) (j := 6) bkX8_strip_1 rfl)
theorem dX8_strip_71 : DR cX8_strip 71 (.ireturn) 1 := dk_172 (bA_sl (a := 64) (j := 7) bkX8_strip_1 rfl)
theorem dX8_strip_72 : DR cX8_strip 72 (.aload_n 0) 1 := dk_42 (bA_sl (a := 64) (j := 8) bkX8_strip_1 rfl)
theorem dX8_strip_73 : DR cX8_strip 73 (.getfield 27) 3 := dk_180 (bA_sl (a := 64) (j := 9) bkX8_strip_1 rfl) (bA_sl (a := 64) (j := 10) bkX8_strip_1 rfl) (bA_sl (a := 64) (j := 11) bkX8_strip_1 rfl) (by decide) rfl
theorem dX8_strip_76 : DR cX8_strip 76 (.getfield 119) 3 := dk_180 (bA_sl (a := 64) (j := 12) bkX8_strip_1 rfl) (bA_sl (a := 64) (j := 13) bkX8_strip_1 rfl) (bA_sl (a := 64) (j := 14) bkX8_strip_1 rfl) (by decide) rfl
theorem dX8_strip_79 : DR cX8_strip 79 (.iload_n 1) 1 := dk_27 (bA_sl (a := 64) (j := 15) bkX8_strip_1 rfl)
theorem dX8_strip_80 : DR cX8_strip 80 (.iaload) 1 := dk_46 (bA_sl (a := 64) (j := 16) bkX8_strip_1 rfl)
theorem dX8_strip_81 : DR cX8_strip 81 (.ireturn) 1 := dk_172 (bA_sl (a := 64) (j := 17) bkX8_strip_1 rfl)
theorem dX8_strip_82 : DR cX8_strip 82 (.aload_n 0) 1 := dk_42 (bA_sl (a := 64) (j := 18) bkX8_strip_1 rfl)
theorem dX8_strip_83 : DR cX8_strip 83 (.getfield 27) 3 := dk_180 (bA_sl (a := 64) (j := 19) bkX8_strip_1 rfl) (bA_sl (a := 64) (j := 20) bkX8_strip_1 rfl) (bA_sl (a := 64) (j := 21) bkX8_strip_1 rfl) (by decide) rfl
theorem dX8_strip_86 : DR cX8_strip 86 (.getfield 122) 3 := dk_180 (bA_sl (a := 64) (j := 22) bkX8_strip_1 rfl) (bA_sl (a := 64) (j := 23) bkX8_strip_1 rfl) (bA_sl (a := 64) (j := 24) bkX8_strip_1 rfl) (by decide) rfl
theorem dX8_strip_89 : DR cX8_strip 89 (.iload_n 1) 1 := dk_27 (bA_sl (a := 64) (j := 25) bkX8_strip_1 rfl)
theorem dX8_strip_90 : DR cX8_strip 90 (.iaload) 1 := dk_46 (bA_sl (a := 64) (j := 26) bkX8_strip_1 rfl)
theorem dX8_strip_91 : DR cX8_strip 91 (.ireturn) 1 := dk_172 (bA_sl (a := 64) (j := 27) bkX8_strip_1 rfl)
theorem dX8_strip_92 : DR cX8_strip 92 (.aload_n 0) 1 := dk_42 (bA_sl (a := 64) (j := 28) bkX8_strip_1 rfl)
theorem dX8_strip_93 : DR cX8_strip 93 (.getfield 27) 3 := dk_180 (bA_sl (a := 64) (j := 29) bkX8_strip_1 rfl) (bA_sl (a := 64) (j := 30) bkX8_strip_1 rfl) (bA_sl (a := 64) (j := 31) bkX8_strip_1 rfl) (by decide) rfl
theorem dX8_strip_96 : DR cX8_strip 96 (.getfield 125) 3 := dk_180 (bA_sl (a := 64) (j := 32) bkX8_strip_1 rfl) (bA_sl (a := 64) (j := 33) bkX8_strip_1 rfl) (bA_sl (a := 64) (j := 34) bkX8_strip_1 rfl) (by decide) rfl
theorem dX8_strip_99 : DR cX8_strip 99 (.iload_n 1) 1 := dk_27 (bA_sl (a := 64) (j := 35) bkX8_strip_1 rfl)
theorem dX8_strip_100 : DR cX8_strip 100 (.iaload) 1 := dk_46 (bA_sl (a := 64) (j := 36) bkX8_strip_1 rfl)
theorem dX8_strip_101 : DR cX8_strip 101 (.ireturn) 1 := dk_172 (bA_sl (a := 64) (j := 37) bkX8_strip_1 rfl)
theorem dX8_strip_102 : DR cX8_strip 102 (.aload_n 0) 1 := dk_42 (bA_sl (a := 64) (j := 38) bkX8_strip_1 rfl)
theorem dX8_strip_103 : DR cX8_strip 103 (.getfield 27) 3 := dk_180 (bA_sl (a := 64) (j := 39) bkX8_strip_1 rfl) (bA_sl (a := 64) (j := 40) bkX8_strip_1 rfl) (bA_sl (a := 64) (j := 41) bkX8_strip_1 rfl) (by decide) rfl
theorem dX8_strip_106 : DR cX8_strip 106 (.aload_n 0) 1 := dk_42 (bA_sl (a := 64) (j := 42) bkX8_strip_1 rfl)
theorem dX8_strip_107 : DR cX8_strip 107 (.getfield 27) 3 := dk_180 (bA_sl (a := 64) (j := 43) bkX8_strip_1 rfl) (bA_sl (a := 64) (j := 44) bkX8_strip_1 rfl) (bA_sl (a := 64) (j := 45) bkX8_strip_1 rfl) (by decide) rfl
theorem dX8_strip_110 : DR cX8_strip 110 (.getfield 128) 3 := dk_180 (bA_sl (a := 64) (j := 46) bkX8_strip_1 rfl) (bA_sl (a := 64) (j := 47) bkX8_strip_1 rfl) (bA_sl (a := 64) (j := 48) bkX8_strip_1 rfl) (by decide) rfl
theorem dX8_strip_113 : DR cX8_strip 113 (.iload_n 1) 1 := dk_27 (bA_sl (a := 64) (j := 49) bkX8_strip_1 rfl)
theorem dX8_strip_114 : DR cX8_strip 114 (.invokevirtual 131) 3 := dk_182 (bA_sl (a := 64) (j := 50) bkX8_strip_1 rfl) (bA_sl (a := 64) (j := 51) bkX8_strip_1 rfl) (bA_sl (a := 64) (j := 52) bkX8_strip_1 rfl) (by decide) rfl
theorem dX8_strip_117 : DR cX8_strip 117 (.ireturn) 1 := dk_172 (bA_sl (a := 64) (j := 53) bkX8_strip_1 rfl)
theorem dX8_strip_118 : DR cX8_strip 118 (.bipush (-2)) 2 := dk_16 (bA_sl (a := 64) (j := 54) bkX8_strip_1 rfl) (bA_sl (a := 64) (j := 55) bkX8_strip_1 rfl) (by decide) (by decide)
theorem dX8_strip_120 : DR cX8_strip 120 (.ireturn) 1 := dk_172 (bA_sl (a := 64) (j := 56) bkX8_strip_1 rfl)
theorem bkX8_farm_0 : ((cX8_farm.data.toList.drop 0).take 64).map UInt8.toNat = [27, 184, 0, 135, 154, 0, 6, 16, 254, 172, 28, 170, 0, 0, 0, 80, 0, 0, 0, 0, 0, 0, 0, 3, 0, 0, 0, 29, 0, 0, 0, 45, 0, 0, 0, 61, 0, 0, 0, 71, 42, 180, 0, 27, 42, 180, 0, 27, 180, 0, 125, 27, 182, 0, 138, 172, 42, 180, 0, 27, 42, 180, 0, 27] := by decide +kernel
theorem dX8_farm_0 : DR cX8_farm 0 (.iload_n 1) 1 := dk_27 (bA_sl (a := 0) (j := 0) bkX8_farm_0 rfl)
theorem dX8_farm_1 : DR cX8_farm 1 (.invokestatic 135) 3 := dk_184 (bA_sl (a := 0) (j := 1) bkX8_farm_0 rfl) (bA_sl (a := 0) (j := 2) bkX8_farm_0 rfl) (bA_sl (a := 0) (j := 3) bkX8_farm_0 rfl) (by decide) rfl
theorem dX8_farm_4 : DR cX8_farm 4 (.ifCond .ne 6) 3 := dk_154 (bA_sl (a := 0) (j := 4) bkX8_farm_0 rfl) (bA_sl (a := 0) (j := 5) bkX8_farm_0 rfl) (bA_sl (a := 0) (j := 6) bkX8_farm_0 rfl) (by decide) (by decide)
theorem dX8_farm_7 : DR cX8_farm 7 (.bipush (-2)) 2 := dk_16 (bA_sl (a := 0) (j := 7) bkX8_farm_0 rfl) (bA_sl (a := 0) (j := 8) bkX8_farm_0 rfl) (by decide) (by decide)
theorem dX8_farm_9 : DR cX8_farm 9 (.ireturn) 1 := dk_172 (bA_sl (a := 0) (j := 9) bkX8_farm_0 rfl)
theorem dX8_farm_10 : DR cX8_farm 10 (.iload_n 2) 1 := dk_28 (bA_sl (a := 0) (j := 10) bkX8_farm_0 rfl)
theorem dX8_farm_11 : decode cX8_farm 11 = .ok (.tableswitch 80 0 3 #[29, 45, 61, 71], 29) := by decide +kernel
theorem dX8_farm_40 : DR cX8_farm 40 (.aload_n 0) 1 := dk_42 (bA_sl (a := 0) (j := 40) bkX8_farm_0 rfl)
theorem dX8_farm_41 : DR cX8_farm 41 (.getfield 27) 3 := dk_180 (bA_sl (a := 0) (j := 41) bkX8_farm_0 rfl) (bA_sl (a := 0) (j := 42) bkX8_farm_0 rfl) (bA_sl (a := 0) (j := 43) bkX8_farm_0 rfl) (by decide) rfl
theorem dX8_farm_44 : DR cX8_farm 44 (.aload_n 0) 1 := dk_42 (bA_sl (a := 0) (j := 44) bkX8_farm_0 rfl)
theorem dX8_farm_45 : DR cX8_farm 45 (.getfield 27) 3 := dk_180 (bA_sl (a := 0) (j := 45) bkX8_farm_0 rfl) (bA_sl (a := 0) (j := 46) bkX8_farm_0 rfl) (bA_sl (a := 0) (j := 47) bkX8_farm_0 rfl) (by decide) rfl
theorem dX8_farm_48 : DR cX8_farm 48 (.getfield 125) 3 := dk_180 (bA_sl (a := 0) (j := 48) bkX8_farm_0 rfl) (bA_sl (a := 0) (j := 49) bkX8_farm_0 rfl) (bA_sl (a := 0) (j := 50) bkX8_farm_0 rfl) (by decide) rfl
theorem dX8_farm_51 : DR cX8_farm 51 (.iload_n 1) 1 := dk_27 (bA_sl (a := 0) (j := 51) bkX8_farm_0 rfl)
theorem dX8_farm_52 : DR cX8_farm 52 (.invokevirtual 138) 3 := dk_182 (bA_sl (a := 0) (j := 52) bkX8_farm_0 rfl) (bA_sl (a := 0) (j := 53) bkX8_farm_0 rfl) (bA_sl (a := 0) (j := 54) bkX8_farm_0 rfl) (by decide) rfl
theorem dX8_farm_55 : DR cX8_farm 55 (.ireturn) 1 := dk_172 (bA_sl (a := 0) (j := 55) bkX8_farm_0 rfl)
theorem dX8_farm_56 : DR cX8_farm 56 (.aload_n 0) 1 := dk_42 (bA_sl (a := 0) (j := 56) bkX8_farm_0 rfl)
theorem dX8_farm_57 : DR cX8_farm 57 (.getfield 27) 3 := dk_180 (bA_sl (a := 0) (j := 57) bkX8_farm_0 rfl) (bA_sl (a := 0) (j := 58) bkX8_farm_0 rfl) (bA_sl (a := 0) (j := 59) bkX8_farm_0 rfl) (by decide) rfl
theorem dX8_farm_60 : DR cX8_farm 60 (.aload_n 0) 1 := dk_42 (bA_sl (a := 0) (j := 60) bkX8_farm_0 rfl)
theorem dX8_farm_61 : DR cX8_farm 61 (.getfield 27) 3 := dk_180 (bA_sl (a := 0) (j := 61) bkX8_farm_0 rfl) (bA_sl (a := 0) (j := 62) bkX8_farm_0 rfl) (bA_sl (a := 0) (j := 63) bkX8_farm_0 rfl) (by decide) rfl
theorem bkX8_farm_1 : ((cX8_farm.data.toList.drop 64).take 64).map UInt8.toNat = [180, 0, 112, 27, 182, 0, 138, 172, 42, 180, 0, 27, 180, 0, 142, 27, 46, 172, 42, 180, 0, 27, 27, 182, 0, 145, 172, 16, 254, 172] := by decide +kernel
theorem dX8_farm_64 : DR cX8_farm 64 (.getfield 112) 3 := dk_180 (bA_sl (a := 64) (j := 0) bkX8_farm_1 rfl) (bA_sl (a := 64) (j := 1) bkX8_farm_1 rfl) (bA_sl (a := 64) (j := 2) bkX8_farm_1 rfl) (by decide) rfl
theorem dX8_farm_67 : DR cX8_farm 67 (.iload_n 1) 1 := dk_27 (bA_sl (a := 64) (j := 3) bkX8_farm_1 rfl)
theorem dX8_farm_68 : DR cX8_farm 68 (.invokevirtual 138) 3 := dk_182 (bA_sl (a := 64) (j := 4) bkX8_farm_1 rfl) (bA_sl (a := 64) (j := 5) bkX8_farm_1 rfl) (bA_sl (a := 64) (j := 6) bkX8_farm_1 rfl) (by decide) rfl
theorem dX8_farm_71 : DR cX8_farm 71 (.ireturn) 1 := dk_172 (bA_sl (a := 64) (j := 7) bkX8_farm_1 rfl)
theorem dX8_farm_72 : DR cX8_farm 72 (.aload_n 0) 1 := dk_42 (bA_sl (a := 64) (j := 8) bkX8_farm_1 rfl)
theorem dX8_farm_73 : DR cX8_farm 73 (.getfield 27) 3 := dk_180 (bA_sl (a := 64) (j := 9) bkX8_farm_1 rfl) (bA_sl (a := 64) (j := 10) bkX8_farm_1 rfl) (bA_sl (a := 64) (j := 11) bkX8_farm_1 rfl) (by decide) rfl
theorem dX8_farm_76 : DR cX8_farm 76 (.getfield 142) 3 := dk_180 (bA_sl (a := 64) (j := 12) bkX8_farm_1 rfl) (bA_sl (a := 64) (j := 13) bkX8_farm_1 rfl) (bA_sl (a := 64) (j := 14) bkX8_farm_1 rfl) (by decide) rfl
theorem dX8_farm_79 : DR cX8_farm 79 (.iload_n 1) 1 := dk_27 (bA_sl (a := 64) (j := 15) bkX8_farm_1 rfl)
theorem dX8_farm_80 : DR cX8_farm 80 (.iaload) 1 := dk_46 (bA_sl (a := 64) (j := 16) bkX8_farm_1 rfl)
theorem dX8_farm_81 : DR cX8_farm 81 (.ireturn) 1 := dk_172 (bA_sl (a := 64) (j := 17) bkX8_farm_1 rfl)
theorem dX8_farm_82 : DR cX8_farm 82 (.aload_n 0) 1 := dk_42 (bA_sl (a := 64) (j := 18) bkX8_farm_1 rfl)
theorem dX8_farm_83 : DR cX8_farm 83 (.getfield 27) 3 := dk_180 (bA_sl (a := 64) (j := 19) bkX8_farm_1 rfl) (bA_sl (a := 64) (j := 20) bkX8_farm_1 rfl) (bA_sl (a := 64) (j := 21) bkX8_farm_1 rfl) (by decide) rfl
theorem dX8_farm_86 : DR cX8_farm 86 (.iload_n 1) 1 := dk_27 (bA_sl (a := 64) (j := 22) bkX8_farm_1 rfl)
theorem dX8_farm_87 : DR cX8_farm 87 (.invokevirtual 145) 3 := dk_182 (bA_sl (a := 64) (j := 23) bkX8_farm_1 rfl) (bA_sl (a := 64) (j := 24) bkX8_farm_1 rfl) (bA_sl (a := 64) (j := 25) bkX8_farm_1 rfl) (by decide) rfl
theorem dX8_farm_90 : DR cX8_farm 90 (.ireturn) 1 := dk_172 (bA_sl (a := 64) (j := 26) bkX8_farm_1 rfl)
theorem dX8_farm_91 : DR cX8_farm 91 (.bipush (-2)) 2 := dk_16 (bA_sl (a := 64) (j := 27) bkX8_farm_1 rfl) (bA_sl (a := 64) (j := 28) bkX8_farm_1 rfl) (by decide) (by decide)
theorem dX8_farm_93 : DR cX8_farm 93 (.ireturn) 1 := dk_172 (bA_sl (a := 64) (j := 29) bkX8_farm_1 rfl)
theorem bkX8_light_0 : ((cX8_light.data.toList.drop 0).take 64).map UInt8.toNat = [42, 180, 0, 27, 27, 182, 0, 108, 153, 0, 14, 42, 180, 0, 27, 28, 182, 0, 108, 154, 0, 6, 16, 254, 172, 42, 180, 0, 27, 27, 28, 182, 0, 131, 172] := by decide +kernel
theorem dX8_light_0 : DR cX8_light 0 (.aload_n 0) 1 := dk_42 (bA_sl (a := 0) (j := 0) bkX8_light_0 rfl)
theorem dX8_light_1 : DR cX8_light 1 (.getfield 27) 3 := dk_180 (bA_sl (a := 0) (j := 1) bkX8_light_0 rfl) (bA_sl (a := 0) (j := 2) bkX8_light_0 rfl) (bA_sl (a := 0) (j := 3) bkX8_light_0 rfl) (by decide) rfl
theorem dX8_light_4 : DR cX8_light 4 (.iload_n 1) 1 := dk_27 (bA_sl (a := 0) (j := 4) bkX8_light_0 rfl)
theorem dX8_light_5 : DR cX8_light 5 (.invokevirtual 108) 3 := dk_182 (bA_sl (a := 0) (j := 5) bkX8_light_0 rfl) (bA_sl (a := 0) (j := 6) bkX8_light_0 rfl) (bA_sl (a := 0) (j := 7) bkX8_light_0 rfl) (by decide) rfl
theorem dX8_light_8 : DR cX8_light 8 (.ifCond .eq 14) 3 := dk_153 (bA_sl (a := 0) (j := 8) bkX8_light_0 rfl) (bA_sl (a := 0) (j := 9) bkX8_light_0 rfl) (bA_sl (a := 0) (j := 10) bkX8_light_0 rfl) (by decide) (by decide)
theorem dX8_light_11 : DR cX8_light 11 (.aload_n 0) 1 := dk_42 (bA_sl (a := 0) (j := 11) bkX8_light_0 rfl)
theorem dX8_light_12 : DR cX8_light 12 (.getfield 27) 3 := dk_180 (bA_sl (a := 0) (j := 12) bkX8_light_0 rfl) (bA_sl (a := 0) (j := 13) bkX8_light_0 rfl) (bA_sl (a := 0) (j := 14) bkX8_light_0 rfl) (by decide) rfl
theorem dX8_light_15 : DR cX8_light 15 (.iload_n 2) 1 := dk_28 (bA_sl (a := 0) (j := 15) bkX8_light_0 rfl)
theorem dX8_light_16 : DR cX8_light 16 (.invokevirtual 108) 3 := dk_182 (bA_sl (a := 0) (j := 16) bkX8_light_0 rfl) (bA_sl (a := 0) (j := 17) bkX8_light_0 rfl) (bA_sl (a := 0) (j := 18) bkX8_light_0 rfl) (by decide) rfl
theorem dX8_light_19 : DR cX8_light 19 (.ifCond .ne 6) 3 := dk_154 (bA_sl (a := 0) (j := 19) bkX8_light_0 rfl) (bA_sl (a := 0) (j := 20) bkX8_light_0 rfl) (bA_sl (a := 0) (j := 21) bkX8_light_0 rfl) (by decide) (by decide)
theorem dX8_light_22 : DR cX8_light 22 (.bipush (-2)) 2 := dk_16 (bA_sl (a := 0) (j := 22) bkX8_light_0 rfl) (bA_sl (a := 0) (j := 23) bkX8_light_0 rfl) (by decide) (by decide)
theorem dX8_light_24 : DR cX8_light 24 (.ireturn) 1 := dk_172 (bA_sl (a := 0) (j := 24) bkX8_light_0 rfl)
theorem dX8_light_25 : DR cX8_light 25 (.aload_n 0) 1 := dk_42 (bA_sl (a := 0) (j := 25) bkX8_light_0 rfl)
theorem dX8_light_26 : DR cX8_light 26 (.getfield 27) 3 := dk_180 (bA_sl (a := 0) (j := 26) bkX8_light_0 rfl) (bA_sl (a := 0) (j := 27) bkX8_light_0 rfl) (bA_sl (a := 0) (j := 28) bkX8_light_0 rfl) (by decide) rfl
theorem dX8_light_29 : DR cX8_light 29 (.iload_n 1) 1 := dk_27 (bA_sl (a := 0) (j := 29) bkX8_light_0 rfl)
theorem dX8_light_30 : DR cX8_light 30 (.iload_n 2) 1 := dk_28 (bA_sl (a := 0) (j := 30) bkX8_light_0 rfl)
theorem dX8_light_31 : DR cX8_light 31 (.invokevirtual 131) 3 := dk_182 (bA_sl (a := 0) (j := 31) bkX8_light_0 rfl) (bA_sl (a := 0) (j := 32) bkX8_light_0 rfl) (bA_sl (a := 0) (j := 33) bkX8_light_0 rfl) (by decide) rfl
theorem dX8_light_34 : DR cX8_light 34 (.ireturn) 1 := dk_172 (bA_sl (a := 0) (j := 34) bkX8_light_0 rfl)
theorem bkX8_lit_0 : ((cX8_lit.data.toList.drop 0).take 64).map UInt8.toNat = [42, 180, 0, 27, 27, 182, 0, 108, 154, 0, 6, 16, 254, 172, 42, 180, 0, 27, 27, 182, 0, 149, 172] := by decide +kernel
theorem dX8_lit_0 : DR cX8_lit 0 (.aload_n 0) 1 := dk_42 (bA_sl (a := 0) (j := 0) bkX8_lit_0 rfl)
theorem dX8_lit_1 : DR cX8_lit 1 (.getfield 27) 3 := dk_180 (bA_sl (a := 0) (j := 1) bkX8_lit_0 rfl) (bA_sl (a := 0) (j := 2) bkX8_lit_0 rfl) (bA_sl (a := 0) (j := 3) bkX8_lit_0 rfl) (by decide) rfl
theorem dX8_lit_4 : DR cX8_lit 4 (.iload_n 1) 1 := dk_27 (bA_sl (a := 0) (j := 4) bkX8_lit_0 rfl)
theorem dX8_lit_5 : DR cX8_lit 5 (.invokevirtual 108) 3 := dk_182 (bA_sl (a := 0) (j := 5) bkX8_lit_0 rfl) (bA_sl (a := 0) (j := 6) bkX8_lit_0 rfl) (bA_sl (a := 0) (j := 7) bkX8_lit_0 rfl) (by decide) rfl
theorem dX8_lit_8 : DR cX8_lit 8 (.ifCond .ne 6) 3 := dk_154 (bA_sl (a := 0) (j := 8) bkX8_lit_0 rfl) (bA_sl (a := 0) (j := 9) bkX8_lit_0 rfl) (bA_sl (a := 0) (j := 10) bkX8_lit_0 rfl) (by decide) (by decide)
theorem dX8_lit_11 : DR cX8_lit 11 (.bipush (-2)) 2 := dk_16 (bA_sl (a := 0) (j := 11) bkX8_lit_0 rfl) (bA_sl (a := 0) (j := 12) bkX8_lit_0 rfl) (by decide) (by decide)
theorem dX8_lit_13 : DR cX8_lit 13 (.ireturn) 1 := dk_172 (bA_sl (a := 0) (j := 13) bkX8_lit_0 rfl)
theorem dX8_lit_14 : DR cX8_lit 14 (.aload_n 0) 1 := dk_42 (bA_sl (a := 0) (j := 14) bkX8_lit_0 rfl)
theorem dX8_lit_15 : DR cX8_lit 15 (.getfield 27) 3 := dk_180 (bA_sl (a := 0) (j := 15) bkX8_lit_0 rfl) (bA_sl (a := 0) (j := 16) bkX8_lit_0 rfl) (bA_sl (a := 0) (j := 17) bkX8_lit_0 rfl) (by decide) rfl
theorem dX8_lit_18 : DR cX8_lit 18 (.iload_n 1) 1 := dk_27 (bA_sl (a := 0) (j := 18) bkX8_lit_0 rfl)
theorem dX8_lit_19 : DR cX8_lit 19 (.invokevirtual 149) 3 := dk_182 (bA_sl (a := 0) (j := 19) bkX8_lit_0 rfl) (bA_sl (a := 0) (j := 20) bkX8_lit_0 rfl) (bA_sl (a := 0) (j := 21) bkX8_lit_0 rfl) (by decide) rfl
theorem dX8_lit_22 : DR cX8_lit 22 (.ireturn) 1 := dk_172 (bA_sl (a := 0) (j := 22) bkX8_lit_0 rfl)
theorem bkX8_shaded_0 : ((cX8_shaded.data.toList.drop 0).take 64).map UInt8.toNat = [42, 180, 0, 27, 27, 182, 0, 108, 154, 0, 6, 16, 254, 172, 42, 180, 0, 27, 27, 182, 0, 152, 172] := by decide +kernel
theorem dX8_shaded_0 : DR cX8_shaded 0 (.aload_n 0) 1 := dk_42 (bA_sl (a := 0) (j := 0) bkX8_shaded_0 rfl)
theorem dX8_shaded_1 : DR cX8_shaded 1 (.getfield 27) 3 := dk_180 (bA_sl (a := 0) (j := 1) bkX8_shaded_0 rfl) (bA_sl (a := 0) (j := 2) bkX8_shaded_0 rfl) (bA_sl (a := 0) (j := 3) bkX8_shaded_0 rfl) (by decide) rfl
theorem dX8_shaded_4 : DR cX8_shaded 4 (.iload_n 1) 1 := dk_27 (bA_sl (a := 0) (j := 4) bkX8_shaded_0 rfl)
theorem dX8_shaded_5 : DR cX8_shaded 5 (.invokevirtual 108) 3 := dk_182 (bA_sl (a := 0) (j := 5) bkX8_shaded_0 rfl) (bA_sl (a := 0) (j := 6) bkX8_shaded_0 rfl) (bA_sl (a := 0) (j := 7) bkX8_shaded_0 rfl) (by decide) rfl
theorem dX8_shaded_8 : DR cX8_shaded 8 (.ifCond .ne 6) 3 := dk_154 (bA_sl (a := 0) (j := 8) bkX8_shaded_0 rfl) (bA_sl (a := 0) (j := 9) bkX8_shaded_0 rfl) (bA_sl (a := 0) (j := 10) bkX8_shaded_0 rfl) (by decide) (by decide)
theorem dX8_shaded_11 : DR cX8_shaded 11 (.bipush (-2)) 2 := dk_16 (bA_sl (a := 0) (j := 11) bkX8_shaded_0 rfl) (bA_sl (a := 0) (j := 12) bkX8_shaded_0 rfl) (by decide) (by decide)
theorem dX8_shaded_13 : DR cX8_shaded 13 (.ireturn) 1 := dk_172 (bA_sl (a := 0) (j := 13) bkX8_shaded_0 rfl)
theorem dX8_shaded_14 : DR cX8_shaded 14 (.aload_n 0) 1 := dk_42 (bA_sl (a := 0) (j := 14) bkX8_shaded_0 rfl)
theorem dX8_shaded_15 : DR cX8_shaded 15 (.getfield 27) 3 := dk_180 (bA_sl (a := 0) (j := 15) bkX8_shaded_0 rfl) (bA_sl (a := 0) (j := 16) bkX8_shaded_0 rfl) (bA_sl (a := 0) (j := 17) bkX8_shaded_0 rfl) (by decide) rfl
theorem dX8_shaded_18 : DR cX8_shaded 18 (.iload_n 1) 1 := dk_27 (bA_sl (a := 0) (j := 18) bkX8_shaded_0 rfl)
theorem dX8_shaded_19 : DR cX8_shaded 19 (.invokevirtual 152) 3 := dk_182 (bA_sl (a := 0) (j := 19) bkX8_shaded_0 rfl) (bA_sl (a := 0) (j := 20) bkX8_shaded_0 rfl) (bA_sl (a := 0) (j := 21) bkX8_shaded_0 rfl) (by decide) rfl
theorem dX8_shaded_22 : DR cX8_shaded 22 (.ireturn) 1 := dk_172 (bA_sl (a := 0) (j := 22) bkX8_shaded_0 rfl)
theorem bkX8_high_0 : ((cX8_high.data.toList.drop 0).take 64).map UInt8.toNat = [42, 180, 0, 27, 27, 182, 0, 108, 153, 0, 14, 42, 180, 0, 27, 28, 182, 0, 108, 154, 0, 6, 16, 254, 172, 42, 180, 0, 27, 27, 28, 182, 0, 155, 172] := by decide +kernel
theorem dX8_high_0 : DR cX8_high 0 (.aload_n 0) 1 := dk_42 (bA_sl (a := 0) (j := 0) bkX8_high_0 rfl)
theorem dX8_high_1 : DR cX8_high 1 (.getfield 27) 3 := dk_180 (bA_sl (a := 0) (j := 1) bkX8_high_0 rfl) (bA_sl (a := 0) (j := 2) bkX8_high_0 rfl) (bA_sl (a := 0) (j := 3) bkX8_high_0 rfl) (by decide) rfl
theorem dX8_high_4 : DR cX8_high 4 (.iload_n 1) 1 := dk_27 (bA_sl (a := 0) (j := 4) bkX8_high_0 rfl)
theorem dX8_high_5 : DR cX8_high 5 (.invokevirtual 108) 3 := dk_182 (bA_sl (a := 0) (j := 5) bkX8_high_0 rfl) (bA_sl (a := 0) (j := 6) bkX8_high_0 rfl) (bA_sl (a := 0) (j := 7) bkX8_high_0 rfl) (by decide) rfl
theorem dX8_high_8 : DR cX8_high 8 (.ifCond .eq 14) 3 := dk_153 (bA_sl (a := 0) (j := 8) bkX8_high_0 rfl) (bA_sl (a := 0) (j := 9) bkX8_high_0 rfl) (bA_sl (a := 0) (j := 10) bkX8_high_0 rfl) (by decide) (by decide)
theorem dX8_high_11 : DR cX8_high 11 (.aload_n 0) 1 := dk_42 (bA_sl (a := 0) (j := 11) bkX8_high_0 rfl)
theorem dX8_high_12 : DR cX8_high 12 (.getfield 27) 3 := dk_180 (bA_sl (a := 0) (j := 12) bkX8_high_0 rfl) (bA_sl (a := 0) (j := 13) bkX8_high_0 rfl) (bA_sl (a := 0) (j := 14) bkX8_high_0 rfl) (by decide) rfl
theorem dX8_high_15 : DR cX8_high 15 (.iload_n 2) 1 := dk_28 (bA_sl (a := 0) (j := 15) bkX8_high_0 rfl)
theorem dX8_high_16 : DR cX8_high 16 (.invokevirtual 108) 3 := dk_182 (bA_sl (a := 0) (j := 16) bkX8_high_0 rfl) (bA_sl (a := 0) (j := 17) bkX8_high_0 rfl) (bA_sl (a := 0) (j := 18) bkX8_high_0 rfl) (by decide) rfl
theorem dX8_high_19 : DR cX8_high 19 (.ifCond .ne 6) 3 := dk_154 (bA_sl (a := 0) (j := 19) bkX8_high_0 rfl) (bA_sl (a := 0) (j := 20) bkX8_high_0 rfl) (bA_sl (a := 0) (j := 21) bkX8_high_0 rfl) (by decide) (by decide)
theorem dX8_high_22 : DR cX8_high 22 (.bipush (-2)) 2 := dk_16 (bA_sl (a := 0) (j := 22) bkX8_high_0 rfl) (bA_sl (a := 0) (j := 23) bkX8_high_0 rfl) (by decide) (by decide)
theorem dX8_high_24 : DR cX8_high 24 (.ireturn) 1 := dk_172 (bA_sl (a := 0) (j := 24) bkX8_high_0 rfl)
theorem dX8_high_25 : DR cX8_high 25 (.aload_n 0) 1 := dk_42 (bA_sl (a := 0) (j := 25) bkX8_high_0 rfl)
theorem dX8_high_26 : DR cX8_high 26 (.getfield 27) 3 := dk_180 (bA_sl (a := 0) (j := 26) bkX8_high_0 rfl) (bA_sl (a := 0) (j := 27) bkX8_high_0 rfl) (bA_sl (a := 0) (j := 28) bkX8_high_0 rfl) (by decide) rfl
theorem dX8_high_29 : DR cX8_high 29 (.iload_n 1) 1 := dk_27 (bA_sl (a := 0) (j := 29) bkX8_high_0 rfl)
theorem dX8_high_30 : DR cX8_high 30 (.iload_n 2) 1 := dk_28 (bA_sl (a := 0) (j := 30) bkX8_high_0 rfl)
theorem dX8_high_31 : DR cX8_high 31 (.invokevirtual 155) 3 := dk_182 (bA_sl (a := 0) (j := 31) bkX8_high_0 rfl) (bA_sl (a := 0) (j := 32) bkX8_high_0 rfl) (bA_sl (a := 0) (j := 33) bkX8_high_0 rfl) (by decide) rfl
theorem dX8_high_34 : DR cX8_high 34 (.ireturn) 1 := dk_172 (bA_sl (a := 0) (j := 34) bkX8_high_0 rfl)
theorem bkX8_highFor_0 : ((cX8_highFor.data.toList.drop 0).take 64).map UInt8.toNat = [27, 153, 0, 14, 42, 180, 0, 27, 27, 182, 0, 158, 154, 0, 6, 16, 253, 172, 2, 62, 2, 54, 4, 3, 54, 5, 21, 5, 42, 180, 0, 27, 180, 0, 161, 162, 0, 45, 42, 180, 0, 27, 21, 5, 27, 182, 0, 164, 54, 6, 21, 6, 2, 159, 0, 21, 29, 2, 159, 0, 9, 21, 6, 29] := by decide +kernel
theorem dX8_highFor_0 : DR cX8_highFor 0 (.iload_n 1) 1 := dk_27 (bA_sl (a := 0) (j := 0) bkX8_highFor_0 rfl)
theorem dX8_highFor_1 : DR cX8_highFor 1 (.ifCond .eq 14) 3 := dk_153 (bA_sl (a := 0) (j := 1) bkX8_highFor_0 rfl) (bA_sl (a := 0) (j := 2) bkX8_highFor_0 rfl) (bA_sl (a := 0) (j := 3) bkX8_highFor_0 rfl) (by decide) (by decide)
theorem dX8_highFor_4 : DR cX8_highFor 4 (.aload_n 0) 1 := dk_42 (bA_sl (a := 0) (j := 4) bkX8_highFor_0 rfl)
theorem dX8_highFor_5 : DR cX8_highFor 5 (.getfield 27) 3 := dk_180 (bA_sl (a := 0) (j := 5) bkX8_highFor_0 rfl) (bA_sl (a := 0) (j := 6) bkX8_highFor_0 rfl) (bA_sl (a := 0) (j := 7) bkX8_highFor_0 rfl) (by decide) rfl
theorem dX8_highFor_8 : DR cX8_highFor 8 (.iload_n 1) 1 := dk_27 (bA_sl (a := 0) (j := 8) bkX8_highFor_0 rfl)
theorem dX8_highFor_9 : DR cX8_highFor 9 (.invokevirtual 158) 3 := dk_182 (bA_sl (a := 0) (j := 9) bkX8_highFor_0 rfl) (bA_sl (a := 0) (j := 10) bkX8_highFor_0 rfl) (bA_sl (a := 0) (j := 11) bkX8_highFor_0 rfl) (by decide) rfl
theorem dX8_highFor_12 : DR cX8_highFor 12 (.ifCond .ne 6) 3 := dk_154 (bA_sl (a := 0) (j := 12) bkX8_highFor_0 rfl) (bA_sl (a := 0) (j := 13) bkX8_highFor_0 rfl) (bA_sl (a := 0) (j := 14) bkX8_highFor_0 rfl) (by decide) (by decide)
theorem dX8_highFor_15 : DR cX8_highFor 15 (.bipush (-3)) 2 := dk_16 (bA_sl (a := 0) (j := 15) bkX8_highFor_0 rfl) (bA_sl (a := 0) (j := 16) bkX8_highFor_0 rfl) (by decide) (by decide)
theorem dX8_highFor_17 : DR cX8_highFor 17 (.ireturn) 1 := dk_172 (bA_sl (a := 0) (j := 17) bkX8_highFor_0 rfl)
theorem dX8_highFor_18 : DR cX8_highFor 18 (.iconst (-1)) 1 := dk_2 (bA_sl (a := 0) (j := 18) bkX8_highFor_0 rfl)
theorem dX8_highFor_19 : DR cX8_highFor 19 (.istore_n 3) 1 := dk_62 (bA_sl (a := 0) (j := 19) bkX8_highFor_0 rfl)
theorem dX8_highFor_20 : DR cX8_highFor 20 (.iconst (-1)) 1 := dk_2 (bA_sl (a := 0) (j := 20) bkX8_highFor_0 rfl)
theorem dX8_highFor_21 : DR cX8_highFor 21 (.istore 4) 2 := dk_54 (bA_sl (a := 0) (j := 21) bkX8_highFor_0 rfl) (bA_sl (a := 0) (j := 22) bkX8_highFor_0 rfl) (by decide)
theorem dX8_highFor_23 : DR cX8_highFor 23 (.iconst 0) 1 := dk_3 (bA_sl (a := 0) (j := 23) bkX8_highFor_0 rfl)
theorem dX8_highFor_24 : DR cX8_highFor 24 (.istore 5) 2 := dk_54 (bA_sl (a := 0) (j := 24) bkX8_highFor_0 rfl) (bA_sl (a := 0) (j := 25) bkX8_highFor_0 rfl) (by decide)
theorem dX8_highFor_26 : DR cX8_highFor 26 (.iload 5) 2 := dk_21 (bA_sl (a := 0) (j := 26) bkX8_highFor_0 rfl) (bA_sl (a := 0) (j := 27) bkX8_highFor_0 rfl) (by decide)
theorem dX8_highFor_28 : DR cX8_highFor 28 (.aload_n 0) 1 := dk_42 (bA_sl (a := 0) (j := 28) bkX8_highFor_0 rfl)
theorem dX8_highFor_29 : DR cX8_highFor 29 (.getfield 27) 3 := dk_180 (bA_sl (a := 0) (j := 29) bkX8_highFor_0 rfl) (bA_sl (a := 0) (j := 30) bkX8_highFor_0 rfl) (bA_sl (a := 0) (j := 31) bkX8_highFor_0 rfl) (by decide) rfl
theorem dX8_highFor_32 : DR cX8_highFor 32 (.getfield 161) 3 := dk_180 (bA_sl (a := 0) (j := 32) bkX8_highFor_0 rfl) (bA_sl (a := 0) (j := 33) bkX8_highFor_0 rfl) (bA_sl (a := 0) (j := 34) bkX8_highFor_0 rfl) (by decide) rfl
theorem dX8_highFor_35 : DR cX8_highFor 35 (.if_icmp .ge 45) 3 := dk_162 (bA_sl (a := 0) (j := 35) bkX8_highFor_0 rfl) (bA_sl (a := 0) (j := 36) bkX8_highFor_0 rfl) (bA_sl (a := 0) (j := 37) bkX8_highFor_0 rfl) (by decide) (by decide)
theorem dX8_highFor_38 : DR cX8_highFor 38 (.aload_n 0) 1 := dk_42 (bA_sl (a := 0) (j := 38) bkX8_highFor_0 rfl)
theorem dX8_highFor_39 : DR cX8_highFor 39 (.getfield 27) 3 := dk_180 (bA_sl (a := 0) (j := 39) bkX8_highFor_0 rfl) (bA_sl (a := 0) (j := 40) bkX8_highFor_0 rfl) (bA_sl (a := 0) (j := 41) bkX8_highFor_0 rfl) (by decide) rfl
theorem dX8_highFor_42 : DR cX8_highFor 42 (.iload 5) 2 := dk_21 (bA_sl (a := 0) (j := 42) bkX8_highFor_0 rfl) (bA_sl (a := 0) (j := 43) bkX8_highFor_0 rfl) (by decide)
theorem dX8_highFor_44 : DR cX8_highFor 44 (.iload_n 1) 1 := dk_27 (bA_sl (a := 0) (j := 44) bkX8_highFor_0 rfl)
theorem dX8_highFor_45 : DR cX8_highFor 45 (.invokevirtual 164) 3 := dk_182 (bA_sl (a := 0) (j := 45) bkX8_highFor_0 rfl) (bA_sl (a := 0) (j := 46) bkX8_highFor_0 rfl) (bA_sl (a := 0) (j := 47) bkX8_highFor_0 rfl) (by decide) rfl
theorem dX8_highFor_48 : DR cX8_highFor 48 (.istore 6) 2 := dk_54 (bA_sl (a := 0) (j := 48) bkX8_highFor_0 rfl) (bA_sl (a := 0) (j := 49) bkX8_highFor_0 rfl) (by decide)
theorem dX8_highFor_50 : DR cX8_highFor 50 (.iload 6) 2 := dk_21 (bA_sl (a := 0) (j := 50) bkX8_highFor_0 rfl) (bA_sl (a := 0) (j := 51) bkX8_highFor_0 rfl) (by decide)
theorem dX8_highFor_52 : DR cX8_highFor 52 (.iconst (-1)) 1 := dk_2 (bA_sl (a := 0) (j := 52) bkX8_highFor_0 rfl)
theorem dX8_highFor_53 : DR cX8_highFor 53 (.if_icmp .eq 21) 3 := dk_159 (bA_sl (a := 0) (j := 53) bkX8_highFor_0 rfl) (bA_sl (a := 0) (j := 54) bkX8_highFor_0 rfl) (bA_sl (a := 0) (j := 55) bkX8_highFor_0 rfl) (by decide) (by decide)
theorem dX8_highFor_56 : DR cX8_highFor 56 (.iload_n 3) 1 := dk_29 (bA_sl (a := 0) (j := 56) bkX8_highFor_0 rfl)
theorem dX8_highFor_57 : DR cX8_highFor 57 (.iconst (-1)) 1 := dk_2 (bA_sl (a := 0) (j := 57) bkX8_highFor_0 rfl)
theorem dX8_highFor_58 : DR cX8_highFor 58 (.if_icmp .eq 9) 3 := dk_159 (bA_sl (a := 0) (j := 58) bkX8_highFor_0 rfl) (bA_sl (a := 0) (j := 59) bkX8_highFor_0 rfl) (bA_sl (a := 0) (j := 60) bkX8_highFor_0 rfl) (by decide) (by decide)
theorem dX8_highFor_61 : DR cX8_highFor 61 (.iload 6) 2 := dk_21 (bA_sl (a := 0) (j := 61) bkX8_highFor_0 rfl) (bA_sl (a := 0) (j := 62) bkX8_highFor_0 rfl) (by decide)
theorem dX8_highFor_63 : DR cX8_highFor 63 (.iload_n 3) 1 := dk_29 (bA_sl (a := 0) (j := 63) bkX8_highFor_0 rfl)
theorem bkX8_highFor_1 : ((cX8_highFor.data.toList.drop 64).take 64).map UInt8.toNat = [162, 0, 10, 21, 6, 62, 21, 5, 54, 4, 132, 5, 1, 167, 255, 205, 28, 153, 0, 8, 21, 4, 167, 0, 4, 29, 172] := by decide +kernel
theorem dX8_highFor_64 : DR cX8_highFor 64 (.if_icmp .ge 10) 3 := dk_162 (bA_sl (a := 64) (j := 0) bkX8_highFor_1 rfl) (bA_sl (a := 64) (j := 1) bkX8_highFor_1 rfl) (bA_sl (a := 64) (j := 2) bkX8_highFor_1 rfl) (by decide) (by decide)
theorem dX8_highFor_67 : DR cX8_highFor 67 (.iload 6) 2 := dk_21 (bA_sl (a := 64) (j := 3) bkX8_highFor_1 rfl) (bA_sl (a := 64) (j := 4) bkX8_highFor_1 rfl) (by decide)
theorem dX8_highFor_69 : DR cX8_highFor 69 (.istore_n 3) 1 := dk_62 (bA_sl (a := 64) (j := 5) bkX8_highFor_1 rfl)
theorem dX8_highFor_70 : DR cX8_highFor 70 (.iload 5) 2 := dk_21 (bA_sl (a := 64) (j := 6) bkX8_highFor_1 rfl) (bA_sl (a := 64) (j := 7) bkX8_highFor_1 rfl) (by decide)
theorem dX8_highFor_72 : DR cX8_highFor 72 (.istore 4) 2 := dk_54 (bA_sl (a := 64) (j := 8) bkX8_highFor_1 rfl) (bA_sl (a := 64) (j := 9) bkX8_highFor_1 rfl) (by decide)
theorem dX8_highFor_74 : DR cX8_highFor 74 (.iinc 5 1) 3 := dk_132 (bA_sl (a := 64) (j := 10) bkX8_highFor_1 rfl) (bA_sl (a := 64) (j := 11) bkX8_highFor_1 rfl) (bA_sl (a := 64) (j := 12) bkX8_highFor_1 rfl) (by decide) (by decide)
theorem dX8_highFor_77 : DR cX8_highFor 77 (.goto (-51)) 3 := dk_167 (bA_sl (a := 64) (j := 13) bkX8_highFor_1 rfl) (bA_sl (a := 64) (j := 14) bkX8_highFor_1 rfl) (bA_sl (a := 64) (j := 15) bkX8_highFor_1 rfl) (by decide) (by decide)
theorem dX8_highFor_80 : DR cX8_highFor 80 (.iload_n 2) 1 := dk_28 (bA_sl (a := 64) (j := 16) bkX8_highFor_1 rfl)
theorem dX8_highFor_81 : DR cX8_highFor 81 (.ifCond .eq 8) 3 := dk_153 (bA_sl (a := 64) (j := 17) bkX8_highFor_1 rfl) (bA_sl (a := 64) (j := 18) bkX8_highFor_1 rfl) (bA_sl (a := 64) (j := 19) bkX8_highFor_1 rfl) (by decide) (by decide)
theorem dX8_highFor_84 : DR cX8_highFor 84 (.iload 4) 2 := dk_21 (bA_sl (a := 64) (j := 20) bkX8_highFor_1 rfl) (bA_sl (a := 64) (j := 21) bkX8_highFor_1 rfl) (by decide)
theorem dX8_highFor_86 : DR cX8_highFor 86 (.goto 4) 3 := dk_167 (bA_sl (a := 64) (j := 22) bkX8_highFor_1 rfl) (bA_sl (a := 64) (j := 23) bkX8_highFor_1 rfl) (bA_sl (a := 64) (j := 24) bkX8_highFor_1 rfl) (by decide) (by decide)
theorem dX8_highFor_89 : DR cX8_highFor 89 (.iload_n 3) 1 := dk_29 (bA_sl (a := 64) (j := 25) bkX8_highFor_1 rfl)
theorem dX8_highFor_90 : DR cX8_highFor 90 (.ireturn) 1 := dk_172 (bA_sl (a := 64) (j := 26) bkX8_highFor_1 rfl)
theorem bkX8_height_0 : ((cX8_height.data.toList.drop 0).take 64).map UInt8.toNat = [27, 4, 161, 0, 9, 27, 16, 30, 164, 0, 6, 16, 253, 172, 42, 180, 0, 27, 180, 0, 167, 61, 42, 180, 0, 27, 27, 181, 0, 167, 28, 172] := by decide +kernel
theorem dX8_height_0 : DR cX8_height 0 (.iload_n 1) 1 := dk_27 (bA_sl (a := 0) (j := 0) bkX8_height_0 rfl)
theorem dX8_height_1 : DR cX8_height 1 (.iconst 1) 1 := dk_4 (bA_sl (a := 0) (j := 1) bkX8_height_0 rfl)
theorem dX8_height_2 : DR cX8_height 2 (.if_icmp .lt 9) 3 := dk_161 (bA_sl (a := 0) (j := 2) bkX8_height_0 rfl) (bA_sl (a := 0) (j := 3) bkX8_height_0 rfl) (bA_sl (a := 0) (j := 4) bkX8_height_0 rfl) (by decide) (by decide)
theorem dX8_height_5 : DR cX8_height 5 (.iload_n 1) 1 := dk_27 (bA_sl (a := 0) (j := 5) bkX8_height_0 rfl)
theorem dX8_height_6 : DR cX8_height 6 (.bipush 30) 2 := dk_16 (bA_sl (a := 0) (j := 6) bkX8_height_0 rfl) (bA_sl (a := 0) (j := 7) bkX8_height_0 rfl) (by decide) (by decide)
theorem dX8_height_8 : DR cX8_height 8 (.if_icmp .le 6) 3 := dk_164 (bA_sl (a := 0) (j := 8) bkX8_height_0 rfl) (bA_sl (a := 0) (j := 9) bkX8_height_0 rfl) (bA_sl (a := 0) (j := 10) bkX8_height_0 rfl) (by decide) (by decide)
theorem dX8_height_11 : DR cX8_height 11 (.bipush (-3)) 2 := dk_16 (bA_sl (a := 0) (j := 11) bkX8_height_0 rfl) (bA_sl (a := 0) (j := 12) bkX8_height_0 rfl) (by decide) (by decide)
theorem dX8_height_13 : DR cX8_height 13 (.ireturn) 1 := dk_172 (bA_sl (a := 0) (j := 13) bkX8_height_0 rfl)
theorem dX8_height_14 : DR cX8_height 14 (.aload_n 0) 1 := dk_42 (bA_sl (a := 0) (j := 14) bkX8_height_0 rfl)
theorem dX8_height_15 : DR cX8_height 15 (.getfield 27) 3 := dk_180 (bA_sl (a := 0) (j := 15) bkX8_height_0 rfl) (bA_sl (a := 0) (j := 16) bkX8_height_0 rfl) (bA_sl (a := 0) (j := 17) bkX8_height_0 rfl) (by decide) rfl
theorem dX8_height_18 : DR cX8_height 18 (.getfield 167) 3 := dk_180 (bA_sl (a := 0) (j := 18) bkX8_height_0 rfl) (bA_sl (a := 0) (j := 19) bkX8_height_0 rfl) (bA_sl (a := 0) (j := 20) bkX8_height_0 rfl) (by decide) rfl
theorem dX8_height_21 : DR cX8_height 21 (.istore_n 2) 1 := dk_61 (bA_sl (a := 0) (j := 21) bkX8_height_0 rfl)
theorem dX8_height_22 : DR cX8_height 22 (.aload_n 0) 1 := dk_42 (bA_sl (a := 0) (j := 22) bkX8_height_0 rfl)
theorem dX8_height_23 : DR cX8_height 23 (.getfield 27) 3 := dk_180 (bA_sl (a := 0) (j := 23) bkX8_height_0 rfl) (bA_sl (a := 0) (j := 24) bkX8_height_0 rfl) (bA_sl (a := 0) (j := 25) bkX8_height_0 rfl) (by decide) rfl
theorem dX8_height_26 : DR cX8_height 26 (.iload_n 1) 1 := dk_27 (bA_sl (a := 0) (j := 26) bkX8_height_0 rfl)
theorem dX8_height_27 : DR cX8_height 27 (.putfield 167) 3 := dk_181 (bA_sl (a := 0) (j := 27) bkX8_height_0 rfl) (bA_sl (a := 0) (j := 28) bkX8_height_0 rfl) (bA_sl (a := 0) (j := 29) bkX8_height_0 rfl) (by decide) rfl
theorem dX8_height_30 : DR cX8_height 30 (.iload_n 2) 1 := dk_28 (bA_sl (a := 0) (j := 30) bkX8_height_0 rfl)
theorem dX8_height_31 : DR cX8_height 31 (.ireturn) 1 := dk_172 (bA_sl (a := 0) (j := 31) bkX8_height_0 rfl)
theorem bkX8_fell_0 : ((cX8_fell.data.toList.drop 0).take 64).map UInt8.toNat = [42, 180, 0, 27, 27, 182, 0, 108, 154, 0, 6, 16, 254, 172, 42, 180, 0, 27, 180, 0, 119, 27, 46, 61, 28, 154, 0, 6, 16, 251, 172, 42, 180, 0, 27, 180, 0, 119, 27, 3, 79, 28, 172] := by decide +kernel
theorem dX8_fell_0 : DR cX8_fell 0 (.aload_n 0) 1 := dk_42 (bA_sl (a := 0) (j := 0) bkX8_fell_0 rfl)
theorem dX8_fell_1 : DR cX8_fell 1 (.getfield 27) 3 := dk_180 (bA_sl (a := 0) (j := 1) bkX8_fell_0 rfl) (bA_sl (a := 0) (j := 2) bkX8_fell_0 rfl) (bA_sl (a := 0) (j := 3) bkX8_fell_0 rfl) (by decide) rfl
theorem dX8_fell_4 : DR cX8_fell 4 (.iload_n 1) 1 := dk_27 (bA_sl (a := 0) (j := 4) bkX8_fell_0 rfl)
theorem dX8_fell_5 : DR cX8_fell 5 (.invokevirtual 108) 3 := dk_182 (bA_sl (a := 0) (j := 5) bkX8_fell_0 rfl) (bA_sl (a := 0) (j := 6) bkX8_fell_0 rfl) (bA_sl (a := 0) (j := 7) bkX8_fell_0 rfl) (by decide) rfl
theorem dX8_fell_8 : DR cX8_fell 8 (.ifCond .ne 6) 3 := dk_154 (bA_sl (a := 0) (j := 8) bkX8_fell_0 rfl) (bA_sl (a := 0) (j := 9) bkX8_fell_0 rfl) (bA_sl (a := 0) (j := 10) bkX8_fell_0 rfl) (by decide) (by decide)
theorem dX8_fell_11 : DR cX8_fell 11 (.bipush (-2)) 2 := dk_16 (bA_sl (a := 0) (j := 11) bkX8_fell_0 rfl) (bA_sl (a := 0) (j := 12) bkX8_fell_0 rfl) (by decide) (by decide)
theorem dX8_fell_13 : DR cX8_fell 13 (.ireturn) 1 := dk_172 (bA_sl (a := 0) (j := 13) bkX8_fell_0 rfl)
theorem dX8_fell_14 : DR cX8_fell 14 (.aload_n 0) 1 := dk_42 (bA_sl (a := 0) (j := 14) bkX8_fell_0 rfl)
theorem dX8_fell_15 : DR cX8_fell 15 (.getfield 27) 3 := dk_180 (bA_sl (a := 0) (j := 15) bkX8_fell_0 rfl) (bA_sl (a := 0) (j := 16) bkX8_fell_0 rfl) (bA_sl (a := 0) (j := 17) bkX8_fell_0 rfl) (by decide) rfl
theorem dX8_fell_18 : DR cX8_fell 18 (.getfield 119) 3 := dk_180 (bA_sl (a := 0) (j := 18) bkX8_fell_0 rfl) (bA_sl (a := 0) (j := 19) bkX8_fell_0 rfl) (bA_sl (a := 0) (j := 20) bkX8_fell_0 rfl) (by decide) rfl
theorem dX8_fell_21 : DR cX8_fell 21 (.iload_n 1) 1 := dk_27 (bA_sl (a := 0) (j := 21) bkX8_fell_0 rfl)
theorem dX8_fell_22 : DR cX8_fell 22 (.iaload) 1 := dk_46 (bA_sl (a := 0) (j := 22) bkX8_fell_0 rfl)
theorem dX8_fell_23 : DR cX8_fell 23 (.istore_n 2) 1 := dk_61 (bA_sl (a := 0) (j := 23) bkX8_fell_0 rfl)
theorem dX8_fell_24 : DR cX8_fell 24 (.iload_n 2) 1 := dk_28 (bA_sl (a := 0) (j := 24) bkX8_fell_0 rfl)
theorem dX8_fell_25 : DR cX8_fell 25 (.ifCond .ne 6) 3 := dk_154 (bA_sl (a := 0) (j := 25) bkX8_fell_0 rfl) (bA_sl (a := 0) (j := 26) bkX8_fell_0 rfl) (bA_sl (a := 0) (j := 27) bkX8_fell_0 rfl) (by decide) (by decide)
theorem dX8_fell_28 : DR cX8_fell 28 (.bipush (-5)) 2 := dk_16 (bA_sl (a := 0) (j := 28) bkX8_fell_0 rfl) (bA_sl (a := 0) (j := 29) bkX8_fell_0 rfl) (by decide) (by decide)
theorem dX8_fell_30 : DR cX8_fell 30 (.ireturn) 1 := dk_172 (bA_sl (a := 0) (j := 30) bkX8_fell_0 rfl)
theorem dX8_fell_31 : DR cX8_fell 31 (.aload_n 0) 1 := dk_42 (bA_sl (a := 0) (j := 31) bkX8_fell_0 rfl)
theorem dX8_fell_32 : DR cX8_fell 32 (.getfield 27) 3 := dk_180 (bA_sl (a := 0) (j := 32) bkX8_fell_0 rfl) (bA_sl (a := 0) (j := 33) bkX8_fell_0 rfl) (bA_sl (a := 0) (j := 34) bkX8_fell_0 rfl) (by decide) rfl
theorem dX8_fell_35 : DR cX8_fell 35 (.getfield 119) 3 := dk_180 (bA_sl (a := 0) (j := 35) bkX8_fell_0 rfl) (bA_sl (a := 0) (j := 36) bkX8_fell_0 rfl) (bA_sl (a := 0) (j := 37) bkX8_fell_0 rfl) (by decide) rfl
theorem dX8_fell_38 : DR cX8_fell 38 (.iload_n 1) 1 := dk_27 (bA_sl (a := 0) (j := 38) bkX8_fell_0 rfl)
theorem dX8_fell_39 : DR cX8_fell 39 (.iconst 0) 1 := dk_3 (bA_sl (a := 0) (j := 39) bkX8_fell_0 rfl)
theorem dX8_fell_40 : DR cX8_fell 40 (.iastore) 1 := dk_79 (bA_sl (a := 0) (j := 40) bkX8_fell_0 rfl)
theorem dX8_fell_41 : DR cX8_fell 41 (.iload_n 2) 1 := dk_28 (bA_sl (a := 0) (j := 41) bkX8_fell_0 rfl)
theorem dX8_fell_42 : DR cX8_fell 42 (.ireturn) 1 := dk_172 (bA_sl (a := 0) (j := 42) bkX8_fell_0 rfl)
theorem bkX8_minute_0 : ((cX8_minute.data.toList.drop 0).take 64).map UInt8.toNat = [42, 180, 0, 27, 27, 133, 182, 0, 170, 61, 28, 153, 0, 16, 28, 4, 160, 0, 8, 16, 254, 167, 0, 5, 16, 251, 172, 42, 180, 0, 27, 42, 180, 0, 27, 42, 180, 0, 27, 180, 0, 128, 27, 133, 182, 0, 174, 4, 182, 0, 178, 172] := by decide +kernel
theorem dX8_minute_0 : DR cX8_minute 0 (.aload_n 0) 1 := dk_42 (bA_sl (a := 0) (j := 0) bkX8_minute_0 rfl)
theorem dX8_minute_1 : DR cX8_minute 1 (.getfield 27) 3 := dk_180 (bA_sl (a := 0) (j := 1) bkX8_minute_0 rfl) (bA_sl (a := 0) (j := 2) bkX8_minute_0 rfl) (bA_sl (a := 0) (j := 3) bkX8_minute_0 rfl) (by decide) rfl
theorem dX8_minute_4 : DR cX8_minute 4 (.iload_n 1) 1 := dk_27 (bA_sl (a := 0) (j := 4) bkX8_minute_0 rfl)
theorem dX8_minute_5 : DR cX8_minute 5 (.i2l) 1 := dk_133 (bA_sl (a := 0) (j := 5) bkX8_minute_0 rfl)
theorem dX8_minute_6 : DR cX8_minute 6 (.invokevirtual 170) 3 := dk_182 (bA_sl (a := 0) (j := 6) bkX8_minute_0 rfl) (bA_sl (a := 0) (j := 7) bkX8_minute_0 rfl) (bA_sl (a := 0) (j := 8) bkX8_minute_0 rfl) (by decide) rfl
theorem dX8_minute_9 : DR cX8_minute 9 (.istore_n 2) 1 := dk_61 (bA_sl (a := 0) (j := 9) bkX8_minute_0 rfl)
theorem dX8_minute_10 : DR cX8_minute 10 (.iload_n 2) 1 := dk_28 (bA_sl (a := 0) (j := 10) bkX8_minute_0 rfl)
theorem dX8_minute_11 : DR cX8_minute 11 (.ifCond .eq 16) 3 := dk_153 (bA_sl (a := 0) (j := 11) bkX8_minute_0 rfl) (bA_sl (a := 0) (j := 12) bkX8_minute_0 rfl) (bA_sl (a := 0) (j := 13) bkX8_minute_0 rfl) (by decide) (by decide)
theorem dX8_minute_14 : DR cX8_minute 14 (.iload_n 2) 1 := dk_28 (bA_sl (a := 0) (j := 14) bkX8_minute_0 rfl)
theorem dX8_minute_15 : DR cX8_minute 15 (.iconst 1) 1 := dk_4 (bA_sl (a := 0) (j := 15) bkX8_minute_0 rfl)
theorem dX8_minute_16 : DR cX8_minute 16 (.if_icmp .ne 8) 3 := dk_160 (bA_sl (a := 0) (j := 16) bkX8_minute_0 rfl) (bA_sl (a := 0) (j := 17) bkX8_minute_0 rfl) (bA_sl (a := 0) (j := 18) bkX8_minute_0 rfl) (by decide) (by decide)
theorem dX8_minute_19 : DR cX8_minute 19 (.bipush (-2)) 2 := dk_16 (bA_sl (a := 0) (j := 19) bkX8_minute_0 rfl) (bA_sl (a := 0) (j := 20) bkX8_minute_0 rfl) (by decide) (by decide)
theorem dX8_minute_21 : DR cX8_minute 21 (.goto 5) 3 := dk_167 (bA_sl (a := 0) (j := 21) bkX8_minute_0 rfl) (bA_sl (a := 0) (j := 22) bkX8_minute_0 rfl) (bA_sl (a := 0) (j := 23) bkX8_minute_0 rfl) (by decide) (by decide)
theorem dX8_minute_24 : DR cX8_minute 24 (.bipush (-5)) 2 := dk_16 (bA_sl (a := 0) (j := 24) bkX8_minute_0 rfl) (bA_sl (a := 0) (j := 25) bkX8_minute_0 rfl) (by decide) (by decide)
theorem dX8_minute_26 : DR cX8_minute 26 (.ireturn) 1 := dk_172 (bA_sl (a := 0) (j := 26) bkX8_minute_0 rfl)
theorem dX8_minute_27 : DR cX8_minute 27 (.aload_n 0) 1 := dk_42 (bA_sl (a := 0) (j := 27) bkX8_minute_0 rfl)
theorem dX8_minute_28 : DR cX8_minute 28 (.getfield 27) 3 := dk_180 (bA_sl (a := 0) (j := 28) bkX8_minute_0 rfl) (bA_sl (a := 0) (j := 29) bkX8_minute_0 rfl) (bA_sl (a := 0) (j := 30) bkX8_minute_0 rfl) (by decide) rfl
theorem dX8_minute_31 : DR cX8_minute 31 (.aload_n 0) 1 := dk_42 (bA_sl (a := 0) (j := 31) bkX8_minute_0 rfl)
theorem dX8_minute_32 : DR cX8_minute 32 (.getfield 27) 3 := dk_180 (bA_sl (a := 0) (j := 32) bkX8_minute_0 rfl) (bA_sl (a := 0) (j := 33) bkX8_minute_0 rfl) (bA_sl (a := 0) (j := 34) bkX8_minute_0 rfl) (by decide) rfl
theorem dX8_minute_35 : DR cX8_minute 35 (.aload_n 0) 1 := dk_42 (bA_sl (a := 0) (j := 35) bkX8_minute_0 rfl)
theorem dX8_minute_36 : DR cX8_minute 36 (.getfield 27) 3 := dk_180 (bA_sl (a := 0) (j := 36) bkX8_minute_0 rfl) (bA_sl (a := 0) (j := 37) bkX8_minute_0 rfl) (bA_sl (a := 0) (j := 38) bkX8_minute_0 rfl) (by decide) rfl
theorem dX8_minute_39 : DR cX8_minute 39 (.getfield 128) 3 := dk_180 (bA_sl (a := 0) (j := 39) bkX8_minute_0 rfl) (bA_sl (a := 0) (j := 40) bkX8_minute_0 rfl) (bA_sl (a := 0) (j := 41) bkX8_minute_0 rfl) (by decide) rfl
theorem dX8_minute_42 : DR cX8_minute 42 (.iload_n 1) 1 := dk_27 (bA_sl (a := 0) (j := 42) bkX8_minute_0 rfl)
theorem dX8_minute_43 : DR cX8_minute 43 (.i2l) 1 := dk_133 (bA_sl (a := 0) (j := 43) bkX8_minute_0 rfl)
theorem dX8_minute_44 : DR cX8_minute 44 (.invokevirtual 174) 3 := dk_182 (bA_sl (a := 0) (j := 44) bkX8_minute_0 rfl) (bA_sl (a := 0) (j := 45) bkX8_minute_0 rfl) (bA_sl (a := 0) (j := 46) bkX8_minute_0 rfl) (by decide) rfl
theorem dX8_minute_47 : DR cX8_minute 47 (.iconst 1) 1 := dk_4 (bA_sl (a := 0) (j := 47) bkX8_minute_0 rfl)
theorem dX8_minute_48 : DR cX8_minute 48 (.invokevirtual 178) 3 := dk_182 (bA_sl (a := 0) (j := 48) bkX8_minute_0 rfl) (bA_sl (a := 0) (j := 49) bkX8_minute_0 rfl) (bA_sl (a := 0) (j := 50) bkX8_minute_0 rfl) (by decide) rfl
theorem dX8_minute_51 : DR cX8_minute 51 (.ireturn) 1 := dk_172 (bA_sl (a := 0) (j := 51) bkX8_minute_0 rfl)
theorem bkX8_judge_0 : ((cX8_judge.data.toList.drop 0).take 64).map UInt8.toNat = [27, 184, 0, 182, 153, 0, 12, 28, 155, 0, 8, 28, 6, 164, 0, 6, 16, 254, 172, 42, 180, 0, 44, 27, 50, 78, 45, 180, 0, 185, 153, 0, 6, 16, 250, 172, 42, 180, 0, 31, 42, 180, 0, 27, 182, 0, 95, 42, 180, 0, 31, 45, 182, 0, 189, 54, 4, 21, 4, 45, 180, 0, 193, 161] := by decide +kernel
theorem dX8_judge_0 : DR cX8_judge 0 (.iload_n 1) 1 := dk_27 (bA_sl (a := 0) (j := 0) bkX8_judge_0 rfl)
theorem dX8_judge_1 : DR cX8_judge 1 (.invokestatic 182) 3 := dk_184 (bA_sl (a := 0) (j := 1) bkX8_judge_0 rfl) (bA_sl (a := 0) (j := 2) bkX8_judge_0 rfl) (bA_sl (a := 0) (j := 3) bkX8_judge_0 rfl) (by decide) rfl
theorem dX8_judge_4 : DR cX8_judge 4 (.ifCond .eq 12) 3 := dk_153 (bA_sl (a := 0) (j := 4) bkX8_judge_0 rfl) (bA_sl (a := 0) (j := 5) bkX8_judge_0 rfl) (bA_sl (a := 0) (j := 6) bkX8_judge_0 rfl) (by decide) (by decide)
theorem dX8_judge_7 : DR cX8_judge 7 (.iload_n 2) 1 := dk_28 (bA_sl (a := 0) (j := 7) bkX8_judge_0 rfl)
theorem dX8_judge_8 : DR cX8_judge 8 (.ifCond .lt 8) 3 := dk_155 (bA_sl (a := 0) (j := 8) bkX8_judge_0 rfl) (bA_sl (a := 0) (j := 9) bkX8_judge_0 rfl) (bA_sl (a := 0) (j := 10) bkX8_judge_0 rfl) (by decide) (by decide)
theorem dX8_judge_11 : DR cX8_judge 11 (.iload_n 2) 1 := dk_28 (bA_sl (a := 0) (j := 11) bkX8_judge_0 rfl)
theorem dX8_judge_12 : DR cX8_judge 12 (.iconst 3) 1 := dk_6 (bA_sl (a := 0) (j := 12) bkX8_judge_0 rfl)
theorem dX8_judge_13 : DR cX8_judge 13 (.if_icmp .le 6) 3 := dk_164 (bA_sl (a := 0) (j := 13) bkX8_judge_0 rfl) (bA_sl (a := 0) (j := 14) bkX8_judge_0 rfl) (bA_sl (a := 0) (j := 15) bkX8_judge_0 rfl) (by decide) (by decide)
theorem dX8_judge_16 : DR cX8_judge 16 (.bipush (-2)) 2 := dk_16 (bA_sl (a := 0) (j := 16) bkX8_judge_0 rfl) (bA_sl (a := 0) (j := 17) bkX8_judge_0 rfl) (by decide) (by decide)
theorem dX8_judge_18 : DR cX8_judge 18 (.ireturn) 1 := dk_172 (bA_sl (a := 0) (j := 18) bkX8_judge_0 rfl)
theorem dX8_judge_19 : DR cX8_judge 19 (.aload_n 0) 1 := dk_42 (bA_sl (a := 0) (j := 19) bkX8_judge_0 rfl)
theorem dX8_judge_20 : DR cX8_judge 20 (.getfield 44) 3 := dk_180 (bA_sl (a := 0) (j := 20) bkX8_judge_0 rfl) (bA_sl (a := 0) (j := 21) bkX8_judge_0 rfl) (bA_sl (a := 0) (j := 22) bkX8_judge_0 rfl) (by decide) rfl
theorem dX8_judge_23 : DR cX8_judge 23 (.iload_n 1) 1 := dk_27 (bA_sl (a := 0) (j := 23) bkX8_judge_0 rfl)
theorem dX8_judge_24 : DR cX8_judge 24 (.aaload) 1 := dk_50 (bA_sl (a := 0) (j := 24) bkX8_judge_0 rfl)
theorem dX8_judge_25 : DR cX8_judge 25 (.astore_n 3) 1 := dk_78 (bA_sl (a := 0) (j := 25) bkX8_judge_0 rfl)
theorem dX8_judge_26 : DR cX8_judge 26 (.aload_n 3) 1 := dk_45 (bA_sl (a := 0) (j := 26) bkX8_judge_0 rfl)
theorem dX8_judge_27 : DR cX8_judge 27 (.getfield 185) 3 := dk_180 (bA_sl (a := 0) (j := 27) bkX8_judge_0 rfl) (bA_sl (a := 0) (j := 28) bkX8_judge_0 rfl) (bA_sl (a := 0) (j := 29) bkX8_judge_0 rfl) (by decide) rfl
theorem dX8_judge_30 : DR cX8_judge 30 (.ifCond .eq 6) 3 := dk_153 (bA_sl (a := 0) (j := 30) bkX8_judge_0 rfl) (bA_sl (a := 0) (j := 31) bkX8_judge_0 rfl) (bA_sl (a := 0) (j := 32) bkX8_judge_0 rfl) (by decide) (by decide)
theorem dX8_judge_33 : DR cX8_judge 33 (.bipush (-6)) 2 := dk_16 (bA_sl (a := 0) (j := 33) bkX8_judge_0 rfl) (bA_sl (a := 0) (j := 34) bkX8_judge_0 rfl) (by decide) (by decide)
theorem dX8_judge_35 : DR cX8_judge 35 (.ireturn) 1 := dk_172 (bA_sl (a := 0) (j := 35) bkX8_judge_0 rfl)
theorem dX8_judge_36 : DR cX8_judge 36 (.aload_n 0) 1 := dk_42 (bA_sl (a := 0) (j := 36) bkX8_judge_0 rfl)
theorem dX8_judge_37 : DR cX8_judge 37 (.getfield 31) 3 := dk_180 (bA_sl (a := 0) (j := 37) bkX8_judge_0 rfl) (bA_sl (a := 0) (j := 38) bkX8_judge_0 rfl) (bA_sl (a := 0) (j := 39) bkX8_judge_0 rfl) (by decide) rfl
theorem dX8_judge_40 : DR cX8_judge 40 (.aload_n 0) 1 := dk_42 (bA_sl (a := 0) (j := 40) bkX8_judge_0 rfl)
theorem dX8_judge_41 : DR cX8_judge 41 (.getfield 27) 3 := dk_180 (bA_sl (a := 0) (j := 41) bkX8_judge_0 rfl) (bA_sl (a := 0) (j := 42) bkX8_judge_0 rfl) (bA_sl (a := 0) (j := 43) bkX8_judge_0 rfl) (by decide) rfl
theorem dX8_judge_44 : DR cX8_judge 44 (.invokevirtual 95) 3 := dk_182 (bA_sl (a := 0) (j := 44) bkX8_judge_0 rfl) (bA_sl (a := 0) (j := 45) bkX8_judge_0 rfl) (bA_sl (a := 0) (j := 46) bkX8_judge_0 rfl) (by decide) rfl
theorem dX8_judge_47 : DR cX8_judge 47 (.aload_n 0) 1 := dk_42 (bA_sl (a := 0) (j := 47) bkX8_judge_0 rfl)
theorem dX8_judge_48 : DR cX8_judge 48 (.getfield 31) 3 := dk_180 (bA_sl (a := 0) (j := 48) bkX8_judge_0 rfl) (bA_sl (a := 0) (j := 49) bkX8_judge_0 rfl) (bA_sl (a := 0) (j := 50) bkX8_judge_0 rfl) (by decide) rfl
theorem dX8_judge_51 : DR cX8_judge 51 (.aload_n 3) 1 := dk_45 (bA_sl (a := 0) (j := 51) bkX8_judge_0 rfl)
theorem dX8_judge_52 : DR cX8_judge 52 (.invokevirtual 189) 3 := dk_182 (bA_sl (a := 0) (j := 52) bkX8_judge_0 rfl) (bA_sl (a := 0) (j := 53) bkX8_judge_0 rfl) (bA_sl (a := 0) (j := 54) bkX8_judge_0 rfl) (by decide) rfl
theorem dX8_judge_55 : DR cX8_judge 55 (.istore 4) 2 := dk_54 (bA_sl (a := 0) (j := 55) bkX8_judge_0 rfl) (bA_sl (a := 0) (j := 56) bkX8_judge_0 rfl) (by decide)
theorem dX8_judge_57 : DR cX8_judge 57 (.iload 4) 2 := dk_21 (bA_sl (a := 0) (j := 57) bkX8_judge_0 rfl) (bA_sl (a := 0) (j := 58) bkX8_judge_0 rfl) (by decide)
theorem dX8_judge_59 : DR cX8_judge 59 (.aload_n 3) 1 := dk_45 (bA_sl (a := 0) (j := 59) bkX8_judge_0 rfl)
theorem dX8_judge_60 : DR cX8_judge 60 (.getfield 193) 3 := dk_180 (bA_sl (a := 0) (j := 60) bkX8_judge_0 rfl) (bA_sl (a := 0) (j := 61) bkX8_judge_0 rfl) (bA_sl (a := 0) (j := 62) bkX8_judge_0 rfl) (by decide) rfl
theorem bkX8_judge_1 : ((cX8_judge.data.toList.drop 64).take 64).map UInt8.toNat = [0, 7, 4, 167, 0, 4, 3, 54, 5, 28, 170, 0, 0, 0, 0, 91, 0, 0, 0, 0, 0, 0, 0, 2, 0, 0, 0, 26, 0, 0, 0, 38, 0, 0, 0, 61, 21, 5, 153, 0, 7, 2, 167, 0, 5, 21, 4, 172, 21, 5, 153, 0, 7, 3, 167, 0, 16, 42, 180, 0, 31, 45, 21, 4] := by decide +kernel
theorem dX8_judge_63 : DR cX8_judge 63 (.if_icmp .lt 7) 3 := dk_161 (bA_sl (a := 0) (j := 63) bkX8_judge_0 rfl) (bA_sl (a := 64) (j := 0) bkX8_judge_1 rfl) (bA_sl (a := 64) (j := 1) bkX8_judge_1 rfl) (by decide) (by decide)
theorem dX8_judge_66 : DR cX8_judge 66 (.iconst 1) 1 := dk_4 (bA_sl (a := 64) (j := 2) bkX8_judge_1 rfl)
theorem dX8_judge_67 : DR cX8_judge 67 (.goto 4) 3 := dk_167 (bA_sl (a := 64) (j := 3) bkX8_judge_1 rfl) (bA_sl (a := 64) (j := 4) bkX8_judge_1 rfl) (bA_sl (a := 64) (j := 5) bkX8_judge_1 rfl) (by decide) (by decide)
theorem dX8_judge_70 : DR cX8_judge 70 (.iconst 0) 1 := dk_3 (bA_sl (a := 64) (j := 6) bkX8_judge_1 rfl)
theorem dX8_judge_71 : DR cX8_judge 71 (.istore 5) 2 := dk_54 (bA_sl (a := 64) (j := 7) bkX8_judge_1 rfl) (bA_sl (a := 64) (j := 8) bkX8_judge_1 rfl) (by decide)
theorem dX8_judge_73 : DR cX8_judge 73 (.iload_n 2) 1 := dk_28 (bA_sl (a := 64) (j := 9) bkX8_judge_1 rfl)
theorem dX8_judge_74 : decode cX8_judge 74 = .ok (.tableswitch 91 0 2 #[26, 38, 61], 26) := by decide +kernel
theorem dX8_judge_100 : DR cX8_judge 100 (.iload 5) 2 := dk_21 (bA_sl (a := 64) (j := 36) bkX8_judge_1 rfl) (bA_sl (a := 64) (j := 37) bkX8_judge_1 rfl) (by decide)
theorem dX8_judge_102 : DR cX8_judge 102 (.ifCond .eq 7) 3 := dk_153 (bA_sl (a := 64) (j := 38) bkX8_judge_1 rfl) (bA_sl (a := 64) (j := 39) bkX8_judge_1 rfl) (bA_sl (a := 64) (j := 40) bkX8_judge_1 rfl) (by decide) (by decide)
theorem dX8_judge_105 : DR cX8_judge 105 (.iconst (-1)) 1 := dk_2 (bA_sl (a := 64) (j := 41) bkX8_judge_1 rfl)
theorem dX8_judge_106 : DR cX8_judge 106 (.goto 5) 3 := dk_167 (bA_sl (a := 64) (j := 42) bkX8_judge_1 rfl) (bA_sl (a := 64) (j := 43) bkX8_judge_1 rfl) (bA_sl (a := 64) (j := 44) bkX8_judge_1 rfl) (by decide) (by decide)
theorem dX8_judge_109 : DR cX8_judge 109 (.iload 4) 2 := dk_21 (bA_sl (a := 64) (j := 45) bkX8_judge_1 rfl) (bA_sl (a := 64) (j := 46) bkX8_judge_1 rfl) (by decide)
theorem dX8_judge_111 : DR cX8_judge 111 (.ireturn) 1 := dk_172 (bA_sl (a := 64) (j := 47) bkX8_judge_1 rfl)
theorem dX8_judge_112 : DR cX8_judge 112 (.iload 5) 2 := dk_21 (bA_sl (a := 64) (j := 48) bkX8_judge_1 rfl) (bA_sl (a := 64) (j := 49) bkX8_judge_1 rfl) (by decide)
theorem dX8_judge_114 : DR cX8_judge 114 (.ifCond .eq 7) 3 := dk_153 (bA_sl (a := 64) (j := 50) bkX8_judge_1 rfl) (bA_sl (a := 64) (j := 51) bkX8_judge_1 rfl) (bA_sl (a := 64) (j := 52) bkX8_judge_1 rfl) (by decide) (by decide)
theorem dX8_judge_117 : DR cX8_judge 117 (.iconst 0) 1 := dk_3 (bA_sl (a := 64) (j := 53) bkX8_judge_1 rfl)
theorem dX8_judge_118 : DR cX8_judge 118 (.goto 16) 3 := dk_167 (bA_sl (a := 64) (j := 54) bkX8_judge_1 rfl) (bA_sl (a := 64) (j := 55) bkX8_judge_1 rfl) (bA_sl (a := 64) (j := 56) bkX8_judge_1 rfl) (by decide) (by decide)
theorem dX8_judge_121 : DR cX8_judge 121 (.aload_n 0) 1 := dk_42 (bA_sl (a := 64) (j := 57) bkX8_judge_1 rfl)
theorem dX8_judge_122 : DR cX8_judge 122 (.getfield 31) 3 := dk_180 (bA_sl (a := 64) (j := 58) bkX8_judge_1 rfl) (bA_sl (a := 64) (j := 59) bkX8_judge_1 rfl) (bA_sl (a := 64) (j := 60) bkX8_judge_1 rfl) (by decide) rfl
theorem dX8_judge_125 : DR cX8_judge 125 (.aload_n 3) 1 := dk_45 (bA_sl (a := 64) (j := 61) bkX8_judge_1 rfl)
theorem dX8_judge_126 : DR cX8_judge 126 (.iload 4) 2 := dk_21 (bA_sl (a := 64) (j := 62) bkX8_judge_1 rfl) (bA_sl (a := 64) (j := 63) bkX8_judge_1 rfl) (by decide)
theorem bkX8_judge_2 : ((cX8_judge.data.toList.drop 128).take 64).map UInt8.toNat = [182, 0, 196, 182, 0, 170, 172, 42, 180, 0, 31, 42, 180, 0, 31, 180, 0, 125, 182, 0, 200, 42, 180, 0, 27, 42, 180, 0, 27, 180, 0, 125, 182, 0, 200, 100, 172, 42, 180, 0, 31, 182, 0, 204, 172] := by decide +kernel
theorem dX8_judge_128 : DR cX8_judge 128 (.invokevirtual 196) 3 := dk_182 (bA_sl (a := 128) (j := 0) bkX8_judge_2 rfl) (bA_sl (a := 128) (j := 1) bkX8_judge_2 rfl) (bA_sl (a := 128) (j := 2) bkX8_judge_2 rfl) (by decide) rfl
theorem dX8_judge_131 : DR cX8_judge 131 (.invokevirtual 170) 3 := dk_182 (bA_sl (a := 128) (j := 3) bkX8_judge_2 rfl) (bA_sl (a := 128) (j := 4) bkX8_judge_2 rfl) (bA_sl (a := 128) (j := 5) bkX8_judge_2 rfl) (by decide) rfl
theorem dX8_judge_134 : DR cX8_judge 134 (.ireturn) 1 := dk_172 (bA_sl (a := 128) (j := 6) bkX8_judge_2 rfl)
theorem dX8_judge_135 : DR cX8_judge 135 (.aload_n 0) 1 := dk_42 (bA_sl (a := 128) (j := 7) bkX8_judge_2 rfl)
theorem dX8_judge_136 : DR cX8_judge 136 (.getfield 31) 3 := dk_180 (bA_sl (a := 128) (j := 8) bkX8_judge_2 rfl) (bA_sl (a := 128) (j := 9) bkX8_judge_2 rfl) (bA_sl (a := 128) (j := 10) bkX8_judge_2 rfl) (by decide) rfl
theorem dX8_judge_139 : DR cX8_judge 139 (.aload_n 0) 1 := dk_42 (bA_sl (a := 128) (j := 11) bkX8_judge_2 rfl)
theorem dX8_judge_140 : DR cX8_judge 140 (.getfield 31) 3 := dk_180 (bA_sl (a := 128) (j := 12) bkX8_judge_2 rfl) (bA_sl (a := 128) (j := 13) bkX8_judge_2 rfl) (bA_sl (a := 128) (j := 14) bkX8_judge_2 rfl) (by decide) rfl
theorem dX8_judge_143 : DR cX8_judge 143 (.getfield 125) 3 := dk_180 (bA_sl (a := 128) (j := 15) bkX8_judge_2 rfl) (bA_sl (a := 128) (j := 16) bkX8_judge_2 rfl) (bA_sl (a := 128) (j := 17) bkX8_judge_2 rfl) (by decide) rfl
theorem dX8_judge_146 : DR cX8_judge 146 (.invokevirtual 200) 3 := dk_182 (bA_sl (a := 128) (j := 18) bkX8_judge_2 rfl) (bA_sl (a := 128) (j := 19) bkX8_judge_2 rfl) (bA_sl (a := 128) (j := 20) bkX8_judge_2 rfl) (by decide) rfl
theorem dX8_judge_149 : DR cX8_judge 149 (.aload_n 0) 1 := dk_42 (bA_sl (a := 128) (j := 21) bkX8_judge_2 rfl)
theorem dX8_judge_150 : DR cX8_judge 150 (.getfield 27) 3 := dk_180 (bA_sl (a := 128) (j := 22) bkX8_judge_2 rfl) (bA_sl (a := 128) (j := 23) bkX8_judge_2 rfl) (bA_sl (a := 128) (j := 24) bkX8_judge_2 rfl) (by decide) rfl
theorem dX8_judge_153 : DR cX8_judge 153 (.aload_n 0) 1 := dk_42 (bA_sl (a := 128) (j := 25) bkX8_judge_2 rfl)
theorem dX8_judge_154 : DR cX8_judge 154 (.getfield 27) 3 := dk_180 (bA_sl (a := 128) (j := 26) bkX8_judge_2 rfl) (bA_sl (a := 128) (j := 27) bkX8_judge_2 rfl) (bA_sl (a := 128) (j := 28) bkX8_judge_2 rfl) (by decide) rfl
theorem dX8_judge_157 : DR cX8_judge 157 (.getfield 125) 3 := dk_180 (bA_sl (a := 128) (j := 29) bkX8_judge_2 rfl) (bA_sl (a := 128) (j := 30) bkX8_judge_2 rfl) (bA_sl (a := 128) (j := 31) bkX8_judge_2 rfl) (by decide) rfl
theorem dX8_judge_160 : DR cX8_judge 160 (.invokevirtual 200) 3 := dk_182 (bA_sl (a := 128) (j := 32) bkX8_judge_2 rfl) (bA_sl (a := 128) (j := 33) bkX8_judge_2 rfl) (bA_sl (a := 128) (j := 34) bkX8_judge_2 rfl) (by decide) rfl
theorem dX8_judge_163 : DR cX8_judge 163 (.isub) 1 := dk_100 (bA_sl (a := 128) (j := 35) bkX8_judge_2 rfl)
theorem dX8_judge_164 : DR cX8_judge 164 (.ireturn) 1 := dk_172 (bA_sl (a := 128) (j := 36) bkX8_judge_2 rfl)
theorem dX8_judge_165 : DR cX8_judge 165 (.aload_n 0) 1 := dk_42 (bA_sl (a := 128) (j := 37) bkX8_judge_2 rfl)
theorem dX8_judge_166 : DR cX8_judge 166 (.getfield 31) 3 := dk_180 (bA_sl (a := 128) (j := 38) bkX8_judge_2 rfl) (bA_sl (a := 128) (j := 39) bkX8_judge_2 rfl) (bA_sl (a := 128) (j := 40) bkX8_judge_2 rfl) (by decide) rfl
theorem dX8_judge_169 : DR cX8_judge 169 (.invokevirtual 204) 3 := dk_182 (bA_sl (a := 128) (j := 41) bkX8_judge_2 rfl) (bA_sl (a := 128) (j := 42) bkX8_judge_2 rfl) (bA_sl (a := 128) (j := 43) bkX8_judge_2 rfl) (by decide) rfl
theorem dX8_judge_172 : DR cX8_judge 172 (.ireturn) 1 := dk_172 (bA_sl (a := 128) (j := 44) bkX8_judge_2 rfl)
theorem bkX8_perform_0 : ((cX8_perform.data.toList.drop 0).take 64).map UInt8.toNat = [27, 184, 0, 182, 154, 0, 6, 16, 254, 172, 42, 180, 0, 44, 27, 50, 180, 0, 185, 153, 0, 6, 16, 250, 172, 42, 180, 0, 27, 42, 180, 0, 44, 27, 50, 182, 0, 189, 172] := by decide +kernel
theorem dX8_perform_0 : DR cX8_perform 0 (.iload_n 1) 1 := dk_27 (bA_sl (a := 0) (j := 0) bkX8_perform_0 rfl)
theorem dX8_perform_1 : DR cX8_perform 1 (.invokestatic 182) 3 := dk_184 (bA_sl (a := 0) (j := 1) bkX8_perform_0 rfl) (bA_sl (a := 0) (j := 2) bkX8_perform_0 rfl) (bA_sl (a := 0) (j := 3) bkX8_perform_0 rfl) (by decide) rfl
theorem dX8_perform_4 : DR cX8_perform 4 (.ifCond .ne 6) 3 := dk_154 (bA_sl (a := 0) (j := 4) bkX8_perform_0 rfl) (bA_sl (a := 0) (j := 5) bkX8_perform_0 rfl) (bA_sl (a := 0) (j := 6) bkX8_perform_0 rfl) (by decide) (by decide)
theorem dX8_perform_7 : DR cX8_perform 7 (.bipush (-2)) 2 := dk_16 (bA_sl (a := 0) (j := 7) bkX8_perform_0 rfl) (bA_sl (a := 0) (j := 8) bkX8_perform_0 rfl) (by decide) (by decide)
theorem dX8_perform_9 : DR cX8_perform 9 (.ireturn) 1 := dk_172 (bA_sl (a := 0) (j := 9) bkX8_perform_0 rfl)
theorem dX8_perform_10 : DR cX8_perform 10 (.aload_n 0) 1 := dk_42 (bA_sl (a := 0) (j := 10) bkX8_perform_0 rfl)
theorem dX8_perform_11 : DR cX8_perform 11 (.getfield 44) 3 := dk_180 (bA_sl (a := 0) (j := 11) bkX8_perform_0 rfl) (bA_sl (a := 0) (j := 12) bkX8_perform_0 rfl) (bA_sl (a := 0) (j := 13) bkX8_perform_0 rfl) (by decide) rfl
theorem dX8_perform_14 : DR cX8_perform 14 (.iload_n 1) 1 := dk_27 (bA_sl (a := 0) (j := 14) bkX8_perform_0 rfl)
theorem dX8_perform_15 : DR cX8_perform 15 (.aaload) 1 := dk_50 (bA_sl (a := 0) (j := 15) bkX8_perform_0 rfl)
theorem dX8_perform_16 : DR cX8_perform 16 (.getfield 185) 3 := dk_180 (bA_sl (a := 0) (j := 16) bkX8_perform_0 rfl) (bA_sl (a := 0) (j := 17) bkX8_perform_0 rfl) (bA_sl (a := 0) (j := 18) bkX8_perform_0 rfl) (by decide) rfl
theorem dX8_perform_19 : DR cX8_perform 19 (.ifCond .eq 6) 3 := dk_153 (bA_sl (a := 0) (j := 19) bkX8_perform_0 rfl) (bA_sl (a := 0) (j := 20) bkX8_perform_0 rfl) (bA_sl (a := 0) (j := 21) bkX8_perform_0 rfl) (by decide) (by decide)
theorem dX8_perform_22 : DR cX8_perform 22 (.bipush (-6)) 2 := dk_16 (bA_sl (a := 0) (j := 22) bkX8_perform_0 rfl) (bA_sl (a := 0) (j := 23) bkX8_perform_0 rfl) (by decide) (by decide)
theorem dX8_perform_24 : DR cX8_perform 24 (.ireturn) 1 := dk_172 (bA_sl (a := 0) (j := 24) bkX8_perform_0 rfl)
theorem dX8_perform_25 : DR cX8_perform 25 (.aload_n 0) 1 := dk_42 (bA_sl (a := 0) (j := 25) bkX8_perform_0 rfl)
theorem dX8_perform_26 : DR cX8_perform 26 (.getfield 27) 3 := dk_180 (bA_sl (a := 0) (j := 26) bkX8_perform_0 rfl) (bA_sl (a := 0) (j := 27) bkX8_perform_0 rfl) (bA_sl (a := 0) (j := 28) bkX8_perform_0 rfl) (by decide) rfl
theorem dX8_perform_29 : DR cX8_perform 29 (.aload_n 0) 1 := dk_42 (bA_sl (a := 0) (j := 29) bkX8_perform_0 rfl)
theorem dX8_perform_30 : DR cX8_perform 30 (.getfield 44) 3 := dk_180 (bA_sl (a := 0) (j := 30) bkX8_perform_0 rfl) (bA_sl (a := 0) (j := 31) bkX8_perform_0 rfl) (bA_sl (a := 0) (j := 32) bkX8_perform_0 rfl) (by decide) rfl
theorem dX8_perform_33 : DR cX8_perform 33 (.iload_n 1) 1 := dk_27 (bA_sl (a := 0) (j := 33) bkX8_perform_0 rfl)
theorem dX8_perform_34 : DR cX8_perform 34 (.aaload) 1 := dk_50 (bA_sl (a := 0) (j := 34) bkX8_perform_0 rfl)
theorem dX8_perform_35 : DR cX8_perform 35 (.invokevirtual 189) 3 := dk_182 (bA_sl (a := 0) (j := 35) bkX8_perform_0 rfl) (bA_sl (a := 0) (j := 36) bkX8_perform_0 rfl) (bA_sl (a := 0) (j := 37) bkX8_perform_0 rfl) (by decide) rfl
theorem dX8_perform_38 : DR cX8_perform 38 (.ireturn) 1 := dk_172 (bA_sl (a := 0) (j := 38) bkX8_perform_0 rfl)
theorem bkX8_fill_0 : ((cX8_fill.data.toList.drop 0).take 64).map UInt8.toNat = [27, 155, 0, 9, 27, 16, 99, 164, 0, 6, 16, 253, 172, 42, 180, 0, 27, 17, 3, 231, 42, 180, 0, 27, 180, 0, 208, 27, 96, 184, 0, 211, 181, 0, 208, 42, 180, 0, 27, 180, 0, 208, 172] := by decide +kernel
theorem dX8_fill_0 : DR cX8_fill 0 (.iload_n 1) 1 := dk_27 (bA_sl (a := 0) (j := 0) bkX8_fill_0 rfl)
theorem dX8_fill_1 : DR cX8_fill 1 (.ifCond .lt 9) 3 := dk_155 (bA_sl (a := 0) (j := 1) bkX8_fill_0 rfl) (bA_sl (a := 0) (j := 2) bkX8_fill_0 rfl) (bA_sl (a := 0) (j := 3) bkX8_fill_0 rfl) (by decide) (by decide)
theorem dX8_fill_4 : DR cX8_fill 4 (.iload_n 1) 1 := dk_27 (bA_sl (a := 0) (j := 4) bkX8_fill_0 rfl)
theorem dX8_fill_5 : DR cX8_fill 5 (.bipush 99) 2 := dk_16 (bA_sl (a := 0) (j := 5) bkX8_fill_0 rfl) (bA_sl (a := 0) (j := 6) bkX8_fill_0 rfl) (by decide) (by decide)
theorem dX8_fill_7 : DR cX8_fill 7 (.if_icmp .le 6) 3 := dk_164 (bA_sl (a := 0) (j := 7) bkX8_fill_0 rfl) (bA_sl (a := 0) (j := 8) bkX8_fill_0 rfl) (bA_sl (a := 0) (j := 9) bkX8_fill_0 rfl) (by decide) (by decide)
theorem dX8_fill_10 : DR cX8_fill 10 (.bipush (-3)) 2 := dk_16 (bA_sl (a := 0) (j := 10) bkX8_fill_0 rfl) (bA_sl (a := 0) (j := 11) bkX8_fill_0 rfl) (by decide) (by decide)
theorem dX8_fill_12 : DR cX8_fill 12 (.ireturn) 1 := dk_172 (bA_sl (a := 0) (j := 12) bkX8_fill_0 rfl)
theorem dX8_fill_13 : DR cX8_fill 13 (.aload_n 0) 1 := dk_42 (bA_sl (a := 0) (j := 13) bkX8_fill_0 rfl)
theorem dX8_fill_14 : DR cX8_fill 14 (.getfield 27) 3 := dk_180 (bA_sl (a := 0) (j := 14) bkX8_fill_0 rfl) (bA_sl (a := 0) (j := 15) bkX8_fill_0 rfl) (bA_sl (a := 0) (j := 16) bkX8_fill_0 rfl) (by decide) rfl
theorem dX8_fill_17 : DR cX8_fill 17 (.sipush 999) 3 := dk_17 (bA_sl (a := 0) (j := 17) bkX8_fill_0 rfl) (bA_sl (a := 0) (j := 18) bkX8_fill_0 rfl) (bA_sl (a := 0) (j := 19) bkX8_fill_0 rfl) (by decide) (by decide)
theorem dX8_fill_20 : DR cX8_fill 20 (.aload_n 0) 1 := dk_42 (bA_sl (a := 0) (j := 20) bkX8_fill_0 rfl)
theorem dX8_fill_21 : DR cX8_fill 21 (.getfield 27) 3 := dk_180 (bA_sl (a := 0) (j := 21) bkX8_fill_0 rfl) (bA_sl (a := 0) (j := 22) bkX8_fill_0 rfl) (bA_sl (a := 0) (j := 23) bkX8_fill_0 rfl) (by decide) rfl
theorem dX8_fill_24 : DR cX8_fill 24 (.getfield 208) 3 := dk_180 (bA_sl (a := 0) (j := 24) bkX8_fill_0 rfl) (bA_sl (a := 0) (j := 25) bkX8_fill_0 rfl) (bA_sl (a := 0) (j := 26) bkX8_fill_0 rfl) (by decide) rfl
theorem dX8_fill_27 : DR cX8_fill 27 (.iload_n 1) 1 := dk_27 (bA_sl (a := 0) (j := 27) bkX8_fill_0 rfl)
theorem dX8_fill_28 : DR cX8_fill 28 (.iadd) 1 := dk_96 (bA_sl (a := 0) (j := 28) bkX8_fill_0 rfl)
theorem dX8_fill_29 : DR cX8_fill 29 (.invokestatic 211) 3 := dk_184 (bA_sl (a := 0) (j := 29) bkX8_fill_0 rfl) (bA_sl (a := 0) (j := 30) bkX8_fill_0 rfl) (bA_sl (a := 0) (j := 31) bkX8_fill_0 rfl) (by decide) rfl
theorem dX8_fill_32 : DR cX8_fill 32 (.putfield 208) 3 := dk_181 (bA_sl (a := 0) (j := 32) bkX8_fill_0 rfl) (bA_sl (a := 0) (j := 33) bkX8_fill_0 rfl) (bA_sl (a := 0) (j := 34) bkX8_fill_0 rfl) (by decide) rfl
theorem dX8_fill_35 : DR cX8_fill 35 (.aload_n 0) 1 := dk_42 (bA_sl (a := 0) (j := 35) bkX8_fill_0 rfl)
theorem dX8_fill_36 : DR cX8_fill 36 (.getfield 27) 3 := dk_180 (bA_sl (a := 0) (j := 36) bkX8_fill_0 rfl) (bA_sl (a := 0) (j := 37) bkX8_fill_0 rfl) (bA_sl (a := 0) (j := 38) bkX8_fill_0 rfl) (by decide) rfl
theorem dX8_fill_39 : DR cX8_fill 39 (.getfield 208) 3 := dk_180 (bA_sl (a := 0) (j := 39) bkX8_fill_0 rfl) (bA_sl (a := 0) (j := 40) bkX8_fill_0 rfl) (bA_sl (a := 0) (j := 41) bkX8_fill_0 rfl) (by decide) rfl
theorem dX8_fill_42 : DR cX8_fill 42 (.ireturn) 1 := dk_172 (bA_sl (a := 0) (j := 42) bkX8_fill_0 rfl)
theorem bkX8_night_0 : ((cX8_night.data.toList.drop 0).take 64).map UInt8.toNat = [28, 4, 161, 0, 9, 28, 16, 60, 164, 0, 6, 16, 253, 172, 28, 42, 180, 0, 27, 180, 0, 208, 184, 0, 211, 62, 42, 180, 0, 27, 180, 0, 161, 153, 0, 22, 29, 153, 0, 18, 42, 180, 0, 27, 180, 0, 216, 29, 96, 17, 39, 15, 164, 0, 6, 16, 251, 172, 27, 54, 4, 3, 54, 5] := by decide +kernel
theorem dX8_night_0 : DR cX8_night 0 (.iload_n 2) 1 := dk_28 (bA_sl (a := 0) (j := 0) bkX8_night_0 rfl)
theorem dX8_night_1 : DR cX8_night 1 (.iconst 1) 1 := dk_4 (bA_sl (a := 0) (j := 1) bkX8_night_0 rfl)
theorem dX8_night_2 : DR cX8_night 2 (.if_icmp .lt 9) 3 := dk_161 (bA_sl (a := 0) (j := 2) bkX8_night_0 rfl) (bA_sl (a := 0) (j := 3) bkX8_night_0 rfl) (bA_sl (a := 0) (j := 4) bkX8_night_0 rfl) (by decide) (by decide)
theorem dX8_night_5 : DR cX8_night 5 (.iload_n 2) 1 := dk_28 (bA_sl (a := 0) (j := 5) bkX8_night_0 rfl)
theorem dX8_night_6 : DR cX8_night 6 (.bipush 60) 2 := dk_16 (bA_sl (a := 0) (j := 6) bkX8_night_0 rfl) (bA_sl (a := 0) (j := 7) bkX8_night_0 rfl) (by decide) (by decide)
theorem dX8_night_8 : DR cX8_night 8 (.if_icmp .le 6) 3 := dk_164 (bA_sl (a := 0) (j := 8) bkX8_night_0 rfl) (bA_sl (a := 0) (j := 9) bkX8_night_0 rfl) (bA_sl (a := 0) (j := 10) bkX8_night_0 rfl) (by decide) (by decide)
theorem dX8_night_11 : DR cX8_night 11 (.bipush (-3)) 2 := dk_16 (bA_sl (a := 0) (j := 11) bkX8_night_0 rfl) (bA_sl (a := 0) (j := 12) bkX8_night_0 rfl) (by decide) (by decide)
theorem dX8_night_13 : DR cX8_night 13 (.ireturn) 1 := dk_172 (bA_sl (a := 0) (j := 13) bkX8_night_0 rfl)
theorem dX8_night_14 : DR cX8_night 14 (.iload_n 2) 1 := dk_28 (bA_sl (a := 0) (j := 14) bkX8_night_0 rfl)
theorem dX8_night_15 : DR cX8_night 15 (.aload_n 0) 1 := dk_42 (bA_sl (a := 0) (j := 15) bkX8_night_0 rfl)
theorem dX8_night_16 : DR cX8_night 16 (.getfield 27) 3 := dk_180 (bA_sl (a := 0) (j := 16) bkX8_night_0 rfl) (bA_sl (a := 0) (j := 17) bkX8_night_0 rfl) (bA_sl (a := 0) (j := 18) bkX8_night_0 rfl) (by decide) rfl
theorem dX8_night_19 : DR cX8_night 19 (.getfield 208) 3 := dk_180 (bA_sl (a := 0) (j := 19) bkX8_night_0 rfl) (bA_sl (a := 0) (j := 20) bkX8_night_0 rfl) (bA_sl (a := 0) (j := 21) bkX8_night_0 rfl) (by decide) rfl
theorem dX8_night_22 : DR cX8_night 22 (.invokestatic 211) 3 := dk_184 (bA_sl (a := 0) (j := 22) bkX8_night_0 rfl) (bA_sl (a := 0) (j := 23) bkX8_night_0 rfl) (bA_sl (a := 0) (j := 24) bkX8_night_0 rfl) (by decide) rfl
theorem dX8_night_25 : DR cX8_night 25 (.istore_n 3) 1 := dk_62 (bA_sl (a := 0) (j := 25) bkX8_night_0 rfl)
theorem dX8_night_26 : DR cX8_night 26 (.aload_n 0) 1 := dk_42 (bA_sl (a := 0) (j := 26) bkX8_night_0 rfl)
theorem dX8_night_27 : DR cX8_night 27 (.getfield 27) 3 := dk_180 (bA_sl (a := 0) (j := 27) bkX8_night_0 rfl) (bA_sl (a := 0) (j := 28) bkX8_night_0 rfl) (bA_sl (a := 0) (j := 29) bkX8_night_0 rfl) (by decide) rfl
theorem dX8_night_30 : DR cX8_night 30 (.getfield 161) 3 := dk_180 (bA_sl (a := 0) (j := 30) bkX8_night_0 rfl) (bA_sl (a := 0) (j := 31) bkX8_night_0 rfl) (bA_sl (a := 0) (j := 32) bkX8_night_0 rfl) (by decide) rfl
theorem dX8_night_33 : DR cX8_night 33 (.ifCond .eq 22) 3 := dk_153 (bA_sl (a := 0) (j := 33) bkX8_night_0 rfl) (bA_sl (a := 0) (j := 34) bkX8_night_0 rfl) (bA_sl (a := 0) (j := 35) bkX8_night_0 rfl) (by decide) (by decide)
theorem dX8_night_36 : DR cX8_night 36 (.iload_n 3) 1 := dk_29 (bA_sl (a := 0) (j := 36) bkX8_night_0 rfl)
theorem dX8_night_37 : DR cX8_night 37 (.ifCond .eq 18) 3 := dk_153 (bA_sl (a := 0) (j := 37) bkX8_night_0 rfl) (bA_sl (a := 0) (j := 38) bkX8_night_0 rfl) (bA_sl (a := 0) (j := 39) bkX8_night_0 rfl) (by decide) (by decide)
theorem dX8_night_40 : DR cX8_night 40 (.aload_n 0) 1 := dk_42 (bA_sl (a := 0) (j := 40) bkX8_night_0 rfl)
theorem dX8_night_41 : DR cX8_night 41 (.getfield 27) 3 := dk_180 (bA_sl (a := 0) (j := 41) bkX8_night_0 rfl) (bA_sl (a := 0) (j := 42) bkX8_night_0 rfl) (bA_sl (a := 0) (j := 43) bkX8_night_0 rfl) (by decide) rfl
theorem dX8_night_44 : DR cX8_night 44 (.getfield 216) 3 := dk_180 (bA_sl (a := 0) (j := 44) bkX8_night_0 rfl) (bA_sl (a := 0) (j := 45) bkX8_night_0 rfl) (bA_sl (a := 0) (j := 46) bkX8_night_0 rfl) (by decide) rfl
theorem dX8_night_47 : DR cX8_night 47 (.iload_n 3) 1 := dk_29 (bA_sl (a := 0) (j := 47) bkX8_night_0 rfl)
theorem dX8_night_48 : DR cX8_night 48 (.iadd) 1 := dk_96 (bA_sl (a := 0) (j := 48) bkX8_night_0 rfl)
theorem dX8_night_49 : DR cX8_night 49 (.sipush 9999) 3 := dk_17 (bA_sl (a := 0) (j := 49) bkX8_night_0 rfl) (bA_sl (a := 0) (j := 50) bkX8_night_0 rfl) (bA_sl (a := 0) (j := 51) bkX8_night_0 rfl) (by decide) (by decide)
theorem dX8_night_52 : DR cX8_night 52 (.if_icmp .le 6) 3 := dk_164 (bA_sl (a := 0) (j := 52) bkX8_night_0 rfl) (bA_sl (a := 0) (j := 53) bkX8_night_0 rfl) (bA_sl (a := 0) (j := 54) bkX8_night_0 rfl) (by decide) (by decide)
theorem dX8_night_55 : DR cX8_night 55 (.bipush (-5)) 2 := dk_16 (bA_sl (a := 0) (j := 55) bkX8_night_0 rfl) (bA_sl (a := 0) (j := 56) bkX8_night_0 rfl) (by decide) (by decide)
theorem dX8_night_57 : DR cX8_night 57 (.ireturn) 1 := dk_172 (bA_sl (a := 0) (j := 57) bkX8_night_0 rfl)
theorem dX8_night_58 : DR cX8_night 58 (.iload_n 1) 1 := dk_27 (bA_sl (a := 0) (j := 58) bkX8_night_0 rfl)
theorem dX8_night_59 : DR cX8_night 59 (.istore 4) 2 := dk_54 (bA_sl (a := 0) (j := 59) bkX8_night_0 rfl) (bA_sl (a := 0) (j := 60) bkX8_night_0 rfl) (by decide)
theorem dX8_night_61 : DR cX8_night 61 (.iconst 0) 1 := dk_3 (bA_sl (a := 0) (j := 61) bkX8_night_0 rfl)
theorem dX8_night_62 : DR cX8_night 62 (.istore 5) 2 := dk_54 (bA_sl (a := 0) (j := 62) bkX8_night_0 rfl) (bA_sl (a := 0) (j := 63) bkX8_night_0 rfl) (by decide)
theorem bkX8_night_1 : ((cX8_night.data.toList.drop 64).take 64).map UInt8.toNat = [3, 54, 6, 21, 6, 29, 162, 0, 104, 21, 4, 184, 0, 219, 54, 4, 42, 180, 0, 27, 42, 180, 0, 27, 180, 0, 128, 21, 4, 16, 16, 124, 6, 112, 133, 182, 0, 174, 54, 7, 21, 4, 184, 0, 219, 54, 4, 21, 4, 16, 16, 124, 16, 100, 112, 42, 180, 0, 27, 180, 0, 222, 161, 0] := by decide +kernel
theorem dX8_night_64 : DR cX8_night 64 (.iconst 0) 1 := dk_3 (bA_sl (a := 64) (j := 0) bkX8_night_1 rfl)
theorem dX8_night_65 : DR cX8_night 65 (.istore 6) 2 := dk_54 (bA_sl (a := 64) (j := 1) bkX8_night_1 rfl) (bA_sl (a := 64) (j := 2) bkX8_night_1 rfl) (by decide)
theorem dX8_night_67 : DR cX8_night 67 (.iload 6) 2 := dk_21 (bA_sl (a := 64) (j := 3) bkX8_night_1 rfl) (bA_sl (a := 64) (j := 4) bkX8_night_1 rfl) (by decide)
theorem dX8_night_69 : DR cX8_night 69 (.iload_n 3) 1 := dk_29 (bA_sl (a := 64) (j := 5) bkX8_night_1 rfl)
theorem dX8_night_70 : DR cX8_night 70 (.if_icmp .ge 104) 3 := dk_162 (bA_sl (a := 64) (j := 6) bkX8_night_1 rfl) (bA_sl (a := 64) (j := 7) bkX8_night_1 rfl) (bA_sl (a := 64) (j := 8) bkX8_night_1 rfl) (by decide) (by decide)
theorem dX8_night_73 : DR cX8_night 73 (.iload 4) 2 := dk_21 (bA_sl (a := 64) (j := 9) bkX8_night_1 rfl) (bA_sl (a := 64) (j := 10) bkX8_night_1 rfl) (by decide)
theorem dX8_night_75 : DR cX8_night 75 (.invokestatic 219) 3 := dk_184 (bA_sl (a := 64) (j := 11) bkX8_night_1 rfl) (bA_sl (a := 64) (j := 12) bkX8_night_1 rfl) (bA_sl (a := 64) (j := 13) bkX8_night_1 rfl) (by decide) rfl
theorem dX8_night_78 : DR cX8_night 78 (.istore 4) 2 := dk_54 (bA_sl (a := 64) (j := 14) bkX8_night_1 rfl) (bA_sl (a := 64) (j := 15) bkX8_night_1 rfl) (by decide)
theorem dX8_night_80 : DR cX8_night 80 (.aload_n 0) 1 := dk_42 (bA_sl (a := 64) (j := 16) bkX8_night_1 rfl)
theorem dX8_night_81 : DR cX8_night 81 (.getfield 27) 3 := dk_180 (bA_sl (a := 64) (j := 17) bkX8_night_1 rfl) (bA_sl (a := 64) (j := 18) bkX8_night_1 rfl) (bA_sl (a := 64) (j := 19) bkX8_night_1 rfl) (by decide) rfl
theorem dX8_night_84 : DR cX8_night 84 (.aload_n 0) 1 := dk_42 (bA_sl (a := 64) (j := 20) bkX8_night_1 rfl)
theorem dX8_night_85 : DR cX8_night 85 (.getfield 27) 3 := dk_180 (bA_sl (a := 64) (j := 21) bkX8_night_1 rfl) (bA_sl (a := 64) (j := 22) bkX8_night_1 rfl) (bA_sl (a := 64) (j := 23) bkX8_night_1 rfl) (by decide) rfl
theorem dX8_night_88 : DR cX8_night 88 (.getfield 128) 3 := dk_180 (bA_sl (a := 64) (j := 24) bkX8_night_1 rfl) (bA_sl (a := 64) (j := 25) bkX8_night_1 rfl) (bA_sl (a := 64) (j := 26) bkX8_night_1 rfl) (by decide) rfl
theorem dX8_night_91 : DR cX8_night 91 (.iload 4) 2 := dk_21 (bA_sl (a := 64) (j := 27) bkX8_night_1 rfl) (bA_sl (a := 64) (j := 28) bkX8_night_1 rfl) (by decide)
theorem dX8_night_93 : DR cX8_night 93 (.bipush 16) 2 := dk_16 (bA_sl (a := 64) (j := 29) bkX8_night_1 rfl) (bA_sl (a := 64) (j := 30) bkX8_night_1 rfl) (by decide) (by decide)
theorem dX8_night_95 : DR cX8_night 95 (.iushr) 1 := dk_124 (bA_sl (a := 64) (j := 31) bkX8_night_1 rfl)
theorem dX8_night_96 : DR cX8_night 96 (.iconst 3) 1 := dk_6 (bA_sl (a := 64) (j := 32) bkX8_night_1 rfl)
theorem dX8_night_97 : DR cX8_night 97 (.irem) 1 := dk_112 (bA_sl (a := 64) (j := 33) bkX8_night_1 rfl)
theorem dX8_night_98 : DR cX8_night 98 (.i2l) 1 := dk_133 (bA_sl (a := 64) (j := 34) bkX8_night_1 rfl)
theorem dX8_night_99 : DR cX8_night 99 (.invokevirtual 174) 3 := dk_182 (bA_sl (a := 64) (j := 35) bkX8_night_1 rfl) (bA_sl (a := 64) (j := 36) bkX8_night_1 rfl) (bA_sl (a := 64) (j := 37) bkX8_night_1 rfl) (by decide) rfl
theorem dX8_night_102 : DR cX8_night 102 (.istore 7) 2 := dk_54 (bA_sl (a := 64) (j := 38) bkX8_night_1 rfl) (bA_sl (a := 64) (j := 39) bkX8_night_1 rfl) (by decide)
theorem dX8_night_104 : DR cX8_night 104 (.iload 4) 2 := dk_21 (bA_sl (a := 64) (j := 40) bkX8_night_1 rfl) (bA_sl (a := 64) (j := 41) bkX8_night_1 rfl) (by decide)
theorem dX8_night_106 : DR cX8_night 106 (.invokestatic 219) 3 := dk_184 (bA_sl (a := 64) (j := 42) bkX8_night_1 rfl) (bA_sl (a := 64) (j := 43) bkX8_night_1 rfl) (bA_sl (a := 64) (j := 44) bkX8_night_1 rfl) (by decide) rfl
theorem dX8_night_109 : DR cX8_night 109 (.istore 4) 2 := dk_54 (bA_sl (a := 64) (j := 45) bkX8_night_1 rfl) (bA_sl (a := 64) (j := 46) bkX8_night_1 rfl) (by decide)
theorem dX8_night_111 : DR cX8_night 111 (.iload 4) 2 := dk_21 (bA_sl (a := 64) (j := 47) bkX8_night_1 rfl) (bA_sl (a := 64) (j := 48) bkX8_night_1 rfl) (by decide)
theorem dX8_night_113 : DR cX8_night 113 (.bipush 16) 2 := dk_16 (bA_sl (a := 64) (j := 49) bkX8_night_1 rfl) (bA_sl (a := 64) (j := 50) bkX8_night_1 rfl) (by decide) (by decide)
theorem dX8_night_115 : DR cX8_night 115 (.iushr) 1 := dk_124 (bA_sl (a := 64) (j := 51) bkX8_night_1 rfl)
theorem dX8_night_116 : DR cX8_night 116 (.bipush 100) 2 := dk_16 (bA_sl (a := 64) (j := 52) bkX8_night_1 rfl) (bA_sl (a := 64) (j := 53) bkX8_night_1 rfl) (by decide) (by decide)
theorem dX8_night_118 : DR cX8_night 118 (.irem) 1 := dk_112 (bA_sl (a := 64) (j := 54) bkX8_night_1 rfl)
theorem dX8_night_119 : DR cX8_night 119 (.aload_n 0) 1 := dk_42 (bA_sl (a := 64) (j := 55) bkX8_night_1 rfl)
theorem dX8_night_120 : DR cX8_night 120 (.getfield 27) 3 := dk_180 (bA_sl (a := 64) (j := 56) bkX8_night_1 rfl) (bA_sl (a := 64) (j := 57) bkX8_night_1 rfl) (bA_sl (a := 64) (j := 58) bkX8_night_1 rfl) (by decide) rfl
theorem dX8_night_123 : DR cX8_night 123 (.getfield 222) 3 := dk_180 (bA_sl (a := 64) (j := 59) bkX8_night_1 rfl) (bA_sl (a := 64) (j := 60) bkX8_night_1 rfl) (bA_sl (a := 64) (j := 61) bkX8_night_1 rfl) (by decide) rfl
theorem bkX8_night_2 : ((cX8_night.data.toList.drop 128).take 64).map UInt8.toNat = [7, 4, 167, 0, 4, 3, 54, 8, 21, 5, 42, 180, 0, 27, 21, 7, 2, 160, 0, 13, 42, 180, 0, 27, 180, 0, 128, 167, 0, 5, 21, 7, 21, 8, 182, 0, 178, 96, 54, 5, 132, 6, 1, 167, 255, 152, 21, 5, 172] := by decide +kernel
theorem dX8_night_126 : DR cX8_night 126 (.if_icmp .lt 7) 3 := dk_161 (bA_sl (a := 64) (j := 62) bkX8_night_1 rfl) (bA_sl (a := 64) (j := 63) bkX8_night_1 rfl) (bA_sl (a := 128) (j := 0) bkX8_night_2 rfl) (by decide) (by decide)
theorem dX8_night_129 : DR cX8_night 129 (.iconst 1) 1 := dk_4 (bA_sl (a := 128) (j := 1) bkX8_night_2 rfl)
theorem dX8_night_130 : DR cX8_night 130 (.goto 4) 3 := dk_167 (bA_sl (a := 128) (j := 2) bkX8_night_2 rfl) (bA_sl (a := 128) (j := 3) bkX8_night_2 rfl) (bA_sl (a := 128) (j := 4) bkX8_night_2 rfl) (by decide) (by decide)
theorem dX8_night_133 : DR cX8_night 133 (.iconst 0) 1 := dk_3 (bA_sl (a := 128) (j := 5) bkX8_night_2 rfl)
theorem dX8_night_134 : DR cX8_night 134 (.istore 8) 2 := dk_54 (bA_sl (a := 128) (j := 6) bkX8_night_2 rfl) (bA_sl (a := 128) (j := 7) bkX8_night_2 rfl) (by decide)
theorem dX8_night_136 : DR cX8_night 136 (.iload 5) 2 := dk_21 (bA_sl (a := 128) (j := 8) bkX8_night_2 rfl) (bA_sl (a := 128) (j := 9) bkX8_night_2 rfl) (by decide)
theorem dX8_night_138 : DR cX8_night 138 (.aload_n 0) 1 := dk_42 (bA_sl (a := 128) (j := 10) bkX8_night_2 rfl)
theorem dX8_night_139 : DR cX8_night 139 (.getfield 27) 3 := dk_180 (bA_sl (a := 128) (j := 11) bkX8_night_2 rfl) (bA_sl (a := 128) (j := 12) bkX8_night_2 rfl) (bA_sl (a := 128) (j := 13) bkX8_night_2 rfl) (by decide) rfl
theorem dX8_night_142 : DR cX8_night 142 (.iload 7) 2 := dk_21 (bA_sl (a := 128) (j := 14) bkX8_night_2 rfl) (bA_sl (a := 128) (j := 15) bkX8_night_2 rfl) (by decide)
theorem dX8_night_144 : DR cX8_night 144 (.iconst (-1)) 1 := dk_2 (bA_sl (a := 128) (j := 16) bkX8_night_2 rfl)
theorem dX8_night_145 : DR cX8_night 145 (.if_icmp .ne 13) 3 := dk_160 (bA_sl (a := 128) (j := 17) bkX8_night_2 rfl) (bA_sl (a := 128) (j := 18) bkX8_night_2 rfl) (bA_sl (a := 128) (j := 19) bkX8_night_2 rfl) (by decide) (by decide)
theorem dX8_night_148 : DR cX8_night 148 (.aload_n 0) 1 := dk_42 (bA_sl (a := 128) (j := 20) bkX8_night_2 rfl)
theorem dX8_night_149 : DR cX8_night 149 (.getfield 27) 3 := dk_180 (bA_sl (a := 128) (j := 21) bkX8_night_2 rfl) (bA_sl (a := 128) (j := 22) bkX8_night_2 rfl) (bA_sl (a := 128) (j := 23) bkX8_night_2 rfl) (by decide) rfl
theorem dX8_night_152 : DR cX8_night 152 (.getfield 128) 3 := dk_180 (bA_sl (a := 128) (j := 24) bkX8_night_2 rfl) (bA_sl (a := 128) (j := 25) bkX8_night_2 rfl) (bA_sl (a := 128) (j := 26) bkX8_night_2 rfl) (by decide) rfl
theorem dX8_night_155 : DR cX8_night 155 (.goto 5) 3 := dk_167 (bA_sl (a := 128) (j := 27) bkX8_night_2 rfl) (bA_sl (a := 128) (j := 28) bkX8_night_2 rfl) (bA_sl (a := 128) (j := 29) bkX8_night_2 rfl) (by decide) (by decide)
theorem dX8_night_158 : DR cX8_night 158 (.iload 7) 2 := dk_21 (bA_sl (a := 128) (j := 30) bkX8_night_2 rfl) (bA_sl (a := 128) (j := 31) bkX8_night_2 rfl) (by decide)
theorem dX8_night_160 : DR cX8_night 160 (.iload 8) 2 := dk_21 (bA_sl (a := 128) (j := 32) bkX8_night_2 rfl) (bA_sl (a := 128) (j := 33) bkX8_night_2 rfl) (by decide)
theorem dX8_night_162 : DR cX8_night 162 (.invokevirtual 178) 3 := dk_182 (bA_sl (a := 128) (j := 34) bkX8_night_2 rfl) (bA_sl (a := 128) (j := 35) bkX8_night_2 rfl) (bA_sl (a := 128) (j := 36) bkX8_night_2 rfl) (by decide) rfl
theorem dX8_night_165 : DR cX8_night 165 (.iadd) 1 := dk_96 (bA_sl (a := 128) (j := 37) bkX8_night_2 rfl)
theorem dX8_night_166 : DR cX8_night 166 (.istore 5) 2 := dk_54 (bA_sl (a := 128) (j := 38) bkX8_night_2 rfl) (bA_sl (a := 128) (j := 39) bkX8_night_2 rfl) (by decide)
theorem dX8_night_168 : DR cX8_night 168 (.iinc 6 1) 3 := dk_132 (bA_sl (a := 128) (j := 40) bkX8_night_2 rfl) (bA_sl (a := 128) (j := 41) bkX8_night_2 rfl) (bA_sl (a := 128) (j := 42) bkX8_night_2 rfl) (by decide) (by decide)
theorem dX8_night_171 : DR cX8_night 171 (.goto (-104)) 3 := dk_167 (bA_sl (a := 128) (j := 43) bkX8_night_2 rfl) (bA_sl (a := 128) (j := 44) bkX8_night_2 rfl) (bA_sl (a := 128) (j := 45) bkX8_night_2 rfl) (by decide) (by decide)
theorem dX8_night_174 : DR cX8_night 174 (.iload 5) 2 := dk_21 (bA_sl (a := 128) (j := 46) bkX8_night_2 rfl) (bA_sl (a := 128) (j := 47) bkX8_night_2 rfl) (by decide)
theorem dX8_night_176 : DR cX8_night 176 (.ireturn) 1 := dk_172 (bA_sl (a := 128) (j := 48) bkX8_night_2 rfl)
theorem bkX8_walk_0 : ((cX8_walk.data.toList.drop 0).take 64).map UInt8.toNat = [42, 180, 0, 27, 27, 182, 0, 108, 153, 0, 14, 42, 180, 0, 27, 28, 182, 0, 108, 154, 0, 6, 16, 254, 172, 29, 155, 0, 16, 29, 42, 180, 0, 27, 180, 0, 116, 27, 46, 164, 0, 6, 16, 253, 172, 27, 28, 159, 0, 22, 42, 180, 0, 27, 180, 0, 116, 28, 46, 29, 96, 16, 9, 164] := by decide +kernel
theorem dX8_walk_0 : DR cX8_walk 0 (.aload_n 0) 1 := dk_42 (bA_sl (a := 0) (j := 0) bkX8_walk_0 rfl)
theorem dX8_walk_1 : DR cX8_walk 1 (.getfield 27) 3 := dk_180 (bA_sl (a := 0) (j := 1) bkX8_walk_0 rfl) (bA_sl (a := 0) (j := 2) bkX8_walk_0 rfl) (bA_sl (a := 0) (j := 3) bkX8_walk_0 rfl) (by decide) rfl
theorem dX8_walk_4 : DR cX8_walk 4 (.iload_n 1) 1 := dk_27 (bA_sl (a := 0) (j := 4) bkX8_walk_0 rfl)
theorem dX8_walk_5 : DR cX8_walk 5 (.invokevirtual 108) 3 := dk_182 (bA_sl (a := 0) (j := 5) bkX8_walk_0 rfl) (bA_sl (a := 0) (j := 6) bkX8_walk_0 rfl) (bA_sl (a := 0) (j := 7) bkX8_walk_0 rfl) (by decide) rfl
theorem dX8_walk_8 : DR cX8_walk 8 (.ifCond .eq 14) 3 := dk_153 (bA_sl (a := 0) (j := 8) bkX8_walk_0 rfl) (bA_sl (a := 0) (j := 9) bkX8_walk_0 rfl) (bA_sl (a := 0) (j := 10) bkX8_walk_0 rfl) (by decide) (by decide)
theorem dX8_walk_11 : DR cX8_walk 11 (.aload_n 0) 1 := dk_42 (bA_sl (a := 0) (j := 11) bkX8_walk_0 rfl)
theorem dX8_walk_12 : DR cX8_walk 12 (.getfield 27) 3 := dk_180 (bA_sl (a := 0) (j := 12) bkX8_walk_0 rfl) (bA_sl (a := 0) (j := 13) bkX8_walk_0 rfl) (bA_sl (a := 0) (j := 14) bkX8_walk_0 rfl) (by decide) rfl
theorem dX8_walk_15 : DR cX8_walk 15 (.iload_n 2) 1 := dk_28 (bA_sl (a := 0) (j := 15) bkX8_walk_0 rfl)
theorem dX8_walk_16 : DR cX8_walk 16 (.invokevirtual 108) 3 := dk_182 (bA_sl (a := 0) (j := 16) bkX8_walk_0 rfl) (bA_sl (a := 0) (j := 17) bkX8_walk_0 rfl) (bA_sl (a := 0) (j := 18) bkX8_walk_0 rfl) (by decide) rfl
theorem dX8_walk_19 : DR cX8_walk 19 (.ifCond .ne 6) 3 := dk_154 (bA_sl (a := 0) (j := 19) bkX8_walk_0 rfl) (bA_sl (a := 0) (j := 20) bkX8_walk_0 rfl) (bA_sl (a := 0) (j := 21) bkX8_walk_0 rfl) (by decide) (by decide)
theorem dX8_walk_22 : DR cX8_walk 22 (.bipush (-2)) 2 := dk_16 (bA_sl (a := 0) (j := 22) bkX8_walk_0 rfl) (bA_sl (a := 0) (j := 23) bkX8_walk_0 rfl) (by decide) (by decide)
theorem dX8_walk_24 : DR cX8_walk 24 (.ireturn) 1 := dk_172 (bA_sl (a := 0) (j := 24) bkX8_walk_0 rfl)
theorem dX8_walk_25 : DR cX8_walk 25 (.iload_n 3) 1 := dk_29 (bA_sl (a := 0) (j := 25) bkX8_walk_0 rfl)
theorem dX8_walk_26 : DR cX8_walk 26 (.ifCond .lt 16) 3 := dk_155 (bA_sl (a := 0) (j := 26) bkX8_walk_0 rfl) (bA_sl (a := 0) (j := 27) bkX8_walk_0 rfl) (bA_sl (a := 0) (j := 28) bkX8_walk_0 rfl) (by decide) (by decide)
theorem dX8_walk_29 : DR cX8_walk 29 (.iload_n 3) 1 := dk_29 (bA_sl (a := 0) (j := 29) bkX8_walk_0 rfl)
theorem dX8_walk_30 : DR cX8_walk 30 (.aload_n 0) 1 := dk_42 (bA_sl (a := 0) (j := 30) bkX8_walk_0 rfl)
theorem dX8_walk_31 : DR cX8_walk 31 (.getfield 27) 3 := dk_180 (bA_sl (a := 0) (j := 31) bkX8_walk_0 rfl) (bA_sl (a := 0) (j := 32) bkX8_walk_0 rfl) (bA_sl (a := 0) (j := 33) bkX8_walk_0 rfl) (by decide) rfl
theorem dX8_walk_34 : DR cX8_walk 34 (.getfield 116) 3 := dk_180 (bA_sl (a := 0) (j := 34) bkX8_walk_0 rfl) (bA_sl (a := 0) (j := 35) bkX8_walk_0 rfl) (bA_sl (a := 0) (j := 36) bkX8_walk_0 rfl) (by decide) rfl
theorem dX8_walk_37 : DR cX8_walk 37 (.iload_n 1) 1 := dk_27 (bA_sl (a := 0) (j := 37) bkX8_walk_0 rfl)
theorem dX8_walk_38 : DR cX8_walk 38 (.iaload) 1 := dk_46 (bA_sl (a := 0) (j := 38) bkX8_walk_0 rfl)
theorem dX8_walk_39 : DR cX8_walk 39 (.if_icmp .le 6) 3 := dk_164 (bA_sl (a := 0) (j := 39) bkX8_walk_0 rfl) (bA_sl (a := 0) (j := 40) bkX8_walk_0 rfl) (bA_sl (a := 0) (j := 41) bkX8_walk_0 rfl) (by decide) (by decide)
theorem dX8_walk_42 : DR cX8_walk 42 (.bipush (-3)) 2 := dk_16 (bA_sl (a := 0) (j := 42) bkX8_walk_0 rfl) (bA_sl (a := 0) (j := 43) bkX8_walk_0 rfl) (by decide) (by decide)
theorem dX8_walk_44 : DR cX8_walk 44 (.ireturn) 1 := dk_172 (bA_sl (a := 0) (j := 44) bkX8_walk_0 rfl)
theorem dX8_walk_45 : DR cX8_walk 45 (.iload_n 1) 1 := dk_27 (bA_sl (a := 0) (j := 45) bkX8_walk_0 rfl)
theorem dX8_walk_46 : DR cX8_walk 46 (.iload_n 2) 1 := dk_28 (bA_sl (a := 0) (j := 46) bkX8_walk_0 rfl)
