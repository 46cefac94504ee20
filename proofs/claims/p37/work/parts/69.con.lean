set_option maxHeartbeats 4000000 in
set_option maxRecDepth 100000 in
theorem m_count (l : Launch) (D : va_G) (cT : Nat → ClassId) (sz : Nat) (h0 : Nat) (g : Nat → Nat) (b0 : Int32) (b5 : Int32) (b6 : Int32) (b7 : Int32) (b8 : Int32) (b9 : Int32) (b10 : Int32) (b11 : Int32) (b12 : Int32) (b13 : Int32) (b14 : Int32) (b17 : Int32) (b18 : Int32) (b19 : Int32) (b23 : Int32) (b24 : Int32) (b25 : Int32) (b26 : Int32) (b27 : Int32) (b29 : Int32) (b31 : Int32) (b32 : Int32) (b33 : Int32) (hb5 : 0 ≤ b5.toInt ∧ b5.toInt ≤ 900) (a0 : Nat → Int32) (pa0 : PI 288 a0) (x : Int32) : Met l yX9_count (wsc yX9_count cX9_count 2 (some .int)) { frames := 3, cells := 0, slots := 0, locals := 125 } (va_Pc [.ref h0, .int x] (PX D cT sz [(h0, .inr (9, (.int b0 :: .ref (g 0) :: .ref (g 1) :: .ref (g 2) :: .ref (g 3) :: .int b5 :: .int b6 :: .int b7 :: .int b8 :: .int b9 :: .int b10 :: .int b11 :: .int b12 :: .int b13 :: .int b14 :: .ref (g 4) :: .ref (g 5) :: .int b17 :: .int b18 :: .int b19 :: .ref (g 6) :: .ref (g 7) :: .ref (g 8) :: .int b23 :: .int b24 :: .int b25 :: .int b26 :: .int b27 :: .ref (g 9) :: .int b29 :: .ref (g 10) :: .int b31 :: .int b32 :: .int b33 :: .ref (g 11) :: .ref (g 12) :: .ref (g 13) :: []))), ((g 0), .inl (cT 0, 288, .inl (a0)))])) (va_Qi (fun (r : Int32) (u : Int32) => (True)) (fun u t => RW D (va_A [(h0, .inr (9, (.int b0 :: .ref (g 0) :: .ref (g 1) :: .ref (g 2) :: .ref (g 3) :: .int b5 :: .int b6 :: .int b7 :: .int b8 :: .int b9 :: .int b10 :: .int b11 :: .int b12 :: .int b13 :: .int b14 :: .ref (g 4) :: .ref (g 5) :: .int b17 :: .int b18 :: .int b19 :: .ref (g 6) :: .ref (g 7) :: .ref (g 8) :: .int b23 :: .int b24 :: .int b25 :: .int b26 :: .int b27 :: .ref (g 9) :: .int b29 :: .ref (g 10) :: .int b31 :: .int b32 :: .int b33 :: .ref (g 11) :: .ref (g 12) :: .ref (g 13) :: []))), ((g 0), .inl (cT 0, 288, .inl (a0)))] sz) ((fun u : Int32 => [(h0, .inr (9, (.int u :: .ref (g 0) :: .ref (g 1) :: .ref (g 2) :: .ref (g 3) :: .int b5 :: .int b6 :: .int b7 :: .int b8 :: .int b9 :: .int b10 :: .int b11 :: .int b12 :: .int b13 :: .int b14 :: .ref (g 4) :: .ref (g 5) :: .int b17 :: .int b18 :: .int b19 :: .ref (g 6) :: .ref (g 7) :: .ref (g 8) :: .int b23 :: .int b24 :: .int b25 :: .int b26 :: .int b27 :: .ref (g 9) :: .int b29 :: .ref (g 10) :: .int b31 :: .int b32 :: .int b33 :: .ref (g 11) :: .ref (g 12) :: .ref (g 13) :: []))), ((g 0), .inl (cT 0, 288, .inl (a0)))]) u) t) (va_A [(h0, .inr (9, (.int b0 :: .ref (g 0) :: .ref (g 1) :: .ref (g 2) :: .ref (g 3) :: .int b5 :: .int b6 :: .int b7 :: .int b8 :: .int b9 :: .int b10 :: .int b11 :: .int b12 :: .int b13 :: .int b14 :: .ref (g 4) :: .ref (g 5) :: .int b17 :: .int b18 :: .int b19 :: .ref (g 6) :: .ref (g 7) :: .ref (g 8) :: .int b23 :: .int b24 :: .int b25 :: .int b26 :: .int b27 :: .ref (g 9) :: .int b29 :: .ref (g 10) :: .int b31 :: .int b32 :: .int b33 :: .ref (g 11) :: .ref (g 12) :: .ref (g 13) :: []))), ((g 0), .inl (cT 0, 288, .inl (a0)))] sz)) 0 0 (va_A [(h0, .inr (9, (.int b0 :: .ref (g 0) :: .ref (g 1) :: .ref (g 2) :: .ref (g 3) :: .int b5 :: .int b6 :: .int b7 :: .int b8 :: .int b9 :: .int b10 :: .int b11 :: .int b12 :: .int b13 :: .int b14 :: .ref (g 4) :: .ref (g 5) :: .int b17 :: .int b18 :: .int b19 :: .ref (g 6) :: .ref (g 7) :: .ref (g 8) :: .int b23 :: .int b24 :: .int b25 :: .int b26 :: .int b27 :: .ref (g 9) :: .int b29 :: .ref (g 10) :: .int b31 :: .int b32 :: .int b33 :: .ref (g 11) :: .ref (g 12) :: .ref (g 13) :: []))), ((g 0), .inl (cT 0, 288, .inl (a0)))] sz) := by
  refine m_of (y := yX9_count) (cc := cX9_count) (nL := 2) (ret := (some .int)) (D := D) (cT := cT) (av := [.ref h0, .int x]) (wi := [(h0, .inr (9, (.int b0 :: .ref (g 0) :: .ref (g 1) :: .ref (g 2) :: .ref (g 3) :: .int b5 :: .int b6 :: .int b7 :: .int b8 :: .int b9 :: .int b10 :: .int b11 :: .int b12 :: .int b13 :: .int b14 :: .ref (g 4) :: .ref (g 5) :: .int b17 :: .int b18 :: .int b19 :: .ref (g 6) :: .ref (g 7) :: .ref (g 8) :: .int b23 :: .int b24 :: .int b25 :: .int b26 :: .int b27 :: .ref (g 9) :: .int b29 :: .ref (g 10) :: .int b31 :: .int b32 :: .int b33 :: .ref (g 11) :: .ref (g 12) :: .ref (g 13) :: []))), ((g 0), .inl (cT 0, 288, .inl (a0)))]) (fun A => va_Qi (fun (r : Int32) (u : Int32) => (True)) (fun u t => RW D A ((fun u : Int32 => [(h0, .inr (9, (.int u :: .ref (g 0) :: .ref (g 1) :: .ref (g 2) :: .ref (g 3) :: .int b5 :: .int b6 :: .int b7 :: .int b8 :: .int b9 :: .int b10 :: .int b11 :: .int b12 :: .int b13 :: .int b14 :: .ref (g 4) :: .ref (g 5) :: .int b17 :: .int b18 :: .int b19 :: .ref (g 6) :: .ref (g 7) :: .ref (g 8) :: .int b23 :: .int b24 :: .int b25 :: .int b26 :: .int b27 :: .ref (g 9) :: .int b29 :: .ref (g 10) :: .int b31 :: .int b32 :: .int b33 :: .ref (g 11) :: .ref (g 12) :: .ref (g 13) :: []))), ((g 0), .inl (cT 0, 288, .inl (a0)))]) u) t) A) (by decide) (Nat.le_of_ble_eq_true rfl) ?_
  intro p e s m below meth c A hx hb hml hown htg hK hN hr hlk hnm hsz hP hD hS hA ls hl
  have hown : s.vm.findClass RX9 = some m.cls := hown
  have hl : lv_has ls 2 [(0, .ref h0), (1, .int x)] := hl
  have tc_m1 : ((-1) : Int32).toInt = (-1) := by decide
  have tc_0 : (0 : Int32).toInt = 0 := by decide
  have tc_2 : (2 : Int32).toInt = 2 := by decide
  have tc_9 : (9 : Int32).toInt = 9 := by decide
  have tc_16 : (16 : Int32).toInt = 16 := by decide
  have tc_80 : (80 : Int32).toInt = 80 := by decide
  refine lv_aload_n hx hb dX9_count_0 rfl (lv_at hl 0 rfl) ?_
  refine lv_iconst (v := 0) hx hb dX9_count_1 (by decide) ?_
  refine va_put (D := D) (ci := 9) (v := .int 0) (ty := .int) (C := RX9) (T := TX9) (N := 37) hx hb htg gRX9 tyX9 tyX9_ok nmX9 hown hK hP hD hS 0 rfl rfl 0 (by decide) (htg _ wi_1150) (fun _ h9 => h9) rfl (by decide +kernel) rfl rfl (Nat.le_of_ble_eq_true rfl) dX9_count_2 (fun H locs hP hD hS => ?_)
  have hP : va_P D classes [(h0, .inr (9, (.int 0 :: .ref (g 0) :: .ref (g 1) :: .ref (g 2) :: .ref (g 3) :: .int b5 :: .int b6 :: .int b7 :: .int b8 :: .int b9 :: .int b10 :: .int b11 :: .int b12 :: .int b13 :: .int b14 :: .ref (g 4) :: .ref (g 5) :: .int b17 :: .int b18 :: .int b19 :: .ref (g 6) :: .ref (g 7) :: .ref (g 8) :: .int b23 :: .int b24 :: .int b25 :: .int b26 :: .int b27 :: .ref (g 9) :: .int b29 :: .ref (g 10) :: .int b31 :: .int b32 :: .int b33 :: .ref (g 11) :: .ref (g 12) :: .ref (g 13) :: []))), ((g 0), .inl (cT 0, 288, .inl (a0)))] _ := hP
  have hD : va_D A [(h0, .inr (9, (.int 0 :: .ref (g 0) :: .ref (g 1) :: .ref (g 2) :: .ref (g 3) :: .int b5 :: .int b6 :: .int b7 :: .int b8 :: .int b9 :: .int b10 :: .int b11 :: .int b12 :: .int b13 :: .int b14 :: .ref (g 4) :: .ref (g 5) :: .int b17 :: .int b18 :: .int b19 :: .ref (g 6) :: .ref (g 7) :: .ref (g 8) :: .int b23 :: .int b24 :: .int b25 :: .int b26 :: .int b27 :: .ref (g 9) :: .int b29 :: .ref (g 10) :: .int b31 :: .int b32 :: .int b33 :: .ref (g 11) :: .ref (g 12) :: .ref (g 13) :: []))), ((g 0), .inl (cT 0, 288, .inl (a0)))] := hD
  refine lv_iload_n hx hb dX9_count_5 rfl (lv_at hl 1 rfl) ?_
  have c_1 : (x.toInt < 2 ∨ 12 < x.toInt) ∨ x = 2 ∨ x = 3 ∨ x = 4 ∨ x = 5 ∨ x = 6 ∨ x = 7 ∨ x = 8 ∨ x = 9 ∨ x = 10 ∨ x = 11 ∨ x = 12 := by
    rcases (show (x.toInt < 2 ∨ 12 < x.toInt) ∨ x.toInt = 2 ∨ x.toInt = 3 ∨ x.toInt = 4 ∨ x.toInt = 5 ∨ x.toInt = 6 ∨ x.toInt = 7 ∨ x.toInt = 8 ∨ x.toInt = 9 ∨ x.toInt = 10 ∨ x.toInt = 11 ∨ x.toInt = 12 from by omega) with h | h | h | h | h | h | h | h | h | h | h | h
    · exact Or.inl h
    · exact Or.inr (Or.inl (i32_is (h.trans (by decide))))
    · exact Or.inr (Or.inr (Or.inl (i32_is (h.trans (by decide)))))
    · exact Or.inr (Or.inr (Or.inr (Or.inl (i32_is (h.trans (by decide))))))
    · exact Or.inr (Or.inr (Or.inr (Or.inr (Or.inl (i32_is (h.trans (by decide)))))))
    · exact Or.inr (Or.inr (Or.inr (Or.inr (Or.inr (Or.inl (i32_is (h.trans (by decide))))))))
    · exact Or.inr (Or.inr (Or.inr (Or.inr (Or.inr (Or.inr (Or.inl (i32_is (h.trans (by decide)))))))))
    · exact Or.inr (Or.inr (Or.inr (Or.inr (Or.inr (Or.inr (Or.inr (Or.inl (i32_is (h.trans (by decide))))))))))
    · exact Or.inr (Or.inr (Or.inr (Or.inr (Or.inr (Or.inr (Or.inr (Or.inr (Or.inl (i32_is (h.trans (by decide)))))))))))
    · exact Or.inr (Or.inr (Or.inr (Or.inr (Or.inr (Or.inr (Or.inr (Or.inr (Or.inr (Or.inl (i32_is (h.trans (by decide))))))))))))
    · exact Or.inr (Or.inr (Or.inr (Or.inr (Or.inr (Or.inr (Or.inr (Or.inr (Or.inr (Or.inr (Or.inl (i32_is (h.trans (by decide)))))))))))))
    · exact Or.inr (Or.inr (Or.inr (Or.inr (Or.inr (Or.inr (Or.inr (Or.inr (Or.inr (Or.inr (Or.inr (i32_is (h.trans (by decide)))))))))))))
  rcases c_1 with c_1 | c_1 | c_1 | c_1 | c_1 | c_1 | c_1 | c_1 | c_1 | c_1 | c_1 | c_1
  · refine lv_tableOut (tgt := 111) hx hb dX9_count_6 c_1 (by decide) ?_
    refine lv_iload_n hx hb dX9_count_111 rfl (lv_at hl 1 rfl) ?_
    refine lv_i2l (v := x.toInt64) hx hb dX9_count_112 rfl ?_
    refine lv_lconst (v := 0) hx hb dX9_count_113 (by decide) ?_
    refine lv_ldc2 (v := 8) hx hb hown (htg _ wi_1477) dX9_count_114 ?_
    have ilw_2 : (x.toInt64).toInt = x.toInt := i2l_i _
    refine xk_i (wr := [(h0, .inr (9, (.int 0 :: .ref (g 0) :: .ref (g 1) :: .ref (g 2) :: .ref (g 3) :: .int b5 :: .int b6 :: .int b7 :: .int b8 :: .int b9 :: .int b10 :: .int b11 :: .int b12 :: .int b13 :: .int b14 :: .ref (g 4) :: .ref (g 5) :: .int b17 :: .int b18 :: .int b19 :: .ref (g 6) :: .ref (g 7) :: .ref (g 8) :: .int b23 :: .int b24 :: .int b25 :: .int b26 :: .int b27 :: .ref (g 9) :: .int b29 :: .ref (g 10) :: .int b31 :: .int b32 :: .int b33 :: .ref (g 11) :: .ref (g 12) :: .ref (g 13) :: []))), ((g 0), .inl (cT 0, 288, .inl (a0)))]) (xr_S (n := 3) (As := [.long x.toInt64, .long 0, .long 8]) (rest := []) ⟨hx, hb, hml, hown, htg⟩ hK hN hP hD hS hA [] rfl (by decide) (m_within l D cT _ (x.toInt64) (0) (8) (x.toInt) (0) (8) (i2l_i _) (by decide) (by decide)) wi_1270 wi_1271 wi_131 wi_1272 ⟨rfl, by decide +kernel⟩ ⟨Nat.le_of_ble_eq_true rfl, Nat.le_of_ble_eq_true rfl⟩ rfl hl.1 rfl (Nat.le_of_ble_eq_true rfl) dX9_count_117 ⟨Nat.le_of_ble_eq_true rfl, Nat.le_of_ble_eq_true rfl⟩) hP hD hS hA [] [0, 1] rfl rfl (by decide) (by decide) (fun r_4 u_3 H locs hwr_4 hP hD hS => ?_)
    have hP : va_P D classes [(h0, .inr (9, (.int 0 :: .ref (g 0) :: .ref (g 1) :: .ref (g 2) :: .ref (g 3) :: .int b5 :: .int b6 :: .int b7 :: .int b8 :: .int b9 :: .int b10 :: .int b11 :: .int b12 :: .int b13 :: .int b14 :: .ref (g 4) :: .ref (g 5) :: .int b17 :: .int b18 :: .int b19 :: .ref (g 6) :: .ref (g 7) :: .ref (g 8) :: .int b23 :: .int b24 :: .int b25 :: .int b26 :: .int b27 :: .ref (g 9) :: .int b29 :: .ref (g 10) :: .int b31 :: .int b32 :: .int b33 :: .ref (g 11) :: .ref (g 12) :: .ref (g 13) :: []))), ((g 0), .inl (cT 0, 288, .inl (a0)))] _ := hP
    have hD : va_D A [(h0, .inr (9, (.int 0 :: .ref (g 0) :: .ref (g 1) :: .ref (g 2) :: .ref (g 3) :: .int b5 :: .int b6 :: .int b7 :: .int b8 :: .int b9 :: .int b10 :: .int b11 :: .int b12 :: .int b13 :: .int b14 :: .ref (g 4) :: .ref (g 5) :: .int b17 :: .int b18 :: .int b19 :: .ref (g 6) :: .ref (g 7) :: .ref (g 8) :: .int b23 :: .int b24 :: .int b25 :: .int b26 :: .int b27 :: .ref (g 9) :: .int b29 :: .ref (g 10) :: .int b31 :: .int b32 :: .int b33 :: .ref (g 11) :: .ref (g 12) :: .ref (g 13) :: []))), ((g 0), .inl (cT 0, 288, .inl (a0)))] := hD
    have qr_4_0 : Imp (¬ r_4.toInt = 0) (0 ≤ x.toInt ∧ x.toInt ≤ 8) := hwr_4.1
    have qr_4_1 : r_4 = 0 ∨ r_4 = 1 := hwr_4.2.1
    refine lv_if_eq (tgt := 132) hx hb dX9_count_120 (by decide) (fun c_5 => ?_) (fun c_5 => ?_)
    · have ic_5 : r_4.toInt = 0 := ieq c_5 (rfl) (by decide)
      refine lv_iconst (v := (-1)) hx hb dX9_count_132 (by decide) ?_
      exact x_iret hx hb hr hlk hP hD hS [0, 1] ((0)) rfl (by decide) trivial (by decide) (by decide) dX9_count_133
    · have ic_5 : ¬ r_4.toInt = 0 := ine c_5 (rfl) (by decide)
      have kqr_4_0 : 0 ≤ x.toInt ∧ x.toInt ≤ 8 := qr_4_0 ic_5
      refine lv_aload_n hx hb dX9_count_123 rfl (lv_at hl 0 rfl) ?_
      refine va_get (D := D) (ci := 9) (v := .ref (g 0)) (C := RX9) (T := TX9) (N := 37) hx hb htg gRX9 hown hK hP 0 rfl rfl 1 (by decide) (htg _ wi_1151) (fun _ h9 => h9) rfl dX9_count_124 ?_
      refine lv_iload_n hx hb dX9_count_127 rfl (lv_at hl 1 rfl) ?_
      refine va_iald hx hb hK hP 1 0 rfl rfl (vp_in_iff.mpr (by omega)) dX9_count_128 ?_
      refine lv_topi (fun z_6 ez_6 => ?_)
      refine lv_goto (tgt := 133) hx hb dX9_count_129 (by decide) ?_
      exact x_iret hx hb hr hlk hP hD hS [0, 1] ((0)) rfl (by decide) trivial (by decide) (by decide) dX9_count_133
  · have ic_1 : x.toInt = 2 := ieq c_1 rfl (by decide)
    refine lv_is (y := 2) c_1 ?_
    refine lv_tableIn (off := 85) (tgt := 91) hx hb dX9_count_6 (by decide) (by decide) (by decide) (by decide) ?_
    refine lv_aload_n hx hb dX9_count_91 rfl (lv_at hl 0 rfl) ?_
    refine va_get (D := D) (ci := 9) (v := .ref (g 0)) (C := RX9) (T := TX9) (N := 37) hx hb htg gRX9 hown hK hP 0 rfl rfl 1 (by decide) (htg _ wi_1151) (fun _ h9 => h9) rfl dX9_count_92 ?_
    refine lv_iconst (v := 0) hx hb dX9_count_95 (by decide) ?_
    refine va_iald hx hb hK hP 1 0 rfl rfl (by unfold vp_in; decide) dX9_count_96 ?_
    refine lv_topi (fun z_7 ez_7 => ?_)
    have iz_7 : 0 ≤ z_7.toInt ∧ z_7.toInt ≤ 16 := by rw [ez_7]; exact rd0 pa0 (by decide) rfl
    have nz_7 : z_7.toInt = ((a0) 0).toInt := by rw [ez_7]; rfl
    refine lv_if_ne (tgt := 104) hx hb dX9_count_97 (by decide) (fun c_8 => ?_) (fun c_8 => ?_)
    · have ic_8 : ¬ z_7.toInt = 0 := ine c_8 (rfl) (by decide)
      refine lv_aload_n hx hb dX9_count_104 rfl (lv_at hl 0 rfl) ?_
      refine va_get (D := D) (ci := 9) (v := .ref (g 0)) (C := RX9) (T := TX9) (N := 37) hx hb htg gRX9 hown hK hP 0 rfl rfl 1 (by decide) (htg _ wi_1151) (fun _ h9 => h9) rfl dX9_count_105 ?_
      refine lv_iconst (v := 2) hx hb dX9_count_108 (by decide) ?_
      refine va_iald hx hb hK hP 1 0 rfl rfl (by unfold vp_in; decide) dX9_count_109 ?_
      refine lv_topi (fun z_9 ez_9 => ?_)
      have iz_9 : 0 ≤ z_9.toInt ∧ z_9.toInt ≤ 15 := by rw [ez_9]; exact rd2 pa0 (by decide) rfl
      have nz_9 : z_9.toInt = ((a0) 2).toInt := by rw [ez_9]; rfl
      exact x_iret hx hb hr hlk hP hD hS [0, 1] ((0)) rfl (by decide) trivial (by decide) (by decide) dX9_count_110
    · have ic_8 : z_7.toInt = 0 := ieq c_8 (rfl) (by decide)
      refine lv_iconst (v := (-1)) hx hb dX9_count_100 (by decide) ?_
      refine lv_goto (tgt := 110) hx hb dX9_count_101 (by decide) ?_
      exact x_iret hx hb hr hlk hP hD hS [0, 1] ((0)) rfl (by decide) trivial (by decide) (by decide) dX9_count_110
  · have ic_1 : x.toInt = 3 := ieq c_1 rfl (by decide)
    refine lv_is (y := 3) c_1 ?_
    refine lv_tableIn (off := 105) (tgt := 111) hx hb dX9_count_6 (by decide) (by decide) (by decide) (by decide) ?_
    refine lv_iload_n hx hb dX9_count_111 rfl (lv_at hl 1 rfl) ?_
    refine lv_i2l (v := x.toInt64) hx hb dX9_count_112 rfl ?_
    refine lv_lconst (v := 0) hx hb dX9_count_113 (by decide) ?_
    refine lv_ldc2 (v := 8) hx hb hown (htg _ wi_1477) dX9_count_114 ?_
    have ilw_10 : (x.toInt64).toInt = x.toInt := i2l_i _
    refine xk_i (wr := [(h0, .inr (9, (.int 0 :: .ref (g 0) :: .ref (g 1) :: .ref (g 2) :: .ref (g 3) :: .int b5 :: .int b6 :: .int b7 :: .int b8 :: .int b9 :: .int b10 :: .int b11 :: .int b12 :: .int b13 :: .int b14 :: .ref (g 4) :: .ref (g 5) :: .int b17 :: .int b18 :: .int b19 :: .ref (g 6) :: .ref (g 7) :: .ref (g 8) :: .int b23 :: .int b24 :: .int b25 :: .int b26 :: .int b27 :: .ref (g 9) :: .int b29 :: .ref (g 10) :: .int b31 :: .int b32 :: .int b33 :: .ref (g 11) :: .ref (g 12) :: .ref (g 13) :: []))), ((g 0), .inl (cT 0, 288, .inl (a0)))]) (xr_S (n := 3) (As := [.long x.toInt64, .long 0, .long 8]) (rest := []) ⟨hx, hb, hml, hown, htg⟩ hK hN hP hD hS hA [] rfl (by decide) (m_within l D cT _ (x.toInt64) (0) (8) (x.toInt) (0) (8) (i2l_i _) (by decide) (by decide)) wi_1270 wi_1271 wi_131 wi_1272 ⟨rfl, by decide +kernel⟩ ⟨Nat.le_of_ble_eq_true rfl, Nat.le_of_ble_eq_true rfl⟩ rfl hl.1 rfl (Nat.le_of_ble_eq_true rfl) dX9_count_117 ⟨Nat.le_of_ble_eq_true rfl, Nat.le_of_ble_eq_true rfl⟩) hP hD hS hA [] [0, 1] rfl rfl (by decide) (by decide) (fun r_12 u_11 H locs hwr_12 hP hD hS => ?_)
    have hP : va_P D classes [(h0, .inr (9, (.int 0 :: .ref (g 0) :: .ref (g 1) :: .ref (g 2) :: .ref (g 3) :: .int b5 :: .int b6 :: .int b7 :: .int b8 :: .int b9 :: .int b10 :: .int b11 :: .int b12 :: .int b13 :: .int b14 :: .ref (g 4) :: .ref (g 5) :: .int b17 :: .int b18 :: .int b19 :: .ref (g 6) :: .ref (g 7) :: .ref (g 8) :: .int b23 :: .int b24 :: .int b25 :: .int b26 :: .int b27 :: .ref (g 9) :: .int b29 :: .ref (g 10) :: .int b31 :: .int b32 :: .int b33 :: .ref (g 11) :: .ref (g 12) :: .ref (g 13) :: []))), ((g 0), .inl (cT 0, 288, .inl (a0)))] _ := hP
    have hD : va_D A [(h0, .inr (9, (.int 0 :: .ref (g 0) :: .ref (g 1) :: .ref (g 2) :: .ref (g 3) :: .int b5 :: .int b6 :: .int b7 :: .int b8 :: .int b9 :: .int b10 :: .int b11 :: .int b12 :: .int b13 :: .int b14 :: .ref (g 4) :: .ref (g 5) :: .int b17 :: .int b18 :: .int b19 :: .ref (g 6) :: .ref (g 7) :: .ref (g 8) :: .int b23 :: .int b24 :: .int b25 :: .int b26 :: .int b27 :: .ref (g 9) :: .int b29 :: .ref (g 10) :: .int b31 :: .int b32 :: .int b33 :: .ref (g 11) :: .ref (g 12) :: .ref (g 13) :: []))), ((g 0), .inl (cT 0, 288, .inl (a0)))] := hD
    have qr_12_0 : Imp (¬ r_12.toInt = 0) (0 ≤ x.toInt ∧ x.toInt ≤ 8) := hwr_12.1
    have qr_12_1 : r_12 = 0 ∨ r_12 = 1 := hwr_12.2.1
    refine lv_if_eq (tgt := 132) hx hb dX9_count_120 (by decide) (fun c_13 => ?_) (fun c_13 => ?_)
    · have ic_13 : r_12.toInt = 0 := ieq c_13 (rfl) (by decide)
      refine lv_iconst (v := (-1)) hx hb dX9_count_132 (by decide) ?_
      exact x_iret hx hb hr hlk hP hD hS [0, 1] ((0)) rfl (by decide) trivial (by decide) (by decide) dX9_count_133
    · have ic_13 : ¬ r_12.toInt = 0 := ine c_13 (rfl) (by decide)
      have kqr_12_0 : 0 ≤ x.toInt ∧ x.toInt ≤ 8 := qr_12_0 ic_13
      refine lv_aload_n hx hb dX9_count_123 rfl (lv_at hl 0 rfl) ?_
      refine va_get (D := D) (ci := 9) (v := .ref (g 0)) (C := RX9) (T := TX9) (N := 37) hx hb htg gRX9 hown hK hP 0 rfl rfl 1 (by decide) (htg _ wi_1151) (fun _ h9 => h9) rfl dX9_count_124 ?_
      refine lv_iload_n hx hb dX9_count_127 rfl (lv_at hl 1 rfl) ?_
      refine va_iald hx hb hK hP 1 0 rfl rfl (vp_in_iff.mpr (by omega)) dX9_count_128 ?_
      refine lv_topi (fun z_14 ez_14 => ?_)
      refine lv_goto (tgt := 133) hx hb dX9_count_129 (by decide) ?_
      exact x_iret hx hb hr hlk hP hD hS [0, 1] ((0)) rfl (by decide) trivial (by decide) (by decide) dX9_count_133
  · have ic_1 : x.toInt = 4 := ieq c_1 rfl (by decide)
    refine lv_is (y := 4) c_1 ?_
    refine lv_tableIn (off := 105) (tgt := 111) hx hb dX9_count_6 (by decide) (by decide) (by decide) (by decide) ?_
    refine lv_iload_n hx hb dX9_count_111 rfl (lv_at hl 1 rfl) ?_
    refine lv_i2l (v := x.toInt64) hx hb dX9_count_112 rfl ?_
    refine lv_lconst (v := 0) hx hb dX9_count_113 (by decide) ?_
    refine lv_ldc2 (v := 8) hx hb hown (htg _ wi_1477) dX9_count_114 ?_
    have ilw_15 : (x.toInt64).toInt = x.toInt := i2l_i _
    refine xk_i (wr := [(h0, .inr (9, (.int 0 :: .ref (g 0) :: .ref (g 1) :: .ref (g 2) :: .ref (g 3) :: .int b5 :: .int b6 :: .int b7 :: .int b8 :: .int b9 :: .int b10 :: .int b11 :: .int b12 :: .int b13 :: .int b14 :: .ref (g 4) :: .ref (g 5) :: .int b17 :: .int b18 :: .int b19 :: .ref (g 6) :: .ref (g 7) :: .ref (g 8) :: .int b23 :: .int b24 :: .int b25 :: .int b26 :: .int b27 :: .ref (g 9) :: .int b29 :: .ref (g 10) :: .int b31 :: .int b32 :: .int b33 :: .ref (g 11) :: .ref (g 12) :: .ref (g 13) :: []))), ((g 0), .inl (cT 0, 288, .inl (a0)))]) (xr_S (n := 3) (As := [.long x.toInt64, .long 0, .long 8]) (rest := []) ⟨hx, hb, hml, hown, htg⟩ hK hN hP hD hS hA [] rfl (by decide) (m_within l D cT _ (x.toInt64) (0) (8) (x.toInt) (0) (8) (i2l_i _) (by decide) (by decide)) wi_1270 wi_1271 wi_131 wi_1272 ⟨rfl, by decide +kernel⟩ ⟨Nat.le_of_ble_eq_true rfl, Nat.le_of_ble_eq_true rfl⟩ rfl hl.1 rfl (Nat.le_of_ble_eq_true rfl) dX9_count_117 ⟨Nat.le_of_ble_eq_true rfl, Nat.le_of_ble_eq_true rfl⟩) hP hD hS hA [] [0, 1] rfl rfl (by decide) (by decide) (fun r_17 u_16 H locs hwr_17 hP hD hS => ?_)
    have hP : va_P D classes [(h0, .inr (9, (.int 0 :: .ref (g 0) :: .ref (g 1) :: .ref (g 2) :: .ref (g 3) :: .int b5 :: .int b6 :: .int b7 :: .int b8 :: .int b9 :: .int b10 :: .int b11 :: .int b12 :: .int b13 :: .int b14 :: .ref (g 4) :: .ref (g 5) :: .int b17 :: .int b18 :: .int b19 :: .ref (g 6) :: .ref (g 7) :: .ref (g 8) :: .int b23 :: .int b24 :: .int b25 :: .int b26 :: .int b27 :: .ref (g 9) :: .int b29 :: .ref (g 10) :: .int b31 :: .int b32 :: .int b33 :: .ref (g 11) :: .ref (g 12) :: .ref (g 13) :: []))), ((g 0), .inl (cT 0, 288, .inl (a0)))] _ := hP
    have hD : va_D A [(h0, .inr (9, (.int 0 :: .ref (g 0) :: .ref (g 1) :: .ref (g 2) :: .ref (g 3) :: .int b5 :: .int b6 :: .int b7 :: .int b8 :: .int b9 :: .int b10 :: .int b11 :: .int b12 :: .int b13 :: .int b14 :: .ref (g 4) :: .ref (g 5) :: .int b17 :: .int b18 :: .int b19 :: .ref (g 6) :: .ref (g 7) :: .ref (g 8) :: .int b23 :: .int b24 :: .int b25 :: .int b26 :: .int b27 :: .ref (g 9) :: .int b29 :: .ref (g 10) :: .int b31 :: .int b32 :: .int b33 :: .ref (g 11) :: .ref (g 12) :: .ref (g 13) :: []))), ((g 0), .inl (cT 0, 288, .inl (a0)))] := hD
    have qr_17_0 : Imp (¬ r_17.toInt = 0) (0 ≤ x.toInt ∧ x.toInt ≤ 8) := hwr_17.1
    have qr_17_1 : r_17 = 0 ∨ r_17 = 1 := hwr_17.2.1
    refine lv_if_eq (tgt := 132) hx hb dX9_count_120 (by decide) (fun c_18 => ?_) (fun c_18 => ?_)
    · have ic_18 : r_17.toInt = 0 := ieq c_18 (rfl) (by decide)
      refine lv_iconst (v := (-1)) hx hb dX9_count_132 (by decide) ?_
      exact x_iret hx hb hr hlk hP hD hS [0, 1] ((0)) rfl (by decide) trivial (by decide) (by decide) dX9_count_133
    · have ic_18 : ¬ r_17.toInt = 0 := ine c_18 (rfl) (by decide)
      have kqr_17_0 : 0 ≤ x.toInt ∧ x.toInt ≤ 8 := qr_17_0 ic_18
      refine lv_aload_n hx hb dX9_count_123 rfl (lv_at hl 0 rfl) ?_
      refine va_get (D := D) (ci := 9) (v := .ref (g 0)) (C := RX9) (T := TX9) (N := 37) hx hb htg gRX9 hown hK hP 0 rfl rfl 1 (by decide) (htg _ wi_1151) (fun _ h9 => h9) rfl dX9_count_124 ?_
      refine lv_iload_n hx hb dX9_count_127 rfl (lv_at hl 1 rfl) ?_
      refine va_iald hx hb hK hP 1 0 rfl rfl (vp_in_iff.mpr (by omega)) dX9_count_128 ?_
      refine lv_topi (fun z_19 ez_19 => ?_)
      refine lv_goto (tgt := 133) hx hb dX9_count_129 (by decide) ?_
      exact x_iret hx hb hr hlk hP hD hS [0, 1] ((0)) rfl (by decide) trivial (by decide) (by decide) dX9_count_133
  · have ic_1 : x.toInt = 5 := ieq c_1 rfl (by decide)
    refine lv_is (y := 5) c_1 ?_
    refine lv_tableIn (off := 105) (tgt := 111) hx hb dX9_count_6 (by decide) (by decide) (by decide) (by decide) ?_
    refine lv_iload_n hx hb dX9_count_111 rfl (lv_at hl 1 rfl) ?_
    refine lv_i2l (v := x.toInt64) hx hb dX9_count_112 rfl ?_
    refine lv_lconst (v := 0) hx hb dX9_count_113 (by decide) ?_
    refine lv_ldc2 (v := 8) hx hb hown (htg _ wi_1477) dX9_count_114 ?_
    have ilw_20 : (x.toInt64).toInt = x.toInt := i2l_i _
    refine xk_i (wr := [(h0, .inr (9, (.int 0 :: .ref (g 0) :: .ref (g 1) :: .ref (g 2) :: .ref (g 3) :: .int b5 :: .int b6 :: .int b7 :: .int b8 :: .int b9 :: .int b10 :: .int b11 :: .int b12 :: .int b13 :: .int b14 :: .ref (g 4) :: .ref (g 5) :: .int b17 :: .int b18 :: .int b19 :: .ref (g 6) :: .ref (g 7) :: .ref (g 8) :: .int b23 :: .int b24 :: .int b25 :: .int b26 :: .int b27 :: .ref (g 9) :: .int b29 :: .ref (g 10) :: .int b31 :: .int b32 :: .int b33 :: .ref (g 11) :: .ref (g 12) :: .ref (g 13) :: []))), ((g 0), .inl (cT 0, 288, .inl (a0)))]) (xr_S (n := 3) (As := [.long x.toInt64, .long 0, .long 8]) (rest := []) ⟨hx, hb, hml, hown, htg⟩ hK hN hP hD hS hA [] rfl (by decide) (m_within l D cT _ (x.toInt64) (0) (8) (x.toInt) (0) (8) (i2l_i _) (by decide) (by decide)) wi_1270 wi_1271 wi_131 wi_1272 ⟨rfl, by decide +kernel⟩ ⟨Nat.le_of_ble_eq_true rfl, Nat.le_of_ble_eq_true rfl⟩ rfl hl.1 rfl (Nat.le_of_ble_eq_true rfl) dX9_count_117 ⟨Nat.le_of_ble_eq_true rfl, Nat.le_of_ble_eq_true rfl⟩) hP hD hS hA [] [0, 1] rfl rfl (by decide) (by decide) (fun r_22 u_21 H locs hwr_22 hP hD hS => ?_)
    have hP : va_P D classes [(h0, .inr (9, (.int 0 :: .ref (g 0) :: .ref (g 1) :: .ref (g 2) :: .ref (g 3) :: .int b5 :: .int b6 :: .int b7 :: .int b8 :: .int b9 :: .int b10 :: .int b11 :: .int b12 :: .int b13 :: .int b14 :: .ref (g 4) :: .ref (g 5) :: .int b17 :: .int b18 :: .int b19 :: .ref (g 6) :: .ref (g 7) :: .ref (g 8) :: .int b23 :: .int b24 :: .int b25 :: .int b26 :: .int b27 :: .ref (g 9) :: .int b29 :: .ref (g 10) :: .int b31 :: .int b32 :: .int b33 :: .ref (g 11) :: .ref (g 12) :: .ref (g 13) :: []))), ((g 0), .inl (cT 0, 288, .inl (a0)))] _ := hP
    have hD : va_D A [(h0, .inr (9, (.int 0 :: .ref (g 0) :: .ref (g 1) :: .ref (g 2) :: .ref (g 3) :: .int b5 :: .int b6 :: .int b7 :: .int b8 :: .int b9 :: .int b10 :: .int b11 :: .int b12 :: .int b13 :: .int b14 :: .ref (g 4) :: .ref (g 5) :: .int b17 :: .int b18 :: .int b19 :: .ref (g 6) :: .ref (g 7) :: .ref (g 8) :: .int b23 :: .int b24 :: .int b25 :: .int b26 :: .int b27 :: .ref (g 9) :: .int b29 :: .ref (g 10) :: .int b31 :: .int b32 :: .int b33 :: .ref (g 11) :: .ref (g 12) :: .ref (g 13) :: []))), ((g 0), .inl (cT 0, 288, .inl (a0)))] := hD
    have qr_22_0 : Imp (¬ r_22.toInt = 0) (0 ≤ x.toInt ∧ x.toInt ≤ 8) := hwr_22.1
    have qr_22_1 : r_22 = 0 ∨ r_22 = 1 := hwr_22.2.1
    refine lv_if_eq (tgt := 132) hx hb dX9_count_120 (by decide) (fun c_23 => ?_) (fun c_23 => ?_)
    · have ic_23 : r_22.toInt = 0 := ieq c_23 (rfl) (by decide)
      refine lv_iconst (v := (-1)) hx hb dX9_count_132 (by decide) ?_
      exact x_iret hx hb hr hlk hP hD hS [0, 1] ((0)) rfl (by decide) trivial (by decide) (by decide) dX9_count_133
    · have ic_23 : ¬ r_22.toInt = 0 := ine c_23 (rfl) (by decide)
      have kqr_22_0 : 0 ≤ x.toInt ∧ x.toInt ≤ 8 := qr_22_0 ic_23
      refine lv_aload_n hx hb dX9_count_123 rfl (lv_at hl 0 rfl) ?_
      refine va_get (D := D) (ci := 9) (v := .ref (g 0)) (C := RX9) (T := TX9) (N := 37) hx hb htg gRX9 hown hK hP 0 rfl rfl 1 (by decide) (htg _ wi_1151) (fun _ h9 => h9) rfl dX9_count_124 ?_
      refine lv_iload_n hx hb dX9_count_127 rfl (lv_at hl 1 rfl) ?_
      refine va_iald hx hb hK hP 1 0 rfl rfl (vp_in_iff.mpr (by omega)) dX9_count_128 ?_
      refine lv_topi (fun z_24 ez_24 => ?_)
      refine lv_goto (tgt := 133) hx hb dX9_count_129 (by decide) ?_
      exact x_iret hx hb hr hlk hP hD hS [0, 1] ((0)) rfl (by decide) trivial (by decide) (by decide) dX9_count_133
  · have ic_1 : x.toInt = 6 := ieq c_1 rfl (by decide)
    refine lv_is (y := 6) c_1 ?_
    refine lv_tableIn (off := 105) (tgt := 111) hx hb dX9_count_6 (by decide) (by decide) (by decide) (by decide) ?_
    refine lv_iload_n hx hb dX9_count_111 rfl (lv_at hl 1 rfl) ?_
    refine lv_i2l (v := x.toInt64) hx hb dX9_count_112 rfl ?_
    refine lv_lconst (v := 0) hx hb dX9_count_113 (by decide) ?_
    refine lv_ldc2 (v := 8) hx hb hown (htg _ wi_1477) dX9_count_114 ?_
    have ilw_25 : (x.toInt64).toInt = x.toInt := i2l_i _
    refine xk_i (wr := [(h0, .inr (9, (.int 0 :: .ref (g 0) :: .ref (g 1) :: .ref (g 2) :: .ref (g 3) :: .int b5 :: .int b6 :: .int b7 :: .int b8 :: .int b9 :: .int b10 :: .int b11 :: .int b12 :: .int b13 :: .int b14 :: .ref (g 4) :: .ref (g 5) :: .int b17 :: .int b18 :: .int b19 :: .ref (g 6) :: .ref (g 7) :: .ref (g 8) :: .int b23 :: .int b24 :: .int b25 :: .int b26 :: .int b27 :: .ref (g 9) :: .int b29 :: .ref (g 10) :: .int b31 :: .int b32 :: .int b33 :: .ref (g 11) :: .ref (g 12) :: .ref (g 13) :: []))), ((g 0), .inl (cT 0, 288, .inl (a0)))]) (xr_S (n := 3) (As := [.long x.toInt64, .long 0, .long 8]) (rest := []) ⟨hx, hb, hml, hown, htg⟩ hK hN hP hD hS hA [] rfl (by decide) (m_within l D cT _ (x.toInt64) (0) (8) (x.toInt) (0) (8) (i2l_i _) (by decide) (by decide)) wi_1270 wi_1271 wi_131 wi_1272 ⟨rfl, by decide +kernel⟩ ⟨Nat.le_of_ble_eq_true rfl, Nat.le_of_ble_eq_true rfl⟩ rfl hl.1 rfl (Nat.le_of_ble_eq_true rfl) dX9_count_117 ⟨Nat.le_of_ble_eq_true rfl, Nat.le_of_ble_eq_true rfl⟩) hP hD hS hA [] [0, 1] rfl rfl (by decide) (by decide) (fun r_27 u_26 H locs hwr_27 hP hD hS => ?_)
    have hP : va_P D classes [(h0, .inr (9, (.int 0 :: .ref (g 0) :: .ref (g 1) :: .ref (g 2) :: .ref (g 3) :: .int b5 :: .int b6 :: .int b7 :: .int b8 :: .int b9 :: .int b10 :: .int b11 :: .int b12 :: .int b13 :: .int b14 :: .ref (g 4) :: .ref (g 5) :: .int b17 :: .int b18 :: .int b19 :: .ref (g 6) :: .ref (g 7) :: .ref (g 8) :: .int b23 :: .int b24 :: .int b25 :: .int b26 :: .int b27 :: .ref (g 9) :: .int b29 :: .ref (g 10) :: .int b31 :: .int b32 :: .int b33 :: .ref (g 11) :: .ref (g 12) :: .ref (g 13) :: []))), ((g 0), .inl (cT 0, 288, .inl (a0)))] _ := hP
    have hD : va_D A [(h0, .inr (9, (.int 0 :: .ref (g 0) :: .ref (g 1) :: .ref (g 2) :: .ref (g 3) :: .int b5 :: .int b6 :: .int b7 :: .int b8 :: .int b9 :: .int b10 :: .int b11 :: .int b12 :: .int b13 :: .int b14 :: .ref (g 4) :: .ref (g 5) :: .int b17 :: .int b18 :: .int b19 :: .ref (g 6) :: .ref (g 7) :: .ref (g 8) :: .int b23 :: .int b24 :: .int b25 :: .int b26 :: .int b27 :: .ref (g 9) :: .int b29 :: .ref (g 10) :: .int b31 :: .int b32 :: .int b33 :: .ref (g 11) :: .ref (g 12) :: .ref (g 13) :: []))), ((g 0), .inl (cT 0, 288, .inl (a0)))] := hD
    have qr_27_0 : Imp (¬ r_27.toInt = 0) (0 ≤ x.toInt ∧ x.toInt ≤ 8) := hwr_27.1
    have qr_27_1 : r_27 = 0 ∨ r_27 = 1 := hwr_27.2.1
    refine lv_if_eq (tgt := 132) hx hb dX9_count_120 (by decide) (fun c_28 => ?_) (fun c_28 => ?_)
    · have ic_28 : r_27.toInt = 0 := ieq c_28 (rfl) (by decide)
      refine lv_iconst (v := (-1)) hx hb dX9_count_132 (by decide) ?_
      exact x_iret hx hb hr hlk hP hD hS [0, 1] ((0)) rfl (by decide) trivial (by decide) (by decide) dX9_count_133
    · have ic_28 : ¬ r_27.toInt = 0 := ine c_28 (rfl) (by decide)
      have kqr_27_0 : 0 ≤ x.toInt ∧ x.toInt ≤ 8 := qr_27_0 ic_28
      refine lv_aload_n hx hb dX9_count_123 rfl (lv_at hl 0 rfl) ?_
      refine va_get (D := D) (ci := 9) (v := .ref (g 0)) (C := RX9) (T := TX9) (N := 37) hx hb htg gRX9 hown hK hP 0 rfl rfl 1 (by decide) (htg _ wi_1151) (fun _ h9 => h9) rfl dX9_count_124 ?_
      refine lv_iload_n hx hb dX9_count_127 rfl (lv_at hl 1 rfl) ?_
      refine va_iald hx hb hK hP 1 0 rfl rfl (vp_in_iff.mpr (by omega)) dX9_count_128 ?_
      refine lv_topi (fun z_29 ez_29 => ?_)
      refine lv_goto (tgt := 133) hx hb dX9_count_129 (by decide) ?_
      exact x_iret hx hb hr hlk hP hD hS [0, 1] ((0)) rfl (by decide) trivial (by decide) (by decide) dX9_count_133
  · have ic_1 : x.toInt = 7 := ieq c_1 rfl (by decide)
    refine lv_is (y := 7) c_1 ?_
    refine lv_tableIn (off := 105) (tgt := 111) hx hb dX9_count_6 (by decide) (by decide) (by decide) (by decide) ?_
    refine lv_iload_n hx hb dX9_count_111 rfl (lv_at hl 1 rfl) ?_
    refine lv_i2l (v := x.toInt64) hx hb dX9_count_112 rfl ?_
    refine lv_lconst (v := 0) hx hb dX9_count_113 (by decide) ?_
    refine lv_ldc2 (v := 8) hx hb hown (htg _ wi_1477) dX9_count_114 ?_
    have ilw_30 : (x.toInt64).toInt = x.toInt := i2l_i _
    refine xk_i (wr := [(h0, .inr (9, (.int 0 :: .ref (g 0) :: .ref (g 1) :: .ref (g 2) :: .ref (g 3) :: .int b5 :: .int b6 :: .int b7 :: .int b8 :: .int b9 :: .int b10 :: .int b11 :: .int b12 :: .int b13 :: .int b14 :: .ref (g 4) :: .ref (g 5) :: .int b17 :: .int b18 :: .int b19 :: .ref (g 6) :: .ref (g 7) :: .ref (g 8) :: .int b23 :: .int b24 :: .int b25 :: .int b26 :: .int b27 :: .ref (g 9) :: .int b29 :: .ref (g 10) :: .int b31 :: .int b32 :: .int b33 :: .ref (g 11) :: .ref (g 12) :: .ref (g 13) :: []))), ((g 0), .inl (cT 0, 288, .inl (a0)))]) (xr_S (n := 3) (As := [.long x.toInt64, .long 0, .long 8]) (rest := []) ⟨hx, hb, hml, hown, htg⟩ hK hN hP hD hS hA [] rfl (by decide) (m_within l D cT _ (x.toInt64) (0) (8) (x.toInt) (0) (8) (i2l_i _) (by decide) (by decide)) wi_1270 wi_1271 wi_131 wi_1272 ⟨rfl, by decide +kernel⟩ ⟨Nat.le_of_ble_eq_true rfl, Nat.le_of_ble_eq_true rfl⟩ rfl hl.1 rfl (Nat.le_of_ble_eq_true rfl) dX9_count_117 ⟨Nat.le_of_ble_eq_true rfl, Nat.le_of_ble_eq_true rfl⟩) hP hD hS hA [] [0, 1] rfl rfl (by decide) (by decide) (fun r_32 u_31 H locs hwr_32 hP hD hS => ?_)
    have hP : va_P D classes [(h0, .inr (9, (.int 0 :: .ref (g 0) :: .ref (g 1) :: .ref (g 2) :: .ref (g 3) :: .int b5 :: .int b6 :: .int b7 :: .int b8 :: .int b9 :: .int b10 :: .int b11 :: .int b12 :: .int b13 :: .int b14 :: .ref (g 4) :: .ref (g 5) :: .int b17 :: .int b18 :: .int b19 :: .ref (g 6) :: .ref (g 7) :: .ref (g 8) :: .int b23 :: .int b24 :: .int b25 :: .int b26 :: .int b27 :: .ref (g 9) :: .int b29 :: .ref (g 10) :: .int b31 :: .int b32 :: .int b33 :: .ref (g 11) :: .ref (g 12) :: .ref (g 13) :: []))), ((g 0), .inl (cT 0, 288, .inl (a0)))] _ := hP
    have hD : va_D A [(h0, .inr (9, (.int 0 :: .ref (g 0) :: .ref (g 1) :: .ref (g 2) :: .ref (g 3) :: .int b5 :: .int b6 :: .int b7 :: .int b8 :: .int b9 :: .int b10 :: .int b11 :: .int b12 :: .int b13 :: .int b14 :: .ref (g 4) :: .ref (g 5) :: .int b17 :: .int b18 :: .int b19 :: .ref (g 6) :: .ref (g 7) :: .ref (g 8) :: .int b23 :: .int b24 :: .int b25 :: .int b26 :: .int b27 :: .ref (g 9) :: .int b29 :: .ref (g 10) :: .int b31 :: .int b32 :: .int b33 :: .ref (g 11) :: .ref (g 12) :: .ref (g 13) :: []))), ((g 0), .inl (cT 0, 288, .inl (a0)))] := hD
    have qr_32_0 : Imp (¬ r_32.toInt = 0) (0 ≤ x.toInt ∧ x.toInt ≤ 8) := hwr_32.1
    have qr_32_1 : r_32 = 0 ∨ r_32 = 1 := hwr_32.2.1
    refine lv_if_eq (tgt := 132) hx hb dX9_count_120 (by decide) (fun c_33 => ?_) (fun c_33 => ?_)
    · have ic_33 : r_32.toInt = 0 := ieq c_33 (rfl) (by decide)
      refine lv_iconst (v := (-1)) hx hb dX9_count_132 (by decide) ?_
      exact x_iret hx hb hr hlk hP hD hS [0, 1] ((0)) rfl (by decide) trivial (by decide) (by decide) dX9_count_133
    · have ic_33 : ¬ r_32.toInt = 0 := ine c_33 (rfl) (by decide)
      have kqr_32_0 : 0 ≤ x.toInt ∧ x.toInt ≤ 8 := qr_32_0 ic_33
      refine lv_aload_n hx hb dX9_count_123 rfl (lv_at hl 0 rfl) ?_
      refine va_get (D := D) (ci := 9) (v := .ref (g 0)) (C := RX9) (T := TX9) (N := 37) hx hb htg gRX9 hown hK hP 0 rfl rfl 1 (by decide) (htg _ wi_1151) (fun _ h9 => h9) rfl dX9_count_124 ?_
      refine lv_iload_n hx hb dX9_count_127 rfl (lv_at hl 1 rfl) ?_
      refine va_iald hx hb hK hP 1 0 rfl rfl (vp_in_iff.mpr (by omega)) dX9_count_128 ?_
      refine lv_topi (fun z_34 ez_34 => ?_)
      refine lv_goto (tgt := 133) hx hb dX9_count_129 (by decide) ?_
      exact x_iret hx hb hr hlk hP hD hS [0, 1] ((0)) rfl (by decide) trivial (by decide) (by decide) dX9_count_133
  · have ic_1 : x.toInt = 8 := ieq c_1 rfl (by decide)
    refine lv_is (y := 8) c_1 ?_
    refine lv_tableIn (off := 105) (tgt := 111) hx hb dX9_count_6 (by decide) (by decide) (by decide) (by decide) ?_
    refine lv_iload_n hx hb dX9_count_111 rfl (lv_at hl 1 rfl) ?_
    refine lv_i2l (v := x.toInt64) hx hb dX9_count_112 rfl ?_
    refine lv_lconst (v := 0) hx hb dX9_count_113 (by decide) ?_
    refine lv_ldc2 (v := 8) hx hb hown (htg _ wi_1477) dX9_count_114 ?_
    have ilw_35 : (x.toInt64).toInt = x.toInt := i2l_i _
    refine xk_i (wr := [(h0, .inr (9, (.int 0 :: .ref (g 0) :: .ref (g 1) :: .ref (g 2) :: .ref (g 3) :: .int b5 :: .int b6 :: .int b7 :: .int b8 :: .int b9 :: .int b10 :: .int b11 :: .int b12 :: .int b13 :: .int b14 :: .ref (g 4) :: .ref (g 5) :: .int b17 :: .int b18 :: .int b19 :: .ref (g 6) :: .ref (g 7) :: .ref (g 8) :: .int b23 :: .int b24 :: .int b25 :: .int b26 :: .int b27 :: .ref (g 9) :: .int b29 :: .ref (g 10) :: .int b31 :: .int b32 :: .int b33 :: .ref (g 11) :: .ref (g 12) :: .ref (g 13) :: []))), ((g 0), .inl (cT 0, 288, .inl (a0)))]) (xr_S (n := 3) (As := [.long x.toInt64, .long 0, .long 8]) (rest := []) ⟨hx, hb, hml, hown, htg⟩ hK hN hP hD hS hA [] rfl (by decide) (m_within l D cT _ (x.toInt64) (0) (8) (x.toInt) (0) (8) (i2l_i _) (by decide) (by decide)) wi_1270 wi_1271 wi_131 wi_1272 ⟨rfl, by decide +kernel⟩ ⟨Nat.le_of_ble_eq_true rfl, Nat.le_of_ble_eq_true rfl⟩ rfl hl.1 rfl (Nat.le_of_ble_eq_true rfl) dX9_count_117 ⟨Nat.le_of_ble_eq_true rfl, Nat.le_of_ble_eq_true rfl⟩) hP hD hS hA [] [0, 1] rfl rfl (by decide) (by decide) (fun r_37 u_36 H locs hwr_37 hP hD hS => ?_)
    have hP : va_P D classes [(h0, .inr (9, (.int 0 :: .ref (g 0) :: .ref (g 1) :: .ref (g 2) :: .ref (g 3) :: .int b5 :: .int b6 :: .int b7 :: .int b8 :: .int b9 :: .int b10 :: .int b11 :: .int b12 :: .int b13 :: .int b14 :: .ref (g 4) :: .ref (g 5) :: .int b17 :: .int b18 :: .int b19 :: .ref (g 6) :: .ref (g 7) :: .ref (g 8) :: .int b23 :: .int b24 :: .int b25 :: .int b26 :: .int b27 :: .ref (g 9) :: .int b29 :: .ref (g 10) :: .int b31 :: .int b32 :: .int b33 :: .ref (g 11) :: .ref (g 12) :: .ref (g 13) :: []))), ((g 0), .inl (cT 0, 288, .inl (a0)))] _ := hP
    have hD : va_D A [(h0, .inr (9, (.int 0 :: .ref (g 0) :: .ref (g 1) :: .ref (g 2) :: .ref (g 3) :: .int b5 :: .int b6 :: .int b7 :: .int b8 :: .int b9 :: .int b10 :: .int b11 :: .int b12 :: .int b13 :: .int b14 :: .ref (g 4) :: .ref (g 5) :: .int b17 :: .int b18 :: .int b19 :: .ref (g 6) :: .ref (g 7) :: .ref (g 8) :: .int b23 :: .int b24 :: .int b25 :: .int b26 :: .int b27 :: .ref (g 9) :: .int b29 :: .ref (g 10) :: .int b31 :: .int b32 :: .int b33 :: .ref (g 11) :: .ref (g 12) :: .ref (g 13) :: []))), ((g 0), .inl (cT 0, 288, .inl (a0)))] := hD
    have qr_37_0 : Imp (¬ r_37.toInt = 0) (0 ≤ x.toInt ∧ x.toInt ≤ 8) := hwr_37.1
    have qr_37_1 : r_37 = 0 ∨ r_37 = 1 := hwr_37.2.1
    refine lv_if_eq (tgt := 132) hx hb dX9_count_120 (by decide) (fun c_38 => ?_) (fun c_38 => ?_)
    · have ic_38 : r_37.toInt = 0 := ieq c_38 (rfl) (by decide)
      refine lv_iconst (v := (-1)) hx hb dX9_count_132 (by decide) ?_
      exact x_iret hx hb hr hlk hP hD hS [0, 1] ((0)) rfl (by decide) trivial (by decide) (by decide) dX9_count_133
    · have ic_38 : ¬ r_37.toInt = 0 := ine c_38 (rfl) (by decide)
      have kqr_37_0 : 0 ≤ x.toInt ∧ x.toInt ≤ 8 := qr_37_0 ic_38
      refine lv_aload_n hx hb dX9_count_123 rfl (lv_at hl 0 rfl) ?_
      refine va_get (D := D) (ci := 9) (v := .ref (g 0)) (C := RX9) (T := TX9) (N := 37) hx hb htg gRX9 hown hK hP 0 rfl rfl 1 (by decide) (htg _ wi_1151) (fun _ h9 => h9) rfl dX9_count_124 ?_
      refine lv_iload_n hx hb dX9_count_127 rfl (lv_at hl 1 rfl) ?_
      refine va_iald hx hb hK hP 1 0 rfl rfl (vp_in_iff.mpr (by omega)) dX9_count_128 ?_
      refine lv_topi (fun z_39 ez_39 => ?_)
      refine lv_goto (tgt := 133) hx hb dX9_count_129 (by decide) ?_
      exact x_iret hx hb hr hlk hP hD hS [0, 1] ((0)) rfl (by decide) trivial (by decide) (by decide) dX9_count_133
  · have ic_1 : x.toInt = 9 := ieq c_1 rfl (by decide)
    refine lv_is (y := 9) c_1 ?_
    refine lv_tableIn (off := 58) (tgt := 64) hx hb dX9_count_6 (by decide) (by decide) (by decide) (by decide) ?_
    refine lv_aload_n hx hb dX9_count_64 rfl (lv_at hl 0 rfl) ?_
    refine lv_bipush (v := 16) hx hb dX9_count_65 (by decide) ?_
    refine xk_i (wr := []) (xr_V (n := 1) (As := [.int 16]) (rest := []) ⟨hx, hb, hml, hown, htg⟩ hK hN hP hD hS hA [0, 1] rfl (by decide) (m_sumOf l D cT _ (h0) (g) (0) (b5) (b6) (b7) (b8) (b9) (b10) (b11) (b12) (b13) (b14) (b17) (b18) (b19) (b23) (b24) (b25) (b26) (b27) (b29) (b31) (b32) (b33) (by first | assumption | omega | decide | exact Or.inl (by decide) | (intro h9; exact absurd h9 (by decide)) | (intro _; omega) | (intro _; assumption) | (intro _; decide)) (a0) (by first | assumption | omega | decide | exact Or.inl (by decide) | (intro h9; exact absurd h9 (by decide)) | (intro _; omega) | (intro _; assumption) | (intro _; decide)) (16) (by first | assumption | omega | decide | exact Or.inl (by decide) | (intro h9; exact absurd h9 (by decide)) | (intro _; omega) | (intro _; assumption) | (intro _; decide))) wi_1626 wi_1628 wi_119 wi_131 wi_1629 rfl rfl rfl ⟨rfl, by decide +kernel⟩ ⟨Nat.le_of_ble_eq_true rfl, Nat.le_of_ble_eq_true rfl⟩ rfl hl.1 rfl (Nat.le_of_ble_eq_true rfl) dX9_count_67 ⟨Nat.le_of_ble_eq_true rfl, Nat.le_of_ble_eq_true rfl⟩) hP hD hS hA [0, 1] [] rfl rfl (by decide) (by decide) (fun r_41 u_40 H locs hwr_41 hP hD hS => ?_)
    have hP : va_P D classes [(h0, .inr (9, (.int 0 :: .ref (g 0) :: .ref (g 1) :: .ref (g 2) :: .ref (g 3) :: .int b5 :: .int b6 :: .int b7 :: .int b8 :: .int b9 :: .int b10 :: .int b11 :: .int b12 :: .int b13 :: .int b14 :: .ref (g 4) :: .ref (g 5) :: .int b17 :: .int b18 :: .int b19 :: .ref (g 6) :: .ref (g 7) :: .ref (g 8) :: .int b23 :: .int b24 :: .int b25 :: .int b26 :: .int b27 :: .ref (g 9) :: .int b29 :: .ref (g 10) :: .int b31 :: .int b32 :: .int b33 :: .ref (g 11) :: .ref (g 12) :: .ref (g 13) :: []))), ((g 0), .inl (cT 0, 288, .inl (a0)))] _ := hP
    have hD : va_D A [(h0, .inr (9, (.int 0 :: .ref (g 0) :: .ref (g 1) :: .ref (g 2) :: .ref (g 3) :: .int b5 :: .int b6 :: .int b7 :: .int b8 :: .int b9 :: .int b10 :: .int b11 :: .int b12 :: .int b13 :: .int b14 :: .ref (g 4) :: .ref (g 5) :: .int b17 :: .int b18 :: .int b19 :: .ref (g 6) :: .ref (g 7) :: .ref (g 8) :: .int b23 :: .int b24 :: .int b25 :: .int b26 :: .int b27 :: .ref (g 9) :: .int b29 :: .ref (g 10) :: .int b31 :: .int b32 :: .int b33 :: .ref (g 11) :: .ref (g 12) :: .ref (g 13) :: []))), ((g 0), .inl (cT 0, 288, .inl (a0)))] := hD
    exact x_iret hx hb hr hlk hP hD hS [0, 1] ((0)) rfl (by decide) trivial (by decide) (by decide) dX9_count_70
  · have ic_1 : x.toInt = 10 := ieq c_1 rfl (by decide)
    refine lv_is (y := 10) c_1 ?_
    refine lv_tableIn (off := 65) (tgt := 71) hx hb dX9_count_6 (by decide) (by decide) (by decide) (by decide) ?_
    refine lv_aload_n hx hb dX9_count_71 rfl (lv_at hl 0 rfl) ?_
    refine lv_bipush (v := 80) hx hb dX9_count_72 (by decide) ?_
    refine xk_i (wr := []) (xr_V (n := 1) (As := [.int 80]) (rest := []) ⟨hx, hb, hml, hown, htg⟩ hK hN hP hD hS hA [0, 1] rfl (by decide) (m_sumOf l D cT _ (h0) (g) (0) (b5) (b6) (b7) (b8) (b9) (b10) (b11) (b12) (b13) (b14) (b17) (b18) (b19) (b23) (b24) (b25) (b26) (b27) (b29) (b31) (b32) (b33) (by first | assumption | omega | decide | exact Or.inl (by decide) | (intro h9; exact absurd h9 (by decide)) | (intro _; omega) | (intro _; assumption) | (intro _; decide)) (a0) (by first | assumption | omega | decide | exact Or.inl (by decide) | (intro h9; exact absurd h9 (by decide)) | (intro _; omega) | (intro _; assumption) | (intro _; decide)) (80) (by first | assumption | omega | decide | exact Or.inl (by decide) | (intro h9; exact absurd h9 (by decide)) | (intro _; omega) | (intro _; assumption) | (intro _; decide))) wi_1626 wi_1628 wi_119 wi_131 wi_1629 rfl rfl rfl ⟨rfl, by decide +kernel⟩ ⟨Nat.le_of_ble_eq_true rfl, Nat.le_of_ble_eq_true rfl⟩ rfl hl.1 rfl (Nat.le_of_ble_eq_true rfl) dX9_count_74 ⟨Nat.le_of_ble_eq_true rfl, Nat.le_of_ble_eq_true rfl⟩) hP hD hS hA [0, 1] [] rfl rfl (by decide) (by decide) (fun r_43 u_42 H locs hwr_43 hP hD hS => ?_)
    have hP : va_P D classes [(h0, .inr (9, (.int 0 :: .ref (g 0) :: .ref (g 1) :: .ref (g 2) :: .ref (g 3) :: .int b5 :: .int b6 :: .int b7 :: .int b8 :: .int b9 :: .int b10 :: .int b11 :: .int b12 :: .int b13 :: .int b14 :: .ref (g 4) :: .ref (g 5) :: .int b17 :: .int b18 :: .int b19 :: .ref (g 6) :: .ref (g 7) :: .ref (g 8) :: .int b23 :: .int b24 :: .int b25 :: .int b26 :: .int b27 :: .ref (g 9) :: .int b29 :: .ref (g 10) :: .int b31 :: .int b32 :: .int b33 :: .ref (g 11) :: .ref (g 12) :: .ref (g 13) :: []))), ((g 0), .inl (cT 0, 288, .inl (a0)))] _ := hP
    have hD : va_D A [(h0, .inr (9, (.int 0 :: .ref (g 0) :: .ref (g 1) :: .ref (g 2) :: .ref (g 3) :: .int b5 :: .int b6 :: .int b7 :: .int b8 :: .int b9 :: .int b10 :: .int b11 :: .int b12 :: .int b13 :: .int b14 :: .ref (g 4) :: .ref (g 5) :: .int b17 :: .int b18 :: .int b19 :: .ref (g 6) :: .ref (g 7) :: .ref (g 8) :: .int b23 :: .int b24 :: .int b25 :: .int b26 :: .int b27 :: .ref (g 9) :: .int b29 :: .ref (g 10) :: .int b31 :: .int b32 :: .int b33 :: .ref (g 11) :: .ref (g 12) :: .ref (g 13) :: []))), ((g 0), .inl (cT 0, 288, .inl (a0)))] := hD
    exact x_iret hx hb hr hlk hP hD hS [0, 1] ((0)) rfl (by decide) trivial (by decide) (by decide) dX9_count_77
  · have ic_1 : x.toInt = 11 := ieq c_1 rfl (by decide)
    refine lv_is (y := 11) c_1 ?_
    refine lv_tableIn (off := 72) (tgt := 78) hx hb dX9_count_6 (by decide) (by decide) (by decide) (by decide) ?_
    refine lv_aload_n hx hb dX9_count_78 rfl (lv_at hl 0 rfl) ?_
    refine va_get (D := D) (ci := 9) (v := .int b5) (C := RX9) (T := TX9) (N := 37) hx hb htg gRX9 hown hK hP 0 rfl rfl 5 (by decide) (htg _ wi_1155) (fun _ h9 => h9) rfl dX9_count_79 ?_
    exact x_iret hx hb hr hlk hP hD hS [0, 1] ((0)) rfl (by decide) trivial (by decide) (by decide) dX9_count_82
  · have ic_1 : x.toInt = 12 := ieq c_1 rfl (by decide)
    refine lv_is (y := 12) c_1 ?_
    refine lv_tableIn (off := 77) (tgt := 83) hx hb dX9_count_6 (by decide) (by decide) (by decide) (by decide) ?_
    refine lv_aload_n hx hb dX9_count_83 rfl (lv_at hl 0 rfl) ?_
    refine va_get (D := D) (ci := 9) (v := .ref (g 0)) (C := RX9) (T := TX9) (N := 37) hx hb htg gRX9 hown hK hP 0 rfl rfl 1 (by decide) (htg _ wi_1151) (fun _ h9 => h9) rfl dX9_count_84 ?_
    refine lv_bipush (v := 9) hx hb dX9_count_87 (by decide) ?_
    refine va_iald hx hb hK hP 1 0 rfl rfl (by unfold vp_in; decide) dX9_count_89 ?_
    refine lv_topi (fun z_44 ez_44 => ?_)
    exact x_iret hx hb hr hlk hP hD hS [0, 1] ((0)) rfl (by decide) trivial (by decide) (by decide) dX9_count_90
set_option maxHeartbeats 4000000 in
set_option maxRecDepth 100000 in
theorem m_feedR (l : Launch) (D : va_G) (cT : Nat → ClassId) (sz : Nat) (h0 : Nat) (g : Nat → Nat) (b0 : Int32) (b5 : Int32) (b6 : Int32) (b7 : Int32) (b8 : Int32) (b9 : Int32) (b10 : Int32) (b11 : Int32) (b12 : Int32) (b13 : Int32) (b14 : Int32) (b17 : Int32) (b18 : Int32) (b19 : Int32) (b23 : Int32) (b24 : Int32) (b25 : Int32) (b26 : Int32) (b27 : Int32) (b29 : Int32) (b31 : Int32) (b32 : Int32) (b33 : Int32) (hb5 : 0 ≤ b5.toInt ∧ b5.toInt ≤ 900) (a2 : Nat → Int32) (x : Int32) (y : Int32) (z : Int32) (v : Int32) (w : Int32) : Met l yX9_feed (wsc yX9_feed cX9_feed 8 (some .int)) { frames := 2, cells := 0, slots := 0, locals := 100 } (va_Pc [.ref h0, .int x, .int y, .int z, .int v, .int w] (PX D cT sz [(h0, .inr (9, (.int b0 :: .ref (g 0) :: .ref (g 1) :: .ref (g 2) :: .ref (g 3) :: .int b5 :: .int b6 :: .int b7 :: .int b8 :: .int b9 :: .int b10 :: .int b11 :: .int b12 :: .int b13 :: .int b14 :: .ref (g 4) :: .ref (g 5) :: .int b17 :: .int b18 :: .int b19 :: .ref (g 6) :: .ref (g 7) :: .ref (g 8) :: .int b23 :: .int b24 :: .int b25 :: .int b26 :: .int b27 :: .ref (g 9) :: .int b29 :: .ref (g 10) :: .int b31 :: .int b32 :: .int b33 :: .ref (g 11) :: .ref (g 12) :: .ref (g 13) :: []))), ((g 2), .inl (cT 0, 900, .inl (a2)))])) (va_Qi (fun (r : Int32) (u : Int32 × Int32 × (Nat → Int32)) => (0 ≤ u.2.1.toInt ∧ u.2.1.toInt ≤ 900) ∧ ((b5.toInt ≤ 880 ∧ u.2.1.toInt = b5.toInt + 20 ∧ r.toInt = b5.toInt + 20) ∨ (880 < b5.toInt ∧ u.2.1.toInt = b5.toInt ∧ r.toInt = -5)) ∧ (True)) (fun u t => RW D (va_A [(h0, .inr (9, (.int b0 :: .ref (g 0) :: .ref (g 1) :: .ref (g 2) :: .ref (g 3) :: .int b5 :: .int b6 :: .int b7 :: .int b8 :: .int b9 :: .int b10 :: .int b11 :: .int b12 :: .int b13 :: .int b14 :: .ref (g 4) :: .ref (g 5) :: .int b17 :: .int b18 :: .int b19 :: .ref (g 6) :: .ref (g 7) :: .ref (g 8) :: .int b23 :: .int b24 :: .int b25 :: .int b26 :: .int b27 :: .ref (g 9) :: .int b29 :: .ref (g 10) :: .int b31 :: .int b32 :: .int b33 :: .ref (g 11) :: .ref (g 12) :: .ref (g 13) :: []))), ((g 2), .inl (cT 0, 900, .inl (a2)))] sz) ((fun u : Int32 × Int32 × (Nat → Int32) => [(h0, .inr (9, (.int u.1 :: .ref (g 0) :: .ref (g 1) :: .ref (g 2) :: .ref (g 3) :: .int u.2.1 :: .int b6 :: .int b7 :: .int b8 :: .int b9 :: .int b10 :: .int b11 :: .int b12 :: .int b13 :: .int b14 :: .ref (g 4) :: .ref (g 5) :: .int b17 :: .int b18 :: .int b19 :: .ref (g 6) :: .ref (g 7) :: .ref (g 8) :: .int b23 :: .int b24 :: .int b25 :: .int b26 :: .int b27 :: .ref (g 9) :: .int b29 :: .ref (g 10) :: .int b31 :: .int b32 :: .int b33 :: .ref (g 11) :: .ref (g 12) :: .ref (g 13) :: []))), ((g 2), .inl (cT 0, 900, .inl (u.2.2)))]) u) t) (va_A [(h0, .inr (9, (.int b0 :: .ref (g 0) :: .ref (g 1) :: .ref (g 2) :: .ref (g 3) :: .int b5 :: .int b6 :: .int b7 :: .int b8 :: .int b9 :: .int b10 :: .int b11 :: .int b12 :: .int b13 :: .int b14 :: .ref (g 4) :: .ref (g 5) :: .int b17 :: .int b18 :: .int b19 :: .ref (g 6) :: .ref (g 7) :: .ref (g 8) :: .int b23 :: .int b24 :: .int b25 :: .int b26 :: .int b27 :: .ref (g 9) :: .int b29 :: .ref (g 10) :: .int b31 :: .int b32 :: .int b33 :: .ref (g 11) :: .ref (g 12) :: .ref (g 13) :: []))), ((g 2), .inl (cT 0, 900, .inl (a2)))] sz)) 0 0 (va_A [(h0, .inr (9, (.int b0 :: .ref (g 0) :: .ref (g 1) :: .ref (g 2) :: .ref (g 3) :: .int b5 :: .int b6 :: .int b7 :: .int b8 :: .int b9 :: .int b10 :: .int b11 :: .int b12 :: .int b13 :: .int b14 :: .ref (g 4) :: .ref (g 5) :: .int b17 :: .int b18 :: .int b19 :: .ref (g 6) :: .ref (g 7) :: .ref (g 8) :: .int b23 :: .int b24 :: .int b25 :: .int b26 :: .int b27 :: .ref (g 9) :: .int b29 :: .ref (g 10) :: .int b31 :: .int b32 :: .int b33 :: .ref (g 11) :: .ref (g 12) :: .ref (g 13) :: []))), ((g 2), .inl (cT 0, 900, .inl (a2)))] sz) := by
  refine m_of (y := yX9_feed) (cc := cX9_feed) (nL := 8) (ret := (some .int)) (D := D) (cT := cT) (av := [.ref h0, .int x, .int y, .int z, .int v, .int w]) (wi := [(h0, .inr (9, (.int b0 :: .ref (g 0) :: .ref (g 1) :: .ref (g 2) :: .ref (g 3) :: .int b5 :: .int b6 :: .int b7 :: .int b8 :: .int b9 :: .int b10 :: .int b11 :: .int b12 :: .int b13 :: .int b14 :: .ref (g 4) :: .ref (g 5) :: .int b17 :: .int b18 :: .int b19 :: .ref (g 6) :: .ref (g 7) :: .ref (g 8) :: .int b23 :: .int b24 :: .int b25 :: .int b26 :: .int b27 :: .ref (g 9) :: .int b29 :: .ref (g 10) :: .int b31 :: .int b32 :: .int b33 :: .ref (g 11) :: .ref (g 12) :: .ref (g 13) :: []))), ((g 2), .inl (cT 0, 900, .inl (a2)))]) (fun A => va_Qi (fun (r : Int32) (u : Int32 × Int32 × (Nat → Int32)) => (0 ≤ u.2.1.toInt ∧ u.2.1.toInt ≤ 900) ∧ ((b5.toInt ≤ 880 ∧ u.2.1.toInt = b5.toInt + 20 ∧ r.toInt = b5.toInt + 20) ∨ (880 < b5.toInt ∧ u.2.1.toInt = b5.toInt ∧ r.toInt = -5)) ∧ (True)) (fun u t => RW D A ((fun u : Int32 × Int32 × (Nat → Int32) => [(h0, .inr (9, (.int u.1 :: .ref (g 0) :: .ref (g 1) :: .ref (g 2) :: .ref (g 3) :: .int u.2.1 :: .int b6 :: .int b7 :: .int b8 :: .int b9 :: .int b10 :: .int b11 :: .int b12 :: .int b13 :: .int b14 :: .ref (g 4) :: .ref (g 5) :: .int b17 :: .int b18 :: .int b19 :: .ref (g 6) :: .ref (g 7) :: .ref (g 8) :: .int b23 :: .int b24 :: .int b25 :: .int b26 :: .int b27 :: .ref (g 9) :: .int b29 :: .ref (g 10) :: .int b31 :: .int b32 :: .int b33 :: .ref (g 11) :: .ref (g 12) :: .ref (g 13) :: []))), ((g 2), .inl (cT 0, 900, .inl (u.2.2)))]) u) t) A) (by decide) (Nat.le_of_ble_eq_true rfl) ?_
  intro p e s m below meth c A hx hb hml hown htg hK hN hr hlk hnm hsz hP hD hS hA ls hl
  have hown : s.vm.findClass RX9 = some m.cls := hown
  have hl : lv_has ls 8 [(0, .ref h0), (1, .int x), (2, .int y), (3, .int z), (4, .int v), (5, .int w)] := hl
  have tc_m5 : ((-5) : Int32).toInt = (-5) := by decide
  have tc_0 : (0 : Int32).toInt = 0 := by decide
  have tc_1 : (1 : Int32).toInt = 1 := by decide
  have tc_4 : (4 : Int32).toInt = 4 := by decide
  have tc_8 : (8 : Int32).toInt = 8 := by decide
  have tc_12 : (12 : Int32).toInt = 12 := by decide
  have tc_16 : (16 : Int32).toInt = 16 := by decide
  have tc_20 : (20 : Int32).toInt = 20 := by decide
  have tc_24 : (24 : Int32).toInt = 24 := by decide
  have tc_255 : (255 : Int32).toInt = 255 := by decide
  have tc_900 : (900 : Int32).toInt = 900 := by decide
  refine lv_aload_n hx hb dX9_feed_0 rfl (lv_at hl 0 rfl) ?_
  refine lv_iconst (v := 0) hx hb dX9_feed_1 (by decide) ?_
  refine va_put (D := D) (ci := 9) (v := .int 0) (ty := .int) (C := RX9) (T := TX9) (N := 37) hx hb htg gRX9 tyX9 tyX9_ok nmX9 hown hK hP hD hS 0 rfl rfl 0 (by decide) (htg _ wi_1150) (fun _ h9 => h9) rfl (by decide +kernel) rfl rfl (Nat.le_of_ble_eq_true rfl) dX9_feed_2 (fun H locs hP hD hS => ?_)
  have hP : va_P D classes [(h0, .inr (9, (.int 0 :: .ref (g 0) :: .ref (g 1) :: .ref (g 2) :: .ref (g 3) :: .int b5 :: .int b6 :: .int b7 :: .int b8 :: .int b9 :: .int b10 :: .int b11 :: .int b12 :: .int b13 :: .int b14 :: .ref (g 4) :: .ref (g 5) :: .int b17 :: .int b18 :: .int b19 :: .ref (g 6) :: .ref (g 7) :: .ref (g 8) :: .int b23 :: .int b24 :: .int b25 :: .int b26 :: .int b27 :: .ref (g 9) :: .int b29 :: .ref (g 10) :: .int b31 :: .int b32 :: .int b33 :: .ref (g 11) :: .ref (g 12) :: .ref (g 13) :: []))), ((g 2), .inl (cT 0, 900, .inl (a2)))] _ := hP
  have hD : va_D A [(h0, .inr (9, (.int 0 :: .ref (g 0) :: .ref (g 1) :: .ref (g 2) :: .ref (g 3) :: .int b5 :: .int b6 :: .int b7 :: .int b8 :: .int b9 :: .int b10 :: .int b11 :: .int b12 :: .int b13 :: .int b14 :: .ref (g 4) :: .ref (g 5) :: .int b17 :: .int b18 :: .int b19 :: .ref (g 6) :: .ref (g 7) :: .ref (g 8) :: .int b23 :: .int b24 :: .int b25 :: .int b26 :: .int b27 :: .ref (g 9) :: .int b29 :: .ref (g 10) :: .int b31 :: .int b32 :: .int b33 :: .ref (g 11) :: .ref (g 12) :: .ref (g 13) :: []))), ((g 2), .inl (cT 0, 900, .inl (a2)))] := hD
  refine lv_aload_n hx hb dX9_feed_5 rfl (lv_at hl 0 rfl) ?_
  refine va_get (D := D) (ci := 9) (v := .int b5) (C := RX9) (T := TX9) (N := 37) hx hb htg gRX9 hown hK hP 0 rfl rfl 5 (by decide) (htg _ wi_1155) (fun _ h9 => h9) rfl dX9_feed_6 ?_
  refine lv_bipush (v := 20) hx hb dX9_feed_9 (by decide) ?_
  refine lv_iadd hx hb dX9_feed_11 ?_
  refine lv_topi (fun z_1 ez_1 => ?_)
  have iz_1 : z_1.toInt = b5.toInt + 20 := toInt_addI ez_1 (rfl) (by decide) (by omega)
  refine lv_sipush (v := 900) hx hb dX9_feed_12 (by decide) ?_
  refine lv_icmp_le (tgt := 21) hx hb dX9_feed_15 (by decide) (fun c_2 => ?_) (fun c_2 => ?_)
  · have ic_2 : z_1.toInt ≤ 900 := ile c_2 (rfl) (by decide)
    refine lv_iconst (v := 0) hx hb dX9_feed_21 (by decide) ?_
    refine lv_istore (lv' := [(6, .int 0), (0, .ref h0), (1, .int x), (2, .int y), (3, .int z), (4, .int v), (5, .int w)]) hx hb dX9_feed_22 hl (by decide) rfl (fun ls hl => ?_)
    refine (fun (key : ∀ (n9_24 : Nat) (k9_24 : Nat) (f9_24_0 : Nat → Int32) (v9_24_1 : Int32) (H : Heap) (locs : List Loc) (ls : Array Slot), (k9_24 : Int) ≤ 20 → 20 < (k9_24 : Int) + n9_24 → v9_24_1.toInt = b5.toInt + (k9_24 : Int) → (0 ≤ v9_24_1.toInt ∧ v9_24_1.toInt ≤ 900) → va_P D classes [(h0, .inr (9, (.int 0 :: .ref (g 0) :: .ref (g 1) :: .ref (g 2) :: .ref (g 3) :: .int v9_24_1 :: .int b6 :: .int b7 :: .int b8 :: .int b9 :: .int b10 :: .int b11 :: .int b12 :: .int b13 :: .int b14 :: .ref (g 4) :: .ref (g 5) :: .int b17 :: .int b18 :: .int b19 :: .ref (g 6) :: .ref (g 7) :: .ref (g 8) :: .int b23 :: .int b24 :: .int b25 :: .int b26 :: .int b27 :: .ref (g 9) :: .int b29 :: .ref (g 10) :: .int b31 :: .int b32 :: .int b33 :: .ref (g 11) :: .ref (g 12) :: .ref (g 13) :: []))), ((g 2), .inl (cT 0, 900, .inl (f9_24_0)))] H → va_D A [(h0, .inr (9, (.int 0 :: .ref (g 0) :: .ref (g 1) :: .ref (g 2) :: .ref (g 3) :: .int v9_24_1 :: .int b6 :: .int b7 :: .int b8 :: .int b9 :: .int b10 :: .int b11 :: .int b12 :: .int b13 :: .int b14 :: .ref (g 4) :: .ref (g 5) :: .int b17 :: .int b18 :: .int b19 :: .ref (g 6) :: .ref (g 7) :: .ref (g 8) :: .int b23 :: .int b24 :: .int b25 :: .int b26 :: .int b27 :: .ref (g 9) :: .int b29 :: .ref (g 10) :: .int b31 :: .int b32 :: .int b33 :: .ref (g 11) :: .ref (g 12) :: .ref (g 13) :: []))), ((g 2), .inl (cT 0, 900, .inl (f9_24_0)))] → va_S A s.heap H locs → lv_has ls 8 [(6, .int (nI k9_24)), (0, .ref h0), (1, .int x), (2, .int y), (3, .int z), (4, .int v), (5, .int w)] → W p l e _ s m _ below meth c H locs _ _ _ (F0 m 24 ls [])) => key (Int.toNat (20 - 0) + 1) 0 _ _ _ _ _ (by omega) (by omega) (by first | assumption | omega | decide | (simp only [ti_0, ti_1, ti_2, ti_3, ti_4, ti_5, ti_6, ti_7, ti_8, ti_9, ti_10, ti_11, ti_12, ti_m1]; omega)) (by first | assumption | omega | decide | (simp only [ti_0, ti_1, ti_2, ti_3, ti_4, ti_5, ti_6, ti_7, ti_8, ti_9, ti_10, ti_11, ti_12, ti_m1]; omega)) hP hD hS (lv_sub hl [0, 1, 2, 3, 4, 5, 6] rfl)) ?_
    intro n9_24
    induction n9_24 with
    | zero => intro k9_24 f9_24_0 v9_24_1 H locs ls hq1 hq2; exact absurd hq2 (by omega)
    | succ n9_24 ih_24 =>
      intro k9_24 f9_24_0 v9_24_1 H locs ls hq1_24 hq2_24 h9_24_0 h9_24_1 hP hD hS hl
      have hk9_24 : (nI k9_24).toInt = (k9_24 : Int) := nI_toInt (by omega)
      refine lv_iload hx hb dX9_feed_24 (lv_at hl 0 rfl) ?_
      refine lv_bipush (v := 20) hx hb dX9_feed_26 (by decide) ?_
      refine lv_icmp_ge (tgt := 121) hx hb dX9_feed_28 (by decide) (fun c_3 => ?_) (fun c_3 => ?_)
      · have ic_3 : 20 ≤ ((k9_24 : Nat) : Int) := ile c_3 (by decide) (nI_toInt (by omega))
        refine lv_aload_n hx hb dX9_feed_121 rfl (lv_at hl 1 rfl) ?_
        refine va_get (D := D) (ci := 9) (v := .int v9_24_1) (C := RX9) (T := TX9) (N := 37) hx hb htg gRX9 hown hK hP 0 rfl rfl 5 (by decide) (htg _ wi_1155) (fun _ h9 => h9) rfl dX9_feed_122 ?_
        exact x_iret hx hb hr hlk hP hD hS [0, 1] ((0, v9_24_1, f9_24_0)) rfl (by decide) ⟨by (try dsimp only); first | assumption | omega | decide | exact Or.inl (by decide) | (intro h9; exact absurd h9 (by decide)) | (intro _; omega) | (intro _; assumption) | (intro _; decide), by (try dsimp only); first | assumption | omega | decide | exact Or.inl (by decide) | (intro h9; exact absurd h9 (by decide)) | (intro _; omega) | (intro _; assumption) | (intro _; decide), trivial⟩ (by decide) (by decide) dX9_feed_125
      · have ic_3 : ((k9_24 : Nat) : Int) < 20 := inle c_3 (by decide) (nI_toInt (by omega))
        refine lv_iload hx hb dX9_feed_31 (lv_at hl 0 rfl) ?_
        refine lv_iconst (v := 4) hx hb dX9_feed_33 (by decide) ?_
        refine lv_icmp_ge (tgt := 41) hx hb dX9_feed_34 (by decide) (fun c_4 => ?_) (fun c_4 => ?_)
        · have ic_4 : 4 ≤ ((k9_24 : Nat) : Int) := ile c_4 (by decide) (nI_toInt (by omega))
          refine lv_iload hx hb dX9_feed_41 (lv_at hl 0 rfl) ?_
          refine lv_bipush (v := 8) hx hb dX9_feed_43 (by decide) ?_
          refine lv_icmp_ge (tgt := 52) hx hb dX9_feed_45 (by decide) (fun c_5 => ?_) (fun c_5 => ?_)
          · have ic_5 : 8 ≤ ((k9_24 : Nat) : Int) := ile c_5 (by decide) (nI_toInt (by omega))
            refine lv_iload hx hb dX9_feed_52 (lv_at hl 0 rfl) ?_
            refine lv_bipush (v := 12) hx hb dX9_feed_54 (by decide) ?_
            refine lv_icmp_ge (tgt := 63) hx hb dX9_feed_56 (by decide) (fun c_6 => ?_) (fun c_6 => ?_)
            · have ic_6 : 12 ≤ ((k9_24 : Nat) : Int) := ile c_6 (by decide) (nI_toInt (by omega))
              refine lv_iload hx hb dX9_feed_63 (lv_at hl 0 rfl) ?_
              refine lv_bipush (v := 16) hx hb dX9_feed_65 (by decide) ?_
              refine lv_icmp_ge (tgt := 75) hx hb dX9_feed_67 (by decide) (fun c_7 => ?_) (fun c_7 => ?_)
              · have ic_7 : 16 ≤ ((k9_24 : Nat) : Int) := ile c_7 (by decide) (nI_toInt (by omega))
                refine lv_iload hx hb dX9_feed_75 (lv_at hl 6 rfl) ?_
                refine lv_istore (lv' := [(7, .int w), (6, .int (nI k9_24)), (0, .ref h0), (1, .int x), (2, .int y), (3, .int z), (4, .int v), (5, .int w)]) hx hb dX9_feed_77 hl (by decide) rfl (fun ls hl => ?_)
                refine lv_aload_n hx hb dX9_feed_79 rfl (lv_at hl 2 rfl) ?_
                refine va_get (D := D) (ci := 9) (v := .ref (g 2)) (C := RX9) (T := TX9) (N := 37) hx hb htg gRX9 hown hK hP 0 rfl rfl 3 (by decide) (htg _ wi_1153) (fun _ h9 => h9) rfl dX9_feed_80 ?_
                refine lv_aload_n hx hb dX9_feed_83 rfl (lv_at hl 2 rfl) ?_
                refine va_get (D := D) (ci := 9) (v := .int v9_24_1) (C := RX9) (T := TX9) (N := 37) hx hb htg gRX9 hown hK hP 0 rfl rfl 5 (by decide) (htg _ wi_1155) (fun _ h9 => h9) rfl dX9_feed_84 ?_
                refine lv_iload hx hb dX9_feed_87 (lv_at hl 0 rfl) ?_
                refine lv_bipush (v := 24) hx hb dX9_feed_89 (by decide) ?_
                refine lv_bipush (v := 8) hx hb dX9_feed_91 (by decide) ?_
                refine lv_iload hx hb dX9_feed_93 (lv_at hl 1 rfl) ?_
                refine lv_iconst (v := 4) hx hb dX9_feed_95 (by decide) ?_
                refine lv_irem hx hb dX9_feed_96 (by decide) ?_
                refine lv_topi (fun z_8 ez_8 => ?_)
                refine lv_imul hx hb dX9_feed_97 ?_
                refine lv_topi (fun z_9 ez_9 => ?_)
                refine lv_isub hx hb dX9_feed_98 ?_
                refine lv_topi (fun z_10 ez_10 => ?_)
                refine lv_ishr hx hb dX9_feed_99 ?_
                refine lv_topi (fun z_11 ez_11 => ?_)
                refine lv_sipush (v := 255) hx hb dX9_feed_100 (by decide) ?_
                refine lv_iand hx hb dX9_feed_103 ?_
                refine lv_topi (fun z_12 ez_12 => ?_)
                have iz_12 : 0 ≤ z_12.toInt ∧ z_12.toInt ≤ 255 := andI ez_12 (by decide) (by decide)
                refine va_iast hx hb hK hP hD hS 1 0 rfl rfl (vp_in_iff.mpr (by omega)) dX9_feed_104 (fun H locs hP hD hS => ?_)
                obtain ⟨f_13, hP, hD⟩ : ∃ f_13 : Nat → Int32, va_P D classes [(h0, .inr (9, (.int 0 :: .ref (g 0) :: .ref (g 1) :: .ref (g 2) :: .ref (g 3) :: .int v9_24_1 :: .int b6 :: .int b7 :: .int b8 :: .int b9 :: .int b10 :: .int b11 :: .int b12 :: .int b13 :: .int b14 :: .ref (g 4) :: .ref (g 5) :: .int b17 :: .int b18 :: .int b19 :: .ref (g 6) :: .ref (g 7) :: .ref (g 8) :: .int b23 :: .int b24 :: .int b25 :: .int b26 :: .int b27 :: .ref (g 9) :: .int b29 :: .ref (g 10) :: .int b31 :: .int b32 :: .int b33 :: .ref (g 11) :: .ref (g 12) :: .ref (g 13) :: []))), ((g 2), .inl (cT 0, 900, .inl (f_13)))] H ∧ va_D A [(h0, .inr (9, (.int 0 :: .ref (g 0) :: .ref (g 1) :: .ref (g 2) :: .ref (g 3) :: .int v9_24_1 :: .int b6 :: .int b7 :: .int b8 :: .int b9 :: .int b10 :: .int b11 :: .int b12 :: .int b13 :: .int b14 :: .ref (g 4) :: .ref (g 5) :: .int b17 :: .int b18 :: .int b19 :: .ref (g 6) :: .ref (g 7) :: .ref (g 8) :: .int b23 :: .int b24 :: .int b25 :: .int b26 :: .int b27 :: .ref (g 9) :: .int b29 :: .ref (g 10) :: .int b31 :: .int b32 :: .int b33 :: .ref (g 11) :: .ref (g 12) :: .ref (g 13) :: []))), ((g 2), .inl (cT 0, 900, .inl (f_13)))] := ⟨_, hP, hD⟩
                refine lv_aload_n hx hb dX9_feed_105 rfl (lv_at hl 2 rfl) ?_
                refine lv_dup hx hb dX9_feed_106 rfl ?_
                refine va_get (D := D) (ci := 9) (v := .int v9_24_1) (C := RX9) (T := TX9) (N := 37) hx hb htg gRX9 hown hK hP 0 rfl rfl 5 (by decide) (htg _ wi_1155) (fun _ h9 => h9) rfl dX9_feed_107 ?_
                refine lv_iconst (v := 1) hx hb dX9_feed_110 (by decide) ?_
                refine lv_iadd hx hb dX9_feed_111 ?_
                refine lv_topi (fun z_14 ez_14 => ?_)
                have iz_14 : z_14.toInt = v9_24_1.toInt + 1 := toInt_addI ez_14 (rfl) (by decide) (by omega)
                refine va_put (D := D) (ci := 9) (v := .int z_14) (ty := .int) (C := RX9) (T := TX9) (N := 37) hx hb htg gRX9 tyX9 tyX9_ok nmX9 hown hK hP hD hS 0 rfl rfl 5 (by decide) (htg _ wi_1155) (fun _ h9 => h9) rfl (by decide +kernel) rfl rfl (Nat.le_of_ble_eq_true rfl) dX9_feed_112 (fun H locs hP hD hS => ?_)
                have hP : va_P D classes [(h0, .inr (9, (.int 0 :: .ref (g 0) :: .ref (g 1) :: .ref (g 2) :: .ref (g 3) :: .int z_14 :: .int b6 :: .int b7 :: .int b8 :: .int b9 :: .int b10 :: .int b11 :: .int b12 :: .int b13 :: .int b14 :: .ref (g 4) :: .ref (g 5) :: .int b17 :: .int b18 :: .int b19 :: .ref (g 6) :: .ref (g 7) :: .ref (g 8) :: .int b23 :: .int b24 :: .int b25 :: .int b26 :: .int b27 :: .ref (g 9) :: .int b29 :: .ref (g 10) :: .int b31 :: .int b32 :: .int b33 :: .ref (g 11) :: .ref (g 12) :: .ref (g 13) :: []))), ((g 2), .inl (cT 0, 900, .inl (f_13)))] _ := hP
                have hD : va_D A [(h0, .inr (9, (.int 0 :: .ref (g 0) :: .ref (g 1) :: .ref (g 2) :: .ref (g 3) :: .int z_14 :: .int b6 :: .int b7 :: .int b8 :: .int b9 :: .int b10 :: .int b11 :: .int b12 :: .int b13 :: .int b14 :: .ref (g 4) :: .ref (g 5) :: .int b17 :: .int b18 :: .int b19 :: .ref (g 6) :: .ref (g 7) :: .ref (g 8) :: .int b23 :: .int b24 :: .int b25 :: .int b26 :: .int b27 :: .ref (g 9) :: .int b29 :: .ref (g 10) :: .int b31 :: .int b32 :: .int b33 :: .ref (g 11) :: .ref (g 12) :: .ref (g 13) :: []))), ((g 2), .inl (cT 0, 900, .inl (f_13)))] := hD
                refine lv_iinc (v := (nI (k9_24 + 1))) (lv' := [(6, .int (nI (k9_24 + 1))), (7, .int w), (0, .ref h0), (1, .int x), (2, .int y), (3, .int z), (4, .int v), (5, .int w)]) hx hb dX9_feed_115 hl (k := 1) rfl (by exact nI_1 (k9_24)) (by decide) rfl (fun ls hl => ?_)
                refine lv_goto (tgt := 24) hx hb dX9_feed_118 (by decide) ?_
                exact ih_24 (k9_24 + 1) _ _ _ _ _ (by omega) (by omega) (by first | assumption | omega | decide | (simp only [ti_0, ti_1, ti_2, ti_3, ti_4, ti_5, ti_6, ti_7, ti_8, ti_9, ti_10, ti_11, ti_12, ti_m1]; omega)) (by first | assumption | omega | decide | (simp only [ti_0, ti_1, ti_2, ti_3, ti_4, ti_5, ti_6, ti_7, ti_8, ti_9, ti_10, ti_11, ti_12, ti_m1]; omega)) (hP.sub [0, 1] rfl) (hD.sub [0, 1] (by decide) rfl) hS (lv_sub hl [0, 2, 3, 4, 5, 6, 7] rfl)
              · have ic_7 : ((k9_24 : Nat) : Int) < 16 := inle c_7 (by decide) (nI_toInt (by omega))
                refine lv_iload hx hb dX9_feed_70 (lv_at hl 5 rfl) ?_
                refine lv_goto (tgt := 77) hx hb dX9_feed_72 (by decide) ?_
                refine lv_istore (lv' := [(7, .int v), (6, .int (nI k9_24)), (0, .ref h0), (1, .int x), (2, .int y), (3, .int z), (4, .int v), (5, .int w)]) hx hb dX9_feed_77 hl (by decide) rfl (fun ls hl => ?_)
                refine lv_aload_n hx hb dX9_feed_79 rfl (lv_at hl 2 rfl) ?_
                refine va_get (D := D) (ci := 9) (v := .ref (g 2)) (C := RX9) (T := TX9) (N := 37) hx hb htg gRX9 hown hK hP 0 rfl rfl 3 (by decide) (htg _ wi_1153) (fun _ h9 => h9) rfl dX9_feed_80 ?_
                refine lv_aload_n hx hb dX9_feed_83 rfl (lv_at hl 2 rfl) ?_
                refine va_get (D := D) (ci := 9) (v := .int v9_24_1) (C := RX9) (T := TX9) (N := 37) hx hb htg gRX9 hown hK hP 0 rfl rfl 5 (by decide) (htg _ wi_1155) (fun _ h9 => h9) rfl dX9_feed_84 ?_
                refine lv_iload hx hb dX9_feed_87 (lv_at hl 0 rfl) ?_
                refine lv_bipush (v := 24) hx hb dX9_feed_89 (by decide) ?_
                refine lv_bipush (v := 8) hx hb dX9_feed_91 (by decide) ?_
                refine lv_iload hx hb dX9_feed_93 (lv_at hl 1 rfl) ?_
                refine lv_iconst (v := 4) hx hb dX9_feed_95 (by decide) ?_
                refine lv_irem hx hb dX9_feed_96 (by decide) ?_
                refine lv_topi (fun z_15 ez_15 => ?_)
                refine lv_imul hx hb dX9_feed_97 ?_
                refine lv_topi (fun z_16 ez_16 => ?_)
                refine lv_isub hx hb dX9_feed_98 ?_
                refine lv_topi (fun z_17 ez_17 => ?_)
                refine lv_ishr hx hb dX9_feed_99 ?_
                refine lv_topi (fun z_18 ez_18 => ?_)
                refine lv_sipush (v := 255) hx hb dX9_feed_100 (by decide) ?_
                refine lv_iand hx hb dX9_feed_103 ?_
                refine lv_topi (fun z_19 ez_19 => ?_)
                have iz_19 : 0 ≤ z_19.toInt ∧ z_19.toInt ≤ 255 := andI ez_19 (by decide) (by decide)
                refine va_iast hx hb hK hP hD hS 1 0 rfl rfl (vp_in_iff.mpr (by omega)) dX9_feed_104 (fun H locs hP hD hS => ?_)
                obtain ⟨f_20, hP, hD⟩ : ∃ f_20 : Nat → Int32, va_P D classes [(h0, .inr (9, (.int 0 :: .ref (g 0) :: .ref (g 1) :: .ref (g 2) :: .ref (g 3) :: .int v9_24_1 :: .int b6 :: .int b7 :: .int b8 :: .int b9 :: .int b10 :: .int b11 :: .int b12 :: .int b13 :: .int b14 :: .ref (g 4) :: .ref (g 5) :: .int b17 :: .int b18 :: .int b19 :: .ref (g 6) :: .ref (g 7) :: .ref (g 8) :: .int b23 :: .int b24 :: .int b25 :: .int b26 :: .int b27 :: .ref (g 9) :: .int b29 :: .ref (g 10) :: .int b31 :: .int b32 :: .int b33 :: .ref (g 11) :: .ref (g 12) :: .ref (g 13) :: []))), ((g 2), .inl (cT 0, 900, .inl (f_20)))] H ∧ va_D A [(h0, .inr (9, (.int 0 :: .ref (g 0) :: .ref (g 1) :: .ref (g 2) :: .ref (g 3) :: .int v9_24_1 :: .int b6 :: .int b7 :: .int b8 :: .int b9 :: .int b10 :: .int b11 :: .int b12 :: .int b13 :: .int b14 :: .ref (g 4) :: .ref (g 5) :: .int b17 :: .int b18 :: .int b19 :: .ref (g 6) :: .ref (g 7) :: .ref (g 8) :: .int b23 :: .int b24 :: .int b25 :: .int b26 :: .int b27 :: .ref (g 9) :: .int b29 :: .ref (g 10) :: .int b31 :: .int b32 :: .int b33 :: .ref (g 11) :: .ref (g 12) :: .ref (g 13) :: []))), ((g 2), .inl (cT 0, 900, .inl (f_20)))] := ⟨_, hP, hD⟩
                refine lv_aload_n hx hb dX9_feed_105 rfl (lv_at hl 2 rfl) ?_
                refine lv_dup hx hb dX9_feed_106 rfl ?_
                refine va_get (D := D) (ci := 9) (v := .int v9_24_1) (C := RX9) (T := TX9) (N := 37) hx hb htg gRX9 hown hK hP 0 rfl rfl 5 (by decide) (htg _ wi_1155) (fun _ h9 => h9) rfl dX9_feed_107 ?_
                refine lv_iconst (v := 1) hx hb dX9_feed_110 (by decide) ?_
                refine lv_iadd hx hb dX9_feed_111 ?_
                refine lv_topi (fun z_21 ez_21 => ?_)
                have iz_21 : z_21.toInt = v9_24_1.toInt + 1 := toInt_addI ez_21 (rfl) (by decide) (by omega)
                refine va_put (D := D) (ci := 9) (v := .int z_21) (ty := .int) (C := RX9) (T := TX9) (N := 37) hx hb htg gRX9 tyX9 tyX9_ok nmX9 hown hK hP hD hS 0 rfl rfl 5 (by decide) (htg _ wi_1155) (fun _ h9 => h9) rfl (by decide +kernel) rfl rfl (Nat.le_of_ble_eq_true rfl) dX9_feed_112 (fun H locs hP hD hS => ?_)
                have hP : va_P D classes [(h0, .inr (9, (.int 0 :: .ref (g 0) :: .ref (g 1) :: .ref (g 2) :: .ref (g 3) :: .int z_21 :: .int b6 :: .int b7 :: .int b8 :: .int b9 :: .int b10 :: .int b11 :: .int b12 :: .int b13 :: .int b14 :: .ref (g 4) :: .ref (g 5) :: .int b17 :: .int b18 :: .int b19 :: .ref (g 6) :: .ref (g 7) :: .ref (g 8) :: .int b23 :: .int b24 :: .int b25 :: .int b26 :: .int b27 :: .ref (g 9) :: .int b29 :: .ref (g 10) :: .int b31 :: .int b32 :: .int b33 :: .ref (g 11) :: .ref (g 12) :: .ref (g 13) :: []))), ((g 2), .inl (cT 0, 900, .inl (f_20)))] _ := hP
                have hD : va_D A [(h0, .inr (9, (.int 0 :: .ref (g 0) :: .ref (g 1) :: .ref (g 2) :: .ref (g 3) :: .int z_21 :: .int b6 :: .int b7 :: .int b8 :: .int b9 :: .int b10 :: .int b11 :: .int b12 :: .int b13 :: .int b14 :: .ref (g 4) :: .ref (g 5) :: .int b17 :: .int b18 :: .int b19 :: .ref (g 6) :: .ref (g 7) :: .ref (g 8) :: .int b23 :: .int b24 :: .int b25 :: .int b26 :: .int b27 :: .ref (g 9) :: .int b29 :: .ref (g 10) :: .int b31 :: .int b32 :: .int b33 :: .ref (g 11) :: .ref (g 12) :: .ref (g 13) :: []))), ((g 2), .inl (cT 0, 900, .inl (f_20)))] := hD
                refine lv_iinc (v := (nI (k9_24 + 1))) (lv' := [(6, .int (nI (k9_24 + 1))), (7, .int v), (0, .ref h0), (1, .int x), (2, .int y), (3, .int z), (4, .int v), (5, .int w)]) hx hb dX9_feed_115 hl (k := 1) rfl (by exact nI_1 (k9_24)) (by decide) rfl (fun ls hl => ?_)
                refine lv_goto (tgt := 24) hx hb dX9_feed_118 (by decide) ?_
                exact ih_24 (k9_24 + 1) _ _ _ _ _ (by omega) (by omega) (by first | assumption | omega | decide | (simp only [ti_0, ti_1, ti_2, ti_3, ti_4, ti_5, ti_6, ti_7, ti_8, ti_9, ti_10, ti_11, ti_12, ti_m1]; omega)) (by first | assumption | omega | decide | (simp only [ti_0, ti_1, ti_2, ti_3, ti_4, ti_5, ti_6, ti_7, ti_8, ti_9, ti_10, ti_11, ti_12, ti_m1]; omega)) (hP.sub [0, 1] rfl) (hD.sub [0, 1] (by decide) rfl) hS (lv_sub hl [0, 2, 3, 4, 5, 6, 7] rfl)
            · have ic_6 : ((k9_24 : Nat) : Int) < 12 := inle c_6 (by decide) (nI_toInt (by omega))
              refine lv_iload_n hx hb dX9_feed_59 rfl (lv_at hl 4 rfl) ?_
              refine lv_goto (tgt := 77) hx hb dX9_feed_60 (by decide) ?_
              refine lv_istore (lv' := [(7, .int z), (6, .int (nI k9_24)), (0, .ref h0), (1, .int x), (2, .int y), (3, .int z), (4, .int v), (5, .int w)]) hx hb dX9_feed_77 hl (by decide) rfl (fun ls hl => ?_)
              refine lv_aload_n hx hb dX9_feed_79 rfl (lv_at hl 2 rfl) ?_
              refine va_get (D := D) (ci := 9) (v := .ref (g 2)) (C := RX9) (T := TX9) (N := 37) hx hb htg gRX9 hown hK hP 0 rfl rfl 3 (by decide) (htg _ wi_1153) (fun _ h9 => h9) rfl dX9_feed_80 ?_
              refine lv_aload_n hx hb dX9_feed_83 rfl (lv_at hl 2 rfl) ?_
              refine va_get (D := D) (ci := 9) (v := .int v9_24_1) (C := RX9) (T := TX9) (N := 37) hx hb htg gRX9 hown hK hP 0 rfl rfl 5 (by decide) (htg _ wi_1155) (fun _ h9 => h9) rfl dX9_feed_84 ?_
              refine lv_iload hx hb dX9_feed_87 (lv_at hl 0 rfl) ?_
              refine lv_bipush (v := 24) hx hb dX9_feed_89 (by decide) ?_
              refine lv_bipush (v := 8) hx hb dX9_feed_91 (by decide) ?_
              refine lv_iload hx hb dX9_feed_93 (lv_at hl 1 rfl) ?_
              refine lv_iconst (v := 4) hx hb dX9_feed_95 (by decide) ?_
              refine lv_irem hx hb dX9_feed_96 (by decide) ?_
              refine lv_topi (fun z_22 ez_22 => ?_)
              refine lv_imul hx hb dX9_feed_97 ?_
              refine lv_topi (fun z_23 ez_23 => ?_)
              refine lv_isub hx hb dX9_feed_98 ?_
              refine lv_topi (fun z_24 ez_24 => ?_)
              refine lv_ishr hx hb dX9_feed_99 ?_
              refine lv_topi (fun z_25 ez_25 => ?_)
              refine lv_sipush (v := 255) hx hb dX9_feed_100 (by decide) ?_
              refine lv_iand hx hb dX9_feed_103 ?_
              refine lv_topi (fun z_26 ez_26 => ?_)
              have iz_26 : 0 ≤ z_26.toInt ∧ z_26.toInt ≤ 255 := andI ez_26 (by decide) (by decide)
              refine va_iast hx hb hK hP hD hS 1 0 rfl rfl (vp_in_iff.mpr (by omega)) dX9_feed_104 (fun H locs hP hD hS => ?_)
              obtain ⟨f_27, hP, hD⟩ : ∃ f_27 : Nat → Int32, va_P D classes [(h0, .inr (9, (.int 0 :: .ref (g 0) :: .ref (g 1) :: .ref (g 2) :: .ref (g 3) :: .int v9_24_1 :: .int b6 :: .int b7 :: .int b8 :: .int b9 :: .int b10 :: .int b11 :: .int b12 :: .int b13 :: .int b14 :: .ref (g 4) :: .ref (g 5) :: .int b17 :: .int b18 :: .int b19 :: .ref (g 6) :: .ref (g 7) :: .ref (g 8) :: .int b23 :: .int b24 :: .int b25 :: .int b26 :: .int b27 :: .ref (g 9) :: .int b29 :: .ref (g 10) :: .int b31 :: .int b32 :: .int b33 :: .ref (g 11) :: .ref (g 12) :: .ref (g 13) :: []))), ((g 2), .inl (cT 0, 900, .inl (f_27)))] H ∧ va_D A [(h0, .inr (9, (.int 0 :: .ref (g 0) :: .ref (g 1) :: .ref (g 2) :: .ref (g 3) :: .int v9_24_1 :: .int b6 :: .int b7 :: .int b8 :: .int b9 :: .int b10 :: .int b11 :: .int b12 :: .int b13 :: .int b14 :: .ref (g 4) :: .ref (g 5) :: .int b17 :: .int b18 :: .int b19 :: .ref (g 6) :: .ref (g 7) :: .ref (g 8) :: .int b23 :: .int b24 :: .int b25 :: .int b26 :: .int b27 :: .ref (g 9) :: .int b29 :: .ref (g 10) :: .int b31 :: .int b32 :: .int b33 :: .ref (g 11) :: .ref (g 12) :: .ref (g 13) :: []))), ((g 2), .inl (cT 0, 900, .inl (f_27)))] := ⟨_, hP, hD⟩
              refine lv_aload_n hx hb dX9_feed_105 rfl (lv_at hl 2 rfl) ?_
              refine lv_dup hx hb dX9_feed_106 rfl ?_
              refine va_get (D := D) (ci := 9) (v := .int v9_24_1) (C := RX9) (T := TX9) (N := 37) hx hb htg gRX9 hown hK hP 0 rfl rfl 5 (by decide) (htg _ wi_1155) (fun _ h9 => h9) rfl dX9_feed_107 ?_
              refine lv_iconst (v := 1) hx hb dX9_feed_110 (by decide) ?_
              refine lv_iadd hx hb dX9_feed_111 ?_
              refine lv_topi (fun z_28 ez_28 => ?_)
              have iz_28 : z_28.toInt = v9_24_1.toInt + 1 := toInt_addI ez_28 (rfl) (by decide) (by omega)
              refine va_put (D := D) (ci := 9) (v := .int z_28) (ty := .int) (C := RX9) (T := TX9) (N := 37) hx hb htg gRX9 tyX9 tyX9_ok nmX9 hown hK hP hD hS 0 rfl rfl 5 (by decide) (htg _ wi_1155) (fun _ h9 => h9) rfl (by decide +kernel) rfl rfl (Nat.le_of_ble_eq_true rfl) dX9_feed_112 (fun H locs hP hD hS => ?_)
              have hP : va_P D classes [(h0, .inr (9, (.int 0 :: .ref (g 0) :: .ref (g 1) :: .ref (g 2) :: .ref (g 3) :: .int z_28 :: .int b6 :: .int b7 :: .int b8 :: .int b9 :: .int b10 :: .int b11 :: .int b12 :: .int b13 :: .int b14 :: .ref (g 4) :: .ref (g 5) :: .int b17 :: .int b18 :: .int b19 :: .ref (g 6) :: .ref (g 7) :: .ref (g 8) :: .int b23 :: .int b24 :: .int b25 :: .int b26 :: .int b27 :: .ref (g 9) :: .int b29 :: .ref (g 10) :: .int b31 :: .int b32 :: .int b33 :: .ref (g 11) :: .ref (g 12) :: .ref (g 13) :: []))), ((g 2), .inl (cT 0, 900, .inl (f_27)))] _ := hP
              have hD : va_D A [(h0, .inr (9, (.int 0 :: .ref (g 0) :: .ref (g 1) :: .ref (g 2) :: .ref (g 3) :: .int z_28 :: .int b6 :: .int b7 :: .int b8 :: .int b9 :: .int b10 :: .int b11 :: .int b12 :: .int b13 :: .int b14 :: .ref (g 4) :: .ref (g 5) :: .int b17 :: .int b18 :: .int b19 :: .ref (g 6) :: .ref (g 7) :: .ref (g 8) :: .int b23 :: .int b24 :: .int b25 :: .int b26 :: .int b27 :: .ref (g 9) :: .int b29 :: .ref (g 10) :: .int b31 :: .int b32 :: .int b33 :: .ref (g 11) :: .ref (g 12) :: .ref (g 13) :: []))), ((g 2), .inl (cT 0, 900, .inl (f_27)))] := hD
              refine lv_iinc (v := (nI (k9_24 + 1))) (lv' := [(6, .int (nI (k9_24 + 1))), (7, .int z), (0, .ref h0), (1, .int x), (2, .int y), (3, .int z), (4, .int v), (5, .int w)]) hx hb dX9_feed_115 hl (k := 1) rfl (by exact nI_1 (k9_24)) (by decide) rfl (fun ls hl => ?_)
              refine lv_goto (tgt := 24) hx hb dX9_feed_118 (by decide) ?_
              exact ih_24 (k9_24 + 1) _ _ _ _ _ (by omega) (by omega) (by first | assumption | omega | decide | (simp only [ti_0, ti_1, ti_2, ti_3, ti_4, ti_5, ti_6, ti_7, ti_8, ti_9, ti_10, ti_11, ti_12, ti_m1]; omega)) (by first | assumption | omega | decide | (simp only [ti_0, ti_1, ti_2, ti_3, ti_4, ti_5, ti_6, ti_7, ti_8, ti_9, ti_10, ti_11, ti_12, ti_m1]; omega)) (hP.sub [0, 1] rfl) (hD.sub [0, 1] (by decide) rfl) hS (lv_sub hl [0, 2, 3, 4, 5, 6, 7] rfl)
          · have ic_5 : ((k9_24 : Nat) : Int) < 8 := inle c_5 (by decide) (nI_toInt (by omega))
            refine lv_iload_n hx hb dX9_feed_48 rfl (lv_at hl 3 rfl) ?_
            refine lv_goto (tgt := 77) hx hb dX9_feed_49 (by decide) ?_
            refine lv_istore (lv' := [(7, .int y), (6, .int (nI k9_24)), (0, .ref h0), (1, .int x), (2, .int y), (3, .int z), (4, .int v), (5, .int w)]) hx hb dX9_feed_77 hl (by decide) rfl (fun ls hl => ?_)
            refine lv_aload_n hx hb dX9_feed_79 rfl (lv_at hl 2 rfl) ?_
            refine va_get (D := D) (ci := 9) (v := .ref (g 2)) (C := RX9) (T := TX9) (N := 37) hx hb htg gRX9 hown hK hP 0 rfl rfl 3 (by decide) (htg _ wi_1153) (fun _ h9 => h9) rfl dX9_feed_80 ?_
            refine lv_aload_n hx hb dX9_feed_83 rfl (lv_at hl 2 rfl) ?_
            refine va_get (D := D) (ci := 9) (v := .int v9_24_1) (C := RX9) (T := TX9) (N := 37) hx hb htg gRX9 hown hK hP 0 rfl rfl 5 (by decide) (htg _ wi_1155) (fun _ h9 => h9) rfl dX9_feed_84 ?_
            refine lv_iload hx hb dX9_feed_87 (lv_at hl 0 rfl) ?_
            refine lv_bipush (v := 24) hx hb dX9_feed_89 (by decide) ?_
            refine lv_bipush (v := 8) hx hb dX9_feed_91 (by decide) ?_
            refine lv_iload hx hb dX9_feed_93 (lv_at hl 1 rfl) ?_
            refine lv_iconst (v := 4) hx hb dX9_feed_95 (by decide) ?_
            refine lv_irem hx hb dX9_feed_96 (by decide) ?_
            refine lv_topi (fun z_29 ez_29 => ?_)
            refine lv_imul hx hb dX9_feed_97 ?_
            refine lv_topi (fun z_30 ez_30 => ?_)
            refine lv_isub hx hb dX9_feed_98 ?_
            refine lv_topi (fun z_31 ez_31 => ?_)
            refine lv_ishr hx hb dX9_feed_99 ?_
            refine lv_topi (fun z_32 ez_32 => ?_)
            refine lv_sipush (v := 255) hx hb dX9_feed_100 (by decide) ?_
            refine lv_iand hx hb dX9_feed_103 ?_
            refine lv_topi (fun z_33 ez_33 => ?_)
            have iz_33 : 0 ≤ z_33.toInt ∧ z_33.toInt ≤ 255 := andI ez_33 (by decide) (by decide)
            refine va_iast hx hb hK hP hD hS 1 0 rfl rfl (vp_in_iff.mpr (by omega)) dX9_feed_104 (fun H locs hP hD hS => ?_)
            obtain ⟨f_34, hP, hD⟩ : ∃ f_34 : Nat → Int32, va_P D classes [(h0, .inr (9, (.int 0 :: .ref (g 0) :: .ref (g 1) :: .ref (g 2) :: .ref (g 3) :: .int v9_24_1 :: .int b6 :: .int b7 :: .int b8 :: .int b9 :: .int b10 :: .int b11 :: .int b12 :: .int b13 :: .int b14 :: .ref (g 4) :: .ref (g 5) :: .int b17 :: .int b18 :: .int b19 :: .ref (g 6) :: .ref (g 7) :: .ref (g 8) :: .int b23 :: .int b24 :: .int b25 :: .int b26 :: .int b27 :: .ref (g 9) :: .int b29 :: .ref (g 10) :: .int b31 :: .int b32 :: .int b33 :: .ref (g 11) :: .ref (g 12) :: .ref (g 13) :: []))), ((g 2), .inl (cT 0, 900, .inl (f_34)))] H ∧ va_D A [(h0, .inr (9, (.int 0 :: .ref (g 0) :: .ref (g 1) :: .ref (g 2) :: .ref (g 3) :: .int v9_24_1 :: .int b6 :: .int b7 :: .int b8 :: .int b9 :: .int b10 :: .int b11 :: .int b12 :: .int b13 :: .int b14 :: .ref (g 4) :: .ref (g 5) :: .int b17 :: .int b18 :: .int b19 :: .ref (g 6) :: .ref (g 7) :: .ref (g 8) :: .int b23 :: .int b24 :: .int b25 :: .int b26 :: .int b27 :: .ref (g 9) :: .int b29 :: .ref (g 10) :: .int b31 :: .int b32 :: .int b33 :: .ref (g 11) :: .ref (g 12) :: .ref (g 13) :: []))), ((g 2), .inl (cT 0, 900, .inl (f_34)))] := ⟨_, hP, hD⟩
            refine lv_aload_n hx hb dX9_feed_105 rfl (lv_at hl 2 rfl) ?_
            refine lv_dup hx hb dX9_feed_106 rfl ?_
            refine va_get (D := D) (ci := 9) (v := .int v9_24_1) (C := RX9) (T := TX9) (N := 37) hx hb htg gRX9 hown hK hP 0 rfl rfl 5 (by decide) (htg _ wi_1155) (fun _ h9 => h9) rfl dX9_feed_107 ?_
            refine lv_iconst (v := 1) hx hb dX9_feed_110 (by decide) ?_
            refine lv_iadd hx hb dX9_feed_111 ?_
            refine lv_topi (fun z_35 ez_35 => ?_)
            have iz_35 : z_35.toInt = v9_24_1.toInt + 1 := toInt_addI ez_35 (rfl) (by decide) (by omega)
            refine va_put (D := D) (ci := 9) (v := .int z_35) (ty := .int) (C := RX9) (T := TX9) (N := 37) hx hb htg gRX9 tyX9 tyX9_ok nmX9 hown hK hP hD hS 0 rfl rfl 5 (by decide) (htg _ wi_1155) (fun _ h9 => h9) rfl (by decide +kernel) rfl rfl (Nat.le_of_ble_eq_true rfl) dX9_feed_112 (fun H locs hP hD hS => ?_)
            have hP : va_P D classes [(h0, .inr (9, (.int 0 :: .ref (g 0) :: .ref (g 1) :: .ref (g 2) :: .ref (g 3) :: .int z_35 :: .int b6 :: .int b7 :: .int b8 :: .int b9 :: .int b10 :: .int b11 :: .int b12 :: .int b13 :: .int b14 :: .ref (g 4) :: .ref (g 5) :: .int b17 :: .int b18 :: .int b19 :: .ref (g 6) :: .ref (g 7) :: .ref (g 8) :: .int b23 :: .int b24 :: .int b25 :: .int b26 :: .int b27 :: .ref (g 9) :: .int b29 :: .ref (g 10) :: .int b31 :: .int b32 :: .int b33 :: .ref (g 11) :: .ref (g 12) :: .ref (g 13) :: []))), ((g 2), .inl (cT 0, 900, .inl (f_34)))] _ := hP
            have hD : va_D A [(h0, .inr (9, (.int 0 :: .ref (g 0) :: .ref (g 1) :: .ref (g 2) :: .ref (g 3) :: .int z_35 :: .int b6 :: .int b7 :: .int b8 :: .int b9 :: .int b10 :: .int b11 :: .int b12 :: .int b13 :: .int b14 :: .ref (g 4) :: .ref (g 5) :: .int b17 :: .int b18 :: .int b19 :: .ref (g 6) :: .ref (g 7) :: .ref (g 8) :: .int b23 :: .int b24 :: .int b25 :: .int b26 :: .int b27 :: .ref (g 9) :: .int b29 :: .ref (g 10) :: .int b31 :: .int b32 :: .int b33 :: .ref (g 11) :: .ref (g 12) :: .ref (g 13) :: []))), ((g 2), .inl (cT 0, 900, .inl (f_34)))] := hD
            refine lv_iinc (v := (nI (k9_24 + 1))) (lv' := [(6, .int (nI (k9_24 + 1))), (7, .int y), (0, .ref h0), (1, .int x), (2, .int y), (3, .int z), (4, .int v), (5, .int w)]) hx hb dX9_feed_115 hl (k := 1) rfl (by exact nI_1 (k9_24)) (by decide) rfl (fun ls hl => ?_)
            refine lv_goto (tgt := 24) hx hb dX9_feed_118 (by decide) ?_
            exact ih_24 (k9_24 + 1) _ _ _ _ _ (by omega) (by omega) (by first | assumption | omega | decide | (simp only [ti_0, ti_1, ti_2, ti_3, ti_4, ti_5, ti_6, ti_7, ti_8, ti_9, ti_10, ti_11, ti_12, ti_m1]; omega)) (by first | assumption | omega | decide | (simp only [ti_0, ti_1, ti_2, ti_3, ti_4, ti_5, ti_6, ti_7, ti_8, ti_9, ti_10, ti_11, ti_12, ti_m1]; omega)) (hP.sub [0, 1] rfl) (hD.sub [0, 1] (by decide) rfl) hS (lv_sub hl [0, 2, 3, 4, 5, 6, 7] rfl)
        · have ic_4 : ((k9_24 : Nat) : Int) < 4 := inle c_4 (by decide) (nI_toInt (by omega))
          refine lv_iload_n hx hb dX9_feed_37 rfl (lv_at hl 2 rfl) ?_
          refine lv_goto (tgt := 77) hx hb dX9_feed_38 (by decide) ?_
          refine lv_istore (lv' := [(7, .int x), (6, .int (nI k9_24)), (0, .ref h0), (1, .int x), (2, .int y), (3, .int z), (4, .int v), (5, .int w)]) hx hb dX9_feed_77 hl (by decide) rfl (fun ls hl => ?_)
          refine lv_aload_n hx hb dX9_feed_79 rfl (lv_at hl 2 rfl) ?_
          refine va_get (D := D) (ci := 9) (v := .ref (g 2)) (C := RX9) (T := TX9) (N := 37) hx hb htg gRX9 hown hK hP 0 rfl rfl 3 (by decide) (htg _ wi_1153) (fun _ h9 => h9) rfl dX9_feed_80 ?_
          refine lv_aload_n hx hb dX9_feed_83 rfl (lv_at hl 2 rfl) ?_
          refine va_get (D := D) (ci := 9) (v := .int v9_24_1) (C := RX9) (T := TX9) (N := 37) hx hb htg gRX9 hown hK hP 0 rfl rfl 5 (by decide) (htg _ wi_1155) (fun _ h9 => h9) rfl dX9_feed_84 ?_
          refine lv_iload hx hb dX9_feed_87 (lv_at hl 0 rfl) ?_
          refine lv_bipush (v := 24) hx hb dX9_feed_89 (by decide) ?_
          refine lv_bipush (v := 8) hx hb dX9_feed_91 (by decide) ?_
          refine lv_iload hx hb dX9_feed_93 (lv_at hl 1 rfl) ?_
          refine lv_iconst (v := 4) hx hb dX9_feed_95 (by decide) ?_
          refine lv_irem hx hb dX9_feed_96 (by decide) ?_
          refine lv_topi (fun z_36 ez_36 => ?_)
          refine lv_imul hx hb dX9_feed_97 ?_
          refine lv_topi (fun z_37 ez_37 => ?_)
          refine lv_isub hx hb dX9_feed_98 ?_
          refine lv_topi (fun z_38 ez_38 => ?_)
          refine lv_ishr hx hb dX9_feed_99 ?_
          refine lv_topi (fun z_39 ez_39 => ?_)
          refine lv_sipush (v := 255) hx hb dX9_feed_100 (by decide) ?_
          refine lv_iand hx hb dX9_feed_103 ?_
          refine lv_topi (fun z_40 ez_40 => ?_)
          have iz_40 : 0 ≤ z_40.toInt ∧ z_40.toInt ≤ 255 := andI ez_40 (by decide) (by decide)
          refine va_iast hx hb hK hP hD hS 1 0 rfl rfl (vp_in_iff.mpr (by omega)) dX9_feed_104 (fun H locs hP hD hS => ?_)
          obtain ⟨f_41, hP, hD⟩ : ∃ f_41 : Nat → Int32, va_P D classes [(h0, .inr (9, (.int 0 :: .ref (g 0) :: .ref (g 1) :: .ref (g 2) :: .ref (g 3) :: .int v9_24_1 :: .int b6 :: .int b7 :: .int b8 :: .int b9 :: .int b10 :: .int b11 :: .int b12 :: .int b13 :: .int b14 :: .ref (g 4) :: .ref (g 5) :: .int b17 :: .int b18 :: .int b19 :: .ref (g 6) :: .ref (g 7) :: .ref (g 8) :: .int b23 :: .int b24 :: .int b25 :: .int b26 :: .int b27 :: .ref (g 9) :: .int b29 :: .ref (g 10) :: .int b31 :: .int b32 :: .int b33 :: .ref (g 11) :: .ref (g 12) :: .ref (g 13) :: []))), ((g 2), .inl (cT 0, 900, .inl (f_41)))] H ∧ va_D A [(h0, .inr (9, (.int 0 :: .ref (g 0) :: .ref (g 1) :: .ref (g 2) :: .ref (g 3) :: .int v9_24_1 :: .int b6 :: .int b7 :: .int b8 :: .int b9 :: .int b10 :: .int b11 :: .int b12 :: .int b13 :: .int b14 :: .ref (g 4) :: .ref (g 5) :: .int b17 :: .int b18 :: .int b19 :: .ref (g 6) :: .ref (g 7) :: .ref (g 8) :: .int b23 :: .int b24 :: .int b25 :: .int b26 :: .int b27 :: .ref (g 9) :: .int b29 :: .ref (g 10) :: .int b31 :: .int b32 :: .int b33 :: .ref (g 11) :: .ref (g 12) :: .ref (g 13) :: []))), ((g 2), .inl (cT 0, 900, .inl (f_41)))] := ⟨_, hP, hD⟩
          refine lv_aload_n hx hb dX9_feed_105 rfl (lv_at hl 2 rfl) ?_
          refine lv_dup hx hb dX9_feed_106 rfl ?_
          refine va_get (D := D) (ci := 9) (v := .int v9_24_1) (C := RX9) (T := TX9) (N := 37) hx hb htg gRX9 hown hK hP 0 rfl rfl 5 (by decide) (htg _ wi_1155) (fun _ h9 => h9) rfl dX9_feed_107 ?_
          refine lv_iconst (v := 1) hx hb dX9_feed_110 (by decide) ?_
          refine lv_iadd hx hb dX9_feed_111 ?_
          refine lv_topi (fun z_42 ez_42 => ?_)
          have iz_42 : z_42.toInt = v9_24_1.toInt + 1 := toInt_addI ez_42 (rfl) (by decide) (by omega)
          refine va_put (D := D) (ci := 9) (v := .int z_42) (ty := .int) (C := RX9) (T := TX9) (N := 37) hx hb htg gRX9 tyX9 tyX9_ok nmX9 hown hK hP hD hS 0 rfl rfl 5 (by decide) (htg _ wi_1155) (fun _ h9 => h9) rfl (by decide +kernel) rfl rfl (Nat.le_of_ble_eq_true rfl) dX9_feed_112 (fun H locs hP hD hS => ?_)
          have hP : va_P D classes [(h0, .inr (9, (.int 0 :: .ref (g 0) :: .ref (g 1) :: .ref (g 2) :: .ref (g 3) :: .int z_42 :: .int b6 :: .int b7 :: .int b8 :: .int b9 :: .int b10 :: .int b11 :: .int b12 :: .int b13 :: .int b14 :: .ref (g 4) :: .ref (g 5) :: .int b17 :: .int b18 :: .int b19 :: .ref (g 6) :: .ref (g 7) :: .ref (g 8) :: .int b23 :: .int b24 :: .int b25 :: .int b26 :: .int b27 :: .ref (g 9) :: .int b29 :: .ref (g 10) :: .int b31 :: .int b32 :: .int b33 :: .ref (g 11) :: .ref (g 12) :: .ref (g 13) :: []))), ((g 2), .inl (cT 0, 900, .inl (f_41)))] _ := hP
          have hD : va_D A [(h0, .inr (9, (.int 0 :: .ref (g 0) :: .ref (g 1) :: .ref (g 2) :: .ref (g 3) :: .int z_42 :: .int b6 :: .int b7 :: .int b8 :: .int b9 :: .int b10 :: .int b11 :: .int b12 :: .int b13 :: .int b14 :: .ref (g 4) :: .ref (g 5) :: .int b17 :: .int b18 :: .int b19 :: .ref (g 6) :: .ref (g 7) :: .ref (g 8) :: .int b23 :: .int b24 :: .int b25 :: .int b26 :: .int b27 :: .ref (g 9) :: .int b29 :: .ref (g 10) :: .int b31 :: .int b32 :: .int b33 :: .ref (g 11) :: .ref (g 12) :: .ref (g 13) :: []))), ((g 2), .inl (cT 0, 900, .inl (f_41)))] := hD
          refine lv_iinc (v := (nI (k9_24 + 1))) (lv' := [(6, .int (nI (k9_24 + 1))), (7, .int x), (0, .ref h0), (1, .int x), (2, .int y), (3, .int z), (4, .int v), (5, .int w)]) hx hb dX9_feed_115 hl (k := 1) rfl (by exact nI_1 (k9_24)) (by decide) rfl (fun ls hl => ?_)
          refine lv_goto (tgt := 24) hx hb dX9_feed_118 (by decide) ?_
          exact ih_24 (k9_24 + 1) _ _ _ _ _ (by omega) (by omega) (by first | assumption | omega | decide | (simp only [ti_0, ti_1, ti_2, ti_3, ti_4, ti_5, ti_6, ti_7, ti_8, ti_9, ti_10, ti_11, ti_12, ti_m1]; omega)) (by first | assumption | omega | decide | (simp only [ti_0, ti_1, ti_2, ti_3, ti_4, ti_5, ti_6, ti_7, ti_8, ti_9, ti_10, ti_11, ti_12, ti_m1]; omega)) (hP.sub [0, 1] rfl) (hD.sub [0, 1] (by decide) rfl) hS (lv_sub hl [0, 2, 3, 4, 5, 6, 7] rfl)
  · have ic_2 : 900 < z_1.toInt := inle c_2 (rfl) (by decide)
    refine lv_bipush (v := (-5)) hx hb dX9_feed_18 (by decide) ?_
    exact x_iret hx hb hr hlk hP hD hS [0, 1] ((0, b5, a2)) rfl (by decide) ⟨by (try dsimp only); first | assumption | omega | decide | exact Or.inl (by decide) | (intro h9; exact absurd h9 (by decide)) | (intro _; omega) | (intro _; assumption) | (intro _; decide), by (try dsimp only); first | assumption | omega | decide | exact Or.inl (by decide) | (intro h9; exact absurd h9 (by decide)) | (intro _; omega) | (intro _; assumption) | (intro _; decide), trivial⟩ (by decide) (by decide) dX9_feed_20
