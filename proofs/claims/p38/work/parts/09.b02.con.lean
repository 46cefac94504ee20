set_option maxHeartbeats 4000000 in
set_option maxRecDepth 100000 in
theorem m_numbersR (l : Launch) (D : va_G) (cT : Nat → ClassId) (sz : Nat) (h0 : Nat) (g : Nat → Nat) (b0 : Int32) (b5 : Int32) (b6 : Int32) (b7 : Int32) (b8 : Int32) (b9 : Int32) (b10 : Int32) (b11 : Int32) (b12 : Int32) (b13 : Int32) (b14 : Int32) (b17 : Int32) (b18 : Int32) (b19 : Int32) (b23 : Int32) (b24 : Int32) (b25 : Int32) (b26 : Int32) (b27 : Int32) (b29 : Int32) (b31 : Int32) (b32 : Int32) (b33 : Int32) (hb5 : 0 ≤ b5.toInt ∧ b5.toInt ≤ 900) (a11 : Nat → Int32) (a12 : Nat → Int32) (e12 : EL a12 4 0 40) (a13 : Nat → Int64) (x : Int32) (y : Int32) (z : Int32) : Met l yX9_numbers (wsc yX9_numbers cX9_numbers 5 (some .int)) { frames := 3, cells := 0, slots := 0, locals := 125 } (va_Pc [.ref h0, .int x, .int y, .int z] (PX D cT sz [(sw_9 h0 g b0 b5 b6 b7 b8 b9 b10 b11 b12 b13 b14 b17 b18 b19 b23 b24 b25 b26 b27 b29 b31 b32 b33), (sw_in cT (g 11) 4 a11), (sw_in cT (g 12) 4 a12), (sw_lo cT (g 13) 160 a13)])) (va_Qi (fun (r : Int32) (u : Int32 × (Nat → Int32) × (Nat → Int32) × (Nat → Int64)) => (EL u.2.2.1 4 0 40) ∧ ((x.toInt = 0 ∧ r.toInt = 0 ∧ (u.2.1 0).toInt = y.toInt ∧ (u.2.2.1 0).toInt = z.toInt) ∨ (¬ (x.toInt = 0 ∧ r.toInt = 0) ∧ (u.2.1 0).toInt = (a11 0).toInt ∧ (u.2.2.1 0).toInt = (a12 0).toInt)) ∧ ((x.toInt = 1 ∧ r.toInt = 0 ∧ (u.2.1 1).toInt = y.toInt ∧ (u.2.2.1 1).toInt = z.toInt) ∨ (¬ (x.toInt = 1 ∧ r.toInt = 0) ∧ (u.2.1 1).toInt = (a11 1).toInt ∧ (u.2.2.1 1).toInt = (a12 1).toInt)) ∧ ((x.toInt = 2 ∧ r.toInt = 0 ∧ (u.2.1 2).toInt = y.toInt ∧ (u.2.2.1 2).toInt = z.toInt) ∨ (¬ (x.toInt = 2 ∧ r.toInt = 0) ∧ (u.2.1 2).toInt = (a11 2).toInt ∧ (u.2.2.1 2).toInt = (a12 2).toInt)) ∧ ((x.toInt = 3 ∧ r.toInt = 0 ∧ (u.2.1 3).toInt = y.toInt ∧ (u.2.2.1 3).toInt = z.toInt) ∨ (¬ (x.toInt = 3 ∧ r.toInt = 0) ∧ (u.2.1 3).toInt = (a11 3).toInt ∧ (u.2.2.1 3).toInt = (a12 3).toInt)) ∧ ((r.toInt = 0 ∧ 0 ≤ x.toInt ∧ x.toInt ≤ 3 ∧ 0 ≤ y.toInt ∧ y.toInt ≤ 3 ∧ 0 ≤ z.toInt ∧ z.toInt ≤ 40) ∨ (r.toInt = -3 ∧ 0 ≤ x.toInt ∧ x.toInt ≤ 3 ∧ 0 ≤ y.toInt ∧ y.toInt ≤ 3 ∧ (z.toInt < 0 ∨ 40 < z.toInt)) ∨ (r.toInt = -2 ∧ (x.toInt < 0 ∨ 3 < x.toInt ∨ y.toInt < 0 ∨ 3 < y.toInt))) ∧ (True)) (fun u t => RW D (va_A [(sw_9 h0 g b0 b5 b6 b7 b8 b9 b10 b11 b12 b13 b14 b17 b18 b19 b23 b24 b25 b26 b27 b29 b31 b32 b33), (sw_in cT (g 11) 4 a11), (sw_in cT (g 12) 4 a12), (sw_lo cT (g 13) 160 a13)] sz) ((fun u : Int32 × (Nat → Int32) × (Nat → Int32) × (Nat → Int64) => [(sw_9 h0 g u.1 b5 b6 b7 b8 b9 b10 b11 b12 b13 b14 b17 b18 b19 b23 b24 b25 b26 b27 b29 b31 b32 b33), (sw_in cT (g 11) 4 u.2.1), (sw_in cT (g 12) 4 u.2.2.1), (sw_lo cT (g 13) 160 u.2.2.2)]) u) t) (va_A [(sw_9 h0 g b0 b5 b6 b7 b8 b9 b10 b11 b12 b13 b14 b17 b18 b19 b23 b24 b25 b26 b27 b29 b31 b32 b33), (sw_in cT (g 11) 4 a11), (sw_in cT (g 12) 4 a12), (sw_lo cT (g 13) 160 a13)] sz)) 0 0 (va_A [(sw_9 h0 g b0 b5 b6 b7 b8 b9 b10 b11 b12 b13 b14 b17 b18 b19 b23 b24 b25 b26 b27 b29 b31 b32 b33), (sw_in cT (g 11) 4 a11), (sw_in cT (g 12) 4 a12), (sw_lo cT (g 13) 160 a13)] sz) := by
  refine m_of (y := yX9_numbers) (cc := cX9_numbers) (nL := 5) (ret := (some .int)) (D := D) (cT := cT) (av := [.ref h0, .int x, .int y, .int z]) (wi := [(sw_9 h0 g b0 b5 b6 b7 b8 b9 b10 b11 b12 b13 b14 b17 b18 b19 b23 b24 b25 b26 b27 b29 b31 b32 b33), (sw_in cT (g 11) 4 a11), (sw_in cT (g 12) 4 a12), (sw_lo cT (g 13) 160 a13)]) (fun A => va_Qi (fun (r : Int32) (u : Int32 × (Nat → Int32) × (Nat → Int32) × (Nat → Int64)) => (EL u.2.2.1 4 0 40) ∧ ((x.toInt = 0 ∧ r.toInt = 0 ∧ (u.2.1 0).toInt = y.toInt ∧ (u.2.2.1 0).toInt = z.toInt) ∨ (¬ (x.toInt = 0 ∧ r.toInt = 0) ∧ (u.2.1 0).toInt = (a11 0).toInt ∧ (u.2.2.1 0).toInt = (a12 0).toInt)) ∧ ((x.toInt = 1 ∧ r.toInt = 0 ∧ (u.2.1 1).toInt = y.toInt ∧ (u.2.2.1 1).toInt = z.toInt) ∨ (¬ (x.toInt = 1 ∧ r.toInt = 0) ∧ (u.2.1 1).toInt = (a11 1).toInt ∧ (u.2.2.1 1).toInt = (a12 1).toInt)) ∧ ((x.toInt = 2 ∧ r.toInt = 0 ∧ (u.2.1 2).toInt = y.toInt ∧ (u.2.2.1 2).toInt = z.toInt) ∨ (¬ (x.toInt = 2 ∧ r.toInt = 0) ∧ (u.2.1 2).toInt = (a11 2).toInt ∧ (u.2.2.1 2).toInt = (a12 2).toInt)) ∧ ((x.toInt = 3 ∧ r.toInt = 0 ∧ (u.2.1 3).toInt = y.toInt ∧ (u.2.2.1 3).toInt = z.toInt) ∨ (¬ (x.toInt = 3 ∧ r.toInt = 0) ∧ (u.2.1 3).toInt = (a11 3).toInt ∧ (u.2.2.1 3).toInt = (a12 3).toInt)) ∧ ((r.toInt = 0 ∧ 0 ≤ x.toInt ∧ x.toInt ≤ 3 ∧ 0 ≤ y.toInt ∧ y.toInt ≤ 3 ∧ 0 ≤ z.toInt ∧ z.toInt ≤ 40) ∨ (r.toInt = -3 ∧ 0 ≤ x.toInt ∧ x.toInt ≤ 3 ∧ 0 ≤ y.toInt ∧ y.toInt ≤ 3 ∧ (z.toInt < 0 ∨ 40 < z.toInt)) ∨ (r.toInt = -2 ∧ (x.toInt < 0 ∨ 3 < x.toInt ∨ y.toInt < 0 ∨ 3 < y.toInt))) ∧ (True)) (fun u t => RW D A ((fun u : Int32 × (Nat → Int32) × (Nat → Int32) × (Nat → Int64) => [(sw_9 h0 g u.1 b5 b6 b7 b8 b9 b10 b11 b12 b13 b14 b17 b18 b19 b23 b24 b25 b26 b27 b29 b31 b32 b33), (sw_in cT (g 11) 4 u.2.1), (sw_in cT (g 12) 4 u.2.2.1), (sw_lo cT (g 13) 160 u.2.2.2)]) u) t) A) (by decide) (Nat.le_of_ble_eq_true rfl) ?_
  intro p e s m below meth c A hx hb hml hown htg hK hN hr hlk hnm hsz hP hD hS hA ls hl
  have hown : s.vm.findClass RX9 = some m.cls := hown
  have hl : lv_has ls 5 [(0, .ref h0), (1, .int x), (2, .int y), (3, .int z)] := hl
  have t9_0 : (0 : Int32).toInt = 0 := by decide
  have t9_1 : (1 : Int32).toInt = 1 := by decide
  have t9_2 : (2 : Int32).toInt = 2 := by decide
  have t9_3 : (3 : Int32).toInt = 3 := by decide
  have tc_m3 : ((-3) : Int32).toInt = (-3) := by decide
  have tc_m2 : ((-2) : Int32).toInt = (-2) := by decide
  have tc_0 : (0 : Int32).toInt = 0 := by decide
  have tc_40 : (40 : Int32).toInt = 40 := by decide
  refine lv_aload_n hx hb dX9_numbers_0 rfl (lv_at hl 0 rfl) ?_
  refine lv_iconst (v := 0) hx hb dX9_numbers_1 (by decide) ?_
  refine va_put (D := D) (ci := 9) (v := .int 0) (ty := .int) (C := RX9) (T := TX9) (N := 37) hx hb htg gRX9 tyX9 tyX9_ok nmX9 hown hK hP hD hS 0 rfl rfl 0 (by decide) (htg _ wi_1150) (fun _ h9 => h9) rfl (by decide +kernel) rfl rfl (Nat.le_of_ble_eq_true rfl) dX9_numbers_2 (fun H locs hP hD hS => ?_)
  obtain ⟨hP, hD⟩ : PD D A [(sw_9 h0 g 0 b5 b6 b7 b8 b9 b10 b11 b12 b13 b14 b17 b18 b19 b23 b24 b25 b26 b27 b29 b31 b32 b33), (sw_in cT (g 11) 4 a11), (sw_in cT (g 12) 4 a12), (sw_lo cT (g 13) 160 a13)] _ := ⟨hP, hD⟩
  refine lv_iload_n hx hb dX9_numbers_5 rfl (lv_at hl 1 rfl) ?_
  refine lv_i2l (v := x.toInt64) hx hb dX9_numbers_6 rfl ?_
  refine lv_lconst (v := 0) hx hb dX9_numbers_7 (by decide) ?_
  refine lv_ldc2 (v := 3) hx hb hown (htg _ wi_1366) dX9_numbers_8 ?_
  have ilw_1 : (x.toInt64).toInt = x.toInt := i2l_i _
  refine xk_i (wr := [(sw_9 h0 g 0 b5 b6 b7 b8 b9 b10 b11 b12 b13 b14 b17 b18 b19 b23 b24 b25 b26 b27 b29 b31 b32 b33), (sw_in cT (g 11) 4 a11), (sw_in cT (g 12) 4 a12), (sw_lo cT (g 13) 160 a13)]) (xr_S (n := 3) (As := [.long x.toInt64, .long 0, .long 3]) (rest := []) ⟨hx, hb, hml, hown, htg⟩ hK hN hP hD hS hA [] rfl (by decide) (m_withinB l D cT _ (x.toInt64) (0) (3) (x.toInt) (0) (3) (i2l_i _) (by decide) (by decide)) wi_1270 wi_1271 wi_131 wi_1272 ⟨rfl, by decide +kernel⟩ ⟨Nat.le_of_ble_eq_true rfl, Nat.le_of_ble_eq_true rfl⟩ rfl hl.1 rfl (Nat.le_of_ble_eq_true rfl) dX9_numbers_11 ⟨Nat.le_of_ble_eq_true rfl, Nat.le_of_ble_eq_true rfl⟩) hP hD hS hA [] [0, 1, 2, 3] rfl rfl (by decide) (by decide) (fun r_3 u_2 H locs hwr_3 hP hD hS => ?_)
  obtain ⟨hP, hD⟩ : PD D A [(sw_9 h0 g 0 b5 b6 b7 b8 b9 b10 b11 b12 b13 b14 b17 b18 b19 b23 b24 b25 b26 b27 b29 b31 b32 b33), (sw_in cT (g 11) 4 a11), (sw_in cT (g 12) 4 a12), (sw_lo cT (g 13) 160 a13)] _ := ⟨hP, hD⟩
  have qr_3_0 : Imp (¬ r_3.toInt = 0) (0 ≤ x.toInt ∧ x.toInt ≤ 3) := hwr_3.1
  have qr_3_1 : Imp (r_3.toInt = 0) (x.toInt < 0 ∨ 3 < x.toInt) := hwr_3.2.1
  have qr_3_2 : r_3 = 0 ∨ r_3 = 1 := hwr_3.2.2.1
  refine lv_if_eq (tgt := 29) hx hb dX9_numbers_14 (by decide) (fun c_4 => ?_) (fun c_4 => ?_)
  · have ic_4 : r_3.toInt = 0 := ieq c_4 (rfl) (by decide)
    have kqr_3_1 : x.toInt < 0 ∨ 3 < x.toInt := qr_3_1 ic_4
    refine lv_bipush (v := (-2)) hx hb dX9_numbers_29 (by decide) ?_
    exact x_iret hx hb hr hlk hP hD hS [0, 1, 2, 3] ((0, a11, a12, a13)) rfl (by decide) ⟨by (try dsimp only); first | assumption | omega | decide | exact Or.inl (by decide) | (intro h9; exact absurd h9 (by decide)) | (intro _; omega) | (intro _; assumption) | (intro _; decide), by (try dsimp only); first | assumption | omega | decide | exact Or.inl (by decide) | (intro h9; exact absurd h9 (by decide)) | (intro _; omega) | (intro _; assumption) | (intro _; decide), by (try dsimp only); first | assumption | omega | decide | exact Or.inl (by decide) | (intro h9; exact absurd h9 (by decide)) | (intro _; omega) | (intro _; assumption) | (intro _; decide), by (try dsimp only); first | assumption | omega | decide | exact Or.inl (by decide) | (intro h9; exact absurd h9 (by decide)) | (intro _; omega) | (intro _; assumption) | (intro _; decide), by (try dsimp only); first | assumption | omega | decide | exact Or.inl (by decide) | (intro h9; exact absurd h9 (by decide)) | (intro _; omega) | (intro _; assumption) | (intro _; decide), by (try dsimp only); first | assumption | omega | decide | exact Or.inl (by decide) | (intro h9; exact absurd h9 (by decide)) | (intro _; omega) | (intro _; assumption) | (intro _; decide), trivial⟩ (by decide) (by decide) dX9_numbers_31
  · have ic_4 : ¬ r_3.toInt = 0 := ine c_4 (rfl) (by decide)
    have kqr_3_0 : 0 ≤ x.toInt ∧ x.toInt ≤ 3 := qr_3_0 ic_4
    refine lv_iload_n hx hb dX9_numbers_17 rfl (lv_at hl 2 rfl) ?_
    refine lv_i2l (v := y.toInt64) hx hb dX9_numbers_18 rfl ?_
    refine lv_lconst (v := 0) hx hb dX9_numbers_19 (by decide) ?_
    refine lv_ldc2 (v := 3) hx hb hown (htg _ wi_1366) dX9_numbers_20 ?_
    have ilw_5 : (y.toInt64).toInt = y.toInt := i2l_i _
    refine xk_i (wr := [(sw_9 h0 g 0 b5 b6 b7 b8 b9 b10 b11 b12 b13 b14 b17 b18 b19 b23 b24 b25 b26 b27 b29 b31 b32 b33), (sw_in cT (g 11) 4 a11), (sw_in cT (g 12) 4 a12), (sw_lo cT (g 13) 160 a13)]) (xr_S (n := 3) (As := [.long y.toInt64, .long 0, .long 3]) (rest := []) ⟨hx, hb, hml, hown, htg⟩ hK hN hP hD hS hA [] rfl (by decide) (m_withinB l D cT _ (y.toInt64) (0) (3) (y.toInt) (0) (3) (i2l_i _) (by decide) (by decide)) wi_1270 wi_1271 wi_131 wi_1272 ⟨rfl, by decide +kernel⟩ ⟨Nat.le_of_ble_eq_true rfl, Nat.le_of_ble_eq_true rfl⟩ rfl hl.1 rfl (Nat.le_of_ble_eq_true rfl) dX9_numbers_23 ⟨Nat.le_of_ble_eq_true rfl, Nat.le_of_ble_eq_true rfl⟩) hP hD hS hA [] [0, 1, 2, 3] rfl rfl (by decide) (by decide) (fun r_7 u_6 H locs hwr_7 hP hD hS => ?_)
    obtain ⟨hP, hD⟩ : PD D A [(sw_9 h0 g 0 b5 b6 b7 b8 b9 b10 b11 b12 b13 b14 b17 b18 b19 b23 b24 b25 b26 b27 b29 b31 b32 b33), (sw_in cT (g 11) 4 a11), (sw_in cT (g 12) 4 a12), (sw_lo cT (g 13) 160 a13)] _ := ⟨hP, hD⟩
    have qr_7_0 : Imp (¬ r_7.toInt = 0) (0 ≤ y.toInt ∧ y.toInt ≤ 3) := hwr_7.1
    have qr_7_1 : Imp (r_7.toInt = 0) (y.toInt < 0 ∨ 3 < y.toInt) := hwr_7.2.1
    have qr_7_2 : r_7 = 0 ∨ r_7 = 1 := hwr_7.2.2.1
    refine lv_if_ne (tgt := 32) hx hb dX9_numbers_26 (by decide) (fun c_8 => ?_) (fun c_8 => ?_)
    · have ic_8 : ¬ r_7.toInt = 0 := ine c_8 (rfl) (by decide)
      have kqr_7_0 : 0 ≤ y.toInt ∧ y.toInt ≤ 3 := qr_7_0 ic_8
      refine lv_iload_n hx hb dX9_numbers_32 rfl (lv_at hl 3 rfl) ?_
      refine lv_i2l (v := z.toInt64) hx hb dX9_numbers_33 rfl ?_
      refine lv_lconst (v := 0) hx hb dX9_numbers_34 (by decide) ?_
      refine lv_ldc2 (v := 40) hx hb hown (htg _ wi_1599) dX9_numbers_35 ?_
      have ilw_9 : (z.toInt64).toInt = z.toInt := i2l_i _
      refine xk_i (wr := [(sw_9 h0 g 0 b5 b6 b7 b8 b9 b10 b11 b12 b13 b14 b17 b18 b19 b23 b24 b25 b26 b27 b29 b31 b32 b33), (sw_in cT (g 11) 4 a11), (sw_in cT (g 12) 4 a12), (sw_lo cT (g 13) 160 a13)]) (xr_S (n := 3) (As := [.long z.toInt64, .long 0, .long 40]) (rest := []) ⟨hx, hb, hml, hown, htg⟩ hK hN hP hD hS hA [] rfl (by decide) (m_withinB l D cT _ (z.toInt64) (0) (40) (z.toInt) (0) (40) (i2l_i _) (by decide) (by decide)) wi_1270 wi_1271 wi_131 wi_1272 ⟨rfl, by decide +kernel⟩ ⟨Nat.le_of_ble_eq_true rfl, Nat.le_of_ble_eq_true rfl⟩ rfl hl.1 rfl (Nat.le_of_ble_eq_true rfl) dX9_numbers_38 ⟨Nat.le_of_ble_eq_true rfl, Nat.le_of_ble_eq_true rfl⟩) hP hD hS hA [] [0, 1, 2, 3] rfl rfl (by decide) (by decide) (fun r_11 u_10 H locs hwr_11 hP hD hS => ?_)
      obtain ⟨hP, hD⟩ : PD D A [(sw_9 h0 g 0 b5 b6 b7 b8 b9 b10 b11 b12 b13 b14 b17 b18 b19 b23 b24 b25 b26 b27 b29 b31 b32 b33), (sw_in cT (g 11) 4 a11), (sw_in cT (g 12) 4 a12), (sw_lo cT (g 13) 160 a13)] _ := ⟨hP, hD⟩
      have qr_11_0 : Imp (¬ r_11.toInt = 0) (0 ≤ z.toInt ∧ z.toInt ≤ 40) := hwr_11.1
      have qr_11_1 : Imp (r_11.toInt = 0) (z.toInt < 0 ∨ 40 < z.toInt) := hwr_11.2.1
      have qr_11_2 : r_11 = 0 ∨ r_11 = 1 := hwr_11.2.2.1
      refine lv_if_ne (tgt := 47) hx hb dX9_numbers_41 (by decide) (fun c_12 => ?_) (fun c_12 => ?_)
      · have ic_12 : ¬ r_11.toInt = 0 := ine c_12 (rfl) (by decide)
        have kqr_11_0 : 0 ≤ z.toInt ∧ z.toInt ≤ 40 := qr_11_0 ic_12
        have c_13 : x = 0 ∨ x = 1 ∨ x = 2 ∨ x = 3 := by
          rcases (show x.toInt = 0 ∨ x.toInt = 1 ∨ x.toInt = 2 ∨ x.toInt = 3 from by omega) with h | h | h | h
          · exact Or.inl (i32_is (h.trans (by decide)))
          · exact Or.inr (Or.inl (i32_is (h.trans (by decide))))
          · exact Or.inr (Or.inr (Or.inl (i32_is (h.trans (by decide)))))
          · exact Or.inr (Or.inr (Or.inr (i32_is (h.trans (by decide)))))
        rcases c_13 with rfl | rfl | rfl | rfl
        · refine lv_aload_n hx hb dX9_numbers_47 rfl (lv_at hl 0 rfl) ?_
          refine va_get (D := D) (ci := 9) (v := .ref (g 11)) (C := RX9) (T := TX9) (N := 37) hx hb htg gRX9 hown hK hP 0 rfl rfl 34 (by decide) (htg _ wi_1184) (fun _ h9 => h9) rfl dX9_numbers_48 ?_
          refine lv_iload_n hx hb dX9_numbers_51 rfl (lv_at hl 1 rfl) ?_
          refine lv_iload_n hx hb dX9_numbers_52 rfl (lv_at hl 2 rfl) ?_
          refine va_iast hx hb hK hP hD hS 1 0 rfl rfl (by unfold vp_in; decide) dX9_numbers_53 (fun H locs hP hD hS => ?_)
          obtain ⟨f_14, ef_14, hP, hD⟩ : ∃ f_14 : Nat → Int32, f_14 = upd (a11) (0 : Int32).toNatClampNeg y ∧ PD D A [(sw_9 h0 g 0 b5 b6 b7 b8 b9 b10 b11 b12 b13 b14 b17 b18 b19 b23 b24 b25 b26 b27 b29 b31 b32 b33), (sw_in cT (g 11) 4 f_14), (sw_in cT (g 12) 4 a12), (sw_lo cT (g 13) 160 a13)] H := ⟨_, rfl, hP, hD⟩
          have nf_14_0 : (f_14 0).toInt = y.toInt := by rw [ef_14]; exact (congrArg Int32.toInt (if_pos (by decide))).trans (rfl)
          have nf_14_1 : (f_14 1).toInt = ((a11) 1).toInt := by rw [ef_14]; exact congrArg Int32.toInt (if_neg (by decide))
          have nf_14_2 : (f_14 2).toInt = ((a11) 2).toInt := by rw [ef_14]; exact congrArg Int32.toInt (if_neg (by decide))
          have nf_14_3 : (f_14 3).toInt = ((a11) 3).toInt := by rw [ef_14]; exact congrArg Int32.toInt (if_neg (by decide))
          refine lv_aload_n hx hb dX9_numbers_54 rfl (lv_at hl 0 rfl) ?_
          refine va_get (D := D) (ci := 9) (v := .ref (g 12)) (C := RX9) (T := TX9) (N := 37) hx hb htg gRX9 hown hK hP 0 rfl rfl 35 (by decide) (htg _ wi_1185) (fun _ h9 => h9) rfl dX9_numbers_55 ?_
          refine lv_iload_n hx hb dX9_numbers_58 rfl (lv_at hl 1 rfl) ?_
          refine lv_iload_n hx hb dX9_numbers_59 rfl (lv_at hl 3 rfl) ?_
          refine va_iast hx hb hK hP hD hS 2 0 rfl rfl (by unfold vp_in; decide) dX9_numbers_60 (fun H locs hP hD hS => ?_)
          obtain ⟨f_15, ef_15, hP, hD⟩ : ∃ f_15 : Nat → Int32, f_15 = upd (a12) (0 : Int32).toNatClampNeg z ∧ PD D A [(sw_9 h0 g 0 b5 b6 b7 b8 b9 b10 b11 b12 b13 b14 b17 b18 b19 b23 b24 b25 b26 b27 b29 b31 b32 b33), (sw_in cT (g 11) 4 f_14), (sw_in cT (g 12) 4 f_15), (sw_lo cT (g 13) 160 a13)] H := ⟨_, rfl, hP, hD⟩
          have qf_15 : EL f_15 4 0 40 := by rw [ef_15]; exact el_upd e12 (rfl) (by omega)
          have nf_15_0 : (f_15 0).toInt = z.toInt := by rw [ef_15]; exact (congrArg Int32.toInt (if_pos (by decide))).trans (rfl)
          have nf_15_1 : (f_15 1).toInt = ((a12) 1).toInt := by rw [ef_15]; exact congrArg Int32.toInt (if_neg (by decide))
          have nf_15_2 : (f_15 2).toInt = ((a12) 2).toInt := by rw [ef_15]; exact congrArg Int32.toInt (if_neg (by decide))
          have nf_15_3 : (f_15 3).toInt = ((a12) 3).toInt := by rw [ef_15]; exact congrArg Int32.toInt (if_neg (by decide))
          refine lv_iconst (v := 0) hx hb dX9_numbers_61 (by decide) ?_
          refine lv_istore (lv' := [(4, .int 0), (0, .ref h0), (1, .int 0), (2, .int y), (3, .int z)]) hx hb dX9_numbers_62 hl (by decide) rfl (fun ls hl => ?_)
          refine (fun (key : ∀ (n9_64 : Nat) (k9_64 : Nat) (f9_64_0 : Nat → Int64) (H : Heap) (locs : List Loc) (ls : Array Slot), (k9_64 : Int) ≤ z.toInt → z.toInt < (k9_64 : Int) + n9_64 → PD D A [(sw_9 h0 g 0 b5 b6 b7 b8 b9 b10 b11 b12 b13 b14 b17 b18 b19 b23 b24 b25 b26 b27 b29 b31 b32 b33), (sw_in cT (g 11) 4 f_14), (sw_in cT (g 12) 4 f_15), (sw_lo cT (g 13) 160 f9_64_0)] H → va_S A s.heap H locs → lv_has ls 5 [(4, .int (nI k9_64)), (0, .ref h0), (1, .int 0), (2, .int y), (3, .int z)] → W p l e _ s m _ below meth c H locs _ _ _ (F0 m 64 ls [])) => key (Int.toNat (z.toInt - 0) + 1) 0 _ _ _ _ (by omega) (by omega)  ⟨hP, hD⟩ hS (lv_sub hl [0, 1, 2, 3, 4] rfl)) ?_
          intro n9_64
          induction n9_64 with
          | zero => intro k9_64 f9_64_0 H locs ls hq1 hq2; exact absurd hq2 (by omega)
          | succ n9_64 ih_64 =>
            intro k9_64 f9_64_0 H locs ls hq1_64 hq2_64  hPD hS hl
            obtain ⟨hP, hD⟩ := hPD
            have hk9_64 : (nI k9_64).toInt = (k9_64 : Int) := nI_toInt (by omega)
            refine lv_iload hx hb dX9_numbers_64 (lv_at hl 0 rfl) ?_
            refine lv_iload_n hx hb dX9_numbers_66 rfl (lv_at hl 4 rfl) ?_
            refine lv_icmp_ge (tgt := 89) hx hb dX9_numbers_67 (by decide) (fun c_16 => ?_) (fun c_16 => ?_)
            · have ic_16 : z.toInt ≤ ((k9_64 : Nat) : Int) := ile c_16 (rfl) (nI_toInt (by omega))
              refine lv_iconst (v := 0) hx hb dX9_numbers_89 (by decide) ?_
              exact x_iret hx hb hr hlk hP hD hS [0, 1, 2, 3] ((0, f_14, f_15, f9_64_0)) rfl (by decide) ⟨by (try dsimp only); first | assumption | omega | decide | exact Or.inl (by decide) | (intro h9; exact absurd h9 (by decide)) | (intro _; omega) | (intro _; assumption) | (intro _; decide), by (try dsimp only); first | assumption | omega | decide | exact Or.inl (by decide) | (intro h9; exact absurd h9 (by decide)) | (intro _; omega) | (intro _; assumption) | (intro _; decide), by (try dsimp only); first | assumption | omega | decide | exact Or.inl (by decide) | (intro h9; exact absurd h9 (by decide)) | (intro _; omega) | (intro _; assumption) | (intro _; decide), by (try dsimp only); first | assumption | omega | decide | exact Or.inl (by decide) | (intro h9; exact absurd h9 (by decide)) | (intro _; omega) | (intro _; assumption) | (intro _; decide), by (try dsimp only); first | assumption | omega | decide | exact Or.inl (by decide) | (intro h9; exact absurd h9 (by decide)) | (intro _; omega) | (intro _; assumption) | (intro _; decide), by (try dsimp only); first | assumption | omega | decide | exact Or.inl (by decide) | (intro h9; exact absurd h9 (by decide)) | (intro _; omega) | (intro _; assumption) | (intro _; decide), trivial⟩ (by decide) (by decide) dX9_numbers_90
            · have ic_16 : ((k9_64 : Nat) : Int) < z.toInt := inle c_16 (rfl) (nI_toInt (by omega))
              refine lv_aload_n hx hb dX9_numbers_70 rfl (lv_at hl 1 rfl) ?_
              refine va_get (D := D) (ci := 9) (v := .ref (g 13)) (C := RX9) (T := TX9) (N := 37) hx hb htg gRX9 hown hK hP 0 rfl rfl 36 (by decide) (htg _ wi_1186) (fun _ h9 => h9) rfl dX9_numbers_71 ?_
              refine lv_bipush (v := 40) hx hb dX9_numbers_74 (by decide) ?_
              refine lv_iload_n hx hb dX9_numbers_76 rfl (lv_at hl 2 rfl) ?_
              refine lv_imul hx hb dX9_numbers_77 ?_
              refine lv_is (y := 0) (by decide) ?_
              refine lv_iload hx hb dX9_numbers_78 (lv_at hl 0 rfl) ?_
              refine lv_iadd hx hb dX9_numbers_80 ?_
              refine lv_is (y := nI (0 + k9_64)) (nI_add 0 (k9_64)) ?_
              refine lv_lconst (v := 0) hx hb dX9_numbers_81 (by decide) ?_
              refine va_last hx hb hK hP hD hS 3 1 rfl rfl (vp_in_nI (by omega) (by omega)) dX9_numbers_82 (fun H locs hP hD hS => ?_)
              obtain ⟨f_17, hP, hD⟩ : ∃ f_17 : Nat → Int64, PD D A [(sw_9 h0 g 0 b5 b6 b7 b8 b9 b10 b11 b12 b13 b14 b17 b18 b19 b23 b24 b25 b26 b27 b29 b31 b32 b33), (sw_in cT (g 11) 4 f_14), (sw_in cT (g 12) 4 f_15), (sw_lo cT (g 13) 160 f_17)] H := ⟨_, hP, hD⟩
              refine lv_iinc (v := (nI (k9_64 + 1))) (lv' := [(4, .int (nI (k9_64 + 1))), (0, .ref h0), (1, .int 0), (2, .int y), (3, .int z)]) hx hb dX9_numbers_83 hl (k := 0) rfl (by exact nI_1 (k9_64)) (by decide) rfl (fun ls hl => ?_)
              refine lv_goto (tgt := 64) hx hb dX9_numbers_86 (by decide) ?_
              exact ih_64 (k9_64 + 1) _ _ _ _ (by omega) (by omega)  ⟨hP.sub [0, 1, 2, 3] rfl, hD.sub [0, 1, 2, 3] (by decide) rfl⟩ hS (lv_sub hl [0, 1, 2, 3, 4] rfl)
        · refine lv_aload_n hx hb dX9_numbers_47 rfl (lv_at hl 0 rfl) ?_
          refine va_get (D := D) (ci := 9) (v := .ref (g 11)) (C := RX9) (T := TX9) (N := 37) hx hb htg gRX9 hown hK hP 0 rfl rfl 34 (by decide) (htg _ wi_1184) (fun _ h9 => h9) rfl dX9_numbers_48 ?_
          refine lv_iload_n hx hb dX9_numbers_51 rfl (lv_at hl 1 rfl) ?_
          refine lv_iload_n hx hb dX9_numbers_52 rfl (lv_at hl 2 rfl) ?_
          refine va_iast hx hb hK hP hD hS 1 0 rfl rfl (by unfold vp_in; decide) dX9_numbers_53 (fun H locs hP hD hS => ?_)
          obtain ⟨f_18, ef_18, hP, hD⟩ : ∃ f_18 : Nat → Int32, f_18 = upd (a11) (1 : Int32).toNatClampNeg y ∧ PD D A [(sw_9 h0 g 0 b5 b6 b7 b8 b9 b10 b11 b12 b13 b14 b17 b18 b19 b23 b24 b25 b26 b27 b29 b31 b32 b33), (sw_in cT (g 11) 4 f_18), (sw_in cT (g 12) 4 a12), (sw_lo cT (g 13) 160 a13)] H := ⟨_, rfl, hP, hD⟩
          have nf_18_0 : (f_18 0).toInt = ((a11) 0).toInt := by rw [ef_18]; exact congrArg Int32.toInt (if_neg (by decide))
          have nf_18_1 : (f_18 1).toInt = y.toInt := by rw [ef_18]; exact (congrArg Int32.toInt (if_pos (by decide))).trans (rfl)
          have nf_18_2 : (f_18 2).toInt = ((a11) 2).toInt := by rw [ef_18]; exact congrArg Int32.toInt (if_neg (by decide))
          have nf_18_3 : (f_18 3).toInt = ((a11) 3).toInt := by rw [ef_18]; exact congrArg Int32.toInt (if_neg (by decide))
          refine lv_aload_n hx hb dX9_numbers_54 rfl (lv_at hl 0 rfl) ?_
          refine va_get (D := D) (ci := 9) (v := .ref (g 12)) (C := RX9) (T := TX9) (N := 37) hx hb htg gRX9 hown hK hP 0 rfl rfl 35 (by decide) (htg _ wi_1185) (fun _ h9 => h9) rfl dX9_numbers_55 ?_
          refine lv_iload_n hx hb dX9_numbers_58 rfl (lv_at hl 1 rfl) ?_
          refine lv_iload_n hx hb dX9_numbers_59 rfl (lv_at hl 3 rfl) ?_
          refine va_iast hx hb hK hP hD hS 2 0 rfl rfl (by unfold vp_in; decide) dX9_numbers_60 (fun H locs hP hD hS => ?_)
          obtain ⟨f_19, ef_19, hP, hD⟩ : ∃ f_19 : Nat → Int32, f_19 = upd (a12) (1 : Int32).toNatClampNeg z ∧ PD D A [(sw_9 h0 g 0 b5 b6 b7 b8 b9 b10 b11 b12 b13 b14 b17 b18 b19 b23 b24 b25 b26 b27 b29 b31 b32 b33), (sw_in cT (g 11) 4 f_18), (sw_in cT (g 12) 4 f_19), (sw_lo cT (g 13) 160 a13)] H := ⟨_, rfl, hP, hD⟩
          have qf_19 : EL f_19 4 0 40 := by rw [ef_19]; exact el_upd e12 (rfl) (by omega)
          have nf_19_0 : (f_19 0).toInt = ((a12) 0).toInt := by rw [ef_19]; exact congrArg Int32.toInt (if_neg (by decide))
          have nf_19_1 : (f_19 1).toInt = z.toInt := by rw [ef_19]; exact (congrArg Int32.toInt (if_pos (by decide))).trans (rfl)
          have nf_19_2 : (f_19 2).toInt = ((a12) 2).toInt := by rw [ef_19]; exact congrArg Int32.toInt (if_neg (by decide))
          have nf_19_3 : (f_19 3).toInt = ((a12) 3).toInt := by rw [ef_19]; exact congrArg Int32.toInt (if_neg (by decide))
          refine lv_iconst (v := 0) hx hb dX9_numbers_61 (by decide) ?_
          refine lv_istore (lv' := [(4, .int 0), (0, .ref h0), (1, .int 1), (2, .int y), (3, .int z)]) hx hb dX9_numbers_62 hl (by decide) rfl (fun ls hl => ?_)
          refine (fun (key : ∀ (n9_64 : Nat) (k9_64 : Nat) (f9_64_0 : Nat → Int64) (H : Heap) (locs : List Loc) (ls : Array Slot), (k9_64 : Int) ≤ z.toInt → z.toInt < (k9_64 : Int) + n9_64 → PD D A [(sw_9 h0 g 0 b5 b6 b7 b8 b9 b10 b11 b12 b13 b14 b17 b18 b19 b23 b24 b25 b26 b27 b29 b31 b32 b33), (sw_in cT (g 11) 4 f_18), (sw_in cT (g 12) 4 f_19), (sw_lo cT (g 13) 160 f9_64_0)] H → va_S A s.heap H locs → lv_has ls 5 [(4, .int (nI k9_64)), (0, .ref h0), (1, .int 1), (2, .int y), (3, .int z)] → W p l e _ s m _ below meth c H locs _ _ _ (F0 m 64 ls [])) => key (Int.toNat (z.toInt - 0) + 1) 0 _ _ _ _ (by omega) (by omega)  ⟨hP, hD⟩ hS (lv_sub hl [0, 1, 2, 3, 4] rfl)) ?_
          intro n9_64
          induction n9_64 with
          | zero => intro k9_64 f9_64_0 H locs ls hq1 hq2; exact absurd hq2 (by omega)
          | succ n9_64 ih_64 =>
            intro k9_64 f9_64_0 H locs ls hq1_64 hq2_64  hPD hS hl
            obtain ⟨hP, hD⟩ := hPD
            have hk9_64 : (nI k9_64).toInt = (k9_64 : Int) := nI_toInt (by omega)
            refine lv_iload hx hb dX9_numbers_64 (lv_at hl 0 rfl) ?_
            refine lv_iload_n hx hb dX9_numbers_66 rfl (lv_at hl 4 rfl) ?_
            refine lv_icmp_ge (tgt := 89) hx hb dX9_numbers_67 (by decide) (fun c_20 => ?_) (fun c_20 => ?_)
            · have ic_20 : z.toInt ≤ ((k9_64 : Nat) : Int) := ile c_20 (rfl) (nI_toInt (by omega))
              refine lv_iconst (v := 0) hx hb dX9_numbers_89 (by decide) ?_
              exact x_iret hx hb hr hlk hP hD hS [0, 1, 2, 3] ((0, f_18, f_19, f9_64_0)) rfl (by decide) ⟨by (try dsimp only); first | assumption | omega | decide | exact Or.inl (by decide) | (intro h9; exact absurd h9 (by decide)) | (intro _; omega) | (intro _; assumption) | (intro _; decide), by (try dsimp only); first | assumption | omega | decide | exact Or.inl (by decide) | (intro h9; exact absurd h9 (by decide)) | (intro _; omega) | (intro _; assumption) | (intro _; decide), by (try dsimp only); first | assumption | omega | decide | exact Or.inl (by decide) | (intro h9; exact absurd h9 (by decide)) | (intro _; omega) | (intro _; assumption) | (intro _; decide), by (try dsimp only); first | assumption | omega | decide | exact Or.inl (by decide) | (intro h9; exact absurd h9 (by decide)) | (intro _; omega) | (intro _; assumption) | (intro _; decide), by (try dsimp only); first | assumption | omega | decide | exact Or.inl (by decide) | (intro h9; exact absurd h9 (by decide)) | (intro _; omega) | (intro _; assumption) | (intro _; decide), by (try dsimp only); first | assumption | omega | decide | exact Or.inl (by decide) | (intro h9; exact absurd h9 (by decide)) | (intro _; omega) | (intro _; assumption) | (intro _; decide), trivial⟩ (by decide) (by decide) dX9_numbers_90
            · have ic_20 : ((k9_64 : Nat) : Int) < z.toInt := inle c_20 (rfl) (nI_toInt (by omega))
              refine lv_aload_n hx hb dX9_numbers_70 rfl (lv_at hl 1 rfl) ?_
              refine va_get (D := D) (ci := 9) (v := .ref (g 13)) (C := RX9) (T := TX9) (N := 37) hx hb htg gRX9 hown hK hP 0 rfl rfl 36 (by decide) (htg _ wi_1186) (fun _ h9 => h9) rfl dX9_numbers_71 ?_
              refine lv_bipush (v := 40) hx hb dX9_numbers_74 (by decide) ?_
              refine lv_iload_n hx hb dX9_numbers_76 rfl (lv_at hl 2 rfl) ?_
              refine lv_imul hx hb dX9_numbers_77 ?_
              refine lv_is (y := 40) (by decide) ?_
              refine lv_iload hx hb dX9_numbers_78 (lv_at hl 0 rfl) ?_
              refine lv_iadd hx hb dX9_numbers_80 ?_
              refine lv_is (y := nI (40 + k9_64)) (nI_add 40 (k9_64)) ?_
              refine lv_lconst (v := 0) hx hb dX9_numbers_81 (by decide) ?_
              refine va_last hx hb hK hP hD hS 3 1 rfl rfl (vp_in_nI (by omega) (by omega)) dX9_numbers_82 (fun H locs hP hD hS => ?_)
              obtain ⟨f_21, hP, hD⟩ : ∃ f_21 : Nat → Int64, PD D A [(sw_9 h0 g 0 b5 b6 b7 b8 b9 b10 b11 b12 b13 b14 b17 b18 b19 b23 b24 b25 b26 b27 b29 b31 b32 b33), (sw_in cT (g 11) 4 f_18), (sw_in cT (g 12) 4 f_19), (sw_lo cT (g 13) 160 f_21)] H := ⟨_, hP, hD⟩
              refine lv_iinc (v := (nI (k9_64 + 1))) (lv' := [(4, .int (nI (k9_64 + 1))), (0, .ref h0), (1, .int 1), (2, .int y), (3, .int z)]) hx hb dX9_numbers_83 hl (k := 0) rfl (by exact nI_1 (k9_64)) (by decide) rfl (fun ls hl => ?_)
              refine lv_goto (tgt := 64) hx hb dX9_numbers_86 (by decide) ?_
              exact ih_64 (k9_64 + 1) _ _ _ _ (by omega) (by omega)  ⟨hP.sub [0, 1, 2, 3] rfl, hD.sub [0, 1, 2, 3] (by decide) rfl⟩ hS (lv_sub hl [0, 1, 2, 3, 4] rfl)
        · refine lv_aload_n hx hb dX9_numbers_47 rfl (lv_at hl 0 rfl) ?_
          refine va_get (D := D) (ci := 9) (v := .ref (g 11)) (C := RX9) (T := TX9) (N := 37) hx hb htg gRX9 hown hK hP 0 rfl rfl 34 (by decide) (htg _ wi_1184) (fun _ h9 => h9) rfl dX9_numbers_48 ?_
          refine lv_iload_n hx hb dX9_numbers_51 rfl (lv_at hl 1 rfl) ?_
          refine lv_iload_n hx hb dX9_numbers_52 rfl (lv_at hl 2 rfl) ?_
          refine va_iast hx hb hK hP hD hS 1 0 rfl rfl (by unfold vp_in; decide) dX9_numbers_53 (fun H locs hP hD hS => ?_)
          obtain ⟨f_22, ef_22, hP, hD⟩ : ∃ f_22 : Nat → Int32, f_22 = upd (a11) (2 : Int32).toNatClampNeg y ∧ PD D A [(sw_9 h0 g 0 b5 b6 b7 b8 b9 b10 b11 b12 b13 b14 b17 b18 b19 b23 b24 b25 b26 b27 b29 b31 b32 b33), (sw_in cT (g 11) 4 f_22), (sw_in cT (g 12) 4 a12), (sw_lo cT (g 13) 160 a13)] H := ⟨_, rfl, hP, hD⟩
          have nf_22_0 : (f_22 0).toInt = ((a11) 0).toInt := by rw [ef_22]; exact congrArg Int32.toInt (if_neg (by decide))
          have nf_22_1 : (f_22 1).toInt = ((a11) 1).toInt := by rw [ef_22]; exact congrArg Int32.toInt (if_neg (by decide))
          have nf_22_2 : (f_22 2).toInt = y.toInt := by rw [ef_22]; exact (congrArg Int32.toInt (if_pos (by decide))).trans (rfl)
          have nf_22_3 : (f_22 3).toInt = ((a11) 3).toInt := by rw [ef_22]; exact congrArg Int32.toInt (if_neg (by decide))
          refine lv_aload_n hx hb dX9_numbers_54 rfl (lv_at hl 0 rfl) ?_
          refine va_get (D := D) (ci := 9) (v := .ref (g 12)) (C := RX9) (T := TX9) (N := 37) hx hb htg gRX9 hown hK hP 0 rfl rfl 35 (by decide) (htg _ wi_1185) (fun _ h9 => h9) rfl dX9_numbers_55 ?_
          refine lv_iload_n hx hb dX9_numbers_58 rfl (lv_at hl 1 rfl) ?_
          refine lv_iload_n hx hb dX9_numbers_59 rfl (lv_at hl 3 rfl) ?_
          refine va_iast hx hb hK hP hD hS 2 0 rfl rfl (by unfold vp_in; decide) dX9_numbers_60 (fun H locs hP hD hS => ?_)
          obtain ⟨f_23, ef_23, hP, hD⟩ : ∃ f_23 : Nat → Int32, f_23 = upd (a12) (2 : Int32).toNatClampNeg z ∧ PD D A [(sw_9 h0 g 0 b5 b6 b7 b8 b9 b10 b11 b12 b13 b14 b17 b18 b19 b23 b24 b25 b26 b27 b29 b31 b32 b33), (sw_in cT (g 11) 4 f_22), (sw_in cT (g 12) 4 f_23), (sw_lo cT (g 13) 160 a13)] H := ⟨_, rfl, hP, hD⟩
          have qf_23 : EL f_23 4 0 40 := by rw [ef_23]; exact el_upd e12 (rfl) (by omega)
          have nf_23_0 : (f_23 0).toInt = ((a12) 0).toInt := by rw [ef_23]; exact congrArg Int32.toInt (if_neg (by decide))
          have nf_23_1 : (f_23 1).toInt = ((a12) 1).toInt := by rw [ef_23]; exact congrArg Int32.toInt (if_neg (by decide))
          have nf_23_2 : (f_23 2).toInt = z.toInt := by rw [ef_23]; exact (congrArg Int32.toInt (if_pos (by decide))).trans (rfl)
          have nf_23_3 : (f_23 3).toInt = ((a12) 3).toInt := by rw [ef_23]; exact congrArg Int32.toInt (if_neg (by decide))
          refine lv_iconst (v := 0) hx hb dX9_numbers_61 (by decide) ?_
          refine lv_istore (lv' := [(4, .int 0), (0, .ref h0), (1, .int 2), (2, .int y), (3, .int z)]) hx hb dX9_numbers_62 hl (by decide) rfl (fun ls hl => ?_)
          refine (fun (key : ∀ (n9_64 : Nat) (k9_64 : Nat) (f9_64_0 : Nat → Int64) (H : Heap) (locs : List Loc) (ls : Array Slot), (k9_64 : Int) ≤ z.toInt → z.toInt < (k9_64 : Int) + n9_64 → PD D A [(sw_9 h0 g 0 b5 b6 b7 b8 b9 b10 b11 b12 b13 b14 b17 b18 b19 b23 b24 b25 b26 b27 b29 b31 b32 b33), (sw_in cT (g 11) 4 f_22), (sw_in cT (g 12) 4 f_23), (sw_lo cT (g 13) 160 f9_64_0)] H → va_S A s.heap H locs → lv_has ls 5 [(4, .int (nI k9_64)), (0, .ref h0), (1, .int 2), (2, .int y), (3, .int z)] → W p l e _ s m _ below meth c H locs _ _ _ (F0 m 64 ls [])) => key (Int.toNat (z.toInt - 0) + 1) 0 _ _ _ _ (by omega) (by omega)  ⟨hP, hD⟩ hS (lv_sub hl [0, 1, 2, 3, 4] rfl)) ?_
          intro n9_64
          induction n9_64 with
          | zero => intro k9_64 f9_64_0 H locs ls hq1 hq2; exact absurd hq2 (by omega)
          | succ n9_64 ih_64 =>
            intro k9_64 f9_64_0 H locs ls hq1_64 hq2_64  hPD hS hl
            obtain ⟨hP, hD⟩ := hPD
            have hk9_64 : (nI k9_64).toInt = (k9_64 : Int) := nI_toInt (by omega)
            refine lv_iload hx hb dX9_numbers_64 (lv_at hl 0 rfl) ?_
            refine lv_iload_n hx hb dX9_numbers_66 rfl (lv_at hl 4 rfl) ?_
            refine lv_icmp_ge (tgt := 89) hx hb dX9_numbers_67 (by decide) (fun c_24 => ?_) (fun c_24 => ?_)
            · have ic_24 : z.toInt ≤ ((k9_64 : Nat) : Int) := ile c_24 (rfl) (nI_toInt (by omega))
              refine lv_iconst (v := 0) hx hb dX9_numbers_89 (by decide) ?_
              exact x_iret hx hb hr hlk hP hD hS [0, 1, 2, 3] ((0, f_22, f_23, f9_64_0)) rfl (by decide) ⟨by (try dsimp only); first | assumption | omega | decide | exact Or.inl (by decide) | (intro h9; exact absurd h9 (by decide)) | (intro _; omega) | (intro _; assumption) | (intro _; decide), by (try dsimp only); first | assumption | omega | decide | exact Or.inl (by decide) | (intro h9; exact absurd h9 (by decide)) | (intro _; omega) | (intro _; assumption) | (intro _; decide), by (try dsimp only); first | assumption | omega | decide | exact Or.inl (by decide) | (intro h9; exact absurd h9 (by decide)) | (intro _; omega) | (intro _; assumption) | (intro _; decide), by (try dsimp only); first | assumption | omega | decide | exact Or.inl (by decide) | (intro h9; exact absurd h9 (by decide)) | (intro _; omega) | (intro _; assumption) | (intro _; decide), by (try dsimp only); first | assumption | omega | decide | exact Or.inl (by decide) | (intro h9; exact absurd h9 (by decide)) | (intro _; omega) | (intro _; assumption) | (intro _; decide), by (try dsimp only); first | assumption | omega | decide | exact Or.inl (by decide) | (intro h9; exact absurd h9 (by decide)) | (intro _; omega) | (intro _; assumption) | (intro _; decide), trivial⟩ (by decide) (by decide) dX9_numbers_90
            · have ic_24 : ((k9_64 : Nat) : Int) < z.toInt := inle c_24 (rfl) (nI_toInt (by omega))
              refine lv_aload_n hx hb dX9_numbers_70 rfl (lv_at hl 1 rfl) ?_
              refine va_get (D := D) (ci := 9) (v := .ref (g 13)) (C := RX9) (T := TX9) (N := 37) hx hb htg gRX9 hown hK hP 0 rfl rfl 36 (by decide) (htg _ wi_1186) (fun _ h9 => h9) rfl dX9_numbers_71 ?_
              refine lv_bipush (v := 40) hx hb dX9_numbers_74 (by decide) ?_
              refine lv_iload_n hx hb dX9_numbers_76 rfl (lv_at hl 2 rfl) ?_
              refine lv_imul hx hb dX9_numbers_77 ?_
              refine lv_is (y := 80) (by decide) ?_
              refine lv_iload hx hb dX9_numbers_78 (lv_at hl 0 rfl) ?_
              refine lv_iadd hx hb dX9_numbers_80 ?_
              refine lv_is (y := nI (80 + k9_64)) (nI_add 80 (k9_64)) ?_
              refine lv_lconst (v := 0) hx hb dX9_numbers_81 (by decide) ?_
              refine va_last hx hb hK hP hD hS 3 1 rfl rfl (vp_in_nI (by omega) (by omega)) dX9_numbers_82 (fun H locs hP hD hS => ?_)
              obtain ⟨f_25, hP, hD⟩ : ∃ f_25 : Nat → Int64, PD D A [(sw_9 h0 g 0 b5 b6 b7 b8 b9 b10 b11 b12 b13 b14 b17 b18 b19 b23 b24 b25 b26 b27 b29 b31 b32 b33), (sw_in cT (g 11) 4 f_22), (sw_in cT (g 12) 4 f_23), (sw_lo cT (g 13) 160 f_25)] H := ⟨_, hP, hD⟩
              refine lv_iinc (v := (nI (k9_64 + 1))) (lv' := [(4, .int (nI (k9_64 + 1))), (0, .ref h0), (1, .int 2), (2, .int y), (3, .int z)]) hx hb dX9_numbers_83 hl (k := 0) rfl (by exact nI_1 (k9_64)) (by decide) rfl (fun ls hl => ?_)
              refine lv_goto (tgt := 64) hx hb dX9_numbers_86 (by decide) ?_
              exact ih_64 (k9_64 + 1) _ _ _ _ (by omega) (by omega)  ⟨hP.sub [0, 1, 2, 3] rfl, hD.sub [0, 1, 2, 3] (by decide) rfl⟩ hS (lv_sub hl [0, 1, 2, 3, 4] rfl)
        · refine lv_aload_n hx hb dX9_numbers_47 rfl (lv_at hl 0 rfl) ?_
          refine va_get (D := D) (ci := 9) (v := .ref (g 11)) (C := RX9) (T := TX9) (N := 37) hx hb htg gRX9 hown hK hP 0 rfl rfl 34 (by decide) (htg _ wi_1184) (fun _ h9 => h9) rfl dX9_numbers_48 ?_
          refine lv_iload_n hx hb dX9_numbers_51 rfl (lv_at hl 1 rfl) ?_
          refine lv_iload_n hx hb dX9_numbers_52 rfl (lv_at hl 2 rfl) ?_
          refine va_iast hx hb hK hP hD hS 1 0 rfl rfl (by unfold vp_in; decide) dX9_numbers_53 (fun H locs hP hD hS => ?_)
          obtain ⟨f_26, ef_26, hP, hD⟩ : ∃ f_26 : Nat → Int32, f_26 = upd (a11) (3 : Int32).toNatClampNeg y ∧ PD D A [(sw_9 h0 g 0 b5 b6 b7 b8 b9 b10 b11 b12 b13 b14 b17 b18 b19 b23 b24 b25 b26 b27 b29 b31 b32 b33), (sw_in cT (g 11) 4 f_26), (sw_in cT (g 12) 4 a12), (sw_lo cT (g 13) 160 a13)] H := ⟨_, rfl, hP, hD⟩
          have nf_26_0 : (f_26 0).toInt = ((a11) 0).toInt := by rw [ef_26]; exact congrArg Int32.toInt (if_neg (by decide))
          have nf_26_1 : (f_26 1).toInt = ((a11) 1).toInt := by rw [ef_26]; exact congrArg Int32.toInt (if_neg (by decide))
          have nf_26_2 : (f_26 2).toInt = ((a11) 2).toInt := by rw [ef_26]; exact congrArg Int32.toInt (if_neg (by decide))
          have nf_26_3 : (f_26 3).toInt = y.toInt := by rw [ef_26]; exact (congrArg Int32.toInt (if_pos (by decide))).trans (rfl)
          refine lv_aload_n hx hb dX9_numbers_54 rfl (lv_at hl 0 rfl) ?_
          refine va_get (D := D) (ci := 9) (v := .ref (g 12)) (C := RX9) (T := TX9) (N := 37) hx hb htg gRX9 hown hK hP 0 rfl rfl 35 (by decide) (htg _ wi_1185) (fun _ h9 => h9) rfl dX9_numbers_55 ?_
          refine lv_iload_n hx hb dX9_numbers_58 rfl (lv_at hl 1 rfl) ?_
          refine lv_iload_n hx hb dX9_numbers_59 rfl (lv_at hl 3 rfl) ?_
          refine va_iast hx hb hK hP hD hS 2 0 rfl rfl (by unfold vp_in; decide) dX9_numbers_60 (fun H locs hP hD hS => ?_)
          obtain ⟨f_27, ef_27, hP, hD⟩ : ∃ f_27 : Nat → Int32, f_27 = upd (a12) (3 : Int32).toNatClampNeg z ∧ PD D A [(sw_9 h0 g 0 b5 b6 b7 b8 b9 b10 b11 b12 b13 b14 b17 b18 b19 b23 b24 b25 b26 b27 b29 b31 b32 b33), (sw_in cT (g 11) 4 f_26), (sw_in cT (g 12) 4 f_27), (sw_lo cT (g 13) 160 a13)] H := ⟨_, rfl, hP, hD⟩
          have qf_27 : EL f_27 4 0 40 := by rw [ef_27]; exact el_upd e12 (rfl) (by omega)
          have nf_27_0 : (f_27 0).toInt = ((a12) 0).toInt := by rw [ef_27]; exact congrArg Int32.toInt (if_neg (by decide))
          have nf_27_1 : (f_27 1).toInt = ((a12) 1).toInt := by rw [ef_27]; exact congrArg Int32.toInt (if_neg (by decide))
          have nf_27_2 : (f_27 2).toInt = ((a12) 2).toInt := by rw [ef_27]; exact congrArg Int32.toInt (if_neg (by decide))
          have nf_27_3 : (f_27 3).toInt = z.toInt := by rw [ef_27]; exact (congrArg Int32.toInt (if_pos (by decide))).trans (rfl)
          refine lv_iconst (v := 0) hx hb dX9_numbers_61 (by decide) ?_
          refine lv_istore (lv' := [(4, .int 0), (0, .ref h0), (1, .int 3), (2, .int y), (3, .int z)]) hx hb dX9_numbers_62 hl (by decide) rfl (fun ls hl => ?_)
          refine (fun (key : ∀ (n9_64 : Nat) (k9_64 : Nat) (f9_64_0 : Nat → Int64) (H : Heap) (locs : List Loc) (ls : Array Slot), (k9_64 : Int) ≤ z.toInt → z.toInt < (k9_64 : Int) + n9_64 → PD D A [(sw_9 h0 g 0 b5 b6 b7 b8 b9 b10 b11 b12 b13 b14 b17 b18 b19 b23 b24 b25 b26 b27 b29 b31 b32 b33), (sw_in cT (g 11) 4 f_26), (sw_in cT (g 12) 4 f_27), (sw_lo cT (g 13) 160 f9_64_0)] H → va_S A s.heap H locs → lv_has ls 5 [(4, .int (nI k9_64)), (0, .ref h0), (1, .int 3), (2, .int y), (3, .int z)] → W p l e _ s m _ below meth c H locs _ _ _ (F0 m 64 ls [])) => key (Int.toNat (z.toInt - 0) + 1) 0 _ _ _ _ (by omega) (by omega)  ⟨hP, hD⟩ hS (lv_sub hl [0, 1, 2, 3, 4] rfl)) ?_
          intro n9_64
          induction n9_64 with
          | zero => intro k9_64 f9_64_0 H locs ls hq1 hq2; exact absurd hq2 (by omega)
          | succ n9_64 ih_64 =>
            intro k9_64 f9_64_0 H locs ls hq1_64 hq2_64  hPD hS hl
            obtain ⟨hP, hD⟩ := hPD
            have hk9_64 : (nI k9_64).toInt = (k9_64 : Int) := nI_toInt (by omega)
            refine lv_iload hx hb dX9_numbers_64 (lv_at hl 0 rfl) ?_
            refine lv_iload_n hx hb dX9_numbers_66 rfl (lv_at hl 4 rfl) ?_
            refine lv_icmp_ge (tgt := 89) hx hb dX9_numbers_67 (by decide) (fun c_28 => ?_) (fun c_28 => ?_)
            · have ic_28 : z.toInt ≤ ((k9_64 : Nat) : Int) := ile c_28 (rfl) (nI_toInt (by omega))
              refine lv_iconst (v := 0) hx hb dX9_numbers_89 (by decide) ?_
              exact x_iret hx hb hr hlk hP hD hS [0, 1, 2, 3] ((0, f_26, f_27, f9_64_0)) rfl (by decide) ⟨by (try dsimp only); first | assumption | omega | decide | exact Or.inl (by decide) | (intro h9; exact absurd h9 (by decide)) | (intro _; omega) | (intro _; assumption) | (intro _; decide), by (try dsimp only); first | assumption | omega | decide | exact Or.inl (by decide) | (intro h9; exact absurd h9 (by decide)) | (intro _; omega) | (intro _; assumption) | (intro _; decide), by (try dsimp only); first | assumption | omega | decide | exact Or.inl (by decide) | (intro h9; exact absurd h9 (by decide)) | (intro _; omega) | (intro _; assumption) | (intro _; decide), by (try dsimp only); first | assumption | omega | decide | exact Or.inl (by decide) | (intro h9; exact absurd h9 (by decide)) | (intro _; omega) | (intro _; assumption) | (intro _; decide), by (try dsimp only); first | assumption | omega | decide | exact Or.inl (by decide) | (intro h9; exact absurd h9 (by decide)) | (intro _; omega) | (intro _; assumption) | (intro _; decide), by (try dsimp only); first | assumption | omega | decide | exact Or.inl (by decide) | (intro h9; exact absurd h9 (by decide)) | (intro _; omega) | (intro _; assumption) | (intro _; decide), trivial⟩ (by decide) (by decide) dX9_numbers_90
            · have ic_28 : ((k9_64 : Nat) : Int) < z.toInt := inle c_28 (rfl) (nI_toInt (by omega))
              refine lv_aload_n hx hb dX9_numbers_70 rfl (lv_at hl 1 rfl) ?_
              refine va_get (D := D) (ci := 9) (v := .ref (g 13)) (C := RX9) (T := TX9) (N := 37) hx hb htg gRX9 hown hK hP 0 rfl rfl 36 (by decide) (htg _ wi_1186) (fun _ h9 => h9) rfl dX9_numbers_71 ?_
              refine lv_bipush (v := 40) hx hb dX9_numbers_74 (by decide) ?_
              refine lv_iload_n hx hb dX9_numbers_76 rfl (lv_at hl 2 rfl) ?_
              refine lv_imul hx hb dX9_numbers_77 ?_
              refine lv_is (y := 120) (by decide) ?_
              refine lv_iload hx hb dX9_numbers_78 (lv_at hl 0 rfl) ?_
              refine lv_iadd hx hb dX9_numbers_80 ?_
              refine lv_is (y := nI (120 + k9_64)) (nI_add 120 (k9_64)) ?_
              refine lv_lconst (v := 0) hx hb dX9_numbers_81 (by decide) ?_
              refine va_last hx hb hK hP hD hS 3 1 rfl rfl (vp_in_nI (by omega) (by omega)) dX9_numbers_82 (fun H locs hP hD hS => ?_)
              obtain ⟨f_29, hP, hD⟩ : ∃ f_29 : Nat → Int64, PD D A [(sw_9 h0 g 0 b5 b6 b7 b8 b9 b10 b11 b12 b13 b14 b17 b18 b19 b23 b24 b25 b26 b27 b29 b31 b32 b33), (sw_in cT (g 11) 4 f_26), (sw_in cT (g 12) 4 f_27), (sw_lo cT (g 13) 160 f_29)] H := ⟨_, hP, hD⟩
              refine lv_iinc (v := (nI (k9_64 + 1))) (lv' := [(4, .int (nI (k9_64 + 1))), (0, .ref h0), (1, .int 3), (2, .int y), (3, .int z)]) hx hb dX9_numbers_83 hl (k := 0) rfl (by exact nI_1 (k9_64)) (by decide) rfl (fun ls hl => ?_)
              refine lv_goto (tgt := 64) hx hb dX9_numbers_86 (by decide) ?_
              exact ih_64 (k9_64 + 1) _ _ _ _ (by omega) (by omega)  ⟨hP.sub [0, 1, 2, 3] rfl, hD.sub [0, 1, 2, 3] (by decide) rfl⟩ hS (lv_sub hl [0, 1, 2, 3, 4] rfl)
      · have ic_12 : r_11.toInt = 0 := ieq c_12 (rfl) (by decide)
        have kqr_11_1 : z.toInt < 0 ∨ 40 < z.toInt := qr_11_1 ic_12
        refine lv_bipush (v := (-3)) hx hb dX9_numbers_44 (by decide) ?_
        exact x_iret hx hb hr hlk hP hD hS [0, 1, 2, 3] ((0, a11, a12, a13)) rfl (by decide) ⟨by (try dsimp only); first | assumption | omega | decide | exact Or.inl (by decide) | (intro h9; exact absurd h9 (by decide)) | (intro _; omega) | (intro _; assumption) | (intro _; decide), by (try dsimp only); first | assumption | omega | decide | exact Or.inl (by decide) | (intro h9; exact absurd h9 (by decide)) | (intro _; omega) | (intro _; assumption) | (intro _; decide), by (try dsimp only); first | assumption | omega | decide | exact Or.inl (by decide) | (intro h9; exact absurd h9 (by decide)) | (intro _; omega) | (intro _; assumption) | (intro _; decide), by (try dsimp only); first | assumption | omega | decide | exact Or.inl (by decide) | (intro h9; exact absurd h9 (by decide)) | (intro _; omega) | (intro _; assumption) | (intro _; decide), by (try dsimp only); first | assumption | omega | decide | exact Or.inl (by decide) | (intro h9; exact absurd h9 (by decide)) | (intro _; omega) | (intro _; assumption) | (intro _; decide), by (try dsimp only); first | assumption | omega | decide | exact Or.inl (by decide) | (intro h9; exact absurd h9 (by decide)) | (intro _; omega) | (intro _; assumption) | (intro _; decide), trivial⟩ (by decide) (by decide) dX9_numbers_46
    · have ic_8 : r_7.toInt = 0 := ieq c_8 (rfl) (by decide)
      have kqr_7_1 : y.toInt < 0 ∨ 3 < y.toInt := qr_7_1 ic_8
      refine lv_bipush (v := (-2)) hx hb dX9_numbers_29 (by decide) ?_
      exact x_iret hx hb hr hlk hP hD hS [0, 1, 2, 3] ((0, a11, a12, a13)) rfl (by decide) ⟨by (try dsimp only); first | assumption | omega | decide | exact Or.inl (by decide) | (intro h9; exact absurd h9 (by decide)) | (intro _; omega) | (intro _; assumption) | (intro _; decide), by (try dsimp only); first | assumption | omega | decide | exact Or.inl (by decide) | (intro h9; exact absurd h9 (by decide)) | (intro _; omega) | (intro _; assumption) | (intro _; decide), by (try dsimp only); first | assumption | omega | decide | exact Or.inl (by decide) | (intro h9; exact absurd h9 (by decide)) | (intro _; omega) | (intro _; assumption) | (intro _; decide), by (try dsimp only); first | assumption | omega | decide | exact Or.inl (by decide) | (intro h9; exact absurd h9 (by decide)) | (intro _; omega) | (intro _; assumption) | (intro _; decide), by (try dsimp only); first | assumption | omega | decide | exact Or.inl (by decide) | (intro h9; exact absurd h9 (by decide)) | (intro _; omega) | (intro _; assumption) | (intro _; decide), by (try dsimp only); first | assumption | omega | decide | exact Or.inl (by decide) | (intro h9; exact absurd h9 (by decide)) | (intro _; omega) | (intro _; assumption) | (intro _; decide), trivial⟩ (by decide) (by decide) dX9_numbers_31
