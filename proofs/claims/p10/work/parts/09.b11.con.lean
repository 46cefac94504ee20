set_option maxHeartbeats 4000000 in
set_option maxRecDepth 100000 in
theorem m_plainX (l : Launch) (D : va_G) (cT : Nat → ClassId) (sz : Nat) (h0 : Nat) (g : Nat → Nat) (b0 : Int32) (b5 : Int32) (b6 : Int32) (b7 : Int32) (b8 : Int32) (b9 : Int32) (b10 : Int32) (b11 : Int32) (b12 : Int32) (b13 : Int32) (b14 : Int32) (b17 : Int32) (b18 : Int32) (b19 : Int32) (b23 : Int32) (b24 : Int32) (b25 : Int32) (b26 : Int32) (b27 : Int32) (b29 : Int32) (b31 : Int32) (b32 : Int32) (b33 : Int32) (hb5 : 0 ≤ b5.toInt ∧ b5.toInt ≤ 900) (a0 : Nat → Int32) (pa0 : PI 288 a0) (a2 : Nat → Int32) (a3 : Nat → Int32) (x : Int32) (tx : Nat → Int) (hT5 : TXc tx b5.toInt a2) : Met l yX9_plain (wsc yX9_plain cX9_plain 3 (some .int)) { frames := 12, cells := 0, slots := 0, locals := 320 } (va_Pc [.ref h0, .int x] (PX D cT sz [(sw_9 h0 g b0 b5 b6 b7 b8 b9 b10 b11 b12 b13 b14 b17 b18 b19 b23 b24 b25 b26 b27 b29 b31 b32 b33), (sw_in cT (g 0) 288 a0), (sw_in cT (g 2) 900 a2), (sw_in cT (g 3) 96 a3)])) (va_Qi (fun (r : Int32) (u : Int32 × Int32 × Int32 × Int32 × Int32 × Int32 × Int32 × Int32 × Int32 × Int32 × Int32 × (Nat → Int32) × (Nat → Int32)) => (0 ≤ u.2.1.toInt ∧ u.2.1.toInt ≤ 900) ∧ (PI 288 u.2.2.2.2.2.2.2.2.2.2.2.1) ∧ ((0 ≤ x.toInt ∧ x.toInt ≤ b5.toInt ∧ u.2.1.toInt = 0) ∨ ((x.toInt < 0 ∨ b5.toInt < x.toInt) ∧ u.2.1.toInt = b5.toInt)) ∧ ((x.toInt < 0 ∨ b5.toInt < x.toInt) → r.toInt = -3) ∧ ((x.toInt < 0 ∨ b5.toInt < x.toInt) → u.2.2.2.2.2.2.2.2.2.1.toInt = b13.toInt) ∧ ((x.toInt < 0 ∨ b5.toInt < x.toInt) → u.2.2.2.2.2.2.2.2.2.2.1.toInt = b14.toInt) ∧ ((x.toInt < 0 ∨ b5.toInt < x.toInt) → u.2.2.2.2.2.2.2.2.2.2.2.1 = a0) ∧ ((0 ≤ x.toInt ∧ x.toInt ≤ b5.toInt) → u.2.2.2.2.2.2.2.2.2.1.toInt = (tellF tx x.toInt).1 4) ∧ ((0 ≤ x.toInt ∧ x.toInt ≤ b5.toInt) → (tellF tx x.toInt).1 4 = 0 → u.2.2.2.2.2.2.2.2.2.2.1.toInt = -1) ∧ ((0 ≤ x.toInt ∧ x.toInt ≤ b5.toInt) → ¬ (tellF tx x.toInt).1 4 = 0 → u.2.2.2.2.2.2.2.2.2.2.1.toInt = (tellF tx x.toInt).1 5) ∧ ((0 ≤ x.toInt ∧ x.toInt ≤ b5.toInt) → ¬ (tellF tx x.toInt).1 4 = 0 → r.toInt = -30 - (tellF tx x.toInt).1 4) ∧ ((0 ≤ x.toInt ∧ x.toInt ≤ b5.toInt) → ¬ (tellF tx x.toInt).1 4 = 0 → u.2.2.2.2.2.2.2.2.2.2.2.1 = a0) ∧ ((0 ≤ x.toInt ∧ x.toInt ≤ b5.toInt) → (tellF tx x.toInt).1 4 = 0 → r.toInt = (tellF tx x.toInt).2 9) ∧ ((0 ≤ x.toInt ∧ x.toInt ≤ b5.toInt) → (tellF tx x.toInt).1 4 = 0 → ((∀ k : Nat, k < 96 → (u.2.2.2.2.2.2.2.2.2.2.2.1 k).toInt = (tellF tx x.toInt).2 k) ∧ (∀ k : Nat, 96 ≤ k → u.2.2.2.2.2.2.2.2.2.2.2.1 k = a0 k))) ∧ (True)) (fun u t => RW D (va_A [(sw_9 h0 g b0 b5 b6 b7 b8 b9 b10 b11 b12 b13 b14 b17 b18 b19 b23 b24 b25 b26 b27 b29 b31 b32 b33), (sw_in cT (g 0) 288 a0), (sw_in cT (g 2) 900 a2), (sw_in cT (g 3) 96 a3)] sz) ((fun u : Int32 × Int32 × Int32 × Int32 × Int32 × Int32 × Int32 × Int32 × Int32 × Int32 × Int32 × (Nat → Int32) × (Nat → Int32) => [(sw_9 h0 g u.1 u.2.1 u.2.2.1 u.2.2.2.1 u.2.2.2.2.1 u.2.2.2.2.2.1 u.2.2.2.2.2.2.1 u.2.2.2.2.2.2.2.1 u.2.2.2.2.2.2.2.2.1 u.2.2.2.2.2.2.2.2.2.1 u.2.2.2.2.2.2.2.2.2.2.1 b17 b18 b19 b23 b24 b25 b26 b27 b29 b31 b32 b33), (sw_in cT (g 0) 288 u.2.2.2.2.2.2.2.2.2.2.2.1), (sw_in cT (g 2) 900 a2), (sw_in cT (g 3) 96 u.2.2.2.2.2.2.2.2.2.2.2.2)]) u) t) (va_A [(sw_9 h0 g b0 b5 b6 b7 b8 b9 b10 b11 b12 b13 b14 b17 b18 b19 b23 b24 b25 b26 b27 b29 b31 b32 b33), (sw_in cT (g 0) 288 a0), (sw_in cT (g 2) 900 a2), (sw_in cT (g 3) 96 a3)] sz)) 0 0 (va_A [(sw_9 h0 g b0 b5 b6 b7 b8 b9 b10 b11 b12 b13 b14 b17 b18 b19 b23 b24 b25 b26 b27 b29 b31 b32 b33), (sw_in cT (g 0) 288 a0), (sw_in cT (g 2) 900 a2), (sw_in cT (g 3) 96 a3)] sz) := by
  refine m_of (y := yX9_plain) (cc := cX9_plain) (nL := 3) (ret := (some .int)) (D := D) (cT := cT) (av := [.ref h0, .int x]) (wi := [(sw_9 h0 g b0 b5 b6 b7 b8 b9 b10 b11 b12 b13 b14 b17 b18 b19 b23 b24 b25 b26 b27 b29 b31 b32 b33), (sw_in cT (g 0) 288 a0), (sw_in cT (g 2) 900 a2), (sw_in cT (g 3) 96 a3)]) (fun A => va_Qi (fun (r : Int32) (u : Int32 × Int32 × Int32 × Int32 × Int32 × Int32 × Int32 × Int32 × Int32 × Int32 × Int32 × (Nat → Int32) × (Nat → Int32)) => (0 ≤ u.2.1.toInt ∧ u.2.1.toInt ≤ 900) ∧ (PI 288 u.2.2.2.2.2.2.2.2.2.2.2.1) ∧ ((0 ≤ x.toInt ∧ x.toInt ≤ b5.toInt ∧ u.2.1.toInt = 0) ∨ ((x.toInt < 0 ∨ b5.toInt < x.toInt) ∧ u.2.1.toInt = b5.toInt)) ∧ ((x.toInt < 0 ∨ b5.toInt < x.toInt) → r.toInt = -3) ∧ ((x.toInt < 0 ∨ b5.toInt < x.toInt) → u.2.2.2.2.2.2.2.2.2.1.toInt = b13.toInt) ∧ ((x.toInt < 0 ∨ b5.toInt < x.toInt) → u.2.2.2.2.2.2.2.2.2.2.1.toInt = b14.toInt) ∧ ((x.toInt < 0 ∨ b5.toInt < x.toInt) → u.2.2.2.2.2.2.2.2.2.2.2.1 = a0) ∧ ((0 ≤ x.toInt ∧ x.toInt ≤ b5.toInt) → u.2.2.2.2.2.2.2.2.2.1.toInt = (tellF tx x.toInt).1 4) ∧ ((0 ≤ x.toInt ∧ x.toInt ≤ b5.toInt) → (tellF tx x.toInt).1 4 = 0 → u.2.2.2.2.2.2.2.2.2.2.1.toInt = -1) ∧ ((0 ≤ x.toInt ∧ x.toInt ≤ b5.toInt) → ¬ (tellF tx x.toInt).1 4 = 0 → u.2.2.2.2.2.2.2.2.2.2.1.toInt = (tellF tx x.toInt).1 5) ∧ ((0 ≤ x.toInt ∧ x.toInt ≤ b5.toInt) → ¬ (tellF tx x.toInt).1 4 = 0 → r.toInt = -30 - (tellF tx x.toInt).1 4) ∧ ((0 ≤ x.toInt ∧ x.toInt ≤ b5.toInt) → ¬ (tellF tx x.toInt).1 4 = 0 → u.2.2.2.2.2.2.2.2.2.2.2.1 = a0) ∧ ((0 ≤ x.toInt ∧ x.toInt ≤ b5.toInt) → (tellF tx x.toInt).1 4 = 0 → r.toInt = (tellF tx x.toInt).2 9) ∧ ((0 ≤ x.toInt ∧ x.toInt ≤ b5.toInt) → (tellF tx x.toInt).1 4 = 0 → ((∀ k : Nat, k < 96 → (u.2.2.2.2.2.2.2.2.2.2.2.1 k).toInt = (tellF tx x.toInt).2 k) ∧ (∀ k : Nat, 96 ≤ k → u.2.2.2.2.2.2.2.2.2.2.2.1 k = a0 k))) ∧ (True)) (fun u t => RW D A ((fun u : Int32 × Int32 × Int32 × Int32 × Int32 × Int32 × Int32 × Int32 × Int32 × Int32 × Int32 × (Nat → Int32) × (Nat → Int32) => [(sw_9 h0 g u.1 u.2.1 u.2.2.1 u.2.2.2.1 u.2.2.2.2.1 u.2.2.2.2.2.1 u.2.2.2.2.2.2.1 u.2.2.2.2.2.2.2.1 u.2.2.2.2.2.2.2.2.1 u.2.2.2.2.2.2.2.2.2.1 u.2.2.2.2.2.2.2.2.2.2.1 b17 b18 b19 b23 b24 b25 b26 b27 b29 b31 b32 b33), (sw_in cT (g 0) 288 u.2.2.2.2.2.2.2.2.2.2.2.1), (sw_in cT (g 2) 900 a2), (sw_in cT (g 3) 96 u.2.2.2.2.2.2.2.2.2.2.2.2)]) u) t) A) (by decide) (Nat.le_of_ble_eq_true rfl) ?_
  intro p e s m below meth c A hx hb hml hown htg hK hN hr hlk hnm hsz hP hD hS hA ls hl
  have hown : s.vm.findClass RX9 = some m.cls := hown
  have hl : lv_has ls 3 [(0, .ref h0), (1, .int x)] := hl
  have tc_m30 : ((-30) : Int32).toInt = (-30) := by decide
  have tc_m3 : ((-3) : Int32).toInt = (-3) := by decide
  have tc_m1 : ((-1) : Int32).toInt = (-1) := by decide
  have tc_0 : (0 : Int32).toInt = 0 := by decide
  have tc_9 : (9 : Int32).toInt = 9 := by decide
  have tc_16 : (16 : Int32).toInt = 16 := by decide
  have tc_96 : (96 : Int32).toInt = 96 := by decide
  refine lv_aload_n hx hb dX9_plain_0 rfl (lv_at hl 0 rfl) ?_
  refine lv_iconst (v := 0) hx hb dX9_plain_1 (by decide) ?_
  refine va_put (D := D) (ci := 9) (v := .int 0) (ty := .int) (C := RX9) (T := TX9) (N := 37) hx hb htg gRX9 tyX9 tyX9_ok nmX9 hown hK hP hD hS 0 rfl rfl 0 (by decide) (htg _ wi_1150) (fun _ h9 => h9) rfl (by decide +kernel) rfl rfl (Nat.le_of_ble_eq_true rfl) dX9_plain_2 (fun H locs hP hD hS => ?_)
  obtain ⟨hP, hD⟩ : PD D A [(sw_9 h0 g 0 b5 b6 b7 b8 b9 b10 b11 b12 b13 b14 b17 b18 b19 b23 b24 b25 b26 b27 b29 b31 b32 b33), (sw_in cT (g 0) 288 a0), (sw_in cT (g 2) 900 a2), (sw_in cT (g 3) 96 a3)] _ := ⟨hP, hD⟩
  refine lv_iload_n hx hb dX9_plain_5 rfl (lv_at hl 1 rfl) ?_
  refine lv_i2l (v := x.toInt64) hx hb dX9_plain_6 rfl ?_
  refine lv_lconst (v := 0) hx hb dX9_plain_7 (by decide) ?_
  refine lv_aload_n hx hb dX9_plain_8 rfl (lv_at hl 0 rfl) ?_
  refine va_get (D := D) (ci := 9) (v := .int b5) (C := RX9) (T := TX9) (N := 37) hx hb htg gRX9 hown hK hP 0 rfl rfl 5 (by decide) (htg _ wi_1155) (fun _ h9 => h9) rfl dX9_plain_9 ?_
  refine lv_i2l (v := b5.toInt64) hx hb dX9_plain_12 rfl ?_
  have ilw_1 : (x.toInt64).toInt = x.toInt := i2l_i _
  have ilw_2 : (b5.toInt64).toInt = b5.toInt := i2l_i _
  refine xk_i (wr := [(sw_9 h0 g 0 b5 b6 b7 b8 b9 b10 b11 b12 b13 b14 b17 b18 b19 b23 b24 b25 b26 b27 b29 b31 b32 b33), (sw_in cT (g 0) 288 a0), (sw_in cT (g 2) 900 a2), (sw_in cT (g 3) 96 a3)]) (xr_S (n := 3) (As := [.long x.toInt64, .long 0, .long b5.toInt64]) (rest := []) ⟨hx, hb, hml, hown, htg⟩ hK hN hP hD hS hA [] rfl (by decide) (m_withinB l D cT _ (x.toInt64) (0) (b5.toInt64) (x.toInt) (0) (b5.toInt) (i2l_i _) (by decide) (i2l_i _)) wi_1270 wi_1271 wi_131 wi_1272 ⟨rfl, by decide +kernel⟩ ⟨Nat.le_of_ble_eq_true rfl, Nat.le_of_ble_eq_true rfl⟩ rfl hl.1 rfl (Nat.le_of_ble_eq_true rfl) dX9_plain_13 ⟨Nat.le_of_ble_eq_true rfl, Nat.le_of_ble_eq_true rfl⟩) hP hD hS hA [] [0, 1, 2, 3] rfl rfl (by decide) (by decide) (fun r_4 u_3 H locs hwr_4 hP hD hS => ?_)
  obtain ⟨hP, hD⟩ : PD D A [(sw_9 h0 g 0 b5 b6 b7 b8 b9 b10 b11 b12 b13 b14 b17 b18 b19 b23 b24 b25 b26 b27 b29 b31 b32 b33), (sw_in cT (g 0) 288 a0), (sw_in cT (g 2) 900 a2), (sw_in cT (g 3) 96 a3)] _ := ⟨hP, hD⟩
  have qr_4_0 : Imp (¬ r_4.toInt = 0) (0 ≤ x.toInt ∧ x.toInt ≤ b5.toInt) := hwr_4.1
  have qr_4_1 : Imp (r_4.toInt = 0) (x.toInt < 0 ∨ b5.toInt < x.toInt) := hwr_4.2.1
  have qr_4_2 : r_4 = 0 ∨ r_4 = 1 := hwr_4.2.2.1
  refine lv_if_ne (tgt := 22) hx hb dX9_plain_16 (by decide) (fun c_5 => ?_) (fun c_5 => ?_)
  · have ic_5 : ¬ r_4.toInt = 0 := ine c_5 (rfl) (by decide)
    have kqr_4_0 : 0 ≤ x.toInt ∧ x.toInt ≤ b5.toInt := qr_4_0 ic_5
    refine lv_aload_n hx hb dX9_plain_22 rfl (lv_at hl 0 rfl) ?_
    refine lv_iload_n hx hb dX9_plain_23 rfl (lv_at hl 1 rfl) ?_
    refine va_put (D := D) (ci := 9) (v := .int x) (ty := .int) (C := RX9) (T := TX9) (N := 37) hx hb htg gRX9 tyX9 tyX9_ok nmX9 hown hK hP hD hS 0 rfl rfl 8 (by decide) (htg _ wi_1158) (fun _ h9 => h9) rfl (by decide +kernel) rfl rfl (Nat.le_of_ble_eq_true rfl) dX9_plain_24 (fun H locs hP hD hS => ?_)
    obtain ⟨hP, hD⟩ : PD D A [(sw_9 h0 g 0 b5 b6 b7 x b9 b10 b11 b12 b13 b14 b17 b18 b19 b23 b24 b25 b26 b27 b29 b31 b32 b33), (sw_in cT (g 0) 288 a0), (sw_in cT (g 2) 900 a2), (sw_in cT (g 3) 96 a3)] _ := ⟨hP, hD⟩
    refine lv_aload_n hx hb dX9_plain_27 rfl (lv_at hl 0 rfl) ?_
    refine lv_iconst (v := 0) hx hb dX9_plain_28 (by decide) ?_
    refine va_put (D := D) (ci := 9) (v := .int 0) (ty := .int) (C := RX9) (T := TX9) (N := 37) hx hb htg gRX9 tyX9 tyX9_ok nmX9 hown hK hP hD hS 0 rfl rfl 5 (by decide) (htg _ wi_1155) (fun _ h9 => h9) rfl (by decide +kernel) rfl rfl (Nat.le_of_ble_eq_true rfl) dX9_plain_29 (fun H locs hP hD hS => ?_)
    obtain ⟨hP, hD⟩ : PD D A [(sw_9 h0 g 0 0 b6 b7 x b9 b10 b11 b12 b13 b14 b17 b18 b19 b23 b24 b25 b26 b27 b29 b31 b32 b33), (sw_in cT (g 0) 288 a0), (sw_in cT (g 2) 900 a2), (sw_in cT (g 3) 96 a3)] _ := ⟨hP, hD⟩
    refine lv_aload_n hx hb dX9_plain_32 rfl (lv_at hl 0 rfl) ?_
    refine lv_iconst (v := 0) hx hb dX9_plain_33 (by decide) ?_
    refine va_put (D := D) (ci := 9) (v := .int 0) (ty := .int) (C := RX9) (T := TX9) (N := 37) hx hb htg gRX9 tyX9 tyX9_ok nmX9 hown hK hP hD hS 0 rfl rfl 7 (by decide) (htg _ wi_1157) (fun _ h9 => h9) rfl (by decide +kernel) rfl rfl (Nat.le_of_ble_eq_true rfl) dX9_plain_34 (fun H locs hP hD hS => ?_)
    obtain ⟨hP, hD⟩ : PD D A [(sw_9 h0 g 0 0 b6 0 x b9 b10 b11 b12 b13 b14 b17 b18 b19 b23 b24 b25 b26 b27 b29 b31 b32 b33), (sw_in cT (g 0) 288 a0), (sw_in cT (g 2) 900 a2), (sw_in cT (g 3) 96 a3)] _ := ⟨hP, hD⟩
    refine lv_aload_n hx hb dX9_plain_37 rfl (lv_at hl 0 rfl) ?_
    refine lv_iconst (v := 0) hx hb dX9_plain_38 (by decide) ?_
    refine va_put (D := D) (ci := 9) (v := .int 0) (ty := .int) (C := RX9) (T := TX9) (N := 37) hx hb htg gRX9 tyX9 tyX9_ok nmX9 hown hK hP hD hS 0 rfl rfl 11 (by decide) (htg _ wi_1161) (fun _ h9 => h9) rfl (by decide +kernel) rfl rfl (Nat.le_of_ble_eq_true rfl) dX9_plain_39 (fun H locs hP hD hS => ?_)
    obtain ⟨hP, hD⟩ : PD D A [(sw_9 h0 g 0 0 b6 0 x b9 b10 0 b12 b13 b14 b17 b18 b19 b23 b24 b25 b26 b27 b29 b31 b32 b33), (sw_in cT (g 0) 288 a0), (sw_in cT (g 2) 900 a2), (sw_in cT (g 3) 96 a3)] _ := ⟨hP, hD⟩
    refine lv_aload_n hx hb dX9_plain_42 rfl (lv_at hl 0 rfl) ?_
    refine va_get (D := D) (ci := 9) (v := .ref (g 3)) (C := RX9) (T := TX9) (N := 37) hx hb htg gRX9 hown hK hP 0 rfl rfl 4 (by decide) (htg _ wi_1154) (fun _ h9 => h9) rfl dX9_plain_43 ?_
    refine xk_v (wr := [(sw_9 h0 g 0 0 b6 0 x b9 b10 0 b12 b13 b14 b17 b18 b19 b23 b24 b25 b26 b27 b29 b31 b32 b33), (sw_in cT (g 0) 288 a0), (sw_in cT (g 2) 900 a2)]) (xr_S (n := 1) (As := [.ref (g 3)]) (rest := []) ⟨hx, hb, hml, hown, htg⟩ hK hN hP hD hS hA [3] rfl (by decide) (m_plainIn96R l D cT _ ((g 3)) (a3)) wi_1144 wi_1145 wi_131 wi_1146 ⟨rfl, by decide +kernel⟩ ⟨Nat.le_of_ble_eq_true rfl, Nat.le_of_ble_eq_true rfl⟩ rfl hl.1 rfl (Nat.le_of_ble_eq_true rfl) dX9_plain_46 ⟨Nat.le_of_ble_eq_true rfl, Nat.le_of_ble_eq_true rfl⟩) hP hD hS hA [3] [0, 1, 2] rfl rfl (by decide) (by decide) (fun u_6 H locs hwr_7 hP hD hS => ?_)
    obtain ⟨hP, hD⟩ : PD D A [(sw_9 h0 g 0 0 b6 0 x b9 b10 0 b12 b13 b14 b17 b18 b19 b23 b24 b25 b26 b27 b29 b31 b32 b33), (sw_in cT (g 0) 288 a0), (sw_in cT (g 2) 900 a2), (sw_in cT (g 3) 96 u_6)] _ := ⟨hP, hD⟩
    have qr_7_0 : PI 96 u_6 := hwr_7.1
    have qr_7_1 : PLm plain0 u_6 := hwr_7.2.1
    have hTx : TXc tx x.toInt a2 := fun j hj => hT5 j (by omega)
    have r0_0 : (0 : Int32).toInt = sg0 1 := by first | decide | (unfold WR; exact fun h => absurd rfl h)
    have r0_1 : (0 : Int32).toInt = sg0 4 := by first | decide | (unfold WR; exact fun h => absurd rfl h)
    have r0_2 : WR b12.toInt sg0 := by first | decide | (unfold WR; exact fun h => absurd rfl h)
    refine lv_aload_n hx hb dX9_plain_49 rfl (lv_at hl 0 rfl) ?_
    refine xk_v (wr := [(sw_in cT (g 0) 288 a0), (sw_in cT (g 3) 96 u_6)]) (xr_V (n := 0) (As := []) (rest := []) ⟨hx, hb, hml, hown, htg⟩ hK hN hP hD hS hA [0, 2] rfl (by decide) (m_nextR l D cT _ (h0) (g) (0) (0) (b6) (0) (x) (b9) (b10) (0) (b12) (b13) (b14) (b17) (b18) (b19) (b23) (b24) (b25) (b26) (b27) (b29) (b31) (b32) (b33) (by first | assumption | omega | decide | exact Or.inl (by decide) | (intro h9; exact absurd h9 (by decide)) | (intro _; omega) | (intro _; assumption) | (intro _; decide)) (a2) (by first | assumption | omega | decide | exact Or.inl (by decide) | (intro h9; exact absurd h9 (by decide)) | (intro _; omega) | (intro _; assumption) | (intro _; decide)) (by first | assumption | omega | decide | exact Or.inl (by decide) | (intro h9; exact absurd h9 (by decide)) | (intro _; omega) | (intro _; assumption) | (intro _; decide)) (tx) (by first | assumption | omega | decide | exact Or.inl (by decide) | (intro h9; exact absurd h9 (by decide)) | (intro _; omega) | (intro _; assumption) | (intro _; decide)) (sg0) (by first | assumption | omega | decide | exact Or.inl (by decide) | (intro h9; exact absurd h9 (by decide)) | (intro _; omega) | (intro _; assumption) | (intro _; decide)) (by first | assumption | omega | decide | exact Or.inl (by decide) | (intro h9; exact absurd h9 (by decide)) | (intro _; omega) | (intro _; assumption) | (intro _; decide)) (by first | assumption | omega | decide | exact Or.inl (by decide) | (intro h9; exact absurd h9 (by decide)) | (intro _; omega) | (intro _; assumption) | (intro _; decide))) wi_1273 wi_1275 wi_78 wi_131 wi_1276 rfl rfl rfl ⟨rfl, by decide +kernel⟩ ⟨Nat.le_of_ble_eq_true rfl, Nat.le_of_ble_eq_true rfl⟩ rfl hl.1 rfl (Nat.le_of_ble_eq_true rfl) dX9_plain_50 ⟨Nat.le_of_ble_eq_true rfl, Nat.le_of_ble_eq_true rfl⟩) hP hD hS hA [0, 2] [1, 3] rfl rfl (by decide) (by decide) (fun u_8 H locs hwr_9 hP hD hS => ?_)
    obtain ⟨hP, hD⟩ : PD D A [(sw_in cT (g 0) 288 a0), (sw_in cT (g 3) 96 u_6), (sw_9 h0 g 0 0 u_8.1 u_8.2.1 x u_8.2.2.1 u_8.2.2.2 0 b12 b13 b14 b17 b18 b19 b23 b24 b25 b26 b27 b29 b31 b32 b33), (sw_in cT (g 2) 900 a2)] _ := ⟨hP, hD⟩
    have qr_9_0 : 0 ≤ u_8.2.1.toInt ∧ u_8.2.1.toInt ≤ 900 := hwr_9.1
    have qr_9_1 : 0 ≤ u_8.2.1.toInt ∧ u_8.2.1.toInt ≤ x.toInt := by have h7 := hwr_9.2.1; simp only [show ((0 : Int32)).toInt = 0 from by decide] at h7; exact h7
    have qr_9_2 : Imp (u_8.2.2.1.toInt = 15) (0 < u_8.2.1.toInt ∨ b9.toInt = 15) := by have h7 := hwr_9.2.2.1; simp only [show ((0 : Int32)).toInt = 0 from by decide] at h7; exact h7
    have qr_9_3 : u_8.1.toInt = (nxtF tx x.toInt sg0) 0 := hwr_9.2.2.2.1
    have qr_9_4 : u_8.2.1.toInt = (nxtF tx x.toInt sg0) 1 := hwr_9.2.2.2.2.1
    have qr_9_5 : u_8.2.2.1.toInt = (nxtF tx x.toInt sg0) 2 := hwr_9.2.2.2.2.2.1
    have qr_9_6 : NV u_8.2.2.2.toInt (nxtF tx x.toInt sg0) := hwr_9.2.2.2.2.2.2.1
    have qr_9_7 : 0 = (nxtF tx x.toInt sg0) 4 := by have h7 := hwr_9.2.2.2.2.2.2.2.1; simp only [show ((0 : Int32)).toInt = 0 from by decide] at h7; exact h7
    have qr_9_8 : WR b12.toInt (nxtF tx x.toInt sg0) := hwr_9.2.2.2.2.2.2.2.2.1
    have hpw : PW ((0 : Int32).toInt) (u_6) := pw_of _ qr_7_0
    have hpl53 : Hd ((nxtF tx x.toInt sg0) 4 = 0) (PLm (plain0) u_6) := fun _ => by assumption
    have hp953 : 0 ≤ (plain0) 9 ∧ ((nxtF tx x.toInt sg0) 4 = 0 → (plain0) 9 ≤ (nxtF tx x.toInt sg0) 0) := ⟨by decide, fun _ => by have h1 := (nxt_ge tx x.toInt sg0).1; have h2 : sg0 1 = 0 := rfl; have h3 : plain0 9 = 0 := (by decide); omega⟩
    have hlt53 : (nxtF tx x.toInt sg0) 4 = 0 → ((nxtF tx x.toInt sg0) 2 = 16 ∨ (nxtF tx x.toInt sg0) 0 < (nxtF tx x.toInt sg0) 1) := fun _ => (nxt_ge tx x.toInt sg0).2.2
    have htl53 : textF tx x.toInt (900 - ((plain0) 9).toNat) (nxtF tx x.toInt sg0, plain0) = tellF tx x.toInt := rfl
    refine (fun (key : ∀ (n9_53 : Nat) (k9_53 : Int32) (f9_53_0 : Nat → Int32) (v9_53_1 : Int32) (v9_53_2 : Int32) (v9_53_3 : Int32) (v9_53_4 : Int32) (v9_53_5 : Int32) (sgl : Nat → Int) (pll : Nat → Int) (H : Heap) (locs : List Loc) (ls : Array Slot), (0 ≤ k9_53.toInt ∧ k9_53.toInt ≤ x.toInt) → x.toInt < k9_53.toInt + n9_53 → (v9_53_1.toInt = (sgl) 0) → (k9_53.toInt = (sgl) 1) → (v9_53_2.toInt = (sgl) 2) → (NV v9_53_3.toInt (sgl)) → (v9_53_4.toInt = (sgl) 4) → (WR v9_53_5.toInt (sgl)) → Hd (sgl 4 = 0) (PLm pll f9_53_0) → (0 ≤ pll 9 ∧ (sgl 4 = 0 → pll 9 ≤ sgl 0)) → (sgl 4 = 0 → (sgl 2 = 16 ∨ sgl 0 < sgl 1)) → (textF tx x.toInt (900 - (pll 9).toNat) (sgl, pll) = tellF tx x.toInt) → PW (v9_53_4.toInt) f9_53_0 → PD D A [(sw_in cT (g 0) 288 a0), (sw_in cT (g 3) 96 f9_53_0), (sw_9 h0 g 0 0 v9_53_1 k9_53 x v9_53_2 v9_53_3 v9_53_4 v9_53_5 b13 b14 b17 b18 b19 b23 b24 b25 b26 b27 b29 b31 b32 b33), (sw_in cT (g 2) 900 a2)] H → va_S A s.heap H locs → lv_has ls 3 [(0, .ref h0), (1, .int x)] → W p l e _ s m _ below meth c H locs _ _ _ (F0 m 53 ls [])) => key (Int.toNat (x.toInt - (u_8.2.1).toInt) + 1) (u_8.2.1) _ _ _ _ _ _ (nxtF tx x.toInt sg0) (plain0) _ _ _ (by omega) (by omega) (by first | assumption | omega | decide | (simp only [ti_0, ti_1, ti_2, ti_3, ti_4, ti_5, ti_6, ti_7, ti_8, ti_9, ti_10, ti_11, ti_12, ti_m1]; omega)) (by first | assumption | omega | decide | (simp only [ti_0, ti_1, ti_2, ti_3, ti_4, ti_5, ti_6, ti_7, ti_8, ti_9, ti_10, ti_11, ti_12, ti_m1]; omega)) (by first | assumption | omega | decide | (simp only [ti_0, ti_1, ti_2, ti_3, ti_4, ti_5, ti_6, ti_7, ti_8, ti_9, ti_10, ti_11, ti_12, ti_m1]; omega)) (by first | assumption | omega | decide | (simp only [ti_0, ti_1, ti_2, ti_3, ti_4, ti_5, ti_6, ti_7, ti_8, ti_9, ti_10, ti_11, ti_12, ti_m1]; omega)) (by first | assumption | omega | decide | (simp only [ti_0, ti_1, ti_2, ti_3, ti_4, ti_5, ti_6, ti_7, ti_8, ti_9, ti_10, ti_11, ti_12, ti_m1]; omega)) (by first | assumption | omega | decide | (simp only [ti_0, ti_1, ti_2, ti_3, ti_4, ti_5, ti_6, ti_7, ti_8, ti_9, ti_10, ti_11, ti_12, ti_m1]; omega)) (by first | assumption | omega | decide | (simp only [ti_0, ti_1, ti_2, ti_3, ti_4, ti_5, ti_6, ti_7, ti_8, ti_9, ti_10, ti_11, ti_12, ti_m1]; omega)) (by first | assumption | omega | decide | (simp only [ti_0, ti_1, ti_2, ti_3, ti_4, ti_5, ti_6, ti_7, ti_8, ti_9, ti_10, ti_11, ti_12, ti_m1]; omega)) (by first | assumption | omega | decide | (simp only [ti_0, ti_1, ti_2, ti_3, ti_4, ti_5, ti_6, ti_7, ti_8, ti_9, ti_10, ti_11, ti_12, ti_m1]; omega)) (by first | assumption | omega | decide | (simp only [ti_0, ti_1, ti_2, ti_3, ti_4, ti_5, ti_6, ti_7, ti_8, ti_9, ti_10, ti_11, ti_12, ti_m1]; omega)) (by first | assumption | omega | decide | (simp only [ti_0, ti_1, ti_2, ti_3, ti_4, ti_5, ti_6, ti_7, ti_8, ti_9, ti_10, ti_11, ti_12, ti_m1]; omega)) ⟨hP, hD⟩ hS (lv_sub hl [0, 1] rfl)) ?_
    intro n9_53
    induction n9_53 with
    | zero => intro k9_53 f9_53_0 v9_53_1 v9_53_2 v9_53_3 v9_53_4 v9_53_5 sgl pll H locs ls hq1 hq2; exact absurd hq2 (by omega)
    | succ n9_53 ih_53 =>
      intro k9_53 f9_53_0 v9_53_1 v9_53_2 v9_53_3 v9_53_4 v9_53_5 sgl pll H locs ls hq1_53 hq2_53 h9_53_0 h9_53_1 h9_53_2 h9_53_3 h9_53_4 h9_53_5 h9_53_6 h9_53_7 h9_53_8 h9_53_9 h9_53_10 hPD hS hl
      obtain ⟨hP, hD⟩ := hPD
      refine lv_aload_n hx hb dX9_plain_53 rfl (lv_at hl 0 rfl) ?_
      refine va_get (D := D) (ci := 9) (v := .int v9_53_4) (C := RX9) (T := TX9) (N := 37) hx hb htg gRX9 hown hK hP 2 rfl rfl 11 (by decide) (htg _ wi_1161) (fun _ h9 => h9) rfl dX9_plain_54 ?_
      refine lv_if_ne (tgt := 76) hx hb dX9_plain_57 (by decide) (fun c_10 => ?_) (fun c_10 => ?_)
      · have ic_10 : ¬ v9_53_4.toInt = 0 := ine c_10 (rfl) (by decide)
        have hend : tellF tx x.toInt = (sgl, pll) := by rw [← h9_53_9]; exact text_e (by omega)
        have hplE : (sgl) 4 = 0 → PLm (pll) f9_53_0 := h9_53_6
        have htb := tell_b tx x.toInt
        rw [hend] at htb
        have htb4 : 0 ≤ (sgl) 4 ∧ (sgl) 4 ≤ 4 := htb
        have hwr9 : ¬ (sgl) 4 = 0 → v9_53_5.toInt = (sgl) 5 := (show WR (v9_53_5.toInt) (sgl) from by assumption)
        refine lv_aload_n hx hb dX9_plain_76 rfl (lv_at hl 0 rfl) ?_
        refine lv_aload_n hx hb dX9_plain_77 rfl (lv_at hl 0 rfl) ?_
        refine va_get (D := D) (ci := 9) (v := .int v9_53_4) (C := RX9) (T := TX9) (N := 37) hx hb htg gRX9 hown hK hP 2 rfl rfl 11 (by decide) (htg _ wi_1161) (fun _ h9 => h9) rfl dX9_plain_78 ?_
        refine va_put (D := D) (ci := 9) (v := .int v9_53_4) (ty := .int) (C := RX9) (T := TX9) (N := 37) hx hb htg gRX9 tyX9 tyX9_ok nmX9 hown hK hP hD hS 2 rfl rfl 13 (by decide) (htg _ wi_1163) (fun _ h9 => h9) rfl (by decide +kernel) rfl rfl (Nat.le_of_ble_eq_true rfl) dX9_plain_81 (fun H locs hP hD hS => ?_)
        obtain ⟨hP, hD⟩ : PD D A [(sw_in cT (g 0) 288 a0), (sw_in cT (g 3) 96 f9_53_0), (sw_9 h0 g 0 0 v9_53_1 k9_53 x v9_53_2 v9_53_3 v9_53_4 v9_53_5 v9_53_4 b14 b17 b18 b19 b23 b24 b25 b26 b27 b29 b31 b32 b33), (sw_in cT (g 2) 900 a2)] _ := ⟨hP, hD⟩
        refine lv_aload_n hx hb dX9_plain_84 rfl (lv_at hl 0 rfl) ?_
        refine lv_aload_n hx hb dX9_plain_85 rfl (lv_at hl 0 rfl) ?_
        refine va_get (D := D) (ci := 9) (v := .int v9_53_4) (C := RX9) (T := TX9) (N := 37) hx hb htg gRX9 hown hK hP 2 rfl rfl 11 (by decide) (htg _ wi_1161) (fun _ h9 => h9) rfl dX9_plain_86 ?_
        refine lv_if_ne (tgt := 96) hx hb dX9_plain_89 (by decide) (fun c_11 => ?_) (fun c_11 => ?_)
        · have ic_11 : ¬ v9_53_4.toInt = 0 := ine c_11 (rfl) (by decide)
          refine lv_aload_n hx hb dX9_plain_96 rfl (lv_at hl 0 rfl) ?_
          refine va_get (D := D) (ci := 9) (v := .int v9_53_5) (C := RX9) (T := TX9) (N := 37) hx hb htg gRX9 hown hK hP 2 rfl rfl 12 (by decide) (htg _ wi_1162) (fun _ h9 => h9) rfl dX9_plain_97 ?_
          refine va_put (D := D) (ci := 9) (v := .int v9_53_5) (ty := .int) (C := RX9) (T := TX9) (N := 37) hx hb htg gRX9 tyX9 tyX9_ok nmX9 hown hK hP hD hS 2 rfl rfl 14 (by decide) (htg _ wi_1164) (fun _ h9 => h9) rfl (by decide +kernel) rfl rfl (Nat.le_of_ble_eq_true rfl) dX9_plain_100 (fun H locs hP hD hS => ?_)
          obtain ⟨hP, hD⟩ : PD D A [(sw_in cT (g 0) 288 a0), (sw_in cT (g 3) 96 f9_53_0), (sw_9 h0 g 0 0 v9_53_1 k9_53 x v9_53_2 v9_53_3 v9_53_4 v9_53_5 v9_53_4 v9_53_5 b17 b18 b19 b23 b24 b25 b26 b27 b29 b31 b32 b33), (sw_in cT (g 2) 900 a2)] _ := ⟨hP, hD⟩
          refine lv_aload_n hx hb dX9_plain_103 rfl (lv_at hl 0 rfl) ?_
          refine va_get (D := D) (ci := 9) (v := .int v9_53_4) (C := RX9) (T := TX9) (N := 37) hx hb htg gRX9 hown hK hP 2 rfl rfl 11 (by decide) (htg _ wi_1161) (fun _ h9 => h9) rfl dX9_plain_104 ?_
          refine lv_if_eq (tgt := 118) hx hb dX9_plain_107 (by decide) (fun c_12 => ?_) (fun c_12 => ?_)
          · have ic_12 : v9_53_4.toInt = 0 := ieq c_12 (rfl) (by decide)
            refine lv_iconst (v := 0) hx hb dX9_plain_118 (by decide) ?_
            refine lv_istore_n (lv' := [(2, .int 0), (0, .ref h0), (1, .int x)]) hx hb dX9_plain_119 rfl hl (by decide) rfl (fun ls hl => ?_)
            have hc0 : ∀ j : Nat, j < 0 → a0 j = f9_53_0 j := fun j h => absurd h (by omega)
            have hc1 : ∀ j : Nat, 96 ≤ j → a0 j = a0 j := fun _ _ => rfl
            refine (fun (key : ∀ (n9_120 : Nat) (k9_120 : Nat) (f9_120_0 : Nat → Int32) (H : Heap) (locs : List Loc) (ls : Array Slot), (k9_120 : Int) ≤ 96 → 96 < (k9_120 : Int) + n9_120 → (∀ j : Nat, j < k9_120 → f9_120_0 j = f9_53_0 j) → (∀ j : Nat, 96 ≤ j → f9_120_0 j = a0 j) → PI 288 f9_120_0 → PD D A [(sw_in cT (g 0) 288 f9_120_0), (sw_in cT (g 3) 96 f9_53_0), (sw_9 h0 g 0 0 v9_53_1 k9_53 x v9_53_2 v9_53_3 v9_53_4 v9_53_5 v9_53_4 v9_53_5 b17 b18 b19 b23 b24 b25 b26 b27 b29 b31 b32 b33), (sw_in cT (g 2) 900 a2)] H → va_S A s.heap H locs → lv_has ls 3 [(2, .int (nI k9_120)), (0, .ref h0), (1, .int x)] → W p l e _ s m _ below meth c H locs _ _ _ (F0 m 120 ls [])) => key (Int.toNat (96 - 0) + 1) 0 _ _ _ _ (by omega) (by omega) (by first | assumption | omega | decide | (simp only [ti_0, ti_1, ti_2, ti_3, ti_4, ti_5, ti_6, ti_7, ti_8, ti_9, ti_10, ti_11, ti_12, ti_m1]; omega)) (by first | assumption | omega | decide | (simp only [ti_0, ti_1, ti_2, ti_3, ti_4, ti_5, ti_6, ti_7, ti_8, ti_9, ti_10, ti_11, ti_12, ti_m1]; omega)) (by first | assumption | omega | decide | (simp only [ti_0, ti_1, ti_2, ti_3, ti_4, ti_5, ti_6, ti_7, ti_8, ti_9, ti_10, ti_11, ti_12, ti_m1]; omega)) ⟨hP, hD⟩ hS (lv_sub hl [0, 1, 2] rfl)) ?_
            intro n9_120
            induction n9_120 with
            | zero => intro k9_120 f9_120_0 H locs ls hq1 hq2; exact absurd hq2 (by omega)
            | succ n9_120 ih_120 =>
              intro k9_120 f9_120_0 H locs ls hq1_120 hq2_120 h9_120_0 h9_120_1 h9_120_2 hPD hS hl
              obtain ⟨hP, hD⟩ := hPD
              have hk9_120 : (nI k9_120).toInt = (k9_120 : Int) := nI_toInt (by omega)
              refine lv_iload_n hx hb dX9_plain_120 rfl (lv_at hl 0 rfl) ?_
              refine lv_bipush (v := 96) hx hb dX9_plain_121 (by decide) ?_
              refine lv_icmp_ge (tgt := 144) hx hb dX9_plain_123 (by decide) (fun c_13 => ?_) (fun c_13 => ?_)
              · have ic_13 : 96 ≤ ((k9_120 : Nat) : Int) := ile c_13 (by decide) (nI_toInt (by omega))
                have hcp : ∀ j : Nat, j < 96 → f9_120_0 j = f9_53_0 j := fun j h => h9_120_0 j (by omega)
                refine lv_aload_n hx hb dX9_plain_144 rfl (lv_at hl 1 rfl) ?_
                refine va_get (D := D) (ci := 9) (v := .ref (g 0)) (C := RX9) (T := TX9) (N := 37) hx hb htg gRX9 hown hK hP 2 rfl rfl 1 (by decide) (htg _ wi_1151) (fun _ h9 => h9) rfl dX9_plain_145 ?_
                refine lv_bipush (v := 9) hx hb dX9_plain_148 (by decide) ?_
                refine va_iald hx hb hK hP 0 0 rfl rfl (by unfold vp_in; decide) dX9_plain_150 ?_
                refine lv_topi (fun z_14 ez_14 => ?_)
                have oz_14 := pi_rd (a := 9) h9_120_2 ez_14 (by decide) (by omega)
                unfold OKP at oz_14
                exact x_iret hx hb hr hlk hP hD hS [2, 0, 3, 1] ((0, 0, v9_53_1, k9_53, x, v9_53_2, v9_53_3, v9_53_4, v9_53_5, v9_53_4, v9_53_5, f9_120_0, f9_53_0)) rfl (by decide) ⟨by (try dsimp only); first | assumption | omega | decide | exact Or.inl (by decide) | (intro h9; exact absurd h9 (by decide)) | (intro _; omega) | (intro _; assumption) | (intro _; decide), by (try dsimp only); first | assumption | omega | decide | exact Or.inl (by decide) | (intro h9; exact absurd h9 (by decide)) | (intro _; omega) | (intro _; assumption) | (intro _; decide), by (try dsimp only); first | assumption | omega | decide | exact Or.inl (by decide) | (intro h9; exact absurd h9 (by decide)) | (intro _; omega) | (intro _; assumption) | (intro _; decide), (fun h9 => by exfalso; omega), (fun h9 => by exfalso; omega), (fun h9 => by exfalso; omega), (fun h9 => by exfalso; omega), (fun _ => by (try dsimp only); rw [hend]; (try dsimp only); omega), (fun _ h8 => by (try dsimp only); rw [hend] at h8; (try dsimp only at h8); first | decide | (exfalso; omega) | omega), (fun _ h8 => by rw [hend] at h8; (try dsimp only at h8); exfalso; omega), (fun _ h8 => by rw [hend] at h8; (try dsimp only at h8); exfalso; omega), (fun _ h8 => by rw [hend] at h8; (try dsimp only at h8); exfalso; omega), (fun _ h8 => by (try dsimp only); rw [hend] at h8 ⊢; have hq := hplE h8; have h7 := hq.1 9 (by decide); have h6 := hcp 9 (by decide); have h5 : z_14 = f9_120_0 9 := ez_14; rw [h5, h6]; exact h7), (fun _ h8 => by (try dsimp only); rw [hend] at h8 ⊢; have hq := hplE h8; exact ⟨fun k hk => by rw [hcp k hk]; exact hq.1 k hk, h9_120_1⟩), trivial⟩ (by decide) (by decide) dX9_plain_151
              · have ic_13 : ((k9_120 : Nat) : Int) < 96 := inle c_13 (by decide) (nI_toInt (by omega))
                refine lv_aload_n hx hb dX9_plain_126 rfl (lv_at hl 1 rfl) ?_
                refine va_get (D := D) (ci := 9) (v := .ref (g 0)) (C := RX9) (T := TX9) (N := 37) hx hb htg gRX9 hown hK hP 2 rfl rfl 1 (by decide) (htg _ wi_1151) (fun _ h9 => h9) rfl dX9_plain_127 ?_
                refine lv_iload_n hx hb dX9_plain_130 rfl (lv_at hl 0 rfl) ?_
                refine lv_aload_n hx hb dX9_plain_131 rfl (lv_at hl 1 rfl) ?_
                refine va_get (D := D) (ci := 9) (v := .ref (g 3)) (C := RX9) (T := TX9) (N := 37) hx hb htg gRX9 hown hK hP 2 rfl rfl 4 (by decide) (htg _ wi_1154) (fun _ h9 => h9) rfl dX9_plain_132 ?_
                refine lv_iload_n hx hb dX9_plain_135 rfl (lv_at hl 0 rfl) ?_
                refine va_iald hx hb hK hP 1 0 rfl rfl (vp_in_nI (by omega) (by omega)) dX9_plain_136 ?_
                refine lv_topi (fun z_15 ez_15 => ?_)
                have oz_15 := pi_rd (a := ((k9_120 : Nat) : Int)) (h9_53_10.2 (by omega)) ez_15 (nI_toInt (by omega)) (by omega)
                unfold OKP at oz_15
                refine va_iast hx hb hK hP hD hS 0 0 rfl rfl (vp_in_nI (by omega) (by omega)) dX9_plain_137 (fun H locs hP hD hS => ?_)
                obtain ⟨f_16, ef_16, hP, hD⟩ : ∃ f_16 : Nat → Int32, f_16 = upd (f9_120_0) ((nI k9_120) : Int32).toNatClampNeg z_15 ∧ PD D A [(sw_in cT (g 0) 288 f_16), (sw_in cT (g 3) 96 f9_53_0), (sw_9 h0 g 0 0 v9_53_1 k9_53 x v9_53_2 v9_53_3 v9_53_4 v9_53_5 v9_53_4 v9_53_5 b17 b18 b19 b23 b24 b25 b26 b27 b29 b31 b32 b33), (sw_in cT (g 2) 900 a2)] H := ⟨_, rfl, hP, hD⟩
                have qf_16 : PI 288 f_16 := by rw [ef_16]; exact pi_upd (a := ((k9_120 : Nat) : Int)) (b := z_15.toInt) h9_120_2 (nI_toInt (by omega)) (rfl) (by omega) (by unfold OKP; omega)
                refine lv_iinc (v := (nI (k9_120 + 1))) (lv' := [(2, .int (nI (k9_120 + 1))), (0, .ref h0), (1, .int x)]) hx hb dX9_plain_138 hl (k := 0) rfl (by exact nI_1 (k9_120)) (by decide) rfl (fun ls hl => ?_)
                refine lv_goto (tgt := 120) hx hb dX9_plain_141 (by decide) ?_
                have hc0 : ∀ j : Nat, j < k9_120 + 1 → f_16 j = f9_53_0 j := fun j h => by rw [ef_16]; rcases (show j = k9_120 ∨ j < k9_120 from by omega) with h1 | h1; rw [upd_at2 (by rw [nI_toInt (by omega)]; omega), ez_15, nI_clamp (by omega), h1]; rw [upd_no (by rw [nI_toInt (by omega)]; omega) (by rw [nI_toInt (by omega)]; omega)]; exact h9_120_0 j h1
                have hc1 : ∀ j : Nat, 96 ≤ j → f_16 j = a0 j := fun j h => by rw [ef_16, upd_no (by rw [nI_toInt (by omega)]; omega) (by rw [nI_toInt (by omega)]; omega)]; exact h9_120_1 j h
                exact ih_120 (k9_120 + 1) _ _ _ _ (by omega) (by omega) (by first | assumption | omega | decide | (simp only [ti_0, ti_1, ti_2, ti_3, ti_4, ti_5, ti_6, ti_7, ti_8, ti_9, ti_10, ti_11, ti_12, ti_m1]; omega)) (by first | assumption | omega | decide | (simp only [ti_0, ti_1, ti_2, ti_3, ti_4, ti_5, ti_6, ti_7, ti_8, ti_9, ti_10, ti_11, ti_12, ti_m1]; omega)) (by first | assumption | omega | decide | (simp only [ti_0, ti_1, ti_2, ti_3, ti_4, ti_5, ti_6, ti_7, ti_8, ti_9, ti_10, ti_11, ti_12, ti_m1]; omega)) ⟨hP.sub [0, 1, 2, 3] rfl, hD.sub [0, 1, 2, 3] (by decide) rfl⟩ hS (lv_sub hl [0, 1, 2] rfl)
          · have ic_12 : ¬ v9_53_4.toInt = 0 := ine c_12 (rfl) (by decide)
            refine lv_bipush (v := (-30)) hx hb dX9_plain_110 (by decide) ?_
            refine lv_aload_n hx hb dX9_plain_112 rfl (lv_at hl 0 rfl) ?_
            refine va_get (D := D) (ci := 9) (v := .int v9_53_4) (C := RX9) (T := TX9) (N := 37) hx hb htg gRX9 hown hK hP 2 rfl rfl 11 (by decide) (htg _ wi_1161) (fun _ h9 => h9) rfl dX9_plain_113 ?_
            have hw4 : 0 ≤ v9_53_4.toInt ∧ v9_53_4.toInt ≤ 4 := by omega
            refine lv_isub hx hb dX9_plain_116 ?_
            refine lv_topi (fun z_17 ez_17 => ?_)
            have iz_17 : z_17.toInt = (-30) - v9_53_4.toInt := toInt_subI ez_17 (by decide) (rfl) (by omega)
            exact x_iret hx hb hr hlk hP hD hS [2, 0, 3, 1] ((0, 0, v9_53_1, k9_53, x, v9_53_2, v9_53_3, v9_53_4, v9_53_5, v9_53_4, v9_53_5, a0, f9_53_0)) rfl (by decide) ⟨by (try dsimp only); first | assumption | omega | decide | exact Or.inl (by decide) | (intro h9; exact absurd h9 (by decide)) | (intro _; omega) | (intro _; assumption) | (intro _; decide), by (try dsimp only); first | assumption | omega | decide | exact Or.inl (by decide) | (intro h9; exact absurd h9 (by decide)) | (intro _; omega) | (intro _; assumption) | (intro _; decide), by (try dsimp only); first | assumption | omega | decide | exact Or.inl (by decide) | (intro h9; exact absurd h9 (by decide)) | (intro _; omega) | (intro _; assumption) | (intro _; decide), (fun h9 => by exfalso; omega), (fun h9 => by exfalso; omega), (fun h9 => by exfalso; omega), (fun h9 => by exfalso; omega), (fun _ => by (try dsimp only); rw [hend]; (try dsimp only); omega), (fun _ h8 => by (try dsimp only); rw [hend] at h8; (try dsimp only at h8); first | decide | (exfalso; omega) | omega), (fun _ h8 => by (try dsimp only); rw [hend] at h8 ⊢; (try dsimp only at h8 ⊢); first | exact hwr9 h8 | omega), (fun _ h8 => by (try dsimp only); rw [hend] at h8 ⊢; (try dsimp only at h8 ⊢); first | exact hwr9 h8 | omega), (fun _ h8 => rfl), (fun _ h8 => by rw [hend] at h8; (try dsimp only at h8); exfalso; omega), (fun _ h8 => by rw [hend] at h8; (try dsimp only at h8); exfalso; omega), trivial⟩ (by decide) (by decide) dX9_plain_117
        · have ic_11 : v9_53_4.toInt = 0 := ieq c_11 (rfl) (by decide)
          refine lv_iconst (v := (-1)) hx hb dX9_plain_92 (by decide) ?_
          refine lv_goto (tgt := 100) hx hb dX9_plain_93 (by decide) ?_
          refine va_put (D := D) (ci := 9) (v := .int (-1)) (ty := .int) (C := RX9) (T := TX9) (N := 37) hx hb htg gRX9 tyX9 tyX9_ok nmX9 hown hK hP hD hS 2 rfl rfl 14 (by decide) (htg _ wi_1164) (fun _ h9 => h9) rfl (by decide +kernel) rfl rfl (Nat.le_of_ble_eq_true rfl) dX9_plain_100 (fun H locs hP hD hS => ?_)
          obtain ⟨hP, hD⟩ : PD D A [(sw_in cT (g 0) 288 a0), (sw_in cT (g 3) 96 f9_53_0), (sw_9 h0 g 0 0 v9_53_1 k9_53 x v9_53_2 v9_53_3 v9_53_4 v9_53_5 v9_53_4 (-1) b17 b18 b19 b23 b24 b25 b26 b27 b29 b31 b32 b33), (sw_in cT (g 2) 900 a2)] _ := ⟨hP, hD⟩
          refine lv_aload_n hx hb dX9_plain_103 rfl (lv_at hl 0 rfl) ?_
          refine va_get (D := D) (ci := 9) (v := .int v9_53_4) (C := RX9) (T := TX9) (N := 37) hx hb htg gRX9 hown hK hP 2 rfl rfl 11 (by decide) (htg _ wi_1161) (fun _ h9 => h9) rfl dX9_plain_104 ?_
          refine lv_if_eq (tgt := 118) hx hb dX9_plain_107 (by decide) (fun c_18 => ?_) (fun c_18 => ?_)
          · have ic_18 : v9_53_4.toInt = 0 := ieq c_18 (rfl) (by decide)
            refine lv_iconst (v := 0) hx hb dX9_plain_118 (by decide) ?_
            refine lv_istore_n (lv' := [(2, .int 0), (0, .ref h0), (1, .int x)]) hx hb dX9_plain_119 rfl hl (by decide) rfl (fun ls hl => ?_)
            have hc0 : ∀ j : Nat, j < 0 → a0 j = f9_53_0 j := fun j h => absurd h (by omega)
            have hc1 : ∀ j : Nat, 96 ≤ j → a0 j = a0 j := fun _ _ => rfl
            refine (fun (key : ∀ (n9_120 : Nat) (k9_120 : Nat) (f9_120_0 : Nat → Int32) (H : Heap) (locs : List Loc) (ls : Array Slot), (k9_120 : Int) ≤ 96 → 96 < (k9_120 : Int) + n9_120 → (∀ j : Nat, j < k9_120 → f9_120_0 j = f9_53_0 j) → (∀ j : Nat, 96 ≤ j → f9_120_0 j = a0 j) → PI 288 f9_120_0 → PD D A [(sw_in cT (g 0) 288 f9_120_0), (sw_in cT (g 3) 96 f9_53_0), (sw_9 h0 g 0 0 v9_53_1 k9_53 x v9_53_2 v9_53_3 v9_53_4 v9_53_5 v9_53_4 (-1) b17 b18 b19 b23 b24 b25 b26 b27 b29 b31 b32 b33), (sw_in cT (g 2) 900 a2)] H → va_S A s.heap H locs → lv_has ls 3 [(2, .int (nI k9_120)), (0, .ref h0), (1, .int x)] → W p l e _ s m _ below meth c H locs _ _ _ (F0 m 120 ls [])) => key (Int.toNat (96 - 0) + 1) 0 _ _ _ _ (by omega) (by omega) (by first | assumption | omega | decide | (simp only [ti_0, ti_1, ti_2, ti_3, ti_4, ti_5, ti_6, ti_7, ti_8, ti_9, ti_10, ti_11, ti_12, ti_m1]; omega)) (by first | assumption | omega | decide | (simp only [ti_0, ti_1, ti_2, ti_3, ti_4, ti_5, ti_6, ti_7, ti_8, ti_9, ti_10, ti_11, ti_12, ti_m1]; omega)) (by first | assumption | omega | decide | (simp only [ti_0, ti_1, ti_2, ti_3, ti_4, ti_5, ti_6, ti_7, ti_8, ti_9, ti_10, ti_11, ti_12, ti_m1]; omega)) ⟨hP, hD⟩ hS (lv_sub hl [0, 1, 2] rfl)) ?_
            intro n9_120
            induction n9_120 with
            | zero => intro k9_120 f9_120_0 H locs ls hq1 hq2; exact absurd hq2 (by omega)
            | succ n9_120 ih_120 =>
              intro k9_120 f9_120_0 H locs ls hq1_120 hq2_120 h9_120_0 h9_120_1 h9_120_2 hPD hS hl
              obtain ⟨hP, hD⟩ := hPD
              have hk9_120 : (nI k9_120).toInt = (k9_120 : Int) := nI_toInt (by omega)
              refine lv_iload_n hx hb dX9_plain_120 rfl (lv_at hl 0 rfl) ?_
              refine lv_bipush (v := 96) hx hb dX9_plain_121 (by decide) ?_
              refine lv_icmp_ge (tgt := 144) hx hb dX9_plain_123 (by decide) (fun c_19 => ?_) (fun c_19 => ?_)
              · have ic_19 : 96 ≤ ((k9_120 : Nat) : Int) := ile c_19 (by decide) (nI_toInt (by omega))
                have hcp : ∀ j : Nat, j < 96 → f9_120_0 j = f9_53_0 j := fun j h => h9_120_0 j (by omega)
                refine lv_aload_n hx hb dX9_plain_144 rfl (lv_at hl 1 rfl) ?_
                refine va_get (D := D) (ci := 9) (v := .ref (g 0)) (C := RX9) (T := TX9) (N := 37) hx hb htg gRX9 hown hK hP 2 rfl rfl 1 (by decide) (htg _ wi_1151) (fun _ h9 => h9) rfl dX9_plain_145 ?_
                refine lv_bipush (v := 9) hx hb dX9_plain_148 (by decide) ?_
                refine va_iald hx hb hK hP 0 0 rfl rfl (by unfold vp_in; decide) dX9_plain_150 ?_
                refine lv_topi (fun z_20 ez_20 => ?_)
                have oz_20 := pi_rd (a := 9) h9_120_2 ez_20 (by decide) (by omega)
                unfold OKP at oz_20
                exact x_iret hx hb hr hlk hP hD hS [2, 0, 3, 1] ((0, 0, v9_53_1, k9_53, x, v9_53_2, v9_53_3, v9_53_4, v9_53_5, v9_53_4, (-1), f9_120_0, f9_53_0)) rfl (by decide) ⟨by (try dsimp only); first | assumption | omega | decide | exact Or.inl (by decide) | (intro h9; exact absurd h9 (by decide)) | (intro _; omega) | (intro _; assumption) | (intro _; decide), by (try dsimp only); first | assumption | omega | decide | exact Or.inl (by decide) | (intro h9; exact absurd h9 (by decide)) | (intro _; omega) | (intro _; assumption) | (intro _; decide), by (try dsimp only); first | assumption | omega | decide | exact Or.inl (by decide) | (intro h9; exact absurd h9 (by decide)) | (intro _; omega) | (intro _; assumption) | (intro _; decide), (fun h9 => by exfalso; omega), (fun h9 => by exfalso; omega), (fun h9 => by exfalso; omega), (fun h9 => by exfalso; omega), (fun _ => by (try dsimp only); rw [hend]; (try dsimp only); omega), (fun _ h8 => by (try dsimp only); rw [hend] at h8; (try dsimp only at h8); first | decide | (exfalso; omega) | omega), (fun _ h8 => by rw [hend] at h8; (try dsimp only at h8); exfalso; omega), (fun _ h8 => by rw [hend] at h8; (try dsimp only at h8); exfalso; omega), (fun _ h8 => by rw [hend] at h8; (try dsimp only at h8); exfalso; omega), (fun _ h8 => by (try dsimp only); rw [hend] at h8 ⊢; have hq := hplE h8; have h7 := hq.1 9 (by decide); have h6 := hcp 9 (by decide); have h5 : z_20 = f9_120_0 9 := ez_20; rw [h5, h6]; exact h7), (fun _ h8 => by (try dsimp only); rw [hend] at h8 ⊢; have hq := hplE h8; exact ⟨fun k hk => by rw [hcp k hk]; exact hq.1 k hk, h9_120_1⟩), trivial⟩ (by decide) (by decide) dX9_plain_151
              · have ic_19 : ((k9_120 : Nat) : Int) < 96 := inle c_19 (by decide) (nI_toInt (by omega))
                refine lv_aload_n hx hb dX9_plain_126 rfl (lv_at hl 1 rfl) ?_
                refine va_get (D := D) (ci := 9) (v := .ref (g 0)) (C := RX9) (T := TX9) (N := 37) hx hb htg gRX9 hown hK hP 2 rfl rfl 1 (by decide) (htg _ wi_1151) (fun _ h9 => h9) rfl dX9_plain_127 ?_
                refine lv_iload_n hx hb dX9_plain_130 rfl (lv_at hl 0 rfl) ?_
                refine lv_aload_n hx hb dX9_plain_131 rfl (lv_at hl 1 rfl) ?_
                refine va_get (D := D) (ci := 9) (v := .ref (g 3)) (C := RX9) (T := TX9) (N := 37) hx hb htg gRX9 hown hK hP 2 rfl rfl 4 (by decide) (htg _ wi_1154) (fun _ h9 => h9) rfl dX9_plain_132 ?_
                refine lv_iload_n hx hb dX9_plain_135 rfl (lv_at hl 0 rfl) ?_
                refine va_iald hx hb hK hP 1 0 rfl rfl (vp_in_nI (by omega) (by omega)) dX9_plain_136 ?_
                refine lv_topi (fun z_21 ez_21 => ?_)
                have oz_21 := pi_rd (a := ((k9_120 : Nat) : Int)) (h9_53_10.2 (by omega)) ez_21 (nI_toInt (by omega)) (by omega)
                unfold OKP at oz_21
                refine va_iast hx hb hK hP hD hS 0 0 rfl rfl (vp_in_nI (by omega) (by omega)) dX9_plain_137 (fun H locs hP hD hS => ?_)
                obtain ⟨f_22, ef_22, hP, hD⟩ : ∃ f_22 : Nat → Int32, f_22 = upd (f9_120_0) ((nI k9_120) : Int32).toNatClampNeg z_21 ∧ PD D A [(sw_in cT (g 0) 288 f_22), (sw_in cT (g 3) 96 f9_53_0), (sw_9 h0 g 0 0 v9_53_1 k9_53 x v9_53_2 v9_53_3 v9_53_4 v9_53_5 v9_53_4 (-1) b17 b18 b19 b23 b24 b25 b26 b27 b29 b31 b32 b33), (sw_in cT (g 2) 900 a2)] H := ⟨_, rfl, hP, hD⟩
                have qf_22 : PI 288 f_22 := by rw [ef_22]; exact pi_upd (a := ((k9_120 : Nat) : Int)) (b := z_21.toInt) h9_120_2 (nI_toInt (by omega)) (rfl) (by omega) (by unfold OKP; omega)
                refine lv_iinc (v := (nI (k9_120 + 1))) (lv' := [(2, .int (nI (k9_120 + 1))), (0, .ref h0), (1, .int x)]) hx hb dX9_plain_138 hl (k := 0) rfl (by exact nI_1 (k9_120)) (by decide) rfl (fun ls hl => ?_)
                refine lv_goto (tgt := 120) hx hb dX9_plain_141 (by decide) ?_
                have hc0 : ∀ j : Nat, j < k9_120 + 1 → f_22 j = f9_53_0 j := fun j h => by rw [ef_22]; rcases (show j = k9_120 ∨ j < k9_120 from by omega) with h1 | h1; rw [upd_at2 (by rw [nI_toInt (by omega)]; omega), ez_21, nI_clamp (by omega), h1]; rw [upd_no (by rw [nI_toInt (by omega)]; omega) (by rw [nI_toInt (by omega)]; omega)]; exact h9_120_0 j h1
                have hc1 : ∀ j : Nat, 96 ≤ j → f_22 j = a0 j := fun j h => by rw [ef_22, upd_no (by rw [nI_toInt (by omega)]; omega) (by rw [nI_toInt (by omega)]; omega)]; exact h9_120_1 j h
                exact ih_120 (k9_120 + 1) _ _ _ _ (by omega) (by omega) (by first | assumption | omega | decide | (simp only [ti_0, ti_1, ti_2, ti_3, ti_4, ti_5, ti_6, ti_7, ti_8, ti_9, ti_10, ti_11, ti_12, ti_m1]; omega)) (by first | assumption | omega | decide | (simp only [ti_0, ti_1, ti_2, ti_3, ti_4, ti_5, ti_6, ti_7, ti_8, ti_9, ti_10, ti_11, ti_12, ti_m1]; omega)) (by first | assumption | omega | decide | (simp only [ti_0, ti_1, ti_2, ti_3, ti_4, ti_5, ti_6, ti_7, ti_8, ti_9, ti_10, ti_11, ti_12, ti_m1]; omega)) ⟨hP.sub [0, 1, 2, 3] rfl, hD.sub [0, 1, 2, 3] (by decide) rfl⟩ hS (lv_sub hl [0, 1, 2] rfl)
          · have ic_18 : ¬ v9_53_4.toInt = 0 := ine c_18 (rfl) (by decide)
            refine lv_bipush (v := (-30)) hx hb dX9_plain_110 (by decide) ?_
            refine lv_aload_n hx hb dX9_plain_112 rfl (lv_at hl 0 rfl) ?_
            refine va_get (D := D) (ci := 9) (v := .int v9_53_4) (C := RX9) (T := TX9) (N := 37) hx hb htg gRX9 hown hK hP 2 rfl rfl 11 (by decide) (htg _ wi_1161) (fun _ h9 => h9) rfl dX9_plain_113 ?_
            have hw4 : 0 ≤ v9_53_4.toInt ∧ v9_53_4.toInt ≤ 4 := by omega
            refine lv_isub hx hb dX9_plain_116 ?_
            refine lv_topi (fun z_23 ez_23 => ?_)
            have iz_23 : z_23.toInt = (-30) - v9_53_4.toInt := toInt_subI ez_23 (by decide) (rfl) (by omega)
            exact x_iret hx hb hr hlk hP hD hS [2, 0, 3, 1] ((0, 0, v9_53_1, k9_53, x, v9_53_2, v9_53_3, v9_53_4, v9_53_5, v9_53_4, (-1), a0, f9_53_0)) rfl (by decide) ⟨by (try dsimp only); first | assumption | omega | decide | exact Or.inl (by decide) | (intro h9; exact absurd h9 (by decide)) | (intro _; omega) | (intro _; assumption) | (intro _; decide), by (try dsimp only); first | assumption | omega | decide | exact Or.inl (by decide) | (intro h9; exact absurd h9 (by decide)) | (intro _; omega) | (intro _; assumption) | (intro _; decide), by (try dsimp only); first | assumption | omega | decide | exact Or.inl (by decide) | (intro h9; exact absurd h9 (by decide)) | (intro _; omega) | (intro _; assumption) | (intro _; decide), (fun h9 => by exfalso; omega), (fun h9 => by exfalso; omega), (fun h9 => by exfalso; omega), (fun h9 => by exfalso; omega), (fun _ => by (try dsimp only); rw [hend]; (try dsimp only); omega), (fun _ h8 => by (try dsimp only); rw [hend] at h8; (try dsimp only at h8); first | decide | (exfalso; omega) | omega), (fun _ h8 => by (try dsimp only); rw [hend] at h8 ⊢; (try dsimp only at h8 ⊢); first | exact hwr9 h8 | omega), (fun _ h8 => by (try dsimp only); rw [hend] at h8 ⊢; (try dsimp only at h8 ⊢); first | exact hwr9 h8 | omega), (fun _ h8 => rfl), (fun _ h8 => by rw [hend] at h8; (try dsimp only at h8); exfalso; omega), (fun _ h8 => by rw [hend] at h8; (try dsimp only at h8); exfalso; omega), trivial⟩ (by decide) (by decide) dX9_plain_117
      · have ic_10 : v9_53_4.toInt = 0 := ieq c_10 (rfl) (by decide)
        refine lv_aload_n hx hb dX9_plain_60 rfl (lv_at hl 0 rfl) ?_
        refine va_get (D := D) (ci := 9) (v := .int v9_53_2) (C := RX9) (T := TX9) (N := 37) hx hb htg gRX9 hown hK hP 2 rfl rfl 9 (by decide) (htg _ wi_1159) (fun _ h9 => h9) rfl dX9_plain_61 ?_
        refine lv_bipush (v := 16) hx hb dX9_plain_64 (by decide) ?_
        refine lv_icmp_eq (tgt := 76) hx hb dX9_plain_66 (by decide) (fun c_24 => ?_) (fun c_24 => ?_)
        · have ic_24 : v9_53_2.toInt = 16 := ieq c_24 (rfl) (by decide)
          have hend : tellF tx x.toInt = (sgl, pll) := by rw [← h9_53_9]; exact text_e (by omega)
          have hplE : (sgl) 4 = 0 → PLm (pll) f9_53_0 := h9_53_6
          have htb := tell_b tx x.toInt
          rw [hend] at htb
          have htb4 : 0 ≤ (sgl) 4 ∧ (sgl) 4 ≤ 4 := htb
          have hwr9 : ¬ (sgl) 4 = 0 → v9_53_5.toInt = (sgl) 5 := (show WR (v9_53_5.toInt) (sgl) from by assumption)
          refine lv_aload_n hx hb dX9_plain_76 rfl (lv_at hl 0 rfl) ?_
          refine lv_aload_n hx hb dX9_plain_77 rfl (lv_at hl 0 rfl) ?_
          refine va_get (D := D) (ci := 9) (v := .int v9_53_4) (C := RX9) (T := TX9) (N := 37) hx hb htg gRX9 hown hK hP 2 rfl rfl 11 (by decide) (htg _ wi_1161) (fun _ h9 => h9) rfl dX9_plain_78 ?_
          refine va_put (D := D) (ci := 9) (v := .int v9_53_4) (ty := .int) (C := RX9) (T := TX9) (N := 37) hx hb htg gRX9 tyX9 tyX9_ok nmX9 hown hK hP hD hS 2 rfl rfl 13 (by decide) (htg _ wi_1163) (fun _ h9 => h9) rfl (by decide +kernel) rfl rfl (Nat.le_of_ble_eq_true rfl) dX9_plain_81 (fun H locs hP hD hS => ?_)
          obtain ⟨hP, hD⟩ : PD D A [(sw_in cT (g 0) 288 a0), (sw_in cT (g 3) 96 f9_53_0), (sw_9 h0 g 0 0 v9_53_1 k9_53 x v9_53_2 v9_53_3 v9_53_4 v9_53_5 v9_53_4 b14 b17 b18 b19 b23 b24 b25 b26 b27 b29 b31 b32 b33), (sw_in cT (g 2) 900 a2)] _ := ⟨hP, hD⟩
          refine lv_aload_n hx hb dX9_plain_84 rfl (lv_at hl 0 rfl) ?_
          refine lv_aload_n hx hb dX9_plain_85 rfl (lv_at hl 0 rfl) ?_
          refine va_get (D := D) (ci := 9) (v := .int v9_53_4) (C := RX9) (T := TX9) (N := 37) hx hb htg gRX9 hown hK hP 2 rfl rfl 11 (by decide) (htg _ wi_1161) (fun _ h9 => h9) rfl dX9_plain_86 ?_
          refine lv_if_ne (tgt := 96) hx hb dX9_plain_89 (by decide) (fun c_25 => ?_) (fun c_25 => ?_)
          · have ic_25 : ¬ v9_53_4.toInt = 0 := ine c_25 (rfl) (by decide)
            refine lv_aload_n hx hb dX9_plain_96 rfl (lv_at hl 0 rfl) ?_
            refine va_get (D := D) (ci := 9) (v := .int v9_53_5) (C := RX9) (T := TX9) (N := 37) hx hb htg gRX9 hown hK hP 2 rfl rfl 12 (by decide) (htg _ wi_1162) (fun _ h9 => h9) rfl dX9_plain_97 ?_
            refine va_put (D := D) (ci := 9) (v := .int v9_53_5) (ty := .int) (C := RX9) (T := TX9) (N := 37) hx hb htg gRX9 tyX9 tyX9_ok nmX9 hown hK hP hD hS 2 rfl rfl 14 (by decide) (htg _ wi_1164) (fun _ h9 => h9) rfl (by decide +kernel) rfl rfl (Nat.le_of_ble_eq_true rfl) dX9_plain_100 (fun H locs hP hD hS => ?_)
            obtain ⟨hP, hD⟩ : PD D A [(sw_in cT (g 0) 288 a0), (sw_in cT (g 3) 96 f9_53_0), (sw_9 h0 g 0 0 v9_53_1 k9_53 x v9_53_2 v9_53_3 v9_53_4 v9_53_5 v9_53_4 v9_53_5 b17 b18 b19 b23 b24 b25 b26 b27 b29 b31 b32 b33), (sw_in cT (g 2) 900 a2)] _ := ⟨hP, hD⟩
            refine lv_aload_n hx hb dX9_plain_103 rfl (lv_at hl 0 rfl) ?_
            refine va_get (D := D) (ci := 9) (v := .int v9_53_4) (C := RX9) (T := TX9) (N := 37) hx hb htg gRX9 hown hK hP 2 rfl rfl 11 (by decide) (htg _ wi_1161) (fun _ h9 => h9) rfl dX9_plain_104 ?_
            refine lv_if_eq (tgt := 118) hx hb dX9_plain_107 (by decide) (fun c_26 => ?_) (fun c_26 => ?_)
            · have ic_26 : v9_53_4.toInt = 0 := ieq c_26 (rfl) (by decide)
              refine lv_iconst (v := 0) hx hb dX9_plain_118 (by decide) ?_
              refine lv_istore_n (lv' := [(2, .int 0), (0, .ref h0), (1, .int x)]) hx hb dX9_plain_119 rfl hl (by decide) rfl (fun ls hl => ?_)
              have hc0 : ∀ j : Nat, j < 0 → a0 j = f9_53_0 j := fun j h => absurd h (by omega)
              have hc1 : ∀ j : Nat, 96 ≤ j → a0 j = a0 j := fun _ _ => rfl
              refine (fun (key : ∀ (n9_120 : Nat) (k9_120 : Nat) (f9_120_0 : Nat → Int32) (H : Heap) (locs : List Loc) (ls : Array Slot), (k9_120 : Int) ≤ 96 → 96 < (k9_120 : Int) + n9_120 → (∀ j : Nat, j < k9_120 → f9_120_0 j = f9_53_0 j) → (∀ j : Nat, 96 ≤ j → f9_120_0 j = a0 j) → PI 288 f9_120_0 → PD D A [(sw_in cT (g 0) 288 f9_120_0), (sw_in cT (g 3) 96 f9_53_0), (sw_9 h0 g 0 0 v9_53_1 k9_53 x v9_53_2 v9_53_3 v9_53_4 v9_53_5 v9_53_4 v9_53_5 b17 b18 b19 b23 b24 b25 b26 b27 b29 b31 b32 b33), (sw_in cT (g 2) 900 a2)] H → va_S A s.heap H locs → lv_has ls 3 [(2, .int (nI k9_120)), (0, .ref h0), (1, .int x)] → W p l e _ s m _ below meth c H locs _ _ _ (F0 m 120 ls [])) => key (Int.toNat (96 - 0) + 1) 0 _ _ _ _ (by omega) (by omega) (by first | assumption | omega | decide | (simp only [ti_0, ti_1, ti_2, ti_3, ti_4, ti_5, ti_6, ti_7, ti_8, ti_9, ti_10, ti_11, ti_12, ti_m1]; omega)) (by first | assumption | omega | decide | (simp only [ti_0, ti_1, ti_2, ti_3, ti_4, ti_5, ti_6, ti_7, ti_8, ti_9, ti_10, ti_11, ti_12, ti_m1]; omega)) (by first | assumption | omega | decide | (simp only [ti_0, ti_1, ti_2, ti_3, ti_4, ti_5, ti_6, ti_7, ti_8, ti_9, ti_10, ti_11, ti_12, ti_m1]; omega)) ⟨hP, hD⟩ hS (lv_sub hl [0, 1, 2] rfl)) ?_
              intro n9_120
              induction n9_120 with
              | zero => intro k9_120 f9_120_0 H locs ls hq1 hq2; exact absurd hq2 (by omega)
              | succ n9_120 ih_120 =>
                intro k9_120 f9_120_0 H locs ls hq1_120 hq2_120 h9_120_0 h9_120_1 h9_120_2 hPD hS hl
                obtain ⟨hP, hD⟩ := hPD
                have hk9_120 : (nI k9_120).toInt = (k9_120 : Int) := nI_toInt (by omega)
                refine lv_iload_n hx hb dX9_plain_120 rfl (lv_at hl 0 rfl) ?_
                refine lv_bipush (v := 96) hx hb dX9_plain_121 (by decide) ?_
                refine lv_icmp_ge (tgt := 144) hx hb dX9_plain_123 (by decide) (fun c_27 => ?_) (fun c_27 => ?_)
                · have ic_27 : 96 ≤ ((k9_120 : Nat) : Int) := ile c_27 (by decide) (nI_toInt (by omega))
                  have hcp : ∀ j : Nat, j < 96 → f9_120_0 j = f9_53_0 j := fun j h => h9_120_0 j (by omega)
                  refine lv_aload_n hx hb dX9_plain_144 rfl (lv_at hl 1 rfl) ?_
                  refine va_get (D := D) (ci := 9) (v := .ref (g 0)) (C := RX9) (T := TX9) (N := 37) hx hb htg gRX9 hown hK hP 2 rfl rfl 1 (by decide) (htg _ wi_1151) (fun _ h9 => h9) rfl dX9_plain_145 ?_
                  refine lv_bipush (v := 9) hx hb dX9_plain_148 (by decide) ?_
                  refine va_iald hx hb hK hP 0 0 rfl rfl (by unfold vp_in; decide) dX9_plain_150 ?_
                  refine lv_topi (fun z_28 ez_28 => ?_)
                  have oz_28 := pi_rd (a := 9) h9_120_2 ez_28 (by decide) (by omega)
                  unfold OKP at oz_28
                  exact x_iret hx hb hr hlk hP hD hS [2, 0, 3, 1] ((0, 0, v9_53_1, k9_53, x, v9_53_2, v9_53_3, v9_53_4, v9_53_5, v9_53_4, v9_53_5, f9_120_0, f9_53_0)) rfl (by decide) ⟨by (try dsimp only); first | assumption | omega | decide | exact Or.inl (by decide) | (intro h9; exact absurd h9 (by decide)) | (intro _; omega) | (intro _; assumption) | (intro _; decide), by (try dsimp only); first | assumption | omega | decide | exact Or.inl (by decide) | (intro h9; exact absurd h9 (by decide)) | (intro _; omega) | (intro _; assumption) | (intro _; decide), by (try dsimp only); first | assumption | omega | decide | exact Or.inl (by decide) | (intro h9; exact absurd h9 (by decide)) | (intro _; omega) | (intro _; assumption) | (intro _; decide), (fun h9 => by exfalso; omega), (fun h9 => by exfalso; omega), (fun h9 => by exfalso; omega), (fun h9 => by exfalso; omega), (fun _ => by (try dsimp only); rw [hend]; (try dsimp only); omega), (fun _ h8 => by (try dsimp only); rw [hend] at h8; (try dsimp only at h8); first | decide | (exfalso; omega) | omega), (fun _ h8 => by rw [hend] at h8; (try dsimp only at h8); exfalso; omega), (fun _ h8 => by rw [hend] at h8; (try dsimp only at h8); exfalso; omega), (fun _ h8 => by rw [hend] at h8; (try dsimp only at h8); exfalso; omega), (fun _ h8 => by (try dsimp only); rw [hend] at h8 ⊢; have hq := hplE h8; have h7 := hq.1 9 (by decide); have h6 := hcp 9 (by decide); have h5 : z_28 = f9_120_0 9 := ez_28; rw [h5, h6]; exact h7), (fun _ h8 => by (try dsimp only); rw [hend] at h8 ⊢; have hq := hplE h8; exact ⟨fun k hk => by rw [hcp k hk]; exact hq.1 k hk, h9_120_1⟩), trivial⟩ (by decide) (by decide) dX9_plain_151
                · have ic_27 : ((k9_120 : Nat) : Int) < 96 := inle c_27 (by decide) (nI_toInt (by omega))
                  refine lv_aload_n hx hb dX9_plain_126 rfl (lv_at hl 1 rfl) ?_
                  refine va_get (D := D) (ci := 9) (v := .ref (g 0)) (C := RX9) (T := TX9) (N := 37) hx hb htg gRX9 hown hK hP 2 rfl rfl 1 (by decide) (htg _ wi_1151) (fun _ h9 => h9) rfl dX9_plain_127 ?_
                  refine lv_iload_n hx hb dX9_plain_130 rfl (lv_at hl 0 rfl) ?_
                  refine lv_aload_n hx hb dX9_plain_131 rfl (lv_at hl 1 rfl) ?_
                  refine va_get (D := D) (ci := 9) (v := .ref (g 3)) (C := RX9) (T := TX9) (N := 37) hx hb htg gRX9 hown hK hP 2 rfl rfl 4 (by decide) (htg _ wi_1154) (fun _ h9 => h9) rfl dX9_plain_132 ?_
                  refine lv_iload_n hx hb dX9_plain_135 rfl (lv_at hl 0 rfl) ?_
                  refine va_iald hx hb hK hP 1 0 rfl rfl (vp_in_nI (by omega) (by omega)) dX9_plain_136 ?_
                  refine lv_topi (fun z_29 ez_29 => ?_)
                  have oz_29 := pi_rd (a := ((k9_120 : Nat) : Int)) (h9_53_10.2 (by omega)) ez_29 (nI_toInt (by omega)) (by omega)
                  unfold OKP at oz_29
                  refine va_iast hx hb hK hP hD hS 0 0 rfl rfl (vp_in_nI (by omega) (by omega)) dX9_plain_137 (fun H locs hP hD hS => ?_)
                  obtain ⟨f_30, ef_30, hP, hD⟩ : ∃ f_30 : Nat → Int32, f_30 = upd (f9_120_0) ((nI k9_120) : Int32).toNatClampNeg z_29 ∧ PD D A [(sw_in cT (g 0) 288 f_30), (sw_in cT (g 3) 96 f9_53_0), (sw_9 h0 g 0 0 v9_53_1 k9_53 x v9_53_2 v9_53_3 v9_53_4 v9_53_5 v9_53_4 v9_53_5 b17 b18 b19 b23 b24 b25 b26 b27 b29 b31 b32 b33), (sw_in cT (g 2) 900 a2)] H := ⟨_, rfl, hP, hD⟩
                  have qf_30 : PI 288 f_30 := by rw [ef_30]; exact pi_upd (a := ((k9_120 : Nat) : Int)) (b := z_29.toInt) h9_120_2 (nI_toInt (by omega)) (rfl) (by omega) (by unfold OKP; omega)
                  refine lv_iinc (v := (nI (k9_120 + 1))) (lv' := [(2, .int (nI (k9_120 + 1))), (0, .ref h0), (1, .int x)]) hx hb dX9_plain_138 hl (k := 0) rfl (by exact nI_1 (k9_120)) (by decide) rfl (fun ls hl => ?_)
                  refine lv_goto (tgt := 120) hx hb dX9_plain_141 (by decide) ?_
                  have hc0 : ∀ j : Nat, j < k9_120 + 1 → f_30 j = f9_53_0 j := fun j h => by rw [ef_30]; rcases (show j = k9_120 ∨ j < k9_120 from by omega) with h1 | h1; rw [upd_at2 (by rw [nI_toInt (by omega)]; omega), ez_29, nI_clamp (by omega), h1]; rw [upd_no (by rw [nI_toInt (by omega)]; omega) (by rw [nI_toInt (by omega)]; omega)]; exact h9_120_0 j h1
                  have hc1 : ∀ j : Nat, 96 ≤ j → f_30 j = a0 j := fun j h => by rw [ef_30, upd_no (by rw [nI_toInt (by omega)]; omega) (by rw [nI_toInt (by omega)]; omega)]; exact h9_120_1 j h
                  exact ih_120 (k9_120 + 1) _ _ _ _ (by omega) (by omega) (by first | assumption | omega | decide | (simp only [ti_0, ti_1, ti_2, ti_3, ti_4, ti_5, ti_6, ti_7, ti_8, ti_9, ti_10, ti_11, ti_12, ti_m1]; omega)) (by first | assumption | omega | decide | (simp only [ti_0, ti_1, ti_2, ti_3, ti_4, ti_5, ti_6, ti_7, ti_8, ti_9, ti_10, ti_11, ti_12, ti_m1]; omega)) (by first | assumption | omega | decide | (simp only [ti_0, ti_1, ti_2, ti_3, ti_4, ti_5, ti_6, ti_7, ti_8, ti_9, ti_10, ti_11, ti_12, ti_m1]; omega)) ⟨hP.sub [0, 1, 2, 3] rfl, hD.sub [0, 1, 2, 3] (by decide) rfl⟩ hS (lv_sub hl [0, 1, 2] rfl)
            · have ic_26 : ¬ v9_53_4.toInt = 0 := ine c_26 (rfl) (by decide)
              refine lv_bipush (v := (-30)) hx hb dX9_plain_110 (by decide) ?_
              refine lv_aload_n hx hb dX9_plain_112 rfl (lv_at hl 0 rfl) ?_
              refine va_get (D := D) (ci := 9) (v := .int v9_53_4) (C := RX9) (T := TX9) (N := 37) hx hb htg gRX9 hown hK hP 2 rfl rfl 11 (by decide) (htg _ wi_1161) (fun _ h9 => h9) rfl dX9_plain_113 ?_
              have hw4 : 0 ≤ v9_53_4.toInt ∧ v9_53_4.toInt ≤ 4 := by omega
              refine lv_isub hx hb dX9_plain_116 ?_
              refine lv_topi (fun z_31 ez_31 => ?_)
              have iz_31 : z_31.toInt = (-30) - v9_53_4.toInt := toInt_subI ez_31 (by decide) (rfl) (by omega)
              exact x_iret hx hb hr hlk hP hD hS [2, 0, 3, 1] ((0, 0, v9_53_1, k9_53, x, v9_53_2, v9_53_3, v9_53_4, v9_53_5, v9_53_4, v9_53_5, a0, f9_53_0)) rfl (by decide) ⟨by (try dsimp only); first | assumption | omega | decide | exact Or.inl (by decide) | (intro h9; exact absurd h9 (by decide)) | (intro _; omega) | (intro _; assumption) | (intro _; decide), by (try dsimp only); first | assumption | omega | decide | exact Or.inl (by decide) | (intro h9; exact absurd h9 (by decide)) | (intro _; omega) | (intro _; assumption) | (intro _; decide), by (try dsimp only); first | assumption | omega | decide | exact Or.inl (by decide) | (intro h9; exact absurd h9 (by decide)) | (intro _; omega) | (intro _; assumption) | (intro _; decide), (fun h9 => by exfalso; omega), (fun h9 => by exfalso; omega), (fun h9 => by exfalso; omega), (fun h9 => by exfalso; omega), (fun _ => by (try dsimp only); rw [hend]; (try dsimp only); omega), (fun _ h8 => by (try dsimp only); rw [hend] at h8; (try dsimp only at h8); first | decide | (exfalso; omega) | omega), (fun _ h8 => by (try dsimp only); rw [hend] at h8 ⊢; (try dsimp only at h8 ⊢); first | exact hwr9 h8 | omega), (fun _ h8 => by (try dsimp only); rw [hend] at h8 ⊢; (try dsimp only at h8 ⊢); first | exact hwr9 h8 | omega), (fun _ h8 => rfl), (fun _ h8 => by rw [hend] at h8; (try dsimp only at h8); exfalso; omega), (fun _ h8 => by rw [hend] at h8; (try dsimp only at h8); exfalso; omega), trivial⟩ (by decide) (by decide) dX9_plain_117
          · have ic_25 : v9_53_4.toInt = 0 := ieq c_25 (rfl) (by decide)
            refine lv_iconst (v := (-1)) hx hb dX9_plain_92 (by decide) ?_
            refine lv_goto (tgt := 100) hx hb dX9_plain_93 (by decide) ?_
            refine va_put (D := D) (ci := 9) (v := .int (-1)) (ty := .int) (C := RX9) (T := TX9) (N := 37) hx hb htg gRX9 tyX9 tyX9_ok nmX9 hown hK hP hD hS 2 rfl rfl 14 (by decide) (htg _ wi_1164) (fun _ h9 => h9) rfl (by decide +kernel) rfl rfl (Nat.le_of_ble_eq_true rfl) dX9_plain_100 (fun H locs hP hD hS => ?_)
            obtain ⟨hP, hD⟩ : PD D A [(sw_in cT (g 0) 288 a0), (sw_in cT (g 3) 96 f9_53_0), (sw_9 h0 g 0 0 v9_53_1 k9_53 x v9_53_2 v9_53_3 v9_53_4 v9_53_5 v9_53_4 (-1) b17 b18 b19 b23 b24 b25 b26 b27 b29 b31 b32 b33), (sw_in cT (g 2) 900 a2)] _ := ⟨hP, hD⟩
            refine lv_aload_n hx hb dX9_plain_103 rfl (lv_at hl 0 rfl) ?_
            refine va_get (D := D) (ci := 9) (v := .int v9_53_4) (C := RX9) (T := TX9) (N := 37) hx hb htg gRX9 hown hK hP 2 rfl rfl 11 (by decide) (htg _ wi_1161) (fun _ h9 => h9) rfl dX9_plain_104 ?_
            refine lv_if_eq (tgt := 118) hx hb dX9_plain_107 (by decide) (fun c_32 => ?_) (fun c_32 => ?_)
            · have ic_32 : v9_53_4.toInt = 0 := ieq c_32 (rfl) (by decide)
              refine lv_iconst (v := 0) hx hb dX9_plain_118 (by decide) ?_
              refine lv_istore_n (lv' := [(2, .int 0), (0, .ref h0), (1, .int x)]) hx hb dX9_plain_119 rfl hl (by decide) rfl (fun ls hl => ?_)
              have hc0 : ∀ j : Nat, j < 0 → a0 j = f9_53_0 j := fun j h => absurd h (by omega)
              have hc1 : ∀ j : Nat, 96 ≤ j → a0 j = a0 j := fun _ _ => rfl
              refine (fun (key : ∀ (n9_120 : Nat) (k9_120 : Nat) (f9_120_0 : Nat → Int32) (H : Heap) (locs : List Loc) (ls : Array Slot), (k9_120 : Int) ≤ 96 → 96 < (k9_120 : Int) + n9_120 → (∀ j : Nat, j < k9_120 → f9_120_0 j = f9_53_0 j) → (∀ j : Nat, 96 ≤ j → f9_120_0 j = a0 j) → PI 288 f9_120_0 → PD D A [(sw_in cT (g 0) 288 f9_120_0), (sw_in cT (g 3) 96 f9_53_0), (sw_9 h0 g 0 0 v9_53_1 k9_53 x v9_53_2 v9_53_3 v9_53_4 v9_53_5 v9_53_4 (-1) b17 b18 b19 b23 b24 b25 b26 b27 b29 b31 b32 b33), (sw_in cT (g 2) 900 a2)] H → va_S A s.heap H locs → lv_has ls 3 [(2, .int (nI k9_120)), (0, .ref h0), (1, .int x)] → W p l e _ s m _ below meth c H locs _ _ _ (F0 m 120 ls [])) => key (Int.toNat (96 - 0) + 1) 0 _ _ _ _ (by omega) (by omega) (by first | assumption | omega | decide | (simp only [ti_0, ti_1, ti_2, ti_3, ti_4, ti_5, ti_6, ti_7, ti_8, ti_9, ti_10, ti_11, ti_12, ti_m1]; omega)) (by first | assumption | omega | decide | (simp only [ti_0, ti_1, ti_2, ti_3, ti_4, ti_5, ti_6, ti_7, ti_8, ti_9, ti_10, ti_11, ti_12, ti_m1]; omega)) (by first | assumption | omega | decide | (simp only [ti_0, ti_1, ti_2, ti_3, ti_4, ti_5, ti_6, ti_7, ti_8, ti_9, ti_10, ti_11, ti_12, ti_m1]; omega)) ⟨hP, hD⟩ hS (lv_sub hl [0, 1, 2] rfl)) ?_
              intro n9_120
              induction n9_120 with
              | zero => intro k9_120 f9_120_0 H locs ls hq1 hq2; exact absurd hq2 (by omega)
              | succ n9_120 ih_120 =>
                intro k9_120 f9_120_0 H locs ls hq1_120 hq2_120 h9_120_0 h9_120_1 h9_120_2 hPD hS hl
                obtain ⟨hP, hD⟩ := hPD
                have hk9_120 : (nI k9_120).toInt = (k9_120 : Int) := nI_toInt (by omega)
                refine lv_iload_n hx hb dX9_plain_120 rfl (lv_at hl 0 rfl) ?_
                refine lv_bipush (v := 96) hx hb dX9_plain_121 (by decide) ?_
                refine lv_icmp_ge (tgt := 144) hx hb dX9_plain_123 (by decide) (fun c_33 => ?_) (fun c_33 => ?_)
                · have ic_33 : 96 ≤ ((k9_120 : Nat) : Int) := ile c_33 (by decide) (nI_toInt (by omega))
                  have hcp : ∀ j : Nat, j < 96 → f9_120_0 j = f9_53_0 j := fun j h => h9_120_0 j (by omega)
                  refine lv_aload_n hx hb dX9_plain_144 rfl (lv_at hl 1 rfl) ?_
                  refine va_get (D := D) (ci := 9) (v := .ref (g 0)) (C := RX9) (T := TX9) (N := 37) hx hb htg gRX9 hown hK hP 2 rfl rfl 1 (by decide) (htg _ wi_1151) (fun _ h9 => h9) rfl dX9_plain_145 ?_
                  refine lv_bipush (v := 9) hx hb dX9_plain_148 (by decide) ?_
                  refine va_iald hx hb hK hP 0 0 rfl rfl (by unfold vp_in; decide) dX9_plain_150 ?_
                  refine lv_topi (fun z_34 ez_34 => ?_)
                  have oz_34 := pi_rd (a := 9) h9_120_2 ez_34 (by decide) (by omega)
                  unfold OKP at oz_34
                  exact x_iret hx hb hr hlk hP hD hS [2, 0, 3, 1] ((0, 0, v9_53_1, k9_53, x, v9_53_2, v9_53_3, v9_53_4, v9_53_5, v9_53_4, (-1), f9_120_0, f9_53_0)) rfl (by decide) ⟨by (try dsimp only); first | assumption | omega | decide | exact Or.inl (by decide) | (intro h9; exact absurd h9 (by decide)) | (intro _; omega) | (intro _; assumption) | (intro _; decide), by (try dsimp only); first | assumption | omega | decide | exact Or.inl (by decide) | (intro h9; exact absurd h9 (by decide)) | (intro _; omega) | (intro _; assumption) | (intro _; decide), by (try dsimp only); first | assumption | omega | decide | exact Or.inl (by decide) | (intro h9; exact absurd h9 (by decide)) | (intro _; omega) | (intro _; assumption) | (intro _; decide), (fun h9 => by exfalso; omega), (fun h9 => by exfalso; omega), (fun h9 => by exfalso; omega), (fun h9 => by exfalso; omega), (fun _ => by (try dsimp only); rw [hend]; (try dsimp only); omega), (fun _ h8 => by (try dsimp only); rw [hend] at h8; (try dsimp only at h8); first | decide | (exfalso; omega) | omega), (fun _ h8 => by rw [hend] at h8; (try dsimp only at h8); exfalso; omega), (fun _ h8 => by rw [hend] at h8; (try dsimp only at h8); exfalso; omega), (fun _ h8 => by rw [hend] at h8; (try dsimp only at h8); exfalso; omega), (fun _ h8 => by (try dsimp only); rw [hend] at h8 ⊢; have hq := hplE h8; have h7 := hq.1 9 (by decide); have h6 := hcp 9 (by decide); have h5 : z_34 = f9_120_0 9 := ez_34; rw [h5, h6]; exact h7), (fun _ h8 => by (try dsimp only); rw [hend] at h8 ⊢; have hq := hplE h8; exact ⟨fun k hk => by rw [hcp k hk]; exact hq.1 k hk, h9_120_1⟩), trivial⟩ (by decide) (by decide) dX9_plain_151
                · have ic_33 : ((k9_120 : Nat) : Int) < 96 := inle c_33 (by decide) (nI_toInt (by omega))
                  refine lv_aload_n hx hb dX9_plain_126 rfl (lv_at hl 1 rfl) ?_
                  refine va_get (D := D) (ci := 9) (v := .ref (g 0)) (C := RX9) (T := TX9) (N := 37) hx hb htg gRX9 hown hK hP 2 rfl rfl 1 (by decide) (htg _ wi_1151) (fun _ h9 => h9) rfl dX9_plain_127 ?_
                  refine lv_iload_n hx hb dX9_plain_130 rfl (lv_at hl 0 rfl) ?_
                  refine lv_aload_n hx hb dX9_plain_131 rfl (lv_at hl 1 rfl) ?_
                  refine va_get (D := D) (ci := 9) (v := .ref (g 3)) (C := RX9) (T := TX9) (N := 37) hx hb htg gRX9 hown hK hP 2 rfl rfl 4 (by decide) (htg _ wi_1154) (fun _ h9 => h9) rfl dX9_plain_132 ?_
                  refine lv_iload_n hx hb dX9_plain_135 rfl (lv_at hl 0 rfl) ?_
                  refine va_iald hx hb hK hP 1 0 rfl rfl (vp_in_nI (by omega) (by omega)) dX9_plain_136 ?_
                  refine lv_topi (fun z_35 ez_35 => ?_)
                  have oz_35 := pi_rd (a := ((k9_120 : Nat) : Int)) (h9_53_10.2 (by omega)) ez_35 (nI_toInt (by omega)) (by omega)
                  unfold OKP at oz_35
                  refine va_iast hx hb hK hP hD hS 0 0 rfl rfl (vp_in_nI (by omega) (by omega)) dX9_plain_137 (fun H locs hP hD hS => ?_)
                  obtain ⟨f_36, ef_36, hP, hD⟩ : ∃ f_36 : Nat → Int32, f_36 = upd (f9_120_0) ((nI k9_120) : Int32).toNatClampNeg z_35 ∧ PD D A [(sw_in cT (g 0) 288 f_36), (sw_in cT (g 3) 96 f9_53_0), (sw_9 h0 g 0 0 v9_53_1 k9_53 x v9_53_2 v9_53_3 v9_53_4 v9_53_5 v9_53_4 (-1) b17 b18 b19 b23 b24 b25 b26 b27 b29 b31 b32 b33), (sw_in cT (g 2) 900 a2)] H := ⟨_, rfl, hP, hD⟩
                  have qf_36 : PI 288 f_36 := by rw [ef_36]; exact pi_upd (a := ((k9_120 : Nat) : Int)) (b := z_35.toInt) h9_120_2 (nI_toInt (by omega)) (rfl) (by omega) (by unfold OKP; omega)
                  refine lv_iinc (v := (nI (k9_120 + 1))) (lv' := [(2, .int (nI (k9_120 + 1))), (0, .ref h0), (1, .int x)]) hx hb dX9_plain_138 hl (k := 0) rfl (by exact nI_1 (k9_120)) (by decide) rfl (fun ls hl => ?_)
                  refine lv_goto (tgt := 120) hx hb dX9_plain_141 (by decide) ?_
                  have hc0 : ∀ j : Nat, j < k9_120 + 1 → f_36 j = f9_53_0 j := fun j h => by rw [ef_36]; rcases (show j = k9_120 ∨ j < k9_120 from by omega) with h1 | h1; rw [upd_at2 (by rw [nI_toInt (by omega)]; omega), ez_35, nI_clamp (by omega), h1]; rw [upd_no (by rw [nI_toInt (by omega)]; omega) (by rw [nI_toInt (by omega)]; omega)]; exact h9_120_0 j h1
                  have hc1 : ∀ j : Nat, 96 ≤ j → f_36 j = a0 j := fun j h => by rw [ef_36, upd_no (by rw [nI_toInt (by omega)]; omega) (by rw [nI_toInt (by omega)]; omega)]; exact h9_120_1 j h
                  exact ih_120 (k9_120 + 1) _ _ _ _ (by omega) (by omega) (by first | assumption | omega | decide | (simp only [ti_0, ti_1, ti_2, ti_3, ti_4, ti_5, ti_6, ti_7, ti_8, ti_9, ti_10, ti_11, ti_12, ti_m1]; omega)) (by first | assumption | omega | decide | (simp only [ti_0, ti_1, ti_2, ti_3, ti_4, ti_5, ti_6, ti_7, ti_8, ti_9, ti_10, ti_11, ti_12, ti_m1]; omega)) (by first | assumption | omega | decide | (simp only [ti_0, ti_1, ti_2, ti_3, ti_4, ti_5, ti_6, ti_7, ti_8, ti_9, ti_10, ti_11, ti_12, ti_m1]; omega)) ⟨hP.sub [0, 1, 2, 3] rfl, hD.sub [0, 1, 2, 3] (by decide) rfl⟩ hS (lv_sub hl [0, 1, 2] rfl)
            · have ic_32 : ¬ v9_53_4.toInt = 0 := ine c_32 (rfl) (by decide)
              refine lv_bipush (v := (-30)) hx hb dX9_plain_110 (by decide) ?_
              refine lv_aload_n hx hb dX9_plain_112 rfl (lv_at hl 0 rfl) ?_
              refine va_get (D := D) (ci := 9) (v := .int v9_53_4) (C := RX9) (T := TX9) (N := 37) hx hb htg gRX9 hown hK hP 2 rfl rfl 11 (by decide) (htg _ wi_1161) (fun _ h9 => h9) rfl dX9_plain_113 ?_
              have hw4 : 0 ≤ v9_53_4.toInt ∧ v9_53_4.toInt ≤ 4 := by omega
              refine lv_isub hx hb dX9_plain_116 ?_
              refine lv_topi (fun z_37 ez_37 => ?_)
              have iz_37 : z_37.toInt = (-30) - v9_53_4.toInt := toInt_subI ez_37 (by decide) (rfl) (by omega)
              exact x_iret hx hb hr hlk hP hD hS [2, 0, 3, 1] ((0, 0, v9_53_1, k9_53, x, v9_53_2, v9_53_3, v9_53_4, v9_53_5, v9_53_4, (-1), a0, f9_53_0)) rfl (by decide) ⟨by (try dsimp only); first | assumption | omega | decide | exact Or.inl (by decide) | (intro h9; exact absurd h9 (by decide)) | (intro _; omega) | (intro _; assumption) | (intro _; decide), by (try dsimp only); first | assumption | omega | decide | exact Or.inl (by decide) | (intro h9; exact absurd h9 (by decide)) | (intro _; omega) | (intro _; assumption) | (intro _; decide), by (try dsimp only); first | assumption | omega | decide | exact Or.inl (by decide) | (intro h9; exact absurd h9 (by decide)) | (intro _; omega) | (intro _; assumption) | (intro _; decide), (fun h9 => by exfalso; omega), (fun h9 => by exfalso; omega), (fun h9 => by exfalso; omega), (fun h9 => by exfalso; omega), (fun _ => by (try dsimp only); rw [hend]; (try dsimp only); omega), (fun _ h8 => by (try dsimp only); rw [hend] at h8; (try dsimp only at h8); first | decide | (exfalso; omega) | omega), (fun _ h8 => by (try dsimp only); rw [hend] at h8 ⊢; (try dsimp only at h8 ⊢); first | exact hwr9 h8 | omega), (fun _ h8 => by (try dsimp only); rw [hend] at h8 ⊢; (try dsimp only at h8 ⊢); first | exact hwr9 h8 | omega), (fun _ h8 => rfl), (fun _ h8 => by rw [hend] at h8; (try dsimp only at h8); exfalso; omega), (fun _ h8 => by rw [hend] at h8; (try dsimp only at h8); exfalso; omega), trivial⟩ (by decide) (by decide) dX9_plain_117
        · have ic_24 : ¬ v9_53_2.toInt = 16 := ine c_24 (rfl) (by decide)
          refine lv_aload_n hx hb dX9_plain_69 rfl (lv_at hl 0 rfl) ?_
          refine xk_v (wr := [(sw_in cT (g 0) 288 a0)]) (xr_V (n := 0) (As := []) (rest := []) ⟨hx, hb, hml, hown, htg⟩ hK hN hP hD hS hA [2, 3, 1] rfl (by decide) (m_readLineR l D cT _ (h0) (g) (0) (0) (v9_53_1) (k9_53) (x) (v9_53_2) (v9_53_3) (v9_53_4) (v9_53_5) (b13) (b14) (b17) (b18) (b19) (b23) (b24) (b25) (b26) (b27) (b29) (b31) (b32) (b33) (by first | assumption | omega | decide | exact Or.inl (by decide) | (intro h9; exact absurd h9 (by decide)) | (intro _; omega) | (intro _; assumption) | (intro _; decide)) (a2) (f9_53_0) (by first | assumption | omega | decide | exact Or.inl (by decide) | (intro h9; exact absurd h9 (by decide)) | (intro _; omega) | (intro _; assumption) | (intro _; decide)) (by first | assumption | omega | decide | exact Or.inl (by decide) | (intro h9; exact absurd h9 (by decide)) | (intro _; omega) | (intro _; assumption) | (intro _; decide)) (by first | assumption | omega | decide | exact Or.inl (by decide) | (intro h9; exact absurd h9 (by decide)) | (intro _; omega) | (intro _; assumption) | (intro _; decide)) (tx) (by first | assumption | omega | decide | exact Or.inl (by decide) | (intro h9; exact absurd h9 (by decide)) | (intro _; omega) | (intro _; assumption) | (intro _; decide)) (sgl) (by first | assumption | omega | decide | exact Or.inl (by decide) | (intro h9; exact absurd h9 (by decide)) | (intro _; omega) | (intro _; assumption) | (intro _; decide)) (by first | assumption | omega | decide | exact Or.inl (by decide) | (intro h9; exact absurd h9 (by decide)) | (intro _; omega) | (intro _; assumption) | (intro _; decide)) (by first | assumption | omega | decide | exact Or.inl (by decide) | (intro h9; exact absurd h9 (by decide)) | (intro _; omega) | (intro _; assumption) | (intro _; decide)) (by first | assumption | omega | decide | exact Or.inl (by decide) | (intro h9; exact absurd h9 (by decide)) | (intro _; omega) | (intro _; assumption) | (intro _; decide)) (by first | assumption | omega | decide | exact Or.inl (by decide) | (intro h9; exact absurd h9 (by decide)) | (intro _; omega) | (intro _; assumption) | (intro _; decide)) (by first | assumption | omega | decide | exact Or.inl (by decide) | (intro h9; exact absurd h9 (by decide)) | (intro _; omega) | (intro _; assumption) | (intro _; decide)) (pll) (by first | assumption | omega | decide | exact Or.inl (by decide) | (intro h9; exact absurd h9 (by decide)) | (intro _; omega) | (intro _; assumption) | (intro _; decide)) (by first | assumption | omega | decide | exact Or.inl (by decide) | (intro h9; exact absurd h9 (by decide)) | (intro _; omega) | (intro _; assumption) | (intro _; decide)) (by first | assumption | omega | decide | exact Or.inl (by decide) | (intro h9; exact absurd h9 (by decide)) | (intro _; omega) | (intro _; assumption) | (intro _; decide))) wi_1294 wi_1296 wi_81 wi_131 wi_1297 rfl rfl rfl ⟨rfl, by decide +kernel⟩ ⟨Nat.le_of_ble_eq_true rfl, Nat.le_of_ble_eq_true rfl⟩ rfl hl.1 rfl (Nat.le_of_ble_eq_true rfl) dX9_plain_70 ⟨Nat.le_of_ble_eq_true rfl, Nat.le_of_ble_eq_true rfl⟩) hP hD hS hA [2, 3, 1] [0] rfl rfl (by decide) (by decide) (fun u_38 H locs hwr_39 hP hD hS => ?_)
          obtain ⟨hP, hD⟩ : PD D A [(sw_in cT (g 0) 288 a0), (sw_9 h0 g 0 0 u_38.1 u_38.2.1 x u_38.2.2.1 u_38.2.2.2.1 u_38.2.2.2.2.1 u_38.2.2.2.2.2.1 b13 b14 b17 b18 b19 b23 b24 b25 b26 b27 b29 b31 b32 b33), (sw_in cT (g 2) 900 a2), (sw_in cT (g 3) 96 u_38.2.2.2.2.2.2)] _ := ⟨hP, hD⟩
          have qr_39_0 : PW (u_38.2.2.2.2.1.toInt) u_38.2.2.2.2.2.2 := hwr_39.1
          have qr_39_1 : 0 ≤ u_38.2.1.toInt ∧ u_38.2.1.toInt ≤ 900 := hwr_39.2.1
          have qr_39_2 : k9_53.toInt ≤ u_38.2.1.toInt ∧ u_38.2.1.toInt ≤ x.toInt := hwr_39.2.2.1
          have qr_39_3 : Imp (u_38.2.2.2.2.1.toInt = 0) (k9_53.toInt < u_38.2.1.toInt) := hwr_39.2.2.2.1
          have qr_39_4 : u_38.1.toInt = (lineF tx x.toInt (pll 0) sgl) 0 := hwr_39.2.2.2.2.1
          have qr_39_5 : u_38.2.1.toInt = (lineF tx x.toInt (pll 0) sgl) 1 := hwr_39.2.2.2.2.2.1
          have qr_39_6 : u_38.2.2.1.toInt = (lineF tx x.toInt (pll 0) sgl) 2 := hwr_39.2.2.2.2.2.2.1
          have qr_39_7 : NV u_38.2.2.2.1.toInt (lineF tx x.toInt (pll 0) sgl) := hwr_39.2.2.2.2.2.2.2.1
          have qr_39_8 : u_38.2.2.2.2.1.toInt = (lineF tx x.toInt (pll 0) sgl) 4 := hwr_39.2.2.2.2.2.2.2.2.1
          have qr_39_9 : WR u_38.2.2.2.2.2.1.toInt (lineF tx x.toInt (pll 0) sgl) := hwr_39.2.2.2.2.2.2.2.2.2.1
          have qr_39_10 : Hd ((lineF tx x.toInt (pll 0) sgl) 4 = 0) (PLm (lineP tx x.toInt sgl pll) u_38.2.2.2.2.2.2) := hwr_39.2.2.2.2.2.2.2.2.2.2.1
          refine lv_goto (tgt := 53) hx hb dX9_plain_73 (by decide) ?_
          have hp9 : (lineP tx x.toInt sgl pll) 9 = pll 9 + 1 := by unfold lineP; rw [pu_eq rfl, body_9]
          have hla : (lineF tx x.toInt (pll 0) sgl) 4 = 0 → (sgl 1 ≤ (lineF tx x.toInt (pll 0) sgl) 0 ∧ ((lineF tx x.toInt (pll 0) sgl) 2 = 16 ∨ (lineF tx x.toInt (pll 0) sgl) 0 < (lineF tx x.toInt (pll 0) sgl) 1)) := fun h => line_at h
          have hp953 : 0 ≤ (lineP tx x.toInt sgl pll) 9 ∧ ((lineF tx x.toInt (pll 0) sgl) 4 = 0 → (lineP tx x.toInt sgl pll) 9 ≤ (lineF tx x.toInt (pll 0) sgl) 0) := by omega
          have hlt53 : (lineF tx x.toInt (pll 0) sgl) 4 = 0 → ((lineF tx x.toInt (pll 0) sgl) 2 = 16 ∨ (lineF tx x.toInt (pll 0) sgl) 0 < (lineF tx x.toInt (pll 0) sgl) 1) := fun h => (hla h).2
          have htl53 : textF tx x.toInt (900 - ((lineP tx x.toInt sgl pll) 9).toNat) (lineF tx x.toInt (pll 0) sgl, lineP tx x.toInt sgl pll) = tellF tx x.toInt := by rw [← h9_53_9, hp9, show (pll 9 + 1).toNat = (pll 9).toNat + 1 from by omega]; exact (text_s (by omega) (by omega) (by omega)).symm
          by_cases hw9 : (u_38.2.2.2.2.1).toInt = 0
          · have kqr_39_3 : k9_53.toInt < u_38.2.1.toInt := qr_39_3 hw9
            exact ih_53 (u_38.2.1) _ _ _ _ _ _ (lineF tx x.toInt (pll 0) sgl) (lineP tx x.toInt sgl pll) _ _ _ (by omega) (by omega) (by first | assumption | omega | decide | (simp only [ti_0, ti_1, ti_2, ti_3, ti_4, ti_5, ti_6, ti_7, ti_8, ti_9, ti_10, ti_11, ti_12, ti_m1]; omega)) (by first | assumption | omega | decide | (simp only [ti_0, ti_1, ti_2, ti_3, ti_4, ti_5, ti_6, ti_7, ti_8, ti_9, ti_10, ti_11, ti_12, ti_m1]; omega)) (by first | assumption | omega | decide | (simp only [ti_0, ti_1, ti_2, ti_3, ti_4, ti_5, ti_6, ti_7, ti_8, ti_9, ti_10, ti_11, ti_12, ti_m1]; omega)) (by first | assumption | omega | decide | (simp only [ti_0, ti_1, ti_2, ti_3, ti_4, ti_5, ti_6, ti_7, ti_8, ti_9, ti_10, ti_11, ti_12, ti_m1]; omega)) (by first | assumption | omega | decide | (simp only [ti_0, ti_1, ti_2, ti_3, ti_4, ti_5, ti_6, ti_7, ti_8, ti_9, ti_10, ti_11, ti_12, ti_m1]; omega)) (by first | assumption | omega | decide | (simp only [ti_0, ti_1, ti_2, ti_3, ti_4, ti_5, ti_6, ti_7, ti_8, ti_9, ti_10, ti_11, ti_12, ti_m1]; omega)) (by first | assumption | omega | decide | (simp only [ti_0, ti_1, ti_2, ti_3, ti_4, ti_5, ti_6, ti_7, ti_8, ti_9, ti_10, ti_11, ti_12, ti_m1]; omega)) (by first | assumption | omega | decide | (simp only [ti_0, ti_1, ti_2, ti_3, ti_4, ti_5, ti_6, ti_7, ti_8, ti_9, ti_10, ti_11, ti_12, ti_m1]; omega)) (by first | assumption | omega | decide | (simp only [ti_0, ti_1, ti_2, ti_3, ti_4, ti_5, ti_6, ti_7, ti_8, ti_9, ti_10, ti_11, ti_12, ti_m1]; omega)) (by first | assumption | omega | decide | (simp only [ti_0, ti_1, ti_2, ti_3, ti_4, ti_5, ti_6, ti_7, ti_8, ti_9, ti_10, ti_11, ti_12, ti_m1]; omega)) (by first | assumption | omega | decide | (simp only [ti_0, ti_1, ti_2, ti_3, ti_4, ti_5, ti_6, ti_7, ti_8, ti_9, ti_10, ti_11, ti_12, ti_m1]; omega)) ⟨hP.sub [0, 3, 1, 2] rfl, hD.sub [0, 3, 1, 2] (by decide) rfl⟩ hS (lv_sub hl [0, 1] rfl)
          · refine lv_aload_n hx hb dX9_plain_53 rfl (lv_at hl 0 rfl) ?_
            refine va_get (D := D) (ci := 9) (v := .int u_38.2.2.2.2.1) (C := RX9) (T := TX9) (N := 37) hx hb htg gRX9 hown hK hP 1 rfl rfl 11 (by decide) (htg _ wi_1161) (fun _ h9 => h9) rfl dX9_plain_54 ?_
            refine lv_if_ne (tgt := 76) hx hb dX9_plain_57 (by decide) (fun _ => ?_) (fun h => absurd h (fun h => hw9 (by rw [h]; decide)))
            have hend : tellF tx x.toInt = (lineF tx x.toInt (pll 0) sgl, lineP tx x.toInt sgl pll) := by rw [← htl53]; exact text_e (by omega)
            have hplE : (lineF tx x.toInt (pll 0) sgl) 4 = 0 → PLm (lineP tx x.toInt sgl pll) u_38.2.2.2.2.2.2 := (by assumption)
            have htb := tell_b tx x.toInt
            rw [hend] at htb
            have htb4 : 0 ≤ (lineF tx x.toInt (pll 0) sgl) 4 ∧ (lineF tx x.toInt (pll 0) sgl) 4 ≤ 4 := htb
            have hwr9 : ¬ (lineF tx x.toInt (pll 0) sgl) 4 = 0 → (u_38.2.2.2.2.2.1).toInt = (lineF tx x.toInt (pll 0) sgl) 5 := (show WR ((u_38.2.2.2.2.2.1).toInt) (lineF tx x.toInt (pll 0) sgl) from by assumption)
            refine lv_aload_n hx hb dX9_plain_76 rfl (lv_at hl 0 rfl) ?_
            refine lv_aload_n hx hb dX9_plain_77 rfl (lv_at hl 0 rfl) ?_
            refine va_get (D := D) (ci := 9) (v := .int u_38.2.2.2.2.1) (C := RX9) (T := TX9) (N := 37) hx hb htg gRX9 hown hK hP 1 rfl rfl 11 (by decide) (htg _ wi_1161) (fun _ h9 => h9) rfl dX9_plain_78 ?_
            refine va_put (D := D) (ci := 9) (v := .int u_38.2.2.2.2.1) (ty := .int) (C := RX9) (T := TX9) (N := 37) hx hb htg gRX9 tyX9 tyX9_ok nmX9 hown hK hP hD hS 1 rfl rfl 13 (by decide) (htg _ wi_1163) (fun _ h9 => h9) rfl (by decide +kernel) rfl rfl (Nat.le_of_ble_eq_true rfl) dX9_plain_81 (fun H locs hP hD hS => ?_)
            obtain ⟨hP, hD⟩ : PD D A [(sw_in cT (g 0) 288 a0), (sw_9 h0 g 0 0 u_38.1 u_38.2.1 x u_38.2.2.1 u_38.2.2.2.1 u_38.2.2.2.2.1 u_38.2.2.2.2.2.1 u_38.2.2.2.2.1 b14 b17 b18 b19 b23 b24 b25 b26 b27 b29 b31 b32 b33), (sw_in cT (g 2) 900 a2), (sw_in cT (g 3) 96 u_38.2.2.2.2.2.2)] _ := ⟨hP, hD⟩
            refine lv_aload_n hx hb dX9_plain_84 rfl (lv_at hl 0 rfl) ?_
            refine lv_aload_n hx hb dX9_plain_85 rfl (lv_at hl 0 rfl) ?_
            refine va_get (D := D) (ci := 9) (v := .int u_38.2.2.2.2.1) (C := RX9) (T := TX9) (N := 37) hx hb htg gRX9 hown hK hP 1 rfl rfl 11 (by decide) (htg _ wi_1161) (fun _ h9 => h9) rfl dX9_plain_86 ?_
            refine lv_if_ne (tgt := 96) hx hb dX9_plain_89 (by decide) (fun c_40 => ?_) (fun c_40 => ?_)
            · have ic_40 : ¬ (u_38.2.2.2.2.1).toInt = 0 := ine c_40 (rfl) (by decide)
              refine lv_aload_n hx hb dX9_plain_96 rfl (lv_at hl 0 rfl) ?_
              refine va_get (D := D) (ci := 9) (v := .int u_38.2.2.2.2.2.1) (C := RX9) (T := TX9) (N := 37) hx hb htg gRX9 hown hK hP 1 rfl rfl 12 (by decide) (htg _ wi_1162) (fun _ h9 => h9) rfl dX9_plain_97 ?_
              refine va_put (D := D) (ci := 9) (v := .int u_38.2.2.2.2.2.1) (ty := .int) (C := RX9) (T := TX9) (N := 37) hx hb htg gRX9 tyX9 tyX9_ok nmX9 hown hK hP hD hS 1 rfl rfl 14 (by decide) (htg _ wi_1164) (fun _ h9 => h9) rfl (by decide +kernel) rfl rfl (Nat.le_of_ble_eq_true rfl) dX9_plain_100 (fun H locs hP hD hS => ?_)
              obtain ⟨hP, hD⟩ : PD D A [(sw_in cT (g 0) 288 a0), (sw_9 h0 g 0 0 u_38.1 u_38.2.1 x u_38.2.2.1 u_38.2.2.2.1 u_38.2.2.2.2.1 u_38.2.2.2.2.2.1 u_38.2.2.2.2.1 u_38.2.2.2.2.2.1 b17 b18 b19 b23 b24 b25 b26 b27 b29 b31 b32 b33), (sw_in cT (g 2) 900 a2), (sw_in cT (g 3) 96 u_38.2.2.2.2.2.2)] _ := ⟨hP, hD⟩
              refine lv_aload_n hx hb dX9_plain_103 rfl (lv_at hl 0 rfl) ?_
              refine va_get (D := D) (ci := 9) (v := .int u_38.2.2.2.2.1) (C := RX9) (T := TX9) (N := 37) hx hb htg gRX9 hown hK hP 1 rfl rfl 11 (by decide) (htg _ wi_1161) (fun _ h9 => h9) rfl dX9_plain_104 ?_
              refine lv_if_eq (tgt := 118) hx hb dX9_plain_107 (by decide) (fun c_41 => ?_) (fun c_41 => ?_)
              · have ic_41 : (u_38.2.2.2.2.1).toInt = 0 := ieq c_41 (rfl) (by decide)
                refine lv_iconst (v := 0) hx hb dX9_plain_118 (by decide) ?_
                refine lv_istore_n (lv' := [(2, .int 0), (0, .ref h0), (1, .int x)]) hx hb dX9_plain_119 rfl hl (by decide) rfl (fun ls hl => ?_)
                have hc0 : ∀ j : Nat, j < 0 → a0 j = u_38.2.2.2.2.2.2 j := fun j h => absurd h (by omega)
                have hc1 : ∀ j : Nat, 96 ≤ j → a0 j = a0 j := fun _ _ => rfl
                refine (fun (key : ∀ (n9_120 : Nat) (k9_120 : Nat) (f9_120_0 : Nat → Int32) (H : Heap) (locs : List Loc) (ls : Array Slot), (k9_120 : Int) ≤ 96 → 96 < (k9_120 : Int) + n9_120 → (∀ j : Nat, j < k9_120 → f9_120_0 j = u_38.2.2.2.2.2.2 j) → (∀ j : Nat, 96 ≤ j → f9_120_0 j = a0 j) → PI 288 f9_120_0 → PD D A [(sw_in cT (g 0) 288 f9_120_0), (sw_9 h0 g 0 0 u_38.1 u_38.2.1 x u_38.2.2.1 u_38.2.2.2.1 u_38.2.2.2.2.1 u_38.2.2.2.2.2.1 u_38.2.2.2.2.1 u_38.2.2.2.2.2.1 b17 b18 b19 b23 b24 b25 b26 b27 b29 b31 b32 b33), (sw_in cT (g 2) 900 a2), (sw_in cT (g 3) 96 u_38.2.2.2.2.2.2)] H → va_S A s.heap H locs → lv_has ls 3 [(2, .int (nI k9_120)), (0, .ref h0), (1, .int x)] → W p l e _ s m _ below meth c H locs _ _ _ (F0 m 120 ls [])) => key (Int.toNat (96 - 0) + 1) 0 _ _ _ _ (by omega) (by omega) (by first | assumption | omega | decide | (simp only [ti_0, ti_1, ti_2, ti_3, ti_4, ti_5, ti_6, ti_7, ti_8, ti_9, ti_10, ti_11, ti_12, ti_m1]; omega)) (by first | assumption | omega | decide | (simp only [ti_0, ti_1, ti_2, ti_3, ti_4, ti_5, ti_6, ti_7, ti_8, ti_9, ti_10, ti_11, ti_12, ti_m1]; omega)) (by first | assumption | omega | decide | (simp only [ti_0, ti_1, ti_2, ti_3, ti_4, ti_5, ti_6, ti_7, ti_8, ti_9, ti_10, ti_11, ti_12, ti_m1]; omega)) ⟨hP, hD⟩ hS (lv_sub hl [0, 1, 2] rfl)) ?_
                intro n9_120
                induction n9_120 with
                | zero => intro k9_120 f9_120_0 H locs ls hq1 hq2; exact absurd hq2 (by omega)
                | succ n9_120 ih_120 =>
                  intro k9_120 f9_120_0 H locs ls hq1_120 hq2_120 h9_120_0 h9_120_1 h9_120_2 hPD hS hl
                  obtain ⟨hP, hD⟩ := hPD
                  have hk9_120 : (nI k9_120).toInt = (k9_120 : Int) := nI_toInt (by omega)
                  refine lv_iload_n hx hb dX9_plain_120 rfl (lv_at hl 0 rfl) ?_
                  refine lv_bipush (v := 96) hx hb dX9_plain_121 (by decide) ?_
                  refine lv_icmp_ge (tgt := 144) hx hb dX9_plain_123 (by decide) (fun c_42 => ?_) (fun c_42 => ?_)
                  · have ic_42 : 96 ≤ ((k9_120 : Nat) : Int) := ile c_42 (by decide) (nI_toInt (by omega))
                    have hcp : ∀ j : Nat, j < 96 → f9_120_0 j = u_38.2.2.2.2.2.2 j := fun j h => h9_120_0 j (by omega)
                    refine lv_aload_n hx hb dX9_plain_144 rfl (lv_at hl 1 rfl) ?_
                    refine va_get (D := D) (ci := 9) (v := .ref (g 0)) (C := RX9) (T := TX9) (N := 37) hx hb htg gRX9 hown hK hP 1 rfl rfl 1 (by decide) (htg _ wi_1151) (fun _ h9 => h9) rfl dX9_plain_145 ?_
                    refine lv_bipush (v := 9) hx hb dX9_plain_148 (by decide) ?_
                    refine va_iald hx hb hK hP 0 0 rfl rfl (by unfold vp_in; decide) dX9_plain_150 ?_
                    refine lv_topi (fun z_43 ez_43 => ?_)
                    have oz_43 := pi_rd (a := 9) h9_120_2 ez_43 (by decide) (by omega)
                    unfold OKP at oz_43
                    exact x_iret hx hb hr hlk hP hD hS [1, 0, 2, 3] ((0, 0, u_38.1, u_38.2.1, x, u_38.2.2.1, u_38.2.2.2.1, u_38.2.2.2.2.1, u_38.2.2.2.2.2.1, u_38.2.2.2.2.1, u_38.2.2.2.2.2.1, f9_120_0, u_38.2.2.2.2.2.2)) rfl (by decide) ⟨by (try dsimp only); first | assumption | omega | decide | exact Or.inl (by decide) | (intro h9; exact absurd h9 (by decide)) | (intro _; omega) | (intro _; assumption) | (intro _; decide), by (try dsimp only); first | assumption | omega | decide | exact Or.inl (by decide) | (intro h9; exact absurd h9 (by decide)) | (intro _; omega) | (intro _; assumption) | (intro _; decide), by (try dsimp only); first | assumption | omega | decide | exact Or.inl (by decide) | (intro h9; exact absurd h9 (by decide)) | (intro _; omega) | (intro _; assumption) | (intro _; decide), (fun h9 => by exfalso; omega), (fun h9 => by exfalso; omega), (fun h9 => by exfalso; omega), (fun h9 => by exfalso; omega), (fun _ => by (try dsimp only); rw [hend]; (try dsimp only); omega), (fun _ h8 => by (try dsimp only); rw [hend] at h8; (try dsimp only at h8); first | decide | (exfalso; omega) | omega), (fun _ h8 => by rw [hend] at h8; (try dsimp only at h8); exfalso; omega), (fun _ h8 => by rw [hend] at h8; (try dsimp only at h8); exfalso; omega), (fun _ h8 => by rw [hend] at h8; (try dsimp only at h8); exfalso; omega), (fun _ h8 => by (try dsimp only); rw [hend] at h8 ⊢; have hq := hplE h8; have h7 := hq.1 9 (by decide); have h6 := hcp 9 (by decide); have h5 : z_43 = f9_120_0 9 := ez_43; rw [h5, h6]; exact h7), (fun _ h8 => by (try dsimp only); rw [hend] at h8 ⊢; have hq := hplE h8; exact ⟨fun k hk => by rw [hcp k hk]; exact hq.1 k hk, h9_120_1⟩), trivial⟩ (by decide) (by decide) dX9_plain_151
                  · have ic_42 : ((k9_120 : Nat) : Int) < 96 := inle c_42 (by decide) (nI_toInt (by omega))
                    refine lv_aload_n hx hb dX9_plain_126 rfl (lv_at hl 1 rfl) ?_
                    refine va_get (D := D) (ci := 9) (v := .ref (g 0)) (C := RX9) (T := TX9) (N := 37) hx hb htg gRX9 hown hK hP 1 rfl rfl 1 (by decide) (htg _ wi_1151) (fun _ h9 => h9) rfl dX9_plain_127 ?_
                    refine lv_iload_n hx hb dX9_plain_130 rfl (lv_at hl 0 rfl) ?_
                    refine lv_aload_n hx hb dX9_plain_131 rfl (lv_at hl 1 rfl) ?_
                    refine va_get (D := D) (ci := 9) (v := .ref (g 3)) (C := RX9) (T := TX9) (N := 37) hx hb htg gRX9 hown hK hP 1 rfl rfl 4 (by decide) (htg _ wi_1154) (fun _ h9 => h9) rfl dX9_plain_132 ?_
                    refine lv_iload_n hx hb dX9_plain_135 rfl (lv_at hl 0 rfl) ?_
                    refine va_iald hx hb hK hP 3 0 rfl rfl (vp_in_nI (by omega) (by omega)) dX9_plain_136 ?_
                    refine lv_topi (fun z_44 ez_44 => ?_)
                    have oz_44 := pi_rd (a := ((k9_120 : Nat) : Int)) (qr_39_0.2 (by omega)) ez_44 (nI_toInt (by omega)) (by omega)
                    unfold OKP at oz_44
                    refine va_iast hx hb hK hP hD hS 0 0 rfl rfl (vp_in_nI (by omega) (by omega)) dX9_plain_137 (fun H locs hP hD hS => ?_)
                    obtain ⟨f_45, ef_45, hP, hD⟩ : ∃ f_45 : Nat → Int32, f_45 = upd (f9_120_0) ((nI k9_120) : Int32).toNatClampNeg z_44 ∧ PD D A [(sw_in cT (g 0) 288 f_45), (sw_9 h0 g 0 0 u_38.1 u_38.2.1 x u_38.2.2.1 u_38.2.2.2.1 u_38.2.2.2.2.1 u_38.2.2.2.2.2.1 u_38.2.2.2.2.1 u_38.2.2.2.2.2.1 b17 b18 b19 b23 b24 b25 b26 b27 b29 b31 b32 b33), (sw_in cT (g 2) 900 a2), (sw_in cT (g 3) 96 u_38.2.2.2.2.2.2)] H := ⟨_, rfl, hP, hD⟩
                    have qf_45 : PI 288 f_45 := by rw [ef_45]; exact pi_upd (a := ((k9_120 : Nat) : Int)) (b := z_44.toInt) h9_120_2 (nI_toInt (by omega)) (rfl) (by omega) (by unfold OKP; omega)
                    refine lv_iinc (v := (nI (k9_120 + 1))) (lv' := [(2, .int (nI (k9_120 + 1))), (0, .ref h0), (1, .int x)]) hx hb dX9_plain_138 hl (k := 0) rfl (by exact nI_1 (k9_120)) (by decide) rfl (fun ls hl => ?_)
                    refine lv_goto (tgt := 120) hx hb dX9_plain_141 (by decide) ?_
                    have hc0 : ∀ j : Nat, j < k9_120 + 1 → f_45 j = u_38.2.2.2.2.2.2 j := fun j h => by rw [ef_45]; rcases (show j = k9_120 ∨ j < k9_120 from by omega) with h1 | h1; rw [upd_at2 (by rw [nI_toInt (by omega)]; omega), ez_44, nI_clamp (by omega), h1]; rw [upd_no (by rw [nI_toInt (by omega)]; omega) (by rw [nI_toInt (by omega)]; omega)]; exact h9_120_0 j h1
                    have hc1 : ∀ j : Nat, 96 ≤ j → f_45 j = a0 j := fun j h => by rw [ef_45, upd_no (by rw [nI_toInt (by omega)]; omega) (by rw [nI_toInt (by omega)]; omega)]; exact h9_120_1 j h
                    exact ih_120 (k9_120 + 1) _ _ _ _ (by omega) (by omega) (by first | assumption | omega | decide | (simp only [ti_0, ti_1, ti_2, ti_3, ti_4, ti_5, ti_6, ti_7, ti_8, ti_9, ti_10, ti_11, ti_12, ti_m1]; omega)) (by first | assumption | omega | decide | (simp only [ti_0, ti_1, ti_2, ti_3, ti_4, ti_5, ti_6, ti_7, ti_8, ti_9, ti_10, ti_11, ti_12, ti_m1]; omega)) (by first | assumption | omega | decide | (simp only [ti_0, ti_1, ti_2, ti_3, ti_4, ti_5, ti_6, ti_7, ti_8, ti_9, ti_10, ti_11, ti_12, ti_m1]; omega)) ⟨hP.sub [0, 1, 2, 3] rfl, hD.sub [0, 1, 2, 3] (by decide) rfl⟩ hS (lv_sub hl [0, 1, 2] rfl)
              · have ic_41 : ¬ (u_38.2.2.2.2.1).toInt = 0 := ine c_41 (rfl) (by decide)
                refine lv_bipush (v := (-30)) hx hb dX9_plain_110 (by decide) ?_
                refine lv_aload_n hx hb dX9_plain_112 rfl (lv_at hl 0 rfl) ?_
                refine va_get (D := D) (ci := 9) (v := .int u_38.2.2.2.2.1) (C := RX9) (T := TX9) (N := 37) hx hb htg gRX9 hown hK hP 1 rfl rfl 11 (by decide) (htg _ wi_1161) (fun _ h9 => h9) rfl dX9_plain_113 ?_
                have hw4 : 0 ≤ u_38.2.2.2.2.1.toInt ∧ u_38.2.2.2.2.1.toInt ≤ 4 := by omega
                refine lv_isub hx hb dX9_plain_116 ?_
                refine lv_topi (fun z_46 ez_46 => ?_)
                have iz_46 : z_46.toInt = (-30) - (u_38.2.2.2.2.1).toInt := toInt_subI ez_46 (by decide) (rfl) (by omega)
                exact x_iret hx hb hr hlk hP hD hS [1, 0, 2, 3] ((0, 0, u_38.1, u_38.2.1, x, u_38.2.2.1, u_38.2.2.2.1, u_38.2.2.2.2.1, u_38.2.2.2.2.2.1, u_38.2.2.2.2.1, u_38.2.2.2.2.2.1, a0, u_38.2.2.2.2.2.2)) rfl (by decide) ⟨by (try dsimp only); first | assumption | omega | decide | exact Or.inl (by decide) | (intro h9; exact absurd h9 (by decide)) | (intro _; omega) | (intro _; assumption) | (intro _; decide), by (try dsimp only); first | assumption | omega | decide | exact Or.inl (by decide) | (intro h9; exact absurd h9 (by decide)) | (intro _; omega) | (intro _; assumption) | (intro _; decide), by (try dsimp only); first | assumption | omega | decide | exact Or.inl (by decide) | (intro h9; exact absurd h9 (by decide)) | (intro _; omega) | (intro _; assumption) | (intro _; decide), (fun h9 => by exfalso; omega), (fun h9 => by exfalso; omega), (fun h9 => by exfalso; omega), (fun h9 => by exfalso; omega), (fun _ => by (try dsimp only); rw [hend]; (try dsimp only); omega), (fun _ h8 => by (try dsimp only); rw [hend] at h8; (try dsimp only at h8); first | decide | (exfalso; omega) | omega), (fun _ h8 => by (try dsimp only); rw [hend] at h8 ⊢; (try dsimp only at h8 ⊢); first | exact hwr9 h8 | omega), (fun _ h8 => by (try dsimp only); rw [hend] at h8 ⊢; (try dsimp only at h8 ⊢); first | exact hwr9 h8 | omega), (fun _ h8 => rfl), (fun _ h8 => by rw [hend] at h8; (try dsimp only at h8); exfalso; omega), (fun _ h8 => by rw [hend] at h8; (try dsimp only at h8); exfalso; omega), trivial⟩ (by decide) (by decide) dX9_plain_117
            · have ic_40 : (u_38.2.2.2.2.1).toInt = 0 := ieq c_40 (rfl) (by decide)
              refine lv_iconst (v := (-1)) hx hb dX9_plain_92 (by decide) ?_
              refine lv_goto (tgt := 100) hx hb dX9_plain_93 (by decide) ?_
              refine va_put (D := D) (ci := 9) (v := .int (-1)) (ty := .int) (C := RX9) (T := TX9) (N := 37) hx hb htg gRX9 tyX9 tyX9_ok nmX9 hown hK hP hD hS 1 rfl rfl 14 (by decide) (htg _ wi_1164) (fun _ h9 => h9) rfl (by decide +kernel) rfl rfl (Nat.le_of_ble_eq_true rfl) dX9_plain_100 (fun H locs hP hD hS => ?_)
              obtain ⟨hP, hD⟩ : PD D A [(sw_in cT (g 0) 288 a0), (sw_9 h0 g 0 0 u_38.1 u_38.2.1 x u_38.2.2.1 u_38.2.2.2.1 u_38.2.2.2.2.1 u_38.2.2.2.2.2.1 u_38.2.2.2.2.1 (-1) b17 b18 b19 b23 b24 b25 b26 b27 b29 b31 b32 b33), (sw_in cT (g 2) 900 a2), (sw_in cT (g 3) 96 u_38.2.2.2.2.2.2)] _ := ⟨hP, hD⟩
              refine lv_aload_n hx hb dX9_plain_103 rfl (lv_at hl 0 rfl) ?_
              refine va_get (D := D) (ci := 9) (v := .int u_38.2.2.2.2.1) (C := RX9) (T := TX9) (N := 37) hx hb htg gRX9 hown hK hP 1 rfl rfl 11 (by decide) (htg _ wi_1161) (fun _ h9 => h9) rfl dX9_plain_104 ?_
              refine lv_if_eq (tgt := 118) hx hb dX9_plain_107 (by decide) (fun c_47 => ?_) (fun c_47 => ?_)
              · have ic_47 : (u_38.2.2.2.2.1).toInt = 0 := ieq c_47 (rfl) (by decide)
                refine lv_iconst (v := 0) hx hb dX9_plain_118 (by decide) ?_
                refine lv_istore_n (lv' := [(2, .int 0), (0, .ref h0), (1, .int x)]) hx hb dX9_plain_119 rfl hl (by decide) rfl (fun ls hl => ?_)
                have hc0 : ∀ j : Nat, j < 0 → a0 j = u_38.2.2.2.2.2.2 j := fun j h => absurd h (by omega)
                have hc1 : ∀ j : Nat, 96 ≤ j → a0 j = a0 j := fun _ _ => rfl
                refine (fun (key : ∀ (n9_120 : Nat) (k9_120 : Nat) (f9_120_0 : Nat → Int32) (H : Heap) (locs : List Loc) (ls : Array Slot), (k9_120 : Int) ≤ 96 → 96 < (k9_120 : Int) + n9_120 → (∀ j : Nat, j < k9_120 → f9_120_0 j = u_38.2.2.2.2.2.2 j) → (∀ j : Nat, 96 ≤ j → f9_120_0 j = a0 j) → PI 288 f9_120_0 → PD D A [(sw_in cT (g 0) 288 f9_120_0), (sw_9 h0 g 0 0 u_38.1 u_38.2.1 x u_38.2.2.1 u_38.2.2.2.1 u_38.2.2.2.2.1 u_38.2.2.2.2.2.1 u_38.2.2.2.2.1 (-1) b17 b18 b19 b23 b24 b25 b26 b27 b29 b31 b32 b33), (sw_in cT (g 2) 900 a2), (sw_in cT (g 3) 96 u_38.2.2.2.2.2.2)] H → va_S A s.heap H locs → lv_has ls 3 [(2, .int (nI k9_120)), (0, .ref h0), (1, .int x)] → W p l e _ s m _ below meth c H locs _ _ _ (F0 m 120 ls [])) => key (Int.toNat (96 - 0) + 1) 0 _ _ _ _ (by omega) (by omega) (by first | assumption | omega | decide | (simp only [ti_0, ti_1, ti_2, ti_3, ti_4, ti_5, ti_6, ti_7, ti_8, ti_9, ti_10, ti_11, ti_12, ti_m1]; omega)) (by first | assumption | omega | decide | (simp only [ti_0, ti_1, ti_2, ti_3, ti_4, ti_5, ti_6, ti_7, ti_8, ti_9, ti_10, ti_11, ti_12, ti_m1]; omega)) (by first | assumption | omega | decide | (simp only [ti_0, ti_1, ti_2, ti_3, ti_4, ti_5, ti_6, ti_7, ti_8, ti_9, ti_10, ti_11, ti_12, ti_m1]; omega)) ⟨hP, hD⟩ hS (lv_sub hl [0, 1, 2] rfl)) ?_
                intro n9_120
                induction n9_120 with
                | zero => intro k9_120 f9_120_0 H locs ls hq1 hq2; exact absurd hq2 (by omega)
                | succ n9_120 ih_120 =>
                  intro k9_120 f9_120_0 H locs ls hq1_120 hq2_120 h9_120_0 h9_120_1 h9_120_2 hPD hS hl
                  obtain ⟨hP, hD⟩ := hPD
                  have hk9_120 : (nI k9_120).toInt = (k9_120 : Int) := nI_toInt (by omega)
                  refine lv_iload_n hx hb dX9_plain_120 rfl (lv_at hl 0 rfl) ?_
                  refine lv_bipush (v := 96) hx hb dX9_plain_121 (by decide) ?_
                  refine lv_icmp_ge (tgt := 144) hx hb dX9_plain_123 (by decide) (fun c_48 => ?_) (fun c_48 => ?_)
                  · have ic_48 : 96 ≤ ((k9_120 : Nat) : Int) := ile c_48 (by decide) (nI_toInt (by omega))
                    have hcp : ∀ j : Nat, j < 96 → f9_120_0 j = u_38.2.2.2.2.2.2 j := fun j h => h9_120_0 j (by omega)
                    refine lv_aload_n hx hb dX9_plain_144 rfl (lv_at hl 1 rfl) ?_
                    refine va_get (D := D) (ci := 9) (v := .ref (g 0)) (C := RX9) (T := TX9) (N := 37) hx hb htg gRX9 hown hK hP 1 rfl rfl 1 (by decide) (htg _ wi_1151) (fun _ h9 => h9) rfl dX9_plain_145 ?_
                    refine lv_bipush (v := 9) hx hb dX9_plain_148 (by decide) ?_
                    refine va_iald hx hb hK hP 0 0 rfl rfl (by unfold vp_in; decide) dX9_plain_150 ?_
                    refine lv_topi (fun z_49 ez_49 => ?_)
                    have oz_49 := pi_rd (a := 9) h9_120_2 ez_49 (by decide) (by omega)
                    unfold OKP at oz_49
                    exact x_iret hx hb hr hlk hP hD hS [1, 0, 2, 3] ((0, 0, u_38.1, u_38.2.1, x, u_38.2.2.1, u_38.2.2.2.1, u_38.2.2.2.2.1, u_38.2.2.2.2.2.1, u_38.2.2.2.2.1, (-1), f9_120_0, u_38.2.2.2.2.2.2)) rfl (by decide) ⟨by (try dsimp only); first | assumption | omega | decide | exact Or.inl (by decide) | (intro h9; exact absurd h9 (by decide)) | (intro _; omega) | (intro _; assumption) | (intro _; decide), by (try dsimp only); first | assumption | omega | decide | exact Or.inl (by decide) | (intro h9; exact absurd h9 (by decide)) | (intro _; omega) | (intro _; assumption) | (intro _; decide), by (try dsimp only); first | assumption | omega | decide | exact Or.inl (by decide) | (intro h9; exact absurd h9 (by decide)) | (intro _; omega) | (intro _; assumption) | (intro _; decide), (fun h9 => by exfalso; omega), (fun h9 => by exfalso; omega), (fun h9 => by exfalso; omega), (fun h9 => by exfalso; omega), (fun _ => by (try dsimp only); rw [hend]; (try dsimp only); omega), (fun _ h8 => by (try dsimp only); rw [hend] at h8; (try dsimp only at h8); first | decide | (exfalso; omega) | omega), (fun _ h8 => by rw [hend] at h8; (try dsimp only at h8); exfalso; omega), (fun _ h8 => by rw [hend] at h8; (try dsimp only at h8); exfalso; omega), (fun _ h8 => by rw [hend] at h8; (try dsimp only at h8); exfalso; omega), (fun _ h8 => by (try dsimp only); rw [hend] at h8 ⊢; have hq := hplE h8; have h7 := hq.1 9 (by decide); have h6 := hcp 9 (by decide); have h5 : z_49 = f9_120_0 9 := ez_49; rw [h5, h6]; exact h7), (fun _ h8 => by (try dsimp only); rw [hend] at h8 ⊢; have hq := hplE h8; exact ⟨fun k hk => by rw [hcp k hk]; exact hq.1 k hk, h9_120_1⟩), trivial⟩ (by decide) (by decide) dX9_plain_151
                  · have ic_48 : ((k9_120 : Nat) : Int) < 96 := inle c_48 (by decide) (nI_toInt (by omega))
                    refine lv_aload_n hx hb dX9_plain_126 rfl (lv_at hl 1 rfl) ?_
                    refine va_get (D := D) (ci := 9) (v := .ref (g 0)) (C := RX9) (T := TX9) (N := 37) hx hb htg gRX9 hown hK hP 1 rfl rfl 1 (by decide) (htg _ wi_1151) (fun _ h9 => h9) rfl dX9_plain_127 ?_
                    refine lv_iload_n hx hb dX9_plain_130 rfl (lv_at hl 0 rfl) ?_
                    refine lv_aload_n hx hb dX9_plain_131 rfl (lv_at hl 1 rfl) ?_
                    refine va_get (D := D) (ci := 9) (v := .ref (g 3)) (C := RX9) (T := TX9) (N := 37) hx hb htg gRX9 hown hK hP 1 rfl rfl 4 (by decide) (htg _ wi_1154) (fun _ h9 => h9) rfl dX9_plain_132 ?_
                    refine lv_iload_n hx hb dX9_plain_135 rfl (lv_at hl 0 rfl) ?_
                    refine va_iald hx hb hK hP 3 0 rfl rfl (vp_in_nI (by omega) (by omega)) dX9_plain_136 ?_
                    refine lv_topi (fun z_50 ez_50 => ?_)
                    have oz_50 := pi_rd (a := ((k9_120 : Nat) : Int)) (qr_39_0.2 (by omega)) ez_50 (nI_toInt (by omega)) (by omega)
                    unfold OKP at oz_50
                    refine va_iast hx hb hK hP hD hS 0 0 rfl rfl (vp_in_nI (by omega) (by omega)) dX9_plain_137 (fun H locs hP hD hS => ?_)
                    obtain ⟨f_51, ef_51, hP, hD⟩ : ∃ f_51 : Nat → Int32, f_51 = upd (f9_120_0) ((nI k9_120) : Int32).toNatClampNeg z_50 ∧ PD D A [(sw_in cT (g 0) 288 f_51), (sw_9 h0 g 0 0 u_38.1 u_38.2.1 x u_38.2.2.1 u_38.2.2.2.1 u_38.2.2.2.2.1 u_38.2.2.2.2.2.1 u_38.2.2.2.2.1 (-1) b17 b18 b19 b23 b24 b25 b26 b27 b29 b31 b32 b33), (sw_in cT (g 2) 900 a2), (sw_in cT (g 3) 96 u_38.2.2.2.2.2.2)] H := ⟨_, rfl, hP, hD⟩
                    have qf_51 : PI 288 f_51 := by rw [ef_51]; exact pi_upd (a := ((k9_120 : Nat) : Int)) (b := z_50.toInt) h9_120_2 (nI_toInt (by omega)) (rfl) (by omega) (by unfold OKP; omega)
                    refine lv_iinc (v := (nI (k9_120 + 1))) (lv' := [(2, .int (nI (k9_120 + 1))), (0, .ref h0), (1, .int x)]) hx hb dX9_plain_138 hl (k := 0) rfl (by exact nI_1 (k9_120)) (by decide) rfl (fun ls hl => ?_)
                    refine lv_goto (tgt := 120) hx hb dX9_plain_141 (by decide) ?_
                    have hc0 : ∀ j : Nat, j < k9_120 + 1 → f_51 j = u_38.2.2.2.2.2.2 j := fun j h => by rw [ef_51]; rcases (show j = k9_120 ∨ j < k9_120 from by omega) with h1 | h1; rw [upd_at2 (by rw [nI_toInt (by omega)]; omega), ez_50, nI_clamp (by omega), h1]; rw [upd_no (by rw [nI_toInt (by omega)]; omega) (by rw [nI_toInt (by omega)]; omega)]; exact h9_120_0 j h1
                    have hc1 : ∀ j : Nat, 96 ≤ j → f_51 j = a0 j := fun j h => by rw [ef_51, upd_no (by rw [nI_toInt (by omega)]; omega) (by rw [nI_toInt (by omega)]; omega)]; exact h9_120_1 j h
                    exact ih_120 (k9_120 + 1) _ _ _ _ (by omega) (by omega) (by first | assumption | omega | decide | (simp only [ti_0, ti_1, ti_2, ti_3, ti_4, ti_5, ti_6, ti_7, ti_8, ti_9, ti_10, ti_11, ti_12, ti_m1]; omega)) (by first | assumption | omega | decide | (simp only [ti_0, ti_1, ti_2, ti_3, ti_4, ti_5, ti_6, ti_7, ti_8, ti_9, ti_10, ti_11, ti_12, ti_m1]; omega)) (by first | assumption | omega | decide | (simp only [ti_0, ti_1, ti_2, ti_3, ti_4, ti_5, ti_6, ti_7, ti_8, ti_9, ti_10, ti_11, ti_12, ti_m1]; omega)) ⟨hP.sub [0, 1, 2, 3] rfl, hD.sub [0, 1, 2, 3] (by decide) rfl⟩ hS (lv_sub hl [0, 1, 2] rfl)
              · have ic_47 : ¬ (u_38.2.2.2.2.1).toInt = 0 := ine c_47 (rfl) (by decide)
                refine lv_bipush (v := (-30)) hx hb dX9_plain_110 (by decide) ?_
                refine lv_aload_n hx hb dX9_plain_112 rfl (lv_at hl 0 rfl) ?_
                refine va_get (D := D) (ci := 9) (v := .int u_38.2.2.2.2.1) (C := RX9) (T := TX9) (N := 37) hx hb htg gRX9 hown hK hP 1 rfl rfl 11 (by decide) (htg _ wi_1161) (fun _ h9 => h9) rfl dX9_plain_113 ?_
                have hw4 : 0 ≤ u_38.2.2.2.2.1.toInt ∧ u_38.2.2.2.2.1.toInt ≤ 4 := by omega
                refine lv_isub hx hb dX9_plain_116 ?_
                refine lv_topi (fun z_52 ez_52 => ?_)
                have iz_52 : z_52.toInt = (-30) - (u_38.2.2.2.2.1).toInt := toInt_subI ez_52 (by decide) (rfl) (by omega)
                exact x_iret hx hb hr hlk hP hD hS [1, 0, 2, 3] ((0, 0, u_38.1, u_38.2.1, x, u_38.2.2.1, u_38.2.2.2.1, u_38.2.2.2.2.1, u_38.2.2.2.2.2.1, u_38.2.2.2.2.1, (-1), a0, u_38.2.2.2.2.2.2)) rfl (by decide) ⟨by (try dsimp only); first | assumption | omega | decide | exact Or.inl (by decide) | (intro h9; exact absurd h9 (by decide)) | (intro _; omega) | (intro _; assumption) | (intro _; decide), by (try dsimp only); first | assumption | omega | decide | exact Or.inl (by decide) | (intro h9; exact absurd h9 (by decide)) | (intro _; omega) | (intro _; assumption) | (intro _; decide), by (try dsimp only); first | assumption | omega | decide | exact Or.inl (by decide) | (intro h9; exact absurd h9 (by decide)) | (intro _; omega) | (intro _; assumption) | (intro _; decide), (fun h9 => by exfalso; omega), (fun h9 => by exfalso; omega), (fun h9 => by exfalso; omega), (fun h9 => by exfalso; omega), (fun _ => by (try dsimp only); rw [hend]; (try dsimp only); omega), (fun _ h8 => by (try dsimp only); rw [hend] at h8; (try dsimp only at h8); first | decide | (exfalso; omega) | omega), (fun _ h8 => by (try dsimp only); rw [hend] at h8 ⊢; (try dsimp only at h8 ⊢); first | exact hwr9 h8 | omega), (fun _ h8 => by (try dsimp only); rw [hend] at h8 ⊢; (try dsimp only at h8 ⊢); first | exact hwr9 h8 | omega), (fun _ h8 => rfl), (fun _ h8 => by rw [hend] at h8; (try dsimp only at h8); exfalso; omega), (fun _ h8 => by rw [hend] at h8; (try dsimp only at h8); exfalso; omega), trivial⟩ (by decide) (by decide) dX9_plain_117
  · have ic_5 : r_4.toInt = 0 := ieq c_5 (rfl) (by decide)
    have kqr_4_1 : x.toInt < 0 ∨ b5.toInt < x.toInt := qr_4_1 ic_5
    refine lv_bipush (v := (-3)) hx hb dX9_plain_19 (by decide) ?_
    exact x_iret hx hb hr hlk hP hD hS [0, 1, 2, 3] ((0, b5, b6, b7, b8, b9, b10, b11, b12, b13, b14, a0, a3)) rfl (by decide) ⟨by (try dsimp only); first | assumption | omega | decide | exact Or.inl (by decide) | (intro h9; exact absurd h9 (by decide)) | (intro _; omega) | (intro _; assumption) | (intro _; decide), by (try dsimp only); first | assumption | omega | decide | exact Or.inl (by decide) | (intro h9; exact absurd h9 (by decide)) | (intro _; omega) | (intro _; assumption) | (intro _; decide), by (try dsimp only); first | assumption | omega | decide | exact Or.inl (by decide) | (intro h9; exact absurd h9 (by decide)) | (intro _; omega) | (intro _; assumption) | (intro _; decide), (fun _ => by decide), (fun _ => rfl), (fun _ => rfl), (fun _ => rfl), (fun h9 => by exfalso; omega), (fun h9 => by exfalso; omega), (fun h9 => by exfalso; omega), (fun h9 => by exfalso; omega), (fun h9 => by exfalso; omega), (fun h9 => by exfalso; omega), (fun h9 => by exfalso; omega), trivial⟩ (by decide) (by decide) dX9_plain_21
