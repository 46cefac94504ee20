set_option maxHeartbeats 4000000 in
set_option maxRecDepth 100000 in
theorem m_lightByX (l : Launch) (D : va_G) (cT : Nat → ClassId) (sz : Nat) (h0 : Nat) (g : Nat → Nat) (b0 : Int32) (b5 : Int32) (b6 : Int32) (b7 : Int32) (b8 : Int32) (b9 : Int32) (b10 : Int32) (b11 : Int32) (b12 : Int32) (b13 : Int32) (b14 : Int32) (b17 : Int32) (b18 : Int32) (b19 : Int32) (b23 : Int32) (b24 : Int32) (b25 : Int32) (b26 : Int32) (b27 : Int32) (b29 : Int32) (b31 : Int32) (b32 : Int32) (b33 : Int32) (hb5 : 0 ≤ b5.toInt ∧ b5.toInt ≤ 900) (a0 : Nat → Int32) (pa0 : PI 288 a0) (x : Int32) (y : Int32) (z : Int32) (hxx : 0 ≤ x.toInt ∧ x.toInt ≤ 15) (hyy : 0 ≤ y.toInt ∧ y.toInt ≤ 15) : Met l yX9_lightBy (wsc yX9_lightBy cX9_lightBy 4 (some .int)) { frames := 4, cells := 0, slots := 0, locals := 147 } (va_Pc [.ref h0, .int x, .int y, .int z] (PX D cT sz [(sw_9 h0 g b0 b5 b6 b7 b8 b9 b10 b11 b12 b13 b14 b17 b18 b19 b23 b24 b25 b26 b27 b29 b31 b32 b33), (sw_in cT (g 0) 288 a0)])) (va_Qi (fun (r : Int32) (u : Unit) => (r.toInt = lgF (fun j => a0 (48 + j)) z (a0 4) (a0 5) x.toInt y.toInt) ∧ (True)) (fun u t => RW D (va_A [(sw_9 h0 g b0 b5 b6 b7 b8 b9 b10 b11 b12 b13 b14 b17 b18 b19 b23 b24 b25 b26 b27 b29 b31 b32 b33), (sw_in cT (g 0) 288 a0)] sz) ((fun _ : Unit => [(sw_9 h0 g b0 b5 b6 b7 b8 b9 b10 b11 b12 b13 b14 b17 b18 b19 b23 b24 b25 b26 b27 b29 b31 b32 b33), (sw_in cT (g 0) 288 a0)]) u) t) (va_A [(sw_9 h0 g b0 b5 b6 b7 b8 b9 b10 b11 b12 b13 b14 b17 b18 b19 b23 b24 b25 b26 b27 b29 b31 b32 b33), (sw_in cT (g 0) 288 a0)] sz)) 0 0 (va_A [(sw_9 h0 g b0 b5 b6 b7 b8 b9 b10 b11 b12 b13 b14 b17 b18 b19 b23 b24 b25 b26 b27 b29 b31 b32 b33), (sw_in cT (g 0) 288 a0)] sz) := by
  refine m_of (y := yX9_lightBy) (cc := cX9_lightBy) (nL := 4) (ret := (some .int)) (D := D) (cT := cT) (av := [.ref h0, .int x, .int y, .int z]) (wi := [(sw_9 h0 g b0 b5 b6 b7 b8 b9 b10 b11 b12 b13 b14 b17 b18 b19 b23 b24 b25 b26 b27 b29 b31 b32 b33), (sw_in cT (g 0) 288 a0)]) (fun A => va_Qi (fun (r : Int32) (u : Unit) => (r.toInt = lgF (fun j => a0 (48 + j)) z (a0 4) (a0 5) x.toInt y.toInt) ∧ (True)) (fun u t => RW D A ((fun _ : Unit => [(sw_9 h0 g b0 b5 b6 b7 b8 b9 b10 b11 b12 b13 b14 b17 b18 b19 b23 b24 b25 b26 b27 b29 b31 b32 b33), (sw_in cT (g 0) 288 a0)]) u) t) A) (by decide) (Nat.le_of_ble_eq_true rfl) ?_
  intro p e s m below meth c A hx hb hml hown htg hK hN hr hlk hnm hsz hP hD hS hA ls hl
  have hown : s.vm.findClass RX9 = some m.cls := hown
  have hl : lv_has ls 4 [(0, .ref h0), (1, .int x), (2, .int y), (3, .int z)] := hl
  have tc_0 : (0 : Int32).toInt = 0 := by decide
  refine lv_aload_n hx hb dX9_lightBy_0 rfl (lv_at hl 0 rfl) ?_
  refine lv_iload_n hx hb dX9_lightBy_1 rfl (lv_at hl 1 rfl) ?_
  refine lv_iload_n hx hb dX9_lightBy_2 rfl (lv_at hl 2 rfl) ?_
  refine lv_iload_n hx hb dX9_lightBy_3 rfl (lv_at hl 3 rfl) ?_
  refine xk_i (wr := []) (xr_V (n := 3) (As := [.int x, .int y, .int z]) (rest := []) ⟨hx, hb, hml, hown, htg⟩ hK hN hP hD hS hA [0, 1] rfl (by decide) (m_isShadedX l D cT _ (h0) (g) (b0) (b5) (b6) (b7) (b8) (b9) (b10) (b11) (b12) (b13) (b14) (b17) (b18) (b19) (b23) (b24) (b25) (b26) (b27) (b29) (b31) (b32) (b33) (by first | assumption | omega | decide | exact Or.inl (by decide) | (intro h9; exact absurd h9 (by decide)) | (intro _; omega) | (intro _; assumption) | (intro _; decide)) (a0) (by first | assumption | omega | decide | exact Or.inl (by decide) | (intro h9; exact absurd h9 (by decide)) | (intro _; omega) | (intro _; assumption) | (intro _; decide)) (x) (y) (z) (by first | assumption | omega | decide | exact Or.inl (by decide) | (intro h9; exact absurd h9 (by decide)) | (intro _; omega) | (intro _; assumption) | (intro _; decide)) (by first | assumption | omega | decide | exact Or.inl (by decide) | (intro h9; exact absurd h9 (by decide)) | (intro _; omega) | (intro _; assumption) | (intro _; decide))) wi_1351 wi_1353 wi_93 wi_131 wi_1354 rfl rfl rfl ⟨rfl, by decide +kernel⟩ ⟨Nat.le_of_ble_eq_true rfl, Nat.le_of_ble_eq_true rfl⟩ rfl hl.1 rfl (Nat.le_of_ble_eq_true rfl) dX9_lightBy_4 ⟨Nat.le_of_ble_eq_true rfl, Nat.le_of_ble_eq_true rfl⟩) hP hD hS hA [0, 1] [] rfl rfl (by decide) (by decide) (fun r_2 u_1 H locs hwr_2 hP hD hS => ?_)
  obtain ⟨hP, hD⟩ : PD D A [(sw_9 h0 g b0 b5 b6 b7 b8 b9 b10 b11 b12 b13 b14 b17 b18 b19 b23 b24 b25 b26 b27 b29 b31 b32 b33), (sw_in cT (g 0) 288 a0)] _ := ⟨hP, hD⟩
  have qr_2_0 : r_2.toInt = shF (fun j => a0 (48 + j)) z x.toInt y.toInt := hwr_2.1
  have qr_2_1 : r_2 = 0 ∨ r_2 = 1 := hwr_2.2.1
  refine lv_if_eq (tgt := 14) hx hb dX9_lightBy_7 (by decide) (fun c_3 => ?_) (fun c_3 => ?_)
  · have ic_3 : r_2.toInt = 0 := ieq c_3 (rfl) (by decide)
    refine lv_aload_n hx hb dX9_lightBy_14 rfl (lv_at hl 0 rfl) ?_
    refine lv_iload_n hx hb dX9_lightBy_15 rfl (lv_at hl 1 rfl) ?_
    refine lv_iload_n hx hb dX9_lightBy_16 rfl (lv_at hl 2 rfl) ?_
    refine xk_i (wr := []) (xr_V (n := 2) (As := [.int x, .int y]) (rest := []) ⟨hx, hb, hml, hown, htg⟩ hK hN hP hD hS hA [0, 1] rfl (by decide) (m_nearnessX l D cT _ (h0) (g) (b0) (b5) (b6) (b7) (b8) (b9) (b10) (b11) (b12) (b13) (b14) (b17) (b18) (b19) (b23) (b24) (b25) (b26) (b27) (b29) (b31) (b32) (b33) (by first | assumption | omega | decide | exact Or.inl (by decide) | (intro h9; exact absurd h9 (by decide)) | (intro _; omega) | (intro _; assumption) | (intro _; decide)) (a0) (by first | assumption | omega | decide | exact Or.inl (by decide) | (intro h9; exact absurd h9 (by decide)) | (intro _; omega) | (intro _; assumption) | (intro _; decide)) (x) (y) (by first | assumption | omega | decide | exact Or.inl (by decide) | (intro h9; exact absurd h9 (by decide)) | (intro _; omega) | (intro _; assumption) | (intro _; decide)) (by first | assumption | omega | decide | exact Or.inl (by decide) | (intro h9; exact absurd h9 (by decide)) | (intro _; omega) | (intro _; assumption) | (intro _; decide))) wi_1358 wi_1360 wi_94 wi_131 wi_1361 rfl rfl rfl ⟨rfl, by decide +kernel⟩ ⟨Nat.le_of_ble_eq_true rfl, Nat.le_of_ble_eq_true rfl⟩ rfl hl.1 rfl (Nat.le_of_ble_eq_true rfl) dX9_lightBy_17 ⟨Nat.le_of_ble_eq_true rfl, Nat.le_of_ble_eq_true rfl⟩) hP hD hS hA [0, 1] [] rfl rfl (by decide) (by decide) (fun r_5 u_4 H locs hwr_5 hP hD hS => ?_)
    obtain ⟨hP, hD⟩ : PD D A [(sw_9 h0 g b0 b5 b6 b7 b8 b9 b10 b11 b12 b13 b14 b17 b18 b19 b23 b24 b25 b26 b27 b29 b31 b32 b33), (sw_in cT (g 0) 288 a0)] _ := ⟨hP, hD⟩
    have qr_5_0 : r_5.toInt = unl (a0 4) (a0 5) x.toInt y.toInt := hwr_5.1
    exact x_iret hx hb hr hlk hP hD hS [0, 1] (()) rfl (by decide) ⟨(by (try dsimp only); unfold lgF; split <;> omega), trivial⟩ (by decide) (by decide) dX9_lightBy_20
  · have ic_3 : ¬ r_2.toInt = 0 := ine c_3 (rfl) (by decide)
    refine lv_iconst (v := 0) hx hb dX9_lightBy_10 (by decide) ?_
    refine lv_goto (tgt := 20) hx hb dX9_lightBy_11 (by decide) ?_
    exact x_iret hx hb hr hlk hP hD hS [0, 1] (()) rfl (by decide) ⟨(by (try dsimp only); unfold lgF; split <;> omega), trivial⟩ (by decide) (by decide) dX9_lightBy_20
set_option maxHeartbeats 4000000 in
set_option maxRecDepth 100000 in
theorem m_highX (l : Launch) (D : va_G) (cT : Nat → ClassId) (sz : Nat) (h0 : Nat) (g : Nat → Nat) (b0 : Int32) (b5 : Int32) (b6 : Int32) (b7 : Int32) (b8 : Int32) (b9 : Int32) (b10 : Int32) (b11 : Int32) (b12 : Int32) (b13 : Int32) (b14 : Int32) (b17 : Int32) (b18 : Int32) (b19 : Int32) (b23 : Int32) (b24 : Int32) (b25 : Int32) (b26 : Int32) (b27 : Int32) (b29 : Int32) (b31 : Int32) (b32 : Int32) (b33 : Int32) (hb5 : 0 ≤ b5.toInt ∧ b5.toInt ≤ 900) (a0 : Nat → Int32) (pa0 : PI 288 a0) (x : Int32) (y : Int32) : Met l yX9_high (wsc yX9_high cX9_high 4 (some .int)) { frames := 5, cells := 0, slots := 0, locals := 170 } (va_Pc [.ref h0, .int x, .int y] (PX D cT sz [(sw_9 h0 g b0 b5 b6 b7 b8 b9 b10 b11 b12 b13 b14 b17 b18 b19 b23 b24 b25 b26 b27 b29 b31 b32 b33), (sw_in cT (g 0) 288 a0)])) (va_Qi (fun (r : Int32) (u : Int32) => ((0 ≤ x.toInt ∧ x.toInt < (a0 0).toInt ∧ 0 ≤ y.toInt ∧ y.toInt < (a0 0).toInt) → r.toInt = hgR (fun j => a0 (48 + j)) (a0 4) (a0 5) x.toInt y.toInt 99 1) ∧ (¬ (0 ≤ x.toInt ∧ x.toInt < (a0 0).toInt ∧ 0 ≤ y.toInt ∧ y.toInt < (a0 0).toInt) → r.toInt = -2) ∧ (True)) (fun u t => RW D (va_A [(sw_9 h0 g b0 b5 b6 b7 b8 b9 b10 b11 b12 b13 b14 b17 b18 b19 b23 b24 b25 b26 b27 b29 b31 b32 b33), (sw_in cT (g 0) 288 a0)] sz) ((fun u : Int32 => [(sw_9 h0 g u b5 b6 b7 b8 b9 b10 b11 b12 b13 b14 b17 b18 b19 b23 b24 b25 b26 b27 b29 b31 b32 b33), (sw_in cT (g 0) 288 a0)]) u) t) (va_A [(sw_9 h0 g b0 b5 b6 b7 b8 b9 b10 b11 b12 b13 b14 b17 b18 b19 b23 b24 b25 b26 b27 b29 b31 b32 b33), (sw_in cT (g 0) 288 a0)] sz)) 0 0 (va_A [(sw_9 h0 g b0 b5 b6 b7 b8 b9 b10 b11 b12 b13 b14 b17 b18 b19 b23 b24 b25 b26 b27 b29 b31 b32 b33), (sw_in cT (g 0) 288 a0)] sz) := by
  refine m_of (y := yX9_high) (cc := cX9_high) (nL := 4) (ret := (some .int)) (D := D) (cT := cT) (av := [.ref h0, .int x, .int y]) (wi := [(sw_9 h0 g b0 b5 b6 b7 b8 b9 b10 b11 b12 b13 b14 b17 b18 b19 b23 b24 b25 b26 b27 b29 b31 b32 b33), (sw_in cT (g 0) 288 a0)]) (fun A => va_Qi (fun (r : Int32) (u : Int32) => ((0 ≤ x.toInt ∧ x.toInt < (a0 0).toInt ∧ 0 ≤ y.toInt ∧ y.toInt < (a0 0).toInt) → r.toInt = hgR (fun j => a0 (48 + j)) (a0 4) (a0 5) x.toInt y.toInt 99 1) ∧ (¬ (0 ≤ x.toInt ∧ x.toInt < (a0 0).toInt ∧ 0 ≤ y.toInt ∧ y.toInt < (a0 0).toInt) → r.toInt = -2) ∧ (True)) (fun u t => RW D A ((fun u : Int32 => [(sw_9 h0 g u b5 b6 b7 b8 b9 b10 b11 b12 b13 b14 b17 b18 b19 b23 b24 b25 b26 b27 b29 b31 b32 b33), (sw_in cT (g 0) 288 a0)]) u) t) A) (by decide) (Nat.le_of_ble_eq_true rfl) ?_
  intro p e s m below meth c A hx hb hml hown htg hK hN hr hlk hnm hsz hP hD hS hA ls hl
  have hown : s.vm.findClass RX9 = some m.cls := hown
  have hl : lv_has ls 4 [(0, .ref h0), (1, .int x), (2, .int y)] := hl
  have tc_m2 : ((-2) : Int32).toInt = (-2) := by decide
  have tc_m1 : ((-1) : Int32).toInt = (-1) := by decide
  have tc_0 : (0 : Int32).toInt = 0 := by decide
  have tc_1 : (1 : Int32).toInt = 1 := by decide
  have tc_100 : (100 : Int32).toInt = 100 := by decide
  refine lv_aload_n hx hb dX9_high_0 rfl (lv_at hl 0 rfl) ?_
  refine lv_iconst (v := 0) hx hb dX9_high_1 (by decide) ?_
  refine va_put (D := D) (ci := 9) (v := .int 0) (ty := .int) (C := RX9) (T := TX9) (N := 37) hx hb htg gRX9 tyX9 tyX9_ok nmX9 hown hK hP hD hS 0 rfl rfl 0 (by decide) (htg _ wi_1150) (fun _ h9 => h9) rfl (by decide +kernel) rfl rfl (Nat.le_of_ble_eq_true rfl) dX9_high_2 (fun H locs hP hD hS => ?_)
  obtain ⟨hP, hD⟩ : PD D A [(sw_9 h0 g 0 b5 b6 b7 b8 b9 b10 b11 b12 b13 b14 b17 b18 b19 b23 b24 b25 b26 b27 b29 b31 b32 b33), (sw_in cT (g 0) 288 a0)] _ := ⟨hP, hD⟩
  refine lv_aload_n hx hb dX9_high_5 rfl (lv_at hl 0 rfl) ?_
  refine lv_iload_n hx hb dX9_high_6 rfl (lv_at hl 1 rfl) ?_
  refine xk_i (wr := []) (xr_V (n := 1) (As := [.int x]) (rest := []) ⟨hx, hb, hml, hown, htg⟩ hK hN hP hD hS hA [0, 1] rfl (by decide) (m_isStripB l D cT _ (h0) (g) (0) (b5) (b6) (b7) (b8) (b9) (b10) (b11) (b12) (b13) (b14) (b17) (b18) (b19) (b23) (b24) (b25) (b26) (b27) (b29) (b31) (b32) (b33) (by first | assumption | omega | decide | exact Or.inl (by decide) | (intro h9; exact absurd h9 (by decide)) | (intro _; omega) | (intro _; assumption) | (intro _; decide)) (a0) (by first | assumption | omega | decide | exact Or.inl (by decide) | (intro h9; exact absurd h9 (by decide)) | (intro _; omega) | (intro _; assumption) | (intro _; decide)) (x)) wi_1338 wi_1340 wi_90 wi_131 wi_1341 rfl rfl rfl ⟨rfl, by decide +kernel⟩ ⟨Nat.le_of_ble_eq_true rfl, Nat.le_of_ble_eq_true rfl⟩ rfl hl.1 rfl (Nat.le_of_ble_eq_true rfl) dX9_high_7 ⟨Nat.le_of_ble_eq_true rfl, Nat.le_of_ble_eq_true rfl⟩) hP hD hS hA [0, 1] [] rfl rfl (by decide) (by decide) (fun r_2 u_1 H locs hwr_2 hP hD hS => ?_)
  obtain ⟨hP, hD⟩ : PD D A [(sw_9 h0 g 0 b5 b6 b7 b8 b9 b10 b11 b12 b13 b14 b17 b18 b19 b23 b24 b25 b26 b27 b29 b31 b32 b33), (sw_in cT (g 0) 288 a0)] _ := ⟨hP, hD⟩
  have qr_2_0 : Imp (¬ r_2.toInt = 0) (0 ≤ x.toInt ∧ x.toInt ≤ 15) := hwr_2.1
  have qr_2_1 : Imp (¬ r_2.toInt = 0) (x.toInt < (a0 0).toInt) := hwr_2.2.1
  have qr_2_2 : Imp (r_2.toInt = 0) (x.toInt < 0 ∨ (a0 0).toInt ≤ x.toInt) := hwr_2.2.2.1
  have qr_2_3 : r_2 = 0 ∨ r_2 = 1 := hwr_2.2.2.2.1
  refine lv_if_eq (tgt := 21) hx hb dX9_high_10 (by decide) (fun c_3 => ?_) (fun c_3 => ?_)
  · have ic_3 : r_2.toInt = 0 := ieq c_3 (rfl) (by decide)
    have kqr_2_2 : x.toInt < 0 ∨ (a0 0).toInt ≤ x.toInt := qr_2_2 ic_3
    refine lv_bipush (v := (-2)) hx hb dX9_high_21 (by decide) ?_
    exact x_iret hx hb hr hlk hP hD hS [0, 1] ((0)) rfl (by decide) ⟨(fun h9 => by exfalso; omega), (fun _ => by (try dsimp only); decide), trivial⟩ (by decide) (by decide) dX9_high_23
  · have ic_3 : ¬ r_2.toInt = 0 := ine c_3 (rfl) (by decide)
    have kqr_2_0 : 0 ≤ x.toInt ∧ x.toInt ≤ 15 := qr_2_0 ic_3
    have kqr_2_1 : x.toInt < (a0 0).toInt := qr_2_1 ic_3
    refine lv_aload_n hx hb dX9_high_13 rfl (lv_at hl 0 rfl) ?_
    refine lv_iload_n hx hb dX9_high_14 rfl (lv_at hl 2 rfl) ?_
    refine xk_i (wr := []) (xr_V (n := 1) (As := [.int y]) (rest := []) ⟨hx, hb, hml, hown, htg⟩ hK hN hP hD hS hA [0, 1] rfl (by decide) (m_isStripB l D cT _ (h0) (g) (0) (b5) (b6) (b7) (b8) (b9) (b10) (b11) (b12) (b13) (b14) (b17) (b18) (b19) (b23) (b24) (b25) (b26) (b27) (b29) (b31) (b32) (b33) (by first | assumption | omega | decide | exact Or.inl (by decide) | (intro h9; exact absurd h9 (by decide)) | (intro _; omega) | (intro _; assumption) | (intro _; decide)) (a0) (by first | assumption | omega | decide | exact Or.inl (by decide) | (intro h9; exact absurd h9 (by decide)) | (intro _; omega) | (intro _; assumption) | (intro _; decide)) (y)) wi_1338 wi_1340 wi_90 wi_131 wi_1341 rfl rfl rfl ⟨rfl, by decide +kernel⟩ ⟨Nat.le_of_ble_eq_true rfl, Nat.le_of_ble_eq_true rfl⟩ rfl hl.1 rfl (Nat.le_of_ble_eq_true rfl) dX9_high_15 ⟨Nat.le_of_ble_eq_true rfl, Nat.le_of_ble_eq_true rfl⟩) hP hD hS hA [0, 1] [] rfl rfl (by decide) (by decide) (fun r_5 u_4 H locs hwr_5 hP hD hS => ?_)
    obtain ⟨hP, hD⟩ : PD D A [(sw_9 h0 g 0 b5 b6 b7 b8 b9 b10 b11 b12 b13 b14 b17 b18 b19 b23 b24 b25 b26 b27 b29 b31 b32 b33), (sw_in cT (g 0) 288 a0)] _ := ⟨hP, hD⟩
    have qr_5_0 : Imp (¬ r_5.toInt = 0) (0 ≤ y.toInt ∧ y.toInt ≤ 15) := hwr_5.1
    have qr_5_1 : Imp (¬ r_5.toInt = 0) (y.toInt < (a0 0).toInt) := hwr_5.2.1
    have qr_5_2 : Imp (r_5.toInt = 0) (y.toInt < 0 ∨ (a0 0).toInt ≤ y.toInt) := hwr_5.2.2.1
    have qr_5_3 : r_5 = 0 ∨ r_5 = 1 := hwr_5.2.2.2.1
    refine lv_if_ne (tgt := 24) hx hb dX9_high_18 (by decide) (fun c_6 => ?_) (fun c_6 => ?_)
    · have ic_6 : ¬ r_5.toInt = 0 := ine c_6 (rfl) (by decide)
      have kqr_5_0 : 0 ≤ y.toInt ∧ y.toInt ≤ 15 := qr_5_0 ic_6
      have kqr_5_1 : y.toInt < (a0 0).toInt := qr_5_1 ic_6
      refine lv_iconst (v := 1) hx hb dX9_high_24 (by decide) ?_
      refine lv_istore_n (lv' := [(3, .int 1), (0, .ref h0), (1, .int x), (2, .int y)]) hx hb dX9_high_25 rfl hl (by decide) rfl (fun ls hl => ?_)
      have hhg0 : hgR (fun j => a0 (48 + j)) (a0 4) (a0 5) x.toInt y.toInt (100 - (1 : Int32).toInt).toNat (1 : Int32).toInt = hgR (fun j => a0 (48 + j)) (a0 4) (a0 5) x.toInt y.toInt 99 1 := rfl
      refine (fun (key : ∀ (n9_26 : Nat) (k9_26 : Int32)  (H : Heap) (locs : List Loc) (ls : Array Slot), (1 ≤ k9_26.toInt ∧ k9_26.toInt ≤ 100) → 100 < k9_26.toInt + n9_26 → (hgR (fun j => a0 (48 + j)) (a0 4) (a0 5) x.toInt y.toInt (100 - k9_26.toInt).toNat k9_26.toInt = hgR (fun j => a0 (48 + j)) (a0 4) (a0 5) x.toInt y.toInt 99 1) → PD D A [(sw_9 h0 g 0 b5 b6 b7 b8 b9 b10 b11 b12 b13 b14 b17 b18 b19 b23 b24 b25 b26 b27 b29 b31 b32 b33), (sw_in cT (g 0) 288 a0)] H → va_S A s.heap H locs → lv_has ls 4 [(3, .int k9_26), (0, .ref h0), (1, .int x), (2, .int y)] → W p l e _ s m _ below meth c H locs _ _ _ (F0 m 26 ls [])) => key (Int.toNat (100 - 1) + 1) (1)  _ _ _ (by omega) (by omega) (by first | assumption | omega | decide | (simp only [ti_0, ti_1, ti_2, ti_3, ti_4, ti_5, ti_6, ti_7, ti_8, ti_9, ti_10, ti_11, ti_12, ti_m1]; omega)) ⟨hP, hD⟩ hS (lv_sub hl [0, 1, 2, 3] rfl)) ?_
      intro n9_26
      induction n9_26 with
      | zero => intro k9_26  H locs ls hq1 hq2; exact absurd hq2 (by omega)
      | succ n9_26 ih_26 =>
        intro k9_26  H locs ls hq1_26 hq2_26 h9_26_0 hPD hS hl
        obtain ⟨hP, hD⟩ := hPD
        refine lv_iload_n hx hb dX9_high_26 rfl (lv_at hl 0 rfl) ?_
        refine lv_bipush (v := 100) hx hb dX9_high_27 (by decide) ?_
        refine lv_icmp_ge (tgt := 50) hx hb dX9_high_29 (by decide) (fun c_7 => ?_) (fun c_7 => ?_)
        · have ic_7 : 100 ≤ k9_26.toInt := ile c_7 (by decide) (rfl)
          have hhr : hgR (fun j => a0 (48 + j)) (a0 4) (a0 5) x.toInt y.toInt 99 1 = -1 := by rw [← h9_26_0, show (100 - k9_26.toInt).toNat = 0 from by omega]; rfl
          refine lv_iconst (v := (-1)) hx hb dX9_high_50 (by decide) ?_
          exact x_iret hx hb hr hlk hP hD hS [0, 1] ((0)) rfl (by decide) ⟨(fun _ => by (try dsimp only); omega), (fun h9 => by exfalso; omega), trivial⟩ (by decide) (by decide) dX9_high_51
        · have ic_7 : k9_26.toInt < 100 := inle c_7 (by decide) (rfl)
          refine lv_aload_n hx hb dX9_high_32 rfl (lv_at hl 1 rfl) ?_
          refine lv_iload_n hx hb dX9_high_33 rfl (lv_at hl 2 rfl) ?_
          refine lv_iload_n hx hb dX9_high_34 rfl (lv_at hl 3 rfl) ?_
          refine lv_iload_n hx hb dX9_high_35 rfl (lv_at hl 0 rfl) ?_
          refine xk_i (wr := []) (xr_V (n := 3) (As := [.int x, .int y, .int k9_26]) (rest := []) ⟨hx, hb, hml, hown, htg⟩ hK hN hP hD hS hA [0, 1] rfl (by decide) (m_lightByX l D cT _ (h0) (g) (0) (b5) (b6) (b7) (b8) (b9) (b10) (b11) (b12) (b13) (b14) (b17) (b18) (b19) (b23) (b24) (b25) (b26) (b27) (b29) (b31) (b32) (b33) (by first | assumption | omega | decide | exact Or.inl (by decide) | (intro h9; exact absurd h9 (by decide)) | (intro _; omega) | (intro _; assumption) | (intro _; decide)) (a0) (by first | assumption | omega | decide | exact Or.inl (by decide) | (intro h9; exact absurd h9 (by decide)) | (intro _; omega) | (intro _; assumption) | (intro _; decide)) (x) (y) (k9_26) (by first | assumption | omega | decide | exact Or.inl (by decide) | (intro h9; exact absurd h9 (by decide)) | (intro _; omega) | (intro _; assumption) | (intro _; decide)) (by first | assumption | omega | decide | exact Or.inl (by decide) | (intro h9; exact absurd h9 (by decide)) | (intro _; omega) | (intro _; assumption) | (intro _; decide))) wi_1347 wi_1349 wi_92 wi_131 wi_1350 rfl rfl rfl ⟨rfl, by decide +kernel⟩ ⟨Nat.le_of_ble_eq_true rfl, Nat.le_of_ble_eq_true rfl⟩ rfl hl.1 rfl (Nat.le_of_ble_eq_true rfl) dX9_high_36 ⟨Nat.le_of_ble_eq_true rfl, Nat.le_of_ble_eq_true rfl⟩) hP hD hS hA [0, 1] [] rfl rfl (by decide) (by decide) (fun r_9 u_8 H locs hwr_9 hP hD hS => ?_)
          obtain ⟨hP, hD⟩ : PD D A [(sw_9 h0 g 0 b5 b6 b7 b8 b9 b10 b11 b12 b13 b14 b17 b18 b19 b23 b24 b25 b26 b27 b29 b31 b32 b33), (sw_in cT (g 0) 288 a0)] _ := ⟨hP, hD⟩
          have qr_9_0 : r_9.toInt = lgF (fun j => a0 (48 + j)) k9_26 (a0 4) (a0 5) x.toInt y.toInt := hwr_9.1
          have hh1 := hgR_s (T := fun j => a0 (48 + j)) (p5 := a0 4) (p6 := a0 5) (h := k9_26) (o := x.toInt) (s := y.toInt) (n := (100 - (k9_26.toInt + 1)).toNat)
          rw [← show (100 - k9_26.toInt).toNat = (100 - (k9_26.toInt + 1)).toNat + 1 from by omega, h9_26_0, ← qr_9_0] at hh1
          refine lv_if_le (tgt := 44) hx hb dX9_high_39 (by decide) (fun c_10 => ?_) (fun c_10 => ?_)
          · have ic_10 : r_9.toInt ≤ 0 := ile c_10 (rfl) (by decide)
            have hhe := hh1
            rw [if_neg (by omega)] at hhe
            have hhe := hhe.symm
            obtain ⟨z_11, ez_11⟩ : ∃ w : Int32, w = k9_26 + 1 := ⟨_, rfl⟩
            have iz_11 : z_11.toInt = k9_26.toInt + 1 := toInt_addI ez_11 (rfl) (by decide) (by omega)
            refine lv_iinc (v := z_11) (lv' := [(3, .int z_11), (0, .ref h0), (1, .int x), (2, .int y)]) hx hb dX9_high_44 hl (k := 0) rfl (by rw [ez_11]; rfl) (by decide) rfl (fun ls hl => ?_)
            refine lv_goto (tgt := 26) hx hb dX9_high_47 (by decide) ?_
            have hhg1 : hgR (fun j => a0 (48 + j)) (a0 4) (a0 5) x.toInt y.toInt (100 - z_11.toInt).toNat z_11.toInt = hgR (fun j => a0 (48 + j)) (a0 4) (a0 5) x.toInt y.toInt 99 1 := by rw [show z_11.toInt = k9_26.toInt + 1 from by omega]; exact hhe
            exact ih_26 (z_11)  _ _ _ (by omega) (by omega) (by first | assumption | omega | decide | (simp only [ti_0, ti_1, ti_2, ti_3, ti_4, ti_5, ti_6, ti_7, ti_8, ti_9, ti_10, ti_11, ti_12, ti_m1]; omega)) ⟨hP.sub [0, 1] rfl, hD.sub [0, 1] (by decide) rfl⟩ hS (lv_sub hl [0, 1, 2, 3] rfl)
          · have ic_10 : 0 < r_9.toInt := inle c_10 (rfl) (by decide)
            have hhr : hgR (fun j => a0 (48 + j)) (a0 4) (a0 5) x.toInt y.toInt 99 1 = k9_26.toInt := by rw [hh1, if_pos (by omega)]
            refine lv_iload_n hx hb dX9_high_42 rfl (lv_at hl 0 rfl) ?_
            exact x_iret hx hb hr hlk hP hD hS [0, 1] ((0)) rfl (by decide) ⟨(fun _ => by (try dsimp only); omega), (fun h9 => by exfalso; omega), trivial⟩ (by decide) (by decide) dX9_high_43
    · have ic_6 : r_5.toInt = 0 := ieq c_6 (rfl) (by decide)
      have kqr_5_2 : y.toInt < 0 ∨ (a0 0).toInt ≤ y.toInt := qr_5_2 ic_6
      refine lv_bipush (v := (-2)) hx hb dX9_high_21 (by decide) ?_
      exact x_iret hx hb hr hlk hP hD hS [0, 1] ((0)) rfl (by decide) ⟨(fun h9 => by exfalso; omega), (fun _ => by (try dsimp only); decide), trivial⟩ (by decide) (by decide) dX9_high_23
