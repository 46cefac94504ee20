set_option maxHeartbeats 4000000 in
set_option maxRecDepth 100000 in
theorem m_judgeK (l : Launch) (D : va_G) (cT : Nat → ClassId) (sz : Nat) (h0 : Nat) (g : Nat → Nat) (b0 : Int32) (b5 : Int32) (b6 : Int32) (b7 : Int32) (b8 : Int32) (b9 : Int32) (b10 : Int32) (b11 : Int32) (b12 : Int32) (b13 : Int32) (b14 : Int32) (b17 : Int32) (b18 : Int32) (b19 : Int32) (b23 : Int32) (b24 : Int32) (b25 : Int32) (b26 : Int32) (b27 : Int32) (b29 : Int32) (b31 : Int32) (b32 : Int32) (b33 : Int32) (hb5 : 0 ≤ b5.toInt ∧ b5.toInt ≤ 900) (a0 : Nat → Int32) (pa0 : PI 288 a0) (a4 : Nat → Int32) (a5 : Nat → Int32) (pa5 : PI 960 a5) (a11 : Nat → Int32) (a12 : Nat → Int32) (e12 : EL a12 4 0 40) (a13 : Nat → Int64) (x : Int32) (y : Int32) : Met l yX9_judge (wsc yX9_judge cX9_judge 5 (some .int)) { frames := 8, cells := 0, slots := 0, locals := 239 } (va_Pc [.ref h0, .int x, .int y] (PX D cT sz [(sw_9 h0 g b0 b5 b6 b7 b8 b9 b10 b11 b12 b13 b14 b17 b18 b19 b23 b24 b25 b26 b27 b29 b31 b32 b33), (sw_in cT (g 0) 288 a0), (sw_in cT (g 4) 6 a4), (sw_in cT (g 5) 960 a5), (sw_in cT (g 11) 4 a11), (sw_in cT (g 12) 4 a12), (sw_lo cT (g 13) 160 a13)])) (va_Qi (fun (r : Int32) (u : Int32 × Int32 × Int32 × (Nat → Int32) × (Nat → Int32) × (Nat → Int32)) => (PI 288 u.2.2.2.1) ∧ (KR u.2.2.2.1 a0) ∧ (PI 960 u.2.2.2.2.2) ∧ (True)) (fun u t => RW D (va_A [(sw_9 h0 g b0 b5 b6 b7 b8 b9 b10 b11 b12 b13 b14 b17 b18 b19 b23 b24 b25 b26 b27 b29 b31 b32 b33), (sw_in cT (g 0) 288 a0), (sw_in cT (g 4) 6 a4), (sw_in cT (g 5) 960 a5), (sw_in cT (g 11) 4 a11), (sw_in cT (g 12) 4 a12), (sw_lo cT (g 13) 160 a13)] sz) ((fun u : Int32 × Int32 × Int32 × (Nat → Int32) × (Nat → Int32) × (Nat → Int32) => [(sw_9 h0 g u.1 b5 b6 b7 b8 b9 b10 b11 b12 b13 b14 u.2.1 u.2.2.1 b19 b23 b24 b25 b26 b27 b29 b31 b32 b33), (sw_in cT (g 0) 288 u.2.2.2.1), (sw_in cT (g 4) 6 u.2.2.2.2.1), (sw_in cT (g 5) 960 u.2.2.2.2.2), (sw_in cT (g 11) 4 a11), (sw_in cT (g 12) 4 a12), (sw_lo cT (g 13) 160 a13)]) u) t) (va_A [(sw_9 h0 g b0 b5 b6 b7 b8 b9 b10 b11 b12 b13 b14 b17 b18 b19 b23 b24 b25 b26 b27 b29 b31 b32 b33), (sw_in cT (g 0) 288 a0), (sw_in cT (g 4) 6 a4), (sw_in cT (g 5) 960 a5), (sw_in cT (g 11) 4 a11), (sw_in cT (g 12) 4 a12), (sw_lo cT (g 13) 160 a13)] sz)) 0 0 (va_A [(sw_9 h0 g b0 b5 b6 b7 b8 b9 b10 b11 b12 b13 b14 b17 b18 b19 b23 b24 b25 b26 b27 b29 b31 b32 b33), (sw_in cT (g 0) 288 a0), (sw_in cT (g 4) 6 a4), (sw_in cT (g 5) 960 a5), (sw_in cT (g 11) 4 a11), (sw_in cT (g 12) 4 a12), (sw_lo cT (g 13) 160 a13)] sz) := by
  refine m_of (y := yX9_judge) (cc := cX9_judge) (nL := 5) (ret := (some .int)) (D := D) (cT := cT) (av := [.ref h0, .int x, .int y]) (wi := [(sw_9 h0 g b0 b5 b6 b7 b8 b9 b10 b11 b12 b13 b14 b17 b18 b19 b23 b24 b25 b26 b27 b29 b31 b32 b33), (sw_in cT (g 0) 288 a0), (sw_in cT (g 4) 6 a4), (sw_in cT (g 5) 960 a5), (sw_in cT (g 11) 4 a11), (sw_in cT (g 12) 4 a12), (sw_lo cT (g 13) 160 a13)]) (fun A => va_Qi (fun (r : Int32) (u : Int32 × Int32 × Int32 × (Nat → Int32) × (Nat → Int32) × (Nat → Int32)) => (PI 288 u.2.2.2.1) ∧ (KR u.2.2.2.1 a0) ∧ (PI 960 u.2.2.2.2.2) ∧ (True)) (fun u t => RW D A ((fun u : Int32 × Int32 × Int32 × (Nat → Int32) × (Nat → Int32) × (Nat → Int32) => [(sw_9 h0 g u.1 b5 b6 b7 b8 b9 b10 b11 b12 b13 b14 u.2.1 u.2.2.1 b19 b23 b24 b25 b26 b27 b29 b31 b32 b33), (sw_in cT (g 0) 288 u.2.2.2.1), (sw_in cT (g 4) 6 u.2.2.2.2.1), (sw_in cT (g 5) 960 u.2.2.2.2.2), (sw_in cT (g 11) 4 a11), (sw_in cT (g 12) 4 a12), (sw_lo cT (g 13) 160 a13)]) u) t) A) (by decide) (Nat.le_of_ble_eq_true rfl) ?_
  intro p e s m below meth c A hx hb hml hown htg hK hN hr hlk hnm hsz hP hD hS hA ls hl
  have hown : s.vm.findClass RX9 = some m.cls := hown
  have hl : lv_has ls 5 [(0, .ref h0), (1, .int x), (2, .int y)] := hl
  have tc_m6 : ((-6) : Int32).toInt = (-6) := by decide
  have tc_m2 : ((-2) : Int32).toInt = (-2) := by decide
  have tc_m1 : ((-1) : Int32).toInt = (-1) := by decide
  have tc_0 : (0 : Int32).toInt = 0 := by decide
  have tc_1 : (1 : Int32).toInt = 1 := by decide
  have tc_2 : (2 : Int32).toInt = 2 := by decide
  refine lv_aload_n hx hb dX9_judge_0 rfl (lv_at hl 0 rfl) ?_
  refine lv_iconst (v := 0) hx hb dX9_judge_1 (by decide) ?_
  refine va_put (D := D) (ci := 9) (v := .int 0) (ty := .int) (C := RX9) (T := TX9) (N := 37) hx hb htg gRX9 tyX9 tyX9_ok nmX9 hown hK hP hD hS 0 rfl rfl 0 (by decide) (htg _ wi_1150) (fun _ h9 => h9) rfl (by decide +kernel) rfl rfl (Nat.le_of_ble_eq_true rfl) dX9_judge_2 (fun H locs hP hD hS => ?_)
  obtain ⟨hP, hD⟩ : PD D A [(sw_9 h0 g 0 b5 b6 b7 b8 b9 b10 b11 b12 b13 b14 b17 b18 b19 b23 b24 b25 b26 b27 b29 b31 b32 b33), (sw_in cT (g 0) 288 a0), (sw_in cT (g 4) 6 a4), (sw_in cT (g 5) 960 a5), (sw_in cT (g 11) 4 a11), (sw_in cT (g 12) 4 a12), (sw_lo cT (g 13) 160 a13)] _ := ⟨hP, hD⟩
  refine lv_iload_n hx hb dX9_judge_5 rfl (lv_at hl 1 rfl) ?_
  refine lv_i2l (v := x.toInt64) hx hb dX9_judge_6 rfl ?_
  refine lv_lconst (v := 0) hx hb dX9_judge_7 (by decide) ?_
  refine lv_ldc2 (v := 3) hx hb hown (htg _ wi_1366) dX9_judge_8 ?_
  have ilw_1 : (x.toInt64).toInt = x.toInt := i2l_i _
  refine xk_i (wr := [(sw_9 h0 g 0 b5 b6 b7 b8 b9 b10 b11 b12 b13 b14 b17 b18 b19 b23 b24 b25 b26 b27 b29 b31 b32 b33), (sw_in cT (g 0) 288 a0), (sw_in cT (g 4) 6 a4), (sw_in cT (g 5) 960 a5), (sw_in cT (g 11) 4 a11), (sw_in cT (g 12) 4 a12), (sw_lo cT (g 13) 160 a13)]) (xr_S (n := 3) (As := [.long x.toInt64, .long 0, .long 3]) (rest := []) ⟨hx, hb, hml, hown, htg⟩ hK hN hP hD hS hA [] rfl (by decide) (m_within l D cT _ (x.toInt64) (0) (3) (x.toInt) (0) (3) (i2l_i _) (by decide) (by decide)) wi_1270 wi_1271 wi_131 wi_1272 ⟨rfl, by decide +kernel⟩ ⟨Nat.le_of_ble_eq_true rfl, Nat.le_of_ble_eq_true rfl⟩ rfl hl.1 rfl (Nat.le_of_ble_eq_true rfl) dX9_judge_11 ⟨Nat.le_of_ble_eq_true rfl, Nat.le_of_ble_eq_true rfl⟩) hP hD hS hA [] [0, 1, 2, 3, 4, 5, 6] rfl rfl (by decide) (by decide) (fun r_3 u_2 H locs hwr_3 hP hD hS => ?_)
  obtain ⟨hP, hD⟩ : PD D A [(sw_9 h0 g 0 b5 b6 b7 b8 b9 b10 b11 b12 b13 b14 b17 b18 b19 b23 b24 b25 b26 b27 b29 b31 b32 b33), (sw_in cT (g 0) 288 a0), (sw_in cT (g 4) 6 a4), (sw_in cT (g 5) 960 a5), (sw_in cT (g 11) 4 a11), (sw_in cT (g 12) 4 a12), (sw_lo cT (g 13) 160 a13)] _ := ⟨hP, hD⟩
  have qr_3_0 : Imp (¬ r_3.toInt = 0) (0 ≤ x.toInt ∧ x.toInt ≤ 3) := hwr_3.1
  have qr_3_1 : r_3 = 0 ∨ r_3 = 1 := hwr_3.2.1
  refine lv_if_eq (tgt := 29) hx hb dX9_judge_14 (by decide) (fun c_4 => ?_) (fun c_4 => ?_)
  · have ic_4 : r_3.toInt = 0 := ieq c_4 (rfl) (by decide)
    refine lv_bipush (v := (-2)) hx hb dX9_judge_29 (by decide) ?_
    exact x_iret hx hb hr hlk hP hD hS [0, 1, 2, 3, 4, 5, 6] ((0, b17, b18, a0, a4, a5)) rfl (by decide) ⟨by (try dsimp only); first | assumption | omega | decide | exact Or.inl (by decide) | (intro h9; exact absurd h9 (by decide)) | (intro _; omega) | (intro _; assumption) | (intro _; decide), by (try dsimp only); first | assumption | exact KR_rfl _, by (try dsimp only); first | assumption | omega | decide | exact Or.inl (by decide) | (intro h9; exact absurd h9 (by decide)) | (intro _; omega) | (intro _; assumption) | (intro _; decide), trivial⟩ (by decide) (by decide) dX9_judge_31
  · have ic_4 : ¬ r_3.toInt = 0 := ine c_4 (rfl) (by decide)
    have kqr_3_0 : 0 ≤ x.toInt ∧ x.toInt ≤ 3 := qr_3_0 ic_4
    refine lv_iload_n hx hb dX9_judge_17 rfl (lv_at hl 2 rfl) ?_
    refine lv_i2l (v := y.toInt64) hx hb dX9_judge_18 rfl ?_
    refine lv_lconst (v := 0) hx hb dX9_judge_19 (by decide) ?_
    refine lv_ldc2 (v := 3) hx hb hown (htg _ wi_1366) dX9_judge_20 ?_
    have ilw_5 : (y.toInt64).toInt = y.toInt := i2l_i _
    refine xk_i (wr := [(sw_9 h0 g 0 b5 b6 b7 b8 b9 b10 b11 b12 b13 b14 b17 b18 b19 b23 b24 b25 b26 b27 b29 b31 b32 b33), (sw_in cT (g 0) 288 a0), (sw_in cT (g 4) 6 a4), (sw_in cT (g 5) 960 a5), (sw_in cT (g 11) 4 a11), (sw_in cT (g 12) 4 a12), (sw_lo cT (g 13) 160 a13)]) (xr_S (n := 3) (As := [.long y.toInt64, .long 0, .long 3]) (rest := []) ⟨hx, hb, hml, hown, htg⟩ hK hN hP hD hS hA [] rfl (by decide) (m_within l D cT _ (y.toInt64) (0) (3) (y.toInt) (0) (3) (i2l_i _) (by decide) (by decide)) wi_1270 wi_1271 wi_131 wi_1272 ⟨rfl, by decide +kernel⟩ ⟨Nat.le_of_ble_eq_true rfl, Nat.le_of_ble_eq_true rfl⟩ rfl hl.1 rfl (Nat.le_of_ble_eq_true rfl) dX9_judge_23 ⟨Nat.le_of_ble_eq_true rfl, Nat.le_of_ble_eq_true rfl⟩) hP hD hS hA [] [0, 1, 2, 3, 4, 5, 6] rfl rfl (by decide) (by decide) (fun r_7 u_6 H locs hwr_7 hP hD hS => ?_)
    obtain ⟨hP, hD⟩ : PD D A [(sw_9 h0 g 0 b5 b6 b7 b8 b9 b10 b11 b12 b13 b14 b17 b18 b19 b23 b24 b25 b26 b27 b29 b31 b32 b33), (sw_in cT (g 0) 288 a0), (sw_in cT (g 4) 6 a4), (sw_in cT (g 5) 960 a5), (sw_in cT (g 11) 4 a11), (sw_in cT (g 12) 4 a12), (sw_lo cT (g 13) 160 a13)] _ := ⟨hP, hD⟩
    have qr_7_0 : Imp (¬ r_7.toInt = 0) (0 ≤ y.toInt ∧ y.toInt ≤ 3) := hwr_7.1
    have qr_7_1 : r_7 = 0 ∨ r_7 = 1 := hwr_7.2.1
    refine lv_if_ne (tgt := 32) hx hb dX9_judge_26 (by decide) (fun c_8 => ?_) (fun c_8 => ?_)
    · have ic_8 : ¬ r_7.toInt = 0 := ine c_8 (rfl) (by decide)
      have kqr_7_0 : 0 ≤ y.toInt ∧ y.toInt ≤ 3 := qr_7_0 ic_8
      refine lv_aload_n hx hb dX9_judge_32 rfl (lv_at hl 0 rfl) ?_
      refine va_get (D := D) (ci := 9) (v := .ref (g 11)) (C := RX9) (T := TX9) (N := 37) hx hb htg gRX9 hown hK hP 0 rfl rfl 34 (by decide) (htg _ wi_1184) (fun _ h9 => h9) rfl dX9_judge_33 ?_
      refine lv_iload_n hx hb dX9_judge_36 rfl (lv_at hl 1 rfl) ?_
      refine va_iald hx hb hK hP 4 0 rfl rfl (vp_in_iff.mpr (by omega)) dX9_judge_37 ?_
      refine lv_topi (fun z_9 ez_9 => ?_)
      refine lv_iconst (v := (-1)) hx hb dX9_judge_38 (by decide) ?_
      refine lv_icmp_ne (tgt := 45) hx hb dX9_judge_39 (by decide) (fun c_10 => ?_) (fun c_10 => ?_)
      · have ic_10 : ¬ z_9.toInt = (-1) := ine c_10 (rfl) (by decide)
        refine lv_aload_n hx hb dX9_judge_45 rfl (lv_at hl 0 rfl) ?_
        refine lv_iconst (v := 0) hx hb dX9_judge_46 (by decide) ?_
        refine xk_v (wr := [(sw_in cT (g 4) 6 a4), (sw_in cT (g 11) 4 a11), (sw_in cT (g 12) 4 a12), (sw_lo cT (g 13) 160 a13)]) (xr_V (n := 1) (As := [.int 0]) (rest := []) ⟨hx, hb, hml, hown, htg⟩ hK hN hP hD hS hA [0, 1, 3] rfl (by decide) (m_keepsK l D cT _ (h0) (g) (0) (b5) (b6) (b7) (b8) (b9) (b10) (b11) (b12) (b13) (b14) (b17) (b18) (b19) (b23) (b24) (b25) (b26) (b27) (b29) (b31) (b32) (b33) (by first | assumption | omega | decide | exact Or.inl (by decide) | (intro h9; exact absurd h9 (by decide)) | (intro _; omega) | (intro _; assumption) | (intro _; decide)) (a0) (by first | assumption | omega | decide | exact Or.inl (by decide) | (intro h9; exact absurd h9 (by decide)) | (intro _; omega) | (intro _; assumption) | (intro _; decide)) (a5) (by first | assumption | omega | decide | exact Or.inl (by decide) | (intro h9; exact absurd h9 (by decide)) | (intro _; omega) | (intro _; assumption) | (intro _; decide)) (0) (by first | assumption | omega | decide | exact Or.inl (by decide) | (intro h9; exact absurd h9 (by decide)) | (intro _; omega) | (intro _; assumption) | (intro _; decide))) wi_1432 wi_1434 wi_101 wi_131 wi_1435 rfl rfl rfl ⟨rfl, by decide +kernel⟩ ⟨Nat.le_of_ble_eq_true rfl, Nat.le_of_ble_eq_true rfl⟩ rfl hl.1 rfl (Nat.le_of_ble_eq_true rfl) dX9_judge_47 ⟨Nat.le_of_ble_eq_true rfl, Nat.le_of_ble_eq_true rfl⟩) hP hD hS hA [0, 1, 3] [2, 4, 5, 6] rfl rfl (by decide) (by decide) (fun u_11 H locs hwr_12 hP hD hS => ?_)
        obtain ⟨hP, hD⟩ : PD D A [(sw_in cT (g 4) 6 a4), (sw_in cT (g 11) 4 a11), (sw_in cT (g 12) 4 a12), (sw_lo cT (g 13) 160 a13), (sw_9 h0 g 0 b5 b6 b7 b8 b9 b10 b11 b12 b13 b14 b17 b18 b19 b23 b24 b25 b26 b27 b29 b31 b32 b33), (sw_in cT (g 0) 288 a0), (sw_in cT (g 5) 960 u_11)] _ := ⟨hP, hD⟩
        have qr_12_0 : PI 960 u_11 := hwr_12.1
        have qr_12_1 : KP (96 * 0) u_11 a0 := by have h7 := hwr_12.2.1; simp only [show ((0 : Int32)).toInt = 0 from by decide] at h7; exact h7
        have qr_12_2 : KB (96 * 0) u_11 a5 := by have h7 := hwr_12.2.2.1; simp only [show ((0 : Int32)).toInt = 0 from by decide] at h7; exact h7
        refine lv_aload_n hx hb dX9_judge_50 rfl (lv_at hl 0 rfl) ?_
        refine lv_iload_n hx hb dX9_judge_51 rfl (lv_at hl 1 rfl) ?_
        refine xk_i (wr := [(sw_in cT (g 11) 4 a11), (sw_in cT (g 5) 960 u_11)]) (xr_V (n := 1) (As := [.int x]) (rest := []) ⟨hx, hb, hml, hown, htg⟩ hK hN hP hD hS hA [4, 5, 0, 2, 3] rfl (by decide) (m_movesOfK l D cT _ (h0) (g) (0) (b5) (b6) (b7) (b8) (b9) (b10) (b11) (b12) (b13) (b14) (b17) (b18) (b19) (b23) (b24) (b25) (b26) (b27) (b29) (b31) (b32) (b33) (by first | assumption | omega | decide | exact Or.inl (by decide) | (intro h9; exact absurd h9 (by decide)) | (intro _; omega) | (intro _; assumption) | (intro _; decide)) (a0) (by first | assumption | omega | decide | exact Or.inl (by decide) | (intro h9; exact absurd h9 (by decide)) | (intro _; omega) | (intro _; assumption) | (intro _; decide)) (a4) (a12) (by first | assumption | omega | decide | exact Or.inl (by decide) | (intro h9; exact absurd h9 (by decide)) | (intro _; omega) | (intro _; assumption) | (intro _; decide)) (a13) (x) (by first | assumption | omega | decide | exact Or.inl (by decide) | (intro h9; exact absurd h9 (by decide)) | (intro _; omega) | (intro _; assumption) | (intro _; decide))) wi_1436 wi_1438 wi_102 wi_131 wi_1439 rfl rfl rfl ⟨rfl, by decide +kernel⟩ ⟨Nat.le_of_ble_eq_true rfl, Nat.le_of_ble_eq_true rfl⟩ rfl hl.1 rfl (Nat.le_of_ble_eq_true rfl) dX9_judge_52 ⟨Nat.le_of_ble_eq_true rfl, Nat.le_of_ble_eq_true rfl⟩) hP hD hS hA [4, 5, 0, 2, 3] [1, 6] rfl rfl (by decide) (by decide) (fun r_14 u_13 H locs hwr_14 hP hD hS => ?_)
        obtain ⟨hP, hD⟩ : PD D A [(sw_in cT (g 11) 4 a11), (sw_in cT (g 5) 960 u_11), (sw_9 h0 g 0 b5 b6 b7 b8 b9 b10 b11 b12 b13 b14 u_13.1 u_13.2.1 b19 b23 b24 b25 b26 b27 b29 b31 b32 b33), (sw_in cT (g 0) 288 u_13.2.2.1), (sw_in cT (g 4) 6 u_13.2.2.2), (sw_in cT (g 12) 4 a12), (sw_lo cT (g 13) 160 a13)] _ := ⟨hP, hD⟩
        have qr_14_0 : PI 288 u_13.2.2.1 := hwr_14.1
        have qr_14_1 : KR u_13.2.2.1 a0 := hwr_14.2.1
        have kqr_14_1 : KR u_13.2.2.1 (a0) := KR_tr qr_14_1 (KR_rfl a0)
        refine lv_istore_n (lv' := [(3, .int r_14), (0, .ref h0), (1, .int x), (2, .int y)]) hx hb dX9_judge_55 rfl hl (by decide) rfl (fun ls hl => ?_)
        refine lv_aload_n hx hb dX9_judge_56 rfl (lv_at hl 1 rfl) ?_
        refine va_get (D := D) (ci := 9) (v := .ref (g 0)) (C := RX9) (T := TX9) (N := 37) hx hb htg gRX9 hown hK hP 2 rfl rfl 1 (by decide) (htg _ wi_1151) (fun _ h9 => h9) rfl dX9_judge_57 ?_
        refine lv_iconst (v := 0) hx hb dX9_judge_60 (by decide) ?_
        refine va_iald hx hb hK hP 3 0 rfl rfl (by unfold vp_in; decide) dX9_judge_61 ?_
        refine lv_topi (fun z_15 ez_15 => ?_)
        have iz_15 : 0 ≤ z_15.toInt ∧ z_15.toInt ≤ 16 := by rw [ez_15]; exact rd0 qr_14_0 (by decide) rfl
        have nz_15 : z_15.toInt = ((u_13.2.2.1) 0).toInt := by rw [ez_15]; rfl
        refine lv_if_ne (tgt := 69) hx hb dX9_judge_62 (by decide) (fun c_16 => ?_) (fun c_16 => ?_)
        · have ic_16 : ¬ z_15.toInt = 0 := ine c_16 (rfl) (by decide)
          refine lv_aload_n hx hb dX9_judge_69 rfl (lv_at hl 1 rfl) ?_
          refine va_get (D := D) (ci := 9) (v := .ref (g 0)) (C := RX9) (T := TX9) (N := 37) hx hb htg gRX9 hown hK hP 2 rfl rfl 1 (by decide) (htg _ wi_1151) (fun _ h9 => h9) rfl dX9_judge_70 ?_
          refine lv_iconst (v := 2) hx hb dX9_judge_73 (by decide) ?_
          refine va_iald hx hb hK hP 3 0 rfl rfl (by unfold vp_in; decide) dX9_judge_74 ?_
          refine lv_topi (fun z_17 ez_17 => ?_)
          have iz_17 : 0 ≤ z_17.toInt ∧ z_17.toInt ≤ 15 := by rw [ez_17]; exact rd2 qr_14_0 (by decide) rfl
          have nz_17 : z_17.toInt = ((u_13.2.2.1) 2).toInt := by rw [ez_17]; rfl
          refine lv_istore (lv' := [(4, .int z_17), (3, .int r_14), (0, .ref h0), (1, .int x), (2, .int y)]) hx hb dX9_judge_75 hl (by decide) rfl (fun ls hl => ?_)
          refine lv_aload_n hx hb dX9_judge_77 rfl (lv_at hl 2 rfl) ?_
          refine lv_iconst (v := 0) hx hb dX9_judge_78 (by decide) ?_
          refine xk_v (wr := [(sw_in cT (g 11) 4 a11), (sw_in cT (g 4) 6 u_13.2.2.2), (sw_in cT (g 12) 4 a12), (sw_lo cT (g 13) 160 a13)]) (xr_V (n := 1) (As := [.int 0]) (rest := []) ⟨hx, hb, hml, hown, htg⟩ hK hN hP hD hS hA [2, 3, 1] rfl (by decide) (m_isAgainK l D cT _ (h0) (g) (0) (b5) (b6) (b7) (b8) (b9) (b10) (b11) (b12) (b13) (b14) (u_13.1) (u_13.2.1) (b19) (b23) (b24) (b25) (b26) (b27) (b29) (b31) (b32) (b33) (by first | assumption | omega | decide | exact Or.inl (by decide) | (intro h9; exact absurd h9 (by decide)) | (intro _; omega) | (intro _; assumption) | (intro _; decide)) (u_13.2.2.1) (by first | assumption | omega | decide | exact Or.inl (by decide) | (intro h9; exact absurd h9 (by decide)) | (intro _; omega) | (intro _; assumption) | (intro _; decide)) (u_11) (by first | assumption | omega | decide | exact Or.inl (by decide) | (intro h9; exact absurd h9 (by decide)) | (intro _; omega) | (intro _; assumption) | (intro _; decide)) (0) (by first | assumption | omega | decide | exact Or.inl (by decide) | (intro h9; exact absurd h9 (by decide)) | (intro _; omega) | (intro _; assumption) | (intro _; decide))) wi_1440 wi_1442 wi_103 wi_131 wi_1443 rfl rfl rfl ⟨rfl, by decide +kernel⟩ ⟨Nat.le_of_ble_eq_true rfl, Nat.le_of_ble_eq_true rfl⟩ rfl hl.1 rfl (Nat.le_of_ble_eq_true rfl) dX9_judge_79 ⟨Nat.le_of_ble_eq_true rfl, Nat.le_of_ble_eq_true rfl⟩) hP hD hS hA [2, 3, 1] [0, 4, 5, 6] rfl rfl (by decide) (by decide) (fun u_18 H locs hwr_19 hP hD hS => ?_)
          obtain ⟨hP, hD⟩ : PD D A [(sw_in cT (g 11) 4 a11), (sw_in cT (g 4) 6 u_13.2.2.2), (sw_in cT (g 12) 4 a12), (sw_lo cT (g 13) 160 a13), (sw_9 h0 g 0 b5 b6 b7 b8 b9 b10 b11 b12 b13 b14 u_13.1 u_13.2.1 b19 b23 b24 b25 b26 b27 b29 b31 b32 b33), (sw_in cT (g 0) 288 u_18), (sw_in cT (g 5) 960 u_11)] _ := ⟨hP, hD⟩
          have qr_19_0 : PI 288 u_18 := hwr_19.1
          have qr_19_1 : AG (96 * 0) u_18 u_11 u_13.2.2.1 := by have h7 := hwr_19.2.1; simp only [show ((0 : Int32)).toInt = 0 from by decide] at h7; exact h7
          have kag_r_19 : KR u_18 a0 := KR_ag qr_19_1 kqr_14_1 (by assumption)
          refine lv_iload_n hx hb dX9_judge_82 rfl (lv_at hl 4 rfl) ?_
          refine lv_if_ne (tgt := 101) hx hb dX9_judge_83 (by decide) (fun c_20 => ?_) (fun c_20 => ?_)
          · have ic_20 : ¬ y.toInt = 0 := ine c_20 (rfl) (by decide)
            refine lv_iload_n hx hb dX9_judge_101 rfl (lv_at hl 4 rfl) ?_
            refine lv_iconst (v := 1) hx hb dX9_judge_102 (by decide) ?_
            refine lv_icmp_ne (tgt := 113) hx hb dX9_judge_103 (by decide) (fun c_21 => ?_) (fun c_21 => ?_)
            · have ic_21 : ¬ y.toInt = 1 := ine c_21 (rfl) (by decide)
              refine lv_iload_n hx hb dX9_judge_113 rfl (lv_at hl 4 rfl) ?_
              refine lv_iconst (v := 2) hx hb dX9_judge_114 (by decide) ?_
              refine lv_icmp_ne (tgt := 125) hx hb dX9_judge_115 (by decide) (fun c_22 => ?_) (fun c_22 => ?_)
              · have ic_22 : ¬ y.toInt = 2 := ine c_22 (rfl) (by decide)
                refine lv_iload hx hb dX9_judge_125 (lv_at hl 0 rfl) ?_
                exact x_iret hx hb hr hlk hP hD hS [4, 5, 1, 6, 0, 2, 3] ((0, u_13.1, u_13.2.1, u_18, u_13.2.2.2, u_11)) rfl (by decide) ⟨by (try dsimp only); first | assumption | omega | decide | exact Or.inl (by decide) | (intro h9; exact absurd h9 (by decide)) | (intro _; omega) | (intro _; assumption) | (intro _; decide), by (try dsimp only); first | assumption | exact KR_rfl _, by (try dsimp only); first | assumption | omega | decide | exact Or.inl (by decide) | (intro h9; exact absurd h9 (by decide)) | (intro _; omega) | (intro _; assumption) | (intro _; decide), trivial⟩ (by decide) (by decide) dX9_judge_127
              · have ic_22 : y.toInt = 2 := ieq c_22 (rfl) (by decide)
                refine lv_aload_n hx hb dX9_judge_118 rfl (lv_at hl 2 rfl) ?_
                refine va_get (D := D) (ci := 9) (v := .int u_13.2.1) (C := RX9) (T := TX9) (N := 37) hx hb htg gRX9 hown hK hP 4 rfl rfl 18 (by decide) (htg _ wi_1168) (fun _ h9 => h9) rfl dX9_judge_119 ?_
                refine lv_goto (tgt := 127) hx hb dX9_judge_122 (by decide) ?_
                exact x_iret hx hb hr hlk hP hD hS [4, 5, 1, 6, 0, 2, 3] ((0, u_13.1, u_13.2.1, u_18, u_13.2.2.2, u_11)) rfl (by decide) ⟨by (try dsimp only); first | assumption | omega | decide | exact Or.inl (by decide) | (intro h9; exact absurd h9 (by decide)) | (intro _; omega) | (intro _; assumption) | (intro _; decide), by (try dsimp only); first | assumption | exact KR_rfl _, by (try dsimp only); first | assumption | omega | decide | exact Or.inl (by decide) | (intro h9; exact absurd h9 (by decide)) | (intro _; omega) | (intro _; assumption) | (intro _; decide), trivial⟩ (by decide) (by decide) dX9_judge_127
            · have ic_21 : y.toInt = 1 := ieq c_21 (rfl) (by decide)
              refine lv_aload_n hx hb dX9_judge_106 rfl (lv_at hl 2 rfl) ?_
              refine va_get (D := D) (ci := 9) (v := .int u_13.1) (C := RX9) (T := TX9) (N := 37) hx hb htg gRX9 hown hK hP 4 rfl rfl 17 (by decide) (htg _ wi_1167) (fun _ h9 => h9) rfl dX9_judge_107 ?_
              refine lv_goto (tgt := 127) hx hb dX9_judge_110 (by decide) ?_
              exact x_iret hx hb hr hlk hP hD hS [4, 5, 1, 6, 0, 2, 3] ((0, u_13.1, u_13.2.1, u_18, u_13.2.2.2, u_11)) rfl (by decide) ⟨by (try dsimp only); first | assumption | omega | decide | exact Or.inl (by decide) | (intro h9; exact absurd h9 (by decide)) | (intro _; omega) | (intro _; assumption) | (intro _; decide), by (try dsimp only); first | assumption | exact KR_rfl _, by (try dsimp only); first | assumption | omega | decide | exact Or.inl (by decide) | (intro h9; exact absurd h9 (by decide)) | (intro _; omega) | (intro _; assumption) | (intro _; decide), trivial⟩ (by decide) (by decide) dX9_judge_127
          · have ic_20 : y.toInt = 0 := ieq c_20 (rfl) (by decide)
            refine lv_aload_n hx hb dX9_judge_86 rfl (lv_at hl 2 rfl) ?_
            refine va_get (D := D) (ci := 9) (v := .int u_13.1) (C := RX9) (T := TX9) (N := 37) hx hb htg gRX9 hown hK hP 4 rfl rfl 17 (by decide) (htg _ wi_1167) (fun _ h9 => h9) rfl dX9_judge_87 ?_
            refine lv_if_ne (tgt := 97) hx hb dX9_judge_90 (by decide) (fun c_23 => ?_) (fun c_23 => ?_)
            · have ic_23 : ¬ (u_13.1).toInt = 0 := ine c_23 (rfl) (by decide)
              refine lv_iload_n hx hb dX9_judge_97 rfl (lv_at hl 1 rfl) ?_
              refine lv_goto (tgt := 127) hx hb dX9_judge_98 (by decide) ?_
              exact x_iret hx hb hr hlk hP hD hS [4, 5, 1, 6, 0, 2, 3] ((0, u_13.1, u_13.2.1, u_18, u_13.2.2.2, u_11)) rfl (by decide) ⟨by (try dsimp only); first | assumption | omega | decide | exact Or.inl (by decide) | (intro h9; exact absurd h9 (by decide)) | (intro _; omega) | (intro _; assumption) | (intro _; decide), by (try dsimp only); first | assumption | exact KR_rfl _, by (try dsimp only); first | assumption | omega | decide | exact Or.inl (by decide) | (intro h9; exact absurd h9 (by decide)) | (intro _; omega) | (intro _; assumption) | (intro _; decide), trivial⟩ (by decide) (by decide) dX9_judge_127
            · have ic_23 : (u_13.1).toInt = 0 := ieq c_23 (rfl) (by decide)
              refine lv_iconst (v := (-1)) hx hb dX9_judge_93 (by decide) ?_
              refine lv_goto (tgt := 127) hx hb dX9_judge_94 (by decide) ?_
              exact x_iret hx hb hr hlk hP hD hS [4, 5, 1, 6, 0, 2, 3] ((0, u_13.1, u_13.2.1, u_18, u_13.2.2.2, u_11)) rfl (by decide) ⟨by (try dsimp only); first | assumption | omega | decide | exact Or.inl (by decide) | (intro h9; exact absurd h9 (by decide)) | (intro _; omega) | (intro _; assumption) | (intro _; decide), by (try dsimp only); first | assumption | exact KR_rfl _, by (try dsimp only); first | assumption | omega | decide | exact Or.inl (by decide) | (intro h9; exact absurd h9 (by decide)) | (intro _; omega) | (intro _; assumption) | (intro _; decide), trivial⟩ (by decide) (by decide) dX9_judge_127
        · have ic_16 : z_15.toInt = 0 := ieq c_16 (rfl) (by decide)
          refine lv_iconst (v := (-1)) hx hb dX9_judge_65 (by decide) ?_
          refine lv_goto (tgt := 75) hx hb dX9_judge_66 (by decide) ?_
          refine lv_istore (lv' := [(4, .int (-1)), (3, .int r_14), (0, .ref h0), (1, .int x), (2, .int y)]) hx hb dX9_judge_75 hl (by decide) rfl (fun ls hl => ?_)
          refine lv_aload_n hx hb dX9_judge_77 rfl (lv_at hl 2 rfl) ?_
          refine lv_iconst (v := 0) hx hb dX9_judge_78 (by decide) ?_
          refine xk_v (wr := [(sw_in cT (g 11) 4 a11), (sw_in cT (g 4) 6 u_13.2.2.2), (sw_in cT (g 12) 4 a12), (sw_lo cT (g 13) 160 a13)]) (xr_V (n := 1) (As := [.int 0]) (rest := []) ⟨hx, hb, hml, hown, htg⟩ hK hN hP hD hS hA [2, 3, 1] rfl (by decide) (m_isAgainK l D cT _ (h0) (g) (0) (b5) (b6) (b7) (b8) (b9) (b10) (b11) (b12) (b13) (b14) (u_13.1) (u_13.2.1) (b19) (b23) (b24) (b25) (b26) (b27) (b29) (b31) (b32) (b33) (by first | assumption | omega | decide | exact Or.inl (by decide) | (intro h9; exact absurd h9 (by decide)) | (intro _; omega) | (intro _; assumption) | (intro _; decide)) (u_13.2.2.1) (by first | assumption | omega | decide | exact Or.inl (by decide) | (intro h9; exact absurd h9 (by decide)) | (intro _; omega) | (intro _; assumption) | (intro _; decide)) (u_11) (by first | assumption | omega | decide | exact Or.inl (by decide) | (intro h9; exact absurd h9 (by decide)) | (intro _; omega) | (intro _; assumption) | (intro _; decide)) (0) (by first | assumption | omega | decide | exact Or.inl (by decide) | (intro h9; exact absurd h9 (by decide)) | (intro _; omega) | (intro _; assumption) | (intro _; decide))) wi_1440 wi_1442 wi_103 wi_131 wi_1443 rfl rfl rfl ⟨rfl, by decide +kernel⟩ ⟨Nat.le_of_ble_eq_true rfl, Nat.le_of_ble_eq_true rfl⟩ rfl hl.1 rfl (Nat.le_of_ble_eq_true rfl) dX9_judge_79 ⟨Nat.le_of_ble_eq_true rfl, Nat.le_of_ble_eq_true rfl⟩) hP hD hS hA [2, 3, 1] [0, 4, 5, 6] rfl rfl (by decide) (by decide) (fun u_24 H locs hwr_25 hP hD hS => ?_)
          obtain ⟨hP, hD⟩ : PD D A [(sw_in cT (g 11) 4 a11), (sw_in cT (g 4) 6 u_13.2.2.2), (sw_in cT (g 12) 4 a12), (sw_lo cT (g 13) 160 a13), (sw_9 h0 g 0 b5 b6 b7 b8 b9 b10 b11 b12 b13 b14 u_13.1 u_13.2.1 b19 b23 b24 b25 b26 b27 b29 b31 b32 b33), (sw_in cT (g 0) 288 u_24), (sw_in cT (g 5) 960 u_11)] _ := ⟨hP, hD⟩
          have qr_25_0 : PI 288 u_24 := hwr_25.1
          have qr_25_1 : AG (96 * 0) u_24 u_11 u_13.2.2.1 := by have h7 := hwr_25.2.1; simp only [show ((0 : Int32)).toInt = 0 from by decide] at h7; exact h7
          have kag_r_25 : KR u_24 a0 := KR_ag qr_25_1 kqr_14_1 (by assumption)
          refine lv_iload_n hx hb dX9_judge_82 rfl (lv_at hl 4 rfl) ?_
          refine lv_if_ne (tgt := 101) hx hb dX9_judge_83 (by decide) (fun c_26 => ?_) (fun c_26 => ?_)
          · have ic_26 : ¬ y.toInt = 0 := ine c_26 (rfl) (by decide)
            refine lv_iload_n hx hb dX9_judge_101 rfl (lv_at hl 4 rfl) ?_
            refine lv_iconst (v := 1) hx hb dX9_judge_102 (by decide) ?_
            refine lv_icmp_ne (tgt := 113) hx hb dX9_judge_103 (by decide) (fun c_27 => ?_) (fun c_27 => ?_)
            · have ic_27 : ¬ y.toInt = 1 := ine c_27 (rfl) (by decide)
              refine lv_iload_n hx hb dX9_judge_113 rfl (lv_at hl 4 rfl) ?_
              refine lv_iconst (v := 2) hx hb dX9_judge_114 (by decide) ?_
              refine lv_icmp_ne (tgt := 125) hx hb dX9_judge_115 (by decide) (fun c_28 => ?_) (fun c_28 => ?_)
              · have ic_28 : ¬ y.toInt = 2 := ine c_28 (rfl) (by decide)
                refine lv_iload hx hb dX9_judge_125 (lv_at hl 0 rfl) ?_
                exact x_iret hx hb hr hlk hP hD hS [4, 5, 1, 6, 0, 2, 3] ((0, u_13.1, u_13.2.1, u_24, u_13.2.2.2, u_11)) rfl (by decide) ⟨by (try dsimp only); first | assumption | omega | decide | exact Or.inl (by decide) | (intro h9; exact absurd h9 (by decide)) | (intro _; omega) | (intro _; assumption) | (intro _; decide), by (try dsimp only); first | assumption | exact KR_rfl _, by (try dsimp only); first | assumption | omega | decide | exact Or.inl (by decide) | (intro h9; exact absurd h9 (by decide)) | (intro _; omega) | (intro _; assumption) | (intro _; decide), trivial⟩ (by decide) (by decide) dX9_judge_127
              · have ic_28 : y.toInt = 2 := ieq c_28 (rfl) (by decide)
                refine lv_aload_n hx hb dX9_judge_118 rfl (lv_at hl 2 rfl) ?_
                refine va_get (D := D) (ci := 9) (v := .int u_13.2.1) (C := RX9) (T := TX9) (N := 37) hx hb htg gRX9 hown hK hP 4 rfl rfl 18 (by decide) (htg _ wi_1168) (fun _ h9 => h9) rfl dX9_judge_119 ?_
                refine lv_goto (tgt := 127) hx hb dX9_judge_122 (by decide) ?_
                exact x_iret hx hb hr hlk hP hD hS [4, 5, 1, 6, 0, 2, 3] ((0, u_13.1, u_13.2.1, u_24, u_13.2.2.2, u_11)) rfl (by decide) ⟨by (try dsimp only); first | assumption | omega | decide | exact Or.inl (by decide) | (intro h9; exact absurd h9 (by decide)) | (intro _; omega) | (intro _; assumption) | (intro _; decide), by (try dsimp only); first | assumption | exact KR_rfl _, by (try dsimp only); first | assumption | omega | decide | exact Or.inl (by decide) | (intro h9; exact absurd h9 (by decide)) | (intro _; omega) | (intro _; assumption) | (intro _; decide), trivial⟩ (by decide) (by decide) dX9_judge_127
            · have ic_27 : y.toInt = 1 := ieq c_27 (rfl) (by decide)
              refine lv_aload_n hx hb dX9_judge_106 rfl (lv_at hl 2 rfl) ?_
              refine va_get (D := D) (ci := 9) (v := .int u_13.1) (C := RX9) (T := TX9) (N := 37) hx hb htg gRX9 hown hK hP 4 rfl rfl 17 (by decide) (htg _ wi_1167) (fun _ h9 => h9) rfl dX9_judge_107 ?_
              refine lv_goto (tgt := 127) hx hb dX9_judge_110 (by decide) ?_
              exact x_iret hx hb hr hlk hP hD hS [4, 5, 1, 6, 0, 2, 3] ((0, u_13.1, u_13.2.1, u_24, u_13.2.2.2, u_11)) rfl (by decide) ⟨by (try dsimp only); first | assumption | omega | decide | exact Or.inl (by decide) | (intro h9; exact absurd h9 (by decide)) | (intro _; omega) | (intro _; assumption) | (intro _; decide), by (try dsimp only); first | assumption | exact KR_rfl _, by (try dsimp only); first | assumption | omega | decide | exact Or.inl (by decide) | (intro h9; exact absurd h9 (by decide)) | (intro _; omega) | (intro _; assumption) | (intro _; decide), trivial⟩ (by decide) (by decide) dX9_judge_127
          · have ic_26 : y.toInt = 0 := ieq c_26 (rfl) (by decide)
            refine lv_aload_n hx hb dX9_judge_86 rfl (lv_at hl 2 rfl) ?_
            refine va_get (D := D) (ci := 9) (v := .int u_13.1) (C := RX9) (T := TX9) (N := 37) hx hb htg gRX9 hown hK hP 4 rfl rfl 17 (by decide) (htg _ wi_1167) (fun _ h9 => h9) rfl dX9_judge_87 ?_
            refine lv_if_ne (tgt := 97) hx hb dX9_judge_90 (by decide) (fun c_29 => ?_) (fun c_29 => ?_)
            · have ic_29 : ¬ (u_13.1).toInt = 0 := ine c_29 (rfl) (by decide)
              refine lv_iload_n hx hb dX9_judge_97 rfl (lv_at hl 1 rfl) ?_
              refine lv_goto (tgt := 127) hx hb dX9_judge_98 (by decide) ?_
              exact x_iret hx hb hr hlk hP hD hS [4, 5, 1, 6, 0, 2, 3] ((0, u_13.1, u_13.2.1, u_24, u_13.2.2.2, u_11)) rfl (by decide) ⟨by (try dsimp only); first | assumption | omega | decide | exact Or.inl (by decide) | (intro h9; exact absurd h9 (by decide)) | (intro _; omega) | (intro _; assumption) | (intro _; decide), by (try dsimp only); first | assumption | exact KR_rfl _, by (try dsimp only); first | assumption | omega | decide | exact Or.inl (by decide) | (intro h9; exact absurd h9 (by decide)) | (intro _; omega) | (intro _; assumption) | (intro _; decide), trivial⟩ (by decide) (by decide) dX9_judge_127
            · have ic_29 : (u_13.1).toInt = 0 := ieq c_29 (rfl) (by decide)
              refine lv_iconst (v := (-1)) hx hb dX9_judge_93 (by decide) ?_
              refine lv_goto (tgt := 127) hx hb dX9_judge_94 (by decide) ?_
              exact x_iret hx hb hr hlk hP hD hS [4, 5, 1, 6, 0, 2, 3] ((0, u_13.1, u_13.2.1, u_24, u_13.2.2.2, u_11)) rfl (by decide) ⟨by (try dsimp only); first | assumption | omega | decide | exact Or.inl (by decide) | (intro h9; exact absurd h9 (by decide)) | (intro _; omega) | (intro _; assumption) | (intro _; decide), by (try dsimp only); first | assumption | exact KR_rfl _, by (try dsimp only); first | assumption | omega | decide | exact Or.inl (by decide) | (intro h9; exact absurd h9 (by decide)) | (intro _; omega) | (intro _; assumption) | (intro _; decide), trivial⟩ (by decide) (by decide) dX9_judge_127
      · have ic_10 : z_9.toInt = (-1) := ieq c_10 (rfl) (by decide)
        refine lv_bipush (v := (-6)) hx hb dX9_judge_42 (by decide) ?_
        exact x_iret hx hb hr hlk hP hD hS [0, 1, 2, 3, 4, 5, 6] ((0, b17, b18, a0, a4, a5)) rfl (by decide) ⟨by (try dsimp only); first | assumption | omega | decide | exact Or.inl (by decide) | (intro h9; exact absurd h9 (by decide)) | (intro _; omega) | (intro _; assumption) | (intro _; decide), by (try dsimp only); first | assumption | exact KR_rfl _, by (try dsimp only); first | assumption | omega | decide | exact Or.inl (by decide) | (intro h9; exact absurd h9 (by decide)) | (intro _; omega) | (intro _; assumption) | (intro _; decide), trivial⟩ (by decide) (by decide) dX9_judge_44
    · have ic_8 : r_7.toInt = 0 := ieq c_8 (rfl) (by decide)
      refine lv_bipush (v := (-2)) hx hb dX9_judge_29 (by decide) ?_
      exact x_iret hx hb hr hlk hP hD hS [0, 1, 2, 3, 4, 5, 6] ((0, b17, b18, a0, a4, a5)) rfl (by decide) ⟨by (try dsimp only); first | assumption | omega | decide | exact Or.inl (by decide) | (intro h9; exact absurd h9 (by decide)) | (intro _; omega) | (intro _; assumption) | (intro _; decide), by (try dsimp only); first | assumption | exact KR_rfl _, by (try dsimp only); first | assumption | omega | decide | exact Or.inl (by decide) | (intro h9; exact absurd h9 (by decide)) | (intro _; omega) | (intro _; assumption) | (intro _; decide), trivial⟩ (by decide) (by decide) dX9_judge_31
