set_option maxHeartbeats 4000000 in
set_option maxRecDepth 100000 in
theorem m_felledK (l : Launch) (D : va_G) (cT : Nat → ClassId) (sz : Nat) (h0 : Nat) (g : Nat → Nat) (b0 : Int32) (b5 : Int32) (b6 : Int32) (b7 : Int32) (b8 : Int32) (b9 : Int32) (b10 : Int32) (b11 : Int32) (b12 : Int32) (b13 : Int32) (b14 : Int32) (b17 : Int32) (b18 : Int32) (b19 : Int32) (b23 : Int32) (b24 : Int32) (b25 : Int32) (b26 : Int32) (b27 : Int32) (b29 : Int32) (b31 : Int32) (b32 : Int32) (b33 : Int32) (hb5 : 0 ≤ b5.toInt ∧ b5.toInt ≤ 900) (a0 : Nat → Int32) (pa0 : PI 288 a0) (a4 : Nat → Int32) (a5 : Nat → Int32) (pa5 : PI 960 a5) (a6 : Nat → Int32) (a7 : Nat → Int32) (a8 : Nat → Int32) (x : Int32) (y : Int32) : Met l yX9_felled (wsc yX9_felled cX9_felled 9 (some .int)) { frames := 16, cells := 0, slots := 0, locals := 465 } (va_Pc [.ref h0, .int x, .int y] (PX D cT sz [(sw_9 h0 g b0 b5 b6 b7 b8 b9 b10 b11 b12 b13 b14 b17 b18 b19 b23 b24 b25 b26 b27 b29 b31 b32 b33), (sw_in cT (g 0) 288 a0), (sw_in cT (g 4) 6 a4), (sw_in cT (g 5) 960 a5), (sw_in cT (g 6) 8 a6), (sw_in cT (g 7) 8 a7), (sw_in cT (g 8) 6 a8)])) (va_Qi (fun (r : Int32) (u : Int32 × Int32 × Int32 × Int32 × Int32 × Int32 × (Nat → Int32) × (Nat → Int32) × (Nat → Int32) × (Nat → Int32) × (Nat → Int32) × (Nat → Int32)) => (PI 288 u.2.2.2.2.2.2.1) ∧ (KR u.2.2.2.2.2.2.1 a0) ∧ (PI 960 u.2.2.2.2.2.2.2.2.1) ∧ (True)) (fun u t => RW D (va_A [(sw_9 h0 g b0 b5 b6 b7 b8 b9 b10 b11 b12 b13 b14 b17 b18 b19 b23 b24 b25 b26 b27 b29 b31 b32 b33), (sw_in cT (g 0) 288 a0), (sw_in cT (g 4) 6 a4), (sw_in cT (g 5) 960 a5), (sw_in cT (g 6) 8 a6), (sw_in cT (g 7) 8 a7), (sw_in cT (g 8) 6 a8)] sz) ((fun u : Int32 × Int32 × Int32 × Int32 × Int32 × Int32 × (Nat → Int32) × (Nat → Int32) × (Nat → Int32) × (Nat → Int32) × (Nat → Int32) × (Nat → Int32) => [(sw_9 h0 g u.1 b5 b6 b7 b8 b9 b10 b11 b12 b13 b14 b17 b18 b19 u.2.1 u.2.2.1 u.2.2.2.1 u.2.2.2.2.1 u.2.2.2.2.2.1 b29 b31 b32 b33), (sw_in cT (g 0) 288 u.2.2.2.2.2.2.1), (sw_in cT (g 4) 6 u.2.2.2.2.2.2.2.1), (sw_in cT (g 5) 960 u.2.2.2.2.2.2.2.2.1), (sw_in cT (g 6) 8 u.2.2.2.2.2.2.2.2.2.1), (sw_in cT (g 7) 8 u.2.2.2.2.2.2.2.2.2.2.1), (sw_in cT (g 8) 6 u.2.2.2.2.2.2.2.2.2.2.2)]) u) t) (va_A [(sw_9 h0 g b0 b5 b6 b7 b8 b9 b10 b11 b12 b13 b14 b17 b18 b19 b23 b24 b25 b26 b27 b29 b31 b32 b33), (sw_in cT (g 0) 288 a0), (sw_in cT (g 4) 6 a4), (sw_in cT (g 5) 960 a5), (sw_in cT (g 6) 8 a6), (sw_in cT (g 7) 8 a7), (sw_in cT (g 8) 6 a8)] sz)) 0 0 (va_A [(sw_9 h0 g b0 b5 b6 b7 b8 b9 b10 b11 b12 b13 b14 b17 b18 b19 b23 b24 b25 b26 b27 b29 b31 b32 b33), (sw_in cT (g 0) 288 a0), (sw_in cT (g 4) 6 a4), (sw_in cT (g 5) 960 a5), (sw_in cT (g 6) 8 a6), (sw_in cT (g 7) 8 a7), (sw_in cT (g 8) 6 a8)] sz) := by
  refine m_of (y := yX9_felled) (cc := cX9_felled) (nL := 9) (ret := (some .int)) (D := D) (cT := cT) (av := [.ref h0, .int x, .int y]) (wi := [(sw_9 h0 g b0 b5 b6 b7 b8 b9 b10 b11 b12 b13 b14 b17 b18 b19 b23 b24 b25 b26 b27 b29 b31 b32 b33), (sw_in cT (g 0) 288 a0), (sw_in cT (g 4) 6 a4), (sw_in cT (g 5) 960 a5), (sw_in cT (g 6) 8 a6), (sw_in cT (g 7) 8 a7), (sw_in cT (g 8) 6 a8)]) (fun A => va_Qi (fun (r : Int32) (u : Int32 × Int32 × Int32 × Int32 × Int32 × Int32 × (Nat → Int32) × (Nat → Int32) × (Nat → Int32) × (Nat → Int32) × (Nat → Int32) × (Nat → Int32)) => (PI 288 u.2.2.2.2.2.2.1) ∧ (KR u.2.2.2.2.2.2.1 a0) ∧ (PI 960 u.2.2.2.2.2.2.2.2.1) ∧ (True)) (fun u t => RW D A ((fun u : Int32 × Int32 × Int32 × Int32 × Int32 × Int32 × (Nat → Int32) × (Nat → Int32) × (Nat → Int32) × (Nat → Int32) × (Nat → Int32) × (Nat → Int32) => [(sw_9 h0 g u.1 b5 b6 b7 b8 b9 b10 b11 b12 b13 b14 b17 b18 b19 u.2.1 u.2.2.1 u.2.2.2.1 u.2.2.2.2.1 u.2.2.2.2.2.1 b29 b31 b32 b33), (sw_in cT (g 0) 288 u.2.2.2.2.2.2.1), (sw_in cT (g 4) 6 u.2.2.2.2.2.2.2.1), (sw_in cT (g 5) 960 u.2.2.2.2.2.2.2.2.1), (sw_in cT (g 6) 8 u.2.2.2.2.2.2.2.2.2.1), (sw_in cT (g 7) 8 u.2.2.2.2.2.2.2.2.2.2.1), (sw_in cT (g 8) 6 u.2.2.2.2.2.2.2.2.2.2.2)]) u) t) A) (by decide) (Nat.le_of_ble_eq_true rfl) ?_
  intro p e s m below meth c A hx hb hml hown htg hK hN hr hlk hnm hsz hP hD hS hA ls hl
  have hown : s.vm.findClass RX9 = some m.cls := hown
  have hl : lv_has ls 9 [(0, .ref h0), (1, .int x), (2, .int y)] := hl
  have tc_m5 : ((-5) : Int32).toInt = (-5) := by decide
  have tc_m3 : ((-3) : Int32).toInt = (-3) := by decide
  have tc_m2 : ((-2) : Int32).toInt = (-2) := by decide
  have tc_m1 : ((-1) : Int32).toInt = (-1) := by decide
  have tc_0 : (0 : Int32).toInt = 0 := by decide
  have tc_48 : (48 : Int32).toInt = 48 := by decide
  refine lv_aload_n hx hb dX9_felled_0 rfl (lv_at hl 0 rfl) ?_
  refine lv_iconst (v := 0) hx hb dX9_felled_1 (by decide) ?_
  refine va_put (D := D) (ci := 9) (v := .int 0) (ty := .int) (C := RX9) (T := TX9) (N := 37) hx hb htg gRX9 tyX9 tyX9_ok nmX9 hown hK hP hD hS 0 rfl rfl 0 (by decide) (htg _ wi_1150) (fun _ h9 => h9) rfl (by decide +kernel) rfl rfl (Nat.le_of_ble_eq_true rfl) dX9_felled_2 (fun H locs hP hD hS => ?_)
  obtain ⟨hP, hD⟩ : PD D A [(sw_9 h0 g 0 b5 b6 b7 b8 b9 b10 b11 b12 b13 b14 b17 b18 b19 b23 b24 b25 b26 b27 b29 b31 b32 b33), (sw_in cT (g 0) 288 a0), (sw_in cT (g 4) 6 a4), (sw_in cT (g 5) 960 a5), (sw_in cT (g 6) 8 a6), (sw_in cT (g 7) 8 a7), (sw_in cT (g 8) 6 a8)] _ := ⟨hP, hD⟩
  refine lv_iload_n hx hb dX9_felled_5 rfl (lv_at hl 2 rfl) ?_
  refine lv_i2l (v := y.toInt64) hx hb dX9_felled_6 rfl ?_
  refine lv_lconst (v := 0) hx hb dX9_felled_7 (by decide) ?_
  refine lv_lconst (v := 1) hx hb dX9_felled_8 (by decide) ?_
  have ilw_1 : (y.toInt64).toInt = y.toInt := i2l_i _
  refine xk_i (wr := [(sw_9 h0 g 0 b5 b6 b7 b8 b9 b10 b11 b12 b13 b14 b17 b18 b19 b23 b24 b25 b26 b27 b29 b31 b32 b33), (sw_in cT (g 0) 288 a0), (sw_in cT (g 4) 6 a4), (sw_in cT (g 5) 960 a5), (sw_in cT (g 6) 8 a6), (sw_in cT (g 7) 8 a7), (sw_in cT (g 8) 6 a8)]) (xr_S (n := 3) (As := [.long y.toInt64, .long 0, .long 1]) (rest := []) ⟨hx, hb, hml, hown, htg⟩ hK hN hP hD hS hA [] rfl (by decide) (m_within l D cT _ (y.toInt64) (0) (1) (y.toInt) (0) (1) (i2l_i _) (by decide) (by decide)) wi_1270 wi_1271 wi_131 wi_1272 ⟨rfl, by decide +kernel⟩ ⟨Nat.le_of_ble_eq_true rfl, Nat.le_of_ble_eq_true rfl⟩ rfl hl.1 rfl (Nat.le_of_ble_eq_true rfl) dX9_felled_9 ⟨Nat.le_of_ble_eq_true rfl, Nat.le_of_ble_eq_true rfl⟩) hP hD hS hA [] [0, 1, 2, 3, 4, 5, 6] rfl rfl (by decide) (by decide) (fun r_3 u_2 H locs hwr_3 hP hD hS => ?_)
  obtain ⟨hP, hD⟩ : PD D A [(sw_9 h0 g 0 b5 b6 b7 b8 b9 b10 b11 b12 b13 b14 b17 b18 b19 b23 b24 b25 b26 b27 b29 b31 b32 b33), (sw_in cT (g 0) 288 a0), (sw_in cT (g 4) 6 a4), (sw_in cT (g 5) 960 a5), (sw_in cT (g 6) 8 a6), (sw_in cT (g 7) 8 a7), (sw_in cT (g 8) 6 a8)] _ := ⟨hP, hD⟩
  have qr_3_0 : Imp (¬ r_3.toInt = 0) (0 ≤ y.toInt ∧ y.toInt ≤ 1) := hwr_3.1
  have qr_3_1 : r_3 = 0 ∨ r_3 = 1 := hwr_3.2.1
  refine lv_if_ne (tgt := 18) hx hb dX9_felled_12 (by decide) (fun c_4 => ?_) (fun c_4 => ?_)
  · have ic_4 : ¬ r_3.toInt = 0 := ine c_4 (rfl) (by decide)
    have kqr_3_0 : 0 ≤ y.toInt ∧ y.toInt ≤ 1 := qr_3_0 ic_4
    refine lv_iload_n hx hb dX9_felled_18 rfl (lv_at hl 1 rfl) ?_
    refine lv_i2l (v := x.toInt64) hx hb dX9_felled_19 rfl ?_
    refine lv_lconst (v := 1) hx hb dX9_felled_20 (by decide) ?_
    refine lv_ldc2 (v := 6) hx hb hown (htg _ wi_1522) dX9_felled_21 ?_
    have ilw_5 : (x.toInt64).toInt = x.toInt := i2l_i _
    refine xk_i (wr := [(sw_9 h0 g 0 b5 b6 b7 b8 b9 b10 b11 b12 b13 b14 b17 b18 b19 b23 b24 b25 b26 b27 b29 b31 b32 b33), (sw_in cT (g 0) 288 a0), (sw_in cT (g 4) 6 a4), (sw_in cT (g 5) 960 a5), (sw_in cT (g 6) 8 a6), (sw_in cT (g 7) 8 a7), (sw_in cT (g 8) 6 a8)]) (xr_S (n := 3) (As := [.long x.toInt64, .long 1, .long 6]) (rest := []) ⟨hx, hb, hml, hown, htg⟩ hK hN hP hD hS hA [] rfl (by decide) (m_within l D cT _ (x.toInt64) (1) (6) (x.toInt) (1) (6) (i2l_i _) (by decide) (by decide)) wi_1270 wi_1271 wi_131 wi_1272 ⟨rfl, by decide +kernel⟩ ⟨Nat.le_of_ble_eq_true rfl, Nat.le_of_ble_eq_true rfl⟩ rfl hl.1 rfl (Nat.le_of_ble_eq_true rfl) dX9_felled_24 ⟨Nat.le_of_ble_eq_true rfl, Nat.le_of_ble_eq_true rfl⟩) hP hD hS hA [] [0, 1, 2, 3, 4, 5, 6] rfl rfl (by decide) (by decide) (fun r_7 u_6 H locs hwr_7 hP hD hS => ?_)
    obtain ⟨hP, hD⟩ : PD D A [(sw_9 h0 g 0 b5 b6 b7 b8 b9 b10 b11 b12 b13 b14 b17 b18 b19 b23 b24 b25 b26 b27 b29 b31 b32 b33), (sw_in cT (g 0) 288 a0), (sw_in cT (g 4) 6 a4), (sw_in cT (g 5) 960 a5), (sw_in cT (g 6) 8 a6), (sw_in cT (g 7) 8 a7), (sw_in cT (g 8) 6 a8)] _ := ⟨hP, hD⟩
    have qr_7_0 : Imp (¬ r_7.toInt = 0) (1 ≤ x.toInt ∧ x.toInt ≤ 6) := hwr_7.1
    have qr_7_1 : r_7 = 0 ∨ r_7 = 1 := hwr_7.2.1
    refine lv_if_ne (tgt := 33) hx hb dX9_felled_27 (by decide) (fun c_8 => ?_) (fun c_8 => ?_)
    · have ic_8 : ¬ r_7.toInt = 0 := ine c_8 (rfl) (by decide)
      have kqr_7_0 : 1 ≤ x.toInt ∧ x.toInt ≤ 6 := qr_7_0 ic_8
      refine lv_aload_n hx hb dX9_felled_33 rfl (lv_at hl 0 rfl) ?_
      refine va_get (D := D) (ci := 9) (v := .ref (g 0)) (C := RX9) (T := TX9) (N := 37) hx hb htg gRX9 hown hK hP 0 rfl rfl 1 (by decide) (htg _ wi_1151) (fun _ h9 => h9) rfl dX9_felled_34 ?_
      refine lv_iconst (v := 0) hx hb dX9_felled_37 (by decide) ?_
      refine va_iald hx hb hK hP 1 0 rfl rfl (by unfold vp_in; decide) dX9_felled_38 ?_
      refine lv_topi (fun z_9 ez_9 => ?_)
      have iz_9 : 0 ≤ z_9.toInt ∧ z_9.toInt ≤ 16 := by rw [ez_9]; exact rd0 pa0 (by decide) rfl
      have nz_9 : z_9.toInt = ((a0) 0).toInt := by rw [ez_9]; rfl
      refine lv_if_ne (tgt := 45) hx hb dX9_felled_39 (by decide) (fun c_10 => ?_) (fun c_10 => ?_)
      · have ic_10 : ¬ z_9.toInt = 0 := ine c_10 (rfl) (by decide)
        refine lv_aload_n hx hb dX9_felled_45 rfl (lv_at hl 0 rfl) ?_
        refine lv_iconst (v := 0) hx hb dX9_felled_46 (by decide) ?_
        refine lv_iconst (v := 0) hx hb dX9_felled_47 (by decide) ?_
        refine lv_iload_n hx hb dX9_felled_48 rfl (lv_at hl 1 rfl) ?_
        refine xk_i (wr := []) (xr_V (n := 3) (As := [.int 0, .int 0, .int x]) (rest := []) ⟨hx, hb, hml, hown, htg⟩ hK hN hP hD hS hA [0, 1, 2, 3, 4, 5, 6] rfl (by decide) (m_laysBestK l D cT _ (h0) (g) (0) (b5) (b6) (b7) (b8) (b9) (b10) (b11) (b12) (b13) (b14) (b17) (b18) (b19) (b23) (b24) (b25) (b26) (b27) (b29) (b31) (b32) (b33) (by first | assumption | omega | decide | exact Or.inl (by decide) | (intro h9; exact absurd h9 (by decide)) | (intro _; omega) | (intro _; assumption) | (intro _; decide)) (a0) (by first | assumption | omega | decide | exact Or.inl (by decide) | (intro h9; exact absurd h9 (by decide)) | (intro _; omega) | (intro _; assumption) | (intro _; decide)) (a4) (a5) (by first | assumption | omega | decide | exact Or.inl (by decide) | (intro h9; exact absurd h9 (by decide)) | (intro _; omega) | (intro _; assumption) | (intro _; decide)) (a6) (a7) (a8) (0) (0) (x) (by first | assumption | omega | decide | exact Or.inl (by decide) | (intro h9; exact absurd h9 (by decide)) | (intro _; omega) | (intro _; assumption) | (intro _; decide)) (by first | assumption | omega | decide | exact Or.inl (by decide) | (intro h9; exact absurd h9 (by decide)) | (intro _; omega) | (intro _; assumption) | (intro _; decide))) wi_1478 wi_1480 wi_106 wi_131 wi_1481 rfl rfl rfl ⟨rfl, by decide +kernel⟩ ⟨Nat.le_of_ble_eq_true rfl, Nat.le_of_ble_eq_true rfl⟩ rfl hl.1 rfl (Nat.le_of_ble_eq_true rfl) dX9_felled_49 ⟨Nat.le_of_ble_eq_true rfl, Nat.le_of_ble_eq_true rfl⟩) hP hD hS hA [0, 1, 2, 3, 4, 5, 6] [] rfl rfl (by decide) (by decide) (fun r_12 u_11 H locs hwr_12 hP hD hS => ?_)
        obtain ⟨hP, hD⟩ : PD D A [(sw_9 h0 g 0 b5 b6 b7 b8 b9 b10 b11 b12 b13 b14 b17 b18 b19 u_11.1 u_11.2.1 u_11.2.2.1 u_11.2.2.2.1 u_11.2.2.2.2.1 b29 b31 b32 b33), (sw_in cT (g 0) 288 u_11.2.2.2.2.2.1), (sw_in cT (g 4) 6 u_11.2.2.2.2.2.2.1), (sw_in cT (g 5) 960 u_11.2.2.2.2.2.2.2.1), (sw_in cT (g 6) 8 u_11.2.2.2.2.2.2.2.2.1), (sw_in cT (g 7) 8 u_11.2.2.2.2.2.2.2.2.2.1), (sw_in cT (g 8) 6 u_11.2.2.2.2.2.2.2.2.2.2)] _ := ⟨hP, hD⟩
        have qr_12_0 : PI 288 u_11.2.2.2.2.2.1 := hwr_12.1
        have qr_12_1 : KR u_11.2.2.2.2.2.1 a0 := hwr_12.2.1
        have kqr_12_1 : KR u_11.2.2.2.2.2.1 (a0) := KR_tr qr_12_1 (KR_rfl a0)
        have qr_12_2 : PI 960 u_11.2.2.2.2.2.2.2.1 := hwr_12.2.2.1
        refine lv_istore_n (lv' := [(3, .int r_12), (0, .ref h0), (1, .int x), (2, .int y)]) hx hb dX9_felled_52 rfl hl (by decide) rfl (fun ls hl => ?_)
        refine lv_iconst (v := 0) hx hb dX9_felled_53 (by decide) ?_
        refine lv_istore (lv' := [(4, .int 0), (3, .int r_12), (0, .ref h0), (1, .int x), (2, .int y)]) hx hb dX9_felled_54 hl (by decide) rfl (fun ls hl => ?_)
        refine lv_iconst (v := (-1)) hx hb dX9_felled_56 (by decide) ?_
        refine lv_istore (lv' := [(5, .int (-1)), (4, .int 0), (3, .int r_12), (0, .ref h0), (1, .int x), (2, .int y)]) hx hb dX9_felled_57 hl (by decide) rfl (fun ls hl => ?_)
        refine lv_iconst (v := 0) hx hb dX9_felled_59 (by decide) ?_
        refine lv_istore (lv' := [(6, .int 0), (5, .int (-1)), (4, .int 0), (3, .int r_12), (0, .ref h0), (1, .int x), (2, .int y)]) hx hb dX9_felled_60 hl (by decide) rfl (fun ls hl => ?_)
        refine (fun (key : ∀ (n9_62 : Nat) (k9_62 : Nat) (x9_62_5 : Int32) (x9_62_4 : Int32) (f9_62_2 : Nat → Int32) (f9_62_3 : Nat → Int32) (f9_62_4 : Nat → Int32) (f9_62_5 : Nat → Int32) (f9_62_6 : Nat → Int32) (f9_62_7 : Nat → Int32) (v9_62_8 : Int32) (v9_62_9 : Int32) (v9_62_10 : Int32) (v9_62_11 : Int32) (v9_62_12 : Int32) (H : Heap) (locs : List Loc) (ls : Array Slot), (k9_62 : Int) ≤ 16 → 16 < (k9_62 : Int) + n9_62 → PI 288 f9_62_2 → PI 960 f9_62_4 → KR f9_62_2 (a0) → PD D A [(sw_9 h0 g 0 b5 b6 b7 b8 b9 b10 b11 b12 b13 b14 b17 b18 b19 v9_62_8 v9_62_9 v9_62_10 v9_62_11 v9_62_12 b29 b31 b32 b33), (sw_in cT (g 0) 288 f9_62_2), (sw_in cT (g 4) 6 f9_62_3), (sw_in cT (g 5) 960 f9_62_4), (sw_in cT (g 6) 8 f9_62_5), (sw_in cT (g 7) 8 f9_62_6), (sw_in cT (g 8) 6 f9_62_7)] H → va_S A s.heap H locs → lv_has ls 9 [(6, .int (nI k9_62)), (5, .int x9_62_5), (4, .int x9_62_4), (3, .int r_12), (0, .ref h0), (1, .int x), (2, .int y)] → W p l e _ s m _ below meth c H locs _ _ _ (F0 m 62 ls [])) => key (Int.toNat (16 - 0) + 1) 0 _ _ _ _ _ _ _ _ _ _ _ _ _ _ _ _ (by omega) (by omega) (by first | assumption | omega | decide | (simp only [ti_0, ti_1, ti_2, ti_3, ti_4, ti_5, ti_6, ti_7, ti_8, ti_9, ti_10, ti_11, ti_12, ti_m1]; omega)) (by first | assumption | omega | decide | (simp only [ti_0, ti_1, ti_2, ti_3, ti_4, ti_5, ti_6, ti_7, ti_8, ti_9, ti_10, ti_11, ti_12, ti_m1]; omega)) (by first | assumption | exact KR_rfl _) ⟨hP, hD⟩ hS (lv_sub hl [0, 1, 2, 3, 4, 5, 6] rfl)) ?_
        intro n9_62
        induction n9_62 with
        | zero => intro k9_62 x9_62_5 x9_62_4 f9_62_2 f9_62_3 f9_62_4 f9_62_5 f9_62_6 f9_62_7 v9_62_8 v9_62_9 v9_62_10 v9_62_11 v9_62_12 H locs ls hq1 hq2; exact absurd hq2 (by omega)
        | succ n9_62 ih_62 =>
          intro k9_62 x9_62_5 x9_62_4 f9_62_2 f9_62_3 f9_62_4 f9_62_5 f9_62_6 f9_62_7 v9_62_8 v9_62_9 v9_62_10 v9_62_11 v9_62_12 H locs ls hq1_62 hq2_62 h9_62_0 h9_62_1 h9_62_2 hPD hS hl
          obtain ⟨hP, hD⟩ := hPD
          have hk9_62 : (nI k9_62).toInt = (k9_62 : Int) := nI_toInt (by omega)
          refine lv_iload hx hb dX9_felled_62 (lv_at hl 0 rfl) ?_
          refine lv_aload_n hx hb dX9_felled_64 rfl (lv_at hl 4 rfl) ?_
          refine va_get (D := D) (ci := 9) (v := .ref (g 0)) (C := RX9) (T := TX9) (N := 37) hx hb htg gRX9 hown hK hP 0 rfl rfl 1 (by decide) (htg _ wi_1151) (fun _ h9 => h9) rfl dX9_felled_65 ?_
          refine lv_iconst (v := 0) hx hb dX9_felled_68 (by decide) ?_
          refine va_iald hx hb hK hP 1 0 rfl rfl (by unfold vp_in; decide) dX9_felled_69 ?_
          refine lv_topi (fun z_13 ez_13 => ?_)
          have iz_13 : 0 ≤ z_13.toInt ∧ z_13.toInt ≤ 16 := by rw [ez_13]; exact rd0 h9_62_0 (by decide) rfl
          have nz_13 : z_13.toInt = ((f9_62_2) 0).toInt := by rw [ez_13]; rfl
          refine lv_icmp_ge (tgt := 151) hx hb dX9_felled_70 (by decide) (fun c_14 => ?_) (fun c_14 => ?_)
          · have ic_14 : z_13.toInt ≤ ((k9_62 : Nat) : Int) := ile c_14 (rfl) (nI_toInt (by omega))
            refine lv_iload_n hx hb dX9_felled_151 rfl (lv_at hl 6 rfl) ?_
            refine lv_if_ne (tgt := 160) hx hb dX9_felled_152 (by decide) (fun c_15 => ?_) (fun c_15 => ?_)
            · have ic_15 : ¬ y.toInt = 0 := ine c_15 (rfl) (by decide)
              refine lv_iload hx hb dX9_felled_160 (lv_at hl 1 rfl) ?_
              exact x_iret hx hb hr hlk hP hD hS [0, 1, 2, 3, 4, 5, 6] ((0, v9_62_8, v9_62_9, v9_62_10, v9_62_11, v9_62_12, f9_62_2, f9_62_3, f9_62_4, f9_62_5, f9_62_6, f9_62_7)) rfl (by decide) ⟨by (try dsimp only); first | assumption | omega | decide | exact Or.inl (by decide) | (intro h9; exact absurd h9 (by decide)) | (intro _; omega) | (intro _; assumption) | (intro _; decide), by (try dsimp only); first | assumption | exact KR_rfl _, by (try dsimp only); first | assumption | omega | decide | exact Or.inl (by decide) | (intro h9; exact absurd h9 (by decide)) | (intro _; omega) | (intro _; assumption) | (intro _; decide), trivial⟩ (by decide) (by decide) dX9_felled_162
            · have ic_15 : y.toInt = 0 := ieq c_15 (rfl) (by decide)
              refine lv_iload hx hb dX9_felled_155 (lv_at hl 2 rfl) ?_
              refine lv_goto (tgt := 162) hx hb dX9_felled_157 (by decide) ?_
              exact x_iret hx hb hr hlk hP hD hS [0, 1, 2, 3, 4, 5, 6] ((0, v9_62_8, v9_62_9, v9_62_10, v9_62_11, v9_62_12, f9_62_2, f9_62_3, f9_62_4, f9_62_5, f9_62_6, f9_62_7)) rfl (by decide) ⟨by (try dsimp only); first | assumption | omega | decide | exact Or.inl (by decide) | (intro h9; exact absurd h9 (by decide)) | (intro _; omega) | (intro _; assumption) | (intro _; decide), by (try dsimp only); first | assumption | exact KR_rfl _, by (try dsimp only); first | assumption | omega | decide | exact Or.inl (by decide) | (intro h9; exact absurd h9 (by decide)) | (intro _; omega) | (intro _; assumption) | (intro _; decide), trivial⟩ (by decide) (by decide) dX9_felled_162
          · have ic_14 : ((k9_62 : Nat) : Int) < z_13.toInt := inle c_14 (rfl) (nI_toInt (by omega))
            refine lv_aload_n hx hb dX9_felled_73 rfl (lv_at hl 4 rfl) ?_
            refine va_get (D := D) (ci := 9) (v := .ref (g 0)) (C := RX9) (T := TX9) (N := 37) hx hb htg gRX9 hown hK hP 0 rfl rfl 1 (by decide) (htg _ wi_1151) (fun _ h9 => h9) rfl dX9_felled_74 ?_
            refine lv_bipush (v := 48) hx hb dX9_felled_77 (by decide) ?_
            refine lv_iload hx hb dX9_felled_79 (lv_at hl 0 rfl) ?_
            refine lv_iadd hx hb dX9_felled_81 ?_
            refine lv_is (y := nI (48 + k9_62)) (nI_add 48 (k9_62)) ?_
            refine va_iald hx hb hK hP 1 0 rfl rfl (vp_in_nI (by omega) (by omega)) dX9_felled_82 ?_
            refine lv_topi (fun z_16 ez_16 => ?_)
            refine lv_istore (lv' := [(7, .int z_16), (6, .int (nI k9_62)), (5, .int x9_62_5), (4, .int x9_62_4), (3, .int r_12), (0, .ref h0), (1, .int x), (2, .int y)]) hx hb dX9_felled_83 hl (by decide) rfl (fun ls hl => ?_)
            refine lv_iload hx hb dX9_felled_85 (lv_at hl 0 rfl) ?_
            refine lv_if_ne (tgt := 93) hx hb dX9_felled_87 (by decide) (fun c_17 => ?_) (fun c_17 => ?_)
            · have ic_17 : ¬ z_16.toInt = 0 := ine c_17 (rfl) (by decide)
              refine lv_aload_n hx hb dX9_felled_93 rfl (lv_at hl 5 rfl) ?_
              refine va_get (D := D) (ci := 9) (v := .ref (g 0)) (C := RX9) (T := TX9) (N := 37) hx hb htg gRX9 hown hK hP 0 rfl rfl 1 (by decide) (htg _ wi_1151) (fun _ h9 => h9) rfl dX9_felled_94 ?_
              refine lv_bipush (v := 48) hx hb dX9_felled_97 (by decide) ?_
              refine lv_iload hx hb dX9_felled_99 (lv_at hl 1 rfl) ?_
              refine lv_iadd hx hb dX9_felled_101 ?_
              refine lv_is (y := nI (48 + k9_62)) (nI_add 48 (k9_62)) ?_
              refine lv_iconst (v := 0) hx hb dX9_felled_102 (by decide) ?_
              refine va_iast hx hb hK hP hD hS 1 0 rfl rfl (vp_in_nI (by omega) (by omega)) dX9_felled_103 (fun H locs hP hD hS => ?_)
              obtain ⟨f_18, ef_18, hP, hD⟩ : ∃ f_18 : Nat → Int32, f_18 = upd (f9_62_2) ((nI (48 + k9_62)) : Int32).toNatClampNeg 0 ∧ PD D A [(sw_9 h0 g 0 b5 b6 b7 b8 b9 b10 b11 b12 b13 b14 b17 b18 b19 v9_62_8 v9_62_9 v9_62_10 v9_62_11 v9_62_12 b29 b31 b32 b33), (sw_in cT (g 0) 288 f_18), (sw_in cT (g 4) 6 f9_62_3), (sw_in cT (g 5) 960 f9_62_4), (sw_in cT (g 6) 8 f9_62_5), (sw_in cT (g 7) 8 f9_62_6), (sw_in cT (g 8) 6 f9_62_7)] H := ⟨_, rfl, hP, hD⟩
              have qf_18 : PI 288 f_18 := by rw [ef_18]; exact pi_upd (a := ((48 + k9_62 : Nat) : Int)) (b := 0) h9_62_0 (nI_toInt (by omega)) (by decide) (by omega) (by unfold OKP; omega)
              refine lv_aload_n hx hb dX9_felled_104 rfl (lv_at hl 5 rfl) ?_
              refine lv_iconst (v := 0) hx hb dX9_felled_105 (by decide) ?_
              refine lv_iconst (v := 0) hx hb dX9_felled_106 (by decide) ?_
              refine lv_iload_n hx hb dX9_felled_107 rfl (lv_at hl 6 rfl) ?_
              refine xk_i (wr := []) (xr_V (n := 3) (As := [.int 0, .int 0, .int x]) (rest := []) ⟨hx, hb, hml, hown, htg⟩ hK hN hP hD hS hA [0, 1, 2, 3, 4, 5, 6] rfl (by decide) (m_laysBestK l D cT _ (h0) (g) (0) (b5) (b6) (b7) (b8) (b9) (b10) (b11) (b12) (b13) (b14) (b17) (b18) (b19) (v9_62_8) (v9_62_9) (v9_62_10) (v9_62_11) (v9_62_12) (b29) (b31) (b32) (b33) (by first | assumption | omega | decide | exact Or.inl (by decide) | (intro h9; exact absurd h9 (by decide)) | (intro _; omega) | (intro _; assumption) | (intro _; decide)) (f_18) (by first | assumption | omega | decide | exact Or.inl (by decide) | (intro h9; exact absurd h9 (by decide)) | (intro _; omega) | (intro _; assumption) | (intro _; decide)) (f9_62_3) (f9_62_4) (by first | assumption | omega | decide | exact Or.inl (by decide) | (intro h9; exact absurd h9 (by decide)) | (intro _; omega) | (intro _; assumption) | (intro _; decide)) (f9_62_5) (f9_62_6) (f9_62_7) (0) (0) (x) (by first | assumption | omega | decide | exact Or.inl (by decide) | (intro h9; exact absurd h9 (by decide)) | (intro _; omega) | (intro _; assumption) | (intro _; decide)) (by first | assumption | omega | decide | exact Or.inl (by decide) | (intro h9; exact absurd h9 (by decide)) | (intro _; omega) | (intro _; assumption) | (intro _; decide))) wi_1478 wi_1480 wi_106 wi_131 wi_1481 rfl rfl rfl ⟨rfl, by decide +kernel⟩ ⟨Nat.le_of_ble_eq_true rfl, Nat.le_of_ble_eq_true rfl⟩ rfl hl.1 rfl (Nat.le_of_ble_eq_true rfl) dX9_felled_108 ⟨Nat.le_of_ble_eq_true rfl, Nat.le_of_ble_eq_true rfl⟩) hP hD hS hA [0, 1, 2, 3, 4, 5, 6] [] rfl rfl (by decide) (by decide) (fun r_20 u_19 H locs hwr_20 hP hD hS => ?_)
              obtain ⟨hP, hD⟩ : PD D A [(sw_9 h0 g 0 b5 b6 b7 b8 b9 b10 b11 b12 b13 b14 b17 b18 b19 u_19.1 u_19.2.1 u_19.2.2.1 u_19.2.2.2.1 u_19.2.2.2.2.1 b29 b31 b32 b33), (sw_in cT (g 0) 288 u_19.2.2.2.2.2.1), (sw_in cT (g 4) 6 u_19.2.2.2.2.2.2.1), (sw_in cT (g 5) 960 u_19.2.2.2.2.2.2.2.1), (sw_in cT (g 6) 8 u_19.2.2.2.2.2.2.2.2.1), (sw_in cT (g 7) 8 u_19.2.2.2.2.2.2.2.2.2.1), (sw_in cT (g 8) 6 u_19.2.2.2.2.2.2.2.2.2.2)] _ := ⟨hP, hD⟩
              have qr_20_0 : PI 288 u_19.2.2.2.2.2.1 := hwr_20.1
              have qr_20_1 : KR u_19.2.2.2.2.2.1 f_18 := hwr_20.2.1
              have qr_20_2 : PI 960 u_19.2.2.2.2.2.2.2.1 := hwr_20.2.2.1
              refine lv_iload_n hx hb dX9_felled_111 rfl (lv_at hl 4 rfl) ?_
              refine lv_isub hx hb dX9_felled_112 ?_
              refine lv_topi (fun z_21 ez_21 => ?_)
              refine lv_istore (lv' := [(8, .int z_21), (7, .int z_16), (6, .int (nI k9_62)), (5, .int x9_62_5), (4, .int x9_62_4), (3, .int r_12), (0, .ref h0), (1, .int x), (2, .int y)]) hx hb dX9_felled_113 hl (by decide) rfl (fun ls hl => ?_)
              refine lv_aload_n hx hb dX9_felled_115 rfl (lv_at hl 6 rfl) ?_
              refine va_get (D := D) (ci := 9) (v := .ref (g 0)) (C := RX9) (T := TX9) (N := 37) hx hb htg gRX9 hown hK hP 0 rfl rfl 1 (by decide) (htg _ wi_1151) (fun _ h9 => h9) rfl dX9_felled_116 ?_
              refine lv_bipush (v := 48) hx hb dX9_felled_119 (by decide) ?_
              refine lv_iload hx hb dX9_felled_121 (lv_at hl 2 rfl) ?_
              refine lv_iadd hx hb dX9_felled_123 ?_
              refine lv_is (y := nI (48 + k9_62)) (nI_add 48 (k9_62)) ?_
              refine lv_iload hx hb dX9_felled_124 (lv_at hl 1 rfl) ?_
              refine va_iast hx hb hK hP hD hS 1 0 rfl rfl (vp_in_nI (by omega) (by omega)) dX9_felled_126 (fun H locs hP hD hS => ?_)
              obtain ⟨f_22, ef_22, hP, hD⟩ : ∃ f_22 : Nat → Int32, f_22 = upd (u_19.2.2.2.2.2.1) ((nI (48 + k9_62)) : Int32).toNatClampNeg z_16 ∧ PD D A [(sw_9 h0 g 0 b5 b6 b7 b8 b9 b10 b11 b12 b13 b14 b17 b18 b19 u_19.1 u_19.2.1 u_19.2.2.1 u_19.2.2.2.1 u_19.2.2.2.2.1 b29 b31 b32 b33), (sw_in cT (g 0) 288 f_22), (sw_in cT (g 4) 6 u_19.2.2.2.2.2.2.1), (sw_in cT (g 5) 960 u_19.2.2.2.2.2.2.2.1), (sw_in cT (g 6) 8 u_19.2.2.2.2.2.2.2.2.1), (sw_in cT (g 7) 8 u_19.2.2.2.2.2.2.2.2.2.1), (sw_in cT (g 8) 6 u_19.2.2.2.2.2.2.2.2.2.2)] H := ⟨_, rfl, hP, hD⟩
              have qf_22 : PI 288 f_22 := by rw [ef_22]; exact pi_upd (a := ((48 + k9_62 : Nat) : Int)) (b := z_16.toInt) qr_20_0 (nI_toInt (by omega)) (rfl) (by omega) (by unfold OKP; omega)
              have hw_krb_23 : z_16 = (f9_62_2) (48 + (k9_62 : Int)).toNat := by rw [ez_16, nI_clamp (by omega)]; exact congrArg _ (show _ = Int.toNat _ from by omega)
              have krb_23 : KR f_22 a0 := KR_tr (KR_put (a := 48 + (k9_62 : Int)) ef_18 qr_20_1 ef_22 (by first | omega | exact (nI_toInt (by omega)).trans (by omega)) (by first | omega | exact (nI_toInt (by omega)).trans (by omega)) (by omega) hw_krb_23) h9_62_2
              refine lv_iload hx hb dX9_felled_127 (lv_at hl 0 rfl) ?_
              refine lv_iload hx hb dX9_felled_129 (lv_at hl 4 rfl) ?_
              refine lv_icmp_gt (tgt := 137) hx hb dX9_felled_131 (by decide) (fun c_24 => ?_) (fun c_24 => ?_)
              · have ic_24 : x9_62_4.toInt < z_21.toInt := ilt c_24 (rfl) (rfl)
                refine lv_iload hx hb dX9_felled_137 (lv_at hl 0 rfl) ?_
                refine lv_istore (lv' := [(4, .int z_21), (8, .int z_21), (7, .int z_16), (6, .int (nI k9_62)), (5, .int x9_62_5), (3, .int r_12), (0, .ref h0), (1, .int x), (2, .int y)]) hx hb dX9_felled_139 hl (by decide) rfl (fun ls hl => ?_)
                refine lv_iload hx hb dX9_felled_141 (lv_at hl 3 rfl) ?_
                refine lv_istore (lv' := [(5, .int (nI k9_62)), (4, .int z_21), (8, .int z_21), (7, .int z_16), (6, .int (nI k9_62)), (3, .int r_12), (0, .ref h0), (1, .int x), (2, .int y)]) hx hb dX9_felled_143 hl (by decide) rfl (fun ls hl => ?_)
                refine lv_iinc (v := (nI (k9_62 + 1))) (lv' := [(6, .int (nI (k9_62 + 1))), (5, .int (nI k9_62)), (4, .int z_21), (8, .int z_21), (7, .int z_16), (3, .int r_12), (0, .ref h0), (1, .int x), (2, .int y)]) hx hb dX9_felled_145 hl (k := 4) rfl (by exact nI_1 (k9_62)) (by decide) rfl (fun ls hl => ?_)
                refine lv_goto (tgt := 62) hx hb dX9_felled_148 (by decide) ?_
                exact ih_62 (k9_62 + 1) _ _ _ _ _ _ _ _ _ _ _ _ _ _ _ _ (by omega) (by omega) (by first | assumption | omega | decide | (simp only [ti_0, ti_1, ti_2, ti_3, ti_4, ti_5, ti_6, ti_7, ti_8, ti_9, ti_10, ti_11, ti_12, ti_m1]; omega)) (by first | assumption | omega | decide | (simp only [ti_0, ti_1, ti_2, ti_3, ti_4, ti_5, ti_6, ti_7, ti_8, ti_9, ti_10, ti_11, ti_12, ti_m1]; omega)) (by first | assumption | exact KR_rfl _) ⟨hP.sub [0, 1, 2, 3, 4, 5, 6] rfl, hD.sub [0, 1, 2, 3, 4, 5, 6] (by decide) rfl⟩ hS (lv_sub hl [0, 1, 2, 5, 6, 7, 8] rfl)
              · have ic_24 : z_21.toInt ≤ x9_62_4.toInt := inlt c_24 (rfl) (rfl)
                refine lv_goto (tgt := 145) hx hb dX9_felled_134 (by decide) ?_
                refine lv_iinc (v := (nI (k9_62 + 1))) (lv' := [(6, .int (nI (k9_62 + 1))), (8, .int z_21), (7, .int z_16), (5, .int x9_62_5), (4, .int x9_62_4), (3, .int r_12), (0, .ref h0), (1, .int x), (2, .int y)]) hx hb dX9_felled_145 hl (k := 2) rfl (by exact nI_1 (k9_62)) (by decide) rfl (fun ls hl => ?_)
                refine lv_goto (tgt := 62) hx hb dX9_felled_148 (by decide) ?_
                exact ih_62 (k9_62 + 1) _ _ _ _ _ _ _ _ _ _ _ _ _ _ _ _ (by omega) (by omega) (by first | assumption | omega | decide | (simp only [ti_0, ti_1, ti_2, ti_3, ti_4, ti_5, ti_6, ti_7, ti_8, ti_9, ti_10, ti_11, ti_12, ti_m1]; omega)) (by first | assumption | omega | decide | (simp only [ti_0, ti_1, ti_2, ti_3, ti_4, ti_5, ti_6, ti_7, ti_8, ti_9, ti_10, ti_11, ti_12, ti_m1]; omega)) (by first | assumption | exact KR_rfl _) ⟨hP.sub [0, 1, 2, 3, 4, 5, 6] rfl, hD.sub [0, 1, 2, 3, 4, 5, 6] (by decide) rfl⟩ hS (lv_sub hl [0, 3, 4, 5, 6, 7, 8] rfl)
            · have ic_17 : z_16.toInt = 0 := ieq c_17 (rfl) (by decide)
              refine lv_goto (tgt := 145) hx hb dX9_felled_90 (by decide) ?_
              refine lv_iinc (v := (nI (k9_62 + 1))) (lv' := [(6, .int (nI (k9_62 + 1))), (7, .int z_16), (5, .int x9_62_5), (4, .int x9_62_4), (3, .int r_12), (0, .ref h0), (1, .int x), (2, .int y)]) hx hb dX9_felled_145 hl (k := 1) rfl (by exact nI_1 (k9_62)) (by decide) rfl (fun ls hl => ?_)
              refine lv_goto (tgt := 62) hx hb dX9_felled_148 (by decide) ?_
              exact ih_62 (k9_62 + 1) _ _ _ _ _ _ _ _ _ _ _ _ _ _ _ _ (by omega) (by omega) (by first | assumption | omega | decide | (simp only [ti_0, ti_1, ti_2, ti_3, ti_4, ti_5, ti_6, ti_7, ti_8, ti_9, ti_10, ti_11, ti_12, ti_m1]; omega)) (by first | assumption | omega | decide | (simp only [ti_0, ti_1, ti_2, ti_3, ti_4, ti_5, ti_6, ti_7, ti_8, ti_9, ti_10, ti_11, ti_12, ti_m1]; omega)) (by first | assumption | exact KR_rfl _) ⟨hP.sub [0, 1, 2, 3, 4, 5, 6] rfl, hD.sub [0, 1, 2, 3, 4, 5, 6] (by decide) rfl⟩ hS (lv_sub hl [0, 2, 3, 4, 5, 6, 7] rfl)
      · have ic_10 : z_9.toInt = 0 := ieq c_10 (rfl) (by decide)
        refine lv_bipush (v := (-5)) hx hb dX9_felled_42 (by decide) ?_
        exact x_iret hx hb hr hlk hP hD hS [0, 1, 2, 3, 4, 5, 6] ((0, b23, b24, b25, b26, b27, a0, a4, a5, a6, a7, a8)) rfl (by decide) ⟨by (try dsimp only); first | assumption | omega | decide | exact Or.inl (by decide) | (intro h9; exact absurd h9 (by decide)) | (intro _; omega) | (intro _; assumption) | (intro _; decide), by (try dsimp only); first | assumption | exact KR_rfl _, by (try dsimp only); first | assumption | omega | decide | exact Or.inl (by decide) | (intro h9; exact absurd h9 (by decide)) | (intro _; omega) | (intro _; assumption) | (intro _; decide), trivial⟩ (by decide) (by decide) dX9_felled_44
    · have ic_8 : r_7.toInt = 0 := ieq c_8 (rfl) (by decide)
      refine lv_bipush (v := (-3)) hx hb dX9_felled_30 (by decide) ?_
      exact x_iret hx hb hr hlk hP hD hS [0, 1, 2, 3, 4, 5, 6] ((0, b23, b24, b25, b26, b27, a0, a4, a5, a6, a7, a8)) rfl (by decide) ⟨by (try dsimp only); first | assumption | omega | decide | exact Or.inl (by decide) | (intro h9; exact absurd h9 (by decide)) | (intro _; omega) | (intro _; assumption) | (intro _; decide), by (try dsimp only); first | assumption | exact KR_rfl _, by (try dsimp only); first | assumption | omega | decide | exact Or.inl (by decide) | (intro h9; exact absurd h9 (by decide)) | (intro _; omega) | (intro _; assumption) | (intro _; decide), trivial⟩ (by decide) (by decide) dX9_felled_32
  · have ic_4 : r_3.toInt = 0 := ieq c_4 (rfl) (by decide)
    refine lv_bipush (v := (-2)) hx hb dX9_felled_15 (by decide) ?_
    exact x_iret hx hb hr hlk hP hD hS [0, 1, 2, 3, 4, 5, 6] ((0, b23, b24, b25, b26, b27, a0, a4, a5, a6, a7, a8)) rfl (by decide) ⟨by (try dsimp only); first | assumption | omega | decide | exact Or.inl (by decide) | (intro h9; exact absurd h9 (by decide)) | (intro _; omega) | (intro _; assumption) | (intro _; decide), by (try dsimp only); first | assumption | exact KR_rfl _, by (try dsimp only); first | assumption | omega | decide | exact Or.inl (by decide) | (intro h9; exact absurd h9 (by decide)) | (intro _; omega) | (intro _; assumption) | (intro _; decide), trivial⟩ (by decide) (by decide) dX9_felled_17
