set_option maxHeartbeats 4000000 in
set_option maxRecDepth 100000 in
theorem m_felledK (l : Launch) (D : va_G) (cT : Nat → ClassId) (sz : Nat) (h0 : Nat) (g : Nat → Nat) (b0 : Int32) (b5 : Int32) (b6 : Int32) (b7 : Int32) (b8 : Int32) (b9 : Int32) (b10 : Int32) (b11 : Int32) (b12 : Int32) (b13 : Int32) (b14 : Int32) (b17 : Int32) (b18 : Int32) (b19 : Int32) (b23 : Int32) (b24 : Int32) (b25 : Int32) (b26 : Int32) (b27 : Int32) (b29 : Int32) (b31 : Int32) (b32 : Int32) (b33 : Int32) (hb5 : 0 ≤ b5.toInt ∧ b5.toInt ≤ 900) (a0 : Nat → Int32) (pa0 : PI 288 a0) (a4 : Nat → Int32) (a5 : Nat → Int32) (pa5 : PI 960 a5) (a6 : Nat → Int32) (a7 : Nat → Int32) (a8 : Nat → Int32) (x : Int32) (y : Int32) : Met l yX9_felled (wsc yX9_felled cX9_felled 9 (some .int)) { frames := 16, cells := 0, slots := 0, locals := 465 } (va_Pc [.ref h0, .int x, .int y] (PX D cT sz [(sw_9 h0 g b0 b5 b6 b7 b8 b9 b10 b11 b12 b13 b14 b17 b18 b19 b23 b24 b25 b26 b27 b29 b31 b32 b33), (sw_in cT (g 0) 288 a0), (sw_in cT (g 4) 6 a4), (sw_in cT (g 5) 960 a5), (sw_in cT (g 6) 8 a6), (sw_in cT (g 7) 8 a7), (sw_in cT (g 8) 6 a8)])) (va_Qi (fun (r : Int32) (u : Int32 × Int32 × Int32 × Int32 × Int32 × Int32 × (Nat → Int32) × (Nat → Int32) × (Nat → Int32) × (Nat → Int32) × (Nat → Int32) × (Nat → Int32)) => (PI 288 u.2.2.2.2.2.2.1) ∧ (KR u.2.2.2.2.2.2.1 a0) ∧ (PI 960 u.2.2.2.2.2.2.2.2.1) ∧ (True)) (fun u t => RW D (va_A [(sw_9 h0 g b0 b5 b6 b7 b8 b9 b10 b11 b12 b13 b14 b17 b18 b19 b23 b24 b25 b26 b27 b29 b31 b32 b33), (sw_in cT (g 0) 288 a0), (sw_in cT (g 4) 6 a4), (sw_in cT (g 5) 960 a5), (sw_in cT (g 6) 8 a6), (sw_in cT (g 7) 8 a7), (sw_in cT (g 8) 6 a8)] sz) ((fun u : Int32 × Int32 × Int32 × Int32 × Int32 × Int32 × (Nat → Int32) × (Nat → Int32) × (Nat → Int32) × (Nat → Int32) × (Nat → Int32) × (Nat → Int32) => [(sw_9 h0 g u.1 b5 b6 b7 b8 b9 b10 b11 b12 b13 b14 b17 b18 b19 u.2.1 u.2.2.1 u.2.2.2.1 u.2.2.2.2.1 u.2.2.2.2.2.1 b29 b31 b32 b33), (sw_in cT (g 0) 288 u.2.2.2.2.2.2.1), (sw_in cT (g 4) 6 u.2.2.2.2.2.2.2.1), (sw_in cT (g 5) 960 u.2.2.2.2.2.2.2.2.1), (sw_in cT (g 6) 8 u.2.2.2.2.2.2.2.2.2.1), (sw_in cT (g 7) 8 u.2.2.2.2.2.2.2.2.2.2.1), (sw_in cT (g 8) 6 u.2.2.2.2.2.2.2.2.2.2.2)]) u) t) (va_A [(sw_9 h0 g b0 b5 b6 b7 b8 b9 b10 b11 b12 b13 b14 b17 b18 b19 b23 b24 b25 b26 b27 b29 b31 b32 b33), (sw_in cT (g 0) 288 a0), (sw_in cT (g 4) 6 a4), (sw_in cT (g 5) 960 a5), (sw_in cT (g 6) 8 a6), (sw_in cT (g 7) 8 a7), (sw_in cT (g 8) 6 a8)] sz)) 0 0 (va_A [(sw_9 h0 g b0 b5 b6 b7 b8 b9 b10 b11 b12 b13 b14 b17 b18 b19 b23 b24 b25 b26 b27 b29 b31 b32 b33), (sw_in cT (g 0) 288 a0), (sw_in cT (g 4) 6 a4), (sw_in cT (g 5) 960 a5), (sw_in cT (g 6) 8 a6), (sw_in cT (g 7) 8 a7), (sw_in cT (g 8) 6 a8)] sz) := by
  refine m_of (y := yX9_felled) (cc := cX9_felled) (nL := 9) (ret := (some .int)) (D := D) (cT := cT) (av := [.ref h0, .int x, .int y]) (wi := [(sw_9 h0 g b0 b5 b6 b7 b8 b9 b10 b11 b12 b13 b14 b17 b18 b19 b23 b24 b25 b26 b27 b29 b31 b32 b33), (sw_in cT (g 0) 288 a0), (sw_in cT (g 4) 6 a4), (sw_in cT (g 5) 960 a5), (sw_in cT (g 6) 8 a6), (sw_in cT (g 7) 8 a7), (sw_in cT (g 8) 6 a8)]) (fun A => va_Qi (fun (r : Int32) (u : Int32 × Int32 × Int32 × Int32 × Int32 × Int32 × (Nat → Int32) × (Nat → Int32) × (Nat → Int32) × (Nat → Int32) × (Nat → Int32) × (Nat → Int32)) => (PI 288 u.2.2.2.2.2.2.1) ∧ (KR u.2.2.2.2.2.2.1 a0) ∧ (PI 960 u.2.2.2.2.2.2.2.2.1) ∧ (True)) (fun u t => RW D A ((fun u : Int32 × Int32 × Int32 × Int32 × Int32 × Int32 × (Nat → Int32) × (Nat → Int32) × (Nat → Int32) × (Nat → Int32) × (Nat → Int32) × (Nat → Int32) => [(sw_9 h0 g u.1 b5 b6 b7 b8 b9 b10 b11 b12 b13 b14 b17 b18 b19 u.2.1 u.2.2.1 u.2.2.2.1 u.2.2.2.2.1 u.2.2.2.2.2.1 b29 b31 b32 b33), (sw_in cT (g 0) 288 u.2.2.2.2.2.2.1), (sw_in cT (g 4) 6 u.2.2.2.2.2.2.2.1), (sw_in cT (g 5) 960 u.2.2.2.2.2.2.2.2.1), (sw_in cT (g 6) 8 u.2.2.2.2.2.2.2.2.2.1), (sw_in cT (g 7) 8 u.2.2.2.2.2.2.2.2.2.2.1), (sw_in cT (g 8) 6 u.2.2.2.2.2.2.2.2.2.2.2)]) u) t) A) (by decide) (Nat.le_of_ble_eq_true rfl) ?_
  intro p e s m below meth c A hx hb hml hown htg hK hN hr hlk hnm hsz hP hD hS hA ls hl
  have hown : s.vm.findClass RX9 = some m.cls := hown
  have hl : lv_has ls 9 [(0, .ref h0), (1, .int x), (2, .int y)] := hl
  have tc_m5 : ((-5) : Int32).toInt = (-5) := by decide
  have tc_m3 : ((-3) : Int32).toInt = (-3) := by decide
  have tc_m2 : ((-2) : Int32).toInt = (-2) := by decide
  have tc_m1 : ((-1) : Int32).toInt = (-1) := by decide
  have tc_0 : (0 : Int32).toInt = 0 := by decide
  have tc_48 : (48 : Int32).toInt = 48 := by decide
  refine lv_aload_n hx hb dX9_felled_0 rfl (lv_at hl 0 rfl) ?_
  refine lv_iconst (v := 0) hx hb dX9_felled_1 (by decide) ?_
  refine va_put (D := D) (ci := 9) (v := .int 0) (ty := .int) (C := RX9) (T := TX9) (N := 37) hx hb htg gRX9 tyX9 tyX9_ok nmX9 hown hK hP hD hS 0 rfl rfl 0 (by decide) (htg _ wi_1150) (fun _ h9 => h9) rfl (by decide +kernel) rfl rfl (Nat.le_of_ble_eq_true rfl) dX9_felled_2 (fun H locs hP hD hS => ?_)
  obtain ⟨hP, hD⟩ : PD D A [(sw_9 h0 g 0 b5 b6 b7 b8 b9 b10 b11 b12 b13 b14 b17 b18 b19 b23 b24 b25 b26 b27 b29 b31 b32 b33), (sw_in cT (g 0) 288 a0), (sw_in cT (g 4) 6 a4), (sw_in cT (g 5) 960 a5), (sw_in cT (g 6) 8 a6), (sw_in cT (g 7) 8 a7), (sw_in cT (g 8) 6 a8)] _ := ⟨hP, hD⟩
  refine lv_iload_n hx hb dX9_felled_5 rfl (lv_at hl 2 rfl) ?_
  refine lv_i2l (v := y.toInt64) hx hb dX9_felled_6 rfl ?_
  refine lv_lconst (v := 0) hx hb dX9_felled_7 (by decide) ?_
  refine lv_lconst (v := 1) hx hb dX9_felled_8 (by decide) ?_
  have ilw_1 : (y.toInt64).toInt = y.toInt := i2l_i _
  refine xk_i (wr := [(sw_9 h0 g 0 b5 b6 b7 b8 b9 b10 b11 b12 b13 b14 b17 b18 b19 b23 b24 b25 b26 b27 b29 b31 b32 b33), (sw_in cT (g 0) 288 a0), (sw_in cT (g 4) 6 a4), (sw_in cT (g 5) 960 a5), (sw_in cT (g 6) 8 a6), (sw_in cT (g 7) 8 a7), (sw_in cT (g 8) 6 a8)]) (xr_S (n := 3) (As := [.long y.toInt64, .long 0, .long 1]) (rest := []) ⟨hx, hb, hml, hown, htg⟩ hK hN hP hD hS hA [] rfl (by decide) (m_within l D cT _ (y.toInt64) (0) (1) (y.toInt) (0) (1) (i2l_i _) (by decide) (by decide)) wi_1270 wi_1271 wi_131 wi_1272 ⟨rfl, by decide +kernel⟩ ⟨Nat.le_of_ble_eq_true rfl, Nat.le_of_ble_eq_true rfl⟩ rfl hl.1 rfl (Nat.le_of_ble_eq_true rfl) dX9_felled_9 ⟨Nat.le_of_ble_eq_true rfl, Nat.le_of_ble_eq_true rfl⟩) hP hD hS hA [] [0, 1, 2, 3, 4, 5, 6] rfl rfl (by decide) (by decide) (fun r_3 u_2 H locs hwr_3 hP hD hS => ?_)
  obtain ⟨hP, hD⟩ : PD D A [(sw_9 h0 g 0 b5 b6 b7 b8 b9 b10 b11 b12 b13 b14 b17 b18 b19 b23 b24 b25 b26 b27 b29 b31 b32 b33), (sw_in cT (g 0) 288 a0), (sw_in cT (g 4) 6 a4), (sw_in cT (g 5) 960 a5), (sw_in cT (g 6) 8 a6), (sw_in cT (g 7) 8 a7), (sw_in cT (g 8) 6 a8)] _ := ⟨hP, hD⟩
  have qr_3_0 : Imp (¬ r_3.toInt = 0) (0 ≤ y.toInt ∧ y.toInt ≤ 1) := hwr_3.1
  have qr_3_1 : r_3 = 0 ∨ r_3 = 1 := hwr_3.2.1
  refine lv_if_ne (tgt := 18) hx hb dX9_felled_12 (by decide) (fun c_4 => ?_) (fun c_4 => ?_)
  · have ic_4 : ¬ r_3.toInt = 0 := ine c_4 (rfl) (by decide)
    have kqr_3_0 : 0 ≤ y.toInt ∧ y.toInt ≤ 1 := qr_3_0 ic_4
    refine lv_iload_n hx hb dX9_felled_18 rfl (lv_at hl 1 rfl) ?_
    refine lv_i2l (v := x.toInt64) hx hb dX9_felled_19 rfl ?_
    refine lv_lconst (v := 1) hx hb dX9_felled_20 (by decide) ?_
    refine lv_ldc2 (v := 6) hx hb hown (htg _ wi_1522) dX9_felled_21 ?_
    have ilw_5 : (x.toInt64).toInt = x.toInt := i2l_i _
    refine xk_i (wr := [(sw_9 h0 g 0 b5 b6 b7 b8 b9 b10 b11 b12 b13 b14 b17 b18 b19 b23 b24 b25 b26 b27 b29 b31 b32 b33), (sw_in cT (g 0) 288 a0), (sw_in cT (g 4) 6 a4), (sw_in cT (g 5) 960 a5), (sw_in cT (g 6) 8 a6), (sw_in cT (g 7) 8 a7), (sw_in cT (g 8) 6 a8)]) (xr_S (n := 3) (As := [.long x.toInt64, .long 1, .long 6]) (rest := []) ⟨hx, hb, hml, hown, htg⟩ hK hN hP hD hS hA [] rfl (by decide) (m_within l D cT _ (x.toInt64) (1) (6) (x.toInt) (1) (6) (i2l_i _) (by decide) (by decide)) wi_1270 wi_1271 wi_131 wi_1272 ⟨rfl, by decide +kernel⟩ ⟨Nat.le_of_ble_eq_true rfl, Nat.le_of_ble_eq_true rfl⟩ rfl hl.1 rfl (Nat.le_of_ble_eq_true rfl) dX9_felled_24 ⟨Nat.le_of_ble_eq_true rfl, Nat.le_of_ble_eq_true rfl⟩) hP hD hS hA [] [0, 1, 2, 3, 4, 5, 6] rfl rfl (by decide) (by decide) (fun r_7 u_6 H locs hwr_7 hP hD hS => ?_)
    obtain ⟨hP, hD⟩ : PD D A [(sw_9 h0 g 0 b5 b6 b7 b8 b9 b10 b11 b12 b13 b14 b17 b18 b19 b23 b24 b25 b26 b27 b29 b31 b32 b33), (sw_in cT (g 0) 288 a0), (sw_in cT (g 4) 6 a4), (sw_in cT (g 5) 960 a5), (sw_in cT (g 6) 8 a6), (sw_in cT (g 7) 8 a7), (sw_in cT (g 8) 6 a8)] _ := ⟨hP, hD⟩
    have qr_7_0 : Imp (¬ r_7.toInt = 0) (1 ≤ x.toInt ∧ x.toInt ≤ 6) := hwr_7.1
    have qr_7_1 : r_7 = 0 ∨ r_7 = 1 := hwr_7.2.1
    refine lv_if_ne (tgt := 33) hx hb dX9_felled_27 (by decide) (fun c_8 => ?_) (fun c_8 => ?_)
    · have ic_8 : ¬ r_7.toInt = 0 := ine c_8 (rfl) (by decide)
      have kqr_7_0 : 1 ≤ x.toInt ∧ x.toInt ≤ 6 := qr_7_0 ic_8
      refine lv_aload_n hx hb dX9_felled_33 rfl (lv_at hl 0 rfl) ?_
      refine va_get (D := D) (ci := 9) (v := .ref (g 0)) (C := RX9) (T := TX9) (N := 37) hx hb htg gRX9 hown hK hP 0 rfl rfl 1 (by decide) (htg _ wi_1151) (fun _ h9 => h9) rfl dX9_felled_34 ?_
      refine lv_iconst (v := 0) hx hb dX9_felled_37 (by decide) ?_
      refine va_iald hx hb hK hP 1 0 rfl rfl (by unfold vp_in; decide) dX9_felled_38 ?_
      refine lv_topi (fun z_9 ez_9 => ?_)
      have iz_9 : 0 ≤ z_9.toInt ∧ z_9.toInt ≤ 16 := by rw [ez_9]; exact rd0 pa0 (by decide) rfl
      have nz_9 : z_9.toInt = ((a0) 0).toInt := by rw [ez_9]; rfl
      refine lv_if_ne (tgt := 45) hx hb dX9_felled_39 (by decide) (fun c_10 => ?_) (fun c_10 => ?_)
      · have ic_10 : ¬ z_9.toInt = 0 := ine c_10 (rfl) (by decide)
        refine lv_aload_n hx hb dX9_felled_45 rfl (lv_at hl 0 rfl) ?_
        refine lv_iconst (v := 0) hx hb dX9_felled_46 (by decide) ?_
        refine lv_iconst (v := 0) hx hb dX9_felled_47 (by decide) ?_
        refine lv_iload_n hx hb dX9_felled_48 rfl (lv_at hl 1 rfl) ?_
        refine xk_i (wr := []) (xr_V (n := 3) (As := [.int 0, .int 0, .int x]) (rest := []) ⟨hx, hb, hml, hown, htg⟩ hK hN hP hD hS hA [0, 1, 2, 3, 4, 5, 6] rfl (by decide) (m_laysBestK l D cT _ (h0) (g) (0) (b5) (b6) (b7) (b8) (b9) (b10) (b11) (b12) (b13) (b14) (b17) (b18) (b19) (b23) (b24) (b25) (b26) (b27) (b29) (b31) (b32) (b33) (by first | assumption | omega | decide | exact Or.inl (by decide) | (intro h9; exact absurd h9 (by decide)) | (intro _; omega) | (intro _; assumption) | (intro _; decide)) (a0) (by first | assumption | omega | decide | exact Or.inl (by decide) | (intro h9; exact absurd h9 (by decide)) | (intro _; omega) | (intro _; assumption) | (intro _; decide)) (a4) (a5) (by first | assumption | omega | decide | exact Or.inl (by decide) | (intro h9; exact absurd h9 (by decide)) | (intro _; omega) | (intro _; assumption) | (intro _; decide)) (a6) (a7) (a8) (0) (0) (x) (by first | assumption | omega | decide | exact Or.inl (by decide) | (intro h9; exact absurd h9 (by decide)) | (intro _; omega) | (intro _; assumption) | (intro _; decide)) (by first | assumption | omega | decide | exact Or.inl (by decide) | (intro h9; exact absurd h9 (by decide)) | (intro _; omega) | (intro _; assumption) | (intro _; decide))) wi_1478 wi_1480 wi_106 wi_131 wi_1481 rfl rfl rfl ⟨rfl, by decide +kernel⟩ ⟨Nat.le_of_ble_eq_true rfl, Nat.le_of_ble_eq_true rfl⟩ rfl hl.1 rfl (Nat.le_of_ble_eq_true rfl) dX9_felled_49 ⟨Nat.le_of_ble_eq_true rfl, Nat.le_of_ble_eq_true rfl⟩) hP hD hS hA [0, 1, 2, 3, 4, 5, 6] [] rfl rfl (by decide) (by decide) (fun r_12 u_11 H locs hwr_12 hP hD hS => ?_)
        obtain ⟨hP, hD⟩ : PD D A [(sw_9 h0 g 0 b5 b6 b7 b8 b9 b10 b11 b12 b13 b14 b17 b18 b19 u_11.1 u_11.2.1 u_11.2.2.1 u_11.2.2.2.1 u_11.2.2.2.2.1 b29 b31 b32 b33), (sw_in cT (g 0) 288 u_11.2.2.2.2.2.1), (sw_in cT (g 4) 6 u_11.2.2.2.2.2.2.1), (sw_in cT (g 5) 960 u_11.2.2.2.2.2.2.2.1), (sw_in cT (g 6) 8 u_11.2.2.2.2.2.2.2.2.1), (sw_in cT (g 7) 8 u_11.2.2.2.2.2.2.2.2.2.1), (sw_in cT (g 8) 6 u_11.2.2.2.2.2.2.2.2.2.2)] _ := ⟨hP, hD⟩
        have qr_12_0 : PI 288 u_11.2.2.2.2.2.1 := hwr_12.1
        have qr_12_1 : KR u_11.2.2.2.2.2.1 a0 := hwr_12.2.1
        have kqr_12_1 : KR u_11.2.2.2.2.2.1 (a0) := KR_tr qr_12_1 (KR_rfl a0)
        have qr_12_2 : PI 960 u_11.2.2.2.2.2.2.2.1 := hwr_12.2.2.1
        refine lv_istore_n (lv' := [(3, .int r_12), (0, .ref h0), (1, .int x), (2, .int y)]) hx hb dX9_felled_52 rfl hl (by decide) rfl (fun ls hl => ?_)
        refine lv_iconst (v := 0) hx hb dX9_felled_53 (by decide) ?_
        refine lv_istore (lv' := [(4, .int 0), (3, .int r_12), (0, .ref h0), (1, .int x), (2, .int y)]) hx hb dX9_felled_54 hl (by decide) rfl (fun ls hl => ?_)
        refine lv_iconst (v := (-1)) hx hb dX9_felled_56 (by decide) ?_
        refine lv_istore (lv' := [(5, .int (-1)), (4, .int 0), (3, .int r_12), (0, .ref h0), (1, .int x), (2, .int y)]) hx hb dX9_felled_57 hl (by decide) rfl (fun ls hl => ?_)
        refine lv_iconst (v := 0) hx hb dX9_felled_59 (by decide) ?_
        refine lv_istore (lv' := [(6, .int 0), (5, .int (-1)), (4, .int 0), (3, .int r_12), (0, .ref h0), (1, .int x), (2, .int y)]) hx hb dX9_felled_60 hl (by decide) rfl (fun ls hl => ?_)
        refine (fun (key : ∀ (n9_62 : Nat) (k9_62 : Nat) (x9_62_5 : Int32) (x9_62_4 : Int32) (f9_62_2 : Nat → Int32) (f9_62_3 : Nat → Int32) (f9_62_4 : Nat → Int32) (f9_62_5 : Nat → Int32) (f9_62_6 : Nat → Int32) (f9_62_7 : Nat → Int32) (v9_62_8 : Int32) (v9_62_9 : Int32) (v9_62_10 : Int32) (v9_62_11 : Int32) (v9_62_12 : Int32) (H : Heap) (locs : List Loc) (ls : Array Slot), (k9_62 : Int) ≤ 16 → 16 < (k9_62 : Int) + n9_62 → PI 288 f9_62_2 → PI 960 f9_62_4 → KR f9_62_2 (a0) → PD D A [(sw_9 h0 g 0 b5 b6 b7 b8 b9 b10 b11 b12 b13 b14 b17 b18 b19 v9_62_8 v9_62_9 v9_62_10 v9_62_11 v9_62_12 b29 b31 b32 b33), (sw_in cT (g 0) 288 f9_62_2), (sw_in cT (g 4) 6 f9_62_3), (sw_in cT (g 5) 960 f9_62_4), (sw_in cT (g 6) 8 f9_62_5), (sw_in cT (g 7) 8 f9_62_6), (sw_in cT (g 8) 6 f9_62_7)] H → va_S A s.heap H locs → lv_has ls 9 [(6, .int (nI k9_62)), (5, .int x9_62_5), (4, .int x9_62_4), (3, .int r_12), (0, .ref h0), (1, .int x), (2, .int y)] → W p l e _ s m _ below meth c H locs _ _ _ (F0 m 62 ls [])) => key (Int.toNat (16 - 0) + 1) 0 _ _ _ _ _ _ _ _ _ _ _ _ _ _ _ _ (by omega) (by omega) (by first | assumption | omega | decide | (simp only [ti_0, ti_1, ti_2, ti_3, ti_4, ti_5, ti_6, ti_7, ti_8, ti_9, ti_10, ti_11, ti_12, ti_m1]; omega)) (by first | assumption | omega | decide | (simp only [ti_0, ti_1, ti_2, ti_3, ti_4, ti_5, ti_6, ti_7, ti_8, ti_9, ti_10, ti_11, ti_12, ti_m1]; omega)) (by first | assumption | exact KR_rfl _) ⟨hP, hD⟩ hS (lv_sub hl [0, 1, 2, 3, 4, 5, 6] rfl)) ?_
        intro n9_62
        induction n9_62 with
        | zero => intro k9_62 x9_62_5 x9_62_4 f9_62_2 f9_62_3 f9_62_4 f9_62_5 f9_62_6 f9_62_7 v9_62_8 v9_62_9 v9_62_10 v9_62_11 v9_62_12 H locs ls hq1 hq2; exact absurd hq2 (by omega)
        | succ n9_62 ih_62 =>
          intro k9_62 x9_62_5 x9_62_4 f9_62_2 f9_62_3 f9_62_4 f9_62_5 f9_62_6 f9_62_7 v9_62_8 v9_62_9 v9_62_10 v9_62_11 v9_62_12 H locs ls hq1_62 hq2_62 h9_62_0 h9_62_1 h9_62_2 hPD hS hl
          obtain ⟨hP, hD⟩ := hPD
          have hk9_62 : (nI k9_62).toInt = (k9_62 : Int) := nI_toInt (by omega)
          refine lv_iload hx hb dX9_felled_62 (lv_at hl 0 rfl) ?_
          refine lv_aload_n hx hb dX9_felled_64 rfl (lv_at hl 4 rfl) ?_
          refine va_get (D := D) (ci := 9) (v := .ref (g 0)) (C := RX9) (T := TX9) (N := 37) hx hb htg gRX9 hown hK hP 0 rfl rfl 1 (by decide) (htg _ wi_1151) (fun _ h9 => h9) rfl dX9_felled_65 ?_
          refine lv_iconst (v := 0) hx hb dX9_felled_68 (by decide) ?_
          refine va_iald hx hb hK hP 1 0 rfl rfl (by unfold vp_in; decide) dX9_felled_69 ?_
          refine lv_topi (fun z_13 ez_13 => ?_)
          have iz_13 : 0 ≤ z_13.toInt ∧ z_13.toInt ≤ 16 := by rw [ez_13]; exact rd0 h9_62_0 (by decide) rfl
          have nz_13 : z_13.toInt = ((f9_62_2) 0).toInt := by rw [ez_13]; rfl
          refine lv_icmp_ge (tgt := 151) hx hb dX9_felled_70 (by decide) (fun c_14 => ?_) (fun c_14 => ?_)
          · have ic_14 : z_13.toInt ≤ ((k9_62 : Nat) : Int) := ile c_14 (rfl) (nI_toInt (by omega))
            refine lv_iload_n hx hb dX9_felled_151 rfl (lv_at hl 6 rfl) ?_
            refine lv_if_ne (tgt := 160) hx hb dX9_felled_152 (by decide) (fun c_15 => ?_) (fun c_15 => ?_)
            · have ic_15 : ¬ y.toInt = 0 := ine c_15 (rfl) (by decide)
              refine lv_iload hx hb dX9_felled_160 (lv_at hl 1 rfl) ?_
              exact x_iret hx hb hr hlk hP hD hS [0, 1, 2, 3, 4, 5, 6] ((0, v9_62_8, v9_62_9, v9_62_10, v9_62_11, v9_62_12, f9_62_2, f9_62_3, f9_62_4, f9_62_5, f9_62_6, f9_62_7)) rfl (by decide) ⟨by (try dsimp only); first | assumption | omega | decide | exact Or.inl (by decide) | (intro h9; exact absurd h9 (by decide)) | (intro _; omega) | (intro _; assumption) | (intro _; decide), by (try dsimp only); first | assumption | exact KR_rfl _, by (try dsimp only); first | assumption | omega | decide | exact Or.inl (by decide) | (intro h9; exact absurd h9 (by decide)) | (intro _; omega) | (intro _; assumption) | (intro _; decide), trivial⟩ (by decide) (by decide) dX9_felled_162
            · have ic_15 : y.toInt = 0 := ieq c_15 (rfl) (by decide)
              refine lv_iload hx hb dX9_felled_155 (lv_at hl 2 rfl) ?_
              refine lv_goto (tgt := 162) hx hb dX9_felled_157 (by decide) ?_
              exact x_iret hx hb hr hlk hP hD hS [0, 1, 2, 3, 4, 5, 6] ((0, v9_62_8, v9_62_9, v9_62_10, v9_62_11, v9_62_12, f9_62_2, f9_62_3, f9_62_4, f9_62_5, f9_62_6, f9_62_7)) rfl (by decide) ⟨by (try dsimp only); first | assumption | omega | decide | exact Or.inl (by decide) | (intro h9; exact absurd h9 (by decide)) | (intro _; omega) | (intro _; assumption) | (intro _; decide), by (try dsimp only); first | assumption | exact KR_rfl _, by (try dsimp only); first | assumption | omega | decide | exact Or.inl (by decide) | (intro h9; exact absurd h9 (by decide)) | (intro _; omega) | (intro _; assumption) | (intro _; decide), trivial⟩ (by decide) (by decide) dX9_felled_162
          · have ic_14 : ((k9_62 : Nat) : Int) < z_13.toInt := inle c_14 (rfl) (nI_toInt (by omega))
            refine lv_aload_n hx hb dX9_felled_73 rfl (lv_at hl 4 rfl) ?_
            refine va_get (D := D) (ci := 9) (v := .ref (g 0)) (C := RX9) (T := TX9) (N := 37) hx hb htg gRX9 hown hK hP 0 rfl rfl 1 (by decide) (htg _ wi_1151) (fun _ h9 => h9) rfl dX9_felled_74 ?_
            refine lv_bipush (v := 48) hx hb dX9_felled_77 (by decide) ?_
            refine lv_iload hx hb dX9_felled_79 (lv_at hl 0 rfl) ?_
            refine lv_iadd hx hb dX9_felled_81 ?_
            refine lv_is (y := nI (48 + k9_62)) (nI_add 48 (k9_62)) ?_
            refine va_iald hx hb hK hP 1 0 rfl rfl (vp_in_nI (by omega) (by omega)) dX9_felled_82 ?_
            refine lv_topi (fun z_16 ez_16 => ?_)
            refine lv_istore (lv' := [(7, .int z_16), (6, .int (nI k9_62)), (5, .int x9_62_5), (4, .int x9_62_4), (3, .int r_12), (0, .ref h0), (1, .int x), (2, .int y)]) hx hb dX9_felled_83 hl (by decide) rfl (fun ls hl => ?_)
            refine lv_iload hx hb dX9_felled_85 (lv_at hl 0 rfl) ?_
            refine lv_if_ne (tgt := 93) hx hb dX9_felled_87 (by decide) (fun c_17 => ?_) (fun c_17 => ?_)
            · have ic_17 : ¬ z_16.toInt = 0 := ine c_17 (rfl) (by decide)
              refine lv_aload_n hx hb dX9_felled_93 rfl (lv_at hl 5 rfl) ?_
              refine va_get (D := D) (ci := 9) (v := .ref (g 0)) (C := RX9) (T := TX9) (N := 37) hx hb htg gRX9 hown hK hP 0 rfl rfl 1 (by decide) (htg _ wi_1151) (fun _ h9 => h9) rfl dX9_felled_94 ?_
              refine lv_bipush (v := 48) hx hb dX9_felled_97 (by decide) ?_
              refine lv_iload hx hb dX9_felled_99 (lv_at hl 1 rfl) ?_
              refine lv_iadd hx hb dX9_felled_101 ?_
              refine lv_is (y := nI (48 + k9_62)) (nI_add 48 (k9_62)) ?_
              refine lv_iconst (v := 0) hx hb dX9_felled_102 (by decide) ?_
              refine va_iast hx hb hK hP hD hS 1 0 rfl rfl (vp_in_nI (by omega) (by omega)) dX9_felled_103 (fun H locs hP hD hS => ?_)
              obtain ⟨f_18, ef_18, hP, hD⟩ : ∃ f_18 : Nat → Int32, f_18 = upd (f9_62_2) ((nI (48 + k9_62)) : Int32).toNatClampNeg 0 ∧ PD D A [(sw_9 h0 g 0 b5 b6 b7 b8 b9 b10 b11 b12 b13 b14 b17 b18 b19 v9_62_8 v9_62_9 v9_62_10 v9_62_11 v9_62_12 b29 b31 b32 b33), (sw_in cT (g 0) 288 f_18), (sw_in cT (g 4) 6 f9_62_3), (sw_in cT (g 5) 960 f9_62_4), (sw_in cT (g 6) 8 f9_62_5), (sw_in cT (g 7) 8 f9_62_6), (sw_in cT (g 8) 6 f9_62_7)] H := ⟨_, rfl, hP, hD⟩
              have qf_18 : PI 288 f_18 := by rw [ef_18]; exact pi_upd (a := ((48 + k9_62 : Nat) : Int)) (b := 0) h9_62_0 (nI_toInt (by omega)) (by decide) (by omega) (by unfold OKP; omega)
              refine lv_aload_n hx hb dX9_felled_104 rfl (lv_at hl 5 rfl) ?_
              refine lv_iconst (v := 0) hx hb dX9_felled_105 (by decide) ?_
              refine lv_iconst (v := 0) hx hb dX9_felled_106 (by decide) ?_
              refine lv_iload_n hx hb dX9_felled_107 rfl (lv_at hl 6 rfl) ?_
              refine xk_i (wr := []) (xr_V (n := 3) (As := [.int 0, .int 0, .int x]) (rest := []) ⟨hx, hb, hml, hown, htg⟩ hK hN hP hD hS hA [0, 1, 2, 3, 4, 5, 6] rfl (by decide) (m_laysBestK l D cT _ (h0) (g) (0) (b5) (b6) (b7) (b8) (b9) (b10) (b11) (b12) (b13) (b14) (b17) (b18) (b19) (v9_62_8) (v9_62_9) (v9_62_10) (v9_62_11) (v9_62_12) (b29) (b31) (b32) (b33) (by first | assumption | omega | decide | exact Or.inl (by decide) | (intro h9; exact absurd h9 (by decide)) | (intro _; omega) | (intro _; assumption) | (intro _; decide)) (f_18) (by first | assumption | omega | decide | exact Or.inl (by decide) | (intro h9; exact absurd h9 (by decide)) | (intro _; omega) | (intro _; assumption) | (intro _; decide)) (f9_62_3) (f9_62_4) (by first | assumption | omega | decide | exact Or.inl (by decide) | (intro h9; exact absurd h9 (by decide)) | (intro _; omega) | (intro _; assumption) | (intro _; decide)) (f9_62_5) (f9_62_6) (f9_62_7) (0) (0) (x) (by first | assumption | omega | decide | exact Or.inl (by decide) | (intro h9; exact absurd h9 (by decide)) | (intro _; omega) | (intro _; assumption) | (intro _; decide)) (by first | assumption | omega | decide | exact Or.inl (by decide) | (intro h9; exact absurd h9 (by decide)) | (intro _; omega) | (intro _; assumption) | (intro _; decide))) wi_1478 wi_1480 wi_106 wi_131 wi_1481 rfl rfl rfl ⟨rfl, by decide +kernel⟩ ⟨Nat.le_of_ble_eq_true rfl, Nat.le_of_ble_eq_true rfl⟩ rfl hl.1 rfl (Nat.le_of_ble_eq_true rfl) dX9_felled_108 ⟨Nat.le_of_ble_eq_true rfl, Nat.le_of_ble_eq_true rfl⟩) hP hD hS hA [0, 1, 2, 3, 4, 5, 6] [] rfl rfl (by decide) (by decide) (fun r_20 u_19 H locs hwr_20 hP hD hS => ?_)
              obtain ⟨hP, hD⟩ : PD D A [(sw_9 h0 g 0 b5 b6 b7 b8 b9 b10 b11 b12 b13 b14 b17 b18 b19 u_19.1 u_19.2.1 u_19.2.2.1 u_19.2.2.2.1 u_19.2.2.2.2.1 b29 b31 b32 b33), (sw_in cT (g 0) 288 u_19.2.2.2.2.2.1), (sw_in cT (g 4) 6 u_19.2.2.2.2.2.2.1), (sw_in cT (g 5) 960 u_19.2.2.2.2.2.2.2.1), (sw_in cT (g 6) 8 u_19.2.2.2.2.2.2.2.2.1), (sw_in cT (g 7) 8 u_19.2.2.2.2.2.2.2.2.2.1), (sw_in cT (g 8) 6 u_19.2.2.2.2.2.2.2.2.2.2)] _ := ⟨hP, hD⟩
              have qr_20_0 : PI 288 u_19.2.2.2.2.2.1 := hwr_20.1
              have qr_20_1 : KR u_19.2.2.2.2.2.1 f_18 := hwr_20.2.1
              have qr_20_2 : PI 960 u_19.2.2.2.2.2.2.2.1 := hwr_20.2.2.1
              refine lv_iload_n hx hb dX9_felled_111 rfl (lv_at hl 4 rfl) ?_
              refine lv_isub hx hb dX9_felled_112 ?_
              refine lv_topi (fun z_21 ez_21 => ?_)
              refine lv_istore (lv' := [(8, .int z_21), (7, .int z_16), (6, .int (nI k9_62)), (5, .int x9_62_5), (4, .int x9_62_4), (3, .int r_12), (0, .ref h0), (1, .int x), (2, .int y)]) hx hb dX9_felled_113 hl (by decide) rfl (fun ls hl => ?_)
              refine lv_aload_n hx hb dX9_felled_115 rfl (lv_at hl 6 rfl) ?_
              refine va_get (D := D) (ci := 9) (v := .ref (g 0)) (C := RX9) (T := TX9) (N := 37) hx hb htg gRX9 hown hK hP 0 rfl rfl 1 (by decide) (htg _ wi_1151) (fun _ h9 => h9) rfl dX9_felled_116 ?_
              refine lv_bipush (v := 48) hx hb dX9_felled_119 (by decide) ?_
              refine lv_iload hx hb dX9_felled_121 (lv_at hl 2 rfl) ?_
              refine lv_iadd hx hb dX9_felled_123 ?_
              refine lv_is (y := nI (48 + k9_62)) (nI_add 48 (k9_62)) ?_
              refine lv_iload hx hb dX9_felled_124 (lv_at hl 1 rfl) ?_
              refine va_iast hx hb hK hP hD hS 1 0 rfl rfl (vp_in_nI (by omega) (by omega)) dX9_felled_126 (fun H locs hP hD hS => ?_)
              obtain ⟨f_22, ef_22, hP, hD⟩ : ∃ f_22 : Nat → Int32, f_22 = upd (u_19.2.2.2.2.2.1) ((nI (48 + k9_62)) : Int32).toNatClampNeg z_16 ∧ PD D A [(sw_9 h0 g 0 b5 b6 b7 b8 b9 b10 b11 b12 b13 b14 b17 b18 b19 u_19.1 u_19.2.1 u_19.2.2.1 u_19.2.2.2.1 u_19.2.2.2.2.1 b29 b31 b32 b33), (sw_in cT (g 0) 288 f_22), (sw_in cT (g 4) 6 u_19.2.2.2.2.2.2.1), (sw_in cT (g 5) 960 u_19.2.2.2.2.2.2.2.1), (sw_in cT (g 6) 8 u_19.2.2.2.2.2.2.2.2.1), (sw_in cT (g 7) 8 u_19.2.2.2.2.2.2.2.2.2.1), (sw_in cT (g 8) 6 u_19.2.2.2.2.2.2.2.2.2.2)] H := ⟨_, rfl, hP, hD⟩
              have qf_22 : PI 288 f_22 := by rw [ef_22]; exact pi_upd (a := ((48 + k9_62 : Nat) : Int)) (b := z_16.toInt) qr_20_0 (nI_toInt (by omega)) (rfl) (by omega) (by unfold OKP; omega)
              have hw_krb_23 : z_16 = (f9_62_2) (48 + (k9_62 : Int)).toNat := by rw [ez_16, nI_clamp (by omega)]; exact congrArg _ (show _ = Int.toNat _ from by omega)
              have krb_23 : KR f_22 a0 := KR_tr (KR_put (a := 48 + (k9_62 : Int)) ef_18 qr_20_1 ef_22 (by first | omega | exact (nI_toInt (by omega)).trans (by omega)) (by first | omega | exact (nI_toInt (by omega)).trans (by omega)) (by omega) hw_krb_23) h9_62_2
              refine lv_iload hx hb dX9_felled_127 (lv_at hl 0 rfl) ?_
              refine lv_iload hx hb dX9_felled_129 (lv_at hl 4 rfl) ?_
              refine lv_icmp_gt (tgt := 137) hx hb dX9_felled_131 (by decide) (fun c_24 => ?_) (fun c_24 => ?_)
              · have ic_24 : x9_62_4.toInt < z_21.toInt := ilt c_24 (rfl) (rfl)
                refine lv_iload hx hb dX9_felled_137 (lv_at hl 0 rfl) ?_
                refine lv_istore (lv' := [(4, .int z_21), (8, .int z_21), (7, .int z_16), (6, .int (nI k9_62)), (5, .int x9_62_5), (3, .int r_12), (0, .ref h0), (1, .int x), (2, .int y)]) hx hb dX9_felled_139 hl (by decide) rfl (fun ls hl => ?_)
                refine lv_iload hx hb dX9_felled_141 (lv_at hl 3 rfl) ?_
                refine lv_istore (lv' := [(5, .int (nI k9_62)), (4, .int z_21), (8, .int z_21), (7, .int z_16), (6, .int (nI k9_62)), (3, .int r_12), (0, .ref h0), (1, .int x), (2, .int y)]) hx hb dX9_felled_143 hl (by decide) rfl (fun ls hl => ?_)
                refine lv_iinc (v := (nI (k9_62 + 1))) (lv' := [(6, .int (nI (k9_62 + 1))), (5, .int (nI k9_62)), (4, .int z_21), (8, .int z_21), (7, .int z_16), (3, .int r_12), (0, .ref h0), (1, .int x), (2, .int y)]) hx hb dX9_felled_145 hl (k := 4) rfl (by exact nI_1 (k9_62)) (by decide) rfl (fun ls hl => ?_)
                refine lv_goto (tgt := 62) hx hb dX9_felled_148 (by decide) ?_
                exact ih_62 (k9_62 + 1) _ _ _ _ _ _ _ _ _ _ _ _ _ _ _ _ (by omega) (by omega) (by first | assumption | omega | decide | (simp only [ti_0, ti_1, ti_2, ti_3, ti_4, ti_5, ti_6, ti_7, ti_8, ti_9, ti_10, ti_11, ti_12, ti_m1]; omega)) (by first | assumption | omega | decide | (simp only [ti_0, ti_1, ti_2, ti_3, ti_4, ti_5, ti_6, ti_7, ti_8, ti_9, ti_10, ti_11, ti_12, ti_m1]; omega)) (by first | assumption | exact KR_rfl _) ⟨hP.sub [0, 1, 2, 3, 4, 5, 6] rfl, hD.sub [0, 1, 2, 3, 4, 5, 6] (by decide) rfl⟩ hS (lv_sub hl [0, 1, 2, 5, 6, 7, 8] rfl)
              · have ic_24 : z_21.toInt ≤ x9_62_4.toInt := inlt c_24 (rfl) (rfl)
                refine lv_goto (tgt := 145) hx hb dX9_felled_134 (by decide) ?_
                refine lv_iinc (v := (nI (k9_62 + 1))) (lv' := [(6, .int (nI (k9_62 + 1))), (8, .int z_21), (7, .int z_16), (5, .int x9_62_5), (4, .int x9_62_4), (3, .int r_12), (0, .ref h0), (1, .int x), (2, .int y)]) hx hb dX9_felled_145 hl (k := 2) rfl (by exact nI_1 (k9_62)) (by decide) rfl (fun ls hl => ?_)
                refine lv_goto (tgt := 62) hx hb dX9_felled_148 (by decide) ?_
                exact ih_62 (k9_62 + 1) _ _ _ _ _ _ _ _ _ _ _ _ _ _ _ _ (by omega) (by omega) (by first | assumption | omega | decide | (simp only [ti_0, ti_1, ti_2, ti_3, ti_4, ti_5, ti_6, ti_7, ti_8, ti_9, ti_10, ti_11, ti_12, ti_m1]; omega)) (by first | assumption | omega | decide | (simp only [ti_0, ti_1, ti_2, ti_3, ti_4, ti_5, ti_6, ti_7, ti_8, ti_9, ti_10, ti_11, ti_12, ti_m1]; omega)) (by first | assumption | exact KR_rfl _) ⟨hP.sub [0, 1, 2, 3, 4, 5, 6] rfl, hD.sub [0, 1, 2, 3, 4, 5, 6] (by decide) rfl⟩ hS (lv_sub hl [0, 3, 4, 5, 6, 7, 8] rfl)
            · have ic_17 : z_16.toInt = 0 := ieq c_17 (rfl) (by decide)
              refine lv_goto (tgt := 145) hx hb dX9_felled_90 (by decide) ?_
              refine lv_iinc (v := (nI (k9_62 + 1))) (lv' := [(6, .int (nI (k9_62 + 1))), (7, .int z_16), (5, .int x9_62_5), (4, .int x9_62_4), (3, .int r_12), (0, .ref h0), (1, .int x), (2, .int y)]) hx hb dX9_felled_145 hl (k := 1) rfl (by exact nI_1 (k9_62)) (by decide) rfl (fun ls hl => ?_)
              refine lv_goto (tgt := 62) hx hb dX9_felled_148 (by decide) ?_
              exact ih_62 (k9_62 + 1) _ _ _ _ _ _ _ _ _ _ _ _ _ _ _ _ (by omega) (by omega) (by first | assumption | omega | decide | (simp only [ti_0, ti_1, ti_2, ti_3, ti_4, ti_5, ti_6, ti_7, ti_8, ti_9, ti_10, ti_11, ti_12, ti_m1]; omega)) (by first | assumption | omega | decide | (simp only [ti_0, ti_1, ti_2, ti_3, ti_4, ti_5, ti_6, ti_7, ti_8, ti_9, ti_10, ti_11, ti_12, ti_m1]; omega)) (by first | assumption | exact KR_rfl _) ⟨hP.sub [0, 1, 2, 3, 4, 5, 6] rfl, hD.sub [0, 1, 2, 3, 4, 5, 6] (by decide) rfl⟩ hS (lv_sub hl [0, 2, 3, 4, 5, 6, 7] rfl)
      · have ic_10 : z_9.toInt = 0 := ieq c_10 (rfl) (by decide)
        refine lv_bipush (v := (-5)) hx hb dX9_felled_42 (by decide) ?_
        exact x_iret hx hb hr hlk hP hD hS [0, 1, 2, 3, 4, 5, 6] ((0, b23, b24, b25, b26, b27, a0, a4, a5, a6, a7, a8)) rfl (by decide) ⟨by (try dsimp only); first | assumption | omega | decide | exact Or.inl (by decide) | (intro h9; exact absurd h9 (by decide)) | (intro _; omega) | (intro _; assumption) | (intro _; decide), by (try dsimp only); first | assumption | exact KR_rfl _, by (try dsimp only); first | assumption | omega | decide | exact Or.inl (by decide) | (intro h9; exact absurd h9 (by decide)) | (intro _; omega) | (intro _; assumption) | (intro _; decide), trivial⟩ (by decide) (by decide) dX9_felled_44
    · have ic_8 : r_7.toInt = 0 := ieq c_8 (rfl) (by decide)
      refine lv_bipush (v := (-3)) hx hb dX9_felled_30 (by decide) ?_
      exact x_iret hx hb hr hlk hP hD hS [0, 1, 2, 3, 4, 5, 6] ((0, b23, b24, b25, b26, b27, a0, a4, a5, a6, a7, a8)) rfl (by decide) ⟨by (try dsimp only); first | assumption | omega | decide | exact Or.inl (by decide) | (intro h9; exact absurd h9 (by decide)) | (intro _; omega) | (intro _; assumption) | (intro _; decide), by (try dsimp only); first | assumption | exact KR_rfl _, by (try dsimp only); first | assumption | omega | decide | exact Or.inl (by decide) | (intro h9; exact absurd h9 (by decide)) | (intro _; omega) | (intro _; assumption) | (intro _; decide), trivial⟩ (by decide) (by decide) dX9_felled_32
  · have ic_4 : r_3.toInt = 0 := ieq c_4 (rfl) (by decide)
    refine lv_bipush (v := (-2)) hx hb dX9_felled_15 (by decide) ?_
    exact x_iret hx hb hr hlk hP hD hS [0, 1, 2, 3, 4, 5, 6] ((0, b23, b24, b25, b26, b27, a0, a4, a5, a6, a7, a8)) rfl (by decide) ⟨by (try dsimp only); first | assumption | omega | decide | exact Or.inl (by decide) | (intro h9; exact absurd h9 (by decide)) | (intro _; omega) | (intro _; assumption) | (intro _; decide), by (try dsimp only); first | assumption | exact KR_rfl _, by (try dsimp only); first | assumption | omega | decide | exact Or.inl (by decide) | (intro h9; exact absurd h9 (by decide)) | (intro _; omega) | (intro _; assumption) | (intro _; decide), trivial⟩ (by decide) (by decide) dX9_felled_17
set_option maxHeartbeats 4000000 in
set_option maxRecDepth 100000 in
theorem m_shiftedK (l : Launch) (D : va_G) (cT : Nat → ClassId) (sz : Nat) (h0 : Nat) (g : Nat → Nat) (b0 : Int32) (b5 : Int32) (b6 : Int32) (b7 : Int32) (b8 : Int32) (b9 : Int32) (b10 : Int32) (b11 : Int32) (b12 : Int32) (b13 : Int32) (b14 : Int32) (b17 : Int32) (b18 : Int32) (b19 : Int32) (b23 : Int32) (b24 : Int32) (b25 : Int32) (b26 : Int32) (b27 : Int32) (b29 : Int32) (b31 : Int32) (b32 : Int32) (b33 : Int32) (hb5 : 0 ≤ b5.toInt ∧ b5.toInt ≤ 900) (a0 : Nat → Int32) (pa0 : PI 288 a0) (a4 : Nat → Int32) (a5 : Nat → Int32) (pa5 : PI 960 a5) (a6 : Nat → Int32) (a7 : Nat → Int32) (a8 : Nat → Int32) (x : Int32) (y : Int32) : Met l yX9_shifted (wsc yX9_shifted cX9_shifted 10 (some .int)) { frames := 16, cells := 0, slots := 0, locals := 465 } (va_Pc [.ref h0, .int x, .int y] (PX D cT sz [(sw_9 h0 g b0 b5 b6 b7 b8 b9 b10 b11 b12 b13 b14 b17 b18 b19 b23 b24 b25 b26 b27 b29 b31 b32 b33), (sw_in cT (g 0) 288 a0), (sw_in cT (g 4) 6 a4), (sw_in cT (g 5) 960 a5), (sw_in cT (g 6) 8 a6), (sw_in cT (g 7) 8 a7), (sw_in cT (g 8) 6 a8)])) (va_Qi (fun (r : Int32) (u : Int32 × Int32 × Int32 × Int32 × Int32 × Int32 × (Nat → Int32) × (Nat → Int32) × (Nat → Int32) × (Nat → Int32) × (Nat → Int32) × (Nat → Int32)) => (PI 288 u.2.2.2.2.2.2.1) ∧ (KR u.2.2.2.2.2.2.1 a0) ∧ (PI 960 u.2.2.2.2.2.2.2.2.1) ∧ (True)) (fun u t => RW D (va_A [(sw_9 h0 g b0 b5 b6 b7 b8 b9 b10 b11 b12 b13 b14 b17 b18 b19 b23 b24 b25 b26 b27 b29 b31 b32 b33), (sw_in cT (g 0) 288 a0), (sw_in cT (g 4) 6 a4), (sw_in cT (g 5) 960 a5), (sw_in cT (g 6) 8 a6), (sw_in cT (g 7) 8 a7), (sw_in cT (g 8) 6 a8)] sz) ((fun u : Int32 × Int32 × Int32 × Int32 × Int32 × Int32 × (Nat → Int32) × (Nat → Int32) × (Nat → Int32) × (Nat → Int32) × (Nat → Int32) × (Nat → Int32) => [(sw_9 h0 g u.1 b5 b6 b7 b8 b9 b10 b11 b12 b13 b14 b17 b18 b19 u.2.1 u.2.2.1 u.2.2.2.1 u.2.2.2.2.1 u.2.2.2.2.2.1 b29 b31 b32 b33), (sw_in cT (g 0) 288 u.2.2.2.2.2.2.1), (sw_in cT (g 4) 6 u.2.2.2.2.2.2.2.1), (sw_in cT (g 5) 960 u.2.2.2.2.2.2.2.2.1), (sw_in cT (g 6) 8 u.2.2.2.2.2.2.2.2.2.1), (sw_in cT (g 7) 8 u.2.2.2.2.2.2.2.2.2.2.1), (sw_in cT (g 8) 6 u.2.2.2.2.2.2.2.2.2.2.2)]) u) t) (va_A [(sw_9 h0 g b0 b5 b6 b7 b8 b9 b10 b11 b12 b13 b14 b17 b18 b19 b23 b24 b25 b26 b27 b29 b31 b32 b33), (sw_in cT (g 0) 288 a0), (sw_in cT (g 4) 6 a4), (sw_in cT (g 5) 960 a5), (sw_in cT (g 6) 8 a6), (sw_in cT (g 7) 8 a7), (sw_in cT (g 8) 6 a8)] sz)) 0 0 (va_A [(sw_9 h0 g b0 b5 b6 b7 b8 b9 b10 b11 b12 b13 b14 b17 b18 b19 b23 b24 b25 b26 b27 b29 b31 b32 b33), (sw_in cT (g 0) 288 a0), (sw_in cT (g 4) 6 a4), (sw_in cT (g 5) 960 a5), (sw_in cT (g 6) 8 a6), (sw_in cT (g 7) 8 a7), (sw_in cT (g 8) 6 a8)] sz) := by
  refine m_of (y := yX9_shifted) (cc := cX9_shifted) (nL := 10) (ret := (some .int)) (D := D) (cT := cT) (av := [.ref h0, .int x, .int y]) (wi := [(sw_9 h0 g b0 b5 b6 b7 b8 b9 b10 b11 b12 b13 b14 b17 b18 b19 b23 b24 b25 b26 b27 b29 b31 b32 b33), (sw_in cT (g 0) 288 a0), (sw_in cT (g 4) 6 a4), (sw_in cT (g 5) 960 a5), (sw_in cT (g 6) 8 a6), (sw_in cT (g 7) 8 a7), (sw_in cT (g 8) 6 a8)]) (fun A => va_Qi (fun (r : Int32) (u : Int32 × Int32 × Int32 × Int32 × Int32 × Int32 × (Nat → Int32) × (Nat → Int32) × (Nat → Int32) × (Nat → Int32) × (Nat → Int32) × (Nat → Int32)) => (PI 288 u.2.2.2.2.2.2.1) ∧ (KR u.2.2.2.2.2.2.1 a0) ∧ (PI 960 u.2.2.2.2.2.2.2.2.1) ∧ (True)) (fun u t => RW D A ((fun u : Int32 × Int32 × Int32 × Int32 × Int32 × Int32 × (Nat → Int32) × (Nat → Int32) × (Nat → Int32) × (Nat → Int32) × (Nat → Int32) × (Nat → Int32) => [(sw_9 h0 g u.1 b5 b6 b7 b8 b9 b10 b11 b12 b13 b14 b17 b18 b19 u.2.1 u.2.2.1 u.2.2.2.1 u.2.2.2.2.1 u.2.2.2.2.2.1 b29 b31 b32 b33), (sw_in cT (g 0) 288 u.2.2.2.2.2.2.1), (sw_in cT (g 4) 6 u.2.2.2.2.2.2.2.1), (sw_in cT (g 5) 960 u.2.2.2.2.2.2.2.2.1), (sw_in cT (g 6) 8 u.2.2.2.2.2.2.2.2.2.1), (sw_in cT (g 7) 8 u.2.2.2.2.2.2.2.2.2.2.1), (sw_in cT (g 8) 6 u.2.2.2.2.2.2.2.2.2.2.2)]) u) t) A) (by decide) (Nat.le_of_ble_eq_true rfl) ?_
  intro p e s m below meth c A hx hb hml hown htg hK hN hr hlk hnm hsz hP hD hS hA ls hl
  have hown : s.vm.findClass RX9 = some m.cls := hown
  have hl : lv_has ls 10 [(0, .ref h0), (1, .int x), (2, .int y)] := hl
  have tc_m5 : ((-5) : Int32).toInt = (-5) := by decide
  have tc_m3 : ((-3) : Int32).toInt = (-3) := by decide
  have tc_m2 : ((-2) : Int32).toInt = (-2) := by decide
  have tc_m1 : ((-1) : Int32).toInt = (-1) := by decide
  have tc_0 : (0 : Int32).toInt = 0 := by decide
  have tc_1 : (1 : Int32).toInt = 1 := by decide
  have tc_9 : (9 : Int32).toInt = 9 := by decide
  have tc_32 : (32 : Int32).toInt = 32 := by decide
  refine lv_aload_n hx hb dX9_shifted_0 rfl (lv_at hl 0 rfl) ?_
  refine lv_iconst (v := 0) hx hb dX9_shifted_1 (by decide) ?_
  refine va_put (D := D) (ci := 9) (v := .int 0) (ty := .int) (C := RX9) (T := TX9) (N := 37) hx hb htg gRX9 tyX9 tyX9_ok nmX9 hown hK hP hD hS 0 rfl rfl 0 (by decide) (htg _ wi_1150) (fun _ h9 => h9) rfl (by decide +kernel) rfl rfl (Nat.le_of_ble_eq_true rfl) dX9_shifted_2 (fun H locs hP hD hS => ?_)
  obtain ⟨hP, hD⟩ : PD D A [(sw_9 h0 g 0 b5 b6 b7 b8 b9 b10 b11 b12 b13 b14 b17 b18 b19 b23 b24 b25 b26 b27 b29 b31 b32 b33), (sw_in cT (g 0) 288 a0), (sw_in cT (g 4) 6 a4), (sw_in cT (g 5) 960 a5), (sw_in cT (g 6) 8 a6), (sw_in cT (g 7) 8 a7), (sw_in cT (g 8) 6 a8)] _ := ⟨hP, hD⟩
  refine lv_iload_n hx hb dX9_shifted_5 rfl (lv_at hl 2 rfl) ?_
  refine lv_i2l (v := y.toInt64) hx hb dX9_shifted_6 rfl ?_
  refine lv_lconst (v := 0) hx hb dX9_shifted_7 (by decide) ?_
  refine lv_ldc2 (v := 2) hx hb hown (htg _ wi_1420) dX9_shifted_8 ?_
  have ilw_1 : (y.toInt64).toInt = y.toInt := i2l_i _
  refine xk_i (wr := [(sw_9 h0 g 0 b5 b6 b7 b8 b9 b10 b11 b12 b13 b14 b17 b18 b19 b23 b24 b25 b26 b27 b29 b31 b32 b33), (sw_in cT (g 0) 288 a0), (sw_in cT (g 4) 6 a4), (sw_in cT (g 5) 960 a5), (sw_in cT (g 6) 8 a6), (sw_in cT (g 7) 8 a7), (sw_in cT (g 8) 6 a8)]) (xr_S (n := 3) (As := [.long y.toInt64, .long 0, .long 2]) (rest := []) ⟨hx, hb, hml, hown, htg⟩ hK hN hP hD hS hA [] rfl (by decide) (m_within l D cT _ (y.toInt64) (0) (2) (y.toInt) (0) (2) (i2l_i _) (by decide) (by decide)) wi_1270 wi_1271 wi_131 wi_1272 ⟨rfl, by decide +kernel⟩ ⟨Nat.le_of_ble_eq_true rfl, Nat.le_of_ble_eq_true rfl⟩ rfl hl.1 rfl (Nat.le_of_ble_eq_true rfl) dX9_shifted_11 ⟨Nat.le_of_ble_eq_true rfl, Nat.le_of_ble_eq_true rfl⟩) hP hD hS hA [] [0, 1, 2, 3, 4, 5, 6] rfl rfl (by decide) (by decide) (fun r_3 u_2 H locs hwr_3 hP hD hS => ?_)
  obtain ⟨hP, hD⟩ : PD D A [(sw_9 h0 g 0 b5 b6 b7 b8 b9 b10 b11 b12 b13 b14 b17 b18 b19 b23 b24 b25 b26 b27 b29 b31 b32 b33), (sw_in cT (g 0) 288 a0), (sw_in cT (g 4) 6 a4), (sw_in cT (g 5) 960 a5), (sw_in cT (g 6) 8 a6), (sw_in cT (g 7) 8 a7), (sw_in cT (g 8) 6 a8)] _ := ⟨hP, hD⟩
  have qr_3_0 : Imp (¬ r_3.toInt = 0) (0 ≤ y.toInt ∧ y.toInt ≤ 2) := hwr_3.1
  have qr_3_1 : r_3 = 0 ∨ r_3 = 1 := hwr_3.2.1
  refine lv_if_ne (tgt := 20) hx hb dX9_shifted_14 (by decide) (fun c_4 => ?_) (fun c_4 => ?_)
  · have ic_4 : ¬ r_3.toInt = 0 := ine c_4 (rfl) (by decide)
    have kqr_3_0 : 0 ≤ y.toInt ∧ y.toInt ≤ 2 := qr_3_0 ic_4
    refine lv_iload_n hx hb dX9_shifted_20 rfl (lv_at hl 1 rfl) ?_
    refine lv_i2l (v := x.toInt64) hx hb dX9_shifted_21 rfl ?_
    refine lv_lconst (v := 1) hx hb dX9_shifted_22 (by decide) ?_
    refine lv_ldc2 (v := 5) hx hb hown (htg _ wi_1342) dX9_shifted_23 ?_
    have ilw_5 : (x.toInt64).toInt = x.toInt := i2l_i _
    refine xk_i (wr := [(sw_9 h0 g 0 b5 b6 b7 b8 b9 b10 b11 b12 b13 b14 b17 b18 b19 b23 b24 b25 b26 b27 b29 b31 b32 b33), (sw_in cT (g 0) 288 a0), (sw_in cT (g 4) 6 a4), (sw_in cT (g 5) 960 a5), (sw_in cT (g 6) 8 a6), (sw_in cT (g 7) 8 a7), (sw_in cT (g 8) 6 a8)]) (xr_S (n := 3) (As := [.long x.toInt64, .long 1, .long 5]) (rest := []) ⟨hx, hb, hml, hown, htg⟩ hK hN hP hD hS hA [] rfl (by decide) (m_within l D cT _ (x.toInt64) (1) (5) (x.toInt) (1) (5) (i2l_i _) (by decide) (by decide)) wi_1270 wi_1271 wi_131 wi_1272 ⟨rfl, by decide +kernel⟩ ⟨Nat.le_of_ble_eq_true rfl, Nat.le_of_ble_eq_true rfl⟩ rfl hl.1 rfl (Nat.le_of_ble_eq_true rfl) dX9_shifted_26 ⟨Nat.le_of_ble_eq_true rfl, Nat.le_of_ble_eq_true rfl⟩) hP hD hS hA [] [0, 1, 2, 3, 4, 5, 6] rfl rfl (by decide) (by decide) (fun r_7 u_6 H locs hwr_7 hP hD hS => ?_)
    obtain ⟨hP, hD⟩ : PD D A [(sw_9 h0 g 0 b5 b6 b7 b8 b9 b10 b11 b12 b13 b14 b17 b18 b19 b23 b24 b25 b26 b27 b29 b31 b32 b33), (sw_in cT (g 0) 288 a0), (sw_in cT (g 4) 6 a4), (sw_in cT (g 5) 960 a5), (sw_in cT (g 6) 8 a6), (sw_in cT (g 7) 8 a7), (sw_in cT (g 8) 6 a8)] _ := ⟨hP, hD⟩
    have qr_7_0 : Imp (¬ r_7.toInt = 0) (1 ≤ x.toInt ∧ x.toInt ≤ 5) := hwr_7.1
    have qr_7_1 : r_7 = 0 ∨ r_7 = 1 := hwr_7.2.1
    refine lv_if_ne (tgt := 35) hx hb dX9_shifted_29 (by decide) (fun c_8 => ?_) (fun c_8 => ?_)
    · have ic_8 : ¬ r_7.toInt = 0 := ine c_8 (rfl) (by decide)
      have kqr_7_0 : 1 ≤ x.toInt ∧ x.toInt ≤ 5 := qr_7_0 ic_8
      refine lv_aload_n hx hb dX9_shifted_35 rfl (lv_at hl 0 rfl) ?_
      refine va_get (D := D) (ci := 9) (v := .ref (g 0)) (C := RX9) (T := TX9) (N := 37) hx hb htg gRX9 hown hK hP 0 rfl rfl 1 (by decide) (htg _ wi_1151) (fun _ h9 => h9) rfl dX9_shifted_36 ?_
      refine lv_iconst (v := 0) hx hb dX9_shifted_39 (by decide) ?_
      refine va_iald hx hb hK hP 1 0 rfl rfl (by unfold vp_in; decide) dX9_shifted_40 ?_
      refine lv_topi (fun z_9 ez_9 => ?_)
      have iz_9 : 0 ≤ z_9.toInt ∧ z_9.toInt ≤ 16 := by rw [ez_9]; exact rd0 pa0 (by decide) rfl
      have nz_9 : z_9.toInt = ((a0) 0).toInt := by rw [ez_9]; rfl
      refine lv_if_ne (tgt := 47) hx hb dX9_shifted_41 (by decide) (fun c_10 => ?_) (fun c_10 => ?_)
      · have ic_10 : ¬ z_9.toInt = 0 := ine c_10 (rfl) (by decide)
        refine lv_aload_n hx hb dX9_shifted_47 rfl (lv_at hl 0 rfl) ?_
        refine lv_iconst (v := 0) hx hb dX9_shifted_48 (by decide) ?_
        refine lv_iconst (v := 0) hx hb dX9_shifted_49 (by decide) ?_
        refine lv_iload_n hx hb dX9_shifted_50 rfl (lv_at hl 1 rfl) ?_
        refine xk_i (wr := []) (xr_V (n := 3) (As := [.int 0, .int 0, .int x]) (rest := []) ⟨hx, hb, hml, hown, htg⟩ hK hN hP hD hS hA [0, 1, 2, 3, 4, 5, 6] rfl (by decide) (m_laysBestK l D cT _ (h0) (g) (0) (b5) (b6) (b7) (b8) (b9) (b10) (b11) (b12) (b13) (b14) (b17) (b18) (b19) (b23) (b24) (b25) (b26) (b27) (b29) (b31) (b32) (b33) (by first | assumption | omega | decide | exact Or.inl (by decide) | (intro h9; exact absurd h9 (by decide)) | (intro _; omega) | (intro _; assumption) | (intro _; decide)) (a0) (by first | assumption | omega | decide | exact Or.inl (by decide) | (intro h9; exact absurd h9 (by decide)) | (intro _; omega) | (intro _; assumption) | (intro _; decide)) (a4) (a5) (by first | assumption | omega | decide | exact Or.inl (by decide) | (intro h9; exact absurd h9 (by decide)) | (intro _; omega) | (intro _; assumption) | (intro _; decide)) (a6) (a7) (a8) (0) (0) (x) (by first | assumption | omega | decide | exact Or.inl (by decide) | (intro h9; exact absurd h9 (by decide)) | (intro _; omega) | (intro _; assumption) | (intro _; decide)) (by first | assumption | omega | decide | exact Or.inl (by decide) | (intro h9; exact absurd h9 (by decide)) | (intro _; omega) | (intro _; assumption) | (intro _; decide))) wi_1478 wi_1480 wi_106 wi_131 wi_1481 rfl rfl rfl ⟨rfl, by decide +kernel⟩ ⟨Nat.le_of_ble_eq_true rfl, Nat.le_of_ble_eq_true rfl⟩ rfl hl.1 rfl (Nat.le_of_ble_eq_true rfl) dX9_shifted_51 ⟨Nat.le_of_ble_eq_true rfl, Nat.le_of_ble_eq_true rfl⟩) hP hD hS hA [0, 1, 2, 3, 4, 5, 6] [] rfl rfl (by decide) (by decide) (fun r_12 u_11 H locs hwr_12 hP hD hS => ?_)
        obtain ⟨hP, hD⟩ : PD D A [(sw_9 h0 g 0 b5 b6 b7 b8 b9 b10 b11 b12 b13 b14 b17 b18 b19 u_11.1 u_11.2.1 u_11.2.2.1 u_11.2.2.2.1 u_11.2.2.2.2.1 b29 b31 b32 b33), (sw_in cT (g 0) 288 u_11.2.2.2.2.2.1), (sw_in cT (g 4) 6 u_11.2.2.2.2.2.2.1), (sw_in cT (g 5) 960 u_11.2.2.2.2.2.2.2.1), (sw_in cT (g 6) 8 u_11.2.2.2.2.2.2.2.2.1), (sw_in cT (g 7) 8 u_11.2.2.2.2.2.2.2.2.2.1), (sw_in cT (g 8) 6 u_11.2.2.2.2.2.2.2.2.2.2)] _ := ⟨hP, hD⟩
        have qr_12_0 : PI 288 u_11.2.2.2.2.2.1 := hwr_12.1
        have qr_12_1 : KR u_11.2.2.2.2.2.1 a0 := hwr_12.2.1
        have kqr_12_1 : KR u_11.2.2.2.2.2.1 (a0) := KR_tr qr_12_1 (KR_rfl a0)
        have qr_12_2 : PI 960 u_11.2.2.2.2.2.2.2.1 := hwr_12.2.2.1
        refine lv_istore_n (lv' := [(3, .int r_12), (0, .ref h0), (1, .int x), (2, .int y)]) hx hb dX9_shifted_54 rfl hl (by decide) rfl (fun ls hl => ?_)
        refine lv_iconst (v := 0) hx hb dX9_shifted_55 (by decide) ?_
        refine lv_istore (lv' := [(4, .int 0), (3, .int r_12), (0, .ref h0), (1, .int x), (2, .int y)]) hx hb dX9_shifted_56 hl (by decide) rfl (fun ls hl => ?_)
        refine lv_iconst (v := (-1)) hx hb dX9_shifted_58 (by decide) ?_
        refine lv_istore (lv' := [(5, .int (-1)), (4, .int 0), (3, .int r_12), (0, .ref h0), (1, .int x), (2, .int y)]) hx hb dX9_shifted_59 hl (by decide) rfl (fun ls hl => ?_)
        refine lv_iconst (v := (-1)) hx hb dX9_shifted_61 (by decide) ?_
        refine lv_istore (lv' := [(6, .int (-1)), (5, .int (-1)), (4, .int 0), (3, .int r_12), (0, .ref h0), (1, .int x), (2, .int y)]) hx hb dX9_shifted_62 hl (by decide) rfl (fun ls hl => ?_)
        refine lv_iconst (v := 0) hx hb dX9_shifted_64 (by decide) ?_
        refine lv_istore (lv' := [(7, .int 0), (6, .int (-1)), (5, .int (-1)), (4, .int 0), (3, .int r_12), (0, .ref h0), (1, .int x), (2, .int y)]) hx hb dX9_shifted_65 hl (by decide) rfl (fun ls hl => ?_)
        refine (fun (key : ∀ (n9_67 : Nat) (k9_67 : Nat) (x9_67_6 : Int32) (x9_67_5 : Int32) (x9_67_4 : Int32) (f9_67_3 : Nat → Int32) (f9_67_4 : Nat → Int32) (f9_67_5 : Nat → Int32) (f9_67_6 : Nat → Int32) (f9_67_7 : Nat → Int32) (f9_67_8 : Nat → Int32) (v9_67_9 : Int32) (v9_67_10 : Int32) (v9_67_11 : Int32) (v9_67_12 : Int32) (v9_67_13 : Int32) (H : Heap) (locs : List Loc) (ls : Array Slot), (k9_67 : Int) ≤ 16 → 16 < (k9_67 : Int) + n9_67 → PI 288 f9_67_3 → PI 960 f9_67_5 → KR f9_67_3 (a0) → PD D A [(sw_9 h0 g 0 b5 b6 b7 b8 b9 b10 b11 b12 b13 b14 b17 b18 b19 v9_67_9 v9_67_10 v9_67_11 v9_67_12 v9_67_13 b29 b31 b32 b33), (sw_in cT (g 0) 288 f9_67_3), (sw_in cT (g 4) 6 f9_67_4), (sw_in cT (g 5) 960 f9_67_5), (sw_in cT (g 6) 8 f9_67_6), (sw_in cT (g 7) 8 f9_67_7), (sw_in cT (g 8) 6 f9_67_8)] H → va_S A s.heap H locs → lv_has ls 10 [(7, .int (nI k9_67)), (6, .int x9_67_6), (5, .int x9_67_5), (4, .int x9_67_4), (3, .int r_12), (0, .ref h0), (1, .int x), (2, .int y)] → W p l e _ s m _ below meth c H locs _ _ _ (F0 m 67 ls [])) => key (Int.toNat (16 - 0) + 1) 0 _ _ _ _ _ _ _ _ _ _ _ _ _ _ _ _ _ (by omega) (by omega) (by first | assumption | omega | decide | (simp only [ti_0, ti_1, ti_2, ti_3, ti_4, ti_5, ti_6, ti_7, ti_8, ti_9, ti_10, ti_11, ti_12, ti_m1]; omega)) (by first | assumption | omega | decide | (simp only [ti_0, ti_1, ti_2, ti_3, ti_4, ti_5, ti_6, ti_7, ti_8, ti_9, ti_10, ti_11, ti_12, ti_m1]; omega)) (by first | assumption | exact KR_rfl _) ⟨hP, hD⟩ hS (lv_sub hl [0, 1, 2, 3, 4, 5, 6, 7] rfl)) ?_
        intro n9_67
        induction n9_67 with
        | zero => intro k9_67 x9_67_6 x9_67_5 x9_67_4 f9_67_3 f9_67_4 f9_67_5 f9_67_6 f9_67_7 f9_67_8 v9_67_9 v9_67_10 v9_67_11 v9_67_12 v9_67_13 H locs ls hq1 hq2; exact absurd hq2 (by omega)
        | succ n9_67 ih_67 =>
          intro k9_67 x9_67_6 x9_67_5 x9_67_4 f9_67_3 f9_67_4 f9_67_5 f9_67_6 f9_67_7 f9_67_8 v9_67_9 v9_67_10 v9_67_11 v9_67_12 v9_67_13 H locs ls hq1_67 hq2_67 h9_67_0 h9_67_1 h9_67_2 hPD hS hl
          obtain ⟨hP, hD⟩ := hPD
          have hk9_67 : (nI k9_67).toInt = (k9_67 : Int) := nI_toInt (by omega)
          refine lv_iload hx hb dX9_shifted_67 (lv_at hl 0 rfl) ?_
          refine lv_aload_n hx hb dX9_shifted_69 rfl (lv_at hl 5 rfl) ?_
          refine va_get (D := D) (ci := 9) (v := .ref (g 0)) (C := RX9) (T := TX9) (N := 37) hx hb htg gRX9 hown hK hP 0 rfl rfl 1 (by decide) (htg _ wi_1151) (fun _ h9 => h9) rfl dX9_shifted_70 ?_
          refine lv_iconst (v := 0) hx hb dX9_shifted_73 (by decide) ?_
          refine va_iald hx hb hK hP 1 0 rfl rfl (by unfold vp_in; decide) dX9_shifted_74 ?_
          refine lv_topi (fun z_13 ez_13 => ?_)
          have iz_13 : 0 ≤ z_13.toInt ∧ z_13.toInt ≤ 16 := by rw [ez_13]; exact rd0 h9_67_0 (by decide) rfl
          have nz_13 : z_13.toInt = ((f9_67_3) 0).toInt := by rw [ez_13]; rfl
          refine lv_icmp_ge (tgt := 231) hx hb dX9_shifted_75 (by decide) (fun c_14 => ?_) (fun c_14 => ?_)
          · have ic_14 : z_13.toInt ≤ ((k9_67 : Nat) : Int) := ile c_14 (rfl) (nI_toInt (by omega))
            refine lv_iload_n hx hb dX9_shifted_231 rfl (lv_at hl 7 rfl) ?_
            refine lv_if_ne (tgt := 240) hx hb dX9_shifted_232 (by decide) (fun c_15 => ?_) (fun c_15 => ?_)
            · have ic_15 : ¬ y.toInt = 0 := ine c_15 (rfl) (by decide)
              refine lv_iload_n hx hb dX9_shifted_240 rfl (lv_at hl 7 rfl) ?_
              refine lv_iconst (v := 1) hx hb dX9_shifted_241 (by decide) ?_
              refine lv_icmp_ne (tgt := 250) hx hb dX9_shifted_242 (by decide) (fun c_16 => ?_) (fun c_16 => ?_)
              · have ic_16 : ¬ y.toInt = 1 := ine c_16 (rfl) (by decide)
                refine lv_iload hx hb dX9_shifted_250 (lv_at hl 1 rfl) ?_
                exact x_iret hx hb hr hlk hP hD hS [0, 1, 2, 3, 4, 5, 6] ((0, v9_67_9, v9_67_10, v9_67_11, v9_67_12, v9_67_13, f9_67_3, f9_67_4, f9_67_5, f9_67_6, f9_67_7, f9_67_8)) rfl (by decide) ⟨by (try dsimp only); first | assumption | omega | decide | exact Or.inl (by decide) | (intro h9; exact absurd h9 (by decide)) | (intro _; omega) | (intro _; assumption) | (intro _; decide), by (try dsimp only); first | assumption | exact KR_rfl _, by (try dsimp only); first | assumption | omega | decide | exact Or.inl (by decide) | (intro h9; exact absurd h9 (by decide)) | (intro _; omega) | (intro _; assumption) | (intro _; decide), trivial⟩ (by decide) (by decide) dX9_shifted_252
              · have ic_16 : y.toInt = 1 := ieq c_16 (rfl) (by decide)
                refine lv_iload hx hb dX9_shifted_245 (lv_at hl 2 rfl) ?_
                refine lv_goto (tgt := 252) hx hb dX9_shifted_247 (by decide) ?_
                exact x_iret hx hb hr hlk hP hD hS [0, 1, 2, 3, 4, 5, 6] ((0, v9_67_9, v9_67_10, v9_67_11, v9_67_12, v9_67_13, f9_67_3, f9_67_4, f9_67_5, f9_67_6, f9_67_7, f9_67_8)) rfl (by decide) ⟨by (try dsimp only); first | assumption | omega | decide | exact Or.inl (by decide) | (intro h9; exact absurd h9 (by decide)) | (intro _; omega) | (intro _; assumption) | (intro _; decide), by (try dsimp only); first | assumption | exact KR_rfl _, by (try dsimp only); first | assumption | omega | decide | exact Or.inl (by decide) | (intro h9; exact absurd h9 (by decide)) | (intro _; omega) | (intro _; assumption) | (intro _; decide), trivial⟩ (by decide) (by decide) dX9_shifted_252
            · have ic_15 : y.toInt = 0 := ieq c_15 (rfl) (by decide)
              refine lv_iload hx hb dX9_shifted_235 (lv_at hl 3 rfl) ?_
              refine lv_goto (tgt := 252) hx hb dX9_shifted_237 (by decide) ?_
              exact x_iret hx hb hr hlk hP hD hS [0, 1, 2, 3, 4, 5, 6] ((0, v9_67_9, v9_67_10, v9_67_11, v9_67_12, v9_67_13, f9_67_3, f9_67_4, f9_67_5, f9_67_6, f9_67_7, f9_67_8)) rfl (by decide) ⟨by (try dsimp only); first | assumption | omega | decide | exact Or.inl (by decide) | (intro h9; exact absurd h9 (by decide)) | (intro _; omega) | (intro _; assumption) | (intro _; decide), by (try dsimp only); first | assumption | exact KR_rfl _, by (try dsimp only); first | assumption | omega | decide | exact Or.inl (by decide) | (intro h9; exact absurd h9 (by decide)) | (intro _; omega) | (intro _; assumption) | (intro _; decide), trivial⟩ (by decide) (by decide) dX9_shifted_252
          · have ic_14 : ((k9_67 : Nat) : Int) < z_13.toInt := inle c_14 (rfl) (nI_toInt (by omega))
            refine lv_iconst (v := 0) hx hb dX9_shifted_78 (by decide) ?_
            refine lv_istore (lv' := [(8, .int 0), (7, .int (nI k9_67)), (6, .int x9_67_6), (5, .int x9_67_5), (4, .int x9_67_4), (3, .int r_12), (0, .ref h0), (1, .int x), (2, .int y)]) hx hb dX9_shifted_79 hl (by decide) rfl (fun ls hl => ?_)
            refine (fun (key : ∀ (n9_81 : Nat) (k9_81 : Nat) (x9_81_6 : Int32) (x9_81_5 : Int32) (x9_81_4 : Int32) (f9_81_3 : Nat → Int32) (f9_81_4 : Nat → Int32) (f9_81_5 : Nat → Int32) (f9_81_6 : Nat → Int32) (f9_81_7 : Nat → Int32) (f9_81_8 : Nat → Int32) (v9_81_9 : Int32) (v9_81_10 : Int32) (v9_81_11 : Int32) (v9_81_12 : Int32) (v9_81_13 : Int32) (H : Heap) (locs : List Loc) (ls : Array Slot), (k9_81 : Int) ≤ 16 → 16 < (k9_81 : Int) + n9_81 → PI 288 f9_81_3 → PI 960 f9_81_5 → KR f9_81_3 (a0) → PD D A [(sw_9 h0 g 0 b5 b6 b7 b8 b9 b10 b11 b12 b13 b14 b17 b18 b19 v9_81_9 v9_81_10 v9_81_11 v9_81_12 v9_81_13 b29 b31 b32 b33), (sw_in cT (g 0) 288 f9_81_3), (sw_in cT (g 4) 6 f9_81_4), (sw_in cT (g 5) 960 f9_81_5), (sw_in cT (g 6) 8 f9_81_6), (sw_in cT (g 7) 8 f9_81_7), (sw_in cT (g 8) 6 f9_81_8)] H → va_S A s.heap H locs → lv_has ls 10 [(8, .int (nI k9_81)), (7, .int (nI k9_67)), (6, .int x9_81_6), (5, .int x9_81_5), (4, .int x9_81_4), (3, .int r_12), (0, .ref h0), (1, .int x), (2, .int y)] → W p l e _ s m _ below meth c H locs _ _ _ (F0 m 81 ls [])) => key (Int.toNat (16 - 0) + 1) 0 _ _ _ _ _ _ _ _ _ _ _ _ _ _ _ _ _ (by omega) (by omega) (by first | assumption | omega | decide | (simp only [ti_0, ti_1, ti_2, ti_3, ti_4, ti_5, ti_6, ti_7, ti_8, ti_9, ti_10, ti_11, ti_12, ti_m1]; omega)) (by first | assumption | omega | decide | (simp only [ti_0, ti_1, ti_2, ti_3, ti_4, ti_5, ti_6, ti_7, ti_8, ti_9, ti_10, ti_11, ti_12, ti_m1]; omega)) (by first | assumption | exact KR_rfl _) ⟨hP, hD⟩ hS (lv_sub hl [0, 1, 2, 3, 4, 5, 6, 7, 8] rfl)) ?_
            intro n9_81
            induction n9_81 with
            | zero => intro k9_81 x9_81_6 x9_81_5 x9_81_4 f9_81_3 f9_81_4 f9_81_5 f9_81_6 f9_81_7 f9_81_8 v9_81_9 v9_81_10 v9_81_11 v9_81_12 v9_81_13 H locs ls hq1 hq2; exact absurd hq2 (by omega)
            | succ n9_81 ih_81 =>
              intro k9_81 x9_81_6 x9_81_5 x9_81_4 f9_81_3 f9_81_4 f9_81_5 f9_81_6 f9_81_7 f9_81_8 v9_81_9 v9_81_10 v9_81_11 v9_81_12 v9_81_13 H locs ls hq1_81 hq2_81 h9_81_0 h9_81_1 h9_81_2 hPD hS hl
              obtain ⟨hP, hD⟩ := hPD
              have hk9_81 : (nI k9_81).toInt = (k9_81 : Int) := nI_toInt (by omega)
              refine lv_iload hx hb dX9_shifted_81 (lv_at hl 0 rfl) ?_
              refine lv_aload_n hx hb dX9_shifted_83 rfl (lv_at hl 6 rfl) ?_
              refine va_get (D := D) (ci := 9) (v := .ref (g 0)) (C := RX9) (T := TX9) (N := 37) hx hb htg gRX9 hown hK hP 0 rfl rfl 1 (by decide) (htg _ wi_1151) (fun _ h9 => h9) rfl dX9_shifted_84 ?_
              refine lv_iconst (v := 0) hx hb dX9_shifted_87 (by decide) ?_
              refine va_iald hx hb hK hP 1 0 rfl rfl (by unfold vp_in; decide) dX9_shifted_88 ?_
              refine lv_topi (fun z_17 ez_17 => ?_)
              have iz_17 : 0 ≤ z_17.toInt ∧ z_17.toInt ≤ 16 := by rw [ez_17]; exact rd0 h9_81_0 (by decide) rfl
              have nz_17 : z_17.toInt = ((f9_81_3) 0).toInt := by rw [ez_17]; rfl
              refine lv_icmp_ge (tgt := 225) hx hb dX9_shifted_89 (by decide) (fun c_18 => ?_) (fun c_18 => ?_)
              · have ic_18 : z_17.toInt ≤ ((k9_81 : Nat) : Int) := ile c_18 (rfl) (nI_toInt (by omega))
                refine lv_iinc (v := (nI (k9_67 + 1))) (lv' := [(7, .int (nI (k9_67 + 1))), (8, .int (nI k9_81)), (6, .int x9_81_6), (5, .int x9_81_5), (4, .int x9_81_4), (3, .int r_12), (0, .ref h0), (1, .int x), (2, .int y)]) hx hb dX9_shifted_225 hl (k := 1) rfl (by exact nI_1 (k9_67)) (by decide) rfl (fun ls hl => ?_)
                refine lv_goto (tgt := 67) hx hb dX9_shifted_228 (by decide) ?_
                exact ih_67 (k9_67 + 1) _ _ _ _ _ _ _ _ _ _ _ _ _ _ _ _ _ (by omega) (by omega) (by first | assumption | omega | decide | (simp only [ti_0, ti_1, ti_2, ti_3, ti_4, ti_5, ti_6, ti_7, ti_8, ti_9, ti_10, ti_11, ti_12, ti_m1]; omega)) (by first | assumption | omega | decide | (simp only [ti_0, ti_1, ti_2, ti_3, ti_4, ti_5, ti_6, ti_7, ti_8, ti_9, ti_10, ti_11, ti_12, ti_m1]; omega)) (by first | assumption | exact KR_rfl _) ⟨hP.sub [0, 1, 2, 3, 4, 5, 6] rfl, hD.sub [0, 1, 2, 3, 4, 5, 6] (by decide) rfl⟩ hS (lv_sub hl [0, 2, 3, 4, 5, 6, 7, 8] rfl)
              · have ic_18 : ((k9_81 : Nat) : Int) < z_17.toInt := inle c_18 (rfl) (nI_toInt (by omega))
                refine lv_iload hx hb dX9_shifted_92 (lv_at hl 1 rfl) ?_
                refine lv_iload hx hb dX9_shifted_94 (lv_at hl 0 rfl) ?_
                refine lv_icmp_eq (tgt := 219) hx hb dX9_shifted_96 (by decide) (fun c_19 => ?_) (fun c_19 => ?_)
                · have ic_19 : ((k9_67 : Nat) : Int) = ((k9_81 : Nat) : Int) := ieq c_19 (nI_toInt (by omega)) (nI_toInt (by omega))
                  refine lv_iinc (v := (nI (k9_81 + 1))) (lv' := [(8, .int (nI (k9_81 + 1))), (7, .int (nI k9_67)), (6, .int x9_81_6), (5, .int x9_81_5), (4, .int x9_81_4), (3, .int r_12), (0, .ref h0), (1, .int x), (2, .int y)]) hx hb dX9_shifted_219 hl (k := 0) rfl (by exact nI_1 (k9_81)) (by decide) rfl (fun ls hl => ?_)
                  refine lv_goto (tgt := 81) hx hb dX9_shifted_222 (by decide) ?_
                  exact ih_81 (k9_81 + 1) _ _ _ _ _ _ _ _ _ _ _ _ _ _ _ _ _ (by omega) (by omega) (by first | assumption | omega | decide | (simp only [ti_0, ti_1, ti_2, ti_3, ti_4, ti_5, ti_6, ti_7, ti_8, ti_9, ti_10, ti_11, ti_12, ti_m1]; omega)) (by first | assumption | omega | decide | (simp only [ti_0, ti_1, ti_2, ti_3, ti_4, ti_5, ti_6, ti_7, ti_8, ti_9, ti_10, ti_11, ti_12, ti_m1]; omega)) (by first | assumption | exact KR_rfl _) ⟨hP.sub [0, 1, 2, 3, 4, 5, 6] rfl, hD.sub [0, 1, 2, 3, 4, 5, 6] (by decide) rfl⟩ hS (lv_sub hl [0, 1, 2, 3, 4, 5, 6, 7, 8] rfl)
                · have ic_19 : ¬ ((k9_67 : Nat) : Int) = ((k9_81 : Nat) : Int) := ine c_19 (nI_toInt (by omega)) (nI_toInt (by omega))
                  refine lv_aload_n hx hb dX9_shifted_99 rfl (lv_at hl 6 rfl) ?_
                  refine va_get (D := D) (ci := 9) (v := .ref (g 0)) (C := RX9) (T := TX9) (N := 37) hx hb htg gRX9 hown hK hP 0 rfl rfl 1 (by decide) (htg _ wi_1151) (fun _ h9 => h9) rfl dX9_shifted_100 ?_
                  refine lv_bipush (v := 32) hx hb dX9_shifted_103 (by decide) ?_
                  refine lv_iload hx hb dX9_shifted_105 (lv_at hl 1 rfl) ?_
                  refine lv_iadd hx hb dX9_shifted_107 ?_
                  refine lv_is (y := nI (32 + k9_67)) (nI_add 32 (k9_67)) ?_
                  refine va_iald hx hb hK hP 1 0 rfl rfl (vp_in_nI (by omega) (by omega)) dX9_shifted_108 ?_
                  refine lv_topi (fun z_20 ez_20 => ?_)
                  refine lv_if_eq (tgt := 219) hx hb dX9_shifted_109 (by decide) (fun c_21 => ?_) (fun c_21 => ?_)
                  · have ic_21 : z_20.toInt = 0 := ieq c_21 (rfl) (by decide)
                    refine lv_iinc (v := (nI (k9_81 + 1))) (lv' := [(8, .int (nI (k9_81 + 1))), (7, .int (nI k9_67)), (6, .int x9_81_6), (5, .int x9_81_5), (4, .int x9_81_4), (3, .int r_12), (0, .ref h0), (1, .int x), (2, .int y)]) hx hb dX9_shifted_219 hl (k := 0) rfl (by exact nI_1 (k9_81)) (by decide) rfl (fun ls hl => ?_)
                    refine lv_goto (tgt := 81) hx hb dX9_shifted_222 (by decide) ?_
                    exact ih_81 (k9_81 + 1) _ _ _ _ _ _ _ _ _ _ _ _ _ _ _ _ _ (by omega) (by omega) (by first | assumption | omega | decide | (simp only [ti_0, ti_1, ti_2, ti_3, ti_4, ti_5, ti_6, ti_7, ti_8, ti_9, ti_10, ti_11, ti_12, ti_m1]; omega)) (by first | assumption | omega | decide | (simp only [ti_0, ti_1, ti_2, ti_3, ti_4, ti_5, ti_6, ti_7, ti_8, ti_9, ti_10, ti_11, ti_12, ti_m1]; omega)) (by first | assumption | exact KR_rfl _) ⟨hP.sub [0, 1, 2, 3, 4, 5, 6] rfl, hD.sub [0, 1, 2, 3, 4, 5, 6] (by decide) rfl⟩ hS (lv_sub hl [0, 1, 2, 3, 4, 5, 6, 7, 8] rfl)
                  · have ic_21 : ¬ z_20.toInt = 0 := ine c_21 (rfl) (by decide)
                    refine lv_aload_n hx hb dX9_shifted_112 rfl (lv_at hl 6 rfl) ?_
                    refine va_get (D := D) (ci := 9) (v := .ref (g 0)) (C := RX9) (T := TX9) (N := 37) hx hb htg gRX9 hown hK hP 0 rfl rfl 1 (by decide) (htg _ wi_1151) (fun _ h9 => h9) rfl dX9_shifted_113 ?_
                    refine lv_bipush (v := 32) hx hb dX9_shifted_116 (by decide) ?_
                    refine lv_iload hx hb dX9_shifted_118 (lv_at hl 0 rfl) ?_
                    refine lv_iadd hx hb dX9_shifted_120 ?_
                    refine lv_is (y := nI (32 + k9_81)) (nI_add 32 (k9_81)) ?_
                    refine va_iald hx hb hK hP 1 0 rfl rfl (vp_in_nI (by omega) (by omega)) dX9_shifted_121 ?_
                    refine lv_topi (fun z_22 ez_22 => ?_)
                    refine lv_bipush (v := 9) hx hb dX9_shifted_122 (by decide) ?_
                    refine lv_icmp_ne (tgt := 130) hx hb dX9_shifted_124 (by decide) (fun c_23 => ?_) (fun c_23 => ?_)
                    · have ic_23 : ¬ z_22.toInt = 9 := ine c_23 (rfl) (by decide)
                      refine lv_aload_n hx hb dX9_shifted_130 rfl (lv_at hl 6 rfl) ?_
                      refine va_get (D := D) (ci := 9) (v := .ref (g 0)) (C := RX9) (T := TX9) (N := 37) hx hb htg gRX9 hown hK hP 0 rfl rfl 1 (by decide) (htg _ wi_1151) (fun _ h9 => h9) rfl dX9_shifted_131 ?_
                      refine lv_bipush (v := 32) hx hb dX9_shifted_134 (by decide) ?_
                      refine lv_iload hx hb dX9_shifted_136 (lv_at hl 1 rfl) ?_
                      refine lv_iadd hx hb dX9_shifted_138 ?_
                      refine lv_is (y := nI (32 + k9_67)) (nI_add 32 (k9_67)) ?_
                      refine lv_dup2_11 hx hb dX9_shifted_139 rfl rfl ?_
                      refine va_iald hx hb hK hP 1 0 rfl rfl (vp_in_nI (by omega) (by omega)) dX9_shifted_140 ?_
                      refine lv_topi (fun z_24 ez_24 => ?_)
                      refine lv_iconst (v := 1) hx hb dX9_shifted_141 (by decide) ?_
                      refine lv_isub hx hb dX9_shifted_142 ?_
                      refine lv_topi (fun z_25 ez_25 => ?_)
                      refine va_iast hx hb hK hP hD hS 1 0 rfl rfl (vp_in_nI (by omega) (by omega)) dX9_shifted_143 (fun H locs hP hD hS => ?_)
                      obtain ⟨f_26, ef_26, hP, hD⟩ : ∃ f_26 : Nat → Int32, f_26 = upd (f9_81_3) ((nI (32 + k9_67)) : Int32).toNatClampNeg z_25 ∧ PD D A [(sw_9 h0 g 0 b5 b6 b7 b8 b9 b10 b11 b12 b13 b14 b17 b18 b19 v9_81_9 v9_81_10 v9_81_11 v9_81_12 v9_81_13 b29 b31 b32 b33), (sw_in cT (g 0) 288 f_26), (sw_in cT (g 4) 6 f9_81_4), (sw_in cT (g 5) 960 f9_81_5), (sw_in cT (g 6) 8 f9_81_6), (sw_in cT (g 7) 8 f9_81_7), (sw_in cT (g 8) 6 f9_81_8)] H := ⟨_, rfl, hP, hD⟩
                      have qf_26 : PI 288 f_26 := by rw [ef_26]; exact pi_upd (a := ((32 + k9_67 : Nat) : Int)) (b := z_25.toInt) h9_81_0 (nI_toInt (by omega)) (rfl) (by omega) (by unfold OKP; omega)
                      refine lv_aload_n hx hb dX9_shifted_144 rfl (lv_at hl 6 rfl) ?_
                      refine va_get (D := D) (ci := 9) (v := .ref (g 0)) (C := RX9) (T := TX9) (N := 37) hx hb htg gRX9 hown hK hP 0 rfl rfl 1 (by decide) (htg _ wi_1151) (fun _ h9 => h9) rfl dX9_shifted_145 ?_
                      refine lv_bipush (v := 32) hx hb dX9_shifted_148 (by decide) ?_
                      refine lv_iload hx hb dX9_shifted_150 (lv_at hl 0 rfl) ?_
                      refine lv_iadd hx hb dX9_shifted_152 ?_
                      refine lv_is (y := nI (32 + k9_81)) (nI_add 32 (k9_81)) ?_
                      refine lv_dup2_11 hx hb dX9_shifted_153 rfl rfl ?_
                      refine va_iald hx hb hK hP 1 0 rfl rfl (vp_in_nI (by omega) (by omega)) dX9_shifted_154 ?_
                      refine lv_topi (fun z_27 ez_27 => ?_)
                      refine lv_iconst (v := 1) hx hb dX9_shifted_155 (by decide) ?_
                      refine lv_iadd hx hb dX9_shifted_156 ?_
                      refine lv_topi (fun z_28 ez_28 => ?_)
                      refine va_iast hx hb hK hP hD hS 1 0 rfl rfl (vp_in_nI (by omega) (by omega)) dX9_shifted_157 (fun H locs hP hD hS => ?_)
                      obtain ⟨f_29, ef_29, hP, hD⟩ : ∃ f_29 : Nat → Int32, f_29 = upd (f_26) ((nI (32 + k9_81)) : Int32).toNatClampNeg z_28 ∧ PD D A [(sw_9 h0 g 0 b5 b6 b7 b8 b9 b10 b11 b12 b13 b14 b17 b18 b19 v9_81_9 v9_81_10 v9_81_11 v9_81_12 v9_81_13 b29 b31 b32 b33), (sw_in cT (g 0) 288 f_29), (sw_in cT (g 4) 6 f9_81_4), (sw_in cT (g 5) 960 f9_81_5), (sw_in cT (g 6) 8 f9_81_6), (sw_in cT (g 7) 8 f9_81_7), (sw_in cT (g 8) 6 f9_81_8)] H := ⟨_, rfl, hP, hD⟩
                      have qf_29 : PI 288 f_29 := by rw [ef_29]; exact pi_upd (a := ((32 + k9_81 : Nat) : Int)) (b := z_28.toInt) qf_26 (nI_toInt (by omega)) (rfl) (by omega) (by unfold OKP; omega)
                      refine lv_aload_n hx hb dX9_shifted_158 rfl (lv_at hl 6 rfl) ?_
                      refine lv_iconst (v := 0) hx hb dX9_shifted_159 (by decide) ?_
                      refine lv_iconst (v := 0) hx hb dX9_shifted_160 (by decide) ?_
                      refine lv_iload_n hx hb dX9_shifted_161 rfl (lv_at hl 7 rfl) ?_
                      refine xk_i (wr := []) (xr_V (n := 3) (As := [.int 0, .int 0, .int x]) (rest := []) ⟨hx, hb, hml, hown, htg⟩ hK hN hP hD hS hA [0, 1, 2, 3, 4, 5, 6] rfl (by decide) (m_laysBestK l D cT _ (h0) (g) (0) (b5) (b6) (b7) (b8) (b9) (b10) (b11) (b12) (b13) (b14) (b17) (b18) (b19) (v9_81_9) (v9_81_10) (v9_81_11) (v9_81_12) (v9_81_13) (b29) (b31) (b32) (b33) (by first | assumption | omega | decide | exact Or.inl (by decide) | (intro h9; exact absurd h9 (by decide)) | (intro _; omega) | (intro _; assumption) | (intro _; decide)) (f_29) (by first | assumption | omega | decide | exact Or.inl (by decide) | (intro h9; exact absurd h9 (by decide)) | (intro _; omega) | (intro _; assumption) | (intro _; decide)) (f9_81_4) (f9_81_5) (by first | assumption | omega | decide | exact Or.inl (by decide) | (intro h9; exact absurd h9 (by decide)) | (intro _; omega) | (intro _; assumption) | (intro _; decide)) (f9_81_6) (f9_81_7) (f9_81_8) (0) (0) (x) (by first | assumption | omega | decide | exact Or.inl (by decide) | (intro h9; exact absurd h9 (by decide)) | (intro _; omega) | (intro _; assumption) | (intro _; decide)) (by first | assumption | omega | decide | exact Or.inl (by decide) | (intro h9; exact absurd h9 (by decide)) | (intro _; omega) | (intro _; assumption) | (intro _; decide))) wi_1478 wi_1480 wi_106 wi_131 wi_1481 rfl rfl rfl ⟨rfl, by decide +kernel⟩ ⟨Nat.le_of_ble_eq_true rfl, Nat.le_of_ble_eq_true rfl⟩ rfl hl.1 rfl (Nat.le_of_ble_eq_true rfl) dX9_shifted_162 ⟨Nat.le_of_ble_eq_true rfl, Nat.le_of_ble_eq_true rfl⟩) hP hD hS hA [0, 1, 2, 3, 4, 5, 6] [] rfl rfl (by decide) (by decide) (fun r_31 u_30 H locs hwr_31 hP hD hS => ?_)
                      obtain ⟨hP, hD⟩ : PD D A [(sw_9 h0 g 0 b5 b6 b7 b8 b9 b10 b11 b12 b13 b14 b17 b18 b19 u_30.1 u_30.2.1 u_30.2.2.1 u_30.2.2.2.1 u_30.2.2.2.2.1 b29 b31 b32 b33), (sw_in cT (g 0) 288 u_30.2.2.2.2.2.1), (sw_in cT (g 4) 6 u_30.2.2.2.2.2.2.1), (sw_in cT (g 5) 960 u_30.2.2.2.2.2.2.2.1), (sw_in cT (g 6) 8 u_30.2.2.2.2.2.2.2.2.1), (sw_in cT (g 7) 8 u_30.2.2.2.2.2.2.2.2.2.1), (sw_in cT (g 8) 6 u_30.2.2.2.2.2.2.2.2.2.2)] _ := ⟨hP, hD⟩
                      have qr_31_0 : PI 288 u_30.2.2.2.2.2.1 := hwr_31.1
                      have qr_31_1 : KR u_30.2.2.2.2.2.1 f_29 := hwr_31.2.1
                      have qr_31_2 : PI 960 u_30.2.2.2.2.2.2.2.1 := hwr_31.2.2.1
                      refine lv_iload_n hx hb dX9_shifted_165 rfl (lv_at hl 5 rfl) ?_
                      refine lv_isub hx hb dX9_shifted_166 ?_
                      refine lv_topi (fun z_32 ez_32 => ?_)
                      refine lv_istore (lv' := [(9, .int z_32), (8, .int (nI k9_81)), (7, .int (nI k9_67)), (6, .int x9_81_6), (5, .int x9_81_5), (4, .int x9_81_4), (3, .int r_12), (0, .ref h0), (1, .int x), (2, .int y)]) hx hb dX9_shifted_167 hl (by decide) rfl (fun ls hl => ?_)
                      refine lv_aload_n hx hb dX9_shifted_169 rfl (lv_at hl 7 rfl) ?_
                      refine va_get (D := D) (ci := 9) (v := .ref (g 0)) (C := RX9) (T := TX9) (N := 37) hx hb htg gRX9 hown hK hP 0 rfl rfl 1 (by decide) (htg _ wi_1151) (fun _ h9 => h9) rfl dX9_shifted_170 ?_
                      refine lv_bipush (v := 32) hx hb dX9_shifted_173 (by decide) ?_
                      refine lv_iload hx hb dX9_shifted_175 (lv_at hl 2 rfl) ?_
                      refine lv_iadd hx hb dX9_shifted_177 ?_
                      refine lv_is (y := nI (32 + k9_67)) (nI_add 32 (k9_67)) ?_
                      refine lv_dup2_11 hx hb dX9_shifted_178 rfl rfl ?_
                      refine va_iald hx hb hK hP 1 0 rfl rfl (vp_in_nI (by omega) (by omega)) dX9_shifted_179 ?_
                      refine lv_topi (fun z_33 ez_33 => ?_)
                      refine lv_iconst (v := 1) hx hb dX9_shifted_180 (by decide) ?_
                      refine lv_iadd hx hb dX9_shifted_181 ?_
                      refine lv_topi (fun z_34 ez_34 => ?_)
                      refine va_iast hx hb hK hP hD hS 1 0 rfl rfl (vp_in_nI (by omega) (by omega)) dX9_shifted_182 (fun H locs hP hD hS => ?_)
                      obtain ⟨f_35, ef_35, hP, hD⟩ : ∃ f_35 : Nat → Int32, f_35 = upd (u_30.2.2.2.2.2.1) ((nI (32 + k9_67)) : Int32).toNatClampNeg z_34 ∧ PD D A [(sw_9 h0 g 0 b5 b6 b7 b8 b9 b10 b11 b12 b13 b14 b17 b18 b19 u_30.1 u_30.2.1 u_30.2.2.1 u_30.2.2.2.1 u_30.2.2.2.2.1 b29 b31 b32 b33), (sw_in cT (g 0) 288 f_35), (sw_in cT (g 4) 6 u_30.2.2.2.2.2.2.1), (sw_in cT (g 5) 960 u_30.2.2.2.2.2.2.2.1), (sw_in cT (g 6) 8 u_30.2.2.2.2.2.2.2.2.1), (sw_in cT (g 7) 8 u_30.2.2.2.2.2.2.2.2.2.1), (sw_in cT (g 8) 6 u_30.2.2.2.2.2.2.2.2.2.2)] H := ⟨_, rfl, hP, hD⟩
                      have qf_35 : PI 288 f_35 := by rw [ef_35]; exact pi_upd (a := ((32 + k9_67 : Nat) : Int)) (b := z_34.toInt) qr_31_0 (nI_toInt (by omega)) (rfl) (by omega) (by unfold OKP; omega)
                      refine lv_aload_n hx hb dX9_shifted_183 rfl (lv_at hl 7 rfl) ?_
                      refine va_get (D := D) (ci := 9) (v := .ref (g 0)) (C := RX9) (T := TX9) (N := 37) hx hb htg gRX9 hown hK hP 0 rfl rfl 1 (by decide) (htg _ wi_1151) (fun _ h9 => h9) rfl dX9_shifted_184 ?_
                      refine lv_bipush (v := 32) hx hb dX9_shifted_187 (by decide) ?_
                      refine lv_iload hx hb dX9_shifted_189 (lv_at hl 1 rfl) ?_
                      refine lv_iadd hx hb dX9_shifted_191 ?_
                      refine lv_is (y := nI (32 + k9_81)) (nI_add 32 (k9_81)) ?_
                      refine lv_dup2_11 hx hb dX9_shifted_192 rfl rfl ?_
                      refine va_iald hx hb hK hP 1 0 rfl rfl (vp_in_nI (by omega) (by omega)) dX9_shifted_193 ?_
                      refine lv_topi (fun z_36 ez_36 => ?_)
                      refine lv_iconst (v := 1) hx hb dX9_shifted_194 (by decide) ?_
                      refine lv_isub hx hb dX9_shifted_195 ?_
                      refine lv_topi (fun z_37 ez_37 => ?_)
                      refine va_iast hx hb hK hP hD hS 1 0 rfl rfl (vp_in_nI (by omega) (by omega)) dX9_shifted_196 (fun H locs hP hD hS => ?_)
                      obtain ⟨f_38, ef_38, hP, hD⟩ : ∃ f_38 : Nat → Int32, f_38 = upd (f_35) ((nI (32 + k9_81)) : Int32).toNatClampNeg z_37 ∧ PD D A [(sw_9 h0 g 0 b5 b6 b7 b8 b9 b10 b11 b12 b13 b14 b17 b18 b19 u_30.1 u_30.2.1 u_30.2.2.1 u_30.2.2.2.1 u_30.2.2.2.2.1 b29 b31 b32 b33), (sw_in cT (g 0) 288 f_38), (sw_in cT (g 4) 6 u_30.2.2.2.2.2.2.1), (sw_in cT (g 5) 960 u_30.2.2.2.2.2.2.2.1), (sw_in cT (g 6) 8 u_30.2.2.2.2.2.2.2.2.1), (sw_in cT (g 7) 8 u_30.2.2.2.2.2.2.2.2.2.1), (sw_in cT (g 8) 6 u_30.2.2.2.2.2.2.2.2.2.2)] H := ⟨_, rfl, hP, hD⟩
                      have qf_38 : PI 288 f_38 := by rw [ef_38]; exact pi_upd (a := ((32 + k9_81 : Nat) : Int)) (b := z_37.toInt) qf_35 (nI_toInt (by omega)) (rfl) (by omega) (by unfold OKP; omega)
                      have krt_39 : KR f_38 a0 := KR_tr (KR_two (a := 32 + (k9_67 : Int)) (b := 32 + (k9_81 : Int)) ef_26 ef_29 qr_31_1 ef_35 ef_38 (by first | omega | exact (nI_toInt (by omega)).trans (by omega)) (by first | omega | exact (nI_toInt (by omega)).trans (by omega)) (by first | omega | exact (nI_toInt (by omega)).trans (by omega)) (by first | omega | exact (nI_toInt (by omega)).trans (by omega)) (by omega) (by omega) (by omega) (by rw [ez_25, ez_24]) (by rw [ez_28, ez_27]) (by rw [ez_34, ez_33]) (by rw [ez_37, ez_36])) h9_81_2
                      refine lv_iload hx hb dX9_shifted_197 (lv_at hl 0 rfl) ?_
                      refine lv_iload hx hb dX9_shifted_199 (lv_at hl 5 rfl) ?_
                      refine lv_icmp_gt (tgt := 207) hx hb dX9_shifted_201 (by decide) (fun c_40 => ?_) (fun c_40 => ?_)
                      · have ic_40 : x9_81_4.toInt < z_32.toInt := ilt c_40 (rfl) (rfl)
                        refine lv_iload hx hb dX9_shifted_207 (lv_at hl 0 rfl) ?_
                        refine lv_istore (lv' := [(4, .int z_32), (9, .int z_32), (8, .int (nI k9_81)), (7, .int (nI k9_67)), (6, .int x9_81_6), (5, .int x9_81_5), (3, .int r_12), (0, .ref h0), (1, .int x), (2, .int y)]) hx hb dX9_shifted_209 hl (by decide) rfl (fun ls hl => ?_)
                        refine lv_iload hx hb dX9_shifted_211 (lv_at hl 3 rfl) ?_
                        refine lv_istore (lv' := [(5, .int (nI k9_67)), (4, .int z_32), (9, .int z_32), (8, .int (nI k9_81)), (7, .int (nI k9_67)), (6, .int x9_81_6), (3, .int r_12), (0, .ref h0), (1, .int x), (2, .int y)]) hx hb dX9_shifted_213 hl (by decide) rfl (fun ls hl => ?_)
                        refine lv_iload hx hb dX9_shifted_215 (lv_at hl 3 rfl) ?_
                        refine lv_istore (lv' := [(6, .int (nI k9_81)), (5, .int (nI k9_67)), (4, .int z_32), (9, .int z_32), (8, .int (nI k9_81)), (7, .int (nI k9_67)), (3, .int r_12), (0, .ref h0), (1, .int x), (2, .int y)]) hx hb dX9_shifted_217 hl (by decide) rfl (fun ls hl => ?_)
                        refine lv_iinc (v := (nI (k9_81 + 1))) (lv' := [(8, .int (nI (k9_81 + 1))), (6, .int (nI k9_81)), (5, .int (nI k9_67)), (4, .int z_32), (9, .int z_32), (7, .int (nI k9_67)), (3, .int r_12), (0, .ref h0), (1, .int x), (2, .int y)]) hx hb dX9_shifted_219 hl (k := 4) rfl (by exact nI_1 (k9_81)) (by decide) rfl (fun ls hl => ?_)
                        refine lv_goto (tgt := 81) hx hb dX9_shifted_222 (by decide) ?_
                        exact ih_81 (k9_81 + 1) _ _ _ _ _ _ _ _ _ _ _ _ _ _ _ _ _ (by omega) (by omega) (by first | assumption | omega | decide | (simp only [ti_0, ti_1, ti_2, ti_3, ti_4, ti_5, ti_6, ti_7, ti_8, ti_9, ti_10, ti_11, ti_12, ti_m1]; omega)) (by first | assumption | omega | decide | (simp only [ti_0, ti_1, ti_2, ti_3, ti_4, ti_5, ti_6, ti_7, ti_8, ti_9, ti_10, ti_11, ti_12, ti_m1]; omega)) (by first | assumption | exact KR_rfl _) ⟨hP.sub [0, 1, 2, 3, 4, 5, 6] rfl, hD.sub [0, 1, 2, 3, 4, 5, 6] (by decide) rfl⟩ hS (lv_sub hl [0, 5, 1, 2, 3, 6, 7, 8, 9] rfl)
                      · have ic_40 : z_32.toInt ≤ x9_81_4.toInt := inlt c_40 (rfl) (rfl)
                        refine lv_goto (tgt := 219) hx hb dX9_shifted_204 (by decide) ?_
                        refine lv_iinc (v := (nI (k9_81 + 1))) (lv' := [(8, .int (nI (k9_81 + 1))), (9, .int z_32), (7, .int (nI k9_67)), (6, .int x9_81_6), (5, .int x9_81_5), (4, .int x9_81_4), (3, .int r_12), (0, .ref h0), (1, .int x), (2, .int y)]) hx hb dX9_shifted_219 hl (k := 1) rfl (by exact nI_1 (k9_81)) (by decide) rfl (fun ls hl => ?_)
                        refine lv_goto (tgt := 81) hx hb dX9_shifted_222 (by decide) ?_
                        exact ih_81 (k9_81 + 1) _ _ _ _ _ _ _ _ _ _ _ _ _ _ _ _ _ (by omega) (by omega) (by first | assumption | omega | decide | (simp only [ti_0, ti_1, ti_2, ti_3, ti_4, ti_5, ti_6, ti_7, ti_8, ti_9, ti_10, ti_11, ti_12, ti_m1]; omega)) (by first | assumption | omega | decide | (simp only [ti_0, ti_1, ti_2, ti_3, ti_4, ti_5, ti_6, ti_7, ti_8, ti_9, ti_10, ti_11, ti_12, ti_m1]; omega)) (by first | assumption | exact KR_rfl _) ⟨hP.sub [0, 1, 2, 3, 4, 5, 6] rfl, hD.sub [0, 1, 2, 3, 4, 5, 6] (by decide) rfl⟩ hS (lv_sub hl [0, 2, 3, 4, 5, 6, 7, 8, 9] rfl)
                    · have ic_23 : z_22.toInt = 9 := ieq c_23 (rfl) (by decide)
                      refine lv_goto (tgt := 219) hx hb dX9_shifted_127 (by decide) ?_
                      refine lv_iinc (v := (nI (k9_81 + 1))) (lv' := [(8, .int (nI (k9_81 + 1))), (7, .int (nI k9_67)), (6, .int x9_81_6), (5, .int x9_81_5), (4, .int x9_81_4), (3, .int r_12), (0, .ref h0), (1, .int x), (2, .int y)]) hx hb dX9_shifted_219 hl (k := 0) rfl (by exact nI_1 (k9_81)) (by decide) rfl (fun ls hl => ?_)
                      refine lv_goto (tgt := 81) hx hb dX9_shifted_222 (by decide) ?_
                      exact ih_81 (k9_81 + 1) _ _ _ _ _ _ _ _ _ _ _ _ _ _ _ _ _ (by omega) (by omega) (by first | assumption | omega | decide | (simp only [ti_0, ti_1, ti_2, ti_3, ti_4, ti_5, ti_6, ti_7, ti_8, ti_9, ti_10, ti_11, ti_12, ti_m1]; omega)) (by first | assumption | omega | decide | (simp only [ti_0, ti_1, ti_2, ti_3, ti_4, ti_5, ti_6, ti_7, ti_8, ti_9, ti_10, ti_11, ti_12, ti_m1]; omega)) (by first | assumption | exact KR_rfl _) ⟨hP.sub [0, 1, 2, 3, 4, 5, 6] rfl, hD.sub [0, 1, 2, 3, 4, 5, 6] (by decide) rfl⟩ hS (lv_sub hl [0, 1, 2, 3, 4, 5, 6, 7, 8] rfl)
      · have ic_10 : z_9.toInt = 0 := ieq c_10 (rfl) (by decide)
        refine lv_bipush (v := (-5)) hx hb dX9_shifted_44 (by decide) ?_
        exact x_iret hx hb hr hlk hP hD hS [0, 1, 2, 3, 4, 5, 6] ((0, b23, b24, b25, b26, b27, a0, a4, a5, a6, a7, a8)) rfl (by decide) ⟨by (try dsimp only); first | assumption | omega | decide | exact Or.inl (by decide) | (intro h9; exact absurd h9 (by decide)) | (intro _; omega) | (intro _; assumption) | (intro _; decide), by (try dsimp only); first | assumption | exact KR_rfl _, by (try dsimp only); first | assumption | omega | decide | exact Or.inl (by decide) | (intro h9; exact absurd h9 (by decide)) | (intro _; omega) | (intro _; assumption) | (intro _; decide), trivial⟩ (by decide) (by decide) dX9_shifted_46
    · have ic_8 : r_7.toInt = 0 := ieq c_8 (rfl) (by decide)
      refine lv_bipush (v := (-3)) hx hb dX9_shifted_32 (by decide) ?_
      exact x_iret hx hb hr hlk hP hD hS [0, 1, 2, 3, 4, 5, 6] ((0, b23, b24, b25, b26, b27, a0, a4, a5, a6, a7, a8)) rfl (by decide) ⟨by (try dsimp only); first | assumption | omega | decide | exact Or.inl (by decide) | (intro h9; exact absurd h9 (by decide)) | (intro _; omega) | (intro _; assumption) | (intro _; decide), by (try dsimp only); first | assumption | exact KR_rfl _, by (try dsimp only); first | assumption | omega | decide | exact Or.inl (by decide) | (intro h9; exact absurd h9 (by decide)) | (intro _; omega) | (intro _; assumption) | (intro _; decide), trivial⟩ (by decide) (by decide) dX9_shifted_34
  · have ic_4 : r_3.toInt = 0 := ieq c_4 (rfl) (by decide)
    refine lv_bipush (v := (-2)) hx hb dX9_shifted_17 (by decide) ?_
    exact x_iret hx hb hr hlk hP hD hS [0, 1, 2, 3, 4, 5, 6] ((0, b23, b24, b25, b26, b27, a0, a4, a5, a6, a7, a8)) rfl (by decide) ⟨by (try dsimp only); first | assumption | omega | decide | exact Or.inl (by decide) | (intro h9; exact absurd h9 (by decide)) | (intro _; omega) | (intro _; assumption) | (intro _; decide), by (try dsimp only); first | assumption | exact KR_rfl _, by (try dsimp only); first | assumption | omega | decide | exact Or.inl (by decide) | (intro h9; exact absurd h9 (by decide)) | (intro _; omega) | (intro _; assumption) | (intro _; decide), trivial⟩ (by decide) (by decide) dX9_shifted_19
set_option maxHeartbeats 4000000 in
set_option maxRecDepth 100000 in
theorem m_soonestK (l : Launch) (D : va_G) (cT : Nat → ClassId) (sz : Nat) (h0 : Nat) (g : Nat → Nat) (b0 : Int32) (b5 : Int32) (b6 : Int32) (b7 : Int32) (b8 : Int32) (b9 : Int32) (b10 : Int32) (b11 : Int32) (b12 : Int32) (b13 : Int32) (b14 : Int32) (b17 : Int32) (b18 : Int32) (b19 : Int32) (b23 : Int32) (b24 : Int32) (b25 : Int32) (b26 : Int32) (b27 : Int32) (b29 : Int32) (b31 : Int32) (b32 : Int32) (b33 : Int32) (hb5 : 0 ≤ b5.toInt ∧ b5.toInt ≤ 900) (a0 : Nat → Int32) (pa0 : PI 288 a0) (a4 : Nat → Int32) (a5 : Nat → Int32) (pa5 : PI 960 a5) (a6 : Nat → Int32) (a7 : Nat → Int32) (a8 : Nat → Int32) (x : Int32) : Met l yX9_soonest (wsc yX9_soonest cX9_soonest 3 (some .int)) { frames := 16, cells := 0, slots := 0, locals := 465 } (va_Pc [.ref h0, .int x] (PX D cT sz [(sw_9 h0 g b0 b5 b6 b7 b8 b9 b10 b11 b12 b13 b14 b17 b18 b19 b23 b24 b25 b26 b27 b29 b31 b32 b33), (sw_in cT (g 0) 288 a0), (sw_in cT (g 4) 6 a4), (sw_in cT (g 5) 960 a5), (sw_in cT (g 6) 8 a6), (sw_in cT (g 7) 8 a7), (sw_in cT (g 8) 6 a8)])) (va_Qi (fun (r : Int32) (u : Int32 × Int32 × Int32 × Int32 × Int32 × Int32 × (Nat → Int32) × (Nat → Int32) × (Nat → Int32) × (Nat → Int32) × (Nat → Int32) × (Nat → Int32)) => (PI 288 u.2.2.2.2.2.2.1) ∧ (KR u.2.2.2.2.2.2.1 a0) ∧ (PI 960 u.2.2.2.2.2.2.2.2.1) ∧ (True)) (fun u t => RW D (va_A [(sw_9 h0 g b0 b5 b6 b7 b8 b9 b10 b11 b12 b13 b14 b17 b18 b19 b23 b24 b25 b26 b27 b29 b31 b32 b33), (sw_in cT (g 0) 288 a0), (sw_in cT (g 4) 6 a4), (sw_in cT (g 5) 960 a5), (sw_in cT (g 6) 8 a6), (sw_in cT (g 7) 8 a7), (sw_in cT (g 8) 6 a8)] sz) ((fun u : Int32 × Int32 × Int32 × Int32 × Int32 × Int32 × (Nat → Int32) × (Nat → Int32) × (Nat → Int32) × (Nat → Int32) × (Nat → Int32) × (Nat → Int32) => [(sw_9 h0 g u.1 b5 b6 b7 b8 b9 b10 b11 b12 b13 b14 b17 b18 b19 u.2.1 u.2.2.1 u.2.2.2.1 u.2.2.2.2.1 u.2.2.2.2.2.1 b29 b31 b32 b33), (sw_in cT (g 0) 288 u.2.2.2.2.2.2.1), (sw_in cT (g 4) 6 u.2.2.2.2.2.2.2.1), (sw_in cT (g 5) 960 u.2.2.2.2.2.2.2.2.1), (sw_in cT (g 6) 8 u.2.2.2.2.2.2.2.2.2.1), (sw_in cT (g 7) 8 u.2.2.2.2.2.2.2.2.2.2.1), (sw_in cT (g 8) 6 u.2.2.2.2.2.2.2.2.2.2.2)]) u) t) (va_A [(sw_9 h0 g b0 b5 b6 b7 b8 b9 b10 b11 b12 b13 b14 b17 b18 b19 b23 b24 b25 b26 b27 b29 b31 b32 b33), (sw_in cT (g 0) 288 a0), (sw_in cT (g 4) 6 a4), (sw_in cT (g 5) 960 a5), (sw_in cT (g 6) 8 a6), (sw_in cT (g 7) 8 a7), (sw_in cT (g 8) 6 a8)] sz)) 0 0 (va_A [(sw_9 h0 g b0 b5 b6 b7 b8 b9 b10 b11 b12 b13 b14 b17 b18 b19 b23 b24 b25 b26 b27 b29 b31 b32 b33), (sw_in cT (g 0) 288 a0), (sw_in cT (g 4) 6 a4), (sw_in cT (g 5) 960 a5), (sw_in cT (g 6) 8 a6), (sw_in cT (g 7) 8 a7), (sw_in cT (g 8) 6 a8)] sz) := by
  refine m_of (y := yX9_soonest) (cc := cX9_soonest) (nL := 3) (ret := (some .int)) (D := D) (cT := cT) (av := [.ref h0, .int x]) (wi := [(sw_9 h0 g b0 b5 b6 b7 b8 b9 b10 b11 b12 b13 b14 b17 b18 b19 b23 b24 b25 b26 b27 b29 b31 b32 b33), (sw_in cT (g 0) 288 a0), (sw_in cT (g 4) 6 a4), (sw_in cT (g 5) 960 a5), (sw_in cT (g 6) 8 a6), (sw_in cT (g 7) 8 a7), (sw_in cT (g 8) 6 a8)]) (fun A => va_Qi (fun (r : Int32) (u : Int32 × Int32 × Int32 × Int32 × Int32 × Int32 × (Nat → Int32) × (Nat → Int32) × (Nat → Int32) × (Nat → Int32) × (Nat → Int32) × (Nat → Int32)) => (PI 288 u.2.2.2.2.2.2.1) ∧ (KR u.2.2.2.2.2.2.1 a0) ∧ (PI 960 u.2.2.2.2.2.2.2.2.1) ∧ (True)) (fun u t => RW D A ((fun u : Int32 × Int32 × Int32 × Int32 × Int32 × Int32 × (Nat → Int32) × (Nat → Int32) × (Nat → Int32) × (Nat → Int32) × (Nat → Int32) × (Nat → Int32) => [(sw_9 h0 g u.1 b5 b6 b7 b8 b9 b10 b11 b12 b13 b14 b17 b18 b19 u.2.1 u.2.2.1 u.2.2.2.1 u.2.2.2.2.1 u.2.2.2.2.2.1 b29 b31 b32 b33), (sw_in cT (g 0) 288 u.2.2.2.2.2.2.1), (sw_in cT (g 4) 6 u.2.2.2.2.2.2.2.1), (sw_in cT (g 5) 960 u.2.2.2.2.2.2.2.2.1), (sw_in cT (g 6) 8 u.2.2.2.2.2.2.2.2.2.1), (sw_in cT (g 7) 8 u.2.2.2.2.2.2.2.2.2.2.1), (sw_in cT (g 8) 6 u.2.2.2.2.2.2.2.2.2.2.2)]) u) t) A) (by decide) (Nat.le_of_ble_eq_true rfl) ?_
  intro p e s m below meth c A hx hb hml hown htg hK hN hr hlk hnm hsz hP hD hS hA ls hl
  have hown : s.vm.findClass RX9 = some m.cls := hown
  have hl : lv_has ls 3 [(0, .ref h0), (1, .int x)] := hl
  have tc_m5 : ((-5) : Int32).toInt = (-5) := by decide
  have tc_m3 : ((-3) : Int32).toInt = (-3) := by decide
  have tc_m1 : ((-1) : Int32).toInt = (-1) := by decide
  have tc_0 : (0 : Int32).toInt = 0 := by decide
  have tc_8 : (8 : Int32).toInt = 8 := by decide
  refine lv_aload_n hx hb dX9_soonest_0 rfl (lv_at hl 0 rfl) ?_
  refine lv_iconst (v := 0) hx hb dX9_soonest_1 (by decide) ?_
  refine va_put (D := D) (ci := 9) (v := .int 0) (ty := .int) (C := RX9) (T := TX9) (N := 37) hx hb htg gRX9 tyX9 tyX9_ok nmX9 hown hK hP hD hS 0 rfl rfl 0 (by decide) (htg _ wi_1150) (fun _ h9 => h9) rfl (by decide +kernel) rfl rfl (Nat.le_of_ble_eq_true rfl) dX9_soonest_2 (fun H locs hP hD hS => ?_)
  obtain ⟨hP, hD⟩ : PD D A [(sw_9 h0 g 0 b5 b6 b7 b8 b9 b10 b11 b12 b13 b14 b17 b18 b19 b23 b24 b25 b26 b27 b29 b31 b32 b33), (sw_in cT (g 0) 288 a0), (sw_in cT (g 4) 6 a4), (sw_in cT (g 5) 960 a5), (sw_in cT (g 6) 8 a6), (sw_in cT (g 7) 8 a7), (sw_in cT (g 8) 6 a8)] _ := ⟨hP, hD⟩
  refine lv_iload_n hx hb dX9_soonest_5 rfl (lv_at hl 1 rfl) ?_
  refine lv_i2l (v := x.toInt64) hx hb dX9_soonest_6 rfl ?_
  refine lv_lconst (v := 0) hx hb dX9_soonest_7 (by decide) ?_
  refine lv_ldc2 (v := 9999) hx hb hown (htg _ wi_1527) dX9_soonest_8 ?_
  have ilw_1 : (x.toInt64).toInt = x.toInt := i2l_i _
  refine xk_i (wr := [(sw_9 h0 g 0 b5 b6 b7 b8 b9 b10 b11 b12 b13 b14 b17 b18 b19 b23 b24 b25 b26 b27 b29 b31 b32 b33), (sw_in cT (g 0) 288 a0), (sw_in cT (g 4) 6 a4), (sw_in cT (g 5) 960 a5), (sw_in cT (g 6) 8 a6), (sw_in cT (g 7) 8 a7), (sw_in cT (g 8) 6 a8)]) (xr_S (n := 3) (As := [.long x.toInt64, .long 0, .long 9999]) (rest := []) ⟨hx, hb, hml, hown, htg⟩ hK hN hP hD hS hA [] rfl (by decide) (m_within l D cT _ (x.toInt64) (0) (9999) (x.toInt) (0) (9999) (i2l_i _) (by decide) (by decide)) wi_1270 wi_1271 wi_131 wi_1272 ⟨rfl, by decide +kernel⟩ ⟨Nat.le_of_ble_eq_true rfl, Nat.le_of_ble_eq_true rfl⟩ rfl hl.1 rfl (Nat.le_of_ble_eq_true rfl) dX9_soonest_11 ⟨Nat.le_of_ble_eq_true rfl, Nat.le_of_ble_eq_true rfl⟩) hP hD hS hA [] [0, 1, 2, 3, 4, 5, 6] rfl rfl (by decide) (by decide) (fun r_3 u_2 H locs hwr_3 hP hD hS => ?_)
  obtain ⟨hP, hD⟩ : PD D A [(sw_9 h0 g 0 b5 b6 b7 b8 b9 b10 b11 b12 b13 b14 b17 b18 b19 b23 b24 b25 b26 b27 b29 b31 b32 b33), (sw_in cT (g 0) 288 a0), (sw_in cT (g 4) 6 a4), (sw_in cT (g 5) 960 a5), (sw_in cT (g 6) 8 a6), (sw_in cT (g 7) 8 a7), (sw_in cT (g 8) 6 a8)] _ := ⟨hP, hD⟩
  have qr_3_0 : Imp (¬ r_3.toInt = 0) (0 ≤ x.toInt ∧ x.toInt ≤ 9999) := hwr_3.1
  have qr_3_1 : r_3 = 0 ∨ r_3 = 1 := hwr_3.2.1
  refine lv_if_ne (tgt := 20) hx hb dX9_soonest_14 (by decide) (fun c_4 => ?_) (fun c_4 => ?_)
  · have ic_4 : ¬ r_3.toInt = 0 := ine c_4 (rfl) (by decide)
    have kqr_3_0 : 0 ≤ x.toInt ∧ x.toInt ≤ 9999 := qr_3_0 ic_4
    refine lv_aload_n hx hb dX9_soonest_20 rfl (lv_at hl 0 rfl) ?_
    refine va_get (D := D) (ci := 9) (v := .ref (g 0)) (C := RX9) (T := TX9) (N := 37) hx hb htg gRX9 hown hK hP 0 rfl rfl 1 (by decide) (htg _ wi_1151) (fun _ h9 => h9) rfl dX9_soonest_21 ?_
    refine lv_iconst (v := 0) hx hb dX9_soonest_24 (by decide) ?_
    refine va_iald hx hb hK hP 1 0 rfl rfl (by unfold vp_in; decide) dX9_soonest_25 ?_
    refine lv_topi (fun z_5 ez_5 => ?_)
    have iz_5 : 0 ≤ z_5.toInt ∧ z_5.toInt ≤ 16 := by rw [ez_5]; exact rd0 pa0 (by decide) rfl
    have nz_5 : z_5.toInt = ((a0) 0).toInt := by rw [ez_5]; rfl
    refine lv_if_ne (tgt := 32) hx hb dX9_soonest_26 (by decide) (fun c_6 => ?_) (fun c_6 => ?_)
    · have ic_6 : ¬ z_5.toInt = 0 := ine c_6 (rfl) (by decide)
      refine lv_iconst (v := 0) hx hb dX9_soonest_32 (by decide) ?_
      refine lv_istore_n (lv' := [(2, .int 0), (0, .ref h0), (1, .int x)]) hx hb dX9_soonest_33 rfl hl (by decide) rfl (fun ls hl => ?_)
      refine (fun (key : ∀ (n9_34 : Nat) (k9_34 : Nat) (f9_34_0 : Nat → Int32) (f9_34_1 : Nat → Int32) (f9_34_2 : Nat → Int32) (f9_34_3 : Nat → Int32) (f9_34_4 : Nat → Int32) (f9_34_5 : Nat → Int32) (v9_34_6 : Int32) (v9_34_7 : Int32) (v9_34_8 : Int32) (v9_34_9 : Int32) (v9_34_10 : Int32) (H : Heap) (locs : List Loc) (ls : Array Slot), (k9_34 : Int) ≤ 9 → 9 < (k9_34 : Int) + n9_34 → PI 288 f9_34_0 → PI 960 f9_34_2 → KR f9_34_0 (a0) → PD D A [(sw_9 h0 g 0 b5 b6 b7 b8 b9 b10 b11 b12 b13 b14 b17 b18 b19 v9_34_6 v9_34_7 v9_34_8 v9_34_9 v9_34_10 b29 b31 b32 b33), (sw_in cT (g 0) 288 f9_34_0), (sw_in cT (g 4) 6 f9_34_1), (sw_in cT (g 5) 960 f9_34_2), (sw_in cT (g 6) 8 f9_34_3), (sw_in cT (g 7) 8 f9_34_4), (sw_in cT (g 8) 6 f9_34_5)] H → va_S A s.heap H locs → lv_has ls 3 [(2, .int (nI k9_34)), (0, .ref h0), (1, .int x)] → W p l e _ s m _ below meth c H locs _ _ _ (F0 m 34 ls [])) => key (Int.toNat (9 - 0) + 1) 0 _ _ _ _ _ _ _ _ _ _ _ _ _ _ (by omega) (by omega) (by first | assumption | omega | decide | (simp only [ti_0, ti_1, ti_2, ti_3, ti_4, ti_5, ti_6, ti_7, ti_8, ti_9, ti_10, ti_11, ti_12, ti_m1]; omega)) (by first | assumption | omega | decide | (simp only [ti_0, ti_1, ti_2, ti_3, ti_4, ti_5, ti_6, ti_7, ti_8, ti_9, ti_10, ti_11, ti_12, ti_m1]; omega)) (by first | assumption | exact KR_rfl _) ⟨hP, hD⟩ hS (lv_sub hl [0, 1, 2] rfl)) ?_
      intro n9_34
      induction n9_34 with
      | zero => intro k9_34 f9_34_0 f9_34_1 f9_34_2 f9_34_3 f9_34_4 f9_34_5 v9_34_6 v9_34_7 v9_34_8 v9_34_9 v9_34_10 H locs ls hq1 hq2; exact absurd hq2 (by omega)
      | succ n9_34 ih_34 =>
        intro k9_34 f9_34_0 f9_34_1 f9_34_2 f9_34_3 f9_34_4 f9_34_5 v9_34_6 v9_34_7 v9_34_8 v9_34_9 v9_34_10 H locs ls hq1_34 hq2_34 h9_34_0 h9_34_1 h9_34_2 hPD hS hl
        obtain ⟨hP, hD⟩ := hPD
        have hk9_34 : (nI k9_34).toInt = (k9_34 : Int) := nI_toInt (by omega)
        refine lv_iload_n hx hb dX9_soonest_34 rfl (lv_at hl 0 rfl) ?_
        refine lv_bipush (v := 8) hx hb dX9_soonest_35 (by decide) ?_
        refine lv_icmp_gt (tgt := 59) hx hb dX9_soonest_37 (by decide) (fun c_7 => ?_) (fun c_7 => ?_)
        · have ic_7 : 8 < ((k9_34 : Nat) : Int) := ilt c_7 (by decide) (nI_toInt (by omega))
          refine lv_iconst (v := (-1)) hx hb dX9_soonest_59 (by decide) ?_
          exact x_iret hx hb hr hlk hP hD hS [0, 1, 2, 3, 4, 5, 6] ((0, v9_34_6, v9_34_7, v9_34_8, v9_34_9, v9_34_10, f9_34_0, f9_34_1, f9_34_2, f9_34_3, f9_34_4, f9_34_5)) rfl (by decide) ⟨by (try dsimp only); first | assumption | omega | decide | exact Or.inl (by decide) | (intro h9; exact absurd h9 (by decide)) | (intro _; omega) | (intro _; assumption) | (intro _; decide), by (try dsimp only); first | assumption | exact KR_rfl _, by (try dsimp only); first | assumption | omega | decide | exact Or.inl (by decide) | (intro h9; exact absurd h9 (by decide)) | (intro _; omega) | (intro _; assumption) | (intro _; decide), trivial⟩ (by decide) (by decide) dX9_soonest_60
        · have ic_7 : ((k9_34 : Nat) : Int) ≤ 8 := inlt c_7 (by decide) (nI_toInt (by omega))
          refine lv_aload_n hx hb dX9_soonest_40 rfl (lv_at hl 1 rfl) ?_
          refine lv_iconst (v := 0) hx hb dX9_soonest_41 (by decide) ?_
          refine lv_iconst (v := 0) hx hb dX9_soonest_42 (by decide) ?_
          refine lv_iload_n hx hb dX9_soonest_43 rfl (lv_at hl 0 rfl) ?_
          refine xk_i (wr := []) (xr_V (n := 3) (As := [.int 0, .int 0, .int (nI k9_34)]) (rest := []) ⟨hx, hb, hml, hown, htg⟩ hK hN hP hD hS hA [0, 1, 2, 3, 4, 5, 6] rfl (by decide) (m_laysBestK l D cT _ (h0) (g) (0) (b5) (b6) (b7) (b8) (b9) (b10) (b11) (b12) (b13) (b14) (b17) (b18) (b19) (v9_34_6) (v9_34_7) (v9_34_8) (v9_34_9) (v9_34_10) (b29) (b31) (b32) (b33) (by first | assumption | omega | decide | exact Or.inl (by decide) | (intro h9; exact absurd h9 (by decide)) | (intro _; omega) | (intro _; assumption) | (intro _; decide)) (f9_34_0) (by first | assumption | omega | decide | exact Or.inl (by decide) | (intro h9; exact absurd h9 (by decide)) | (intro _; omega) | (intro _; assumption) | (intro _; decide)) (f9_34_1) (f9_34_2) (by first | assumption | omega | decide | exact Or.inl (by decide) | (intro h9; exact absurd h9 (by decide)) | (intro _; omega) | (intro _; assumption) | (intro _; decide)) (f9_34_3) (f9_34_4) (f9_34_5) (0) (0) ((nI k9_34)) (by first | assumption | omega | decide | exact Or.inl (by decide) | (intro h9; exact absurd h9 (by decide)) | (intro _; omega) | (intro _; assumption) | (intro _; decide)) (by first | assumption | omega | decide | exact Or.inl (by decide) | (intro h9; exact absurd h9 (by decide)) | (intro _; omega) | (intro _; assumption) | (intro _; decide))) wi_1478 wi_1480 wi_106 wi_131 wi_1481 rfl rfl rfl ⟨rfl, by decide +kernel⟩ ⟨Nat.le_of_ble_eq_true rfl, Nat.le_of_ble_eq_true rfl⟩ rfl hl.1 rfl (Nat.le_of_ble_eq_true rfl) dX9_soonest_44 ⟨Nat.le_of_ble_eq_true rfl, Nat.le_of_ble_eq_true rfl⟩) hP hD hS hA [0, 1, 2, 3, 4, 5, 6] [] rfl rfl (by decide) (by decide) (fun r_9 u_8 H locs hwr_9 hP hD hS => ?_)
          obtain ⟨hP, hD⟩ : PD D A [(sw_9 h0 g 0 b5 b6 b7 b8 b9 b10 b11 b12 b13 b14 b17 b18 b19 u_8.1 u_8.2.1 u_8.2.2.1 u_8.2.2.2.1 u_8.2.2.2.2.1 b29 b31 b32 b33), (sw_in cT (g 0) 288 u_8.2.2.2.2.2.1), (sw_in cT (g 4) 6 u_8.2.2.2.2.2.2.1), (sw_in cT (g 5) 960 u_8.2.2.2.2.2.2.2.1), (sw_in cT (g 6) 8 u_8.2.2.2.2.2.2.2.2.1), (sw_in cT (g 7) 8 u_8.2.2.2.2.2.2.2.2.2.1), (sw_in cT (g 8) 6 u_8.2.2.2.2.2.2.2.2.2.2)] _ := ⟨hP, hD⟩
          have qr_9_0 : PI 288 u_8.2.2.2.2.2.1 := hwr_9.1
          have qr_9_1 : KR u_8.2.2.2.2.2.1 f9_34_0 := hwr_9.2.1
          have kqr_9_1 : KR u_8.2.2.2.2.2.1 (a0) := KR_tr qr_9_1 h9_34_2
          have qr_9_2 : PI 960 u_8.2.2.2.2.2.2.2.1 := hwr_9.2.2.1
          refine lv_iload_n hx hb dX9_soonest_47 rfl (lv_at hl 2 rfl) ?_
          refine lv_icmp_lt (tgt := 53) hx hb dX9_soonest_48 (by decide) (fun c_10 => ?_) (fun c_10 => ?_)
          · have ic_10 : r_9.toInt < x.toInt := ilt c_10 (rfl) (rfl)
            refine lv_iinc (v := (nI (k9_34 + 1))) (lv' := [(2, .int (nI (k9_34 + 1))), (0, .ref h0), (1, .int x)]) hx hb dX9_soonest_53 hl (k := 0) rfl (by exact nI_1 (k9_34)) (by decide) rfl (fun ls hl => ?_)
            refine lv_goto (tgt := 34) hx hb dX9_soonest_56 (by decide) ?_
            exact ih_34 (k9_34 + 1) _ _ _ _ _ _ _ _ _ _ _ _ _ _ (by omega) (by omega) (by first | assumption | omega | decide | (simp only [ti_0, ti_1, ti_2, ti_3, ti_4, ti_5, ti_6, ti_7, ti_8, ti_9, ti_10, ti_11, ti_12, ti_m1]; omega)) (by first | assumption | omega | decide | (simp only [ti_0, ti_1, ti_2, ti_3, ti_4, ti_5, ti_6, ti_7, ti_8, ti_9, ti_10, ti_11, ti_12, ti_m1]; omega)) (by first | assumption | exact KR_rfl _) ⟨hP.sub [0, 1, 2, 3, 4, 5, 6] rfl, hD.sub [0, 1, 2, 3, 4, 5, 6] (by decide) rfl⟩ hS (lv_sub hl [0, 1, 2] rfl)
          · have ic_10 : x.toInt ≤ r_9.toInt := inlt c_10 (rfl) (rfl)
            refine lv_iload_n hx hb dX9_soonest_51 rfl (lv_at hl 0 rfl) ?_
            exact x_iret hx hb hr hlk hP hD hS [0, 1, 2, 3, 4, 5, 6] ((0, u_8.1, u_8.2.1, u_8.2.2.1, u_8.2.2.2.1, u_8.2.2.2.2.1, u_8.2.2.2.2.2.1, u_8.2.2.2.2.2.2.1, u_8.2.2.2.2.2.2.2.1, u_8.2.2.2.2.2.2.2.2.1, u_8.2.2.2.2.2.2.2.2.2.1, u_8.2.2.2.2.2.2.2.2.2.2)) rfl (by decide) ⟨by (try dsimp only); first | assumption | omega | decide | exact Or.inl (by decide) | (intro h9; exact absurd h9 (by decide)) | (intro _; omega) | (intro _; assumption) | (intro _; decide), by (try dsimp only); first | assumption | exact KR_rfl _, by (try dsimp only); first | assumption | omega | decide | exact Or.inl (by decide) | (intro h9; exact absurd h9 (by decide)) | (intro _; omega) | (intro _; assumption) | (intro _; decide), trivial⟩ (by decide) (by decide) dX9_soonest_52
    · have ic_6 : z_5.toInt = 0 := ieq c_6 (rfl) (by decide)
      refine lv_bipush (v := (-5)) hx hb dX9_soonest_29 (by decide) ?_
      exact x_iret hx hb hr hlk hP hD hS [0, 1, 2, 3, 4, 5, 6] ((0, b23, b24, b25, b26, b27, a0, a4, a5, a6, a7, a8)) rfl (by decide) ⟨by (try dsimp only); first | assumption | omega | decide | exact Or.inl (by decide) | (intro h9; exact absurd h9 (by decide)) | (intro _; omega) | (intro _; assumption) | (intro _; decide), by (try dsimp only); first | assumption | exact KR_rfl _, by (try dsimp only); first | assumption | omega | decide | exact Or.inl (by decide) | (intro h9; exact absurd h9 (by decide)) | (intro _; omega) | (intro _; assumption) | (intro _; decide), trivial⟩ (by decide) (by decide) dX9_soonest_31
  · have ic_4 : r_3.toInt = 0 := ieq c_4 (rfl) (by decide)
    refine lv_bipush (v := (-3)) hx hb dX9_soonest_17 (by decide) ?_
    exact x_iret hx hb hr hlk hP hD hS [0, 1, 2, 3, 4, 5, 6] ((0, b23, b24, b25, b26, b27, a0, a4, a5, a6, a7, a8)) rfl (by decide) ⟨by (try dsimp only); first | assumption | omega | decide | exact Or.inl (by decide) | (intro h9; exact absurd h9 (by decide)) | (intro _; omega) | (intro _; assumption) | (intro _; decide), by (try dsimp only); first | assumption | exact KR_rfl _, by (try dsimp only); first | assumption | omega | decide | exact Or.inl (by decide) | (intro h9; exact absurd h9 (by decide)) | (intro _; omega) | (intro _; assumption) | (intro _; decide), trivial⟩ (by decide) (by decide) dX9_soonest_19
set_option maxHeartbeats 4000000 in
set_option maxRecDepth 100000 in
theorem m_gathers_0K (l : Launch) (D : va_G) (cT : Nat → ClassId) (sz : Nat) (h0 : Nat) (g : Nat → Nat) (b0 : Int32) (b5 : Int32) (b6 : Int32) (b7 : Int32) (b8 : Int32) (b9 : Int32) (b10 : Int32) (b11 : Int32) (b12 : Int32) (b13 : Int32) (b14 : Int32) (b17 : Int32) (b18 : Int32) (b19 : Int32) (b23 : Int32) (b24 : Int32) (b25 : Int32) (b26 : Int32) (b27 : Int32) (b29 : Int32) (b31 : Int32) (b32 : Int32) (b33 : Int32) (hb5 : 0 ≤ b5.toInt ∧ b5.toInt ≤ 900) (a0 : Nat → Int32) (pa0 : PI 288 a0) (a4 : Nat → Int32) (a5 : Nat → Int32) (pa5 : PI 960 a5) (a9 : Nat → Int32) (x : Int32) (y : Int32) (hxk : 0 ≤ x.toInt ∧ x.toInt + 0 = y.toInt) (hy6 : 0 ≤ y.toInt ∧ y.toInt ≤ 6) (hb29 : 0 ≤ b29.toInt ∧ b29.toInt ≤ 728) : Met l yX9_gathers (wsc yX9_gathers cX9_gathers 4 none) { frames := 3, cells := 0, slots := 0, locals := 122 } (va_Pc [.ref h0, .int x, .int y] (PX D cT sz [(sw_9 h0 g b0 b5 b6 b7 b8 b9 b10 b11 b12 b13 b14 b17 b18 b19 b23 b24 b25 b26 b27 b29 b31 b32 b33), (sw_in cT (g 0) 288 a0), (sw_in cT (g 4) 6 a4), (sw_in cT (g 5) 960 a5), (sw_in cT (g 9) 11664 a9)])) (va_Qv (fun (u : Int32 × (Nat → Int32) × (Nat → Int32) × (Nat → Int32) × (Nat → Int32)) => (0 ≤ u.1.toInt ∧ u.1.toInt ≤ 729) ∧ (PI 288 u.2.1) ∧ (KR u.2.1 a0) ∧ (PI 960 u.2.2.2.1) ∧ (b29.toInt ≤ u.1.toInt ∧ u.1.toInt ≤ b29.toInt + 1) ∧ (KB (96 * x.toInt) u.2.2.2.1 a5) ∧ (True)) (fun u t => RW D (va_A [(sw_9 h0 g b0 b5 b6 b7 b8 b9 b10 b11 b12 b13 b14 b17 b18 b19 b23 b24 b25 b26 b27 b29 b31 b32 b33), (sw_in cT (g 0) 288 a0), (sw_in cT (g 4) 6 a4), (sw_in cT (g 5) 960 a5), (sw_in cT (g 9) 11664 a9)] sz) ((fun u : Int32 × (Nat → Int32) × (Nat → Int32) × (Nat → Int32) × (Nat → Int32) => [(sw_9 h0 g b0 b5 b6 b7 b8 b9 b10 b11 b12 b13 b14 b17 b18 b19 b23 b24 b25 b26 b27 u.1 b31 b32 b33), (sw_in cT (g 0) 288 u.2.1), (sw_in cT (g 4) 6 u.2.2.1), (sw_in cT (g 5) 960 u.2.2.2.1), (sw_in cT (g 9) 11664 u.2.2.2.2)]) u) t) (va_A [(sw_9 h0 g b0 b5 b6 b7 b8 b9 b10 b11 b12 b13 b14 b17 b18 b19 b23 b24 b25 b26 b27 b29 b31 b32 b33), (sw_in cT (g 0) 288 a0), (sw_in cT (g 4) 6 a4), (sw_in cT (g 5) 960 a5), (sw_in cT (g 9) 11664 a9)] sz)) 0 0 (va_A [(sw_9 h0 g b0 b5 b6 b7 b8 b9 b10 b11 b12 b13 b14 b17 b18 b19 b23 b24 b25 b26 b27 b29 b31 b32 b33), (sw_in cT (g 0) 288 a0), (sw_in cT (g 4) 6 a4), (sw_in cT (g 5) 960 a5), (sw_in cT (g 9) 11664 a9)] sz) := by
  refine m_of (y := yX9_gathers) (cc := cX9_gathers) (nL := 4) (ret := none) (D := D) (cT := cT) (av := [.ref h0, .int x, .int y]) (wi := [(sw_9 h0 g b0 b5 b6 b7 b8 b9 b10 b11 b12 b13 b14 b17 b18 b19 b23 b24 b25 b26 b27 b29 b31 b32 b33), (sw_in cT (g 0) 288 a0), (sw_in cT (g 4) 6 a4), (sw_in cT (g 5) 960 a5), (sw_in cT (g 9) 11664 a9)]) (fun A => va_Qv (fun (u : Int32 × (Nat → Int32) × (Nat → Int32) × (Nat → Int32) × (Nat → Int32)) => (0 ≤ u.1.toInt ∧ u.1.toInt ≤ 729) ∧ (PI 288 u.2.1) ∧ (KR u.2.1 a0) ∧ (PI 960 u.2.2.2.1) ∧ (b29.toInt ≤ u.1.toInt ∧ u.1.toInt ≤ b29.toInt + 1) ∧ (KB (96 * x.toInt) u.2.2.2.1 a5) ∧ (True)) (fun u t => RW D A ((fun u : Int32 × (Nat → Int32) × (Nat → Int32) × (Nat → Int32) × (Nat → Int32) => [(sw_9 h0 g b0 b5 b6 b7 b8 b9 b10 b11 b12 b13 b14 b17 b18 b19 b23 b24 b25 b26 b27 u.1 b31 b32 b33), (sw_in cT (g 0) 288 u.2.1), (sw_in cT (g 4) 6 u.2.2.1), (sw_in cT (g 5) 960 u.2.2.2.1), (sw_in cT (g 9) 11664 u.2.2.2.2)]) u) t) A) (by decide) (Nat.le_of_ble_eq_true rfl) ?_
  intro p e s m below meth c A hx hb hml hown htg hK hN hr hlk hnm hsz hP hD hS hA ls hl
  have hown : s.vm.findClass RX9 = some m.cls := hown
  have hl : lv_has ls 4 [(0, .ref h0), (1, .int x), (2, .int y)] := hl
  have tc_0 : (0 : Int32).toInt = 0 := by decide
  have tc_1 : (1 : Int32).toInt = 1 := by decide
  have tc_3 : (3 : Int32).toInt = 3 := by decide
  have tc_16 : (16 : Int32).toInt = 16 := by decide
  refine lv_iload_n hx hb dX9_gathers_0 rfl (lv_at hl 1 rfl) ?_
  refine lv_iload_n hx hb dX9_gathers_1 rfl (lv_at hl 2 rfl) ?_
  refine lv_icmp_ne (tgt := 65) hx hb dX9_gathers_2 (by decide) (fun h => absurd (i32_is (by omega)) h) (fun _ => ?_)
  refine lv_aload_n hx hb dX9_gathers_5 rfl (lv_at hl 0 rfl) ?_
  refine xk_i (wr := [(sw_in cT (g 4) 6 a4), (sw_in cT (g 5) 960 a5)]) (xr_V (n := 0) (As := []) (rest := []) ⟨hx, hb, hml, hown, htg⟩ hK hN hP hD hS hA [0, 1, 4] rfl (by decide) (m_isMet l D cT _ (h0) (g) (b0) (b5) (b6) (b7) (b8) (b9) (b10) (b11) (b12) (b13) (b14) (b17) (b18) (b19) (b23) (b24) (b25) (b26) (b27) (b29) (b31) (b32) (b33) (by first | assumption | omega | decide | exact Or.inl (by decide) | (intro h9; exact absurd h9 (by decide)) | (intro _; omega) | (intro _; assumption) | (intro _; decide)) (a0) (by first | assumption | omega | decide | exact Or.inl (by decide) | (intro h9; exact absurd h9 (by decide)) | (intro _; omega) | (intro _; assumption) | (intro _; decide)) (a9) (by first | assumption | omega | decide | exact Or.inl (by decide) | (intro h9; exact absurd h9 (by decide)) | (intro _; omega) | (intro _; assumption) | (intro _; decide))) wi_1540 wi_1542 wi_112 wi_131 wi_1543 rfl rfl rfl ⟨rfl, by decide +kernel⟩ ⟨Nat.le_of_ble_eq_true rfl, Nat.le_of_ble_eq_true rfl⟩ rfl hl.1 rfl (Nat.le_of_ble_eq_true rfl) dX9_gathers_6 ⟨Nat.le_of_ble_eq_true rfl, Nat.le_of_ble_eq_true rfl⟩) hP hD hS hA [0, 1, 4] [2, 3] rfl rfl (by decide) (by decide) (fun r_2 u_1 H locs hwr_2 hP hD hS => ?_)
  obtain ⟨hP, hD⟩ : PD D A [(sw_in cT (g 4) 6 a4), (sw_in cT (g 5) 960 a5), (sw_9 h0 g b0 b5 b6 b7 b8 b9 b10 b11 b12 b13 b14 b17 b18 b19 b23 b24 b25 b26 b27 b29 b31 b32 b33), (sw_in cT (g 0) 288 a0), (sw_in cT (g 9) 11664 a9)] _ := ⟨hP, hD⟩
  refine lv_if_eq (tgt := 13) hx hb dX9_gathers_9 (by decide) (fun c_3 => ?_) (fun c_3 => ?_)
  · have ic_3 : r_2.toInt = 0 := ieq c_3 (rfl) (by decide)
    refine lv_iconst (v := 0) hx hb dX9_gathers_13 (by decide) ?_
    refine lv_istore_n (lv' := [(3, .int 0), (0, .ref h0), (1, .int x), (2, .int y)]) hx hb dX9_gathers_14 rfl hl (by decide) rfl (fun ls hl => ?_)
    refine (fun (key : ∀ (n9_15 : Nat) (k9_15 : Nat) (f9_15_0 : Nat → Int32) (H : Heap) (locs : List Loc) (ls : Array Slot), (k9_15 : Int) ≤ 16 → 16 < (k9_15 : Int) + n9_15 → PD D A [(sw_in cT (g 4) 6 a4), (sw_in cT (g 5) 960 a5), (sw_9 h0 g b0 b5 b6 b7 b8 b9 b10 b11 b12 b13 b14 b17 b18 b19 b23 b24 b25 b26 b27 b29 b31 b32 b33), (sw_in cT (g 0) 288 a0), (sw_in cT (g 9) 11664 f9_15_0)] H → va_S A s.heap H locs → lv_has ls 4 [(3, .int (nI k9_15)), (0, .ref h0), (1, .int x), (2, .int y)] → W p l e _ s m _ below meth c H locs _ _ _ (F0 m 15 ls [])) => key (Int.toNat (16 - 0) + 1) 0 _ _ _ _ (by omega) (by omega)  ⟨hP, hD⟩ hS (lv_sub hl [0, 1, 2, 3] rfl)) ?_
    intro n9_15
    induction n9_15 with
    | zero => intro k9_15 f9_15_0 H locs ls hq1 hq2; exact absurd hq2 (by omega)
    | succ n9_15 ih_15 =>
      intro k9_15 f9_15_0 H locs ls hq1_15 hq2_15  hPD hS hl
      obtain ⟨hP, hD⟩ := hPD
      have hk9_15 : (nI k9_15).toInt = (k9_15 : Int) := nI_toInt (by omega)
      refine lv_iload_n hx hb dX9_gathers_15 rfl (lv_at hl 0 rfl) ?_
      refine lv_aload_n hx hb dX9_gathers_16 rfl (lv_at hl 1 rfl) ?_
      refine va_get (D := D) (ci := 9) (v := .ref (g 0)) (C := RX9) (T := TX9) (N := 37) hx hb htg gRX9 hown hK hP 2 rfl rfl 1 (by decide) (htg _ wi_1151) (fun _ h9 => h9) rfl dX9_gathers_17 ?_
      refine lv_iconst (v := 0) hx hb dX9_gathers_20 (by decide) ?_
      refine va_iald hx hb hK hP 3 0 rfl rfl (by unfold vp_in; decide) dX9_gathers_21 ?_
      refine lv_topi (fun z_4 ez_4 => ?_)
      have iz_4 : 0 ≤ z_4.toInt ∧ z_4.toInt ≤ 16 := by rw [ez_4]; exact rd0 pa0 (by decide) rfl
      have nz_4 : z_4.toInt = ((a0) 0).toInt := by rw [ez_4]; rfl
      refine lv_icmp_ge (tgt := 54) hx hb dX9_gathers_22 (by decide) (fun c_5 => ?_) (fun c_5 => ?_)
      · have ic_5 : z_4.toInt ≤ ((k9_15 : Nat) : Int) := ile c_5 (rfl) (nI_toInt (by omega))
        refine lv_aload_n hx hb dX9_gathers_54 rfl (lv_at hl 1 rfl) ?_
        refine lv_dup hx hb dX9_gathers_55 rfl ?_
        refine va_get (D := D) (ci := 9) (v := .int b29) (C := RX9) (T := TX9) (N := 37) hx hb htg gRX9 hown hK hP 2 rfl rfl 29 (by decide) (htg _ wi_1179) (fun _ h9 => h9) rfl dX9_gathers_56 ?_
        refine lv_iconst (v := 1) hx hb dX9_gathers_59 (by decide) ?_
        refine lv_iadd hx hb dX9_gathers_60 ?_
        refine lv_topi (fun z_6 ez_6 => ?_)
        have iz_6 : z_6.toInt = b29.toInt + 1 := toInt_addI ez_6 (rfl) (by decide) (by omega)
        refine va_put (D := D) (ci := 9) (v := .int z_6) (ty := .int) (C := RX9) (T := TX9) (N := 37) hx hb htg gRX9 tyX9 tyX9_ok nmX9 hown hK hP hD hS 2 rfl rfl 29 (by decide) (htg _ wi_1179) (fun _ h9 => h9) rfl (by decide +kernel) rfl rfl (Nat.le_of_ble_eq_true rfl) dX9_gathers_61 (fun H locs hP hD hS => ?_)
        obtain ⟨hP, hD⟩ : PD D A [(sw_in cT (g 4) 6 a4), (sw_in cT (g 5) 960 a5), (sw_9 h0 g b0 b5 b6 b7 b8 b9 b10 b11 b12 b13 b14 b17 b18 b19 b23 b24 b25 b26 b27 z_6 b31 b32 b33), (sw_in cT (g 0) 288 a0), (sw_in cT (g 9) 11664 f9_15_0)] _ := ⟨hP, hD⟩
        exact x_vret hx hb hr hlk hP hD hS [2, 3, 0, 1, 4] ((z_6, a0, a4, a5, f9_15_0)) rfl (by decide) ⟨by (try dsimp only); first | assumption | omega | decide | exact Or.inl (by decide) | (intro h9; exact absurd h9 (by decide)) | (intro _; omega) | (intro _; assumption) | (intro _; decide), by (try dsimp only); first | assumption | omega | decide | exact Or.inl (by decide) | (intro h9; exact absurd h9 (by decide)) | (intro _; omega) | (intro _; assumption) | (intro _; decide), by (try dsimp only); first | assumption | exact KR_rfl _, by (try dsimp only); first | assumption | omega | decide | exact Or.inl (by decide) | (intro h9; exact absurd h9 (by decide)) | (intro _; omega) | (intro _; assumption) | (intro _; decide), by (try dsimp only); first | assumption | omega | decide | exact Or.inl (by decide) | (intro h9; exact absurd h9 (by decide)) | (intro _; omega) | (intro _; assumption) | (intro _; decide), by (try dsimp only); first | assumption | exact KB_rfl _ _, trivial⟩ (by decide) (by decide) dX9_gathers_64
      · have ic_5 : ((k9_15 : Nat) : Int) < z_4.toInt := inle c_5 (rfl) (nI_toInt (by omega))
        refine lv_aload_n hx hb dX9_gathers_25 rfl (lv_at hl 1 rfl) ?_
        refine va_get (D := D) (ci := 9) (v := .ref (g 9)) (C := RX9) (T := TX9) (N := 37) hx hb htg gRX9 hown hK hP 2 rfl rfl 28 (by decide) (htg _ wi_1178) (fun _ h9 => h9) rfl dX9_gathers_26 ?_
        refine lv_bipush (v := 16) hx hb dX9_gathers_29 (by decide) ?_
        refine lv_aload_n hx hb dX9_gathers_31 rfl (lv_at hl 1 rfl) ?_
        refine va_get (D := D) (ci := 9) (v := .int b29) (C := RX9) (T := TX9) (N := 37) hx hb htg gRX9 hown hK hP 2 rfl rfl 29 (by decide) (htg _ wi_1179) (fun _ h9 => h9) rfl dX9_gathers_32 ?_
        refine lv_imul hx hb dX9_gathers_35 ?_
        refine lv_topi (fun z_7 ez_7 => ?_)
        have iz_7 : z_7.toInt = 16 * b29.toInt := toInt_mulI ez_7 (by decide) (rfl) (by omega)
        refine lv_iload_n hx hb dX9_gathers_36 rfl (lv_at hl 0 rfl) ?_
        refine lv_iadd hx hb dX9_gathers_37 ?_
        refine lv_topi (fun z_8 ez_8 => ?_)
        have iz_8 : z_8.toInt = z_7.toInt + ((k9_15 : Nat) : Int) := toInt_addI ez_8 (rfl) (nI_toInt (by omega)) (by omega)
        refine lv_aload_n hx hb dX9_gathers_38 rfl (lv_at hl 1 rfl) ?_
        refine va_get (D := D) (ci := 9) (v := .ref (g 0)) (C := RX9) (T := TX9) (N := 37) hx hb htg gRX9 hown hK hP 2 rfl rfl 1 (by decide) (htg _ wi_1151) (fun _ h9 => h9) rfl dX9_gathers_39 ?_
        refine lv_bipush (v := 16) hx hb dX9_gathers_42 (by decide) ?_
        refine lv_iload_n hx hb dX9_gathers_44 rfl (lv_at hl 0 rfl) ?_
        refine lv_iadd hx hb dX9_gathers_45 ?_
        refine lv_is (y := nI (16 + k9_15)) (nI_add 16 (k9_15)) ?_
        refine va_iald hx hb hK hP 3 0 rfl rfl (vp_in_nI (by omega) (by omega)) dX9_gathers_46 ?_
        refine lv_topi (fun z_9 ez_9 => ?_)
        refine va_iast hx hb hK hP hD hS 4 0 rfl rfl (vp_in_iff.mpr (by omega)) dX9_gathers_47 (fun H locs hP hD hS => ?_)
        obtain ⟨f_10, hP, hD⟩ : ∃ f_10 : Nat → Int32, PD D A [(sw_in cT (g 4) 6 a4), (sw_in cT (g 5) 960 a5), (sw_9 h0 g b0 b5 b6 b7 b8 b9 b10 b11 b12 b13 b14 b17 b18 b19 b23 b24 b25 b26 b27 b29 b31 b32 b33), (sw_in cT (g 0) 288 a0), (sw_in cT (g 9) 11664 f_10)] H := ⟨_, hP, hD⟩
        refine lv_iinc (v := (nI (k9_15 + 1))) (lv' := [(3, .int (nI (k9_15 + 1))), (0, .ref h0), (1, .int x), (2, .int y)]) hx hb dX9_gathers_48 hl (k := 0) rfl (by exact nI_1 (k9_15)) (by decide) rfl (fun ls hl => ?_)
        refine lv_goto (tgt := 15) hx hb dX9_gathers_51 (by decide) ?_
        exact ih_15 (k9_15 + 1) _ _ _ _ (by omega) (by omega)  ⟨hP.sub [0, 1, 2, 3, 4] rfl, hD.sub [0, 1, 2, 3, 4] (by decide) rfl⟩ hS (lv_sub hl [0, 1, 2, 3] rfl)
  · have ic_3 : ¬ r_2.toInt = 0 := ine c_3 (rfl) (by decide)
    exact x_vret hx hb hr hlk hP hD hS [2, 3, 0, 1, 4] ((b29, a0, a4, a5, a9)) rfl (by decide) ⟨by (try dsimp only); first | assumption | omega | decide | exact Or.inl (by decide) | (intro h9; exact absurd h9 (by decide)) | (intro _; omega) | (intro _; assumption) | (intro _; decide), by (try dsimp only); first | assumption | omega | decide | exact Or.inl (by decide) | (intro h9; exact absurd h9 (by decide)) | (intro _; omega) | (intro _; assumption) | (intro _; decide), by (try dsimp only); first | assumption | exact KR_rfl _, by (try dsimp only); first | assumption | omega | decide | exact Or.inl (by decide) | (intro h9; exact absurd h9 (by decide)) | (intro _; omega) | (intro _; assumption) | (intro _; decide), by (try dsimp only); first | assumption | omega | decide | exact Or.inl (by decide) | (intro h9; exact absurd h9 (by decide)) | (intro _; omega) | (intro _; assumption) | (intro _; decide), by (try dsimp only); first | assumption | exact KB_rfl _ _, trivial⟩ (by decide) (by decide) dX9_gathers_12
set_option maxHeartbeats 4000000 in
set_option maxRecDepth 100000 in
theorem m_gathers_1K (l : Launch) (D : va_G) (cT : Nat → ClassId) (sz : Nat) (h0 : Nat) (g : Nat → Nat) (b0 : Int32) (b5 : Int32) (b6 : Int32) (b7 : Int32) (b8 : Int32) (b9 : Int32) (b10 : Int32) (b11 : Int32) (b12 : Int32) (b13 : Int32) (b14 : Int32) (b17 : Int32) (b18 : Int32) (b19 : Int32) (b23 : Int32) (b24 : Int32) (b25 : Int32) (b26 : Int32) (b27 : Int32) (b29 : Int32) (b31 : Int32) (b32 : Int32) (b33 : Int32) (hb5 : 0 ≤ b5.toInt ∧ b5.toInt ≤ 900) (a0 : Nat → Int32) (pa0 : PI 288 a0) (a4 : Nat → Int32) (a5 : Nat → Int32) (pa5 : PI 960 a5) (a9 : Nat → Int32) (x : Int32) (y : Int32) (hxk : 0 ≤ x.toInt ∧ x.toInt + 1 = y.toInt) (hy6 : 0 ≤ y.toInt ∧ y.toInt ≤ 6) (hb29 : 0 ≤ b29.toInt ∧ b29.toInt ≤ 726) : Met l yX9_gathers (wsc yX9_gathers cX9_gathers 4 none) { frames := 7, cells := 0, slots := 0, locals := 217 } (va_Pc [.ref h0, .int x, .int y] (PX D cT sz [(sw_9 h0 g b0 b5 b6 b7 b8 b9 b10 b11 b12 b13 b14 b17 b18 b19 b23 b24 b25 b26 b27 b29 b31 b32 b33), (sw_in cT (g 0) 288 a0), (sw_in cT (g 4) 6 a4), (sw_in cT (g 5) 960 a5), (sw_in cT (g 9) 11664 a9)])) (va_Qv (fun (u : Int32 × (Nat → Int32) × (Nat → Int32) × (Nat → Int32) × (Nat → Int32)) => (0 ≤ u.1.toInt ∧ u.1.toInt ≤ 729) ∧ (PI 288 u.2.1) ∧ (KR u.2.1 a0) ∧ (PI 960 u.2.2.2.1) ∧ (b29.toInt ≤ u.1.toInt ∧ u.1.toInt ≤ b29.toInt + 3) ∧ (KB (96 * x.toInt) u.2.2.2.1 a5) ∧ (True)) (fun u t => RW D (va_A [(sw_9 h0 g b0 b5 b6 b7 b8 b9 b10 b11 b12 b13 b14 b17 b18 b19 b23 b24 b25 b26 b27 b29 b31 b32 b33), (sw_in cT (g 0) 288 a0), (sw_in cT (g 4) 6 a4), (sw_in cT (g 5) 960 a5), (sw_in cT (g 9) 11664 a9)] sz) ((fun u : Int32 × (Nat → Int32) × (Nat → Int32) × (Nat → Int32) × (Nat → Int32) => [(sw_9 h0 g b0 b5 b6 b7 b8 b9 b10 b11 b12 b13 b14 b17 b18 b19 b23 b24 b25 b26 b27 u.1 b31 b32 b33), (sw_in cT (g 0) 288 u.2.1), (sw_in cT (g 4) 6 u.2.2.1), (sw_in cT (g 5) 960 u.2.2.2.1), (sw_in cT (g 9) 11664 u.2.2.2.2)]) u) t) (va_A [(sw_9 h0 g b0 b5 b6 b7 b8 b9 b10 b11 b12 b13 b14 b17 b18 b19 b23 b24 b25 b26 b27 b29 b31 b32 b33), (sw_in cT (g 0) 288 a0), (sw_in cT (g 4) 6 a4), (sw_in cT (g 5) 960 a5), (sw_in cT (g 9) 11664 a9)] sz)) 0 0 (va_A [(sw_9 h0 g b0 b5 b6 b7 b8 b9 b10 b11 b12 b13 b14 b17 b18 b19 b23 b24 b25 b26 b27 b29 b31 b32 b33), (sw_in cT (g 0) 288 a0), (sw_in cT (g 4) 6 a4), (sw_in cT (g 5) 960 a5), (sw_in cT (g 9) 11664 a9)] sz) := by
  refine m_of (y := yX9_gathers) (cc := cX9_gathers) (nL := 4) (ret := none) (D := D) (cT := cT) (av := [.ref h0, .int x, .int y]) (wi := [(sw_9 h0 g b0 b5 b6 b7 b8 b9 b10 b11 b12 b13 b14 b17 b18 b19 b23 b24 b25 b26 b27 b29 b31 b32 b33), (sw_in cT (g 0) 288 a0), (sw_in cT (g 4) 6 a4), (sw_in cT (g 5) 960 a5), (sw_in cT (g 9) 11664 a9)]) (fun A => va_Qv (fun (u : Int32 × (Nat → Int32) × (Nat → Int32) × (Nat → Int32) × (Nat → Int32)) => (0 ≤ u.1.toInt ∧ u.1.toInt ≤ 729) ∧ (PI 288 u.2.1) ∧ (KR u.2.1 a0) ∧ (PI 960 u.2.2.2.1) ∧ (b29.toInt ≤ u.1.toInt ∧ u.1.toInt ≤ b29.toInt + 3) ∧ (KB (96 * x.toInt) u.2.2.2.1 a5) ∧ (True)) (fun u t => RW D A ((fun u : Int32 × (Nat → Int32) × (Nat → Int32) × (Nat → Int32) × (Nat → Int32) => [(sw_9 h0 g b0 b5 b6 b7 b8 b9 b10 b11 b12 b13 b14 b17 b18 b19 b23 b24 b25 b26 b27 u.1 b31 b32 b33), (sw_in cT (g 0) 288 u.2.1), (sw_in cT (g 4) 6 u.2.2.1), (sw_in cT (g 5) 960 u.2.2.2.1), (sw_in cT (g 9) 11664 u.2.2.2.2)]) u) t) A) (by decide) (Nat.le_of_ble_eq_true rfl) ?_
  intro p e s m below meth c A hx hb hml hown htg hK hN hr hlk hnm hsz hP hD hS hA ls hl
  have hown : s.vm.findClass RX9 = some m.cls := hown
  have hl : lv_has ls 4 [(0, .ref h0), (1, .int x), (2, .int y)] := hl
  have tc_0 : (0 : Int32).toInt = 0 := by decide
  have tc_1 : (1 : Int32).toInt = 1 := by decide
  have tc_3 : (3 : Int32).toInt = 3 := by decide
  have tc_16 : (16 : Int32).toInt = 16 := by decide
  refine lv_iload_n hx hb dX9_gathers_0 rfl (lv_at hl 1 rfl) ?_
  refine lv_iload_n hx hb dX9_gathers_1 rfl (lv_at hl 2 rfl) ?_
  refine lv_icmp_ne (tgt := 65) hx hb dX9_gathers_2 (by decide) (fun _ => ?_) (fun h => absurd h (fun h => by have h3 := ieq h rfl rfl; omega))
  refine lv_aload_n hx hb dX9_gathers_65 rfl (lv_at hl 0 rfl) ?_
  refine lv_iload_n hx hb dX9_gathers_66 rfl (lv_at hl 1 rfl) ?_
  refine xk_v (wr := [(sw_in cT (g 4) 6 a4), (sw_in cT (g 9) 11664 a9)]) (xr_V (n := 1) (As := [.int x]) (rest := []) ⟨hx, hb, hml, hown, htg⟩ hK hN hP hD hS hA [0, 1, 3] rfl (by decide) (m_keepsK l D cT _ (h0) (g) (b0) (b5) (b6) (b7) (b8) (b9) (b10) (b11) (b12) (b13) (b14) (b17) (b18) (b19) (b23) (b24) (b25) (b26) (b27) (b29) (b31) (b32) (b33) (by first | assumption | omega | decide | exact Or.inl (by decide) | (intro h9; exact absurd h9 (by decide)) | (intro _; omega) | (intro _; assumption) | (intro _; decide)) (a0) (by first | assumption | omega | decide | exact Or.inl (by decide) | (intro h9; exact absurd h9 (by decide)) | (intro _; omega) | (intro _; assumption) | (intro _; decide)) (a5) (by first | assumption | omega | decide | exact Or.inl (by decide) | (intro h9; exact absurd h9 (by decide)) | (intro _; omega) | (intro _; assumption) | (intro _; decide)) (x) (by first | assumption | omega | decide | exact Or.inl (by decide) | (intro h9; exact absurd h9 (by decide)) | (intro _; omega) | (intro _; assumption) | (intro _; decide))) wi_1432 wi_1434 wi_101 wi_131 wi_1435 rfl rfl rfl ⟨rfl, by decide +kernel⟩ ⟨Nat.le_of_ble_eq_true rfl, Nat.le_of_ble_eq_true rfl⟩ rfl hl.1 rfl (Nat.le_of_ble_eq_true rfl) dX9_gathers_67 ⟨Nat.le_of_ble_eq_true rfl, Nat.le_of_ble_eq_true rfl⟩) hP hD hS hA [0, 1, 3] [2, 4] rfl rfl (by decide) (by decide) (fun u_1 H locs hwr_2 hP hD hS => ?_)
  obtain ⟨hP, hD⟩ : PD D A [(sw_in cT (g 4) 6 a4), (sw_in cT (g 9) 11664 a9), (sw_9 h0 g b0 b5 b6 b7 b8 b9 b10 b11 b12 b13 b14 b17 b18 b19 b23 b24 b25 b26 b27 b29 b31 b32 b33), (sw_in cT (g 0) 288 a0), (sw_in cT (g 5) 960 u_1)] _ := ⟨hP, hD⟩
  have qr_2_0 : PI 960 u_1 := hwr_2.1
  have qr_2_1 : KP (96 * x.toInt) u_1 a0 := hwr_2.2.1
  have qr_2_2 : KB (96 * x.toInt) u_1 a5 := hwr_2.2.2.1
  refine lv_iconst (v := 0) hx hb dX9_gathers_70 (by decide) ?_
  refine lv_istore_n (lv' := [(3, .int 0), (0, .ref h0), (1, .int x), (2, .int y)]) hx hb dX9_gathers_71 rfl hl (by decide) rfl (fun ls hl => ?_)
  refine (fun (key : ∀ (n9_72 : Nat) (k9_72 : Nat) (f9_72_0 : Nat → Int32) (f9_72_1 : Nat → Int32) (f9_72_2 : Nat → Int32) (f9_72_3 : Nat → Int32) (v9_72_4 : Int32) (H : Heap) (locs : List Loc) (ls : Array Slot), (k9_72 : Int) ≤ 3 → 3 < (k9_72 : Int) + n9_72 → b29.toInt ≤ v9_72_4.toInt ∧ v9_72_4.toInt ≤ b29.toInt + 1 * (k9_72 : Int) → KP (96 * x.toInt) f9_72_2 a0 → KB (96 * x.toInt) f9_72_2 a5 → PI 288 f9_72_0 → PI 960 f9_72_2 → KR f9_72_0 (a0) → (0 ≤ v9_72_4.toInt ∧ v9_72_4.toInt ≤ 729) → PD D A [(sw_in cT (g 4) 6 f9_72_1), (sw_in cT (g 9) 11664 f9_72_3), (sw_9 h0 g b0 b5 b6 b7 b8 b9 b10 b11 b12 b13 b14 b17 b18 b19 b23 b24 b25 b26 b27 v9_72_4 b31 b32 b33), (sw_in cT (g 0) 288 f9_72_0), (sw_in cT (g 5) 960 f9_72_2)] H → va_S A s.heap H locs → lv_has ls 4 [(3, .int (nI k9_72)), (0, .ref h0), (1, .int x), (2, .int y)] → W p l e _ s m _ below meth c H locs _ _ _ (F0 m 72 ls [])) => key (Int.toNat (3 - 0) + 1) 0 _ _ _ _ _ _ _ _ (by omega) (by omega) (by first | assumption | omega | decide | (simp only [ti_0, ti_1, ti_2, ti_3, ti_4, ti_5, ti_6, ti_7, ti_8, ti_9, ti_10, ti_11, ti_12, ti_m1]; omega)) (by assumption) (by first | assumption | exact KB_rfl _ _) (by first | assumption | omega | decide | (simp only [ti_0, ti_1, ti_2, ti_3, ti_4, ti_5, ti_6, ti_7, ti_8, ti_9, ti_10, ti_11, ti_12, ti_m1]; omega)) (by first | assumption | omega | decide | (simp only [ti_0, ti_1, ti_2, ti_3, ti_4, ti_5, ti_6, ti_7, ti_8, ti_9, ti_10, ti_11, ti_12, ti_m1]; omega)) (by first | assumption | exact KR_rfl _) (by first | assumption | omega | decide | (simp only [ti_0, ti_1, ti_2, ti_3, ti_4, ti_5, ti_6, ti_7, ti_8, ti_9, ti_10, ti_11, ti_12, ti_m1]; omega)) ⟨hP, hD⟩ hS (lv_sub hl [0, 1, 2, 3] rfl)) ?_
  intro n9_72
  induction n9_72 with
  | zero => intro k9_72 f9_72_0 f9_72_1 f9_72_2 f9_72_3 v9_72_4 H locs ls hq1 hq2; exact absurd hq2 (by omega)
  | succ n9_72 ih_72 =>
    intro k9_72 f9_72_0 f9_72_1 f9_72_2 f9_72_3 v9_72_4 H locs ls hq1_72 hq2_72 h9_72_0 h9_72_1 h9_72_2 h9_72_3 h9_72_4 h9_72_5 h9_72_6 hPD hS hl
    obtain ⟨hP, hD⟩ := hPD
    have hk9_72 : (nI k9_72).toInt = (k9_72 : Int) := nI_toInt (by omega)
    refine lv_iload_n hx hb dX9_gathers_72 rfl (lv_at hl 0 rfl) ?_
    refine lv_iconst (v := 3) hx hb dX9_gathers_73 (by decide) ?_
    refine lv_icmp_ge (tgt := 115) hx hb dX9_gathers_74 (by decide) (fun c_3 => ?_) (fun c_3 => ?_)
    · have ic_3 : 3 ≤ ((k9_72 : Nat) : Int) := ile c_3 (by decide) (nI_toInt (by omega))
      exact x_vret hx hb hr hlk hP hD hS [2, 3, 0, 4, 1] ((v9_72_4, f9_72_0, f9_72_1, f9_72_2, f9_72_3)) rfl (by decide) ⟨by (try dsimp only); first | assumption | omega | decide | exact Or.inl (by decide) | (intro h9; exact absurd h9 (by decide)) | (intro _; omega) | (intro _; assumption) | (intro _; decide), by (try dsimp only); first | assumption | omega | decide | exact Or.inl (by decide) | (intro h9; exact absurd h9 (by decide)) | (intro _; omega) | (intro _; assumption) | (intro _; decide), by (try dsimp only); first | assumption | exact KR_rfl _, by (try dsimp only); first | assumption | omega | decide | exact Or.inl (by decide) | (intro h9; exact absurd h9 (by decide)) | (intro _; omega) | (intro _; assumption) | (intro _; decide), by (try dsimp only); first | assumption | omega | decide | exact Or.inl (by decide) | (intro h9; exact absurd h9 (by decide)) | (intro _; omega) | (intro _; assumption) | (intro _; decide), by (try dsimp only); first | assumption | exact KB_rfl _ _, trivial⟩ (by decide) (by decide) dX9_gathers_115
    · have ic_3 : ((k9_72 : Nat) : Int) < 3 := inle c_3 (by decide) (nI_toInt (by omega))
      refine lv_aload_n hx hb dX9_gathers_77 rfl (lv_at hl 1 rfl) ?_
      refine lv_iload_n hx hb dX9_gathers_78 rfl (lv_at hl 0 rfl) ?_
      refine lv_i2l (v := (nI k9_72).toInt64) hx hb dX9_gathers_79 rfl ?_
      have ilw_4 : ((nI k9_72).toInt64).toInt = ((nI k9_72)).toInt := i2l_i _
      refine xk_i (wr := [(sw_in cT (g 4) 6 f9_72_1), (sw_in cT (g 9) 11664 f9_72_3), (sw_in cT (g 5) 960 f9_72_2)]) (xr_V (n := 1) (As := [.long ((nI k9_72).toInt64)]) (rest := []) ⟨hx, hb, hml, hown, htg⟩ hK hN hP hD hS hA [2, 3] rfl (by decide) (m_refuses l D cT _ (h0) (g) (b0) (b5) (b6) (b7) (b8) (b9) (b10) (b11) (b12) (b13) (b14) (b17) (b18) (b19) (b23) (b24) (b25) (b26) (b27) (v9_72_4) (b31) (b32) (b33) (by first | assumption | omega | decide | exact Or.inl (by decide) | (intro h9; exact absurd h9 (by decide)) | (intro _; omega) | (intro _; assumption) | (intro _; decide)) (f9_72_0) (by first | assumption | omega | decide | exact Or.inl (by decide) | (intro h9; exact absurd h9 (by decide)) | (intro _; omega) | (intro _; assumption) | (intro _; decide)) ((nI k9_72).toInt64)) wi_1416 wi_1418 wi_99 wi_131 wi_1419 rfl rfl rfl ⟨rfl, by decide +kernel⟩ ⟨Nat.le_of_ble_eq_true rfl, Nat.le_of_ble_eq_true rfl⟩ rfl hl.1 rfl (Nat.le_of_ble_eq_true rfl) dX9_gathers_80 ⟨Nat.le_of_ble_eq_true rfl, Nat.le_of_ble_eq_true rfl⟩) hP hD hS hA [2, 3] [0, 1, 4] rfl rfl (by decide) (by decide) (fun r_6 u_5 H locs hwr_6 hP hD hS => ?_)
      obtain ⟨hP, hD⟩ : PD D A [(sw_in cT (g 4) 6 f9_72_1), (sw_in cT (g 9) 11664 f9_72_3), (sw_in cT (g 5) 960 f9_72_2), (sw_9 h0 g b0 b5 b6 b7 b8 b9 b10 b11 b12 b13 b14 b17 b18 b19 b23 b24 b25 b26 b27 v9_72_4 b31 b32 b33), (sw_in cT (g 0) 288 f9_72_0)] _ := ⟨hP, hD⟩
      have qr_6_0 : Imp (r_6.toInt = 0) (1 ≤ (f9_72_0 6).toInt ∧ (f9_72_0 1).toInt ≤ 9998 ∧ (((nI k9_72).toInt64).toInt = 0 ∨ (((nI k9_72).toInt64).toInt = 1 ∧ 1 ≤ (f9_72_0 2).toInt) ∨ (((nI k9_72).toInt64).toInt = 2 ∧ (f9_72_0 2).toInt ≤ 14))) := hwr_6.1
      refine lv_if_eq (tgt := 89) hx hb dX9_gathers_83 (by decide) (fun c_7 => ?_) (fun c_7 => ?_)
      · have ic_7 : r_6.toInt = 0 := ieq c_7 (rfl) (by decide)
        have kqr_6_0 : 1 ≤ (f9_72_0 6).toInt ∧ (f9_72_0 1).toInt ≤ 9998 ∧ (((nI k9_72).toInt64).toInt = 0 ∨ (((nI k9_72).toInt64).toInt = 1 ∧ 1 ≤ (f9_72_0 2).toInt) ∨ (((nI k9_72).toInt64).toInt = 2 ∧ (f9_72_0 2).toInt ≤ 14)) := qr_6_0 ic_7
        refine lv_aload_n hx hb dX9_gathers_89 rfl (lv_at hl 1 rfl) ?_
        refine lv_iload_n hx hb dX9_gathers_90 rfl (lv_at hl 0 rfl) ?_
        refine lv_iconst (v := 0) hx hb dX9_gathers_91 (by decide) ?_
        refine xk_i (wr := [(sw_in cT (g 9) 11664 f9_72_3), (sw_in cT (g 5) 960 f9_72_2)]) (xr_V (n := 2) (As := [.int (nI k9_72), .int 0]) (rest := []) ⟨hx, hb, hml, hown, htg⟩ hK hN hP hD hS hA [3, 4, 0] rfl (by decide) (m_goesK l D cT _ (h0) (g) (b0) (b5) (b6) (b7) (b8) (b9) (b10) (b11) (b12) (b13) (b14) (b17) (b18) (b19) (b23) (b24) (b25) (b26) (b27) (v9_72_4) (b31) (b32) (b33) (by first | assumption | omega | decide | exact Or.inl (by decide) | (intro h9; exact absurd h9 (by decide)) | (intro _; omega) | (intro _; assumption) | (intro _; decide)) (f9_72_0) (by first | assumption | omega | decide | exact Or.inl (by decide) | (intro h9; exact absurd h9 (by decide)) | (intro _; omega) | (intro _; assumption) | (intro _; decide)) (f9_72_1) ((nI k9_72)) (0) (by first | assumption | omega | decide | exact Or.inl (by decide) | (intro h9; exact absurd h9 (by decide)) | (intro _; omega) | (intro _; assumption) | (intro _; decide)) (by first | assumption | omega | decide | exact Or.inl (by decide) | (intro h9; exact absurd h9 (by decide)) | (intro _; omega) | (intro _; assumption) | (intro _; decide)) (by first | assumption | omega | decide | exact Or.inl (by decide) | (intro h9; exact absurd h9 (by decide)) | (intro _; omega) | (intro _; assumption) | (intro _; decide))) wi_1424 wi_1426 wi_100 wi_131 wi_1427 rfl rfl rfl ⟨rfl, by decide +kernel⟩ ⟨Nat.le_of_ble_eq_true rfl, Nat.le_of_ble_eq_true rfl⟩ rfl hl.1 rfl (Nat.le_of_ble_eq_true rfl) dX9_gathers_92 ⟨Nat.le_of_ble_eq_true rfl, Nat.le_of_ble_eq_true rfl⟩) hP hD hS hA [3, 4, 0] [1, 2] rfl rfl (by decide) (by decide) (fun r_9 u_8 H locs hwr_9 hP hD hS => ?_)
        obtain ⟨hP, hD⟩ : PD D A [(sw_in cT (g 9) 11664 f9_72_3), (sw_in cT (g 5) 960 f9_72_2), (sw_9 h0 g b0 b5 b6 b7 b8 b9 b10 b11 b12 b13 b14 b17 b18 b19 b23 b24 b25 b26 b27 v9_72_4 b31 b32 b33), (sw_in cT (g 0) 288 u_8.1), (sw_in cT (g 4) 6 u_8.2)] _ := ⟨hP, hD⟩
        have qr_9_0 : PI 288 u_8.1 := hwr_9.1
        have qr_9_1 : KR u_8.1 f9_72_0 := hwr_9.2.1
        have kqr_9_1 : KR u_8.1 (a0) := KR_tr qr_9_1 h9_72_5
        have qr_9_2 : (u_8.1 1).toInt = (f9_72_0 1).toInt + 1 := hwr_9.2.2.1
        refine lv_pop hx hb dX9_gathers_95 rfl ?_
        refine lv_aload_n hx hb dX9_gathers_96 rfl (lv_at hl 1 rfl) ?_
        refine lv_iload_n hx hb dX9_gathers_97 rfl (lv_at hl 2 rfl) ?_
        refine lv_iconst (v := 1) hx hb dX9_gathers_98 (by decide) ?_
        refine lv_iadd hx hb dX9_gathers_99 ?_
        refine lv_topi (fun z_10 ez_10 => ?_)
        have iz_10 : z_10.toInt = x.toInt + 1 := toInt_addI ez_10 (rfl) (by decide) (by omega)
        refine lv_iload_n hx hb dX9_gathers_100 rfl (lv_at hl 3 rfl) ?_
        refine xk_v (wr := []) (xr_V (n := 2) (As := [.int z_10, .int y]) (rest := []) ⟨hx, hb, hml, hown, htg⟩ hK hN hP hD hS hA [2, 3, 4, 1, 0] rfl (by decide) (m_gathers_0K l D cT _ (h0) (g) (b0) (b5) (b6) (b7) (b8) (b9) (b10) (b11) (b12) (b13) (b14) (b17) (b18) (b19) (b23) (b24) (b25) (b26) (b27) (v9_72_4) (b31) (b32) (b33) (by first | assumption | omega | decide | exact Or.inl (by decide) | (intro h9; exact absurd h9 (by decide)) | (intro _; omega) | (intro _; assumption) | (intro _; decide)) (u_8.1) (by first | assumption | omega | decide | exact Or.inl (by decide) | (intro h9; exact absurd h9 (by decide)) | (intro _; omega) | (intro _; assumption) | (intro _; decide)) (u_8.2) (f9_72_2) (by first | assumption | omega | decide | exact Or.inl (by decide) | (intro h9; exact absurd h9 (by decide)) | (intro _; omega) | (intro _; assumption) | (intro _; decide)) (f9_72_3) (z_10) (y) (by first | assumption | omega | decide | exact Or.inl (by decide) | (intro h9; exact absurd h9 (by decide)) | (intro _; omega) | (intro _; assumption) | (intro _; decide)) (by first | assumption | omega | decide | exact Or.inl (by decide) | (intro h9; exact absurd h9 (by decide)) | (intro _; omega) | (intro _; assumption) | (intro _; decide)) (by first | assumption | omega | decide | exact Or.inl (by decide) | (intro h9; exact absurd h9 (by decide)) | (intro _; omega) | (intro _; assumption) | (intro _; decide))) wi_1536 wi_1538 wi_111 wi_131 wi_1539 rfl rfl rfl ⟨rfl, by decide +kernel⟩ ⟨Nat.le_of_ble_eq_true rfl, Nat.le_of_ble_eq_true rfl⟩ rfl hl.1 rfl (Nat.le_of_ble_eq_true rfl) dX9_gathers_101 ⟨Nat.le_of_ble_eq_true rfl, Nat.le_of_ble_eq_true rfl⟩) hP hD hS hA [2, 3, 4, 1, 0] [] rfl rfl (by decide) (by decide) (fun u_11 H locs hwr_12 hP hD hS => ?_)
        obtain ⟨hP, hD⟩ : PD D A [(sw_9 h0 g b0 b5 b6 b7 b8 b9 b10 b11 b12 b13 b14 b17 b18 b19 b23 b24 b25 b26 b27 u_11.1 b31 b32 b33), (sw_in cT (g 0) 288 u_11.2.1), (sw_in cT (g 4) 6 u_11.2.2.1), (sw_in cT (g 5) 960 u_11.2.2.2.1), (sw_in cT (g 9) 11664 u_11.2.2.2.2)] _ := ⟨hP, hD⟩
        have qr_12_0 : 0 ≤ u_11.1.toInt ∧ u_11.1.toInt ≤ 729 := hwr_12.1
        have qr_12_1 : PI 288 u_11.2.1 := hwr_12.2.1
        have qr_12_2 : KR u_11.2.1 u_8.1 := hwr_12.2.2.1
        have kqr_12_2 : KR u_11.2.1 (a0) := KR_tr qr_12_2 kqr_9_1
        have qr_12_3 : PI 960 u_11.2.2.2.1 := hwr_12.2.2.2.1
        have qr_12_4 : v9_72_4.toInt ≤ u_11.1.toInt ∧ u_11.1.toInt ≤ v9_72_4.toInt + 1 := hwr_12.2.2.2.2.1
        have qr_12_5 : KB (96 * z_10.toInt) u_11.2.2.2.1 f9_72_2 := hwr_12.2.2.2.2.2.1
        have kp_r_12 : KP (96 * x.toInt) u_11.2.2.2.1 a0 := KP_b h9_72_1 qr_12_5 (by omega) (by omega)
        have kb_r_12 : KB (96 * x.toInt) u_11.2.2.2.1 a5 := KB_tr (KB_le qr_12_5 (by omega)) h9_72_2
        refine lv_aload_n hx hb dX9_gathers_104 rfl (lv_at hl 1 rfl) ?_
        refine lv_iload_n hx hb dX9_gathers_105 rfl (lv_at hl 2 rfl) ?_
        refine xk_v (wr := [(sw_in cT (g 4) 6 u_11.2.2.1), (sw_in cT (g 9) 11664 u_11.2.2.2.2)]) (xr_V (n := 1) (As := [.int x]) (rest := []) ⟨hx, hb, hml, hown, htg⟩ hK hN hP hD hS hA [0, 1, 3] rfl (by decide) (m_isAgainK l D cT _ (h0) (g) (b0) (b5) (b6) (b7) (b8) (b9) (b10) (b11) (b12) (b13) (b14) (b17) (b18) (b19) (b23) (b24) (b25) (b26) (b27) (u_11.1) (b31) (b32) (b33) (by first | assumption | omega | decide | exact Or.inl (by decide) | (intro h9; exact absurd h9 (by decide)) | (intro _; omega) | (intro _; assumption) | (intro _; decide)) (u_11.2.1) (by first | assumption | omega | decide | exact Or.inl (by decide) | (intro h9; exact absurd h9 (by decide)) | (intro _; omega) | (intro _; assumption) | (intro _; decide)) (u_11.2.2.2.1) (by first | assumption | omega | decide | exact Or.inl (by decide) | (intro h9; exact absurd h9 (by decide)) | (intro _; omega) | (intro _; assumption) | (intro _; decide)) (x) (by first | assumption | omega | decide | exact Or.inl (by decide) | (intro h9; exact absurd h9 (by decide)) | (intro _; omega) | (intro _; assumption) | (intro _; decide))) wi_1440 wi_1442 wi_103 wi_131 wi_1443 rfl rfl rfl ⟨rfl, by decide +kernel⟩ ⟨Nat.le_of_ble_eq_true rfl, Nat.le_of_ble_eq_true rfl⟩ rfl hl.1 rfl (Nat.le_of_ble_eq_true rfl) dX9_gathers_106 ⟨Nat.le_of_ble_eq_true rfl, Nat.le_of_ble_eq_true rfl⟩) hP hD hS hA [0, 1, 3] [2, 4] rfl rfl (by decide) (by decide) (fun u_13 H locs hwr_14 hP hD hS => ?_)
        obtain ⟨hP, hD⟩ : PD D A [(sw_in cT (g 4) 6 u_11.2.2.1), (sw_in cT (g 9) 11664 u_11.2.2.2.2), (sw_9 h0 g b0 b5 b6 b7 b8 b9 b10 b11 b12 b13 b14 b17 b18 b19 b23 b24 b25 b26 b27 u_11.1 b31 b32 b33), (sw_in cT (g 0) 288 u_13), (sw_in cT (g 5) 960 u_11.2.2.2.1)] _ := ⟨hP, hD⟩
        have qr_14_0 : PI 288 u_13 := hwr_14.1
        have qr_14_1 : AG (96 * x.toInt) u_13 u_11.2.2.2.1 u_11.2.1 := hwr_14.2.1
        have kag_r_14 : KR u_13 a0 := KR_ag qr_14_1 kqr_12_2 (by assumption)
        refine lv_iinc (v := (nI (k9_72 + 1))) (lv' := [(3, .int (nI (k9_72 + 1))), (0, .ref h0), (1, .int x), (2, .int y)]) hx hb dX9_gathers_109 hl (k := 0) rfl (by exact nI_1 (k9_72)) (by decide) rfl (fun ls hl => ?_)
        refine lv_goto (tgt := 72) hx hb dX9_gathers_112 (by decide) ?_
        exact ih_72 (k9_72 + 1) _ _ _ _ _ _ _ _ (by omega) (by omega) (by first | assumption | omega | decide | (simp only [ti_0, ti_1, ti_2, ti_3, ti_4, ti_5, ti_6, ti_7, ti_8, ti_9, ti_10, ti_11, ti_12, ti_m1]; omega)) (by assumption) (by first | assumption | exact KB_rfl _ _) (by first | assumption | omega | decide | (simp only [ti_0, ti_1, ti_2, ti_3, ti_4, ti_5, ti_6, ti_7, ti_8, ti_9, ti_10, ti_11, ti_12, ti_m1]; omega)) (by first | assumption | omega | decide | (simp only [ti_0, ti_1, ti_2, ti_3, ti_4, ti_5, ti_6, ti_7, ti_8, ti_9, ti_10, ti_11, ti_12, ti_m1]; omega)) (by first | assumption | exact KR_rfl _) (by first | assumption | omega | decide | (simp only [ti_0, ti_1, ti_2, ti_3, ti_4, ti_5, ti_6, ti_7, ti_8, ti_9, ti_10, ti_11, ti_12, ti_m1]; omega)) ⟨hP.sub [0, 1, 2, 3, 4] rfl, hD.sub [0, 1, 2, 3, 4] (by decide) rfl⟩ hS (lv_sub hl [0, 1, 2, 3] rfl)
      · have ic_7 : ¬ r_6.toInt = 0 := ine c_7 (rfl) (by decide)
        refine lv_goto (tgt := 109) hx hb dX9_gathers_86 (by decide) ?_
        refine lv_iinc (v := (nI (k9_72 + 1))) (lv' := [(3, .int (nI (k9_72 + 1))), (0, .ref h0), (1, .int x), (2, .int y)]) hx hb dX9_gathers_109 hl (k := 0) rfl (by exact nI_1 (k9_72)) (by decide) rfl (fun ls hl => ?_)
        refine lv_goto (tgt := 72) hx hb dX9_gathers_112 (by decide) ?_
        exact ih_72 (k9_72 + 1) _ _ _ _ _ _ _ _ (by omega) (by omega) (by first | assumption | omega | decide | (simp only [ti_0, ti_1, ti_2, ti_3, ti_4, ti_5, ti_6, ti_7, ti_8, ti_9, ti_10, ti_11, ti_12, ti_m1]; omega)) (by assumption) (by first | assumption | exact KB_rfl _ _) (by first | assumption | omega | decide | (simp only [ti_0, ti_1, ti_2, ti_3, ti_4, ti_5, ti_6, ti_7, ti_8, ti_9, ti_10, ti_11, ti_12, ti_m1]; omega)) (by first | assumption | omega | decide | (simp only [ti_0, ti_1, ti_2, ti_3, ti_4, ti_5, ti_6, ti_7, ti_8, ti_9, ti_10, ti_11, ti_12, ti_m1]; omega)) (by first | assumption | exact KR_rfl _) (by first | assumption | omega | decide | (simp only [ti_0, ti_1, ti_2, ti_3, ti_4, ti_5, ti_6, ti_7, ti_8, ti_9, ti_10, ti_11, ti_12, ti_m1]; omega)) ⟨hP.sub [0, 1, 3, 4, 2] rfl, hD.sub [0, 1, 3, 4, 2] (by decide) rfl⟩ hS (lv_sub hl [0, 1, 2, 3] rfl)
