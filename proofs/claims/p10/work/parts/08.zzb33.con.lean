set_option maxHeartbeats 4000000 in
set_option maxRecDepth 100000 in
theorem m_paysK (l : Launch) (D : va_G) (cT : Nat → ClassId) (sz : Nat) (h0 : Nat) (g : Nat → Nat) (b0 : Int32) (b5 : Int32) (b6 : Int32) (b7 : Int32) (b8 : Int32) (b9 : Int32) (b10 : Int32) (b11 : Int32) (b12 : Int32) (b13 : Int32) (b14 : Int32) (b17 : Int32) (b18 : Int32) (b19 : Int32) (b23 : Int32) (b24 : Int32) (b25 : Int32) (b26 : Int32) (b27 : Int32) (b29 : Int32) (b31 : Int32) (b32 : Int32) (b33 : Int32) (hb5 : 0 ≤ b5.toInt ∧ b5.toInt ≤ 900) (a0 : Nat → Int32) (pa0 : PI 288 a0) (a4 : Nat → Int32) (a5 : Nat → Int32) (pa5 : PI 960 a5) (a6 : Nat → Int32) (a7 : Nat → Int32) (a8 : Nat → Int32) (x : Int32) (y : Int32) : Met l yX9_pays (wsc yX9_pays cX9_pays 6 (some .int)) { frames := 16, cells := 0, slots := 0, locals := 465 } (va_Pc [.ref h0, .int x, .int y] (PX D cT sz [(sw_9 h0 g b0 b5 b6 b7 b8 b9 b10 b11 b12 b13 b14 b17 b18 b19 b23 b24 b25 b26 b27 b29 b31 b32 b33), (sw_in cT (g 0) 288 a0), (sw_in cT (g 4) 6 a4), (sw_in cT (g 5) 960 a5), (sw_in cT (g 6) 8 a6), (sw_in cT (g 7) 8 a7), (sw_in cT (g 8) 6 a8)])) (va_Qi (fun (r : Int32) (u : Int32 × Int32 × Int32 × Int32 × Int32 × Int32 × (Nat → Int32) × (Nat → Int32) × (Nat → Int32) × (Nat → Int32) × (Nat → Int32) × (Nat → Int32)) => (PI 288 u.2.2.2.2.2.2.1) ∧ (KR u.2.2.2.2.2.2.1 a0) ∧ (PI 960 u.2.2.2.2.2.2.2.2.1) ∧ (True)) (fun u t => RW D (va_A [(sw_9 h0 g b0 b5 b6 b7 b8 b9 b10 b11 b12 b13 b14 b17 b18 b19 b23 b24 b25 b26 b27 b29 b31 b32 b33), (sw_in cT (g 0) 288 a0), (sw_in cT (g 4) 6 a4), (sw_in cT (g 5) 960 a5), (sw_in cT (g 6) 8 a6), (sw_in cT (g 7) 8 a7), (sw_in cT (g 8) 6 a8)] sz) ((fun u : Int32 × Int32 × Int32 × Int32 × Int32 × Int32 × (Nat → Int32) × (Nat → Int32) × (Nat → Int32) × (Nat → Int32) × (Nat → Int32) × (Nat → Int32) => [(sw_9 h0 g u.1 b5 b6 b7 b8 b9 b10 b11 b12 b13 b14 b17 b18 b19 u.2.1 u.2.2.1 u.2.2.2.1 u.2.2.2.2.1 u.2.2.2.2.2.1 b29 b31 b32 b33), (sw_in cT (g 0) 288 u.2.2.2.2.2.2.1), (sw_in cT (g 4) 6 u.2.2.2.2.2.2.2.1), (sw_in cT (g 5) 960 u.2.2.2.2.2.2.2.2.1), (sw_in cT (g 6) 8 u.2.2.2.2.2.2.2.2.2.1), (sw_in cT (g 7) 8 u.2.2.2.2.2.2.2.2.2.2.1), (sw_in cT (g 8) 6 u.2.2.2.2.2.2.2.2.2.2.2)]) u) t) (va_A [(sw_9 h0 g b0 b5 b6 b7 b8 b9 b10 b11 b12 b13 b14 b17 b18 b19 b23 b24 b25 b26 b27 b29 b31 b32 b33), (sw_in cT (g 0) 288 a0), (sw_in cT (g 4) 6 a4), (sw_in cT (g 5) 960 a5), (sw_in cT (g 6) 8 a6), (sw_in cT (g 7) 8 a7), (sw_in cT (g 8) 6 a8)] sz)) 0 0 (va_A [(sw_9 h0 g b0 b5 b6 b7 b8 b9 b10 b11 b12 b13 b14 b17 b18 b19 b23 b24 b25 b26 b27 b29 b31 b32 b33), (sw_in cT (g 0) 288 a0), (sw_in cT (g 4) 6 a4), (sw_in cT (g 5) 960 a5), (sw_in cT (g 6) 8 a6), (sw_in cT (g 7) 8 a7), (sw_in cT (g 8) 6 a8)] sz) := by
  refine m_of (y := yX9_pays) (cc := cX9_pays) (nL := 6) (ret := (some .int)) (D := D) (cT := cT) (av := [.ref h0, .int x, .int y]) (wi := [(sw_9 h0 g b0 b5 b6 b7 b8 b9 b10 b11 b12 b13 b14 b17 b18 b19 b23 b24 b25 b26 b27 b29 b31 b32 b33), (sw_in cT (g 0) 288 a0), (sw_in cT (g 4) 6 a4), (sw_in cT (g 5) 960 a5), (sw_in cT (g 6) 8 a6), (sw_in cT (g 7) 8 a7), (sw_in cT (g 8) 6 a8)]) (fun A => va_Qi (fun (r : Int32) (u : Int32 × Int32 × Int32 × Int32 × Int32 × Int32 × (Nat → Int32) × (Nat → Int32) × (Nat → Int32) × (Nat → Int32) × (Nat → Int32) × (Nat → Int32)) => (PI 288 u.2.2.2.2.2.2.1) ∧ (KR u.2.2.2.2.2.2.1 a0) ∧ (PI 960 u.2.2.2.2.2.2.2.2.1) ∧ (True)) (fun u t => RW D A ((fun u : Int32 × Int32 × Int32 × Int32 × Int32 × Int32 × (Nat → Int32) × (Nat → Int32) × (Nat → Int32) × (Nat → Int32) × (Nat → Int32) × (Nat → Int32) => [(sw_9 h0 g u.1 b5 b6 b7 b8 b9 b10 b11 b12 b13 b14 b17 b18 b19 u.2.1 u.2.2.1 u.2.2.2.1 u.2.2.2.2.1 u.2.2.2.2.2.1 b29 b31 b32 b33), (sw_in cT (g 0) 288 u.2.2.2.2.2.2.1), (sw_in cT (g 4) 6 u.2.2.2.2.2.2.2.1), (sw_in cT (g 5) 960 u.2.2.2.2.2.2.2.2.1), (sw_in cT (g 6) 8 u.2.2.2.2.2.2.2.2.2.1), (sw_in cT (g 7) 8 u.2.2.2.2.2.2.2.2.2.2.1), (sw_in cT (g 8) 6 u.2.2.2.2.2.2.2.2.2.2.2)]) u) t) A) (by decide) (Nat.le_of_ble_eq_true rfl) ?_
  intro p e s m below meth c A hx hb hml hown htg hK hN hr hlk hnm hsz hP hD hS hA ls hl
  have hown : s.vm.findClass RX9 = some m.cls := hown
  have hl : lv_has ls 6 [(0, .ref h0), (1, .int x), (2, .int y)] := hl
  have tc_m5 : ((-5) : Int32).toInt = (-5) := by decide
  have tc_m3 : ((-3) : Int32).toInt = (-3) := by decide
  have tc_m2 : ((-2) : Int32).toInt = (-2) := by decide
  have tc_0 : (0 : Int32).toInt = 0 := by decide
  have tc_1 : (1 : Int32).toInt = 1 := by decide
  have tc_10 : (10 : Int32).toInt = 10 := by decide
  refine lv_aload_n hx hb dX9_pays_0 rfl (lv_at hl 0 rfl) ?_
  refine lv_iconst (v := 0) hx hb dX9_pays_1 (by decide) ?_
  refine va_put (D := D) (ci := 9) (v := .int 0) (ty := .int) (C := RX9) (T := TX9) (N := 37) hx hb htg gRX9 tyX9 tyX9_ok nmX9 hown hK hP hD hS 0 rfl rfl 0 (by decide) (htg _ wi_1150) (fun _ h9 => h9) rfl (by decide +kernel) rfl rfl (Nat.le_of_ble_eq_true rfl) dX9_pays_2 (fun H locs hP hD hS => ?_)
  obtain ⟨hP, hD⟩ : PD D A [(sw_9 h0 g 0 b5 b6 b7 b8 b9 b10 b11 b12 b13 b14 b17 b18 b19 b23 b24 b25 b26 b27 b29 b31 b32 b33), (sw_in cT (g 0) 288 a0), (sw_in cT (g 4) 6 a4), (sw_in cT (g 5) 960 a5), (sw_in cT (g 6) 8 a6), (sw_in cT (g 7) 8 a7), (sw_in cT (g 8) 6 a8)] _ := ⟨hP, hD⟩
  refine lv_iload_n hx hb dX9_pays_5 rfl (lv_at hl 1 rfl) ?_
  refine lv_i2l (v := x.toInt64) hx hb dX9_pays_6 rfl ?_
  refine lv_lconst (v := 0) hx hb dX9_pays_7 (by decide) ?_
  refine lv_ldc2 (v := 5) hx hb hown (htg _ wi_1342) dX9_pays_8 ?_
  have ilw_1 : (x.toInt64).toInt = x.toInt := i2l_i _
  refine xk_i (wr := [(sw_9 h0 g 0 b5 b6 b7 b8 b9 b10 b11 b12 b13 b14 b17 b18 b19 b23 b24 b25 b26 b27 b29 b31 b32 b33), (sw_in cT (g 0) 288 a0), (sw_in cT (g 4) 6 a4), (sw_in cT (g 5) 960 a5), (sw_in cT (g 6) 8 a6), (sw_in cT (g 7) 8 a7), (sw_in cT (g 8) 6 a8)]) (xr_S (n := 3) (As := [.long x.toInt64, .long 0, .long 5]) (rest := []) ⟨hx, hb, hml, hown, htg⟩ hK hN hP hD hS hA [] rfl (by decide) (m_within l D cT _ (x.toInt64) (0) (5) (x.toInt) (0) (5) (i2l_i _) (by decide) (by decide)) wi_1270 wi_1271 wi_131 wi_1272 ⟨rfl, by decide +kernel⟩ ⟨Nat.le_of_ble_eq_true rfl, Nat.le_of_ble_eq_true rfl⟩ rfl hl.1 rfl (Nat.le_of_ble_eq_true rfl) dX9_pays_11 ⟨Nat.le_of_ble_eq_true rfl, Nat.le_of_ble_eq_true rfl⟩) hP hD hS hA [] [0, 1, 2, 3, 4, 5, 6] rfl rfl (by decide) (by decide) (fun r_3 u_2 H locs hwr_3 hP hD hS => ?_)
  obtain ⟨hP, hD⟩ : PD D A [(sw_9 h0 g 0 b5 b6 b7 b8 b9 b10 b11 b12 b13 b14 b17 b18 b19 b23 b24 b25 b26 b27 b29 b31 b32 b33), (sw_in cT (g 0) 288 a0), (sw_in cT (g 4) 6 a4), (sw_in cT (g 5) 960 a5), (sw_in cT (g 6) 8 a6), (sw_in cT (g 7) 8 a7), (sw_in cT (g 8) 6 a8)] _ := ⟨hP, hD⟩
  have qr_3_0 : Imp (¬ r_3.toInt = 0) (0 ≤ x.toInt ∧ x.toInt ≤ 5) := hwr_3.1
  have qr_3_1 : r_3 = 0 ∨ r_3 = 1 := hwr_3.2.1
  refine lv_if_ne (tgt := 20) hx hb dX9_pays_14 (by decide) (fun c_4 => ?_) (fun c_4 => ?_)
  · have ic_4 : ¬ r_3.toInt = 0 := ine c_4 (rfl) (by decide)
    have kqr_3_0 : 0 ≤ x.toInt ∧ x.toInt ≤ 5 := qr_3_0 ic_4
    refine lv_iload_n hx hb dX9_pays_20 rfl (lv_at hl 2 rfl) ?_
    refine lv_i2l (v := y.toInt64) hx hb dX9_pays_21 rfl ?_
    refine lv_lconst (v := 1) hx hb dX9_pays_22 (by decide) ?_
    refine lv_ldc2 (v := 8) hx hb hown (htg _ wi_1477) dX9_pays_23 ?_
    have ilw_5 : (y.toInt64).toInt = y.toInt := i2l_i _
    refine xk_i (wr := [(sw_9 h0 g 0 b5 b6 b7 b8 b9 b10 b11 b12 b13 b14 b17 b18 b19 b23 b24 b25 b26 b27 b29 b31 b32 b33), (sw_in cT (g 0) 288 a0), (sw_in cT (g 4) 6 a4), (sw_in cT (g 5) 960 a5), (sw_in cT (g 6) 8 a6), (sw_in cT (g 7) 8 a7), (sw_in cT (g 8) 6 a8)]) (xr_S (n := 3) (As := [.long y.toInt64, .long 1, .long 8]) (rest := []) ⟨hx, hb, hml, hown, htg⟩ hK hN hP hD hS hA [] rfl (by decide) (m_within l D cT _ (y.toInt64) (1) (8) (y.toInt) (1) (8) (i2l_i _) (by decide) (by decide)) wi_1270 wi_1271 wi_131 wi_1272 ⟨rfl, by decide +kernel⟩ ⟨Nat.le_of_ble_eq_true rfl, Nat.le_of_ble_eq_true rfl⟩ rfl hl.1 rfl (Nat.le_of_ble_eq_true rfl) dX9_pays_26 ⟨Nat.le_of_ble_eq_true rfl, Nat.le_of_ble_eq_true rfl⟩) hP hD hS hA [] [0, 1, 2, 3, 4, 5, 6] rfl rfl (by decide) (by decide) (fun r_7 u_6 H locs hwr_7 hP hD hS => ?_)
    obtain ⟨hP, hD⟩ : PD D A [(sw_9 h0 g 0 b5 b6 b7 b8 b9 b10 b11 b12 b13 b14 b17 b18 b19 b23 b24 b25 b26 b27 b29 b31 b32 b33), (sw_in cT (g 0) 288 a0), (sw_in cT (g 4) 6 a4), (sw_in cT (g 5) 960 a5), (sw_in cT (g 6) 8 a6), (sw_in cT (g 7) 8 a7), (sw_in cT (g 8) 6 a8)] _ := ⟨hP, hD⟩
    have qr_7_0 : Imp (¬ r_7.toInt = 0) (1 ≤ y.toInt ∧ y.toInt ≤ 8) := hwr_7.1
    have qr_7_1 : r_7 = 0 ∨ r_7 = 1 := hwr_7.2.1
    refine lv_if_ne (tgt := 35) hx hb dX9_pays_29 (by decide) (fun c_8 => ?_) (fun c_8 => ?_)
    · have ic_8 : ¬ r_7.toInt = 0 := ine c_8 (rfl) (by decide)
      have kqr_7_0 : 1 ≤ y.toInt ∧ y.toInt ≤ 8 := qr_7_0 ic_8
      refine lv_aload_n hx hb dX9_pays_35 rfl (lv_at hl 0 rfl) ?_
      refine va_get (D := D) (ci := 9) (v := .ref (g 0)) (C := RX9) (T := TX9) (N := 37) hx hb htg gRX9 hown hK hP 0 rfl rfl 1 (by decide) (htg _ wi_1151) (fun _ h9 => h9) rfl dX9_pays_36 ?_
      refine lv_iconst (v := 0) hx hb dX9_pays_39 (by decide) ?_
      refine va_iald hx hb hK hP 1 0 rfl rfl (by unfold vp_in; decide) dX9_pays_40 ?_
      refine lv_topi (fun z_9 ez_9 => ?_)
      have iz_9 : 0 ≤ z_9.toInt ∧ z_9.toInt ≤ 16 := by rw [ez_9]; exact rd0 pa0 (by decide) rfl
      have nz_9 : z_9.toInt = ((a0) 0).toInt := by rw [ez_9]; rfl
      refine lv_if_ne (tgt := 47) hx hb dX9_pays_41 (by decide) (fun c_10 => ?_) (fun c_10 => ?_)
      · have ic_10 : ¬ z_9.toInt = 0 := ine c_10 (rfl) (by decide)
        refine lv_aload_n hx hb dX9_pays_47 rfl (lv_at hl 0 rfl) ?_
        refine va_get (D := D) (ci := 9) (v := .ref (g 0)) (C := RX9) (T := TX9) (N := 37) hx hb htg gRX9 hown hK hP 0 rfl rfl 1 (by decide) (htg _ wi_1151) (fun _ h9 => h9) rfl dX9_pays_48 ?_
        refine lv_bipush (v := 10) hx hb dX9_pays_51 (by decide) ?_
        refine lv_iload_n hx hb dX9_pays_53 rfl (lv_at hl 1 rfl) ?_
        refine lv_iadd hx hb dX9_pays_54 ?_
        refine lv_topi (fun z_11 ez_11 => ?_)
        have iz_11 : z_11.toInt = 10 + x.toInt := toInt_addI ez_11 (by decide) (rfl) (by omega)
        refine va_iald hx hb hK hP 1 0 rfl rfl (vp_in_iff.mpr (by omega)) dX9_pays_55 ?_
        refine lv_topi (fun z_12 ez_12 => ?_)
        refine lv_istore_n (lv' := [(3, .int z_12), (0, .ref h0), (1, .int x), (2, .int y)]) hx hb dX9_pays_56 rfl hl (by decide) rfl (fun ls hl => ?_)
        refine lv_aload_n hx hb dX9_pays_57 rfl (lv_at hl 1 rfl) ?_
        refine lv_iconst (v := 1) hx hb dX9_pays_58 (by decide) ?_
        refine lv_iconst (v := 0) hx hb dX9_pays_59 (by decide) ?_
        refine lv_iload_n hx hb dX9_pays_60 rfl (lv_at hl 3 rfl) ?_
        refine xk_i (wr := []) (xr_V (n := 3) (As := [.int 1, .int 0, .int y]) (rest := []) ⟨hx, hb, hml, hown, htg⟩ hK hN hP hD hS hA [0, 1, 2, 3, 4, 5, 6] rfl (by decide) (m_laysBestK l D cT _ (h0) (g) (0) (b5) (b6) (b7) (b8) (b9) (b10) (b11) (b12) (b13) (b14) (b17) (b18) (b19) (b23) (b24) (b25) (b26) (b27) (b29) (b31) (b32) (b33) (by first | assumption | omega | decide | exact Or.inl (by decide) | (intro h9; exact absurd h9 (by decide)) | (intro _; omega) | (intro _; assumption) | (intro _; decide)) (a0) (by first | assumption | omega | decide | exact Or.inl (by decide) | (intro h9; exact absurd h9 (by decide)) | (intro _; omega) | (intro _; assumption) | (intro _; decide)) (a4) (a5) (by first | assumption | omega | decide | exact Or.inl (by decide) | (intro h9; exact absurd h9 (by decide)) | (intro _; omega) | (intro _; assumption) | (intro _; decide)) (a6) (a7) (a8) (1) (0) (y) (by first | assumption | omega | decide | exact Or.inl (by decide) | (intro h9; exact absurd h9 (by decide)) | (intro _; omega) | (intro _; assumption) | (intro _; decide)) (by first | assumption | omega | decide | exact Or.inl (by decide) | (intro h9; exact absurd h9 (by decide)) | (intro _; omega) | (intro _; assumption) | (intro _; decide))) wi_1478 wi_1480 wi_106 wi_131 wi_1481 rfl rfl rfl ⟨rfl, by decide +kernel⟩ ⟨Nat.le_of_ble_eq_true rfl, Nat.le_of_ble_eq_true rfl⟩ rfl hl.1 rfl (Nat.le_of_ble_eq_true rfl) dX9_pays_61 ⟨Nat.le_of_ble_eq_true rfl, Nat.le_of_ble_eq_true rfl⟩) hP hD hS hA [0, 1, 2, 3, 4, 5, 6] [] rfl rfl (by decide) (by decide) (fun r_14 u_13 H locs hwr_14 hP hD hS => ?_)
        obtain ⟨hP, hD⟩ : PD D A [(sw_9 h0 g 0 b5 b6 b7 b8 b9 b10 b11 b12 b13 b14 b17 b18 b19 u_13.1 u_13.2.1 u_13.2.2.1 u_13.2.2.2.1 u_13.2.2.2.2.1 b29 b31 b32 b33), (sw_in cT (g 0) 288 u_13.2.2.2.2.2.1), (sw_in cT (g 4) 6 u_13.2.2.2.2.2.2.1), (sw_in cT (g 5) 960 u_13.2.2.2.2.2.2.2.1), (sw_in cT (g 6) 8 u_13.2.2.2.2.2.2.2.2.1), (sw_in cT (g 7) 8 u_13.2.2.2.2.2.2.2.2.2.1), (sw_in cT (g 8) 6 u_13.2.2.2.2.2.2.2.2.2.2)] _ := ⟨hP, hD⟩
        have qr_14_0 : PI 288 u_13.2.2.2.2.2.1 := hwr_14.1
        have qr_14_1 : KR u_13.2.2.2.2.2.1 a0 := hwr_14.2.1
        have kqr_14_1 : KR u_13.2.2.2.2.2.1 (a0) := KR_tr qr_14_1 (KR_rfl a0)
        have qr_14_2 : PI 960 u_13.2.2.2.2.2.2.2.1 := hwr_14.2.2.1
        refine lv_iload_n hx hb dX9_pays_64 rfl (lv_at hl 0 rfl) ?_
        refine lv_aload_n hx hb dX9_pays_65 rfl (lv_at hl 1 rfl) ?_
        refine va_get (D := D) (ci := 9) (v := .ref (g 8)) (C := RX9) (T := TX9) (N := 37) hx hb htg gRX9 hown hK hP 0 rfl rfl 22 (by decide) (htg _ wi_1172) (fun _ h9 => h9) rfl dX9_pays_66 ?_
        refine lv_iload_n hx hb dX9_pays_69 rfl (lv_at hl 2 rfl) ?_
        refine va_iald hx hb hK hP 6 0 rfl rfl (vp_in_iff.mpr (by omega)) dX9_pays_70 ?_
        refine lv_topi (fun z_15 ez_15 => ?_)
        refine lv_imul hx hb dX9_pays_71 ?_
        refine lv_topi (fun z_16 ez_16 => ?_)
        refine lv_isub hx hb dX9_pays_72 ?_
        refine lv_topi (fun z_17 ez_17 => ?_)
        refine lv_istore (lv' := [(4, .int z_17), (3, .int z_12), (0, .ref h0), (1, .int x), (2, .int y)]) hx hb dX9_pays_73 hl (by decide) rfl (fun ls hl => ?_)
        refine lv_aload_n hx hb dX9_pays_75 rfl (lv_at hl 2 rfl) ?_
        refine va_get (D := D) (ci := 9) (v := .ref (g 0)) (C := RX9) (T := TX9) (N := 37) hx hb htg gRX9 hown hK hP 0 rfl rfl 1 (by decide) (htg _ wi_1151) (fun _ h9 => h9) rfl dX9_pays_76 ?_
        refine lv_bipush (v := 10) hx hb dX9_pays_79 (by decide) ?_
        refine lv_iload_n hx hb dX9_pays_81 rfl (lv_at hl 3 rfl) ?_
        refine lv_iadd hx hb dX9_pays_82 ?_
        refine lv_topi (fun z_18 ez_18 => ?_)
        have iz_18 : z_18.toInt = 10 + x.toInt := toInt_addI ez_18 (by decide) (rfl) (by omega)
        refine lv_iconst (v := 0) hx hb dX9_pays_83 (by decide) ?_
        refine va_iast hx hb hK hP hD hS 1 0 rfl rfl (vp_in_iff.mpr (by omega)) dX9_pays_84 (fun H locs hP hD hS => ?_)
        obtain ⟨f_19, ef_19, hP, hD⟩ : ∃ f_19 : Nat → Int32, f_19 = upd (u_13.2.2.2.2.2.1) (z_18 : Int32).toNatClampNeg 0 ∧ PD D A [(sw_9 h0 g 0 b5 b6 b7 b8 b9 b10 b11 b12 b13 b14 b17 b18 b19 u_13.1 u_13.2.1 u_13.2.2.1 u_13.2.2.2.1 u_13.2.2.2.2.1 b29 b31 b32 b33), (sw_in cT (g 0) 288 f_19), (sw_in cT (g 4) 6 u_13.2.2.2.2.2.2.1), (sw_in cT (g 5) 960 u_13.2.2.2.2.2.2.2.1), (sw_in cT (g 6) 8 u_13.2.2.2.2.2.2.2.2.1), (sw_in cT (g 7) 8 u_13.2.2.2.2.2.2.2.2.2.1), (sw_in cT (g 8) 6 u_13.2.2.2.2.2.2.2.2.2.2)] H := ⟨_, rfl, hP, hD⟩
        have qf_19 : PI 288 f_19 := by rw [ef_19]; exact pi_upd (a := z_18.toInt) (b := 0) qr_14_0 (rfl) (by decide) (by omega) (by unfold OKP; omega)
        refine lv_aload_n hx hb dX9_pays_85 rfl (lv_at hl 2 rfl) ?_
        refine lv_iconst (v := 1) hx hb dX9_pays_86 (by decide) ?_
        refine lv_iconst (v := 0) hx hb dX9_pays_87 (by decide) ?_
        refine lv_iload_n hx hb dX9_pays_88 rfl (lv_at hl 4 rfl) ?_
        refine xk_i (wr := []) (xr_V (n := 3) (As := [.int 1, .int 0, .int y]) (rest := []) ⟨hx, hb, hml, hown, htg⟩ hK hN hP hD hS hA [0, 1, 2, 3, 4, 5, 6] rfl (by decide) (m_laysBestK l D cT _ (h0) (g) (0) (b5) (b6) (b7) (b8) (b9) (b10) (b11) (b12) (b13) (b14) (b17) (b18) (b19) (u_13.1) (u_13.2.1) (u_13.2.2.1) (u_13.2.2.2.1) (u_13.2.2.2.2.1) (b29) (b31) (b32) (b33) (by first | assumption | omega | decide | exact Or.inl (by decide) | (intro h9; exact absurd h9 (by decide)) | (intro _; omega) | (intro _; assumption) | (intro _; decide)) (f_19) (by first | assumption | omega | decide | exact Or.inl (by decide) | (intro h9; exact absurd h9 (by decide)) | (intro _; omega) | (intro _; assumption) | (intro _; decide)) (u_13.2.2.2.2.2.2.1) (u_13.2.2.2.2.2.2.2.1) (by first | assumption | omega | decide | exact Or.inl (by decide) | (intro h9; exact absurd h9 (by decide)) | (intro _; omega) | (intro _; assumption) | (intro _; decide)) (u_13.2.2.2.2.2.2.2.2.1) (u_13.2.2.2.2.2.2.2.2.2.1) (u_13.2.2.2.2.2.2.2.2.2.2) (1) (0) (y) (by first | assumption | omega | decide | exact Or.inl (by decide) | (intro h9; exact absurd h9 (by decide)) | (intro _; omega) | (intro _; assumption) | (intro _; decide)) (by first | assumption | omega | decide | exact Or.inl (by decide) | (intro h9; exact absurd h9 (by decide)) | (intro _; omega) | (intro _; assumption) | (intro _; decide))) wi_1478 wi_1480 wi_106 wi_131 wi_1481 rfl rfl rfl ⟨rfl, by decide +kernel⟩ ⟨Nat.le_of_ble_eq_true rfl, Nat.le_of_ble_eq_true rfl⟩ rfl hl.1 rfl (Nat.le_of_ble_eq_true rfl) dX9_pays_89 ⟨Nat.le_of_ble_eq_true rfl, Nat.le_of_ble_eq_true rfl⟩) hP hD hS hA [0, 1, 2, 3, 4, 5, 6] [] rfl rfl (by decide) (by decide) (fun r_21 u_20 H locs hwr_21 hP hD hS => ?_)
        obtain ⟨hP, hD⟩ : PD D A [(sw_9 h0 g 0 b5 b6 b7 b8 b9 b10 b11 b12 b13 b14 b17 b18 b19 u_20.1 u_20.2.1 u_20.2.2.1 u_20.2.2.2.1 u_20.2.2.2.2.1 b29 b31 b32 b33), (sw_in cT (g 0) 288 u_20.2.2.2.2.2.1), (sw_in cT (g 4) 6 u_20.2.2.2.2.2.2.1), (sw_in cT (g 5) 960 u_20.2.2.2.2.2.2.2.1), (sw_in cT (g 6) 8 u_20.2.2.2.2.2.2.2.2.1), (sw_in cT (g 7) 8 u_20.2.2.2.2.2.2.2.2.2.1), (sw_in cT (g 8) 6 u_20.2.2.2.2.2.2.2.2.2.2)] _ := ⟨hP, hD⟩
        have qr_21_0 : PI 288 u_20.2.2.2.2.2.1 := hwr_21.1
        have qr_21_1 : KR u_20.2.2.2.2.2.1 f_19 := hwr_21.2.1
        have qr_21_2 : PI 960 u_20.2.2.2.2.2.2.2.1 := hwr_21.2.2.1
        refine lv_istore (lv' := [(5, .int r_21), (4, .int z_17), (3, .int z_12), (0, .ref h0), (1, .int x), (2, .int y)]) hx hb dX9_pays_92 hl (by decide) rfl (fun ls hl => ?_)
        refine lv_aload_n hx hb dX9_pays_94 rfl (lv_at hl 3 rfl) ?_
        refine va_get (D := D) (ci := 9) (v := .ref (g 0)) (C := RX9) (T := TX9) (N := 37) hx hb htg gRX9 hown hK hP 0 rfl rfl 1 (by decide) (htg _ wi_1151) (fun _ h9 => h9) rfl dX9_pays_95 ?_
        refine lv_bipush (v := 10) hx hb dX9_pays_98 (by decide) ?_
        refine lv_iload_n hx hb dX9_pays_100 rfl (lv_at hl 4 rfl) ?_
        refine lv_iadd hx hb dX9_pays_101 ?_
        refine lv_topi (fun z_22 ez_22 => ?_)
        have iz_22 : z_22.toInt = 10 + x.toInt := toInt_addI ez_22 (by decide) (rfl) (by omega)
        refine lv_iload_n hx hb dX9_pays_102 rfl (lv_at hl 2 rfl) ?_
        refine va_iast hx hb hK hP hD hS 1 0 rfl rfl (vp_in_iff.mpr (by omega)) dX9_pays_103 (fun H locs hP hD hS => ?_)
        obtain ⟨f_23, ef_23, hP, hD⟩ : ∃ f_23 : Nat → Int32, f_23 = upd (u_20.2.2.2.2.2.1) (z_22 : Int32).toNatClampNeg z_12 ∧ PD D A [(sw_9 h0 g 0 b5 b6 b7 b8 b9 b10 b11 b12 b13 b14 b17 b18 b19 u_20.1 u_20.2.1 u_20.2.2.1 u_20.2.2.2.1 u_20.2.2.2.2.1 b29 b31 b32 b33), (sw_in cT (g 0) 288 f_23), (sw_in cT (g 4) 6 u_20.2.2.2.2.2.2.1), (sw_in cT (g 5) 960 u_20.2.2.2.2.2.2.2.1), (sw_in cT (g 6) 8 u_20.2.2.2.2.2.2.2.2.1), (sw_in cT (g 7) 8 u_20.2.2.2.2.2.2.2.2.2.1), (sw_in cT (g 8) 6 u_20.2.2.2.2.2.2.2.2.2.2)] H := ⟨_, rfl, hP, hD⟩
        have qf_23 : PI 288 f_23 := by rw [ef_23]; exact pi_upd (a := z_22.toInt) (b := z_12.toInt) qr_21_0 (rfl) (rfl) (by omega) (by unfold OKP; omega)
        have hw_krb_24 : z_12 = (u_13.2.2.2.2.2.1) (10 + x.toInt).toNat := by have h1 := kqr_14_1 (10 + x.toInt).toNat (by unfold NRP; omega); rw [h1]; (rw [ez_12]; exact congrArg a0 (show Int.toNat _ = _ from by omega))
        have krb_24 : KR f_23 a0 := KR_tr (KR_put (a := 10 + x.toInt) ef_19 qr_21_1 ef_23 (by first | omega | exact (nI_toInt (by omega)).trans (by omega)) (by first | omega | exact (nI_toInt (by omega)).trans (by omega)) (by omega) hw_krb_24) kqr_14_1
        refine lv_iload hx hb dX9_pays_104 (lv_at hl 0 rfl) ?_
        refine lv_iload hx hb dX9_pays_106 (lv_at hl 1 rfl) ?_
        refine lv_isub hx hb dX9_pays_108 ?_
        refine lv_topi (fun z_25 ez_25 => ?_)
        exact x_iret hx hb hr hlk hP hD hS [0, 1, 2, 3, 4, 5, 6] ((0, u_20.1, u_20.2.1, u_20.2.2.1, u_20.2.2.2.1, u_20.2.2.2.2.1, f_23, u_20.2.2.2.2.2.2.1, u_20.2.2.2.2.2.2.2.1, u_20.2.2.2.2.2.2.2.2.1, u_20.2.2.2.2.2.2.2.2.2.1, u_20.2.2.2.2.2.2.2.2.2.2)) rfl (by decide) ⟨by (try dsimp only); first | assumption | omega | decide | exact Or.inl (by decide) | (intro h9; exact absurd h9 (by decide)) | (intro _; omega) | (intro _; assumption) | (intro _; decide), by (try dsimp only); first | assumption | exact KR_rfl _, by (try dsimp only); first | assumption | omega | decide | exact Or.inl (by decide) | (intro h9; exact absurd h9 (by decide)) | (intro _; omega) | (intro _; assumption) | (intro _; decide), trivial⟩ (by decide) (by decide) dX9_pays_109
      · have ic_10 : z_9.toInt = 0 := ieq c_10 (rfl) (by decide)
        refine lv_bipush (v := (-5)) hx hb dX9_pays_44 (by decide) ?_
        exact x_iret hx hb hr hlk hP hD hS [0, 1, 2, 3, 4, 5, 6] ((0, b23, b24, b25, b26, b27, a0, a4, a5, a6, a7, a8)) rfl (by decide) ⟨by (try dsimp only); first | assumption | omega | decide | exact Or.inl (by decide) | (intro h9; exact absurd h9 (by decide)) | (intro _; omega) | (intro _; assumption) | (intro _; decide), by (try dsimp only); first | assumption | exact KR_rfl _, by (try dsimp only); first | assumption | omega | decide | exact Or.inl (by decide) | (intro h9; exact absurd h9 (by decide)) | (intro _; omega) | (intro _; assumption) | (intro _; decide), trivial⟩ (by decide) (by decide) dX9_pays_46
    · have ic_8 : r_7.toInt = 0 := ieq c_8 (rfl) (by decide)
      refine lv_bipush (v := (-3)) hx hb dX9_pays_32 (by decide) ?_
      exact x_iret hx hb hr hlk hP hD hS [0, 1, 2, 3, 4, 5, 6] ((0, b23, b24, b25, b26, b27, a0, a4, a5, a6, a7, a8)) rfl (by decide) ⟨by (try dsimp only); first | assumption | omega | decide | exact Or.inl (by decide) | (intro h9; exact absurd h9 (by decide)) | (intro _; omega) | (intro _; assumption) | (intro _; decide), by (try dsimp only); first | assumption | exact KR_rfl _, by (try dsimp only); first | assumption | omega | decide | exact Or.inl (by decide) | (intro h9; exact absurd h9 (by decide)) | (intro _; omega) | (intro _; assumption) | (intro _; decide), trivial⟩ (by decide) (by decide) dX9_pays_34
  · have ic_4 : r_3.toInt = 0 := ieq c_4 (rfl) (by decide)
    refine lv_bipush (v := (-2)) hx hb dX9_pays_17 (by decide) ?_
    exact x_iret hx hb hr hlk hP hD hS [0, 1, 2, 3, 4, 5, 6] ((0, b23, b24, b25, b26, b27, a0, a4, a5, a6, a7, a8)) rfl (by decide) ⟨by (try dsimp only); first | assumption | omega | decide | exact Or.inl (by decide) | (intro h9; exact absurd h9 (by decide)) | (intro _; omega) | (intro _; assumption) | (intro _; decide), by (try dsimp only); first | assumption | exact KR_rfl _, by (try dsimp only); first | assumption | omega | decide | exact Or.inl (by decide) | (intro h9; exact absurd h9 (by decide)) | (intro _; omega) | (intro _; assumption) | (intro _; decide), trivial⟩ (by decide) (by decide) dX9_pays_19
