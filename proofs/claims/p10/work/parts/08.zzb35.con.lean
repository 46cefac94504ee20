set_option maxHeartbeats 4000000 in
set_option maxRecDepth 100000 in
theorem m_shiftedK (l : Launch) (D : va_G) (cT : Nat → ClassId) (sz : Nat) (h0 : Nat) (g : Nat → Nat) (b0 : Int32) (b5 : Int32) (b6 : Int32) (b7 : Int32) (b8 : Int32) (b9 : Int32) (b10 : Int32) (b11 : Int32) (b12 : Int32) (b13 : Int32) (b14 : Int32) (b17 : Int32) (b18 : Int32) (b19 : Int32) (b23 : Int32) (b24 : Int32) (b25 : Int32) (b26 : Int32) (b27 : Int32) (b29 : Int32) (b31 : Int32) (b32 : Int32) (b33 : Int32) (hb5 : 0 ≤ b5.toInt ∧ b5.toInt ≤ 900) (a0 : Nat → Int32) (pa0 : PI 288 a0) (a4 : Nat → Int32) (a5 : Nat → Int32) (pa5 : PI 960 a5) (a6 : Nat → Int32) (a7 : Nat → Int32) (a8 : Nat → Int32) (x : Int32) (y : Int32) : Met l yX9_shifted (wsc yX9_shifted cX9_shifted 10 (some .int)) { frames := 16, cells := 0, slots := 0, locals := 465 } (va_Pc [.ref h0, .int x, .int y] (PX D cT sz [(sw_9 h0 g b0 b5 b6 b7 b8 b9 b10 b11 b12 b13 b14 b17 b18 b19 b23 b24 b25 b26 b27 b29 b31 b32 b33), (sw_in cT (g 0) 288 a0), (sw_in cT (g 4) 6 a4), (sw_in cT (g 5) 960 a5), (sw_in cT (g 6) 8 a6), (sw_in cT (g 7) 8 a7), (sw_in cT (g 8) 6 a8)])) (va_Qi (fun (r : Int32) (u : Int32 × Int32 × Int32 × Int32 × Int32 × Int32 × (Nat → Int32) × (Nat → Int32) × (Nat → Int32) × (Nat → Int32) × (Nat → Int32) × (Nat → Int32)) => (PI 288 u.2.2.2.2.2.2.1) ∧ (KR u.2.2.2.2.2.2.1 a0) ∧ (PI 960 u.2.2.2.2.2.2.2.2.1) ∧ (True)) (fun u t => RW D (va_A [(sw_9 h0 g b0 b5 b6 b7 b8 b9 b10 b11 b12 b13 b14 b17 b18 b19 b23 b24 b25 b26 b27 b29 b31 b32 b33), (sw_in cT (g 0) 288 a0), (sw_in cT (g 4) 6 a4), (sw_in cT (g 5) 960 a5), (sw_in cT (g 6) 8 a6), (sw_in cT (g 7) 8 a7), (sw_in cT (g 8) 6 a8)] sz) ((fun u : Int32 × Int32 × Int32 × Int32 × Int32 × Int32 × (Nat → Int32) × (Nat → Int32) × (Nat → Int32) × (Nat → Int32) × (Nat → Int32) × (Nat → Int32) => [(sw_9 h0 g u.1 b5 b6 b7 b8 b9 b10 b11 b12 b13 b14 b17 b18 b19 u.2.1 u.2.2.1 u.2.2.2.1 u.2.2.2.2.1 u.2.2.2.2.2.1 b29 b31 b32 b33), (sw_in cT (g 0) 288 u.2.2.2.2.2.2.1), (sw_in cT (g 4) 6 u.2.2.2.2.2.2.2.1), (sw_in cT (g 5) 960 u.2.2.2.2.2.2.2.2.1), (sw_in cT (g 6) 8 u.2.2.2.2.2.2.2.2.2.1), (sw_in cT (g 7) 8 u.2.2.2.2.2.2.2.2.2.2.1), (sw_in cT (g 8) 6 u.2.2.2.2.2.2.2.2.2.2.2)]) u) t) (va_A [(sw_9 h0 g b0 b5 b6 b7 b8 b9 b10 b11 b12 b13 b14 b17 b18 b19 b23 b24 b25 b26 b27 b29 b31 b32 b33), (sw_in cT (g 0) 288 a0), (sw_in cT (g 4) 6 a4), (sw_in cT (g 5) 960 a5), (sw_in cT (g 6) 8 a6), (sw_in cT (g 7) 8 a7), (sw_in cT (g 8) 6 a8)] sz)) 0 0 (va_A [(sw_9 h0 g b0 b5 b6 b7 b8 b9 b10 b11 b12 b13 b14 b17 b18 b19 b23 b24 b25 b26 b27 b29 b31 b32 b33), (sw_in cT (g 0) 288 a0), (sw_in cT (g 4) 6 a4), (sw_in cT (g 5) 960 a5), (sw_in cT (g 6) 8 a6), (sw_in cT (g 7) 8 a7), (sw_in cT (g 8) 6 a8)] sz) := by
  refine m_of (y := yX9_shifted) (cc := cX9_shifted) (nL := 10) (ret := (some .int)) (D := D) (cT := cT) (av := [.ref h0, .int x, .int y]) (wi := [(sw_9 h0 g b0 b5 b6 b7 b8 b9 b10 b11 b12 b13 b14 b17 b18 b19 b23 b24 b25 b26 b27 b29 b31 b32 b33), (sw_in cT (g 0) 288 a0), (sw_in cT (g 4) 6 a4), (sw_in cT (g 5) 960 a5), (sw_in cT (g 6) 8 a6), (sw_in cT (g 7) 8 a7), (sw_in cT (g 8) 6 a8)]) (fun A => va_Qi (fun (r : Int32) (u : Int32 × Int32 × Int32 × Int32 × Int32 × Int32 × (Nat → Int32) × (Nat → Int32) × (Nat → Int32) × (Nat → Int32) × (Nat → Int32) × (Nat → Int32)) => (PI 288 u.2.2.2.2.2.2.1) ∧ (KR u.2.2.2.2.2.2.1 a0) ∧ (PI 960 u.2.2.2.2.2.2.2.2.1) ∧ (True)) (fun u t => RW D A ((fun u : Int32 × Int32 × Int32 × Int32 × Int32 × Int32 × (Nat → Int32) × (Nat → Int32) × (Nat → Int32) × (Nat → Int32) × (Nat → Int32) × (Nat → Int32) => [(sw_9 h0 g u.1 b5 b6 b7 b8 b9 b10 b11 b12 b13 b14 b17 b18 b19 u.2.1 u.2.2.1 u.2.2.2.1 u.2.2.2.2.1 u.2.2.2.2.2.1 b29 b31 b32 b33), (sw_in cT (g 0) 288 u.2.2.2.2.2.2.1), (sw_in cT (g 4) 6 u.2.2.2.2.2.2.2.1), (sw_in cT (g 5) 960 u.2.2.2.2.2.2.2.2.1), (sw_in cT (g 6) 8 u.2.2.2.2.2.2.2.2.2.1), (sw_in cT (g 7) 8 u.2.2.2.2.2.2.2.2.2.2.1), (sw_in cT (g 8) 6 u.2.2.2.2.2.2.2.2.2.2.2)]) u) t) A) (by decide) (Nat.le_of_ble_eq_true rfl) ?_
  intro p e s m below meth c A hx hb hml hown htg hK hN hr hlk hnm hsz hP hD hS hA ls hl
  have hown : s.vm.findClass RX9 = some m.cls := hown
  have hl : lv_has ls 10 [(0, .ref h0), (1, .int x), (2, .int y)] := hl
  have tc_m5 : ((-5) : Int32).toInt = (-5) := by decide
  have tc_m3 : ((-3) : Int32).toInt = (-3) := by decide
  have tc_m2 : ((-2) : Int32).toInt = (-2) := by decide
  have tc_m1 : ((-1) : Int32).toInt = (-1) := by decide
  have tc_0 : (0 : Int32).toInt = 0 := by decide
  have tc_1 : (1 : Int32).toInt = 1 := by decide
  have tc_9 : (9 : Int32).toInt = 9 := by decide
  have tc_32 : (32 : Int32).toInt = 32 := by decide
  refine lv_aload_n hx hb dX9_shifted_0 rfl (lv_at hl 0 rfl) ?_
  refine lv_iconst (v := 0) hx hb dX9_shifted_1 (by decide) ?_
  refine va_put (D := D) (ci := 9) (v := .int 0) (ty := .int) (C := RX9) (T := TX9) (N := 37) hx hb htg gRX9 tyX9 tyX9_ok nmX9 hown hK hP hD hS 0 rfl rfl 0 (by decide) (htg _ wi_1150) (fun _ h9 => h9) rfl (by decide +kernel) rfl rfl (Nat.le_of_ble_eq_true rfl) dX9_shifted_2 (fun H locs hP hD hS => ?_)
  obtain ⟨hP, hD⟩ : PD D A [(sw_9 h0 g 0 b5 b6 b7 b8 b9 b10 b11 b12 b13 b14 b17 b18 b19 b23 b24 b25 b26 b27 b29 b31 b32 b33), (sw_in cT (g 0) 288 a0), (sw_in cT (g 4) 6 a4), (sw_in cT (g 5) 960 a5), (sw_in cT (g 6) 8 a6), (sw_in cT (g 7) 8 a7), (sw_in cT (g 8) 6 a8)] _ := ⟨hP, hD⟩
  refine lv_iload_n hx hb dX9_shifted_5 rfl (lv_at hl 2 rfl) ?_
  refine lv_i2l (v := y.toInt64) hx hb dX9_shifted_6 rfl ?_
  refine lv_lconst (v := 0) hx hb dX9_shifted_7 (by decide) ?_
  refine lv_ldc2 (v := 2) hx hb hown (htg _ wi_1420) dX9_shifted_8 ?_
  have ilw_1 : (y.toInt64).toInt = y.toInt := i2l_i _
  refine xk_i (wr := [(sw_9 h0 g 0 b5 b6 b7 b8 b9 b10 b11 b12 b13 b14 b17 b18 b19 b23 b24 b25 b26 b27 b29 b31 b32 b33), (sw_in cT (g 0) 288 a0), (sw_in cT (g 4) 6 a4), (sw_in cT (g 5) 960 a5), (sw_in cT (g 6) 8 a6), (sw_in cT (g 7) 8 a7), (sw_in cT (g 8) 6 a8)]) (xr_S (n := 3) (As := [.long y.toInt64, .long 0, .long 2]) (rest := []) ⟨hx, hb, hml, hown, htg⟩ hK hN hP hD hS hA [] rfl (by decide) (m_within l D cT _ (y.toInt64) (0) (2) (y.toInt) (0) (2) (i2l_i _) (by decide) (by decide)) wi_1270 wi_1271 wi_131 wi_1272 ⟨rfl, by decide +kernel⟩ ⟨Nat.le_of_ble_eq_true rfl, Nat.le_of_ble_eq_true rfl⟩ rfl hl.1 rfl (Nat.le_of_ble_eq_true rfl) dX9_shifted_11 ⟨Nat.le_of_ble_eq_true rfl, Nat.le_of_ble_eq_true rfl⟩) hP hD hS hA [] [0, 1, 2, 3, 4, 5, 6] rfl rfl (by decide) (by decide) (fun r_3 u_2 H locs hwr_3 hP hD hS => ?_)
  obtain ⟨hP, hD⟩ : PD D A [(sw_9 h0 g 0 b5 b6 b7 b8 b9 b10 b11 b12 b13 b14 b17 b18 b19 b23 b24 b25 b26 b27 b29 b31 b32 b33), (sw_in cT (g 0) 288 a0), (sw_in cT (g 4) 6 a4), (sw_in cT (g 5) 960 a5), (sw_in cT (g 6) 8 a6), (sw_in cT (g 7) 8 a7), (sw_in cT (g 8) 6 a8)] _ := ⟨hP, hD⟩
  have qr_3_0 : Imp (¬ r_3.toInt = 0) (0 ≤ y.toInt ∧ y.toInt ≤ 2) := hwr_3.1
  have qr_3_1 : r_3 = 0 ∨ r_3 = 1 := hwr_3.2.1
  refine lv_if_ne (tgt := 20) hx hb dX9_shifted_14 (by decide) (fun c_4 => ?_) (fun c_4 => ?_)
  · have ic_4 : ¬ r_3.toInt = 0 := ine c_4 (rfl) (by decide)
    have kqr_3_0 : 0 ≤ y.toInt ∧ y.toInt ≤ 2 := qr_3_0 ic_4
    refine lv_iload_n hx hb dX9_shifted_20 rfl (lv_at hl 1 rfl) ?_
    refine lv_i2l (v := x.toInt64) hx hb dX9_shifted_21 rfl ?_
    refine lv_lconst (v := 1) hx hb dX9_shifted_22 (by decide) ?_
    refine lv_ldc2 (v := 5) hx hb hown (htg _ wi_1342) dX9_shifted_23 ?_
    have ilw_5 : (x.toInt64).toInt = x.toInt := i2l_i _
    refine xk_i (wr := [(sw_9 h0 g 0 b5 b6 b7 b8 b9 b10 b11 b12 b13 b14 b17 b18 b19 b23 b24 b25 b26 b27 b29 b31 b32 b33), (sw_in cT (g 0) 288 a0), (sw_in cT (g 4) 6 a4), (sw_in cT (g 5) 960 a5), (sw_in cT (g 6) 8 a6), (sw_in cT (g 7) 8 a7), (sw_in cT (g 8) 6 a8)]) (xr_S (n := 3) (As := [.long x.toInt64, .long 1, .long 5]) (rest := []) ⟨hx, hb, hml, hown, htg⟩ hK hN hP hD hS hA [] rfl (by decide) (m_within l D cT _ (x.toInt64) (1) (5) (x.toInt) (1) (5) (i2l_i _) (by decide) (by decide)) wi_1270 wi_1271 wi_131 wi_1272 ⟨rfl, by decide +kernel⟩ ⟨Nat.le_of_ble_eq_true rfl, Nat.le_of_ble_eq_true rfl⟩ rfl hl.1 rfl (Nat.le_of_ble_eq_true rfl) dX9_shifted_26 ⟨Nat.le_of_ble_eq_true rfl, Nat.le_of_ble_eq_true rfl⟩) hP hD hS hA [] [0, 1, 2, 3, 4, 5, 6] rfl rfl (by decide) (by decide) (fun r_7 u_6 H locs hwr_7 hP hD hS => ?_)
    obtain ⟨hP, hD⟩ : PD D A [(sw_9 h0 g 0 b5 b6 b7 b8 b9 b10 b11 b12 b13 b14 b17 b18 b19 b23 b24 b25 b26 b27 b29 b31 b32 b33), (sw_in cT (g 0) 288 a0), (sw_in cT (g 4) 6 a4), (sw_in cT (g 5) 960 a5), (sw_in cT (g 6) 8 a6), (sw_in cT (g 7) 8 a7), (sw_in cT (g 8) 6 a8)] _ := ⟨hP, hD⟩
    have qr_7_0 : Imp (¬ r_7.toInt = 0) (1 ≤ x.toInt ∧ x.toInt ≤ 5) := hwr_7.1
    have qr_7_1 : r_7 = 0 ∨ r_7 = 1 := hwr_7.2.1
    refine lv_if_ne (tgt := 35) hx hb dX9_shifted_29 (by decide) (fun c_8 => ?_) (fun c_8 => ?_)
    · have ic_8 : ¬ r_7.toInt = 0 := ine c_8 (rfl) (by decide)
      have kqr_7_0 : 1 ≤ x.toInt ∧ x.toInt ≤ 5 := qr_7_0 ic_8
      refine lv_aload_n hx hb dX9_shifted_35 rfl (lv_at hl 0 rfl) ?_
      refine va_get (D := D) (ci := 9) (v := .ref (g 0)) (C := RX9) (T := TX9) (N := 37) hx hb htg gRX9 hown hK hP 0 rfl rfl 1 (by decide) (htg _ wi_1151) (fun _ h9 => h9) rfl dX9_shifted_36 ?_
      refine lv_iconst (v := 0) hx hb dX9_shifted_39 (by decide) ?_
      refine va_iald hx hb hK hP 1 0 rfl rfl (by unfold vp_in; decide) dX9_shifted_40 ?_
      refine lv_topi (fun z_9 ez_9 => ?_)
      have iz_9 : 0 ≤ z_9.toInt ∧ z_9.toInt ≤ 16 := by rw [ez_9]; exact rd0 pa0 (by decide) rfl
      have nz_9 : z_9.toInt = ((a0) 0).toInt := by rw [ez_9]; rfl
      refine lv_if_ne (tgt := 47) hx hb dX9_shifted_41 (by decide) (fun c_10 => ?_) (fun c_10 => ?_)
      · have ic_10 : ¬ z_9.toInt = 0 := ine c_10 (rfl) (by decide)
        refine lv_aload_n hx hb dX9_shifted_47 rfl (lv_at hl 0 rfl) ?_
        refine lv_iconst (v := 0) hx hb dX9_shifted_48 (by decide) ?_
        refine lv_iconst (v := 0) hx hb dX9_shifted_49 (by decide) ?_
        refine lv_iload_n hx hb dX9_shifted_50 rfl (lv_at hl 1 rfl) ?_
        refine xk_i (wr := []) (xr_V (n := 3) (As := [.int 0, .int 0, .int x]) (rest := []) ⟨hx, hb, hml, hown, htg⟩ hK hN hP hD hS hA [0, 1, 2, 3, 4, 5, 6] rfl (by decide) (m_laysBestK l D cT _ (h0) (g) (0) (b5) (b6) (b7) (b8) (b9) (b10) (b11) (b12) (b13) (b14) (b17) (b18) (b19) (b23) (b24) (b25) (b26) (b27) (b29) (b31) (b32) (b33) (by first | assumption | omega | decide | exact Or.inl (by decide) | (intro h9; exact absurd h9 (by decide)) | (intro _; omega) | (intro _; assumption) | (intro _; decide)) (a0) (by first | assumption | omega | decide | exact Or.inl (by decide) | (intro h9; exact absurd h9 (by decide)) | (intro _; omega) | (intro _; assumption) | (intro _; decide)) (a4) (a5) (by first | assumption | omega | decide | exact Or.inl (by decide) | (intro h9; exact absurd h9 (by decide)) | (intro _; omega) | (intro _; assumption) | (intro _; decide)) (a6) (a7) (a8) (0) (0) (x) (by first | assumption | omega | decide | exact Or.inl (by decide) | (intro h9; exact absurd h9 (by decide)) | (intro _; omega) | (intro _; assumption) | (intro _; decide)) (by first | assumption | omega | decide | exact Or.inl (by decide) | (intro h9; exact absurd h9 (by decide)) | (intro _; omega) | (intro _; assumption) | (intro _; decide))) wi_1478 wi_1480 wi_106 wi_131 wi_1481 rfl rfl rfl ⟨rfl, by decide +kernel⟩ ⟨Nat.le_of_ble_eq_true rfl, Nat.le_of_ble_eq_true rfl⟩ rfl hl.1 rfl (Nat.le_of_ble_eq_true rfl) dX9_shifted_51 ⟨Nat.le_of_ble_eq_true rfl, Nat.le_of_ble_eq_true rfl⟩) hP hD hS hA [0, 1, 2, 3, 4, 5, 6] [] rfl rfl (by decide) (by decide) (fun r_12 u_11 H locs hwr_12 hP hD hS => ?_)
        obtain ⟨hP, hD⟩ : PD D A [(sw_9 h0 g 0 b5 b6 b7 b8 b9 b10 b11 b12 b13 b14 b17 b18 b19 u_11.1 u_11.2.1 u_11.2.2.1 u_11.2.2.2.1 u_11.2.2.2.2.1 b29 b31 b32 b33), (sw_in cT (g 0) 288 u_11.2.2.2.2.2.1), (sw_in cT (g 4) 6 u_11.2.2.2.2.2.2.1), (sw_in cT (g 5) 960 u_11.2.2.2.2.2.2.2.1), (sw_in cT (g 6) 8 u_11.2.2.2.2.2.2.2.2.1), (sw_in cT (g 7) 8 u_11.2.2.2.2.2.2.2.2.2.1), (sw_in cT (g 8) 6 u_11.2.2.2.2.2.2.2.2.2.2)] _ := ⟨hP, hD⟩
        have qr_12_0 : PI 288 u_11.2.2.2.2.2.1 := hwr_12.1
        have qr_12_1 : KR u_11.2.2.2.2.2.1 a0 := hwr_12.2.1
        have kqr_12_1 : KR u_11.2.2.2.2.2.1 (a0) := KR_tr qr_12_1 (KR_rfl a0)
        have qr_12_2 : PI 960 u_11.2.2.2.2.2.2.2.1 := hwr_12.2.2.1
        refine lv_istore_n (lv' := [(3, .int r_12), (0, .ref h0), (1, .int x), (2, .int y)]) hx hb dX9_shifted_54 rfl hl (by decide) rfl (fun ls hl => ?_)
        refine lv_iconst (v := 0) hx hb dX9_shifted_55 (by decide) ?_
        refine lv_istore (lv' := [(4, .int 0), (3, .int r_12), (0, .ref h0), (1, .int x), (2, .int y)]) hx hb dX9_shifted_56 hl (by decide) rfl (fun ls hl => ?_)
        refine lv_iconst (v := (-1)) hx hb dX9_shifted_58 (by decide) ?_
        refine lv_istore (lv' := [(5, .int (-1)), (4, .int 0), (3, .int r_12), (0, .ref h0), (1, .int x), (2, .int y)]) hx hb dX9_shifted_59 hl (by decide) rfl (fun ls hl => ?_)
        refine lv_iconst (v := (-1)) hx hb dX9_shifted_61 (by decide) ?_
        refine lv_istore (lv' := [(6, .int (-1)), (5, .int (-1)), (4, .int 0), (3, .int r_12), (0, .ref h0), (1, .int x), (2, .int y)]) hx hb dX9_shifted_62 hl (by decide) rfl (fun ls hl => ?_)
        refine lv_iconst (v := 0) hx hb dX9_shifted_64 (by decide) ?_
        refine lv_istore (lv' := [(7, .int 0), (6, .int (-1)), (5, .int (-1)), (4, .int 0), (3, .int r_12), (0, .ref h0), (1, .int x), (2, .int y)]) hx hb dX9_shifted_65 hl (by decide) rfl (fun ls hl => ?_)
        refine (fun (key : ∀ (n9_67 : Nat) (k9_67 : Nat) (x9_67_6 : Int32) (x9_67_5 : Int32) (x9_67_4 : Int32) (f9_67_3 : Nat → Int32) (f9_67_4 : Nat → Int32) (f9_67_5 : Nat → Int32) (f9_67_6 : Nat → Int32) (f9_67_7 : Nat → Int32) (f9_67_8 : Nat → Int32) (v9_67_9 : Int32) (v9_67_10 : Int32) (v9_67_11 : Int32) (v9_67_12 : Int32) (v9_67_13 : Int32) (H : Heap) (locs : List Loc) (ls : Array Slot), (k9_67 : Int) ≤ 16 → 16 < (k9_67 : Int) + n9_67 → PI 288 f9_67_3 → PI 960 f9_67_5 → KR f9_67_3 (a0) → PD D A [(sw_9 h0 g 0 b5 b6 b7 b8 b9 b10 b11 b12 b13 b14 b17 b18 b19 v9_67_9 v9_67_10 v9_67_11 v9_67_12 v9_67_13 b29 b31 b32 b33), (sw_in cT (g 0) 288 f9_67_3), (sw_in cT (g 4) 6 f9_67_4), (sw_in cT (g 5) 960 f9_67_5), (sw_in cT (g 6) 8 f9_67_6), (sw_in cT (g 7) 8 f9_67_7), (sw_in cT (g 8) 6 f9_67_8)] H → va_S A s.heap H locs → lv_has ls 10 [(7, .int (nI k9_67)), (6, .int x9_67_6), (5, .int x9_67_5), (4, .int x9_67_4), (3, .int r_12), (0, .ref h0), (1, .int x), (2, .int y)] → W p l e _ s m _ below meth c H locs _ _ _ (F0 m 67 ls [])) => key (Int.toNat (16 - 0) + 1) 0 _ _ _ _ _ _ _ _ _ _ _ _ _ _ _ _ _ (by omega) (by omega) (by first | assumption | omega | decide | (simp only [ti_0, ti_1, ti_2, ti_3, ti_4, ti_5, ti_6, ti_7, ti_8, ti_9, ti_10, ti_11, ti_12, ti_m1]; omega)) (by first | assumption | omega | decide | (simp only [ti_0, ti_1, ti_2, ti_3, ti_4, ti_5, ti_6, ti_7, ti_8, ti_9, ti_10, ti_11, ti_12, ti_m1]; omega)) (by first | assumption | exact KR_rfl _) ⟨hP, hD⟩ hS (lv_sub hl [0, 1, 2, 3, 4, 5, 6, 7] rfl)) ?_
        intro n9_67
        induction n9_67 with
        | zero => intro k9_67 x9_67_6 x9_67_5 x9_67_4 f9_67_3 f9_67_4 f9_67_5 f9_67_6 f9_67_7 f9_67_8 v9_67_9 v9_67_10 v9_67_11 v9_67_12 v9_67_13 H locs ls hq1 hq2; exact absurd hq2 (by omega)
        | succ n9_67 ih_67 =>
          intro k9_67 x9_67_6 x9_67_5 x9_67_4 f9_67_3 f9_67_4 f9_67_5 f9_67_6 f9_67_7 f9_67_8 v9_67_9 v9_67_10 v9_67_11 v9_67_12 v9_67_13 H locs ls hq1_67 hq2_67 h9_67_0 h9_67_1 h9_67_2 hPD hS hl
          obtain ⟨hP, hD⟩ := hPD
          have hk9_67 : (nI k9_67).toInt = (k9_67 : Int) := nI_toInt (by omega)
          refine lv_iload hx hb dX9_shifted_67 (lv_at hl 0 rfl) ?_
          refine lv_aload_n hx hb dX9_shifted_69 rfl (lv_at hl 5 rfl) ?_
          refine va_get (D := D) (ci := 9) (v := .ref (g 0)) (C := RX9) (T := TX9) (N := 37) hx hb htg gRX9 hown hK hP 0 rfl rfl 1 (by decide) (htg _ wi_1151) (fun _ h9 => h9) rfl dX9_shifted_70 ?_
          refine lv_iconst (v := 0) hx hb dX9_shifted_73 (by decide) ?_
          refine va_iald hx hb hK hP 1 0 rfl rfl (by unfold vp_in; decide) dX9_shifted_74 ?_
          refine lv_topi (fun z_13 ez_13 => ?_)
          have iz_13 : 0 ≤ z_13.toInt ∧ z_13.toInt ≤ 16 := by rw [ez_13]; exact rd0 h9_67_0 (by decide) rfl
          have nz_13 : z_13.toInt = ((f9_67_3) 0).toInt := by rw [ez_13]; rfl
          refine lv_icmp_ge (tgt := 231) hx hb dX9_shifted_75 (by decide) (fun c_14 => ?_) (fun c_14 => ?_)
          · have ic_14 : z_13.toInt ≤ ((k9_67 : Nat) : Int) := ile c_14 (rfl) (nI_toInt (by omega))
            refine lv_iload_n hx hb dX9_shifted_231 rfl (lv_at hl 7 rfl) ?_
            refine lv_if_ne (tgt := 240) hx hb dX9_shifted_232 (by decide) (fun c_15 => ?_) (fun c_15 => ?_)
            · have ic_15 : ¬ y.toInt = 0 := ine c_15 (rfl) (by decide)
              refine lv_iload_n hx hb dX9_shifted_240 rfl (lv_at hl 7 rfl) ?_
              refine lv_iconst (v := 1) hx hb dX9_shifted_241 (by decide) ?_
              refine lv_icmp_ne (tgt := 250) hx hb dX9_shifted_242 (by decide) (fun c_16 => ?_) (fun c_16 => ?_)
              · have ic_16 : ¬ y.toInt = 1 := ine c_16 (rfl) (by decide)
                refine lv_iload hx hb dX9_shifted_250 (lv_at hl 1 rfl) ?_
                exact x_iret hx hb hr hlk hP hD hS [0, 1, 2, 3, 4, 5, 6] ((0, v9_67_9, v9_67_10, v9_67_11, v9_67_12, v9_67_13, f9_67_3, f9_67_4, f9_67_5, f9_67_6, f9_67_7, f9_67_8)) rfl (by decide) ⟨by (try dsimp only); first | assumption | omega | decide | exact Or.inl (by decide) | (intro h9; exact absurd h9 (by decide)) | (intro _; omega) | (intro _; assumption) | (intro _; decide), by (try dsimp only); first | assumption | exact KR_rfl _, by (try dsimp only); first | assumption | omega | decide | exact Or.inl (by decide) | (intro h9; exact absurd h9 (by decide)) | (intro _; omega) | (intro _; assumption) | (intro _; decide), trivial⟩ (by decide) (by decide) dX9_shifted_252
              · have ic_16 : y.toInt = 1 := ieq c_16 (rfl) (by decide)
                refine lv_iload hx hb dX9_shifted_245 (lv_at hl 2 rfl) ?_
                refine lv_goto (tgt := 252) hx hb dX9_shifted_247 (by decide) ?_
                exact x_iret hx hb hr hlk hP hD hS [0, 1, 2, 3, 4, 5, 6] ((0, v9_67_9, v9_67_10, v9_67_11, v9_67_12, v9_67_13, f9_67_3, f9_67_4, f9_67_5, f9_67_6, f9_67_7, f9_67_8)) rfl (by decide) ⟨by (try dsimp only); first | assumption | omega | decide | exact Or.inl (by decide) | (intro h9; exact absurd h9 (by decide)) | (intro _; omega) | (intro _; assumption) | (intro _; decide), by (try dsimp only); first | assumption | exact KR_rfl _, by (try dsimp only); first | assumption | omega | decide | exact Or.inl (by decide) | (intro h9; exact absurd h9 (by decide)) | (intro _; omega) | (intro _; assumption) | (intro _; decide), trivial⟩ (by decide) (by decide) dX9_shifted_252
            · have ic_15 : y.toInt = 0 := ieq c_15 (rfl) (by decide)
              refine lv_iload hx hb dX9_shifted_235 (lv_at hl 3 rfl) ?_
              refine lv_goto (tgt := 252) hx hb dX9_shifted_237 (by decide) ?_
              exact x_iret hx hb hr hlk hP hD hS [0, 1, 2, 3, 4, 5, 6] ((0, v9_67_9, v9_67_10, v9_67_11, v9_67_12, v9_67_13, f9_67_3, f9_67_4, f9_67_5, f9_67_6, f9_67_7, f9_67_8)) rfl (by decide) ⟨by (try dsimp only); first | assumption | omega | decide | exact Or.inl (by decide) | (intro h9; exact absurd h9 (by decide)) | (intro _; omega) | (intro _; assumption) | (intro _; decide), by (try dsimp only); first | assumption | exact KR_rfl _, by (try dsimp only); first | assumption | omega | decide | exact Or.inl (by decide) | (intro h9; exact absurd h9 (by decide)) | (intro _; omega) | (intro _; assumption) | (intro _; decide), trivial⟩ (by decide) (by decide) dX9_shifted_252
          · have ic_14 : ((k9_67 : Nat) : Int) < z_13.toInt := inle c_14 (rfl) (nI_toInt (by omega))
            refine lv_iconst (v := 0) hx hb dX9_shifted_78 (by decide) ?_
            refine lv_istore (lv' := [(8, .int 0), (7, .int (nI k9_67)), (6, .int x9_67_6), (5, .int x9_67_5), (4, .int x9_67_4), (3, .int r_12), (0, .ref h0), (1, .int x), (2, .int y)]) hx hb dX9_shifted_79 hl (by decide) rfl (fun ls hl => ?_)
            refine (fun (key : ∀ (n9_81 : Nat) (k9_81 : Nat) (x9_81_6 : Int32) (x9_81_5 : Int32) (x9_81_4 : Int32) (f9_81_3 : Nat → Int32) (f9_81_4 : Nat → Int32) (f9_81_5 : Nat → Int32) (f9_81_6 : Nat → Int32) (f9_81_7 : Nat → Int32) (f9_81_8 : Nat → Int32) (v9_81_9 : Int32) (v9_81_10 : Int32) (v9_81_11 : Int32) (v9_81_12 : Int32) (v9_81_13 : Int32) (H : Heap) (locs : List Loc) (ls : Array Slot), (k9_81 : Int) ≤ 16 → 16 < (k9_81 : Int) + n9_81 → PI 288 f9_81_3 → PI 960 f9_81_5 → KR f9_81_3 (a0) → PD D A [(sw_9 h0 g 0 b5 b6 b7 b8 b9 b10 b11 b12 b13 b14 b17 b18 b19 v9_81_9 v9_81_10 v9_81_11 v9_81_12 v9_81_13 b29 b31 b32 b33), (sw_in cT (g 0) 288 f9_81_3), (sw_in cT (g 4) 6 f9_81_4), (sw_in cT (g 5) 960 f9_81_5), (sw_in cT (g 6) 8 f9_81_6), (sw_in cT (g 7) 8 f9_81_7), (sw_in cT (g 8) 6 f9_81_8)] H → va_S A s.heap H locs → lv_has ls 10 [(8, .int (nI k9_81)), (7, .int (nI k9_67)), (6, .int x9_81_6), (5, .int x9_81_5), (4, .int x9_81_4), (3, .int r_12), (0, .ref h0), (1, .int x), (2, .int y)] → W p l e _ s m _ below meth c H locs _ _ _ (F0 m 81 ls [])) => key (Int.toNat (16 - 0) + 1) 0 _ _ _ _ _ _ _ _ _ _ _ _ _ _ _ _ _ (by omega) (by omega) (by first | assumption | omega | decide | (simp only [ti_0, ti_1, ti_2, ti_3, ti_4, ti_5, ti_6, ti_7, ti_8, ti_9, ti_10, ti_11, ti_12, ti_m1]; omega)) (by first | assumption | omega | decide | (simp only [ti_0, ti_1, ti_2, ti_3, ti_4, ti_5, ti_6, ti_7, ti_8, ti_9, ti_10, ti_11, ti_12, ti_m1]; omega)) (by first | assumption | exact KR_rfl _) ⟨hP, hD⟩ hS (lv_sub hl [0, 1, 2, 3, 4, 5, 6, 7, 8] rfl)) ?_
            intro n9_81
            induction n9_81 with
            | zero => intro k9_81 x9_81_6 x9_81_5 x9_81_4 f9_81_3 f9_81_4 f9_81_5 f9_81_6 f9_81_7 f9_81_8 v9_81_9 v9_81_10 v9_81_11 v9_81_12 v9_81_13 H locs ls hq1 hq2; exact absurd hq2 (by omega)
            | succ n9_81 ih_81 =>
              intro k9_81 x9_81_6 x9_81_5 x9_81_4 f9_81_3 f9_81_4 f9_81_5 f9_81_6 f9_81_7 f9_81_8 v9_81_9 v9_81_10 v9_81_11 v9_81_12 v9_81_13 H locs ls hq1_81 hq2_81 h9_81_0 h9_81_1 h9_81_2 hPD hS hl
              obtain ⟨hP, hD⟩ := hPD
              have hk9_81 : (nI k9_81).toInt = (k9_81 : Int) := nI_toInt (by omega)
              refine lv_iload hx hb dX9_shifted_81 (lv_at hl 0 rfl) ?_
              refine lv_aload_n hx hb dX9_shifted_83 rfl (lv_at hl 6 rfl) ?_
              refine va_get (D := D) (ci := 9) (v := .ref (g 0)) (C := RX9) (T := TX9) (N := 37) hx hb htg gRX9 hown hK hP 0 rfl rfl 1 (by decide) (htg _ wi_1151) (fun _ h9 => h9) rfl dX9_shifted_84 ?_
              refine lv_iconst (v := 0) hx hb dX9_shifted_87 (by decide) ?_
              refine va_iald hx hb hK hP 1 0 rfl rfl (by unfold vp_in; decide) dX9_shifted_88 ?_
              refine lv_topi (fun z_17 ez_17 => ?_)
              have iz_17 : 0 ≤ z_17.toInt ∧ z_17.toInt ≤ 16 := by rw [ez_17]; exact rd0 h9_81_0 (by decide) rfl
              have nz_17 : z_17.toInt = ((f9_81_3) 0).toInt := by rw [ez_17]; rfl
              refine lv_icmp_ge (tgt := 225) hx hb dX9_shifted_89 (by decide) (fun c_18 => ?_) (fun c_18 => ?_)
              · have ic_18 : z_17.toInt ≤ ((k9_81 : Nat) : Int) := ile c_18 (rfl) (nI_toInt (by omega))
                refine lv_iinc (v := (nI (k9_67 + 1))) (lv' := [(7, .int (nI (k9_67 + 1))), (8, .int (nI k9_81)), (6, .int x9_81_6), (5, .int x9_81_5), (4, .int x9_81_4), (3, .int r_12), (0, .ref h0), (1, .int x), (2, .int y)]) hx hb dX9_shifted_225 hl (k := 1) rfl (by exact nI_1 (k9_67)) (by decide) rfl (fun ls hl => ?_)
                refine lv_goto (tgt := 67) hx hb dX9_shifted_228 (by decide) ?_
                exact ih_67 (k9_67 + 1) _ _ _ _ _ _ _ _ _ _ _ _ _ _ _ _ _ (by omega) (by omega) (by first | assumption | omega | decide | (simp only [ti_0, ti_1, ti_2, ti_3, ti_4, ti_5, ti_6, ti_7, ti_8, ti_9, ti_10, ti_11, ti_12, ti_m1]; omega)) (by first | assumption | omega | decide | (simp only [ti_0, ti_1, ti_2, ti_3, ti_4, ti_5, ti_6, ti_7, ti_8, ti_9, ti_10, ti_11, ti_12, ti_m1]; omega)) (by first | assumption | exact KR_rfl _) ⟨hP.sub [0, 1, 2, 3, 4, 5, 6] rfl, hD.sub [0, 1, 2, 3, 4, 5, 6] (by decide) rfl⟩ hS (lv_sub hl [0, 2, 3, 4, 5, 6, 7, 8] rfl)
              · have ic_18 : ((k9_81 : Nat) : Int) < z_17.toInt := inle c_18 (rfl) (nI_toInt (by omega))
                refine lv_iload hx hb dX9_shifted_92 (lv_at hl 1 rfl) ?_
                refine lv_iload hx hb dX9_shifted_94 (lv_at hl 0 rfl) ?_
                refine lv_icmp_eq (tgt := 219) hx hb dX9_shifted_96 (by decide) (fun c_19 => ?_) (fun c_19 => ?_)
                · have ic_19 : ((k9_67 : Nat) : Int) = ((k9_81 : Nat) : Int) := ieq c_19 (nI_toInt (by omega)) (nI_toInt (by omega))
                  refine lv_iinc (v := (nI (k9_81 + 1))) (lv' := [(8, .int (nI (k9_81 + 1))), (7, .int (nI k9_67)), (6, .int x9_81_6), (5, .int x9_81_5), (4, .int x9_81_4), (3, .int r_12), (0, .ref h0), (1, .int x), (2, .int y)]) hx hb dX9_shifted_219 hl (k := 0) rfl (by exact nI_1 (k9_81)) (by decide) rfl (fun ls hl => ?_)
                  refine lv_goto (tgt := 81) hx hb dX9_shifted_222 (by decide) ?_
                  exact ih_81 (k9_81 + 1) _ _ _ _ _ _ _ _ _ _ _ _ _ _ _ _ _ (by omega) (by omega) (by first | assumption | omega | decide | (simp only [ti_0, ti_1, ti_2, ti_3, ti_4, ti_5, ti_6, ti_7, ti_8, ti_9, ti_10, ti_11, ti_12, ti_m1]; omega)) (by first | assumption | omega | decide | (simp only [ti_0, ti_1, ti_2, ti_3, ti_4, ti_5, ti_6, ti_7, ti_8, ti_9, ti_10, ti_11, ti_12, ti_m1]; omega)) (by first | assumption | exact KR_rfl _) ⟨hP.sub [0, 1, 2, 3, 4, 5, 6] rfl, hD.sub [0, 1, 2, 3, 4, 5, 6] (by decide) rfl⟩ hS (lv_sub hl [0, 1, 2, 3, 4, 5, 6, 7, 8] rfl)
                · have ic_19 : ¬ ((k9_67 : Nat) : Int) = ((k9_81 : Nat) : Int) := ine c_19 (nI_toInt (by omega)) (nI_toInt (by omega))
                  refine lv_aload_n hx hb dX9_shifted_99 rfl (lv_at hl 6 rfl) ?_
                  refine va_get (D := D) (ci := 9) (v := .ref (g 0)) (C := RX9) (T := TX9) (N := 37) hx hb htg gRX9 hown hK hP 0 rfl rfl 1 (by decide) (htg _ wi_1151) (fun _ h9 => h9) rfl dX9_shifted_100 ?_
                  refine lv_bipush (v := 32) hx hb dX9_shifted_103 (by decide) ?_
                  refine lv_iload hx hb dX9_shifted_105 (lv_at hl 1 rfl) ?_
                  refine lv_iadd hx hb dX9_shifted_107 ?_
                  refine lv_is (y := nI (32 + k9_67)) (nI_add 32 (k9_67)) ?_
                  refine va_iald hx hb hK hP 1 0 rfl rfl (vp_in_nI (by omega) (by omega)) dX9_shifted_108 ?_
                  refine lv_topi (fun z_20 ez_20 => ?_)
                  refine lv_if_eq (tgt := 219) hx hb dX9_shifted_109 (by decide) (fun c_21 => ?_) (fun c_21 => ?_)
                  · have ic_21 : z_20.toInt = 0 := ieq c_21 (rfl) (by decide)
                    refine lv_iinc (v := (nI (k9_81 + 1))) (lv' := [(8, .int (nI (k9_81 + 1))), (7, .int (nI k9_67)), (6, .int x9_81_6), (5, .int x9_81_5), (4, .int x9_81_4), (3, .int r_12), (0, .ref h0), (1, .int x), (2, .int y)]) hx hb dX9_shifted_219 hl (k := 0) rfl (by exact nI_1 (k9_81)) (by decide) rfl (fun ls hl => ?_)
                    refine lv_goto (tgt := 81) hx hb dX9_shifted_222 (by decide) ?_
                    exact ih_81 (k9_81 + 1) _ _ _ _ _ _ _ _ _ _ _ _ _ _ _ _ _ (by omega) (by omega) (by first | assumption | omega | decide | (simp only [ti_0, ti_1, ti_2, ti_3, ti_4, ti_5, ti_6, ti_7, ti_8, ti_9, ti_10, ti_11, ti_12, ti_m1]; omega)) (by first | assumption | omega | decide | (simp only [ti_0, ti_1, ti_2, ti_3, ti_4, ti_5, ti_6, ti_7, ti_8, ti_9, ti_10, ti_11, ti_12, ti_m1]; omega)) (by first | assumption | exact KR_rfl _) ⟨hP.sub [0, 1, 2, 3, 4, 5, 6] rfl, hD.sub [0, 1, 2, 3, 4, 5, 6] (by decide) rfl⟩ hS (lv_sub hl [0, 1, 2, 3, 4, 5, 6, 7, 8] rfl)
                  · have ic_21 : ¬ z_20.toInt = 0 := ine c_21 (rfl) (by decide)
                    refine lv_aload_n hx hb dX9_shifted_112 rfl (lv_at hl 6 rfl) ?_
                    refine va_get (D := D) (ci := 9) (v := .ref (g 0)) (C := RX9) (T := TX9) (N := 37) hx hb htg gRX9 hown hK hP 0 rfl rfl 1 (by decide) (htg _ wi_1151) (fun _ h9 => h9) rfl dX9_shifted_113 ?_
                    refine lv_bipush (v := 32) hx hb dX9_shifted_116 (by decide) ?_
                    refine lv_iload hx hb dX9_shifted_118 (lv_at hl 0 rfl) ?_
                    refine lv_iadd hx hb dX9_shifted_120 ?_
                    refine lv_is (y := nI (32 + k9_81)) (nI_add 32 (k9_81)) ?_
                    refine va_iald hx hb hK hP 1 0 rfl rfl (vp_in_nI (by omega) (by omega)) dX9_shifted_121 ?_
                    refine lv_topi (fun z_22 ez_22 => ?_)
                    refine lv_bipush (v := 9) hx hb dX9_shifted_122 (by decide) ?_
                    refine lv_icmp_ne (tgt := 130) hx hb dX9_shifted_124 (by decide) (fun c_23 => ?_) (fun c_23 => ?_)
                    · have ic_23 : ¬ z_22.toInt = 9 := ine c_23 (rfl) (by decide)
                      refine lv_aload_n hx hb dX9_shifted_130 rfl (lv_at hl 6 rfl) ?_
                      refine va_get (D := D) (ci := 9) (v := .ref (g 0)) (C := RX9) (T := TX9) (N := 37) hx hb htg gRX9 hown hK hP 0 rfl rfl 1 (by decide) (htg _ wi_1151) (fun _ h9 => h9) rfl dX9_shifted_131 ?_
                      refine lv_bipush (v := 32) hx hb dX9_shifted_134 (by decide) ?_
                      refine lv_iload hx hb dX9_shifted_136 (lv_at hl 1 rfl) ?_
                      refine lv_iadd hx hb dX9_shifted_138 ?_
                      refine lv_is (y := nI (32 + k9_67)) (nI_add 32 (k9_67)) ?_
                      refine lv_dup2_11 hx hb dX9_shifted_139 rfl rfl ?_
                      refine va_iald hx hb hK hP 1 0 rfl rfl (vp_in_nI (by omega) (by omega)) dX9_shifted_140 ?_
                      refine lv_topi (fun z_24 ez_24 => ?_)
                      refine lv_iconst (v := 1) hx hb dX9_shifted_141 (by decide) ?_
                      refine lv_isub hx hb dX9_shifted_142 ?_
                      refine lv_topi (fun z_25 ez_25 => ?_)
                      refine va_iast hx hb hK hP hD hS 1 0 rfl rfl (vp_in_nI (by omega) (by omega)) dX9_shifted_143 (fun H locs hP hD hS => ?_)
                      obtain ⟨f_26, ef_26, hP, hD⟩ : ∃ f_26 : Nat → Int32, f_26 = upd (f9_81_3) ((nI (32 + k9_67)) : Int32).toNatClampNeg z_25 ∧ PD D A [(sw_9 h0 g 0 b5 b6 b7 b8 b9 b10 b11 b12 b13 b14 b17 b18 b19 v9_81_9 v9_81_10 v9_81_11 v9_81_12 v9_81_13 b29 b31 b32 b33), (sw_in cT (g 0) 288 f_26), (sw_in cT (g 4) 6 f9_81_4), (sw_in cT (g 5) 960 f9_81_5), (sw_in cT (g 6) 8 f9_81_6), (sw_in cT (g 7) 8 f9_81_7), (sw_in cT (g 8) 6 f9_81_8)] H := ⟨_, rfl, hP, hD⟩
                      have qf_26 : PI 288 f_26 := by rw [ef_26]; exact pi_upd (a := ((32 + k9_67 : Nat) : Int)) (b := z_25.toInt) h9_81_0 (nI_toInt (by omega)) (rfl) (by omega) (by unfold OKP; omega)
                      refine lv_aload_n hx hb dX9_shifted_144 rfl (lv_at hl 6 rfl) ?_
                      refine va_get (D := D) (ci := 9) (v := .ref (g 0)) (C := RX9) (T := TX9) (N := 37) hx hb htg gRX9 hown hK hP 0 rfl rfl 1 (by decide) (htg _ wi_1151) (fun _ h9 => h9) rfl dX9_shifted_145 ?_
                      refine lv_bipush (v := 32) hx hb dX9_shifted_148 (by decide) ?_
                      refine lv_iload hx hb dX9_shifted_150 (lv_at hl 0 rfl) ?_
                      refine lv_iadd hx hb dX9_shifted_152 ?_
                      refine lv_is (y := nI (32 + k9_81)) (nI_add 32 (k9_81)) ?_
                      refine lv_dup2_11 hx hb dX9_shifted_153 rfl rfl ?_
                      refine va_iald hx hb hK hP 1 0 rfl rfl (vp_in_nI (by omega) (by omega)) dX9_shifted_154 ?_
                      refine lv_topi (fun z_27 ez_27 => ?_)
                      refine lv_iconst (v := 1) hx hb dX9_shifted_155 (by decide) ?_
                      refine lv_iadd hx hb dX9_shifted_156 ?_
                      refine lv_topi (fun z_28 ez_28 => ?_)
                      refine va_iast hx hb hK hP hD hS 1 0 rfl rfl (vp_in_nI (by omega) (by omega)) dX9_shifted_157 (fun H locs hP hD hS => ?_)
                      obtain ⟨f_29, ef_29, hP, hD⟩ : ∃ f_29 : Nat → Int32, f_29 = upd (f_26) ((nI (32 + k9_81)) : Int32).toNatClampNeg z_28 ∧ PD D A [(sw_9 h0 g 0 b5 b6 b7 b8 b9 b10 b11 b12 b13 b14 b17 b18 b19 v9_81_9 v9_81_10 v9_81_11 v9_81_12 v9_81_13 b29 b31 b32 b33), (sw_in cT (g 0) 288 f_29), (sw_in cT (g 4) 6 f9_81_4), (sw_in cT (g 5) 960 f9_81_5), (sw_in cT (g 6) 8 f9_81_6), (sw_in cT (g 7) 8 f9_81_7), (sw_in cT (g 8) 6 f9_81_8)] H := ⟨_, rfl, hP, hD⟩
                      have qf_29 : PI 288 f_29 := by rw [ef_29]; exact pi_upd (a := ((32 + k9_81 : Nat) : Int)) (b := z_28.toInt) qf_26 (nI_toInt (by omega)) (rfl) (by omega) (by unfold OKP; omega)
                      refine lv_aload_n hx hb dX9_shifted_158 rfl (lv_at hl 6 rfl) ?_
                      refine lv_iconst (v := 0) hx hb dX9_shifted_159 (by decide) ?_
                      refine lv_iconst (v := 0) hx hb dX9_shifted_160 (by decide) ?_
                      refine lv_iload_n hx hb dX9_shifted_161 rfl (lv_at hl 7 rfl) ?_
                      refine xk_i (wr := []) (xr_V (n := 3) (As := [.int 0, .int 0, .int x]) (rest := []) ⟨hx, hb, hml, hown, htg⟩ hK hN hP hD hS hA [0, 1, 2, 3, 4, 5, 6] rfl (by decide) (m_laysBestK l D cT _ (h0) (g) (0) (b5) (b6) (b7) (b8) (b9) (b10) (b11) (b12) (b13) (b14) (b17) (b18) (b19) (v9_81_9) (v9_81_10) (v9_81_11) (v9_81_12) (v9_81_13) (b29) (b31) (b32) (b33) (by first | assumption | omega | decide | exact Or.inl (by decide) | (intro h9; exact absurd h9 (by decide)) | (intro _; omega) | (intro _; assumption) | (intro _; decide)) (f_29) (by first | assumption | omega | decide | exact Or.inl (by decide) | (intro h9; exact absurd h9 (by decide)) | (intro _; omega) | (intro _; assumption) | (intro _; decide)) (f9_81_4) (f9_81_5) (by first | assumption | omega | decide | exact Or.inl (by decide) | (intro h9; exact absurd h9 (by decide)) | (intro _; omega) | (intro _; assumption) | (intro _; decide)) (f9_81_6) (f9_81_7) (f9_81_8) (0) (0) (x) (by first | assumption | omega | decide | exact Or.inl (by decide) | (intro h9; exact absurd h9 (by decide)) | (intro _; omega) | (intro _; assumption) | (intro _; decide)) (by first | assumption | omega | decide | exact Or.inl (by decide) | (intro h9; exact absurd h9 (by decide)) | (intro _; omega) | (intro _; assumption) | (intro _; decide))) wi_1478 wi_1480 wi_106 wi_131 wi_1481 rfl rfl rfl ⟨rfl, by decide +kernel⟩ ⟨Nat.le_of_ble_eq_true rfl, Nat.le_of_ble_eq_true rfl⟩ rfl hl.1 rfl (Nat.le_of_ble_eq_true rfl) dX9_shifted_162 ⟨Nat.le_of_ble_eq_true rfl, Nat.le_of_ble_eq_true rfl⟩) hP hD hS hA [0, 1, 2, 3, 4, 5, 6] [] rfl rfl (by decide) (by decide) (fun r_31 u_30 H locs hwr_31 hP hD hS => ?_)
                      obtain ⟨hP, hD⟩ : PD D A [(sw_9 h0 g 0 b5 b6 b7 b8 b9 b10 b11 b12 b13 b14 b17 b18 b19 u_30.1 u_30.2.1 u_30.2.2.1 u_30.2.2.2.1 u_30.2.2.2.2.1 b29 b31 b32 b33), (sw_in cT (g 0) 288 u_30.2.2.2.2.2.1), (sw_in cT (g 4) 6 u_30.2.2.2.2.2.2.1), (sw_in cT (g 5) 960 u_30.2.2.2.2.2.2.2.1), (sw_in cT (g 6) 8 u_30.2.2.2.2.2.2.2.2.1), (sw_in cT (g 7) 8 u_30.2.2.2.2.2.2.2.2.2.1), (sw_in cT (g 8) 6 u_30.2.2.2.2.2.2.2.2.2.2)] _ := ⟨hP, hD⟩
                      have qr_31_0 : PI 288 u_30.2.2.2.2.2.1 := hwr_31.1
                      have qr_31_1 : KR u_30.2.2.2.2.2.1 f_29 := hwr_31.2.1
                      have qr_31_2 : PI 960 u_30.2.2.2.2.2.2.2.1 := hwr_31.2.2.1
                      refine lv_iload_n hx hb dX9_shifted_165 rfl (lv_at hl 5 rfl) ?_
                      refine lv_isub hx hb dX9_shifted_166 ?_
                      refine lv_topi (fun z_32 ez_32 => ?_)
                      refine lv_istore (lv' := [(9, .int z_32), (8, .int (nI k9_81)), (7, .int (nI k9_67)), (6, .int x9_81_6), (5, .int x9_81_5), (4, .int x9_81_4), (3, .int r_12), (0, .ref h0), (1, .int x), (2, .int y)]) hx hb dX9_shifted_167 hl (by decide) rfl (fun ls hl => ?_)
                      refine lv_aload_n hx hb dX9_shifted_169 rfl (lv_at hl 7 rfl) ?_
                      refine va_get (D := D) (ci := 9) (v := .ref (g 0)) (C := RX9) (T := TX9) (N := 37) hx hb htg gRX9 hown hK hP 0 rfl rfl 1 (by decide) (htg _ wi_1151) (fun _ h9 => h9) rfl dX9_shifted_170 ?_
                      refine lv_bipush (v := 32) hx hb dX9_shifted_173 (by decide) ?_
                      refine lv_iload hx hb dX9_shifted_175 (lv_at hl 2 rfl) ?_
                      refine lv_iadd hx hb dX9_shifted_177 ?_
                      refine lv_is (y := nI (32 + k9_67)) (nI_add 32 (k9_67)) ?_
                      refine lv_dup2_11 hx hb dX9_shifted_178 rfl rfl ?_
                      refine va_iald hx hb hK hP 1 0 rfl rfl (vp_in_nI (by omega) (by omega)) dX9_shifted_179 ?_
                      refine lv_topi (fun z_33 ez_33 => ?_)
                      refine lv_iconst (v := 1) hx hb dX9_shifted_180 (by decide) ?_
                      refine lv_iadd hx hb dX9_shifted_181 ?_
                      refine lv_topi (fun z_34 ez_34 => ?_)
                      refine va_iast hx hb hK hP hD hS 1 0 rfl rfl (vp_in_nI (by omega) (by omega)) dX9_shifted_182 (fun H locs hP hD hS => ?_)
                      obtain ⟨f_35, ef_35, hP, hD⟩ : ∃ f_35 : Nat → Int32, f_35 = upd (u_30.2.2.2.2.2.1) ((nI (32 + k9_67)) : Int32).toNatClampNeg z_34 ∧ PD D A [(sw_9 h0 g 0 b5 b6 b7 b8 b9 b10 b11 b12 b13 b14 b17 b18 b19 u_30.1 u_30.2.1 u_30.2.2.1 u_30.2.2.2.1 u_30.2.2.2.2.1 b29 b31 b32 b33), (sw_in cT (g 0) 288 f_35), (sw_in cT (g 4) 6 u_30.2.2.2.2.2.2.1), (sw_in cT (g 5) 960 u_30.2.2.2.2.2.2.2.1), (sw_in cT (g 6) 8 u_30.2.2.2.2.2.2.2.2.1), (sw_in cT (g 7) 8 u_30.2.2.2.2.2.2.2.2.2.1), (sw_in cT (g 8) 6 u_30.2.2.2.2.2.2.2.2.2.2)] H := ⟨_, rfl, hP, hD⟩
                      have qf_35 : PI 288 f_35 := by rw [ef_35]; exact pi_upd (a := ((32 + k9_67 : Nat) : Int)) (b := z_34.toInt) qr_31_0 (nI_toInt (by omega)) (rfl) (by omega) (by unfold OKP; omega)
                      refine lv_aload_n hx hb dX9_shifted_183 rfl (lv_at hl 7 rfl) ?_
                      refine va_get (D := D) (ci := 9) (v := .ref (g 0)) (C := RX9) (T := TX9) (N := 37) hx hb htg gRX9 hown hK hP 0 rfl rfl 1 (by decide) (htg _ wi_1151) (fun _ h9 => h9) rfl dX9_shifted_184 ?_
                      refine lv_bipush (v := 32) hx hb dX9_shifted_187 (by decide) ?_
                      refine lv_iload hx hb dX9_shifted_189 (lv_at hl 1 rfl) ?_
                      refine lv_iadd hx hb dX9_shifted_191 ?_
                      refine lv_is (y := nI (32 + k9_81)) (nI_add 32 (k9_81)) ?_
                      refine lv_dup2_11 hx hb dX9_shifted_192 rfl rfl ?_
                      refine va_iald hx hb hK hP 1 0 rfl rfl (vp_in_nI (by omega) (by omega)) dX9_shifted_193 ?_
                      refine lv_topi (fun z_36 ez_36 => ?_)
                      refine lv_iconst (v := 1) hx hb dX9_shifted_194 (by decide) ?_
                      refine lv_isub hx hb dX9_shifted_195 ?_
                      refine lv_topi (fun z_37 ez_37 => ?_)
                      refine va_iast hx hb hK hP hD hS 1 0 rfl rfl (vp_in_nI (by omega) (by omega)) dX9_shifted_196 (fun H locs hP hD hS => ?_)
                      obtain ⟨f_38, ef_38, hP, hD⟩ : ∃ f_38 : Nat → Int32, f_38 = upd (f_35) ((nI (32 + k9_81)) : Int32).toNatClampNeg z_37 ∧ PD D A [(sw_9 h0 g 0 b5 b6 b7 b8 b9 b10 b11 b12 b13 b14 b17 b18 b19 u_30.1 u_30.2.1 u_30.2.2.1 u_30.2.2.2.1 u_30.2.2.2.2.1 b29 b31 b32 b33), (sw_in cT (g 0) 288 f_38), (sw_in cT (g 4) 6 u_30.2.2.2.2.2.2.1), (sw_in cT (g 5) 960 u_30.2.2.2.2.2.2.2.1), (sw_in cT (g 6) 8 u_30.2.2.2.2.2.2.2.2.1), (sw_in cT (g 7) 8 u_30.2.2.2.2.2.2.2.2.2.1), (sw_in cT (g 8) 6 u_30.2.2.2.2.2.2.2.2.2.2)] H := ⟨_, rfl, hP, hD⟩
                      have qf_38 : PI 288 f_38 := by rw [ef_38]; exact pi_upd (a := ((32 + k9_81 : Nat) : Int)) (b := z_37.toInt) qf_35 (nI_toInt (by omega)) (rfl) (by omega) (by unfold OKP; omega)
                      have krt_39 : KR f_38 a0 := KR_tr (KR_two (a := 32 + (k9_67 : Int)) (b := 32 + (k9_81 : Int)) ef_26 ef_29 qr_31_1 ef_35 ef_38 (by first | omega | exact (nI_toInt (by omega)).trans (by omega)) (by first | omega | exact (nI_toInt (by omega)).trans (by omega)) (by first | omega | exact (nI_toInt (by omega)).trans (by omega)) (by first | omega | exact (nI_toInt (by omega)).trans (by omega)) (by omega) (by omega) (by omega) (by rw [ez_25, ez_24]) (by rw [ez_28, ez_27]) (by rw [ez_34, ez_33]) (by rw [ez_37, ez_36])) h9_81_2
                      refine lv_iload hx hb dX9_shifted_197 (lv_at hl 0 rfl) ?_
                      refine lv_iload hx hb dX9_shifted_199 (lv_at hl 5 rfl) ?_
                      refine lv_icmp_gt (tgt := 207) hx hb dX9_shifted_201 (by decide) (fun c_40 => ?_) (fun c_40 => ?_)
                      · have ic_40 : x9_81_4.toInt < z_32.toInt := ilt c_40 (rfl) (rfl)
                        refine lv_iload hx hb dX9_shifted_207 (lv_at hl 0 rfl) ?_
                        refine lv_istore (lv' := [(4, .int z_32), (9, .int z_32), (8, .int (nI k9_81)), (7, .int (nI k9_67)), (6, .int x9_81_6), (5, .int x9_81_5), (3, .int r_12), (0, .ref h0), (1, .int x), (2, .int y)]) hx hb dX9_shifted_209 hl (by decide) rfl (fun ls hl => ?_)
                        refine lv_iload hx hb dX9_shifted_211 (lv_at hl 3 rfl) ?_
                        refine lv_istore (lv' := [(5, .int (nI k9_67)), (4, .int z_32), (9, .int z_32), (8, .int (nI k9_81)), (7, .int (nI k9_67)), (6, .int x9_81_6), (3, .int r_12), (0, .ref h0), (1, .int x), (2, .int y)]) hx hb dX9_shifted_213 hl (by decide) rfl (fun ls hl => ?_)
                        refine lv_iload hx hb dX9_shifted_215 (lv_at hl 3 rfl) ?_
                        refine lv_istore (lv' := [(6, .int (nI k9_81)), (5, .int (nI k9_67)), (4, .int z_32), (9, .int z_32), (8, .int (nI k9_81)), (7, .int (nI k9_67)), (3, .int r_12), (0, .ref h0), (1, .int x), (2, .int y)]) hx hb dX9_shifted_217 hl (by decide) rfl (fun ls hl => ?_)
                        refine lv_iinc (v := (nI (k9_81 + 1))) (lv' := [(8, .int (nI (k9_81 + 1))), (6, .int (nI k9_81)), (5, .int (nI k9_67)), (4, .int z_32), (9, .int z_32), (7, .int (nI k9_67)), (3, .int r_12), (0, .ref h0), (1, .int x), (2, .int y)]) hx hb dX9_shifted_219 hl (k := 4) rfl (by exact nI_1 (k9_81)) (by decide) rfl (fun ls hl => ?_)
                        refine lv_goto (tgt := 81) hx hb dX9_shifted_222 (by decide) ?_
                        exact ih_81 (k9_81 + 1) _ _ _ _ _ _ _ _ _ _ _ _ _ _ _ _ _ (by omega) (by omega) (by first | assumption | omega | decide | (simp only [ti_0, ti_1, ti_2, ti_3, ti_4, ti_5, ti_6, ti_7, ti_8, ti_9, ti_10, ti_11, ti_12, ti_m1]; omega)) (by first | assumption | omega | decide | (simp only [ti_0, ti_1, ti_2, ti_3, ti_4, ti_5, ti_6, ti_7, ti_8, ti_9, ti_10, ti_11, ti_12, ti_m1]; omega)) (by first | assumption | exact KR_rfl _) ⟨hP.sub [0, 1, 2, 3, 4, 5, 6] rfl, hD.sub [0, 1, 2, 3, 4, 5, 6] (by decide) rfl⟩ hS (lv_sub hl [0, 5, 1, 2, 3, 6, 7, 8, 9] rfl)
                      · have ic_40 : z_32.toInt ≤ x9_81_4.toInt := inlt c_40 (rfl) (rfl)
                        refine lv_goto (tgt := 219) hx hb dX9_shifted_204 (by decide) ?_
                        refine lv_iinc (v := (nI (k9_81 + 1))) (lv' := [(8, .int (nI (k9_81 + 1))), (9, .int z_32), (7, .int (nI k9_67)), (6, .int x9_81_6), (5, .int x9_81_5), (4, .int x9_81_4), (3, .int r_12), (0, .ref h0), (1, .int x), (2, .int y)]) hx hb dX9_shifted_219 hl (k := 1) rfl (by exact nI_1 (k9_81)) (by decide) rfl (fun ls hl => ?_)
                        refine lv_goto (tgt := 81) hx hb dX9_shifted_222 (by decide) ?_
                        exact ih_81 (k9_81 + 1) _ _ _ _ _ _ _ _ _ _ _ _ _ _ _ _ _ (by omega) (by omega) (by first | assumption | omega | decide | (simp only [ti_0, ti_1, ti_2, ti_3, ti_4, ti_5, ti_6, ti_7, ti_8, ti_9, ti_10, ti_11, ti_12, ti_m1]; omega)) (by first | assumption | omega | decide | (simp only [ti_0, ti_1, ti_2, ti_3, ti_4, ti_5, ti_6, ti_7, ti_8, ti_9, ti_10, ti_11, ti_12, ti_m1]; omega)) (by first | assumption | exact KR_rfl _) ⟨hP.sub [0, 1, 2, 3, 4, 5, 6] rfl, hD.sub [0, 1, 2, 3, 4, 5, 6] (by decide) rfl⟩ hS (lv_sub hl [0, 2, 3, 4, 5, 6, 7, 8, 9] rfl)
                    · have ic_23 : z_22.toInt = 9 := ieq c_23 (rfl) (by decide)
                      refine lv_goto (tgt := 219) hx hb dX9_shifted_127 (by decide) ?_
                      refine lv_iinc (v := (nI (k9_81 + 1))) (lv' := [(8, .int (nI (k9_81 + 1))), (7, .int (nI k9_67)), (6, .int x9_81_6), (5, .int x9_81_5), (4, .int x9_81_4), (3, .int r_12), (0, .ref h0), (1, .int x), (2, .int y)]) hx hb dX9_shifted_219 hl (k := 0) rfl (by exact nI_1 (k9_81)) (by decide) rfl (fun ls hl => ?_)
                      refine lv_goto (tgt := 81) hx hb dX9_shifted_222 (by decide) ?_
                      exact ih_81 (k9_81 + 1) _ _ _ _ _ _ _ _ _ _ _ _ _ _ _ _ _ (by omega) (by omega) (by first | assumption | omega | decide | (simp only [ti_0, ti_1, ti_2, ti_3, ti_4, ti_5, ti_6, ti_7, ti_8, ti_9, ti_10, ti_11, ti_12, ti_m1]; omega)) (by first | assumption | omega | decide | (simp only [ti_0, ti_1, ti_2, ti_3, ti_4, ti_5, ti_6, ti_7, ti_8, ti_9, ti_10, ti_11, ti_12, ti_m1]; omega)) (by first | assumption | exact KR_rfl _) ⟨hP.sub [0, 1, 2, 3, 4, 5, 6] rfl, hD.sub [0, 1, 2, 3, 4, 5, 6] (by decide) rfl⟩ hS (lv_sub hl [0, 1, 2, 3, 4, 5, 6, 7, 8] rfl)
      · have ic_10 : z_9.toInt = 0 := ieq c_10 (rfl) (by decide)
        refine lv_bipush (v := (-5)) hx hb dX9_shifted_44 (by decide) ?_
        exact x_iret hx hb hr hlk hP hD hS [0, 1, 2, 3, 4, 5, 6] ((0, b23, b24, b25, b26, b27, a0, a4, a5, a6, a7, a8)) rfl (by decide) ⟨by (try dsimp only); first | assumption | omega | decide | exact Or.inl (by decide) | (intro h9; exact absurd h9 (by decide)) | (intro _; omega) | (intro _; assumption) | (intro _; decide), by (try dsimp only); first | assumption | exact KR_rfl _, by (try dsimp only); first | assumption | omega | decide | exact Or.inl (by decide) | (intro h9; exact absurd h9 (by decide)) | (intro _; omega) | (intro _; assumption) | (intro _; decide), trivial⟩ (by decide) (by decide) dX9_shifted_46
    · have ic_8 : r_7.toInt = 0 := ieq c_8 (rfl) (by decide)
      refine lv_bipush (v := (-3)) hx hb dX9_shifted_32 (by decide) ?_
      exact x_iret hx hb hr hlk hP hD hS [0, 1, 2, 3, 4, 5, 6] ((0, b23, b24, b25, b26, b27, a0, a4, a5, a6, a7, a8)) rfl (by decide) ⟨by (try dsimp only); first | assumption | omega | decide | exact Or.inl (by decide) | (intro h9; exact absurd h9 (by decide)) | (intro _; omega) | (intro _; assumption) | (intro _; decide), by (try dsimp only); first | assumption | exact KR_rfl _, by (try dsimp only); first | assumption | omega | decide | exact Or.inl (by decide) | (intro h9; exact absurd h9 (by decide)) | (intro _; omega) | (intro _; assumption) | (intro _; decide), trivial⟩ (by decide) (by decide) dX9_shifted_34
  · have ic_4 : r_3.toInt = 0 := ieq c_4 (rfl) (by decide)
    refine lv_bipush (v := (-2)) hx hb dX9_shifted_17 (by decide) ?_
    exact x_iret hx hb hr hlk hP hD hS [0, 1, 2, 3, 4, 5, 6] ((0, b23, b24, b25, b26, b27, a0, a4, a5, a6, a7, a8)) rfl (by decide) ⟨by (try dsimp only); first | assumption | omega | decide | exact Or.inl (by decide) | (intro h9; exact absurd h9 (by decide)) | (intro _; omega) | (intro _; assumption) | (intro _; decide), by (try dsimp only); first | assumption | exact KR_rfl _, by (try dsimp only); first | assumption | omega | decide | exact Or.inl (by decide) | (intro h9; exact absurd h9 (by decide)) | (intro _; omega) | (intro _; assumption) | (intro _; decide), trivial⟩ (by decide) (by decide) dX9_shifted_19
