set_option maxHeartbeats 4000000 in
set_option maxRecDepth 100000 in
theorem m_isStripB (l : Launch) (D : va_G) (cT : Nat → ClassId) (sz : Nat) (h0 : Nat) (g : Nat → Nat) (b0 : Int32) (b5 : Int32) (b6 : Int32) (b7 : Int32) (b8 : Int32) (b9 : Int32) (b10 : Int32) (b11 : Int32) (b12 : Int32) (b13 : Int32) (b14 : Int32) (b17 : Int32) (b18 : Int32) (b19 : Int32) (b23 : Int32) (b24 : Int32) (b25 : Int32) (b26 : Int32) (b27 : Int32) (b29 : Int32) (b31 : Int32) (b32 : Int32) (b33 : Int32) (hb5 : 0 ≤ b5.toInt ∧ b5.toInt ≤ 900) (a0 : Nat → Int32) (pa0 : PI 288 a0) (x : Int32) : Met l yX9_isStrip (wsc yX9_isStrip cX9_isStrip 2 (some .boolean)) { frames := 3, cells := 0, slots := 0, locals := 125 } (va_Pc [.ref h0, .int x] (PX D cT sz [(sw_9 h0 g b0 b5 b6 b7 b8 b9 b10 b11 b12 b13 b14 b17 b18 b19 b23 b24 b25 b26 b27 b29 b31 b32 b33), (sw_in cT (g 0) 288 a0)])) (va_Qi (fun (r : Int32) (u : Unit) => (Imp (¬ r.toInt = 0) (0 ≤ x.toInt ∧ x.toInt ≤ 15)) ∧ (Imp (¬ r.toInt = 0) (x.toInt < (a0 0).toInt)) ∧ (Imp (r.toInt = 0) (x.toInt < 0 ∨ (a0 0).toInt ≤ x.toInt)) ∧ (r = 0 ∨ r = 1) ∧ (True)) (fun u t => RW D (va_A [(sw_9 h0 g b0 b5 b6 b7 b8 b9 b10 b11 b12 b13 b14 b17 b18 b19 b23 b24 b25 b26 b27 b29 b31 b32 b33), (sw_in cT (g 0) 288 a0)] sz) ((fun _ : Unit => [(sw_9 h0 g b0 b5 b6 b7 b8 b9 b10 b11 b12 b13 b14 b17 b18 b19 b23 b24 b25 b26 b27 b29 b31 b32 b33), (sw_in cT (g 0) 288 a0)]) u) t) (va_A [(sw_9 h0 g b0 b5 b6 b7 b8 b9 b10 b11 b12 b13 b14 b17 b18 b19 b23 b24 b25 b26 b27 b29 b31 b32 b33), (sw_in cT (g 0) 288 a0)] sz)) 0 0 (va_A [(sw_9 h0 g b0 b5 b6 b7 b8 b9 b10 b11 b12 b13 b14 b17 b18 b19 b23 b24 b25 b26 b27 b29 b31 b32 b33), (sw_in cT (g 0) 288 a0)] sz) := by
  refine m_of (y := yX9_isStrip) (cc := cX9_isStrip) (nL := 2) (ret := (some .boolean)) (D := D) (cT := cT) (av := [.ref h0, .int x]) (wi := [(sw_9 h0 g b0 b5 b6 b7 b8 b9 b10 b11 b12 b13 b14 b17 b18 b19 b23 b24 b25 b26 b27 b29 b31 b32 b33), (sw_in cT (g 0) 288 a0)]) (fun A => va_Qi (fun (r : Int32) (u : Unit) => (Imp (¬ r.toInt = 0) (0 ≤ x.toInt ∧ x.toInt ≤ 15)) ∧ (Imp (¬ r.toInt = 0) (x.toInt < (a0 0).toInt)) ∧ (Imp (r.toInt = 0) (x.toInt < 0 ∨ (a0 0).toInt ≤ x.toInt)) ∧ (r = 0 ∨ r = 1) ∧ (True)) (fun u t => RW D A ((fun _ : Unit => [(sw_9 h0 g b0 b5 b6 b7 b8 b9 b10 b11 b12 b13 b14 b17 b18 b19 b23 b24 b25 b26 b27 b29 b31 b32 b33), (sw_in cT (g 0) 288 a0)]) u) t) A) (by decide) (Nat.le_of_ble_eq_true rfl) ?_
  intro p e s m below meth c A hx hb hml hown htg hK hN hr hlk hnm hsz hP hD hS hA ls hl
  have hown : s.vm.findClass RX9 = some m.cls := hown
  have hl : lv_has ls 2 [(0, .ref h0), (1, .int x)] := hl
  have tc_0 : (0 : Int32).toInt = 0 := by decide
  have tc_1 : (1 : Int32).toInt = 1 := by decide
  refine lv_iload_n hx hb dX9_isStrip_0 rfl (lv_at hl 1 rfl) ?_
  refine lv_i2l (v := x.toInt64) hx hb dX9_isStrip_1 rfl ?_
  refine lv_lconst (v := 0) hx hb dX9_isStrip_2 (by decide) ?_
  refine lv_aload_n hx hb dX9_isStrip_3 rfl (lv_at hl 0 rfl) ?_
  refine va_get (D := D) (ci := 9) (v := .ref (g 0)) (C := RX9) (T := TX9) (N := 37) hx hb htg gRX9 hown hK hP 0 rfl rfl 1 (by decide) (htg _ wi_1151) (fun _ h9 => h9) rfl dX9_isStrip_4 ?_
  refine lv_iconst (v := 0) hx hb dX9_isStrip_7 (by decide) ?_
  refine va_iald hx hb hK hP 1 0 rfl rfl (by unfold vp_in; decide) dX9_isStrip_8 ?_
  refine lv_topi (fun z_1 ez_1 => ?_)
  have iz_1 : 0 ≤ z_1.toInt ∧ z_1.toInt ≤ 16 := by rw [ez_1]; exact rd0 pa0 (by decide) rfl
  have nz_1 : z_1.toInt = ((a0) 0).toInt := by rw [ez_1]; rfl
  have nz_1 : z_1.toInt = (a0 0).toInt := by rw [ez_1]; rfl
  refine lv_iconst (v := 1) hx hb dX9_isStrip_9 (by decide) ?_
  refine lv_isub hx hb dX9_isStrip_10 ?_
  refine lv_topi (fun z_2 ez_2 => ?_)
  have iz_2 : z_2.toInt = z_1.toInt - 1 := toInt_subI ez_2 (rfl) (by decide) (by omega)
  refine lv_i2l (v := z_2.toInt64) hx hb dX9_isStrip_11 rfl ?_
  have ilw_3 : (x.toInt64).toInt = x.toInt := i2l_i _
  have ilw_4 : (z_2.toInt64).toInt = z_2.toInt := i2l_i _
  refine xk_i (wr := [(sw_9 h0 g b0 b5 b6 b7 b8 b9 b10 b11 b12 b13 b14 b17 b18 b19 b23 b24 b25 b26 b27 b29 b31 b32 b33), (sw_in cT (g 0) 288 a0)]) (xr_S (n := 3) (As := [.long x.toInt64, .long 0, .long z_2.toInt64]) (rest := []) ⟨hx, hb, hml, hown, htg⟩ hK hN hP hD hS hA [] rfl (by decide) (m_withinB l D cT _ (x.toInt64) (0) (z_2.toInt64) (x.toInt) (0) (z_2.toInt) (i2l_i _) (by decide) (i2l_i _)) wi_1270 wi_1271 wi_131 wi_1272 ⟨rfl, by decide +kernel⟩ ⟨Nat.le_of_ble_eq_true rfl, Nat.le_of_ble_eq_true rfl⟩ rfl hl.1 rfl (Nat.le_of_ble_eq_true rfl) dX9_isStrip_12 ⟨Nat.le_of_ble_eq_true rfl, Nat.le_of_ble_eq_true rfl⟩) hP hD hS hA [] [0, 1] rfl rfl (by decide) (by decide) (fun r_6 u_5 H locs hwr_6 hP hD hS => ?_)
  obtain ⟨hP, hD⟩ : PD D A [(sw_9 h0 g b0 b5 b6 b7 b8 b9 b10 b11 b12 b13 b14 b17 b18 b19 b23 b24 b25 b26 b27 b29 b31 b32 b33), (sw_in cT (g 0) 288 a0)] _ := ⟨hP, hD⟩
  have qr_6_0 : Imp (¬ r_6.toInt = 0) (0 ≤ x.toInt ∧ x.toInt ≤ z_2.toInt) := hwr_6.1
  have qr_6_1 : Imp (r_6.toInt = 0) (x.toInt < 0 ∨ z_2.toInt < x.toInt) := hwr_6.2.1
  have qr_6_2 : r_6 = 0 ∨ r_6 = 1 := hwr_6.2.2.1
  exact x_zret hx hb hr hlk hP hD hS [0, 1] (()) rfl (by decide) (zn (by assumption)) ⟨fun h9 => by (try dsimp only at h9 ⊢); have kqr_6_0 : 0 ≤ x.toInt ∧ x.toInt ≤ z_2.toInt := qr_6_0 h9; first | omega | exact absurd h9 (by decide) | decide | assumption, fun h9 => by (try dsimp only at h9 ⊢); have kqr_6_0 : 0 ≤ x.toInt ∧ x.toInt ≤ z_2.toInt := qr_6_0 h9; first | omega | exact absurd h9 (by decide) | decide | assumption, fun h9 => by (try dsimp only at h9 ⊢); have kqr_6_1 : x.toInt < 0 ∨ z_2.toInt < x.toInt := qr_6_1 h9; first | omega | exact absurd h9 (by decide) | decide | assumption, by (try dsimp only); first | assumption | omega | decide | exact Or.inl (by decide) | (intro h9; exact absurd h9 (by decide)) | (intro _; omega) | (intro _; assumption) | (intro _; decide), trivial⟩ (by decide) (by decide) dX9_isStrip_15
set_option maxHeartbeats 4000000 in
set_option maxRecDepth 100000 in
theorem m_fellX (l : Launch) (D : va_G) (cT : Nat → ClassId) (sz : Nat) (h0 : Nat) (g : Nat → Nat) (b0 : Int32) (b5 : Int32) (b6 : Int32) (b7 : Int32) (b8 : Int32) (b9 : Int32) (b10 : Int32) (b11 : Int32) (b12 : Int32) (b13 : Int32) (b14 : Int32) (b17 : Int32) (b18 : Int32) (b19 : Int32) (b23 : Int32) (b24 : Int32) (b25 : Int32) (b26 : Int32) (b27 : Int32) (b29 : Int32) (b31 : Int32) (b32 : Int32) (b33 : Int32) (hb5 : 0 ≤ b5.toInt ∧ b5.toInt ≤ 900) (a0 : Nat → Int32) (pa0 : PI 288 a0) (x : Int32) : Met l yX9_fell (wsc yX9_fell cX9_fell 3 (some .int)) { frames := 4, cells := 0, slots := 0, locals := 146 } (va_Pc [.ref h0, .int x] (PX D cT sz [(sw_9 h0 g b0 b5 b6 b7 b8 b9 b10 b11 b12 b13 b14 b17 b18 b19 b23 b24 b25 b26 b27 b29 b31 b32 b33), (sw_in cT (g 0) 288 a0)])) (va_Qi (fun (r : Int32) (u : Int32 × (Nat → Int32)) => (PI 288 u.2) ∧ (((x.toInt < 0 ∨ (a0 0).toInt ≤ x.toInt) ∧ r.toInt = -2) ∨ (0 ≤ x.toInt ∧ x.toInt < (a0 0).toInt ∧ (a0 (48 + x.toInt.toNat)).toInt = 0 ∧ r.toInt = -5) ∨ (0 ≤ x.toInt ∧ x.toInt < (a0 0).toInt ∧ ¬ (a0 (48 + x.toInt.toNat)).toInt = 0 ∧ r.toInt = (a0 (48 + x.toInt.toNat)).toInt)) ∧ (∀ j : Nat, u.2 j = if (j : Int) = 48 + x.toInt ∧ 0 ≤ x.toInt ∧ x.toInt < (a0 0).toInt then 0 else a0 j) ∧ (True)) (fun u t => RW D (va_A [(sw_9 h0 g b0 b5 b6 b7 b8 b9 b10 b11 b12 b13 b14 b17 b18 b19 b23 b24 b25 b26 b27 b29 b31 b32 b33), (sw_in cT (g 0) 288 a0)] sz) ((fun u : Int32 × (Nat → Int32) => [(sw_9 h0 g u.1 b5 b6 b7 b8 b9 b10 b11 b12 b13 b14 b17 b18 b19 b23 b24 b25 b26 b27 b29 b31 b32 b33), (sw_in cT (g 0) 288 u.2)]) u) t) (va_A [(sw_9 h0 g b0 b5 b6 b7 b8 b9 b10 b11 b12 b13 b14 b17 b18 b19 b23 b24 b25 b26 b27 b29 b31 b32 b33), (sw_in cT (g 0) 288 a0)] sz)) 0 0 (va_A [(sw_9 h0 g b0 b5 b6 b7 b8 b9 b10 b11 b12 b13 b14 b17 b18 b19 b23 b24 b25 b26 b27 b29 b31 b32 b33), (sw_in cT (g 0) 288 a0)] sz) := by
  refine m_of (y := yX9_fell) (cc := cX9_fell) (nL := 3) (ret := (some .int)) (D := D) (cT := cT) (av := [.ref h0, .int x]) (wi := [(sw_9 h0 g b0 b5 b6 b7 b8 b9 b10 b11 b12 b13 b14 b17 b18 b19 b23 b24 b25 b26 b27 b29 b31 b32 b33), (sw_in cT (g 0) 288 a0)]) (fun A => va_Qi (fun (r : Int32) (u : Int32 × (Nat → Int32)) => (PI 288 u.2) ∧ (((x.toInt < 0 ∨ (a0 0).toInt ≤ x.toInt) ∧ r.toInt = -2) ∨ (0 ≤ x.toInt ∧ x.toInt < (a0 0).toInt ∧ (a0 (48 + x.toInt.toNat)).toInt = 0 ∧ r.toInt = -5) ∨ (0 ≤ x.toInt ∧ x.toInt < (a0 0).toInt ∧ ¬ (a0 (48 + x.toInt.toNat)).toInt = 0 ∧ r.toInt = (a0 (48 + x.toInt.toNat)).toInt)) ∧ (∀ j : Nat, u.2 j = if (j : Int) = 48 + x.toInt ∧ 0 ≤ x.toInt ∧ x.toInt < (a0 0).toInt then 0 else a0 j) ∧ (True)) (fun u t => RW D A ((fun u : Int32 × (Nat → Int32) => [(sw_9 h0 g u.1 b5 b6 b7 b8 b9 b10 b11 b12 b13 b14 b17 b18 b19 b23 b24 b25 b26 b27 b29 b31 b32 b33), (sw_in cT (g 0) 288 u.2)]) u) t) A) (by decide) (Nat.le_of_ble_eq_true rfl) ?_
  intro p e s m below meth c A hx hb hml hown htg hK hN hr hlk hnm hsz hP hD hS hA ls hl
  have hown : s.vm.findClass RX9 = some m.cls := hown
  have hl : lv_has ls 3 [(0, .ref h0), (1, .int x)] := hl
  have tc_m5 : ((-5) : Int32).toInt = (-5) := by decide
  have tc_m2 : ((-2) : Int32).toInt = (-2) := by decide
  have tc_0 : (0 : Int32).toInt = 0 := by decide
  have tc_48 : (48 : Int32).toInt = 48 := by decide
  refine lv_aload_n hx hb dX9_fell_0 rfl (lv_at hl 0 rfl) ?_
  refine lv_iconst (v := 0) hx hb dX9_fell_1 (by decide) ?_
  refine va_put (D := D) (ci := 9) (v := .int 0) (ty := .int) (C := RX9) (T := TX9) (N := 37) hx hb htg gRX9 tyX9 tyX9_ok nmX9 hown hK hP hD hS 0 rfl rfl 0 (by decide) (htg _ wi_1150) (fun _ h9 => h9) rfl (by decide +kernel) rfl rfl (Nat.le_of_ble_eq_true rfl) dX9_fell_2 (fun H locs hP hD hS => ?_)
  obtain ⟨hP, hD⟩ : PD D A [(sw_9 h0 g 0 b5 b6 b7 b8 b9 b10 b11 b12 b13 b14 b17 b18 b19 b23 b24 b25 b26 b27 b29 b31 b32 b33), (sw_in cT (g 0) 288 a0)] _ := ⟨hP, hD⟩
  refine lv_aload_n hx hb dX9_fell_5 rfl (lv_at hl 0 rfl) ?_
  refine lv_iload_n hx hb dX9_fell_6 rfl (lv_at hl 1 rfl) ?_
  refine xk_i (wr := []) (xr_V (n := 1) (As := [.int x]) (rest := []) ⟨hx, hb, hml, hown, htg⟩ hK hN hP hD hS hA [0, 1] rfl (by decide) (m_isStripB l D cT _ (h0) (g) (0) (b5) (b6) (b7) (b8) (b9) (b10) (b11) (b12) (b13) (b14) (b17) (b18) (b19) (b23) (b24) (b25) (b26) (b27) (b29) (b31) (b32) (b33) (by first | assumption | omega | decide | exact Or.inl (by decide) | (intro h9; exact absurd h9 (by decide)) | (intro _; omega) | (intro _; assumption) | (intro _; decide)) (a0) (by first | assumption | omega | decide | exact Or.inl (by decide) | (intro h9; exact absurd h9 (by decide)) | (intro _; omega) | (intro _; assumption) | (intro _; decide)) (x)) wi_1338 wi_1340 wi_90 wi_131 wi_1341 rfl rfl rfl ⟨rfl, by decide +kernel⟩ ⟨Nat.le_of_ble_eq_true rfl, Nat.le_of_ble_eq_true rfl⟩ rfl hl.1 rfl (Nat.le_of_ble_eq_true rfl) dX9_fell_7 ⟨Nat.le_of_ble_eq_true rfl, Nat.le_of_ble_eq_true rfl⟩) hP hD hS hA [0, 1] [] rfl rfl (by decide) (by decide) (fun r_2 u_1 H locs hwr_2 hP hD hS => ?_)
  obtain ⟨hP, hD⟩ : PD D A [(sw_9 h0 g 0 b5 b6 b7 b8 b9 b10 b11 b12 b13 b14 b17 b18 b19 b23 b24 b25 b26 b27 b29 b31 b32 b33), (sw_in cT (g 0) 288 a0)] _ := ⟨hP, hD⟩
  have qr_2_0 : Imp (¬ r_2.toInt = 0) (0 ≤ x.toInt ∧ x.toInt ≤ 15) := hwr_2.1
  have qr_2_1 : Imp (¬ r_2.toInt = 0) (x.toInt < (a0 0).toInt) := hwr_2.2.1
  have qr_2_2 : Imp (r_2.toInt = 0) (x.toInt < 0 ∨ (a0 0).toInt ≤ x.toInt) := hwr_2.2.2.1
  have qr_2_3 : r_2 = 0 ∨ r_2 = 1 := hwr_2.2.2.2.1
  refine lv_if_ne (tgt := 16) hx hb dX9_fell_10 (by decide) (fun c_3 => ?_) (fun c_3 => ?_)
  · have ic_3 : ¬ r_2.toInt = 0 := ine c_3 (rfl) (by decide)
    have kqr_2_0 : 0 ≤ x.toInt ∧ x.toInt ≤ 15 := qr_2_0 ic_3
    have kqr_2_1 : x.toInt < (a0 0).toInt := qr_2_1 ic_3
    refine lv_aload_n hx hb dX9_fell_16 rfl (lv_at hl 0 rfl) ?_
    refine va_get (D := D) (ci := 9) (v := .ref (g 0)) (C := RX9) (T := TX9) (N := 37) hx hb htg gRX9 hown hK hP 0 rfl rfl 1 (by decide) (htg _ wi_1151) (fun _ h9 => h9) rfl dX9_fell_17 ?_
    refine lv_bipush (v := 48) hx hb dX9_fell_20 (by decide) ?_
    refine lv_iload_n hx hb dX9_fell_22 rfl (lv_at hl 1 rfl) ?_
    refine lv_iadd hx hb dX9_fell_23 ?_
    refine lv_topi (fun z_4 ez_4 => ?_)
    have iz_4 : z_4.toInt = 48 + x.toInt := toInt_addI ez_4 (by decide) (rfl) (by omega)
    refine va_iald hx hb hK hP 1 0 rfl rfl (vp_in_iff.mpr (by omega)) dX9_fell_24 ?_
    refine lv_topi (fun z_5 ez_5 => ?_)
    have nz_5 : z_5.toInt = (a0 (48 + x.toInt.toNat)).toInt := by rw [ez_5]; exact congrArg (fun k => (a0 k).toInt) (show Int.toNat _ = _ from by omega)
    refine lv_if_ne (tgt := 31) hx hb dX9_fell_25 (by decide) (fun c_6 => ?_) (fun c_6 => ?_)
    · have ic_6 : ¬ z_5.toInt = 0 := ine c_6 (rfl) (by decide)
      refine lv_aload_n hx hb dX9_fell_31 rfl (lv_at hl 0 rfl) ?_
      refine va_get (D := D) (ci := 9) (v := .ref (g 0)) (C := RX9) (T := TX9) (N := 37) hx hb htg gRX9 hown hK hP 0 rfl rfl 1 (by decide) (htg _ wi_1151) (fun _ h9 => h9) rfl dX9_fell_32 ?_
      refine lv_bipush (v := 48) hx hb dX9_fell_35 (by decide) ?_
      refine lv_iload_n hx hb dX9_fell_37 rfl (lv_at hl 1 rfl) ?_
      refine lv_iadd hx hb dX9_fell_38 ?_
      refine lv_topi (fun z_7 ez_7 => ?_)
      have iz_7 : z_7.toInt = 48 + x.toInt := toInt_addI ez_7 (by decide) (rfl) (by omega)
      refine va_iald hx hb hK hP 1 0 rfl rfl (vp_in_iff.mpr (by omega)) dX9_fell_39 ?_
      refine lv_topi (fun z_8 ez_8 => ?_)
      have nz_8 : z_8.toInt = (a0 (48 + x.toInt.toNat)).toInt := by rw [ez_8]; exact congrArg (fun k => (a0 k).toInt) (show Int.toNat _ = _ from by omega)
      refine lv_istore_n (lv' := [(2, .int z_8), (0, .ref h0), (1, .int x)]) hx hb dX9_fell_40 rfl hl (by decide) rfl (fun ls hl => ?_)
      refine lv_aload_n hx hb dX9_fell_41 rfl (lv_at hl 1 rfl) ?_
      refine va_get (D := D) (ci := 9) (v := .ref (g 0)) (C := RX9) (T := TX9) (N := 37) hx hb htg gRX9 hown hK hP 0 rfl rfl 1 (by decide) (htg _ wi_1151) (fun _ h9 => h9) rfl dX9_fell_42 ?_
      refine lv_bipush (v := 48) hx hb dX9_fell_45 (by decide) ?_
      refine lv_iload_n hx hb dX9_fell_47 rfl (lv_at hl 2 rfl) ?_
      refine lv_iadd hx hb dX9_fell_48 ?_
      refine lv_topi (fun z_9 ez_9 => ?_)
      have iz_9 : z_9.toInt = 48 + x.toInt := toInt_addI ez_9 (by decide) (rfl) (by omega)
      refine lv_iconst (v := 0) hx hb dX9_fell_49 (by decide) ?_
      refine va_iast hx hb hK hP hD hS 1 0 rfl rfl (vp_in_iff.mpr (by omega)) dX9_fell_50 (fun H locs hP hD hS => ?_)
      obtain ⟨f_10, ef_10, hP, hD⟩ : ∃ f_10 : Nat → Int32, f_10 = upd (a0) (z_9 : Int32).toNatClampNeg 0 ∧ PD D A [(sw_9 h0 g 0 b5 b6 b7 b8 b9 b10 b11 b12 b13 b14 b17 b18 b19 b23 b24 b25 b26 b27 b29 b31 b32 b33), (sw_in cT (g 0) 288 f_10)] H := ⟨_, rfl, hP, hD⟩
      have qf_10 : PI 288 f_10 := by rw [ef_10]; exact pi_upd (a := z_9.toInt) (b := 0) pa0 (rfl) (by decide) (by omega) (by unfold OKP; omega)
      refine lv_iload_n hx hb dX9_fell_51 rfl (lv_at hl 0 rfl) ?_
      exact x_iret hx hb hr hlk hP hD hS [0, 1] ((0, f_10)) rfl (by decide) ⟨by (try dsimp only); first | assumption | omega | decide | exact Or.inl (by decide) | (intro h9; exact absurd h9 (by decide)) | (intro _; omega) | (intro _; assumption) | (intro _; decide), by (try dsimp only); first | assumption | omega | decide | exact Or.inl (by decide) | (intro h9; exact absurd h9 (by decide)) | (intro _; omega) | (intro _; assumption) | (intro _; decide), (fun j => by (try dsimp only); rw [ef_10]; by_cases h9 : (j : Int) = 48 + x.toInt ∧ 0 ≤ x.toInt ∧ x.toInt < (a0 0).toInt; rw [if_pos h9, upd_at2 (by omega)]; rw [if_neg h9, upd_no (by omega) (by omega)]), trivial⟩ (by decide) (by decide) dX9_fell_52
    · have ic_6 : z_5.toInt = 0 := ieq c_6 (rfl) (by decide)
      refine lv_bipush (v := (-5)) hx hb dX9_fell_28 (by decide) ?_
      exact x_iret hx hb hr hlk hP hD hS [0, 1] ((0, a0)) rfl (by decide) ⟨by (try dsimp only); first | assumption | omega | decide | exact Or.inl (by decide) | (intro h9; exact absurd h9 (by decide)) | (intro _; omega) | (intro _; assumption) | (intro _; decide), by (try dsimp only); first | assumption | omega | decide | exact Or.inl (by decide) | (intro h9; exact absurd h9 (by decide)) | (intro _; omega) | (intro _; assumption) | (intro _; decide), (fun j => by (try dsimp only); by_cases h9 : (j : Int) = 48 + x.toInt ∧ 0 ≤ x.toInt ∧ x.toInt < (a0 0).toInt; rw [if_pos h9]; exact i32_is (by rw [show j = 48 + x.toInt.toNat from by omega, ti_0]; omega); rw [if_neg h9]), trivial⟩ (by decide) (by decide) dX9_fell_30
  · have ic_3 : r_2.toInt = 0 := ieq c_3 (rfl) (by decide)
    have kqr_2_2 : x.toInt < 0 ∨ (a0 0).toInt ≤ x.toInt := qr_2_2 ic_3
    refine lv_bipush (v := (-2)) hx hb dX9_fell_13 (by decide) ?_
    exact x_iret hx hb hr hlk hP hD hS [0, 1] ((0, a0)) rfl (by decide) ⟨by (try dsimp only); first | assumption | omega | decide | exact Or.inl (by decide) | (intro h9; exact absurd h9 (by decide)) | (intro _; omega) | (intro _; assumption) | (intro _; decide), by (try dsimp only); first | assumption | omega | decide | exact Or.inl (by decide) | (intro h9; exact absurd h9 (by decide)) | (intro _; omega) | (intro _; assumption) | (intro _; decide), (fun j => by (try dsimp only); rw [if_neg (by omega)]), trivial⟩ (by decide) (by decide) dX9_fell_15
