set_option maxHeartbeats 4000000 in
set_option maxRecDepth 100000 in
theorem m_walkX (l : Launch) (D : va_G) (cT : Nat → ClassId) (sz : Nat) (h0 : Nat) (g : Nat → Nat) (b0 : Int32) (b5 : Int32) (b6 : Int32) (b7 : Int32) (b8 : Int32) (b9 : Int32) (b10 : Int32) (b11 : Int32) (b12 : Int32) (b13 : Int32) (b14 : Int32) (b17 : Int32) (b18 : Int32) (b19 : Int32) (b23 : Int32) (b24 : Int32) (b25 : Int32) (b26 : Int32) (b27 : Int32) (b29 : Int32) (b31 : Int32) (b32 : Int32) (b33 : Int32) (hb5 : 0 ≤ b5.toInt ∧ b5.toInt ≤ 900) (a0 : Nat → Int32) (pa0 : PI 288 a0) (x : Int32) (y : Int32) (z : Int32) : Met l yX9_walk (wsc yX9_walk cX9_walk 4 (some .int)) { frames := 4, cells := 0, slots := 0, locals := 146 } (va_Pc [.ref h0, .int x, .int y, .int z] (PX D cT sz [(sw_9 h0 g b0 b5 b6 b7 b8 b9 b10 b11 b12 b13 b14 b17 b18 b19 b23 b24 b25 b26 b27 b29 b31 b32 b33), (sw_in cT (g 0) 288 a0)])) (va_Qi (fun (r : Int32) (u : Int32 × (Nat → Int32)) => (PI 288 u.2) ∧ (r.toInt = wkA (a0 0).toInt x.toInt y.toInt z.toInt (a0 (32 + x.toInt.toNat)).toInt (a0 (32 + y.toInt.toNat) + z).toInt) ∧ (r.toInt = 0 → ∀ j : Nat, u.2 j = walkF a0 (32 + x.toInt.toNat) (32 + y.toInt.toNat) z j) ∧ (¬ r.toInt = 0 → ∀ j : Nat, u.2 j = a0 j) ∧ (True)) (fun u t => RW D (va_A [(sw_9 h0 g b0 b5 b6 b7 b8 b9 b10 b11 b12 b13 b14 b17 b18 b19 b23 b24 b25 b26 b27 b29 b31 b32 b33), (sw_in cT (g 0) 288 a0)] sz) ((fun u : Int32 × (Nat → Int32) => [(sw_9 h0 g u.1 b5 b6 b7 b8 b9 b10 b11 b12 b13 b14 b17 b18 b19 b23 b24 b25 b26 b27 b29 b31 b32 b33), (sw_in cT (g 0) 288 u.2)]) u) t) (va_A [(sw_9 h0 g b0 b5 b6 b7 b8 b9 b10 b11 b12 b13 b14 b17 b18 b19 b23 b24 b25 b26 b27 b29 b31 b32 b33), (sw_in cT (g 0) 288 a0)] sz)) 0 0 (va_A [(sw_9 h0 g b0 b5 b6 b7 b8 b9 b10 b11 b12 b13 b14 b17 b18 b19 b23 b24 b25 b26 b27 b29 b31 b32 b33), (sw_in cT (g 0) 288 a0)] sz) := by
  refine m_of (y := yX9_walk) (cc := cX9_walk) (nL := 4) (ret := (some .int)) (D := D) (cT := cT) (av := [.ref h0, .int x, .int y, .int z]) (wi := [(sw_9 h0 g b0 b5 b6 b7 b8 b9 b10 b11 b12 b13 b14 b17 b18 b19 b23 b24 b25 b26 b27 b29 b31 b32 b33), (sw_in cT (g 0) 288 a0)]) (fun A => va_Qi (fun (r : Int32) (u : Int32 × (Nat → Int32)) => (PI 288 u.2) ∧ (r.toInt = wkA (a0 0).toInt x.toInt y.toInt z.toInt (a0 (32 + x.toInt.toNat)).toInt (a0 (32 + y.toInt.toNat) + z).toInt) ∧ (r.toInt = 0 → ∀ j : Nat, u.2 j = walkF a0 (32 + x.toInt.toNat) (32 + y.toInt.toNat) z j) ∧ (¬ r.toInt = 0 → ∀ j : Nat, u.2 j = a0 j) ∧ (True)) (fun u t => RW D A ((fun u : Int32 × (Nat → Int32) => [(sw_9 h0 g u.1 b5 b6 b7 b8 b9 b10 b11 b12 b13 b14 b17 b18 b19 b23 b24 b25 b26 b27 b29 b31 b32 b33), (sw_in cT (g 0) 288 u.2)]) u) t) A) (by decide) (Nat.le_of_ble_eq_true rfl) ?_
  intro p e s m below meth c A hx hb hml hown htg hK hN hr hlk hnm hsz hP hD hS hA ls hl
  have hown : s.vm.findClass RX9 = some m.cls := hown
  have hl : lv_has ls 4 [(0, .ref h0), (1, .int x), (2, .int y), (3, .int z)] := hl
  have tc_m4 : ((-4) : Int32).toInt = (-4) := by decide
  have tc_m3 : ((-3) : Int32).toInt = (-3) := by decide
  have tc_m2 : ((-2) : Int32).toInt = (-2) := by decide
  have tc_0 : (0 : Int32).toInt = 0 := by decide
  have tc_9 : (9 : Int32).toInt = 9 := by decide
  have tc_32 : (32 : Int32).toInt = 32 := by decide
  refine lv_aload_n hx hb dX9_walk_0 rfl (lv_at hl 0 rfl) ?_
  refine lv_iconst (v := 0) hx hb dX9_walk_1 (by decide) ?_
  refine va_put (D := D) (ci := 9) (v := .int 0) (ty := .int) (C := RX9) (T := TX9) (N := 37) hx hb htg gRX9 tyX9 tyX9_ok nmX9 hown hK hP hD hS 0 rfl rfl 0 (by decide) (htg _ wi_1150) (fun _ h9 => h9) rfl (by decide +kernel) rfl rfl (Nat.le_of_ble_eq_true rfl) dX9_walk_2 (fun H locs hP hD hS => ?_)
  obtain ⟨hP, hD⟩ : PD D A [(sw_9 h0 g 0 b5 b6 b7 b8 b9 b10 b11 b12 b13 b14 b17 b18 b19 b23 b24 b25 b26 b27 b29 b31 b32 b33), (sw_in cT (g 0) 288 a0)] _ := ⟨hP, hD⟩
  refine lv_aload_n hx hb dX9_walk_5 rfl (lv_at hl 0 rfl) ?_
  refine lv_iload_n hx hb dX9_walk_6 rfl (lv_at hl 1 rfl) ?_
  refine xk_i (wr := []) (xr_V (n := 1) (As := [.int x]) (rest := []) ⟨hx, hb, hml, hown, htg⟩ hK hN hP hD hS hA [0, 1] rfl (by decide) (m_isStripB l D cT _ (h0) (g) (0) (b5) (b6) (b7) (b8) (b9) (b10) (b11) (b12) (b13) (b14) (b17) (b18) (b19) (b23) (b24) (b25) (b26) (b27) (b29) (b31) (b32) (b33) (by first | assumption | omega | decide | exact Or.inl (by decide) | (intro h9; exact absurd h9 (by decide)) | (intro _; omega) | (intro _; assumption) | (intro _; decide)) (a0) (by first | assumption | omega | decide | exact Or.inl (by decide) | (intro h9; exact absurd h9 (by decide)) | (intro _; omega) | (intro _; assumption) | (intro _; decide)) (x)) wi_1338 wi_1340 wi_90 wi_131 wi_1341 rfl rfl rfl ⟨rfl, by decide +kernel⟩ ⟨Nat.le_of_ble_eq_true rfl, Nat.le_of_ble_eq_true rfl⟩ rfl hl.1 rfl (Nat.le_of_ble_eq_true rfl) dX9_walk_7 ⟨Nat.le_of_ble_eq_true rfl, Nat.le_of_ble_eq_true rfl⟩) hP hD hS hA [0, 1] [] rfl rfl (by decide) (by decide) (fun r_2 u_1 H locs hwr_2 hP hD hS => ?_)
  obtain ⟨hP, hD⟩ : PD D A [(sw_9 h0 g 0 b5 b6 b7 b8 b9 b10 b11 b12 b13 b14 b17 b18 b19 b23 b24 b25 b26 b27 b29 b31 b32 b33), (sw_in cT (g 0) 288 a0)] _ := ⟨hP, hD⟩
  have qr_2_0 : Imp (¬ r_2.toInt = 0) (0 ≤ x.toInt ∧ x.toInt ≤ 15) := hwr_2.1
  have qr_2_1 : Imp (¬ r_2.toInt = 0) (x.toInt < (a0 0).toInt) := hwr_2.2.1
  have qr_2_2 : Imp (r_2.toInt = 0) (x.toInt < 0 ∨ (a0 0).toInt ≤ x.toInt) := hwr_2.2.2.1
  have qr_2_3 : r_2 = 0 ∨ r_2 = 1 := hwr_2.2.2.2.1
  refine lv_if_eq (tgt := 21) hx hb dX9_walk_10 (by decide) (fun c_3 => ?_) (fun c_3 => ?_)
  · have ic_3 : r_2.toInt = 0 := ieq c_3 (rfl) (by decide)
    have kqr_2_2 : x.toInt < 0 ∨ (a0 0).toInt ≤ x.toInt := qr_2_2 ic_3
    refine lv_bipush (v := (-2)) hx hb dX9_walk_21 (by decide) ?_
    exact x_iret hx hb hr hlk hP hD hS [0, 1] ((0, a0)) rfl (by decide) ⟨by (try dsimp only); first | assumption | omega | decide | exact Or.inl (by decide) | (intro h9; exact absurd h9 (by decide)) | (intro _; omega) | (intro _; assumption) | (intro _; decide), (by (try dsimp only); unfold wkA; (repeat (first | rw [if_pos (by omega)] | rw [if_neg (by omega)])); first | done | decide | omega), (fun h9 => absurd h9 (by decide)), (fun _ _ => rfl), trivial⟩ (by decide) (by decide) dX9_walk_23
  · have ic_3 : ¬ r_2.toInt = 0 := ine c_3 (rfl) (by decide)
    have kqr_2_0 : 0 ≤ x.toInt ∧ x.toInt ≤ 15 := qr_2_0 ic_3
    have kqr_2_1 : x.toInt < (a0 0).toInt := qr_2_1 ic_3
    refine lv_aload_n hx hb dX9_walk_13 rfl (lv_at hl 0 rfl) ?_
    refine lv_iload_n hx hb dX9_walk_14 rfl (lv_at hl 2 rfl) ?_
    refine xk_i (wr := []) (xr_V (n := 1) (As := [.int y]) (rest := []) ⟨hx, hb, hml, hown, htg⟩ hK hN hP hD hS hA [0, 1] rfl (by decide) (m_isStripB l D cT _ (h0) (g) (0) (b5) (b6) (b7) (b8) (b9) (b10) (b11) (b12) (b13) (b14) (b17) (b18) (b19) (b23) (b24) (b25) (b26) (b27) (b29) (b31) (b32) (b33) (by first | assumption | omega | decide | exact Or.inl (by decide) | (intro h9; exact absurd h9 (by decide)) | (intro _; omega) | (intro _; assumption) | (intro _; decide)) (a0) (by first | assumption | omega | decide | exact Or.inl (by decide) | (intro h9; exact absurd h9 (by decide)) | (intro _; omega) | (intro _; assumption) | (intro _; decide)) (y)) wi_1338 wi_1340 wi_90 wi_131 wi_1341 rfl rfl rfl ⟨rfl, by decide +kernel⟩ ⟨Nat.le_of_ble_eq_true rfl, Nat.le_of_ble_eq_true rfl⟩ rfl hl.1 rfl (Nat.le_of_ble_eq_true rfl) dX9_walk_15 ⟨Nat.le_of_ble_eq_true rfl, Nat.le_of_ble_eq_true rfl⟩) hP hD hS hA [0, 1] [] rfl rfl (by decide) (by decide) (fun r_5 u_4 H locs hwr_5 hP hD hS => ?_)
    obtain ⟨hP, hD⟩ : PD D A [(sw_9 h0 g 0 b5 b6 b7 b8 b9 b10 b11 b12 b13 b14 b17 b18 b19 b23 b24 b25 b26 b27 b29 b31 b32 b33), (sw_in cT (g 0) 288 a0)] _ := ⟨hP, hD⟩
    have qr_5_0 : Imp (¬ r_5.toInt = 0) (0 ≤ y.toInt ∧ y.toInt ≤ 15) := hwr_5.1
    have qr_5_1 : Imp (¬ r_5.toInt = 0) (y.toInt < (a0 0).toInt) := hwr_5.2.1
    have qr_5_2 : Imp (r_5.toInt = 0) (y.toInt < 0 ∨ (a0 0).toInt ≤ y.toInt) := hwr_5.2.2.1
    have qr_5_3 : r_5 = 0 ∨ r_5 = 1 := hwr_5.2.2.2.1
    refine lv_if_ne (tgt := 24) hx hb dX9_walk_18 (by decide) (fun c_6 => ?_) (fun c_6 => ?_)
    · have ic_6 : ¬ r_5.toInt = 0 := ine c_6 (rfl) (by decide)
      have kqr_5_0 : 0 ≤ y.toInt ∧ y.toInt ≤ 15 := qr_5_0 ic_6
      have kqr_5_1 : y.toInt < (a0 0).toInt := qr_5_1 ic_6
      refine lv_iload_n hx hb dX9_walk_24 rfl (lv_at hl 3 rfl) ?_
      refine lv_i2l (v := z.toInt64) hx hb dX9_walk_25 rfl ?_
      refine lv_lconst (v := 0) hx hb dX9_walk_26 (by decide) ?_
      refine lv_aload_n hx hb dX9_walk_27 rfl (lv_at hl 0 rfl) ?_
      refine va_get (D := D) (ci := 9) (v := .ref (g 0)) (C := RX9) (T := TX9) (N := 37) hx hb htg gRX9 hown hK hP 0 rfl rfl 1 (by decide) (htg _ wi_1151) (fun _ h9 => h9) rfl dX9_walk_28 ?_
      refine lv_bipush (v := 32) hx hb dX9_walk_31 (by decide) ?_
      refine lv_iload_n hx hb dX9_walk_33 rfl (lv_at hl 1 rfl) ?_
      refine lv_iadd hx hb dX9_walk_34 ?_
      refine lv_topi (fun z_7 ez_7 => ?_)
      have iz_7 : z_7.toInt = 32 + x.toInt := toInt_addI ez_7 (by decide) (rfl) (by omega)
      refine va_iald hx hb hK hP 1 0 rfl rfl (vp_in_iff.mpr (by omega)) dX9_walk_35 ?_
      refine lv_topi (fun z_8 ez_8 => ?_)
      have nz_8 : z_8.toInt = (a0 (32 + x.toInt.toNat)).toInt := by rw [ez_8]; exact congrArg (fun k => (a0 k).toInt) (show Int.toNat _ = _ from by omega)
      refine lv_i2l (v := z_8.toInt64) hx hb dX9_walk_36 rfl ?_
      have ilw_9 : (z.toInt64).toInt = z.toInt := i2l_i _
      have ilw_10 : (z_8.toInt64).toInt = z_8.toInt := i2l_i _
      refine xk_i (wr := [(sw_9 h0 g 0 b5 b6 b7 b8 b9 b10 b11 b12 b13 b14 b17 b18 b19 b23 b24 b25 b26 b27 b29 b31 b32 b33), (sw_in cT (g 0) 288 a0)]) (xr_S (n := 3) (As := [.long z.toInt64, .long 0, .long z_8.toInt64]) (rest := []) ⟨hx, hb, hml, hown, htg⟩ hK hN hP hD hS hA [] rfl (by decide) (m_withinB l D cT _ (z.toInt64) (0) (z_8.toInt64) (z.toInt) (0) (z_8.toInt) (i2l_i _) (by decide) (i2l_i _)) wi_1270 wi_1271 wi_131 wi_1272 ⟨rfl, by decide +kernel⟩ ⟨Nat.le_of_ble_eq_true rfl, Nat.le_of_ble_eq_true rfl⟩ rfl hl.1 rfl (Nat.le_of_ble_eq_true rfl) dX9_walk_37 ⟨Nat.le_of_ble_eq_true rfl, Nat.le_of_ble_eq_true rfl⟩) hP hD hS hA [] [0, 1] rfl rfl (by decide) (by decide) (fun r_12 u_11 H locs hwr_12 hP hD hS => ?_)
      obtain ⟨hP, hD⟩ : PD D A [(sw_9 h0 g 0 b5 b6 b7 b8 b9 b10 b11 b12 b13 b14 b17 b18 b19 b23 b24 b25 b26 b27 b29 b31 b32 b33), (sw_in cT (g 0) 288 a0)] _ := ⟨hP, hD⟩
      have qr_12_0 : Imp (¬ r_12.toInt = 0) (0 ≤ z.toInt ∧ z.toInt ≤ z_8.toInt) := hwr_12.1
      have qr_12_1 : Imp (r_12.toInt = 0) (z.toInt < 0 ∨ z_8.toInt < z.toInt) := hwr_12.2.1
      have qr_12_2 : r_12 = 0 ∨ r_12 = 1 := hwr_12.2.2.1
      refine lv_if_ne (tgt := 46) hx hb dX9_walk_40 (by decide) (fun c_13 => ?_) (fun c_13 => ?_)
      · have ic_13 : ¬ r_12.toInt = 0 := ine c_13 (rfl) (by decide)
        have kqr_12_0 : 0 ≤ z.toInt ∧ z.toInt ≤ z_8.toInt := qr_12_0 ic_13
        refine lv_iload_n hx hb dX9_walk_46 rfl (lv_at hl 1 rfl) ?_
        refine lv_iload_n hx hb dX9_walk_47 rfl (lv_at hl 2 rfl) ?_
        refine lv_icmp_eq (tgt := 70) hx hb dX9_walk_48 (by decide) (fun c_14 => ?_) (fun c_14 => ?_)
        · have ic_14 : x.toInt = y.toInt := ieq c_14 (rfl) (rfl)
          refine lv_aload_n hx hb dX9_walk_70 rfl (lv_at hl 0 rfl) ?_
          refine va_get (D := D) (ci := 9) (v := .ref (g 0)) (C := RX9) (T := TX9) (N := 37) hx hb htg gRX9 hown hK hP 0 rfl rfl 1 (by decide) (htg _ wi_1151) (fun _ h9 => h9) rfl dX9_walk_71 ?_
          refine lv_bipush (v := 32) hx hb dX9_walk_74 (by decide) ?_
          refine lv_iload_n hx hb dX9_walk_76 rfl (lv_at hl 1 rfl) ?_
          refine lv_iadd hx hb dX9_walk_77 ?_
          refine lv_topi (fun z_15 ez_15 => ?_)
          have iz_15 : z_15.toInt = 32 + x.toInt := toInt_addI ez_15 (by decide) (rfl) (by omega)
          refine lv_dup2_11 hx hb dX9_walk_78 rfl rfl ?_
          refine va_iald hx hb hK hP 1 0 rfl rfl (vp_in_iff.mpr (by omega)) dX9_walk_79 ?_
          refine lv_topi (fun z_16 ez_16 => ?_)
          refine lv_iload_n hx hb dX9_walk_80 rfl (lv_at hl 3 rfl) ?_
          refine lv_isub hx hb dX9_walk_81 ?_
          refine lv_topi (fun z_17 ez_17 => ?_)
          refine va_iast hx hb hK hP hD hS 1 0 rfl rfl (vp_in_iff.mpr (by omega)) dX9_walk_82 (fun H locs hP hD hS => ?_)
          obtain ⟨f_18, ef_18, hP, hD⟩ : ∃ f_18 : Nat → Int32, f_18 = upd (a0) (z_15 : Int32).toNatClampNeg z_17 ∧ PD D A [(sw_9 h0 g 0 b5 b6 b7 b8 b9 b10 b11 b12 b13 b14 b17 b18 b19 b23 b24 b25 b26 b27 b29 b31 b32 b33), (sw_in cT (g 0) 288 f_18)] H := ⟨_, rfl, hP, hD⟩
          have qf_18 : PI 288 f_18 := by rw [ef_18]; exact pi_upd (a := z_15.toInt) (b := z_17.toInt) pa0 (rfl) (rfl) (by omega) (by unfold OKP; omega)
          refine lv_aload_n hx hb dX9_walk_83 rfl (lv_at hl 0 rfl) ?_
          refine va_get (D := D) (ci := 9) (v := .ref (g 0)) (C := RX9) (T := TX9) (N := 37) hx hb htg gRX9 hown hK hP 0 rfl rfl 1 (by decide) (htg _ wi_1151) (fun _ h9 => h9) rfl dX9_walk_84 ?_
          refine lv_bipush (v := 32) hx hb dX9_walk_87 (by decide) ?_
          refine lv_iload_n hx hb dX9_walk_89 rfl (lv_at hl 2 rfl) ?_
          refine lv_iadd hx hb dX9_walk_90 ?_
          refine lv_topi (fun z_19 ez_19 => ?_)
          have iz_19 : z_19.toInt = 32 + y.toInt := toInt_addI ez_19 (by decide) (rfl) (by omega)
          refine lv_dup2_11 hx hb dX9_walk_91 rfl rfl ?_
          refine va_iald hx hb hK hP 1 0 rfl rfl (vp_in_iff.mpr (by omega)) dX9_walk_92 ?_
          refine lv_topi (fun z_20 ez_20 => ?_)
          refine lv_iload_n hx hb dX9_walk_93 rfl (lv_at hl 3 rfl) ?_
          refine lv_iadd hx hb dX9_walk_94 ?_
          refine lv_topi (fun z_21 ez_21 => ?_)
          refine va_iast hx hb hK hP hD hS 1 0 rfl rfl (vp_in_iff.mpr (by omega)) dX9_walk_95 (fun H locs hP hD hS => ?_)
          obtain ⟨f_22, ef_22, hP, hD⟩ : ∃ f_22 : Nat → Int32, f_22 = upd (f_18) (z_19 : Int32).toNatClampNeg z_21 ∧ PD D A [(sw_9 h0 g 0 b5 b6 b7 b8 b9 b10 b11 b12 b13 b14 b17 b18 b19 b23 b24 b25 b26 b27 b29 b31 b32 b33), (sw_in cT (g 0) 288 f_22)] H := ⟨_, rfl, hP, hD⟩
          have qf_22 : PI 288 f_22 := by rw [ef_22]; exact pi_upd (a := z_19.toInt) (b := z_21.toInt) qf_18 (rfl) (rfl) (by omega) (by unfold OKP; omega)
          refine lv_iconst (v := 0) hx hb dX9_walk_96 (by decide) ?_
          exact x_iret hx hb hr hlk hP hD hS [0, 1] ((0, f_22)) rfl (by decide) ⟨by (try dsimp only); first | assumption | omega | decide | exact Or.inl (by decide) | (intro h9; exact absurd h9 (by decide)) | (intro _; omega) | (intro _; assumption) | (intro _; decide), (by (try dsimp only); unfold wkA; (repeat (first | rw [if_pos (by omega)] | rw [if_neg (by omega)])); first | done | decide | omega), (fun _ j => by (try dsimp only); rw [ef_22, ez_21, ez_20, ef_18, ez_17, ez_16, show (z_15 : Int32).toNatClampNeg = 32 + x.toInt.toNat from (show Int.toNat _ = _ from by omega), show (z_19 : Int32).toNatClampNeg = 32 + y.toInt.toNat from (show Int.toNat _ = _ from by omega)]; rfl), (fun h9 => absurd (by decide) h9), trivial⟩ (by decide) (by decide) dX9_walk_97
        · have ic_14 : ¬ x.toInt = y.toInt := ine c_14 (rfl) (rfl)
          refine lv_aload_n hx hb dX9_walk_51 rfl (lv_at hl 0 rfl) ?_
          refine va_get (D := D) (ci := 9) (v := .ref (g 0)) (C := RX9) (T := TX9) (N := 37) hx hb htg gRX9 hown hK hP 0 rfl rfl 1 (by decide) (htg _ wi_1151) (fun _ h9 => h9) rfl dX9_walk_52 ?_
          refine lv_bipush (v := 32) hx hb dX9_walk_55 (by decide) ?_
          refine lv_iload_n hx hb dX9_walk_57 rfl (lv_at hl 2 rfl) ?_
          refine lv_iadd hx hb dX9_walk_58 ?_
          refine lv_topi (fun z_23 ez_23 => ?_)
          have iz_23 : z_23.toInt = 32 + y.toInt := toInt_addI ez_23 (by decide) (rfl) (by omega)
          refine va_iald hx hb hK hP 1 0 rfl rfl (vp_in_iff.mpr (by omega)) dX9_walk_59 ?_
          refine lv_topi (fun z_24 ez_24 => ?_)
          refine lv_iload_n hx hb dX9_walk_60 rfl (lv_at hl 3 rfl) ?_
          refine lv_iadd hx hb dX9_walk_61 ?_
          refine lv_topi (fun z_25 ez_25 => ?_)
          have nz_25 : z_25.toInt = (a0 (32 + y.toInt.toNat) + z).toInt := by rw [ez_25, ez_24]; exact congrArg (fun k => (a0 k + z).toInt) (show Int.toNat _ = _ from by omega)
          refine lv_bipush (v := 9) hx hb dX9_walk_62 (by decide) ?_
          refine lv_icmp_le (tgt := 70) hx hb dX9_walk_64 (by decide) (fun c_26 => ?_) (fun c_26 => ?_)
          · have ic_26 : z_25.toInt ≤ 9 := ile c_26 (rfl) (by decide)
            refine lv_aload_n hx hb dX9_walk_70 rfl (lv_at hl 0 rfl) ?_
            refine va_get (D := D) (ci := 9) (v := .ref (g 0)) (C := RX9) (T := TX9) (N := 37) hx hb htg gRX9 hown hK hP 0 rfl rfl 1 (by decide) (htg _ wi_1151) (fun _ h9 => h9) rfl dX9_walk_71 ?_
            refine lv_bipush (v := 32) hx hb dX9_walk_74 (by decide) ?_
            refine lv_iload_n hx hb dX9_walk_76 rfl (lv_at hl 1 rfl) ?_
            refine lv_iadd hx hb dX9_walk_77 ?_
            refine lv_topi (fun z_27 ez_27 => ?_)
            have iz_27 : z_27.toInt = 32 + x.toInt := toInt_addI ez_27 (by decide) (rfl) (by omega)
            refine lv_dup2_11 hx hb dX9_walk_78 rfl rfl ?_
            refine va_iald hx hb hK hP 1 0 rfl rfl (vp_in_iff.mpr (by omega)) dX9_walk_79 ?_
            refine lv_topi (fun z_28 ez_28 => ?_)
            refine lv_iload_n hx hb dX9_walk_80 rfl (lv_at hl 3 rfl) ?_
            refine lv_isub hx hb dX9_walk_81 ?_
            refine lv_topi (fun z_29 ez_29 => ?_)
            refine va_iast hx hb hK hP hD hS 1 0 rfl rfl (vp_in_iff.mpr (by omega)) dX9_walk_82 (fun H locs hP hD hS => ?_)
            obtain ⟨f_30, ef_30, hP, hD⟩ : ∃ f_30 : Nat → Int32, f_30 = upd (a0) (z_27 : Int32).toNatClampNeg z_29 ∧ PD D A [(sw_9 h0 g 0 b5 b6 b7 b8 b9 b10 b11 b12 b13 b14 b17 b18 b19 b23 b24 b25 b26 b27 b29 b31 b32 b33), (sw_in cT (g 0) 288 f_30)] H := ⟨_, rfl, hP, hD⟩
            have qf_30 : PI 288 f_30 := by rw [ef_30]; exact pi_upd (a := z_27.toInt) (b := z_29.toInt) pa0 (rfl) (rfl) (by omega) (by unfold OKP; omega)
            refine lv_aload_n hx hb dX9_walk_83 rfl (lv_at hl 0 rfl) ?_
            refine va_get (D := D) (ci := 9) (v := .ref (g 0)) (C := RX9) (T := TX9) (N := 37) hx hb htg gRX9 hown hK hP 0 rfl rfl 1 (by decide) (htg _ wi_1151) (fun _ h9 => h9) rfl dX9_walk_84 ?_
            refine lv_bipush (v := 32) hx hb dX9_walk_87 (by decide) ?_
            refine lv_iload_n hx hb dX9_walk_89 rfl (lv_at hl 2 rfl) ?_
            refine lv_iadd hx hb dX9_walk_90 ?_
            refine lv_topi (fun z_31 ez_31 => ?_)
            have iz_31 : z_31.toInt = 32 + y.toInt := toInt_addI ez_31 (by decide) (rfl) (by omega)
            refine lv_dup2_11 hx hb dX9_walk_91 rfl rfl ?_
            refine va_iald hx hb hK hP 1 0 rfl rfl (vp_in_iff.mpr (by omega)) dX9_walk_92 ?_
            refine lv_topi (fun z_32 ez_32 => ?_)
            refine lv_iload_n hx hb dX9_walk_93 rfl (lv_at hl 3 rfl) ?_
            refine lv_iadd hx hb dX9_walk_94 ?_
            refine lv_topi (fun z_33 ez_33 => ?_)
            refine va_iast hx hb hK hP hD hS 1 0 rfl rfl (vp_in_iff.mpr (by omega)) dX9_walk_95 (fun H locs hP hD hS => ?_)
            obtain ⟨f_34, ef_34, hP, hD⟩ : ∃ f_34 : Nat → Int32, f_34 = upd (f_30) (z_31 : Int32).toNatClampNeg z_33 ∧ PD D A [(sw_9 h0 g 0 b5 b6 b7 b8 b9 b10 b11 b12 b13 b14 b17 b18 b19 b23 b24 b25 b26 b27 b29 b31 b32 b33), (sw_in cT (g 0) 288 f_34)] H := ⟨_, rfl, hP, hD⟩
            have qf_34 : PI 288 f_34 := by rw [ef_34]; exact pi_upd (a := z_31.toInt) (b := z_33.toInt) qf_30 (rfl) (rfl) (by omega) (by unfold OKP; omega)
            refine lv_iconst (v := 0) hx hb dX9_walk_96 (by decide) ?_
            exact x_iret hx hb hr hlk hP hD hS [0, 1] ((0, f_34)) rfl (by decide) ⟨by (try dsimp only); first | assumption | omega | decide | exact Or.inl (by decide) | (intro h9; exact absurd h9 (by decide)) | (intro _; omega) | (intro _; assumption) | (intro _; decide), (by (try dsimp only); unfold wkA; (repeat (first | rw [if_pos (by omega)] | rw [if_neg (by omega)])); first | done | decide | omega), (fun _ j => by (try dsimp only); rw [ef_34, ez_33, ez_32, ef_30, ez_29, ez_28, show (z_27 : Int32).toNatClampNeg = 32 + x.toInt.toNat from (show Int.toNat _ = _ from by omega), show (z_31 : Int32).toNatClampNeg = 32 + y.toInt.toNat from (show Int.toNat _ = _ from by omega)]; rfl), (fun h9 => absurd (by decide) h9), trivial⟩ (by decide) (by decide) dX9_walk_97
          · have ic_26 : 9 < z_25.toInt := inle c_26 (rfl) (by decide)
            refine lv_bipush (v := (-4)) hx hb dX9_walk_67 (by decide) ?_
            exact x_iret hx hb hr hlk hP hD hS [0, 1] ((0, a0)) rfl (by decide) ⟨by (try dsimp only); first | assumption | omega | decide | exact Or.inl (by decide) | (intro h9; exact absurd h9 (by decide)) | (intro _; omega) | (intro _; assumption) | (intro _; decide), (by (try dsimp only); unfold wkA; (repeat (first | rw [if_pos (by omega)] | rw [if_neg (by omega)])); first | done | decide | omega), (fun h9 => absurd h9 (by decide)), (fun _ _ => rfl), trivial⟩ (by decide) (by decide) dX9_walk_69
      · have ic_13 : r_12.toInt = 0 := ieq c_13 (rfl) (by decide)
        have kqr_12_1 : z.toInt < 0 ∨ z_8.toInt < z.toInt := qr_12_1 ic_13
        refine lv_bipush (v := (-3)) hx hb dX9_walk_43 (by decide) ?_
        exact x_iret hx hb hr hlk hP hD hS [0, 1] ((0, a0)) rfl (by decide) ⟨by (try dsimp only); first | assumption | omega | decide | exact Or.inl (by decide) | (intro h9; exact absurd h9 (by decide)) | (intro _; omega) | (intro _; assumption) | (intro _; decide), (by (try dsimp only); unfold wkA; (repeat (first | rw [if_pos (by omega)] | rw [if_neg (by omega)])); first | done | decide | omega), (fun h9 => absurd h9 (by decide)), (fun _ _ => rfl), trivial⟩ (by decide) (by decide) dX9_walk_45
    · have ic_6 : r_5.toInt = 0 := ieq c_6 (rfl) (by decide)
      have kqr_5_2 : y.toInt < 0 ∨ (a0 0).toInt ≤ y.toInt := qr_5_2 ic_6
      refine lv_bipush (v := (-2)) hx hb dX9_walk_21 (by decide) ?_
      exact x_iret hx hb hr hlk hP hD hS [0, 1] ((0, a0)) rfl (by decide) ⟨by (try dsimp only); first | assumption | omega | decide | exact Or.inl (by decide) | (intro h9; exact absurd h9 (by decide)) | (intro _; omega) | (intro _; assumption) | (intro _; decide), (by (try dsimp only); unfold wkA; (repeat (first | rw [if_pos (by omega)] | rw [if_neg (by omega)])); first | done | decide | omega), (fun h9 => absurd h9 (by decide)), (fun _ _ => rfl), trivial⟩ (by decide) (by decide) dX9_walk_23
