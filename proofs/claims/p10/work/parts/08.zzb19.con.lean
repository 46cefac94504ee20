set_option maxHeartbeats 4000000 in
set_option maxRecDepth 100000 in
theorem m_nightK (l : Launch) (D : va_G) (cT : Nat → ClassId) (sz : Nat) (h0 : Nat) (g : Nat → Nat) (b0 : Int32) (b5 : Int32) (b6 : Int32) (b7 : Int32) (b8 : Int32) (b9 : Int32) (b10 : Int32) (b11 : Int32) (b12 : Int32) (b13 : Int32) (b14 : Int32) (b17 : Int32) (b18 : Int32) (b19 : Int32) (b23 : Int32) (b24 : Int32) (b25 : Int32) (b26 : Int32) (b27 : Int32) (b29 : Int32) (b31 : Int32) (b32 : Int32) (b33 : Int32) (hb5 : 0 ≤ b5.toInt ∧ b5.toInt ≤ 900) (a0 : Nat → Int32) (pa0 : PI 288 a0) (a4 : Nat → Int32) (x : Int32) (y : Int32) : Met l yX9_night (wsc yX9_night cX9_night 7 (some .int)) { frames := 7, cells := 0, slots := 0, locals := 217 } (va_Pc [.ref h0, .int x, .int y] (PX D cT sz [(sw_9 h0 g b0 b5 b6 b7 b8 b9 b10 b11 b12 b13 b14 b17 b18 b19 b23 b24 b25 b26 b27 b29 b31 b32 b33), (sw_in cT (g 0) 288 a0), (sw_in cT (g 4) 6 a4)])) (va_Qi (fun (r : Int32) (u : Int32 × Int32 × (Nat → Int32) × (Nat → Int32)) => (PI 288 u.2.2.1) ∧ (KR u.2.2.1 a0) ∧ (True)) (fun u t => RW D (va_A [(sw_9 h0 g b0 b5 b6 b7 b8 b9 b10 b11 b12 b13 b14 b17 b18 b19 b23 b24 b25 b26 b27 b29 b31 b32 b33), (sw_in cT (g 0) 288 a0), (sw_in cT (g 4) 6 a4)] sz) ((fun u : Int32 × Int32 × (Nat → Int32) × (Nat → Int32) => [(sw_9 h0 g u.1 b5 b6 b7 b8 b9 b10 b11 b12 b13 b14 b17 b18 u.2.1 b23 b24 b25 b26 b27 b29 b31 b32 b33), (sw_in cT (g 0) 288 u.2.2.1), (sw_in cT (g 4) 6 u.2.2.2)]) u) t) (va_A [(sw_9 h0 g b0 b5 b6 b7 b8 b9 b10 b11 b12 b13 b14 b17 b18 b19 b23 b24 b25 b26 b27 b29 b31 b32 b33), (sw_in cT (g 0) 288 a0), (sw_in cT (g 4) 6 a4)] sz)) 0 0 (va_A [(sw_9 h0 g b0 b5 b6 b7 b8 b9 b10 b11 b12 b13 b14 b17 b18 b19 b23 b24 b25 b26 b27 b29 b31 b32 b33), (sw_in cT (g 0) 288 a0), (sw_in cT (g 4) 6 a4)] sz) := by
  refine m_of (y := yX9_night) (cc := cX9_night) (nL := 7) (ret := (some .int)) (D := D) (cT := cT) (av := [.ref h0, .int x, .int y]) (wi := [(sw_9 h0 g b0 b5 b6 b7 b8 b9 b10 b11 b12 b13 b14 b17 b18 b19 b23 b24 b25 b26 b27 b29 b31 b32 b33), (sw_in cT (g 0) 288 a0), (sw_in cT (g 4) 6 a4)]) (fun A => va_Qi (fun (r : Int32) (u : Int32 × Int32 × (Nat → Int32) × (Nat → Int32)) => (PI 288 u.2.2.1) ∧ (KR u.2.2.1 a0) ∧ (True)) (fun u t => RW D A ((fun u : Int32 × Int32 × (Nat → Int32) × (Nat → Int32) => [(sw_9 h0 g u.1 b5 b6 b7 b8 b9 b10 b11 b12 b13 b14 b17 b18 u.2.1 b23 b24 b25 b26 b27 b29 b31 b32 b33), (sw_in cT (g 0) 288 u.2.2.1), (sw_in cT (g 4) 6 u.2.2.2)]) u) t) A) (by decide) (Nat.le_of_ble_eq_true rfl) ?_
  intro p e s m below meth c A hx hb hml hown htg hK hN hr hlk hnm hsz hP hD hS hA ls hl
  have hown : s.vm.findClass RX9 = some m.cls := hown
  have hl : lv_has ls 7 [(0, .ref h0), (1, .int x), (2, .int y)] := hl
  have tc_m5 : ((-5) : Int32).toInt = (-5) := by decide
  have tc_m3 : ((-3) : Int32).toInt = (-3) := by decide
  have tc_0 : (0 : Int32).toInt = 0 := by decide
  have tc_1 : (1 : Int32).toInt = 1 := by decide
  have tc_3 : (3 : Int32).toInt = 3 := by decide
  have tc_6 : (6 : Int32).toInt = 6 := by decide
  have tc_7 : (7 : Int32).toInt = 7 := by decide
  have tc_100 : (100 : Int32).toInt = 100 := by decide
  have tc_9999 : (9999 : Int32).toInt = 9999 := by decide
  refine lv_aload_n hx hb dX9_night_0 rfl (lv_at hl 0 rfl) ?_
  refine lv_iconst (v := 0) hx hb dX9_night_1 (by decide) ?_
  refine va_put (D := D) (ci := 9) (v := .int 0) (ty := .int) (C := RX9) (T := TX9) (N := 37) hx hb htg gRX9 tyX9 tyX9_ok nmX9 hown hK hP hD hS 0 rfl rfl 0 (by decide) (htg _ wi_1150) (fun _ h9 => h9) rfl (by decide +kernel) rfl rfl (Nat.le_of_ble_eq_true rfl) dX9_night_2 (fun H locs hP hD hS => ?_)
  obtain ⟨hP, hD⟩ : PD D A [(sw_9 h0 g 0 b5 b6 b7 b8 b9 b10 b11 b12 b13 b14 b17 b18 b19 b23 b24 b25 b26 b27 b29 b31 b32 b33), (sw_in cT (g 0) 288 a0), (sw_in cT (g 4) 6 a4)] _ := ⟨hP, hD⟩
  refine lv_iload_n hx hb dX9_night_5 rfl (lv_at hl 2 rfl) ?_
  refine lv_i2l (v := y.toInt64) hx hb dX9_night_6 rfl ?_
  refine lv_lconst (v := 1) hx hb dX9_night_7 (by decide) ?_
  refine lv_ldc2 (v := 60) hx hb hown (htg _ wi_1457) dX9_night_8 ?_
  have ilw_1 : (y.toInt64).toInt = y.toInt := i2l_i _
  refine xk_i (wr := [(sw_9 h0 g 0 b5 b6 b7 b8 b9 b10 b11 b12 b13 b14 b17 b18 b19 b23 b24 b25 b26 b27 b29 b31 b32 b33), (sw_in cT (g 0) 288 a0), (sw_in cT (g 4) 6 a4)]) (xr_S (n := 3) (As := [.long y.toInt64, .long 1, .long 60]) (rest := []) ⟨hx, hb, hml, hown, htg⟩ hK hN hP hD hS hA [] rfl (by decide) (m_within l D cT _ (y.toInt64) (1) (60) (y.toInt) (1) (60) (i2l_i _) (by decide) (by decide)) wi_1270 wi_1271 wi_131 wi_1272 ⟨rfl, by decide +kernel⟩ ⟨Nat.le_of_ble_eq_true rfl, Nat.le_of_ble_eq_true rfl⟩ rfl hl.1 rfl (Nat.le_of_ble_eq_true rfl) dX9_night_11 ⟨Nat.le_of_ble_eq_true rfl, Nat.le_of_ble_eq_true rfl⟩) hP hD hS hA [] [0, 1, 2] rfl rfl (by decide) (by decide) (fun r_3 u_2 H locs hwr_3 hP hD hS => ?_)
  obtain ⟨hP, hD⟩ : PD D A [(sw_9 h0 g 0 b5 b6 b7 b8 b9 b10 b11 b12 b13 b14 b17 b18 b19 b23 b24 b25 b26 b27 b29 b31 b32 b33), (sw_in cT (g 0) 288 a0), (sw_in cT (g 4) 6 a4)] _ := ⟨hP, hD⟩
  have qr_3_0 : Imp (¬ r_3.toInt = 0) (1 ≤ y.toInt ∧ y.toInt ≤ 60) := hwr_3.1
  have qr_3_1 : r_3 = 0 ∨ r_3 = 1 := hwr_3.2.1
  refine lv_if_ne (tgt := 20) hx hb dX9_night_14 (by decide) (fun c_4 => ?_) (fun c_4 => ?_)
  · have ic_4 : ¬ r_3.toInt = 0 := ine c_4 (rfl) (by decide)
    have kqr_3_0 : 1 ≤ y.toInt ∧ y.toInt ≤ 60 := qr_3_0 ic_4
    refine lv_aload_n hx hb dX9_night_20 rfl (lv_at hl 0 rfl) ?_
    refine va_get (D := D) (ci := 9) (v := .ref (g 0)) (C := RX9) (T := TX9) (N := 37) hx hb htg gRX9 hown hK hP 0 rfl rfl 1 (by decide) (htg _ wi_1151) (fun _ h9 => h9) rfl dX9_night_21 ?_
    refine lv_iconst (v := 0) hx hb dX9_night_24 (by decide) ?_
    refine va_iald hx hb hK hP 1 0 rfl rfl (by unfold vp_in; decide) dX9_night_25 ?_
    refine lv_topi (fun z_5 ez_5 => ?_)
    have iz_5 : 0 ≤ z_5.toInt ∧ z_5.toInt ≤ 16 := by rw [ez_5]; exact rd0 pa0 (by decide) rfl
    have nz_5 : z_5.toInt = ((a0) 0).toInt := by rw [ez_5]; rfl
    refine lv_if_eq (tgt := 53) hx hb dX9_night_26 (by decide) (fun c_6 => ?_) (fun c_6 => ?_)
    · have ic_6 : z_5.toInt = 0 := ieq c_6 (rfl) (by decide)
      refine lv_bipush (v := (-5)) hx hb dX9_night_53 (by decide) ?_
      exact x_iret hx hb hr hlk hP hD hS [0, 1, 2] ((0, b19, a0, a4)) rfl (by decide) ⟨by (try dsimp only); first | assumption | omega | decide | exact Or.inl (by decide) | (intro h9; exact absurd h9 (by decide)) | (intro _; omega) | (intro _; assumption) | (intro _; decide), by (try dsimp only); first | assumption | exact KR_rfl _, trivial⟩ (by decide) (by decide) dX9_night_55
    · have ic_6 : ¬ z_5.toInt = 0 := ine c_6 (rfl) (by decide)
      refine lv_aload_n hx hb dX9_night_29 rfl (lv_at hl 0 rfl) ?_
      refine va_get (D := D) (ci := 9) (v := .ref (g 0)) (C := RX9) (T := TX9) (N := 37) hx hb htg gRX9 hown hK hP 0 rfl rfl 1 (by decide) (htg _ wi_1151) (fun _ h9 => h9) rfl dX9_night_30 ?_
      refine lv_bipush (v := 6) hx hb dX9_night_33 (by decide) ?_
      refine va_iald hx hb hK hP 1 0 rfl rfl (by unfold vp_in; decide) dX9_night_35 ?_
      refine lv_topi (fun z_7 ez_7 => ?_)
      have iz_7 : 0 ≤ z_7.toInt ∧ z_7.toInt ≤ 999 := by rw [ez_7]; exact rd6 pa0 (by decide) rfl
      have nz_7 : z_7.toInt = ((a0) 6).toInt := by rw [ez_7]; rfl
      refine lv_if_eq (tgt := 53) hx hb dX9_night_36 (by decide) (fun c_8 => ?_) (fun c_8 => ?_)
      · have ic_8 : z_7.toInt = 0 := ieq c_8 (rfl) (by decide)
        refine lv_bipush (v := (-5)) hx hb dX9_night_53 (by decide) ?_
        exact x_iret hx hb hr hlk hP hD hS [0, 1, 2] ((0, b19, a0, a4)) rfl (by decide) ⟨by (try dsimp only); first | assumption | omega | decide | exact Or.inl (by decide) | (intro h9; exact absurd h9 (by decide)) | (intro _; omega) | (intro _; assumption) | (intro _; decide), by (try dsimp only); first | assumption | exact KR_rfl _, trivial⟩ (by decide) (by decide) dX9_night_55
      · have ic_8 : ¬ z_7.toInt = 0 := ine c_8 (rfl) (by decide)
        refine lv_aload_n hx hb dX9_night_39 rfl (lv_at hl 0 rfl) ?_
        refine va_get (D := D) (ci := 9) (v := .ref (g 0)) (C := RX9) (T := TX9) (N := 37) hx hb htg gRX9 hown hK hP 0 rfl rfl 1 (by decide) (htg _ wi_1151) (fun _ h9 => h9) rfl dX9_night_40 ?_
        refine lv_iconst (v := 1) hx hb dX9_night_43 (by decide) ?_
        refine va_iald hx hb hK hP 1 0 rfl rfl (by unfold vp_in; decide) dX9_night_44 ?_
        refine lv_topi (fun z_9 ez_9 => ?_)
        have iz_9 : 0 ≤ z_9.toInt ∧ z_9.toInt ≤ 9999 := by rw [ez_9]; exact rd1 pa0 (by decide) rfl
        have nz_9 : z_9.toInt = ((a0) 1).toInt := by rw [ez_9]; rfl
        refine lv_iload_n hx hb dX9_night_45 rfl (lv_at hl 2 rfl) ?_
        refine lv_iadd hx hb dX9_night_46 ?_
        refine lv_topi (fun z_10 ez_10 => ?_)
        have iz_10 : z_10.toInt = z_9.toInt + y.toInt := toInt_addI ez_10 (rfl) (rfl) (by omega)
        refine lv_sipush (v := 9999) hx hb dX9_night_47 (by decide) ?_
        refine lv_icmp_le (tgt := 56) hx hb dX9_night_50 (by decide) (fun c_11 => ?_) (fun c_11 => ?_)
        · have ic_11 : z_10.toInt ≤ 9999 := ile c_11 (rfl) (by decide)
          refine lv_aload_n hx hb dX9_night_56 rfl (lv_at hl 0 rfl) ?_
          refine lv_iload_n hx hb dX9_night_57 rfl (lv_at hl 1 rfl) ?_
          refine va_put (D := D) (ci := 9) (v := .int x) (ty := .int) (C := RX9) (T := TX9) (N := 37) hx hb htg gRX9 tyX9 tyX9_ok nmX9 hown hK hP hD hS 0 rfl rfl 19 (by decide) (htg _ wi_1169) (fun _ h9 => h9) rfl (by decide +kernel) rfl rfl (Nat.le_of_ble_eq_true rfl) dX9_night_58 (fun H locs hP hD hS => ?_)
          obtain ⟨hP, hD⟩ : PD D A [(sw_9 h0 g 0 b5 b6 b7 b8 b9 b10 b11 b12 b13 b14 b17 b18 x b23 b24 b25 b26 b27 b29 b31 b32 b33), (sw_in cT (g 0) 288 a0), (sw_in cT (g 4) 6 a4)] _ := ⟨hP, hD⟩
          refine lv_iconst (v := 0) hx hb dX9_night_61 (by decide) ?_
          refine lv_istore_n (lv' := [(3, .int 0), (0, .ref h0), (1, .int x), (2, .int y)]) hx hb dX9_night_62 rfl hl (by decide) rfl (fun ls hl => ?_)
          refine lv_iconst (v := 0) hx hb dX9_night_63 (by decide) ?_
          refine lv_istore (lv' := [(4, .int 0), (3, .int 0), (0, .ref h0), (1, .int x), (2, .int y)]) hx hb dX9_night_64 hl (by decide) rfl (fun ls hl => ?_)
          refine (fun (key : ∀ (n9_66 : Nat) (k9_66 : Nat) (x9_66_3 : Int32) (f9_66_1 : Nat → Int32) (f9_66_2 : Nat → Int32) (v9_66_3 : Int32) (H : Heap) (locs : List Loc) (ls : Array Slot), (k9_66 : Int) ≤ 60 → 60 < (k9_66 : Int) + n9_66 → (f9_66_1 1).toInt + y.toInt - (k9_66 : Int) ≤ 9999 → PI 288 f9_66_1 → KR f9_66_1 (a0) → PD D A [(sw_9 h0 g 0 b5 b6 b7 b8 b9 b10 b11 b12 b13 b14 b17 b18 v9_66_3 b23 b24 b25 b26 b27 b29 b31 b32 b33), (sw_in cT (g 0) 288 f9_66_1), (sw_in cT (g 4) 6 f9_66_2)] H → va_S A s.heap H locs → lv_has ls 7 [(4, .int (nI k9_66)), (3, .int x9_66_3), (0, .ref h0), (1, .int x), (2, .int y)] → W p l e _ s m _ below meth c H locs _ _ _ (F0 m 66 ls [])) => key (Int.toNat (60 - 0) + 1) 0 _ _ _ _ _ _ _ (by omega) (by omega) (by first | assumption | omega | decide | (simp only [ti_0, ti_1, ti_2, ti_3, ti_4, ti_5, ti_6, ti_7, ti_8, ti_9, ti_10, ti_11, ti_12, ti_m1]; omega)) (by first | assumption | omega | decide | (simp only [ti_0, ti_1, ti_2, ti_3, ti_4, ti_5, ti_6, ti_7, ti_8, ti_9, ti_10, ti_11, ti_12, ti_m1]; omega)) (by first | assumption | exact KR_rfl _) ⟨hP, hD⟩ hS (lv_sub hl [0, 1, 2, 3, 4] rfl)) ?_
          intro n9_66
          induction n9_66 with
          | zero => intro k9_66 x9_66_3 f9_66_1 f9_66_2 v9_66_3 H locs ls hq1 hq2; exact absurd hq2 (by omega)
          | succ n9_66 ih_66 =>
            intro k9_66 x9_66_3 f9_66_1 f9_66_2 v9_66_3 H locs ls hq1_66 hq2_66 h9_66_0 h9_66_1 h9_66_2 hPD hS hl
            obtain ⟨hP, hD⟩ := hPD
            have hk9_66 : (nI k9_66).toInt = (k9_66 : Int) := nI_toInt (by omega)
            refine lv_iload hx hb dX9_night_66 (lv_at hl 0 rfl) ?_
            refine lv_iload_n hx hb dX9_night_68 rfl (lv_at hl 4 rfl) ?_
            refine lv_icmp_ge (tgt := 143) hx hb dX9_night_69 (by decide) (fun c_12 => ?_) (fun c_12 => ?_)
            · have ic_12 : y.toInt ≤ ((k9_66 : Nat) : Int) := ile c_12 (rfl) (nI_toInt (by omega))
              refine lv_iload_n hx hb dX9_night_143 rfl (lv_at hl 1 rfl) ?_
              exact x_iret hx hb hr hlk hP hD hS [0, 1, 2] ((0, v9_66_3, f9_66_1, f9_66_2)) rfl (by decide) ⟨by (try dsimp only); first | assumption | omega | decide | exact Or.inl (by decide) | (intro h9; exact absurd h9 (by decide)) | (intro _; omega) | (intro _; assumption) | (intro _; decide), by (try dsimp only); first | assumption | exact KR_rfl _, trivial⟩ (by decide) (by decide) dX9_night_144
            · have ic_12 : ((k9_66 : Nat) : Int) < y.toInt := inle c_12 (rfl) (nI_toInt (by omega))
              refine lv_aload_n hx hb dX9_night_72 rfl (lv_at hl 2 rfl) ?_
              refine va_get (D := D) (ci := 9) (v := .ref (g 0)) (C := RX9) (T := TX9) (N := 37) hx hb htg gRX9 hown hK hP 0 rfl rfl 1 (by decide) (htg _ wi_1151) (fun _ h9 => h9) rfl dX9_night_73 ?_
              refine lv_bipush (v := 6) hx hb dX9_night_76 (by decide) ?_
              refine va_iald hx hb hK hP 1 0 rfl rfl (by unfold vp_in; decide) dX9_night_78 ?_
              refine lv_topi (fun z_13 ez_13 => ?_)
              have iz_13 : 0 ≤ z_13.toInt ∧ z_13.toInt ≤ 999 := by rw [ez_13]; exact rd6 h9_66_1 (by decide) rfl
              have nz_13 : z_13.toInt = ((f9_66_1) 6).toInt := by rw [ez_13]; rfl
              refine lv_if_le (tgt := 143) hx hb dX9_night_79 (by decide) (fun c_14 => ?_) (fun c_14 => ?_)
              · have ic_14 : z_13.toInt ≤ 0 := ile c_14 (rfl) (by decide)
                refine lv_iload_n hx hb dX9_night_143 rfl (lv_at hl 1 rfl) ?_
                exact x_iret hx hb hr hlk hP hD hS [0, 1, 2] ((0, v9_66_3, f9_66_1, f9_66_2)) rfl (by decide) ⟨by (try dsimp only); first | assumption | omega | decide | exact Or.inl (by decide) | (intro h9; exact absurd h9 (by decide)) | (intro _; omega) | (intro _; assumption) | (intro _; decide), by (try dsimp only); first | assumption | exact KR_rfl _, trivial⟩ (by decide) (by decide) dX9_night_144
              · have ic_14 : 0 < z_13.toInt := inle c_14 (rfl) (by decide)
                refine lv_aload_n hx hb dX9_night_82 rfl (lv_at hl 2 rfl) ?_
                refine lv_iconst (v := 3) hx hb dX9_night_83 (by decide) ?_
                refine xk_i (wr := [(sw_in cT (g 0) 288 f9_66_1), (sw_in cT (g 4) 6 f9_66_2)]) (xr_V (n := 1) (As := [.int 3]) (rest := []) ⟨hx, hb, hml, hown, htg⟩ hK hN hP hD hS hA [0] rfl (by decide) (m_draw l D cT _ (h0) (g) (0) (b5) (b6) (b7) (b8) (b9) (b10) (b11) (b12) (b13) (b14) (b17) (b18) (v9_66_3) (b23) (b24) (b25) (b26) (b27) (b29) (b31) (b32) (b33) (by first | assumption | omega | decide | exact Or.inl (by decide) | (intro h9; exact absurd h9 (by decide)) | (intro _; omega) | (intro _; assumption) | (intro _; decide)) (3) (by first | assumption | omega | decide | exact Or.inl (by decide) | (intro h9; exact absurd h9 (by decide)) | (intro _; omega) | (intro _; assumption) | (intro _; decide))) wi_1458 wi_1460 wi_104 wi_131 wi_1461 rfl rfl rfl ⟨rfl, by decide +kernel⟩ ⟨Nat.le_of_ble_eq_true rfl, Nat.le_of_ble_eq_true rfl⟩ rfl hl.1 rfl (Nat.le_of_ble_eq_true rfl) dX9_night_84 ⟨Nat.le_of_ble_eq_true rfl, Nat.le_of_ble_eq_true rfl⟩) hP hD hS hA [0] [1, 2] rfl rfl (by decide) (by decide) (fun r_16 u_15 H locs hwr_16 hP hD hS => ?_)
                obtain ⟨hP, hD⟩ : PD D A [(sw_in cT (g 0) 288 f9_66_1), (sw_in cT (g 4) 6 f9_66_2), (sw_9 h0 g 0 b5 b6 b7 b8 b9 b10 b11 b12 b13 b14 b17 b18 u_15 b23 b24 b25 b26 b27 b29 b31 b32 b33)] _ := ⟨hP, hD⟩
                refine lv_istore (lv' := [(5, .int r_16), (4, .int (nI k9_66)), (3, .int x9_66_3), (0, .ref h0), (1, .int x), (2, .int y)]) hx hb dX9_night_87 hl (by decide) rfl (fun ls hl => ?_)
                refine lv_aload_n hx hb dX9_night_89 rfl (lv_at hl 3 rfl) ?_
                refine lv_bipush (v := 100) hx hb dX9_night_90 (by decide) ?_
                refine xk_i (wr := [(sw_in cT (g 0) 288 f9_66_1), (sw_in cT (g 4) 6 f9_66_2)]) (xr_V (n := 1) (As := [.int 100]) (rest := []) ⟨hx, hb, hml, hown, htg⟩ hK hN hP hD hS hA [2] rfl (by decide) (m_draw l D cT _ (h0) (g) (0) (b5) (b6) (b7) (b8) (b9) (b10) (b11) (b12) (b13) (b14) (b17) (b18) (u_15) (b23) (b24) (b25) (b26) (b27) (b29) (b31) (b32) (b33) (by first | assumption | omega | decide | exact Or.inl (by decide) | (intro h9; exact absurd h9 (by decide)) | (intro _; omega) | (intro _; assumption) | (intro _; decide)) (100) (by first | assumption | omega | decide | exact Or.inl (by decide) | (intro h9; exact absurd h9 (by decide)) | (intro _; omega) | (intro _; assumption) | (intro _; decide))) wi_1458 wi_1460 wi_104 wi_131 wi_1461 rfl rfl rfl ⟨rfl, by decide +kernel⟩ ⟨Nat.le_of_ble_eq_true rfl, Nat.le_of_ble_eq_true rfl⟩ rfl hl.1 rfl (Nat.le_of_ble_eq_true rfl) dX9_night_92 ⟨Nat.le_of_ble_eq_true rfl, Nat.le_of_ble_eq_true rfl⟩) hP hD hS hA [2] [0, 1] rfl rfl (by decide) (by decide) (fun r_18 u_17 H locs hwr_18 hP hD hS => ?_)
                obtain ⟨hP, hD⟩ : PD D A [(sw_in cT (g 0) 288 f9_66_1), (sw_in cT (g 4) 6 f9_66_2), (sw_9 h0 g 0 b5 b6 b7 b8 b9 b10 b11 b12 b13 b14 b17 b18 u_17 b23 b24 b25 b26 b27 b29 b31 b32 b33)] _ := ⟨hP, hD⟩
                refine lv_aload_n hx hb dX9_night_95 rfl (lv_at hl 3 rfl) ?_
                refine va_get (D := D) (ci := 9) (v := .ref (g 0)) (C := RX9) (T := TX9) (N := 37) hx hb htg gRX9 hown hK hP 2 rfl rfl 1 (by decide) (htg _ wi_1151) (fun _ h9 => h9) rfl dX9_night_96 ?_
                refine lv_bipush (v := 7) hx hb dX9_night_99 (by decide) ?_
                refine va_iald hx hb hK hP 0 0 rfl rfl (by unfold vp_in; decide) dX9_night_101 ?_
                refine lv_topi (fun z_19 ez_19 => ?_)
                refine lv_icmp_ge (tgt := 109) hx hb dX9_night_102 (by decide) (fun c_20 => ?_) (fun c_20 => ?_)
                · have ic_20 : z_19.toInt ≤ r_18.toInt := ile c_20 (rfl) (rfl)
                  refine lv_iconst (v := 0) hx hb dX9_night_109 (by decide) ?_
                  refine lv_istore (lv' := [(6, .int 0), (5, .int r_16), (4, .int (nI k9_66)), (3, .int x9_66_3), (0, .ref h0), (1, .int x), (2, .int y)]) hx hb dX9_night_110 hl (by decide) rfl (fun ls hl => ?_)
                  refine lv_iload_n hx hb dX9_night_112 rfl (lv_at hl 3 rfl) ?_
                  refine lv_aload_n hx hb dX9_night_113 rfl (lv_at hl 4 rfl) ?_
                  refine lv_aload_n hx hb dX9_night_114 rfl (lv_at hl 4 rfl) ?_
                  refine lv_iload hx hb dX9_night_115 (lv_at hl 1 rfl) ?_
                  refine lv_i2l (v := r_16.toInt64) hx hb dX9_night_117 rfl ?_
                  have ilw_21 : (r_16.toInt64).toInt = r_16.toInt := i2l_i _
                  refine xk_i (wr := [(sw_in cT (g 4) 6 f9_66_2)]) (xr_V (n := 1) (As := [.long r_16.toInt64]) (rest := [.ref h0, .int x9_66_3]) ⟨hx, hb, hml, hown, htg⟩ hK hN hP hD hS hA [2, 0] rfl (by decide) (m_refuses l D cT _ (h0) (g) (0) (b5) (b6) (b7) (b8) (b9) (b10) (b11) (b12) (b13) (b14) (b17) (b18) (u_17) (b23) (b24) (b25) (b26) (b27) (b29) (b31) (b32) (b33) (by first | assumption | omega | decide | exact Or.inl (by decide) | (intro h9; exact absurd h9 (by decide)) | (intro _; omega) | (intro _; assumption) | (intro _; decide)) (f9_66_1) (by first | assumption | omega | decide | exact Or.inl (by decide) | (intro h9; exact absurd h9 (by decide)) | (intro _; omega) | (intro _; assumption) | (intro _; decide)) (r_16.toInt64)) wi_1416 wi_1418 wi_99 wi_131 wi_1419 rfl rfl rfl ⟨rfl, by decide +kernel⟩ ⟨Nat.le_of_ble_eq_true rfl, Nat.le_of_ble_eq_true rfl⟩ rfl hl.1 rfl (Nat.le_of_ble_eq_true rfl) dX9_night_118 ⟨Nat.le_of_ble_eq_true rfl, Nat.le_of_ble_eq_true rfl⟩) hP hD hS hA [2, 0] [1] rfl rfl (by decide) (by decide) (fun r_23 u_22 H locs hwr_23 hP hD hS => ?_)
                  obtain ⟨hP, hD⟩ : PD D A [(sw_in cT (g 4) 6 f9_66_2), (sw_9 h0 g 0 b5 b6 b7 b8 b9 b10 b11 b12 b13 b14 b17 b18 u_17 b23 b24 b25 b26 b27 b29 b31 b32 b33), (sw_in cT (g 0) 288 f9_66_1)] _ := ⟨hP, hD⟩
                  have qr_23_0 : Imp (r_23.toInt = 0) (1 ≤ (f9_66_1 6).toInt ∧ (f9_66_1 1).toInt ≤ 9998 ∧ (r_16.toInt64.toInt = 0 ∨ (r_16.toInt64.toInt = 1 ∧ 1 ≤ (f9_66_1 2).toInt) ∨ (r_16.toInt64.toInt = 2 ∧ (f9_66_1 2).toInt ≤ 14))) := hwr_23.1
                  refine lv_if_ne (tgt := 129) hx hb dX9_night_121 (by decide) (fun c_24 => ?_) (fun c_24 => ?_)
                  · have ic_24 : ¬ r_23.toInt = 0 := ine c_24 (rfl) (by decide)
                    refine lv_iconst (v := 0) hx hb dX9_night_129 (by decide) ?_
                    refine lv_iload hx hb dX9_night_130 (lv_at hl 0 rfl) ?_
                    refine xk_i (wr := []) (xr_V (n := 2) (As := [.int 0, .int 0]) (rest := [.int x9_66_3]) ⟨hx, hb, hml, hown, htg⟩ hK hN hP hD hS hA [1, 2, 0] rfl (by decide) (m_goesK l D cT _ (h0) (g) (0) (b5) (b6) (b7) (b8) (b9) (b10) (b11) (b12) (b13) (b14) (b17) (b18) (u_17) (b23) (b24) (b25) (b26) (b27) (b29) (b31) (b32) (b33) (by first | assumption | omega | decide | exact Or.inl (by decide) | (intro h9; exact absurd h9 (by decide)) | (intro _; omega) | (intro _; assumption) | (intro _; decide)) (f9_66_1) (by first | assumption | omega | decide | exact Or.inl (by decide) | (intro h9; exact absurd h9 (by decide)) | (intro _; omega) | (intro _; assumption) | (intro _; decide)) (f9_66_2) (0) (0) (by first | assumption | omega | decide | exact Or.inl (by decide) | (intro h9; exact absurd h9 (by decide)) | (intro _; omega) | (intro _; assumption) | (intro _; decide)) (by first | assumption | omega | decide | exact Or.inl (by decide) | (intro h9; exact absurd h9 (by decide)) | (intro _; omega) | (intro _; assumption) | (intro _; decide)) (by first | assumption | omega | decide | exact Or.inl (by decide) | (intro h9; exact absurd h9 (by decide)) | (intro _; omega) | (intro _; assumption) | (intro _; decide))) wi_1424 wi_1426 wi_100 wi_131 wi_1427 rfl rfl rfl ⟨rfl, by decide +kernel⟩ ⟨Nat.le_of_ble_eq_true rfl, Nat.le_of_ble_eq_true rfl⟩ rfl hl.1 rfl (Nat.le_of_ble_eq_true rfl) dX9_night_132 ⟨Nat.le_of_ble_eq_true rfl, Nat.le_of_ble_eq_true rfl⟩) hP hD hS hA [1, 2, 0] [] rfl rfl (by decide) (by decide) (fun r_26 u_25 H locs hwr_26 hP hD hS => ?_)
                    obtain ⟨hP, hD⟩ : PD D A [(sw_9 h0 g 0 b5 b6 b7 b8 b9 b10 b11 b12 b13 b14 b17 b18 u_17 b23 b24 b25 b26 b27 b29 b31 b32 b33), (sw_in cT (g 0) 288 u_25.1), (sw_in cT (g 4) 6 u_25.2)] _ := ⟨hP, hD⟩
                    have qr_26_0 : PI 288 u_25.1 := hwr_26.1
                    have qr_26_1 : KR u_25.1 f9_66_1 := hwr_26.2.1
                    have kqr_26_1 : KR u_25.1 (a0) := KR_tr qr_26_1 h9_66_2
                    have qr_26_2 : (u_25.1 1).toInt = (f9_66_1 1).toInt + 1 := hwr_26.2.2.1
                    refine lv_iadd hx hb dX9_night_135 ?_
                    refine lv_topi (fun z_27 ez_27 => ?_)
                    refine lv_istore_n (lv' := [(3, .int z_27), (6, .int 0), (5, .int r_16), (4, .int (nI k9_66)), (0, .ref h0), (1, .int x), (2, .int y)]) hx hb dX9_night_136 rfl hl (by decide) rfl (fun ls hl => ?_)
                    refine lv_iinc (v := (nI (k9_66 + 1))) (lv' := [(4, .int (nI (k9_66 + 1))), (3, .int z_27), (6, .int 0), (5, .int r_16), (0, .ref h0), (1, .int x), (2, .int y)]) hx hb dX9_night_137 hl (k := 3) rfl (by exact nI_1 (k9_66)) (by decide) rfl (fun ls hl => ?_)
                    refine lv_goto (tgt := 66) hx hb dX9_night_140 (by decide) ?_
                    exact ih_66 (k9_66 + 1) _ _ _ _ _ _ _ (by omega) (by omega) (by first | assumption | omega | decide | (simp only [ti_0, ti_1, ti_2, ti_3, ti_4, ti_5, ti_6, ti_7, ti_8, ti_9, ti_10, ti_11, ti_12, ti_m1]; omega)) (by first | assumption | omega | decide | (simp only [ti_0, ti_1, ti_2, ti_3, ti_4, ti_5, ti_6, ti_7, ti_8, ti_9, ti_10, ti_11, ti_12, ti_m1]; omega)) (by first | assumption | exact KR_rfl _) ⟨hP.sub [0, 1, 2] rfl, hD.sub [0, 1, 2] (by decide) rfl⟩ hS (lv_sub hl [0, 1, 4, 5, 6] rfl)
                  · have ic_24 : r_23.toInt = 0 := ieq c_24 (rfl) (by decide)
                    have kqr_23_0 : 1 ≤ (f9_66_1 6).toInt ∧ (f9_66_1 1).toInt ≤ 9998 ∧ (r_16.toInt64.toInt = 0 ∨ (r_16.toInt64.toInt = 1 ∧ 1 ≤ (f9_66_1 2).toInt) ∨ (r_16.toInt64.toInt = 2 ∧ (f9_66_1 2).toInt ≤ 14)) := qr_23_0 ic_24
                    refine lv_iload hx hb dX9_night_124 (lv_at hl 1 rfl) ?_
                    refine lv_goto (tgt := 130) hx hb dX9_night_126 (by decide) ?_
                    refine lv_iload hx hb dX9_night_130 (lv_at hl 0 rfl) ?_
                    refine xk_i (wr := []) (xr_V (n := 2) (As := [.int r_16, .int 0]) (rest := [.int x9_66_3]) ⟨hx, hb, hml, hown, htg⟩ hK hN hP hD hS hA [1, 2, 0] rfl (by decide) (m_goesK l D cT _ (h0) (g) (0) (b5) (b6) (b7) (b8) (b9) (b10) (b11) (b12) (b13) (b14) (b17) (b18) (u_17) (b23) (b24) (b25) (b26) (b27) (b29) (b31) (b32) (b33) (by first | assumption | omega | decide | exact Or.inl (by decide) | (intro h9; exact absurd h9 (by decide)) | (intro _; omega) | (intro _; assumption) | (intro _; decide)) (f9_66_1) (by first | assumption | omega | decide | exact Or.inl (by decide) | (intro h9; exact absurd h9 (by decide)) | (intro _; omega) | (intro _; assumption) | (intro _; decide)) (f9_66_2) (r_16) (0) (by first | assumption | omega | decide | exact Or.inl (by decide) | (intro h9; exact absurd h9 (by decide)) | (intro _; omega) | (intro _; assumption) | (intro _; decide)) (by first | assumption | omega | decide | exact Or.inl (by decide) | (intro h9; exact absurd h9 (by decide)) | (intro _; omega) | (intro _; assumption) | (intro _; decide)) (by first | assumption | omega | decide | exact Or.inl (by decide) | (intro h9; exact absurd h9 (by decide)) | (intro _; omega) | (intro _; assumption) | (intro _; decide))) wi_1424 wi_1426 wi_100 wi_131 wi_1427 rfl rfl rfl ⟨rfl, by decide +kernel⟩ ⟨Nat.le_of_ble_eq_true rfl, Nat.le_of_ble_eq_true rfl⟩ rfl hl.1 rfl (Nat.le_of_ble_eq_true rfl) dX9_night_132 ⟨Nat.le_of_ble_eq_true rfl, Nat.le_of_ble_eq_true rfl⟩) hP hD hS hA [1, 2, 0] [] rfl rfl (by decide) (by decide) (fun r_29 u_28 H locs hwr_29 hP hD hS => ?_)
                    obtain ⟨hP, hD⟩ : PD D A [(sw_9 h0 g 0 b5 b6 b7 b8 b9 b10 b11 b12 b13 b14 b17 b18 u_17 b23 b24 b25 b26 b27 b29 b31 b32 b33), (sw_in cT (g 0) 288 u_28.1), (sw_in cT (g 4) 6 u_28.2)] _ := ⟨hP, hD⟩
                    have qr_29_0 : PI 288 u_28.1 := hwr_29.1
                    have qr_29_1 : KR u_28.1 f9_66_1 := hwr_29.2.1
                    have kqr_29_1 : KR u_28.1 (a0) := KR_tr qr_29_1 h9_66_2
                    have qr_29_2 : (u_28.1 1).toInt = (f9_66_1 1).toInt + 1 := hwr_29.2.2.1
                    refine lv_iadd hx hb dX9_night_135 ?_
                    refine lv_topi (fun z_30 ez_30 => ?_)
                    refine lv_istore_n (lv' := [(3, .int z_30), (6, .int 0), (5, .int r_16), (4, .int (nI k9_66)), (0, .ref h0), (1, .int x), (2, .int y)]) hx hb dX9_night_136 rfl hl (by decide) rfl (fun ls hl => ?_)
                    refine lv_iinc (v := (nI (k9_66 + 1))) (lv' := [(4, .int (nI (k9_66 + 1))), (3, .int z_30), (6, .int 0), (5, .int r_16), (0, .ref h0), (1, .int x), (2, .int y)]) hx hb dX9_night_137 hl (k := 3) rfl (by exact nI_1 (k9_66)) (by decide) rfl (fun ls hl => ?_)
                    refine lv_goto (tgt := 66) hx hb dX9_night_140 (by decide) ?_
                    exact ih_66 (k9_66 + 1) _ _ _ _ _ _ _ (by omega) (by omega) (by first | assumption | omega | decide | (simp only [ti_0, ti_1, ti_2, ti_3, ti_4, ti_5, ti_6, ti_7, ti_8, ti_9, ti_10, ti_11, ti_12, ti_m1]; omega)) (by first | assumption | omega | decide | (simp only [ti_0, ti_1, ti_2, ti_3, ti_4, ti_5, ti_6, ti_7, ti_8, ti_9, ti_10, ti_11, ti_12, ti_m1]; omega)) (by first | assumption | exact KR_rfl _) ⟨hP.sub [0, 1, 2] rfl, hD.sub [0, 1, 2] (by decide) rfl⟩ hS (lv_sub hl [0, 1, 4, 5, 6] rfl)
                · have ic_20 : r_18.toInt < z_19.toInt := inle c_20 (rfl) (rfl)
                  refine lv_iconst (v := 1) hx hb dX9_night_105 (by decide) ?_
                  refine lv_goto (tgt := 110) hx hb dX9_night_106 (by decide) ?_
                  refine lv_istore (lv' := [(6, .int 1), (5, .int r_16), (4, .int (nI k9_66)), (3, .int x9_66_3), (0, .ref h0), (1, .int x), (2, .int y)]) hx hb dX9_night_110 hl (by decide) rfl (fun ls hl => ?_)
                  refine lv_iload_n hx hb dX9_night_112 rfl (lv_at hl 3 rfl) ?_
                  refine lv_aload_n hx hb dX9_night_113 rfl (lv_at hl 4 rfl) ?_
                  refine lv_aload_n hx hb dX9_night_114 rfl (lv_at hl 4 rfl) ?_
                  refine lv_iload hx hb dX9_night_115 (lv_at hl 1 rfl) ?_
                  refine lv_i2l (v := r_16.toInt64) hx hb dX9_night_117 rfl ?_
                  have ilw_31 : (r_16.toInt64).toInt = r_16.toInt := i2l_i _
                  refine xk_i (wr := [(sw_in cT (g 4) 6 f9_66_2)]) (xr_V (n := 1) (As := [.long r_16.toInt64]) (rest := [.ref h0, .int x9_66_3]) ⟨hx, hb, hml, hown, htg⟩ hK hN hP hD hS hA [2, 0] rfl (by decide) (m_refuses l D cT _ (h0) (g) (0) (b5) (b6) (b7) (b8) (b9) (b10) (b11) (b12) (b13) (b14) (b17) (b18) (u_17) (b23) (b24) (b25) (b26) (b27) (b29) (b31) (b32) (b33) (by first | assumption | omega | decide | exact Or.inl (by decide) | (intro h9; exact absurd h9 (by decide)) | (intro _; omega) | (intro _; assumption) | (intro _; decide)) (f9_66_1) (by first | assumption | omega | decide | exact Or.inl (by decide) | (intro h9; exact absurd h9 (by decide)) | (intro _; omega) | (intro _; assumption) | (intro _; decide)) (r_16.toInt64)) wi_1416 wi_1418 wi_99 wi_131 wi_1419 rfl rfl rfl ⟨rfl, by decide +kernel⟩ ⟨Nat.le_of_ble_eq_true rfl, Nat.le_of_ble_eq_true rfl⟩ rfl hl.1 rfl (Nat.le_of_ble_eq_true rfl) dX9_night_118 ⟨Nat.le_of_ble_eq_true rfl, Nat.le_of_ble_eq_true rfl⟩) hP hD hS hA [2, 0] [1] rfl rfl (by decide) (by decide) (fun r_33 u_32 H locs hwr_33 hP hD hS => ?_)
                  obtain ⟨hP, hD⟩ : PD D A [(sw_in cT (g 4) 6 f9_66_2), (sw_9 h0 g 0 b5 b6 b7 b8 b9 b10 b11 b12 b13 b14 b17 b18 u_17 b23 b24 b25 b26 b27 b29 b31 b32 b33), (sw_in cT (g 0) 288 f9_66_1)] _ := ⟨hP, hD⟩
                  have qr_33_0 : Imp (r_33.toInt = 0) (1 ≤ (f9_66_1 6).toInt ∧ (f9_66_1 1).toInt ≤ 9998 ∧ (r_16.toInt64.toInt = 0 ∨ (r_16.toInt64.toInt = 1 ∧ 1 ≤ (f9_66_1 2).toInt) ∨ (r_16.toInt64.toInt = 2 ∧ (f9_66_1 2).toInt ≤ 14))) := hwr_33.1
                  refine lv_if_ne (tgt := 129) hx hb dX9_night_121 (by decide) (fun c_34 => ?_) (fun c_34 => ?_)
                  · have ic_34 : ¬ r_33.toInt = 0 := ine c_34 (rfl) (by decide)
                    refine lv_iconst (v := 0) hx hb dX9_night_129 (by decide) ?_
                    refine lv_iload hx hb dX9_night_130 (lv_at hl 0 rfl) ?_
                    refine xk_i (wr := []) (xr_V (n := 2) (As := [.int 0, .int 1]) (rest := [.int x9_66_3]) ⟨hx, hb, hml, hown, htg⟩ hK hN hP hD hS hA [1, 2, 0] rfl (by decide) (m_goesK l D cT _ (h0) (g) (0) (b5) (b6) (b7) (b8) (b9) (b10) (b11) (b12) (b13) (b14) (b17) (b18) (u_17) (b23) (b24) (b25) (b26) (b27) (b29) (b31) (b32) (b33) (by first | assumption | omega | decide | exact Or.inl (by decide) | (intro h9; exact absurd h9 (by decide)) | (intro _; omega) | (intro _; assumption) | (intro _; decide)) (f9_66_1) (by first | assumption | omega | decide | exact Or.inl (by decide) | (intro h9; exact absurd h9 (by decide)) | (intro _; omega) | (intro _; assumption) | (intro _; decide)) (f9_66_2) (0) (1) (by first | assumption | omega | decide | exact Or.inl (by decide) | (intro h9; exact absurd h9 (by decide)) | (intro _; omega) | (intro _; assumption) | (intro _; decide)) (by first | assumption | omega | decide | exact Or.inl (by decide) | (intro h9; exact absurd h9 (by decide)) | (intro _; omega) | (intro _; assumption) | (intro _; decide)) (by first | assumption | omega | decide | exact Or.inl (by decide) | (intro h9; exact absurd h9 (by decide)) | (intro _; omega) | (intro _; assumption) | (intro _; decide))) wi_1424 wi_1426 wi_100 wi_131 wi_1427 rfl rfl rfl ⟨rfl, by decide +kernel⟩ ⟨Nat.le_of_ble_eq_true rfl, Nat.le_of_ble_eq_true rfl⟩ rfl hl.1 rfl (Nat.le_of_ble_eq_true rfl) dX9_night_132 ⟨Nat.le_of_ble_eq_true rfl, Nat.le_of_ble_eq_true rfl⟩) hP hD hS hA [1, 2, 0] [] rfl rfl (by decide) (by decide) (fun r_36 u_35 H locs hwr_36 hP hD hS => ?_)
                    obtain ⟨hP, hD⟩ : PD D A [(sw_9 h0 g 0 b5 b6 b7 b8 b9 b10 b11 b12 b13 b14 b17 b18 u_17 b23 b24 b25 b26 b27 b29 b31 b32 b33), (sw_in cT (g 0) 288 u_35.1), (sw_in cT (g 4) 6 u_35.2)] _ := ⟨hP, hD⟩
                    have qr_36_0 : PI 288 u_35.1 := hwr_36.1
                    have qr_36_1 : KR u_35.1 f9_66_1 := hwr_36.2.1
                    have kqr_36_1 : KR u_35.1 (a0) := KR_tr qr_36_1 h9_66_2
                    have qr_36_2 : (u_35.1 1).toInt = (f9_66_1 1).toInt + 1 := hwr_36.2.2.1
                    refine lv_iadd hx hb dX9_night_135 ?_
                    refine lv_topi (fun z_37 ez_37 => ?_)
                    refine lv_istore_n (lv' := [(3, .int z_37), (6, .int 1), (5, .int r_16), (4, .int (nI k9_66)), (0, .ref h0), (1, .int x), (2, .int y)]) hx hb dX9_night_136 rfl hl (by decide) rfl (fun ls hl => ?_)
                    refine lv_iinc (v := (nI (k9_66 + 1))) (lv' := [(4, .int (nI (k9_66 + 1))), (3, .int z_37), (6, .int 1), (5, .int r_16), (0, .ref h0), (1, .int x), (2, .int y)]) hx hb dX9_night_137 hl (k := 3) rfl (by exact nI_1 (k9_66)) (by decide) rfl (fun ls hl => ?_)
                    refine lv_goto (tgt := 66) hx hb dX9_night_140 (by decide) ?_
                    exact ih_66 (k9_66 + 1) _ _ _ _ _ _ _ (by omega) (by omega) (by first | assumption | omega | decide | (simp only [ti_0, ti_1, ti_2, ti_3, ti_4, ti_5, ti_6, ti_7, ti_8, ti_9, ti_10, ti_11, ti_12, ti_m1]; omega)) (by first | assumption | omega | decide | (simp only [ti_0, ti_1, ti_2, ti_3, ti_4, ti_5, ti_6, ti_7, ti_8, ti_9, ti_10, ti_11, ti_12, ti_m1]; omega)) (by first | assumption | exact KR_rfl _) ⟨hP.sub [0, 1, 2] rfl, hD.sub [0, 1, 2] (by decide) rfl⟩ hS (lv_sub hl [0, 1, 4, 5, 6] rfl)
                  · have ic_34 : r_33.toInt = 0 := ieq c_34 (rfl) (by decide)
                    have kqr_33_0 : 1 ≤ (f9_66_1 6).toInt ∧ (f9_66_1 1).toInt ≤ 9998 ∧ (r_16.toInt64.toInt = 0 ∨ (r_16.toInt64.toInt = 1 ∧ 1 ≤ (f9_66_1 2).toInt) ∨ (r_16.toInt64.toInt = 2 ∧ (f9_66_1 2).toInt ≤ 14)) := qr_33_0 ic_34
                    refine lv_iload hx hb dX9_night_124 (lv_at hl 1 rfl) ?_
                    refine lv_goto (tgt := 130) hx hb dX9_night_126 (by decide) ?_
                    refine lv_iload hx hb dX9_night_130 (lv_at hl 0 rfl) ?_
                    refine xk_i (wr := []) (xr_V (n := 2) (As := [.int r_16, .int 1]) (rest := [.int x9_66_3]) ⟨hx, hb, hml, hown, htg⟩ hK hN hP hD hS hA [1, 2, 0] rfl (by decide) (m_goesK l D cT _ (h0) (g) (0) (b5) (b6) (b7) (b8) (b9) (b10) (b11) (b12) (b13) (b14) (b17) (b18) (u_17) (b23) (b24) (b25) (b26) (b27) (b29) (b31) (b32) (b33) (by first | assumption | omega | decide | exact Or.inl (by decide) | (intro h9; exact absurd h9 (by decide)) | (intro _; omega) | (intro _; assumption) | (intro _; decide)) (f9_66_1) (by first | assumption | omega | decide | exact Or.inl (by decide) | (intro h9; exact absurd h9 (by decide)) | (intro _; omega) | (intro _; assumption) | (intro _; decide)) (f9_66_2) (r_16) (1) (by first | assumption | omega | decide | exact Or.inl (by decide) | (intro h9; exact absurd h9 (by decide)) | (intro _; omega) | (intro _; assumption) | (intro _; decide)) (by first | assumption | omega | decide | exact Or.inl (by decide) | (intro h9; exact absurd h9 (by decide)) | (intro _; omega) | (intro _; assumption) | (intro _; decide)) (by first | assumption | omega | decide | exact Or.inl (by decide) | (intro h9; exact absurd h9 (by decide)) | (intro _; omega) | (intro _; assumption) | (intro _; decide))) wi_1424 wi_1426 wi_100 wi_131 wi_1427 rfl rfl rfl ⟨rfl, by decide +kernel⟩ ⟨Nat.le_of_ble_eq_true rfl, Nat.le_of_ble_eq_true rfl⟩ rfl hl.1 rfl (Nat.le_of_ble_eq_true rfl) dX9_night_132 ⟨Nat.le_of_ble_eq_true rfl, Nat.le_of_ble_eq_true rfl⟩) hP hD hS hA [1, 2, 0] [] rfl rfl (by decide) (by decide) (fun r_39 u_38 H locs hwr_39 hP hD hS => ?_)
                    obtain ⟨hP, hD⟩ : PD D A [(sw_9 h0 g 0 b5 b6 b7 b8 b9 b10 b11 b12 b13 b14 b17 b18 u_17 b23 b24 b25 b26 b27 b29 b31 b32 b33), (sw_in cT (g 0) 288 u_38.1), (sw_in cT (g 4) 6 u_38.2)] _ := ⟨hP, hD⟩
                    have qr_39_0 : PI 288 u_38.1 := hwr_39.1
                    have qr_39_1 : KR u_38.1 f9_66_1 := hwr_39.2.1
                    have kqr_39_1 : KR u_38.1 (a0) := KR_tr qr_39_1 h9_66_2
                    have qr_39_2 : (u_38.1 1).toInt = (f9_66_1 1).toInt + 1 := hwr_39.2.2.1
                    refine lv_iadd hx hb dX9_night_135 ?_
                    refine lv_topi (fun z_40 ez_40 => ?_)
                    refine lv_istore_n (lv' := [(3, .int z_40), (6, .int 1), (5, .int r_16), (4, .int (nI k9_66)), (0, .ref h0), (1, .int x), (2, .int y)]) hx hb dX9_night_136 rfl hl (by decide) rfl (fun ls hl => ?_)
                    refine lv_iinc (v := (nI (k9_66 + 1))) (lv' := [(4, .int (nI (k9_66 + 1))), (3, .int z_40), (6, .int 1), (5, .int r_16), (0, .ref h0), (1, .int x), (2, .int y)]) hx hb dX9_night_137 hl (k := 3) rfl (by exact nI_1 (k9_66)) (by decide) rfl (fun ls hl => ?_)
                    refine lv_goto (tgt := 66) hx hb dX9_night_140 (by decide) ?_
                    exact ih_66 (k9_66 + 1) _ _ _ _ _ _ _ (by omega) (by omega) (by first | assumption | omega | decide | (simp only [ti_0, ti_1, ti_2, ti_3, ti_4, ti_5, ti_6, ti_7, ti_8, ti_9, ti_10, ti_11, ti_12, ti_m1]; omega)) (by first | assumption | omega | decide | (simp only [ti_0, ti_1, ti_2, ti_3, ti_4, ti_5, ti_6, ti_7, ti_8, ti_9, ti_10, ti_11, ti_12, ti_m1]; omega)) (by first | assumption | exact KR_rfl _) ⟨hP.sub [0, 1, 2] rfl, hD.sub [0, 1, 2] (by decide) rfl⟩ hS (lv_sub hl [0, 1, 4, 5, 6] rfl)
        · have ic_11 : 9999 < z_10.toInt := inle c_11 (rfl) (by decide)
          refine lv_bipush (v := (-5)) hx hb dX9_night_53 (by decide) ?_
          exact x_iret hx hb hr hlk hP hD hS [0, 1, 2] ((0, b19, a0, a4)) rfl (by decide) ⟨by (try dsimp only); first | assumption | omega | decide | exact Or.inl (by decide) | (intro h9; exact absurd h9 (by decide)) | (intro _; omega) | (intro _; assumption) | (intro _; decide), by (try dsimp only); first | assumption | exact KR_rfl _, trivial⟩ (by decide) (by decide) dX9_night_55
  · have ic_4 : r_3.toInt = 0 := ieq c_4 (rfl) (by decide)
    refine lv_bipush (v := (-3)) hx hb dX9_night_17 (by decide) ?_
    exact x_iret hx hb hr hlk hP hD hS [0, 1, 2] ((0, b19, a0, a4)) rfl (by decide) ⟨by (try dsimp only); first | assumption | omega | decide | exact Or.inl (by decide) | (intro h9; exact absurd h9 (by decide)) | (intro _; omega) | (intro _; assumption) | (intro _; decide), by (try dsimp only); first | assumption | exact KR_rfl _, trivial⟩ (by decide) (by decide) dX9_night_19
