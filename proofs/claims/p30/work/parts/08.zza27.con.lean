set_option maxHeartbeats 4000000 in
set_option maxRecDepth 100000 in
theorem g_lookX (l : Launch) (D : va_G) (cT : Nat → ClassId) (sz : Nat) (h0 : Nat) (b0 : Nat) (b1 : Nat) (c0 : Nat → Int32) (c1 : Nat → Int32) (h1 : Nat) (a : Nat → Nat) (p0 : Int32) (p1 : Int32) (p2 : Int32) (p3 : Int32) (p4 : Int32) (p5 : Int32) (p6 : Int32) (p7 : Int32) (p8 : Int32) (p9 : Int32) (hs : 0 ≤ p0.toInt ∧ p0.toInt ≤ 16) (f2 : Nat → Int32) : Met l yX0_look (wsc yX0_look cX0_look 4 none) { frames := 5, cells := 0, slots := 0, locals := 171 } (va_Pc [.ref h0, .ref h1] (PX D cT sz [(sw_0 h0 b0 b1), (sw_in cT b0 16 c0), (sw_in cT b1 16 c1), (sw_3 h1 p0 p1 p2 p3 p4 p5 p6 p7 p8 p9 (a 0) (a 1) (a 2) (a 3) (a 4) (a 5)), (sw_in cT (a 2) 16 f2)])) (va_Qv (fun (u : (Nat → Int32) × (Nat → Int32)) => (∀ o : Nat, o < p0.toInt.toNat → u.1 o = litR f2 p4 p5 p6 (o : Int) p0.toInt.toNat) ∧ (LTR u.1 u.2 p0.toInt.toNat) ∧ (True)) (fun u t => RW D (va_A [(sw_0 h0 b0 b1), (sw_in cT b0 16 c0), (sw_in cT b1 16 c1), (sw_3 h1 p0 p1 p2 p3 p4 p5 p6 p7 p8 p9 (a 0) (a 1) (a 2) (a 3) (a 4) (a 5)), (sw_in cT (a 2) 16 f2)] sz) ((fun u : (Nat → Int32) × (Nat → Int32) => [(sw_0 h0 b0 b1), (sw_in cT b0 16 u.1), (sw_in cT b1 16 u.2), (sw_3 h1 p0 p1 p2 p3 p4 p5 p6 p7 p8 p9 (a 0) (a 1) (a 2) (a 3) (a 4) (a 5)), (sw_in cT (a 2) 16 f2)]) u) t) (va_A [(sw_0 h0 b0 b1), (sw_in cT b0 16 c0), (sw_in cT b1 16 c1), (sw_3 h1 p0 p1 p2 p3 p4 p5 p6 p7 p8 p9 (a 0) (a 1) (a 2) (a 3) (a 4) (a 5)), (sw_in cT (a 2) 16 f2)] sz)) 0 0 (va_A [(sw_0 h0 b0 b1), (sw_in cT b0 16 c0), (sw_in cT b1 16 c1), (sw_3 h1 p0 p1 p2 p3 p4 p5 p6 p7 p8 p9 (a 0) (a 1) (a 2) (a 3) (a 4) (a 5)), (sw_in cT (a 2) 16 f2)] sz) := by
  refine m_of (y := yX0_look) (cc := cX0_look) (nL := 4) (ret := none) (D := D) (cT := cT) (av := [.ref h0, .ref h1]) (wi := [(sw_0 h0 b0 b1), (sw_in cT b0 16 c0), (sw_in cT b1 16 c1), (sw_3 h1 p0 p1 p2 p3 p4 p5 p6 p7 p8 p9 (a 0) (a 1) (a 2) (a 3) (a 4) (a 5)), (sw_in cT (a 2) 16 f2)]) (fun A => va_Qv (fun (u : (Nat → Int32) × (Nat → Int32)) => (∀ o : Nat, o < p0.toInt.toNat → u.1 o = litR f2 p4 p5 p6 (o : Int) p0.toInt.toNat) ∧ (LTR u.1 u.2 p0.toInt.toNat) ∧ (True)) (fun u t => RW D A ((fun u : (Nat → Int32) × (Nat → Int32) => [(sw_0 h0 b0 b1), (sw_in cT b0 16 u.1), (sw_in cT b1 16 u.2), (sw_3 h1 p0 p1 p2 p3 p4 p5 p6 p7 p8 p9 (a 0) (a 1) (a 2) (a 3) (a 4) (a 5)), (sw_in cT (a 2) 16 f2)]) u) t) A) (by decide) (Nat.le_of_ble_eq_true rfl) ?_
  intro p e s m below meth c A hx hb hml hown htg hK hN hr hlk hnm hsz hP hD hS hA ls hl
  have hown : s.vm.findClass RX0 = some m.cls := hown
  have hl : lv_has ls 4 [(0, .ref h0), (1, .ref h1)] := hl
  have t9_0 : (0 : Int32).toInt = 0 := by decide
  have t9_1 : (1 : Int32).toInt = 1 := by decide
  refine lv_aload_n hx hb dX0_look_0 rfl (lv_at hl 0 rfl) ?_
  refine va_get (D := D) (ci := 0) (v := .ref b1) (C := RX0) (T := TX0) (N := 2) hx hb htg gRX0 hown hK hP 0 rfl rfl 1 (by decide) (htg _ wi_440) (fun _ h9 => h9) rfl dX0_look_1 ?_
  refine lv_iconst (v := 0) hx hb dX0_look_4 (by decide) ?_
  refine xk_v (wr := [(sw_0 h0 b0 b1), (sw_in cT b0 16 c0), (sw_3 h1 p0 p1 p2 p3 p4 p5 p6 p7 p8 p9 (a 0) (a 1) (a 2) (a 3) (a 4) (a 5)), (sw_in cT (a 2) 16 f2)]) (xr_S (n := 2) (As := [.ref b1, .int 0]) (rest := []) ⟨hx, hb, hml, hown, htg⟩ hK hN hP hD hS hA [2] rfl (by decide) (g_fillI16 l D cT _ (b1) (c1) (0)) wi_1020 wi_164 wi_124 wi_165 ⟨rfl, by decide +kernel⟩ ⟨Nat.le_of_ble_eq_true rfl, Nat.le_of_ble_eq_true rfl⟩ rfl hl.1 rfl (Nat.le_of_ble_eq_true rfl) dX0_look_5 ⟨Nat.le_of_ble_eq_true rfl, Nat.le_of_ble_eq_true rfl⟩) hP hD hS hA [2] [0, 1, 3, 4] rfl rfl (by decide) (by decide) (fun u_1 H locs hwr_2 hP hD hS => ?_)
  obtain ⟨hP, hD⟩ : PD D A [(sw_0 h0 b0 b1), (sw_in cT b0 16 c0), (sw_3 h1 p0 p1 p2 p3 p4 p5 p6 p7 p8 p9 (a 0) (a 1) (a 2) (a 3) (a 4) (a 5)), (sw_in cT (a 2) 16 f2), (sw_in cT b1 16 (fillF (c1) 16 (0)))] _ := ⟨hP, hD⟩
  refine lv_iconst (v := 0) hx hb dX0_look_8 (by decide) ?_
  refine lv_istore_n (lv' := [(2, .int 0), (0, .ref h0), (1, .ref h1)]) hx hb dX0_look_9 rfl hl (by decide) rfl (fun ls hl => ?_)
  have hF0 : ∀ o : Nat, o < 0 → (c0) o = litR f2 p4 p5 p6 (o : Int) p0.toInt.toNat := fun o h => absurd h (by omega)
  have hL0 : LK (c0) (fillF (c1) 16 (0)) p0.toInt.toNat 0 0 := LK_0 _ (fun t ht => by unfold fillF; rw [if_pos (by omega)])
  refine (fun (key : ∀ (n9_10 : Nat) (k9_10 : Nat) (f9_10_0 : Nat → Int32) (f9_10_1 : Nat → Int32) (H : Heap) (locs : List Loc) (ls : Array Slot), (k9_10 : Int) ≤ p0.toInt → p0.toInt < (k9_10 : Int) + n9_10 → (∀ o : Nat, o < k9_10 → f9_10_0 o = litR f2 p4 p5 p6 (o : Int) p0.toInt.toNat) → LK f9_10_0 f9_10_1 p0.toInt.toNat k9_10 0 → PD D A [(sw_0 h0 b0 b1), (sw_in cT b0 16 f9_10_0), (sw_3 h1 p0 p1 p2 p3 p4 p5 p6 p7 p8 p9 (a 0) (a 1) (a 2) (a 3) (a 4) (a 5)), (sw_in cT (a 2) 16 f2), (sw_in cT b1 16 f9_10_1)] H → va_S A s.heap H locs → lv_has ls 4 [(2, .int (nI k9_10)), (0, .ref h0), (1, .ref h1)] → W p l e _ s m _ below meth c H locs _ _ _ (F0 m 10 ls [])) => key (Int.toNat (p0.toInt - 0) + 1) 0 _ _ _ _ _ (by omega) (by omega) (by first | assumption | omega | decide | (simp only [ti_0, ti_1, ti_2, ti_3, ti_4, ti_5, ti_6, ti_7, ti_8, ti_9, ti_10, ti_11, ti_12, ti_m1]; omega)) (by first | assumption | omega | decide | (simp only [ti_0, ti_1, ti_2, ti_3, ti_4, ti_5, ti_6, ti_7, ti_8, ti_9, ti_10, ti_11, ti_12, ti_m1]; omega)) ⟨hP, hD⟩ hS (lv_sub hl [0, 1, 2] rfl)) ?_
  intro n9_10
  induction n9_10 with
  | zero => intro k9_10 f9_10_0 f9_10_1 H locs ls hq1 hq2; exact absurd hq2 (by omega)
  | succ n9_10 ih_10 =>
    intro k9_10 f9_10_0 f9_10_1 H locs ls hq1_10 hq2_10 h9_10_0 h9_10_1 hPD hS hl
    obtain ⟨hP, hD⟩ := hPD
    have hk9_10 : (nI k9_10).toInt = (k9_10 : Int) := nI_toInt (by omega)
    refine lv_iload_n hx hb dX0_look_10 rfl (lv_at hl 0 rfl) ?_
    refine lv_aload_n hx hb dX0_look_11 rfl (lv_at hl 2 rfl) ?_
    refine va_getN (D := D) (ci := 3) (v := .int p0) (C := RX3) (T := TX3) (N := 16) hx hb htg gRX3 hown hK hP 2 rfl rfl 0 (by decide) (va_Nw.use rfl (hN.1 _ ni_168)) (fun _ h9 => h9) rfl dX0_look_12 ?_
    refine lv_icmp_ge (tgt := 72) hx hb dX0_look_15 (by decide) (fun c_3 => ?_) (fun c_3 => ?_)
    · have ic_3 : p0.toInt ≤ ((k9_10 : Nat) : Int) := ile c_3 (rfl) (nI_toInt (by omega))
      exact x_vret hx hb hr hlk hP hD hS [0, 1, 4, 2, 3] ((f9_10_0, f9_10_1)) rfl (by decide) ⟨(fun o ho => h9_10_0 o (by omega)), (by have h7 := h9_10_1; rw [show k9_10 = p0.toInt.toNat from by omega] at h7; exact LK_ltr h7), trivial⟩ (by decide) (by decide) dX0_look_72
    · have ic_3 : ((k9_10 : Nat) : Int) < p0.toInt := inle c_3 (rfl) (nI_toInt (by omega))
      refine lv_aload_n hx hb dX0_look_18 rfl (lv_at hl 1 rfl) ?_
      refine va_get (D := D) (ci := 0) (v := .ref b0) (C := RX0) (T := TX0) (N := 2) hx hb htg gRX0 hown hK hP 0 rfl rfl 0 (by decide) (htg _ wi_439) (fun _ h9 => h9) rfl dX0_look_19 ?_
      refine lv_iload_n hx hb dX0_look_22 rfl (lv_at hl 0 rfl) ?_
      refine lv_aload_n hx hb dX0_look_23 rfl (lv_at hl 2 rfl) ?_
      refine lv_iload_n hx hb dX0_look_24 rfl (lv_at hl 0 rfl) ?_
      refine xk_i (wr := [(sw_0 h0 b0 b1), (sw_in cT b0 16 f9_10_0), (sw_in cT b1 16 f9_10_1)]) (xr_VN (n := 1) (As := [.int (nI k9_10)]) (rest := [.int (nI k9_10), .ref b0]) ⟨hx, hb, hml, hown, htg⟩ hK hN hP hD hS hA [2, 3] rfl (by decide) (g_litFromX l D cT _ (h1) (a) (p0) (p1) (p2) (p3) (p4) (p5) (p6) (p7) (p8) (p9) (by first | assumption | decide | omega | (simp only [ti_0, ti_1, ti_2, ti_3, ti_4, ti_5, ti_6, ti_7, ti_8, ti_9, ti_10, ti_11, ti_12, ti_m1]; omega)) ((nI k9_10)) (by first | assumption | decide | omega | (simp only [ti_0, ti_1, ti_2, ti_3, ti_4, ti_5, ti_6, ti_7, ti_8, ti_9, ti_10, ti_11, ti_12, ti_m1]; omega)) (f2)) ni_1021 wi_710 wi_24 wi_123 wi_711 rfl rfl rfl ⟨rfl, by decide +kernel⟩ ⟨Nat.le_of_ble_eq_true rfl, Nat.le_of_ble_eq_true rfl⟩ rfl hl.1 rfl (Nat.le_of_ble_eq_true rfl) dX0_look_25 ⟨Nat.le_of_ble_eq_true rfl, Nat.le_of_ble_eq_true rfl⟩) hP hD hS hA [2, 3] [0, 1, 4] rfl rfl (by decide) (by decide) (fun r_5 u_4 H locs hwr_5 hP hD hS => ?_)
      obtain ⟨hP, hD⟩ : PD D A [(sw_0 h0 b0 b1), (sw_in cT b0 16 f9_10_0), (sw_in cT b1 16 f9_10_1), (sw_3 h1 p0 p1 p2 p3 p4 p5 p6 p7 p8 p9 (a 0) (a 1) (a 2) (a 3) (a 4) (a 5)), (sw_in cT (a 2) 16 f2)] _ := ⟨hP, hD⟩
      have qr_5_0 : r_5 = litR f2 p4 p5 p6 (nI k9_10).toInt p0.toInt.toNat := hwr_5.1
      refine va_iast hx hb hK hP hD hS 1 0 rfl rfl (vp_in_nI (by omega) (by omega)) dX0_look_28 (fun H locs hP hD hS => ?_)
      obtain ⟨f_6, ef_6, hP, hD⟩ : ∃ f_6 : Nat → Int32, f_6 = upd (f9_10_0) ((nI k9_10) : Int32).toNatClampNeg r_5 ∧ PD D A [(sw_0 h0 b0 b1), (sw_in cT b0 16 f_6), (sw_in cT b1 16 f9_10_1), (sw_3 h1 p0 p1 p2 p3 p4 p5 p6 p7 p8 p9 (a 0) (a 1) (a 2) (a 3) (a 4) (a 5)), (sw_in cT (a 2) 16 f2)] H := ⟨_, rfl, hP, hD⟩
      refine lv_iconst (v := 0) hx hb dX0_look_29 (by decide) ?_
      refine lv_istore_n (lv' := [(3, .int 0), (2, .int (nI k9_10)), (0, .ref h0), (1, .ref h1)]) hx hb dX0_look_30 rfl hl (by decide) rfl (fun ls hl => ?_)
      have hM0 : LK (f_6) (f9_10_1) p0.toInt.toNat k9_10 0 := LK_up h9_10_1 (fun i hi => by rw [ef_6]; exact upd_no (by rw [hk9_10]; omega) (by rw [hk9_10]; omega))
      refine (fun (key : ∀ (n9_31 : Nat) (k9_31 : Nat) (f9_31_0 : Nat → Int32) (H : Heap) (locs : List Loc) (ls : Array Slot), (k9_31 : Int) ≤ p0.toInt → p0.toInt < (k9_31 : Int) + n9_31 → LK (f_6) f9_31_0 p0.toInt.toNat k9_10 k9_31 → PD D A [(sw_0 h0 b0 b1), (sw_in cT b0 16 f_6), (sw_in cT b1 16 f9_31_0), (sw_3 h1 p0 p1 p2 p3 p4 p5 p6 p7 p8 p9 (a 0) (a 1) (a 2) (a 3) (a 4) (a 5)), (sw_in cT (a 2) 16 f2)] H → va_S A s.heap H locs → lv_has ls 4 [(3, .int (nI k9_31)), (2, .int (nI k9_10)), (0, .ref h0), (1, .ref h1)] → W p l e _ s m _ below meth c H locs _ _ _ (F0 m 31 ls [])) => key (Int.toNat (p0.toInt - 0) + 1) 0 _ _ _ _ (by omega) (by omega) (by first | assumption | omega | decide | (simp only [ti_0, ti_1, ti_2, ti_3, ti_4, ti_5, ti_6, ti_7, ti_8, ti_9, ti_10, ti_11, ti_12, ti_m1]; omega)) ⟨hP, hD⟩ hS (lv_sub hl [0, 1, 2, 3] rfl)) ?_
      intro n9_31
      induction n9_31 with
      | zero => intro k9_31 f9_31_0 H locs ls hq1 hq2; exact absurd hq2 (by omega)
      | succ n9_31 ih_31 =>
        intro k9_31 f9_31_0 H locs ls hq1_31 hq2_31 h9_31_0 hPD hS hl
        obtain ⟨hP, hD⟩ := hPD
        have hk9_31 : (nI k9_31).toInt = (k9_31 : Int) := nI_toInt (by omega)
        refine lv_iload_n hx hb dX0_look_31 rfl (lv_at hl 0 rfl) ?_
        refine lv_aload_n hx hb dX0_look_32 rfl (lv_at hl 3 rfl) ?_
        refine va_getN (D := D) (ci := 3) (v := .int p0) (C := RX3) (T := TX3) (N := 16) hx hb htg gRX3 hown hK hP 3 rfl rfl 0 (by decide) (va_Nw.use rfl (hN.1 _ ni_168)) (fun _ h9 => h9) rfl dX0_look_33 ?_
        refine lv_icmp_ge (tgt := 66) hx hb dX0_look_36 (by decide) (fun c_7 => ?_) (fun c_7 => ?_)
        · have ic_7 : p0.toInt ≤ ((k9_31 : Nat) : Int) := ile c_7 (rfl) (nI_toInt (by omega))
          refine lv_iinc (v := (nI (k9_10 + 1))) (lv' := [(2, .int (nI (k9_10 + 1))), (3, .int (nI k9_31)), (0, .ref h0), (1, .ref h1)]) hx hb dX0_look_66 hl (k := 1) rfl (by exact nI_1 (k9_10)) (by decide) rfl (fun ls hl => ?_)
          refine lv_goto (tgt := 10) hx hb dX0_look_69 (by decide) ?_
          have hF1 : ∀ o : Nat, o < k9_10 + 1 → (f_6) o = litR f2 p4 p5 p6 (o : Int) p0.toInt.toNat := fun o h => by rw [ef_6]; rcases (show o < k9_10 ∨ o = k9_10 from by omega) with q | q; rw [upd_no (by rw [hk9_10]; omega) (by rw [hk9_10]; omega)]; exact h9_10_0 o q; rw [upd_at2 (by rw [hk9_10]; omega), qr_5_0, hk9_10, q]
          have hL1 : LK (f_6) (f9_31_0) p0.toInt.toNat (k9_10 + 1) 0 := LK_end h9_31_0 (by omega)
          exact ih_10 (k9_10 + 1) _ _ _ _ _ (by omega) (by omega) (by first | assumption | omega | decide | (simp only [ti_0, ti_1, ti_2, ti_3, ti_4, ti_5, ti_6, ti_7, ti_8, ti_9, ti_10, ti_11, ti_12, ti_m1]; omega)) (by first | assumption | omega | decide | (simp only [ti_0, ti_1, ti_2, ti_3, ti_4, ti_5, ti_6, ti_7, ti_8, ti_9, ti_10, ti_11, ti_12, ti_m1]; omega)) ⟨hP.sub [0, 1, 3, 4, 2] rfl, hD.sub [0, 1, 3, 4, 2] (by decide) rfl⟩ hS (lv_sub hl [0, 2, 3] rfl)
        · have ic_7 : ((k9_31 : Nat) : Int) < p0.toInt := inle c_7 (rfl) (nI_toInt (by omega))
          refine lv_aload_n hx hb dX0_look_39 rfl (lv_at hl 2 rfl) ?_
          refine va_get (D := D) (ci := 0) (v := .ref b1) (C := RX0) (T := TX0) (N := 2) hx hb htg gRX0 hown hK hP 0 rfl rfl 1 (by decide) (htg _ wi_440) (fun _ h9 => h9) rfl dX0_look_40 ?_
          refine lv_iload_n hx hb dX0_look_43 rfl (lv_at hl 0 rfl) ?_
          refine lv_dup2_11 hx hb dX0_look_44 rfl rfl ?_
          refine va_iald hx hb hK hP 2 0 rfl rfl (vp_in_nI (by omega) (by omega)) dX0_look_45 ?_
          refine lv_topi (fun z_8 ez_8 => ?_)
          refine lv_aload_n hx hb dX0_look_46 rfl (lv_at hl 2 rfl) ?_
          refine va_get (D := D) (ci := 0) (v := .ref b0) (C := RX0) (T := TX0) (N := 2) hx hb htg gRX0 hown hK hP 0 rfl rfl 0 (by decide) (htg _ wi_439) (fun _ h9 => h9) rfl dX0_look_47 ?_
          refine lv_iload_n hx hb dX0_look_50 rfl (lv_at hl 1 rfl) ?_
          refine va_iald hx hb hK hP 1 0 rfl rfl (vp_in_nI (by omega) (by omega)) dX0_look_51 ?_
          refine lv_topi (fun z_9 ez_9 => ?_)
          refine lv_iload_n hx hb dX0_look_52 rfl (lv_at hl 0 rfl) ?_
          refine lv_ishr hx hb dX0_look_53 ?_
          refine lv_topi (fun z_10 ez_10 => ?_)
          refine lv_iconst (v := 1) hx hb dX0_look_54 (by decide) ?_
          refine lv_iand hx hb dX0_look_55 ?_
          refine lv_topi (fun z_11 ez_11 => ?_)
          have iz_11 : 0 ≤ z_11.toInt ∧ z_11.toInt ≤ 1 := andI ez_11 (by decide) (by decide)
          refine lv_iload_n hx hb dX0_look_56 rfl (lv_at hl 1 rfl) ?_
          refine lv_ishl hx hb dX0_look_57 ?_
          refine lv_topi (fun z_12 ez_12 => ?_)
          refine lv_ior hx hb dX0_look_58 ?_
          refine lv_topi (fun z_13 ez_13 => ?_)
          refine va_iast hx hb hK hP hD hS 2 0 rfl rfl (vp_in_nI (by omega) (by omega)) dX0_look_59 (fun H locs hP hD hS => ?_)
          obtain ⟨f_14, ef_14, hP, hD⟩ : ∃ f_14 : Nat → Int32, f_14 = upd (f9_31_0) ((nI k9_31) : Int32).toNatClampNeg z_13 ∧ PD D A [(sw_0 h0 b0 b1), (sw_in cT b0 16 f_6), (sw_in cT b1 16 f_14), (sw_3 h1 p0 p1 p2 p3 p4 p5 p6 p7 p8 p9 (a 0) (a 1) (a 2) (a 3) (a 4) (a 5)), (sw_in cT (a 2) 16 f2)] H := ⟨_, rfl, hP, hD⟩
          refine lv_iinc (v := (nI (k9_31 + 1))) (lv' := [(3, .int (nI (k9_31 + 1))), (2, .int (nI k9_10)), (0, .ref h0), (1, .ref h1)]) hx hb dX0_look_60 hl (k := 0) rfl (by exact nI_1 (k9_31)) (by decide) rfl (fun ls hl => ?_)
          refine lv_goto (tgt := 31) hx hb dX0_look_63 (by decide) ?_
          have hM1 : LK (f_6) (f_14) p0.toInt.toNat k9_10 (k9_31 + 1) := LK_s (G := f9_31_0) h9_31_0 (by omega) (by omega) (by omega) (show z_10 = _ from by rw [ez_10, ez_9, nI_clamp (by omega)]) ez_11 ez_12 (show z_13 = _ from by rw [ez_13, ez_8, nI_clamp (by omega)]) (by rw [ef_14]; exact upd_at2 (by rw [hk9_31])) (fun t ht => by rw [ef_14]; exact upd_no (by rw [hk9_31]; omega) (by rw [hk9_31]; omega))
          exact ih_31 (k9_31 + 1) _ _ _ _ (by omega) (by omega) (by first | assumption | omega | decide | (simp only [ti_0, ti_1, ti_2, ti_3, ti_4, ti_5, ti_6, ti_7, ti_8, ti_9, ti_10, ti_11, ti_12, ti_m1]; omega)) ⟨hP.sub [0, 1, 2, 3, 4] rfl, hD.sub [0, 1, 2, 3, 4] (by decide) rfl⟩ hS (lv_sub hl [0, 1, 2, 3] rfl)
