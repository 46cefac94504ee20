set_option maxHeartbeats 4000000 in
set_option maxRecDepth 100000 in
theorem g_unshadedLightX (l : Launch) (D : va_G) (cT : Nat → ClassId) (sz : Nat) (h0 : Nat) (a : Nat → Nat) (p0 : Int32) (p1 : Int32) (p2 : Int32) (p3 : Int32) (p4 : Int32) (p5 : Int32) (p6 : Int32) (p7 : Int32) (p8 : Int32) (p9 : Int32) (x : Int32) (y : Int32) (hxx : 0 ≤ x.toInt ∧ x.toInt ≤ 15) (hyy : 0 ≤ y.toInt ∧ y.toInt ≤ 15) : Met l yX3_unshadedLight (wsc yX3_unshadedLight cX3_unshadedLight 3 (some .int)) { frames := 2, cells := 0, slots := 0, locals := 100 } (va_Pc [.ref h0, .int x, .int y] (PX D cT sz [(sw_3 h0 p0 p1 p2 p3 p4 p5 p6 p7 p8 p9 (a 0) (a 1) (a 2) (a 3) (a 4) (a 5))])) (va_Qi (fun (r : Int32) (u : Unit) => (r.toInt = unl p5 p6 x.toInt y.toInt) ∧ (True)) (fun u t => RW D (va_A [(sw_3 h0 p0 p1 p2 p3 p4 p5 p6 p7 p8 p9 (a 0) (a 1) (a 2) (a 3) (a 4) (a 5))] sz) ((fun _ : Unit => [(sw_3 h0 p0 p1 p2 p3 p4 p5 p6 p7 p8 p9 (a 0) (a 1) (a 2) (a 3) (a 4) (a 5))]) u) t) (va_A [(sw_3 h0 p0 p1 p2 p3 p4 p5 p6 p7 p8 p9 (a 0) (a 1) (a 2) (a 3) (a 4) (a 5))] sz)) 0 0 (va_A [(sw_3 h0 p0 p1 p2 p3 p4 p5 p6 p7 p8 p9 (a 0) (a 1) (a 2) (a 3) (a 4) (a 5))] sz) := by
  refine m_of (y := yX3_unshadedLight) (cc := cX3_unshadedLight) (nL := 3) (ret := (some .int)) (D := D) (cT := cT) (av := [.ref h0, .int x, .int y]) (wi := [(sw_3 h0 p0 p1 p2 p3 p4 p5 p6 p7 p8 p9 (a 0) (a 1) (a 2) (a 3) (a 4) (a 5))]) (fun A => va_Qi (fun (r : Int32) (u : Unit) => (r.toInt = unl p5 p6 x.toInt y.toInt) ∧ (True)) (fun u t => RW D A ((fun _ : Unit => [(sw_3 h0 p0 p1 p2 p3 p4 p5 p6 p7 p8 p9 (a 0) (a 1) (a 2) (a 3) (a 4) (a 5))]) u) t) A) (by decide) (Nat.le_of_ble_eq_true rfl) ?_
  intro p e s m below meth c A hx hb hml hown htg hK hN hr hlk hnm hsz hP hD hS hA ls hl
  have hown : s.vm.findClass RX3 = some m.cls := hown
  have hl : lv_has ls 3 [(0, .ref h0), (1, .int x), (2, .int y)] := hl
  have t9_0 : (0 : Int32).toInt = 0 := by decide
  refine lv_iconst (v := 0) hx hb dX3_unshadedLight_0 (by decide) ?_
  refine lv_aload_n hx hb dX3_unshadedLight_1 rfl (lv_at hl 0 rfl) ?_
  refine va_get (D := D) (ci := 3) (v := .int p5) (C := RX3) (T := TX3) (N := 16) hx hb htg gRX3 hown hK hP 0 rfl rfl 5 (by decide) (htg _ wi_184) (fun _ h9 => h9) rfl dX3_unshadedLight_2 ?_
  refine lv_aload_n hx hb dX3_unshadedLight_5 rfl (lv_at hl 0 rfl) ?_
  refine va_get (D := D) (ci := 3) (v := .int p6) (C := RX3) (T := TX3) (N := 16) hx hb htg gRX3 hown hK hP 0 rfl rfl 6 (by decide) (htg _ wi_187) (fun _ h9 => h9) rfl dX3_unshadedLight_6 ?_
  refine lv_iload_n hx hb dX3_unshadedLight_9 rfl (lv_at hl 1 rfl) ?_
  refine lv_iload_n hx hb dX3_unshadedLight_10 rfl (lv_at hl 2 rfl) ?_
  refine lv_isub hx hb dX3_unshadedLight_11 ?_
  refine lv_topi (fun z_1 ez_1 => ?_)
  have iz_1 : z_1.toInt = x.toInt - y.toInt := toInt_subI ez_1 (rfl) (rfl) (by omega)
  refine va_mabs hx hb (by rw [hml]; exact hl.1.symm) hown (htg _ wi_678) (htg _ wi_679) (htg _ wi_132) (htg _ wi_680) (Nat.le_of_ble_eq_true rfl) (Nat.le_of_ble_eq_true rfl) (Nat.le_of_ble_eq_true rfl) (Nat.le_of_ble_eq_true rfl) dX3_unshadedLight_12 ?_
  refine lv_topi (fun z_2 ez_2 => ?_)
  have iz_2 := absI (a := z_1.toInt) ez_2 (rfl) (by omega)
  have dz_2 : z_2 = Int32.ofInt (dI x.toInt y.toInt) := i3_eq (by unfold dI; split <;> omega)
  refine lv_imul hx hb dX3_unshadedLight_15 ?_
  refine lv_topi (fun z_3 ez_3 => ?_)
  refine lv_isub hx hb dX3_unshadedLight_16 ?_
  refine lv_topi (fun z_4 ez_4 => ?_)
  refine va_mmax hx hb (by rw [hml]; exact hl.1.symm) hown (htg _ wi_681) (htg _ wi_527) (htg _ wi_132) (htg _ wi_528) (Nat.le_of_ble_eq_true rfl) (Nat.le_of_ble_eq_true rfl) (Nat.le_of_ble_eq_true rfl) (Nat.le_of_ble_eq_true rfl) dX3_unshadedLight_17 ?_
  refine lv_topi (fun z_5 ez_5 => ?_)
  have iz_5 := maxI (a := 0) (b := z_4.toInt) ez_5 (by decide) (rfl)
  exact x_iret hx hb hr hlk hP hD hS [0] (()) rfl (by decide) ⟨unl_of dz_2 ez_3 ez_4 (by omega), trivial⟩ (by decide) (by decide) dX3_unshadedLight_20
set_option maxHeartbeats 4000000 in
set_option maxRecDepth 100000 in
theorem g_isShadedX (l : Launch) (D : va_G) (cT : Nat → ClassId) (sz : Nat) (h0 : Nat) (a : Nat → Nat) (p0 : Int32) (p1 : Int32) (p2 : Int32) (p3 : Int32) (p4 : Int32) (p5 : Int32) (p6 : Int32) (p7 : Int32) (p8 : Int32) (p9 : Int32) (x : Int32) (y : Int32) (hxx : 0 ≤ x.toInt ∧ x.toInt ≤ 15) (hyy : 0 ≤ y.toInt ∧ y.toInt ≤ 15) (f2 : Nat → Int32) : Met l yX3_isShaded (wsc yX3_isShaded cX3_isShaded 6 (some .boolean)) { frames := 2, cells := 0, slots := 0, locals := 100 } (va_Pc [.ref h0, .int x, .int y] (PX D cT sz [(sw_3 h0 p0 p1 p2 p3 p4 p5 p6 p7 p8 p9 (a 0) (a 1) (a 2) (a 3) (a 4) (a 5)), (sw_in cT (a 2) 16 f2)])) (va_Qi (fun (r : Int32) (u : Unit) => (r.toInt = shF f2 p4 x.toInt y.toInt) ∧ (True)) (fun u t => RW D (va_A [(sw_3 h0 p0 p1 p2 p3 p4 p5 p6 p7 p8 p9 (a 0) (a 1) (a 2) (a 3) (a 4) (a 5)), (sw_in cT (a 2) 16 f2)] sz) ((fun _ : Unit => [(sw_3 h0 p0 p1 p2 p3 p4 p5 p6 p7 p8 p9 (a 0) (a 1) (a 2) (a 3) (a 4) (a 5)), (sw_in cT (a 2) 16 f2)]) u) t) (va_A [(sw_3 h0 p0 p1 p2 p3 p4 p5 p6 p7 p8 p9 (a 0) (a 1) (a 2) (a 3) (a 4) (a 5)), (sw_in cT (a 2) 16 f2)] sz)) 0 0 (va_A [(sw_3 h0 p0 p1 p2 p3 p4 p5 p6 p7 p8 p9 (a 0) (a 1) (a 2) (a 3) (a 4) (a 5)), (sw_in cT (a 2) 16 f2)] sz) := by
  refine m_of (y := yX3_isShaded) (cc := cX3_isShaded) (nL := 6) (ret := (some .boolean)) (D := D) (cT := cT) (av := [.ref h0, .int x, .int y]) (wi := [(sw_3 h0 p0 p1 p2 p3 p4 p5 p6 p7 p8 p9 (a 0) (a 1) (a 2) (a 3) (a 4) (a 5)), (sw_in cT (a 2) 16 f2)]) (fun A => va_Qi (fun (r : Int32) (u : Unit) => (r.toInt = shF f2 p4 x.toInt y.toInt) ∧ (True)) (fun u t => RW D A ((fun _ : Unit => [(sw_3 h0 p0 p1 p2 p3 p4 p5 p6 p7 p8 p9 (a 0) (a 1) (a 2) (a 3) (a 4) (a 5)), (sw_in cT (a 2) 16 f2)]) u) t) A) (by decide) (Nat.le_of_ble_eq_true rfl) ?_
  intro p e s m below meth c A hx hb hml hown htg hK hN hr hlk hnm hsz hP hD hS hA ls hl
  have hown : s.vm.findClass RX3 = some m.cls := hown
  have hl : lv_has ls 6 [(0, .ref h0), (1, .int x), (2, .int y)] := hl
  have t9_0 : (0 : Int32).toInt = 0 := by decide
  have t9_1 : (1 : Int32).toInt = 1 := by decide
  refine lv_iload_n hx hb dX3_isShaded_0 rfl (lv_at hl 1 rfl) ?_
  refine lv_iload_n hx hb dX3_isShaded_1 rfl (lv_at hl 2 rfl) ?_
  refine lv_isub hx hb dX3_isShaded_2 ?_
  refine lv_topi (fun z_1 ez_1 => ?_)
  have iz_1 : z_1.toInt = x.toInt - y.toInt := toInt_subI ez_1 (rfl) (rfl) (by omega)
  refine va_mabs hx hb (by rw [hml]; exact hl.1.symm) hown (htg _ wi_678) (htg _ wi_679) (htg _ wi_132) (htg _ wi_680) (Nat.le_of_ble_eq_true rfl) (Nat.le_of_ble_eq_true rfl) (Nat.le_of_ble_eq_true rfl) (Nat.le_of_ble_eq_true rfl) dX3_isShaded_3 ?_
  refine lv_topi (fun z_2 ez_2 => ?_)
  have iz_2 := absI (a := z_1.toInt) ez_2 (rfl) (by omega)
  have dz_2 : z_2 = Int32.ofInt (dI x.toInt y.toInt) := i3_eq (by unfold dI; split <;> omega)
  refine lv_istore_n (lv' := [(3, .int z_2), (0, .ref h0), (1, .int x), (2, .int y)]) hx hb dX3_isShaded_6 rfl hl (by decide) rfl (fun ls hl => ?_)
  refine lv_iload_n hx hb dX3_isShaded_7 rfl (lv_at hl 2 rfl) ?_
  refine lv_iload_n hx hb dX3_isShaded_8 rfl (lv_at hl 3 rfl) ?_
  refine va_mmax hx hb (by rw [hml]; exact hl.1.symm) hown (htg _ wi_681) (htg _ wi_527) (htg _ wi_132) (htg _ wi_528) (Nat.le_of_ble_eq_true rfl) (Nat.le_of_ble_eq_true rfl) (Nat.le_of_ble_eq_true rfl) (Nat.le_of_ble_eq_true rfl) dX3_isShaded_9 ?_
  refine lv_topi (fun z_3 ez_3 => ?_)
  have iz_3 := maxI (a := x.toInt) (b := y.toInt) ez_3 (rfl) (rfl)
  refine lv_istore (lv' := [(4, .int z_3), (3, .int z_2), (0, .ref h0), (1, .int x), (2, .int y)]) hx hb dX3_isShaded_12 hl (by decide) rfl (fun ls hl => ?_)
  refine lv_iload_n hx hb dX3_isShaded_14 rfl (lv_at hl 3 rfl) ?_
  refine lv_iload_n hx hb dX3_isShaded_15 rfl (lv_at hl 4 rfl) ?_
  refine va_mmin hx hb (by rw [hml]; exact hl.1.symm) hown (htg _ wi_686) (htg _ wi_524) (htg _ wi_132) (htg _ wi_525) (Nat.le_of_ble_eq_true rfl) (Nat.le_of_ble_eq_true rfl) (Nat.le_of_ble_eq_true rfl) (Nat.le_of_ble_eq_true rfl) dX3_isShaded_16 ?_
  refine lv_topi (fun z_4 ez_4 => ?_)
  have iz_4 := minI (a := x.toInt) (b := y.toInt) ez_4 (rfl) (rfl)
  refine lv_iconst (v := 1) hx hb dX3_isShaded_19 (by decide) ?_
  refine lv_iadd hx hb dX3_isShaded_20 ?_
  refine lv_topi (fun z_5 ez_5 => ?_)
  have iz_5 : z_5.toInt = z_4.toInt + 1 := toInt_addI ez_5 (rfl) (by decide) (by omega)
  refine lv_istore (lv' := [(5, .int z_5), (4, .int z_3), (3, .int z_2), (0, .ref h0), (1, .int x), (2, .int y)]) hx hb dX3_isShaded_21 hl (by decide) rfl (fun ls hl => ?_)
  have hst0 : z_2 = Int32.ofInt (dI x.toInt y.toInt) := dz_2
  have hsh0 : shR f2 p4 z_2 y.toInt z_3.toInt (17 - z_5.toInt).toNat z_5.toInt = shF f2 p4 x.toInt y.toInt := by unfold shF; rw [hst0, show hiI x.toInt y.toInt = z_3.toInt from by unfold hiI; split <;> omega, show loI x.toInt y.toInt + 1 = z_5.toInt from by unfold loI; split <;> omega]
  refine (fun (key : ∀ (n9_23 : Nat) (k9_23 : Int32)  (H : Heap) (locs : List Loc) (ls : Array Slot), (0 ≤ k9_23.toInt ∧ k9_23.toInt ≤ 17) → 17 < k9_23.toInt + n9_23 → (shR f2 p4 z_2 y.toInt z_3.toInt (17 - k9_23.toInt).toNat k9_23.toInt = shF f2 p4 x.toInt y.toInt) → PD D A [(sw_3 h0 p0 p1 p2 p3 p4 p5 p6 p7 p8 p9 (a 0) (a 1) (a 2) (a 3) (a 4) (a 5)), (sw_in cT (a 2) 16 f2)] H → va_S A s.heap H locs → lv_has ls 6 [(5, .int k9_23), (4, .int z_3), (3, .int z_2), (0, .ref h0), (1, .int x), (2, .int y)] → W p l e _ s m _ below meth c H locs _ _ _ (F0 m 23 ls [])) => key (Int.toNat (17 - z_5.toInt) + 1) (z_5)  _ _ _ (by omega) (by omega) (by first | assumption | omega | decide | (simp only [ti_0, ti_1, ti_2, ti_3, ti_4, ti_5, ti_6, ti_7, ti_8, ti_9, ti_10, ti_11, ti_12, ti_m1]; omega)) ⟨hP, hD⟩ hS (lv_sub hl [0, 1, 2, 3, 4, 5] rfl)) ?_
  intro n9_23
  induction n9_23 with
  | zero => intro k9_23  H locs ls hq1 hq2; exact absurd hq2 (by omega)
  | succ n9_23 ih_23 =>
    intro k9_23  H locs ls hq1_23 hq2_23 h9_23_0 hPD hS hl
    obtain ⟨hP, hD⟩ := hPD
    refine lv_iload hx hb dX3_isShaded_23 (lv_at hl 0 rfl) ?_
    refine lv_iload hx hb dX3_isShaded_25 (lv_at hl 1 rfl) ?_
    refine lv_icmp_ge (tgt := 62) hx hb dX3_isShaded_27 (by decide) (fun c_6 => ?_) (fun c_6 => ?_)
    · have ic_6 : z_3.toInt ≤ k9_23.toInt := ile c_6 (rfl) (rfl)
      have hsr : shF f2 p4 x.toInt y.toInt = 0 := by rw [← h9_23_0]; exact shR_e _ (by omega)
      refine lv_iconst (v := 0) hx hb dX3_isShaded_62 (by decide) ?_
      exact x_zret hx hb hr hlk hP hD hS [0, 1] (()) rfl (by decide) rfl ⟨(by rw [hsr]; decide), trivial⟩ (by decide) (by decide) dX3_isShaded_63
    · have ic_6 : k9_23.toInt < z_3.toInt := inle c_6 (rfl) (rfl)
      refine lv_aload_n hx hb dX3_isShaded_30 rfl (lv_at hl 3 rfl) ?_
      refine va_get (D := D) (ci := 3) (v := .ref (a 2)) (C := RX3) (T := TX3) (N := 16) hx hb htg gRX3 hown hK hP 0 rfl rfl 12 (by decide) (htg _ wi_206) (fun _ h9 => h9) rfl dX3_isShaded_31 ?_
      refine lv_iload hx hb dX3_isShaded_34 (lv_at hl 0 rfl) ?_
      refine va_iald hx hb hK hP 1 0 rfl rfl (vp_in_iff.mpr (by omega)) dX3_isShaded_36 ?_
      refine lv_topi (fun z_7 ez_7 => ?_)
      refine lv_iload_n hx hb dX3_isShaded_37 rfl (lv_at hl 2 rfl) ?_
      refine lv_imul hx hb dX3_isShaded_38 ?_
      refine lv_topi (fun z_8 ez_8 => ?_)
      refine lv_aload_n hx hb dX3_isShaded_39 rfl (lv_at hl 3 rfl) ?_
      refine va_get (D := D) (ci := 3) (v := .int p4) (C := RX3) (T := TX3) (N := 16) hx hb htg gRX3 hown hK hP 0 rfl rfl 4 (by decide) (htg _ wi_181) (fun _ h9 => h9) rfl dX3_isShaded_40 ?_
      refine lv_iload hx hb dX3_isShaded_43 (lv_at hl 0 rfl) ?_
      refine lv_iload_n hx hb dX3_isShaded_45 rfl (lv_at hl 5 rfl) ?_
      refine lv_isub hx hb dX3_isShaded_46 ?_
      refine lv_topi (fun z_9 ez_9 => ?_)
      have iz_9 : z_9.toInt = k9_23.toInt - y.toInt := toInt_subI ez_9 (rfl) (rfl) (by omega)
      refine va_mabs hx hb (by rw [hml]; exact hl.1.symm) hown (htg _ wi_678) (htg _ wi_679) (htg _ wi_132) (htg _ wi_680) (Nat.le_of_ble_eq_true rfl) (Nat.le_of_ble_eq_true rfl) (Nat.le_of_ble_eq_true rfl) (Nat.le_of_ble_eq_true rfl) dX3_isShaded_47 ?_
      refine lv_topi (fun z_10 ez_10 => ?_)
      have iz_10 := absI (a := z_9.toInt) ez_10 (rfl) (by omega)
      have dz_10 : z_10 = Int32.ofInt (dI k9_23.toInt y.toInt) := i3_eq (by unfold dI; split <;> omega)
      refine lv_imul hx hb dX3_isShaded_50 ?_
      refine lv_topi (fun z_11 ez_11 => ?_)
      have hst1 := shR_s (T := f2) (h := p4) (st := z_2) (s := y.toInt) (hi := z_3.toInt) (t := k9_23.toInt) (n := (17 - (k9_23.toInt + 1)).toNat) (by omega) dz_10 ez_11 (show z_8 = _ from by rw [ez_8, ez_7]; rfl)
      rw [← show (17 - k9_23.toInt).toNat = (17 - (k9_23.toInt + 1)).toNat + 1 from by omega, h9_23_0] at hst1
      refine lv_icmp_le (tgt := 56) hx hb dX3_isShaded_51 (by decide) (fun c_12 => ?_) (fun c_12 => ?_)
      · have ic_12 : z_8.toInt ≤ z_11.toInt := ile c_12 (rfl) (rfl)
        have hse := hst1
        rw [if_neg (by omega)] at hse
        have hse := hse.symm
        obtain ⟨z_13, ez_13⟩ : ∃ w : Int32, w = k9_23 + 1 := ⟨_, rfl⟩
        have iz_13 : z_13.toInt = k9_23.toInt + 1 := toInt_addI ez_13 (rfl) (by decide) (by omega)
        refine lv_iinc (v := z_13) (lv' := [(5, .int z_13), (4, .int z_3), (3, .int z_2), (0, .ref h0), (1, .int x), (2, .int y)]) hx hb dX3_isShaded_56 hl (k := 0) rfl (by rw [ez_13]; rfl) (by decide) rfl (fun ls hl => ?_)
        refine lv_goto (tgt := 23) hx hb dX3_isShaded_59 (by decide) ?_
        have hsh1 : shR f2 p4 z_2 y.toInt z_3.toInt (17 - z_13.toInt).toNat z_13.toInt = shF f2 p4 x.toInt y.toInt := by rw [show z_13.toInt = k9_23.toInt + 1 from by omega]; exact hse
        exact ih_23 (z_13)  _ _ _ (by omega) (by omega) (by first | assumption | omega | decide | (simp only [ti_0, ti_1, ti_2, ti_3, ti_4, ti_5, ti_6, ti_7, ti_8, ti_9, ti_10, ti_11, ti_12, ti_m1]; omega)) ⟨hP.sub [0, 1] rfl, hD.sub [0, 1] (by decide) rfl⟩ hS (lv_sub hl [0, 1, 2, 3, 4, 5] rfl)
      · have ic_12 : z_11.toInt < z_8.toInt := inle c_12 (rfl) (rfl)
        have hsr : shF f2 p4 x.toInt y.toInt = 1 := by rw [hst1, if_pos (by omega)]
        refine lv_iconst (v := 1) hx hb dX3_isShaded_54 (by decide) ?_
        exact x_zret hx hb hr hlk hP hD hS [0, 1] (()) rfl (by decide) rfl ⟨(by rw [hsr]; decide), trivial⟩ (by decide) (by decide) dX3_isShaded_55
