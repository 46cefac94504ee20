set_option maxHeartbeats 4000000 in
set_option maxRecDepth 100000 in
theorem g_firstWorth (l : Launch) (D : va_G) (cT : Nat → ClassId) (sz : Nat) (h0 : Nat) (o : Nat) (b : Nat → Nat) (g1 : Int32) (g2 : Int32) (g3 : Int32) (g4 : Int32) (a : Nat → Nat) (p0 : Int32) (p1 : Int32) (p2 : Int32) (p3 : Int32) (p4 : Int32) (p5 : Int32) (p6 : Int32) (p7 : Int32) (p8 : Int32) (p9 : Int32) (hs : 0 ≤ p0.toInt ∧ p0.toInt ≤ 16) (x : Int32) (hxx : 0 ≤ x.toInt ∧ x.toInt ≤ 15) (k0 : Nat → Int32) (k1 : Nat → Int32) (f0 : Nat → Int32) : Met l yX2_firstWorth (wsc yX2_firstWorth cX2_firstWorth 4 (some .int)) { frames := 2, cells := 0, slots := 0, locals := 100 } (va_Pc [.ref h0, .int x] (PX D cT sz [(sw_2 h0 o g1 (b 0) (b 1) (b 2) (b 3) (b 4) (b 5) g2 g3 g4), (sw_3 o p0 p1 p2 p3 p4 p5 p6 p7 p8 p9 (a 0) (a 1) (a 2) (a 3) (a 4) (a 5)), (sw_in cT (b 0) 16 k0), (sw_in cT (b 1) 256 k1), (sw_in cT (a 0) 16 f0)])) (va_Qi (fun (r : Int32) (u : Unit) => True) (fun u t => RW D (va_A [(sw_2 h0 o g1 (b 0) (b 1) (b 2) (b 3) (b 4) (b 5) g2 g3 g4), (sw_3 o p0 p1 p2 p3 p4 p5 p6 p7 p8 p9 (a 0) (a 1) (a 2) (a 3) (a 4) (a 5)), (sw_in cT (b 0) 16 k0), (sw_in cT (b 1) 256 k1), (sw_in cT (a 0) 16 f0)] sz) ((fun _ : Unit => [(sw_2 h0 o g1 (b 0) (b 1) (b 2) (b 3) (b 4) (b 5) g2 g3 g4), (sw_3 o p0 p1 p2 p3 p4 p5 p6 p7 p8 p9 (a 0) (a 1) (a 2) (a 3) (a 4) (a 5)), (sw_in cT (b 0) 16 k0), (sw_in cT (b 1) 256 k1), (sw_in cT (a 0) 16 f0)]) u) t) (va_A [(sw_2 h0 o g1 (b 0) (b 1) (b 2) (b 3) (b 4) (b 5) g2 g3 g4), (sw_3 o p0 p1 p2 p3 p4 p5 p6 p7 p8 p9 (a 0) (a 1) (a 2) (a 3) (a 4) (a 5)), (sw_in cT (b 0) 16 k0), (sw_in cT (b 1) 256 k1), (sw_in cT (a 0) 16 f0)] sz)) 0 0 (va_A [(sw_2 h0 o g1 (b 0) (b 1) (b 2) (b 3) (b 4) (b 5) g2 g3 g4), (sw_3 o p0 p1 p2 p3 p4 p5 p6 p7 p8 p9 (a 0) (a 1) (a 2) (a 3) (a 4) (a 5)), (sw_in cT (b 0) 16 k0), (sw_in cT (b 1) 256 k1), (sw_in cT (a 0) 16 f0)] sz) := by
  refine m_of (y := yX2_firstWorth) (cc := cX2_firstWorth) (nL := 4) (ret := (some .int)) (D := D) (cT := cT) (av := [.ref h0, .int x]) (wi := [(sw_2 h0 o g1 (b 0) (b 1) (b 2) (b 3) (b 4) (b 5) g2 g3 g4), (sw_3 o p0 p1 p2 p3 p4 p5 p6 p7 p8 p9 (a 0) (a 1) (a 2) (a 3) (a 4) (a 5)), (sw_in cT (b 0) 16 k0), (sw_in cT (b 1) 256 k1), (sw_in cT (a 0) 16 f0)]) (fun A => va_Qi (fun (r : Int32) (u : Unit) => True) (fun u t => RW D A ((fun _ : Unit => [(sw_2 h0 o g1 (b 0) (b 1) (b 2) (b 3) (b 4) (b 5) g2 g3 g4), (sw_3 o p0 p1 p2 p3 p4 p5 p6 p7 p8 p9 (a 0) (a 1) (a 2) (a 3) (a 4) (a 5)), (sw_in cT (b 0) 16 k0), (sw_in cT (b 1) 256 k1), (sw_in cT (a 0) 16 f0)]) u) t) A) (by decide) (Nat.le_of_ble_eq_true rfl) ?_
  intro p e s m below meth c A hx hb hml hown htg hK hN hr hlk hnm hsz hP hD hS hA ls hl
  have hown : s.vm.findClass RX2 = some m.cls := hown
  have hl : lv_has ls 4 [(0, .ref h0), (1, .int x)] := hl
  refine lv_iconst (v := 0) hx hb dX2_firstWorth_0 (by decide) ?_
  refine lv_istore_n (lv' := [(2, .int 0), (0, .ref h0), (1, .int x)]) hx hb dX2_firstWorth_1 rfl hl (by decide) rfl (fun ls hl => ?_)
  refine lv_iconst (v := 0) hx hb dX2_firstWorth_2 (by decide) ?_
  refine lv_istore_n (lv' := [(3, .int 0), (2, .int 0), (0, .ref h0), (1, .int x)]) hx hb dX2_firstWorth_3 rfl hl (by decide) rfl (fun ls hl => ?_)
  refine (fun (key : ∀ (n9_4 : Nat) (k9_4 : Nat) (x9_4_2 : Int32) (H : Heap) (locs : List Loc) (ls : Array Slot), (k9_4 : Int) ≤ p0.toInt → p0.toInt < (k9_4 : Int) + n9_4 → PD D A [(sw_2 h0 o g1 (b 0) (b 1) (b 2) (b 3) (b 4) (b 5) g2 g3 g4), (sw_3 o p0 p1 p2 p3 p4 p5 p6 p7 p8 p9 (a 0) (a 1) (a 2) (a 3) (a 4) (a 5)), (sw_in cT (b 0) 16 k0), (sw_in cT (b 1) 256 k1), (sw_in cT (a 0) 16 f0)] H → va_S A s.heap H locs → lv_has ls 4 [(3, .int (nI k9_4)), (2, .int x9_4_2), (0, .ref h0), (1, .int x)] → W p l e _ s m _ below meth c H locs _ _ _ (F0 m 4 ls [])) => key (Int.toNat (p0.toInt - 0) + 1) 0 _ _ _ _ (by omega) (by omega)  ⟨hP, hD⟩ hS (lv_sub hl [0, 1, 2, 3] rfl)) ?_
  intro n9_4
  induction n9_4 with
  | zero => intro k9_4 x9_4_2 H locs ls hq1 hq2; exact absurd hq2 (by omega)
  | succ n9_4 ih_4 =>
    intro k9_4 x9_4_2 H locs ls hq1_4 hq2_4  hPD hS hl
    obtain ⟨hP, hD⟩ := hPD
    have hk9_4 : (nI k9_4).toInt = (k9_4 : Int) := nI_toInt (by omega)
    refine lv_iload_n hx hb dX2_firstWorth_4 rfl (lv_at hl 0 rfl) ?_
    refine lv_aload_n hx hb dX2_firstWorth_5 rfl (lv_at hl 2 rfl) ?_
    refine va_get (D := D) (ci := 2) (v := .ref o) (C := RX2) (T := TX2) (N := 11) hx hb htg gRX2 hown hK hP 0 rfl rfl 0 (by decide) (htg _ wi_346) (fun _ h9 => h9) rfl dX2_firstWorth_6 ?_
    refine va_getN (D := D) (ci := 3) (v := .int p0) (C := RX3) (T := TX3) (N := 16) hx hb htg gRX3 hown hK hP 1 rfl rfl 0 (by decide) (va_Nw.use rfl (hN.1 _ ni_167)) (fun _ h9 => h9) rfl dX2_firstWorth_9 ?_
    refine lv_icmp_ge (tgt := 54) hx hb dX2_firstWorth_12 (by decide) (fun c_1 => ?_) (fun c_1 => ?_)
    · have ic_1 : p0.toInt ≤ ((k9_4 : Nat) : Int) := ile c_1 (rfl) (nI_toInt (by omega))
      refine lv_iload_n hx hb dX2_firstWorth_54 rfl (lv_at hl 1 rfl) ?_
      exact x_iret hx hb hr hlk hP hD hS [0, 1, 2, 3, 4] (()) rfl (by decide) trivial (by decide) (by decide) dX2_firstWorth_55
    · have ic_1 : ((k9_4 : Nat) : Int) < p0.toInt := inle c_1 (rfl) (nI_toInt (by omega))
      refine lv_iload_n hx hb dX2_firstWorth_15 rfl (lv_at hl 1 rfl) ?_
      refine lv_aload_n hx hb dX2_firstWorth_16 rfl (lv_at hl 2 rfl) ?_
      refine va_get (D := D) (ci := 2) (v := .ref (b 0)) (C := RX2) (T := TX2) (N := 11) hx hb htg gRX2 hown hK hP 0 rfl rfl 2 (by decide) (htg _ wi_350) (fun _ h9 => h9) rfl dX2_firstWorth_17 ?_
      refine lv_iload_n hx hb dX2_firstWorth_20 rfl (lv_at hl 0 rfl) ?_
      refine va_iald hx hb hK hP 2 0 rfl rfl (vp_in_nI (by omega) (by omega)) dX2_firstWorth_21 ?_
      refine lv_topi (fun z_2 ez_2 => ?_)
      refine lv_aload_n hx hb dX2_firstWorth_22 rfl (lv_at hl 2 rfl) ?_
      refine va_get (D := D) (ci := 2) (v := .ref (b 1)) (C := RX2) (T := TX2) (N := 11) hx hb htg gRX2 hown hK hP 0 rfl rfl 3 (by decide) (htg _ wi_351) (fun _ h9 => h9) rfl dX2_firstWorth_23 ?_
      refine lv_iload_n hx hb dX2_firstWorth_26 rfl (lv_at hl 3 rfl) ?_
      refine lv_bipush (v := 16) hx hb dX2_firstWorth_27 (by decide) ?_
      refine lv_imul hx hb dX2_firstWorth_29 ?_
      refine lv_topi (fun z_3 ez_3 => ?_)
      have iz_3 : z_3.toInt = x.toInt * 16 := toInt_mulI ez_3 (rfl) (by decide) (by omega)
      refine lv_iload_n hx hb dX2_firstWorth_30 rfl (lv_at hl 0 rfl) ?_
      refine lv_iadd hx hb dX2_firstWorth_31 ?_
      refine lv_topi (fun z_4 ez_4 => ?_)
      have iz_4 : z_4.toInt = z_3.toInt + ((k9_4 : Nat) : Int) := toInt_addI ez_4 (rfl) (nI_toInt (by omega)) (by omega)
      refine va_iald hx hb hK hP 3 0 rfl rfl (vp_in_iff.mpr (by omega)) dX2_firstWorth_32 ?_
      refine lv_topi (fun z_5 ez_5 => ?_)
      refine lv_aload_n hx hb dX2_firstWorth_33 rfl (lv_at hl 2 rfl) ?_
      refine va_get (D := D) (ci := 2) (v := .ref o) (C := RX2) (T := TX2) (N := 11) hx hb htg gRX2 hown hK hP 0 rfl rfl 0 (by decide) (htg _ wi_346) (fun _ h9 => h9) rfl dX2_firstWorth_34 ?_
      refine va_getN (D := D) (ci := 3) (v := .ref (a 0)) (C := RX3) (T := TX3) (N := 16) hx hb htg gRX3 hown hK hP 1 rfl rfl 10 (by decide) (va_Nw.use rfl (hN.1 _ ni_201)) (fun _ h9 => h9) rfl dX2_firstWorth_37 ?_
      refine lv_iload_n hx hb dX2_firstWorth_40 rfl (lv_at hl 0 rfl) ?_
      refine va_iald hx hb hK hP 4 0 rfl rfl (vp_in_nI (by omega) (by omega)) dX2_firstWorth_41 ?_
      refine lv_topi (fun z_6 ez_6 => ?_)
      refine va_mmin hx hb (by rw [hml]; exact hl.1.symm) hown (htg _ wi_886) (htg _ wi_524) (htg _ wi_132) (htg _ wi_525) (Nat.le_of_ble_eq_true rfl) (Nat.le_of_ble_eq_true rfl) (Nat.le_of_ble_eq_true rfl) (Nat.le_of_ble_eq_true rfl) dX2_firstWorth_42 ?_
      refine lv_topi (fun z_7 ez_7 => ?_)
      have iz_7 := minI (a := z_5.toInt) (b := z_6.toInt) ez_7 (rfl) (rfl)
      refine lv_imul hx hb dX2_firstWorth_45 ?_
      refine lv_topi (fun z_8 ez_8 => ?_)
      refine lv_iadd hx hb dX2_firstWorth_46 ?_
      refine lv_topi (fun z_9 ez_9 => ?_)
      refine lv_istore_n (lv' := [(2, .int z_9), (3, .int (nI k9_4)), (0, .ref h0), (1, .int x)]) hx hb dX2_firstWorth_47 rfl hl (by decide) rfl (fun ls hl => ?_)
      refine lv_iinc (v := (nI (k9_4 + 1))) (lv' := [(3, .int (nI (k9_4 + 1))), (2, .int z_9), (0, .ref h0), (1, .int x)]) hx hb dX2_firstWorth_48 hl (k := 1) rfl (by exact nI_1 (k9_4)) (by decide) rfl (fun ls hl => ?_)
      refine lv_goto (tgt := 4) hx hb dX2_firstWorth_51 (by decide) ?_
      exact ih_4 (k9_4 + 1) _ _ _ _ (by omega) (by omega)  ⟨hP.sub [0, 1, 2, 3, 4] rfl, hD.sub [0, 1, 2, 3, 4] (by decide) rfl⟩ hS (lv_sub hl [0, 1, 2, 3] rfl)
set_option maxHeartbeats 4000000 in
set_option maxRecDepth 100000 in
theorem g_couldBeWorth (l : Launch) (D : va_G) (cT : Nat → ClassId) (sz : Nat) (h0 : Nat) (o : Nat) (b : Nat → Nat) (g1 : Int32) (g2 : Int32) (g3 : Int32) (g4 : Int32) (hg2 : 0 ≤ g2.toInt ∧ g2.toInt ≤ 8) (hg4 : 0 ≤ g4.toInt ∧ g4.toInt ≤ 2559) (k2 : Nat → Int32) (k4 : Nat → Int32) (k5 : Nat → Int32) (e4 : EL k4 8 0 15) : Met l yX2_couldBeWorth (wsc yX2_couldBeWorth cX2_couldBeWorth 3 (some .int)) { frames := 2, cells := 0, slots := 0, locals := 100 } (va_Pc [.ref h0] (PX D cT sz [(sw_2 h0 o g1 (b 0) (b 1) (b 2) (b 3) (b 4) (b 5) g2 g3 g4), (sw_in cT (b 2) 16 k2), (sw_in cT (b 4) 8 k4), (sw_in cT (b 5) 8 k5)])) (va_Qi (fun (r : Int32) (u : Unit) => True) (fun u t => RW D (va_A [(sw_2 h0 o g1 (b 0) (b 1) (b 2) (b 3) (b 4) (b 5) g2 g3 g4), (sw_in cT (b 2) 16 k2), (sw_in cT (b 4) 8 k4), (sw_in cT (b 5) 8 k5)] sz) ((fun _ : Unit => [(sw_2 h0 o g1 (b 0) (b 1) (b 2) (b 3) (b 4) (b 5) g2 g3 g4), (sw_in cT (b 2) 16 k2), (sw_in cT (b 4) 8 k4), (sw_in cT (b 5) 8 k5)]) u) t) (va_A [(sw_2 h0 o g1 (b 0) (b 1) (b 2) (b 3) (b 4) (b 5) g2 g3 g4), (sw_in cT (b 2) 16 k2), (sw_in cT (b 4) 8 k4), (sw_in cT (b 5) 8 k5)] sz)) 0 0 (va_A [(sw_2 h0 o g1 (b 0) (b 1) (b 2) (b 3) (b 4) (b 5) g2 g3 g4), (sw_in cT (b 2) 16 k2), (sw_in cT (b 4) 8 k4), (sw_in cT (b 5) 8 k5)] sz) := by
  refine m_of (y := yX2_couldBeWorth) (cc := cX2_couldBeWorth) (nL := 3) (ret := (some .int)) (D := D) (cT := cT) (av := [.ref h0]) (wi := [(sw_2 h0 o g1 (b 0) (b 1) (b 2) (b 3) (b 4) (b 5) g2 g3 g4), (sw_in cT (b 2) 16 k2), (sw_in cT (b 4) 8 k4), (sw_in cT (b 5) 8 k5)]) (fun A => va_Qi (fun (r : Int32) (u : Unit) => True) (fun u t => RW D A ((fun _ : Unit => [(sw_2 h0 o g1 (b 0) (b 1) (b 2) (b 3) (b 4) (b 5) g2 g3 g4), (sw_in cT (b 2) 16 k2), (sw_in cT (b 4) 8 k4), (sw_in cT (b 5) 8 k5)]) u) t) A) (by decide) (Nat.le_of_ble_eq_true rfl) ?_
  intro p e s m below meth c A hx hb hml hown htg hK hN hr hlk hnm hsz hP hD hS hA ls hl
  have hown : s.vm.findClass RX2 = some m.cls := hown
  have hl : lv_has ls 3 [(0, .ref h0)] := hl
  refine lv_iconst (v := 0) hx hb dX2_couldBeWorth_0 (by decide) ?_
  refine lv_istore_n (lv' := [(1, .int 0), (0, .ref h0)]) hx hb dX2_couldBeWorth_1 rfl hl (by decide) rfl (fun ls hl => ?_)
  refine lv_iconst (v := 0) hx hb dX2_couldBeWorth_2 (by decide) ?_
  refine lv_istore_n (lv' := [(2, .int 0), (1, .int 0), (0, .ref h0)]) hx hb dX2_couldBeWorth_3 rfl hl (by decide) rfl (fun ls hl => ?_)
  refine (fun (key : ∀ (n9_4 : Nat) (k9_4 : Nat) (x9_4_1 : Int32) (H : Heap) (locs : List Loc) (ls : Array Slot), (k9_4 : Int) ≤ g2.toInt → g2.toInt < (k9_4 : Int) + n9_4 → PD D A [(sw_2 h0 o g1 (b 0) (b 1) (b 2) (b 3) (b 4) (b 5) g2 g3 g4), (sw_in cT (b 2) 16 k2), (sw_in cT (b 4) 8 k4), (sw_in cT (b 5) 8 k5)] H → va_S A s.heap H locs → lv_has ls 3 [(2, .int (nI k9_4)), (1, .int x9_4_1), (0, .ref h0)] → W p l e _ s m _ below meth c H locs _ _ _ (F0 m 4 ls [])) => key (Int.toNat (g2.toInt - 0) + 1) 0 _ _ _ _ (by omega) (by omega)  ⟨hP, hD⟩ hS (lv_sub hl [0, 1, 2] rfl)) ?_
  intro n9_4
  induction n9_4 with
  | zero => intro k9_4 x9_4_1 H locs ls hq1 hq2; exact absurd hq2 (by omega)
  | succ n9_4 ih_4 =>
    intro k9_4 x9_4_1 H locs ls hq1_4 hq2_4  hPD hS hl
    obtain ⟨hP, hD⟩ := hPD
    have hk9_4 : (nI k9_4).toInt = (k9_4 : Int) := nI_toInt (by omega)
    refine lv_iload_n hx hb dX2_couldBeWorth_4 rfl (lv_at hl 0 rfl) ?_
    refine lv_aload_n hx hb dX2_couldBeWorth_5 rfl (lv_at hl 2 rfl) ?_
    refine va_get (D := D) (ci := 2) (v := .int g2) (C := RX2) (T := TX2) (N := 11) hx hb htg gRX2 hown hK hP 0 rfl rfl 8 (by decide) (htg _ wi_358) (fun _ h9 => h9) rfl dX2_couldBeWorth_6 ?_
    refine lv_icmp_ge (tgt := 39) hx hb dX2_couldBeWorth_9 (by decide) (fun c_1 => ?_) (fun c_1 => ?_)
    · have ic_1 : g2.toInt ≤ ((k9_4 : Nat) : Int) := ile c_1 (rfl) (nI_toInt (by omega))
      refine lv_iload_n hx hb dX2_couldBeWorth_39 rfl (lv_at hl 1 rfl) ?_
      exact x_iret hx hb hr hlk hP hD hS [0, 1, 2, 3] (()) rfl (by decide) trivial (by decide) (by decide) dX2_couldBeWorth_40
    · have ic_1 : ((k9_4 : Nat) : Int) < g2.toInt := inle c_1 (rfl) (nI_toInt (by omega))
      refine lv_iload_n hx hb dX2_couldBeWorth_12 rfl (lv_at hl 1 rfl) ?_
      refine lv_aload_n hx hb dX2_couldBeWorth_13 rfl (lv_at hl 2 rfl) ?_
      refine va_get (D := D) (ci := 2) (v := .ref (b 5)) (C := RX2) (T := TX2) (N := 11) hx hb htg gRX2 hown hK hP 0 rfl rfl 7 (by decide) (htg _ wi_357) (fun _ h9 => h9) rfl dX2_couldBeWorth_14 ?_
      refine lv_iload_n hx hb dX2_couldBeWorth_17 rfl (lv_at hl 0 rfl) ?_
      refine va_iald hx hb hK hP 3 0 rfl rfl (vp_in_nI (by omega) (by omega)) dX2_couldBeWorth_18 ?_
      refine lv_topi (fun z_2 ez_2 => ?_)
      refine lv_aload_n hx hb dX2_couldBeWorth_19 rfl (lv_at hl 2 rfl) ?_
      refine va_get (D := D) (ci := 2) (v := .ref (b 2)) (C := RX2) (T := TX2) (N := 11) hx hb htg gRX2 hown hK hP 0 rfl rfl 4 (by decide) (htg _ wi_354) (fun _ h9 => h9) rfl dX2_couldBeWorth_20 ?_
      refine lv_aload_n hx hb dX2_couldBeWorth_23 rfl (lv_at hl 2 rfl) ?_
      refine va_get (D := D) (ci := 2) (v := .ref (b 4)) (C := RX2) (T := TX2) (N := 11) hx hb htg gRX2 hown hK hP 0 rfl rfl 6 (by decide) (htg _ wi_356) (fun _ h9 => h9) rfl dX2_couldBeWorth_24 ?_
      refine lv_iload_n hx hb dX2_couldBeWorth_27 rfl (lv_at hl 0 rfl) ?_
      refine va_iald hx hb hK hP 2 0 rfl rfl (vp_in_nI (by omega) (by omega)) dX2_couldBeWorth_28 ?_
      refine lv_topi (fun z_3 ez_3 => ?_)
      have iz_3 : 0 ≤ z_3.toInt ∧ z_3.toInt ≤ 15 := by rw [ez_3]; exact e4 _ (in_lt (vp_in_nI (by omega) (by omega)))
      refine va_iald hx hb hK hP 1 0 rfl rfl (vp_in_iff.mpr (by omega)) dX2_couldBeWorth_29 ?_
      refine lv_topi (fun z_4 ez_4 => ?_)
      refine lv_imul hx hb dX2_couldBeWorth_30 ?_
      refine lv_topi (fun z_5 ez_5 => ?_)
      refine lv_iadd hx hb dX2_couldBeWorth_31 ?_
      refine lv_topi (fun z_6 ez_6 => ?_)
      refine lv_istore_n (lv' := [(1, .int z_6), (2, .int (nI k9_4)), (0, .ref h0)]) hx hb dX2_couldBeWorth_32 rfl hl (by decide) rfl (fun ls hl => ?_)
      refine lv_iinc (v := (nI (k9_4 + 1))) (lv' := [(2, .int (nI (k9_4 + 1))), (1, .int z_6), (0, .ref h0)]) hx hb dX2_couldBeWorth_33 hl (k := 1) rfl (by exact nI_1 (k9_4)) (by decide) rfl (fun ls hl => ?_)
      refine lv_goto (tgt := 4) hx hb dX2_couldBeWorth_36 (by decide) ?_
      exact ih_4 (k9_4 + 1) _ _ _ _ (by omega) (by omega)  ⟨hP.sub [0, 1, 2, 3] rfl, hD.sub [0, 1, 2, 3] (by decide) rfl⟩ hS (lv_sub hl [0, 1, 2] rfl)
set_option maxHeartbeats 4000000 in
set_option maxRecDepth 100000 in
theorem g_open (l : Launch) (D : va_G) (cT : Nat → ClassId) (sz : Nat) (h0 : Nat) (o : Nat) (b : Nat → Nat) (g1 : Int32) (g2 : Int32) (g3 : Int32) (g4 : Int32) (k4 : Nat → Int32) (k5 : Nat → Int32) (e4 : EL k4 8 0 15) (v : Int64) : Met l yX2_open (wsc yX2_open cX2_open 7 none) { frames := 2, cells := 0, slots := 0, locals := 100 } (va_Pc [.ref h0, .long v] (PX D cT sz [(sw_2 h0 o g1 (b 0) (b 1) (b 2) (b 3) (b 4) (b 5) g2 g3 g4), (sw_in cT (b 4) 8 k4), (sw_in cT (b 5) 8 k5)])) (va_Qv (fun (u : Int32 × (Nat → Int32) × (Nat → Int32)) => (0 ≤ u.1.toInt ∧ u.1.toInt ≤ 8) ∧ (EL u.2.1 8 0 15) ∧ (True)) (fun u t => RW D (va_A [(sw_2 h0 o g1 (b 0) (b 1) (b 2) (b 3) (b 4) (b 5) g2 g3 g4), (sw_in cT (b 4) 8 k4), (sw_in cT (b 5) 8 k5)] sz) ((fun u : Int32 × (Nat → Int32) × (Nat → Int32) => [(sw_2 h0 o g1 (b 0) (b 1) (b 2) (b 3) (b 4) (b 5) u.1 g3 g4), (sw_in cT (b 4) 8 u.2.1), (sw_in cT (b 5) 8 u.2.2)]) u) t) (va_A [(sw_2 h0 o g1 (b 0) (b 1) (b 2) (b 3) (b 4) (b 5) g2 g3 g4), (sw_in cT (b 4) 8 k4), (sw_in cT (b 5) 8 k5)] sz)) 0 0 (va_A [(sw_2 h0 o g1 (b 0) (b 1) (b 2) (b 3) (b 4) (b 5) g2 g3 g4), (sw_in cT (b 4) 8 k4), (sw_in cT (b 5) 8 k5)] sz) := by
  refine m_of (y := yX2_open) (cc := cX2_open) (nL := 7) (ret := none) (D := D) (cT := cT) (av := [.ref h0, .long v]) (wi := [(sw_2 h0 o g1 (b 0) (b 1) (b 2) (b 3) (b 4) (b 5) g2 g3 g4), (sw_in cT (b 4) 8 k4), (sw_in cT (b 5) 8 k5)]) (fun A => va_Qv (fun (u : Int32 × (Nat → Int32) × (Nat → Int32)) => (0 ≤ u.1.toInt ∧ u.1.toInt ≤ 8) ∧ (EL u.2.1 8 0 15) ∧ (True)) (fun u t => RW D A ((fun u : Int32 × (Nat → Int32) × (Nat → Int32) => [(sw_2 h0 o g1 (b 0) (b 1) (b 2) (b 3) (b 4) (b 5) u.1 g3 g4), (sw_in cT (b 4) 8 u.2.1), (sw_in cT (b 5) 8 u.2.2)]) u) t) A) (by decide) (Nat.le_of_ble_eq_true rfl) ?_
  intro p e s m below meth c A hx hb hml hown htg hK hN hr hlk hnm hsz hP hD hS hA ls hl
  have hown : s.vm.findClass RX2 = some m.cls := hown
  have hl : lv_has ls 7 [(0, .ref h0), (1, .long v)] := hl
  refine lv_aload_n hx hb dX2_open_0 rfl (lv_at hl 0 rfl) ?_
  refine lv_iconst (v := 0) hx hb dX2_open_1 (by decide) ?_
  refine va_put (D := D) (ci := 2) (v := .int 0) (ty := .int) (C := RX2) (T := TX2) (N := 11) hx hb htg gRX2 tyX2 tyX2_ok nmX2 hown hK hP hD hS 0 rfl rfl 8 (by decide) (htg _ wi_358) (fun _ h9 => h9) rfl (by decide +kernel) rfl rfl (Nat.le_of_ble_eq_true rfl) dX2_open_2 (fun H locs hP hD hS => ?_)
  obtain ⟨hP, hD⟩ : PD D A [(sw_2 h0 o g1 (b 0) (b 1) (b 2) (b 3) (b 4) (b 5) 0 g3 g4), (sw_in cT (b 4) 8 k4), (sw_in cT (b 5) 8 k5)] _ := ⟨hP, hD⟩
  refine lv_lload_n hx hb dX2_open_5 rfl (lv_at hl 1 rfl) ?_
  refine lv_lstore_n (lv' := [(3, .long v), (0, .ref h0), (1, .long v)]) hx hb dX2_open_6 rfl hl (by decide) rfl (fun ls hl => ?_)
  refine lv_iconst (v := 0) hx hb dX2_open_7 (by decide) ?_
  refine lv_istore (lv' := [(5, .int 0), (3, .long v), (0, .ref h0), (1, .long v)]) hx hb dX2_open_8 hl (by decide) rfl (fun ls hl => ?_)
  refine (fun (key : ∀ (n9_10 : Nat) (k9_10 : Nat) (x9_10_3 : Int64) (f9_10_1 : Nat → Int32) (f9_10_2 : Nat → Int32) (v9_10_3 : Int32) (H : Heap) (locs : List Loc) (ls : Array Slot), (k9_10 : Int) ≤ 16 → 16 < (k9_10 : Int) + n9_10 → EL f9_10_1 8 0 15 → (0 ≤ v9_10_3.toInt ∧ v9_10_3.toInt ≤ 8) → PD D A [(sw_2 h0 o g1 (b 0) (b 1) (b 2) (b 3) (b 4) (b 5) v9_10_3 g3 g4), (sw_in cT (b 4) 8 f9_10_1), (sw_in cT (b 5) 8 f9_10_2)] H → va_S A s.heap H locs → lv_has ls 7 [(5, .int (nI k9_10)), (3, .long x9_10_3), (0, .ref h0), (1, .long v)] → W p l e _ s m _ below meth c H locs _ _ _ (F0 m 10 ls [])) => key (Int.toNat (16 - 0) + 1) 0 _ _ _ _ _ _ _ (by omega) (by omega) (by first | assumption | omega | decide | (simp only [ti_0, ti_1, ti_2, ti_3, ti_4, ti_5, ti_6, ti_7, ti_8, ti_9, ti_10, ti_11, ti_12, ti_m1]; omega)) (by first | assumption | omega | decide | (simp only [ti_0, ti_1, ti_2, ti_3, ti_4, ti_5, ti_6, ti_7, ti_8, ti_9, ti_10, ti_11, ti_12, ti_m1]; omega)) ⟨hP, hD⟩ hS (lv_sub hl [0, 1, 2, 3] rfl)) ?_
  intro n9_10
  induction n9_10 with
  | zero => intro k9_10 x9_10_3 f9_10_1 f9_10_2 v9_10_3 H locs ls hq1 hq2; exact absurd hq2 (by omega)
  | succ n9_10 ih_10 =>
    intro k9_10 x9_10_3 f9_10_1 f9_10_2 v9_10_3 H locs ls hq1_10 hq2_10 h9_10_0 h9_10_1 hPD hS hl
    obtain ⟨hP, hD⟩ := hPD
    have hk9_10 : (nI k9_10).toInt = (k9_10 : Int) := nI_toInt (by omega)
    refine lv_iload hx hb dX2_open_10 (lv_at hl 0 rfl) ?_
    refine lv_bipush (v := 16) hx hb dX2_open_12 (by decide) ?_
    refine lv_icmp_ge (tgt := 87) hx hb dX2_open_14 (by decide) (fun c_1 => ?_) (fun c_1 => ?_)
    · have ic_1 : 16 ≤ ((k9_10 : Nat) : Int) := ile c_1 (by decide) (nI_toInt (by omega))
      exact x_vret hx hb hr hlk hP hD hS [0, 1, 2] ((v9_10_3, f9_10_1, f9_10_2)) rfl (by decide) ⟨by (try dsimp only); first | assumption | omega | decide | exact Or.inl (by decide) | (intro h9; exact absurd h9 (by decide)) | (intro _; decide) | (simp only [ti_0, ti_1, ti_2, ti_3, ti_4, ti_5, ti_6, ti_7, ti_8, ti_9, ti_10, ti_11, ti_12, ti_m1]; omega) | (simp only [ti_0, ti_1, ti_2, ti_3, ti_4, ti_5, ti_6, ti_7, ti_8, ti_9, ti_10, ti_11, ti_12, ti_m1]; done), by (try dsimp only); first | assumption | omega | decide | exact Or.inl (by decide) | (intro h9; exact absurd h9 (by decide)) | (intro _; decide) | (simp only [ti_0, ti_1, ti_2, ti_3, ti_4, ti_5, ti_6, ti_7, ti_8, ti_9, ti_10, ti_11, ti_12, ti_m1]; omega) | (simp only [ti_0, ti_1, ti_2, ti_3, ti_4, ti_5, ti_6, ti_7, ti_8, ti_9, ti_10, ti_11, ti_12, ti_m1]; done), trivial⟩ (by decide) (by decide) dX2_open_87
    · have ic_1 : ((k9_10 : Nat) : Int) < 16 := inle c_1 (by decide) (nI_toInt (by omega))
      refine lv_lload_n hx hb dX2_open_17 rfl (lv_at hl 1 rfl) ?_
      refine lv_lconst (v := 0) hx hb dX2_open_18 (by decide) ?_
      refine W.lcmp hx hb dX2_open_19 ?_
      refine lv_if_eq (tgt := 87) hx hb dX2_open_20 (by decide) (fun c_2 => ?_) (fun c_2 => ?_)
      · have ic_2 : x9_10_3.toInt = 0 := lgc_eq c_2 (rfl) (by decide)
        exact x_vret hx hb hr hlk hP hD hS [0, 1, 2] ((v9_10_3, f9_10_1, f9_10_2)) rfl (by decide) ⟨by (try dsimp only); first | assumption | omega | decide | exact Or.inl (by decide) | (intro h9; exact absurd h9 (by decide)) | (intro _; decide) | (simp only [ti_0, ti_1, ti_2, ti_3, ti_4, ti_5, ti_6, ti_7, ti_8, ti_9, ti_10, ti_11, ti_12, ti_m1]; omega) | (simp only [ti_0, ti_1, ti_2, ti_3, ti_4, ti_5, ti_6, ti_7, ti_8, ti_9, ti_10, ti_11, ti_12, ti_m1]; done), by (try dsimp only); first | assumption | omega | decide | exact Or.inl (by decide) | (intro h9; exact absurd h9 (by decide)) | (intro _; decide) | (simp only [ti_0, ti_1, ti_2, ti_3, ti_4, ti_5, ti_6, ti_7, ti_8, ti_9, ti_10, ti_11, ti_12, ti_m1]; omega) | (simp only [ti_0, ti_1, ti_2, ti_3, ti_4, ti_5, ti_6, ti_7, ti_8, ti_9, ti_10, ti_11, ti_12, ti_m1]; done), trivial⟩ (by decide) (by decide) dX2_open_87
      · have ic_2 : ¬ x9_10_3.toInt = 0 := lgc_ne c_2 (rfl) (by decide)
        refine lv_aload_n hx hb dX2_open_23 rfl (lv_at hl 2 rfl) ?_
        refine va_get (D := D) (ci := 2) (v := .int v9_10_3) (C := RX2) (T := TX2) (N := 11) hx hb htg gRX2 hown hK hP 0 rfl rfl 8 (by decide) (htg _ wi_358) (fun _ h9 => h9) rfl dX2_open_24 ?_
        refine lv_bipush (v := 8) hx hb dX2_open_27 (by decide) ?_
        refine lv_icmp_ge (tgt := 87) hx hb dX2_open_29 (by decide) (fun c_3 => ?_) (fun c_3 => ?_)
        · have ic_3 : 8 ≤ v9_10_3.toInt := ile c_3 (by decide) (rfl)
          exact x_vret hx hb hr hlk hP hD hS [0, 1, 2] ((v9_10_3, f9_10_1, f9_10_2)) rfl (by decide) ⟨by (try dsimp only); first | assumption | omega | decide | exact Or.inl (by decide) | (intro h9; exact absurd h9 (by decide)) | (intro _; decide) | (simp only [ti_0, ti_1, ti_2, ti_3, ti_4, ti_5, ti_6, ti_7, ti_8, ti_9, ti_10, ti_11, ti_12, ti_m1]; omega) | (simp only [ti_0, ti_1, ti_2, ti_3, ti_4, ti_5, ti_6, ti_7, ti_8, ti_9, ti_10, ti_11, ti_12, ti_m1]; done), by (try dsimp only); first | assumption | omega | decide | exact Or.inl (by decide) | (intro h9; exact absurd h9 (by decide)) | (intro _; decide) | (simp only [ti_0, ti_1, ti_2, ti_3, ti_4, ti_5, ti_6, ti_7, ti_8, ti_9, ti_10, ti_11, ti_12, ti_m1]; omega) | (simp only [ti_0, ti_1, ti_2, ti_3, ti_4, ti_5, ti_6, ti_7, ti_8, ti_9, ti_10, ti_11, ti_12, ti_m1]; done), trivial⟩ (by decide) (by decide) dX2_open_87
        · have ic_3 : v9_10_3.toInt < 8 := inle c_3 (by decide) (rfl)
          refine lv_lload_n hx hb dX2_open_32 rfl (lv_at hl 1 rfl) ?_
          refine lv_ldc2 (v := 15) hx hb hown (htg _ wi_901) dX2_open_33 ?_
          refine lv_land hx hb dX2_open_36 ?_
          refine lv_topl (fun z_4 ez_4 => ?_)
          obtain ⟨z_5, ez_5⟩ : ∃ w : Int32, w = z_4.toInt32 := ⟨_, rfl⟩
          refine lv_l2i (v := z_5) hx hb dX2_open_37 ez_5.symm ?_
          refine lv_istore (lv' := [(6, .int z_5), (5, .int (nI k9_10)), (3, .long x9_10_3), (0, .ref h0), (1, .long v)]) hx hb dX2_open_38 hl (by decide) rfl (fun ls hl => ?_)
          refine lv_iload hx hb dX2_open_40 (lv_at hl 0 rfl) ?_
          refine lv_if_eq (tgt := 77) hx hb dX2_open_42 (by decide) (fun c_6 => ?_) (fun c_6 => ?_)
          · have ic_6 : z_5.toInt = 0 := ieq c_6 (rfl) (by decide)
            refine lv_lload_n hx hb dX2_open_77 rfl (lv_at hl 2 rfl) ?_
            refine lv_iconst (v := 4) hx hb dX2_open_78 (by decide) ?_
            obtain ⟨z_7, ez_7⟩ : ∃ w : Int64, w = ((x9_10_3 : Int64).toUInt64 >>> ((4 : Int32).toInt64.toUInt64 &&& Int64.toUInt64 63)).toInt64 := ⟨_, rfl⟩
            refine lv_lushr (v := z_7) hx hb dX2_open_79 ez_7.symm ?_
            refine lv_lstore_n (lv' := [(3, .long z_7), (6, .int z_5), (5, .int (nI k9_10)), (0, .ref h0), (1, .long v)]) hx hb dX2_open_80 rfl hl (by decide) rfl (fun ls hl => ?_)
            refine lv_iinc (v := (nI (k9_10 + 1))) (lv' := [(5, .int (nI (k9_10 + 1))), (3, .long z_7), (6, .int z_5), (0, .ref h0), (1, .long v)]) hx hb dX2_open_81 hl (k := 2) rfl (by exact nI_1 (k9_10)) (by decide) rfl (fun ls hl => ?_)
            refine lv_goto (tgt := 10) hx hb dX2_open_84 (by decide) ?_
            exact ih_10 (k9_10 + 1) _ _ _ _ _ _ _ (by omega) (by omega) (by first | assumption | omega | decide | (simp only [ti_0, ti_1, ti_2, ti_3, ti_4, ti_5, ti_6, ti_7, ti_8, ti_9, ti_10, ti_11, ti_12, ti_m1]; omega)) (by first | assumption | omega | decide | (simp only [ti_0, ti_1, ti_2, ti_3, ti_4, ti_5, ti_6, ti_7, ti_8, ti_9, ti_10, ti_11, ti_12, ti_m1]; omega)) ⟨hP.sub [0, 1, 2] rfl, hD.sub [0, 1, 2] (by decide) rfl⟩ hS (lv_sub hl [0, 1, 3, 4] rfl)
          · have ic_6 : ¬ z_5.toInt = 0 := ine c_6 (rfl) (by decide)
            refine lv_aload_n hx hb dX2_open_45 rfl (lv_at hl 3 rfl) ?_
            refine va_get (D := D) (ci := 2) (v := .ref (b 4)) (C := RX2) (T := TX2) (N := 11) hx hb htg gRX2 hown hK hP 0 rfl rfl 6 (by decide) (htg _ wi_356) (fun _ h9 => h9) rfl dX2_open_46 ?_
            refine lv_aload_n hx hb dX2_open_49 rfl (lv_at hl 3 rfl) ?_
            refine va_get (D := D) (ci := 2) (v := .int v9_10_3) (C := RX2) (T := TX2) (N := 11) hx hb htg gRX2 hown hK hP 0 rfl rfl 8 (by decide) (htg _ wi_358) (fun _ h9 => h9) rfl dX2_open_50 ?_
            refine lv_iload hx hb dX2_open_53 (lv_at hl 1 rfl) ?_
            refine va_iast hx hb hK hP hD hS 1 0 rfl rfl (vp_in_iff.mpr (by omega)) dX2_open_55 (fun H locs hP hD hS => ?_)
            obtain ⟨f_8, ef_8, hP, hD⟩ : ∃ f_8 : Nat → Int32, f_8 = upd (f9_10_1) (v9_10_3 : Int32).toNatClampNeg (nI k9_10) ∧ PD D A [(sw_2 h0 o g1 (b 0) (b 1) (b 2) (b 3) (b 4) (b 5) v9_10_3 g3 g4), (sw_in cT (b 4) 8 f_8), (sw_in cT (b 5) 8 f9_10_2)] H := ⟨_, rfl, hP, hD⟩
            have qf_8 : EL f_8 8 0 15 := by rw [ef_8]; exact el_upd h9_10_0 (nI_toInt (by omega)) (by omega)
            refine lv_aload_n hx hb dX2_open_56 rfl (lv_at hl 3 rfl) ?_
            refine va_get (D := D) (ci := 2) (v := .ref (b 5)) (C := RX2) (T := TX2) (N := 11) hx hb htg gRX2 hown hK hP 0 rfl rfl 7 (by decide) (htg _ wi_357) (fun _ h9 => h9) rfl dX2_open_57 ?_
            refine lv_aload_n hx hb dX2_open_60 rfl (lv_at hl 3 rfl) ?_
            refine va_get (D := D) (ci := 2) (v := .int v9_10_3) (C := RX2) (T := TX2) (N := 11) hx hb htg gRX2 hown hK hP 0 rfl rfl 8 (by decide) (htg _ wi_358) (fun _ h9 => h9) rfl dX2_open_61 ?_
            refine lv_iload hx hb dX2_open_64 (lv_at hl 0 rfl) ?_
            refine va_iast hx hb hK hP hD hS 2 0 rfl rfl (vp_in_iff.mpr (by omega)) dX2_open_66 (fun H locs hP hD hS => ?_)
            obtain ⟨f_9, hP, hD⟩ : ∃ f_9 : Nat → Int32, PD D A [(sw_2 h0 o g1 (b 0) (b 1) (b 2) (b 3) (b 4) (b 5) v9_10_3 g3 g4), (sw_in cT (b 4) 8 f_8), (sw_in cT (b 5) 8 f_9)] H := ⟨_, hP, hD⟩
            refine lv_aload_n hx hb dX2_open_67 rfl (lv_at hl 3 rfl) ?_
            refine lv_dup hx hb dX2_open_68 rfl ?_
            refine va_get (D := D) (ci := 2) (v := .int v9_10_3) (C := RX2) (T := TX2) (N := 11) hx hb htg gRX2 hown hK hP 0 rfl rfl 8 (by decide) (htg _ wi_358) (fun _ h9 => h9) rfl dX2_open_69 ?_
            refine lv_iconst (v := 1) hx hb dX2_open_72 (by decide) ?_
            refine lv_iadd hx hb dX2_open_73 ?_
            refine lv_topi (fun z_10 ez_10 => ?_)
            have iz_10 : z_10.toInt = v9_10_3.toInt + 1 := toInt_addI ez_10 (rfl) (by decide) (by omega)
            refine va_put (D := D) (ci := 2) (v := .int z_10) (ty := .int) (C := RX2) (T := TX2) (N := 11) hx hb htg gRX2 tyX2 tyX2_ok nmX2 hown hK hP hD hS 0 rfl rfl 8 (by decide) (htg _ wi_358) (fun _ h9 => h9) rfl (by decide +kernel) rfl rfl (Nat.le_of_ble_eq_true rfl) dX2_open_74 (fun H locs hP hD hS => ?_)
            obtain ⟨hP, hD⟩ : PD D A [(sw_2 h0 o g1 (b 0) (b 1) (b 2) (b 3) (b 4) (b 5) z_10 g3 g4), (sw_in cT (b 4) 8 f_8), (sw_in cT (b 5) 8 f_9)] _ := ⟨hP, hD⟩
            refine lv_lload_n hx hb dX2_open_77 rfl (lv_at hl 2 rfl) ?_
            refine lv_iconst (v := 4) hx hb dX2_open_78 (by decide) ?_
            obtain ⟨z_11, ez_11⟩ : ∃ w : Int64, w = ((x9_10_3 : Int64).toUInt64 >>> ((4 : Int32).toInt64.toUInt64 &&& Int64.toUInt64 63)).toInt64 := ⟨_, rfl⟩
            refine lv_lushr (v := z_11) hx hb dX2_open_79 ez_11.symm ?_
            refine lv_lstore_n (lv' := [(3, .long z_11), (6, .int z_5), (5, .int (nI k9_10)), (0, .ref h0), (1, .long v)]) hx hb dX2_open_80 rfl hl (by decide) rfl (fun ls hl => ?_)
            refine lv_iinc (v := (nI (k9_10 + 1))) (lv' := [(5, .int (nI (k9_10 + 1))), (3, .long z_11), (6, .int z_5), (0, .ref h0), (1, .long v)]) hx hb dX2_open_81 hl (k := 2) rfl (by exact nI_1 (k9_10)) (by decide) rfl (fun ls hl => ?_)
            refine lv_goto (tgt := 10) hx hb dX2_open_84 (by decide) ?_
            exact ih_10 (k9_10 + 1) _ _ _ _ _ _ _ (by omega) (by omega) (by first | assumption | omega | decide | (simp only [ti_0, ti_1, ti_2, ti_3, ti_4, ti_5, ti_6, ti_7, ti_8, ti_9, ti_10, ti_11, ti_12, ti_m1]; omega)) (by first | assumption | omega | decide | (simp only [ti_0, ti_1, ti_2, ti_3, ti_4, ti_5, ti_6, ti_7, ti_8, ti_9, ti_10, ti_11, ti_12, ti_m1]; omega)) ⟨hP.sub [0, 1, 2] rfl, hD.sub [0, 1, 2] (by decide) rfl⟩ hS (lv_sub hl [0, 1, 3, 4] rfl)
set_option maxHeartbeats 4000000 in
set_option maxRecDepth 100000 in
theorem g_cutOf (l : Launch) (D : va_G) (cT : Nat → ClassId) (sz : Nat) (h0 : Nat) (o : Nat) (b : Nat → Nat) (g1 : Int32) (g2 : Int32) (g3 : Int32) (g4 : Int32) (hg2 : 0 ≤ g2.toInt ∧ g2.toInt ≤ 8) (hg4 : 0 ≤ g4.toInt ∧ g4.toInt ≤ 2559) (a : Nat → Nat) (p0 : Int32) (p1 : Int32) (p2 : Int32) (p3 : Int32) (p4 : Int32) (p5 : Int32) (p6 : Int32) (p7 : Int32) (p8 : Int32) (p9 : Int32) (tt : Nat) (kt : Nat → Int32) (x : Int32) (hxx : 0 ≤ x.toInt ∧ x.toInt ≤ 15) (k4 : Nat → Int32) (k5 : Nat → Int32) (e4 : EL k4 8 0 15) (f0 : Nat → Int32) : Met l yX2_cutOf (wsc yX2_cutOf cX2_cutOf 5 (some .int)) { frames := 2, cells := 0, slots := 0, locals := 100 } (va_Pc [.ref h0, .ref tt, .int x] (PX D cT sz [(sw_2 h0 o g1 (b 0) (b 1) (b 2) (b 3) (b 4) (b 5) g2 g3 g4), (sw_3 o p0 p1 p2 p3 p4 p5 p6 p7 p8 p9 (a 0) (a 1) (a 2) (a 3) (a 4) (a 5)), (sw_in cT (b 4) 8 k4), (sw_in cT (b 5) 8 k5), (sw_in cT tt 256 kt), (sw_in cT (a 0) 16 f0)])) (va_Qi (fun (r : Int32) (u : Unit) => True) (fun u t => RW D (va_A [(sw_2 h0 o g1 (b 0) (b 1) (b 2) (b 3) (b 4) (b 5) g2 g3 g4), (sw_3 o p0 p1 p2 p3 p4 p5 p6 p7 p8 p9 (a 0) (a 1) (a 2) (a 3) (a 4) (a 5)), (sw_in cT (b 4) 8 k4), (sw_in cT (b 5) 8 k5), (sw_in cT tt 256 kt), (sw_in cT (a 0) 16 f0)] sz) ((fun _ : Unit => [(sw_2 h0 o g1 (b 0) (b 1) (b 2) (b 3) (b 4) (b 5) g2 g3 g4), (sw_3 o p0 p1 p2 p3 p4 p5 p6 p7 p8 p9 (a 0) (a 1) (a 2) (a 3) (a 4) (a 5)), (sw_in cT (b 4) 8 k4), (sw_in cT (b 5) 8 k5), (sw_in cT tt 256 kt), (sw_in cT (a 0) 16 f0)]) u) t) (va_A [(sw_2 h0 o g1 (b 0) (b 1) (b 2) (b 3) (b 4) (b 5) g2 g3 g4), (sw_3 o p0 p1 p2 p3 p4 p5 p6 p7 p8 p9 (a 0) (a 1) (a 2) (a 3) (a 4) (a 5)), (sw_in cT (b 4) 8 k4), (sw_in cT (b 5) 8 k5), (sw_in cT tt 256 kt), (sw_in cT (a 0) 16 f0)] sz)) 0 0 (va_A [(sw_2 h0 o g1 (b 0) (b 1) (b 2) (b 3) (b 4) (b 5) g2 g3 g4), (sw_3 o p0 p1 p2 p3 p4 p5 p6 p7 p8 p9 (a 0) (a 1) (a 2) (a 3) (a 4) (a 5)), (sw_in cT (b 4) 8 k4), (sw_in cT (b 5) 8 k5), (sw_in cT tt 256 kt), (sw_in cT (a 0) 16 f0)] sz) := by
  refine m_of (y := yX2_cutOf) (cc := cX2_cutOf) (nL := 5) (ret := (some .int)) (D := D) (cT := cT) (av := [.ref h0, .ref tt, .int x]) (wi := [(sw_2 h0 o g1 (b 0) (b 1) (b 2) (b 3) (b 4) (b 5) g2 g3 g4), (sw_3 o p0 p1 p2 p3 p4 p5 p6 p7 p8 p9 (a 0) (a 1) (a 2) (a 3) (a 4) (a 5)), (sw_in cT (b 4) 8 k4), (sw_in cT (b 5) 8 k5), (sw_in cT tt 256 kt), (sw_in cT (a 0) 16 f0)]) (fun A => va_Qi (fun (r : Int32) (u : Unit) => True) (fun u t => RW D A ((fun _ : Unit => [(sw_2 h0 o g1 (b 0) (b 1) (b 2) (b 3) (b 4) (b 5) g2 g3 g4), (sw_3 o p0 p1 p2 p3 p4 p5 p6 p7 p8 p9 (a 0) (a 1) (a 2) (a 3) (a 4) (a 5)), (sw_in cT (b 4) 8 k4), (sw_in cT (b 5) 8 k5), (sw_in cT tt 256 kt), (sw_in cT (a 0) 16 f0)]) u) t) A) (by decide) (Nat.le_of_ble_eq_true rfl) ?_
  intro p e s m below meth c A hx hb hml hown htg hK hN hr hlk hnm hsz hP hD hS hA ls hl
  have hown : s.vm.findClass RX2 = some m.cls := hown
  have hl : lv_has ls 5 [(0, .ref h0), (1, .ref tt), (2, .int x)] := hl
  refine lv_iconst (v := 0) hx hb dX2_cutOf_0 (by decide) ?_
  refine lv_istore_n (lv' := [(3, .int 0), (0, .ref h0), (1, .ref tt), (2, .int x)]) hx hb dX2_cutOf_1 rfl hl (by decide) rfl (fun ls hl => ?_)
  refine lv_iconst (v := 0) hx hb dX2_cutOf_2 (by decide) ?_
  refine lv_istore (lv' := [(4, .int 0), (3, .int 0), (0, .ref h0), (1, .ref tt), (2, .int x)]) hx hb dX2_cutOf_3 hl (by decide) rfl (fun ls hl => ?_)
  refine (fun (key : ∀ (n9_5 : Nat) (k9_5 : Nat) (x9_5_3 : Int32) (H : Heap) (locs : List Loc) (ls : Array Slot), (k9_5 : Int) ≤ g2.toInt → g2.toInt < (k9_5 : Int) + n9_5 → PD D A [(sw_2 h0 o g1 (b 0) (b 1) (b 2) (b 3) (b 4) (b 5) g2 g3 g4), (sw_3 o p0 p1 p2 p3 p4 p5 p6 p7 p8 p9 (a 0) (a 1) (a 2) (a 3) (a 4) (a 5)), (sw_in cT (b 4) 8 k4), (sw_in cT (b 5) 8 k5), (sw_in cT tt 256 kt), (sw_in cT (a 0) 16 f0)] H → va_S A s.heap H locs → lv_has ls 5 [(4, .int (nI k9_5)), (3, .int x9_5_3), (0, .ref h0), (1, .ref tt), (2, .int x)] → W p l e _ s m _ below meth c H locs _ _ _ (F0 m 5 ls [])) => key (Int.toNat (g2.toInt - 0) + 1) 0 _ _ _ _ (by omega) (by omega)  ⟨hP, hD⟩ hS (lv_sub hl [0, 1, 2, 3, 4] rfl)) ?_
  intro n9_5
  induction n9_5 with
  | zero => intro k9_5 x9_5_3 H locs ls hq1 hq2; exact absurd hq2 (by omega)
  | succ n9_5 ih_5 =>
    intro k9_5 x9_5_3 H locs ls hq1_5 hq2_5  hPD hS hl
    obtain ⟨hP, hD⟩ := hPD
    have hk9_5 : (nI k9_5).toInt = (k9_5 : Int) := nI_toInt (by omega)
    refine lv_iload hx hb dX2_cutOf_5 (lv_at hl 0 rfl) ?_
    refine lv_aload_n hx hb dX2_cutOf_7 rfl (lv_at hl 2 rfl) ?_
    refine va_get (D := D) (ci := 2) (v := .int g2) (C := RX2) (T := TX2) (N := 11) hx hb htg gRX2 hown hK hP 0 rfl rfl 8 (by decide) (htg _ wi_358) (fun _ h9 => h9) rfl dX2_cutOf_8 ?_
    refine lv_icmp_ge (tgt := 45) hx hb dX2_cutOf_11 (by decide) (fun c_1 => ?_) (fun c_1 => ?_)
    · have ic_1 : g2.toInt ≤ ((k9_5 : Nat) : Int) := ile c_1 (rfl) (nI_toInt (by omega))
      refine lv_iload_n hx hb dX2_cutOf_45 rfl (lv_at hl 1 rfl) ?_
      refine lv_aload_n hx hb dX2_cutOf_46 rfl (lv_at hl 2 rfl) ?_
      refine va_get (D := D) (ci := 2) (v := .ref o) (C := RX2) (T := TX2) (N := 11) hx hb htg gRX2 hown hK hP 0 rfl rfl 0 (by decide) (htg _ wi_346) (fun _ h9 => h9) rfl dX2_cutOf_47 ?_
      refine va_getN (D := D) (ci := 3) (v := .ref (a 0)) (C := RX3) (T := TX3) (N := 16) hx hb htg gRX3 hown hK hP 1 rfl rfl 10 (by decide) (va_Nw.use rfl (hN.1 _ ni_201)) (fun _ h9 => h9) rfl dX2_cutOf_50 ?_
      refine lv_iload_n hx hb dX2_cutOf_53 rfl (lv_at hl 4 rfl) ?_
      refine va_iald hx hb hK hP 5 0 rfl rfl (vp_in_iff.mpr (by omega)) dX2_cutOf_54 ?_
      refine lv_topi (fun z_2 ez_2 => ?_)
      refine va_mmin hx hb (by rw [hml]; exact hl.1.symm) hown (htg _ wi_886) (htg _ wi_524) (htg _ wi_132) (htg _ wi_525) (Nat.le_of_ble_eq_true rfl) (Nat.le_of_ble_eq_true rfl) (Nat.le_of_ble_eq_true rfl) (Nat.le_of_ble_eq_true rfl) dX2_cutOf_55 ?_
      refine lv_topi (fun z_3 ez_3 => ?_)
      have iz_3 := minI (a := x9_5_3.toInt) (b := z_2.toInt) ez_3 (rfl) (rfl)
      exact x_iret hx hb hr hlk hP hD hS [0, 1, 2, 3, 4, 5] (()) rfl (by decide) trivial (by decide) (by decide) dX2_cutOf_58
    · have ic_1 : ((k9_5 : Nat) : Int) < g2.toInt := inle c_1 (rfl) (nI_toInt (by omega))
      refine lv_iload_n hx hb dX2_cutOf_14 rfl (lv_at hl 1 rfl) ?_
      refine lv_aload_n hx hb dX2_cutOf_15 rfl (lv_at hl 2 rfl) ?_
      refine va_get (D := D) (ci := 2) (v := .ref (b 5)) (C := RX2) (T := TX2) (N := 11) hx hb htg gRX2 hown hK hP 0 rfl rfl 7 (by decide) (htg _ wi_357) (fun _ h9 => h9) rfl dX2_cutOf_16 ?_
      refine lv_iload hx hb dX2_cutOf_19 (lv_at hl 0 rfl) ?_
      refine va_iald hx hb hK hP 3 0 rfl rfl (vp_in_nI (by omega) (by omega)) dX2_cutOf_21 ?_
      refine lv_topi (fun z_4 ez_4 => ?_)
      refine lv_aload_n hx hb dX2_cutOf_22 rfl (lv_at hl 3 rfl) ?_
      refine lv_aload_n hx hb dX2_cutOf_23 rfl (lv_at hl 2 rfl) ?_
      refine va_get (D := D) (ci := 2) (v := .ref (b 4)) (C := RX2) (T := TX2) (N := 11) hx hb htg gRX2 hown hK hP 0 rfl rfl 6 (by decide) (htg _ wi_356) (fun _ h9 => h9) rfl dX2_cutOf_24 ?_
      refine lv_iload hx hb dX2_cutOf_27 (lv_at hl 0 rfl) ?_
      refine va_iald hx hb hK hP 2 0 rfl rfl (vp_in_nI (by omega) (by omega)) dX2_cutOf_29 ?_
      refine lv_topi (fun z_5 ez_5 => ?_)
      have iz_5 : 0 ≤ z_5.toInt ∧ z_5.toInt ≤ 15 := by rw [ez_5]; exact e4 _ (in_lt (vp_in_nI (by omega) (by omega)))
      refine lv_bipush (v := 16) hx hb dX2_cutOf_30 (by decide) ?_
      refine lv_imul hx hb dX2_cutOf_32 ?_
      refine lv_topi (fun z_6 ez_6 => ?_)
      have iz_6 : z_6.toInt = z_5.toInt * 16 := toInt_mulI ez_6 (rfl) (by decide) (by omega)
      refine lv_iload_n hx hb dX2_cutOf_33 rfl (lv_at hl 4 rfl) ?_
      refine lv_iadd hx hb dX2_cutOf_34 ?_
      refine lv_topi (fun z_7 ez_7 => ?_)
      have iz_7 : z_7.toInt = z_6.toInt + x.toInt := toInt_addI ez_7 (rfl) (rfl) (by omega)
      refine va_iald hx hb hK hP 4 0 rfl rfl (vp_in_iff.mpr (by omega)) dX2_cutOf_35 ?_
      refine lv_topi (fun z_8 ez_8 => ?_)
      refine lv_imul hx hb dX2_cutOf_36 ?_
      refine lv_topi (fun z_9 ez_9 => ?_)
      refine lv_iadd hx hb dX2_cutOf_37 ?_
      refine lv_topi (fun z_10 ez_10 => ?_)
      refine lv_istore_n (lv' := [(3, .int z_10), (4, .int (nI k9_5)), (0, .ref h0), (1, .ref tt), (2, .int x)]) hx hb dX2_cutOf_38 rfl hl (by decide) rfl (fun ls hl => ?_)
      refine lv_iinc (v := (nI (k9_5 + 1))) (lv' := [(4, .int (nI (k9_5 + 1))), (3, .int z_10), (0, .ref h0), (1, .ref tt), (2, .int x)]) hx hb dX2_cutOf_39 hl (k := 1) rfl (by exact nI_1 (k9_5)) (by decide) rfl (fun ls hl => ?_)
      refine lv_goto (tgt := 5) hx hb dX2_cutOf_42 (by decide) ?_
      exact ih_5 (k9_5 + 1) _ _ _ _ (by omega) (by omega)  ⟨hP.sub [0, 1, 2, 3, 4, 5] rfl, hD.sub [0, 1, 2, 3, 4, 5] (by decide) rfl⟩ hS (lv_sub hl [0, 1, 2, 3, 4] rfl)
set_option maxHeartbeats 4000000 in
set_option maxRecDepth 100000 in
theorem g_stripsHungOver (l : Launch) (D : va_G) (cT : Nat → ClassId) (sz : Nat) (h0 : Nat) (o : Nat) (b : Nat → Nat) (g1 : Int32) (g2 : Int32) (g3 : Int32) (g4 : Int32) (hg2 : 0 ≤ g2.toInt ∧ g2.toInt ≤ 8) (hg4 : 0 ≤ g4.toInt ∧ g4.toInt ≤ 2559) (k4 : Nat → Int32) (e4 : EL k4 8 0 15) : Met l yX2_stripsHungOver (wsc yX2_stripsHungOver cX2_stripsHungOver 3 (some .int)) { frames := 2, cells := 0, slots := 0, locals := 100 } (va_Pc [.ref h0] (PX D cT sz [(sw_2 h0 o g1 (b 0) (b 1) (b 2) (b 3) (b 4) (b 5) g2 g3 g4), (sw_in cT (b 4) 8 k4)])) (va_Qi (fun (r : Int32) (u : Unit) => True) (fun u t => RW D (va_A [(sw_2 h0 o g1 (b 0) (b 1) (b 2) (b 3) (b 4) (b 5) g2 g3 g4), (sw_in cT (b 4) 8 k4)] sz) ((fun _ : Unit => [(sw_2 h0 o g1 (b 0) (b 1) (b 2) (b 3) (b 4) (b 5) g2 g3 g4), (sw_in cT (b 4) 8 k4)]) u) t) (va_A [(sw_2 h0 o g1 (b 0) (b 1) (b 2) (b 3) (b 4) (b 5) g2 g3 g4), (sw_in cT (b 4) 8 k4)] sz)) 0 0 (va_A [(sw_2 h0 o g1 (b 0) (b 1) (b 2) (b 3) (b 4) (b 5) g2 g3 g4), (sw_in cT (b 4) 8 k4)] sz) := by
  refine m_of (y := yX2_stripsHungOver) (cc := cX2_stripsHungOver) (nL := 3) (ret := (some .int)) (D := D) (cT := cT) (av := [.ref h0]) (wi := [(sw_2 h0 o g1 (b 0) (b 1) (b 2) (b 3) (b 4) (b 5) g2 g3 g4), (sw_in cT (b 4) 8 k4)]) (fun A => va_Qi (fun (r : Int32) (u : Unit) => True) (fun u t => RW D A ((fun _ : Unit => [(sw_2 h0 o g1 (b 0) (b 1) (b 2) (b 3) (b 4) (b 5) g2 g3 g4), (sw_in cT (b 4) 8 k4)]) u) t) A) (by decide) (Nat.le_of_ble_eq_true rfl) ?_
  intro p e s m below meth c A hx hb hml hown htg hK hN hr hlk hnm hsz hP hD hS hA ls hl
  have hown : s.vm.findClass RX2 = some m.cls := hown
  have hl : lv_has ls 3 [(0, .ref h0)] := hl
  refine lv_iconst (v := 0) hx hb dX2_stripsHungOver_0 (by decide) ?_
  refine lv_istore_n (lv' := [(1, .int 0), (0, .ref h0)]) hx hb dX2_stripsHungOver_1 rfl hl (by decide) rfl (fun ls hl => ?_)
  refine lv_iconst (v := 0) hx hb dX2_stripsHungOver_2 (by decide) ?_
  refine lv_istore_n (lv' := [(2, .int 0), (1, .int 0), (0, .ref h0)]) hx hb dX2_stripsHungOver_3 rfl hl (by decide) rfl (fun ls hl => ?_)
  refine (fun (key : ∀ (n9_4 : Nat) (k9_4 : Nat) (x9_4_1 : Int32) (H : Heap) (locs : List Loc) (ls : Array Slot), (k9_4 : Int) ≤ g2.toInt → g2.toInt < (k9_4 : Int) + n9_4 → PD D A [(sw_2 h0 o g1 (b 0) (b 1) (b 2) (b 3) (b 4) (b 5) g2 g3 g4), (sw_in cT (b 4) 8 k4)] H → va_S A s.heap H locs → lv_has ls 3 [(2, .int (nI k9_4)), (1, .int x9_4_1), (0, .ref h0)] → W p l e _ s m _ below meth c H locs _ _ _ (F0 m 4 ls [])) => key (Int.toNat (g2.toInt - 0) + 1) 0 _ _ _ _ (by omega) (by omega)  ⟨hP, hD⟩ hS (lv_sub hl [0, 1, 2] rfl)) ?_
  intro n9_4
  induction n9_4 with
  | zero => intro k9_4 x9_4_1 H locs ls hq1 hq2; exact absurd hq2 (by omega)
  | succ n9_4 ih_4 =>
    intro k9_4 x9_4_1 H locs ls hq1_4 hq2_4  hPD hS hl
    obtain ⟨hP, hD⟩ := hPD
    have hk9_4 : (nI k9_4).toInt = (k9_4 : Int) := nI_toInt (by omega)
    refine lv_iload_n hx hb dX2_stripsHungOver_4 rfl (lv_at hl 0 rfl) ?_
    refine lv_aload_n hx hb dX2_stripsHungOver_5 rfl (lv_at hl 2 rfl) ?_
    refine va_get (D := D) (ci := 2) (v := .int g2) (C := RX2) (T := TX2) (N := 11) hx hb htg gRX2 hown hK hP 0 rfl rfl 8 (by decide) (htg _ wi_358) (fun _ h9 => h9) rfl dX2_stripsHungOver_6 ?_
    refine lv_icmp_ge (tgt := 29) hx hb dX2_stripsHungOver_9 (by decide) (fun c_1 => ?_) (fun c_1 => ?_)
    · have ic_1 : g2.toInt ≤ ((k9_4 : Nat) : Int) := ile c_1 (rfl) (nI_toInt (by omega))
      refine lv_iload_n hx hb dX2_stripsHungOver_29 rfl (lv_at hl 1 rfl) ?_
      exact x_iret hx hb hr hlk hP hD hS [0, 1] (()) rfl (by decide) trivial (by decide) (by decide) dX2_stripsHungOver_30
    · have ic_1 : ((k9_4 : Nat) : Int) < g2.toInt := inle c_1 (rfl) (nI_toInt (by omega))
      refine lv_iload_n hx hb dX2_stripsHungOver_12 rfl (lv_at hl 1 rfl) ?_
      refine lv_iconst (v := 1) hx hb dX2_stripsHungOver_13 (by decide) ?_
      refine lv_aload_n hx hb dX2_stripsHungOver_14 rfl (lv_at hl 2 rfl) ?_
      refine va_get (D := D) (ci := 2) (v := .ref (b 4)) (C := RX2) (T := TX2) (N := 11) hx hb htg gRX2 hown hK hP 0 rfl rfl 6 (by decide) (htg _ wi_356) (fun _ h9 => h9) rfl dX2_stripsHungOver_15 ?_
      refine lv_iload_n hx hb dX2_stripsHungOver_18 rfl (lv_at hl 0 rfl) ?_
      refine va_iald hx hb hK hP 1 0 rfl rfl (vp_in_nI (by omega) (by omega)) dX2_stripsHungOver_19 ?_
      refine lv_topi (fun z_2 ez_2 => ?_)
      have iz_2 : 0 ≤ z_2.toInt ∧ z_2.toInt ≤ 15 := by rw [ez_2]; exact e4 _ (in_lt (vp_in_nI (by omega) (by omega)))
      refine lv_ishl hx hb dX2_stripsHungOver_20 ?_
      refine lv_topi (fun z_3 ez_3 => ?_)
      refine lv_ior hx hb dX2_stripsHungOver_21 ?_
      refine lv_topi (fun z_4 ez_4 => ?_)
      refine lv_istore_n (lv' := [(1, .int z_4), (2, .int (nI k9_4)), (0, .ref h0)]) hx hb dX2_stripsHungOver_22 rfl hl (by decide) rfl (fun ls hl => ?_)
      refine lv_iinc (v := (nI (k9_4 + 1))) (lv' := [(2, .int (nI (k9_4 + 1))), (1, .int z_4), (0, .ref h0)]) hx hb dX2_stripsHungOver_23 hl (k := 1) rfl (by exact nI_1 (k9_4)) (by decide) rfl (fun ls hl => ?_)
      refine lv_goto (tgt := 4) hx hb dX2_stripsHungOver_26 (by decide) ?_
      exact ih_4 (k9_4 + 1) _ _ _ _ (by omega) (by omega)  ⟨hP.sub [0, 1] rfl, hD.sub [0, 1] (by decide) rfl⟩ hS (lv_sub hl [0, 1, 2] rfl)
set_option maxHeartbeats 4000000 in
set_option maxRecDepth 100000 in
theorem g_fillCaps (l : Launch) (D : va_G) (cT : Nat → ClassId) (sz : Nat) (h0 : Nat) (o : Nat) (b : Nat → Nat) (g1 : Int32) (g2 : Int32) (g3 : Int32) (g4 : Int32) (a : Nat → Nat) (p0 : Int32) (p1 : Int32) (p2 : Int32) (p3 : Int32) (p4 : Int32) (p5 : Int32) (p6 : Int32) (p7 : Int32) (p8 : Int32) (p9 : Int32) (hs : 0 ≤ p0.toInt ∧ p0.toInt ≤ 16) (tt : Nat) (kt : Nat → Int32) (x : Int32) (f1 : Nat → Int32) (f2 : Nat → Int32) : Met l yX2_fillCaps (wsc yX2_fillCaps cX2_fillCaps 6 none) { frames := 4, cells := 0, slots := 0, locals := 148 } (va_Pc [.ref h0, .ref tt, .int x] (PX D cT sz [(sw_2 h0 o g1 (b 0) (b 1) (b 2) (b 3) (b 4) (b 5) g2 g3 g4), (sw_3 o p0 p1 p2 p3 p4 p5 p6 p7 p8 p9 (a 0) (a 1) (a 2) (a 3) (a 4) (a 5)), (sw_in cT tt 256 kt), (sw_in cT (a 1) 16 f1), (sw_in cT (a 2) 16 f2)])) (va_Qv (fun (u : Nat → Int32) => True) (fun u t => RW D (va_A [(sw_2 h0 o g1 (b 0) (b 1) (b 2) (b 3) (b 4) (b 5) g2 g3 g4), (sw_3 o p0 p1 p2 p3 p4 p5 p6 p7 p8 p9 (a 0) (a 1) (a 2) (a 3) (a 4) (a 5)), (sw_in cT tt 256 kt), (sw_in cT (a 1) 16 f1), (sw_in cT (a 2) 16 f2)] sz) ((fun u : Nat → Int32 => [(sw_2 h0 o g1 (b 0) (b 1) (b 2) (b 3) (b 4) (b 5) g2 g3 g4), (sw_3 o p0 p1 p2 p3 p4 p5 p6 p7 p8 p9 (a 0) (a 1) (a 2) (a 3) (a 4) (a 5)), (sw_in cT tt 256 u), (sw_in cT (a 1) 16 f1), (sw_in cT (a 2) 16 f2)]) u) t) (va_A [(sw_2 h0 o g1 (b 0) (b 1) (b 2) (b 3) (b 4) (b 5) g2 g3 g4), (sw_3 o p0 p1 p2 p3 p4 p5 p6 p7 p8 p9 (a 0) (a 1) (a 2) (a 3) (a 4) (a 5)), (sw_in cT tt 256 kt), (sw_in cT (a 1) 16 f1), (sw_in cT (a 2) 16 f2)] sz)) 0 0 (va_A [(sw_2 h0 o g1 (b 0) (b 1) (b 2) (b 3) (b 4) (b 5) g2 g3 g4), (sw_3 o p0 p1 p2 p3 p4 p5 p6 p7 p8 p9 (a 0) (a 1) (a 2) (a 3) (a 4) (a 5)), (sw_in cT tt 256 kt), (sw_in cT (a 1) 16 f1), (sw_in cT (a 2) 16 f2)] sz) := by
  refine m_of (y := yX2_fillCaps) (cc := cX2_fillCaps) (nL := 6) (ret := none) (D := D) (cT := cT) (av := [.ref h0, .ref tt, .int x]) (wi := [(sw_2 h0 o g1 (b 0) (b 1) (b 2) (b 3) (b 4) (b 5) g2 g3 g4), (sw_3 o p0 p1 p2 p3 p4 p5 p6 p7 p8 p9 (a 0) (a 1) (a 2) (a 3) (a 4) (a 5)), (sw_in cT tt 256 kt), (sw_in cT (a 1) 16 f1), (sw_in cT (a 2) 16 f2)]) (fun A => va_Qv (fun (u : Nat → Int32) => True) (fun u t => RW D A ((fun u : Nat → Int32 => [(sw_2 h0 o g1 (b 0) (b 1) (b 2) (b 3) (b 4) (b 5) g2 g3 g4), (sw_3 o p0 p1 p2 p3 p4 p5 p6 p7 p8 p9 (a 0) (a 1) (a 2) (a 3) (a 4) (a 5)), (sw_in cT tt 256 u), (sw_in cT (a 1) 16 f1), (sw_in cT (a 2) 16 f2)]) u) t) A) (by decide) (Nat.le_of_ble_eq_true rfl) ?_
  intro p e s m below meth c A hx hb hml hown htg hK hN hr hlk hnm hsz hP hD hS hA ls hl
  have hown : s.vm.findClass RX2 = some m.cls := hown
  have hl : lv_has ls 6 [(0, .ref h0), (1, .ref tt), (2, .int x)] := hl
  refine lv_iconst (v := 0) hx hb dX2_fillCaps_0 (by decide) ?_
  refine lv_istore_n (lv' := [(3, .int 0), (0, .ref h0), (1, .ref tt), (2, .int x)]) hx hb dX2_fillCaps_1 rfl hl (by decide) rfl (fun ls hl => ?_)
  refine (fun (key : ∀ (n9_2 : Nat) (k9_2 : Nat) (f9_2_0 : Nat → Int32) (H : Heap) (locs : List Loc) (ls : Array Slot), (k9_2 : Int) ≤ p0.toInt → p0.toInt < (k9_2 : Int) + n9_2 → PD D A [(sw_2 h0 o g1 (b 0) (b 1) (b 2) (b 3) (b 4) (b 5) g2 g3 g4), (sw_3 o p0 p1 p2 p3 p4 p5 p6 p7 p8 p9 (a 0) (a 1) (a 2) (a 3) (a 4) (a 5)), (sw_in cT tt 256 f9_2_0), (sw_in cT (a 1) 16 f1), (sw_in cT (a 2) 16 f2)] H → va_S A s.heap H locs → lv_has ls 6 [(3, .int (nI k9_2)), (0, .ref h0), (1, .ref tt), (2, .int x)] → W p l e _ s m _ below meth c H locs _ _ _ (F0 m 2 ls [])) => key (Int.toNat (p0.toInt - 0) + 1) 0 _ _ _ _ (by omega) (by omega)  ⟨hP, hD⟩ hS (lv_sub hl [0, 1, 2, 3] rfl)) ?_
  intro n9_2
  induction n9_2 with
  | zero => intro k9_2 f9_2_0 H locs ls hq1 hq2; exact absurd hq2 (by omega)
  | succ n9_2 ih_2 =>
    intro k9_2 f9_2_0 H locs ls hq1_2 hq2_2  hPD hS hl
    obtain ⟨hP, hD⟩ := hPD
    have hk9_2 : (nI k9_2).toInt = (k9_2 : Int) := nI_toInt (by omega)
    refine lv_iload_n hx hb dX2_fillCaps_2 rfl (lv_at hl 0 rfl) ?_
    refine lv_aload_n hx hb dX2_fillCaps_3 rfl (lv_at hl 1 rfl) ?_
    refine va_get (D := D) (ci := 2) (v := .ref o) (C := RX2) (T := TX2) (N := 11) hx hb htg gRX2 hown hK hP 0 rfl rfl 0 (by decide) (htg _ wi_346) (fun _ h9 => h9) rfl dX2_fillCaps_4 ?_
    refine va_getN (D := D) (ci := 3) (v := .int p0) (C := RX3) (T := TX3) (N := 16) hx hb htg gRX3 hown hK hP 1 rfl rfl 0 (by decide) (va_Nw.use rfl (hN.1 _ ni_167)) (fun _ h9 => h9) rfl dX2_fillCaps_7 ?_
    refine lv_icmp_ge (tgt := 82) hx hb dX2_fillCaps_10 (by decide) (fun c_1 => ?_) (fun c_1 => ?_)
    · have ic_1 : p0.toInt ≤ ((k9_2 : Nat) : Int) := ile c_1 (rfl) (nI_toInt (by omega))
      exact x_vret hx hb hr hlk hP hD hS [0, 1, 2, 3, 4] (f9_2_0) rfl (by decide) trivial (by decide) (by decide) dX2_fillCaps_82
    · have ic_1 : ((k9_2 : Nat) : Int) < p0.toInt := inle c_1 (rfl) (nI_toInt (by omega))
      refine lv_iconst (v := 0) hx hb dX2_fillCaps_13 (by decide) ?_
      refine lv_istore (lv' := [(4, .int 0), (3, .int (nI k9_2)), (0, .ref h0), (1, .ref tt), (2, .int x)]) hx hb dX2_fillCaps_14 hl (by decide) rfl (fun ls hl => ?_)
      refine (fun (key : ∀ (n9_16 : Nat) (k9_16 : Nat) (f9_16_0 : Nat → Int32) (H : Heap) (locs : List Loc) (ls : Array Slot), (k9_16 : Int) ≤ p0.toInt → p0.toInt < (k9_16 : Int) + n9_16 → PD D A [(sw_2 h0 o g1 (b 0) (b 1) (b 2) (b 3) (b 4) (b 5) g2 g3 g4), (sw_3 o p0 p1 p2 p3 p4 p5 p6 p7 p8 p9 (a 0) (a 1) (a 2) (a 3) (a 4) (a 5)), (sw_in cT tt 256 f9_16_0), (sw_in cT (a 1) 16 f1), (sw_in cT (a 2) 16 f2)] H → va_S A s.heap H locs → lv_has ls 6 [(4, .int (nI k9_16)), (3, .int (nI k9_2)), (0, .ref h0), (1, .ref tt), (2, .int x)] → W p l e _ s m _ below meth c H locs _ _ _ (F0 m 16 ls [])) => key (Int.toNat (p0.toInt - 0) + 1) 0 _ _ _ _ (by omega) (by omega)  ⟨hP, hD⟩ hS (lv_sub hl [0, 1, 2, 3, 4] rfl)) ?_
      intro n9_16
      induction n9_16 with
      | zero => intro k9_16 f9_16_0 H locs ls hq1 hq2; exact absurd hq2 (by omega)
      | succ n9_16 ih_16 =>
        intro k9_16 f9_16_0 H locs ls hq1_16 hq2_16  hPD hS hl
        obtain ⟨hP, hD⟩ := hPD
        have hk9_16 : (nI k9_16).toInt = (k9_16 : Int) := nI_toInt (by omega)
        refine lv_iload hx hb dX2_fillCaps_16 (lv_at hl 0 rfl) ?_
        refine lv_aload_n hx hb dX2_fillCaps_18 rfl (lv_at hl 2 rfl) ?_
        refine va_get (D := D) (ci := 2) (v := .ref o) (C := RX2) (T := TX2) (N := 11) hx hb htg gRX2 hown hK hP 0 rfl rfl 0 (by decide) (htg _ wi_346) (fun _ h9 => h9) rfl dX2_fillCaps_19 ?_
        refine va_getN (D := D) (ci := 3) (v := .int p0) (C := RX3) (T := TX3) (N := 16) hx hb htg gRX3 hown hK hP 1 rfl rfl 0 (by decide) (va_Nw.use rfl (hN.1 _ ni_167)) (fun _ h9 => h9) rfl dX2_fillCaps_22 ?_
        refine lv_icmp_ge (tgt := 76) hx hb dX2_fillCaps_25 (by decide) (fun c_2 => ?_) (fun c_2 => ?_)
        · have ic_2 : p0.toInt ≤ ((k9_16 : Nat) : Int) := ile c_2 (rfl) (nI_toInt (by omega))
          refine lv_iinc (v := (nI (k9_2 + 1))) (lv' := [(3, .int (nI (k9_2 + 1))), (4, .int (nI k9_16)), (0, .ref h0), (1, .ref tt), (2, .int x)]) hx hb dX2_fillCaps_76 hl (k := 1) rfl (by exact nI_1 (k9_2)) (by decide) rfl (fun ls hl => ?_)
          refine lv_goto (tgt := 2) hx hb dX2_fillCaps_79 (by decide) ?_
          exact ih_2 (k9_2 + 1) _ _ _ _ (by omega) (by omega)  ⟨hP.sub [0, 1, 2, 3, 4] rfl, hD.sub [0, 1, 2, 3, 4] (by decide) rfl⟩ hS (lv_sub hl [0, 2, 3, 4] rfl)
        · have ic_2 : ((k9_16 : Nat) : Int) < p0.toInt := inle c_2 (rfl) (nI_toInt (by omega))
          refine lv_iconst (v := 0) hx hb dX2_fillCaps_28 (by decide) ?_
          refine lv_aload_n hx hb dX2_fillCaps_29 rfl (lv_at hl 2 rfl) ?_
          refine va_get (D := D) (ci := 2) (v := .ref o) (C := RX2) (T := TX2) (N := 11) hx hb htg gRX2 hown hK hP 0 rfl rfl 0 (by decide) (htg _ wi_346) (fun _ h9 => h9) rfl dX2_fillCaps_30 ?_
          refine va_getN (D := D) (ci := 3) (v := .ref (a 1)) (C := RX3) (T := TX3) (N := 16) hx hb htg gRX3 hown hK hP 1 rfl rfl 11 (by decide) (va_Nw.use rfl (hN.1 _ ni_204)) (fun _ h9 => h9) rfl dX2_fillCaps_33 ?_
          refine lv_iload hx hb dX2_fillCaps_36 (lv_at hl 0 rfl) ?_
          refine va_iald hx hb hK hP 3 0 rfl rfl (vp_in_nI (by omega) (by omega)) dX2_fillCaps_38 ?_
          refine lv_topi (fun z_3 ez_3 => ?_)
          refine lv_iload_n hx hb dX2_fillCaps_39 rfl (lv_at hl 4 rfl) ?_
          refine lv_iadd hx hb dX2_fillCaps_40 ?_
          refine lv_topi (fun z_4 ez_4 => ?_)
          refine va_mmax hx hb (by rw [hml]; exact hl.1.symm) hown (htg _ wi_884) (htg _ wi_527) (htg _ wi_132) (htg _ wi_528) (Nat.le_of_ble_eq_true rfl) (Nat.le_of_ble_eq_true rfl) (Nat.le_of_ble_eq_true rfl) (Nat.le_of_ble_eq_true rfl) dX2_fillCaps_41 ?_
          refine lv_topi (fun z_5 ez_5 => ?_)
          have iz_5 := maxI (a := 0) (b := z_4.toInt) ez_5 (by decide) (rfl)
          refine lv_istore (lv' := [(5, .int z_5), (4, .int (nI k9_16)), (3, .int (nI k9_2)), (0, .ref h0), (1, .ref tt), (2, .int x)]) hx hb dX2_fillCaps_44 hl (by decide) rfl (fun ls hl => ?_)
          refine lv_aload_n hx hb dX2_fillCaps_46 rfl (lv_at hl 4 rfl) ?_
          refine lv_iload_n hx hb dX2_fillCaps_47 rfl (lv_at hl 2 rfl) ?_
          refine lv_bipush (v := 16) hx hb dX2_fillCaps_48 (by decide) ?_
          refine lv_imul hx hb dX2_fillCaps_50 ?_
          refine lv_topi (fun z_6 ez_6 => ?_)
          have iz_6 : z_6.toInt = ((k9_2 : Nat) : Int) * 16 := toInt_mulI ez_6 (nI_toInt (by omega)) (by decide) (by omega)
          refine lv_iload hx hb dX2_fillCaps_51 (lv_at hl 1 rfl) ?_
          refine lv_iadd hx hb dX2_fillCaps_53 ?_
          refine lv_topi (fun z_7 ez_7 => ?_)
          have iz_7 : z_7.toInt = z_6.toInt + ((k9_16 : Nat) : Int) := toInt_addI ez_7 (rfl) (nI_toInt (by omega)) (by omega)
          refine lv_iload hx hb dX2_fillCaps_54 (lv_at hl 0 rfl) ?_
          refine lv_aload_n hx hb dX2_fillCaps_56 rfl (lv_at hl 3 rfl) ?_
          refine va_get (D := D) (ci := 2) (v := .ref o) (C := RX2) (T := TX2) (N := 11) hx hb htg gRX2 hown hK hP 0 rfl rfl 0 (by decide) (htg _ wi_346) (fun _ h9 => h9) rfl dX2_fillCaps_57 ?_
          refine lv_iload_n hx hb dX2_fillCaps_60 rfl (lv_at hl 2 rfl) ?_
          refine lv_iload hx hb dX2_fillCaps_61 (lv_at hl 1 rfl) ?_
          refine xk_i (wr := [(sw_2 h0 o g1 (b 0) (b 1) (b 2) (b 3) (b 4) (b 5) g2 g3 g4), (sw_in cT tt 256 f9_16_0), (sw_in cT (a 1) 16 f1)]) (xr_VN (n := 2) (As := [.int (nI k9_2), .int (nI k9_16)]) (rest := [.int z_5, .int z_7, .ref tt]) ⟨hx, hb, hml, hown, htg⟩ hK hN hP hD hS hA [1, 4] rfl (by decide) (g_lightOf l D cT _ (o) (a) (p0) (p1) (p2) (p3) (p4) (p5) (p6) (p7) (p8) (p9) ((nI k9_2)) ((nI k9_16)) (by first | assumption | decide | omega | (simp only [ti_0, ti_1, ti_2, ti_3, ti_4, ti_5, ti_6, ti_7, ti_8, ti_9, ti_10, ti_11, ti_12, ti_m1]; omega)) (by first | assumption | decide | omega | (simp only [ti_0, ti_1, ti_2, ti_3, ti_4, ti_5, ti_6, ti_7, ti_8, ti_9, ti_10, ti_11, ti_12, ti_m1]; omega)) (f2)) ni_885 wi_672 wi_19 wi_123 wi_673 rfl rfl rfl ⟨rfl, by decide +kernel⟩ ⟨Nat.le_of_ble_eq_true rfl, Nat.le_of_ble_eq_true rfl⟩ rfl hl.1 rfl (Nat.le_of_ble_eq_true rfl) dX2_fillCaps_63 ⟨Nat.le_of_ble_eq_true rfl, Nat.le_of_ble_eq_true rfl⟩) hP hD hS hA [1, 4] [0, 2, 3] rfl rfl (by decide) (by decide) (fun r_9 u_8 H locs hwr_9 hP hD hS => ?_)
          obtain ⟨hP, hD⟩ : PD D A [(sw_2 h0 o g1 (b 0) (b 1) (b 2) (b 3) (b 4) (b 5) g2 g3 g4), (sw_in cT tt 256 f9_16_0), (sw_in cT (a 1) 16 f1), (sw_3 o p0 p1 p2 p3 p4 p5 p6 p7 p8 p9 (a 0) (a 1) (a 2) (a 3) (a 4) (a 5)), (sw_in cT (a 2) 16 f2)] _ := ⟨hP, hD⟩
          refine va_mmin hx hb (by rw [hml]; exact hl.1.symm) hown (htg _ wi_886) (htg _ wi_524) (htg _ wi_132) (htg _ wi_525) (Nat.le_of_ble_eq_true rfl) (Nat.le_of_ble_eq_true rfl) (Nat.le_of_ble_eq_true rfl) (Nat.le_of_ble_eq_true rfl) dX2_fillCaps_66 ?_
          refine lv_topi (fun z_10 ez_10 => ?_)
          have iz_10 := minI (a := z_5.toInt) (b := r_9.toInt) ez_10 (rfl) (rfl)
          refine va_iast hx hb hK hP hD hS 1 0 rfl rfl (vp_in_iff.mpr (by omega)) dX2_fillCaps_69 (fun H locs hP hD hS => ?_)
          obtain ⟨f_11, hP, hD⟩ : ∃ f_11 : Nat → Int32, PD D A [(sw_2 h0 o g1 (b 0) (b 1) (b 2) (b 3) (b 4) (b 5) g2 g3 g4), (sw_in cT tt 256 f_11), (sw_in cT (a 1) 16 f1), (sw_3 o p0 p1 p2 p3 p4 p5 p6 p7 p8 p9 (a 0) (a 1) (a 2) (a 3) (a 4) (a 5)), (sw_in cT (a 2) 16 f2)] H := ⟨_, hP, hD⟩
          refine lv_iinc (v := (nI (k9_16 + 1))) (lv' := [(4, .int (nI (k9_16 + 1))), (5, .int z_5), (3, .int (nI k9_2)), (0, .ref h0), (1, .ref tt), (2, .int x)]) hx hb dX2_fillCaps_70 hl (k := 1) rfl (by exact nI_1 (k9_16)) (by decide) rfl (fun ls hl => ?_)
          refine lv_goto (tgt := 16) hx hb dX2_fillCaps_73 (by decide) ?_
          exact ih_16 (k9_16 + 1) _ _ _ _ (by omega) (by omega)  ⟨hP.sub [0, 3, 1, 2, 4] rfl, hD.sub [0, 3, 1, 2, 4] (by decide) rfl⟩ hS (lv_sub hl [0, 2, 3, 4, 5] rfl)
set_option maxHeartbeats 4000000 in
set_option maxRecDepth 100000 in
theorem g_weighedScore (l : Launch) (D : va_G) (cT : Nat → ClassId) (sz : Nat) (h0 : Nat) (o : Nat) (b : Nat → Nat) (g1 : Int32) (g2 : Int32) (g3 : Int32) (g4 : Int32) (hg2 : 0 ≤ g2.toInt ∧ g2.toInt ≤ 8) (hg4 : 0 ≤ g4.toInt ∧ g4.toInt ≤ 2559) (a : Nat → Nat) (p0 : Int32) (p1 : Int32) (p2 : Int32) (p3 : Int32) (p4 : Int32) (p5 : Int32) (p6 : Int32) (p7 : Int32) (p8 : Int32) (p9 : Int32) (hs : 0 ≤ p0.toInt ∧ p0.toInt ≤ 16) (k0 : Nat → Int32) (k1 : Nat → Int32) (k4 : Nat → Int32) (k5 : Nat → Int32) (e4 : EL k4 8 0 15) (f0 : Nat → Int32) : Met l yX2_weighedScore (wsc yX2_weighedScore cX2_weighedScore 3 (some .int)) { frames := 3, cells := 0, slots := 0, locals := 124 } (va_Pc [.ref h0] (PX D cT sz [(sw_2 h0 o g1 (b 0) (b 1) (b 2) (b 3) (b 4) (b 5) g2 g3 g4), (sw_3 o p0 p1 p2 p3 p4 p5 p6 p7 p8 p9 (a 0) (a 1) (a 2) (a 3) (a 4) (a 5)), (sw_in cT (b 0) 16 k0), (sw_in cT (b 1) 256 k1), (sw_in cT (b 4) 8 k4), (sw_in cT (b 5) 8 k5), (sw_in cT (a 0) 16 f0)])) (va_Qi (fun (r : Int32) (u : Unit) => True) (fun u t => RW D (va_A [(sw_2 h0 o g1 (b 0) (b 1) (b 2) (b 3) (b 4) (b 5) g2 g3 g4), (sw_3 o p0 p1 p2 p3 p4 p5 p6 p7 p8 p9 (a 0) (a 1) (a 2) (a 3) (a 4) (a 5)), (sw_in cT (b 0) 16 k0), (sw_in cT (b 1) 256 k1), (sw_in cT (b 4) 8 k4), (sw_in cT (b 5) 8 k5), (sw_in cT (a 0) 16 f0)] sz) ((fun _ : Unit => [(sw_2 h0 o g1 (b 0) (b 1) (b 2) (b 3) (b 4) (b 5) g2 g3 g4), (sw_3 o p0 p1 p2 p3 p4 p5 p6 p7 p8 p9 (a 0) (a 1) (a 2) (a 3) (a 4) (a 5)), (sw_in cT (b 0) 16 k0), (sw_in cT (b 1) 256 k1), (sw_in cT (b 4) 8 k4), (sw_in cT (b 5) 8 k5), (sw_in cT (a 0) 16 f0)]) u) t) (va_A [(sw_2 h0 o g1 (b 0) (b 1) (b 2) (b 3) (b 4) (b 5) g2 g3 g4), (sw_3 o p0 p1 p2 p3 p4 p5 p6 p7 p8 p9 (a 0) (a 1) (a 2) (a 3) (a 4) (a 5)), (sw_in cT (b 0) 16 k0), (sw_in cT (b 1) 256 k1), (sw_in cT (b 4) 8 k4), (sw_in cT (b 5) 8 k5), (sw_in cT (a 0) 16 f0)] sz)) 0 0 (va_A [(sw_2 h0 o g1 (b 0) (b 1) (b 2) (b 3) (b 4) (b 5) g2 g3 g4), (sw_3 o p0 p1 p2 p3 p4 p5 p6 p7 p8 p9 (a 0) (a 1) (a 2) (a 3) (a 4) (a 5)), (sw_in cT (b 0) 16 k0), (sw_in cT (b 1) 256 k1), (sw_in cT (b 4) 8 k4), (sw_in cT (b 5) 8 k5), (sw_in cT (a 0) 16 f0)] sz) := by
  refine m_of (y := yX2_weighedScore) (cc := cX2_weighedScore) (nL := 3) (ret := (some .int)) (D := D) (cT := cT) (av := [.ref h0]) (wi := [(sw_2 h0 o g1 (b 0) (b 1) (b 2) (b 3) (b 4) (b 5) g2 g3 g4), (sw_3 o p0 p1 p2 p3 p4 p5 p6 p7 p8 p9 (a 0) (a 1) (a 2) (a 3) (a 4) (a 5)), (sw_in cT (b 0) 16 k0), (sw_in cT (b 1) 256 k1), (sw_in cT (b 4) 8 k4), (sw_in cT (b 5) 8 k5), (sw_in cT (a 0) 16 f0)]) (fun A => va_Qi (fun (r : Int32) (u : Unit) => True) (fun u t => RW D A ((fun _ : Unit => [(sw_2 h0 o g1 (b 0) (b 1) (b 2) (b 3) (b 4) (b 5) g2 g3 g4), (sw_3 o p0 p1 p2 p3 p4 p5 p6 p7 p8 p9 (a 0) (a 1) (a 2) (a 3) (a 4) (a 5)), (sw_in cT (b 0) 16 k0), (sw_in cT (b 1) 256 k1), (sw_in cT (b 4) 8 k4), (sw_in cT (b 5) 8 k5), (sw_in cT (a 0) 16 f0)]) u) t) A) (by decide) (Nat.le_of_ble_eq_true rfl) ?_
  intro p e s m below meth c A hx hb hml hown htg hK hN hr hlk hnm hsz hP hD hS hA ls hl
  have hown : s.vm.findClass RX2 = some m.cls := hown
  have hl : lv_has ls 3 [(0, .ref h0)] := hl
  refine lv_iconst (v := 0) hx hb dX2_weighedScore_0 (by decide) ?_
  refine lv_istore_n (lv' := [(1, .int 0), (0, .ref h0)]) hx hb dX2_weighedScore_1 rfl hl (by decide) rfl (fun ls hl => ?_)
  refine lv_iconst (v := 0) hx hb dX2_weighedScore_2 (by decide) ?_
  refine lv_istore_n (lv' := [(2, .int 0), (1, .int 0), (0, .ref h0)]) hx hb dX2_weighedScore_3 rfl hl (by decide) rfl (fun ls hl => ?_)
  refine (fun (key : ∀ (n9_4 : Nat) (k9_4 : Nat) (x9_4_1 : Int32) (H : Heap) (locs : List Loc) (ls : Array Slot), (k9_4 : Int) ≤ p0.toInt → p0.toInt < (k9_4 : Int) + n9_4 → PD D A [(sw_2 h0 o g1 (b 0) (b 1) (b 2) (b 3) (b 4) (b 5) g2 g3 g4), (sw_3 o p0 p1 p2 p3 p4 p5 p6 p7 p8 p9 (a 0) (a 1) (a 2) (a 3) (a 4) (a 5)), (sw_in cT (b 0) 16 k0), (sw_in cT (b 1) 256 k1), (sw_in cT (b 4) 8 k4), (sw_in cT (b 5) 8 k5), (sw_in cT (a 0) 16 f0)] H → va_S A s.heap H locs → lv_has ls 3 [(2, .int (nI k9_4)), (1, .int x9_4_1), (0, .ref h0)] → W p l e _ s m _ below meth c H locs _ _ _ (F0 m 4 ls [])) => key (Int.toNat (p0.toInt - 0) + 1) 0 _ _ _ _ (by omega) (by omega)  ⟨hP, hD⟩ hS (lv_sub hl [0, 1, 2] rfl)) ?_
  intro n9_4
  induction n9_4 with
  | zero => intro k9_4 x9_4_1 H locs ls hq1 hq2; exact absurd hq2 (by omega)
  | succ n9_4 ih_4 =>
    intro k9_4 x9_4_1 H locs ls hq1_4 hq2_4  hPD hS hl
    obtain ⟨hP, hD⟩ := hPD
    have hk9_4 : (nI k9_4).toInt = (k9_4 : Int) := nI_toInt (by omega)
    refine lv_iload_n hx hb dX2_weighedScore_4 rfl (lv_at hl 0 rfl) ?_
    refine lv_aload_n hx hb dX2_weighedScore_5 rfl (lv_at hl 2 rfl) ?_
    refine va_get (D := D) (ci := 2) (v := .ref o) (C := RX2) (T := TX2) (N := 11) hx hb htg gRX2 hown hK hP 0 rfl rfl 0 (by decide) (htg _ wi_346) (fun _ h9 => h9) rfl dX2_weighedScore_6 ?_
    refine va_getN (D := D) (ci := 3) (v := .int p0) (C := RX3) (T := TX3) (N := 16) hx hb htg gRX3 hown hK hP 1 rfl rfl 0 (by decide) (va_Nw.use rfl (hN.1 _ ni_167)) (fun _ h9 => h9) rfl dX2_weighedScore_9 ?_
    refine lv_icmp_ge (tgt := 61) hx hb dX2_weighedScore_12 (by decide) (fun c_1 => ?_) (fun c_1 => ?_)
    · have ic_1 : p0.toInt ≤ ((k9_4 : Nat) : Int) := ile c_1 (rfl) (nI_toInt (by omega))
      refine lv_iload_n hx hb dX2_weighedScore_61 rfl (lv_at hl 1 rfl) ?_
      exact x_iret hx hb hr hlk hP hD hS [0, 1, 2, 3, 4, 5, 6] (()) rfl (by decide) trivial (by decide) (by decide) dX2_weighedScore_62
    · have ic_1 : ((k9_4 : Nat) : Int) < p0.toInt := inle c_1 (rfl) (nI_toInt (by omega))
      refine lv_aload_n hx hb dX2_weighedScore_15 rfl (lv_at hl 2 rfl) ?_
      refine va_get (D := D) (ci := 2) (v := .ref (b 0)) (C := RX2) (T := TX2) (N := 11) hx hb htg gRX2 hown hK hP 0 rfl rfl 2 (by decide) (htg _ wi_350) (fun _ h9 => h9) rfl dX2_weighedScore_16 ?_
      refine lv_iload_n hx hb dX2_weighedScore_19 rfl (lv_at hl 0 rfl) ?_
      refine va_iald hx hb hK hP 2 0 rfl rfl (vp_in_nI (by omega) (by omega)) dX2_weighedScore_20 ?_
      refine lv_topi (fun z_2 ez_2 => ?_)
      refine lv_if_eq (tgt := 55) hx hb dX2_weighedScore_21 (by decide) (fun c_3 => ?_) (fun c_3 => ?_)
      · have ic_3 : z_2.toInt = 0 := ieq c_3 (rfl) (by decide)
        refine lv_iinc (v := (nI (k9_4 + 1))) (lv' := [(2, .int (nI (k9_4 + 1))), (1, .int x9_4_1), (0, .ref h0)]) hx hb dX2_weighedScore_55 hl (k := 0) rfl (by exact nI_1 (k9_4)) (by decide) rfl (fun ls hl => ?_)
        refine lv_goto (tgt := 4) hx hb dX2_weighedScore_58 (by decide) ?_
        exact ih_4 (k9_4 + 1) _ _ _ _ (by omega) (by omega)  ⟨hP.sub [0, 1, 2, 3, 4, 5, 6] rfl, hD.sub [0, 1, 2, 3, 4, 5, 6] (by decide) rfl⟩ hS (lv_sub hl [0, 1, 2] rfl)
      · have ic_3 : ¬ z_2.toInt = 0 := ine c_3 (rfl) (by decide)
        refine lv_aload_n hx hb dX2_weighedScore_24 rfl (lv_at hl 2 rfl) ?_
        refine va_get (D := D) (ci := 2) (v := .ref o) (C := RX2) (T := TX2) (N := 11) hx hb htg gRX2 hown hK hP 0 rfl rfl 0 (by decide) (htg _ wi_346) (fun _ h9 => h9) rfl dX2_weighedScore_25 ?_
        refine va_getN (D := D) (ci := 3) (v := .ref (a 0)) (C := RX3) (T := TX3) (N := 16) hx hb htg gRX3 hown hK hP 1 rfl rfl 10 (by decide) (va_Nw.use rfl (hN.1 _ ni_201)) (fun _ h9 => h9) rfl dX2_weighedScore_28 ?_
        refine lv_iload_n hx hb dX2_weighedScore_31 rfl (lv_at hl 0 rfl) ?_
        refine va_iald hx hb hK hP 6 0 rfl rfl (vp_in_nI (by omega) (by omega)) dX2_weighedScore_32 ?_
        refine lv_topi (fun z_4 ez_4 => ?_)
        refine lv_if_eq (tgt := 55) hx hb dX2_weighedScore_33 (by decide) (fun c_5 => ?_) (fun c_5 => ?_)
        · have ic_5 : z_4.toInt = 0 := ieq c_5 (rfl) (by decide)
          refine lv_iinc (v := (nI (k9_4 + 1))) (lv' := [(2, .int (nI (k9_4 + 1))), (1, .int x9_4_1), (0, .ref h0)]) hx hb dX2_weighedScore_55 hl (k := 0) rfl (by exact nI_1 (k9_4)) (by decide) rfl (fun ls hl => ?_)
          refine lv_goto (tgt := 4) hx hb dX2_weighedScore_58 (by decide) ?_
          exact ih_4 (k9_4 + 1) _ _ _ _ (by omega) (by omega)  ⟨hP.sub [0, 1, 2, 3, 4, 5, 6] rfl, hD.sub [0, 1, 2, 3, 4, 5, 6] (by decide) rfl⟩ hS (lv_sub hl [0, 1, 2] rfl)
        · have ic_5 : ¬ z_4.toInt = 0 := ine c_5 (rfl) (by decide)
          refine lv_iload_n hx hb dX2_weighedScore_36 rfl (lv_at hl 1 rfl) ?_
          refine lv_aload_n hx hb dX2_weighedScore_37 rfl (lv_at hl 2 rfl) ?_
          refine va_get (D := D) (ci := 2) (v := .ref (b 0)) (C := RX2) (T := TX2) (N := 11) hx hb htg gRX2 hown hK hP 0 rfl rfl 2 (by decide) (htg _ wi_350) (fun _ h9 => h9) rfl dX2_weighedScore_38 ?_
          refine lv_iload_n hx hb dX2_weighedScore_41 rfl (lv_at hl 0 rfl) ?_
          refine va_iald hx hb hK hP 2 0 rfl rfl (vp_in_nI (by omega) (by omega)) dX2_weighedScore_42 ?_
          refine lv_topi (fun z_6 ez_6 => ?_)
          refine lv_aload_n hx hb dX2_weighedScore_43 rfl (lv_at hl 2 rfl) ?_
          refine lv_aload_n hx hb dX2_weighedScore_44 rfl (lv_at hl 2 rfl) ?_
          refine va_get (D := D) (ci := 2) (v := .ref (b 1)) (C := RX2) (T := TX2) (N := 11) hx hb htg gRX2 hown hK hP 0 rfl rfl 3 (by decide) (htg _ wi_351) (fun _ h9 => h9) rfl dX2_weighedScore_45 ?_
          refine lv_iload_n hx hb dX2_weighedScore_48 rfl (lv_at hl 0 rfl) ?_
          refine xk_i (wr := [(sw_in cT (b 0) 16 k0)]) (xr_V (n := 2) (As := [.ref (b 1), .int (nI k9_4)]) (rest := [.int z_6, .int x9_4_1]) ⟨hx, hb, hml, hown, htg⟩ hK hN hP hD hS hA [0, 1, 4, 5, 3, 6] rfl (by decide) (g_cutOf l D cT _ (h0) (o) (b) (g1) (g2) (g3) (g4) (by first | assumption | decide | omega | (simp only [ti_0, ti_1, ti_2, ti_3, ti_4, ti_5, ti_6, ti_7, ti_8, ti_9, ti_10, ti_11, ti_12, ti_m1]; omega)) (by first | assumption | decide | omega | (simp only [ti_0, ti_1, ti_2, ti_3, ti_4, ti_5, ti_6, ti_7, ti_8, ti_9, ti_10, ti_11, ti_12, ti_m1]; omega)) (a) (p0) (p1) (p2) (p3) (p4) (p5) (p6) (p7) (p8) (p9) ((b 1)) (k1) ((nI k9_4)) (by first | assumption | decide | omega | (simp only [ti_0, ti_1, ti_2, ti_3, ti_4, ti_5, ti_6, ti_7, ti_8, ti_9, ti_10, ti_11, ti_12, ti_m1]; omega)) (k4) (k5) (by first | assumption | decide | omega | (simp only [ti_0, ti_1, ti_2, ti_3, ti_4, ti_5, ti_6, ti_7, ti_8, ti_9, ti_10, ti_11, ti_12, ti_m1]; omega)) (f0)) wi_911 wi_913 wi_55 wi_126 wi_914 rfl rfl rfl ⟨rfl, by decide +kernel⟩ ⟨Nat.le_of_ble_eq_true rfl, Nat.le_of_ble_eq_true rfl⟩ rfl hl.1 rfl (Nat.le_of_ble_eq_true rfl) dX2_weighedScore_49 ⟨Nat.le_of_ble_eq_true rfl, Nat.le_of_ble_eq_true rfl⟩) hP hD hS hA [0, 1, 4, 5, 3, 6] [2] rfl rfl (by decide) (by decide) (fun r_8 u_7 H locs hwr_8 hP hD hS => ?_)
          obtain ⟨hP, hD⟩ : PD D A [(sw_in cT (b 0) 16 k0), (sw_2 h0 o g1 (b 0) (b 1) (b 2) (b 3) (b 4) (b 5) g2 g3 g4), (sw_3 o p0 p1 p2 p3 p4 p5 p6 p7 p8 p9 (a 0) (a 1) (a 2) (a 3) (a 4) (a 5)), (sw_in cT (b 4) 8 k4), (sw_in cT (b 5) 8 k5), (sw_in cT (b 1) 256 k1), (sw_in cT (a 0) 16 f0)] _ := ⟨hP, hD⟩
          refine lv_imul hx hb dX2_weighedScore_52 ?_
          refine lv_topi (fun z_9 ez_9 => ?_)
          refine lv_iadd hx hb dX2_weighedScore_53 ?_
          refine lv_topi (fun z_10 ez_10 => ?_)
          refine lv_istore_n (lv' := [(1, .int z_10), (2, .int (nI k9_4)), (0, .ref h0)]) hx hb dX2_weighedScore_54 rfl hl (by decide) rfl (fun ls hl => ?_)
          refine lv_iinc (v := (nI (k9_4 + 1))) (lv' := [(2, .int (nI (k9_4 + 1))), (1, .int z_10), (0, .ref h0)]) hx hb dX2_weighedScore_55 hl (k := 1) rfl (by exact nI_1 (k9_4)) (by decide) rfl (fun ls hl => ?_)
          refine lv_goto (tgt := 4) hx hb dX2_weighedScore_58 (by decide) ?_
          exact ih_4 (k9_4 + 1) _ _ _ _ (by omega) (by omega)  ⟨hP.sub [1, 2, 0, 5, 3, 4, 6] rfl, hD.sub [1, 2, 0, 5, 3, 4, 6] (by decide) rfl⟩ hS (lv_sub hl [0, 1, 2] rfl)
set_option maxHeartbeats 4000000 in
set_option maxRecDepth 100000 in
theorem g_fairScore (l : Launch) (D : va_G) (cT : Nat → ClassId) (sz : Nat) (h0 : Nat) (o : Nat) (b : Nat → Nat) (g1 : Int32) (g2 : Int32) (g3 : Int32) (g4 : Int32) (hg2 : 0 ≤ g2.toInt ∧ g2.toInt ≤ 8) (hg4 : 0 ≤ g4.toInt ∧ g4.toInt ≤ 2559) (a : Nat → Nat) (p0 : Int32) (p1 : Int32) (p2 : Int32) (p3 : Int32) (p4 : Int32) (p5 : Int32) (p6 : Int32) (p7 : Int32) (p8 : Int32) (p9 : Int32) (hs : 0 ≤ p0.toInt ∧ p0.toInt ≤ 16) (k1 : Nat → Int32) (k3 : Nat → Int32) (k4 : Nat → Int32) (k5 : Nat → Int32) (e4 : EL k4 8 0 15) (f0 : Nat → Int32) (f3 : Nat → Int32) (e3 : EL f3 16 0 5) : Met l yX2_fairScore (wsc yX2_fairScore cX2_fairScore 4 (some .int)) { frames := 3, cells := 0, slots := 0, locals := 124 } (va_Pc [.ref h0] (PX D cT sz [(sw_2 h0 o g1 (b 0) (b 1) (b 2) (b 3) (b 4) (b 5) g2 g3 g4), (sw_3 o p0 p1 p2 p3 p4 p5 p6 p7 p8 p9 (a 0) (a 1) (a 2) (a 3) (a 4) (a 5)), (sw_in cT (b 1) 256 k1), (sw_in cT (b 3) 6 k3), (sw_in cT (b 4) 8 k4), (sw_in cT (b 5) 8 k5), (sw_in cT (a 0) 16 f0), (sw_in cT (a 3) 16 f3)])) (va_Qi (fun (r : Int32) (u : Nat → Int32) => True) (fun u t => RW D (va_A [(sw_2 h0 o g1 (b 0) (b 1) (b 2) (b 3) (b 4) (b 5) g2 g3 g4), (sw_3 o p0 p1 p2 p3 p4 p5 p6 p7 p8 p9 (a 0) (a 1) (a 2) (a 3) (a 4) (a 5)), (sw_in cT (b 1) 256 k1), (sw_in cT (b 3) 6 k3), (sw_in cT (b 4) 8 k4), (sw_in cT (b 5) 8 k5), (sw_in cT (a 0) 16 f0), (sw_in cT (a 3) 16 f3)] sz) ((fun u : Nat → Int32 => [(sw_2 h0 o g1 (b 0) (b 1) (b 2) (b 3) (b 4) (b 5) g2 g3 g4), (sw_3 o p0 p1 p2 p3 p4 p5 p6 p7 p8 p9 (a 0) (a 1) (a 2) (a 3) (a 4) (a 5)), (sw_in cT (b 1) 256 k1), (sw_in cT (b 3) 6 u), (sw_in cT (b 4) 8 k4), (sw_in cT (b 5) 8 k5), (sw_in cT (a 0) 16 f0), (sw_in cT (a 3) 16 f3)]) u) t) (va_A [(sw_2 h0 o g1 (b 0) (b 1) (b 2) (b 3) (b 4) (b 5) g2 g3 g4), (sw_3 o p0 p1 p2 p3 p4 p5 p6 p7 p8 p9 (a 0) (a 1) (a 2) (a 3) (a 4) (a 5)), (sw_in cT (b 1) 256 k1), (sw_in cT (b 3) 6 k3), (sw_in cT (b 4) 8 k4), (sw_in cT (b 5) 8 k5), (sw_in cT (a 0) 16 f0), (sw_in cT (a 3) 16 f3)] sz)) 0 0 (va_A [(sw_2 h0 o g1 (b 0) (b 1) (b 2) (b 3) (b 4) (b 5) g2 g3 g4), (sw_3 o p0 p1 p2 p3 p4 p5 p6 p7 p8 p9 (a 0) (a 1) (a 2) (a 3) (a 4) (a 5)), (sw_in cT (b 1) 256 k1), (sw_in cT (b 3) 6 k3), (sw_in cT (b 4) 8 k4), (sw_in cT (b 5) 8 k5), (sw_in cT (a 0) 16 f0), (sw_in cT (a 3) 16 f3)] sz) := by
  refine m_of (y := yX2_fairScore) (cc := cX2_fairScore) (nL := 4) (ret := (some .int)) (D := D) (cT := cT) (av := [.ref h0]) (wi := [(sw_2 h0 o g1 (b 0) (b 1) (b 2) (b 3) (b 4) (b 5) g2 g3 g4), (sw_3 o p0 p1 p2 p3 p4 p5 p6 p7 p8 p9 (a 0) (a 1) (a 2) (a 3) (a 4) (a 5)), (sw_in cT (b 1) 256 k1), (sw_in cT (b 3) 6 k3), (sw_in cT (b 4) 8 k4), (sw_in cT (b 5) 8 k5), (sw_in cT (a 0) 16 f0), (sw_in cT (a 3) 16 f3)]) (fun A => va_Qi (fun (r : Int32) (u : Nat → Int32) => True) (fun u t => RW D A ((fun u : Nat → Int32 => [(sw_2 h0 o g1 (b 0) (b 1) (b 2) (b 3) (b 4) (b 5) g2 g3 g4), (sw_3 o p0 p1 p2 p3 p4 p5 p6 p7 p8 p9 (a 0) (a 1) (a 2) (a 3) (a 4) (a 5)), (sw_in cT (b 1) 256 k1), (sw_in cT (b 3) 6 u), (sw_in cT (b 4) 8 k4), (sw_in cT (b 5) 8 k5), (sw_in cT (a 0) 16 f0), (sw_in cT (a 3) 16 f3)]) u) t) A) (by decide) (Nat.le_of_ble_eq_true rfl) ?_
  intro p e s m below meth c A hx hb hml hown htg hK hN hr hlk hnm hsz hP hD hS hA ls hl
  have hown : s.vm.findClass RX2 = some m.cls := hown
  have hl : lv_has ls 4 [(0, .ref h0)] := hl
  refine lv_aload_n hx hb dX2_fairScore_0 rfl (lv_at hl 0 rfl) ?_
  refine va_get (D := D) (ci := 2) (v := .ref (b 3)) (C := RX2) (T := TX2) (N := 11) hx hb htg gRX2 hown hK hP 0 rfl rfl 5 (by decide) (htg _ wi_355) (fun _ h9 => h9) rfl dX2_fairScore_1 ?_
  refine lv_iconst (v := 0) hx hb dX2_fairScore_4 (by decide) ?_
  refine xk_v (wr := [(sw_2 h0 o g1 (b 0) (b 1) (b 2) (b 3) (b 4) (b 5) g2 g3 g4), (sw_3 o p0 p1 p2 p3 p4 p5 p6 p7 p8 p9 (a 0) (a 1) (a 2) (a 3) (a 4) (a 5)), (sw_in cT (b 1) 256 k1), (sw_in cT (b 4) 8 k4), (sw_in cT (b 5) 8 k5), (sw_in cT (a 0) 16 f0), (sw_in cT (a 3) 16 f3)]) (xr_S (n := 2) (As := [.ref (b 3), .int 0]) (rest := []) ⟨hx, hb, hml, hown, htg⟩ hK hN hP hD hS hA [3] rfl (by decide) (g_fillI6 l D cT _ ((b 3)) (k3) (0)) wi_910 wi_164 wi_124 wi_165 ⟨rfl, by decide +kernel⟩ ⟨Nat.le_of_ble_eq_true rfl, Nat.le_of_ble_eq_true rfl⟩ rfl hl.1 rfl (Nat.le_of_ble_eq_true rfl) dX2_fairScore_5 ⟨Nat.le_of_ble_eq_true rfl, Nat.le_of_ble_eq_true rfl⟩) hP hD hS hA [3] [0, 1, 2, 4, 5, 6, 7] rfl rfl (by decide) (by decide) (fun u_1 H locs hwr_2 hP hD hS => ?_)
  obtain ⟨hP, hD⟩ : PD D A [(sw_2 h0 o g1 (b 0) (b 1) (b 2) (b 3) (b 4) (b 5) g2 g3 g4), (sw_3 o p0 p1 p2 p3 p4 p5 p6 p7 p8 p9 (a 0) (a 1) (a 2) (a 3) (a 4) (a 5)), (sw_in cT (b 1) 256 k1), (sw_in cT (b 4) 8 k4), (sw_in cT (b 5) 8 k5), (sw_in cT (a 0) 16 f0), (sw_in cT (a 3) 16 f3), (sw_in cT (b 3) 6 (fillF (k3) 6 (0)))] _ := ⟨hP, hD⟩
  refine lv_iconst (v := 0) hx hb dX2_fairScore_8 (by decide) ?_
  refine lv_istore_n (lv' := [(1, .int 0), (0, .ref h0)]) hx hb dX2_fairScore_9 rfl hl (by decide) rfl (fun ls hl => ?_)
  refine lv_iconst (v := 0) hx hb dX2_fairScore_10 (by decide) ?_
  refine lv_istore_n (lv' := [(2, .int 0), (1, .int 0), (0, .ref h0)]) hx hb dX2_fairScore_11 rfl hl (by decide) rfl (fun ls hl => ?_)
  refine (fun (key : ∀ (n9_12 : Nat) (k9_12 : Nat) (x9_12_1 : Int32) (f9_12_1 : Nat → Int32) (H : Heap) (locs : List Loc) (ls : Array Slot), (k9_12 : Int) ≤ p0.toInt → p0.toInt < (k9_12 : Int) + n9_12 → PD D A [(sw_2 h0 o g1 (b 0) (b 1) (b 2) (b 3) (b 4) (b 5) g2 g3 g4), (sw_3 o p0 p1 p2 p3 p4 p5 p6 p7 p8 p9 (a 0) (a 1) (a 2) (a 3) (a 4) (a 5)), (sw_in cT (b 1) 256 k1), (sw_in cT (b 4) 8 k4), (sw_in cT (b 5) 8 k5), (sw_in cT (a 0) 16 f0), (sw_in cT (a 3) 16 f3), (sw_in cT (b 3) 6 f9_12_1)] H → va_S A s.heap H locs → lv_has ls 4 [(2, .int (nI k9_12)), (1, .int x9_12_1), (0, .ref h0)] → W p l e _ s m _ below meth c H locs _ _ _ (F0 m 12 ls [])) => key (Int.toNat (p0.toInt - 0) + 1) 0 _ _ _ _ _ (by omega) (by omega)  ⟨hP, hD⟩ hS (lv_sub hl [0, 1, 2] rfl)) ?_
  intro n9_12
  induction n9_12 with
  | zero => intro k9_12 x9_12_1 f9_12_1 H locs ls hq1 hq2; exact absurd hq2 (by omega)
  | succ n9_12 ih_12 =>
    intro k9_12 x9_12_1 f9_12_1 H locs ls hq1_12 hq2_12  hPD hS hl
    obtain ⟨hP, hD⟩ := hPD
    have hk9_12 : (nI k9_12).toInt = (k9_12 : Int) := nI_toInt (by omega)
    refine lv_iload_n hx hb dX2_fairScore_12 rfl (lv_at hl 0 rfl) ?_
    refine lv_aload_n hx hb dX2_fairScore_13 rfl (lv_at hl 2 rfl) ?_
    refine va_get (D := D) (ci := 2) (v := .ref o) (C := RX2) (T := TX2) (N := 11) hx hb htg gRX2 hown hK hP 0 rfl rfl 0 (by decide) (htg _ wi_346) (fun _ h9 => h9) rfl dX2_fairScore_14 ?_
    refine va_getN (D := D) (ci := 3) (v := .int p0) (C := RX3) (T := TX3) (N := 16) hx hb htg gRX3 hown hK hP 1 rfl rfl 0 (by decide) (va_Nw.use rfl (hN.1 _ ni_167)) (fun _ h9 => h9) rfl dX2_fairScore_17 ?_
    refine lv_icmp_ge (tgt := 61) hx hb dX2_fairScore_20 (by decide) (fun c_3 => ?_) (fun c_3 => ?_)
    · have ic_3 : p0.toInt ≤ ((k9_12 : Nat) : Int) := ile c_3 (rfl) (nI_toInt (by omega))
      refine lv_iload_n hx hb dX2_fairScore_61 rfl (lv_at hl 1 rfl) ?_
      refine lv_istore_n (lv' := [(2, .int x9_12_1), (1, .int x9_12_1), (0, .ref h0)]) hx hb dX2_fairScore_62 rfl hl (by decide) rfl (fun ls hl => ?_)
      refine lv_iconst (v := 0) hx hb dX2_fairScore_63 (by decide) ?_
      refine lv_istore_n (lv' := [(3, .int 0), (2, .int x9_12_1), (1, .int x9_12_1), (0, .ref h0)]) hx hb dX2_fairScore_64 rfl hl (by decide) rfl (fun ls hl => ?_)
      refine (fun (key : ∀ (n9_65 : Nat) (k9_65 : Nat) (x9_65_2 : Int32) (H : Heap) (locs : List Loc) (ls : Array Slot), (k9_65 : Int) ≤ p0.toInt → p0.toInt < (k9_65 : Int) + n9_65 → PD D A [(sw_2 h0 o g1 (b 0) (b 1) (b 2) (b 3) (b 4) (b 5) g2 g3 g4), (sw_3 o p0 p1 p2 p3 p4 p5 p6 p7 p8 p9 (a 0) (a 1) (a 2) (a 3) (a 4) (a 5)), (sw_in cT (b 1) 256 k1), (sw_in cT (b 4) 8 k4), (sw_in cT (b 5) 8 k5), (sw_in cT (a 0) 16 f0), (sw_in cT (a 3) 16 f3), (sw_in cT (b 3) 6 f9_12_1)] H → va_S A s.heap H locs → lv_has ls 4 [(3, .int (nI k9_65)), (2, .int x9_65_2), (1, .int x9_12_1), (0, .ref h0)] → W p l e _ s m _ below meth c H locs _ _ _ (F0 m 65 ls [])) => key (Int.toNat (p0.toInt - 0) + 1) 0 _ _ _ _ (by omega) (by omega)  ⟨hP, hD⟩ hS (lv_sub hl [0, 1, 2, 3] rfl)) ?_
      intro n9_65
      induction n9_65 with
      | zero => intro k9_65 x9_65_2 H locs ls hq1 hq2; exact absurd hq2 (by omega)
      | succ n9_65 ih_65 =>
        intro k9_65 x9_65_2 H locs ls hq1_65 hq2_65  hPD hS hl
        obtain ⟨hP, hD⟩ := hPD
        have hk9_65 : (nI k9_65).toInt = (k9_65 : Int) := nI_toInt (by omega)
        refine lv_iload_n hx hb dX2_fairScore_65 rfl (lv_at hl 0 rfl) ?_
        refine lv_aload_n hx hb dX2_fairScore_66 rfl (lv_at hl 3 rfl) ?_
        refine va_get (D := D) (ci := 2) (v := .ref o) (C := RX2) (T := TX2) (N := 11) hx hb htg gRX2 hown hK hP 0 rfl rfl 0 (by decide) (htg _ wi_346) (fun _ h9 => h9) rfl dX2_fairScore_67 ?_
        refine va_getN (D := D) (ci := 3) (v := .int p0) (C := RX3) (T := TX3) (N := 16) hx hb htg gRX3 hown hK hP 1 rfl rfl 0 (by decide) (va_Nw.use rfl (hN.1 _ ni_167)) (fun _ h9 => h9) rfl dX2_fairScore_70 ?_
        refine lv_icmp_ge (tgt := 101) hx hb dX2_fairScore_73 (by decide) (fun c_4 => ?_) (fun c_4 => ?_)
        · have ic_4 : p0.toInt ≤ ((k9_65 : Nat) : Int) := ile c_4 (rfl) (nI_toInt (by omega))
          refine lv_iload_n hx hb dX2_fairScore_101 rfl (lv_at hl 1 rfl) ?_
          refine lv_sipush (v := 2048) hx hb dX2_fairScore_102 (by decide) ?_
          refine lv_imul hx hb dX2_fairScore_105 ?_
          refine lv_topi (fun z_5 ez_5 => ?_)
          refine lv_iload_n hx hb dX2_fairScore_106 rfl (lv_at hl 2 rfl) ?_
          refine lv_iadd hx hb dX2_fairScore_107 ?_
          refine lv_topi (fun z_6 ez_6 => ?_)
          exact x_iret hx hb hr hlk hP hD hS [0, 1, 2, 7, 3, 4, 5, 6] (f9_12_1) rfl (by decide) trivial (by decide) (by decide) dX2_fairScore_108
        · have ic_4 : ((k9_65 : Nat) : Int) < p0.toInt := inle c_4 (rfl) (nI_toInt (by omega))
          refine lv_iload_n hx hb dX2_fairScore_76 rfl (lv_at hl 1 rfl) ?_
          refine lv_aload_n hx hb dX2_fairScore_77 rfl (lv_at hl 3 rfl) ?_
          refine va_get (D := D) (ci := 2) (v := .ref (b 3)) (C := RX2) (T := TX2) (N := 11) hx hb htg gRX2 hown hK hP 0 rfl rfl 5 (by decide) (htg _ wi_355) (fun _ h9 => h9) rfl dX2_fairScore_78 ?_
          refine lv_aload_n hx hb dX2_fairScore_81 rfl (lv_at hl 3 rfl) ?_
          refine va_get (D := D) (ci := 2) (v := .ref o) (C := RX2) (T := TX2) (N := 11) hx hb htg gRX2 hown hK hP 0 rfl rfl 0 (by decide) (htg _ wi_346) (fun _ h9 => h9) rfl dX2_fairScore_82 ?_
          refine va_getN (D := D) (ci := 3) (v := .ref (a 3)) (C := RX3) (T := TX3) (N := 16) hx hb htg gRX3 hown hK hP 1 rfl rfl 13 (by decide) (va_Nw.use rfl (hN.1 _ ni_209)) (fun _ h9 => h9) rfl dX2_fairScore_85 ?_
          refine lv_iload_n hx hb dX2_fairScore_88 rfl (lv_at hl 0 rfl) ?_
          refine va_iald hx hb hK hP 6 0 rfl rfl (vp_in_nI (by omega) (by omega)) dX2_fairScore_89 ?_
          refine lv_topi (fun z_7 ez_7 => ?_)
          have iz_7 : 0 ≤ z_7.toInt ∧ z_7.toInt ≤ 5 := by rw [ez_7]; exact e3 _ (in_lt (vp_in_nI (by omega) (by omega)))
          refine va_iald hx hb hK hP 7 0 rfl rfl (vp_in_iff.mpr (by omega)) dX2_fairScore_90 ?_
          refine lv_topi (fun z_8 ez_8 => ?_)
          refine va_mmin hx hb (by rw [hml]; exact hl.1.symm) hown (htg _ wi_886) (htg _ wi_524) (htg _ wi_132) (htg _ wi_525) (Nat.le_of_ble_eq_true rfl) (Nat.le_of_ble_eq_true rfl) (Nat.le_of_ble_eq_true rfl) (Nat.le_of_ble_eq_true rfl) dX2_fairScore_91 ?_
          refine lv_topi (fun z_9 ez_9 => ?_)
          have iz_9 := minI (a := x9_65_2.toInt) (b := z_8.toInt) ez_9 (rfl) (rfl)
          refine lv_istore_n (lv' := [(2, .int z_9), (3, .int (nI k9_65)), (1, .int x9_12_1), (0, .ref h0)]) hx hb dX2_fairScore_94 rfl hl (by decide) rfl (fun ls hl => ?_)
          refine lv_iinc (v := (nI (k9_65 + 1))) (lv' := [(3, .int (nI (k9_65 + 1))), (2, .int z_9), (1, .int x9_12_1), (0, .ref h0)]) hx hb dX2_fairScore_95 hl (k := 1) rfl (by exact nI_1 (k9_65)) (by decide) rfl (fun ls hl => ?_)
          refine lv_goto (tgt := 65) hx hb dX2_fairScore_98 (by decide) ?_
          exact ih_65 (k9_65 + 1) _ _ _ _ (by omega) (by omega)  ⟨hP.sub [0, 1, 2, 3, 4, 5, 6, 7] rfl, hD.sub [0, 1, 2, 3, 4, 5, 6, 7] (by decide) rfl⟩ hS (lv_sub hl [0, 1, 2, 3] rfl)
    · have ic_3 : ((k9_12 : Nat) : Int) < p0.toInt := inle c_3 (rfl) (nI_toInt (by omega))
      refine lv_aload_n hx hb dX2_fairScore_23 rfl (lv_at hl 2 rfl) ?_
      refine lv_aload_n hx hb dX2_fairScore_24 rfl (lv_at hl 2 rfl) ?_
      refine va_get (D := D) (ci := 2) (v := .ref (b 1)) (C := RX2) (T := TX2) (N := 11) hx hb htg gRX2 hown hK hP 0 rfl rfl 3 (by decide) (htg _ wi_351) (fun _ h9 => h9) rfl dX2_fairScore_25 ?_
      refine lv_iload_n hx hb dX2_fairScore_28 rfl (lv_at hl 0 rfl) ?_
      refine xk_i (wr := [(sw_in cT (a 3) 16 f3), (sw_in cT (b 3) 6 f9_12_1)]) (xr_V (n := 2) (As := [.ref (b 1), .int (nI k9_12)]) (rest := []) ⟨hx, hb, hml, hown, htg⟩ hK hN hP hD hS hA [0, 1, 3, 4, 2, 5] rfl (by decide) (g_cutOf l D cT _ (h0) (o) (b) (g1) (g2) (g3) (g4) (by first | assumption | decide | omega | (simp only [ti_0, ti_1, ti_2, ti_3, ti_4, ti_5, ti_6, ti_7, ti_8, ti_9, ti_10, ti_11, ti_12, ti_m1]; omega)) (by first | assumption | decide | omega | (simp only [ti_0, ti_1, ti_2, ti_3, ti_4, ti_5, ti_6, ti_7, ti_8, ti_9, ti_10, ti_11, ti_12, ti_m1]; omega)) (a) (p0) (p1) (p2) (p3) (p4) (p5) (p6) (p7) (p8) (p9) ((b 1)) (k1) ((nI k9_12)) (by first | assumption | decide | omega | (simp only [ti_0, ti_1, ti_2, ti_3, ti_4, ti_5, ti_6, ti_7, ti_8, ti_9, ti_10, ti_11, ti_12, ti_m1]; omega)) (k4) (k5) (by first | assumption | decide | omega | (simp only [ti_0, ti_1, ti_2, ti_3, ti_4, ti_5, ti_6, ti_7, ti_8, ti_9, ti_10, ti_11, ti_12, ti_m1]; omega)) (f0)) wi_911 wi_913 wi_55 wi_126 wi_914 rfl rfl rfl ⟨rfl, by decide +kernel⟩ ⟨Nat.le_of_ble_eq_true rfl, Nat.le_of_ble_eq_true rfl⟩ rfl hl.1 rfl (Nat.le_of_ble_eq_true rfl) dX2_fairScore_29 ⟨Nat.le_of_ble_eq_true rfl, Nat.le_of_ble_eq_true rfl⟩) hP hD hS hA [0, 1, 3, 4, 2, 5] [6, 7] rfl rfl (by decide) (by decide) (fun r_11 u_10 H locs hwr_11 hP hD hS => ?_)
      obtain ⟨hP, hD⟩ : PD D A [(sw_in cT (a 3) 16 f3), (sw_in cT (b 3) 6 f9_12_1), (sw_2 h0 o g1 (b 0) (b 1) (b 2) (b 3) (b 4) (b 5) g2 g3 g4), (sw_3 o p0 p1 p2 p3 p4 p5 p6 p7 p8 p9 (a 0) (a 1) (a 2) (a 3) (a 4) (a 5)), (sw_in cT (b 4) 8 k4), (sw_in cT (b 5) 8 k5), (sw_in cT (b 1) 256 k1), (sw_in cT (a 0) 16 f0)] _ := ⟨hP, hD⟩
      refine lv_istore_n (lv' := [(3, .int r_11), (2, .int (nI k9_12)), (1, .int x9_12_1), (0, .ref h0)]) hx hb dX2_fairScore_32 rfl hl (by decide) rfl (fun ls hl => ?_)
      refine lv_aload_n hx hb dX2_fairScore_33 rfl (lv_at hl 3 rfl) ?_
      refine va_get (D := D) (ci := 2) (v := .ref (b 3)) (C := RX2) (T := TX2) (N := 11) hx hb htg gRX2 hown hK hP 2 rfl rfl 5 (by decide) (htg _ wi_355) (fun _ h9 => h9) rfl dX2_fairScore_34 ?_
      refine lv_aload_n hx hb dX2_fairScore_37 rfl (lv_at hl 3 rfl) ?_
      refine va_get (D := D) (ci := 2) (v := .ref o) (C := RX2) (T := TX2) (N := 11) hx hb htg gRX2 hown hK hP 2 rfl rfl 0 (by decide) (htg _ wi_346) (fun _ h9 => h9) rfl dX2_fairScore_38 ?_
      refine va_getN (D := D) (ci := 3) (v := .ref (a 3)) (C := RX3) (T := TX3) (N := 16) hx hb htg gRX3 hown hK hP 3 rfl rfl 13 (by decide) (va_Nw.use rfl (hN.1 _ ni_209)) (fun _ h9 => h9) rfl dX2_fairScore_41 ?_
      refine lv_iload_n hx hb dX2_fairScore_44 rfl (lv_at hl 1 rfl) ?_
      refine va_iald hx hb hK hP 0 0 rfl rfl (vp_in_nI (by omega) (by omega)) dX2_fairScore_45 ?_
      refine lv_topi (fun z_12 ez_12 => ?_)
      have iz_12 : 0 ≤ z_12.toInt ∧ z_12.toInt ≤ 5 := by rw [ez_12]; exact e3 _ (in_lt (vp_in_nI (by omega) (by omega)))
      refine lv_dup2_11 hx hb dX2_fairScore_46 rfl rfl ?_
      refine va_iald hx hb hK hP 1 0 rfl rfl (vp_in_iff.mpr (by omega)) dX2_fairScore_47 ?_
      refine lv_topi (fun z_13 ez_13 => ?_)
      refine lv_iload_n hx hb dX2_fairScore_48 rfl (lv_at hl 0 rfl) ?_
      refine lv_iadd hx hb dX2_fairScore_49 ?_
      refine lv_topi (fun z_14 ez_14 => ?_)
      refine va_iast hx hb hK hP hD hS 1 0 rfl rfl (vp_in_iff.mpr (by omega)) dX2_fairScore_50 (fun H locs hP hD hS => ?_)
      obtain ⟨f_15, hP, hD⟩ : ∃ f_15 : Nat → Int32, PD D A [(sw_in cT (a 3) 16 f3), (sw_in cT (b 3) 6 f_15), (sw_2 h0 o g1 (b 0) (b 1) (b 2) (b 3) (b 4) (b 5) g2 g3 g4), (sw_3 o p0 p1 p2 p3 p4 p5 p6 p7 p8 p9 (a 0) (a 1) (a 2) (a 3) (a 4) (a 5)), (sw_in cT (b 4) 8 k4), (sw_in cT (b 5) 8 k5), (sw_in cT (b 1) 256 k1), (sw_in cT (a 0) 16 f0)] H := ⟨_, hP, hD⟩
      refine lv_iload_n hx hb dX2_fairScore_51 rfl (lv_at hl 2 rfl) ?_
      refine lv_iload_n hx hb dX2_fairScore_52 rfl (lv_at hl 0 rfl) ?_
      refine lv_iadd hx hb dX2_fairScore_53 ?_
      refine lv_topi (fun z_16 ez_16 => ?_)
      refine lv_istore_n (lv' := [(1, .int z_16), (3, .int r_11), (2, .int (nI k9_12)), (0, .ref h0)]) hx hb dX2_fairScore_54 rfl hl (by decide) rfl (fun ls hl => ?_)
      refine lv_iinc (v := (nI (k9_12 + 1))) (lv' := [(2, .int (nI (k9_12 + 1))), (1, .int z_16), (3, .int r_11), (0, .ref h0)]) hx hb dX2_fairScore_55 hl (k := 2) rfl (by exact nI_1 (k9_12)) (by decide) rfl (fun ls hl => ?_)
      refine lv_goto (tgt := 12) hx hb dX2_fairScore_58 (by decide) ?_
      exact ih_12 (k9_12 + 1) _ _ _ _ _ (by omega) (by omega)  ⟨hP.sub [2, 3, 6, 4, 5, 7, 0, 1] rfl, hD.sub [2, 3, 6, 4, 5, 7, 0, 1] (by decide) rfl⟩ hS (lv_sub hl [0, 1, 3] rfl)
set_option maxHeartbeats 4000000 in
set_option maxRecDepth 100000 in
theorem g_prepare (l : Launch) (D : va_G) (cT : Nat → ClassId) (sz : Nat) (h0 : Nat) (o : Nat) (b : Nat → Nat) (g1 : Int32) (g2 : Int32) (g3 : Int32) (g4 : Int32) (h1 : Nat) (a : Nat → Nat) (p0 : Int32) (p1 : Int32) (p2 : Int32) (p3 : Int32) (p4 : Int32) (p5 : Int32) (p6 : Int32) (p7 : Int32) (p8 : Int32) (p9 : Int32) (hs : 0 ≤ p0.toInt ∧ p0.toInt ≤ 16) (x : Int32) (y : Int32) (k0 : Nat → Int32) (k1 : Nat → Int32) (k2 : Nat → Int32) (f0 : Nat → Int32) (f1 : Nat → Int32) (f2 : Nat → Int32) (f3 : Nat → Int32) (f5 : Nat → Int32) (e3 : EL f3 16 0 5) : Met l yX2_prepare (wsc yX2_prepare cX2_prepare 5 none) { frames := 5, cells := 0, slots := 0, locals := 173 } (va_Pc [.ref h0, .ref h1, .int x, .int y] (PX D cT sz [(sw_2 h0 o g1 (b 0) (b 1) (b 2) (b 3) (b 4) (b 5) g2 g3 g4), (sw_3 h1 p0 p1 p2 p3 p4 p5 p6 p7 p8 p9 (a 0) (a 1) (a 2) (a 3) (a 4) (a 5)), (sw_in cT (b 0) 16 k0), (sw_in cT (b 1) 256 k1), (sw_in cT (b 2) 16 k2), (sw_in cT (a 0) 16 f0), (sw_in cT (a 1) 16 f1), (sw_in cT (a 2) 16 f2), (sw_in cT (a 3) 16 f3), (sw_in cT (a 5) 6 f5)])) (va_Qv (fun (u : (Nat → Int32) × (Nat → Int32) × (Nat → Int32)) => True) (fun u t => RW D (va_A [(sw_2 h0 o g1 (b 0) (b 1) (b 2) (b 3) (b 4) (b 5) g2 g3 g4), (sw_3 h1 p0 p1 p2 p3 p4 p5 p6 p7 p8 p9 (a 0) (a 1) (a 2) (a 3) (a 4) (a 5)), (sw_in cT (b 0) 16 k0), (sw_in cT (b 1) 256 k1), (sw_in cT (b 2) 16 k2), (sw_in cT (a 0) 16 f0), (sw_in cT (a 1) 16 f1), (sw_in cT (a 2) 16 f2), (sw_in cT (a 3) 16 f3), (sw_in cT (a 5) 6 f5)] sz) ((fun u : (Nat → Int32) × (Nat → Int32) × (Nat → Int32) => [(sw_2 h0 h1 x (b 0) (b 1) (b 2) (b 3) (b 4) (b 5) g2 g3 g4), (sw_3 h1 p0 p1 p2 p3 p4 p5 p6 p7 p8 p9 (a 0) (a 1) (a 2) (a 3) (a 4) (a 5)), (sw_in cT (b 0) 16 u.1), (sw_in cT (b 1) 256 u.2.1), (sw_in cT (b 2) 16 u.2.2), (sw_in cT (a 0) 16 f0), (sw_in cT (a 1) 16 f1), (sw_in cT (a 2) 16 f2), (sw_in cT (a 3) 16 f3), (sw_in cT (a 5) 6 f5)]) u) t) (va_A [(sw_2 h0 o g1 (b 0) (b 1) (b 2) (b 3) (b 4) (b 5) g2 g3 g4), (sw_3 h1 p0 p1 p2 p3 p4 p5 p6 p7 p8 p9 (a 0) (a 1) (a 2) (a 3) (a 4) (a 5)), (sw_in cT (b 0) 16 k0), (sw_in cT (b 1) 256 k1), (sw_in cT (b 2) 16 k2), (sw_in cT (a 0) 16 f0), (sw_in cT (a 1) 16 f1), (sw_in cT (a 2) 16 f2), (sw_in cT (a 3) 16 f3), (sw_in cT (a 5) 6 f5)] sz)) 0 0 (va_A [(sw_2 h0 o g1 (b 0) (b 1) (b 2) (b 3) (b 4) (b 5) g2 g3 g4), (sw_3 h1 p0 p1 p2 p3 p4 p5 p6 p7 p8 p9 (a 0) (a 1) (a 2) (a 3) (a 4) (a 5)), (sw_in cT (b 0) 16 k0), (sw_in cT (b 1) 256 k1), (sw_in cT (b 2) 16 k2), (sw_in cT (a 0) 16 f0), (sw_in cT (a 1) 16 f1), (sw_in cT (a 2) 16 f2), (sw_in cT (a 3) 16 f3), (sw_in cT (a 5) 6 f5)] sz) := by
  refine m_of (y := yX2_prepare) (cc := cX2_prepare) (nL := 5) (ret := none) (D := D) (cT := cT) (av := [.ref h0, .ref h1, .int x, .int y]) (wi := [(sw_2 h0 o g1 (b 0) (b 1) (b 2) (b 3) (b 4) (b 5) g2 g3 g4), (sw_3 h1 p0 p1 p2 p3 p4 p5 p6 p7 p8 p9 (a 0) (a 1) (a 2) (a 3) (a 4) (a 5)), (sw_in cT (b 0) 16 k0), (sw_in cT (b 1) 256 k1), (sw_in cT (b 2) 16 k2), (sw_in cT (a 0) 16 f0), (sw_in cT (a 1) 16 f1), (sw_in cT (a 2) 16 f2), (sw_in cT (a 3) 16 f3), (sw_in cT (a 5) 6 f5)]) (fun A => va_Qv (fun (u : (Nat → Int32) × (Nat → Int32) × (Nat → Int32)) => True) (fun u t => RW D A ((fun u : (Nat → Int32) × (Nat → Int32) × (Nat → Int32) => [(sw_2 h0 h1 x (b 0) (b 1) (b 2) (b 3) (b 4) (b 5) g2 g3 g4), (sw_3 h1 p0 p1 p2 p3 p4 p5 p6 p7 p8 p9 (a 0) (a 1) (a 2) (a 3) (a 4) (a 5)), (sw_in cT (b 0) 16 u.1), (sw_in cT (b 1) 256 u.2.1), (sw_in cT (b 2) 16 u.2.2), (sw_in cT (a 0) 16 f0), (sw_in cT (a 1) 16 f1), (sw_in cT (a 2) 16 f2), (sw_in cT (a 3) 16 f3), (sw_in cT (a 5) 6 f5)]) u) t) A) (by decide) (Nat.le_of_ble_eq_true rfl) ?_
  intro p e s m below meth c A hx hb hml hown htg hK hN hr hlk hnm hsz hP hD hS hA ls hl
  have hown : s.vm.findClass RX2 = some m.cls := hown
  have hl : lv_has ls 5 [(0, .ref h0), (1, .ref h1), (2, .int x), (3, .int y)] := hl
  refine lv_aload_n hx hb dX2_prepare_0 rfl (lv_at hl 0 rfl) ?_
  refine lv_aload_n hx hb dX2_prepare_1 rfl (lv_at hl 1 rfl) ?_
  refine va_put (D := D) (ci := 2) (v := .ref h1) (ty := .object "RopeMoon$Plain") (C := RX2) (T := TX2) (N := 11) hx hb htg gRX2 tyX2 tyX2_ok nmX2 hown hK hP hD hS 0 rfl rfl 0 (by decide) (htg _ wi_346) (fun _ h9 => h9) rfl (by decide +kernel) rfl rfl (Nat.le_of_ble_eq_true rfl) dX2_prepare_2 (fun H locs hP hD hS => ?_)
  obtain ⟨hP, hD⟩ : PD D A [(sw_2 h0 h1 g1 (b 0) (b 1) (b 2) (b 3) (b 4) (b 5) g2 g3 g4), (sw_3 h1 p0 p1 p2 p3 p4 p5 p6 p7 p8 p9 (a 0) (a 1) (a 2) (a 3) (a 4) (a 5)), (sw_in cT (b 0) 16 k0), (sw_in cT (b 1) 256 k1), (sw_in cT (b 2) 16 k2), (sw_in cT (a 0) 16 f0), (sw_in cT (a 1) 16 f1), (sw_in cT (a 2) 16 f2), (sw_in cT (a 3) 16 f3), (sw_in cT (a 5) 6 f5)] _ := ⟨hP, hD⟩
  refine lv_aload_n hx hb dX2_prepare_5 rfl (lv_at hl 0 rfl) ?_
  refine lv_iload_n hx hb dX2_prepare_6 rfl (lv_at hl 2 rfl) ?_
  refine va_put (D := D) (ci := 2) (v := .int x) (ty := .int) (C := RX2) (T := TX2) (N := 11) hx hb htg gRX2 tyX2 tyX2_ok nmX2 hown hK hP hD hS 0 rfl rfl 1 (by decide) (htg _ wi_349) (fun _ h9 => h9) rfl (by decide +kernel) rfl rfl (Nat.le_of_ble_eq_true rfl) dX2_prepare_7 (fun H locs hP hD hS => ?_)
  obtain ⟨hP, hD⟩ : PD D A [(sw_2 h0 h1 x (b 0) (b 1) (b 2) (b 3) (b 4) (b 5) g2 g3 g4), (sw_3 h1 p0 p1 p2 p3 p4 p5 p6 p7 p8 p9 (a 0) (a 1) (a 2) (a 3) (a 4) (a 5)), (sw_in cT (b 0) 16 k0), (sw_in cT (b 1) 256 k1), (sw_in cT (b 2) 16 k2), (sw_in cT (a 0) 16 f0), (sw_in cT (a 1) 16 f1), (sw_in cT (a 2) 16 f2), (sw_in cT (a 3) 16 f3), (sw_in cT (a 5) 6 f5)] _ := ⟨hP, hD⟩
  refine lv_iconst (v := 0) hx hb dX2_prepare_10 (by decide) ?_
  refine lv_istore (lv' := [(4, .int 0), (0, .ref h0), (1, .ref h1), (2, .int x), (3, .int y)]) hx hb dX2_prepare_11 hl (by decide) rfl (fun ls hl => ?_)
  refine (fun (key : ∀ (n9_13 : Nat) (k9_13 : Nat) (f9_13_0 : Nat → Int32) (H : Heap) (locs : List Loc) (ls : Array Slot), (k9_13 : Int) ≤ p0.toInt → p0.toInt < (k9_13 : Int) + n9_13 → PD D A [(sw_2 h0 h1 x (b 0) (b 1) (b 2) (b 3) (b 4) (b 5) g2 g3 g4), (sw_3 h1 p0 p1 p2 p3 p4 p5 p6 p7 p8 p9 (a 0) (a 1) (a 2) (a 3) (a 4) (a 5)), (sw_in cT (b 0) 16 f9_13_0), (sw_in cT (b 1) 256 k1), (sw_in cT (b 2) 16 k2), (sw_in cT (a 0) 16 f0), (sw_in cT (a 1) 16 f1), (sw_in cT (a 2) 16 f2), (sw_in cT (a 3) 16 f3), (sw_in cT (a 5) 6 f5)] H → va_S A s.heap H locs → lv_has ls 5 [(4, .int (nI k9_13)), (0, .ref h0), (1, .ref h1), (2, .int x), (3, .int y)] → W p l e _ s m _ below meth c H locs _ _ _ (F0 m 13 ls [])) => key (Int.toNat (p0.toInt - 0) + 1) 0 _ _ _ _ (by omega) (by omega)  ⟨hP, hD⟩ hS (lv_sub hl [0, 1, 2, 3, 4] rfl)) ?_
  intro n9_13
  induction n9_13 with
  | zero => intro k9_13 f9_13_0 H locs ls hq1 hq2; exact absurd hq2 (by omega)
  | succ n9_13 ih_13 =>
    intro k9_13 f9_13_0 H locs ls hq1_13 hq2_13  hPD hS hl
    obtain ⟨hP, hD⟩ := hPD
    have hk9_13 : (nI k9_13).toInt = (k9_13 : Int) := nI_toInt (by omega)
    refine lv_iload hx hb dX2_prepare_13 (lv_at hl 0 rfl) ?_
    refine lv_aload_n hx hb dX2_prepare_15 rfl (lv_at hl 2 rfl) ?_
    refine va_getN (D := D) (ci := 3) (v := .int p0) (C := RX3) (T := TX3) (N := 16) hx hb htg gRX3 hown hK hP 1 rfl rfl 0 (by decide) (va_Nw.use rfl (hN.1 _ ni_167)) (fun _ h9 => h9) rfl dX2_prepare_16 ?_
    refine lv_icmp_ge (tgt := 47) hx hb dX2_prepare_19 (by decide) (fun c_1 => ?_) (fun c_1 => ?_)
    · have ic_1 : p0.toInt ≤ ((k9_13 : Nat) : Int) := ile c_1 (rfl) (nI_toInt (by omega))
      refine lv_aload_n hx hb dX2_prepare_47 rfl (lv_at hl 1 rfl) ?_
      refine lv_aload_n hx hb dX2_prepare_48 rfl (lv_at hl 1 rfl) ?_
      refine va_get (D := D) (ci := 2) (v := .ref (b 1)) (C := RX2) (T := TX2) (N := 11) hx hb htg gRX2 hown hK hP 0 rfl rfl 3 (by decide) (htg _ wi_351) (fun _ h9 => h9) rfl dX2_prepare_49 ?_
      refine lv_iconst (v := 0) hx hb dX2_prepare_52 (by decide) ?_
      refine xk_v (wr := [(sw_in cT (b 0) 16 f9_13_0), (sw_in cT (b 2) 16 k2), (sw_in cT (a 0) 16 f0), (sw_in cT (a 3) 16 f3), (sw_in cT (a 5) 6 f5)]) (xr_V (n := 2) (As := [.ref (b 1), .int 0]) (rest := []) ⟨hx, hb, hml, hown, htg⟩ hK hN hP hD hS hA [0, 1, 3, 6, 7] rfl (by decide) (g_fillCaps l D cT _ (h0) (h1) (b) (x) (g2) (g3) (g4) (a) (p0) (p1) (p2) (p3) (p4) (p5) (p6) (p7) (p8) (p9) (by first | assumption | decide | omega | (simp only [ti_0, ti_1, ti_2, ti_3, ti_4, ti_5, ti_6, ti_7, ti_8, ti_9, ti_10, ti_11, ti_12, ti_m1]; omega)) ((b 1)) (k1) (0) (f1) (f2)) wi_880 wi_882 wi_49 wi_126 wi_883 rfl rfl rfl ⟨rfl, by decide +kernel⟩ ⟨Nat.le_of_ble_eq_true rfl, Nat.le_of_ble_eq_true rfl⟩ rfl hl.1 rfl (Nat.le_of_ble_eq_true rfl) dX2_prepare_53 ⟨Nat.le_of_ble_eq_true rfl, Nat.le_of_ble_eq_true rfl⟩) hP hD hS hA [0, 1, 3, 6, 7] [2, 4, 5, 8, 9] rfl rfl (by decide) (by decide) (fun u_2 H locs hwr_3 hP hD hS => ?_)
      obtain ⟨hP, hD⟩ : PD D A [(sw_in cT (b 0) 16 f9_13_0), (sw_in cT (b 2) 16 k2), (sw_in cT (a 0) 16 f0), (sw_in cT (a 3) 16 f3), (sw_in cT (a 5) 6 f5), (sw_2 h0 h1 x (b 0) (b 1) (b 2) (b 3) (b 4) (b 5) g2 g3 g4), (sw_3 h1 p0 p1 p2 p3 p4 p5 p6 p7 p8 p9 (a 0) (a 1) (a 2) (a 3) (a 4) (a 5)), (sw_in cT (b 1) 256 u_2), (sw_in cT (a 1) 16 f1), (sw_in cT (a 2) 16 f2)] _ := ⟨hP, hD⟩
      refine lv_iconst (v := 0) hx hb dX2_prepare_56 (by decide) ?_
      refine lv_istore (lv' := [(4, .int 0), (0, .ref h0), (1, .ref h1), (2, .int x), (3, .int y)]) hx hb dX2_prepare_57 hl (by decide) rfl (fun ls hl => ?_)
      refine (fun (key : ∀ (n9_59 : Nat) (k9_59 : Nat) (f9_59_0 : Nat → Int32) (H : Heap) (locs : List Loc) (ls : Array Slot), (k9_59 : Int) ≤ p0.toInt → p0.toInt < (k9_59 : Int) + n9_59 → PD D A [(sw_in cT (b 0) 16 f9_13_0), (sw_in cT (b 2) 16 f9_59_0), (sw_in cT (a 0) 16 f0), (sw_in cT (a 3) 16 f3), (sw_in cT (a 5) 6 f5), (sw_2 h0 h1 x (b 0) (b 1) (b 2) (b 3) (b 4) (b 5) g2 g3 g4), (sw_3 h1 p0 p1 p2 p3 p4 p5 p6 p7 p8 p9 (a 0) (a 1) (a 2) (a 3) (a 4) (a 5)), (sw_in cT (b 1) 256 u_2), (sw_in cT (a 1) 16 f1), (sw_in cT (a 2) 16 f2)] H → va_S A s.heap H locs → lv_has ls 5 [(4, .int (nI k9_59)), (0, .ref h0), (1, .ref h1), (2, .int x), (3, .int y)] → W p l e _ s m _ below meth c H locs _ _ _ (F0 m 59 ls [])) => key (Int.toNat (p0.toInt - 0) + 1) 0 _ _ _ _ (by omega) (by omega)  ⟨hP, hD⟩ hS (lv_sub hl [0, 1, 2, 3, 4] rfl)) ?_
      intro n9_59
      induction n9_59 with
      | zero => intro k9_59 f9_59_0 H locs ls hq1 hq2; exact absurd hq2 (by omega)
      | succ n9_59 ih_59 =>
        intro k9_59 f9_59_0 H locs ls hq1_59 hq2_59  hPD hS hl
        obtain ⟨hP, hD⟩ := hPD
        have hk9_59 : (nI k9_59).toInt = (k9_59 : Int) := nI_toInt (by omega)
        refine lv_iload hx hb dX2_prepare_59 (lv_at hl 0 rfl) ?_
        refine lv_aload_n hx hb dX2_prepare_61 rfl (lv_at hl 2 rfl) ?_
        refine va_getN (D := D) (ci := 3) (v := .int p0) (C := RX3) (T := TX3) (N := 16) hx hb htg gRX3 hown hK hP 6 rfl rfl 0 (by decide) (va_Nw.use rfl (hN.1 _ ni_167)) (fun _ h9 => h9) rfl dX2_prepare_62 ?_
        refine lv_icmp_ge (tgt := 87) hx hb dX2_prepare_65 (by decide) (fun c_4 => ?_) (fun c_4 => ?_)
        · have ic_4 : p0.toInt ≤ ((k9_59 : Nat) : Int) := ile c_4 (rfl) (nI_toInt (by omega))
          exact x_vret hx hb hr hlk hP hD hS [5, 6, 0, 7, 1, 2, 8, 9, 3, 4] ((f9_13_0, u_2, f9_59_0)) rfl (by decide) trivial (by decide) (by decide) dX2_prepare_87
        · have ic_4 : ((k9_59 : Nat) : Int) < p0.toInt := inle c_4 (rfl) (nI_toInt (by omega))
          refine lv_aload_n hx hb dX2_prepare_68 rfl (lv_at hl 1 rfl) ?_
          refine va_get (D := D) (ci := 2) (v := .ref (b 2)) (C := RX2) (T := TX2) (N := 11) hx hb htg gRX2 hown hK hP 5 rfl rfl 4 (by decide) (htg _ wi_354) (fun _ h9 => h9) rfl dX2_prepare_69 ?_
          refine lv_iload hx hb dX2_prepare_72 (lv_at hl 0 rfl) ?_
          refine lv_aload_n hx hb dX2_prepare_74 rfl (lv_at hl 1 rfl) ?_
          refine lv_iload hx hb dX2_prepare_75 (lv_at hl 0 rfl) ?_
          refine xk_i (wr := [(sw_in cT (b 2) 16 f9_59_0), (sw_in cT (a 3) 16 f3), (sw_in cT (a 5) 6 f5), (sw_in cT (a 1) 16 f1), (sw_in cT (a 2) 16 f2)]) (xr_V (n := 1) (As := [.int (nI k9_59)]) (rest := [.int (nI k9_59), .ref (b 2)]) ⟨hx, hb, hml, hown, htg⟩ hK hN hP hD hS hA [5, 6, 0, 7, 2] rfl (by decide) (g_firstWorth l D cT _ (h0) (h1) (b) (x) (g2) (g3) (g4) (a) (p0) (p1) (p2) (p3) (p4) (p5) (p6) (p7) (p8) (p9) (by first | assumption | decide | omega | (simp only [ti_0, ti_1, ti_2, ti_3, ti_4, ti_5, ti_6, ti_7, ti_8, ti_9, ti_10, ti_11, ti_12, ti_m1]; omega)) ((nI k9_59)) (by first | assumption | decide | omega | (simp only [ti_0, ti_1, ti_2, ti_3, ti_4, ti_5, ti_6, ti_7, ti_8, ti_9, ti_10, ti_11, ti_12, ti_m1]; omega)) (f9_13_0) (u_2) (f0)) wi_887 wi_889 wi_50 wi_126 wi_890 rfl rfl rfl ⟨rfl, by decide +kernel⟩ ⟨Nat.le_of_ble_eq_true rfl, Nat.le_of_ble_eq_true rfl⟩ rfl hl.1 rfl (Nat.le_of_ble_eq_true rfl) dX2_prepare_77 ⟨Nat.le_of_ble_eq_true rfl, Nat.le_of_ble_eq_true rfl⟩) hP hD hS hA [5, 6, 0, 7, 2] [1, 3, 4, 8, 9] rfl rfl (by decide) (by decide) (fun r_6 u_5 H locs hwr_6 hP hD hS => ?_)
          obtain ⟨hP, hD⟩ : PD D A [(sw_in cT (b 2) 16 f9_59_0), (sw_in cT (a 3) 16 f3), (sw_in cT (a 5) 6 f5), (sw_in cT (a 1) 16 f1), (sw_in cT (a 2) 16 f2), (sw_2 h0 h1 x (b 0) (b 1) (b 2) (b 3) (b 4) (b 5) g2 g3 g4), (sw_3 h1 p0 p1 p2 p3 p4 p5 p6 p7 p8 p9 (a 0) (a 1) (a 2) (a 3) (a 4) (a 5)), (sw_in cT (b 0) 16 f9_13_0), (sw_in cT (b 1) 256 u_2), (sw_in cT (a 0) 16 f0)] _ := ⟨hP, hD⟩
          refine va_iast hx hb hK hP hD hS 0 0 rfl rfl (vp_in_nI (by omega) (by omega)) dX2_prepare_80 (fun H locs hP hD hS => ?_)
          obtain ⟨f_7, hP, hD⟩ : ∃ f_7 : Nat → Int32, PD D A [(sw_in cT (b 2) 16 f_7), (sw_in cT (a 3) 16 f3), (sw_in cT (a 5) 6 f5), (sw_in cT (a 1) 16 f1), (sw_in cT (a 2) 16 f2), (sw_2 h0 h1 x (b 0) (b 1) (b 2) (b 3) (b 4) (b 5) g2 g3 g4), (sw_3 h1 p0 p1 p2 p3 p4 p5 p6 p7 p8 p9 (a 0) (a 1) (a 2) (a 3) (a 4) (a 5)), (sw_in cT (b 0) 16 f9_13_0), (sw_in cT (b 1) 256 u_2), (sw_in cT (a 0) 16 f0)] H := ⟨_, hP, hD⟩
          refine lv_iinc (v := (nI (k9_59 + 1))) (lv' := [(4, .int (nI (k9_59 + 1))), (0, .ref h0), (1, .ref h1), (2, .int x), (3, .int y)]) hx hb dX2_prepare_81 hl (k := 0) rfl (by exact nI_1 (k9_59)) (by decide) rfl (fun ls hl => ?_)
          refine lv_goto (tgt := 59) hx hb dX2_prepare_84 (by decide) ?_
          exact ih_59 (k9_59 + 1) _ _ _ _ (by omega) (by omega)  ⟨hP.sub [7, 0, 9, 1, 2, 5, 6, 8, 3, 4] rfl, hD.sub [7, 0, 9, 1, 2, 5, 6, 8, 3, 4] (by decide) rfl⟩ hS (lv_sub hl [0, 1, 2, 3, 4] rfl)
    · have ic_1 : ((k9_13 : Nat) : Int) < p0.toInt := inle c_1 (rfl) (nI_toInt (by omega))
      refine lv_aload_n hx hb dX2_prepare_22 rfl (lv_at hl 1 rfl) ?_
      refine va_get (D := D) (ci := 2) (v := .ref (b 0)) (C := RX2) (T := TX2) (N := 11) hx hb htg gRX2 hown hK hP 0 rfl rfl 2 (by decide) (htg _ wi_350) (fun _ h9 => h9) rfl dX2_prepare_23 ?_
      refine lv_iload hx hb dX2_prepare_26 (lv_at hl 0 rfl) ?_
      refine lv_aload_n hx hb dX2_prepare_28 rfl (lv_at hl 1 rfl) ?_
      refine lv_aload_n hx hb dX2_prepare_29 rfl (lv_at hl 2 rfl) ?_
      refine va_getN (D := D) (ci := 3) (v := .ref (a 3)) (C := RX3) (T := TX3) (N := 16) hx hb htg gRX3 hown hK hP 1 rfl rfl 13 (by decide) (va_Nw.use rfl (hN.1 _ ni_209)) (fun _ h9 => h9) rfl dX2_prepare_30 ?_
      refine lv_iload hx hb dX2_prepare_33 (lv_at hl 0 rfl) ?_
      refine va_iald hx hb hK hP 8 0 rfl rfl (vp_in_nI (by omega) (by omega)) dX2_prepare_35 ?_
      refine lv_topi (fun z_8 ez_8 => ?_)
      have iz_8 : 0 ≤ z_8.toInt ∧ z_8.toInt ≤ 5 := by rw [ez_8]; exact e3 _ (in_lt (vp_in_nI (by omega) (by omega)))
      refine lv_iload_n hx hb dX2_prepare_36 rfl (lv_at hl 4 rfl) ?_
      refine xk_i (wr := [(sw_in cT (b 0) 16 f9_13_0), (sw_in cT (b 1) 256 k1), (sw_in cT (b 2) 16 k2), (sw_in cT (a 0) 16 f0), (sw_in cT (a 1) 16 f1), (sw_in cT (a 2) 16 f2), (sw_in cT (a 3) 16 f3)]) (xr_V (n := 2) (As := [.int z_8, .int y]) (rest := [.int (nI k9_13), .ref (b 0)]) ⟨hx, hb, hml, hown, htg⟩ hK hN hP hD hS hA [0, 1, 9] rfl (by decide) (g_weightOf l D cT _ (h0) (h1) (b) (x) (g2) (g3) (g4) (a) (p0) (p1) (p2) (p3) (p4) (p5) (p6) (p7) (p8) (p9) (z_8) (y) (by first | assumption | decide | omega | (simp only [ti_0, ti_1, ti_2, ti_3, ti_4, ti_5, ti_6, ti_7, ti_8, ti_9, ti_10, ti_11, ti_12, ti_m1]; omega)) (f5)) wi_876 wi_878 wi_48 wi_126 wi_879 rfl rfl rfl ⟨rfl, by decide +kernel⟩ ⟨Nat.le_of_ble_eq_true rfl, Nat.le_of_ble_eq_true rfl⟩ rfl hl.1 rfl (Nat.le_of_ble_eq_true rfl) dX2_prepare_37 ⟨Nat.le_of_ble_eq_true rfl, Nat.le_of_ble_eq_true rfl⟩) hP hD hS hA [0, 1, 9] [2, 3, 4, 5, 6, 7, 8] rfl rfl (by decide) (by decide) (fun r_10 u_9 H locs hwr_10 hP hD hS => ?_)
      obtain ⟨hP, hD⟩ : PD D A [(sw_in cT (b 0) 16 f9_13_0), (sw_in cT (b 1) 256 k1), (sw_in cT (b 2) 16 k2), (sw_in cT (a 0) 16 f0), (sw_in cT (a 1) 16 f1), (sw_in cT (a 2) 16 f2), (sw_in cT (a 3) 16 f3), (sw_2 h0 h1 x (b 0) (b 1) (b 2) (b 3) (b 4) (b 5) g2 g3 g4), (sw_3 h1 p0 p1 p2 p3 p4 p5 p6 p7 p8 p9 (a 0) (a 1) (a 2) (a 3) (a 4) (a 5)), (sw_in cT (a 5) 6 f5)] _ := ⟨hP, hD⟩
      refine va_iast hx hb hK hP hD hS 0 0 rfl rfl (vp_in_nI (by omega) (by omega)) dX2_prepare_40 (fun H locs hP hD hS => ?_)
      obtain ⟨f_11, hP, hD⟩ : ∃ f_11 : Nat → Int32, PD D A [(sw_in cT (b 0) 16 f_11), (sw_in cT (b 1) 256 k1), (sw_in cT (b 2) 16 k2), (sw_in cT (a 0) 16 f0), (sw_in cT (a 1) 16 f1), (sw_in cT (a 2) 16 f2), (sw_in cT (a 3) 16 f3), (sw_2 h0 h1 x (b 0) (b 1) (b 2) (b 3) (b 4) (b 5) g2 g3 g4), (sw_3 h1 p0 p1 p2 p3 p4 p5 p6 p7 p8 p9 (a 0) (a 1) (a 2) (a 3) (a 4) (a 5)), (sw_in cT (a 5) 6 f5)] H := ⟨_, hP, hD⟩
      refine lv_iinc (v := (nI (k9_13 + 1))) (lv' := [(4, .int (nI (k9_13 + 1))), (0, .ref h0), (1, .ref h1), (2, .int x), (3, .int y)]) hx hb dX2_prepare_41 hl (k := 0) rfl (by exact nI_1 (k9_13)) (by decide) rfl (fun ls hl => ?_)
      refine lv_goto (tgt := 13) hx hb dX2_prepare_44 (by decide) ?_
      exact ih_13 (k9_13 + 1) _ _ _ _ (by omega) (by omega)  ⟨hP.sub [7, 8, 0, 1, 2, 3, 4, 5, 6, 9] rfl, hD.sub [7, 8, 0, 1, 2, 3, 4, 5, 6, 9] (by decide) rfl⟩ hS (lv_sub hl [0, 1, 2, 3, 4] rfl)
set_option maxHeartbeats 4000000 in
set_option maxRecDepth 100000 in
theorem g_first (l : Launch) (D : va_G) (cT : Nat → ClassId) (sz : Nat) (h1 : Nat) (d : Nat → Nat) (s7 : Int32) (s8 : Int32) (s9 : Int32) (s10 : Int32) (hs9 : 0 ≤ s9.toInt ∧ s9.toInt ≤ 8) (x : Int32) (j6 : Nat → Int32) (e6 : EL j6 10 0 2560) : Met l yX7_first (wsc yX7_first cX7_first 2 (some .int)) { frames := 2, cells := 0, slots := 0, locals := 100 } (va_Pc [.ref h1, .int x] (PX D cT sz [(sw_7 h1 (d 0) (d 1) (d 2) (d 3) (d 4) (d 5) (d 6) s7 s8 s9 s10), (sw_in cT (d 6) 10 j6)])) (va_Qi (fun (r : Int32) (u : Unit) => (0 ≤ r.toInt ∧ r.toInt ≤ 2560) ∧ (True)) (fun u t => RW D (va_A [(sw_7 h1 (d 0) (d 1) (d 2) (d 3) (d 4) (d 5) (d 6) s7 s8 s9 s10), (sw_in cT (d 6) 10 j6)] sz) ((fun _ : Unit => [(sw_7 h1 (d 0) (d 1) (d 2) (d 3) (d 4) (d 5) (d 6) s7 s8 s9 s10), (sw_in cT (d 6) 10 j6)]) u) t) (va_A [(sw_7 h1 (d 0) (d 1) (d 2) (d 3) (d 4) (d 5) (d 6) s7 s8 s9 s10), (sw_in cT (d 6) 10 j6)] sz)) 0 0 (va_A [(sw_7 h1 (d 0) (d 1) (d 2) (d 3) (d 4) (d 5) (d 6) s7 s8 s9 s10), (sw_in cT (d 6) 10 j6)] sz) := by
  refine m_of (y := yX7_first) (cc := cX7_first) (nL := 2) (ret := (some .int)) (D := D) (cT := cT) (av := [.ref h1, .int x]) (wi := [(sw_7 h1 (d 0) (d 1) (d 2) (d 3) (d 4) (d 5) (d 6) s7 s8 s9 s10), (sw_in cT (d 6) 10 j6)]) (fun A => va_Qi (fun (r : Int32) (u : Unit) => (0 ≤ r.toInt ∧ r.toInt ≤ 2560) ∧ (True)) (fun u t => RW D A ((fun _ : Unit => [(sw_7 h1 (d 0) (d 1) (d 2) (d 3) (d 4) (d 5) (d 6) s7 s8 s9 s10), (sw_in cT (d 6) 10 j6)]) u) t) A) (by decide) (Nat.le_of_ble_eq_true rfl) ?_
  intro p e s m below meth c A hx hb hml hown htg hK hN hr hlk hnm hsz hP hD hS hA ls hl
  have hown : s.vm.findClass RX7 = some m.cls := hown
  have hl : lv_has ls 2 [(0, .ref h1), (1, .int x)] := hl
  refine lv_aload_n hx hb dX7_first_0 rfl (lv_at hl 0 rfl) ?_
  refine va_get (D := D) (ci := 7) (v := .ref (d 6)) (C := RX7) (T := TX7) (N := 11) hx hb htg gRX7 hown hK hP 0 rfl rfl 6 (by decide) (htg _ wi_308) (fun _ h9 => h9) rfl dX7_first_1 ?_
  refine lv_iconst (v := 0) hx hb dX7_first_4 (by decide) ?_
  refine lv_iload_n hx hb dX7_first_5 rfl (lv_at hl 1 rfl) ?_
  refine lv_aload_n hx hb dX7_first_6 rfl (lv_at hl 0 rfl) ?_
  refine va_get (D := D) (ci := 7) (v := .int s9) (C := RX7) (T := TX7) (N := 11) hx hb htg gRX7 hown hK hP 0 rfl rfl 9 (by decide) (htg _ wi_311) (fun _ h9 => h9) rfl dX7_first_7 ?_
  refine va_mmin hx hb (by rw [hml]; exact hl.1.symm) hown (htg _ wi_849) (htg _ wi_524) (htg _ wi_132) (htg _ wi_525) (Nat.le_of_ble_eq_true rfl) (Nat.le_of_ble_eq_true rfl) (Nat.le_of_ble_eq_true rfl) (Nat.le_of_ble_eq_true rfl) dX7_first_10 ?_
  refine lv_topi (fun z_1 ez_1 => ?_)
  have iz_1 := minI (a := x.toInt) (b := s9.toInt) ez_1 (rfl) (rfl)
  refine va_mmax hx hb (by rw [hml]; exact hl.1.symm) hown (htg _ wi_858) (htg _ wi_527) (htg _ wi_132) (htg _ wi_528) (Nat.le_of_ble_eq_true rfl) (Nat.le_of_ble_eq_true rfl) (Nat.le_of_ble_eq_true rfl) (Nat.le_of_ble_eq_true rfl) dX7_first_13 ?_
  refine lv_topi (fun z_2 ez_2 => ?_)
  have iz_2 := maxI (a := 0) (b := z_1.toInt) ez_2 (by decide) (rfl)
  refine va_iald hx hb hK hP 1 0 rfl rfl (vp_in_iff.mpr (by omega)) dX7_first_16 ?_
  refine lv_topi (fun z_3 ez_3 => ?_)
  have iz_3 : 0 ≤ z_3.toInt ∧ z_3.toInt ≤ 2560 := by rw [ez_3]; exact e6 _ (in_lt (vp_in_iff.mpr (by omega)))
  exact x_iret hx hb hr hlk hP hD hS [0, 1] (()) rfl (by decide) ⟨by (try dsimp only); first | assumption | omega | decide | exact Or.inl (by decide) | (intro h9; exact absurd h9 (by decide)) | (intro _; decide) | (simp only [ti_0, ti_1, ti_2, ti_3, ti_4, ti_5, ti_6, ti_7, ti_8, ti_9, ti_10, ti_11, ti_12, ti_m1]; omega) | (simp only [ti_0, ti_1, ti_2, ti_3, ti_4, ti_5, ti_6, ti_7, ti_8, ti_9, ti_10, ti_11, ti_12, ti_m1]; done), trivial⟩ (by decide) (by decide) dX7_first_17
set_option maxHeartbeats 4000000 in
set_option maxRecDepth 100000 in
theorem g_end (l : Launch) (D : va_G) (cT : Nat → ClassId) (sz : Nat) (h1 : Nat) (d : Nat → Nat) (s7 : Int32) (s8 : Int32) (s9 : Int32) (s10 : Int32) (hs9 : 0 ≤ s9.toInt ∧ s9.toInt ≤ 8) (x : Int32) (j6 : Nat → Int32) (e6 : EL j6 10 0 2560) : Met l yX7_end (wsc yX7_end cX7_end 2 (some .int)) { frames := 2, cells := 0, slots := 0, locals := 100 } (va_Pc [.ref h1, .int x] (PX D cT sz [(sw_7 h1 (d 0) (d 1) (d 2) (d 3) (d 4) (d 5) (d 6) s7 s8 s9 s10), (sw_in cT (d 6) 10 j6)])) (va_Qi (fun (r : Int32) (u : Unit) => (0 ≤ r.toInt ∧ r.toInt ≤ 2560) ∧ (True)) (fun u t => RW D (va_A [(sw_7 h1 (d 0) (d 1) (d 2) (d 3) (d 4) (d 5) (d 6) s7 s8 s9 s10), (sw_in cT (d 6) 10 j6)] sz) ((fun _ : Unit => [(sw_7 h1 (d 0) (d 1) (d 2) (d 3) (d 4) (d 5) (d 6) s7 s8 s9 s10), (sw_in cT (d 6) 10 j6)]) u) t) (va_A [(sw_7 h1 (d 0) (d 1) (d 2) (d 3) (d 4) (d 5) (d 6) s7 s8 s9 s10), (sw_in cT (d 6) 10 j6)] sz)) 0 0 (va_A [(sw_7 h1 (d 0) (d 1) (d 2) (d 3) (d 4) (d 5) (d 6) s7 s8 s9 s10), (sw_in cT (d 6) 10 j6)] sz) := by
  refine m_of (y := yX7_end) (cc := cX7_end) (nL := 2) (ret := (some .int)) (D := D) (cT := cT) (av := [.ref h1, .int x]) (wi := [(sw_7 h1 (d 0) (d 1) (d 2) (d 3) (d 4) (d 5) (d 6) s7 s8 s9 s10), (sw_in cT (d 6) 10 j6)]) (fun A => va_Qi (fun (r : Int32) (u : Unit) => (0 ≤ r.toInt ∧ r.toInt ≤ 2560) ∧ (True)) (fun u t => RW D A ((fun _ : Unit => [(sw_7 h1 (d 0) (d 1) (d 2) (d 3) (d 4) (d 5) (d 6) s7 s8 s9 s10), (sw_in cT (d 6) 10 j6)]) u) t) A) (by decide) (Nat.le_of_ble_eq_true rfl) ?_
  intro p e s m below meth c A hx hb hml hown htg hK hN hr hlk hnm hsz hP hD hS hA ls hl
  have hown : s.vm.findClass RX7 = some m.cls := hown
  have hl : lv_has ls 2 [(0, .ref h1), (1, .int x)] := hl
  refine lv_aload_n hx hb dX7_end_0 rfl (lv_at hl 0 rfl) ?_
  refine va_get (D := D) (ci := 7) (v := .ref (d 6)) (C := RX7) (T := TX7) (N := 11) hx hb htg gRX7 hown hK hP 0 rfl rfl 6 (by decide) (htg _ wi_308) (fun _ h9 => h9) rfl dX7_end_1 ?_
  refine lv_iconst (v := 0) hx hb dX7_end_4 (by decide) ?_
  refine lv_iload_n hx hb dX7_end_5 rfl (lv_at hl 1 rfl) ?_
  refine lv_aload_n hx hb dX7_end_6 rfl (lv_at hl 0 rfl) ?_
  refine va_get (D := D) (ci := 7) (v := .int s9) (C := RX7) (T := TX7) (N := 11) hx hb htg gRX7 hown hK hP 0 rfl rfl 9 (by decide) (htg _ wi_311) (fun _ h9 => h9) rfl dX7_end_7 ?_
  refine va_mmin hx hb (by rw [hml]; exact hl.1.symm) hown (htg _ wi_849) (htg _ wi_524) (htg _ wi_132) (htg _ wi_525) (Nat.le_of_ble_eq_true rfl) (Nat.le_of_ble_eq_true rfl) (Nat.le_of_ble_eq_true rfl) (Nat.le_of_ble_eq_true rfl) dX7_end_10 ?_
  refine lv_topi (fun z_1 ez_1 => ?_)
  have iz_1 := minI (a := x.toInt) (b := s9.toInt) ez_1 (rfl) (rfl)
  refine va_mmax hx hb (by rw [hml]; exact hl.1.symm) hown (htg _ wi_858) (htg _ wi_527) (htg _ wi_132) (htg _ wi_528) (Nat.le_of_ble_eq_true rfl) (Nat.le_of_ble_eq_true rfl) (Nat.le_of_ble_eq_true rfl) (Nat.le_of_ble_eq_true rfl) dX7_end_13 ?_
  refine lv_topi (fun z_2 ez_2 => ?_)
  have iz_2 := maxI (a := 0) (b := z_1.toInt) ez_2 (by decide) (rfl)
  refine lv_iconst (v := 1) hx hb dX7_end_16 (by decide) ?_
  refine lv_iadd hx hb dX7_end_17 ?_
  refine lv_topi (fun z_3 ez_3 => ?_)
  have iz_3 : z_3.toInt = z_2.toInt + 1 := toInt_addI ez_3 (rfl) (by decide) (by omega)
  refine va_iald hx hb hK hP 1 0 rfl rfl (vp_in_iff.mpr (by omega)) dX7_end_18 ?_
  refine lv_topi (fun z_4 ez_4 => ?_)
  have iz_4 : 0 ≤ z_4.toInt ∧ z_4.toInt ≤ 2560 := by rw [ez_4]; exact e6 _ (in_lt (vp_in_iff.mpr (by omega)))
  exact x_iret hx hb hr hlk hP hD hS [0, 1] (()) rfl (by decide) ⟨by (try dsimp only); first | assumption | omega | decide | exact Or.inl (by decide) | (intro h9; exact absurd h9 (by decide)) | (intro _; decide) | (simp only [ti_0, ti_1, ti_2, ti_3, ti_4, ti_5, ti_6, ti_7, ti_8, ti_9, ti_10, ti_11, ti_12, ti_m1]; omega) | (simp only [ti_0, ti_1, ti_2, ti_3, ti_4, ti_5, ti_6, ti_7, ti_8, ti_9, ti_10, ti_11, ti_12, ti_m1]; done), trivial⟩ (by decide) (by decide) dX7_end_19
set_option maxHeartbeats 4000000 in
set_option maxRecDepth 100000 in
theorem g_moveOf (l : Launch) (D : va_G) (cT : Nat → ClassId) (sz : Nat) (h1 : Nat) (d : Nat → Nat) (s7 : Int32) (s8 : Int32) (s9 : Int32) (s10 : Int32) (x : Int32) (y : Int32) (z : Int32) (hx9 : 0 ≤ x.toInt ∧ x.toInt ≤ 2559) (j3 : Nat → Int32) : Met l yX7_moveOf (wsc yX7_moveOf cX7_moveOf 4 (some .int)) { frames := 2, cells := 0, slots := 0, locals := 100 } (va_Pc [.ref h1, .int x, .int y, .int z] (PX D cT sz [(sw_7 h1 (d 0) (d 1) (d 2) (d 3) (d 4) (d 5) (d 6) s7 s8 s9 s10), (sw_in cT (d 3) 2560 j3)])) (va_Qi (fun (r : Int32) (u : Unit) => True) (fun u t => RW D (va_A [(sw_7 h1 (d 0) (d 1) (d 2) (d 3) (d 4) (d 5) (d 6) s7 s8 s9 s10), (sw_in cT (d 3) 2560 j3)] sz) ((fun _ : Unit => [(sw_7 h1 (d 0) (d 1) (d 2) (d 3) (d 4) (d 5) (d 6) s7 s8 s9 s10), (sw_in cT (d 3) 2560 j3)]) u) t) (va_A [(sw_7 h1 (d 0) (d 1) (d 2) (d 3) (d 4) (d 5) (d 6) s7 s8 s9 s10), (sw_in cT (d 3) 2560 j3)] sz)) 0 0 (va_A [(sw_7 h1 (d 0) (d 1) (d 2) (d 3) (d 4) (d 5) (d 6) s7 s8 s9 s10), (sw_in cT (d 3) 2560 j3)] sz) := by
  refine m_of (y := yX7_moveOf) (cc := cX7_moveOf) (nL := 4) (ret := (some .int)) (D := D) (cT := cT) (av := [.ref h1, .int x, .int y, .int z]) (wi := [(sw_7 h1 (d 0) (d 1) (d 2) (d 3) (d 4) (d 5) (d 6) s7 s8 s9 s10), (sw_in cT (d 3) 2560 j3)]) (fun A => va_Qi (fun (r : Int32) (u : Unit) => True) (fun u t => RW D A ((fun _ : Unit => [(sw_7 h1 (d 0) (d 1) (d 2) (d 3) (d 4) (d 5) (d 6) s7 s8 s9 s10), (sw_in cT (d 3) 2560 j3)]) u) t) A) (by decide) (Nat.le_of_ble_eq_true rfl) ?_
  intro p e s m below meth c A hx hb hml hown htg hK hN hr hlk hnm hsz hP hD hS hA ls hl
  have hown : s.vm.findClass RX7 = some m.cls := hown
  have hl : lv_has ls 4 [(0, .ref h1), (1, .int x), (2, .int y), (3, .int z)] := hl
  refine lv_iload_n hx hb dX7_moveOf_0 rfl (lv_at hl 3 rfl) ?_
  refine lv_if_lt (tgt := 9) hx hb dX7_moveOf_1 (by decide) (fun c_1 => ?_) (fun c_1 => ?_)
  · have ic_1 : z.toInt < 0 := ilt c_1 (rfl) (by decide)
    refine lv_iconst (v := (-1)) hx hb dX7_moveOf_9 (by decide) ?_
    exact x_iret hx hb hr hlk hP hD hS [0, 1] (()) rfl (by decide) trivial (by decide) (by decide) dX7_moveOf_10
  · have ic_1 : 0 ≤ z.toInt := inlt c_1 (rfl) (by decide)
    refine lv_iload_n hx hb dX7_moveOf_4 rfl (lv_at hl 3 rfl) ?_
    refine lv_iload_n hx hb dX7_moveOf_5 rfl (lv_at hl 2 rfl) ?_
    refine lv_icmp_lt (tgt := 11) hx hb dX7_moveOf_6 (by decide) (fun c_2 => ?_) (fun c_2 => ?_)
    · have ic_2 : z.toInt < y.toInt := ilt c_2 (rfl) (rfl)
      refine lv_aload_n hx hb dX7_moveOf_11 rfl (lv_at hl 0 rfl) ?_
      refine va_get (D := D) (ci := 7) (v := .ref (d 3)) (C := RX7) (T := TX7) (N := 11) hx hb htg gRX7 hown hK hP 0 rfl rfl 3 (by decide) (htg _ wi_302) (fun _ h9 => h9) rfl dX7_moveOf_12 ?_
      refine lv_iload_n hx hb dX7_moveOf_15 rfl (lv_at hl 1 rfl) ?_
      refine va_iald hx hb hK hP 1 0 rfl rfl (vp_in_iff.mpr (by omega)) dX7_moveOf_16 ?_
      refine lv_topi (fun z_3 ez_3 => ?_)
      refine lv_iconst (v := 2) hx hb dX7_moveOf_17 (by decide) ?_
      refine lv_iload_n hx hb dX7_moveOf_18 rfl (lv_at hl 2 rfl) ?_
      refine lv_iconst (v := 1) hx hb dX7_moveOf_19 (by decide) ?_
      refine lv_isub hx hb dX7_moveOf_20 ?_
      refine lv_topi (fun z_4 ez_4 => ?_)
      refine lv_iload_n hx hb dX7_moveOf_21 rfl (lv_at hl 3 rfl) ?_
      refine lv_isub hx hb dX7_moveOf_22 ?_
      refine lv_topi (fun z_5 ez_5 => ?_)
      refine lv_imul hx hb dX7_moveOf_23 ?_
      refine lv_topi (fun z_6 ez_6 => ?_)
      refine lv_ishr hx hb dX7_moveOf_24 ?_
      refine lv_topi (fun z_7 ez_7 => ?_)
      refine lv_iconst (v := 3) hx hb dX7_moveOf_25 (by decide) ?_
      refine lv_iand hx hb dX7_moveOf_26 ?_
      refine lv_topi (fun z_8 ez_8 => ?_)
      have iz_8 : 0 ≤ z_8.toInt ∧ z_8.toInt ≤ 3 := andI ez_8 (by decide) (by decide)
      exact x_iret hx hb hr hlk hP hD hS [0, 1] (()) rfl (by decide) trivial (by decide) (by decide) dX7_moveOf_27
    · have ic_2 : y.toInt ≤ z.toInt := inlt c_2 (rfl) (rfl)
      refine lv_iconst (v := (-1)) hx hb dX7_moveOf_9 (by decide) ?_
      exact x_iret hx hb hr hlk hP hD hS [0, 1] (()) rfl (by decide) trivial (by decide) (by decide) dX7_moveOf_10
