set_option maxHeartbeats 4000000 in
set_option maxRecDepth 100000 in
theorem g_leastHeightX (l : Launch) (D : va_G) (cT : Nat → ClassId) (sz : Nat) (h0 : Nat) (a : Nat → Nat) (p0 : Int32) (p1 : Int32) (p2 : Int32) (p3 : Int32) (p4 : Int32) (p5 : Int32) (p6 : Int32) (p7 : Int32) (p8 : Int32) (p9 : Int32) (hs : 0 ≤ p0.toInt ∧ p0.toInt ≤ 16) (x : Int32) (y : Int32) (hxp : 0 ≤ x.toInt ∧ x.toInt < p0.toInt) (hyp : 0 ≤ y.toInt ∧ y.toInt < p0.toInt) (f2 : Nat → Int32) (hbt : BT f2 p0.toInt) : Met l yX3_leastHeight (wsc yX3_leastHeight cX3_leastHeight 9 (some .int)) { frames := 3, cells := 0, slots := 0, locals := 122 } (va_Pc [.ref h0, .int x, .int y] (PX D cT sz [(sw_3 h0 p0 p1 p2 p3 p4 p5 p6 p7 p8 p9 (a 0) (a 1) (a 2) (a 3) (a 4) (a 5)), (sw_in cT (a 2) 16 f2)])) (va_Qi (fun (r : Int32) (u : Unit) => (r.toInt = lhF f2 p5 p6 x.toInt y.toInt) ∧ (True)) (fun u t => RW D (va_A [(sw_3 h0 p0 p1 p2 p3 p4 p5 p6 p7 p8 p9 (a 0) (a 1) (a 2) (a 3) (a 4) (a 5)), (sw_in cT (a 2) 16 f2)] sz) ((fun _ : Unit => [(sw_3 h0 p0 p1 p2 p3 p4 p5 p6 p7 p8 p9 (a 0) (a 1) (a 2) (a 3) (a 4) (a 5)), (sw_in cT (a 2) 16 f2)]) u) t) (va_A [(sw_3 h0 p0 p1 p2 p3 p4 p5 p6 p7 p8 p9 (a 0) (a 1) (a 2) (a 3) (a 4) (a 5)), (sw_in cT (a 2) 16 f2)] sz)) 0 0 (va_A [(sw_3 h0 p0 p1 p2 p3 p4 p5 p6 p7 p8 p9 (a 0) (a 1) (a 2) (a 3) (a 4) (a 5)), (sw_in cT (a 2) 16 f2)] sz) := by
  refine m_of (y := yX3_leastHeight) (cc := cX3_leastHeight) (nL := 9) (ret := (some .int)) (D := D) (cT := cT) (av := [.ref h0, .int x, .int y]) (wi := [(sw_3 h0 p0 p1 p2 p3 p4 p5 p6 p7 p8 p9 (a 0) (a 1) (a 2) (a 3) (a 4) (a 5)), (sw_in cT (a 2) 16 f2)]) (fun A => va_Qi (fun (r : Int32) (u : Unit) => (r.toInt = lhF f2 p5 p6 x.toInt y.toInt) ∧ (True)) (fun u t => RW D A ((fun _ : Unit => [(sw_3 h0 p0 p1 p2 p3 p4 p5 p6 p7 p8 p9 (a 0) (a 1) (a 2) (a 3) (a 4) (a 5)), (sw_in cT (a 2) 16 f2)]) u) t) A) (by decide) (Nat.le_of_ble_eq_true rfl) ?_
  intro p e s m below meth c A hx hb hml hown htg hK hN hr hlk hnm hsz hP hD hS hA ls hl
  have hown : s.vm.findClass RX3 = some m.cls := hown
  have hl : lv_has ls 9 [(0, .ref h0), (1, .int x), (2, .int y)] := hl
  have t9_0 : (0 : Int32).toInt = 0 := by decide
  have t9_1 : (1 : Int32).toInt = 1 := by decide
  have t9_m1 : ((-1) : Int32).toInt = (-1) := by decide
  have t9_99 : (99 : Int32).toInt = 99 := by decide
  refine lv_aload_n hx hb dX3_leastHeight_0 rfl (lv_at hl 0 rfl) ?_
  refine lv_iload_n hx hb dX3_leastHeight_1 rfl (lv_at hl 1 rfl) ?_
  refine lv_iload_n hx hb dX3_leastHeight_2 rfl (lv_at hl 2 rfl) ?_
  refine xk_i (wr := [(sw_in cT (a 2) 16 f2)]) (xr_V (n := 2) (As := [.int x, .int y]) (rest := []) ⟨hx, hb, hml, hown, htg⟩ hK hN hP hD hS hA [0] rfl (by decide) (g_unshadedLightX l D cT _ (h0) (a) (p0) (p1) (p2) (p3) (p4) (p5) (p6) (p7) (p8) (p9) (x) (y) (by first | assumption | decide | omega | (simp only [ti_0, ti_1, ti_2, ti_3, ti_4, ti_5, ti_6, ti_7, ti_8, ti_9, ti_10, ti_11, ti_12, ti_m1]; omega)) (by first | assumption | decide | omega | (simp only [ti_0, ti_1, ti_2, ti_3, ti_4, ti_5, ti_6, ti_7, ti_8, ti_9, ti_10, ti_11, ti_12, ti_m1]; omega))) wi_674 wi_676 wi_20 wi_123 wi_677 rfl rfl rfl ⟨rfl, by decide +kernel⟩ ⟨Nat.le_of_ble_eq_true rfl, Nat.le_of_ble_eq_true rfl⟩ rfl hl.1 rfl (Nat.le_of_ble_eq_true rfl) dX3_leastHeight_3 ⟨Nat.le_of_ble_eq_true rfl, Nat.le_of_ble_eq_true rfl⟩) hP hD hS hA [0] [1] rfl rfl (by decide) (by decide) (fun r_2 u_1 H locs hwr_2 hP hD hS => ?_)
  obtain ⟨hP, hD⟩ : PD D A [(sw_in cT (a 2) 16 f2), (sw_3 h0 p0 p1 p2 p3 p4 p5 p6 p7 p8 p9 (a 0) (a 1) (a 2) (a 3) (a 4) (a 5))] _ := ⟨hP, hD⟩
  have qr_2_0 : r_2.toInt = unl p5 p6 x.toInt y.toInt := hwr_2.1
  refine lv_if_ne (tgt := 11) hx hb dX3_leastHeight_6 (by decide) (fun c_3 => ?_) (fun c_3 => ?_)
  · have ic_3 : ¬ r_2.toInt = 0 := ine c_3 (rfl) (by decide)
    refine lv_iconst (v := 1) hx hb dX3_leastHeight_11 (by decide) ?_
    refine lv_istore_n (lv' := [(3, .int 1), (0, .ref h0), (1, .int x), (2, .int y)]) hx hb dX3_leastHeight_12 rfl hl (by decide) rfl (fun ls hl => ?_)
    refine lv_iload_n hx hb dX3_leastHeight_13 rfl (lv_at hl 2 rfl) ?_
    refine lv_iload_n hx hb dX3_leastHeight_14 rfl (lv_at hl 3 rfl) ?_
    refine lv_isub hx hb dX3_leastHeight_15 ?_
    refine lv_topi (fun z_4 ez_4 => ?_)
    have iz_4 : z_4.toInt = x.toInt - y.toInt := toInt_subI ez_4 (rfl) (rfl) (by omega)
    refine va_mabs hx hb (by rw [hml]; exact hl.1.symm) hown (htg _ wi_678) (htg _ wi_679) (htg _ wi_132) (htg _ wi_680) (Nat.le_of_ble_eq_true rfl) (Nat.le_of_ble_eq_true rfl) (Nat.le_of_ble_eq_true rfl) (Nat.le_of_ble_eq_true rfl) dX3_leastHeight_16 ?_
    refine lv_topi (fun z_5 ez_5 => ?_)
    have iz_5 := absI (a := z_4.toInt) ez_5 (rfl) (by omega)
    have dz_5 : z_5 = Int32.ofInt (dI x.toInt y.toInt) := i3_eq (by unfold dI; split <;> omega)
    have hdst : z_5.toInt = dI x.toInt y.toInt := by unfold dI; split <;> omega
    refine lv_istore (lv' := [(4, .int z_5), (3, .int 1), (0, .ref h0), (1, .int x), (2, .int y)]) hx hb dX3_leastHeight_19 hl (by decide) rfl (fun ls hl => ?_)
    refine lv_iload_n hx hb dX3_leastHeight_21 rfl (lv_at hl 3 rfl) ?_
    refine lv_iload_n hx hb dX3_leastHeight_22 rfl (lv_at hl 4 rfl) ?_
    refine va_mmax hx hb (by rw [hml]; exact hl.1.symm) hown (htg _ wi_681) (htg _ wi_527) (htg _ wi_132) (htg _ wi_528) (Nat.le_of_ble_eq_true rfl) (Nat.le_of_ble_eq_true rfl) (Nat.le_of_ble_eq_true rfl) (Nat.le_of_ble_eq_true rfl) dX3_leastHeight_23 ?_
    refine lv_topi (fun z_6 ez_6 => ?_)
    have iz_6 := maxI (a := x.toInt) (b := y.toInt) ez_6 (rfl) (rfl)
    refine lv_istore (lv' := [(5, .int z_6), (4, .int z_5), (3, .int 1), (0, .ref h0), (1, .int x), (2, .int y)]) hx hb dX3_leastHeight_26 hl (by decide) rfl (fun ls hl => ?_)
    refine lv_iload_n hx hb dX3_leastHeight_28 rfl (lv_at hl 4 rfl) ?_
    refine lv_iload_n hx hb dX3_leastHeight_29 rfl (lv_at hl 5 rfl) ?_
    refine va_mmin hx hb (by rw [hml]; exact hl.1.symm) hown (htg _ wi_686) (htg _ wi_524) (htg _ wi_132) (htg _ wi_525) (Nat.le_of_ble_eq_true rfl) (Nat.le_of_ble_eq_true rfl) (Nat.le_of_ble_eq_true rfl) (Nat.le_of_ble_eq_true rfl) dX3_leastHeight_30 ?_
    refine lv_topi (fun z_7 ez_7 => ?_)
    have iz_7 := minI (a := x.toInt) (b := y.toInt) ez_7 (rfl) (rfl)
    refine lv_iconst (v := 1) hx hb dX3_leastHeight_33 (by decide) ?_
    refine lv_iadd hx hb dX3_leastHeight_34 ?_
    refine lv_topi (fun z_8 ez_8 => ?_)
    have iz_8 : z_8.toInt = z_7.toInt + 1 := toInt_addI ez_8 (rfl) (by decide) (by omega)
    refine lv_istore (lv' := [(6, .int z_8), (5, .int z_6), (4, .int z_5), (3, .int 1), (0, .ref h0), (1, .int x), (2, .int y)]) hx hb dX3_leastHeight_35 hl (by decide) rfl (fun ls hl => ?_)
    have hlm0 : lmR f2 (dI x.toInt y.toInt) y.toInt z_6.toInt (17 - z_8.toInt).toNat z_8.toInt (1 : Int32).toInt = lmF f2 x.toInt y.toInt := by unfold lmF; rw [show hiI x.toInt y.toInt = z_6.toInt from by unfold hiI; split <;> omega, show loI x.toInt y.toInt + 1 = z_8.toInt from by unfold loI; split <;> omega]; rfl
    refine (fun (key : ∀ (n9_37 : Nat) (k9_37 : Int32) (x9_37_3 : Int32) (H : Heap) (locs : List Loc) (ls : Array Slot), (z_8.toInt ≤ k9_37.toInt ∧ k9_37.toInt ≤ 17) → 17 < k9_37.toInt + n9_37 → (lmR f2 (dI x.toInt y.toInt) y.toInt z_6.toInt (17 - k9_37.toInt).toNat k9_37.toInt x9_37_3.toInt = lmF f2 x.toInt y.toInt) → PD D A [(sw_in cT (a 2) 16 f2), (sw_3 h0 p0 p1 p2 p3 p4 p5 p6 p7 p8 p9 (a 0) (a 1) (a 2) (a 3) (a 4) (a 5))] H → va_S A s.heap H locs → lv_has ls 9 [(6, .int k9_37), (5, .int z_6), (4, .int z_5), (3, .int x9_37_3), (0, .ref h0), (1, .int x), (2, .int y)] → W p l e _ s m _ below meth c H locs _ _ _ (F0 m 37 ls [])) => key (Int.toNat (17 - z_8.toInt) + 1) (z_8) _ _ _ _ (by omega) (by omega) (by first | assumption | omega | decide | (simp only [ti_0, ti_1, ti_2, ti_3, ti_4, ti_5, ti_6, ti_7, ti_8, ti_9, ti_10, ti_11, ti_12, ti_m1]; omega)) ⟨hP, hD⟩ hS (lv_sub hl [0, 1, 2, 3, 4, 5, 6] rfl)) ?_
    intro n9_37
    induction n9_37 with
    | zero => intro k9_37 x9_37_3 H locs ls hq1 hq2; exact absurd hq2 (by omega)
    | succ n9_37 ih_37 =>
      intro k9_37 x9_37_3 H locs ls hq1_37 hq2_37 h9_37_0 hPD hS hl
      obtain ⟨hP, hD⟩ := hPD
      refine lv_iload hx hb dX3_leastHeight_37 (lv_at hl 0 rfl) ?_
      refine lv_iload hx hb dX3_leastHeight_39 (lv_at hl 1 rfl) ?_
      refine lv_icmp_ge (tgt := 95) hx hb dX3_leastHeight_41 (by decide) (fun c_9 => ?_) (fun c_9 => ?_)
      · have ic_9 : z_6.toInt ≤ k9_37.toInt := ile c_9 (rfl) (rfl)
        have hlE : lmF f2 x.toInt y.toInt = x9_37_3.toInt := by rw [← h9_37_0]; exact lmR_e _ (by omega)
        refine lv_iload_n hx hb dX3_leastHeight_95 rfl (lv_at hl 3 rfl) ?_
        refine lv_bipush (v := 99) hx hb dX3_leastHeight_96 (by decide) ?_
        refine lv_icmp_le (tgt := 105) hx hb dX3_leastHeight_98 (by decide) (fun c_10 => ?_) (fun c_10 => ?_)
        · have ic_10 : x9_37_3.toInt ≤ 99 := ile c_10 (rfl) (by decide)
          refine lv_iload_n hx hb dX3_leastHeight_105 rfl (lv_at hl 3 rfl) ?_
          exact x_iret hx hb hr hlk hP hD hS [1, 0] (()) rfl (by decide) ⟨(by (try dsimp only); unfold lhF; first | (rw [if_pos (by omega)]; decide) | (rw [if_neg (by omega)]; first | (rw [if_pos (by omega)]; decide) | (rw [if_neg (by omega)]; omega))), trivial⟩ (by decide) (by decide) dX3_leastHeight_106
        · have ic_10 : 99 < x9_37_3.toInt := inle c_10 (rfl) (by decide)
          refine lv_iconst (v := (-1)) hx hb dX3_leastHeight_101 (by decide) ?_
          refine lv_goto (tgt := 106) hx hb dX3_leastHeight_102 (by decide) ?_
          exact x_iret hx hb hr hlk hP hD hS [1, 0] (()) rfl (by decide) ⟨(by (try dsimp only); unfold lhF; first | (rw [if_pos (by omega)]; decide) | (rw [if_neg (by omega)]; first | (rw [if_pos (by omega)]; decide) | (rw [if_neg (by omega)]; omega))), trivial⟩ (by decide) (by decide) dX3_leastHeight_106
      · have ic_9 : k9_37.toInt < z_6.toInt := inle c_9 (rfl) (rfl)
        refine lv_iload hx hb dX3_leastHeight_44 (lv_at hl 0 rfl) ?_
        refine lv_iload_n hx hb dX3_leastHeight_46 rfl (lv_at hl 6 rfl) ?_
        refine lv_isub hx hb dX3_leastHeight_47 ?_
        refine lv_topi (fun z_11 ez_11 => ?_)
        have iz_11 : z_11.toInt = k9_37.toInt - y.toInt := toInt_subI ez_11 (rfl) (rfl) (by omega)
        refine va_mabs hx hb (by rw [hml]; exact hl.1.symm) hown (htg _ wi_678) (htg _ wi_679) (htg _ wi_132) (htg _ wi_680) (Nat.le_of_ble_eq_true rfl) (Nat.le_of_ble_eq_true rfl) (Nat.le_of_ble_eq_true rfl) (Nat.le_of_ble_eq_true rfl) dX3_leastHeight_48 ?_
        refine lv_topi (fun z_12 ez_12 => ?_)
        have iz_12 := absI (a := z_11.toInt) ez_12 (rfl) (by omega)
        have hdg : z_12.toInt = dI k9_37.toInt y.toInt := by unfold dI; split <;> omega
        refine lv_istore (lv' := [(7, .int z_12), (6, .int k9_37), (5, .int z_6), (4, .int z_5), (3, .int x9_37_3), (0, .ref h0), (1, .int x), (2, .int y)]) hx hb dX3_leastHeight_51 hl (by decide) rfl (fun ls hl => ?_)
        refine lv_iload hx hb dX3_leastHeight_53 (lv_at hl 0 rfl) ?_
        refine lv_if_le (tgt := 79) hx hb dX3_leastHeight_55 (by decide) (fun c_13 => ?_) (fun c_13 => ?_)
        · have ic_13 : z_12.toInt ≤ 0 := ile c_13 (rfl) (by decide)
          exfalso; omega
        · have ic_13 : 0 < z_12.toInt := inle c_13 (rfl) (by decide)
          refine lv_aload_n hx hb dX3_leastHeight_58 rfl (lv_at hl 5 rfl) ?_
          refine va_get (D := D) (ci := 3) (v := .ref (a 2)) (C := RX3) (T := TX3) (N := 16) hx hb htg gRX3 hown hK hP 1 rfl rfl 12 (by decide) (htg _ wi_206) (fun _ h9 => h9) rfl dX3_leastHeight_59 ?_
          refine lv_iload hx hb dX3_leastHeight_62 (lv_at hl 1 rfl) ?_
          refine va_iald hx hb hK hP 0 0 rfl rfl (vp_in_iff.mpr (by omega)) dX3_leastHeight_64 ?_
          refine lv_topi (fun z_14 ez_14 => ?_)
          have bz_14 : 0 ≤ z_14.toInt ∧ z_14.toInt ≤ 30 := by rw [ez_14]; exact hbt _ (by show ((Int.toNat _ : Nat) : Int) < _; omega)
          have nz_14 : z_14 = f2 k9_37.toInt.toNat := ez_14
          refine lv_iload hx hb dX3_leastHeight_65 (lv_at hl 3 rfl) ?_
          refine lv_imul hx hb dX3_leastHeight_67 ?_
          refine lv_topi (fun z_15 ez_15 => ?_)
          have hmB := mulB (a := z_14.toInt) (b := z_5.toInt) (A := 30) (B := 15) bz_14 (by omega)
          have hmE : z_15.toInt = z_14.toInt * z_5.toInt := toInt_mulI ez_15 rfl rfl (by omega)
          refine lv_iload hx hb dX3_leastHeight_68 (lv_at hl 0 rfl) ?_
          refine lv_iadd hx hb dX3_leastHeight_70 ?_
          refine lv_topi (fun z_16 ez_16 => ?_)
          have iz_16 : z_16.toInt = z_15.toInt + z_12.toInt := toInt_addI ez_16 (rfl) (rfl) (by omega)
          refine lv_iconst (v := 1) hx hb dX3_leastHeight_71 (by decide) ?_
          refine lv_isub hx hb dX3_leastHeight_72 ?_
          refine lv_topi (fun z_17 ez_17 => ?_)
          have iz_17 : z_17.toInt = z_16.toInt - 1 := toInt_subI ez_17 (rfl) (by decide) (by omega)
          refine lv_iload hx hb dX3_leastHeight_73 (lv_at hl 0 rfl) ?_
          refine lv_idiv hx hb dX3_leastHeight_75 (fun h => by have h3 := ieq h (rfl) (show (0 : Int32).toInt = 0 from by decide); omega) ?_
          refine lv_topi (fun z_18 ez_18 => ?_)
          have hq : z_18.toInt = z_17.toInt / z_12.toInt := divP ez_18 rfl rfl (by omega) (by omega)
          have hclr : z_18.toInt = clr f2 (dI x.toInt y.toInt) y.toInt k9_37.toInt := by unfold clr; rw [hq, ← hdg, ← hdst, ← nz_14, ← hmE]; exact congrArg (fun k => k / z_12.toInt) (by omega)
          refine lv_goto (tgt := 80) hx hb dX3_leastHeight_76 (by decide) ?_
          refine lv_istore (lv' := [(8, .int z_18), (7, .int z_12), (6, .int k9_37), (5, .int z_6), (4, .int z_5), (3, .int x9_37_3), (0, .ref h0), (1, .int x), (2, .int y)]) hx hb dX3_leastHeight_80 hl (by decide) rfl (fun ls hl => ?_)
          refine lv_iload_n hx hb dX3_leastHeight_82 rfl (lv_at hl 5 rfl) ?_
          refine lv_iload hx hb dX3_leastHeight_83 (lv_at hl 0 rfl) ?_
          refine va_mmax hx hb (by rw [hml]; exact hl.1.symm) hown (htg _ wi_681) (htg _ wi_527) (htg _ wi_132) (htg _ wi_528) (Nat.le_of_ble_eq_true rfl) (Nat.le_of_ble_eq_true rfl) (Nat.le_of_ble_eq_true rfl) (Nat.le_of_ble_eq_true rfl) dX3_leastHeight_85 ?_
          refine lv_topi (fun z_19 ez_19 => ?_)
          have iz_19 := maxI (a := x9_37_3.toInt) (b := z_18.toInt) ez_19 (rfl) (rfl)
          refine lv_istore_n (lv' := [(3, .int z_19), (8, .int z_18), (7, .int z_12), (6, .int k9_37), (5, .int z_6), (4, .int z_5), (0, .ref h0), (1, .int x), (2, .int y)]) hx hb dX3_leastHeight_88 rfl hl (by decide) rfl (fun ls hl => ?_)
          obtain ⟨z_20, ez_20⟩ : ∃ w : Int32, w = k9_37 + 1 := ⟨_, rfl⟩
          have iz_20 : z_20.toInt = k9_37.toInt + 1 := toInt_addI ez_20 (rfl) (by decide) (by omega)
          refine lv_iinc (v := z_20) (lv' := [(6, .int z_20), (3, .int z_19), (8, .int z_18), (7, .int z_12), (5, .int z_6), (4, .int z_5), (0, .ref h0), (1, .int x), (2, .int y)]) hx hb dX3_leastHeight_89 hl (k := 3) rfl (by rw [ez_20]; rfl) (by decide) rfl (fun ls hl => ?_)
          refine lv_goto (tgt := 37) hx hb dX3_leastHeight_92 (by decide) ?_
          have hlm1 : lmR f2 (dI x.toInt y.toInt) y.toInt z_6.toInt (17 - z_20.toInt).toNat z_20.toInt z_19.toInt = lmF f2 x.toInt y.toInt := by
            have h7 := h9_37_0
            rw [show (17 - k9_37.toInt).toNat = (17 - (k9_37.toInt + 1)).toNat + 1 from by omega, lmR_s (by omega), show mxI x9_37_3.toInt (clr f2 (dI x.toInt y.toInt) y.toInt k9_37.toInt) = z_19.toInt from by rw [← hclr]; unfold mxI; split <;> omega] at h7
            rw [show z_20.toInt = k9_37.toInt + 1 from by omega]; exact h7
          exact ih_37 (z_20) _ _ _ _ (by omega) (by omega) (by first | assumption | omega | decide | (simp only [ti_0, ti_1, ti_2, ti_3, ti_4, ti_5, ti_6, ti_7, ti_8, ti_9, ti_10, ti_11, ti_12, ti_m1]; omega)) ⟨hP.sub [0, 1] rfl, hD.sub [0, 1] (by decide) rfl⟩ hS (lv_sub hl [0, 4, 5, 1, 6, 7, 8] rfl)
  · have ic_3 : r_2.toInt = 0 := ieq c_3 (rfl) (by decide)
    refine lv_iconst (v := (-1)) hx hb dX3_leastHeight_9 (by decide) ?_
    exact x_iret hx hb hr hlk hP hD hS [1, 0] (()) rfl (by decide) ⟨(by (try dsimp only); unfold lhF; first | (rw [if_pos (by omega)]; decide) | (rw [if_neg (by omega)]; first | (rw [if_pos (by omega)]; decide) | (rw [if_neg (by omega)]; omega))), trivial⟩ (by decide) (by decide) dX3_leastHeight_10
