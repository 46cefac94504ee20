set_option maxHeartbeats 4000000 in
set_option maxRecDepth 100000 in
theorem g_shadedFromX (l : Launch) (D : va_G) (cT : Nat → ClassId) (sz : Nat) (h0 : Nat) (a : Nat → Nat) (p0 : Int32) (p1 : Int32) (p2 : Int32) (p3 : Int32) (p4 : Int32) (p5 : Int32) (p6 : Int32) (p7 : Int32) (p8 : Int32) (p9 : Int32) (hs : 0 ≤ p0.toInt ∧ p0.toInt ≤ 16) (x : Int32) (hxx : 0 ≤ x.toInt ∧ x.toInt ≤ 15) (f2 : Nat → Int32) : Met l yX3_shadedFrom (wsc yX3_shadedFrom cX3_shadedFrom 4 (some .int)) { frames := 3, cells := 0, slots := 0, locals := 125 } (va_Pc [.ref h0, .int x] (PX D cT sz [(sw_3 h0 p0 p1 p2 p3 p4 p5 p6 p7 p8 p9 (a 0) (a 1) (a 2) (a 3) (a 4) (a 5)), (sw_in cT (a 2) 16 f2)])) (va_Qi (fun (r : Int32) (u : Unit) => (r = shdR f2 p4 p5 p6 x.toInt p0.toInt.toNat) ∧ (True)) (fun u t => RW D (va_A [(sw_3 h0 p0 p1 p2 p3 p4 p5 p6 p7 p8 p9 (a 0) (a 1) (a 2) (a 3) (a 4) (a 5)), (sw_in cT (a 2) 16 f2)] sz) ((fun _ : Unit => [(sw_3 h0 p0 p1 p2 p3 p4 p5 p6 p7 p8 p9 (a 0) (a 1) (a 2) (a 3) (a 4) (a 5)), (sw_in cT (a 2) 16 f2)]) u) t) (va_A [(sw_3 h0 p0 p1 p2 p3 p4 p5 p6 p7 p8 p9 (a 0) (a 1) (a 2) (a 3) (a 4) (a 5)), (sw_in cT (a 2) 16 f2)] sz)) 0 0 (va_A [(sw_3 h0 p0 p1 p2 p3 p4 p5 p6 p7 p8 p9 (a 0) (a 1) (a 2) (a 3) (a 4) (a 5)), (sw_in cT (a 2) 16 f2)] sz) := by
  refine m_of (y := yX3_shadedFrom) (cc := cX3_shadedFrom) (nL := 4) (ret := (some .int)) (D := D) (cT := cT) (av := [.ref h0, .int x]) (wi := [(sw_3 h0 p0 p1 p2 p3 p4 p5 p6 p7 p8 p9 (a 0) (a 1) (a 2) (a 3) (a 4) (a 5)), (sw_in cT (a 2) 16 f2)]) (fun A => va_Qi (fun (r : Int32) (u : Unit) => (r = shdR f2 p4 p5 p6 x.toInt p0.toInt.toNat) ∧ (True)) (fun u t => RW D A ((fun _ : Unit => [(sw_3 h0 p0 p1 p2 p3 p4 p5 p6 p7 p8 p9 (a 0) (a 1) (a 2) (a 3) (a 4) (a 5)), (sw_in cT (a 2) 16 f2)]) u) t) A) (by decide) (Nat.le_of_ble_eq_true rfl) ?_
  intro p e s m below meth c A hx hb hml hown htg hK hN hr hlk hnm hsz hP hD hS hA ls hl
  have hown : s.vm.findClass RX3 = some m.cls := hown
  have hl : lv_has ls 4 [(0, .ref h0), (1, .int x)] := hl
  have t9_0 : (0 : Int32).toInt = 0 := by decide
  refine lv_iconst (v := 0) hx hb dX3_shadedFrom_0 (by decide) ?_
  refine lv_istore_n (lv' := [(2, .int 0), (0, .ref h0), (1, .int x)]) hx hb dX3_shadedFrom_1 rfl hl (by decide) rfl (fun ls hl => ?_)
  refine lv_iconst (v := 0) hx hb dX3_shadedFrom_2 (by decide) ?_
  refine lv_istore_n (lv' := [(3, .int 0), (2, .int 0), (0, .ref h0), (1, .int x)]) hx hb dX3_shadedFrom_3 rfl hl (by decide) rfl (fun ls hl => ?_)
  have hb0 : (0 : Int32) = shdR f2 p4 p5 p6 x.toInt 0 := rfl
  refine (fun (key : ∀ (n9_4 : Nat) (k9_4 : Nat) (x9_4_2 : Int32) (H : Heap) (locs : List Loc) (ls : Array Slot), (k9_4 : Int) ≤ p0.toInt → p0.toInt < (k9_4 : Int) + n9_4 → (x9_4_2 = shdR f2 p4 p5 p6 x.toInt k9_4) → PD D A [(sw_3 h0 p0 p1 p2 p3 p4 p5 p6 p7 p8 p9 (a 0) (a 1) (a 2) (a 3) (a 4) (a 5)), (sw_in cT (a 2) 16 f2)] H → va_S A s.heap H locs → lv_has ls 4 [(3, .int (nI k9_4)), (2, .int x9_4_2), (0, .ref h0), (1, .int x)] → W p l e _ s m _ below meth c H locs _ _ _ (F0 m 4 ls [])) => key (Int.toNat (p0.toInt - 0) + 1) 0 _ _ _ _ (by omega) (by omega) (by first | assumption | omega | decide | (simp only [ti_0, ti_1, ti_2, ti_3, ti_4, ti_5, ti_6, ti_7, ti_8, ti_9, ti_10, ti_11, ti_12, ti_m1]; omega)) ⟨hP, hD⟩ hS (lv_sub hl [0, 1, 2, 3] rfl)) ?_
  intro n9_4
  induction n9_4 with
  | zero => intro k9_4 x9_4_2 H locs ls hq1 hq2; exact absurd hq2 (by omega)
  | succ n9_4 ih_4 =>
    intro k9_4 x9_4_2 H locs ls hq1_4 hq2_4 h9_4_0 hPD hS hl
    obtain ⟨hP, hD⟩ := hPD
    have hk9_4 : (nI k9_4).toInt = (k9_4 : Int) := nI_toInt (by omega)
    refine lv_iload_n hx hb dX3_shadedFrom_4 rfl (lv_at hl 0 rfl) ?_
    refine lv_aload_n hx hb dX3_shadedFrom_5 rfl (lv_at hl 2 rfl) ?_
    refine va_get (D := D) (ci := 3) (v := .int p0) (C := RX3) (T := TX3) (N := 16) hx hb htg gRX3 hown hK hP 0 rfl rfl 0 (by decide) (htg _ wi_166) (fun _ h9 => h9) rfl dX3_shadedFrom_6 ?_
    refine lv_icmp_ge (tgt := 42) hx hb dX3_shadedFrom_9 (by decide) (fun c_1 => ?_) (fun c_1 => ?_)
    · have ic_1 : p0.toInt ≤ ((k9_4 : Nat) : Int) := ile c_1 (rfl) (nI_toInt (by omega))
      refine lv_iload_n hx hb dX3_shadedFrom_42 rfl (lv_at hl 1 rfl) ?_
      exact x_iret hx hb hr hlk hP hD hS [0, 1] (()) rfl (by decide) ⟨(by rw [show p0.toInt.toNat = k9_4 from by omega]; assumption), trivial⟩ (by decide) (by decide) dX3_shadedFrom_43
    · have ic_1 : ((k9_4 : Nat) : Int) < p0.toInt := inle c_1 (rfl) (nI_toInt (by omega))
      refine lv_aload_n hx hb dX3_shadedFrom_12 rfl (lv_at hl 2 rfl) ?_
      refine lv_iload_n hx hb dX3_shadedFrom_13 rfl (lv_at hl 3 rfl) ?_
      refine lv_iload_n hx hb dX3_shadedFrom_14 rfl (lv_at hl 0 rfl) ?_
      refine xk_i (wr := [(sw_in cT (a 2) 16 f2)]) (xr_V (n := 2) (As := [.int x, .int (nI k9_4)]) (rest := []) ⟨hx, hb, hml, hown, htg⟩ hK hN hP hD hS hA [0] rfl (by decide) (g_unshadedLightX l D cT _ (h0) (a) (p0) (p1) (p2) (p3) (p4) (p5) (p6) (p7) (p8) (p9) (x) ((nI k9_4)) (by first | assumption | decide | omega | (simp only [ti_0, ti_1, ti_2, ti_3, ti_4, ti_5, ti_6, ti_7, ti_8, ti_9, ti_10, ti_11, ti_12, ti_m1]; omega)) (by first | assumption | decide | omega | (simp only [ti_0, ti_1, ti_2, ti_3, ti_4, ti_5, ti_6, ti_7, ti_8, ti_9, ti_10, ti_11, ti_12, ti_m1]; omega))) wi_674 wi_676 wi_20 wi_123 wi_677 rfl rfl rfl ⟨rfl, by decide +kernel⟩ ⟨Nat.le_of_ble_eq_true rfl, Nat.le_of_ble_eq_true rfl⟩ rfl hl.1 rfl (Nat.le_of_ble_eq_true rfl) dX3_shadedFrom_15 ⟨Nat.le_of_ble_eq_true rfl, Nat.le_of_ble_eq_true rfl⟩) hP hD hS hA [0] [1] rfl rfl (by decide) (by decide) (fun r_3 u_2 H locs hwr_3 hP hD hS => ?_)
      obtain ⟨hP, hD⟩ : PD D A [(sw_in cT (a 2) 16 f2), (sw_3 h0 p0 p1 p2 p3 p4 p5 p6 p7 p8 p9 (a 0) (a 1) (a 2) (a 3) (a 4) (a 5))] _ := ⟨hP, hD⟩
      have qr_3_0 : r_3.toInt = unl p5 p6 x.toInt (nI k9_4).toInt := hwr_3.1
      rw [hk9_4] at qr_3_0
      refine lv_if_le (tgt := 36) hx hb dX3_shadedFrom_18 (by decide) (fun c_4 => ?_) (fun c_4 => ?_)
      · have ic_4 : r_3.toInt ≤ 0 := ile c_4 (rfl) (by decide)
        refine lv_iinc (v := (nI (k9_4 + 1))) (lv' := [(3, .int (nI (k9_4 + 1))), (2, .int x9_4_2), (0, .ref h0), (1, .int x)]) hx hb dX3_shadedFrom_36 hl (k := 0) rfl (by exact nI_1 (k9_4)) (by decide) rfl (fun ls hl => ?_)
        refine lv_goto (tgt := 4) hx hb dX3_shadedFrom_39 (by decide) ?_
        have hb1 : x9_4_2 = shdR f2 p4 p5 p6 x.toInt (k9_4 + 1) := by rw [shdR_s]; first | (rw [if_pos (by omega), ← h9_4_0]; rfl) | (rw [if_neg (by omega), ← h9_4_0])
        exact ih_4 (k9_4 + 1) _ _ _ _ (by omega) (by omega) (by first | assumption | omega | decide | (simp only [ti_0, ti_1, ti_2, ti_3, ti_4, ti_5, ti_6, ti_7, ti_8, ti_9, ti_10, ti_11, ti_12, ti_m1]; omega)) ⟨hP.sub [1, 0] rfl, hD.sub [1, 0] (by decide) rfl⟩ hS (lv_sub hl [0, 1, 2, 3] rfl)
      · have ic_4 : 0 < r_3.toInt := inle c_4 (rfl) (by decide)
        refine lv_aload_n hx hb dX3_shadedFrom_21 rfl (lv_at hl 2 rfl) ?_
        refine lv_iload_n hx hb dX3_shadedFrom_22 rfl (lv_at hl 3 rfl) ?_
        refine lv_iload_n hx hb dX3_shadedFrom_23 rfl (lv_at hl 0 rfl) ?_
        refine xk_i (wr := []) (xr_V (n := 2) (As := [.int x, .int (nI k9_4)]) (rest := []) ⟨hx, hb, hml, hown, htg⟩ hK hN hP hD hS hA [1, 0] rfl (by decide) (g_isShadedX l D cT _ (h0) (a) (p0) (p1) (p2) (p3) (p4) (p5) (p6) (p7) (p8) (p9) (x) ((nI k9_4)) (by first | assumption | decide | omega | (simp only [ti_0, ti_1, ti_2, ti_3, ti_4, ti_5, ti_6, ti_7, ti_8, ti_9, ti_10, ti_11, ti_12, ti_m1]; omega)) (by first | assumption | decide | omega | (simp only [ti_0, ti_1, ti_2, ti_3, ti_4, ti_5, ti_6, ti_7, ti_8, ti_9, ti_10, ti_11, ti_12, ti_m1]; omega)) (f2)) wi_682 wi_684 wi_21 wi_123 wi_685 rfl rfl rfl ⟨rfl, by decide +kernel⟩ ⟨Nat.le_of_ble_eq_true rfl, Nat.le_of_ble_eq_true rfl⟩ rfl hl.1 rfl (Nat.le_of_ble_eq_true rfl) dX3_shadedFrom_24 ⟨Nat.le_of_ble_eq_true rfl, Nat.le_of_ble_eq_true rfl⟩) hP hD hS hA [1, 0] [] rfl rfl (by decide) (by decide) (fun r_6 u_5 H locs hwr_6 hP hD hS => ?_)
        obtain ⟨hP, hD⟩ : PD D A [(sw_3 h0 p0 p1 p2 p3 p4 p5 p6 p7 p8 p9 (a 0) (a 1) (a 2) (a 3) (a 4) (a 5)), (sw_in cT (a 2) 16 f2)] _ := ⟨hP, hD⟩
        have qr_6_0 : r_6.toInt = shF f2 p4 x.toInt (nI k9_4).toInt := hwr_6.1
        rw [hk9_4] at qr_6_0
        refine lv_if_eq (tgt := 36) hx hb dX3_shadedFrom_27 (by decide) (fun c_7 => ?_) (fun c_7 => ?_)
        · have ic_7 : r_6.toInt = 0 := ieq c_7 (rfl) (by decide)
          refine lv_iinc (v := (nI (k9_4 + 1))) (lv' := [(3, .int (nI (k9_4 + 1))), (2, .int x9_4_2), (0, .ref h0), (1, .int x)]) hx hb dX3_shadedFrom_36 hl (k := 0) rfl (by exact nI_1 (k9_4)) (by decide) rfl (fun ls hl => ?_)
          refine lv_goto (tgt := 4) hx hb dX3_shadedFrom_39 (by decide) ?_
          have hb1 : x9_4_2 = shdR f2 p4 p5 p6 x.toInt (k9_4 + 1) := by rw [shdR_s]; first | (rw [if_pos (by omega), ← h9_4_0]; rfl) | (rw [if_neg (by omega), ← h9_4_0])
          exact ih_4 (k9_4 + 1) _ _ _ _ (by omega) (by omega) (by first | assumption | omega | decide | (simp only [ti_0, ti_1, ti_2, ti_3, ti_4, ti_5, ti_6, ti_7, ti_8, ti_9, ti_10, ti_11, ti_12, ti_m1]; omega)) ⟨hP.sub [0, 1] rfl, hD.sub [0, 1] (by decide) rfl⟩ hS (lv_sub hl [0, 1, 2, 3] rfl)
        · have ic_7 : ¬ r_6.toInt = 0 := ine c_7 (rfl) (by decide)
          refine lv_iload_n hx hb dX3_shadedFrom_30 rfl (lv_at hl 1 rfl) ?_
          refine lv_iconst (v := 1) hx hb dX3_shadedFrom_31 (by decide) ?_
          refine lv_iload_n hx hb dX3_shadedFrom_32 rfl (lv_at hl 0 rfl) ?_
          refine lv_ishl hx hb dX3_shadedFrom_33 ?_
          refine lv_topi (fun z_8 ez_8 => ?_)
          refine lv_ior hx hb dX3_shadedFrom_34 ?_
          refine lv_topi (fun z_9 ez_9 => ?_)
          refine lv_istore_n (lv' := [(2, .int z_9), (3, .int (nI k9_4)), (0, .ref h0), (1, .int x)]) hx hb dX3_shadedFrom_35 rfl hl (by decide) rfl (fun ls hl => ?_)
          refine lv_iinc (v := (nI (k9_4 + 1))) (lv' := [(3, .int (nI (k9_4 + 1))), (2, .int z_9), (0, .ref h0), (1, .int x)]) hx hb dX3_shadedFrom_36 hl (k := 1) rfl (by exact nI_1 (k9_4)) (by decide) rfl (fun ls hl => ?_)
          refine lv_goto (tgt := 4) hx hb dX3_shadedFrom_39 (by decide) ?_
          have hb1 : z_9 = shdR f2 p4 p5 p6 x.toInt (k9_4 + 1) := by rw [shdR_s]; first | (rw [if_pos (by omega), ← h9_4_0]; rw [ez_9, ez_8]) | (rw [if_neg (by omega), ← h9_4_0])
          exact ih_4 (k9_4 + 1) _ _ _ _ (by omega) (by omega) (by first | assumption | omega | decide | (simp only [ti_0, ti_1, ti_2, ti_3, ti_4, ti_5, ti_6, ti_7, ti_8, ti_9, ti_10, ti_11, ti_12, ti_m1]; omega)) ⟨hP.sub [0, 1] rfl, hD.sub [0, 1] (by decide) rfl⟩ hS (lv_sub hl [0, 1, 2, 3] rfl)
set_option maxHeartbeats 4000000 in
set_option maxRecDepth 100000 in
theorem g_k_shadedX (l : Launch) (D : va_G) (cT : Nat → ClassId) (sz : Nat) (h0 : Nat) (q : Nat → Nat) (n1 : Int32) (hn1 : 0 ≤ n1.toInt ∧ n1.toInt ≤ 900) (p0 : Int32) (p1 : Int32) (p2 : Int32) (p3 : Int32) (p4 : Int32) (p5 : Int32) (p6 : Int32) (p7 : Int32) (p8 : Int32) (p9 : Int32) (hs : 0 ≤ p0.toInt ∧ p0.toInt ≤ 16) (hat : 0 ≤ p3.toInt ∧ p3.toInt ≤ 15) (x : Int32) (f2 : Nat → Int32) : Met l yX8_shaded (wsc yX8_shaded cX8_shaded 2 (some .int)) { frames := 4, cells := 0, slots := 0, locals := 148 } (va_Pc [.ref h0, .int x] (PX D cT sz [(sw_8 h0 q n1), (sw_3 (q 2) p0 p1 p2 p3 p4 p5 p6 p7 p8 p9 (q 12) (q 13) (q 14) (q 15) (q 16) (q 17)), (sw_in cT (q 14) 16 f2)])) (va_Qi (fun (r : Int32) (u : Unit) => ((0 ≤ x.toInt ∧ x.toInt < p0.toInt) → r = shdR f2 p4 p5 p6 x.toInt p0.toInt.toNat) ∧ (¬ (0 ≤ x.toInt ∧ x.toInt < p0.toInt) → r.toInt = -2) ∧ (True)) (fun u t => RW D (va_A [(sw_8 h0 q n1), (sw_3 (q 2) p0 p1 p2 p3 p4 p5 p6 p7 p8 p9 (q 12) (q 13) (q 14) (q 15) (q 16) (q 17)), (sw_in cT (q 14) 16 f2)] sz) ((fun _ : Unit => [(sw_8 h0 q n1), (sw_3 (q 2) p0 p1 p2 p3 p4 p5 p6 p7 p8 p9 (q 12) (q 13) (q 14) (q 15) (q 16) (q 17)), (sw_in cT (q 14) 16 f2)]) u) t) (va_A [(sw_8 h0 q n1), (sw_3 (q 2) p0 p1 p2 p3 p4 p5 p6 p7 p8 p9 (q 12) (q 13) (q 14) (q 15) (q 16) (q 17)), (sw_in cT (q 14) 16 f2)] sz)) 0 0 (va_A [(sw_8 h0 q n1), (sw_3 (q 2) p0 p1 p2 p3 p4 p5 p6 p7 p8 p9 (q 12) (q 13) (q 14) (q 15) (q 16) (q 17)), (sw_in cT (q 14) 16 f2)] sz) := by
  refine m_of (y := yX8_shaded) (cc := cX8_shaded) (nL := 2) (ret := (some .int)) (D := D) (cT := cT) (av := [.ref h0, .int x]) (wi := [(sw_8 h0 q n1), (sw_3 (q 2) p0 p1 p2 p3 p4 p5 p6 p7 p8 p9 (q 12) (q 13) (q 14) (q 15) (q 16) (q 17)), (sw_in cT (q 14) 16 f2)]) (fun A => va_Qi (fun (r : Int32) (u : Unit) => ((0 ≤ x.toInt ∧ x.toInt < p0.toInt) → r = shdR f2 p4 p5 p6 x.toInt p0.toInt.toNat) ∧ (¬ (0 ≤ x.toInt ∧ x.toInt < p0.toInt) → r.toInt = -2) ∧ (True)) (fun u t => RW D A ((fun _ : Unit => [(sw_8 h0 q n1), (sw_3 (q 2) p0 p1 p2 p3 p4 p5 p6 p7 p8 p9 (q 12) (q 13) (q 14) (q 15) (q 16) (q 17)), (sw_in cT (q 14) 16 f2)]) u) t) A) (by decide) (Nat.le_of_ble_eq_true rfl) ?_
  intro p e s m below meth c A hx hb hml hown htg hK hN hr hlk hnm hsz hP hD hS hA ls hl
  have hown : s.vm.findClass RX8 = some m.cls := hown
  have hl : lv_has ls 2 [(0, .ref h0), (1, .int x)] := hl
  have t9_0 : (0 : Int32).toInt = 0 := by decide
  have t9_m2 : ((-2) : Int32).toInt = (-2) := by decide
  refine lv_aload_n hx hb dX8_shaded_0 rfl (lv_at hl 0 rfl) ?_
  refine va_get (D := D) (ci := 8) (v := .ref (q 2)) (C := RX8) (T := TX8) (N := 13) hx hb htg gRX8 hown hK hP 0 rfl rfl 3 (by decide) (htg _ wi_470) (fun _ h9 => h9) rfl dX8_shaded_1 ?_
  refine lv_iload_n hx hb dX8_shaded_4 rfl (lv_at hl 1 rfl) ?_
  refine xk_i (wr := [(sw_8 h0 q n1), (sw_in cT (q 14) 16 f2)]) (xr_VN (n := 1) (As := [.int x]) (rest := []) ⟨hx, hb, hml, hown, htg⟩ hK hN hP hD hS hA [1] rfl (by decide) (g_hasStrip l D cT _ ((q 2)) (fun k => [(q 12), (q 13), (q 14), (q 15), (q 16), (q 17)].getD k 0) (p0) (p1) (p2) (p3) (p4) (p5) (p6) (p7) (p8) (p9) (x)) ni_666 wi_668 wi_18 wi_123 wi_669 rfl rfl rfl ⟨rfl, by decide +kernel⟩ ⟨Nat.le_of_ble_eq_true rfl, Nat.le_of_ble_eq_true rfl⟩ rfl hl.1 rfl (Nat.le_of_ble_eq_true rfl) dX8_shaded_5 ⟨Nat.le_of_ble_eq_true rfl, Nat.le_of_ble_eq_true rfl⟩) hP hD hS hA [1] [0, 2] rfl rfl (by decide) (by decide) (fun r_2 u_1 H locs hwr_2 hP hD hS => ?_)
  obtain ⟨hP, hD⟩ : PD D A [(sw_8 h0 q n1), (sw_in cT (q 14) 16 f2), (sw_3 (q 2) p0 p1 p2 p3 p4 p5 p6 p7 p8 p9 (q 12) (q 13) (q 14) (q 15) (q 16) (q 17))] _ := ⟨hP, hD⟩
  have hwr_2 : r_2 = if 0 ≤ x.toInt ∧ x.toInt < p0.toInt then 1 else 0 := hwr_2
  refine lv_if_ne (tgt := 14) hx hb dX8_shaded_8 (by decide) (fun c_3 => ?_) (fun c_3 => ?_)
  · have ic_3 := if1 hwr_2 c_3
    refine lv_aload_n hx hb dX8_shaded_14 rfl (lv_at hl 0 rfl) ?_
    refine va_get (D := D) (ci := 8) (v := .ref (q 2)) (C := RX8) (T := TX8) (N := 13) hx hb htg gRX8 hown hK hP 0 rfl rfl 3 (by decide) (htg _ wi_470) (fun _ h9 => h9) rfl dX8_shaded_15 ?_
    refine lv_iload_n hx hb dX8_shaded_18 rfl (lv_at hl 1 rfl) ?_
    refine xk_i (wr := [(sw_8 h0 q n1)]) (xr_VN (n := 1) (As := [.int x]) (rest := []) ⟨hx, hb, hml, hown, htg⟩ hK hN hP hD hS hA [2, 1] rfl (by decide) (g_shadedFromX l D cT _ ((q 2)) (fun k => [(q 12), (q 13), (q 14), (q 15), (q 16), (q 17)].getD k 0) (p0) (p1) (p2) (p3) (p4) (p5) (p6) (p7) (p8) (p9) (by first | assumption | decide | omega | (simp only [ti_0, ti_1, ti_2, ti_3, ti_4, ti_5, ti_6, ti_7, ti_8, ti_9, ti_10, ti_11, ti_12, ti_m1]; omega)) (x) (by first | assumption | decide | omega | (simp only [ti_0, ti_1, ti_2, ti_3, ti_4, ti_5, ti_6, ti_7, ti_8, ti_9, ti_10, ti_11, ti_12, ti_m1]; omega)) (f2)) ni_717 wi_719 wi_25 wi_123 wi_720 rfl rfl rfl ⟨rfl, by decide +kernel⟩ ⟨Nat.le_of_ble_eq_true rfl, Nat.le_of_ble_eq_true rfl⟩ rfl hl.1 rfl (Nat.le_of_ble_eq_true rfl) dX8_shaded_19 ⟨Nat.le_of_ble_eq_true rfl, Nat.le_of_ble_eq_true rfl⟩) hP hD hS hA [2, 1] [0] rfl rfl (by decide) (by decide) (fun r_5 u_4 H locs hwr_5 hP hD hS => ?_)
    obtain ⟨hP, hD⟩ : PD D A [(sw_8 h0 q n1), (sw_3 (q 2) p0 p1 p2 p3 p4 p5 p6 p7 p8 p9 (q 12) (q 13) (q 14) (q 15) (q 16) (q 17)), (sw_in cT (q 14) 16 f2)] _ := ⟨hP, hD⟩
    have qr_5_0 : r_5 = shdR f2 p4 p5 p6 x.toInt p0.toInt.toNat := hwr_5.1
    exact x_iret hx hb hr hlk hP hD hS [0, 1, 2] (()) rfl (by decide) ⟨(fun _ => by assumption), (fun h9 => by exfalso; omega), trivial⟩ (by decide) (by decide) dX8_shaded_22
  · have ic_3 := if0 hwr_2 c_3
    refine lv_bipush (v := (-2)) hx hb dX8_shaded_11 (by decide) ?_
    exact x_iret hx hb hr hlk hP hD hS [0, 2, 1] (()) rfl (by decide) ⟨(fun h9 => by exfalso; omega), (fun _ => by decide), trivial⟩ (by decide) (by decide) dX8_shaded_13
