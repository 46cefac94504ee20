set_option maxHeartbeats 4000000 in
set_option maxRecDepth 100000 in
theorem g_endOfR (l : Launch) (D : va_G) (cT : Nat → ClassId) (sz : Nat) (h0 : Nat) (o : Nat) (tb : Nat) (t1 : Int32) (t2 : Int32) (t4 : Int32) (t5 : Int32) (t6 : Int32) (t7 : Int32) (t8 : Int32) (ht4 : 0 ≤ t4.toInt ∧ t4.toInt ≤ 900) (tf : Nat → Int32) (x : Int32) (y : Int32) (hy4 : 0 ≤ y.toInt ∧ y.toInt ≤ t4.toInt) (hx3 : 1 ≤ x.toInt ∧ x.toInt ≤ 3) (tx : Nat → Int) (hT : TXc tx t4.toInt tf) : Met l yX6_endOf (wsc yX6_endOf cX6_endOf 4 (some .int)) { frames := 3, cells := 0, slots := 0, locals := 122 } (va_Pc [.ref h0, .int x, .int y] (PX D cT sz [(sw_6 h0 o t1 t2 tb t4 t5 t6 t7 t8), (sw_by cT tb 900 tf)])) (va_Qi (fun (r : Int32) (u : Unit) => (0 ≤ r.toInt ∧ r.toInt ≤ 900) ∧ (y.toInt ≤ r.toInt ∧ r.toInt ≤ t4.toInt) ∧ (r.toInt = runB tx t4.toInt x.toInt 1000 y.toInt) ∧ (∀ j, y.toInt ≤ j → j < r.toInt → kdB tx t4.toInt j = x.toInt) ∧ (True)) (fun u t => RW D (va_A [(sw_6 h0 o t1 t2 tb t4 t5 t6 t7 t8), (sw_by cT tb 900 tf)] sz) ((fun _ : Unit => [(sw_6 h0 o t1 t2 tb t4 t5 t6 t7 t8), (sw_by cT tb 900 tf)]) u) t) (va_A [(sw_6 h0 o t1 t2 tb t4 t5 t6 t7 t8), (sw_by cT tb 900 tf)] sz)) 0 0 (va_A [(sw_6 h0 o t1 t2 tb t4 t5 t6 t7 t8), (sw_by cT tb 900 tf)] sz) := by
  refine m_of (y := yX6_endOf) (cc := cX6_endOf) (nL := 4) (ret := (some .int)) (D := D) (cT := cT) (av := [.ref h0, .int x, .int y]) (wi := [(sw_6 h0 o t1 t2 tb t4 t5 t6 t7 t8), (sw_by cT tb 900 tf)]) (fun A => va_Qi (fun (r : Int32) (u : Unit) => (0 ≤ r.toInt ∧ r.toInt ≤ 900) ∧ (y.toInt ≤ r.toInt ∧ r.toInt ≤ t4.toInt) ∧ (r.toInt = runB tx t4.toInt x.toInt 1000 y.toInt) ∧ (∀ j, y.toInt ≤ j → j < r.toInt → kdB tx t4.toInt j = x.toInt) ∧ (True)) (fun u t => RW D A ((fun _ : Unit => [(sw_6 h0 o t1 t2 tb t4 t5 t6 t7 t8), (sw_by cT tb 900 tf)]) u) t) A) (by decide) (Nat.le_of_ble_eq_true rfl) ?_
  intro p e s m below meth c A hx hb hml hown htg hK hN hr hlk hnm hsz hP hD hS hA ls hl
  have hown : s.vm.findClass RX6 = some m.cls := hown
  have hl : lv_has ls 4 [(0, .ref h0), (1, .int x), (2, .int y)] := hl
  refine lv_iload_n hx hb dX6_endOf_0 rfl (lv_at hl 2 rfl) ?_
  refine lv_istore_n (lv' := [(3, .int y), (0, .ref h0), (1, .int x), (2, .int y)]) hx hb dX6_endOf_1 rfl hl (by decide) rfl (fun ls hl => ?_)
  have hin : ∀ j, y.toInt ≤ j → j < y.toInt → kdB tx t4.toInt j = x.toInt := fun j a b => absurd a (by omega)
  refine (fun (key : ∀ (n9_2 : Nat) (k9_2 : Int32)  (H : Heap) (locs : List Loc) (ls : Array Slot), (y.toInt ≤ k9_2.toInt ∧ k9_2.toInt ≤ t4.toInt) → t4.toInt < k9_2.toInt + n9_2 → (∀ j, y.toInt ≤ j → j < k9_2.toInt → kdB tx t4.toInt j = x.toInt) → PD D A [(sw_6 h0 o t1 t2 tb t4 t5 t6 t7 t8), (sw_by cT tb 900 tf)] H → va_S A s.heap H locs → lv_has ls 4 [(3, .int k9_2), (0, .ref h0), (1, .int x), (2, .int y)] → W p l e _ s m _ below meth c H locs _ _ _ (F0 m 2 ls [])) => key (Int.toNat (t4.toInt - y.toInt) + 1) (y)  _ _ _ (by omega) (by omega) (by first | assumption | omega | decide | (simp only [ti_0, ti_1, ti_2, ti_3, ti_4, ti_5, ti_6, ti_7, ti_8, ti_9, ti_10, ti_11, ti_12, ti_m1]; omega)) ⟨hP, hD⟩ hS (lv_sub hl [0, 1, 2, 3] rfl)) ?_
  intro n9_2
  induction n9_2 with
  | zero => intro k9_2  H locs ls hq1 hq2; exact absurd hq2 (by omega)
  | succ n9_2 ih_2 =>
    intro k9_2  H locs ls hq1_2 hq2_2 h9_2_0 hPD hS hl
    obtain ⟨hP, hD⟩ := hPD
    refine lv_iload_n hx hb dX6_endOf_2 rfl (lv_at hl 0 rfl) ?_
    refine lv_aload_n hx hb dX6_endOf_3 rfl (lv_at hl 1 rfl) ?_
    refine va_get (D := D) (ci := 6) (v := .int t4) (C := RX6) (T := TX6) (N := 9) hx hb htg gRX6 hown hK hP 0 rfl rfl 4 (by decide) (htg _ wi_259) (fun _ h9 => h9) rfl dX6_endOf_4 ?_
    refine lv_icmp_ge (tgt := 25) hx hb dX6_endOf_7 (by decide) (fun c_1 => ?_) (fun c_1 => ?_)
    · have ic_1 : t4.toInt ≤ k9_2.toInt := ile c_1 (rfl) (rfl)
      refine lv_iload_n hx hb dX6_endOf_25 rfl (lv_at hl 0 rfl) ?_
      exact x_iret hx hb hr hlk hP hD hS [0, 1] (()) rfl (by decide) ⟨(by first | with_reducible rfl | ((try dsimp only); first | assumption | decide | omega | (simp only [ti_0, ti_1, ti_2, ti_3, ti_4, ti_5, ti_6, ti_7, ti_8, ti_9, ti_10, ti_11, ti_12, ti_m1]; omega))), (by first | with_reducible rfl | ((try dsimp only); first | assumption | decide | omega | (simp only [ti_0, ti_1, ti_2, ti_3, ti_4, ti_5, ti_6, ti_7, ti_8, ti_9, ti_10, ti_11, ti_12, ti_m1]; omega))), (by refine (runB_is 1000 _ _ (by omega) h9_2_0 (by first | omega | (unfold kdB; rw [if_neg (by omega)]; omega)) (by omega)).symm), (h9_2_0), trivial⟩ (by decide) (by decide) dX6_endOf_26
    · have ic_1 : k9_2.toInt < t4.toInt := inle c_1 (rfl) (rfl)
      refine lv_aload_n hx hb dX6_endOf_10 rfl (lv_at hl 1 rfl) ?_
      refine lv_iload_n hx hb dX6_endOf_11 rfl (lv_at hl 0 rfl) ?_
      refine xk_i (wr := []) (xr_V (n := 1) (As := [.int k9_2]) (rest := []) ⟨hx, hb, hml, hown, htg⟩ hK hN hP hD hS hA [0, 1] rfl (by decide) (g_kindAtR l D cT _ (h0) (o) (tb) (t1) (t2) (t4) (t5) (t6) (t7) (t8) (by first | assumption | decide | omega | (simp only [ti_0, ti_1, ti_2, ti_3, ti_4, ti_5, ti_6, ti_7, ti_8, ti_9, ti_10, ti_11, ti_12, ti_m1]; omega)) (tf) (k9_2) (tx) (by first | assumption | decide | omega | (simp only [ti_0, ti_1, ti_2, ti_3, ti_4, ti_5, ti_6, ti_7, ti_8, ti_9, ti_10, ti_11, ti_12, ti_m1]; omega))) wi_541 wi_543 wi_5 wi_122 wi_544 rfl rfl rfl ⟨rfl, by decide +kernel⟩ ⟨Nat.le_of_ble_eq_true rfl, Nat.le_of_ble_eq_true rfl⟩ rfl hl.1 rfl (Nat.le_of_ble_eq_true rfl) dX6_endOf_12 ⟨Nat.le_of_ble_eq_true rfl, Nat.le_of_ble_eq_true rfl⟩) hP hD hS hA [0, 1] [] rfl rfl (by decide) (by decide) (fun r_3 u_2 H locs hwr_3 hP hD hS => ?_)
      obtain ⟨hP, hD⟩ : PD D A [(sw_6 h0 o t1 t2 tb t4 t5 t6 t7 t8), (sw_by cT tb 900 tf)] _ := ⟨hP, hD⟩
      have qr_3_0 : 0 ≤ r_3.toInt ∧ r_3.toInt ≤ 5 := hwr_3.1
      have qr_3_1 : r_3.toInt = 0 ∨ (0 ≤ k9_2.toInt ∧ k9_2.toInt < t4.toInt) := hwr_3.2.1
      have qr_3_2 : r_3.toInt = kdB tx t4.toInt k9_2.toInt := hwr_3.2.2.1
      refine lv_iload_n hx hb dX6_endOf_15 rfl (lv_at hl 2 rfl) ?_
      refine lv_icmp_ne (tgt := 25) hx hb dX6_endOf_16 (by decide) (fun c_4 => ?_) (fun c_4 => ?_)
      · have ic_4 : ¬ r_3.toInt = x.toInt := ine c_4 (rfl) (rfl)
        refine lv_iload_n hx hb dX6_endOf_25 rfl (lv_at hl 0 rfl) ?_
        exact x_iret hx hb hr hlk hP hD hS [0, 1] (()) rfl (by decide) ⟨(by first | with_reducible rfl | ((try dsimp only); first | assumption | decide | omega | (simp only [ti_0, ti_1, ti_2, ti_3, ti_4, ti_5, ti_6, ti_7, ti_8, ti_9, ti_10, ti_11, ti_12, ti_m1]; omega))), (by first | with_reducible rfl | ((try dsimp only); first | assumption | decide | omega | (simp only [ti_0, ti_1, ti_2, ti_3, ti_4, ti_5, ti_6, ti_7, ti_8, ti_9, ti_10, ti_11, ti_12, ti_m1]; omega))), (by refine (runB_is 1000 _ _ (by omega) h9_2_0 (by first | omega | (unfold kdB; rw [if_neg (by omega)]; omega)) (by omega)).symm), (h9_2_0), trivial⟩ (by decide) (by decide) dX6_endOf_26
      · have ic_4 : r_3.toInt = x.toInt := ieq c_4 (rfl) (rfl)
        obtain ⟨z_5, ez_5⟩ : ∃ w : Int32, w = k9_2 + 1 := ⟨_, rfl⟩
        have iz_5 : z_5.toInt = k9_2.toInt + 1 := toInt_addI ez_5 (rfl) (by decide) (by omega)
        refine lv_iinc (v := z_5) (lv' := [(3, .int z_5), (0, .ref h0), (1, .int x), (2, .int y)]) hx hb dX6_endOf_19 hl (k := 0) rfl (by rw [ez_5]; rfl) (by decide) rfl (fun ls hl => ?_)
        refine lv_goto (tgt := 2) hx hb dX6_endOf_22 (by decide) ?_
        have hin : ∀ j, y.toInt ≤ j → j < z_5.toInt → kdB tx t4.toInt j = x.toInt := fun j a b => by rcases (show j < k9_2.toInt ∨ j = k9_2.toInt from by omega) with h | h; exact h9_2_0 j a h; rw [h]; omega
        exact ih_2 (z_5)  _ _ _ (by omega) (by omega) (by first | assumption | omega | decide | (simp only [ti_0, ti_1, ti_2, ti_3, ti_4, ti_5, ti_6, ti_7, ti_8, ti_9, ti_10, ti_11, ti_12, ti_m1]; omega)) ⟨hP.sub [0, 1] rfl, hD.sub [0, 1] (by decide) rfl⟩ hS (lv_sub hl [0, 1, 2, 3] rfl)
set_option maxHeartbeats 4000000 in
set_option maxRecDepth 100000 in
theorem g_readValueR (l : Launch) (D : va_G) (cT : Nat → ClassId) (sz : Nat) (h0 : Nat) (o : Nat) (tb : Nat) (t1 : Int32) (t2 : Int32) (t4 : Int32) (t5 : Int32) (t6 : Int32) (t7 : Int32) (t8 : Int32) (ht4 : 0 ≤ t4.toInt ∧ t4.toInt ≤ 900) (ht6 : 0 ≤ t6.toInt ∧ t6.toInt ≤ t4.toInt) (ht5 : 0 ≤ t5.toInt ∧ t5.toInt ≤ t6.toInt) (tf : Nat → Int32) (tx : Nat → Int) (hT : TXc tx t4.toInt tf) (hdg : ∀ j, t5.toInt ≤ j → j < t6.toInt → kdB tx t4.toInt j = 3) : Met l yX6_readValue (wsc yX6_readValue cX6_readValue 3 none) { frames := 2, cells := 0, slots := 0, locals := 100 } (va_Pc [.ref h0] (PX D cT sz [(sw_6 h0 o t1 t2 tb t4 t5 t6 t7 t8), (sw_by cT tb 900 tf)])) (va_Qv (fun (u : Int32) => (u.toInt = valB tx t5.toInt (min (t6.toInt - t5.toInt) 3).toNat) ∧ (True)) (fun u t => RW D (va_A [(sw_6 h0 o t1 t2 tb t4 t5 t6 t7 t8), (sw_by cT tb 900 tf)] sz) ((fun u : Int32 => [(sw_6 h0 o t1 t2 tb t4 t5 t6 t7 u), (sw_by cT tb 900 tf)]) u) t) (va_A [(sw_6 h0 o t1 t2 tb t4 t5 t6 t7 t8), (sw_by cT tb 900 tf)] sz)) 0 0 (va_A [(sw_6 h0 o t1 t2 tb t4 t5 t6 t7 t8), (sw_by cT tb 900 tf)] sz) := by
  refine m_of (y := yX6_readValue) (cc := cX6_readValue) (nL := 3) (ret := none) (D := D) (cT := cT) (av := [.ref h0]) (wi := [(sw_6 h0 o t1 t2 tb t4 t5 t6 t7 t8), (sw_by cT tb 900 tf)]) (fun A => va_Qv (fun (u : Int32) => (u.toInt = valB tx t5.toInt (min (t6.toInt - t5.toInt) 3).toNat) ∧ (True)) (fun u t => RW D A ((fun u : Int32 => [(sw_6 h0 o t1 t2 tb t4 t5 t6 t7 u), (sw_by cT tb 900 tf)]) u) t) A) (by decide) (Nat.le_of_ble_eq_true rfl) ?_
  intro p e s m below meth c A hx hb hml hown htg hK hN hr hlk hnm hsz hP hD hS hA ls hl
  have hown : s.vm.findClass RX6 = some m.cls := hown
  have hl : lv_has ls 3 [(0, .ref h0)] := hl
  refine lv_aload_n hx hb dX6_readValue_0 rfl (lv_at hl 0 rfl) ?_
  refine lv_iconst (v := 0) hx hb dX6_readValue_1 (by decide) ?_
  refine va_put (D := D) (ci := 6) (v := .int 0) (ty := .int) (C := RX6) (T := TX6) (N := 9) hx hb htg gRX6 tyX6 tyX6_ok nmX6 hown hK hP hD hS 0 rfl rfl 8 (by decide) (htg _ wi_263) (fun _ h9 => h9) rfl (by decide +kernel) rfl rfl (Nat.le_of_ble_eq_true rfl) dX6_readValue_2 (fun H locs hP hD hS => ?_)
  obtain ⟨hP, hD⟩ : PD D A [(sw_6 h0 o t1 t2 tb t4 t5 t6 t7 0), (sw_by cT tb 900 tf)] _ := ⟨hP, hD⟩
  refine lv_aload_n hx hb dX6_readValue_5 rfl (lv_at hl 0 rfl) ?_
  refine va_get (D := D) (ci := 6) (v := .int t6) (C := RX6) (T := TX6) (N := 9) hx hb htg gRX6 hown hK hP 0 rfl rfl 6 (by decide) (htg _ wi_261) (fun _ h9 => h9) rfl dX6_readValue_6 ?_
  refine lv_aload_n hx hb dX6_readValue_9 rfl (lv_at hl 0 rfl) ?_
  refine va_get (D := D) (ci := 6) (v := .int t5) (C := RX6) (T := TX6) (N := 9) hx hb htg gRX6 hown hK hP 0 rfl rfl 5 (by decide) (htg _ wi_260) (fun _ h9 => h9) rfl dX6_readValue_10 ?_
  refine lv_iconst (v := 3) hx hb dX6_readValue_13 (by decide) ?_
  refine lv_iadd hx hb dX6_readValue_14 ?_
  refine lv_topi (fun z_1 ez_1 => ?_)
  have iz_1 : z_1.toInt = t5.toInt + 3 := toInt_addI ez_1 (rfl) (by decide) (by omega)
  refine va_mmin hx hb (by rw [hml]; exact hl.1.symm) hown (htg _ wi_523) (htg _ wi_524) (htg _ wi_132) (htg _ wi_525) (Nat.le_of_ble_eq_true rfl) (Nat.le_of_ble_eq_true rfl) (Nat.le_of_ble_eq_true rfl) (Nat.le_of_ble_eq_true rfl) dX6_readValue_15 ?_
  refine lv_topi (fun z_2 ez_2 => ?_)
  have iz_2 := minI (a := t6.toInt) (b := z_1.toInt) ez_2 (rfl) (rfl)
  refine lv_istore_n (lv' := [(1, .int z_2), (0, .ref h0)]) hx hb dX6_readValue_18 rfl hl (by decide) rfl (fun ls hl => ?_)
  refine lv_aload_n hx hb dX6_readValue_19 rfl (lv_at hl 1 rfl) ?_
  refine va_get (D := D) (ci := 6) (v := .int t5) (C := RX6) (T := TX6) (N := 9) hx hb htg gRX6 hown hK hP 0 rfl rfl 5 (by decide) (htg _ wi_260) (fun _ h9 => h9) rfl dX6_readValue_20 ?_
  refine lv_istore_n (lv' := [(2, .int t5), (1, .int z_2), (0, .ref h0)]) hx hb dX6_readValue_23 rfl hl (by decide) rfl (fun ls hl => ?_)
  have hv0 : (0 : Int32).toInt = valB tx t5.toInt (t5.toInt - t5.toInt).toNat := by rw [show (t5.toInt - t5.toInt).toNat = 0 from by omega]; exact (show (0 : Int32).toInt = 0 from by decide)
  have hv1 : (t5.toInt - t5.toInt = 0 ∧ (0 : Int32).toInt = 0) ∨ (t5.toInt - t5.toInt = 1 ∧ 0 ≤ (0 : Int32).toInt ∧ (0 : Int32).toInt ≤ 9) ∨ (t5.toInt - t5.toInt = 2 ∧ 0 ≤ (0 : Int32).toInt ∧ (0 : Int32).toInt ≤ 99) ∨ (t5.toInt - t5.toInt = 3 ∧ 0 ≤ (0 : Int32).toInt ∧ (0 : Int32).toInt ≤ 999) := Or.inl ⟨by omega, by decide⟩
  refine (fun (key : ∀ (n9_24 : Nat) (k9_24 : Int32) (v9_24_0 : Int32) (H : Heap) (locs : List Loc) (ls : Array Slot), (t5.toInt ≤ k9_24.toInt ∧ k9_24.toInt ≤ t5.toInt + 3) → t5.toInt + 3 < k9_24.toInt + n9_24 → (k9_24.toInt ≤ z_2.toInt) → v9_24_0.toInt = valB tx t5.toInt (k9_24.toInt - t5.toInt).toNat → ((k9_24.toInt - t5.toInt = 0 ∧ v9_24_0.toInt = 0) ∨ (k9_24.toInt - t5.toInt = 1 ∧ 0 ≤ v9_24_0.toInt ∧ v9_24_0.toInt ≤ 9) ∨ (k9_24.toInt - t5.toInt = 2 ∧ 0 ≤ v9_24_0.toInt ∧ v9_24_0.toInt ≤ 99) ∨ (k9_24.toInt - t5.toInt = 3 ∧ 0 ≤ v9_24_0.toInt ∧ v9_24_0.toInt ≤ 999)) → (0 ≤ v9_24_0.toInt ∧ v9_24_0.toInt ≤ 999) → PD D A [(sw_6 h0 o t1 t2 tb t4 t5 t6 t7 v9_24_0), (sw_by cT tb 900 tf)] H → va_S A s.heap H locs → lv_has ls 3 [(2, .int k9_24), (1, .int z_2), (0, .ref h0)] → W p l e _ s m _ below meth c H locs _ _ _ (F0 m 24 ls [])) => key (Int.toNat (t5.toInt + 3 - t5.toInt) + 1) (t5) _ _ _ _ (by omega) (by omega) (by first | assumption | omega | decide | (simp only [ti_0, ti_1, ti_2, ti_3, ti_4, ti_5, ti_6, ti_7, ti_8, ti_9, ti_10, ti_11, ti_12, ti_m1]; omega)) (by first | assumption | omega | decide | (simp only [ti_0, ti_1, ti_2, ti_3, ti_4, ti_5, ti_6, ti_7, ti_8, ti_9, ti_10, ti_11, ti_12, ti_m1]; omega)) (by first | assumption | omega | decide | (simp only [ti_0, ti_1, ti_2, ti_3, ti_4, ti_5, ti_6, ti_7, ti_8, ti_9, ti_10, ti_11, ti_12, ti_m1]; omega)) (by first | assumption | omega | decide | (simp only [ti_0, ti_1, ti_2, ti_3, ti_4, ti_5, ti_6, ti_7, ti_8, ti_9, ti_10, ti_11, ti_12, ti_m1]; omega)) ⟨hP, hD⟩ hS (lv_sub hl [0, 1, 2] rfl)) ?_
  intro n9_24
  induction n9_24 with
  | zero => intro k9_24 v9_24_0 H locs ls hq1 hq2; exact absurd hq2 (by omega)
  | succ n9_24 ih_24 =>
    intro k9_24 v9_24_0 H locs ls hq1_24 hq2_24 h9_24_0 h9_24_1 h9_24_2 h9_24_3 hPD hS hl
    obtain ⟨hP, hD⟩ := hPD
    refine lv_iload_n hx hb dX6_readValue_24 rfl (lv_at hl 0 rfl) ?_
    refine lv_iload_n hx hb dX6_readValue_25 rfl (lv_at hl 1 rfl) ?_
    refine lv_icmp_ge (tgt := 56) hx hb dX6_readValue_26 (by decide) (fun c_3 => ?_) (fun c_3 => ?_)
    · have ic_3 : z_2.toInt ≤ k9_24.toInt := ile c_3 (rfl) (rfl)
      exact x_vret hx hb hr hlk hP hD hS [0, 1] (v9_24_0) rfl (by decide) ⟨(by (try dsimp only); rw [h9_24_1]; congr 1; omega), trivial⟩ (by decide) (by decide) dX6_readValue_56
    · have ic_3 : k9_24.toInt < z_2.toInt := inle c_3 (rfl) (rfl)
      refine lv_aload_n hx hb dX6_readValue_29 rfl (lv_at hl 2 rfl) ?_
      refine lv_aload_n hx hb dX6_readValue_30 rfl (lv_at hl 2 rfl) ?_
      refine va_get (D := D) (ci := 6) (v := .int v9_24_0) (C := RX6) (T := TX6) (N := 9) hx hb htg gRX6 hown hK hP 0 rfl rfl 8 (by decide) (htg _ wi_263) (fun _ h9 => h9) rfl dX6_readValue_31 ?_
      refine lv_bipush (v := 10) hx hb dX6_readValue_34 (by decide) ?_
      refine lv_imul hx hb dX6_readValue_36 ?_
      refine lv_topi (fun z_4 ez_4 => ?_)
      have iz_4 : z_4.toInt = v9_24_0.toInt * 10 := toInt_mulI ez_4 (rfl) (by decide) (by omega)
      refine lv_aload_n hx hb dX6_readValue_37 rfl (lv_at hl 2 rfl) ?_
      refine va_get (D := D) (ci := 6) (v := .ref tb) (C := RX6) (T := TX6) (N := 9) hx hb htg gRX6 hown hK hP 0 rfl rfl 3 (by decide) (htg _ wi_258) (fun _ h9 => h9) rfl dX6_readValue_38 ?_
      refine lv_iload_n hx hb dX6_readValue_41 rfl (lv_at hl 0 rfl) ?_
      refine va_bald hx hb hK hP 1 2 rfl rfl (vp_in_iff.mpr (by omega)) dX6_readValue_42 ?_
      refine lv_topi (fun z_5 ez_5 => ?_)
      have hdg2 := hdg k9_24.toInt (by omega) (by omega)
      have hdt : cB z_5.toInt = tx k9_24.toInt.toNat := TXc_at hT ez_5 (a := k9_24.toInt) rfl (by omega)
      have hdd : 48 ≤ tx k9_24.toInt.toNat ∧ tx k9_24.toInt.toNat ≤ 57 := by unfold kdB at hdg2; rw [if_pos (by omega)] at hdg2; exact clsB_3 hdg2
      have hdc : z_5.toInt = tx k9_24.toInt.toNat := cB_is hdt (by omega)
      have iz_5 : 48 ≤ z_5.toInt ∧ z_5.toInt ≤ 57 := by omega
      refine lv_iadd hx hb dX6_readValue_43 ?_
      refine lv_topi (fun z_6 ez_6 => ?_)
      have iz_6 : z_6.toInt = z_4.toInt + z_5.toInt := toInt_addI ez_6 (rfl) (rfl) (by omega)
      refine lv_bipush (v := 48) hx hb dX6_readValue_44 (by decide) ?_
      refine lv_isub hx hb dX6_readValue_46 ?_
      refine lv_topi (fun z_7 ez_7 => ?_)
      have iz_7 : z_7.toInt = z_6.toInt - 48 := toInt_subI ez_7 (rfl) (by decide) (by omega)
      refine va_put (D := D) (ci := 6) (v := .int z_7) (ty := .int) (C := RX6) (T := TX6) (N := 9) hx hb htg gRX6 tyX6 tyX6_ok nmX6 hown hK hP hD hS 0 rfl rfl 8 (by decide) (htg _ wi_263) (fun _ h9 => h9) rfl (by decide +kernel) rfl rfl (Nat.le_of_ble_eq_true rfl) dX6_readValue_47 (fun H locs hP hD hS => ?_)
      obtain ⟨hP, hD⟩ : PD D A [(sw_6 h0 o t1 t2 tb t4 t5 t6 t7 z_7), (sw_by cT tb 900 tf)] _ := ⟨hP, hD⟩
      obtain ⟨z_8, ez_8⟩ : ∃ w : Int32, w = k9_24 + 1 := ⟨_, rfl⟩
      have iz_8 : z_8.toInt = k9_24.toInt + 1 := toInt_addI ez_8 (rfl) (by decide) (by omega)
      refine lv_iinc (v := z_8) (lv' := [(2, .int z_8), (1, .int z_2), (0, .ref h0)]) hx hb dX6_readValue_50 hl (k := 0) rfl (by rw [ez_8]; rfl) (by decide) rfl (fun ls hl => ?_)
      refine lv_goto (tgt := 24) hx hb dX6_readValue_53 (by decide) ?_
      have hv0 : z_7.toInt = valB tx t5.toInt (z_8.toInt - t5.toInt).toNat := by rw [show (z_8.toInt - t5.toInt).toNat = (k9_24.toInt - t5.toInt).toNat + 1 from by omega]; show _ = 10 * valB tx t5.toInt (k9_24.toInt - t5.toInt).toNat + tx (t5.toInt + (((k9_24.toInt - t5.toInt).toNat : Nat) : Int)).toNat - 48; rw [← h9_24_1, show t5.toInt + (((k9_24.toInt - t5.toInt).toNat : Nat) : Int) = k9_24.toInt from by omega, ← hdc]; omega
      have hv1 : (z_8.toInt - t5.toInt = 0 ∧ z_7.toInt = 0) ∨ (z_8.toInt - t5.toInt = 1 ∧ 0 ≤ z_7.toInt ∧ z_7.toInt ≤ 9) ∨ (z_8.toInt - t5.toInt = 2 ∧ 0 ≤ z_7.toInt ∧ z_7.toInt ≤ 99) ∨ (z_8.toInt - t5.toInt = 3 ∧ 0 ≤ z_7.toInt ∧ z_7.toInt ≤ 999) := by omega
      exact ih_24 (z_8) _ _ _ _ (by omega) (by omega) (by first | assumption | omega | decide | (simp only [ti_0, ti_1, ti_2, ti_3, ti_4, ti_5, ti_6, ti_7, ti_8, ti_9, ti_10, ti_11, ti_12, ti_m1]; omega)) (by first | assumption | omega | decide | (simp only [ti_0, ti_1, ti_2, ti_3, ti_4, ti_5, ti_6, ti_7, ti_8, ti_9, ti_10, ti_11, ti_12, ti_m1]; omega)) (by first | assumption | omega | decide | (simp only [ti_0, ti_1, ti_2, ti_3, ti_4, ti_5, ti_6, ti_7, ti_8, ti_9, ti_10, ti_11, ti_12, ti_m1]; omega)) (by first | assumption | omega | decide | (simp only [ti_0, ti_1, ti_2, ti_3, ti_4, ti_5, ti_6, ti_7, ti_8, ti_9, ti_10, ti_11, ti_12, ti_m1]; omega)) ⟨hP.sub [0, 1] rfl, hD.sub [0, 1] (by decide) rfl⟩ hS (lv_sub hl [0, 1, 2] rfl)
