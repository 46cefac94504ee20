set_option maxHeartbeats 4000000 in
set_option maxRecDepth 100000 in
theorem g_isWordR (l : Launch) (D : va_G) (cT : Nat → ClassId) (sz : Nat) (si : Nat) (hisi : si < 14) (hisi13 : si < 13) (hl100 : strL.getD si 0 ≤ 100) (h0 : Nat) (o : Nat) (tb : Nat) (t1 : Int32) (t2 : Int32) (t4 : Int32) (t5 : Int32) (t6 : Int32) (t7 : Int32) (t8 : Int32) (ht4 : 0 ≤ t4.toInt ∧ t4.toInt ≤ 900) (ht6 : 0 ≤ t6.toInt ∧ t6.toInt ≤ t4.toInt) (ht5 : 0 ≤ t5.toInt ∧ t5.toInt ≤ t6.toInt) (tf : Nat → Int32) (tx : Nat → Int) (hT : TXc tx t4.toInt tf) (sg : Nat → Int) (rs0 : t1.toInt = (sg) 4) (rs1 : WQ t2.toInt (sg)) (rs2 : t5.toInt = (sg) 0) (rs3 : t6.toInt = (sg) 1) (rs4 : TK tx t7.toInt (sg)) (rs5 : NV t8.toInt (sg)) : Met l yX6_isWord (wsc yX6_isWord cX6_isWord 3 (some .boolean)) { frames := 6, cells := 0, slots := 0, locals := 185 } (va_Pc [.ref h0, .ref (cT (10 + si))] (PX D cT sz [(sw_6 h0 o t1 t2 tb t4 t5 t6 t7 t8), (sw_by cT tb 900 tf)])) (va_Qi (fun (r : Int32) (u : Unit) => (r = 0 ∨ r = 1) ∧ (Hd (¬ r.toInt = 0) (sg 2 = (si : Int))) ∧ (Hd (r.toInt = 0) (¬ sg 2 = (si : Int))) ∧ (True)) (fun u t => RW D (va_A [(sw_6 h0 o t1 t2 tb t4 t5 t6 t7 t8), (sw_by cT tb 900 tf)] sz) ((fun _ : Unit => [(sw_6 h0 o t1 t2 tb t4 t5 t6 t7 t8), (sw_by cT tb 900 tf)]) u) t) (va_A [(sw_6 h0 o t1 t2 tb t4 t5 t6 t7 t8), (sw_by cT tb 900 tf)] sz)) 0 0 (va_A [(sw_6 h0 o t1 t2 tb t4 t5 t6 t7 t8), (sw_by cT tb 900 tf)] sz) := by
  refine m_of (y := yX6_isWord) (cc := cX6_isWord) (nL := 3) (ret := (some .boolean)) (D := D) (cT := cT) (av := [.ref h0, .ref (cT (10 + si))]) (wi := [(sw_6 h0 o t1 t2 tb t4 t5 t6 t7 t8), (sw_by cT tb 900 tf)]) (fun A => va_Qi (fun (r : Int32) (u : Unit) => (r = 0 ∨ r = 1) ∧ (Hd (¬ r.toInt = 0) (sg 2 = (si : Int))) ∧ (Hd (r.toInt = 0) (¬ sg 2 = (si : Int))) ∧ (True)) (fun u t => RW D A ((fun _ : Unit => [(sw_6 h0 o t1 t2 tb t4 t5 t6 t7 t8), (sw_by cT tb 900 tf)]) u) t) A) (by decide) (Nat.le_of_ble_eq_true rfl) ?_
  intro p e s m below meth c A hx hb hml hown htg hK hN hr hlk hnm hsz hP hD hS hA ls hl
  have hown : s.vm.findClass RX6 = some m.cls := hown
  have hl : lv_has ls 3 [(0, .ref h0), (1, .ref (cT (10 + si)))] := hl
  have t9_0 : (0 : Int32).toInt = 0 := by decide
  have t9_1 : (1 : Int32).toInt = 1 := by decide
  have rs4u := rs4
  unfold TK at rs4u
  refine lv_aload_n hx hb dX6_isWord_0 rfl (lv_at hl 0 rfl) ?_
  refine va_get (D := D) (ci := 6) (v := .int t7) (C := RX6) (T := TX6) (N := 9) hx hb htg gRX6 hown hK hP 0 rfl rfl 7 (by decide) (htg _ wi_262) (fun _ h9 => h9) rfl dX6_isWord_1 ?_
  refine lv_iconst (v := 1) hx hb dX6_isWord_4 (by decide) ?_
  refine lv_icmp_ne (tgt := 24) hx hb dX6_isWord_5 (by decide) (fun c_1 => ?_) (fun c_1 => ?_)
  · have ic_1 : ¬ t7.toInt = 1 := ine c_1 (rfl) (by decide)
    refine lv_iconst (v := 0) hx hb dX6_isWord_24 (by decide) ?_
    exact x_zret hx hb hr hlk hP hD hS [0, 1] (()) rfl (by decide) rfl ⟨(by decide), (fun h9 => absurd (by decide) h9), (fun _ => fun h => (by have h5 := keyF_mt (tx := tx) (st := sg 0) (en := sg 1) hisi13 (by omega); rw [mtK_iff] at h5; omega)), trivial⟩ (by decide) (by decide) dX6_isWord_25
  · have ic_1 : t7.toInt = 1 := ieq c_1 (rfl) (by decide)
    refine lv_aload_n hx hb dX6_isWord_8 rfl (lv_at hl 0 rfl) ?_
    refine va_get (D := D) (ci := 6) (v := .int t6) (C := RX6) (T := TX6) (N := 9) hx hb htg gRX6 hown hK hP 0 rfl rfl 6 (by decide) (htg _ wi_261) (fun _ h9 => h9) rfl dX6_isWord_9 ?_
    refine lv_aload_n hx hb dX6_isWord_12 rfl (lv_at hl 0 rfl) ?_
    refine va_get (D := D) (ci := 6) (v := .int t5) (C := RX6) (T := TX6) (N := 9) hx hb htg gRX6 hown hK hP 0 rfl rfl 5 (by decide) (htg _ wi_260) (fun _ h9 => h9) rfl dX6_isWord_13 ?_
    refine lv_isub hx hb dX6_isWord_16 ?_
    refine lv_topi (fun z_2 ez_2 => ?_)
    have iz_2 : z_2.toInt = t6.toInt - t5.toInt := toInt_subI ez_2 (rfl) (rfl) (by omega)
    refine lv_aload_n hx hb dX6_isWord_17 rfl (lv_at hl 1 rfl) ?_
    refine xk_i (wr := [(sw_6 h0 o t1 t2 tb t4 t5 t6 t7 t8), (sw_by cT tb 900 tf)]) (xr_VS (n := 0) (As := []) (rest := [.int z_2]) ⟨hx, hb, hml, hown, htg⟩ hK hN hP hD hS hA [] rfl (by decide) (g_s_length l D cT _ (si) (by first | assumption | decide | omega | (simp only [ti_0, ti_1, ti_2, ti_3, ti_4, ti_5, ti_6, ti_7, ti_8, ti_9, ti_10, ti_11, ti_12, ti_m1]; omega))) wi_558 wi_559 wi_560 wi_134 wi_561 (vk_recv (i := si) (adK := fun i => cT (10 + i)) (adV := fun i => cT (40 + i)) hN.2.2.2.2.1 (hisi) hS) ⟨rfl, by decide +kernel⟩ ⟨Nat.le_of_ble_eq_true rfl, Nat.le_of_ble_eq_true rfl⟩ rfl hl.1 rfl (Nat.le_of_ble_eq_true rfl) dX6_isWord_18 ⟨Nat.le_of_ble_eq_true rfl, Nat.le_of_ble_eq_true rfl⟩) hP hD hS hA [] [0, 1] rfl rfl (by decide) (by decide) (fun r_4 u_3 H locs hwr_4 hP hD hS => ?_)
    obtain ⟨hP, hD⟩ : PD D A [(sw_6 h0 o t1 t2 tb t4 t5 t6 t7 t8), (sw_by cT tb 900 tf)] _ := ⟨hP, hD⟩
    have hwr_4 : r_4 = nI (strL.getD si 0) := hwr_4
    subst hwr_4
    have hsl_si : (nI (strL.getD si 0)).toInt = ((strL.getD si 0 : Nat) : Int) := nI_toInt (by have h7 := strL_le si hisi; omega)
    refine lv_icmp_eq (tgt := 26) hx hb dX6_isWord_21 (by decide) (fun c_5 => ?_) (fun c_5 => ?_)
    · have ic_5 : z_2.toInt = ((strL.getD si 0 : Nat) : Int) := ieq c_5 (rfl) (nI_toInt (by omega))
      refine lv_iconst (v := 0) hx hb dX6_isWord_26 (by decide) ?_
      refine lv_istore_n (lv' := [(2, .int 0), (0, .ref h0), (1, .ref (cT (10 + si)))]) hx hb dX6_isWord_27 rfl hl (by decide) rfl (fun ls hl => ?_)
      have hin : ∀ j : Nat, j < 0 → tx (sg 0 + (j : Int)).toNat = chK si j := fun j h => absurd h (by omega)
      refine (fun (key : ∀ (n9_28 : Nat) (k9_28 : Nat)  (H : Heap) (locs : List Loc) (ls : Array Slot), (k9_28 : Int) ≤ ((strL.getD si 0 : Nat) : Int) → ((strL.getD si 0 : Nat) : Int) < (k9_28 : Int) + n9_28 → (∀ j : Nat, j < k9_28 → tx (sg 0 + (j : Int)).toNat = chK si j) → PD D A [(sw_6 h0 o t1 t2 tb t4 t5 t6 t7 t8), (sw_by cT tb 900 tf)] H → va_S A s.heap H locs → lv_has ls 3 [(2, .int (nI k9_28)), (0, .ref h0), (1, .ref (cT (10 + si)))] → W p l e _ s m _ below meth c H locs _ _ _ (F0 m 28 ls [])) => key (Int.toNat (((strL.getD si 0 : Nat) : Int) - 0) + 1) 0  _ _ _ (by omega) (by omega) (by first | assumption | omega | decide | (simp only [ti_0, ti_1, ti_2, ti_3, ti_4, ti_5, ti_6, ti_7, ti_8, ti_9, ti_10, ti_11, ti_12, ti_m1]; omega)) ⟨hP, hD⟩ hS (lv_sub hl [0, 1, 2] rfl)) ?_
      intro n9_28
      induction n9_28 with
      | zero => intro k9_28  H locs ls hq1 hq2; exact absurd hq2 (by omega)
      | succ n9_28 ih_28 =>
        intro k9_28  H locs ls hq1_28 hq2_28 h9_28_0 hPD hS hl
        obtain ⟨hP, hD⟩ := hPD
        have hk9_28 : (nI k9_28).toInt = (k9_28 : Int) := nI_toInt (by omega)
        refine lv_iload_n hx hb dX6_isWord_28 rfl (lv_at hl 0 rfl) ?_
        refine lv_aload_n hx hb dX6_isWord_29 rfl (lv_at hl 2 rfl) ?_
        refine xk_i (wr := [(sw_6 h0 o t1 t2 tb t4 t5 t6 t7 t8), (sw_by cT tb 900 tf)]) (xr_VS (n := 0) (As := []) (rest := [.int (nI k9_28)]) ⟨hx, hb, hml, hown, htg⟩ hK hN hP hD hS hA [] rfl (by decide) (g_s_length l D cT _ (si) (by first | assumption | decide | omega | (simp only [ti_0, ti_1, ti_2, ti_3, ti_4, ti_5, ti_6, ti_7, ti_8, ti_9, ti_10, ti_11, ti_12, ti_m1]; omega))) wi_558 wi_559 wi_560 wi_134 wi_561 (vk_recv (i := si) (adK := fun i => cT (10 + i)) (adV := fun i => cT (40 + i)) hN.2.2.2.2.1 (hisi) hS) ⟨rfl, by decide +kernel⟩ ⟨Nat.le_of_ble_eq_true rfl, Nat.le_of_ble_eq_true rfl⟩ rfl hl.1 rfl (Nat.le_of_ble_eq_true rfl) dX6_isWord_30 ⟨Nat.le_of_ble_eq_true rfl, Nat.le_of_ble_eq_true rfl⟩) hP hD hS hA [] [0, 1] rfl rfl (by decide) (by decide) (fun r_7 u_6 H locs hwr_7 hP hD hS => ?_)
        obtain ⟨hP, hD⟩ : PD D A [(sw_6 h0 o t1 t2 tb t4 t5 t6 t7 t8), (sw_by cT tb 900 tf)] _ := ⟨hP, hD⟩
        have hwr_7 : r_7 = nI (strL.getD si 0) := hwr_7
        subst hwr_7
        have hsl_si : (nI (strL.getD si 0)).toInt = ((strL.getD si 0 : Nat) : Int) := nI_toInt (by have h7 := strL_le si hisi; omega)
        refine lv_icmp_ge (tgt := 63) hx hb dX6_isWord_33 (by decide) (fun c_8 => ?_) (fun c_8 => ?_)
        · have ic_8 : ((strL.getD si 0 : Nat) : Int) ≤ ((k9_28 : Nat) : Int) := ile c_8 (nI_toInt (by omega)) (nI_toInt (by omega))
          refine lv_iconst (v := 1) hx hb dX6_isWord_63 (by decide) ?_
          exact x_zret hx hb hr hlk hP hD hS [0, 1] (()) rfl (by decide) rfl ⟨(by decide), (fun _ => (by have h5 : mtK tx (sg 0) (sg 1) si = true := mtK_iff.mpr ⟨by omega, fun j hj => h9_28_0 j (by omega)⟩; have h6 := keyF_is hisi13 h5; omega)), (fun h9 => absurd h9 (by decide)), trivial⟩ (by decide) (by decide) dX6_isWord_64
        · have ic_8 : ((k9_28 : Nat) : Int) < ((strL.getD si 0 : Nat) : Int) := inle c_8 (nI_toInt (by omega)) (nI_toInt (by omega))
          refine lv_aload_n hx hb dX6_isWord_36 rfl (lv_at hl 1 rfl) ?_
          refine va_get (D := D) (ci := 6) (v := .ref tb) (C := RX6) (T := TX6) (N := 9) hx hb htg gRX6 hown hK hP 0 rfl rfl 3 (by decide) (htg _ wi_258) (fun _ h9 => h9) rfl dX6_isWord_37 ?_
          refine lv_aload_n hx hb dX6_isWord_40 rfl (lv_at hl 1 rfl) ?_
          refine va_get (D := D) (ci := 6) (v := .int t5) (C := RX6) (T := TX6) (N := 9) hx hb htg gRX6 hown hK hP 0 rfl rfl 5 (by decide) (htg _ wi_260) (fun _ h9 => h9) rfl dX6_isWord_41 ?_
          refine lv_iload_n hx hb dX6_isWord_44 rfl (lv_at hl 0 rfl) ?_
          refine lv_iadd hx hb dX6_isWord_45 ?_
          refine lv_topi (fun z_9 ez_9 => ?_)
          have iz_9 : z_9.toInt = t5.toInt + ((k9_28 : Nat) : Int) := toInt_addI ez_9 (rfl) (nI_toInt (by omega)) (by omega)
          refine va_bald hx hb hK hP 1 2 rfl rfl (vp_in_iff.mpr (by omega)) dX6_isWord_46 ?_
          refine lv_topi (fun z_10 ez_10 => ?_)
          refine lv_aload_n hx hb dX6_isWord_47 rfl (lv_at hl 2 rfl) ?_
          refine lv_iload_n hx hb dX6_isWord_48 rfl (lv_at hl 0 rfl) ?_
          refine xk_i (wr := [(sw_6 h0 o t1 t2 tb t4 t5 t6 t7 t8), (sw_by cT tb 900 tf)]) (xr_VS (n := 1) (As := [.int (nI k9_28)]) (rest := [.int z_10]) ⟨hx, hb, hml, hown, htg⟩ hK hN hP hD hS hA [] rfl (by decide) (g_s_charAtX l D cT _ (si) (by first | assumption | decide | omega | (simp only [ti_0, ti_1, ti_2, ti_3, ti_4, ti_5, ti_6, ti_7, ti_8, ti_9, ti_10, ti_11, ti_12, ti_m1]; omega)) ((nI k9_28)) (by first | assumption | decide | omega | (simp only [ti_0, ti_1, ti_2, ti_3, ti_4, ti_5, ti_6, ti_7, ti_8, ti_9, ti_10, ti_11, ti_12, ti_m1]; omega)) (by first | assumption | decide | omega | (simp only [ti_0, ti_1, ti_2, ti_3, ti_4, ti_5, ti_6, ti_7, ti_8, ti_9, ti_10, ti_11, ti_12, ti_m1]; omega))) wi_568 wi_569 wi_570 wi_134 wi_571 (vk_recv (i := si) (adK := fun i => cT (10 + i)) (adV := fun i => cT (40 + i)) hN.2.2.2.2.1 (hisi) hS) ⟨rfl, by decide +kernel⟩ ⟨Nat.le_of_ble_eq_true rfl, Nat.le_of_ble_eq_true rfl⟩ rfl hl.1 rfl (Nat.le_of_ble_eq_true rfl) dX6_isWord_49 ⟨Nat.le_of_ble_eq_true rfl, Nat.le_of_ble_eq_true rfl⟩) hP hD hS hA [] [0, 1] rfl rfl (by decide) (by decide) (fun r_12 u_11 H locs hwr_12 hP hD hS => ?_)
          obtain ⟨hP, hD⟩ : PD D A [(sw_6 h0 o t1 t2 tb t4 t5 t6 t7 t8), (sw_by cT tb 900 tf)] _ := ⟨hP, hD⟩
          have qr_12_0 : narrow .char (.int r_12) = .int r_12 := hwr_12.1
          have qr_12_1 : r_12.toInt = ((strB.getD si []).getD (nI k9_28).toInt.toNat 0).toInt := hwr_12.2.1
          have hta : cB z_10.toInt = tx (sg 0 + (k9_28 : Int)).toNat := TXc_at hT ez_10 (a := sg 0 + (k9_28 : Int)) (by omega) (by omega)
          have hcb : r_12.toInt = chK si k9_28 := by rw [qr_12_1]; unfold chK; congr 2; omega
          have hcr := ch_in si hisi13 k9_28
          refine lv_icmp_eq (tgt := 57) hx hb dX6_isWord_52 (by decide) (fun c_13 => ?_) (fun c_13 => ?_)
          · have ic_13 : z_10.toInt = r_12.toInt := ieq c_13 (rfl) (rfl)
            refine lv_iinc (v := (nI (k9_28 + 1))) (lv' := [(2, .int (nI (k9_28 + 1))), (0, .ref h0), (1, .ref (cT (10 + si)))]) hx hb dX6_isWord_57 hl (k := 0) rfl (by exact nI_1 (k9_28)) (by decide) rfl (fun ls hl => ?_)
            refine lv_goto (tgt := 28) hx hb dX6_isWord_60 (by decide) ?_
            have hin : ∀ j : Nat, j < k9_28 + 1 → tx (sg 0 + (j : Int)).toNat = chK si j := fun j h => by rcases (show j < k9_28 ∨ j = k9_28 from by omega) with h1 | h1; exact h9_28_0 j h1; rw [h1]; have h2 : z_10.toInt = chK si k9_28 := (by omega); rw [← hta, h2]; exact cB_in hcr
            exact ih_28 (k9_28 + 1)  _ _ _ (by omega) (by omega) (by first | assumption | omega | decide | (simp only [ti_0, ti_1, ti_2, ti_3, ti_4, ti_5, ti_6, ti_7, ti_8, ti_9, ti_10, ti_11, ti_12, ti_m1]; omega)) ⟨hP.sub [0, 1] rfl, hD.sub [0, 1] (by decide) rfl⟩ hS (lv_sub hl [0, 1, 2] rfl)
          · have ic_13 : ¬ z_10.toInt = r_12.toInt := ine c_13 (rfl) (rfl)
            refine lv_iconst (v := 0) hx hb dX6_isWord_55 (by decide) ?_
            exact x_zret hx hb hr hlk hP hD hS [0, 1] (()) rfl (by decide) rfl ⟨(by decide), (fun h9 => absurd (by decide) h9), (fun _ => fun h => (by have h5 := keyF_mt (tx := tx) (st := sg 0) (en := sg 1) hisi13 (by omega); rw [mtK_iff] at h5; have h6 := h5.2 k9_28 (by omega); rw [← hta, ← hcb] at h6; have h7 := cB_is h6 (by omega); omega)), trivial⟩ (by decide) (by decide) dX6_isWord_56
    · have ic_5 : ¬ z_2.toInt = ((strL.getD si 0 : Nat) : Int) := ine c_5 (rfl) (nI_toInt (by omega))
      refine lv_iconst (v := 0) hx hb dX6_isWord_24 (by decide) ?_
      exact x_zret hx hb hr hlk hP hD hS [0, 1] (()) rfl (by decide) rfl ⟨(by decide), (fun h9 => absurd (by decide) h9), (fun _ => fun h => (by have h5 := keyF_mt (tx := tx) (st := sg 0) (en := sg 1) hisi13 (by omega); rw [mtK_iff] at h5; omega)), trivial⟩ (by decide) (by decide) dX6_isWord_25
