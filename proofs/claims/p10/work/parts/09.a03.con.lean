set_option maxHeartbeats 4000000 in
set_option maxRecDepth 100000 in
theorem g_refuseR (l : Launch) (D : va_G) (cT : Nat → ClassId) (sz : Nat) (h0 : Nat) (o : Nat) (tb : Nat) (t1 : Int32) (t2 : Int32) (t4 : Int32) (t5 : Int32) (t6 : Int32) (t7 : Int32) (t8 : Int32) (ht4 : 0 ≤ t4.toInt ∧ t4.toInt ≤ 900) (ht6 : 0 ≤ t6.toInt ∧ t6.toInt ≤ t4.toInt) (ht5 : 0 ≤ t5.toInt ∧ t5.toInt ≤ t6.toInt) (x : Int32) (hx1 : ¬ x.toInt = 0) (tx : Nat → Int) (sg : Nat → Int) (rs0 : t1.toInt = (sg) 4) (rs1 : WQ t2.toInt (sg)) (rs2 : t5.toInt = (sg) 0) (rs3 : t6.toInt = (sg) 1) (rs4 : TK tx t7.toInt (sg)) (rs5 : NV t8.toInt (sg)) : Met l yX6_refuse (wsc yX6_refuse cX6_refuse 2 none) { frames := 2, cells := 0, slots := 0, locals := 100 } (va_Pc [.ref h0, .int x] (PX D cT sz [(sw_6 h0 o t1 t2 tb t4 t5 t6 t7 t8)])) (va_Qv (fun (u : Int32 × Int32 × Int32 × Int32 × Int32 × Int32) => (0 ≤ u.2.2.1.toInt ∧ u.2.2.1.toInt ≤ 900) ∧ (0 ≤ u.2.2.2.1.toInt ∧ u.2.2.2.1.toInt ≤ 900) ∧ (u.2.2.1.toInt ≤ u.2.2.2.1.toInt ∧ u.2.2.2.1.toInt ≤ t4.toInt) ∧ (u.1.toInt = (failsF x.toInt sg) 4) ∧ (WQ u.2.1.toInt (failsF x.toInt sg)) ∧ (u.2.2.1.toInt = (failsF x.toInt sg) 0) ∧ (u.2.2.2.1.toInt = (failsF x.toInt sg) 1) ∧ (TK tx u.2.2.2.2.1.toInt (failsF x.toInt sg)) ∧ (NV u.2.2.2.2.2.toInt (failsF x.toInt sg)) ∧ (True)) (fun u t => RW D (va_A [(sw_6 h0 o t1 t2 tb t4 t5 t6 t7 t8)] sz) ((fun u : Int32 × Int32 × Int32 × Int32 × Int32 × Int32 => [(sw_6 h0 o u.1 u.2.1 tb t4 u.2.2.1 u.2.2.2.1 u.2.2.2.2.1 u.2.2.2.2.2)]) u) t) (va_A [(sw_6 h0 o t1 t2 tb t4 t5 t6 t7 t8)] sz)) 0 0 (va_A [(sw_6 h0 o t1 t2 tb t4 t5 t6 t7 t8)] sz) := by
  refine m_of (y := yX6_refuse) (cc := cX6_refuse) (nL := 2) (ret := none) (D := D) (cT := cT) (av := [.ref h0, .int x]) (wi := [(sw_6 h0 o t1 t2 tb t4 t5 t6 t7 t8)]) (fun A => va_Qv (fun (u : Int32 × Int32 × Int32 × Int32 × Int32 × Int32) => (0 ≤ u.2.2.1.toInt ∧ u.2.2.1.toInt ≤ 900) ∧ (0 ≤ u.2.2.2.1.toInt ∧ u.2.2.2.1.toInt ≤ 900) ∧ (u.2.2.1.toInt ≤ u.2.2.2.1.toInt ∧ u.2.2.2.1.toInt ≤ t4.toInt) ∧ (u.1.toInt = (failsF x.toInt sg) 4) ∧ (WQ u.2.1.toInt (failsF x.toInt sg)) ∧ (u.2.2.1.toInt = (failsF x.toInt sg) 0) ∧ (u.2.2.2.1.toInt = (failsF x.toInt sg) 1) ∧ (TK tx u.2.2.2.2.1.toInt (failsF x.toInt sg)) ∧ (NV u.2.2.2.2.2.toInt (failsF x.toInt sg)) ∧ (True)) (fun u t => RW D A ((fun u : Int32 × Int32 × Int32 × Int32 × Int32 × Int32 => [(sw_6 h0 o u.1 u.2.1 tb t4 u.2.2.1 u.2.2.2.1 u.2.2.2.2.1 u.2.2.2.2.2)]) u) t) A) (by decide) (Nat.le_of_ble_eq_true rfl) ?_
  intro p e s m below meth c A hx hb hml hown htg hK hN hr hlk hnm hsz hP hD hS hA ls hl
  have hown : s.vm.findClass RX6 = some m.cls := hown
  have hl : lv_has ls 2 [(0, .ref h0), (1, .int x)] := hl
  have t9_0 : (0 : Int32).toInt = 0 := by decide
  have t9_1 : (1 : Int32).toInt = 1 := by decide
  have t9_4 : (4 : Int32).toInt = 4 := by decide
  refine lv_aload_n hx hb dX6_refuse_0 rfl (lv_at hl 0 rfl) ?_
  refine va_get (D := D) (ci := 6) (v := .int t1) (C := RX6) (T := TX6) (N := 9) hx hb htg gRX6 hown hK hP 0 rfl rfl 1 (by decide) (htg _ wi_254) (fun _ h9 => h9) rfl dX6_refuse_1 ?_
  refine lv_if_ne (tgt := 32) hx hb dX6_refuse_4 (by decide) (fun c_1 => ?_) (fun c_1 => ?_)
  · have ic_1 : ¬ t1.toInt = 0 := ine c_1 (rfl) (by decide)
    have h17 := TK_4 rs4
    have hF := fails_all x.toInt sg
    have hF5 := hF.2.2.2.2.1
    have hF6 := hF.2.2.2.2.2.1
    have hF7 := hF.2.2.2.2.2.2.1
    have hF8 := hF.2.2.2.2.2.2.2
    exact x_vret hx hb hr hlk hP hD hS [0] ((t1, t2, t5, t6, t7, t8)) rfl (by decide) ⟨(by first | with_reducible rfl | ((try dsimp only); first | assumption | decide | omega | (simp only [ti_0, ti_1, ti_2, ti_3, ti_4, ti_5, ti_6, ti_7, ti_8, ti_9, ti_10, ti_11, ti_12, ti_m1]; omega))), (by first | with_reducible rfl | ((try dsimp only); first | assumption | decide | omega | (simp only [ti_0, ti_1, ti_2, ti_3, ti_4, ti_5, ti_6, ti_7, ti_8, ti_9, ti_10, ti_11, ti_12, ti_m1]; omega))), (by first | with_reducible rfl | ((try dsimp only); first | assumption | decide | omega | (simp only [ti_0, ti_1, ti_2, ti_3, ti_4, ti_5, ti_6, ti_7, ti_8, ti_9, ti_10, ti_11, ti_12, ti_m1]; omega))), (by (try dsimp only); clear rs5 hF; omega), (by (try dsimp only); have h1 := rs1; unfold WQ at h1 ⊢; clear rs5 hF; omega), (by (try dsimp only); rw [hF.1]; exact rs2), (by (try dsimp only); rw [hF.2.1]; exact rs3), (by (try dsimp only); have h1 := rs4; unfold TK at h1 ⊢; rw [hF.2.2.1, hF.1, hF.2.1]; exact h1), (by (try dsimp only); have h1 := rs5; unfold NV at h1 ⊢; rw [hF.2.2.1, hF.2.2.2.1]; exact h1), trivial⟩ (by decide) (by decide) dX6_refuse_32
  · have ic_1 : t1.toInt = 0 := ieq c_1 (rfl) (by decide)
    refine lv_aload_n hx hb dX6_refuse_7 rfl (lv_at hl 0 rfl) ?_
    refine lv_aload_n hx hb dX6_refuse_8 rfl (lv_at hl 0 rfl) ?_
    refine va_get (D := D) (ci := 6) (v := .int t7) (C := RX6) (T := TX6) (N := 9) hx hb htg gRX6 hown hK hP 0 rfl rfl 7 (by decide) (htg _ wi_262) (fun _ h9 => h9) rfl dX6_refuse_9 ?_
    refine lv_iconst (v := 4) hx hb dX6_refuse_12 (by decide) ?_
    refine lv_icmp_ne (tgt := 20) hx hb dX6_refuse_13 (by decide) (fun c_2 => ?_) (fun c_2 => ?_)
    · have ic_2 : ¬ t7.toInt = 4 := ine c_2 (rfl) (by decide)
      refine lv_iload_n hx hb dX6_refuse_20 rfl (lv_at hl 1 rfl) ?_
      refine va_put (D := D) (ci := 6) (v := .int x) (ty := .int) (C := RX6) (T := TX6) (N := 9) hx hb htg gRX6 tyX6 tyX6_ok nmX6 hown hK hP hD hS 0 rfl rfl 1 (by decide) (htg _ wi_254) (fun _ h9 => h9) rfl (by decide +kernel) rfl rfl (Nat.le_of_ble_eq_true rfl) dX6_refuse_21 (fun H locs hP hD hS => ?_)
      obtain ⟨hP, hD⟩ : PD D A [(sw_6 h0 o x t2 tb t4 t5 t6 t7 t8)] _ := ⟨hP, hD⟩
      refine lv_aload_n hx hb dX6_refuse_24 rfl (lv_at hl 0 rfl) ?_
      refine lv_aload_n hx hb dX6_refuse_25 rfl (lv_at hl 0 rfl) ?_
      refine va_get (D := D) (ci := 6) (v := .int t5) (C := RX6) (T := TX6) (N := 9) hx hb htg gRX6 hown hK hP 0 rfl rfl 5 (by decide) (htg _ wi_260) (fun _ h9 => h9) rfl dX6_refuse_26 ?_
      refine va_put (D := D) (ci := 6) (v := .int t5) (ty := .int) (C := RX6) (T := TX6) (N := 9) hx hb htg gRX6 tyX6 tyX6_ok nmX6 hown hK hP hD hS 0 rfl rfl 2 (by decide) (htg _ wi_256) (fun _ h9 => h9) rfl (by decide +kernel) rfl rfl (Nat.le_of_ble_eq_true rfl) dX6_refuse_29 (fun H locs hP hD hS => ?_)
      obtain ⟨hP, hD⟩ : PD D A [(sw_6 h0 o x t5 tb t4 t5 t6 t7 t8)] _ := ⟨hP, hD⟩
      have h17 := TK_4 rs4
      have hF := fails_all x.toInt sg
      have hF5 := hF.2.2.2.2.1
      have hF6 := hF.2.2.2.2.2.1
      have hF7 := hF.2.2.2.2.2.2.1
      have hF8 := hF.2.2.2.2.2.2.2
      exact x_vret hx hb hr hlk hP hD hS [0] ((x, t5, t5, t6, t7, t8)) rfl (by decide) ⟨(by first | with_reducible rfl | ((try dsimp only); first | assumption | decide | omega | (simp only [ti_0, ti_1, ti_2, ti_3, ti_4, ti_5, ti_6, ti_7, ti_8, ti_9, ti_10, ti_11, ti_12, ti_m1]; omega))), (by first | with_reducible rfl | ((try dsimp only); first | assumption | decide | omega | (simp only [ti_0, ti_1, ti_2, ti_3, ti_4, ti_5, ti_6, ti_7, ti_8, ti_9, ti_10, ti_11, ti_12, ti_m1]; omega))), (by first | with_reducible rfl | ((try dsimp only); first | assumption | decide | omega | (simp only [ti_0, ti_1, ti_2, ti_3, ti_4, ti_5, ti_6, ti_7, ti_8, ti_9, ti_10, ti_11, ti_12, ti_m1]; omega))), (by (try dsimp only); clear rs5 hF; omega), (by (try dsimp only); have h1 := rs1; unfold WQ at h1 ⊢; clear rs5 hF; omega), (by (try dsimp only); rw [hF.1]; exact rs2), (by (try dsimp only); rw [hF.2.1]; exact rs3), (by (try dsimp only); have h1 := rs4; unfold TK at h1 ⊢; rw [hF.2.2.1, hF.1, hF.2.1]; exact h1), (by (try dsimp only); have h1 := rs5; unfold NV at h1 ⊢; rw [hF.2.2.1, hF.2.2.2.1]; exact h1), trivial⟩ (by decide) (by decide) dX6_refuse_32
    · have ic_2 : t7.toInt = 4 := ieq c_2 (rfl) (by decide)
      refine lv_iconst (v := 1) hx hb dX6_refuse_16 (by decide) ?_
      refine lv_goto (tgt := 21) hx hb dX6_refuse_17 (by decide) ?_
      refine va_put (D := D) (ci := 6) (v := .int 1) (ty := .int) (C := RX6) (T := TX6) (N := 9) hx hb htg gRX6 tyX6 tyX6_ok nmX6 hown hK hP hD hS 0 rfl rfl 1 (by decide) (htg _ wi_254) (fun _ h9 => h9) rfl (by decide +kernel) rfl rfl (Nat.le_of_ble_eq_true rfl) dX6_refuse_21 (fun H locs hP hD hS => ?_)
      obtain ⟨hP, hD⟩ : PD D A [(sw_6 h0 o 1 t2 tb t4 t5 t6 t7 t8)] _ := ⟨hP, hD⟩
      refine lv_aload_n hx hb dX6_refuse_24 rfl (lv_at hl 0 rfl) ?_
      refine lv_aload_n hx hb dX6_refuse_25 rfl (lv_at hl 0 rfl) ?_
      refine va_get (D := D) (ci := 6) (v := .int t5) (C := RX6) (T := TX6) (N := 9) hx hb htg gRX6 hown hK hP 0 rfl rfl 5 (by decide) (htg _ wi_260) (fun _ h9 => h9) rfl dX6_refuse_26 ?_
      refine va_put (D := D) (ci := 6) (v := .int t5) (ty := .int) (C := RX6) (T := TX6) (N := 9) hx hb htg gRX6 tyX6 tyX6_ok nmX6 hown hK hP hD hS 0 rfl rfl 2 (by decide) (htg _ wi_256) (fun _ h9 => h9) rfl (by decide +kernel) rfl rfl (Nat.le_of_ble_eq_true rfl) dX6_refuse_29 (fun H locs hP hD hS => ?_)
      obtain ⟨hP, hD⟩ : PD D A [(sw_6 h0 o 1 t5 tb t4 t5 t6 t7 t8)] _ := ⟨hP, hD⟩
      have h17 := TK_4 rs4
      have hF := fails_all x.toInt sg
      have hF5 := hF.2.2.2.2.1
      have hF6 := hF.2.2.2.2.2.1
      have hF7 := hF.2.2.2.2.2.2.1
      have hF8 := hF.2.2.2.2.2.2.2
      exact x_vret hx hb hr hlk hP hD hS [0] ((1, t5, t5, t6, t7, t8)) rfl (by decide) ⟨(by first | with_reducible rfl | ((try dsimp only); first | assumption | decide | omega | (simp only [ti_0, ti_1, ti_2, ti_3, ti_4, ti_5, ti_6, ti_7, ti_8, ti_9, ti_10, ti_11, ti_12, ti_m1]; omega))), (by first | with_reducible rfl | ((try dsimp only); first | assumption | decide | omega | (simp only [ti_0, ti_1, ti_2, ti_3, ti_4, ti_5, ti_6, ti_7, ti_8, ti_9, ti_10, ti_11, ti_12, ti_m1]; omega))), (by first | with_reducible rfl | ((try dsimp only); first | assumption | decide | omega | (simp only [ti_0, ti_1, ti_2, ti_3, ti_4, ti_5, ti_6, ti_7, ti_8, ti_9, ti_10, ti_11, ti_12, ti_m1]; omega))), (by (try dsimp only); clear rs5 hF; omega), (by (try dsimp only); have h1 := rs1; unfold WQ at h1 ⊢; clear rs5 hF; omega), (by (try dsimp only); rw [hF.1]; exact rs2), (by (try dsimp only); rw [hF.2.1]; exact rs3), (by (try dsimp only); have h1 := rs4; unfold TK at h1 ⊢; rw [hF.2.2.1, hF.1, hF.2.1]; exact h1), (by (try dsimp only); have h1 := rs5; unfold NV at h1 ⊢; rw [hF.2.2.1, hF.2.2.2.1]; exact h1), trivial⟩ (by decide) (by decide) dX6_refuse_32
set_option maxHeartbeats 4000000 in
set_option maxRecDepth 100000 in
theorem g_l1_charAtX (l : Launch) (D : va_G) (cT : Nat → ClassId) (sz : Nat) (si : Nat) (hisi : si < 14) (x : Int32) (hch : 0 ≤ x.toInt ∧ x.toInt < ((strL.getD si 0 : Nat) : Int)) (hl100 : strL.getD si 0 ≤ 100) : Met l yJ1_charAt_3b067 (wsc yJ1_charAt_3b067 cJ1_charAt_3b067 2 (some .char)) { frames := 4, cells := 0, slots := 0, locals := 143 } (va_Pc [.ref (cT (40 + si)), .int x] (PX D cT sz [])) (va_Qi (fun (r : Int32) (u : Unit) => (narrow .char (.int r) = .int r) ∧ (r.toInt = ((strB.getD si []).getD x.toInt.toNat 0).toInt) ∧ (True)) (fun u t => RW D (va_A [] sz) ((fun _ : Unit => []) u) t) (va_A [] sz)) 0 0 (va_A [] sz) := by
  refine m_of (y := yJ1_charAt_3b067) (cc := cJ1_charAt_3b067) (nL := 2) (ret := (some .char)) (D := D) (cT := cT) (av := [.ref (cT (40 + si)), .int x]) (wi := []) (fun A => va_Qi (fun (r : Int32) (u : Unit) => (narrow .char (.int r) = .int r) ∧ (r.toInt = ((strB.getD si []).getD x.toInt.toNat 0).toInt) ∧ (True)) (fun u t => RW D A ((fun _ : Unit => []) u) t) A) (by decide) (Nat.le_of_ble_eq_true rfl) ?_
  intro p e s m below meth c A hx hb hml hown htg hK hN hr hlk hnm hsz hP hD hS hA ls hl
  have hown : s.vm.findClass RJ1 = some m.cls := hown
  have hl : lv_has ls 2 [(0, .ref (cT (40 + si))), (1, .int x)] := hl
  refine lv_iload_n hx hb dJ1_charAt_3b067_0 rfl (lv_at hl 1 rfl) ?_
  refine lv_aload_n hx hb dJ1_charAt_3b067_1 rfl (lv_at hl 0 rfl) ?_
  refine va_tlen (v := nI (strL.getD si 0)) hx hb (hN.2.2.2.2.1.1 si hisi).2.2.2 hS rfl dJ1_charAt_3b067_2 ?_
  have hsl_si : (nI (strL.getD si 0)).toInt = ((strL.getD si 0 : Nat) : Int) := nI_toInt (by have h7 := strL_le si hisi; omega)
  refine xk_v (wr := []) (xr_S (n := 2) (As := [.int x, .int (nI (strL.getD si 0))]) (rest := []) ⟨hx, hb, hml, hown, htg⟩ hK hN hP hD hS hA [] rfl (by decide) (g_s_checkIndex l D cT _ (x) ((nI (strL.getD si 0))) (by first | assumption | decide | omega | (simp only [ti_0, ti_1, ti_2, ti_3, ti_4, ti_5, ti_6, ti_7, ti_8, ti_9, ti_10, ti_11, ti_12, ti_m1]; omega))) wi_579 wi_580 wi_134 wi_581 ⟨rfl, by decide +kernel⟩ ⟨Nat.le_of_ble_eq_true rfl, Nat.le_of_ble_eq_true rfl⟩ rfl hl.1 rfl (Nat.le_of_ble_eq_true rfl) dJ1_charAt_3b067_3 ⟨Nat.le_of_ble_eq_true rfl, Nat.le_of_ble_eq_true rfl⟩) hP hD hS hA [] [] rfl rfl (by decide) (by decide) (fun u_1 H locs hwr_2 hP hD hS => ?_)
  obtain ⟨hP, hD⟩ : PD D A [] _ := ⟨hP, hD⟩
  refine lv_aload_n hx hb dJ1_charAt_3b067_6 rfl (lv_at hl 0 rfl) ?_
  refine lv_iload_n hx hb dJ1_charAt_3b067_7 rfl (lv_at hl 1 rfl) ?_
  refine va_tb hx hb (hN.2.2.2.2.1.1 si hisi).2.2.2 hS (vp_in_iff.mpr (by omega)) rfl dJ1_charAt_3b067_8 ?_
  refine lv_topi (fun z_3 ez_3 => ?_)
  refine lv_sipush (v := 255) hx hb dJ1_charAt_3b067_9 (by decide) ?_
  refine lv_iand hx hb dJ1_charAt_3b067_12 ?_
  refine lv_topi (fun z_4 ez_4 => ?_)
  have iz_4 : 0 ≤ z_4.toInt ∧ z_4.toInt ≤ 255 := andI ez_4 (by decide) (by decide)
  obtain ⟨z_5, ez_5⟩ : ∃ w : Int32, w = (z_4.toUInt32 % 65536).toInt32 := ⟨_, rfl⟩
  refine lv_i2c (v := z_5) hx hb dJ1_charAt_3b067_13 ez_5.symm ?_
  exact x_tret (ty := .char) hx hb hr hlk hP hD hS [] (()) rfl (by decide) (by rw [ez_5]; exact pk_nc _) ⟨(by rw [ez_5]; exact pk_nc _), (by rw [ez_5, ez_4, ez_3]; exact ch_ok si hisi _ (by show x.toInt.toNat < _; omega)), trivial⟩ (by decide) (by decide) dJ1_charAt_3b067_14
set_option maxHeartbeats 4000000 in
set_option maxRecDepth 100000 in
theorem g_s_charAtX (l : Launch) (D : va_G) (cT : Nat → ClassId) (sz : Nat) (si : Nat) (hisi : si < 14) (x : Int32) (hch : 0 ≤ x.toInt ∧ x.toInt < ((strL.getD si 0 : Nat) : Int)) (hl100 : strL.getD si 0 ≤ 100) : Met l yJ0_charAt_5068e (wsc yJ0_charAt_5068e cJ0_charAt_5068e 2 (some .char)) { frames := 5, cells := 0, slots := 0, locals := 164 } (va_Pc [.ref (cT (10 + si)), .int x] (PX D cT sz [])) (va_Qi (fun (r : Int32) (u : Unit) => (narrow .char (.int r) = .int r) ∧ (r.toInt = ((strB.getD si []).getD x.toInt.toNat 0).toInt) ∧ (True)) (fun u t => RW D (va_A [] sz) ((fun _ : Unit => []) u) t) (va_A [] sz)) 0 0 (va_A [] sz) := by
  refine m_of (y := yJ0_charAt_5068e) (cc := cJ0_charAt_5068e) (nL := 2) (ret := (some .char)) (D := D) (cT := cT) (av := [.ref (cT (10 + si)), .int x]) (wi := []) (fun A => va_Qi (fun (r : Int32) (u : Unit) => (narrow .char (.int r) = .int r) ∧ (r.toInt = ((strB.getD si []).getD x.toInt.toNat 0).toInt) ∧ (True)) (fun u t => RW D A ((fun _ : Unit => []) u) t) A) (by decide) (Nat.le_of_ble_eq_true rfl) ?_
  intro p e s m below meth c A hx hb hml hown htg hK hN hr hlk hnm hsz hP hD hS hA ls hl
  have hown : s.vm.findClass RJ0 = some m.cls := hown
  have hl : lv_has ls 2 [(0, .ref (cT (10 + si))), (1, .int x)] := hl
  refine lv_aload_n hx hb dJ0_charAt_5068e_0 rfl (lv_at hl 0 rfl) ?_
  refine xk_i (wr := []) (xr_VS (n := 0) (As := []) (rest := []) ⟨hx, hb, hml, hown, htg⟩ hK hN hP hD hS hA [] rfl (by decide) (g_s_isLatin1 l D cT _ (si) (by first | assumption | decide | omega | (simp only [ti_0, ti_1, ti_2, ti_3, ti_4, ti_5, ti_6, ti_7, ti_8, ti_9, ti_10, ti_11, ti_12, ti_m1]; omega))) wi_572 wi_573 wi_574 wi_134 wi_575 (vk_recv (i := si) (adK := fun i => cT (10 + i)) (adV := fun i => cT (40 + i)) hN.2.2.2.2.1 (hisi) hS) ⟨rfl, by decide +kernel⟩ ⟨Nat.le_of_ble_eq_true rfl, Nat.le_of_ble_eq_true rfl⟩ rfl hl.1 rfl (Nat.le_of_ble_eq_true rfl) dJ0_charAt_5068e_1 ⟨Nat.le_of_ble_eq_true rfl, Nat.le_of_ble_eq_true rfl⟩) hP hD hS hA [] [] rfl rfl (by decide) (by decide) (fun r_2 u_1 H locs hwr_2 hP hD hS => ?_)
  obtain ⟨hP, hD⟩ : PD D A [] _ := ⟨hP, hD⟩
  have hwr_2 : r_2 = 1 := hwr_2
  subst hwr_2
  refine lv_if_eq (tgt := 16) hx hb dJ0_charAt_5068e_4 (by decide) (fun h => absurd h (by decide)) (fun _ => ?_)
  refine lv_aload_n hx hb dJ0_charAt_5068e_7 rfl (lv_at hl 0 rfl) ?_
  refine vk_getf hx hb (hN.2.2.2.2.1.1 si hisi).2.2.1 hS hown (htg _ wi_1631) (fun _ h9 => h9) dJ0_charAt_5068e_8 ?_
  refine lv_iload_n hx hb dJ0_charAt_5068e_11 rfl (lv_at hl 1 rfl) ?_
  refine xk_i (wr := []) (xr_S (n := 2) (As := [.ref (cT (40 + si)), .int x]) (rest := []) ⟨hx, hb, hml, hown, htg⟩ hK hN hP hD hS hA [] rfl (by decide) (g_l1_charAtX l D cT _ (si) (by first | assumption | decide | omega | (simp only [ti_0, ti_1, ti_2, ti_3, ti_4, ti_5, ti_6, ti_7, ti_8, ti_9, ti_10, ti_11, ti_12, ti_m1]; omega)) (x) (by first | assumption | decide | omega | (simp only [ti_0, ti_1, ti_2, ti_3, ti_4, ti_5, ti_6, ti_7, ti_8, ti_9, ti_10, ti_11, ti_12, ti_m1]; omega)) (by first | assumption | decide | omega | (simp only [ti_0, ti_1, ti_2, ti_3, ti_4, ti_5, ti_6, ti_7, ti_8, ti_9, ti_10, ti_11, ti_12, ti_m1]; omega))) wi_576 wi_577 wi_135 wi_578 ⟨rfl, by decide +kernel⟩ ⟨Nat.le_of_ble_eq_true rfl, Nat.le_of_ble_eq_true rfl⟩ rfl hl.1 rfl (Nat.le_of_ble_eq_true rfl) dJ0_charAt_5068e_12 ⟨Nat.le_of_ble_eq_true rfl, Nat.le_of_ble_eq_true rfl⟩) hP hD hS hA [] [] rfl rfl (by decide) (by decide) (fun r_4 u_3 H locs hwr_4 hP hD hS => ?_)
  obtain ⟨hP, hD⟩ : PD D A [] _ := ⟨hP, hD⟩
  have qr_4_0 : narrow .char (.int r_4) = .int r_4 := hwr_4.1
  have qr_4_1 : r_4.toInt = ((strB.getD si []).getD x.toInt.toNat 0).toInt := hwr_4.2.1
  exact x_tret (ty := .char) hx hb hr hlk hP hD hS [] (()) rfl (by decide) qr_4_0 ⟨by (try dsimp only); first | assumption | omega | decide | exact Or.inl (by decide) | (intro h9; exact absurd h9 (by decide)) | (intro _; decide) | (simp only [ti_0, ti_1, ti_2, ti_3, ti_4, ti_5, ti_6, ti_7, ti_8, ti_9, ti_10, ti_11, ti_12, ti_m1]; omega) | (simp only [ti_0, ti_1, ti_2, ti_3, ti_4, ti_5, ti_6, ti_7, ti_8, ti_9, ti_10, ti_11, ti_12, ti_m1]; done), by (try dsimp only); first | assumption | omega | decide | exact Or.inl (by decide) | (intro h9; exact absurd h9 (by decide)) | (intro _; decide) | (simp only [ti_0, ti_1, ti_2, ti_3, ti_4, ti_5, ti_6, ti_7, ti_8, ti_9, ti_10, ti_11, ti_12, ti_m1]; omega) | (simp only [ti_0, ti_1, ti_2, ti_3, ti_4, ti_5, ti_6, ti_7, ti_8, ti_9, ti_10, ti_11, ti_12, ti_m1]; done), trivial⟩ (by decide) (by decide) dJ0_charAt_5068e_15
