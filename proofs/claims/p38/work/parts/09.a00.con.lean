set_option maxHeartbeats 4000000 in
set_option maxRecDepth 100000 in
theorem g_cutR (l : Launch) (D : va_G) (cT : Nat → ClassId) (sz : Nat) (h0 : Nat) (b : Nat) (w0 : Int32) (w1 : Int32) (w2 : Int32) (hw2 : 0 ≤ w2.toInt ∧ w2.toInt ≤ 40) (v : Int64) : Met l yX4_cut (wsc yX4_cut cX4_cut 3 (some .long)) { frames := 2, cells := 0, slots := 0, locals := 100 } (va_Pc [.ref h0, .long v] (PX D cT sz [(sw_4 h0 w0 w1 w2 b)])) (va_Ql (fun (r : Int64) (u : Unit) => (r = cutL w1.toInt v) ∧ (True)) (fun u t => RW D (va_A [(sw_4 h0 w0 w1 w2 b)] sz) ((fun _ : Unit => [(sw_4 h0 w0 w1 w2 b)]) u) t) (va_A [(sw_4 h0 w0 w1 w2 b)] sz)) 0 0 (va_A [(sw_4 h0 w0 w1 w2 b)] sz) := by
  refine m_of (y := yX4_cut) (cc := cX4_cut) (nL := 3) (ret := (some .long)) (D := D) (cT := cT) (av := [.ref h0, .long v]) (wi := [(sw_4 h0 w0 w1 w2 b)]) (fun A => va_Ql (fun (r : Int64) (u : Unit) => (r = cutL w1.toInt v) ∧ (True)) (fun u t => RW D A ((fun _ : Unit => [(sw_4 h0 w0 w1 w2 b)]) u) t) A) (by decide) (Nat.le_of_ble_eq_true rfl) ?_
  intro p e s m below meth c A hx hb hml hown htg hK hN hr hlk hnm hsz hP hD hS hA ls hl
  have hown : s.vm.findClass RX4 = some m.cls := hown
  have hl : lv_has ls 3 [(0, .ref h0), (1, .long v)] := hl
  refine lv_aload_n hx hb dX4_cut_0 rfl (lv_at hl 0 rfl) ?_
  refine va_get (D := D) (ci := 4) (v := .int w1) (C := RX4) (T := TX4) (N := 4) hx hb htg gRX4 hown hK hP 0 rfl rfl 1 (by decide) (htg _ wi_453) (fun _ h9 => h9) rfl dX4_cut_1 ?_
  have c_1 : (w1.toInt < 0 ∨ 2 < w1.toInt) ∨ w1 = 0 ∨ w1 = 1 ∨ w1 = 2 := by
    rcases (show (w1.toInt < 0 ∨ 2 < w1.toInt) ∨ w1.toInt = 0 ∨ w1.toInt = 1 ∨ w1.toInt = 2 from by omega) with h | h | h | h
    · exact Or.inl h
    · exact Or.inr (Or.inl (i32_is (h.trans (by decide))))
    · exact Or.inr (Or.inr (Or.inl (i32_is (h.trans (by decide)))))
    · exact Or.inr (Or.inr (Or.inr (i32_is (h.trans (by decide)))))
  rcases c_1 with c_1 | c_1 | c_1 | c_1
  · refine lv_tableOut (tgt := 46) hx hb dX4_cut_4 c_1 (by decide) ?_
    refine lv_lload_n hx hb dX4_cut_46 rfl (lv_at hl 1 rfl) ?_
    exact x_lret hx hb hr hlk hP hD hS [0] (()) rfl (by decide) ⟨(by unfold cutL; (repeat (first | rw [if_pos (by omega)] | rw [if_neg (by omega)]))), trivial⟩ (by decide) (by decide) dX4_cut_47
  · have ic_1 : w1.toInt = 0 := ieq c_1 rfl (by decide)
    refine lv_is (y := 0) c_1 ?_
    refine lv_tableIn (off := 28) (tgt := 32) hx hb dX4_cut_4 (by decide) (by decide) (by decide) (by decide) ?_
    refine lv_lload_n hx hb dX4_cut_32 rfl (lv_at hl 1 rfl) ?_
    obtain ⟨z_2, ez_2⟩ : ∃ w : Int32, w = v.toInt32 := ⟨_, rfl⟩
    refine lv_l2i (v := z_2) hx hb dX4_cut_33 ez_2.symm ?_
    obtain ⟨z_3, ez_3⟩ : ∃ w : Int32, w = z_2.toInt8.toInt32 := ⟨_, rfl⟩
    refine lv_i2b (v := z_3) hx hb dX4_cut_34 ez_3.symm ?_
    refine lv_i2l (v := z_3.toInt64) hx hb dX4_cut_35 rfl ?_
    exact x_lret hx hb hr hlk hP hD hS [0] (()) rfl (by decide) ⟨(by unfold cutL; (repeat (first | rw [if_pos (by omega)] | rw [if_neg (by omega)])); rw [ez_3]; rw [ez_2]), trivial⟩ (by decide) (by decide) dX4_cut_36
  · have ic_1 : w1.toInt = 1 := ieq c_1 rfl (by decide)
    refine lv_is (y := 1) c_1 ?_
    refine lv_tableIn (off := 33) (tgt := 37) hx hb dX4_cut_4 (by decide) (by decide) (by decide) (by decide) ?_
    refine lv_lload_n hx hb dX4_cut_37 rfl (lv_at hl 1 rfl) ?_
    obtain ⟨z_4, ez_4⟩ : ∃ w : Int32, w = v.toInt32 := ⟨_, rfl⟩
    refine lv_l2i (v := z_4) hx hb dX4_cut_38 ez_4.symm ?_
    obtain ⟨z_5, ez_5⟩ : ∃ w : Int32, w = z_4.toInt16.toInt32 := ⟨_, rfl⟩
    refine lv_i2s (v := z_5) hx hb dX4_cut_39 ez_5.symm ?_
    refine lv_i2l (v := z_5.toInt64) hx hb dX4_cut_40 rfl ?_
    exact x_lret hx hb hr hlk hP hD hS [0] (()) rfl (by decide) ⟨(by unfold cutL; (repeat (first | rw [if_pos (by omega)] | rw [if_neg (by omega)])); rw [ez_5]; rw [ez_4]), trivial⟩ (by decide) (by decide) dX4_cut_41
  · have ic_1 : w1.toInt = 2 := ieq c_1 rfl (by decide)
    refine lv_is (y := 2) c_1 ?_
    refine lv_tableIn (off := 38) (tgt := 42) hx hb dX4_cut_4 (by decide) (by decide) (by decide) (by decide) ?_
    refine lv_lload_n hx hb dX4_cut_42 rfl (lv_at hl 1 rfl) ?_
    obtain ⟨z_6, ez_6⟩ : ∃ w : Int32, w = v.toInt32 := ⟨_, rfl⟩
    refine lv_l2i (v := z_6) hx hb dX4_cut_43 ez_6.symm ?_
    refine lv_i2l (v := z_6.toInt64) hx hb dX4_cut_44 rfl ?_
    exact x_lret hx hb hr hlk hP hD hS [0] (()) rfl (by decide) ⟨(by unfold cutL; (repeat (first | rw [if_pos (by omega)] | rw [if_neg (by omega)])); rw [ez_6]), trivial⟩ (by decide) (by decide) dX4_cut_45
set_option maxHeartbeats 4000000 in
set_option maxRecDepth 100000 in
theorem g_putR (l : Launch) (D : va_G) (cT : Nat → ClassId) (sz : Nat) (h0 : Nat) (b : Nat) (w0 : Int32) (w1 : Int32) (w2 : Int32) (hw2 : 0 ≤ w2.toInt ∧ w2.toInt ≤ 40) (f : Nat → Int64) (x : Int32) (hxp : 0 ≤ x.toInt ∧ x.toInt < w2.toInt) (v : Int64) : Met l yX4_put (wsc yX4_put cX4_put 4 (some .long)) { frames := 3, cells := 0, slots := 0, locals := 122 } (va_Pc [.ref h0, .int x, .long v] (PX D cT sz [(sw_4 h0 w0 w1 w2 b), (sw_lo cT b 40 f)])) (va_Ql (fun (r : Int64) (u : Nat → Int64) => (r = cutL w1.toInt v) ∧ (True)) (fun u t => RW D (va_A [(sw_4 h0 w0 w1 w2 b), (sw_lo cT b 40 f)] sz) ((fun u : Nat → Int64 => [(sw_4 h0 w0 w1 w2 b), (sw_lo cT b 40 u)]) u) t) (va_A [(sw_4 h0 w0 w1 w2 b), (sw_lo cT b 40 f)] sz)) 0 0 (va_A [(sw_4 h0 w0 w1 w2 b), (sw_lo cT b 40 f)] sz) := by
  refine m_of (y := yX4_put) (cc := cX4_put) (nL := 4) (ret := (some .long)) (D := D) (cT := cT) (av := [.ref h0, .int x, .long v]) (wi := [(sw_4 h0 w0 w1 w2 b), (sw_lo cT b 40 f)]) (fun A => va_Ql (fun (r : Int64) (u : Nat → Int64) => (r = cutL w1.toInt v) ∧ (True)) (fun u t => RW D A ((fun u : Nat → Int64 => [(sw_4 h0 w0 w1 w2 b), (sw_lo cT b 40 u)]) u) t) A) (by decide) (Nat.le_of_ble_eq_true rfl) ?_
  intro p e s m below meth c A hx hb hml hown htg hK hN hr hlk hnm hsz hP hD hS hA ls hl
  have hown : s.vm.findClass RX4 = some m.cls := hown
  have hl : lv_has ls 4 [(0, .ref h0), (1, .int x), (2, .long v)] := hl
  refine lv_iload_n hx hb dX4_put_0 rfl (lv_at hl 1 rfl) ?_
  refine lv_if_lt (tgt := 12) hx hb dX4_put_1 (by decide) (fun c_1 => ?_) (fun c_1 => ?_)
  · have ic_1 : x.toInt < 0 := ilt c_1 (rfl) (by decide)
    refine lv_ldc2 (v := (-7)) hx hb hown (htg _ wi_1117) dX4_put_12 ?_
    exact x_lret hx hb hr hlk hP hD hS [0, 1] (f) rfl (by decide) ⟨(by exfalso; omega), trivial⟩ (by decide) (by decide) dX4_put_15
  · have ic_1 : 0 ≤ x.toInt := inlt c_1 (rfl) (by decide)
    refine lv_iload_n hx hb dX4_put_4 rfl (lv_at hl 1 rfl) ?_
    refine lv_aload_n hx hb dX4_put_5 rfl (lv_at hl 0 rfl) ?_
    refine va_get (D := D) (ci := 4) (v := .int w2) (C := RX4) (T := TX4) (N := 4) hx hb htg gRX4 hown hK hP 0 rfl rfl 2 (by decide) (htg _ wi_454) (fun _ h9 => h9) rfl dX4_put_6 ?_
    refine lv_icmp_lt (tgt := 16) hx hb dX4_put_9 (by decide) (fun c_2 => ?_) (fun c_2 => ?_)
    · have ic_2 : x.toInt < w2.toInt := ilt c_2 (rfl) (rfl)
      refine lv_aload_n hx hb dX4_put_16 rfl (lv_at hl 0 rfl) ?_
      refine va_get (D := D) (ci := 4) (v := .ref b) (C := RX4) (T := TX4) (N := 4) hx hb htg gRX4 hown hK hP 0 rfl rfl 3 (by decide) (htg _ wi_457) (fun _ h9 => h9) rfl dX4_put_17 ?_
      refine lv_iload_n hx hb dX4_put_20 rfl (lv_at hl 1 rfl) ?_
      refine lv_aload_n hx hb dX4_put_21 rfl (lv_at hl 0 rfl) ?_
      refine lv_lload_n hx hb dX4_put_22 rfl (lv_at hl 2 rfl) ?_
      refine xk_l (wr := [(sw_lo cT b 40 f)]) (xr_V (n := 1) (As := [.long v]) (rest := [.int x, .ref b]) ⟨hx, hb, hml, hown, htg⟩ hK hN hP hD hS hA [0] rfl (by decide) (g_cutR l D cT _ (h0) (b) (w0) (w1) (w2) (by first | assumption | decide | omega | (simp only [ti_0, ti_1, ti_2, ti_3, ti_4, ti_5, ti_6, ti_7, ti_8, ti_9, ti_10, ti_11, ti_12, ti_m1]; omega)) (v)) wi_1118 wi_1120 wi_77 wi_130 wi_1121 rfl rfl rfl ⟨rfl, by decide +kernel⟩ ⟨Nat.le_of_ble_eq_true rfl, Nat.le_of_ble_eq_true rfl⟩ rfl hl.1 rfl (Nat.le_of_ble_eq_true rfl) dX4_put_23 ⟨Nat.le_of_ble_eq_true rfl, Nat.le_of_ble_eq_true rfl⟩) hP hD hS hA [0] [1] rfl rfl (by decide) (by decide) (fun r_4 u_3 H locs hwr_4 hP hD hS => ?_)
      obtain ⟨hP, hD⟩ : PD D A [(sw_lo cT b 40 f), (sw_4 h0 w0 w1 w2 b)] _ := ⟨hP, hD⟩
      have qr_4_0 : r_4 = cutL w1.toInt v := hwr_4.1
      refine va_last hx hb hK hP hD hS 0 1 rfl rfl (vp_in_iff.mpr (by omega)) dX4_put_26 (fun H locs hP hD hS => ?_)
      obtain ⟨hP, hD⟩ : PD D A [(sw_lo cT b 40 (vp_updL (f) (x : Int32).toNatClampNeg (r_4))), (sw_4 h0 w0 w1 w2 b)] _ := ⟨hP, hD⟩
      refine lv_aload_n hx hb dX4_put_27 rfl (lv_at hl 0 rfl) ?_
      refine va_get (D := D) (ci := 4) (v := .ref b) (C := RX4) (T := TX4) (N := 4) hx hb htg gRX4 hown hK hP 1 rfl rfl 3 (by decide) (htg _ wi_457) (fun _ h9 => h9) rfl dX4_put_28 ?_
      refine lv_iload_n hx hb dX4_put_31 rfl (lv_at hl 1 rfl) ?_
      refine va_lald hx hb hK hP 0 1 rfl rfl (vp_in_iff.mpr (by omega)) dX4_put_32 ?_
      refine lv_topl (fun z_5 ez_5 => ?_)
      exact x_lret hx hb hr hlk hP hD hS [1, 0] (vp_updL (f) (x : Int32).toNatClampNeg (r_4)) rfl (by decide) ⟨(by first | (exfalso; omega) | (rw [ez_5, updL_eqI rfl rfl]; assumption)), trivial⟩ (by decide) (by decide) dX4_put_33
    · have ic_2 : w2.toInt ≤ x.toInt := inlt c_2 (rfl) (rfl)
      refine lv_ldc2 (v := (-7)) hx hb hown (htg _ wi_1117) dX4_put_12 ?_
      exact x_lret hx hb hr hlk hP hD hS [0, 1] (f) rfl (by decide) ⟨(by exfalso; omega), trivial⟩ (by decide) (by decide) dX4_put_15
