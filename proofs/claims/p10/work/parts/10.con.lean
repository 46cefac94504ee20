set_option maxHeartbeats 4000000 in
set_option maxRecDepth 100000 in
theorem g_fillI16 (l : Launch) (D : va_G) (cT : Nat → ClassId) (sz : Nat) (b : Nat) (f : Nat → Int32) (v : Int32) : Met l yJ7_fill_53178 (wsc yJ7_fill_53178 cJ7_fill_53178 4 none) { frames := 2, cells := 0, slots := 0, locals := 100 } (va_Pc [.ref b, .int v] (PX D cT sz [(sw_in cT b 16 f)])) (va_Qv (fun (u : Unit) => True) (fun u t => RW D (va_A [(sw_in cT b 16 f)] sz) ((fun _ : Unit => [(sw_in cT b 16 (fillF (f) 16 (v)))]) u) t) (va_A [(sw_in cT b 16 f)] sz)) 0 0 (va_A [(sw_in cT b 16 f)] sz) := by
  refine m_of (y := yJ7_fill_53178) (cc := cJ7_fill_53178) (nL := 4) (ret := none) (D := D) (cT := cT) (av := [.ref b, .int v]) (wi := [(sw_in cT b 16 f)]) (fun A => va_Qv (fun (u : Unit) => True) (fun u t => RW D A ((fun _ : Unit => [(sw_in cT b 16 (fillF (f) 16 (v)))]) u) t) A) (by decide) (Nat.le_of_ble_eq_true rfl) ?_
  intro p e s m below meth c A hx hb hml hown htg hK hN hr hlk hnm hsz hP hD hS hA ls hl
  have hown : s.vm.findClass RJ7 = some m.cls := hown
  have hl : lv_has ls 4 [(0, .ref b), (1, .int v)] := hl
  obtain ⟨hP, hD⟩ : PD D A [(sw_in cT b 16 (fillF (f) 0 (v)))] _ := ⟨hP, hD⟩
  refine lv_iconst (v := 0) hx hb dJ7_fill_53178_0 (by decide) ?_
  refine lv_istore_n (lv' := [(2, .int 0), (0, .ref b), (1, .int v)]) hx hb dJ7_fill_53178_1 rfl hl (by decide) rfl (fun ls hl => ?_)
  refine lv_aload_n hx hb dJ7_fill_53178_2 rfl (lv_at hl 1 rfl) ?_
  refine va_alen (v := 16) hx hb hK hP 0 0 rfl rfl rfl dJ7_fill_53178_3 ?_
  refine lv_istore_n (lv' := [(3, .int 16), (2, .int 0), (0, .ref b), (1, .int v)]) hx hb dJ7_fill_53178_4 rfl hl (by decide) rfl (fun ls hl => ?_)
  refine (fun (key : ∀ (n9_5 : Nat) (k9_5 : Nat)  (H : Heap) (locs : List Loc) (ls : Array Slot), (k9_5 : Int) ≤ 16 → 16 < (k9_5 : Int) + n9_5 → PD D A [(sw_in cT b 16 (fillF (f) k9_5 (v)))] H → va_S A s.heap H locs → lv_has ls 4 [(3, .int 16), (2, .int (nI k9_5)), (0, .ref b), (1, .int v)] → W p l e _ s m _ below meth c H locs _ _ _ (F0 m 5 ls [])) => key (Int.toNat (16 - 0) + 1) 0  _ _ _ (by omega) (by omega)  ⟨hP, hD⟩ hS (lv_sub hl [0, 1, 2, 3] rfl)) ?_
  intro n9_5
  induction n9_5 with
  | zero => intro k9_5  H locs ls hq1 hq2; exact absurd hq2 (by omega)
  | succ n9_5 ih_5 =>
    intro k9_5  H locs ls hq1_5 hq2_5  hPD hS hl
    obtain ⟨hP, hD⟩ := hPD
    have hk9_5 : (nI k9_5).toInt = (k9_5 : Int) := nI_toInt (by omega)
    refine lv_iload_n hx hb dJ7_fill_53178_5 rfl (lv_at hl 1 rfl) ?_
    refine lv_iload_n hx hb dJ7_fill_53178_6 rfl (lv_at hl 0 rfl) ?_
    refine lv_icmp_ge (tgt := 20) hx hb dJ7_fill_53178_7 (by decide) (fun c_1 => ?_) (fun c_1 => ?_)
    · have ic_1 : 16 ≤ ((k9_5 : Nat) : Int) := ile c_1 (by decide) (nI_toInt (by omega))
      have e8 : k9_5 = 16 := by omega
      subst e8
      exact x_vret hx hb hr hlk hP hD hS [0] (()) rfl (by decide) trivial (by decide) (by decide) dJ7_fill_53178_20
    · have ic_1 : ((k9_5 : Nat) : Int) < 16 := inle c_1 (by decide) (nI_toInt (by omega))
      refine lv_aload_n hx hb dJ7_fill_53178_10 rfl (lv_at hl 2 rfl) ?_
      refine lv_iload_n hx hb dJ7_fill_53178_11 rfl (lv_at hl 1 rfl) ?_
      refine lv_iload_n hx hb dJ7_fill_53178_12 rfl (lv_at hl 3 rfl) ?_
      refine va_iast hx hb hK hP hD hS 0 0 rfl rfl (vp_in_nI (by omega) (by omega)) dJ7_fill_53178_13 (fun H locs hP hD hS => ?_)
      have e9 : upd (fillF (f) k9_5 (v)) (nI k9_5).toNatClampNeg (v) = fillF (f) (k9_5 + 1) (v) := by rw [nI_clamp (by omega)]; exact fillF_s (f) k9_5 (v)
      have hP : va_P D classes [(sw_in cT b 16 (fillF (f) (k9_5 + 1) (v)))] H := by rw [← e9]; exact hP
      have hD : va_D A [(sw_in cT b 16 (fillF (f) (k9_5 + 1) (v)))] := by rw [← e9]; exact hD
      refine lv_iinc (v := (nI (k9_5 + 1))) (lv' := [(2, .int (nI (k9_5 + 1))), (3, .int 16), (0, .ref b), (1, .int v)]) hx hb dJ7_fill_53178_14 hl (k := 1) rfl (by exact nI_1 (k9_5)) (by decide) rfl (fun ls hl => ?_)
      refine lv_goto (tgt := 5) hx hb dJ7_fill_53178_17 (by decide) ?_
      exact ih_5 (k9_5 + 1)  _ _ _ (by omega) (by omega)  ⟨hP.sub [0] rfl, hD.sub [0] (by decide) rfl⟩ hS (lv_sub hl [1, 0, 2, 3] rfl)
set_option maxHeartbeats 4000000 in
set_option maxRecDepth 100000 in
theorem g_fillJ40 (l : Launch) (D : va_G) (cT : Nat → ClassId) (sz : Nat) (b : Nat) (f : Nat → Int64) (v : Int64) : Met l yJ7_fill_d0a16 (wsc yJ7_fill_d0a16 cJ7_fill_d0a16 5 none) { frames := 2, cells := 0, slots := 0, locals := 100 } (va_Pc [.ref b, .long v] (PX D cT sz [(sw_lo cT b 40 f)])) (va_Qv (fun (u : Unit) => True) (fun u t => RW D (va_A [(sw_lo cT b 40 f)] sz) ((fun _ : Unit => [(sw_lo cT b 40 (fillF (f) 40 (v)))]) u) t) (va_A [(sw_lo cT b 40 f)] sz)) 0 0 (va_A [(sw_lo cT b 40 f)] sz) := by
  refine m_of (y := yJ7_fill_d0a16) (cc := cJ7_fill_d0a16) (nL := 5) (ret := none) (D := D) (cT := cT) (av := [.ref b, .long v]) (wi := [(sw_lo cT b 40 f)]) (fun A => va_Qv (fun (u : Unit) => True) (fun u t => RW D A ((fun _ : Unit => [(sw_lo cT b 40 (fillF (f) 40 (v)))]) u) t) A) (by decide) (Nat.le_of_ble_eq_true rfl) ?_
  intro p e s m below meth c A hx hb hml hown htg hK hN hr hlk hnm hsz hP hD hS hA ls hl
  have hown : s.vm.findClass RJ7 = some m.cls := hown
  have hl : lv_has ls 5 [(0, .ref b), (1, .long v)] := hl
  obtain ⟨hP, hD⟩ : PD D A [(sw_lo cT b 40 (fillF (f) 0 (v)))] _ := ⟨hP, hD⟩
  refine lv_iconst (v := 0) hx hb dJ7_fill_d0a16_0 (by decide) ?_
  refine lv_istore_n (lv' := [(3, .int 0), (0, .ref b), (1, .long v)]) hx hb dJ7_fill_d0a16_1 rfl hl (by decide) rfl (fun ls hl => ?_)
  refine lv_aload_n hx hb dJ7_fill_d0a16_2 rfl (lv_at hl 1 rfl) ?_
  refine va_alen (v := 40) hx hb hK hP 0 1 rfl rfl rfl dJ7_fill_d0a16_3 ?_
  refine lv_istore (lv' := [(4, .int 40), (3, .int 0), (0, .ref b), (1, .long v)]) hx hb dJ7_fill_d0a16_4 hl (by decide) rfl (fun ls hl => ?_)
  refine (fun (key : ∀ (n9_6 : Nat) (k9_6 : Nat)  (H : Heap) (locs : List Loc) (ls : Array Slot), (k9_6 : Int) ≤ 40 → 40 < (k9_6 : Int) + n9_6 → PD D A [(sw_lo cT b 40 (fillF (f) k9_6 (v)))] H → va_S A s.heap H locs → lv_has ls 5 [(4, .int 40), (3, .int (nI k9_6)), (0, .ref b), (1, .long v)] → W p l e _ s m _ below meth c H locs _ _ _ (F0 m 6 ls [])) => key (Int.toNat (40 - 0) + 1) 0  _ _ _ (by omega) (by omega)  ⟨hP, hD⟩ hS (lv_sub hl [0, 1, 2, 3] rfl)) ?_
  intro n9_6
  induction n9_6 with
  | zero => intro k9_6  H locs ls hq1 hq2; exact absurd hq2 (by omega)
  | succ n9_6 ih_6 =>
    intro k9_6  H locs ls hq1_6 hq2_6  hPD hS hl
    obtain ⟨hP, hD⟩ := hPD
    have hk9_6 : (nI k9_6).toInt = (k9_6 : Int) := nI_toInt (by omega)
    refine lv_iload_n hx hb dJ7_fill_d0a16_6 rfl (lv_at hl 1 rfl) ?_
    refine lv_iload hx hb dJ7_fill_d0a16_7 (lv_at hl 0 rfl) ?_
    refine lv_icmp_ge (tgt := 22) hx hb dJ7_fill_d0a16_9 (by decide) (fun c_1 => ?_) (fun c_1 => ?_)
    · have ic_1 : 40 ≤ ((k9_6 : Nat) : Int) := ile c_1 (by decide) (nI_toInt (by omega))
      have e8 : k9_6 = 40 := by omega
      subst e8
      exact x_vret hx hb hr hlk hP hD hS [0] (()) rfl (by decide) trivial (by decide) (by decide) dJ7_fill_d0a16_22
    · have ic_1 : ((k9_6 : Nat) : Int) < 40 := inle c_1 (by decide) (nI_toInt (by omega))
      refine lv_aload_n hx hb dJ7_fill_d0a16_12 rfl (lv_at hl 2 rfl) ?_
      refine lv_iload_n hx hb dJ7_fill_d0a16_13 rfl (lv_at hl 1 rfl) ?_
      refine lv_lload_n hx hb dJ7_fill_d0a16_14 rfl (lv_at hl 3 rfl) ?_
      refine va_last hx hb hK hP hD hS 0 1 rfl rfl (vp_in_nI (by omega) (by omega)) dJ7_fill_d0a16_15 (fun H locs hP hD hS => ?_)
      have e9 : vp_updL (fillF (f) k9_6 (v)) (nI k9_6).toNatClampNeg (v) = fillF (f) (k9_6 + 1) (v) := by rw [nI_clamp (by omega)]; exact fillF_sL (f) k9_6 (v)
      have hP : va_P D classes [(sw_lo cT b 40 (fillF (f) (k9_6 + 1) (v)))] H := by rw [← e9]; exact hP
      have hD : va_D A [(sw_lo cT b 40 (fillF (f) (k9_6 + 1) (v)))] := by rw [← e9]; exact hD
      refine lv_iinc (v := (nI (k9_6 + 1))) (lv' := [(3, .int (nI (k9_6 + 1))), (4, .int 40), (0, .ref b), (1, .long v)]) hx hb dJ7_fill_d0a16_16 hl (k := 1) rfl (by exact nI_1 (k9_6)) (by decide) rfl (fun ls hl => ?_)
      refine lv_goto (tgt := 6) hx hb dJ7_fill_d0a16_19 (by decide) ?_
      exact ih_6 (k9_6 + 1)  _ _ _ (by omega) (by omega)  ⟨hP.sub [0] rfl, hD.sub [0] (by decide) rfl⟩ hS (lv_sub hl [1, 0, 2, 3] rfl)
set_option maxHeartbeats 4000000 in
set_option maxRecDepth 100000 in
theorem g_cut (l : Launch) (D : va_G) (cT : Nat → ClassId) (sz : Nat) (h0 : Nat) (b : Nat) (w0 : Int32) (w1 : Int32) (w2 : Int32) (hw2 : 0 ≤ w2.toInt ∧ w2.toInt ≤ 40) (v : Int64) : Met l yX4_cut (wsc yX4_cut cX4_cut 3 (some .long)) { frames := 2, cells := 0, slots := 0, locals := 100 } (va_Pc [.ref h0, .long v] (PX D cT sz [(sw_4 h0 w0 w1 w2 b)])) (va_Ql (fun (r : Int64) (u : Unit) => True) (fun u t => RW D (va_A [(sw_4 h0 w0 w1 w2 b)] sz) ((fun _ : Unit => [(sw_4 h0 w0 w1 w2 b)]) u) t) (va_A [(sw_4 h0 w0 w1 w2 b)] sz)) 0 0 (va_A [(sw_4 h0 w0 w1 w2 b)] sz) := by
  refine m_of (y := yX4_cut) (cc := cX4_cut) (nL := 3) (ret := (some .long)) (D := D) (cT := cT) (av := [.ref h0, .long v]) (wi := [(sw_4 h0 w0 w1 w2 b)]) (fun A => va_Ql (fun (r : Int64) (u : Unit) => True) (fun u t => RW D A ((fun _ : Unit => [(sw_4 h0 w0 w1 w2 b)]) u) t) A) (by decide) (Nat.le_of_ble_eq_true rfl) ?_
  intro p e s m below meth c A hx hb hml hown htg hK hN hr hlk hnm hsz hP hD hS hA ls hl
  have hown : s.vm.findClass RX4 = some m.cls := hown
  have hl : lv_has ls 3 [(0, .ref h0), (1, .long v)] := hl
  refine lv_aload_n hx hb dX4_cut_0 rfl (lv_at hl 0 rfl) ?_
  refine va_get (D := D) (ci := 4) (v := .int w1) (C := RX4) (T := TX4) (N := 4) hx hb htg gRX4 hown hK hP 0 rfl rfl 1 (by decide) (htg _ wi_453) (fun _ h9 => h9) rfl dX4_cut_1 ?_
  have c_1 : (w1.toInt < 0 ∨ 2 < w1.toInt) ∨ w1 = 0 ∨ w1 = 1 ∨ w1 = 2 := by
    rcases (show (w1.toInt < 0 ∨ 2 < w1.toInt) ∨ w1.toInt = 0 ∨ w1.toInt = 1 ∨ w1.toInt = 2 from by omega) with h | h | h | h
    · exact Or.inl h
    · exact Or.inr (Or.inl (i32_is (h.trans (by decide))))
    · exact Or.inr (Or.inr (Or.inl (i32_is (h.trans (by decide)))))
    · exact Or.inr (Or.inr (Or.inr (i32_is (h.trans (by decide)))))
  rcases c_1 with c_1 | c_1 | c_1 | c_1
  · refine lv_tableOut (tgt := 46) hx hb dX4_cut_4 c_1 (by decide) ?_
    refine lv_lload_n hx hb dX4_cut_46 rfl (lv_at hl 1 rfl) ?_
    exact x_lret hx hb hr hlk hP hD hS [0] (()) rfl (by decide) trivial (by decide) (by decide) dX4_cut_47
  · have ic_1 : w1.toInt = 0 := ieq c_1 rfl (by decide)
    refine lv_is (y := 0) c_1 ?_
    refine lv_tableIn (off := 28) (tgt := 32) hx hb dX4_cut_4 (by decide) (by decide) (by decide) (by decide) ?_
    refine lv_lload_n hx hb dX4_cut_32 rfl (lv_at hl 1 rfl) ?_
    obtain ⟨z_2, ez_2⟩ : ∃ w : Int32, w = v.toInt32 := ⟨_, rfl⟩
    refine lv_l2i (v := z_2) hx hb dX4_cut_33 ez_2.symm ?_
    obtain ⟨z_3, ez_3⟩ : ∃ w : Int32, w = z_2.toInt8.toInt32 := ⟨_, rfl⟩
    refine lv_i2b (v := z_3) hx hb dX4_cut_34 ez_3.symm ?_
    refine lv_i2l (v := z_3.toInt64) hx hb dX4_cut_35 rfl ?_
    exact x_lret hx hb hr hlk hP hD hS [0] (()) rfl (by decide) trivial (by decide) (by decide) dX4_cut_36
  · have ic_1 : w1.toInt = 1 := ieq c_1 rfl (by decide)
    refine lv_is (y := 1) c_1 ?_
    refine lv_tableIn (off := 33) (tgt := 37) hx hb dX4_cut_4 (by decide) (by decide) (by decide) (by decide) ?_
    refine lv_lload_n hx hb dX4_cut_37 rfl (lv_at hl 1 rfl) ?_
    obtain ⟨z_4, ez_4⟩ : ∃ w : Int32, w = v.toInt32 := ⟨_, rfl⟩
    refine lv_l2i (v := z_4) hx hb dX4_cut_38 ez_4.symm ?_
    obtain ⟨z_5, ez_5⟩ : ∃ w : Int32, w = z_4.toInt16.toInt32 := ⟨_, rfl⟩
    refine lv_i2s (v := z_5) hx hb dX4_cut_39 ez_5.symm ?_
    refine lv_i2l (v := z_5.toInt64) hx hb dX4_cut_40 rfl ?_
    exact x_lret hx hb hr hlk hP hD hS [0] (()) rfl (by decide) trivial (by decide) (by decide) dX4_cut_41
  · have ic_1 : w1.toInt = 2 := ieq c_1 rfl (by decide)
    refine lv_is (y := 2) c_1 ?_
    refine lv_tableIn (off := 38) (tgt := 42) hx hb dX4_cut_4 (by decide) (by decide) (by decide) (by decide) ?_
    refine lv_lload_n hx hb dX4_cut_42 rfl (lv_at hl 1 rfl) ?_
    obtain ⟨z_6, ez_6⟩ : ∃ w : Int32, w = v.toInt32 := ⟨_, rfl⟩
    refine lv_l2i (v := z_6) hx hb dX4_cut_43 ez_6.symm ?_
    refine lv_i2l (v := z_6.toInt64) hx hb dX4_cut_44 rfl ?_
    exact x_lret hx hb hr hlk hP hD hS [0] (()) rfl (by decide) trivial (by decide) (by decide) dX4_cut_45
set_option maxHeartbeats 4000000 in
set_option maxRecDepth 100000 in
theorem g_put (l : Launch) (D : va_G) (cT : Nat → ClassId) (sz : Nat) (h0 : Nat) (b : Nat) (w0 : Int32) (w1 : Int32) (w2 : Int32) (hw2 : 0 ≤ w2.toInt ∧ w2.toInt ≤ 40) (f : Nat → Int64) (x : Int32) (v : Int64) : Met l yX4_put (wsc yX4_put cX4_put 4 (some .long)) { frames := 3, cells := 0, slots := 0, locals := 122 } (va_Pc [.ref h0, .int x, .long v] (PX D cT sz [(sw_4 h0 w0 w1 w2 b), (sw_lo cT b 40 f)])) (va_Ql (fun (r : Int64) (u : Nat → Int64) => True) (fun u t => RW D (va_A [(sw_4 h0 w0 w1 w2 b), (sw_lo cT b 40 f)] sz) ((fun u : Nat → Int64 => [(sw_4 h0 w0 w1 w2 b), (sw_lo cT b 40 u)]) u) t) (va_A [(sw_4 h0 w0 w1 w2 b), (sw_lo cT b 40 f)] sz)) 0 0 (va_A [(sw_4 h0 w0 w1 w2 b), (sw_lo cT b 40 f)] sz) := by
  refine m_of (y := yX4_put) (cc := cX4_put) (nL := 4) (ret := (some .long)) (D := D) (cT := cT) (av := [.ref h0, .int x, .long v]) (wi := [(sw_4 h0 w0 w1 w2 b), (sw_lo cT b 40 f)]) (fun A => va_Ql (fun (r : Int64) (u : Nat → Int64) => True) (fun u t => RW D A ((fun u : Nat → Int64 => [(sw_4 h0 w0 w1 w2 b), (sw_lo cT b 40 u)]) u) t) A) (by decide) (Nat.le_of_ble_eq_true rfl) ?_
  intro p e s m below meth c A hx hb hml hown htg hK hN hr hlk hnm hsz hP hD hS hA ls hl
  have hown : s.vm.findClass RX4 = some m.cls := hown
  have hl : lv_has ls 4 [(0, .ref h0), (1, .int x), (2, .long v)] := hl
  refine lv_iload_n hx hb dX4_put_0 rfl (lv_at hl 1 rfl) ?_
  refine lv_if_lt (tgt := 12) hx hb dX4_put_1 (by decide) (fun c_1 => ?_) (fun c_1 => ?_)
  · have ic_1 : x.toInt < 0 := ilt c_1 (rfl) (by decide)
    refine lv_ldc2 (v := (-7)) hx hb hown (htg _ wi_1117) dX4_put_12 ?_
    exact x_lret hx hb hr hlk hP hD hS [0, 1] (f) rfl (by decide) trivial (by decide) (by decide) dX4_put_15
  · have ic_1 : 0 ≤ x.toInt := inlt c_1 (rfl) (by decide)
    refine lv_iload_n hx hb dX4_put_4 rfl (lv_at hl 1 rfl) ?_
    refine lv_aload_n hx hb dX4_put_5 rfl (lv_at hl 0 rfl) ?_
    refine va_get (D := D) (ci := 4) (v := .int w2) (C := RX4) (T := TX4) (N := 4) hx hb htg gRX4 hown hK hP 0 rfl rfl 2 (by decide) (htg _ wi_454) (fun _ h9 => h9) rfl dX4_put_6 ?_
    refine lv_icmp_lt (tgt := 16) hx hb dX4_put_9 (by decide) (fun c_2 => ?_) (fun c_2 => ?_)
    · have ic_2 : x.toInt < w2.toInt := ilt c_2 (rfl) (rfl)
      refine lv_aload_n hx hb dX4_put_16 rfl (lv_at hl 0 rfl) ?_
      refine va_get (D := D) (ci := 4) (v := .ref b) (C := RX4) (T := TX4) (N := 4) hx hb htg gRX4 hown hK hP 0 rfl rfl 3 (by decide) (htg _ wi_457) (fun _ h9 => h9) rfl dX4_put_17 ?_
      refine lv_iload_n hx hb dX4_put_20 rfl (lv_at hl 1 rfl) ?_
      refine lv_aload_n hx hb dX4_put_21 rfl (lv_at hl 0 rfl) ?_
      refine lv_lload_n hx hb dX4_put_22 rfl (lv_at hl 2 rfl) ?_
      refine xk_l (wr := [(sw_lo cT b 40 f)]) (xr_V (n := 1) (As := [.long v]) (rest := [.int x, .ref b]) ⟨hx, hb, hml, hown, htg⟩ hK hN hP hD hS hA [0] rfl (by decide) (g_cut l D cT _ (h0) (b) (w0) (w1) (w2) (by first | assumption | decide | omega | (simp only [ti_0, ti_1, ti_2, ti_3, ti_4, ti_5, ti_6, ti_7, ti_8, ti_9, ti_10, ti_11, ti_12, ti_m1]; omega)) (v)) wi_1118 wi_1120 wi_77 wi_130 wi_1121 rfl rfl rfl ⟨rfl, by decide +kernel⟩ ⟨Nat.le_of_ble_eq_true rfl, Nat.le_of_ble_eq_true rfl⟩ rfl hl.1 rfl (Nat.le_of_ble_eq_true rfl) dX4_put_23 ⟨Nat.le_of_ble_eq_true rfl, Nat.le_of_ble_eq_true rfl⟩) hP hD hS hA [0] [1] rfl rfl (by decide) (by decide) (fun r_4 u_3 H locs hwr_4 hP hD hS => ?_)
      obtain ⟨hP, hD⟩ : PD D A [(sw_lo cT b 40 f), (sw_4 h0 w0 w1 w2 b)] _ := ⟨hP, hD⟩
      refine va_last hx hb hK hP hD hS 0 1 rfl rfl (vp_in_iff.mpr (by omega)) dX4_put_26 (fun H locs hP hD hS => ?_)
      obtain ⟨f_5, hP, hD⟩ : ∃ f_5 : Nat → Int64, PD D A [(sw_lo cT b 40 f_5), (sw_4 h0 w0 w1 w2 b)] H := ⟨_, hP, hD⟩
      refine lv_aload_n hx hb dX4_put_27 rfl (lv_at hl 0 rfl) ?_
      refine va_get (D := D) (ci := 4) (v := .ref b) (C := RX4) (T := TX4) (N := 4) hx hb htg gRX4 hown hK hP 1 rfl rfl 3 (by decide) (htg _ wi_457) (fun _ h9 => h9) rfl dX4_put_28 ?_
      refine lv_iload_n hx hb dX4_put_31 rfl (lv_at hl 1 rfl) ?_
      refine va_lald hx hb hK hP 0 1 rfl rfl (vp_in_iff.mpr (by omega)) dX4_put_32 ?_
      refine lv_topl (fun z_6 ez_6 => ?_)
      exact x_lret hx hb hr hlk hP hD hS [1, 0] (f_5) rfl (by decide) trivial (by decide) (by decide) dX4_put_33
    · have ic_2 : w2.toInt ≤ x.toInt := inlt c_2 (rfl) (rfl)
      refine lv_ldc2 (v := (-7)) hx hb hown (htg _ wi_1117) dX4_put_12 ?_
      exact x_lret hx hb hr hlk hP hD hS [0, 1] (f) rfl (by decide) trivial (by decide) (by decide) dX4_put_15
set_option maxHeartbeats 4000000 in
set_option maxRecDepth 100000 in
theorem g_areStrips (l : Launch) (D : va_G) (cT : Nat → ClassId) (sz : Nat) (h0 : Nat) (a : Nat → Nat) (p0 : Int32) (p1 : Int32) (p2 : Int32) (p3 : Int32) (p4 : Int32) (p5 : Int32) (p6 : Int32) (p7 : Int32) (p8 : Int32) (p9 : Int32) (x : Int32) : Met l yX3_areStrips (wsc yX3_areStrips cX3_areStrips 2 (some .boolean)) { frames := 3, cells := 0, slots := 0, locals := 120 } (va_Pc [.ref h0, .int x] (PX D cT sz [(sw_3 h0 p0 p1 p2 p3 p4 p5 p6 p7 p8 p9 (a 0) (a 1) (a 2) (a 3) (a 4) (a 5))])) (va_Qi (fun (r : Int32) (u : Unit) => True) (fun u t => RW D (va_A [(sw_3 h0 p0 p1 p2 p3 p4 p5 p6 p7 p8 p9 (a 0) (a 1) (a 2) (a 3) (a 4) (a 5))] sz) ((fun _ : Unit => [(sw_3 h0 p0 p1 p2 p3 p4 p5 p6 p7 p8 p9 (a 0) (a 1) (a 2) (a 3) (a 4) (a 5))]) u) t) (va_A [(sw_3 h0 p0 p1 p2 p3 p4 p5 p6 p7 p8 p9 (a 0) (a 1) (a 2) (a 3) (a 4) (a 5))] sz)) 0 0 (va_A [(sw_3 h0 p0 p1 p2 p3 p4 p5 p6 p7 p8 p9 (a 0) (a 1) (a 2) (a 3) (a 4) (a 5))] sz) := by
  refine m_of (y := yX3_areStrips) (cc := cX3_areStrips) (nL := 2) (ret := (some .boolean)) (D := D) (cT := cT) (av := [.ref h0, .int x]) (wi := [(sw_3 h0 p0 p1 p2 p3 p4 p5 p6 p7 p8 p9 (a 0) (a 1) (a 2) (a 3) (a 4) (a 5))]) (fun A => va_Qi (fun (r : Int32) (u : Unit) => True) (fun u t => RW D A ((fun _ : Unit => [(sw_3 h0 p0 p1 p2 p3 p4 p5 p6 p7 p8 p9 (a 0) (a 1) (a 2) (a 3) (a 4) (a 5))]) u) t) A) (by decide) (Nat.le_of_ble_eq_true rfl) ?_
  intro p e s m below meth c A hx hb hml hown htg hK hN hr hlk hnm hsz hP hD hS hA ls hl
  have hown : s.vm.findClass RX3 = some m.cls := hown
  have hl : lv_has ls 2 [(0, .ref h0), (1, .int x)] := hl
  refine lv_iload_n hx hb dX3_areStrips_0 rfl (lv_at hl 1 rfl) ?_
  refine lv_aload_n hx hb dX3_areStrips_1 rfl (lv_at hl 0 rfl) ?_
  refine xk_i (wr := []) (xr_V (n := 0) (As := []) (rest := [.int x]) ⟨hx, hb, hml, hown, htg⟩ hK hN hP hD hS hA [0] rfl (by decide) (g_allStrips l D cT _ (h0) (a) (p0) (p1) (p2) (p3) (p4) (p5) (p6) (p7) (p8) (p9)) wi_737 wi_739 wi_28 wi_123 wi_740 rfl rfl rfl ⟨rfl, by decide +kernel⟩ ⟨Nat.le_of_ble_eq_true rfl, Nat.le_of_ble_eq_true rfl⟩ rfl hl.1 rfl (Nat.le_of_ble_eq_true rfl) dX3_areStrips_2 ⟨Nat.le_of_ble_eq_true rfl, Nat.le_of_ble_eq_true rfl⟩) hP hD hS hA [0] [] rfl rfl (by decide) (by decide) (fun r_2 u_1 H locs hwr_2 hP hD hS => ?_)
  obtain ⟨hP, hD⟩ : PD D A [(sw_3 h0 p0 p1 p2 p3 p4 p5 p6 p7 p8 p9 (a 0) (a 1) (a 2) (a 3) (a 4) (a 5))] _ := ⟨hP, hD⟩
  refine lv_iconst (v := (-1)) hx hb dX3_areStrips_5 (by decide) ?_
  refine lv_ixor hx hb dX3_areStrips_6 ?_
  refine lv_topi (fun z_3 ez_3 => ?_)
  refine lv_iand hx hb dX3_areStrips_7 ?_
  refine lv_topi (fun z_4 ez_4 => ?_)
  refine lv_if_ne (tgt := 15) hx hb dX3_areStrips_8 (by decide) (fun c_5 => ?_) (fun c_5 => ?_)
  · have ic_5 : ¬ z_4.toInt = 0 := ine c_5 (rfl) (by decide)
    refine lv_iconst (v := 0) hx hb dX3_areStrips_15 (by decide) ?_
    exact x_zret hx hb hr hlk hP hD hS [0] (()) rfl (by decide) rfl trivial (by decide) (by decide) dX3_areStrips_16
  · have ic_5 : z_4.toInt = 0 := ieq c_5 (rfl) (by decide)
    refine lv_iconst (v := 1) hx hb dX3_areStrips_11 (by decide) ?_
    refine lv_goto (tgt := 16) hx hb dX3_areStrips_12 (by decide) ?_
    exact x_zret hx hb hr hlk hP hD hS [0] (()) rfl (by decide) rfl trivial (by decide) (by decide) dX3_areStrips_16
set_option maxHeartbeats 4000000 in
set_option maxRecDepth 100000 in
theorem g_sumOfFarm (l : Launch) (D : va_G) (cT : Nat → ClassId) (sz : Nat) (h0 : Nat) (a : Nat → Nat) (p0 : Int32) (p1 : Int32) (p2 : Int32) (p3 : Int32) (p4 : Int32) (p5 : Int32) (p6 : Int32) (p7 : Int32) (p8 : Int32) (p9 : Int32) (hs : 0 ≤ p0.toInt ∧ p0.toInt ≤ 16) (b : Nat) (f : Nat → Int32) (x : Int32) (f3 : Nat → Int32) : Met l yX3_sumOfFarm (wsc yX3_sumOfFarm cX3_sumOfFarm 5 (some .int)) { frames := 2, cells := 0, slots := 0, locals := 100 } (va_Pc [.ref h0, .ref b, .int x] (PX D cT sz [(sw_3 h0 p0 p1 p2 p3 p4 p5 p6 p7 p8 p9 (a 0) (a 1) (a 2) (a 3) (a 4) (a 5)), (sw_in cT b 16 f), (sw_in cT (a 3) 16 f3)])) (va_Qi (fun (r : Int32) (u : Unit) => True) (fun u t => RW D (va_A [(sw_3 h0 p0 p1 p2 p3 p4 p5 p6 p7 p8 p9 (a 0) (a 1) (a 2) (a 3) (a 4) (a 5)), (sw_in cT b 16 f), (sw_in cT (a 3) 16 f3)] sz) ((fun _ : Unit => [(sw_3 h0 p0 p1 p2 p3 p4 p5 p6 p7 p8 p9 (a 0) (a 1) (a 2) (a 3) (a 4) (a 5)), (sw_in cT b 16 f), (sw_in cT (a 3) 16 f3)]) u) t) (va_A [(sw_3 h0 p0 p1 p2 p3 p4 p5 p6 p7 p8 p9 (a 0) (a 1) (a 2) (a 3) (a 4) (a 5)), (sw_in cT b 16 f), (sw_in cT (a 3) 16 f3)] sz)) 0 0 (va_A [(sw_3 h0 p0 p1 p2 p3 p4 p5 p6 p7 p8 p9 (a 0) (a 1) (a 2) (a 3) (a 4) (a 5)), (sw_in cT b 16 f), (sw_in cT (a 3) 16 f3)] sz) := by
  refine m_of (y := yX3_sumOfFarm) (cc := cX3_sumOfFarm) (nL := 5) (ret := (some .int)) (D := D) (cT := cT) (av := [.ref h0, .ref b, .int x]) (wi := [(sw_3 h0 p0 p1 p2 p3 p4 p5 p6 p7 p8 p9 (a 0) (a 1) (a 2) (a 3) (a 4) (a 5)), (sw_in cT b 16 f), (sw_in cT (a 3) 16 f3)]) (fun A => va_Qi (fun (r : Int32) (u : Unit) => True) (fun u t => RW D A ((fun _ : Unit => [(sw_3 h0 p0 p1 p2 p3 p4 p5 p6 p7 p8 p9 (a 0) (a 1) (a 2) (a 3) (a 4) (a 5)), (sw_in cT b 16 f), (sw_in cT (a 3) 16 f3)]) u) t) A) (by decide) (Nat.le_of_ble_eq_true rfl) ?_
  intro p e s m below meth c A hx hb hml hown htg hK hN hr hlk hnm hsz hP hD hS hA ls hl
  have hown : s.vm.findClass RX3 = some m.cls := hown
  have hl : lv_has ls 5 [(0, .ref h0), (1, .ref b), (2, .int x)] := hl
  refine lv_iconst (v := 0) hx hb dX3_sumOfFarm_0 (by decide) ?_
  refine lv_istore_n (lv' := [(3, .int 0), (0, .ref h0), (1, .ref b), (2, .int x)]) hx hb dX3_sumOfFarm_1 rfl hl (by decide) rfl (fun ls hl => ?_)
  refine lv_iconst (v := 0) hx hb dX3_sumOfFarm_2 (by decide) ?_
  refine lv_istore (lv' := [(4, .int 0), (3, .int 0), (0, .ref h0), (1, .ref b), (2, .int x)]) hx hb dX3_sumOfFarm_3 hl (by decide) rfl (fun ls hl => ?_)
  refine (fun (key : ∀ (n9_5 : Nat) (k9_5 : Nat) (x9_5_3 : Int32) (H : Heap) (locs : List Loc) (ls : Array Slot), (k9_5 : Int) ≤ p0.toInt → p0.toInt < (k9_5 : Int) + n9_5 → PD D A [(sw_3 h0 p0 p1 p2 p3 p4 p5 p6 p7 p8 p9 (a 0) (a 1) (a 2) (a 3) (a 4) (a 5)), (sw_in cT b 16 f), (sw_in cT (a 3) 16 f3)] H → va_S A s.heap H locs → lv_has ls 5 [(4, .int (nI k9_5)), (3, .int x9_5_3), (0, .ref h0), (1, .ref b), (2, .int x)] → W p l e _ s m _ below meth c H locs _ _ _ (F0 m 5 ls [])) => key (Int.toNat (p0.toInt - 0) + 1) 0 _ _ _ _ (by omega) (by omega)  ⟨hP, hD⟩ hS (lv_sub hl [0, 1, 2, 3, 4] rfl)) ?_
  intro n9_5
  induction n9_5 with
  | zero => intro k9_5 x9_5_3 H locs ls hq1 hq2; exact absurd hq2 (by omega)
  | succ n9_5 ih_5 =>
    intro k9_5 x9_5_3 H locs ls hq1_5 hq2_5  hPD hS hl
    obtain ⟨hP, hD⟩ := hPD
    have hk9_5 : (nI k9_5).toInt = (k9_5 : Int) := nI_toInt (by omega)
    refine lv_iload hx hb dX3_sumOfFarm_5 (lv_at hl 0 rfl) ?_
    refine lv_aload_n hx hb dX3_sumOfFarm_7 rfl (lv_at hl 2 rfl) ?_
    refine va_get (D := D) (ci := 3) (v := .int p0) (C := RX3) (T := TX3) (N := 16) hx hb htg gRX3 hown hK hP 0 rfl rfl 0 (by decide) (htg _ wi_166) (fun _ h9 => h9) rfl dX3_sumOfFarm_8 ?_
    refine lv_icmp_ge (tgt := 38) hx hb dX3_sumOfFarm_11 (by decide) (fun c_1 => ?_) (fun c_1 => ?_)
    · have ic_1 : p0.toInt ≤ ((k9_5 : Nat) : Int) := ile c_1 (rfl) (nI_toInt (by omega))
      refine lv_iload_n hx hb dX3_sumOfFarm_38 rfl (lv_at hl 1 rfl) ?_
      exact x_iret hx hb hr hlk hP hD hS [0, 1, 2] (()) rfl (by decide) trivial (by decide) (by decide) dX3_sumOfFarm_39
    · have ic_1 : ((k9_5 : Nat) : Int) < p0.toInt := inle c_1 (rfl) (nI_toInt (by omega))
      refine lv_aload_n hx hb dX3_sumOfFarm_14 rfl (lv_at hl 2 rfl) ?_
      refine va_get (D := D) (ci := 3) (v := .ref (a 3)) (C := RX3) (T := TX3) (N := 16) hx hb htg gRX3 hown hK hP 0 rfl rfl 13 (by decide) (htg _ wi_208) (fun _ h9 => h9) rfl dX3_sumOfFarm_15 ?_
      refine lv_iload hx hb dX3_sumOfFarm_18 (lv_at hl 0 rfl) ?_
      refine va_iald hx hb hK hP 2 0 rfl rfl (vp_in_nI (by omega) (by omega)) dX3_sumOfFarm_20 ?_
      refine lv_topi (fun z_2 ez_2 => ?_)
      refine lv_iload_n hx hb dX3_sumOfFarm_21 rfl (lv_at hl 4 rfl) ?_
      refine lv_icmp_ne (tgt := 32) hx hb dX3_sumOfFarm_22 (by decide) (fun c_3 => ?_) (fun c_3 => ?_)
      · have ic_3 : ¬ z_2.toInt = x.toInt := ine c_3 (rfl) (rfl)
        refine lv_iinc (v := (nI (k9_5 + 1))) (lv' := [(4, .int (nI (k9_5 + 1))), (3, .int x9_5_3), (0, .ref h0), (1, .ref b), (2, .int x)]) hx hb dX3_sumOfFarm_32 hl (k := 0) rfl (by exact nI_1 (k9_5)) (by decide) rfl (fun ls hl => ?_)
        refine lv_goto (tgt := 5) hx hb dX3_sumOfFarm_35 (by decide) ?_
        exact ih_5 (k9_5 + 1) _ _ _ _ (by omega) (by omega)  ⟨hP.sub [0, 1, 2] rfl, hD.sub [0, 1, 2] (by decide) rfl⟩ hS (lv_sub hl [0, 1, 2, 3, 4] rfl)
      · have ic_3 : z_2.toInt = x.toInt := ieq c_3 (rfl) (rfl)
        refine lv_iload_n hx hb dX3_sumOfFarm_25 rfl (lv_at hl 1 rfl) ?_
        refine lv_aload_n hx hb dX3_sumOfFarm_26 rfl (lv_at hl 3 rfl) ?_
        refine lv_iload hx hb dX3_sumOfFarm_27 (lv_at hl 0 rfl) ?_
        refine va_iald hx hb hK hP 1 0 rfl rfl (vp_in_nI (by omega) (by omega)) dX3_sumOfFarm_29 ?_
        refine lv_topi (fun z_4 ez_4 => ?_)
        refine lv_iadd hx hb dX3_sumOfFarm_30 ?_
        refine lv_topi (fun z_5 ez_5 => ?_)
        refine lv_istore_n (lv' := [(3, .int z_5), (4, .int (nI k9_5)), (0, .ref h0), (1, .ref b), (2, .int x)]) hx hb dX3_sumOfFarm_31 rfl hl (by decide) rfl (fun ls hl => ?_)
        refine lv_iinc (v := (nI (k9_5 + 1))) (lv' := [(4, .int (nI (k9_5 + 1))), (3, .int z_5), (0, .ref h0), (1, .ref b), (2, .int x)]) hx hb dX3_sumOfFarm_32 hl (k := 1) rfl (by exact nI_1 (k9_5)) (by decide) rfl (fun ls hl => ?_)
        refine lv_goto (tgt := 5) hx hb dX3_sumOfFarm_35 (by decide) ?_
        exact ih_5 (k9_5 + 1) _ _ _ _ (by omega) (by omega)  ⟨hP.sub [0, 1, 2] rfl, hD.sub [0, 1, 2] (by decide) rfl⟩ hS (lv_sub hl [0, 1, 2, 3, 4] rfl)
set_option maxHeartbeats 4000000 in
set_option maxRecDepth 100000 in
theorem g_stripsOfFarm (l : Launch) (D : va_G) (cT : Nat → ClassId) (sz : Nat) (h0 : Nat) (a : Nat → Nat) (p0 : Int32) (p1 : Int32) (p2 : Int32) (p3 : Int32) (p4 : Int32) (p5 : Int32) (p6 : Int32) (p7 : Int32) (p8 : Int32) (p9 : Int32) (hs : 0 ≤ p0.toInt ∧ p0.toInt ≤ 16) (x : Int32) (f3 : Nat → Int32) : Met l yX3_stripsOfFarm (wsc yX3_stripsOfFarm cX3_stripsOfFarm 4 (some .int)) { frames := 2, cells := 0, slots := 0, locals := 100 } (va_Pc [.ref h0, .int x] (PX D cT sz [(sw_3 h0 p0 p1 p2 p3 p4 p5 p6 p7 p8 p9 (a 0) (a 1) (a 2) (a 3) (a 4) (a 5)), (sw_in cT (a 3) 16 f3)])) (va_Qi (fun (r : Int32) (u : Unit) => True) (fun u t => RW D (va_A [(sw_3 h0 p0 p1 p2 p3 p4 p5 p6 p7 p8 p9 (a 0) (a 1) (a 2) (a 3) (a 4) (a 5)), (sw_in cT (a 3) 16 f3)] sz) ((fun _ : Unit => [(sw_3 h0 p0 p1 p2 p3 p4 p5 p6 p7 p8 p9 (a 0) (a 1) (a 2) (a 3) (a 4) (a 5)), (sw_in cT (a 3) 16 f3)]) u) t) (va_A [(sw_3 h0 p0 p1 p2 p3 p4 p5 p6 p7 p8 p9 (a 0) (a 1) (a 2) (a 3) (a 4) (a 5)), (sw_in cT (a 3) 16 f3)] sz)) 0 0 (va_A [(sw_3 h0 p0 p1 p2 p3 p4 p5 p6 p7 p8 p9 (a 0) (a 1) (a 2) (a 3) (a 4) (a 5)), (sw_in cT (a 3) 16 f3)] sz) := by
  refine m_of (y := yX3_stripsOfFarm) (cc := cX3_stripsOfFarm) (nL := 4) (ret := (some .int)) (D := D) (cT := cT) (av := [.ref h0, .int x]) (wi := [(sw_3 h0 p0 p1 p2 p3 p4 p5 p6 p7 p8 p9 (a 0) (a 1) (a 2) (a 3) (a 4) (a 5)), (sw_in cT (a 3) 16 f3)]) (fun A => va_Qi (fun (r : Int32) (u : Unit) => True) (fun u t => RW D A ((fun _ : Unit => [(sw_3 h0 p0 p1 p2 p3 p4 p5 p6 p7 p8 p9 (a 0) (a 1) (a 2) (a 3) (a 4) (a 5)), (sw_in cT (a 3) 16 f3)]) u) t) A) (by decide) (Nat.le_of_ble_eq_true rfl) ?_
  intro p e s m below meth c A hx hb hml hown htg hK hN hr hlk hnm hsz hP hD hS hA ls hl
  have hown : s.vm.findClass RX3 = some m.cls := hown
  have hl : lv_has ls 4 [(0, .ref h0), (1, .int x)] := hl
  refine lv_iconst (v := 0) hx hb dX3_stripsOfFarm_0 (by decide) ?_
  refine lv_istore_n (lv' := [(2, .int 0), (0, .ref h0), (1, .int x)]) hx hb dX3_stripsOfFarm_1 rfl hl (by decide) rfl (fun ls hl => ?_)
  refine lv_iconst (v := 0) hx hb dX3_stripsOfFarm_2 (by decide) ?_
  refine lv_istore_n (lv' := [(3, .int 0), (2, .int 0), (0, .ref h0), (1, .int x)]) hx hb dX3_stripsOfFarm_3 rfl hl (by decide) rfl (fun ls hl => ?_)
  refine (fun (key : ∀ (n9_4 : Nat) (k9_4 : Nat) (x9_4_2 : Int32) (H : Heap) (locs : List Loc) (ls : Array Slot), (k9_4 : Int) ≤ p0.toInt → p0.toInt < (k9_4 : Int) + n9_4 → PD D A [(sw_3 h0 p0 p1 p2 p3 p4 p5 p6 p7 p8 p9 (a 0) (a 1) (a 2) (a 3) (a 4) (a 5)), (sw_in cT (a 3) 16 f3)] H → va_S A s.heap H locs → lv_has ls 4 [(3, .int (nI k9_4)), (2, .int x9_4_2), (0, .ref h0), (1, .int x)] → W p l e _ s m _ below meth c H locs _ _ _ (F0 m 4 ls [])) => key (Int.toNat (p0.toInt - 0) + 1) 0 _ _ _ _ (by omega) (by omega)  ⟨hP, hD⟩ hS (lv_sub hl [0, 1, 2, 3] rfl)) ?_
  intro n9_4
  induction n9_4 with
  | zero => intro k9_4 x9_4_2 H locs ls hq1 hq2; exact absurd hq2 (by omega)
  | succ n9_4 ih_4 =>
    intro k9_4 x9_4_2 H locs ls hq1_4 hq2_4  hPD hS hl
    obtain ⟨hP, hD⟩ := hPD
    have hk9_4 : (nI k9_4).toInt = (k9_4 : Int) := nI_toInt (by omega)
    refine lv_iload_n hx hb dX3_stripsOfFarm_4 rfl (lv_at hl 0 rfl) ?_
    refine lv_aload_n hx hb dX3_stripsOfFarm_5 rfl (lv_at hl 2 rfl) ?_
    refine va_get (D := D) (ci := 3) (v := .int p0) (C := RX3) (T := TX3) (N := 16) hx hb htg gRX3 hown hK hP 0 rfl rfl 0 (by decide) (htg _ wi_166) (fun _ h9 => h9) rfl dX3_stripsOfFarm_6 ?_
    refine lv_icmp_ge (tgt := 34) hx hb dX3_stripsOfFarm_9 (by decide) (fun c_1 => ?_) (fun c_1 => ?_)
    · have ic_1 : p0.toInt ≤ ((k9_4 : Nat) : Int) := ile c_1 (rfl) (nI_toInt (by omega))
      refine lv_iload_n hx hb dX3_stripsOfFarm_34 rfl (lv_at hl 1 rfl) ?_
      exact x_iret hx hb hr hlk hP hD hS [0, 1] (()) rfl (by decide) trivial (by decide) (by decide) dX3_stripsOfFarm_35
    · have ic_1 : ((k9_4 : Nat) : Int) < p0.toInt := inle c_1 (rfl) (nI_toInt (by omega))
      refine lv_aload_n hx hb dX3_stripsOfFarm_12 rfl (lv_at hl 2 rfl) ?_
      refine va_get (D := D) (ci := 3) (v := .ref (a 3)) (C := RX3) (T := TX3) (N := 16) hx hb htg gRX3 hown hK hP 0 rfl rfl 13 (by decide) (htg _ wi_208) (fun _ h9 => h9) rfl dX3_stripsOfFarm_13 ?_
      refine lv_iload_n hx hb dX3_stripsOfFarm_16 rfl (lv_at hl 0 rfl) ?_
      refine va_iald hx hb hK hP 1 0 rfl rfl (vp_in_nI (by omega) (by omega)) dX3_stripsOfFarm_17 ?_
      refine lv_topi (fun z_2 ez_2 => ?_)
      refine lv_iload_n hx hb dX3_stripsOfFarm_18 rfl (lv_at hl 3 rfl) ?_
      refine lv_icmp_ne (tgt := 28) hx hb dX3_stripsOfFarm_19 (by decide) (fun c_3 => ?_) (fun c_3 => ?_)
      · have ic_3 : ¬ z_2.toInt = x.toInt := ine c_3 (rfl) (rfl)
        refine lv_iinc (v := (nI (k9_4 + 1))) (lv' := [(3, .int (nI (k9_4 + 1))), (2, .int x9_4_2), (0, .ref h0), (1, .int x)]) hx hb dX3_stripsOfFarm_28 hl (k := 0) rfl (by exact nI_1 (k9_4)) (by decide) rfl (fun ls hl => ?_)
        refine lv_goto (tgt := 4) hx hb dX3_stripsOfFarm_31 (by decide) ?_
        exact ih_4 (k9_4 + 1) _ _ _ _ (by omega) (by omega)  ⟨hP.sub [0, 1] rfl, hD.sub [0, 1] (by decide) rfl⟩ hS (lv_sub hl [0, 1, 2, 3] rfl)
      · have ic_3 : z_2.toInt = x.toInt := ieq c_3 (rfl) (rfl)
        refine lv_iload_n hx hb dX3_stripsOfFarm_22 rfl (lv_at hl 1 rfl) ?_
        refine lv_iconst (v := 1) hx hb dX3_stripsOfFarm_23 (by decide) ?_
        refine lv_iload_n hx hb dX3_stripsOfFarm_24 rfl (lv_at hl 0 rfl) ?_
        refine lv_ishl hx hb dX3_stripsOfFarm_25 ?_
        refine lv_topi (fun z_4 ez_4 => ?_)
        refine lv_ior hx hb dX3_stripsOfFarm_26 ?_
        refine lv_topi (fun z_5 ez_5 => ?_)
        refine lv_istore_n (lv' := [(2, .int z_5), (3, .int (nI k9_4)), (0, .ref h0), (1, .int x)]) hx hb dX3_stripsOfFarm_27 rfl hl (by decide) rfl (fun ls hl => ?_)
        refine lv_iinc (v := (nI (k9_4 + 1))) (lv' := [(3, .int (nI (k9_4 + 1))), (2, .int z_5), (0, .ref h0), (1, .int x)]) hx hb dX3_stripsOfFarm_28 hl (k := 1) rfl (by exact nI_1 (k9_4)) (by decide) rfl (fun ls hl => ?_)
        refine lv_goto (tgt := 4) hx hb dX3_stripsOfFarm_31 (by decide) ?_
        exact ih_4 (k9_4 + 1) _ _ _ _ (by omega) (by omega)  ⟨hP.sub [0, 1] rfl, hD.sub [0, 1] (by decide) rfl⟩ hS (lv_sub hl [0, 1, 2, 3] rfl)
set_option maxHeartbeats 4000000 in
set_option maxRecDepth 100000 in
theorem g_litFrom (l : Launch) (D : va_G) (cT : Nat → ClassId) (sz : Nat) (h0 : Nat) (a : Nat → Nat) (p0 : Int32) (p1 : Int32) (p2 : Int32) (p3 : Int32) (p4 : Int32) (p5 : Int32) (p6 : Int32) (p7 : Int32) (p8 : Int32) (p9 : Int32) (hs : 0 ≤ p0.toInt ∧ p0.toInt ≤ 16) (x : Int32) (hxx : 0 ≤ x.toInt ∧ x.toInt ≤ 15) (f2 : Nat → Int32) : Met l yX3_litFrom (wsc yX3_litFrom cX3_litFrom 4 (some .int)) { frames := 4, cells := 0, slots := 0, locals := 148 } (va_Pc [.ref h0, .int x] (PX D cT sz [(sw_3 h0 p0 p1 p2 p3 p4 p5 p6 p7 p8 p9 (a 0) (a 1) (a 2) (a 3) (a 4) (a 5)), (sw_in cT (a 2) 16 f2)])) (va_Qi (fun (r : Int32) (u : Unit) => True) (fun u t => RW D (va_A [(sw_3 h0 p0 p1 p2 p3 p4 p5 p6 p7 p8 p9 (a 0) (a 1) (a 2) (a 3) (a 4) (a 5)), (sw_in cT (a 2) 16 f2)] sz) ((fun _ : Unit => [(sw_3 h0 p0 p1 p2 p3 p4 p5 p6 p7 p8 p9 (a 0) (a 1) (a 2) (a 3) (a 4) (a 5)), (sw_in cT (a 2) 16 f2)]) u) t) (va_A [(sw_3 h0 p0 p1 p2 p3 p4 p5 p6 p7 p8 p9 (a 0) (a 1) (a 2) (a 3) (a 4) (a 5)), (sw_in cT (a 2) 16 f2)] sz)) 0 0 (va_A [(sw_3 h0 p0 p1 p2 p3 p4 p5 p6 p7 p8 p9 (a 0) (a 1) (a 2) (a 3) (a 4) (a 5)), (sw_in cT (a 2) 16 f2)] sz) := by
  refine m_of (y := yX3_litFrom) (cc := cX3_litFrom) (nL := 4) (ret := (some .int)) (D := D) (cT := cT) (av := [.ref h0, .int x]) (wi := [(sw_3 h0 p0 p1 p2 p3 p4 p5 p6 p7 p8 p9 (a 0) (a 1) (a 2) (a 3) (a 4) (a 5)), (sw_in cT (a 2) 16 f2)]) (fun A => va_Qi (fun (r : Int32) (u : Unit) => True) (fun u t => RW D A ((fun _ : Unit => [(sw_3 h0 p0 p1 p2 p3 p4 p5 p6 p7 p8 p9 (a 0) (a 1) (a 2) (a 3) (a 4) (a 5)), (sw_in cT (a 2) 16 f2)]) u) t) A) (by decide) (Nat.le_of_ble_eq_true rfl) ?_
  intro p e s m below meth c A hx hb hml hown htg hK hN hr hlk hnm hsz hP hD hS hA ls hl
  have hown : s.vm.findClass RX3 = some m.cls := hown
  have hl : lv_has ls 4 [(0, .ref h0), (1, .int x)] := hl
  refine lv_iconst (v := 0) hx hb dX3_litFrom_0 (by decide) ?_
  refine lv_istore_n (lv' := [(2, .int 0), (0, .ref h0), (1, .int x)]) hx hb dX3_litFrom_1 rfl hl (by decide) rfl (fun ls hl => ?_)
  refine lv_iconst (v := 0) hx hb dX3_litFrom_2 (by decide) ?_
  refine lv_istore_n (lv' := [(3, .int 0), (2, .int 0), (0, .ref h0), (1, .int x)]) hx hb dX3_litFrom_3 rfl hl (by decide) rfl (fun ls hl => ?_)
  refine (fun (key : ∀ (n9_4 : Nat) (k9_4 : Nat) (x9_4_2 : Int32) (H : Heap) (locs : List Loc) (ls : Array Slot), (k9_4 : Int) ≤ p0.toInt → p0.toInt < (k9_4 : Int) + n9_4 → PD D A [(sw_3 h0 p0 p1 p2 p3 p4 p5 p6 p7 p8 p9 (a 0) (a 1) (a 2) (a 3) (a 4) (a 5)), (sw_in cT (a 2) 16 f2)] H → va_S A s.heap H locs → lv_has ls 4 [(3, .int (nI k9_4)), (2, .int x9_4_2), (0, .ref h0), (1, .int x)] → W p l e _ s m _ below meth c H locs _ _ _ (F0 m 4 ls [])) => key (Int.toNat (p0.toInt - 0) + 1) 0 _ _ _ _ (by omega) (by omega)  ⟨hP, hD⟩ hS (lv_sub hl [0, 1, 2, 3] rfl)) ?_
  intro n9_4
  induction n9_4 with
  | zero => intro k9_4 x9_4_2 H locs ls hq1 hq2; exact absurd hq2 (by omega)
  | succ n9_4 ih_4 =>
    intro k9_4 x9_4_2 H locs ls hq1_4 hq2_4  hPD hS hl
    obtain ⟨hP, hD⟩ := hPD
    have hk9_4 : (nI k9_4).toInt = (k9_4 : Int) := nI_toInt (by omega)
    refine lv_iload_n hx hb dX3_litFrom_4 rfl (lv_at hl 0 rfl) ?_
    refine lv_aload_n hx hb dX3_litFrom_5 rfl (lv_at hl 2 rfl) ?_
    refine va_get (D := D) (ci := 3) (v := .int p0) (C := RX3) (T := TX3) (N := 16) hx hb htg gRX3 hown hK hP 0 rfl rfl 0 (by decide) (htg _ wi_166) (fun _ h9 => h9) rfl dX3_litFrom_6 ?_
    refine lv_icmp_ge (tgt := 33) hx hb dX3_litFrom_9 (by decide) (fun c_1 => ?_) (fun c_1 => ?_)
    · have ic_1 : p0.toInt ≤ ((k9_4 : Nat) : Int) := ile c_1 (rfl) (nI_toInt (by omega))
      refine lv_iload_n hx hb dX3_litFrom_33 rfl (lv_at hl 1 rfl) ?_
      exact x_iret hx hb hr hlk hP hD hS [0, 1] (()) rfl (by decide) trivial (by decide) (by decide) dX3_litFrom_34
    · have ic_1 : ((k9_4 : Nat) : Int) < p0.toInt := inle c_1 (rfl) (nI_toInt (by omega))
      refine lv_aload_n hx hb dX3_litFrom_12 rfl (lv_at hl 2 rfl) ?_
      refine lv_iload_n hx hb dX3_litFrom_13 rfl (lv_at hl 3 rfl) ?_
      refine lv_iload_n hx hb dX3_litFrom_14 rfl (lv_at hl 0 rfl) ?_
      refine xk_i (wr := []) (xr_V (n := 2) (As := [.int x, .int (nI k9_4)]) (rest := []) ⟨hx, hb, hml, hown, htg⟩ hK hN hP hD hS hA [0, 1] rfl (by decide) (g_lightOf l D cT _ (h0) (a) (p0) (p1) (p2) (p3) (p4) (p5) (p6) (p7) (p8) (p9) (x) ((nI k9_4)) (by first | assumption | decide | omega | (simp only [ti_0, ti_1, ti_2, ti_3, ti_4, ti_5, ti_6, ti_7, ti_8, ti_9, ti_10, ti_11, ti_12, ti_m1]; omega)) (by first | assumption | decide | omega | (simp only [ti_0, ti_1, ti_2, ti_3, ti_4, ti_5, ti_6, ti_7, ti_8, ti_9, ti_10, ti_11, ti_12, ti_m1]; omega)) (f2)) wi_712 wi_672 wi_19 wi_123 wi_673 rfl rfl rfl ⟨rfl, by decide +kernel⟩ ⟨Nat.le_of_ble_eq_true rfl, Nat.le_of_ble_eq_true rfl⟩ rfl hl.1 rfl (Nat.le_of_ble_eq_true rfl) dX3_litFrom_15 ⟨Nat.le_of_ble_eq_true rfl, Nat.le_of_ble_eq_true rfl⟩) hP hD hS hA [0, 1] [] rfl rfl (by decide) (by decide) (fun r_3 u_2 H locs hwr_3 hP hD hS => ?_)
      obtain ⟨hP, hD⟩ : PD D A [(sw_3 h0 p0 p1 p2 p3 p4 p5 p6 p7 p8 p9 (a 0) (a 1) (a 2) (a 3) (a 4) (a 5)), (sw_in cT (a 2) 16 f2)] _ := ⟨hP, hD⟩
      refine lv_if_le (tgt := 27) hx hb dX3_litFrom_18 (by decide) (fun c_4 => ?_) (fun c_4 => ?_)
      · have ic_4 : r_3.toInt ≤ 0 := ile c_4 (rfl) (by decide)
        refine lv_iinc (v := (nI (k9_4 + 1))) (lv' := [(3, .int (nI (k9_4 + 1))), (2, .int x9_4_2), (0, .ref h0), (1, .int x)]) hx hb dX3_litFrom_27 hl (k := 0) rfl (by exact nI_1 (k9_4)) (by decide) rfl (fun ls hl => ?_)
        refine lv_goto (tgt := 4) hx hb dX3_litFrom_30 (by decide) ?_
        exact ih_4 (k9_4 + 1) _ _ _ _ (by omega) (by omega)  ⟨hP.sub [0, 1] rfl, hD.sub [0, 1] (by decide) rfl⟩ hS (lv_sub hl [0, 1, 2, 3] rfl)
      · have ic_4 : 0 < r_3.toInt := inle c_4 (rfl) (by decide)
        refine lv_iload_n hx hb dX3_litFrom_21 rfl (lv_at hl 1 rfl) ?_
        refine lv_iconst (v := 1) hx hb dX3_litFrom_22 (by decide) ?_
        refine lv_iload_n hx hb dX3_litFrom_23 rfl (lv_at hl 0 rfl) ?_
        refine lv_ishl hx hb dX3_litFrom_24 ?_
        refine lv_topi (fun z_5 ez_5 => ?_)
        refine lv_ior hx hb dX3_litFrom_25 ?_
        refine lv_topi (fun z_6 ez_6 => ?_)
        refine lv_istore_n (lv' := [(2, .int z_6), (3, .int (nI k9_4)), (0, .ref h0), (1, .int x)]) hx hb dX3_litFrom_26 rfl hl (by decide) rfl (fun ls hl => ?_)
        refine lv_iinc (v := (nI (k9_4 + 1))) (lv' := [(3, .int (nI (k9_4 + 1))), (2, .int z_6), (0, .ref h0), (1, .int x)]) hx hb dX3_litFrom_27 hl (k := 1) rfl (by exact nI_1 (k9_4)) (by decide) rfl (fun ls hl => ?_)
        refine lv_goto (tgt := 4) hx hb dX3_litFrom_30 (by decide) ?_
        exact ih_4 (k9_4 + 1) _ _ _ _ (by omega) (by omega)  ⟨hP.sub [0, 1] rfl, hD.sub [0, 1] (by decide) rfl⟩ hS (lv_sub hl [0, 1, 2, 3] rfl)
set_option maxHeartbeats 4000000 in
set_option maxRecDepth 100000 in
theorem g_shadedFrom (l : Launch) (D : va_G) (cT : Nat → ClassId) (sz : Nat) (h0 : Nat) (a : Nat → Nat) (p0 : Int32) (p1 : Int32) (p2 : Int32) (p3 : Int32) (p4 : Int32) (p5 : Int32) (p6 : Int32) (p7 : Int32) (p8 : Int32) (p9 : Int32) (hs : 0 ≤ p0.toInt ∧ p0.toInt ≤ 16) (x : Int32) (hxx : 0 ≤ x.toInt ∧ x.toInt ≤ 15) (f2 : Nat → Int32) : Met l yX3_shadedFrom (wsc yX3_shadedFrom cX3_shadedFrom 4 (some .int)) { frames := 3, cells := 0, slots := 0, locals := 125 } (va_Pc [.ref h0, .int x] (PX D cT sz [(sw_3 h0 p0 p1 p2 p3 p4 p5 p6 p7 p8 p9 (a 0) (a 1) (a 2) (a 3) (a 4) (a 5)), (sw_in cT (a 2) 16 f2)])) (va_Qi (fun (r : Int32) (u : Unit) => True) (fun u t => RW D (va_A [(sw_3 h0 p0 p1 p2 p3 p4 p5 p6 p7 p8 p9 (a 0) (a 1) (a 2) (a 3) (a 4) (a 5)), (sw_in cT (a 2) 16 f2)] sz) ((fun _ : Unit => [(sw_3 h0 p0 p1 p2 p3 p4 p5 p6 p7 p8 p9 (a 0) (a 1) (a 2) (a 3) (a 4) (a 5)), (sw_in cT (a 2) 16 f2)]) u) t) (va_A [(sw_3 h0 p0 p1 p2 p3 p4 p5 p6 p7 p8 p9 (a 0) (a 1) (a 2) (a 3) (a 4) (a 5)), (sw_in cT (a 2) 16 f2)] sz)) 0 0 (va_A [(sw_3 h0 p0 p1 p2 p3 p4 p5 p6 p7 p8 p9 (a 0) (a 1) (a 2) (a 3) (a 4) (a 5)), (sw_in cT (a 2) 16 f2)] sz) := by
  refine m_of (y := yX3_shadedFrom) (cc := cX3_shadedFrom) (nL := 4) (ret := (some .int)) (D := D) (cT := cT) (av := [.ref h0, .int x]) (wi := [(sw_3 h0 p0 p1 p2 p3 p4 p5 p6 p7 p8 p9 (a 0) (a 1) (a 2) (a 3) (a 4) (a 5)), (sw_in cT (a 2) 16 f2)]) (fun A => va_Qi (fun (r : Int32) (u : Unit) => True) (fun u t => RW D A ((fun _ : Unit => [(sw_3 h0 p0 p1 p2 p3 p4 p5 p6 p7 p8 p9 (a 0) (a 1) (a 2) (a 3) (a 4) (a 5)), (sw_in cT (a 2) 16 f2)]) u) t) A) (by decide) (Nat.le_of_ble_eq_true rfl) ?_
  intro p e s m below meth c A hx hb hml hown htg hK hN hr hlk hnm hsz hP hD hS hA ls hl
  have hown : s.vm.findClass RX3 = some m.cls := hown
  have hl : lv_has ls 4 [(0, .ref h0), (1, .int x)] := hl
  refine lv_iconst (v := 0) hx hb dX3_shadedFrom_0 (by decide) ?_
  refine lv_istore_n (lv' := [(2, .int 0), (0, .ref h0), (1, .int x)]) hx hb dX3_shadedFrom_1 rfl hl (by decide) rfl (fun ls hl => ?_)
  refine lv_iconst (v := 0) hx hb dX3_shadedFrom_2 (by decide) ?_
  refine lv_istore_n (lv' := [(3, .int 0), (2, .int 0), (0, .ref h0), (1, .int x)]) hx hb dX3_shadedFrom_3 rfl hl (by decide) rfl (fun ls hl => ?_)
  refine (fun (key : ∀ (n9_4 : Nat) (k9_4 : Nat) (x9_4_2 : Int32) (H : Heap) (locs : List Loc) (ls : Array Slot), (k9_4 : Int) ≤ p0.toInt → p0.toInt < (k9_4 : Int) + n9_4 → PD D A [(sw_3 h0 p0 p1 p2 p3 p4 p5 p6 p7 p8 p9 (a 0) (a 1) (a 2) (a 3) (a 4) (a 5)), (sw_in cT (a 2) 16 f2)] H → va_S A s.heap H locs → lv_has ls 4 [(3, .int (nI k9_4)), (2, .int x9_4_2), (0, .ref h0), (1, .int x)] → W p l e _ s m _ below meth c H locs _ _ _ (F0 m 4 ls [])) => key (Int.toNat (p0.toInt - 0) + 1) 0 _ _ _ _ (by omega) (by omega)  ⟨hP, hD⟩ hS (lv_sub hl [0, 1, 2, 3] rfl)) ?_
  intro n9_4
  induction n9_4 with
  | zero => intro k9_4 x9_4_2 H locs ls hq1 hq2; exact absurd hq2 (by omega)
  | succ n9_4 ih_4 =>
    intro k9_4 x9_4_2 H locs ls hq1_4 hq2_4  hPD hS hl
    obtain ⟨hP, hD⟩ := hPD
    have hk9_4 : (nI k9_4).toInt = (k9_4 : Int) := nI_toInt (by omega)
    refine lv_iload_n hx hb dX3_shadedFrom_4 rfl (lv_at hl 0 rfl) ?_
    refine lv_aload_n hx hb dX3_shadedFrom_5 rfl (lv_at hl 2 rfl) ?_
    refine va_get (D := D) (ci := 3) (v := .int p0) (C := RX3) (T := TX3) (N := 16) hx hb htg gRX3 hown hK hP 0 rfl rfl 0 (by decide) (htg _ wi_166) (fun _ h9 => h9) rfl dX3_shadedFrom_6 ?_
    refine lv_icmp_ge (tgt := 42) hx hb dX3_shadedFrom_9 (by decide) (fun c_1 => ?_) (fun c_1 => ?_)
    · have ic_1 : p0.toInt ≤ ((k9_4 : Nat) : Int) := ile c_1 (rfl) (nI_toInt (by omega))
      refine lv_iload_n hx hb dX3_shadedFrom_42 rfl (lv_at hl 1 rfl) ?_
      exact x_iret hx hb hr hlk hP hD hS [0, 1] (()) rfl (by decide) trivial (by decide) (by decide) dX3_shadedFrom_43
    · have ic_1 : ((k9_4 : Nat) : Int) < p0.toInt := inle c_1 (rfl) (nI_toInt (by omega))
      refine lv_aload_n hx hb dX3_shadedFrom_12 rfl (lv_at hl 2 rfl) ?_
      refine lv_iload_n hx hb dX3_shadedFrom_13 rfl (lv_at hl 3 rfl) ?_
      refine lv_iload_n hx hb dX3_shadedFrom_14 rfl (lv_at hl 0 rfl) ?_
      refine xk_i (wr := [(sw_in cT (a 2) 16 f2)]) (xr_V (n := 2) (As := [.int x, .int (nI k9_4)]) (rest := []) ⟨hx, hb, hml, hown, htg⟩ hK hN hP hD hS hA [0] rfl (by decide) (g_unshadedLight l D cT _ (h0) (a) (p0) (p1) (p2) (p3) (p4) (p5) (p6) (p7) (p8) (p9) (x) ((nI k9_4))) wi_674 wi_676 wi_20 wi_123 wi_677 rfl rfl rfl ⟨rfl, by decide +kernel⟩ ⟨Nat.le_of_ble_eq_true rfl, Nat.le_of_ble_eq_true rfl⟩ rfl hl.1 rfl (Nat.le_of_ble_eq_true rfl) dX3_shadedFrom_15 ⟨Nat.le_of_ble_eq_true rfl, Nat.le_of_ble_eq_true rfl⟩) hP hD hS hA [0] [1] rfl rfl (by decide) (by decide) (fun r_3 u_2 H locs hwr_3 hP hD hS => ?_)
      obtain ⟨hP, hD⟩ : PD D A [(sw_in cT (a 2) 16 f2), (sw_3 h0 p0 p1 p2 p3 p4 p5 p6 p7 p8 p9 (a 0) (a 1) (a 2) (a 3) (a 4) (a 5))] _ := ⟨hP, hD⟩
      refine lv_if_le (tgt := 36) hx hb dX3_shadedFrom_18 (by decide) (fun c_4 => ?_) (fun c_4 => ?_)
      · have ic_4 : r_3.toInt ≤ 0 := ile c_4 (rfl) (by decide)
        refine lv_iinc (v := (nI (k9_4 + 1))) (lv' := [(3, .int (nI (k9_4 + 1))), (2, .int x9_4_2), (0, .ref h0), (1, .int x)]) hx hb dX3_shadedFrom_36 hl (k := 0) rfl (by exact nI_1 (k9_4)) (by decide) rfl (fun ls hl => ?_)
        refine lv_goto (tgt := 4) hx hb dX3_shadedFrom_39 (by decide) ?_
        exact ih_4 (k9_4 + 1) _ _ _ _ (by omega) (by omega)  ⟨hP.sub [1, 0] rfl, hD.sub [1, 0] (by decide) rfl⟩ hS (lv_sub hl [0, 1, 2, 3] rfl)
      · have ic_4 : 0 < r_3.toInt := inle c_4 (rfl) (by decide)
        refine lv_aload_n hx hb dX3_shadedFrom_21 rfl (lv_at hl 2 rfl) ?_
        refine lv_iload_n hx hb dX3_shadedFrom_22 rfl (lv_at hl 3 rfl) ?_
        refine lv_iload_n hx hb dX3_shadedFrom_23 rfl (lv_at hl 0 rfl) ?_
        refine xk_i (wr := []) (xr_V (n := 2) (As := [.int x, .int (nI k9_4)]) (rest := []) ⟨hx, hb, hml, hown, htg⟩ hK hN hP hD hS hA [1, 0] rfl (by decide) (g_isShaded l D cT _ (h0) (a) (p0) (p1) (p2) (p3) (p4) (p5) (p6) (p7) (p8) (p9) (x) ((nI k9_4)) (by first | assumption | decide | omega | (simp only [ti_0, ti_1, ti_2, ti_3, ti_4, ti_5, ti_6, ti_7, ti_8, ti_9, ti_10, ti_11, ti_12, ti_m1]; omega)) (by first | assumption | decide | omega | (simp only [ti_0, ti_1, ti_2, ti_3, ti_4, ti_5, ti_6, ti_7, ti_8, ti_9, ti_10, ti_11, ti_12, ti_m1]; omega)) (f2)) wi_682 wi_684 wi_21 wi_123 wi_685 rfl rfl rfl ⟨rfl, by decide +kernel⟩ ⟨Nat.le_of_ble_eq_true rfl, Nat.le_of_ble_eq_true rfl⟩ rfl hl.1 rfl (Nat.le_of_ble_eq_true rfl) dX3_shadedFrom_24 ⟨Nat.le_of_ble_eq_true rfl, Nat.le_of_ble_eq_true rfl⟩) hP hD hS hA [1, 0] [] rfl rfl (by decide) (by decide) (fun r_6 u_5 H locs hwr_6 hP hD hS => ?_)
        obtain ⟨hP, hD⟩ : PD D A [(sw_3 h0 p0 p1 p2 p3 p4 p5 p6 p7 p8 p9 (a 0) (a 1) (a 2) (a 3) (a 4) (a 5)), (sw_in cT (a 2) 16 f2)] _ := ⟨hP, hD⟩
        refine lv_if_eq (tgt := 36) hx hb dX3_shadedFrom_27 (by decide) (fun c_7 => ?_) (fun c_7 => ?_)
        · have ic_7 : r_6.toInt = 0 := ieq c_7 (rfl) (by decide)
          refine lv_iinc (v := (nI (k9_4 + 1))) (lv' := [(3, .int (nI (k9_4 + 1))), (2, .int x9_4_2), (0, .ref h0), (1, .int x)]) hx hb dX3_shadedFrom_36 hl (k := 0) rfl (by exact nI_1 (k9_4)) (by decide) rfl (fun ls hl => ?_)
          refine lv_goto (tgt := 4) hx hb dX3_shadedFrom_39 (by decide) ?_
          exact ih_4 (k9_4 + 1) _ _ _ _ (by omega) (by omega)  ⟨hP.sub [0, 1] rfl, hD.sub [0, 1] (by decide) rfl⟩ hS (lv_sub hl [0, 1, 2, 3] rfl)
        · have ic_7 : ¬ r_6.toInt = 0 := ine c_7 (rfl) (by decide)
          refine lv_iload_n hx hb dX3_shadedFrom_30 rfl (lv_at hl 1 rfl) ?_
          refine lv_iconst (v := 1) hx hb dX3_shadedFrom_31 (by decide) ?_
          refine lv_iload_n hx hb dX3_shadedFrom_32 rfl (lv_at hl 0 rfl) ?_
          refine lv_ishl hx hb dX3_shadedFrom_33 ?_
          refine lv_topi (fun z_8 ez_8 => ?_)
          refine lv_ior hx hb dX3_shadedFrom_34 ?_
          refine lv_topi (fun z_9 ez_9 => ?_)
          refine lv_istore_n (lv' := [(2, .int z_9), (3, .int (nI k9_4)), (0, .ref h0), (1, .int x)]) hx hb dX3_shadedFrom_35 rfl hl (by decide) rfl (fun ls hl => ?_)
          refine lv_iinc (v := (nI (k9_4 + 1))) (lv' := [(3, .int (nI (k9_4 + 1))), (2, .int z_9), (0, .ref h0), (1, .int x)]) hx hb dX3_shadedFrom_36 hl (k := 1) rfl (by exact nI_1 (k9_4)) (by decide) rfl (fun ls hl => ?_)
          refine lv_goto (tgt := 4) hx hb dX3_shadedFrom_39 (by decide) ?_
          exact ih_4 (k9_4 + 1) _ _ _ _ (by omega) (by omega)  ⟨hP.sub [0, 1] rfl, hD.sub [0, 1] (by decide) rfl⟩ hS (lv_sub hl [0, 1, 2, 3] rfl)
set_option maxHeartbeats 4000000 in
set_option maxRecDepth 100000 in
theorem g_leastHeight (l : Launch) (D : va_G) (cT : Nat → ClassId) (sz : Nat) (h0 : Nat) (a : Nat → Nat) (p0 : Int32) (p1 : Int32) (p2 : Int32) (p3 : Int32) (p4 : Int32) (p5 : Int32) (p6 : Int32) (p7 : Int32) (p8 : Int32) (p9 : Int32) (x : Int32) (y : Int32) (hxx : 0 ≤ x.toInt ∧ x.toInt ≤ 15) (hyy : 0 ≤ y.toInt ∧ y.toInt ≤ 15) (f2 : Nat → Int32) : Met l yX3_leastHeight (wsc yX3_leastHeight cX3_leastHeight 9 (some .int)) { frames := 3, cells := 0, slots := 0, locals := 122 } (va_Pc [.ref h0, .int x, .int y] (PX D cT sz [(sw_3 h0 p0 p1 p2 p3 p4 p5 p6 p7 p8 p9 (a 0) (a 1) (a 2) (a 3) (a 4) (a 5)), (sw_in cT (a 2) 16 f2)])) (va_Qi (fun (r : Int32) (u : Unit) => True) (fun u t => RW D (va_A [(sw_3 h0 p0 p1 p2 p3 p4 p5 p6 p7 p8 p9 (a 0) (a 1) (a 2) (a 3) (a 4) (a 5)), (sw_in cT (a 2) 16 f2)] sz) ((fun _ : Unit => [(sw_3 h0 p0 p1 p2 p3 p4 p5 p6 p7 p8 p9 (a 0) (a 1) (a 2) (a 3) (a 4) (a 5)), (sw_in cT (a 2) 16 f2)]) u) t) (va_A [(sw_3 h0 p0 p1 p2 p3 p4 p5 p6 p7 p8 p9 (a 0) (a 1) (a 2) (a 3) (a 4) (a 5)), (sw_in cT (a 2) 16 f2)] sz)) 0 0 (va_A [(sw_3 h0 p0 p1 p2 p3 p4 p5 p6 p7 p8 p9 (a 0) (a 1) (a 2) (a 3) (a 4) (a 5)), (sw_in cT (a 2) 16 f2)] sz) := by
  refine m_of (y := yX3_leastHeight) (cc := cX3_leastHeight) (nL := 9) (ret := (some .int)) (D := D) (cT := cT) (av := [.ref h0, .int x, .int y]) (wi := [(sw_3 h0 p0 p1 p2 p3 p4 p5 p6 p7 p8 p9 (a 0) (a 1) (a 2) (a 3) (a 4) (a 5)), (sw_in cT (a 2) 16 f2)]) (fun A => va_Qi (fun (r : Int32) (u : Unit) => True) (fun u t => RW D A ((fun _ : Unit => [(sw_3 h0 p0 p1 p2 p3 p4 p5 p6 p7 p8 p9 (a 0) (a 1) (a 2) (a 3) (a 4) (a 5)), (sw_in cT (a 2) 16 f2)]) u) t) A) (by decide) (Nat.le_of_ble_eq_true rfl) ?_
  intro p e s m below meth c A hx hb hml hown htg hK hN hr hlk hnm hsz hP hD hS hA ls hl
  have hown : s.vm.findClass RX3 = some m.cls := hown
  have hl : lv_has ls 9 [(0, .ref h0), (1, .int x), (2, .int y)] := hl
  refine lv_aload_n hx hb dX3_leastHeight_0 rfl (lv_at hl 0 rfl) ?_
  refine lv_iload_n hx hb dX3_leastHeight_1 rfl (lv_at hl 1 rfl) ?_
  refine lv_iload_n hx hb dX3_leastHeight_2 rfl (lv_at hl 2 rfl) ?_
  refine xk_i (wr := [(sw_in cT (a 2) 16 f2)]) (xr_V (n := 2) (As := [.int x, .int y]) (rest := []) ⟨hx, hb, hml, hown, htg⟩ hK hN hP hD hS hA [0] rfl (by decide) (g_unshadedLight l D cT _ (h0) (a) (p0) (p1) (p2) (p3) (p4) (p5) (p6) (p7) (p8) (p9) (x) (y)) wi_674 wi_676 wi_20 wi_123 wi_677 rfl rfl rfl ⟨rfl, by decide +kernel⟩ ⟨Nat.le_of_ble_eq_true rfl, Nat.le_of_ble_eq_true rfl⟩ rfl hl.1 rfl (Nat.le_of_ble_eq_true rfl) dX3_leastHeight_3 ⟨Nat.le_of_ble_eq_true rfl, Nat.le_of_ble_eq_true rfl⟩) hP hD hS hA [0] [1] rfl rfl (by decide) (by decide) (fun r_2 u_1 H locs hwr_2 hP hD hS => ?_)
  obtain ⟨hP, hD⟩ : PD D A [(sw_in cT (a 2) 16 f2), (sw_3 h0 p0 p1 p2 p3 p4 p5 p6 p7 p8 p9 (a 0) (a 1) (a 2) (a 3) (a 4) (a 5))] _ := ⟨hP, hD⟩
  refine lv_if_ne (tgt := 11) hx hb dX3_leastHeight_6 (by decide) (fun c_3 => ?_) (fun c_3 => ?_)
  · have ic_3 : ¬ r_2.toInt = 0 := ine c_3 (rfl) (by decide)
    refine lv_iconst (v := 1) hx hb dX3_leastHeight_11 (by decide) ?_
    refine lv_istore_n (lv' := [(3, .int 1), (0, .ref h0), (1, .int x), (2, .int y)]) hx hb dX3_leastHeight_12 rfl hl (by decide) rfl (fun ls hl => ?_)
    refine lv_iload_n hx hb dX3_leastHeight_13 rfl (lv_at hl 2 rfl) ?_
    refine lv_iload_n hx hb dX3_leastHeight_14 rfl (lv_at hl 3 rfl) ?_
    refine lv_isub hx hb dX3_leastHeight_15 ?_
    refine lv_topi (fun z_4 ez_4 => ?_)
    have iz_4 : z_4.toInt = x.toInt - y.toInt := toInt_subI ez_4 (rfl) (rfl) (by omega)
    refine va_mabs hx hb (by rw [hml]; exact hl.1.symm) hown (htg _ wi_678) (htg _ wi_679) (htg _ wi_132) (htg _ wi_680) (Nat.le_of_ble_eq_true rfl) (Nat.le_of_ble_eq_true rfl) (Nat.le_of_ble_eq_true rfl) (Nat.le_of_ble_eq_true rfl) dX3_leastHeight_16 ?_
    refine lv_topi (fun z_5 ez_5 => ?_)
    have iz_5 := absI (a := z_4.toInt) ez_5 (rfl) (by omega)
    refine lv_istore (lv' := [(4, .int z_5), (3, .int 1), (0, .ref h0), (1, .int x), (2, .int y)]) hx hb dX3_leastHeight_19 hl (by decide) rfl (fun ls hl => ?_)
    refine lv_iload_n hx hb dX3_leastHeight_21 rfl (lv_at hl 3 rfl) ?_
    refine lv_iload_n hx hb dX3_leastHeight_22 rfl (lv_at hl 4 rfl) ?_
    refine va_mmax hx hb (by rw [hml]; exact hl.1.symm) hown (htg _ wi_681) (htg _ wi_527) (htg _ wi_132) (htg _ wi_528) (Nat.le_of_ble_eq_true rfl) (Nat.le_of_ble_eq_true rfl) (Nat.le_of_ble_eq_true rfl) (Nat.le_of_ble_eq_true rfl) dX3_leastHeight_23 ?_
    refine lv_topi (fun z_6 ez_6 => ?_)
    have iz_6 := maxI (a := x.toInt) (b := y.toInt) ez_6 (rfl) (rfl)
    refine lv_istore (lv' := [(5, .int z_6), (4, .int z_5), (3, .int 1), (0, .ref h0), (1, .int x), (2, .int y)]) hx hb dX3_leastHeight_26 hl (by decide) rfl (fun ls hl => ?_)
    refine lv_iload_n hx hb dX3_leastHeight_28 rfl (lv_at hl 4 rfl) ?_
    refine lv_iload_n hx hb dX3_leastHeight_29 rfl (lv_at hl 5 rfl) ?_
    refine va_mmin hx hb (by rw [hml]; exact hl.1.symm) hown (htg _ wi_686) (htg _ wi_524) (htg _ wi_132) (htg _ wi_525) (Nat.le_of_ble_eq_true rfl) (Nat.le_of_ble_eq_true rfl) (Nat.le_of_ble_eq_true rfl) (Nat.le_of_ble_eq_true rfl) dX3_leastHeight_30 ?_
    refine lv_topi (fun z_7 ez_7 => ?_)
    have iz_7 := minI (a := x.toInt) (b := y.toInt) ez_7 (rfl) (rfl)
    refine lv_iconst (v := 1) hx hb dX3_leastHeight_33 (by decide) ?_
    refine lv_iadd hx hb dX3_leastHeight_34 ?_
    refine lv_topi (fun z_8 ez_8 => ?_)
    have iz_8 : z_8.toInt = z_7.toInt + 1 := toInt_addI ez_8 (rfl) (by decide) (by omega)
    refine lv_istore (lv' := [(6, .int z_8), (5, .int z_6), (4, .int z_5), (3, .int 1), (0, .ref h0), (1, .int x), (2, .int y)]) hx hb dX3_leastHeight_35 hl (by decide) rfl (fun ls hl => ?_)
    refine (fun (key : ∀ (n9_37 : Nat) (k9_37 : Int32) (x9_37_3 : Int32) (H : Heap) (locs : List Loc) (ls : Array Slot), (0 ≤ k9_37.toInt ∧ k9_37.toInt ≤ 17) → 17 < k9_37.toInt + n9_37 → PD D A [(sw_in cT (a 2) 16 f2), (sw_3 h0 p0 p1 p2 p3 p4 p5 p6 p7 p8 p9 (a 0) (a 1) (a 2) (a 3) (a 4) (a 5))] H → va_S A s.heap H locs → lv_has ls 9 [(6, .int k9_37), (5, .int z_6), (4, .int z_5), (3, .int x9_37_3), (0, .ref h0), (1, .int x), (2, .int y)] → W p l e _ s m _ below meth c H locs _ _ _ (F0 m 37 ls [])) => key (Int.toNat (17 - z_8.toInt) + 1) (z_8) _ _ _ _ (by omega) (by omega)  ⟨hP, hD⟩ hS (lv_sub hl [0, 1, 2, 3, 4, 5, 6] rfl)) ?_
    intro n9_37
    induction n9_37 with
    | zero => intro k9_37 x9_37_3 H locs ls hq1 hq2; exact absurd hq2 (by omega)
    | succ n9_37 ih_37 =>
      intro k9_37 x9_37_3 H locs ls hq1_37 hq2_37  hPD hS hl
      obtain ⟨hP, hD⟩ := hPD
      refine lv_iload hx hb dX3_leastHeight_37 (lv_at hl 0 rfl) ?_
      refine lv_iload hx hb dX3_leastHeight_39 (lv_at hl 1 rfl) ?_
      refine lv_icmp_ge (tgt := 95) hx hb dX3_leastHeight_41 (by decide) (fun c_9 => ?_) (fun c_9 => ?_)
      · have ic_9 : z_6.toInt ≤ k9_37.toInt := ile c_9 (rfl) (rfl)
        refine lv_iload_n hx hb dX3_leastHeight_95 rfl (lv_at hl 3 rfl) ?_
        refine lv_bipush (v := 99) hx hb dX3_leastHeight_96 (by decide) ?_
        refine lv_icmp_le (tgt := 105) hx hb dX3_leastHeight_98 (by decide) (fun c_10 => ?_) (fun c_10 => ?_)
        · have ic_10 : x9_37_3.toInt ≤ 99 := ile c_10 (rfl) (by decide)
          refine lv_iload_n hx hb dX3_leastHeight_105 rfl (lv_at hl 3 rfl) ?_
          exact x_iret hx hb hr hlk hP hD hS [1, 0] (()) rfl (by decide) trivial (by decide) (by decide) dX3_leastHeight_106
        · have ic_10 : 99 < x9_37_3.toInt := inle c_10 (rfl) (by decide)
          refine lv_iconst (v := (-1)) hx hb dX3_leastHeight_101 (by decide) ?_
          refine lv_goto (tgt := 106) hx hb dX3_leastHeight_102 (by decide) ?_
          exact x_iret hx hb hr hlk hP hD hS [1, 0] (()) rfl (by decide) trivial (by decide) (by decide) dX3_leastHeight_106
      · have ic_9 : k9_37.toInt < z_6.toInt := inle c_9 (rfl) (rfl)
        refine lv_iload hx hb dX3_leastHeight_44 (lv_at hl 0 rfl) ?_
        refine lv_iload_n hx hb dX3_leastHeight_46 rfl (lv_at hl 6 rfl) ?_
        refine lv_isub hx hb dX3_leastHeight_47 ?_
        refine lv_topi (fun z_11 ez_11 => ?_)
        have iz_11 : z_11.toInt = k9_37.toInt - y.toInt := toInt_subI ez_11 (rfl) (rfl) (by omega)
        refine va_mabs hx hb (by rw [hml]; exact hl.1.symm) hown (htg _ wi_678) (htg _ wi_679) (htg _ wi_132) (htg _ wi_680) (Nat.le_of_ble_eq_true rfl) (Nat.le_of_ble_eq_true rfl) (Nat.le_of_ble_eq_true rfl) (Nat.le_of_ble_eq_true rfl) dX3_leastHeight_48 ?_
        refine lv_topi (fun z_12 ez_12 => ?_)
        have iz_12 := absI (a := z_11.toInt) ez_12 (rfl) (by omega)
        refine lv_istore (lv' := [(7, .int z_12), (6, .int k9_37), (5, .int z_6), (4, .int z_5), (3, .int x9_37_3), (0, .ref h0), (1, .int x), (2, .int y)]) hx hb dX3_leastHeight_51 hl (by decide) rfl (fun ls hl => ?_)
        refine lv_iload hx hb dX3_leastHeight_53 (lv_at hl 0 rfl) ?_
        refine lv_if_le (tgt := 79) hx hb dX3_leastHeight_55 (by decide) (fun c_13 => ?_) (fun c_13 => ?_)
        · have ic_13 : z_12.toInt ≤ 0 := ile c_13 (rfl) (by decide)
          refine lv_iconst (v := 0) hx hb dX3_leastHeight_79 (by decide) ?_
          refine lv_istore (lv' := [(8, .int 0), (7, .int z_12), (6, .int k9_37), (5, .int z_6), (4, .int z_5), (3, .int x9_37_3), (0, .ref h0), (1, .int x), (2, .int y)]) hx hb dX3_leastHeight_80 hl (by decide) rfl (fun ls hl => ?_)
          refine lv_iload_n hx hb dX3_leastHeight_82 rfl (lv_at hl 5 rfl) ?_
          refine lv_iload hx hb dX3_leastHeight_83 (lv_at hl 0 rfl) ?_
          refine va_mmax hx hb (by rw [hml]; exact hl.1.symm) hown (htg _ wi_681) (htg _ wi_527) (htg _ wi_132) (htg _ wi_528) (Nat.le_of_ble_eq_true rfl) (Nat.le_of_ble_eq_true rfl) (Nat.le_of_ble_eq_true rfl) (Nat.le_of_ble_eq_true rfl) dX3_leastHeight_85 ?_
          refine lv_topi (fun z_14 ez_14 => ?_)
          have iz_14 := maxI (a := x9_37_3.toInt) (b := 0) ez_14 (rfl) (by decide)
          refine lv_istore_n (lv' := [(3, .int z_14), (8, .int 0), (7, .int z_12), (6, .int k9_37), (5, .int z_6), (4, .int z_5), (0, .ref h0), (1, .int x), (2, .int y)]) hx hb dX3_leastHeight_88 rfl hl (by decide) rfl (fun ls hl => ?_)
          obtain ⟨z_15, ez_15⟩ : ∃ w : Int32, w = k9_37 + 1 := ⟨_, rfl⟩
          have iz_15 : z_15.toInt = k9_37.toInt + 1 := toInt_addI ez_15 (rfl) (by decide) (by omega)
          refine lv_iinc (v := z_15) (lv' := [(6, .int z_15), (3, .int z_14), (8, .int 0), (7, .int z_12), (5, .int z_6), (4, .int z_5), (0, .ref h0), (1, .int x), (2, .int y)]) hx hb dX3_leastHeight_89 hl (k := 3) rfl (by rw [ez_15]; rfl) (by decide) rfl (fun ls hl => ?_)
          refine lv_goto (tgt := 37) hx hb dX3_leastHeight_92 (by decide) ?_
          exact ih_37 (z_15) _ _ _ _ (by omega) (by omega)  ⟨hP.sub [0, 1] rfl, hD.sub [0, 1] (by decide) rfl⟩ hS (lv_sub hl [0, 4, 5, 1, 6, 7, 8] rfl)
        · have ic_13 : 0 < z_12.toInt := inle c_13 (rfl) (by decide)
          refine lv_aload_n hx hb dX3_leastHeight_58 rfl (lv_at hl 5 rfl) ?_
          refine va_get (D := D) (ci := 3) (v := .ref (a 2)) (C := RX3) (T := TX3) (N := 16) hx hb htg gRX3 hown hK hP 1 rfl rfl 12 (by decide) (htg _ wi_206) (fun _ h9 => h9) rfl dX3_leastHeight_59 ?_
          refine lv_iload hx hb dX3_leastHeight_62 (lv_at hl 1 rfl) ?_
          refine va_iald hx hb hK hP 0 0 rfl rfl (vp_in_iff.mpr (by omega)) dX3_leastHeight_64 ?_
          refine lv_topi (fun z_16 ez_16 => ?_)
          refine lv_iload hx hb dX3_leastHeight_65 (lv_at hl 3 rfl) ?_
          refine lv_imul hx hb dX3_leastHeight_67 ?_
          refine lv_topi (fun z_17 ez_17 => ?_)
          refine lv_iload hx hb dX3_leastHeight_68 (lv_at hl 0 rfl) ?_
          refine lv_iadd hx hb dX3_leastHeight_70 ?_
          refine lv_topi (fun z_18 ez_18 => ?_)
          refine lv_iconst (v := 1) hx hb dX3_leastHeight_71 (by decide) ?_
          refine lv_isub hx hb dX3_leastHeight_72 ?_
          refine lv_topi (fun z_19 ez_19 => ?_)
          refine lv_iload hx hb dX3_leastHeight_73 (lv_at hl 0 rfl) ?_
          refine lv_idiv hx hb dX3_leastHeight_75 (fun h => by have h3 := ieq h (rfl) (show (0 : Int32).toInt = 0 from by decide); omega) ?_
          refine lv_topi (fun z_20 ez_20 => ?_)
          refine lv_goto (tgt := 80) hx hb dX3_leastHeight_76 (by decide) ?_
          refine lv_istore (lv' := [(8, .int z_20), (7, .int z_12), (6, .int k9_37), (5, .int z_6), (4, .int z_5), (3, .int x9_37_3), (0, .ref h0), (1, .int x), (2, .int y)]) hx hb dX3_leastHeight_80 hl (by decide) rfl (fun ls hl => ?_)
          refine lv_iload_n hx hb dX3_leastHeight_82 rfl (lv_at hl 5 rfl) ?_
          refine lv_iload hx hb dX3_leastHeight_83 (lv_at hl 0 rfl) ?_
          refine va_mmax hx hb (by rw [hml]; exact hl.1.symm) hown (htg _ wi_681) (htg _ wi_527) (htg _ wi_132) (htg _ wi_528) (Nat.le_of_ble_eq_true rfl) (Nat.le_of_ble_eq_true rfl) (Nat.le_of_ble_eq_true rfl) (Nat.le_of_ble_eq_true rfl) dX3_leastHeight_85 ?_
          refine lv_topi (fun z_21 ez_21 => ?_)
          have iz_21 := maxI (a := x9_37_3.toInt) (b := z_20.toInt) ez_21 (rfl) (rfl)
          refine lv_istore_n (lv' := [(3, .int z_21), (8, .int z_20), (7, .int z_12), (6, .int k9_37), (5, .int z_6), (4, .int z_5), (0, .ref h0), (1, .int x), (2, .int y)]) hx hb dX3_leastHeight_88 rfl hl (by decide) rfl (fun ls hl => ?_)
          obtain ⟨z_22, ez_22⟩ : ∃ w : Int32, w = k9_37 + 1 := ⟨_, rfl⟩
          have iz_22 : z_22.toInt = k9_37.toInt + 1 := toInt_addI ez_22 (rfl) (by decide) (by omega)
          refine lv_iinc (v := z_22) (lv' := [(6, .int z_22), (3, .int z_21), (8, .int z_20), (7, .int z_12), (5, .int z_6), (4, .int z_5), (0, .ref h0), (1, .int x), (2, .int y)]) hx hb dX3_leastHeight_89 hl (k := 3) rfl (by rw [ez_22]; rfl) (by decide) rfl (fun ls hl => ?_)
          refine lv_goto (tgt := 37) hx hb dX3_leastHeight_92 (by decide) ?_
          exact ih_37 (z_22) _ _ _ _ (by omega) (by omega)  ⟨hP.sub [0, 1] rfl, hD.sub [0, 1] (by decide) rfl⟩ hS (lv_sub hl [0, 4, 5, 1, 6, 7, 8] rfl)
  · have ic_3 : r_2.toInt = 0 := ieq c_3 (rfl) (by decide)
    refine lv_iconst (v := (-1)) hx hb dX3_leastHeight_9 (by decide) ?_
    exact x_iret hx hb hr hlk hP hD hS [1, 0] (()) rfl (by decide) trivial (by decide) (by decide) dX3_leastHeight_10
set_option maxHeartbeats 4000000 in
set_option maxRecDepth 100000 in
theorem g_leastHeightForAll (l : Launch) (D : va_G) (cT : Nat → ClassId) (sz : Nat) (h0 : Nat) (a : Nat → Nat) (p0 : Int32) (p1 : Int32) (p2 : Int32) (p3 : Int32) (p4 : Int32) (p5 : Int32) (p6 : Int32) (p7 : Int32) (p8 : Int32) (p9 : Int32) (hs : 0 ≤ p0.toInt ∧ p0.toInt ≤ 16) (x : Int32) (y : Int32) (hxx : 0 ≤ x.toInt ∧ x.toInt ≤ 15) (f2 : Nat → Int32) : Met l yX3_leastHeightForAll (wsc yX3_leastHeightForAll cX3_leastHeightForAll 6 (some .int)) { frames := 4, cells := 0, slots := 0, locals := 150 } (va_Pc [.ref h0, .int x, .int y] (PX D cT sz [(sw_3 h0 p0 p1 p2 p3 p4 p5 p6 p7 p8 p9 (a 0) (a 1) (a 2) (a 3) (a 4) (a 5)), (sw_in cT (a 2) 16 f2)])) (va_Qi (fun (r : Int32) (u : Unit) => True) (fun u t => RW D (va_A [(sw_3 h0 p0 p1 p2 p3 p4 p5 p6 p7 p8 p9 (a 0) (a 1) (a 2) (a 3) (a 4) (a 5)), (sw_in cT (a 2) 16 f2)] sz) ((fun _ : Unit => [(sw_3 h0 p0 p1 p2 p3 p4 p5 p6 p7 p8 p9 (a 0) (a 1) (a 2) (a 3) (a 4) (a 5)), (sw_in cT (a 2) 16 f2)]) u) t) (va_A [(sw_3 h0 p0 p1 p2 p3 p4 p5 p6 p7 p8 p9 (a 0) (a 1) (a 2) (a 3) (a 4) (a 5)), (sw_in cT (a 2) 16 f2)] sz)) 0 0 (va_A [(sw_3 h0 p0 p1 p2 p3 p4 p5 p6 p7 p8 p9 (a 0) (a 1) (a 2) (a 3) (a 4) (a 5)), (sw_in cT (a 2) 16 f2)] sz) := by
  refine m_of (y := yX3_leastHeightForAll) (cc := cX3_leastHeightForAll) (nL := 6) (ret := (some .int)) (D := D) (cT := cT) (av := [.ref h0, .int x, .int y]) (wi := [(sw_3 h0 p0 p1 p2 p3 p4 p5 p6 p7 p8 p9 (a 0) (a 1) (a 2) (a 3) (a 4) (a 5)), (sw_in cT (a 2) 16 f2)]) (fun A => va_Qi (fun (r : Int32) (u : Unit) => True) (fun u t => RW D A ((fun _ : Unit => [(sw_3 h0 p0 p1 p2 p3 p4 p5 p6 p7 p8 p9 (a 0) (a 1) (a 2) (a 3) (a 4) (a 5)), (sw_in cT (a 2) 16 f2)]) u) t) A) (by decide) (Nat.le_of_ble_eq_true rfl) ?_
  intro p e s m below meth c A hx hb hml hown htg hK hN hr hlk hnm hsz hP hD hS hA ls hl
  have hown : s.vm.findClass RX3 = some m.cls := hown
  have hl : lv_has ls 6 [(0, .ref h0), (1, .int x), (2, .int y)] := hl
  refine lv_iconst (v := 1) hx hb dX3_leastHeightForAll_0 (by decide) ?_
  refine lv_istore_n (lv' := [(3, .int 1), (0, .ref h0), (1, .int x), (2, .int y)]) hx hb dX3_leastHeightForAll_1 rfl hl (by decide) rfl (fun ls hl => ?_)
  refine lv_iconst (v := 0) hx hb dX3_leastHeightForAll_2 (by decide) ?_
  refine lv_istore (lv' := [(4, .int 0), (3, .int 1), (0, .ref h0), (1, .int x), (2, .int y)]) hx hb dX3_leastHeightForAll_3 hl (by decide) rfl (fun ls hl => ?_)
  refine (fun (key : ∀ (n9_5 : Nat) (k9_5 : Nat) (x9_5_3 : Int32) (H : Heap) (locs : List Loc) (ls : Array Slot), (k9_5 : Int) ≤ p0.toInt → p0.toInt < (k9_5 : Int) + n9_5 → PD D A [(sw_3 h0 p0 p1 p2 p3 p4 p5 p6 p7 p8 p9 (a 0) (a 1) (a 2) (a 3) (a 4) (a 5)), (sw_in cT (a 2) 16 f2)] H → va_S A s.heap H locs → lv_has ls 6 [(4, .int (nI k9_5)), (3, .int x9_5_3), (0, .ref h0), (1, .int x), (2, .int y)] → W p l e _ s m _ below meth c H locs _ _ _ (F0 m 5 ls [])) => key (Int.toNat (p0.toInt - 0) + 1) 0 _ _ _ _ (by omega) (by omega)  ⟨hP, hD⟩ hS (lv_sub hl [0, 1, 2, 3, 4] rfl)) ?_
  intro n9_5
  induction n9_5 with
  | zero => intro k9_5 x9_5_3 H locs ls hq1 hq2; exact absurd hq2 (by omega)
  | succ n9_5 ih_5 =>
    intro k9_5 x9_5_3 H locs ls hq1_5 hq2_5  hPD hS hl
    obtain ⟨hP, hD⟩ := hPD
    have hk9_5 : (nI k9_5).toInt = (k9_5 : Int) := nI_toInt (by omega)
    refine lv_iload hx hb dX3_leastHeightForAll_5 (lv_at hl 0 rfl) ?_
    refine lv_aload_n hx hb dX3_leastHeightForAll_7 rfl (lv_at hl 2 rfl) ?_
    refine va_get (D := D) (ci := 3) (v := .int p0) (C := RX3) (T := TX3) (N := 16) hx hb htg gRX3 hown hK hP 0 rfl rfl 0 (by decide) (htg _ wi_166) (fun _ h9 => h9) rfl dX3_leastHeightForAll_8 ?_
    refine lv_icmp_ge (tgt := 53) hx hb dX3_leastHeightForAll_11 (by decide) (fun c_1 => ?_) (fun c_1 => ?_)
    · have ic_1 : p0.toInt ≤ ((k9_5 : Nat) : Int) := ile c_1 (rfl) (nI_toInt (by omega))
      refine lv_iload_n hx hb dX3_leastHeightForAll_53 rfl (lv_at hl 1 rfl) ?_
      exact x_iret hx hb hr hlk hP hD hS [0, 1] (()) rfl (by decide) trivial (by decide) (by decide) dX3_leastHeightForAll_54
    · have ic_1 : ((k9_5 : Nat) : Int) < p0.toInt := inle c_1 (rfl) (nI_toInt (by omega))
      refine lv_iload_n hx hb dX3_leastHeightForAll_14 rfl (lv_at hl 4 rfl) ?_
      refine lv_iload hx hb dX3_leastHeightForAll_15 (lv_at hl 0 rfl) ?_
      refine lv_ishr hx hb dX3_leastHeightForAll_17 ?_
      refine lv_topi (fun z_2 ez_2 => ?_)
      refine lv_iconst (v := 1) hx hb dX3_leastHeightForAll_18 (by decide) ?_
      refine lv_iand hx hb dX3_leastHeightForAll_19 ?_
      refine lv_topi (fun z_3 ez_3 => ?_)
      have iz_3 : 0 ≤ z_3.toInt ∧ z_3.toInt ≤ 1 := andI ez_3 (by decide) (by decide)
      refine lv_if_eq (tgt := 47) hx hb dX3_leastHeightForAll_20 (by decide) (fun c_4 => ?_) (fun c_4 => ?_)
      · have ic_4 : z_3.toInt = 0 := ieq c_4 (rfl) (by decide)
        refine lv_iinc (v := (nI (k9_5 + 1))) (lv' := [(4, .int (nI (k9_5 + 1))), (3, .int x9_5_3), (0, .ref h0), (1, .int x), (2, .int y)]) hx hb dX3_leastHeightForAll_47 hl (k := 0) rfl (by exact nI_1 (k9_5)) (by decide) rfl (fun ls hl => ?_)
        refine lv_goto (tgt := 5) hx hb dX3_leastHeightForAll_50 (by decide) ?_
        exact ih_5 (k9_5 + 1) _ _ _ _ (by omega) (by omega)  ⟨hP.sub [0, 1] rfl, hD.sub [0, 1] (by decide) rfl⟩ hS (lv_sub hl [0, 1, 2, 3, 4] rfl)
      · have ic_4 : ¬ z_3.toInt = 0 := ine c_4 (rfl) (by decide)
        refine lv_aload_n hx hb dX3_leastHeightForAll_23 rfl (lv_at hl 2 rfl) ?_
        refine lv_iload_n hx hb dX3_leastHeightForAll_24 rfl (lv_at hl 3 rfl) ?_
        refine lv_iload hx hb dX3_leastHeightForAll_25 (lv_at hl 0 rfl) ?_
        refine xk_i (wr := []) (xr_V (n := 2) (As := [.int x, .int (nI k9_5)]) (rest := []) ⟨hx, hb, hml, hown, htg⟩ hK hN hP hD hS hA [0, 1] rfl (by decide) (g_leastHeight l D cT _ (h0) (a) (p0) (p1) (p2) (p3) (p4) (p5) (p6) (p7) (p8) (p9) (x) ((nI k9_5)) (by first | assumption | decide | omega | (simp only [ti_0, ti_1, ti_2, ti_3, ti_4, ti_5, ti_6, ti_7, ti_8, ti_9, ti_10, ti_11, ti_12, ti_m1]; omega)) (by first | assumption | decide | omega | (simp only [ti_0, ti_1, ti_2, ti_3, ti_4, ti_5, ti_6, ti_7, ti_8, ti_9, ti_10, ti_11, ti_12, ti_m1]; omega)) (f2)) wi_745 wi_727 wi_26 wi_123 wi_728 rfl rfl rfl ⟨rfl, by decide +kernel⟩ ⟨Nat.le_of_ble_eq_true rfl, Nat.le_of_ble_eq_true rfl⟩ rfl hl.1 rfl (Nat.le_of_ble_eq_true rfl) dX3_leastHeightForAll_27 ⟨Nat.le_of_ble_eq_true rfl, Nat.le_of_ble_eq_true rfl⟩) hP hD hS hA [0, 1] [] rfl rfl (by decide) (by decide) (fun r_6 u_5 H locs hwr_6 hP hD hS => ?_)
        obtain ⟨hP, hD⟩ : PD D A [(sw_3 h0 p0 p1 p2 p3 p4 p5 p6 p7 p8 p9 (a 0) (a 1) (a 2) (a 3) (a 4) (a 5)), (sw_in cT (a 2) 16 f2)] _ := ⟨hP, hD⟩
        refine lv_istore (lv' := [(5, .int r_6), (4, .int (nI k9_5)), (3, .int x9_5_3), (0, .ref h0), (1, .int x), (2, .int y)]) hx hb dX3_leastHeightForAll_30 hl (by decide) rfl (fun ls hl => ?_)
        refine lv_iload hx hb dX3_leastHeightForAll_32 (lv_at hl 0 rfl) ?_
        refine lv_iconst (v := (-1)) hx hb dX3_leastHeightForAll_34 (by decide) ?_
        refine lv_icmp_ne (tgt := 40) hx hb dX3_leastHeightForAll_35 (by decide) (fun c_7 => ?_) (fun c_7 => ?_)
        · have ic_7 : ¬ r_6.toInt = (-1) := ine c_7 (rfl) (by decide)
          refine lv_iload_n hx hb dX3_leastHeightForAll_40 rfl (lv_at hl 2 rfl) ?_
          refine lv_iload hx hb dX3_leastHeightForAll_41 (lv_at hl 0 rfl) ?_
          refine va_mmax hx hb (by rw [hml]; exact hl.1.symm) hown (htg _ wi_681) (htg _ wi_527) (htg _ wi_132) (htg _ wi_528) (Nat.le_of_ble_eq_true rfl) (Nat.le_of_ble_eq_true rfl) (Nat.le_of_ble_eq_true rfl) (Nat.le_of_ble_eq_true rfl) dX3_leastHeightForAll_43 ?_
          refine lv_topi (fun z_8 ez_8 => ?_)
          have iz_8 := maxI (a := x9_5_3.toInt) (b := r_6.toInt) ez_8 (rfl) (rfl)
          refine lv_istore_n (lv' := [(3, .int z_8), (5, .int r_6), (4, .int (nI k9_5)), (0, .ref h0), (1, .int x), (2, .int y)]) hx hb dX3_leastHeightForAll_46 rfl hl (by decide) rfl (fun ls hl => ?_)
          refine lv_iinc (v := (nI (k9_5 + 1))) (lv' := [(4, .int (nI (k9_5 + 1))), (3, .int z_8), (5, .int r_6), (0, .ref h0), (1, .int x), (2, .int y)]) hx hb dX3_leastHeightForAll_47 hl (k := 2) rfl (by exact nI_1 (k9_5)) (by decide) rfl (fun ls hl => ?_)
          refine lv_goto (tgt := 5) hx hb dX3_leastHeightForAll_50 (by decide) ?_
          exact ih_5 (k9_5 + 1) _ _ _ _ (by omega) (by omega)  ⟨hP.sub [0, 1] rfl, hD.sub [0, 1] (by decide) rfl⟩ hS (lv_sub hl [0, 1, 3, 4, 5] rfl)
        · have ic_7 : r_6.toInt = (-1) := ieq c_7 (rfl) (by decide)
          refine lv_iconst (v := (-1)) hx hb dX3_leastHeightForAll_38 (by decide) ?_
          exact x_iret hx hb hr hlk hP hD hS [0, 1] (()) rfl (by decide) trivial (by decide) (by decide) dX3_leastHeightForAll_39
