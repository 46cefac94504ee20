set_option maxHeartbeats 4000000 in
set_option maxRecDepth 100000 in
theorem g_fillI256 (l : Launch) (D : va_G) (cT : Nat → ClassId) (sz : Nat) (b : Nat) (f : Nat → Int32) (v : Int32) : Met l yJ7_fill_53178 (wsc yJ7_fill_53178 cJ7_fill_53178 4 none) { frames := 2, cells := 0, slots := 0, locals := 100 } (va_Pc [.ref b, .int v] (PX D cT sz [(sw_in cT b 256 f)])) (va_Qv (fun (u : Unit) => True) (fun u t => RW D (va_A [(sw_in cT b 256 f)] sz) ((fun _ : Unit => [(sw_in cT b 256 (fillF (f) 256 (v)))]) u) t) (va_A [(sw_in cT b 256 f)] sz)) 0 0 (va_A [(sw_in cT b 256 f)] sz) := by
  refine m_of (y := yJ7_fill_53178) (cc := cJ7_fill_53178) (nL := 4) (ret := none) (D := D) (cT := cT) (av := [.ref b, .int v]) (wi := [(sw_in cT b 256 f)]) (fun A => va_Qv (fun (u : Unit) => True) (fun u t => RW D A ((fun _ : Unit => [(sw_in cT b 256 (fillF (f) 256 (v)))]) u) t) A) (by decide) (Nat.le_of_ble_eq_true rfl) ?_
  intro p e s m below meth c A hx hb hml hown htg hK hN hr hlk hnm hsz hP hD hS hA ls hl
  have hown : s.vm.findClass RJ7 = some m.cls := hown
  have hl : lv_has ls 4 [(0, .ref b), (1, .int v)] := hl
  obtain ⟨hP, hD⟩ : PD D A [(sw_in cT b 256 (fillF (f) 0 (v)))] _ := ⟨hP, hD⟩
  refine lv_iconst (v := 0) hx hb dJ7_fill_53178_0 (by decide) ?_
  refine lv_istore_n (lv' := [(2, .int 0), (0, .ref b), (1, .int v)]) hx hb dJ7_fill_53178_1 rfl hl (by decide) rfl (fun ls hl => ?_)
  refine lv_aload_n hx hb dJ7_fill_53178_2 rfl (lv_at hl 1 rfl) ?_
  refine va_alen (v := 256) hx hb hK hP 0 0 rfl rfl rfl dJ7_fill_53178_3 ?_
  refine lv_istore_n (lv' := [(3, .int 256), (2, .int 0), (0, .ref b), (1, .int v)]) hx hb dJ7_fill_53178_4 rfl hl (by decide) rfl (fun ls hl => ?_)
  refine (fun (key : ∀ (n9_5 : Nat) (k9_5 : Nat)  (H : Heap) (locs : List Loc) (ls : Array Slot), (k9_5 : Int) ≤ 256 → 256 < (k9_5 : Int) + n9_5 → PD D A [(sw_in cT b 256 (fillF (f) k9_5 (v)))] H → va_S A s.heap H locs → lv_has ls 4 [(3, .int 256), (2, .int (nI k9_5)), (0, .ref b), (1, .int v)] → W p l e _ s m _ below meth c H locs _ _ _ (F0 m 5 ls [])) => key (Int.toNat (256 - 0) + 1) 0  _ _ _ (by omega) (by omega)  ⟨hP, hD⟩ hS (lv_sub hl [0, 1, 2, 3] rfl)) ?_
  intro n9_5
  induction n9_5 with
  | zero => intro k9_5  H locs ls hq1 hq2; exact absurd hq2 (by omega)
  | succ n9_5 ih_5 =>
    intro k9_5  H locs ls hq1_5 hq2_5  hPD hS hl
    obtain ⟨hP, hD⟩ := hPD
    have hk9_5 : (nI k9_5).toInt = (k9_5 : Int) := nI_toInt (by omega)
    refine lv_iload_n hx hb dJ7_fill_53178_5 rfl (lv_at hl 1 rfl) ?_
    refine lv_iload_n hx hb dJ7_fill_53178_6 rfl (lv_at hl 0 rfl) ?_
    refine lv_icmp_ge (tgt := 20) hx hb dJ7_fill_53178_7 (by decide) (fun c_1 => ?_) (fun c_1 => ?_)
    · have ic_1 : 256 ≤ ((k9_5 : Nat) : Int) := ile c_1 (by decide) (nI_toInt (by omega))
      have e8 : k9_5 = 256 := by omega
      subst e8
      exact x_vret hx hb hr hlk hP hD hS [0] (()) rfl (by decide) trivial (by decide) (by decide) dJ7_fill_53178_20
    · have ic_1 : ((k9_5 : Nat) : Int) < 256 := inle c_1 (by decide) (nI_toInt (by omega))
      refine lv_aload_n hx hb dJ7_fill_53178_10 rfl (lv_at hl 2 rfl) ?_
      refine lv_iload_n hx hb dJ7_fill_53178_11 rfl (lv_at hl 1 rfl) ?_
      refine lv_iload_n hx hb dJ7_fill_53178_12 rfl (lv_at hl 3 rfl) ?_
      refine va_iast hx hb hK hP hD hS 0 0 rfl rfl (vp_in_nI (by omega) (by omega)) dJ7_fill_53178_13 (fun H locs hP hD hS => ?_)
      have e9 : upd (fillF (f) k9_5 (v)) (nI k9_5).toNatClampNeg (v) = fillF (f) (k9_5 + 1) (v) := by rw [nI_clamp (by omega)]; exact fillF_s (f) k9_5 (v)
      have hP : va_P D classes [(sw_in cT b 256 (fillF (f) (k9_5 + 1) (v)))] H := by rw [← e9]; exact hP
      have hD : va_D A [(sw_in cT b 256 (fillF (f) (k9_5 + 1) (v)))] := by rw [← e9]; exact hD
      refine lv_iinc (v := (nI (k9_5 + 1))) (lv' := [(2, .int (nI (k9_5 + 1))), (3, .int 256), (0, .ref b), (1, .int v)]) hx hb dJ7_fill_53178_14 hl (k := 1) rfl (by exact nI_1 (k9_5)) (by decide) rfl (fun ls hl => ?_)
      refine lv_goto (tgt := 5) hx hb dJ7_fill_53178_17 (by decide) ?_
      exact ih_5 (k9_5 + 1)  _ _ _ (by omega) (by omega)  ⟨hP.sub [0] rfl, hD.sub [0] (by decide) rfl⟩ hS (lv_sub hl [1, 0, 2, 3] rfl)
set_option maxHeartbeats 4000000 in
set_option maxRecDepth 100000 in
theorem g_fillI4096 (l : Launch) (D : va_G) (cT : Nat → ClassId) (sz : Nat) (b : Nat) (f : Nat → Int32) (v : Int32) : Met l yJ7_fill_53178 (wsc yJ7_fill_53178 cJ7_fill_53178 4 none) { frames := 2, cells := 0, slots := 0, locals := 100 } (va_Pc [.ref b, .int v] (PX D cT sz [(sw_in cT b 4096 f)])) (va_Qv (fun (u : Unit) => True) (fun u t => RW D (va_A [(sw_in cT b 4096 f)] sz) ((fun _ : Unit => [(sw_in cT b 4096 (fillF (f) 4096 (v)))]) u) t) (va_A [(sw_in cT b 4096 f)] sz)) 0 0 (va_A [(sw_in cT b 4096 f)] sz) := by
  refine m_of (y := yJ7_fill_53178) (cc := cJ7_fill_53178) (nL := 4) (ret := none) (D := D) (cT := cT) (av := [.ref b, .int v]) (wi := [(sw_in cT b 4096 f)]) (fun A => va_Qv (fun (u : Unit) => True) (fun u t => RW D A ((fun _ : Unit => [(sw_in cT b 4096 (fillF (f) 4096 (v)))]) u) t) A) (by decide) (Nat.le_of_ble_eq_true rfl) ?_
  intro p e s m below meth c A hx hb hml hown htg hK hN hr hlk hnm hsz hP hD hS hA ls hl
  have hown : s.vm.findClass RJ7 = some m.cls := hown
  have hl : lv_has ls 4 [(0, .ref b), (1, .int v)] := hl
  obtain ⟨hP, hD⟩ : PD D A [(sw_in cT b 4096 (fillF (f) 0 (v)))] _ := ⟨hP, hD⟩
  refine lv_iconst (v := 0) hx hb dJ7_fill_53178_0 (by decide) ?_
  refine lv_istore_n (lv' := [(2, .int 0), (0, .ref b), (1, .int v)]) hx hb dJ7_fill_53178_1 rfl hl (by decide) rfl (fun ls hl => ?_)
  refine lv_aload_n hx hb dJ7_fill_53178_2 rfl (lv_at hl 1 rfl) ?_
  refine va_alen (v := 4096) hx hb hK hP 0 0 rfl rfl rfl dJ7_fill_53178_3 ?_
  refine lv_istore_n (lv' := [(3, .int 4096), (2, .int 0), (0, .ref b), (1, .int v)]) hx hb dJ7_fill_53178_4 rfl hl (by decide) rfl (fun ls hl => ?_)
  refine (fun (key : ∀ (n9_5 : Nat) (k9_5 : Nat)  (H : Heap) (locs : List Loc) (ls : Array Slot), (k9_5 : Int) ≤ 4096 → 4096 < (k9_5 : Int) + n9_5 → PD D A [(sw_in cT b 4096 (fillF (f) k9_5 (v)))] H → va_S A s.heap H locs → lv_has ls 4 [(3, .int 4096), (2, .int (nI k9_5)), (0, .ref b), (1, .int v)] → W p l e _ s m _ below meth c H locs _ _ _ (F0 m 5 ls [])) => key (Int.toNat (4096 - 0) + 1) 0  _ _ _ (by omega) (by omega)  ⟨hP, hD⟩ hS (lv_sub hl [0, 1, 2, 3] rfl)) ?_
  intro n9_5
  induction n9_5 with
  | zero => intro k9_5  H locs ls hq1 hq2; exact absurd hq2 (by omega)
  | succ n9_5 ih_5 =>
    intro k9_5  H locs ls hq1_5 hq2_5  hPD hS hl
    obtain ⟨hP, hD⟩ := hPD
    have hk9_5 : (nI k9_5).toInt = (k9_5 : Int) := nI_toInt (by omega)
    refine lv_iload_n hx hb dJ7_fill_53178_5 rfl (lv_at hl 1 rfl) ?_
    refine lv_iload_n hx hb dJ7_fill_53178_6 rfl (lv_at hl 0 rfl) ?_
    refine lv_icmp_ge (tgt := 20) hx hb dJ7_fill_53178_7 (by decide) (fun c_1 => ?_) (fun c_1 => ?_)
    · have ic_1 : 4096 ≤ ((k9_5 : Nat) : Int) := ile c_1 (by decide) (nI_toInt (by omega))
      have e8 : k9_5 = 4096 := by omega
      subst e8
      exact x_vret hx hb hr hlk hP hD hS [0] (()) rfl (by decide) trivial (by decide) (by decide) dJ7_fill_53178_20
    · have ic_1 : ((k9_5 : Nat) : Int) < 4096 := inle c_1 (by decide) (nI_toInt (by omega))
      refine lv_aload_n hx hb dJ7_fill_53178_10 rfl (lv_at hl 2 rfl) ?_
      refine lv_iload_n hx hb dJ7_fill_53178_11 rfl (lv_at hl 1 rfl) ?_
      refine lv_iload_n hx hb dJ7_fill_53178_12 rfl (lv_at hl 3 rfl) ?_
      refine va_iast hx hb hK hP hD hS 0 0 rfl rfl (vp_in_nI (by omega) (by omega)) dJ7_fill_53178_13 (fun H locs hP hD hS => ?_)
      have e9 : upd (fillF (f) k9_5 (v)) (nI k9_5).toNatClampNeg (v) = fillF (f) (k9_5 + 1) (v) := by rw [nI_clamp (by omega)]; exact fillF_s (f) k9_5 (v)
      have hP : va_P D classes [(sw_in cT b 4096 (fillF (f) (k9_5 + 1) (v)))] H := by rw [← e9]; exact hP
      have hD : va_D A [(sw_in cT b 4096 (fillF (f) (k9_5 + 1) (v)))] := by rw [← e9]; exact hD
      refine lv_iinc (v := (nI (k9_5 + 1))) (lv' := [(2, .int (nI (k9_5 + 1))), (3, .int 4096), (0, .ref b), (1, .int v)]) hx hb dJ7_fill_53178_14 hl (k := 1) rfl (by exact nI_1 (k9_5)) (by decide) rfl (fun ls hl => ?_)
      refine lv_goto (tgt := 5) hx hb dJ7_fill_53178_17 (by decide) ?_
      exact ih_5 (k9_5 + 1)  _ _ _ (by omega) (by omega)  ⟨hP.sub [0] rfl, hD.sub [0] (by decide) rfl⟩ hS (lv_sub hl [1, 0, 2, 3] rfl)
set_option maxHeartbeats 4000000 in
set_option maxRecDepth 100000 in
theorem g_valueAt (l : Launch) (D : va_G) (cT : Nat → ClassId) (sz : Nat) (h0 : Nat) (b : Nat) (w0 : Int32) (w1 : Int32) (w2 : Int32) (hw2 : 0 ≤ w2.toInt ∧ w2.toInt ≤ 40) (f : Nat → Int64) (x : Int32) : Met l yX4_valueAt (wsc yX4_valueAt cX4_valueAt 2 (some .long)) { frames := 2, cells := 0, slots := 0, locals := 100 } (va_Pc [.ref h0, .int x] (PX D cT sz [(sw_4 h0 w0 w1 w2 b), (sw_lo cT b 40 f)])) (va_Ql (fun (r : Int64) (u : Unit) => True) (fun u t => RW D (va_A [(sw_4 h0 w0 w1 w2 b), (sw_lo cT b 40 f)] sz) ((fun _ : Unit => [(sw_4 h0 w0 w1 w2 b), (sw_lo cT b 40 f)]) u) t) (va_A [(sw_4 h0 w0 w1 w2 b), (sw_lo cT b 40 f)] sz)) 0 0 (va_A [(sw_4 h0 w0 w1 w2 b), (sw_lo cT b 40 f)] sz) := by
  refine m_of (y := yX4_valueAt) (cc := cX4_valueAt) (nL := 2) (ret := (some .long)) (D := D) (cT := cT) (av := [.ref h0, .int x]) (wi := [(sw_4 h0 w0 w1 w2 b), (sw_lo cT b 40 f)]) (fun A => va_Ql (fun (r : Int64) (u : Unit) => True) (fun u t => RW D A ((fun _ : Unit => [(sw_4 h0 w0 w1 w2 b), (sw_lo cT b 40 f)]) u) t) A) (by decide) (Nat.le_of_ble_eq_true rfl) ?_
  intro p e s m below meth c A hx hb hml hown htg hK hN hr hlk hnm hsz hP hD hS hA ls hl
  have hown : s.vm.findClass RX4 = some m.cls := hown
  have hl : lv_has ls 2 [(0, .ref h0), (1, .int x)] := hl
  refine lv_iload_n hx hb dX4_valueAt_0 rfl (lv_at hl 1 rfl) ?_
  refine lv_if_lt (tgt := 21) hx hb dX4_valueAt_1 (by decide) (fun c_1 => ?_) (fun c_1 => ?_)
  · have ic_1 : x.toInt < 0 := ilt c_1 (rfl) (by decide)
    refine lv_ldc2 (v := (-1)) hx hb hown (htg _ wi_788) dX4_valueAt_21 ?_
    exact x_lret hx hb hr hlk hP hD hS [0, 1] (()) rfl (by decide) trivial (by decide) (by decide) dX4_valueAt_24
  · have ic_1 : 0 ≤ x.toInt := inlt c_1 (rfl) (by decide)
    refine lv_iload_n hx hb dX4_valueAt_4 rfl (lv_at hl 1 rfl) ?_
    refine lv_aload_n hx hb dX4_valueAt_5 rfl (lv_at hl 0 rfl) ?_
    refine va_get (D := D) (ci := 4) (v := .int w2) (C := RX4) (T := TX4) (N := 4) hx hb htg gRX4 hown hK hP 0 rfl rfl 2 (by decide) (htg _ wi_454) (fun _ h9 => h9) rfl dX4_valueAt_6 ?_
    refine lv_icmp_ge (tgt := 21) hx hb dX4_valueAt_9 (by decide) (fun c_2 => ?_) (fun c_2 => ?_)
    · have ic_2 : w2.toInt ≤ x.toInt := ile c_2 (rfl) (rfl)
      refine lv_ldc2 (v := (-1)) hx hb hown (htg _ wi_788) dX4_valueAt_21 ?_
      exact x_lret hx hb hr hlk hP hD hS [0, 1] (()) rfl (by decide) trivial (by decide) (by decide) dX4_valueAt_24
    · have ic_2 : x.toInt < w2.toInt := inle c_2 (rfl) (rfl)
      refine lv_aload_n hx hb dX4_valueAt_12 rfl (lv_at hl 0 rfl) ?_
      refine va_get (D := D) (ci := 4) (v := .ref b) (C := RX4) (T := TX4) (N := 4) hx hb htg gRX4 hown hK hP 0 rfl rfl 3 (by decide) (htg _ wi_457) (fun _ h9 => h9) rfl dX4_valueAt_13 ?_
      refine lv_iload_n hx hb dX4_valueAt_16 rfl (lv_at hl 1 rfl) ?_
      refine va_lald hx hb hK hP 1 1 rfl rfl (vp_in_iff.mpr (by omega)) dX4_valueAt_17 ?_
      refine lv_topl (fun z_3 ez_3 => ?_)
      refine lv_goto (tgt := 24) hx hb dX4_valueAt_18 (by decide) ?_
      exact x_lret hx hb hr hlk hP hD hS [0, 1] (()) rfl (by decide) trivial (by decide) (by decide) dX4_valueAt_24
set_option maxHeartbeats 4000000 in
set_option maxRecDepth 100000 in
theorem g_allStrips (l : Launch) (D : va_G) (cT : Nat → ClassId) (sz : Nat) (h0 : Nat) (a : Nat → Nat) (p0 : Int32) (p1 : Int32) (p2 : Int32) (p3 : Int32) (p4 : Int32) (p5 : Int32) (p6 : Int32) (p7 : Int32) (p8 : Int32) (p9 : Int32) : Met l yX3_allStrips (wsc yX3_allStrips cX3_allStrips 1 (some .int)) { frames := 2, cells := 0, slots := 0, locals := 100 } (va_Pc [.ref h0] (PX D cT sz [(sw_3 h0 p0 p1 p2 p3 p4 p5 p6 p7 p8 p9 (a 0) (a 1) (a 2) (a 3) (a 4) (a 5))])) (va_Qi (fun (r : Int32) (u : Unit) => True) (fun u t => RW D (va_A [(sw_3 h0 p0 p1 p2 p3 p4 p5 p6 p7 p8 p9 (a 0) (a 1) (a 2) (a 3) (a 4) (a 5))] sz) ((fun _ : Unit => [(sw_3 h0 p0 p1 p2 p3 p4 p5 p6 p7 p8 p9 (a 0) (a 1) (a 2) (a 3) (a 4) (a 5))]) u) t) (va_A [(sw_3 h0 p0 p1 p2 p3 p4 p5 p6 p7 p8 p9 (a 0) (a 1) (a 2) (a 3) (a 4) (a 5))] sz)) 0 0 (va_A [(sw_3 h0 p0 p1 p2 p3 p4 p5 p6 p7 p8 p9 (a 0) (a 1) (a 2) (a 3) (a 4) (a 5))] sz) := by
  refine m_of (y := yX3_allStrips) (cc := cX3_allStrips) (nL := 1) (ret := (some .int)) (D := D) (cT := cT) (av := [.ref h0]) (wi := [(sw_3 h0 p0 p1 p2 p3 p4 p5 p6 p7 p8 p9 (a 0) (a 1) (a 2) (a 3) (a 4) (a 5))]) (fun A => va_Qi (fun (r : Int32) (u : Unit) => True) (fun u t => RW D A ((fun _ : Unit => [(sw_3 h0 p0 p1 p2 p3 p4 p5 p6 p7 p8 p9 (a 0) (a 1) (a 2) (a 3) (a 4) (a 5))]) u) t) A) (by decide) (Nat.le_of_ble_eq_true rfl) ?_
  intro p e s m below meth c A hx hb hml hown htg hK hN hr hlk hnm hsz hP hD hS hA ls hl
  have hown : s.vm.findClass RX3 = some m.cls := hown
  have hl : lv_has ls 1 [(0, .ref h0)] := hl
  refine lv_iconst (v := 1) hx hb dX3_allStrips_0 (by decide) ?_
  refine lv_aload_n hx hb dX3_allStrips_1 rfl (lv_at hl 0 rfl) ?_
  refine va_get (D := D) (ci := 3) (v := .int p0) (C := RX3) (T := TX3) (N := 16) hx hb htg gRX3 hown hK hP 0 rfl rfl 0 (by decide) (htg _ wi_166) (fun _ h9 => h9) rfl dX3_allStrips_2 ?_
  refine lv_ishl hx hb dX3_allStrips_5 ?_
  refine lv_topi (fun z_1 ez_1 => ?_)
  refine lv_iconst (v := 1) hx hb dX3_allStrips_6 (by decide) ?_
  refine lv_isub hx hb dX3_allStrips_7 ?_
  refine lv_topi (fun z_2 ez_2 => ?_)
  exact x_iret hx hb hr hlk hP hD hS [0] (()) rfl (by decide) trivial (by decide) (by decide) dX3_allStrips_8
set_option maxHeartbeats 4000000 in
set_option maxRecDepth 100000 in
theorem g_hangsOver (l : Launch) (D : va_G) (cT : Nat → ClassId) (sz : Nat) (h0 : Nat) (a : Nat → Nat) (p0 : Int32) (p1 : Int32) (p2 : Int32) (p3 : Int32) (p4 : Int32) (p5 : Int32) (p6 : Int32) (p7 : Int32) (p8 : Int32) (p9 : Int32) : Met l yX3_hangsOver (wsc yX3_hangsOver cX3_hangsOver 1 (some .int)) { frames := 2, cells := 0, slots := 0, locals := 100 } (va_Pc [.ref h0] (PX D cT sz [(sw_3 h0 p0 p1 p2 p3 p4 p5 p6 p7 p8 p9 (a 0) (a 1) (a 2) (a 3) (a 4) (a 5))])) (va_Qi (fun (r : Int32) (u : Unit) => True) (fun u t => RW D (va_A [(sw_3 h0 p0 p1 p2 p3 p4 p5 p6 p7 p8 p9 (a 0) (a 1) (a 2) (a 3) (a 4) (a 5))] sz) ((fun _ : Unit => [(sw_3 h0 p0 p1 p2 p3 p4 p5 p6 p7 p8 p9 (a 0) (a 1) (a 2) (a 3) (a 4) (a 5))]) u) t) (va_A [(sw_3 h0 p0 p1 p2 p3 p4 p5 p6 p7 p8 p9 (a 0) (a 1) (a 2) (a 3) (a 4) (a 5))] sz)) 0 0 (va_A [(sw_3 h0 p0 p1 p2 p3 p4 p5 p6 p7 p8 p9 (a 0) (a 1) (a 2) (a 3) (a 4) (a 5))] sz) := by
  refine m_of (y := yX3_hangsOver) (cc := cX3_hangsOver) (nL := 1) (ret := (some .int)) (D := D) (cT := cT) (av := [.ref h0]) (wi := [(sw_3 h0 p0 p1 p2 p3 p4 p5 p6 p7 p8 p9 (a 0) (a 1) (a 2) (a 3) (a 4) (a 5))]) (fun A => va_Qi (fun (r : Int32) (u : Unit) => True) (fun u t => RW D A ((fun _ : Unit => [(sw_3 h0 p0 p1 p2 p3 p4 p5 p6 p7 p8 p9 (a 0) (a 1) (a 2) (a 3) (a 4) (a 5))]) u) t) A) (by decide) (Nat.le_of_ble_eq_true rfl) ?_
  intro p e s m below meth c A hx hb hml hown htg hK hN hr hlk hnm hsz hP hD hS hA ls hl
  have hown : s.vm.findClass RX3 = some m.cls := hown
  have hl : lv_has ls 1 [(0, .ref h0)] := hl
  refine lv_aload_n hx hb dX3_hangsOver_0 rfl (lv_at hl 0 rfl) ?_
  refine va_get (D := D) (ci := 3) (v := .int p0) (C := RX3) (T := TX3) (N := 16) hx hb htg gRX3 hown hK hP 0 rfl rfl 0 (by decide) (htg _ wi_166) (fun _ h9 => h9) rfl dX3_hangsOver_1 ?_
  refine lv_if_ne (tgt := 11) hx hb dX3_hangsOver_4 (by decide) (fun c_1 => ?_) (fun c_1 => ?_)
  · have ic_1 : ¬ p0.toInt = 0 := ine c_1 (rfl) (by decide)
    refine lv_aload_n hx hb dX3_hangsOver_11 rfl (lv_at hl 0 rfl) ?_
    refine va_get (D := D) (ci := 3) (v := .int p3) (C := RX3) (T := TX3) (N := 16) hx hb htg gRX3 hown hK hP 0 rfl rfl 3 (by decide) (htg _ wi_178) (fun _ h9 => h9) rfl dX3_hangsOver_12 ?_
    exact x_iret hx hb hr hlk hP hD hS [0] (()) rfl (by decide) trivial (by decide) (by decide) dX3_hangsOver_15
  · have ic_1 : p0.toInt = 0 := ieq c_1 (rfl) (by decide)
    refine lv_iconst (v := (-1)) hx hb dX3_hangsOver_7 (by decide) ?_
    refine lv_goto (tgt := 15) hx hb dX3_hangsOver_8 (by decide) ?_
    exact x_iret hx hb hr hlk hP hD hS [0] (()) rfl (by decide) trivial (by decide) (by decide) dX3_hangsOver_15
set_option maxHeartbeats 4000000 in
set_option maxRecDepth 100000 in
theorem g_sum (l : Launch) (D : va_G) (cT : Nat → ClassId) (sz : Nat) (h0 : Nat) (a : Nat → Nat) (p0 : Int32) (p1 : Int32) (p2 : Int32) (p3 : Int32) (p4 : Int32) (p5 : Int32) (p6 : Int32) (p7 : Int32) (p8 : Int32) (p9 : Int32) (hs : 0 ≤ p0.toInt ∧ p0.toInt ≤ 16) (b : Nat) (f : Nat → Int32) : Met l yX3_sum (wsc yX3_sum cX3_sum 4 (some .int)) { frames := 2, cells := 0, slots := 0, locals := 100 } (va_Pc [.ref h0, .ref b] (PX D cT sz [(sw_3 h0 p0 p1 p2 p3 p4 p5 p6 p7 p8 p9 (a 0) (a 1) (a 2) (a 3) (a 4) (a 5)), (sw_in cT b 16 f)])) (va_Qi (fun (r : Int32) (u : Unit) => True) (fun u t => RW D (va_A [(sw_3 h0 p0 p1 p2 p3 p4 p5 p6 p7 p8 p9 (a 0) (a 1) (a 2) (a 3) (a 4) (a 5)), (sw_in cT b 16 f)] sz) ((fun _ : Unit => [(sw_3 h0 p0 p1 p2 p3 p4 p5 p6 p7 p8 p9 (a 0) (a 1) (a 2) (a 3) (a 4) (a 5)), (sw_in cT b 16 f)]) u) t) (va_A [(sw_3 h0 p0 p1 p2 p3 p4 p5 p6 p7 p8 p9 (a 0) (a 1) (a 2) (a 3) (a 4) (a 5)), (sw_in cT b 16 f)] sz)) 0 0 (va_A [(sw_3 h0 p0 p1 p2 p3 p4 p5 p6 p7 p8 p9 (a 0) (a 1) (a 2) (a 3) (a 4) (a 5)), (sw_in cT b 16 f)] sz) := by
  refine m_of (y := yX3_sum) (cc := cX3_sum) (nL := 4) (ret := (some .int)) (D := D) (cT := cT) (av := [.ref h0, .ref b]) (wi := [(sw_3 h0 p0 p1 p2 p3 p4 p5 p6 p7 p8 p9 (a 0) (a 1) (a 2) (a 3) (a 4) (a 5)), (sw_in cT b 16 f)]) (fun A => va_Qi (fun (r : Int32) (u : Unit) => True) (fun u t => RW D A ((fun _ : Unit => [(sw_3 h0 p0 p1 p2 p3 p4 p5 p6 p7 p8 p9 (a 0) (a 1) (a 2) (a 3) (a 4) (a 5)), (sw_in cT b 16 f)]) u) t) A) (by decide) (Nat.le_of_ble_eq_true rfl) ?_
  intro p e s m below meth c A hx hb hml hown htg hK hN hr hlk hnm hsz hP hD hS hA ls hl
  have hown : s.vm.findClass RX3 = some m.cls := hown
  have hl : lv_has ls 4 [(0, .ref h0), (1, .ref b)] := hl
  refine lv_iconst (v := 0) hx hb dX3_sum_0 (by decide) ?_
  refine lv_istore_n (lv' := [(2, .int 0), (0, .ref h0), (1, .ref b)]) hx hb dX3_sum_1 rfl hl (by decide) rfl (fun ls hl => ?_)
  refine lv_iconst (v := 0) hx hb dX3_sum_2 (by decide) ?_
  refine lv_istore_n (lv' := [(3, .int 0), (2, .int 0), (0, .ref h0), (1, .ref b)]) hx hb dX3_sum_3 rfl hl (by decide) rfl (fun ls hl => ?_)
  refine (fun (key : ∀ (n9_4 : Nat) (k9_4 : Nat) (x9_4_2 : Int32) (H : Heap) (locs : List Loc) (ls : Array Slot), (k9_4 : Int) ≤ p0.toInt → p0.toInt < (k9_4 : Int) + n9_4 → PD D A [(sw_3 h0 p0 p1 p2 p3 p4 p5 p6 p7 p8 p9 (a 0) (a 1) (a 2) (a 3) (a 4) (a 5)), (sw_in cT b 16 f)] H → va_S A s.heap H locs → lv_has ls 4 [(3, .int (nI k9_4)), (2, .int x9_4_2), (0, .ref h0), (1, .ref b)] → W p l e _ s m _ below meth c H locs _ _ _ (F0 m 4 ls [])) => key (Int.toNat (p0.toInt - 0) + 1) 0 _ _ _ _ (by omega) (by omega)  ⟨hP, hD⟩ hS (lv_sub hl [0, 1, 2, 3] rfl)) ?_
  intro n9_4
  induction n9_4 with
  | zero => intro k9_4 x9_4_2 H locs ls hq1 hq2; exact absurd hq2 (by omega)
  | succ n9_4 ih_4 =>
    intro k9_4 x9_4_2 H locs ls hq1_4 hq2_4  hPD hS hl
    obtain ⟨hP, hD⟩ := hPD
    have hk9_4 : (nI k9_4).toInt = (k9_4 : Int) := nI_toInt (by omega)
    refine lv_iload_n hx hb dX3_sum_4 rfl (lv_at hl 0 rfl) ?_
    refine lv_aload_n hx hb dX3_sum_5 rfl (lv_at hl 2 rfl) ?_
    refine va_get (D := D) (ci := 3) (v := .int p0) (C := RX3) (T := TX3) (N := 16) hx hb htg gRX3 hown hK hP 0 rfl rfl 0 (by decide) (htg _ wi_166) (fun _ h9 => h9) rfl dX3_sum_6 ?_
    refine lv_icmp_ge (tgt := 24) hx hb dX3_sum_9 (by decide) (fun c_1 => ?_) (fun c_1 => ?_)
    · have ic_1 : p0.toInt ≤ ((k9_4 : Nat) : Int) := ile c_1 (rfl) (nI_toInt (by omega))
      refine lv_iload_n hx hb dX3_sum_24 rfl (lv_at hl 1 rfl) ?_
      exact x_iret hx hb hr hlk hP hD hS [0, 1] (()) rfl (by decide) trivial (by decide) (by decide) dX3_sum_25
    · have ic_1 : ((k9_4 : Nat) : Int) < p0.toInt := inle c_1 (rfl) (nI_toInt (by omega))
      refine lv_iload_n hx hb dX3_sum_12 rfl (lv_at hl 1 rfl) ?_
      refine lv_aload_n hx hb dX3_sum_13 rfl (lv_at hl 3 rfl) ?_
      refine lv_iload_n hx hb dX3_sum_14 rfl (lv_at hl 0 rfl) ?_
      refine va_iald hx hb hK hP 1 0 rfl rfl (vp_in_nI (by omega) (by omega)) dX3_sum_15 ?_
      refine lv_topi (fun z_2 ez_2 => ?_)
      refine lv_iadd hx hb dX3_sum_16 ?_
      refine lv_topi (fun z_3 ez_3 => ?_)
      refine lv_istore_n (lv' := [(2, .int z_3), (3, .int (nI k9_4)), (0, .ref h0), (1, .ref b)]) hx hb dX3_sum_17 rfl hl (by decide) rfl (fun ls hl => ?_)
      refine lv_iinc (v := (nI (k9_4 + 1))) (lv' := [(3, .int (nI (k9_4 + 1))), (2, .int z_3), (0, .ref h0), (1, .ref b)]) hx hb dX3_sum_18 hl (k := 1) rfl (by exact nI_1 (k9_4)) (by decide) rfl (fun ls hl => ?_)
      refine lv_goto (tgt := 4) hx hb dX3_sum_21 (by decide) ?_
      exact ih_4 (k9_4 + 1) _ _ _ _ (by omega) (by omega)  ⟨hP.sub [0, 1] rfl, hD.sub [0, 1] (by decide) rfl⟩ hS (lv_sub hl [0, 1, 2, 3] rfl)
set_option maxHeartbeats 4000000 in
set_option maxRecDepth 100000 in
theorem g_unshadedLight (l : Launch) (D : va_G) (cT : Nat → ClassId) (sz : Nat) (h0 : Nat) (a : Nat → Nat) (p0 : Int32) (p1 : Int32) (p2 : Int32) (p3 : Int32) (p4 : Int32) (p5 : Int32) (p6 : Int32) (p7 : Int32) (p8 : Int32) (p9 : Int32) (x : Int32) (y : Int32) : Met l yX3_unshadedLight (wsc yX3_unshadedLight cX3_unshadedLight 3 (some .int)) { frames := 2, cells := 0, slots := 0, locals := 100 } (va_Pc [.ref h0, .int x, .int y] (PX D cT sz [(sw_3 h0 p0 p1 p2 p3 p4 p5 p6 p7 p8 p9 (a 0) (a 1) (a 2) (a 3) (a 4) (a 5))])) (va_Qi (fun (r : Int32) (u : Unit) => True) (fun u t => RW D (va_A [(sw_3 h0 p0 p1 p2 p3 p4 p5 p6 p7 p8 p9 (a 0) (a 1) (a 2) (a 3) (a 4) (a 5))] sz) ((fun _ : Unit => [(sw_3 h0 p0 p1 p2 p3 p4 p5 p6 p7 p8 p9 (a 0) (a 1) (a 2) (a 3) (a 4) (a 5))]) u) t) (va_A [(sw_3 h0 p0 p1 p2 p3 p4 p5 p6 p7 p8 p9 (a 0) (a 1) (a 2) (a 3) (a 4) (a 5))] sz)) 0 0 (va_A [(sw_3 h0 p0 p1 p2 p3 p4 p5 p6 p7 p8 p9 (a 0) (a 1) (a 2) (a 3) (a 4) (a 5))] sz) := by
  refine m_of (y := yX3_unshadedLight) (cc := cX3_unshadedLight) (nL := 3) (ret := (some .int)) (D := D) (cT := cT) (av := [.ref h0, .int x, .int y]) (wi := [(sw_3 h0 p0 p1 p2 p3 p4 p5 p6 p7 p8 p9 (a 0) (a 1) (a 2) (a 3) (a 4) (a 5))]) (fun A => va_Qi (fun (r : Int32) (u : Unit) => True) (fun u t => RW D A ((fun _ : Unit => [(sw_3 h0 p0 p1 p2 p3 p4 p5 p6 p7 p8 p9 (a 0) (a 1) (a 2) (a 3) (a 4) (a 5))]) u) t) A) (by decide) (Nat.le_of_ble_eq_true rfl) ?_
  intro p e s m below meth c A hx hb hml hown htg hK hN hr hlk hnm hsz hP hD hS hA ls hl
  have hown : s.vm.findClass RX3 = some m.cls := hown
  have hl : lv_has ls 3 [(0, .ref h0), (1, .int x), (2, .int y)] := hl
  refine lv_iconst (v := 0) hx hb dX3_unshadedLight_0 (by decide) ?_
  refine lv_aload_n hx hb dX3_unshadedLight_1 rfl (lv_at hl 0 rfl) ?_
  refine va_get (D := D) (ci := 3) (v := .int p5) (C := RX3) (T := TX3) (N := 16) hx hb htg gRX3 hown hK hP 0 rfl rfl 5 (by decide) (htg _ wi_184) (fun _ h9 => h9) rfl dX3_unshadedLight_2 ?_
  refine lv_aload_n hx hb dX3_unshadedLight_5 rfl (lv_at hl 0 rfl) ?_
  refine va_get (D := D) (ci := 3) (v := .int p6) (C := RX3) (T := TX3) (N := 16) hx hb htg gRX3 hown hK hP 0 rfl rfl 6 (by decide) (htg _ wi_187) (fun _ h9 => h9) rfl dX3_unshadedLight_6 ?_
  refine lv_iload_n hx hb dX3_unshadedLight_9 rfl (lv_at hl 1 rfl) ?_
  refine lv_iload_n hx hb dX3_unshadedLight_10 rfl (lv_at hl 2 rfl) ?_
  refine lv_isub hx hb dX3_unshadedLight_11 ?_
  refine lv_topi (fun z_1 ez_1 => ?_)
  refine va_mabs hx hb (by rw [hml]; exact hl.1.symm) hown (htg _ wi_678) (htg _ wi_679) (htg _ wi_132) (htg _ wi_680) (Nat.le_of_ble_eq_true rfl) (Nat.le_of_ble_eq_true rfl) (Nat.le_of_ble_eq_true rfl) (Nat.le_of_ble_eq_true rfl) dX3_unshadedLight_12 ?_
  refine lv_topi (fun z_2 ez_2 => ?_)
  refine lv_imul hx hb dX3_unshadedLight_15 ?_
  refine lv_topi (fun z_3 ez_3 => ?_)
  refine lv_isub hx hb dX3_unshadedLight_16 ?_
  refine lv_topi (fun z_4 ez_4 => ?_)
  refine va_mmax hx hb (by rw [hml]; exact hl.1.symm) hown (htg _ wi_681) (htg _ wi_527) (htg _ wi_132) (htg _ wi_528) (Nat.le_of_ble_eq_true rfl) (Nat.le_of_ble_eq_true rfl) (Nat.le_of_ble_eq_true rfl) (Nat.le_of_ble_eq_true rfl) dX3_unshadedLight_17 ?_
  refine lv_topi (fun z_5 ez_5 => ?_)
  have iz_5 := maxI (a := 0) (b := z_4.toInt) ez_5 (by decide) (rfl)
  exact x_iret hx hb hr hlk hP hD hS [0] (()) rfl (by decide) trivial (by decide) (by decide) dX3_unshadedLight_20
set_option maxHeartbeats 4000000 in
set_option maxRecDepth 100000 in
theorem g_isShaded (l : Launch) (D : va_G) (cT : Nat → ClassId) (sz : Nat) (h0 : Nat) (a : Nat → Nat) (p0 : Int32) (p1 : Int32) (p2 : Int32) (p3 : Int32) (p4 : Int32) (p5 : Int32) (p6 : Int32) (p7 : Int32) (p8 : Int32) (p9 : Int32) (x : Int32) (y : Int32) (hxx : 0 ≤ x.toInt ∧ x.toInt ≤ 15) (hyy : 0 ≤ y.toInt ∧ y.toInt ≤ 15) (f2 : Nat → Int32) : Met l yX3_isShaded (wsc yX3_isShaded cX3_isShaded 6 (some .boolean)) { frames := 2, cells := 0, slots := 0, locals := 100 } (va_Pc [.ref h0, .int x, .int y] (PX D cT sz [(sw_3 h0 p0 p1 p2 p3 p4 p5 p6 p7 p8 p9 (a 0) (a 1) (a 2) (a 3) (a 4) (a 5)), (sw_in cT (a 2) 16 f2)])) (va_Qi (fun (r : Int32) (u : Unit) => True) (fun u t => RW D (va_A [(sw_3 h0 p0 p1 p2 p3 p4 p5 p6 p7 p8 p9 (a 0) (a 1) (a 2) (a 3) (a 4) (a 5)), (sw_in cT (a 2) 16 f2)] sz) ((fun _ : Unit => [(sw_3 h0 p0 p1 p2 p3 p4 p5 p6 p7 p8 p9 (a 0) (a 1) (a 2) (a 3) (a 4) (a 5)), (sw_in cT (a 2) 16 f2)]) u) t) (va_A [(sw_3 h0 p0 p1 p2 p3 p4 p5 p6 p7 p8 p9 (a 0) (a 1) (a 2) (a 3) (a 4) (a 5)), (sw_in cT (a 2) 16 f2)] sz)) 0 0 (va_A [(sw_3 h0 p0 p1 p2 p3 p4 p5 p6 p7 p8 p9 (a 0) (a 1) (a 2) (a 3) (a 4) (a 5)), (sw_in cT (a 2) 16 f2)] sz) := by
  refine m_of (y := yX3_isShaded) (cc := cX3_isShaded) (nL := 6) (ret := (some .boolean)) (D := D) (cT := cT) (av := [.ref h0, .int x, .int y]) (wi := [(sw_3 h0 p0 p1 p2 p3 p4 p5 p6 p7 p8 p9 (a 0) (a 1) (a 2) (a 3) (a 4) (a 5)), (sw_in cT (a 2) 16 f2)]) (fun A => va_Qi (fun (r : Int32) (u : Unit) => True) (fun u t => RW D A ((fun _ : Unit => [(sw_3 h0 p0 p1 p2 p3 p4 p5 p6 p7 p8 p9 (a 0) (a 1) (a 2) (a 3) (a 4) (a 5)), (sw_in cT (a 2) 16 f2)]) u) t) A) (by decide) (Nat.le_of_ble_eq_true rfl) ?_
  intro p e s m below meth c A hx hb hml hown htg hK hN hr hlk hnm hsz hP hD hS hA ls hl
  have hown : s.vm.findClass RX3 = some m.cls := hown
  have hl : lv_has ls 6 [(0, .ref h0), (1, .int x), (2, .int y)] := hl
  refine lv_iload_n hx hb dX3_isShaded_0 rfl (lv_at hl 1 rfl) ?_
  refine lv_iload_n hx hb dX3_isShaded_1 rfl (lv_at hl 2 rfl) ?_
  refine lv_isub hx hb dX3_isShaded_2 ?_
  refine lv_topi (fun z_1 ez_1 => ?_)
  have iz_1 : z_1.toInt = x.toInt - y.toInt := toInt_subI ez_1 (rfl) (rfl) (by omega)
  refine va_mabs hx hb (by rw [hml]; exact hl.1.symm) hown (htg _ wi_678) (htg _ wi_679) (htg _ wi_132) (htg _ wi_680) (Nat.le_of_ble_eq_true rfl) (Nat.le_of_ble_eq_true rfl) (Nat.le_of_ble_eq_true rfl) (Nat.le_of_ble_eq_true rfl) dX3_isShaded_3 ?_
  refine lv_topi (fun z_2 ez_2 => ?_)
  have iz_2 := absI (a := z_1.toInt) ez_2 (rfl) (by omega)
  refine lv_istore_n (lv' := [(3, .int z_2), (0, .ref h0), (1, .int x), (2, .int y)]) hx hb dX3_isShaded_6 rfl hl (by decide) rfl (fun ls hl => ?_)
  refine lv_iload_n hx hb dX3_isShaded_7 rfl (lv_at hl 2 rfl) ?_
  refine lv_iload_n hx hb dX3_isShaded_8 rfl (lv_at hl 3 rfl) ?_
  refine va_mmax hx hb (by rw [hml]; exact hl.1.symm) hown (htg _ wi_681) (htg _ wi_527) (htg _ wi_132) (htg _ wi_528) (Nat.le_of_ble_eq_true rfl) (Nat.le_of_ble_eq_true rfl) (Nat.le_of_ble_eq_true rfl) (Nat.le_of_ble_eq_true rfl) dX3_isShaded_9 ?_
  refine lv_topi (fun z_3 ez_3 => ?_)
  have iz_3 := maxI (a := x.toInt) (b := y.toInt) ez_3 (rfl) (rfl)
  refine lv_istore (lv' := [(4, .int z_3), (3, .int z_2), (0, .ref h0), (1, .int x), (2, .int y)]) hx hb dX3_isShaded_12 hl (by decide) rfl (fun ls hl => ?_)
  refine lv_iload_n hx hb dX3_isShaded_14 rfl (lv_at hl 3 rfl) ?_
  refine lv_iload_n hx hb dX3_isShaded_15 rfl (lv_at hl 4 rfl) ?_
  refine va_mmin hx hb (by rw [hml]; exact hl.1.symm) hown (htg _ wi_686) (htg _ wi_524) (htg _ wi_132) (htg _ wi_525) (Nat.le_of_ble_eq_true rfl) (Nat.le_of_ble_eq_true rfl) (Nat.le_of_ble_eq_true rfl) (Nat.le_of_ble_eq_true rfl) dX3_isShaded_16 ?_
  refine lv_topi (fun z_4 ez_4 => ?_)
  have iz_4 := minI (a := x.toInt) (b := y.toInt) ez_4 (rfl) (rfl)
  refine lv_iconst (v := 1) hx hb dX3_isShaded_19 (by decide) ?_
  refine lv_iadd hx hb dX3_isShaded_20 ?_
  refine lv_topi (fun z_5 ez_5 => ?_)
  have iz_5 : z_5.toInt = z_4.toInt + 1 := toInt_addI ez_5 (rfl) (by decide) (by omega)
  refine lv_istore (lv' := [(5, .int z_5), (4, .int z_3), (3, .int z_2), (0, .ref h0), (1, .int x), (2, .int y)]) hx hb dX3_isShaded_21 hl (by decide) rfl (fun ls hl => ?_)
  refine (fun (key : ∀ (n9_23 : Nat) (k9_23 : Int32)  (H : Heap) (locs : List Loc) (ls : Array Slot), (0 ≤ k9_23.toInt ∧ k9_23.toInt ≤ 17) → 17 < k9_23.toInt + n9_23 → PD D A [(sw_3 h0 p0 p1 p2 p3 p4 p5 p6 p7 p8 p9 (a 0) (a 1) (a 2) (a 3) (a 4) (a 5)), (sw_in cT (a 2) 16 f2)] H → va_S A s.heap H locs → lv_has ls 6 [(5, .int k9_23), (4, .int z_3), (3, .int z_2), (0, .ref h0), (1, .int x), (2, .int y)] → W p l e _ s m _ below meth c H locs _ _ _ (F0 m 23 ls [])) => key (Int.toNat (17 - z_5.toInt) + 1) (z_5)  _ _ _ (by omega) (by omega)  ⟨hP, hD⟩ hS (lv_sub hl [0, 1, 2, 3, 4, 5] rfl)) ?_
  intro n9_23
  induction n9_23 with
  | zero => intro k9_23  H locs ls hq1 hq2; exact absurd hq2 (by omega)
  | succ n9_23 ih_23 =>
    intro k9_23  H locs ls hq1_23 hq2_23  hPD hS hl
    obtain ⟨hP, hD⟩ := hPD
    refine lv_iload hx hb dX3_isShaded_23 (lv_at hl 0 rfl) ?_
    refine lv_iload hx hb dX3_isShaded_25 (lv_at hl 1 rfl) ?_
    refine lv_icmp_ge (tgt := 62) hx hb dX3_isShaded_27 (by decide) (fun c_6 => ?_) (fun c_6 => ?_)
    · have ic_6 : z_3.toInt ≤ k9_23.toInt := ile c_6 (rfl) (rfl)
      refine lv_iconst (v := 0) hx hb dX3_isShaded_62 (by decide) ?_
      exact x_zret hx hb hr hlk hP hD hS [0, 1] (()) rfl (by decide) rfl trivial (by decide) (by decide) dX3_isShaded_63
    · have ic_6 : k9_23.toInt < z_3.toInt := inle c_6 (rfl) (rfl)
      refine lv_aload_n hx hb dX3_isShaded_30 rfl (lv_at hl 3 rfl) ?_
      refine va_get (D := D) (ci := 3) (v := .ref (a 2)) (C := RX3) (T := TX3) (N := 16) hx hb htg gRX3 hown hK hP 0 rfl rfl 12 (by decide) (htg _ wi_206) (fun _ h9 => h9) rfl dX3_isShaded_31 ?_
      refine lv_iload hx hb dX3_isShaded_34 (lv_at hl 0 rfl) ?_
      refine va_iald hx hb hK hP 1 0 rfl rfl (vp_in_iff.mpr (by omega)) dX3_isShaded_36 ?_
      refine lv_topi (fun z_7 ez_7 => ?_)
      refine lv_iload_n hx hb dX3_isShaded_37 rfl (lv_at hl 2 rfl) ?_
      refine lv_imul hx hb dX3_isShaded_38 ?_
      refine lv_topi (fun z_8 ez_8 => ?_)
      refine lv_aload_n hx hb dX3_isShaded_39 rfl (lv_at hl 3 rfl) ?_
      refine va_get (D := D) (ci := 3) (v := .int p4) (C := RX3) (T := TX3) (N := 16) hx hb htg gRX3 hown hK hP 0 rfl rfl 4 (by decide) (htg _ wi_181) (fun _ h9 => h9) rfl dX3_isShaded_40 ?_
      refine lv_iload hx hb dX3_isShaded_43 (lv_at hl 0 rfl) ?_
      refine lv_iload_n hx hb dX3_isShaded_45 rfl (lv_at hl 5 rfl) ?_
      refine lv_isub hx hb dX3_isShaded_46 ?_
      refine lv_topi (fun z_9 ez_9 => ?_)
      have iz_9 : z_9.toInt = k9_23.toInt - y.toInt := toInt_subI ez_9 (rfl) (rfl) (by omega)
      refine va_mabs hx hb (by rw [hml]; exact hl.1.symm) hown (htg _ wi_678) (htg _ wi_679) (htg _ wi_132) (htg _ wi_680) (Nat.le_of_ble_eq_true rfl) (Nat.le_of_ble_eq_true rfl) (Nat.le_of_ble_eq_true rfl) (Nat.le_of_ble_eq_true rfl) dX3_isShaded_47 ?_
      refine lv_topi (fun z_10 ez_10 => ?_)
      have iz_10 := absI (a := z_9.toInt) ez_10 (rfl) (by omega)
      refine lv_imul hx hb dX3_isShaded_50 ?_
      refine lv_topi (fun z_11 ez_11 => ?_)
      refine lv_icmp_le (tgt := 56) hx hb dX3_isShaded_51 (by decide) (fun c_12 => ?_) (fun c_12 => ?_)
      · have ic_12 : z_8.toInt ≤ z_11.toInt := ile c_12 (rfl) (rfl)
        obtain ⟨z_13, ez_13⟩ : ∃ w : Int32, w = k9_23 + 1 := ⟨_, rfl⟩
        have iz_13 : z_13.toInt = k9_23.toInt + 1 := toInt_addI ez_13 (rfl) (by decide) (by omega)
        refine lv_iinc (v := z_13) (lv' := [(5, .int z_13), (4, .int z_3), (3, .int z_2), (0, .ref h0), (1, .int x), (2, .int y)]) hx hb dX3_isShaded_56 hl (k := 0) rfl (by rw [ez_13]; rfl) (by decide) rfl (fun ls hl => ?_)
        refine lv_goto (tgt := 23) hx hb dX3_isShaded_59 (by decide) ?_
        exact ih_23 (z_13)  _ _ _ (by omega) (by omega)  ⟨hP.sub [0, 1] rfl, hD.sub [0, 1] (by decide) rfl⟩ hS (lv_sub hl [0, 1, 2, 3, 4, 5] rfl)
      · have ic_12 : z_11.toInt < z_8.toInt := inle c_12 (rfl) (rfl)
        refine lv_iconst (v := 1) hx hb dX3_isShaded_54 (by decide) ?_
        exact x_zret hx hb hr hlk hP hD hS [0, 1] (()) rfl (by decide) rfl trivial (by decide) (by decide) dX3_isShaded_55
set_option maxHeartbeats 4000000 in
set_option maxRecDepth 100000 in
theorem g_lightOf (l : Launch) (D : va_G) (cT : Nat → ClassId) (sz : Nat) (h0 : Nat) (a : Nat → Nat) (p0 : Int32) (p1 : Int32) (p2 : Int32) (p3 : Int32) (p4 : Int32) (p5 : Int32) (p6 : Int32) (p7 : Int32) (p8 : Int32) (p9 : Int32) (x : Int32) (y : Int32) (hxx : 0 ≤ x.toInt ∧ x.toInt ≤ 15) (hyy : 0 ≤ y.toInt ∧ y.toInt ≤ 15) (f2 : Nat → Int32) : Met l yX3_lightOf (wsc yX3_lightOf cX3_lightOf 4 (some .int)) { frames := 3, cells := 0, slots := 0, locals := 125 } (va_Pc [.ref h0, .int x, .int y] (PX D cT sz [(sw_3 h0 p0 p1 p2 p3 p4 p5 p6 p7 p8 p9 (a 0) (a 1) (a 2) (a 3) (a 4) (a 5)), (sw_in cT (a 2) 16 f2)])) (va_Qi (fun (r : Int32) (u : Unit) => True) (fun u t => RW D (va_A [(sw_3 h0 p0 p1 p2 p3 p4 p5 p6 p7 p8 p9 (a 0) (a 1) (a 2) (a 3) (a 4) (a 5)), (sw_in cT (a 2) 16 f2)] sz) ((fun _ : Unit => [(sw_3 h0 p0 p1 p2 p3 p4 p5 p6 p7 p8 p9 (a 0) (a 1) (a 2) (a 3) (a 4) (a 5)), (sw_in cT (a 2) 16 f2)]) u) t) (va_A [(sw_3 h0 p0 p1 p2 p3 p4 p5 p6 p7 p8 p9 (a 0) (a 1) (a 2) (a 3) (a 4) (a 5)), (sw_in cT (a 2) 16 f2)] sz)) 0 0 (va_A [(sw_3 h0 p0 p1 p2 p3 p4 p5 p6 p7 p8 p9 (a 0) (a 1) (a 2) (a 3) (a 4) (a 5)), (sw_in cT (a 2) 16 f2)] sz) := by
  refine m_of (y := yX3_lightOf) (cc := cX3_lightOf) (nL := 4) (ret := (some .int)) (D := D) (cT := cT) (av := [.ref h0, .int x, .int y]) (wi := [(sw_3 h0 p0 p1 p2 p3 p4 p5 p6 p7 p8 p9 (a 0) (a 1) (a 2) (a 3) (a 4) (a 5)), (sw_in cT (a 2) 16 f2)]) (fun A => va_Qi (fun (r : Int32) (u : Unit) => True) (fun u t => RW D A ((fun _ : Unit => [(sw_3 h0 p0 p1 p2 p3 p4 p5 p6 p7 p8 p9 (a 0) (a 1) (a 2) (a 3) (a 4) (a 5)), (sw_in cT (a 2) 16 f2)]) u) t) A) (by decide) (Nat.le_of_ble_eq_true rfl) ?_
  intro p e s m below meth c A hx hb hml hown htg hK hN hr hlk hnm hsz hP hD hS hA ls hl
  have hown : s.vm.findClass RX3 = some m.cls := hown
  have hl : lv_has ls 4 [(0, .ref h0), (1, .int x), (2, .int y)] := hl
  refine lv_aload_n hx hb dX3_lightOf_0 rfl (lv_at hl 0 rfl) ?_
  refine lv_iload_n hx hb dX3_lightOf_1 rfl (lv_at hl 1 rfl) ?_
  refine lv_iload_n hx hb dX3_lightOf_2 rfl (lv_at hl 2 rfl) ?_
  refine xk_i (wr := [(sw_in cT (a 2) 16 f2)]) (xr_V (n := 2) (As := [.int x, .int y]) (rest := []) ⟨hx, hb, hml, hown, htg⟩ hK hN hP hD hS hA [0] rfl (by decide) (g_unshadedLight l D cT _ (h0) (a) (p0) (p1) (p2) (p3) (p4) (p5) (p6) (p7) (p8) (p9) (x) (y)) wi_674 wi_676 wi_20 wi_123 wi_677 rfl rfl rfl ⟨rfl, by decide +kernel⟩ ⟨Nat.le_of_ble_eq_true rfl, Nat.le_of_ble_eq_true rfl⟩ rfl hl.1 rfl (Nat.le_of_ble_eq_true rfl) dX3_lightOf_3 ⟨Nat.le_of_ble_eq_true rfl, Nat.le_of_ble_eq_true rfl⟩) hP hD hS hA [0] [1] rfl rfl (by decide) (by decide) (fun r_2 u_1 H locs hwr_2 hP hD hS => ?_)
  obtain ⟨hP, hD⟩ : PD D A [(sw_in cT (a 2) 16 f2), (sw_3 h0 p0 p1 p2 p3 p4 p5 p6 p7 p8 p9 (a 0) (a 1) (a 2) (a 3) (a 4) (a 5))] _ := ⟨hP, hD⟩
  refine lv_istore_n (lv' := [(3, .int r_2), (0, .ref h0), (1, .int x), (2, .int y)]) hx hb dX3_lightOf_6 rfl hl (by decide) rfl (fun ls hl => ?_)
  refine lv_iload_n hx hb dX3_lightOf_7 rfl (lv_at hl 0 rfl) ?_
  refine lv_if_le (tgt := 24) hx hb dX3_lightOf_8 (by decide) (fun c_3 => ?_) (fun c_3 => ?_)
  · have ic_3 : r_2.toInt ≤ 0 := ile c_3 (rfl) (by decide)
    refine lv_iload_n hx hb dX3_lightOf_24 rfl (lv_at hl 0 rfl) ?_
    exact x_iret hx hb hr hlk hP hD hS [1, 0] (()) rfl (by decide) trivial (by decide) (by decide) dX3_lightOf_25
  · have ic_3 : 0 < r_2.toInt := inle c_3 (rfl) (by decide)
    refine lv_aload_n hx hb dX3_lightOf_11 rfl (lv_at hl 1 rfl) ?_
    refine lv_iload_n hx hb dX3_lightOf_12 rfl (lv_at hl 2 rfl) ?_
    refine lv_iload_n hx hb dX3_lightOf_13 rfl (lv_at hl 3 rfl) ?_
    refine xk_i (wr := []) (xr_V (n := 2) (As := [.int x, .int y]) (rest := []) ⟨hx, hb, hml, hown, htg⟩ hK hN hP hD hS hA [1, 0] rfl (by decide) (g_isShaded l D cT _ (h0) (a) (p0) (p1) (p2) (p3) (p4) (p5) (p6) (p7) (p8) (p9) (x) (y) (by first | assumption | decide | omega | (simp only [ti_0, ti_1, ti_2, ti_3, ti_4, ti_5, ti_6, ti_7, ti_8, ti_9, ti_10, ti_11, ti_12, ti_m1]; omega)) (by first | assumption | decide | omega | (simp only [ti_0, ti_1, ti_2, ti_3, ti_4, ti_5, ti_6, ti_7, ti_8, ti_9, ti_10, ti_11, ti_12, ti_m1]; omega)) (f2)) wi_682 wi_684 wi_21 wi_123 wi_685 rfl rfl rfl ⟨rfl, by decide +kernel⟩ ⟨Nat.le_of_ble_eq_true rfl, Nat.le_of_ble_eq_true rfl⟩ rfl hl.1 rfl (Nat.le_of_ble_eq_true rfl) dX3_lightOf_14 ⟨Nat.le_of_ble_eq_true rfl, Nat.le_of_ble_eq_true rfl⟩) hP hD hS hA [1, 0] [] rfl rfl (by decide) (by decide) (fun r_5 u_4 H locs hwr_5 hP hD hS => ?_)
    obtain ⟨hP, hD⟩ : PD D A [(sw_3 h0 p0 p1 p2 p3 p4 p5 p6 p7 p8 p9 (a 0) (a 1) (a 2) (a 3) (a 4) (a 5)), (sw_in cT (a 2) 16 f2)] _ := ⟨hP, hD⟩
    refine lv_if_eq (tgt := 24) hx hb dX3_lightOf_17 (by decide) (fun c_6 => ?_) (fun c_6 => ?_)
    · have ic_6 : r_5.toInt = 0 := ieq c_6 (rfl) (by decide)
      refine lv_iload_n hx hb dX3_lightOf_24 rfl (lv_at hl 0 rfl) ?_
      exact x_iret hx hb hr hlk hP hD hS [0, 1] (()) rfl (by decide) trivial (by decide) (by decide) dX3_lightOf_25
    · have ic_6 : ¬ r_5.toInt = 0 := ine c_6 (rfl) (by decide)
      refine lv_iconst (v := 0) hx hb dX3_lightOf_20 (by decide) ?_
      refine lv_goto (tgt := 25) hx hb dX3_lightOf_21 (by decide) ?_
      exact x_iret hx hb hr hlk hP hD hS [0, 1] (()) rfl (by decide) trivial (by decide) (by decide) dX3_lightOf_25
set_option maxHeartbeats 4000000 in
set_option maxRecDepth 100000 in
theorem g_target (l : Launch) (D : va_G) (cT : Nat → ClassId) (sz : Nat) (h0 : Nat) (a : Nat → Nat) (p0 : Int32) (p1 : Int32) (p2 : Int32) (p3 : Int32) (p4 : Int32) (p5 : Int32) (p6 : Int32) (p7 : Int32) (p8 : Int32) (p9 : Int32) (x : Int32) (hxt : -1 ≤ x.toInt ∧ x.toInt ≤ 16) (v : Int64) : Met l yX3_target (wsc yX3_target cX3_target 5 (some .int)) { frames := 3, cells := 0, slots := 0, locals := 121 } (va_Pc [.ref h0, .int x, .long v] (PX D cT sz [(sw_3 h0 p0 p1 p2 p3 p4 p5 p6 p7 p8 p9 (a 0) (a 1) (a 2) (a 3) (a 4) (a 5))])) (va_Qi (fun (r : Int32) (u : Unit) => r.toInt = tgtI x.toInt v.toInt p0.toInt) (fun u t => RW D (va_A [(sw_3 h0 p0 p1 p2 p3 p4 p5 p6 p7 p8 p9 (a 0) (a 1) (a 2) (a 3) (a 4) (a 5))] sz) ((fun _ : Unit => [(sw_3 h0 p0 p1 p2 p3 p4 p5 p6 p7 p8 p9 (a 0) (a 1) (a 2) (a 3) (a 4) (a 5))]) u) t) (va_A [(sw_3 h0 p0 p1 p2 p3 p4 p5 p6 p7 p8 p9 (a 0) (a 1) (a 2) (a 3) (a 4) (a 5))] sz)) 0 0 (va_A [(sw_3 h0 p0 p1 p2 p3 p4 p5 p6 p7 p8 p9 (a 0) (a 1) (a 2) (a 3) (a 4) (a 5))] sz) := by
  refine m_of (y := yX3_target) (cc := cX3_target) (nL := 5) (ret := (some .int)) (D := D) (cT := cT) (av := [.ref h0, .int x, .long v]) (wi := [(sw_3 h0 p0 p1 p2 p3 p4 p5 p6 p7 p8 p9 (a 0) (a 1) (a 2) (a 3) (a 4) (a 5))]) (fun A => va_Qi (fun (r : Int32) (u : Unit) => r.toInt = tgtI x.toInt v.toInt p0.toInt) (fun u t => RW D A ((fun _ : Unit => [(sw_3 h0 p0 p1 p2 p3 p4 p5 p6 p7 p8 p9 (a 0) (a 1) (a 2) (a 3) (a 4) (a 5))]) u) t) A) (by decide) (Nat.le_of_ble_eq_true rfl) ?_
  intro p e s m below meth c A hx hb hml hown htg hK hN hr hlk hnm hsz hP hD hS hA ls hl
  have hown : s.vm.findClass RX3 = some m.cls := hown
  have hl : lv_has ls 5 [(0, .ref h0), (1, .int x), (2, .long v)] := hl
  refine lv_iload_n hx hb dX3_target_0 rfl (lv_at hl 1 rfl) ?_
  refine lv_istore (lv' := [(4, .int x), (0, .ref h0), (1, .int x), (2, .long v)]) hx hb dX3_target_1 hl (by decide) rfl (fun ls hl => ?_)
  refine lv_lload_n hx hb dX3_target_3 rfl (lv_at hl 3 rfl) ?_
  refine lv_lconst (v := 1) hx hb dX3_target_4 (by decide) ?_
  refine W.lcmp hx hb dX3_target_5 ?_
  refine lv_if_ne (tgt := 17) hx hb dX3_target_6 (by decide) (fun c_1 => ?_) (fun c_1 => ?_)
  · have ic_1 : ¬ v.toInt = 1 := lgc_ne c_1 (rfl) (by decide)
    refine lv_lload_n hx hb dX3_target_17 rfl (lv_at hl 3 rfl) ?_
    refine lv_ldc2 (v := 2) hx hb hown (htg _ wi_766) dX3_target_18 ?_
    refine W.lcmp hx hb dX3_target_21 ?_
    refine lv_if_ne (tgt := 33) hx hb dX3_target_22 (by decide) (fun c_2 => ?_) (fun c_2 => ?_)
    · have ic_2 : ¬ v.toInt = 2 := lgc_ne c_2 (rfl) (by decide)
      refine lv_lload_n hx hb dX3_target_33 rfl (lv_at hl 3 rfl) ?_
      refine lv_lconst (v := 0) hx hb dX3_target_34 (by decide) ?_
      refine W.lcmp hx hb dX3_target_35 ?_
      refine lv_if_eq (tgt := 41) hx hb dX3_target_36 (by decide) (fun c_3 => ?_) (fun c_3 => ?_)
      · have ic_3 : v.toInt = 0 := lgc_eq c_3 (rfl) (by decide)
        refine lv_aload_n hx hb dX3_target_41 rfl (lv_at hl 1 rfl) ?_
        refine lv_iload hx hb dX3_target_42 (lv_at hl 0 rfl) ?_
        refine xk_i (wr := []) (xr_V (n := 1) (As := [.int x]) (rest := []) ⟨hx, hb, hml, hown, htg⟩ hK hN hP hD hS hA [0] rfl (by decide) (g_hasStrip l D cT _ (h0) (a) (p0) (p1) (p2) (p3) (p4) (p5) (p6) (p7) (p8) (p9) (x)) wi_767 wi_668 wi_18 wi_123 wi_669 rfl rfl rfl ⟨rfl, by decide +kernel⟩ ⟨Nat.le_of_ble_eq_true rfl, Nat.le_of_ble_eq_true rfl⟩ rfl hl.1 rfl (Nat.le_of_ble_eq_true rfl) dX3_target_44 ⟨Nat.le_of_ble_eq_true rfl, Nat.le_of_ble_eq_true rfl⟩) hP hD hS hA [0] [] rfl rfl (by decide) (by decide) (fun r_5 u_4 H locs hwr_5 hP hD hS => ?_)
        obtain ⟨hP, hD⟩ : PD D A [(sw_3 h0 p0 p1 p2 p3 p4 p5 p6 p7 p8 p9 (a 0) (a 1) (a 2) (a 3) (a 4) (a 5))] _ := ⟨hP, hD⟩
        have hwr_5 : r_5 = if 0 ≤ x.toInt ∧ x.toInt < p0.toInt then 1 else 0 := hwr_5
        refine lv_if_eq (tgt := 55) hx hb dX3_target_47 (by decide) (fun c_6 => ?_) (fun c_6 => ?_)
        · have ic_6 := if0 hwr_5 c_6
          refine lv_iconst (v := (-1)) hx hb dX3_target_55 (by decide) ?_
          exact x_iret hx hb hr hlk hP hD hS [0] (()) rfl (by decide) (by unfold tgtI; first | (rw [show (-1 : Int32).toInt = -1 from by decide]; repeat (first | rw [if_pos (by omega)] | rw [if_neg (by omega)])) | (repeat (first | rw [if_pos (by omega)] | rw [if_neg (by omega)]); omega)) (by decide) (by decide) dX3_target_56
        · have ic_6 := if1 hwr_5 c_6
          refine lv_iload hx hb dX3_target_50 (lv_at hl 0 rfl) ?_
          refine lv_goto (tgt := 56) hx hb dX3_target_52 (by decide) ?_
          exact x_iret hx hb hr hlk hP hD hS [0] (()) rfl (by decide) (by unfold tgtI; repeat (first | rw [if_pos (by omega)] | rw [if_neg (by omega)]); try omega) (by decide) (by decide) dX3_target_56
      · have ic_3 : ¬ v.toInt = 0 := lgc_ne c_3 (rfl) (by decide)
        refine lv_iconst (v := (-1)) hx hb dX3_target_39 (by decide) ?_
        exact x_iret hx hb hr hlk hP hD hS [0] (()) rfl (by decide) (by unfold tgtI; first | (rw [show (-1 : Int32).toInt = -1 from by decide]; repeat (first | rw [if_pos (by omega)] | rw [if_neg (by omega)])) | (repeat (first | rw [if_pos (by omega)] | rw [if_neg (by omega)]); omega)) (by decide) (by decide) dX3_target_40
    · have ic_2 : v.toInt = 2 := lgc_eq c_2 (rfl) (by decide)
      refine lv_iload_n hx hb dX3_target_25 rfl (lv_at hl 2 rfl) ?_
      refine lv_iconst (v := 1) hx hb dX3_target_26 (by decide) ?_
      refine lv_iadd hx hb dX3_target_27 ?_
      refine lv_topi (fun z_7 ez_7 => ?_)
      have iz_7 : z_7.toInt = x.toInt + 1 := toInt_addI ez_7 (rfl) (by decide) (by omega)
      refine lv_istore (lv' := [(4, .int z_7), (0, .ref h0), (1, .int x), (2, .long v)]) hx hb dX3_target_28 hl (by decide) rfl (fun ls hl => ?_)
      refine lv_goto (tgt := 41) hx hb dX3_target_30 (by decide) ?_
      refine lv_aload_n hx hb dX3_target_41 rfl (lv_at hl 1 rfl) ?_
      refine lv_iload hx hb dX3_target_42 (lv_at hl 0 rfl) ?_
      refine xk_i (wr := []) (xr_V (n := 1) (As := [.int z_7]) (rest := []) ⟨hx, hb, hml, hown, htg⟩ hK hN hP hD hS hA [0] rfl (by decide) (g_hasStrip l D cT _ (h0) (a) (p0) (p1) (p2) (p3) (p4) (p5) (p6) (p7) (p8) (p9) (z_7)) wi_767 wi_668 wi_18 wi_123 wi_669 rfl rfl rfl ⟨rfl, by decide +kernel⟩ ⟨Nat.le_of_ble_eq_true rfl, Nat.le_of_ble_eq_true rfl⟩ rfl hl.1 rfl (Nat.le_of_ble_eq_true rfl) dX3_target_44 ⟨Nat.le_of_ble_eq_true rfl, Nat.le_of_ble_eq_true rfl⟩) hP hD hS hA [0] [] rfl rfl (by decide) (by decide) (fun r_9 u_8 H locs hwr_9 hP hD hS => ?_)
      obtain ⟨hP, hD⟩ : PD D A [(sw_3 h0 p0 p1 p2 p3 p4 p5 p6 p7 p8 p9 (a 0) (a 1) (a 2) (a 3) (a 4) (a 5))] _ := ⟨hP, hD⟩
      have hwr_9 : r_9 = if 0 ≤ z_7.toInt ∧ z_7.toInt < p0.toInt then 1 else 0 := hwr_9
      refine lv_if_eq (tgt := 55) hx hb dX3_target_47 (by decide) (fun c_10 => ?_) (fun c_10 => ?_)
      · have ic_10 := if0 hwr_9 c_10
        refine lv_iconst (v := (-1)) hx hb dX3_target_55 (by decide) ?_
        exact x_iret hx hb hr hlk hP hD hS [0] (()) rfl (by decide) (by unfold tgtI; first | (rw [show (-1 : Int32).toInt = -1 from by decide]; repeat (first | rw [if_pos (by omega)] | rw [if_neg (by omega)])) | (repeat (first | rw [if_pos (by omega)] | rw [if_neg (by omega)]); omega)) (by decide) (by decide) dX3_target_56
      · have ic_10 := if1 hwr_9 c_10
        refine lv_iload hx hb dX3_target_50 (lv_at hl 0 rfl) ?_
        refine lv_goto (tgt := 56) hx hb dX3_target_52 (by decide) ?_
        exact x_iret hx hb hr hlk hP hD hS [0] (()) rfl (by decide) (by unfold tgtI; repeat (first | rw [if_pos (by omega)] | rw [if_neg (by omega)]); try omega) (by decide) (by decide) dX3_target_56
  · have ic_1 : v.toInt = 1 := lgc_eq c_1 (rfl) (by decide)
    refine lv_iload_n hx hb dX3_target_9 rfl (lv_at hl 2 rfl) ?_
    refine lv_iconst (v := 1) hx hb dX3_target_10 (by decide) ?_
    refine lv_isub hx hb dX3_target_11 ?_
    refine lv_topi (fun z_11 ez_11 => ?_)
    have iz_11 : z_11.toInt = x.toInt - 1 := toInt_subI ez_11 (rfl) (by decide) (by omega)
    refine lv_istore (lv' := [(4, .int z_11), (0, .ref h0), (1, .int x), (2, .long v)]) hx hb dX3_target_12 hl (by decide) rfl (fun ls hl => ?_)
    refine lv_goto (tgt := 41) hx hb dX3_target_14 (by decide) ?_
    refine lv_aload_n hx hb dX3_target_41 rfl (lv_at hl 1 rfl) ?_
    refine lv_iload hx hb dX3_target_42 (lv_at hl 0 rfl) ?_
    refine xk_i (wr := []) (xr_V (n := 1) (As := [.int z_11]) (rest := []) ⟨hx, hb, hml, hown, htg⟩ hK hN hP hD hS hA [0] rfl (by decide) (g_hasStrip l D cT _ (h0) (a) (p0) (p1) (p2) (p3) (p4) (p5) (p6) (p7) (p8) (p9) (z_11)) wi_767 wi_668 wi_18 wi_123 wi_669 rfl rfl rfl ⟨rfl, by decide +kernel⟩ ⟨Nat.le_of_ble_eq_true rfl, Nat.le_of_ble_eq_true rfl⟩ rfl hl.1 rfl (Nat.le_of_ble_eq_true rfl) dX3_target_44 ⟨Nat.le_of_ble_eq_true rfl, Nat.le_of_ble_eq_true rfl⟩) hP hD hS hA [0] [] rfl rfl (by decide) (by decide) (fun r_13 u_12 H locs hwr_13 hP hD hS => ?_)
    obtain ⟨hP, hD⟩ : PD D A [(sw_3 h0 p0 p1 p2 p3 p4 p5 p6 p7 p8 p9 (a 0) (a 1) (a 2) (a 3) (a 4) (a 5))] _ := ⟨hP, hD⟩
    have hwr_13 : r_13 = if 0 ≤ z_11.toInt ∧ z_11.toInt < p0.toInt then 1 else 0 := hwr_13
    refine lv_if_eq (tgt := 55) hx hb dX3_target_47 (by decide) (fun c_14 => ?_) (fun c_14 => ?_)
    · have ic_14 := if0 hwr_13 c_14
      refine lv_iconst (v := (-1)) hx hb dX3_target_55 (by decide) ?_
      exact x_iret hx hb hr hlk hP hD hS [0] (()) rfl (by decide) (by unfold tgtI; first | (rw [show (-1 : Int32).toInt = -1 from by decide]; repeat (first | rw [if_pos (by omega)] | rw [if_neg (by omega)])) | (repeat (first | rw [if_pos (by omega)] | rw [if_neg (by omega)]); omega)) (by decide) (by decide) dX3_target_56
    · have ic_14 := if1 hwr_13 c_14
      refine lv_iload hx hb dX3_target_50 (lv_at hl 0 rfl) ?_
      refine lv_goto (tgt := 56) hx hb dX3_target_52 (by decide) ?_
      exact x_iret hx hb hr hlk hP hD hS [0] (()) rfl (by decide) (by unfold tgtI; repeat (first | rw [if_pos (by omega)] | rw [if_neg (by omega)]); try omega) (by decide) (by decide) dX3_target_56
set_option maxHeartbeats 4000000 in
set_option maxRecDepth 100000 in
theorem g_whyNot (l : Launch) (D : va_G) (cT : Nat → ClassId) (sz : Nat) (h0 : Nat) (a : Nat → Nat) (p0 : Int32) (p1 : Int32) (p2 : Int32) (p3 : Int32) (p4 : Int32) (p5 : Int32) (p6 : Int32) (p7 : Int32) (p8 : Int32) (p9 : Int32) (hat : 0 ≤ p3.toInt ∧ p3.toInt ≤ 15) (v : Int64) : Met l yX3_whyNot (wsc yX3_whyNot cX3_whyNot 3 (some .int)) { frames := 4, cells := 0, slots := 0, locals := 145 } (va_Pc [.ref h0, .long v] (PX D cT sz [(sw_3 h0 p0 p1 p2 p3 p4 p5 p6 p7 p8 p9 (a 0) (a 1) (a 2) (a 3) (a 4) (a 5))])) (va_Qi (fun (r : Int32) (u : Unit) => r = 0 → 0 ≤ tgtI p3.toInt v.toInt p0.toInt) (fun u t => RW D (va_A [(sw_3 h0 p0 p1 p2 p3 p4 p5 p6 p7 p8 p9 (a 0) (a 1) (a 2) (a 3) (a 4) (a 5))] sz) ((fun _ : Unit => [(sw_3 h0 p0 p1 p2 p3 p4 p5 p6 p7 p8 p9 (a 0) (a 1) (a 2) (a 3) (a 4) (a 5))]) u) t) (va_A [(sw_3 h0 p0 p1 p2 p3 p4 p5 p6 p7 p8 p9 (a 0) (a 1) (a 2) (a 3) (a 4) (a 5))] sz)) 0 0 (va_A [(sw_3 h0 p0 p1 p2 p3 p4 p5 p6 p7 p8 p9 (a 0) (a 1) (a 2) (a 3) (a 4) (a 5))] sz) := by
  refine m_of (y := yX3_whyNot) (cc := cX3_whyNot) (nL := 3) (ret := (some .int)) (D := D) (cT := cT) (av := [.ref h0, .long v]) (wi := [(sw_3 h0 p0 p1 p2 p3 p4 p5 p6 p7 p8 p9 (a 0) (a 1) (a 2) (a 3) (a 4) (a 5))]) (fun A => va_Qi (fun (r : Int32) (u : Unit) => r = 0 → 0 ≤ tgtI p3.toInt v.toInt p0.toInt) (fun u t => RW D A ((fun _ : Unit => [(sw_3 h0 p0 p1 p2 p3 p4 p5 p6 p7 p8 p9 (a 0) (a 1) (a 2) (a 3) (a 4) (a 5))]) u) t) A) (by decide) (Nat.le_of_ble_eq_true rfl) ?_
  intro p e s m below meth c A hx hb hml hown htg hK hN hr hlk hnm hsz hP hD hS hA ls hl
  have hown : s.vm.findClass RX3 = some m.cls := hown
  have hl : lv_has ls 3 [(0, .ref h0), (1, .long v)] := hl
  refine lv_aload_n hx hb dX3_whyNot_0 rfl (lv_at hl 0 rfl) ?_
  refine lv_aload_n hx hb dX3_whyNot_1 rfl (lv_at hl 0 rfl) ?_
  refine va_get (D := D) (ci := 3) (v := .int p3) (C := RX3) (T := TX3) (N := 16) hx hb htg gRX3 hown hK hP 0 rfl rfl 3 (by decide) (htg _ wi_178) (fun _ h9 => h9) rfl dX3_whyNot_2 ?_
  refine lv_lload_n hx hb dX3_whyNot_5 rfl (lv_at hl 1 rfl) ?_
  refine xk_i (wr := []) (xr_V (n := 2) (As := [.int p3, .long v]) (rest := []) ⟨hx, hb, hml, hown, htg⟩ hK hN hP hD hS hA [0] rfl (by decide) (g_target l D cT _ (h0) (a) (p0) (p1) (p2) (p3) (p4) (p5) (p6) (p7) (p8) (p9) (p3) (by first | assumption | decide | omega | (simp only [ti_0, ti_1, ti_2, ti_3, ti_4, ti_5, ti_6, ti_7, ti_8, ti_9, ti_10, ti_11, ti_12, ti_m1]; omega)) (v)) wi_762 wi_764 wi_31 wi_123 wi_765 rfl rfl rfl ⟨rfl, by decide +kernel⟩ ⟨Nat.le_of_ble_eq_true rfl, Nat.le_of_ble_eq_true rfl⟩ rfl hl.1 rfl (Nat.le_of_ble_eq_true rfl) dX3_whyNot_6 ⟨Nat.le_of_ble_eq_true rfl, Nat.le_of_ble_eq_true rfl⟩) hP hD hS hA [0] [] rfl rfl (by decide) (by decide) (fun r_2 u_1 H locs hwr_2 hP hD hS => ?_)
  obtain ⟨hP, hD⟩ : PD D A [(sw_3 h0 p0 p1 p2 p3 p4 p5 p6 p7 p8 p9 (a 0) (a 1) (a 2) (a 3) (a 4) (a 5))] _ := ⟨hP, hD⟩
  have ihwr_2 : r_2.toInt = tgtI p3.toInt v.toInt p0.toInt := hwr_2
  refine lv_iconst (v := (-1)) hx hb dX3_whyNot_9 (by decide) ?_
  refine lv_icmp_ne (tgt := 15) hx hb dX3_whyNot_10 (by decide) (fun c_3 => ?_) (fun c_3 => ?_)
  · have ic_3 : ¬ r_2.toInt = (-1) := ine c_3 (rfl) (by decide)
    refine lv_aload_n hx hb dX3_whyNot_15 rfl (lv_at hl 0 rfl) ?_
    refine va_get (D := D) (ci := 3) (v := .int p7) (C := RX3) (T := TX3) (N := 16) hx hb htg gRX3 hown hK hP 0 rfl rfl 7 (by decide) (htg _ wi_190) (fun _ h9 => h9) rfl dX3_whyNot_16 ?_
    refine lv_if_ne (tgt := 24) hx hb dX3_whyNot_19 (by decide) (fun c_4 => ?_) (fun c_4 => ?_)
    · have ic_4 : ¬ p7.toInt = 0 := ine c_4 (rfl) (by decide)
      refine lv_aload_n hx hb dX3_whyNot_24 rfl (lv_at hl 0 rfl) ?_
      refine va_get (D := D) (ci := 3) (v := .int p2) (C := RX3) (T := TX3) (N := 16) hx hb htg gRX3 hown hK hP 0 rfl rfl 2 (by decide) (htg _ wi_176) (fun _ h9 => h9) rfl dX3_whyNot_25 ?_
      refine lv_sipush (v := 9999) hx hb dX3_whyNot_28 (by decide) ?_
      refine lv_icmp_lt (tgt := 38) hx hb dX3_whyNot_31 (by decide) (fun c_5 => ?_) (fun c_5 => ?_)
      · have ic_5 : p2.toInt < 9999 := ilt c_5 (rfl) (by decide)
        refine lv_iconst (v := 0) hx hb dX3_whyNot_38 (by decide) ?_
        exact x_iret hx hb hr hlk hP hD hS [0] (()) rfl (by decide) (fun _ => by have h8 := tgtI_in p3.toInt v.toInt p0.toInt; omega) (by decide) (by decide) dX3_whyNot_39
      · have ic_5 : 9999 ≤ p2.toInt := inlt c_5 (rfl) (by decide)
        refine lv_iconst (v := 3) hx hb dX3_whyNot_34 (by decide) ?_
        refine lv_goto (tgt := 39) hx hb dX3_whyNot_35 (by decide) ?_
        exact x_iret hx hb hr hlk hP hD hS [0] (()) rfl (by decide) (fun h => absurd h (by decide)) (by decide) (by decide) dX3_whyNot_39
    · have ic_4 : p7.toInt = 0 := ieq c_4 (rfl) (by decide)
      refine lv_iconst (v := 2) hx hb dX3_whyNot_22 (by decide) ?_
      exact x_iret hx hb hr hlk hP hD hS [0] (()) rfl (by decide) (fun h => absurd h (by decide)) (by decide) (by decide) dX3_whyNot_23
  · have ic_3 : r_2.toInt = (-1) := ieq c_3 (rfl) (by decide)
    refine lv_iconst (v := 1) hx hb dX3_whyNot_13 (by decide) ?_
    exact x_iret hx hb hr hlk hP hD hS [0] (()) rfl (by decide) (fun h => absurd h (by decide)) (by decide) (by decide) dX3_whyNot_14
set_option maxHeartbeats 4000000 in
set_option maxRecDepth 100000 in
theorem g_pass (l : Launch) (D : va_G) (cT : Nat → ClassId) (sz : Nat) (h0 : Nat) (a : Nat → Nat) (p0 : Int32) (p1 : Int32) (p2 : Int32) (p3 : Int32) (p4 : Int32) (p5 : Int32) (p6 : Int32) (p7 : Int32) (p8 : Int32) (p9 : Int32) (hs : 0 ≤ p0.toInt ∧ p0.toInt ≤ 16) (x : Int32) (y : Int32) (hxx : 0 ≤ x.toInt ∧ x.toInt ≤ 15) (f0 : Nat → Int32) (f1 : Nat → Int32) (f2 : Nat → Int32) (f4 : Nat → Int32) : Met l yX3_pass (wsc yX3_pass cX3_pass 6 (some .int)) { frames := 4, cells := 0, slots := 0, locals := 148 } (va_Pc [.ref h0, .int x, .int y] (PX D cT sz [(sw_3 h0 p0 p1 p2 p3 p4 p5 p6 p7 p8 p9 (a 0) (a 1) (a 2) (a 3) (a 4) (a 5)), (sw_in cT (a 0) 16 f0), (sw_in cT (a 1) 16 f1), (sw_in cT (a 2) 16 f2), (sw_in cT (a 4) 16 f4)])) (va_Qi (fun (r : Int32) (u : Int32 × Int32 × (Nat → Int32) × (Nat → Int32)) => True) (fun u t => RW D (va_A [(sw_3 h0 p0 p1 p2 p3 p4 p5 p6 p7 p8 p9 (a 0) (a 1) (a 2) (a 3) (a 4) (a 5)), (sw_in cT (a 0) 16 f0), (sw_in cT (a 1) 16 f1), (sw_in cT (a 2) 16 f2), (sw_in cT (a 4) 16 f4)] sz) ((fun u : Int32 × Int32 × (Nat → Int32) × (Nat → Int32) => [(sw_3 h0 p0 p1 u.2.1 x p4 p5 p6 u.1 p8 p9 (a 0) (a 1) (a 2) (a 3) (a 4) (a 5)), (sw_in cT (a 0) 16 u.2.2.1), (sw_in cT (a 1) 16 f1), (sw_in cT (a 2) 16 f2), (sw_in cT (a 4) 16 u.2.2.2)]) u) t) (va_A [(sw_3 h0 p0 p1 p2 p3 p4 p5 p6 p7 p8 p9 (a 0) (a 1) (a 2) (a 3) (a 4) (a 5)), (sw_in cT (a 0) 16 f0), (sw_in cT (a 1) 16 f1), (sw_in cT (a 2) 16 f2), (sw_in cT (a 4) 16 f4)] sz)) 0 0 (va_A [(sw_3 h0 p0 p1 p2 p3 p4 p5 p6 p7 p8 p9 (a 0) (a 1) (a 2) (a 3) (a 4) (a 5)), (sw_in cT (a 0) 16 f0), (sw_in cT (a 1) 16 f1), (sw_in cT (a 2) 16 f2), (sw_in cT (a 4) 16 f4)] sz) := by
  refine m_of (y := yX3_pass) (cc := cX3_pass) (nL := 6) (ret := (some .int)) (D := D) (cT := cT) (av := [.ref h0, .int x, .int y]) (wi := [(sw_3 h0 p0 p1 p2 p3 p4 p5 p6 p7 p8 p9 (a 0) (a 1) (a 2) (a 3) (a 4) (a 5)), (sw_in cT (a 0) 16 f0), (sw_in cT (a 1) 16 f1), (sw_in cT (a 2) 16 f2), (sw_in cT (a 4) 16 f4)]) (fun A => va_Qi (fun (r : Int32) (u : Int32 × Int32 × (Nat → Int32) × (Nat → Int32)) => True) (fun u t => RW D A ((fun u : Int32 × Int32 × (Nat → Int32) × (Nat → Int32) => [(sw_3 h0 p0 p1 u.2.1 x p4 p5 p6 u.1 p8 p9 (a 0) (a 1) (a 2) (a 3) (a 4) (a 5)), (sw_in cT (a 0) 16 u.2.2.1), (sw_in cT (a 1) 16 f1), (sw_in cT (a 2) 16 f2), (sw_in cT (a 4) 16 u.2.2.2)]) u) t) A) (by decide) (Nat.le_of_ble_eq_true rfl) ?_
  intro p e s m below meth c A hx hb hml hown htg hK hN hr hlk hnm hsz hP hD hS hA ls hl
  have hown : s.vm.findClass RX3 = some m.cls := hown
  have hl : lv_has ls 6 [(0, .ref h0), (1, .int x), (2, .int y)] := hl
  refine lv_aload_n hx hb dX3_pass_0 rfl (lv_at hl 0 rfl) ?_
  refine lv_iload_n hx hb dX3_pass_1 rfl (lv_at hl 1 rfl) ?_
  refine va_put (D := D) (ci := 3) (v := .int x) (ty := .int) (C := RX3) (T := TX3) (N := 16) hx hb htg gRX3 tyX3 tyX3_ok nmX3 hown hK hP hD hS 0 rfl rfl 3 (by decide) (htg _ wi_178) (fun _ h9 => h9) rfl (by decide +kernel) rfl rfl (Nat.le_of_ble_eq_true rfl) dX3_pass_2 (fun H locs hP hD hS => ?_)
  obtain ⟨hP, hD⟩ : PD D A [(sw_3 h0 p0 p1 p2 x p4 p5 p6 p7 p8 p9 (a 0) (a 1) (a 2) (a 3) (a 4) (a 5)), (sw_in cT (a 0) 16 f0), (sw_in cT (a 1) 16 f1), (sw_in cT (a 2) 16 f2), (sw_in cT (a 4) 16 f4)] _ := ⟨hP, hD⟩
  refine lv_aload_n hx hb dX3_pass_5 rfl (lv_at hl 0 rfl) ?_
  refine lv_dup hx hb dX3_pass_6 rfl ?_
  refine va_get (D := D) (ci := 3) (v := .int p7) (C := RX3) (T := TX3) (N := 16) hx hb htg gRX3 hown hK hP 0 rfl rfl 7 (by decide) (htg _ wi_190) (fun _ h9 => h9) rfl dX3_pass_7 ?_
  refine lv_iconst (v := 1) hx hb dX3_pass_10 (by decide) ?_
  refine lv_isub hx hb dX3_pass_11 ?_
  refine lv_topi (fun z_1 ez_1 => ?_)
  refine va_put (D := D) (ci := 3) (v := .int z_1) (ty := .int) (C := RX3) (T := TX3) (N := 16) hx hb htg gRX3 tyX3 tyX3_ok nmX3 hown hK hP hD hS 0 rfl rfl 7 (by decide) (htg _ wi_190) (fun _ h9 => h9) rfl (by decide +kernel) rfl rfl (Nat.le_of_ble_eq_true rfl) dX3_pass_12 (fun H locs hP hD hS => ?_)
  obtain ⟨hP, hD⟩ : PD D A [(sw_3 h0 p0 p1 p2 x p4 p5 p6 z_1 p8 p9 (a 0) (a 1) (a 2) (a 3) (a 4) (a 5)), (sw_in cT (a 0) 16 f0), (sw_in cT (a 1) 16 f1), (sw_in cT (a 2) 16 f2), (sw_in cT (a 4) 16 f4)] _ := ⟨hP, hD⟩
  refine lv_aload_n hx hb dX3_pass_15 rfl (lv_at hl 0 rfl) ?_
  refine lv_dup hx hb dX3_pass_16 rfl ?_
  refine va_get (D := D) (ci := 3) (v := .int p2) (C := RX3) (T := TX3) (N := 16) hx hb htg gRX3 hown hK hP 0 rfl rfl 2 (by decide) (htg _ wi_176) (fun _ h9 => h9) rfl dX3_pass_17 ?_
  refine lv_iconst (v := 1) hx hb dX3_pass_20 (by decide) ?_
  refine lv_iadd hx hb dX3_pass_21 ?_
  refine lv_topi (fun z_2 ez_2 => ?_)
  refine va_put (D := D) (ci := 3) (v := .int z_2) (ty := .int) (C := RX3) (T := TX3) (N := 16) hx hb htg gRX3 tyX3 tyX3_ok nmX3 hown hK hP hD hS 0 rfl rfl 2 (by decide) (htg _ wi_176) (fun _ h9 => h9) rfl (by decide +kernel) rfl rfl (Nat.le_of_ble_eq_true rfl) dX3_pass_22 (fun H locs hP hD hS => ?_)
  obtain ⟨hP, hD⟩ : PD D A [(sw_3 h0 p0 p1 z_2 x p4 p5 p6 z_1 p8 p9 (a 0) (a 1) (a 2) (a 3) (a 4) (a 5)), (sw_in cT (a 0) 16 f0), (sw_in cT (a 1) 16 f1), (sw_in cT (a 2) 16 f2), (sw_in cT (a 4) 16 f4)] _ := ⟨hP, hD⟩
  refine lv_iconst (v := 0) hx hb dX3_pass_25 (by decide) ?_
  refine lv_istore_n (lv' := [(3, .int 0), (0, .ref h0), (1, .int x), (2, .int y)]) hx hb dX3_pass_26 rfl hl (by decide) rfl (fun ls hl => ?_)
  refine lv_iconst (v := 0) hx hb dX3_pass_27 (by decide) ?_
  refine lv_istore (lv' := [(4, .int 0), (3, .int 0), (0, .ref h0), (1, .int x), (2, .int y)]) hx hb dX3_pass_28 hl (by decide) rfl (fun ls hl => ?_)
  refine (fun (key : ∀ (n9_30 : Nat) (k9_30 : Nat) (x9_30_3 : Int32) (f9_30_1 : Nat → Int32) (f9_30_2 : Nat → Int32) (H : Heap) (locs : List Loc) (ls : Array Slot), (k9_30 : Int) ≤ p0.toInt → p0.toInt < (k9_30 : Int) + n9_30 → PD D A [(sw_3 h0 p0 p1 z_2 x p4 p5 p6 z_1 p8 p9 (a 0) (a 1) (a 2) (a 3) (a 4) (a 5)), (sw_in cT (a 0) 16 f9_30_1), (sw_in cT (a 1) 16 f1), (sw_in cT (a 2) 16 f2), (sw_in cT (a 4) 16 f9_30_2)] H → va_S A s.heap H locs → lv_has ls 6 [(4, .int (nI k9_30)), (3, .int x9_30_3), (0, .ref h0), (1, .int x), (2, .int y)] → W p l e _ s m _ below meth c H locs _ _ _ (F0 m 30 ls [])) => key (Int.toNat (p0.toInt - 0) + 1) 0 _ _ _ _ _ _ (by omega) (by omega)  ⟨hP, hD⟩ hS (lv_sub hl [0, 1, 2, 3, 4] rfl)) ?_
  intro n9_30
  induction n9_30 with
  | zero => intro k9_30 x9_30_3 f9_30_1 f9_30_2 H locs ls hq1 hq2; exact absurd hq2 (by omega)
  | succ n9_30 ih_30 =>
    intro k9_30 x9_30_3 f9_30_1 f9_30_2 H locs ls hq1_30 hq2_30  hPD hS hl
    obtain ⟨hP, hD⟩ := hPD
    have hk9_30 : (nI k9_30).toInt = (k9_30 : Int) := nI_toInt (by omega)
    refine lv_iload_n hx hb dX3_pass_30 rfl (lv_at hl 4 rfl) ?_
    refine lv_if_eq (tgt := 107) hx hb dX3_pass_31 (by decide) (fun c_3 => ?_) (fun c_3 => ?_)
    · have ic_3 : y.toInt = 0 := ieq c_3 (rfl) (by decide)
      refine lv_iload_n hx hb dX3_pass_107 rfl (lv_at hl 1 rfl) ?_
      exact x_iret hx hb hr hlk hP hD hS [0, 1, 2, 3, 4] ((z_1, z_2, f9_30_1, f9_30_2)) rfl (by decide) trivial (by decide) (by decide) dX3_pass_108
    · have ic_3 : ¬ y.toInt = 0 := ine c_3 (rfl) (by decide)
      refine lv_iload hx hb dX3_pass_34 (lv_at hl 0 rfl) ?_
      refine lv_aload_n hx hb dX3_pass_36 rfl (lv_at hl 2 rfl) ?_
      refine va_get (D := D) (ci := 3) (v := .int p0) (C := RX3) (T := TX3) (N := 16) hx hb htg gRX3 hown hK hP 0 rfl rfl 0 (by decide) (htg _ wi_166) (fun _ h9 => h9) rfl dX3_pass_37 ?_
      refine lv_icmp_ge (tgt := 107) hx hb dX3_pass_40 (by decide) (fun c_4 => ?_) (fun c_4 => ?_)
      · have ic_4 : p0.toInt ≤ ((k9_30 : Nat) : Int) := ile c_4 (rfl) (nI_toInt (by omega))
        refine lv_iload_n hx hb dX3_pass_107 rfl (lv_at hl 1 rfl) ?_
        exact x_iret hx hb hr hlk hP hD hS [0, 1, 2, 3, 4] ((z_1, z_2, f9_30_1, f9_30_2)) rfl (by decide) trivial (by decide) (by decide) dX3_pass_108
      · have ic_4 : ((k9_30 : Nat) : Int) < p0.toInt := inle c_4 (rfl) (nI_toInt (by omega))
        refine lv_aload_n hx hb dX3_pass_43 rfl (lv_at hl 2 rfl) ?_
        refine va_get (D := D) (ci := 3) (v := .ref (a 1)) (C := RX3) (T := TX3) (N := 16) hx hb htg gRX3 hown hK hP 0 rfl rfl 11 (by decide) (htg _ wi_203) (fun _ h9 => h9) rfl dX3_pass_44 ?_
        refine lv_iload hx hb dX3_pass_47 (lv_at hl 0 rfl) ?_
        refine va_iald hx hb hK hP 2 0 rfl rfl (vp_in_nI (by omega) (by omega)) dX3_pass_49 ?_
        refine lv_topi (fun z_5 ez_5 => ?_)
        refine lv_aload_n hx hb dX3_pass_50 rfl (lv_at hl 2 rfl) ?_
        refine va_get (D := D) (ci := 3) (v := .ref (a 0)) (C := RX3) (T := TX3) (N := 16) hx hb htg gRX3 hown hK hP 0 rfl rfl 10 (by decide) (htg _ wi_199) (fun _ h9 => h9) rfl dX3_pass_51 ?_
        refine lv_iload hx hb dX3_pass_54 (lv_at hl 0 rfl) ?_
        refine va_iald hx hb hK hP 1 0 rfl rfl (vp_in_nI (by omega) (by omega)) dX3_pass_56 ?_
        refine lv_topi (fun z_6 ez_6 => ?_)
        refine va_mmin hx hb (by rw [hml]; exact hl.1.symm) hown (htg _ wi_686) (htg _ wi_524) (htg _ wi_132) (htg _ wi_525) (Nat.le_of_ble_eq_true rfl) (Nat.le_of_ble_eq_true rfl) (Nat.le_of_ble_eq_true rfl) (Nat.le_of_ble_eq_true rfl) dX3_pass_57 ?_
        refine lv_topi (fun z_7 ez_7 => ?_)
        have iz_7 := minI (a := z_5.toInt) (b := z_6.toInt) ez_7 (rfl) (rfl)
        refine lv_aload_n hx hb dX3_pass_60 rfl (lv_at hl 2 rfl) ?_
        refine lv_iload_n hx hb dX3_pass_61 rfl (lv_at hl 3 rfl) ?_
        refine lv_iload hx hb dX3_pass_62 (lv_at hl 0 rfl) ?_
        refine xk_i (wr := [(sw_in cT (a 0) 16 f9_30_1), (sw_in cT (a 1) 16 f1), (sw_in cT (a 4) 16 f9_30_2)]) (xr_V (n := 2) (As := [.int x, .int (nI k9_30)]) (rest := [.int z_7]) ⟨hx, hb, hml, hown, htg⟩ hK hN hP hD hS hA [0, 3] rfl (by decide) (g_lightOf l D cT _ (h0) (a) (p0) (p1) (z_2) (x) (p4) (p5) (p6) (z_1) (p8) (p9) (x) ((nI k9_30)) (by first | assumption | decide | omega | (simp only [ti_0, ti_1, ti_2, ti_3, ti_4, ti_5, ti_6, ti_7, ti_8, ti_9, ti_10, ti_11, ti_12, ti_m1]; omega)) (by first | assumption | decide | omega | (simp only [ti_0, ti_1, ti_2, ti_3, ti_4, ti_5, ti_6, ti_7, ti_8, ti_9, ti_10, ti_11, ti_12, ti_m1]; omega)) (f2)) wi_712 wi_672 wi_19 wi_123 wi_673 rfl rfl rfl ⟨rfl, by decide +kernel⟩ ⟨Nat.le_of_ble_eq_true rfl, Nat.le_of_ble_eq_true rfl⟩ rfl hl.1 rfl (Nat.le_of_ble_eq_true rfl) dX3_pass_64 ⟨Nat.le_of_ble_eq_true rfl, Nat.le_of_ble_eq_true rfl⟩) hP hD hS hA [0, 3] [1, 2, 4] rfl rfl (by decide) (by decide) (fun r_9 u_8 H locs hwr_9 hP hD hS => ?_)
        obtain ⟨hP, hD⟩ : PD D A [(sw_in cT (a 0) 16 f9_30_1), (sw_in cT (a 1) 16 f1), (sw_in cT (a 4) 16 f9_30_2), (sw_3 h0 p0 p1 z_2 x p4 p5 p6 z_1 p8 p9 (a 0) (a 1) (a 2) (a 3) (a 4) (a 5)), (sw_in cT (a 2) 16 f2)] _ := ⟨hP, hD⟩
        refine va_mmin hx hb (by rw [hml]; exact hl.1.symm) hown (htg _ wi_686) (htg _ wi_524) (htg _ wi_132) (htg _ wi_525) (Nat.le_of_ble_eq_true rfl) (Nat.le_of_ble_eq_true rfl) (Nat.le_of_ble_eq_true rfl) (Nat.le_of_ble_eq_true rfl) dX3_pass_67 ?_
        refine lv_topi (fun z_10 ez_10 => ?_)
        have iz_10 := minI (a := z_7.toInt) (b := r_9.toInt) ez_10 (rfl) (rfl)
        refine lv_istore (lv' := [(5, .int z_10), (4, .int (nI k9_30)), (3, .int x9_30_3), (0, .ref h0), (1, .int x), (2, .int y)]) hx hb dX3_pass_70 hl (by decide) rfl (fun ls hl => ?_)
        refine lv_aload_n hx hb dX3_pass_72 rfl (lv_at hl 3 rfl) ?_
        refine va_get (D := D) (ci := 3) (v := .ref (a 0)) (C := RX3) (T := TX3) (N := 16) hx hb htg gRX3 hown hK hP 3 rfl rfl 10 (by decide) (htg _ wi_199) (fun _ h9 => h9) rfl dX3_pass_73 ?_
        refine lv_iload hx hb dX3_pass_76 (lv_at hl 1 rfl) ?_
        refine lv_dup2_11 hx hb dX3_pass_78 rfl rfl ?_
        refine va_iald hx hb hK hP 0 0 rfl rfl (vp_in_nI (by omega) (by omega)) dX3_pass_79 ?_
        refine lv_topi (fun z_11 ez_11 => ?_)
        refine lv_iload hx hb dX3_pass_80 (lv_at hl 0 rfl) ?_
        refine lv_isub hx hb dX3_pass_82 ?_
        refine lv_topi (fun z_12 ez_12 => ?_)
        refine va_iast hx hb hK hP hD hS 0 0 rfl rfl (vp_in_nI (by omega) (by omega)) dX3_pass_83 (fun H locs hP hD hS => ?_)
        obtain ⟨f_13, hP, hD⟩ : ∃ f_13 : Nat → Int32, PD D A [(sw_in cT (a 0) 16 f_13), (sw_in cT (a 1) 16 f1), (sw_in cT (a 4) 16 f9_30_2), (sw_3 h0 p0 p1 z_2 x p4 p5 p6 z_1 p8 p9 (a 0) (a 1) (a 2) (a 3) (a 4) (a 5)), (sw_in cT (a 2) 16 f2)] H := ⟨_, hP, hD⟩
        refine lv_aload_n hx hb dX3_pass_84 rfl (lv_at hl 3 rfl) ?_
        refine va_get (D := D) (ci := 3) (v := .ref (a 4)) (C := RX3) (T := TX3) (N := 16) hx hb htg gRX3 hown hK hP 3 rfl rfl 14 (by decide) (htg _ wi_211) (fun _ h9 => h9) rfl dX3_pass_85 ?_
        refine lv_iload hx hb dX3_pass_88 (lv_at hl 1 rfl) ?_
        refine lv_dup2_11 hx hb dX3_pass_90 rfl rfl ?_
        refine va_iald hx hb hK hP 2 0 rfl rfl (vp_in_nI (by omega) (by omega)) dX3_pass_91 ?_
        refine lv_topi (fun z_14 ez_14 => ?_)
        refine lv_iload hx hb dX3_pass_92 (lv_at hl 0 rfl) ?_
        refine lv_iadd hx hb dX3_pass_94 ?_
        refine lv_topi (fun z_15 ez_15 => ?_)
        refine va_iast hx hb hK hP hD hS 2 0 rfl rfl (vp_in_nI (by omega) (by omega)) dX3_pass_95 (fun H locs hP hD hS => ?_)
        obtain ⟨f_16, hP, hD⟩ : ∃ f_16 : Nat → Int32, PD D A [(sw_in cT (a 0) 16 f_13), (sw_in cT (a 1) 16 f1), (sw_in cT (a 4) 16 f_16), (sw_3 h0 p0 p1 z_2 x p4 p5 p6 z_1 p8 p9 (a 0) (a 1) (a 2) (a 3) (a 4) (a 5)), (sw_in cT (a 2) 16 f2)] H := ⟨_, hP, hD⟩
        refine lv_iload_n hx hb dX3_pass_96 rfl (lv_at hl 2 rfl) ?_
        refine lv_iload hx hb dX3_pass_97 (lv_at hl 0 rfl) ?_
        refine lv_iadd hx hb dX3_pass_99 ?_
        refine lv_topi (fun z_17 ez_17 => ?_)
        refine lv_istore_n (lv' := [(3, .int z_17), (5, .int z_10), (4, .int (nI k9_30)), (0, .ref h0), (1, .int x), (2, .int y)]) hx hb dX3_pass_100 rfl hl (by decide) rfl (fun ls hl => ?_)
        refine lv_iinc (v := (nI (k9_30 + 1))) (lv' := [(4, .int (nI (k9_30 + 1))), (3, .int z_17), (5, .int z_10), (0, .ref h0), (1, .int x), (2, .int y)]) hx hb dX3_pass_101 hl (k := 2) rfl (by exact nI_1 (k9_30)) (by decide) rfl (fun ls hl => ?_)
        refine lv_goto (tgt := 30) hx hb dX3_pass_104 (by decide) ?_
        exact ih_30 (k9_30 + 1) _ _ _ _ _ _ (by omega) (by omega)  ⟨hP.sub [3, 0, 1, 4, 2] rfl, hD.sub [3, 0, 1, 4, 2] (by decide) rfl⟩ hS (lv_sub hl [0, 1, 3, 4, 5] rfl)
set_option maxHeartbeats 4000000 in
set_option maxRecDepth 100000 in
theorem g_passAll (l : Launch) (D : va_G) (cT : Nat → ClassId) (sz : Nat) (h0 : Nat) (a : Nat → Nat) (p0 : Int32) (p1 : Int32) (p2 : Int32) (p3 : Int32) (p4 : Int32) (p5 : Int32) (p6 : Int32) (p7 : Int32) (p8 : Int32) (p9 : Int32) (hs : 0 ≤ p0.toInt ∧ p0.toInt ≤ 16) (hat : 0 ≤ p3.toInt ∧ p3.toInt ≤ 15) (h1 : Nat) (b : Nat) (w0 : Int32) (w1 : Int32) (w2 : Int32) (hw2 : 0 ≤ w2.toInt ∧ w2.toInt ≤ 40) (f : Nat → Int64) (f0 : Nat → Int32) (f1 : Nat → Int32) (f2 : Nat → Int32) (f4 : Nat → Int32) : Met l yX3_passAll (wsc yX3_passAll cX3_passAll 5 (some .int)) { frames := 5, cells := 0, slots := 0, locals := 173 } (va_Pc [.ref h0, .ref h1] (PX D cT sz [(sw_3 h0 p0 p1 p2 p3 p4 p5 p6 p7 p8 p9 (a 0) (a 1) (a 2) (a 3) (a 4) (a 5)), (sw_in cT (a 0) 16 f0), (sw_in cT (a 1) 16 f1), (sw_in cT (a 2) 16 f2), (sw_in cT (a 4) 16 f4), (sw_4 h1 w0 w1 w2 b), (sw_lo cT b 40 f)])) (va_Qi (fun (r : Int32) (u : Int32 × Int32 × Int32 × (Nat → Int32) × (Nat → Int32)) => 0 ≤ u.1.toInt ∧ u.1.toInt ≤ 15) (fun u t => RW D (va_A [(sw_3 h0 p0 p1 p2 p3 p4 p5 p6 p7 p8 p9 (a 0) (a 1) (a 2) (a 3) (a 4) (a 5)), (sw_in cT (a 0) 16 f0), (sw_in cT (a 1) 16 f1), (sw_in cT (a 2) 16 f2), (sw_in cT (a 4) 16 f4), (sw_4 h1 w0 w1 w2 b), (sw_lo cT b 40 f)] sz) ((fun u : Int32 × Int32 × Int32 × (Nat → Int32) × (Nat → Int32) => [(sw_3 h0 p0 p1 u.2.2.1 u.1 p4 p5 p6 u.2.1 p8 p9 (a 0) (a 1) (a 2) (a 3) (a 4) (a 5)), (sw_in cT (a 0) 16 u.2.2.2.1), (sw_in cT (a 1) 16 f1), (sw_in cT (a 2) 16 f2), (sw_in cT (a 4) 16 u.2.2.2.2), (sw_4 h1 w0 w1 w2 b), (sw_lo cT b 40 f)]) u) t) (va_A [(sw_3 h0 p0 p1 p2 p3 p4 p5 p6 p7 p8 p9 (a 0) (a 1) (a 2) (a 3) (a 4) (a 5)), (sw_in cT (a 0) 16 f0), (sw_in cT (a 1) 16 f1), (sw_in cT (a 2) 16 f2), (sw_in cT (a 4) 16 f4), (sw_4 h1 w0 w1 w2 b), (sw_lo cT b 40 f)] sz)) 0 0 (va_A [(sw_3 h0 p0 p1 p2 p3 p4 p5 p6 p7 p8 p9 (a 0) (a 1) (a 2) (a 3) (a 4) (a 5)), (sw_in cT (a 0) 16 f0), (sw_in cT (a 1) 16 f1), (sw_in cT (a 2) 16 f2), (sw_in cT (a 4) 16 f4), (sw_4 h1 w0 w1 w2 b), (sw_lo cT b 40 f)] sz) := by
  refine m_of (y := yX3_passAll) (cc := cX3_passAll) (nL := 5) (ret := (some .int)) (D := D) (cT := cT) (av := [.ref h0, .ref h1]) (wi := [(sw_3 h0 p0 p1 p2 p3 p4 p5 p6 p7 p8 p9 (a 0) (a 1) (a 2) (a 3) (a 4) (a 5)), (sw_in cT (a 0) 16 f0), (sw_in cT (a 1) 16 f1), (sw_in cT (a 2) 16 f2), (sw_in cT (a 4) 16 f4), (sw_4 h1 w0 w1 w2 b), (sw_lo cT b 40 f)]) (fun A => va_Qi (fun (r : Int32) (u : Int32 × Int32 × Int32 × (Nat → Int32) × (Nat → Int32)) => 0 ≤ u.1.toInt ∧ u.1.toInt ≤ 15) (fun u t => RW D A ((fun u : Int32 × Int32 × Int32 × (Nat → Int32) × (Nat → Int32) => [(sw_3 h0 p0 p1 u.2.2.1 u.1 p4 p5 p6 u.2.1 p8 p9 (a 0) (a 1) (a 2) (a 3) (a 4) (a 5)), (sw_in cT (a 0) 16 u.2.2.2.1), (sw_in cT (a 1) 16 f1), (sw_in cT (a 2) 16 f2), (sw_in cT (a 4) 16 u.2.2.2.2), (sw_4 h1 w0 w1 w2 b), (sw_lo cT b 40 f)]) u) t) A) (by decide) (Nat.le_of_ble_eq_true rfl) ?_
  intro p e s m below meth c A hx hb hml hown htg hK hN hr hlk hnm hsz hP hD hS hA ls hl
  have hown : s.vm.findClass RX3 = some m.cls := hown
  have hl : lv_has ls 5 [(0, .ref h0), (1, .ref h1)] := hl
  refine lv_iconst (v := 0) hx hb dX3_passAll_0 (by decide) ?_
  refine lv_istore_n (lv' := [(2, .int 0), (0, .ref h0), (1, .ref h1)]) hx hb dX3_passAll_1 rfl hl (by decide) rfl (fun ls hl => ?_)
  refine (fun (key : ∀ (n9_2 : Nat) (k9_2 : Nat) (f9_2_0 : Nat → Int32) (f9_2_1 : Nat → Int32) (v9_2_2 : Int32) (v9_2_3 : Int32) (v9_2_4 : Int32) (H : Heap) (locs : List Loc) (ls : Array Slot), (k9_2 : Int) ≤ w2.toInt → w2.toInt < (k9_2 : Int) + n9_2 → (0 ≤ v9_2_2.toInt ∧ v9_2_2.toInt ≤ 15) → PD D A [(sw_3 h0 p0 p1 v9_2_4 v9_2_2 p4 p5 p6 v9_2_3 p8 p9 (a 0) (a 1) (a 2) (a 3) (a 4) (a 5)), (sw_in cT (a 0) 16 f9_2_0), (sw_in cT (a 1) 16 f1), (sw_in cT (a 2) 16 f2), (sw_in cT (a 4) 16 f9_2_1), (sw_4 h1 w0 w1 w2 b), (sw_lo cT b 40 f)] H → va_S A s.heap H locs → lv_has ls 5 [(2, .int (nI k9_2)), (0, .ref h0), (1, .ref h1)] → W p l e _ s m _ below meth c H locs _ _ _ (F0 m 2 ls [])) => key (Int.toNat (w2.toInt - 0) + 1) 0 _ _ _ _ _ _ _ _ (by omega) (by omega) (by first | assumption | omega | decide | (simp only [ti_0, ti_1, ti_2, ti_3, ti_4, ti_5, ti_6, ti_7, ti_8, ti_9, ti_10, ti_11, ti_12, ti_m1]; omega)) ⟨hP, hD⟩ hS (lv_sub hl [0, 1, 2] rfl)) ?_
  intro n9_2
  induction n9_2 with
  | zero => intro k9_2 f9_2_0 f9_2_1 v9_2_2 v9_2_3 v9_2_4 H locs ls hq1 hq2; exact absurd hq2 (by omega)
  | succ n9_2 ih_2 =>
    intro k9_2 f9_2_0 f9_2_1 v9_2_2 v9_2_3 v9_2_4 H locs ls hq1_2 hq2_2 h9_2_0 hPD hS hl
    obtain ⟨hP, hD⟩ := hPD
    have hk9_2 : (nI k9_2).toInt = (k9_2 : Int) := nI_toInt (by omega)
    refine lv_iload_n hx hb dX3_passAll_2 rfl (lv_at hl 0 rfl) ?_
    refine lv_aload_n hx hb dX3_passAll_3 rfl (lv_at hl 2 rfl) ?_
    refine va_getN (D := D) (ci := 4) (v := .int w2) (C := RX4) (T := TX4) (N := 4) hx hb htg gRX4 hown hK hP 5 rfl rfl 2 (by decide) (va_Nw.use rfl (hN.1 _ ni_456)) (fun _ h9 => h9) rfl dX3_passAll_4 ?_
    refine lv_icmp_ge (tgt := 47) hx hb dX3_passAll_7 (by decide) (fun c_1 => ?_) (fun c_1 => ?_)
    · have ic_1 : w2.toInt ≤ ((k9_2 : Nat) : Int) := ile c_1 (rfl) (nI_toInt (by omega))
      refine lv_aload_n hx hb dX3_passAll_47 rfl (lv_at hl 2 rfl) ?_
      refine va_getN (D := D) (ci := 4) (v := .int w2) (C := RX4) (T := TX4) (N := 4) hx hb htg gRX4 hown hK hP 5 rfl rfl 2 (by decide) (va_Nw.use rfl (hN.1 _ ni_456)) (fun _ h9 => h9) rfl dX3_passAll_48 ?_
      exact x_iret hx hb hr hlk hP hD hS [0, 1, 2, 3, 4, 5, 6] ((v9_2_2, v9_2_3, v9_2_4, f9_2_0, f9_2_1)) rfl (by decide) (by first | assumption | omega) (by decide) (by decide) dX3_passAll_51
    · have ic_1 : ((k9_2 : Nat) : Int) < w2.toInt := inle c_1 (rfl) (nI_toInt (by omega))
      refine lv_aload_n hx hb dX3_passAll_10 rfl (lv_at hl 2 rfl) ?_
      refine lv_iload_n hx hb dX3_passAll_11 rfl (lv_at hl 0 rfl) ?_
      refine xk_l (wr := [(sw_3 h0 p0 p1 v9_2_4 v9_2_2 p4 p5 p6 v9_2_3 p8 p9 (a 0) (a 1) (a 2) (a 3) (a 4) (a 5)), (sw_in cT (a 0) 16 f9_2_0), (sw_in cT (a 1) 16 f1), (sw_in cT (a 2) 16 f2), (sw_in cT (a 4) 16 f9_2_1)]) (xr_VN (n := 1) (As := [.int (nI k9_2)]) (rest := []) ⟨hx, hb, hml, hown, htg⟩ hK hN hP hD hS hA [5, 6] rfl (by decide) (g_valueAt l D cT _ (h1) (b) (w0) (w1) (w2) (by first | assumption | decide | omega | (simp only [ti_0, ti_1, ti_2, ti_3, ti_4, ti_5, ti_6, ti_7, ti_8, ti_9, ti_10, ti_11, ti_12, ti_m1]; omega)) (f) ((nI k9_2))) ni_784 wi_786 wi_34 wi_130 wi_787 rfl rfl rfl ⟨rfl, by decide +kernel⟩ ⟨Nat.le_of_ble_eq_true rfl, Nat.le_of_ble_eq_true rfl⟩ rfl hl.1 rfl (Nat.le_of_ble_eq_true rfl) dX3_passAll_12 ⟨Nat.le_of_ble_eq_true rfl, Nat.le_of_ble_eq_true rfl⟩) hP hD hS hA [5, 6] [0, 1, 2, 3, 4] rfl rfl (by decide) (by decide) (fun r_3 u_2 H locs hwr_3 hP hD hS => ?_)
      obtain ⟨hP, hD⟩ : PD D A [(sw_3 h0 p0 p1 v9_2_4 v9_2_2 p4 p5 p6 v9_2_3 p8 p9 (a 0) (a 1) (a 2) (a 3) (a 4) (a 5)), (sw_in cT (a 0) 16 f9_2_0), (sw_in cT (a 1) 16 f1), (sw_in cT (a 2) 16 f2), (sw_in cT (a 4) 16 f9_2_1), (sw_4 h1 w0 w1 w2 b), (sw_lo cT b 40 f)] _ := ⟨hP, hD⟩
      refine lv_lstore_n (lv' := [(3, .long r_3), (2, .int (nI k9_2)), (0, .ref h0), (1, .ref h1)]) hx hb dX3_passAll_15 rfl hl (by decide) rfl (fun ls hl => ?_)
      refine lv_aload_n hx hb dX3_passAll_16 rfl (lv_at hl 2 rfl) ?_
      refine lv_lload_n hx hb dX3_passAll_17 rfl (lv_at hl 0 rfl) ?_
      refine xk_i (wr := [(sw_in cT (a 0) 16 f9_2_0), (sw_in cT (a 1) 16 f1), (sw_in cT (a 2) 16 f2), (sw_in cT (a 4) 16 f9_2_1), (sw_4 h1 w0 w1 w2 b), (sw_lo cT b 40 f)]) (xr_V (n := 1) (As := [.long r_3]) (rest := []) ⟨hx, hb, hml, hown, htg⟩ hK hN hP hD hS hA [0] rfl (by decide) (g_whyNot l D cT _ (h0) (a) (p0) (p1) (v9_2_4) (v9_2_2) (p4) (p5) (p6) (v9_2_3) (p8) (p9) (by first | assumption | decide | omega | (simp only [ti_0, ti_1, ti_2, ti_3, ti_4, ti_5, ti_6, ti_7, ti_8, ti_9, ti_10, ti_11, ti_12, ti_m1]; omega)) (r_3)) wi_789 wi_760 wi_30 wi_123 wi_761 rfl rfl rfl ⟨rfl, by decide +kernel⟩ ⟨Nat.le_of_ble_eq_true rfl, Nat.le_of_ble_eq_true rfl⟩ rfl hl.1 rfl (Nat.le_of_ble_eq_true rfl) dX3_passAll_18 ⟨Nat.le_of_ble_eq_true rfl, Nat.le_of_ble_eq_true rfl⟩) hP hD hS hA [0] [1, 2, 3, 4, 5, 6] rfl rfl (by decide) (by decide) (fun r_5 u_4 H locs hwr_5 hP hD hS => ?_)
      obtain ⟨hP, hD⟩ : PD D A [(sw_in cT (a 0) 16 f9_2_0), (sw_in cT (a 1) 16 f1), (sw_in cT (a 2) 16 f2), (sw_in cT (a 4) 16 f9_2_1), (sw_4 h1 w0 w1 w2 b), (sw_lo cT b 40 f), (sw_3 h0 p0 p1 v9_2_4 v9_2_2 p4 p5 p6 v9_2_3 p8 p9 (a 0) (a 1) (a 2) (a 3) (a 4) (a 5))] _ := ⟨hP, hD⟩
      refine lv_if_eq (tgt := 26) hx hb dX3_passAll_21 (by decide) (fun c_6 => ?_) (fun c_6 => ?_)
      · have jc_6 := hwr_5 c_6
        have ic_6 : r_5.toInt = 0 := ieq c_6 (rfl) (by decide)
        refine lv_aload_n hx hb dX3_passAll_26 rfl (lv_at hl 2 rfl) ?_
        refine lv_aload_n hx hb dX3_passAll_27 rfl (lv_at hl 2 rfl) ?_
        refine lv_aload_n hx hb dX3_passAll_28 rfl (lv_at hl 2 rfl) ?_
        refine va_get (D := D) (ci := 3) (v := .int v9_2_2) (C := RX3) (T := TX3) (N := 16) hx hb htg gRX3 hown hK hP 6 rfl rfl 3 (by decide) (htg _ wi_178) (fun _ h9 => h9) rfl dX3_passAll_29 ?_
        refine lv_lload_n hx hb dX3_passAll_32 rfl (lv_at hl 0 rfl) ?_
        refine xk_i (wr := [(sw_in cT (a 0) 16 f9_2_0), (sw_in cT (a 1) 16 f1), (sw_in cT (a 2) 16 f2), (sw_in cT (a 4) 16 f9_2_1), (sw_4 h1 w0 w1 w2 b), (sw_lo cT b 40 f)]) (xr_V (n := 2) (As := [.int v9_2_2, .long r_3]) (rest := [.ref h0]) ⟨hx, hb, hml, hown, htg⟩ hK hN hP hD hS hA [6] rfl (by decide) (g_target l D cT _ (h0) (a) (p0) (p1) (v9_2_4) (v9_2_2) (p4) (p5) (p6) (v9_2_3) (p8) (p9) (v9_2_2) (by first | assumption | decide | omega | (simp only [ti_0, ti_1, ti_2, ti_3, ti_4, ti_5, ti_6, ti_7, ti_8, ti_9, ti_10, ti_11, ti_12, ti_m1]; omega)) (r_3)) wi_762 wi_764 wi_31 wi_123 wi_765 rfl rfl rfl ⟨rfl, by decide +kernel⟩ ⟨Nat.le_of_ble_eq_true rfl, Nat.le_of_ble_eq_true rfl⟩ rfl hl.1 rfl (Nat.le_of_ble_eq_true rfl) dX3_passAll_33 ⟨Nat.le_of_ble_eq_true rfl, Nat.le_of_ble_eq_true rfl⟩) hP hD hS hA [6] [0, 1, 2, 3, 4, 5] rfl rfl (by decide) (by decide) (fun r_8 u_7 H locs hwr_8 hP hD hS => ?_)
        obtain ⟨hP, hD⟩ : PD D A [(sw_in cT (a 0) 16 f9_2_0), (sw_in cT (a 1) 16 f1), (sw_in cT (a 2) 16 f2), (sw_in cT (a 4) 16 f9_2_1), (sw_4 h1 w0 w1 w2 b), (sw_lo cT b 40 f), (sw_3 h0 p0 p1 v9_2_4 v9_2_2 p4 p5 p6 v9_2_3 p8 p9 (a 0) (a 1) (a 2) (a 3) (a 4) (a 5))] _ := ⟨hP, hD⟩
        have ihwr_8 : r_8.toInt = tgtI v9_2_2.toInt r_3.toInt p0.toInt := hwr_8
        have ir_8 : 0 ≤ r_8.toInt ∧ r_8.toInt ≤ 15 := by have h8 := tgtI_in v9_2_2.toInt r_3.toInt p0.toInt; omega
        refine lv_iconst (v := 1) hx hb dX3_passAll_36 (by decide) ?_
        refine xk_i (wr := [(sw_4 h1 w0 w1 w2 b), (sw_lo cT b 40 f)]) (xr_V (n := 2) (As := [.int r_8, .int 1]) (rest := []) ⟨hx, hb, hml, hown, htg⟩ hK hN hP hD hS hA [6, 0, 1, 2, 3] rfl (by decide) (g_pass l D cT _ (h0) (a) (p0) (p1) (v9_2_4) (v9_2_2) (p4) (p5) (p6) (v9_2_3) (p8) (p9) (by first | assumption | decide | omega | (simp only [ti_0, ti_1, ti_2, ti_3, ti_4, ti_5, ti_6, ti_7, ti_8, ti_9, ti_10, ti_11, ti_12, ti_m1]; omega)) (r_8) (1) (by first | assumption | decide | omega | (simp only [ti_0, ti_1, ti_2, ti_3, ti_4, ti_5, ti_6, ti_7, ti_8, ti_9, ti_10, ti_11, ti_12, ti_m1]; omega)) (f9_2_0) (f1) (f2) (f9_2_1)) wi_790 wi_771 wi_32 wi_123 wi_772 rfl rfl rfl ⟨rfl, by decide +kernel⟩ ⟨Nat.le_of_ble_eq_true rfl, Nat.le_of_ble_eq_true rfl⟩ rfl hl.1 rfl (Nat.le_of_ble_eq_true rfl) dX3_passAll_37 ⟨Nat.le_of_ble_eq_true rfl, Nat.le_of_ble_eq_true rfl⟩) hP hD hS hA [6, 0, 1, 2, 3] [4, 5] rfl rfl (by decide) (by decide) (fun r_10 u_9 H locs hwr_10 hP hD hS => ?_)
        obtain ⟨hP, hD⟩ : PD D A [(sw_4 h1 w0 w1 w2 b), (sw_lo cT b 40 f), (sw_3 h0 p0 p1 u_9.2.1 r_8 p4 p5 p6 u_9.1 p8 p9 (a 0) (a 1) (a 2) (a 3) (a 4) (a 5)), (sw_in cT (a 0) 16 u_9.2.2.1), (sw_in cT (a 1) 16 f1), (sw_in cT (a 2) 16 f2), (sw_in cT (a 4) 16 u_9.2.2.2)] _ := ⟨hP, hD⟩
        refine lv_pop hx hb dX3_passAll_40 rfl ?_
        refine lv_iinc (v := (nI (k9_2 + 1))) (lv' := [(2, .int (nI (k9_2 + 1))), (3, .long r_3), (0, .ref h0), (1, .ref h1)]) hx hb dX3_passAll_41 hl (k := 1) rfl (by exact nI_1 (k9_2)) (by decide) rfl (fun ls hl => ?_)
        refine lv_goto (tgt := 2) hx hb dX3_passAll_44 (by decide) ?_
        exact ih_2 (k9_2 + 1) _ _ _ _ _ _ _ _ (by omega) (by omega) (by first | assumption | omega | decide | (simp only [ti_0, ti_1, ti_2, ti_3, ti_4, ti_5, ti_6, ti_7, ti_8, ti_9, ti_10, ti_11, ti_12, ti_m1]; omega)) ⟨hP.sub [2, 3, 4, 5, 6, 0, 1] rfl, hD.sub [2, 3, 4, 5, 6, 0, 1] (by decide) rfl⟩ hS (lv_sub hl [0, 2, 3] rfl)
      · have ic_6 : ¬ r_5.toInt = 0 := ine c_6 (rfl) (by decide)
        refine lv_iload_n hx hb dX3_passAll_24 rfl (lv_at hl 1 rfl) ?_
        exact x_iret hx hb hr hlk hP hD hS [6, 0, 1, 2, 3, 4, 5] ((v9_2_2, v9_2_3, v9_2_4, f9_2_0, f9_2_1)) rfl (by decide) (by first | assumption | omega) (by decide) (by decide) dX3_passAll_25
set_option maxHeartbeats 4000000 in
set_option maxRecDepth 100000 in
theorem g_become (l : Launch) (D : va_G) (cT : Nat → ClassId) (sz : Nat) (h0 : Nat) (a : Nat → Nat) (p0 : Int32) (p1 : Int32) (p2 : Int32) (p3 : Int32) (p4 : Int32) (p5 : Int32) (p6 : Int32) (p7 : Int32) (p8 : Int32) (p9 : Int32) (h1 : Nat) (b : Nat → Nat) (q0 : Int32) (q1 : Int32) (q2 : Int32) (q3 : Int32) (q4 : Int32) (q5 : Int32) (q6 : Int32) (q7 : Int32) (q8 : Int32) (q9 : Int32) (f0 : Nat → Int32) (f1 : Nat → Int32) (f2 : Nat → Int32) (f3 : Nat → Int32) (f4 : Nat → Int32) (f5 : Nat → Int32) (g0 : Nat → Int32) (g1 : Nat → Int32) (g2 : Nat → Int32) (g3 : Nat → Int32) (g4 : Nat → Int32) (g5 : Nat → Int32) (e3 : EL g3 16 0 5) : Met l yX3_become (wsc yX3_become cX3_become 2 none) { frames := 2, cells := 0, slots := 0, locals := 100 } (va_Pc [.ref h0, .ref h1] (PX D cT sz [(sw_3 h0 p0 p1 p2 p3 p4 p5 p6 p7 p8 p9 (a 0) (a 1) (a 2) (a 3) (a 4) (a 5)), (sw_3 h1 q0 q1 q2 q3 q4 q5 q6 q7 q8 q9 (b 0) (b 1) (b 2) (b 3) (b 4) (b 5)), (sw_in cT (a 0) 16 f0), (sw_in cT (a 1) 16 f1), (sw_in cT (a 2) 16 f2), (sw_in cT (a 3) 16 f3), (sw_in cT (a 4) 16 f4), (sw_in cT (a 5) 6 f5), (sw_in cT (b 0) 16 g0), (sw_in cT (b 1) 16 g1), (sw_in cT (b 2) 16 g2), (sw_in cT (b 3) 16 g3), (sw_in cT (b 4) 16 g4), (sw_in cT (b 5) 6 g5)])) (va_Qv (fun (u : (Nat → Int32) × (Nat → Int32) × (Nat → Int32) × (Nat → Int32) × (Nat → Int32) × (Nat → Int32)) => (EL u.2.2.2.1 16 0 5) ∧ (True)) (fun u t => RW D (va_A [(sw_3 h0 p0 p1 p2 p3 p4 p5 p6 p7 p8 p9 (a 0) (a 1) (a 2) (a 3) (a 4) (a 5)), (sw_3 h1 q0 q1 q2 q3 q4 q5 q6 q7 q8 q9 (b 0) (b 1) (b 2) (b 3) (b 4) (b 5)), (sw_in cT (a 0) 16 f0), (sw_in cT (a 1) 16 f1), (sw_in cT (a 2) 16 f2), (sw_in cT (a 3) 16 f3), (sw_in cT (a 4) 16 f4), (sw_in cT (a 5) 6 f5), (sw_in cT (b 0) 16 g0), (sw_in cT (b 1) 16 g1), (sw_in cT (b 2) 16 g2), (sw_in cT (b 3) 16 g3), (sw_in cT (b 4) 16 g4), (sw_in cT (b 5) 6 g5)] sz) ((fun u : (Nat → Int32) × (Nat → Int32) × (Nat → Int32) × (Nat → Int32) × (Nat → Int32) × (Nat → Int32) => [(sw_3 h0 q0 q1 q2 q3 q4 q5 q6 q7 q8 q9 (a 0) (a 1) (a 2) (a 3) (a 4) (a 5)), (sw_3 h1 q0 q1 q2 q3 q4 q5 q6 q7 q8 q9 (b 0) (b 1) (b 2) (b 3) (b 4) (b 5)), (sw_in cT (a 0) 16 u.1), (sw_in cT (a 1) 16 u.2.1), (sw_in cT (a 2) 16 u.2.2.1), (sw_in cT (a 3) 16 u.2.2.2.1), (sw_in cT (a 4) 16 u.2.2.2.2.1), (sw_in cT (a 5) 6 u.2.2.2.2.2), (sw_in cT (b 0) 16 g0), (sw_in cT (b 1) 16 g1), (sw_in cT (b 2) 16 g2), (sw_in cT (b 3) 16 g3), (sw_in cT (b 4) 16 g4), (sw_in cT (b 5) 6 g5)]) u) t) (va_A [(sw_3 h0 p0 p1 p2 p3 p4 p5 p6 p7 p8 p9 (a 0) (a 1) (a 2) (a 3) (a 4) (a 5)), (sw_3 h1 q0 q1 q2 q3 q4 q5 q6 q7 q8 q9 (b 0) (b 1) (b 2) (b 3) (b 4) (b 5)), (sw_in cT (a 0) 16 f0), (sw_in cT (a 1) 16 f1), (sw_in cT (a 2) 16 f2), (sw_in cT (a 3) 16 f3), (sw_in cT (a 4) 16 f4), (sw_in cT (a 5) 6 f5), (sw_in cT (b 0) 16 g0), (sw_in cT (b 1) 16 g1), (sw_in cT (b 2) 16 g2), (sw_in cT (b 3) 16 g3), (sw_in cT (b 4) 16 g4), (sw_in cT (b 5) 6 g5)] sz)) 0 0 (va_A [(sw_3 h0 p0 p1 p2 p3 p4 p5 p6 p7 p8 p9 (a 0) (a 1) (a 2) (a 3) (a 4) (a 5)), (sw_3 h1 q0 q1 q2 q3 q4 q5 q6 q7 q8 q9 (b 0) (b 1) (b 2) (b 3) (b 4) (b 5)), (sw_in cT (a 0) 16 f0), (sw_in cT (a 1) 16 f1), (sw_in cT (a 2) 16 f2), (sw_in cT (a 3) 16 f3), (sw_in cT (a 4) 16 f4), (sw_in cT (a 5) 6 f5), (sw_in cT (b 0) 16 g0), (sw_in cT (b 1) 16 g1), (sw_in cT (b 2) 16 g2), (sw_in cT (b 3) 16 g3), (sw_in cT (b 4) 16 g4), (sw_in cT (b 5) 6 g5)] sz) := by
  refine m_of (y := yX3_become) (cc := cX3_become) (nL := 2) (ret := none) (D := D) (cT := cT) (av := [.ref h0, .ref h1]) (wi := [(sw_3 h0 p0 p1 p2 p3 p4 p5 p6 p7 p8 p9 (a 0) (a 1) (a 2) (a 3) (a 4) (a 5)), (sw_3 h1 q0 q1 q2 q3 q4 q5 q6 q7 q8 q9 (b 0) (b 1) (b 2) (b 3) (b 4) (b 5)), (sw_in cT (a 0) 16 f0), (sw_in cT (a 1) 16 f1), (sw_in cT (a 2) 16 f2), (sw_in cT (a 3) 16 f3), (sw_in cT (a 4) 16 f4), (sw_in cT (a 5) 6 f5), (sw_in cT (b 0) 16 g0), (sw_in cT (b 1) 16 g1), (sw_in cT (b 2) 16 g2), (sw_in cT (b 3) 16 g3), (sw_in cT (b 4) 16 g4), (sw_in cT (b 5) 6 g5)]) (fun A => va_Qv (fun (u : (Nat → Int32) × (Nat → Int32) × (Nat → Int32) × (Nat → Int32) × (Nat → Int32) × (Nat → Int32)) => (EL u.2.2.2.1 16 0 5) ∧ (True)) (fun u t => RW D A ((fun u : (Nat → Int32) × (Nat → Int32) × (Nat → Int32) × (Nat → Int32) × (Nat → Int32) × (Nat → Int32) => [(sw_3 h0 q0 q1 q2 q3 q4 q5 q6 q7 q8 q9 (a 0) (a 1) (a 2) (a 3) (a 4) (a 5)), (sw_3 h1 q0 q1 q2 q3 q4 q5 q6 q7 q8 q9 (b 0) (b 1) (b 2) (b 3) (b 4) (b 5)), (sw_in cT (a 0) 16 u.1), (sw_in cT (a 1) 16 u.2.1), (sw_in cT (a 2) 16 u.2.2.1), (sw_in cT (a 3) 16 u.2.2.2.1), (sw_in cT (a 4) 16 u.2.2.2.2.1), (sw_in cT (a 5) 6 u.2.2.2.2.2), (sw_in cT (b 0) 16 g0), (sw_in cT (b 1) 16 g1), (sw_in cT (b 2) 16 g2), (sw_in cT (b 3) 16 g3), (sw_in cT (b 4) 16 g4), (sw_in cT (b 5) 6 g5)]) u) t) A) (by decide) (Nat.le_of_ble_eq_true rfl) ?_
  intro p e s m below meth c A hx hb hml hown htg hK hN hr hlk hnm hsz hP hD hS hA ls hl
  have hown : s.vm.findClass RX3 = some m.cls := hown
  have hl : lv_has ls 2 [(0, .ref h0), (1, .ref h1)] := hl
  refine lv_aload_n hx hb dX3_become_0 rfl (lv_at hl 0 rfl) ?_
  refine lv_aload_n hx hb dX3_become_1 rfl (lv_at hl 1 rfl) ?_
  refine va_get (D := D) (ci := 3) (v := .int q0) (C := RX3) (T := TX3) (N := 16) hx hb htg gRX3 hown hK hP 1 rfl rfl 0 (by decide) (htg _ wi_166) (fun _ h9 => h9) rfl dX3_become_2 ?_
  refine va_put (D := D) (ci := 3) (v := .int q0) (ty := .int) (C := RX3) (T := TX3) (N := 16) hx hb htg gRX3 tyX3 tyX3_ok nmX3 hown hK hP hD hS 0 rfl rfl 0 (by decide) (htg _ wi_166) (fun _ h9 => h9) rfl (by decide +kernel) rfl rfl (Nat.le_of_ble_eq_true rfl) dX3_become_5 (fun H locs hP hD hS => ?_)
  obtain ⟨hP, hD⟩ : PD D A [(sw_3 h0 q0 p1 p2 p3 p4 p5 p6 p7 p8 p9 (a 0) (a 1) (a 2) (a 3) (a 4) (a 5)), (sw_3 h1 q0 q1 q2 q3 q4 q5 q6 q7 q8 q9 (b 0) (b 1) (b 2) (b 3) (b 4) (b 5)), (sw_in cT (a 0) 16 f0), (sw_in cT (a 1) 16 f1), (sw_in cT (a 2) 16 f2), (sw_in cT (a 3) 16 f3), (sw_in cT (a 4) 16 f4), (sw_in cT (a 5) 6 f5), (sw_in cT (b 0) 16 g0), (sw_in cT (b 1) 16 g1), (sw_in cT (b 2) 16 g2), (sw_in cT (b 3) 16 g3), (sw_in cT (b 4) 16 g4), (sw_in cT (b 5) 6 g5)] _ := ⟨hP, hD⟩
  refine lv_aload_n hx hb dX3_become_8 rfl (lv_at hl 0 rfl) ?_
  refine lv_aload_n hx hb dX3_become_9 rfl (lv_at hl 1 rfl) ?_
  refine va_get (D := D) (ci := 3) (v := .int q1) (C := RX3) (T := TX3) (N := 16) hx hb htg gRX3 hown hK hP 1 rfl rfl 1 (by decide) (htg _ wi_173) (fun _ h9 => h9) rfl dX3_become_10 ?_
  refine va_put (D := D) (ci := 3) (v := .int q1) (ty := .int) (C := RX3) (T := TX3) (N := 16) hx hb htg gRX3 tyX3 tyX3_ok nmX3 hown hK hP hD hS 0 rfl rfl 1 (by decide) (htg _ wi_173) (fun _ h9 => h9) rfl (by decide +kernel) rfl rfl (Nat.le_of_ble_eq_true rfl) dX3_become_13 (fun H locs hP hD hS => ?_)
  obtain ⟨hP, hD⟩ : PD D A [(sw_3 h0 q0 q1 p2 p3 p4 p5 p6 p7 p8 p9 (a 0) (a 1) (a 2) (a 3) (a 4) (a 5)), (sw_3 h1 q0 q1 q2 q3 q4 q5 q6 q7 q8 q9 (b 0) (b 1) (b 2) (b 3) (b 4) (b 5)), (sw_in cT (a 0) 16 f0), (sw_in cT (a 1) 16 f1), (sw_in cT (a 2) 16 f2), (sw_in cT (a 3) 16 f3), (sw_in cT (a 4) 16 f4), (sw_in cT (a 5) 6 f5), (sw_in cT (b 0) 16 g0), (sw_in cT (b 1) 16 g1), (sw_in cT (b 2) 16 g2), (sw_in cT (b 3) 16 g3), (sw_in cT (b 4) 16 g4), (sw_in cT (b 5) 6 g5)] _ := ⟨hP, hD⟩
  refine lv_aload_n hx hb dX3_become_16 rfl (lv_at hl 0 rfl) ?_
  refine lv_aload_n hx hb dX3_become_17 rfl (lv_at hl 1 rfl) ?_
  refine va_get (D := D) (ci := 3) (v := .int q2) (C := RX3) (T := TX3) (N := 16) hx hb htg gRX3 hown hK hP 1 rfl rfl 2 (by decide) (htg _ wi_176) (fun _ h9 => h9) rfl dX3_become_18 ?_
  refine va_put (D := D) (ci := 3) (v := .int q2) (ty := .int) (C := RX3) (T := TX3) (N := 16) hx hb htg gRX3 tyX3 tyX3_ok nmX3 hown hK hP hD hS 0 rfl rfl 2 (by decide) (htg _ wi_176) (fun _ h9 => h9) rfl (by decide +kernel) rfl rfl (Nat.le_of_ble_eq_true rfl) dX3_become_21 (fun H locs hP hD hS => ?_)
  obtain ⟨hP, hD⟩ : PD D A [(sw_3 h0 q0 q1 q2 p3 p4 p5 p6 p7 p8 p9 (a 0) (a 1) (a 2) (a 3) (a 4) (a 5)), (sw_3 h1 q0 q1 q2 q3 q4 q5 q6 q7 q8 q9 (b 0) (b 1) (b 2) (b 3) (b 4) (b 5)), (sw_in cT (a 0) 16 f0), (sw_in cT (a 1) 16 f1), (sw_in cT (a 2) 16 f2), (sw_in cT (a 3) 16 f3), (sw_in cT (a 4) 16 f4), (sw_in cT (a 5) 6 f5), (sw_in cT (b 0) 16 g0), (sw_in cT (b 1) 16 g1), (sw_in cT (b 2) 16 g2), (sw_in cT (b 3) 16 g3), (sw_in cT (b 4) 16 g4), (sw_in cT (b 5) 6 g5)] _ := ⟨hP, hD⟩
  refine lv_aload_n hx hb dX3_become_24 rfl (lv_at hl 0 rfl) ?_
  refine lv_aload_n hx hb dX3_become_25 rfl (lv_at hl 1 rfl) ?_
  refine va_get (D := D) (ci := 3) (v := .int q3) (C := RX3) (T := TX3) (N := 16) hx hb htg gRX3 hown hK hP 1 rfl rfl 3 (by decide) (htg _ wi_178) (fun _ h9 => h9) rfl dX3_become_26 ?_
  refine va_put (D := D) (ci := 3) (v := .int q3) (ty := .int) (C := RX3) (T := TX3) (N := 16) hx hb htg gRX3 tyX3 tyX3_ok nmX3 hown hK hP hD hS 0 rfl rfl 3 (by decide) (htg _ wi_178) (fun _ h9 => h9) rfl (by decide +kernel) rfl rfl (Nat.le_of_ble_eq_true rfl) dX3_become_29 (fun H locs hP hD hS => ?_)
  obtain ⟨hP, hD⟩ : PD D A [(sw_3 h0 q0 q1 q2 q3 p4 p5 p6 p7 p8 p9 (a 0) (a 1) (a 2) (a 3) (a 4) (a 5)), (sw_3 h1 q0 q1 q2 q3 q4 q5 q6 q7 q8 q9 (b 0) (b 1) (b 2) (b 3) (b 4) (b 5)), (sw_in cT (a 0) 16 f0), (sw_in cT (a 1) 16 f1), (sw_in cT (a 2) 16 f2), (sw_in cT (a 3) 16 f3), (sw_in cT (a 4) 16 f4), (sw_in cT (a 5) 6 f5), (sw_in cT (b 0) 16 g0), (sw_in cT (b 1) 16 g1), (sw_in cT (b 2) 16 g2), (sw_in cT (b 3) 16 g3), (sw_in cT (b 4) 16 g4), (sw_in cT (b 5) 6 g5)] _ := ⟨hP, hD⟩
  refine lv_aload_n hx hb dX3_become_32 rfl (lv_at hl 0 rfl) ?_
  refine lv_aload_n hx hb dX3_become_33 rfl (lv_at hl 1 rfl) ?_
  refine va_get (D := D) (ci := 3) (v := .int q4) (C := RX3) (T := TX3) (N := 16) hx hb htg gRX3 hown hK hP 1 rfl rfl 4 (by decide) (htg _ wi_181) (fun _ h9 => h9) rfl dX3_become_34 ?_
  refine va_put (D := D) (ci := 3) (v := .int q4) (ty := .int) (C := RX3) (T := TX3) (N := 16) hx hb htg gRX3 tyX3 tyX3_ok nmX3 hown hK hP hD hS 0 rfl rfl 4 (by decide) (htg _ wi_181) (fun _ h9 => h9) rfl (by decide +kernel) rfl rfl (Nat.le_of_ble_eq_true rfl) dX3_become_37 (fun H locs hP hD hS => ?_)
  obtain ⟨hP, hD⟩ : PD D A [(sw_3 h0 q0 q1 q2 q3 q4 p5 p6 p7 p8 p9 (a 0) (a 1) (a 2) (a 3) (a 4) (a 5)), (sw_3 h1 q0 q1 q2 q3 q4 q5 q6 q7 q8 q9 (b 0) (b 1) (b 2) (b 3) (b 4) (b 5)), (sw_in cT (a 0) 16 f0), (sw_in cT (a 1) 16 f1), (sw_in cT (a 2) 16 f2), (sw_in cT (a 3) 16 f3), (sw_in cT (a 4) 16 f4), (sw_in cT (a 5) 6 f5), (sw_in cT (b 0) 16 g0), (sw_in cT (b 1) 16 g1), (sw_in cT (b 2) 16 g2), (sw_in cT (b 3) 16 g3), (sw_in cT (b 4) 16 g4), (sw_in cT (b 5) 6 g5)] _ := ⟨hP, hD⟩
  refine lv_aload_n hx hb dX3_become_40 rfl (lv_at hl 0 rfl) ?_
  refine lv_aload_n hx hb dX3_become_41 rfl (lv_at hl 1 rfl) ?_
  refine va_get (D := D) (ci := 3) (v := .int q5) (C := RX3) (T := TX3) (N := 16) hx hb htg gRX3 hown hK hP 1 rfl rfl 5 (by decide) (htg _ wi_184) (fun _ h9 => h9) rfl dX3_become_42 ?_
  refine va_put (D := D) (ci := 3) (v := .int q5) (ty := .int) (C := RX3) (T := TX3) (N := 16) hx hb htg gRX3 tyX3 tyX3_ok nmX3 hown hK hP hD hS 0 rfl rfl 5 (by decide) (htg _ wi_184) (fun _ h9 => h9) rfl (by decide +kernel) rfl rfl (Nat.le_of_ble_eq_true rfl) dX3_become_45 (fun H locs hP hD hS => ?_)
  obtain ⟨hP, hD⟩ : PD D A [(sw_3 h0 q0 q1 q2 q3 q4 q5 p6 p7 p8 p9 (a 0) (a 1) (a 2) (a 3) (a 4) (a 5)), (sw_3 h1 q0 q1 q2 q3 q4 q5 q6 q7 q8 q9 (b 0) (b 1) (b 2) (b 3) (b 4) (b 5)), (sw_in cT (a 0) 16 f0), (sw_in cT (a 1) 16 f1), (sw_in cT (a 2) 16 f2), (sw_in cT (a 3) 16 f3), (sw_in cT (a 4) 16 f4), (sw_in cT (a 5) 6 f5), (sw_in cT (b 0) 16 g0), (sw_in cT (b 1) 16 g1), (sw_in cT (b 2) 16 g2), (sw_in cT (b 3) 16 g3), (sw_in cT (b 4) 16 g4), (sw_in cT (b 5) 6 g5)] _ := ⟨hP, hD⟩
  refine lv_aload_n hx hb dX3_become_48 rfl (lv_at hl 0 rfl) ?_
  refine lv_aload_n hx hb dX3_become_49 rfl (lv_at hl 1 rfl) ?_
  refine va_get (D := D) (ci := 3) (v := .int q6) (C := RX3) (T := TX3) (N := 16) hx hb htg gRX3 hown hK hP 1 rfl rfl 6 (by decide) (htg _ wi_187) (fun _ h9 => h9) rfl dX3_become_50 ?_
  refine va_put (D := D) (ci := 3) (v := .int q6) (ty := .int) (C := RX3) (T := TX3) (N := 16) hx hb htg gRX3 tyX3 tyX3_ok nmX3 hown hK hP hD hS 0 rfl rfl 6 (by decide) (htg _ wi_187) (fun _ h9 => h9) rfl (by decide +kernel) rfl rfl (Nat.le_of_ble_eq_true rfl) dX3_become_53 (fun H locs hP hD hS => ?_)
  obtain ⟨hP, hD⟩ : PD D A [(sw_3 h0 q0 q1 q2 q3 q4 q5 q6 p7 p8 p9 (a 0) (a 1) (a 2) (a 3) (a 4) (a 5)), (sw_3 h1 q0 q1 q2 q3 q4 q5 q6 q7 q8 q9 (b 0) (b 1) (b 2) (b 3) (b 4) (b 5)), (sw_in cT (a 0) 16 f0), (sw_in cT (a 1) 16 f1), (sw_in cT (a 2) 16 f2), (sw_in cT (a 3) 16 f3), (sw_in cT (a 4) 16 f4), (sw_in cT (a 5) 6 f5), (sw_in cT (b 0) 16 g0), (sw_in cT (b 1) 16 g1), (sw_in cT (b 2) 16 g2), (sw_in cT (b 3) 16 g3), (sw_in cT (b 4) 16 g4), (sw_in cT (b 5) 6 g5)] _ := ⟨hP, hD⟩
  refine lv_aload_n hx hb dX3_become_56 rfl (lv_at hl 0 rfl) ?_
  refine lv_aload_n hx hb dX3_become_57 rfl (lv_at hl 1 rfl) ?_
  refine va_get (D := D) (ci := 3) (v := .int q7) (C := RX3) (T := TX3) (N := 16) hx hb htg gRX3 hown hK hP 1 rfl rfl 7 (by decide) (htg _ wi_190) (fun _ h9 => h9) rfl dX3_become_58 ?_
  refine va_put (D := D) (ci := 3) (v := .int q7) (ty := .int) (C := RX3) (T := TX3) (N := 16) hx hb htg gRX3 tyX3 tyX3_ok nmX3 hown hK hP hD hS 0 rfl rfl 7 (by decide) (htg _ wi_190) (fun _ h9 => h9) rfl (by decide +kernel) rfl rfl (Nat.le_of_ble_eq_true rfl) dX3_become_61 (fun H locs hP hD hS => ?_)
  obtain ⟨hP, hD⟩ : PD D A [(sw_3 h0 q0 q1 q2 q3 q4 q5 q6 q7 p8 p9 (a 0) (a 1) (a 2) (a 3) (a 4) (a 5)), (sw_3 h1 q0 q1 q2 q3 q4 q5 q6 q7 q8 q9 (b 0) (b 1) (b 2) (b 3) (b 4) (b 5)), (sw_in cT (a 0) 16 f0), (sw_in cT (a 1) 16 f1), (sw_in cT (a 2) 16 f2), (sw_in cT (a 3) 16 f3), (sw_in cT (a 4) 16 f4), (sw_in cT (a 5) 6 f5), (sw_in cT (b 0) 16 g0), (sw_in cT (b 1) 16 g1), (sw_in cT (b 2) 16 g2), (sw_in cT (b 3) 16 g3), (sw_in cT (b 4) 16 g4), (sw_in cT (b 5) 6 g5)] _ := ⟨hP, hD⟩
  refine lv_aload_n hx hb dX3_become_64 rfl (lv_at hl 0 rfl) ?_
  refine lv_aload_n hx hb dX3_become_65 rfl (lv_at hl 1 rfl) ?_
  refine va_get (D := D) (ci := 3) (v := .int q8) (C := RX3) (T := TX3) (N := 16) hx hb htg gRX3 hown hK hP 1 rfl rfl 8 (by decide) (htg _ wi_193) (fun _ h9 => h9) rfl dX3_become_66 ?_
  refine va_put (D := D) (ci := 3) (v := .int q8) (ty := .int) (C := RX3) (T := TX3) (N := 16) hx hb htg gRX3 tyX3 tyX3_ok nmX3 hown hK hP hD hS 0 rfl rfl 8 (by decide) (htg _ wi_193) (fun _ h9 => h9) rfl (by decide +kernel) rfl rfl (Nat.le_of_ble_eq_true rfl) dX3_become_69 (fun H locs hP hD hS => ?_)
  obtain ⟨hP, hD⟩ : PD D A [(sw_3 h0 q0 q1 q2 q3 q4 q5 q6 q7 q8 p9 (a 0) (a 1) (a 2) (a 3) (a 4) (a 5)), (sw_3 h1 q0 q1 q2 q3 q4 q5 q6 q7 q8 q9 (b 0) (b 1) (b 2) (b 3) (b 4) (b 5)), (sw_in cT (a 0) 16 f0), (sw_in cT (a 1) 16 f1), (sw_in cT (a 2) 16 f2), (sw_in cT (a 3) 16 f3), (sw_in cT (a 4) 16 f4), (sw_in cT (a 5) 6 f5), (sw_in cT (b 0) 16 g0), (sw_in cT (b 1) 16 g1), (sw_in cT (b 2) 16 g2), (sw_in cT (b 3) 16 g3), (sw_in cT (b 4) 16 g4), (sw_in cT (b 5) 6 g5)] _ := ⟨hP, hD⟩
  refine lv_aload_n hx hb dX3_become_72 rfl (lv_at hl 0 rfl) ?_
  refine lv_aload_n hx hb dX3_become_73 rfl (lv_at hl 1 rfl) ?_
  refine va_get (D := D) (ci := 3) (v := .int q9) (C := RX3) (T := TX3) (N := 16) hx hb htg gRX3 hown hK hP 1 rfl rfl 9 (by decide) (htg _ wi_196) (fun _ h9 => h9) rfl dX3_become_74 ?_
  refine va_put (D := D) (ci := 3) (v := .int q9) (ty := .int) (C := RX3) (T := TX3) (N := 16) hx hb htg gRX3 tyX3 tyX3_ok nmX3 hown hK hP hD hS 0 rfl rfl 9 (by decide) (htg _ wi_196) (fun _ h9 => h9) rfl (by decide +kernel) rfl rfl (Nat.le_of_ble_eq_true rfl) dX3_become_77 (fun H locs hP hD hS => ?_)
  obtain ⟨hP, hD⟩ : PD D A [(sw_3 h0 q0 q1 q2 q3 q4 q5 q6 q7 q8 q9 (a 0) (a 1) (a 2) (a 3) (a 4) (a 5)), (sw_3 h1 q0 q1 q2 q3 q4 q5 q6 q7 q8 q9 (b 0) (b 1) (b 2) (b 3) (b 4) (b 5)), (sw_in cT (a 0) 16 f0), (sw_in cT (a 1) 16 f1), (sw_in cT (a 2) 16 f2), (sw_in cT (a 3) 16 f3), (sw_in cT (a 4) 16 f4), (sw_in cT (a 5) 6 f5), (sw_in cT (b 0) 16 g0), (sw_in cT (b 1) 16 g1), (sw_in cT (b 2) 16 g2), (sw_in cT (b 3) 16 g3), (sw_in cT (b 4) 16 g4), (sw_in cT (b 5) 6 g5)] _ := ⟨hP, hD⟩
  refine lv_aload_n hx hb dX3_become_80 rfl (lv_at hl 1 rfl) ?_
  refine va_get (D := D) (ci := 3) (v := .ref (b 0)) (C := RX3) (T := TX3) (N := 16) hx hb htg gRX3 hown hK hP 1 rfl rfl 10 (by decide) (htg _ wi_199) (fun _ h9 => h9) rfl dX3_become_81 ?_
  refine lv_iconst (v := 0) hx hb dX3_become_84 (by decide) ?_
  refine lv_aload_n hx hb dX3_become_85 rfl (lv_at hl 0 rfl) ?_
  refine va_get (D := D) (ci := 3) (v := .ref (a 0)) (C := RX3) (T := TX3) (N := 16) hx hb htg gRX3 hown hK hP 0 rfl rfl 10 (by decide) (htg _ wi_199) (fun _ h9 => h9) rfl dX3_become_86 ?_
  refine lv_iconst (v := 0) hx hb dX3_become_89 (by decide) ?_
  refine lv_bipush (v := 16) hx hb dX3_become_90 (by decide) ?_
  refine va_copyi hx hb (by rw [hml]; exact hl.1.symm) hown (htg _ wi_657) (htg _ wi_531) (htg _ wi_530) (htg _ wi_133) hK hP hD hS 8 2 0 0 rfl rfl rfl rfl rfl (by decide) (by decide) (by decide) (by decide) (by decide) (fun _ _ => rfl) (Nat.le_of_ble_eq_true rfl) (Nat.le_of_ble_eq_true rfl) dX3_become_92 (fun H locs hP hD hS => ?_)
  obtain ⟨f_1, ef_1, hP, hD⟩ : ∃ f_1 : Nat → Int32, f_1 = va_cpy (g0) (f0) (0 : Int32).toNatClampNeg (0 : Int32).toNatClampNeg (16 : Int32).toNatClampNeg ∧ PD D A [(sw_3 h0 q0 q1 q2 q3 q4 q5 q6 q7 q8 q9 (a 0) (a 1) (a 2) (a 3) (a 4) (a 5)), (sw_3 h1 q0 q1 q2 q3 q4 q5 q6 q7 q8 q9 (b 0) (b 1) (b 2) (b 3) (b 4) (b 5)), (sw_in cT (a 0) 16 f_1), (sw_in cT (a 1) 16 f1), (sw_in cT (a 2) 16 f2), (sw_in cT (a 3) 16 f3), (sw_in cT (a 4) 16 f4), (sw_in cT (a 5) 6 f5), (sw_in cT (b 0) 16 g0), (sw_in cT (b 1) 16 g1), (sw_in cT (b 2) 16 g2), (sw_in cT (b 3) 16 g3), (sw_in cT (b 4) 16 g4), (sw_in cT (b 5) 6 g5)] H := ⟨_, rfl, hP, hD⟩
  refine lv_aload_n hx hb dX3_become_95 rfl (lv_at hl 1 rfl) ?_
  refine va_get (D := D) (ci := 3) (v := .ref (b 1)) (C := RX3) (T := TX3) (N := 16) hx hb htg gRX3 hown hK hP 1 rfl rfl 11 (by decide) (htg _ wi_203) (fun _ h9 => h9) rfl dX3_become_96 ?_
  refine lv_iconst (v := 0) hx hb dX3_become_99 (by decide) ?_
  refine lv_aload_n hx hb dX3_become_100 rfl (lv_at hl 0 rfl) ?_
  refine va_get (D := D) (ci := 3) (v := .ref (a 1)) (C := RX3) (T := TX3) (N := 16) hx hb htg gRX3 hown hK hP 0 rfl rfl 11 (by decide) (htg _ wi_203) (fun _ h9 => h9) rfl dX3_become_101 ?_
  refine lv_iconst (v := 0) hx hb dX3_become_104 (by decide) ?_
  refine lv_bipush (v := 16) hx hb dX3_become_105 (by decide) ?_
  refine va_copyi hx hb (by rw [hml]; exact hl.1.symm) hown (htg _ wi_657) (htg _ wi_531) (htg _ wi_530) (htg _ wi_133) hK hP hD hS 9 3 0 0 rfl rfl rfl rfl rfl (by decide) (by decide) (by decide) (by decide) (by decide) (fun _ _ => rfl) (Nat.le_of_ble_eq_true rfl) (Nat.le_of_ble_eq_true rfl) dX3_become_107 (fun H locs hP hD hS => ?_)
  obtain ⟨f_2, ef_2, hP, hD⟩ : ∃ f_2 : Nat → Int32, f_2 = va_cpy (g1) (f1) (0 : Int32).toNatClampNeg (0 : Int32).toNatClampNeg (16 : Int32).toNatClampNeg ∧ PD D A [(sw_3 h0 q0 q1 q2 q3 q4 q5 q6 q7 q8 q9 (a 0) (a 1) (a 2) (a 3) (a 4) (a 5)), (sw_3 h1 q0 q1 q2 q3 q4 q5 q6 q7 q8 q9 (b 0) (b 1) (b 2) (b 3) (b 4) (b 5)), (sw_in cT (a 0) 16 f_1), (sw_in cT (a 1) 16 f_2), (sw_in cT (a 2) 16 f2), (sw_in cT (a 3) 16 f3), (sw_in cT (a 4) 16 f4), (sw_in cT (a 5) 6 f5), (sw_in cT (b 0) 16 g0), (sw_in cT (b 1) 16 g1), (sw_in cT (b 2) 16 g2), (sw_in cT (b 3) 16 g3), (sw_in cT (b 4) 16 g4), (sw_in cT (b 5) 6 g5)] H := ⟨_, rfl, hP, hD⟩
  refine lv_aload_n hx hb dX3_become_110 rfl (lv_at hl 1 rfl) ?_
  refine va_get (D := D) (ci := 3) (v := .ref (b 2)) (C := RX3) (T := TX3) (N := 16) hx hb htg gRX3 hown hK hP 1 rfl rfl 12 (by decide) (htg _ wi_206) (fun _ h9 => h9) rfl dX3_become_111 ?_
  refine lv_iconst (v := 0) hx hb dX3_become_114 (by decide) ?_
  refine lv_aload_n hx hb dX3_become_115 rfl (lv_at hl 0 rfl) ?_
  refine va_get (D := D) (ci := 3) (v := .ref (a 2)) (C := RX3) (T := TX3) (N := 16) hx hb htg gRX3 hown hK hP 0 rfl rfl 12 (by decide) (htg _ wi_206) (fun _ h9 => h9) rfl dX3_become_116 ?_
  refine lv_iconst (v := 0) hx hb dX3_become_119 (by decide) ?_
  refine lv_bipush (v := 16) hx hb dX3_become_120 (by decide) ?_
  refine va_copyi hx hb (by rw [hml]; exact hl.1.symm) hown (htg _ wi_657) (htg _ wi_531) (htg _ wi_530) (htg _ wi_133) hK hP hD hS 10 4 0 0 rfl rfl rfl rfl rfl (by decide) (by decide) (by decide) (by decide) (by decide) (fun _ _ => rfl) (Nat.le_of_ble_eq_true rfl) (Nat.le_of_ble_eq_true rfl) dX3_become_122 (fun H locs hP hD hS => ?_)
  obtain ⟨f_3, ef_3, hP, hD⟩ : ∃ f_3 : Nat → Int32, f_3 = va_cpy (g2) (f2) (0 : Int32).toNatClampNeg (0 : Int32).toNatClampNeg (16 : Int32).toNatClampNeg ∧ PD D A [(sw_3 h0 q0 q1 q2 q3 q4 q5 q6 q7 q8 q9 (a 0) (a 1) (a 2) (a 3) (a 4) (a 5)), (sw_3 h1 q0 q1 q2 q3 q4 q5 q6 q7 q8 q9 (b 0) (b 1) (b 2) (b 3) (b 4) (b 5)), (sw_in cT (a 0) 16 f_1), (sw_in cT (a 1) 16 f_2), (sw_in cT (a 2) 16 f_3), (sw_in cT (a 3) 16 f3), (sw_in cT (a 4) 16 f4), (sw_in cT (a 5) 6 f5), (sw_in cT (b 0) 16 g0), (sw_in cT (b 1) 16 g1), (sw_in cT (b 2) 16 g2), (sw_in cT (b 3) 16 g3), (sw_in cT (b 4) 16 g4), (sw_in cT (b 5) 6 g5)] H := ⟨_, rfl, hP, hD⟩
  refine lv_aload_n hx hb dX3_become_125 rfl (lv_at hl 1 rfl) ?_
  refine va_get (D := D) (ci := 3) (v := .ref (b 3)) (C := RX3) (T := TX3) (N := 16) hx hb htg gRX3 hown hK hP 1 rfl rfl 13 (by decide) (htg _ wi_208) (fun _ h9 => h9) rfl dX3_become_126 ?_
  refine lv_iconst (v := 0) hx hb dX3_become_129 (by decide) ?_
  refine lv_aload_n hx hb dX3_become_130 rfl (lv_at hl 0 rfl) ?_
  refine va_get (D := D) (ci := 3) (v := .ref (a 3)) (C := RX3) (T := TX3) (N := 16) hx hb htg gRX3 hown hK hP 0 rfl rfl 13 (by decide) (htg _ wi_208) (fun _ h9 => h9) rfl dX3_become_131 ?_
  refine lv_iconst (v := 0) hx hb dX3_become_134 (by decide) ?_
  refine lv_bipush (v := 16) hx hb dX3_become_135 (by decide) ?_
  refine va_copyi hx hb (by rw [hml]; exact hl.1.symm) hown (htg _ wi_657) (htg _ wi_531) (htg _ wi_530) (htg _ wi_133) hK hP hD hS 11 5 0 0 rfl rfl rfl rfl rfl (by decide) (by decide) (by decide) (by decide) (by decide) (fun _ _ => rfl) (Nat.le_of_ble_eq_true rfl) (Nat.le_of_ble_eq_true rfl) dX3_become_137 (fun H locs hP hD hS => ?_)
  obtain ⟨f_4, ef_4, hP, hD⟩ : ∃ f_4 : Nat → Int32, f_4 = va_cpy (g3) (f3) (0 : Int32).toNatClampNeg (0 : Int32).toNatClampNeg (16 : Int32).toNatClampNeg ∧ PD D A [(sw_3 h0 q0 q1 q2 q3 q4 q5 q6 q7 q8 q9 (a 0) (a 1) (a 2) (a 3) (a 4) (a 5)), (sw_3 h1 q0 q1 q2 q3 q4 q5 q6 q7 q8 q9 (b 0) (b 1) (b 2) (b 3) (b 4) (b 5)), (sw_in cT (a 0) 16 f_1), (sw_in cT (a 1) 16 f_2), (sw_in cT (a 2) 16 f_3), (sw_in cT (a 3) 16 f_4), (sw_in cT (a 4) 16 f4), (sw_in cT (a 5) 6 f5), (sw_in cT (b 0) 16 g0), (sw_in cT (b 1) 16 g1), (sw_in cT (b 2) 16 g2), (sw_in cT (b 3) 16 g3), (sw_in cT (b 4) 16 g4), (sw_in cT (b 5) 6 g5)] H := ⟨_, rfl, hP, hD⟩
  have qf_4 : EL f_4 16 0 5 := by rw [ef_4]; exact el_cpy e3
  refine lv_aload_n hx hb dX3_become_140 rfl (lv_at hl 1 rfl) ?_
  refine va_get (D := D) (ci := 3) (v := .ref (b 4)) (C := RX3) (T := TX3) (N := 16) hx hb htg gRX3 hown hK hP 1 rfl rfl 14 (by decide) (htg _ wi_211) (fun _ h9 => h9) rfl dX3_become_141 ?_
  refine lv_iconst (v := 0) hx hb dX3_become_144 (by decide) ?_
  refine lv_aload_n hx hb dX3_become_145 rfl (lv_at hl 0 rfl) ?_
  refine va_get (D := D) (ci := 3) (v := .ref (a 4)) (C := RX3) (T := TX3) (N := 16) hx hb htg gRX3 hown hK hP 0 rfl rfl 14 (by decide) (htg _ wi_211) (fun _ h9 => h9) rfl dX3_become_146 ?_
  refine lv_iconst (v := 0) hx hb dX3_become_149 (by decide) ?_
  refine lv_bipush (v := 16) hx hb dX3_become_150 (by decide) ?_
  refine va_copyi hx hb (by rw [hml]; exact hl.1.symm) hown (htg _ wi_657) (htg _ wi_531) (htg _ wi_530) (htg _ wi_133) hK hP hD hS 12 6 0 0 rfl rfl rfl rfl rfl (by decide) (by decide) (by decide) (by decide) (by decide) (fun _ _ => rfl) (Nat.le_of_ble_eq_true rfl) (Nat.le_of_ble_eq_true rfl) dX3_become_152 (fun H locs hP hD hS => ?_)
  obtain ⟨f_5, ef_5, hP, hD⟩ : ∃ f_5 : Nat → Int32, f_5 = va_cpy (g4) (f4) (0 : Int32).toNatClampNeg (0 : Int32).toNatClampNeg (16 : Int32).toNatClampNeg ∧ PD D A [(sw_3 h0 q0 q1 q2 q3 q4 q5 q6 q7 q8 q9 (a 0) (a 1) (a 2) (a 3) (a 4) (a 5)), (sw_3 h1 q0 q1 q2 q3 q4 q5 q6 q7 q8 q9 (b 0) (b 1) (b 2) (b 3) (b 4) (b 5)), (sw_in cT (a 0) 16 f_1), (sw_in cT (a 1) 16 f_2), (sw_in cT (a 2) 16 f_3), (sw_in cT (a 3) 16 f_4), (sw_in cT (a 4) 16 f_5), (sw_in cT (a 5) 6 f5), (sw_in cT (b 0) 16 g0), (sw_in cT (b 1) 16 g1), (sw_in cT (b 2) 16 g2), (sw_in cT (b 3) 16 g3), (sw_in cT (b 4) 16 g4), (sw_in cT (b 5) 6 g5)] H := ⟨_, rfl, hP, hD⟩
  refine lv_aload_n hx hb dX3_become_155 rfl (lv_at hl 1 rfl) ?_
  refine va_get (D := D) (ci := 3) (v := .ref (b 5)) (C := RX3) (T := TX3) (N := 16) hx hb htg gRX3 hown hK hP 1 rfl rfl 15 (by decide) (htg _ wi_213) (fun _ h9 => h9) rfl dX3_become_156 ?_
  refine lv_iconst (v := 0) hx hb dX3_become_159 (by decide) ?_
  refine lv_aload_n hx hb dX3_become_160 rfl (lv_at hl 0 rfl) ?_
  refine va_get (D := D) (ci := 3) (v := .ref (a 5)) (C := RX3) (T := TX3) (N := 16) hx hb htg gRX3 hown hK hP 0 rfl rfl 15 (by decide) (htg _ wi_213) (fun _ h9 => h9) rfl dX3_become_161 ?_
  refine lv_iconst (v := 0) hx hb dX3_become_164 (by decide) ?_
  refine lv_bipush (v := 6) hx hb dX3_become_165 (by decide) ?_
  refine va_copyi hx hb (by rw [hml]; exact hl.1.symm) hown (htg _ wi_657) (htg _ wi_531) (htg _ wi_530) (htg _ wi_133) hK hP hD hS 13 7 0 0 rfl rfl rfl rfl rfl (by decide) (by decide) (by decide) (by decide) (by decide) (fun _ _ => rfl) (Nat.le_of_ble_eq_true rfl) (Nat.le_of_ble_eq_true rfl) dX3_become_167 (fun H locs hP hD hS => ?_)
  obtain ⟨f_6, ef_6, hP, hD⟩ : ∃ f_6 : Nat → Int32, f_6 = va_cpy (g5) (f5) (0 : Int32).toNatClampNeg (0 : Int32).toNatClampNeg (6 : Int32).toNatClampNeg ∧ PD D A [(sw_3 h0 q0 q1 q2 q3 q4 q5 q6 q7 q8 q9 (a 0) (a 1) (a 2) (a 3) (a 4) (a 5)), (sw_3 h1 q0 q1 q2 q3 q4 q5 q6 q7 q8 q9 (b 0) (b 1) (b 2) (b 3) (b 4) (b 5)), (sw_in cT (a 0) 16 f_1), (sw_in cT (a 1) 16 f_2), (sw_in cT (a 2) 16 f_3), (sw_in cT (a 3) 16 f_4), (sw_in cT (a 4) 16 f_5), (sw_in cT (a 5) 6 f_6), (sw_in cT (b 0) 16 g0), (sw_in cT (b 1) 16 g1), (sw_in cT (b 2) 16 g2), (sw_in cT (b 3) 16 g3), (sw_in cT (b 4) 16 g4), (sw_in cT (b 5) 6 g5)] H := ⟨_, rfl, hP, hD⟩
  exact x_vret hx hb hr hlk hP hD hS [0, 1, 2, 3, 4, 5, 6, 7, 8, 9, 10, 11, 12, 13] ((f_1, f_2, f_3, f_4, f_5, f_6)) rfl (by decide) ⟨by (try dsimp only); first | assumption | omega | decide | exact Or.inl (by decide) | (intro h9; exact absurd h9 (by decide)) | (intro _; decide) | (simp only [ti_0, ti_1, ti_2, ti_3, ti_4, ti_5, ti_6, ti_7, ti_8, ti_9, ti_10, ti_11, ti_12, ti_m1]; omega) | (simp only [ti_0, ti_1, ti_2, ti_3, ti_4, ti_5, ti_6, ti_7, ti_8, ti_9, ti_10, ti_11, ti_12, ti_m1]; done), trivial⟩ (by decide) (by decide) dX3_become_170
set_option maxHeartbeats 4000000 in
set_option maxRecDepth 100000 in
theorem g_weightOf (l : Launch) (D : va_G) (cT : Nat → ClassId) (sz : Nat) (h0 : Nat) (o : Nat) (b : Nat → Nat) (g1 : Int32) (g2 : Int32) (g3 : Int32) (g4 : Int32) (a : Nat → Nat) (p0 : Int32) (p1 : Int32) (p2 : Int32) (p3 : Int32) (p4 : Int32) (p5 : Int32) (p6 : Int32) (p7 : Int32) (p8 : Int32) (p9 : Int32) (x : Int32) (y : Int32) (hx5 : 0 ≤ x.toInt ∧ x.toInt ≤ 5) (f5 : Nat → Int32) : Met l yX2_weightOf (wsc yX2_weightOf cX2_weightOf 3 (some .int)) { frames := 2, cells := 0, slots := 0, locals := 100 } (va_Pc [.ref h0, .int x, .int y] (PX D cT sz [(sw_2 h0 o g1 (b 0) (b 1) (b 2) (b 3) (b 4) (b 5) g2 g3 g4), (sw_3 o p0 p1 p2 p3 p4 p5 p6 p7 p8 p9 (a 0) (a 1) (a 2) (a 3) (a 4) (a 5)), (sw_in cT (a 5) 6 f5)])) (va_Qi (fun (r : Int32) (u : Unit) => True) (fun u t => RW D (va_A [(sw_2 h0 o g1 (b 0) (b 1) (b 2) (b 3) (b 4) (b 5) g2 g3 g4), (sw_3 o p0 p1 p2 p3 p4 p5 p6 p7 p8 p9 (a 0) (a 1) (a 2) (a 3) (a 4) (a 5)), (sw_in cT (a 5) 6 f5)] sz) ((fun _ : Unit => [(sw_2 h0 o g1 (b 0) (b 1) (b 2) (b 3) (b 4) (b 5) g2 g3 g4), (sw_3 o p0 p1 p2 p3 p4 p5 p6 p7 p8 p9 (a 0) (a 1) (a 2) (a 3) (a 4) (a 5)), (sw_in cT (a 5) 6 f5)]) u) t) (va_A [(sw_2 h0 o g1 (b 0) (b 1) (b 2) (b 3) (b 4) (b 5) g2 g3 g4), (sw_3 o p0 p1 p2 p3 p4 p5 p6 p7 p8 p9 (a 0) (a 1) (a 2) (a 3) (a 4) (a 5)), (sw_in cT (a 5) 6 f5)] sz)) 0 0 (va_A [(sw_2 h0 o g1 (b 0) (b 1) (b 2) (b 3) (b 4) (b 5) g2 g3 g4), (sw_3 o p0 p1 p2 p3 p4 p5 p6 p7 p8 p9 (a 0) (a 1) (a 2) (a 3) (a 4) (a 5)), (sw_in cT (a 5) 6 f5)] sz) := by
  refine m_of (y := yX2_weightOf) (cc := cX2_weightOf) (nL := 3) (ret := (some .int)) (D := D) (cT := cT) (av := [.ref h0, .int x, .int y]) (wi := [(sw_2 h0 o g1 (b 0) (b 1) (b 2) (b 3) (b 4) (b 5) g2 g3 g4), (sw_3 o p0 p1 p2 p3 p4 p5 p6 p7 p8 p9 (a 0) (a 1) (a 2) (a 3) (a 4) (a 5)), (sw_in cT (a 5) 6 f5)]) (fun A => va_Qi (fun (r : Int32) (u : Unit) => True) (fun u t => RW D A ((fun _ : Unit => [(sw_2 h0 o g1 (b 0) (b 1) (b 2) (b 3) (b 4) (b 5) g2 g3 g4), (sw_3 o p0 p1 p2 p3 p4 p5 p6 p7 p8 p9 (a 0) (a 1) (a 2) (a 3) (a 4) (a 5)), (sw_in cT (a 5) 6 f5)]) u) t) A) (by decide) (Nat.le_of_ble_eq_true rfl) ?_
  intro p e s m below meth c A hx hb hml hown htg hK hN hr hlk hnm hsz hP hD hS hA ls hl
  have hown : s.vm.findClass RX2 = some m.cls := hown
  have hl : lv_has ls 3 [(0, .ref h0), (1, .int x), (2, .int y)] := hl
  refine lv_aload_n hx hb dX2_weightOf_0 rfl (lv_at hl 0 rfl) ?_
  refine va_get (D := D) (ci := 2) (v := .int g1) (C := RX2) (T := TX2) (N := 11) hx hb htg gRX2 hown hK hP 0 rfl rfl 1 (by decide) (htg _ wi_349) (fun _ h9 => h9) rfl dX2_weightOf_1 ?_
  refine lv_iconst (v := 1) hx hb dX2_weightOf_4 (by decide) ?_
  refine lv_icmp_ne (tgt := 27) hx hb dX2_weightOf_5 (by decide) (fun c_1 => ?_) (fun c_1 => ?_)
  · have ic_1 : ¬ g1.toInt = 1 := ine c_1 (rfl) (by decide)
    refine lv_aload_n hx hb dX2_weightOf_27 rfl (lv_at hl 0 rfl) ?_
    refine va_get (D := D) (ci := 2) (v := .int g1) (C := RX2) (T := TX2) (N := 11) hx hb htg gRX2 hown hK hP 0 rfl rfl 1 (by decide) (htg _ wi_349) (fun _ h9 => h9) rfl dX2_weightOf_28 ?_
    refine lv_iconst (v := 3) hx hb dX2_weightOf_31 (by decide) ?_
    refine lv_icmp_ne (tgt := 40) hx hb dX2_weightOf_32 (by decide) (fun c_2 => ?_) (fun c_2 => ?_)
    · have ic_2 : ¬ g1.toInt = 3 := ine c_2 (rfl) (by decide)
      refine lv_iconst (v := 1) hx hb dX2_weightOf_40 (by decide) ?_
      refine lv_goto (tgt := 45) hx hb dX2_weightOf_41 (by decide) ?_
      exact x_iret hx hb hr hlk hP hD hS [0, 1, 2] (()) rfl (by decide) trivial (by decide) (by decide) dX2_weightOf_45
    · have ic_2 : g1.toInt = 3 := ieq c_2 (rfl) (by decide)
      refine lv_iload_n hx hb dX2_weightOf_35 rfl (lv_at hl 1 rfl) ?_
      refine lv_iload_n hx hb dX2_weightOf_36 rfl (lv_at hl 2 rfl) ?_
      refine lv_icmp_ne (tgt := 44) hx hb dX2_weightOf_37 (by decide) (fun c_3 => ?_) (fun c_3 => ?_)
      · have ic_3 : ¬ x.toInt = y.toInt := ine c_3 (rfl) (rfl)
        refine lv_iconst (v := 0) hx hb dX2_weightOf_44 (by decide) ?_
        exact x_iret hx hb hr hlk hP hD hS [0, 1, 2] (()) rfl (by decide) trivial (by decide) (by decide) dX2_weightOf_45
      · have ic_3 : x.toInt = y.toInt := ieq c_3 (rfl) (rfl)
        refine lv_iconst (v := 1) hx hb dX2_weightOf_40 (by decide) ?_
        refine lv_goto (tgt := 45) hx hb dX2_weightOf_41 (by decide) ?_
        exact x_iret hx hb hr hlk hP hD hS [0, 1, 2] (()) rfl (by decide) trivial (by decide) (by decide) dX2_weightOf_45
  · have ic_1 : g1.toInt = 1 := ieq c_1 (rfl) (by decide)
    refine lv_iload_n hx hb dX2_weightOf_8 rfl (lv_at hl 1 rfl) ?_
    refine lv_iload_n hx hb dX2_weightOf_9 rfl (lv_at hl 2 rfl) ?_
    refine lv_icmp_ne (tgt := 17) hx hb dX2_weightOf_10 (by decide) (fun c_4 => ?_) (fun c_4 => ?_)
    · have ic_4 : ¬ x.toInt = y.toInt := ine c_4 (rfl) (rfl)
      refine lv_aload_n hx hb dX2_weightOf_17 rfl (lv_at hl 0 rfl) ?_
      refine va_get (D := D) (ci := 2) (v := .ref o) (C := RX2) (T := TX2) (N := 11) hx hb htg gRX2 hown hK hP 0 rfl rfl 0 (by decide) (htg _ wi_346) (fun _ h9 => h9) rfl dX2_weightOf_18 ?_
      refine va_getN (D := D) (ci := 3) (v := .ref (a 5)) (C := RX3) (T := TX3) (N := 16) hx hb htg gRX3 hown hK hP 1 rfl rfl 15 (by decide) (va_Nw.use rfl (hN.1 _ ni_214)) (fun _ h9 => h9) rfl dX2_weightOf_21 ?_
      refine lv_iload_n hx hb dX2_weightOf_24 rfl (lv_at hl 1 rfl) ?_
      refine va_iald hx hb hK hP 2 0 rfl rfl (vp_in_iff.mpr (by omega)) dX2_weightOf_25 ?_
      refine lv_topi (fun z_5 ez_5 => ?_)
      exact x_iret hx hb hr hlk hP hD hS [0, 1, 2] (()) rfl (by decide) trivial (by decide) (by decide) dX2_weightOf_26
    · have ic_4 : x.toInt = y.toInt := ieq c_4 (rfl) (rfl)
      refine lv_iconst (v := 0) hx hb dX2_weightOf_13 (by decide) ?_
      refine lv_goto (tgt := 26) hx hb dX2_weightOf_14 (by decide) ?_
      exact x_iret hx hb hr hlk hP hD hS [0, 1, 2] (()) rfl (by decide) trivial (by decide) (by decide) dX2_weightOf_26
