set_option maxHeartbeats 4000000 in
set_option maxRecDepth 100000 in
theorem g_fillI6 (l : Launch) (D : va_G) (cT : Nat → ClassId) (sz : Nat) (b : Nat) (f : Nat → Int32) (v : Int32) : Met l yJ7_fill_53178 (wsc yJ7_fill_53178 cJ7_fill_53178 4 none) { frames := 2, cells := 0, slots := 0, locals := 100 } (va_Pc [.ref b, .int v] (PX D cT sz [(sw_in cT b 6 f)])) (va_Qv (fun (u : Unit) => True) (fun u t => RW D (va_A [(sw_in cT b 6 f)] sz) ((fun _ : Unit => [(sw_in cT b 6 (fillF (f) 6 (v)))]) u) t) (va_A [(sw_in cT b 6 f)] sz)) 0 0 (va_A [(sw_in cT b 6 f)] sz) := by
  refine m_of (y := yJ7_fill_53178) (cc := cJ7_fill_53178) (nL := 4) (ret := none) (D := D) (cT := cT) (av := [.ref b, .int v]) (wi := [(sw_in cT b 6 f)]) (fun A => va_Qv (fun (u : Unit) => True) (fun u t => RW D A ((fun _ : Unit => [(sw_in cT b 6 (fillF (f) 6 (v)))]) u) t) A) (by decide) (Nat.le_of_ble_eq_true rfl) ?_
  intro p e s m below meth c A hx hb hml hown htg hK hN hr hlk hnm hsz hP hD hS hA ls hl
  have hown : s.vm.findClass RJ7 = some m.cls := hown
  have hl : lv_has ls 4 [(0, .ref b), (1, .int v)] := hl
  obtain ⟨hP, hD⟩ : PD D A [(sw_in cT b 6 (fillF (f) 0 (v)))] _ := ⟨hP, hD⟩
  refine lv_iconst (v := 0) hx hb dJ7_fill_53178_0 (by decide) ?_
  refine lv_istore_n (lv' := [(2, .int 0), (0, .ref b), (1, .int v)]) hx hb dJ7_fill_53178_1 rfl hl (by decide) rfl (fun ls hl => ?_)
  refine lv_aload_n hx hb dJ7_fill_53178_2 rfl (lv_at hl 1 rfl) ?_
  refine va_alen (v := 6) hx hb hK hP 0 0 rfl rfl rfl dJ7_fill_53178_3 ?_
  refine lv_istore_n (lv' := [(3, .int 6), (2, .int 0), (0, .ref b), (1, .int v)]) hx hb dJ7_fill_53178_4 rfl hl (by decide) rfl (fun ls hl => ?_)
  refine (fun (key : ∀ (n9_5 : Nat) (k9_5 : Nat)  (H : Heap) (locs : List Loc) (ls : Array Slot), (k9_5 : Int) ≤ 6 → 6 < (k9_5 : Int) + n9_5 → PD D A [(sw_in cT b 6 (fillF (f) k9_5 (v)))] H → va_S A s.heap H locs → lv_has ls 4 [(3, .int 6), (2, .int (nI k9_5)), (0, .ref b), (1, .int v)] → W p l e _ s m _ below meth c H locs _ _ _ (F0 m 5 ls [])) => key (Int.toNat (6 - 0) + 1) 0  _ _ _ (by omega) (by omega)  ⟨hP, hD⟩ hS (lv_sub hl [0, 1, 2, 3] rfl)) ?_
  intro n9_5
  induction n9_5 with
  | zero => intro k9_5  H locs ls hq1 hq2; exact absurd hq2 (by omega)
  | succ n9_5 ih_5 =>
    intro k9_5  H locs ls hq1_5 hq2_5  hPD hS hl
    obtain ⟨hP, hD⟩ := hPD
    have hk9_5 : (nI k9_5).toInt = (k9_5 : Int) := nI_toInt (by omega)
    refine lv_iload_n hx hb dJ7_fill_53178_5 rfl (lv_at hl 1 rfl) ?_
    refine lv_iload_n hx hb dJ7_fill_53178_6 rfl (lv_at hl 0 rfl) ?_
    refine lv_icmp_ge (tgt := 20) hx hb dJ7_fill_53178_7 (by decide) (fun c_1 => ?_) (fun c_1 => ?_)
    · have ic_1 : 6 ≤ ((k9_5 : Nat) : Int) := ile c_1 (by decide) (nI_toInt (by omega))
      have e8 : k9_5 = 6 := by omega
      subst e8
      exact x_vret hx hb hr hlk hP hD hS [0] (()) rfl (by decide) trivial (by decide) (by decide) dJ7_fill_53178_20
    · have ic_1 : ((k9_5 : Nat) : Int) < 6 := inle c_1 (by decide) (nI_toInt (by omega))
      refine lv_aload_n hx hb dJ7_fill_53178_10 rfl (lv_at hl 2 rfl) ?_
      refine lv_iload_n hx hb dJ7_fill_53178_11 rfl (lv_at hl 1 rfl) ?_
      refine lv_iload_n hx hb dJ7_fill_53178_12 rfl (lv_at hl 3 rfl) ?_
      refine va_iast hx hb hK hP hD hS 0 0 rfl rfl (vp_in_nI (by omega) (by omega)) dJ7_fill_53178_13 (fun H locs hP hD hS => ?_)
      have e9 : upd (fillF (f) k9_5 (v)) (nI k9_5).toNatClampNeg (v) = fillF (f) (k9_5 + 1) (v) := by rw [nI_clamp (by omega)]; exact fillF_s (f) k9_5 (v)
      have hP : va_P D classes [(sw_in cT b 6 (fillF (f) (k9_5 + 1) (v)))] H := by rw [← e9]; exact hP
      have hD : va_D A [(sw_in cT b 6 (fillF (f) (k9_5 + 1) (v)))] := by rw [← e9]; exact hD
      refine lv_iinc (v := (nI (k9_5 + 1))) (lv' := [(2, .int (nI (k9_5 + 1))), (3, .int 6), (0, .ref b), (1, .int v)]) hx hb dJ7_fill_53178_14 hl (k := 1) rfl (by exact nI_1 (k9_5)) (by decide) rfl (fun ls hl => ?_)
      refine lv_goto (tgt := 5) hx hb dJ7_fill_53178_17 (by decide) ?_
      exact ih_5 (k9_5 + 1)  _ _ _ (by omega) (by omega)  ⟨hP.sub [0] rfl, hD.sub [0] (by decide) rfl⟩ hS (lv_sub hl [1, 0, 2, 3] rfl)
set_option maxHeartbeats 4000000 in
set_option maxRecDepth 100000 in
theorem g_hasStrip (l : Launch) (D : va_G) (cT : Nat → ClassId) (sz : Nat) (h0 : Nat) (a : Nat → Nat) (p0 : Int32) (p1 : Int32) (p2 : Int32) (p3 : Int32) (p4 : Int32) (p5 : Int32) (p6 : Int32) (p7 : Int32) (p8 : Int32) (p9 : Int32) (x : Int32) : Met l yX3_hasStrip (wsc yX3_hasStrip cX3_hasStrip 2 (some .boolean)) { frames := 2, cells := 0, slots := 0, locals := 100 } (va_Pc [.ref h0, .int x] (PX D cT sz [(sw_3 h0 p0 p1 p2 p3 p4 p5 p6 p7 p8 p9 (a 0) (a 1) (a 2) (a 3) (a 4) (a 5))])) (va_Qi (fun (r : Int32) (u : Unit) => r = if 0 ≤ x.toInt ∧ x.toInt < p0.toInt then 1 else 0) (fun u t => RW D (va_A [(sw_3 h0 p0 p1 p2 p3 p4 p5 p6 p7 p8 p9 (a 0) (a 1) (a 2) (a 3) (a 4) (a 5))] sz) ((fun _ : Unit => [(sw_3 h0 p0 p1 p2 p3 p4 p5 p6 p7 p8 p9 (a 0) (a 1) (a 2) (a 3) (a 4) (a 5))]) u) t) (va_A [(sw_3 h0 p0 p1 p2 p3 p4 p5 p6 p7 p8 p9 (a 0) (a 1) (a 2) (a 3) (a 4) (a 5))] sz)) 0 0 (va_A [(sw_3 h0 p0 p1 p2 p3 p4 p5 p6 p7 p8 p9 (a 0) (a 1) (a 2) (a 3) (a 4) (a 5))] sz) := by
  refine m_of (y := yX3_hasStrip) (cc := cX3_hasStrip) (nL := 2) (ret := (some .boolean)) (D := D) (cT := cT) (av := [.ref h0, .int x]) (wi := [(sw_3 h0 p0 p1 p2 p3 p4 p5 p6 p7 p8 p9 (a 0) (a 1) (a 2) (a 3) (a 4) (a 5))]) (fun A => va_Qi (fun (r : Int32) (u : Unit) => r = if 0 ≤ x.toInt ∧ x.toInt < p0.toInt then 1 else 0) (fun u t => RW D A ((fun _ : Unit => [(sw_3 h0 p0 p1 p2 p3 p4 p5 p6 p7 p8 p9 (a 0) (a 1) (a 2) (a 3) (a 4) (a 5))]) u) t) A) (by decide) (Nat.le_of_ble_eq_true rfl) ?_
  intro p e s m below meth c A hx hb hml hown htg hK hN hr hlk hnm hsz hP hD hS hA ls hl
  have hown : s.vm.findClass RX3 = some m.cls := hown
  have hl : lv_has ls 2 [(0, .ref h0), (1, .int x)] := hl
  refine lv_iload_n hx hb dX3_hasStrip_0 rfl (lv_at hl 1 rfl) ?_
  refine lv_if_lt (tgt := 16) hx hb dX3_hasStrip_1 (by decide) (fun c_1 => ?_) (fun c_1 => ?_)
  · have ic_1 : x.toInt < 0 := ilt c_1 (rfl) (by decide)
    refine lv_iconst (v := 0) hx hb dX3_hasStrip_16 (by decide) ?_
    exact x_zret hx hb hr hlk hP hD hS [0] (()) rfl (by decide) rfl (by first | rfl | decide | (exfalso; omega) | (try simp only [ti_0, ti_1, ti_2, ti_3, ti_4, ti_5, ti_6, ti_7, ti_8, ti_9, ti_10, ti_11, ti_12]); (repeat (first | rw [if_pos (by first | assumption | omega | trivial)] | rw [if_neg (by first | assumption | omega)]))) (by decide) (by decide) dX3_hasStrip_17
  · have ic_1 : 0 ≤ x.toInt := inlt c_1 (rfl) (by decide)
    refine lv_iload_n hx hb dX3_hasStrip_4 rfl (lv_at hl 1 rfl) ?_
    refine lv_aload_n hx hb dX3_hasStrip_5 rfl (lv_at hl 0 rfl) ?_
    refine va_get (D := D) (ci := 3) (v := .int p0) (C := RX3) (T := TX3) (N := 16) hx hb htg gRX3 hown hK hP 0 rfl rfl 0 (by decide) (htg _ wi_166) (fun _ h9 => h9) rfl dX3_hasStrip_6 ?_
    refine lv_icmp_ge (tgt := 16) hx hb dX3_hasStrip_9 (by decide) (fun c_2 => ?_) (fun c_2 => ?_)
    · have ic_2 : p0.toInt ≤ x.toInt := ile c_2 (rfl) (rfl)
      refine lv_iconst (v := 0) hx hb dX3_hasStrip_16 (by decide) ?_
      exact x_zret hx hb hr hlk hP hD hS [0] (()) rfl (by decide) rfl (by first | rfl | decide | (exfalso; omega) | (try simp only [ti_0, ti_1, ti_2, ti_3, ti_4, ti_5, ti_6, ti_7, ti_8, ti_9, ti_10, ti_11, ti_12]); (repeat (first | rw [if_pos (by first | assumption | omega | trivial)] | rw [if_neg (by first | assumption | omega)]))) (by decide) (by decide) dX3_hasStrip_17
    · have ic_2 : x.toInt < p0.toInt := inle c_2 (rfl) (rfl)
      refine lv_iconst (v := 1) hx hb dX3_hasStrip_12 (by decide) ?_
      refine lv_goto (tgt := 17) hx hb dX3_hasStrip_13 (by decide) ?_
      exact x_zret hx hb hr hlk hP hD hS [0] (()) rfl (by decide) rfl (by first | rfl | decide | (exfalso; omega) | (try simp only [ti_0, ti_1, ti_2, ti_3, ti_4, ti_5, ti_6, ti_7, ti_8, ti_9, ti_10, ti_11, ti_12]); (repeat (first | rw [if_pos (by first | assumption | omega | trivial)] | rw [if_neg (by first | assumption | omega)]))) (by decide) (by decide) dX3_hasStrip_17
set_option maxHeartbeats 4000000 in
set_option maxRecDepth 100000 in
theorem g_empty (l : Launch) (D : va_G) (cT : Nat → ClassId) (sz : Nat) (h0 : Nat) (a : Nat → Nat) (p0 : Int32) (p1 : Int32) (p2 : Int32) (p3 : Int32) (p4 : Int32) (p5 : Int32) (p6 : Int32) (p7 : Int32) (p8 : Int32) (p9 : Int32) (f : Nat → Int32) : Met l yX3_empty (wsc yX3_empty cX3_empty 1 none) { frames := 3, cells := 0, slots := 0, locals := 123 } (va_Pc [.ref h0] (PX D cT sz [(sw_3 h0 p0 p1 p2 p3 p4 p5 p6 p7 p8 p9 (a 0) (a 1) (a 2) (a 3) (a 4) (a 5)), (sw_in cT (a 5) 6 f)])) (va_Qv (fun (u : Unit) => True) (fun u t => RW D (va_A [(sw_3 h0 p0 p1 p2 p3 p4 p5 p6 p7 p8 p9 (a 0) (a 1) (a 2) (a 3) (a 4) (a 5)), (sw_in cT (a 5) 6 f)] sz) ((fun _ : Unit => [(sw_3 h0 0 0 0 0 6 6 1 60 0 0 (a 0) (a 1) (a 2) (a 3) (a 4) (a 5)), (sw_in cT (a 5) 6 (fillF (f) 6 (1)))]) u) t) (va_A [(sw_3 h0 p0 p1 p2 p3 p4 p5 p6 p7 p8 p9 (a 0) (a 1) (a 2) (a 3) (a 4) (a 5)), (sw_in cT (a 5) 6 f)] sz)) 0 0 (va_A [(sw_3 h0 p0 p1 p2 p3 p4 p5 p6 p7 p8 p9 (a 0) (a 1) (a 2) (a 3) (a 4) (a 5)), (sw_in cT (a 5) 6 f)] sz) := by
  refine m_of (y := yX3_empty) (cc := cX3_empty) (nL := 1) (ret := none) (D := D) (cT := cT) (av := [.ref h0]) (wi := [(sw_3 h0 p0 p1 p2 p3 p4 p5 p6 p7 p8 p9 (a 0) (a 1) (a 2) (a 3) (a 4) (a 5)), (sw_in cT (a 5) 6 f)]) (fun A => va_Qv (fun (u : Unit) => True) (fun u t => RW D A ((fun _ : Unit => [(sw_3 h0 0 0 0 0 6 6 1 60 0 0 (a 0) (a 1) (a 2) (a 3) (a 4) (a 5)), (sw_in cT (a 5) 6 (fillF (f) 6 (1)))]) u) t) A) (by decide) (Nat.le_of_ble_eq_true rfl) ?_
  intro p e s m below meth c A hx hb hml hown htg hK hN hr hlk hnm hsz hP hD hS hA ls hl
  have hown : s.vm.findClass RX3 = some m.cls := hown
  have hl : lv_has ls 1 [(0, .ref h0)] := hl
  refine lv_aload_n hx hb dX3_empty_0 rfl (lv_at hl 0 rfl) ?_
  refine lv_iconst (v := 0) hx hb dX3_empty_1 (by decide) ?_
  refine va_put (D := D) (ci := 3) (v := .int 0) (ty := .int) (C := RX3) (T := TX3) (N := 16) hx hb htg gRX3 tyX3 tyX3_ok nmX3 hown hK hP hD hS 0 rfl rfl 0 (by decide) (htg _ wi_166) (fun _ h9 => h9) rfl (by decide +kernel) rfl rfl (Nat.le_of_ble_eq_true rfl) dX3_empty_2 (fun H locs hP hD hS => ?_)
  obtain ⟨hP, hD⟩ : PD D A [(sw_3 h0 0 p1 p2 p3 p4 p5 p6 p7 p8 p9 (a 0) (a 1) (a 2) (a 3) (a 4) (a 5)), (sw_in cT (a 5) 6 f)] _ := ⟨hP, hD⟩
  refine lv_aload_n hx hb dX3_empty_5 rfl (lv_at hl 0 rfl) ?_
  refine lv_iconst (v := 0) hx hb dX3_empty_6 (by decide) ?_
  refine va_put (D := D) (ci := 3) (v := .int 0) (ty := .int) (C := RX3) (T := TX3) (N := 16) hx hb htg gRX3 tyX3 tyX3_ok nmX3 hown hK hP hD hS 0 rfl rfl 1 (by decide) (htg _ wi_173) (fun _ h9 => h9) rfl (by decide +kernel) rfl rfl (Nat.le_of_ble_eq_true rfl) dX3_empty_7 (fun H locs hP hD hS => ?_)
  obtain ⟨hP, hD⟩ : PD D A [(sw_3 h0 0 0 p2 p3 p4 p5 p6 p7 p8 p9 (a 0) (a 1) (a 2) (a 3) (a 4) (a 5)), (sw_in cT (a 5) 6 f)] _ := ⟨hP, hD⟩
  refine lv_aload_n hx hb dX3_empty_10 rfl (lv_at hl 0 rfl) ?_
  refine lv_iconst (v := 0) hx hb dX3_empty_11 (by decide) ?_
  refine va_put (D := D) (ci := 3) (v := .int 0) (ty := .int) (C := RX3) (T := TX3) (N := 16) hx hb htg gRX3 tyX3 tyX3_ok nmX3 hown hK hP hD hS 0 rfl rfl 2 (by decide) (htg _ wi_176) (fun _ h9 => h9) rfl (by decide +kernel) rfl rfl (Nat.le_of_ble_eq_true rfl) dX3_empty_12 (fun H locs hP hD hS => ?_)
  obtain ⟨hP, hD⟩ : PD D A [(sw_3 h0 0 0 0 p3 p4 p5 p6 p7 p8 p9 (a 0) (a 1) (a 2) (a 3) (a 4) (a 5)), (sw_in cT (a 5) 6 f)] _ := ⟨hP, hD⟩
  refine lv_aload_n hx hb dX3_empty_15 rfl (lv_at hl 0 rfl) ?_
  refine lv_iconst (v := 0) hx hb dX3_empty_16 (by decide) ?_
  refine va_put (D := D) (ci := 3) (v := .int 0) (ty := .int) (C := RX3) (T := TX3) (N := 16) hx hb htg gRX3 tyX3 tyX3_ok nmX3 hown hK hP hD hS 0 rfl rfl 3 (by decide) (htg _ wi_178) (fun _ h9 => h9) rfl (by decide +kernel) rfl rfl (Nat.le_of_ble_eq_true rfl) dX3_empty_17 (fun H locs hP hD hS => ?_)
  obtain ⟨hP, hD⟩ : PD D A [(sw_3 h0 0 0 0 0 p4 p5 p6 p7 p8 p9 (a 0) (a 1) (a 2) (a 3) (a 4) (a 5)), (sw_in cT (a 5) 6 f)] _ := ⟨hP, hD⟩
  refine lv_aload_n hx hb dX3_empty_20 rfl (lv_at hl 0 rfl) ?_
  refine lv_bipush (v := 6) hx hb dX3_empty_21 (by decide) ?_
  refine va_put (D := D) (ci := 3) (v := .int 6) (ty := .int) (C := RX3) (T := TX3) (N := 16) hx hb htg gRX3 tyX3 tyX3_ok nmX3 hown hK hP hD hS 0 rfl rfl 4 (by decide) (htg _ wi_181) (fun _ h9 => h9) rfl (by decide +kernel) rfl rfl (Nat.le_of_ble_eq_true rfl) dX3_empty_23 (fun H locs hP hD hS => ?_)
  obtain ⟨hP, hD⟩ : PD D A [(sw_3 h0 0 0 0 0 6 p5 p6 p7 p8 p9 (a 0) (a 1) (a 2) (a 3) (a 4) (a 5)), (sw_in cT (a 5) 6 f)] _ := ⟨hP, hD⟩
  refine lv_aload_n hx hb dX3_empty_26 rfl (lv_at hl 0 rfl) ?_
  refine lv_bipush (v := 6) hx hb dX3_empty_27 (by decide) ?_
  refine va_put (D := D) (ci := 3) (v := .int 6) (ty := .int) (C := RX3) (T := TX3) (N := 16) hx hb htg gRX3 tyX3 tyX3_ok nmX3 hown hK hP hD hS 0 rfl rfl 5 (by decide) (htg _ wi_184) (fun _ h9 => h9) rfl (by decide +kernel) rfl rfl (Nat.le_of_ble_eq_true rfl) dX3_empty_29 (fun H locs hP hD hS => ?_)
  obtain ⟨hP, hD⟩ : PD D A [(sw_3 h0 0 0 0 0 6 6 p6 p7 p8 p9 (a 0) (a 1) (a 2) (a 3) (a 4) (a 5)), (sw_in cT (a 5) 6 f)] _ := ⟨hP, hD⟩
  refine lv_aload_n hx hb dX3_empty_32 rfl (lv_at hl 0 rfl) ?_
  refine lv_iconst (v := 1) hx hb dX3_empty_33 (by decide) ?_
  refine va_put (D := D) (ci := 3) (v := .int 1) (ty := .int) (C := RX3) (T := TX3) (N := 16) hx hb htg gRX3 tyX3 tyX3_ok nmX3 hown hK hP hD hS 0 rfl rfl 6 (by decide) (htg _ wi_187) (fun _ h9 => h9) rfl (by decide +kernel) rfl rfl (Nat.le_of_ble_eq_true rfl) dX3_empty_34 (fun H locs hP hD hS => ?_)
  obtain ⟨hP, hD⟩ : PD D A [(sw_3 h0 0 0 0 0 6 6 1 p7 p8 p9 (a 0) (a 1) (a 2) (a 3) (a 4) (a 5)), (sw_in cT (a 5) 6 f)] _ := ⟨hP, hD⟩
  refine lv_aload_n hx hb dX3_empty_37 rfl (lv_at hl 0 rfl) ?_
  refine lv_bipush (v := 60) hx hb dX3_empty_38 (by decide) ?_
  refine va_put (D := D) (ci := 3) (v := .int 60) (ty := .int) (C := RX3) (T := TX3) (N := 16) hx hb htg gRX3 tyX3 tyX3_ok nmX3 hown hK hP hD hS 0 rfl rfl 7 (by decide) (htg _ wi_190) (fun _ h9 => h9) rfl (by decide +kernel) rfl rfl (Nat.le_of_ble_eq_true rfl) dX3_empty_40 (fun H locs hP hD hS => ?_)
  obtain ⟨hP, hD⟩ : PD D A [(sw_3 h0 0 0 0 0 6 6 1 60 p8 p9 (a 0) (a 1) (a 2) (a 3) (a 4) (a 5)), (sw_in cT (a 5) 6 f)] _ := ⟨hP, hD⟩
  refine lv_aload_n hx hb dX3_empty_43 rfl (lv_at hl 0 rfl) ?_
  refine lv_iconst (v := 0) hx hb dX3_empty_44 (by decide) ?_
  refine va_put (D := D) (ci := 3) (v := .int 0) (ty := .int) (C := RX3) (T := TX3) (N := 16) hx hb htg gRX3 tyX3 tyX3_ok nmX3 hown hK hP hD hS 0 rfl rfl 8 (by decide) (htg _ wi_193) (fun _ h9 => h9) rfl (by decide +kernel) rfl rfl (Nat.le_of_ble_eq_true rfl) dX3_empty_45 (fun H locs hP hD hS => ?_)
  obtain ⟨hP, hD⟩ : PD D A [(sw_3 h0 0 0 0 0 6 6 1 60 0 p9 (a 0) (a 1) (a 2) (a 3) (a 4) (a 5)), (sw_in cT (a 5) 6 f)] _ := ⟨hP, hD⟩
  refine lv_aload_n hx hb dX3_empty_48 rfl (lv_at hl 0 rfl) ?_
  refine lv_iconst (v := 0) hx hb dX3_empty_49 (by decide) ?_
  refine va_put (D := D) (ci := 3) (v := .int 0) (ty := .int) (C := RX3) (T := TX3) (N := 16) hx hb htg gRX3 tyX3 tyX3_ok nmX3 hown hK hP hD hS 0 rfl rfl 9 (by decide) (htg _ wi_196) (fun _ h9 => h9) rfl (by decide +kernel) rfl rfl (Nat.le_of_ble_eq_true rfl) dX3_empty_50 (fun H locs hP hD hS => ?_)
  obtain ⟨hP, hD⟩ : PD D A [(sw_3 h0 0 0 0 0 6 6 1 60 0 0 (a 0) (a 1) (a 2) (a 3) (a 4) (a 5)), (sw_in cT (a 5) 6 f)] _ := ⟨hP, hD⟩
  refine lv_aload_n hx hb dX3_empty_53 rfl (lv_at hl 0 rfl) ?_
  refine va_get (D := D) (ci := 3) (v := .ref (a 5)) (C := RX3) (T := TX3) (N := 16) hx hb htg gRX3 hown hK hP 0 rfl rfl 15 (by decide) (htg _ wi_213) (fun _ h9 => h9) rfl dX3_empty_54 ?_
  refine lv_iconst (v := 1) hx hb dX3_empty_57 (by decide) ?_
  refine xk_v (wr := [(sw_3 h0 0 0 0 0 6 6 1 60 0 0 (a 0) (a 1) (a 2) (a 3) (a 4) (a 5))]) (xr_S (n := 2) (As := [.ref (a 5), .int 1]) (rest := []) ⟨hx, hb, hml, hown, htg⟩ hK hN hP hD hS hA [1] rfl (by decide) (g_fillI6 l D cT _ ((a 5)) (f) (1)) wi_163 wi_164 wi_124 wi_165 ⟨rfl, by decide +kernel⟩ ⟨Nat.le_of_ble_eq_true rfl, Nat.le_of_ble_eq_true rfl⟩ rfl hl.1 rfl (Nat.le_of_ble_eq_true rfl) dX3_empty_58 ⟨Nat.le_of_ble_eq_true rfl, Nat.le_of_ble_eq_true rfl⟩) hP hD hS hA [1] [0] rfl rfl (by decide) (by decide) (fun u_1 H locs hwr_2 hP hD hS => ?_)
  obtain ⟨hP, hD⟩ : PD D A [(sw_3 h0 0 0 0 0 6 6 1 60 0 0 (a 0) (a 1) (a 2) (a 3) (a 4) (a 5)), (sw_in cT (a 5) 6 (fillF (f) 6 (1)))] _ := ⟨hP, hD⟩
  exact x_vret hx hb hr hlk hP hD hS [0, 1] (()) rfl (by decide) trivial (by decide) (by decide) dX3_empty_61
