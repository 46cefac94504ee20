set_option maxHeartbeats 4000000 in
set_option maxRecDepth 100000 in
theorem g_fillI6 (l : Launch) (D : va_G) (cT : Nat → ClassId) (sz : Nat) (b : Nat) (f : Nat → Int32) (v : Int32) : Met l yJ7_fill_53178 (wsc yJ7_fill_53178 cJ7_fill_53178 4 none) { frames := 2, cells := 0, slots := 0, locals := 100 } (va_Pc [.ref b, .int v] (PX D cT sz [(sw_in cT b 6 f)])) (va_Qv (fun (u : Unit) => True) (fun u t => RW D (va_A [(sw_in cT b 6 f)] sz) ((fun _ : Unit => [(sw_in cT b 6 (fillF (f) 6 (v)))]) u) t) (va_A [(sw_in cT b 6 f)] sz)) 0 0 (va_A [(sw_in cT b 6 f)] sz) := by
  refine m_of (y := yJ7_fill_53178) (cc := cJ7_fill_53178) (nL := 4) (ret := none) (D := D) (cT := cT) (av := [.ref b, .int v]) (wi := [(sw_in cT b 6 f)]) (fun A => va_Qv (fun (u : Unit) => True) (fun u t => RW D A ((fun _ : Unit => [(sw_in cT b 6 (fillF (f) 6 (v)))]) u) t) A) (by decide) (Nat.le_of_ble_eq_true rfl) ?_
  intro p e s m below meth c A hx hb hml hown htg hK hN hr hlk hnm hsz hP hD hS hA ls hl
  have hown : s.vm.findClass RJ7 = some m.cls := hown
  have hl : lv_has ls 4 [(0, .ref b), (1, .int v)] := hl
  obtain ⟨hP, hD⟩ : PD D A [(sw_in cT b 6 (fillF (f) 0 (v)))] _ := ⟨hP, hD⟩
  refine lv_iconst (v := 0) hx hb dJ7_fill_53178_0 (by decide) ?_
  refine lv_istore_n (lv' := [(2, .int 0), (0, .ref b), (1, .int v)]) hx hb dJ7_fill_53178_1 rfl hl (by decide) rfl (fun ls hl => ?_)
  refine lv_aload_n hx hb dJ7_fill_53178_2 rfl (lv_at hl 1 rfl) ?_
  refine va_alen (v := 6) hx hb hK hP 0 0 rfl rfl rfl dJ7_fill_53178_3 ?_
  refine lv_istore_n (lv' := [(3, .int 6), (2, .int 0), (0, .ref b), (1, .int v)]) hx hb dJ7_fill_53178_4 rfl hl (by decide) rfl (fun ls hl => ?_)
  refine (fun (key : ∀ (n9_5 : Nat) (k9_5 : Nat)  (H : Heap) (locs : List Loc) (ls : Array Slot), (k9_5 : Int) ≤ 6 → 6 < (k9_5 : Int) + n9_5 → PD D A [(sw_in cT b 6 (fillF (f) k9_5 (v)))] H → va_S A s.heap H locs → lv_has ls 4 [(3, .int 6), (2, .int (nI k9_5)), (0, .ref b), (1, .int v)] → W p l e _ s m _ below meth c H locs _ _ _ (F0 m 5 ls [])) => key (Int.toNat (6 - 0) + 1) 0  _ _ _ (by omega) (by omega)  ⟨hP, hD⟩ hS (lv_sub hl [0, 1, 2, 3] rfl)) ?_
  intro n9_5
  induction n9_5 with
  | zero => intro k9_5  H locs ls hq1 hq2; exact absurd hq2 (by omega)
  | succ n9_5 ih_5 =>
    intro k9_5  H locs ls hq1_5 hq2_5  hPD hS hl
    obtain ⟨hP, hD⟩ := hPD
    have hk9_5 : (nI k9_5).toInt = (k9_5 : Int) := nI_toInt (by omega)
    refine lv_iload_n hx hb dJ7_fill_53178_5 rfl (lv_at hl 1 rfl) ?_
    refine lv_iload_n hx hb dJ7_fill_53178_6 rfl (lv_at hl 0 rfl) ?_
    refine lv_icmp_ge (tgt := 20) hx hb dJ7_fill_53178_7 (by decide) (fun c_1 => ?_) (fun c_1 => ?_)
    · have ic_1 : 6 ≤ ((k9_5 : Nat) : Int) := ile c_1 (by decide) (nI_toInt (by omega))
      have e8 : k9_5 = 6 := by omega
      subst e8
      exact x_vret hx hb hr hlk hP hD hS [0] (()) rfl (by decide) trivial (by decide) (by decide) dJ7_fill_53178_20
    · have ic_1 : ((k9_5 : Nat) : Int) < 6 := inle c_1 (by decide) (nI_toInt (by omega))
      refine lv_aload_n hx hb dJ7_fill_53178_10 rfl (lv_at hl 2 rfl) ?_
      refine lv_iload_n hx hb dJ7_fill_53178_11 rfl (lv_at hl 1 rfl) ?_
      refine lv_iload_n hx hb dJ7_fill_53178_12 rfl (lv_at hl 3 rfl) ?_
      refine va_iast hx hb hK hP hD hS 0 0 rfl rfl (vp_in_nI (by omega) (by omega)) dJ7_fill_53178_13 (fun H locs hP hD hS => ?_)
      have e9 : upd (fillF (f) k9_5 (v)) (nI k9_5).toNatClampNeg (v) = fillF (f) (k9_5 + 1) (v) := by rw [nI_clamp (by omega)]; exact fillF_s (f) k9_5 (v)
      have hP : va_P D classes [(sw_in cT b 6 (fillF (f) (k9_5 + 1) (v)))] H := by rw [← e9]; exact hP
      have hD : va_D A [(sw_in cT b 6 (fillF (f) (k9_5 + 1) (v)))] := by rw [← e9]; exact hD
      refine lv_iinc (v := (nI (k9_5 + 1))) (lv' := [(2, .int (nI (k9_5 + 1))), (3, .int 6), (0, .ref b), (1, .int v)]) hx hb dJ7_fill_53178_14 hl (k := 1) rfl (by exact nI_1 (k9_5)) (by decide) rfl (fun ls hl => ?_)
      refine lv_goto (tgt := 5) hx hb dJ7_fill_53178_17 (by decide) ?_
      exact ih_5 (k9_5 + 1)  _ _ _ (by omega) (by omega)  ⟨hP.sub [0] rfl, hD.sub [0] (by decide) rfl⟩ hS (lv_sub hl [1, 0, 2, 3] rfl)
set_option maxHeartbeats 4000000 in
set_option maxRecDepth 100000 in
theorem g_hasStrip (l : Launch) (D : va_G) (cT : Nat → ClassId) (sz : Nat) (h0 : Nat) (a : Nat → Nat) (p0 : Int32) (p1 : Int32) (p2 : Int32) (p3 : Int32) (p4 : Int32) (p5 : Int32) (p6 : Int32) (p7 : Int32) (p8 : Int32) (p9 : Int32) (x : Int32) : Met l yX3_hasStrip (wsc yX3_hasStrip cX3_hasStrip 2 (some .boolean)) { frames := 2, cells := 0, slots := 0, locals := 100 } (va_Pc [.ref h0, .int x] (PX D cT sz [(sw_3 h0 p0 p1 p2 p3 p4 p5 p6 p7 p8 p9 (a 0) (a 1) (a 2) (a 3) (a 4) (a 5))])) (va_Qi (fun (r : Int32) (u : Unit) => r = if 0 ≤ x.toInt ∧ x.toInt < p0.toInt then 1 else 0) (fun u t => RW D (va_A [(sw_3 h0 p0 p1 p2 p3 p4 p5 p6 p7 p8 p9 (a 0) (a 1) (a 2) (a 3) (a 4) (a 5))] sz) ((fun _ : Unit => [(sw_3 h0 p0 p1 p2 p3 p4 p5 p6 p7 p8 p9 (a 0) (a 1) (a 2) (a 3) (a 4) (a 5))]) u) t) (va_A [(sw_3 h0 p0 p1 p2 p3 p4 p5 p6 p7 p8 p9 (a 0) (a 1) (a 2) (a 3) (a 4) (a 5))] sz)) 0 0 (va_A [(sw_3 h0 p0 p1 p2 p3 p4 p5 p6 p7 p8 p9 (a 0) (a 1) (a 2) (a 3) (a 4) (a 5))] sz) := by
  refine m_of (y := yX3_hasStrip) (cc := cX3_hasStrip) (nL := 2) (ret := (some .boolean)) (D := D) (cT := cT) (av := [.ref h0, .int x]) (wi := [(sw_3 h0 p0 p1 p2 p3 p4 p5 p6 p7 p8 p9 (a 0) (a 1) (a 2) (a 3) (a 4) (a 5))]) (fun A => va_Qi (fun (r : Int32) (u : Unit) => r = if 0 ≤ x.toInt ∧ x.toInt < p0.toInt then 1 else 0) (fun u t => RW D A ((fun _ : Unit => [(sw_3 h0 p0 p1 p2 p3 p4 p5 p6 p7 p8 p9 (a 0) (a 1) (a 2) (a 3) (a 4) (a 5))]) u) t) A) (by decide) (Nat.le_of_ble_eq_true rfl) ?_
  intro p e s m below meth c A hx hb hml hown htg hK hN hr hlk hnm hsz hP hD hS hA ls hl
  have hown : s.vm.findClass RX3 = some m.cls := hown
  have hl : lv_has ls 2 [(0, .ref h0), (1, .int x)] := hl
  refine lv_iload_n hx hb dX3_hasStrip_0 rfl (lv_at hl 1 rfl) ?_
  refine lv_if_lt (tgt := 16) hx hb dX3_hasStrip_1 (by decide) (fun c_1 => ?_) (fun c_1 => ?_)
  · have ic_1 : x.toInt < 0 := ilt c_1 (rfl) (by decide)
    refine lv_iconst (v := 0) hx hb dX3_hasStrip_16 (by decide) ?_
    exact x_zret hx hb hr hlk hP hD hS [0] (()) rfl (by decide) rfl (by first | rfl | decide | (exfalso; omega) | (try simp only [ti_0, ti_1, ti_2, ti_3, ti_4, ti_5, ti_6, ti_7, ti_8, ti_9, ti_10, ti_11, ti_12]); (repeat (first | rw [if_pos (by first | assumption | omega | trivial)] | rw [if_neg (by first | assumption | omega)]))) (by decide) (by decide) dX3_hasStrip_17
  · have ic_1 : 0 ≤ x.toInt := inlt c_1 (rfl) (by decide)
    refine lv_iload_n hx hb dX3_hasStrip_4 rfl (lv_at hl 1 rfl) ?_
    refine lv_aload_n hx hb dX3_hasStrip_5 rfl (lv_at hl 0 rfl) ?_
    refine va_get (D := D) (ci := 3) (v := .int p0) (C := RX3) (T := TX3) (N := 16) hx hb htg gRX3 hown hK hP 0 rfl rfl 0 (by decide) (htg _ wi_166) (fun _ h9 => h9) rfl dX3_hasStrip_6 ?_
    refine lv_icmp_ge (tgt := 16) hx hb dX3_hasStrip_9 (by decide) (fun c_2 => ?_) (fun c_2 => ?_)
    · have ic_2 : p0.toInt ≤ x.toInt := ile c_2 (rfl) (rfl)
      refine lv_iconst (v := 0) hx hb dX3_hasStrip_16 (by decide) ?_
      exact x_zret hx hb hr hlk hP hD hS [0] (()) rfl (by decide) rfl (by first | rfl | decide | (exfalso; omega) | (try simp only [ti_0, ti_1, ti_2, ti_3, ti_4, ti_5, ti_6, ti_7, ti_8, ti_9, ti_10, ti_11, ti_12]); (repeat (first | rw [if_pos (by first | assumption | omega | trivial)] | rw [if_neg (by first | assumption | omega)]))) (by decide) (by decide) dX3_hasStrip_17
    · have ic_2 : x.toInt < p0.toInt := inle c_2 (rfl) (rfl)
      refine lv_iconst (v := 1) hx hb dX3_hasStrip_12 (by decide) ?_
      refine lv_goto (tgt := 17) hx hb dX3_hasStrip_13 (by decide) ?_
      exact x_zret hx hb hr hlk hP hD hS [0] (()) rfl (by decide) rfl (by first | rfl | decide | (exfalso; omega) | (try simp only [ti_0, ti_1, ti_2, ti_3, ti_4, ti_5, ti_6, ti_7, ti_8, ti_9, ti_10, ti_11, ti_12]); (repeat (first | rw [if_pos (by first | assumption | omega | trivial)] | rw [if_neg (by first | assumption | omega)]))) (by decide) (by decide) dX3_hasStrip_17
set_option maxHeartbeats 4000000 in
set_option maxRecDepth 100000 in
theorem g_empty (l : Launch) (D : va_G) (cT : Nat → ClassId) (sz : Nat) (h0 : Nat) (a : Nat → Nat) (p0 : Int32) (p1 : Int32) (p2 : Int32) (p3 : Int32) (p4 : Int32) (p5 : Int32) (p6 : Int32) (p7 : Int32) (p8 : Int32) (p9 : Int32) (f : Nat → Int32) : Met l yX3_empty (wsc yX3_empty cX3_empty 1 none) { frames := 3, cells := 0, slots := 0, locals := 123 } (va_Pc [.ref h0] (PX D cT sz [(sw_3 h0 p0 p1 p2 p3 p4 p5 p6 p7 p8 p9 (a 0) (a 1) (a 2) (a 3) (a 4) (a 5)), (sw_in cT (a 5) 6 f)])) (va_Qv (fun (u : Unit) => True) (fun u t => RW D (va_A [(sw_3 h0 p0 p1 p2 p3 p4 p5 p6 p7 p8 p9 (a 0) (a 1) (a 2) (a 3) (a 4) (a 5)), (sw_in cT (a 5) 6 f)] sz) ((fun _ : Unit => [(sw_3 h0 0 0 0 0 6 6 1 60 0 0 (a 0) (a 1) (a 2) (a 3) (a 4) (a 5)), (sw_in cT (a 5) 6 (fillF (f) 6 (1)))]) u) t) (va_A [(sw_3 h0 p0 p1 p2 p3 p4 p5 p6 p7 p8 p9 (a 0) (a 1) (a 2) (a 3) (a 4) (a 5)), (sw_in cT (a 5) 6 f)] sz)) 0 0 (va_A [(sw_3 h0 p0 p1 p2 p3 p4 p5 p6 p7 p8 p9 (a 0) (a 1) (a 2) (a 3) (a 4) (a 5)), (sw_in cT (a 5) 6 f)] sz) := by
  refine m_of (y := yX3_empty) (cc := cX3_empty) (nL := 1) (ret := none) (D := D) (cT := cT) (av := [.ref h0]) (wi := [(sw_3 h0 p0 p1 p2 p3 p4 p5 p6 p7 p8 p9 (a 0) (a 1) (a 2) (a 3) (a 4) (a 5)), (sw_in cT (a 5) 6 f)]) (fun A => va_Qv (fun (u : Unit) => True) (fun u t => RW D A ((fun _ : Unit => [(sw_3 h0 0 0 0 0 6 6 1 60 0 0 (a 0) (a 1) (a 2) (a 3) (a 4) (a 5)), (sw_in cT (a 5) 6 (fillF (f) 6 (1)))]) u) t) A) (by decide) (Nat.le_of_ble_eq_true rfl) ?_
  intro p e s m below meth c A hx hb hml hown htg hK hN hr hlk hnm hsz hP hD hS hA ls hl
  have hown : s.vm.findClass RX3 = some m.cls := hown
  have hl : lv_has ls 1 [(0, .ref h0)] := hl
  refine lv_aload_n hx hb dX3_empty_0 rfl (lv_at hl 0 rfl) ?_
  refine lv_iconst (v := 0) hx hb dX3_empty_1 (by decide) ?_
  refine va_put (D := D) (ci := 3) (v := .int 0) (ty := .int) (C := RX3) (T := TX3) (N := 16) hx hb htg gRX3 tyX3 tyX3_ok nmX3 hown hK hP hD hS 0 rfl rfl 0 (by decide) (htg _ wi_166) (fun _ h9 => h9) rfl (by decide +kernel) rfl rfl (Nat.le_of_ble_eq_true rfl) dX3_empty_2 (fun H locs hP hD hS => ?_)
  obtain ⟨hP, hD⟩ : PD D A [(sw_3 h0 0 p1 p2 p3 p4 p5 p6 p7 p8 p9 (a 0) (a 1) (a 2) (a 3) (a 4) (a 5)), (sw_in cT (a 5) 6 f)] _ := ⟨hP, hD⟩
  refine lv_aload_n hx hb dX3_empty_5 rfl (lv_at hl 0 rfl) ?_
  refine lv_iconst (v := 0) hx hb dX3_empty_6 (by decide) ?_
  refine va_put (D := D) (ci := 3) (v := .int 0) (ty := .int) (C := RX3) (T := TX3) (N := 16) hx hb htg gRX3 tyX3 tyX3_ok nmX3 hown hK hP hD hS 0 rfl rfl 1 (by decide) (htg _ wi_173) (fun _ h9 => h9) rfl (by decide +kernel) rfl rfl (Nat.le_of_ble_eq_true rfl) dX3_empty_7 (fun H locs hP hD hS => ?_)
  obtain ⟨hP, hD⟩ : PD D A [(sw_3 h0 0 0 p2 p3 p4 p5 p6 p7 p8 p9 (a 0) (a 1) (a 2) (a 3) (a 4) (a 5)), (sw_in cT (a 5) 6 f)] _ := ⟨hP, hD⟩
  refine lv_aload_n hx hb dX3_empty_10 rfl (lv_at hl 0 rfl) ?_
  refine lv_iconst (v := 0) hx hb dX3_empty_11 (by decide) ?_
  refine va_put (D := D) (ci := 3) (v := .int 0) (ty := .int) (C := RX3) (T := TX3) (N := 16) hx hb htg gRX3 tyX3 tyX3_ok nmX3 hown hK hP hD hS 0 rfl rfl 2 (by decide) (htg _ wi_176) (fun _ h9 => h9) rfl (by decide +kernel) rfl rfl (Nat.le_of_ble_eq_true rfl) dX3_empty_12 (fun H locs hP hD hS => ?_)
  obtain ⟨hP, hD⟩ : PD D A [(sw_3 h0 0 0 0 p3 p4 p5 p6 p7 p8 p9 (a 0) (a 1) (a 2) (a 3) (a 4) (a 5)), (sw_in cT (a 5) 6 f)] _ := ⟨hP, hD⟩
  refine lv_aload_n hx hb dX3_empty_15 rfl (lv_at hl 0 rfl) ?_
  refine lv_iconst (v := 0) hx hb dX3_empty_16 (by decide) ?_
  refine va_put (D := D) (ci := 3) (v := .int 0) (ty := .int) (C := RX3) (T := TX3) (N := 16) hx hb htg gRX3 tyX3 tyX3_ok nmX3 hown hK hP hD hS 0 rfl rfl 3 (by decide) (htg _ wi_178) (fun _ h9 => h9) rfl (by decide +kernel) rfl rfl (Nat.le_of_ble_eq_true rfl) dX3_empty_17 (fun H locs hP hD hS => ?_)
  obtain ⟨hP, hD⟩ : PD D A [(sw_3 h0 0 0 0 0 p4 p5 p6 p7 p8 p9 (a 0) (a 1) (a 2) (a 3) (a 4) (a 5)), (sw_in cT (a 5) 6 f)] _ := ⟨hP, hD⟩
  refine lv_aload_n hx hb dX3_empty_20 rfl (lv_at hl 0 rfl) ?_
  refine lv_bipush (v := 6) hx hb dX3_empty_21 (by decide) ?_
  refine va_put (D := D) (ci := 3) (v := .int 6) (ty := .int) (C := RX3) (T := TX3) (N := 16) hx hb htg gRX3 tyX3 tyX3_ok nmX3 hown hK hP hD hS 0 rfl rfl 4 (by decide) (htg _ wi_181) (fun _ h9 => h9) rfl (by decide +kernel) rfl rfl (Nat.le_of_ble_eq_true rfl) dX3_empty_23 (fun H locs hP hD hS => ?_)
  obtain ⟨hP, hD⟩ : PD D A [(sw_3 h0 0 0 0 0 6 p5 p6 p7 p8 p9 (a 0) (a 1) (a 2) (a 3) (a 4) (a 5)), (sw_in cT (a 5) 6 f)] _ := ⟨hP, hD⟩
  refine lv_aload_n hx hb dX3_empty_26 rfl (lv_at hl 0 rfl) ?_
  refine lv_bipush (v := 6) hx hb dX3_empty_27 (by decide) ?_
  refine va_put (D := D) (ci := 3) (v := .int 6) (ty := .int) (C := RX3) (T := TX3) (N := 16) hx hb htg gRX3 tyX3 tyX3_ok nmX3 hown hK hP hD hS 0 rfl rfl 5 (by decide) (htg _ wi_184) (fun _ h9 => h9) rfl (by decide +kernel) rfl rfl (Nat.le_of_ble_eq_true rfl) dX3_empty_29 (fun H locs hP hD hS => ?_)
  obtain ⟨hP, hD⟩ : PD D A [(sw_3 h0 0 0 0 0 6 6 p6 p7 p8 p9 (a 0) (a 1) (a 2) (a 3) (a 4) (a 5)), (sw_in cT (a 5) 6 f)] _ := ⟨hP, hD⟩
  refine lv_aload_n hx hb dX3_empty_32 rfl (lv_at hl 0 rfl) ?_
  refine lv_iconst (v := 1) hx hb dX3_empty_33 (by decide) ?_
  refine va_put (D := D) (ci := 3) (v := .int 1) (ty := .int) (C := RX3) (T := TX3) (N := 16) hx hb htg gRX3 tyX3 tyX3_ok nmX3 hown hK hP hD hS 0 rfl rfl 6 (by decide) (htg _ wi_187) (fun _ h9 => h9) rfl (by decide +kernel) rfl rfl (Nat.le_of_ble_eq_true rfl) dX3_empty_34 (fun H locs hP hD hS => ?_)
  obtain ⟨hP, hD⟩ : PD D A [(sw_3 h0 0 0 0 0 6 6 1 p7 p8 p9 (a 0) (a 1) (a 2) (a 3) (a 4) (a 5)), (sw_in cT (a 5) 6 f)] _ := ⟨hP, hD⟩
  refine lv_aload_n hx hb dX3_empty_37 rfl (lv_at hl 0 rfl) ?_
  refine lv_bipush (v := 60) hx hb dX3_empty_38 (by decide) ?_
  refine va_put (D := D) (ci := 3) (v := .int 60) (ty := .int) (C := RX3) (T := TX3) (N := 16) hx hb htg gRX3 tyX3 tyX3_ok nmX3 hown hK hP hD hS 0 rfl rfl 7 (by decide) (htg _ wi_190) (fun _ h9 => h9) rfl (by decide +kernel) rfl rfl (Nat.le_of_ble_eq_true rfl) dX3_empty_40 (fun H locs hP hD hS => ?_)
  obtain ⟨hP, hD⟩ : PD D A [(sw_3 h0 0 0 0 0 6 6 1 60 p8 p9 (a 0) (a 1) (a 2) (a 3) (a 4) (a 5)), (sw_in cT (a 5) 6 f)] _ := ⟨hP, hD⟩
  refine lv_aload_n hx hb dX3_empty_43 rfl (lv_at hl 0 rfl) ?_
  refine lv_iconst (v := 0) hx hb dX3_empty_44 (by decide) ?_
  refine va_put (D := D) (ci := 3) (v := .int 0) (ty := .int) (C := RX3) (T := TX3) (N := 16) hx hb htg gRX3 tyX3 tyX3_ok nmX3 hown hK hP hD hS 0 rfl rfl 8 (by decide) (htg _ wi_193) (fun _ h9 => h9) rfl (by decide +kernel) rfl rfl (Nat.le_of_ble_eq_true rfl) dX3_empty_45 (fun H locs hP hD hS => ?_)
  obtain ⟨hP, hD⟩ : PD D A [(sw_3 h0 0 0 0 0 6 6 1 60 0 p9 (a 0) (a 1) (a 2) (a 3) (a 4) (a 5)), (sw_in cT (a 5) 6 f)] _ := ⟨hP, hD⟩
  refine lv_aload_n hx hb dX3_empty_48 rfl (lv_at hl 0 rfl) ?_
  refine lv_iconst (v := 0) hx hb dX3_empty_49 (by decide) ?_
  refine va_put (D := D) (ci := 3) (v := .int 0) (ty := .int) (C := RX3) (T := TX3) (N := 16) hx hb htg gRX3 tyX3 tyX3_ok nmX3 hown hK hP hD hS 0 rfl rfl 9 (by decide) (htg _ wi_196) (fun _ h9 => h9) rfl (by decide +kernel) rfl rfl (Nat.le_of_ble_eq_true rfl) dX3_empty_50 (fun H locs hP hD hS => ?_)
  obtain ⟨hP, hD⟩ : PD D A [(sw_3 h0 0 0 0 0 6 6 1 60 0 0 (a 0) (a 1) (a 2) (a 3) (a 4) (a 5)), (sw_in cT (a 5) 6 f)] _ := ⟨hP, hD⟩
  refine lv_aload_n hx hb dX3_empty_53 rfl (lv_at hl 0 rfl) ?_
  refine va_get (D := D) (ci := 3) (v := .ref (a 5)) (C := RX3) (T := TX3) (N := 16) hx hb htg gRX3 hown hK hP 0 rfl rfl 15 (by decide) (htg _ wi_213) (fun _ h9 => h9) rfl dX3_empty_54 ?_
  refine lv_iconst (v := 1) hx hb dX3_empty_57 (by decide) ?_
  refine xk_v (wr := [(sw_3 h0 0 0 0 0 6 6 1 60 0 0 (a 0) (a 1) (a 2) (a 3) (a 4) (a 5))]) (xr_S (n := 2) (As := [.ref (a 5), .int 1]) (rest := []) ⟨hx, hb, hml, hown, htg⟩ hK hN hP hD hS hA [1] rfl (by decide) (g_fillI6 l D cT _ ((a 5)) (f) (1)) wi_163 wi_164 wi_124 wi_165 ⟨rfl, by decide +kernel⟩ ⟨Nat.le_of_ble_eq_true rfl, Nat.le_of_ble_eq_true rfl⟩ rfl hl.1 rfl (Nat.le_of_ble_eq_true rfl) dX3_empty_58 ⟨Nat.le_of_ble_eq_true rfl, Nat.le_of_ble_eq_true rfl⟩) hP hD hS hA [1] [0] rfl rfl (by decide) (by decide) (fun u_1 H locs hwr_2 hP hD hS => ?_)
  obtain ⟨hP, hD⟩ : PD D A [(sw_3 h0 0 0 0 0 6 6 1 60 0 0 (a 0) (a 1) (a 2) (a 3) (a 4) (a 5)), (sw_in cT (a 5) 6 (fillF (f) 6 (1)))] _ := ⟨hP, hD⟩
  exact x_vret hx hb hr hlk hP hD hS [0, 1] (()) rfl (by decide) trivial (by decide) (by decide) dX3_empty_61
set_option maxHeartbeats 4000000 in
set_option maxRecDepth 100000 in
theorem g_s_coder (l : Launch) (D : va_G) (cT : Nat → ClassId) (sz : Nat) (si : Nat) (hisi : si < 14) : Met l yJ0_coder_7d493 (wsc yJ0_coder_7d493 cJ0_coder_7d493 1 (some .byte)) { frames := 2, cells := 0, slots := 0, locals := 100 } (va_Pc [.ref (cT (10 + si))] (PX D cT sz [])) (va_Qi (fun (r : Int32) (u : Unit) => r = 0) (fun u t => RW D (va_A [] sz) ((fun _ : Unit => []) u) t) (va_A [] sz)) 0 0 (va_A [] sz) := by
  refine m_of (y := yJ0_coder_7d493) (cc := cJ0_coder_7d493) (nL := 1) (ret := (some .byte)) (D := D) (cT := cT) (av := [.ref (cT (10 + si))]) (wi := []) (fun A => va_Qi (fun (r : Int32) (u : Unit) => r = 0) (fun u t => RW D A ((fun _ : Unit => []) u) t) A) (by decide) (Nat.le_of_ble_eq_true rfl) ?_
  intro p e s m below meth c A hx hb hml hown htg hK hN hr hlk hnm hsz hP hD hS hA ls hl
  have hown : s.vm.findClass RJ0 = some m.cls := hown
  have hl : lv_has ls 1 [(0, .ref (cT (10 + si)))] := hl
  refine va_gets hx hb hN.2.2.2.2.2.1 hS hown (htg _ wi_566) (fun _ h9 => h9) dJ0_coder_7d493_0 ?_
  refine lv_if_eq (tgt := 13) hx hb dJ0_coder_7d493_3 (by decide) (fun h => absurd h (by decide)) (fun _ => ?_)
  refine lv_aload_n hx hb dJ0_coder_7d493_6 rfl (lv_at hl 0 rfl) ?_
  refine vk_getf hx hb (hN.2.2.2.2.1.1 si hisi).2.1 hS hown (htg _ wi_1632) (fun _ h9 => h9) dJ0_coder_7d493_7 ?_
  refine lv_goto (tgt := 14) hx hb dJ0_coder_7d493_10 (by decide) ?_
  exact x_tret (ty := .byte) hx hb hr hlk hP hD hS [] (()) rfl (by decide) rfl (by first | rfl | decide | (exfalso; omega) | (try simp only [ti_0, ti_1, ti_2, ti_3, ti_4, ti_5, ti_6, ti_7, ti_8, ti_9, ti_10, ti_11, ti_12]); (repeat (first | rw [if_pos (by first | assumption | omega | trivial)] | rw [if_neg (by first | assumption | omega)]))) (by decide) (by decide) dJ0_coder_7d493_14
set_option maxHeartbeats 4000000 in
set_option maxRecDepth 100000 in
theorem g_s_isLatin1 (l : Launch) (D : va_G) (cT : Nat → ClassId) (sz : Nat) (si : Nat) (hisi : si < 14) : Met l yJ0_isLatin1_aae02 (wsc yJ0_isLatin1_aae02 cJ0_isLatin1_aae02 1 (some .boolean)) { frames := 2, cells := 0, slots := 0, locals := 100 } (va_Pc [.ref (cT (10 + si))] (PX D cT sz [])) (va_Qi (fun (r : Int32) (u : Unit) => r = 1) (fun u t => RW D (va_A [] sz) ((fun _ : Unit => []) u) t) (va_A [] sz)) 0 0 (va_A [] sz) := by
  refine m_of (y := yJ0_isLatin1_aae02) (cc := cJ0_isLatin1_aae02) (nL := 1) (ret := (some .boolean)) (D := D) (cT := cT) (av := [.ref (cT (10 + si))]) (wi := []) (fun A => va_Qi (fun (r : Int32) (u : Unit) => r = 1) (fun u t => RW D A ((fun _ : Unit => []) u) t) A) (by decide) (Nat.le_of_ble_eq_true rfl) ?_
  intro p e s m below meth c A hx hb hml hown htg hK hN hr hlk hnm hsz hP hD hS hA ls hl
  have hown : s.vm.findClass RJ0 = some m.cls := hown
  have hl : lv_has ls 1 [(0, .ref (cT (10 + si)))] := hl
  refine va_gets hx hb hN.2.2.2.2.2.1 hS hown (htg _ wi_566) (fun _ h9 => h9) dJ0_isLatin1_aae02_0 ?_
  refine lv_if_eq (tgt := 17) hx hb dJ0_isLatin1_aae02_3 (by decide) (fun h => absurd h (by decide)) (fun _ => ?_)
  refine lv_aload_n hx hb dJ0_isLatin1_aae02_6 rfl (lv_at hl 0 rfl) ?_
  refine vk_getf hx hb (hN.2.2.2.2.1.1 si hisi).2.1 hS hown (htg _ wi_1632) (fun _ h9 => h9) dJ0_isLatin1_aae02_7 ?_
  refine lv_if_ne (tgt := 17) hx hb dJ0_isLatin1_aae02_10 (by decide) (fun h => absurd rfl h) (fun _ => ?_)
  refine lv_iconst (v := 1) hx hb dJ0_isLatin1_aae02_13 (by decide) ?_
  refine lv_goto (tgt := 18) hx hb dJ0_isLatin1_aae02_14 (by decide) ?_
  exact x_zret hx hb hr hlk hP hD hS [] (()) rfl (by decide) rfl (by first | rfl | decide | (exfalso; omega) | (try simp only [ti_0, ti_1, ti_2, ti_3, ti_4, ti_5, ti_6, ti_7, ti_8, ti_9, ti_10, ti_11, ti_12]); (repeat (first | rw [if_pos (by first | assumption | omega | trivial)] | rw [if_neg (by first | assumption | omega)]))) (by decide) (by decide) dJ0_isLatin1_aae02_18
set_option maxHeartbeats 4000000 in
set_option maxRecDepth 100000 in
theorem g_s_length (l : Launch) (D : va_G) (cT : Nat → ClassId) (sz : Nat) (si : Nat) (hisi : si < 14) : Met l yJ0_length_8abf5 (wsc yJ0_length_8abf5 cJ0_length_8abf5 1 (some .int)) { frames := 3, cells := 0, slots := 0, locals := 120 } (va_Pc [.ref (cT (10 + si))] (PX D cT sz [])) (va_Qi (fun (r : Int32) (u : Unit) => r = nI (strL.getD si 0)) (fun u t => RW D (va_A [] sz) ((fun _ : Unit => []) u) t) (va_A [] sz)) 0 0 (va_A [] sz) := by
  refine m_of (y := yJ0_length_8abf5) (cc := cJ0_length_8abf5) (nL := 1) (ret := (some .int)) (D := D) (cT := cT) (av := [.ref (cT (10 + si))]) (wi := []) (fun A => va_Qi (fun (r : Int32) (u : Unit) => r = nI (strL.getD si 0)) (fun u t => RW D A ((fun _ : Unit => []) u) t) A) (by decide) (Nat.le_of_ble_eq_true rfl) ?_
  intro p e s m below meth c A hx hb hml hown htg hK hN hr hlk hnm hsz hP hD hS hA ls hl
  have hown : s.vm.findClass RJ0 = some m.cls := hown
  have hl : lv_has ls 1 [(0, .ref (cT (10 + si)))] := hl
  refine lv_aload_n hx hb dJ0_length_8abf5_0 rfl (lv_at hl 0 rfl) ?_
  refine vk_getf hx hb (hN.2.2.2.2.1.1 si hisi).2.2.1 hS hown (htg _ wi_1631) (fun _ h9 => h9) dJ0_length_8abf5_1 ?_
  refine va_tlen (v := nI (strL.getD si 0)) hx hb (hN.2.2.2.2.1.1 si hisi).2.2.2 hS rfl dJ0_length_8abf5_4 ?_
  have hsl_si : (nI (strL.getD si 0)).toInt = ((strL.getD si 0 : Nat) : Int) := nI_toInt (by have h7 := strL_le si hisi; omega)
  refine lv_aload_n hx hb dJ0_length_8abf5_5 rfl (lv_at hl 0 rfl) ?_
  refine xk_i (wr := []) (xr_VS (n := 0) (As := []) (rest := [.int (nI (strL.getD si 0))]) ⟨hx, hb, hml, hown, htg⟩ hK hN hP hD hS hA [] rfl (by decide) (g_s_coder l D cT _ (si) (by first | assumption | decide | omega | (simp only [ti_0, ti_1, ti_2, ti_3, ti_4, ti_5, ti_6, ti_7, ti_8, ti_9, ti_10, ti_11, ti_12, ti_m1]; omega))) wi_562 wi_563 wi_564 wi_134 wi_565 (vk_recv (i := si) (adK := fun i => cT (10 + i)) (adV := fun i => cT (40 + i)) hN.2.2.2.2.1 (hisi) hS) ⟨rfl, by decide +kernel⟩ ⟨Nat.le_of_ble_eq_true rfl, Nat.le_of_ble_eq_true rfl⟩ rfl hl.1 rfl (Nat.le_of_ble_eq_true rfl) dJ0_length_8abf5_6 ⟨Nat.le_of_ble_eq_true rfl, Nat.le_of_ble_eq_true rfl⟩) hP hD hS hA [] [] rfl rfl (by decide) (by decide) (fun r_2 u_1 H locs hwr_2 hP hD hS => ?_)
  obtain ⟨hP, hD⟩ : PD D A [] _ := ⟨hP, hD⟩
  have hwr_2 : r_2 = 0 := hwr_2
  subst hwr_2
  refine lv_ishr hx hb dJ0_length_8abf5_9 ?_
  refine lv_topi (fun z_3 ez_3 => ?_)
  exact x_iret hx hb hr hlk hP hD hS [] (()) rfl (by decide) (by rw [ez_3]; exact sc_shr0 (by have := strL_le si hisi; omega)) (by decide) (by decide) dJ0_length_8abf5_10
set_option maxHeartbeats 4000000 in
set_option maxRecDepth 100000 in
theorem g_p_checkIndex (l : Launch) (D : va_G) (cT : Nat → ClassId) (sz : Nat) (x : Int32) (y : Int32) (hck : 0 ≤ x.toInt ∧ x.toInt < y.toInt) (tt : Nat) : Met l yJ3_checkIndex_8e157 (wsc yJ3_checkIndex_8e157 cJ3_checkIndex_8e157 3 (some .int)) { frames := 2, cells := 0, slots := 0, locals := 100 } (va_Pc [.int x, .int y, .ref tt] (PX D cT sz [])) (va_Qi (fun (r : Int32) (u : Unit) => True) (fun u t => RW D (va_A [] sz) ((fun _ : Unit => []) u) t) (va_A [] sz)) 0 0 (va_A [] sz) := by
  refine m_of (y := yJ3_checkIndex_8e157) (cc := cJ3_checkIndex_8e157) (nL := 3) (ret := (some .int)) (D := D) (cT := cT) (av := [.int x, .int y, .ref tt]) (wi := []) (fun A => va_Qi (fun (r : Int32) (u : Unit) => True) (fun u t => RW D A ((fun _ : Unit => []) u) t) A) (by decide) (Nat.le_of_ble_eq_true rfl) ?_
  intro p e s m below meth c A hx hb hml hown htg hK hN hr hlk hnm hsz hP hD hS hA ls hl
  have hown : s.vm.findClass RJ3 = some m.cls := hown
  have hl : lv_has ls 3 [(0, .int x), (1, .int y), (2, .ref tt)] := hl
  refine lv_iload_n hx hb dJ3_checkIndex_8e157_0 rfl (lv_at hl 0 rfl) ?_
  refine lv_if_lt (tgt := 9) hx hb dJ3_checkIndex_8e157_1 (by decide) (fun h => absurd h (fun h => absurd (ilt h rfl (show (0 : Int32).toInt = 0 from by decide)) (by omega))) (fun _ => ?_)
  refine lv_iload_n hx hb dJ3_checkIndex_8e157_4 rfl (lv_at hl 0 rfl) ?_
  refine lv_iload_n hx hb dJ3_checkIndex_8e157_5 rfl (lv_at hl 1 rfl) ?_
  refine lv_icmp_lt (tgt := 16) hx hb dJ3_checkIndex_8e157_6 (by decide) (fun _ => ?_) (fun h => absurd (Int32.lt_iff_toInt_lt.mpr (by omega)) h)
  refine lv_iload_n hx hb dJ3_checkIndex_8e157_16 rfl (lv_at hl 0 rfl) ?_
  exact x_iret hx hb hr hlk hP hD hS [] (()) rfl (by decide) trivial (by decide) (by decide) dJ3_checkIndex_8e157_17
set_option maxHeartbeats 4000000 in
set_option maxRecDepth 100000 in
theorem g_p_checkIndexN (l : Launch) (D : va_G) (cT : Nat → ClassId) (sz : Nat) (x : Int32) (y : Int32) (hck : 0 ≤ x.toInt ∧ x.toInt < y.toInt) : Met l yJ3_checkIndex_8e157 (wsc yJ3_checkIndex_8e157 cJ3_checkIndex_8e157 3 (some .int)) { frames := 2, cells := 0, slots := 0, locals := 100 } (va_Pc [.int x, .int y, .null] (PX D cT sz [])) (va_Qi (fun (r : Int32) (u : Unit) => True) (fun u t => RW D (va_A [] sz) ((fun _ : Unit => []) u) t) (va_A [] sz)) 0 0 (va_A [] sz) := by
  refine m_of (y := yJ3_checkIndex_8e157) (cc := cJ3_checkIndex_8e157) (nL := 3) (ret := (some .int)) (D := D) (cT := cT) (av := [.int x, .int y, .null]) (wi := []) (fun A => va_Qi (fun (r : Int32) (u : Unit) => True) (fun u t => RW D A ((fun _ : Unit => []) u) t) A) (by decide) (Nat.le_of_ble_eq_true rfl) ?_
  intro p e s m below meth c A hx hb hml hown htg hK hN hr hlk hnm hsz hP hD hS hA ls hl
  have hown : s.vm.findClass RJ3 = some m.cls := hown
  have hl : lv_has ls 3 [(0, .int x), (1, .int y), (2, .null)] := hl
  refine lv_iload_n hx hb dJ3_checkIndex_8e157_0 rfl (lv_at hl 0 rfl) ?_
  refine lv_if_lt (tgt := 9) hx hb dJ3_checkIndex_8e157_1 (by decide) (fun h => absurd h (fun h => absurd (ilt h rfl (show (0 : Int32).toInt = 0 from by decide)) (by omega))) (fun _ => ?_)
  refine lv_iload_n hx hb dJ3_checkIndex_8e157_4 rfl (lv_at hl 0 rfl) ?_
  refine lv_iload_n hx hb dJ3_checkIndex_8e157_5 rfl (lv_at hl 1 rfl) ?_
  refine lv_icmp_lt (tgt := 16) hx hb dJ3_checkIndex_8e157_6 (by decide) (fun _ => ?_) (fun h => absurd (Int32.lt_iff_toInt_lt.mpr (by omega)) h)
  refine lv_iload_n hx hb dJ3_checkIndex_8e157_16 rfl (lv_at hl 0 rfl) ?_
  exact x_iret hx hb hr hlk hP hD hS [] (()) rfl (by decide) trivial (by decide) (by decide) dJ3_checkIndex_8e157_17
set_option maxHeartbeats 4000000 in
set_option maxRecDepth 100000 in
theorem g_s_checkIndex (l : Launch) (D : va_G) (cT : Nat → ClassId) (sz : Nat) (x : Int32) (y : Int32) (hck : 0 ≤ x.toInt ∧ x.toInt < y.toInt) : Met l yJ0_checkIndex_df160 (wsc yJ0_checkIndex_df160 cJ0_checkIndex_df160 2 none) { frames := 3, cells := 0, slots := 0, locals := 122 } (va_Pc [.int x, .int y] (PX D cT sz [])) (va_Qv (fun (u : Unit) => True) (fun u t => RW D (va_A [] sz) ((fun _ : Unit => []) u) t) (va_A [] sz)) 0 0 (va_A [] sz) := by
  refine m_of (y := yJ0_checkIndex_df160) (cc := cJ0_checkIndex_df160) (nL := 2) (ret := none) (D := D) (cT := cT) (av := [.int x, .int y]) (wi := []) (fun A => va_Qv (fun (u : Unit) => True) (fun u t => RW D A ((fun _ : Unit => []) u) t) A) (by decide) (Nat.le_of_ble_eq_true rfl) ?_
  intro p e s m below meth c A hx hb hml hown htg hK hN hr hlk hnm hsz hP hD hS hA ls hl
  have hown : s.vm.findClass RJ0 = some m.cls := hown
  have hl : lv_has ls 2 [(0, .int x), (1, .int y)] := hl
  refine lv_iload_n hx hb dJ0_checkIndex_df160_0 rfl (lv_at hl 0 rfl) ?_
  refine lv_iload_n hx hb dJ0_checkIndex_df160_1 rfl (lv_at hl 1 rfl) ?_
  rcases hN.2.2.2.2.2.2 with hZ | ⟨t_1, hZ⟩
  · refine va_gets hx hb hZ hS hown (htg _ wi_582) (fun _ h9 => h9) dJ0_checkIndex_df160_2 ?_
    refine xk_i (wr := []) (xr_S (n := 3) (As := [.int x, .int y, .null]) (rest := []) ⟨hx, hb, hml, hown, htg⟩ hK hN hP hD hS hA [] rfl (by decide) (g_p_checkIndexN l D cT _ (x) (y) (by first | assumption | decide | omega | (simp only [ti_0, ti_1, ti_2, ti_3, ti_4, ti_5, ti_6, ti_7, ti_8, ti_9, ti_10, ti_11, ti_12, ti_m1]; omega))) wi_584 wi_585 wi_136 wi_586 ⟨rfl, by decide +kernel⟩ ⟨Nat.le_of_ble_eq_true rfl, Nat.le_of_ble_eq_true rfl⟩ rfl hl.1 rfl (Nat.le_of_ble_eq_true rfl) dJ0_checkIndex_df160_5 ⟨Nat.le_of_ble_eq_true rfl, Nat.le_of_ble_eq_true rfl⟩) hP hD hS hA [] [] rfl rfl (by decide) (by decide) (fun r_3 u_2 H locs hwr_3 hP hD hS => ?_)
    obtain ⟨hP, hD⟩ : PD D A [] _ := ⟨hP, hD⟩
    refine lv_pop hx hb dJ0_checkIndex_df160_8 rfl ?_
    exact x_vret hx hb hr hlk hP hD hS [] (()) rfl (by decide) trivial (by decide) (by decide) dJ0_checkIndex_df160_9
  · refine va_gets hx hb hZ hS hown (htg _ wi_582) (fun _ h9 => h9) dJ0_checkIndex_df160_2 ?_
    refine xk_i (wr := []) (xr_S (n := 3) (As := [.int x, .int y, .ref t_1]) (rest := []) ⟨hx, hb, hml, hown, htg⟩ hK hN hP hD hS hA [] rfl (by decide) (g_p_checkIndex l D cT _ (x) (y) (by first | assumption | decide | omega | (simp only [ti_0, ti_1, ti_2, ti_3, ti_4, ti_5, ti_6, ti_7, ti_8, ti_9, ti_10, ti_11, ti_12, ti_m1]; omega)) (t_1)) wi_584 wi_585 wi_136 wi_586 ⟨rfl, by decide +kernel⟩ ⟨Nat.le_of_ble_eq_true rfl, Nat.le_of_ble_eq_true rfl⟩ rfl hl.1 rfl (Nat.le_of_ble_eq_true rfl) dJ0_checkIndex_df160_5 ⟨Nat.le_of_ble_eq_true rfl, Nat.le_of_ble_eq_true rfl⟩) hP hD hS hA [] [] rfl rfl (by decide) (by decide) (fun r_5 u_4 H locs hwr_5 hP hD hS => ?_)
    obtain ⟨hP, hD⟩ : PD D A [] _ := ⟨hP, hD⟩
    refine lv_pop hx hb dJ0_checkIndex_df160_8 rfl ?_
    exact x_vret hx hb hr hlk hP hD hS [] (()) rfl (by decide) trivial (by decide) (by decide) dJ0_checkIndex_df160_9
set_option maxHeartbeats 4000000 in
set_option maxRecDepth 100000 in
theorem g_isFarm (l : Launch) (D : va_G) (cT : Nat → ClassId) (sz : Nat) (x : Int32) : Met l yX8_isFarm (wsc yX8_isFarm cX8_isFarm 1 (some .boolean)) { frames := 2, cells := 0, slots := 0, locals := 100 } (va_Pc [.int x] (PX D cT sz [])) (va_Qi (fun (r : Int32) (u : Unit) => r = if 0 ≤ x.toInt ∧ x.toInt < 6 then 1 else 0) (fun u t => RW D (va_A [] sz) ((fun _ : Unit => []) u) t) (va_A [] sz)) 0 0 (va_A [] sz) := by
  refine m_of (y := yX8_isFarm) (cc := cX8_isFarm) (nL := 1) (ret := (some .boolean)) (D := D) (cT := cT) (av := [.int x]) (wi := []) (fun A => va_Qi (fun (r : Int32) (u : Unit) => r = if 0 ≤ x.toInt ∧ x.toInt < 6 then 1 else 0) (fun u t => RW D A ((fun _ : Unit => []) u) t) A) (by decide) (Nat.le_of_ble_eq_true rfl) ?_
  intro p e s m below meth c A hx hb hml hown htg hK hN hr hlk hnm hsz hP hD hS hA ls hl
  have hown : s.vm.findClass RX8 = some m.cls := hown
  have hl : lv_has ls 1 [(0, .int x)] := hl
  refine lv_iload_n hx hb dX8_isFarm_0 rfl (lv_at hl 0 rfl) ?_
  refine lv_if_lt (tgt := 14) hx hb dX8_isFarm_1 (by decide) (fun c_1 => ?_) (fun c_1 => ?_)
  · have ic_1 : x.toInt < 0 := ilt c_1 (rfl) (by decide)
    refine lv_iconst (v := 0) hx hb dX8_isFarm_14 (by decide) ?_
    exact x_zret hx hb hr hlk hP hD hS [] (()) rfl (by decide) rfl (by first | rfl | decide | (exfalso; omega) | (try simp only [ti_0, ti_1, ti_2, ti_3, ti_4, ti_5, ti_6, ti_7, ti_8, ti_9, ti_10, ti_11, ti_12]); (repeat (first | rw [if_pos (by first | assumption | omega | trivial)] | rw [if_neg (by first | assumption | omega)]))) (by decide) (by decide) dX8_isFarm_15
  · have ic_1 : 0 ≤ x.toInt := inlt c_1 (rfl) (by decide)
    refine lv_iload_n hx hb dX8_isFarm_4 rfl (lv_at hl 0 rfl) ?_
    refine lv_bipush (v := 6) hx hb dX8_isFarm_5 (by decide) ?_
    refine lv_icmp_ge (tgt := 14) hx hb dX8_isFarm_7 (by decide) (fun c_2 => ?_) (fun c_2 => ?_)
    · have ic_2 : 6 ≤ x.toInt := ile c_2 (by decide) (rfl)
      refine lv_iconst (v := 0) hx hb dX8_isFarm_14 (by decide) ?_
      exact x_zret hx hb hr hlk hP hD hS [] (()) rfl (by decide) rfl (by first | rfl | decide | (exfalso; omega) | (try simp only [ti_0, ti_1, ti_2, ti_3, ti_4, ti_5, ti_6, ti_7, ti_8, ti_9, ti_10, ti_11, ti_12]); (repeat (first | rw [if_pos (by first | assumption | omega | trivial)] | rw [if_neg (by first | assumption | omega)]))) (by decide) (by decide) dX8_isFarm_15
    · have ic_2 : x.toInt < 6 := inle c_2 (by decide) (rfl)
      refine lv_iconst (v := 1) hx hb dX8_isFarm_10 (by decide) ?_
      refine lv_goto (tgt := 15) hx hb dX8_isFarm_11 (by decide) ?_
      exact x_zret hx hb hr hlk hP hD hS [] (()) rfl (by decide) rfl (by first | rfl | decide | (exfalso; omega) | (try simp only [ti_0, ti_1, ti_2, ti_3, ti_4, ti_5, ti_6, ti_7, ti_8, ti_9, ti_10, ti_11, ti_12]); (repeat (first | rw [if_pos (by first | assumption | omega | trivial)] | rw [if_neg (by first | assumption | omega)]))) (by decide) (by decide) dX8_isFarm_15
set_option maxHeartbeats 4000000 in
set_option maxRecDepth 100000 in
theorem g_k_heightX (l : Launch) (D : va_G) (cT : Nat → ClassId) (sz : Nat) (h0 : Nat) (q : Nat → Nat) (n1 : Int32) (hn1 : 0 ≤ n1.toInt ∧ n1.toInt ≤ 900) (p0 : Int32) (p1 : Int32) (p2 : Int32) (p3 : Int32) (p4 : Int32) (p5 : Int32) (p6 : Int32) (p7 : Int32) (p8 : Int32) (p9 : Int32) (hs : 0 ≤ p0.toInt ∧ p0.toInt ≤ 16) (hat : 0 ≤ p3.toInt ∧ p3.toInt ≤ 15) (x : Int32) : Met l yX8_height (wsc yX8_height cX8_height 3 (some .int)) { frames := 2, cells := 0, slots := 0, locals := 100 } (va_Pc [.ref h0, .int x] (PX D cT sz [(sw_8 h0 q n1), (sw_3 (q 2) p0 p1 p2 p3 p4 p5 p6 p7 p8 p9 (q 12) (q 13) (q 14) (q 15) (q 16) (q 17))])) (va_Qi (fun (r : Int32) (u : Int32) => ((1 ≤ x.toInt ∧ x.toInt ≤ 30 ∧ u.toInt = x.toInt ∧ r.toInt = p4.toInt) ∨ ((x.toInt < 1 ∨ 30 < x.toInt) ∧ u.toInt = p4.toInt ∧ r.toInt = -3)) ∧ (True)) (fun u t => RW D (va_A [(sw_8 h0 q n1), (sw_3 (q 2) p0 p1 p2 p3 p4 p5 p6 p7 p8 p9 (q 12) (q 13) (q 14) (q 15) (q 16) (q 17))] sz) ((fun u : Int32 => [(sw_8 h0 q n1), (sw_3 (q 2) p0 p1 p2 p3 u p5 p6 p7 p8 p9 (q 12) (q 13) (q 14) (q 15) (q 16) (q 17))]) u) t) (va_A [(sw_8 h0 q n1), (sw_3 (q 2) p0 p1 p2 p3 p4 p5 p6 p7 p8 p9 (q 12) (q 13) (q 14) (q 15) (q 16) (q 17))] sz)) 0 0 (va_A [(sw_8 h0 q n1), (sw_3 (q 2) p0 p1 p2 p3 p4 p5 p6 p7 p8 p9 (q 12) (q 13) (q 14) (q 15) (q 16) (q 17))] sz) := by
  refine m_of (y := yX8_height) (cc := cX8_height) (nL := 3) (ret := (some .int)) (D := D) (cT := cT) (av := [.ref h0, .int x]) (wi := [(sw_8 h0 q n1), (sw_3 (q 2) p0 p1 p2 p3 p4 p5 p6 p7 p8 p9 (q 12) (q 13) (q 14) (q 15) (q 16) (q 17))]) (fun A => va_Qi (fun (r : Int32) (u : Int32) => ((1 ≤ x.toInt ∧ x.toInt ≤ 30 ∧ u.toInt = x.toInt ∧ r.toInt = p4.toInt) ∨ ((x.toInt < 1 ∨ 30 < x.toInt) ∧ u.toInt = p4.toInt ∧ r.toInt = -3)) ∧ (True)) (fun u t => RW D A ((fun u : Int32 => [(sw_8 h0 q n1), (sw_3 (q 2) p0 p1 p2 p3 u p5 p6 p7 p8 p9 (q 12) (q 13) (q 14) (q 15) (q 16) (q 17))]) u) t) A) (by decide) (Nat.le_of_ble_eq_true rfl) ?_
  intro p e s m below meth c A hx hb hml hown htg hK hN hr hlk hnm hsz hP hD hS hA ls hl
  have hown : s.vm.findClass RX8 = some m.cls := hown
  have hl : lv_has ls 3 [(0, .ref h0), (1, .int x)] := hl
  have t9_1 : (1 : Int32).toInt = 1 := by decide
  have t9_30 : (30 : Int32).toInt = 30 := by decide
  have t9_m3 : ((-3) : Int32).toInt = (-3) := by decide
  refine lv_iload_n hx hb dX8_height_0 rfl (lv_at hl 1 rfl) ?_
  refine lv_iconst (v := 1) hx hb dX8_height_1 (by decide) ?_
  refine lv_icmp_lt (tgt := 11) hx hb dX8_height_2 (by decide) (fun c_1 => ?_) (fun c_1 => ?_)
  · have ic_1 : x.toInt < 1 := ilt c_1 (rfl) (by decide)
    refine lv_bipush (v := (-3)) hx hb dX8_height_11 (by decide) ?_
    exact x_iret hx hb hr hlk hP hD hS [0, 1] ((p4)) rfl (by decide) ⟨by (try dsimp only); first | assumption | omega | decide | exact Or.inl (by decide) | (intro h9; exact absurd h9 (by decide)) | (intro _; decide) | (simp only [ti_0, ti_1, ti_2, ti_3, ti_4, ti_5, ti_6, ti_7, ti_8, ti_9, ti_10, ti_11, ti_12, ti_m1]; omega) | (simp only [ti_0, ti_1, ti_2, ti_3, ti_4, ti_5, ti_6, ti_7, ti_8, ti_9, ti_10, ti_11, ti_12, ti_m1]; done), trivial⟩ (by decide) (by decide) dX8_height_13
  · have ic_1 : 1 ≤ x.toInt := inlt c_1 (rfl) (by decide)
    refine lv_iload_n hx hb dX8_height_5 rfl (lv_at hl 1 rfl) ?_
    refine lv_bipush (v := 30) hx hb dX8_height_6 (by decide) ?_
    refine lv_icmp_le (tgt := 14) hx hb dX8_height_8 (by decide) (fun c_2 => ?_) (fun c_2 => ?_)
    · have ic_2 : x.toInt ≤ 30 := ile c_2 (rfl) (by decide)
      refine lv_aload_n hx hb dX8_height_14 rfl (lv_at hl 0 rfl) ?_
      refine va_get (D := D) (ci := 8) (v := .ref (q 2)) (C := RX8) (T := TX8) (N := 13) hx hb htg gRX8 hown hK hP 0 rfl rfl 3 (by decide) (htg _ wi_470) (fun _ h9 => h9) rfl dX8_height_15 ?_
      refine va_getN (D := D) (ci := 3) (v := .int p4) (C := RX3) (T := TX3) (N := 16) hx hb htg gRX3 hown hK hP 1 rfl rfl 4 (by decide) (va_Nw.use rfl (hN.1 _ ni_183)) (fun _ h9 => h9) rfl dX8_height_18 ?_
      refine lv_istore_n (lv' := [(2, .int p4), (0, .ref h0), (1, .int x)]) hx hb dX8_height_21 rfl hl (by decide) rfl (fun ls hl => ?_)
      refine lv_aload_n hx hb dX8_height_22 rfl (lv_at hl 1 rfl) ?_
      refine va_get (D := D) (ci := 8) (v := .ref (q 2)) (C := RX8) (T := TX8) (N := 13) hx hb htg gRX8 hown hK hP 0 rfl rfl 3 (by decide) (htg _ wi_470) (fun _ h9 => h9) rfl dX8_height_23 ?_
      refine lv_iload_n hx hb dX8_height_26 rfl (lv_at hl 2 rfl) ?_
      refine va_putN (D := D) (ci := 3) (v := .int x) (ty := .int) (C := RX3) (T := TX3) (N := 16) hx hb htg gRX3 tyX3 tyX3_ok nmX3 hown hK hP hD hS 1 rfl rfl 4 (by decide) (va_Nw.use rfl (hN.1 _ ni_183)) (fun _ h9 => h9) rfl (by decide +kernel) rfl rfl (Nat.le_of_ble_eq_true rfl) dX8_height_27 (fun H locs hP hD hS => ?_)
      obtain ⟨hP, hD⟩ : PD D A [(sw_8 h0 q n1), (sw_3 (q 2) p0 p1 p2 p3 x p5 p6 p7 p8 p9 (q 12) (q 13) (q 14) (q 15) (q 16) (q 17))] _ := ⟨hP, hD⟩
      refine lv_iload_n hx hb dX8_height_30 rfl (lv_at hl 0 rfl) ?_
      exact x_iret hx hb hr hlk hP hD hS [0, 1] ((x)) rfl (by decide) ⟨by (try dsimp only); first | assumption | omega | decide | exact Or.inl (by decide) | (intro h9; exact absurd h9 (by decide)) | (intro _; decide) | (simp only [ti_0, ti_1, ti_2, ti_3, ti_4, ti_5, ti_6, ti_7, ti_8, ti_9, ti_10, ti_11, ti_12, ti_m1]; omega) | (simp only [ti_0, ti_1, ti_2, ti_3, ti_4, ti_5, ti_6, ti_7, ti_8, ti_9, ti_10, ti_11, ti_12, ti_m1]; done), trivial⟩ (by decide) (by decide) dX8_height_31
    · have ic_2 : 30 < x.toInt := inle c_2 (rfl) (by decide)
      refine lv_bipush (v := (-3)) hx hb dX8_height_11 (by decide) ?_
      exact x_iret hx hb hr hlk hP hD hS [0, 1] ((p4)) rfl (by decide) ⟨by (try dsimp only); first | assumption | omega | decide | exact Or.inl (by decide) | (intro h9; exact absurd h9 (by decide)) | (intro _; decide) | (simp only [ti_0, ti_1, ti_2, ti_3, ti_4, ti_5, ti_6, ti_7, ti_8, ti_9, ti_10, ti_11, ti_12, ti_m1]; omega) | (simp only [ti_0, ti_1, ti_2, ti_3, ti_4, ti_5, ti_6, ti_7, ti_8, ti_9, ti_10, ti_11, ti_12, ti_m1]; done), trivial⟩ (by decide) (by decide) dX8_height_13
set_option maxHeartbeats 4000000 in
set_option maxRecDepth 100000 in
theorem g_k_fellX (l : Launch) (D : va_G) (cT : Nat → ClassId) (sz : Nat) (h0 : Nat) (q : Nat → Nat) (n1 : Int32) (hn1 : 0 ≤ n1.toInt ∧ n1.toInt ≤ 900) (p0 : Int32) (p1 : Int32) (p2 : Int32) (p3 : Int32) (p4 : Int32) (p5 : Int32) (p6 : Int32) (p7 : Int32) (p8 : Int32) (p9 : Int32) (hs : 0 ≤ p0.toInt ∧ p0.toInt ≤ 16) (hat : 0 ≤ p3.toInt ∧ p3.toInt ≤ 15) (x : Int32) (f2 : Nat → Int32) : Met l yX8_fell (wsc yX8_fell cX8_fell 3 (some .int)) { frames := 3, cells := 0, slots := 0, locals := 121 } (va_Pc [.ref h0, .int x] (PX D cT sz [(sw_8 h0 q n1), (sw_3 (q 2) p0 p1 p2 p3 p4 p5 p6 p7 p8 p9 (q 12) (q 13) (q 14) (q 15) (q 16) (q 17)), (sw_in cT (q 14) 16 f2)])) (va_Qi (fun (r : Int32) (u : (Nat → Int32)) => (((x.toInt < 0 ∨ p0.toInt ≤ x.toInt) ∧ r.toInt = -2) ∨ (0 ≤ x.toInt ∧ x.toInt < p0.toInt ∧ (f2 x.toInt.toNat).toInt = 0 ∧ r.toInt = -5) ∨ (0 ≤ x.toInt ∧ x.toInt < p0.toInt ∧ ¬ (f2 x.toInt.toNat).toInt = 0 ∧ r.toInt = (f2 x.toInt.toNat).toInt)) ∧ (∀ j : Nat, u j = if (j : Int) = x.toInt ∧ x.toInt < p0.toInt then 0 else f2 j) ∧ (True)) (fun u t => RW D (va_A [(sw_8 h0 q n1), (sw_3 (q 2) p0 p1 p2 p3 p4 p5 p6 p7 p8 p9 (q 12) (q 13) (q 14) (q 15) (q 16) (q 17)), (sw_in cT (q 14) 16 f2)] sz) ((fun u : (Nat → Int32) => [(sw_8 h0 q n1), (sw_3 (q 2) p0 p1 p2 p3 p4 p5 p6 p7 p8 p9 (q 12) (q 13) (q 14) (q 15) (q 16) (q 17)), (sw_in cT (q 14) 16 u)]) u) t) (va_A [(sw_8 h0 q n1), (sw_3 (q 2) p0 p1 p2 p3 p4 p5 p6 p7 p8 p9 (q 12) (q 13) (q 14) (q 15) (q 16) (q 17)), (sw_in cT (q 14) 16 f2)] sz)) 0 0 (va_A [(sw_8 h0 q n1), (sw_3 (q 2) p0 p1 p2 p3 p4 p5 p6 p7 p8 p9 (q 12) (q 13) (q 14) (q 15) (q 16) (q 17)), (sw_in cT (q 14) 16 f2)] sz) := by
  refine m_of (y := yX8_fell) (cc := cX8_fell) (nL := 3) (ret := (some .int)) (D := D) (cT := cT) (av := [.ref h0, .int x]) (wi := [(sw_8 h0 q n1), (sw_3 (q 2) p0 p1 p2 p3 p4 p5 p6 p7 p8 p9 (q 12) (q 13) (q 14) (q 15) (q 16) (q 17)), (sw_in cT (q 14) 16 f2)]) (fun A => va_Qi (fun (r : Int32) (u : (Nat → Int32)) => (((x.toInt < 0 ∨ p0.toInt ≤ x.toInt) ∧ r.toInt = -2) ∨ (0 ≤ x.toInt ∧ x.toInt < p0.toInt ∧ (f2 x.toInt.toNat).toInt = 0 ∧ r.toInt = -5) ∨ (0 ≤ x.toInt ∧ x.toInt < p0.toInt ∧ ¬ (f2 x.toInt.toNat).toInt = 0 ∧ r.toInt = (f2 x.toInt.toNat).toInt)) ∧ (∀ j : Nat, u j = if (j : Int) = x.toInt ∧ x.toInt < p0.toInt then 0 else f2 j) ∧ (True)) (fun u t => RW D A ((fun u : (Nat → Int32) => [(sw_8 h0 q n1), (sw_3 (q 2) p0 p1 p2 p3 p4 p5 p6 p7 p8 p9 (q 12) (q 13) (q 14) (q 15) (q 16) (q 17)), (sw_in cT (q 14) 16 u)]) u) t) A) (by decide) (Nat.le_of_ble_eq_true rfl) ?_
  intro p e s m below meth c A hx hb hml hown htg hK hN hr hlk hnm hsz hP hD hS hA ls hl
  have hown : s.vm.findClass RX8 = some m.cls := hown
  have hl : lv_has ls 3 [(0, .ref h0), (1, .int x)] := hl
  have t9_m2 : ((-2) : Int32).toInt = (-2) := by decide
  have t9_m5 : ((-5) : Int32).toInt = (-5) := by decide
  have t9_0 : (0 : Int32).toInt = 0 := by decide
  refine lv_aload_n hx hb dX8_fell_0 rfl (lv_at hl 0 rfl) ?_
  refine va_get (D := D) (ci := 8) (v := .ref (q 2)) (C := RX8) (T := TX8) (N := 13) hx hb htg gRX8 hown hK hP 0 rfl rfl 3 (by decide) (htg _ wi_470) (fun _ h9 => h9) rfl dX8_fell_1 ?_
  refine lv_iload_n hx hb dX8_fell_4 rfl (lv_at hl 1 rfl) ?_
  refine xk_i (wr := [(sw_8 h0 q n1), (sw_in cT (q 14) 16 f2)]) (xr_VN (n := 1) (As := [.int x]) (rest := []) ⟨hx, hb, hml, hown, htg⟩ hK hN hP hD hS hA [1] rfl (by decide) (g_hasStrip l D cT _ ((q 2)) (fun k => [(q 12), (q 13), (q 14), (q 15), (q 16), (q 17)].getD k 0) (p0) (p1) (p2) (p3) (p4) (p5) (p6) (p7) (p8) (p9) (x)) ni_666 wi_668 wi_18 wi_123 wi_669 rfl rfl rfl ⟨rfl, by decide +kernel⟩ ⟨Nat.le_of_ble_eq_true rfl, Nat.le_of_ble_eq_true rfl⟩ rfl hl.1 rfl (Nat.le_of_ble_eq_true rfl) dX8_fell_5 ⟨Nat.le_of_ble_eq_true rfl, Nat.le_of_ble_eq_true rfl⟩) hP hD hS hA [1] [0, 2] rfl rfl (by decide) (by decide) (fun r_2 u_1 H locs hwr_2 hP hD hS => ?_)
  obtain ⟨hP, hD⟩ : PD D A [(sw_8 h0 q n1), (sw_in cT (q 14) 16 f2), (sw_3 (q 2) p0 p1 p2 p3 p4 p5 p6 p7 p8 p9 (q 12) (q 13) (q 14) (q 15) (q 16) (q 17))] _ := ⟨hP, hD⟩
  have hwr_2 : r_2 = if 0 ≤ x.toInt ∧ x.toInt < p0.toInt then 1 else 0 := hwr_2
  refine lv_if_ne (tgt := 14) hx hb dX8_fell_8 (by decide) (fun c_3 => ?_) (fun c_3 => ?_)
  · have ic_3 := if1 hwr_2 c_3
    refine lv_aload_n hx hb dX8_fell_14 rfl (lv_at hl 0 rfl) ?_
    refine va_get (D := D) (ci := 8) (v := .ref (q 2)) (C := RX8) (T := TX8) (N := 13) hx hb htg gRX8 hown hK hP 0 rfl rfl 3 (by decide) (htg _ wi_470) (fun _ h9 => h9) rfl dX8_fell_15 ?_
    refine va_getN (D := D) (ci := 3) (v := .ref (q 14)) (C := RX3) (T := TX3) (N := 16) hx hb htg gRX3 hown hK hP 2 rfl rfl 12 (by decide) (va_Nw.use rfl (hN.1 _ ni_207)) (fun _ h9 => h9) rfl dX8_fell_18 ?_
    refine lv_iload_n hx hb dX8_fell_21 rfl (lv_at hl 1 rfl) ?_
    refine va_iald hx hb hK hP 1 0 rfl rfl (vp_in_iff.mpr (by omega)) dX8_fell_22 ?_
    refine lv_topi (fun z_4 ez_4 => ?_)
    have nz_4 : z_4.toInt = (f2 x.toInt.toNat).toInt := by rw [ez_4]; rfl
    refine lv_istore_n (lv' := [(2, .int z_4), (0, .ref h0), (1, .int x)]) hx hb dX8_fell_23 rfl hl (by decide) rfl (fun ls hl => ?_)
    refine lv_iload_n hx hb dX8_fell_24 rfl (lv_at hl 0 rfl) ?_
    refine lv_if_ne (tgt := 31) hx hb dX8_fell_25 (by decide) (fun c_5 => ?_) (fun c_5 => ?_)
    · have ic_5 : ¬ z_4.toInt = 0 := ine c_5 (rfl) (by decide)
      refine lv_aload_n hx hb dX8_fell_31 rfl (lv_at hl 1 rfl) ?_
      refine va_get (D := D) (ci := 8) (v := .ref (q 2)) (C := RX8) (T := TX8) (N := 13) hx hb htg gRX8 hown hK hP 0 rfl rfl 3 (by decide) (htg _ wi_470) (fun _ h9 => h9) rfl dX8_fell_32 ?_
      refine va_getN (D := D) (ci := 3) (v := .ref (q 14)) (C := RX3) (T := TX3) (N := 16) hx hb htg gRX3 hown hK hP 2 rfl rfl 12 (by decide) (va_Nw.use rfl (hN.1 _ ni_207)) (fun _ h9 => h9) rfl dX8_fell_35 ?_
      refine lv_iload_n hx hb dX8_fell_38 rfl (lv_at hl 2 rfl) ?_
      refine lv_iconst (v := 0) hx hb dX8_fell_39 (by decide) ?_
      refine va_iast hx hb hK hP hD hS 1 0 rfl rfl (vp_in_iff.mpr (by omega)) dX8_fell_40 (fun H locs hP hD hS => ?_)
      obtain ⟨f_6, ef_6, hP, hD⟩ : ∃ f_6 : Nat → Int32, f_6 = upd (f2) (x : Int32).toNatClampNeg 0 ∧ PD D A [(sw_8 h0 q n1), (sw_in cT (q 14) 16 f_6), (sw_3 (q 2) p0 p1 p2 p3 p4 p5 p6 p7 p8 p9 (q 12) (q 13) (q 14) (q 15) (q 16) (q 17))] H := ⟨_, rfl, hP, hD⟩
      refine lv_iload_n hx hb dX8_fell_41 rfl (lv_at hl 0 rfl) ?_
      exact x_iret hx hb hr hlk hP hD hS [0, 2, 1] ((f_6)) rfl (by decide) ⟨(by (try dsimp only); omega), (fun j => by (try dsimp only); rw [ef_6]; by_cases h9 : (j : Int) = x.toInt ∧ x.toInt < p0.toInt; rw [if_pos h9, upd_at2 (by omega)]; rw [if_neg h9, upd_no (by omega) (by omega)]), trivial⟩ (by decide) (by decide) dX8_fell_42
    · have ic_5 : z_4.toInt = 0 := ieq c_5 (rfl) (by decide)
      refine lv_bipush (v := (-5)) hx hb dX8_fell_28 (by decide) ?_
      exact x_iret hx hb hr hlk hP hD hS [0, 2, 1] ((f2)) rfl (by decide) ⟨(by (try dsimp only); omega), (fun j => by (try dsimp only); by_cases h9 : (j : Int) = x.toInt ∧ x.toInt < p0.toInt; rw [if_pos h9]; exact i32_is (by rw [show j = x.toInt.toNat from by omega, ti_0]; omega); rw [if_neg h9]), trivial⟩ (by decide) (by decide) dX8_fell_30
  · have ic_3 := if0 hwr_2 c_3
    refine lv_bipush (v := (-2)) hx hb dX8_fell_11 (by decide) ?_
    exact x_iret hx hb hr hlk hP hD hS [0, 2, 1] ((f2)) rfl (by decide) ⟨(by (try dsimp only); omega), (fun j => by (try dsimp only); rw [if_neg (by omega)]), trivial⟩ (by decide) (by decide) dX8_fell_13
set_option maxHeartbeats 4000000 in
set_option maxRecDepth 100000 in
theorem g_k_walkX (l : Launch) (D : va_G) (cT : Nat → ClassId) (sz : Nat) (h0 : Nat) (q : Nat → Nat) (n1 : Int32) (hn1 : 0 ≤ n1.toInt ∧ n1.toInt ≤ 900) (p0 : Int32) (p1 : Int32) (p2 : Int32) (p3 : Int32) (p4 : Int32) (p5 : Int32) (p6 : Int32) (p7 : Int32) (p8 : Int32) (p9 : Int32) (hs : 0 ≤ p0.toInt ∧ p0.toInt ≤ 16) (hat : 0 ≤ p3.toInt ∧ p3.toInt ≤ 15) (x : Int32) (y : Int32) (z : Int32) (f1 : Nat → Int32) : Met l yX8_walk (wsc yX8_walk cX8_walk 4 (some .int)) { frames := 3, cells := 0, slots := 0, locals := 121 } (va_Pc [.ref h0, .int x, .int y, .int z] (PX D cT sz [(sw_8 h0 q n1), (sw_3 (q 2) p0 p1 p2 p3 p4 p5 p6 p7 p8 p9 (q 12) (q 13) (q 14) (q 15) (q 16) (q 17)), (sw_in cT (q 13) 16 f1)])) (va_Qi (fun (r : Int32) (u : (Nat → Int32)) => (r.toInt = wkA p0.toInt x.toInt y.toInt z.toInt (f1 x.toInt.toNat).toInt (f1 y.toInt.toNat + z).toInt) ∧ (r.toInt = 0 → ∀ j : Nat, u j = walkF f1 x.toInt.toNat y.toInt.toNat z j) ∧ (¬ r.toInt = 0 → ∀ j : Nat, u j = f1 j) ∧ (True)) (fun u t => RW D (va_A [(sw_8 h0 q n1), (sw_3 (q 2) p0 p1 p2 p3 p4 p5 p6 p7 p8 p9 (q 12) (q 13) (q 14) (q 15) (q 16) (q 17)), (sw_in cT (q 13) 16 f1)] sz) ((fun u : (Nat → Int32) => [(sw_8 h0 q n1), (sw_3 (q 2) p0 p1 p2 p3 p4 p5 p6 p7 p8 p9 (q 12) (q 13) (q 14) (q 15) (q 16) (q 17)), (sw_in cT (q 13) 16 u)]) u) t) (va_A [(sw_8 h0 q n1), (sw_3 (q 2) p0 p1 p2 p3 p4 p5 p6 p7 p8 p9 (q 12) (q 13) (q 14) (q 15) (q 16) (q 17)), (sw_in cT (q 13) 16 f1)] sz)) 0 0 (va_A [(sw_8 h0 q n1), (sw_3 (q 2) p0 p1 p2 p3 p4 p5 p6 p7 p8 p9 (q 12) (q 13) (q 14) (q 15) (q 16) (q 17)), (sw_in cT (q 13) 16 f1)] sz) := by
  refine m_of (y := yX8_walk) (cc := cX8_walk) (nL := 4) (ret := (some .int)) (D := D) (cT := cT) (av := [.ref h0, .int x, .int y, .int z]) (wi := [(sw_8 h0 q n1), (sw_3 (q 2) p0 p1 p2 p3 p4 p5 p6 p7 p8 p9 (q 12) (q 13) (q 14) (q 15) (q 16) (q 17)), (sw_in cT (q 13) 16 f1)]) (fun A => va_Qi (fun (r : Int32) (u : (Nat → Int32)) => (r.toInt = wkA p0.toInt x.toInt y.toInt z.toInt (f1 x.toInt.toNat).toInt (f1 y.toInt.toNat + z).toInt) ∧ (r.toInt = 0 → ∀ j : Nat, u j = walkF f1 x.toInt.toNat y.toInt.toNat z j) ∧ (¬ r.toInt = 0 → ∀ j : Nat, u j = f1 j) ∧ (True)) (fun u t => RW D A ((fun u : (Nat → Int32) => [(sw_8 h0 q n1), (sw_3 (q 2) p0 p1 p2 p3 p4 p5 p6 p7 p8 p9 (q 12) (q 13) (q 14) (q 15) (q 16) (q 17)), (sw_in cT (q 13) 16 u)]) u) t) A) (by decide) (Nat.le_of_ble_eq_true rfl) ?_
  intro p e s m below meth c A hx hb hml hown htg hK hN hr hlk hnm hsz hP hD hS hA ls hl
  have hown : s.vm.findClass RX8 = some m.cls := hown
  have hl : lv_has ls 4 [(0, .ref h0), (1, .int x), (2, .int y), (3, .int z)] := hl
  have t9_m2 : ((-2) : Int32).toInt = (-2) := by decide
  have t9_m3 : ((-3) : Int32).toInt = (-3) := by decide
  have t9_m4 : ((-4) : Int32).toInt = (-4) := by decide
  have t9_0 : (0 : Int32).toInt = 0 := by decide
  have t9_9 : (9 : Int32).toInt = 9 := by decide
  refine lv_aload_n hx hb dX8_walk_0 rfl (lv_at hl 0 rfl) ?_
  refine va_get (D := D) (ci := 8) (v := .ref (q 2)) (C := RX8) (T := TX8) (N := 13) hx hb htg gRX8 hown hK hP 0 rfl rfl 3 (by decide) (htg _ wi_470) (fun _ h9 => h9) rfl dX8_walk_1 ?_
  refine lv_iload_n hx hb dX8_walk_4 rfl (lv_at hl 1 rfl) ?_
  refine xk_i (wr := [(sw_8 h0 q n1), (sw_in cT (q 13) 16 f1)]) (xr_VN (n := 1) (As := [.int x]) (rest := []) ⟨hx, hb, hml, hown, htg⟩ hK hN hP hD hS hA [1] rfl (by decide) (g_hasStrip l D cT _ ((q 2)) (fun k => [(q 12), (q 13), (q 14), (q 15), (q 16), (q 17)].getD k 0) (p0) (p1) (p2) (p3) (p4) (p5) (p6) (p7) (p8) (p9) (x)) ni_666 wi_668 wi_18 wi_123 wi_669 rfl rfl rfl ⟨rfl, by decide +kernel⟩ ⟨Nat.le_of_ble_eq_true rfl, Nat.le_of_ble_eq_true rfl⟩ rfl hl.1 rfl (Nat.le_of_ble_eq_true rfl) dX8_walk_5 ⟨Nat.le_of_ble_eq_true rfl, Nat.le_of_ble_eq_true rfl⟩) hP hD hS hA [1] [0, 2] rfl rfl (by decide) (by decide) (fun r_2 u_1 H locs hwr_2 hP hD hS => ?_)
  obtain ⟨hP, hD⟩ : PD D A [(sw_8 h0 q n1), (sw_in cT (q 13) 16 f1), (sw_3 (q 2) p0 p1 p2 p3 p4 p5 p6 p7 p8 p9 (q 12) (q 13) (q 14) (q 15) (q 16) (q 17))] _ := ⟨hP, hD⟩
  have hwr_2 : r_2 = if 0 ≤ x.toInt ∧ x.toInt < p0.toInt then 1 else 0 := hwr_2
  refine lv_if_eq (tgt := 22) hx hb dX8_walk_8 (by decide) (fun c_3 => ?_) (fun c_3 => ?_)
  · have ic_3 := if0 hwr_2 c_3
    refine lv_bipush (v := (-2)) hx hb dX8_walk_22 (by decide) ?_
    exact x_iret hx hb hr hlk hP hD hS [0, 2, 1] ((f1)) rfl (by decide) ⟨(by (try dsimp only); unfold wkA; (repeat (first | rw [if_pos (by omega)] | rw [if_neg (by omega)])); first | done | decide | omega), (fun h9 => absurd h9 (by decide)), (fun _ _ => rfl), trivial⟩ (by decide) (by decide) dX8_walk_24
  · have ic_3 := if1 hwr_2 c_3
    refine lv_aload_n hx hb dX8_walk_11 rfl (lv_at hl 0 rfl) ?_
    refine va_get (D := D) (ci := 8) (v := .ref (q 2)) (C := RX8) (T := TX8) (N := 13) hx hb htg gRX8 hown hK hP 0 rfl rfl 3 (by decide) (htg _ wi_470) (fun _ h9 => h9) rfl dX8_walk_12 ?_
    refine lv_iload_n hx hb dX8_walk_15 rfl (lv_at hl 2 rfl) ?_
    refine xk_i (wr := [(sw_8 h0 q n1), (sw_in cT (q 13) 16 f1)]) (xr_VN (n := 1) (As := [.int y]) (rest := []) ⟨hx, hb, hml, hown, htg⟩ hK hN hP hD hS hA [2] rfl (by decide) (g_hasStrip l D cT _ ((q 2)) (fun k => [(q 12), (q 13), (q 14), (q 15), (q 16), (q 17)].getD k 0) (p0) (p1) (p2) (p3) (p4) (p5) (p6) (p7) (p8) (p9) (y)) ni_666 wi_668 wi_18 wi_123 wi_669 rfl rfl rfl ⟨rfl, by decide +kernel⟩ ⟨Nat.le_of_ble_eq_true rfl, Nat.le_of_ble_eq_true rfl⟩ rfl hl.1 rfl (Nat.le_of_ble_eq_true rfl) dX8_walk_16 ⟨Nat.le_of_ble_eq_true rfl, Nat.le_of_ble_eq_true rfl⟩) hP hD hS hA [2] [0, 1] rfl rfl (by decide) (by decide) (fun r_5 u_4 H locs hwr_5 hP hD hS => ?_)
    obtain ⟨hP, hD⟩ : PD D A [(sw_8 h0 q n1), (sw_in cT (q 13) 16 f1), (sw_3 (q 2) p0 p1 p2 p3 p4 p5 p6 p7 p8 p9 (q 12) (q 13) (q 14) (q 15) (q 16) (q 17))] _ := ⟨hP, hD⟩
    have hwr_5 : r_5 = if 0 ≤ y.toInt ∧ y.toInt < p0.toInt then 1 else 0 := hwr_5
    refine lv_if_ne (tgt := 25) hx hb dX8_walk_19 (by decide) (fun c_6 => ?_) (fun c_6 => ?_)
    · have ic_6 := if1 hwr_5 c_6
      refine lv_iload_n hx hb dX8_walk_25 rfl (lv_at hl 3 rfl) ?_
      refine lv_if_lt (tgt := 42) hx hb dX8_walk_26 (by decide) (fun c_7 => ?_) (fun c_7 => ?_)
      · have ic_7 : z.toInt < 0 := ilt c_7 (rfl) (by decide)
        refine lv_bipush (v := (-3)) hx hb dX8_walk_42 (by decide) ?_
        exact x_iret hx hb hr hlk hP hD hS [0, 2, 1] ((f1)) rfl (by decide) ⟨(by (try dsimp only); unfold wkA; (repeat (first | rw [if_pos (by omega)] | rw [if_neg (by omega)])); first | done | decide | omega), (fun h9 => absurd h9 (by decide)), (fun _ _ => rfl), trivial⟩ (by decide) (by decide) dX8_walk_44
      · have ic_7 : 0 ≤ z.toInt := inlt c_7 (rfl) (by decide)
        refine lv_iload_n hx hb dX8_walk_29 rfl (lv_at hl 3 rfl) ?_
        refine lv_aload_n hx hb dX8_walk_30 rfl (lv_at hl 0 rfl) ?_
        refine va_get (D := D) (ci := 8) (v := .ref (q 2)) (C := RX8) (T := TX8) (N := 13) hx hb htg gRX8 hown hK hP 0 rfl rfl 3 (by decide) (htg _ wi_470) (fun _ h9 => h9) rfl dX8_walk_31 ?_
        refine va_getN (D := D) (ci := 3) (v := .ref (q 13)) (C := RX3) (T := TX3) (N := 16) hx hb htg gRX3 hown hK hP 2 rfl rfl 11 (by decide) (va_Nw.use rfl (hN.1 _ ni_205)) (fun _ h9 => h9) rfl dX8_walk_34 ?_
        refine lv_iload_n hx hb dX8_walk_37 rfl (lv_at hl 1 rfl) ?_
        refine va_iald hx hb hK hP 1 0 rfl rfl (vp_in_iff.mpr (by omega)) dX8_walk_38 ?_
        refine lv_topi (fun z_8 ez_8 => ?_)
        have nz_8 : z_8.toInt = (f1 x.toInt.toNat).toInt := by rw [ez_8]; rfl
        refine lv_icmp_le (tgt := 45) hx hb dX8_walk_39 (by decide) (fun c_9 => ?_) (fun c_9 => ?_)
        · have ic_9 : z.toInt ≤ z_8.toInt := ile c_9 (rfl) (rfl)
          refine lv_iload_n hx hb dX8_walk_45 rfl (lv_at hl 1 rfl) ?_
          refine lv_iload_n hx hb dX8_walk_46 rfl (lv_at hl 2 rfl) ?_
          refine lv_icmp_eq (tgt := 69) hx hb dX8_walk_47 (by decide) (fun c_10 => ?_) (fun c_10 => ?_)
          · have ic_10 : x.toInt = y.toInt := ieq c_10 (rfl) (rfl)
            refine lv_aload_n hx hb dX8_walk_69 rfl (lv_at hl 0 rfl) ?_
            refine va_get (D := D) (ci := 8) (v := .ref (q 2)) (C := RX8) (T := TX8) (N := 13) hx hb htg gRX8 hown hK hP 0 rfl rfl 3 (by decide) (htg _ wi_470) (fun _ h9 => h9) rfl dX8_walk_70 ?_
            refine va_getN (D := D) (ci := 3) (v := .ref (q 13)) (C := RX3) (T := TX3) (N := 16) hx hb htg gRX3 hown hK hP 2 rfl rfl 11 (by decide) (va_Nw.use rfl (hN.1 _ ni_205)) (fun _ h9 => h9) rfl dX8_walk_73 ?_
            refine lv_iload_n hx hb dX8_walk_76 rfl (lv_at hl 1 rfl) ?_
            refine lv_dup2_11 hx hb dX8_walk_77 rfl rfl ?_
            refine va_iald hx hb hK hP 1 0 rfl rfl (vp_in_iff.mpr (by omega)) dX8_walk_78 ?_
            refine lv_topi (fun z_11 ez_11 => ?_)
            refine lv_iload_n hx hb dX8_walk_79 rfl (lv_at hl 3 rfl) ?_
            refine lv_isub hx hb dX8_walk_80 ?_
            refine lv_topi (fun z_12 ez_12 => ?_)
            refine va_iast hx hb hK hP hD hS 1 0 rfl rfl (vp_in_iff.mpr (by omega)) dX8_walk_81 (fun H locs hP hD hS => ?_)
            obtain ⟨f_13, ef_13, hP, hD⟩ : ∃ f_13 : Nat → Int32, f_13 = upd (f1) (x : Int32).toNatClampNeg z_12 ∧ PD D A [(sw_8 h0 q n1), (sw_in cT (q 13) 16 f_13), (sw_3 (q 2) p0 p1 p2 p3 p4 p5 p6 p7 p8 p9 (q 12) (q 13) (q 14) (q 15) (q 16) (q 17))] H := ⟨_, rfl, hP, hD⟩
            refine lv_aload_n hx hb dX8_walk_82 rfl (lv_at hl 0 rfl) ?_
            refine va_get (D := D) (ci := 8) (v := .ref (q 2)) (C := RX8) (T := TX8) (N := 13) hx hb htg gRX8 hown hK hP 0 rfl rfl 3 (by decide) (htg _ wi_470) (fun _ h9 => h9) rfl dX8_walk_83 ?_
            refine va_getN (D := D) (ci := 3) (v := .ref (q 13)) (C := RX3) (T := TX3) (N := 16) hx hb htg gRX3 hown hK hP 2 rfl rfl 11 (by decide) (va_Nw.use rfl (hN.1 _ ni_205)) (fun _ h9 => h9) rfl dX8_walk_86 ?_
            refine lv_iload_n hx hb dX8_walk_89 rfl (lv_at hl 2 rfl) ?_
            refine lv_dup2_11 hx hb dX8_walk_90 rfl rfl ?_
            refine va_iald hx hb hK hP 1 0 rfl rfl (vp_in_iff.mpr (by omega)) dX8_walk_91 ?_
            refine lv_topi (fun z_14 ez_14 => ?_)
            refine lv_iload_n hx hb dX8_walk_92 rfl (lv_at hl 3 rfl) ?_
            refine lv_iadd hx hb dX8_walk_93 ?_
            refine lv_topi (fun z_15 ez_15 => ?_)
            refine va_iast hx hb hK hP hD hS 1 0 rfl rfl (vp_in_iff.mpr (by omega)) dX8_walk_94 (fun H locs hP hD hS => ?_)
            obtain ⟨f_16, ef_16, hP, hD⟩ : ∃ f_16 : Nat → Int32, f_16 = upd (f_13) (y : Int32).toNatClampNeg z_15 ∧ PD D A [(sw_8 h0 q n1), (sw_in cT (q 13) 16 f_16), (sw_3 (q 2) p0 p1 p2 p3 p4 p5 p6 p7 p8 p9 (q 12) (q 13) (q 14) (q 15) (q 16) (q 17))] H := ⟨_, rfl, hP, hD⟩
            refine lv_iconst (v := 0) hx hb dX8_walk_95 (by decide) ?_
            exact x_iret hx hb hr hlk hP hD hS [0, 2, 1] ((f_16)) rfl (by decide) ⟨(by (try dsimp only); unfold wkA; (repeat (first | rw [if_pos (by omega)] | rw [if_neg (by omega)])); first | done | decide | omega), (fun _ j => by (try dsimp only); rw [ef_16, ez_15, ez_14, ef_13, ez_12, ez_11]; rfl), (fun h9 => absurd (by decide) h9), trivial⟩ (by decide) (by decide) dX8_walk_96
          · have ic_10 : ¬ x.toInt = y.toInt := ine c_10 (rfl) (rfl)
            refine lv_aload_n hx hb dX8_walk_50 rfl (lv_at hl 0 rfl) ?_
            refine va_get (D := D) (ci := 8) (v := .ref (q 2)) (C := RX8) (T := TX8) (N := 13) hx hb htg gRX8 hown hK hP 0 rfl rfl 3 (by decide) (htg _ wi_470) (fun _ h9 => h9) rfl dX8_walk_51 ?_
            refine va_getN (D := D) (ci := 3) (v := .ref (q 13)) (C := RX3) (T := TX3) (N := 16) hx hb htg gRX3 hown hK hP 2 rfl rfl 11 (by decide) (va_Nw.use rfl (hN.1 _ ni_205)) (fun _ h9 => h9) rfl dX8_walk_54 ?_
            refine lv_iload_n hx hb dX8_walk_57 rfl (lv_at hl 2 rfl) ?_
            refine va_iald hx hb hK hP 1 0 rfl rfl (vp_in_iff.mpr (by omega)) dX8_walk_58 ?_
            refine lv_topi (fun z_17 ez_17 => ?_)
            refine lv_iload_n hx hb dX8_walk_59 rfl (lv_at hl 3 rfl) ?_
            refine lv_iadd hx hb dX8_walk_60 ?_
            refine lv_topi (fun z_18 ez_18 => ?_)
            have nz_18 : z_18.toInt = (f1 y.toInt.toNat + z).toInt := by rw [ez_18, ez_17]; rfl
            refine lv_bipush (v := 9) hx hb dX8_walk_61 (by decide) ?_
            refine lv_icmp_le (tgt := 69) hx hb dX8_walk_63 (by decide) (fun c_19 => ?_) (fun c_19 => ?_)
            · have ic_19 : z_18.toInt ≤ 9 := ile c_19 (rfl) (by decide)
              refine lv_aload_n hx hb dX8_walk_69 rfl (lv_at hl 0 rfl) ?_
              refine va_get (D := D) (ci := 8) (v := .ref (q 2)) (C := RX8) (T := TX8) (N := 13) hx hb htg gRX8 hown hK hP 0 rfl rfl 3 (by decide) (htg _ wi_470) (fun _ h9 => h9) rfl dX8_walk_70 ?_
              refine va_getN (D := D) (ci := 3) (v := .ref (q 13)) (C := RX3) (T := TX3) (N := 16) hx hb htg gRX3 hown hK hP 2 rfl rfl 11 (by decide) (va_Nw.use rfl (hN.1 _ ni_205)) (fun _ h9 => h9) rfl dX8_walk_73 ?_
              refine lv_iload_n hx hb dX8_walk_76 rfl (lv_at hl 1 rfl) ?_
              refine lv_dup2_11 hx hb dX8_walk_77 rfl rfl ?_
              refine va_iald hx hb hK hP 1 0 rfl rfl (vp_in_iff.mpr (by omega)) dX8_walk_78 ?_
              refine lv_topi (fun z_20 ez_20 => ?_)
              refine lv_iload_n hx hb dX8_walk_79 rfl (lv_at hl 3 rfl) ?_
              refine lv_isub hx hb dX8_walk_80 ?_
              refine lv_topi (fun z_21 ez_21 => ?_)
              refine va_iast hx hb hK hP hD hS 1 0 rfl rfl (vp_in_iff.mpr (by omega)) dX8_walk_81 (fun H locs hP hD hS => ?_)
              obtain ⟨f_22, ef_22, hP, hD⟩ : ∃ f_22 : Nat → Int32, f_22 = upd (f1) (x : Int32).toNatClampNeg z_21 ∧ PD D A [(sw_8 h0 q n1), (sw_in cT (q 13) 16 f_22), (sw_3 (q 2) p0 p1 p2 p3 p4 p5 p6 p7 p8 p9 (q 12) (q 13) (q 14) (q 15) (q 16) (q 17))] H := ⟨_, rfl, hP, hD⟩
              refine lv_aload_n hx hb dX8_walk_82 rfl (lv_at hl 0 rfl) ?_
              refine va_get (D := D) (ci := 8) (v := .ref (q 2)) (C := RX8) (T := TX8) (N := 13) hx hb htg gRX8 hown hK hP 0 rfl rfl 3 (by decide) (htg _ wi_470) (fun _ h9 => h9) rfl dX8_walk_83 ?_
              refine va_getN (D := D) (ci := 3) (v := .ref (q 13)) (C := RX3) (T := TX3) (N := 16) hx hb htg gRX3 hown hK hP 2 rfl rfl 11 (by decide) (va_Nw.use rfl (hN.1 _ ni_205)) (fun _ h9 => h9) rfl dX8_walk_86 ?_
              refine lv_iload_n hx hb dX8_walk_89 rfl (lv_at hl 2 rfl) ?_
              refine lv_dup2_11 hx hb dX8_walk_90 rfl rfl ?_
              refine va_iald hx hb hK hP 1 0 rfl rfl (vp_in_iff.mpr (by omega)) dX8_walk_91 ?_
              refine lv_topi (fun z_23 ez_23 => ?_)
              refine lv_iload_n hx hb dX8_walk_92 rfl (lv_at hl 3 rfl) ?_
              refine lv_iadd hx hb dX8_walk_93 ?_
              refine lv_topi (fun z_24 ez_24 => ?_)
              refine va_iast hx hb hK hP hD hS 1 0 rfl rfl (vp_in_iff.mpr (by omega)) dX8_walk_94 (fun H locs hP hD hS => ?_)
              obtain ⟨f_25, ef_25, hP, hD⟩ : ∃ f_25 : Nat → Int32, f_25 = upd (f_22) (y : Int32).toNatClampNeg z_24 ∧ PD D A [(sw_8 h0 q n1), (sw_in cT (q 13) 16 f_25), (sw_3 (q 2) p0 p1 p2 p3 p4 p5 p6 p7 p8 p9 (q 12) (q 13) (q 14) (q 15) (q 16) (q 17))] H := ⟨_, rfl, hP, hD⟩
              refine lv_iconst (v := 0) hx hb dX8_walk_95 (by decide) ?_
              exact x_iret hx hb hr hlk hP hD hS [0, 2, 1] ((f_25)) rfl (by decide) ⟨(by (try dsimp only); unfold wkA; (repeat (first | rw [if_pos (by omega)] | rw [if_neg (by omega)])); first | done | decide | omega), (fun _ j => by (try dsimp only); rw [ef_25, ez_24, ez_23, ef_22, ez_21, ez_20]; rfl), (fun h9 => absurd (by decide) h9), trivial⟩ (by decide) (by decide) dX8_walk_96
            · have ic_19 : 9 < z_18.toInt := inle c_19 (rfl) (by decide)
              refine lv_bipush (v := (-4)) hx hb dX8_walk_66 (by decide) ?_
              exact x_iret hx hb hr hlk hP hD hS [0, 2, 1] ((f1)) rfl (by decide) ⟨(by (try dsimp only); unfold wkA; (repeat (first | rw [if_pos (by omega)] | rw [if_neg (by omega)])); first | done | decide | omega), (fun h9 => absurd h9 (by decide)), (fun _ _ => rfl), trivial⟩ (by decide) (by decide) dX8_walk_68
        · have ic_9 : z_8.toInt < z.toInt := inle c_9 (rfl) (rfl)
          refine lv_bipush (v := (-3)) hx hb dX8_walk_42 (by decide) ?_
          exact x_iret hx hb hr hlk hP hD hS [0, 2, 1] ((f1)) rfl (by decide) ⟨(by (try dsimp only); unfold wkA; (repeat (first | rw [if_pos (by omega)] | rw [if_neg (by omega)])); first | done | decide | omega), (fun h9 => absurd h9 (by decide)), (fun _ _ => rfl), trivial⟩ (by decide) (by decide) dX8_walk_44
    · have ic_6 := if0 hwr_5 c_6
      refine lv_bipush (v := (-2)) hx hb dX8_walk_22 (by decide) ?_
      exact x_iret hx hb hr hlk hP hD hS [0, 2, 1] ((f1)) rfl (by decide) ⟨(by (try dsimp only); unfold wkA; (repeat (first | rw [if_pos (by omega)] | rw [if_neg (by omega)])); first | done | decide | omega), (fun h9 => absurd h9 (by decide)), (fun _ _ => rfl), trivial⟩ (by decide) (by decide) dX8_walk_24
