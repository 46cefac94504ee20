set_option maxHeartbeats 4000000 in
set_option maxRecDepth 100000 in
theorem g_fillI6 (l : Launch) (D : va_G) (cT : Nat → ClassId) (sz : Nat) (b : Nat) (f : Nat → Int32) (v : Int32) : Met l yJ7_fill_53178 (wsc yJ7_fill_53178 cJ7_fill_53178 4 none) { frames := 2, cells := 0, slots := 0, locals := 100 } (va_Pc [.ref b, .int v] (PX D cT sz [(sw_in cT b 6 f)])) (va_Qv (fun (u : Unit) => True) (fun u t => RW D (va_A [(sw_in cT b 6 f)] sz) ((fun _ : Unit => [(sw_in cT b 6 (fillF (f) 6 (v)))]) u) t) (va_A [(sw_in cT b 6 f)] sz)) 0 0 (va_A [(sw_in cT b 6 f)] sz) := by
  refine m_of (y := yJ7_fill_53178) (cc := cJ7_fill_53178) (nL := 4) (ret := none) (D := D) (cT := cT) (av := [.ref b, .int v]) (wi := [(sw_in cT b 6 f)]) (fun A => va_Qv (fun (u : Unit) => True) (fun u t => RW D A ((fun _ : Unit => [(sw_in cT b 6 (fillF (f) 6 (v)))]) u) t) A) (by decide) (Nat.le_of_ble_eq_true rfl) ?_
  intro p e s m below meth c A hx hb hml hown htg hK hN hr hlk hnm hsz hP hD hS hA ls hl
  have hown : s.vm.findClass RJ7 = some m.cls := hown
  have hl : lv_has ls 4 [(0, .ref b), (1, .int v)] := hl
  obtain ⟨hP, hD⟩ : PD D A [(sw_in cT b 6 (fillF (f) 0 (v)))] _ := ⟨hP, hD⟩
  refine lv_iconst (v := 0) hx hb dJ7_fill_53178_0 (by decide) ?_
  refine lv_istore_n (lv' := [(2, .int 0), (0, .ref b), (1, .int v)]) hx hb dJ7_fill_53178_1 rfl hl (by decide) rfl (fun ls hl => ?_)
  refine lv_aload_n hx hb dJ7_fill_53178_2 rfl (lv_at hl 1 rfl) ?_
  refine va_alen (v := 6) hx hb hK hP 0 0 rfl rfl rfl dJ7_fill_53178_3 ?_
  refine lv_istore_n (lv' := [(3, .int 6), (2, .int 0), (0, .ref b), (1, .int v)]) hx hb dJ7_fill_53178_4 rfl hl (by decide) rfl (fun ls hl => ?_)
  refine (fun (key : ∀ (n9_5 : Nat) (k9_5 : Nat)  (H : Heap) (locs : List Loc) (ls : Array Slot), (k9_5 : Int) ≤ 6 → 6 < (k9_5 : Int) + n9_5 → PD D A [(sw_in cT b 6 (fillF (f) k9_5 (v)))] H → va_S A s.heap H locs → lv_has ls 4 [(3, .int 6), (2, .int (nI k9_5)), (0, .ref b), (1, .int v)] → W p l e _ s m _ below meth c H locs _ _ _ (F0 m 5 ls [])) => key (Int.toNat (6 - 0) + 1) 0  _ _ _ (by omega) (by omega)  ⟨hP, hD⟩ hS (lv_sub hl [0, 1, 2, 3] rfl)) ?_
  intro n9_5
  induction n9_5 with
  | zero => intro k9_5  H locs ls hq1 hq2; exact absurd hq2 (by omega)
  | succ n9_5 ih_5 =>
    intro k9_5  H locs ls hq1_5 hq2_5  hPD hS hl
    obtain ⟨hP, hD⟩ := hPD
    have hk9_5 : (nI k9_5).toInt = (k9_5 : Int) := nI_toInt (by omega)
    refine lv_iload_n hx hb dJ7_fill_53178_5 rfl (lv_at hl 1 rfl) ?_
    refine lv_iload_n hx hb dJ7_fill_53178_6 rfl (lv_at hl 0 rfl) ?_
    refine lv_icmp_ge (tgt := 20) hx hb dJ7_fill_53178_7 (by decide) (fun c_1 => ?_) (fun c_1 => ?_)
    · have ic_1 : 6 ≤ ((k9_5 : Nat) : Int) := ile c_1 (by decide) (nI_toInt (by omega))
      have e8 : k9_5 = 6 := by omega
      subst e8
      exact x_vret hx hb hr hlk hP hD hS [0] (()) rfl (by decide) trivial (by decide) (by decide) dJ7_fill_53178_20
    · have ic_1 : ((k9_5 : Nat) : Int) < 6 := inle c_1 (by decide) (nI_toInt (by omega))
      refine lv_aload_n hx hb dJ7_fill_53178_10 rfl (lv_at hl 2 rfl) ?_
      refine lv_iload_n hx hb dJ7_fill_53178_11 rfl (lv_at hl 1 rfl) ?_
      refine lv_iload_n hx hb dJ7_fill_53178_12 rfl (lv_at hl 3 rfl) ?_
      refine va_iast hx hb hK hP hD hS 0 0 rfl rfl (vp_in_nI (by omega) (by omega)) dJ7_fill_53178_13 (fun H locs hP hD hS => ?_)
      have e9 : upd (fillF (f) k9_5 (v)) (nI k9_5).toNatClampNeg (v) = fillF (f) (k9_5 + 1) (v) := by rw [nI_clamp (by omega)]; exact fillF_s (f) k9_5 (v)
      have hP : va_P D classes [(sw_in cT b 6 (fillF (f) (k9_5 + 1) (v)))] H := by rw [← e9]; exact hP
      have hD : va_D A [(sw_in cT b 6 (fillF (f) (k9_5 + 1) (v)))] := by rw [← e9]; exact hD
      refine lv_iinc (v := (nI (k9_5 + 1))) (lv' := [(2, .int (nI (k9_5 + 1))), (3, .int 6), (0, .ref b), (1, .int v)]) hx hb dJ7_fill_53178_14 hl (k := 1) rfl (by exact nI_1 (k9_5)) (by decide) rfl (fun ls hl => ?_)
      refine lv_goto (tgt := 5) hx hb dJ7_fill_53178_17 (by decide) ?_
      exact ih_5 (k9_5 + 1)  _ _ _ (by omega) (by omega)  ⟨hP.sub [0] rfl, hD.sub [0] (by decide) rfl⟩ hS (lv_sub hl [1, 0, 2, 3] rfl)
set_option maxHeartbeats 4000000 in
set_option maxRecDepth 100000 in
theorem g_fillJ40 (l : Launch) (D : va_G) (cT : Nat → ClassId) (sz : Nat) (b : Nat) (f : Nat → Int64) (v : Int64) : Met l yJ7_fill_d0a16 (wsc yJ7_fill_d0a16 cJ7_fill_d0a16 5 none) { frames := 2, cells := 0, slots := 0, locals := 100 } (va_Pc [.ref b, .long v] (PX D cT sz [(sw_lo cT b 40 f)])) (va_Qv (fun (u : Unit) => True) (fun u t => RW D (va_A [(sw_lo cT b 40 f)] sz) ((fun _ : Unit => [(sw_lo cT b 40 (fillF (f) 40 (v)))]) u) t) (va_A [(sw_lo cT b 40 f)] sz)) 0 0 (va_A [(sw_lo cT b 40 f)] sz) := by
  refine m_of (y := yJ7_fill_d0a16) (cc := cJ7_fill_d0a16) (nL := 5) (ret := none) (D := D) (cT := cT) (av := [.ref b, .long v]) (wi := [(sw_lo cT b 40 f)]) (fun A => va_Qv (fun (u : Unit) => True) (fun u t => RW D A ((fun _ : Unit => [(sw_lo cT b 40 (fillF (f) 40 (v)))]) u) t) A) (by decide) (Nat.le_of_ble_eq_true rfl) ?_
  intro p e s m below meth c A hx hb hml hown htg hK hN hr hlk hnm hsz hP hD hS hA ls hl
  have hown : s.vm.findClass RJ7 = some m.cls := hown
  have hl : lv_has ls 5 [(0, .ref b), (1, .long v)] := hl
  obtain ⟨hP, hD⟩ : PD D A [(sw_lo cT b 40 (fillF (f) 0 (v)))] _ := ⟨hP, hD⟩
  refine lv_iconst (v := 0) hx hb dJ7_fill_d0a16_0 (by decide) ?_
  refine lv_istore_n (lv' := [(3, .int 0), (0, .ref b), (1, .long v)]) hx hb dJ7_fill_d0a16_1 rfl hl (by decide) rfl (fun ls hl => ?_)
  refine lv_aload_n hx hb dJ7_fill_d0a16_2 rfl (lv_at hl 1 rfl) ?_
  refine va_alen (v := 40) hx hb hK hP 0 1 rfl rfl rfl dJ7_fill_d0a16_3 ?_
  refine lv_istore (lv' := [(4, .int 40), (3, .int 0), (0, .ref b), (1, .long v)]) hx hb dJ7_fill_d0a16_4 hl (by decide) rfl (fun ls hl => ?_)
  refine (fun (key : ∀ (n9_6 : Nat) (k9_6 : Nat)  (H : Heap) (locs : List Loc) (ls : Array Slot), (k9_6 : Int) ≤ 40 → 40 < (k9_6 : Int) + n9_6 → PD D A [(sw_lo cT b 40 (fillF (f) k9_6 (v)))] H → va_S A s.heap H locs → lv_has ls 5 [(4, .int 40), (3, .int (nI k9_6)), (0, .ref b), (1, .long v)] → W p l e _ s m _ below meth c H locs _ _ _ (F0 m 6 ls [])) => key (Int.toNat (40 - 0) + 1) 0  _ _ _ (by omega) (by omega)  ⟨hP, hD⟩ hS (lv_sub hl [0, 1, 2, 3] rfl)) ?_
  intro n9_6
  induction n9_6 with
  | zero => intro k9_6  H locs ls hq1 hq2; exact absurd hq2 (by omega)
  | succ n9_6 ih_6 =>
    intro k9_6  H locs ls hq1_6 hq2_6  hPD hS hl
    obtain ⟨hP, hD⟩ := hPD
    have hk9_6 : (nI k9_6).toInt = (k9_6 : Int) := nI_toInt (by omega)
    refine lv_iload_n hx hb dJ7_fill_d0a16_6 rfl (lv_at hl 1 rfl) ?_
    refine lv_iload hx hb dJ7_fill_d0a16_7 (lv_at hl 0 rfl) ?_
    refine lv_icmp_ge (tgt := 22) hx hb dJ7_fill_d0a16_9 (by decide) (fun c_1 => ?_) (fun c_1 => ?_)
    · have ic_1 : 40 ≤ ((k9_6 : Nat) : Int) := ile c_1 (by decide) (nI_toInt (by omega))
      have e8 : k9_6 = 40 := by omega
      subst e8
      exact x_vret hx hb hr hlk hP hD hS [0] (()) rfl (by decide) trivial (by decide) (by decide) dJ7_fill_d0a16_22
    · have ic_1 : ((k9_6 : Nat) : Int) < 40 := inle c_1 (by decide) (nI_toInt (by omega))
      refine lv_aload_n hx hb dJ7_fill_d0a16_12 rfl (lv_at hl 2 rfl) ?_
      refine lv_iload_n hx hb dJ7_fill_d0a16_13 rfl (lv_at hl 1 rfl) ?_
      refine lv_lload_n hx hb dJ7_fill_d0a16_14 rfl (lv_at hl 3 rfl) ?_
      refine va_last hx hb hK hP hD hS 0 1 rfl rfl (vp_in_nI (by omega) (by omega)) dJ7_fill_d0a16_15 (fun H locs hP hD hS => ?_)
      have e9 : vp_updL (fillF (f) k9_6 (v)) (nI k9_6).toNatClampNeg (v) = fillF (f) (k9_6 + 1) (v) := by rw [nI_clamp (by omega)]; exact fillF_sL (f) k9_6 (v)
      have hP : va_P D classes [(sw_lo cT b 40 (fillF (f) (k9_6 + 1) (v)))] H := by rw [← e9]; exact hP
      have hD : va_D A [(sw_lo cT b 40 (fillF (f) (k9_6 + 1) (v)))] := by rw [← e9]; exact hD
      refine lv_iinc (v := (nI (k9_6 + 1))) (lv' := [(3, .int (nI (k9_6 + 1))), (4, .int 40), (0, .ref b), (1, .long v)]) hx hb dJ7_fill_d0a16_16 hl (k := 1) rfl (by exact nI_1 (k9_6)) (by decide) rfl (fun ls hl => ?_)
      refine lv_goto (tgt := 6) hx hb dJ7_fill_d0a16_19 (by decide) ?_
      exact ih_6 (k9_6 + 1)  _ _ _ (by omega) (by omega)  ⟨hP.sub [0] rfl, hD.sub [0] (by decide) rfl⟩ hS (lv_sub hl [1, 0, 2, 3] rfl)
