set_option maxHeartbeats 4000000 in
set_option maxRecDepth 100000 in
theorem c_fillJ40 (l : Launch) (D : va_G) (cT : Nat → ClassId) (sz : Nat) (b : Nat) (f : Nat → Int64) (v : Int64) : Met l yJ7_fill_d0a16 (wsc yJ7_fill_d0a16 cJ7_fill_d0a16 5 none) { frames := 2, cells := 0, slots := 0, locals := 100 } (va_Pc [.ref b, .long v] (PX D cT sz [(b, .inl (cT 1, 40, .inr (.inl (f))))])) (va_Qv (fun (u : Unit) => True) (fun u t => RW D (va_A [(b, .inl (cT 1, 40, .inr (.inl (f))))] sz) ((fun _ : Unit => [(b, .inl (cT 1, 40, .inr (.inl (fillF (f) 40 (v)))))]) u) t) (va_A [(b, .inl (cT 1, 40, .inr (.inl (f))))] sz)) 0 0 (va_A [(b, .inl (cT 1, 40, .inr (.inl (f))))] sz) := by
  refine m_of (y := yJ7_fill_d0a16) (cc := cJ7_fill_d0a16) (nL := 5) (ret := none) (D := D) (cT := cT) (av := [.ref b, .long v]) (wi := [(b, .inl (cT 1, 40, .inr (.inl (f))))]) (fun A => va_Qv (fun (u : Unit) => True) (fun u t => RW D A ((fun _ : Unit => [(b, .inl (cT 1, 40, .inr (.inl (fillF (f) 40 (v)))))]) u) t) A) (by decide) (Nat.le_of_ble_eq_true rfl) ?_
  intro p e s m below meth c A hx hb hml hown htg hK hN hr hlk hnm hsz hP hD hS hA ls hl
  have hown : s.vm.findClass RJ7 = some m.cls := hown
  have hl : lv_has ls 5 [(0, .ref b), (1, .long v)] := hl
  have hP : va_P D classes [(b, .inl (cT 1, 40, .inr (.inl (fillF (f) 0 (v)))))] _ := hP
  have hD : va_D A [(b, .inl (cT 1, 40, .inr (.inl (fillF (f) 0 (v)))))] := hD
  refine lv_iconst (v := 0) hx hb dJ7_fill_d0a16_0 (by decide) ?_
  refine lv_istore_n (lv' := [(3, .int 0), (0, .ref b), (1, .long v)]) hx hb dJ7_fill_d0a16_1 rfl hl (by decide) rfl (fun ls hl => ?_)
  refine lv_aload_n hx hb dJ7_fill_d0a16_2 rfl (lv_at hl 1 rfl) ?_
  refine va_alen (v := 40) hx hb hK hP 0 1 rfl rfl rfl dJ7_fill_d0a16_3 ?_
  refine lv_istore (lv' := [(4, .int 40), (3, .int 0), (0, .ref b), (1, .long v)]) hx hb dJ7_fill_d0a16_4 hl (by decide) rfl (fun ls hl => ?_)
  refine lv_iload_n hx hb dJ7_fill_d0a16_6 rfl (lv_at hl 1 rfl) ?_
  refine lv_iload hx hb dJ7_fill_d0a16_7 (lv_at hl 0 rfl) ?_
  refine lv_icmp_ge (tgt := 22) hx hb dJ7_fill_d0a16_9 (by decide) (fun h => absurd h (by decide)) (fun _ => ?_)
  refine lv_aload_n hx hb dJ7_fill_d0a16_12 rfl (lv_at hl 2 rfl) ?_
  refine lv_iload_n hx hb dJ7_fill_d0a16_13 rfl (lv_at hl 1 rfl) ?_
  refine lv_lload_n hx hb dJ7_fill_d0a16_14 rfl (lv_at hl 3 rfl) ?_
  refine va_last hx hb hK hP hD hS 0 1 rfl rfl (by unfold vp_in; decide) dJ7_fill_d0a16_15 (fun H locs hP hD hS => ?_)
  have e9 : vp_updL (fillF (f) 0 (v)) (0 : Int32).toNatClampNeg (v) = fillF (f) 1 (v) := fillF_sL (f) 0 (v)
  have hP : va_P D classes [(b, .inl (cT 1, 40, .inr (.inl (fillF (f) 1 (v)))))] H := by rw [← e9]; exact hP
  have hD : va_D A [(b, .inl (cT 1, 40, .inr (.inl (fillF (f) 1 (v)))))] := by rw [← e9]; exact hD
  refine lv_iinc (v := 1) (lv' := [(3, .int 1), (4, .int 40), (0, .ref b), (1, .long v)]) hx hb dJ7_fill_d0a16_16 hl (k := 1) rfl (by decide) (by decide) rfl (fun ls hl => ?_)
  refine lv_goto (tgt := 6) hx hb dJ7_fill_d0a16_19 (by decide) ?_
  refine lv_iload_n hx hb dJ7_fill_d0a16_6 rfl (lv_at hl 0 rfl) ?_
  refine lv_iload hx hb dJ7_fill_d0a16_7 (lv_at hl 1 rfl) ?_
  refine lv_icmp_ge (tgt := 22) hx hb dJ7_fill_d0a16_9 (by decide) (fun h => absurd h (by decide)) (fun _ => ?_)
  refine lv_aload_n hx hb dJ7_fill_d0a16_12 rfl (lv_at hl 2 rfl) ?_
  refine lv_iload_n hx hb dJ7_fill_d0a16_13 rfl (lv_at hl 0 rfl) ?_
  refine lv_lload_n hx hb dJ7_fill_d0a16_14 rfl (lv_at hl 3 rfl) ?_
  refine va_last hx hb hK hP hD hS 0 1 rfl rfl (by unfold vp_in; decide) dJ7_fill_d0a16_15 (fun H locs hP hD hS => ?_)
  have e9 : vp_updL (fillF (f) 1 (v)) (1 : Int32).toNatClampNeg (v) = fillF (f) 2 (v) := fillF_sL (f) 1 (v)
  have hP : va_P D classes [(b, .inl (cT 1, 40, .inr (.inl (fillF (f) 2 (v)))))] H := by rw [← e9]; exact hP
  have hD : va_D A [(b, .inl (cT 1, 40, .inr (.inl (fillF (f) 2 (v)))))] := by rw [← e9]; exact hD
  refine lv_iinc (v := 2) (lv' := [(3, .int 2), (4, .int 40), (0, .ref b), (1, .long v)]) hx hb dJ7_fill_d0a16_16 hl (k := 0) rfl (by decide) (by decide) rfl (fun ls hl => ?_)
  refine lv_goto (tgt := 6) hx hb dJ7_fill_d0a16_19 (by decide) ?_
  refine lv_iload_n hx hb dJ7_fill_d0a16_6 rfl (lv_at hl 0 rfl) ?_
  refine lv_iload hx hb dJ7_fill_d0a16_7 (lv_at hl 1 rfl) ?_
  refine lv_icmp_ge (tgt := 22) hx hb dJ7_fill_d0a16_9 (by decide) (fun h => absurd h (by decide)) (fun _ => ?_)
  refine lv_aload_n hx hb dJ7_fill_d0a16_12 rfl (lv_at hl 2 rfl) ?_
  refine lv_iload_n hx hb dJ7_fill_d0a16_13 rfl (lv_at hl 0 rfl) ?_
  refine lv_lload_n hx hb dJ7_fill_d0a16_14 rfl (lv_at hl 3 rfl) ?_
  refine va_last hx hb hK hP hD hS 0 1 rfl rfl (by unfold vp_in; decide) dJ7_fill_d0a16_15 (fun H locs hP hD hS => ?_)
  have e9 : vp_updL (fillF (f) 2 (v)) (2 : Int32).toNatClampNeg (v) = fillF (f) 3 (v) := fillF_sL (f) 2 (v)
  have hP : va_P D classes [(b, .inl (cT 1, 40, .inr (.inl (fillF (f) 3 (v)))))] H := by rw [← e9]; exact hP
  have hD : va_D A [(b, .inl (cT 1, 40, .inr (.inl (fillF (f) 3 (v)))))] := by rw [← e9]; exact hD
  refine lv_iinc (v := 3) (lv' := [(3, .int 3), (4, .int 40), (0, .ref b), (1, .long v)]) hx hb dJ7_fill_d0a16_16 hl (k := 0) rfl (by decide) (by decide) rfl (fun ls hl => ?_)
  refine lv_goto (tgt := 6) hx hb dJ7_fill_d0a16_19 (by decide) ?_
  refine lv_iload_n hx hb dJ7_fill_d0a16_6 rfl (lv_at hl 0 rfl) ?_
  refine lv_iload hx hb dJ7_fill_d0a16_7 (lv_at hl 1 rfl) ?_
  refine lv_icmp_ge (tgt := 22) hx hb dJ7_fill_d0a16_9 (by decide) (fun h => absurd h (by decide)) (fun _ => ?_)
  refine lv_aload_n hx hb dJ7_fill_d0a16_12 rfl (lv_at hl 2 rfl) ?_
  refine lv_iload_n hx hb dJ7_fill_d0a16_13 rfl (lv_at hl 0 rfl) ?_
  refine lv_lload_n hx hb dJ7_fill_d0a16_14 rfl (lv_at hl 3 rfl) ?_
  refine va_last hx hb hK hP hD hS 0 1 rfl rfl (by unfold vp_in; decide) dJ7_fill_d0a16_15 (fun H locs hP hD hS => ?_)
  have e9 : vp_updL (fillF (f) 3 (v)) (3 : Int32).toNatClampNeg (v) = fillF (f) 4 (v) := fillF_sL (f) 3 (v)
  have hP : va_P D classes [(b, .inl (cT 1, 40, .inr (.inl (fillF (f) 4 (v)))))] H := by rw [← e9]; exact hP
  have hD : va_D A [(b, .inl (cT 1, 40, .inr (.inl (fillF (f) 4 (v)))))] := by rw [← e9]; exact hD
  refine lv_iinc (v := 4) (lv' := [(3, .int 4), (4, .int 40), (0, .ref b), (1, .long v)]) hx hb dJ7_fill_d0a16_16 hl (k := 0) rfl (by decide) (by decide) rfl (fun ls hl => ?_)
  refine lv_goto (tgt := 6) hx hb dJ7_fill_d0a16_19 (by decide) ?_
  refine lv_iload_n hx hb dJ7_fill_d0a16_6 rfl (lv_at hl 0 rfl) ?_
  refine lv_iload hx hb dJ7_fill_d0a16_7 (lv_at hl 1 rfl) ?_
  refine lv_icmp_ge (tgt := 22) hx hb dJ7_fill_d0a16_9 (by decide) (fun h => absurd h (by decide)) (fun _ => ?_)
  refine lv_aload_n hx hb dJ7_fill_d0a16_12 rfl (lv_at hl 2 rfl) ?_
  refine lv_iload_n hx hb dJ7_fill_d0a16_13 rfl (lv_at hl 0 rfl) ?_
  refine lv_lload_n hx hb dJ7_fill_d0a16_14 rfl (lv_at hl 3 rfl) ?_
  refine va_last hx hb hK hP hD hS 0 1 rfl rfl (by unfold vp_in; decide) dJ7_fill_d0a16_15 (fun H locs hP hD hS => ?_)
  have e9 : vp_updL (fillF (f) 4 (v)) (4 : Int32).toNatClampNeg (v) = fillF (f) 5 (v) := fillF_sL (f) 4 (v)
  have hP : va_P D classes [(b, .inl (cT 1, 40, .inr (.inl (fillF (f) 5 (v)))))] H := by rw [← e9]; exact hP
  have hD : va_D A [(b, .inl (cT 1, 40, .inr (.inl (fillF (f) 5 (v)))))] := by rw [← e9]; exact hD
  refine lv_iinc (v := 5) (lv' := [(3, .int 5), (4, .int 40), (0, .ref b), (1, .long v)]) hx hb dJ7_fill_d0a16_16 hl (k := 0) rfl (by decide) (by decide) rfl (fun ls hl => ?_)
  refine lv_goto (tgt := 6) hx hb dJ7_fill_d0a16_19 (by decide) ?_
  refine lv_iload_n hx hb dJ7_fill_d0a16_6 rfl (lv_at hl 0 rfl) ?_
  refine lv_iload hx hb dJ7_fill_d0a16_7 (lv_at hl 1 rfl) ?_
  refine lv_icmp_ge (tgt := 22) hx hb dJ7_fill_d0a16_9 (by decide) (fun h => absurd h (by decide)) (fun _ => ?_)
  refine lv_aload_n hx hb dJ7_fill_d0a16_12 rfl (lv_at hl 2 rfl) ?_
  refine lv_iload_n hx hb dJ7_fill_d0a16_13 rfl (lv_at hl 0 rfl) ?_
  refine lv_lload_n hx hb dJ7_fill_d0a16_14 rfl (lv_at hl 3 rfl) ?_
  refine va_last hx hb hK hP hD hS 0 1 rfl rfl (by unfold vp_in; decide) dJ7_fill_d0a16_15 (fun H locs hP hD hS => ?_)
  have e9 : vp_updL (fillF (f) 5 (v)) (5 : Int32).toNatClampNeg (v) = fillF (f) 6 (v) := fillF_sL (f) 5 (v)
  have hP : va_P D classes [(b, .inl (cT 1, 40, .inr (.inl (fillF (f) 6 (v)))))] H := by rw [← e9]; exact hP
  have hD : va_D A [(b, .inl (cT 1, 40, .inr (.inl (fillF (f) 6 (v)))))] := by rw [← e9]; exact hD
  refine lv_iinc (v := 6) (lv' := [(3, .int 6), (4, .int 40), (0, .ref b), (1, .long v)]) hx hb dJ7_fill_d0a16_16 hl (k := 0) rfl (by decide) (by decide) rfl (fun ls hl => ?_)
  refine lv_goto (tgt := 6) hx hb dJ7_fill_d0a16_19 (by decide) ?_
  refine lv_iload_n hx hb dJ7_fill_d0a16_6 rfl (lv_at hl 0 rfl) ?_
  refine lv_iload hx hb dJ7_fill_d0a16_7 (lv_at hl 1 rfl) ?_
  refine lv_icmp_ge (tgt := 22) hx hb dJ7_fill_d0a16_9 (by decide) (fun h => absurd h (by decide)) (fun _ => ?_)
  refine lv_aload_n hx hb dJ7_fill_d0a16_12 rfl (lv_at hl 2 rfl) ?_
  refine lv_iload_n hx hb dJ7_fill_d0a16_13 rfl (lv_at hl 0 rfl) ?_
  refine lv_lload_n hx hb dJ7_fill_d0a16_14 rfl (lv_at hl 3 rfl) ?_
  refine va_last hx hb hK hP hD hS 0 1 rfl rfl (by unfold vp_in; decide) dJ7_fill_d0a16_15 (fun H locs hP hD hS => ?_)
  have e9 : vp_updL (fillF (f) 6 (v)) (6 : Int32).toNatClampNeg (v) = fillF (f) 7 (v) := fillF_sL (f) 6 (v)
  have hP : va_P D classes [(b, .inl (cT 1, 40, .inr (.inl (fillF (f) 7 (v)))))] H := by rw [← e9]; exact hP
  have hD : va_D A [(b, .inl (cT 1, 40, .inr (.inl (fillF (f) 7 (v)))))] := by rw [← e9]; exact hD
  refine lv_iinc (v := 7) (lv' := [(3, .int 7), (4, .int 40), (0, .ref b), (1, .long v)]) hx hb dJ7_fill_d0a16_16 hl (k := 0) rfl (by decide) (by decide) rfl (fun ls hl => ?_)
  refine lv_goto (tgt := 6) hx hb dJ7_fill_d0a16_19 (by decide) ?_
  refine lv_iload_n hx hb dJ7_fill_d0a16_6 rfl (lv_at hl 0 rfl) ?_
  refine lv_iload hx hb dJ7_fill_d0a16_7 (lv_at hl 1 rfl) ?_
  refine lv_icmp_ge (tgt := 22) hx hb dJ7_fill_d0a16_9 (by decide) (fun h => absurd h (by decide)) (fun _ => ?_)
  refine lv_aload_n hx hb dJ7_fill_d0a16_12 rfl (lv_at hl 2 rfl) ?_
  refine lv_iload_n hx hb dJ7_fill_d0a16_13 rfl (lv_at hl 0 rfl) ?_
  refine lv_lload_n hx hb dJ7_fill_d0a16_14 rfl (lv_at hl 3 rfl) ?_
  refine va_last hx hb hK hP hD hS 0 1 rfl rfl (by unfold vp_in; decide) dJ7_fill_d0a16_15 (fun H locs hP hD hS => ?_)
  have e9 : vp_updL (fillF (f) 7 (v)) (7 : Int32).toNatClampNeg (v) = fillF (f) 8 (v) := fillF_sL (f) 7 (v)
  have hP : va_P D classes [(b, .inl (cT 1, 40, .inr (.inl (fillF (f) 8 (v)))))] H := by rw [← e9]; exact hP
  have hD : va_D A [(b, .inl (cT 1, 40, .inr (.inl (fillF (f) 8 (v)))))] := by rw [← e9]; exact hD
  refine lv_iinc (v := 8) (lv' := [(3, .int 8), (4, .int 40), (0, .ref b), (1, .long v)]) hx hb dJ7_fill_d0a16_16 hl (k := 0) rfl (by decide) (by decide) rfl (fun ls hl => ?_)
  refine lv_goto (tgt := 6) hx hb dJ7_fill_d0a16_19 (by decide) ?_
  refine lv_iload_n hx hb dJ7_fill_d0a16_6 rfl (lv_at hl 0 rfl) ?_
  refine lv_iload hx hb dJ7_fill_d0a16_7 (lv_at hl 1 rfl) ?_
  refine lv_icmp_ge (tgt := 22) hx hb dJ7_fill_d0a16_9 (by decide) (fun h => absurd h (by decide)) (fun _ => ?_)
  refine lv_aload_n hx hb dJ7_fill_d0a16_12 rfl (lv_at hl 2 rfl) ?_
  refine lv_iload_n hx hb dJ7_fill_d0a16_13 rfl (lv_at hl 0 rfl) ?_
  refine lv_lload_n hx hb dJ7_fill_d0a16_14 rfl (lv_at hl 3 rfl) ?_
  refine va_last hx hb hK hP hD hS 0 1 rfl rfl (by unfold vp_in; decide) dJ7_fill_d0a16_15 (fun H locs hP hD hS => ?_)
  have e9 : vp_updL (fillF (f) 8 (v)) (8 : Int32).toNatClampNeg (v) = fillF (f) 9 (v) := fillF_sL (f) 8 (v)
  have hP : va_P D classes [(b, .inl (cT 1, 40, .inr (.inl (fillF (f) 9 (v)))))] H := by rw [← e9]; exact hP
  have hD : va_D A [(b, .inl (cT 1, 40, .inr (.inl (fillF (f) 9 (v)))))] := by rw [← e9]; exact hD
  refine lv_iinc (v := 9) (lv' := [(3, .int 9), (4, .int 40), (0, .ref b), (1, .long v)]) hx hb dJ7_fill_d0a16_16 hl (k := 0) rfl (by decide) (by decide) rfl (fun ls hl => ?_)
  refine lv_goto (tgt := 6) hx hb dJ7_fill_d0a16_19 (by decide) ?_
  refine lv_iload_n hx hb dJ7_fill_d0a16_6 rfl (lv_at hl 0 rfl) ?_
  refine lv_iload hx hb dJ7_fill_d0a16_7 (lv_at hl 1 rfl) ?_
  refine lv_icmp_ge (tgt := 22) hx hb dJ7_fill_d0a16_9 (by decide) (fun h => absurd h (by decide)) (fun _ => ?_)
  refine lv_aload_n hx hb dJ7_fill_d0a16_12 rfl (lv_at hl 2 rfl) ?_
  refine lv_iload_n hx hb dJ7_fill_d0a16_13 rfl (lv_at hl 0 rfl) ?_
  refine lv_lload_n hx hb dJ7_fill_d0a16_14 rfl (lv_at hl 3 rfl) ?_
  refine va_last hx hb hK hP hD hS 0 1 rfl rfl (by unfold vp_in; decide) dJ7_fill_d0a16_15 (fun H locs hP hD hS => ?_)
  have e9 : vp_updL (fillF (f) 9 (v)) (9 : Int32).toNatClampNeg (v) = fillF (f) 10 (v) := fillF_sL (f) 9 (v)
  have hP : va_P D classes [(b, .inl (cT 1, 40, .inr (.inl (fillF (f) 10 (v)))))] H := by rw [← e9]; exact hP
  have hD : va_D A [(b, .inl (cT 1, 40, .inr (.inl (fillF (f) 10 (v)))))] := by rw [← e9]; exact hD
  refine lv_iinc (v := 10) (lv' := [(3, .int 10), (4, .int 40), (0, .ref b), (1, .long v)]) hx hb dJ7_fill_d0a16_16 hl (k := 0) rfl (by decide) (by decide) rfl (fun ls hl => ?_)
  refine lv_goto (tgt := 6) hx hb dJ7_fill_d0a16_19 (by decide) ?_
  refine lv_iload_n hx hb dJ7_fill_d0a16_6 rfl (lv_at hl 0 rfl) ?_
  refine lv_iload hx hb dJ7_fill_d0a16_7 (lv_at hl 1 rfl) ?_
  refine lv_icmp_ge (tgt := 22) hx hb dJ7_fill_d0a16_9 (by decide) (fun h => absurd h (by decide)) (fun _ => ?_)
  refine lv_aload_n hx hb dJ7_fill_d0a16_12 rfl (lv_at hl 2 rfl) ?_
  refine lv_iload_n hx hb dJ7_fill_d0a16_13 rfl (lv_at hl 0 rfl) ?_
  refine lv_lload_n hx hb dJ7_fill_d0a16_14 rfl (lv_at hl 3 rfl) ?_
  refine va_last hx hb hK hP hD hS 0 1 rfl rfl (by unfold vp_in; decide) dJ7_fill_d0a16_15 (fun H locs hP hD hS => ?_)
  have e9 : vp_updL (fillF (f) 10 (v)) (10 : Int32).toNatClampNeg (v) = fillF (f) 11 (v) := fillF_sL (f) 10 (v)
  have hP : va_P D classes [(b, .inl (cT 1, 40, .inr (.inl (fillF (f) 11 (v)))))] H := by rw [← e9]; exact hP
  have hD : va_D A [(b, .inl (cT 1, 40, .inr (.inl (fillF (f) 11 (v)))))] := by rw [← e9]; exact hD
  refine lv_iinc (v := 11) (lv' := [(3, .int 11), (4, .int 40), (0, .ref b), (1, .long v)]) hx hb dJ7_fill_d0a16_16 hl (k := 0) rfl (by decide) (by decide) rfl (fun ls hl => ?_)
  refine lv_goto (tgt := 6) hx hb dJ7_fill_d0a16_19 (by decide) ?_
  refine lv_iload_n hx hb dJ7_fill_d0a16_6 rfl (lv_at hl 0 rfl) ?_
  refine lv_iload hx hb dJ7_fill_d0a16_7 (lv_at hl 1 rfl) ?_
  refine lv_icmp_ge (tgt := 22) hx hb dJ7_fill_d0a16_9 (by decide) (fun h => absurd h (by decide)) (fun _ => ?_)
  refine lv_aload_n hx hb dJ7_fill_d0a16_12 rfl (lv_at hl 2 rfl) ?_
  refine lv_iload_n hx hb dJ7_fill_d0a16_13 rfl (lv_at hl 0 rfl) ?_
  refine lv_lload_n hx hb dJ7_fill_d0a16_14 rfl (lv_at hl 3 rfl) ?_
  refine va_last hx hb hK hP hD hS 0 1 rfl rfl (by unfold vp_in; decide) dJ7_fill_d0a16_15 (fun H locs hP hD hS => ?_)
  have e9 : vp_updL (fillF (f) 11 (v)) (11 : Int32).toNatClampNeg (v) = fillF (f) 12 (v) := fillF_sL (f) 11 (v)
  have hP : va_P D classes [(b, .inl (cT 1, 40, .inr (.inl (fillF (f) 12 (v)))))] H := by rw [← e9]; exact hP
  have hD : va_D A [(b, .inl (cT 1, 40, .inr (.inl (fillF (f) 12 (v)))))] := by rw [← e9]; exact hD
  refine lv_iinc (v := 12) (lv' := [(3, .int 12), (4, .int 40), (0, .ref b), (1, .long v)]) hx hb dJ7_fill_d0a16_16 hl (k := 0) rfl (by decide) (by decide) rfl (fun ls hl => ?_)
  refine lv_goto (tgt := 6) hx hb dJ7_fill_d0a16_19 (by decide) ?_
  refine lv_iload_n hx hb dJ7_fill_d0a16_6 rfl (lv_at hl 0 rfl) ?_
  refine lv_iload hx hb dJ7_fill_d0a16_7 (lv_at hl 1 rfl) ?_
  refine lv_icmp_ge (tgt := 22) hx hb dJ7_fill_d0a16_9 (by decide) (fun h => absurd h (by decide)) (fun _ => ?_)
  refine lv_aload_n hx hb dJ7_fill_d0a16_12 rfl (lv_at hl 2 rfl) ?_
  refine lv_iload_n hx hb dJ7_fill_d0a16_13 rfl (lv_at hl 0 rfl) ?_
  refine lv_lload_n hx hb dJ7_fill_d0a16_14 rfl (lv_at hl 3 rfl) ?_
  refine va_last hx hb hK hP hD hS 0 1 rfl rfl (by unfold vp_in; decide) dJ7_fill_d0a16_15 (fun H locs hP hD hS => ?_)
  have e9 : vp_updL (fillF (f) 12 (v)) (12 : Int32).toNatClampNeg (v) = fillF (f) 13 (v) := fillF_sL (f) 12 (v)
  have hP : va_P D classes [(b, .inl (cT 1, 40, .inr (.inl (fillF (f) 13 (v)))))] H := by rw [← e9]; exact hP
  have hD : va_D A [(b, .inl (cT 1, 40, .inr (.inl (fillF (f) 13 (v)))))] := by rw [← e9]; exact hD
  refine lv_iinc (v := 13) (lv' := [(3, .int 13), (4, .int 40), (0, .ref b), (1, .long v)]) hx hb dJ7_fill_d0a16_16 hl (k := 0) rfl (by decide) (by decide) rfl (fun ls hl => ?_)
  refine lv_goto (tgt := 6) hx hb dJ7_fill_d0a16_19 (by decide) ?_
  refine lv_iload_n hx hb dJ7_fill_d0a16_6 rfl (lv_at hl 0 rfl) ?_
  refine lv_iload hx hb dJ7_fill_d0a16_7 (lv_at hl 1 rfl) ?_
  refine lv_icmp_ge (tgt := 22) hx hb dJ7_fill_d0a16_9 (by decide) (fun h => absurd h (by decide)) (fun _ => ?_)
  refine lv_aload_n hx hb dJ7_fill_d0a16_12 rfl (lv_at hl 2 rfl) ?_
  refine lv_iload_n hx hb dJ7_fill_d0a16_13 rfl (lv_at hl 0 rfl) ?_
  refine lv_lload_n hx hb dJ7_fill_d0a16_14 rfl (lv_at hl 3 rfl) ?_
  refine va_last hx hb hK hP hD hS 0 1 rfl rfl (by unfold vp_in; decide) dJ7_fill_d0a16_15 (fun H locs hP hD hS => ?_)
  have e9 : vp_updL (fillF (f) 13 (v)) (13 : Int32).toNatClampNeg (v) = fillF (f) 14 (v) := fillF_sL (f) 13 (v)
  have hP : va_P D classes [(b, .inl (cT 1, 40, .inr (.inl (fillF (f) 14 (v)))))] H := by rw [← e9]; exact hP
  have hD : va_D A [(b, .inl (cT 1, 40, .inr (.inl (fillF (f) 14 (v)))))] := by rw [← e9]; exact hD
  refine lv_iinc (v := 14) (lv' := [(3, .int 14), (4, .int 40), (0, .ref b), (1, .long v)]) hx hb dJ7_fill_d0a16_16 hl (k := 0) rfl (by decide) (by decide) rfl (fun ls hl => ?_)
  refine lv_goto (tgt := 6) hx hb dJ7_fill_d0a16_19 (by decide) ?_
  refine lv_iload_n hx hb dJ7_fill_d0a16_6 rfl (lv_at hl 0 rfl) ?_
  refine lv_iload hx hb dJ7_fill_d0a16_7 (lv_at hl 1 rfl) ?_
  refine lv_icmp_ge (tgt := 22) hx hb dJ7_fill_d0a16_9 (by decide) (fun h => absurd h (by decide)) (fun _ => ?_)
  refine lv_aload_n hx hb dJ7_fill_d0a16_12 rfl (lv_at hl 2 rfl) ?_
  refine lv_iload_n hx hb dJ7_fill_d0a16_13 rfl (lv_at hl 0 rfl) ?_
  refine lv_lload_n hx hb dJ7_fill_d0a16_14 rfl (lv_at hl 3 rfl) ?_
  refine va_last hx hb hK hP hD hS 0 1 rfl rfl (by unfold vp_in; decide) dJ7_fill_d0a16_15 (fun H locs hP hD hS => ?_)
  have e9 : vp_updL (fillF (f) 14 (v)) (14 : Int32).toNatClampNeg (v) = fillF (f) 15 (v) := fillF_sL (f) 14 (v)
  have hP : va_P D classes [(b, .inl (cT 1, 40, .inr (.inl (fillF (f) 15 (v)))))] H := by rw [← e9]; exact hP
  have hD : va_D A [(b, .inl (cT 1, 40, .inr (.inl (fillF (f) 15 (v)))))] := by rw [← e9]; exact hD
  refine lv_iinc (v := 15) (lv' := [(3, .int 15), (4, .int 40), (0, .ref b), (1, .long v)]) hx hb dJ7_fill_d0a16_16 hl (k := 0) rfl (by decide) (by decide) rfl (fun ls hl => ?_)
  refine lv_goto (tgt := 6) hx hb dJ7_fill_d0a16_19 (by decide) ?_
  refine lv_iload_n hx hb dJ7_fill_d0a16_6 rfl (lv_at hl 0 rfl) ?_
  refine lv_iload hx hb dJ7_fill_d0a16_7 (lv_at hl 1 rfl) ?_
  refine lv_icmp_ge (tgt := 22) hx hb dJ7_fill_d0a16_9 (by decide) (fun h => absurd h (by decide)) (fun _ => ?_)
  refine lv_aload_n hx hb dJ7_fill_d0a16_12 rfl (lv_at hl 2 rfl) ?_
  refine lv_iload_n hx hb dJ7_fill_d0a16_13 rfl (lv_at hl 0 rfl) ?_
  refine lv_lload_n hx hb dJ7_fill_d0a16_14 rfl (lv_at hl 3 rfl) ?_
  refine va_last hx hb hK hP hD hS 0 1 rfl rfl (by unfold vp_in; decide) dJ7_fill_d0a16_15 (fun H locs hP hD hS => ?_)
  have e9 : vp_updL (fillF (f) 15 (v)) (15 : Int32).toNatClampNeg (v) = fillF (f) 16 (v) := fillF_sL (f) 15 (v)
  have hP : va_P D classes [(b, .inl (cT 1, 40, .inr (.inl (fillF (f) 16 (v)))))] H := by rw [← e9]; exact hP
  have hD : va_D A [(b, .inl (cT 1, 40, .inr (.inl (fillF (f) 16 (v)))))] := by rw [← e9]; exact hD
  refine lv_iinc (v := 16) (lv' := [(3, .int 16), (4, .int 40), (0, .ref b), (1, .long v)]) hx hb dJ7_fill_d0a16_16 hl (k := 0) rfl (by decide) (by decide) rfl (fun ls hl => ?_)
  refine lv_goto (tgt := 6) hx hb dJ7_fill_d0a16_19 (by decide) ?_
  refine lv_iload_n hx hb dJ7_fill_d0a16_6 rfl (lv_at hl 0 rfl) ?_
  refine lv_iload hx hb dJ7_fill_d0a16_7 (lv_at hl 1 rfl) ?_
  refine lv_icmp_ge (tgt := 22) hx hb dJ7_fill_d0a16_9 (by decide) (fun h => absurd h (by decide)) (fun _ => ?_)
  refine lv_aload_n hx hb dJ7_fill_d0a16_12 rfl (lv_at hl 2 rfl) ?_
  refine lv_iload_n hx hb dJ7_fill_d0a16_13 rfl (lv_at hl 0 rfl) ?_
  refine lv_lload_n hx hb dJ7_fill_d0a16_14 rfl (lv_at hl 3 rfl) ?_
  refine va_last hx hb hK hP hD hS 0 1 rfl rfl (by unfold vp_in; decide) dJ7_fill_d0a16_15 (fun H locs hP hD hS => ?_)
  have e9 : vp_updL (fillF (f) 16 (v)) (16 : Int32).toNatClampNeg (v) = fillF (f) 17 (v) := fillF_sL (f) 16 (v)
  have hP : va_P D classes [(b, .inl (cT 1, 40, .inr (.inl (fillF (f) 17 (v)))))] H := by rw [← e9]; exact hP
  have hD : va_D A [(b, .inl (cT 1, 40, .inr (.inl (fillF (f) 17 (v)))))] := by rw [← e9]; exact hD
  refine lv_iinc (v := 17) (lv' := [(3, .int 17), (4, .int 40), (0, .ref b), (1, .long v)]) hx hb dJ7_fill_d0a16_16 hl (k := 0) rfl (by decide) (by decide) rfl (fun ls hl => ?_)
  refine lv_goto (tgt := 6) hx hb dJ7_fill_d0a16_19 (by decide) ?_
  refine lv_iload_n hx hb dJ7_fill_d0a16_6 rfl (lv_at hl 0 rfl) ?_
  refine lv_iload hx hb dJ7_fill_d0a16_7 (lv_at hl 1 rfl) ?_
  refine lv_icmp_ge (tgt := 22) hx hb dJ7_fill_d0a16_9 (by decide) (fun h => absurd h (by decide)) (fun _ => ?_)
  refine lv_aload_n hx hb dJ7_fill_d0a16_12 rfl (lv_at hl 2 rfl) ?_
  refine lv_iload_n hx hb dJ7_fill_d0a16_13 rfl (lv_at hl 0 rfl) ?_
  refine lv_lload_n hx hb dJ7_fill_d0a16_14 rfl (lv_at hl 3 rfl) ?_
  refine va_last hx hb hK hP hD hS 0 1 rfl rfl (by unfold vp_in; decide) dJ7_fill_d0a16_15 (fun H locs hP hD hS => ?_)
  have e9 : vp_updL (fillF (f) 17 (v)) (17 : Int32).toNatClampNeg (v) = fillF (f) 18 (v) := fillF_sL (f) 17 (v)
  have hP : va_P D classes [(b, .inl (cT 1, 40, .inr (.inl (fillF (f) 18 (v)))))] H := by rw [← e9]; exact hP
  have hD : va_D A [(b, .inl (cT 1, 40, .inr (.inl (fillF (f) 18 (v)))))] := by rw [← e9]; exact hD
  refine lv_iinc (v := 18) (lv' := [(3, .int 18), (4, .int 40), (0, .ref b), (1, .long v)]) hx hb dJ7_fill_d0a16_16 hl (k := 0) rfl (by decide) (by decide) rfl (fun ls hl => ?_)
  refine lv_goto (tgt := 6) hx hb dJ7_fill_d0a16_19 (by decide) ?_
  refine lv_iload_n hx hb dJ7_fill_d0a16_6 rfl (lv_at hl 0 rfl) ?_
  refine lv_iload hx hb dJ7_fill_d0a16_7 (lv_at hl 1 rfl) ?_
  refine lv_icmp_ge (tgt := 22) hx hb dJ7_fill_d0a16_9 (by decide) (fun h => absurd h (by decide)) (fun _ => ?_)
  refine lv_aload_n hx hb dJ7_fill_d0a16_12 rfl (lv_at hl 2 rfl) ?_
  refine lv_iload_n hx hb dJ7_fill_d0a16_13 rfl (lv_at hl 0 rfl) ?_
  refine lv_lload_n hx hb dJ7_fill_d0a16_14 rfl (lv_at hl 3 rfl) ?_
  refine va_last hx hb hK hP hD hS 0 1 rfl rfl (by unfold vp_in; decide) dJ7_fill_d0a16_15 (fun H locs hP hD hS => ?_)
  have e9 : vp_updL (fillF (f) 18 (v)) (18 : Int32).toNatClampNeg (v) = fillF (f) 19 (v) := fillF_sL (f) 18 (v)
  have hP : va_P D classes [(b, .inl (cT 1, 40, .inr (.inl (fillF (f) 19 (v)))))] H := by rw [← e9]; exact hP
  have hD : va_D A [(b, .inl (cT 1, 40, .inr (.inl (fillF (f) 19 (v)))))] := by rw [← e9]; exact hD
  refine lv_iinc (v := 19) (lv' := [(3, .int 19), (4, .int 40), (0, .ref b), (1, .long v)]) hx hb dJ7_fill_d0a16_16 hl (k := 0) rfl (by decide) (by decide) rfl (fun ls hl => ?_)
  refine lv_goto (tgt := 6) hx hb dJ7_fill_d0a16_19 (by decide) ?_
  refine lv_iload_n hx hb dJ7_fill_d0a16_6 rfl (lv_at hl 0 rfl) ?_
  refine lv_iload hx hb dJ7_fill_d0a16_7 (lv_at hl 1 rfl) ?_
  refine lv_icmp_ge (tgt := 22) hx hb dJ7_fill_d0a16_9 (by decide) (fun h => absurd h (by decide)) (fun _ => ?_)
  refine lv_aload_n hx hb dJ7_fill_d0a16_12 rfl (lv_at hl 2 rfl) ?_
  refine lv_iload_n hx hb dJ7_fill_d0a16_13 rfl (lv_at hl 0 rfl) ?_
  refine lv_lload_n hx hb dJ7_fill_d0a16_14 rfl (lv_at hl 3 rfl) ?_
  refine va_last hx hb hK hP hD hS 0 1 rfl rfl (by unfold vp_in; decide) dJ7_fill_d0a16_15 (fun H locs hP hD hS => ?_)
  have e9 : vp_updL (fillF (f) 19 (v)) (19 : Int32).toNatClampNeg (v) = fillF (f) 20 (v) := fillF_sL (f) 19 (v)
  have hP : va_P D classes [(b, .inl (cT 1, 40, .inr (.inl (fillF (f) 20 (v)))))] H := by rw [← e9]; exact hP
  have hD : va_D A [(b, .inl (cT 1, 40, .inr (.inl (fillF (f) 20 (v)))))] := by rw [← e9]; exact hD
  refine lv_iinc (v := 20) (lv' := [(3, .int 20), (4, .int 40), (0, .ref b), (1, .long v)]) hx hb dJ7_fill_d0a16_16 hl (k := 0) rfl (by decide) (by decide) rfl (fun ls hl => ?_)
  refine lv_goto (tgt := 6) hx hb dJ7_fill_d0a16_19 (by decide) ?_
  refine lv_iload_n hx hb dJ7_fill_d0a16_6 rfl (lv_at hl 0 rfl) ?_
  refine lv_iload hx hb dJ7_fill_d0a16_7 (lv_at hl 1 rfl) ?_
  refine lv_icmp_ge (tgt := 22) hx hb dJ7_fill_d0a16_9 (by decide) (fun h => absurd h (by decide)) (fun _ => ?_)
  refine lv_aload_n hx hb dJ7_fill_d0a16_12 rfl (lv_at hl 2 rfl) ?_
  refine lv_iload_n hx hb dJ7_fill_d0a16_13 rfl (lv_at hl 0 rfl) ?_
  refine lv_lload_n hx hb dJ7_fill_d0a16_14 rfl (lv_at hl 3 rfl) ?_
  refine va_last hx hb hK hP hD hS 0 1 rfl rfl (by unfold vp_in; decide) dJ7_fill_d0a16_15 (fun H locs hP hD hS => ?_)
  have e9 : vp_updL (fillF (f) 20 (v)) (20 : Int32).toNatClampNeg (v) = fillF (f) 21 (v) := fillF_sL (f) 20 (v)
  have hP : va_P D classes [(b, .inl (cT 1, 40, .inr (.inl (fillF (f) 21 (v)))))] H := by rw [← e9]; exact hP
  have hD : va_D A [(b, .inl (cT 1, 40, .inr (.inl (fillF (f) 21 (v)))))] := by rw [← e9]; exact hD
  refine lv_iinc (v := 21) (lv' := [(3, .int 21), (4, .int 40), (0, .ref b), (1, .long v)]) hx hb dJ7_fill_d0a16_16 hl (k := 0) rfl (by decide) (by decide) rfl (fun ls hl => ?_)
  refine lv_goto (tgt := 6) hx hb dJ7_fill_d0a16_19 (by decide) ?_
  refine lv_iload_n hx hb dJ7_fill_d0a16_6 rfl (lv_at hl 0 rfl) ?_
  refine lv_iload hx hb dJ7_fill_d0a16_7 (lv_at hl 1 rfl) ?_
  refine lv_icmp_ge (tgt := 22) hx hb dJ7_fill_d0a16_9 (by decide) (fun h => absurd h (by decide)) (fun _ => ?_)
  refine lv_aload_n hx hb dJ7_fill_d0a16_12 rfl (lv_at hl 2 rfl) ?_
  refine lv_iload_n hx hb dJ7_fill_d0a16_13 rfl (lv_at hl 0 rfl) ?_
  refine lv_lload_n hx hb dJ7_fill_d0a16_14 rfl (lv_at hl 3 rfl) ?_
  refine va_last hx hb hK hP hD hS 0 1 rfl rfl (by unfold vp_in; decide) dJ7_fill_d0a16_15 (fun H locs hP hD hS => ?_)
  have e9 : vp_updL (fillF (f) 21 (v)) (21 : Int32).toNatClampNeg (v) = fillF (f) 22 (v) := fillF_sL (f) 21 (v)
  have hP : va_P D classes [(b, .inl (cT 1, 40, .inr (.inl (fillF (f) 22 (v)))))] H := by rw [← e9]; exact hP
  have hD : va_D A [(b, .inl (cT 1, 40, .inr (.inl (fillF (f) 22 (v)))))] := by rw [← e9]; exact hD
  refine lv_iinc (v := 22) (lv' := [(3, .int 22), (4, .int 40), (0, .ref b), (1, .long v)]) hx hb dJ7_fill_d0a16_16 hl (k := 0) rfl (by decide) (by decide) rfl (fun ls hl => ?_)
  refine lv_goto (tgt := 6) hx hb dJ7_fill_d0a16_19 (by decide) ?_
  refine lv_iload_n hx hb dJ7_fill_d0a16_6 rfl (lv_at hl 0 rfl) ?_
  refine lv_iload hx hb dJ7_fill_d0a16_7 (lv_at hl 1 rfl) ?_
  refine lv_icmp_ge (tgt := 22) hx hb dJ7_fill_d0a16_9 (by decide) (fun h => absurd h (by decide)) (fun _ => ?_)
  refine lv_aload_n hx hb dJ7_fill_d0a16_12 rfl (lv_at hl 2 rfl) ?_
  refine lv_iload_n hx hb dJ7_fill_d0a16_13 rfl (lv_at hl 0 rfl) ?_
  refine lv_lload_n hx hb dJ7_fill_d0a16_14 rfl (lv_at hl 3 rfl) ?_
  refine va_last hx hb hK hP hD hS 0 1 rfl rfl (by unfold vp_in; decide) dJ7_fill_d0a16_15 (fun H locs hP hD hS => ?_)
  have e9 : vp_updL (fillF (f) 22 (v)) (22 : Int32).toNatClampNeg (v) = fillF (f) 23 (v) := fillF_sL (f) 22 (v)
  have hP : va_P D classes [(b, .inl (cT 1, 40, .inr (.inl (fillF (f) 23 (v)))))] H := by rw [← e9]; exact hP
  have hD : va_D A [(b, .inl (cT 1, 40, .inr (.inl (fillF (f) 23 (v)))))] := by rw [← e9]; exact hD
  refine lv_iinc (v := 23) (lv' := [(3, .int 23), (4, .int 40), (0, .ref b), (1, .long v)]) hx hb dJ7_fill_d0a16_16 hl (k := 0) rfl (by decide) (by decide) rfl (fun ls hl => ?_)
  refine lv_goto (tgt := 6) hx hb dJ7_fill_d0a16_19 (by decide) ?_
  refine lv_iload_n hx hb dJ7_fill_d0a16_6 rfl (lv_at hl 0 rfl) ?_
  refine lv_iload hx hb dJ7_fill_d0a16_7 (lv_at hl 1 rfl) ?_
  refine lv_icmp_ge (tgt := 22) hx hb dJ7_fill_d0a16_9 (by decide) (fun h => absurd h (by decide)) (fun _ => ?_)
  refine lv_aload_n hx hb dJ7_fill_d0a16_12 rfl (lv_at hl 2 rfl) ?_
  refine lv_iload_n hx hb dJ7_fill_d0a16_13 rfl (lv_at hl 0 rfl) ?_
  refine lv_lload_n hx hb dJ7_fill_d0a16_14 rfl (lv_at hl 3 rfl) ?_
  refine va_last hx hb hK hP hD hS 0 1 rfl rfl (by unfold vp_in; decide) dJ7_fill_d0a16_15 (fun H locs hP hD hS => ?_)
  have e9 : vp_updL (fillF (f) 23 (v)) (23 : Int32).toNatClampNeg (v) = fillF (f) 24 (v) := fillF_sL (f) 23 (v)
  have hP : va_P D classes [(b, .inl (cT 1, 40, .inr (.inl (fillF (f) 24 (v)))))] H := by rw [← e9]; exact hP
  have hD : va_D A [(b, .inl (cT 1, 40, .inr (.inl (fillF (f) 24 (v)))))] := by rw [← e9]; exact hD
  refine lv_iinc (v := 24) (lv' := [(3, .int 24), (4, .int 40), (0, .ref b), (1, .long v)]) hx hb dJ7_fill_d0a16_16 hl (k := 0) rfl (by decide) (by decide) rfl (fun ls hl => ?_)
  refine lv_goto (tgt := 6) hx hb dJ7_fill_d0a16_19 (by decide) ?_
  refine lv_iload_n hx hb dJ7_fill_d0a16_6 rfl (lv_at hl 0 rfl) ?_
  refine lv_iload hx hb dJ7_fill_d0a16_7 (lv_at hl 1 rfl) ?_
  refine lv_icmp_ge (tgt := 22) hx hb dJ7_fill_d0a16_9 (by decide) (fun h => absurd h (by decide)) (fun _ => ?_)
  refine lv_aload_n hx hb dJ7_fill_d0a16_12 rfl (lv_at hl 2 rfl) ?_
  refine lv_iload_n hx hb dJ7_fill_d0a16_13 rfl (lv_at hl 0 rfl) ?_
  refine lv_lload_n hx hb dJ7_fill_d0a16_14 rfl (lv_at hl 3 rfl) ?_
  refine va_last hx hb hK hP hD hS 0 1 rfl rfl (by unfold vp_in; decide) dJ7_fill_d0a16_15 (fun H locs hP hD hS => ?_)
  have e9 : vp_updL (fillF (f) 24 (v)) (24 : Int32).toNatClampNeg (v) = fillF (f) 25 (v) := fillF_sL (f) 24 (v)
  have hP : va_P D classes [(b, .inl (cT 1, 40, .inr (.inl (fillF (f) 25 (v)))))] H := by rw [← e9]; exact hP
  have hD : va_D A [(b, .inl (cT 1, 40, .inr (.inl (fillF (f) 25 (v)))))] := by rw [← e9]; exact hD
  refine lv_iinc (v := 25) (lv' := [(3, .int 25), (4, .int 40), (0, .ref b), (1, .long v)]) hx hb dJ7_fill_d0a16_16 hl (k := 0) rfl (by decide) (by decide) rfl (fun ls hl => ?_)
  refine lv_goto (tgt := 6) hx hb dJ7_fill_d0a16_19 (by decide) ?_
  refine lv_iload_n hx hb dJ7_fill_d0a16_6 rfl (lv_at hl 0 rfl) ?_
  refine lv_iload hx hb dJ7_fill_d0a16_7 (lv_at hl 1 rfl) ?_
  refine lv_icmp_ge (tgt := 22) hx hb dJ7_fill_d0a16_9 (by decide) (fun h => absurd h (by decide)) (fun _ => ?_)
  refine lv_aload_n hx hb dJ7_fill_d0a16_12 rfl (lv_at hl 2 rfl) ?_
  refine lv_iload_n hx hb dJ7_fill_d0a16_13 rfl (lv_at hl 0 rfl) ?_
  refine lv_lload_n hx hb dJ7_fill_d0a16_14 rfl (lv_at hl 3 rfl) ?_
  refine va_last hx hb hK hP hD hS 0 1 rfl rfl (by unfold vp_in; decide) dJ7_fill_d0a16_15 (fun H locs hP hD hS => ?_)
  have e9 : vp_updL (fillF (f) 25 (v)) (25 : Int32).toNatClampNeg (v) = fillF (f) 26 (v) := fillF_sL (f) 25 (v)
  have hP : va_P D classes [(b, .inl (cT 1, 40, .inr (.inl (fillF (f) 26 (v)))))] H := by rw [← e9]; exact hP
  have hD : va_D A [(b, .inl (cT 1, 40, .inr (.inl (fillF (f) 26 (v)))))] := by rw [← e9]; exact hD
  refine lv_iinc (v := 26) (lv' := [(3, .int 26), (4, .int 40), (0, .ref b), (1, .long v)]) hx hb dJ7_fill_d0a16_16 hl (k := 0) rfl (by decide) (by decide) rfl (fun ls hl => ?_)
  refine lv_goto (tgt := 6) hx hb dJ7_fill_d0a16_19 (by decide) ?_
  refine lv_iload_n hx hb dJ7_fill_d0a16_6 rfl (lv_at hl 0 rfl) ?_
  refine lv_iload hx hb dJ7_fill_d0a16_7 (lv_at hl 1 rfl) ?_
  refine lv_icmp_ge (tgt := 22) hx hb dJ7_fill_d0a16_9 (by decide) (fun h => absurd h (by decide)) (fun _ => ?_)
  refine lv_aload_n hx hb dJ7_fill_d0a16_12 rfl (lv_at hl 2 rfl) ?_
  refine lv_iload_n hx hb dJ7_fill_d0a16_13 rfl (lv_at hl 0 rfl) ?_
  refine lv_lload_n hx hb dJ7_fill_d0a16_14 rfl (lv_at hl 3 rfl) ?_
  refine va_last hx hb hK hP hD hS 0 1 rfl rfl (by unfold vp_in; decide) dJ7_fill_d0a16_15 (fun H locs hP hD hS => ?_)
  have e9 : vp_updL (fillF (f) 26 (v)) (26 : Int32).toNatClampNeg (v) = fillF (f) 27 (v) := fillF_sL (f) 26 (v)
  have hP : va_P D classes [(b, .inl (cT 1, 40, .inr (.inl (fillF (f) 27 (v)))))] H := by rw [← e9]; exact hP
  have hD : va_D A [(b, .inl (cT 1, 40, .inr (.inl (fillF (f) 27 (v)))))] := by rw [← e9]; exact hD
  refine lv_iinc (v := 27) (lv' := [(3, .int 27), (4, .int 40), (0, .ref b), (1, .long v)]) hx hb dJ7_fill_d0a16_16 hl (k := 0) rfl (by decide) (by decide) rfl (fun ls hl => ?_)
  refine lv_goto (tgt := 6) hx hb dJ7_fill_d0a16_19 (by decide) ?_
  refine lv_iload_n hx hb dJ7_fill_d0a16_6 rfl (lv_at hl 0 rfl) ?_
  refine lv_iload hx hb dJ7_fill_d0a16_7 (lv_at hl 1 rfl) ?_
  refine lv_icmp_ge (tgt := 22) hx hb dJ7_fill_d0a16_9 (by decide) (fun h => absurd h (by decide)) (fun _ => ?_)
  refine lv_aload_n hx hb dJ7_fill_d0a16_12 rfl (lv_at hl 2 rfl) ?_
  refine lv_iload_n hx hb dJ7_fill_d0a16_13 rfl (lv_at hl 0 rfl) ?_
  refine lv_lload_n hx hb dJ7_fill_d0a16_14 rfl (lv_at hl 3 rfl) ?_
  refine va_last hx hb hK hP hD hS 0 1 rfl rfl (by unfold vp_in; decide) dJ7_fill_d0a16_15 (fun H locs hP hD hS => ?_)
  have e9 : vp_updL (fillF (f) 27 (v)) (27 : Int32).toNatClampNeg (v) = fillF (f) 28 (v) := fillF_sL (f) 27 (v)
  have hP : va_P D classes [(b, .inl (cT 1, 40, .inr (.inl (fillF (f) 28 (v)))))] H := by rw [← e9]; exact hP
  have hD : va_D A [(b, .inl (cT 1, 40, .inr (.inl (fillF (f) 28 (v)))))] := by rw [← e9]; exact hD
  refine lv_iinc (v := 28) (lv' := [(3, .int 28), (4, .int 40), (0, .ref b), (1, .long v)]) hx hb dJ7_fill_d0a16_16 hl (k := 0) rfl (by decide) (by decide) rfl (fun ls hl => ?_)
  refine lv_goto (tgt := 6) hx hb dJ7_fill_d0a16_19 (by decide) ?_
  refine lv_iload_n hx hb dJ7_fill_d0a16_6 rfl (lv_at hl 0 rfl) ?_
  refine lv_iload hx hb dJ7_fill_d0a16_7 (lv_at hl 1 rfl) ?_
  refine lv_icmp_ge (tgt := 22) hx hb dJ7_fill_d0a16_9 (by decide) (fun h => absurd h (by decide)) (fun _ => ?_)
  refine lv_aload_n hx hb dJ7_fill_d0a16_12 rfl (lv_at hl 2 rfl) ?_
  refine lv_iload_n hx hb dJ7_fill_d0a16_13 rfl (lv_at hl 0 rfl) ?_
  refine lv_lload_n hx hb dJ7_fill_d0a16_14 rfl (lv_at hl 3 rfl) ?_
  refine va_last hx hb hK hP hD hS 0 1 rfl rfl (by unfold vp_in; decide) dJ7_fill_d0a16_15 (fun H locs hP hD hS => ?_)
  have e9 : vp_updL (fillF (f) 28 (v)) (28 : Int32).toNatClampNeg (v) = fillF (f) 29 (v) := fillF_sL (f) 28 (v)
  have hP : va_P D classes [(b, .inl (cT 1, 40, .inr (.inl (fillF (f) 29 (v)))))] H := by rw [← e9]; exact hP
  have hD : va_D A [(b, .inl (cT 1, 40, .inr (.inl (fillF (f) 29 (v)))))] := by rw [← e9]; exact hD
  refine lv_iinc (v := 29) (lv' := [(3, .int 29), (4, .int 40), (0, .ref b), (1, .long v)]) hx hb dJ7_fill_d0a16_16 hl (k := 0) rfl (by decide) (by decide) rfl (fun ls hl => ?_)
  refine lv_goto (tgt := 6) hx hb dJ7_fill_d0a16_19 (by decide) ?_
  refine lv_iload_n hx hb dJ7_fill_d0a16_6 rfl (lv_at hl 0 rfl) ?_
  refine lv_iload hx hb dJ7_fill_d0a16_7 (lv_at hl 1 rfl) ?_
  refine lv_icmp_ge (tgt := 22) hx hb dJ7_fill_d0a16_9 (by decide) (fun h => absurd h (by decide)) (fun _ => ?_)
  refine lv_aload_n hx hb dJ7_fill_d0a16_12 rfl (lv_at hl 2 rfl) ?_
  refine lv_iload_n hx hb dJ7_fill_d0a16_13 rfl (lv_at hl 0 rfl) ?_
  refine lv_lload_n hx hb dJ7_fill_d0a16_14 rfl (lv_at hl 3 rfl) ?_
  refine va_last hx hb hK hP hD hS 0 1 rfl rfl (by unfold vp_in; decide) dJ7_fill_d0a16_15 (fun H locs hP hD hS => ?_)
  have e9 : vp_updL (fillF (f) 29 (v)) (29 : Int32).toNatClampNeg (v) = fillF (f) 30 (v) := fillF_sL (f) 29 (v)
  have hP : va_P D classes [(b, .inl (cT 1, 40, .inr (.inl (fillF (f) 30 (v)))))] H := by rw [← e9]; exact hP
  have hD : va_D A [(b, .inl (cT 1, 40, .inr (.inl (fillF (f) 30 (v)))))] := by rw [← e9]; exact hD
  refine lv_iinc (v := 30) (lv' := [(3, .int 30), (4, .int 40), (0, .ref b), (1, .long v)]) hx hb dJ7_fill_d0a16_16 hl (k := 0) rfl (by decide) (by decide) rfl (fun ls hl => ?_)
  refine lv_goto (tgt := 6) hx hb dJ7_fill_d0a16_19 (by decide) ?_
  refine lv_iload_n hx hb dJ7_fill_d0a16_6 rfl (lv_at hl 0 rfl) ?_
  refine lv_iload hx hb dJ7_fill_d0a16_7 (lv_at hl 1 rfl) ?_
  refine lv_icmp_ge (tgt := 22) hx hb dJ7_fill_d0a16_9 (by decide) (fun h => absurd h (by decide)) (fun _ => ?_)
  refine lv_aload_n hx hb dJ7_fill_d0a16_12 rfl (lv_at hl 2 rfl) ?_
  refine lv_iload_n hx hb dJ7_fill_d0a16_13 rfl (lv_at hl 0 rfl) ?_
  refine lv_lload_n hx hb dJ7_fill_d0a16_14 rfl (lv_at hl 3 rfl) ?_
  refine va_last hx hb hK hP hD hS 0 1 rfl rfl (by unfold vp_in; decide) dJ7_fill_d0a16_15 (fun H locs hP hD hS => ?_)
  have e9 : vp_updL (fillF (f) 30 (v)) (30 : Int32).toNatClampNeg (v) = fillF (f) 31 (v) := fillF_sL (f) 30 (v)
  have hP : va_P D classes [(b, .inl (cT 1, 40, .inr (.inl (fillF (f) 31 (v)))))] H := by rw [← e9]; exact hP
  have hD : va_D A [(b, .inl (cT 1, 40, .inr (.inl (fillF (f) 31 (v)))))] := by rw [← e9]; exact hD
  refine lv_iinc (v := 31) (lv' := [(3, .int 31), (4, .int 40), (0, .ref b), (1, .long v)]) hx hb dJ7_fill_d0a16_16 hl (k := 0) rfl (by decide) (by decide) rfl (fun ls hl => ?_)
  refine lv_goto (tgt := 6) hx hb dJ7_fill_d0a16_19 (by decide) ?_
  refine lv_iload_n hx hb dJ7_fill_d0a16_6 rfl (lv_at hl 0 rfl) ?_
  refine lv_iload hx hb dJ7_fill_d0a16_7 (lv_at hl 1 rfl) ?_
  refine lv_icmp_ge (tgt := 22) hx hb dJ7_fill_d0a16_9 (by decide) (fun h => absurd h (by decide)) (fun _ => ?_)
  refine lv_aload_n hx hb dJ7_fill_d0a16_12 rfl (lv_at hl 2 rfl) ?_
  refine lv_iload_n hx hb dJ7_fill_d0a16_13 rfl (lv_at hl 0 rfl) ?_
  refine lv_lload_n hx hb dJ7_fill_d0a16_14 rfl (lv_at hl 3 rfl) ?_
  refine va_last hx hb hK hP hD hS 0 1 rfl rfl (by unfold vp_in; decide) dJ7_fill_d0a16_15 (fun H locs hP hD hS => ?_)
  have e9 : vp_updL (fillF (f) 31 (v)) (31 : Int32).toNatClampNeg (v) = fillF (f) 32 (v) := fillF_sL (f) 31 (v)
  have hP : va_P D classes [(b, .inl (cT 1, 40, .inr (.inl (fillF (f) 32 (v)))))] H := by rw [← e9]; exact hP
  have hD : va_D A [(b, .inl (cT 1, 40, .inr (.inl (fillF (f) 32 (v)))))] := by rw [← e9]; exact hD
  refine lv_iinc (v := 32) (lv' := [(3, .int 32), (4, .int 40), (0, .ref b), (1, .long v)]) hx hb dJ7_fill_d0a16_16 hl (k := 0) rfl (by decide) (by decide) rfl (fun ls hl => ?_)
  refine lv_goto (tgt := 6) hx hb dJ7_fill_d0a16_19 (by decide) ?_
  refine lv_iload_n hx hb dJ7_fill_d0a16_6 rfl (lv_at hl 0 rfl) ?_
  refine lv_iload hx hb dJ7_fill_d0a16_7 (lv_at hl 1 rfl) ?_
  refine lv_icmp_ge (tgt := 22) hx hb dJ7_fill_d0a16_9 (by decide) (fun h => absurd h (by decide)) (fun _ => ?_)
  refine lv_aload_n hx hb dJ7_fill_d0a16_12 rfl (lv_at hl 2 rfl) ?_
  refine lv_iload_n hx hb dJ7_fill_d0a16_13 rfl (lv_at hl 0 rfl) ?_
  refine lv_lload_n hx hb dJ7_fill_d0a16_14 rfl (lv_at hl 3 rfl) ?_
  refine va_last hx hb hK hP hD hS 0 1 rfl rfl (by unfold vp_in; decide) dJ7_fill_d0a16_15 (fun H locs hP hD hS => ?_)
  have e9 : vp_updL (fillF (f) 32 (v)) (32 : Int32).toNatClampNeg (v) = fillF (f) 33 (v) := fillF_sL (f) 32 (v)
  have hP : va_P D classes [(b, .inl (cT 1, 40, .inr (.inl (fillF (f) 33 (v)))))] H := by rw [← e9]; exact hP
  have hD : va_D A [(b, .inl (cT 1, 40, .inr (.inl (fillF (f) 33 (v)))))] := by rw [← e9]; exact hD
  refine lv_iinc (v := 33) (lv' := [(3, .int 33), (4, .int 40), (0, .ref b), (1, .long v)]) hx hb dJ7_fill_d0a16_16 hl (k := 0) rfl (by decide) (by decide) rfl (fun ls hl => ?_)
  refine lv_goto (tgt := 6) hx hb dJ7_fill_d0a16_19 (by decide) ?_
  refine lv_iload_n hx hb dJ7_fill_d0a16_6 rfl (lv_at hl 0 rfl) ?_
  refine lv_iload hx hb dJ7_fill_d0a16_7 (lv_at hl 1 rfl) ?_
  refine lv_icmp_ge (tgt := 22) hx hb dJ7_fill_d0a16_9 (by decide) (fun h => absurd h (by decide)) (fun _ => ?_)
  refine lv_aload_n hx hb dJ7_fill_d0a16_12 rfl (lv_at hl 2 rfl) ?_
  refine lv_iload_n hx hb dJ7_fill_d0a16_13 rfl (lv_at hl 0 rfl) ?_
  refine lv_lload_n hx hb dJ7_fill_d0a16_14 rfl (lv_at hl 3 rfl) ?_
  refine va_last hx hb hK hP hD hS 0 1 rfl rfl (by unfold vp_in; decide) dJ7_fill_d0a16_15 (fun H locs hP hD hS => ?_)
  have e9 : vp_updL (fillF (f) 33 (v)) (33 : Int32).toNatClampNeg (v) = fillF (f) 34 (v) := fillF_sL (f) 33 (v)
  have hP : va_P D classes [(b, .inl (cT 1, 40, .inr (.inl (fillF (f) 34 (v)))))] H := by rw [← e9]; exact hP
  have hD : va_D A [(b, .inl (cT 1, 40, .inr (.inl (fillF (f) 34 (v)))))] := by rw [← e9]; exact hD
  refine lv_iinc (v := 34) (lv' := [(3, .int 34), (4, .int 40), (0, .ref b), (1, .long v)]) hx hb dJ7_fill_d0a16_16 hl (k := 0) rfl (by decide) (by decide) rfl (fun ls hl => ?_)
  refine lv_goto (tgt := 6) hx hb dJ7_fill_d0a16_19 (by decide) ?_
  refine lv_iload_n hx hb dJ7_fill_d0a16_6 rfl (lv_at hl 0 rfl) ?_
  refine lv_iload hx hb dJ7_fill_d0a16_7 (lv_at hl 1 rfl) ?_
  refine lv_icmp_ge (tgt := 22) hx hb dJ7_fill_d0a16_9 (by decide) (fun h => absurd h (by decide)) (fun _ => ?_)
  refine lv_aload_n hx hb dJ7_fill_d0a16_12 rfl (lv_at hl 2 rfl) ?_
  refine lv_iload_n hx hb dJ7_fill_d0a16_13 rfl (lv_at hl 0 rfl) ?_
  refine lv_lload_n hx hb dJ7_fill_d0a16_14 rfl (lv_at hl 3 rfl) ?_
  refine va_last hx hb hK hP hD hS 0 1 rfl rfl (by unfold vp_in; decide) dJ7_fill_d0a16_15 (fun H locs hP hD hS => ?_)
  have e9 : vp_updL (fillF (f) 34 (v)) (34 : Int32).toNatClampNeg (v) = fillF (f) 35 (v) := fillF_sL (f) 34 (v)
  have hP : va_P D classes [(b, .inl (cT 1, 40, .inr (.inl (fillF (f) 35 (v)))))] H := by rw [← e9]; exact hP
  have hD : va_D A [(b, .inl (cT 1, 40, .inr (.inl (fillF (f) 35 (v)))))] := by rw [← e9]; exact hD
  refine lv_iinc (v := 35) (lv' := [(3, .int 35), (4, .int 40), (0, .ref b), (1, .long v)]) hx hb dJ7_fill_d0a16_16 hl (k := 0) rfl (by decide) (by decide) rfl (fun ls hl => ?_)
  refine lv_goto (tgt := 6) hx hb dJ7_fill_d0a16_19 (by decide) ?_
  refine lv_iload_n hx hb dJ7_fill_d0a16_6 rfl (lv_at hl 0 rfl) ?_
  refine lv_iload hx hb dJ7_fill_d0a16_7 (lv_at hl 1 rfl) ?_
  refine lv_icmp_ge (tgt := 22) hx hb dJ7_fill_d0a16_9 (by decide) (fun h => absurd h (by decide)) (fun _ => ?_)
  refine lv_aload_n hx hb dJ7_fill_d0a16_12 rfl (lv_at hl 2 rfl) ?_
  refine lv_iload_n hx hb dJ7_fill_d0a16_13 rfl (lv_at hl 0 rfl) ?_
  refine lv_lload_n hx hb dJ7_fill_d0a16_14 rfl (lv_at hl 3 rfl) ?_
  refine va_last hx hb hK hP hD hS 0 1 rfl rfl (by unfold vp_in; decide) dJ7_fill_d0a16_15 (fun H locs hP hD hS => ?_)
  have e9 : vp_updL (fillF (f) 35 (v)) (35 : Int32).toNatClampNeg (v) = fillF (f) 36 (v) := fillF_sL (f) 35 (v)
  have hP : va_P D classes [(b, .inl (cT 1, 40, .inr (.inl (fillF (f) 36 (v)))))] H := by rw [← e9]; exact hP
  have hD : va_D A [(b, .inl (cT 1, 40, .inr (.inl (fillF (f) 36 (v)))))] := by rw [← e9]; exact hD
  refine lv_iinc (v := 36) (lv' := [(3, .int 36), (4, .int 40), (0, .ref b), (1, .long v)]) hx hb dJ7_fill_d0a16_16 hl (k := 0) rfl (by decide) (by decide) rfl (fun ls hl => ?_)
  refine lv_goto (tgt := 6) hx hb dJ7_fill_d0a16_19 (by decide) ?_
  refine lv_iload_n hx hb dJ7_fill_d0a16_6 rfl (lv_at hl 0 rfl) ?_
  refine lv_iload hx hb dJ7_fill_d0a16_7 (lv_at hl 1 rfl) ?_
  refine lv_icmp_ge (tgt := 22) hx hb dJ7_fill_d0a16_9 (by decide) (fun h => absurd h (by decide)) (fun _ => ?_)
  refine lv_aload_n hx hb dJ7_fill_d0a16_12 rfl (lv_at hl 2 rfl) ?_
  refine lv_iload_n hx hb dJ7_fill_d0a16_13 rfl (lv_at hl 0 rfl) ?_
  refine lv_lload_n hx hb dJ7_fill_d0a16_14 rfl (lv_at hl 3 rfl) ?_
  refine va_last hx hb hK hP hD hS 0 1 rfl rfl (by unfold vp_in; decide) dJ7_fill_d0a16_15 (fun H locs hP hD hS => ?_)
  have e9 : vp_updL (fillF (f) 36 (v)) (36 : Int32).toNatClampNeg (v) = fillF (f) 37 (v) := fillF_sL (f) 36 (v)
  have hP : va_P D classes [(b, .inl (cT 1, 40, .inr (.inl (fillF (f) 37 (v)))))] H := by rw [← e9]; exact hP
  have hD : va_D A [(b, .inl (cT 1, 40, .inr (.inl (fillF (f) 37 (v)))))] := by rw [← e9]; exact hD
  refine lv_iinc (v := 37) (lv' := [(3, .int 37), (4, .int 40), (0, .ref b), (1, .long v)]) hx hb dJ7_fill_d0a16_16 hl (k := 0) rfl (by decide) (by decide) rfl (fun ls hl => ?_)
  refine lv_goto (tgt := 6) hx hb dJ7_fill_d0a16_19 (by decide) ?_
  refine lv_iload_n hx hb dJ7_fill_d0a16_6 rfl (lv_at hl 0 rfl) ?_
  refine lv_iload hx hb dJ7_fill_d0a16_7 (lv_at hl 1 rfl) ?_
  refine lv_icmp_ge (tgt := 22) hx hb dJ7_fill_d0a16_9 (by decide) (fun h => absurd h (by decide)) (fun _ => ?_)
  refine lv_aload_n hx hb dJ7_fill_d0a16_12 rfl (lv_at hl 2 rfl) ?_
  refine lv_iload_n hx hb dJ7_fill_d0a16_13 rfl (lv_at hl 0 rfl) ?_
  refine lv_lload_n hx hb dJ7_fill_d0a16_14 rfl (lv_at hl 3 rfl) ?_
  refine va_last hx hb hK hP hD hS 0 1 rfl rfl (by unfold vp_in; decide) dJ7_fill_d0a16_15 (fun H locs hP hD hS => ?_)
  have e9 : vp_updL (fillF (f) 37 (v)) (37 : Int32).toNatClampNeg (v) = fillF (f) 38 (v) := fillF_sL (f) 37 (v)
  have hP : va_P D classes [(b, .inl (cT 1, 40, .inr (.inl (fillF (f) 38 (v)))))] H := by rw [← e9]; exact hP
  have hD : va_D A [(b, .inl (cT 1, 40, .inr (.inl (fillF (f) 38 (v)))))] := by rw [← e9]; exact hD
  refine lv_iinc (v := 38) (lv' := [(3, .int 38), (4, .int 40), (0, .ref b), (1, .long v)]) hx hb dJ7_fill_d0a16_16 hl (k := 0) rfl (by decide) (by decide) rfl (fun ls hl => ?_)
  refine lv_goto (tgt := 6) hx hb dJ7_fill_d0a16_19 (by decide) ?_
  refine lv_iload_n hx hb dJ7_fill_d0a16_6 rfl (lv_at hl 0 rfl) ?_
  refine lv_iload hx hb dJ7_fill_d0a16_7 (lv_at hl 1 rfl) ?_
  refine lv_icmp_ge (tgt := 22) hx hb dJ7_fill_d0a16_9 (by decide) (fun h => absurd h (by decide)) (fun _ => ?_)
  refine lv_aload_n hx hb dJ7_fill_d0a16_12 rfl (lv_at hl 2 rfl) ?_
  refine lv_iload_n hx hb dJ7_fill_d0a16_13 rfl (lv_at hl 0 rfl) ?_
  refine lv_lload_n hx hb dJ7_fill_d0a16_14 rfl (lv_at hl 3 rfl) ?_
  refine va_last hx hb hK hP hD hS 0 1 rfl rfl (by unfold vp_in; decide) dJ7_fill_d0a16_15 (fun H locs hP hD hS => ?_)
  have e9 : vp_updL (fillF (f) 38 (v)) (38 : Int32).toNatClampNeg (v) = fillF (f) 39 (v) := fillF_sL (f) 38 (v)
  have hP : va_P D classes [(b, .inl (cT 1, 40, .inr (.inl (fillF (f) 39 (v)))))] H := by rw [← e9]; exact hP
  have hD : va_D A [(b, .inl (cT 1, 40, .inr (.inl (fillF (f) 39 (v)))))] := by rw [← e9]; exact hD
  refine lv_iinc (v := 39) (lv' := [(3, .int 39), (4, .int 40), (0, .ref b), (1, .long v)]) hx hb dJ7_fill_d0a16_16 hl (k := 0) rfl (by decide) (by decide) rfl (fun ls hl => ?_)
  refine lv_goto (tgt := 6) hx hb dJ7_fill_d0a16_19 (by decide) ?_
  refine lv_iload_n hx hb dJ7_fill_d0a16_6 rfl (lv_at hl 0 rfl) ?_
  refine lv_iload hx hb dJ7_fill_d0a16_7 (lv_at hl 1 rfl) ?_
  refine lv_icmp_ge (tgt := 22) hx hb dJ7_fill_d0a16_9 (by decide) (fun h => absurd h (by decide)) (fun _ => ?_)
  refine lv_aload_n hx hb dJ7_fill_d0a16_12 rfl (lv_at hl 2 rfl) ?_
  refine lv_iload_n hx hb dJ7_fill_d0a16_13 rfl (lv_at hl 0 rfl) ?_
  refine lv_lload_n hx hb dJ7_fill_d0a16_14 rfl (lv_at hl 3 rfl) ?_
  refine va_last hx hb hK hP hD hS 0 1 rfl rfl (by unfold vp_in; decide) dJ7_fill_d0a16_15 (fun H locs hP hD hS => ?_)
  have e9 : vp_updL (fillF (f) 39 (v)) (39 : Int32).toNatClampNeg (v) = fillF (f) 40 (v) := fillF_sL (f) 39 (v)
  have hP : va_P D classes [(b, .inl (cT 1, 40, .inr (.inl (fillF (f) 40 (v)))))] H := by rw [← e9]; exact hP
  have hD : va_D A [(b, .inl (cT 1, 40, .inr (.inl (fillF (f) 40 (v)))))] := by rw [← e9]; exact hD
  refine lv_iinc (v := 40) (lv' := [(3, .int 40), (4, .int 40), (0, .ref b), (1, .long v)]) hx hb dJ7_fill_d0a16_16 hl (k := 0) rfl (by decide) (by decide) rfl (fun ls hl => ?_)
  refine lv_goto (tgt := 6) hx hb dJ7_fill_d0a16_19 (by decide) ?_
  refine lv_iload_n hx hb dJ7_fill_d0a16_6 rfl (lv_at hl 0 rfl) ?_
  refine lv_iload hx hb dJ7_fill_d0a16_7 (lv_at hl 1 rfl) ?_
  refine lv_icmp_ge (tgt := 22) hx hb dJ7_fill_d0a16_9 (by decide) (fun _ => ?_) (fun h => absurd (by decide) h)
  exact x_vret hx hb hr hlk hP hD hS [0] (()) rfl (by decide) trivial (by decide) (by decide) dJ7_fill_d0a16_22
set_option maxHeartbeats 4000000 in
set_option maxRecDepth 100000 in
theorem c_empty (l : Launch) (D : va_G) (cT : Nat → ClassId) (sz : Nat) (h0 : Nat) (a : Nat → Nat) (v4 : Int32) (v5 : Int32) (v6 : Int32) (v7 : Int32) (f : Nat → Int32) : Met l yX3_empty (wsc yX3_empty cX3_empty 1 none) { frames := 3, cells := 0, slots := 0, locals := 123 } (va_Pc [.ref h0] (PX D cT sz [(h0, .inr (3, [.int 0, .int 0, .int 0, .int 0, .int v4, .int v5, .int v6, .int v7, .int 0, .int 0, .ref (a 0), .ref (a 1), .ref (a 2), .ref (a 3), .ref (a 4), .ref (a 5)])), ((a 5), .inl (cT 0, 6, .inl (f)))])) (va_Qv (fun (u : Unit) => True) (fun u t => RW D (va_A [(h0, .inr (3, [.int 0, .int 0, .int 0, .int 0, .int v4, .int v5, .int v6, .int v7, .int 0, .int 0, .ref (a 0), .ref (a 1), .ref (a 2), .ref (a 3), .ref (a 4), .ref (a 5)])), ((a 5), .inl (cT 0, 6, .inl (f)))] sz) ((fun _ : Unit => [(h0, .inr (3, [.int 0, .int 0, .int 0, .int 0, .int 6, .int 6, .int 1, .int 60, .int 0, .int 0, .ref (a 0), .ref (a 1), .ref (a 2), .ref (a 3), .ref (a 4), .ref (a 5)])), ((a 5), .inl (cT 0, 6, .inl (fillF (f) 6 (1))))]) u) t) (va_A [(h0, .inr (3, [.int 0, .int 0, .int 0, .int 0, .int v4, .int v5, .int v6, .int v7, .int 0, .int 0, .ref (a 0), .ref (a 1), .ref (a 2), .ref (a 3), .ref (a 4), .ref (a 5)])), ((a 5), .inl (cT 0, 6, .inl (f)))] sz)) 0 0 (va_A [(h0, .inr (3, [.int 0, .int 0, .int 0, .int 0, .int v4, .int v5, .int v6, .int v7, .int 0, .int 0, .ref (a 0), .ref (a 1), .ref (a 2), .ref (a 3), .ref (a 4), .ref (a 5)])), ((a 5), .inl (cT 0, 6, .inl (f)))] sz) := by
  refine m_of (y := yX3_empty) (cc := cX3_empty) (nL := 1) (ret := none) (D := D) (cT := cT) (av := [.ref h0]) (wi := [(h0, .inr (3, [.int 0, .int 0, .int 0, .int 0, .int v4, .int v5, .int v6, .int v7, .int 0, .int 0, .ref (a 0), .ref (a 1), .ref (a 2), .ref (a 3), .ref (a 4), .ref (a 5)])), ((a 5), .inl (cT 0, 6, .inl (f)))]) (fun A => va_Qv (fun (u : Unit) => True) (fun u t => RW D A ((fun _ : Unit => [(h0, .inr (3, [.int 0, .int 0, .int 0, .int 0, .int 6, .int 6, .int 1, .int 60, .int 0, .int 0, .ref (a 0), .ref (a 1), .ref (a 2), .ref (a 3), .ref (a 4), .ref (a 5)])), ((a 5), .inl (cT 0, 6, .inl (fillF (f) 6 (1))))]) u) t) A) (by decide) (Nat.le_of_ble_eq_true rfl) ?_
  intro p e s m below meth c A hx hb hml hown htg hK hN hr hlk hnm hsz hP hD hS hA ls hl
  have hown : s.vm.findClass RX3 = some m.cls := hown
  have hl : lv_has ls 1 [(0, .ref h0)] := hl
  refine lv_aload_n hx hb dX3_empty_0 rfl (lv_at hl 0 rfl) ?_
  refine lv_iconst (v := 0) hx hb dX3_empty_1 (by decide) ?_
  refine va_put (D := D) (ci := 3) (v := .int 0) (ty := .int) (C := RX3) (T := TX3) (N := 16) hx hb htg gRX3 tyX3 tyX3_ok nmX3 hown hK hP hD hS 0 rfl rfl 0 (by decide) (htg _ wi_166) (fun _ h9 => h9) rfl (by decide +kernel) rfl rfl (Nat.le_of_ble_eq_true rfl) dX3_empty_2 (fun H locs hP hD hS => ?_)
  have hP : va_P D classes [(h0, .inr (3, [.int 0, .int 0, .int 0, .int 0, .int v4, .int v5, .int v6, .int v7, .int 0, .int 0, .ref (a 0), .ref (a 1), .ref (a 2), .ref (a 3), .ref (a 4), .ref (a 5)])), ((a 5), .inl (cT 0, 6, .inl (f)))] _ := hP
  have hD : va_D A [(h0, .inr (3, [.int 0, .int 0, .int 0, .int 0, .int v4, .int v5, .int v6, .int v7, .int 0, .int 0, .ref (a 0), .ref (a 1), .ref (a 2), .ref (a 3), .ref (a 4), .ref (a 5)])), ((a 5), .inl (cT 0, 6, .inl (f)))] := hD
  refine lv_aload_n hx hb dX3_empty_5 rfl (lv_at hl 0 rfl) ?_
  refine lv_iconst (v := 0) hx hb dX3_empty_6 (by decide) ?_
  refine va_put (D := D) (ci := 3) (v := .int 0) (ty := .int) (C := RX3) (T := TX3) (N := 16) hx hb htg gRX3 tyX3 tyX3_ok nmX3 hown hK hP hD hS 0 rfl rfl 1 (by decide) (htg _ wi_173) (fun _ h9 => h9) rfl (by decide +kernel) rfl rfl (Nat.le_of_ble_eq_true rfl) dX3_empty_7 (fun H locs hP hD hS => ?_)
  have hP : va_P D classes [(h0, .inr (3, [.int 0, .int 0, .int 0, .int 0, .int v4, .int v5, .int v6, .int v7, .int 0, .int 0, .ref (a 0), .ref (a 1), .ref (a 2), .ref (a 3), .ref (a 4), .ref (a 5)])), ((a 5), .inl (cT 0, 6, .inl (f)))] _ := hP
  have hD : va_D A [(h0, .inr (3, [.int 0, .int 0, .int 0, .int 0, .int v4, .int v5, .int v6, .int v7, .int 0, .int 0, .ref (a 0), .ref (a 1), .ref (a 2), .ref (a 3), .ref (a 4), .ref (a 5)])), ((a 5), .inl (cT 0, 6, .inl (f)))] := hD
  refine lv_aload_n hx hb dX3_empty_10 rfl (lv_at hl 0 rfl) ?_
  refine lv_iconst (v := 0) hx hb dX3_empty_11 (by decide) ?_
  refine va_put (D := D) (ci := 3) (v := .int 0) (ty := .int) (C := RX3) (T := TX3) (N := 16) hx hb htg gRX3 tyX3 tyX3_ok nmX3 hown hK hP hD hS 0 rfl rfl 2 (by decide) (htg _ wi_176) (fun _ h9 => h9) rfl (by decide +kernel) rfl rfl (Nat.le_of_ble_eq_true rfl) dX3_empty_12 (fun H locs hP hD hS => ?_)
  have hP : va_P D classes [(h0, .inr (3, [.int 0, .int 0, .int 0, .int 0, .int v4, .int v5, .int v6, .int v7, .int 0, .int 0, .ref (a 0), .ref (a 1), .ref (a 2), .ref (a 3), .ref (a 4), .ref (a 5)])), ((a 5), .inl (cT 0, 6, .inl (f)))] _ := hP
  have hD : va_D A [(h0, .inr (3, [.int 0, .int 0, .int 0, .int 0, .int v4, .int v5, .int v6, .int v7, .int 0, .int 0, .ref (a 0), .ref (a 1), .ref (a 2), .ref (a 3), .ref (a 4), .ref (a 5)])), ((a 5), .inl (cT 0, 6, .inl (f)))] := hD
  refine lv_aload_n hx hb dX3_empty_15 rfl (lv_at hl 0 rfl) ?_
  refine lv_iconst (v := 0) hx hb dX3_empty_16 (by decide) ?_
  refine va_put (D := D) (ci := 3) (v := .int 0) (ty := .int) (C := RX3) (T := TX3) (N := 16) hx hb htg gRX3 tyX3 tyX3_ok nmX3 hown hK hP hD hS 0 rfl rfl 3 (by decide) (htg _ wi_178) (fun _ h9 => h9) rfl (by decide +kernel) rfl rfl (Nat.le_of_ble_eq_true rfl) dX3_empty_17 (fun H locs hP hD hS => ?_)
  have hP : va_P D classes [(h0, .inr (3, [.int 0, .int 0, .int 0, .int 0, .int v4, .int v5, .int v6, .int v7, .int 0, .int 0, .ref (a 0), .ref (a 1), .ref (a 2), .ref (a 3), .ref (a 4), .ref (a 5)])), ((a 5), .inl (cT 0, 6, .inl (f)))] _ := hP
  have hD : va_D A [(h0, .inr (3, [.int 0, .int 0, .int 0, .int 0, .int v4, .int v5, .int v6, .int v7, .int 0, .int 0, .ref (a 0), .ref (a 1), .ref (a 2), .ref (a 3), .ref (a 4), .ref (a 5)])), ((a 5), .inl (cT 0, 6, .inl (f)))] := hD
  refine lv_aload_n hx hb dX3_empty_20 rfl (lv_at hl 0 rfl) ?_
  refine lv_bipush (v := 6) hx hb dX3_empty_21 (by decide) ?_
  refine va_put (D := D) (ci := 3) (v := .int 6) (ty := .int) (C := RX3) (T := TX3) (N := 16) hx hb htg gRX3 tyX3 tyX3_ok nmX3 hown hK hP hD hS 0 rfl rfl 4 (by decide) (htg _ wi_181) (fun _ h9 => h9) rfl (by decide +kernel) rfl rfl (Nat.le_of_ble_eq_true rfl) dX3_empty_23 (fun H locs hP hD hS => ?_)
  have hP : va_P D classes [(h0, .inr (3, [.int 0, .int 0, .int 0, .int 0, .int 6, .int v5, .int v6, .int v7, .int 0, .int 0, .ref (a 0), .ref (a 1), .ref (a 2), .ref (a 3), .ref (a 4), .ref (a 5)])), ((a 5), .inl (cT 0, 6, .inl (f)))] _ := hP
  have hD : va_D A [(h0, .inr (3, [.int 0, .int 0, .int 0, .int 0, .int 6, .int v5, .int v6, .int v7, .int 0, .int 0, .ref (a 0), .ref (a 1), .ref (a 2), .ref (a 3), .ref (a 4), .ref (a 5)])), ((a 5), .inl (cT 0, 6, .inl (f)))] := hD
  refine lv_aload_n hx hb dX3_empty_26 rfl (lv_at hl 0 rfl) ?_
  refine lv_bipush (v := 6) hx hb dX3_empty_27 (by decide) ?_
  refine va_put (D := D) (ci := 3) (v := .int 6) (ty := .int) (C := RX3) (T := TX3) (N := 16) hx hb htg gRX3 tyX3 tyX3_ok nmX3 hown hK hP hD hS 0 rfl rfl 5 (by decide) (htg _ wi_184) (fun _ h9 => h9) rfl (by decide +kernel) rfl rfl (Nat.le_of_ble_eq_true rfl) dX3_empty_29 (fun H locs hP hD hS => ?_)
  have hP : va_P D classes [(h0, .inr (3, [.int 0, .int 0, .int 0, .int 0, .int 6, .int 6, .int v6, .int v7, .int 0, .int 0, .ref (a 0), .ref (a 1), .ref (a 2), .ref (a 3), .ref (a 4), .ref (a 5)])), ((a 5), .inl (cT 0, 6, .inl (f)))] _ := hP
  have hD : va_D A [(h0, .inr (3, [.int 0, .int 0, .int 0, .int 0, .int 6, .int 6, .int v6, .int v7, .int 0, .int 0, .ref (a 0), .ref (a 1), .ref (a 2), .ref (a 3), .ref (a 4), .ref (a 5)])), ((a 5), .inl (cT 0, 6, .inl (f)))] := hD
  refine lv_aload_n hx hb dX3_empty_32 rfl (lv_at hl 0 rfl) ?_
  refine lv_iconst (v := 1) hx hb dX3_empty_33 (by decide) ?_
  refine va_put (D := D) (ci := 3) (v := .int 1) (ty := .int) (C := RX3) (T := TX3) (N := 16) hx hb htg gRX3 tyX3 tyX3_ok nmX3 hown hK hP hD hS 0 rfl rfl 6 (by decide) (htg _ wi_187) (fun _ h9 => h9) rfl (by decide +kernel) rfl rfl (Nat.le_of_ble_eq_true rfl) dX3_empty_34 (fun H locs hP hD hS => ?_)
  have hP : va_P D classes [(h0, .inr (3, [.int 0, .int 0, .int 0, .int 0, .int 6, .int 6, .int 1, .int v7, .int 0, .int 0, .ref (a 0), .ref (a 1), .ref (a 2), .ref (a 3), .ref (a 4), .ref (a 5)])), ((a 5), .inl (cT 0, 6, .inl (f)))] _ := hP
  have hD : va_D A [(h0, .inr (3, [.int 0, .int 0, .int 0, .int 0, .int 6, .int 6, .int 1, .int v7, .int 0, .int 0, .ref (a 0), .ref (a 1), .ref (a 2), .ref (a 3), .ref (a 4), .ref (a 5)])), ((a 5), .inl (cT 0, 6, .inl (f)))] := hD
  refine lv_aload_n hx hb dX3_empty_37 rfl (lv_at hl 0 rfl) ?_
  refine lv_bipush (v := 60) hx hb dX3_empty_38 (by decide) ?_
  refine va_put (D := D) (ci := 3) (v := .int 60) (ty := .int) (C := RX3) (T := TX3) (N := 16) hx hb htg gRX3 tyX3 tyX3_ok nmX3 hown hK hP hD hS 0 rfl rfl 7 (by decide) (htg _ wi_190) (fun _ h9 => h9) rfl (by decide +kernel) rfl rfl (Nat.le_of_ble_eq_true rfl) dX3_empty_40 (fun H locs hP hD hS => ?_)
  have hP : va_P D classes [(h0, .inr (3, [.int 0, .int 0, .int 0, .int 0, .int 6, .int 6, .int 1, .int 60, .int 0, .int 0, .ref (a 0), .ref (a 1), .ref (a 2), .ref (a 3), .ref (a 4), .ref (a 5)])), ((a 5), .inl (cT 0, 6, .inl (f)))] _ := hP
  have hD : va_D A [(h0, .inr (3, [.int 0, .int 0, .int 0, .int 0, .int 6, .int 6, .int 1, .int 60, .int 0, .int 0, .ref (a 0), .ref (a 1), .ref (a 2), .ref (a 3), .ref (a 4), .ref (a 5)])), ((a 5), .inl (cT 0, 6, .inl (f)))] := hD
  refine lv_aload_n hx hb dX3_empty_43 rfl (lv_at hl 0 rfl) ?_
  refine lv_iconst (v := 0) hx hb dX3_empty_44 (by decide) ?_
  refine va_put (D := D) (ci := 3) (v := .int 0) (ty := .int) (C := RX3) (T := TX3) (N := 16) hx hb htg gRX3 tyX3 tyX3_ok nmX3 hown hK hP hD hS 0 rfl rfl 8 (by decide) (htg _ wi_193) (fun _ h9 => h9) rfl (by decide +kernel) rfl rfl (Nat.le_of_ble_eq_true rfl) dX3_empty_45 (fun H locs hP hD hS => ?_)
  have hP : va_P D classes [(h0, .inr (3, [.int 0, .int 0, .int 0, .int 0, .int 6, .int 6, .int 1, .int 60, .int 0, .int 0, .ref (a 0), .ref (a 1), .ref (a 2), .ref (a 3), .ref (a 4), .ref (a 5)])), ((a 5), .inl (cT 0, 6, .inl (f)))] _ := hP
  have hD : va_D A [(h0, .inr (3, [.int 0, .int 0, .int 0, .int 0, .int 6, .int 6, .int 1, .int 60, .int 0, .int 0, .ref (a 0), .ref (a 1), .ref (a 2), .ref (a 3), .ref (a 4), .ref (a 5)])), ((a 5), .inl (cT 0, 6, .inl (f)))] := hD
  refine lv_aload_n hx hb dX3_empty_48 rfl (lv_at hl 0 rfl) ?_
  refine lv_iconst (v := 0) hx hb dX3_empty_49 (by decide) ?_
  refine va_put (D := D) (ci := 3) (v := .int 0) (ty := .int) (C := RX3) (T := TX3) (N := 16) hx hb htg gRX3 tyX3 tyX3_ok nmX3 hown hK hP hD hS 0 rfl rfl 9 (by decide) (htg _ wi_196) (fun _ h9 => h9) rfl (by decide +kernel) rfl rfl (Nat.le_of_ble_eq_true rfl) dX3_empty_50 (fun H locs hP hD hS => ?_)
  have hP : va_P D classes [(h0, .inr (3, [.int 0, .int 0, .int 0, .int 0, .int 6, .int 6, .int 1, .int 60, .int 0, .int 0, .ref (a 0), .ref (a 1), .ref (a 2), .ref (a 3), .ref (a 4), .ref (a 5)])), ((a 5), .inl (cT 0, 6, .inl (f)))] _ := hP
  have hD : va_D A [(h0, .inr (3, [.int 0, .int 0, .int 0, .int 0, .int 6, .int 6, .int 1, .int 60, .int 0, .int 0, .ref (a 0), .ref (a 1), .ref (a 2), .ref (a 3), .ref (a 4), .ref (a 5)])), ((a 5), .inl (cT 0, 6, .inl (f)))] := hD
  refine lv_aload_n hx hb dX3_empty_53 rfl (lv_at hl 0 rfl) ?_
  refine va_get (D := D) (ci := 3) (v := .ref (a 5)) (C := RX3) (T := TX3) (N := 16) hx hb htg gRX3 hown hK hP 0 rfl rfl 15 (by decide) (htg _ wi_213) (fun _ h9 => h9) rfl dX3_empty_54 ?_
  refine lv_iconst (v := 1) hx hb dX3_empty_57 (by decide) ?_
  refine xk_v (wr := [(h0, .inr (3, [.int 0, .int 0, .int 0, .int 0, .int 6, .int 6, .int 1, .int 60, .int 0, .int 0, .ref (a 0), .ref (a 1), .ref (a 2), .ref (a 3), .ref (a 4), .ref (a 5)]))]) (xr_S (n := 2) (As := [.ref (a 5), .int 1]) (rest := []) ⟨hx, hb, hml, hown, htg⟩ hK hN hP hD [1] rfl (by decide) (c_fillI6 l D cT _ ((a 5)) (f) (1)) wi_163 wi_164 wi_124 wi_165 ⟨rfl, by decide +kernel⟩ ⟨Nat.le_of_ble_eq_true rfl, Nat.le_of_ble_eq_true rfl⟩ rfl hl.1 rfl (Nat.le_of_ble_eq_true rfl) dX3_empty_58 ⟨Nat.le_of_ble_eq_true rfl, Nat.le_of_ble_eq_true rfl⟩) hP hD hS hA [1] [0] rfl rfl (by decide) (by decide) (fun u_1 H locs hwr_2 hP hD hS => ?_)
  have hP : va_P D classes [(h0, .inr (3, [.int 0, .int 0, .int 0, .int 0, .int 6, .int 6, .int 1, .int 60, .int 0, .int 0, .ref (a 0), .ref (a 1), .ref (a 2), .ref (a 3), .ref (a 4), .ref (a 5)])), ((a 5), .inl (cT 0, 6, .inl (fillF (f) 6 (1))))] _ := hP
  have hD : va_D A [(h0, .inr (3, [.int 0, .int 0, .int 0, .int 0, .int 6, .int 6, .int 1, .int 60, .int 0, .int 0, .ref (a 0), .ref (a 1), .ref (a 2), .ref (a 3), .ref (a 4), .ref (a 5)])), ((a 5), .inl (cT 0, 6, .inl (fillF (f) 6 (1))))] := hD
  exact x_vret hx hb hr hlk hP hD hS [0, 1] (()) rfl (by decide) trivial (by decide) (by decide) dX3_empty_61
set_option maxHeartbeats 4000000 in
set_option maxRecDepth 100000 in
theorem c_plain (l : Launch) (D : va_G) (cT : Nat → ClassId) (sz : Nat) (h0 : Nat) : Met l yX3_init (wsc yX3_init cX3_init 1 none) { frames := 4, cells := 6, slots := 86, locals := 143 } (va_Pc [.ref h0] (PX D cT sz [(h0, .inr (3, [.int 0, .int 0, .int 0, .int 0, .int 0, .int 0, .int 0, .int 0, .int 0, .int 0, .null, .null, .null, .null, .null, .null]))])) (va_Qv (fun (u : Nat → Nat) => True) (fun u t => RW D (va_A [(h0, .inr (3, [.int 0, .int 0, .int 0, .int 0, .int 0, .int 0, .int 0, .int 0, .int 0, .int 0, .null, .null, .null, .null, .null, .null]))] sz) ((fun u : Nat → Nat => [(h0, .inr (3, [.int 0, .int 0, .int 0, .int 0, .int 6, .int 6, .int 1, .int 60, .int 0, .int 0, .ref (u 0), .ref (u 1), .ref (u 2), .ref (u 3), .ref (u 4), .ref (u 5)])), ((u 0), .inl (cT 0, 16, .inl (fun _ => 0))), ((u 1), .inl (cT 0, 16, .inl (fun _ => 0))), ((u 2), .inl (cT 0, 16, .inl (fun _ => 0))), ((u 3), .inl (cT 0, 16, .inl (fun _ => 0))), ((u 4), .inl (cT 0, 16, .inl (fun _ => 0))), ((u 5), .inl (cT 0, 6, .inl (fillF (fun _ => 0) 6 (1))))]) u) t) (va_A [(h0, .inr (3, [.int 0, .int 0, .int 0, .int 0, .int 0, .int 0, .int 0, .int 0, .int 0, .int 0, .null, .null, .null, .null, .null, .null]))] sz)) 6 86 (va_A [(h0, .inr (3, [.int 0, .int 0, .int 0, .int 0, .int 0, .int 0, .int 0, .int 0, .int 0, .int 0, .null, .null, .null, .null, .null, .null]))] sz) := by
  refine m_of (y := yX3_init) (cc := cX3_init) (nL := 1) (ret := none) (D := D) (cT := cT) (av := [.ref h0]) (wi := [(h0, .inr (3, [.int 0, .int 0, .int 0, .int 0, .int 0, .int 0, .int 0, .int 0, .int 0, .int 0, .null, .null, .null, .null, .null, .null]))]) (fun A => va_Qv (fun (u : Nat → Nat) => True) (fun u t => RW D A ((fun u : Nat → Nat => [(h0, .inr (3, [.int 0, .int 0, .int 0, .int 0, .int 6, .int 6, .int 1, .int 60, .int 0, .int 0, .ref (u 0), .ref (u 1), .ref (u 2), .ref (u 3), .ref (u 4), .ref (u 5)])), ((u 0), .inl (cT 0, 16, .inl (fun _ => 0))), ((u 1), .inl (cT 0, 16, .inl (fun _ => 0))), ((u 2), .inl (cT 0, 16, .inl (fun _ => 0))), ((u 3), .inl (cT 0, 16, .inl (fun _ => 0))), ((u 4), .inl (cT 0, 16, .inl (fun _ => 0))), ((u 5), .inl (cT 0, 6, .inl (fillF (fun _ => 0) 6 (1))))]) u) t) A) (by decide) (Nat.le_of_ble_eq_true rfl) ?_
  intro p e s m below meth c A hx hb hml hown htg hK hN hr hlk hnm hsz hP hD hS hA ls hl
  have hown : s.vm.findClass RX3 = some m.cls := hown
  have hl : lv_has ls 1 [(0, .ref h0)] := hl
  refine lv_aload_n hx hb dX3_init_0 rfl (lv_at hl 0 rfl) ?_
  refine W.objInit hx hb hown (htg _ wi_158) (htg _ wi_145) (htg _ wi_146) rfl (by rw [hml]; exact hl.1) rfl dX3_init_1 (Nat.le_of_ble_eq_true rfl) (Nat.le_of_ble_eq_true rfl) ?_
  refine W.eq (g2 := F0 m 4 ls []) rfl ?_
  refine lv_aload_n hx hb dX3_init_4 rfl (lv_at hl 0 rfl) ?_
  refine lv_bipush (v := 16) hx hb dX3_init_5 (by decide) ?_
  refine x_newa hx hb (ty := .int) rfl (htg _ wi_251) hK hP hD hS hA 16 0 rfl (16, .inl (fun _ => 0)) (fun _ => rfl) (by decide) (by decide) (by decide) (by decide) (by decide) dX3_init_7 (fun a_1 H hP hD hS => ?_)
  have hP : va_P D classes [(h0, .inr (3, [.int 0, .int 0, .int 0, .int 0, .int 0, .int 0, .int 0, .int 0, .int 0, .int 0, .null, .null, .null, .null, .null, .null])), (a_1, .inl (cT 0, 16, .inl (fun _ => 0)))] _ := hP
  have hD : va_D A [(h0, .inr (3, [.int 0, .int 0, .int 0, .int 0, .int 0, .int 0, .int 0, .int 0, .int 0, .int 0, .null, .null, .null, .null, .null, .null])), (a_1, .inl (cT 0, 16, .inl (fun _ => 0)))] := hD
  refine va_putF (D := D) (ci := 3) (v := .ref a_1) (ty := .array .int) (C := RX3) (T := TX3) (N := 16) hx hb htg gRX3 tyX3 tyX3_ok nmX3 hown hK hP hD hS 0 rfl rfl 10 (by decide) (htg _ wi_199) (fun _ h9 => h9) rfl hnm rfl (by decide +kernel) rfl rfl (Nat.le_of_ble_eq_true rfl) dX3_init_9 (fun H locs hP hD hS => ?_)
  have hP : va_P D classes [(h0, .inr (3, [.int 0, .int 0, .int 0, .int 0, .int 0, .int 0, .int 0, .int 0, .int 0, .int 0, .ref a_1, .null, .null, .null, .null, .null])), (a_1, .inl (cT 0, 16, .inl (fun _ => 0)))] _ := hP
  have hD : va_D A [(h0, .inr (3, [.int 0, .int 0, .int 0, .int 0, .int 0, .int 0, .int 0, .int 0, .int 0, .int 0, .ref a_1, .null, .null, .null, .null, .null])), (a_1, .inl (cT 0, 16, .inl (fun _ => 0)))] := hD
  refine lv_aload_n hx hb dX3_init_12 rfl (lv_at hl 0 rfl) ?_
  refine lv_bipush (v := 16) hx hb dX3_init_13 (by decide) ?_
  refine x_newa hx hb (ty := .int) rfl (htg _ wi_251) hK hP hD hS hA 16 0 rfl (16, .inl (fun _ => 0)) (fun _ => rfl) (by decide) (by decide) (by decide) (by decide) (by decide) dX3_init_15 (fun a_2 H hP hD hS => ?_)
  have hP : va_P D classes [(h0, .inr (3, [.int 0, .int 0, .int 0, .int 0, .int 0, .int 0, .int 0, .int 0, .int 0, .int 0, .ref a_1, .null, .null, .null, .null, .null])), (a_1, .inl (cT 0, 16, .inl (fun _ => 0))), (a_2, .inl (cT 0, 16, .inl (fun _ => 0)))] _ := hP
  have hD : va_D A [(h0, .inr (3, [.int 0, .int 0, .int 0, .int 0, .int 0, .int 0, .int 0, .int 0, .int 0, .int 0, .ref a_1, .null, .null, .null, .null, .null])), (a_1, .inl (cT 0, 16, .inl (fun _ => 0))), (a_2, .inl (cT 0, 16, .inl (fun _ => 0)))] := hD
  refine va_putF (D := D) (ci := 3) (v := .ref a_2) (ty := .array .int) (C := RX3) (T := TX3) (N := 16) hx hb htg gRX3 tyX3 tyX3_ok nmX3 hown hK hP hD hS 0 rfl rfl 11 (by decide) (htg _ wi_203) (fun _ h9 => h9) rfl hnm rfl (by decide +kernel) rfl rfl (Nat.le_of_ble_eq_true rfl) dX3_init_17 (fun H locs hP hD hS => ?_)
  have hP : va_P D classes [(h0, .inr (3, [.int 0, .int 0, .int 0, .int 0, .int 0, .int 0, .int 0, .int 0, .int 0, .int 0, .ref a_1, .ref a_2, .null, .null, .null, .null])), (a_1, .inl (cT 0, 16, .inl (fun _ => 0))), (a_2, .inl (cT 0, 16, .inl (fun _ => 0)))] _ := hP
  have hD : va_D A [(h0, .inr (3, [.int 0, .int 0, .int 0, .int 0, .int 0, .int 0, .int 0, .int 0, .int 0, .int 0, .ref a_1, .ref a_2, .null, .null, .null, .null])), (a_1, .inl (cT 0, 16, .inl (fun _ => 0))), (a_2, .inl (cT 0, 16, .inl (fun _ => 0)))] := hD
  refine lv_aload_n hx hb dX3_init_20 rfl (lv_at hl 0 rfl) ?_
  refine lv_bipush (v := 16) hx hb dX3_init_21 (by decide) ?_
  refine x_newa hx hb (ty := .int) rfl (htg _ wi_251) hK hP hD hS hA 16 0 rfl (16, .inl (fun _ => 0)) (fun _ => rfl) (by decide) (by decide) (by decide) (by decide) (by decide) dX3_init_23 (fun a_3 H hP hD hS => ?_)
  have hP : va_P D classes [(h0, .inr (3, [.int 0, .int 0, .int 0, .int 0, .int 0, .int 0, .int 0, .int 0, .int 0, .int 0, .ref a_1, .ref a_2, .null, .null, .null, .null])), (a_1, .inl (cT 0, 16, .inl (fun _ => 0))), (a_2, .inl (cT 0, 16, .inl (fun _ => 0))), (a_3, .inl (cT 0, 16, .inl (fun _ => 0)))] _ := hP
  have hD : va_D A [(h0, .inr (3, [.int 0, .int 0, .int 0, .int 0, .int 0, .int 0, .int 0, .int 0, .int 0, .int 0, .ref a_1, .ref a_2, .null, .null, .null, .null])), (a_1, .inl (cT 0, 16, .inl (fun _ => 0))), (a_2, .inl (cT 0, 16, .inl (fun _ => 0))), (a_3, .inl (cT 0, 16, .inl (fun _ => 0)))] := hD
  refine va_putF (D := D) (ci := 3) (v := .ref a_3) (ty := .array .int) (C := RX3) (T := TX3) (N := 16) hx hb htg gRX3 tyX3 tyX3_ok nmX3 hown hK hP hD hS 0 rfl rfl 12 (by decide) (htg _ wi_206) (fun _ h9 => h9) rfl hnm rfl (by decide +kernel) rfl rfl (Nat.le_of_ble_eq_true rfl) dX3_init_25 (fun H locs hP hD hS => ?_)
  have hP : va_P D classes [(h0, .inr (3, [.int 0, .int 0, .int 0, .int 0, .int 0, .int 0, .int 0, .int 0, .int 0, .int 0, .ref a_1, .ref a_2, .ref a_3, .null, .null, .null])), (a_1, .inl (cT 0, 16, .inl (fun _ => 0))), (a_2, .inl (cT 0, 16, .inl (fun _ => 0))), (a_3, .inl (cT 0, 16, .inl (fun _ => 0)))] _ := hP
  have hD : va_D A [(h0, .inr (3, [.int 0, .int 0, .int 0, .int 0, .int 0, .int 0, .int 0, .int 0, .int 0, .int 0, .ref a_1, .ref a_2, .ref a_3, .null, .null, .null])), (a_1, .inl (cT 0, 16, .inl (fun _ => 0))), (a_2, .inl (cT 0, 16, .inl (fun _ => 0))), (a_3, .inl (cT 0, 16, .inl (fun _ => 0)))] := hD
  refine lv_aload_n hx hb dX3_init_28 rfl (lv_at hl 0 rfl) ?_
  refine lv_bipush (v := 16) hx hb dX3_init_29 (by decide) ?_
  refine x_newa hx hb (ty := .int) rfl (htg _ wi_251) hK hP hD hS hA 16 0 rfl (16, .inl (fun _ => 0)) (fun _ => rfl) (by decide) (by decide) (by decide) (by decide) (by decide) dX3_init_31 (fun a_4 H hP hD hS => ?_)
  have hP : va_P D classes [(h0, .inr (3, [.int 0, .int 0, .int 0, .int 0, .int 0, .int 0, .int 0, .int 0, .int 0, .int 0, .ref a_1, .ref a_2, .ref a_3, .null, .null, .null])), (a_1, .inl (cT 0, 16, .inl (fun _ => 0))), (a_2, .inl (cT 0, 16, .inl (fun _ => 0))), (a_3, .inl (cT 0, 16, .inl (fun _ => 0))), (a_4, .inl (cT 0, 16, .inl (fun _ => 0)))] _ := hP
  have hD : va_D A [(h0, .inr (3, [.int 0, .int 0, .int 0, .int 0, .int 0, .int 0, .int 0, .int 0, .int 0, .int 0, .ref a_1, .ref a_2, .ref a_3, .null, .null, .null])), (a_1, .inl (cT 0, 16, .inl (fun _ => 0))), (a_2, .inl (cT 0, 16, .inl (fun _ => 0))), (a_3, .inl (cT 0, 16, .inl (fun _ => 0))), (a_4, .inl (cT 0, 16, .inl (fun _ => 0)))] := hD
  refine va_putF (D := D) (ci := 3) (v := .ref a_4) (ty := .array .int) (C := RX3) (T := TX3) (N := 16) hx hb htg gRX3 tyX3 tyX3_ok nmX3 hown hK hP hD hS 0 rfl rfl 13 (by decide) (htg _ wi_208) (fun _ h9 => h9) rfl hnm rfl (by decide +kernel) rfl rfl (Nat.le_of_ble_eq_true rfl) dX3_init_33 (fun H locs hP hD hS => ?_)
  have hP : va_P D classes [(h0, .inr (3, [.int 0, .int 0, .int 0, .int 0, .int 0, .int 0, .int 0, .int 0, .int 0, .int 0, .ref a_1, .ref a_2, .ref a_3, .ref a_4, .null, .null])), (a_1, .inl (cT 0, 16, .inl (fun _ => 0))), (a_2, .inl (cT 0, 16, .inl (fun _ => 0))), (a_3, .inl (cT 0, 16, .inl (fun _ => 0))), (a_4, .inl (cT 0, 16, .inl (fun _ => 0)))] _ := hP
  have hD : va_D A [(h0, .inr (3, [.int 0, .int 0, .int 0, .int 0, .int 0, .int 0, .int 0, .int 0, .int 0, .int 0, .ref a_1, .ref a_2, .ref a_3, .ref a_4, .null, .null])), (a_1, .inl (cT 0, 16, .inl (fun _ => 0))), (a_2, .inl (cT 0, 16, .inl (fun _ => 0))), (a_3, .inl (cT 0, 16, .inl (fun _ => 0))), (a_4, .inl (cT 0, 16, .inl (fun _ => 0)))] := hD
  refine lv_aload_n hx hb dX3_init_36 rfl (lv_at hl 0 rfl) ?_
  refine lv_bipush (v := 16) hx hb dX3_init_37 (by decide) ?_
  refine x_newa hx hb (ty := .int) rfl (htg _ wi_251) hK hP hD hS hA 16 0 rfl (16, .inl (fun _ => 0)) (fun _ => rfl) (by decide) (by decide) (by decide) (by decide) (by decide) dX3_init_39 (fun a_5 H hP hD hS => ?_)
  have hP : va_P D classes [(h0, .inr (3, [.int 0, .int 0, .int 0, .int 0, .int 0, .int 0, .int 0, .int 0, .int 0, .int 0, .ref a_1, .ref a_2, .ref a_3, .ref a_4, .null, .null])), (a_1, .inl (cT 0, 16, .inl (fun _ => 0))), (a_2, .inl (cT 0, 16, .inl (fun _ => 0))), (a_3, .inl (cT 0, 16, .inl (fun _ => 0))), (a_4, .inl (cT 0, 16, .inl (fun _ => 0))), (a_5, .inl (cT 0, 16, .inl (fun _ => 0)))] _ := hP
  have hD : va_D A [(h0, .inr (3, [.int 0, .int 0, .int 0, .int 0, .int 0, .int 0, .int 0, .int 0, .int 0, .int 0, .ref a_1, .ref a_2, .ref a_3, .ref a_4, .null, .null])), (a_1, .inl (cT 0, 16, .inl (fun _ => 0))), (a_2, .inl (cT 0, 16, .inl (fun _ => 0))), (a_3, .inl (cT 0, 16, .inl (fun _ => 0))), (a_4, .inl (cT 0, 16, .inl (fun _ => 0))), (a_5, .inl (cT 0, 16, .inl (fun _ => 0)))] := hD
  refine va_putF (D := D) (ci := 3) (v := .ref a_5) (ty := .array .int) (C := RX3) (T := TX3) (N := 16) hx hb htg gRX3 tyX3 tyX3_ok nmX3 hown hK hP hD hS 0 rfl rfl 14 (by decide) (htg _ wi_211) (fun _ h9 => h9) rfl hnm rfl (by decide +kernel) rfl rfl (Nat.le_of_ble_eq_true rfl) dX3_init_41 (fun H locs hP hD hS => ?_)
  have hP : va_P D classes [(h0, .inr (3, [.int 0, .int 0, .int 0, .int 0, .int 0, .int 0, .int 0, .int 0, .int 0, .int 0, .ref a_1, .ref a_2, .ref a_3, .ref a_4, .ref a_5, .null])), (a_1, .inl (cT 0, 16, .inl (fun _ => 0))), (a_2, .inl (cT 0, 16, .inl (fun _ => 0))), (a_3, .inl (cT 0, 16, .inl (fun _ => 0))), (a_4, .inl (cT 0, 16, .inl (fun _ => 0))), (a_5, .inl (cT 0, 16, .inl (fun _ => 0)))] _ := hP
  have hD : va_D A [(h0, .inr (3, [.int 0, .int 0, .int 0, .int 0, .int 0, .int 0, .int 0, .int 0, .int 0, .int 0, .ref a_1, .ref a_2, .ref a_3, .ref a_4, .ref a_5, .null])), (a_1, .inl (cT 0, 16, .inl (fun _ => 0))), (a_2, .inl (cT 0, 16, .inl (fun _ => 0))), (a_3, .inl (cT 0, 16, .inl (fun _ => 0))), (a_4, .inl (cT 0, 16, .inl (fun _ => 0))), (a_5, .inl (cT 0, 16, .inl (fun _ => 0)))] := hD
  refine lv_aload_n hx hb dX3_init_44 rfl (lv_at hl 0 rfl) ?_
  refine lv_bipush (v := 6) hx hb dX3_init_45 (by decide) ?_
  refine x_newa hx hb (ty := .int) rfl (htg _ wi_251) hK hP hD hS hA 6 0 rfl (6, .inl (fun _ => 0)) (fun _ => rfl) (by decide) (by decide) (by decide) (by decide) (by decide) dX3_init_47 (fun a_6 H hP hD hS => ?_)
  have hP : va_P D classes [(h0, .inr (3, [.int 0, .int 0, .int 0, .int 0, .int 0, .int 0, .int 0, .int 0, .int 0, .int 0, .ref a_1, .ref a_2, .ref a_3, .ref a_4, .ref a_5, .null])), (a_1, .inl (cT 0, 16, .inl (fun _ => 0))), (a_2, .inl (cT 0, 16, .inl (fun _ => 0))), (a_3, .inl (cT 0, 16, .inl (fun _ => 0))), (a_4, .inl (cT 0, 16, .inl (fun _ => 0))), (a_5, .inl (cT 0, 16, .inl (fun _ => 0))), (a_6, .inl (cT 0, 6, .inl (fun _ => 0)))] _ := hP
  have hD : va_D A [(h0, .inr (3, [.int 0, .int 0, .int 0, .int 0, .int 0, .int 0, .int 0, .int 0, .int 0, .int 0, .ref a_1, .ref a_2, .ref a_3, .ref a_4, .ref a_5, .null])), (a_1, .inl (cT 0, 16, .inl (fun _ => 0))), (a_2, .inl (cT 0, 16, .inl (fun _ => 0))), (a_3, .inl (cT 0, 16, .inl (fun _ => 0))), (a_4, .inl (cT 0, 16, .inl (fun _ => 0))), (a_5, .inl (cT 0, 16, .inl (fun _ => 0))), (a_6, .inl (cT 0, 6, .inl (fun _ => 0)))] := hD
  refine va_putF (D := D) (ci := 3) (v := .ref a_6) (ty := .array .int) (C := RX3) (T := TX3) (N := 16) hx hb htg gRX3 tyX3 tyX3_ok nmX3 hown hK hP hD hS 0 rfl rfl 15 (by decide) (htg _ wi_213) (fun _ h9 => h9) rfl hnm rfl (by decide +kernel) rfl rfl (Nat.le_of_ble_eq_true rfl) dX3_init_49 (fun H locs hP hD hS => ?_)
  have hP : va_P D classes [(h0, .inr (3, [.int 0, .int 0, .int 0, .int 0, .int 0, .int 0, .int 0, .int 0, .int 0, .int 0, .ref a_1, .ref a_2, .ref a_3, .ref a_4, .ref a_5, .ref a_6])), (a_1, .inl (cT 0, 16, .inl (fun _ => 0))), (a_2, .inl (cT 0, 16, .inl (fun _ => 0))), (a_3, .inl (cT 0, 16, .inl (fun _ => 0))), (a_4, .inl (cT 0, 16, .inl (fun _ => 0))), (a_5, .inl (cT 0, 16, .inl (fun _ => 0))), (a_6, .inl (cT 0, 6, .inl (fun _ => 0)))] _ := hP
  have hD : va_D A [(h0, .inr (3, [.int 0, .int 0, .int 0, .int 0, .int 0, .int 0, .int 0, .int 0, .int 0, .int 0, .ref a_1, .ref a_2, .ref a_3, .ref a_4, .ref a_5, .ref a_6])), (a_1, .inl (cT 0, 16, .inl (fun _ => 0))), (a_2, .inl (cT 0, 16, .inl (fun _ => 0))), (a_3, .inl (cT 0, 16, .inl (fun _ => 0))), (a_4, .inl (cT 0, 16, .inl (fun _ => 0))), (a_5, .inl (cT 0, 16, .inl (fun _ => 0))), (a_6, .inl (cT 0, 6, .inl (fun _ => 0)))] := hD
  refine lv_aload_n hx hb dX3_init_52 rfl (lv_at hl 0 rfl) ?_
  refine xk_v (wr := [(a_1, .inl (cT 0, 16, .inl (fun _ => 0))), (a_2, .inl (cT 0, 16, .inl (fun _ => 0))), (a_3, .inl (cT 0, 16, .inl (fun _ => 0))), (a_4, .inl (cT 0, 16, .inl (fun _ => 0))), (a_5, .inl (cT 0, 16, .inl (fun _ => 0)))]) (xr_V (n := 0) (As := []) (rest := []) ⟨hx, hb, hml, hown, htg⟩ hK hN hP hD [0, 6] rfl (by decide) (c_empty l D cT _ (h0) (fun k => [a_1, a_2, a_3, a_4, a_5, a_6].getD k 0) (0) (0) (0) (0) (fun _ => 0)) wi_159 wi_161 wi_0 wi_123 wi_162 rfl rfl rfl ⟨rfl, by decide +kernel⟩ ⟨Nat.le_of_ble_eq_true rfl, Nat.le_of_ble_eq_true rfl⟩ rfl hl.1 rfl (Nat.le_of_ble_eq_true rfl) dX3_init_53 ⟨Nat.le_of_ble_eq_true rfl, Nat.le_of_ble_eq_true rfl⟩) hP hD hS hA [0, 6] [1, 2, 3, 4, 5] rfl rfl (by decide) (by decide) (fun u_7 H locs hwr_8 hP hD hS => ?_)
  have hP : va_P D classes [(a_1, .inl (cT 0, 16, .inl (fun _ => 0))), (a_2, .inl (cT 0, 16, .inl (fun _ => 0))), (a_3, .inl (cT 0, 16, .inl (fun _ => 0))), (a_4, .inl (cT 0, 16, .inl (fun _ => 0))), (a_5, .inl (cT 0, 16, .inl (fun _ => 0))), (h0, .inr (3, [.int 0, .int 0, .int 0, .int 0, .int 6, .int 6, .int 1, .int 60, .int 0, .int 0, .ref a_1, .ref a_2, .ref a_3, .ref a_4, .ref a_5, .ref a_6])), (a_6, .inl (cT 0, 6, .inl (fillF ((fun _ => 0)) 6 (1))))] _ := hP
  have hD : va_D A [(a_1, .inl (cT 0, 16, .inl (fun _ => 0))), (a_2, .inl (cT 0, 16, .inl (fun _ => 0))), (a_3, .inl (cT 0, 16, .inl (fun _ => 0))), (a_4, .inl (cT 0, 16, .inl (fun _ => 0))), (a_5, .inl (cT 0, 16, .inl (fun _ => 0))), (h0, .inr (3, [.int 0, .int 0, .int 0, .int 0, .int 6, .int 6, .int 1, .int 60, .int 0, .int 0, .ref a_1, .ref a_2, .ref a_3, .ref a_4, .ref a_5, .ref a_6])), (a_6, .inl (cT 0, 6, .inl (fillF ((fun _ => 0)) 6 (1))))] := hD
  exact x_vret hx hb hr hlk hP hD hS [5, 0, 1, 2, 3, 4, 6] (fun k => [a_1, a_2, a_3, a_4, a_5, a_6].getD k 0) rfl (by decide) trivial (by decide) (by decide) dX3_init_56
set_option maxHeartbeats 4000000 in
set_option maxRecDepth 100000 in
theorem c_hasStrip (l : Launch) (D : va_G) (cT : Nat → ClassId) (sz : Nat) (h0 : Nat) (a : Nat → Nat) (x : Int32) : Met l yX3_hasStrip (wsc yX3_hasStrip cX3_hasStrip 2 (some .boolean)) { frames := 2, cells := 0, slots := 0, locals := 100 } (va_Pc [.ref h0, .int x] (PX D cT sz [(h0, .inr (3, [.int 0, .int 0, .int 0, .int 0, .int 6, .int 6, .int 1, .int 60, .int 0, .int 0, .ref (a 0), .ref (a 1), .ref (a 2), .ref (a 3), .ref (a 4), .ref (a 5)]))])) (va_Qi (fun (r : Int32) (u : Unit) => r = 0) (fun u t => RW D (va_A [(h0, .inr (3, [.int 0, .int 0, .int 0, .int 0, .int 6, .int 6, .int 1, .int 60, .int 0, .int 0, .ref (a 0), .ref (a 1), .ref (a 2), .ref (a 3), .ref (a 4), .ref (a 5)]))] sz) ((fun _ : Unit => [(h0, .inr (3, [.int 0, .int 0, .int 0, .int 0, .int 6, .int 6, .int 1, .int 60, .int 0, .int 0, .ref (a 0), .ref (a 1), .ref (a 2), .ref (a 3), .ref (a 4), .ref (a 5)]))]) u) t) (va_A [(h0, .inr (3, [.int 0, .int 0, .int 0, .int 0, .int 6, .int 6, .int 1, .int 60, .int 0, .int 0, .ref (a 0), .ref (a 1), .ref (a 2), .ref (a 3), .ref (a 4), .ref (a 5)]))] sz)) 0 0 (va_A [(h0, .inr (3, [.int 0, .int 0, .int 0, .int 0, .int 6, .int 6, .int 1, .int 60, .int 0, .int 0, .ref (a 0), .ref (a 1), .ref (a 2), .ref (a 3), .ref (a 4), .ref (a 5)]))] sz) := by
  refine m_of (y := yX3_hasStrip) (cc := cX3_hasStrip) (nL := 2) (ret := (some .boolean)) (D := D) (cT := cT) (av := [.ref h0, .int x]) (wi := [(h0, .inr (3, [.int 0, .int 0, .int 0, .int 0, .int 6, .int 6, .int 1, .int 60, .int 0, .int 0, .ref (a 0), .ref (a 1), .ref (a 2), .ref (a 3), .ref (a 4), .ref (a 5)]))]) (fun A => va_Qi (fun (r : Int32) (u : Unit) => r = 0) (fun u t => RW D A ((fun _ : Unit => [(h0, .inr (3, [.int 0, .int 0, .int 0, .int 0, .int 6, .int 6, .int 1, .int 60, .int 0, .int 0, .ref (a 0), .ref (a 1), .ref (a 2), .ref (a 3), .ref (a 4), .ref (a 5)]))]) u) t) A) (by decide) (Nat.le_of_ble_eq_true rfl) ?_
  intro p e s m below meth c A hx hb hml hown htg hK hN hr hlk hnm hsz hP hD hS hA ls hl
  have hown : s.vm.findClass RX3 = some m.cls := hown
  have hl : lv_has ls 2 [(0, .ref h0), (1, .int x)] := hl
  refine lv_iload_n hx hb dX3_hasStrip_0 rfl (lv_at hl 1 rfl) ?_
  refine lv_if_lt (tgt := 16) hx hb dX3_hasStrip_1 (by decide) (fun c_1 => ?_) (fun c_1 => ?_)
  · have ic_1 : x.toInt < 0 := ilt c_1 (rfl) (by decide)
    refine lv_iconst (v := 0) hx hb dX3_hasStrip_16 (by decide) ?_
    exact x_zret hx hb hr hlk hP hD hS [0] (()) rfl (by decide) rfl (by first | rfl | decide | (exfalso; omega) | (try simp only [ti_0, ti_1, ti_2, ti_3, ti_4, ti_5, ti_6, ti_7, ti_8, ti_9, ti_10, ti_11, ti_12]); (repeat (first | rw [if_pos (by first | assumption | omega | trivial)] | rw [if_neg (by first | assumption | omega)]))) (by decide) (by decide) dX3_hasStrip_17
  · have ic_1 : 0 ≤ x.toInt := inlt c_1 (rfl) (by decide)
    refine lv_iload_n hx hb dX3_hasStrip_4 rfl (lv_at hl 1 rfl) ?_
    refine lv_aload_n hx hb dX3_hasStrip_5 rfl (lv_at hl 0 rfl) ?_
    refine va_get (D := D) (ci := 3) (v := .int 0) (C := RX3) (T := TX3) (N := 16) hx hb htg gRX3 hown hK hP 0 rfl rfl 0 (by decide) (htg _ wi_166) (fun _ h9 => h9) rfl dX3_hasStrip_6 ?_
    refine lv_icmp_ge (tgt := 16) hx hb dX3_hasStrip_9 (by decide) (fun c_2 => ?_) (fun c_2 => ?_)
    · have ic_2 : 0 ≤ x.toInt := ile c_2 (by decide) (rfl)
      refine lv_iconst (v := 0) hx hb dX3_hasStrip_16 (by decide) ?_
      exact x_zret hx hb hr hlk hP hD hS [0] (()) rfl (by decide) rfl (by first | rfl | decide | (exfalso; omega) | (try simp only [ti_0, ti_1, ti_2, ti_3, ti_4, ti_5, ti_6, ti_7, ti_8, ti_9, ti_10, ti_11, ti_12]); (repeat (first | rw [if_pos (by first | assumption | omega | trivial)] | rw [if_neg (by first | assumption | omega)]))) (by decide) (by decide) dX3_hasStrip_17
    · have ic_2 : x.toInt < 0 := inle c_2 (by decide) (rfl)
      refine lv_iconst (v := 1) hx hb dX3_hasStrip_12 (by decide) ?_
      refine lv_goto (tgt := 17) hx hb dX3_hasStrip_13 (by decide) ?_
      exact x_zret hx hb hr hlk hP hD hS [0] (()) rfl (by decide) rfl (by first | rfl | decide | (exfalso; omega) | (try simp only [ti_0, ti_1, ti_2, ti_3, ti_4, ti_5, ti_6, ti_7, ti_8, ti_9, ti_10, ti_11, ti_12]); (repeat (first | rw [if_pos (by first | assumption | omega | trivial)] | rw [if_neg (by first | assumption | omega)]))) (by decide) (by decide) dX3_hasStrip_17
set_option maxHeartbeats 4000000 in
set_option maxRecDepth 100000 in
theorem c_allStrips (l : Launch) (D : va_G) (cT : Nat → ClassId) (sz : Nat) (h0 : Nat) (a : Nat → Nat) : Met l yX3_allStrips (wsc yX3_allStrips cX3_allStrips 1 (some .int)) { frames := 2, cells := 0, slots := 0, locals := 100 } (va_Pc [.ref h0] (PX D cT sz [(h0, .inr (3, [.int 0, .int 0, .int 0, .int 0, .int 6, .int 6, .int 1, .int 60, .int 0, .int 0, .ref (a 0), .ref (a 1), .ref (a 2), .ref (a 3), .ref (a 4), .ref (a 5)]))])) (va_Qi (fun (r : Int32) (u : Unit) => r = 0) (fun u t => RW D (va_A [(h0, .inr (3, [.int 0, .int 0, .int 0, .int 0, .int 6, .int 6, .int 1, .int 60, .int 0, .int 0, .ref (a 0), .ref (a 1), .ref (a 2), .ref (a 3), .ref (a 4), .ref (a 5)]))] sz) ((fun _ : Unit => [(h0, .inr (3, [.int 0, .int 0, .int 0, .int 0, .int 6, .int 6, .int 1, .int 60, .int 0, .int 0, .ref (a 0), .ref (a 1), .ref (a 2), .ref (a 3), .ref (a 4), .ref (a 5)]))]) u) t) (va_A [(h0, .inr (3, [.int 0, .int 0, .int 0, .int 0, .int 6, .int 6, .int 1, .int 60, .int 0, .int 0, .ref (a 0), .ref (a 1), .ref (a 2), .ref (a 3), .ref (a 4), .ref (a 5)]))] sz)) 0 0 (va_A [(h0, .inr (3, [.int 0, .int 0, .int 0, .int 0, .int 6, .int 6, .int 1, .int 60, .int 0, .int 0, .ref (a 0), .ref (a 1), .ref (a 2), .ref (a 3), .ref (a 4), .ref (a 5)]))] sz) := by
  refine m_of (y := yX3_allStrips) (cc := cX3_allStrips) (nL := 1) (ret := (some .int)) (D := D) (cT := cT) (av := [.ref h0]) (wi := [(h0, .inr (3, [.int 0, .int 0, .int 0, .int 0, .int 6, .int 6, .int 1, .int 60, .int 0, .int 0, .ref (a 0), .ref (a 1), .ref (a 2), .ref (a 3), .ref (a 4), .ref (a 5)]))]) (fun A => va_Qi (fun (r : Int32) (u : Unit) => r = 0) (fun u t => RW D A ((fun _ : Unit => [(h0, .inr (3, [.int 0, .int 0, .int 0, .int 0, .int 6, .int 6, .int 1, .int 60, .int 0, .int 0, .ref (a 0), .ref (a 1), .ref (a 2), .ref (a 3), .ref (a 4), .ref (a 5)]))]) u) t) A) (by decide) (Nat.le_of_ble_eq_true rfl) ?_
  intro p e s m below meth c A hx hb hml hown htg hK hN hr hlk hnm hsz hP hD hS hA ls hl
  have hown : s.vm.findClass RX3 = some m.cls := hown
  have hl : lv_has ls 1 [(0, .ref h0)] := hl
  refine lv_iconst (v := 1) hx hb dX3_allStrips_0 (by decide) ?_
  refine lv_aload_n hx hb dX3_allStrips_1 rfl (lv_at hl 0 rfl) ?_
  refine va_get (D := D) (ci := 3) (v := .int 0) (C := RX3) (T := TX3) (N := 16) hx hb htg gRX3 hown hK hP 0 rfl rfl 0 (by decide) (htg _ wi_166) (fun _ h9 => h9) rfl dX3_allStrips_2 ?_
  refine lv_ishl hx hb dX3_allStrips_5 ?_
  refine lv_is (y := 1) (by decide) ?_
  refine lv_iconst (v := 1) hx hb dX3_allStrips_6 (by decide) ?_
  refine lv_isub hx hb dX3_allStrips_7 ?_
  refine lv_is (y := 0) (by decide) ?_
  exact x_iret hx hb hr hlk hP hD hS [0] (()) rfl (by decide) (by first | rfl | decide | (exfalso; omega) | (try simp only [ti_0, ti_1, ti_2, ti_3, ti_4, ti_5, ti_6, ti_7, ti_8, ti_9, ti_10, ti_11, ti_12]); (repeat (first | rw [if_pos (by first | assumption | omega | trivial)] | rw [if_neg (by first | assumption | omega)]))) (by decide) (by decide) dX3_allStrips_8
set_option maxHeartbeats 4000000 in
set_option maxRecDepth 100000 in
theorem c_areStrips (l : Launch) (D : va_G) (cT : Nat → ClassId) (sz : Nat) (h0 : Nat) (a : Nat → Nat) (x : Int32) : Met l yX3_areStrips (wsc yX3_areStrips cX3_areStrips 2 (some .boolean)) { frames := 3, cells := 0, slots := 0, locals := 120 } (va_Pc [.ref h0, .int x] (PX D cT sz [(h0, .inr (3, [.int 0, .int 0, .int 0, .int 0, .int 6, .int 6, .int 1, .int 60, .int 0, .int 0, .ref (a 0), .ref (a 1), .ref (a 2), .ref (a 3), .ref (a 4), .ref (a 5)]))])) (va_Qi (fun (r : Int32) (u : Unit) => r = if x.toInt = 0 then 1 else 0) (fun u t => RW D (va_A [(h0, .inr (3, [.int 0, .int 0, .int 0, .int 0, .int 6, .int 6, .int 1, .int 60, .int 0, .int 0, .ref (a 0), .ref (a 1), .ref (a 2), .ref (a 3), .ref (a 4), .ref (a 5)]))] sz) ((fun _ : Unit => [(h0, .inr (3, [.int 0, .int 0, .int 0, .int 0, .int 6, .int 6, .int 1, .int 60, .int 0, .int 0, .ref (a 0), .ref (a 1), .ref (a 2), .ref (a 3), .ref (a 4), .ref (a 5)]))]) u) t) (va_A [(h0, .inr (3, [.int 0, .int 0, .int 0, .int 0, .int 6, .int 6, .int 1, .int 60, .int 0, .int 0, .ref (a 0), .ref (a 1), .ref (a 2), .ref (a 3), .ref (a 4), .ref (a 5)]))] sz)) 0 0 (va_A [(h0, .inr (3, [.int 0, .int 0, .int 0, .int 0, .int 6, .int 6, .int 1, .int 60, .int 0, .int 0, .ref (a 0), .ref (a 1), .ref (a 2), .ref (a 3), .ref (a 4), .ref (a 5)]))] sz) := by
  refine m_of (y := yX3_areStrips) (cc := cX3_areStrips) (nL := 2) (ret := (some .boolean)) (D := D) (cT := cT) (av := [.ref h0, .int x]) (wi := [(h0, .inr (3, [.int 0, .int 0, .int 0, .int 0, .int 6, .int 6, .int 1, .int 60, .int 0, .int 0, .ref (a 0), .ref (a 1), .ref (a 2), .ref (a 3), .ref (a 4), .ref (a 5)]))]) (fun A => va_Qi (fun (r : Int32) (u : Unit) => r = if x.toInt = 0 then 1 else 0) (fun u t => RW D A ((fun _ : Unit => [(h0, .inr (3, [.int 0, .int 0, .int 0, .int 0, .int 6, .int 6, .int 1, .int 60, .int 0, .int 0, .ref (a 0), .ref (a 1), .ref (a 2), .ref (a 3), .ref (a 4), .ref (a 5)]))]) u) t) A) (by decide) (Nat.le_of_ble_eq_true rfl) ?_
  intro p e s m below meth c A hx hb hml hown htg hK hN hr hlk hnm hsz hP hD hS hA ls hl
  have hown : s.vm.findClass RX3 = some m.cls := hown
  have hl : lv_has ls 2 [(0, .ref h0), (1, .int x)] := hl
  refine lv_iload_n hx hb dX3_areStrips_0 rfl (lv_at hl 1 rfl) ?_
  refine lv_aload_n hx hb dX3_areStrips_1 rfl (lv_at hl 0 rfl) ?_
  refine xk_i (wr := []) (xr_V (n := 0) (As := []) (rest := [.int x]) ⟨hx, hb, hml, hown, htg⟩ hK hN hP hD [0] rfl (by decide) (c_allStrips l D cT _ (h0) (a)) wi_737 wi_739 wi_28 wi_123 wi_740 rfl rfl rfl ⟨rfl, by decide +kernel⟩ ⟨Nat.le_of_ble_eq_true rfl, Nat.le_of_ble_eq_true rfl⟩ rfl hl.1 rfl (Nat.le_of_ble_eq_true rfl) dX3_areStrips_2 ⟨Nat.le_of_ble_eq_true rfl, Nat.le_of_ble_eq_true rfl⟩) hP hD hS hA [0] [] rfl rfl (by decide) (by decide) (fun r_2 u_1 H locs hwr_2 hP hD hS => ?_)
  have hP : va_P D classes [(h0, .inr (3, [.int 0, .int 0, .int 0, .int 0, .int 6, .int 6, .int 1, .int 60, .int 0, .int 0, .ref (a 0), .ref (a 1), .ref (a 2), .ref (a 3), .ref (a 4), .ref (a 5)]))] _ := hP
  have hD : va_D A [(h0, .inr (3, [.int 0, .int 0, .int 0, .int 0, .int 6, .int 6, .int 1, .int 60, .int 0, .int 0, .ref (a 0), .ref (a 1), .ref (a 2), .ref (a 3), .ref (a 4), .ref (a 5)]))] := hD
  have hwr_2 : r_2 = 0 := hwr_2
  subst hwr_2
  refine lv_iconst (v := (-1)) hx hb dX3_areStrips_5 (by decide) ?_
  refine lv_ixor hx hb dX3_areStrips_6 ?_
  refine lv_is (y := (-1)) (by decide) ?_
  refine lv_iand hx hb dX3_areStrips_7 ?_
  refine lv_is (y := x) (and_m1 _) ?_
  refine lv_if_ne (tgt := 15) hx hb dX3_areStrips_8 (by decide) (fun c_3 => ?_) (fun c_3 => ?_)
  · have ic_3 : ¬ x.toInt = 0 := ine c_3 (rfl) (by decide)
    refine lv_iconst (v := 0) hx hb dX3_areStrips_15 (by decide) ?_
    exact x_zret hx hb hr hlk hP hD hS [0] (()) rfl (by decide) rfl (by first | rfl | decide | (exfalso; omega) | (try simp only [ti_0, ti_1, ti_2, ti_3, ti_4, ti_5, ti_6, ti_7, ti_8, ti_9, ti_10, ti_11, ti_12]); (repeat (first | rw [if_pos (by first | assumption | omega | trivial)] | rw [if_neg (by first | assumption | omega)]))) (by decide) (by decide) dX3_areStrips_16
  · have ic_3 : x.toInt = 0 := ieq c_3 (rfl) (by decide)
    refine lv_iconst (v := 1) hx hb dX3_areStrips_11 (by decide) ?_
    refine lv_goto (tgt := 16) hx hb dX3_areStrips_12 (by decide) ?_
    exact x_zret hx hb hr hlk hP hD hS [0] (()) rfl (by decide) rfl (by first | rfl | decide | (exfalso; omega) | (try simp only [ti_0, ti_1, ti_2, ti_3, ti_4, ti_5, ti_6, ti_7, ti_8, ti_9, ti_10, ti_11, ti_12]); (repeat (first | rw [if_pos (by first | assumption | omega | trivial)] | rw [if_neg (by first | assumption | omega)]))) (by decide) (by decide) dX3_areStrips_16
