set_option maxHeartbeats 4000000 in
set_option maxRecDepth 100000 in
theorem c_fillI6 (l : Launch) (D : va_G) (cT : Nat → ClassId) (sz : Nat) (b : Nat) (f : Nat → Int32) (v : Int32) : Met l yJ7_fill_53178 (wsc yJ7_fill_53178 cJ7_fill_53178 4 none) { frames := 2, cells := 0, slots := 0, locals := 100 } (va_Pc [.ref b, .int v] (PX D cT sz [(b, .inl (cT 0, 6, .inl (f)))])) (va_Qv (fun (u : Unit) => True) (fun u t => RW D (va_A [(b, .inl (cT 0, 6, .inl (f)))] sz) ((fun _ : Unit => [(b, .inl (cT 0, 6, .inl (fillF (f) 6 (v))))]) u) t) (va_A [(b, .inl (cT 0, 6, .inl (f)))] sz)) 0 0 (va_A [(b, .inl (cT 0, 6, .inl (f)))] sz) := by
  refine m_of (y := yJ7_fill_53178) (cc := cJ7_fill_53178) (nL := 4) (ret := none) (D := D) (cT := cT) (av := [.ref b, .int v]) (wi := [(b, .inl (cT 0, 6, .inl (f)))]) (fun A => va_Qv (fun (u : Unit) => True) (fun u t => RW D A ((fun _ : Unit => [(b, .inl (cT 0, 6, .inl (fillF (f) 6 (v))))]) u) t) A) (by decide) (Nat.le_of_ble_eq_true rfl) ?_
  intro p e s m below meth c A hx hb hml hown htg hK hN hr hlk hnm hsz hP hD hS hA ls hl
  have hown : s.vm.findClass RJ7 = some m.cls := hown
  have hl : lv_has ls 4 [(0, .ref b), (1, .int v)] := hl
  have hP : va_P D classes [(b, .inl (cT 0, 6, .inl (fillF (f) 0 (v))))] _ := hP
  have hD : va_D A [(b, .inl (cT 0, 6, .inl (fillF (f) 0 (v))))] := hD
  refine lv_iconst (v := 0) hx hb dJ7_fill_53178_0 (by decide) ?_
  refine lv_istore_n (lv' := [(2, .int 0), (0, .ref b), (1, .int v)]) hx hb dJ7_fill_53178_1 rfl hl (by decide) rfl (fun ls hl => ?_)
  refine lv_aload_n hx hb dJ7_fill_53178_2 rfl (lv_at hl 1 rfl) ?_
  refine va_alen (v := 6) hx hb hK hP 0 0 rfl rfl rfl dJ7_fill_53178_3 ?_
  refine lv_istore_n (lv' := [(3, .int 6), (2, .int 0), (0, .ref b), (1, .int v)]) hx hb dJ7_fill_53178_4 rfl hl (by decide) rfl (fun ls hl => ?_)
  refine lv_iload_n hx hb dJ7_fill_53178_5 rfl (lv_at hl 1 rfl) ?_
  refine lv_iload_n hx hb dJ7_fill_53178_6 rfl (lv_at hl 0 rfl) ?_
  refine lv_icmp_ge (tgt := 20) hx hb dJ7_fill_53178_7 (by decide) (fun h => absurd h (by decide)) (fun _ => ?_)
  refine lv_aload_n hx hb dJ7_fill_53178_10 rfl (lv_at hl 2 rfl) ?_
  refine lv_iload_n hx hb dJ7_fill_53178_11 rfl (lv_at hl 1 rfl) ?_
  refine lv_iload_n hx hb dJ7_fill_53178_12 rfl (lv_at hl 3 rfl) ?_
  refine va_iast hx hb hK hP hD hS 0 0 rfl rfl (by unfold vp_in; decide) dJ7_fill_53178_13 (fun H locs hP hD hS => ?_)
  have e9 : upd (fillF (f) 0 (v)) (0 : Int32).toNatClampNeg (v) = fillF (f) 1 (v) := fillF_s (f) 0 (v)
  have hP : va_P D classes [(b, .inl (cT 0, 6, .inl (fillF (f) 1 (v))))] H := by rw [← e9]; exact hP
  have hD : va_D A [(b, .inl (cT 0, 6, .inl (fillF (f) 1 (v))))] := by rw [← e9]; exact hD
  refine lv_iinc (v := 1) (lv' := [(2, .int 1), (3, .int 6), (0, .ref b), (1, .int v)]) hx hb dJ7_fill_53178_14 hl (k := 1) rfl (by decide) (by decide) rfl (fun ls hl => ?_)
  refine lv_goto (tgt := 5) hx hb dJ7_fill_53178_17 (by decide) ?_
  refine lv_iload_n hx hb dJ7_fill_53178_5 rfl (lv_at hl 0 rfl) ?_
  refine lv_iload_n hx hb dJ7_fill_53178_6 rfl (lv_at hl 1 rfl) ?_
  refine lv_icmp_ge (tgt := 20) hx hb dJ7_fill_53178_7 (by decide) (fun h => absurd h (by decide)) (fun _ => ?_)
  refine lv_aload_n hx hb dJ7_fill_53178_10 rfl (lv_at hl 2 rfl) ?_
  refine lv_iload_n hx hb dJ7_fill_53178_11 rfl (lv_at hl 0 rfl) ?_
  refine lv_iload_n hx hb dJ7_fill_53178_12 rfl (lv_at hl 3 rfl) ?_
  refine va_iast hx hb hK hP hD hS 0 0 rfl rfl (by unfold vp_in; decide) dJ7_fill_53178_13 (fun H locs hP hD hS => ?_)
  have e9 : upd (fillF (f) 1 (v)) (1 : Int32).toNatClampNeg (v) = fillF (f) 2 (v) := fillF_s (f) 1 (v)
  have hP : va_P D classes [(b, .inl (cT 0, 6, .inl (fillF (f) 2 (v))))] H := by rw [← e9]; exact hP
  have hD : va_D A [(b, .inl (cT 0, 6, .inl (fillF (f) 2 (v))))] := by rw [← e9]; exact hD
  refine lv_iinc (v := 2) (lv' := [(2, .int 2), (3, .int 6), (0, .ref b), (1, .int v)]) hx hb dJ7_fill_53178_14 hl (k := 0) rfl (by decide) (by decide) rfl (fun ls hl => ?_)
  refine lv_goto (tgt := 5) hx hb dJ7_fill_53178_17 (by decide) ?_
  refine lv_iload_n hx hb dJ7_fill_53178_5 rfl (lv_at hl 0 rfl) ?_
  refine lv_iload_n hx hb dJ7_fill_53178_6 rfl (lv_at hl 1 rfl) ?_
  refine lv_icmp_ge (tgt := 20) hx hb dJ7_fill_53178_7 (by decide) (fun h => absurd h (by decide)) (fun _ => ?_)
  refine lv_aload_n hx hb dJ7_fill_53178_10 rfl (lv_at hl 2 rfl) ?_
  refine lv_iload_n hx hb dJ7_fill_53178_11 rfl (lv_at hl 0 rfl) ?_
  refine lv_iload_n hx hb dJ7_fill_53178_12 rfl (lv_at hl 3 rfl) ?_
  refine va_iast hx hb hK hP hD hS 0 0 rfl rfl (by unfold vp_in; decide) dJ7_fill_53178_13 (fun H locs hP hD hS => ?_)
  have e9 : upd (fillF (f) 2 (v)) (2 : Int32).toNatClampNeg (v) = fillF (f) 3 (v) := fillF_s (f) 2 (v)
  have hP : va_P D classes [(b, .inl (cT 0, 6, .inl (fillF (f) 3 (v))))] H := by rw [← e9]; exact hP
  have hD : va_D A [(b, .inl (cT 0, 6, .inl (fillF (f) 3 (v))))] := by rw [← e9]; exact hD
  refine lv_iinc (v := 3) (lv' := [(2, .int 3), (3, .int 6), (0, .ref b), (1, .int v)]) hx hb dJ7_fill_53178_14 hl (k := 0) rfl (by decide) (by decide) rfl (fun ls hl => ?_)
  refine lv_goto (tgt := 5) hx hb dJ7_fill_53178_17 (by decide) ?_
  refine lv_iload_n hx hb dJ7_fill_53178_5 rfl (lv_at hl 0 rfl) ?_
  refine lv_iload_n hx hb dJ7_fill_53178_6 rfl (lv_at hl 1 rfl) ?_
  refine lv_icmp_ge (tgt := 20) hx hb dJ7_fill_53178_7 (by decide) (fun h => absurd h (by decide)) (fun _ => ?_)
  refine lv_aload_n hx hb dJ7_fill_53178_10 rfl (lv_at hl 2 rfl) ?_
  refine lv_iload_n hx hb dJ7_fill_53178_11 rfl (lv_at hl 0 rfl) ?_
  refine lv_iload_n hx hb dJ7_fill_53178_12 rfl (lv_at hl 3 rfl) ?_
  refine va_iast hx hb hK hP hD hS 0 0 rfl rfl (by unfold vp_in; decide) dJ7_fill_53178_13 (fun H locs hP hD hS => ?_)
  have e9 : upd (fillF (f) 3 (v)) (3 : Int32).toNatClampNeg (v) = fillF (f) 4 (v) := fillF_s (f) 3 (v)
  have hP : va_P D classes [(b, .inl (cT 0, 6, .inl (fillF (f) 4 (v))))] H := by rw [← e9]; exact hP
  have hD : va_D A [(b, .inl (cT 0, 6, .inl (fillF (f) 4 (v))))] := by rw [← e9]; exact hD
  refine lv_iinc (v := 4) (lv' := [(2, .int 4), (3, .int 6), (0, .ref b), (1, .int v)]) hx hb dJ7_fill_53178_14 hl (k := 0) rfl (by decide) (by decide) rfl (fun ls hl => ?_)
  refine lv_goto (tgt := 5) hx hb dJ7_fill_53178_17 (by decide) ?_
  refine lv_iload_n hx hb dJ7_fill_53178_5 rfl (lv_at hl 0 rfl) ?_
  refine lv_iload_n hx hb dJ7_fill_53178_6 rfl (lv_at hl 1 rfl) ?_
  refine lv_icmp_ge (tgt := 20) hx hb dJ7_fill_53178_7 (by decide) (fun h => absurd h (by decide)) (fun _ => ?_)
  refine lv_aload_n hx hb dJ7_fill_53178_10 rfl (lv_at hl 2 rfl) ?_
  refine lv_iload_n hx hb dJ7_fill_53178_11 rfl (lv_at hl 0 rfl) ?_
  refine lv_iload_n hx hb dJ7_fill_53178_12 rfl (lv_at hl 3 rfl) ?_
  refine va_iast hx hb hK hP hD hS 0 0 rfl rfl (by unfold vp_in; decide) dJ7_fill_53178_13 (fun H locs hP hD hS => ?_)
  have e9 : upd (fillF (f) 4 (v)) (4 : Int32).toNatClampNeg (v) = fillF (f) 5 (v) := fillF_s (f) 4 (v)
  have hP : va_P D classes [(b, .inl (cT 0, 6, .inl (fillF (f) 5 (v))))] H := by rw [← e9]; exact hP
  have hD : va_D A [(b, .inl (cT 0, 6, .inl (fillF (f) 5 (v))))] := by rw [← e9]; exact hD
  refine lv_iinc (v := 5) (lv' := [(2, .int 5), (3, .int 6), (0, .ref b), (1, .int v)]) hx hb dJ7_fill_53178_14 hl (k := 0) rfl (by decide) (by decide) rfl (fun ls hl => ?_)
  refine lv_goto (tgt := 5) hx hb dJ7_fill_53178_17 (by decide) ?_
  refine lv_iload_n hx hb dJ7_fill_53178_5 rfl (lv_at hl 0 rfl) ?_
  refine lv_iload_n hx hb dJ7_fill_53178_6 rfl (lv_at hl 1 rfl) ?_
  refine lv_icmp_ge (tgt := 20) hx hb dJ7_fill_53178_7 (by decide) (fun h => absurd h (by decide)) (fun _ => ?_)
  refine lv_aload_n hx hb dJ7_fill_53178_10 rfl (lv_at hl 2 rfl) ?_
  refine lv_iload_n hx hb dJ7_fill_53178_11 rfl (lv_at hl 0 rfl) ?_
  refine lv_iload_n hx hb dJ7_fill_53178_12 rfl (lv_at hl 3 rfl) ?_
  refine va_iast hx hb hK hP hD hS 0 0 rfl rfl (by unfold vp_in; decide) dJ7_fill_53178_13 (fun H locs hP hD hS => ?_)
  have e9 : upd (fillF (f) 5 (v)) (5 : Int32).toNatClampNeg (v) = fillF (f) 6 (v) := fillF_s (f) 5 (v)
  have hP : va_P D classes [(b, .inl (cT 0, 6, .inl (fillF (f) 6 (v))))] H := by rw [← e9]; exact hP
  have hD : va_D A [(b, .inl (cT 0, 6, .inl (fillF (f) 6 (v))))] := by rw [← e9]; exact hD
  refine lv_iinc (v := 6) (lv' := [(2, .int 6), (3, .int 6), (0, .ref b), (1, .int v)]) hx hb dJ7_fill_53178_14 hl (k := 0) rfl (by decide) (by decide) rfl (fun ls hl => ?_)
  refine lv_goto (tgt := 5) hx hb dJ7_fill_53178_17 (by decide) ?_
  refine lv_iload_n hx hb dJ7_fill_53178_5 rfl (lv_at hl 0 rfl) ?_
  refine lv_iload_n hx hb dJ7_fill_53178_6 rfl (lv_at hl 1 rfl) ?_
  refine lv_icmp_ge (tgt := 20) hx hb dJ7_fill_53178_7 (by decide) (fun _ => ?_) (fun h => absurd (by decide) h)
  exact x_vret hx hb hr hlk hP hD hS [0] (()) rfl (by decide) trivial (by decide) (by decide) dJ7_fill_53178_20
set_option maxHeartbeats 4000000 in
set_option maxRecDepth 100000 in
theorem c_fillI16 (l : Launch) (D : va_G) (cT : Nat → ClassId) (sz : Nat) (b : Nat) (f : Nat → Int32) (v : Int32) : Met l yJ7_fill_53178 (wsc yJ7_fill_53178 cJ7_fill_53178 4 none) { frames := 2, cells := 0, slots := 0, locals := 100 } (va_Pc [.ref b, .int v] (PX D cT sz [(b, .inl (cT 0, 16, .inl (f)))])) (va_Qv (fun (u : Unit) => True) (fun u t => RW D (va_A [(b, .inl (cT 0, 16, .inl (f)))] sz) ((fun _ : Unit => [(b, .inl (cT 0, 16, .inl (fillF (f) 16 (v))))]) u) t) (va_A [(b, .inl (cT 0, 16, .inl (f)))] sz)) 0 0 (va_A [(b, .inl (cT 0, 16, .inl (f)))] sz) := by
  refine m_of (y := yJ7_fill_53178) (cc := cJ7_fill_53178) (nL := 4) (ret := none) (D := D) (cT := cT) (av := [.ref b, .int v]) (wi := [(b, .inl (cT 0, 16, .inl (f)))]) (fun A => va_Qv (fun (u : Unit) => True) (fun u t => RW D A ((fun _ : Unit => [(b, .inl (cT 0, 16, .inl (fillF (f) 16 (v))))]) u) t) A) (by decide) (Nat.le_of_ble_eq_true rfl) ?_
  intro p e s m below meth c A hx hb hml hown htg hK hN hr hlk hnm hsz hP hD hS hA ls hl
  have hown : s.vm.findClass RJ7 = some m.cls := hown
  have hl : lv_has ls 4 [(0, .ref b), (1, .int v)] := hl
  have hP : va_P D classes [(b, .inl (cT 0, 16, .inl (fillF (f) 0 (v))))] _ := hP
  have hD : va_D A [(b, .inl (cT 0, 16, .inl (fillF (f) 0 (v))))] := hD
  refine lv_iconst (v := 0) hx hb dJ7_fill_53178_0 (by decide) ?_
  refine lv_istore_n (lv' := [(2, .int 0), (0, .ref b), (1, .int v)]) hx hb dJ7_fill_53178_1 rfl hl (by decide) rfl (fun ls hl => ?_)
  refine lv_aload_n hx hb dJ7_fill_53178_2 rfl (lv_at hl 1 rfl) ?_
  refine va_alen (v := 16) hx hb hK hP 0 0 rfl rfl rfl dJ7_fill_53178_3 ?_
  refine lv_istore_n (lv' := [(3, .int 16), (2, .int 0), (0, .ref b), (1, .int v)]) hx hb dJ7_fill_53178_4 rfl hl (by decide) rfl (fun ls hl => ?_)
  refine lv_iload_n hx hb dJ7_fill_53178_5 rfl (lv_at hl 1 rfl) ?_
  refine lv_iload_n hx hb dJ7_fill_53178_6 rfl (lv_at hl 0 rfl) ?_
  refine lv_icmp_ge (tgt := 20) hx hb dJ7_fill_53178_7 (by decide) (fun h => absurd h (by decide)) (fun _ => ?_)
  refine lv_aload_n hx hb dJ7_fill_53178_10 rfl (lv_at hl 2 rfl) ?_
  refine lv_iload_n hx hb dJ7_fill_53178_11 rfl (lv_at hl 1 rfl) ?_
  refine lv_iload_n hx hb dJ7_fill_53178_12 rfl (lv_at hl 3 rfl) ?_
  refine va_iast hx hb hK hP hD hS 0 0 rfl rfl (by unfold vp_in; decide) dJ7_fill_53178_13 (fun H locs hP hD hS => ?_)
  have e9 : upd (fillF (f) 0 (v)) (0 : Int32).toNatClampNeg (v) = fillF (f) 1 (v) := fillF_s (f) 0 (v)
  have hP : va_P D classes [(b, .inl (cT 0, 16, .inl (fillF (f) 1 (v))))] H := by rw [← e9]; exact hP
  have hD : va_D A [(b, .inl (cT 0, 16, .inl (fillF (f) 1 (v))))] := by rw [← e9]; exact hD
  refine lv_iinc (v := 1) (lv' := [(2, .int 1), (3, .int 16), (0, .ref b), (1, .int v)]) hx hb dJ7_fill_53178_14 hl (k := 1) rfl (by decide) (by decide) rfl (fun ls hl => ?_)
  refine lv_goto (tgt := 5) hx hb dJ7_fill_53178_17 (by decide) ?_
  refine lv_iload_n hx hb dJ7_fill_53178_5 rfl (lv_at hl 0 rfl) ?_
  refine lv_iload_n hx hb dJ7_fill_53178_6 rfl (lv_at hl 1 rfl) ?_
  refine lv_icmp_ge (tgt := 20) hx hb dJ7_fill_53178_7 (by decide) (fun h => absurd h (by decide)) (fun _ => ?_)
  refine lv_aload_n hx hb dJ7_fill_53178_10 rfl (lv_at hl 2 rfl) ?_
  refine lv_iload_n hx hb dJ7_fill_53178_11 rfl (lv_at hl 0 rfl) ?_
  refine lv_iload_n hx hb dJ7_fill_53178_12 rfl (lv_at hl 3 rfl) ?_
  refine va_iast hx hb hK hP hD hS 0 0 rfl rfl (by unfold vp_in; decide) dJ7_fill_53178_13 (fun H locs hP hD hS => ?_)
  have e9 : upd (fillF (f) 1 (v)) (1 : Int32).toNatClampNeg (v) = fillF (f) 2 (v) := fillF_s (f) 1 (v)
  have hP : va_P D classes [(b, .inl (cT 0, 16, .inl (fillF (f) 2 (v))))] H := by rw [← e9]; exact hP
  have hD : va_D A [(b, .inl (cT 0, 16, .inl (fillF (f) 2 (v))))] := by rw [← e9]; exact hD
  refine lv_iinc (v := 2) (lv' := [(2, .int 2), (3, .int 16), (0, .ref b), (1, .int v)]) hx hb dJ7_fill_53178_14 hl (k := 0) rfl (by decide) (by decide) rfl (fun ls hl => ?_)
  refine lv_goto (tgt := 5) hx hb dJ7_fill_53178_17 (by decide) ?_
  refine lv_iload_n hx hb dJ7_fill_53178_5 rfl (lv_at hl 0 rfl) ?_
  refine lv_iload_n hx hb dJ7_fill_53178_6 rfl (lv_at hl 1 rfl) ?_
  refine lv_icmp_ge (tgt := 20) hx hb dJ7_fill_53178_7 (by decide) (fun h => absurd h (by decide)) (fun _ => ?_)
  refine lv_aload_n hx hb dJ7_fill_53178_10 rfl (lv_at hl 2 rfl) ?_
  refine lv_iload_n hx hb dJ7_fill_53178_11 rfl (lv_at hl 0 rfl) ?_
  refine lv_iload_n hx hb dJ7_fill_53178_12 rfl (lv_at hl 3 rfl) ?_
  refine va_iast hx hb hK hP hD hS 0 0 rfl rfl (by unfold vp_in; decide) dJ7_fill_53178_13 (fun H locs hP hD hS => ?_)
  have e9 : upd (fillF (f) 2 (v)) (2 : Int32).toNatClampNeg (v) = fillF (f) 3 (v) := fillF_s (f) 2 (v)
  have hP : va_P D classes [(b, .inl (cT 0, 16, .inl (fillF (f) 3 (v))))] H := by rw [← e9]; exact hP
  have hD : va_D A [(b, .inl (cT 0, 16, .inl (fillF (f) 3 (v))))] := by rw [← e9]; exact hD
  refine lv_iinc (v := 3) (lv' := [(2, .int 3), (3, .int 16), (0, .ref b), (1, .int v)]) hx hb dJ7_fill_53178_14 hl (k := 0) rfl (by decide) (by decide) rfl (fun ls hl => ?_)
  refine lv_goto (tgt := 5) hx hb dJ7_fill_53178_17 (by decide) ?_
  refine lv_iload_n hx hb dJ7_fill_53178_5 rfl (lv_at hl 0 rfl) ?_
  refine lv_iload_n hx hb dJ7_fill_53178_6 rfl (lv_at hl 1 rfl) ?_
  refine lv_icmp_ge (tgt := 20) hx hb dJ7_fill_53178_7 (by decide) (fun h => absurd h (by decide)) (fun _ => ?_)
  refine lv_aload_n hx hb dJ7_fill_53178_10 rfl (lv_at hl 2 rfl) ?_
  refine lv_iload_n hx hb dJ7_fill_53178_11 rfl (lv_at hl 0 rfl) ?_
  refine lv_iload_n hx hb dJ7_fill_53178_12 rfl (lv_at hl 3 rfl) ?_
  refine va_iast hx hb hK hP hD hS 0 0 rfl rfl (by unfold vp_in; decide) dJ7_fill_53178_13 (fun H locs hP hD hS => ?_)
  have e9 : upd (fillF (f) 3 (v)) (3 : Int32).toNatClampNeg (v) = fillF (f) 4 (v) := fillF_s (f) 3 (v)
  have hP : va_P D classes [(b, .inl (cT 0, 16, .inl (fillF (f) 4 (v))))] H := by rw [← e9]; exact hP
  have hD : va_D A [(b, .inl (cT 0, 16, .inl (fillF (f) 4 (v))))] := by rw [← e9]; exact hD
  refine lv_iinc (v := 4) (lv' := [(2, .int 4), (3, .int 16), (0, .ref b), (1, .int v)]) hx hb dJ7_fill_53178_14 hl (k := 0) rfl (by decide) (by decide) rfl (fun ls hl => ?_)
  refine lv_goto (tgt := 5) hx hb dJ7_fill_53178_17 (by decide) ?_
  refine lv_iload_n hx hb dJ7_fill_53178_5 rfl (lv_at hl 0 rfl) ?_
  refine lv_iload_n hx hb dJ7_fill_53178_6 rfl (lv_at hl 1 rfl) ?_
  refine lv_icmp_ge (tgt := 20) hx hb dJ7_fill_53178_7 (by decide) (fun h => absurd h (by decide)) (fun _ => ?_)
  refine lv_aload_n hx hb dJ7_fill_53178_10 rfl (lv_at hl 2 rfl) ?_
  refine lv_iload_n hx hb dJ7_fill_53178_11 rfl (lv_at hl 0 rfl) ?_
  refine lv_iload_n hx hb dJ7_fill_53178_12 rfl (lv_at hl 3 rfl) ?_
  refine va_iast hx hb hK hP hD hS 0 0 rfl rfl (by unfold vp_in; decide) dJ7_fill_53178_13 (fun H locs hP hD hS => ?_)
  have e9 : upd (fillF (f) 4 (v)) (4 : Int32).toNatClampNeg (v) = fillF (f) 5 (v) := fillF_s (f) 4 (v)
  have hP : va_P D classes [(b, .inl (cT 0, 16, .inl (fillF (f) 5 (v))))] H := by rw [← e9]; exact hP
  have hD : va_D A [(b, .inl (cT 0, 16, .inl (fillF (f) 5 (v))))] := by rw [← e9]; exact hD
  refine lv_iinc (v := 5) (lv' := [(2, .int 5), (3, .int 16), (0, .ref b), (1, .int v)]) hx hb dJ7_fill_53178_14 hl (k := 0) rfl (by decide) (by decide) rfl (fun ls hl => ?_)
  refine lv_goto (tgt := 5) hx hb dJ7_fill_53178_17 (by decide) ?_
  refine lv_iload_n hx hb dJ7_fill_53178_5 rfl (lv_at hl 0 rfl) ?_
  refine lv_iload_n hx hb dJ7_fill_53178_6 rfl (lv_at hl 1 rfl) ?_
  refine lv_icmp_ge (tgt := 20) hx hb dJ7_fill_53178_7 (by decide) (fun h => absurd h (by decide)) (fun _ => ?_)
  refine lv_aload_n hx hb dJ7_fill_53178_10 rfl (lv_at hl 2 rfl) ?_
  refine lv_iload_n hx hb dJ7_fill_53178_11 rfl (lv_at hl 0 rfl) ?_
  refine lv_iload_n hx hb dJ7_fill_53178_12 rfl (lv_at hl 3 rfl) ?_
  refine va_iast hx hb hK hP hD hS 0 0 rfl rfl (by unfold vp_in; decide) dJ7_fill_53178_13 (fun H locs hP hD hS => ?_)
  have e9 : upd (fillF (f) 5 (v)) (5 : Int32).toNatClampNeg (v) = fillF (f) 6 (v) := fillF_s (f) 5 (v)
  have hP : va_P D classes [(b, .inl (cT 0, 16, .inl (fillF (f) 6 (v))))] H := by rw [← e9]; exact hP
  have hD : va_D A [(b, .inl (cT 0, 16, .inl (fillF (f) 6 (v))))] := by rw [← e9]; exact hD
  refine lv_iinc (v := 6) (lv' := [(2, .int 6), (3, .int 16), (0, .ref b), (1, .int v)]) hx hb dJ7_fill_53178_14 hl (k := 0) rfl (by decide) (by decide) rfl (fun ls hl => ?_)
  refine lv_goto (tgt := 5) hx hb dJ7_fill_53178_17 (by decide) ?_
  refine lv_iload_n hx hb dJ7_fill_53178_5 rfl (lv_at hl 0 rfl) ?_
  refine lv_iload_n hx hb dJ7_fill_53178_6 rfl (lv_at hl 1 rfl) ?_
  refine lv_icmp_ge (tgt := 20) hx hb dJ7_fill_53178_7 (by decide) (fun h => absurd h (by decide)) (fun _ => ?_)
  refine lv_aload_n hx hb dJ7_fill_53178_10 rfl (lv_at hl 2 rfl) ?_
  refine lv_iload_n hx hb dJ7_fill_53178_11 rfl (lv_at hl 0 rfl) ?_
  refine lv_iload_n hx hb dJ7_fill_53178_12 rfl (lv_at hl 3 rfl) ?_
  refine va_iast hx hb hK hP hD hS 0 0 rfl rfl (by unfold vp_in; decide) dJ7_fill_53178_13 (fun H locs hP hD hS => ?_)
  have e9 : upd (fillF (f) 6 (v)) (6 : Int32).toNatClampNeg (v) = fillF (f) 7 (v) := fillF_s (f) 6 (v)
  have hP : va_P D classes [(b, .inl (cT 0, 16, .inl (fillF (f) 7 (v))))] H := by rw [← e9]; exact hP
  have hD : va_D A [(b, .inl (cT 0, 16, .inl (fillF (f) 7 (v))))] := by rw [← e9]; exact hD
  refine lv_iinc (v := 7) (lv' := [(2, .int 7), (3, .int 16), (0, .ref b), (1, .int v)]) hx hb dJ7_fill_53178_14 hl (k := 0) rfl (by decide) (by decide) rfl (fun ls hl => ?_)
  refine lv_goto (tgt := 5) hx hb dJ7_fill_53178_17 (by decide) ?_
  refine lv_iload_n hx hb dJ7_fill_53178_5 rfl (lv_at hl 0 rfl) ?_
  refine lv_iload_n hx hb dJ7_fill_53178_6 rfl (lv_at hl 1 rfl) ?_
  refine lv_icmp_ge (tgt := 20) hx hb dJ7_fill_53178_7 (by decide) (fun h => absurd h (by decide)) (fun _ => ?_)
  refine lv_aload_n hx hb dJ7_fill_53178_10 rfl (lv_at hl 2 rfl) ?_
  refine lv_iload_n hx hb dJ7_fill_53178_11 rfl (lv_at hl 0 rfl) ?_
  refine lv_iload_n hx hb dJ7_fill_53178_12 rfl (lv_at hl 3 rfl) ?_
  refine va_iast hx hb hK hP hD hS 0 0 rfl rfl (by unfold vp_in; decide) dJ7_fill_53178_13 (fun H locs hP hD hS => ?_)
  have e9 : upd (fillF (f) 7 (v)) (7 : Int32).toNatClampNeg (v) = fillF (f) 8 (v) := fillF_s (f) 7 (v)
  have hP : va_P D classes [(b, .inl (cT 0, 16, .inl (fillF (f) 8 (v))))] H := by rw [← e9]; exact hP
  have hD : va_D A [(b, .inl (cT 0, 16, .inl (fillF (f) 8 (v))))] := by rw [← e9]; exact hD
  refine lv_iinc (v := 8) (lv' := [(2, .int 8), (3, .int 16), (0, .ref b), (1, .int v)]) hx hb dJ7_fill_53178_14 hl (k := 0) rfl (by decide) (by decide) rfl (fun ls hl => ?_)
  refine lv_goto (tgt := 5) hx hb dJ7_fill_53178_17 (by decide) ?_
  refine lv_iload_n hx hb dJ7_fill_53178_5 rfl (lv_at hl 0 rfl) ?_
  refine lv_iload_n hx hb dJ7_fill_53178_6 rfl (lv_at hl 1 rfl) ?_
  refine lv_icmp_ge (tgt := 20) hx hb dJ7_fill_53178_7 (by decide) (fun h => absurd h (by decide)) (fun _ => ?_)
  refine lv_aload_n hx hb dJ7_fill_53178_10 rfl (lv_at hl 2 rfl) ?_
  refine lv_iload_n hx hb dJ7_fill_53178_11 rfl (lv_at hl 0 rfl) ?_
  refine lv_iload_n hx hb dJ7_fill_53178_12 rfl (lv_at hl 3 rfl) ?_
  refine va_iast hx hb hK hP hD hS 0 0 rfl rfl (by unfold vp_in; decide) dJ7_fill_53178_13 (fun H locs hP hD hS => ?_)
  have e9 : upd (fillF (f) 8 (v)) (8 : Int32).toNatClampNeg (v) = fillF (f) 9 (v) := fillF_s (f) 8 (v)
  have hP : va_P D classes [(b, .inl (cT 0, 16, .inl (fillF (f) 9 (v))))] H := by rw [← e9]; exact hP
  have hD : va_D A [(b, .inl (cT 0, 16, .inl (fillF (f) 9 (v))))] := by rw [← e9]; exact hD
  refine lv_iinc (v := 9) (lv' := [(2, .int 9), (3, .int 16), (0, .ref b), (1, .int v)]) hx hb dJ7_fill_53178_14 hl (k := 0) rfl (by decide) (by decide) rfl (fun ls hl => ?_)
  refine lv_goto (tgt := 5) hx hb dJ7_fill_53178_17 (by decide) ?_
  refine lv_iload_n hx hb dJ7_fill_53178_5 rfl (lv_at hl 0 rfl) ?_
  refine lv_iload_n hx hb dJ7_fill_53178_6 rfl (lv_at hl 1 rfl) ?_
  refine lv_icmp_ge (tgt := 20) hx hb dJ7_fill_53178_7 (by decide) (fun h => absurd h (by decide)) (fun _ => ?_)
  refine lv_aload_n hx hb dJ7_fill_53178_10 rfl (lv_at hl 2 rfl) ?_
  refine lv_iload_n hx hb dJ7_fill_53178_11 rfl (lv_at hl 0 rfl) ?_
  refine lv_iload_n hx hb dJ7_fill_53178_12 rfl (lv_at hl 3 rfl) ?_
  refine va_iast hx hb hK hP hD hS 0 0 rfl rfl (by unfold vp_in; decide) dJ7_fill_53178_13 (fun H locs hP hD hS => ?_)
  have e9 : upd (fillF (f) 9 (v)) (9 : Int32).toNatClampNeg (v) = fillF (f) 10 (v) := fillF_s (f) 9 (v)
  have hP : va_P D classes [(b, .inl (cT 0, 16, .inl (fillF (f) 10 (v))))] H := by rw [← e9]; exact hP
  have hD : va_D A [(b, .inl (cT 0, 16, .inl (fillF (f) 10 (v))))] := by rw [← e9]; exact hD
  refine lv_iinc (v := 10) (lv' := [(2, .int 10), (3, .int 16), (0, .ref b), (1, .int v)]) hx hb dJ7_fill_53178_14 hl (k := 0) rfl (by decide) (by decide) rfl (fun ls hl => ?_)
  refine lv_goto (tgt := 5) hx hb dJ7_fill_53178_17 (by decide) ?_
  refine lv_iload_n hx hb dJ7_fill_53178_5 rfl (lv_at hl 0 rfl) ?_
  refine lv_iload_n hx hb dJ7_fill_53178_6 rfl (lv_at hl 1 rfl) ?_
  refine lv_icmp_ge (tgt := 20) hx hb dJ7_fill_53178_7 (by decide) (fun h => absurd h (by decide)) (fun _ => ?_)
  refine lv_aload_n hx hb dJ7_fill_53178_10 rfl (lv_at hl 2 rfl) ?_
  refine lv_iload_n hx hb dJ7_fill_53178_11 rfl (lv_at hl 0 rfl) ?_
  refine lv_iload_n hx hb dJ7_fill_53178_12 rfl (lv_at hl 3 rfl) ?_
  refine va_iast hx hb hK hP hD hS 0 0 rfl rfl (by unfold vp_in; decide) dJ7_fill_53178_13 (fun H locs hP hD hS => ?_)
  have e9 : upd (fillF (f) 10 (v)) (10 : Int32).toNatClampNeg (v) = fillF (f) 11 (v) := fillF_s (f) 10 (v)
  have hP : va_P D classes [(b, .inl (cT 0, 16, .inl (fillF (f) 11 (v))))] H := by rw [← e9]; exact hP
  have hD : va_D A [(b, .inl (cT 0, 16, .inl (fillF (f) 11 (v))))] := by rw [← e9]; exact hD
  refine lv_iinc (v := 11) (lv' := [(2, .int 11), (3, .int 16), (0, .ref b), (1, .int v)]) hx hb dJ7_fill_53178_14 hl (k := 0) rfl (by decide) (by decide) rfl (fun ls hl => ?_)
  refine lv_goto (tgt := 5) hx hb dJ7_fill_53178_17 (by decide) ?_
  refine lv_iload_n hx hb dJ7_fill_53178_5 rfl (lv_at hl 0 rfl) ?_
  refine lv_iload_n hx hb dJ7_fill_53178_6 rfl (lv_at hl 1 rfl) ?_
  refine lv_icmp_ge (tgt := 20) hx hb dJ7_fill_53178_7 (by decide) (fun h => absurd h (by decide)) (fun _ => ?_)
  refine lv_aload_n hx hb dJ7_fill_53178_10 rfl (lv_at hl 2 rfl) ?_
  refine lv_iload_n hx hb dJ7_fill_53178_11 rfl (lv_at hl 0 rfl) ?_
  refine lv_iload_n hx hb dJ7_fill_53178_12 rfl (lv_at hl 3 rfl) ?_
  refine va_iast hx hb hK hP hD hS 0 0 rfl rfl (by unfold vp_in; decide) dJ7_fill_53178_13 (fun H locs hP hD hS => ?_)
  have e9 : upd (fillF (f) 11 (v)) (11 : Int32).toNatClampNeg (v) = fillF (f) 12 (v) := fillF_s (f) 11 (v)
  have hP : va_P D classes [(b, .inl (cT 0, 16, .inl (fillF (f) 12 (v))))] H := by rw [← e9]; exact hP
  have hD : va_D A [(b, .inl (cT 0, 16, .inl (fillF (f) 12 (v))))] := by rw [← e9]; exact hD
  refine lv_iinc (v := 12) (lv' := [(2, .int 12), (3, .int 16), (0, .ref b), (1, .int v)]) hx hb dJ7_fill_53178_14 hl (k := 0) rfl (by decide) (by decide) rfl (fun ls hl => ?_)
  refine lv_goto (tgt := 5) hx hb dJ7_fill_53178_17 (by decide) ?_
  refine lv_iload_n hx hb dJ7_fill_53178_5 rfl (lv_at hl 0 rfl) ?_
  refine lv_iload_n hx hb dJ7_fill_53178_6 rfl (lv_at hl 1 rfl) ?_
  refine lv_icmp_ge (tgt := 20) hx hb dJ7_fill_53178_7 (by decide) (fun h => absurd h (by decide)) (fun _ => ?_)
  refine lv_aload_n hx hb dJ7_fill_53178_10 rfl (lv_at hl 2 rfl) ?_
  refine lv_iload_n hx hb dJ7_fill_53178_11 rfl (lv_at hl 0 rfl) ?_
  refine lv_iload_n hx hb dJ7_fill_53178_12 rfl (lv_at hl 3 rfl) ?_
  refine va_iast hx hb hK hP hD hS 0 0 rfl rfl (by unfold vp_in; decide) dJ7_fill_53178_13 (fun H locs hP hD hS => ?_)
  have e9 : upd (fillF (f) 12 (v)) (12 : Int32).toNatClampNeg (v) = fillF (f) 13 (v) := fillF_s (f) 12 (v)
  have hP : va_P D classes [(b, .inl (cT 0, 16, .inl (fillF (f) 13 (v))))] H := by rw [← e9]; exact hP
  have hD : va_D A [(b, .inl (cT 0, 16, .inl (fillF (f) 13 (v))))] := by rw [← e9]; exact hD
  refine lv_iinc (v := 13) (lv' := [(2, .int 13), (3, .int 16), (0, .ref b), (1, .int v)]) hx hb dJ7_fill_53178_14 hl (k := 0) rfl (by decide) (by decide) rfl (fun ls hl => ?_)
  refine lv_goto (tgt := 5) hx hb dJ7_fill_53178_17 (by decide) ?_
  refine lv_iload_n hx hb dJ7_fill_53178_5 rfl (lv_at hl 0 rfl) ?_
  refine lv_iload_n hx hb dJ7_fill_53178_6 rfl (lv_at hl 1 rfl) ?_
  refine lv_icmp_ge (tgt := 20) hx hb dJ7_fill_53178_7 (by decide) (fun h => absurd h (by decide)) (fun _ => ?_)
  refine lv_aload_n hx hb dJ7_fill_53178_10 rfl (lv_at hl 2 rfl) ?_
  refine lv_iload_n hx hb dJ7_fill_53178_11 rfl (lv_at hl 0 rfl) ?_
  refine lv_iload_n hx hb dJ7_fill_53178_12 rfl (lv_at hl 3 rfl) ?_
  refine va_iast hx hb hK hP hD hS 0 0 rfl rfl (by unfold vp_in; decide) dJ7_fill_53178_13 (fun H locs hP hD hS => ?_)
  have e9 : upd (fillF (f) 13 (v)) (13 : Int32).toNatClampNeg (v) = fillF (f) 14 (v) := fillF_s (f) 13 (v)
  have hP : va_P D classes [(b, .inl (cT 0, 16, .inl (fillF (f) 14 (v))))] H := by rw [← e9]; exact hP
  have hD : va_D A [(b, .inl (cT 0, 16, .inl (fillF (f) 14 (v))))] := by rw [← e9]; exact hD
  refine lv_iinc (v := 14) (lv' := [(2, .int 14), (3, .int 16), (0, .ref b), (1, .int v)]) hx hb dJ7_fill_53178_14 hl (k := 0) rfl (by decide) (by decide) rfl (fun ls hl => ?_)
  refine lv_goto (tgt := 5) hx hb dJ7_fill_53178_17 (by decide) ?_
  refine lv_iload_n hx hb dJ7_fill_53178_5 rfl (lv_at hl 0 rfl) ?_
  refine lv_iload_n hx hb dJ7_fill_53178_6 rfl (lv_at hl 1 rfl) ?_
  refine lv_icmp_ge (tgt := 20) hx hb dJ7_fill_53178_7 (by decide) (fun h => absurd h (by decide)) (fun _ => ?_)
  refine lv_aload_n hx hb dJ7_fill_53178_10 rfl (lv_at hl 2 rfl) ?_
  refine lv_iload_n hx hb dJ7_fill_53178_11 rfl (lv_at hl 0 rfl) ?_
  refine lv_iload_n hx hb dJ7_fill_53178_12 rfl (lv_at hl 3 rfl) ?_
  refine va_iast hx hb hK hP hD hS 0 0 rfl rfl (by unfold vp_in; decide) dJ7_fill_53178_13 (fun H locs hP hD hS => ?_)
  have e9 : upd (fillF (f) 14 (v)) (14 : Int32).toNatClampNeg (v) = fillF (f) 15 (v) := fillF_s (f) 14 (v)
  have hP : va_P D classes [(b, .inl (cT 0, 16, .inl (fillF (f) 15 (v))))] H := by rw [← e9]; exact hP
  have hD : va_D A [(b, .inl (cT 0, 16, .inl (fillF (f) 15 (v))))] := by rw [← e9]; exact hD
  refine lv_iinc (v := 15) (lv' := [(2, .int 15), (3, .int 16), (0, .ref b), (1, .int v)]) hx hb dJ7_fill_53178_14 hl (k := 0) rfl (by decide) (by decide) rfl (fun ls hl => ?_)
  refine lv_goto (tgt := 5) hx hb dJ7_fill_53178_17 (by decide) ?_
  refine lv_iload_n hx hb dJ7_fill_53178_5 rfl (lv_at hl 0 rfl) ?_
  refine lv_iload_n hx hb dJ7_fill_53178_6 rfl (lv_at hl 1 rfl) ?_
  refine lv_icmp_ge (tgt := 20) hx hb dJ7_fill_53178_7 (by decide) (fun h => absurd h (by decide)) (fun _ => ?_)
  refine lv_aload_n hx hb dJ7_fill_53178_10 rfl (lv_at hl 2 rfl) ?_
  refine lv_iload_n hx hb dJ7_fill_53178_11 rfl (lv_at hl 0 rfl) ?_
  refine lv_iload_n hx hb dJ7_fill_53178_12 rfl (lv_at hl 3 rfl) ?_
  refine va_iast hx hb hK hP hD hS 0 0 rfl rfl (by unfold vp_in; decide) dJ7_fill_53178_13 (fun H locs hP hD hS => ?_)
  have e9 : upd (fillF (f) 15 (v)) (15 : Int32).toNatClampNeg (v) = fillF (f) 16 (v) := fillF_s (f) 15 (v)
  have hP : va_P D classes [(b, .inl (cT 0, 16, .inl (fillF (f) 16 (v))))] H := by rw [← e9]; exact hP
  have hD : va_D A [(b, .inl (cT 0, 16, .inl (fillF (f) 16 (v))))] := by rw [← e9]; exact hD
  refine lv_iinc (v := 16) (lv' := [(2, .int 16), (3, .int 16), (0, .ref b), (1, .int v)]) hx hb dJ7_fill_53178_14 hl (k := 0) rfl (by decide) (by decide) rfl (fun ls hl => ?_)
  refine lv_goto (tgt := 5) hx hb dJ7_fill_53178_17 (by decide) ?_
  refine lv_iload_n hx hb dJ7_fill_53178_5 rfl (lv_at hl 0 rfl) ?_
  refine lv_iload_n hx hb dJ7_fill_53178_6 rfl (lv_at hl 1 rfl) ?_
  refine lv_icmp_ge (tgt := 20) hx hb dJ7_fill_53178_7 (by decide) (fun _ => ?_) (fun h => absurd (by decide) h)
  exact x_vret hx hb hr hlk hP hD hS [0] (()) rfl (by decide) trivial (by decide) (by decide) dJ7_fill_53178_20
