set_option maxHeartbeats 4000000 in
set_option maxRecDepth 100000 in
theorem g_fillI16 (l : Launch) (D : va_G) (cT : Nat → ClassId) (sz : Nat) (b : Nat) (f : Nat → Int32) (v : Int32) : Met l yJ7_fill_53178 (wsc yJ7_fill_53178 cJ7_fill_53178 4 none) { frames := 2, cells := 0, slots := 0, locals := 100 } (va_Pc [.ref b, .int v] (PX D cT sz [(b, .inl (cT 0, 16, .inl (f)))])) (va_Qv (fun (u : Unit) => True) (fun u t => RW D (va_A [(b, .inl (cT 0, 16, .inl (f)))] sz) ((fun _ : Unit => [(b, .inl (cT 0, 16, .inl (fillF (f) 16 (v))))]) u) t) (va_A [(b, .inl (cT 0, 16, .inl (f)))] sz)) 0 0 (va_A [(b, .inl (cT 0, 16, .inl (f)))] sz) := by
  refine m_of (y := yJ7_fill_53178) (cc := cJ7_fill_53178) (nL := 4) (ret := none) (D := D) (cT := cT) (av := [.ref b, .int v]) (wi := [(b, .inl (cT 0, 16, .inl (f)))]) (fun A => va_Qv (fun (u : Unit) => True) (fun u t => RW D A ((fun _ : Unit => [(b, .inl (cT 0, 16, .inl (fillF (f) 16 (v))))]) u) t) A) (by decide) (Nat.le_of_ble_eq_true rfl) ?_
  intro p e s m below meth c A hx hb hml hown htg hK hN hr hlk hnm hsz hP hD hS hA ls hl
  have hown : s.vm.findClass RJ7 = some m.cls := hown
  have hl : lv_has ls 4 [(0, .ref b), (1, .int v)] := hl
  have hP : va_P D classes [(b, .inl (cT 0, 16, .inl (fillF (f) 0 (v))))] _ := hP
  have hD : va_D A [(b, .inl (cT 0, 16, .inl (fillF (f) 0 (v))))] := hD
  refine lv_iconst (v := 0) hx hb dJ7_fill_53178_0 (by decide) ?_
  refine lv_istore_n (lv' := [(2, .int 0), (0, .ref b), (1, .int v)]) hx hb dJ7_fill_53178_1 rfl hl (by decide) rfl (fun ls hl => ?_)
  refine lv_aload_n hx hb dJ7_fill_53178_2 rfl (lv_at hl 1 rfl) ?_
  refine va_alen (v := 16) hx hb hK hP 0 0 rfl rfl rfl dJ7_fill_53178_3 ?_
  refine lv_istore_n (lv' := [(3, .int 16), (2, .int 0), (0, .ref b), (1, .int v)]) hx hb dJ7_fill_53178_4 rfl hl (by decide) rfl (fun ls hl => ?_)
  refine (fun (key : ∀ (n9_5 : Nat) (k9_5 : Nat)  (H : Heap) (locs : List Loc) (ls : Array Slot), (k9_5 : Int) ≤ 16 → 16 < (k9_5 : Int) + n9_5 → va_P D classes [(b, .inl (cT 0, 16, .inl (fillF (f) k9_5 (v))))] H → va_D A [(b, .inl (cT 0, 16, .inl (fillF (f) k9_5 (v))))] → va_S A s.heap H locs → lv_has ls 4 [(3, .int 16), (2, .int (nI k9_5)), (0, .ref b), (1, .int v)] → W p l e _ s m _ below meth c H locs _ _ _ (F0 m 5 ls [])) => key (Int.toNat (16 - 0) + 1) 0  _ _ _ (by omega) (by omega)  hP hD hS (lv_sub hl [0, 1, 2, 3] rfl)) ?_
  intro n9_5
  induction n9_5 with
  | zero => intro k9_5  H locs ls hq1 hq2; exact absurd hq2 (by omega)
  | succ n9_5 ih_5 =>
    intro k9_5  H locs ls hq1_5 hq2_5  hP hD hS hl
    have hk9_5 : (nI k9_5).toInt = (k9_5 : Int) := nI_toInt (by omega)
    refine lv_iload_n hx hb dJ7_fill_53178_5 rfl (lv_at hl 1 rfl) ?_
    refine lv_iload_n hx hb dJ7_fill_53178_6 rfl (lv_at hl 0 rfl) ?_
    refine lv_icmp_ge (tgt := 20) hx hb dJ7_fill_53178_7 (by decide) (fun c_1 => ?_) (fun c_1 => ?_)
    · have ic_1 : 16 ≤ ((k9_5 : Nat) : Int) := ile c_1 (by decide) (nI_toInt (by omega))
      have e8 : k9_5 = 16 := by omega
      subst e8
      exact x_vret hx hb hr hlk hP hD hS [0] (()) rfl (by decide) trivial (by decide) (by decide) dJ7_fill_53178_20
    · have ic_1 : ((k9_5 : Nat) : Int) < 16 := inle c_1 (by decide) (nI_toInt (by omega))
      refine lv_aload_n hx hb dJ7_fill_53178_10 rfl (lv_at hl 2 rfl) ?_
      refine lv_iload_n hx hb dJ7_fill_53178_11 rfl (lv_at hl 1 rfl) ?_
      refine lv_iload_n hx hb dJ7_fill_53178_12 rfl (lv_at hl 3 rfl) ?_
      refine va_iast hx hb hK hP hD hS 0 0 rfl rfl (vp_in_nI (by omega) (by omega)) dJ7_fill_53178_13 (fun H locs hP hD hS => ?_)
      have e9 : upd (fillF (f) k9_5 (v)) (nI k9_5).toNatClampNeg (v) = fillF (f) (k9_5 + 1) (v) := by rw [nI_clamp (by omega)]; exact fillF_s (f) k9_5 (v)
      have hP : va_P D classes [(b, .inl (cT 0, 16, .inl (fillF (f) (k9_5 + 1) (v))))] H := by rw [← e9]; exact hP
      have hD : va_D A [(b, .inl (cT 0, 16, .inl (fillF (f) (k9_5 + 1) (v))))] := by rw [← e9]; exact hD
      refine lv_iinc (v := (nI (k9_5 + 1))) (lv' := [(2, .int (nI (k9_5 + 1))), (3, .int 16), (0, .ref b), (1, .int v)]) hx hb dJ7_fill_53178_14 hl (k := 1) rfl (by exact nI_1 (k9_5)) (by decide) rfl (fun ls hl => ?_)
      refine lv_goto (tgt := 5) hx hb dJ7_fill_53178_17 (by decide) ?_
      exact ih_5 (k9_5 + 1)  _ _ _ (by omega) (by omega)  (hP.sub [0] rfl) (hD.sub [0] (by decide) rfl) hS (lv_sub hl [1, 0, 2, 3] rfl)
set_option maxHeartbeats 4000000 in
set_option maxRecDepth 100000 in
theorem g_fillI256 (l : Launch) (D : va_G) (cT : Nat → ClassId) (sz : Nat) (b : Nat) (f : Nat → Int32) (v : Int32) : Met l yJ7_fill_53178 (wsc yJ7_fill_53178 cJ7_fill_53178 4 none) { frames := 2, cells := 0, slots := 0, locals := 100 } (va_Pc [.ref b, .int v] (PX D cT sz [(b, .inl (cT 0, 256, .inl (f)))])) (va_Qv (fun (u : Unit) => True) (fun u t => RW D (va_A [(b, .inl (cT 0, 256, .inl (f)))] sz) ((fun _ : Unit => [(b, .inl (cT 0, 256, .inl (fillF (f) 256 (v))))]) u) t) (va_A [(b, .inl (cT 0, 256, .inl (f)))] sz)) 0 0 (va_A [(b, .inl (cT 0, 256, .inl (f)))] sz) := by
  refine m_of (y := yJ7_fill_53178) (cc := cJ7_fill_53178) (nL := 4) (ret := none) (D := D) (cT := cT) (av := [.ref b, .int v]) (wi := [(b, .inl (cT 0, 256, .inl (f)))]) (fun A => va_Qv (fun (u : Unit) => True) (fun u t => RW D A ((fun _ : Unit => [(b, .inl (cT 0, 256, .inl (fillF (f) 256 (v))))]) u) t) A) (by decide) (Nat.le_of_ble_eq_true rfl) ?_
  intro p e s m below meth c A hx hb hml hown htg hK hN hr hlk hnm hsz hP hD hS hA ls hl
  have hown : s.vm.findClass RJ7 = some m.cls := hown
  have hl : lv_has ls 4 [(0, .ref b), (1, .int v)] := hl
  have hP : va_P D classes [(b, .inl (cT 0, 256, .inl (fillF (f) 0 (v))))] _ := hP
  have hD : va_D A [(b, .inl (cT 0, 256, .inl (fillF (f) 0 (v))))] := hD
  refine lv_iconst (v := 0) hx hb dJ7_fill_53178_0 (by decide) ?_
  refine lv_istore_n (lv' := [(2, .int 0), (0, .ref b), (1, .int v)]) hx hb dJ7_fill_53178_1 rfl hl (by decide) rfl (fun ls hl => ?_)
  refine lv_aload_n hx hb dJ7_fill_53178_2 rfl (lv_at hl 1 rfl) ?_
  refine va_alen (v := 256) hx hb hK hP 0 0 rfl rfl rfl dJ7_fill_53178_3 ?_
  refine lv_istore_n (lv' := [(3, .int 256), (2, .int 0), (0, .ref b), (1, .int v)]) hx hb dJ7_fill_53178_4 rfl hl (by decide) rfl (fun ls hl => ?_)
  refine (fun (key : ∀ (n9_5 : Nat) (k9_5 : Nat)  (H : Heap) (locs : List Loc) (ls : Array Slot), (k9_5 : Int) ≤ 256 → 256 < (k9_5 : Int) + n9_5 → va_P D classes [(b, .inl (cT 0, 256, .inl (fillF (f) k9_5 (v))))] H → va_D A [(b, .inl (cT 0, 256, .inl (fillF (f) k9_5 (v))))] → va_S A s.heap H locs → lv_has ls 4 [(3, .int 256), (2, .int (nI k9_5)), (0, .ref b), (1, .int v)] → W p l e _ s m _ below meth c H locs _ _ _ (F0 m 5 ls [])) => key (Int.toNat (256 - 0) + 1) 0  _ _ _ (by omega) (by omega)  hP hD hS (lv_sub hl [0, 1, 2, 3] rfl)) ?_
  intro n9_5
  induction n9_5 with
  | zero => intro k9_5  H locs ls hq1 hq2; exact absurd hq2 (by omega)
  | succ n9_5 ih_5 =>
    intro k9_5  H locs ls hq1_5 hq2_5  hP hD hS hl
    have hk9_5 : (nI k9_5).toInt = (k9_5 : Int) := nI_toInt (by omega)
    refine lv_iload_n hx hb dJ7_fill_53178_5 rfl (lv_at hl 1 rfl) ?_
    refine lv_iload_n hx hb dJ7_fill_53178_6 rfl (lv_at hl 0 rfl) ?_
    refine lv_icmp_ge (tgt := 20) hx hb dJ7_fill_53178_7 (by decide) (fun c_1 => ?_) (fun c_1 => ?_)
    · have ic_1 : 256 ≤ ((k9_5 : Nat) : Int) := ile c_1 (by decide) (nI_toInt (by omega))
      have e8 : k9_5 = 256 := by omega
      subst e8
      exact x_vret hx hb hr hlk hP hD hS [0] (()) rfl (by decide) trivial (by decide) (by decide) dJ7_fill_53178_20
    · have ic_1 : ((k9_5 : Nat) : Int) < 256 := inle c_1 (by decide) (nI_toInt (by omega))
      refine lv_aload_n hx hb dJ7_fill_53178_10 rfl (lv_at hl 2 rfl) ?_
      refine lv_iload_n hx hb dJ7_fill_53178_11 rfl (lv_at hl 1 rfl) ?_
      refine lv_iload_n hx hb dJ7_fill_53178_12 rfl (lv_at hl 3 rfl) ?_
      refine va_iast hx hb hK hP hD hS 0 0 rfl rfl (vp_in_nI (by omega) (by omega)) dJ7_fill_53178_13 (fun H locs hP hD hS => ?_)
      have e9 : upd (fillF (f) k9_5 (v)) (nI k9_5).toNatClampNeg (v) = fillF (f) (k9_5 + 1) (v) := by rw [nI_clamp (by omega)]; exact fillF_s (f) k9_5 (v)
      have hP : va_P D classes [(b, .inl (cT 0, 256, .inl (fillF (f) (k9_5 + 1) (v))))] H := by rw [← e9]; exact hP
      have hD : va_D A [(b, .inl (cT 0, 256, .inl (fillF (f) (k9_5 + 1) (v))))] := by rw [← e9]; exact hD
      refine lv_iinc (v := (nI (k9_5 + 1))) (lv' := [(2, .int (nI (k9_5 + 1))), (3, .int 256), (0, .ref b), (1, .int v)]) hx hb dJ7_fill_53178_14 hl (k := 1) rfl (by exact nI_1 (k9_5)) (by decide) rfl (fun ls hl => ?_)
      refine lv_goto (tgt := 5) hx hb dJ7_fill_53178_17 (by decide) ?_
      exact ih_5 (k9_5 + 1)  _ _ _ (by omega) (by omega)  (hP.sub [0] rfl) (hD.sub [0] (by decide) rfl) hS (lv_sub hl [1, 0, 2, 3] rfl)
set_option maxHeartbeats 4000000 in
set_option maxRecDepth 100000 in
theorem g_fillI4096 (l : Launch) (D : va_G) (cT : Nat → ClassId) (sz : Nat) (b : Nat) (f : Nat → Int32) (v : Int32) : Met l yJ7_fill_53178 (wsc yJ7_fill_53178 cJ7_fill_53178 4 none) { frames := 2, cells := 0, slots := 0, locals := 100 } (va_Pc [.ref b, .int v] (PX D cT sz [(b, .inl (cT 0, 4096, .inl (f)))])) (va_Qv (fun (u : Unit) => True) (fun u t => RW D (va_A [(b, .inl (cT 0, 4096, .inl (f)))] sz) ((fun _ : Unit => [(b, .inl (cT 0, 4096, .inl (fillF (f) 4096 (v))))]) u) t) (va_A [(b, .inl (cT 0, 4096, .inl (f)))] sz)) 0 0 (va_A [(b, .inl (cT 0, 4096, .inl (f)))] sz) := by
  refine m_of (y := yJ7_fill_53178) (cc := cJ7_fill_53178) (nL := 4) (ret := none) (D := D) (cT := cT) (av := [.ref b, .int v]) (wi := [(b, .inl (cT 0, 4096, .inl (f)))]) (fun A => va_Qv (fun (u : Unit) => True) (fun u t => RW D A ((fun _ : Unit => [(b, .inl (cT 0, 4096, .inl (fillF (f) 4096 (v))))]) u) t) A) (by decide) (Nat.le_of_ble_eq_true rfl) ?_
  intro p e s m below meth c A hx hb hml hown htg hK hN hr hlk hnm hsz hP hD hS hA ls hl
  have hown : s.vm.findClass RJ7 = some m.cls := hown
  have hl : lv_has ls 4 [(0, .ref b), (1, .int v)] := hl
  have hP : va_P D classes [(b, .inl (cT 0, 4096, .inl (fillF (f) 0 (v))))] _ := hP
  have hD : va_D A [(b, .inl (cT 0, 4096, .inl (fillF (f) 0 (v))))] := hD
  refine lv_iconst (v := 0) hx hb dJ7_fill_53178_0 (by decide) ?_
  refine lv_istore_n (lv' := [(2, .int 0), (0, .ref b), (1, .int v)]) hx hb dJ7_fill_53178_1 rfl hl (by decide) rfl (fun ls hl => ?_)
  refine lv_aload_n hx hb dJ7_fill_53178_2 rfl (lv_at hl 1 rfl) ?_
  refine va_alen (v := 4096) hx hb hK hP 0 0 rfl rfl rfl dJ7_fill_53178_3 ?_
  refine lv_istore_n (lv' := [(3, .int 4096), (2, .int 0), (0, .ref b), (1, .int v)]) hx hb dJ7_fill_53178_4 rfl hl (by decide) rfl (fun ls hl => ?_)
  refine (fun (key : ∀ (n9_5 : Nat) (k9_5 : Nat)  (H : Heap) (locs : List Loc) (ls : Array Slot), (k9_5 : Int) ≤ 4096 → 4096 < (k9_5 : Int) + n9_5 → va_P D classes [(b, .inl (cT 0, 4096, .inl (fillF (f) k9_5 (v))))] H → va_D A [(b, .inl (cT 0, 4096, .inl (fillF (f) k9_5 (v))))] → va_S A s.heap H locs → lv_has ls 4 [(3, .int 4096), (2, .int (nI k9_5)), (0, .ref b), (1, .int v)] → W p l e _ s m _ below meth c H locs _ _ _ (F0 m 5 ls [])) => key (Int.toNat (4096 - 0) + 1) 0  _ _ _ (by omega) (by omega)  hP hD hS (lv_sub hl [0, 1, 2, 3] rfl)) ?_
  intro n9_5
  induction n9_5 with
  | zero => intro k9_5  H locs ls hq1 hq2; exact absurd hq2 (by omega)
  | succ n9_5 ih_5 =>
    intro k9_5  H locs ls hq1_5 hq2_5  hP hD hS hl
    have hk9_5 : (nI k9_5).toInt = (k9_5 : Int) := nI_toInt (by omega)
    refine lv_iload_n hx hb dJ7_fill_53178_5 rfl (lv_at hl 1 rfl) ?_
    refine lv_iload_n hx hb dJ7_fill_53178_6 rfl (lv_at hl 0 rfl) ?_
    refine lv_icmp_ge (tgt := 20) hx hb dJ7_fill_53178_7 (by decide) (fun c_1 => ?_) (fun c_1 => ?_)
    · have ic_1 : 4096 ≤ ((k9_5 : Nat) : Int) := ile c_1 (by decide) (nI_toInt (by omega))
      have e8 : k9_5 = 4096 := by omega
      subst e8
      exact x_vret hx hb hr hlk hP hD hS [0] (()) rfl (by decide) trivial (by decide) (by decide) dJ7_fill_53178_20
    · have ic_1 : ((k9_5 : Nat) : Int) < 4096 := inle c_1 (by decide) (nI_toInt (by omega))
      refine lv_aload_n hx hb dJ7_fill_53178_10 rfl (lv_at hl 2 rfl) ?_
      refine lv_iload_n hx hb dJ7_fill_53178_11 rfl (lv_at hl 1 rfl) ?_
      refine lv_iload_n hx hb dJ7_fill_53178_12 rfl (lv_at hl 3 rfl) ?_
      refine va_iast hx hb hK hP hD hS 0 0 rfl rfl (vp_in_nI (by omega) (by omega)) dJ7_fill_53178_13 (fun H locs hP hD hS => ?_)
      have e9 : upd (fillF (f) k9_5 (v)) (nI k9_5).toNatClampNeg (v) = fillF (f) (k9_5 + 1) (v) := by rw [nI_clamp (by omega)]; exact fillF_s (f) k9_5 (v)
      have hP : va_P D classes [(b, .inl (cT 0, 4096, .inl (fillF (f) (k9_5 + 1) (v))))] H := by rw [← e9]; exact hP
      have hD : va_D A [(b, .inl (cT 0, 4096, .inl (fillF (f) (k9_5 + 1) (v))))] := by rw [← e9]; exact hD
      refine lv_iinc (v := (nI (k9_5 + 1))) (lv' := [(2, .int (nI (k9_5 + 1))), (3, .int 4096), (0, .ref b), (1, .int v)]) hx hb dJ7_fill_53178_14 hl (k := 1) rfl (by exact nI_1 (k9_5)) (by decide) rfl (fun ls hl => ?_)
      refine lv_goto (tgt := 5) hx hb dJ7_fill_53178_17 (by decide) ?_
      exact ih_5 (k9_5 + 1)  _ _ _ (by omega) (by omega)  (hP.sub [0] rfl) (hD.sub [0] (by decide) rfl) hS (lv_sub hl [1, 0, 2, 3] rfl)
set_option maxHeartbeats 4000000 in
set_option maxRecDepth 100000 in
theorem g_fillJ40 (l : Launch) (D : va_G) (cT : Nat → ClassId) (sz : Nat) (b : Nat) (f : Nat → Int64) (v : Int64) : Met l yJ7_fill_d0a16 (wsc yJ7_fill_d0a16 cJ7_fill_d0a16 5 none) { frames := 2, cells := 0, slots := 0, locals := 100 } (va_Pc [.ref b, .long v] (PX D cT sz [(b, .inl (cT 1, 40, .inr (.inl (f))))])) (va_Qv (fun (u : Unit) => True) (fun u t => RW D (va_A [(b, .inl (cT 1, 40, .inr (.inl (f))))] sz) ((fun _ : Unit => [(b, .inl (cT 1, 40, .inr (.inl (fillF (f) 40 (v)))))]) u) t) (va_A [(b, .inl (cT 1, 40, .inr (.inl (f))))] sz)) 0 0 (va_A [(b, .inl (cT 1, 40, .inr (.inl (f))))] sz) := by
  refine m_of (y := yJ7_fill_d0a16) (cc := cJ7_fill_d0a16) (nL := 5) (ret := none) (D := D) (cT := cT) (av := [.ref b, .long v]) (wi := [(b, .inl (cT 1, 40, .inr (.inl (f))))]) (fun A => va_Qv (fun (u : Unit) => True) (fun u t => RW D A ((fun _ : Unit => [(b, .inl (cT 1, 40, .inr (.inl (fillF (f) 40 (v)))))]) u) t) A) (by decide) (Nat.le_of_ble_eq_true rfl) ?_
  intro p e s m below meth c A hx hb hml hown htg hK hN hr hlk hnm hsz hP hD hS hA ls hl
  have hown : s.vm.findClass RJ7 = some m.cls := hown
  have hl : lv_has ls 5 [(0, .ref b), (1, .long v)] := hl
  have hP : va_P D classes [(b, .inl (cT 1, 40, .inr (.inl (fillF (f) 0 (v)))))] _ := hP
  have hD : va_D A [(b, .inl (cT 1, 40, .inr (.inl (fillF (f) 0 (v)))))] := hD
  refine lv_iconst (v := 0) hx hb dJ7_fill_d0a16_0 (by decide) ?_
  refine lv_istore_n (lv' := [(3, .int 0), (0, .ref b), (1, .long v)]) hx hb dJ7_fill_d0a16_1 rfl hl (by decide) rfl (fun ls hl => ?_)
  refine lv_aload_n hx hb dJ7_fill_d0a16_2 rfl (lv_at hl 1 rfl) ?_
  refine va_alen (v := 40) hx hb hK hP 0 1 rfl rfl rfl dJ7_fill_d0a16_3 ?_
  refine lv_istore (lv' := [(4, .int 40), (3, .int 0), (0, .ref b), (1, .long v)]) hx hb dJ7_fill_d0a16_4 hl (by decide) rfl (fun ls hl => ?_)
  refine (fun (key : ∀ (n9_6 : Nat) (k9_6 : Nat)  (H : Heap) (locs : List Loc) (ls : Array Slot), (k9_6 : Int) ≤ 40 → 40 < (k9_6 : Int) + n9_6 → va_P D classes [(b, .inl (cT 1, 40, .inr (.inl (fillF (f) k9_6 (v)))))] H → va_D A [(b, .inl (cT 1, 40, .inr (.inl (fillF (f) k9_6 (v)))))] → va_S A s.heap H locs → lv_has ls 5 [(4, .int 40), (3, .int (nI k9_6)), (0, .ref b), (1, .long v)] → W p l e _ s m _ below meth c H locs _ _ _ (F0 m 6 ls [])) => key (Int.toNat (40 - 0) + 1) 0  _ _ _ (by omega) (by omega)  hP hD hS (lv_sub hl [0, 1, 2, 3] rfl)) ?_
  intro n9_6
  induction n9_6 with
  | zero => intro k9_6  H locs ls hq1 hq2; exact absurd hq2 (by omega)
  | succ n9_6 ih_6 =>
    intro k9_6  H locs ls hq1_6 hq2_6  hP hD hS hl
    have hk9_6 : (nI k9_6).toInt = (k9_6 : Int) := nI_toInt (by omega)
    refine lv_iload_n hx hb dJ7_fill_d0a16_6 rfl (lv_at hl 1 rfl) ?_
    refine lv_iload hx hb dJ7_fill_d0a16_7 (lv_at hl 0 rfl) ?_
    refine lv_icmp_ge (tgt := 22) hx hb dJ7_fill_d0a16_9 (by decide) (fun c_1 => ?_) (fun c_1 => ?_)
    · have ic_1 : 40 ≤ ((k9_6 : Nat) : Int) := ile c_1 (by decide) (nI_toInt (by omega))
      have e8 : k9_6 = 40 := by omega
      subst e8
      exact x_vret hx hb hr hlk hP hD hS [0] (()) rfl (by decide) trivial (by decide) (by decide) dJ7_fill_d0a16_22
    · have ic_1 : ((k9_6 : Nat) : Int) < 40 := inle c_1 (by decide) (nI_toInt (by omega))
      refine lv_aload_n hx hb dJ7_fill_d0a16_12 rfl (lv_at hl 2 rfl) ?_
      refine lv_iload_n hx hb dJ7_fill_d0a16_13 rfl (lv_at hl 1 rfl) ?_
      refine lv_lload_n hx hb dJ7_fill_d0a16_14 rfl (lv_at hl 3 rfl) ?_
      refine va_last hx hb hK hP hD hS 0 1 rfl rfl (vp_in_nI (by omega) (by omega)) dJ7_fill_d0a16_15 (fun H locs hP hD hS => ?_)
      have e9 : vp_updL (fillF (f) k9_6 (v)) (nI k9_6).toNatClampNeg (v) = fillF (f) (k9_6 + 1) (v) := by rw [nI_clamp (by omega)]; exact fillF_sL (f) k9_6 (v)
      have hP : va_P D classes [(b, .inl (cT 1, 40, .inr (.inl (fillF (f) (k9_6 + 1) (v)))))] H := by rw [← e9]; exact hP
      have hD : va_D A [(b, .inl (cT 1, 40, .inr (.inl (fillF (f) (k9_6 + 1) (v)))))] := by rw [← e9]; exact hD
      refine lv_iinc (v := (nI (k9_6 + 1))) (lv' := [(3, .int (nI (k9_6 + 1))), (4, .int 40), (0, .ref b), (1, .long v)]) hx hb dJ7_fill_d0a16_16 hl (k := 1) rfl (by exact nI_1 (k9_6)) (by decide) rfl (fun ls hl => ?_)
      refine lv_goto (tgt := 6) hx hb dJ7_fill_d0a16_19 (by decide) ?_
      exact ih_6 (k9_6 + 1)  _ _ _ (by omega) (by omega)  (hP.sub [0] rfl) (hD.sub [0] (by decide) rfl) hS (lv_sub hl [1, 0, 2, 3] rfl)
set_option maxHeartbeats 4000000 in
set_option maxRecDepth 100000 in
theorem g_cut (l : Launch) (D : va_G) (cT : Nat → ClassId) (sz : Nat) (h0 : Nat) (b : Nat) (w0 : Int32) (w1 : Int32) (w2 : Int32) (hw2 : 0 ≤ w2.toInt ∧ w2.toInt ≤ 40) (v : Int64) : Met l yX4_cut (wsc yX4_cut cX4_cut 3 (some .long)) { frames := 2, cells := 0, slots := 0, locals := 100 } (va_Pc [.ref h0, .long v] (PX D cT sz [(h0, .inr (4, [.int w0, .int w1, .int w2, .ref b]))])) (va_Ql (fun (r : Int64) (u : Unit) => True) (fun u t => RW D (va_A [(h0, .inr (4, [.int w0, .int w1, .int w2, .ref b]))] sz) ((fun _ : Unit => [(h0, .inr (4, [.int w0, .int w1, .int w2, .ref b]))]) u) t) (va_A [(h0, .inr (4, [.int w0, .int w1, .int w2, .ref b]))] sz)) 0 0 (va_A [(h0, .inr (4, [.int w0, .int w1, .int w2, .ref b]))] sz) := by
  refine m_of (y := yX4_cut) (cc := cX4_cut) (nL := 3) (ret := (some .long)) (D := D) (cT := cT) (av := [.ref h0, .long v]) (wi := [(h0, .inr (4, [.int w0, .int w1, .int w2, .ref b]))]) (fun A => va_Ql (fun (r : Int64) (u : Unit) => True) (fun u t => RW D A ((fun _ : Unit => [(h0, .inr (4, [.int w0, .int w1, .int w2, .ref b]))]) u) t) A) (by decide) (Nat.le_of_ble_eq_true rfl) ?_
  intro p e s m below meth c A hx hb hml hown htg hK hN hr hlk hnm hsz hP hD hS hA ls hl
  have hown : s.vm.findClass RX4 = some m.cls := hown
  have hl : lv_has ls 3 [(0, .ref h0), (1, .long v)] := hl
  refine lv_aload_n hx hb dX4_cut_0 rfl (lv_at hl 0 rfl) ?_
  refine va_get (D := D) (ci := 4) (v := .int w1) (C := RX4) (T := TX4) (N := 4) hx hb htg gRX4 hown hK hP 0 rfl rfl 1 (by decide) (htg _ wi_453) (fun _ h9 => h9) rfl dX4_cut_1 ?_
  have c_1 : (w1.toInt < 0 ∨ 2 < w1.toInt) ∨ w1 = 0 ∨ w1 = 1 ∨ w1 = 2 := by
    rcases (show (w1.toInt < 0 ∨ 2 < w1.toInt) ∨ w1.toInt = 0 ∨ w1.toInt = 1 ∨ w1.toInt = 2 from by omega) with h | h | h | h
    · exact Or.inl h
    · exact Or.inr (Or.inl (i32_is (h.trans (by decide))))
    · exact Or.inr (Or.inr (Or.inl (i32_is (h.trans (by decide)))))
    · exact Or.inr (Or.inr (Or.inr (i32_is (h.trans (by decide)))))
  rcases c_1 with c_1 | c_1 | c_1 | c_1
  · refine lv_tableOut (tgt := 46) hx hb dX4_cut_4 c_1 (by decide) ?_
    refine lv_lload_n hx hb dX4_cut_46 rfl (lv_at hl 1 rfl) ?_
    exact x_lret hx hb hr hlk hP hD hS [0] (()) rfl (by decide) trivial (by decide) (by decide) dX4_cut_47
  · have ic_1 : w1.toInt = 0 := ieq c_1 rfl (by decide)
    refine lv_is (y := 0) c_1 ?_
    refine lv_tableIn (off := 28) (tgt := 32) hx hb dX4_cut_4 (by decide) (by decide) (by decide) (by decide) ?_
    refine lv_lload_n hx hb dX4_cut_32 rfl (lv_at hl 1 rfl) ?_
    obtain ⟨z_2, ez_2⟩ : ∃ w : Int32, w = v.toInt32 := ⟨_, rfl⟩
    refine lv_l2i (v := z_2) hx hb dX4_cut_33 ez_2.symm ?_
    obtain ⟨z_3, ez_3⟩ : ∃ w : Int32, w = z_2.toInt8.toInt32 := ⟨_, rfl⟩
    refine lv_i2b (v := z_3) hx hb dX4_cut_34 ez_3.symm ?_
    refine lv_i2l (v := z_3.toInt64) hx hb dX4_cut_35 rfl ?_
    exact x_lret hx hb hr hlk hP hD hS [0] (()) rfl (by decide) trivial (by decide) (by decide) dX4_cut_36
  · have ic_1 : w1.toInt = 1 := ieq c_1 rfl (by decide)
    refine lv_is (y := 1) c_1 ?_
    refine lv_tableIn (off := 33) (tgt := 37) hx hb dX4_cut_4 (by decide) (by decide) (by decide) (by decide) ?_
    refine lv_lload_n hx hb dX4_cut_37 rfl (lv_at hl 1 rfl) ?_
    obtain ⟨z_4, ez_4⟩ : ∃ w : Int32, w = v.toInt32 := ⟨_, rfl⟩
    refine lv_l2i (v := z_4) hx hb dX4_cut_38 ez_4.symm ?_
    obtain ⟨z_5, ez_5⟩ : ∃ w : Int32, w = z_4.toInt16.toInt32 := ⟨_, rfl⟩
    refine lv_i2s (v := z_5) hx hb dX4_cut_39 ez_5.symm ?_
    refine lv_i2l (v := z_5.toInt64) hx hb dX4_cut_40 rfl ?_
    exact x_lret hx hb hr hlk hP hD hS [0] (()) rfl (by decide) trivial (by decide) (by decide) dX4_cut_41
  · have ic_1 : w1.toInt = 2 := ieq c_1 rfl (by decide)
    refine lv_is (y := 2) c_1 ?_
    refine lv_tableIn (off := 38) (tgt := 42) hx hb dX4_cut_4 (by decide) (by decide) (by decide) (by decide) ?_
    refine lv_lload_n hx hb dX4_cut_42 rfl (lv_at hl 1 rfl) ?_
    obtain ⟨z_6, ez_6⟩ : ∃ w : Int32, w = v.toInt32 := ⟨_, rfl⟩
    refine lv_l2i (v := z_6) hx hb dX4_cut_43 ez_6.symm ?_
    refine lv_i2l (v := z_6.toInt64) hx hb dX4_cut_44 rfl ?_
    exact x_lret hx hb hr hlk hP hD hS [0] (()) rfl (by decide) trivial (by decide) (by decide) dX4_cut_45
set_option maxHeartbeats 4000000 in
set_option maxRecDepth 100000 in
theorem g_valueAt (l : Launch) (D : va_G) (cT : Nat → ClassId) (sz : Nat) (h0 : Nat) (b : Nat) (w0 : Int32) (w1 : Int32) (w2 : Int32) (hw2 : 0 ≤ w2.toInt ∧ w2.toInt ≤ 40) (f : Nat → Int64) (x : Int32) : Met l yX4_valueAt (wsc yX4_valueAt cX4_valueAt 2 (some .long)) { frames := 2, cells := 0, slots := 0, locals := 100 } (va_Pc [.ref h0, .int x] (PX D cT sz [(h0, .inr (4, [.int w0, .int w1, .int w2, .ref b])), (b, .inl (cT 1, 40, .inr (.inl (f))))])) (va_Ql (fun (r : Int64) (u : Unit) => True) (fun u t => RW D (va_A [(h0, .inr (4, [.int w0, .int w1, .int w2, .ref b])), (b, .inl (cT 1, 40, .inr (.inl (f))))] sz) ((fun _ : Unit => [(h0, .inr (4, [.int w0, .int w1, .int w2, .ref b])), (b, .inl (cT 1, 40, .inr (.inl (f))))]) u) t) (va_A [(h0, .inr (4, [.int w0, .int w1, .int w2, .ref b])), (b, .inl (cT 1, 40, .inr (.inl (f))))] sz)) 0 0 (va_A [(h0, .inr (4, [.int w0, .int w1, .int w2, .ref b])), (b, .inl (cT 1, 40, .inr (.inl (f))))] sz) := by
  refine m_of (y := yX4_valueAt) (cc := cX4_valueAt) (nL := 2) (ret := (some .long)) (D := D) (cT := cT) (av := [.ref h0, .int x]) (wi := [(h0, .inr (4, [.int w0, .int w1, .int w2, .ref b])), (b, .inl (cT 1, 40, .inr (.inl (f))))]) (fun A => va_Ql (fun (r : Int64) (u : Unit) => True) (fun u t => RW D A ((fun _ : Unit => [(h0, .inr (4, [.int w0, .int w1, .int w2, .ref b])), (b, .inl (cT 1, 40, .inr (.inl (f))))]) u) t) A) (by decide) (Nat.le_of_ble_eq_true rfl) ?_
  intro p e s m below meth c A hx hb hml hown htg hK hN hr hlk hnm hsz hP hD hS hA ls hl
  have hown : s.vm.findClass RX4 = some m.cls := hown
  have hl : lv_has ls 2 [(0, .ref h0), (1, .int x)] := hl
  refine lv_iload_n hx hb dX4_valueAt_0 rfl (lv_at hl 1 rfl) ?_
  refine lv_if_lt (tgt := 21) hx hb dX4_valueAt_1 (by decide) (fun c_1 => ?_) (fun c_1 => ?_)
  · have ic_1 : x.toInt < 0 := ilt c_1 (rfl) (by decide)
    refine lv_ldc2 (v := (-1)) hx hb hown (htg _ wi_788) dX4_valueAt_21 ?_
    exact x_lret hx hb hr hlk hP hD hS [0, 1] (()) rfl (by decide) trivial (by decide) (by decide) dX4_valueAt_24
  · have ic_1 : 0 ≤ x.toInt := inlt c_1 (rfl) (by decide)
    refine lv_iload_n hx hb dX4_valueAt_4 rfl (lv_at hl 1 rfl) ?_
    refine lv_aload_n hx hb dX4_valueAt_5 rfl (lv_at hl 0 rfl) ?_
    refine va_get (D := D) (ci := 4) (v := .int w2) (C := RX4) (T := TX4) (N := 4) hx hb htg gRX4 hown hK hP 0 rfl rfl 2 (by decide) (htg _ wi_454) (fun _ h9 => h9) rfl dX4_valueAt_6 ?_
    refine lv_icmp_ge (tgt := 21) hx hb dX4_valueAt_9 (by decide) (fun c_2 => ?_) (fun c_2 => ?_)
    · have ic_2 : w2.toInt ≤ x.toInt := ile c_2 (rfl) (rfl)
      refine lv_ldc2 (v := (-1)) hx hb hown (htg _ wi_788) dX4_valueAt_21 ?_
      exact x_lret hx hb hr hlk hP hD hS [0, 1] (()) rfl (by decide) trivial (by decide) (by decide) dX4_valueAt_24
    · have ic_2 : x.toInt < w2.toInt := inle c_2 (rfl) (rfl)
      refine lv_aload_n hx hb dX4_valueAt_12 rfl (lv_at hl 0 rfl) ?_
      refine va_get (D := D) (ci := 4) (v := .ref b) (C := RX4) (T := TX4) (N := 4) hx hb htg gRX4 hown hK hP 0 rfl rfl 3 (by decide) (htg _ wi_457) (fun _ h9 => h9) rfl dX4_valueAt_13 ?_
      refine lv_iload_n hx hb dX4_valueAt_16 rfl (lv_at hl 1 rfl) ?_
      refine va_lald hx hb hK hP 1 1 rfl rfl (vp_in_iff.mpr (by omega)) dX4_valueAt_17 ?_
      refine lv_topl (fun z_3 ez_3 => ?_)
      refine lv_goto (tgt := 24) hx hb dX4_valueAt_18 (by decide) ?_
      exact x_lret hx hb hr hlk hP hD hS [0, 1] (()) rfl (by decide) trivial (by decide) (by decide) dX4_valueAt_24
set_option maxHeartbeats 4000000 in
set_option maxRecDepth 100000 in
theorem g_put (l : Launch) (D : va_G) (cT : Nat → ClassId) (sz : Nat) (h0 : Nat) (b : Nat) (w0 : Int32) (w1 : Int32) (w2 : Int32) (hw2 : 0 ≤ w2.toInt ∧ w2.toInt ≤ 40) (f : Nat → Int64) (x : Int32) (v : Int64) : Met l yX4_put (wsc yX4_put cX4_put 4 (some .long)) { frames := 3, cells := 0, slots := 0, locals := 122 } (va_Pc [.ref h0, .int x, .long v] (PX D cT sz [(h0, .inr (4, [.int w0, .int w1, .int w2, .ref b])), (b, .inl (cT 1, 40, .inr (.inl (f))))])) (va_Ql (fun (r : Int64) (u : Nat → Int64) => True) (fun u t => RW D (va_A [(h0, .inr (4, [.int w0, .int w1, .int w2, .ref b])), (b, .inl (cT 1, 40, .inr (.inl (f))))] sz) ((fun u : Nat → Int64 => [(h0, .inr (4, [.int w0, .int w1, .int w2, .ref b])), (b, .inl (cT 1, 40, .inr (.inl (u))))]) u) t) (va_A [(h0, .inr (4, [.int w0, .int w1, .int w2, .ref b])), (b, .inl (cT 1, 40, .inr (.inl (f))))] sz)) 0 0 (va_A [(h0, .inr (4, [.int w0, .int w1, .int w2, .ref b])), (b, .inl (cT 1, 40, .inr (.inl (f))))] sz) := by
  refine m_of (y := yX4_put) (cc := cX4_put) (nL := 4) (ret := (some .long)) (D := D) (cT := cT) (av := [.ref h0, .int x, .long v]) (wi := [(h0, .inr (4, [.int w0, .int w1, .int w2, .ref b])), (b, .inl (cT 1, 40, .inr (.inl (f))))]) (fun A => va_Ql (fun (r : Int64) (u : Nat → Int64) => True) (fun u t => RW D A ((fun u : Nat → Int64 => [(h0, .inr (4, [.int w0, .int w1, .int w2, .ref b])), (b, .inl (cT 1, 40, .inr (.inl (u))))]) u) t) A) (by decide) (Nat.le_of_ble_eq_true rfl) ?_
  intro p e s m below meth c A hx hb hml hown htg hK hN hr hlk hnm hsz hP hD hS hA ls hl
  have hown : s.vm.findClass RX4 = some m.cls := hown
  have hl : lv_has ls 4 [(0, .ref h0), (1, .int x), (2, .long v)] := hl
  refine lv_iload_n hx hb dX4_put_0 rfl (lv_at hl 1 rfl) ?_
  refine lv_if_lt (tgt := 12) hx hb dX4_put_1 (by decide) (fun c_1 => ?_) (fun c_1 => ?_)
  · have ic_1 : x.toInt < 0 := ilt c_1 (rfl) (by decide)
    refine lv_ldc2 (v := (-7)) hx hb hown (htg _ wi_1117) dX4_put_12 ?_
    exact x_lret hx hb hr hlk hP hD hS [0, 1] (f) rfl (by decide) trivial (by decide) (by decide) dX4_put_15
  · have ic_1 : 0 ≤ x.toInt := inlt c_1 (rfl) (by decide)
    refine lv_iload_n hx hb dX4_put_4 rfl (lv_at hl 1 rfl) ?_
    refine lv_aload_n hx hb dX4_put_5 rfl (lv_at hl 0 rfl) ?_
    refine va_get (D := D) (ci := 4) (v := .int w2) (C := RX4) (T := TX4) (N := 4) hx hb htg gRX4 hown hK hP 0 rfl rfl 2 (by decide) (htg _ wi_454) (fun _ h9 => h9) rfl dX4_put_6 ?_
    refine lv_icmp_lt (tgt := 16) hx hb dX4_put_9 (by decide) (fun c_2 => ?_) (fun c_2 => ?_)
    · have ic_2 : x.toInt < w2.toInt := ilt c_2 (rfl) (rfl)
      refine lv_aload_n hx hb dX4_put_16 rfl (lv_at hl 0 rfl) ?_
      refine va_get (D := D) (ci := 4) (v := .ref b) (C := RX4) (T := TX4) (N := 4) hx hb htg gRX4 hown hK hP 0 rfl rfl 3 (by decide) (htg _ wi_457) (fun _ h9 => h9) rfl dX4_put_17 ?_
      refine lv_iload_n hx hb dX4_put_20 rfl (lv_at hl 1 rfl) ?_
      refine lv_aload_n hx hb dX4_put_21 rfl (lv_at hl 0 rfl) ?_
      refine lv_lload_n hx hb dX4_put_22 rfl (lv_at hl 2 rfl) ?_
      refine xk_l (wr := [(b, .inl (cT 1, 40, .inr (.inl (f))))]) (xr_V (n := 1) (As := [.long v]) (rest := [.int x, .ref b]) ⟨hx, hb, hml, hown, htg⟩ hK hN hP hD hS hA [0] rfl (by decide) (g_cut l D cT _ (h0) (b) (w0) (w1) (w2) (by first | assumption | decide | omega | (simp only [ti_0, ti_1, ti_2, ti_3, ti_4, ti_5, ti_6, ti_7, ti_8, ti_9, ti_10, ti_11, ti_12, ti_m1]; omega)) (v)) wi_1118 wi_1120 wi_77 wi_130 wi_1121 rfl rfl rfl ⟨rfl, by decide +kernel⟩ ⟨Nat.le_of_ble_eq_true rfl, Nat.le_of_ble_eq_true rfl⟩ rfl hl.1 rfl (Nat.le_of_ble_eq_true rfl) dX4_put_23 ⟨Nat.le_of_ble_eq_true rfl, Nat.le_of_ble_eq_true rfl⟩) hP hD hS hA [0] [1] rfl rfl (by decide) (by decide) (fun r_4 u_3 H locs hwr_4 hP hD hS => ?_)
      have hP : va_P D classes [(b, .inl (cT 1, 40, .inr (.inl (f)))), (h0, .inr (4, [.int w0, .int w1, .int w2, .ref b]))] _ := hP
      have hD : va_D A [(b, .inl (cT 1, 40, .inr (.inl (f)))), (h0, .inr (4, [.int w0, .int w1, .int w2, .ref b]))] := hD
      refine va_last hx hb hK hP hD hS 0 1 rfl rfl (vp_in_iff.mpr (by omega)) dX4_put_26 (fun H locs hP hD hS => ?_)
      obtain ⟨f_5, hP, hD⟩ : ∃ f_5 : Nat → Int64, va_P D classes [(b, .inl (cT 1, 40, .inr (.inl (f_5)))), (h0, .inr (4, [.int w0, .int w1, .int w2, .ref b]))] H ∧ va_D A [(b, .inl (cT 1, 40, .inr (.inl (f_5)))), (h0, .inr (4, [.int w0, .int w1, .int w2, .ref b]))] := ⟨_, hP, hD⟩
      refine lv_aload_n hx hb dX4_put_27 rfl (lv_at hl 0 rfl) ?_
      refine va_get (D := D) (ci := 4) (v := .ref b) (C := RX4) (T := TX4) (N := 4) hx hb htg gRX4 hown hK hP 1 rfl rfl 3 (by decide) (htg _ wi_457) (fun _ h9 => h9) rfl dX4_put_28 ?_
      refine lv_iload_n hx hb dX4_put_31 rfl (lv_at hl 1 rfl) ?_
      refine va_lald hx hb hK hP 0 1 rfl rfl (vp_in_iff.mpr (by omega)) dX4_put_32 ?_
      refine lv_topl (fun z_6 ez_6 => ?_)
      exact x_lret hx hb hr hlk hP hD hS [1, 0] (f_5) rfl (by decide) trivial (by decide) (by decide) dX4_put_33
    · have ic_2 : w2.toInt ≤ x.toInt := inlt c_2 (rfl) (rfl)
      refine lv_ldc2 (v := (-7)) hx hb hown (htg _ wi_1117) dX4_put_12 ?_
      exact x_lret hx hb hr hlk hP hD hS [0, 1] (f) rfl (by decide) trivial (by decide) (by decide) dX4_put_15
set_option maxHeartbeats 4000000 in
set_option maxRecDepth 100000 in
theorem g_hasStrip (l : Launch) (D : va_G) (cT : Nat → ClassId) (sz : Nat) (h0 : Nat) (a : Nat → Nat) (p0 : Int32) (p1 : Int32) (p2 : Int32) (p3 : Int32) (p4 : Int32) (p5 : Int32) (p6 : Int32) (p7 : Int32) (p8 : Int32) (p9 : Int32) (x : Int32) : Met l yX3_hasStrip (wsc yX3_hasStrip cX3_hasStrip 2 (some .boolean)) { frames := 2, cells := 0, slots := 0, locals := 100 } (va_Pc [.ref h0, .int x] (PX D cT sz [(h0, .inr (3, [.int p0, .int p1, .int p2, .int p3, .int p4, .int p5, .int p6, .int p7, .int p8, .int p9, .ref (a 0), .ref (a 1), .ref (a 2), .ref (a 3), .ref (a 4), .ref (a 5)]))])) (va_Qi (fun (r : Int32) (u : Unit) => r = if 0 ≤ x.toInt ∧ x.toInt < p0.toInt then 1 else 0) (fun u t => RW D (va_A [(h0, .inr (3, [.int p0, .int p1, .int p2, .int p3, .int p4, .int p5, .int p6, .int p7, .int p8, .int p9, .ref (a 0), .ref (a 1), .ref (a 2), .ref (a 3), .ref (a 4), .ref (a 5)]))] sz) ((fun _ : Unit => [(h0, .inr (3, [.int p0, .int p1, .int p2, .int p3, .int p4, .int p5, .int p6, .int p7, .int p8, .int p9, .ref (a 0), .ref (a 1), .ref (a 2), .ref (a 3), .ref (a 4), .ref (a 5)]))]) u) t) (va_A [(h0, .inr (3, [.int p0, .int p1, .int p2, .int p3, .int p4, .int p5, .int p6, .int p7, .int p8, .int p9, .ref (a 0), .ref (a 1), .ref (a 2), .ref (a 3), .ref (a 4), .ref (a 5)]))] sz)) 0 0 (va_A [(h0, .inr (3, [.int p0, .int p1, .int p2, .int p3, .int p4, .int p5, .int p6, .int p7, .int p8, .int p9, .ref (a 0), .ref (a 1), .ref (a 2), .ref (a 3), .ref (a 4), .ref (a 5)]))] sz) := by
  refine m_of (y := yX3_hasStrip) (cc := cX3_hasStrip) (nL := 2) (ret := (some .boolean)) (D := D) (cT := cT) (av := [.ref h0, .int x]) (wi := [(h0, .inr (3, [.int p0, .int p1, .int p2, .int p3, .int p4, .int p5, .int p6, .int p7, .int p8, .int p9, .ref (a 0), .ref (a 1), .ref (a 2), .ref (a 3), .ref (a 4), .ref (a 5)]))]) (fun A => va_Qi (fun (r : Int32) (u : Unit) => r = if 0 ≤ x.toInt ∧ x.toInt < p0.toInt then 1 else 0) (fun u t => RW D A ((fun _ : Unit => [(h0, .inr (3, [.int p0, .int p1, .int p2, .int p3, .int p4, .int p5, .int p6, .int p7, .int p8, .int p9, .ref (a 0), .ref (a 1), .ref (a 2), .ref (a 3), .ref (a 4), .ref (a 5)]))]) u) t) A) (by decide) (Nat.le_of_ble_eq_true rfl) ?_
  intro p e s m below meth c A hx hb hml hown htg hK hN hr hlk hnm hsz hP hD hS hA ls hl
  have hown : s.vm.findClass RX3 = some m.cls := hown
  have hl : lv_has ls 2 [(0, .ref h0), (1, .int x)] := hl
  refine lv_iload_n hx hb dX3_hasStrip_0 rfl (lv_at hl 1 rfl) ?_
  refine lv_if_lt (tgt := 16) hx hb dX3_hasStrip_1 (by decide) (fun c_1 => ?_) (fun c_1 => ?_)
  · have ic_1 : x.toInt < 0 := ilt c_1 (rfl) (by decide)
    refine lv_iconst (v := 0) hx hb dX3_hasStrip_16 (by decide) ?_
    exact x_zret hx hb hr hlk hP hD hS [0] (()) rfl (by decide) rfl (by first | rfl | decide | (exfalso; omega) | (try simp only [ti_0, ti_1, ti_2, ti_3, ti_4, ti_5, ti_6, ti_7, ti_8, ti_9, ti_10, ti_11, ti_12]); (repeat (first | rw [if_pos (by first | assumption | omega | trivial)] | rw [if_neg (by first | assumption | omega)]))) (by decide) (by decide) dX3_hasStrip_17
  · have ic_1 : 0 ≤ x.toInt := inlt c_1 (rfl) (by decide)
    refine lv_iload_n hx hb dX3_hasStrip_4 rfl (lv_at hl 1 rfl) ?_
    refine lv_aload_n hx hb dX3_hasStrip_5 rfl (lv_at hl 0 rfl) ?_
    refine va_get (D := D) (ci := 3) (v := .int p0) (C := RX3) (T := TX3) (N := 16) hx hb htg gRX3 hown hK hP 0 rfl rfl 0 (by decide) (htg _ wi_166) (fun _ h9 => h9) rfl dX3_hasStrip_6 ?_
    refine lv_icmp_ge (tgt := 16) hx hb dX3_hasStrip_9 (by decide) (fun c_2 => ?_) (fun c_2 => ?_)
    · have ic_2 : p0.toInt ≤ x.toInt := ile c_2 (rfl) (rfl)
      refine lv_iconst (v := 0) hx hb dX3_hasStrip_16 (by decide) ?_
      exact x_zret hx hb hr hlk hP hD hS [0] (()) rfl (by decide) rfl (by first | rfl | decide | (exfalso; omega) | (try simp only [ti_0, ti_1, ti_2, ti_3, ti_4, ti_5, ti_6, ti_7, ti_8, ti_9, ti_10, ti_11, ti_12]); (repeat (first | rw [if_pos (by first | assumption | omega | trivial)] | rw [if_neg (by first | assumption | omega)]))) (by decide) (by decide) dX3_hasStrip_17
    · have ic_2 : x.toInt < p0.toInt := inle c_2 (rfl) (rfl)
      refine lv_iconst (v := 1) hx hb dX3_hasStrip_12 (by decide) ?_
      refine lv_goto (tgt := 17) hx hb dX3_hasStrip_13 (by decide) ?_
      exact x_zret hx hb hr hlk hP hD hS [0] (()) rfl (by decide) rfl (by first | rfl | decide | (exfalso; omega) | (try simp only [ti_0, ti_1, ti_2, ti_3, ti_4, ti_5, ti_6, ti_7, ti_8, ti_9, ti_10, ti_11, ti_12]); (repeat (first | rw [if_pos (by first | assumption | omega | trivial)] | rw [if_neg (by first | assumption | omega)]))) (by decide) (by decide) dX3_hasStrip_17
set_option maxHeartbeats 4000000 in
set_option maxRecDepth 100000 in
theorem g_allStrips (l : Launch) (D : va_G) (cT : Nat → ClassId) (sz : Nat) (h0 : Nat) (a : Nat → Nat) (p0 : Int32) (p1 : Int32) (p2 : Int32) (p3 : Int32) (p4 : Int32) (p5 : Int32) (p6 : Int32) (p7 : Int32) (p8 : Int32) (p9 : Int32) : Met l yX3_allStrips (wsc yX3_allStrips cX3_allStrips 1 (some .int)) { frames := 2, cells := 0, slots := 0, locals := 100 } (va_Pc [.ref h0] (PX D cT sz [(h0, .inr (3, [.int p0, .int p1, .int p2, .int p3, .int p4, .int p5, .int p6, .int p7, .int p8, .int p9, .ref (a 0), .ref (a 1), .ref (a 2), .ref (a 3), .ref (a 4), .ref (a 5)]))])) (va_Qi (fun (r : Int32) (u : Unit) => True) (fun u t => RW D (va_A [(h0, .inr (3, [.int p0, .int p1, .int p2, .int p3, .int p4, .int p5, .int p6, .int p7, .int p8, .int p9, .ref (a 0), .ref (a 1), .ref (a 2), .ref (a 3), .ref (a 4), .ref (a 5)]))] sz) ((fun _ : Unit => [(h0, .inr (3, [.int p0, .int p1, .int p2, .int p3, .int p4, .int p5, .int p6, .int p7, .int p8, .int p9, .ref (a 0), .ref (a 1), .ref (a 2), .ref (a 3), .ref (a 4), .ref (a 5)]))]) u) t) (va_A [(h0, .inr (3, [.int p0, .int p1, .int p2, .int p3, .int p4, .int p5, .int p6, .int p7, .int p8, .int p9, .ref (a 0), .ref (a 1), .ref (a 2), .ref (a 3), .ref (a 4), .ref (a 5)]))] sz)) 0 0 (va_A [(h0, .inr (3, [.int p0, .int p1, .int p2, .int p3, .int p4, .int p5, .int p6, .int p7, .int p8, .int p9, .ref (a 0), .ref (a 1), .ref (a 2), .ref (a 3), .ref (a 4), .ref (a 5)]))] sz) := by
  refine m_of (y := yX3_allStrips) (cc := cX3_allStrips) (nL := 1) (ret := (some .int)) (D := D) (cT := cT) (av := [.ref h0]) (wi := [(h0, .inr (3, [.int p0, .int p1, .int p2, .int p3, .int p4, .int p5, .int p6, .int p7, .int p8, .int p9, .ref (a 0), .ref (a 1), .ref (a 2), .ref (a 3), .ref (a 4), .ref (a 5)]))]) (fun A => va_Qi (fun (r : Int32) (u : Unit) => True) (fun u t => RW D A ((fun _ : Unit => [(h0, .inr (3, [.int p0, .int p1, .int p2, .int p3, .int p4, .int p5, .int p6, .int p7, .int p8, .int p9, .ref (a 0), .ref (a 1), .ref (a 2), .ref (a 3), .ref (a 4), .ref (a 5)]))]) u) t) A) (by decide) (Nat.le_of_ble_eq_true rfl) ?_
  intro p e s m below meth c A hx hb hml hown htg hK hN hr hlk hnm hsz hP hD hS hA ls hl
  have hown : s.vm.findClass RX3 = some m.cls := hown
  have hl : lv_has ls 1 [(0, .ref h0)] := hl
  refine lv_iconst (v := 1) hx hb dX3_allStrips_0 (by decide) ?_
  refine lv_aload_n hx hb dX3_allStrips_1 rfl (lv_at hl 0 rfl) ?_
  refine va_get (D := D) (ci := 3) (v := .int p0) (C := RX3) (T := TX3) (N := 16) hx hb htg gRX3 hown hK hP 0 rfl rfl 0 (by decide) (htg _ wi_166) (fun _ h9 => h9) rfl dX3_allStrips_2 ?_
  refine lv_ishl hx hb dX3_allStrips_5 ?_
  refine lv_topi (fun z_1 ez_1 => ?_)
  refine lv_iconst (v := 1) hx hb dX3_allStrips_6 (by decide) ?_
  refine lv_isub hx hb dX3_allStrips_7 ?_
  refine lv_topi (fun z_2 ez_2 => ?_)
  exact x_iret hx hb hr hlk hP hD hS [0] (()) rfl (by decide) trivial (by decide) (by decide) dX3_allStrips_8
set_option maxHeartbeats 4000000 in
set_option maxRecDepth 100000 in
theorem g_areStrips (l : Launch) (D : va_G) (cT : Nat → ClassId) (sz : Nat) (h0 : Nat) (a : Nat → Nat) (p0 : Int32) (p1 : Int32) (p2 : Int32) (p3 : Int32) (p4 : Int32) (p5 : Int32) (p6 : Int32) (p7 : Int32) (p8 : Int32) (p9 : Int32) (x : Int32) : Met l yX3_areStrips (wsc yX3_areStrips cX3_areStrips 2 (some .boolean)) { frames := 3, cells := 0, slots := 0, locals := 120 } (va_Pc [.ref h0, .int x] (PX D cT sz [(h0, .inr (3, [.int p0, .int p1, .int p2, .int p3, .int p4, .int p5, .int p6, .int p7, .int p8, .int p9, .ref (a 0), .ref (a 1), .ref (a 2), .ref (a 3), .ref (a 4), .ref (a 5)]))])) (va_Qi (fun (r : Int32) (u : Unit) => True) (fun u t => RW D (va_A [(h0, .inr (3, [.int p0, .int p1, .int p2, .int p3, .int p4, .int p5, .int p6, .int p7, .int p8, .int p9, .ref (a 0), .ref (a 1), .ref (a 2), .ref (a 3), .ref (a 4), .ref (a 5)]))] sz) ((fun _ : Unit => [(h0, .inr (3, [.int p0, .int p1, .int p2, .int p3, .int p4, .int p5, .int p6, .int p7, .int p8, .int p9, .ref (a 0), .ref (a 1), .ref (a 2), .ref (a 3), .ref (a 4), .ref (a 5)]))]) u) t) (va_A [(h0, .inr (3, [.int p0, .int p1, .int p2, .int p3, .int p4, .int p5, .int p6, .int p7, .int p8, .int p9, .ref (a 0), .ref (a 1), .ref (a 2), .ref (a 3), .ref (a 4), .ref (a 5)]))] sz)) 0 0 (va_A [(h0, .inr (3, [.int p0, .int p1, .int p2, .int p3, .int p4, .int p5, .int p6, .int p7, .int p8, .int p9, .ref (a 0), .ref (a 1), .ref (a 2), .ref (a 3), .ref (a 4), .ref (a 5)]))] sz) := by
  refine m_of (y := yX3_areStrips) (cc := cX3_areStrips) (nL := 2) (ret := (some .boolean)) (D := D) (cT := cT) (av := [.ref h0, .int x]) (wi := [(h0, .inr (3, [.int p0, .int p1, .int p2, .int p3, .int p4, .int p5, .int p6, .int p7, .int p8, .int p9, .ref (a 0), .ref (a 1), .ref (a 2), .ref (a 3), .ref (a 4), .ref (a 5)]))]) (fun A => va_Qi (fun (r : Int32) (u : Unit) => True) (fun u t => RW D A ((fun _ : Unit => [(h0, .inr (3, [.int p0, .int p1, .int p2, .int p3, .int p4, .int p5, .int p6, .int p7, .int p8, .int p9, .ref (a 0), .ref (a 1), .ref (a 2), .ref (a 3), .ref (a 4), .ref (a 5)]))]) u) t) A) (by decide) (Nat.le_of_ble_eq_true rfl) ?_
  intro p e s m below meth c A hx hb hml hown htg hK hN hr hlk hnm hsz hP hD hS hA ls hl
  have hown : s.vm.findClass RX3 = some m.cls := hown
  have hl : lv_has ls 2 [(0, .ref h0), (1, .int x)] := hl
  refine lv_iload_n hx hb dX3_areStrips_0 rfl (lv_at hl 1 rfl) ?_
  refine lv_aload_n hx hb dX3_areStrips_1 rfl (lv_at hl 0 rfl) ?_
  refine xk_i (wr := []) (xr_V (n := 0) (As := []) (rest := [.int x]) ⟨hx, hb, hml, hown, htg⟩ hK hN hP hD hS hA [0] rfl (by decide) (g_allStrips l D cT _ (h0) (a) (p0) (p1) (p2) (p3) (p4) (p5) (p6) (p7) (p8) (p9)) wi_737 wi_739 wi_28 wi_123 wi_740 rfl rfl rfl ⟨rfl, by decide +kernel⟩ ⟨Nat.le_of_ble_eq_true rfl, Nat.le_of_ble_eq_true rfl⟩ rfl hl.1 rfl (Nat.le_of_ble_eq_true rfl) dX3_areStrips_2 ⟨Nat.le_of_ble_eq_true rfl, Nat.le_of_ble_eq_true rfl⟩) hP hD hS hA [0] [] rfl rfl (by decide) (by decide) (fun r_2 u_1 H locs hwr_2 hP hD hS => ?_)
  have hP : va_P D classes [(h0, .inr (3, [.int p0, .int p1, .int p2, .int p3, .int p4, .int p5, .int p6, .int p7, .int p8, .int p9, .ref (a 0), .ref (a 1), .ref (a 2), .ref (a 3), .ref (a 4), .ref (a 5)]))] _ := hP
  have hD : va_D A [(h0, .inr (3, [.int p0, .int p1, .int p2, .int p3, .int p4, .int p5, .int p6, .int p7, .int p8, .int p9, .ref (a 0), .ref (a 1), .ref (a 2), .ref (a 3), .ref (a 4), .ref (a 5)]))] := hD
  refine lv_iconst (v := (-1)) hx hb dX3_areStrips_5 (by decide) ?_
  refine lv_ixor hx hb dX3_areStrips_6 ?_
  refine lv_topi (fun z_3 ez_3 => ?_)
  refine lv_iand hx hb dX3_areStrips_7 ?_
  refine lv_topi (fun z_4 ez_4 => ?_)
  refine lv_if_ne (tgt := 15) hx hb dX3_areStrips_8 (by decide) (fun c_5 => ?_) (fun c_5 => ?_)
  · have ic_5 : ¬ z_4.toInt = 0 := ine c_5 (rfl) (by decide)
    refine lv_iconst (v := 0) hx hb dX3_areStrips_15 (by decide) ?_
    exact x_zret hx hb hr hlk hP hD hS [0] (()) rfl (by decide) rfl trivial (by decide) (by decide) dX3_areStrips_16
  · have ic_5 : z_4.toInt = 0 := ieq c_5 (rfl) (by decide)
    refine lv_iconst (v := 1) hx hb dX3_areStrips_11 (by decide) ?_
    refine lv_goto (tgt := 16) hx hb dX3_areStrips_12 (by decide) ?_
    exact x_zret hx hb hr hlk hP hD hS [0] (()) rfl (by decide) rfl trivial (by decide) (by decide) dX3_areStrips_16
set_option maxHeartbeats 4000000 in
set_option maxRecDepth 100000 in
theorem g_hangsOver (l : Launch) (D : va_G) (cT : Nat → ClassId) (sz : Nat) (h0 : Nat) (a : Nat → Nat) (p0 : Int32) (p1 : Int32) (p2 : Int32) (p3 : Int32) (p4 : Int32) (p5 : Int32) (p6 : Int32) (p7 : Int32) (p8 : Int32) (p9 : Int32) : Met l yX3_hangsOver (wsc yX3_hangsOver cX3_hangsOver 1 (some .int)) { frames := 2, cells := 0, slots := 0, locals := 100 } (va_Pc [.ref h0] (PX D cT sz [(h0, .inr (3, [.int p0, .int p1, .int p2, .int p3, .int p4, .int p5, .int p6, .int p7, .int p8, .int p9, .ref (a 0), .ref (a 1), .ref (a 2), .ref (a 3), .ref (a 4), .ref (a 5)]))])) (va_Qi (fun (r : Int32) (u : Unit) => True) (fun u t => RW D (va_A [(h0, .inr (3, [.int p0, .int p1, .int p2, .int p3, .int p4, .int p5, .int p6, .int p7, .int p8, .int p9, .ref (a 0), .ref (a 1), .ref (a 2), .ref (a 3), .ref (a 4), .ref (a 5)]))] sz) ((fun _ : Unit => [(h0, .inr (3, [.int p0, .int p1, .int p2, .int p3, .int p4, .int p5, .int p6, .int p7, .int p8, .int p9, .ref (a 0), .ref (a 1), .ref (a 2), .ref (a 3), .ref (a 4), .ref (a 5)]))]) u) t) (va_A [(h0, .inr (3, [.int p0, .int p1, .int p2, .int p3, .int p4, .int p5, .int p6, .int p7, .int p8, .int p9, .ref (a 0), .ref (a 1), .ref (a 2), .ref (a 3), .ref (a 4), .ref (a 5)]))] sz)) 0 0 (va_A [(h0, .inr (3, [.int p0, .int p1, .int p2, .int p3, .int p4, .int p5, .int p6, .int p7, .int p8, .int p9, .ref (a 0), .ref (a 1), .ref (a 2), .ref (a 3), .ref (a 4), .ref (a 5)]))] sz) := by
  refine m_of (y := yX3_hangsOver) (cc := cX3_hangsOver) (nL := 1) (ret := (some .int)) (D := D) (cT := cT) (av := [.ref h0]) (wi := [(h0, .inr (3, [.int p0, .int p1, .int p2, .int p3, .int p4, .int p5, .int p6, .int p7, .int p8, .int p9, .ref (a 0), .ref (a 1), .ref (a 2), .ref (a 3), .ref (a 4), .ref (a 5)]))]) (fun A => va_Qi (fun (r : Int32) (u : Unit) => True) (fun u t => RW D A ((fun _ : Unit => [(h0, .inr (3, [.int p0, .int p1, .int p2, .int p3, .int p4, .int p5, .int p6, .int p7, .int p8, .int p9, .ref (a 0), .ref (a 1), .ref (a 2), .ref (a 3), .ref (a 4), .ref (a 5)]))]) u) t) A) (by decide) (Nat.le_of_ble_eq_true rfl) ?_
  intro p e s m below meth c A hx hb hml hown htg hK hN hr hlk hnm hsz hP hD hS hA ls hl
  have hown : s.vm.findClass RX3 = some m.cls := hown
  have hl : lv_has ls 1 [(0, .ref h0)] := hl
  refine lv_aload_n hx hb dX3_hangsOver_0 rfl (lv_at hl 0 rfl) ?_
  refine va_get (D := D) (ci := 3) (v := .int p0) (C := RX3) (T := TX3) (N := 16) hx hb htg gRX3 hown hK hP 0 rfl rfl 0 (by decide) (htg _ wi_166) (fun _ h9 => h9) rfl dX3_hangsOver_1 ?_
  refine lv_if_ne (tgt := 11) hx hb dX3_hangsOver_4 (by decide) (fun c_1 => ?_) (fun c_1 => ?_)
  · have ic_1 : ¬ p0.toInt = 0 := ine c_1 (rfl) (by decide)
    refine lv_aload_n hx hb dX3_hangsOver_11 rfl (lv_at hl 0 rfl) ?_
    refine va_get (D := D) (ci := 3) (v := .int p3) (C := RX3) (T := TX3) (N := 16) hx hb htg gRX3 hown hK hP 0 rfl rfl 3 (by decide) (htg _ wi_178) (fun _ h9 => h9) rfl dX3_hangsOver_12 ?_
    exact x_iret hx hb hr hlk hP hD hS [0] (()) rfl (by decide) trivial (by decide) (by decide) dX3_hangsOver_15
  · have ic_1 : p0.toInt = 0 := ieq c_1 (rfl) (by decide)
    refine lv_iconst (v := (-1)) hx hb dX3_hangsOver_7 (by decide) ?_
    refine lv_goto (tgt := 15) hx hb dX3_hangsOver_8 (by decide) ?_
    exact x_iret hx hb hr hlk hP hD hS [0] (()) rfl (by decide) trivial (by decide) (by decide) dX3_hangsOver_15
set_option maxHeartbeats 4000000 in
set_option maxRecDepth 100000 in
theorem g_sum (l : Launch) (D : va_G) (cT : Nat → ClassId) (sz : Nat) (h0 : Nat) (a : Nat → Nat) (p0 : Int32) (p1 : Int32) (p2 : Int32) (p3 : Int32) (p4 : Int32) (p5 : Int32) (p6 : Int32) (p7 : Int32) (p8 : Int32) (p9 : Int32) (hs : 0 ≤ p0.toInt ∧ p0.toInt ≤ 16) (b : Nat) (f : Nat → Int32) : Met l yX3_sum (wsc yX3_sum cX3_sum 4 (some .int)) { frames := 2, cells := 0, slots := 0, locals := 100 } (va_Pc [.ref h0, .ref b] (PX D cT sz [(h0, .inr (3, [.int p0, .int p1, .int p2, .int p3, .int p4, .int p5, .int p6, .int p7, .int p8, .int p9, .ref (a 0), .ref (a 1), .ref (a 2), .ref (a 3), .ref (a 4), .ref (a 5)])), (b, .inl (cT 0, 16, .inl (f)))])) (va_Qi (fun (r : Int32) (u : Unit) => True) (fun u t => RW D (va_A [(h0, .inr (3, [.int p0, .int p1, .int p2, .int p3, .int p4, .int p5, .int p6, .int p7, .int p8, .int p9, .ref (a 0), .ref (a 1), .ref (a 2), .ref (a 3), .ref (a 4), .ref (a 5)])), (b, .inl (cT 0, 16, .inl (f)))] sz) ((fun _ : Unit => [(h0, .inr (3, [.int p0, .int p1, .int p2, .int p3, .int p4, .int p5, .int p6, .int p7, .int p8, .int p9, .ref (a 0), .ref (a 1), .ref (a 2), .ref (a 3), .ref (a 4), .ref (a 5)])), (b, .inl (cT 0, 16, .inl (f)))]) u) t) (va_A [(h0, .inr (3, [.int p0, .int p1, .int p2, .int p3, .int p4, .int p5, .int p6, .int p7, .int p8, .int p9, .ref (a 0), .ref (a 1), .ref (a 2), .ref (a 3), .ref (a 4), .ref (a 5)])), (b, .inl (cT 0, 16, .inl (f)))] sz)) 0 0 (va_A [(h0, .inr (3, [.int p0, .int p1, .int p2, .int p3, .int p4, .int p5, .int p6, .int p7, .int p8, .int p9, .ref (a 0), .ref (a 1), .ref (a 2), .ref (a 3), .ref (a 4), .ref (a 5)])), (b, .inl (cT 0, 16, .inl (f)))] sz) := by
  refine m_of (y := yX3_sum) (cc := cX3_sum) (nL := 4) (ret := (some .int)) (D := D) (cT := cT) (av := [.ref h0, .ref b]) (wi := [(h0, .inr (3, [.int p0, .int p1, .int p2, .int p3, .int p4, .int p5, .int p6, .int p7, .int p8, .int p9, .ref (a 0), .ref (a 1), .ref (a 2), .ref (a 3), .ref (a 4), .ref (a 5)])), (b, .inl (cT 0, 16, .inl (f)))]) (fun A => va_Qi (fun (r : Int32) (u : Unit) => True) (fun u t => RW D A ((fun _ : Unit => [(h0, .inr (3, [.int p0, .int p1, .int p2, .int p3, .int p4, .int p5, .int p6, .int p7, .int p8, .int p9, .ref (a 0), .ref (a 1), .ref (a 2), .ref (a 3), .ref (a 4), .ref (a 5)])), (b, .inl (cT 0, 16, .inl (f)))]) u) t) A) (by decide) (Nat.le_of_ble_eq_true rfl) ?_
  intro p e s m below meth c A hx hb hml hown htg hK hN hr hlk hnm hsz hP hD hS hA ls hl
  have hown : s.vm.findClass RX3 = some m.cls := hown
  have hl : lv_has ls 4 [(0, .ref h0), (1, .ref b)] := hl
  refine lv_iconst (v := 0) hx hb dX3_sum_0 (by decide) ?_
  refine lv_istore_n (lv' := [(2, .int 0), (0, .ref h0), (1, .ref b)]) hx hb dX3_sum_1 rfl hl (by decide) rfl (fun ls hl => ?_)
  refine lv_iconst (v := 0) hx hb dX3_sum_2 (by decide) ?_
  refine lv_istore_n (lv' := [(3, .int 0), (2, .int 0), (0, .ref h0), (1, .ref b)]) hx hb dX3_sum_3 rfl hl (by decide) rfl (fun ls hl => ?_)
  refine (fun (key : ∀ (n9_4 : Nat) (k9_4 : Nat) (x9_4_2 : Int32) (H : Heap) (locs : List Loc) (ls : Array Slot), (k9_4 : Int) ≤ p0.toInt → p0.toInt < (k9_4 : Int) + n9_4 → va_P D classes [(h0, .inr (3, [.int p0, .int p1, .int p2, .int p3, .int p4, .int p5, .int p6, .int p7, .int p8, .int p9, .ref (a 0), .ref (a 1), .ref (a 2), .ref (a 3), .ref (a 4), .ref (a 5)])), (b, .inl (cT 0, 16, .inl (f)))] H → va_D A [(h0, .inr (3, [.int p0, .int p1, .int p2, .int p3, .int p4, .int p5, .int p6, .int p7, .int p8, .int p9, .ref (a 0), .ref (a 1), .ref (a 2), .ref (a 3), .ref (a 4), .ref (a 5)])), (b, .inl (cT 0, 16, .inl (f)))] → va_S A s.heap H locs → lv_has ls 4 [(3, .int (nI k9_4)), (2, .int x9_4_2), (0, .ref h0), (1, .ref b)] → W p l e _ s m _ below meth c H locs _ _ _ (F0 m 4 ls [])) => key (Int.toNat (p0.toInt - 0) + 1) 0 _ _ _ _ (by omega) (by omega)  hP hD hS (lv_sub hl [0, 1, 2, 3] rfl)) ?_
  intro n9_4
  induction n9_4 with
  | zero => intro k9_4 x9_4_2 H locs ls hq1 hq2; exact absurd hq2 (by omega)
  | succ n9_4 ih_4 =>
    intro k9_4 x9_4_2 H locs ls hq1_4 hq2_4  hP hD hS hl
    have hk9_4 : (nI k9_4).toInt = (k9_4 : Int) := nI_toInt (by omega)
    refine lv_iload_n hx hb dX3_sum_4 rfl (lv_at hl 0 rfl) ?_
    refine lv_aload_n hx hb dX3_sum_5 rfl (lv_at hl 2 rfl) ?_
    refine va_get (D := D) (ci := 3) (v := .int p0) (C := RX3) (T := TX3) (N := 16) hx hb htg gRX3 hown hK hP 0 rfl rfl 0 (by decide) (htg _ wi_166) (fun _ h9 => h9) rfl dX3_sum_6 ?_
    refine lv_icmp_ge (tgt := 24) hx hb dX3_sum_9 (by decide) (fun c_1 => ?_) (fun c_1 => ?_)
    · have ic_1 : p0.toInt ≤ ((k9_4 : Nat) : Int) := ile c_1 (rfl) (nI_toInt (by omega))
      refine lv_iload_n hx hb dX3_sum_24 rfl (lv_at hl 1 rfl) ?_
      exact x_iret hx hb hr hlk hP hD hS [0, 1] (()) rfl (by decide) trivial (by decide) (by decide) dX3_sum_25
    · have ic_1 : ((k9_4 : Nat) : Int) < p0.toInt := inle c_1 (rfl) (nI_toInt (by omega))
      refine lv_iload_n hx hb dX3_sum_12 rfl (lv_at hl 1 rfl) ?_
      refine lv_aload_n hx hb dX3_sum_13 rfl (lv_at hl 3 rfl) ?_
      refine lv_iload_n hx hb dX3_sum_14 rfl (lv_at hl 0 rfl) ?_
      refine va_iald hx hb hK hP 1 0 rfl rfl (vp_in_nI (by omega) (by omega)) dX3_sum_15 ?_
      refine lv_topi (fun z_2 ez_2 => ?_)
      refine lv_iadd hx hb dX3_sum_16 ?_
      refine lv_topi (fun z_3 ez_3 => ?_)
      refine lv_istore_n (lv' := [(2, .int z_3), (3, .int (nI k9_4)), (0, .ref h0), (1, .ref b)]) hx hb dX3_sum_17 rfl hl (by decide) rfl (fun ls hl => ?_)
      refine lv_iinc (v := (nI (k9_4 + 1))) (lv' := [(3, .int (nI (k9_4 + 1))), (2, .int z_3), (0, .ref h0), (1, .ref b)]) hx hb dX3_sum_18 hl (k := 1) rfl (by exact nI_1 (k9_4)) (by decide) rfl (fun ls hl => ?_)
      refine lv_goto (tgt := 4) hx hb dX3_sum_21 (by decide) ?_
      exact ih_4 (k9_4 + 1) _ _ _ _ (by omega) (by omega)  (hP.sub [0, 1] rfl) (hD.sub [0, 1] (by decide) rfl) hS (lv_sub hl [0, 1, 2, 3] rfl)
set_option maxHeartbeats 4000000 in
set_option maxRecDepth 100000 in
theorem g_sumOfFarm (l : Launch) (D : va_G) (cT : Nat → ClassId) (sz : Nat) (h0 : Nat) (a : Nat → Nat) (p0 : Int32) (p1 : Int32) (p2 : Int32) (p3 : Int32) (p4 : Int32) (p5 : Int32) (p6 : Int32) (p7 : Int32) (p8 : Int32) (p9 : Int32) (hs : 0 ≤ p0.toInt ∧ p0.toInt ≤ 16) (b : Nat) (f : Nat → Int32) (x : Int32) (f3 : Nat → Int32) : Met l yX3_sumOfFarm (wsc yX3_sumOfFarm cX3_sumOfFarm 5 (some .int)) { frames := 2, cells := 0, slots := 0, locals := 100 } (va_Pc [.ref h0, .ref b, .int x] (PX D cT sz [(h0, .inr (3, [.int p0, .int p1, .int p2, .int p3, .int p4, .int p5, .int p6, .int p7, .int p8, .int p9, .ref (a 0), .ref (a 1), .ref (a 2), .ref (a 3), .ref (a 4), .ref (a 5)])), (b, .inl (cT 0, 16, .inl (f))), ((a 3), .inl (cT 0, 16, .inl (f3)))])) (va_Qi (fun (r : Int32) (u : Unit) => True) (fun u t => RW D (va_A [(h0, .inr (3, [.int p0, .int p1, .int p2, .int p3, .int p4, .int p5, .int p6, .int p7, .int p8, .int p9, .ref (a 0), .ref (a 1), .ref (a 2), .ref (a 3), .ref (a 4), .ref (a 5)])), (b, .inl (cT 0, 16, .inl (f))), ((a 3), .inl (cT 0, 16, .inl (f3)))] sz) ((fun _ : Unit => [(h0, .inr (3, [.int p0, .int p1, .int p2, .int p3, .int p4, .int p5, .int p6, .int p7, .int p8, .int p9, .ref (a 0), .ref (a 1), .ref (a 2), .ref (a 3), .ref (a 4), .ref (a 5)])), (b, .inl (cT 0, 16, .inl (f))), ((a 3), .inl (cT 0, 16, .inl (f3)))]) u) t) (va_A [(h0, .inr (3, [.int p0, .int p1, .int p2, .int p3, .int p4, .int p5, .int p6, .int p7, .int p8, .int p9, .ref (a 0), .ref (a 1), .ref (a 2), .ref (a 3), .ref (a 4), .ref (a 5)])), (b, .inl (cT 0, 16, .inl (f))), ((a 3), .inl (cT 0, 16, .inl (f3)))] sz)) 0 0 (va_A [(h0, .inr (3, [.int p0, .int p1, .int p2, .int p3, .int p4, .int p5, .int p6, .int p7, .int p8, .int p9, .ref (a 0), .ref (a 1), .ref (a 2), .ref (a 3), .ref (a 4), .ref (a 5)])), (b, .inl (cT 0, 16, .inl (f))), ((a 3), .inl (cT 0, 16, .inl (f3)))] sz) := by
  refine m_of (y := yX3_sumOfFarm) (cc := cX3_sumOfFarm) (nL := 5) (ret := (some .int)) (D := D) (cT := cT) (av := [.ref h0, .ref b, .int x]) (wi := [(h0, .inr (3, [.int p0, .int p1, .int p2, .int p3, .int p4, .int p5, .int p6, .int p7, .int p8, .int p9, .ref (a 0), .ref (a 1), .ref (a 2), .ref (a 3), .ref (a 4), .ref (a 5)])), (b, .inl (cT 0, 16, .inl (f))), ((a 3), .inl (cT 0, 16, .inl (f3)))]) (fun A => va_Qi (fun (r : Int32) (u : Unit) => True) (fun u t => RW D A ((fun _ : Unit => [(h0, .inr (3, [.int p0, .int p1, .int p2, .int p3, .int p4, .int p5, .int p6, .int p7, .int p8, .int p9, .ref (a 0), .ref (a 1), .ref (a 2), .ref (a 3), .ref (a 4), .ref (a 5)])), (b, .inl (cT 0, 16, .inl (f))), ((a 3), .inl (cT 0, 16, .inl (f3)))]) u) t) A) (by decide) (Nat.le_of_ble_eq_true rfl) ?_
  intro p e s m below meth c A hx hb hml hown htg hK hN hr hlk hnm hsz hP hD hS hA ls hl
  have hown : s.vm.findClass RX3 = some m.cls := hown
  have hl : lv_has ls 5 [(0, .ref h0), (1, .ref b), (2, .int x)] := hl
  refine lv_iconst (v := 0) hx hb dX3_sumOfFarm_0 (by decide) ?_
  refine lv_istore_n (lv' := [(3, .int 0), (0, .ref h0), (1, .ref b), (2, .int x)]) hx hb dX3_sumOfFarm_1 rfl hl (by decide) rfl (fun ls hl => ?_)
  refine lv_iconst (v := 0) hx hb dX3_sumOfFarm_2 (by decide) ?_
  refine lv_istore (lv' := [(4, .int 0), (3, .int 0), (0, .ref h0), (1, .ref b), (2, .int x)]) hx hb dX3_sumOfFarm_3 hl (by decide) rfl (fun ls hl => ?_)
  refine (fun (key : ∀ (n9_5 : Nat) (k9_5 : Nat) (x9_5_3 : Int32) (H : Heap) (locs : List Loc) (ls : Array Slot), (k9_5 : Int) ≤ p0.toInt → p0.toInt < (k9_5 : Int) + n9_5 → va_P D classes [(h0, .inr (3, [.int p0, .int p1, .int p2, .int p3, .int p4, .int p5, .int p6, .int p7, .int p8, .int p9, .ref (a 0), .ref (a 1), .ref (a 2), .ref (a 3), .ref (a 4), .ref (a 5)])), (b, .inl (cT 0, 16, .inl (f))), ((a 3), .inl (cT 0, 16, .inl (f3)))] H → va_D A [(h0, .inr (3, [.int p0, .int p1, .int p2, .int p3, .int p4, .int p5, .int p6, .int p7, .int p8, .int p9, .ref (a 0), .ref (a 1), .ref (a 2), .ref (a 3), .ref (a 4), .ref (a 5)])), (b, .inl (cT 0, 16, .inl (f))), ((a 3), .inl (cT 0, 16, .inl (f3)))] → va_S A s.heap H locs → lv_has ls 5 [(4, .int (nI k9_5)), (3, .int x9_5_3), (0, .ref h0), (1, .ref b), (2, .int x)] → W p l e _ s m _ below meth c H locs _ _ _ (F0 m 5 ls [])) => key (Int.toNat (p0.toInt - 0) + 1) 0 _ _ _ _ (by omega) (by omega)  hP hD hS (lv_sub hl [0, 1, 2, 3, 4] rfl)) ?_
  intro n9_5
  induction n9_5 with
  | zero => intro k9_5 x9_5_3 H locs ls hq1 hq2; exact absurd hq2 (by omega)
  | succ n9_5 ih_5 =>
    intro k9_5 x9_5_3 H locs ls hq1_5 hq2_5  hP hD hS hl
    have hk9_5 : (nI k9_5).toInt = (k9_5 : Int) := nI_toInt (by omega)
    refine lv_iload hx hb dX3_sumOfFarm_5 (lv_at hl 0 rfl) ?_
    refine lv_aload_n hx hb dX3_sumOfFarm_7 rfl (lv_at hl 2 rfl) ?_
    refine va_get (D := D) (ci := 3) (v := .int p0) (C := RX3) (T := TX3) (N := 16) hx hb htg gRX3 hown hK hP 0 rfl rfl 0 (by decide) (htg _ wi_166) (fun _ h9 => h9) rfl dX3_sumOfFarm_8 ?_
    refine lv_icmp_ge (tgt := 38) hx hb dX3_sumOfFarm_11 (by decide) (fun c_1 => ?_) (fun c_1 => ?_)
    · have ic_1 : p0.toInt ≤ ((k9_5 : Nat) : Int) := ile c_1 (rfl) (nI_toInt (by omega))
      refine lv_iload_n hx hb dX3_sumOfFarm_38 rfl (lv_at hl 1 rfl) ?_
      exact x_iret hx hb hr hlk hP hD hS [0, 1, 2] (()) rfl (by decide) trivial (by decide) (by decide) dX3_sumOfFarm_39
    · have ic_1 : ((k9_5 : Nat) : Int) < p0.toInt := inle c_1 (rfl) (nI_toInt (by omega))
      refine lv_aload_n hx hb dX3_sumOfFarm_14 rfl (lv_at hl 2 rfl) ?_
      refine va_get (D := D) (ci := 3) (v := .ref (a 3)) (C := RX3) (T := TX3) (N := 16) hx hb htg gRX3 hown hK hP 0 rfl rfl 13 (by decide) (htg _ wi_208) (fun _ h9 => h9) rfl dX3_sumOfFarm_15 ?_
      refine lv_iload hx hb dX3_sumOfFarm_18 (lv_at hl 0 rfl) ?_
      refine va_iald hx hb hK hP 2 0 rfl rfl (vp_in_nI (by omega) (by omega)) dX3_sumOfFarm_20 ?_
      refine lv_topi (fun z_2 ez_2 => ?_)
      refine lv_iload_n hx hb dX3_sumOfFarm_21 rfl (lv_at hl 4 rfl) ?_
      refine lv_icmp_ne (tgt := 32) hx hb dX3_sumOfFarm_22 (by decide) (fun c_3 => ?_) (fun c_3 => ?_)
      · have ic_3 : ¬ z_2.toInt = x.toInt := ine c_3 (rfl) (rfl)
        refine lv_iinc (v := (nI (k9_5 + 1))) (lv' := [(4, .int (nI (k9_5 + 1))), (3, .int x9_5_3), (0, .ref h0), (1, .ref b), (2, .int x)]) hx hb dX3_sumOfFarm_32 hl (k := 0) rfl (by exact nI_1 (k9_5)) (by decide) rfl (fun ls hl => ?_)
        refine lv_goto (tgt := 5) hx hb dX3_sumOfFarm_35 (by decide) ?_
        exact ih_5 (k9_5 + 1) _ _ _ _ (by omega) (by omega)  (hP.sub [0, 1, 2] rfl) (hD.sub [0, 1, 2] (by decide) rfl) hS (lv_sub hl [0, 1, 2, 3, 4] rfl)
      · have ic_3 : z_2.toInt = x.toInt := ieq c_3 (rfl) (rfl)
        refine lv_iload_n hx hb dX3_sumOfFarm_25 rfl (lv_at hl 1 rfl) ?_
        refine lv_aload_n hx hb dX3_sumOfFarm_26 rfl (lv_at hl 3 rfl) ?_
        refine lv_iload hx hb dX3_sumOfFarm_27 (lv_at hl 0 rfl) ?_
        refine va_iald hx hb hK hP 1 0 rfl rfl (vp_in_nI (by omega) (by omega)) dX3_sumOfFarm_29 ?_
        refine lv_topi (fun z_4 ez_4 => ?_)
        refine lv_iadd hx hb dX3_sumOfFarm_30 ?_
        refine lv_topi (fun z_5 ez_5 => ?_)
        refine lv_istore_n (lv' := [(3, .int z_5), (4, .int (nI k9_5)), (0, .ref h0), (1, .ref b), (2, .int x)]) hx hb dX3_sumOfFarm_31 rfl hl (by decide) rfl (fun ls hl => ?_)
        refine lv_iinc (v := (nI (k9_5 + 1))) (lv' := [(4, .int (nI (k9_5 + 1))), (3, .int z_5), (0, .ref h0), (1, .ref b), (2, .int x)]) hx hb dX3_sumOfFarm_32 hl (k := 1) rfl (by exact nI_1 (k9_5)) (by decide) rfl (fun ls hl => ?_)
        refine lv_goto (tgt := 5) hx hb dX3_sumOfFarm_35 (by decide) ?_
        exact ih_5 (k9_5 + 1) _ _ _ _ (by omega) (by omega)  (hP.sub [0, 1, 2] rfl) (hD.sub [0, 1, 2] (by decide) rfl) hS (lv_sub hl [0, 1, 2, 3, 4] rfl)
set_option maxHeartbeats 4000000 in
set_option maxRecDepth 100000 in
theorem g_stripsOfFarm (l : Launch) (D : va_G) (cT : Nat → ClassId) (sz : Nat) (h0 : Nat) (a : Nat → Nat) (p0 : Int32) (p1 : Int32) (p2 : Int32) (p3 : Int32) (p4 : Int32) (p5 : Int32) (p6 : Int32) (p7 : Int32) (p8 : Int32) (p9 : Int32) (hs : 0 ≤ p0.toInt ∧ p0.toInt ≤ 16) (x : Int32) (f3 : Nat → Int32) : Met l yX3_stripsOfFarm (wsc yX3_stripsOfFarm cX3_stripsOfFarm 4 (some .int)) { frames := 2, cells := 0, slots := 0, locals := 100 } (va_Pc [.ref h0, .int x] (PX D cT sz [(h0, .inr (3, [.int p0, .int p1, .int p2, .int p3, .int p4, .int p5, .int p6, .int p7, .int p8, .int p9, .ref (a 0), .ref (a 1), .ref (a 2), .ref (a 3), .ref (a 4), .ref (a 5)])), ((a 3), .inl (cT 0, 16, .inl (f3)))])) (va_Qi (fun (r : Int32) (u : Unit) => True) (fun u t => RW D (va_A [(h0, .inr (3, [.int p0, .int p1, .int p2, .int p3, .int p4, .int p5, .int p6, .int p7, .int p8, .int p9, .ref (a 0), .ref (a 1), .ref (a 2), .ref (a 3), .ref (a 4), .ref (a 5)])), ((a 3), .inl (cT 0, 16, .inl (f3)))] sz) ((fun _ : Unit => [(h0, .inr (3, [.int p0, .int p1, .int p2, .int p3, .int p4, .int p5, .int p6, .int p7, .int p8, .int p9, .ref (a 0), .ref (a 1), .ref (a 2), .ref (a 3), .ref (a 4), .ref (a 5)])), ((a 3), .inl (cT 0, 16, .inl (f3)))]) u) t) (va_A [(h0, .inr (3, [.int p0, .int p1, .int p2, .int p3, .int p4, .int p5, .int p6, .int p7, .int p8, .int p9, .ref (a 0), .ref (a 1), .ref (a 2), .ref (a 3), .ref (a 4), .ref (a 5)])), ((a 3), .inl (cT 0, 16, .inl (f3)))] sz)) 0 0 (va_A [(h0, .inr (3, [.int p0, .int p1, .int p2, .int p3, .int p4, .int p5, .int p6, .int p7, .int p8, .int p9, .ref (a 0), .ref (a 1), .ref (a 2), .ref (a 3), .ref (a 4), .ref (a 5)])), ((a 3), .inl (cT 0, 16, .inl (f3)))] sz) := by
  refine m_of (y := yX3_stripsOfFarm) (cc := cX3_stripsOfFarm) (nL := 4) (ret := (some .int)) (D := D) (cT := cT) (av := [.ref h0, .int x]) (wi := [(h0, .inr (3, [.int p0, .int p1, .int p2, .int p3, .int p4, .int p5, .int p6, .int p7, .int p8, .int p9, .ref (a 0), .ref (a 1), .ref (a 2), .ref (a 3), .ref (a 4), .ref (a 5)])), ((a 3), .inl (cT 0, 16, .inl (f3)))]) (fun A => va_Qi (fun (r : Int32) (u : Unit) => True) (fun u t => RW D A ((fun _ : Unit => [(h0, .inr (3, [.int p0, .int p1, .int p2, .int p3, .int p4, .int p5, .int p6, .int p7, .int p8, .int p9, .ref (a 0), .ref (a 1), .ref (a 2), .ref (a 3), .ref (a 4), .ref (a 5)])), ((a 3), .inl (cT 0, 16, .inl (f3)))]) u) t) A) (by decide) (Nat.le_of_ble_eq_true rfl) ?_
  intro p e s m below meth c A hx hb hml hown htg hK hN hr hlk hnm hsz hP hD hS hA ls hl
  have hown : s.vm.findClass RX3 = some m.cls := hown
  have hl : lv_has ls 4 [(0, .ref h0), (1, .int x)] := hl
  refine lv_iconst (v := 0) hx hb dX3_stripsOfFarm_0 (by decide) ?_
  refine lv_istore_n (lv' := [(2, .int 0), (0, .ref h0), (1, .int x)]) hx hb dX3_stripsOfFarm_1 rfl hl (by decide) rfl (fun ls hl => ?_)
  refine lv_iconst (v := 0) hx hb dX3_stripsOfFarm_2 (by decide) ?_
  refine lv_istore_n (lv' := [(3, .int 0), (2, .int 0), (0, .ref h0), (1, .int x)]) hx hb dX3_stripsOfFarm_3 rfl hl (by decide) rfl (fun ls hl => ?_)
  refine (fun (key : ∀ (n9_4 : Nat) (k9_4 : Nat) (x9_4_2 : Int32) (H : Heap) (locs : List Loc) (ls : Array Slot), (k9_4 : Int) ≤ p0.toInt → p0.toInt < (k9_4 : Int) + n9_4 → va_P D classes [(h0, .inr (3, [.int p0, .int p1, .int p2, .int p3, .int p4, .int p5, .int p6, .int p7, .int p8, .int p9, .ref (a 0), .ref (a 1), .ref (a 2), .ref (a 3), .ref (a 4), .ref (a 5)])), ((a 3), .inl (cT 0, 16, .inl (f3)))] H → va_D A [(h0, .inr (3, [.int p0, .int p1, .int p2, .int p3, .int p4, .int p5, .int p6, .int p7, .int p8, .int p9, .ref (a 0), .ref (a 1), .ref (a 2), .ref (a 3), .ref (a 4), .ref (a 5)])), ((a 3), .inl (cT 0, 16, .inl (f3)))] → va_S A s.heap H locs → lv_has ls 4 [(3, .int (nI k9_4)), (2, .int x9_4_2), (0, .ref h0), (1, .int x)] → W p l e _ s m _ below meth c H locs _ _ _ (F0 m 4 ls [])) => key (Int.toNat (p0.toInt - 0) + 1) 0 _ _ _ _ (by omega) (by omega)  hP hD hS (lv_sub hl [0, 1, 2, 3] rfl)) ?_
  intro n9_4
  induction n9_4 with
  | zero => intro k9_4 x9_4_2 H locs ls hq1 hq2; exact absurd hq2 (by omega)
  | succ n9_4 ih_4 =>
    intro k9_4 x9_4_2 H locs ls hq1_4 hq2_4  hP hD hS hl
    have hk9_4 : (nI k9_4).toInt = (k9_4 : Int) := nI_toInt (by omega)
    refine lv_iload_n hx hb dX3_stripsOfFarm_4 rfl (lv_at hl 0 rfl) ?_
    refine lv_aload_n hx hb dX3_stripsOfFarm_5 rfl (lv_at hl 2 rfl) ?_
    refine va_get (D := D) (ci := 3) (v := .int p0) (C := RX3) (T := TX3) (N := 16) hx hb htg gRX3 hown hK hP 0 rfl rfl 0 (by decide) (htg _ wi_166) (fun _ h9 => h9) rfl dX3_stripsOfFarm_6 ?_
    refine lv_icmp_ge (tgt := 34) hx hb dX3_stripsOfFarm_9 (by decide) (fun c_1 => ?_) (fun c_1 => ?_)
    · have ic_1 : p0.toInt ≤ ((k9_4 : Nat) : Int) := ile c_1 (rfl) (nI_toInt (by omega))
      refine lv_iload_n hx hb dX3_stripsOfFarm_34 rfl (lv_at hl 1 rfl) ?_
      exact x_iret hx hb hr hlk hP hD hS [0, 1] (()) rfl (by decide) trivial (by decide) (by decide) dX3_stripsOfFarm_35
    · have ic_1 : ((k9_4 : Nat) : Int) < p0.toInt := inle c_1 (rfl) (nI_toInt (by omega))
      refine lv_aload_n hx hb dX3_stripsOfFarm_12 rfl (lv_at hl 2 rfl) ?_
      refine va_get (D := D) (ci := 3) (v := .ref (a 3)) (C := RX3) (T := TX3) (N := 16) hx hb htg gRX3 hown hK hP 0 rfl rfl 13 (by decide) (htg _ wi_208) (fun _ h9 => h9) rfl dX3_stripsOfFarm_13 ?_
      refine lv_iload_n hx hb dX3_stripsOfFarm_16 rfl (lv_at hl 0 rfl) ?_
      refine va_iald hx hb hK hP 1 0 rfl rfl (vp_in_nI (by omega) (by omega)) dX3_stripsOfFarm_17 ?_
      refine lv_topi (fun z_2 ez_2 => ?_)
      refine lv_iload_n hx hb dX3_stripsOfFarm_18 rfl (lv_at hl 3 rfl) ?_
      refine lv_icmp_ne (tgt := 28) hx hb dX3_stripsOfFarm_19 (by decide) (fun c_3 => ?_) (fun c_3 => ?_)
      · have ic_3 : ¬ z_2.toInt = x.toInt := ine c_3 (rfl) (rfl)
        refine lv_iinc (v := (nI (k9_4 + 1))) (lv' := [(3, .int (nI (k9_4 + 1))), (2, .int x9_4_2), (0, .ref h0), (1, .int x)]) hx hb dX3_stripsOfFarm_28 hl (k := 0) rfl (by exact nI_1 (k9_4)) (by decide) rfl (fun ls hl => ?_)
        refine lv_goto (tgt := 4) hx hb dX3_stripsOfFarm_31 (by decide) ?_
        exact ih_4 (k9_4 + 1) _ _ _ _ (by omega) (by omega)  (hP.sub [0, 1] rfl) (hD.sub [0, 1] (by decide) rfl) hS (lv_sub hl [0, 1, 2, 3] rfl)
      · have ic_3 : z_2.toInt = x.toInt := ieq c_3 (rfl) (rfl)
        refine lv_iload_n hx hb dX3_stripsOfFarm_22 rfl (lv_at hl 1 rfl) ?_
        refine lv_iconst (v := 1) hx hb dX3_stripsOfFarm_23 (by decide) ?_
        refine lv_iload_n hx hb dX3_stripsOfFarm_24 rfl (lv_at hl 0 rfl) ?_
        refine lv_ishl hx hb dX3_stripsOfFarm_25 ?_
        refine lv_topi (fun z_4 ez_4 => ?_)
        refine lv_ior hx hb dX3_stripsOfFarm_26 ?_
        refine lv_topi (fun z_5 ez_5 => ?_)
        refine lv_istore_n (lv' := [(2, .int z_5), (3, .int (nI k9_4)), (0, .ref h0), (1, .int x)]) hx hb dX3_stripsOfFarm_27 rfl hl (by decide) rfl (fun ls hl => ?_)
        refine lv_iinc (v := (nI (k9_4 + 1))) (lv' := [(3, .int (nI (k9_4 + 1))), (2, .int z_5), (0, .ref h0), (1, .int x)]) hx hb dX3_stripsOfFarm_28 hl (k := 1) rfl (by exact nI_1 (k9_4)) (by decide) rfl (fun ls hl => ?_)
        refine lv_goto (tgt := 4) hx hb dX3_stripsOfFarm_31 (by decide) ?_
        exact ih_4 (k9_4 + 1) _ _ _ _ (by omega) (by omega)  (hP.sub [0, 1] rfl) (hD.sub [0, 1] (by decide) rfl) hS (lv_sub hl [0, 1, 2, 3] rfl)
set_option maxHeartbeats 4000000 in
set_option maxRecDepth 100000 in
theorem g_unshadedLight (l : Launch) (D : va_G) (cT : Nat → ClassId) (sz : Nat) (h0 : Nat) (a : Nat → Nat) (p0 : Int32) (p1 : Int32) (p2 : Int32) (p3 : Int32) (p4 : Int32) (p5 : Int32) (p6 : Int32) (p7 : Int32) (p8 : Int32) (p9 : Int32) (x : Int32) (y : Int32) : Met l yX3_unshadedLight (wsc yX3_unshadedLight cX3_unshadedLight 3 (some .int)) { frames := 2, cells := 0, slots := 0, locals := 100 } (va_Pc [.ref h0, .int x, .int y] (PX D cT sz [(h0, .inr (3, [.int p0, .int p1, .int p2, .int p3, .int p4, .int p5, .int p6, .int p7, .int p8, .int p9, .ref (a 0), .ref (a 1), .ref (a 2), .ref (a 3), .ref (a 4), .ref (a 5)]))])) (va_Qi (fun (r : Int32) (u : Unit) => True) (fun u t => RW D (va_A [(h0, .inr (3, [.int p0, .int p1, .int p2, .int p3, .int p4, .int p5, .int p6, .int p7, .int p8, .int p9, .ref (a 0), .ref (a 1), .ref (a 2), .ref (a 3), .ref (a 4), .ref (a 5)]))] sz) ((fun _ : Unit => [(h0, .inr (3, [.int p0, .int p1, .int p2, .int p3, .int p4, .int p5, .int p6, .int p7, .int p8, .int p9, .ref (a 0), .ref (a 1), .ref (a 2), .ref (a 3), .ref (a 4), .ref (a 5)]))]) u) t) (va_A [(h0, .inr (3, [.int p0, .int p1, .int p2, .int p3, .int p4, .int p5, .int p6, .int p7, .int p8, .int p9, .ref (a 0), .ref (a 1), .ref (a 2), .ref (a 3), .ref (a 4), .ref (a 5)]))] sz)) 0 0 (va_A [(h0, .inr (3, [.int p0, .int p1, .int p2, .int p3, .int p4, .int p5, .int p6, .int p7, .int p8, .int p9, .ref (a 0), .ref (a 1), .ref (a 2), .ref (a 3), .ref (a 4), .ref (a 5)]))] sz) := by
  refine m_of (y := yX3_unshadedLight) (cc := cX3_unshadedLight) (nL := 3) (ret := (some .int)) (D := D) (cT := cT) (av := [.ref h0, .int x, .int y]) (wi := [(h0, .inr (3, [.int p0, .int p1, .int p2, .int p3, .int p4, .int p5, .int p6, .int p7, .int p8, .int p9, .ref (a 0), .ref (a 1), .ref (a 2), .ref (a 3), .ref (a 4), .ref (a 5)]))]) (fun A => va_Qi (fun (r : Int32) (u : Unit) => True) (fun u t => RW D A ((fun _ : Unit => [(h0, .inr (3, [.int p0, .int p1, .int p2, .int p3, .int p4, .int p5, .int p6, .int p7, .int p8, .int p9, .ref (a 0), .ref (a 1), .ref (a 2), .ref (a 3), .ref (a 4), .ref (a 5)]))]) u) t) A) (by decide) (Nat.le_of_ble_eq_true rfl) ?_
  intro p e s m below meth c A hx hb hml hown htg hK hN hr hlk hnm hsz hP hD hS hA ls hl
  have hown : s.vm.findClass RX3 = some m.cls := hown
  have hl : lv_has ls 3 [(0, .ref h0), (1, .int x), (2, .int y)] := hl
  refine lv_iconst (v := 0) hx hb dX3_unshadedLight_0 (by decide) ?_
  refine lv_aload_n hx hb dX3_unshadedLight_1 rfl (lv_at hl 0 rfl) ?_
  refine va_get (D := D) (ci := 3) (v := .int p5) (C := RX3) (T := TX3) (N := 16) hx hb htg gRX3 hown hK hP 0 rfl rfl 5 (by decide) (htg _ wi_184) (fun _ h9 => h9) rfl dX3_unshadedLight_2 ?_
  refine lv_aload_n hx hb dX3_unshadedLight_5 rfl (lv_at hl 0 rfl) ?_
  refine va_get (D := D) (ci := 3) (v := .int p6) (C := RX3) (T := TX3) (N := 16) hx hb htg gRX3 hown hK hP 0 rfl rfl 6 (by decide) (htg _ wi_187) (fun _ h9 => h9) rfl dX3_unshadedLight_6 ?_
  refine lv_iload_n hx hb dX3_unshadedLight_9 rfl (lv_at hl 1 rfl) ?_
  refine lv_iload_n hx hb dX3_unshadedLight_10 rfl (lv_at hl 2 rfl) ?_
  refine lv_isub hx hb dX3_unshadedLight_11 ?_
  refine lv_topi (fun z_1 ez_1 => ?_)
  refine va_mabs hx hb (by rw [hml]; exact hl.1.symm) hown (htg _ wi_678) (htg _ wi_679) (htg _ wi_132) (htg _ wi_680) (Nat.le_of_ble_eq_true rfl) (Nat.le_of_ble_eq_true rfl) (Nat.le_of_ble_eq_true rfl) (Nat.le_of_ble_eq_true rfl) dX3_unshadedLight_12 ?_
  refine lv_topi (fun z_2 ez_2 => ?_)
  refine lv_imul hx hb dX3_unshadedLight_15 ?_
  refine lv_topi (fun z_3 ez_3 => ?_)
  refine lv_isub hx hb dX3_unshadedLight_16 ?_
  refine lv_topi (fun z_4 ez_4 => ?_)
  refine va_mmax hx hb (by rw [hml]; exact hl.1.symm) hown (htg _ wi_681) (htg _ wi_527) (htg _ wi_132) (htg _ wi_528) (Nat.le_of_ble_eq_true rfl) (Nat.le_of_ble_eq_true rfl) (Nat.le_of_ble_eq_true rfl) (Nat.le_of_ble_eq_true rfl) dX3_unshadedLight_17 ?_
  refine lv_topi (fun z_5 ez_5 => ?_)
  have iz_5 := maxI (a := 0) (b := z_4.toInt) ez_5 (by decide) (rfl)
  exact x_iret hx hb hr hlk hP hD hS [0] (()) rfl (by decide) trivial (by decide) (by decide) dX3_unshadedLight_20
set_option maxHeartbeats 4000000 in
set_option maxRecDepth 100000 in
theorem g_isShaded (l : Launch) (D : va_G) (cT : Nat → ClassId) (sz : Nat) (h0 : Nat) (a : Nat → Nat) (p0 : Int32) (p1 : Int32) (p2 : Int32) (p3 : Int32) (p4 : Int32) (p5 : Int32) (p6 : Int32) (p7 : Int32) (p8 : Int32) (p9 : Int32) (x : Int32) (y : Int32) (hxx : 0 ≤ x.toInt ∧ x.toInt ≤ 15) (hyy : 0 ≤ y.toInt ∧ y.toInt ≤ 15) (f2 : Nat → Int32) : Met l yX3_isShaded (wsc yX3_isShaded cX3_isShaded 6 (some .boolean)) { frames := 2, cells := 0, slots := 0, locals := 100 } (va_Pc [.ref h0, .int x, .int y] (PX D cT sz [(h0, .inr (3, [.int p0, .int p1, .int p2, .int p3, .int p4, .int p5, .int p6, .int p7, .int p8, .int p9, .ref (a 0), .ref (a 1), .ref (a 2), .ref (a 3), .ref (a 4), .ref (a 5)])), ((a 2), .inl (cT 0, 16, .inl (f2)))])) (va_Qi (fun (r : Int32) (u : Unit) => True) (fun u t => RW D (va_A [(h0, .inr (3, [.int p0, .int p1, .int p2, .int p3, .int p4, .int p5, .int p6, .int p7, .int p8, .int p9, .ref (a 0), .ref (a 1), .ref (a 2), .ref (a 3), .ref (a 4), .ref (a 5)])), ((a 2), .inl (cT 0, 16, .inl (f2)))] sz) ((fun _ : Unit => [(h0, .inr (3, [.int p0, .int p1, .int p2, .int p3, .int p4, .int p5, .int p6, .int p7, .int p8, .int p9, .ref (a 0), .ref (a 1), .ref (a 2), .ref (a 3), .ref (a 4), .ref (a 5)])), ((a 2), .inl (cT 0, 16, .inl (f2)))]) u) t) (va_A [(h0, .inr (3, [.int p0, .int p1, .int p2, .int p3, .int p4, .int p5, .int p6, .int p7, .int p8, .int p9, .ref (a 0), .ref (a 1), .ref (a 2), .ref (a 3), .ref (a 4), .ref (a 5)])), ((a 2), .inl (cT 0, 16, .inl (f2)))] sz)) 0 0 (va_A [(h0, .inr (3, [.int p0, .int p1, .int p2, .int p3, .int p4, .int p5, .int p6, .int p7, .int p8, .int p9, .ref (a 0), .ref (a 1), .ref (a 2), .ref (a 3), .ref (a 4), .ref (a 5)])), ((a 2), .inl (cT 0, 16, .inl (f2)))] sz) := by
  refine m_of (y := yX3_isShaded) (cc := cX3_isShaded) (nL := 6) (ret := (some .boolean)) (D := D) (cT := cT) (av := [.ref h0, .int x, .int y]) (wi := [(h0, .inr (3, [.int p0, .int p1, .int p2, .int p3, .int p4, .int p5, .int p6, .int p7, .int p8, .int p9, .ref (a 0), .ref (a 1), .ref (a 2), .ref (a 3), .ref (a 4), .ref (a 5)])), ((a 2), .inl (cT 0, 16, .inl (f2)))]) (fun A => va_Qi (fun (r : Int32) (u : Unit) => True) (fun u t => RW D A ((fun _ : Unit => [(h0, .inr (3, [.int p0, .int p1, .int p2, .int p3, .int p4, .int p5, .int p6, .int p7, .int p8, .int p9, .ref (a 0), .ref (a 1), .ref (a 2), .ref (a 3), .ref (a 4), .ref (a 5)])), ((a 2), .inl (cT 0, 16, .inl (f2)))]) u) t) A) (by decide) (Nat.le_of_ble_eq_true rfl) ?_
  intro p e s m below meth c A hx hb hml hown htg hK hN hr hlk hnm hsz hP hD hS hA ls hl
  have hown : s.vm.findClass RX3 = some m.cls := hown
  have hl : lv_has ls 6 [(0, .ref h0), (1, .int x), (2, .int y)] := hl
  refine lv_iload_n hx hb dX3_isShaded_0 rfl (lv_at hl 1 rfl) ?_
  refine lv_iload_n hx hb dX3_isShaded_1 rfl (lv_at hl 2 rfl) ?_
  refine lv_isub hx hb dX3_isShaded_2 ?_
  refine lv_topi (fun z_1 ez_1 => ?_)
  have iz_1 : z_1.toInt = x.toInt - y.toInt := toInt_subI ez_1 (rfl) (rfl) (by omega)
  refine va_mabs hx hb (by rw [hml]; exact hl.1.symm) hown (htg _ wi_678) (htg _ wi_679) (htg _ wi_132) (htg _ wi_680) (Nat.le_of_ble_eq_true rfl) (Nat.le_of_ble_eq_true rfl) (Nat.le_of_ble_eq_true rfl) (Nat.le_of_ble_eq_true rfl) dX3_isShaded_3 ?_
  refine lv_topi (fun z_2 ez_2 => ?_)
  have iz_2 := absI (a := z_1.toInt) ez_2 (rfl) (by omega)
  refine lv_istore_n (lv' := [(3, .int z_2), (0, .ref h0), (1, .int x), (2, .int y)]) hx hb dX3_isShaded_6 rfl hl (by decide) rfl (fun ls hl => ?_)
  refine lv_iload_n hx hb dX3_isShaded_7 rfl (lv_at hl 2 rfl) ?_
  refine lv_iload_n hx hb dX3_isShaded_8 rfl (lv_at hl 3 rfl) ?_
  refine va_mmax hx hb (by rw [hml]; exact hl.1.symm) hown (htg _ wi_681) (htg _ wi_527) (htg _ wi_132) (htg _ wi_528) (Nat.le_of_ble_eq_true rfl) (Nat.le_of_ble_eq_true rfl) (Nat.le_of_ble_eq_true rfl) (Nat.le_of_ble_eq_true rfl) dX3_isShaded_9 ?_
  refine lv_topi (fun z_3 ez_3 => ?_)
  have iz_3 := maxI (a := x.toInt) (b := y.toInt) ez_3 (rfl) (rfl)
  refine lv_istore (lv' := [(4, .int z_3), (3, .int z_2), (0, .ref h0), (1, .int x), (2, .int y)]) hx hb dX3_isShaded_12 hl (by decide) rfl (fun ls hl => ?_)
  refine lv_iload_n hx hb dX3_isShaded_14 rfl (lv_at hl 3 rfl) ?_
  refine lv_iload_n hx hb dX3_isShaded_15 rfl (lv_at hl 4 rfl) ?_
  refine va_mmin hx hb (by rw [hml]; exact hl.1.symm) hown (htg _ wi_686) (htg _ wi_524) (htg _ wi_132) (htg _ wi_525) (Nat.le_of_ble_eq_true rfl) (Nat.le_of_ble_eq_true rfl) (Nat.le_of_ble_eq_true rfl) (Nat.le_of_ble_eq_true rfl) dX3_isShaded_16 ?_
  refine lv_topi (fun z_4 ez_4 => ?_)
  have iz_4 := minI (a := x.toInt) (b := y.toInt) ez_4 (rfl) (rfl)
  refine lv_iconst (v := 1) hx hb dX3_isShaded_19 (by decide) ?_
  refine lv_iadd hx hb dX3_isShaded_20 ?_
  refine lv_topi (fun z_5 ez_5 => ?_)
  have iz_5 : z_5.toInt = z_4.toInt + 1 := toInt_addI ez_5 (rfl) (by decide) (by omega)
  refine lv_istore (lv' := [(5, .int z_5), (4, .int z_3), (3, .int z_2), (0, .ref h0), (1, .int x), (2, .int y)]) hx hb dX3_isShaded_21 hl (by decide) rfl (fun ls hl => ?_)
  refine (fun (key : ∀ (n9_23 : Nat) (k9_23 : Int32)  (H : Heap) (locs : List Loc) (ls : Array Slot), (0 ≤ k9_23.toInt ∧ k9_23.toInt ≤ 17) → 17 < k9_23.toInt + n9_23 → va_P D classes [(h0, .inr (3, [.int p0, .int p1, .int p2, .int p3, .int p4, .int p5, .int p6, .int p7, .int p8, .int p9, .ref (a 0), .ref (a 1), .ref (a 2), .ref (a 3), .ref (a 4), .ref (a 5)])), ((a 2), .inl (cT 0, 16, .inl (f2)))] H → va_D A [(h0, .inr (3, [.int p0, .int p1, .int p2, .int p3, .int p4, .int p5, .int p6, .int p7, .int p8, .int p9, .ref (a 0), .ref (a 1), .ref (a 2), .ref (a 3), .ref (a 4), .ref (a 5)])), ((a 2), .inl (cT 0, 16, .inl (f2)))] → va_S A s.heap H locs → lv_has ls 6 [(5, .int k9_23), (4, .int z_3), (3, .int z_2), (0, .ref h0), (1, .int x), (2, .int y)] → W p l e _ s m _ below meth c H locs _ _ _ (F0 m 23 ls [])) => key (Int.toNat (17 - z_5.toInt) + 1) (z_5)  _ _ _ (by omega) (by omega)  hP hD hS (lv_sub hl [0, 1, 2, 3, 4, 5] rfl)) ?_
  intro n9_23
  induction n9_23 with
  | zero => intro k9_23  H locs ls hq1 hq2; exact absurd hq2 (by omega)
  | succ n9_23 ih_23 =>
    intro k9_23  H locs ls hq1_23 hq2_23  hP hD hS hl
    refine lv_iload hx hb dX3_isShaded_23 (lv_at hl 0 rfl) ?_
    refine lv_iload hx hb dX3_isShaded_25 (lv_at hl 1 rfl) ?_
    refine lv_icmp_ge (tgt := 62) hx hb dX3_isShaded_27 (by decide) (fun c_6 => ?_) (fun c_6 => ?_)
    · have ic_6 : z_3.toInt ≤ k9_23.toInt := ile c_6 (rfl) (rfl)
      refine lv_iconst (v := 0) hx hb dX3_isShaded_62 (by decide) ?_
      exact x_zret hx hb hr hlk hP hD hS [0, 1] (()) rfl (by decide) rfl trivial (by decide) (by decide) dX3_isShaded_63
    · have ic_6 : k9_23.toInt < z_3.toInt := inle c_6 (rfl) (rfl)
      refine lv_aload_n hx hb dX3_isShaded_30 rfl (lv_at hl 3 rfl) ?_
      refine va_get (D := D) (ci := 3) (v := .ref (a 2)) (C := RX3) (T := TX3) (N := 16) hx hb htg gRX3 hown hK hP 0 rfl rfl 12 (by decide) (htg _ wi_206) (fun _ h9 => h9) rfl dX3_isShaded_31 ?_
      refine lv_iload hx hb dX3_isShaded_34 (lv_at hl 0 rfl) ?_
      refine va_iald hx hb hK hP 1 0 rfl rfl (vp_in_iff.mpr (by omega)) dX3_isShaded_36 ?_
      refine lv_topi (fun z_7 ez_7 => ?_)
      refine lv_iload_n hx hb dX3_isShaded_37 rfl (lv_at hl 2 rfl) ?_
      refine lv_imul hx hb dX3_isShaded_38 ?_
      refine lv_topi (fun z_8 ez_8 => ?_)
      refine lv_aload_n hx hb dX3_isShaded_39 rfl (lv_at hl 3 rfl) ?_
      refine va_get (D := D) (ci := 3) (v := .int p4) (C := RX3) (T := TX3) (N := 16) hx hb htg gRX3 hown hK hP 0 rfl rfl 4 (by decide) (htg _ wi_181) (fun _ h9 => h9) rfl dX3_isShaded_40 ?_
      refine lv_iload hx hb dX3_isShaded_43 (lv_at hl 0 rfl) ?_
      refine lv_iload_n hx hb dX3_isShaded_45 rfl (lv_at hl 5 rfl) ?_
      refine lv_isub hx hb dX3_isShaded_46 ?_
      refine lv_topi (fun z_9 ez_9 => ?_)
      have iz_9 : z_9.toInt = k9_23.toInt - y.toInt := toInt_subI ez_9 (rfl) (rfl) (by omega)
      refine va_mabs hx hb (by rw [hml]; exact hl.1.symm) hown (htg _ wi_678) (htg _ wi_679) (htg _ wi_132) (htg _ wi_680) (Nat.le_of_ble_eq_true rfl) (Nat.le_of_ble_eq_true rfl) (Nat.le_of_ble_eq_true rfl) (Nat.le_of_ble_eq_true rfl) dX3_isShaded_47 ?_
      refine lv_topi (fun z_10 ez_10 => ?_)
      have iz_10 := absI (a := z_9.toInt) ez_10 (rfl) (by omega)
      refine lv_imul hx hb dX3_isShaded_50 ?_
      refine lv_topi (fun z_11 ez_11 => ?_)
      refine lv_icmp_le (tgt := 56) hx hb dX3_isShaded_51 (by decide) (fun c_12 => ?_) (fun c_12 => ?_)
      · have ic_12 : z_8.toInt ≤ z_11.toInt := ile c_12 (rfl) (rfl)
        obtain ⟨z_13, ez_13⟩ : ∃ w : Int32, w = k9_23 + 1 := ⟨_, rfl⟩
        have iz_13 : z_13.toInt = k9_23.toInt + 1 := toInt_addI ez_13 (rfl) (by decide) (by omega)
        refine lv_iinc (v := z_13) (lv' := [(5, .int z_13), (4, .int z_3), (3, .int z_2), (0, .ref h0), (1, .int x), (2, .int y)]) hx hb dX3_isShaded_56 hl (k := 0) rfl (by rw [ez_13]; rfl) (by decide) rfl (fun ls hl => ?_)
        refine lv_goto (tgt := 23) hx hb dX3_isShaded_59 (by decide) ?_
        exact ih_23 (z_13)  _ _ _ (by omega) (by omega)  (hP.sub [0, 1] rfl) (hD.sub [0, 1] (by decide) rfl) hS (lv_sub hl [0, 1, 2, 3, 4, 5] rfl)
      · have ic_12 : z_11.toInt < z_8.toInt := inle c_12 (rfl) (rfl)
        refine lv_iconst (v := 1) hx hb dX3_isShaded_54 (by decide) ?_
        exact x_zret hx hb hr hlk hP hD hS [0, 1] (()) rfl (by decide) rfl trivial (by decide) (by decide) dX3_isShaded_55
set_option maxHeartbeats 4000000 in
set_option maxRecDepth 100000 in
theorem g_lightOf (l : Launch) (D : va_G) (cT : Nat → ClassId) (sz : Nat) (h0 : Nat) (a : Nat → Nat) (p0 : Int32) (p1 : Int32) (p2 : Int32) (p3 : Int32) (p4 : Int32) (p5 : Int32) (p6 : Int32) (p7 : Int32) (p8 : Int32) (p9 : Int32) (x : Int32) (y : Int32) (hxx : 0 ≤ x.toInt ∧ x.toInt ≤ 15) (hyy : 0 ≤ y.toInt ∧ y.toInt ≤ 15) (f2 : Nat → Int32) : Met l yX3_lightOf (wsc yX3_lightOf cX3_lightOf 4 (some .int)) { frames := 3, cells := 0, slots := 0, locals := 125 } (va_Pc [.ref h0, .int x, .int y] (PX D cT sz [(h0, .inr (3, [.int p0, .int p1, .int p2, .int p3, .int p4, .int p5, .int p6, .int p7, .int p8, .int p9, .ref (a 0), .ref (a 1), .ref (a 2), .ref (a 3), .ref (a 4), .ref (a 5)])), ((a 2), .inl (cT 0, 16, .inl (f2)))])) (va_Qi (fun (r : Int32) (u : Unit) => True) (fun u t => RW D (va_A [(h0, .inr (3, [.int p0, .int p1, .int p2, .int p3, .int p4, .int p5, .int p6, .int p7, .int p8, .int p9, .ref (a 0), .ref (a 1), .ref (a 2), .ref (a 3), .ref (a 4), .ref (a 5)])), ((a 2), .inl (cT 0, 16, .inl (f2)))] sz) ((fun _ : Unit => [(h0, .inr (3, [.int p0, .int p1, .int p2, .int p3, .int p4, .int p5, .int p6, .int p7, .int p8, .int p9, .ref (a 0), .ref (a 1), .ref (a 2), .ref (a 3), .ref (a 4), .ref (a 5)])), ((a 2), .inl (cT 0, 16, .inl (f2)))]) u) t) (va_A [(h0, .inr (3, [.int p0, .int p1, .int p2, .int p3, .int p4, .int p5, .int p6, .int p7, .int p8, .int p9, .ref (a 0), .ref (a 1), .ref (a 2), .ref (a 3), .ref (a 4), .ref (a 5)])), ((a 2), .inl (cT 0, 16, .inl (f2)))] sz)) 0 0 (va_A [(h0, .inr (3, [.int p0, .int p1, .int p2, .int p3, .int p4, .int p5, .int p6, .int p7, .int p8, .int p9, .ref (a 0), .ref (a 1), .ref (a 2), .ref (a 3), .ref (a 4), .ref (a 5)])), ((a 2), .inl (cT 0, 16, .inl (f2)))] sz) := by
  refine m_of (y := yX3_lightOf) (cc := cX3_lightOf) (nL := 4) (ret := (some .int)) (D := D) (cT := cT) (av := [.ref h0, .int x, .int y]) (wi := [(h0, .inr (3, [.int p0, .int p1, .int p2, .int p3, .int p4, .int p5, .int p6, .int p7, .int p8, .int p9, .ref (a 0), .ref (a 1), .ref (a 2), .ref (a 3), .ref (a 4), .ref (a 5)])), ((a 2), .inl (cT 0, 16, .inl (f2)))]) (fun A => va_Qi (fun (r : Int32) (u : Unit) => True) (fun u t => RW D A ((fun _ : Unit => [(h0, .inr (3, [.int p0, .int p1, .int p2, .int p3, .int p4, .int p5, .int p6, .int p7, .int p8, .int p9, .ref (a 0), .ref (a 1), .ref (a 2), .ref (a 3), .ref (a 4), .ref (a 5)])), ((a 2), .inl (cT 0, 16, .inl (f2)))]) u) t) A) (by decide) (Nat.le_of_ble_eq_true rfl) ?_
  intro p e s m below meth c A hx hb hml hown htg hK hN hr hlk hnm hsz hP hD hS hA ls hl
  have hown : s.vm.findClass RX3 = some m.cls := hown
  have hl : lv_has ls 4 [(0, .ref h0), (1, .int x), (2, .int y)] := hl
  refine lv_aload_n hx hb dX3_lightOf_0 rfl (lv_at hl 0 rfl) ?_
  refine lv_iload_n hx hb dX3_lightOf_1 rfl (lv_at hl 1 rfl) ?_
  refine lv_iload_n hx hb dX3_lightOf_2 rfl (lv_at hl 2 rfl) ?_
  refine xk_i (wr := [((a 2), .inl (cT 0, 16, .inl (f2)))]) (xr_V (n := 2) (As := [.int x, .int y]) (rest := []) ⟨hx, hb, hml, hown, htg⟩ hK hN hP hD hS hA [0] rfl (by decide) (g_unshadedLight l D cT _ (h0) (a) (p0) (p1) (p2) (p3) (p4) (p5) (p6) (p7) (p8) (p9) (x) (y)) wi_674 wi_676 wi_20 wi_123 wi_677 rfl rfl rfl ⟨rfl, by decide +kernel⟩ ⟨Nat.le_of_ble_eq_true rfl, Nat.le_of_ble_eq_true rfl⟩ rfl hl.1 rfl (Nat.le_of_ble_eq_true rfl) dX3_lightOf_3 ⟨Nat.le_of_ble_eq_true rfl, Nat.le_of_ble_eq_true rfl⟩) hP hD hS hA [0] [1] rfl rfl (by decide) (by decide) (fun r_2 u_1 H locs hwr_2 hP hD hS => ?_)
  have hP : va_P D classes [((a 2), .inl (cT 0, 16, .inl (f2))), (h0, .inr (3, [.int p0, .int p1, .int p2, .int p3, .int p4, .int p5, .int p6, .int p7, .int p8, .int p9, .ref (a 0), .ref (a 1), .ref (a 2), .ref (a 3), .ref (a 4), .ref (a 5)]))] _ := hP
  have hD : va_D A [((a 2), .inl (cT 0, 16, .inl (f2))), (h0, .inr (3, [.int p0, .int p1, .int p2, .int p3, .int p4, .int p5, .int p6, .int p7, .int p8, .int p9, .ref (a 0), .ref (a 1), .ref (a 2), .ref (a 3), .ref (a 4), .ref (a 5)]))] := hD
  refine lv_istore_n (lv' := [(3, .int r_2), (0, .ref h0), (1, .int x), (2, .int y)]) hx hb dX3_lightOf_6 rfl hl (by decide) rfl (fun ls hl => ?_)
  refine lv_iload_n hx hb dX3_lightOf_7 rfl (lv_at hl 0 rfl) ?_
  refine lv_if_le (tgt := 24) hx hb dX3_lightOf_8 (by decide) (fun c_3 => ?_) (fun c_3 => ?_)
  · have ic_3 : r_2.toInt ≤ 0 := ile c_3 (rfl) (by decide)
    refine lv_iload_n hx hb dX3_lightOf_24 rfl (lv_at hl 0 rfl) ?_
    exact x_iret hx hb hr hlk hP hD hS [1, 0] (()) rfl (by decide) trivial (by decide) (by decide) dX3_lightOf_25
  · have ic_3 : 0 < r_2.toInt := inle c_3 (rfl) (by decide)
    refine lv_aload_n hx hb dX3_lightOf_11 rfl (lv_at hl 1 rfl) ?_
    refine lv_iload_n hx hb dX3_lightOf_12 rfl (lv_at hl 2 rfl) ?_
    refine lv_iload_n hx hb dX3_lightOf_13 rfl (lv_at hl 3 rfl) ?_
    refine xk_i (wr := []) (xr_V (n := 2) (As := [.int x, .int y]) (rest := []) ⟨hx, hb, hml, hown, htg⟩ hK hN hP hD hS hA [1, 0] rfl (by decide) (g_isShaded l D cT _ (h0) (a) (p0) (p1) (p2) (p3) (p4) (p5) (p6) (p7) (p8) (p9) (x) (y) (by first | assumption | decide | omega | (simp only [ti_0, ti_1, ti_2, ti_3, ti_4, ti_5, ti_6, ti_7, ti_8, ti_9, ti_10, ti_11, ti_12, ti_m1]; omega)) (by first | assumption | decide | omega | (simp only [ti_0, ti_1, ti_2, ti_3, ti_4, ti_5, ti_6, ti_7, ti_8, ti_9, ti_10, ti_11, ti_12, ti_m1]; omega)) (f2)) wi_682 wi_684 wi_21 wi_123 wi_685 rfl rfl rfl ⟨rfl, by decide +kernel⟩ ⟨Nat.le_of_ble_eq_true rfl, Nat.le_of_ble_eq_true rfl⟩ rfl hl.1 rfl (Nat.le_of_ble_eq_true rfl) dX3_lightOf_14 ⟨Nat.le_of_ble_eq_true rfl, Nat.le_of_ble_eq_true rfl⟩) hP hD hS hA [1, 0] [] rfl rfl (by decide) (by decide) (fun r_5 u_4 H locs hwr_5 hP hD hS => ?_)
    have hP : va_P D classes [(h0, .inr (3, [.int p0, .int p1, .int p2, .int p3, .int p4, .int p5, .int p6, .int p7, .int p8, .int p9, .ref (a 0), .ref (a 1), .ref (a 2), .ref (a 3), .ref (a 4), .ref (a 5)])), ((a 2), .inl (cT 0, 16, .inl (f2)))] _ := hP
    have hD : va_D A [(h0, .inr (3, [.int p0, .int p1, .int p2, .int p3, .int p4, .int p5, .int p6, .int p7, .int p8, .int p9, .ref (a 0), .ref (a 1), .ref (a 2), .ref (a 3), .ref (a 4), .ref (a 5)])), ((a 2), .inl (cT 0, 16, .inl (f2)))] := hD
    refine lv_if_eq (tgt := 24) hx hb dX3_lightOf_17 (by decide) (fun c_6 => ?_) (fun c_6 => ?_)
    · have ic_6 : r_5.toInt = 0 := ieq c_6 (rfl) (by decide)
      refine lv_iload_n hx hb dX3_lightOf_24 rfl (lv_at hl 0 rfl) ?_
      exact x_iret hx hb hr hlk hP hD hS [0, 1] (()) rfl (by decide) trivial (by decide) (by decide) dX3_lightOf_25
    · have ic_6 : ¬ r_5.toInt = 0 := ine c_6 (rfl) (by decide)
      refine lv_iconst (v := 0) hx hb dX3_lightOf_20 (by decide) ?_
      refine lv_goto (tgt := 25) hx hb dX3_lightOf_21 (by decide) ?_
      exact x_iret hx hb hr hlk hP hD hS [0, 1] (()) rfl (by decide) trivial (by decide) (by decide) dX3_lightOf_25
set_option maxHeartbeats 4000000 in
set_option maxRecDepth 100000 in
theorem g_litFrom (l : Launch) (D : va_G) (cT : Nat → ClassId) (sz : Nat) (h0 : Nat) (a : Nat → Nat) (p0 : Int32) (p1 : Int32) (p2 : Int32) (p3 : Int32) (p4 : Int32) (p5 : Int32) (p6 : Int32) (p7 : Int32) (p8 : Int32) (p9 : Int32) (hs : 0 ≤ p0.toInt ∧ p0.toInt ≤ 16) (x : Int32) (hxx : 0 ≤ x.toInt ∧ x.toInt ≤ 15) (f2 : Nat → Int32) : Met l yX3_litFrom (wsc yX3_litFrom cX3_litFrom 4 (some .int)) { frames := 4, cells := 0, slots := 0, locals := 148 } (va_Pc [.ref h0, .int x] (PX D cT sz [(h0, .inr (3, [.int p0, .int p1, .int p2, .int p3, .int p4, .int p5, .int p6, .int p7, .int p8, .int p9, .ref (a 0), .ref (a 1), .ref (a 2), .ref (a 3), .ref (a 4), .ref (a 5)])), ((a 2), .inl (cT 0, 16, .inl (f2)))])) (va_Qi (fun (r : Int32) (u : Unit) => True) (fun u t => RW D (va_A [(h0, .inr (3, [.int p0, .int p1, .int p2, .int p3, .int p4, .int p5, .int p6, .int p7, .int p8, .int p9, .ref (a 0), .ref (a 1), .ref (a 2), .ref (a 3), .ref (a 4), .ref (a 5)])), ((a 2), .inl (cT 0, 16, .inl (f2)))] sz) ((fun _ : Unit => [(h0, .inr (3, [.int p0, .int p1, .int p2, .int p3, .int p4, .int p5, .int p6, .int p7, .int p8, .int p9, .ref (a 0), .ref (a 1), .ref (a 2), .ref (a 3), .ref (a 4), .ref (a 5)])), ((a 2), .inl (cT 0, 16, .inl (f2)))]) u) t) (va_A [(h0, .inr (3, [.int p0, .int p1, .int p2, .int p3, .int p4, .int p5, .int p6, .int p7, .int p8, .int p9, .ref (a 0), .ref (a 1), .ref (a 2), .ref (a 3), .ref (a 4), .ref (a 5)])), ((a 2), .inl (cT 0, 16, .inl (f2)))] sz)) 0 0 (va_A [(h0, .inr (3, [.int p0, .int p1, .int p2, .int p3, .int p4, .int p5, .int p6, .int p7, .int p8, .int p9, .ref (a 0), .ref (a 1), .ref (a 2), .ref (a 3), .ref (a 4), .ref (a 5)])), ((a 2), .inl (cT 0, 16, .inl (f2)))] sz) := by
  refine m_of (y := yX3_litFrom) (cc := cX3_litFrom) (nL := 4) (ret := (some .int)) (D := D) (cT := cT) (av := [.ref h0, .int x]) (wi := [(h0, .inr (3, [.int p0, .int p1, .int p2, .int p3, .int p4, .int p5, .int p6, .int p7, .int p8, .int p9, .ref (a 0), .ref (a 1), .ref (a 2), .ref (a 3), .ref (a 4), .ref (a 5)])), ((a 2), .inl (cT 0, 16, .inl (f2)))]) (fun A => va_Qi (fun (r : Int32) (u : Unit) => True) (fun u t => RW D A ((fun _ : Unit => [(h0, .inr (3, [.int p0, .int p1, .int p2, .int p3, .int p4, .int p5, .int p6, .int p7, .int p8, .int p9, .ref (a 0), .ref (a 1), .ref (a 2), .ref (a 3), .ref (a 4), .ref (a 5)])), ((a 2), .inl (cT 0, 16, .inl (f2)))]) u) t) A) (by decide) (Nat.le_of_ble_eq_true rfl) ?_
  intro p e s m below meth c A hx hb hml hown htg hK hN hr hlk hnm hsz hP hD hS hA ls hl
  have hown : s.vm.findClass RX3 = some m.cls := hown
  have hl : lv_has ls 4 [(0, .ref h0), (1, .int x)] := hl
  refine lv_iconst (v := 0) hx hb dX3_litFrom_0 (by decide) ?_
  refine lv_istore_n (lv' := [(2, .int 0), (0, .ref h0), (1, .int x)]) hx hb dX3_litFrom_1 rfl hl (by decide) rfl (fun ls hl => ?_)
  refine lv_iconst (v := 0) hx hb dX3_litFrom_2 (by decide) ?_
  refine lv_istore_n (lv' := [(3, .int 0), (2, .int 0), (0, .ref h0), (1, .int x)]) hx hb dX3_litFrom_3 rfl hl (by decide) rfl (fun ls hl => ?_)
  refine (fun (key : ∀ (n9_4 : Nat) (k9_4 : Nat) (x9_4_2 : Int32) (H : Heap) (locs : List Loc) (ls : Array Slot), (k9_4 : Int) ≤ p0.toInt → p0.toInt < (k9_4 : Int) + n9_4 → va_P D classes [(h0, .inr (3, [.int p0, .int p1, .int p2, .int p3, .int p4, .int p5, .int p6, .int p7, .int p8, .int p9, .ref (a 0), .ref (a 1), .ref (a 2), .ref (a 3), .ref (a 4), .ref (a 5)])), ((a 2), .inl (cT 0, 16, .inl (f2)))] H → va_D A [(h0, .inr (3, [.int p0, .int p1, .int p2, .int p3, .int p4, .int p5, .int p6, .int p7, .int p8, .int p9, .ref (a 0), .ref (a 1), .ref (a 2), .ref (a 3), .ref (a 4), .ref (a 5)])), ((a 2), .inl (cT 0, 16, .inl (f2)))] → va_S A s.heap H locs → lv_has ls 4 [(3, .int (nI k9_4)), (2, .int x9_4_2), (0, .ref h0), (1, .int x)] → W p l e _ s m _ below meth c H locs _ _ _ (F0 m 4 ls [])) => key (Int.toNat (p0.toInt - 0) + 1) 0 _ _ _ _ (by omega) (by omega)  hP hD hS (lv_sub hl [0, 1, 2, 3] rfl)) ?_
  intro n9_4
  induction n9_4 with
  | zero => intro k9_4 x9_4_2 H locs ls hq1 hq2; exact absurd hq2 (by omega)
  | succ n9_4 ih_4 =>
    intro k9_4 x9_4_2 H locs ls hq1_4 hq2_4  hP hD hS hl
    have hk9_4 : (nI k9_4).toInt = (k9_4 : Int) := nI_toInt (by omega)
    refine lv_iload_n hx hb dX3_litFrom_4 rfl (lv_at hl 0 rfl) ?_
    refine lv_aload_n hx hb dX3_litFrom_5 rfl (lv_at hl 2 rfl) ?_
    refine va_get (D := D) (ci := 3) (v := .int p0) (C := RX3) (T := TX3) (N := 16) hx hb htg gRX3 hown hK hP 0 rfl rfl 0 (by decide) (htg _ wi_166) (fun _ h9 => h9) rfl dX3_litFrom_6 ?_
    refine lv_icmp_ge (tgt := 33) hx hb dX3_litFrom_9 (by decide) (fun c_1 => ?_) (fun c_1 => ?_)
    · have ic_1 : p0.toInt ≤ ((k9_4 : Nat) : Int) := ile c_1 (rfl) (nI_toInt (by omega))
      refine lv_iload_n hx hb dX3_litFrom_33 rfl (lv_at hl 1 rfl) ?_
      exact x_iret hx hb hr hlk hP hD hS [0, 1] (()) rfl (by decide) trivial (by decide) (by decide) dX3_litFrom_34
    · have ic_1 : ((k9_4 : Nat) : Int) < p0.toInt := inle c_1 (rfl) (nI_toInt (by omega))
      refine lv_aload_n hx hb dX3_litFrom_12 rfl (lv_at hl 2 rfl) ?_
      refine lv_iload_n hx hb dX3_litFrom_13 rfl (lv_at hl 3 rfl) ?_
      refine lv_iload_n hx hb dX3_litFrom_14 rfl (lv_at hl 0 rfl) ?_
      refine xk_i (wr := []) (xr_V (n := 2) (As := [.int x, .int (nI k9_4)]) (rest := []) ⟨hx, hb, hml, hown, htg⟩ hK hN hP hD hS hA [0, 1] rfl (by decide) (g_lightOf l D cT _ (h0) (a) (p0) (p1) (p2) (p3) (p4) (p5) (p6) (p7) (p8) (p9) (x) ((nI k9_4)) (by first | assumption | decide | omega | (simp only [ti_0, ti_1, ti_2, ti_3, ti_4, ti_5, ti_6, ti_7, ti_8, ti_9, ti_10, ti_11, ti_12, ti_m1]; omega)) (by first | assumption | decide | omega | (simp only [ti_0, ti_1, ti_2, ti_3, ti_4, ti_5, ti_6, ti_7, ti_8, ti_9, ti_10, ti_11, ti_12, ti_m1]; omega)) (f2)) wi_712 wi_672 wi_19 wi_123 wi_673 rfl rfl rfl ⟨rfl, by decide +kernel⟩ ⟨Nat.le_of_ble_eq_true rfl, Nat.le_of_ble_eq_true rfl⟩ rfl hl.1 rfl (Nat.le_of_ble_eq_true rfl) dX3_litFrom_15 ⟨Nat.le_of_ble_eq_true rfl, Nat.le_of_ble_eq_true rfl⟩) hP hD hS hA [0, 1] [] rfl rfl (by decide) (by decide) (fun r_3 u_2 H locs hwr_3 hP hD hS => ?_)
      have hP : va_P D classes [(h0, .inr (3, [.int p0, .int p1, .int p2, .int p3, .int p4, .int p5, .int p6, .int p7, .int p8, .int p9, .ref (a 0), .ref (a 1), .ref (a 2), .ref (a 3), .ref (a 4), .ref (a 5)])), ((a 2), .inl (cT 0, 16, .inl (f2)))] _ := hP
      have hD : va_D A [(h0, .inr (3, [.int p0, .int p1, .int p2, .int p3, .int p4, .int p5, .int p6, .int p7, .int p8, .int p9, .ref (a 0), .ref (a 1), .ref (a 2), .ref (a 3), .ref (a 4), .ref (a 5)])), ((a 2), .inl (cT 0, 16, .inl (f2)))] := hD
      refine lv_if_le (tgt := 27) hx hb dX3_litFrom_18 (by decide) (fun c_4 => ?_) (fun c_4 => ?_)
      · have ic_4 : r_3.toInt ≤ 0 := ile c_4 (rfl) (by decide)
        refine lv_iinc (v := (nI (k9_4 + 1))) (lv' := [(3, .int (nI (k9_4 + 1))), (2, .int x9_4_2), (0, .ref h0), (1, .int x)]) hx hb dX3_litFrom_27 hl (k := 0) rfl (by exact nI_1 (k9_4)) (by decide) rfl (fun ls hl => ?_)
        refine lv_goto (tgt := 4) hx hb dX3_litFrom_30 (by decide) ?_
        exact ih_4 (k9_4 + 1) _ _ _ _ (by omega) (by omega)  (hP.sub [0, 1] rfl) (hD.sub [0, 1] (by decide) rfl) hS (lv_sub hl [0, 1, 2, 3] rfl)
      · have ic_4 : 0 < r_3.toInt := inle c_4 (rfl) (by decide)
        refine lv_iload_n hx hb dX3_litFrom_21 rfl (lv_at hl 1 rfl) ?_
        refine lv_iconst (v := 1) hx hb dX3_litFrom_22 (by decide) ?_
        refine lv_iload_n hx hb dX3_litFrom_23 rfl (lv_at hl 0 rfl) ?_
        refine lv_ishl hx hb dX3_litFrom_24 ?_
        refine lv_topi (fun z_5 ez_5 => ?_)
        refine lv_ior hx hb dX3_litFrom_25 ?_
        refine lv_topi (fun z_6 ez_6 => ?_)
        refine lv_istore_n (lv' := [(2, .int z_6), (3, .int (nI k9_4)), (0, .ref h0), (1, .int x)]) hx hb dX3_litFrom_26 rfl hl (by decide) rfl (fun ls hl => ?_)
        refine lv_iinc (v := (nI (k9_4 + 1))) (lv' := [(3, .int (nI (k9_4 + 1))), (2, .int z_6), (0, .ref h0), (1, .int x)]) hx hb dX3_litFrom_27 hl (k := 1) rfl (by exact nI_1 (k9_4)) (by decide) rfl (fun ls hl => ?_)
        refine lv_goto (tgt := 4) hx hb dX3_litFrom_30 (by decide) ?_
        exact ih_4 (k9_4 + 1) _ _ _ _ (by omega) (by omega)  (hP.sub [0, 1] rfl) (hD.sub [0, 1] (by decide) rfl) hS (lv_sub hl [0, 1, 2, 3] rfl)
set_option maxHeartbeats 4000000 in
set_option maxRecDepth 100000 in
theorem g_shadedFrom (l : Launch) (D : va_G) (cT : Nat → ClassId) (sz : Nat) (h0 : Nat) (a : Nat → Nat) (p0 : Int32) (p1 : Int32) (p2 : Int32) (p3 : Int32) (p4 : Int32) (p5 : Int32) (p6 : Int32) (p7 : Int32) (p8 : Int32) (p9 : Int32) (hs : 0 ≤ p0.toInt ∧ p0.toInt ≤ 16) (x : Int32) (hxx : 0 ≤ x.toInt ∧ x.toInt ≤ 15) (f2 : Nat → Int32) : Met l yX3_shadedFrom (wsc yX3_shadedFrom cX3_shadedFrom 4 (some .int)) { frames := 3, cells := 0, slots := 0, locals := 125 } (va_Pc [.ref h0, .int x] (PX D cT sz [(h0, .inr (3, [.int p0, .int p1, .int p2, .int p3, .int p4, .int p5, .int p6, .int p7, .int p8, .int p9, .ref (a 0), .ref (a 1), .ref (a 2), .ref (a 3), .ref (a 4), .ref (a 5)])), ((a 2), .inl (cT 0, 16, .inl (f2)))])) (va_Qi (fun (r : Int32) (u : Unit) => True) (fun u t => RW D (va_A [(h0, .inr (3, [.int p0, .int p1, .int p2, .int p3, .int p4, .int p5, .int p6, .int p7, .int p8, .int p9, .ref (a 0), .ref (a 1), .ref (a 2), .ref (a 3), .ref (a 4), .ref (a 5)])), ((a 2), .inl (cT 0, 16, .inl (f2)))] sz) ((fun _ : Unit => [(h0, .inr (3, [.int p0, .int p1, .int p2, .int p3, .int p4, .int p5, .int p6, .int p7, .int p8, .int p9, .ref (a 0), .ref (a 1), .ref (a 2), .ref (a 3), .ref (a 4), .ref (a 5)])), ((a 2), .inl (cT 0, 16, .inl (f2)))]) u) t) (va_A [(h0, .inr (3, [.int p0, .int p1, .int p2, .int p3, .int p4, .int p5, .int p6, .int p7, .int p8, .int p9, .ref (a 0), .ref (a 1), .ref (a 2), .ref (a 3), .ref (a 4), .ref (a 5)])), ((a 2), .inl (cT 0, 16, .inl (f2)))] sz)) 0 0 (va_A [(h0, .inr (3, [.int p0, .int p1, .int p2, .int p3, .int p4, .int p5, .int p6, .int p7, .int p8, .int p9, .ref (a 0), .ref (a 1), .ref (a 2), .ref (a 3), .ref (a 4), .ref (a 5)])), ((a 2), .inl (cT 0, 16, .inl (f2)))] sz) := by
  refine m_of (y := yX3_shadedFrom) (cc := cX3_shadedFrom) (nL := 4) (ret := (some .int)) (D := D) (cT := cT) (av := [.ref h0, .int x]) (wi := [(h0, .inr (3, [.int p0, .int p1, .int p2, .int p3, .int p4, .int p5, .int p6, .int p7, .int p8, .int p9, .ref (a 0), .ref (a 1), .ref (a 2), .ref (a 3), .ref (a 4), .ref (a 5)])), ((a 2), .inl (cT 0, 16, .inl (f2)))]) (fun A => va_Qi (fun (r : Int32) (u : Unit) => True) (fun u t => RW D A ((fun _ : Unit => [(h0, .inr (3, [.int p0, .int p1, .int p2, .int p3, .int p4, .int p5, .int p6, .int p7, .int p8, .int p9, .ref (a 0), .ref (a 1), .ref (a 2), .ref (a 3), .ref (a 4), .ref (a 5)])), ((a 2), .inl (cT 0, 16, .inl (f2)))]) u) t) A) (by decide) (Nat.le_of_ble_eq_true rfl) ?_
  intro p e s m below meth c A hx hb hml hown htg hK hN hr hlk hnm hsz hP hD hS hA ls hl
  have hown : s.vm.findClass RX3 = some m.cls := hown
  have hl : lv_has ls 4 [(0, .ref h0), (1, .int x)] := hl
  refine lv_iconst (v := 0) hx hb dX3_shadedFrom_0 (by decide) ?_
  refine lv_istore_n (lv' := [(2, .int 0), (0, .ref h0), (1, .int x)]) hx hb dX3_shadedFrom_1 rfl hl (by decide) rfl (fun ls hl => ?_)
  refine lv_iconst (v := 0) hx hb dX3_shadedFrom_2 (by decide) ?_
  refine lv_istore_n (lv' := [(3, .int 0), (2, .int 0), (0, .ref h0), (1, .int x)]) hx hb dX3_shadedFrom_3 rfl hl (by decide) rfl (fun ls hl => ?_)
  refine (fun (key : ∀ (n9_4 : Nat) (k9_4 : Nat) (x9_4_2 : Int32) (H : Heap) (locs : List Loc) (ls : Array Slot), (k9_4 : Int) ≤ p0.toInt → p0.toInt < (k9_4 : Int) + n9_4 → va_P D classes [(h0, .inr (3, [.int p0, .int p1, .int p2, .int p3, .int p4, .int p5, .int p6, .int p7, .int p8, .int p9, .ref (a 0), .ref (a 1), .ref (a 2), .ref (a 3), .ref (a 4), .ref (a 5)])), ((a 2), .inl (cT 0, 16, .inl (f2)))] H → va_D A [(h0, .inr (3, [.int p0, .int p1, .int p2, .int p3, .int p4, .int p5, .int p6, .int p7, .int p8, .int p9, .ref (a 0), .ref (a 1), .ref (a 2), .ref (a 3), .ref (a 4), .ref (a 5)])), ((a 2), .inl (cT 0, 16, .inl (f2)))] → va_S A s.heap H locs → lv_has ls 4 [(3, .int (nI k9_4)), (2, .int x9_4_2), (0, .ref h0), (1, .int x)] → W p l e _ s m _ below meth c H locs _ _ _ (F0 m 4 ls [])) => key (Int.toNat (p0.toInt - 0) + 1) 0 _ _ _ _ (by omega) (by omega)  hP hD hS (lv_sub hl [0, 1, 2, 3] rfl)) ?_
  intro n9_4
  induction n9_4 with
  | zero => intro k9_4 x9_4_2 H locs ls hq1 hq2; exact absurd hq2 (by omega)
  | succ n9_4 ih_4 =>
    intro k9_4 x9_4_2 H locs ls hq1_4 hq2_4  hP hD hS hl
    have hk9_4 : (nI k9_4).toInt = (k9_4 : Int) := nI_toInt (by omega)
    refine lv_iload_n hx hb dX3_shadedFrom_4 rfl (lv_at hl 0 rfl) ?_
    refine lv_aload_n hx hb dX3_shadedFrom_5 rfl (lv_at hl 2 rfl) ?_
    refine va_get (D := D) (ci := 3) (v := .int p0) (C := RX3) (T := TX3) (N := 16) hx hb htg gRX3 hown hK hP 0 rfl rfl 0 (by decide) (htg _ wi_166) (fun _ h9 => h9) rfl dX3_shadedFrom_6 ?_
    refine lv_icmp_ge (tgt := 42) hx hb dX3_shadedFrom_9 (by decide) (fun c_1 => ?_) (fun c_1 => ?_)
    · have ic_1 : p0.toInt ≤ ((k9_4 : Nat) : Int) := ile c_1 (rfl) (nI_toInt (by omega))
      refine lv_iload_n hx hb dX3_shadedFrom_42 rfl (lv_at hl 1 rfl) ?_
      exact x_iret hx hb hr hlk hP hD hS [0, 1] (()) rfl (by decide) trivial (by decide) (by decide) dX3_shadedFrom_43
    · have ic_1 : ((k9_4 : Nat) : Int) < p0.toInt := inle c_1 (rfl) (nI_toInt (by omega))
      refine lv_aload_n hx hb dX3_shadedFrom_12 rfl (lv_at hl 2 rfl) ?_
      refine lv_iload_n hx hb dX3_shadedFrom_13 rfl (lv_at hl 3 rfl) ?_
      refine lv_iload_n hx hb dX3_shadedFrom_14 rfl (lv_at hl 0 rfl) ?_
      refine xk_i (wr := [((a 2), .inl (cT 0, 16, .inl (f2)))]) (xr_V (n := 2) (As := [.int x, .int (nI k9_4)]) (rest := []) ⟨hx, hb, hml, hown, htg⟩ hK hN hP hD hS hA [0] rfl (by decide) (g_unshadedLight l D cT _ (h0) (a) (p0) (p1) (p2) (p3) (p4) (p5) (p6) (p7) (p8) (p9) (x) ((nI k9_4))) wi_674 wi_676 wi_20 wi_123 wi_677 rfl rfl rfl ⟨rfl, by decide +kernel⟩ ⟨Nat.le_of_ble_eq_true rfl, Nat.le_of_ble_eq_true rfl⟩ rfl hl.1 rfl (Nat.le_of_ble_eq_true rfl) dX3_shadedFrom_15 ⟨Nat.le_of_ble_eq_true rfl, Nat.le_of_ble_eq_true rfl⟩) hP hD hS hA [0] [1] rfl rfl (by decide) (by decide) (fun r_3 u_2 H locs hwr_3 hP hD hS => ?_)
      have hP : va_P D classes [((a 2), .inl (cT 0, 16, .inl (f2))), (h0, .inr (3, [.int p0, .int p1, .int p2, .int p3, .int p4, .int p5, .int p6, .int p7, .int p8, .int p9, .ref (a 0), .ref (a 1), .ref (a 2), .ref (a 3), .ref (a 4), .ref (a 5)]))] _ := hP
      have hD : va_D A [((a 2), .inl (cT 0, 16, .inl (f2))), (h0, .inr (3, [.int p0, .int p1, .int p2, .int p3, .int p4, .int p5, .int p6, .int p7, .int p8, .int p9, .ref (a 0), .ref (a 1), .ref (a 2), .ref (a 3), .ref (a 4), .ref (a 5)]))] := hD
      refine lv_if_le (tgt := 36) hx hb dX3_shadedFrom_18 (by decide) (fun c_4 => ?_) (fun c_4 => ?_)
      · have ic_4 : r_3.toInt ≤ 0 := ile c_4 (rfl) (by decide)
        refine lv_iinc (v := (nI (k9_4 + 1))) (lv' := [(3, .int (nI (k9_4 + 1))), (2, .int x9_4_2), (0, .ref h0), (1, .int x)]) hx hb dX3_shadedFrom_36 hl (k := 0) rfl (by exact nI_1 (k9_4)) (by decide) rfl (fun ls hl => ?_)
        refine lv_goto (tgt := 4) hx hb dX3_shadedFrom_39 (by decide) ?_
        exact ih_4 (k9_4 + 1) _ _ _ _ (by omega) (by omega)  (hP.sub [1, 0] rfl) (hD.sub [1, 0] (by decide) rfl) hS (lv_sub hl [0, 1, 2, 3] rfl)
      · have ic_4 : 0 < r_3.toInt := inle c_4 (rfl) (by decide)
        refine lv_aload_n hx hb dX3_shadedFrom_21 rfl (lv_at hl 2 rfl) ?_
        refine lv_iload_n hx hb dX3_shadedFrom_22 rfl (lv_at hl 3 rfl) ?_
        refine lv_iload_n hx hb dX3_shadedFrom_23 rfl (lv_at hl 0 rfl) ?_
        refine xk_i (wr := []) (xr_V (n := 2) (As := [.int x, .int (nI k9_4)]) (rest := []) ⟨hx, hb, hml, hown, htg⟩ hK hN hP hD hS hA [1, 0] rfl (by decide) (g_isShaded l D cT _ (h0) (a) (p0) (p1) (p2) (p3) (p4) (p5) (p6) (p7) (p8) (p9) (x) ((nI k9_4)) (by first | assumption | decide | omega | (simp only [ti_0, ti_1, ti_2, ti_3, ti_4, ti_5, ti_6, ti_7, ti_8, ti_9, ti_10, ti_11, ti_12, ti_m1]; omega)) (by first | assumption | decide | omega | (simp only [ti_0, ti_1, ti_2, ti_3, ti_4, ti_5, ti_6, ti_7, ti_8, ti_9, ti_10, ti_11, ti_12, ti_m1]; omega)) (f2)) wi_682 wi_684 wi_21 wi_123 wi_685 rfl rfl rfl ⟨rfl, by decide +kernel⟩ ⟨Nat.le_of_ble_eq_true rfl, Nat.le_of_ble_eq_true rfl⟩ rfl hl.1 rfl (Nat.le_of_ble_eq_true rfl) dX3_shadedFrom_24 ⟨Nat.le_of_ble_eq_true rfl, Nat.le_of_ble_eq_true rfl⟩) hP hD hS hA [1, 0] [] rfl rfl (by decide) (by decide) (fun r_6 u_5 H locs hwr_6 hP hD hS => ?_)
        have hP : va_P D classes [(h0, .inr (3, [.int p0, .int p1, .int p2, .int p3, .int p4, .int p5, .int p6, .int p7, .int p8, .int p9, .ref (a 0), .ref (a 1), .ref (a 2), .ref (a 3), .ref (a 4), .ref (a 5)])), ((a 2), .inl (cT 0, 16, .inl (f2)))] _ := hP
        have hD : va_D A [(h0, .inr (3, [.int p0, .int p1, .int p2, .int p3, .int p4, .int p5, .int p6, .int p7, .int p8, .int p9, .ref (a 0), .ref (a 1), .ref (a 2), .ref (a 3), .ref (a 4), .ref (a 5)])), ((a 2), .inl (cT 0, 16, .inl (f2)))] := hD
        refine lv_if_eq (tgt := 36) hx hb dX3_shadedFrom_27 (by decide) (fun c_7 => ?_) (fun c_7 => ?_)
        · have ic_7 : r_6.toInt = 0 := ieq c_7 (rfl) (by decide)
          refine lv_iinc (v := (nI (k9_4 + 1))) (lv' := [(3, .int (nI (k9_4 + 1))), (2, .int x9_4_2), (0, .ref h0), (1, .int x)]) hx hb dX3_shadedFrom_36 hl (k := 0) rfl (by exact nI_1 (k9_4)) (by decide) rfl (fun ls hl => ?_)
          refine lv_goto (tgt := 4) hx hb dX3_shadedFrom_39 (by decide) ?_
          exact ih_4 (k9_4 + 1) _ _ _ _ (by omega) (by omega)  (hP.sub [0, 1] rfl) (hD.sub [0, 1] (by decide) rfl) hS (lv_sub hl [0, 1, 2, 3] rfl)
        · have ic_7 : ¬ r_6.toInt = 0 := ine c_7 (rfl) (by decide)
          refine lv_iload_n hx hb dX3_shadedFrom_30 rfl (lv_at hl 1 rfl) ?_
          refine lv_iconst (v := 1) hx hb dX3_shadedFrom_31 (by decide) ?_
          refine lv_iload_n hx hb dX3_shadedFrom_32 rfl (lv_at hl 0 rfl) ?_
          refine lv_ishl hx hb dX3_shadedFrom_33 ?_
          refine lv_topi (fun z_8 ez_8 => ?_)
          refine lv_ior hx hb dX3_shadedFrom_34 ?_
          refine lv_topi (fun z_9 ez_9 => ?_)
          refine lv_istore_n (lv' := [(2, .int z_9), (3, .int (nI k9_4)), (0, .ref h0), (1, .int x)]) hx hb dX3_shadedFrom_35 rfl hl (by decide) rfl (fun ls hl => ?_)
          refine lv_iinc (v := (nI (k9_4 + 1))) (lv' := [(3, .int (nI (k9_4 + 1))), (2, .int z_9), (0, .ref h0), (1, .int x)]) hx hb dX3_shadedFrom_36 hl (k := 1) rfl (by exact nI_1 (k9_4)) (by decide) rfl (fun ls hl => ?_)
          refine lv_goto (tgt := 4) hx hb dX3_shadedFrom_39 (by decide) ?_
          exact ih_4 (k9_4 + 1) _ _ _ _ (by omega) (by omega)  (hP.sub [0, 1] rfl) (hD.sub [0, 1] (by decide) rfl) hS (lv_sub hl [0, 1, 2, 3] rfl)
