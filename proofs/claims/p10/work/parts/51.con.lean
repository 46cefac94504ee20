set_option maxHeartbeats 4000000 in
set_option maxRecDepth 100000 in
theorem m_bitsOf (l : Launch) (D : va_G) (cT : Nat → ClassId) (sz : Nat) (x : Int32) : Met l yX9_bitsOf (wsc yX9_bitsOf cX9_bitsOf 3 (some .int)) { frames := 2, cells := 0, slots := 0, locals := 100 } (va_Pc [.int x] (PX D cT sz [])) (va_Qi (fun (r : Int32) (u : Unit) => (True)) (fun u t => RW D (va_A [] sz) ((fun _ : Unit => []) u) t) (va_A [] sz)) 0 0 (va_A [] sz) := by
  refine m_of (y := yX9_bitsOf) (cc := cX9_bitsOf) (nL := 3) (ret := (some .int)) (D := D) (cT := cT) (av := [.int x]) (wi := []) (fun A => va_Qi (fun (r : Int32) (u : Unit) => (True)) (fun u t => RW D A ((fun _ : Unit => []) u) t) A) (by decide) (Nat.le_of_ble_eq_true rfl) ?_
  intro p e s m below meth c A hx hb hml hown htg hK hN hr hlk hnm hsz hP hD hS hA ls hl
  have hown : s.vm.findClass RX9 = some m.cls := hown
  have hl : lv_has ls 3 [(0, .int x)] := hl
  have tc_0 : (0 : Int32).toInt = 0 := by decide
  have tc_1 : (1 : Int32).toInt = 1 := by decide
  have tc_16 : (16 : Int32).toInt = 16 := by decide
  refine lv_iconst (v := 0) hx hb dX9_bitsOf_0 (by decide) ?_
  refine lv_istore_n (lv' := [(1, .int 0), (0, .int x)]) hx hb dX9_bitsOf_1 rfl hl (by decide) rfl (fun ls hl => ?_)
  refine lv_iconst (v := 0) hx hb dX9_bitsOf_2 (by decide) ?_
  refine lv_istore_n (lv' := [(2, .int 0), (1, .int 0), (0, .int x)]) hx hb dX9_bitsOf_3 rfl hl (by decide) rfl (fun ls hl => ?_)
  refine (fun (key : ∀ (n9_4 : Nat) (k9_4 : Nat) (x9_4_1 : Int32) (H : Heap) (locs : List Loc) (ls : Array Slot), (k9_4 : Int) ≤ 16 → 16 < (k9_4 : Int) + n9_4 → PD D A [] H → va_S A s.heap H locs → lv_has ls 3 [(2, .int (nI k9_4)), (1, .int x9_4_1), (0, .int x)] → W p l e _ s m _ below meth c H locs _ _ _ (F0 m 4 ls [])) => key (Int.toNat (16 - 0) + 1) 0 _ _ _ _ (by omega) (by omega)  ⟨hP, hD⟩ hS (lv_sub hl [0, 1, 2] rfl)) ?_
  intro n9_4
  induction n9_4 with
  | zero => intro k9_4 x9_4_1 H locs ls hq1 hq2; exact absurd hq2 (by omega)
  | succ n9_4 ih_4 =>
    intro k9_4 x9_4_1 H locs ls hq1_4 hq2_4  hPD hS hl
    obtain ⟨hP, hD⟩ := hPD
    have hk9_4 : (nI k9_4).toInt = (k9_4 : Int) := nI_toInt (by omega)
    refine lv_iload_n hx hb dX9_bitsOf_4 rfl (lv_at hl 0 rfl) ?_
    refine lv_bipush (v := 16) hx hb dX9_bitsOf_5 (by decide) ?_
    refine lv_icmp_ge (tgt := 24) hx hb dX9_bitsOf_7 (by decide) (fun c_1 => ?_) (fun c_1 => ?_)
    · have ic_1 : 16 ≤ ((k9_4 : Nat) : Int) := ile c_1 (by decide) (nI_toInt (by omega))
      refine lv_iload_n hx hb dX9_bitsOf_24 rfl (lv_at hl 1 rfl) ?_
      exact x_iret hx hb hr hlk hP hD hS [] (()) rfl (by decide) trivial (by decide) (by decide) dX9_bitsOf_25
    · have ic_1 : ((k9_4 : Nat) : Int) < 16 := inle c_1 (by decide) (nI_toInt (by omega))
      refine lv_iload_n hx hb dX9_bitsOf_10 rfl (lv_at hl 1 rfl) ?_
      refine lv_iload_n hx hb dX9_bitsOf_11 rfl (lv_at hl 2 rfl) ?_
      refine lv_iload_n hx hb dX9_bitsOf_12 rfl (lv_at hl 0 rfl) ?_
      refine lv_ishr hx hb dX9_bitsOf_13 ?_
      refine lv_topi (fun z_2 ez_2 => ?_)
      refine lv_iconst (v := 1) hx hb dX9_bitsOf_14 (by decide) ?_
      refine lv_iand hx hb dX9_bitsOf_15 ?_
      refine lv_topi (fun z_3 ez_3 => ?_)
      have iz_3 : 0 ≤ z_3.toInt ∧ z_3.toInt ≤ 1 := andI ez_3 (by decide) (by decide)
      refine lv_iadd hx hb dX9_bitsOf_16 ?_
      refine lv_topi (fun z_4 ez_4 => ?_)
      refine lv_istore_n (lv' := [(1, .int z_4), (2, .int (nI k9_4)), (0, .int x)]) hx hb dX9_bitsOf_17 rfl hl (by decide) rfl (fun ls hl => ?_)
      refine lv_iinc (v := (nI (k9_4 + 1))) (lv' := [(2, .int (nI (k9_4 + 1))), (1, .int z_4), (0, .int x)]) hx hb dX9_bitsOf_18 hl (k := 1) rfl (by exact nI_1 (k9_4)) (by decide) rfl (fun ls hl => ?_)
      refine lv_goto (tgt := 4) hx hb dX9_bitsOf_21 (by decide) ?_
      exact ih_4 (k9_4 + 1) _ _ _ _ (by omega) (by omega)  ⟨hP.sub [] rfl, hD.sub [] (by decide) rfl⟩ hS (lv_sub hl [0, 1, 2] rfl)
set_option maxHeartbeats 4000000 in
set_option maxRecDepth 100000 in
theorem m_cut (l : Launch) (D : va_G) (cT : Nat → ClassId) (sz : Nat) (v : Int64) (y : Int32) : Met l yX9_cut (wsc yX9_cut cX9_cut 3 (some .long)) { frames := 2, cells := 0, slots := 0, locals := 100 } (va_Pc [.long v, .int y] (PX D cT sz [])) (va_Ql (fun (r : Int64) (u : Unit) => (True)) (fun u t => RW D (va_A [] sz) ((fun _ : Unit => []) u) t) (va_A [] sz)) 0 0 (va_A [] sz) := by
  refine m_of (y := yX9_cut) (cc := cX9_cut) (nL := 3) (ret := (some .long)) (D := D) (cT := cT) (av := [.long v, .int y]) (wi := []) (fun A => va_Ql (fun (r : Int64) (u : Unit) => (True)) (fun u t => RW D A ((fun _ : Unit => []) u) t) A) (by decide) (Nat.le_of_ble_eq_true rfl) ?_
  intro p e s m below meth c A hx hb hml hown htg hK hN hr hlk hnm hsz hP hD hS hA ls hl
  have hown : s.vm.findClass RX9 = some m.cls := hown
  have hl : lv_has ls 3 [(0, .long v), (2, .int y)] := hl
  have tc_1 : (1 : Int32).toInt = 1 := by decide
  have tc_2 : (2 : Int32).toInt = 2 := by decide
  refine lv_iload_n hx hb dX9_cut_0 rfl (lv_at hl 1 rfl) ?_
  refine lv_if_ne (tgt := 11) hx hb dX9_cut_1 (by decide) (fun c_1 => ?_) (fun c_1 => ?_)
  · have ic_1 : ¬ y.toInt = 0 := ine c_1 (rfl) (by decide)
    refine lv_iload_n hx hb dX9_cut_11 rfl (lv_at hl 1 rfl) ?_
    refine lv_iconst (v := 1) hx hb dX9_cut_12 (by decide) ?_
    refine lv_icmp_ne (tgt := 23) hx hb dX9_cut_13 (by decide) (fun c_2 => ?_) (fun c_2 => ?_)
    · have ic_2 : ¬ y.toInt = 1 := ine c_2 (rfl) (by decide)
      refine lv_iload_n hx hb dX9_cut_23 rfl (lv_at hl 1 rfl) ?_
      refine lv_iconst (v := 2) hx hb dX9_cut_24 (by decide) ?_
      refine lv_icmp_ne (tgt := 34) hx hb dX9_cut_25 (by decide) (fun c_3 => ?_) (fun c_3 => ?_)
      · have ic_3 : ¬ y.toInt = 2 := ine c_3 (rfl) (by decide)
        refine lv_lload_n hx hb dX9_cut_34 rfl (lv_at hl 0 rfl) ?_
        exact x_lret hx hb hr hlk hP hD hS [] (()) rfl (by decide) trivial (by decide) (by decide) dX9_cut_35
      · have ic_3 : y.toInt = 2 := ieq c_3 (rfl) (by decide)
        refine lv_lload_n hx hb dX9_cut_28 rfl (lv_at hl 0 rfl) ?_
        obtain ⟨z_4, ez_4⟩ : ∃ w : Int32, w = v.toInt32 := ⟨_, rfl⟩
        refine lv_l2i (v := z_4) hx hb dX9_cut_29 ez_4.symm ?_
        refine lv_i2l (v := z_4.toInt64) hx hb dX9_cut_30 rfl ?_
        refine lv_goto (tgt := 35) hx hb dX9_cut_31 (by decide) ?_
        exact x_lret hx hb hr hlk hP hD hS [] (()) rfl (by decide) trivial (by decide) (by decide) dX9_cut_35
    · have ic_2 : y.toInt = 1 := ieq c_2 (rfl) (by decide)
      refine lv_lload_n hx hb dX9_cut_16 rfl (lv_at hl 0 rfl) ?_
      obtain ⟨z_5, ez_5⟩ : ∃ w : Int32, w = v.toInt32 := ⟨_, rfl⟩
      refine lv_l2i (v := z_5) hx hb dX9_cut_17 ez_5.symm ?_
      obtain ⟨z_6, ez_6⟩ : ∃ w : Int32, w = z_5.toInt16.toInt32 := ⟨_, rfl⟩
      refine lv_i2s (v := z_6) hx hb dX9_cut_18 ez_6.symm ?_
      refine lv_i2l (v := z_6.toInt64) hx hb dX9_cut_19 rfl ?_
      refine lv_goto (tgt := 35) hx hb dX9_cut_20 (by decide) ?_
      exact x_lret hx hb hr hlk hP hD hS [] (()) rfl (by decide) trivial (by decide) (by decide) dX9_cut_35
  · have ic_1 : y.toInt = 0 := ieq c_1 (rfl) (by decide)
    refine lv_lload_n hx hb dX9_cut_4 rfl (lv_at hl 0 rfl) ?_
    obtain ⟨z_7, ez_7⟩ : ∃ w : Int32, w = v.toInt32 := ⟨_, rfl⟩
    refine lv_l2i (v := z_7) hx hb dX9_cut_5 ez_7.symm ?_
    obtain ⟨z_8, ez_8⟩ : ∃ w : Int32, w = z_7.toInt8.toInt32 := ⟨_, rfl⟩
    refine lv_i2b (v := z_8) hx hb dX9_cut_6 ez_8.symm ?_
    refine lv_i2l (v := z_8.toInt64) hx hb dX9_cut_7 rfl ?_
    refine lv_goto (tgt := 35) hx hb dX9_cut_8 (by decide) ?_
    exact x_lret hx hb hr hlk hP hD hS [] (()) rfl (by decide) trivial (by decide) (by decide) dX9_cut_35
set_option maxHeartbeats 4000000 in
set_option maxRecDepth 100000 in
theorem m_thenU (l : Launch) (D : va_G) (cT : Nat → ClassId) (sz : Nat) (x : Int32) (v : Int64) : Met l yX9_then (wsc yX9_then cX9_then 3 (some .int)) { frames := 2, cells := 0, slots := 0, locals := 100 } (va_Pc [.int x, .long v] (PX D cT sz [])) (va_Qi (fun (r : Int32) (u : Unit) => (True)) (fun u t => RW D (va_A [] sz) ((fun _ : Unit => []) u) t) (va_A [] sz)) 0 0 (va_A [] sz) := by
  refine m_of (y := yX9_then) (cc := cX9_then) (nL := 3) (ret := (some .int)) (D := D) (cT := cT) (av := [.int x, .long v]) (wi := []) (fun A => va_Qi (fun (r : Int32) (u : Unit) => (True)) (fun u t => RW D A ((fun _ : Unit => []) u) t) A) (by decide) (Nat.le_of_ble_eq_true rfl) ?_
  intro p e s m below meth c A hx hb hml hown htg hK hN hr hlk hnm hsz hP hD hS hA ls hl
  have hown : s.vm.findClass RX9 = some m.cls := hown
  have hl : lv_has ls 3 [(0, .int x), (1, .long v)] := hl
  have tc_1 : (1 : Int32).toInt = 1 := by decide
  refine lv_lload_n hx hb dX9_then_0 rfl (lv_at hl 1 rfl) ?_
  refine lv_lconst (v := 1) hx hb dX9_then_1 (by decide) ?_
  refine W.lcmp hx hb dX9_then_2 ?_
  refine lv_if_ne (tgt := 12) hx hb dX9_then_3 (by decide) (fun c_1 => ?_) (fun c_1 => ?_)
  · have ic_1 : ¬ v.toInt = 1 := lgc_ne c_1 (rfl) (by decide)
    refine lv_lload_n hx hb dX9_then_12 rfl (lv_at hl 1 rfl) ?_
    refine lv_ldc2 (v := 2) hx hb hown (htg _ wi_1420) dX9_then_13 ?_
    refine W.lcmp hx hb dX9_then_16 ?_
    refine lv_if_ne (tgt := 26) hx hb dX9_then_17 (by decide) (fun c_2 => ?_) (fun c_2 => ?_)
    · have ic_2 : ¬ v.toInt = 2 := lgc_ne c_2 (rfl) (by decide)
      refine lv_iload_n hx hb dX9_then_26 rfl (lv_at hl 0 rfl) ?_
      exact x_iret hx hb hr hlk hP hD hS [] (()) rfl (by decide) trivial (by decide) (by decide) dX9_then_27
    · have ic_2 : v.toInt = 2 := lgc_eq c_2 (rfl) (by decide)
      refine lv_iload_n hx hb dX9_then_20 rfl (lv_at hl 0 rfl) ?_
      refine lv_iconst (v := 1) hx hb dX9_then_21 (by decide) ?_
      refine lv_iadd hx hb dX9_then_22 ?_
      refine lv_topi (fun z_3 ez_3 => ?_)
      refine lv_goto (tgt := 27) hx hb dX9_then_23 (by decide) ?_
      exact x_iret hx hb hr hlk hP hD hS [] (()) rfl (by decide) trivial (by decide) (by decide) dX9_then_27
  · have ic_1 : v.toInt = 1 := lgc_eq c_1 (rfl) (by decide)
    refine lv_iload_n hx hb dX9_then_6 rfl (lv_at hl 0 rfl) ?_
    refine lv_iconst (v := 1) hx hb dX9_then_7 (by decide) ?_
    refine lv_isub hx hb dX9_then_8 ?_
    refine lv_topi (fun z_4 ez_4 => ?_)
    refine lv_goto (tgt := 27) hx hb dX9_then_9 (by decide) ?_
    exact x_iret hx hb hr hlk hP hD hS [] (()) rfl (by decide) trivial (by decide) (by decide) dX9_then_27
set_option maxHeartbeats 4000000 in
set_option maxRecDepth 100000 in
theorem m_strip (l : Launch) (D : va_G) (cT : Nat → ClassId) (sz : Nat) (h0 : Nat) (g : Nat → Nat) (b0 : Int32) (b5 : Int32) (b6 : Int32) (b7 : Int32) (b8 : Int32) (b9 : Int32) (b10 : Int32) (b11 : Int32) (b12 : Int32) (b13 : Int32) (b14 : Int32) (b17 : Int32) (b18 : Int32) (b19 : Int32) (b23 : Int32) (b24 : Int32) (b25 : Int32) (b26 : Int32) (b27 : Int32) (b29 : Int32) (b31 : Int32) (b32 : Int32) (b33 : Int32) (hb5 : 0 ≤ b5.toInt ∧ b5.toInt ≤ 900) (a0 : Nat → Int32) (pa0 : PI 288 a0) (x : Int32) (y : Int32) : Met l yX9_strip (wsc yX9_strip cX9_strip 3 (some .int)) { frames := 6, cells := 0, slots := 0, locals := 192 } (va_Pc [.ref h0, .int x, .int y] (PX D cT sz [(sw_9 h0 g b0 b5 b6 b7 b8 b9 b10 b11 b12 b13 b14 b17 b18 b19 b23 b24 b25 b26 b27 b29 b31 b32 b33), (sw_in cT (g 0) 288 a0)])) (va_Qi (fun (r : Int32) (u : Int32) => (True)) (fun u t => RW D (va_A [(sw_9 h0 g b0 b5 b6 b7 b8 b9 b10 b11 b12 b13 b14 b17 b18 b19 b23 b24 b25 b26 b27 b29 b31 b32 b33), (sw_in cT (g 0) 288 a0)] sz) ((fun u : Int32 => [(sw_9 h0 g u b5 b6 b7 b8 b9 b10 b11 b12 b13 b14 b17 b18 b19 b23 b24 b25 b26 b27 b29 b31 b32 b33), (sw_in cT (g 0) 288 a0)]) u) t) (va_A [(sw_9 h0 g b0 b5 b6 b7 b8 b9 b10 b11 b12 b13 b14 b17 b18 b19 b23 b24 b25 b26 b27 b29 b31 b32 b33), (sw_in cT (g 0) 288 a0)] sz)) 0 0 (va_A [(sw_9 h0 g b0 b5 b6 b7 b8 b9 b10 b11 b12 b13 b14 b17 b18 b19 b23 b24 b25 b26 b27 b29 b31 b32 b33), (sw_in cT (g 0) 288 a0)] sz) := by
  refine m_of (y := yX9_strip) (cc := cX9_strip) (nL := 3) (ret := (some .int)) (D := D) (cT := cT) (av := [.ref h0, .int x, .int y]) (wi := [(sw_9 h0 g b0 b5 b6 b7 b8 b9 b10 b11 b12 b13 b14 b17 b18 b19 b23 b24 b25 b26 b27 b29 b31 b32 b33), (sw_in cT (g 0) 288 a0)]) (fun A => va_Qi (fun (r : Int32) (u : Int32) => (True)) (fun u t => RW D A ((fun u : Int32 => [(sw_9 h0 g u b5 b6 b7 b8 b9 b10 b11 b12 b13 b14 b17 b18 b19 b23 b24 b25 b26 b27 b29 b31 b32 b33), (sw_in cT (g 0) 288 a0)]) u) t) A) (by decide) (Nat.le_of_ble_eq_true rfl) ?_
  intro p e s m below meth c A hx hb hml hown htg hK hN hr hlk hnm hsz hP hD hS hA ls hl
  have hown : s.vm.findClass RX9 = some m.cls := hown
  have hl : lv_has ls 3 [(0, .ref h0), (1, .int x), (2, .int y)] := hl
  have tc_m2 : ((-2) : Int32).toInt = (-2) := by decide
  have tc_0 : (0 : Int32).toInt = 0 := by decide
  have tc_2 : (2 : Int32).toInt = 2 := by decide
  have tc_5 : (5 : Int32).toInt = 5 := by decide
  have tc_16 : (16 : Int32).toInt = 16 := by decide
  refine lv_aload_n hx hb dX9_strip_0 rfl (lv_at hl 0 rfl) ?_
  refine lv_iconst (v := 0) hx hb dX9_strip_1 (by decide) ?_
  refine va_put (D := D) (ci := 9) (v := .int 0) (ty := .int) (C := RX9) (T := TX9) (N := 37) hx hb htg gRX9 tyX9 tyX9_ok nmX9 hown hK hP hD hS 0 rfl rfl 0 (by decide) (htg _ wi_1150) (fun _ h9 => h9) rfl (by decide +kernel) rfl rfl (Nat.le_of_ble_eq_true rfl) dX9_strip_2 (fun H locs hP hD hS => ?_)
  obtain ⟨hP, hD⟩ : PD D A [(sw_9 h0 g 0 b5 b6 b7 b8 b9 b10 b11 b12 b13 b14 b17 b18 b19 b23 b24 b25 b26 b27 b29 b31 b32 b33), (sw_in cT (g 0) 288 a0)] _ := ⟨hP, hD⟩
  refine lv_aload_n hx hb dX9_strip_5 rfl (lv_at hl 0 rfl) ?_
  refine lv_iload_n hx hb dX9_strip_6 rfl (lv_at hl 1 rfl) ?_
  refine xk_i (wr := []) (xr_V (n := 1) (As := [.int x]) (rest := []) ⟨hx, hb, hml, hown, htg⟩ hK hN hP hD hS hA [0, 1] rfl (by decide) (m_isStrip l D cT _ (h0) (g) (0) (b5) (b6) (b7) (b8) (b9) (b10) (b11) (b12) (b13) (b14) (b17) (b18) (b19) (b23) (b24) (b25) (b26) (b27) (b29) (b31) (b32) (b33) (by first | assumption | omega | decide | exact Or.inl (by decide) | (intro h9; exact absurd h9 (by decide)) | (intro _; omega) | (intro _; assumption) | (intro _; decide)) (a0) (by first | assumption | omega | decide | exact Or.inl (by decide) | (intro h9; exact absurd h9 (by decide)) | (intro _; omega) | (intro _; assumption) | (intro _; decide)) (x)) wi_1338 wi_1340 wi_90 wi_131 wi_1341 rfl rfl rfl ⟨rfl, by decide +kernel⟩ ⟨Nat.le_of_ble_eq_true rfl, Nat.le_of_ble_eq_true rfl⟩ rfl hl.1 rfl (Nat.le_of_ble_eq_true rfl) dX9_strip_7 ⟨Nat.le_of_ble_eq_true rfl, Nat.le_of_ble_eq_true rfl⟩) hP hD hS hA [0, 1] [] rfl rfl (by decide) (by decide) (fun r_2 u_1 H locs hwr_2 hP hD hS => ?_)
  obtain ⟨hP, hD⟩ : PD D A [(sw_9 h0 g 0 b5 b6 b7 b8 b9 b10 b11 b12 b13 b14 b17 b18 b19 b23 b24 b25 b26 b27 b29 b31 b32 b33), (sw_in cT (g 0) 288 a0)] _ := ⟨hP, hD⟩
  have qr_2_0 : Imp (¬ r_2.toInt = 0) (0 ≤ x.toInt ∧ x.toInt ≤ 15) := hwr_2.1
  refine lv_if_eq (tgt := 25) hx hb dX9_strip_10 (by decide) (fun c_3 => ?_) (fun c_3 => ?_)
  · have ic_3 : r_2.toInt = 0 := ieq c_3 (rfl) (by decide)
    refine lv_bipush (v := (-2)) hx hb dX9_strip_25 (by decide) ?_
    exact x_iret hx hb hr hlk hP hD hS [0, 1] ((0)) rfl (by decide) trivial (by decide) (by decide) dX9_strip_27
  · have ic_3 : ¬ r_2.toInt = 0 := ine c_3 (rfl) (by decide)
    have kqr_2_0 : 0 ≤ x.toInt ∧ x.toInt ≤ 15 := qr_2_0 ic_3
    refine lv_iload_n hx hb dX9_strip_13 rfl (lv_at hl 2 rfl) ?_
    refine lv_i2l (v := y.toInt64) hx hb dX9_strip_14 rfl ?_
    refine lv_lconst (v := 0) hx hb dX9_strip_15 (by decide) ?_
    refine lv_ldc2 (v := 5) hx hb hown (htg _ wi_1342) dX9_strip_16 ?_
    have ilw_4 : (y.toInt64).toInt = y.toInt := i2l_i _
    refine xk_i (wr := [(sw_9 h0 g 0 b5 b6 b7 b8 b9 b10 b11 b12 b13 b14 b17 b18 b19 b23 b24 b25 b26 b27 b29 b31 b32 b33), (sw_in cT (g 0) 288 a0)]) (xr_S (n := 3) (As := [.long y.toInt64, .long 0, .long 5]) (rest := []) ⟨hx, hb, hml, hown, htg⟩ hK hN hP hD hS hA [] rfl (by decide) (m_within l D cT _ (y.toInt64) (0) (5) (y.toInt) (0) (5) (i2l_i _) (by decide) (by decide)) wi_1270 wi_1271 wi_131 wi_1272 ⟨rfl, by decide +kernel⟩ ⟨Nat.le_of_ble_eq_true rfl, Nat.le_of_ble_eq_true rfl⟩ rfl hl.1 rfl (Nat.le_of_ble_eq_true rfl) dX9_strip_19 ⟨Nat.le_of_ble_eq_true rfl, Nat.le_of_ble_eq_true rfl⟩) hP hD hS hA [] [0, 1] rfl rfl (by decide) (by decide) (fun r_6 u_5 H locs hwr_6 hP hD hS => ?_)
    obtain ⟨hP, hD⟩ : PD D A [(sw_9 h0 g 0 b5 b6 b7 b8 b9 b10 b11 b12 b13 b14 b17 b18 b19 b23 b24 b25 b26 b27 b29 b31 b32 b33), (sw_in cT (g 0) 288 a0)] _ := ⟨hP, hD⟩
    have qr_6_0 : Imp (¬ r_6.toInt = 0) (0 ≤ y.toInt ∧ y.toInt ≤ 5) := hwr_6.1
    have qr_6_1 : r_6 = 0 ∨ r_6 = 1 := hwr_6.2.1
    refine lv_if_ne (tgt := 28) hx hb dX9_strip_22 (by decide) (fun c_7 => ?_) (fun c_7 => ?_)
    · have ic_7 : ¬ r_6.toInt = 0 := ine c_7 (rfl) (by decide)
      have kqr_6_0 : 0 ≤ y.toInt ∧ y.toInt ≤ 5 := qr_6_0 ic_7
      refine lv_iload_n hx hb dX9_strip_28 rfl (lv_at hl 2 rfl) ?_
      refine lv_iconst (v := 5) hx hb dX9_strip_29 (by decide) ?_
      refine lv_icmp_ne (tgt := 47) hx hb dX9_strip_30 (by decide) (fun c_8 => ?_) (fun c_8 => ?_)
      · have ic_8 : ¬ y.toInt = 5 := ine c_8 (rfl) (by decide)
        refine lv_aload_n hx hb dX9_strip_47 rfl (lv_at hl 0 rfl) ?_
        refine va_get (D := D) (ci := 9) (v := .ref (g 0)) (C := RX9) (T := TX9) (N := 37) hx hb htg gRX9 hown hK hP 0 rfl rfl 1 (by decide) (htg _ wi_1151) (fun _ h9 => h9) rfl dX9_strip_48 ?_
        refine lv_bipush (v := 16) hx hb dX9_strip_51 (by decide) ?_
        refine lv_bipush (v := 16) hx hb dX9_strip_53 (by decide) ?_
        refine lv_iload_n hx hb dX9_strip_55 rfl (lv_at hl 2 rfl) ?_
        refine lv_imul hx hb dX9_strip_56 ?_
        refine lv_topi (fun z_9 ez_9 => ?_)
        have iz_9 : z_9.toInt = 16 * y.toInt := toInt_mulI ez_9 (by decide) (rfl) (by omega)
        refine lv_iadd hx hb dX9_strip_57 ?_
        refine lv_topi (fun z_10 ez_10 => ?_)
        have iz_10 : z_10.toInt = 16 + z_9.toInt := toInt_addI ez_10 (by decide) (rfl) (by omega)
        refine lv_iload_n hx hb dX9_strip_58 rfl (lv_at hl 1 rfl) ?_
        refine lv_iadd hx hb dX9_strip_59 ?_
        refine lv_topi (fun z_11 ez_11 => ?_)
        have iz_11 : z_11.toInt = z_10.toInt + x.toInt := toInt_addI ez_11 (rfl) (rfl) (by omega)
        refine va_iald hx hb hK hP 1 0 rfl rfl (vp_in_iff.mpr (by omega)) dX9_strip_60 ?_
        refine lv_topi (fun z_12 ez_12 => ?_)
        exact x_iret hx hb hr hlk hP hD hS [0, 1] ((0)) rfl (by decide) trivial (by decide) (by decide) dX9_strip_61
      · have ic_8 : y.toInt = 5 := ieq c_8 (rfl) (by decide)
        refine lv_aload_n hx hb dX9_strip_33 rfl (lv_at hl 0 rfl) ?_
        refine lv_aload_n hx hb dX9_strip_34 rfl (lv_at hl 0 rfl) ?_
        refine va_get (D := D) (ci := 9) (v := .ref (g 0)) (C := RX9) (T := TX9) (N := 37) hx hb htg gRX9 hown hK hP 0 rfl rfl 1 (by decide) (htg _ wi_1151) (fun _ h9 => h9) rfl dX9_strip_35 ?_
        refine lv_iconst (v := 2) hx hb dX9_strip_38 (by decide) ?_
        refine va_iald hx hb hK hP 1 0 rfl rfl (by unfold vp_in; decide) dX9_strip_39 ?_
        refine lv_topi (fun z_13 ez_13 => ?_)
        have iz_13 : 0 ≤ z_13.toInt ∧ z_13.toInt ≤ 15 := by rw [ez_13]; exact rd2 pa0 (by decide) rfl
        have nz_13 : z_13.toInt = ((a0) 2).toInt := by rw [ez_13]; rfl
        refine lv_iload_n hx hb dX9_strip_40 rfl (lv_at hl 1 rfl) ?_
        refine xk_i (wr := []) (xr_V (n := 2) (As := [.int z_13, .int x]) (rest := []) ⟨hx, hb, hml, hown, htg⟩ hK hN hP hD hS hA [0, 1] rfl (by decide) (m_lightOf l D cT _ (h0) (g) (0) (b5) (b6) (b7) (b8) (b9) (b10) (b11) (b12) (b13) (b14) (b17) (b18) (b19) (b23) (b24) (b25) (b26) (b27) (b29) (b31) (b32) (b33) (by first | assumption | omega | decide | exact Or.inl (by decide) | (intro h9; exact absurd h9 (by decide)) | (intro _; omega) | (intro _; assumption) | (intro _; decide)) (a0) (by first | assumption | omega | decide | exact Or.inl (by decide) | (intro h9; exact absurd h9 (by decide)) | (intro _; omega) | (intro _; assumption) | (intro _; decide)) (z_13) (x) (by first | assumption | omega | decide | exact Or.inl (by decide) | (intro h9; exact absurd h9 (by decide)) | (intro _; omega) | (intro _; assumption) | (intro _; decide)) (by first | assumption | omega | decide | exact Or.inl (by decide) | (intro h9; exact absurd h9 (by decide)) | (intro _; omega) | (intro _; assumption) | (intro _; decide))) wi_1343 wi_1345 wi_91 wi_131 wi_1346 rfl rfl rfl ⟨rfl, by decide +kernel⟩ ⟨Nat.le_of_ble_eq_true rfl, Nat.le_of_ble_eq_true rfl⟩ rfl hl.1 rfl (Nat.le_of_ble_eq_true rfl) dX9_strip_41 ⟨Nat.le_of_ble_eq_true rfl, Nat.le_of_ble_eq_true rfl⟩) hP hD hS hA [0, 1] [] rfl rfl (by decide) (by decide) (fun r_15 u_14 H locs hwr_15 hP hD hS => ?_)
        obtain ⟨hP, hD⟩ : PD D A [(sw_9 h0 g 0 b5 b6 b7 b8 b9 b10 b11 b12 b13 b14 b17 b18 b19 b23 b24 b25 b26 b27 b29 b31 b32 b33), (sw_in cT (g 0) 288 a0)] _ := ⟨hP, hD⟩
        refine lv_goto (tgt := 61) hx hb dX9_strip_44 (by decide) ?_
        exact x_iret hx hb hr hlk hP hD hS [0, 1] ((0)) rfl (by decide) trivial (by decide) (by decide) dX9_strip_61
    · have ic_7 : r_6.toInt = 0 := ieq c_7 (rfl) (by decide)
      refine lv_bipush (v := (-2)) hx hb dX9_strip_25 (by decide) ?_
      exact x_iret hx hb hr hlk hP hD hS [0, 1] ((0)) rfl (by decide) trivial (by decide) (by decide) dX9_strip_27
set_option maxHeartbeats 4000000 in
set_option maxRecDepth 100000 in
theorem m_ofFarm (l : Launch) (D : va_G) (cT : Nat → ClassId) (sz : Nat) (h0 : Nat) (g : Nat → Nat) (b0 : Int32) (b5 : Int32) (b6 : Int32) (b7 : Int32) (b8 : Int32) (b9 : Int32) (b10 : Int32) (b11 : Int32) (b12 : Int32) (b13 : Int32) (b14 : Int32) (b17 : Int32) (b18 : Int32) (b19 : Int32) (b23 : Int32) (b24 : Int32) (b25 : Int32) (b26 : Int32) (b27 : Int32) (b29 : Int32) (b31 : Int32) (b32 : Int32) (b33 : Int32) (hb5 : 0 ≤ b5.toInt ∧ b5.toInt ≤ 900) (a0 : Nat → Int32) (pa0 : PI 288 a0) (x : Int32) (y : Int32) (hy8 : 0 ≤ y.toInt ∧ y.toInt ≤ 80) : Met l yX9_ofFarm (wsc yX9_ofFarm cX9_ofFarm 5 (some .int)) { frames := 2, cells := 0, slots := 0, locals := 100 } (va_Pc [.ref h0, .int x, .int y] (PX D cT sz [(sw_9 h0 g b0 b5 b6 b7 b8 b9 b10 b11 b12 b13 b14 b17 b18 b19 b23 b24 b25 b26 b27 b29 b31 b32 b33), (sw_in cT (g 0) 288 a0)])) (va_Qi (fun (r : Int32) (u : Unit) => (True)) (fun u t => RW D (va_A [(sw_9 h0 g b0 b5 b6 b7 b8 b9 b10 b11 b12 b13 b14 b17 b18 b19 b23 b24 b25 b26 b27 b29 b31 b32 b33), (sw_in cT (g 0) 288 a0)] sz) ((fun _ : Unit => [(sw_9 h0 g b0 b5 b6 b7 b8 b9 b10 b11 b12 b13 b14 b17 b18 b19 b23 b24 b25 b26 b27 b29 b31 b32 b33), (sw_in cT (g 0) 288 a0)]) u) t) (va_A [(sw_9 h0 g b0 b5 b6 b7 b8 b9 b10 b11 b12 b13 b14 b17 b18 b19 b23 b24 b25 b26 b27 b29 b31 b32 b33), (sw_in cT (g 0) 288 a0)] sz)) 0 0 (va_A [(sw_9 h0 g b0 b5 b6 b7 b8 b9 b10 b11 b12 b13 b14 b17 b18 b19 b23 b24 b25 b26 b27 b29 b31 b32 b33), (sw_in cT (g 0) 288 a0)] sz) := by
  refine m_of (y := yX9_ofFarm) (cc := cX9_ofFarm) (nL := 5) (ret := (some .int)) (D := D) (cT := cT) (av := [.ref h0, .int x, .int y]) (wi := [(sw_9 h0 g b0 b5 b6 b7 b8 b9 b10 b11 b12 b13 b14 b17 b18 b19 b23 b24 b25 b26 b27 b29 b31 b32 b33), (sw_in cT (g 0) 288 a0)]) (fun A => va_Qi (fun (r : Int32) (u : Unit) => (True)) (fun u t => RW D A ((fun _ : Unit => [(sw_9 h0 g b0 b5 b6 b7 b8 b9 b10 b11 b12 b13 b14 b17 b18 b19 b23 b24 b25 b26 b27 b29 b31 b32 b33), (sw_in cT (g 0) 288 a0)]) u) t) A) (by decide) (Nat.le_of_ble_eq_true rfl) ?_
  intro p e s m below meth c A hx hb hml hown htg hK hN hr hlk hnm hsz hP hD hS hA ls hl
  have hown : s.vm.findClass RX9 = some m.cls := hown
  have hl : lv_has ls 5 [(0, .ref h0), (1, .int x), (2, .int y)] := hl
  have tc_0 : (0 : Int32).toInt = 0 := by decide
  have tc_64 : (64 : Int32).toInt = 64 := by decide
  refine lv_iconst (v := 0) hx hb dX9_ofFarm_0 (by decide) ?_
  refine lv_istore_n (lv' := [(3, .int 0), (0, .ref h0), (1, .int x), (2, .int y)]) hx hb dX9_ofFarm_1 rfl hl (by decide) rfl (fun ls hl => ?_)
  refine lv_iconst (v := 0) hx hb dX9_ofFarm_2 (by decide) ?_
  refine lv_istore (lv' := [(4, .int 0), (3, .int 0), (0, .ref h0), (1, .int x), (2, .int y)]) hx hb dX9_ofFarm_3 hl (by decide) rfl (fun ls hl => ?_)
  refine (fun (key : ∀ (n9_5 : Nat) (k9_5 : Nat) (x9_5_3 : Int32) (H : Heap) (locs : List Loc) (ls : Array Slot), (k9_5 : Int) ≤ 16 → 16 < (k9_5 : Int) + n9_5 → PD D A [(sw_9 h0 g b0 b5 b6 b7 b8 b9 b10 b11 b12 b13 b14 b17 b18 b19 b23 b24 b25 b26 b27 b29 b31 b32 b33), (sw_in cT (g 0) 288 a0)] H → va_S A s.heap H locs → lv_has ls 5 [(4, .int (nI k9_5)), (3, .int x9_5_3), (0, .ref h0), (1, .int x), (2, .int y)] → W p l e _ s m _ below meth c H locs _ _ _ (F0 m 5 ls [])) => key (Int.toNat (16 - 0) + 1) 0 _ _ _ _ (by omega) (by omega)  ⟨hP, hD⟩ hS (lv_sub hl [0, 1, 2, 3, 4] rfl)) ?_
  intro n9_5
  induction n9_5 with
  | zero => intro k9_5 x9_5_3 H locs ls hq1 hq2; exact absurd hq2 (by omega)
  | succ n9_5 ih_5 =>
    intro k9_5 x9_5_3 H locs ls hq1_5 hq2_5  hPD hS hl
    obtain ⟨hP, hD⟩ := hPD
    have hk9_5 : (nI k9_5).toInt = (k9_5 : Int) := nI_toInt (by omega)
    refine lv_iload hx hb dX9_ofFarm_5 (lv_at hl 0 rfl) ?_
    refine lv_aload_n hx hb dX9_ofFarm_7 rfl (lv_at hl 2 rfl) ?_
    refine va_get (D := D) (ci := 9) (v := .ref (g 0)) (C := RX9) (T := TX9) (N := 37) hx hb htg gRX9 hown hK hP 0 rfl rfl 1 (by decide) (htg _ wi_1151) (fun _ h9 => h9) rfl dX9_ofFarm_8 ?_
    refine lv_iconst (v := 0) hx hb dX9_ofFarm_11 (by decide) ?_
    refine va_iald hx hb hK hP 1 0 rfl rfl (by unfold vp_in; decide) dX9_ofFarm_12 ?_
    refine lv_topi (fun z_1 ez_1 => ?_)
    have iz_1 : 0 ≤ z_1.toInt ∧ z_1.toInt ≤ 16 := by rw [ez_1]; exact rd0 pa0 (by decide) rfl
    have nz_1 : z_1.toInt = ((a0) 0).toInt := by rw [ez_1]; rfl
    refine lv_icmp_ge (tgt := 52) hx hb dX9_ofFarm_13 (by decide) (fun c_2 => ?_) (fun c_2 => ?_)
    · have ic_2 : z_1.toInt ≤ ((k9_5 : Nat) : Int) := ile c_2 (rfl) (nI_toInt (by omega))
      refine lv_iload_n hx hb dX9_ofFarm_52 rfl (lv_at hl 1 rfl) ?_
      exact x_iret hx hb hr hlk hP hD hS [0, 1] (()) rfl (by decide) trivial (by decide) (by decide) dX9_ofFarm_53
    · have ic_2 : ((k9_5 : Nat) : Int) < z_1.toInt := inle c_2 (rfl) (nI_toInt (by omega))
      refine lv_iload_n hx hb dX9_ofFarm_16 rfl (lv_at hl 1 rfl) ?_
      refine lv_aload_n hx hb dX9_ofFarm_17 rfl (lv_at hl 2 rfl) ?_
      refine va_get (D := D) (ci := 9) (v := .ref (g 0)) (C := RX9) (T := TX9) (N := 37) hx hb htg gRX9 hown hK hP 0 rfl rfl 1 (by decide) (htg _ wi_1151) (fun _ h9 => h9) rfl dX9_ofFarm_18 ?_
      refine lv_bipush (v := 64) hx hb dX9_ofFarm_21 (by decide) ?_
      refine lv_iload hx hb dX9_ofFarm_23 (lv_at hl 0 rfl) ?_
      refine lv_iadd hx hb dX9_ofFarm_25 ?_
      refine lv_is (y := nI (64 + k9_5)) (nI_add 64 (k9_5)) ?_
      refine va_iald hx hb hK hP 1 0 rfl rfl (vp_in_nI (by omega) (by omega)) dX9_ofFarm_26 ?_
      refine lv_topi (fun z_3 ez_3 => ?_)
      have iz_3 : 0 ≤ z_3.toInt ∧ z_3.toInt ≤ 5 := by rw [ez_3]; exact rdF pa0 (by decide) (nI_toInt (by omega)) (by omega)
      refine lv_iload_n hx hb dX9_ofFarm_27 rfl (lv_at hl 3 rfl) ?_
      refine lv_icmp_ne (tgt := 43) hx hb dX9_ofFarm_28 (by decide) (fun c_4 => ?_) (fun c_4 => ?_)
      · have ic_4 : ¬ z_3.toInt = x.toInt := ine c_4 (rfl) (rfl)
        refine lv_iconst (v := 0) hx hb dX9_ofFarm_43 (by decide) ?_
        refine lv_iadd hx hb dX9_ofFarm_44 ?_
        refine lv_topi (fun z_5 ez_5 => ?_)
        refine lv_istore_n (lv' := [(3, .int z_5), (4, .int (nI k9_5)), (0, .ref h0), (1, .int x), (2, .int y)]) hx hb dX9_ofFarm_45 rfl hl (by decide) rfl (fun ls hl => ?_)
        refine lv_iinc (v := (nI (k9_5 + 1))) (lv' := [(4, .int (nI (k9_5 + 1))), (3, .int z_5), (0, .ref h0), (1, .int x), (2, .int y)]) hx hb dX9_ofFarm_46 hl (k := 1) rfl (by exact nI_1 (k9_5)) (by decide) rfl (fun ls hl => ?_)
        refine lv_goto (tgt := 5) hx hb dX9_ofFarm_49 (by decide) ?_
        exact ih_5 (k9_5 + 1) _ _ _ _ (by omega) (by omega)  ⟨hP.sub [0, 1] rfl, hD.sub [0, 1] (by decide) rfl⟩ hS (lv_sub hl [0, 1, 2, 3, 4] rfl)
      · have ic_4 : z_3.toInt = x.toInt := ieq c_4 (rfl) (rfl)
        refine lv_aload_n hx hb dX9_ofFarm_31 rfl (lv_at hl 2 rfl) ?_
        refine va_get (D := D) (ci := 9) (v := .ref (g 0)) (C := RX9) (T := TX9) (N := 37) hx hb htg gRX9 hown hK hP 0 rfl rfl 1 (by decide) (htg _ wi_1151) (fun _ h9 => h9) rfl dX9_ofFarm_32 ?_
        refine lv_iload_n hx hb dX9_ofFarm_35 rfl (lv_at hl 4 rfl) ?_
        refine lv_iload hx hb dX9_ofFarm_36 (lv_at hl 0 rfl) ?_
        refine lv_iadd hx hb dX9_ofFarm_38 ?_
        refine lv_topi (fun z_6 ez_6 => ?_)
        have iz_6 : z_6.toInt = y.toInt + ((k9_5 : Nat) : Int) := toInt_addI ez_6 (rfl) (nI_toInt (by omega)) (by omega)
        refine va_iald hx hb hK hP 1 0 rfl rfl (vp_in_iff.mpr (by omega)) dX9_ofFarm_39 ?_
        refine lv_topi (fun z_7 ez_7 => ?_)
        refine lv_goto (tgt := 44) hx hb dX9_ofFarm_40 (by decide) ?_
        refine lv_iadd hx hb dX9_ofFarm_44 ?_
        refine lv_topi (fun z_8 ez_8 => ?_)
        refine lv_istore_n (lv' := [(3, .int z_8), (4, .int (nI k9_5)), (0, .ref h0), (1, .int x), (2, .int y)]) hx hb dX9_ofFarm_45 rfl hl (by decide) rfl (fun ls hl => ?_)
        refine lv_iinc (v := (nI (k9_5 + 1))) (lv' := [(4, .int (nI (k9_5 + 1))), (3, .int z_8), (0, .ref h0), (1, .int x), (2, .int y)]) hx hb dX9_ofFarm_46 hl (k := 1) rfl (by exact nI_1 (k9_5)) (by decide) rfl (fun ls hl => ?_)
        refine lv_goto (tgt := 5) hx hb dX9_ofFarm_49 (by decide) ?_
        exact ih_5 (k9_5 + 1) _ _ _ _ (by omega) (by omega)  ⟨hP.sub [0, 1] rfl, hD.sub [0, 1] (by decide) rfl⟩ hS (lv_sub hl [0, 1, 2, 3, 4] rfl)
set_option maxHeartbeats 4000000 in
set_option maxRecDepth 100000 in
theorem m_farm (l : Launch) (D : va_G) (cT : Nat → ClassId) (sz : Nat) (h0 : Nat) (g : Nat → Nat) (b0 : Int32) (b5 : Int32) (b6 : Int32) (b7 : Int32) (b8 : Int32) (b9 : Int32) (b10 : Int32) (b11 : Int32) (b12 : Int32) (b13 : Int32) (b14 : Int32) (b17 : Int32) (b18 : Int32) (b19 : Int32) (b23 : Int32) (b24 : Int32) (b25 : Int32) (b26 : Int32) (b27 : Int32) (b29 : Int32) (b31 : Int32) (b32 : Int32) (b33 : Int32) (hb5 : 0 ≤ b5.toInt ∧ b5.toInt ≤ 900) (a0 : Nat → Int32) (pa0 : PI 288 a0) (x : Int32) (y : Int32) : Met l yX9_farm (wsc yX9_farm cX9_farm 3 (some .int)) { frames := 3, cells := 0, slots := 0, locals := 125 } (va_Pc [.ref h0, .int x, .int y] (PX D cT sz [(sw_9 h0 g b0 b5 b6 b7 b8 b9 b10 b11 b12 b13 b14 b17 b18 b19 b23 b24 b25 b26 b27 b29 b31 b32 b33), (sw_in cT (g 0) 288 a0)])) (va_Qi (fun (r : Int32) (u : Int32) => (True)) (fun u t => RW D (va_A [(sw_9 h0 g b0 b5 b6 b7 b8 b9 b10 b11 b12 b13 b14 b17 b18 b19 b23 b24 b25 b26 b27 b29 b31 b32 b33), (sw_in cT (g 0) 288 a0)] sz) ((fun u : Int32 => [(sw_9 h0 g u b5 b6 b7 b8 b9 b10 b11 b12 b13 b14 b17 b18 b19 b23 b24 b25 b26 b27 b29 b31 b32 b33), (sw_in cT (g 0) 288 a0)]) u) t) (va_A [(sw_9 h0 g b0 b5 b6 b7 b8 b9 b10 b11 b12 b13 b14 b17 b18 b19 b23 b24 b25 b26 b27 b29 b31 b32 b33), (sw_in cT (g 0) 288 a0)] sz)) 0 0 (va_A [(sw_9 h0 g b0 b5 b6 b7 b8 b9 b10 b11 b12 b13 b14 b17 b18 b19 b23 b24 b25 b26 b27 b29 b31 b32 b33), (sw_in cT (g 0) 288 a0)] sz) := by
  refine m_of (y := yX9_farm) (cc := cX9_farm) (nL := 3) (ret := (some .int)) (D := D) (cT := cT) (av := [.ref h0, .int x, .int y]) (wi := [(sw_9 h0 g b0 b5 b6 b7 b8 b9 b10 b11 b12 b13 b14 b17 b18 b19 b23 b24 b25 b26 b27 b29 b31 b32 b33), (sw_in cT (g 0) 288 a0)]) (fun A => va_Qi (fun (r : Int32) (u : Int32) => (True)) (fun u t => RW D A ((fun u : Int32 => [(sw_9 h0 g u b5 b6 b7 b8 b9 b10 b11 b12 b13 b14 b17 b18 b19 b23 b24 b25 b26 b27 b29 b31 b32 b33), (sw_in cT (g 0) 288 a0)]) u) t) A) (by decide) (Nat.le_of_ble_eq_true rfl) ?_
  intro p e s m below meth c A hx hb hml hown htg hK hN hr hlk hnm hsz hP hD hS hA ls hl
  have hown : s.vm.findClass RX9 = some m.cls := hown
  have hl : lv_has ls 3 [(0, .ref h0), (1, .int x), (2, .int y)] := hl
  have tc_m2 : ((-2) : Int32).toInt = (-2) := by decide
  have tc_0 : (0 : Int32).toInt = 0 := by decide
  have tc_1 : (1 : Int32).toInt = 1 := by decide
  have tc_2 : (2 : Int32).toInt = 2 := by decide
  have tc_10 : (10 : Int32).toInt = 10 := by decide
  have tc_16 : (16 : Int32).toInt = 16 := by decide
  have tc_80 : (80 : Int32).toInt = 80 := by decide
  refine lv_aload_n hx hb dX9_farm_0 rfl (lv_at hl 0 rfl) ?_
  refine lv_iconst (v := 0) hx hb dX9_farm_1 (by decide) ?_
  refine va_put (D := D) (ci := 9) (v := .int 0) (ty := .int) (C := RX9) (T := TX9) (N := 37) hx hb htg gRX9 tyX9 tyX9_ok nmX9 hown hK hP hD hS 0 rfl rfl 0 (by decide) (htg _ wi_1150) (fun _ h9 => h9) rfl (by decide +kernel) rfl rfl (Nat.le_of_ble_eq_true rfl) dX9_farm_2 (fun H locs hP hD hS => ?_)
  obtain ⟨hP, hD⟩ : PD D A [(sw_9 h0 g 0 b5 b6 b7 b8 b9 b10 b11 b12 b13 b14 b17 b18 b19 b23 b24 b25 b26 b27 b29 b31 b32 b33), (sw_in cT (g 0) 288 a0)] _ := ⟨hP, hD⟩
  refine lv_iload_n hx hb dX9_farm_5 rfl (lv_at hl 1 rfl) ?_
  refine lv_i2l (v := x.toInt64) hx hb dX9_farm_6 rfl ?_
  refine lv_lconst (v := 0) hx hb dX9_farm_7 (by decide) ?_
  refine lv_ldc2 (v := 5) hx hb hown (htg _ wi_1342) dX9_farm_8 ?_
  have ilw_1 : (x.toInt64).toInt = x.toInt := i2l_i _
  refine xk_i (wr := [(sw_9 h0 g 0 b5 b6 b7 b8 b9 b10 b11 b12 b13 b14 b17 b18 b19 b23 b24 b25 b26 b27 b29 b31 b32 b33), (sw_in cT (g 0) 288 a0)]) (xr_S (n := 3) (As := [.long x.toInt64, .long 0, .long 5]) (rest := []) ⟨hx, hb, hml, hown, htg⟩ hK hN hP hD hS hA [] rfl (by decide) (m_within l D cT _ (x.toInt64) (0) (5) (x.toInt) (0) (5) (i2l_i _) (by decide) (by decide)) wi_1270 wi_1271 wi_131 wi_1272 ⟨rfl, by decide +kernel⟩ ⟨Nat.le_of_ble_eq_true rfl, Nat.le_of_ble_eq_true rfl⟩ rfl hl.1 rfl (Nat.le_of_ble_eq_true rfl) dX9_farm_11 ⟨Nat.le_of_ble_eq_true rfl, Nat.le_of_ble_eq_true rfl⟩) hP hD hS hA [] [0, 1] rfl rfl (by decide) (by decide) (fun r_3 u_2 H locs hwr_3 hP hD hS => ?_)
  obtain ⟨hP, hD⟩ : PD D A [(sw_9 h0 g 0 b5 b6 b7 b8 b9 b10 b11 b12 b13 b14 b17 b18 b19 b23 b24 b25 b26 b27 b29 b31 b32 b33), (sw_in cT (g 0) 288 a0)] _ := ⟨hP, hD⟩
  have qr_3_0 : Imp (¬ r_3.toInt = 0) (0 ≤ x.toInt ∧ x.toInt ≤ 5) := hwr_3.1
  have qr_3_1 : r_3 = 0 ∨ r_3 = 1 := hwr_3.2.1
  refine lv_if_eq (tgt := 29) hx hb dX9_farm_14 (by decide) (fun c_4 => ?_) (fun c_4 => ?_)
  · have ic_4 : r_3.toInt = 0 := ieq c_4 (rfl) (by decide)
    refine lv_bipush (v := (-2)) hx hb dX9_farm_29 (by decide) ?_
    exact x_iret hx hb hr hlk hP hD hS [0, 1] ((0)) rfl (by decide) trivial (by decide) (by decide) dX9_farm_31
  · have ic_4 : ¬ r_3.toInt = 0 := ine c_4 (rfl) (by decide)
    have kqr_3_0 : 0 ≤ x.toInt ∧ x.toInt ≤ 5 := qr_3_0 ic_4
    refine lv_iload_n hx hb dX9_farm_17 rfl (lv_at hl 2 rfl) ?_
    refine lv_i2l (v := y.toInt64) hx hb dX9_farm_18 rfl ?_
    refine lv_lconst (v := 0) hx hb dX9_farm_19 (by decide) ?_
    refine lv_ldc2 (v := 3) hx hb hown (htg _ wi_1366) dX9_farm_20 ?_
    have ilw_5 : (y.toInt64).toInt = y.toInt := i2l_i _
    refine xk_i (wr := [(sw_9 h0 g 0 b5 b6 b7 b8 b9 b10 b11 b12 b13 b14 b17 b18 b19 b23 b24 b25 b26 b27 b29 b31 b32 b33), (sw_in cT (g 0) 288 a0)]) (xr_S (n := 3) (As := [.long y.toInt64, .long 0, .long 3]) (rest := []) ⟨hx, hb, hml, hown, htg⟩ hK hN hP hD hS hA [] rfl (by decide) (m_within l D cT _ (y.toInt64) (0) (3) (y.toInt) (0) (3) (i2l_i _) (by decide) (by decide)) wi_1270 wi_1271 wi_131 wi_1272 ⟨rfl, by decide +kernel⟩ ⟨Nat.le_of_ble_eq_true rfl, Nat.le_of_ble_eq_true rfl⟩ rfl hl.1 rfl (Nat.le_of_ble_eq_true rfl) dX9_farm_23 ⟨Nat.le_of_ble_eq_true rfl, Nat.le_of_ble_eq_true rfl⟩) hP hD hS hA [] [0, 1] rfl rfl (by decide) (by decide) (fun r_7 u_6 H locs hwr_7 hP hD hS => ?_)
    obtain ⟨hP, hD⟩ : PD D A [(sw_9 h0 g 0 b5 b6 b7 b8 b9 b10 b11 b12 b13 b14 b17 b18 b19 b23 b24 b25 b26 b27 b29 b31 b32 b33), (sw_in cT (g 0) 288 a0)] _ := ⟨hP, hD⟩
    have qr_7_0 : Imp (¬ r_7.toInt = 0) (0 ≤ y.toInt ∧ y.toInt ≤ 3) := hwr_7.1
    have qr_7_1 : r_7 = 0 ∨ r_7 = 1 := hwr_7.2.1
    refine lv_if_ne (tgt := 32) hx hb dX9_farm_26 (by decide) (fun c_8 => ?_) (fun c_8 => ?_)
    · have ic_8 : ¬ r_7.toInt = 0 := ine c_8 (rfl) (by decide)
      have kqr_7_0 : 0 ≤ y.toInt ∧ y.toInt ≤ 3 := qr_7_0 ic_8
      refine lv_iload_n hx hb dX9_farm_32 rfl (lv_at hl 2 rfl) ?_
      refine lv_if_ne (tgt := 46) hx hb dX9_farm_33 (by decide) (fun c_9 => ?_) (fun c_9 => ?_)
      · have ic_9 : ¬ y.toInt = 0 := ine c_9 (rfl) (by decide)
        refine lv_iload_n hx hb dX9_farm_46 rfl (lv_at hl 2 rfl) ?_
        refine lv_iconst (v := 1) hx hb dX9_farm_47 (by decide) ?_
        refine lv_icmp_ne (tgt := 61) hx hb dX9_farm_48 (by decide) (fun c_10 => ?_) (fun c_10 => ?_)
        · have ic_10 : ¬ y.toInt = 1 := ine c_10 (rfl) (by decide)
          refine lv_iload_n hx hb dX9_farm_61 rfl (lv_at hl 2 rfl) ?_
          refine lv_iconst (v := 2) hx hb dX9_farm_62 (by decide) ?_
          refine lv_icmp_ne (tgt := 78) hx hb dX9_farm_63 (by decide) (fun c_11 => ?_) (fun c_11 => ?_)
          · have ic_11 : ¬ y.toInt = 2 := ine c_11 (rfl) (by decide)
            refine lv_aload_n hx hb dX9_farm_78 rfl (lv_at hl 0 rfl) ?_
            refine lv_iload_n hx hb dX9_farm_79 rfl (lv_at hl 1 rfl) ?_
            refine xk_i (wr := []) (xr_V (n := 1) (As := [.int x]) (rest := []) ⟨hx, hb, hml, hown, htg⟩ hK hN hP hD hS hA [0, 1] rfl (by decide) (m_stripsOf l D cT _ (h0) (g) (0) (b5) (b6) (b7) (b8) (b9) (b10) (b11) (b12) (b13) (b14) (b17) (b18) (b19) (b23) (b24) (b25) (b26) (b27) (b29) (b31) (b32) (b33) (by first | assumption | omega | decide | exact Or.inl (by decide) | (intro h9; exact absurd h9 (by decide)) | (intro _; omega) | (intro _; assumption) | (intro _; decide)) (a0) (by first | assumption | omega | decide | exact Or.inl (by decide) | (intro h9; exact absurd h9 (by decide)) | (intro _; omega) | (intro _; assumption) | (intro _; decide)) (x)) wi_1371 wi_1373 wi_96 wi_131 wi_1374 rfl rfl rfl ⟨rfl, by decide +kernel⟩ ⟨Nat.le_of_ble_eq_true rfl, Nat.le_of_ble_eq_true rfl⟩ rfl hl.1 rfl (Nat.le_of_ble_eq_true rfl) dX9_farm_80 ⟨Nat.le_of_ble_eq_true rfl, Nat.le_of_ble_eq_true rfl⟩) hP hD hS hA [0, 1] [] rfl rfl (by decide) (by decide) (fun r_13 u_12 H locs hwr_13 hP hD hS => ?_)
            obtain ⟨hP, hD⟩ : PD D A [(sw_9 h0 g 0 b5 b6 b7 b8 b9 b10 b11 b12 b13 b14 b17 b18 b19 b23 b24 b25 b26 b27 b29 b31 b32 b33), (sw_in cT (g 0) 288 a0)] _ := ⟨hP, hD⟩
            exact x_iret hx hb hr hlk hP hD hS [0, 1] ((0)) rfl (by decide) trivial (by decide) (by decide) dX9_farm_83
          · have ic_11 : y.toInt = 2 := ieq c_11 (rfl) (by decide)
            refine lv_aload_n hx hb dX9_farm_66 rfl (lv_at hl 0 rfl) ?_
            refine va_get (D := D) (ci := 9) (v := .ref (g 0)) (C := RX9) (T := TX9) (N := 37) hx hb htg gRX9 hown hK hP 0 rfl rfl 1 (by decide) (htg _ wi_1151) (fun _ h9 => h9) rfl dX9_farm_67 ?_
            refine lv_bipush (v := 10) hx hb dX9_farm_70 (by decide) ?_
            refine lv_iload_n hx hb dX9_farm_72 rfl (lv_at hl 1 rfl) ?_
            refine lv_iadd hx hb dX9_farm_73 ?_
            refine lv_topi (fun z_14 ez_14 => ?_)
            have iz_14 : z_14.toInt = 10 + x.toInt := toInt_addI ez_14 (by decide) (rfl) (by omega)
            refine va_iald hx hb hK hP 1 0 rfl rfl (vp_in_iff.mpr (by omega)) dX9_farm_74 ?_
            refine lv_topi (fun z_15 ez_15 => ?_)
            refine lv_goto (tgt := 83) hx hb dX9_farm_75 (by decide) ?_
            exact x_iret hx hb hr hlk hP hD hS [0, 1] ((0)) rfl (by decide) trivial (by decide) (by decide) dX9_farm_83
        · have ic_10 : y.toInt = 1 := ieq c_10 (rfl) (by decide)
          refine lv_aload_n hx hb dX9_farm_51 rfl (lv_at hl 0 rfl) ?_
          refine lv_iload_n hx hb dX9_farm_52 rfl (lv_at hl 1 rfl) ?_
          refine lv_bipush (v := 16) hx hb dX9_farm_53 (by decide) ?_
          refine xk_i (wr := []) (xr_V (n := 2) (As := [.int x, .int 16]) (rest := []) ⟨hx, hb, hml, hown, htg⟩ hK hN hP hD hS hA [0, 1] rfl (by decide) (m_ofFarm l D cT _ (h0) (g) (0) (b5) (b6) (b7) (b8) (b9) (b10) (b11) (b12) (b13) (b14) (b17) (b18) (b19) (b23) (b24) (b25) (b26) (b27) (b29) (b31) (b32) (b33) (by first | assumption | omega | decide | exact Or.inl (by decide) | (intro h9; exact absurd h9 (by decide)) | (intro _; omega) | (intro _; assumption) | (intro _; decide)) (a0) (by first | assumption | omega | decide | exact Or.inl (by decide) | (intro h9; exact absurd h9 (by decide)) | (intro _; omega) | (intro _; assumption) | (intro _; decide)) (x) (16) (by first | assumption | omega | decide | exact Or.inl (by decide) | (intro h9; exact absurd h9 (by decide)) | (intro _; omega) | (intro _; assumption) | (intro _; decide))) wi_1367 wi_1369 wi_95 wi_131 wi_1370 rfl rfl rfl ⟨rfl, by decide +kernel⟩ ⟨Nat.le_of_ble_eq_true rfl, Nat.le_of_ble_eq_true rfl⟩ rfl hl.1 rfl (Nat.le_of_ble_eq_true rfl) dX9_farm_55 ⟨Nat.le_of_ble_eq_true rfl, Nat.le_of_ble_eq_true rfl⟩) hP hD hS hA [0, 1] [] rfl rfl (by decide) (by decide) (fun r_17 u_16 H locs hwr_17 hP hD hS => ?_)
          obtain ⟨hP, hD⟩ : PD D A [(sw_9 h0 g 0 b5 b6 b7 b8 b9 b10 b11 b12 b13 b14 b17 b18 b19 b23 b24 b25 b26 b27 b29 b31 b32 b33), (sw_in cT (g 0) 288 a0)] _ := ⟨hP, hD⟩
          refine lv_goto (tgt := 83) hx hb dX9_farm_58 (by decide) ?_
          exact x_iret hx hb hr hlk hP hD hS [0, 1] ((0)) rfl (by decide) trivial (by decide) (by decide) dX9_farm_83
      · have ic_9 : y.toInt = 0 := ieq c_9 (rfl) (by decide)
        refine lv_aload_n hx hb dX9_farm_36 rfl (lv_at hl 0 rfl) ?_
        refine lv_iload_n hx hb dX9_farm_37 rfl (lv_at hl 1 rfl) ?_
        refine lv_bipush (v := 80) hx hb dX9_farm_38 (by decide) ?_
        refine xk_i (wr := []) (xr_V (n := 2) (As := [.int x, .int 80]) (rest := []) ⟨hx, hb, hml, hown, htg⟩ hK hN hP hD hS hA [0, 1] rfl (by decide) (m_ofFarm l D cT _ (h0) (g) (0) (b5) (b6) (b7) (b8) (b9) (b10) (b11) (b12) (b13) (b14) (b17) (b18) (b19) (b23) (b24) (b25) (b26) (b27) (b29) (b31) (b32) (b33) (by first | assumption | omega | decide | exact Or.inl (by decide) | (intro h9; exact absurd h9 (by decide)) | (intro _; omega) | (intro _; assumption) | (intro _; decide)) (a0) (by first | assumption | omega | decide | exact Or.inl (by decide) | (intro h9; exact absurd h9 (by decide)) | (intro _; omega) | (intro _; assumption) | (intro _; decide)) (x) (80) (by first | assumption | omega | decide | exact Or.inl (by decide) | (intro h9; exact absurd h9 (by decide)) | (intro _; omega) | (intro _; assumption) | (intro _; decide))) wi_1367 wi_1369 wi_95 wi_131 wi_1370 rfl rfl rfl ⟨rfl, by decide +kernel⟩ ⟨Nat.le_of_ble_eq_true rfl, Nat.le_of_ble_eq_true rfl⟩ rfl hl.1 rfl (Nat.le_of_ble_eq_true rfl) dX9_farm_40 ⟨Nat.le_of_ble_eq_true rfl, Nat.le_of_ble_eq_true rfl⟩) hP hD hS hA [0, 1] [] rfl rfl (by decide) (by decide) (fun r_19 u_18 H locs hwr_19 hP hD hS => ?_)
        obtain ⟨hP, hD⟩ : PD D A [(sw_9 h0 g 0 b5 b6 b7 b8 b9 b10 b11 b12 b13 b14 b17 b18 b19 b23 b24 b25 b26 b27 b29 b31 b32 b33), (sw_in cT (g 0) 288 a0)] _ := ⟨hP, hD⟩
        refine lv_goto (tgt := 83) hx hb dX9_farm_43 (by decide) ?_
        exact x_iret hx hb hr hlk hP hD hS [0, 1] ((0)) rfl (by decide) trivial (by decide) (by decide) dX9_farm_83
    · have ic_8 : r_7.toInt = 0 := ieq c_8 (rfl) (by decide)
      refine lv_bipush (v := (-2)) hx hb dX9_farm_29 (by decide) ?_
      exact x_iret hx hb hr hlk hP hD hS [0, 1] ((0)) rfl (by decide) trivial (by decide) (by decide) dX9_farm_31
set_option maxHeartbeats 4000000 in
set_option maxRecDepth 100000 in
theorem m_light (l : Launch) (D : va_G) (cT : Nat → ClassId) (sz : Nat) (h0 : Nat) (g : Nat → Nat) (b0 : Int32) (b5 : Int32) (b6 : Int32) (b7 : Int32) (b8 : Int32) (b9 : Int32) (b10 : Int32) (b11 : Int32) (b12 : Int32) (b13 : Int32) (b14 : Int32) (b17 : Int32) (b18 : Int32) (b19 : Int32) (b23 : Int32) (b24 : Int32) (b25 : Int32) (b26 : Int32) (b27 : Int32) (b29 : Int32) (b31 : Int32) (b32 : Int32) (b33 : Int32) (hb5 : 0 ≤ b5.toInt ∧ b5.toInt ≤ 900) (a0 : Nat → Int32) (pa0 : PI 288 a0) (x : Int32) (y : Int32) : Met l yX9_light (wsc yX9_light cX9_light 3 (some .int)) { frames := 6, cells := 0, slots := 0, locals := 192 } (va_Pc [.ref h0, .int x, .int y] (PX D cT sz [(sw_9 h0 g b0 b5 b6 b7 b8 b9 b10 b11 b12 b13 b14 b17 b18 b19 b23 b24 b25 b26 b27 b29 b31 b32 b33), (sw_in cT (g 0) 288 a0)])) (va_Qi (fun (r : Int32) (u : Int32) => (True)) (fun u t => RW D (va_A [(sw_9 h0 g b0 b5 b6 b7 b8 b9 b10 b11 b12 b13 b14 b17 b18 b19 b23 b24 b25 b26 b27 b29 b31 b32 b33), (sw_in cT (g 0) 288 a0)] sz) ((fun u : Int32 => [(sw_9 h0 g u b5 b6 b7 b8 b9 b10 b11 b12 b13 b14 b17 b18 b19 b23 b24 b25 b26 b27 b29 b31 b32 b33), (sw_in cT (g 0) 288 a0)]) u) t) (va_A [(sw_9 h0 g b0 b5 b6 b7 b8 b9 b10 b11 b12 b13 b14 b17 b18 b19 b23 b24 b25 b26 b27 b29 b31 b32 b33), (sw_in cT (g 0) 288 a0)] sz)) 0 0 (va_A [(sw_9 h0 g b0 b5 b6 b7 b8 b9 b10 b11 b12 b13 b14 b17 b18 b19 b23 b24 b25 b26 b27 b29 b31 b32 b33), (sw_in cT (g 0) 288 a0)] sz) := by
  refine m_of (y := yX9_light) (cc := cX9_light) (nL := 3) (ret := (some .int)) (D := D) (cT := cT) (av := [.ref h0, .int x, .int y]) (wi := [(sw_9 h0 g b0 b5 b6 b7 b8 b9 b10 b11 b12 b13 b14 b17 b18 b19 b23 b24 b25 b26 b27 b29 b31 b32 b33), (sw_in cT (g 0) 288 a0)]) (fun A => va_Qi (fun (r : Int32) (u : Int32) => (True)) (fun u t => RW D A ((fun u : Int32 => [(sw_9 h0 g u b5 b6 b7 b8 b9 b10 b11 b12 b13 b14 b17 b18 b19 b23 b24 b25 b26 b27 b29 b31 b32 b33), (sw_in cT (g 0) 288 a0)]) u) t) A) (by decide) (Nat.le_of_ble_eq_true rfl) ?_
  intro p e s m below meth c A hx hb hml hown htg hK hN hr hlk hnm hsz hP hD hS hA ls hl
  have hown : s.vm.findClass RX9 = some m.cls := hown
  have hl : lv_has ls 3 [(0, .ref h0), (1, .int x), (2, .int y)] := hl
  have tc_m2 : ((-2) : Int32).toInt = (-2) := by decide
  have tc_0 : (0 : Int32).toInt = 0 := by decide
  refine lv_aload_n hx hb dX9_light_0 rfl (lv_at hl 0 rfl) ?_
  refine lv_iconst (v := 0) hx hb dX9_light_1 (by decide) ?_
  refine va_put (D := D) (ci := 9) (v := .int 0) (ty := .int) (C := RX9) (T := TX9) (N := 37) hx hb htg gRX9 tyX9 tyX9_ok nmX9 hown hK hP hD hS 0 rfl rfl 0 (by decide) (htg _ wi_1150) (fun _ h9 => h9) rfl (by decide +kernel) rfl rfl (Nat.le_of_ble_eq_true rfl) dX9_light_2 (fun H locs hP hD hS => ?_)
  obtain ⟨hP, hD⟩ : PD D A [(sw_9 h0 g 0 b5 b6 b7 b8 b9 b10 b11 b12 b13 b14 b17 b18 b19 b23 b24 b25 b26 b27 b29 b31 b32 b33), (sw_in cT (g 0) 288 a0)] _ := ⟨hP, hD⟩
  refine lv_aload_n hx hb dX9_light_5 rfl (lv_at hl 0 rfl) ?_
  refine lv_iload_n hx hb dX9_light_6 rfl (lv_at hl 1 rfl) ?_
  refine xk_i (wr := []) (xr_V (n := 1) (As := [.int x]) (rest := []) ⟨hx, hb, hml, hown, htg⟩ hK hN hP hD hS hA [0, 1] rfl (by decide) (m_isStrip l D cT _ (h0) (g) (0) (b5) (b6) (b7) (b8) (b9) (b10) (b11) (b12) (b13) (b14) (b17) (b18) (b19) (b23) (b24) (b25) (b26) (b27) (b29) (b31) (b32) (b33) (by first | assumption | omega | decide | exact Or.inl (by decide) | (intro h9; exact absurd h9 (by decide)) | (intro _; omega) | (intro _; assumption) | (intro _; decide)) (a0) (by first | assumption | omega | decide | exact Or.inl (by decide) | (intro h9; exact absurd h9 (by decide)) | (intro _; omega) | (intro _; assumption) | (intro _; decide)) (x)) wi_1338 wi_1340 wi_90 wi_131 wi_1341 rfl rfl rfl ⟨rfl, by decide +kernel⟩ ⟨Nat.le_of_ble_eq_true rfl, Nat.le_of_ble_eq_true rfl⟩ rfl hl.1 rfl (Nat.le_of_ble_eq_true rfl) dX9_light_7 ⟨Nat.le_of_ble_eq_true rfl, Nat.le_of_ble_eq_true rfl⟩) hP hD hS hA [0, 1] [] rfl rfl (by decide) (by decide) (fun r_2 u_1 H locs hwr_2 hP hD hS => ?_)
  obtain ⟨hP, hD⟩ : PD D A [(sw_9 h0 g 0 b5 b6 b7 b8 b9 b10 b11 b12 b13 b14 b17 b18 b19 b23 b24 b25 b26 b27 b29 b31 b32 b33), (sw_in cT (g 0) 288 a0)] _ := ⟨hP, hD⟩
  have qr_2_0 : Imp (¬ r_2.toInt = 0) (0 ≤ x.toInt ∧ x.toInt ≤ 15) := hwr_2.1
  refine lv_if_eq (tgt := 30) hx hb dX9_light_10 (by decide) (fun c_3 => ?_) (fun c_3 => ?_)
  · have ic_3 : r_2.toInt = 0 := ieq c_3 (rfl) (by decide)
    refine lv_bipush (v := (-2)) hx hb dX9_light_30 (by decide) ?_
    exact x_iret hx hb hr hlk hP hD hS [0, 1] ((0)) rfl (by decide) trivial (by decide) (by decide) dX9_light_32
  · have ic_3 : ¬ r_2.toInt = 0 := ine c_3 (rfl) (by decide)
    have kqr_2_0 : 0 ≤ x.toInt ∧ x.toInt ≤ 15 := qr_2_0 ic_3
    refine lv_aload_n hx hb dX9_light_13 rfl (lv_at hl 0 rfl) ?_
    refine lv_iload_n hx hb dX9_light_14 rfl (lv_at hl 2 rfl) ?_
    refine xk_i (wr := []) (xr_V (n := 1) (As := [.int y]) (rest := []) ⟨hx, hb, hml, hown, htg⟩ hK hN hP hD hS hA [0, 1] rfl (by decide) (m_isStrip l D cT _ (h0) (g) (0) (b5) (b6) (b7) (b8) (b9) (b10) (b11) (b12) (b13) (b14) (b17) (b18) (b19) (b23) (b24) (b25) (b26) (b27) (b29) (b31) (b32) (b33) (by first | assumption | omega | decide | exact Or.inl (by decide) | (intro h9; exact absurd h9 (by decide)) | (intro _; omega) | (intro _; assumption) | (intro _; decide)) (a0) (by first | assumption | omega | decide | exact Or.inl (by decide) | (intro h9; exact absurd h9 (by decide)) | (intro _; omega) | (intro _; assumption) | (intro _; decide)) (y)) wi_1338 wi_1340 wi_90 wi_131 wi_1341 rfl rfl rfl ⟨rfl, by decide +kernel⟩ ⟨Nat.le_of_ble_eq_true rfl, Nat.le_of_ble_eq_true rfl⟩ rfl hl.1 rfl (Nat.le_of_ble_eq_true rfl) dX9_light_15 ⟨Nat.le_of_ble_eq_true rfl, Nat.le_of_ble_eq_true rfl⟩) hP hD hS hA [0, 1] [] rfl rfl (by decide) (by decide) (fun r_5 u_4 H locs hwr_5 hP hD hS => ?_)
    obtain ⟨hP, hD⟩ : PD D A [(sw_9 h0 g 0 b5 b6 b7 b8 b9 b10 b11 b12 b13 b14 b17 b18 b19 b23 b24 b25 b26 b27 b29 b31 b32 b33), (sw_in cT (g 0) 288 a0)] _ := ⟨hP, hD⟩
    have qr_5_0 : Imp (¬ r_5.toInt = 0) (0 ≤ y.toInt ∧ y.toInt ≤ 15) := hwr_5.1
    refine lv_if_eq (tgt := 30) hx hb dX9_light_18 (by decide) (fun c_6 => ?_) (fun c_6 => ?_)
    · have ic_6 : r_5.toInt = 0 := ieq c_6 (rfl) (by decide)
      refine lv_bipush (v := (-2)) hx hb dX9_light_30 (by decide) ?_
      exact x_iret hx hb hr hlk hP hD hS [0, 1] ((0)) rfl (by decide) trivial (by decide) (by decide) dX9_light_32
    · have ic_6 : ¬ r_5.toInt = 0 := ine c_6 (rfl) (by decide)
      have kqr_5_0 : 0 ≤ y.toInt ∧ y.toInt ≤ 15 := qr_5_0 ic_6
      refine lv_aload_n hx hb dX9_light_21 rfl (lv_at hl 0 rfl) ?_
      refine lv_iload_n hx hb dX9_light_22 rfl (lv_at hl 1 rfl) ?_
      refine lv_iload_n hx hb dX9_light_23 rfl (lv_at hl 2 rfl) ?_
      refine xk_i (wr := []) (xr_V (n := 2) (As := [.int x, .int y]) (rest := []) ⟨hx, hb, hml, hown, htg⟩ hK hN hP hD hS hA [0, 1] rfl (by decide) (m_lightOf l D cT _ (h0) (g) (0) (b5) (b6) (b7) (b8) (b9) (b10) (b11) (b12) (b13) (b14) (b17) (b18) (b19) (b23) (b24) (b25) (b26) (b27) (b29) (b31) (b32) (b33) (by first | assumption | omega | decide | exact Or.inl (by decide) | (intro h9; exact absurd h9 (by decide)) | (intro _; omega) | (intro _; assumption) | (intro _; decide)) (a0) (by first | assumption | omega | decide | exact Or.inl (by decide) | (intro h9; exact absurd h9 (by decide)) | (intro _; omega) | (intro _; assumption) | (intro _; decide)) (x) (y) (by first | assumption | omega | decide | exact Or.inl (by decide) | (intro h9; exact absurd h9 (by decide)) | (intro _; omega) | (intro _; assumption) | (intro _; decide)) (by first | assumption | omega | decide | exact Or.inl (by decide) | (intro h9; exact absurd h9 (by decide)) | (intro _; omega) | (intro _; assumption) | (intro _; decide))) wi_1343 wi_1345 wi_91 wi_131 wi_1346 rfl rfl rfl ⟨rfl, by decide +kernel⟩ ⟨Nat.le_of_ble_eq_true rfl, Nat.le_of_ble_eq_true rfl⟩ rfl hl.1 rfl (Nat.le_of_ble_eq_true rfl) dX9_light_24 ⟨Nat.le_of_ble_eq_true rfl, Nat.le_of_ble_eq_true rfl⟩) hP hD hS hA [0, 1] [] rfl rfl (by decide) (by decide) (fun r_8 u_7 H locs hwr_8 hP hD hS => ?_)
      obtain ⟨hP, hD⟩ : PD D A [(sw_9 h0 g 0 b5 b6 b7 b8 b9 b10 b11 b12 b13 b14 b17 b18 b19 b23 b24 b25 b26 b27 b29 b31 b32 b33), (sw_in cT (g 0) 288 a0)] _ := ⟨hP, hD⟩
      refine lv_goto (tgt := 32) hx hb dX9_light_27 (by decide) ?_
      exact x_iret hx hb hr hlk hP hD hS [0, 1] ((0)) rfl (by decide) trivial (by decide) (by decide) dX9_light_32
set_option maxHeartbeats 4000000 in
set_option maxRecDepth 100000 in
theorem m_litBy (l : Launch) (D : va_G) (cT : Nat → ClassId) (sz : Nat) (h0 : Nat) (g : Nat → Nat) (b0 : Int32) (b5 : Int32) (b6 : Int32) (b7 : Int32) (b8 : Int32) (b9 : Int32) (b10 : Int32) (b11 : Int32) (b12 : Int32) (b13 : Int32) (b14 : Int32) (b17 : Int32) (b18 : Int32) (b19 : Int32) (b23 : Int32) (b24 : Int32) (b25 : Int32) (b26 : Int32) (b27 : Int32) (b29 : Int32) (b31 : Int32) (b32 : Int32) (b33 : Int32) (hb5 : 0 ≤ b5.toInt ∧ b5.toInt ≤ 900) (a0 : Nat → Int32) (pa0 : PI 288 a0) (x : Int32) (y : Int32) (hxx : 0 ≤ x.toInt ∧ x.toInt ≤ 15) : Met l yX9_litBy (wsc yX9_litBy cX9_litBy 5 (some .int)) { frames := 5, cells := 0, slots := 0, locals := 170 } (va_Pc [.ref h0, .int x, .int y] (PX D cT sz [(sw_9 h0 g b0 b5 b6 b7 b8 b9 b10 b11 b12 b13 b14 b17 b18 b19 b23 b24 b25 b26 b27 b29 b31 b32 b33), (sw_in cT (g 0) 288 a0)])) (va_Qi (fun (r : Int32) (u : Unit) => (True)) (fun u t => RW D (va_A [(sw_9 h0 g b0 b5 b6 b7 b8 b9 b10 b11 b12 b13 b14 b17 b18 b19 b23 b24 b25 b26 b27 b29 b31 b32 b33), (sw_in cT (g 0) 288 a0)] sz) ((fun _ : Unit => [(sw_9 h0 g b0 b5 b6 b7 b8 b9 b10 b11 b12 b13 b14 b17 b18 b19 b23 b24 b25 b26 b27 b29 b31 b32 b33), (sw_in cT (g 0) 288 a0)]) u) t) (va_A [(sw_9 h0 g b0 b5 b6 b7 b8 b9 b10 b11 b12 b13 b14 b17 b18 b19 b23 b24 b25 b26 b27 b29 b31 b32 b33), (sw_in cT (g 0) 288 a0)] sz)) 0 0 (va_A [(sw_9 h0 g b0 b5 b6 b7 b8 b9 b10 b11 b12 b13 b14 b17 b18 b19 b23 b24 b25 b26 b27 b29 b31 b32 b33), (sw_in cT (g 0) 288 a0)] sz) := by
  refine m_of (y := yX9_litBy) (cc := cX9_litBy) (nL := 5) (ret := (some .int)) (D := D) (cT := cT) (av := [.ref h0, .int x, .int y]) (wi := [(sw_9 h0 g b0 b5 b6 b7 b8 b9 b10 b11 b12 b13 b14 b17 b18 b19 b23 b24 b25 b26 b27 b29 b31 b32 b33), (sw_in cT (g 0) 288 a0)]) (fun A => va_Qi (fun (r : Int32) (u : Unit) => (True)) (fun u t => RW D A ((fun _ : Unit => [(sw_9 h0 g b0 b5 b6 b7 b8 b9 b10 b11 b12 b13 b14 b17 b18 b19 b23 b24 b25 b26 b27 b29 b31 b32 b33), (sw_in cT (g 0) 288 a0)]) u) t) A) (by decide) (Nat.le_of_ble_eq_true rfl) ?_
  intro p e s m below meth c A hx hb hml hown htg hK hN hr hlk hnm hsz hP hD hS hA ls hl
  have hown : s.vm.findClass RX9 = some m.cls := hown
  have hl : lv_has ls 5 [(0, .ref h0), (1, .int x), (2, .int y)] := hl
  have tc_0 : (0 : Int32).toInt = 0 := by decide
  have tc_1 : (1 : Int32).toInt = 1 := by decide
  refine lv_iconst (v := 0) hx hb dX9_litBy_0 (by decide) ?_
  refine lv_istore_n (lv' := [(3, .int 0), (0, .ref h0), (1, .int x), (2, .int y)]) hx hb dX9_litBy_1 rfl hl (by decide) rfl (fun ls hl => ?_)
  refine lv_iconst (v := 0) hx hb dX9_litBy_2 (by decide) ?_
  refine lv_istore (lv' := [(4, .int 0), (3, .int 0), (0, .ref h0), (1, .int x), (2, .int y)]) hx hb dX9_litBy_3 hl (by decide) rfl (fun ls hl => ?_)
  refine (fun (key : ∀ (n9_5 : Nat) (k9_5 : Nat) (x9_5_3 : Int32) (H : Heap) (locs : List Loc) (ls : Array Slot), (k9_5 : Int) ≤ 16 → 16 < (k9_5 : Int) + n9_5 → PD D A [(sw_9 h0 g b0 b5 b6 b7 b8 b9 b10 b11 b12 b13 b14 b17 b18 b19 b23 b24 b25 b26 b27 b29 b31 b32 b33), (sw_in cT (g 0) 288 a0)] H → va_S A s.heap H locs → lv_has ls 5 [(4, .int (nI k9_5)), (3, .int x9_5_3), (0, .ref h0), (1, .int x), (2, .int y)] → W p l e _ s m _ below meth c H locs _ _ _ (F0 m 5 ls [])) => key (Int.toNat (16 - 0) + 1) 0 _ _ _ _ (by omega) (by omega)  ⟨hP, hD⟩ hS (lv_sub hl [0, 1, 2, 3, 4] rfl)) ?_
  intro n9_5
  induction n9_5 with
  | zero => intro k9_5 x9_5_3 H locs ls hq1 hq2; exact absurd hq2 (by omega)
  | succ n9_5 ih_5 =>
    intro k9_5 x9_5_3 H locs ls hq1_5 hq2_5  hPD hS hl
    obtain ⟨hP, hD⟩ := hPD
    have hk9_5 : (nI k9_5).toInt = (k9_5 : Int) := nI_toInt (by omega)
    refine lv_iload hx hb dX9_litBy_5 (lv_at hl 0 rfl) ?_
    refine lv_aload_n hx hb dX9_litBy_7 rfl (lv_at hl 2 rfl) ?_
    refine va_get (D := D) (ci := 9) (v := .ref (g 0)) (C := RX9) (T := TX9) (N := 37) hx hb htg gRX9 hown hK hP 0 rfl rfl 1 (by decide) (htg _ wi_1151) (fun _ h9 => h9) rfl dX9_litBy_8 ?_
    refine lv_iconst (v := 0) hx hb dX9_litBy_11 (by decide) ?_
    refine va_iald hx hb hK hP 1 0 rfl rfl (by unfold vp_in; decide) dX9_litBy_12 ?_
    refine lv_topi (fun z_1 ez_1 => ?_)
    have iz_1 : 0 ≤ z_1.toInt ∧ z_1.toInt ≤ 16 := by rw [ez_1]; exact rd0 pa0 (by decide) rfl
    have nz_1 : z_1.toInt = ((a0) 0).toInt := by rw [ez_1]; rfl
    refine lv_icmp_ge (tgt := 44) hx hb dX9_litBy_13 (by decide) (fun c_2 => ?_) (fun c_2 => ?_)
    · have ic_2 : z_1.toInt ≤ ((k9_5 : Nat) : Int) := ile c_2 (rfl) (nI_toInt (by omega))
      refine lv_iload_n hx hb dX9_litBy_44 rfl (lv_at hl 1 rfl) ?_
      exact x_iret hx hb hr hlk hP hD hS [0, 1] (()) rfl (by decide) trivial (by decide) (by decide) dX9_litBy_45
    · have ic_2 : ((k9_5 : Nat) : Int) < z_1.toInt := inle c_2 (rfl) (nI_toInt (by omega))
      refine lv_iload_n hx hb dX9_litBy_16 rfl (lv_at hl 1 rfl) ?_
      refine lv_aload_n hx hb dX9_litBy_17 rfl (lv_at hl 2 rfl) ?_
      refine lv_iload_n hx hb dX9_litBy_18 rfl (lv_at hl 3 rfl) ?_
      refine lv_iload hx hb dX9_litBy_19 (lv_at hl 0 rfl) ?_
      refine lv_iload_n hx hb dX9_litBy_21 rfl (lv_at hl 4 rfl) ?_
      refine xk_i (wr := []) (xr_V (n := 3) (As := [.int x, .int (nI k9_5), .int y]) (rest := [.int x9_5_3]) ⟨hx, hb, hml, hown, htg⟩ hK hN hP hD hS hA [0, 1] rfl (by decide) (m_lightBy l D cT _ (h0) (g) (b0) (b5) (b6) (b7) (b8) (b9) (b10) (b11) (b12) (b13) (b14) (b17) (b18) (b19) (b23) (b24) (b25) (b26) (b27) (b29) (b31) (b32) (b33) (by first | assumption | omega | decide | exact Or.inl (by decide) | (intro h9; exact absurd h9 (by decide)) | (intro _; omega) | (intro _; assumption) | (intro _; decide)) (a0) (by first | assumption | omega | decide | exact Or.inl (by decide) | (intro h9; exact absurd h9 (by decide)) | (intro _; omega) | (intro _; assumption) | (intro _; decide)) (x) ((nI k9_5)) (y) (by first | assumption | omega | decide | exact Or.inl (by decide) | (intro h9; exact absurd h9 (by decide)) | (intro _; omega) | (intro _; assumption) | (intro _; decide)) (by first | assumption | omega | decide | exact Or.inl (by decide) | (intro h9; exact absurd h9 (by decide)) | (intro _; omega) | (intro _; assumption) | (intro _; decide))) wi_1347 wi_1349 wi_92 wi_131 wi_1350 rfl rfl rfl ⟨rfl, by decide +kernel⟩ ⟨Nat.le_of_ble_eq_true rfl, Nat.le_of_ble_eq_true rfl⟩ rfl hl.1 rfl (Nat.le_of_ble_eq_true rfl) dX9_litBy_22 ⟨Nat.le_of_ble_eq_true rfl, Nat.le_of_ble_eq_true rfl⟩) hP hD hS hA [0, 1] [] rfl rfl (by decide) (by decide) (fun r_4 u_3 H locs hwr_4 hP hD hS => ?_)
      obtain ⟨hP, hD⟩ : PD D A [(sw_9 h0 g b0 b5 b6 b7 b8 b9 b10 b11 b12 b13 b14 b17 b18 b19 b23 b24 b25 b26 b27 b29 b31 b32 b33), (sw_in cT (g 0) 288 a0)] _ := ⟨hP, hD⟩
      refine lv_if_le (tgt := 35) hx hb dX9_litBy_25 (by decide) (fun c_5 => ?_) (fun c_5 => ?_)
      · have ic_5 : r_4.toInt ≤ 0 := ile c_5 (rfl) (by decide)
        refine lv_iconst (v := 0) hx hb dX9_litBy_35 (by decide) ?_
        refine lv_ior hx hb dX9_litBy_36 ?_
        refine lv_topi (fun z_6 ez_6 => ?_)
        refine lv_istore_n (lv' := [(3, .int z_6), (4, .int (nI k9_5)), (0, .ref h0), (1, .int x), (2, .int y)]) hx hb dX9_litBy_37 rfl hl (by decide) rfl (fun ls hl => ?_)
        refine lv_iinc (v := (nI (k9_5 + 1))) (lv' := [(4, .int (nI (k9_5 + 1))), (3, .int z_6), (0, .ref h0), (1, .int x), (2, .int y)]) hx hb dX9_litBy_38 hl (k := 1) rfl (by exact nI_1 (k9_5)) (by decide) rfl (fun ls hl => ?_)
        refine lv_goto (tgt := 5) hx hb dX9_litBy_41 (by decide) ?_
        exact ih_5 (k9_5 + 1) _ _ _ _ (by omega) (by omega)  ⟨hP.sub [0, 1] rfl, hD.sub [0, 1] (by decide) rfl⟩ hS (lv_sub hl [0, 1, 2, 3, 4] rfl)
      · have ic_5 : 0 < r_4.toInt := inle c_5 (rfl) (by decide)
        refine lv_iconst (v := 1) hx hb dX9_litBy_28 (by decide) ?_
        refine lv_iload hx hb dX9_litBy_29 (lv_at hl 0 rfl) ?_
        refine lv_ishl hx hb dX9_litBy_31 ?_
        refine lv_topi (fun z_7 ez_7 => ?_)
        refine lv_goto (tgt := 36) hx hb dX9_litBy_32 (by decide) ?_
        refine lv_ior hx hb dX9_litBy_36 ?_
        refine lv_topi (fun z_8 ez_8 => ?_)
        refine lv_istore_n (lv' := [(3, .int z_8), (4, .int (nI k9_5)), (0, .ref h0), (1, .int x), (2, .int y)]) hx hb dX9_litBy_37 rfl hl (by decide) rfl (fun ls hl => ?_)
        refine lv_iinc (v := (nI (k9_5 + 1))) (lv' := [(4, .int (nI (k9_5 + 1))), (3, .int z_8), (0, .ref h0), (1, .int x), (2, .int y)]) hx hb dX9_litBy_38 hl (k := 1) rfl (by exact nI_1 (k9_5)) (by decide) rfl (fun ls hl => ?_)
        refine lv_goto (tgt := 5) hx hb dX9_litBy_41 (by decide) ?_
        exact ih_5 (k9_5 + 1) _ _ _ _ (by omega) (by omega)  ⟨hP.sub [0, 1] rfl, hD.sub [0, 1] (by decide) rfl⟩ hS (lv_sub hl [0, 1, 2, 3, 4] rfl)
set_option maxHeartbeats 4000000 in
set_option maxRecDepth 100000 in
theorem m_lit (l : Launch) (D : va_G) (cT : Nat → ClassId) (sz : Nat) (h0 : Nat) (g : Nat → Nat) (b0 : Int32) (b5 : Int32) (b6 : Int32) (b7 : Int32) (b8 : Int32) (b9 : Int32) (b10 : Int32) (b11 : Int32) (b12 : Int32) (b13 : Int32) (b14 : Int32) (b17 : Int32) (b18 : Int32) (b19 : Int32) (b23 : Int32) (b24 : Int32) (b25 : Int32) (b26 : Int32) (b27 : Int32) (b29 : Int32) (b31 : Int32) (b32 : Int32) (b33 : Int32) (hb5 : 0 ≤ b5.toInt ∧ b5.toInt ≤ 900) (a0 : Nat → Int32) (pa0 : PI 288 a0) (x : Int32) : Met l yX9_lit (wsc yX9_lit cX9_lit 2 (some .int)) { frames := 6, cells := 0, slots := 0, locals := 194 } (va_Pc [.ref h0, .int x] (PX D cT sz [(sw_9 h0 g b0 b5 b6 b7 b8 b9 b10 b11 b12 b13 b14 b17 b18 b19 b23 b24 b25 b26 b27 b29 b31 b32 b33), (sw_in cT (g 0) 288 a0)])) (va_Qi (fun (r : Int32) (u : Int32) => (True)) (fun u t => RW D (va_A [(sw_9 h0 g b0 b5 b6 b7 b8 b9 b10 b11 b12 b13 b14 b17 b18 b19 b23 b24 b25 b26 b27 b29 b31 b32 b33), (sw_in cT (g 0) 288 a0)] sz) ((fun u : Int32 => [(sw_9 h0 g u b5 b6 b7 b8 b9 b10 b11 b12 b13 b14 b17 b18 b19 b23 b24 b25 b26 b27 b29 b31 b32 b33), (sw_in cT (g 0) 288 a0)]) u) t) (va_A [(sw_9 h0 g b0 b5 b6 b7 b8 b9 b10 b11 b12 b13 b14 b17 b18 b19 b23 b24 b25 b26 b27 b29 b31 b32 b33), (sw_in cT (g 0) 288 a0)] sz)) 0 0 (va_A [(sw_9 h0 g b0 b5 b6 b7 b8 b9 b10 b11 b12 b13 b14 b17 b18 b19 b23 b24 b25 b26 b27 b29 b31 b32 b33), (sw_in cT (g 0) 288 a0)] sz) := by
  refine m_of (y := yX9_lit) (cc := cX9_lit) (nL := 2) (ret := (some .int)) (D := D) (cT := cT) (av := [.ref h0, .int x]) (wi := [(sw_9 h0 g b0 b5 b6 b7 b8 b9 b10 b11 b12 b13 b14 b17 b18 b19 b23 b24 b25 b26 b27 b29 b31 b32 b33), (sw_in cT (g 0) 288 a0)]) (fun A => va_Qi (fun (r : Int32) (u : Int32) => (True)) (fun u t => RW D A ((fun u : Int32 => [(sw_9 h0 g u b5 b6 b7 b8 b9 b10 b11 b12 b13 b14 b17 b18 b19 b23 b24 b25 b26 b27 b29 b31 b32 b33), (sw_in cT (g 0) 288 a0)]) u) t) A) (by decide) (Nat.le_of_ble_eq_true rfl) ?_
  intro p e s m below meth c A hx hb hml hown htg hK hN hr hlk hnm hsz hP hD hS hA ls hl
  have hown : s.vm.findClass RX9 = some m.cls := hown
  have hl : lv_has ls 2 [(0, .ref h0), (1, .int x)] := hl
  have tc_m2 : ((-2) : Int32).toInt = (-2) := by decide
  have tc_0 : (0 : Int32).toInt = 0 := by decide
  have tc_3 : (3 : Int32).toInt = 3 := by decide
  refine lv_aload_n hx hb dX9_lit_0 rfl (lv_at hl 0 rfl) ?_
  refine lv_iconst (v := 0) hx hb dX9_lit_1 (by decide) ?_
  refine va_put (D := D) (ci := 9) (v := .int 0) (ty := .int) (C := RX9) (T := TX9) (N := 37) hx hb htg gRX9 tyX9 tyX9_ok nmX9 hown hK hP hD hS 0 rfl rfl 0 (by decide) (htg _ wi_1150) (fun _ h9 => h9) rfl (by decide +kernel) rfl rfl (Nat.le_of_ble_eq_true rfl) dX9_lit_2 (fun H locs hP hD hS => ?_)
  obtain ⟨hP, hD⟩ : PD D A [(sw_9 h0 g 0 b5 b6 b7 b8 b9 b10 b11 b12 b13 b14 b17 b18 b19 b23 b24 b25 b26 b27 b29 b31 b32 b33), (sw_in cT (g 0) 288 a0)] _ := ⟨hP, hD⟩
  refine lv_aload_n hx hb dX9_lit_5 rfl (lv_at hl 0 rfl) ?_
  refine lv_iload_n hx hb dX9_lit_6 rfl (lv_at hl 1 rfl) ?_
  refine xk_i (wr := []) (xr_V (n := 1) (As := [.int x]) (rest := []) ⟨hx, hb, hml, hown, htg⟩ hK hN hP hD hS hA [0, 1] rfl (by decide) (m_isStrip l D cT _ (h0) (g) (0) (b5) (b6) (b7) (b8) (b9) (b10) (b11) (b12) (b13) (b14) (b17) (b18) (b19) (b23) (b24) (b25) (b26) (b27) (b29) (b31) (b32) (b33) (by first | assumption | omega | decide | exact Or.inl (by decide) | (intro h9; exact absurd h9 (by decide)) | (intro _; omega) | (intro _; assumption) | (intro _; decide)) (a0) (by first | assumption | omega | decide | exact Or.inl (by decide) | (intro h9; exact absurd h9 (by decide)) | (intro _; omega) | (intro _; assumption) | (intro _; decide)) (x)) wi_1338 wi_1340 wi_90 wi_131 wi_1341 rfl rfl rfl ⟨rfl, by decide +kernel⟩ ⟨Nat.le_of_ble_eq_true rfl, Nat.le_of_ble_eq_true rfl⟩ rfl hl.1 rfl (Nat.le_of_ble_eq_true rfl) dX9_lit_7 ⟨Nat.le_of_ble_eq_true rfl, Nat.le_of_ble_eq_true rfl⟩) hP hD hS hA [0, 1] [] rfl rfl (by decide) (by decide) (fun r_2 u_1 H locs hwr_2 hP hD hS => ?_)
  obtain ⟨hP, hD⟩ : PD D A [(sw_9 h0 g 0 b5 b6 b7 b8 b9 b10 b11 b12 b13 b14 b17 b18 b19 b23 b24 b25 b26 b27 b29 b31 b32 b33), (sw_in cT (g 0) 288 a0)] _ := ⟨hP, hD⟩
  have qr_2_0 : Imp (¬ r_2.toInt = 0) (0 ≤ x.toInt ∧ x.toInt ≤ 15) := hwr_2.1
  refine lv_if_eq (tgt := 27) hx hb dX9_lit_10 (by decide) (fun c_3 => ?_) (fun c_3 => ?_)
  · have ic_3 : r_2.toInt = 0 := ieq c_3 (rfl) (by decide)
    refine lv_bipush (v := (-2)) hx hb dX9_lit_27 (by decide) ?_
    exact x_iret hx hb hr hlk hP hD hS [0, 1] ((0)) rfl (by decide) trivial (by decide) (by decide) dX9_lit_29
  · have ic_3 : ¬ r_2.toInt = 0 := ine c_3 (rfl) (by decide)
    have kqr_2_0 : 0 ≤ x.toInt ∧ x.toInt ≤ 15 := qr_2_0 ic_3
    refine lv_aload_n hx hb dX9_lit_13 rfl (lv_at hl 0 rfl) ?_
    refine lv_iload_n hx hb dX9_lit_14 rfl (lv_at hl 1 rfl) ?_
    refine lv_aload_n hx hb dX9_lit_15 rfl (lv_at hl 0 rfl) ?_
    refine va_get (D := D) (ci := 9) (v := .ref (g 0)) (C := RX9) (T := TX9) (N := 37) hx hb htg gRX9 hown hK hP 0 rfl rfl 1 (by decide) (htg _ wi_1151) (fun _ h9 => h9) rfl dX9_lit_16 ?_
    refine lv_iconst (v := 3) hx hb dX9_lit_19 (by decide) ?_
    refine va_iald hx hb hK hP 1 0 rfl rfl (by unfold vp_in; decide) dX9_lit_20 ?_
    refine lv_topi (fun z_4 ez_4 => ?_)
    refine xk_i (wr := []) (xr_V (n := 2) (As := [.int x, .int z_4]) (rest := []) ⟨hx, hb, hml, hown, htg⟩ hK hN hP hD hS hA [0, 1] rfl (by decide) (m_litBy l D cT _ (h0) (g) (0) (b5) (b6) (b7) (b8) (b9) (b10) (b11) (b12) (b13) (b14) (b17) (b18) (b19) (b23) (b24) (b25) (b26) (b27) (b29) (b31) (b32) (b33) (by first | assumption | omega | decide | exact Or.inl (by decide) | (intro h9; exact absurd h9 (by decide)) | (intro _; omega) | (intro _; assumption) | (intro _; decide)) (a0) (by first | assumption | omega | decide | exact Or.inl (by decide) | (intro h9; exact absurd h9 (by decide)) | (intro _; omega) | (intro _; assumption) | (intro _; decide)) (x) (z_4) (by first | assumption | omega | decide | exact Or.inl (by decide) | (intro h9; exact absurd h9 (by decide)) | (intro _; omega) | (intro _; assumption) | (intro _; decide))) wi_1383 wi_1385 wi_97 wi_131 wi_1386 rfl rfl rfl ⟨rfl, by decide +kernel⟩ ⟨Nat.le_of_ble_eq_true rfl, Nat.le_of_ble_eq_true rfl⟩ rfl hl.1 rfl (Nat.le_of_ble_eq_true rfl) dX9_lit_21 ⟨Nat.le_of_ble_eq_true rfl, Nat.le_of_ble_eq_true rfl⟩) hP hD hS hA [0, 1] [] rfl rfl (by decide) (by decide) (fun r_6 u_5 H locs hwr_6 hP hD hS => ?_)
    obtain ⟨hP, hD⟩ : PD D A [(sw_9 h0 g 0 b5 b6 b7 b8 b9 b10 b11 b12 b13 b14 b17 b18 b19 b23 b24 b25 b26 b27 b29 b31 b32 b33), (sw_in cT (g 0) 288 a0)] _ := ⟨hP, hD⟩
    refine lv_goto (tgt := 29) hx hb dX9_lit_24 (by decide) ?_
    exact x_iret hx hb hr hlk hP hD hS [0, 1] ((0)) rfl (by decide) trivial (by decide) (by decide) dX9_lit_29
set_option maxHeartbeats 4000000 in
set_option maxRecDepth 100000 in
theorem m_shaded (l : Launch) (D : va_G) (cT : Nat → ClassId) (sz : Nat) (h0 : Nat) (g : Nat → Nat) (b0 : Int32) (b5 : Int32) (b6 : Int32) (b7 : Int32) (b8 : Int32) (b9 : Int32) (b10 : Int32) (b11 : Int32) (b12 : Int32) (b13 : Int32) (b14 : Int32) (b17 : Int32) (b18 : Int32) (b19 : Int32) (b23 : Int32) (b24 : Int32) (b25 : Int32) (b26 : Int32) (b27 : Int32) (b29 : Int32) (b31 : Int32) (b32 : Int32) (b33 : Int32) (hb5 : 0 ≤ b5.toInt ∧ b5.toInt ≤ 900) (a0 : Nat → Int32) (pa0 : PI 288 a0) (x : Int32) : Met l yX9_shaded (wsc yX9_shaded cX9_shaded 4 (some .int)) { frames := 4, cells := 0, slots := 0, locals := 147 } (va_Pc [.ref h0, .int x] (PX D cT sz [(sw_9 h0 g b0 b5 b6 b7 b8 b9 b10 b11 b12 b13 b14 b17 b18 b19 b23 b24 b25 b26 b27 b29 b31 b32 b33), (sw_in cT (g 0) 288 a0)])) (va_Qi (fun (r : Int32) (u : Int32) => (True)) (fun u t => RW D (va_A [(sw_9 h0 g b0 b5 b6 b7 b8 b9 b10 b11 b12 b13 b14 b17 b18 b19 b23 b24 b25 b26 b27 b29 b31 b32 b33), (sw_in cT (g 0) 288 a0)] sz) ((fun u : Int32 => [(sw_9 h0 g u b5 b6 b7 b8 b9 b10 b11 b12 b13 b14 b17 b18 b19 b23 b24 b25 b26 b27 b29 b31 b32 b33), (sw_in cT (g 0) 288 a0)]) u) t) (va_A [(sw_9 h0 g b0 b5 b6 b7 b8 b9 b10 b11 b12 b13 b14 b17 b18 b19 b23 b24 b25 b26 b27 b29 b31 b32 b33), (sw_in cT (g 0) 288 a0)] sz)) 0 0 (va_A [(sw_9 h0 g b0 b5 b6 b7 b8 b9 b10 b11 b12 b13 b14 b17 b18 b19 b23 b24 b25 b26 b27 b29 b31 b32 b33), (sw_in cT (g 0) 288 a0)] sz) := by
  refine m_of (y := yX9_shaded) (cc := cX9_shaded) (nL := 4) (ret := (some .int)) (D := D) (cT := cT) (av := [.ref h0, .int x]) (wi := [(sw_9 h0 g b0 b5 b6 b7 b8 b9 b10 b11 b12 b13 b14 b17 b18 b19 b23 b24 b25 b26 b27 b29 b31 b32 b33), (sw_in cT (g 0) 288 a0)]) (fun A => va_Qi (fun (r : Int32) (u : Int32) => (True)) (fun u t => RW D A ((fun u : Int32 => [(sw_9 h0 g u b5 b6 b7 b8 b9 b10 b11 b12 b13 b14 b17 b18 b19 b23 b24 b25 b26 b27 b29 b31 b32 b33), (sw_in cT (g 0) 288 a0)]) u) t) A) (by decide) (Nat.le_of_ble_eq_true rfl) ?_
  intro p e s m below meth c A hx hb hml hown htg hK hN hr hlk hnm hsz hP hD hS hA ls hl
  have hown : s.vm.findClass RX9 = some m.cls := hown
  have hl : lv_has ls 4 [(0, .ref h0), (1, .int x)] := hl
  have tc_m2 : ((-2) : Int32).toInt = (-2) := by decide
  have tc_0 : (0 : Int32).toInt = 0 := by decide
  have tc_1 : (1 : Int32).toInt = 1 := by decide
  have tc_3 : (3 : Int32).toInt = 3 := by decide
  refine lv_aload_n hx hb dX9_shaded_0 rfl (lv_at hl 0 rfl) ?_
  refine lv_iconst (v := 0) hx hb dX9_shaded_1 (by decide) ?_
  refine va_put (D := D) (ci := 9) (v := .int 0) (ty := .int) (C := RX9) (T := TX9) (N := 37) hx hb htg gRX9 tyX9 tyX9_ok nmX9 hown hK hP hD hS 0 rfl rfl 0 (by decide) (htg _ wi_1150) (fun _ h9 => h9) rfl (by decide +kernel) rfl rfl (Nat.le_of_ble_eq_true rfl) dX9_shaded_2 (fun H locs hP hD hS => ?_)
  obtain ⟨hP, hD⟩ : PD D A [(sw_9 h0 g 0 b5 b6 b7 b8 b9 b10 b11 b12 b13 b14 b17 b18 b19 b23 b24 b25 b26 b27 b29 b31 b32 b33), (sw_in cT (g 0) 288 a0)] _ := ⟨hP, hD⟩
  refine lv_aload_n hx hb dX9_shaded_5 rfl (lv_at hl 0 rfl) ?_
  refine lv_iload_n hx hb dX9_shaded_6 rfl (lv_at hl 1 rfl) ?_
  refine xk_i (wr := []) (xr_V (n := 1) (As := [.int x]) (rest := []) ⟨hx, hb, hml, hown, htg⟩ hK hN hP hD hS hA [0, 1] rfl (by decide) (m_isStrip l D cT _ (h0) (g) (0) (b5) (b6) (b7) (b8) (b9) (b10) (b11) (b12) (b13) (b14) (b17) (b18) (b19) (b23) (b24) (b25) (b26) (b27) (b29) (b31) (b32) (b33) (by first | assumption | omega | decide | exact Or.inl (by decide) | (intro h9; exact absurd h9 (by decide)) | (intro _; omega) | (intro _; assumption) | (intro _; decide)) (a0) (by first | assumption | omega | decide | exact Or.inl (by decide) | (intro h9; exact absurd h9 (by decide)) | (intro _; omega) | (intro _; assumption) | (intro _; decide)) (x)) wi_1338 wi_1340 wi_90 wi_131 wi_1341 rfl rfl rfl ⟨rfl, by decide +kernel⟩ ⟨Nat.le_of_ble_eq_true rfl, Nat.le_of_ble_eq_true rfl⟩ rfl hl.1 rfl (Nat.le_of_ble_eq_true rfl) dX9_shaded_7 ⟨Nat.le_of_ble_eq_true rfl, Nat.le_of_ble_eq_true rfl⟩) hP hD hS hA [0, 1] [] rfl rfl (by decide) (by decide) (fun r_2 u_1 H locs hwr_2 hP hD hS => ?_)
  obtain ⟨hP, hD⟩ : PD D A [(sw_9 h0 g 0 b5 b6 b7 b8 b9 b10 b11 b12 b13 b14 b17 b18 b19 b23 b24 b25 b26 b27 b29 b31 b32 b33), (sw_in cT (g 0) 288 a0)] _ := ⟨hP, hD⟩
  have qr_2_0 : Imp (¬ r_2.toInt = 0) (0 ≤ x.toInt ∧ x.toInt ≤ 15) := hwr_2.1
  refine lv_if_ne (tgt := 16) hx hb dX9_shaded_10 (by decide) (fun c_3 => ?_) (fun c_3 => ?_)
  · have ic_3 : ¬ r_2.toInt = 0 := ine c_3 (rfl) (by decide)
    have kqr_2_0 : 0 ≤ x.toInt ∧ x.toInt ≤ 15 := qr_2_0 ic_3
    refine lv_iconst (v := 0) hx hb dX9_shaded_16 (by decide) ?_
    refine lv_istore_n (lv' := [(2, .int 0), (0, .ref h0), (1, .int x)]) hx hb dX9_shaded_17 rfl hl (by decide) rfl (fun ls hl => ?_)
    refine lv_iconst (v := 0) hx hb dX9_shaded_18 (by decide) ?_
    refine lv_istore_n (lv' := [(3, .int 0), (2, .int 0), (0, .ref h0), (1, .int x)]) hx hb dX9_shaded_19 rfl hl (by decide) rfl (fun ls hl => ?_)
    refine (fun (key : ∀ (n9_20 : Nat) (k9_20 : Nat) (x9_20_2 : Int32) (H : Heap) (locs : List Loc) (ls : Array Slot), (k9_20 : Int) ≤ 16 → 16 < (k9_20 : Int) + n9_20 → PD D A [(sw_9 h0 g 0 b5 b6 b7 b8 b9 b10 b11 b12 b13 b14 b17 b18 b19 b23 b24 b25 b26 b27 b29 b31 b32 b33), (sw_in cT (g 0) 288 a0)] H → va_S A s.heap H locs → lv_has ls 4 [(3, .int (nI k9_20)), (2, .int x9_20_2), (0, .ref h0), (1, .int x)] → W p l e _ s m _ below meth c H locs _ _ _ (F0 m 20 ls [])) => key (Int.toNat (16 - 0) + 1) 0 _ _ _ _ (by omega) (by omega)  ⟨hP, hD⟩ hS (lv_sub hl [0, 1, 2, 3] rfl)) ?_
    intro n9_20
    induction n9_20 with
    | zero => intro k9_20 x9_20_2 H locs ls hq1 hq2; exact absurd hq2 (by omega)
    | succ n9_20 ih_20 =>
      intro k9_20 x9_20_2 H locs ls hq1_20 hq2_20  hPD hS hl
      obtain ⟨hP, hD⟩ := hPD
      have hk9_20 : (nI k9_20).toInt = (k9_20 : Int) := nI_toInt (by omega)
      refine lv_iload_n hx hb dX9_shaded_20 rfl (lv_at hl 0 rfl) ?_
      refine lv_aload_n hx hb dX9_shaded_21 rfl (lv_at hl 2 rfl) ?_
      refine va_get (D := D) (ci := 9) (v := .ref (g 0)) (C := RX9) (T := TX9) (N := 37) hx hb htg gRX9 hown hK hP 0 rfl rfl 1 (by decide) (htg _ wi_1151) (fun _ h9 => h9) rfl dX9_shaded_22 ?_
      refine lv_iconst (v := 0) hx hb dX9_shaded_25 (by decide) ?_
      refine va_iald hx hb hK hP 1 0 rfl rfl (by unfold vp_in; decide) dX9_shaded_26 ?_
      refine lv_topi (fun z_4 ez_4 => ?_)
      have iz_4 : 0 ≤ z_4.toInt ∧ z_4.toInt ≤ 16 := by rw [ez_4]; exact rd0 pa0 (by decide) rfl
      have nz_4 : z_4.toInt = ((a0) 0).toInt := by rw [ez_4]; rfl
      refine lv_icmp_ge (tgt := 70) hx hb dX9_shaded_27 (by decide) (fun c_5 => ?_) (fun c_5 => ?_)
      · have ic_5 : z_4.toInt ≤ ((k9_20 : Nat) : Int) := ile c_5 (rfl) (nI_toInt (by omega))
        refine lv_iload_n hx hb dX9_shaded_70 rfl (lv_at hl 1 rfl) ?_
        exact x_iret hx hb hr hlk hP hD hS [0, 1] ((0)) rfl (by decide) trivial (by decide) (by decide) dX9_shaded_71
      · have ic_5 : ((k9_20 : Nat) : Int) < z_4.toInt := inle c_5 (rfl) (nI_toInt (by omega))
        refine lv_iload_n hx hb dX9_shaded_30 rfl (lv_at hl 1 rfl) ?_
        refine lv_aload_n hx hb dX9_shaded_31 rfl (lv_at hl 2 rfl) ?_
        refine lv_iload_n hx hb dX9_shaded_32 rfl (lv_at hl 3 rfl) ?_
        refine lv_iload_n hx hb dX9_shaded_33 rfl (lv_at hl 0 rfl) ?_
        refine xk_i (wr := []) (xr_V (n := 2) (As := [.int x, .int (nI k9_20)]) (rest := [.int x9_20_2]) ⟨hx, hb, hml, hown, htg⟩ hK hN hP hD hS hA [0, 1] rfl (by decide) (m_nearness l D cT _ (h0) (g) (0) (b5) (b6) (b7) (b8) (b9) (b10) (b11) (b12) (b13) (b14) (b17) (b18) (b19) (b23) (b24) (b25) (b26) (b27) (b29) (b31) (b32) (b33) (by first | assumption | omega | decide | exact Or.inl (by decide) | (intro h9; exact absurd h9 (by decide)) | (intro _; omega) | (intro _; assumption) | (intro _; decide)) (a0) (by first | assumption | omega | decide | exact Or.inl (by decide) | (intro h9; exact absurd h9 (by decide)) | (intro _; omega) | (intro _; assumption) | (intro _; decide)) (x) ((nI k9_20))) wi_1358 wi_1360 wi_94 wi_131 wi_1361 rfl rfl rfl ⟨rfl, by decide +kernel⟩ ⟨Nat.le_of_ble_eq_true rfl, Nat.le_of_ble_eq_true rfl⟩ rfl hl.1 rfl (Nat.le_of_ble_eq_true rfl) dX9_shaded_34 ⟨Nat.le_of_ble_eq_true rfl, Nat.le_of_ble_eq_true rfl⟩) hP hD hS hA [0, 1] [] rfl rfl (by decide) (by decide) (fun r_7 u_6 H locs hwr_7 hP hD hS => ?_)
        obtain ⟨hP, hD⟩ : PD D A [(sw_9 h0 g 0 b5 b6 b7 b8 b9 b10 b11 b12 b13 b14 b17 b18 b19 b23 b24 b25 b26 b27 b29 b31 b32 b33), (sw_in cT (g 0) 288 a0)] _ := ⟨hP, hD⟩
        refine lv_if_le (tgt := 61) hx hb dX9_shaded_37 (by decide) (fun c_8 => ?_) (fun c_8 => ?_)
        · have ic_8 : r_7.toInt ≤ 0 := ile c_8 (rfl) (by decide)
          refine lv_iconst (v := 0) hx hb dX9_shaded_61 (by decide) ?_
          refine lv_ior hx hb dX9_shaded_62 ?_
          refine lv_topi (fun z_9 ez_9 => ?_)
          refine lv_istore_n (lv' := [(2, .int z_9), (3, .int (nI k9_20)), (0, .ref h0), (1, .int x)]) hx hb dX9_shaded_63 rfl hl (by decide) rfl (fun ls hl => ?_)
          refine lv_iinc (v := (nI (k9_20 + 1))) (lv' := [(3, .int (nI (k9_20 + 1))), (2, .int z_9), (0, .ref h0), (1, .int x)]) hx hb dX9_shaded_64 hl (k := 1) rfl (by exact nI_1 (k9_20)) (by decide) rfl (fun ls hl => ?_)
          refine lv_goto (tgt := 20) hx hb dX9_shaded_67 (by decide) ?_
          exact ih_20 (k9_20 + 1) _ _ _ _ (by omega) (by omega)  ⟨hP.sub [0, 1] rfl, hD.sub [0, 1] (by decide) rfl⟩ hS (lv_sub hl [0, 1, 2, 3] rfl)
        · have ic_8 : 0 < r_7.toInt := inle c_8 (rfl) (by decide)
          refine lv_aload_n hx hb dX9_shaded_40 rfl (lv_at hl 2 rfl) ?_
          refine lv_iload_n hx hb dX9_shaded_41 rfl (lv_at hl 3 rfl) ?_
          refine lv_iload_n hx hb dX9_shaded_42 rfl (lv_at hl 0 rfl) ?_
          refine lv_aload_n hx hb dX9_shaded_43 rfl (lv_at hl 2 rfl) ?_
          refine va_get (D := D) (ci := 9) (v := .ref (g 0)) (C := RX9) (T := TX9) (N := 37) hx hb htg gRX9 hown hK hP 0 rfl rfl 1 (by decide) (htg _ wi_1151) (fun _ h9 => h9) rfl dX9_shaded_44 ?_
          refine lv_iconst (v := 3) hx hb dX9_shaded_47 (by decide) ?_
          refine va_iald hx hb hK hP 1 0 rfl rfl (by unfold vp_in; decide) dX9_shaded_48 ?_
          refine lv_topi (fun z_10 ez_10 => ?_)
          refine xk_i (wr := []) (xr_V (n := 3) (As := [.int x, .int (nI k9_20), .int z_10]) (rest := [.int x9_20_2]) ⟨hx, hb, hml, hown, htg⟩ hK hN hP hD hS hA [0, 1] rfl (by decide) (m_isShaded l D cT _ (h0) (g) (0) (b5) (b6) (b7) (b8) (b9) (b10) (b11) (b12) (b13) (b14) (b17) (b18) (b19) (b23) (b24) (b25) (b26) (b27) (b29) (b31) (b32) (b33) (by first | assumption | omega | decide | exact Or.inl (by decide) | (intro h9; exact absurd h9 (by decide)) | (intro _; omega) | (intro _; assumption) | (intro _; decide)) (a0) (by first | assumption | omega | decide | exact Or.inl (by decide) | (intro h9; exact absurd h9 (by decide)) | (intro _; omega) | (intro _; assumption) | (intro _; decide)) (x) ((nI k9_20)) (z_10) (by first | assumption | omega | decide | exact Or.inl (by decide) | (intro h9; exact absurd h9 (by decide)) | (intro _; omega) | (intro _; assumption) | (intro _; decide)) (by first | assumption | omega | decide | exact Or.inl (by decide) | (intro h9; exact absurd h9 (by decide)) | (intro _; omega) | (intro _; assumption) | (intro _; decide))) wi_1351 wi_1353 wi_93 wi_131 wi_1354 rfl rfl rfl ⟨rfl, by decide +kernel⟩ ⟨Nat.le_of_ble_eq_true rfl, Nat.le_of_ble_eq_true rfl⟩ rfl hl.1 rfl (Nat.le_of_ble_eq_true rfl) dX9_shaded_49 ⟨Nat.le_of_ble_eq_true rfl, Nat.le_of_ble_eq_true rfl⟩) hP hD hS hA [0, 1] [] rfl rfl (by decide) (by decide) (fun r_12 u_11 H locs hwr_12 hP hD hS => ?_)
          obtain ⟨hP, hD⟩ : PD D A [(sw_9 h0 g 0 b5 b6 b7 b8 b9 b10 b11 b12 b13 b14 b17 b18 b19 b23 b24 b25 b26 b27 b29 b31 b32 b33), (sw_in cT (g 0) 288 a0)] _ := ⟨hP, hD⟩
          refine lv_if_eq (tgt := 61) hx hb dX9_shaded_52 (by decide) (fun c_13 => ?_) (fun c_13 => ?_)
          · have ic_13 : r_12.toInt = 0 := ieq c_13 (rfl) (by decide)
            refine lv_iconst (v := 0) hx hb dX9_shaded_61 (by decide) ?_
            refine lv_ior hx hb dX9_shaded_62 ?_
            refine lv_topi (fun z_14 ez_14 => ?_)
            refine lv_istore_n (lv' := [(2, .int z_14), (3, .int (nI k9_20)), (0, .ref h0), (1, .int x)]) hx hb dX9_shaded_63 rfl hl (by decide) rfl (fun ls hl => ?_)
            refine lv_iinc (v := (nI (k9_20 + 1))) (lv' := [(3, .int (nI (k9_20 + 1))), (2, .int z_14), (0, .ref h0), (1, .int x)]) hx hb dX9_shaded_64 hl (k := 1) rfl (by exact nI_1 (k9_20)) (by decide) rfl (fun ls hl => ?_)
            refine lv_goto (tgt := 20) hx hb dX9_shaded_67 (by decide) ?_
            exact ih_20 (k9_20 + 1) _ _ _ _ (by omega) (by omega)  ⟨hP.sub [0, 1] rfl, hD.sub [0, 1] (by decide) rfl⟩ hS (lv_sub hl [0, 1, 2, 3] rfl)
          · have ic_13 : ¬ r_12.toInt = 0 := ine c_13 (rfl) (by decide)
            refine lv_iconst (v := 1) hx hb dX9_shaded_55 (by decide) ?_
            refine lv_iload_n hx hb dX9_shaded_56 rfl (lv_at hl 0 rfl) ?_
            refine lv_ishl hx hb dX9_shaded_57 ?_
            refine lv_topi (fun z_15 ez_15 => ?_)
            refine lv_goto (tgt := 62) hx hb dX9_shaded_58 (by decide) ?_
            refine lv_ior hx hb dX9_shaded_62 ?_
            refine lv_topi (fun z_16 ez_16 => ?_)
            refine lv_istore_n (lv' := [(2, .int z_16), (3, .int (nI k9_20)), (0, .ref h0), (1, .int x)]) hx hb dX9_shaded_63 rfl hl (by decide) rfl (fun ls hl => ?_)
            refine lv_iinc (v := (nI (k9_20 + 1))) (lv' := [(3, .int (nI (k9_20 + 1))), (2, .int z_16), (0, .ref h0), (1, .int x)]) hx hb dX9_shaded_64 hl (k := 1) rfl (by exact nI_1 (k9_20)) (by decide) rfl (fun ls hl => ?_)
            refine lv_goto (tgt := 20) hx hb dX9_shaded_67 (by decide) ?_
            exact ih_20 (k9_20 + 1) _ _ _ _ (by omega) (by omega)  ⟨hP.sub [0, 1] rfl, hD.sub [0, 1] (by decide) rfl⟩ hS (lv_sub hl [0, 1, 2, 3] rfl)
  · have ic_3 : r_2.toInt = 0 := ieq c_3 (rfl) (by decide)
    refine lv_bipush (v := (-2)) hx hb dX9_shaded_13 (by decide) ?_
    exact x_iret hx hb hr hlk hP hD hS [0, 1] ((0)) rfl (by decide) trivial (by decide) (by decide) dX9_shaded_15
set_option maxHeartbeats 4000000 in
set_option maxRecDepth 100000 in
theorem m_isSet (l : Launch) (D : va_G) (cT : Nat → ClassId) (sz : Nat) (h0 : Nat) (g : Nat → Nat) (b0 : Int32) (b5 : Int32) (b6 : Int32) (b7 : Int32) (b8 : Int32) (b9 : Int32) (b10 : Int32) (b11 : Int32) (b12 : Int32) (b13 : Int32) (b14 : Int32) (b17 : Int32) (b18 : Int32) (b19 : Int32) (b23 : Int32) (b24 : Int32) (b25 : Int32) (b26 : Int32) (b27 : Int32) (b29 : Int32) (b31 : Int32) (b32 : Int32) (b33 : Int32) (hb5 : 0 ≤ b5.toInt ∧ b5.toInt ≤ 900) (a0 : Nat → Int32) (pa0 : PI 288 a0) (x : Int32) : Met l yX9_isSet (wsc yX9_isSet cX9_isSet 2 (some .boolean)) { frames := 3, cells := 0, slots := 0, locals := 125 } (va_Pc [.ref h0, .int x] (PX D cT sz [(sw_9 h0 g b0 b5 b6 b7 b8 b9 b10 b11 b12 b13 b14 b17 b18 b19 b23 b24 b25 b26 b27 b29 b31 b32 b33), (sw_in cT (g 0) 288 a0)])) (va_Qi (fun (r : Int32) (u : Unit) => (True)) (fun u t => RW D (va_A [(sw_9 h0 g b0 b5 b6 b7 b8 b9 b10 b11 b12 b13 b14 b17 b18 b19 b23 b24 b25 b26 b27 b29 b31 b32 b33), (sw_in cT (g 0) 288 a0)] sz) ((fun _ : Unit => [(sw_9 h0 g b0 b5 b6 b7 b8 b9 b10 b11 b12 b13 b14 b17 b18 b19 b23 b24 b25 b26 b27 b29 b31 b32 b33), (sw_in cT (g 0) 288 a0)]) u) t) (va_A [(sw_9 h0 g b0 b5 b6 b7 b8 b9 b10 b11 b12 b13 b14 b17 b18 b19 b23 b24 b25 b26 b27 b29 b31 b32 b33), (sw_in cT (g 0) 288 a0)] sz)) 0 0 (va_A [(sw_9 h0 g b0 b5 b6 b7 b8 b9 b10 b11 b12 b13 b14 b17 b18 b19 b23 b24 b25 b26 b27 b29 b31 b32 b33), (sw_in cT (g 0) 288 a0)] sz) := by
  refine m_of (y := yX9_isSet) (cc := cX9_isSet) (nL := 2) (ret := (some .boolean)) (D := D) (cT := cT) (av := [.ref h0, .int x]) (wi := [(sw_9 h0 g b0 b5 b6 b7 b8 b9 b10 b11 b12 b13 b14 b17 b18 b19 b23 b24 b25 b26 b27 b29 b31 b32 b33), (sw_in cT (g 0) 288 a0)]) (fun A => va_Qi (fun (r : Int32) (u : Unit) => (True)) (fun u t => RW D A ((fun _ : Unit => [(sw_9 h0 g b0 b5 b6 b7 b8 b9 b10 b11 b12 b13 b14 b17 b18 b19 b23 b24 b25 b26 b27 b29 b31 b32 b33), (sw_in cT (g 0) 288 a0)]) u) t) A) (by decide) (Nat.le_of_ble_eq_true rfl) ?_
  intro p e s m below meth c A hx hb hml hown htg hK hN hr hlk hnm hsz hP hD hS hA ls hl
  have hown : s.vm.findClass RX9 = some m.cls := hown
  have hl : lv_has ls 2 [(0, .ref h0), (1, .int x)] := hl
  have tc_0 : (0 : Int32).toInt = 0 := by decide
  have tc_1 : (1 : Int32).toInt = 1 := by decide
  refine lv_iload_n hx hb dX9_isSet_0 rfl (lv_at hl 1 rfl) ?_
  refine lv_i2l (v := x.toInt64) hx hb dX9_isSet_1 rfl ?_
  refine lv_lconst (v := 0) hx hb dX9_isSet_2 (by decide) ?_
  refine lv_iconst (v := 1) hx hb dX9_isSet_3 (by decide) ?_
  refine lv_aload_n hx hb dX9_isSet_4 rfl (lv_at hl 0 rfl) ?_
  refine va_get (D := D) (ci := 9) (v := .ref (g 0)) (C := RX9) (T := TX9) (N := 37) hx hb htg gRX9 hown hK hP 0 rfl rfl 1 (by decide) (htg _ wi_1151) (fun _ h9 => h9) rfl dX9_isSet_5 ?_
  refine lv_iconst (v := 0) hx hb dX9_isSet_8 (by decide) ?_
  refine va_iald hx hb hK hP 1 0 rfl rfl (by unfold vp_in; decide) dX9_isSet_9 ?_
  refine lv_topi (fun z_1 ez_1 => ?_)
  have iz_1 : 0 ≤ z_1.toInt ∧ z_1.toInt ≤ 16 := by rw [ez_1]; exact rd0 pa0 (by decide) rfl
  have nz_1 : z_1.toInt = ((a0) 0).toInt := by rw [ez_1]; rfl
  refine lv_ishl hx hb dX9_isSet_10 ?_
  refine lv_topi (fun z_2 ez_2 => ?_)
  refine lv_iconst (v := 1) hx hb dX9_isSet_11 (by decide) ?_
  refine lv_isub hx hb dX9_isSet_12 ?_
  refine lv_topi (fun z_3 ez_3 => ?_)
  refine lv_i2l (v := z_3.toInt64) hx hb dX9_isSet_13 rfl ?_
  have ilw_4 : (x.toInt64).toInt = x.toInt := i2l_i _
  have ilw_5 : (z_3.toInt64).toInt = z_3.toInt := i2l_i _
  refine xk_i (wr := [(sw_9 h0 g b0 b5 b6 b7 b8 b9 b10 b11 b12 b13 b14 b17 b18 b19 b23 b24 b25 b26 b27 b29 b31 b32 b33), (sw_in cT (g 0) 288 a0)]) (xr_S (n := 3) (As := [.long x.toInt64, .long 0, .long z_3.toInt64]) (rest := []) ⟨hx, hb, hml, hown, htg⟩ hK hN hP hD hS hA [] rfl (by decide) (m_within l D cT _ (x.toInt64) (0) (z_3.toInt64) (x.toInt) (0) (z_3.toInt) (i2l_i _) (by decide) (i2l_i _)) wi_1270 wi_1271 wi_131 wi_1272 ⟨rfl, by decide +kernel⟩ ⟨Nat.le_of_ble_eq_true rfl, Nat.le_of_ble_eq_true rfl⟩ rfl hl.1 rfl (Nat.le_of_ble_eq_true rfl) dX9_isSet_14 ⟨Nat.le_of_ble_eq_true rfl, Nat.le_of_ble_eq_true rfl⟩) hP hD hS hA [] [0, 1] rfl rfl (by decide) (by decide) (fun r_7 u_6 H locs hwr_7 hP hD hS => ?_)
  obtain ⟨hP, hD⟩ : PD D A [(sw_9 h0 g b0 b5 b6 b7 b8 b9 b10 b11 b12 b13 b14 b17 b18 b19 b23 b24 b25 b26 b27 b29 b31 b32 b33), (sw_in cT (g 0) 288 a0)] _ := ⟨hP, hD⟩
  have qr_7_0 : Imp (¬ r_7.toInt = 0) (0 ≤ x.toInt ∧ x.toInt ≤ z_3.toInt) := hwr_7.1
  have qr_7_1 : r_7 = 0 ∨ r_7 = 1 := hwr_7.2.1
  exact x_zret hx hb hr hlk hP hD hS [0, 1] (()) rfl (by decide) (zn (by assumption)) trivial (by decide) (by decide) dX9_isSet_17
