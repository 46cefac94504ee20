set_option maxHeartbeats 4000000 in
set_option maxRecDepth 100000 in
theorem m_then (l : Launch) (D : va_G) (cT : Nat → ClassId) (sz : Nat) (x : Int32) (v : Int64) (hx99 : -99 ≤ x.toInt ∧ x.toInt ≤ 99) : Met l yX9_then (wsc yX9_then cX9_then 3 (some .int)) { frames := 2, cells := 0, slots := 0, locals := 100 } (va_Pc [.int x, .long v] (PX D cT sz [])) (va_Qi (fun (r : Int32) (u : Unit) => ((v.toInt = 1 ∧ r.toInt = x.toInt - 1) ∨ (v.toInt = 2 ∧ r.toInt = x.toInt + 1) ∨ (¬ v.toInt = 1 ∧ ¬ v.toInt = 2 ∧ r.toInt = x.toInt)) ∧ (True)) (fun u t => RW D (va_A [] sz) ((fun _ : Unit => []) u) t) (va_A [] sz)) 0 0 (va_A [] sz) := by
  refine m_of (y := yX9_then) (cc := cX9_then) (nL := 3) (ret := (some .int)) (D := D) (cT := cT) (av := [.int x, .long v]) (wi := []) (fun A => va_Qi (fun (r : Int32) (u : Unit) => ((v.toInt = 1 ∧ r.toInt = x.toInt - 1) ∨ (v.toInt = 2 ∧ r.toInt = x.toInt + 1) ∨ (¬ v.toInt = 1 ∧ ¬ v.toInt = 2 ∧ r.toInt = x.toInt)) ∧ (True)) (fun u t => RW D A ((fun _ : Unit => []) u) t) A) (by decide) (Nat.le_of_ble_eq_true rfl) ?_
  intro p e s m below meth c A hx hb hml hown htg hK hN hr hlk hnm hsz hP hD hS hA ls hl
  have hown : s.vm.findClass RX9 = some m.cls := hown
  have hl : lv_has ls 3 [(0, .int x), (1, .long v)] := hl
  have tc_1 : (1 : Int32).toInt = 1 := by decide
  refine lv_lload_n hx hb dX9_then_0 rfl (lv_at hl 1 rfl) ?_
  refine lv_lconst (v := 1) hx hb dX9_then_1 (by decide) ?_
  refine W.lcmp hx hb dX9_then_2 ?_
  refine lv_if_ne (tgt := 12) hx hb dX9_then_3 (by decide) (fun c_1 => ?_) (fun c_1 => ?_)
  · have ic_1 : ¬ v.toInt = 1 := lgc_ne c_1 (rfl) (by decide)
    refine lv_lload_n hx hb dX9_then_12 rfl (lv_at hl 1 rfl) ?_
    refine lv_ldc2 (v := 2) hx hb hown (htg _ wi_1420) dX9_then_13 ?_
    refine W.lcmp hx hb dX9_then_16 ?_
    refine lv_if_ne (tgt := 26) hx hb dX9_then_17 (by decide) (fun c_2 => ?_) (fun c_2 => ?_)
    · have ic_2 : ¬ v.toInt = 2 := lgc_ne c_2 (rfl) (by decide)
      refine lv_iload_n hx hb dX9_then_26 rfl (lv_at hl 0 rfl) ?_
      exact x_iret hx hb hr hlk hP hD hS [] (()) rfl (by decide) ⟨by (try dsimp only); first | assumption | omega | decide | exact Or.inl (by decide) | (intro h9; exact absurd h9 (by decide)) | (intro _; omega) | (intro _; assumption) | (intro _; decide), trivial⟩ (by decide) (by decide) dX9_then_27
    · have ic_2 : v.toInt = 2 := lgc_eq c_2 (rfl) (by decide)
      refine lv_iload_n hx hb dX9_then_20 rfl (lv_at hl 0 rfl) ?_
      refine lv_iconst (v := 1) hx hb dX9_then_21 (by decide) ?_
      refine lv_iadd hx hb dX9_then_22 ?_
      refine lv_topi (fun z_3 ez_3 => ?_)
      have iz_3 : z_3.toInt = x.toInt + 1 := toInt_addI ez_3 (rfl) (by decide) (by omega)
      refine lv_goto (tgt := 27) hx hb dX9_then_23 (by decide) ?_
      exact x_iret hx hb hr hlk hP hD hS [] (()) rfl (by decide) ⟨by (try dsimp only); first | assumption | omega | decide | exact Or.inl (by decide) | (intro h9; exact absurd h9 (by decide)) | (intro _; omega) | (intro _; assumption) | (intro _; decide), trivial⟩ (by decide) (by decide) dX9_then_27
  · have ic_1 : v.toInt = 1 := lgc_eq c_1 (rfl) (by decide)
    refine lv_iload_n hx hb dX9_then_6 rfl (lv_at hl 0 rfl) ?_
    refine lv_iconst (v := 1) hx hb dX9_then_7 (by decide) ?_
    refine lv_isub hx hb dX9_then_8 ?_
    refine lv_topi (fun z_4 ez_4 => ?_)
    have iz_4 : z_4.toInt = x.toInt - 1 := toInt_subI ez_4 (rfl) (by decide) (by omega)
    refine lv_goto (tgt := 27) hx hb dX9_then_9 (by decide) ?_
    exact x_iret hx hb hr hlk hP hD hS [] (()) rfl (by decide) ⟨by (try dsimp only); first | assumption | omega | decide | exact Or.inl (by decide) | (intro h9; exact absurd h9 (by decide)) | (intro _; omega) | (intro _; assumption) | (intro _; decide), trivial⟩ (by decide) (by decide) dX9_then_27
set_option maxHeartbeats 4000000 in
set_option maxRecDepth 100000 in
theorem m_lampIn288 (l : Launch) (D : va_G) (cT : Nat → ClassId) (sz : Nat) (b : Nat) (f : Nat → Int32) : Met l yX9_lampIn (wsc yX9_lampIn cX9_lampIn 1 none) { frames := 2, cells := 0, slots := 0, locals := 100 } (va_Pc [.ref b] (PX D cT sz [(sw_in cT b 288 f)])) (va_Qv (fun (u : Unit) => True) (fun u t => RW D (va_A [(sw_in cT b 288 f)] sz) ((fun _ : Unit => [(sw_in cT b 288 (upd (upd (upd (upd (f) 2 0) 3 6) 4 6) 5 1))]) u) t) (va_A [(sw_in cT b 288 f)] sz)) 0 0 (va_A [(sw_in cT b 288 f)] sz) := by
  refine m_of (y := yX9_lampIn) (cc := cX9_lampIn) (nL := 1) (ret := none) (D := D) (cT := cT) (av := [.ref b]) (wi := [(sw_in cT b 288 f)]) (fun A => va_Qv (fun (u : Unit) => True) (fun u t => RW D A ((fun _ : Unit => [(sw_in cT b 288 (upd (upd (upd (upd (f) 2 0) 3 6) 4 6) 5 1))]) u) t) A) (by decide) (Nat.le_of_ble_eq_true rfl) ?_
  intro p e s m below meth c A hx hb hml hown htg hK hN hr hlk hnm hsz hP hD hS hA ls hl
  have hown : s.vm.findClass RX9 = some m.cls := hown
  have hl : lv_has ls 1 [(0, .ref b)] := hl
  refine lv_aload_n hx hb dX9_lampIn_0 rfl (lv_at hl 0 rfl) ?_
  refine lv_iconst (v := 2) hx hb dX9_lampIn_1 (by decide) ?_
  refine lv_iconst (v := 0) hx hb dX9_lampIn_2 (by decide) ?_
  refine va_iast hx hb hK hP hD hS 0 0 rfl rfl (by unfold vp_in; decide) dX9_lampIn_3 (fun H locs hP hD hS => ?_)
  obtain ⟨hP, hD⟩ : PD D A [(sw_in cT b 288 (upd (f) 2 0))] _ := ⟨hP, hD⟩
  refine lv_aload_n hx hb dX9_lampIn_4 rfl (lv_at hl 0 rfl) ?_
  refine lv_iconst (v := 3) hx hb dX9_lampIn_5 (by decide) ?_
  refine lv_bipush (v := 6) hx hb dX9_lampIn_6 (by decide) ?_
  refine va_iast hx hb hK hP hD hS 0 0 rfl rfl (by unfold vp_in; decide) dX9_lampIn_8 (fun H locs hP hD hS => ?_)
  obtain ⟨hP, hD⟩ : PD D A [(sw_in cT b 288 (upd (upd (f) 2 0) 3 6))] _ := ⟨hP, hD⟩
  refine lv_aload_n hx hb dX9_lampIn_9 rfl (lv_at hl 0 rfl) ?_
  refine lv_iconst (v := 4) hx hb dX9_lampIn_10 (by decide) ?_
  refine lv_bipush (v := 6) hx hb dX9_lampIn_11 (by decide) ?_
  refine va_iast hx hb hK hP hD hS 0 0 rfl rfl (by unfold vp_in; decide) dX9_lampIn_13 (fun H locs hP hD hS => ?_)
  obtain ⟨hP, hD⟩ : PD D A [(sw_in cT b 288 (upd (upd (upd (f) 2 0) 3 6) 4 6))] _ := ⟨hP, hD⟩
  refine lv_aload_n hx hb dX9_lampIn_14 rfl (lv_at hl 0 rfl) ?_
  refine lv_iconst (v := 5) hx hb dX9_lampIn_15 (by decide) ?_
  refine lv_iconst (v := 1) hx hb dX9_lampIn_16 (by decide) ?_
  refine va_iast hx hb hK hP hD hS 0 0 rfl rfl (by unfold vp_in; decide) dX9_lampIn_17 (fun H locs hP hD hS => ?_)
  obtain ⟨hP, hD⟩ : PD D A [(sw_in cT b 288 (upd (upd (upd (upd (f) 2 0) 3 6) 4 6) 5 1))] _ := ⟨hP, hD⟩
  exact x_vret hx hb hr hlk hP hD hS [0] (()) rfl (by decide) trivial (by decide) (by decide) dX9_lampIn_18
set_option maxHeartbeats 4000000 in
set_option maxRecDepth 100000 in
theorem m_lampIn96 (l : Launch) (D : va_G) (cT : Nat → ClassId) (sz : Nat) (b : Nat) (f : Nat → Int32) : Met l yX9_lampIn (wsc yX9_lampIn cX9_lampIn 1 none) { frames := 2, cells := 0, slots := 0, locals := 100 } (va_Pc [.ref b] (PX D cT sz [(sw_in cT b 96 f)])) (va_Qv (fun (u : Unit) => True) (fun u t => RW D (va_A [(sw_in cT b 96 f)] sz) ((fun _ : Unit => [(sw_in cT b 96 (upd (upd (upd (upd (f) 2 0) 3 6) 4 6) 5 1))]) u) t) (va_A [(sw_in cT b 96 f)] sz)) 0 0 (va_A [(sw_in cT b 96 f)] sz) := by
  refine m_of (y := yX9_lampIn) (cc := cX9_lampIn) (nL := 1) (ret := none) (D := D) (cT := cT) (av := [.ref b]) (wi := [(sw_in cT b 96 f)]) (fun A => va_Qv (fun (u : Unit) => True) (fun u t => RW D A ((fun _ : Unit => [(sw_in cT b 96 (upd (upd (upd (upd (f) 2 0) 3 6) 4 6) 5 1))]) u) t) A) (by decide) (Nat.le_of_ble_eq_true rfl) ?_
  intro p e s m below meth c A hx hb hml hown htg hK hN hr hlk hnm hsz hP hD hS hA ls hl
  have hown : s.vm.findClass RX9 = some m.cls := hown
  have hl : lv_has ls 1 [(0, .ref b)] := hl
  refine lv_aload_n hx hb dX9_lampIn_0 rfl (lv_at hl 0 rfl) ?_
  refine lv_iconst (v := 2) hx hb dX9_lampIn_1 (by decide) ?_
  refine lv_iconst (v := 0) hx hb dX9_lampIn_2 (by decide) ?_
  refine va_iast hx hb hK hP hD hS 0 0 rfl rfl (by unfold vp_in; decide) dX9_lampIn_3 (fun H locs hP hD hS => ?_)
  obtain ⟨hP, hD⟩ : PD D A [(sw_in cT b 96 (upd (f) 2 0))] _ := ⟨hP, hD⟩
  refine lv_aload_n hx hb dX9_lampIn_4 rfl (lv_at hl 0 rfl) ?_
  refine lv_iconst (v := 3) hx hb dX9_lampIn_5 (by decide) ?_
  refine lv_bipush (v := 6) hx hb dX9_lampIn_6 (by decide) ?_
  refine va_iast hx hb hK hP hD hS 0 0 rfl rfl (by unfold vp_in; decide) dX9_lampIn_8 (fun H locs hP hD hS => ?_)
  obtain ⟨hP, hD⟩ : PD D A [(sw_in cT b 96 (upd (upd (f) 2 0) 3 6))] _ := ⟨hP, hD⟩
  refine lv_aload_n hx hb dX9_lampIn_9 rfl (lv_at hl 0 rfl) ?_
  refine lv_iconst (v := 4) hx hb dX9_lampIn_10 (by decide) ?_
  refine lv_bipush (v := 6) hx hb dX9_lampIn_11 (by decide) ?_
  refine va_iast hx hb hK hP hD hS 0 0 rfl rfl (by unfold vp_in; decide) dX9_lampIn_13 (fun H locs hP hD hS => ?_)
  obtain ⟨hP, hD⟩ : PD D A [(sw_in cT b 96 (upd (upd (upd (f) 2 0) 3 6) 4 6))] _ := ⟨hP, hD⟩
  refine lv_aload_n hx hb dX9_lampIn_14 rfl (lv_at hl 0 rfl) ?_
  refine lv_iconst (v := 5) hx hb dX9_lampIn_15 (by decide) ?_
  refine lv_iconst (v := 1) hx hb dX9_lampIn_16 (by decide) ?_
  refine va_iast hx hb hK hP hD hS 0 0 rfl rfl (by unfold vp_in; decide) dX9_lampIn_17 (fun H locs hP hD hS => ?_)
  obtain ⟨hP, hD⟩ : PD D A [(sw_in cT b 96 (upd (upd (upd (upd (f) 2 0) 3 6) 4 6) 5 1))] _ := ⟨hP, hD⟩
  exact x_vret hx hb hr hlk hP hD hS [0] (()) rfl (by decide) trivial (by decide) (by decide) dX9_lampIn_18
