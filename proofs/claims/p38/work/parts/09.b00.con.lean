set_option maxHeartbeats 4000000 in
set_option maxRecDepth 100000 in
theorem m_cutR (l : Launch) (D : va_G) (cT : Nat → ClassId) (sz : Nat) (v : Int64) (y : Int32) : Met l yX9_cut (wsc yX9_cut cX9_cut 3 (some .long)) { frames := 2, cells := 0, slots := 0, locals := 100 } (va_Pc [.long v, .int y] (PX D cT sz [])) (va_Ql (fun (r : Int64) (u : Unit) => (r = cutL y.toInt v) ∧ (True)) (fun u t => RW D (va_A [] sz) ((fun _ : Unit => []) u) t) (va_A [] sz)) 0 0 (va_A [] sz) := by
  refine m_of (y := yX9_cut) (cc := cX9_cut) (nL := 3) (ret := (some .long)) (D := D) (cT := cT) (av := [.long v, .int y]) (wi := []) (fun A => va_Ql (fun (r : Int64) (u : Unit) => (r = cutL y.toInt v) ∧ (True)) (fun u t => RW D A ((fun _ : Unit => []) u) t) A) (by decide) (Nat.le_of_ble_eq_true rfl) ?_
  intro p e s m below meth c A hx hb hml hown htg hK hN hr hlk hnm hsz hP hD hS hA ls hl
  have hown : s.vm.findClass RX9 = some m.cls := hown
  have hl : lv_has ls 3 [(0, .long v), (2, .int y)] := hl
  have tc_1 : (1 : Int32).toInt = 1 := by decide
  have tc_2 : (2 : Int32).toInt = 2 := by decide
  refine lv_iload_n hx hb dX9_cut_0 rfl (lv_at hl 1 rfl) ?_
  refine lv_if_ne (tgt := 11) hx hb dX9_cut_1 (by decide) (fun c_1 => ?_) (fun c_1 => ?_)
  · have ic_1 : ¬ y.toInt = 0 := ine c_1 (rfl) (by decide)
    refine lv_iload_n hx hb dX9_cut_11 rfl (lv_at hl 1 rfl) ?_
    refine lv_iconst (v := 1) hx hb dX9_cut_12 (by decide) ?_
    refine lv_icmp_ne (tgt := 23) hx hb dX9_cut_13 (by decide) (fun c_2 => ?_) (fun c_2 => ?_)
    · have ic_2 : ¬ y.toInt = 1 := ine c_2 (rfl) (by decide)
      refine lv_iload_n hx hb dX9_cut_23 rfl (lv_at hl 1 rfl) ?_
      refine lv_iconst (v := 2) hx hb dX9_cut_24 (by decide) ?_
      refine lv_icmp_ne (tgt := 34) hx hb dX9_cut_25 (by decide) (fun c_3 => ?_) (fun c_3 => ?_)
      · have ic_3 : ¬ y.toInt = 2 := ine c_3 (rfl) (by decide)
        refine lv_lload_n hx hb dX9_cut_34 rfl (lv_at hl 0 rfl) ?_
        exact x_lret hx hb hr hlk hP hD hS [] (()) rfl (by decide) ⟨(by unfold cutL; (repeat (first | rw [if_pos (by omega)] | rw [if_neg (by omega)]))), trivial⟩ (by decide) (by decide) dX9_cut_35
      · have ic_3 : y.toInt = 2 := ieq c_3 (rfl) (by decide)
        refine lv_lload_n hx hb dX9_cut_28 rfl (lv_at hl 0 rfl) ?_
        obtain ⟨z_4, ez_4⟩ : ∃ w : Int32, w = v.toInt32 := ⟨_, rfl⟩
        refine lv_l2i (v := z_4) hx hb dX9_cut_29 ez_4.symm ?_
        refine lv_i2l (v := z_4.toInt64) hx hb dX9_cut_30 rfl ?_
        refine lv_goto (tgt := 35) hx hb dX9_cut_31 (by decide) ?_
        exact x_lret hx hb hr hlk hP hD hS [] (()) rfl (by decide) ⟨(by unfold cutL; (repeat (first | rw [if_pos (by omega)] | rw [if_neg (by omega)])); rw [ez_4]), trivial⟩ (by decide) (by decide) dX9_cut_35
    · have ic_2 : y.toInt = 1 := ieq c_2 (rfl) (by decide)
      refine lv_lload_n hx hb dX9_cut_16 rfl (lv_at hl 0 rfl) ?_
      obtain ⟨z_5, ez_5⟩ : ∃ w : Int32, w = v.toInt32 := ⟨_, rfl⟩
      refine lv_l2i (v := z_5) hx hb dX9_cut_17 ez_5.symm ?_
      obtain ⟨z_6, ez_6⟩ : ∃ w : Int32, w = z_5.toInt16.toInt32 := ⟨_, rfl⟩
      refine lv_i2s (v := z_6) hx hb dX9_cut_18 ez_6.symm ?_
      refine lv_i2l (v := z_6.toInt64) hx hb dX9_cut_19 rfl ?_
      refine lv_goto (tgt := 35) hx hb dX9_cut_20 (by decide) ?_
      exact x_lret hx hb hr hlk hP hD hS [] (()) rfl (by decide) ⟨(by unfold cutL; (repeat (first | rw [if_pos (by omega)] | rw [if_neg (by omega)])); rw [ez_6]; rw [ez_5]), trivial⟩ (by decide) (by decide) dX9_cut_35
  · have ic_1 : y.toInt = 0 := ieq c_1 (rfl) (by decide)
    refine lv_lload_n hx hb dX9_cut_4 rfl (lv_at hl 0 rfl) ?_
    obtain ⟨z_7, ez_7⟩ : ∃ w : Int32, w = v.toInt32 := ⟨_, rfl⟩
    refine lv_l2i (v := z_7) hx hb dX9_cut_5 ez_7.symm ?_
    obtain ⟨z_8, ez_8⟩ : ∃ w : Int32, w = z_7.toInt8.toInt32 := ⟨_, rfl⟩
    refine lv_i2b (v := z_8) hx hb dX9_cut_6 ez_8.symm ?_
    refine lv_i2l (v := z_8.toInt64) hx hb dX9_cut_7 rfl ?_
    refine lv_goto (tgt := 35) hx hb dX9_cut_8 (by decide) ?_
    exact x_lret hx hb hr hlk hP hD hS [] (()) rfl (by decide) ⟨(by unfold cutL; (repeat (first | rw [if_pos (by omega)] | rw [if_neg (by omega)])); rw [ez_8]; rw [ez_7]), trivial⟩ (by decide) (by decide) dX9_cut_35
