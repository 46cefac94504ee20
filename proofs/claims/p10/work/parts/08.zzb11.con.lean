set_option maxHeartbeats 4000000 in
set_option maxRecDepth 100000 in
theorem m_withinB (l : Launch) (D : va_G) (cT : Nat → ClassId) (sz : Nat) (v : Int64) (lo : Int64) (hi : Int64) (av : Int) (al : Int) (ah : Int) (ev : v.toInt = av) (el : lo.toInt = al) (eh : hi.toInt = ah) : Met l yX9_within (wsc yX9_within cX9_within 6 (some .boolean)) { frames := 2, cells := 0, slots := 0, locals := 100 } (va_Pc [.long v, .long lo, .long hi] (PX D cT sz [])) (va_Qi (fun (r : Int32) (u : Unit) => (Imp (¬ r.toInt = 0) (al ≤ av ∧ av ≤ ah)) ∧ (Imp (r.toInt = 0) (av < al ∨ ah < av)) ∧ (r = 0 ∨ r = 1) ∧ (True)) (fun u t => RW D (va_A [] sz) ((fun _ : Unit => []) u) t) (va_A [] sz)) 0 0 (va_A [] sz) := by
  refine m_of (y := yX9_within) (cc := cX9_within) (nL := 6) (ret := (some .boolean)) (D := D) (cT := cT) (av := [.long v, .long lo, .long hi]) (wi := []) (fun A => va_Qi (fun (r : Int32) (u : Unit) => (Imp (¬ r.toInt = 0) (al ≤ av ∧ av ≤ ah)) ∧ (Imp (r.toInt = 0) (av < al ∨ ah < av)) ∧ (r = 0 ∨ r = 1) ∧ (True)) (fun u t => RW D A ((fun _ : Unit => []) u) t) A) (by decide) (Nat.le_of_ble_eq_true rfl) ?_
  intro p e s m below meth c A hx hb hml hown htg hK hN hr hlk hnm hsz hP hD hS hA ls hl
  have hown : s.vm.findClass RX9 = some m.cls := hown
  have hl : lv_has ls 6 [(0, .long v), (2, .long lo), (4, .long hi)] := hl
  subst ev el eh
  have tc_0 : (0 : Int32).toInt = 0 := by decide
  have tc_1 : (1 : Int32).toInt = 1 := by decide
  refine lv_lload_n hx hb dX9_within_0 rfl (lv_at hl 0 rfl) ?_
  refine lv_lload_n hx hb dX9_within_1 rfl (lv_at hl 1 rfl) ?_
  refine W.lcmp hx hb dX9_within_2 ?_
  refine lv_if_lt (tgt := 17) hx hb dX9_within_3 (by decide) (fun c_1 => ?_) (fun c_1 => ?_)
  · have ic_1 : v.toInt < lo.toInt := lgc_lt c_1 (rfl) (rfl)
    refine lv_iconst (v := 0) hx hb dX9_within_17 (by decide) ?_
    exact x_zret hx hb hr hlk hP hD hS [] (()) rfl (by decide) rfl ⟨fun h9 => by (try dsimp only at h9 ⊢); first | omega | exact absurd h9 (by decide) | decide | assumption, fun h9 => by (try dsimp only at h9 ⊢); first | omega | exact absurd h9 (by decide) | decide | assumption, by (try dsimp only); first | assumption | omega | decide | exact Or.inl (by decide) | (intro h9; exact absurd h9 (by decide)) | (intro _; omega) | (intro _; assumption) | (intro _; decide), trivial⟩ (by decide) (by decide) dX9_within_18
  · have ic_1 : lo.toInt ≤ v.toInt := lgc_nlt c_1 (rfl) (rfl)
    refine lv_lload_n hx hb dX9_within_6 rfl (lv_at hl 0 rfl) ?_
    refine lv_lload hx hb dX9_within_7 (lv_at hl 2 rfl) ?_
    refine W.lcmp hx hb dX9_within_9 ?_
    refine lv_if_gt (tgt := 17) hx hb dX9_within_10 (by decide) (fun c_2 => ?_) (fun c_2 => ?_)
    · have ic_2 : hi.toInt < v.toInt := lgc_gt c_2 (rfl) (rfl)
      refine lv_iconst (v := 0) hx hb dX9_within_17 (by decide) ?_
      exact x_zret hx hb hr hlk hP hD hS [] (()) rfl (by decide) rfl ⟨fun h9 => by (try dsimp only at h9 ⊢); first | omega | exact absurd h9 (by decide) | decide | assumption, fun h9 => by (try dsimp only at h9 ⊢); first | omega | exact absurd h9 (by decide) | decide | assumption, by (try dsimp only); first | assumption | omega | decide | exact Or.inl (by decide) | (intro h9; exact absurd h9 (by decide)) | (intro _; omega) | (intro _; assumption) | (intro _; decide), trivial⟩ (by decide) (by decide) dX9_within_18
    · have ic_2 : v.toInt ≤ hi.toInt := lgc_ngt c_2 (rfl) (rfl)
      refine lv_iconst (v := 1) hx hb dX9_within_13 (by decide) ?_
      refine lv_goto (tgt := 18) hx hb dX9_within_14 (by decide) ?_
      exact x_zret hx hb hr hlk hP hD hS [] (()) rfl (by decide) rfl ⟨fun h9 => by (try dsimp only at h9 ⊢); first | omega | exact absurd h9 (by decide) | decide | assumption, fun h9 => by (try dsimp only at h9 ⊢); first | omega | exact absurd h9 (by decide) | decide | assumption, by (try dsimp only); first | assumption | omega | decide | exact Or.inl (by decide) | (intro h9; exact absurd h9 (by decide)) | (intro _; omega) | (intro _; assumption) | (intro _; decide), trivial⟩ (by decide) (by decide) dX9_within_18
