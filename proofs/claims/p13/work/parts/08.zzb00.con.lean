set_option maxHeartbeats 4000000 in
set_option maxRecDepth 100000 in
theorem m_within (l : Launch) (D : va_G) (cT : Nat → ClassId) (sz : Nat) (v : Int64) (lo : Int64) (hi : Int64) (av : Int) (al : Int) (ah : Int) (ev : v.toInt = av) (el : lo.toInt = al) (eh : hi.toInt = ah) : Met l yX9_within (wsc yX9_within cX9_within 6 (some .boolean)) { frames := 2, cells := 0, slots := 0, locals := 100 } (va_Pc [.long v, .long lo, .long hi] (PX D cT sz [])) (va_Qi (fun (r : Int32) (u : Unit) => (Imp (¬ r.toInt = 0) (al ≤ av ∧ av ≤ ah)) ∧ (r = 0 ∨ r = 1) ∧ (True)) (fun u t => RW D (va_A [] sz) ((fun _ : Unit => []) u) t) (va_A [] sz)) 0 0 (va_A [] sz) := by
  refine m_of (y := yX9_within) (cc := cX9_within) (nL := 6) (ret := (some .boolean)) (D := D) (cT := cT) (av := [.long v, .long lo, .long hi]) (wi := []) (fun A => va_Qi (fun (r : Int32) (u : Unit) => (Imp (¬ r.toInt = 0) (al ≤ av ∧ av ≤ ah)) ∧ (r = 0 ∨ r = 1) ∧ (True)) (fun u t => RW D A ((fun _ : Unit => []) u) t) A) (by decide) (Nat.le_of_ble_eq_true rfl) ?_
  intro p e s m below meth c A hx hb hml hown htg hK hN hr hlk hnm hsz hP hD hS hA ls hl
  have hown : s.vm.findClass RX9 = some m.cls := hown
  have hl : lv_has ls 6 [(0, .long v), (2, .long lo), (4, .long hi)] := hl
  subst ev el eh
  have tc_0 : (0 : Int32).toInt = 0 := by decide
  have tc_1 : (1 : Int32).toInt = 1 := by decide
  refine lv_lload_n hx hb dX9_within_0 rfl (lv_at hl 0 rfl) ?_
  refine lv_lload_n hx hb dX9_within_1 rfl (lv_at hl 1 rfl) ?_
  refine W.lcmp hx hb dX9_within_2 ?_
  refine lv_if_lt (tgt := 17) hx hb dX9_within_3 (by decide) (fun c_1 => ?_) (fun c_1 => ?_)
  · have ic_1 : v.toInt < lo.toInt := lgc_lt c_1 (rfl) (rfl)
    refine lv_iconst (v := 0) hx hb dX9_within_17 (by decide) ?_
    exact x_zret hx hb hr hlk hP hD hS [] (()) rfl (by decide) rfl ⟨fun h9 => by (try dsimp only at h9 ⊢); first | omega | exact absurd h9 (by decide) | decide | assumption, by (try dsimp only); first | assumption | omega | decide | exact Or.inl (by decide) | (intro h9; exact absurd h9 (by decide)) | (intro _; omega) | (intro _; assumption) | (intro _; decide), trivial⟩ (by decide) (by decide) dX9_within_18
  · have ic_1 : lo.toInt ≤ v.toInt := lgc_nlt c_1 (rfl) (rfl)
    refine lv_lload_n hx hb dX9_within_6 rfl (lv_at hl 0 rfl) ?_
    refine lv_lload hx hb dX9_within_7 (lv_at hl 2 rfl) ?_
    refine W.lcmp hx hb dX9_within_9 ?_
    refine lv_if_gt (tgt := 17) hx hb dX9_within_10 (by decide) (fun c_2 => ?_) (fun c_2 => ?_)
    · have ic_2 : hi.toInt < v.toInt := lgc_gt c_2 (rfl) (rfl)
      refine lv_iconst (v := 0) hx hb dX9_within_17 (by decide) ?_
      exact x_zret hx hb hr hlk hP hD hS [] (()) rfl (by decide) rfl ⟨fun h9 => by (try dsimp only at h9 ⊢); first | omega | exact absurd h9 (by decide) | decide | assumption, by (try dsimp only); first | assumption | omega | decide | exact Or.inl (by decide) | (intro h9; exact absurd h9 (by decide)) | (intro _; omega) | (intro _; assumption) | (intro _; decide), trivial⟩ (by decide) (by decide) dX9_within_18
    · have ic_2 : v.toInt ≤ hi.toInt := lgc_ngt c_2 (rfl) (rfl)
      refine lv_iconst (v := 1) hx hb dX9_within_13 (by decide) ?_
      refine lv_goto (tgt := 18) hx hb dX9_within_14 (by decide) ?_
      exact x_zret hx hb hr hlk hP hD hS [] (()) rfl (by decide) rfl ⟨fun h9 => by (try dsimp only at h9 ⊢); first | omega | exact absurd h9 (by decide) | decide | assumption, by (try dsimp only); first | assumption | omega | decide | exact Or.inl (by decide) | (intro h9; exact absurd h9 (by decide)) | (intro _; omega) | (intro _; assumption) | (intro _; decide), trivial⟩ (by decide) (by decide) dX9_within_18
set_option maxHeartbeats 4000000 in
set_option maxRecDepth 100000 in
theorem m_isSmall (l : Launch) (D : va_G) (cT : Nat → ClassId) (sz : Nat) (x : Int32) : Met l yX9_isSmall (wsc yX9_isSmall cX9_isSmall 1 (some .boolean)) { frames := 2, cells := 0, slots := 0, locals := 100 } (va_Pc [.int x] (PX D cT sz [])) (va_Qi (fun (r : Int32) (u : Unit) => r = if 97 ≤ x.toInt ∧ x.toInt ≤ 122 then 1 else 0) (fun u t => RW D (va_A [] sz) ((fun _ : Unit => []) u) t) (va_A [] sz)) 0 0 (va_A [] sz) := by
  refine m_of (y := yX9_isSmall) (cc := cX9_isSmall) (nL := 1) (ret := (some .boolean)) (D := D) (cT := cT) (av := [.int x]) (wi := []) (fun A => va_Qi (fun (r : Int32) (u : Unit) => r = if 97 ≤ x.toInt ∧ x.toInt ≤ 122 then 1 else 0) (fun u t => RW D A ((fun _ : Unit => []) u) t) A) (by decide) (Nat.le_of_ble_eq_true rfl) ?_
  intro p e s m below meth c A hx hb hml hown htg hK hN hr hlk hnm hsz hP hD hS hA ls hl
  have hown : s.vm.findClass RX9 = some m.cls := hown
  have hl : lv_has ls 1 [(0, .int x)] := hl
  refine lv_iload_n hx hb dX9_isSmall_0 rfl (lv_at hl 0 rfl) ?_
  refine lv_bipush (v := 97) hx hb dX9_isSmall_1 (by decide) ?_
  refine lv_icmp_lt (tgt := 16) hx hb dX9_isSmall_3 (by decide) (fun c_1 => ?_) (fun c_1 => ?_)
  · have ic_1 : x.toInt < 97 := ilt c_1 (rfl) (by decide)
    refine lv_iconst (v := 0) hx hb dX9_isSmall_16 (by decide) ?_
    exact x_zret hx hb hr hlk hP hD hS [] (()) rfl (by decide) rfl (by first | rfl | decide | (exfalso; omega) | (try simp only [ti_0, ti_1, ti_2, ti_3, ti_4, ti_5, ti_6, ti_7, ti_8, ti_9, ti_10, ti_11, ti_12]); (repeat (first | rw [if_pos (by first | assumption | omega | trivial)] | rw [if_neg (by first | assumption | omega)]))) (by decide) (by decide) dX9_isSmall_17
  · have ic_1 : 97 ≤ x.toInt := inlt c_1 (rfl) (by decide)
    refine lv_iload_n hx hb dX9_isSmall_6 rfl (lv_at hl 0 rfl) ?_
    refine lv_bipush (v := 122) hx hb dX9_isSmall_7 (by decide) ?_
    refine lv_icmp_gt (tgt := 16) hx hb dX9_isSmall_9 (by decide) (fun c_2 => ?_) (fun c_2 => ?_)
    · have ic_2 : 122 < x.toInt := ilt c_2 (by decide) (rfl)
      refine lv_iconst (v := 0) hx hb dX9_isSmall_16 (by decide) ?_
      exact x_zret hx hb hr hlk hP hD hS [] (()) rfl (by decide) rfl (by first | rfl | decide | (exfalso; omega) | (try simp only [ti_0, ti_1, ti_2, ti_3, ti_4, ti_5, ti_6, ti_7, ti_8, ti_9, ti_10, ti_11, ti_12]); (repeat (first | rw [if_pos (by first | assumption | omega | trivial)] | rw [if_neg (by first | assumption | omega)]))) (by decide) (by decide) dX9_isSmall_17
    · have ic_2 : x.toInt ≤ 122 := inlt c_2 (by decide) (rfl)
      refine lv_iconst (v := 1) hx hb dX9_isSmall_12 (by decide) ?_
      refine lv_goto (tgt := 17) hx hb dX9_isSmall_13 (by decide) ?_
      exact x_zret hx hb hr hlk hP hD hS [] (()) rfl (by decide) rfl (by first | rfl | decide | (exfalso; omega) | (try simp only [ti_0, ti_1, ti_2, ti_3, ti_4, ti_5, ti_6, ti_7, ti_8, ti_9, ti_10, ti_11, ti_12]); (repeat (first | rw [if_pos (by first | assumption | omega | trivial)] | rw [if_neg (by first | assumption | omega)]))) (by decide) (by decide) dX9_isSmall_17
set_option maxHeartbeats 4000000 in
set_option maxRecDepth 100000 in
theorem m_isDigit (l : Launch) (D : va_G) (cT : Nat → ClassId) (sz : Nat) (x : Int32) : Met l yX9_isDigit (wsc yX9_isDigit cX9_isDigit 1 (some .boolean)) { frames := 2, cells := 0, slots := 0, locals := 100 } (va_Pc [.int x] (PX D cT sz [])) (va_Qi (fun (r : Int32) (u : Unit) => r = if 48 ≤ x.toInt ∧ x.toInt ≤ 57 then 1 else 0) (fun u t => RW D (va_A [] sz) ((fun _ : Unit => []) u) t) (va_A [] sz)) 0 0 (va_A [] sz) := by
  refine m_of (y := yX9_isDigit) (cc := cX9_isDigit) (nL := 1) (ret := (some .boolean)) (D := D) (cT := cT) (av := [.int x]) (wi := []) (fun A => va_Qi (fun (r : Int32) (u : Unit) => r = if 48 ≤ x.toInt ∧ x.toInt ≤ 57 then 1 else 0) (fun u t => RW D A ((fun _ : Unit => []) u) t) A) (by decide) (Nat.le_of_ble_eq_true rfl) ?_
  intro p e s m below meth c A hx hb hml hown htg hK hN hr hlk hnm hsz hP hD hS hA ls hl
  have hown : s.vm.findClass RX9 = some m.cls := hown
  have hl : lv_has ls 1 [(0, .int x)] := hl
  refine lv_iload_n hx hb dX9_isDigit_0 rfl (lv_at hl 0 rfl) ?_
  refine lv_bipush (v := 48) hx hb dX9_isDigit_1 (by decide) ?_
  refine lv_icmp_lt (tgt := 16) hx hb dX9_isDigit_3 (by decide) (fun c_1 => ?_) (fun c_1 => ?_)
  · have ic_1 : x.toInt < 48 := ilt c_1 (rfl) (by decide)
    refine lv_iconst (v := 0) hx hb dX9_isDigit_16 (by decide) ?_
    exact x_zret hx hb hr hlk hP hD hS [] (()) rfl (by decide) rfl (by first | rfl | decide | (exfalso; omega) | (try simp only [ti_0, ti_1, ti_2, ti_3, ti_4, ti_5, ti_6, ti_7, ti_8, ti_9, ti_10, ti_11, ti_12]); (repeat (first | rw [if_pos (by first | assumption | omega | trivial)] | rw [if_neg (by first | assumption | omega)]))) (by decide) (by decide) dX9_isDigit_17
  · have ic_1 : 48 ≤ x.toInt := inlt c_1 (rfl) (by decide)
    refine lv_iload_n hx hb dX9_isDigit_6 rfl (lv_at hl 0 rfl) ?_
    refine lv_bipush (v := 57) hx hb dX9_isDigit_7 (by decide) ?_
    refine lv_icmp_gt (tgt := 16) hx hb dX9_isDigit_9 (by decide) (fun c_2 => ?_) (fun c_2 => ?_)
    · have ic_2 : 57 < x.toInt := ilt c_2 (by decide) (rfl)
      refine lv_iconst (v := 0) hx hb dX9_isDigit_16 (by decide) ?_
      exact x_zret hx hb hr hlk hP hD hS [] (()) rfl (by decide) rfl (by first | rfl | decide | (exfalso; omega) | (try simp only [ti_0, ti_1, ti_2, ti_3, ti_4, ti_5, ti_6, ti_7, ti_8, ti_9, ti_10, ti_11, ti_12]); (repeat (first | rw [if_pos (by first | assumption | omega | trivial)] | rw [if_neg (by first | assumption | omega)]))) (by decide) (by decide) dX9_isDigit_17
    · have ic_2 : x.toInt ≤ 57 := inlt c_2 (by decide) (rfl)
      refine lv_iconst (v := 1) hx hb dX9_isDigit_12 (by decide) ?_
      refine lv_goto (tgt := 17) hx hb dX9_isDigit_13 (by decide) ?_
      exact x_zret hx hb hr hlk hP hD hS [] (()) rfl (by decide) rfl (by first | rfl | decide | (exfalso; omega) | (try simp only [ti_0, ti_1, ti_2, ti_3, ti_4, ti_5, ti_6, ti_7, ti_8, ti_9, ti_10, ti_11, ti_12]); (repeat (first | rw [if_pos (by first | assumption | omega | trivial)] | rw [if_neg (by first | assumption | omega)]))) (by decide) (by decide) dX9_isDigit_17
set_option maxHeartbeats 4000000 in
set_option maxRecDepth 100000 in
theorem m_off (l : Launch) (D : va_G) (cT : Nat → ClassId) (sz : Nat) (x : Int32) (y : Int32) : Met l yX9_off (wsc yX9_off cX9_off 2 (some .int)) { frames := 2, cells := 0, slots := 0, locals := 100 } (va_Pc [.int x, .int y] (PX D cT sz [])) (va_Qi (fun (r : Int32) (u : Unit) => (True)) (fun u t => RW D (va_A [] sz) ((fun _ : Unit => []) u) t) (va_A [] sz)) 0 0 (va_A [] sz) := by
  refine m_of (y := yX9_off) (cc := cX9_off) (nL := 2) (ret := (some .int)) (D := D) (cT := cT) (av := [.int x, .int y]) (wi := []) (fun A => va_Qi (fun (r : Int32) (u : Unit) => (True)) (fun u t => RW D A ((fun _ : Unit => []) u) t) A) (by decide) (Nat.le_of_ble_eq_true rfl) ?_
  intro p e s m below meth c A hx hb hml hown htg hK hN hr hlk hnm hsz hP hD hS hA ls hl
  have hown : s.vm.findClass RX9 = some m.cls := hown
  have hl : lv_has ls 2 [(0, .int x), (1, .int y)] := hl
  refine lv_iload_n hx hb dX9_off_0 rfl (lv_at hl 0 rfl) ?_
  refine lv_iload_n hx hb dX9_off_1 rfl (lv_at hl 1 rfl) ?_
  refine lv_icmp_le (tgt := 11) hx hb dX9_off_2 (by decide) (fun c_1 => ?_) (fun c_1 => ?_)
  · have ic_1 : x.toInt ≤ y.toInt := ile c_1 (rfl) (rfl)
    refine lv_iload_n hx hb dX9_off_11 rfl (lv_at hl 1 rfl) ?_
    refine lv_iload_n hx hb dX9_off_12 rfl (lv_at hl 0 rfl) ?_
    refine lv_isub hx hb dX9_off_13 ?_
    refine lv_topi (fun z_2 ez_2 => ?_)
    exact x_iret hx hb hr hlk hP hD hS [] (()) rfl (by decide) trivial (by decide) (by decide) dX9_off_14
  · have ic_1 : y.toInt < x.toInt := inle c_1 (rfl) (rfl)
    refine lv_iload_n hx hb dX9_off_5 rfl (lv_at hl 0 rfl) ?_
    refine lv_iload_n hx hb dX9_off_6 rfl (lv_at hl 1 rfl) ?_
    refine lv_isub hx hb dX9_off_7 ?_
    refine lv_topi (fun z_3 ez_3 => ?_)
    refine lv_goto (tgt := 14) hx hb dX9_off_8 (by decide) ?_
    exact x_iret hx hb hr hlk hP hD hS [] (()) rfl (by decide) trivial (by decide) (by decide) dX9_off_14
set_option maxHeartbeats 4000000 in
set_option maxRecDepth 100000 in
theorem m_then (l : Launch) (D : va_G) (cT : Nat → ClassId) (sz : Nat) (x : Int32) (v : Int64) (hx99 : -99 ≤ x.toInt ∧ x.toInt ≤ 99) : Met l yX9_then (wsc yX9_then cX9_then 3 (some .int)) { frames := 2, cells := 0, slots := 0, locals := 100 } (va_Pc [.int x, .long v] (PX D cT sz [])) (va_Qi (fun (r : Int32) (u : Unit) => ((v.toInt = 1 ∧ r.toInt = x.toInt - 1) ∨ (v.toInt = 2 ∧ r.toInt = x.toInt + 1) ∨ (¬ v.toInt = 1 ∧ ¬ v.toInt = 2 ∧ r.toInt = x.toInt)) ∧ (True)) (fun u t => RW D (va_A [] sz) ((fun _ : Unit => []) u) t) (va_A [] sz)) 0 0 (va_A [] sz) := by
  refine m_of (y := yX9_then) (cc := cX9_then) (nL := 3) (ret := (some .int)) (D := D) (cT := cT) (av := [.int x, .long v]) (wi := []) (fun A => va_Qi (fun (r : Int32) (u : Unit) => ((v.toInt = 1 ∧ r.toInt = x.toInt - 1) ∨ (v.toInt = 2 ∧ r.toInt = x.toInt + 1) ∨ (¬ v.toInt = 1 ∧ ¬ v.toInt = 2 ∧ r.toInt = x.toInt)) ∧ (True)) (fun u t => RW D A ((fun _ : Unit => []) u) t) A) (by decide) (Nat.le_of_ble_eq_true rfl) ?_
  intro p e s m below meth c A hx hb hml hown htg hK hN hr hlk hnm hsz hP hD hS hA ls hl
  have hown : s.vm.findClass RX9 = some m.cls := hown
  have hl : lv_has ls 3 [(0, .int x), (1, .long v)] := hl
  have tc_1 : (1 : Int32).toInt = 1 := by decide
  refine lv_lload_n hx hb dX9_then_0 rfl (lv_at hl 1 rfl) ?_
  refine lv_lconst (v := 1) hx hb dX9_then_1 (by decide) ?_
  refine W.lcmp hx hb dX9_then_2 ?_
  refine lv_if_ne (tgt := 12) hx hb dX9_then_3 (by decide) (fun c_1 => ?_) (fun c_1 => ?_)
  · have ic_1 : ¬ v.toInt = 1 := lgc_ne c_1 (rfl) (by decide)
    refine lv_lload_n hx hb dX9_then_12 rfl (lv_at hl 1 rfl) ?_
    refine lv_ldc2 (v := 2) hx hb hown (htg _ wi_1420) dX9_then_13 ?_
    refine W.lcmp hx hb dX9_then_16 ?_
    refine lv_if_ne (tgt := 26) hx hb dX9_then_17 (by decide) (fun c_2 => ?_) (fun c_2 => ?_)
    · have ic_2 : ¬ v.toInt = 2 := lgc_ne c_2 (rfl) (by decide)
      refine lv_iload_n hx hb dX9_then_26 rfl (lv_at hl 0 rfl) ?_
      exact x_iret hx hb hr hlk hP hD hS [] (()) rfl (by decide) ⟨by (try dsimp only); first | assumption | omega | decide | exact Or.inl (by decide) | (intro h9; exact absurd h9 (by decide)) | (intro _; omega) | (intro _; assumption) | (intro _; decide), trivial⟩ (by decide) (by decide) dX9_then_27
    · have ic_2 : v.toInt = 2 := lgc_eq c_2 (rfl) (by decide)
      refine lv_iload_n hx hb dX9_then_20 rfl (lv_at hl 0 rfl) ?_
      refine lv_iconst (v := 1) hx hb dX9_then_21 (by decide) ?_
      refine lv_iadd hx hb dX9_then_22 ?_
      refine lv_topi (fun z_3 ez_3 => ?_)
      have iz_3 : z_3.toInt = x.toInt + 1 := toInt_addI ez_3 (rfl) (by decide) (by omega)
      refine lv_goto (tgt := 27) hx hb dX9_then_23 (by decide) ?_
      exact x_iret hx hb hr hlk hP hD hS [] (()) rfl (by decide) ⟨by (try dsimp only); first | assumption | omega | decide | exact Or.inl (by decide) | (intro h9; exact absurd h9 (by decide)) | (intro _; omega) | (intro _; assumption) | (intro _; decide), trivial⟩ (by decide) (by decide) dX9_then_27
  · have ic_1 : v.toInt = 1 := lgc_eq c_1 (rfl) (by decide)
    refine lv_iload_n hx hb dX9_then_6 rfl (lv_at hl 0 rfl) ?_
    refine lv_iconst (v := 1) hx hb dX9_then_7 (by decide) ?_
    refine lv_isub hx hb dX9_then_8 ?_
    refine lv_topi (fun z_4 ez_4 => ?_)
    have iz_4 : z_4.toInt = x.toInt - 1 := toInt_subI ez_4 (rfl) (by decide) (by omega)
    refine lv_goto (tgt := 27) hx hb dX9_then_9 (by decide) ?_
    exact x_iret hx hb hr hlk hP hD hS [] (()) rfl (by decide) ⟨by (try dsimp only); first | assumption | omega | decide | exact Or.inl (by decide) | (intro h9; exact absurd h9 (by decide)) | (intro _; omega) | (intro _; assumption) | (intro _; decide), trivial⟩ (by decide) (by decide) dX9_then_27
set_option maxHeartbeats 4000000 in
set_option maxRecDepth 100000 in
theorem m_lampIn288 (l : Launch) (D : va_G) (cT : Nat → ClassId) (sz : Nat) (b : Nat) (f : Nat → Int32) : Met l yX9_lampIn (wsc yX9_lampIn cX9_lampIn 1 none) { frames := 2, cells := 0, slots := 0, locals := 100 } (va_Pc [.ref b] (PX D cT sz [(sw_in cT b 288 f)])) (va_Qv (fun (u : Unit) => True) (fun u t => RW D (va_A [(sw_in cT b 288 f)] sz) ((fun _ : Unit => [(sw_in cT b 288 (upd (upd (upd (upd (f) 2 0) 3 6) 4 6) 5 1))]) u) t) (va_A [(sw_in cT b 288 f)] sz)) 0 0 (va_A [(sw_in cT b 288 f)] sz) := by
  refine m_of (y := yX9_lampIn) (cc := cX9_lampIn) (nL := 1) (ret := none) (D := D) (cT := cT) (av := [.ref b]) (wi := [(sw_in cT b 288 f)]) (fun A => va_Qv (fun (u : Unit) => True) (fun u t => RW D A ((fun _ : Unit => [(sw_in cT b 288 (upd (upd (upd (upd (f) 2 0) 3 6) 4 6) 5 1))]) u) t) A) (by decide) (Nat.le_of_ble_eq_true rfl) ?_
  intro p e s m below meth c A hx hb hml hown htg hK hN hr hlk hnm hsz hP hD hS hA ls hl
  have hown : s.vm.findClass RX9 = some m.cls := hown
  have hl : lv_has ls 1 [(0, .ref b)] := hl
  refine lv_aload_n hx hb dX9_lampIn_0 rfl (lv_at hl 0 rfl) ?_
  refine lv_iconst (v := 2) hx hb dX9_lampIn_1 (by decide) ?_
  refine lv_iconst (v := 0) hx hb dX9_lampIn_2 (by decide) ?_
  refine va_iast hx hb hK hP hD hS 0 0 rfl rfl (by unfold vp_in; decide) dX9_lampIn_3 (fun H locs hP hD hS => ?_)
  obtain ⟨hP, hD⟩ : PD D A [(sw_in cT b 288 (upd (f) 2 0))] _ := ⟨hP, hD⟩
  refine lv_aload_n hx hb dX9_lampIn_4 rfl (lv_at hl 0 rfl) ?_
  refine lv_iconst (v := 3) hx hb dX9_lampIn_5 (by decide) ?_
  refine lv_bipush (v := 6) hx hb dX9_lampIn_6 (by decide) ?_
  refine va_iast hx hb hK hP hD hS 0 0 rfl rfl (by unfold vp_in; decide) dX9_lampIn_8 (fun H locs hP hD hS => ?_)
  obtain ⟨hP, hD⟩ : PD D A [(sw_in cT b 288 (upd (upd (f) 2 0) 3 6))] _ := ⟨hP, hD⟩
  refine lv_aload_n hx hb dX9_lampIn_9 rfl (lv_at hl 0 rfl) ?_
  refine lv_iconst (v := 4) hx hb dX9_lampIn_10 (by decide) ?_
  refine lv_bipush (v := 6) hx hb dX9_lampIn_11 (by decide) ?_
  refine va_iast hx hb hK hP hD hS 0 0 rfl rfl (by unfold vp_in; decide) dX9_lampIn_13 (fun H locs hP hD hS => ?_)
  obtain ⟨hP, hD⟩ : PD D A [(sw_in cT b 288 (upd (upd (upd (f) 2 0) 3 6) 4 6))] _ := ⟨hP, hD⟩
  refine lv_aload_n hx hb dX9_lampIn_14 rfl (lv_at hl 0 rfl) ?_
  refine lv_iconst (v := 5) hx hb dX9_lampIn_15 (by decide) ?_
  refine lv_iconst (v := 1) hx hb dX9_lampIn_16 (by decide) ?_
  refine va_iast hx hb hK hP hD hS 0 0 rfl rfl (by unfold vp_in; decide) dX9_lampIn_17 (fun H locs hP hD hS => ?_)
  obtain ⟨hP, hD⟩ : PD D A [(sw_in cT b 288 (upd (upd (upd (upd (f) 2 0) 3 6) 4 6) 5 1))] _ := ⟨hP, hD⟩
  exact x_vret hx hb hr hlk hP hD hS [0] (()) rfl (by decide) trivial (by decide) (by decide) dX9_lampIn_18
set_option maxHeartbeats 4000000 in
set_option maxRecDepth 100000 in
theorem m_lampIn96 (l : Launch) (D : va_G) (cT : Nat → ClassId) (sz : Nat) (b : Nat) (f : Nat → Int32) : Met l yX9_lampIn (wsc yX9_lampIn cX9_lampIn 1 none) { frames := 2, cells := 0, slots := 0, locals := 100 } (va_Pc [.ref b] (PX D cT sz [(sw_in cT b 96 f)])) (va_Qv (fun (u : Unit) => True) (fun u t => RW D (va_A [(sw_in cT b 96 f)] sz) ((fun _ : Unit => [(sw_in cT b 96 (upd (upd (upd (upd (f) 2 0) 3 6) 4 6) 5 1))]) u) t) (va_A [(sw_in cT b 96 f)] sz)) 0 0 (va_A [(sw_in cT b 96 f)] sz) := by
  refine m_of (y := yX9_lampIn) (cc := cX9_lampIn) (nL := 1) (ret := none) (D := D) (cT := cT) (av := [.ref b]) (wi := [(sw_in cT b 96 f)]) (fun A => va_Qv (fun (u : Unit) => True) (fun u t => RW D A ((fun _ : Unit => [(sw_in cT b 96 (upd (upd (upd (upd (f) 2 0) 3 6) 4 6) 5 1))]) u) t) A) (by decide) (Nat.le_of_ble_eq_true rfl) ?_
  intro p e s m below meth c A hx hb hml hown htg hK hN hr hlk hnm hsz hP hD hS hA ls hl
  have hown : s.vm.findClass RX9 = some m.cls := hown
  have hl : lv_has ls 1 [(0, .ref b)] := hl
  refine lv_aload_n hx hb dX9_lampIn_0 rfl (lv_at hl 0 rfl) ?_
  refine lv_iconst (v := 2) hx hb dX9_lampIn_1 (by decide) ?_
  refine lv_iconst (v := 0) hx hb dX9_lampIn_2 (by decide) ?_
  refine va_iast hx hb hK hP hD hS 0 0 rfl rfl (by unfold vp_in; decide) dX9_lampIn_3 (fun H locs hP hD hS => ?_)
  obtain ⟨hP, hD⟩ : PD D A [(sw_in cT b 96 (upd (f) 2 0))] _ := ⟨hP, hD⟩
  refine lv_aload_n hx hb dX9_lampIn_4 rfl (lv_at hl 0 rfl) ?_
  refine lv_iconst (v := 3) hx hb dX9_lampIn_5 (by decide) ?_
  refine lv_bipush (v := 6) hx hb dX9_lampIn_6 (by decide) ?_
  refine va_iast hx hb hK hP hD hS 0 0 rfl rfl (by unfold vp_in; decide) dX9_lampIn_8 (fun H locs hP hD hS => ?_)
  obtain ⟨hP, hD⟩ : PD D A [(sw_in cT b 96 (upd (upd (f) 2 0) 3 6))] _ := ⟨hP, hD⟩
  refine lv_aload_n hx hb dX9_lampIn_9 rfl (lv_at hl 0 rfl) ?_
  refine lv_iconst (v := 4) hx hb dX9_lampIn_10 (by decide) ?_
  refine lv_bipush (v := 6) hx hb dX9_lampIn_11 (by decide) ?_
  refine va_iast hx hb hK hP hD hS 0 0 rfl rfl (by unfold vp_in; decide) dX9_lampIn_13 (fun H locs hP hD hS => ?_)
  obtain ⟨hP, hD⟩ : PD D A [(sw_in cT b 96 (upd (upd (upd (f) 2 0) 3 6) 4 6))] _ := ⟨hP, hD⟩
  refine lv_aload_n hx hb dX9_lampIn_14 rfl (lv_at hl 0 rfl) ?_
  refine lv_iconst (v := 5) hx hb dX9_lampIn_15 (by decide) ?_
  refine lv_iconst (v := 1) hx hb dX9_lampIn_16 (by decide) ?_
  refine va_iast hx hb hK hP hD hS 0 0 rfl rfl (by unfold vp_in; decide) dX9_lampIn_17 (fun H locs hP hD hS => ?_)
  obtain ⟨hP, hD⟩ : PD D A [(sw_in cT b 96 (upd (upd (upd (upd (f) 2 0) 3 6) 4 6) 5 1))] _ := ⟨hP, hD⟩
  exact x_vret hx hb hr hlk hP hD hS [0] (()) rfl (by decide) trivial (by decide) (by decide) dX9_lampIn_18
set_option maxHeartbeats 4000000 in
set_option maxRecDepth 100000 in
theorem m_isStrip (l : Launch) (D : va_G) (cT : Nat → ClassId) (sz : Nat) (h0 : Nat) (g : Nat → Nat) (b0 : Int32) (b5 : Int32) (b6 : Int32) (b7 : Int32) (b8 : Int32) (b9 : Int32) (b10 : Int32) (b11 : Int32) (b12 : Int32) (b13 : Int32) (b14 : Int32) (b17 : Int32) (b18 : Int32) (b19 : Int32) (b23 : Int32) (b24 : Int32) (b25 : Int32) (b26 : Int32) (b27 : Int32) (b29 : Int32) (b31 : Int32) (b32 : Int32) (b33 : Int32) (hb5 : 0 ≤ b5.toInt ∧ b5.toInt ≤ 900) (a0 : Nat → Int32) (pa0 : PI 288 a0) (x : Int32) : Met l yX9_isStrip (wsc yX9_isStrip cX9_isStrip 2 (some .boolean)) { frames := 3, cells := 0, slots := 0, locals := 125 } (va_Pc [.ref h0, .int x] (PX D cT sz [(sw_9 h0 g b0 b5 b6 b7 b8 b9 b10 b11 b12 b13 b14 b17 b18 b19 b23 b24 b25 b26 b27 b29 b31 b32 b33), (sw_in cT (g 0) 288 a0)])) (va_Qi (fun (r : Int32) (u : Unit) => (Imp (¬ r.toInt = 0) (0 ≤ x.toInt ∧ x.toInt ≤ 15)) ∧ (True)) (fun u t => RW D (va_A [(sw_9 h0 g b0 b5 b6 b7 b8 b9 b10 b11 b12 b13 b14 b17 b18 b19 b23 b24 b25 b26 b27 b29 b31 b32 b33), (sw_in cT (g 0) 288 a0)] sz) ((fun _ : Unit => [(sw_9 h0 g b0 b5 b6 b7 b8 b9 b10 b11 b12 b13 b14 b17 b18 b19 b23 b24 b25 b26 b27 b29 b31 b32 b33), (sw_in cT (g 0) 288 a0)]) u) t) (va_A [(sw_9 h0 g b0 b5 b6 b7 b8 b9 b10 b11 b12 b13 b14 b17 b18 b19 b23 b24 b25 b26 b27 b29 b31 b32 b33), (sw_in cT (g 0) 288 a0)] sz)) 0 0 (va_A [(sw_9 h0 g b0 b5 b6 b7 b8 b9 b10 b11 b12 b13 b14 b17 b18 b19 b23 b24 b25 b26 b27 b29 b31 b32 b33), (sw_in cT (g 0) 288 a0)] sz) := by
  refine m_of (y := yX9_isStrip) (cc := cX9_isStrip) (nL := 2) (ret := (some .boolean)) (D := D) (cT := cT) (av := [.ref h0, .int x]) (wi := [(sw_9 h0 g b0 b5 b6 b7 b8 b9 b10 b11 b12 b13 b14 b17 b18 b19 b23 b24 b25 b26 b27 b29 b31 b32 b33), (sw_in cT (g 0) 288 a0)]) (fun A => va_Qi (fun (r : Int32) (u : Unit) => (Imp (¬ r.toInt = 0) (0 ≤ x.toInt ∧ x.toInt ≤ 15)) ∧ (True)) (fun u t => RW D A ((fun _ : Unit => [(sw_9 h0 g b0 b5 b6 b7 b8 b9 b10 b11 b12 b13 b14 b17 b18 b19 b23 b24 b25 b26 b27 b29 b31 b32 b33), (sw_in cT (g 0) 288 a0)]) u) t) A) (by decide) (Nat.le_of_ble_eq_true rfl) ?_
  intro p e s m below meth c A hx hb hml hown htg hK hN hr hlk hnm hsz hP hD hS hA ls hl
  have hown : s.vm.findClass RX9 = some m.cls := hown
  have hl : lv_has ls 2 [(0, .ref h0), (1, .int x)] := hl
  have tc_0 : (0 : Int32).toInt = 0 := by decide
  have tc_1 : (1 : Int32).toInt = 1 := by decide
  refine lv_iload_n hx hb dX9_isStrip_0 rfl (lv_at hl 1 rfl) ?_
  refine lv_i2l (v := x.toInt64) hx hb dX9_isStrip_1 rfl ?_
  refine lv_lconst (v := 0) hx hb dX9_isStrip_2 (by decide) ?_
  refine lv_aload_n hx hb dX9_isStrip_3 rfl (lv_at hl 0 rfl) ?_
  refine va_get (D := D) (ci := 9) (v := .ref (g 0)) (C := RX9) (T := TX9) (N := 37) hx hb htg gRX9 hown hK hP 0 rfl rfl 1 (by decide) (htg _ wi_1151) (fun _ h9 => h9) rfl dX9_isStrip_4 ?_
  refine lv_iconst (v := 0) hx hb dX9_isStrip_7 (by decide) ?_
  refine va_iald hx hb hK hP 1 0 rfl rfl (by unfold vp_in; decide) dX9_isStrip_8 ?_
  refine lv_topi (fun z_1 ez_1 => ?_)
  have iz_1 : 0 ≤ z_1.toInt ∧ z_1.toInt ≤ 16 := by rw [ez_1]; exact rd0 pa0 (by decide) rfl
  have nz_1 : z_1.toInt = ((a0) 0).toInt := by rw [ez_1]; rfl
  refine lv_iconst (v := 1) hx hb dX9_isStrip_9 (by decide) ?_
  refine lv_isub hx hb dX9_isStrip_10 ?_
  refine lv_topi (fun z_2 ez_2 => ?_)
  have iz_2 : z_2.toInt = z_1.toInt - 1 := toInt_subI ez_2 (rfl) (by decide) (by omega)
  refine lv_i2l (v := z_2.toInt64) hx hb dX9_isStrip_11 rfl ?_
  have ilw_3 : (x.toInt64).toInt = x.toInt := i2l_i _
  have ilw_4 : (z_2.toInt64).toInt = z_2.toInt := i2l_i _
  refine xk_i (wr := [(sw_9 h0 g b0 b5 b6 b7 b8 b9 b10 b11 b12 b13 b14 b17 b18 b19 b23 b24 b25 b26 b27 b29 b31 b32 b33), (sw_in cT (g 0) 288 a0)]) (xr_S (n := 3) (As := [.long x.toInt64, .long 0, .long z_2.toInt64]) (rest := []) ⟨hx, hb, hml, hown, htg⟩ hK hN hP hD hS hA [] rfl (by decide) (m_within l D cT _ (x.toInt64) (0) (z_2.toInt64) (x.toInt) (0) (z_2.toInt) (i2l_i _) (by decide) (i2l_i _)) wi_1270 wi_1271 wi_131 wi_1272 ⟨rfl, by decide +kernel⟩ ⟨Nat.le_of_ble_eq_true rfl, Nat.le_of_ble_eq_true rfl⟩ rfl hl.1 rfl (Nat.le_of_ble_eq_true rfl) dX9_isStrip_12 ⟨Nat.le_of_ble_eq_true rfl, Nat.le_of_ble_eq_true rfl⟩) hP hD hS hA [] [0, 1] rfl rfl (by decide) (by decide) (fun r_6 u_5 H locs hwr_6 hP hD hS => ?_)
  obtain ⟨hP, hD⟩ : PD D A [(sw_9 h0 g b0 b5 b6 b7 b8 b9 b10 b11 b12 b13 b14 b17 b18 b19 b23 b24 b25 b26 b27 b29 b31 b32 b33), (sw_in cT (g 0) 288 a0)] _ := ⟨hP, hD⟩
  have qr_6_0 : Imp (¬ r_6.toInt = 0) (0 ≤ x.toInt ∧ x.toInt ≤ z_2.toInt) := hwr_6.1
  have qr_6_1 : r_6 = 0 ∨ r_6 = 1 := hwr_6.2.1
  exact x_zret hx hb hr hlk hP hD hS [0, 1] (()) rfl (by decide) (zn (by assumption)) ⟨fun h9 => by (try dsimp only at h9 ⊢); have kqr_6_0 : 0 ≤ x.toInt ∧ x.toInt ≤ z_2.toInt := qr_6_0 h9; first | omega | exact absurd h9 (by decide) | decide | assumption, trivial⟩ (by decide) (by decide) dX9_isStrip_15
set_option maxHeartbeats 4000000 in
set_option maxRecDepth 100000 in
theorem m_nearness (l : Launch) (D : va_G) (cT : Nat → ClassId) (sz : Nat) (h0 : Nat) (g : Nat → Nat) (b0 : Int32) (b5 : Int32) (b6 : Int32) (b7 : Int32) (b8 : Int32) (b9 : Int32) (b10 : Int32) (b11 : Int32) (b12 : Int32) (b13 : Int32) (b14 : Int32) (b17 : Int32) (b18 : Int32) (b19 : Int32) (b23 : Int32) (b24 : Int32) (b25 : Int32) (b26 : Int32) (b27 : Int32) (b29 : Int32) (b31 : Int32) (b32 : Int32) (b33 : Int32) (hb5 : 0 ≤ b5.toInt ∧ b5.toInt ≤ 900) (a0 : Nat → Int32) (pa0 : PI 288 a0) (x : Int32) (y : Int32) : Met l yX9_nearness (wsc yX9_nearness cX9_nearness 4 (some .int)) { frames := 3, cells := 0, slots := 0, locals := 121 } (va_Pc [.ref h0, .int x, .int y] (PX D cT sz [(sw_9 h0 g b0 b5 b6 b7 b8 b9 b10 b11 b12 b13 b14 b17 b18 b19 b23 b24 b25 b26 b27 b29 b31 b32 b33), (sw_in cT (g 0) 288 a0)])) (va_Qi (fun (r : Int32) (u : Unit) => (True)) (fun u t => RW D (va_A [(sw_9 h0 g b0 b5 b6 b7 b8 b9 b10 b11 b12 b13 b14 b17 b18 b19 b23 b24 b25 b26 b27 b29 b31 b32 b33), (sw_in cT (g 0) 288 a0)] sz) ((fun _ : Unit => [(sw_9 h0 g b0 b5 b6 b7 b8 b9 b10 b11 b12 b13 b14 b17 b18 b19 b23 b24 b25 b26 b27 b29 b31 b32 b33), (sw_in cT (g 0) 288 a0)]) u) t) (va_A [(sw_9 h0 g b0 b5 b6 b7 b8 b9 b10 b11 b12 b13 b14 b17 b18 b19 b23 b24 b25 b26 b27 b29 b31 b32 b33), (sw_in cT (g 0) 288 a0)] sz)) 0 0 (va_A [(sw_9 h0 g b0 b5 b6 b7 b8 b9 b10 b11 b12 b13 b14 b17 b18 b19 b23 b24 b25 b26 b27 b29 b31 b32 b33), (sw_in cT (g 0) 288 a0)] sz) := by
  refine m_of (y := yX9_nearness) (cc := cX9_nearness) (nL := 4) (ret := (some .int)) (D := D) (cT := cT) (av := [.ref h0, .int x, .int y]) (wi := [(sw_9 h0 g b0 b5 b6 b7 b8 b9 b10 b11 b12 b13 b14 b17 b18 b19 b23 b24 b25 b26 b27 b29 b31 b32 b33), (sw_in cT (g 0) 288 a0)]) (fun A => va_Qi (fun (r : Int32) (u : Unit) => (True)) (fun u t => RW D A ((fun _ : Unit => [(sw_9 h0 g b0 b5 b6 b7 b8 b9 b10 b11 b12 b13 b14 b17 b18 b19 b23 b24 b25 b26 b27 b29 b31 b32 b33), (sw_in cT (g 0) 288 a0)]) u) t) A) (by decide) (Nat.le_of_ble_eq_true rfl) ?_
  intro p e s m below meth c A hx hb hml hown htg hK hN hr hlk hnm hsz hP hD hS hA ls hl
  have hown : s.vm.findClass RX9 = some m.cls := hown
  have hl : lv_has ls 4 [(0, .ref h0), (1, .int x), (2, .int y)] := hl
  have tc_0 : (0 : Int32).toInt = 0 := by decide
  have tc_4 : (4 : Int32).toInt = 4 := by decide
  have tc_5 : (5 : Int32).toInt = 5 := by decide
  refine lv_aload_n hx hb dX9_nearness_0 rfl (lv_at hl 0 rfl) ?_
  refine va_get (D := D) (ci := 9) (v := .ref (g 0)) (C := RX9) (T := TX9) (N := 37) hx hb htg gRX9 hown hK hP 0 rfl rfl 1 (by decide) (htg _ wi_1151) (fun _ h9 => h9) rfl dX9_nearness_1 ?_
  refine lv_iconst (v := 4) hx hb dX9_nearness_4 (by decide) ?_
  refine va_iald hx hb hK hP 1 0 rfl rfl (by unfold vp_in; decide) dX9_nearness_5 ?_
  refine lv_topi (fun z_1 ez_1 => ?_)
  refine lv_aload_n hx hb dX9_nearness_6 rfl (lv_at hl 0 rfl) ?_
  refine va_get (D := D) (ci := 9) (v := .ref (g 0)) (C := RX9) (T := TX9) (N := 37) hx hb htg gRX9 hown hK hP 0 rfl rfl 1 (by decide) (htg _ wi_1151) (fun _ h9 => h9) rfl dX9_nearness_7 ?_
  refine lv_iconst (v := 5) hx hb dX9_nearness_10 (by decide) ?_
  refine va_iald hx hb hK hP 1 0 rfl rfl (by unfold vp_in; decide) dX9_nearness_11 ?_
  refine lv_topi (fun z_2 ez_2 => ?_)
  refine lv_iload_n hx hb dX9_nearness_12 rfl (lv_at hl 1 rfl) ?_
  refine lv_iload_n hx hb dX9_nearness_13 rfl (lv_at hl 2 rfl) ?_
  refine xk_i (wr := [(sw_9 h0 g b0 b5 b6 b7 b8 b9 b10 b11 b12 b13 b14 b17 b18 b19 b23 b24 b25 b26 b27 b29 b31 b32 b33), (sw_in cT (g 0) 288 a0)]) (xr_S (n := 2) (As := [.int x, .int y]) (rest := [.int z_2, .int z_1]) ⟨hx, hb, hml, hown, htg⟩ hK hN hP hD hS hA [] rfl (by decide) (m_off l D cT _ (x) (y)) wi_1355 wi_1356 wi_131 wi_1357 ⟨rfl, by decide +kernel⟩ ⟨Nat.le_of_ble_eq_true rfl, Nat.le_of_ble_eq_true rfl⟩ rfl hl.1 rfl (Nat.le_of_ble_eq_true rfl) dX9_nearness_14 ⟨Nat.le_of_ble_eq_true rfl, Nat.le_of_ble_eq_true rfl⟩) hP hD hS hA [] [0, 1] rfl rfl (by decide) (by decide) (fun r_4 u_3 H locs hwr_4 hP hD hS => ?_)
  obtain ⟨hP, hD⟩ : PD D A [(sw_9 h0 g b0 b5 b6 b7 b8 b9 b10 b11 b12 b13 b14 b17 b18 b19 b23 b24 b25 b26 b27 b29 b31 b32 b33), (sw_in cT (g 0) 288 a0)] _ := ⟨hP, hD⟩
  refine lv_imul hx hb dX9_nearness_17 ?_
  refine lv_topi (fun z_5 ez_5 => ?_)
  refine lv_isub hx hb dX9_nearness_18 ?_
  refine lv_topi (fun z_6 ez_6 => ?_)
  refine lv_istore_n (lv' := [(3, .int z_6), (0, .ref h0), (1, .int x), (2, .int y)]) hx hb dX9_nearness_19 rfl hl (by decide) rfl (fun ls hl => ?_)
  refine lv_iload_n hx hb dX9_nearness_20 rfl (lv_at hl 0 rfl) ?_
  refine lv_if_ge (tgt := 28) hx hb dX9_nearness_21 (by decide) (fun c_7 => ?_) (fun c_7 => ?_)
  · have ic_7 : 0 ≤ z_6.toInt := ile c_7 (by decide) (rfl)
    refine lv_iload_n hx hb dX9_nearness_28 rfl (lv_at hl 0 rfl) ?_
    exact x_iret hx hb hr hlk hP hD hS [0, 1] (()) rfl (by decide) trivial (by decide) (by decide) dX9_nearness_29
  · have ic_7 : z_6.toInt < 0 := inle c_7 (by decide) (rfl)
    refine lv_iconst (v := 0) hx hb dX9_nearness_24 (by decide) ?_
    refine lv_goto (tgt := 29) hx hb dX9_nearness_25 (by decide) ?_
    exact x_iret hx hb hr hlk hP hD hS [0, 1] (()) rfl (by decide) trivial (by decide) (by decide) dX9_nearness_29
