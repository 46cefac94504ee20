set_option maxHeartbeats 4000000 in
set_option maxRecDepth 100000 in
theorem m_within (l : Launch) (D : va_G) (cT : Nat → ClassId) (sz : Nat) (v : Int64) (lo : Int64) (hi : Int64) (av : Int) (al : Int) (ah : Int) (ev : v.toInt = av) (el : lo.toInt = al) (eh : hi.toInt = ah) : Met l yX9_within (wsc yX9_within cX9_within 6 (some .boolean)) { frames := 2, cells := 0, slots := 0, locals := 100 } (va_Pc [.long v, .long lo, .long hi] (PX D cT sz [])) (va_Qi (fun (r : Int32) (u : Unit) => (Imp (¬ r.toInt = 0) (al ≤ av ∧ av ≤ ah)) ∧ (r = 0 ∨ r = 1) ∧ (True)) (fun u t => RW D (va_A [] sz) ((fun _ : Unit => []) u) t) (va_A [] sz)) 0 0 (va_A [] sz) := by
  refine m_of (y := yX9_within) (cc := cX9_within) (nL := 6) (ret := (some .boolean)) (D := D) (cT := cT) (av := [.long v, .long lo, .long hi]) (wi := []) (fun A => va_Qi (fun (r : Int32) (u : Unit) => (Imp (¬ r.toInt = 0) (al ≤ av ∧ av ≤ ah)) ∧ (r = 0 ∨ r = 1) ∧ (True)) (fun u t => RW D A ((fun _ : Unit => []) u) t) A) (by decide) (Nat.le_of_ble_eq_true rfl) ?_
  intro p e s m below meth c A hx hb hml hown htg hK hN hr hlk hnm hsz hP hD hS hA ls hl
  have hown : s.vm.findClass RX9 = some m.cls := hown
  have hl : lv_has ls 6 [(0, .long v), (2, .long lo), (4, .long hi)] := hl
  subst ev el eh
  have tc_0 : (0 : Int32).toInt = 0 := by decide
  have tc_1 : (1 : Int32).toInt = 1 := by decide
  refine lv_lload_n hx hb dX9_within_0 rfl (lv_at hl 0 rfl) ?_
  refine lv_lload_n hx hb dX9_within_1 rfl (lv_at hl 1 rfl) ?_
  refine W.lcmp hx hb dX9_within_2 ?_
  refine lv_if_lt (tgt := 17) hx hb dX9_within_3 (by decide) (fun c_1 => ?_) (fun c_1 => ?_)
  · have ic_1 : v.toInt < lo.toInt := lgc_lt c_1 (rfl) (rfl)
    refine lv_iconst (v := 0) hx hb dX9_within_17 (by decide) ?_
    exact x_zret hx hb hr hlk hP hD hS [] (()) rfl (by decide) rfl ⟨fun h9 => by (try dsimp only at h9 ⊢); first | omega | exact absurd h9 (by decide) | decide | assumption, by (try dsimp only); first | assumption | omega | decide | exact Or.inl (by decide) | (intro h9; exact absurd h9 (by decide)) | (intro _; omega) | (intro _; assumption) | (intro _; decide), trivial⟩ (by decide) (by decide) dX9_within_18
  · have ic_1 : lo.toInt ≤ v.toInt := lgc_nlt c_1 (rfl) (rfl)
    refine lv_lload_n hx hb dX9_within_6 rfl (lv_at hl 0 rfl) ?_
    refine lv_lload hx hb dX9_within_7 (lv_at hl 2 rfl) ?_
    refine W.lcmp hx hb dX9_within_9 ?_
    refine lv_if_gt (tgt := 17) hx hb dX9_within_10 (by decide) (fun c_2 => ?_) (fun c_2 => ?_)
    · have ic_2 : hi.toInt < v.toInt := lgc_gt c_2 (rfl) (rfl)
      refine lv_iconst (v := 0) hx hb dX9_within_17 (by decide) ?_
      exact x_zret hx hb hr hlk hP hD hS [] (()) rfl (by decide) rfl ⟨fun h9 => by (try dsimp only at h9 ⊢); first | omega | exact absurd h9 (by decide) | decide | assumption, by (try dsimp only); first | assumption | omega | decide | exact Or.inl (by decide) | (intro h9; exact absurd h9 (by decide)) | (intro _; omega) | (intro _; assumption) | (intro _; decide), trivial⟩ (by decide) (by decide) dX9_within_18
    · have ic_2 : v.toInt ≤ hi.toInt := lgc_ngt c_2 (rfl) (rfl)
      refine lv_iconst (v := 1) hx hb dX9_within_13 (by decide) ?_
      refine lv_goto (tgt := 18) hx hb dX9_within_14 (by decide) ?_
      exact x_zret hx hb hr hlk hP hD hS [] (()) rfl (by decide) rfl ⟨fun h9 => by (try dsimp only at h9 ⊢); first | omega | exact absurd h9 (by decide) | decide | assumption, by (try dsimp only); first | assumption | omega | decide | exact Or.inl (by decide) | (intro h9; exact absurd h9 (by decide)) | (intro _; omega) | (intro _; assumption) | (intro _; decide), trivial⟩ (by decide) (by decide) dX9_within_18
set_option maxHeartbeats 4000000 in
set_option maxRecDepth 100000 in
theorem m_isSmall (l : Launch) (D : va_G) (cT : Nat → ClassId) (sz : Nat) (x : Int32) : Met l yX9_isSmall (wsc yX9_isSmall cX9_isSmall 1 (some .boolean)) { frames := 2, cells := 0, slots := 0, locals := 100 } (va_Pc [.int x] (PX D cT sz [])) (va_Qi (fun (r : Int32) (u : Unit) => r = if 97 ≤ x.toInt ∧ x.toInt ≤ 122 then 1 else 0) (fun u t => RW D (va_A [] sz) ((fun _ : Unit => []) u) t) (va_A [] sz)) 0 0 (va_A [] sz) := by
  refine m_of (y := yX9_isSmall) (cc := cX9_isSmall) (nL := 1) (ret := (some .boolean)) (D := D) (cT := cT) (av := [.int x]) (wi := []) (fun A => va_Qi (fun (r : Int32) (u : Unit) => r = if 97 ≤ x.toInt ∧ x.toInt ≤ 122 then 1 else 0) (fun u t => RW D A ((fun _ : Unit => []) u) t) A) (by decide) (Nat.le_of_ble_eq_true rfl) ?_
  intro p e s m below meth c A hx hb hml hown htg hK hN hr hlk hnm hsz hP hD hS hA ls hl
  have hown : s.vm.findClass RX9 = some m.cls := hown
  have hl : lv_has ls 1 [(0, .int x)] := hl
  refine lv_iload_n hx hb dX9_isSmall_0 rfl (lv_at hl 0 rfl) ?_
  refine lv_bipush (v := 97) hx hb dX9_isSmall_1 (by decide) ?_
  refine lv_icmp_lt (tgt := 16) hx hb dX9_isSmall_3 (by decide) (fun c_1 => ?_) (fun c_1 => ?_)
  · have ic_1 : x.toInt < 97 := ilt c_1 (rfl) (by decide)
    refine lv_iconst (v := 0) hx hb dX9_isSmall_16 (by decide) ?_
    exact x_zret hx hb hr hlk hP hD hS [] (()) rfl (by decide) rfl (by first | rfl | decide | (exfalso; omega) | (try simp only [ti_0, ti_1, ti_2, ti_3, ti_4, ti_5, ti_6, ti_7, ti_8, ti_9, ti_10, ti_11, ti_12]); (repeat (first | rw [if_pos (by first | assumption | omega | trivial)] | rw [if_neg (by first | assumption | omega)]))) (by decide) (by decide) dX9_isSmall_17
  · have ic_1 : 97 ≤ x.toInt := inlt c_1 (rfl) (by decide)
    refine lv_iload_n hx hb dX9_isSmall_6 rfl (lv_at hl 0 rfl) ?_
    refine lv_bipush (v := 122) hx hb dX9_isSmall_7 (by decide) ?_
    refine lv_icmp_gt (tgt := 16) hx hb dX9_isSmall_9 (by decide) (fun c_2 => ?_) (fun c_2 => ?_)
    · have ic_2 : 122 < x.toInt := ilt c_2 (by decide) (rfl)
      refine lv_iconst (v := 0) hx hb dX9_isSmall_16 (by decide) ?_
      exact x_zret hx hb hr hlk hP hD hS [] (()) rfl (by decide) rfl (by first | rfl | decide | (exfalso; omega) | (try simp only [ti_0, ti_1, ti_2, ti_3, ti_4, ti_5, ti_6, ti_7, ti_8, ti_9, ti_10, ti_11, ti_12]); (repeat (first | rw [if_pos (by first | assumption | omega | trivial)] | rw [if_neg (by first | assumption | omega)]))) (by decide) (by decide) dX9_isSmall_17
    · have ic_2 : x.toInt ≤ 122 := inlt c_2 (by decide) (rfl)
      refine lv_iconst (v := 1) hx hb dX9_isSmall_12 (by decide) ?_
      refine lv_goto (tgt := 17) hx hb dX9_isSmall_13 (by decide) ?_
      exact x_zret hx hb hr hlk hP hD hS [] (()) rfl (by decide) rfl (by first | rfl | decide | (exfalso; omega) | (try simp only [ti_0, ti_1, ti_2, ti_3, ti_4, ti_5, ti_6, ti_7, ti_8, ti_9, ti_10, ti_11, ti_12]); (repeat (first | rw [if_pos (by first | assumption | omega | trivial)] | rw [if_neg (by first | assumption | omega)]))) (by decide) (by decide) dX9_isSmall_17
set_option maxHeartbeats 4000000 in
set_option maxRecDepth 100000 in
theorem m_isDigit (l : Launch) (D : va_G) (cT : Nat → ClassId) (sz : Nat) (x : Int32) : Met l yX9_isDigit (wsc yX9_isDigit cX9_isDigit 1 (some .boolean)) { frames := 2, cells := 0, slots := 0, locals := 100 } (va_Pc [.int x] (PX D cT sz [])) (va_Qi (fun (r : Int32) (u : Unit) => r = if 48 ≤ x.toInt ∧ x.toInt ≤ 57 then 1 else 0) (fun u t => RW D (va_A [] sz) ((fun _ : Unit => []) u) t) (va_A [] sz)) 0 0 (va_A [] sz) := by
  refine m_of (y := yX9_isDigit) (cc := cX9_isDigit) (nL := 1) (ret := (some .boolean)) (D := D) (cT := cT) (av := [.int x]) (wi := []) (fun A => va_Qi (fun (r : Int32) (u : Unit) => r = if 48 ≤ x.toInt ∧ x.toInt ≤ 57 then 1 else 0) (fun u t => RW D A ((fun _ : Unit => []) u) t) A) (by decide) (Nat.le_of_ble_eq_true rfl) ?_
  intro p e s m below meth c A hx hb hml hown htg hK hN hr hlk hnm hsz hP hD hS hA ls hl
  have hown : s.vm.findClass RX9 = some m.cls := hown
  have hl : lv_has ls 1 [(0, .int x)] := hl
  refine lv_iload_n hx hb dX9_isDigit_0 rfl (lv_at hl 0 rfl) ?_
  refine lv_bipush (v := 48) hx hb dX9_isDigit_1 (by decide) ?_
  refine lv_icmp_lt (tgt := 16) hx hb dX9_isDigit_3 (by decide) (fun c_1 => ?_) (fun c_1 => ?_)
  · have ic_1 : x.toInt < 48 := ilt c_1 (rfl) (by decide)
    refine lv_iconst (v := 0) hx hb dX9_isDigit_16 (by decide) ?_
    exact x_zret hx hb hr hlk hP hD hS [] (()) rfl (by decide) rfl (by first | rfl | decide | (exfalso; omega) | (try simp only [ti_0, ti_1, ti_2, ti_3, ti_4, ti_5, ti_6, ti_7, ti_8, ti_9, ti_10, ti_11, ti_12]); (repeat (first | rw [if_pos (by first | assumption | omega | trivial)] | rw [if_neg (by first | assumption | omega)]))) (by decide) (by decide) dX9_isDigit_17
  · have ic_1 : 48 ≤ x.toInt := inlt c_1 (rfl) (by decide)
    refine lv_iload_n hx hb dX9_isDigit_6 rfl (lv_at hl 0 rfl) ?_
    refine lv_bipush (v := 57) hx hb dX9_isDigit_7 (by decide) ?_
    refine lv_icmp_gt (tgt := 16) hx hb dX9_isDigit_9 (by decide) (fun c_2 => ?_) (fun c_2 => ?_)
    · have ic_2 : 57 < x.toInt := ilt c_2 (by decide) (rfl)
      refine lv_iconst (v := 0) hx hb dX9_isDigit_16 (by decide) ?_
      exact x_zret hx hb hr hlk hP hD hS [] (()) rfl (by decide) rfl (by first | rfl | decide | (exfalso; omega) | (try simp only [ti_0, ti_1, ti_2, ti_3, ti_4, ti_5, ti_6, ti_7, ti_8, ti_9, ti_10, ti_11, ti_12]); (repeat (first | rw [if_pos (by first | assumption | omega | trivial)] | rw [if_neg (by first | assumption | omega)]))) (by decide) (by decide) dX9_isDigit_17
    · have ic_2 : x.toInt ≤ 57 := inlt c_2 (by decide) (rfl)
      refine lv_iconst (v := 1) hx hb dX9_isDigit_12 (by decide) ?_
      refine lv_goto (tgt := 17) hx hb dX9_isDigit_13 (by decide) ?_
      exact x_zret hx hb hr hlk hP hD hS [] (()) rfl (by decide) rfl (by first | rfl | decide | (exfalso; omega) | (try simp only [ti_0, ti_1, ti_2, ti_3, ti_4, ti_5, ti_6, ti_7, ti_8, ti_9, ti_10, ti_11, ti_12]); (repeat (first | rw [if_pos (by first | assumption | omega | trivial)] | rw [if_neg (by first | assumption | omega)]))) (by decide) (by decide) dX9_isDigit_17
set_option maxHeartbeats 4000000 in
set_option maxRecDepth 100000 in
theorem m_off (l : Launch) (D : va_G) (cT : Nat → ClassId) (sz : Nat) (x : Int32) (y : Int32) : Met l yX9_off (wsc yX9_off cX9_off 2 (some .int)) { frames := 2, cells := 0, slots := 0, locals := 100 } (va_Pc [.int x, .int y] (PX D cT sz [])) (va_Qi (fun (r : Int32) (u : Unit) => (True)) (fun u t => RW D (va_A [] sz) ((fun _ : Unit => []) u) t) (va_A [] sz)) 0 0 (va_A [] sz) := by
  refine m_of (y := yX9_off) (cc := cX9_off) (nL := 2) (ret := (some .int)) (D := D) (cT := cT) (av := [.int x, .int y]) (wi := []) (fun A => va_Qi (fun (r : Int32) (u : Unit) => (True)) (fun u t => RW D A ((fun _ : Unit => []) u) t) A) (by decide) (Nat.le_of_ble_eq_true rfl) ?_
  intro p e s m below meth c A hx hb hml hown htg hK hN hr hlk hnm hsz hP hD hS hA ls hl
  have hown : s.vm.findClass RX9 = some m.cls := hown
  have hl : lv_has ls 2 [(0, .int x), (1, .int y)] := hl
  refine lv_iload_n hx hb dX9_off_0 rfl (lv_at hl 0 rfl) ?_
  refine lv_iload_n hx hb dX9_off_1 rfl (lv_at hl 1 rfl) ?_
  refine lv_icmp_le (tgt := 11) hx hb dX9_off_2 (by decide) (fun c_1 => ?_) (fun c_1 => ?_)
  · have ic_1 : x.toInt ≤ y.toInt := ile c_1 (rfl) (rfl)
    refine lv_iload_n hx hb dX9_off_11 rfl (lv_at hl 1 rfl) ?_
    refine lv_iload_n hx hb dX9_off_12 rfl (lv_at hl 0 rfl) ?_
    refine lv_isub hx hb dX9_off_13 ?_
    refine lv_topi (fun z_2 ez_2 => ?_)
    exact x_iret hx hb hr hlk hP hD hS [] (()) rfl (by decide) trivial (by decide) (by decide) dX9_off_14
  · have ic_1 : y.toInt < x.toInt := inle c_1 (rfl) (rfl)
    refine lv_iload_n hx hb dX9_off_5 rfl (lv_at hl 0 rfl) ?_
    refine lv_iload_n hx hb dX9_off_6 rfl (lv_at hl 1 rfl) ?_
    refine lv_isub hx hb dX9_off_7 ?_
    refine lv_topi (fun z_3 ez_3 => ?_)
    refine lv_goto (tgt := 14) hx hb dX9_off_8 (by decide) ?_
    exact x_iret hx hb hr hlk hP hD hS [] (()) rfl (by decide) trivial (by decide) (by decide) dX9_off_14
set_option maxHeartbeats 4000000 in
set_option maxRecDepth 100000 in
theorem m_then (l : Launch) (D : va_G) (cT : Nat → ClassId) (sz : Nat) (x : Int32) (v : Int64) (hx99 : -99 ≤ x.toInt ∧ x.toInt ≤ 99) : Met l yX9_then (wsc yX9_then cX9_then 3 (some .int)) { frames := 2, cells := 0, slots := 0, locals := 100 } (va_Pc [.int x, .long v] (PX D cT sz [])) (va_Qi (fun (r : Int32) (u : Unit) => ((v.toInt = 1 ∧ r.toInt = x.toInt - 1) ∨ (v.toInt = 2 ∧ r.toInt = x.toInt + 1) ∨ (¬ v.toInt = 1 ∧ ¬ v.toInt = 2 ∧ r.toInt = x.toInt)) ∧ (True)) (fun u t => RW D (va_A [] sz) ((fun _ : Unit => []) u) t) (va_A [] sz)) 0 0 (va_A [] sz) := by
  refine m_of (y := yX9_then) (cc := cX9_then) (nL := 3) (ret := (some .int)) (D := D) (cT := cT) (av := [.int x, .long v]) (wi := []) (fun A => va_Qi (fun (r : Int32) (u : Unit) => ((v.toInt = 1 ∧ r.toInt = x.toInt - 1) ∨ (v.toInt = 2 ∧ r.toInt = x.toInt + 1) ∨ (¬ v.toInt = 1 ∧ ¬ v.toInt = 2 ∧ r.toInt = x.toInt)) ∧ (True)) (fun u t => RW D A ((fun _ : Unit => []) u) t) A) (by decide) (Nat.le_of_ble_eq_true rfl) ?_
  intro p e s m below meth c A hx hb hml hown htg hK hN hr hlk hnm hsz hP hD hS hA ls hl
  have hown : s.vm.findClass RX9 = some m.cls := hown
  have hl : lv_has ls 3 [(0, .int x), (1, .long v)] := hl
  have tc_1 : (1 : Int32).toInt = 1 := by decide
  refine lv_lload_n hx hb dX9_then_0 rfl (lv_at hl 1 rfl) ?_
  refine lv_lconst (v := 1) hx hb dX9_then_1 (by decide) ?_
  refine W.lcmp hx hb dX9_then_2 ?_
  refine lv_if_ne (tgt := 12) hx hb dX9_then_3 (by decide) (fun c_1 => ?_) (fun c_1 => ?_)
  · have ic_1 : ¬ v.toInt = 1 := lgc_ne c_1 (rfl) (by decide)
    refine lv_lload_n hx hb dX9_then_12 rfl (lv_at hl 1 rfl) ?_
    refine lv_ldc2 (v := 2) hx hb hown (htg _ wi_1420) dX9_then_13 ?_
    refine W.lcmp hx hb dX9_then_16 ?_
    refine lv_if_ne (tgt := 26) hx hb dX9_then_17 (by decide) (fun c_2 => ?_) (fun c_2 => ?_)
    · have ic_2 : ¬ v.toInt = 2 := lgc_ne c_2 (rfl) (by decide)
      refine lv_iload_n hx hb dX9_then_26 rfl (lv_at hl 0 rfl) ?_
      exact x_iret hx hb hr hlk hP hD hS [] (()) rfl (by decide) ⟨by (try dsimp only); first | assumption | omega | decide | exact Or.inl (by decide) | (intro h9; exact absurd h9 (by decide)) | (intro _; omega) | (intro _; assumption) | (intro _; decide), trivial⟩ (by decide) (by decide) dX9_then_27
    · have ic_2 : v.toInt = 2 := lgc_eq c_2 (rfl) (by decide)
      refine lv_iload_n hx hb dX9_then_20 rfl (lv_at hl 0 rfl) ?_
      refine lv_iconst (v := 1) hx hb dX9_then_21 (by decide) ?_
      refine lv_iadd hx hb dX9_then_22 ?_
      refine lv_topi (fun z_3 ez_3 => ?_)
      have iz_3 : z_3.toInt = x.toInt + 1 := toInt_addI ez_3 (rfl) (by decide) (by omega)
      refine lv_goto (tgt := 27) hx hb dX9_then_23 (by decide) ?_
      exact x_iret hx hb hr hlk hP hD hS [] (()) rfl (by decide) ⟨by (try dsimp only); first | assumption | omega | decide | exact Or.inl (by decide) | (intro h9; exact absurd h9 (by decide)) | (intro _; omega) | (intro _; assumption) | (intro _; decide), trivial⟩ (by decide) (by decide) dX9_then_27
  · have ic_1 : v.toInt = 1 := lgc_eq c_1 (rfl) (by decide)
    refine lv_iload_n hx hb dX9_then_6 rfl (lv_at hl 0 rfl) ?_
    refine lv_iconst (v := 1) hx hb dX9_then_7 (by decide) ?_
    refine lv_isub hx hb dX9_then_8 ?_
    refine lv_topi (fun z_4 ez_4 => ?_)
    have iz_4 : z_4.toInt = x.toInt - 1 := toInt_subI ez_4 (rfl) (by decide) (by omega)
    refine lv_goto (tgt := 27) hx hb dX9_then_9 (by decide) ?_
    exact x_iret hx hb hr hlk hP hD hS [] (()) rfl (by decide) ⟨by (try dsimp only); first | assumption | omega | decide | exact Or.inl (by decide) | (intro h9; exact absurd h9 (by decide)) | (intro _; omega) | (intro _; assumption) | (intro _; decide), trivial⟩ (by decide) (by decide) dX9_then_27
set_option maxHeartbeats 4000000 in
set_option maxRecDepth 100000 in
theorem m_lampIn288 (l : Launch) (D : va_G) (cT : Nat → ClassId) (sz : Nat) (b : Nat) (f : Nat → Int32) : Met l yX9_lampIn (wsc yX9_lampIn cX9_lampIn 1 none) { frames := 2, cells := 0, slots := 0, locals := 100 } (va_Pc [.ref b] (PX D cT sz [(sw_in cT b 288 f)])) (va_Qv (fun (u : Unit) => True) (fun u t => RW D (va_A [(sw_in cT b 288 f)] sz) ((fun _ : Unit => [(sw_in cT b 288 (upd (upd (upd (upd (f) 2 0) 3 6) 4 6) 5 1))]) u) t) (va_A [(sw_in cT b 288 f)] sz)) 0 0 (va_A [(sw_in cT b 288 f)] sz) := by
  refine m_of (y := yX9_lampIn) (cc := cX9_lampIn) (nL := 1) (ret := none) (D := D) (cT := cT) (av := [.ref b]) (wi := [(sw_in cT b 288 f)]) (fun A => va_Qv (fun (u : Unit) => True) (fun u t => RW D A ((fun _ : Unit => [(sw_in cT b 288 (upd (upd (upd (upd (f) 2 0) 3 6) 4 6) 5 1))]) u) t) A) (by decide) (Nat.le_of_ble_eq_true rfl) ?_
  intro p e s m below meth c A hx hb hml hown htg hK hN hr hlk hnm hsz hP hD hS hA ls hl
  have hown : s.vm.findClass RX9 = some m.cls := hown
  have hl : lv_has ls 1 [(0, .ref b)] := hl
  refine lv_aload_n hx hb dX9_lampIn_0 rfl (lv_at hl 0 rfl) ?_
  refine lv_iconst (v := 2) hx hb dX9_lampIn_1 (by decide) ?_
  refine lv_iconst (v := 0) hx hb dX9_lampIn_2 (by decide) ?_
  refine va_iast hx hb hK hP hD hS 0 0 rfl rfl (by unfold vp_in; decide) dX9_lampIn_3 (fun H locs hP hD hS => ?_)
  obtain ⟨hP, hD⟩ : PD D A [(sw_in cT b 288 (upd (f) 2 0))] _ := ⟨hP, hD⟩
  refine lv_aload_n hx hb dX9_lampIn_4 rfl (lv_at hl 0 rfl) ?_
  refine lv_iconst (v := 3) hx hb dX9_lampIn_5 (by decide) ?_
  refine lv_bipush (v := 6) hx hb dX9_lampIn_6 (by decide) ?_
  refine va_iast hx hb hK hP hD hS 0 0 rfl rfl (by unfold vp_in; decide) dX9_lampIn_8 (fun H locs hP hD hS => ?_)
  obtain ⟨hP, hD⟩ : PD D A [(sw_in cT b 288 (upd (upd (f) 2 0) 3 6))] _ := ⟨hP, hD⟩
  refine lv_aload_n hx hb dX9_lampIn_9 rfl (lv_at hl 0 rfl) ?_
  refine lv_iconst (v := 4) hx hb dX9_lampIn_10 (by decide) ?_
  refine lv_bipush (v := 6) hx hb dX9_lampIn_11 (by decide) ?_
  refine va_iast hx hb hK hP hD hS 0 0 rfl rfl (by unfold vp_in; decide) dX9_lampIn_13 (fun H locs hP hD hS => ?_)
  obtain ⟨hP, hD⟩ : PD D A [(sw_in cT b 288 (upd (upd (upd (f) 2 0) 3 6) 4 6))] _ := ⟨hP, hD⟩
  refine lv_aload_n hx hb dX9_lampIn_14 rfl (lv_at hl 0 rfl) ?_
  refine lv_iconst (v := 5) hx hb dX9_lampIn_15 (by decide) ?_
  refine lv_iconst (v := 1) hx hb dX9_lampIn_16 (by decide) ?_
  refine va_iast hx hb hK hP hD hS 0 0 rfl rfl (by unfold vp_in; decide) dX9_lampIn_17 (fun H locs hP hD hS => ?_)
  obtain ⟨hP, hD⟩ : PD D A [(sw_in cT b 288 (upd (upd (upd (upd (f) 2 0) 3 6) 4 6) 5 1))] _ := ⟨hP, hD⟩
  exact x_vret hx hb hr hlk hP hD hS [0] (()) rfl (by decide) trivial (by decide) (by decide) dX9_lampIn_18
set_option maxHeartbeats 4000000 in
set_option maxRecDepth 100000 in
theorem m_lampIn96 (l : Launch) (D : va_G) (cT : Nat → ClassId) (sz : Nat) (b : Nat) (f : Nat → Int32) : Met l yX9_lampIn (wsc yX9_lampIn cX9_lampIn 1 none) { frames := 2, cells := 0, slots := 0, locals := 100 } (va_Pc [.ref b] (PX D cT sz [(sw_in cT b 96 f)])) (va_Qv (fun (u : Unit) => True) (fun u t => RW D (va_A [(sw_in cT b 96 f)] sz) ((fun _ : Unit => [(sw_in cT b 96 (upd (upd (upd (upd (f) 2 0) 3 6) 4 6) 5 1))]) u) t) (va_A [(sw_in cT b 96 f)] sz)) 0 0 (va_A [(sw_in cT b 96 f)] sz) := by
  refine m_of (y := yX9_lampIn) (cc := cX9_lampIn) (nL := 1) (ret := none) (D := D) (cT := cT) (av := [.ref b]) (wi := [(sw_in cT b 96 f)]) (fun A => va_Qv (fun (u : Unit) => True) (fun u t => RW D A ((fun _ : Unit => [(sw_in cT b 96 (upd (upd (upd (upd (f) 2 0) 3 6) 4 6) 5 1))]) u) t) A) (by decide) (Nat.le_of_ble_eq_true rfl) ?_
  intro p e s m below meth c A hx hb hml hown htg hK hN hr hlk hnm hsz hP hD hS hA ls hl
  have hown : s.vm.findClass RX9 = some m.cls := hown
  have hl : lv_has ls 1 [(0, .ref b)] := hl
  refine lv_aload_n hx hb dX9_lampIn_0 rfl (lv_at hl 0 rfl) ?_
  refine lv_iconst (v := 2) hx hb dX9_lampIn_1 (by decide) ?_
  refine lv_iconst (v := 0) hx hb dX9_lampIn_2 (by decide) ?_
  refine va_iast hx hb hK hP hD hS 0 0 rfl rfl (by unfold vp_in; decide) dX9_lampIn_3 (fun H locs hP hD hS => ?_)
  obtain ⟨hP, hD⟩ : PD D A [(sw_in cT b 96 (upd (f) 2 0))] _ := ⟨hP, hD⟩
  refine lv_aload_n hx hb dX9_lampIn_4 rfl (lv_at hl 0 rfl) ?_
  refine lv_iconst (v := 3) hx hb dX9_lampIn_5 (by decide) ?_
  refine lv_bipush (v := 6) hx hb dX9_lampIn_6 (by decide) ?_
  refine va_iast hx hb hK hP hD hS 0 0 rfl rfl (by unfold vp_in; decide) dX9_lampIn_8 (fun H locs hP hD hS => ?_)
  obtain ⟨hP, hD⟩ : PD D A [(sw_in cT b 96 (upd (upd (f) 2 0) 3 6))] _ := ⟨hP, hD⟩
  refine lv_aload_n hx hb dX9_lampIn_9 rfl (lv_at hl 0 rfl) ?_
  refine lv_iconst (v := 4) hx hb dX9_lampIn_10 (by decide) ?_
  refine lv_bipush (v := 6) hx hb dX9_lampIn_11 (by decide) ?_
  refine va_iast hx hb hK hP hD hS 0 0 rfl rfl (by unfold vp_in; decide) dX9_lampIn_13 (fun H locs hP hD hS => ?_)
  obtain ⟨hP, hD⟩ : PD D A [(sw_in cT b 96 (upd (upd (upd (f) 2 0) 3 6) 4 6))] _ := ⟨hP, hD⟩
  refine lv_aload_n hx hb dX9_lampIn_14 rfl (lv_at hl 0 rfl) ?_
  refine lv_iconst (v := 5) hx hb dX9_lampIn_15 (by decide) ?_
  refine lv_iconst (v := 1) hx hb dX9_lampIn_16 (by decide) ?_
  refine va_iast hx hb hK hP hD hS 0 0 rfl rfl (by unfold vp_in; decide) dX9_lampIn_17 (fun H locs hP hD hS => ?_)
  obtain ⟨hP, hD⟩ : PD D A [(sw_in cT b 96 (upd (upd (upd (upd (f) 2 0) 3 6) 4 6) 5 1))] _ := ⟨hP, hD⟩
  exact x_vret hx hb hr hlk hP hD hS [0] (()) rfl (by decide) trivial (by decide) (by decide) dX9_lampIn_18
set_option maxHeartbeats 4000000 in
set_option maxRecDepth 100000 in
theorem m_isStrip (l : Launch) (D : va_G) (cT : Nat → ClassId) (sz : Nat) (h0 : Nat) (g : Nat → Nat) (b0 : Int32) (b5 : Int32) (b6 : Int32) (b7 : Int32) (b8 : Int32) (b9 : Int32) (b10 : Int32) (b11 : Int32) (b12 : Int32) (b13 : Int32) (b14 : Int32) (b17 : Int32) (b18 : Int32) (b19 : Int32) (b23 : Int32) (b24 : Int32) (b25 : Int32) (b26 : Int32) (b27 : Int32) (b29 : Int32) (b31 : Int32) (b32 : Int32) (b33 : Int32) (hb5 : 0 ≤ b5.toInt ∧ b5.toInt ≤ 900) (a0 : Nat → Int32) (pa0 : PI 288 a0) (x : Int32) : Met l yX9_isStrip (wsc yX9_isStrip cX9_isStrip 2 (some .boolean)) { frames := 3, cells := 0, slots := 0, locals := 125 } (va_Pc [.ref h0, .int x] (PX D cT sz [(sw_9 h0 g b0 b5 b6 b7 b8 b9 b10 b11 b12 b13 b14 b17 b18 b19 b23 b24 b25 b26 b27 b29 b31 b32 b33), (sw_in cT (g 0) 288 a0)])) (va_Qi (fun (r : Int32) (u : Unit) => (Imp (¬ r.toInt = 0) (0 ≤ x.toInt ∧ x.toInt ≤ 15)) ∧ (True)) (fun u t => RW D (va_A [(sw_9 h0 g b0 b5 b6 b7 b8 b9 b10 b11 b12 b13 b14 b17 b18 b19 b23 b24 b25 b26 b27 b29 b31 b32 b33), (sw_in cT (g 0) 288 a0)] sz) ((fun _ : Unit => [(sw_9 h0 g b0 b5 b6 b7 b8 b9 b10 b11 b12 b13 b14 b17 b18 b19 b23 b24 b25 b26 b27 b29 b31 b32 b33), (sw_in cT (g 0) 288 a0)]) u) t) (va_A [(sw_9 h0 g b0 b5 b6 b7 b8 b9 b10 b11 b12 b13 b14 b17 b18 b19 b23 b24 b25 b26 b27 b29 b31 b32 b33), (sw_in cT (g 0) 288 a0)] sz)) 0 0 (va_A [(sw_9 h0 g b0 b5 b6 b7 b8 b9 b10 b11 b12 b13 b14 b17 b18 b19 b23 b24 b25 b26 b27 b29 b31 b32 b33), (sw_in cT (g 0) 288 a0)] sz) := by
  refine m_of (y := yX9_isStrip) (cc := cX9_isStrip) (nL := 2) (ret := (some .boolean)) (D := D) (cT := cT) (av := [.ref h0, .int x]) (wi := [(sw_9 h0 g b0 b5 b6 b7 b8 b9 b10 b11 b12 b13 b14 b17 b18 b19 b23 b24 b25 b26 b27 b29 b31 b32 b33), (sw_in cT (g 0) 288 a0)]) (fun A => va_Qi (fun (r : Int32) (u : Unit) => (Imp (¬ r.toInt = 0) (0 ≤ x.toInt ∧ x.toInt ≤ 15)) ∧ (True)) (fun u t => RW D A ((fun _ : Unit => [(sw_9 h0 g b0 b5 b6 b7 b8 b9 b10 b11 b12 b13 b14 b17 b18 b19 b23 b24 b25 b26 b27 b29 b31 b32 b33), (sw_in cT (g 0) 288 a0)]) u) t) A) (by decide) (Nat.le_of_ble_eq_true rfl) ?_
  intro p e s m below meth c A hx hb hml hown htg hK hN hr hlk hnm hsz hP hD hS hA ls hl
  have hown : s.vm.findClass RX9 = some m.cls := hown
  have hl : lv_has ls 2 [(0, .ref h0), (1, .int x)] := hl
  have tc_0 : (0 : Int32).toInt = 0 := by decide
  have tc_1 : (1 : Int32).toInt = 1 := by decide
  refine lv_iload_n hx hb dX9_isStrip_0 rfl (lv_at hl 1 rfl) ?_
  refine lv_i2l (v := x.toInt64) hx hb dX9_isStrip_1 rfl ?_
  refine lv_lconst (v := 0) hx hb dX9_isStrip_2 (by decide) ?_
  refine lv_aload_n hx hb dX9_isStrip_3 rfl (lv_at hl 0 rfl) ?_
  refine va_get (D := D) (ci := 9) (v := .ref (g 0)) (C := RX9) (T := TX9) (N := 37) hx hb htg gRX9 hown hK hP 0 rfl rfl 1 (by decide) (htg _ wi_1151) (fun _ h9 => h9) rfl dX9_isStrip_4 ?_
  refine lv_iconst (v := 0) hx hb dX9_isStrip_7 (by decide) ?_
  refine va_iald hx hb hK hP 1 0 rfl rfl (by unfold vp_in; decide) dX9_isStrip_8 ?_
  refine lv_topi (fun z_1 ez_1 => ?_)
  have iz_1 : 0 ≤ z_1.toInt ∧ z_1.toInt ≤ 16 := by rw [ez_1]; exact rd0 pa0 (by decide) rfl
  have nz_1 : z_1.toInt = ((a0) 0).toInt := by rw [ez_1]; rfl
  refine lv_iconst (v := 1) hx hb dX9_isStrip_9 (by decide) ?_
  refine lv_isub hx hb dX9_isStrip_10 ?_
  refine lv_topi (fun z_2 ez_2 => ?_)
  have iz_2 : z_2.toInt = z_1.toInt - 1 := toInt_subI ez_2 (rfl) (by decide) (by omega)
  refine lv_i2l (v := z_2.toInt64) hx hb dX9_isStrip_11 rfl ?_
  have ilw_3 : (x.toInt64).toInt = x.toInt := i2l_i _
  have ilw_4 : (z_2.toInt64).toInt = z_2.toInt := i2l_i _
  refine xk_i (wr := [(sw_9 h0 g b0 b5 b6 b7 b8 b9 b10 b11 b12 b13 b14 b17 b18 b19 b23 b24 b25 b26 b27 b29 b31 b32 b33), (sw_in cT (g 0) 288 a0)]) (xr_S (n := 3) (As := [.long x.toInt64, .long 0, .long z_2.toInt64]) (rest := []) ⟨hx, hb, hml, hown, htg⟩ hK hN hP hD hS hA [] rfl (by decide) (m_within l D cT _ (x.toInt64) (0) (z_2.toInt64) (x.toInt) (0) (z_2.toInt) (i2l_i _) (by decide) (i2l_i _)) wi_1270 wi_1271 wi_131 wi_1272 ⟨rfl, by decide +kernel⟩ ⟨Nat.le_of_ble_eq_true rfl, Nat.le_of_ble_eq_true rfl⟩ rfl hl.1 rfl (Nat.le_of_ble_eq_true rfl) dX9_isStrip_12 ⟨Nat.le_of_ble_eq_true rfl, Nat.le_of_ble_eq_true rfl⟩) hP hD hS hA [] [0, 1] rfl rfl (by decide) (by decide) (fun r_6 u_5 H locs hwr_6 hP hD hS => ?_)
  obtain ⟨hP, hD⟩ : PD D A [(sw_9 h0 g b0 b5 b6 b7 b8 b9 b10 b11 b12 b13 b14 b17 b18 b19 b23 b24 b25 b26 b27 b29 b31 b32 b33), (sw_in cT (g 0) 288 a0)] _ := ⟨hP, hD⟩
  have qr_6_0 : Imp (¬ r_6.toInt = 0) (0 ≤ x.toInt ∧ x.toInt ≤ z_2.toInt) := hwr_6.1
  have qr_6_1 : r_6 = 0 ∨ r_6 = 1 := hwr_6.2.1
  exact x_zret hx hb hr hlk hP hD hS [0, 1] (()) rfl (by decide) (zn (by assumption)) ⟨fun h9 => by (try dsimp only at h9 ⊢); have kqr_6_0 : 0 ≤ x.toInt ∧ x.toInt ≤ z_2.toInt := qr_6_0 h9; first | omega | exact absurd h9 (by decide) | decide | assumption, trivial⟩ (by decide) (by decide) dX9_isStrip_15
set_option maxHeartbeats 4000000 in
set_option maxRecDepth 100000 in
theorem m_nearness (l : Launch) (D : va_G) (cT : Nat → ClassId) (sz : Nat) (h0 : Nat) (g : Nat → Nat) (b0 : Int32) (b5 : Int32) (b6 : Int32) (b7 : Int32) (b8 : Int32) (b9 : Int32) (b10 : Int32) (b11 : Int32) (b12 : Int32) (b13 : Int32) (b14 : Int32) (b17 : Int32) (b18 : Int32) (b19 : Int32) (b23 : Int32) (b24 : Int32) (b25 : Int32) (b26 : Int32) (b27 : Int32) (b29 : Int32) (b31 : Int32) (b32 : Int32) (b33 : Int32) (hb5 : 0 ≤ b5.toInt ∧ b5.toInt ≤ 900) (a0 : Nat → Int32) (pa0 : PI 288 a0) (x : Int32) (y : Int32) : Met l yX9_nearness (wsc yX9_nearness cX9_nearness 4 (some .int)) { frames := 3, cells := 0, slots := 0, locals := 121 } (va_Pc [.ref h0, .int x, .int y] (PX D cT sz [(sw_9 h0 g b0 b5 b6 b7 b8 b9 b10 b11 b12 b13 b14 b17 b18 b19 b23 b24 b25 b26 b27 b29 b31 b32 b33), (sw_in cT (g 0) 288 a0)])) (va_Qi (fun (r : Int32) (u : Unit) => (True)) (fun u t => RW D (va_A [(sw_9 h0 g b0 b5 b6 b7 b8 b9 b10 b11 b12 b13 b14 b17 b18 b19 b23 b24 b25 b26 b27 b29 b31 b32 b33), (sw_in cT (g 0) 288 a0)] sz) ((fun _ : Unit => [(sw_9 h0 g b0 b5 b6 b7 b8 b9 b10 b11 b12 b13 b14 b17 b18 b19 b23 b24 b25 b26 b27 b29 b31 b32 b33), (sw_in cT (g 0) 288 a0)]) u) t) (va_A [(sw_9 h0 g b0 b5 b6 b7 b8 b9 b10 b11 b12 b13 b14 b17 b18 b19 b23 b24 b25 b26 b27 b29 b31 b32 b33), (sw_in cT (g 0) 288 a0)] sz)) 0 0 (va_A [(sw_9 h0 g b0 b5 b6 b7 b8 b9 b10 b11 b12 b13 b14 b17 b18 b19 b23 b24 b25 b26 b27 b29 b31 b32 b33), (sw_in cT (g 0) 288 a0)] sz) := by
  refine m_of (y := yX9_nearness) (cc := cX9_nearness) (nL := 4) (ret := (some .int)) (D := D) (cT := cT) (av := [.ref h0, .int x, .int y]) (wi := [(sw_9 h0 g b0 b5 b6 b7 b8 b9 b10 b11 b12 b13 b14 b17 b18 b19 b23 b24 b25 b26 b27 b29 b31 b32 b33), (sw_in cT (g 0) 288 a0)]) (fun A => va_Qi (fun (r : Int32) (u : Unit) => (True)) (fun u t => RW D A ((fun _ : Unit => [(sw_9 h0 g b0 b5 b6 b7 b8 b9 b10 b11 b12 b13 b14 b17 b18 b19 b23 b24 b25 b26 b27 b29 b31 b32 b33), (sw_in cT (g 0) 288 a0)]) u) t) A) (by decide) (Nat.le_of_ble_eq_true rfl) ?_
  intro p e s m below meth c A hx hb hml hown htg hK hN hr hlk hnm hsz hP hD hS hA ls hl
  have hown : s.vm.findClass RX9 = some m.cls := hown
  have hl : lv_has ls 4 [(0, .ref h0), (1, .int x), (2, .int y)] := hl
  have tc_0 : (0 : Int32).toInt = 0 := by decide
  have tc_4 : (4 : Int32).toInt = 4 := by decide
  have tc_5 : (5 : Int32).toInt = 5 := by decide
  refine lv_aload_n hx hb dX9_nearness_0 rfl (lv_at hl 0 rfl) ?_
  refine va_get (D := D) (ci := 9) (v := .ref (g 0)) (C := RX9) (T := TX9) (N := 37) hx hb htg gRX9 hown hK hP 0 rfl rfl 1 (by decide) (htg _ wi_1151) (fun _ h9 => h9) rfl dX9_nearness_1 ?_
  refine lv_iconst (v := 4) hx hb dX9_nearness_4 (by decide) ?_
  refine va_iald hx hb hK hP 1 0 rfl rfl (by unfold vp_in; decide) dX9_nearness_5 ?_
  refine lv_topi (fun z_1 ez_1 => ?_)
  refine lv_aload_n hx hb dX9_nearness_6 rfl (lv_at hl 0 rfl) ?_
  refine va_get (D := D) (ci := 9) (v := .ref (g 0)) (C := RX9) (T := TX9) (N := 37) hx hb htg gRX9 hown hK hP 0 rfl rfl 1 (by decide) (htg _ wi_1151) (fun _ h9 => h9) rfl dX9_nearness_7 ?_
  refine lv_iconst (v := 5) hx hb dX9_nearness_10 (by decide) ?_
  refine va_iald hx hb hK hP 1 0 rfl rfl (by unfold vp_in; decide) dX9_nearness_11 ?_
  refine lv_topi (fun z_2 ez_2 => ?_)
  refine lv_iload_n hx hb dX9_nearness_12 rfl (lv_at hl 1 rfl) ?_
  refine lv_iload_n hx hb dX9_nearness_13 rfl (lv_at hl 2 rfl) ?_
  refine xk_i (wr := [(sw_9 h0 g b0 b5 b6 b7 b8 b9 b10 b11 b12 b13 b14 b17 b18 b19 b23 b24 b25 b26 b27 b29 b31 b32 b33), (sw_in cT (g 0) 288 a0)]) (xr_S (n := 2) (As := [.int x, .int y]) (rest := [.int z_2, .int z_1]) ⟨hx, hb, hml, hown, htg⟩ hK hN hP hD hS hA [] rfl (by decide) (m_off l D cT _ (x) (y)) wi_1355 wi_1356 wi_131 wi_1357 ⟨rfl, by decide +kernel⟩ ⟨Nat.le_of_ble_eq_true rfl, Nat.le_of_ble_eq_true rfl⟩ rfl hl.1 rfl (Nat.le_of_ble_eq_true rfl) dX9_nearness_14 ⟨Nat.le_of_ble_eq_true rfl, Nat.le_of_ble_eq_true rfl⟩) hP hD hS hA [] [0, 1] rfl rfl (by decide) (by decide) (fun r_4 u_3 H locs hwr_4 hP hD hS => ?_)
  obtain ⟨hP, hD⟩ : PD D A [(sw_9 h0 g b0 b5 b6 b7 b8 b9 b10 b11 b12 b13 b14 b17 b18 b19 b23 b24 b25 b26 b27 b29 b31 b32 b33), (sw_in cT (g 0) 288 a0)] _ := ⟨hP, hD⟩
  refine lv_imul hx hb dX9_nearness_17 ?_
  refine lv_topi (fun z_5 ez_5 => ?_)
  refine lv_isub hx hb dX9_nearness_18 ?_
  refine lv_topi (fun z_6 ez_6 => ?_)
  refine lv_istore_n (lv' := [(3, .int z_6), (0, .ref h0), (1, .int x), (2, .int y)]) hx hb dX9_nearness_19 rfl hl (by decide) rfl (fun ls hl => ?_)
  refine lv_iload_n hx hb dX9_nearness_20 rfl (lv_at hl 0 rfl) ?_
  refine lv_if_ge (tgt := 28) hx hb dX9_nearness_21 (by decide) (fun c_7 => ?_) (fun c_7 => ?_)
  · have ic_7 : 0 ≤ z_6.toInt := ile c_7 (by decide) (rfl)
    refine lv_iload_n hx hb dX9_nearness_28 rfl (lv_at hl 0 rfl) ?_
    exact x_iret hx hb hr hlk hP hD hS [0, 1] (()) rfl (by decide) trivial (by decide) (by decide) dX9_nearness_29
  · have ic_7 : z_6.toInt < 0 := inle c_7 (by decide) (rfl)
    refine lv_iconst (v := 0) hx hb dX9_nearness_24 (by decide) ?_
    refine lv_goto (tgt := 29) hx hb dX9_nearness_25 (by decide) ?_
    exact x_iret hx hb hr hlk hP hD hS [0, 1] (()) rfl (by decide) trivial (by decide) (by decide) dX9_nearness_29
set_option maxHeartbeats 4000000 in
set_option maxRecDepth 100000 in
theorem m_isShaded (l : Launch) (D : va_G) (cT : Nat → ClassId) (sz : Nat) (h0 : Nat) (g : Nat → Nat) (b0 : Int32) (b5 : Int32) (b6 : Int32) (b7 : Int32) (b8 : Int32) (b9 : Int32) (b10 : Int32) (b11 : Int32) (b12 : Int32) (b13 : Int32) (b14 : Int32) (b17 : Int32) (b18 : Int32) (b19 : Int32) (b23 : Int32) (b24 : Int32) (b25 : Int32) (b26 : Int32) (b27 : Int32) (b29 : Int32) (b31 : Int32) (b32 : Int32) (b33 : Int32) (hb5 : 0 ≤ b5.toInt ∧ b5.toInt ≤ 900) (a0 : Nat → Int32) (pa0 : PI 288 a0) (x : Int32) (y : Int32) (z : Int32) (hxx : 0 ≤ x.toInt ∧ x.toInt ≤ 15) (hyy : 0 ≤ y.toInt ∧ y.toInt ≤ 15) : Met l yX9_isShaded (wsc yX9_isShaded cX9_isShaded 7 (some .boolean)) { frames := 3, cells := 0, slots := 0, locals := 121 } (va_Pc [.ref h0, .int x, .int y, .int z] (PX D cT sz [(sw_9 h0 g b0 b5 b6 b7 b8 b9 b10 b11 b12 b13 b14 b17 b18 b19 b23 b24 b25 b26 b27 b29 b31 b32 b33), (sw_in cT (g 0) 288 a0)])) (va_Qi (fun (r : Int32) (u : Unit) => (True)) (fun u t => RW D (va_A [(sw_9 h0 g b0 b5 b6 b7 b8 b9 b10 b11 b12 b13 b14 b17 b18 b19 b23 b24 b25 b26 b27 b29 b31 b32 b33), (sw_in cT (g 0) 288 a0)] sz) ((fun _ : Unit => [(sw_9 h0 g b0 b5 b6 b7 b8 b9 b10 b11 b12 b13 b14 b17 b18 b19 b23 b24 b25 b26 b27 b29 b31 b32 b33), (sw_in cT (g 0) 288 a0)]) u) t) (va_A [(sw_9 h0 g b0 b5 b6 b7 b8 b9 b10 b11 b12 b13 b14 b17 b18 b19 b23 b24 b25 b26 b27 b29 b31 b32 b33), (sw_in cT (g 0) 288 a0)] sz)) 0 0 (va_A [(sw_9 h0 g b0 b5 b6 b7 b8 b9 b10 b11 b12 b13 b14 b17 b18 b19 b23 b24 b25 b26 b27 b29 b31 b32 b33), (sw_in cT (g 0) 288 a0)] sz) := by
  refine m_of (y := yX9_isShaded) (cc := cX9_isShaded) (nL := 7) (ret := (some .boolean)) (D := D) (cT := cT) (av := [.ref h0, .int x, .int y, .int z]) (wi := [(sw_9 h0 g b0 b5 b6 b7 b8 b9 b10 b11 b12 b13 b14 b17 b18 b19 b23 b24 b25 b26 b27 b29 b31 b32 b33), (sw_in cT (g 0) 288 a0)]) (fun A => va_Qi (fun (r : Int32) (u : Unit) => (True)) (fun u t => RW D A ((fun _ : Unit => [(sw_9 h0 g b0 b5 b6 b7 b8 b9 b10 b11 b12 b13 b14 b17 b18 b19 b23 b24 b25 b26 b27 b29 b31 b32 b33), (sw_in cT (g 0) 288 a0)]) u) t) A) (by decide) (Nat.le_of_ble_eq_true rfl) ?_
  intro p e s m below meth c A hx hb hml hown htg hK hN hr hlk hnm hsz hP hD hS hA ls hl
  have hown : s.vm.findClass RX9 = some m.cls := hown
  have hl : lv_has ls 7 [(0, .ref h0), (1, .int x), (2, .int y), (3, .int z)] := hl
  have tc_0 : (0 : Int32).toInt = 0 := by decide
  have tc_1 : (1 : Int32).toInt = 1 := by decide
  have tc_48 : (48 : Int32).toInt = 48 := by decide
  refine lv_iload_n hx hb dX9_isShaded_0 rfl (lv_at hl 1 rfl) ?_
  refine lv_iload_n hx hb dX9_isShaded_1 rfl (lv_at hl 2 rfl) ?_
  refine lv_icmp_ge (tgt := 9) hx hb dX9_isShaded_2 (by decide) (fun c_1 => ?_) (fun c_1 => ?_)
  · have ic_1 : y.toInt ≤ x.toInt := ile c_1 (rfl) (rfl)
    refine lv_iload_n hx hb dX9_isShaded_9 rfl (lv_at hl 2 rfl) ?_
    refine lv_istore (lv' := [(4, .int y), (0, .ref h0), (1, .int x), (2, .int y), (3, .int z)]) hx hb dX9_isShaded_10 hl (by decide) rfl (fun ls hl => ?_)
    refine lv_iload_n hx hb dX9_isShaded_12 rfl (lv_at hl 2 rfl) ?_
    refine lv_iload_n hx hb dX9_isShaded_13 rfl (lv_at hl 3 rfl) ?_
    refine lv_icmp_ge (tgt := 21) hx hb dX9_isShaded_14 (by decide) (fun c_2 => ?_) (fun c_2 => ?_)
    · have ic_2 : y.toInt ≤ x.toInt := ile c_2 (rfl) (rfl)
      refine lv_iload_n hx hb dX9_isShaded_21 rfl (lv_at hl 2 rfl) ?_
      refine lv_istore (lv' := [(5, .int x), (4, .int y), (0, .ref h0), (1, .int x), (2, .int y), (3, .int z)]) hx hb dX9_isShaded_22 hl (by decide) rfl (fun ls hl => ?_)
      refine lv_iload hx hb dX9_isShaded_24 (lv_at hl 1 rfl) ?_
      refine lv_iconst (v := 1) hx hb dX9_isShaded_26 (by decide) ?_
      refine lv_iadd hx hb dX9_isShaded_27 ?_
      refine lv_topi (fun z_3 ez_3 => ?_)
      have iz_3 : z_3.toInt = y.toInt + 1 := toInt_addI ez_3 (rfl) (by decide) (by omega)
      refine lv_istore (lv' := [(6, .int z_3), (5, .int x), (4, .int y), (0, .ref h0), (1, .int x), (2, .int y), (3, .int z)]) hx hb dX9_isShaded_28 hl (by decide) rfl (fun ls hl => ?_)
      refine (fun (key : ∀ (n9_30 : Nat) (k9_30 : Int32)  (H : Heap) (locs : List Loc) (ls : Array Slot), (0 ≤ k9_30.toInt ∧ k9_30.toInt ≤ 16) → 16 < k9_30.toInt + n9_30 → PD D A [(sw_9 h0 g b0 b5 b6 b7 b8 b9 b10 b11 b12 b13 b14 b17 b18 b19 b23 b24 b25 b26 b27 b29 b31 b32 b33), (sw_in cT (g 0) 288 a0)] H → va_S A s.heap H locs → lv_has ls 7 [(6, .int k9_30), (5, .int x), (4, .int y), (0, .ref h0), (1, .int x), (2, .int y), (3, .int z)] → W p l e _ s m _ below meth c H locs _ _ _ (F0 m 30 ls [])) => key (Int.toNat (16 - z_3.toInt) + 1) (z_3)  _ _ _ (by omega) (by omega)  ⟨hP, hD⟩ hS (lv_sub hl [0, 1, 2, 3, 4, 5, 6] rfl)) ?_
      intro n9_30
      induction n9_30 with
      | zero => intro k9_30  H locs ls hq1 hq2; exact absurd hq2 (by omega)
      | succ n9_30 ih_30 =>
        intro k9_30  H locs ls hq1_30 hq2_30  hPD hS hl
        obtain ⟨hP, hD⟩ := hPD
        refine lv_iload hx hb dX9_isShaded_30 (lv_at hl 0 rfl) ?_
        refine lv_iload hx hb dX9_isShaded_32 (lv_at hl 1 rfl) ?_
        refine lv_icmp_ge (tgt := 72) hx hb dX9_isShaded_34 (by decide) (fun c_4 => ?_) (fun c_4 => ?_)
        · have ic_4 : x.toInt ≤ k9_30.toInt := ile c_4 (rfl) (rfl)
          refine lv_iconst (v := 0) hx hb dX9_isShaded_72 (by decide) ?_
          exact x_zret hx hb hr hlk hP hD hS [0, 1] (()) rfl (by decide) rfl trivial (by decide) (by decide) dX9_isShaded_73
        · have ic_4 : k9_30.toInt < x.toInt := inle c_4 (rfl) (rfl)
          refine lv_aload_n hx hb dX9_isShaded_37 rfl (lv_at hl 3 rfl) ?_
          refine va_get (D := D) (ci := 9) (v := .ref (g 0)) (C := RX9) (T := TX9) (N := 37) hx hb htg gRX9 hown hK hP 0 rfl rfl 1 (by decide) (htg _ wi_1151) (fun _ h9 => h9) rfl dX9_isShaded_38 ?_
          refine lv_bipush (v := 48) hx hb dX9_isShaded_41 (by decide) ?_
          refine lv_iload hx hb dX9_isShaded_43 (lv_at hl 0 rfl) ?_
          refine lv_iadd hx hb dX9_isShaded_45 ?_
          refine lv_topi (fun z_5 ez_5 => ?_)
          have iz_5 : z_5.toInt = 48 + k9_30.toInt := toInt_addI ez_5 (by decide) (rfl) (by omega)
          refine va_iald hx hb hK hP 1 0 rfl rfl (vp_in_iff.mpr (by omega)) dX9_isShaded_46 ?_
          refine lv_topi (fun z_6 ez_6 => ?_)
          refine lv_iload hx hb dX9_isShaded_47 (lv_at hl 1 rfl) ?_
          refine lv_iload hx hb dX9_isShaded_49 (lv_at hl 2 rfl) ?_
          refine lv_isub hx hb dX9_isShaded_51 ?_
          refine lv_topi (fun z_7 ez_7 => ?_)
          have iz_7 : z_7.toInt = x.toInt - y.toInt := toInt_subI ez_7 (rfl) (rfl) (by omega)
          refine lv_imul hx hb dX9_isShaded_52 ?_
          refine lv_topi (fun z_8 ez_8 => ?_)
          refine lv_iload_n hx hb dX9_isShaded_53 rfl (lv_at hl 6 rfl) ?_
          refine lv_iload hx hb dX9_isShaded_54 (lv_at hl 0 rfl) ?_
          refine lv_iload_n hx hb dX9_isShaded_56 rfl (lv_at hl 5 rfl) ?_
          refine xk_i (wr := [(sw_9 h0 g b0 b5 b6 b7 b8 b9 b10 b11 b12 b13 b14 b17 b18 b19 b23 b24 b25 b26 b27 b29 b31 b32 b33), (sw_in cT (g 0) 288 a0)]) (xr_S (n := 2) (As := [.int k9_30, .int y]) (rest := [.int z, .int z_8]) ⟨hx, hb, hml, hown, htg⟩ hK hN hP hD hS hA [] rfl (by decide) (m_off l D cT _ (k9_30) (y)) wi_1355 wi_1356 wi_131 wi_1357 ⟨rfl, by decide +kernel⟩ ⟨Nat.le_of_ble_eq_true rfl, Nat.le_of_ble_eq_true rfl⟩ rfl hl.1 rfl (Nat.le_of_ble_eq_true rfl) dX9_isShaded_57 ⟨Nat.le_of_ble_eq_true rfl, Nat.le_of_ble_eq_true rfl⟩) hP hD hS hA [] [0, 1] rfl rfl (by decide) (by decide) (fun r_10 u_9 H locs hwr_10 hP hD hS => ?_)
          obtain ⟨hP, hD⟩ : PD D A [(sw_9 h0 g b0 b5 b6 b7 b8 b9 b10 b11 b12 b13 b14 b17 b18 b19 b23 b24 b25 b26 b27 b29 b31 b32 b33), (sw_in cT (g 0) 288 a0)] _ := ⟨hP, hD⟩
          refine lv_imul hx hb dX9_isShaded_60 ?_
          refine lv_topi (fun z_11 ez_11 => ?_)
          refine lv_icmp_le (tgt := 66) hx hb dX9_isShaded_61 (by decide) (fun c_12 => ?_) (fun c_12 => ?_)
          · have ic_12 : z_8.toInt ≤ z_11.toInt := ile c_12 (rfl) (rfl)
            obtain ⟨z_13, ez_13⟩ : ∃ w : Int32, w = k9_30 + 1 := ⟨_, rfl⟩
            have iz_13 : z_13.toInt = k9_30.toInt + 1 := toInt_addI ez_13 (rfl) (by decide) (by omega)
            refine lv_iinc (v := z_13) (lv' := [(6, .int z_13), (5, .int x), (4, .int y), (0, .ref h0), (1, .int x), (2, .int y), (3, .int z)]) hx hb dX9_isShaded_66 hl (k := 0) rfl (by rw [ez_13]; rfl) (by decide) rfl (fun ls hl => ?_)
            refine lv_goto (tgt := 30) hx hb dX9_isShaded_69 (by decide) ?_
            exact ih_30 (z_13)  _ _ _ (by omega) (by omega)  ⟨hP.sub [0, 1] rfl, hD.sub [0, 1] (by decide) rfl⟩ hS (lv_sub hl [0, 1, 2, 3, 4, 5, 6] rfl)
          · have ic_12 : z_11.toInt < z_8.toInt := inle c_12 (rfl) (rfl)
            refine lv_iconst (v := 1) hx hb dX9_isShaded_64 (by decide) ?_
            exact x_zret hx hb hr hlk hP hD hS [0, 1] (()) rfl (by decide) rfl trivial (by decide) (by decide) dX9_isShaded_65
    · have ic_2 : x.toInt < y.toInt := inle c_2 (rfl) (rfl)
      refine lv_iload_n hx hb dX9_isShaded_17 rfl (lv_at hl 3 rfl) ?_
      refine lv_goto (tgt := 22) hx hb dX9_isShaded_18 (by decide) ?_
      refine lv_istore (lv' := [(5, .int y), (4, .int y), (0, .ref h0), (1, .int x), (2, .int y), (3, .int z)]) hx hb dX9_isShaded_22 hl (by decide) rfl (fun ls hl => ?_)
      refine lv_iload hx hb dX9_isShaded_24 (lv_at hl 1 rfl) ?_
      refine lv_iconst (v := 1) hx hb dX9_isShaded_26 (by decide) ?_
      refine lv_iadd hx hb dX9_isShaded_27 ?_
      refine lv_topi (fun z_14 ez_14 => ?_)
      have iz_14 : z_14.toInt = y.toInt + 1 := toInt_addI ez_14 (rfl) (by decide) (by omega)
      refine lv_istore (lv' := [(6, .int z_14), (5, .int y), (4, .int y), (0, .ref h0), (1, .int x), (2, .int y), (3, .int z)]) hx hb dX9_isShaded_28 hl (by decide) rfl (fun ls hl => ?_)
      refine (fun (key : ∀ (n9_30 : Nat) (k9_30 : Int32)  (H : Heap) (locs : List Loc) (ls : Array Slot), (0 ≤ k9_30.toInt ∧ k9_30.toInt ≤ 16) → 16 < k9_30.toInt + n9_30 → PD D A [(sw_9 h0 g b0 b5 b6 b7 b8 b9 b10 b11 b12 b13 b14 b17 b18 b19 b23 b24 b25 b26 b27 b29 b31 b32 b33), (sw_in cT (g 0) 288 a0)] H → va_S A s.heap H locs → lv_has ls 7 [(6, .int k9_30), (5, .int y), (4, .int y), (0, .ref h0), (1, .int x), (2, .int y), (3, .int z)] → W p l e _ s m _ below meth c H locs _ _ _ (F0 m 30 ls [])) => key (Int.toNat (16 - z_14.toInt) + 1) (z_14)  _ _ _ (by omega) (by omega)  ⟨hP, hD⟩ hS (lv_sub hl [0, 1, 2, 3, 4, 5, 6] rfl)) ?_
      intro n9_30
      induction n9_30 with
      | zero => intro k9_30  H locs ls hq1 hq2; exact absurd hq2 (by omega)
      | succ n9_30 ih_30 =>
        intro k9_30  H locs ls hq1_30 hq2_30  hPD hS hl
        obtain ⟨hP, hD⟩ := hPD
        refine lv_iload hx hb dX9_isShaded_30 (lv_at hl 0 rfl) ?_
        refine lv_iload hx hb dX9_isShaded_32 (lv_at hl 1 rfl) ?_
        refine lv_icmp_ge (tgt := 72) hx hb dX9_isShaded_34 (by decide) (fun c_15 => ?_) (fun c_15 => ?_)
        · have ic_15 : y.toInt ≤ k9_30.toInt := ile c_15 (rfl) (rfl)
          refine lv_iconst (v := 0) hx hb dX9_isShaded_72 (by decide) ?_
          exact x_zret hx hb hr hlk hP hD hS [0, 1] (()) rfl (by decide) rfl trivial (by decide) (by decide) dX9_isShaded_73
        · have ic_15 : k9_30.toInt < y.toInt := inle c_15 (rfl) (rfl)
          refine lv_aload_n hx hb dX9_isShaded_37 rfl (lv_at hl 3 rfl) ?_
          refine va_get (D := D) (ci := 9) (v := .ref (g 0)) (C := RX9) (T := TX9) (N := 37) hx hb htg gRX9 hown hK hP 0 rfl rfl 1 (by decide) (htg _ wi_1151) (fun _ h9 => h9) rfl dX9_isShaded_38 ?_
          refine lv_bipush (v := 48) hx hb dX9_isShaded_41 (by decide) ?_
          refine lv_iload hx hb dX9_isShaded_43 (lv_at hl 0 rfl) ?_
          refine lv_iadd hx hb dX9_isShaded_45 ?_
          refine lv_topi (fun z_16 ez_16 => ?_)
          have iz_16 : z_16.toInt = 48 + k9_30.toInt := toInt_addI ez_16 (by decide) (rfl) (by omega)
          refine va_iald hx hb hK hP 1 0 rfl rfl (vp_in_iff.mpr (by omega)) dX9_isShaded_46 ?_
          refine lv_topi (fun z_17 ez_17 => ?_)
          refine lv_iload hx hb dX9_isShaded_47 (lv_at hl 1 rfl) ?_
          refine lv_iload hx hb dX9_isShaded_49 (lv_at hl 2 rfl) ?_
          refine lv_isub hx hb dX9_isShaded_51 ?_
          refine lv_topi (fun z_18 ez_18 => ?_)
          have iz_18 : z_18.toInt = y.toInt - y.toInt := toInt_subI ez_18 (rfl) (rfl) (by omega)
          refine lv_imul hx hb dX9_isShaded_52 ?_
          refine lv_topi (fun z_19 ez_19 => ?_)
          refine lv_iload_n hx hb dX9_isShaded_53 rfl (lv_at hl 6 rfl) ?_
          refine lv_iload hx hb dX9_isShaded_54 (lv_at hl 0 rfl) ?_
          refine lv_iload_n hx hb dX9_isShaded_56 rfl (lv_at hl 5 rfl) ?_
          refine xk_i (wr := [(sw_9 h0 g b0 b5 b6 b7 b8 b9 b10 b11 b12 b13 b14 b17 b18 b19 b23 b24 b25 b26 b27 b29 b31 b32 b33), (sw_in cT (g 0) 288 a0)]) (xr_S (n := 2) (As := [.int k9_30, .int y]) (rest := [.int z, .int z_19]) ⟨hx, hb, hml, hown, htg⟩ hK hN hP hD hS hA [] rfl (by decide) (m_off l D cT _ (k9_30) (y)) wi_1355 wi_1356 wi_131 wi_1357 ⟨rfl, by decide +kernel⟩ ⟨Nat.le_of_ble_eq_true rfl, Nat.le_of_ble_eq_true rfl⟩ rfl hl.1 rfl (Nat.le_of_ble_eq_true rfl) dX9_isShaded_57 ⟨Nat.le_of_ble_eq_true rfl, Nat.le_of_ble_eq_true rfl⟩) hP hD hS hA [] [0, 1] rfl rfl (by decide) (by decide) (fun r_21 u_20 H locs hwr_21 hP hD hS => ?_)
          obtain ⟨hP, hD⟩ : PD D A [(sw_9 h0 g b0 b5 b6 b7 b8 b9 b10 b11 b12 b13 b14 b17 b18 b19 b23 b24 b25 b26 b27 b29 b31 b32 b33), (sw_in cT (g 0) 288 a0)] _ := ⟨hP, hD⟩
          refine lv_imul hx hb dX9_isShaded_60 ?_
          refine lv_topi (fun z_22 ez_22 => ?_)
          refine lv_icmp_le (tgt := 66) hx hb dX9_isShaded_61 (by decide) (fun c_23 => ?_) (fun c_23 => ?_)
          · have ic_23 : z_19.toInt ≤ z_22.toInt := ile c_23 (rfl) (rfl)
            obtain ⟨z_24, ez_24⟩ : ∃ w : Int32, w = k9_30 + 1 := ⟨_, rfl⟩
            have iz_24 : z_24.toInt = k9_30.toInt + 1 := toInt_addI ez_24 (rfl) (by decide) (by omega)
            refine lv_iinc (v := z_24) (lv' := [(6, .int z_24), (5, .int y), (4, .int y), (0, .ref h0), (1, .int x), (2, .int y), (3, .int z)]) hx hb dX9_isShaded_66 hl (k := 0) rfl (by rw [ez_24]; rfl) (by decide) rfl (fun ls hl => ?_)
            refine lv_goto (tgt := 30) hx hb dX9_isShaded_69 (by decide) ?_
            exact ih_30 (z_24)  _ _ _ (by omega) (by omega)  ⟨hP.sub [0, 1] rfl, hD.sub [0, 1] (by decide) rfl⟩ hS (lv_sub hl [0, 1, 2, 3, 4, 5, 6] rfl)
          · have ic_23 : z_22.toInt < z_19.toInt := inle c_23 (rfl) (rfl)
            refine lv_iconst (v := 1) hx hb dX9_isShaded_64 (by decide) ?_
            exact x_zret hx hb hr hlk hP hD hS [0, 1] (()) rfl (by decide) rfl trivial (by decide) (by decide) dX9_isShaded_65
  · have ic_1 : x.toInt < y.toInt := inle c_1 (rfl) (rfl)
    refine lv_iload_n hx hb dX9_isShaded_5 rfl (lv_at hl 1 rfl) ?_
    refine lv_goto (tgt := 10) hx hb dX9_isShaded_6 (by decide) ?_
    refine lv_istore (lv' := [(4, .int x), (0, .ref h0), (1, .int x), (2, .int y), (3, .int z)]) hx hb dX9_isShaded_10 hl (by decide) rfl (fun ls hl => ?_)
    refine lv_iload_n hx hb dX9_isShaded_12 rfl (lv_at hl 2 rfl) ?_
    refine lv_iload_n hx hb dX9_isShaded_13 rfl (lv_at hl 3 rfl) ?_
    refine lv_icmp_ge (tgt := 21) hx hb dX9_isShaded_14 (by decide) (fun c_25 => ?_) (fun c_25 => ?_)
    · have ic_25 : y.toInt ≤ x.toInt := ile c_25 (rfl) (rfl)
      refine lv_iload_n hx hb dX9_isShaded_21 rfl (lv_at hl 2 rfl) ?_
      refine lv_istore (lv' := [(5, .int x), (4, .int x), (0, .ref h0), (1, .int x), (2, .int y), (3, .int z)]) hx hb dX9_isShaded_22 hl (by decide) rfl (fun ls hl => ?_)
      refine lv_iload hx hb dX9_isShaded_24 (lv_at hl 1 rfl) ?_
      refine lv_iconst (v := 1) hx hb dX9_isShaded_26 (by decide) ?_
      refine lv_iadd hx hb dX9_isShaded_27 ?_
      refine lv_topi (fun z_26 ez_26 => ?_)
      have iz_26 : z_26.toInt = x.toInt + 1 := toInt_addI ez_26 (rfl) (by decide) (by omega)
      refine lv_istore (lv' := [(6, .int z_26), (5, .int x), (4, .int x), (0, .ref h0), (1, .int x), (2, .int y), (3, .int z)]) hx hb dX9_isShaded_28 hl (by decide) rfl (fun ls hl => ?_)
      refine (fun (key : ∀ (n9_30 : Nat) (k9_30 : Int32)  (H : Heap) (locs : List Loc) (ls : Array Slot), (0 ≤ k9_30.toInt ∧ k9_30.toInt ≤ 16) → 16 < k9_30.toInt + n9_30 → PD D A [(sw_9 h0 g b0 b5 b6 b7 b8 b9 b10 b11 b12 b13 b14 b17 b18 b19 b23 b24 b25 b26 b27 b29 b31 b32 b33), (sw_in cT (g 0) 288 a0)] H → va_S A s.heap H locs → lv_has ls 7 [(6, .int k9_30), (5, .int x), (4, .int x), (0, .ref h0), (1, .int x), (2, .int y), (3, .int z)] → W p l e _ s m _ below meth c H locs _ _ _ (F0 m 30 ls [])) => key (Int.toNat (16 - z_26.toInt) + 1) (z_26)  _ _ _ (by omega) (by omega)  ⟨hP, hD⟩ hS (lv_sub hl [0, 1, 2, 3, 4, 5, 6] rfl)) ?_
      intro n9_30
      induction n9_30 with
      | zero => intro k9_30  H locs ls hq1 hq2; exact absurd hq2 (by omega)
      | succ n9_30 ih_30 =>
        intro k9_30  H locs ls hq1_30 hq2_30  hPD hS hl
        obtain ⟨hP, hD⟩ := hPD
        refine lv_iload hx hb dX9_isShaded_30 (lv_at hl 0 rfl) ?_
        refine lv_iload hx hb dX9_isShaded_32 (lv_at hl 1 rfl) ?_
        refine lv_icmp_ge (tgt := 72) hx hb dX9_isShaded_34 (by decide) (fun c_27 => ?_) (fun c_27 => ?_)
        · have ic_27 : x.toInt ≤ k9_30.toInt := ile c_27 (rfl) (rfl)
          refine lv_iconst (v := 0) hx hb dX9_isShaded_72 (by decide) ?_
          exact x_zret hx hb hr hlk hP hD hS [0, 1] (()) rfl (by decide) rfl trivial (by decide) (by decide) dX9_isShaded_73
        · have ic_27 : k9_30.toInt < x.toInt := inle c_27 (rfl) (rfl)
          refine lv_aload_n hx hb dX9_isShaded_37 rfl (lv_at hl 3 rfl) ?_
          refine va_get (D := D) (ci := 9) (v := .ref (g 0)) (C := RX9) (T := TX9) (N := 37) hx hb htg gRX9 hown hK hP 0 rfl rfl 1 (by decide) (htg _ wi_1151) (fun _ h9 => h9) rfl dX9_isShaded_38 ?_
          refine lv_bipush (v := 48) hx hb dX9_isShaded_41 (by decide) ?_
          refine lv_iload hx hb dX9_isShaded_43 (lv_at hl 0 rfl) ?_
          refine lv_iadd hx hb dX9_isShaded_45 ?_
          refine lv_topi (fun z_28 ez_28 => ?_)
          have iz_28 : z_28.toInt = 48 + k9_30.toInt := toInt_addI ez_28 (by decide) (rfl) (by omega)
          refine va_iald hx hb hK hP 1 0 rfl rfl (vp_in_iff.mpr (by omega)) dX9_isShaded_46 ?_
          refine lv_topi (fun z_29 ez_29 => ?_)
          refine lv_iload hx hb dX9_isShaded_47 (lv_at hl 1 rfl) ?_
          refine lv_iload hx hb dX9_isShaded_49 (lv_at hl 2 rfl) ?_
          refine lv_isub hx hb dX9_isShaded_51 ?_
          refine lv_topi (fun z_30 ez_30 => ?_)
          have iz_30 : z_30.toInt = x.toInt - x.toInt := toInt_subI ez_30 (rfl) (rfl) (by omega)
          refine lv_imul hx hb dX9_isShaded_52 ?_
          refine lv_topi (fun z_31 ez_31 => ?_)
          refine lv_iload_n hx hb dX9_isShaded_53 rfl (lv_at hl 6 rfl) ?_
          refine lv_iload hx hb dX9_isShaded_54 (lv_at hl 0 rfl) ?_
          refine lv_iload_n hx hb dX9_isShaded_56 rfl (lv_at hl 5 rfl) ?_
          refine xk_i (wr := [(sw_9 h0 g b0 b5 b6 b7 b8 b9 b10 b11 b12 b13 b14 b17 b18 b19 b23 b24 b25 b26 b27 b29 b31 b32 b33), (sw_in cT (g 0) 288 a0)]) (xr_S (n := 2) (As := [.int k9_30, .int y]) (rest := [.int z, .int z_31]) ⟨hx, hb, hml, hown, htg⟩ hK hN hP hD hS hA [] rfl (by decide) (m_off l D cT _ (k9_30) (y)) wi_1355 wi_1356 wi_131 wi_1357 ⟨rfl, by decide +kernel⟩ ⟨Nat.le_of_ble_eq_true rfl, Nat.le_of_ble_eq_true rfl⟩ rfl hl.1 rfl (Nat.le_of_ble_eq_true rfl) dX9_isShaded_57 ⟨Nat.le_of_ble_eq_true rfl, Nat.le_of_ble_eq_true rfl⟩) hP hD hS hA [] [0, 1] rfl rfl (by decide) (by decide) (fun r_33 u_32 H locs hwr_33 hP hD hS => ?_)
          obtain ⟨hP, hD⟩ : PD D A [(sw_9 h0 g b0 b5 b6 b7 b8 b9 b10 b11 b12 b13 b14 b17 b18 b19 b23 b24 b25 b26 b27 b29 b31 b32 b33), (sw_in cT (g 0) 288 a0)] _ := ⟨hP, hD⟩
          refine lv_imul hx hb dX9_isShaded_60 ?_
          refine lv_topi (fun z_34 ez_34 => ?_)
          refine lv_icmp_le (tgt := 66) hx hb dX9_isShaded_61 (by decide) (fun c_35 => ?_) (fun c_35 => ?_)
          · have ic_35 : z_31.toInt ≤ z_34.toInt := ile c_35 (rfl) (rfl)
            obtain ⟨z_36, ez_36⟩ : ∃ w : Int32, w = k9_30 + 1 := ⟨_, rfl⟩
            have iz_36 : z_36.toInt = k9_30.toInt + 1 := toInt_addI ez_36 (rfl) (by decide) (by omega)
            refine lv_iinc (v := z_36) (lv' := [(6, .int z_36), (5, .int x), (4, .int x), (0, .ref h0), (1, .int x), (2, .int y), (3, .int z)]) hx hb dX9_isShaded_66 hl (k := 0) rfl (by rw [ez_36]; rfl) (by decide) rfl (fun ls hl => ?_)
            refine lv_goto (tgt := 30) hx hb dX9_isShaded_69 (by decide) ?_
            exact ih_30 (z_36)  _ _ _ (by omega) (by omega)  ⟨hP.sub [0, 1] rfl, hD.sub [0, 1] (by decide) rfl⟩ hS (lv_sub hl [0, 1, 2, 3, 4, 5, 6] rfl)
          · have ic_35 : z_34.toInt < z_31.toInt := inle c_35 (rfl) (rfl)
            refine lv_iconst (v := 1) hx hb dX9_isShaded_64 (by decide) ?_
            exact x_zret hx hb hr hlk hP hD hS [0, 1] (()) rfl (by decide) rfl trivial (by decide) (by decide) dX9_isShaded_65
    · have ic_25 : x.toInt < y.toInt := inle c_25 (rfl) (rfl)
      refine lv_iload_n hx hb dX9_isShaded_17 rfl (lv_at hl 3 rfl) ?_
      refine lv_goto (tgt := 22) hx hb dX9_isShaded_18 (by decide) ?_
      refine lv_istore (lv' := [(5, .int y), (4, .int x), (0, .ref h0), (1, .int x), (2, .int y), (3, .int z)]) hx hb dX9_isShaded_22 hl (by decide) rfl (fun ls hl => ?_)
      refine lv_iload hx hb dX9_isShaded_24 (lv_at hl 1 rfl) ?_
      refine lv_iconst (v := 1) hx hb dX9_isShaded_26 (by decide) ?_
      refine lv_iadd hx hb dX9_isShaded_27 ?_
      refine lv_topi (fun z_37 ez_37 => ?_)
      have iz_37 : z_37.toInt = x.toInt + 1 := toInt_addI ez_37 (rfl) (by decide) (by omega)
      refine lv_istore (lv' := [(6, .int z_37), (5, .int y), (4, .int x), (0, .ref h0), (1, .int x), (2, .int y), (3, .int z)]) hx hb dX9_isShaded_28 hl (by decide) rfl (fun ls hl => ?_)
      refine (fun (key : ∀ (n9_30 : Nat) (k9_30 : Int32)  (H : Heap) (locs : List Loc) (ls : Array Slot), (0 ≤ k9_30.toInt ∧ k9_30.toInt ≤ 16) → 16 < k9_30.toInt + n9_30 → PD D A [(sw_9 h0 g b0 b5 b6 b7 b8 b9 b10 b11 b12 b13 b14 b17 b18 b19 b23 b24 b25 b26 b27 b29 b31 b32 b33), (sw_in cT (g 0) 288 a0)] H → va_S A s.heap H locs → lv_has ls 7 [(6, .int k9_30), (5, .int y), (4, .int x), (0, .ref h0), (1, .int x), (2, .int y), (3, .int z)] → W p l e _ s m _ below meth c H locs _ _ _ (F0 m 30 ls [])) => key (Int.toNat (16 - z_37.toInt) + 1) (z_37)  _ _ _ (by omega) (by omega)  ⟨hP, hD⟩ hS (lv_sub hl [0, 1, 2, 3, 4, 5, 6] rfl)) ?_
      intro n9_30
      induction n9_30 with
      | zero => intro k9_30  H locs ls hq1 hq2; exact absurd hq2 (by omega)
      | succ n9_30 ih_30 =>
        intro k9_30  H locs ls hq1_30 hq2_30  hPD hS hl
        obtain ⟨hP, hD⟩ := hPD
        refine lv_iload hx hb dX9_isShaded_30 (lv_at hl 0 rfl) ?_
        refine lv_iload hx hb dX9_isShaded_32 (lv_at hl 1 rfl) ?_
        refine lv_icmp_ge (tgt := 72) hx hb dX9_isShaded_34 (by decide) (fun c_38 => ?_) (fun c_38 => ?_)
        · have ic_38 : y.toInt ≤ k9_30.toInt := ile c_38 (rfl) (rfl)
          refine lv_iconst (v := 0) hx hb dX9_isShaded_72 (by decide) ?_
          exact x_zret hx hb hr hlk hP hD hS [0, 1] (()) rfl (by decide) rfl trivial (by decide) (by decide) dX9_isShaded_73
        · have ic_38 : k9_30.toInt < y.toInt := inle c_38 (rfl) (rfl)
          refine lv_aload_n hx hb dX9_isShaded_37 rfl (lv_at hl 3 rfl) ?_
          refine va_get (D := D) (ci := 9) (v := .ref (g 0)) (C := RX9) (T := TX9) (N := 37) hx hb htg gRX9 hown hK hP 0 rfl rfl 1 (by decide) (htg _ wi_1151) (fun _ h9 => h9) rfl dX9_isShaded_38 ?_
          refine lv_bipush (v := 48) hx hb dX9_isShaded_41 (by decide) ?_
          refine lv_iload hx hb dX9_isShaded_43 (lv_at hl 0 rfl) ?_
          refine lv_iadd hx hb dX9_isShaded_45 ?_
          refine lv_topi (fun z_39 ez_39 => ?_)
          have iz_39 : z_39.toInt = 48 + k9_30.toInt := toInt_addI ez_39 (by decide) (rfl) (by omega)
          refine va_iald hx hb hK hP 1 0 rfl rfl (vp_in_iff.mpr (by omega)) dX9_isShaded_46 ?_
          refine lv_topi (fun z_40 ez_40 => ?_)
          refine lv_iload hx hb dX9_isShaded_47 (lv_at hl 1 rfl) ?_
          refine lv_iload hx hb dX9_isShaded_49 (lv_at hl 2 rfl) ?_
          refine lv_isub hx hb dX9_isShaded_51 ?_
          refine lv_topi (fun z_41 ez_41 => ?_)
          have iz_41 : z_41.toInt = y.toInt - x.toInt := toInt_subI ez_41 (rfl) (rfl) (by omega)
          refine lv_imul hx hb dX9_isShaded_52 ?_
          refine lv_topi (fun z_42 ez_42 => ?_)
          refine lv_iload_n hx hb dX9_isShaded_53 rfl (lv_at hl 6 rfl) ?_
          refine lv_iload hx hb dX9_isShaded_54 (lv_at hl 0 rfl) ?_
          refine lv_iload_n hx hb dX9_isShaded_56 rfl (lv_at hl 5 rfl) ?_
          refine xk_i (wr := [(sw_9 h0 g b0 b5 b6 b7 b8 b9 b10 b11 b12 b13 b14 b17 b18 b19 b23 b24 b25 b26 b27 b29 b31 b32 b33), (sw_in cT (g 0) 288 a0)]) (xr_S (n := 2) (As := [.int k9_30, .int y]) (rest := [.int z, .int z_42]) ⟨hx, hb, hml, hown, htg⟩ hK hN hP hD hS hA [] rfl (by decide) (m_off l D cT _ (k9_30) (y)) wi_1355 wi_1356 wi_131 wi_1357 ⟨rfl, by decide +kernel⟩ ⟨Nat.le_of_ble_eq_true rfl, Nat.le_of_ble_eq_true rfl⟩ rfl hl.1 rfl (Nat.le_of_ble_eq_true rfl) dX9_isShaded_57 ⟨Nat.le_of_ble_eq_true rfl, Nat.le_of_ble_eq_true rfl⟩) hP hD hS hA [] [0, 1] rfl rfl (by decide) (by decide) (fun r_44 u_43 H locs hwr_44 hP hD hS => ?_)
          obtain ⟨hP, hD⟩ : PD D A [(sw_9 h0 g b0 b5 b6 b7 b8 b9 b10 b11 b12 b13 b14 b17 b18 b19 b23 b24 b25 b26 b27 b29 b31 b32 b33), (sw_in cT (g 0) 288 a0)] _ := ⟨hP, hD⟩
          refine lv_imul hx hb dX9_isShaded_60 ?_
          refine lv_topi (fun z_45 ez_45 => ?_)
          refine lv_icmp_le (tgt := 66) hx hb dX9_isShaded_61 (by decide) (fun c_46 => ?_) (fun c_46 => ?_)
          · have ic_46 : z_42.toInt ≤ z_45.toInt := ile c_46 (rfl) (rfl)
            obtain ⟨z_47, ez_47⟩ : ∃ w : Int32, w = k9_30 + 1 := ⟨_, rfl⟩
            have iz_47 : z_47.toInt = k9_30.toInt + 1 := toInt_addI ez_47 (rfl) (by decide) (by omega)
            refine lv_iinc (v := z_47) (lv' := [(6, .int z_47), (5, .int y), (4, .int x), (0, .ref h0), (1, .int x), (2, .int y), (3, .int z)]) hx hb dX9_isShaded_66 hl (k := 0) rfl (by rw [ez_47]; rfl) (by decide) rfl (fun ls hl => ?_)
            refine lv_goto (tgt := 30) hx hb dX9_isShaded_69 (by decide) ?_
            exact ih_30 (z_47)  _ _ _ (by omega) (by omega)  ⟨hP.sub [0, 1] rfl, hD.sub [0, 1] (by decide) rfl⟩ hS (lv_sub hl [0, 1, 2, 3, 4, 5, 6] rfl)
          · have ic_46 : z_45.toInt < z_42.toInt := inle c_46 (rfl) (rfl)
            refine lv_iconst (v := 1) hx hb dX9_isShaded_64 (by decide) ?_
            exact x_zret hx hb hr hlk hP hD hS [0, 1] (()) rfl (by decide) rfl trivial (by decide) (by decide) dX9_isShaded_65
set_option maxHeartbeats 4000000 in
set_option maxRecDepth 100000 in
theorem m_lightBy (l : Launch) (D : va_G) (cT : Nat → ClassId) (sz : Nat) (h0 : Nat) (g : Nat → Nat) (b0 : Int32) (b5 : Int32) (b6 : Int32) (b7 : Int32) (b8 : Int32) (b9 : Int32) (b10 : Int32) (b11 : Int32) (b12 : Int32) (b13 : Int32) (b14 : Int32) (b17 : Int32) (b18 : Int32) (b19 : Int32) (b23 : Int32) (b24 : Int32) (b25 : Int32) (b26 : Int32) (b27 : Int32) (b29 : Int32) (b31 : Int32) (b32 : Int32) (b33 : Int32) (hb5 : 0 ≤ b5.toInt ∧ b5.toInt ≤ 900) (a0 : Nat → Int32) (pa0 : PI 288 a0) (x : Int32) (y : Int32) (z : Int32) (hxx : 0 ≤ x.toInt ∧ x.toInt ≤ 15) (hyy : 0 ≤ y.toInt ∧ y.toInt ≤ 15) : Met l yX9_lightBy (wsc yX9_lightBy cX9_lightBy 4 (some .int)) { frames := 4, cells := 0, slots := 0, locals := 147 } (va_Pc [.ref h0, .int x, .int y, .int z] (PX D cT sz [(sw_9 h0 g b0 b5 b6 b7 b8 b9 b10 b11 b12 b13 b14 b17 b18 b19 b23 b24 b25 b26 b27 b29 b31 b32 b33), (sw_in cT (g 0) 288 a0)])) (va_Qi (fun (r : Int32) (u : Unit) => (True)) (fun u t => RW D (va_A [(sw_9 h0 g b0 b5 b6 b7 b8 b9 b10 b11 b12 b13 b14 b17 b18 b19 b23 b24 b25 b26 b27 b29 b31 b32 b33), (sw_in cT (g 0) 288 a0)] sz) ((fun _ : Unit => [(sw_9 h0 g b0 b5 b6 b7 b8 b9 b10 b11 b12 b13 b14 b17 b18 b19 b23 b24 b25 b26 b27 b29 b31 b32 b33), (sw_in cT (g 0) 288 a0)]) u) t) (va_A [(sw_9 h0 g b0 b5 b6 b7 b8 b9 b10 b11 b12 b13 b14 b17 b18 b19 b23 b24 b25 b26 b27 b29 b31 b32 b33), (sw_in cT (g 0) 288 a0)] sz)) 0 0 (va_A [(sw_9 h0 g b0 b5 b6 b7 b8 b9 b10 b11 b12 b13 b14 b17 b18 b19 b23 b24 b25 b26 b27 b29 b31 b32 b33), (sw_in cT (g 0) 288 a0)] sz) := by
  refine m_of (y := yX9_lightBy) (cc := cX9_lightBy) (nL := 4) (ret := (some .int)) (D := D) (cT := cT) (av := [.ref h0, .int x, .int y, .int z]) (wi := [(sw_9 h0 g b0 b5 b6 b7 b8 b9 b10 b11 b12 b13 b14 b17 b18 b19 b23 b24 b25 b26 b27 b29 b31 b32 b33), (sw_in cT (g 0) 288 a0)]) (fun A => va_Qi (fun (r : Int32) (u : Unit) => (True)) (fun u t => RW D A ((fun _ : Unit => [(sw_9 h0 g b0 b5 b6 b7 b8 b9 b10 b11 b12 b13 b14 b17 b18 b19 b23 b24 b25 b26 b27 b29 b31 b32 b33), (sw_in cT (g 0) 288 a0)]) u) t) A) (by decide) (Nat.le_of_ble_eq_true rfl) ?_
  intro p e s m below meth c A hx hb hml hown htg hK hN hr hlk hnm hsz hP hD hS hA ls hl
  have hown : s.vm.findClass RX9 = some m.cls := hown
  have hl : lv_has ls 4 [(0, .ref h0), (1, .int x), (2, .int y), (3, .int z)] := hl
  have tc_0 : (0 : Int32).toInt = 0 := by decide
  refine lv_aload_n hx hb dX9_lightBy_0 rfl (lv_at hl 0 rfl) ?_
  refine lv_iload_n hx hb dX9_lightBy_1 rfl (lv_at hl 1 rfl) ?_
  refine lv_iload_n hx hb dX9_lightBy_2 rfl (lv_at hl 2 rfl) ?_
  refine lv_iload_n hx hb dX9_lightBy_3 rfl (lv_at hl 3 rfl) ?_
  refine xk_i (wr := []) (xr_V (n := 3) (As := [.int x, .int y, .int z]) (rest := []) ⟨hx, hb, hml, hown, htg⟩ hK hN hP hD hS hA [0, 1] rfl (by decide) (m_isShaded l D cT _ (h0) (g) (b0) (b5) (b6) (b7) (b8) (b9) (b10) (b11) (b12) (b13) (b14) (b17) (b18) (b19) (b23) (b24) (b25) (b26) (b27) (b29) (b31) (b32) (b33) (by first | assumption | omega | decide | exact Or.inl (by decide) | (intro h9; exact absurd h9 (by decide)) | (intro _; omega) | (intro _; assumption) | (intro _; decide)) (a0) (by first | assumption | omega | decide | exact Or.inl (by decide) | (intro h9; exact absurd h9 (by decide)) | (intro _; omega) | (intro _; assumption) | (intro _; decide)) (x) (y) (z) (by first | assumption | omega | decide | exact Or.inl (by decide) | (intro h9; exact absurd h9 (by decide)) | (intro _; omega) | (intro _; assumption) | (intro _; decide)) (by first | assumption | omega | decide | exact Or.inl (by decide) | (intro h9; exact absurd h9 (by decide)) | (intro _; omega) | (intro _; assumption) | (intro _; decide))) wi_1351 wi_1353 wi_93 wi_131 wi_1354 rfl rfl rfl ⟨rfl, by decide +kernel⟩ ⟨Nat.le_of_ble_eq_true rfl, Nat.le_of_ble_eq_true rfl⟩ rfl hl.1 rfl (Nat.le_of_ble_eq_true rfl) dX9_lightBy_4 ⟨Nat.le_of_ble_eq_true rfl, Nat.le_of_ble_eq_true rfl⟩) hP hD hS hA [0, 1] [] rfl rfl (by decide) (by decide) (fun r_2 u_1 H locs hwr_2 hP hD hS => ?_)
  obtain ⟨hP, hD⟩ : PD D A [(sw_9 h0 g b0 b5 b6 b7 b8 b9 b10 b11 b12 b13 b14 b17 b18 b19 b23 b24 b25 b26 b27 b29 b31 b32 b33), (sw_in cT (g 0) 288 a0)] _ := ⟨hP, hD⟩
  refine lv_if_eq (tgt := 14) hx hb dX9_lightBy_7 (by decide) (fun c_3 => ?_) (fun c_3 => ?_)
  · have ic_3 : r_2.toInt = 0 := ieq c_3 (rfl) (by decide)
    refine lv_aload_n hx hb dX9_lightBy_14 rfl (lv_at hl 0 rfl) ?_
    refine lv_iload_n hx hb dX9_lightBy_15 rfl (lv_at hl 1 rfl) ?_
    refine lv_iload_n hx hb dX9_lightBy_16 rfl (lv_at hl 2 rfl) ?_
    refine xk_i (wr := []) (xr_V (n := 2) (As := [.int x, .int y]) (rest := []) ⟨hx, hb, hml, hown, htg⟩ hK hN hP hD hS hA [0, 1] rfl (by decide) (m_nearness l D cT _ (h0) (g) (b0) (b5) (b6) (b7) (b8) (b9) (b10) (b11) (b12) (b13) (b14) (b17) (b18) (b19) (b23) (b24) (b25) (b26) (b27) (b29) (b31) (b32) (b33) (by first | assumption | omega | decide | exact Or.inl (by decide) | (intro h9; exact absurd h9 (by decide)) | (intro _; omega) | (intro _; assumption) | (intro _; decide)) (a0) (by first | assumption | omega | decide | exact Or.inl (by decide) | (intro h9; exact absurd h9 (by decide)) | (intro _; omega) | (intro _; assumption) | (intro _; decide)) (x) (y)) wi_1358 wi_1360 wi_94 wi_131 wi_1361 rfl rfl rfl ⟨rfl, by decide +kernel⟩ ⟨Nat.le_of_ble_eq_true rfl, Nat.le_of_ble_eq_true rfl⟩ rfl hl.1 rfl (Nat.le_of_ble_eq_true rfl) dX9_lightBy_17 ⟨Nat.le_of_ble_eq_true rfl, Nat.le_of_ble_eq_true rfl⟩) hP hD hS hA [0, 1] [] rfl rfl (by decide) (by decide) (fun r_5 u_4 H locs hwr_5 hP hD hS => ?_)
    obtain ⟨hP, hD⟩ : PD D A [(sw_9 h0 g b0 b5 b6 b7 b8 b9 b10 b11 b12 b13 b14 b17 b18 b19 b23 b24 b25 b26 b27 b29 b31 b32 b33), (sw_in cT (g 0) 288 a0)] _ := ⟨hP, hD⟩
    exact x_iret hx hb hr hlk hP hD hS [0, 1] (()) rfl (by decide) trivial (by decide) (by decide) dX9_lightBy_20
  · have ic_3 : ¬ r_2.toInt = 0 := ine c_3 (rfl) (by decide)
    refine lv_iconst (v := 0) hx hb dX9_lightBy_10 (by decide) ?_
    refine lv_goto (tgt := 20) hx hb dX9_lightBy_11 (by decide) ?_
    exact x_iret hx hb hr hlk hP hD hS [0, 1] (()) rfl (by decide) trivial (by decide) (by decide) dX9_lightBy_20
set_option maxHeartbeats 4000000 in
set_option maxRecDepth 100000 in
theorem m_lightOf (l : Launch) (D : va_G) (cT : Nat → ClassId) (sz : Nat) (h0 : Nat) (g : Nat → Nat) (b0 : Int32) (b5 : Int32) (b6 : Int32) (b7 : Int32) (b8 : Int32) (b9 : Int32) (b10 : Int32) (b11 : Int32) (b12 : Int32) (b13 : Int32) (b14 : Int32) (b17 : Int32) (b18 : Int32) (b19 : Int32) (b23 : Int32) (b24 : Int32) (b25 : Int32) (b26 : Int32) (b27 : Int32) (b29 : Int32) (b31 : Int32) (b32 : Int32) (b33 : Int32) (hb5 : 0 ≤ b5.toInt ∧ b5.toInt ≤ 900) (a0 : Nat → Int32) (pa0 : PI 288 a0) (x : Int32) (y : Int32) (hxx : 0 ≤ x.toInt ∧ x.toInt ≤ 15) (hyy : 0 ≤ y.toInt ∧ y.toInt ≤ 15) : Met l yX9_lightOf (wsc yX9_lightOf cX9_lightOf 3 (some .int)) { frames := 5, cells := 0, slots := 0, locals := 170 } (va_Pc [.ref h0, .int x, .int y] (PX D cT sz [(sw_9 h0 g b0 b5 b6 b7 b8 b9 b10 b11 b12 b13 b14 b17 b18 b19 b23 b24 b25 b26 b27 b29 b31 b32 b33), (sw_in cT (g 0) 288 a0)])) (va_Qi (fun (r : Int32) (u : Unit) => (True)) (fun u t => RW D (va_A [(sw_9 h0 g b0 b5 b6 b7 b8 b9 b10 b11 b12 b13 b14 b17 b18 b19 b23 b24 b25 b26 b27 b29 b31 b32 b33), (sw_in cT (g 0) 288 a0)] sz) ((fun _ : Unit => [(sw_9 h0 g b0 b5 b6 b7 b8 b9 b10 b11 b12 b13 b14 b17 b18 b19 b23 b24 b25 b26 b27 b29 b31 b32 b33), (sw_in cT (g 0) 288 a0)]) u) t) (va_A [(sw_9 h0 g b0 b5 b6 b7 b8 b9 b10 b11 b12 b13 b14 b17 b18 b19 b23 b24 b25 b26 b27 b29 b31 b32 b33), (sw_in cT (g 0) 288 a0)] sz)) 0 0 (va_A [(sw_9 h0 g b0 b5 b6 b7 b8 b9 b10 b11 b12 b13 b14 b17 b18 b19 b23 b24 b25 b26 b27 b29 b31 b32 b33), (sw_in cT (g 0) 288 a0)] sz) := by
  refine m_of (y := yX9_lightOf) (cc := cX9_lightOf) (nL := 3) (ret := (some .int)) (D := D) (cT := cT) (av := [.ref h0, .int x, .int y]) (wi := [(sw_9 h0 g b0 b5 b6 b7 b8 b9 b10 b11 b12 b13 b14 b17 b18 b19 b23 b24 b25 b26 b27 b29 b31 b32 b33), (sw_in cT (g 0) 288 a0)]) (fun A => va_Qi (fun (r : Int32) (u : Unit) => (True)) (fun u t => RW D A ((fun _ : Unit => [(sw_9 h0 g b0 b5 b6 b7 b8 b9 b10 b11 b12 b13 b14 b17 b18 b19 b23 b24 b25 b26 b27 b29 b31 b32 b33), (sw_in cT (g 0) 288 a0)]) u) t) A) (by decide) (Nat.le_of_ble_eq_true rfl) ?_
  intro p e s m below meth c A hx hb hml hown htg hK hN hr hlk hnm hsz hP hD hS hA ls hl
  have hown : s.vm.findClass RX9 = some m.cls := hown
  have hl : lv_has ls 3 [(0, .ref h0), (1, .int x), (2, .int y)] := hl
  have tc_3 : (3 : Int32).toInt = 3 := by decide
  refine lv_aload_n hx hb dX9_lightOf_0 rfl (lv_at hl 0 rfl) ?_
  refine lv_iload_n hx hb dX9_lightOf_1 rfl (lv_at hl 1 rfl) ?_
  refine lv_iload_n hx hb dX9_lightOf_2 rfl (lv_at hl 2 rfl) ?_
  refine lv_aload_n hx hb dX9_lightOf_3 rfl (lv_at hl 0 rfl) ?_
  refine va_get (D := D) (ci := 9) (v := .ref (g 0)) (C := RX9) (T := TX9) (N := 37) hx hb htg gRX9 hown hK hP 0 rfl rfl 1 (by decide) (htg _ wi_1151) (fun _ h9 => h9) rfl dX9_lightOf_4 ?_
  refine lv_iconst (v := 3) hx hb dX9_lightOf_7 (by decide) ?_
  refine va_iald hx hb hK hP 1 0 rfl rfl (by unfold vp_in; decide) dX9_lightOf_8 ?_
  refine lv_topi (fun z_1 ez_1 => ?_)
  refine xk_i (wr := []) (xr_V (n := 3) (As := [.int x, .int y, .int z_1]) (rest := []) ⟨hx, hb, hml, hown, htg⟩ hK hN hP hD hS hA [0, 1] rfl (by decide) (m_lightBy l D cT _ (h0) (g) (b0) (b5) (b6) (b7) (b8) (b9) (b10) (b11) (b12) (b13) (b14) (b17) (b18) (b19) (b23) (b24) (b25) (b26) (b27) (b29) (b31) (b32) (b33) (by first | assumption | omega | decide | exact Or.inl (by decide) | (intro h9; exact absurd h9 (by decide)) | (intro _; omega) | (intro _; assumption) | (intro _; decide)) (a0) (by first | assumption | omega | decide | exact Or.inl (by decide) | (intro h9; exact absurd h9 (by decide)) | (intro _; omega) | (intro _; assumption) | (intro _; decide)) (x) (y) (z_1) (by first | assumption | omega | decide | exact Or.inl (by decide) | (intro h9; exact absurd h9 (by decide)) | (intro _; omega) | (intro _; assumption) | (intro _; decide)) (by first | assumption | omega | decide | exact Or.inl (by decide) | (intro h9; exact absurd h9 (by decide)) | (intro _; omega) | (intro _; assumption) | (intro _; decide))) wi_1347 wi_1349 wi_92 wi_131 wi_1350 rfl rfl rfl ⟨rfl, by decide +kernel⟩ ⟨Nat.le_of_ble_eq_true rfl, Nat.le_of_ble_eq_true rfl⟩ rfl hl.1 rfl (Nat.le_of_ble_eq_true rfl) dX9_lightOf_9 ⟨Nat.le_of_ble_eq_true rfl, Nat.le_of_ble_eq_true rfl⟩) hP hD hS hA [0, 1] [] rfl rfl (by decide) (by decide) (fun r_3 u_2 H locs hwr_3 hP hD hS => ?_)
  obtain ⟨hP, hD⟩ : PD D A [(sw_9 h0 g b0 b5 b6 b7 b8 b9 b10 b11 b12 b13 b14 b17 b18 b19 b23 b24 b25 b26 b27 b29 b31 b32 b33), (sw_in cT (g 0) 288 a0)] _ := ⟨hP, hD⟩
  exact x_iret hx hb hr hlk hP hD hS [0, 1] (()) rfl (by decide) trivial (by decide) (by decide) dX9_lightOf_12
set_option maxHeartbeats 4000000 in
set_option maxRecDepth 100000 in
theorem m_stripsOf (l : Launch) (D : va_G) (cT : Nat → ClassId) (sz : Nat) (h0 : Nat) (g : Nat → Nat) (b0 : Int32) (b5 : Int32) (b6 : Int32) (b7 : Int32) (b8 : Int32) (b9 : Int32) (b10 : Int32) (b11 : Int32) (b12 : Int32) (b13 : Int32) (b14 : Int32) (b17 : Int32) (b18 : Int32) (b19 : Int32) (b23 : Int32) (b24 : Int32) (b25 : Int32) (b26 : Int32) (b27 : Int32) (b29 : Int32) (b31 : Int32) (b32 : Int32) (b33 : Int32) (hb5 : 0 ≤ b5.toInt ∧ b5.toInt ≤ 900) (a0 : Nat → Int32) (pa0 : PI 288 a0) (x : Int32) : Met l yX9_stripsOf (wsc yX9_stripsOf cX9_stripsOf 4 (some .int)) { frames := 2, cells := 0, slots := 0, locals := 100 } (va_Pc [.ref h0, .int x] (PX D cT sz [(sw_9 h0 g b0 b5 b6 b7 b8 b9 b10 b11 b12 b13 b14 b17 b18 b19 b23 b24 b25 b26 b27 b29 b31 b32 b33), (sw_in cT (g 0) 288 a0)])) (va_Qi (fun (r : Int32) (u : Unit) => (True)) (fun u t => RW D (va_A [(sw_9 h0 g b0 b5 b6 b7 b8 b9 b10 b11 b12 b13 b14 b17 b18 b19 b23 b24 b25 b26 b27 b29 b31 b32 b33), (sw_in cT (g 0) 288 a0)] sz) ((fun _ : Unit => [(sw_9 h0 g b0 b5 b6 b7 b8 b9 b10 b11 b12 b13 b14 b17 b18 b19 b23 b24 b25 b26 b27 b29 b31 b32 b33), (sw_in cT (g 0) 288 a0)]) u) t) (va_A [(sw_9 h0 g b0 b5 b6 b7 b8 b9 b10 b11 b12 b13 b14 b17 b18 b19 b23 b24 b25 b26 b27 b29 b31 b32 b33), (sw_in cT (g 0) 288 a0)] sz)) 0 0 (va_A [(sw_9 h0 g b0 b5 b6 b7 b8 b9 b10 b11 b12 b13 b14 b17 b18 b19 b23 b24 b25 b26 b27 b29 b31 b32 b33), (sw_in cT (g 0) 288 a0)] sz) := by
  refine m_of (y := yX9_stripsOf) (cc := cX9_stripsOf) (nL := 4) (ret := (some .int)) (D := D) (cT := cT) (av := [.ref h0, .int x]) (wi := [(sw_9 h0 g b0 b5 b6 b7 b8 b9 b10 b11 b12 b13 b14 b17 b18 b19 b23 b24 b25 b26 b27 b29 b31 b32 b33), (sw_in cT (g 0) 288 a0)]) (fun A => va_Qi (fun (r : Int32) (u : Unit) => (True)) (fun u t => RW D A ((fun _ : Unit => [(sw_9 h0 g b0 b5 b6 b7 b8 b9 b10 b11 b12 b13 b14 b17 b18 b19 b23 b24 b25 b26 b27 b29 b31 b32 b33), (sw_in cT (g 0) 288 a0)]) u) t) A) (by decide) (Nat.le_of_ble_eq_true rfl) ?_
  intro p e s m below meth c A hx hb hml hown htg hK hN hr hlk hnm hsz hP hD hS hA ls hl
  have hown : s.vm.findClass RX9 = some m.cls := hown
  have hl : lv_has ls 4 [(0, .ref h0), (1, .int x)] := hl
  have tc_0 : (0 : Int32).toInt = 0 := by decide
  have tc_1 : (1 : Int32).toInt = 1 := by decide
  have tc_64 : (64 : Int32).toInt = 64 := by decide
  refine lv_iconst (v := 0) hx hb dX9_stripsOf_0 (by decide) ?_
  refine lv_istore_n (lv' := [(2, .int 0), (0, .ref h0), (1, .int x)]) hx hb dX9_stripsOf_1 rfl hl (by decide) rfl (fun ls hl => ?_)
  refine lv_iconst (v := 0) hx hb dX9_stripsOf_2 (by decide) ?_
  refine lv_istore_n (lv' := [(3, .int 0), (2, .int 0), (0, .ref h0), (1, .int x)]) hx hb dX9_stripsOf_3 rfl hl (by decide) rfl (fun ls hl => ?_)
  refine (fun (key : ∀ (n9_4 : Nat) (k9_4 : Nat) (x9_4_2 : Int32) (H : Heap) (locs : List Loc) (ls : Array Slot), (k9_4 : Int) ≤ 16 → 16 < (k9_4 : Int) + n9_4 → PD D A [(sw_9 h0 g b0 b5 b6 b7 b8 b9 b10 b11 b12 b13 b14 b17 b18 b19 b23 b24 b25 b26 b27 b29 b31 b32 b33), (sw_in cT (g 0) 288 a0)] H → va_S A s.heap H locs → lv_has ls 4 [(3, .int (nI k9_4)), (2, .int x9_4_2), (0, .ref h0), (1, .int x)] → W p l e _ s m _ below meth c H locs _ _ _ (F0 m 4 ls [])) => key (Int.toNat (16 - 0) + 1) 0 _ _ _ _ (by omega) (by omega)  ⟨hP, hD⟩ hS (lv_sub hl [0, 1, 2, 3] rfl)) ?_
  intro n9_4
  induction n9_4 with
  | zero => intro k9_4 x9_4_2 H locs ls hq1 hq2; exact absurd hq2 (by omega)
  | succ n9_4 ih_4 =>
    intro k9_4 x9_4_2 H locs ls hq1_4 hq2_4  hPD hS hl
    obtain ⟨hP, hD⟩ := hPD
    have hk9_4 : (nI k9_4).toInt = (k9_4 : Int) := nI_toInt (by omega)
    refine lv_iload_n hx hb dX9_stripsOf_4 rfl (lv_at hl 0 rfl) ?_
    refine lv_aload_n hx hb dX9_stripsOf_5 rfl (lv_at hl 2 rfl) ?_
    refine va_get (D := D) (ci := 9) (v := .ref (g 0)) (C := RX9) (T := TX9) (N := 37) hx hb htg gRX9 hown hK hP 0 rfl rfl 1 (by decide) (htg _ wi_1151) (fun _ h9 => h9) rfl dX9_stripsOf_6 ?_
    refine lv_iconst (v := 0) hx hb dX9_stripsOf_9 (by decide) ?_
    refine va_iald hx hb hK hP 1 0 rfl rfl (by unfold vp_in; decide) dX9_stripsOf_10 ?_
    refine lv_topi (fun z_1 ez_1 => ?_)
    have iz_1 : 0 ≤ z_1.toInt ∧ z_1.toInt ≤ 16 := by rw [ez_1]; exact rd0 pa0 (by decide) rfl
    have nz_1 : z_1.toInt = ((a0) 0).toInt := by rw [ez_1]; rfl
    refine lv_icmp_ge (tgt := 43) hx hb dX9_stripsOf_11 (by decide) (fun c_2 => ?_) (fun c_2 => ?_)
    · have ic_2 : z_1.toInt ≤ ((k9_4 : Nat) : Int) := ile c_2 (rfl) (nI_toInt (by omega))
      refine lv_iload_n hx hb dX9_stripsOf_43 rfl (lv_at hl 1 rfl) ?_
      exact x_iret hx hb hr hlk hP hD hS [0, 1] (()) rfl (by decide) trivial (by decide) (by decide) dX9_stripsOf_44
    · have ic_2 : ((k9_4 : Nat) : Int) < z_1.toInt := inle c_2 (rfl) (nI_toInt (by omega))
      refine lv_iload_n hx hb dX9_stripsOf_14 rfl (lv_at hl 1 rfl) ?_
      refine lv_aload_n hx hb dX9_stripsOf_15 rfl (lv_at hl 2 rfl) ?_
      refine va_get (D := D) (ci := 9) (v := .ref (g 0)) (C := RX9) (T := TX9) (N := 37) hx hb htg gRX9 hown hK hP 0 rfl rfl 1 (by decide) (htg _ wi_1151) (fun _ h9 => h9) rfl dX9_stripsOf_16 ?_
      refine lv_bipush (v := 64) hx hb dX9_stripsOf_19 (by decide) ?_
      refine lv_iload_n hx hb dX9_stripsOf_21 rfl (lv_at hl 0 rfl) ?_
      refine lv_iadd hx hb dX9_stripsOf_22 ?_
      refine lv_is (y := nI (64 + k9_4)) (nI_add 64 (k9_4)) ?_
      refine va_iald hx hb hK hP 1 0 rfl rfl (vp_in_nI (by omega) (by omega)) dX9_stripsOf_23 ?_
      refine lv_topi (fun z_3 ez_3 => ?_)
      have iz_3 : 0 ≤ z_3.toInt ∧ z_3.toInt ≤ 5 := by rw [ez_3]; exact rdF pa0 (by decide) (nI_toInt (by omega)) (by omega)
      refine lv_iload_n hx hb dX9_stripsOf_24 rfl (lv_at hl 3 rfl) ?_
      refine lv_icmp_ne (tgt := 34) hx hb dX9_stripsOf_25 (by decide) (fun c_4 => ?_) (fun c_4 => ?_)
      · have ic_4 : ¬ z_3.toInt = x.toInt := ine c_4 (rfl) (rfl)
        refine lv_iconst (v := 0) hx hb dX9_stripsOf_34 (by decide) ?_
        refine lv_ior hx hb dX9_stripsOf_35 ?_
        refine lv_topi (fun z_5 ez_5 => ?_)
        refine lv_istore_n (lv' := [(2, .int z_5), (3, .int (nI k9_4)), (0, .ref h0), (1, .int x)]) hx hb dX9_stripsOf_36 rfl hl (by decide) rfl (fun ls hl => ?_)
        refine lv_iinc (v := (nI (k9_4 + 1))) (lv' := [(3, .int (nI (k9_4 + 1))), (2, .int z_5), (0, .ref h0), (1, .int x)]) hx hb dX9_stripsOf_37 hl (k := 1) rfl (by exact nI_1 (k9_4)) (by decide) rfl (fun ls hl => ?_)
        refine lv_goto (tgt := 4) hx hb dX9_stripsOf_40 (by decide) ?_
        exact ih_4 (k9_4 + 1) _ _ _ _ (by omega) (by omega)  ⟨hP.sub [0, 1] rfl, hD.sub [0, 1] (by decide) rfl⟩ hS (lv_sub hl [0, 1, 2, 3] rfl)
      · have ic_4 : z_3.toInt = x.toInt := ieq c_4 (rfl) (rfl)
        refine lv_iconst (v := 1) hx hb dX9_stripsOf_28 (by decide) ?_
        refine lv_iload_n hx hb dX9_stripsOf_29 rfl (lv_at hl 0 rfl) ?_
        refine lv_ishl hx hb dX9_stripsOf_30 ?_
        refine lv_topi (fun z_6 ez_6 => ?_)
        refine lv_goto (tgt := 35) hx hb dX9_stripsOf_31 (by decide) ?_
        refine lv_ior hx hb dX9_stripsOf_35 ?_
        refine lv_topi (fun z_7 ez_7 => ?_)
        refine lv_istore_n (lv' := [(2, .int z_7), (3, .int (nI k9_4)), (0, .ref h0), (1, .int x)]) hx hb dX9_stripsOf_36 rfl hl (by decide) rfl (fun ls hl => ?_)
        refine lv_iinc (v := (nI (k9_4 + 1))) (lv' := [(3, .int (nI (k9_4 + 1))), (2, .int z_7), (0, .ref h0), (1, .int x)]) hx hb dX9_stripsOf_37 hl (k := 1) rfl (by exact nI_1 (k9_4)) (by decide) rfl (fun ls hl => ?_)
        refine lv_goto (tgt := 4) hx hb dX9_stripsOf_40 (by decide) ?_
        exact ih_4 (k9_4 + 1) _ _ _ _ (by omega) (by omega)  ⟨hP.sub [0, 1] rfl, hD.sub [0, 1] (by decide) rfl⟩ hS (lv_sub hl [0, 1, 2, 3] rfl)
