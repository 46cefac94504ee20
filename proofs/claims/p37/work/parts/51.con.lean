set_option maxHeartbeats 4000000 in
set_option maxRecDepth 100000 in
theorem m_within (l : Launch) (D : va_G) (cT : Nat → ClassId) (sz : Nat) (v : Int64) (lo : Int64) (hi : Int64) (av : Int) (al : Int) (ah : Int) (ev : v.toInt = av) (el : lo.toInt = al) (eh : hi.toInt = ah) : Met l yX9_within (wsc yX9_within cX9_within 6 (some .boolean)) { frames := 2, cells := 0, slots := 0, locals := 100 } (va_Pc [.long v, .long lo, .long hi] (PX D cT sz [])) (va_Qi (fun (r : Int32) (u : Unit) => (Imp (¬ r.toInt = 0) (al ≤ av ∧ av ≤ ah)) ∧ (r = 0 ∨ r = 1) ∧ (True)) (fun u t => RW D (va_A [] sz) ((fun _ : Unit => []) u) t) (va_A [] sz)) 0 0 (va_A [] sz) := by
  refine m_of (y := yX9_within) (cc := cX9_within) (nL := 6) (ret := (some .boolean)) (D := D) (cT := cT) (av := [.long v, .long lo, .long hi]) (wi := []) (fun A => va_Qi (fun (r : Int32) (u : Unit) => (Imp (¬ r.toInt = 0) (al ≤ av ∧ av ≤ ah)) ∧ (r = 0 ∨ r = 1) ∧ (True)) (fun u t => RW D A ((fun _ : Unit => []) u) t) A) (by decide) (Nat.le_of_ble_eq_true rfl) ?_
  intro p e s m below meth c A hx hb hml hown htg hK hN hr hlk hnm hsz hP hD hS hA ls hl
  have hown : s.vm.findClass RX9 = some m.cls := hown
  have hl : lv_has ls 6 [(0, .long v), (2, .long lo), (4, .long hi)] := hl
  subst ev el eh
  have tc_0 : (0 : Int32).toInt = 0 := by decide
  have tc_1 : (1 : Int32).toInt = 1 := by decide
  refine lv_lload_n hx hb dX9_within_0 rfl (lv_at hl 0 rfl) ?_
  refine lv_lload_n hx hb dX9_within_1 rfl (lv_at hl 1 rfl) ?_
  refine W.lcmp hx hb dX9_within_2 ?_
  refine lv_if_lt (tgt := 17) hx hb dX9_within_3 (by decide) (fun c_1 => ?_) (fun c_1 => ?_)
  · have ic_1 : v.toInt < lo.toInt := lgc_lt c_1 (rfl) (rfl)
    refine lv_iconst (v := 0) hx hb dX9_within_17 (by decide) ?_
    exact x_zret hx hb hr hlk hP hD hS [] (()) rfl (by decide) rfl ⟨fun h9 => by (try dsimp only at h9 ⊢); first | omega | exact absurd h9 (by decide) | decide | assumption, by (try dsimp only); first | assumption | omega | decide | exact Or.inl (by decide) | (intro h9; exact absurd h9 (by decide)) | (intro _; omega) | (intro _; assumption) | (intro _; decide), trivial⟩ (by decide) (by decide) dX9_within_18
  · have ic_1 : lo.toInt ≤ v.toInt := lgc_nlt c_1 (rfl) (rfl)
    refine lv_lload_n hx hb dX9_within_6 rfl (lv_at hl 0 rfl) ?_
    refine lv_lload hx hb dX9_within_7 (lv_at hl 2 rfl) ?_
    refine W.lcmp hx hb dX9_within_9 ?_
    refine lv_if_gt (tgt := 17) hx hb dX9_within_10 (by decide) (fun c_2 => ?_) (fun c_2 => ?_)
    · have ic_2 : hi.toInt < v.toInt := lgc_gt c_2 (rfl) (rfl)
      refine lv_iconst (v := 0) hx hb dX9_within_17 (by decide) ?_
      exact x_zret hx hb hr hlk hP hD hS [] (()) rfl (by decide) rfl ⟨fun h9 => by (try dsimp only at h9 ⊢); first | omega | exact absurd h9 (by decide) | decide | assumption, by (try dsimp only); first | assumption | omega | decide | exact Or.inl (by decide) | (intro h9; exact absurd h9 (by decide)) | (intro _; omega) | (intro _; assumption) | (intro _; decide), trivial⟩ (by decide) (by decide) dX9_within_18
    · have ic_2 : v.toInt ≤ hi.toInt := lgc_ngt c_2 (rfl) (rfl)
      refine lv_iconst (v := 1) hx hb dX9_within_13 (by decide) ?_
      refine lv_goto (tgt := 18) hx hb dX9_within_14 (by decide) ?_
      exact x_zret hx hb hr hlk hP hD hS [] (()) rfl (by decide) rfl ⟨fun h9 => by (try dsimp only at h9 ⊢); first | omega | exact absurd h9 (by decide) | decide | assumption, by (try dsimp only); first | assumption | omega | decide | exact Or.inl (by decide) | (intro h9; exact absurd h9 (by decide)) | (intro _; omega) | (intro _; assumption) | (intro _; decide), trivial⟩ (by decide) (by decide) dX9_within_18
set_option maxHeartbeats 4000000 in
set_option maxRecDepth 100000 in
theorem m_isSmall (l : Launch) (D : va_G) (cT : Nat → ClassId) (sz : Nat) (x : Int32) : Met l yX9_isSmall (wsc yX9_isSmall cX9_isSmall 1 (some .boolean)) { frames := 2, cells := 0, slots := 0, locals := 100 } (va_Pc [.int x] (PX D cT sz [])) (va_Qi (fun (r : Int32) (u : Unit) => r = if 97 ≤ x.toInt ∧ x.toInt ≤ 122 then 1 else 0) (fun u t => RW D (va_A [] sz) ((fun _ : Unit => []) u) t) (va_A [] sz)) 0 0 (va_A [] sz) := by
  refine m_of (y := yX9_isSmall) (cc := cX9_isSmall) (nL := 1) (ret := (some .boolean)) (D := D) (cT := cT) (av := [.int x]) (wi := []) (fun A => va_Qi (fun (r : Int32) (u : Unit) => r = if 97 ≤ x.toInt ∧ x.toInt ≤ 122 then 1 else 0) (fun u t => RW D A ((fun _ : Unit => []) u) t) A) (by decide) (Nat.le_of_ble_eq_true rfl) ?_
  intro p e s m below meth c A hx hb hml hown htg hK hN hr hlk hnm hsz hP hD hS hA ls hl
  have hown : s.vm.findClass RX9 = some m.cls := hown
  have hl : lv_has ls 1 [(0, .int x)] := hl
  refine lv_iload_n hx hb dX9_isSmall_0 rfl (lv_at hl 0 rfl) ?_
  refine lv_bipush (v := 97) hx hb dX9_isSmall_1 (by decide) ?_
  refine lv_icmp_lt (tgt := 16) hx hb dX9_isSmall_3 (by decide) (fun c_1 => ?_) (fun c_1 => ?_)
  · have ic_1 : x.toInt < 97 := ilt c_1 (rfl) (by decide)
    refine lv_iconst (v := 0) hx hb dX9_isSmall_16 (by decide) ?_
    exact x_zret hx hb hr hlk hP hD hS [] (()) rfl (by decide) rfl (by first | rfl | decide | (exfalso; omega) | (try simp only [ti_0, ti_1, ti_2, ti_3, ti_4, ti_5, ti_6, ti_7, ti_8, ti_9, ti_10, ti_11, ti_12]); (repeat (first | rw [if_pos (by first | assumption | omega | trivial)] | rw [if_neg (by first | assumption | omega)]))) (by decide) (by decide) dX9_isSmall_17
  · have ic_1 : 97 ≤ x.toInt := inlt c_1 (rfl) (by decide)
    refine lv_iload_n hx hb dX9_isSmall_6 rfl (lv_at hl 0 rfl) ?_
    refine lv_bipush (v := 122) hx hb dX9_isSmall_7 (by decide) ?_
    refine lv_icmp_gt (tgt := 16) hx hb dX9_isSmall_9 (by decide) (fun c_2 => ?_) (fun c_2 => ?_)
    · have ic_2 : 122 < x.toInt := ilt c_2 (by decide) (rfl)
      refine lv_iconst (v := 0) hx hb dX9_isSmall_16 (by decide) ?_
      exact x_zret hx hb hr hlk hP hD hS [] (()) rfl (by decide) rfl (by first | rfl | decide | (exfalso; omega) | (try simp only [ti_0, ti_1, ti_2, ti_3, ti_4, ti_5, ti_6, ti_7, ti_8, ti_9, ti_10, ti_11, ti_12]); (repeat (first | rw [if_pos (by first | assumption | omega | trivial)] | rw [if_neg (by first | assumption | omega)]))) (by decide) (by decide) dX9_isSmall_17
    · have ic_2 : x.toInt ≤ 122 := inlt c_2 (by decide) (rfl)
      refine lv_iconst (v := 1) hx hb dX9_isSmall_12 (by decide) ?_
      refine lv_goto (tgt := 17) hx hb dX9_isSmall_13 (by decide) ?_
      exact x_zret hx hb hr hlk hP hD hS [] (()) rfl (by decide) rfl (by first | rfl | decide | (exfalso; omega) | (try simp only [ti_0, ti_1, ti_2, ti_3, ti_4, ti_5, ti_6, ti_7, ti_8, ti_9, ti_10, ti_11, ti_12]); (repeat (first | rw [if_pos (by first | assumption | omega | trivial)] | rw [if_neg (by first | assumption | omega)]))) (by decide) (by decide) dX9_isSmall_17
set_option maxHeartbeats 4000000 in
set_option maxRecDepth 100000 in
theorem m_isDigit (l : Launch) (D : va_G) (cT : Nat → ClassId) (sz : Nat) (x : Int32) : Met l yX9_isDigit (wsc yX9_isDigit cX9_isDigit 1 (some .boolean)) { frames := 2, cells := 0, slots := 0, locals := 100 } (va_Pc [.int x] (PX D cT sz [])) (va_Qi (fun (r : Int32) (u : Unit) => r = if 48 ≤ x.toInt ∧ x.toInt ≤ 57 then 1 else 0) (fun u t => RW D (va_A [] sz) ((fun _ : Unit => []) u) t) (va_A [] sz)) 0 0 (va_A [] sz) := by
  refine m_of (y := yX9_isDigit) (cc := cX9_isDigit) (nL := 1) (ret := (some .boolean)) (D := D) (cT := cT) (av := [.int x]) (wi := []) (fun A => va_Qi (fun (r : Int32) (u : Unit) => r = if 48 ≤ x.toInt ∧ x.toInt ≤ 57 then 1 else 0) (fun u t => RW D A ((fun _ : Unit => []) u) t) A) (by decide) (Nat.le_of_ble_eq_true rfl) ?_
  intro p e s m below meth c A hx hb hml hown htg hK hN hr hlk hnm hsz hP hD hS hA ls hl
  have hown : s.vm.findClass RX9 = some m.cls := hown
  have hl : lv_has ls 1 [(0, .int x)] := hl
  refine lv_iload_n hx hb dX9_isDigit_0 rfl (lv_at hl 0 rfl) ?_
  refine lv_bipush (v := 48) hx hb dX9_isDigit_1 (by decide) ?_
  refine lv_icmp_lt (tgt := 16) hx hb dX9_isDigit_3 (by decide) (fun c_1 => ?_) (fun c_1 => ?_)
  · have ic_1 : x.toInt < 48 := ilt c_1 (rfl) (by decide)
    refine lv_iconst (v := 0) hx hb dX9_isDigit_16 (by decide) ?_
    exact x_zret hx hb hr hlk hP hD hS [] (()) rfl (by decide) rfl (by first | rfl | decide | (exfalso; omega) | (try simp only [ti_0, ti_1, ti_2, ti_3, ti_4, ti_5, ti_6, ti_7, ti_8, ti_9, ti_10, ti_11, ti_12]); (repeat (first | rw [if_pos (by first | assumption | omega | trivial)] | rw [if_neg (by first | assumption | omega)]))) (by decide) (by decide) dX9_isDigit_17
  · have ic_1 : 48 ≤ x.toInt := inlt c_1 (rfl) (by decide)
    refine lv_iload_n hx hb dX9_isDigit_6 rfl (lv_at hl 0 rfl) ?_
    refine lv_bipush (v := 57) hx hb dX9_isDigit_7 (by decide) ?_
    refine lv_icmp_gt (tgt := 16) hx hb dX9_isDigit_9 (by decide) (fun c_2 => ?_) (fun c_2 => ?_)
    · have ic_2 : 57 < x.toInt := ilt c_2 (by decide) (rfl)
      refine lv_iconst (v := 0) hx hb dX9_isDigit_16 (by decide) ?_
      exact x_zret hx hb hr hlk hP hD hS [] (()) rfl (by decide) rfl (by first | rfl | decide | (exfalso; omega) | (try simp only [ti_0, ti_1, ti_2, ti_3, ti_4, ti_5, ti_6, ti_7, ti_8, ti_9, ti_10, ti_11, ti_12]); (repeat (first | rw [if_pos (by first | assumption | omega | trivial)] | rw [if_neg (by first | assumption | omega)]))) (by decide) (by decide) dX9_isDigit_17
    · have ic_2 : x.toInt ≤ 57 := inlt c_2 (by decide) (rfl)
      refine lv_iconst (v := 1) hx hb dX9_isDigit_12 (by decide) ?_
      refine lv_goto (tgt := 17) hx hb dX9_isDigit_13 (by decide) ?_
      exact x_zret hx hb hr hlk hP hD hS [] (()) rfl (by decide) rfl (by first | rfl | decide | (exfalso; omega) | (try simp only [ti_0, ti_1, ti_2, ti_3, ti_4, ti_5, ti_6, ti_7, ti_8, ti_9, ti_10, ti_11, ti_12]); (repeat (first | rw [if_pos (by first | assumption | omega | trivial)] | rw [if_neg (by first | assumption | omega)]))) (by decide) (by decide) dX9_isDigit_17
set_option maxHeartbeats 4000000 in
set_option maxRecDepth 100000 in
theorem m_off (l : Launch) (D : va_G) (cT : Nat → ClassId) (sz : Nat) (x : Int32) (y : Int32) : Met l yX9_off (wsc yX9_off cX9_off 2 (some .int)) { frames := 2, cells := 0, slots := 0, locals := 100 } (va_Pc [.int x, .int y] (PX D cT sz [])) (va_Qi (fun (r : Int32) (u : Unit) => (True)) (fun u t => RW D (va_A [] sz) ((fun _ : Unit => []) u) t) (va_A [] sz)) 0 0 (va_A [] sz) := by
  refine m_of (y := yX9_off) (cc := cX9_off) (nL := 2) (ret := (some .int)) (D := D) (cT := cT) (av := [.int x, .int y]) (wi := []) (fun A => va_Qi (fun (r : Int32) (u : Unit) => (True)) (fun u t => RW D A ((fun _ : Unit => []) u) t) A) (by decide) (Nat.le_of_ble_eq_true rfl) ?_
  intro p e s m below meth c A hx hb hml hown htg hK hN hr hlk hnm hsz hP hD hS hA ls hl
  have hown : s.vm.findClass RX9 = some m.cls := hown
  have hl : lv_has ls 2 [(0, .int x), (1, .int y)] := hl
  refine lv_iload_n hx hb dX9_off_0 rfl (lv_at hl 0 rfl) ?_
  refine lv_iload_n hx hb dX9_off_1 rfl (lv_at hl 1 rfl) ?_
  refine lv_icmp_le (tgt := 11) hx hb dX9_off_2 (by decide) (fun c_1 => ?_) (fun c_1 => ?_)
  · have ic_1 : x.toInt ≤ y.toInt := ile c_1 (rfl) (rfl)
    refine lv_iload_n hx hb dX9_off_11 rfl (lv_at hl 1 rfl) ?_
    refine lv_iload_n hx hb dX9_off_12 rfl (lv_at hl 0 rfl) ?_
    refine lv_isub hx hb dX9_off_13 ?_
    refine lv_topi (fun z_2 ez_2 => ?_)
    exact x_iret hx hb hr hlk hP hD hS [] (()) rfl (by decide) trivial (by decide) (by decide) dX9_off_14
  · have ic_1 : y.toInt < x.toInt := inle c_1 (rfl) (rfl)
    refine lv_iload_n hx hb dX9_off_5 rfl (lv_at hl 0 rfl) ?_
    refine lv_iload_n hx hb dX9_off_6 rfl (lv_at hl 1 rfl) ?_
    refine lv_isub hx hb dX9_off_7 ?_
    refine lv_topi (fun z_3 ez_3 => ?_)
    refine lv_goto (tgt := 14) hx hb dX9_off_8 (by decide) ?_
    exact x_iret hx hb hr hlk hP hD hS [] (()) rfl (by decide) trivial (by decide) (by decide) dX9_off_14
set_option maxHeartbeats 4000000 in
set_option maxRecDepth 100000 in
theorem m_bitsOf (l : Launch) (D : va_G) (cT : Nat → ClassId) (sz : Nat) (x : Int32) : Met l yX9_bitsOf (wsc yX9_bitsOf cX9_bitsOf 3 (some .int)) { frames := 2, cells := 0, slots := 0, locals := 100 } (va_Pc [.int x] (PX D cT sz [])) (va_Qi (fun (r : Int32) (u : Unit) => (True)) (fun u t => RW D (va_A [] sz) ((fun _ : Unit => []) u) t) (va_A [] sz)) 0 0 (va_A [] sz) := by
  refine m_of (y := yX9_bitsOf) (cc := cX9_bitsOf) (nL := 3) (ret := (some .int)) (D := D) (cT := cT) (av := [.int x]) (wi := []) (fun A => va_Qi (fun (r : Int32) (u : Unit) => (True)) (fun u t => RW D A ((fun _ : Unit => []) u) t) A) (by decide) (Nat.le_of_ble_eq_true rfl) ?_
  intro p e s m below meth c A hx hb hml hown htg hK hN hr hlk hnm hsz hP hD hS hA ls hl
  have hown : s.vm.findClass RX9 = some m.cls := hown
  have hl : lv_has ls 3 [(0, .int x)] := hl
  have tc_0 : (0 : Int32).toInt = 0 := by decide
  have tc_1 : (1 : Int32).toInt = 1 := by decide
  have tc_16 : (16 : Int32).toInt = 16 := by decide
  refine lv_iconst (v := 0) hx hb dX9_bitsOf_0 (by decide) ?_
  refine lv_istore_n (lv' := [(1, .int 0), (0, .int x)]) hx hb dX9_bitsOf_1 rfl hl (by decide) rfl (fun ls hl => ?_)
  refine lv_iconst (v := 0) hx hb dX9_bitsOf_2 (by decide) ?_
  refine lv_istore_n (lv' := [(2, .int 0), (1, .int 0), (0, .int x)]) hx hb dX9_bitsOf_3 rfl hl (by decide) rfl (fun ls hl => ?_)
  refine (fun (key : ∀ (n9_4 : Nat) (k9_4 : Nat) (x9_4_1 : Int32) (H : Heap) (locs : List Loc) (ls : Array Slot), (k9_4 : Int) ≤ 16 → 16 < (k9_4 : Int) + n9_4 → va_P D classes [] H → va_D A [] → va_S A s.heap H locs → lv_has ls 3 [(2, .int (nI k9_4)), (1, .int x9_4_1), (0, .int x)] → W p l e _ s m _ below meth c H locs _ _ _ (F0 m 4 ls [])) => key (Int.toNat (16 - 0) + 1) 0 _ _ _ _ (by omega) (by omega)  hP hD hS (lv_sub hl [0, 1, 2] rfl)) ?_
  intro n9_4
  induction n9_4 with
  | zero => intro k9_4 x9_4_1 H locs ls hq1 hq2; exact absurd hq2 (by omega)
  | succ n9_4 ih_4 =>
    intro k9_4 x9_4_1 H locs ls hq1_4 hq2_4  hP hD hS hl
    have hk9_4 : (nI k9_4).toInt = (k9_4 : Int) := nI_toInt (by omega)
    refine lv_iload_n hx hb dX9_bitsOf_4 rfl (lv_at hl 0 rfl) ?_
    refine lv_bipush (v := 16) hx hb dX9_bitsOf_5 (by decide) ?_
    refine lv_icmp_ge (tgt := 24) hx hb dX9_bitsOf_7 (by decide) (fun c_1 => ?_) (fun c_1 => ?_)
    · have ic_1 : 16 ≤ ((k9_4 : Nat) : Int) := ile c_1 (by decide) (nI_toInt (by omega))
      refine lv_iload_n hx hb dX9_bitsOf_24 rfl (lv_at hl 1 rfl) ?_
      exact x_iret hx hb hr hlk hP hD hS [] (()) rfl (by decide) trivial (by decide) (by decide) dX9_bitsOf_25
    · have ic_1 : ((k9_4 : Nat) : Int) < 16 := inle c_1 (by decide) (nI_toInt (by omega))
      refine lv_iload_n hx hb dX9_bitsOf_10 rfl (lv_at hl 1 rfl) ?_
      refine lv_iload_n hx hb dX9_bitsOf_11 rfl (lv_at hl 2 rfl) ?_
      refine lv_iload_n hx hb dX9_bitsOf_12 rfl (lv_at hl 0 rfl) ?_
      refine lv_ishr hx hb dX9_bitsOf_13 ?_
      refine lv_topi (fun z_2 ez_2 => ?_)
      refine lv_iconst (v := 1) hx hb dX9_bitsOf_14 (by decide) ?_
      refine lv_iand hx hb dX9_bitsOf_15 ?_
      refine lv_topi (fun z_3 ez_3 => ?_)
      have iz_3 : 0 ≤ z_3.toInt ∧ z_3.toInt ≤ 1 := andI ez_3 (by decide) (by decide)
      refine lv_iadd hx hb dX9_bitsOf_16 ?_
      refine lv_topi (fun z_4 ez_4 => ?_)
      refine lv_istore_n (lv' := [(1, .int z_4), (2, .int (nI k9_4)), (0, .int x)]) hx hb dX9_bitsOf_17 rfl hl (by decide) rfl (fun ls hl => ?_)
      refine lv_iinc (v := (nI (k9_4 + 1))) (lv' := [(2, .int (nI (k9_4 + 1))), (1, .int z_4), (0, .int x)]) hx hb dX9_bitsOf_18 hl (k := 1) rfl (by exact nI_1 (k9_4)) (by decide) rfl (fun ls hl => ?_)
      refine lv_goto (tgt := 4) hx hb dX9_bitsOf_21 (by decide) ?_
      exact ih_4 (k9_4 + 1) _ _ _ _ (by omega) (by omega)  (hP.sub [] rfl) (hD.sub [] (by decide) rfl) hS (lv_sub hl [0, 1, 2] rfl)
set_option maxHeartbeats 4000000 in
set_option maxRecDepth 100000 in
theorem m_then (l : Launch) (D : va_G) (cT : Nat → ClassId) (sz : Nat) (x : Int32) (v : Int64) (hx99 : -99 ≤ x.toInt ∧ x.toInt ≤ 99) : Met l yX9_then (wsc yX9_then cX9_then 3 (some .int)) { frames := 2, cells := 0, slots := 0, locals := 100 } (va_Pc [.int x, .long v] (PX D cT sz [])) (va_Qi (fun (r : Int32) (u : Unit) => ((v.toInt = 1 ∧ r.toInt = x.toInt - 1) ∨ (v.toInt = 2 ∧ r.toInt = x.toInt + 1) ∨ (¬ v.toInt = 1 ∧ ¬ v.toInt = 2 ∧ r.toInt = x.toInt)) ∧ (True)) (fun u t => RW D (va_A [] sz) ((fun _ : Unit => []) u) t) (va_A [] sz)) 0 0 (va_A [] sz) := by
  refine m_of (y := yX9_then) (cc := cX9_then) (nL := 3) (ret := (some .int)) (D := D) (cT := cT) (av := [.int x, .long v]) (wi := []) (fun A => va_Qi (fun (r : Int32) (u : Unit) => ((v.toInt = 1 ∧ r.toInt = x.toInt - 1) ∨ (v.toInt = 2 ∧ r.toInt = x.toInt + 1) ∨ (¬ v.toInt = 1 ∧ ¬ v.toInt = 2 ∧ r.toInt = x.toInt)) ∧ (True)) (fun u t => RW D A ((fun _ : Unit => []) u) t) A) (by decide) (Nat.le_of_ble_eq_true rfl) ?_
  intro p e s m below meth c A hx hb hml hown htg hK hN hr hlk hnm hsz hP hD hS hA ls hl
  have hown : s.vm.findClass RX9 = some m.cls := hown
  have hl : lv_has ls 3 [(0, .int x), (1, .long v)] := hl
  have tc_1 : (1 : Int32).toInt = 1 := by decide
  refine lv_lload_n hx hb dX9_then_0 rfl (lv_at hl 1 rfl) ?_
  refine lv_lconst (v := 1) hx hb dX9_then_1 (by decide) ?_
  refine W.lcmp hx hb dX9_then_2 ?_
  refine lv_if_ne (tgt := 12) hx hb dX9_then_3 (by decide) (fun c_1 => ?_) (fun c_1 => ?_)
  · have ic_1 : ¬ v.toInt = 1 := lgc_ne c_1 (rfl) (by decide)
    refine lv_lload_n hx hb dX9_then_12 rfl (lv_at hl 1 rfl) ?_
    refine lv_ldc2 (v := 2) hx hb hown (htg _ wi_1420) dX9_then_13 ?_
    refine W.lcmp hx hb dX9_then_16 ?_
    refine lv_if_ne (tgt := 26) hx hb dX9_then_17 (by decide) (fun c_2 => ?_) (fun c_2 => ?_)
    · have ic_2 : ¬ v.toInt = 2 := lgc_ne c_2 (rfl) (by decide)
      refine lv_iload_n hx hb dX9_then_26 rfl (lv_at hl 0 rfl) ?_
      exact x_iret hx hb hr hlk hP hD hS [] (()) rfl (by decide) ⟨by (try dsimp only); first | assumption | omega | decide | exact Or.inl (by decide) | (intro h9; exact absurd h9 (by decide)) | (intro _; omega) | (intro _; assumption) | (intro _; decide), trivial⟩ (by decide) (by decide) dX9_then_27
    · have ic_2 : v.toInt = 2 := lgc_eq c_2 (rfl) (by decide)
      refine lv_iload_n hx hb dX9_then_20 rfl (lv_at hl 0 rfl) ?_
      refine lv_iconst (v := 1) hx hb dX9_then_21 (by decide) ?_
      refine lv_iadd hx hb dX9_then_22 ?_
      refine lv_topi (fun z_3 ez_3 => ?_)
      have iz_3 : z_3.toInt = x.toInt + 1 := toInt_addI ez_3 (rfl) (by decide) (by omega)
      refine lv_goto (tgt := 27) hx hb dX9_then_23 (by decide) ?_
      exact x_iret hx hb hr hlk hP hD hS [] (()) rfl (by decide) ⟨by (try dsimp only); first | assumption | omega | decide | exact Or.inl (by decide) | (intro h9; exact absurd h9 (by decide)) | (intro _; omega) | (intro _; assumption) | (intro _; decide), trivial⟩ (by decide) (by decide) dX9_then_27
  · have ic_1 : v.toInt = 1 := lgc_eq c_1 (rfl) (by decide)
    refine lv_iload_n hx hb dX9_then_6 rfl (lv_at hl 0 rfl) ?_
    refine lv_iconst (v := 1) hx hb dX9_then_7 (by decide) ?_
    refine lv_isub hx hb dX9_then_8 ?_
    refine lv_topi (fun z_4 ez_4 => ?_)
    have iz_4 : z_4.toInt = x.toInt - 1 := toInt_subI ez_4 (rfl) (by decide) (by omega)
    refine lv_goto (tgt := 27) hx hb dX9_then_9 (by decide) ?_
    exact x_iret hx hb hr hlk hP hD hS [] (()) rfl (by decide) ⟨by (try dsimp only); first | assumption | omega | decide | exact Or.inl (by decide) | (intro h9; exact absurd h9 (by decide)) | (intro _; omega) | (intro _; assumption) | (intro _; decide), trivial⟩ (by decide) (by decide) dX9_then_27
set_option maxHeartbeats 4000000 in
set_option maxRecDepth 100000 in
theorem m_thenU (l : Launch) (D : va_G) (cT : Nat → ClassId) (sz : Nat) (x : Int32) (v : Int64) : Met l yX9_then (wsc yX9_then cX9_then 3 (some .int)) { frames := 2, cells := 0, slots := 0, locals := 100 } (va_Pc [.int x, .long v] (PX D cT sz [])) (va_Qi (fun (r : Int32) (u : Unit) => (True)) (fun u t => RW D (va_A [] sz) ((fun _ : Unit => []) u) t) (va_A [] sz)) 0 0 (va_A [] sz) := by
  refine m_of (y := yX9_then) (cc := cX9_then) (nL := 3) (ret := (some .int)) (D := D) (cT := cT) (av := [.int x, .long v]) (wi := []) (fun A => va_Qi (fun (r : Int32) (u : Unit) => (True)) (fun u t => RW D A ((fun _ : Unit => []) u) t) A) (by decide) (Nat.le_of_ble_eq_true rfl) ?_
  intro p e s m below meth c A hx hb hml hown htg hK hN hr hlk hnm hsz hP hD hS hA ls hl
  have hown : s.vm.findClass RX9 = some m.cls := hown
  have hl : lv_has ls 3 [(0, .int x), (1, .long v)] := hl
  have tc_1 : (1 : Int32).toInt = 1 := by decide
  refine lv_lload_n hx hb dX9_then_0 rfl (lv_at hl 1 rfl) ?_
  refine lv_lconst (v := 1) hx hb dX9_then_1 (by decide) ?_
  refine W.lcmp hx hb dX9_then_2 ?_
  refine lv_if_ne (tgt := 12) hx hb dX9_then_3 (by decide) (fun c_1 => ?_) (fun c_1 => ?_)
  · have ic_1 : ¬ v.toInt = 1 := lgc_ne c_1 (rfl) (by decide)
    refine lv_lload_n hx hb dX9_then_12 rfl (lv_at hl 1 rfl) ?_
    refine lv_ldc2 (v := 2) hx hb hown (htg _ wi_1420) dX9_then_13 ?_
    refine W.lcmp hx hb dX9_then_16 ?_
    refine lv_if_ne (tgt := 26) hx hb dX9_then_17 (by decide) (fun c_2 => ?_) (fun c_2 => ?_)
    · have ic_2 : ¬ v.toInt = 2 := lgc_ne c_2 (rfl) (by decide)
      refine lv_iload_n hx hb dX9_then_26 rfl (lv_at hl 0 rfl) ?_
      exact x_iret hx hb hr hlk hP hD hS [] (()) rfl (by decide) trivial (by decide) (by decide) dX9_then_27
    · have ic_2 : v.toInt = 2 := lgc_eq c_2 (rfl) (by decide)
      refine lv_iload_n hx hb dX9_then_20 rfl (lv_at hl 0 rfl) ?_
      refine lv_iconst (v := 1) hx hb dX9_then_21 (by decide) ?_
      refine lv_iadd hx hb dX9_then_22 ?_
      refine lv_topi (fun z_3 ez_3 => ?_)
      refine lv_goto (tgt := 27) hx hb dX9_then_23 (by decide) ?_
      exact x_iret hx hb hr hlk hP hD hS [] (()) rfl (by decide) trivial (by decide) (by decide) dX9_then_27
  · have ic_1 : v.toInt = 1 := lgc_eq c_1 (rfl) (by decide)
    refine lv_iload_n hx hb dX9_then_6 rfl (lv_at hl 0 rfl) ?_
    refine lv_iconst (v := 1) hx hb dX9_then_7 (by decide) ?_
    refine lv_isub hx hb dX9_then_8 ?_
    refine lv_topi (fun z_4 ez_4 => ?_)
    refine lv_goto (tgt := 27) hx hb dX9_then_9 (by decide) ?_
    exact x_iret hx hb hr hlk hP hD hS [] (()) rfl (by decide) trivial (by decide) (by decide) dX9_then_27
set_option maxHeartbeats 4000000 in
set_option maxRecDepth 100000 in
theorem g_l1_charAtK (l : Launch) (D : va_G) (cT : Nat → ClassId) (sz : Nat) (si : Nat) (hisi : si < 14) (x : Int32) (hch : 0 ≤ x.toInt ∧ x.toInt < ((strL.getD si 0 : Nat) : Int)) (hl100 : strL.getD si 0 ≤ 100) (hs13 : si = 13) : Met l yJ1_charAt_3b067 (wsc yJ1_charAt_3b067 cJ1_charAt_3b067 2 (some .char)) { frames := 4, cells := 0, slots := 0, locals := 143 } (va_Pc [.ref (cT (40 + si)), .int x] (PX D cT sz [])) (va_Qi (fun (r : Int32) (u : Unit) => (narrow .char (.int r) = .int r) ∧ (x.toInt = 70 → r.toInt = 32) ∧ (True)) (fun u t => RW D (va_A [] sz) ((fun _ : Unit => []) u) t) (va_A [] sz)) 0 0 (va_A [] sz) := by
  refine m_of (y := yJ1_charAt_3b067) (cc := cJ1_charAt_3b067) (nL := 2) (ret := (some .char)) (D := D) (cT := cT) (av := [.ref (cT (40 + si)), .int x]) (wi := []) (fun A => va_Qi (fun (r : Int32) (u : Unit) => (narrow .char (.int r) = .int r) ∧ (x.toInt = 70 → r.toInt = 32) ∧ (True)) (fun u t => RW D A ((fun _ : Unit => []) u) t) A) (by decide) (Nat.le_of_ble_eq_true rfl) ?_
  intro p e s m below meth c A hx hb hml hown htg hK hN hr hlk hnm hsz hP hD hS hA ls hl
  have hown : s.vm.findClass RJ1 = some m.cls := hown
  have hl : lv_has ls 2 [(0, .ref (cT (40 + si))), (1, .int x)] := hl
  refine lv_iload_n hx hb dJ1_charAt_3b067_0 rfl (lv_at hl 1 rfl) ?_
  refine lv_aload_n hx hb dJ1_charAt_3b067_1 rfl (lv_at hl 0 rfl) ?_
  refine va_tlen (v := nI (strL.getD si 0)) hx hb (hN.2.2.2.2.1.1 si hisi).2.2.2 hS rfl dJ1_charAt_3b067_2 ?_
  have hsl_si : (nI (strL.getD si 0)).toInt = ((strL.getD si 0 : Nat) : Int) := nI_toInt (by have h7 := strL_le si hisi; omega)
  refine xk_v (wr := []) (xr_S (n := 2) (As := [.int x, .int (nI (strL.getD si 0))]) (rest := []) ⟨hx, hb, hml, hown, htg⟩ hK hN hP hD hS hA [] rfl (by decide) (g_s_checkIndex l D cT _ (x) ((nI (strL.getD si 0))) (by first | assumption | omega | decide | (simp only [ti_0, ti_1, ti_2, ti_3, ti_4, ti_5, ti_6, ti_7, ti_8, ti_9, ti_10, ti_11, ti_12, ti_m1]; omega))) wi_579 wi_580 wi_134 wi_581 ⟨rfl, by decide +kernel⟩ ⟨Nat.le_of_ble_eq_true rfl, Nat.le_of_ble_eq_true rfl⟩ rfl hl.1 rfl (Nat.le_of_ble_eq_true rfl) dJ1_charAt_3b067_3 ⟨Nat.le_of_ble_eq_true rfl, Nat.le_of_ble_eq_true rfl⟩) hP hD hS hA [] [] rfl rfl (by decide) (by decide) (fun u_1 H locs hwr_2 hP hD hS => ?_)
  have hP : va_P D classes [] _ := hP
  have hD : va_D A [] := hD
  refine lv_aload_n hx hb dJ1_charAt_3b067_6 rfl (lv_at hl 0 rfl) ?_
  refine lv_iload_n hx hb dJ1_charAt_3b067_7 rfl (lv_at hl 1 rfl) ?_
  refine va_tb hx hb (hN.2.2.2.2.1.1 si hisi).2.2.2 hS (vp_in_iff.mpr (by omega)) rfl dJ1_charAt_3b067_8 ?_
  refine lv_topi (fun z_3 ez_3 => ?_)
  refine lv_sipush (v := 255) hx hb dJ1_charAt_3b067_9 (by decide) ?_
  refine lv_iand hx hb dJ1_charAt_3b067_12 ?_
  refine lv_topi (fun z_4 ez_4 => ?_)
  have iz_4 : 0 ≤ z_4.toInt ∧ z_4.toInt ≤ 255 := andI ez_4 (by decide) (by decide)
  obtain ⟨z_5, ez_5⟩ : ∃ w : Int32, w = (z_4.toUInt32 % 65536).toInt32 := ⟨_, rfl⟩
  refine lv_i2c (v := z_5) hx hb dJ1_charAt_3b067_13 ez_5.symm ?_
  exact x_tret (ty := .char) hx hb hr hlk hP hD hS [] (()) rfl (by decide) (by rw [ez_5]; exact pk_nc _) ⟨(by rw [ez_5]; exact pk_nc _), (fun h => by have h7 : x.toNatClampNeg = 70 := (by show Int.toNat _ = _; omega); rw [ez_5, ez_4, ez_3, hs13, h7]; decide), trivial⟩ (by decide) (by decide) dJ1_charAt_3b067_14
set_option maxHeartbeats 4000000 in
set_option maxRecDepth 100000 in
theorem g_s_charAtK (l : Launch) (D : va_G) (cT : Nat → ClassId) (sz : Nat) (si : Nat) (hisi : si < 14) (x : Int32) (hch : 0 ≤ x.toInt ∧ x.toInt < ((strL.getD si 0 : Nat) : Int)) (hl100 : strL.getD si 0 ≤ 100) (hs13 : si = 13) : Met l yJ0_charAt_5068e (wsc yJ0_charAt_5068e cJ0_charAt_5068e 2 (some .char)) { frames := 5, cells := 0, slots := 0, locals := 164 } (va_Pc [.ref (cT (10 + si)), .int x] (PX D cT sz [])) (va_Qi (fun (r : Int32) (u : Unit) => (narrow .char (.int r) = .int r) ∧ (x.toInt = 70 → r.toInt = 32) ∧ (True)) (fun u t => RW D (va_A [] sz) ((fun _ : Unit => []) u) t) (va_A [] sz)) 0 0 (va_A [] sz) := by
  refine m_of (y := yJ0_charAt_5068e) (cc := cJ0_charAt_5068e) (nL := 2) (ret := (some .char)) (D := D) (cT := cT) (av := [.ref (cT (10 + si)), .int x]) (wi := []) (fun A => va_Qi (fun (r : Int32) (u : Unit) => (narrow .char (.int r) = .int r) ∧ (x.toInt = 70 → r.toInt = 32) ∧ (True)) (fun u t => RW D A ((fun _ : Unit => []) u) t) A) (by decide) (Nat.le_of_ble_eq_true rfl) ?_
  intro p e s m below meth c A hx hb hml hown htg hK hN hr hlk hnm hsz hP hD hS hA ls hl
  have hown : s.vm.findClass RJ0 = some m.cls := hown
  have hl : lv_has ls 2 [(0, .ref (cT (10 + si))), (1, .int x)] := hl
  refine lv_aload_n hx hb dJ0_charAt_5068e_0 rfl (lv_at hl 0 rfl) ?_
  refine xk_i (wr := []) (xr_VS (n := 0) (As := []) (rest := []) ⟨hx, hb, hml, hown, htg⟩ hK hN hP hD hS hA [] rfl (by decide) (g_s_isLatin1 l D cT _ (si) (by first | assumption | omega | decide | (simp only [ti_0, ti_1, ti_2, ti_3, ti_4, ti_5, ti_6, ti_7, ti_8, ti_9, ti_10, ti_11, ti_12, ti_m1]; omega))) wi_572 wi_573 wi_574 wi_134 wi_575 (vk_recv (i := si) (adK := fun i => cT (10 + i)) (adV := fun i => cT (40 + i)) hN.2.2.2.2.1 (hisi) hS) ⟨rfl, by decide +kernel⟩ ⟨Nat.le_of_ble_eq_true rfl, Nat.le_of_ble_eq_true rfl⟩ rfl hl.1 rfl (Nat.le_of_ble_eq_true rfl) dJ0_charAt_5068e_1 ⟨Nat.le_of_ble_eq_true rfl, Nat.le_of_ble_eq_true rfl⟩) hP hD hS hA [] [] rfl rfl (by decide) (by decide) (fun r_2 u_1 H locs hwr_2 hP hD hS => ?_)
  have hP : va_P D classes [] _ := hP
  have hD : va_D A [] := hD
  have hwr_2 : r_2 = 1 := hwr_2
  subst hwr_2
  refine lv_if_eq (tgt := 16) hx hb dJ0_charAt_5068e_4 (by decide) (fun h => absurd h (by decide)) (fun _ => ?_)
  refine lv_aload_n hx hb dJ0_charAt_5068e_7 rfl (lv_at hl 0 rfl) ?_
  refine vk_getf hx hb (hN.2.2.2.2.1.1 si hisi).2.2.1 hS hown (htg _ wi_1631) (fun _ h9 => h9) dJ0_charAt_5068e_8 ?_
  refine lv_iload_n hx hb dJ0_charAt_5068e_11 rfl (lv_at hl 1 rfl) ?_
  refine xk_i (wr := []) (xr_S (n := 2) (As := [.ref (cT (40 + si)), .int x]) (rest := []) ⟨hx, hb, hml, hown, htg⟩ hK hN hP hD hS hA [] rfl (by decide) (g_l1_charAtK l D cT _ (si) (by first | assumption | omega | decide | (simp only [ti_0, ti_1, ti_2, ti_3, ti_4, ti_5, ti_6, ti_7, ti_8, ti_9, ti_10, ti_11, ti_12, ti_m1]; omega)) (x) (by first | assumption | omega | decide | (simp only [ti_0, ti_1, ti_2, ti_3, ti_4, ti_5, ti_6, ti_7, ti_8, ti_9, ti_10, ti_11, ti_12, ti_m1]; omega)) (by first | assumption | omega | decide | (simp only [ti_0, ti_1, ti_2, ti_3, ti_4, ti_5, ti_6, ti_7, ti_8, ti_9, ti_10, ti_11, ti_12, ti_m1]; omega)) (by first | assumption | omega | decide | (simp only [ti_0, ti_1, ti_2, ti_3, ti_4, ti_5, ti_6, ti_7, ti_8, ti_9, ti_10, ti_11, ti_12, ti_m1]; omega))) wi_576 wi_577 wi_135 wi_578 ⟨rfl, by decide +kernel⟩ ⟨Nat.le_of_ble_eq_true rfl, Nat.le_of_ble_eq_true rfl⟩ rfl hl.1 rfl (Nat.le_of_ble_eq_true rfl) dJ0_charAt_5068e_12 ⟨Nat.le_of_ble_eq_true rfl, Nat.le_of_ble_eq_true rfl⟩) hP hD hS hA [] [] rfl rfl (by decide) (by decide) (fun r_4 u_3 H locs hwr_4 hP hD hS => ?_)
  have hP : va_P D classes [] _ := hP
  have hD : va_D A [] := hD
  have qr_4_0 : narrow .char (.int r_4) = .int r_4 := hwr_4.1
  have qr_4_1 : x.toInt = 70 → r_4.toInt = 32 := hwr_4.2.1
  exact x_tret (ty := .char) hx hb hr hlk hP hD hS [] (()) rfl (by decide) qr_4_0 ⟨by (try dsimp only); first | assumption | omega | decide | exact Or.inl (by decide) | (intro h9; exact absurd h9 (by decide)) | (intro _; decide) | (simp only [ti_0, ti_1, ti_2, ti_3, ti_4, ti_5, ti_6, ti_7, ti_8, ti_9, ti_10, ti_11, ti_12, ti_m1]; omega) | (simp only [ti_0, ti_1, ti_2, ti_3, ti_4, ti_5, ti_6, ti_7, ti_8, ti_9, ti_10, ti_11, ti_12, ti_m1]; done), by (try dsimp only); first | assumption | omega | decide | exact Or.inl (by decide) | (intro h9; exact absurd h9 (by decide)) | (intro _; decide) | (simp only [ti_0, ti_1, ti_2, ti_3, ti_4, ti_5, ti_6, ti_7, ti_8, ti_9, ti_10, ti_11, ti_12, ti_m1]; omega) | (simp only [ti_0, ti_1, ti_2, ti_3, ti_4, ti_5, ti_6, ti_7, ti_8, ti_9, ti_10, ti_11, ti_12, ti_m1]; done), trivial⟩ (by decide) (by decide) dJ0_charAt_5068e_15
set_option maxHeartbeats 4000000 in
set_option maxRecDepth 100000 in
theorem m_see (l : Launch) (D : va_G) (cT : Nat → ClassId) (sz : Nat) (h0 : Nat) (g : Nat → Nat) (b0 : Int32) (b5 : Int32) (b6 : Int32) (b7 : Int32) (b8 : Int32) (b9 : Int32) (b10 : Int32) (b11 : Int32) (b12 : Int32) (b13 : Int32) (b14 : Int32) (b17 : Int32) (b18 : Int32) (b19 : Int32) (b23 : Int32) (b24 : Int32) (b25 : Int32) (b26 : Int32) (b27 : Int32) (b29 : Int32) (b31 : Int32) (b32 : Int32) (b33 : Int32) (hb5 : 0 ≤ b5.toInt ∧ b5.toInt ≤ 900) (a2 : Nat → Int32) (x : Int32) (hb8 : 0 ≤ b8.toInt ∧ b8.toInt ≤ 900) (hx0 : 0 ≤ x.toInt) : Met l yX9_see (wsc yX9_see cX9_see 2 (some .int)) { frames := 2, cells := 0, slots := 0, locals := 100 } (va_Pc [.ref h0, .int x] (PX D cT sz [(h0, .inr (9, (.int b0 :: .ref (g 0) :: .ref (g 1) :: .ref (g 2) :: .ref (g 3) :: .int b5 :: .int b6 :: .int b7 :: .int b8 :: .int b9 :: .int b10 :: .int b11 :: .int b12 :: .int b13 :: .int b14 :: .ref (g 4) :: .ref (g 5) :: .int b17 :: .int b18 :: .int b19 :: .ref (g 6) :: .ref (g 7) :: .ref (g 8) :: .int b23 :: .int b24 :: .int b25 :: .int b26 :: .int b27 :: .ref (g 9) :: .int b29 :: .ref (g 10) :: .int b31 :: .int b32 :: .int b33 :: .ref (g 11) :: .ref (g 12) :: .ref (g 13) :: []))), ((g 2), .inl (cT 0, 900, .inl (a2)))])) (va_Qi (fun (r : Int32) (u : Unit) => (r.toInt = -1 ∨ x.toInt < b8.toInt) ∧ (r = seeF a2 b8 x) ∧ (True)) (fun u t => RW D (va_A [(h0, .inr (9, (.int b0 :: .ref (g 0) :: .ref (g 1) :: .ref (g 2) :: .ref (g 3) :: .int b5 :: .int b6 :: .int b7 :: .int b8 :: .int b9 :: .int b10 :: .int b11 :: .int b12 :: .int b13 :: .int b14 :: .ref (g 4) :: .ref (g 5) :: .int b17 :: .int b18 :: .int b19 :: .ref (g 6) :: .ref (g 7) :: .ref (g 8) :: .int b23 :: .int b24 :: .int b25 :: .int b26 :: .int b27 :: .ref (g 9) :: .int b29 :: .ref (g 10) :: .int b31 :: .int b32 :: .int b33 :: .ref (g 11) :: .ref (g 12) :: .ref (g 13) :: []))), ((g 2), .inl (cT 0, 900, .inl (a2)))] sz) ((fun _ : Unit => [(h0, .inr (9, (.int b0 :: .ref (g 0) :: .ref (g 1) :: .ref (g 2) :: .ref (g 3) :: .int b5 :: .int b6 :: .int b7 :: .int b8 :: .int b9 :: .int b10 :: .int b11 :: .int b12 :: .int b13 :: .int b14 :: .ref (g 4) :: .ref (g 5) :: .int b17 :: .int b18 :: .int b19 :: .ref (g 6) :: .ref (g 7) :: .ref (g 8) :: .int b23 :: .int b24 :: .int b25 :: .int b26 :: .int b27 :: .ref (g 9) :: .int b29 :: .ref (g 10) :: .int b31 :: .int b32 :: .int b33 :: .ref (g 11) :: .ref (g 12) :: .ref (g 13) :: []))), ((g 2), .inl (cT 0, 900, .inl (a2)))]) u) t) (va_A [(h0, .inr (9, (.int b0 :: .ref (g 0) :: .ref (g 1) :: .ref (g 2) :: .ref (g 3) :: .int b5 :: .int b6 :: .int b7 :: .int b8 :: .int b9 :: .int b10 :: .int b11 :: .int b12 :: .int b13 :: .int b14 :: .ref (g 4) :: .ref (g 5) :: .int b17 :: .int b18 :: .int b19 :: .ref (g 6) :: .ref (g 7) :: .ref (g 8) :: .int b23 :: .int b24 :: .int b25 :: .int b26 :: .int b27 :: .ref (g 9) :: .int b29 :: .ref (g 10) :: .int b31 :: .int b32 :: .int b33 :: .ref (g 11) :: .ref (g 12) :: .ref (g 13) :: []))), ((g 2), .inl (cT 0, 900, .inl (a2)))] sz)) 0 0 (va_A [(h0, .inr (9, (.int b0 :: .ref (g 0) :: .ref (g 1) :: .ref (g 2) :: .ref (g 3) :: .int b5 :: .int b6 :: .int b7 :: .int b8 :: .int b9 :: .int b10 :: .int b11 :: .int b12 :: .int b13 :: .int b14 :: .ref (g 4) :: .ref (g 5) :: .int b17 :: .int b18 :: .int b19 :: .ref (g 6) :: .ref (g 7) :: .ref (g 8) :: .int b23 :: .int b24 :: .int b25 :: .int b26 :: .int b27 :: .ref (g 9) :: .int b29 :: .ref (g 10) :: .int b31 :: .int b32 :: .int b33 :: .ref (g 11) :: .ref (g 12) :: .ref (g 13) :: []))), ((g 2), .inl (cT 0, 900, .inl (a2)))] sz) := by
  refine m_of (y := yX9_see) (cc := cX9_see) (nL := 2) (ret := (some .int)) (D := D) (cT := cT) (av := [.ref h0, .int x]) (wi := [(h0, .inr (9, (.int b0 :: .ref (g 0) :: .ref (g 1) :: .ref (g 2) :: .ref (g 3) :: .int b5 :: .int b6 :: .int b7 :: .int b8 :: .int b9 :: .int b10 :: .int b11 :: .int b12 :: .int b13 :: .int b14 :: .ref (g 4) :: .ref (g 5) :: .int b17 :: .int b18 :: .int b19 :: .ref (g 6) :: .ref (g 7) :: .ref (g 8) :: .int b23 :: .int b24 :: .int b25 :: .int b26 :: .int b27 :: .ref (g 9) :: .int b29 :: .ref (g 10) :: .int b31 :: .int b32 :: .int b33 :: .ref (g 11) :: .ref (g 12) :: .ref (g 13) :: []))), ((g 2), .inl (cT 0, 900, .inl (a2)))]) (fun A => va_Qi (fun (r : Int32) (u : Unit) => (r.toInt = -1 ∨ x.toInt < b8.toInt) ∧ (r = seeF a2 b8 x) ∧ (True)) (fun u t => RW D A ((fun _ : Unit => [(h0, .inr (9, (.int b0 :: .ref (g 0) :: .ref (g 1) :: .ref (g 2) :: .ref (g 3) :: .int b5 :: .int b6 :: .int b7 :: .int b8 :: .int b9 :: .int b10 :: .int b11 :: .int b12 :: .int b13 :: .int b14 :: .ref (g 4) :: .ref (g 5) :: .int b17 :: .int b18 :: .int b19 :: .ref (g 6) :: .ref (g 7) :: .ref (g 8) :: .int b23 :: .int b24 :: .int b25 :: .int b26 :: .int b27 :: .ref (g 9) :: .int b29 :: .ref (g 10) :: .int b31 :: .int b32 :: .int b33 :: .ref (g 11) :: .ref (g 12) :: .ref (g 13) :: []))), ((g 2), .inl (cT 0, 900, .inl (a2)))]) u) t) A) (by decide) (Nat.le_of_ble_eq_true rfl) ?_
  intro p e s m below meth c A hx hb hml hown htg hK hN hr hlk hnm hsz hP hD hS hA ls hl
  have hown : s.vm.findClass RX9 = some m.cls := hown
  have hl : lv_has ls 2 [(0, .ref h0), (1, .int x)] := hl
  have tc_m1 : ((-1) : Int32).toInt = (-1) := by decide
  refine lv_iload_n hx hb dX9_see_0 rfl (lv_at hl 1 rfl) ?_
  refine lv_aload_n hx hb dX9_see_1 rfl (lv_at hl 0 rfl) ?_
  refine va_get (D := D) (ci := 9) (v := .int b8) (C := RX9) (T := TX9) (N := 37) hx hb htg gRX9 hown hK hP 0 rfl rfl 8 (by decide) (htg _ wi_1158) (fun _ h9 => h9) rfl dX9_see_2 ?_
  refine lv_icmp_ge (tgt := 17) hx hb dX9_see_5 (by decide) (fun c_1 => ?_) (fun c_1 => ?_)
  · have ic_1 : b8.toInt ≤ x.toInt := ile c_1 (rfl) (rfl)
    refine lv_iconst (v := (-1)) hx hb dX9_see_17 (by decide) ?_
    exact x_iret hx hb hr hlk hP hD hS [0, 1] (()) rfl (by decide) ⟨Or.inl (by decide), (by unfold seeF; rw [if_neg (by omega)]), trivial⟩ (by decide) (by decide) dX9_see_18
  · have ic_1 : x.toInt < b8.toInt := inle c_1 (rfl) (rfl)
    refine lv_aload_n hx hb dX9_see_8 rfl (lv_at hl 0 rfl) ?_
    refine va_get (D := D) (ci := 9) (v := .ref (g 2)) (C := RX9) (T := TX9) (N := 37) hx hb htg gRX9 hown hK hP 0 rfl rfl 3 (by decide) (htg _ wi_1153) (fun _ h9 => h9) rfl dX9_see_9 ?_
    refine lv_iload_n hx hb dX9_see_12 rfl (lv_at hl 1 rfl) ?_
    refine va_iald hx hb hK hP 1 0 rfl rfl (vp_in_iff.mpr (by omega)) dX9_see_13 ?_
    refine lv_topi (fun z_2 ez_2 => ?_)
    refine lv_goto (tgt := 18) hx hb dX9_see_14 (by decide) ?_
    exact x_iret hx hb hr hlk hP hD hS [0, 1] (()) rfl (by decide) ⟨Or.inr (by omega), (by unfold seeF; rw [if_pos (by omega)]; exact ez_2), trivial⟩ (by decide) (by decide) dX9_see_18
set_option maxHeartbeats 4000000 in
set_option maxRecDepth 100000 in
theorem m_keyAt (l : Launch) (D : va_G) (cT : Nat → ClassId) (sz : Nat) (h0 : Nat) (g : Nat → Nat) (b0 : Int32) (b5 : Int32) (b6 : Int32) (b7 : Int32) (b8 : Int32) (b9 : Int32) (b10 : Int32) (b11 : Int32) (b12 : Int32) (b13 : Int32) (b14 : Int32) (b17 : Int32) (b18 : Int32) (b19 : Int32) (b23 : Int32) (b24 : Int32) (b25 : Int32) (b26 : Int32) (b27 : Int32) (b29 : Int32) (b31 : Int32) (b32 : Int32) (b33 : Int32) (hb5 : 0 ≤ b5.toInt ∧ b5.toInt ≤ 900) (a2 : Nat → Int32) (hb8 : 0 ≤ b8.toInt ∧ b8.toInt ≤ 900) (hb7 : 0 ≤ b7.toInt ∧ b7.toInt ≤ b8.toInt) (hb6 : 0 ≤ b6.toInt ∧ b6.toInt ≤ b7.toInt) : Met l yX9_keyAt (wsc yX9_keyAt cX9_keyAt 4 (some .int)) { frames := 6, cells := 0, slots := 0, locals := 185 } (va_Pc [.ref h0] (PX D cT sz [(h0, .inr (9, (.int b0 :: .ref (g 0) :: .ref (g 1) :: .ref (g 2) :: .ref (g 3) :: .int b5 :: .int b6 :: .int b7 :: .int b8 :: .int b9 :: .int b10 :: .int b11 :: .int b12 :: .int b13 :: .int b14 :: .ref (g 4) :: .ref (g 5) :: .int b17 :: .int b18 :: .int b19 :: .ref (g 6) :: .ref (g 7) :: .ref (g 8) :: .int b23 :: .int b24 :: .int b25 :: .int b26 :: .int b27 :: .ref (g 9) :: .int b29 :: .ref (g 10) :: .int b31 :: .int b32 :: .int b33 :: .ref (g 11) :: .ref (g 12) :: .ref (g 13) :: []))), ((g 2), .inl (cT 0, 900, .inl (a2)))])) (va_Qi (fun (r : Int32) (u : Unit) => (True)) (fun u t => RW D (va_A [(h0, .inr (9, (.int b0 :: .ref (g 0) :: .ref (g 1) :: .ref (g 2) :: .ref (g 3) :: .int b5 :: .int b6 :: .int b7 :: .int b8 :: .int b9 :: .int b10 :: .int b11 :: .int b12 :: .int b13 :: .int b14 :: .ref (g 4) :: .ref (g 5) :: .int b17 :: .int b18 :: .int b19 :: .ref (g 6) :: .ref (g 7) :: .ref (g 8) :: .int b23 :: .int b24 :: .int b25 :: .int b26 :: .int b27 :: .ref (g 9) :: .int b29 :: .ref (g 10) :: .int b31 :: .int b32 :: .int b33 :: .ref (g 11) :: .ref (g 12) :: .ref (g 13) :: []))), ((g 2), .inl (cT 0, 900, .inl (a2)))] sz) ((fun _ : Unit => [(h0, .inr (9, (.int b0 :: .ref (g 0) :: .ref (g 1) :: .ref (g 2) :: .ref (g 3) :: .int b5 :: .int b6 :: .int b7 :: .int b8 :: .int b9 :: .int b10 :: .int b11 :: .int b12 :: .int b13 :: .int b14 :: .ref (g 4) :: .ref (g 5) :: .int b17 :: .int b18 :: .int b19 :: .ref (g 6) :: .ref (g 7) :: .ref (g 8) :: .int b23 :: .int b24 :: .int b25 :: .int b26 :: .int b27 :: .ref (g 9) :: .int b29 :: .ref (g 10) :: .int b31 :: .int b32 :: .int b33 :: .ref (g 11) :: .ref (g 12) :: .ref (g 13) :: []))), ((g 2), .inl (cT 0, 900, .inl (a2)))]) u) t) (va_A [(h0, .inr (9, (.int b0 :: .ref (g 0) :: .ref (g 1) :: .ref (g 2) :: .ref (g 3) :: .int b5 :: .int b6 :: .int b7 :: .int b8 :: .int b9 :: .int b10 :: .int b11 :: .int b12 :: .int b13 :: .int b14 :: .ref (g 4) :: .ref (g 5) :: .int b17 :: .int b18 :: .int b19 :: .ref (g 6) :: .ref (g 7) :: .ref (g 8) :: .int b23 :: .int b24 :: .int b25 :: .int b26 :: .int b27 :: .ref (g 9) :: .int b29 :: .ref (g 10) :: .int b31 :: .int b32 :: .int b33 :: .ref (g 11) :: .ref (g 12) :: .ref (g 13) :: []))), ((g 2), .inl (cT 0, 900, .inl (a2)))] sz)) 0 0 (va_A [(h0, .inr (9, (.int b0 :: .ref (g 0) :: .ref (g 1) :: .ref (g 2) :: .ref (g 3) :: .int b5 :: .int b6 :: .int b7 :: .int b8 :: .int b9 :: .int b10 :: .int b11 :: .int b12 :: .int b13 :: .int b14 :: .ref (g 4) :: .ref (g 5) :: .int b17 :: .int b18 :: .int b19 :: .ref (g 6) :: .ref (g 7) :: .ref (g 8) :: .int b23 :: .int b24 :: .int b25 :: .int b26 :: .int b27 :: .ref (g 9) :: .int b29 :: .ref (g 10) :: .int b31 :: .int b32 :: .int b33 :: .ref (g 11) :: .ref (g 12) :: .ref (g 13) :: []))), ((g 2), .inl (cT 0, 900, .inl (a2)))] sz) := by
  refine m_of (y := yX9_keyAt) (cc := cX9_keyAt) (nL := 4) (ret := (some .int)) (D := D) (cT := cT) (av := [.ref h0]) (wi := [(h0, .inr (9, (.int b0 :: .ref (g 0) :: .ref (g 1) :: .ref (g 2) :: .ref (g 3) :: .int b5 :: .int b6 :: .int b7 :: .int b8 :: .int b9 :: .int b10 :: .int b11 :: .int b12 :: .int b13 :: .int b14 :: .ref (g 4) :: .ref (g 5) :: .int b17 :: .int b18 :: .int b19 :: .ref (g 6) :: .ref (g 7) :: .ref (g 8) :: .int b23 :: .int b24 :: .int b25 :: .int b26 :: .int b27 :: .ref (g 9) :: .int b29 :: .ref (g 10) :: .int b31 :: .int b32 :: .int b33 :: .ref (g 11) :: .ref (g 12) :: .ref (g 13) :: []))), ((g 2), .inl (cT 0, 900, .inl (a2)))]) (fun A => va_Qi (fun (r : Int32) (u : Unit) => (True)) (fun u t => RW D A ((fun _ : Unit => [(h0, .inr (9, (.int b0 :: .ref (g 0) :: .ref (g 1) :: .ref (g 2) :: .ref (g 3) :: .int b5 :: .int b6 :: .int b7 :: .int b8 :: .int b9 :: .int b10 :: .int b11 :: .int b12 :: .int b13 :: .int b14 :: .ref (g 4) :: .ref (g 5) :: .int b17 :: .int b18 :: .int b19 :: .ref (g 6) :: .ref (g 7) :: .ref (g 8) :: .int b23 :: .int b24 :: .int b25 :: .int b26 :: .int b27 :: .ref (g 9) :: .int b29 :: .ref (g 10) :: .int b31 :: .int b32 :: .int b33 :: .ref (g 11) :: .ref (g 12) :: .ref (g 13) :: []))), ((g 2), .inl (cT 0, 900, .inl (a2)))]) u) t) A) (by decide) (Nat.le_of_ble_eq_true rfl) ?_
  intro p e s m below meth c A hx hb hml hown htg hK hN hr hlk hnm hsz hP hD hS hA ls hl
  have hown : s.vm.findClass RX9 = some m.cls := hown
  have hl : lv_has ls 4 [(0, .ref h0)] := hl
  have tc_0 : (0 : Int32).toInt = 0 := by decide
  have tc_1 : (1 : Int32).toInt = 1 := by decide
  have tc_13 : (13 : Int32).toInt = 13 := by decide
  have tc_32 : (32 : Int32).toInt = 32 := by decide
  have h71 : strL.getD 13 0 = 71 := rfl
  refine lv_iconst (v := 0) hx hb dX9_keyAt_0 (by decide) ?_
  refine lv_istore_n (lv' := [(1, .int 0), (0, .ref h0)]) hx hb dX9_keyAt_1 rfl hl (by decide) rfl (fun ls hl => ?_)
  refine lv_iconst (v := 1) hx hb dX9_keyAt_2 (by decide) ?_
  refine lv_istore_n (lv' := [(2, .int 1), (1, .int 0), (0, .ref h0)]) hx hb dX9_keyAt_3 rfl hl (by decide) rfl (fun ls hl => ?_)
  refine (fun (key : ∀ (n9_4 : Nat) (k9_4 : Int32) (x9_4_1 : Int32) (H : Heap) (locs : List Loc) (ls : Array Slot), (1 ≤ k9_4.toInt ∧ k9_4.toInt ≤ 71) → 71 < k9_4.toInt + n9_4 → va_P D classes [(h0, .inr (9, (.int b0 :: .ref (g 0) :: .ref (g 1) :: .ref (g 2) :: .ref (g 3) :: .int b5 :: .int b6 :: .int b7 :: .int b8 :: .int b9 :: .int b10 :: .int b11 :: .int b12 :: .int b13 :: .int b14 :: .ref (g 4) :: .ref (g 5) :: .int b17 :: .int b18 :: .int b19 :: .ref (g 6) :: .ref (g 7) :: .ref (g 8) :: .int b23 :: .int b24 :: .int b25 :: .int b26 :: .int b27 :: .ref (g 9) :: .int b29 :: .ref (g 10) :: .int b31 :: .int b32 :: .int b33 :: .ref (g 11) :: .ref (g 12) :: .ref (g 13) :: []))), ((g 2), .inl (cT 0, 900, .inl (a2)))] H → va_D A [(h0, .inr (9, (.int b0 :: .ref (g 0) :: .ref (g 1) :: .ref (g 2) :: .ref (g 3) :: .int b5 :: .int b6 :: .int b7 :: .int b8 :: .int b9 :: .int b10 :: .int b11 :: .int b12 :: .int b13 :: .int b14 :: .ref (g 4) :: .ref (g 5) :: .int b17 :: .int b18 :: .int b19 :: .ref (g 6) :: .ref (g 7) :: .ref (g 8) :: .int b23 :: .int b24 :: .int b25 :: .int b26 :: .int b27 :: .ref (g 9) :: .int b29 :: .ref (g 10) :: .int b31 :: .int b32 :: .int b33 :: .ref (g 11) :: .ref (g 12) :: .ref (g 13) :: []))), ((g 2), .inl (cT 0, 900, .inl (a2)))] → va_S A s.heap H locs → lv_has ls 4 [(2, .int k9_4), (1, .int x9_4_1), (0, .ref h0)] → W p l e _ s m _ below meth c H locs _ _ _ (F0 m 4 ls [])) => key (Int.toNat (71 - 1) + 1) (1) _ _ _ _ (by omega) (by omega)  hP hD hS (lv_sub hl [0, 1, 2] rfl)) ?_
  intro n9_4
  induction n9_4 with
  | zero => intro k9_4 x9_4_1 H locs ls hq1 hq2; exact absurd hq2 (by omega)
  | succ n9_4 ih_4 =>
    intro k9_4 x9_4_1 H locs ls hq1_4 hq2_4  hP hD hS hl
    refine lv_iload_n hx hb dX9_keyAt_4 rfl (lv_at hl 0 rfl) ?_
    refine va_ldcS (q := cT (10 + 13)) hx hb hown (hN.2.2.2.1 13 (by decide)) dX9_keyAt_5 ?_
    refine xk_i (wr := [(h0, .inr (9, (.int b0 :: .ref (g 0) :: .ref (g 1) :: .ref (g 2) :: .ref (g 3) :: .int b5 :: .int b6 :: .int b7 :: .int b8 :: .int b9 :: .int b10 :: .int b11 :: .int b12 :: .int b13 :: .int b14 :: .ref (g 4) :: .ref (g 5) :: .int b17 :: .int b18 :: .int b19 :: .ref (g 6) :: .ref (g 7) :: .ref (g 8) :: .int b23 :: .int b24 :: .int b25 :: .int b26 :: .int b27 :: .ref (g 9) :: .int b29 :: .ref (g 10) :: .int b31 :: .int b32 :: .int b33 :: .ref (g 11) :: .ref (g 12) :: .ref (g 13) :: []))), ((g 2), .inl (cT 0, 900, .inl (a2)))]) (xr_VS (n := 0) (As := []) (rest := [.int k9_4]) ⟨hx, hb, hml, hown, htg⟩ hK hN hP hD hS hA [] rfl (by decide) (g_s_length l D cT _ (13) (by first | assumption | omega | decide | exact Or.inl (by decide) | (intro h9; exact absurd h9 (by decide)) | (intro _; omega) | (intro _; assumption) | (intro _; decide))) wi_1289 wi_559 wi_560 wi_134 wi_561 (vk_recv (i := 13) (adK := fun i => cT (10 + i)) (adV := fun i => cT (40 + i)) hN.2.2.2.2.1 (by decide) hS) ⟨rfl, by decide +kernel⟩ ⟨Nat.le_of_ble_eq_true rfl, Nat.le_of_ble_eq_true rfl⟩ rfl hl.1 rfl (Nat.le_of_ble_eq_true rfl) dX9_keyAt_7 ⟨Nat.le_of_ble_eq_true rfl, Nat.le_of_ble_eq_true rfl⟩) hP hD hS hA [] [0, 1] rfl rfl (by decide) (by decide) (fun r_2 u_1 H locs hwr_2 hP hD hS => ?_)
    have hP : va_P D classes [(h0, .inr (9, (.int b0 :: .ref (g 0) :: .ref (g 1) :: .ref (g 2) :: .ref (g 3) :: .int b5 :: .int b6 :: .int b7 :: .int b8 :: .int b9 :: .int b10 :: .int b11 :: .int b12 :: .int b13 :: .int b14 :: .ref (g 4) :: .ref (g 5) :: .int b17 :: .int b18 :: .int b19 :: .ref (g 6) :: .ref (g 7) :: .ref (g 8) :: .int b23 :: .int b24 :: .int b25 :: .int b26 :: .int b27 :: .ref (g 9) :: .int b29 :: .ref (g 10) :: .int b31 :: .int b32 :: .int b33 :: .ref (g 11) :: .ref (g 12) :: .ref (g 13) :: []))), ((g 2), .inl (cT 0, 900, .inl (a2)))] _ := hP
    have hD : va_D A [(h0, .inr (9, (.int b0 :: .ref (g 0) :: .ref (g 1) :: .ref (g 2) :: .ref (g 3) :: .int b5 :: .int b6 :: .int b7 :: .int b8 :: .int b9 :: .int b10 :: .int b11 :: .int b12 :: .int b13 :: .int b14 :: .ref (g 4) :: .ref (g 5) :: .int b17 :: .int b18 :: .int b19 :: .ref (g 6) :: .ref (g 7) :: .ref (g 8) :: .int b23 :: .int b24 :: .int b25 :: .int b26 :: .int b27 :: .ref (g 9) :: .int b29 :: .ref (g 10) :: .int b31 :: .int b32 :: .int b33 :: .ref (g 11) :: .ref (g 12) :: .ref (g 13) :: []))), ((g 2), .inl (cT 0, 900, .inl (a2)))] := hD
    have hwr_2 : r_2 = nI (strL.getD 13 0) := hwr_2
    subst hwr_2
    have hsl_13 : (nI (strL.getD 13 0)).toInt = ((strL.getD 13 0 : Nat) : Int) := nI_toInt (by have h7 := strL_le 13 (by decide); omega)
    refine lv_icmp_ge (tgt := 123) hx hb dX9_keyAt_10 (by decide) (fun c_3 => ?_) (fun c_3 => ?_)
    · have ic_3 : ((strL.getD 13 0 : Nat) : Int) ≤ k9_4.toInt := ile c_3 (nI_toInt (by omega)) (rfl)
      refine lv_bipush (v := 13) hx hb dX9_keyAt_123 (by decide) ?_
      exact x_iret hx hb hr hlk hP hD hS [0, 1] (()) rfl (by decide) trivial (by decide) (by decide) dX9_keyAt_125
    · have ic_3 : k9_4.toInt < ((strL.getD 13 0 : Nat) : Int) := inle c_3 (nI_toInt (by omega)) (rfl)
      refine lv_iconst (v := 0) hx hb dX9_keyAt_13 (by decide) ?_
      refine lv_istore_n (lv' := [(3, .int 0), (2, .int k9_4), (1, .int x9_4_1), (0, .ref h0)]) hx hb dX9_keyAt_14 rfl hl (by decide) rfl (fun ls hl => ?_)
      refine (fun (key : ∀ (n9_15 : Nat) (k9_15 : Nat)  (H : Heap) (locs : List Loc) (ls : Array Slot), (k9_15 : Int) ≤ 70 - k9_4.toInt → 70 - k9_4.toInt < (k9_15 : Int) + n9_15 → va_P D classes [(h0, .inr (9, (.int b0 :: .ref (g 0) :: .ref (g 1) :: .ref (g 2) :: .ref (g 3) :: .int b5 :: .int b6 :: .int b7 :: .int b8 :: .int b9 :: .int b10 :: .int b11 :: .int b12 :: .int b13 :: .int b14 :: .ref (g 4) :: .ref (g 5) :: .int b17 :: .int b18 :: .int b19 :: .ref (g 6) :: .ref (g 7) :: .ref (g 8) :: .int b23 :: .int b24 :: .int b25 :: .int b26 :: .int b27 :: .ref (g 9) :: .int b29 :: .ref (g 10) :: .int b31 :: .int b32 :: .int b33 :: .ref (g 11) :: .ref (g 12) :: .ref (g 13) :: []))), ((g 2), .inl (cT 0, 900, .inl (a2)))] H → va_D A [(h0, .inr (9, (.int b0 :: .ref (g 0) :: .ref (g 1) :: .ref (g 2) :: .ref (g 3) :: .int b5 :: .int b6 :: .int b7 :: .int b8 :: .int b9 :: .int b10 :: .int b11 :: .int b12 :: .int b13 :: .int b14 :: .ref (g 4) :: .ref (g 5) :: .int b17 :: .int b18 :: .int b19 :: .ref (g 6) :: .ref (g 7) :: .ref (g 8) :: .int b23 :: .int b24 :: .int b25 :: .int b26 :: .int b27 :: .ref (g 9) :: .int b29 :: .ref (g 10) :: .int b31 :: .int b32 :: .int b33 :: .ref (g 11) :: .ref (g 12) :: .ref (g 13) :: []))), ((g 2), .inl (cT 0, 900, .inl (a2)))] → va_S A s.heap H locs → lv_has ls 4 [(3, .int (nI k9_15)), (2, .int k9_4), (1, .int x9_4_1), (0, .ref h0)] → W p l e _ s m _ below meth c H locs _ _ _ (F0 m 15 ls [])) => key (Int.toNat (70 - k9_4.toInt - 0) + 1) 0  _ _ _ (by omega) (by omega)  hP hD hS (lv_sub hl [0, 1, 2, 3] rfl)) ?_
      intro n9_15
      induction n9_15 with
      | zero => intro k9_15  H locs ls hq1 hq2; exact absurd hq2 (by omega)
      | succ n9_15 ih_15 =>
        intro k9_15  H locs ls hq1_15 hq2_15  hP hD hS hl
        have hk9_15 : (nI k9_15).toInt = (k9_15 : Int) := nI_toInt (by omega)
        refine va_ldcS (q := cT (10 + 13)) hx hb hown (hN.2.2.2.1 13 (by decide)) dX9_keyAt_15 ?_
        refine lv_iload_n hx hb dX9_keyAt_17 rfl (lv_at hl 1 rfl) ?_
        refine lv_iload_n hx hb dX9_keyAt_18 rfl (lv_at hl 0 rfl) ?_
        refine lv_iadd hx hb dX9_keyAt_19 ?_
        refine lv_topi (fun z_4 ez_4 => ?_)
        have iz_4 : z_4.toInt = k9_4.toInt + ((k9_15 : Nat) : Int) := toInt_addI ez_4 (rfl) (nI_toInt (by omega)) (by omega)
        refine xk_i (wr := [(h0, .inr (9, (.int b0 :: .ref (g 0) :: .ref (g 1) :: .ref (g 2) :: .ref (g 3) :: .int b5 :: .int b6 :: .int b7 :: .int b8 :: .int b9 :: .int b10 :: .int b11 :: .int b12 :: .int b13 :: .int b14 :: .ref (g 4) :: .ref (g 5) :: .int b17 :: .int b18 :: .int b19 :: .ref (g 6) :: .ref (g 7) :: .ref (g 8) :: .int b23 :: .int b24 :: .int b25 :: .int b26 :: .int b27 :: .ref (g 9) :: .int b29 :: .ref (g 10) :: .int b31 :: .int b32 :: .int b33 :: .ref (g 11) :: .ref (g 12) :: .ref (g 13) :: []))), ((g 2), .inl (cT 0, 900, .inl (a2)))]) (xr_VS (n := 1) (As := [.int z_4]) (rest := []) ⟨hx, hb, hml, hown, htg⟩ hK hN hP hD hS hA [] rfl (by decide) (g_s_charAtK l D cT _ (13) (by first | assumption | omega | decide | exact Or.inl (by decide) | (intro h9; exact absurd h9 (by decide)) | (intro _; omega) | (intro _; assumption) | (intro _; decide)) (z_4) (by first | assumption | omega | decide | exact Or.inl (by decide) | (intro h9; exact absurd h9 (by decide)) | (intro _; omega) | (intro _; assumption) | (intro _; decide)) (by first | assumption | omega | decide | exact Or.inl (by decide) | (intro h9; exact absurd h9 (by decide)) | (intro _; omega) | (intro _; assumption) | (intro _; decide)) (by first | assumption | omega | decide | exact Or.inl (by decide) | (intro h9; exact absurd h9 (by decide)) | (intro _; omega) | (intro _; assumption) | (intro _; decide))) wi_1290 wi_569 wi_570 wi_134 wi_571 (vk_recv (i := 13) (adK := fun i => cT (10 + i)) (adV := fun i => cT (40 + i)) hN.2.2.2.2.1 (by decide) hS) ⟨rfl, by decide +kernel⟩ ⟨Nat.le_of_ble_eq_true rfl, Nat.le_of_ble_eq_true rfl⟩ rfl hl.1 rfl (Nat.le_of_ble_eq_true rfl) dX9_keyAt_20 ⟨Nat.le_of_ble_eq_true rfl, Nat.le_of_ble_eq_true rfl⟩) hP hD hS hA [] [0, 1] rfl rfl (by decide) (by decide) (fun r_6 u_5 H locs hwr_6 hP hD hS => ?_)
        have hP : va_P D classes [(h0, .inr (9, (.int b0 :: .ref (g 0) :: .ref (g 1) :: .ref (g 2) :: .ref (g 3) :: .int b5 :: .int b6 :: .int b7 :: .int b8 :: .int b9 :: .int b10 :: .int b11 :: .int b12 :: .int b13 :: .int b14 :: .ref (g 4) :: .ref (g 5) :: .int b17 :: .int b18 :: .int b19 :: .ref (g 6) :: .ref (g 7) :: .ref (g 8) :: .int b23 :: .int b24 :: .int b25 :: .int b26 :: .int b27 :: .ref (g 9) :: .int b29 :: .ref (g 10) :: .int b31 :: .int b32 :: .int b33 :: .ref (g 11) :: .ref (g 12) :: .ref (g 13) :: []))), ((g 2), .inl (cT 0, 900, .inl (a2)))] _ := hP
        have hD : va_D A [(h0, .inr (9, (.int b0 :: .ref (g 0) :: .ref (g 1) :: .ref (g 2) :: .ref (g 3) :: .int b5 :: .int b6 :: .int b7 :: .int b8 :: .int b9 :: .int b10 :: .int b11 :: .int b12 :: .int b13 :: .int b14 :: .ref (g 4) :: .ref (g 5) :: .int b17 :: .int b18 :: .int b19 :: .ref (g 6) :: .ref (g 7) :: .ref (g 8) :: .int b23 :: .int b24 :: .int b25 :: .int b26 :: .int b27 :: .ref (g 9) :: .int b29 :: .ref (g 10) :: .int b31 :: .int b32 :: .int b33 :: .ref (g 11) :: .ref (g 12) :: .ref (g 13) :: []))), ((g 2), .inl (cT 0, 900, .inl (a2)))] := hD
        have qr_6_0 : narrow .char (.int r_6) = .int r_6 := hwr_6.1
        have qr_6_1 : z_4.toInt = 70 → r_6.toInt = 32 := hwr_6.2.1
        refine lv_bipush (v := 32) hx hb dX9_keyAt_23 (by decide) ?_
        refine lv_icmp_eq (tgt := 69) hx hb dX9_keyAt_25 (by decide) (fun c_7 => ?_) (fun c_7 => ?_)
        · have ic_7 : r_6.toInt = 32 := ieq c_7 (rfl) (by decide)
          refine va_ldcS (q := cT (10 + 13)) hx hb hown (hN.2.2.2.1 13 (by decide)) dX9_keyAt_69 ?_
          refine lv_iload_n hx hb dX9_keyAt_71 rfl (lv_at hl 1 rfl) ?_
          refine lv_iload_n hx hb dX9_keyAt_72 rfl (lv_at hl 0 rfl) ?_
          refine lv_iadd hx hb dX9_keyAt_73 ?_
          refine lv_topi (fun z_8 ez_8 => ?_)
          have iz_8 : z_8.toInt = k9_4.toInt + ((k9_15 : Nat) : Int) := toInt_addI ez_8 (rfl) (nI_toInt (by omega)) (by omega)
          refine xk_i (wr := [(h0, .inr (9, (.int b0 :: .ref (g 0) :: .ref (g 1) :: .ref (g 2) :: .ref (g 3) :: .int b5 :: .int b6 :: .int b7 :: .int b8 :: .int b9 :: .int b10 :: .int b11 :: .int b12 :: .int b13 :: .int b14 :: .ref (g 4) :: .ref (g 5) :: .int b17 :: .int b18 :: .int b19 :: .ref (g 6) :: .ref (g 7) :: .ref (g 8) :: .int b23 :: .int b24 :: .int b25 :: .int b26 :: .int b27 :: .ref (g 9) :: .int b29 :: .ref (g 10) :: .int b31 :: .int b32 :: .int b33 :: .ref (g 11) :: .ref (g 12) :: .ref (g 13) :: []))), ((g 2), .inl (cT 0, 900, .inl (a2)))]) (xr_VS (n := 1) (As := [.int z_8]) (rest := []) ⟨hx, hb, hml, hown, htg⟩ hK hN hP hD hS hA [] rfl (by decide) (g_s_charAtK l D cT _ (13) (by first | assumption | omega | decide | exact Or.inl (by decide) | (intro h9; exact absurd h9 (by decide)) | (intro _; omega) | (intro _; assumption) | (intro _; decide)) (z_8) (by first | assumption | omega | decide | exact Or.inl (by decide) | (intro h9; exact absurd h9 (by decide)) | (intro _; omega) | (intro _; assumption) | (intro _; decide)) (by first | assumption | omega | decide | exact Or.inl (by decide) | (intro h9; exact absurd h9 (by decide)) | (intro _; omega) | (intro _; assumption) | (intro _; decide)) (by first | assumption | omega | decide | exact Or.inl (by decide) | (intro h9; exact absurd h9 (by decide)) | (intro _; omega) | (intro _; assumption) | (intro _; decide))) wi_1290 wi_569 wi_570 wi_134 wi_571 (vk_recv (i := 13) (adK := fun i => cT (10 + i)) (adV := fun i => cT (40 + i)) hN.2.2.2.2.1 (by decide) hS) ⟨rfl, by decide +kernel⟩ ⟨Nat.le_of_ble_eq_true rfl, Nat.le_of_ble_eq_true rfl⟩ rfl hl.1 rfl (Nat.le_of_ble_eq_true rfl) dX9_keyAt_74 ⟨Nat.le_of_ble_eq_true rfl, Nat.le_of_ble_eq_true rfl⟩) hP hD hS hA [] [0, 1] rfl rfl (by decide) (by decide) (fun r_10 u_9 H locs hwr_10 hP hD hS => ?_)
          have hP : va_P D classes [(h0, .inr (9, (.int b0 :: .ref (g 0) :: .ref (g 1) :: .ref (g 2) :: .ref (g 3) :: .int b5 :: .int b6 :: .int b7 :: .int b8 :: .int b9 :: .int b10 :: .int b11 :: .int b12 :: .int b13 :: .int b14 :: .ref (g 4) :: .ref (g 5) :: .int b17 :: .int b18 :: .int b19 :: .ref (g 6) :: .ref (g 7) :: .ref (g 8) :: .int b23 :: .int b24 :: .int b25 :: .int b26 :: .int b27 :: .ref (g 9) :: .int b29 :: .ref (g 10) :: .int b31 :: .int b32 :: .int b33 :: .ref (g 11) :: .ref (g 12) :: .ref (g 13) :: []))), ((g 2), .inl (cT 0, 900, .inl (a2)))] _ := hP
          have hD : va_D A [(h0, .inr (9, (.int b0 :: .ref (g 0) :: .ref (g 1) :: .ref (g 2) :: .ref (g 3) :: .int b5 :: .int b6 :: .int b7 :: .int b8 :: .int b9 :: .int b10 :: .int b11 :: .int b12 :: .int b13 :: .int b14 :: .ref (g 4) :: .ref (g 5) :: .int b17 :: .int b18 :: .int b19 :: .ref (g 6) :: .ref (g 7) :: .ref (g 8) :: .int b23 :: .int b24 :: .int b25 :: .int b26 :: .int b27 :: .ref (g 9) :: .int b29 :: .ref (g 10) :: .int b31 :: .int b32 :: .int b33 :: .ref (g 11) :: .ref (g 12) :: .ref (g 13) :: []))), ((g 2), .inl (cT 0, 900, .inl (a2)))] := hD
          have qr_10_0 : narrow .char (.int r_10) = .int r_10 := hwr_10.1
          have qr_10_1 : z_8.toInt = 70 → r_10.toInt = 32 := hwr_10.2.1
          refine lv_bipush (v := 32) hx hb dX9_keyAt_77 (by decide) ?_
          refine lv_icmp_ne (tgt := 97) hx hb dX9_keyAt_79 (by decide) (fun c_11 => ?_) (fun c_11 => ?_)
          · have ic_11 : ¬ r_10.toInt = 32 := ine c_11 (rfl) (by decide)
            refine (fun (key : ∀ (n9_97 : Nat) (k9_97 : Int32)  (H : Heap) (locs : List Loc) (ls : Array Slot), (k9_4.toInt ≤ k9_97.toInt ∧ k9_97.toInt ≤ 70) → 70 < k9_97.toInt + n9_97 → va_P D classes [(h0, .inr (9, (.int b0 :: .ref (g 0) :: .ref (g 1) :: .ref (g 2) :: .ref (g 3) :: .int b5 :: .int b6 :: .int b7 :: .int b8 :: .int b9 :: .int b10 :: .int b11 :: .int b12 :: .int b13 :: .int b14 :: .ref (g 4) :: .ref (g 5) :: .int b17 :: .int b18 :: .int b19 :: .ref (g 6) :: .ref (g 7) :: .ref (g 8) :: .int b23 :: .int b24 :: .int b25 :: .int b26 :: .int b27 :: .ref (g 9) :: .int b29 :: .ref (g 10) :: .int b31 :: .int b32 :: .int b33 :: .ref (g 11) :: .ref (g 12) :: .ref (g 13) :: []))), ((g 2), .inl (cT 0, 900, .inl (a2)))] H → va_D A [(h0, .inr (9, (.int b0 :: .ref (g 0) :: .ref (g 1) :: .ref (g 2) :: .ref (g 3) :: .int b5 :: .int b6 :: .int b7 :: .int b8 :: .int b9 :: .int b10 :: .int b11 :: .int b12 :: .int b13 :: .int b14 :: .ref (g 4) :: .ref (g 5) :: .int b17 :: .int b18 :: .int b19 :: .ref (g 6) :: .ref (g 7) :: .ref (g 8) :: .int b23 :: .int b24 :: .int b25 :: .int b26 :: .int b27 :: .ref (g 9) :: .int b29 :: .ref (g 10) :: .int b31 :: .int b32 :: .int b33 :: .ref (g 11) :: .ref (g 12) :: .ref (g 13) :: []))), ((g 2), .inl (cT 0, 900, .inl (a2)))] → va_S A s.heap H locs → lv_has ls 4 [(3, .int (nI k9_15)), (2, .int k9_97), (1, .int x9_4_1), (0, .ref h0)] → W p l e _ s m _ below meth c H locs _ _ _ (F0 m 97 ls [])) => key (Int.toNat (70 - k9_4.toInt) + 1) (k9_4)  _ _ _ (by omega) (by omega)  hP hD hS (lv_sub hl [0, 1, 2, 3] rfl)) ?_
            intro n9_97
            induction n9_97 with
            | zero => intro k9_97  H locs ls hq1 hq2; exact absurd hq2 (by omega)
            | succ n9_97 ih_97 =>
              intro k9_97  H locs ls hq1_97 hq2_97  hP hD hS hl
              refine va_ldcS (q := cT (10 + 13)) hx hb hown (hN.2.2.2.1 13 (by decide)) dX9_keyAt_97 ?_
              refine lv_iload_n hx hb dX9_keyAt_99 rfl (lv_at hl 1 rfl) ?_
              refine xk_i (wr := [(h0, .inr (9, (.int b0 :: .ref (g 0) :: .ref (g 1) :: .ref (g 2) :: .ref (g 3) :: .int b5 :: .int b6 :: .int b7 :: .int b8 :: .int b9 :: .int b10 :: .int b11 :: .int b12 :: .int b13 :: .int b14 :: .ref (g 4) :: .ref (g 5) :: .int b17 :: .int b18 :: .int b19 :: .ref (g 6) :: .ref (g 7) :: .ref (g 8) :: .int b23 :: .int b24 :: .int b25 :: .int b26 :: .int b27 :: .ref (g 9) :: .int b29 :: .ref (g 10) :: .int b31 :: .int b32 :: .int b33 :: .ref (g 11) :: .ref (g 12) :: .ref (g 13) :: []))), ((g 2), .inl (cT 0, 900, .inl (a2)))]) (xr_VS (n := 1) (As := [.int k9_97]) (rest := []) ⟨hx, hb, hml, hown, htg⟩ hK hN hP hD hS hA [] rfl (by decide) (g_s_charAtK l D cT _ (13) (by first | assumption | omega | decide | exact Or.inl (by decide) | (intro h9; exact absurd h9 (by decide)) | (intro _; omega) | (intro _; assumption) | (intro _; decide)) (k9_97) (by first | assumption | omega | decide | exact Or.inl (by decide) | (intro h9; exact absurd h9 (by decide)) | (intro _; omega) | (intro _; assumption) | (intro _; decide)) (by first | assumption | omega | decide | exact Or.inl (by decide) | (intro h9; exact absurd h9 (by decide)) | (intro _; omega) | (intro _; assumption) | (intro _; decide)) (by first | assumption | omega | decide | exact Or.inl (by decide) | (intro h9; exact absurd h9 (by decide)) | (intro _; omega) | (intro _; assumption) | (intro _; decide))) wi_1290 wi_569 wi_570 wi_134 wi_571 (vk_recv (i := 13) (adK := fun i => cT (10 + i)) (adV := fun i => cT (40 + i)) hN.2.2.2.2.1 (by decide) hS) ⟨rfl, by decide +kernel⟩ ⟨Nat.le_of_ble_eq_true rfl, Nat.le_of_ble_eq_true rfl⟩ rfl hl.1 rfl (Nat.le_of_ble_eq_true rfl) dX9_keyAt_100 ⟨Nat.le_of_ble_eq_true rfl, Nat.le_of_ble_eq_true rfl⟩) hP hD hS hA [] [0, 1] rfl rfl (by decide) (by decide) (fun r_13 u_12 H locs hwr_13 hP hD hS => ?_)
              have hP : va_P D classes [(h0, .inr (9, (.int b0 :: .ref (g 0) :: .ref (g 1) :: .ref (g 2) :: .ref (g 3) :: .int b5 :: .int b6 :: .int b7 :: .int b8 :: .int b9 :: .int b10 :: .int b11 :: .int b12 :: .int b13 :: .int b14 :: .ref (g 4) :: .ref (g 5) :: .int b17 :: .int b18 :: .int b19 :: .ref (g 6) :: .ref (g 7) :: .ref (g 8) :: .int b23 :: .int b24 :: .int b25 :: .int b26 :: .int b27 :: .ref (g 9) :: .int b29 :: .ref (g 10) :: .int b31 :: .int b32 :: .int b33 :: .ref (g 11) :: .ref (g 12) :: .ref (g 13) :: []))), ((g 2), .inl (cT 0, 900, .inl (a2)))] _ := hP
              have hD : va_D A [(h0, .inr (9, (.int b0 :: .ref (g 0) :: .ref (g 1) :: .ref (g 2) :: .ref (g 3) :: .int b5 :: .int b6 :: .int b7 :: .int b8 :: .int b9 :: .int b10 :: .int b11 :: .int b12 :: .int b13 :: .int b14 :: .ref (g 4) :: .ref (g 5) :: .int b17 :: .int b18 :: .int b19 :: .ref (g 6) :: .ref (g 7) :: .ref (g 8) :: .int b23 :: .int b24 :: .int b25 :: .int b26 :: .int b27 :: .ref (g 9) :: .int b29 :: .ref (g 10) :: .int b31 :: .int b32 :: .int b33 :: .ref (g 11) :: .ref (g 12) :: .ref (g 13) :: []))), ((g 2), .inl (cT 0, 900, .inl (a2)))] := hD
              have qr_13_0 : narrow .char (.int r_13) = .int r_13 := hwr_13.1
              have qr_13_1 : k9_97.toInt = 70 → r_13.toInt = 32 := hwr_13.2.1
              refine lv_bipush (v := 32) hx hb dX9_keyAt_103 (by decide) ?_
              refine lv_icmp_eq (tgt := 114) hx hb dX9_keyAt_105 (by decide) (fun c_14 => ?_) (fun c_14 => ?_)
              · have ic_14 : r_13.toInt = 32 := ieq c_14 (rfl) (by decide)
                obtain ⟨z_15, ez_15⟩ : ∃ w : Int32, w = k9_97 + 1 := ⟨_, rfl⟩
                have iz_15 : z_15.toInt = k9_97.toInt + 1 := toInt_addI ez_15 (rfl) (by decide) (by omega)
                refine lv_iinc (v := z_15) (lv' := [(2, .int z_15), (3, .int (nI k9_15)), (1, .int x9_4_1), (0, .ref h0)]) hx hb dX9_keyAt_114 hl (k := 1) rfl (by rw [ez_15]; rfl) (by decide) rfl (fun ls hl => ?_)
                obtain ⟨z_16, ez_16⟩ : ∃ w : Int32, w = x9_4_1 + 1 := ⟨_, rfl⟩
                refine lv_iinc (v := z_16) (lv' := [(1, .int z_16), (2, .int z_15), (3, .int (nI k9_15)), (0, .ref h0)]) hx hb dX9_keyAt_117 hl (k := 2) rfl (by rw [ez_16]; rfl) (by decide) rfl (fun ls hl => ?_)
                refine lv_goto (tgt := 4) hx hb dX9_keyAt_120 (by decide) ?_
                exact ih_4 (z_15) _ _ _ _ (by omega) (by omega)  (hP.sub [0, 1] rfl) (hD.sub [0, 1] (by decide) rfl) hS (lv_sub hl [1, 0, 3] rfl)
              · have ic_14 : ¬ r_13.toInt = 32 := ine c_14 (rfl) (by decide)
                obtain ⟨z_17, ez_17⟩ : ∃ w : Int32, w = k9_97 + 1 := ⟨_, rfl⟩
                have iz_17 : z_17.toInt = k9_97.toInt + 1 := toInt_addI ez_17 (rfl) (by decide) (by omega)
                refine lv_iinc (v := z_17) (lv' := [(2, .int z_17), (3, .int (nI k9_15)), (1, .int x9_4_1), (0, .ref h0)]) hx hb dX9_keyAt_108 hl (k := 1) rfl (by rw [ez_17]; rfl) (by decide) rfl (fun ls hl => ?_)
                refine lv_goto (tgt := 97) hx hb dX9_keyAt_111 (by decide) ?_
                exact ih_97 (z_17)  _ _ _ (by omega) (by omega)  (hP.sub [0, 1] rfl) (hD.sub [0, 1] (by decide) rfl) hS (lv_sub hl [1, 0, 2, 3] rfl)
          · have ic_11 : r_10.toInt = 32 := ieq c_11 (rfl) (by decide)
            refine lv_aload_n hx hb dX9_keyAt_82 rfl (lv_at hl 3 rfl) ?_
            refine va_get (D := D) (ci := 9) (v := .int b6) (C := RX9) (T := TX9) (N := 37) hx hb htg gRX9 hown hK hP 0 rfl rfl 6 (by decide) (htg _ wi_1156) (fun _ h9 => h9) rfl dX9_keyAt_83 ?_
            refine lv_iload_n hx hb dX9_keyAt_86 rfl (lv_at hl 0 rfl) ?_
            refine lv_iadd hx hb dX9_keyAt_87 ?_
            refine lv_topi (fun z_18 ez_18 => ?_)
            have iz_18 : z_18.toInt = b6.toInt + ((k9_15 : Nat) : Int) := toInt_addI ez_18 (rfl) (nI_toInt (by omega)) (by omega)
            refine lv_aload_n hx hb dX9_keyAt_88 rfl (lv_at hl 3 rfl) ?_
            refine va_get (D := D) (ci := 9) (v := .int b7) (C := RX9) (T := TX9) (N := 37) hx hb htg gRX9 hown hK hP 0 rfl rfl 7 (by decide) (htg _ wi_1157) (fun _ h9 => h9) rfl dX9_keyAt_89 ?_
            refine lv_icmp_ne (tgt := 97) hx hb dX9_keyAt_92 (by decide) (fun c_19 => ?_) (fun c_19 => ?_)
            · have ic_19 : ¬ z_18.toInt = b7.toInt := ine c_19 (rfl) (rfl)
              refine (fun (key : ∀ (n9_97 : Nat) (k9_97 : Int32)  (H : Heap) (locs : List Loc) (ls : Array Slot), (k9_4.toInt ≤ k9_97.toInt ∧ k9_97.toInt ≤ 70) → 70 < k9_97.toInt + n9_97 → va_P D classes [(h0, .inr (9, (.int b0 :: .ref (g 0) :: .ref (g 1) :: .ref (g 2) :: .ref (g 3) :: .int b5 :: .int b6 :: .int b7 :: .int b8 :: .int b9 :: .int b10 :: .int b11 :: .int b12 :: .int b13 :: .int b14 :: .ref (g 4) :: .ref (g 5) :: .int b17 :: .int b18 :: .int b19 :: .ref (g 6) :: .ref (g 7) :: .ref (g 8) :: .int b23 :: .int b24 :: .int b25 :: .int b26 :: .int b27 :: .ref (g 9) :: .int b29 :: .ref (g 10) :: .int b31 :: .int b32 :: .int b33 :: .ref (g 11) :: .ref (g 12) :: .ref (g 13) :: []))), ((g 2), .inl (cT 0, 900, .inl (a2)))] H → va_D A [(h0, .inr (9, (.int b0 :: .ref (g 0) :: .ref (g 1) :: .ref (g 2) :: .ref (g 3) :: .int b5 :: .int b6 :: .int b7 :: .int b8 :: .int b9 :: .int b10 :: .int b11 :: .int b12 :: .int b13 :: .int b14 :: .ref (g 4) :: .ref (g 5) :: .int b17 :: .int b18 :: .int b19 :: .ref (g 6) :: .ref (g 7) :: .ref (g 8) :: .int b23 :: .int b24 :: .int b25 :: .int b26 :: .int b27 :: .ref (g 9) :: .int b29 :: .ref (g 10) :: .int b31 :: .int b32 :: .int b33 :: .ref (g 11) :: .ref (g 12) :: .ref (g 13) :: []))), ((g 2), .inl (cT 0, 900, .inl (a2)))] → va_S A s.heap H locs → lv_has ls 4 [(3, .int (nI k9_15)), (2, .int k9_97), (1, .int x9_4_1), (0, .ref h0)] → W p l e _ s m _ below meth c H locs _ _ _ (F0 m 97 ls [])) => key (Int.toNat (70 - k9_4.toInt) + 1) (k9_4)  _ _ _ (by omega) (by omega)  hP hD hS (lv_sub hl [0, 1, 2, 3] rfl)) ?_
              intro n9_97
              induction n9_97 with
              | zero => intro k9_97  H locs ls hq1 hq2; exact absurd hq2 (by omega)
              | succ n9_97 ih_97 =>
                intro k9_97  H locs ls hq1_97 hq2_97  hP hD hS hl
                refine va_ldcS (q := cT (10 + 13)) hx hb hown (hN.2.2.2.1 13 (by decide)) dX9_keyAt_97 ?_
                refine lv_iload_n hx hb dX9_keyAt_99 rfl (lv_at hl 1 rfl) ?_
                refine xk_i (wr := [(h0, .inr (9, (.int b0 :: .ref (g 0) :: .ref (g 1) :: .ref (g 2) :: .ref (g 3) :: .int b5 :: .int b6 :: .int b7 :: .int b8 :: .int b9 :: .int b10 :: .int b11 :: .int b12 :: .int b13 :: .int b14 :: .ref (g 4) :: .ref (g 5) :: .int b17 :: .int b18 :: .int b19 :: .ref (g 6) :: .ref (g 7) :: .ref (g 8) :: .int b23 :: .int b24 :: .int b25 :: .int b26 :: .int b27 :: .ref (g 9) :: .int b29 :: .ref (g 10) :: .int b31 :: .int b32 :: .int b33 :: .ref (g 11) :: .ref (g 12) :: .ref (g 13) :: []))), ((g 2), .inl (cT 0, 900, .inl (a2)))]) (xr_VS (n := 1) (As := [.int k9_97]) (rest := []) ⟨hx, hb, hml, hown, htg⟩ hK hN hP hD hS hA [] rfl (by decide) (g_s_charAtK l D cT _ (13) (by first | assumption | omega | decide | exact Or.inl (by decide) | (intro h9; exact absurd h9 (by decide)) | (intro _; omega) | (intro _; assumption) | (intro _; decide)) (k9_97) (by first | assumption | omega | decide | exact Or.inl (by decide) | (intro h9; exact absurd h9 (by decide)) | (intro _; omega) | (intro _; assumption) | (intro _; decide)) (by first | assumption | omega | decide | exact Or.inl (by decide) | (intro h9; exact absurd h9 (by decide)) | (intro _; omega) | (intro _; assumption) | (intro _; decide)) (by first | assumption | omega | decide | exact Or.inl (by decide) | (intro h9; exact absurd h9 (by decide)) | (intro _; omega) | (intro _; assumption) | (intro _; decide))) wi_1290 wi_569 wi_570 wi_134 wi_571 (vk_recv (i := 13) (adK := fun i => cT (10 + i)) (adV := fun i => cT (40 + i)) hN.2.2.2.2.1 (by decide) hS) ⟨rfl, by decide +kernel⟩ ⟨Nat.le_of_ble_eq_true rfl, Nat.le_of_ble_eq_true rfl⟩ rfl hl.1 rfl (Nat.le_of_ble_eq_true rfl) dX9_keyAt_100 ⟨Nat.le_of_ble_eq_true rfl, Nat.le_of_ble_eq_true rfl⟩) hP hD hS hA [] [0, 1] rfl rfl (by decide) (by decide) (fun r_21 u_20 H locs hwr_21 hP hD hS => ?_)
                have hP : va_P D classes [(h0, .inr (9, (.int b0 :: .ref (g 0) :: .ref (g 1) :: .ref (g 2) :: .ref (g 3) :: .int b5 :: .int b6 :: .int b7 :: .int b8 :: .int b9 :: .int b10 :: .int b11 :: .int b12 :: .int b13 :: .int b14 :: .ref (g 4) :: .ref (g 5) :: .int b17 :: .int b18 :: .int b19 :: .ref (g 6) :: .ref (g 7) :: .ref (g 8) :: .int b23 :: .int b24 :: .int b25 :: .int b26 :: .int b27 :: .ref (g 9) :: .int b29 :: .ref (g 10) :: .int b31 :: .int b32 :: .int b33 :: .ref (g 11) :: .ref (g 12) :: .ref (g 13) :: []))), ((g 2), .inl (cT 0, 900, .inl (a2)))] _ := hP
                have hD : va_D A [(h0, .inr (9, (.int b0 :: .ref (g 0) :: .ref (g 1) :: .ref (g 2) :: .ref (g 3) :: .int b5 :: .int b6 :: .int b7 :: .int b8 :: .int b9 :: .int b10 :: .int b11 :: .int b12 :: .int b13 :: .int b14 :: .ref (g 4) :: .ref (g 5) :: .int b17 :: .int b18 :: .int b19 :: .ref (g 6) :: .ref (g 7) :: .ref (g 8) :: .int b23 :: .int b24 :: .int b25 :: .int b26 :: .int b27 :: .ref (g 9) :: .int b29 :: .ref (g 10) :: .int b31 :: .int b32 :: .int b33 :: .ref (g 11) :: .ref (g 12) :: .ref (g 13) :: []))), ((g 2), .inl (cT 0, 900, .inl (a2)))] := hD
                have qr_21_0 : narrow .char (.int r_21) = .int r_21 := hwr_21.1
                have qr_21_1 : k9_97.toInt = 70 → r_21.toInt = 32 := hwr_21.2.1
                refine lv_bipush (v := 32) hx hb dX9_keyAt_103 (by decide) ?_
                refine lv_icmp_eq (tgt := 114) hx hb dX9_keyAt_105 (by decide) (fun c_22 => ?_) (fun c_22 => ?_)
                · have ic_22 : r_21.toInt = 32 := ieq c_22 (rfl) (by decide)
                  obtain ⟨z_23, ez_23⟩ : ∃ w : Int32, w = k9_97 + 1 := ⟨_, rfl⟩
                  have iz_23 : z_23.toInt = k9_97.toInt + 1 := toInt_addI ez_23 (rfl) (by decide) (by omega)
                  refine lv_iinc (v := z_23) (lv' := [(2, .int z_23), (3, .int (nI k9_15)), (1, .int x9_4_1), (0, .ref h0)]) hx hb dX9_keyAt_114 hl (k := 1) rfl (by rw [ez_23]; rfl) (by decide) rfl (fun ls hl => ?_)
                  obtain ⟨z_24, ez_24⟩ : ∃ w : Int32, w = x9_4_1 + 1 := ⟨_, rfl⟩
                  refine lv_iinc (v := z_24) (lv' := [(1, .int z_24), (2, .int z_23), (3, .int (nI k9_15)), (0, .ref h0)]) hx hb dX9_keyAt_117 hl (k := 2) rfl (by rw [ez_24]; rfl) (by decide) rfl (fun ls hl => ?_)
                  refine lv_goto (tgt := 4) hx hb dX9_keyAt_120 (by decide) ?_
                  exact ih_4 (z_23) _ _ _ _ (by omega) (by omega)  (hP.sub [0, 1] rfl) (hD.sub [0, 1] (by decide) rfl) hS (lv_sub hl [1, 0, 3] rfl)
                · have ic_22 : ¬ r_21.toInt = 32 := ine c_22 (rfl) (by decide)
                  obtain ⟨z_25, ez_25⟩ : ∃ w : Int32, w = k9_97 + 1 := ⟨_, rfl⟩
                  have iz_25 : z_25.toInt = k9_97.toInt + 1 := toInt_addI ez_25 (rfl) (by decide) (by omega)
                  refine lv_iinc (v := z_25) (lv' := [(2, .int z_25), (3, .int (nI k9_15)), (1, .int x9_4_1), (0, .ref h0)]) hx hb dX9_keyAt_108 hl (k := 1) rfl (by rw [ez_25]; rfl) (by decide) rfl (fun ls hl => ?_)
                  refine lv_goto (tgt := 97) hx hb dX9_keyAt_111 (by decide) ?_
                  exact ih_97 (z_25)  _ _ _ (by omega) (by omega)  (hP.sub [0, 1] rfl) (hD.sub [0, 1] (by decide) rfl) hS (lv_sub hl [1, 0, 2, 3] rfl)
            · have ic_19 : z_18.toInt = b7.toInt := ieq c_19 (rfl) (rfl)
              refine lv_iload_n hx hb dX9_keyAt_95 rfl (lv_at hl 2 rfl) ?_
              exact x_iret hx hb hr hlk hP hD hS [0, 1] (()) rfl (by decide) trivial (by decide) (by decide) dX9_keyAt_96
        · have ic_7 : ¬ r_6.toInt = 32 := ine c_7 (rfl) (by decide)
          refine lv_aload_n hx hb dX9_keyAt_28 rfl (lv_at hl 3 rfl) ?_
          refine va_get (D := D) (ci := 9) (v := .int b6) (C := RX9) (T := TX9) (N := 37) hx hb htg gRX9 hown hK hP 0 rfl rfl 6 (by decide) (htg _ wi_1156) (fun _ h9 => h9) rfl dX9_keyAt_29 ?_
          refine lv_iload_n hx hb dX9_keyAt_32 rfl (lv_at hl 0 rfl) ?_
          refine lv_iadd hx hb dX9_keyAt_33 ?_
          refine lv_topi (fun z_26 ez_26 => ?_)
          have iz_26 : z_26.toInt = b6.toInt + ((k9_15 : Nat) : Int) := toInt_addI ez_26 (rfl) (nI_toInt (by omega)) (by omega)
          refine lv_aload_n hx hb dX9_keyAt_34 rfl (lv_at hl 3 rfl) ?_
          refine va_get (D := D) (ci := 9) (v := .int b7) (C := RX9) (T := TX9) (N := 37) hx hb htg gRX9 hown hK hP 0 rfl rfl 7 (by decide) (htg _ wi_1157) (fun _ h9 => h9) rfl dX9_keyAt_35 ?_
          refine lv_icmp_ge (tgt := 69) hx hb dX9_keyAt_38 (by decide) (fun c_27 => ?_) (fun c_27 => ?_)
          · have ic_27 : b7.toInt ≤ z_26.toInt := ile c_27 (rfl) (rfl)
            refine va_ldcS (q := cT (10 + 13)) hx hb hown (hN.2.2.2.1 13 (by decide)) dX9_keyAt_69 ?_
            refine lv_iload_n hx hb dX9_keyAt_71 rfl (lv_at hl 1 rfl) ?_
            refine lv_iload_n hx hb dX9_keyAt_72 rfl (lv_at hl 0 rfl) ?_
            refine lv_iadd hx hb dX9_keyAt_73 ?_
            refine lv_topi (fun z_28 ez_28 => ?_)
            have iz_28 : z_28.toInt = k9_4.toInt + ((k9_15 : Nat) : Int) := toInt_addI ez_28 (rfl) (nI_toInt (by omega)) (by omega)
            refine xk_i (wr := [(h0, .inr (9, (.int b0 :: .ref (g 0) :: .ref (g 1) :: .ref (g 2) :: .ref (g 3) :: .int b5 :: .int b6 :: .int b7 :: .int b8 :: .int b9 :: .int b10 :: .int b11 :: .int b12 :: .int b13 :: .int b14 :: .ref (g 4) :: .ref (g 5) :: .int b17 :: .int b18 :: .int b19 :: .ref (g 6) :: .ref (g 7) :: .ref (g 8) :: .int b23 :: .int b24 :: .int b25 :: .int b26 :: .int b27 :: .ref (g 9) :: .int b29 :: .ref (g 10) :: .int b31 :: .int b32 :: .int b33 :: .ref (g 11) :: .ref (g 12) :: .ref (g 13) :: []))), ((g 2), .inl (cT 0, 900, .inl (a2)))]) (xr_VS (n := 1) (As := [.int z_28]) (rest := []) ⟨hx, hb, hml, hown, htg⟩ hK hN hP hD hS hA [] rfl (by decide) (g_s_charAtK l D cT _ (13) (by first | assumption | omega | decide | exact Or.inl (by decide) | (intro h9; exact absurd h9 (by decide)) | (intro _; omega) | (intro _; assumption) | (intro _; decide)) (z_28) (by first | assumption | omega | decide | exact Or.inl (by decide) | (intro h9; exact absurd h9 (by decide)) | (intro _; omega) | (intro _; assumption) | (intro _; decide)) (by first | assumption | omega | decide | exact Or.inl (by decide) | (intro h9; exact absurd h9 (by decide)) | (intro _; omega) | (intro _; assumption) | (intro _; decide)) (by first | assumption | omega | decide | exact Or.inl (by decide) | (intro h9; exact absurd h9 (by decide)) | (intro _; omega) | (intro _; assumption) | (intro _; decide))) wi_1290 wi_569 wi_570 wi_134 wi_571 (vk_recv (i := 13) (adK := fun i => cT (10 + i)) (adV := fun i => cT (40 + i)) hN.2.2.2.2.1 (by decide) hS) ⟨rfl, by decide +kernel⟩ ⟨Nat.le_of_ble_eq_true rfl, Nat.le_of_ble_eq_true rfl⟩ rfl hl.1 rfl (Nat.le_of_ble_eq_true rfl) dX9_keyAt_74 ⟨Nat.le_of_ble_eq_true rfl, Nat.le_of_ble_eq_true rfl⟩) hP hD hS hA [] [0, 1] rfl rfl (by decide) (by decide) (fun r_30 u_29 H locs hwr_30 hP hD hS => ?_)
            have hP : va_P D classes [(h0, .inr (9, (.int b0 :: .ref (g 0) :: .ref (g 1) :: .ref (g 2) :: .ref (g 3) :: .int b5 :: .int b6 :: .int b7 :: .int b8 :: .int b9 :: .int b10 :: .int b11 :: .int b12 :: .int b13 :: .int b14 :: .ref (g 4) :: .ref (g 5) :: .int b17 :: .int b18 :: .int b19 :: .ref (g 6) :: .ref (g 7) :: .ref (g 8) :: .int b23 :: .int b24 :: .int b25 :: .int b26 :: .int b27 :: .ref (g 9) :: .int b29 :: .ref (g 10) :: .int b31 :: .int b32 :: .int b33 :: .ref (g 11) :: .ref (g 12) :: .ref (g 13) :: []))), ((g 2), .inl (cT 0, 900, .inl (a2)))] _ := hP
            have hD : va_D A [(h0, .inr (9, (.int b0 :: .ref (g 0) :: .ref (g 1) :: .ref (g 2) :: .ref (g 3) :: .int b5 :: .int b6 :: .int b7 :: .int b8 :: .int b9 :: .int b10 :: .int b11 :: .int b12 :: .int b13 :: .int b14 :: .ref (g 4) :: .ref (g 5) :: .int b17 :: .int b18 :: .int b19 :: .ref (g 6) :: .ref (g 7) :: .ref (g 8) :: .int b23 :: .int b24 :: .int b25 :: .int b26 :: .int b27 :: .ref (g 9) :: .int b29 :: .ref (g 10) :: .int b31 :: .int b32 :: .int b33 :: .ref (g 11) :: .ref (g 12) :: .ref (g 13) :: []))), ((g 2), .inl (cT 0, 900, .inl (a2)))] := hD
            have qr_30_0 : narrow .char (.int r_30) = .int r_30 := hwr_30.1
            have qr_30_1 : z_28.toInt = 70 → r_30.toInt = 32 := hwr_30.2.1
            refine lv_bipush (v := 32) hx hb dX9_keyAt_77 (by decide) ?_
            refine lv_icmp_ne (tgt := 97) hx hb dX9_keyAt_79 (by decide) (fun c_31 => ?_) (fun c_31 => ?_)
            · have ic_31 : ¬ r_30.toInt = 32 := ine c_31 (rfl) (by decide)
              refine (fun (key : ∀ (n9_97 : Nat) (k9_97 : Int32)  (H : Heap) (locs : List Loc) (ls : Array Slot), (k9_4.toInt ≤ k9_97.toInt ∧ k9_97.toInt ≤ 70) → 70 < k9_97.toInt + n9_97 → va_P D classes [(h0, .inr (9, (.int b0 :: .ref (g 0) :: .ref (g 1) :: .ref (g 2) :: .ref (g 3) :: .int b5 :: .int b6 :: .int b7 :: .int b8 :: .int b9 :: .int b10 :: .int b11 :: .int b12 :: .int b13 :: .int b14 :: .ref (g 4) :: .ref (g 5) :: .int b17 :: .int b18 :: .int b19 :: .ref (g 6) :: .ref (g 7) :: .ref (g 8) :: .int b23 :: .int b24 :: .int b25 :: .int b26 :: .int b27 :: .ref (g 9) :: .int b29 :: .ref (g 10) :: .int b31 :: .int b32 :: .int b33 :: .ref (g 11) :: .ref (g 12) :: .ref (g 13) :: []))), ((g 2), .inl (cT 0, 900, .inl (a2)))] H → va_D A [(h0, .inr (9, (.int b0 :: .ref (g 0) :: .ref (g 1) :: .ref (g 2) :: .ref (g 3) :: .int b5 :: .int b6 :: .int b7 :: .int b8 :: .int b9 :: .int b10 :: .int b11 :: .int b12 :: .int b13 :: .int b14 :: .ref (g 4) :: .ref (g 5) :: .int b17 :: .int b18 :: .int b19 :: .ref (g 6) :: .ref (g 7) :: .ref (g 8) :: .int b23 :: .int b24 :: .int b25 :: .int b26 :: .int b27 :: .ref (g 9) :: .int b29 :: .ref (g 10) :: .int b31 :: .int b32 :: .int b33 :: .ref (g 11) :: .ref (g 12) :: .ref (g 13) :: []))), ((g 2), .inl (cT 0, 900, .inl (a2)))] → va_S A s.heap H locs → lv_has ls 4 [(3, .int (nI k9_15)), (2, .int k9_97), (1, .int x9_4_1), (0, .ref h0)] → W p l e _ s m _ below meth c H locs _ _ _ (F0 m 97 ls [])) => key (Int.toNat (70 - k9_4.toInt) + 1) (k9_4)  _ _ _ (by omega) (by omega)  hP hD hS (lv_sub hl [0, 1, 2, 3] rfl)) ?_
              intro n9_97
              induction n9_97 with
              | zero => intro k9_97  H locs ls hq1 hq2; exact absurd hq2 (by omega)
              | succ n9_97 ih_97 =>
                intro k9_97  H locs ls hq1_97 hq2_97  hP hD hS hl
                refine va_ldcS (q := cT (10 + 13)) hx hb hown (hN.2.2.2.1 13 (by decide)) dX9_keyAt_97 ?_
                refine lv_iload_n hx hb dX9_keyAt_99 rfl (lv_at hl 1 rfl) ?_
                refine xk_i (wr := [(h0, .inr (9, (.int b0 :: .ref (g 0) :: .ref (g 1) :: .ref (g 2) :: .ref (g 3) :: .int b5 :: .int b6 :: .int b7 :: .int b8 :: .int b9 :: .int b10 :: .int b11 :: .int b12 :: .int b13 :: .int b14 :: .ref (g 4) :: .ref (g 5) :: .int b17 :: .int b18 :: .int b19 :: .ref (g 6) :: .ref (g 7) :: .ref (g 8) :: .int b23 :: .int b24 :: .int b25 :: .int b26 :: .int b27 :: .ref (g 9) :: .int b29 :: .ref (g 10) :: .int b31 :: .int b32 :: .int b33 :: .ref (g 11) :: .ref (g 12) :: .ref (g 13) :: []))), ((g 2), .inl (cT 0, 900, .inl (a2)))]) (xr_VS (n := 1) (As := [.int k9_97]) (rest := []) ⟨hx, hb, hml, hown, htg⟩ hK hN hP hD hS hA [] rfl (by decide) (g_s_charAtK l D cT _ (13) (by first | assumption | omega | decide | exact Or.inl (by decide) | (intro h9; exact absurd h9 (by decide)) | (intro _; omega) | (intro _; assumption) | (intro _; decide)) (k9_97) (by first | assumption | omega | decide | exact Or.inl (by decide) | (intro h9; exact absurd h9 (by decide)) | (intro _; omega) | (intro _; assumption) | (intro _; decide)) (by first | assumption | omega | decide | exact Or.inl (by decide) | (intro h9; exact absurd h9 (by decide)) | (intro _; omega) | (intro _; assumption) | (intro _; decide)) (by first | assumption | omega | decide | exact Or.inl (by decide) | (intro h9; exact absurd h9 (by decide)) | (intro _; omega) | (intro _; assumption) | (intro _; decide))) wi_1290 wi_569 wi_570 wi_134 wi_571 (vk_recv (i := 13) (adK := fun i => cT (10 + i)) (adV := fun i => cT (40 + i)) hN.2.2.2.2.1 (by decide) hS) ⟨rfl, by decide +kernel⟩ ⟨Nat.le_of_ble_eq_true rfl, Nat.le_of_ble_eq_true rfl⟩ rfl hl.1 rfl (Nat.le_of_ble_eq_true rfl) dX9_keyAt_100 ⟨Nat.le_of_ble_eq_true rfl, Nat.le_of_ble_eq_true rfl⟩) hP hD hS hA [] [0, 1] rfl rfl (by decide) (by decide) (fun r_33 u_32 H locs hwr_33 hP hD hS => ?_)
                have hP : va_P D classes [(h0, .inr (9, (.int b0 :: .ref (g 0) :: .ref (g 1) :: .ref (g 2) :: .ref (g 3) :: .int b5 :: .int b6 :: .int b7 :: .int b8 :: .int b9 :: .int b10 :: .int b11 :: .int b12 :: .int b13 :: .int b14 :: .ref (g 4) :: .ref (g 5) :: .int b17 :: .int b18 :: .int b19 :: .ref (g 6) :: .ref (g 7) :: .ref (g 8) :: .int b23 :: .int b24 :: .int b25 :: .int b26 :: .int b27 :: .ref (g 9) :: .int b29 :: .ref (g 10) :: .int b31 :: .int b32 :: .int b33 :: .ref (g 11) :: .ref (g 12) :: .ref (g 13) :: []))), ((g 2), .inl (cT 0, 900, .inl (a2)))] _ := hP
                have hD : va_D A [(h0, .inr (9, (.int b0 :: .ref (g 0) :: .ref (g 1) :: .ref (g 2) :: .ref (g 3) :: .int b5 :: .int b6 :: .int b7 :: .int b8 :: .int b9 :: .int b10 :: .int b11 :: .int b12 :: .int b13 :: .int b14 :: .ref (g 4) :: .ref (g 5) :: .int b17 :: .int b18 :: .int b19 :: .ref (g 6) :: .ref (g 7) :: .ref (g 8) :: .int b23 :: .int b24 :: .int b25 :: .int b26 :: .int b27 :: .ref (g 9) :: .int b29 :: .ref (g 10) :: .int b31 :: .int b32 :: .int b33 :: .ref (g 11) :: .ref (g 12) :: .ref (g 13) :: []))), ((g 2), .inl (cT 0, 900, .inl (a2)))] := hD
                have qr_33_0 : narrow .char (.int r_33) = .int r_33 := hwr_33.1
                have qr_33_1 : k9_97.toInt = 70 → r_33.toInt = 32 := hwr_33.2.1
                refine lv_bipush (v := 32) hx hb dX9_keyAt_103 (by decide) ?_
                refine lv_icmp_eq (tgt := 114) hx hb dX9_keyAt_105 (by decide) (fun c_34 => ?_) (fun c_34 => ?_)
                · have ic_34 : r_33.toInt = 32 := ieq c_34 (rfl) (by decide)
                  obtain ⟨z_35, ez_35⟩ : ∃ w : Int32, w = k9_97 + 1 := ⟨_, rfl⟩
                  have iz_35 : z_35.toInt = k9_97.toInt + 1 := toInt_addI ez_35 (rfl) (by decide) (by omega)
                  refine lv_iinc (v := z_35) (lv' := [(2, .int z_35), (3, .int (nI k9_15)), (1, .int x9_4_1), (0, .ref h0)]) hx hb dX9_keyAt_114 hl (k := 1) rfl (by rw [ez_35]; rfl) (by decide) rfl (fun ls hl => ?_)
                  obtain ⟨z_36, ez_36⟩ : ∃ w : Int32, w = x9_4_1 + 1 := ⟨_, rfl⟩
                  refine lv_iinc (v := z_36) (lv' := [(1, .int z_36), (2, .int z_35), (3, .int (nI k9_15)), (0, .ref h0)]) hx hb dX9_keyAt_117 hl (k := 2) rfl (by rw [ez_36]; rfl) (by decide) rfl (fun ls hl => ?_)
                  refine lv_goto (tgt := 4) hx hb dX9_keyAt_120 (by decide) ?_
                  exact ih_4 (z_35) _ _ _ _ (by omega) (by omega)  (hP.sub [0, 1] rfl) (hD.sub [0, 1] (by decide) rfl) hS (lv_sub hl [1, 0, 3] rfl)
                · have ic_34 : ¬ r_33.toInt = 32 := ine c_34 (rfl) (by decide)
                  obtain ⟨z_37, ez_37⟩ : ∃ w : Int32, w = k9_97 + 1 := ⟨_, rfl⟩
                  have iz_37 : z_37.toInt = k9_97.toInt + 1 := toInt_addI ez_37 (rfl) (by decide) (by omega)
                  refine lv_iinc (v := z_37) (lv' := [(2, .int z_37), (3, .int (nI k9_15)), (1, .int x9_4_1), (0, .ref h0)]) hx hb dX9_keyAt_108 hl (k := 1) rfl (by rw [ez_37]; rfl) (by decide) rfl (fun ls hl => ?_)
                  refine lv_goto (tgt := 97) hx hb dX9_keyAt_111 (by decide) ?_
                  exact ih_97 (z_37)  _ _ _ (by omega) (by omega)  (hP.sub [0, 1] rfl) (hD.sub [0, 1] (by decide) rfl) hS (lv_sub hl [1, 0, 2, 3] rfl)
            · have ic_31 : r_30.toInt = 32 := ieq c_31 (rfl) (by decide)
              refine lv_aload_n hx hb dX9_keyAt_82 rfl (lv_at hl 3 rfl) ?_
              refine va_get (D := D) (ci := 9) (v := .int b6) (C := RX9) (T := TX9) (N := 37) hx hb htg gRX9 hown hK hP 0 rfl rfl 6 (by decide) (htg _ wi_1156) (fun _ h9 => h9) rfl dX9_keyAt_83 ?_
              refine lv_iload_n hx hb dX9_keyAt_86 rfl (lv_at hl 0 rfl) ?_
              refine lv_iadd hx hb dX9_keyAt_87 ?_
              refine lv_topi (fun z_38 ez_38 => ?_)
              have iz_38 : z_38.toInt = b6.toInt + ((k9_15 : Nat) : Int) := toInt_addI ez_38 (rfl) (nI_toInt (by omega)) (by omega)
              refine lv_aload_n hx hb dX9_keyAt_88 rfl (lv_at hl 3 rfl) ?_
              refine va_get (D := D) (ci := 9) (v := .int b7) (C := RX9) (T := TX9) (N := 37) hx hb htg gRX9 hown hK hP 0 rfl rfl 7 (by decide) (htg _ wi_1157) (fun _ h9 => h9) rfl dX9_keyAt_89 ?_
              refine lv_icmp_ne (tgt := 97) hx hb dX9_keyAt_92 (by decide) (fun c_39 => ?_) (fun c_39 => ?_)
              · have ic_39 : ¬ z_38.toInt = b7.toInt := ine c_39 (rfl) (rfl)
                refine (fun (key : ∀ (n9_97 : Nat) (k9_97 : Int32)  (H : Heap) (locs : List Loc) (ls : Array Slot), (k9_4.toInt ≤ k9_97.toInt ∧ k9_97.toInt ≤ 70) → 70 < k9_97.toInt + n9_97 → va_P D classes [(h0, .inr (9, (.int b0 :: .ref (g 0) :: .ref (g 1) :: .ref (g 2) :: .ref (g 3) :: .int b5 :: .int b6 :: .int b7 :: .int b8 :: .int b9 :: .int b10 :: .int b11 :: .int b12 :: .int b13 :: .int b14 :: .ref (g 4) :: .ref (g 5) :: .int b17 :: .int b18 :: .int b19 :: .ref (g 6) :: .ref (g 7) :: .ref (g 8) :: .int b23 :: .int b24 :: .int b25 :: .int b26 :: .int b27 :: .ref (g 9) :: .int b29 :: .ref (g 10) :: .int b31 :: .int b32 :: .int b33 :: .ref (g 11) :: .ref (g 12) :: .ref (g 13) :: []))), ((g 2), .inl (cT 0, 900, .inl (a2)))] H → va_D A [(h0, .inr (9, (.int b0 :: .ref (g 0) :: .ref (g 1) :: .ref (g 2) :: .ref (g 3) :: .int b5 :: .int b6 :: .int b7 :: .int b8 :: .int b9 :: .int b10 :: .int b11 :: .int b12 :: .int b13 :: .int b14 :: .ref (g 4) :: .ref (g 5) :: .int b17 :: .int b18 :: .int b19 :: .ref (g 6) :: .ref (g 7) :: .ref (g 8) :: .int b23 :: .int b24 :: .int b25 :: .int b26 :: .int b27 :: .ref (g 9) :: .int b29 :: .ref (g 10) :: .int b31 :: .int b32 :: .int b33 :: .ref (g 11) :: .ref (g 12) :: .ref (g 13) :: []))), ((g 2), .inl (cT 0, 900, .inl (a2)))] → va_S A s.heap H locs → lv_has ls 4 [(3, .int (nI k9_15)), (2, .int k9_97), (1, .int x9_4_1), (0, .ref h0)] → W p l e _ s m _ below meth c H locs _ _ _ (F0 m 97 ls [])) => key (Int.toNat (70 - k9_4.toInt) + 1) (k9_4)  _ _ _ (by omega) (by omega)  hP hD hS (lv_sub hl [0, 1, 2, 3] rfl)) ?_
                intro n9_97
                induction n9_97 with
                | zero => intro k9_97  H locs ls hq1 hq2; exact absurd hq2 (by omega)
                | succ n9_97 ih_97 =>
                  intro k9_97  H locs ls hq1_97 hq2_97  hP hD hS hl
                  refine va_ldcS (q := cT (10 + 13)) hx hb hown (hN.2.2.2.1 13 (by decide)) dX9_keyAt_97 ?_
                  refine lv_iload_n hx hb dX9_keyAt_99 rfl (lv_at hl 1 rfl) ?_
                  refine xk_i (wr := [(h0, .inr (9, (.int b0 :: .ref (g 0) :: .ref (g 1) :: .ref (g 2) :: .ref (g 3) :: .int b5 :: .int b6 :: .int b7 :: .int b8 :: .int b9 :: .int b10 :: .int b11 :: .int b12 :: .int b13 :: .int b14 :: .ref (g 4) :: .ref (g 5) :: .int b17 :: .int b18 :: .int b19 :: .ref (g 6) :: .ref (g 7) :: .ref (g 8) :: .int b23 :: .int b24 :: .int b25 :: .int b26 :: .int b27 :: .ref (g 9) :: .int b29 :: .ref (g 10) :: .int b31 :: .int b32 :: .int b33 :: .ref (g 11) :: .ref (g 12) :: .ref (g 13) :: []))), ((g 2), .inl (cT 0, 900, .inl (a2)))]) (xr_VS (n := 1) (As := [.int k9_97]) (rest := []) ⟨hx, hb, hml, hown, htg⟩ hK hN hP hD hS hA [] rfl (by decide) (g_s_charAtK l D cT _ (13) (by first | assumption | omega | decide | exact Or.inl (by decide) | (intro h9; exact absurd h9 (by decide)) | (intro _; omega) | (intro _; assumption) | (intro _; decide)) (k9_97) (by first | assumption | omega | decide | exact Or.inl (by decide) | (intro h9; exact absurd h9 (by decide)) | (intro _; omega) | (intro _; assumption) | (intro _; decide)) (by first | assumption | omega | decide | exact Or.inl (by decide) | (intro h9; exact absurd h9 (by decide)) | (intro _; omega) | (intro _; assumption) | (intro _; decide)) (by first | assumption | omega | decide | exact Or.inl (by decide) | (intro h9; exact absurd h9 (by decide)) | (intro _; omega) | (intro _; assumption) | (intro _; decide))) wi_1290 wi_569 wi_570 wi_134 wi_571 (vk_recv (i := 13) (adK := fun i => cT (10 + i)) (adV := fun i => cT (40 + i)) hN.2.2.2.2.1 (by decide) hS) ⟨rfl, by decide +kernel⟩ ⟨Nat.le_of_ble_eq_true rfl, Nat.le_of_ble_eq_true rfl⟩ rfl hl.1 rfl (Nat.le_of_ble_eq_true rfl) dX9_keyAt_100 ⟨Nat.le_of_ble_eq_true rfl, Nat.le_of_ble_eq_true rfl⟩) hP hD hS hA [] [0, 1] rfl rfl (by decide) (by decide) (fun r_41 u_40 H locs hwr_41 hP hD hS => ?_)
                  have hP : va_P D classes [(h0, .inr (9, (.int b0 :: .ref (g 0) :: .ref (g 1) :: .ref (g 2) :: .ref (g 3) :: .int b5 :: .int b6 :: .int b7 :: .int b8 :: .int b9 :: .int b10 :: .int b11 :: .int b12 :: .int b13 :: .int b14 :: .ref (g 4) :: .ref (g 5) :: .int b17 :: .int b18 :: .int b19 :: .ref (g 6) :: .ref (g 7) :: .ref (g 8) :: .int b23 :: .int b24 :: .int b25 :: .int b26 :: .int b27 :: .ref (g 9) :: .int b29 :: .ref (g 10) :: .int b31 :: .int b32 :: .int b33 :: .ref (g 11) :: .ref (g 12) :: .ref (g 13) :: []))), ((g 2), .inl (cT 0, 900, .inl (a2)))] _ := hP
                  have hD : va_D A [(h0, .inr (9, (.int b0 :: .ref (g 0) :: .ref (g 1) :: .ref (g 2) :: .ref (g 3) :: .int b5 :: .int b6 :: .int b7 :: .int b8 :: .int b9 :: .int b10 :: .int b11 :: .int b12 :: .int b13 :: .int b14 :: .ref (g 4) :: .ref (g 5) :: .int b17 :: .int b18 :: .int b19 :: .ref (g 6) :: .ref (g 7) :: .ref (g 8) :: .int b23 :: .int b24 :: .int b25 :: .int b26 :: .int b27 :: .ref (g 9) :: .int b29 :: .ref (g 10) :: .int b31 :: .int b32 :: .int b33 :: .ref (g 11) :: .ref (g 12) :: .ref (g 13) :: []))), ((g 2), .inl (cT 0, 900, .inl (a2)))] := hD
                  have qr_41_0 : narrow .char (.int r_41) = .int r_41 := hwr_41.1
                  have qr_41_1 : k9_97.toInt = 70 → r_41.toInt = 32 := hwr_41.2.1
                  refine lv_bipush (v := 32) hx hb dX9_keyAt_103 (by decide) ?_
                  refine lv_icmp_eq (tgt := 114) hx hb dX9_keyAt_105 (by decide) (fun c_42 => ?_) (fun c_42 => ?_)
                  · have ic_42 : r_41.toInt = 32 := ieq c_42 (rfl) (by decide)
                    obtain ⟨z_43, ez_43⟩ : ∃ w : Int32, w = k9_97 + 1 := ⟨_, rfl⟩
                    have iz_43 : z_43.toInt = k9_97.toInt + 1 := toInt_addI ez_43 (rfl) (by decide) (by omega)
                    refine lv_iinc (v := z_43) (lv' := [(2, .int z_43), (3, .int (nI k9_15)), (1, .int x9_4_1), (0, .ref h0)]) hx hb dX9_keyAt_114 hl (k := 1) rfl (by rw [ez_43]; rfl) (by decide) rfl (fun ls hl => ?_)
                    obtain ⟨z_44, ez_44⟩ : ∃ w : Int32, w = x9_4_1 + 1 := ⟨_, rfl⟩
                    refine lv_iinc (v := z_44) (lv' := [(1, .int z_44), (2, .int z_43), (3, .int (nI k9_15)), (0, .ref h0)]) hx hb dX9_keyAt_117 hl (k := 2) rfl (by rw [ez_44]; rfl) (by decide) rfl (fun ls hl => ?_)
                    refine lv_goto (tgt := 4) hx hb dX9_keyAt_120 (by decide) ?_
                    exact ih_4 (z_43) _ _ _ _ (by omega) (by omega)  (hP.sub [0, 1] rfl) (hD.sub [0, 1] (by decide) rfl) hS (lv_sub hl [1, 0, 3] rfl)
                  · have ic_42 : ¬ r_41.toInt = 32 := ine c_42 (rfl) (by decide)
                    obtain ⟨z_45, ez_45⟩ : ∃ w : Int32, w = k9_97 + 1 := ⟨_, rfl⟩
                    have iz_45 : z_45.toInt = k9_97.toInt + 1 := toInt_addI ez_45 (rfl) (by decide) (by omega)
                    refine lv_iinc (v := z_45) (lv' := [(2, .int z_45), (3, .int (nI k9_15)), (1, .int x9_4_1), (0, .ref h0)]) hx hb dX9_keyAt_108 hl (k := 1) rfl (by rw [ez_45]; rfl) (by decide) rfl (fun ls hl => ?_)
                    refine lv_goto (tgt := 97) hx hb dX9_keyAt_111 (by decide) ?_
                    exact ih_97 (z_45)  _ _ _ (by omega) (by omega)  (hP.sub [0, 1] rfl) (hD.sub [0, 1] (by decide) rfl) hS (lv_sub hl [1, 0, 2, 3] rfl)
              · have ic_39 : z_38.toInt = b7.toInt := ieq c_39 (rfl) (rfl)
                refine lv_iload_n hx hb dX9_keyAt_95 rfl (lv_at hl 2 rfl) ?_
                exact x_iret hx hb hr hlk hP hD hS [0, 1] (()) rfl (by decide) trivial (by decide) (by decide) dX9_keyAt_96
          · have ic_27 : z_26.toInt < b7.toInt := inle c_27 (rfl) (rfl)
            refine lv_aload_n hx hb dX9_keyAt_41 rfl (lv_at hl 3 rfl) ?_
            refine va_get (D := D) (ci := 9) (v := .ref (g 2)) (C := RX9) (T := TX9) (N := 37) hx hb htg gRX9 hown hK hP 0 rfl rfl 3 (by decide) (htg _ wi_1153) (fun _ h9 => h9) rfl dX9_keyAt_42 ?_
            refine lv_aload_n hx hb dX9_keyAt_45 rfl (lv_at hl 3 rfl) ?_
            refine va_get (D := D) (ci := 9) (v := .int b6) (C := RX9) (T := TX9) (N := 37) hx hb htg gRX9 hown hK hP 0 rfl rfl 6 (by decide) (htg _ wi_1156) (fun _ h9 => h9) rfl dX9_keyAt_46 ?_
            refine lv_iload_n hx hb dX9_keyAt_49 rfl (lv_at hl 0 rfl) ?_
            refine lv_iadd hx hb dX9_keyAt_50 ?_
            refine lv_topi (fun z_46 ez_46 => ?_)
            have iz_46 : z_46.toInt = b6.toInt + ((k9_15 : Nat) : Int) := toInt_addI ez_46 (rfl) (nI_toInt (by omega)) (by omega)
            refine va_iald hx hb hK hP 1 0 rfl rfl (vp_in_iff.mpr (by omega)) dX9_keyAt_51 ?_
            refine lv_topi (fun z_47 ez_47 => ?_)
            refine va_ldcS (q := cT (10 + 13)) hx hb hown (hN.2.2.2.1 13 (by decide)) dX9_keyAt_52 ?_
            refine lv_iload_n hx hb dX9_keyAt_54 rfl (lv_at hl 1 rfl) ?_
            refine lv_iload_n hx hb dX9_keyAt_55 rfl (lv_at hl 0 rfl) ?_
            refine lv_iadd hx hb dX9_keyAt_56 ?_
            refine lv_topi (fun z_48 ez_48 => ?_)
            have iz_48 : z_48.toInt = k9_4.toInt + ((k9_15 : Nat) : Int) := toInt_addI ez_48 (rfl) (nI_toInt (by omega)) (by omega)
            refine xk_i (wr := [(h0, .inr (9, (.int b0 :: .ref (g 0) :: .ref (g 1) :: .ref (g 2) :: .ref (g 3) :: .int b5 :: .int b6 :: .int b7 :: .int b8 :: .int b9 :: .int b10 :: .int b11 :: .int b12 :: .int b13 :: .int b14 :: .ref (g 4) :: .ref (g 5) :: .int b17 :: .int b18 :: .int b19 :: .ref (g 6) :: .ref (g 7) :: .ref (g 8) :: .int b23 :: .int b24 :: .int b25 :: .int b26 :: .int b27 :: .ref (g 9) :: .int b29 :: .ref (g 10) :: .int b31 :: .int b32 :: .int b33 :: .ref (g 11) :: .ref (g 12) :: .ref (g 13) :: []))), ((g 2), .inl (cT 0, 900, .inl (a2)))]) (xr_VS (n := 1) (As := [.int z_48]) (rest := [.int z_47]) ⟨hx, hb, hml, hown, htg⟩ hK hN hP hD hS hA [] rfl (by decide) (g_s_charAtK l D cT _ (13) (by first | assumption | omega | decide | exact Or.inl (by decide) | (intro h9; exact absurd h9 (by decide)) | (intro _; omega) | (intro _; assumption) | (intro _; decide)) (z_48) (by first | assumption | omega | decide | exact Or.inl (by decide) | (intro h9; exact absurd h9 (by decide)) | (intro _; omega) | (intro _; assumption) | (intro _; decide)) (by first | assumption | omega | decide | exact Or.inl (by decide) | (intro h9; exact absurd h9 (by decide)) | (intro _; omega) | (intro _; assumption) | (intro _; decide)) (by first | assumption | omega | decide | exact Or.inl (by decide) | (intro h9; exact absurd h9 (by decide)) | (intro _; omega) | (intro _; assumption) | (intro _; decide))) wi_1290 wi_569 wi_570 wi_134 wi_571 (vk_recv (i := 13) (adK := fun i => cT (10 + i)) (adV := fun i => cT (40 + i)) hN.2.2.2.2.1 (by decide) hS) ⟨rfl, by decide +kernel⟩ ⟨Nat.le_of_ble_eq_true rfl, Nat.le_of_ble_eq_true rfl⟩ rfl hl.1 rfl (Nat.le_of_ble_eq_true rfl) dX9_keyAt_57 ⟨Nat.le_of_ble_eq_true rfl, Nat.le_of_ble_eq_true rfl⟩) hP hD hS hA [] [0, 1] rfl rfl (by decide) (by decide) (fun r_50 u_49 H locs hwr_50 hP hD hS => ?_)
            have hP : va_P D classes [(h0, .inr (9, (.int b0 :: .ref (g 0) :: .ref (g 1) :: .ref (g 2) :: .ref (g 3) :: .int b5 :: .int b6 :: .int b7 :: .int b8 :: .int b9 :: .int b10 :: .int b11 :: .int b12 :: .int b13 :: .int b14 :: .ref (g 4) :: .ref (g 5) :: .int b17 :: .int b18 :: .int b19 :: .ref (g 6) :: .ref (g 7) :: .ref (g 8) :: .int b23 :: .int b24 :: .int b25 :: .int b26 :: .int b27 :: .ref (g 9) :: .int b29 :: .ref (g 10) :: .int b31 :: .int b32 :: .int b33 :: .ref (g 11) :: .ref (g 12) :: .ref (g 13) :: []))), ((g 2), .inl (cT 0, 900, .inl (a2)))] _ := hP
            have hD : va_D A [(h0, .inr (9, (.int b0 :: .ref (g 0) :: .ref (g 1) :: .ref (g 2) :: .ref (g 3) :: .int b5 :: .int b6 :: .int b7 :: .int b8 :: .int b9 :: .int b10 :: .int b11 :: .int b12 :: .int b13 :: .int b14 :: .ref (g 4) :: .ref (g 5) :: .int b17 :: .int b18 :: .int b19 :: .ref (g 6) :: .ref (g 7) :: .ref (g 8) :: .int b23 :: .int b24 :: .int b25 :: .int b26 :: .int b27 :: .ref (g 9) :: .int b29 :: .ref (g 10) :: .int b31 :: .int b32 :: .int b33 :: .ref (g 11) :: .ref (g 12) :: .ref (g 13) :: []))), ((g 2), .inl (cT 0, 900, .inl (a2)))] := hD
            have qr_50_0 : narrow .char (.int r_50) = .int r_50 := hwr_50.1
            have qr_50_1 : z_48.toInt = 70 → r_50.toInt = 32 := hwr_50.2.1
            refine lv_icmp_ne (tgt := 69) hx hb dX9_keyAt_60 (by decide) (fun c_51 => ?_) (fun c_51 => ?_)
            · have ic_51 : ¬ z_47.toInt = r_50.toInt := ine c_51 (rfl) (rfl)
              refine va_ldcS (q := cT (10 + 13)) hx hb hown (hN.2.2.2.1 13 (by decide)) dX9_keyAt_69 ?_
              refine lv_iload_n hx hb dX9_keyAt_71 rfl (lv_at hl 1 rfl) ?_
              refine lv_iload_n hx hb dX9_keyAt_72 rfl (lv_at hl 0 rfl) ?_
              refine lv_iadd hx hb dX9_keyAt_73 ?_
              refine lv_topi (fun z_52 ez_52 => ?_)
              have iz_52 : z_52.toInt = k9_4.toInt + ((k9_15 : Nat) : Int) := toInt_addI ez_52 (rfl) (nI_toInt (by omega)) (by omega)
              refine xk_i (wr := [(h0, .inr (9, (.int b0 :: .ref (g 0) :: .ref (g 1) :: .ref (g 2) :: .ref (g 3) :: .int b5 :: .int b6 :: .int b7 :: .int b8 :: .int b9 :: .int b10 :: .int b11 :: .int b12 :: .int b13 :: .int b14 :: .ref (g 4) :: .ref (g 5) :: .int b17 :: .int b18 :: .int b19 :: .ref (g 6) :: .ref (g 7) :: .ref (g 8) :: .int b23 :: .int b24 :: .int b25 :: .int b26 :: .int b27 :: .ref (g 9) :: .int b29 :: .ref (g 10) :: .int b31 :: .int b32 :: .int b33 :: .ref (g 11) :: .ref (g 12) :: .ref (g 13) :: []))), ((g 2), .inl (cT 0, 900, .inl (a2)))]) (xr_VS (n := 1) (As := [.int z_52]) (rest := []) ⟨hx, hb, hml, hown, htg⟩ hK hN hP hD hS hA [] rfl (by decide) (g_s_charAtK l D cT _ (13) (by first | assumption | omega | decide | exact Or.inl (by decide) | (intro h9; exact absurd h9 (by decide)) | (intro _; omega) | (intro _; assumption) | (intro _; decide)) (z_52) (by first | assumption | omega | decide | exact Or.inl (by decide) | (intro h9; exact absurd h9 (by decide)) | (intro _; omega) | (intro _; assumption) | (intro _; decide)) (by first | assumption | omega | decide | exact Or.inl (by decide) | (intro h9; exact absurd h9 (by decide)) | (intro _; omega) | (intro _; assumption) | (intro _; decide)) (by first | assumption | omega | decide | exact Or.inl (by decide) | (intro h9; exact absurd h9 (by decide)) | (intro _; omega) | (intro _; assumption) | (intro _; decide))) wi_1290 wi_569 wi_570 wi_134 wi_571 (vk_recv (i := 13) (adK := fun i => cT (10 + i)) (adV := fun i => cT (40 + i)) hN.2.2.2.2.1 (by decide) hS) ⟨rfl, by decide +kernel⟩ ⟨Nat.le_of_ble_eq_true rfl, Nat.le_of_ble_eq_true rfl⟩ rfl hl.1 rfl (Nat.le_of_ble_eq_true rfl) dX9_keyAt_74 ⟨Nat.le_of_ble_eq_true rfl, Nat.le_of_ble_eq_true rfl⟩) hP hD hS hA [] [0, 1] rfl rfl (by decide) (by decide) (fun r_54 u_53 H locs hwr_54 hP hD hS => ?_)
              have hP : va_P D classes [(h0, .inr (9, (.int b0 :: .ref (g 0) :: .ref (g 1) :: .ref (g 2) :: .ref (g 3) :: .int b5 :: .int b6 :: .int b7 :: .int b8 :: .int b9 :: .int b10 :: .int b11 :: .int b12 :: .int b13 :: .int b14 :: .ref (g 4) :: .ref (g 5) :: .int b17 :: .int b18 :: .int b19 :: .ref (g 6) :: .ref (g 7) :: .ref (g 8) :: .int b23 :: .int b24 :: .int b25 :: .int b26 :: .int b27 :: .ref (g 9) :: .int b29 :: .ref (g 10) :: .int b31 :: .int b32 :: .int b33 :: .ref (g 11) :: .ref (g 12) :: .ref (g 13) :: []))), ((g 2), .inl (cT 0, 900, .inl (a2)))] _ := hP
              have hD : va_D A [(h0, .inr (9, (.int b0 :: .ref (g 0) :: .ref (g 1) :: .ref (g 2) :: .ref (g 3) :: .int b5 :: .int b6 :: .int b7 :: .int b8 :: .int b9 :: .int b10 :: .int b11 :: .int b12 :: .int b13 :: .int b14 :: .ref (g 4) :: .ref (g 5) :: .int b17 :: .int b18 :: .int b19 :: .ref (g 6) :: .ref (g 7) :: .ref (g 8) :: .int b23 :: .int b24 :: .int b25 :: .int b26 :: .int b27 :: .ref (g 9) :: .int b29 :: .ref (g 10) :: .int b31 :: .int b32 :: .int b33 :: .ref (g 11) :: .ref (g 12) :: .ref (g 13) :: []))), ((g 2), .inl (cT 0, 900, .inl (a2)))] := hD
              have qr_54_0 : narrow .char (.int r_54) = .int r_54 := hwr_54.1
              have qr_54_1 : z_52.toInt = 70 → r_54.toInt = 32 := hwr_54.2.1
              refine lv_bipush (v := 32) hx hb dX9_keyAt_77 (by decide) ?_
              refine lv_icmp_ne (tgt := 97) hx hb dX9_keyAt_79 (by decide) (fun c_55 => ?_) (fun c_55 => ?_)
              · have ic_55 : ¬ r_54.toInt = 32 := ine c_55 (rfl) (by decide)
                refine (fun (key : ∀ (n9_97 : Nat) (k9_97 : Int32)  (H : Heap) (locs : List Loc) (ls : Array Slot), (k9_4.toInt ≤ k9_97.toInt ∧ k9_97.toInt ≤ 70) → 70 < k9_97.toInt + n9_97 → va_P D classes [(h0, .inr (9, (.int b0 :: .ref (g 0) :: .ref (g 1) :: .ref (g 2) :: .ref (g 3) :: .int b5 :: .int b6 :: .int b7 :: .int b8 :: .int b9 :: .int b10 :: .int b11 :: .int b12 :: .int b13 :: .int b14 :: .ref (g 4) :: .ref (g 5) :: .int b17 :: .int b18 :: .int b19 :: .ref (g 6) :: .ref (g 7) :: .ref (g 8) :: .int b23 :: .int b24 :: .int b25 :: .int b26 :: .int b27 :: .ref (g 9) :: .int b29 :: .ref (g 10) :: .int b31 :: .int b32 :: .int b33 :: .ref (g 11) :: .ref (g 12) :: .ref (g 13) :: []))), ((g 2), .inl (cT 0, 900, .inl (a2)))] H → va_D A [(h0, .inr (9, (.int b0 :: .ref (g 0) :: .ref (g 1) :: .ref (g 2) :: .ref (g 3) :: .int b5 :: .int b6 :: .int b7 :: .int b8 :: .int b9 :: .int b10 :: .int b11 :: .int b12 :: .int b13 :: .int b14 :: .ref (g 4) :: .ref (g 5) :: .int b17 :: .int b18 :: .int b19 :: .ref (g 6) :: .ref (g 7) :: .ref (g 8) :: .int b23 :: .int b24 :: .int b25 :: .int b26 :: .int b27 :: .ref (g 9) :: .int b29 :: .ref (g 10) :: .int b31 :: .int b32 :: .int b33 :: .ref (g 11) :: .ref (g 12) :: .ref (g 13) :: []))), ((g 2), .inl (cT 0, 900, .inl (a2)))] → va_S A s.heap H locs → lv_has ls 4 [(3, .int (nI k9_15)), (2, .int k9_97), (1, .int x9_4_1), (0, .ref h0)] → W p l e _ s m _ below meth c H locs _ _ _ (F0 m 97 ls [])) => key (Int.toNat (70 - k9_4.toInt) + 1) (k9_4)  _ _ _ (by omega) (by omega)  hP hD hS (lv_sub hl [0, 1, 2, 3] rfl)) ?_
                intro n9_97
                induction n9_97 with
                | zero => intro k9_97  H locs ls hq1 hq2; exact absurd hq2 (by omega)
                | succ n9_97 ih_97 =>
                  intro k9_97  H locs ls hq1_97 hq2_97  hP hD hS hl
                  refine va_ldcS (q := cT (10 + 13)) hx hb hown (hN.2.2.2.1 13 (by decide)) dX9_keyAt_97 ?_
                  refine lv_iload_n hx hb dX9_keyAt_99 rfl (lv_at hl 1 rfl) ?_
                  refine xk_i (wr := [(h0, .inr (9, (.int b0 :: .ref (g 0) :: .ref (g 1) :: .ref (g 2) :: .ref (g 3) :: .int b5 :: .int b6 :: .int b7 :: .int b8 :: .int b9 :: .int b10 :: .int b11 :: .int b12 :: .int b13 :: .int b14 :: .ref (g 4) :: .ref (g 5) :: .int b17 :: .int b18 :: .int b19 :: .ref (g 6) :: .ref (g 7) :: .ref (g 8) :: .int b23 :: .int b24 :: .int b25 :: .int b26 :: .int b27 :: .ref (g 9) :: .int b29 :: .ref (g 10) :: .int b31 :: .int b32 :: .int b33 :: .ref (g 11) :: .ref (g 12) :: .ref (g 13) :: []))), ((g 2), .inl (cT 0, 900, .inl (a2)))]) (xr_VS (n := 1) (As := [.int k9_97]) (rest := []) ⟨hx, hb, hml, hown, htg⟩ hK hN hP hD hS hA [] rfl (by decide) (g_s_charAtK l D cT _ (13) (by first | assumption | omega | decide | exact Or.inl (by decide) | (intro h9; exact absurd h9 (by decide)) | (intro _; omega) | (intro _; assumption) | (intro _; decide)) (k9_97) (by first | assumption | omega | decide | exact Or.inl (by decide) | (intro h9; exact absurd h9 (by decide)) | (intro _; omega) | (intro _; assumption) | (intro _; decide)) (by first | assumption | omega | decide | exact Or.inl (by decide) | (intro h9; exact absurd h9 (by decide)) | (intro _; omega) | (intro _; assumption) | (intro _; decide)) (by first | assumption | omega | decide | exact Or.inl (by decide) | (intro h9; exact absurd h9 (by decide)) | (intro _; omega) | (intro _; assumption) | (intro _; decide))) wi_1290 wi_569 wi_570 wi_134 wi_571 (vk_recv (i := 13) (adK := fun i => cT (10 + i)) (adV := fun i => cT (40 + i)) hN.2.2.2.2.1 (by decide) hS) ⟨rfl, by decide +kernel⟩ ⟨Nat.le_of_ble_eq_true rfl, Nat.le_of_ble_eq_true rfl⟩ rfl hl.1 rfl (Nat.le_of_ble_eq_true rfl) dX9_keyAt_100 ⟨Nat.le_of_ble_eq_true rfl, Nat.le_of_ble_eq_true rfl⟩) hP hD hS hA [] [0, 1] rfl rfl (by decide) (by decide) (fun r_57 u_56 H locs hwr_57 hP hD hS => ?_)
                  have hP : va_P D classes [(h0, .inr (9, (.int b0 :: .ref (g 0) :: .ref (g 1) :: .ref (g 2) :: .ref (g 3) :: .int b5 :: .int b6 :: .int b7 :: .int b8 :: .int b9 :: .int b10 :: .int b11 :: .int b12 :: .int b13 :: .int b14 :: .ref (g 4) :: .ref (g 5) :: .int b17 :: .int b18 :: .int b19 :: .ref (g 6) :: .ref (g 7) :: .ref (g 8) :: .int b23 :: .int b24 :: .int b25 :: .int b26 :: .int b27 :: .ref (g 9) :: .int b29 :: .ref (g 10) :: .int b31 :: .int b32 :: .int b33 :: .ref (g 11) :: .ref (g 12) :: .ref (g 13) :: []))), ((g 2), .inl (cT 0, 900, .inl (a2)))] _ := hP
                  have hD : va_D A [(h0, .inr (9, (.int b0 :: .ref (g 0) :: .ref (g 1) :: .ref (g 2) :: .ref (g 3) :: .int b5 :: .int b6 :: .int b7 :: .int b8 :: .int b9 :: .int b10 :: .int b11 :: .int b12 :: .int b13 :: .int b14 :: .ref (g 4) :: .ref (g 5) :: .int b17 :: .int b18 :: .int b19 :: .ref (g 6) :: .ref (g 7) :: .ref (g 8) :: .int b23 :: .int b24 :: .int b25 :: .int b26 :: .int b27 :: .ref (g 9) :: .int b29 :: .ref (g 10) :: .int b31 :: .int b32 :: .int b33 :: .ref (g 11) :: .ref (g 12) :: .ref (g 13) :: []))), ((g 2), .inl (cT 0, 900, .inl (a2)))] := hD
                  have qr_57_0 : narrow .char (.int r_57) = .int r_57 := hwr_57.1
                  have qr_57_1 : k9_97.toInt = 70 → r_57.toInt = 32 := hwr_57.2.1
                  refine lv_bipush (v := 32) hx hb dX9_keyAt_103 (by decide) ?_
                  refine lv_icmp_eq (tgt := 114) hx hb dX9_keyAt_105 (by decide) (fun c_58 => ?_) (fun c_58 => ?_)
                  · have ic_58 : r_57.toInt = 32 := ieq c_58 (rfl) (by decide)
                    obtain ⟨z_59, ez_59⟩ : ∃ w : Int32, w = k9_97 + 1 := ⟨_, rfl⟩
                    have iz_59 : z_59.toInt = k9_97.toInt + 1 := toInt_addI ez_59 (rfl) (by decide) (by omega)
                    refine lv_iinc (v := z_59) (lv' := [(2, .int z_59), (3, .int (nI k9_15)), (1, .int x9_4_1), (0, .ref h0)]) hx hb dX9_keyAt_114 hl (k := 1) rfl (by rw [ez_59]; rfl) (by decide) rfl (fun ls hl => ?_)
                    obtain ⟨z_60, ez_60⟩ : ∃ w : Int32, w = x9_4_1 + 1 := ⟨_, rfl⟩
                    refine lv_iinc (v := z_60) (lv' := [(1, .int z_60), (2, .int z_59), (3, .int (nI k9_15)), (0, .ref h0)]) hx hb dX9_keyAt_117 hl (k := 2) rfl (by rw [ez_60]; rfl) (by decide) rfl (fun ls hl => ?_)
                    refine lv_goto (tgt := 4) hx hb dX9_keyAt_120 (by decide) ?_
                    exact ih_4 (z_59) _ _ _ _ (by omega) (by omega)  (hP.sub [0, 1] rfl) (hD.sub [0, 1] (by decide) rfl) hS (lv_sub hl [1, 0, 3] rfl)
                  · have ic_58 : ¬ r_57.toInt = 32 := ine c_58 (rfl) (by decide)
                    obtain ⟨z_61, ez_61⟩ : ∃ w : Int32, w = k9_97 + 1 := ⟨_, rfl⟩
                    have iz_61 : z_61.toInt = k9_97.toInt + 1 := toInt_addI ez_61 (rfl) (by decide) (by omega)
                    refine lv_iinc (v := z_61) (lv' := [(2, .int z_61), (3, .int (nI k9_15)), (1, .int x9_4_1), (0, .ref h0)]) hx hb dX9_keyAt_108 hl (k := 1) rfl (by rw [ez_61]; rfl) (by decide) rfl (fun ls hl => ?_)
                    refine lv_goto (tgt := 97) hx hb dX9_keyAt_111 (by decide) ?_
                    exact ih_97 (z_61)  _ _ _ (by omega) (by omega)  (hP.sub [0, 1] rfl) (hD.sub [0, 1] (by decide) rfl) hS (lv_sub hl [1, 0, 2, 3] rfl)
              · have ic_55 : r_54.toInt = 32 := ieq c_55 (rfl) (by decide)
                refine lv_aload_n hx hb dX9_keyAt_82 rfl (lv_at hl 3 rfl) ?_
                refine va_get (D := D) (ci := 9) (v := .int b6) (C := RX9) (T := TX9) (N := 37) hx hb htg gRX9 hown hK hP 0 rfl rfl 6 (by decide) (htg _ wi_1156) (fun _ h9 => h9) rfl dX9_keyAt_83 ?_
                refine lv_iload_n hx hb dX9_keyAt_86 rfl (lv_at hl 0 rfl) ?_
                refine lv_iadd hx hb dX9_keyAt_87 ?_
                refine lv_topi (fun z_62 ez_62 => ?_)
                have iz_62 : z_62.toInt = b6.toInt + ((k9_15 : Nat) : Int) := toInt_addI ez_62 (rfl) (nI_toInt (by omega)) (by omega)
                refine lv_aload_n hx hb dX9_keyAt_88 rfl (lv_at hl 3 rfl) ?_
                refine va_get (D := D) (ci := 9) (v := .int b7) (C := RX9) (T := TX9) (N := 37) hx hb htg gRX9 hown hK hP 0 rfl rfl 7 (by decide) (htg _ wi_1157) (fun _ h9 => h9) rfl dX9_keyAt_89 ?_
                refine lv_icmp_ne (tgt := 97) hx hb dX9_keyAt_92 (by decide) (fun c_63 => ?_) (fun c_63 => ?_)
                · have ic_63 : ¬ z_62.toInt = b7.toInt := ine c_63 (rfl) (rfl)
                  refine (fun (key : ∀ (n9_97 : Nat) (k9_97 : Int32)  (H : Heap) (locs : List Loc) (ls : Array Slot), (k9_4.toInt ≤ k9_97.toInt ∧ k9_97.toInt ≤ 70) → 70 < k9_97.toInt + n9_97 → va_P D classes [(h0, .inr (9, (.int b0 :: .ref (g 0) :: .ref (g 1) :: .ref (g 2) :: .ref (g 3) :: .int b5 :: .int b6 :: .int b7 :: .int b8 :: .int b9 :: .int b10 :: .int b11 :: .int b12 :: .int b13 :: .int b14 :: .ref (g 4) :: .ref (g 5) :: .int b17 :: .int b18 :: .int b19 :: .ref (g 6) :: .ref (g 7) :: .ref (g 8) :: .int b23 :: .int b24 :: .int b25 :: .int b26 :: .int b27 :: .ref (g 9) :: .int b29 :: .ref (g 10) :: .int b31 :: .int b32 :: .int b33 :: .ref (g 11) :: .ref (g 12) :: .ref (g 13) :: []))), ((g 2), .inl (cT 0, 900, .inl (a2)))] H → va_D A [(h0, .inr (9, (.int b0 :: .ref (g 0) :: .ref (g 1) :: .ref (g 2) :: .ref (g 3) :: .int b5 :: .int b6 :: .int b7 :: .int b8 :: .int b9 :: .int b10 :: .int b11 :: .int b12 :: .int b13 :: .int b14 :: .ref (g 4) :: .ref (g 5) :: .int b17 :: .int b18 :: .int b19 :: .ref (g 6) :: .ref (g 7) :: .ref (g 8) :: .int b23 :: .int b24 :: .int b25 :: .int b26 :: .int b27 :: .ref (g 9) :: .int b29 :: .ref (g 10) :: .int b31 :: .int b32 :: .int b33 :: .ref (g 11) :: .ref (g 12) :: .ref (g 13) :: []))), ((g 2), .inl (cT 0, 900, .inl (a2)))] → va_S A s.heap H locs → lv_has ls 4 [(3, .int (nI k9_15)), (2, .int k9_97), (1, .int x9_4_1), (0, .ref h0)] → W p l e _ s m _ below meth c H locs _ _ _ (F0 m 97 ls [])) => key (Int.toNat (70 - k9_4.toInt) + 1) (k9_4)  _ _ _ (by omega) (by omega)  hP hD hS (lv_sub hl [0, 1, 2, 3] rfl)) ?_
                  intro n9_97
                  induction n9_97 with
                  | zero => intro k9_97  H locs ls hq1 hq2; exact absurd hq2 (by omega)
                  | succ n9_97 ih_97 =>
                    intro k9_97  H locs ls hq1_97 hq2_97  hP hD hS hl
                    refine va_ldcS (q := cT (10 + 13)) hx hb hown (hN.2.2.2.1 13 (by decide)) dX9_keyAt_97 ?_
                    refine lv_iload_n hx hb dX9_keyAt_99 rfl (lv_at hl 1 rfl) ?_
                    refine xk_i (wr := [(h0, .inr (9, (.int b0 :: .ref (g 0) :: .ref (g 1) :: .ref (g 2) :: .ref (g 3) :: .int b5 :: .int b6 :: .int b7 :: .int b8 :: .int b9 :: .int b10 :: .int b11 :: .int b12 :: .int b13 :: .int b14 :: .ref (g 4) :: .ref (g 5) :: .int b17 :: .int b18 :: .int b19 :: .ref (g 6) :: .ref (g 7) :: .ref (g 8) :: .int b23 :: .int b24 :: .int b25 :: .int b26 :: .int b27 :: .ref (g 9) :: .int b29 :: .ref (g 10) :: .int b31 :: .int b32 :: .int b33 :: .ref (g 11) :: .ref (g 12) :: .ref (g 13) :: []))), ((g 2), .inl (cT 0, 900, .inl (a2)))]) (xr_VS (n := 1) (As := [.int k9_97]) (rest := []) ⟨hx, hb, hml, hown, htg⟩ hK hN hP hD hS hA [] rfl (by decide) (g_s_charAtK l D cT _ (13) (by first | assumption | omega | decide | exact Or.inl (by decide) | (intro h9; exact absurd h9 (by decide)) | (intro _; omega) | (intro _; assumption) | (intro _; decide)) (k9_97) (by first | assumption | omega | decide | exact Or.inl (by decide) | (intro h9; exact absurd h9 (by decide)) | (intro _; omega) | (intro _; assumption) | (intro _; decide)) (by first | assumption | omega | decide | exact Or.inl (by decide) | (intro h9; exact absurd h9 (by decide)) | (intro _; omega) | (intro _; assumption) | (intro _; decide)) (by first | assumption | omega | decide | exact Or.inl (by decide) | (intro h9; exact absurd h9 (by decide)) | (intro _; omega) | (intro _; assumption) | (intro _; decide))) wi_1290 wi_569 wi_570 wi_134 wi_571 (vk_recv (i := 13) (adK := fun i => cT (10 + i)) (adV := fun i => cT (40 + i)) hN.2.2.2.2.1 (by decide) hS) ⟨rfl, by decide +kernel⟩ ⟨Nat.le_of_ble_eq_true rfl, Nat.le_of_ble_eq_true rfl⟩ rfl hl.1 rfl (Nat.le_of_ble_eq_true rfl) dX9_keyAt_100 ⟨Nat.le_of_ble_eq_true rfl, Nat.le_of_ble_eq_true rfl⟩) hP hD hS hA [] [0, 1] rfl rfl (by decide) (by decide) (fun r_65 u_64 H locs hwr_65 hP hD hS => ?_)
                    have hP : va_P D classes [(h0, .inr (9, (.int b0 :: .ref (g 0) :: .ref (g 1) :: .ref (g 2) :: .ref (g 3) :: .int b5 :: .int b6 :: .int b7 :: .int b8 :: .int b9 :: .int b10 :: .int b11 :: .int b12 :: .int b13 :: .int b14 :: .ref (g 4) :: .ref (g 5) :: .int b17 :: .int b18 :: .int b19 :: .ref (g 6) :: .ref (g 7) :: .ref (g 8) :: .int b23 :: .int b24 :: .int b25 :: .int b26 :: .int b27 :: .ref (g 9) :: .int b29 :: .ref (g 10) :: .int b31 :: .int b32 :: .int b33 :: .ref (g 11) :: .ref (g 12) :: .ref (g 13) :: []))), ((g 2), .inl (cT 0, 900, .inl (a2)))] _ := hP
                    have hD : va_D A [(h0, .inr (9, (.int b0 :: .ref (g 0) :: .ref (g 1) :: .ref (g 2) :: .ref (g 3) :: .int b5 :: .int b6 :: .int b7 :: .int b8 :: .int b9 :: .int b10 :: .int b11 :: .int b12 :: .int b13 :: .int b14 :: .ref (g 4) :: .ref (g 5) :: .int b17 :: .int b18 :: .int b19 :: .ref (g 6) :: .ref (g 7) :: .ref (g 8) :: .int b23 :: .int b24 :: .int b25 :: .int b26 :: .int b27 :: .ref (g 9) :: .int b29 :: .ref (g 10) :: .int b31 :: .int b32 :: .int b33 :: .ref (g 11) :: .ref (g 12) :: .ref (g 13) :: []))), ((g 2), .inl (cT 0, 900, .inl (a2)))] := hD
                    have qr_65_0 : narrow .char (.int r_65) = .int r_65 := hwr_65.1
                    have qr_65_1 : k9_97.toInt = 70 → r_65.toInt = 32 := hwr_65.2.1
                    refine lv_bipush (v := 32) hx hb dX9_keyAt_103 (by decide) ?_
                    refine lv_icmp_eq (tgt := 114) hx hb dX9_keyAt_105 (by decide) (fun c_66 => ?_) (fun c_66 => ?_)
                    · have ic_66 : r_65.toInt = 32 := ieq c_66 (rfl) (by decide)
                      obtain ⟨z_67, ez_67⟩ : ∃ w : Int32, w = k9_97 + 1 := ⟨_, rfl⟩
                      have iz_67 : z_67.toInt = k9_97.toInt + 1 := toInt_addI ez_67 (rfl) (by decide) (by omega)
                      refine lv_iinc (v := z_67) (lv' := [(2, .int z_67), (3, .int (nI k9_15)), (1, .int x9_4_1), (0, .ref h0)]) hx hb dX9_keyAt_114 hl (k := 1) rfl (by rw [ez_67]; rfl) (by decide) rfl (fun ls hl => ?_)
                      obtain ⟨z_68, ez_68⟩ : ∃ w : Int32, w = x9_4_1 + 1 := ⟨_, rfl⟩
                      refine lv_iinc (v := z_68) (lv' := [(1, .int z_68), (2, .int z_67), (3, .int (nI k9_15)), (0, .ref h0)]) hx hb dX9_keyAt_117 hl (k := 2) rfl (by rw [ez_68]; rfl) (by decide) rfl (fun ls hl => ?_)
                      refine lv_goto (tgt := 4) hx hb dX9_keyAt_120 (by decide) ?_
                      exact ih_4 (z_67) _ _ _ _ (by omega) (by omega)  (hP.sub [0, 1] rfl) (hD.sub [0, 1] (by decide) rfl) hS (lv_sub hl [1, 0, 3] rfl)
                    · have ic_66 : ¬ r_65.toInt = 32 := ine c_66 (rfl) (by decide)
                      obtain ⟨z_69, ez_69⟩ : ∃ w : Int32, w = k9_97 + 1 := ⟨_, rfl⟩
                      have iz_69 : z_69.toInt = k9_97.toInt + 1 := toInt_addI ez_69 (rfl) (by decide) (by omega)
                      refine lv_iinc (v := z_69) (lv' := [(2, .int z_69), (3, .int (nI k9_15)), (1, .int x9_4_1), (0, .ref h0)]) hx hb dX9_keyAt_108 hl (k := 1) rfl (by rw [ez_69]; rfl) (by decide) rfl (fun ls hl => ?_)
                      refine lv_goto (tgt := 97) hx hb dX9_keyAt_111 (by decide) ?_
                      exact ih_97 (z_69)  _ _ _ (by omega) (by omega)  (hP.sub [0, 1] rfl) (hD.sub [0, 1] (by decide) rfl) hS (lv_sub hl [1, 0, 2, 3] rfl)
                · have ic_63 : z_62.toInt = b7.toInt := ieq c_63 (rfl) (rfl)
                  refine lv_iload_n hx hb dX9_keyAt_95 rfl (lv_at hl 2 rfl) ?_
                  exact x_iret hx hb hr hlk hP hD hS [0, 1] (()) rfl (by decide) trivial (by decide) (by decide) dX9_keyAt_96
            · have ic_51 : z_47.toInt = r_50.toInt := ieq c_51 (rfl) (rfl)
              refine lv_iinc (v := (nI (k9_15 + 1))) (lv' := [(3, .int (nI (k9_15 + 1))), (2, .int k9_4), (1, .int x9_4_1), (0, .ref h0)]) hx hb dX9_keyAt_63 hl (k := 0) rfl (by exact nI_1 (k9_15)) (by decide) rfl (fun ls hl => ?_)
              refine lv_goto (tgt := 15) hx hb dX9_keyAt_66 (by decide) ?_
              exact ih_15 (k9_15 + 1)  _ _ _ (by omega) (by omega)  (hP.sub [0, 1] rfl) (hD.sub [0, 1] (by decide) rfl) hS (lv_sub hl [0, 1, 2, 3] rfl)
