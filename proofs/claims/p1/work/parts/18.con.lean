set_option maxHeartbeats 4000000 in
set_option maxRecDepth 100000 in
theorem m_told0 (l : Launch) (D : va_G) (cT : Nat → ClassId) (sz : Nat) (h0 : Nat) (g : Nat → Nat) (w : Int32) (v : Int32) (x : Int32) (y : Int32) : Met l yX9_told (wsc yX9_told cX9_told 6 (some .int)) { frames := 3, cells := 0, slots := 0, locals := 125 } (va_Pc [.ref h0, .int w, .int v, .int x, .int y, .int 0] (PX D cT sz [(h0, .inr (9, [.int 0, .ref (g 0), .ref (g 1), .ref (g 2), .ref (g 3), .int 0, .int 0, .int 0, .int 0, .int 0, .int 0, .int 0, .int 0, .int 0, .int (-1), .ref (g 4), .ref (g 5), .int 0, .int 0, .int 0, .ref (g 6), .ref (g 7), .ref (g 8), .int 0, .int 0, .int 0, .int 0, .int 0, .ref (g 9), .int 0, .ref (g 10), .int 0, .int 0, .int 0, .ref (g 11), .ref (g 12), .ref (g 13)])), ((g 0), .inl (cT 0, 288, .inl (allK)))])) (va_Qi (fun (r : Int32) (u : Unit) => r = if (0 ≤ y.toInt ∧ y.toInt ≤ 0) ∨ (10 ≤ y.toInt ∧ y.toInt < 18) then (if 1 ≤ x.toInt ∧ x.toInt ≤ 8 then -5 else -3) else -2) (fun u t => RW D (va_A [(h0, .inr (9, [.int 0, .ref (g 0), .ref (g 1), .ref (g 2), .ref (g 3), .int 0, .int 0, .int 0, .int 0, .int 0, .int 0, .int 0, .int 0, .int 0, .int (-1), .ref (g 4), .ref (g 5), .int 0, .int 0, .int 0, .ref (g 6), .ref (g 7), .ref (g 8), .int 0, .int 0, .int 0, .int 0, .int 0, .ref (g 9), .int 0, .ref (g 10), .int 0, .int 0, .int 0, .ref (g 11), .ref (g 12), .ref (g 13)])), ((g 0), .inl (cT 0, 288, .inl (allK)))] sz) ((fun _ : Unit => []) u) t) (va_A [(h0, .inr (9, [.int 0, .ref (g 0), .ref (g 1), .ref (g 2), .ref (g 3), .int 0, .int 0, .int 0, .int 0, .int 0, .int 0, .int 0, .int 0, .int 0, .int (-1), .ref (g 4), .ref (g 5), .int 0, .int 0, .int 0, .ref (g 6), .ref (g 7), .ref (g 8), .int 0, .int 0, .int 0, .int 0, .int 0, .ref (g 9), .int 0, .ref (g 10), .int 0, .int 0, .int 0, .ref (g 11), .ref (g 12), .ref (g 13)])), ((g 0), .inl (cT 0, 288, .inl (allK)))] sz)) 0 0 (va_A [(h0, .inr (9, [.int 0, .ref (g 0), .ref (g 1), .ref (g 2), .ref (g 3), .int 0, .int 0, .int 0, .int 0, .int 0, .int 0, .int 0, .int 0, .int 0, .int (-1), .ref (g 4), .ref (g 5), .int 0, .int 0, .int 0, .ref (g 6), .ref (g 7), .ref (g 8), .int 0, .int 0, .int 0, .int 0, .int 0, .ref (g 9), .int 0, .ref (g 10), .int 0, .int 0, .int 0, .ref (g 11), .ref (g 12), .ref (g 13)])), ((g 0), .inl (cT 0, 288, .inl (allK)))] sz) := by
  refine m_of (y := yX9_told) (cc := cX9_told) (nL := 6) (ret := (some .int)) (D := D) (cT := cT) (av := [.ref h0, .int w, .int v, .int x, .int y, .int 0]) (wi := [(h0, .inr (9, [.int 0, .ref (g 0), .ref (g 1), .ref (g 2), .ref (g 3), .int 0, .int 0, .int 0, .int 0, .int 0, .int 0, .int 0, .int 0, .int 0, .int (-1), .ref (g 4), .ref (g 5), .int 0, .int 0, .int 0, .ref (g 6), .ref (g 7), .ref (g 8), .int 0, .int 0, .int 0, .int 0, .int 0, .ref (g 9), .int 0, .ref (g 10), .int 0, .int 0, .int 0, .ref (g 11), .ref (g 12), .ref (g 13)])), ((g 0), .inl (cT 0, 288, .inl (allK)))]) (fun A => va_Qi (fun (r : Int32) (u : Unit) => r = if (0 ≤ y.toInt ∧ y.toInt ≤ 0) ∨ (10 ≤ y.toInt ∧ y.toInt < 18) then (if 1 ≤ x.toInt ∧ x.toInt ≤ 8 then -5 else -3) else -2) (fun u t => RW D A ((fun _ : Unit => []) u) t) A) (by decide) (Nat.le_of_ble_eq_true rfl) ?_
  intro p e s m below meth c A hx hb hml hown htg hK hN hr hlk hnm hsz hP hD hS hA ls hl
  have hown : s.vm.findClass RX9 = some m.cls := hown
  have hl : lv_has ls 6 [(0, .ref h0), (1, .int w), (2, .int v), (3, .int x), (4, .int y), (5, .int 0)] := hl
  refine lv_iload hx hb dX9_told_0 (lv_at hl 4 rfl) ?_
  refine lv_if_eq (tgt := 34) hx hb dX9_told_2 (by decide) (fun c_1 => ?_) (fun c_1 => ?_)
  · have ic_1 : y.toInt = 0 := ieq c_1 (rfl) (by decide)
    refine lv_iload_n hx hb dX9_told_34 rfl (lv_at hl 3 rfl) ?_
    refine lv_i2l (v := x.toInt64) hx hb dX9_told_35 rfl ?_
    refine lv_lconst (v := 1) hx hb dX9_told_36 (by decide) ?_
    refine lv_ldc2 (v := 8) hx hb hown (htg _ wi_1477) dX9_told_37 ?_
    refine xk_i (wr := [(h0, .inr (9, [.int 0, .ref (g 0), .ref (g 1), .ref (g 2), .ref (g 3), .int 0, .int 0, .int 0, .int 0, .int 0, .int 0, .int 0, .int 0, .int 0, .int (-1), .ref (g 4), .ref (g 5), .int 0, .int 0, .int 0, .ref (g 6), .ref (g 7), .ref (g 8), .int 0, .int 0, .int 0, .int 0, .int 0, .ref (g 9), .int 0, .ref (g 10), .int 0, .int 0, .int 0, .ref (g 11), .ref (g 12), .ref (g 13)])), ((g 0), .inl (cT 0, 288, .inl (allK)))]) (xr_S (n := 3) (As := [.long x.toInt64, .long 1, .long 8]) (rest := []) ⟨hx, hb, hml, hown, htg⟩ hK hN hP hD [] rfl (by decide) (c_within l D cT _ (x.toInt64) (1) (8) (x.toInt) (1) (8) (i2l_i _) (by decide) (by decide)) wi_1270 wi_1271 wi_131 wi_1272 ⟨rfl, by decide +kernel⟩ ⟨Nat.le_of_ble_eq_true rfl, Nat.le_of_ble_eq_true rfl⟩ rfl hl.1 rfl (Nat.le_of_ble_eq_true rfl) dX9_told_40 ⟨Nat.le_of_ble_eq_true rfl, Nat.le_of_ble_eq_true rfl⟩) hP hD hS hA [] [0, 1] rfl rfl (by decide) (by decide) (fun r_3 u_2 H locs hwr_3 hP hD hS => ?_)
    have hP : va_P D classes [(h0, .inr (9, [.int 0, .ref (g 0), .ref (g 1), .ref (g 2), .ref (g 3), .int 0, .int 0, .int 0, .int 0, .int 0, .int 0, .int 0, .int 0, .int 0, .int (-1), .ref (g 4), .ref (g 5), .int 0, .int 0, .int 0, .ref (g 6), .ref (g 7), .ref (g 8), .int 0, .int 0, .int 0, .int 0, .int 0, .ref (g 9), .int 0, .ref (g 10), .int 0, .int 0, .int 0, .ref (g 11), .ref (g 12), .ref (g 13)])), ((g 0), .inl (cT 0, 288, .inl (allK)))] _ := hP
    have hD : va_D A [(h0, .inr (9, [.int 0, .ref (g 0), .ref (g 1), .ref (g 2), .ref (g 3), .int 0, .int 0, .int 0, .int 0, .int 0, .int 0, .int 0, .int 0, .int 0, .int (-1), .ref (g 4), .ref (g 5), .int 0, .int 0, .int 0, .ref (g 6), .ref (g 7), .ref (g 8), .int 0, .int 0, .int 0, .int 0, .int 0, .ref (g 9), .int 0, .ref (g 10), .int 0, .int 0, .int 0, .ref (g 11), .ref (g 12), .ref (g 13)])), ((g 0), .inl (cT 0, 288, .inl (allK)))] := hD
    have hwr_3 : r_3 = if 1 ≤ x.toInt ∧ x.toInt ≤ 8 then 1 else 0 := hwr_3
    refine lv_if_ne (tgt := 49) hx hb dX9_told_43 (by decide) (fun c_4 => ?_) (fun c_4 => ?_)
    · have ic_4 := if1 hwr_3 c_4
      refine lv_aload_n hx hb dX9_told_49 rfl (lv_at hl 0 rfl) ?_
      refine va_get (D := D) (ci := 9) (v := .ref (g 0)) (C := RX9) (T := TX9) (N := 37) hx hb htg gRX9 hown hK hP 0 rfl rfl 1 (by decide) (htg _ wi_1151) (fun _ h9 => h9) rfl dX9_told_50 ?_
      refine lv_iconst (v := 0) hx hb dX9_told_53 (by decide) ?_
      refine va_iald hx hb hK hP 1 0 rfl rfl (by unfold vp_in; decide) dX9_told_54 ?_
      refine lv_is (y := 0) (by decide) ?_
      refine lv_if_ne (tgt := 61) hx hb dX9_told_55 (by decide) (fun h => absurd rfl h) (fun _ => ?_)
      refine lv_bipush (v := (-5)) hx hb dX9_told_58 (by decide) ?_
      exact x_iret hx hb hr hlk hP hD hS [] (()) rfl (by decide) (by first | rfl | decide | (exfalso; omega) | (try simp only [ti_0, ti_1, ti_2, ti_3, ti_4, ti_5, ti_6, ti_7, ti_8, ti_9, ti_10, ti_11, ti_12]); (repeat (first | rw [if_pos (by first | assumption | omega | trivial)] | rw [if_neg (by first | assumption | omega)]))) (by decide) (by decide) dX9_told_60
    · have ic_4 := if0 hwr_3 c_4
      refine lv_bipush (v := (-3)) hx hb dX9_told_46 (by decide) ?_
      exact x_iret hx hb hr hlk hP hD hS [] (()) rfl (by decide) (by first | rfl | decide | (exfalso; omega) | (try simp only [ti_0, ti_1, ti_2, ti_3, ti_4, ti_5, ti_6, ti_7, ti_8, ti_9, ti_10, ti_11, ti_12]); (repeat (first | rw [if_pos (by first | assumption | omega | trivial)] | rw [if_neg (by first | assumption | omega)]))) (by decide) (by decide) dX9_told_48
  · have ic_1 : ¬ y.toInt = 0 := ine c_1 (rfl) (by decide)
    refine lv_iload hx hb dX9_told_5 (lv_at hl 5 rfl) ?_
    refine lv_if_eq (tgt := 16) hx hb dX9_told_7 (by decide) (fun _ => ?_) (fun h => absurd (by decide) h)
    refine lv_iload hx hb dX9_told_16 (lv_at hl 4 rfl) ?_
    refine lv_i2l (v := y.toInt64) hx hb dX9_told_18 rfl ?_
    refine lv_ldc2 (v := 10) hx hb hown (htg _ wi_1475) dX9_told_19 ?_
    refine lv_ldc2 (v := 17) hx hb hown (htg _ wi_1476) dX9_told_22 ?_
    refine xk_i (wr := [(h0, .inr (9, [.int 0, .ref (g 0), .ref (g 1), .ref (g 2), .ref (g 3), .int 0, .int 0, .int 0, .int 0, .int 0, .int 0, .int 0, .int 0, .int 0, .int (-1), .ref (g 4), .ref (g 5), .int 0, .int 0, .int 0, .ref (g 6), .ref (g 7), .ref (g 8), .int 0, .int 0, .int 0, .int 0, .int 0, .ref (g 9), .int 0, .ref (g 10), .int 0, .int 0, .int 0, .ref (g 11), .ref (g 12), .ref (g 13)])), ((g 0), .inl (cT 0, 288, .inl (allK)))]) (xr_S (n := 3) (As := [.long y.toInt64, .long 10, .long 17]) (rest := []) ⟨hx, hb, hml, hown, htg⟩ hK hN hP hD [] rfl (by decide) (c_within l D cT _ (y.toInt64) (10) (17) (y.toInt) (10) (17) (i2l_i _) (by decide) (by decide)) wi_1270 wi_1271 wi_131 wi_1272 ⟨rfl, by decide +kernel⟩ ⟨Nat.le_of_ble_eq_true rfl, Nat.le_of_ble_eq_true rfl⟩ rfl hl.1 rfl (Nat.le_of_ble_eq_true rfl) dX9_told_25 ⟨Nat.le_of_ble_eq_true rfl, Nat.le_of_ble_eq_true rfl⟩) hP hD hS hA [] [0, 1] rfl rfl (by decide) (by decide) (fun r_6 u_5 H locs hwr_6 hP hD hS => ?_)
    have hP : va_P D classes [(h0, .inr (9, [.int 0, .ref (g 0), .ref (g 1), .ref (g 2), .ref (g 3), .int 0, .int 0, .int 0, .int 0, .int 0, .int 0, .int 0, .int 0, .int 0, .int (-1), .ref (g 4), .ref (g 5), .int 0, .int 0, .int 0, .ref (g 6), .ref (g 7), .ref (g 8), .int 0, .int 0, .int 0, .int 0, .int 0, .ref (g 9), .int 0, .ref (g 10), .int 0, .int 0, .int 0, .ref (g 11), .ref (g 12), .ref (g 13)])), ((g 0), .inl (cT 0, 288, .inl (allK)))] _ := hP
    have hD : va_D A [(h0, .inr (9, [.int 0, .ref (g 0), .ref (g 1), .ref (g 2), .ref (g 3), .int 0, .int 0, .int 0, .int 0, .int 0, .int 0, .int 0, .int 0, .int 0, .int (-1), .ref (g 4), .ref (g 5), .int 0, .int 0, .int 0, .ref (g 6), .ref (g 7), .ref (g 8), .int 0, .int 0, .int 0, .int 0, .int 0, .ref (g 9), .int 0, .ref (g 10), .int 0, .int 0, .int 0, .ref (g 11), .ref (g 12), .ref (g 13)])), ((g 0), .inl (cT 0, 288, .inl (allK)))] := hD
    have hwr_6 : r_6 = if 10 ≤ y.toInt ∧ y.toInt ≤ 17 then 1 else 0 := hwr_6
    refine lv_if_ne (tgt := 34) hx hb dX9_told_28 (by decide) (fun c_7 => ?_) (fun c_7 => ?_)
    · have ic_7 := if1 hwr_6 c_7
      refine lv_iload_n hx hb dX9_told_34 rfl (lv_at hl 3 rfl) ?_
      refine lv_i2l (v := x.toInt64) hx hb dX9_told_35 rfl ?_
      refine lv_lconst (v := 1) hx hb dX9_told_36 (by decide) ?_
      refine lv_ldc2 (v := 8) hx hb hown (htg _ wi_1477) dX9_told_37 ?_
      refine xk_i (wr := [(h0, .inr (9, [.int 0, .ref (g 0), .ref (g 1), .ref (g 2), .ref (g 3), .int 0, .int 0, .int 0, .int 0, .int 0, .int 0, .int 0, .int 0, .int 0, .int (-1), .ref (g 4), .ref (g 5), .int 0, .int 0, .int 0, .ref (g 6), .ref (g 7), .ref (g 8), .int 0, .int 0, .int 0, .int 0, .int 0, .ref (g 9), .int 0, .ref (g 10), .int 0, .int 0, .int 0, .ref (g 11), .ref (g 12), .ref (g 13)])), ((g 0), .inl (cT 0, 288, .inl (allK)))]) (xr_S (n := 3) (As := [.long x.toInt64, .long 1, .long 8]) (rest := []) ⟨hx, hb, hml, hown, htg⟩ hK hN hP hD [] rfl (by decide) (c_within l D cT _ (x.toInt64) (1) (8) (x.toInt) (1) (8) (i2l_i _) (by decide) (by decide)) wi_1270 wi_1271 wi_131 wi_1272 ⟨rfl, by decide +kernel⟩ ⟨Nat.le_of_ble_eq_true rfl, Nat.le_of_ble_eq_true rfl⟩ rfl hl.1 rfl (Nat.le_of_ble_eq_true rfl) dX9_told_40 ⟨Nat.le_of_ble_eq_true rfl, Nat.le_of_ble_eq_true rfl⟩) hP hD hS hA [] [0, 1] rfl rfl (by decide) (by decide) (fun r_9 u_8 H locs hwr_9 hP hD hS => ?_)
      have hP : va_P D classes [(h0, .inr (9, [.int 0, .ref (g 0), .ref (g 1), .ref (g 2), .ref (g 3), .int 0, .int 0, .int 0, .int 0, .int 0, .int 0, .int 0, .int 0, .int 0, .int (-1), .ref (g 4), .ref (g 5), .int 0, .int 0, .int 0, .ref (g 6), .ref (g 7), .ref (g 8), .int 0, .int 0, .int 0, .int 0, .int 0, .ref (g 9), .int 0, .ref (g 10), .int 0, .int 0, .int 0, .ref (g 11), .ref (g 12), .ref (g 13)])), ((g 0), .inl (cT 0, 288, .inl (allK)))] _ := hP
      have hD : va_D A [(h0, .inr (9, [.int 0, .ref (g 0), .ref (g 1), .ref (g 2), .ref (g 3), .int 0, .int 0, .int 0, .int 0, .int 0, .int 0, .int 0, .int 0, .int 0, .int (-1), .ref (g 4), .ref (g 5), .int 0, .int 0, .int 0, .ref (g 6), .ref (g 7), .ref (g 8), .int 0, .int 0, .int 0, .int 0, .int 0, .ref (g 9), .int 0, .ref (g 10), .int 0, .int 0, .int 0, .ref (g 11), .ref (g 12), .ref (g 13)])), ((g 0), .inl (cT 0, 288, .inl (allK)))] := hD
      have hwr_9 : r_9 = if 1 ≤ x.toInt ∧ x.toInt ≤ 8 then 1 else 0 := hwr_9
      refine lv_if_ne (tgt := 49) hx hb dX9_told_43 (by decide) (fun c_10 => ?_) (fun c_10 => ?_)
      · have ic_10 := if1 hwr_9 c_10
        refine lv_aload_n hx hb dX9_told_49 rfl (lv_at hl 0 rfl) ?_
        refine va_get (D := D) (ci := 9) (v := .ref (g 0)) (C := RX9) (T := TX9) (N := 37) hx hb htg gRX9 hown hK hP 0 rfl rfl 1 (by decide) (htg _ wi_1151) (fun _ h9 => h9) rfl dX9_told_50 ?_
        refine lv_iconst (v := 0) hx hb dX9_told_53 (by decide) ?_
        refine va_iald hx hb hK hP 1 0 rfl rfl (by unfold vp_in; decide) dX9_told_54 ?_
        refine lv_is (y := 0) (by decide) ?_
        refine lv_if_ne (tgt := 61) hx hb dX9_told_55 (by decide) (fun h => absurd rfl h) (fun _ => ?_)
        refine lv_bipush (v := (-5)) hx hb dX9_told_58 (by decide) ?_
        exact x_iret hx hb hr hlk hP hD hS [] (()) rfl (by decide) (by first | rfl | decide | (exfalso; omega) | (try simp only [ti_0, ti_1, ti_2, ti_3, ti_4, ti_5, ti_6, ti_7, ti_8, ti_9, ti_10, ti_11, ti_12]); (repeat (first | rw [if_pos (by first | assumption | omega | trivial)] | rw [if_neg (by first | assumption | omega)]))) (by decide) (by decide) dX9_told_60
      · have ic_10 := if0 hwr_9 c_10
        refine lv_bipush (v := (-3)) hx hb dX9_told_46 (by decide) ?_
        exact x_iret hx hb hr hlk hP hD hS [] (()) rfl (by decide) (by first | rfl | decide | (exfalso; omega) | (try simp only [ti_0, ti_1, ti_2, ti_3, ti_4, ti_5, ti_6, ti_7, ti_8, ti_9, ti_10, ti_11, ti_12]); (repeat (first | rw [if_pos (by first | assumption | omega | trivial)] | rw [if_neg (by first | assumption | omega)]))) (by decide) (by decide) dX9_told_48
    · have ic_7 := if0 hwr_6 c_7
      refine lv_bipush (v := (-2)) hx hb dX9_told_31 (by decide) ?_
      exact x_iret hx hb hr hlk hP hD hS [] (()) rfl (by decide) (by first | rfl | decide | (exfalso; omega) | (try simp only [ti_0, ti_1, ti_2, ti_3, ti_4, ti_5, ti_6, ti_7, ti_8, ti_9, ti_10, ti_11, ti_12]); (repeat (first | rw [if_pos (by first | assumption | omega | trivial)] | rw [if_neg (by first | assumption | omega)]))) (by decide) (by decide) dX9_told_33
set_option maxHeartbeats 4000000 in
set_option maxRecDepth 100000 in
theorem m_told1 (l : Launch) (D : va_G) (cT : Nat → ClassId) (sz : Nat) (h0 : Nat) (g : Nat → Nat) (w : Int32) (v : Int32) (x : Int32) (y : Int32) : Met l yX9_told (wsc yX9_told cX9_told 6 (some .int)) { frames := 3, cells := 0, slots := 0, locals := 125 } (va_Pc [.ref h0, .int w, .int v, .int x, .int y, .int 1] (PX D cT sz [(h0, .inr (9, [.int 0, .ref (g 0), .ref (g 1), .ref (g 2), .ref (g 3), .int 0, .int 0, .int 0, .int 0, .int 0, .int 0, .int 0, .int 0, .int 0, .int (-1), .ref (g 4), .ref (g 5), .int 0, .int 0, .int 0, .ref (g 6), .ref (g 7), .ref (g 8), .int 0, .int 0, .int 0, .int 0, .int 0, .ref (g 9), .int 0, .ref (g 10), .int 0, .int 0, .int 0, .ref (g 11), .ref (g 12), .ref (g 13)])), ((g 0), .inl (cT 0, 288, .inl (allK)))])) (va_Qi (fun (r : Int32) (u : Unit) => r = if (0 ≤ y.toInt ∧ y.toInt ≤ 1) ∨ (10 ≤ y.toInt ∧ y.toInt < 18) then (if 1 ≤ x.toInt ∧ x.toInt ≤ 8 then -5 else -3) else -2) (fun u t => RW D (va_A [(h0, .inr (9, [.int 0, .ref (g 0), .ref (g 1), .ref (g 2), .ref (g 3), .int 0, .int 0, .int 0, .int 0, .int 0, .int 0, .int 0, .int 0, .int 0, .int (-1), .ref (g 4), .ref (g 5), .int 0, .int 0, .int 0, .ref (g 6), .ref (g 7), .ref (g 8), .int 0, .int 0, .int 0, .int 0, .int 0, .ref (g 9), .int 0, .ref (g 10), .int 0, .int 0, .int 0, .ref (g 11), .ref (g 12), .ref (g 13)])), ((g 0), .inl (cT 0, 288, .inl (allK)))] sz) ((fun _ : Unit => []) u) t) (va_A [(h0, .inr (9, [.int 0, .ref (g 0), .ref (g 1), .ref (g 2), .ref (g 3), .int 0, .int 0, .int 0, .int 0, .int 0, .int 0, .int 0, .int 0, .int 0, .int (-1), .ref (g 4), .ref (g 5), .int 0, .int 0, .int 0, .ref (g 6), .ref (g 7), .ref (g 8), .int 0, .int 0, .int 0, .int 0, .int 0, .ref (g 9), .int 0, .ref (g 10), .int 0, .int 0, .int 0, .ref (g 11), .ref (g 12), .ref (g 13)])), ((g 0), .inl (cT 0, 288, .inl (allK)))] sz)) 0 0 (va_A [(h0, .inr (9, [.int 0, .ref (g 0), .ref (g 1), .ref (g 2), .ref (g 3), .int 0, .int 0, .int 0, .int 0, .int 0, .int 0, .int 0, .int 0, .int 0, .int (-1), .ref (g 4), .ref (g 5), .int 0, .int 0, .int 0, .ref (g 6), .ref (g 7), .ref (g 8), .int 0, .int 0, .int 0, .int 0, .int 0, .ref (g 9), .int 0, .ref (g 10), .int 0, .int 0, .int 0, .ref (g 11), .ref (g 12), .ref (g 13)])), ((g 0), .inl (cT 0, 288, .inl (allK)))] sz) := by
  refine m_of (y := yX9_told) (cc := cX9_told) (nL := 6) (ret := (some .int)) (D := D) (cT := cT) (av := [.ref h0, .int w, .int v, .int x, .int y, .int 1]) (wi := [(h0, .inr (9, [.int 0, .ref (g 0), .ref (g 1), .ref (g 2), .ref (g 3), .int 0, .int 0, .int 0, .int 0, .int 0, .int 0, .int 0, .int 0, .int 0, .int (-1), .ref (g 4), .ref (g 5), .int 0, .int 0, .int 0, .ref (g 6), .ref (g 7), .ref (g 8), .int 0, .int 0, .int 0, .int 0, .int 0, .ref (g 9), .int 0, .ref (g 10), .int 0, .int 0, .int 0, .ref (g 11), .ref (g 12), .ref (g 13)])), ((g 0), .inl (cT 0, 288, .inl (allK)))]) (fun A => va_Qi (fun (r : Int32) (u : Unit) => r = if (0 ≤ y.toInt ∧ y.toInt ≤ 1) ∨ (10 ≤ y.toInt ∧ y.toInt < 18) then (if 1 ≤ x.toInt ∧ x.toInt ≤ 8 then -5 else -3) else -2) (fun u t => RW D A ((fun _ : Unit => []) u) t) A) (by decide) (Nat.le_of_ble_eq_true rfl) ?_
  intro p e s m below meth c A hx hb hml hown htg hK hN hr hlk hnm hsz hP hD hS hA ls hl
  have hown : s.vm.findClass RX9 = some m.cls := hown
  have hl : lv_has ls 6 [(0, .ref h0), (1, .int w), (2, .int v), (3, .int x), (4, .int y), (5, .int 1)] := hl
  refine lv_iload hx hb dX9_told_0 (lv_at hl 4 rfl) ?_
  refine lv_if_eq (tgt := 34) hx hb dX9_told_2 (by decide) (fun c_1 => ?_) (fun c_1 => ?_)
  · have ic_1 : y.toInt = 0 := ieq c_1 (rfl) (by decide)
    refine lv_iload_n hx hb dX9_told_34 rfl (lv_at hl 3 rfl) ?_
    refine lv_i2l (v := x.toInt64) hx hb dX9_told_35 rfl ?_
    refine lv_lconst (v := 1) hx hb dX9_told_36 (by decide) ?_
    refine lv_ldc2 (v := 8) hx hb hown (htg _ wi_1477) dX9_told_37 ?_
    refine xk_i (wr := [(h0, .inr (9, [.int 0, .ref (g 0), .ref (g 1), .ref (g 2), .ref (g 3), .int 0, .int 0, .int 0, .int 0, .int 0, .int 0, .int 0, .int 0, .int 0, .int (-1), .ref (g 4), .ref (g 5), .int 0, .int 0, .int 0, .ref (g 6), .ref (g 7), .ref (g 8), .int 0, .int 0, .int 0, .int 0, .int 0, .ref (g 9), .int 0, .ref (g 10), .int 0, .int 0, .int 0, .ref (g 11), .ref (g 12), .ref (g 13)])), ((g 0), .inl (cT 0, 288, .inl (allK)))]) (xr_S (n := 3) (As := [.long x.toInt64, .long 1, .long 8]) (rest := []) ⟨hx, hb, hml, hown, htg⟩ hK hN hP hD [] rfl (by decide) (c_within l D cT _ (x.toInt64) (1) (8) (x.toInt) (1) (8) (i2l_i _) (by decide) (by decide)) wi_1270 wi_1271 wi_131 wi_1272 ⟨rfl, by decide +kernel⟩ ⟨Nat.le_of_ble_eq_true rfl, Nat.le_of_ble_eq_true rfl⟩ rfl hl.1 rfl (Nat.le_of_ble_eq_true rfl) dX9_told_40 ⟨Nat.le_of_ble_eq_true rfl, Nat.le_of_ble_eq_true rfl⟩) hP hD hS hA [] [0, 1] rfl rfl (by decide) (by decide) (fun r_3 u_2 H locs hwr_3 hP hD hS => ?_)
    have hP : va_P D classes [(h0, .inr (9, [.int 0, .ref (g 0), .ref (g 1), .ref (g 2), .ref (g 3), .int 0, .int 0, .int 0, .int 0, .int 0, .int 0, .int 0, .int 0, .int 0, .int (-1), .ref (g 4), .ref (g 5), .int 0, .int 0, .int 0, .ref (g 6), .ref (g 7), .ref (g 8), .int 0, .int 0, .int 0, .int 0, .int 0, .ref (g 9), .int 0, .ref (g 10), .int 0, .int 0, .int 0, .ref (g 11), .ref (g 12), .ref (g 13)])), ((g 0), .inl (cT 0, 288, .inl (allK)))] _ := hP
    have hD : va_D A [(h0, .inr (9, [.int 0, .ref (g 0), .ref (g 1), .ref (g 2), .ref (g 3), .int 0, .int 0, .int 0, .int 0, .int 0, .int 0, .int 0, .int 0, .int 0, .int (-1), .ref (g 4), .ref (g 5), .int 0, .int 0, .int 0, .ref (g 6), .ref (g 7), .ref (g 8), .int 0, .int 0, .int 0, .int 0, .int 0, .ref (g 9), .int 0, .ref (g 10), .int 0, .int 0, .int 0, .ref (g 11), .ref (g 12), .ref (g 13)])), ((g 0), .inl (cT 0, 288, .inl (allK)))] := hD
    have hwr_3 : r_3 = if 1 ≤ x.toInt ∧ x.toInt ≤ 8 then 1 else 0 := hwr_3
    refine lv_if_ne (tgt := 49) hx hb dX9_told_43 (by decide) (fun c_4 => ?_) (fun c_4 => ?_)
    · have ic_4 := if1 hwr_3 c_4
      refine lv_aload_n hx hb dX9_told_49 rfl (lv_at hl 0 rfl) ?_
      refine va_get (D := D) (ci := 9) (v := .ref (g 0)) (C := RX9) (T := TX9) (N := 37) hx hb htg gRX9 hown hK hP 0 rfl rfl 1 (by decide) (htg _ wi_1151) (fun _ h9 => h9) rfl dX9_told_50 ?_
      refine lv_iconst (v := 0) hx hb dX9_told_53 (by decide) ?_
      refine va_iald hx hb hK hP 1 0 rfl rfl (by unfold vp_in; decide) dX9_told_54 ?_
      refine lv_is (y := 0) (by decide) ?_
      refine lv_if_ne (tgt := 61) hx hb dX9_told_55 (by decide) (fun h => absurd rfl h) (fun _ => ?_)
      refine lv_bipush (v := (-5)) hx hb dX9_told_58 (by decide) ?_
      exact x_iret hx hb hr hlk hP hD hS [] (()) rfl (by decide) (by first | rfl | decide | (exfalso; omega) | (try simp only [ti_0, ti_1, ti_2, ti_3, ti_4, ti_5, ti_6, ti_7, ti_8, ti_9, ti_10, ti_11, ti_12]); (repeat (first | rw [if_pos (by first | assumption | omega | trivial)] | rw [if_neg (by first | assumption | omega)]))) (by decide) (by decide) dX9_told_60
    · have ic_4 := if0 hwr_3 c_4
      refine lv_bipush (v := (-3)) hx hb dX9_told_46 (by decide) ?_
      exact x_iret hx hb hr hlk hP hD hS [] (()) rfl (by decide) (by first | rfl | decide | (exfalso; omega) | (try simp only [ti_0, ti_1, ti_2, ti_3, ti_4, ti_5, ti_6, ti_7, ti_8, ti_9, ti_10, ti_11, ti_12]); (repeat (first | rw [if_pos (by first | assumption | omega | trivial)] | rw [if_neg (by first | assumption | omega)]))) (by decide) (by decide) dX9_told_48
  · have ic_1 : ¬ y.toInt = 0 := ine c_1 (rfl) (by decide)
    refine lv_iload hx hb dX9_told_5 (lv_at hl 5 rfl) ?_
    refine lv_if_eq (tgt := 16) hx hb dX9_told_7 (by decide) (fun h => absurd h (by decide)) (fun _ => ?_)
    refine lv_iload hx hb dX9_told_10 (lv_at hl 4 rfl) ?_
    refine lv_iconst (v := 1) hx hb dX9_told_12 (by decide) ?_
    refine lv_icmp_eq (tgt := 34) hx hb dX9_told_13 (by decide) (fun c_5 => ?_) (fun c_5 => ?_)
    · have ic_5 : y.toInt = 1 := ieq c_5 (rfl) (by decide)
      refine lv_iload_n hx hb dX9_told_34 rfl (lv_at hl 3 rfl) ?_
      refine lv_i2l (v := x.toInt64) hx hb dX9_told_35 rfl ?_
      refine lv_lconst (v := 1) hx hb dX9_told_36 (by decide) ?_
      refine lv_ldc2 (v := 8) hx hb hown (htg _ wi_1477) dX9_told_37 ?_
      refine xk_i (wr := [(h0, .inr (9, [.int 0, .ref (g 0), .ref (g 1), .ref (g 2), .ref (g 3), .int 0, .int 0, .int 0, .int 0, .int 0, .int 0, .int 0, .int 0, .int 0, .int (-1), .ref (g 4), .ref (g 5), .int 0, .int 0, .int 0, .ref (g 6), .ref (g 7), .ref (g 8), .int 0, .int 0, .int 0, .int 0, .int 0, .ref (g 9), .int 0, .ref (g 10), .int 0, .int 0, .int 0, .ref (g 11), .ref (g 12), .ref (g 13)])), ((g 0), .inl (cT 0, 288, .inl (allK)))]) (xr_S (n := 3) (As := [.long x.toInt64, .long 1, .long 8]) (rest := []) ⟨hx, hb, hml, hown, htg⟩ hK hN hP hD [] rfl (by decide) (c_within l D cT _ (x.toInt64) (1) (8) (x.toInt) (1) (8) (i2l_i _) (by decide) (by decide)) wi_1270 wi_1271 wi_131 wi_1272 ⟨rfl, by decide +kernel⟩ ⟨Nat.le_of_ble_eq_true rfl, Nat.le_of_ble_eq_true rfl⟩ rfl hl.1 rfl (Nat.le_of_ble_eq_true rfl) dX9_told_40 ⟨Nat.le_of_ble_eq_true rfl, Nat.le_of_ble_eq_true rfl⟩) hP hD hS hA [] [0, 1] rfl rfl (by decide) (by decide) (fun r_7 u_6 H locs hwr_7 hP hD hS => ?_)
      have hP : va_P D classes [(h0, .inr (9, [.int 0, .ref (g 0), .ref (g 1), .ref (g 2), .ref (g 3), .int 0, .int 0, .int 0, .int 0, .int 0, .int 0, .int 0, .int 0, .int 0, .int (-1), .ref (g 4), .ref (g 5), .int 0, .int 0, .int 0, .ref (g 6), .ref (g 7), .ref (g 8), .int 0, .int 0, .int 0, .int 0, .int 0, .ref (g 9), .int 0, .ref (g 10), .int 0, .int 0, .int 0, .ref (g 11), .ref (g 12), .ref (g 13)])), ((g 0), .inl (cT 0, 288, .inl (allK)))] _ := hP
      have hD : va_D A [(h0, .inr (9, [.int 0, .ref (g 0), .ref (g 1), .ref (g 2), .ref (g 3), .int 0, .int 0, .int 0, .int 0, .int 0, .int 0, .int 0, .int 0, .int 0, .int (-1), .ref (g 4), .ref (g 5), .int 0, .int 0, .int 0, .ref (g 6), .ref (g 7), .ref (g 8), .int 0, .int 0, .int 0, .int 0, .int 0, .ref (g 9), .int 0, .ref (g 10), .int 0, .int 0, .int 0, .ref (g 11), .ref (g 12), .ref (g 13)])), ((g 0), .inl (cT 0, 288, .inl (allK)))] := hD
      have hwr_7 : r_7 = if 1 ≤ x.toInt ∧ x.toInt ≤ 8 then 1 else 0 := hwr_7
      refine lv_if_ne (tgt := 49) hx hb dX9_told_43 (by decide) (fun c_8 => ?_) (fun c_8 => ?_)
      · have ic_8 := if1 hwr_7 c_8
        refine lv_aload_n hx hb dX9_told_49 rfl (lv_at hl 0 rfl) ?_
        refine va_get (D := D) (ci := 9) (v := .ref (g 0)) (C := RX9) (T := TX9) (N := 37) hx hb htg gRX9 hown hK hP 0 rfl rfl 1 (by decide) (htg _ wi_1151) (fun _ h9 => h9) rfl dX9_told_50 ?_
        refine lv_iconst (v := 0) hx hb dX9_told_53 (by decide) ?_
        refine va_iald hx hb hK hP 1 0 rfl rfl (by unfold vp_in; decide) dX9_told_54 ?_
        refine lv_is (y := 0) (by decide) ?_
        refine lv_if_ne (tgt := 61) hx hb dX9_told_55 (by decide) (fun h => absurd rfl h) (fun _ => ?_)
        refine lv_bipush (v := (-5)) hx hb dX9_told_58 (by decide) ?_
        exact x_iret hx hb hr hlk hP hD hS [] (()) rfl (by decide) (by first | rfl | decide | (exfalso; omega) | (try simp only [ti_0, ti_1, ti_2, ti_3, ti_4, ti_5, ti_6, ti_7, ti_8, ti_9, ti_10, ti_11, ti_12]); (repeat (first | rw [if_pos (by first | assumption | omega | trivial)] | rw [if_neg (by first | assumption | omega)]))) (by decide) (by decide) dX9_told_60
      · have ic_8 := if0 hwr_7 c_8
        refine lv_bipush (v := (-3)) hx hb dX9_told_46 (by decide) ?_
        exact x_iret hx hb hr hlk hP hD hS [] (()) rfl (by decide) (by first | rfl | decide | (exfalso; omega) | (try simp only [ti_0, ti_1, ti_2, ti_3, ti_4, ti_5, ti_6, ti_7, ti_8, ti_9, ti_10, ti_11, ti_12]); (repeat (first | rw [if_pos (by first | assumption | omega | trivial)] | rw [if_neg (by first | assumption | omega)]))) (by decide) (by decide) dX9_told_48
    · have ic_5 : ¬ y.toInt = 1 := ine c_5 (rfl) (by decide)
      refine lv_iload hx hb dX9_told_16 (lv_at hl 4 rfl) ?_
      refine lv_i2l (v := y.toInt64) hx hb dX9_told_18 rfl ?_
      refine lv_ldc2 (v := 10) hx hb hown (htg _ wi_1475) dX9_told_19 ?_
      refine lv_ldc2 (v := 17) hx hb hown (htg _ wi_1476) dX9_told_22 ?_
      refine xk_i (wr := [(h0, .inr (9, [.int 0, .ref (g 0), .ref (g 1), .ref (g 2), .ref (g 3), .int 0, .int 0, .int 0, .int 0, .int 0, .int 0, .int 0, .int 0, .int 0, .int (-1), .ref (g 4), .ref (g 5), .int 0, .int 0, .int 0, .ref (g 6), .ref (g 7), .ref (g 8), .int 0, .int 0, .int 0, .int 0, .int 0, .ref (g 9), .int 0, .ref (g 10), .int 0, .int 0, .int 0, .ref (g 11), .ref (g 12), .ref (g 13)])), ((g 0), .inl (cT 0, 288, .inl (allK)))]) (xr_S (n := 3) (As := [.long y.toInt64, .long 10, .long 17]) (rest := []) ⟨hx, hb, hml, hown, htg⟩ hK hN hP hD [] rfl (by decide) (c_within l D cT _ (y.toInt64) (10) (17) (y.toInt) (10) (17) (i2l_i _) (by decide) (by decide)) wi_1270 wi_1271 wi_131 wi_1272 ⟨rfl, by decide +kernel⟩ ⟨Nat.le_of_ble_eq_true rfl, Nat.le_of_ble_eq_true rfl⟩ rfl hl.1 rfl (Nat.le_of_ble_eq_true rfl) dX9_told_25 ⟨Nat.le_of_ble_eq_true rfl, Nat.le_of_ble_eq_true rfl⟩) hP hD hS hA [] [0, 1] rfl rfl (by decide) (by decide) (fun r_10 u_9 H locs hwr_10 hP hD hS => ?_)
      have hP : va_P D classes [(h0, .inr (9, [.int 0, .ref (g 0), .ref (g 1), .ref (g 2), .ref (g 3), .int 0, .int 0, .int 0, .int 0, .int 0, .int 0, .int 0, .int 0, .int 0, .int (-1), .ref (g 4), .ref (g 5), .int 0, .int 0, .int 0, .ref (g 6), .ref (g 7), .ref (g 8), .int 0, .int 0, .int 0, .int 0, .int 0, .ref (g 9), .int 0, .ref (g 10), .int 0, .int 0, .int 0, .ref (g 11), .ref (g 12), .ref (g 13)])), ((g 0), .inl (cT 0, 288, .inl (allK)))] _ := hP
      have hD : va_D A [(h0, .inr (9, [.int 0, .ref (g 0), .ref (g 1), .ref (g 2), .ref (g 3), .int 0, .int 0, .int 0, .int 0, .int 0, .int 0, .int 0, .int 0, .int 0, .int (-1), .ref (g 4), .ref (g 5), .int 0, .int 0, .int 0, .ref (g 6), .ref (g 7), .ref (g 8), .int 0, .int 0, .int 0, .int 0, .int 0, .ref (g 9), .int 0, .ref (g 10), .int 0, .int 0, .int 0, .ref (g 11), .ref (g 12), .ref (g 13)])), ((g 0), .inl (cT 0, 288, .inl (allK)))] := hD
      have hwr_10 : r_10 = if 10 ≤ y.toInt ∧ y.toInt ≤ 17 then 1 else 0 := hwr_10
      refine lv_if_ne (tgt := 34) hx hb dX9_told_28 (by decide) (fun c_11 => ?_) (fun c_11 => ?_)
      · have ic_11 := if1 hwr_10 c_11
        refine lv_iload_n hx hb dX9_told_34 rfl (lv_at hl 3 rfl) ?_
        refine lv_i2l (v := x.toInt64) hx hb dX9_told_35 rfl ?_
        refine lv_lconst (v := 1) hx hb dX9_told_36 (by decide) ?_
        refine lv_ldc2 (v := 8) hx hb hown (htg _ wi_1477) dX9_told_37 ?_
        refine xk_i (wr := [(h0, .inr (9, [.int 0, .ref (g 0), .ref (g 1), .ref (g 2), .ref (g 3), .int 0, .int 0, .int 0, .int 0, .int 0, .int 0, .int 0, .int 0, .int 0, .int (-1), .ref (g 4), .ref (g 5), .int 0, .int 0, .int 0, .ref (g 6), .ref (g 7), .ref (g 8), .int 0, .int 0, .int 0, .int 0, .int 0, .ref (g 9), .int 0, .ref (g 10), .int 0, .int 0, .int 0, .ref (g 11), .ref (g 12), .ref (g 13)])), ((g 0), .inl (cT 0, 288, .inl (allK)))]) (xr_S (n := 3) (As := [.long x.toInt64, .long 1, .long 8]) (rest := []) ⟨hx, hb, hml, hown, htg⟩ hK hN hP hD [] rfl (by decide) (c_within l D cT _ (x.toInt64) (1) (8) (x.toInt) (1) (8) (i2l_i _) (by decide) (by decide)) wi_1270 wi_1271 wi_131 wi_1272 ⟨rfl, by decide +kernel⟩ ⟨Nat.le_of_ble_eq_true rfl, Nat.le_of_ble_eq_true rfl⟩ rfl hl.1 rfl (Nat.le_of_ble_eq_true rfl) dX9_told_40 ⟨Nat.le_of_ble_eq_true rfl, Nat.le_of_ble_eq_true rfl⟩) hP hD hS hA [] [0, 1] rfl rfl (by decide) (by decide) (fun r_13 u_12 H locs hwr_13 hP hD hS => ?_)
        have hP : va_P D classes [(h0, .inr (9, [.int 0, .ref (g 0), .ref (g 1), .ref (g 2), .ref (g 3), .int 0, .int 0, .int 0, .int 0, .int 0, .int 0, .int 0, .int 0, .int 0, .int (-1), .ref (g 4), .ref (g 5), .int 0, .int 0, .int 0, .ref (g 6), .ref (g 7), .ref (g 8), .int 0, .int 0, .int 0, .int 0, .int 0, .ref (g 9), .int 0, .ref (g 10), .int 0, .int 0, .int 0, .ref (g 11), .ref (g 12), .ref (g 13)])), ((g 0), .inl (cT 0, 288, .inl (allK)))] _ := hP
        have hD : va_D A [(h0, .inr (9, [.int 0, .ref (g 0), .ref (g 1), .ref (g 2), .ref (g 3), .int 0, .int 0, .int 0, .int 0, .int 0, .int 0, .int 0, .int 0, .int 0, .int (-1), .ref (g 4), .ref (g 5), .int 0, .int 0, .int 0, .ref (g 6), .ref (g 7), .ref (g 8), .int 0, .int 0, .int 0, .int 0, .int 0, .ref (g 9), .int 0, .ref (g 10), .int 0, .int 0, .int 0, .ref (g 11), .ref (g 12), .ref (g 13)])), ((g 0), .inl (cT 0, 288, .inl (allK)))] := hD
        have hwr_13 : r_13 = if 1 ≤ x.toInt ∧ x.toInt ≤ 8 then 1 else 0 := hwr_13
        refine lv_if_ne (tgt := 49) hx hb dX9_told_43 (by decide) (fun c_14 => ?_) (fun c_14 => ?_)
        · have ic_14 := if1 hwr_13 c_14
          refine lv_aload_n hx hb dX9_told_49 rfl (lv_at hl 0 rfl) ?_
          refine va_get (D := D) (ci := 9) (v := .ref (g 0)) (C := RX9) (T := TX9) (N := 37) hx hb htg gRX9 hown hK hP 0 rfl rfl 1 (by decide) (htg _ wi_1151) (fun _ h9 => h9) rfl dX9_told_50 ?_
          refine lv_iconst (v := 0) hx hb dX9_told_53 (by decide) ?_
          refine va_iald hx hb hK hP 1 0 rfl rfl (by unfold vp_in; decide) dX9_told_54 ?_
          refine lv_is (y := 0) (by decide) ?_
          refine lv_if_ne (tgt := 61) hx hb dX9_told_55 (by decide) (fun h => absurd rfl h) (fun _ => ?_)
          refine lv_bipush (v := (-5)) hx hb dX9_told_58 (by decide) ?_
          exact x_iret hx hb hr hlk hP hD hS [] (()) rfl (by decide) (by first | rfl | decide | (exfalso; omega) | (try simp only [ti_0, ti_1, ti_2, ti_3, ti_4, ti_5, ti_6, ti_7, ti_8, ti_9, ti_10, ti_11, ti_12]); (repeat (first | rw [if_pos (by first | assumption | omega | trivial)] | rw [if_neg (by first | assumption | omega)]))) (by decide) (by decide) dX9_told_60
        · have ic_14 := if0 hwr_13 c_14
          refine lv_bipush (v := (-3)) hx hb dX9_told_46 (by decide) ?_
          exact x_iret hx hb hr hlk hP hD hS [] (()) rfl (by decide) (by first | rfl | decide | (exfalso; omega) | (try simp only [ti_0, ti_1, ti_2, ti_3, ti_4, ti_5, ti_6, ti_7, ti_8, ti_9, ti_10, ti_11, ti_12]); (repeat (first | rw [if_pos (by first | assumption | omega | trivial)] | rw [if_neg (by first | assumption | omega)]))) (by decide) (by decide) dX9_told_48
      · have ic_11 := if0 hwr_10 c_11
        refine lv_bipush (v := (-2)) hx hb dX9_told_31 (by decide) ?_
        exact x_iret hx hb hr hlk hP hD hS [] (()) rfl (by decide) (by first | rfl | decide | (exfalso; omega) | (try simp only [ti_0, ti_1, ti_2, ti_3, ti_4, ti_5, ti_6, ti_7, ti_8, ti_9, ti_10, ti_11, ti_12]); (repeat (first | rw [if_pos (by first | assumption | omega | trivial)] | rw [if_neg (by first | assumption | omega)]))) (by decide) (by decide) dX9_told_33
set_option maxHeartbeats 4000000 in
set_option maxRecDepth 100000 in
theorem m_laysStubble (l : Launch) (D : va_G) (cT : Nat → ClassId) (sz : Nat) (h0 : Nat) (g : Nat → Nat) (x : Int32) (y : Int32) : Met l yX9_laysStubble (wsc yX9_laysStubble cX9_laysStubble 3 (some .int)) { frames := 3, cells := 0, slots := 0, locals := 125 } (va_Pc [.ref h0, .int x, .int y] (PX D cT sz [(h0, .inr (9, [.int 0, .ref (g 0), .ref (g 1), .ref (g 2), .ref (g 3), .int 0, .int 0, .int 0, .int 0, .int 0, .int 0, .int 0, .int 0, .int 0, .int (-1), .ref (g 4), .ref (g 5), .int 0, .int 0, .int 0, .ref (g 6), .ref (g 7), .ref (g 8), .int 0, .int 0, .int 0, .int 0, .int 0, .ref (g 9), .int 0, .ref (g 10), .int 0, .int 0, .int 0, .ref (g 11), .ref (g 12), .ref (g 13)])), ((g 11), .inl (cT 0, 4, .inl (rsK)))])) (va_Qi (fun (r : Int32) (u : Unit) => r = if 0 ≤ x.toInt ∧ x.toInt < 4 then -6 else -2) (fun u t => RW D (va_A [(h0, .inr (9, [.int 0, .ref (g 0), .ref (g 1), .ref (g 2), .ref (g 3), .int 0, .int 0, .int 0, .int 0, .int 0, .int 0, .int 0, .int 0, .int 0, .int (-1), .ref (g 4), .ref (g 5), .int 0, .int 0, .int 0, .ref (g 6), .ref (g 7), .ref (g 8), .int 0, .int 0, .int 0, .int 0, .int 0, .ref (g 9), .int 0, .ref (g 10), .int 0, .int 0, .int 0, .ref (g 11), .ref (g 12), .ref (g 13)])), ((g 11), .inl (cT 0, 4, .inl (rsK)))] sz) ((fun _ : Unit => []) u) t) (va_A [(h0, .inr (9, [.int 0, .ref (g 0), .ref (g 1), .ref (g 2), .ref (g 3), .int 0, .int 0, .int 0, .int 0, .int 0, .int 0, .int 0, .int 0, .int 0, .int (-1), .ref (g 4), .ref (g 5), .int 0, .int 0, .int 0, .ref (g 6), .ref (g 7), .ref (g 8), .int 0, .int 0, .int 0, .int 0, .int 0, .ref (g 9), .int 0, .ref (g 10), .int 0, .int 0, .int 0, .ref (g 11), .ref (g 12), .ref (g 13)])), ((g 11), .inl (cT 0, 4, .inl (rsK)))] sz)) 0 0 (va_A [(h0, .inr (9, [.int 0, .ref (g 0), .ref (g 1), .ref (g 2), .ref (g 3), .int 0, .int 0, .int 0, .int 0, .int 0, .int 0, .int 0, .int 0, .int 0, .int (-1), .ref (g 4), .ref (g 5), .int 0, .int 0, .int 0, .ref (g 6), .ref (g 7), .ref (g 8), .int 0, .int 0, .int 0, .int 0, .int 0, .ref (g 9), .int 0, .ref (g 10), .int 0, .int 0, .int 0, .ref (g 11), .ref (g 12), .ref (g 13)])), ((g 11), .inl (cT 0, 4, .inl (rsK)))] sz) := by
  refine m_of (y := yX9_laysStubble) (cc := cX9_laysStubble) (nL := 3) (ret := (some .int)) (D := D) (cT := cT) (av := [.ref h0, .int x, .int y]) (wi := [(h0, .inr (9, [.int 0, .ref (g 0), .ref (g 1), .ref (g 2), .ref (g 3), .int 0, .int 0, .int 0, .int 0, .int 0, .int 0, .int 0, .int 0, .int 0, .int (-1), .ref (g 4), .ref (g 5), .int 0, .int 0, .int 0, .ref (g 6), .ref (g 7), .ref (g 8), .int 0, .int 0, .int 0, .int 0, .int 0, .ref (g 9), .int 0, .ref (g 10), .int 0, .int 0, .int 0, .ref (g 11), .ref (g 12), .ref (g 13)])), ((g 11), .inl (cT 0, 4, .inl (rsK)))]) (fun A => va_Qi (fun (r : Int32) (u : Unit) => r = if 0 ≤ x.toInt ∧ x.toInt < 4 then -6 else -2) (fun u t => RW D A ((fun _ : Unit => []) u) t) A) (by decide) (Nat.le_of_ble_eq_true rfl) ?_
  intro p e s m below meth c A hx hb hml hown htg hK hN hr hlk hnm hsz hP hD hS hA ls hl
  have hown : s.vm.findClass RX9 = some m.cls := hown
  have hl : lv_has ls 3 [(0, .ref h0), (1, .int x), (2, .int y)] := hl
  refine lv_iload_n hx hb dX9_laysStubble_0 rfl (lv_at hl 1 rfl) ?_
  refine lv_i2l (v := x.toInt64) hx hb dX9_laysStubble_1 rfl ?_
  refine lv_lconst (v := 0) hx hb dX9_laysStubble_2 (by decide) ?_
  refine lv_ldc2 (v := 3) hx hb hown (htg _ wi_1366) dX9_laysStubble_3 ?_
  refine xk_i (wr := [(h0, .inr (9, [.int 0, .ref (g 0), .ref (g 1), .ref (g 2), .ref (g 3), .int 0, .int 0, .int 0, .int 0, .int 0, .int 0, .int 0, .int 0, .int 0, .int (-1), .ref (g 4), .ref (g 5), .int 0, .int 0, .int 0, .ref (g 6), .ref (g 7), .ref (g 8), .int 0, .int 0, .int 0, .int 0, .int 0, .ref (g 9), .int 0, .ref (g 10), .int 0, .int 0, .int 0, .ref (g 11), .ref (g 12), .ref (g 13)])), ((g 11), .inl (cT 0, 4, .inl (rsK)))]) (xr_S (n := 3) (As := [.long x.toInt64, .long 0, .long 3]) (rest := []) ⟨hx, hb, hml, hown, htg⟩ hK hN hP hD [] rfl (by decide) (c_within l D cT _ (x.toInt64) (0) (3) (x.toInt) (0) (3) (i2l_i _) (by decide) (by decide)) wi_1270 wi_1271 wi_131 wi_1272 ⟨rfl, by decide +kernel⟩ ⟨Nat.le_of_ble_eq_true rfl, Nat.le_of_ble_eq_true rfl⟩ rfl hl.1 rfl (Nat.le_of_ble_eq_true rfl) dX9_laysStubble_6 ⟨Nat.le_of_ble_eq_true rfl, Nat.le_of_ble_eq_true rfl⟩) hP hD hS hA [] [0, 1] rfl rfl (by decide) (by decide) (fun r_2 u_1 H locs hwr_2 hP hD hS => ?_)
  have hP : va_P D classes [(h0, .inr (9, [.int 0, .ref (g 0), .ref (g 1), .ref (g 2), .ref (g 3), .int 0, .int 0, .int 0, .int 0, .int 0, .int 0, .int 0, .int 0, .int 0, .int (-1), .ref (g 4), .ref (g 5), .int 0, .int 0, .int 0, .ref (g 6), .ref (g 7), .ref (g 8), .int 0, .int 0, .int 0, .int 0, .int 0, .ref (g 9), .int 0, .ref (g 10), .int 0, .int 0, .int 0, .ref (g 11), .ref (g 12), .ref (g 13)])), ((g 11), .inl (cT 0, 4, .inl (rsK)))] _ := hP
  have hD : va_D A [(h0, .inr (9, [.int 0, .ref (g 0), .ref (g 1), .ref (g 2), .ref (g 3), .int 0, .int 0, .int 0, .int 0, .int 0, .int 0, .int 0, .int 0, .int 0, .int (-1), .ref (g 4), .ref (g 5), .int 0, .int 0, .int 0, .ref (g 6), .ref (g 7), .ref (g 8), .int 0, .int 0, .int 0, .int 0, .int 0, .ref (g 9), .int 0, .ref (g 10), .int 0, .int 0, .int 0, .ref (g 11), .ref (g 12), .ref (g 13)])), ((g 11), .inl (cT 0, 4, .inl (rsK)))] := hD
  have hwr_2 : r_2 = if 0 ≤ x.toInt ∧ x.toInt ≤ 3 then 1 else 0 := hwr_2
  refine lv_if_ne (tgt := 15) hx hb dX9_laysStubble_9 (by decide) (fun c_3 => ?_) (fun c_3 => ?_)
  · have ic_3 := if1 hwr_2 c_3
    refine lv_aload_n hx hb dX9_laysStubble_15 rfl (lv_at hl 0 rfl) ?_
    refine va_get (D := D) (ci := 9) (v := .ref (g 11)) (C := RX9) (T := TX9) (N := 37) hx hb htg gRX9 hown hK hP 0 rfl rfl 34 (by decide) (htg _ wi_1184) (fun _ h9 => h9) rfl dX9_laysStubble_16 ?_
    refine lv_iload_n hx hb dX9_laysStubble_19 rfl (lv_at hl 1 rfl) ?_
    have c_4 : x = 0 ∨ x = 1 ∨ x = 2 ∨ x = 3 := by
      rcases (show x.toInt = 0 ∨ x.toInt = 1 ∨ x.toInt = 2 ∨ x.toInt = 3 from by omega) with h | h | h | h
      · exact Or.inl (i32_is (h.trans (by decide)))
      · exact Or.inr (Or.inl (i32_is (h.trans (by decide))))
      · exact Or.inr (Or.inr (Or.inl (i32_is (h.trans (by decide)))))
      · exact Or.inr (Or.inr (Or.inr (i32_is (h.trans (by decide)))))
    rcases c_4 with rfl | rfl | rfl | rfl
    · refine va_iald hx hb hK hP 1 0 rfl rfl (by unfold vp_in; decide) dX9_laysStubble_20 ?_
      refine lv_is (y := (-1)) (by decide) ?_
      refine lv_iconst (v := (-1)) hx hb dX9_laysStubble_21 (by decide) ?_
      refine lv_icmp_ne (tgt := 28) hx hb dX9_laysStubble_22 (by decide) (fun h => absurd rfl h) (fun _ => ?_)
      refine lv_bipush (v := (-6)) hx hb dX9_laysStubble_25 (by decide) ?_
      exact x_iret hx hb hr hlk hP hD hS [] (()) rfl (by decide) (by first | rfl | decide | (exfalso; omega) | (try simp only [ti_0, ti_1, ti_2, ti_3, ti_4, ti_5, ti_6, ti_7, ti_8, ti_9, ti_10, ti_11, ti_12]); (repeat (first | rw [if_pos (by first | assumption | omega | trivial)] | rw [if_neg (by first | assumption | omega)]))) (by decide) (by decide) dX9_laysStubble_27
    · refine va_iald hx hb hK hP 1 0 rfl rfl (by unfold vp_in; decide) dX9_laysStubble_20 ?_
      refine lv_is (y := (-1)) (by decide) ?_
      refine lv_iconst (v := (-1)) hx hb dX9_laysStubble_21 (by decide) ?_
      refine lv_icmp_ne (tgt := 28) hx hb dX9_laysStubble_22 (by decide) (fun h => absurd rfl h) (fun _ => ?_)
      refine lv_bipush (v := (-6)) hx hb dX9_laysStubble_25 (by decide) ?_
      exact x_iret hx hb hr hlk hP hD hS [] (()) rfl (by decide) (by first | rfl | decide | (exfalso; omega) | (try simp only [ti_0, ti_1, ti_2, ti_3, ti_4, ti_5, ti_6, ti_7, ti_8, ti_9, ti_10, ti_11, ti_12]); (repeat (first | rw [if_pos (by first | assumption | omega | trivial)] | rw [if_neg (by first | assumption | omega)]))) (by decide) (by decide) dX9_laysStubble_27
    · refine va_iald hx hb hK hP 1 0 rfl rfl (by unfold vp_in; decide) dX9_laysStubble_20 ?_
      refine lv_is (y := (-1)) (by decide) ?_
      refine lv_iconst (v := (-1)) hx hb dX9_laysStubble_21 (by decide) ?_
      refine lv_icmp_ne (tgt := 28) hx hb dX9_laysStubble_22 (by decide) (fun h => absurd rfl h) (fun _ => ?_)
      refine lv_bipush (v := (-6)) hx hb dX9_laysStubble_25 (by decide) ?_
      exact x_iret hx hb hr hlk hP hD hS [] (()) rfl (by decide) (by first | rfl | decide | (exfalso; omega) | (try simp only [ti_0, ti_1, ti_2, ti_3, ti_4, ti_5, ti_6, ti_7, ti_8, ti_9, ti_10, ti_11, ti_12]); (repeat (first | rw [if_pos (by first | assumption | omega | trivial)] | rw [if_neg (by first | assumption | omega)]))) (by decide) (by decide) dX9_laysStubble_27
    · refine va_iald hx hb hK hP 1 0 rfl rfl (by unfold vp_in; decide) dX9_laysStubble_20 ?_
      refine lv_is (y := (-1)) (by decide) ?_
      refine lv_iconst (v := (-1)) hx hb dX9_laysStubble_21 (by decide) ?_
      refine lv_icmp_ne (tgt := 28) hx hb dX9_laysStubble_22 (by decide) (fun h => absurd rfl h) (fun _ => ?_)
      refine lv_bipush (v := (-6)) hx hb dX9_laysStubble_25 (by decide) ?_
      exact x_iret hx hb hr hlk hP hD hS [] (()) rfl (by decide) (by first | rfl | decide | (exfalso; omega) | (try simp only [ti_0, ti_1, ti_2, ti_3, ti_4, ti_5, ti_6, ti_7, ti_8, ti_9, ti_10, ti_11, ti_12]); (repeat (first | rw [if_pos (by first | assumption | omega | trivial)] | rw [if_neg (by first | assumption | omega)]))) (by decide) (by decide) dX9_laysStubble_27
  · have ic_3 := if0 hwr_2 c_3
    refine lv_bipush (v := (-2)) hx hb dX9_laysStubble_12 (by decide) ?_
    exact x_iret hx hb hr hlk hP hD hS [] (()) rfl (by decide) (by first | rfl | decide | (exfalso; omega) | (try simp only [ti_0, ti_1, ti_2, ti_3, ti_4, ti_5, ti_6, ti_7, ti_8, ti_9, ti_10, ti_11, ti_12]); (repeat (first | rw [if_pos (by first | assumption | omega | trivial)] | rw [if_neg (by first | assumption | omega)]))) (by decide) (by decide) dX9_laysStubble_14
set_option maxHeartbeats 4000000 in
set_option maxRecDepth 100000 in
theorem m_haltsFor (l : Launch) (D : va_G) (cT : Nat → ClassId) (sz : Nat) (h0 : Nat) (g : Nat → Nat) : Met l yX9_haltsFor (wsc yX9_haltsFor cX9_haltsFor 6 (some .int)) { frames := 2, cells := 0, slots := 0, locals := 100 } (va_Pc [.ref h0, .int 0] (PX D cT sz [(h0, .inr (9, [.int 0, .ref (g 0), .ref (g 1), .ref (g 2), .ref (g 3), .int 0, .int 0, .int 0, .int 0, .int 0, .int 0, .int 0, .int 0, .int 0, .int (-1), .ref (g 4), .ref (g 5), .int 0, .int 0, .int 0, .ref (g 6), .ref (g 7), .ref (g 8), .int 0, .int 0, .int 0, .int 0, .int 0, .ref (g 9), .int 0, .ref (g 10), .int 0, .int 0, .int 0, .ref (g 11), .ref (g 12), .ref (g 13)])), ((g 0), .inl (cT 0, 288, .inl (allK)))])) (va_Qi (fun (r : Int32) (u : Unit) => r = 0) (fun u t => RW D (va_A [(h0, .inr (9, [.int 0, .ref (g 0), .ref (g 1), .ref (g 2), .ref (g 3), .int 0, .int 0, .int 0, .int 0, .int 0, .int 0, .int 0, .int 0, .int 0, .int (-1), .ref (g 4), .ref (g 5), .int 0, .int 0, .int 0, .ref (g 6), .ref (g 7), .ref (g 8), .int 0, .int 0, .int 0, .int 0, .int 0, .ref (g 9), .int 0, .ref (g 10), .int 0, .int 0, .int 0, .ref (g 11), .ref (g 12), .ref (g 13)])), ((g 0), .inl (cT 0, 288, .inl (allK)))] sz) ((fun _ : Unit => []) u) t) (va_A [(h0, .inr (9, [.int 0, .ref (g 0), .ref (g 1), .ref (g 2), .ref (g 3), .int 0, .int 0, .int 0, .int 0, .int 0, .int 0, .int 0, .int 0, .int 0, .int (-1), .ref (g 4), .ref (g 5), .int 0, .int 0, .int 0, .ref (g 6), .ref (g 7), .ref (g 8), .int 0, .int 0, .int 0, .int 0, .int 0, .ref (g 9), .int 0, .ref (g 10), .int 0, .int 0, .int 0, .ref (g 11), .ref (g 12), .ref (g 13)])), ((g 0), .inl (cT 0, 288, .inl (allK)))] sz)) 0 0 (va_A [(h0, .inr (9, [.int 0, .ref (g 0), .ref (g 1), .ref (g 2), .ref (g 3), .int 0, .int 0, .int 0, .int 0, .int 0, .int 0, .int 0, .int 0, .int 0, .int (-1), .ref (g 4), .ref (g 5), .int 0, .int 0, .int 0, .ref (g 6), .ref (g 7), .ref (g 8), .int 0, .int 0, .int 0, .int 0, .int 0, .ref (g 9), .int 0, .ref (g 10), .int 0, .int 0, .int 0, .ref (g 11), .ref (g 12), .ref (g 13)])), ((g 0), .inl (cT 0, 288, .inl (allK)))] sz) := by
  refine m_of (y := yX9_haltsFor) (cc := cX9_haltsFor) (nL := 6) (ret := (some .int)) (D := D) (cT := cT) (av := [.ref h0, .int 0]) (wi := [(h0, .inr (9, [.int 0, .ref (g 0), .ref (g 1), .ref (g 2), .ref (g 3), .int 0, .int 0, .int 0, .int 0, .int 0, .int 0, .int 0, .int 0, .int 0, .int (-1), .ref (g 4), .ref (g 5), .int 0, .int 0, .int 0, .ref (g 6), .ref (g 7), .ref (g 8), .int 0, .int 0, .int 0, .int 0, .int 0, .ref (g 9), .int 0, .ref (g 10), .int 0, .int 0, .int 0, .ref (g 11), .ref (g 12), .ref (g 13)])), ((g 0), .inl (cT 0, 288, .inl (allK)))]) (fun A => va_Qi (fun (r : Int32) (u : Unit) => r = 0) (fun u t => RW D A ((fun _ : Unit => []) u) t) A) (by decide) (Nat.le_of_ble_eq_true rfl) ?_
  intro p e s m below meth c A hx hb hml hown htg hK hN hr hlk hnm hsz hP hD hS hA ls hl
  have hown : s.vm.findClass RX9 = some m.cls := hown
  have hl : lv_has ls 6 [(0, .ref h0), (1, .int 0)] := hl
  refine lv_iconst (v := 0) hx hb dX9_haltsFor_0 (by decide) ?_
  refine lv_istore_n (lv' := [(2, .int 0), (0, .ref h0), (1, .int 0)]) hx hb dX9_haltsFor_1 rfl hl (by decide) rfl (fun ls hl => ?_)
  refine lv_iload_n hx hb dX9_haltsFor_2 rfl (lv_at hl 0 rfl) ?_
  refine lv_aload_n hx hb dX9_haltsFor_3 rfl (lv_at hl 1 rfl) ?_
  refine va_get (D := D) (ci := 9) (v := .ref (g 0)) (C := RX9) (T := TX9) (N := 37) hx hb htg gRX9 hown hK hP 0 rfl rfl 1 (by decide) (htg _ wi_1151) (fun _ h9 => h9) rfl dX9_haltsFor_4 ?_
  refine lv_iconst (v := 0) hx hb dX9_haltsFor_7 (by decide) ?_
  refine va_iald hx hb hK hP 1 0 rfl rfl (by unfold vp_in; decide) dX9_haltsFor_8 ?_
  refine lv_is (y := 0) (by decide) ?_
  refine lv_icmp_ge (tgt := 35) hx hb dX9_haltsFor_9 (by decide) (fun _ => ?_) (fun h => absurd (by decide) h)
  refine lv_iconst (v := (-1)) hx hb dX9_haltsFor_35 (by decide) ?_
  refine lv_istore_n (lv' := [(2, .int (-1)), (0, .ref h0), (1, .int 0)]) hx hb dX9_haltsFor_36 rfl hl (by decide) rfl (fun ls hl => ?_)
  refine lv_iconst (v := 0) hx hb dX9_haltsFor_37 (by decide) ?_
  refine lv_istore_n (lv' := [(3, .int 0), (2, .int (-1)), (0, .ref h0), (1, .int 0)]) hx hb dX9_haltsFor_38 rfl hl (by decide) rfl (fun ls hl => ?_)
  refine lv_iload_n hx hb dX9_haltsFor_39 rfl (lv_at hl 0 rfl) ?_
  refine lv_iconst (v := 1) hx hb dX9_haltsFor_40 (by decide) ?_
  refine lv_aload_n hx hb dX9_haltsFor_41 rfl (lv_at hl 2 rfl) ?_
  refine va_get (D := D) (ci := 9) (v := .ref (g 0)) (C := RX9) (T := TX9) (N := 37) hx hb htg gRX9 hown hK hP 0 rfl rfl 1 (by decide) (htg _ wi_1151) (fun _ h9 => h9) rfl dX9_haltsFor_42 ?_
  refine lv_iconst (v := 0) hx hb dX9_haltsFor_45 (by decide) ?_
  refine va_iald hx hb hK hP 1 0 rfl rfl (by unfold vp_in; decide) dX9_haltsFor_46 ?_
  refine lv_is (y := 0) (by decide) ?_
  refine lv_ishl hx hb dX9_haltsFor_47 ?_
  refine lv_is (y := 1) (by decide) ?_
  refine lv_icmp_ge (tgt := 136) hx hb dX9_haltsFor_48 (by decide) (fun h => absurd h (by decide)) (fun _ => ?_)
  refine lv_iload_n hx hb dX9_haltsFor_51 rfl (lv_at hl 1 rfl) ?_
  refine lv_iconst (v := (-1)) hx hb dX9_haltsFor_52 (by decide) ?_
  refine lv_icmp_eq (tgt := 70) hx hb dX9_haltsFor_53 (by decide) (fun _ => ?_) (fun h => absurd (by decide) h)
  refine lv_iconst (v := 0) hx hb dX9_haltsFor_70 (by decide) ?_
  refine lv_istore (lv' := [(4, .int 0), (3, .int 0), (2, .int (-1)), (0, .ref h0), (1, .int 0)]) hx hb dX9_haltsFor_71 hl (by decide) rfl (fun ls hl => ?_)
  refine lv_iconst (v := 0) hx hb dX9_haltsFor_73 (by decide) ?_
  refine lv_istore (lv' := [(5, .int 0), (4, .int 0), (3, .int 0), (2, .int (-1)), (0, .ref h0), (1, .int 0)]) hx hb dX9_haltsFor_74 hl (by decide) rfl (fun ls hl => ?_)
  refine lv_iload hx hb dX9_haltsFor_76 (lv_at hl 0 rfl) ?_
  refine lv_aload_n hx hb dX9_haltsFor_78 rfl (lv_at hl 4 rfl) ?_
  refine va_get (D := D) (ci := 9) (v := .ref (g 0)) (C := RX9) (T := TX9) (N := 37) hx hb htg gRX9 hown hK hP 0 rfl rfl 1 (by decide) (htg _ wi_1151) (fun _ h9 => h9) rfl dX9_haltsFor_79 ?_
  refine lv_iconst (v := 0) hx hb dX9_haltsFor_82 (by decide) ?_
  refine va_iald hx hb hK hP 1 0 rfl rfl (by unfold vp_in; decide) dX9_haltsFor_83 ?_
  refine lv_is (y := 0) (by decide) ?_
  refine lv_icmp_ge (tgt := 119) hx hb dX9_haltsFor_84 (by decide) (fun _ => ?_) (fun h => absurd (by decide) h)
  refine lv_iload_n hx hb dX9_haltsFor_119 rfl (lv_at hl 5 rfl) ?_
  refine lv_iload hx hb dX9_haltsFor_120 (lv_at hl 1 rfl) ?_
  refine lv_iconst (v := (-1)) hx hb dX9_haltsFor_122 (by decide) ?_
  refine lv_ixor hx hb dX9_haltsFor_123 ?_
  refine lv_is (y := (-1)) (by decide) ?_
  refine lv_iand hx hb dX9_haltsFor_124 ?_
  refine lv_is (y := 0) (by decide) ?_
  refine lv_if_ne (tgt := 130) hx hb dX9_haltsFor_125 (by decide) (fun h => absurd rfl h) (fun _ => ?_)
  refine lv_iload_n hx hb dX9_haltsFor_128 rfl (lv_at hl 2 rfl) ?_
  refine lv_istore_n (lv' := [(2, .int 0), (5, .int 0), (4, .int 0), (3, .int 0), (0, .ref h0), (1, .int 0)]) hx hb dX9_haltsFor_129 rfl hl (by decide) rfl (fun ls hl => ?_)
  refine lv_iinc (v := 1) (lv' := [(3, .int 1), (2, .int 0), (5, .int 0), (4, .int 0), (0, .ref h0), (1, .int 0)]) hx hb dX9_haltsFor_130 hl (k := 3) rfl (by decide) (by decide) rfl (fun ls hl => ?_)
  refine lv_goto (tgt := 39) hx hb dX9_haltsFor_133 (by decide) ?_
  refine lv_iload_n hx hb dX9_haltsFor_39 rfl (lv_at hl 0 rfl) ?_
  refine lv_iconst (v := 1) hx hb dX9_haltsFor_40 (by decide) ?_
  refine lv_aload_n hx hb dX9_haltsFor_41 rfl (lv_at hl 4 rfl) ?_
  refine va_get (D := D) (ci := 9) (v := .ref (g 0)) (C := RX9) (T := TX9) (N := 37) hx hb htg gRX9 hown hK hP 0 rfl rfl 1 (by decide) (htg _ wi_1151) (fun _ h9 => h9) rfl dX9_haltsFor_42 ?_
  refine lv_iconst (v := 0) hx hb dX9_haltsFor_45 (by decide) ?_
  refine va_iald hx hb hK hP 1 0 rfl rfl (by unfold vp_in; decide) dX9_haltsFor_46 ?_
  refine lv_is (y := 0) (by decide) ?_
  refine lv_ishl hx hb dX9_haltsFor_47 ?_
  refine lv_is (y := 1) (by decide) ?_
  refine lv_icmp_ge (tgt := 136) hx hb dX9_haltsFor_48 (by decide) (fun _ => ?_) (fun h => absurd (by decide) h)
  refine lv_iload_n hx hb dX9_haltsFor_136 rfl (lv_at hl 1 rfl) ?_
  exact x_iret hx hb hr hlk hP hD hS [] (()) rfl (by decide) (by first | rfl | decide | (exfalso; omega) | (try simp only [ti_0, ti_1, ti_2, ti_3, ti_4, ti_5, ti_6, ti_7, ti_8, ti_9, ti_10, ti_11, ti_12]); (repeat (first | rw [if_pos (by first | assumption | omega | trivial)] | rw [if_neg (by first | assumption | omega)]))) (by decide) (by decide) dX9_haltsFor_137
set_option maxHeartbeats 4000000 in
set_option maxRecDepth 100000 in
theorem m_see (l : Launch) (D : va_G) (cT : Nat → ClassId) (sz : Nat) (h0 : Nat) (g : Nat → Nat) : Met l yX9_see (wsc yX9_see cX9_see 2 (some .int)) { frames := 2, cells := 0, slots := 0, locals := 100 } (va_Pc [.ref h0, .int 0] (PX D cT sz [(h0, .inr (9, [.int 0, .ref (g 0), .ref (g 1), .ref (g 2), .ref (g 3), .int 0, .int 0, .int 0, .int 0, .int 0, .int 0, .int 0, .int 0, .int 0, .int (-1), .ref (g 4), .ref (g 5), .int 0, .int 0, .int 0, .ref (g 6), .ref (g 7), .ref (g 8), .int 0, .int 0, .int 0, .int 0, .int 0, .ref (g 9), .int 0, .ref (g 10), .int 0, .int 0, .int 0, .ref (g 11), .ref (g 12), .ref (g 13)]))])) (va_Qi (fun (r : Int32) (u : Unit) => r = -1) (fun u t => RW D (va_A [(h0, .inr (9, [.int 0, .ref (g 0), .ref (g 1), .ref (g 2), .ref (g 3), .int 0, .int 0, .int 0, .int 0, .int 0, .int 0, .int 0, .int 0, .int 0, .int (-1), .ref (g 4), .ref (g 5), .int 0, .int 0, .int 0, .ref (g 6), .ref (g 7), .ref (g 8), .int 0, .int 0, .int 0, .int 0, .int 0, .ref (g 9), .int 0, .ref (g 10), .int 0, .int 0, .int 0, .ref (g 11), .ref (g 12), .ref (g 13)]))] sz) ((fun _ : Unit => [(h0, .inr (9, [.int 0, .ref (g 0), .ref (g 1), .ref (g 2), .ref (g 3), .int 0, .int 0, .int 0, .int 0, .int 0, .int 0, .int 0, .int 0, .int 0, .int (-1), .ref (g 4), .ref (g 5), .int 0, .int 0, .int 0, .ref (g 6), .ref (g 7), .ref (g 8), .int 0, .int 0, .int 0, .int 0, .int 0, .ref (g 9), .int 0, .ref (g 10), .int 0, .int 0, .int 0, .ref (g 11), .ref (g 12), .ref (g 13)]))]) u) t) (va_A [(h0, .inr (9, [.int 0, .ref (g 0), .ref (g 1), .ref (g 2), .ref (g 3), .int 0, .int 0, .int 0, .int 0, .int 0, .int 0, .int 0, .int 0, .int 0, .int (-1), .ref (g 4), .ref (g 5), .int 0, .int 0, .int 0, .ref (g 6), .ref (g 7), .ref (g 8), .int 0, .int 0, .int 0, .int 0, .int 0, .ref (g 9), .int 0, .ref (g 10), .int 0, .int 0, .int 0, .ref (g 11), .ref (g 12), .ref (g 13)]))] sz)) 0 0 (va_A [(h0, .inr (9, [.int 0, .ref (g 0), .ref (g 1), .ref (g 2), .ref (g 3), .int 0, .int 0, .int 0, .int 0, .int 0, .int 0, .int 0, .int 0, .int 0, .int (-1), .ref (g 4), .ref (g 5), .int 0, .int 0, .int 0, .ref (g 6), .ref (g 7), .ref (g 8), .int 0, .int 0, .int 0, .int 0, .int 0, .ref (g 9), .int 0, .ref (g 10), .int 0, .int 0, .int 0, .ref (g 11), .ref (g 12), .ref (g 13)]))] sz) := by
  refine m_of (y := yX9_see) (cc := cX9_see) (nL := 2) (ret := (some .int)) (D := D) (cT := cT) (av := [.ref h0, .int 0]) (wi := [(h0, .inr (9, [.int 0, .ref (g 0), .ref (g 1), .ref (g 2), .ref (g 3), .int 0, .int 0, .int 0, .int 0, .int 0, .int 0, .int 0, .int 0, .int 0, .int (-1), .ref (g 4), .ref (g 5), .int 0, .int 0, .int 0, .ref (g 6), .ref (g 7), .ref (g 8), .int 0, .int 0, .int 0, .int 0, .int 0, .ref (g 9), .int 0, .ref (g 10), .int 0, .int 0, .int 0, .ref (g 11), .ref (g 12), .ref (g 13)]))]) (fun A => va_Qi (fun (r : Int32) (u : Unit) => r = -1) (fun u t => RW D A ((fun _ : Unit => [(h0, .inr (9, [.int 0, .ref (g 0), .ref (g 1), .ref (g 2), .ref (g 3), .int 0, .int 0, .int 0, .int 0, .int 0, .int 0, .int 0, .int 0, .int 0, .int (-1), .ref (g 4), .ref (g 5), .int 0, .int 0, .int 0, .ref (g 6), .ref (g 7), .ref (g 8), .int 0, .int 0, .int 0, .int 0, .int 0, .ref (g 9), .int 0, .ref (g 10), .int 0, .int 0, .int 0, .ref (g 11), .ref (g 12), .ref (g 13)]))]) u) t) A) (by decide) (Nat.le_of_ble_eq_true rfl) ?_
  intro p e s m below meth c A hx hb hml hown htg hK hN hr hlk hnm hsz hP hD hS hA ls hl
  have hown : s.vm.findClass RX9 = some m.cls := hown
  have hl : lv_has ls 2 [(0, .ref h0), (1, .int 0)] := hl
  refine lv_iload_n hx hb dX9_see_0 rfl (lv_at hl 1 rfl) ?_
  refine lv_aload_n hx hb dX9_see_1 rfl (lv_at hl 0 rfl) ?_
  refine va_get (D := D) (ci := 9) (v := .int 0) (C := RX9) (T := TX9) (N := 37) hx hb htg gRX9 hown hK hP 0 rfl rfl 8 (by decide) (htg _ wi_1158) (fun _ h9 => h9) rfl dX9_see_2 ?_
  refine lv_icmp_ge (tgt := 17) hx hb dX9_see_5 (by decide) (fun _ => ?_) (fun h => absurd (by decide) h)
  refine lv_iconst (v := (-1)) hx hb dX9_see_17 (by decide) ?_
  exact x_iret hx hb hr hlk hP hD hS [0] (()) rfl (by decide) (by first | rfl | decide | (exfalso; omega) | (try simp only [ti_0, ti_1, ti_2, ti_3, ti_4, ti_5, ti_6, ti_7, ti_8, ti_9, ti_10, ti_11, ti_12]); (repeat (first | rw [if_pos (by first | assumption | omega | trivial)] | rw [if_neg (by first | assumption | omega)]))) (by decide) (by decide) dX9_see_18
set_option maxHeartbeats 4000000 in
set_option maxRecDepth 100000 in
theorem m_next (l : Launch) (D : va_G) (cT : Nat → ClassId) (sz : Nat) (h0 : Nat) (g : Nat → Nat) : Met l yX9_next (wsc yX9_next cX9_next 1 none) { frames := 3, cells := 0, slots := 0, locals := 121 } (va_Pc [.ref h0] (PX D cT sz [(h0, .inr (9, [.int 0, .ref (g 0), .ref (g 1), .ref (g 2), .ref (g 3), .int 0, .int 0, .int 0, .int 0, .int 0, .int 0, .int 0, .int 0, .int 0, .int (-1), .ref (g 4), .ref (g 5), .int 0, .int 0, .int 0, .ref (g 6), .ref (g 7), .ref (g 8), .int 0, .int 0, .int 0, .int 0, .int 0, .ref (g 9), .int 0, .ref (g 10), .int 0, .int 0, .int 0, .ref (g 11), .ref (g 12), .ref (g 13)]))])) (va_Qv (fun (u : Unit) => True) (fun u t => RW D (va_A [(h0, .inr (9, [.int 0, .ref (g 0), .ref (g 1), .ref (g 2), .ref (g 3), .int 0, .int 0, .int 0, .int 0, .int 0, .int 0, .int 0, .int 0, .int 0, .int (-1), .ref (g 4), .ref (g 5), .int 0, .int 0, .int 0, .ref (g 6), .ref (g 7), .ref (g 8), .int 0, .int 0, .int 0, .int 0, .int 0, .ref (g 9), .int 0, .ref (g 10), .int 0, .int 0, .int 0, .ref (g 11), .ref (g 12), .ref (g 13)]))] sz) ((fun _ : Unit => [(h0, .inr (9, [.int 0, .ref (g 0), .ref (g 1), .ref (g 2), .ref (g 3), .int 0, .int 0, .int 0, .int 0, .int 16, .int 0, .int 0, .int 0, .int 0, .int (-1), .ref (g 4), .ref (g 5), .int 0, .int 0, .int 0, .ref (g 6), .ref (g 7), .ref (g 8), .int 0, .int 0, .int 0, .int 0, .int 0, .ref (g 9), .int 0, .ref (g 10), .int 0, .int 0, .int 0, .ref (g 11), .ref (g 12), .ref (g 13)]))]) u) t) (va_A [(h0, .inr (9, [.int 0, .ref (g 0), .ref (g 1), .ref (g 2), .ref (g 3), .int 0, .int 0, .int 0, .int 0, .int 0, .int 0, .int 0, .int 0, .int 0, .int (-1), .ref (g 4), .ref (g 5), .int 0, .int 0, .int 0, .ref (g 6), .ref (g 7), .ref (g 8), .int 0, .int 0, .int 0, .int 0, .int 0, .ref (g 9), .int 0, .ref (g 10), .int 0, .int 0, .int 0, .ref (g 11), .ref (g 12), .ref (g 13)]))] sz)) 0 0 (va_A [(h0, .inr (9, [.int 0, .ref (g 0), .ref (g 1), .ref (g 2), .ref (g 3), .int 0, .int 0, .int 0, .int 0, .int 0, .int 0, .int 0, .int 0, .int 0, .int (-1), .ref (g 4), .ref (g 5), .int 0, .int 0, .int 0, .ref (g 6), .ref (g 7), .ref (g 8), .int 0, .int 0, .int 0, .int 0, .int 0, .ref (g 9), .int 0, .ref (g 10), .int 0, .int 0, .int 0, .ref (g 11), .ref (g 12), .ref (g 13)]))] sz) := by
  refine m_of (y := yX9_next) (cc := cX9_next) (nL := 1) (ret := none) (D := D) (cT := cT) (av := [.ref h0]) (wi := [(h0, .inr (9, [.int 0, .ref (g 0), .ref (g 1), .ref (g 2), .ref (g 3), .int 0, .int 0, .int 0, .int 0, .int 0, .int 0, .int 0, .int 0, .int 0, .int (-1), .ref (g 4), .ref (g 5), .int 0, .int 0, .int 0, .ref (g 6), .ref (g 7), .ref (g 8), .int 0, .int 0, .int 0, .int 0, .int 0, .ref (g 9), .int 0, .ref (g 10), .int 0, .int 0, .int 0, .ref (g 11), .ref (g 12), .ref (g 13)]))]) (fun A => va_Qv (fun (u : Unit) => True) (fun u t => RW D A ((fun _ : Unit => [(h0, .inr (9, [.int 0, .ref (g 0), .ref (g 1), .ref (g 2), .ref (g 3), .int 0, .int 0, .int 0, .int 0, .int 16, .int 0, .int 0, .int 0, .int 0, .int (-1), .ref (g 4), .ref (g 5), .int 0, .int 0, .int 0, .ref (g 6), .ref (g 7), .ref (g 8), .int 0, .int 0, .int 0, .int 0, .int 0, .ref (g 9), .int 0, .ref (g 10), .int 0, .int 0, .int 0, .ref (g 11), .ref (g 12), .ref (g 13)]))]) u) t) A) (by decide) (Nat.le_of_ble_eq_true rfl) ?_
  intro p e s m below meth c A hx hb hml hown htg hK hN hr hlk hnm hsz hP hD hS hA ls hl
  have hown : s.vm.findClass RX9 = some m.cls := hown
  have hl : lv_has ls 1 [(0, .ref h0)] := hl
  refine lv_aload_n hx hb dX9_next_0 rfl (lv_at hl 0 rfl) ?_
  refine lv_aload_n hx hb dX9_next_1 rfl (lv_at hl 0 rfl) ?_
  refine va_get (D := D) (ci := 9) (v := .int 0) (C := RX9) (T := TX9) (N := 37) hx hb htg gRX9 hown hK hP 0 rfl rfl 7 (by decide) (htg _ wi_1157) (fun _ h9 => h9) rfl dX9_next_2 ?_
  refine va_put (D := D) (ci := 9) (v := .int 0) (ty := .int) (C := RX9) (T := TX9) (N := 37) hx hb htg gRX9 tyX9 tyX9_ok nmX9 hown hK hP hD hS 0 rfl rfl 6 (by decide) (htg _ wi_1156) (fun _ h9 => h9) rfl (by decide +kernel) rfl rfl (Nat.le_of_ble_eq_true rfl) dX9_next_5 (fun H locs hP hD hS => ?_)
  have hP : va_P D classes [(h0, .inr (9, [.int 0, .ref (g 0), .ref (g 1), .ref (g 2), .ref (g 3), .int 0, .int 0, .int 0, .int 0, .int 0, .int 0, .int 0, .int 0, .int 0, .int (-1), .ref (g 4), .ref (g 5), .int 0, .int 0, .int 0, .ref (g 6), .ref (g 7), .ref (g 8), .int 0, .int 0, .int 0, .int 0, .int 0, .ref (g 9), .int 0, .ref (g 10), .int 0, .int 0, .int 0, .ref (g 11), .ref (g 12), .ref (g 13)]))] _ := hP
  have hD : va_D A [(h0, .inr (9, [.int 0, .ref (g 0), .ref (g 1), .ref (g 2), .ref (g 3), .int 0, .int 0, .int 0, .int 0, .int 0, .int 0, .int 0, .int 0, .int 0, .int (-1), .ref (g 4), .ref (g 5), .int 0, .int 0, .int 0, .ref (g 6), .ref (g 7), .ref (g 8), .int 0, .int 0, .int 0, .int 0, .int 0, .ref (g 9), .int 0, .ref (g 10), .int 0, .int 0, .int 0, .ref (g 11), .ref (g 12), .ref (g 13)]))] := hD
  refine lv_aload_n hx hb dX9_next_8 rfl (lv_at hl 0 rfl) ?_
  refine lv_aload_n hx hb dX9_next_9 rfl (lv_at hl 0 rfl) ?_
  refine va_get (D := D) (ci := 9) (v := .int 0) (C := RX9) (T := TX9) (N := 37) hx hb htg gRX9 hown hK hP 0 rfl rfl 6 (by decide) (htg _ wi_1156) (fun _ h9 => h9) rfl dX9_next_10 ?_
  refine xk_i (wr := []) (xr_V (n := 1) (As := [.int 0]) (rest := []) ⟨hx, hb, hml, hown, htg⟩ hK hN hP hD [0] rfl (by decide) (m_see l D cT _ (h0) (g)) wi_1277 wi_1279 wi_79 wi_131 wi_1280 rfl rfl rfl ⟨rfl, by decide +kernel⟩ ⟨Nat.le_of_ble_eq_true rfl, Nat.le_of_ble_eq_true rfl⟩ rfl hl.1 rfl (Nat.le_of_ble_eq_true rfl) dX9_next_13 ⟨Nat.le_of_ble_eq_true rfl, Nat.le_of_ble_eq_true rfl⟩) hP hD hS hA [0] [] rfl rfl (by decide) (by decide) (fun r_2 u_1 H locs hwr_2 hP hD hS => ?_)
  have hP : va_P D classes [(h0, .inr (9, [.int 0, .ref (g 0), .ref (g 1), .ref (g 2), .ref (g 3), .int 0, .int 0, .int 0, .int 0, .int 0, .int 0, .int 0, .int 0, .int 0, .int (-1), .ref (g 4), .ref (g 5), .int 0, .int 0, .int 0, .ref (g 6), .ref (g 7), .ref (g 8), .int 0, .int 0, .int 0, .int 0, .int 0, .ref (g 9), .int 0, .ref (g 10), .int 0, .int 0, .int 0, .ref (g 11), .ref (g 12), .ref (g 13)]))] _ := hP
  have hD : va_D A [(h0, .inr (9, [.int 0, .ref (g 0), .ref (g 1), .ref (g 2), .ref (g 3), .int 0, .int 0, .int 0, .int 0, .int 0, .int 0, .int 0, .int 0, .int 0, .int (-1), .ref (g 4), .ref (g 5), .int 0, .int 0, .int 0, .ref (g 6), .ref (g 7), .ref (g 8), .int 0, .int 0, .int 0, .int 0, .int 0, .ref (g 9), .int 0, .ref (g 10), .int 0, .int 0, .int 0, .ref (g 11), .ref (g 12), .ref (g 13)]))] := hD
  have hwr_2 : r_2 = (-1) := hwr_2
  subst hwr_2
  refine lv_bipush (v := 10) hx hb dX9_next_16 (by decide) ?_
  refine lv_icmp_eq (tgt := 34) hx hb dX9_next_18 (by decide) (fun h => absurd h (by decide)) (fun _ => ?_)
  refine lv_aload_n hx hb dX9_next_21 rfl (lv_at hl 0 rfl) ?_
  refine lv_aload_n hx hb dX9_next_22 rfl (lv_at hl 0 rfl) ?_
  refine va_get (D := D) (ci := 9) (v := .int 0) (C := RX9) (T := TX9) (N := 37) hx hb htg gRX9 hown hK hP 0 rfl rfl 6 (by decide) (htg _ wi_1156) (fun _ h9 => h9) rfl dX9_next_23 ?_
  refine xk_i (wr := []) (xr_V (n := 1) (As := [.int 0]) (rest := []) ⟨hx, hb, hml, hown, htg⟩ hK hN hP hD [0] rfl (by decide) (m_see l D cT _ (h0) (g)) wi_1277 wi_1279 wi_79 wi_131 wi_1280 rfl rfl rfl ⟨rfl, by decide +kernel⟩ ⟨Nat.le_of_ble_eq_true rfl, Nat.le_of_ble_eq_true rfl⟩ rfl hl.1 rfl (Nat.le_of_ble_eq_true rfl) dX9_next_26 ⟨Nat.le_of_ble_eq_true rfl, Nat.le_of_ble_eq_true rfl⟩) hP hD hS hA [0] [] rfl rfl (by decide) (by decide) (fun r_4 u_3 H locs hwr_4 hP hD hS => ?_)
  have hP : va_P D classes [(h0, .inr (9, [.int 0, .ref (g 0), .ref (g 1), .ref (g 2), .ref (g 3), .int 0, .int 0, .int 0, .int 0, .int 0, .int 0, .int 0, .int 0, .int 0, .int (-1), .ref (g 4), .ref (g 5), .int 0, .int 0, .int 0, .ref (g 6), .ref (g 7), .ref (g 8), .int 0, .int 0, .int 0, .int 0, .int 0, .ref (g 9), .int 0, .ref (g 10), .int 0, .int 0, .int 0, .ref (g 11), .ref (g 12), .ref (g 13)]))] _ := hP
  have hD : va_D A [(h0, .inr (9, [.int 0, .ref (g 0), .ref (g 1), .ref (g 2), .ref (g 3), .int 0, .int 0, .int 0, .int 0, .int 0, .int 0, .int 0, .int 0, .int 0, .int (-1), .ref (g 4), .ref (g 5), .int 0, .int 0, .int 0, .ref (g 6), .ref (g 7), .ref (g 8), .int 0, .int 0, .int 0, .int 0, .int 0, .ref (g 9), .int 0, .ref (g 10), .int 0, .int 0, .int 0, .ref (g 11), .ref (g 12), .ref (g 13)]))] := hD
  have hwr_4 : r_4 = (-1) := hwr_4
  subst hwr_4
  refine lv_bipush (v := 32) hx hb dX9_next_29 (by decide) ?_
  refine lv_icmp_ne (tgt := 47) hx hb dX9_next_31 (by decide) (fun _ => ?_) (fun h => absurd h (by decide))
  refine lv_aload_n hx hb dX9_next_47 rfl (lv_at hl 0 rfl) ?_
  refine lv_aload_n hx hb dX9_next_48 rfl (lv_at hl 0 rfl) ?_
  refine va_get (D := D) (ci := 9) (v := .int 0) (C := RX9) (T := TX9) (N := 37) hx hb htg gRX9 hown hK hP 0 rfl rfl 6 (by decide) (htg _ wi_1156) (fun _ h9 => h9) rfl dX9_next_49 ?_
  refine va_put (D := D) (ci := 9) (v := .int 0) (ty := .int) (C := RX9) (T := TX9) (N := 37) hx hb htg gRX9 tyX9 tyX9_ok nmX9 hown hK hP hD hS 0 rfl rfl 7 (by decide) (htg _ wi_1157) (fun _ h9 => h9) rfl (by decide +kernel) rfl rfl (Nat.le_of_ble_eq_true rfl) dX9_next_52 (fun H locs hP hD hS => ?_)
  have hP : va_P D classes [(h0, .inr (9, [.int 0, .ref (g 0), .ref (g 1), .ref (g 2), .ref (g 3), .int 0, .int 0, .int 0, .int 0, .int 0, .int 0, .int 0, .int 0, .int 0, .int (-1), .ref (g 4), .ref (g 5), .int 0, .int 0, .int 0, .ref (g 6), .ref (g 7), .ref (g 8), .int 0, .int 0, .int 0, .int 0, .int 0, .ref (g 9), .int 0, .ref (g 10), .int 0, .int 0, .int 0, .ref (g 11), .ref (g 12), .ref (g 13)]))] _ := hP
  have hD : va_D A [(h0, .inr (9, [.int 0, .ref (g 0), .ref (g 1), .ref (g 2), .ref (g 3), .int 0, .int 0, .int 0, .int 0, .int 0, .int 0, .int 0, .int 0, .int 0, .int (-1), .ref (g 4), .ref (g 5), .int 0, .int 0, .int 0, .ref (g 6), .ref (g 7), .ref (g 8), .int 0, .int 0, .int 0, .int 0, .int 0, .ref (g 9), .int 0, .ref (g 10), .int 0, .int 0, .int 0, .ref (g 11), .ref (g 12), .ref (g 13)]))] := hD
  refine lv_aload_n hx hb dX9_next_55 rfl (lv_at hl 0 rfl) ?_
  refine va_get (D := D) (ci := 9) (v := .int 0) (C := RX9) (T := TX9) (N := 37) hx hb htg gRX9 hown hK hP 0 rfl rfl 6 (by decide) (htg _ wi_1156) (fun _ h9 => h9) rfl dX9_next_56 ?_
  refine lv_aload_n hx hb dX9_next_59 rfl (lv_at hl 0 rfl) ?_
  refine va_get (D := D) (ci := 9) (v := .int 0) (C := RX9) (T := TX9) (N := 37) hx hb htg gRX9 hown hK hP 0 rfl rfl 8 (by decide) (htg _ wi_1158) (fun _ h9 => h9) rfl dX9_next_60 ?_
  refine lv_icmp_lt (tgt := 75) hx hb dX9_next_63 (by decide) (fun h => absurd h (by decide)) (fun _ => ?_)
  refine lv_aload_n hx hb dX9_next_66 rfl (lv_at hl 0 rfl) ?_
  refine lv_bipush (v := 16) hx hb dX9_next_67 (by decide) ?_
  refine va_put (D := D) (ci := 9) (v := .int 16) (ty := .int) (C := RX9) (T := TX9) (N := 37) hx hb htg gRX9 tyX9 tyX9_ok nmX9 hown hK hP hD hS 0 rfl rfl 9 (by decide) (htg _ wi_1159) (fun _ h9 => h9) rfl (by decide +kernel) rfl rfl (Nat.le_of_ble_eq_true rfl) dX9_next_69 (fun H locs hP hD hS => ?_)
  have hP : va_P D classes [(h0, .inr (9, [.int 0, .ref (g 0), .ref (g 1), .ref (g 2), .ref (g 3), .int 0, .int 0, .int 0, .int 0, .int 16, .int 0, .int 0, .int 0, .int 0, .int (-1), .ref (g 4), .ref (g 5), .int 0, .int 0, .int 0, .ref (g 6), .ref (g 7), .ref (g 8), .int 0, .int 0, .int 0, .int 0, .int 0, .ref (g 9), .int 0, .ref (g 10), .int 0, .int 0, .int 0, .ref (g 11), .ref (g 12), .ref (g 13)]))] _ := hP
  have hD : va_D A [(h0, .inr (9, [.int 0, .ref (g 0), .ref (g 1), .ref (g 2), .ref (g 3), .int 0, .int 0, .int 0, .int 0, .int 16, .int 0, .int 0, .int 0, .int 0, .int (-1), .ref (g 4), .ref (g 5), .int 0, .int 0, .int 0, .ref (g 6), .ref (g 7), .ref (g 8), .int 0, .int 0, .int 0, .int 0, .int 0, .ref (g 9), .int 0, .ref (g 10), .int 0, .int 0, .int 0, .ref (g 11), .ref (g 12), .ref (g 13)]))] := hD
  refine lv_goto (tgt := 270) hx hb dX9_next_72 (by decide) ?_
  exact x_vret hx hb hr hlk hP hD hS [0] (()) rfl (by decide) trivial (by decide) (by decide) dX9_next_270
