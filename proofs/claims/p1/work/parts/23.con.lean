set_option maxHeartbeats 4000000 in
set_option maxRecDepth 100000 in
theorem m_count (l : Launch) (D : va_G) (cT : Nat → ClassId) (sz : Nat) (h0 : Nat) (g : Nat → Nat) (x : Int32) : Met l yX9_count (wsc yX9_count cX9_count 2 (some .int)) { frames := 3, cells := 0, slots := 0, locals := 125 } (va_Pc [.ref h0, .int x] (PX D cT sz [(h0, .inr (9, [.int 0, .ref (g 0), .ref (g 1), .ref (g 2), .ref (g 3), .int 0, .int 0, .int 0, .int 0, .int 0, .int 0, .int 0, .int 0, .int 0, .int (-1), .ref (g 4), .ref (g 5), .int 0, .int 0, .int 0, .ref (g 6), .ref (g 7), .ref (g 8), .int 0, .int 0, .int 0, .int 0, .int 0, .ref (g 9), .int 0, .ref (g 10), .int 0, .int 0, .int 0, .ref (g 11), .ref (g 12), .ref (g 13)])), ((g 0), .inl (cT 0, 288, .inl (allK)))])) (va_Qi (fun (r : Int32) (u : Unit) => r = if x.toInt = 2 then -1 else if x.toInt = 3 ∨ x.toInt = 4 then 6 else if x.toInt = 5 then 1 else if x.toInt = 6 then 60 else if 0 ≤ x.toInt ∧ x.toInt ≤ 12 then 0 else -1) (fun u t => RW D (va_A [(h0, .inr (9, [.int 0, .ref (g 0), .ref (g 1), .ref (g 2), .ref (g 3), .int 0, .int 0, .int 0, .int 0, .int 0, .int 0, .int 0, .int 0, .int 0, .int (-1), .ref (g 4), .ref (g 5), .int 0, .int 0, .int 0, .ref (g 6), .ref (g 7), .ref (g 8), .int 0, .int 0, .int 0, .int 0, .int 0, .ref (g 9), .int 0, .ref (g 10), .int 0, .int 0, .int 0, .ref (g 11), .ref (g 12), .ref (g 13)])), ((g 0), .inl (cT 0, 288, .inl (allK)))] sz) ((fun _ : Unit => []) u) t) (va_A [(h0, .inr (9, [.int 0, .ref (g 0), .ref (g 1), .ref (g 2), .ref (g 3), .int 0, .int 0, .int 0, .int 0, .int 0, .int 0, .int 0, .int 0, .int 0, .int (-1), .ref (g 4), .ref (g 5), .int 0, .int 0, .int 0, .ref (g 6), .ref (g 7), .ref (g 8), .int 0, .int 0, .int 0, .int 0, .int 0, .ref (g 9), .int 0, .ref (g 10), .int 0, .int 0, .int 0, .ref (g 11), .ref (g 12), .ref (g 13)])), ((g 0), .inl (cT 0, 288, .inl (allK)))] sz)) 0 0 (va_A [(h0, .inr (9, [.int 0, .ref (g 0), .ref (g 1), .ref (g 2), .ref (g 3), .int 0, .int 0, .int 0, .int 0, .int 0, .int 0, .int 0, .int 0, .int 0, .int (-1), .ref (g 4), .ref (g 5), .int 0, .int 0, .int 0, .ref (g 6), .ref (g 7), .ref (g 8), .int 0, .int 0, .int 0, .int 0, .int 0, .ref (g 9), .int 0, .ref (g 10), .int 0, .int 0, .int 0, .ref (g 11), .ref (g 12), .ref (g 13)])), ((g 0), .inl (cT 0, 288, .inl (allK)))] sz) := by
  refine m_of (y := yX9_count) (cc := cX9_count) (nL := 2) (ret := (some .int)) (D := D) (cT := cT) (av := [.ref h0, .int x]) (wi := [(h0, .inr (9, [.int 0, .ref (g 0), .ref (g 1), .ref (g 2), .ref (g 3), .int 0, .int 0, .int 0, .int 0, .int 0, .int 0, .int 0, .int 0, .int 0, .int (-1), .ref (g 4), .ref (g 5), .int 0, .int 0, .int 0, .ref (g 6), .ref (g 7), .ref (g 8), .int 0, .int 0, .int 0, .int 0, .int 0, .ref (g 9), .int 0, .ref (g 10), .int 0, .int 0, .int 0, .ref (g 11), .ref (g 12), .ref (g 13)])), ((g 0), .inl (cT 0, 288, .inl (allK)))]) (fun A => va_Qi (fun (r : Int32) (u : Unit) => r = if x.toInt = 2 then -1 else if x.toInt = 3 ∨ x.toInt = 4 then 6 else if x.toInt = 5 then 1 else if x.toInt = 6 then 60 else if 0 ≤ x.toInt ∧ x.toInt ≤ 12 then 0 else -1) (fun u t => RW D A ((fun _ : Unit => []) u) t) A) (by decide) (Nat.le_of_ble_eq_true rfl) ?_
  intro p e s m below meth c A hx hb hml hown htg hK hN hr hlk hnm hsz hP hD hS hA ls hl
  have hown : s.vm.findClass RX9 = some m.cls := hown
  have hl : lv_has ls 2 [(0, .ref h0), (1, .int x)] := hl
  refine lv_aload_n hx hb dX9_count_0 rfl (lv_at hl 0 rfl) ?_
  refine lv_iconst (v := 0) hx hb dX9_count_1 (by decide) ?_
  refine va_put (D := D) (ci := 9) (v := .int 0) (ty := .int) (C := RX9) (T := TX9) (N := 37) hx hb htg gRX9 tyX9 tyX9_ok nmX9 hown hK hP hD hS 0 rfl rfl 0 (by decide) (htg _ wi_1150) (fun _ h9 => h9) rfl (by decide +kernel) rfl rfl (Nat.le_of_ble_eq_true rfl) dX9_count_2 (fun H locs hP hD hS => ?_)
  have hP : va_P D classes [(h0, .inr (9, [.int 0, .ref (g 0), .ref (g 1), .ref (g 2), .ref (g 3), .int 0, .int 0, .int 0, .int 0, .int 0, .int 0, .int 0, .int 0, .int 0, .int (-1), .ref (g 4), .ref (g 5), .int 0, .int 0, .int 0, .ref (g 6), .ref (g 7), .ref (g 8), .int 0, .int 0, .int 0, .int 0, .int 0, .ref (g 9), .int 0, .ref (g 10), .int 0, .int 0, .int 0, .ref (g 11), .ref (g 12), .ref (g 13)])), ((g 0), .inl (cT 0, 288, .inl (allK)))] _ := hP
  have hD : va_D A [(h0, .inr (9, [.int 0, .ref (g 0), .ref (g 1), .ref (g 2), .ref (g 3), .int 0, .int 0, .int 0, .int 0, .int 0, .int 0, .int 0, .int 0, .int 0, .int (-1), .ref (g 4), .ref (g 5), .int 0, .int 0, .int 0, .ref (g 6), .ref (g 7), .ref (g 8), .int 0, .int 0, .int 0, .int 0, .int 0, .ref (g 9), .int 0, .ref (g 10), .int 0, .int 0, .int 0, .ref (g 11), .ref (g 12), .ref (g 13)])), ((g 0), .inl (cT 0, 288, .inl (allK)))] := hD
  refine lv_iload_n hx hb dX9_count_5 rfl (lv_at hl 1 rfl) ?_
  have c_1 : (x.toInt < 2 ∨ 12 < x.toInt) ∨ x = 2 ∨ x = 3 ∨ x = 4 ∨ x = 5 ∨ x = 6 ∨ x = 7 ∨ x = 8 ∨ x = 9 ∨ x = 10 ∨ x = 11 ∨ x = 12 := by
    rcases (show (x.toInt < 2 ∨ 12 < x.toInt) ∨ x.toInt = 2 ∨ x.toInt = 3 ∨ x.toInt = 4 ∨ x.toInt = 5 ∨ x.toInt = 6 ∨ x.toInt = 7 ∨ x.toInt = 8 ∨ x.toInt = 9 ∨ x.toInt = 10 ∨ x.toInt = 11 ∨ x.toInt = 12 from by omega) with h | h | h | h | h | h | h | h | h | h | h | h
    · exact Or.inl h
    · exact Or.inr (Or.inl (i32_is (h.trans (by decide))))
    · exact Or.inr (Or.inr (Or.inl (i32_is (h.trans (by decide)))))
    · exact Or.inr (Or.inr (Or.inr (Or.inl (i32_is (h.trans (by decide))))))
    · exact Or.inr (Or.inr (Or.inr (Or.inr (Or.inl (i32_is (h.trans (by decide)))))))
    · exact Or.inr (Or.inr (Or.inr (Or.inr (Or.inr (Or.inl (i32_is (h.trans (by decide))))))))
    · exact Or.inr (Or.inr (Or.inr (Or.inr (Or.inr (Or.inr (Or.inl (i32_is (h.trans (by decide)))))))))
    · exact Or.inr (Or.inr (Or.inr (Or.inr (Or.inr (Or.inr (Or.inr (Or.inl (i32_is (h.trans (by decide))))))))))
    · exact Or.inr (Or.inr (Or.inr (Or.inr (Or.inr (Or.inr (Or.inr (Or.inr (Or.inl (i32_is (h.trans (by decide)))))))))))
    · exact Or.inr (Or.inr (Or.inr (Or.inr (Or.inr (Or.inr (Or.inr (Or.inr (Or.inr (Or.inl (i32_is (h.trans (by decide))))))))))))
    · exact Or.inr (Or.inr (Or.inr (Or.inr (Or.inr (Or.inr (Or.inr (Or.inr (Or.inr (Or.inr (Or.inl (i32_is (h.trans (by decide)))))))))))))
    · exact Or.inr (Or.inr (Or.inr (Or.inr (Or.inr (Or.inr (Or.inr (Or.inr (Or.inr (Or.inr (Or.inr (i32_is (h.trans (by decide)))))))))))))
  rcases c_1 with c_1 | rfl | rfl | rfl | rfl | rfl | rfl | rfl | rfl | rfl | rfl | rfl
  · refine lv_tableOut (tgt := 111) hx hb dX9_count_6 c_1 (by decide) ?_
    refine lv_iload_n hx hb dX9_count_111 rfl (lv_at hl 1 rfl) ?_
    refine lv_i2l (v := x.toInt64) hx hb dX9_count_112 rfl ?_
    refine lv_lconst (v := 0) hx hb dX9_count_113 (by decide) ?_
    refine lv_ldc2 (v := 8) hx hb hown (htg _ wi_1477) dX9_count_114 ?_
    refine xk_i (wr := [(h0, .inr (9, [.int 0, .ref (g 0), .ref (g 1), .ref (g 2), .ref (g 3), .int 0, .int 0, .int 0, .int 0, .int 0, .int 0, .int 0, .int 0, .int 0, .int (-1), .ref (g 4), .ref (g 5), .int 0, .int 0, .int 0, .ref (g 6), .ref (g 7), .ref (g 8), .int 0, .int 0, .int 0, .int 0, .int 0, .ref (g 9), .int 0, .ref (g 10), .int 0, .int 0, .int 0, .ref (g 11), .ref (g 12), .ref (g 13)])), ((g 0), .inl (cT 0, 288, .inl (allK)))]) (xr_S (n := 3) (As := [.long x.toInt64, .long 0, .long 8]) (rest := []) ⟨hx, hb, hml, hown, htg⟩ hK hN hP hD [] rfl (by decide) (c_within l D cT _ (x.toInt64) (0) (8) (x.toInt) (0) (8) (i2l_i _) (by decide) (by decide)) wi_1270 wi_1271 wi_131 wi_1272 ⟨rfl, by decide +kernel⟩ ⟨Nat.le_of_ble_eq_true rfl, Nat.le_of_ble_eq_true rfl⟩ rfl hl.1 rfl (Nat.le_of_ble_eq_true rfl) dX9_count_117 ⟨Nat.le_of_ble_eq_true rfl, Nat.le_of_ble_eq_true rfl⟩) hP hD hS hA [] [0, 1] rfl rfl (by decide) (by decide) (fun r_3 u_2 H locs hwr_3 hP hD hS => ?_)
    have hP : va_P D classes [(h0, .inr (9, [.int 0, .ref (g 0), .ref (g 1), .ref (g 2), .ref (g 3), .int 0, .int 0, .int 0, .int 0, .int 0, .int 0, .int 0, .int 0, .int 0, .int (-1), .ref (g 4), .ref (g 5), .int 0, .int 0, .int 0, .ref (g 6), .ref (g 7), .ref (g 8), .int 0, .int 0, .int 0, .int 0, .int 0, .ref (g 9), .int 0, .ref (g 10), .int 0, .int 0, .int 0, .ref (g 11), .ref (g 12), .ref (g 13)])), ((g 0), .inl (cT 0, 288, .inl (allK)))] _ := hP
    have hD : va_D A [(h0, .inr (9, [.int 0, .ref (g 0), .ref (g 1), .ref (g 2), .ref (g 3), .int 0, .int 0, .int 0, .int 0, .int 0, .int 0, .int 0, .int 0, .int 0, .int (-1), .ref (g 4), .ref (g 5), .int 0, .int 0, .int 0, .ref (g 6), .ref (g 7), .ref (g 8), .int 0, .int 0, .int 0, .int 0, .int 0, .ref (g 9), .int 0, .ref (g 10), .int 0, .int 0, .int 0, .ref (g 11), .ref (g 12), .ref (g 13)])), ((g 0), .inl (cT 0, 288, .inl (allK)))] := hD
    have hwr_3 : r_3 = if 0 ≤ x.toInt ∧ x.toInt ≤ 8 then 1 else 0 := hwr_3
    refine lv_if_eq (tgt := 132) hx hb dX9_count_120 (by decide) (fun c_4 => ?_) (fun c_4 => ?_)
    · have ic_4 := if0 hwr_3 c_4
      refine lv_iconst (v := (-1)) hx hb dX9_count_132 (by decide) ?_
      exact x_iret hx hb hr hlk hP hD hS [] (()) rfl (by decide) (by first | rfl | decide | (exfalso; omega) | (try simp only [ti_0, ti_1, ti_2, ti_3, ti_4, ti_5, ti_6, ti_7, ti_8, ti_9, ti_10, ti_11, ti_12]); (repeat (first | rw [if_pos (by first | assumption | omega | trivial)] | rw [if_neg (by first | assumption | omega)]))) (by decide) (by decide) dX9_count_133
    · have ic_4 := if1 hwr_3 c_4
      have c_5 : x = 0 ∨ x = 1 := by
        rcases (show x.toInt = 0 ∨ x.toInt = 1 from by omega) with h | h
        · exact Or.inl (i32_is (h.trans (by decide)))
        · exact Or.inr (i32_is (h.trans (by decide)))
      rcases c_5 with rfl | rfl
      · refine lv_aload_n hx hb dX9_count_123 rfl (lv_at hl 0 rfl) ?_
        refine va_get (D := D) (ci := 9) (v := .ref (g 0)) (C := RX9) (T := TX9) (N := 37) hx hb htg gRX9 hown hK hP 0 rfl rfl 1 (by decide) (htg _ wi_1151) (fun _ h9 => h9) rfl dX9_count_124 ?_
        refine lv_iload_n hx hb dX9_count_127 rfl (lv_at hl 1 rfl) ?_
        refine va_iald hx hb hK hP 1 0 rfl rfl (by unfold vp_in; decide) dX9_count_128 ?_
        refine lv_is (y := 0) (by decide) ?_
        refine lv_goto (tgt := 133) hx hb dX9_count_129 (by decide) ?_
        exact x_iret hx hb hr hlk hP hD hS [] (()) rfl (by decide) (by first | rfl | decide | (exfalso; omega) | (try simp only [ti_0, ti_1, ti_2, ti_3, ti_4, ti_5, ti_6, ti_7, ti_8, ti_9, ti_10, ti_11, ti_12]); (repeat (first | rw [if_pos (by first | assumption | omega | trivial)] | rw [if_neg (by first | assumption | omega)]))) (by decide) (by decide) dX9_count_133
      · refine lv_aload_n hx hb dX9_count_123 rfl (lv_at hl 0 rfl) ?_
        refine va_get (D := D) (ci := 9) (v := .ref (g 0)) (C := RX9) (T := TX9) (N := 37) hx hb htg gRX9 hown hK hP 0 rfl rfl 1 (by decide) (htg _ wi_1151) (fun _ h9 => h9) rfl dX9_count_124 ?_
        refine lv_iload_n hx hb dX9_count_127 rfl (lv_at hl 1 rfl) ?_
        refine va_iald hx hb hK hP 1 0 rfl rfl (by unfold vp_in; decide) dX9_count_128 ?_
        refine lv_is (y := 0) (by decide) ?_
        refine lv_goto (tgt := 133) hx hb dX9_count_129 (by decide) ?_
        exact x_iret hx hb hr hlk hP hD hS [] (()) rfl (by decide) (by first | rfl | decide | (exfalso; omega) | (try simp only [ti_0, ti_1, ti_2, ti_3, ti_4, ti_5, ti_6, ti_7, ti_8, ti_9, ti_10, ti_11, ti_12]); (repeat (first | rw [if_pos (by first | assumption | omega | trivial)] | rw [if_neg (by first | assumption | omega)]))) (by decide) (by decide) dX9_count_133
  · refine lv_tableIn (off := 85) (tgt := 91) hx hb dX9_count_6 (by decide) (by decide) (by decide) (by decide) ?_
    refine lv_aload_n hx hb dX9_count_91 rfl (lv_at hl 0 rfl) ?_
    refine va_get (D := D) (ci := 9) (v := .ref (g 0)) (C := RX9) (T := TX9) (N := 37) hx hb htg gRX9 hown hK hP 0 rfl rfl 1 (by decide) (htg _ wi_1151) (fun _ h9 => h9) rfl dX9_count_92 ?_
    refine lv_iconst (v := 0) hx hb dX9_count_95 (by decide) ?_
    refine va_iald hx hb hK hP 1 0 rfl rfl (by unfold vp_in; decide) dX9_count_96 ?_
    refine lv_is (y := 0) (by decide) ?_
    refine lv_if_ne (tgt := 104) hx hb dX9_count_97 (by decide) (fun h => absurd rfl h) (fun _ => ?_)
    refine lv_iconst (v := (-1)) hx hb dX9_count_100 (by decide) ?_
    refine lv_goto (tgt := 110) hx hb dX9_count_101 (by decide) ?_
    exact x_iret hx hb hr hlk hP hD hS [] (()) rfl (by decide) (by first | rfl | decide | (exfalso; omega) | (try simp only [ti_0, ti_1, ti_2, ti_3, ti_4, ti_5, ti_6, ti_7, ti_8, ti_9, ti_10, ti_11, ti_12]); (repeat (first | rw [if_pos (by first | assumption | omega | trivial)] | rw [if_neg (by first | assumption | omega)]))) (by decide) (by decide) dX9_count_110
  · refine lv_tableIn (off := 105) (tgt := 111) hx hb dX9_count_6 (by decide) (by decide) (by decide) (by decide) ?_
    refine lv_iload_n hx hb dX9_count_111 rfl (lv_at hl 1 rfl) ?_
    refine lv_i2l (v := 3) hx hb dX9_count_112 (by decide) ?_
    refine lv_lconst (v := 0) hx hb dX9_count_113 (by decide) ?_
    refine lv_ldc2 (v := 8) hx hb hown (htg _ wi_1477) dX9_count_114 ?_
    refine xk_i (wr := [(h0, .inr (9, [.int 0, .ref (g 0), .ref (g 1), .ref (g 2), .ref (g 3), .int 0, .int 0, .int 0, .int 0, .int 0, .int 0, .int 0, .int 0, .int 0, .int (-1), .ref (g 4), .ref (g 5), .int 0, .int 0, .int 0, .ref (g 6), .ref (g 7), .ref (g 8), .int 0, .int 0, .int 0, .int 0, .int 0, .ref (g 9), .int 0, .ref (g 10), .int 0, .int 0, .int 0, .ref (g 11), .ref (g 12), .ref (g 13)])), ((g 0), .inl (cT 0, 288, .inl (allK)))]) (xr_S (n := 3) (As := [.long 3, .long 0, .long 8]) (rest := []) ⟨hx, hb, hml, hown, htg⟩ hK hN hP hD [] rfl (by decide) (c_within l D cT _ (3) (0) (8) (3) (0) (8) (by decide) (by decide) (by decide)) wi_1270 wi_1271 wi_131 wi_1272 ⟨rfl, by decide +kernel⟩ ⟨Nat.le_of_ble_eq_true rfl, Nat.le_of_ble_eq_true rfl⟩ rfl hl.1 rfl (Nat.le_of_ble_eq_true rfl) dX9_count_117 ⟨Nat.le_of_ble_eq_true rfl, Nat.le_of_ble_eq_true rfl⟩) hP hD hS hA [] [0, 1] rfl rfl (by decide) (by decide) (fun r_7 u_6 H locs hwr_7 hP hD hS => ?_)
    have hP : va_P D classes [(h0, .inr (9, [.int 0, .ref (g 0), .ref (g 1), .ref (g 2), .ref (g 3), .int 0, .int 0, .int 0, .int 0, .int 0, .int 0, .int 0, .int 0, .int 0, .int (-1), .ref (g 4), .ref (g 5), .int 0, .int 0, .int 0, .ref (g 6), .ref (g 7), .ref (g 8), .int 0, .int 0, .int 0, .int 0, .int 0, .ref (g 9), .int 0, .ref (g 10), .int 0, .int 0, .int 0, .ref (g 11), .ref (g 12), .ref (g 13)])), ((g 0), .inl (cT 0, 288, .inl (allK)))] _ := hP
    have hD : va_D A [(h0, .inr (9, [.int 0, .ref (g 0), .ref (g 1), .ref (g 2), .ref (g 3), .int 0, .int 0, .int 0, .int 0, .int 0, .int 0, .int 0, .int 0, .int 0, .int (-1), .ref (g 4), .ref (g 5), .int 0, .int 0, .int 0, .ref (g 6), .ref (g 7), .ref (g 8), .int 0, .int 0, .int 0, .int 0, .int 0, .ref (g 9), .int 0, .ref (g 10), .int 0, .int 0, .int 0, .ref (g 11), .ref (g 12), .ref (g 13)])), ((g 0), .inl (cT 0, 288, .inl (allK)))] := hD
    have hwr_7 : r_7 = if 0 ≤ 3 ∧ 3 ≤ 8 then 1 else 0 := hwr_7
    refine lv_if_eq (tgt := 132) hx hb dX9_count_120 (by decide) (fun c_8 => ?_) (fun c_8 => ?_)
    · have ic_8 := if0 hwr_7 c_8
      refine lv_iconst (v := (-1)) hx hb dX9_count_132 (by decide) ?_
      exact x_iret hx hb hr hlk hP hD hS [] (()) rfl (by decide) (by first | rfl | decide | (exfalso; omega) | (try simp only [ti_0, ti_1, ti_2, ti_3, ti_4, ti_5, ti_6, ti_7, ti_8, ti_9, ti_10, ti_11, ti_12]); (repeat (first | rw [if_pos (by first | assumption | omega | trivial)] | rw [if_neg (by first | assumption | omega)]))) (by decide) (by decide) dX9_count_133
    · have ic_8 := if1 hwr_7 c_8
      refine lv_aload_n hx hb dX9_count_123 rfl (lv_at hl 0 rfl) ?_
      refine va_get (D := D) (ci := 9) (v := .ref (g 0)) (C := RX9) (T := TX9) (N := 37) hx hb htg gRX9 hown hK hP 0 rfl rfl 1 (by decide) (htg _ wi_1151) (fun _ h9 => h9) rfl dX9_count_124 ?_
      refine lv_iload_n hx hb dX9_count_127 rfl (lv_at hl 1 rfl) ?_
      refine va_iald hx hb hK hP 1 0 rfl rfl (by unfold vp_in; decide) dX9_count_128 ?_
      refine lv_is (y := 6) (by decide) ?_
      refine lv_goto (tgt := 133) hx hb dX9_count_129 (by decide) ?_
      exact x_iret hx hb hr hlk hP hD hS [] (()) rfl (by decide) (by first | rfl | decide | (exfalso; omega) | (try simp only [ti_0, ti_1, ti_2, ti_3, ti_4, ti_5, ti_6, ti_7, ti_8, ti_9, ti_10, ti_11, ti_12]); (repeat (first | rw [if_pos (by first | assumption | omega | trivial)] | rw [if_neg (by first | assumption | omega)]))) (by decide) (by decide) dX9_count_133
  · refine lv_tableIn (off := 105) (tgt := 111) hx hb dX9_count_6 (by decide) (by decide) (by decide) (by decide) ?_
    refine lv_iload_n hx hb dX9_count_111 rfl (lv_at hl 1 rfl) ?_
    refine lv_i2l (v := 4) hx hb dX9_count_112 (by decide) ?_
    refine lv_lconst (v := 0) hx hb dX9_count_113 (by decide) ?_
    refine lv_ldc2 (v := 8) hx hb hown (htg _ wi_1477) dX9_count_114 ?_
    refine xk_i (wr := [(h0, .inr (9, [.int 0, .ref (g 0), .ref (g 1), .ref (g 2), .ref (g 3), .int 0, .int 0, .int 0, .int 0, .int 0, .int 0, .int 0, .int 0, .int 0, .int (-1), .ref (g 4), .ref (g 5), .int 0, .int 0, .int 0, .ref (g 6), .ref (g 7), .ref (g 8), .int 0, .int 0, .int 0, .int 0, .int 0, .ref (g 9), .int 0, .ref (g 10), .int 0, .int 0, .int 0, .ref (g 11), .ref (g 12), .ref (g 13)])), ((g 0), .inl (cT 0, 288, .inl (allK)))]) (xr_S (n := 3) (As := [.long 4, .long 0, .long 8]) (rest := []) ⟨hx, hb, hml, hown, htg⟩ hK hN hP hD [] rfl (by decide) (c_within l D cT _ (4) (0) (8) (4) (0) (8) (by decide) (by decide) (by decide)) wi_1270 wi_1271 wi_131 wi_1272 ⟨rfl, by decide +kernel⟩ ⟨Nat.le_of_ble_eq_true rfl, Nat.le_of_ble_eq_true rfl⟩ rfl hl.1 rfl (Nat.le_of_ble_eq_true rfl) dX9_count_117 ⟨Nat.le_of_ble_eq_true rfl, Nat.le_of_ble_eq_true rfl⟩) hP hD hS hA [] [0, 1] rfl rfl (by decide) (by decide) (fun r_10 u_9 H locs hwr_10 hP hD hS => ?_)
    have hP : va_P D classes [(h0, .inr (9, [.int 0, .ref (g 0), .ref (g 1), .ref (g 2), .ref (g 3), .int 0, .int 0, .int 0, .int 0, .int 0, .int 0, .int 0, .int 0, .int 0, .int (-1), .ref (g 4), .ref (g 5), .int 0, .int 0, .int 0, .ref (g 6), .ref (g 7), .ref (g 8), .int 0, .int 0, .int 0, .int 0, .int 0, .ref (g 9), .int 0, .ref (g 10), .int 0, .int 0, .int 0, .ref (g 11), .ref (g 12), .ref (g 13)])), ((g 0), .inl (cT 0, 288, .inl (allK)))] _ := hP
    have hD : va_D A [(h0, .inr (9, [.int 0, .ref (g 0), .ref (g 1), .ref (g 2), .ref (g 3), .int 0, .int 0, .int 0, .int 0, .int 0, .int 0, .int 0, .int 0, .int 0, .int (-1), .ref (g 4), .ref (g 5), .int 0, .int 0, .int 0, .ref (g 6), .ref (g 7), .ref (g 8), .int 0, .int 0, .int 0, .int 0, .int 0, .ref (g 9), .int 0, .ref (g 10), .int 0, .int 0, .int 0, .ref (g 11), .ref (g 12), .ref (g 13)])), ((g 0), .inl (cT 0, 288, .inl (allK)))] := hD
    have hwr_10 : r_10 = if 0 ≤ 4 ∧ 4 ≤ 8 then 1 else 0 := hwr_10
    refine lv_if_eq (tgt := 132) hx hb dX9_count_120 (by decide) (fun c_11 => ?_) (fun c_11 => ?_)
    · have ic_11 := if0 hwr_10 c_11
      refine lv_iconst (v := (-1)) hx hb dX9_count_132 (by decide) ?_
      exact x_iret hx hb hr hlk hP hD hS [] (()) rfl (by decide) (by first | rfl | decide | (exfalso; omega) | (try simp only [ti_0, ti_1, ti_2, ti_3, ti_4, ti_5, ti_6, ti_7, ti_8, ti_9, ti_10, ti_11, ti_12]); (repeat (first | rw [if_pos (by first | assumption | omega | trivial)] | rw [if_neg (by first | assumption | omega)]))) (by decide) (by decide) dX9_count_133
    · have ic_11 := if1 hwr_10 c_11
      refine lv_aload_n hx hb dX9_count_123 rfl (lv_at hl 0 rfl) ?_
      refine va_get (D := D) (ci := 9) (v := .ref (g 0)) (C := RX9) (T := TX9) (N := 37) hx hb htg gRX9 hown hK hP 0 rfl rfl 1 (by decide) (htg _ wi_1151) (fun _ h9 => h9) rfl dX9_count_124 ?_
      refine lv_iload_n hx hb dX9_count_127 rfl (lv_at hl 1 rfl) ?_
      refine va_iald hx hb hK hP 1 0 rfl rfl (by unfold vp_in; decide) dX9_count_128 ?_
      refine lv_is (y := 6) (by decide) ?_
      refine lv_goto (tgt := 133) hx hb dX9_count_129 (by decide) ?_
      exact x_iret hx hb hr hlk hP hD hS [] (()) rfl (by decide) (by first | rfl | decide | (exfalso; omega) | (try simp only [ti_0, ti_1, ti_2, ti_3, ti_4, ti_5, ti_6, ti_7, ti_8, ti_9, ti_10, ti_11, ti_12]); (repeat (first | rw [if_pos (by first | assumption | omega | trivial)] | rw [if_neg (by first | assumption | omega)]))) (by decide) (by decide) dX9_count_133
  · refine lv_tableIn (off := 105) (tgt := 111) hx hb dX9_count_6 (by decide) (by decide) (by decide) (by decide) ?_
    refine lv_iload_n hx hb dX9_count_111 rfl (lv_at hl 1 rfl) ?_
    refine lv_i2l (v := 5) hx hb dX9_count_112 (by decide) ?_
    refine lv_lconst (v := 0) hx hb dX9_count_113 (by decide) ?_
    refine lv_ldc2 (v := 8) hx hb hown (htg _ wi_1477) dX9_count_114 ?_
    refine xk_i (wr := [(h0, .inr (9, [.int 0, .ref (g 0), .ref (g 1), .ref (g 2), .ref (g 3), .int 0, .int 0, .int 0, .int 0, .int 0, .int 0, .int 0, .int 0, .int 0, .int (-1), .ref (g 4), .ref (g 5), .int 0, .int 0, .int 0, .ref (g 6), .ref (g 7), .ref (g 8), .int 0, .int 0, .int 0, .int 0, .int 0, .ref (g 9), .int 0, .ref (g 10), .int 0, .int 0, .int 0, .ref (g 11), .ref (g 12), .ref (g 13)])), ((g 0), .inl (cT 0, 288, .inl (allK)))]) (xr_S (n := 3) (As := [.long 5, .long 0, .long 8]) (rest := []) ⟨hx, hb, hml, hown, htg⟩ hK hN hP hD [] rfl (by decide) (c_within l D cT _ (5) (0) (8) (5) (0) (8) (by decide) (by decide) (by decide)) wi_1270 wi_1271 wi_131 wi_1272 ⟨rfl, by decide +kernel⟩ ⟨Nat.le_of_ble_eq_true rfl, Nat.le_of_ble_eq_true rfl⟩ rfl hl.1 rfl (Nat.le_of_ble_eq_true rfl) dX9_count_117 ⟨Nat.le_of_ble_eq_true rfl, Nat.le_of_ble_eq_true rfl⟩) hP hD hS hA [] [0, 1] rfl rfl (by decide) (by decide) (fun r_13 u_12 H locs hwr_13 hP hD hS => ?_)
    have hP : va_P D classes [(h0, .inr (9, [.int 0, .ref (g 0), .ref (g 1), .ref (g 2), .ref (g 3), .int 0, .int 0, .int 0, .int 0, .int 0, .int 0, .int 0, .int 0, .int 0, .int (-1), .ref (g 4), .ref (g 5), .int 0, .int 0, .int 0, .ref (g 6), .ref (g 7), .ref (g 8), .int 0, .int 0, .int 0, .int 0, .int 0, .ref (g 9), .int 0, .ref (g 10), .int 0, .int 0, .int 0, .ref (g 11), .ref (g 12), .ref (g 13)])), ((g 0), .inl (cT 0, 288, .inl (allK)))] _ := hP
    have hD : va_D A [(h0, .inr (9, [.int 0, .ref (g 0), .ref (g 1), .ref (g 2), .ref (g 3), .int 0, .int 0, .int 0, .int 0, .int 0, .int 0, .int 0, .int 0, .int 0, .int (-1), .ref (g 4), .ref (g 5), .int 0, .int 0, .int 0, .ref (g 6), .ref (g 7), .ref (g 8), .int 0, .int 0, .int 0, .int 0, .int 0, .ref (g 9), .int 0, .ref (g 10), .int 0, .int 0, .int 0, .ref (g 11), .ref (g 12), .ref (g 13)])), ((g 0), .inl (cT 0, 288, .inl (allK)))] := hD
    have hwr_13 : r_13 = if 0 ≤ 5 ∧ 5 ≤ 8 then 1 else 0 := hwr_13
    refine lv_if_eq (tgt := 132) hx hb dX9_count_120 (by decide) (fun c_14 => ?_) (fun c_14 => ?_)
    · have ic_14 := if0 hwr_13 c_14
      refine lv_iconst (v := (-1)) hx hb dX9_count_132 (by decide) ?_
      exact x_iret hx hb hr hlk hP hD hS [] (()) rfl (by decide) (by first | rfl | decide | (exfalso; omega) | (try simp only [ti_0, ti_1, ti_2, ti_3, ti_4, ti_5, ti_6, ti_7, ti_8, ti_9, ti_10, ti_11, ti_12]); (repeat (first | rw [if_pos (by first | assumption | omega | trivial)] | rw [if_neg (by first | assumption | omega)]))) (by decide) (by decide) dX9_count_133
    · have ic_14 := if1 hwr_13 c_14
      refine lv_aload_n hx hb dX9_count_123 rfl (lv_at hl 0 rfl) ?_
      refine va_get (D := D) (ci := 9) (v := .ref (g 0)) (C := RX9) (T := TX9) (N := 37) hx hb htg gRX9 hown hK hP 0 rfl rfl 1 (by decide) (htg _ wi_1151) (fun _ h9 => h9) rfl dX9_count_124 ?_
      refine lv_iload_n hx hb dX9_count_127 rfl (lv_at hl 1 rfl) ?_
      refine va_iald hx hb hK hP 1 0 rfl rfl (by unfold vp_in; decide) dX9_count_128 ?_
      refine lv_is (y := 1) (by decide) ?_
      refine lv_goto (tgt := 133) hx hb dX9_count_129 (by decide) ?_
      exact x_iret hx hb hr hlk hP hD hS [] (()) rfl (by decide) (by first | rfl | decide | (exfalso; omega) | (try simp only [ti_0, ti_1, ti_2, ti_3, ti_4, ti_5, ti_6, ti_7, ti_8, ti_9, ti_10, ti_11, ti_12]); (repeat (first | rw [if_pos (by first | assumption | omega | trivial)] | rw [if_neg (by first | assumption | omega)]))) (by decide) (by decide) dX9_count_133
  · refine lv_tableIn (off := 105) (tgt := 111) hx hb dX9_count_6 (by decide) (by decide) (by decide) (by decide) ?_
    refine lv_iload_n hx hb dX9_count_111 rfl (lv_at hl 1 rfl) ?_
    refine lv_i2l (v := 6) hx hb dX9_count_112 (by decide) ?_
    refine lv_lconst (v := 0) hx hb dX9_count_113 (by decide) ?_
    refine lv_ldc2 (v := 8) hx hb hown (htg _ wi_1477) dX9_count_114 ?_
    refine xk_i (wr := [(h0, .inr (9, [.int 0, .ref (g 0), .ref (g 1), .ref (g 2), .ref (g 3), .int 0, .int 0, .int 0, .int 0, .int 0, .int 0, .int 0, .int 0, .int 0, .int (-1), .ref (g 4), .ref (g 5), .int 0, .int 0, .int 0, .ref (g 6), .ref (g 7), .ref (g 8), .int 0, .int 0, .int 0, .int 0, .int 0, .ref (g 9), .int 0, .ref (g 10), .int 0, .int 0, .int 0, .ref (g 11), .ref (g 12), .ref (g 13)])), ((g 0), .inl (cT 0, 288, .inl (allK)))]) (xr_S (n := 3) (As := [.long 6, .long 0, .long 8]) (rest := []) ⟨hx, hb, hml, hown, htg⟩ hK hN hP hD [] rfl (by decide) (c_within l D cT _ (6) (0) (8) (6) (0) (8) (by decide) (by decide) (by decide)) wi_1270 wi_1271 wi_131 wi_1272 ⟨rfl, by decide +kernel⟩ ⟨Nat.le_of_ble_eq_true rfl, Nat.le_of_ble_eq_true rfl⟩ rfl hl.1 rfl (Nat.le_of_ble_eq_true rfl) dX9_count_117 ⟨Nat.le_of_ble_eq_true rfl, Nat.le_of_ble_eq_true rfl⟩) hP hD hS hA [] [0, 1] rfl rfl (by decide) (by decide) (fun r_16 u_15 H locs hwr_16 hP hD hS => ?_)
    have hP : va_P D classes [(h0, .inr (9, [.int 0, .ref (g 0), .ref (g 1), .ref (g 2), .ref (g 3), .int 0, .int 0, .int 0, .int 0, .int 0, .int 0, .int 0, .int 0, .int 0, .int (-1), .ref (g 4), .ref (g 5), .int 0, .int 0, .int 0, .ref (g 6), .ref (g 7), .ref (g 8), .int 0, .int 0, .int 0, .int 0, .int 0, .ref (g 9), .int 0, .ref (g 10), .int 0, .int 0, .int 0, .ref (g 11), .ref (g 12), .ref (g 13)])), ((g 0), .inl (cT 0, 288, .inl (allK)))] _ := hP
    have hD : va_D A [(h0, .inr (9, [.int 0, .ref (g 0), .ref (g 1), .ref (g 2), .ref (g 3), .int 0, .int 0, .int 0, .int 0, .int 0, .int 0, .int 0, .int 0, .int 0, .int (-1), .ref (g 4), .ref (g 5), .int 0, .int 0, .int 0, .ref (g 6), .ref (g 7), .ref (g 8), .int 0, .int 0, .int 0, .int 0, .int 0, .ref (g 9), .int 0, .ref (g 10), .int 0, .int 0, .int 0, .ref (g 11), .ref (g 12), .ref (g 13)])), ((g 0), .inl (cT 0, 288, .inl (allK)))] := hD
    have hwr_16 : r_16 = if 0 ≤ 6 ∧ 6 ≤ 8 then 1 else 0 := hwr_16
    refine lv_if_eq (tgt := 132) hx hb dX9_count_120 (by decide) (fun c_17 => ?_) (fun c_17 => ?_)
    · have ic_17 := if0 hwr_16 c_17
      refine lv_iconst (v := (-1)) hx hb dX9_count_132 (by decide) ?_
      exact x_iret hx hb hr hlk hP hD hS [] (()) rfl (by decide) (by first | rfl | decide | (exfalso; omega) | (try simp only [ti_0, ti_1, ti_2, ti_3, ti_4, ti_5, ti_6, ti_7, ti_8, ti_9, ti_10, ti_11, ti_12]); (repeat (first | rw [if_pos (by first | assumption | omega | trivial)] | rw [if_neg (by first | assumption | omega)]))) (by decide) (by decide) dX9_count_133
    · have ic_17 := if1 hwr_16 c_17
      refine lv_aload_n hx hb dX9_count_123 rfl (lv_at hl 0 rfl) ?_
      refine va_get (D := D) (ci := 9) (v := .ref (g 0)) (C := RX9) (T := TX9) (N := 37) hx hb htg gRX9 hown hK hP 0 rfl rfl 1 (by decide) (htg _ wi_1151) (fun _ h9 => h9) rfl dX9_count_124 ?_
      refine lv_iload_n hx hb dX9_count_127 rfl (lv_at hl 1 rfl) ?_
      refine va_iald hx hb hK hP 1 0 rfl rfl (by unfold vp_in; decide) dX9_count_128 ?_
      refine lv_is (y := 60) (by decide) ?_
      refine lv_goto (tgt := 133) hx hb dX9_count_129 (by decide) ?_
      exact x_iret hx hb hr hlk hP hD hS [] (()) rfl (by decide) (by first | rfl | decide | (exfalso; omega) | (try simp only [ti_0, ti_1, ti_2, ti_3, ti_4, ti_5, ti_6, ti_7, ti_8, ti_9, ti_10, ti_11, ti_12]); (repeat (first | rw [if_pos (by first | assumption | omega | trivial)] | rw [if_neg (by first | assumption | omega)]))) (by decide) (by decide) dX9_count_133
  · refine lv_tableIn (off := 105) (tgt := 111) hx hb dX9_count_6 (by decide) (by decide) (by decide) (by decide) ?_
    refine lv_iload_n hx hb dX9_count_111 rfl (lv_at hl 1 rfl) ?_
    refine lv_i2l (v := 7) hx hb dX9_count_112 (by decide) ?_
    refine lv_lconst (v := 0) hx hb dX9_count_113 (by decide) ?_
    refine lv_ldc2 (v := 8) hx hb hown (htg _ wi_1477) dX9_count_114 ?_
    refine xk_i (wr := [(h0, .inr (9, [.int 0, .ref (g 0), .ref (g 1), .ref (g 2), .ref (g 3), .int 0, .int 0, .int 0, .int 0, .int 0, .int 0, .int 0, .int 0, .int 0, .int (-1), .ref (g 4), .ref (g 5), .int 0, .int 0, .int 0, .ref (g 6), .ref (g 7), .ref (g 8), .int 0, .int 0, .int 0, .int 0, .int 0, .ref (g 9), .int 0, .ref (g 10), .int 0, .int 0, .int 0, .ref (g 11), .ref (g 12), .ref (g 13)])), ((g 0), .inl (cT 0, 288, .inl (allK)))]) (xr_S (n := 3) (As := [.long 7, .long 0, .long 8]) (rest := []) ⟨hx, hb, hml, hown, htg⟩ hK hN hP hD [] rfl (by decide) (c_within l D cT _ (7) (0) (8) (7) (0) (8) (by decide) (by decide) (by decide)) wi_1270 wi_1271 wi_131 wi_1272 ⟨rfl, by decide +kernel⟩ ⟨Nat.le_of_ble_eq_true rfl, Nat.le_of_ble_eq_true rfl⟩ rfl hl.1 rfl (Nat.le_of_ble_eq_true rfl) dX9_count_117 ⟨Nat.le_of_ble_eq_true rfl, Nat.le_of_ble_eq_true rfl⟩) hP hD hS hA [] [0, 1] rfl rfl (by decide) (by decide) (fun r_19 u_18 H locs hwr_19 hP hD hS => ?_)
    have hP : va_P D classes [(h0, .inr (9, [.int 0, .ref (g 0), .ref (g 1), .ref (g 2), .ref (g 3), .int 0, .int 0, .int 0, .int 0, .int 0, .int 0, .int 0, .int 0, .int 0, .int (-1), .ref (g 4), .ref (g 5), .int 0, .int 0, .int 0, .ref (g 6), .ref (g 7), .ref (g 8), .int 0, .int 0, .int 0, .int 0, .int 0, .ref (g 9), .int 0, .ref (g 10), .int 0, .int 0, .int 0, .ref (g 11), .ref (g 12), .ref (g 13)])), ((g 0), .inl (cT 0, 288, .inl (allK)))] _ := hP
    have hD : va_D A [(h0, .inr (9, [.int 0, .ref (g 0), .ref (g 1), .ref (g 2), .ref (g 3), .int 0, .int 0, .int 0, .int 0, .int 0, .int 0, .int 0, .int 0, .int 0, .int (-1), .ref (g 4), .ref (g 5), .int 0, .int 0, .int 0, .ref (g 6), .ref (g 7), .ref (g 8), .int 0, .int 0, .int 0, .int 0, .int 0, .ref (g 9), .int 0, .ref (g 10), .int 0, .int 0, .int 0, .ref (g 11), .ref (g 12), .ref (g 13)])), ((g 0), .inl (cT 0, 288, .inl (allK)))] := hD
    have hwr_19 : r_19 = if 0 ≤ 7 ∧ 7 ≤ 8 then 1 else 0 := hwr_19
    refine lv_if_eq (tgt := 132) hx hb dX9_count_120 (by decide) (fun c_20 => ?_) (fun c_20 => ?_)
    · have ic_20 := if0 hwr_19 c_20
      refine lv_iconst (v := (-1)) hx hb dX9_count_132 (by decide) ?_
      exact x_iret hx hb hr hlk hP hD hS [] (()) rfl (by decide) (by first | rfl | decide | (exfalso; omega) | (try simp only [ti_0, ti_1, ti_2, ti_3, ti_4, ti_5, ti_6, ti_7, ti_8, ti_9, ti_10, ti_11, ti_12]); (repeat (first | rw [if_pos (by first | assumption | omega | trivial)] | rw [if_neg (by first | assumption | omega)]))) (by decide) (by decide) dX9_count_133
    · have ic_20 := if1 hwr_19 c_20
      refine lv_aload_n hx hb dX9_count_123 rfl (lv_at hl 0 rfl) ?_
      refine va_get (D := D) (ci := 9) (v := .ref (g 0)) (C := RX9) (T := TX9) (N := 37) hx hb htg gRX9 hown hK hP 0 rfl rfl 1 (by decide) (htg _ wi_1151) (fun _ h9 => h9) rfl dX9_count_124 ?_
      refine lv_iload_n hx hb dX9_count_127 rfl (lv_at hl 1 rfl) ?_
      refine va_iald hx hb hK hP 1 0 rfl rfl (by unfold vp_in; decide) dX9_count_128 ?_
      refine lv_is (y := 0) (by decide) ?_
      refine lv_goto (tgt := 133) hx hb dX9_count_129 (by decide) ?_
      exact x_iret hx hb hr hlk hP hD hS [] (()) rfl (by decide) (by first | rfl | decide | (exfalso; omega) | (try simp only [ti_0, ti_1, ti_2, ti_3, ti_4, ti_5, ti_6, ti_7, ti_8, ti_9, ti_10, ti_11, ti_12]); (repeat (first | rw [if_pos (by first | assumption | omega | trivial)] | rw [if_neg (by first | assumption | omega)]))) (by decide) (by decide) dX9_count_133
  · refine lv_tableIn (off := 105) (tgt := 111) hx hb dX9_count_6 (by decide) (by decide) (by decide) (by decide) ?_
    refine lv_iload_n hx hb dX9_count_111 rfl (lv_at hl 1 rfl) ?_
    refine lv_i2l (v := 8) hx hb dX9_count_112 (by decide) ?_
    refine lv_lconst (v := 0) hx hb dX9_count_113 (by decide) ?_
    refine lv_ldc2 (v := 8) hx hb hown (htg _ wi_1477) dX9_count_114 ?_
    refine xk_i (wr := [(h0, .inr (9, [.int 0, .ref (g 0), .ref (g 1), .ref (g 2), .ref (g 3), .int 0, .int 0, .int 0, .int 0, .int 0, .int 0, .int 0, .int 0, .int 0, .int (-1), .ref (g 4), .ref (g 5), .int 0, .int 0, .int 0, .ref (g 6), .ref (g 7), .ref (g 8), .int 0, .int 0, .int 0, .int 0, .int 0, .ref (g 9), .int 0, .ref (g 10), .int 0, .int 0, .int 0, .ref (g 11), .ref (g 12), .ref (g 13)])), ((g 0), .inl (cT 0, 288, .inl (allK)))]) (xr_S (n := 3) (As := [.long 8, .long 0, .long 8]) (rest := []) ⟨hx, hb, hml, hown, htg⟩ hK hN hP hD [] rfl (by decide) (c_within l D cT _ (8) (0) (8) (8) (0) (8) (by decide) (by decide) (by decide)) wi_1270 wi_1271 wi_131 wi_1272 ⟨rfl, by decide +kernel⟩ ⟨Nat.le_of_ble_eq_true rfl, Nat.le_of_ble_eq_true rfl⟩ rfl hl.1 rfl (Nat.le_of_ble_eq_true rfl) dX9_count_117 ⟨Nat.le_of_ble_eq_true rfl, Nat.le_of_ble_eq_true rfl⟩) hP hD hS hA [] [0, 1] rfl rfl (by decide) (by decide) (fun r_22 u_21 H locs hwr_22 hP hD hS => ?_)
    have hP : va_P D classes [(h0, .inr (9, [.int 0, .ref (g 0), .ref (g 1), .ref (g 2), .ref (g 3), .int 0, .int 0, .int 0, .int 0, .int 0, .int 0, .int 0, .int 0, .int 0, .int (-1), .ref (g 4), .ref (g 5), .int 0, .int 0, .int 0, .ref (g 6), .ref (g 7), .ref (g 8), .int 0, .int 0, .int 0, .int 0, .int 0, .ref (g 9), .int 0, .ref (g 10), .int 0, .int 0, .int 0, .ref (g 11), .ref (g 12), .ref (g 13)])), ((g 0), .inl (cT 0, 288, .inl (allK)))] _ := hP
    have hD : va_D A [(h0, .inr (9, [.int 0, .ref (g 0), .ref (g 1), .ref (g 2), .ref (g 3), .int 0, .int 0, .int 0, .int 0, .int 0, .int 0, .int 0, .int 0, .int 0, .int (-1), .ref (g 4), .ref (g 5), .int 0, .int 0, .int 0, .ref (g 6), .ref (g 7), .ref (g 8), .int 0, .int 0, .int 0, .int 0, .int 0, .ref (g 9), .int 0, .ref (g 10), .int 0, .int 0, .int 0, .ref (g 11), .ref (g 12), .ref (g 13)])), ((g 0), .inl (cT 0, 288, .inl (allK)))] := hD
    have hwr_22 : r_22 = if 0 ≤ 8 ∧ 8 ≤ 8 then 1 else 0 := hwr_22
    refine lv_if_eq (tgt := 132) hx hb dX9_count_120 (by decide) (fun c_23 => ?_) (fun c_23 => ?_)
    · have ic_23 := if0 hwr_22 c_23
      refine lv_iconst (v := (-1)) hx hb dX9_count_132 (by decide) ?_
      exact x_iret hx hb hr hlk hP hD hS [] (()) rfl (by decide) (by first | rfl | decide | (exfalso; omega) | (try simp only [ti_0, ti_1, ti_2, ti_3, ti_4, ti_5, ti_6, ti_7, ti_8, ti_9, ti_10, ti_11, ti_12]); (repeat (first | rw [if_pos (by first | assumption | omega | trivial)] | rw [if_neg (by first | assumption | omega)]))) (by decide) (by decide) dX9_count_133
    · have ic_23 := if1 hwr_22 c_23
      refine lv_aload_n hx hb dX9_count_123 rfl (lv_at hl 0 rfl) ?_
      refine va_get (D := D) (ci := 9) (v := .ref (g 0)) (C := RX9) (T := TX9) (N := 37) hx hb htg gRX9 hown hK hP 0 rfl rfl 1 (by decide) (htg _ wi_1151) (fun _ h9 => h9) rfl dX9_count_124 ?_
      refine lv_iload_n hx hb dX9_count_127 rfl (lv_at hl 1 rfl) ?_
      refine va_iald hx hb hK hP 1 0 rfl rfl (by unfold vp_in; decide) dX9_count_128 ?_
      refine lv_is (y := 0) (by decide) ?_
      refine lv_goto (tgt := 133) hx hb dX9_count_129 (by decide) ?_
      exact x_iret hx hb hr hlk hP hD hS [] (()) rfl (by decide) (by first | rfl | decide | (exfalso; omega) | (try simp only [ti_0, ti_1, ti_2, ti_3, ti_4, ti_5, ti_6, ti_7, ti_8, ti_9, ti_10, ti_11, ti_12]); (repeat (first | rw [if_pos (by first | assumption | omega | trivial)] | rw [if_neg (by first | assumption | omega)]))) (by decide) (by decide) dX9_count_133
  · refine lv_tableIn (off := 58) (tgt := 64) hx hb dX9_count_6 (by decide) (by decide) (by decide) (by decide) ?_
    refine lv_aload_n hx hb dX9_count_64 rfl (lv_at hl 0 rfl) ?_
    refine lv_bipush (v := 16) hx hb dX9_count_65 (by decide) ?_
    refine xk_i (wr := []) (xr_V (n := 1) (As := [.int 16]) (rest := []) ⟨hx, hb, hml, hown, htg⟩ hK hN hP hD [0, 1] rfl (by decide) (m_sumOf l D cT _ (h0) (g) (16)) wi_1626 wi_1628 wi_119 wi_131 wi_1629 rfl rfl rfl ⟨rfl, by decide +kernel⟩ ⟨Nat.le_of_ble_eq_true rfl, Nat.le_of_ble_eq_true rfl⟩ rfl hl.1 rfl (Nat.le_of_ble_eq_true rfl) dX9_count_67 ⟨Nat.le_of_ble_eq_true rfl, Nat.le_of_ble_eq_true rfl⟩) hP hD hS hA [0, 1] [] rfl rfl (by decide) (by decide) (fun r_25 u_24 H locs hwr_25 hP hD hS => ?_)
    have hP : va_P D classes [] _ := hP
    have hD : va_D A [] := hD
    have hwr_25 : r_25 = 0 := hwr_25
    subst hwr_25
    exact x_iret hx hb hr hlk hP hD hS [] (()) rfl (by decide) (by first | rfl | decide | (exfalso; omega) | (try simp only [ti_0, ti_1, ti_2, ti_3, ti_4, ti_5, ti_6, ti_7, ti_8, ti_9, ti_10, ti_11, ti_12]); (repeat (first | rw [if_pos (by first | assumption | omega | trivial)] | rw [if_neg (by first | assumption | omega)]))) (by decide) (by decide) dX9_count_70
  · refine lv_tableIn (off := 65) (tgt := 71) hx hb dX9_count_6 (by decide) (by decide) (by decide) (by decide) ?_
    refine lv_aload_n hx hb dX9_count_71 rfl (lv_at hl 0 rfl) ?_
    refine lv_bipush (v := 80) hx hb dX9_count_72 (by decide) ?_
    refine xk_i (wr := []) (xr_V (n := 1) (As := [.int 80]) (rest := []) ⟨hx, hb, hml, hown, htg⟩ hK hN hP hD [0, 1] rfl (by decide) (m_sumOf l D cT _ (h0) (g) (80)) wi_1626 wi_1628 wi_119 wi_131 wi_1629 rfl rfl rfl ⟨rfl, by decide +kernel⟩ ⟨Nat.le_of_ble_eq_true rfl, Nat.le_of_ble_eq_true rfl⟩ rfl hl.1 rfl (Nat.le_of_ble_eq_true rfl) dX9_count_74 ⟨Nat.le_of_ble_eq_true rfl, Nat.le_of_ble_eq_true rfl⟩) hP hD hS hA [0, 1] [] rfl rfl (by decide) (by decide) (fun r_27 u_26 H locs hwr_27 hP hD hS => ?_)
    have hP : va_P D classes [] _ := hP
    have hD : va_D A [] := hD
    have hwr_27 : r_27 = 0 := hwr_27
    subst hwr_27
    exact x_iret hx hb hr hlk hP hD hS [] (()) rfl (by decide) (by first | rfl | decide | (exfalso; omega) | (try simp only [ti_0, ti_1, ti_2, ti_3, ti_4, ti_5, ti_6, ti_7, ti_8, ti_9, ti_10, ti_11, ti_12]); (repeat (first | rw [if_pos (by first | assumption | omega | trivial)] | rw [if_neg (by first | assumption | omega)]))) (by decide) (by decide) dX9_count_77
  · refine lv_tableIn (off := 72) (tgt := 78) hx hb dX9_count_6 (by decide) (by decide) (by decide) (by decide) ?_
    refine lv_aload_n hx hb dX9_count_78 rfl (lv_at hl 0 rfl) ?_
    refine va_get (D := D) (ci := 9) (v := .int 0) (C := RX9) (T := TX9) (N := 37) hx hb htg gRX9 hown hK hP 0 rfl rfl 5 (by decide) (htg _ wi_1155) (fun _ h9 => h9) rfl dX9_count_79 ?_
    exact x_iret hx hb hr hlk hP hD hS [] (()) rfl (by decide) (by first | rfl | decide | (exfalso; omega) | (try simp only [ti_0, ti_1, ti_2, ti_3, ti_4, ti_5, ti_6, ti_7, ti_8, ti_9, ti_10, ti_11, ti_12]); (repeat (first | rw [if_pos (by first | assumption | omega | trivial)] | rw [if_neg (by first | assumption | omega)]))) (by decide) (by decide) dX9_count_82
  · refine lv_tableIn (off := 77) (tgt := 83) hx hb dX9_count_6 (by decide) (by decide) (by decide) (by decide) ?_
    refine lv_aload_n hx hb dX9_count_83 rfl (lv_at hl 0 rfl) ?_
    refine va_get (D := D) (ci := 9) (v := .ref (g 0)) (C := RX9) (T := TX9) (N := 37) hx hb htg gRX9 hown hK hP 0 rfl rfl 1 (by decide) (htg _ wi_1151) (fun _ h9 => h9) rfl dX9_count_84 ?_
    refine lv_bipush (v := 9) hx hb dX9_count_87 (by decide) ?_
    refine va_iald hx hb hK hP 1 0 rfl rfl (by unfold vp_in; decide) dX9_count_89 ?_
    refine lv_is (y := 0) (by decide) ?_
    exact x_iret hx hb hr hlk hP hD hS [] (()) rfl (by decide) (by first | rfl | decide | (exfalso; omega) | (try simp only [ti_0, ti_1, ti_2, ti_3, ti_4, ti_5, ti_6, ti_7, ti_8, ti_9, ti_10, ti_11, ti_12]); (repeat (first | rw [if_pos (by first | assumption | omega | trivial)] | rw [if_neg (by first | assumption | omega)]))) (by decide) (by decide) dX9_count_90
set_option maxHeartbeats 4000000 in
set_option maxRecDepth 100000 in
theorem m_numbers (l : Launch) (D : va_G) (cT : Nat → ClassId) (sz : Nat) (h0 : Nat) (g : Nat → Nat) (x : Int32) (y : Int32) (z : Int32) : Met l yX9_numbers (wsc yX9_numbers cX9_numbers 5 (some .int)) { frames := 3, cells := 0, slots := 0, locals := 125 } (va_Pc [.ref h0, .int x, .int y, .int z] (PX D cT sz [(h0, .inr (9, [.int 0, .ref (g 0), .ref (g 1), .ref (g 2), .ref (g 3), .int 0, .int 0, .int 0, .int 0, .int 0, .int 0, .int 0, .int 0, .int 0, .int (-1), .ref (g 4), .ref (g 5), .int 0, .int 0, .int 0, .ref (g 6), .ref (g 7), .ref (g 8), .int 0, .int 0, .int 0, .int 0, .int 0, .ref (g 9), .int 0, .ref (g 10), .int 0, .int 0, .int 0, .ref (g 11), .ref (g 12), .ref (g 13)])), ((g 11), .inl (cT 0, 4, .inl (rsK))), ((g 12), .inl (cT 0, 4, .inl (fun _ => 0))), ((g 13), .inl (cT 1, 160, .inr (.inl (fun _ => 0))))])) (va_Qi (fun (r : Int32) (u : Unit) => r = if 0 ≤ x.toInt ∧ x.toInt < 4 ∧ 0 ≤ y.toInt ∧ y.toInt < 4 then (if 0 ≤ z.toInt ∧ z.toInt ≤ 40 then 0 else -3) else -2) (fun u t => RW D (va_A [(h0, .inr (9, [.int 0, .ref (g 0), .ref (g 1), .ref (g 2), .ref (g 3), .int 0, .int 0, .int 0, .int 0, .int 0, .int 0, .int 0, .int 0, .int 0, .int (-1), .ref (g 4), .ref (g 5), .int 0, .int 0, .int 0, .ref (g 6), .ref (g 7), .ref (g 8), .int 0, .int 0, .int 0, .int 0, .int 0, .ref (g 9), .int 0, .ref (g 10), .int 0, .int 0, .int 0, .ref (g 11), .ref (g 12), .ref (g 13)])), ((g 11), .inl (cT 0, 4, .inl (rsK))), ((g 12), .inl (cT 0, 4, .inl (fun _ => 0))), ((g 13), .inl (cT 1, 160, .inr (.inl (fun _ => 0))))] sz) ((fun _ : Unit => []) u) t) (va_A [(h0, .inr (9, [.int 0, .ref (g 0), .ref (g 1), .ref (g 2), .ref (g 3), .int 0, .int 0, .int 0, .int 0, .int 0, .int 0, .int 0, .int 0, .int 0, .int (-1), .ref (g 4), .ref (g 5), .int 0, .int 0, .int 0, .ref (g 6), .ref (g 7), .ref (g 8), .int 0, .int 0, .int 0, .int 0, .int 0, .ref (g 9), .int 0, .ref (g 10), .int 0, .int 0, .int 0, .ref (g 11), .ref (g 12), .ref (g 13)])), ((g 11), .inl (cT 0, 4, .inl (rsK))), ((g 12), .inl (cT 0, 4, .inl (fun _ => 0))), ((g 13), .inl (cT 1, 160, .inr (.inl (fun _ => 0))))] sz)) 0 0 (va_A [(h0, .inr (9, [.int 0, .ref (g 0), .ref (g 1), .ref (g 2), .ref (g 3), .int 0, .int 0, .int 0, .int 0, .int 0, .int 0, .int 0, .int 0, .int 0, .int (-1), .ref (g 4), .ref (g 5), .int 0, .int 0, .int 0, .ref (g 6), .ref (g 7), .ref (g 8), .int 0, .int 0, .int 0, .int 0, .int 0, .ref (g 9), .int 0, .ref (g 10), .int 0, .int 0, .int 0, .ref (g 11), .ref (g 12), .ref (g 13)])), ((g 11), .inl (cT 0, 4, .inl (rsK))), ((g 12), .inl (cT 0, 4, .inl (fun _ => 0))), ((g 13), .inl (cT 1, 160, .inr (.inl (fun _ => 0))))] sz) := by
  refine m_of (y := yX9_numbers) (cc := cX9_numbers) (nL := 5) (ret := (some .int)) (D := D) (cT := cT) (av := [.ref h0, .int x, .int y, .int z]) (wi := [(h0, .inr (9, [.int 0, .ref (g 0), .ref (g 1), .ref (g 2), .ref (g 3), .int 0, .int 0, .int 0, .int 0, .int 0, .int 0, .int 0, .int 0, .int 0, .int (-1), .ref (g 4), .ref (g 5), .int 0, .int 0, .int 0, .ref (g 6), .ref (g 7), .ref (g 8), .int 0, .int 0, .int 0, .int 0, .int 0, .ref (g 9), .int 0, .ref (g 10), .int 0, .int 0, .int 0, .ref (g 11), .ref (g 12), .ref (g 13)])), ((g 11), .inl (cT 0, 4, .inl (rsK))), ((g 12), .inl (cT 0, 4, .inl (fun _ => 0))), ((g 13), .inl (cT 1, 160, .inr (.inl (fun _ => 0))))]) (fun A => va_Qi (fun (r : Int32) (u : Unit) => r = if 0 ≤ x.toInt ∧ x.toInt < 4 ∧ 0 ≤ y.toInt ∧ y.toInt < 4 then (if 0 ≤ z.toInt ∧ z.toInt ≤ 40 then 0 else -3) else -2) (fun u t => RW D A ((fun _ : Unit => []) u) t) A) (by decide) (Nat.le_of_ble_eq_true rfl) ?_
  intro p e s m below meth c A hx hb hml hown htg hK hN hr hlk hnm hsz hP hD hS hA ls hl
  have hown : s.vm.findClass RX9 = some m.cls := hown
  have hl : lv_has ls 5 [(0, .ref h0), (1, .int x), (2, .int y), (3, .int z)] := hl
  refine lv_aload_n hx hb dX9_numbers_0 rfl (lv_at hl 0 rfl) ?_
  refine lv_iconst (v := 0) hx hb dX9_numbers_1 (by decide) ?_
  refine va_put (D := D) (ci := 9) (v := .int 0) (ty := .int) (C := RX9) (T := TX9) (N := 37) hx hb htg gRX9 tyX9 tyX9_ok nmX9 hown hK hP hD hS 0 rfl rfl 0 (by decide) (htg _ wi_1150) (fun _ h9 => h9) rfl (by decide +kernel) rfl rfl (Nat.le_of_ble_eq_true rfl) dX9_numbers_2 (fun H locs hP hD hS => ?_)
  have hP : va_P D classes [(h0, .inr (9, [.int 0, .ref (g 0), .ref (g 1), .ref (g 2), .ref (g 3), .int 0, .int 0, .int 0, .int 0, .int 0, .int 0, .int 0, .int 0, .int 0, .int (-1), .ref (g 4), .ref (g 5), .int 0, .int 0, .int 0, .ref (g 6), .ref (g 7), .ref (g 8), .int 0, .int 0, .int 0, .int 0, .int 0, .ref (g 9), .int 0, .ref (g 10), .int 0, .int 0, .int 0, .ref (g 11), .ref (g 12), .ref (g 13)])), ((g 11), .inl (cT 0, 4, .inl (rsK))), ((g 12), .inl (cT 0, 4, .inl (fun _ => 0))), ((g 13), .inl (cT 1, 160, .inr (.inl (fun _ => 0))))] _ := hP
  have hD : va_D A [(h0, .inr (9, [.int 0, .ref (g 0), .ref (g 1), .ref (g 2), .ref (g 3), .int 0, .int 0, .int 0, .int 0, .int 0, .int 0, .int 0, .int 0, .int 0, .int (-1), .ref (g 4), .ref (g 5), .int 0, .int 0, .int 0, .ref (g 6), .ref (g 7), .ref (g 8), .int 0, .int 0, .int 0, .int 0, .int 0, .ref (g 9), .int 0, .ref (g 10), .int 0, .int 0, .int 0, .ref (g 11), .ref (g 12), .ref (g 13)])), ((g 11), .inl (cT 0, 4, .inl (rsK))), ((g 12), .inl (cT 0, 4, .inl (fun _ => 0))), ((g 13), .inl (cT 1, 160, .inr (.inl (fun _ => 0))))] := hD
  refine lv_iload_n hx hb dX9_numbers_5 rfl (lv_at hl 1 rfl) ?_
  refine lv_i2l (v := x.toInt64) hx hb dX9_numbers_6 rfl ?_
  refine lv_lconst (v := 0) hx hb dX9_numbers_7 (by decide) ?_
  refine lv_ldc2 (v := 3) hx hb hown (htg _ wi_1366) dX9_numbers_8 ?_
  refine xk_i (wr := [(h0, .inr (9, [.int 0, .ref (g 0), .ref (g 1), .ref (g 2), .ref (g 3), .int 0, .int 0, .int 0, .int 0, .int 0, .int 0, .int 0, .int 0, .int 0, .int (-1), .ref (g 4), .ref (g 5), .int 0, .int 0, .int 0, .ref (g 6), .ref (g 7), .ref (g 8), .int 0, .int 0, .int 0, .int 0, .int 0, .ref (g 9), .int 0, .ref (g 10), .int 0, .int 0, .int 0, .ref (g 11), .ref (g 12), .ref (g 13)])), ((g 11), .inl (cT 0, 4, .inl (rsK))), ((g 12), .inl (cT 0, 4, .inl (fun _ => 0))), ((g 13), .inl (cT 1, 160, .inr (.inl (fun _ => 0))))]) (xr_S (n := 3) (As := [.long x.toInt64, .long 0, .long 3]) (rest := []) ⟨hx, hb, hml, hown, htg⟩ hK hN hP hD [] rfl (by decide) (c_within l D cT _ (x.toInt64) (0) (3) (x.toInt) (0) (3) (i2l_i _) (by decide) (by decide)) wi_1270 wi_1271 wi_131 wi_1272 ⟨rfl, by decide +kernel⟩ ⟨Nat.le_of_ble_eq_true rfl, Nat.le_of_ble_eq_true rfl⟩ rfl hl.1 rfl (Nat.le_of_ble_eq_true rfl) dX9_numbers_11 ⟨Nat.le_of_ble_eq_true rfl, Nat.le_of_ble_eq_true rfl⟩) hP hD hS hA [] [0, 1, 2, 3] rfl rfl (by decide) (by decide) (fun r_2 u_1 H locs hwr_2 hP hD hS => ?_)
  have hP : va_P D classes [(h0, .inr (9, [.int 0, .ref (g 0), .ref (g 1), .ref (g 2), .ref (g 3), .int 0, .int 0, .int 0, .int 0, .int 0, .int 0, .int 0, .int 0, .int 0, .int (-1), .ref (g 4), .ref (g 5), .int 0, .int 0, .int 0, .ref (g 6), .ref (g 7), .ref (g 8), .int 0, .int 0, .int 0, .int 0, .int 0, .ref (g 9), .int 0, .ref (g 10), .int 0, .int 0, .int 0, .ref (g 11), .ref (g 12), .ref (g 13)])), ((g 11), .inl (cT 0, 4, .inl (rsK))), ((g 12), .inl (cT 0, 4, .inl (fun _ => 0))), ((g 13), .inl (cT 1, 160, .inr (.inl (fun _ => 0))))] _ := hP
  have hD : va_D A [(h0, .inr (9, [.int 0, .ref (g 0), .ref (g 1), .ref (g 2), .ref (g 3), .int 0, .int 0, .int 0, .int 0, .int 0, .int 0, .int 0, .int 0, .int 0, .int (-1), .ref (g 4), .ref (g 5), .int 0, .int 0, .int 0, .ref (g 6), .ref (g 7), .ref (g 8), .int 0, .int 0, .int 0, .int 0, .int 0, .ref (g 9), .int 0, .ref (g 10), .int 0, .int 0, .int 0, .ref (g 11), .ref (g 12), .ref (g 13)])), ((g 11), .inl (cT 0, 4, .inl (rsK))), ((g 12), .inl (cT 0, 4, .inl (fun _ => 0))), ((g 13), .inl (cT 1, 160, .inr (.inl (fun _ => 0))))] := hD
  have hwr_2 : r_2 = if 0 ≤ x.toInt ∧ x.toInt ≤ 3 then 1 else 0 := hwr_2
  refine lv_if_eq (tgt := 29) hx hb dX9_numbers_14 (by decide) (fun c_3 => ?_) (fun c_3 => ?_)
  · have ic_3 := if0 hwr_2 c_3
    refine lv_bipush (v := (-2)) hx hb dX9_numbers_29 (by decide) ?_
    exact x_iret hx hb hr hlk hP hD hS [] (()) rfl (by decide) (by first | rfl | decide | (exfalso; omega) | (try simp only [ti_0, ti_1, ti_2, ti_3, ti_4, ti_5, ti_6, ti_7, ti_8, ti_9, ti_10, ti_11, ti_12]); (repeat (first | rw [if_pos (by first | assumption | omega | trivial)] | rw [if_neg (by first | assumption | omega)]))) (by decide) (by decide) dX9_numbers_31
  · have ic_3 := if1 hwr_2 c_3
    refine lv_iload_n hx hb dX9_numbers_17 rfl (lv_at hl 2 rfl) ?_
    refine lv_i2l (v := y.toInt64) hx hb dX9_numbers_18 rfl ?_
    refine lv_lconst (v := 0) hx hb dX9_numbers_19 (by decide) ?_
    refine lv_ldc2 (v := 3) hx hb hown (htg _ wi_1366) dX9_numbers_20 ?_
    refine xk_i (wr := [(h0, .inr (9, [.int 0, .ref (g 0), .ref (g 1), .ref (g 2), .ref (g 3), .int 0, .int 0, .int 0, .int 0, .int 0, .int 0, .int 0, .int 0, .int 0, .int (-1), .ref (g 4), .ref (g 5), .int 0, .int 0, .int 0, .ref (g 6), .ref (g 7), .ref (g 8), .int 0, .int 0, .int 0, .int 0, .int 0, .ref (g 9), .int 0, .ref (g 10), .int 0, .int 0, .int 0, .ref (g 11), .ref (g 12), .ref (g 13)])), ((g 11), .inl (cT 0, 4, .inl (rsK))), ((g 12), .inl (cT 0, 4, .inl (fun _ => 0))), ((g 13), .inl (cT 1, 160, .inr (.inl (fun _ => 0))))]) (xr_S (n := 3) (As := [.long y.toInt64, .long 0, .long 3]) (rest := []) ⟨hx, hb, hml, hown, htg⟩ hK hN hP hD [] rfl (by decide) (c_within l D cT _ (y.toInt64) (0) (3) (y.toInt) (0) (3) (i2l_i _) (by decide) (by decide)) wi_1270 wi_1271 wi_131 wi_1272 ⟨rfl, by decide +kernel⟩ ⟨Nat.le_of_ble_eq_true rfl, Nat.le_of_ble_eq_true rfl⟩ rfl hl.1 rfl (Nat.le_of_ble_eq_true rfl) dX9_numbers_23 ⟨Nat.le_of_ble_eq_true rfl, Nat.le_of_ble_eq_true rfl⟩) hP hD hS hA [] [0, 1, 2, 3] rfl rfl (by decide) (by decide) (fun r_5 u_4 H locs hwr_5 hP hD hS => ?_)
    have hP : va_P D classes [(h0, .inr (9, [.int 0, .ref (g 0), .ref (g 1), .ref (g 2), .ref (g 3), .int 0, .int 0, .int 0, .int 0, .int 0, .int 0, .int 0, .int 0, .int 0, .int (-1), .ref (g 4), .ref (g 5), .int 0, .int 0, .int 0, .ref (g 6), .ref (g 7), .ref (g 8), .int 0, .int 0, .int 0, .int 0, .int 0, .ref (g 9), .int 0, .ref (g 10), .int 0, .int 0, .int 0, .ref (g 11), .ref (g 12), .ref (g 13)])), ((g 11), .inl (cT 0, 4, .inl (rsK))), ((g 12), .inl (cT 0, 4, .inl (fun _ => 0))), ((g 13), .inl (cT 1, 160, .inr (.inl (fun _ => 0))))] _ := hP
    have hD : va_D A [(h0, .inr (9, [.int 0, .ref (g 0), .ref (g 1), .ref (g 2), .ref (g 3), .int 0, .int 0, .int 0, .int 0, .int 0, .int 0, .int 0, .int 0, .int 0, .int (-1), .ref (g 4), .ref (g 5), .int 0, .int 0, .int 0, .ref (g 6), .ref (g 7), .ref (g 8), .int 0, .int 0, .int 0, .int 0, .int 0, .ref (g 9), .int 0, .ref (g 10), .int 0, .int 0, .int 0, .ref (g 11), .ref (g 12), .ref (g 13)])), ((g 11), .inl (cT 0, 4, .inl (rsK))), ((g 12), .inl (cT 0, 4, .inl (fun _ => 0))), ((g 13), .inl (cT 1, 160, .inr (.inl (fun _ => 0))))] := hD
    have hwr_5 : r_5 = if 0 ≤ y.toInt ∧ y.toInt ≤ 3 then 1 else 0 := hwr_5
    refine lv_if_ne (tgt := 32) hx hb dX9_numbers_26 (by decide) (fun c_6 => ?_) (fun c_6 => ?_)
    · have ic_6 := if1 hwr_5 c_6
      refine lv_iload_n hx hb dX9_numbers_32 rfl (lv_at hl 3 rfl) ?_
      refine lv_i2l (v := z.toInt64) hx hb dX9_numbers_33 rfl ?_
      refine lv_lconst (v := 0) hx hb dX9_numbers_34 (by decide) ?_
      refine lv_ldc2 (v := 40) hx hb hown (htg _ wi_1599) dX9_numbers_35 ?_
      refine xk_i (wr := [(h0, .inr (9, [.int 0, .ref (g 0), .ref (g 1), .ref (g 2), .ref (g 3), .int 0, .int 0, .int 0, .int 0, .int 0, .int 0, .int 0, .int 0, .int 0, .int (-1), .ref (g 4), .ref (g 5), .int 0, .int 0, .int 0, .ref (g 6), .ref (g 7), .ref (g 8), .int 0, .int 0, .int 0, .int 0, .int 0, .ref (g 9), .int 0, .ref (g 10), .int 0, .int 0, .int 0, .ref (g 11), .ref (g 12), .ref (g 13)])), ((g 11), .inl (cT 0, 4, .inl (rsK))), ((g 12), .inl (cT 0, 4, .inl (fun _ => 0))), ((g 13), .inl (cT 1, 160, .inr (.inl (fun _ => 0))))]) (xr_S (n := 3) (As := [.long z.toInt64, .long 0, .long 40]) (rest := []) ⟨hx, hb, hml, hown, htg⟩ hK hN hP hD [] rfl (by decide) (c_within l D cT _ (z.toInt64) (0) (40) (z.toInt) (0) (40) (i2l_i _) (by decide) (by decide)) wi_1270 wi_1271 wi_131 wi_1272 ⟨rfl, by decide +kernel⟩ ⟨Nat.le_of_ble_eq_true rfl, Nat.le_of_ble_eq_true rfl⟩ rfl hl.1 rfl (Nat.le_of_ble_eq_true rfl) dX9_numbers_38 ⟨Nat.le_of_ble_eq_true rfl, Nat.le_of_ble_eq_true rfl⟩) hP hD hS hA [] [0, 1, 2, 3] rfl rfl (by decide) (by decide) (fun r_8 u_7 H locs hwr_8 hP hD hS => ?_)
      have hP : va_P D classes [(h0, .inr (9, [.int 0, .ref (g 0), .ref (g 1), .ref (g 2), .ref (g 3), .int 0, .int 0, .int 0, .int 0, .int 0, .int 0, .int 0, .int 0, .int 0, .int (-1), .ref (g 4), .ref (g 5), .int 0, .int 0, .int 0, .ref (g 6), .ref (g 7), .ref (g 8), .int 0, .int 0, .int 0, .int 0, .int 0, .ref (g 9), .int 0, .ref (g 10), .int 0, .int 0, .int 0, .ref (g 11), .ref (g 12), .ref (g 13)])), ((g 11), .inl (cT 0, 4, .inl (rsK))), ((g 12), .inl (cT 0, 4, .inl (fun _ => 0))), ((g 13), .inl (cT 1, 160, .inr (.inl (fun _ => 0))))] _ := hP
      have hD : va_D A [(h0, .inr (9, [.int 0, .ref (g 0), .ref (g 1), .ref (g 2), .ref (g 3), .int 0, .int 0, .int 0, .int 0, .int 0, .int 0, .int 0, .int 0, .int 0, .int (-1), .ref (g 4), .ref (g 5), .int 0, .int 0, .int 0, .ref (g 6), .ref (g 7), .ref (g 8), .int 0, .int 0, .int 0, .int 0, .int 0, .ref (g 9), .int 0, .ref (g 10), .int 0, .int 0, .int 0, .ref (g 11), .ref (g 12), .ref (g 13)])), ((g 11), .inl (cT 0, 4, .inl (rsK))), ((g 12), .inl (cT 0, 4, .inl (fun _ => 0))), ((g 13), .inl (cT 1, 160, .inr (.inl (fun _ => 0))))] := hD
      have hwr_8 : r_8 = if 0 ≤ z.toInt ∧ z.toInt ≤ 40 then 1 else 0 := hwr_8
      refine lv_if_ne (tgt := 47) hx hb dX9_numbers_41 (by decide) (fun c_9 => ?_) (fun c_9 => ?_)
      · have ic_9 := if1 hwr_8 c_9
        have c_10 : x = 0 ∨ x = 1 ∨ x = 2 ∨ x = 3 := by
          rcases (show x.toInt = 0 ∨ x.toInt = 1 ∨ x.toInt = 2 ∨ x.toInt = 3 from by omega) with h | h | h | h
          · exact Or.inl (i32_is (h.trans (by decide)))
          · exact Or.inr (Or.inl (i32_is (h.trans (by decide))))
          · exact Or.inr (Or.inr (Or.inl (i32_is (h.trans (by decide)))))
          · exact Or.inr (Or.inr (Or.inr (i32_is (h.trans (by decide)))))
        rcases c_10 with rfl | rfl | rfl | rfl
        · refine lv_aload_n hx hb dX9_numbers_47 rfl (lv_at hl 0 rfl) ?_
          refine va_get (D := D) (ci := 9) (v := .ref (g 11)) (C := RX9) (T := TX9) (N := 37) hx hb htg gRX9 hown hK hP 0 rfl rfl 34 (by decide) (htg _ wi_1184) (fun _ h9 => h9) rfl dX9_numbers_48 ?_
          refine lv_iload_n hx hb dX9_numbers_51 rfl (lv_at hl 1 rfl) ?_
          refine lv_iload_n hx hb dX9_numbers_52 rfl (lv_at hl 2 rfl) ?_
          refine va_iast hx hb hK hP hD hS 1 0 rfl rfl (by unfold vp_in; decide) dX9_numbers_53 (fun H locs hP hD hS => ?_)
          obtain ⟨f_11, hP, hD⟩ : ∃ f_11 : Nat → Int32, va_P D classes [(h0, .inr (9, [.int 0, .ref (g 0), .ref (g 1), .ref (g 2), .ref (g 3), .int 0, .int 0, .int 0, .int 0, .int 0, .int 0, .int 0, .int 0, .int 0, .int (-1), .ref (g 4), .ref (g 5), .int 0, .int 0, .int 0, .ref (g 6), .ref (g 7), .ref (g 8), .int 0, .int 0, .int 0, .int 0, .int 0, .ref (g 9), .int 0, .ref (g 10), .int 0, .int 0, .int 0, .ref (g 11), .ref (g 12), .ref (g 13)])), ((g 11), .inl (cT 0, 4, .inl (f_11))), ((g 12), .inl (cT 0, 4, .inl (fun _ => 0))), ((g 13), .inl (cT 1, 160, .inr (.inl (fun _ => 0))))] H ∧ va_D A [(h0, .inr (9, [.int 0, .ref (g 0), .ref (g 1), .ref (g 2), .ref (g 3), .int 0, .int 0, .int 0, .int 0, .int 0, .int 0, .int 0, .int 0, .int 0, .int (-1), .ref (g 4), .ref (g 5), .int 0, .int 0, .int 0, .ref (g 6), .ref (g 7), .ref (g 8), .int 0, .int 0, .int 0, .int 0, .int 0, .ref (g 9), .int 0, .ref (g 10), .int 0, .int 0, .int 0, .ref (g 11), .ref (g 12), .ref (g 13)])), ((g 11), .inl (cT 0, 4, .inl (f_11))), ((g 12), .inl (cT 0, 4, .inl (fun _ => 0))), ((g 13), .inl (cT 1, 160, .inr (.inl (fun _ => 0))))] := ⟨_, hP, hD⟩
          refine lv_aload_n hx hb dX9_numbers_54 rfl (lv_at hl 0 rfl) ?_
          refine va_get (D := D) (ci := 9) (v := .ref (g 12)) (C := RX9) (T := TX9) (N := 37) hx hb htg gRX9 hown hK hP 0 rfl rfl 35 (by decide) (htg _ wi_1185) (fun _ h9 => h9) rfl dX9_numbers_55 ?_
          refine lv_iload_n hx hb dX9_numbers_58 rfl (lv_at hl 1 rfl) ?_
          refine lv_iload_n hx hb dX9_numbers_59 rfl (lv_at hl 3 rfl) ?_
          refine va_iast hx hb hK hP hD hS 2 0 rfl rfl (by unfold vp_in; decide) dX9_numbers_60 (fun H locs hP hD hS => ?_)
          obtain ⟨f_12, hP, hD⟩ : ∃ f_12 : Nat → Int32, va_P D classes [(h0, .inr (9, [.int 0, .ref (g 0), .ref (g 1), .ref (g 2), .ref (g 3), .int 0, .int 0, .int 0, .int 0, .int 0, .int 0, .int 0, .int 0, .int 0, .int (-1), .ref (g 4), .ref (g 5), .int 0, .int 0, .int 0, .ref (g 6), .ref (g 7), .ref (g 8), .int 0, .int 0, .int 0, .int 0, .int 0, .ref (g 9), .int 0, .ref (g 10), .int 0, .int 0, .int 0, .ref (g 11), .ref (g 12), .ref (g 13)])), ((g 11), .inl (cT 0, 4, .inl (f_11))), ((g 12), .inl (cT 0, 4, .inl (f_12))), ((g 13), .inl (cT 1, 160, .inr (.inl (fun _ => 0))))] H ∧ va_D A [(h0, .inr (9, [.int 0, .ref (g 0), .ref (g 1), .ref (g 2), .ref (g 3), .int 0, .int 0, .int 0, .int 0, .int 0, .int 0, .int 0, .int 0, .int 0, .int (-1), .ref (g 4), .ref (g 5), .int 0, .int 0, .int 0, .ref (g 6), .ref (g 7), .ref (g 8), .int 0, .int 0, .int 0, .int 0, .int 0, .ref (g 9), .int 0, .ref (g 10), .int 0, .int 0, .int 0, .ref (g 11), .ref (g 12), .ref (g 13)])), ((g 11), .inl (cT 0, 4, .inl (f_11))), ((g 12), .inl (cT 0, 4, .inl (f_12))), ((g 13), .inl (cT 1, 160, .inr (.inl (fun _ => 0))))] := ⟨_, hP, hD⟩
          refine lv_iconst (v := 0) hx hb dX9_numbers_61 (by decide) ?_
          refine lv_istore (lv' := [(4, .int 0), (0, .ref h0), (1, .int 0), (2, .int y), (3, .int z)]) hx hb dX9_numbers_62 hl (by decide) rfl (fun ls hl => ?_)
          refine (fun (key : ∀ (n9 k9 : Nat) (f9_0 : Nat → Int64) (H : Heap) (locs : List Loc) (ls : Array Slot), (k9 : Int) ≤ z.toInt → z.toInt < (k9 : Int) + n9 → va_P D classes [(h0, .inr (9, [.int 0, .ref (g 0), .ref (g 1), .ref (g 2), .ref (g 3), .int 0, .int 0, .int 0, .int 0, .int 0, .int 0, .int 0, .int 0, .int 0, .int (-1), .ref (g 4), .ref (g 5), .int 0, .int 0, .int 0, .ref (g 6), .ref (g 7), .ref (g 8), .int 0, .int 0, .int 0, .int 0, .int 0, .ref (g 9), .int 0, .ref (g 10), .int 0, .int 0, .int 0, .ref (g 11), .ref (g 12), .ref (g 13)])), ((g 11), .inl (cT 0, 4, .inl (f_11))), ((g 12), .inl (cT 0, 4, .inl (f_12))), ((g 13), .inl (cT 1, 160, .inr (.inl (f9_0))))] H → va_D A [(h0, .inr (9, [.int 0, .ref (g 0), .ref (g 1), .ref (g 2), .ref (g 3), .int 0, .int 0, .int 0, .int 0, .int 0, .int 0, .int 0, .int 0, .int 0, .int (-1), .ref (g 4), .ref (g 5), .int 0, .int 0, .int 0, .ref (g 6), .ref (g 7), .ref (g 8), .int 0, .int 0, .int 0, .int 0, .int 0, .ref (g 9), .int 0, .ref (g 10), .int 0, .int 0, .int 0, .ref (g 11), .ref (g 12), .ref (g 13)])), ((g 11), .inl (cT 0, 4, .inl (f_11))), ((g 12), .inl (cT 0, 4, .inl (f_12))), ((g 13), .inl (cT 1, 160, .inr (.inl (f9_0))))] → va_S A s.heap H locs → lv_has ls 5 [(4, .int (nI k9)), (0, .ref h0), (1, .int 0), (2, .int y), (3, .int z)] → W p l e _ s m _ below meth c H locs _ _ _ (F0 m 64 ls [])) => key (Int.toNat (z.toInt) + 1) 0 _ _ _ _ (by omega) (by omega) hP hD hS (lv_sub hl [0, 1, 2, 3, 4] rfl)) ?_
          intro n9
          induction n9 with
          | zero => intro k9 f9_0 H locs ls h1 h2; exact absurd h2 (by omega)
          | succ n9 ih =>
            intro k9 f9_0 H locs ls h1 h2 hP hD hS hl
            refine lv_iload hx hb dX9_numbers_64 (lv_at hl 0 rfl) ?_
            refine lv_iload_n hx hb dX9_numbers_66 rfl (lv_at hl 4 rfl) ?_
            refine lv_icmp_ge (tgt := 89) hx hb dX9_numbers_67 (by decide) (fun c_13 => ?_) (fun c_13 => ?_)
            · have ic_13 : z.toInt ≤ ((k9 : Nat) : Int) := ile c_13 (rfl) (nI_toInt (by omega))
              refine lv_iconst (v := 0) hx hb dX9_numbers_89 (by decide) ?_
              exact x_iret hx hb hr hlk hP hD hS [] (()) rfl (by decide) (by first | rfl | decide | (exfalso; omega) | (try simp only [ti_0, ti_1, ti_2, ti_3, ti_4, ti_5, ti_6, ti_7, ti_8, ti_9, ti_10, ti_11, ti_12]); (repeat (first | rw [if_pos (by first | assumption | omega | trivial)] | rw [if_neg (by first | assumption | omega)]))) (by decide) (by decide) dX9_numbers_90
            · have ic_13 : ((k9 : Nat) : Int) < z.toInt := inle c_13 (rfl) (nI_toInt (by omega))
              refine lv_aload_n hx hb dX9_numbers_70 rfl (lv_at hl 1 rfl) ?_
              refine va_get (D := D) (ci := 9) (v := .ref (g 13)) (C := RX9) (T := TX9) (N := 37) hx hb htg gRX9 hown hK hP 0 rfl rfl 36 (by decide) (htg _ wi_1186) (fun _ h9 => h9) rfl dX9_numbers_71 ?_
              refine lv_bipush (v := 40) hx hb dX9_numbers_74 (by decide) ?_
              refine lv_iload_n hx hb dX9_numbers_76 rfl (lv_at hl 2 rfl) ?_
              refine lv_imul hx hb dX9_numbers_77 ?_
              refine lv_is (y := 0) (by decide) ?_
              refine lv_iload hx hb dX9_numbers_78 (lv_at hl 0 rfl) ?_
              refine lv_iadd hx hb dX9_numbers_80 ?_
              refine lv_is (y := nI (0 + k9)) (nI_add 0 (k9)) ?_
              refine lv_lconst (v := 0) hx hb dX9_numbers_81 (by decide) ?_
              refine va_last hx hb hK hP hD hS 3 1 rfl rfl (vp_in_nI (by omega) (by omega)) dX9_numbers_82 (fun H locs hP hD hS => ?_)
              obtain ⟨f_14, hP, hD⟩ : ∃ f_14 : Nat → Int64, va_P D classes [(h0, .inr (9, [.int 0, .ref (g 0), .ref (g 1), .ref (g 2), .ref (g 3), .int 0, .int 0, .int 0, .int 0, .int 0, .int 0, .int 0, .int 0, .int 0, .int (-1), .ref (g 4), .ref (g 5), .int 0, .int 0, .int 0, .ref (g 6), .ref (g 7), .ref (g 8), .int 0, .int 0, .int 0, .int 0, .int 0, .ref (g 9), .int 0, .ref (g 10), .int 0, .int 0, .int 0, .ref (g 11), .ref (g 12), .ref (g 13)])), ((g 11), .inl (cT 0, 4, .inl (f_11))), ((g 12), .inl (cT 0, 4, .inl (f_12))), ((g 13), .inl (cT 1, 160, .inr (.inl (f_14))))] H ∧ va_D A [(h0, .inr (9, [.int 0, .ref (g 0), .ref (g 1), .ref (g 2), .ref (g 3), .int 0, .int 0, .int 0, .int 0, .int 0, .int 0, .int 0, .int 0, .int 0, .int (-1), .ref (g 4), .ref (g 5), .int 0, .int 0, .int 0, .ref (g 6), .ref (g 7), .ref (g 8), .int 0, .int 0, .int 0, .int 0, .int 0, .ref (g 9), .int 0, .ref (g 10), .int 0, .int 0, .int 0, .ref (g 11), .ref (g 12), .ref (g 13)])), ((g 11), .inl (cT 0, 4, .inl (f_11))), ((g 12), .inl (cT 0, 4, .inl (f_12))), ((g 13), .inl (cT 1, 160, .inr (.inl (f_14))))] := ⟨_, hP, hD⟩
              refine lv_iinc (v := (nI (k9 + 1))) (lv' := [(4, .int (nI (k9 + 1))), (0, .ref h0), (1, .int 0), (2, .int y), (3, .int z)]) hx hb dX9_numbers_83 hl (k := 0) rfl (by exact nI_1 (k9)) (by decide) rfl (fun ls hl => ?_)
              refine lv_goto (tgt := 64) hx hb dX9_numbers_86 (by decide) ?_
              exact ih (k9 + 1) _ _ _ _ (by omega) (by omega) hP hD hS (lv_sub hl [0, 1, 2, 3, 4] rfl)
        · refine lv_aload_n hx hb dX9_numbers_47 rfl (lv_at hl 0 rfl) ?_
          refine va_get (D := D) (ci := 9) (v := .ref (g 11)) (C := RX9) (T := TX9) (N := 37) hx hb htg gRX9 hown hK hP 0 rfl rfl 34 (by decide) (htg _ wi_1184) (fun _ h9 => h9) rfl dX9_numbers_48 ?_
          refine lv_iload_n hx hb dX9_numbers_51 rfl (lv_at hl 1 rfl) ?_
          refine lv_iload_n hx hb dX9_numbers_52 rfl (lv_at hl 2 rfl) ?_
          refine va_iast hx hb hK hP hD hS 1 0 rfl rfl (by unfold vp_in; decide) dX9_numbers_53 (fun H locs hP hD hS => ?_)
          obtain ⟨f_15, hP, hD⟩ : ∃ f_15 : Nat → Int32, va_P D classes [(h0, .inr (9, [.int 0, .ref (g 0), .ref (g 1), .ref (g 2), .ref (g 3), .int 0, .int 0, .int 0, .int 0, .int 0, .int 0, .int 0, .int 0, .int 0, .int (-1), .ref (g 4), .ref (g 5), .int 0, .int 0, .int 0, .ref (g 6), .ref (g 7), .ref (g 8), .int 0, .int 0, .int 0, .int 0, .int 0, .ref (g 9), .int 0, .ref (g 10), .int 0, .int 0, .int 0, .ref (g 11), .ref (g 12), .ref (g 13)])), ((g 11), .inl (cT 0, 4, .inl (f_15))), ((g 12), .inl (cT 0, 4, .inl (fun _ => 0))), ((g 13), .inl (cT 1, 160, .inr (.inl (fun _ => 0))))] H ∧ va_D A [(h0, .inr (9, [.int 0, .ref (g 0), .ref (g 1), .ref (g 2), .ref (g 3), .int 0, .int 0, .int 0, .int 0, .int 0, .int 0, .int 0, .int 0, .int 0, .int (-1), .ref (g 4), .ref (g 5), .int 0, .int 0, .int 0, .ref (g 6), .ref (g 7), .ref (g 8), .int 0, .int 0, .int 0, .int 0, .int 0, .ref (g 9), .int 0, .ref (g 10), .int 0, .int 0, .int 0, .ref (g 11), .ref (g 12), .ref (g 13)])), ((g 11), .inl (cT 0, 4, .inl (f_15))), ((g 12), .inl (cT 0, 4, .inl (fun _ => 0))), ((g 13), .inl (cT 1, 160, .inr (.inl (fun _ => 0))))] := ⟨_, hP, hD⟩
          refine lv_aload_n hx hb dX9_numbers_54 rfl (lv_at hl 0 rfl) ?_
          refine va_get (D := D) (ci := 9) (v := .ref (g 12)) (C := RX9) (T := TX9) (N := 37) hx hb htg gRX9 hown hK hP 0 rfl rfl 35 (by decide) (htg _ wi_1185) (fun _ h9 => h9) rfl dX9_numbers_55 ?_
          refine lv_iload_n hx hb dX9_numbers_58 rfl (lv_at hl 1 rfl) ?_
          refine lv_iload_n hx hb dX9_numbers_59 rfl (lv_at hl 3 rfl) ?_
          refine va_iast hx hb hK hP hD hS 2 0 rfl rfl (by unfold vp_in; decide) dX9_numbers_60 (fun H locs hP hD hS => ?_)
          obtain ⟨f_16, hP, hD⟩ : ∃ f_16 : Nat → Int32, va_P D classes [(h0, .inr (9, [.int 0, .ref (g 0), .ref (g 1), .ref (g 2), .ref (g 3), .int 0, .int 0, .int 0, .int 0, .int 0, .int 0, .int 0, .int 0, .int 0, .int (-1), .ref (g 4), .ref (g 5), .int 0, .int 0, .int 0, .ref (g 6), .ref (g 7), .ref (g 8), .int 0, .int 0, .int 0, .int 0, .int 0, .ref (g 9), .int 0, .ref (g 10), .int 0, .int 0, .int 0, .ref (g 11), .ref (g 12), .ref (g 13)])), ((g 11), .inl (cT 0, 4, .inl (f_15))), ((g 12), .inl (cT 0, 4, .inl (f_16))), ((g 13), .inl (cT 1, 160, .inr (.inl (fun _ => 0))))] H ∧ va_D A [(h0, .inr (9, [.int 0, .ref (g 0), .ref (g 1), .ref (g 2), .ref (g 3), .int 0, .int 0, .int 0, .int 0, .int 0, .int 0, .int 0, .int 0, .int 0, .int (-1), .ref (g 4), .ref (g 5), .int 0, .int 0, .int 0, .ref (g 6), .ref (g 7), .ref (g 8), .int 0, .int 0, .int 0, .int 0, .int 0, .ref (g 9), .int 0, .ref (g 10), .int 0, .int 0, .int 0, .ref (g 11), .ref (g 12), .ref (g 13)])), ((g 11), .inl (cT 0, 4, .inl (f_15))), ((g 12), .inl (cT 0, 4, .inl (f_16))), ((g 13), .inl (cT 1, 160, .inr (.inl (fun _ => 0))))] := ⟨_, hP, hD⟩
          refine lv_iconst (v := 0) hx hb dX9_numbers_61 (by decide) ?_
          refine lv_istore (lv' := [(4, .int 0), (0, .ref h0), (1, .int 1), (2, .int y), (3, .int z)]) hx hb dX9_numbers_62 hl (by decide) rfl (fun ls hl => ?_)
          refine (fun (key : ∀ (n9 k9 : Nat) (f9_0 : Nat → Int64) (H : Heap) (locs : List Loc) (ls : Array Slot), (k9 : Int) ≤ z.toInt → z.toInt < (k9 : Int) + n9 → va_P D classes [(h0, .inr (9, [.int 0, .ref (g 0), .ref (g 1), .ref (g 2), .ref (g 3), .int 0, .int 0, .int 0, .int 0, .int 0, .int 0, .int 0, .int 0, .int 0, .int (-1), .ref (g 4), .ref (g 5), .int 0, .int 0, .int 0, .ref (g 6), .ref (g 7), .ref (g 8), .int 0, .int 0, .int 0, .int 0, .int 0, .ref (g 9), .int 0, .ref (g 10), .int 0, .int 0, .int 0, .ref (g 11), .ref (g 12), .ref (g 13)])), ((g 11), .inl (cT 0, 4, .inl (f_15))), ((g 12), .inl (cT 0, 4, .inl (f_16))), ((g 13), .inl (cT 1, 160, .inr (.inl (f9_0))))] H → va_D A [(h0, .inr (9, [.int 0, .ref (g 0), .ref (g 1), .ref (g 2), .ref (g 3), .int 0, .int 0, .int 0, .int 0, .int 0, .int 0, .int 0, .int 0, .int 0, .int (-1), .ref (g 4), .ref (g 5), .int 0, .int 0, .int 0, .ref (g 6), .ref (g 7), .ref (g 8), .int 0, .int 0, .int 0, .int 0, .int 0, .ref (g 9), .int 0, .ref (g 10), .int 0, .int 0, .int 0, .ref (g 11), .ref (g 12), .ref (g 13)])), ((g 11), .inl (cT 0, 4, .inl (f_15))), ((g 12), .inl (cT 0, 4, .inl (f_16))), ((g 13), .inl (cT 1, 160, .inr (.inl (f9_0))))] → va_S A s.heap H locs → lv_has ls 5 [(4, .int (nI k9)), (0, .ref h0), (1, .int 1), (2, .int y), (3, .int z)] → W p l e _ s m _ below meth c H locs _ _ _ (F0 m 64 ls [])) => key (Int.toNat (z.toInt) + 1) 0 _ _ _ _ (by omega) (by omega) hP hD hS (lv_sub hl [0, 1, 2, 3, 4] rfl)) ?_
          intro n9
          induction n9 with
          | zero => intro k9 f9_0 H locs ls h1 h2; exact absurd h2 (by omega)
          | succ n9 ih =>
            intro k9 f9_0 H locs ls h1 h2 hP hD hS hl
            refine lv_iload hx hb dX9_numbers_64 (lv_at hl 0 rfl) ?_
            refine lv_iload_n hx hb dX9_numbers_66 rfl (lv_at hl 4 rfl) ?_
            refine lv_icmp_ge (tgt := 89) hx hb dX9_numbers_67 (by decide) (fun c_17 => ?_) (fun c_17 => ?_)
            · have ic_17 : z.toInt ≤ ((k9 : Nat) : Int) := ile c_17 (rfl) (nI_toInt (by omega))
              refine lv_iconst (v := 0) hx hb dX9_numbers_89 (by decide) ?_
              exact x_iret hx hb hr hlk hP hD hS [] (()) rfl (by decide) (by first | rfl | decide | (exfalso; omega) | (try simp only [ti_0, ti_1, ti_2, ti_3, ti_4, ti_5, ti_6, ti_7, ti_8, ti_9, ti_10, ti_11, ti_12]); (repeat (first | rw [if_pos (by first | assumption | omega | trivial)] | rw [if_neg (by first | assumption | omega)]))) (by decide) (by decide) dX9_numbers_90
            · have ic_17 : ((k9 : Nat) : Int) < z.toInt := inle c_17 (rfl) (nI_toInt (by omega))
              refine lv_aload_n hx hb dX9_numbers_70 rfl (lv_at hl 1 rfl) ?_
              refine va_get (D := D) (ci := 9) (v := .ref (g 13)) (C := RX9) (T := TX9) (N := 37) hx hb htg gRX9 hown hK hP 0 rfl rfl 36 (by decide) (htg _ wi_1186) (fun _ h9 => h9) rfl dX9_numbers_71 ?_
              refine lv_bipush (v := 40) hx hb dX9_numbers_74 (by decide) ?_
              refine lv_iload_n hx hb dX9_numbers_76 rfl (lv_at hl 2 rfl) ?_
              refine lv_imul hx hb dX9_numbers_77 ?_
              refine lv_is (y := 40) (by decide) ?_
              refine lv_iload hx hb dX9_numbers_78 (lv_at hl 0 rfl) ?_
              refine lv_iadd hx hb dX9_numbers_80 ?_
              refine lv_is (y := nI (40 + k9)) (nI_add 40 (k9)) ?_
              refine lv_lconst (v := 0) hx hb dX9_numbers_81 (by decide) ?_
              refine va_last hx hb hK hP hD hS 3 1 rfl rfl (vp_in_nI (by omega) (by omega)) dX9_numbers_82 (fun H locs hP hD hS => ?_)
              obtain ⟨f_18, hP, hD⟩ : ∃ f_18 : Nat → Int64, va_P D classes [(h0, .inr (9, [.int 0, .ref (g 0), .ref (g 1), .ref (g 2), .ref (g 3), .int 0, .int 0, .int 0, .int 0, .int 0, .int 0, .int 0, .int 0, .int 0, .int (-1), .ref (g 4), .ref (g 5), .int 0, .int 0, .int 0, .ref (g 6), .ref (g 7), .ref (g 8), .int 0, .int 0, .int 0, .int 0, .int 0, .ref (g 9), .int 0, .ref (g 10), .int 0, .int 0, .int 0, .ref (g 11), .ref (g 12), .ref (g 13)])), ((g 11), .inl (cT 0, 4, .inl (f_15))), ((g 12), .inl (cT 0, 4, .inl (f_16))), ((g 13), .inl (cT 1, 160, .inr (.inl (f_18))))] H ∧ va_D A [(h0, .inr (9, [.int 0, .ref (g 0), .ref (g 1), .ref (g 2), .ref (g 3), .int 0, .int 0, .int 0, .int 0, .int 0, .int 0, .int 0, .int 0, .int 0, .int (-1), .ref (g 4), .ref (g 5), .int 0, .int 0, .int 0, .ref (g 6), .ref (g 7), .ref (g 8), .int 0, .int 0, .int 0, .int 0, .int 0, .ref (g 9), .int 0, .ref (g 10), .int 0, .int 0, .int 0, .ref (g 11), .ref (g 12), .ref (g 13)])), ((g 11), .inl (cT 0, 4, .inl (f_15))), ((g 12), .inl (cT 0, 4, .inl (f_16))), ((g 13), .inl (cT 1, 160, .inr (.inl (f_18))))] := ⟨_, hP, hD⟩
              refine lv_iinc (v := (nI (k9 + 1))) (lv' := [(4, .int (nI (k9 + 1))), (0, .ref h0), (1, .int 1), (2, .int y), (3, .int z)]) hx hb dX9_numbers_83 hl (k := 0) rfl (by exact nI_1 (k9)) (by decide) rfl (fun ls hl => ?_)
              refine lv_goto (tgt := 64) hx hb dX9_numbers_86 (by decide) ?_
              exact ih (k9 + 1) _ _ _ _ (by omega) (by omega) hP hD hS (lv_sub hl [0, 1, 2, 3, 4] rfl)
        · refine lv_aload_n hx hb dX9_numbers_47 rfl (lv_at hl 0 rfl) ?_
          refine va_get (D := D) (ci := 9) (v := .ref (g 11)) (C := RX9) (T := TX9) (N := 37) hx hb htg gRX9 hown hK hP 0 rfl rfl 34 (by decide) (htg _ wi_1184) (fun _ h9 => h9) rfl dX9_numbers_48 ?_
          refine lv_iload_n hx hb dX9_numbers_51 rfl (lv_at hl 1 rfl) ?_
          refine lv_iload_n hx hb dX9_numbers_52 rfl (lv_at hl 2 rfl) ?_
          refine va_iast hx hb hK hP hD hS 1 0 rfl rfl (by unfold vp_in; decide) dX9_numbers_53 (fun H locs hP hD hS => ?_)
          obtain ⟨f_19, hP, hD⟩ : ∃ f_19 : Nat → Int32, va_P D classes [(h0, .inr (9, [.int 0, .ref (g 0), .ref (g 1), .ref (g 2), .ref (g 3), .int 0, .int 0, .int 0, .int 0, .int 0, .int 0, .int 0, .int 0, .int 0, .int (-1), .ref (g 4), .ref (g 5), .int 0, .int 0, .int 0, .ref (g 6), .ref (g 7), .ref (g 8), .int 0, .int 0, .int 0, .int 0, .int 0, .ref (g 9), .int 0, .ref (g 10), .int 0, .int 0, .int 0, .ref (g 11), .ref (g 12), .ref (g 13)])), ((g 11), .inl (cT 0, 4, .inl (f_19))), ((g 12), .inl (cT 0, 4, .inl (fun _ => 0))), ((g 13), .inl (cT 1, 160, .inr (.inl (fun _ => 0))))] H ∧ va_D A [(h0, .inr (9, [.int 0, .ref (g 0), .ref (g 1), .ref (g 2), .ref (g 3), .int 0, .int 0, .int 0, .int 0, .int 0, .int 0, .int 0, .int 0, .int 0, .int (-1), .ref (g 4), .ref (g 5), .int 0, .int 0, .int 0, .ref (g 6), .ref (g 7), .ref (g 8), .int 0, .int 0, .int 0, .int 0, .int 0, .ref (g 9), .int 0, .ref (g 10), .int 0, .int 0, .int 0, .ref (g 11), .ref (g 12), .ref (g 13)])), ((g 11), .inl (cT 0, 4, .inl (f_19))), ((g 12), .inl (cT 0, 4, .inl (fun _ => 0))), ((g 13), .inl (cT 1, 160, .inr (.inl (fun _ => 0))))] := ⟨_, hP, hD⟩
          refine lv_aload_n hx hb dX9_numbers_54 rfl (lv_at hl 0 rfl) ?_
          refine va_get (D := D) (ci := 9) (v := .ref (g 12)) (C := RX9) (T := TX9) (N := 37) hx hb htg gRX9 hown hK hP 0 rfl rfl 35 (by decide) (htg _ wi_1185) (fun _ h9 => h9) rfl dX9_numbers_55 ?_
          refine lv_iload_n hx hb dX9_numbers_58 rfl (lv_at hl 1 rfl) ?_
          refine lv_iload_n hx hb dX9_numbers_59 rfl (lv_at hl 3 rfl) ?_
          refine va_iast hx hb hK hP hD hS 2 0 rfl rfl (by unfold vp_in; decide) dX9_numbers_60 (fun H locs hP hD hS => ?_)
          obtain ⟨f_20, hP, hD⟩ : ∃ f_20 : Nat → Int32, va_P D classes [(h0, .inr (9, [.int 0, .ref (g 0), .ref (g 1), .ref (g 2), .ref (g 3), .int 0, .int 0, .int 0, .int 0, .int 0, .int 0, .int 0, .int 0, .int 0, .int (-1), .ref (g 4), .ref (g 5), .int 0, .int 0, .int 0, .ref (g 6), .ref (g 7), .ref (g 8), .int 0, .int 0, .int 0, .int 0, .int 0, .ref (g 9), .int 0, .ref (g 10), .int 0, .int 0, .int 0, .ref (g 11), .ref (g 12), .ref (g 13)])), ((g 11), .inl (cT 0, 4, .inl (f_19))), ((g 12), .inl (cT 0, 4, .inl (f_20))), ((g 13), .inl (cT 1, 160, .inr (.inl (fun _ => 0))))] H ∧ va_D A [(h0, .inr (9, [.int 0, .ref (g 0), .ref (g 1), .ref (g 2), .ref (g 3), .int 0, .int 0, .int 0, .int 0, .int 0, .int 0, .int 0, .int 0, .int 0, .int (-1), .ref (g 4), .ref (g 5), .int 0, .int 0, .int 0, .ref (g 6), .ref (g 7), .ref (g 8), .int 0, .int 0, .int 0, .int 0, .int 0, .ref (g 9), .int 0, .ref (g 10), .int 0, .int 0, .int 0, .ref (g 11), .ref (g 12), .ref (g 13)])), ((g 11), .inl (cT 0, 4, .inl (f_19))), ((g 12), .inl (cT 0, 4, .inl (f_20))), ((g 13), .inl (cT 1, 160, .inr (.inl (fun _ => 0))))] := ⟨_, hP, hD⟩
          refine lv_iconst (v := 0) hx hb dX9_numbers_61 (by decide) ?_
          refine lv_istore (lv' := [(4, .int 0), (0, .ref h0), (1, .int 2), (2, .int y), (3, .int z)]) hx hb dX9_numbers_62 hl (by decide) rfl (fun ls hl => ?_)
          refine (fun (key : ∀ (n9 k9 : Nat) (f9_0 : Nat → Int64) (H : Heap) (locs : List Loc) (ls : Array Slot), (k9 : Int) ≤ z.toInt → z.toInt < (k9 : Int) + n9 → va_P D classes [(h0, .inr (9, [.int 0, .ref (g 0), .ref (g 1), .ref (g 2), .ref (g 3), .int 0, .int 0, .int 0, .int 0, .int 0, .int 0, .int 0, .int 0, .int 0, .int (-1), .ref (g 4), .ref (g 5), .int 0, .int 0, .int 0, .ref (g 6), .ref (g 7), .ref (g 8), .int 0, .int 0, .int 0, .int 0, .int 0, .ref (g 9), .int 0, .ref (g 10), .int 0, .int 0, .int 0, .ref (g 11), .ref (g 12), .ref (g 13)])), ((g 11), .inl (cT 0, 4, .inl (f_19))), ((g 12), .inl (cT 0, 4, .inl (f_20))), ((g 13), .inl (cT 1, 160, .inr (.inl (f9_0))))] H → va_D A [(h0, .inr (9, [.int 0, .ref (g 0), .ref (g 1), .ref (g 2), .ref (g 3), .int 0, .int 0, .int 0, .int 0, .int 0, .int 0, .int 0, .int 0, .int 0, .int (-1), .ref (g 4), .ref (g 5), .int 0, .int 0, .int 0, .ref (g 6), .ref (g 7), .ref (g 8), .int 0, .int 0, .int 0, .int 0, .int 0, .ref (g 9), .int 0, .ref (g 10), .int 0, .int 0, .int 0, .ref (g 11), .ref (g 12), .ref (g 13)])), ((g 11), .inl (cT 0, 4, .inl (f_19))), ((g 12), .inl (cT 0, 4, .inl (f_20))), ((g 13), .inl (cT 1, 160, .inr (.inl (f9_0))))] → va_S A s.heap H locs → lv_has ls 5 [(4, .int (nI k9)), (0, .ref h0), (1, .int 2), (2, .int y), (3, .int z)] → W p l e _ s m _ below meth c H locs _ _ _ (F0 m 64 ls [])) => key (Int.toNat (z.toInt) + 1) 0 _ _ _ _ (by omega) (by omega) hP hD hS (lv_sub hl [0, 1, 2, 3, 4] rfl)) ?_
          intro n9
          induction n9 with
          | zero => intro k9 f9_0 H locs ls h1 h2; exact absurd h2 (by omega)
          | succ n9 ih =>
            intro k9 f9_0 H locs ls h1 h2 hP hD hS hl
            refine lv_iload hx hb dX9_numbers_64 (lv_at hl 0 rfl) ?_
            refine lv_iload_n hx hb dX9_numbers_66 rfl (lv_at hl 4 rfl) ?_
            refine lv_icmp_ge (tgt := 89) hx hb dX9_numbers_67 (by decide) (fun c_21 => ?_) (fun c_21 => ?_)
            · have ic_21 : z.toInt ≤ ((k9 : Nat) : Int) := ile c_21 (rfl) (nI_toInt (by omega))
              refine lv_iconst (v := 0) hx hb dX9_numbers_89 (by decide) ?_
              exact x_iret hx hb hr hlk hP hD hS [] (()) rfl (by decide) (by first | rfl | decide | (exfalso; omega) | (try simp only [ti_0, ti_1, ti_2, ti_3, ti_4, ti_5, ti_6, ti_7, ti_8, ti_9, ti_10, ti_11, ti_12]); (repeat (first | rw [if_pos (by first | assumption | omega | trivial)] | rw [if_neg (by first | assumption | omega)]))) (by decide) (by decide) dX9_numbers_90
            · have ic_21 : ((k9 : Nat) : Int) < z.toInt := inle c_21 (rfl) (nI_toInt (by omega))
              refine lv_aload_n hx hb dX9_numbers_70 rfl (lv_at hl 1 rfl) ?_
              refine va_get (D := D) (ci := 9) (v := .ref (g 13)) (C := RX9) (T := TX9) (N := 37) hx hb htg gRX9 hown hK hP 0 rfl rfl 36 (by decide) (htg _ wi_1186) (fun _ h9 => h9) rfl dX9_numbers_71 ?_
              refine lv_bipush (v := 40) hx hb dX9_numbers_74 (by decide) ?_
              refine lv_iload_n hx hb dX9_numbers_76 rfl (lv_at hl 2 rfl) ?_
              refine lv_imul hx hb dX9_numbers_77 ?_
              refine lv_is (y := 80) (by decide) ?_
              refine lv_iload hx hb dX9_numbers_78 (lv_at hl 0 rfl) ?_
              refine lv_iadd hx hb dX9_numbers_80 ?_
              refine lv_is (y := nI (80 + k9)) (nI_add 80 (k9)) ?_
              refine lv_lconst (v := 0) hx hb dX9_numbers_81 (by decide) ?_
              refine va_last hx hb hK hP hD hS 3 1 rfl rfl (vp_in_nI (by omega) (by omega)) dX9_numbers_82 (fun H locs hP hD hS => ?_)
              obtain ⟨f_22, hP, hD⟩ : ∃ f_22 : Nat → Int64, va_P D classes [(h0, .inr (9, [.int 0, .ref (g 0), .ref (g 1), .ref (g 2), .ref (g 3), .int 0, .int 0, .int 0, .int 0, .int 0, .int 0, .int 0, .int 0, .int 0, .int (-1), .ref (g 4), .ref (g 5), .int 0, .int 0, .int 0, .ref (g 6), .ref (g 7), .ref (g 8), .int 0, .int 0, .int 0, .int 0, .int 0, .ref (g 9), .int 0, .ref (g 10), .int 0, .int 0, .int 0, .ref (g 11), .ref (g 12), .ref (g 13)])), ((g 11), .inl (cT 0, 4, .inl (f_19))), ((g 12), .inl (cT 0, 4, .inl (f_20))), ((g 13), .inl (cT 1, 160, .inr (.inl (f_22))))] H ∧ va_D A [(h0, .inr (9, [.int 0, .ref (g 0), .ref (g 1), .ref (g 2), .ref (g 3), .int 0, .int 0, .int 0, .int 0, .int 0, .int 0, .int 0, .int 0, .int 0, .int (-1), .ref (g 4), .ref (g 5), .int 0, .int 0, .int 0, .ref (g 6), .ref (g 7), .ref (g 8), .int 0, .int 0, .int 0, .int 0, .int 0, .ref (g 9), .int 0, .ref (g 10), .int 0, .int 0, .int 0, .ref (g 11), .ref (g 12), .ref (g 13)])), ((g 11), .inl (cT 0, 4, .inl (f_19))), ((g 12), .inl (cT 0, 4, .inl (f_20))), ((g 13), .inl (cT 1, 160, .inr (.inl (f_22))))] := ⟨_, hP, hD⟩
              refine lv_iinc (v := (nI (k9 + 1))) (lv' := [(4, .int (nI (k9 + 1))), (0, .ref h0), (1, .int 2), (2, .int y), (3, .int z)]) hx hb dX9_numbers_83 hl (k := 0) rfl (by exact nI_1 (k9)) (by decide) rfl (fun ls hl => ?_)
              refine lv_goto (tgt := 64) hx hb dX9_numbers_86 (by decide) ?_
              exact ih (k9 + 1) _ _ _ _ (by omega) (by omega) hP hD hS (lv_sub hl [0, 1, 2, 3, 4] rfl)
        · refine lv_aload_n hx hb dX9_numbers_47 rfl (lv_at hl 0 rfl) ?_
          refine va_get (D := D) (ci := 9) (v := .ref (g 11)) (C := RX9) (T := TX9) (N := 37) hx hb htg gRX9 hown hK hP 0 rfl rfl 34 (by decide) (htg _ wi_1184) (fun _ h9 => h9) rfl dX9_numbers_48 ?_
          refine lv_iload_n hx hb dX9_numbers_51 rfl (lv_at hl 1 rfl) ?_
          refine lv_iload_n hx hb dX9_numbers_52 rfl (lv_at hl 2 rfl) ?_
          refine va_iast hx hb hK hP hD hS 1 0 rfl rfl (by unfold vp_in; decide) dX9_numbers_53 (fun H locs hP hD hS => ?_)
          obtain ⟨f_23, hP, hD⟩ : ∃ f_23 : Nat → Int32, va_P D classes [(h0, .inr (9, [.int 0, .ref (g 0), .ref (g 1), .ref (g 2), .ref (g 3), .int 0, .int 0, .int 0, .int 0, .int 0, .int 0, .int 0, .int 0, .int 0, .int (-1), .ref (g 4), .ref (g 5), .int 0, .int 0, .int 0, .ref (g 6), .ref (g 7), .ref (g 8), .int 0, .int 0, .int 0, .int 0, .int 0, .ref (g 9), .int 0, .ref (g 10), .int 0, .int 0, .int 0, .ref (g 11), .ref (g 12), .ref (g 13)])), ((g 11), .inl (cT 0, 4, .inl (f_23))), ((g 12), .inl (cT 0, 4, .inl (fun _ => 0))), ((g 13), .inl (cT 1, 160, .inr (.inl (fun _ => 0))))] H ∧ va_D A [(h0, .inr (9, [.int 0, .ref (g 0), .ref (g 1), .ref (g 2), .ref (g 3), .int 0, .int 0, .int 0, .int 0, .int 0, .int 0, .int 0, .int 0, .int 0, .int (-1), .ref (g 4), .ref (g 5), .int 0, .int 0, .int 0, .ref (g 6), .ref (g 7), .ref (g 8), .int 0, .int 0, .int 0, .int 0, .int 0, .ref (g 9), .int 0, .ref (g 10), .int 0, .int 0, .int 0, .ref (g 11), .ref (g 12), .ref (g 13)])), ((g 11), .inl (cT 0, 4, .inl (f_23))), ((g 12), .inl (cT 0, 4, .inl (fun _ => 0))), ((g 13), .inl (cT 1, 160, .inr (.inl (fun _ => 0))))] := ⟨_, hP, hD⟩
          refine lv_aload_n hx hb dX9_numbers_54 rfl (lv_at hl 0 rfl) ?_
          refine va_get (D := D) (ci := 9) (v := .ref (g 12)) (C := RX9) (T := TX9) (N := 37) hx hb htg gRX9 hown hK hP 0 rfl rfl 35 (by decide) (htg _ wi_1185) (fun _ h9 => h9) rfl dX9_numbers_55 ?_
          refine lv_iload_n hx hb dX9_numbers_58 rfl (lv_at hl 1 rfl) ?_
          refine lv_iload_n hx hb dX9_numbers_59 rfl (lv_at hl 3 rfl) ?_
          refine va_iast hx hb hK hP hD hS 2 0 rfl rfl (by unfold vp_in; decide) dX9_numbers_60 (fun H locs hP hD hS => ?_)
          obtain ⟨f_24, hP, hD⟩ : ∃ f_24 : Nat → Int32, va_P D classes [(h0, .inr (9, [.int 0, .ref (g 0), .ref (g 1), .ref (g 2), .ref (g 3), .int 0, .int 0, .int 0, .int 0, .int 0, .int 0, .int 0, .int 0, .int 0, .int (-1), .ref (g 4), .ref (g 5), .int 0, .int 0, .int 0, .ref (g 6), .ref (g 7), .ref (g 8), .int 0, .int 0, .int 0, .int 0, .int 0, .ref (g 9), .int 0, .ref (g 10), .int 0, .int 0, .int 0, .ref (g 11), .ref (g 12), .ref (g 13)])), ((g 11), .inl (cT 0, 4, .inl (f_23))), ((g 12), .inl (cT 0, 4, .inl (f_24))), ((g 13), .inl (cT 1, 160, .inr (.inl (fun _ => 0))))] H ∧ va_D A [(h0, .inr (9, [.int 0, .ref (g 0), .ref (g 1), .ref (g 2), .ref (g 3), .int 0, .int 0, .int 0, .int 0, .int 0, .int 0, .int 0, .int 0, .int 0, .int (-1), .ref (g 4), .ref (g 5), .int 0, .int 0, .int 0, .ref (g 6), .ref (g 7), .ref (g 8), .int 0, .int 0, .int 0, .int 0, .int 0, .ref (g 9), .int 0, .ref (g 10), .int 0, .int 0, .int 0, .ref (g 11), .ref (g 12), .ref (g 13)])), ((g 11), .inl (cT 0, 4, .inl (f_23))), ((g 12), .inl (cT 0, 4, .inl (f_24))), ((g 13), .inl (cT 1, 160, .inr (.inl (fun _ => 0))))] := ⟨_, hP, hD⟩
          refine lv_iconst (v := 0) hx hb dX9_numbers_61 (by decide) ?_
          refine lv_istore (lv' := [(4, .int 0), (0, .ref h0), (1, .int 3), (2, .int y), (3, .int z)]) hx hb dX9_numbers_62 hl (by decide) rfl (fun ls hl => ?_)
          refine (fun (key : ∀ (n9 k9 : Nat) (f9_0 : Nat → Int64) (H : Heap) (locs : List Loc) (ls : Array Slot), (k9 : Int) ≤ z.toInt → z.toInt < (k9 : Int) + n9 → va_P D classes [(h0, .inr (9, [.int 0, .ref (g 0), .ref (g 1), .ref (g 2), .ref (g 3), .int 0, .int 0, .int 0, .int 0, .int 0, .int 0, .int 0, .int 0, .int 0, .int (-1), .ref (g 4), .ref (g 5), .int 0, .int 0, .int 0, .ref (g 6), .ref (g 7), .ref (g 8), .int 0, .int 0, .int 0, .int 0, .int 0, .ref (g 9), .int 0, .ref (g 10), .int 0, .int 0, .int 0, .ref (g 11), .ref (g 12), .ref (g 13)])), ((g 11), .inl (cT 0, 4, .inl (f_23))), ((g 12), .inl (cT 0, 4, .inl (f_24))), ((g 13), .inl (cT 1, 160, .inr (.inl (f9_0))))] H → va_D A [(h0, .inr (9, [.int 0, .ref (g 0), .ref (g 1), .ref (g 2), .ref (g 3), .int 0, .int 0, .int 0, .int 0, .int 0, .int 0, .int 0, .int 0, .int 0, .int (-1), .ref (g 4), .ref (g 5), .int 0, .int 0, .int 0, .ref (g 6), .ref (g 7), .ref (g 8), .int 0, .int 0, .int 0, .int 0, .int 0, .ref (g 9), .int 0, .ref (g 10), .int 0, .int 0, .int 0, .ref (g 11), .ref (g 12), .ref (g 13)])), ((g 11), .inl (cT 0, 4, .inl (f_23))), ((g 12), .inl (cT 0, 4, .inl (f_24))), ((g 13), .inl (cT 1, 160, .inr (.inl (f9_0))))] → va_S A s.heap H locs → lv_has ls 5 [(4, .int (nI k9)), (0, .ref h0), (1, .int 3), (2, .int y), (3, .int z)] → W p l e _ s m _ below meth c H locs _ _ _ (F0 m 64 ls [])) => key (Int.toNat (z.toInt) + 1) 0 _ _ _ _ (by omega) (by omega) hP hD hS (lv_sub hl [0, 1, 2, 3, 4] rfl)) ?_
          intro n9
          induction n9 with
          | zero => intro k9 f9_0 H locs ls h1 h2; exact absurd h2 (by omega)
          | succ n9 ih =>
            intro k9 f9_0 H locs ls h1 h2 hP hD hS hl
            refine lv_iload hx hb dX9_numbers_64 (lv_at hl 0 rfl) ?_
            refine lv_iload_n hx hb dX9_numbers_66 rfl (lv_at hl 4 rfl) ?_
            refine lv_icmp_ge (tgt := 89) hx hb dX9_numbers_67 (by decide) (fun c_25 => ?_) (fun c_25 => ?_)
            · have ic_25 : z.toInt ≤ ((k9 : Nat) : Int) := ile c_25 (rfl) (nI_toInt (by omega))
              refine lv_iconst (v := 0) hx hb dX9_numbers_89 (by decide) ?_
              exact x_iret hx hb hr hlk hP hD hS [] (()) rfl (by decide) (by first | rfl | decide | (exfalso; omega) | (try simp only [ti_0, ti_1, ti_2, ti_3, ti_4, ti_5, ti_6, ti_7, ti_8, ti_9, ti_10, ti_11, ti_12]); (repeat (first | rw [if_pos (by first | assumption | omega | trivial)] | rw [if_neg (by first | assumption | omega)]))) (by decide) (by decide) dX9_numbers_90
            · have ic_25 : ((k9 : Nat) : Int) < z.toInt := inle c_25 (rfl) (nI_toInt (by omega))
              refine lv_aload_n hx hb dX9_numbers_70 rfl (lv_at hl 1 rfl) ?_
              refine va_get (D := D) (ci := 9) (v := .ref (g 13)) (C := RX9) (T := TX9) (N := 37) hx hb htg gRX9 hown hK hP 0 rfl rfl 36 (by decide) (htg _ wi_1186) (fun _ h9 => h9) rfl dX9_numbers_71 ?_
              refine lv_bipush (v := 40) hx hb dX9_numbers_74 (by decide) ?_
              refine lv_iload_n hx hb dX9_numbers_76 rfl (lv_at hl 2 rfl) ?_
              refine lv_imul hx hb dX9_numbers_77 ?_
              refine lv_is (y := 120) (by decide) ?_
              refine lv_iload hx hb dX9_numbers_78 (lv_at hl 0 rfl) ?_
              refine lv_iadd hx hb dX9_numbers_80 ?_
              refine lv_is (y := nI (120 + k9)) (nI_add 120 (k9)) ?_
              refine lv_lconst (v := 0) hx hb dX9_numbers_81 (by decide) ?_
              refine va_last hx hb hK hP hD hS 3 1 rfl rfl (vp_in_nI (by omega) (by omega)) dX9_numbers_82 (fun H locs hP hD hS => ?_)
              obtain ⟨f_26, hP, hD⟩ : ∃ f_26 : Nat → Int64, va_P D classes [(h0, .inr (9, [.int 0, .ref (g 0), .ref (g 1), .ref (g 2), .ref (g 3), .int 0, .int 0, .int 0, .int 0, .int 0, .int 0, .int 0, .int 0, .int 0, .int (-1), .ref (g 4), .ref (g 5), .int 0, .int 0, .int 0, .ref (g 6), .ref (g 7), .ref (g 8), .int 0, .int 0, .int 0, .int 0, .int 0, .ref (g 9), .int 0, .ref (g 10), .int 0, .int 0, .int 0, .ref (g 11), .ref (g 12), .ref (g 13)])), ((g 11), .inl (cT 0, 4, .inl (f_23))), ((g 12), .inl (cT 0, 4, .inl (f_24))), ((g 13), .inl (cT 1, 160, .inr (.inl (f_26))))] H ∧ va_D A [(h0, .inr (9, [.int 0, .ref (g 0), .ref (g 1), .ref (g 2), .ref (g 3), .int 0, .int 0, .int 0, .int 0, .int 0, .int 0, .int 0, .int 0, .int 0, .int (-1), .ref (g 4), .ref (g 5), .int 0, .int 0, .int 0, .ref (g 6), .ref (g 7), .ref (g 8), .int 0, .int 0, .int 0, .int 0, .int 0, .ref (g 9), .int 0, .ref (g 10), .int 0, .int 0, .int 0, .ref (g 11), .ref (g 12), .ref (g 13)])), ((g 11), .inl (cT 0, 4, .inl (f_23))), ((g 12), .inl (cT 0, 4, .inl (f_24))), ((g 13), .inl (cT 1, 160, .inr (.inl (f_26))))] := ⟨_, hP, hD⟩
              refine lv_iinc (v := (nI (k9 + 1))) (lv' := [(4, .int (nI (k9 + 1))), (0, .ref h0), (1, .int 3), (2, .int y), (3, .int z)]) hx hb dX9_numbers_83 hl (k := 0) rfl (by exact nI_1 (k9)) (by decide) rfl (fun ls hl => ?_)
              refine lv_goto (tgt := 64) hx hb dX9_numbers_86 (by decide) ?_
              exact ih (k9 + 1) _ _ _ _ (by omega) (by omega) hP hD hS (lv_sub hl [0, 1, 2, 3, 4] rfl)
      · have ic_9 := if0 hwr_8 c_9
        refine lv_bipush (v := (-3)) hx hb dX9_numbers_44 (by decide) ?_
        exact x_iret hx hb hr hlk hP hD hS [] (()) rfl (by decide) (by first | rfl | decide | (exfalso; omega) | (try simp only [ti_0, ti_1, ti_2, ti_3, ti_4, ti_5, ti_6, ti_7, ti_8, ti_9, ti_10, ti_11, ti_12]); (repeat (first | rw [if_pos (by first | assumption | omega | trivial)] | rw [if_neg (by first | assumption | omega)]))) (by decide) (by decide) dX9_numbers_46
    · have ic_6 := if0 hwr_5 c_6
      refine lv_bipush (v := (-2)) hx hb dX9_numbers_29 (by decide) ?_
      exact x_iret hx hb hr hlk hP hD hS [] (()) rfl (by decide) (by first | rfl | decide | (exfalso; omega) | (try simp only [ti_0, ti_1, ti_2, ti_3, ti_4, ti_5, ti_6, ti_7, ti_8, ti_9, ti_10, ti_11, ti_12]); (repeat (first | rw [if_pos (by first | assumption | omega | trivial)] | rw [if_neg (by first | assumption | omega)]))) (by decide) (by decide) dX9_numbers_31
