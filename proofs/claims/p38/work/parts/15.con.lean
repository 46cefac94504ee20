set_option maxHeartbeats 4000000 in
set_option maxRecDepth 100000 in
theorem g_k_count (l : Launch) (D : va_G) (cT : Nat → ClassId) (sz : Nat) (h0 : Nat) (q : Nat → Nat) (n1 : Int32) (hn1 : 0 ≤ n1.toInt ∧ n1.toInt ≤ 900) (p0 : Int32) (p1 : Int32) (p2 : Int32) (p3 : Int32) (p4 : Int32) (p5 : Int32) (p6 : Int32) (p7 : Int32) (p8 : Int32) (p9 : Int32) (hs : 0 ≤ p0.toInt ∧ p0.toInt ≤ 16) (hat : 0 ≤ p3.toInt ∧ p3.toInt ≤ 15) (x : Int32) (f0 : Nat → Int32) (f4 : Nat → Int32) : Met l yX8_count (wsc yX8_count cX8_count 2 (some .int)) { frames := 3, cells := 0, slots := 0, locals := 123 } (va_Pc [.ref h0, .int x] (PX D cT sz [(sw_8 h0 q n1), (sw_3 (q 2) p0 p1 p2 p3 p4 p5 p6 p7 p8 p9 (q 12) (q 13) (q 14) (q 15) (q 16) (q 17)), (sw_in cT (q 12) 16 f0), (sw_in cT (q 16) 16 f4)])) (va_Qi (fun (r : Int32) (u : Unit) => True) (fun u t => RW D (va_A [(sw_8 h0 q n1), (sw_3 (q 2) p0 p1 p2 p3 p4 p5 p6 p7 p8 p9 (q 12) (q 13) (q 14) (q 15) (q 16) (q 17)), (sw_in cT (q 12) 16 f0), (sw_in cT (q 16) 16 f4)] sz) ((fun _ : Unit => [(sw_8 h0 q n1), (sw_3 (q 2) p0 p1 p2 p3 p4 p5 p6 p7 p8 p9 (q 12) (q 13) (q 14) (q 15) (q 16) (q 17)), (sw_in cT (q 12) 16 f0), (sw_in cT (q 16) 16 f4)]) u) t) (va_A [(sw_8 h0 q n1), (sw_3 (q 2) p0 p1 p2 p3 p4 p5 p6 p7 p8 p9 (q 12) (q 13) (q 14) (q 15) (q 16) (q 17)), (sw_in cT (q 12) 16 f0), (sw_in cT (q 16) 16 f4)] sz)) 0 0 (va_A [(sw_8 h0 q n1), (sw_3 (q 2) p0 p1 p2 p3 p4 p5 p6 p7 p8 p9 (q 12) (q 13) (q 14) (q 15) (q 16) (q 17)), (sw_in cT (q 12) 16 f0), (sw_in cT (q 16) 16 f4)] sz) := by
  refine m_of (y := yX8_count) (cc := cX8_count) (nL := 2) (ret := (some .int)) (D := D) (cT := cT) (av := [.ref h0, .int x]) (wi := [(sw_8 h0 q n1), (sw_3 (q 2) p0 p1 p2 p3 p4 p5 p6 p7 p8 p9 (q 12) (q 13) (q 14) (q 15) (q 16) (q 17)), (sw_in cT (q 12) 16 f0), (sw_in cT (q 16) 16 f4)]) (fun A => va_Qi (fun (r : Int32) (u : Unit) => True) (fun u t => RW D A ((fun _ : Unit => [(sw_8 h0 q n1), (sw_3 (q 2) p0 p1 p2 p3 p4 p5 p6 p7 p8 p9 (q 12) (q 13) (q 14) (q 15) (q 16) (q 17)), (sw_in cT (q 12) 16 f0), (sw_in cT (q 16) 16 f4)]) u) t) A) (by decide) (Nat.le_of_ble_eq_true rfl) ?_
  intro p e s m below meth c A hx hb hml hown htg hK hN hr hlk hnm hsz hP hD hS hA ls hl
  have hown : s.vm.findClass RX8 = some m.cls := hown
  have hl : lv_has ls 2 [(0, .ref h0), (1, .int x)] := hl
  refine lv_iload_n hx hb dX8_count_0 rfl (lv_at hl 1 rfl) ?_
  have c_1 : (x.toInt < 0 ∨ 12 < x.toInt) ∨ x = 0 ∨ x = 1 ∨ x = 2 ∨ x = 3 ∨ x = 4 ∨ x = 5 ∨ x = 6 ∨ x = 7 ∨ x = 8 ∨ x = 9 ∨ x = 10 ∨ x = 11 ∨ x = 12 := by
    rcases (show (x.toInt < 0 ∨ 12 < x.toInt) ∨ x.toInt = 0 ∨ x.toInt = 1 ∨ x.toInt = 2 ∨ x.toInt = 3 ∨ x.toInt = 4 ∨ x.toInt = 5 ∨ x.toInt = 6 ∨ x.toInt = 7 ∨ x.toInt = 8 ∨ x.toInt = 9 ∨ x.toInt = 10 ∨ x.toInt = 11 ∨ x.toInt = 12 from by omega) with h | h | h | h | h | h | h | h | h | h | h | h | h | h
    · exact Or.inl h
    · exact Or.inr (Or.inl (i32_is (h.trans (by decide))))
    · exact Or.inr (Or.inr (Or.inl (i32_is (h.trans (by decide)))))
    · exact Or.inr (Or.inr (Or.inr (Or.inl (i32_is (h.trans (by decide))))))
    · exact Or.inr (Or.inr (Or.inr (Or.inr (Or.inl (i32_is (h.trans (by decide)))))))
    · exact Or.inr (Or.inr (Or.inr (Or.inr (Or.inr (Or.inl (i32_is (h.trans (by decide))))))))
    · exact Or.inr (Or.inr (Or.inr (Or.inr (Or.inr (Or.inr (Or.inl (i32_is (h.trans (by decide)))))))))
    · exact Or.inr (Or.inr (Or.inr (Or.inr (Or.inr (Or.inr (Or.inr (Or.inl (i32_is (h.trans (by decide))))))))))
    · exact Or.inr (Or.inr (Or.inr (Or.inr (Or.inr (Or.inr (Or.inr (Or.inr (Or.inl (i32_is (h.trans (by decide)))))))))))
    · exact Or.inr (Or.inr (Or.inr (Or.inr (Or.inr (Or.inr (Or.inr (Or.inr (Or.inr (Or.inl (i32_is (h.trans (by decide))))))))))))
    · exact Or.inr (Or.inr (Or.inr (Or.inr (Or.inr (Or.inr (Or.inr (Or.inr (Or.inr (Or.inr (Or.inl (i32_is (h.trans (by decide)))))))))))))
    · exact Or.inr (Or.inr (Or.inr (Or.inr (Or.inr (Or.inr (Or.inr (Or.inr (Or.inr (Or.inr (Or.inr (Or.inl (i32_is (h.trans (by decide))))))))))))))
    · exact Or.inr (Or.inr (Or.inr (Or.inr (Or.inr (Or.inr (Or.inr (Or.inr (Or.inr (Or.inr (Or.inr (Or.inr (Or.inl (i32_is (h.trans (by decide)))))))))))))))
    · exact Or.inr (Or.inr (Or.inr (Or.inr (Or.inr (Or.inr (Or.inr (Or.inr (Or.inr (Or.inr (Or.inr (Or.inr (Or.inr (i32_is (h.trans (by decide)))))))))))))))
  rcases c_1 with c_1 | c_1 | c_1 | c_1 | c_1 | c_1 | c_1 | c_1 | c_1 | c_1 | c_1 | c_1 | c_1 | c_1
  · refine lv_tableOut (tgt := 183) hx hb dX8_count_1 c_1 (by decide) ?_
    refine lv_iconst (v := (-1)) hx hb dX8_count_183 (by decide) ?_
    exact x_iret hx hb hr hlk hP hD hS [0, 1, 2, 3] (()) rfl (by decide) trivial (by decide) (by decide) dX8_count_184
  · have ic_1 : x.toInt = 0 := ieq c_1 rfl (by decide)
    refine lv_is (y := 0) c_1 ?_
    refine lv_tableIn (off := 67) (tgt := 68) hx hb dX8_count_1 (by decide) (by decide) (by decide) (by decide) ?_
    refine lv_aload_n hx hb dX8_count_68 rfl (lv_at hl 0 rfl) ?_
    refine va_get (D := D) (ci := 8) (v := .ref (q 2)) (C := RX8) (T := TX8) (N := 13) hx hb htg gRX8 hown hK hP 0 rfl rfl 3 (by decide) (htg _ wi_470) (fun _ h9 => h9) rfl dX8_count_69 ?_
    refine va_getN (D := D) (ci := 3) (v := .int p0) (C := RX3) (T := TX3) (N := 16) hx hb htg gRX3 hown hK hP 1 rfl rfl 0 (by decide) (va_Nw.use rfl (hN.1 _ ni_172)) (fun _ h9 => h9) rfl dX8_count_72 ?_
    exact x_iret hx hb hr hlk hP hD hS [0, 1, 2, 3] (()) rfl (by decide) trivial (by decide) (by decide) dX8_count_75
  · have ic_1 : x.toInt = 1 := ieq c_1 rfl (by decide)
    refine lv_is (y := 1) c_1 ?_
    refine lv_tableIn (off := 75) (tgt := 76) hx hb dX8_count_1 (by decide) (by decide) (by decide) (by decide) ?_
    refine lv_aload_n hx hb dX8_count_76 rfl (lv_at hl 0 rfl) ?_
    refine va_get (D := D) (ci := 8) (v := .ref (q 2)) (C := RX8) (T := TX8) (N := 13) hx hb htg gRX8 hown hK hP 0 rfl rfl 3 (by decide) (htg _ wi_470) (fun _ h9 => h9) rfl dX8_count_77 ?_
    refine va_getN (D := D) (ci := 3) (v := .int p2) (C := RX3) (T := TX3) (N := 16) hx hb htg gRX3 hown hK hP 1 rfl rfl 2 (by decide) (va_Nw.use rfl (hN.1 _ ni_177)) (fun _ h9 => h9) rfl dX8_count_80 ?_
    exact x_iret hx hb hr hlk hP hD hS [0, 1, 2, 3] (()) rfl (by decide) trivial (by decide) (by decide) dX8_count_83
  · have ic_1 : x.toInt = 2 := ieq c_1 rfl (by decide)
    refine lv_is (y := 2) c_1 ?_
    refine lv_tableIn (off := 83) (tgt := 84) hx hb dX8_count_1 (by decide) (by decide) (by decide) (by decide) ?_
    refine lv_aload_n hx hb dX8_count_84 rfl (lv_at hl 0 rfl) ?_
    refine va_get (D := D) (ci := 8) (v := .ref (q 2)) (C := RX8) (T := TX8) (N := 13) hx hb htg gRX8 hown hK hP 0 rfl rfl 3 (by decide) (htg _ wi_470) (fun _ h9 => h9) rfl dX8_count_85 ?_
    refine xk_i (wr := [(sw_8 h0 q n1), (sw_in cT (q 12) 16 f0), (sw_in cT (q 16) 16 f4)]) (xr_VN (n := 0) (As := []) (rest := []) ⟨hx, hb, hml, hown, htg⟩ hK hN hP hD hS hA [1] rfl (by decide) (g_hangsOver l D cT _ ((q 2)) (fun k => [(q 12), (q 13), (q 14), (q 15), (q 16), (q 17)].getD k 0) (p0) (p1) (p2) (p3) (p4) (p5) (p6) (p7) (p8) (p9)) ni_796 wi_798 wi_36 wi_123 wi_799 rfl rfl rfl ⟨rfl, by decide +kernel⟩ ⟨Nat.le_of_ble_eq_true rfl, Nat.le_of_ble_eq_true rfl⟩ rfl hl.1 rfl (Nat.le_of_ble_eq_true rfl) dX8_count_88 ⟨Nat.le_of_ble_eq_true rfl, Nat.le_of_ble_eq_true rfl⟩) hP hD hS hA [1] [0, 2, 3] rfl rfl (by decide) (by decide) (fun r_3 u_2 H locs hwr_3 hP hD hS => ?_)
    obtain ⟨hP, hD⟩ : PD D A [(sw_8 h0 q n1), (sw_in cT (q 12) 16 f0), (sw_in cT (q 16) 16 f4), (sw_3 (q 2) p0 p1 p2 p3 p4 p5 p6 p7 p8 p9 (q 12) (q 13) (q 14) (q 15) (q 16) (q 17))] _ := ⟨hP, hD⟩
    exact x_iret hx hb hr hlk hP hD hS [0, 3, 1, 2] (()) rfl (by decide) trivial (by decide) (by decide) dX8_count_91
  · have ic_1 : x.toInt = 3 := ieq c_1 rfl (by decide)
    refine lv_is (y := 3) c_1 ?_
    refine lv_tableIn (off := 91) (tgt := 92) hx hb dX8_count_1 (by decide) (by decide) (by decide) (by decide) ?_
    refine lv_aload_n hx hb dX8_count_92 rfl (lv_at hl 0 rfl) ?_
    refine va_get (D := D) (ci := 8) (v := .ref (q 2)) (C := RX8) (T := TX8) (N := 13) hx hb htg gRX8 hown hK hP 0 rfl rfl 3 (by decide) (htg _ wi_470) (fun _ h9 => h9) rfl dX8_count_93 ?_
    refine va_getN (D := D) (ci := 3) (v := .int p4) (C := RX3) (T := TX3) (N := 16) hx hb htg gRX3 hown hK hP 1 rfl rfl 4 (by decide) (va_Nw.use rfl (hN.1 _ ni_183)) (fun _ h9 => h9) rfl dX8_count_96 ?_
    exact x_iret hx hb hr hlk hP hD hS [0, 1, 2, 3] (()) rfl (by decide) trivial (by decide) (by decide) dX8_count_99
  · have ic_1 : x.toInt = 4 := ieq c_1 rfl (by decide)
    refine lv_is (y := 4) c_1 ?_
    refine lv_tableIn (off := 99) (tgt := 100) hx hb dX8_count_1 (by decide) (by decide) (by decide) (by decide) ?_
    refine lv_aload_n hx hb dX8_count_100 rfl (lv_at hl 0 rfl) ?_
    refine va_get (D := D) (ci := 8) (v := .ref (q 2)) (C := RX8) (T := TX8) (N := 13) hx hb htg gRX8 hown hK hP 0 rfl rfl 3 (by decide) (htg _ wi_470) (fun _ h9 => h9) rfl dX8_count_101 ?_
    refine va_getN (D := D) (ci := 3) (v := .int p5) (C := RX3) (T := TX3) (N := 16) hx hb htg gRX3 hown hK hP 1 rfl rfl 5 (by decide) (va_Nw.use rfl (hN.1 _ ni_186)) (fun _ h9 => h9) rfl dX8_count_104 ?_
    exact x_iret hx hb hr hlk hP hD hS [0, 1, 2, 3] (()) rfl (by decide) trivial (by decide) (by decide) dX8_count_107
  · have ic_1 : x.toInt = 5 := ieq c_1 rfl (by decide)
    refine lv_is (y := 5) c_1 ?_
    refine lv_tableIn (off := 107) (tgt := 108) hx hb dX8_count_1 (by decide) (by decide) (by decide) (by decide) ?_
    refine lv_aload_n hx hb dX8_count_108 rfl (lv_at hl 0 rfl) ?_
    refine va_get (D := D) (ci := 8) (v := .ref (q 2)) (C := RX8) (T := TX8) (N := 13) hx hb htg gRX8 hown hK hP 0 rfl rfl 3 (by decide) (htg _ wi_470) (fun _ h9 => h9) rfl dX8_count_109 ?_
    refine va_getN (D := D) (ci := 3) (v := .int p6) (C := RX3) (T := TX3) (N := 16) hx hb htg gRX3 hown hK hP 1 rfl rfl 6 (by decide) (va_Nw.use rfl (hN.1 _ ni_189)) (fun _ h9 => h9) rfl dX8_count_112 ?_
    exact x_iret hx hb hr hlk hP hD hS [0, 1, 2, 3] (()) rfl (by decide) trivial (by decide) (by decide) dX8_count_115
  · have ic_1 : x.toInt = 6 := ieq c_1 rfl (by decide)
    refine lv_is (y := 6) c_1 ?_
    refine lv_tableIn (off := 115) (tgt := 116) hx hb dX8_count_1 (by decide) (by decide) (by decide) (by decide) ?_
    refine lv_aload_n hx hb dX8_count_116 rfl (lv_at hl 0 rfl) ?_
    refine va_get (D := D) (ci := 8) (v := .ref (q 2)) (C := RX8) (T := TX8) (N := 13) hx hb htg gRX8 hown hK hP 0 rfl rfl 3 (by decide) (htg _ wi_470) (fun _ h9 => h9) rfl dX8_count_117 ?_
    refine va_getN (D := D) (ci := 3) (v := .int p7) (C := RX3) (T := TX3) (N := 16) hx hb htg gRX3 hown hK hP 1 rfl rfl 7 (by decide) (va_Nw.use rfl (hN.1 _ ni_192)) (fun _ h9 => h9) rfl dX8_count_120 ?_
    exact x_iret hx hb hr hlk hP hD hS [0, 1, 2, 3] (()) rfl (by decide) trivial (by decide) (by decide) dX8_count_123
  · have ic_1 : x.toInt = 7 := ieq c_1 rfl (by decide)
    refine lv_is (y := 7) c_1 ?_
    refine lv_tableIn (off := 123) (tgt := 124) hx hb dX8_count_1 (by decide) (by decide) (by decide) (by decide) ?_
    refine lv_aload_n hx hb dX8_count_124 rfl (lv_at hl 0 rfl) ?_
    refine va_get (D := D) (ci := 8) (v := .ref (q 2)) (C := RX8) (T := TX8) (N := 13) hx hb htg gRX8 hown hK hP 0 rfl rfl 3 (by decide) (htg _ wi_470) (fun _ h9 => h9) rfl dX8_count_125 ?_
    refine va_getN (D := D) (ci := 3) (v := .int p8) (C := RX3) (T := TX3) (N := 16) hx hb htg gRX3 hown hK hP 1 rfl rfl 8 (by decide) (va_Nw.use rfl (hN.1 _ ni_195)) (fun _ h9 => h9) rfl dX8_count_128 ?_
    exact x_iret hx hb hr hlk hP hD hS [0, 1, 2, 3] (()) rfl (by decide) trivial (by decide) (by decide) dX8_count_131
  · have ic_1 : x.toInt = 8 := ieq c_1 rfl (by decide)
    refine lv_is (y := 8) c_1 ?_
    refine lv_tableIn (off := 131) (tgt := 132) hx hb dX8_count_1 (by decide) (by decide) (by decide) (by decide) ?_
    refine lv_aload_n hx hb dX8_count_132 rfl (lv_at hl 0 rfl) ?_
    refine va_get (D := D) (ci := 8) (v := .ref (q 2)) (C := RX8) (T := TX8) (N := 13) hx hb htg gRX8 hown hK hP 0 rfl rfl 3 (by decide) (htg _ wi_470) (fun _ h9 => h9) rfl dX8_count_133 ?_
    refine va_getN (D := D) (ci := 3) (v := .int p9) (C := RX3) (T := TX3) (N := 16) hx hb htg gRX3 hown hK hP 1 rfl rfl 9 (by decide) (va_Nw.use rfl (hN.1 _ ni_198)) (fun _ h9 => h9) rfl dX8_count_136 ?_
    exact x_iret hx hb hr hlk hP hD hS [0, 1, 2, 3] (()) rfl (by decide) trivial (by decide) (by decide) dX8_count_139
  · have ic_1 : x.toInt = 9 := ieq c_1 rfl (by decide)
    refine lv_is (y := 9) c_1 ?_
    refine lv_tableIn (off := 139) (tgt := 140) hx hb dX8_count_1 (by decide) (by decide) (by decide) (by decide) ?_
    refine lv_aload_n hx hb dX8_count_140 rfl (lv_at hl 0 rfl) ?_
    refine va_get (D := D) (ci := 8) (v := .ref (q 2)) (C := RX8) (T := TX8) (N := 13) hx hb htg gRX8 hown hK hP 0 rfl rfl 3 (by decide) (htg _ wi_470) (fun _ h9 => h9) rfl dX8_count_141 ?_
    refine lv_aload_n hx hb dX8_count_144 rfl (lv_at hl 0 rfl) ?_
    refine va_get (D := D) (ci := 8) (v := .ref (q 2)) (C := RX8) (T := TX8) (N := 13) hx hb htg gRX8 hown hK hP 0 rfl rfl 3 (by decide) (htg _ wi_470) (fun _ h9 => h9) rfl dX8_count_145 ?_
    refine va_getN (D := D) (ci := 3) (v := .ref (q 12)) (C := RX3) (T := TX3) (N := 16) hx hb htg gRX3 hown hK hP 1 rfl rfl 10 (by decide) (va_Nw.use rfl (hN.1 _ ni_202)) (fun _ h9 => h9) rfl dX8_count_148 ?_
    refine xk_i (wr := [(sw_8 h0 q n1), (sw_in cT (q 16) 16 f4)]) (xr_VN (n := 1) (As := [.ref (q 12)]) (rest := []) ⟨hx, hb, hml, hown, htg⟩ hK hN hP hD hS hA [1, 2] rfl (by decide) (g_sum l D cT _ ((q 2)) (fun k => [(q 12), (q 13), (q 14), (q 15), (q 16), (q 17)].getD k 0) (p0) (p1) (p2) (p3) (p4) (p5) (p6) (p7) (p8) (p9) (by first | assumption | decide | omega | (simp only [ti_0, ti_1, ti_2, ti_3, ti_4, ti_5, ti_6, ti_7, ti_8, ti_9, ti_10, ti_11, ti_12, ti_m1]; omega)) ((q 12)) (f0)) ni_792 wi_794 wi_35 wi_123 wi_795 rfl rfl rfl ⟨rfl, by decide +kernel⟩ ⟨Nat.le_of_ble_eq_true rfl, Nat.le_of_ble_eq_true rfl⟩ rfl hl.1 rfl (Nat.le_of_ble_eq_true rfl) dX8_count_151 ⟨Nat.le_of_ble_eq_true rfl, Nat.le_of_ble_eq_true rfl⟩) hP hD hS hA [1, 2] [0, 3] rfl rfl (by decide) (by decide) (fun r_5 u_4 H locs hwr_5 hP hD hS => ?_)
    obtain ⟨hP, hD⟩ : PD D A [(sw_8 h0 q n1), (sw_in cT (q 16) 16 f4), (sw_3 (q 2) p0 p1 p2 p3 p4 p5 p6 p7 p8 p9 (q 12) (q 13) (q 14) (q 15) (q 16) (q 17)), (sw_in cT (q 12) 16 f0)] _ := ⟨hP, hD⟩
    exact x_iret hx hb hr hlk hP hD hS [0, 2, 3, 1] (()) rfl (by decide) trivial (by decide) (by decide) dX8_count_154
  · have ic_1 : x.toInt = 10 := ieq c_1 rfl (by decide)
    refine lv_is (y := 10) c_1 ?_
    refine lv_tableIn (off := 154) (tgt := 155) hx hb dX8_count_1 (by decide) (by decide) (by decide) (by decide) ?_
    refine lv_aload_n hx hb dX8_count_155 rfl (lv_at hl 0 rfl) ?_
    refine va_get (D := D) (ci := 8) (v := .ref (q 2)) (C := RX8) (T := TX8) (N := 13) hx hb htg gRX8 hown hK hP 0 rfl rfl 3 (by decide) (htg _ wi_470) (fun _ h9 => h9) rfl dX8_count_156 ?_
    refine lv_aload_n hx hb dX8_count_159 rfl (lv_at hl 0 rfl) ?_
    refine va_get (D := D) (ci := 8) (v := .ref (q 2)) (C := RX8) (T := TX8) (N := 13) hx hb htg gRX8 hown hK hP 0 rfl rfl 3 (by decide) (htg _ wi_470) (fun _ h9 => h9) rfl dX8_count_160 ?_
    refine va_getN (D := D) (ci := 3) (v := .ref (q 16)) (C := RX3) (T := TX3) (N := 16) hx hb htg gRX3 hown hK hP 1 rfl rfl 14 (by decide) (va_Nw.use rfl (hN.1 _ ni_212)) (fun _ h9 => h9) rfl dX8_count_163 ?_
    refine xk_i (wr := [(sw_8 h0 q n1), (sw_in cT (q 12) 16 f0)]) (xr_VN (n := 1) (As := [.ref (q 16)]) (rest := []) ⟨hx, hb, hml, hown, htg⟩ hK hN hP hD hS hA [1, 3] rfl (by decide) (g_sum l D cT _ ((q 2)) (fun k => [(q 12), (q 13), (q 14), (q 15), (q 16), (q 17)].getD k 0) (p0) (p1) (p2) (p3) (p4) (p5) (p6) (p7) (p8) (p9) (by first | assumption | decide | omega | (simp only [ti_0, ti_1, ti_2, ti_3, ti_4, ti_5, ti_6, ti_7, ti_8, ti_9, ti_10, ti_11, ti_12, ti_m1]; omega)) ((q 16)) (f4)) ni_792 wi_794 wi_35 wi_123 wi_795 rfl rfl rfl ⟨rfl, by decide +kernel⟩ ⟨Nat.le_of_ble_eq_true rfl, Nat.le_of_ble_eq_true rfl⟩ rfl hl.1 rfl (Nat.le_of_ble_eq_true rfl) dX8_count_166 ⟨Nat.le_of_ble_eq_true rfl, Nat.le_of_ble_eq_true rfl⟩) hP hD hS hA [1, 3] [0, 2] rfl rfl (by decide) (by decide) (fun r_7 u_6 H locs hwr_7 hP hD hS => ?_)
    obtain ⟨hP, hD⟩ : PD D A [(sw_8 h0 q n1), (sw_in cT (q 12) 16 f0), (sw_3 (q 2) p0 p1 p2 p3 p4 p5 p6 p7 p8 p9 (q 12) (q 13) (q 14) (q 15) (q 16) (q 17)), (sw_in cT (q 16) 16 f4)] _ := ⟨hP, hD⟩
    exact x_iret hx hb hr hlk hP hD hS [0, 2, 1, 3] (()) rfl (by decide) trivial (by decide) (by decide) dX8_count_169
  · have ic_1 : x.toInt = 11 := ieq c_1 rfl (by decide)
    refine lv_is (y := 11) c_1 ?_
    refine lv_tableIn (off := 169) (tgt := 170) hx hb dX8_count_1 (by decide) (by decide) (by decide) (by decide) ?_
    refine lv_aload_n hx hb dX8_count_170 rfl (lv_at hl 0 rfl) ?_
    refine va_get (D := D) (ci := 8) (v := .int n1) (C := RX8) (T := TX8) (N := 13) hx hb htg gRX8 hown hK hP 0 rfl rfl 1 (by decide) (htg _ wi_468) (fun _ h9 => h9) rfl dX8_count_171 ?_
    exact x_iret hx hb hr hlk hP hD hS [0, 1, 2, 3] (()) rfl (by decide) trivial (by decide) (by decide) dX8_count_174
  · have ic_1 : x.toInt = 12 := ieq c_1 rfl (by decide)
    refine lv_is (y := 12) c_1 ?_
    refine lv_tableIn (off := 174) (tgt := 175) hx hb dX8_count_1 (by decide) (by decide) (by decide) (by decide) ?_
    refine lv_aload_n hx hb dX8_count_175 rfl (lv_at hl 0 rfl) ?_
    refine va_get (D := D) (ci := 8) (v := .ref (q 2)) (C := RX8) (T := TX8) (N := 13) hx hb htg gRX8 hown hK hP 0 rfl rfl 3 (by decide) (htg _ wi_470) (fun _ h9 => h9) rfl dX8_count_176 ?_
    refine va_getN (D := D) (ci := 3) (v := .int p1) (C := RX3) (T := TX3) (N := 16) hx hb htg gRX3 hown hK hP 1 rfl rfl 1 (by decide) (va_Nw.use rfl (hN.1 _ ni_174)) (fun _ h9 => h9) rfl dX8_count_179 ?_
    exact x_iret hx hb hr hlk hP hD hS [0, 1, 2, 3] (()) rfl (by decide) trivial (by decide) (by decide) dX8_count_182
set_option maxHeartbeats 4000000 in
set_option maxRecDepth 100000 in
theorem g_k_halts (l : Launch) (D : va_G) (cT : Nat → ClassId) (sz : Nat) (h0 : Nat) (q : Nat → Nat) (n1 : Int32) (hn1 : 0 ≤ n1.toInt ∧ n1.toInt ≤ 900) (p0 : Int32) (p1 : Int32) (p2 : Int32) (p3 : Int32) (p4 : Int32) (p5 : Int32) (p6 : Int32) (p7 : Int32) (p8 : Int32) (p9 : Int32) (hs : 0 ≤ p0.toInt ∧ p0.toInt ≤ 16) (hat : 0 ≤ p3.toInt ∧ p3.toInt ≤ 15) (x : Int32) (f2 : Nat → Int32) (c0 : Nat → Int32) (c1 : Nat → Int32) : Met l yX8_halts (wsc yX8_halts cX8_halts 2 (some .int)) { frames := 22, cells := 0, slots := 0, locals := 631 } (va_Pc [.ref h0, .int x] (PX D cT sz [(sw_8 h0 q n1), (sw_3 (q 2) p0 p1 p2 p3 p4 p5 p6 p7 p8 p9 (q 12) (q 13) (q 14) (q 15) (q 16) (q 17)), (sw_in cT (q 14) 16 f2), (sw_0 (q 11) (q 48) (q 49)), (sw_in cT (q 48) 16 c0), (sw_in cT (q 49) 16 c1)])) (va_Qi (fun (r : Int32) (u : (Nat → Int32) × (Nat → Int32)) => True) (fun u t => RW D (va_A [(sw_8 h0 q n1), (sw_3 (q 2) p0 p1 p2 p3 p4 p5 p6 p7 p8 p9 (q 12) (q 13) (q 14) (q 15) (q 16) (q 17)), (sw_in cT (q 14) 16 f2), (sw_0 (q 11) (q 48) (q 49)), (sw_in cT (q 48) 16 c0), (sw_in cT (q 49) 16 c1)] sz) ((fun u : (Nat → Int32) × (Nat → Int32) => [(sw_8 h0 q n1), (sw_3 (q 2) p0 p1 p2 p3 p4 p5 p6 p7 p8 p9 (q 12) (q 13) (q 14) (q 15) (q 16) (q 17)), (sw_in cT (q 14) 16 f2), (sw_0 (q 11) (q 48) (q 49)), (sw_in cT (q 48) 16 u.1), (sw_in cT (q 49) 16 u.2)]) u) t) (va_A [(sw_8 h0 q n1), (sw_3 (q 2) p0 p1 p2 p3 p4 p5 p6 p7 p8 p9 (q 12) (q 13) (q 14) (q 15) (q 16) (q 17)), (sw_in cT (q 14) 16 f2), (sw_0 (q 11) (q 48) (q 49)), (sw_in cT (q 48) 16 c0), (sw_in cT (q 49) 16 c1)] sz)) 0 0 (va_A [(sw_8 h0 q n1), (sw_3 (q 2) p0 p1 p2 p3 p4 p5 p6 p7 p8 p9 (q 12) (q 13) (q 14) (q 15) (q 16) (q 17)), (sw_in cT (q 14) 16 f2), (sw_0 (q 11) (q 48) (q 49)), (sw_in cT (q 48) 16 c0), (sw_in cT (q 49) 16 c1)] sz) := by
  refine m_of (y := yX8_halts) (cc := cX8_halts) (nL := 2) (ret := (some .int)) (D := D) (cT := cT) (av := [.ref h0, .int x]) (wi := [(sw_8 h0 q n1), (sw_3 (q 2) p0 p1 p2 p3 p4 p5 p6 p7 p8 p9 (q 12) (q 13) (q 14) (q 15) (q 16) (q 17)), (sw_in cT (q 14) 16 f2), (sw_0 (q 11) (q 48) (q 49)), (sw_in cT (q 48) 16 c0), (sw_in cT (q 49) 16 c1)]) (fun A => va_Qi (fun (r : Int32) (u : (Nat → Int32) × (Nat → Int32)) => True) (fun u t => RW D A ((fun u : (Nat → Int32) × (Nat → Int32) => [(sw_8 h0 q n1), (sw_3 (q 2) p0 p1 p2 p3 p4 p5 p6 p7 p8 p9 (q 12) (q 13) (q 14) (q 15) (q 16) (q 17)), (sw_in cT (q 14) 16 f2), (sw_0 (q 11) (q 48) (q 49)), (sw_in cT (q 48) 16 u.1), (sw_in cT (q 49) 16 u.2)]) u) t) A) (by decide) (Nat.le_of_ble_eq_true rfl) ?_
  intro p e s m below meth c A hx hb hml hown htg hK hN hr hlk hnm hsz hP hD hS hA ls hl
  have hown : s.vm.findClass RX8 = some m.cls := hown
  have hl : lv_has ls 2 [(0, .ref h0), (1, .int x)] := hl
  refine lv_aload_n hx hb dX8_halts_0 rfl (lv_at hl 0 rfl) ?_
  refine va_get (D := D) (ci := 8) (v := .ref (q 2)) (C := RX8) (T := TX8) (N := 13) hx hb htg gRX8 hown hK hP 0 rfl rfl 3 (by decide) (htg _ wi_470) (fun _ h9 => h9) rfl dX8_halts_1 ?_
  refine lv_iload_n hx hb dX8_halts_4 rfl (lv_at hl 1 rfl) ?_
  refine xk_i (wr := [(sw_8 h0 q n1), (sw_in cT (q 14) 16 f2), (sw_0 (q 11) (q 48) (q 49)), (sw_in cT (q 48) 16 c0), (sw_in cT (q 49) 16 c1)]) (xr_VN (n := 1) (As := [.int x]) (rest := []) ⟨hx, hb, hml, hown, htg⟩ hK hN hP hD hS hA [1] rfl (by decide) (g_areStrips l D cT _ ((q 2)) (fun k => [(q 12), (q 13), (q 14), (q 15), (q 16), (q 17)].getD k 0) (p0) (p1) (p2) (p3) (p4) (p5) (p6) (p7) (p8) (p9) (x)) ni_733 wi_735 wi_27 wi_123 wi_736 rfl rfl rfl ⟨rfl, by decide +kernel⟩ ⟨Nat.le_of_ble_eq_true rfl, Nat.le_of_ble_eq_true rfl⟩ rfl hl.1 rfl (Nat.le_of_ble_eq_true rfl) dX8_halts_5 ⟨Nat.le_of_ble_eq_true rfl, Nat.le_of_ble_eq_true rfl⟩) hP hD hS hA [1] [0, 2, 3, 4, 5] rfl rfl (by decide) (by decide) (fun r_2 u_1 H locs hwr_2 hP hD hS => ?_)
  obtain ⟨hP, hD⟩ : PD D A [(sw_8 h0 q n1), (sw_in cT (q 14) 16 f2), (sw_0 (q 11) (q 48) (q 49)), (sw_in cT (q 48) 16 c0), (sw_in cT (q 49) 16 c1), (sw_3 (q 2) p0 p1 p2 p3 p4 p5 p6 p7 p8 p9 (q 12) (q 13) (q 14) (q 15) (q 16) (q 17))] _ := ⟨hP, hD⟩
  refine lv_if_ne (tgt := 14) hx hb dX8_halts_8 (by decide) (fun c_3 => ?_) (fun c_3 => ?_)
  · have ic_3 : ¬ r_2.toInt = 0 := ine c_3 (rfl) (by decide)
    refine lv_aload_n hx hb dX8_halts_14 rfl (lv_at hl 0 rfl) ?_
    refine va_get (D := D) (ci := 8) (v := .ref (q 11)) (C := RX8) (T := TX8) (N := 13) hx hb htg gRX8 hown hK hP 0 rfl rfl 12 (by decide) (htg _ wi_479) (fun _ h9 => h9) rfl dX8_halts_15 ?_
    refine lv_aload_n hx hb dX8_halts_18 rfl (lv_at hl 0 rfl) ?_
    refine va_get (D := D) (ci := 8) (v := .ref (q 2)) (C := RX8) (T := TX8) (N := 13) hx hb htg gRX8 hown hK hP 0 rfl rfl 3 (by decide) (htg _ wi_470) (fun _ h9 => h9) rfl dX8_halts_19 ?_
    refine lv_iload_n hx hb dX8_halts_22 rfl (lv_at hl 1 rfl) ?_
    refine xk_i (wr := [(sw_8 h0 q n1)]) (xr_VN (n := 2) (As := [.ref (q 2), .int x]) (rest := []) ⟨hx, hb, hml, hown, htg⟩ hK hN hP hD hS hA [2, 3, 4, 5, 1] rfl (by decide) (g_fewest l D cT _ ((q 11)) ((q 48)) ((q 49)) (c0) (c1) ((q 2)) (fun k => [(q 12), (q 13), (q 14), (q 15), (q 16), (q 17)].getD k 0) (p0) (p1) (p2) (p3) (p4) (p5) (p6) (p7) (p8) (p9) (by first | assumption | decide | omega | (simp only [ti_0, ti_1, ti_2, ti_3, ti_4, ti_5, ti_6, ti_7, ti_8, ti_9, ti_10, ti_11, ti_12, ti_m1]; omega)) (f2) (x)) ni_1012 wi_1014 wi_65 wi_129 wi_1015 rfl rfl rfl ⟨rfl, by decide +kernel⟩ ⟨Nat.le_of_ble_eq_true rfl, Nat.le_of_ble_eq_true rfl⟩ rfl hl.1 rfl (Nat.le_of_ble_eq_true rfl) dX8_halts_23 ⟨Nat.le_of_ble_eq_true rfl, Nat.le_of_ble_eq_true rfl⟩) hP hD hS hA [2, 3, 4, 5, 1] [0] rfl rfl (by decide) (by decide) (fun r_5 u_4 H locs hwr_5 hP hD hS => ?_)
    obtain ⟨hP, hD⟩ : PD D A [(sw_8 h0 q n1), (sw_0 (q 11) (q 48) (q 49)), (sw_in cT (q 48) 16 u_4.1), (sw_in cT (q 49) 16 u_4.2), (sw_3 (q 2) p0 p1 p2 p3 p4 p5 p6 p7 p8 p9 (q 12) (q 13) (q 14) (q 15) (q 16) (q 17)), (sw_in cT (q 14) 16 f2)] _ := ⟨hP, hD⟩
    exact x_iret hx hb hr hlk hP hD hS [0, 4, 5, 1, 2, 3] ((u_4.1, u_4.2)) rfl (by decide) trivial (by decide) (by decide) dX8_halts_26
  · have ic_3 : r_2.toInt = 0 := ieq c_3 (rfl) (by decide)
    refine lv_bipush (v := (-3)) hx hb dX8_halts_11 (by decide) ?_
    exact x_iret hx hb hr hlk hP hD hS [0, 5, 1, 2, 3, 4] ((c0, c1)) rfl (by decide) trivial (by decide) (by decide) dX8_halts_13
set_option maxHeartbeats 4000000 in
set_option maxRecDepth 100000 in
theorem g_k_tour (l : Launch) (D : va_G) (cT : Nat → ClassId) (sz : Nat) (h0 : Nat) (q : Nat → Nat) (n1 : Int32) (hn1 : 0 ≤ n1.toInt ∧ n1.toInt ≤ 900) (p0 : Int32) (p1 : Int32) (p2 : Int32) (p3 : Int32) (p4 : Int32) (p5 : Int32) (p6 : Int32) (p7 : Int32) (p8 : Int32) (p9 : Int32) (hs : 0 ≤ p0.toInt ∧ p0.toInt ≤ 16) (hat : 0 ≤ p3.toInt ∧ p3.toInt ≤ 15) (x : Int32) (f2 : Nat → Int32) (c0 : Nat → Int32) (c1 : Nat → Int32) : Met l yX8_tour (wsc yX8_tour cX8_tour 5 (some .int)) { frames := 22, cells := 0, slots := 0, locals := 631 } (va_Pc [.ref h0, .int x] (PX D cT sz [(sw_8 h0 q n1), (sw_3 (q 2) p0 p1 p2 p3 p4 p5 p6 p7 p8 p9 (q 12) (q 13) (q 14) (q 15) (q 16) (q 17)), (sw_in cT (q 14) 16 f2), (sw_0 (q 11) (q 48) (q 49)), (sw_in cT (q 48) 16 c0), (sw_in cT (q 49) 16 c1)])) (va_Qi (fun (r : Int32) (u : (Nat → Int32) × (Nat → Int32)) => True) (fun u t => RW D (va_A [(sw_8 h0 q n1), (sw_3 (q 2) p0 p1 p2 p3 p4 p5 p6 p7 p8 p9 (q 12) (q 13) (q 14) (q 15) (q 16) (q 17)), (sw_in cT (q 14) 16 f2), (sw_0 (q 11) (q 48) (q 49)), (sw_in cT (q 48) 16 c0), (sw_in cT (q 49) 16 c1)] sz) ((fun u : (Nat → Int32) × (Nat → Int32) => [(sw_8 h0 q n1), (sw_3 (q 2) p0 p1 p2 p3 p4 p5 p6 p7 p8 p9 (q 12) (q 13) (q 14) (q 15) (q 16) (q 17)), (sw_in cT (q 14) 16 f2), (sw_0 (q 11) (q 48) (q 49)), (sw_in cT (q 48) 16 u.1), (sw_in cT (q 49) 16 u.2)]) u) t) (va_A [(sw_8 h0 q n1), (sw_3 (q 2) p0 p1 p2 p3 p4 p5 p6 p7 p8 p9 (q 12) (q 13) (q 14) (q 15) (q 16) (q 17)), (sw_in cT (q 14) 16 f2), (sw_0 (q 11) (q 48) (q 49)), (sw_in cT (q 48) 16 c0), (sw_in cT (q 49) 16 c1)] sz)) 0 0 (va_A [(sw_8 h0 q n1), (sw_3 (q 2) p0 p1 p2 p3 p4 p5 p6 p7 p8 p9 (q 12) (q 13) (q 14) (q 15) (q 16) (q 17)), (sw_in cT (q 14) 16 f2), (sw_0 (q 11) (q 48) (q 49)), (sw_in cT (q 48) 16 c0), (sw_in cT (q 49) 16 c1)] sz) := by
  refine m_of (y := yX8_tour) (cc := cX8_tour) (nL := 5) (ret := (some .int)) (D := D) (cT := cT) (av := [.ref h0, .int x]) (wi := [(sw_8 h0 q n1), (sw_3 (q 2) p0 p1 p2 p3 p4 p5 p6 p7 p8 p9 (q 12) (q 13) (q 14) (q 15) (q 16) (q 17)), (sw_in cT (q 14) 16 f2), (sw_0 (q 11) (q 48) (q 49)), (sw_in cT (q 48) 16 c0), (sw_in cT (q 49) 16 c1)]) (fun A => va_Qi (fun (r : Int32) (u : (Nat → Int32) × (Nat → Int32)) => True) (fun u t => RW D A ((fun u : (Nat → Int32) × (Nat → Int32) => [(sw_8 h0 q n1), (sw_3 (q 2) p0 p1 p2 p3 p4 p5 p6 p7 p8 p9 (q 12) (q 13) (q 14) (q 15) (q 16) (q 17)), (sw_in cT (q 14) 16 f2), (sw_0 (q 11) (q 48) (q 49)), (sw_in cT (q 48) 16 u.1), (sw_in cT (q 49) 16 u.2)]) u) t) A) (by decide) (Nat.le_of_ble_eq_true rfl) ?_
  intro p e s m below meth c A hx hb hml hown htg hK hN hr hlk hnm hsz hP hD hS hA ls hl
  have hown : s.vm.findClass RX8 = some m.cls := hown
  have hl : lv_has ls 5 [(0, .ref h0), (1, .int x)] := hl
  refine lv_aload_n hx hb dX8_tour_0 rfl (lv_at hl 0 rfl) ?_
  refine va_get (D := D) (ci := 8) (v := .ref (q 2)) (C := RX8) (T := TX8) (N := 13) hx hb htg gRX8 hown hK hP 0 rfl rfl 3 (by decide) (htg _ wi_470) (fun _ h9 => h9) rfl dX8_tour_1 ?_
  refine lv_iload_n hx hb dX8_tour_4 rfl (lv_at hl 1 rfl) ?_
  refine xk_i (wr := [(sw_8 h0 q n1), (sw_in cT (q 14) 16 f2), (sw_0 (q 11) (q 48) (q 49)), (sw_in cT (q 48) 16 c0), (sw_in cT (q 49) 16 c1)]) (xr_VN (n := 1) (As := [.int x]) (rest := []) ⟨hx, hb, hml, hown, htg⟩ hK hN hP hD hS hA [1] rfl (by decide) (g_areStrips l D cT _ ((q 2)) (fun k => [(q 12), (q 13), (q 14), (q 15), (q 16), (q 17)].getD k 0) (p0) (p1) (p2) (p3) (p4) (p5) (p6) (p7) (p8) (p9) (x)) ni_733 wi_735 wi_27 wi_123 wi_736 rfl rfl rfl ⟨rfl, by decide +kernel⟩ ⟨Nat.le_of_ble_eq_true rfl, Nat.le_of_ble_eq_true rfl⟩ rfl hl.1 rfl (Nat.le_of_ble_eq_true rfl) dX8_tour_5 ⟨Nat.le_of_ble_eq_true rfl, Nat.le_of_ble_eq_true rfl⟩) hP hD hS hA [1] [0, 2, 3, 4, 5] rfl rfl (by decide) (by decide) (fun r_2 u_1 H locs hwr_2 hP hD hS => ?_)
  obtain ⟨hP, hD⟩ : PD D A [(sw_8 h0 q n1), (sw_in cT (q 14) 16 f2), (sw_0 (q 11) (q 48) (q 49)), (sw_in cT (q 48) 16 c0), (sw_in cT (q 49) 16 c1), (sw_3 (q 2) p0 p1 p2 p3 p4 p5 p6 p7 p8 p9 (q 12) (q 13) (q 14) (q 15) (q 16) (q 17))] _ := ⟨hP, hD⟩
  refine lv_if_ne (tgt := 14) hx hb dX8_tour_8 (by decide) (fun c_3 => ?_) (fun c_3 => ?_)
  · have ic_3 : ¬ r_2.toInt = 0 := ine c_3 (rfl) (by decide)
    refine lv_aload_n hx hb dX8_tour_14 rfl (lv_at hl 0 rfl) ?_
    refine va_get (D := D) (ci := 8) (v := .ref (q 11)) (C := RX8) (T := TX8) (N := 13) hx hb htg gRX8 hown hK hP 0 rfl rfl 12 (by decide) (htg _ wi_479) (fun _ h9 => h9) rfl dX8_tour_15 ?_
    refine lv_aload_n hx hb dX8_tour_18 rfl (lv_at hl 0 rfl) ?_
    refine va_get (D := D) (ci := 8) (v := .ref (q 2)) (C := RX8) (T := TX8) (N := 13) hx hb htg gRX8 hown hK hP 0 rfl rfl 3 (by decide) (htg _ wi_470) (fun _ h9 => h9) rfl dX8_tour_19 ?_
    refine lv_iload_n hx hb dX8_tour_22 rfl (lv_at hl 1 rfl) ?_
    refine xk_i (wr := [(sw_8 h0 q n1)]) (xr_VN (n := 2) (As := [.ref (q 2), .int x]) (rest := []) ⟨hx, hb, hml, hown, htg⟩ hK hN hP hD hS hA [2, 3, 4, 5, 1] rfl (by decide) (g_fewest l D cT _ ((q 11)) ((q 48)) ((q 49)) (c0) (c1) ((q 2)) (fun k => [(q 12), (q 13), (q 14), (q 15), (q 16), (q 17)].getD k 0) (p0) (p1) (p2) (p3) (p4) (p5) (p6) (p7) (p8) (p9) (by first | assumption | decide | omega | (simp only [ti_0, ti_1, ti_2, ti_3, ti_4, ti_5, ti_6, ti_7, ti_8, ti_9, ti_10, ti_11, ti_12, ti_m1]; omega)) (f2) (x)) ni_1012 wi_1014 wi_65 wi_129 wi_1015 rfl rfl rfl ⟨rfl, by decide +kernel⟩ ⟨Nat.le_of_ble_eq_true rfl, Nat.le_of_ble_eq_true rfl⟩ rfl hl.1 rfl (Nat.le_of_ble_eq_true rfl) dX8_tour_23 ⟨Nat.le_of_ble_eq_true rfl, Nat.le_of_ble_eq_true rfl⟩) hP hD hS hA [2, 3, 4, 5, 1] [0] rfl rfl (by decide) (by decide) (fun r_5 u_4 H locs hwr_5 hP hD hS => ?_)
    obtain ⟨hP, hD⟩ : PD D A [(sw_8 h0 q n1), (sw_0 (q 11) (q 48) (q 49)), (sw_in cT (q 48) 16 u_4.1), (sw_in cT (q 49) 16 u_4.2), (sw_3 (q 2) p0 p1 p2 p3 p4 p5 p6 p7 p8 p9 (q 12) (q 13) (q 14) (q 15) (q 16) (q 17)), (sw_in cT (q 14) 16 f2)] _ := ⟨hP, hD⟩
    refine lv_istore_n (lv' := [(2, .int r_5), (0, .ref h0), (1, .int x)]) hx hb dX8_tour_26 rfl hl (by decide) rfl (fun ls hl => ?_)
    refine lv_iload_n hx hb dX8_tour_27 rfl (lv_at hl 0 rfl) ?_
    refine lv_iconst (v := (-1)) hx hb dX8_tour_28 (by decide) ?_
    refine lv_icmp_eq (tgt := 36) hx hb dX8_tour_29 (by decide) (fun c_6 => ?_) (fun c_6 => ?_)
    · have ic_6 : r_5.toInt = (-1) := ieq c_6 (rfl) (by decide)
      refine lv_iload_n hx hb dX8_tour_36 rfl (lv_at hl 0 rfl) ?_
      exact x_iret hx hb hr hlk hP hD hS [0, 4, 5, 1, 2, 3] ((u_4.1, u_4.2)) rfl (by decide) trivial (by decide) (by decide) dX8_tour_37
    · have ic_6 : ¬ r_5.toInt = (-1) := ine c_6 (rfl) (by decide)
      refine lv_iload_n hx hb dX8_tour_32 rfl (lv_at hl 0 rfl) ?_
      refine lv_if_ne (tgt := 38) hx hb dX8_tour_33 (by decide) (fun c_7 => ?_) (fun c_7 => ?_)
      · have ic_7 : ¬ r_5.toInt = 0 := ine c_7 (rfl) (by decide)
        refine lv_aload_n hx hb dX8_tour_38 rfl (lv_at hl 1 rfl) ?_
        refine va_get (D := D) (ci := 8) (v := .ref (q 2)) (C := RX8) (T := TX8) (N := 13) hx hb htg gRX8 hown hK hP 0 rfl rfl 3 (by decide) (htg _ wi_470) (fun _ h9 => h9) rfl dX8_tour_39 ?_
        refine va_getN (D := D) (ci := 3) (v := .int p3) (C := RX3) (T := TX3) (N := 16) hx hb htg gRX3 hown hK hP 4 rfl rfl 3 (by decide) (va_Nw.use rfl (hN.1 _ ni_180)) (fun _ h9 => h9) rfl dX8_tour_42 ?_
        refine lv_iload_n hx hb dX8_tour_45 rfl (lv_at hl 0 rfl) ?_
        refine xk_i (wr := [(sw_8 h0 q n1), (sw_0 (q 11) (q 48) (q 49)), (sw_in cT (q 48) 16 u_4.1), (sw_in cT (q 49) 16 u_4.2), (sw_3 (q 2) p0 p1 p2 p3 p4 p5 p6 p7 p8 p9 (q 12) (q 13) (q 14) (q 15) (q 16) (q 17)), (sw_in cT (q 14) 16 f2)]) (xr_S (n := 1) (As := [.int r_5]) (rest := [.int p3]) ⟨hx, hb, hml, hown, htg⟩ hK hN hP hD hS hA [] rfl (by decide) (g_ntz l D cT _ (r_5)) wi_1038 wi_1027 wi_138 wi_1028 ⟨rfl, by decide +kernel⟩ ⟨Nat.le_of_ble_eq_true rfl, Nat.le_of_ble_eq_true rfl⟩ rfl hl.1 rfl (Nat.le_of_ble_eq_true rfl) dX8_tour_46 ⟨Nat.le_of_ble_eq_true rfl, Nat.le_of_ble_eq_true rfl⟩) hP hD hS hA [] [0, 1, 2, 3, 4, 5] rfl rfl (by decide) (by decide) (fun r_9 u_8 H locs hwr_9 hP hD hS => ?_)
        obtain ⟨hP, hD⟩ : PD D A [(sw_8 h0 q n1), (sw_0 (q 11) (q 48) (q 49)), (sw_in cT (q 48) 16 u_4.1), (sw_in cT (q 49) 16 u_4.2), (sw_3 (q 2) p0 p1 p2 p3 p4 p5 p6 p7 p8 p9 (q 12) (q 13) (q 14) (q 15) (q 16) (q 17)), (sw_in cT (q 14) 16 f2)] _ := ⟨hP, hD⟩
        have qr_9_0 : 0 ≤ r_9.toInt ∧ r_9.toInt ≤ 2147483647 := hwr_9.1
        refine va_mmin hx hb (by rw [hml]; exact hl.1.symm) hown (htg _ wi_808) (htg _ wi_524) (htg _ wi_132) (htg _ wi_525) (Nat.le_of_ble_eq_true rfl) (Nat.le_of_ble_eq_true rfl) (Nat.le_of_ble_eq_true rfl) (Nat.le_of_ble_eq_true rfl) dX8_tour_49 ?_
        refine lv_topi (fun z_10 ez_10 => ?_)
        have iz_10 := minI (a := p3.toInt) (b := r_9.toInt) ez_10 (rfl) (rfl)
        refine lv_istore_n (lv' := [(3, .int z_10), (2, .int r_5), (0, .ref h0), (1, .int x)]) hx hb dX8_tour_52 rfl hl (by decide) rfl (fun ls hl => ?_)
        refine lv_aload_n hx hb dX8_tour_53 rfl (lv_at hl 2 rfl) ?_
        refine va_get (D := D) (ci := 8) (v := .ref (q 2)) (C := RX8) (T := TX8) (N := 13) hx hb htg gRX8 hown hK hP 0 rfl rfl 3 (by decide) (htg _ wi_470) (fun _ h9 => h9) rfl dX8_tour_54 ?_
        refine va_getN (D := D) (ci := 3) (v := .int p3) (C := RX3) (T := TX3) (N := 16) hx hb htg gRX3 hown hK hP 4 rfl rfl 3 (by decide) (va_Nw.use rfl (hN.1 _ ni_180)) (fun _ h9 => h9) rfl dX8_tour_57 ?_
        refine lv_bipush (v := 31) hx hb dX8_tour_60 (by decide) ?_
        refine lv_iload_n hx hb dX8_tour_62 rfl (lv_at hl 1 rfl) ?_
        refine xk_i (wr := [(sw_8 h0 q n1), (sw_0 (q 11) (q 48) (q 49)), (sw_in cT (q 48) 16 u_4.1), (sw_in cT (q 49) 16 u_4.2), (sw_3 (q 2) p0 p1 p2 p3 p4 p5 p6 p7 p8 p9 (q 12) (q 13) (q 14) (q 15) (q 16) (q 17)), (sw_in cT (q 14) 16 f2)]) (xr_S (n := 1) (As := [.int r_5]) (rest := [.int 31, .int p3]) ⟨hx, hb, hml, hown, htg⟩ hK hN hP hD hS hA [] rfl (by decide) (g_nlz l D cT _ (r_5)) wi_1039 wi_1040 wi_138 wi_1041 ⟨rfl, by decide +kernel⟩ ⟨Nat.le_of_ble_eq_true rfl, Nat.le_of_ble_eq_true rfl⟩ rfl hl.1 rfl (Nat.le_of_ble_eq_true rfl) dX8_tour_63 ⟨Nat.le_of_ble_eq_true rfl, Nat.le_of_ble_eq_true rfl⟩) hP hD hS hA [] [0, 1, 2, 3, 4, 5] rfl rfl (by decide) (by decide) (fun r_12 u_11 H locs hwr_12 hP hD hS => ?_)
        obtain ⟨hP, hD⟩ : PD D A [(sw_8 h0 q n1), (sw_0 (q 11) (q 48) (q 49)), (sw_in cT (q 48) 16 u_4.1), (sw_in cT (q 49) 16 u_4.2), (sw_3 (q 2) p0 p1 p2 p3 p4 p5 p6 p7 p8 p9 (q 12) (q 13) (q 14) (q 15) (q 16) (q 17)), (sw_in cT (q 14) 16 f2)] _ := ⟨hP, hD⟩
        refine lv_isub hx hb dX8_tour_66 ?_
        refine lv_topi (fun z_13 ez_13 => ?_)
        refine va_mmax hx hb (by rw [hml]; exact hl.1.symm) hown (htg _ wi_1042) (htg _ wi_527) (htg _ wi_132) (htg _ wi_528) (Nat.le_of_ble_eq_true rfl) (Nat.le_of_ble_eq_true rfl) (Nat.le_of_ble_eq_true rfl) (Nat.le_of_ble_eq_true rfl) dX8_tour_67 ?_
        refine lv_topi (fun z_14 ez_14 => ?_)
        have iz_14 := maxI (a := p3.toInt) (b := z_13.toInt) ez_14 (rfl) (rfl)
        refine lv_istore (lv' := [(4, .int z_14), (3, .int z_10), (2, .int r_5), (0, .ref h0), (1, .int x)]) hx hb dX8_tour_70 hl (by decide) rfl (fun ls hl => ?_)
        refine lv_iload hx hb dX8_tour_72 (lv_at hl 0 rfl) ?_
        refine lv_iload_n hx hb dX8_tour_74 rfl (lv_at hl 1 rfl) ?_
        refine lv_isub hx hb dX8_tour_75 ?_
        refine lv_topi (fun z_15 ez_15 => ?_)
        refine lv_aload_n hx hb dX8_tour_76 rfl (lv_at hl 3 rfl) ?_
        refine va_get (D := D) (ci := 8) (v := .ref (q 2)) (C := RX8) (T := TX8) (N := 13) hx hb htg gRX8 hown hK hP 0 rfl rfl 3 (by decide) (htg _ wi_470) (fun _ h9 => h9) rfl dX8_tour_77 ?_
        refine va_getN (D := D) (ci := 3) (v := .int p3) (C := RX3) (T := TX3) (N := 16) hx hb htg gRX3 hown hK hP 4 rfl rfl 3 (by decide) (va_Nw.use rfl (hN.1 _ ni_180)) (fun _ h9 => h9) rfl dX8_tour_80 ?_
        refine lv_iload_n hx hb dX8_tour_83 rfl (lv_at hl 1 rfl) ?_
        refine lv_isub hx hb dX8_tour_84 ?_
        refine lv_topi (fun z_16 ez_16 => ?_)
        refine lv_iload hx hb dX8_tour_85 (lv_at hl 0 rfl) ?_
        refine lv_aload_n hx hb dX8_tour_87 rfl (lv_at hl 3 rfl) ?_
        refine va_get (D := D) (ci := 8) (v := .ref (q 2)) (C := RX8) (T := TX8) (N := 13) hx hb htg gRX8 hown hK hP 0 rfl rfl 3 (by decide) (htg _ wi_470) (fun _ h9 => h9) rfl dX8_tour_88 ?_
        refine va_getN (D := D) (ci := 3) (v := .int p3) (C := RX3) (T := TX3) (N := 16) hx hb htg gRX3 hown hK hP 4 rfl rfl 3 (by decide) (va_Nw.use rfl (hN.1 _ ni_180)) (fun _ h9 => h9) rfl dX8_tour_91 ?_
        refine lv_isub hx hb dX8_tour_94 ?_
        refine lv_topi (fun z_17 ez_17 => ?_)
        refine va_mmin hx hb (by rw [hml]; exact hl.1.symm) hown (htg _ wi_808) (htg _ wi_524) (htg _ wi_132) (htg _ wi_525) (Nat.le_of_ble_eq_true rfl) (Nat.le_of_ble_eq_true rfl) (Nat.le_of_ble_eq_true rfl) (Nat.le_of_ble_eq_true rfl) dX8_tour_95 ?_
        refine lv_topi (fun z_18 ez_18 => ?_)
        have iz_18 := minI (a := z_16.toInt) (b := z_17.toInt) ez_18 (rfl) (rfl)
        refine lv_iadd hx hb dX8_tour_98 ?_
        refine lv_topi (fun z_19 ez_19 => ?_)
        exact x_iret hx hb hr hlk hP hD hS [0, 4, 5, 1, 2, 3] ((u_4.1, u_4.2)) rfl (by decide) trivial (by decide) (by decide) dX8_tour_99
      · have ic_7 : r_5.toInt = 0 := ieq c_7 (rfl) (by decide)
        refine lv_iload_n hx hb dX8_tour_36 rfl (lv_at hl 0 rfl) ?_
        exact x_iret hx hb hr hlk hP hD hS [0, 4, 5, 1, 2, 3] ((u_4.1, u_4.2)) rfl (by decide) trivial (by decide) (by decide) dX8_tour_37
  · have ic_3 : r_2.toInt = 0 := ieq c_3 (rfl) (by decide)
    refine lv_bipush (v := (-3)) hx hb dX8_tour_11 (by decide) ?_
    exact x_iret hx hb hr hlk hP hD hS [0, 5, 1, 2, 3, 4] ((c0, c1)) rfl (by decide) trivial (by decide) (by decide) dX8_tour_13
