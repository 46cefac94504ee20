set_option maxHeartbeats 4000000 in
set_option maxRecDepth 100000 in
theorem g_advanceR (l : Launch) (D : va_G) (cT : Nat → ClassId) (sz : Nat) (h0 : Nat) (o : Nat) (tb : Nat) (t1 : Int32) (t2 : Int32) (t4 : Int32) (t5 : Int32) (t6 : Int32) (t7 : Int32) (t8 : Int32) (ht4 : 0 ≤ t4.toInt ∧ t4.toInt ≤ 900) (ht6 : 0 ≤ t6.toInt ∧ t6.toInt ≤ t4.toInt) (tf : Nat → Int32) (tx : Nat → Int) (hT : TXc tx t4.toInt tf) (sg : Nat → Int) (rs0 : t1.toInt = (sg) 4) (rs1 : WQ t2.toInt (sg)) (rs3 : t6.toInt = (sg) 1) : Met l yX6_advance (wsc yX6_advance cX6_advance 1 none) { frames := 4, cells := 0, slots := 0, locals := 145 } (va_Pc [.ref h0] (PX D cT sz [(sw_6 h0 o t1 t2 tb t4 t5 t6 t7 t8), (sw_by cT tb 900 tf)])) (va_Qv (fun (u : Int32 × Int32 × Int32 × Int32 × Int32 × Int32) => (0 ≤ u.2.2.1.toInt ∧ u.2.2.1.toInt ≤ 900) ∧ (0 ≤ u.2.2.2.1.toInt ∧ u.2.2.2.1.toInt ≤ 900) ∧ (u.2.2.1.toInt ≤ u.2.2.2.1.toInt ∧ u.2.2.2.1.toInt ≤ t4.toInt) ∧ (u.1.toInt = (nxtF tx t4.toInt sg) 4) ∧ (WQ u.2.1.toInt (nxtF tx t4.toInt sg)) ∧ (u.2.2.1.toInt = (nxtF tx t4.toInt sg) 0) ∧ (u.2.2.2.1.toInt = (nxtF tx t4.toInt sg) 1) ∧ (TK tx u.2.2.2.2.1.toInt (nxtF tx t4.toInt sg)) ∧ (NV u.2.2.2.2.2.toInt (nxtF tx t4.toInt sg)) ∧ (True)) (fun u t => RW D (va_A [(sw_6 h0 o t1 t2 tb t4 t5 t6 t7 t8), (sw_by cT tb 900 tf)] sz) ((fun u : Int32 × Int32 × Int32 × Int32 × Int32 × Int32 => [(sw_6 h0 o u.1 u.2.1 tb t4 u.2.2.1 u.2.2.2.1 u.2.2.2.2.1 u.2.2.2.2.2), (sw_by cT tb 900 tf)]) u) t) (va_A [(sw_6 h0 o t1 t2 tb t4 t5 t6 t7 t8), (sw_by cT tb 900 tf)] sz)) 0 0 (va_A [(sw_6 h0 o t1 t2 tb t4 t5 t6 t7 t8), (sw_by cT tb 900 tf)] sz) := by
  refine m_of (y := yX6_advance) (cc := cX6_advance) (nL := 1) (ret := none) (D := D) (cT := cT) (av := [.ref h0]) (wi := [(sw_6 h0 o t1 t2 tb t4 t5 t6 t7 t8), (sw_by cT tb 900 tf)]) (fun A => va_Qv (fun (u : Int32 × Int32 × Int32 × Int32 × Int32 × Int32) => (0 ≤ u.2.2.1.toInt ∧ u.2.2.1.toInt ≤ 900) ∧ (0 ≤ u.2.2.2.1.toInt ∧ u.2.2.2.1.toInt ≤ 900) ∧ (u.2.2.1.toInt ≤ u.2.2.2.1.toInt ∧ u.2.2.2.1.toInt ≤ t4.toInt) ∧ (u.1.toInt = (nxtF tx t4.toInt sg) 4) ∧ (WQ u.2.1.toInt (nxtF tx t4.toInt sg)) ∧ (u.2.2.1.toInt = (nxtF tx t4.toInt sg) 0) ∧ (u.2.2.2.1.toInt = (nxtF tx t4.toInt sg) 1) ∧ (TK tx u.2.2.2.2.1.toInt (nxtF tx t4.toInt sg)) ∧ (NV u.2.2.2.2.2.toInt (nxtF tx t4.toInt sg)) ∧ (True)) (fun u t => RW D A ((fun u : Int32 × Int32 × Int32 × Int32 × Int32 × Int32 => [(sw_6 h0 o u.1 u.2.1 tb t4 u.2.2.1 u.2.2.2.1 u.2.2.2.2.1 u.2.2.2.2.2), (sw_by cT tb 900 tf)]) u) t) A) (by decide) (Nat.le_of_ble_eq_true rfl) ?_
  intro p e s m below meth c A hx hb hml hown htg hK hN hr hlk hnm hsz hP hD hS hA ls hl
  have hown : s.vm.findClass RX6 = some m.cls := hown
  have hl : lv_has ls 1 [(0, .ref h0)] := hl
  have t9_0 : (0 : Int32).toInt = 0 := by decide
  have t9_1 : (1 : Int32).toInt = 1 := by decide
  have t9_2 : (2 : Int32).toInt = 2 := by decide
  have t9_3 : (3 : Int32).toInt = 3 := by decide
  have t9_4 : (4 : Int32).toInt = 4 := by decide
  have t9_5 : (5 : Int32).toInt = 5 := by decide
  refine lv_aload_n hx hb dX6_advance_0 rfl (lv_at hl 0 rfl) ?_
  refine lv_aload_n hx hb dX6_advance_1 rfl (lv_at hl 0 rfl) ?_
  refine lv_iconst (v := 1) hx hb dX6_advance_2 (by decide) ?_
  refine lv_aload_n hx hb dX6_advance_3 rfl (lv_at hl 0 rfl) ?_
  refine va_get (D := D) (ci := 6) (v := .int t6) (C := RX6) (T := TX6) (N := 9) hx hb htg gRX6 hown hK hP 0 rfl rfl 6 (by decide) (htg _ wi_261) (fun _ h9 => h9) rfl dX6_advance_4 ?_
  refine xk_i (wr := []) (xr_V (n := 2) (As := [.int 1, .int t6]) (rest := [.ref h0]) ⟨hx, hb, hml, hown, htg⟩ hK hN hP hD hS hA [0, 1] rfl (by decide) (g_endOfR l D cT _ (h0) (o) (tb) (t1) (t2) (t4) (t5) (t6) (t7) (t8) (by first | assumption | decide | omega | (simp only [ti_0, ti_1, ti_2, ti_3, ti_4, ti_5, ti_6, ti_7, ti_8, ti_9, ti_10, ti_11, ti_12, ti_m1]; omega)) (tf) (1) (t6) (by first | assumption | decide | omega | (simp only [ti_0, ti_1, ti_2, ti_3, ti_4, ti_5, ti_6, ti_7, ti_8, ti_9, ti_10, ti_11, ti_12, ti_m1]; omega)) (by first | assumption | decide | omega | (simp only [ti_0, ti_1, ti_2, ti_3, ti_4, ti_5, ti_6, ti_7, ti_8, ti_9, ti_10, ti_11, ti_12, ti_m1]; omega)) (tx) (by first | assumption | decide | omega | (simp only [ti_0, ti_1, ti_2, ti_3, ti_4, ti_5, ti_6, ti_7, ti_8, ti_9, ti_10, ti_11, ti_12, ti_m1]; omega))) wi_537 wi_539 wi_4 wi_122 wi_540 rfl rfl rfl ⟨rfl, by decide +kernel⟩ ⟨Nat.le_of_ble_eq_true rfl, Nat.le_of_ble_eq_true rfl⟩ rfl hl.1 rfl (Nat.le_of_ble_eq_true rfl) dX6_advance_7 ⟨Nat.le_of_ble_eq_true rfl, Nat.le_of_ble_eq_true rfl⟩) hP hD hS hA [0, 1] [] rfl rfl (by decide) (by decide) (fun r_2 u_1 H locs hwr_2 hP hD hS => ?_)
  obtain ⟨hP, hD⟩ : PD D A [(sw_6 h0 o t1 t2 tb t4 t5 t6 t7 t8), (sw_by cT tb 900 tf)] _ := ⟨hP, hD⟩
  have qr_2_0 : 0 ≤ r_2.toInt ∧ r_2.toInt ≤ 900 := hwr_2.1
  have qr_2_1 : t6.toInt ≤ r_2.toInt ∧ r_2.toInt ≤ t4.toInt := hwr_2.2.1
  have qr_2_2 : r_2.toInt = runB tx t4.toInt 1 1000 t6.toInt := by have h7 := hwr_2.2.2.1; simp only [show ((1 : Int32)).toInt = 1 from by decide] at h7; exact h7
  have qr_2_3 : ∀ j, t6.toInt ≤ j → j < r_2.toInt → kdB tx t4.toInt j = 1 := by have h7 := hwr_2.2.2.2.1; simp only [show ((1 : Int32)).toInt = 1 from by decide] at h7; exact h7
  refine va_put (D := D) (ci := 6) (v := .int r_2) (ty := .int) (C := RX6) (T := TX6) (N := 9) hx hb htg gRX6 tyX6 tyX6_ok nmX6 hown hK hP hD hS 0 rfl rfl 5 (by decide) (htg _ wi_260) (fun _ h9 => h9) rfl (by decide +kernel) rfl rfl (Nat.le_of_ble_eq_true rfl) dX6_advance_10 (fun H locs hP hD hS => ?_)
  obtain ⟨hP, hD⟩ : PD D A [(sw_6 h0 o t1 t2 tb t4 r_2 t6 t7 t8), (sw_by cT tb 900 tf)] _ := ⟨hP, hD⟩
  refine lv_aload_n hx hb dX6_advance_13 rfl (lv_at hl 0 rfl) ?_
  refine lv_aload_n hx hb dX6_advance_14 rfl (lv_at hl 0 rfl) ?_
  refine va_get (D := D) (ci := 6) (v := .int r_2) (C := RX6) (T := TX6) (N := 9) hx hb htg gRX6 hown hK hP 0 rfl rfl 5 (by decide) (htg _ wi_260) (fun _ h9 => h9) rfl dX6_advance_15 ?_
  refine lv_iconst (v := 1) hx hb dX6_advance_18 (by decide) ?_
  refine lv_iadd hx hb dX6_advance_19 ?_
  refine lv_topi (fun z_3 ez_3 => ?_)
  have iz_3 : z_3.toInt = r_2.toInt + 1 := toInt_addI ez_3 (rfl) (by decide) (by omega)
  refine va_put (D := D) (ci := 6) (v := .int z_3) (ty := .int) (C := RX6) (T := TX6) (N := 9) hx hb htg gRX6 tyX6 tyX6_ok nmX6 hown hK hP hD hS 0 rfl rfl 6 (by decide) (htg _ wi_261) (fun _ h9 => h9) rfl (by decide +kernel) rfl rfl (Nat.le_of_ble_eq_true rfl) dX6_advance_20 (fun H locs hP hD hS => ?_)
  obtain ⟨hP, hD⟩ : PD D A [(sw_6 h0 o t1 t2 tb t4 r_2 z_3 t7 t8), (sw_by cT tb 900 tf)] _ := ⟨hP, hD⟩
  refine lv_aload_n hx hb dX6_advance_23 rfl (lv_at hl 0 rfl) ?_
  refine lv_aload_n hx hb dX6_advance_24 rfl (lv_at hl 0 rfl) ?_
  refine va_get (D := D) (ci := 6) (v := .int r_2) (C := RX6) (T := TX6) (N := 9) hx hb htg gRX6 hown hK hP 0 rfl rfl 5 (by decide) (htg _ wi_260) (fun _ h9 => h9) rfl dX6_advance_25 ?_
  refine xk_i (wr := []) (xr_V (n := 1) (As := [.int r_2]) (rest := []) ⟨hx, hb, hml, hown, htg⟩ hK hN hP hD hS hA [0, 1] rfl (by decide) (g_kindAtR l D cT _ (h0) (o) (tb) (t1) (t2) (t4) (r_2) (z_3) (t7) (t8) (by first | assumption | decide | omega | (simp only [ti_0, ti_1, ti_2, ti_3, ti_4, ti_5, ti_6, ti_7, ti_8, ti_9, ti_10, ti_11, ti_12, ti_m1]; omega)) (tf) (r_2) (tx) (by first | assumption | decide | omega | (simp only [ti_0, ti_1, ti_2, ti_3, ti_4, ti_5, ti_6, ti_7, ti_8, ti_9, ti_10, ti_11, ti_12, ti_m1]; omega))) wi_541 wi_543 wi_5 wi_122 wi_544 rfl rfl rfl ⟨rfl, by decide +kernel⟩ ⟨Nat.le_of_ble_eq_true rfl, Nat.le_of_ble_eq_true rfl⟩ rfl hl.1 rfl (Nat.le_of_ble_eq_true rfl) dX6_advance_28 ⟨Nat.le_of_ble_eq_true rfl, Nat.le_of_ble_eq_true rfl⟩) hP hD hS hA [0, 1] [] rfl rfl (by decide) (by decide) (fun r_5 u_4 H locs hwr_5 hP hD hS => ?_)
  obtain ⟨hP, hD⟩ : PD D A [(sw_6 h0 o t1 t2 tb t4 r_2 z_3 t7 t8), (sw_by cT tb 900 tf)] _ := ⟨hP, hD⟩
  have qr_5_0 : 0 ≤ r_5.toInt ∧ r_5.toInt ≤ 5 := hwr_5.1
  have qr_5_1 : r_5.toInt = 0 ∨ (0 ≤ r_2.toInt ∧ r_2.toInt < t4.toInt) := hwr_5.2.1
  have qr_5_2 : r_5.toInt = kdB tx t4.toInt r_2.toInt := hwr_5.2.2.1
  have c_6 : (r_5.toInt < 0 ∨ 4 < r_5.toInt) ∨ r_5 = 0 ∨ r_5 = 1 ∨ r_5 = 2 ∨ r_5 = 3 ∨ r_5 = 4 := by
    rcases (show (r_5.toInt < 0 ∨ 4 < r_5.toInt) ∨ r_5.toInt = 0 ∨ r_5.toInt = 1 ∨ r_5.toInt = 2 ∨ r_5.toInt = 3 ∨ r_5.toInt = 4 from by omega) with h | h | h | h | h | h
    · exact Or.inl h
    · exact Or.inr (Or.inl (i32_is (h.trans (by decide))))
    · exact Or.inr (Or.inr (Or.inl (i32_is (h.trans (by decide)))))
    · exact Or.inr (Or.inr (Or.inr (Or.inl (i32_is (h.trans (by decide))))))
    · exact Or.inr (Or.inr (Or.inr (Or.inr (Or.inl (i32_is (h.trans (by decide)))))))
    · exact Or.inr (Or.inr (Or.inr (Or.inr (Or.inr (i32_is (h.trans (by decide)))))))
  rcases c_6 with c_6 | c_6 | c_6 | c_6 | c_6 | c_6
  · refine lv_tableOut (tgt := 151) hx hb dX6_advance_31 c_6 (by decide) ?_
    refine lv_aload_n hx hb dX6_advance_151 rfl (lv_at hl 0 rfl) ?_
    refine lv_iconst (v := 4) hx hb dX6_advance_152 (by decide) ?_
    refine va_put (D := D) (ci := 6) (v := .int 4) (ty := .int) (C := RX6) (T := TX6) (N := 9) hx hb htg gRX6 tyX6 tyX6_ok nmX6 hown hK hP hD hS 0 rfl rfl 7 (by decide) (htg _ wi_262) (fun _ h9 => h9) rfl (by decide +kernel) rfl rfl (Nat.le_of_ble_eq_true rfl) dX6_advance_153 (fun H locs hP hD hS => ?_)
    obtain ⟨hP, hD⟩ : PD D A [(sw_6 h0 o t1 t2 tb t4 r_2 z_3 4 t8), (sw_by cT tb 900 tf)] _ := ⟨hP, hD⟩
    have hNx := nxt_o (tx := tx) (n := t4.toInt) (sg := sg) (st := r_2.toInt) (by rw [← rs3]; exact qr_2_2) (by omega) (by omega)
    exact x_vret hx hb hr hlk hP hD hS [0, 1] ((t1, t2, r_2, z_3, 4, t8)) rfl (by decide) ⟨(by first | with_reducible rfl | ((try dsimp only); first | assumption | decide | omega | (simp only [ti_0, ti_1, ti_2, ti_3, ti_4, ti_5, ti_6, ti_7, ti_8, ti_9, ti_10, ti_11, ti_12, ti_m1]; omega))), (by first | with_reducible rfl | ((try dsimp only); first | assumption | decide | omega | (simp only [ti_0, ti_1, ti_2, ti_3, ti_4, ti_5, ti_6, ti_7, ti_8, ti_9, ti_10, ti_11, ti_12, ti_m1]; omega))), (by first | with_reducible rfl | ((try dsimp only); first | assumption | decide | omega | (simp only [ti_0, ti_1, ti_2, ti_3, ti_4, ti_5, ti_6, ti_7, ti_8, ti_9, ti_10, ti_11, ti_12, ti_m1]; omega))), (by (try dsimp only); omega), (by (try dsimp only); have h1 := rs1; unfold WQ at h1 ⊢; omega), (by (try dsimp only); omega), (by (try dsimp only); omega), (by (try dsimp only); unfold TK; omega), (by (try dsimp only); unfold NV; omega), trivial⟩ (by decide) (by decide) dX6_advance_156
  · have ic_6 : r_5.toInt = 0 := ieq c_6 rfl (by decide)
    refine lv_is (y := 0) c_6 ?_
    refine lv_tableIn (off := 104) (tgt := 135) hx hb dX6_advance_31 (by decide) (by decide) (by decide) (by decide) ?_
    refine lv_aload_n hx hb dX6_advance_135 rfl (lv_at hl 0 rfl) ?_
    refine lv_aload_n hx hb dX6_advance_136 rfl (lv_at hl 0 rfl) ?_
    refine va_get (D := D) (ci := 6) (v := .int r_2) (C := RX6) (T := TX6) (N := 9) hx hb htg gRX6 hown hK hP 0 rfl rfl 5 (by decide) (htg _ wi_260) (fun _ h9 => h9) rfl dX6_advance_137 ?_
    refine va_put (D := D) (ci := 6) (v := .int r_2) (ty := .int) (C := RX6) (T := TX6) (N := 9) hx hb htg gRX6 tyX6 tyX6_ok nmX6 hown hK hP hD hS 0 rfl rfl 6 (by decide) (htg _ wi_261) (fun _ h9 => h9) rfl (by decide +kernel) rfl rfl (Nat.le_of_ble_eq_true rfl) dX6_advance_140 (fun H locs hP hD hS => ?_)
    obtain ⟨hP, hD⟩ : PD D A [(sw_6 h0 o t1 t2 tb t4 r_2 r_2 t7 t8), (sw_by cT tb 900 tf)] _ := ⟨hP, hD⟩
    refine lv_aload_n hx hb dX6_advance_143 rfl (lv_at hl 0 rfl) ?_
    refine lv_iconst (v := 0) hx hb dX6_advance_144 (by decide) ?_
    refine va_put (D := D) (ci := 6) (v := .int 0) (ty := .int) (C := RX6) (T := TX6) (N := 9) hx hb htg gRX6 tyX6 tyX6_ok nmX6 hown hK hP hD hS 0 rfl rfl 7 (by decide) (htg _ wi_262) (fun _ h9 => h9) rfl (by decide +kernel) rfl rfl (Nat.le_of_ble_eq_true rfl) dX6_advance_145 (fun H locs hP hD hS => ?_)
    obtain ⟨hP, hD⟩ : PD D A [(sw_6 h0 o t1 t2 tb t4 r_2 r_2 0 t8), (sw_by cT tb 900 tf)] _ := ⟨hP, hD⟩
    refine lv_goto (tgt := 156) hx hb dX6_advance_148 (by decide) ?_
    have hNx := nxt_o (tx := tx) (n := t4.toInt) (sg := sg) (st := r_2.toInt) (by rw [← rs3]; exact qr_2_2) (by omega) (by omega)
    exact x_vret hx hb hr hlk hP hD hS [0, 1] ((t1, t2, r_2, r_2, 0, t8)) rfl (by decide) ⟨(by first | with_reducible rfl | ((try dsimp only); first | assumption | decide | omega | (simp only [ti_0, ti_1, ti_2, ti_3, ti_4, ti_5, ti_6, ti_7, ti_8, ti_9, ti_10, ti_11, ti_12, ti_m1]; omega))), (by first | with_reducible rfl | ((try dsimp only); first | assumption | decide | omega | (simp only [ti_0, ti_1, ti_2, ti_3, ti_4, ti_5, ti_6, ti_7, ti_8, ti_9, ti_10, ti_11, ti_12, ti_m1]; omega))), (by first | with_reducible rfl | ((try dsimp only); first | assumption | decide | omega | (simp only [ti_0, ti_1, ti_2, ti_3, ti_4, ti_5, ti_6, ti_7, ti_8, ti_9, ti_10, ti_11, ti_12, ti_m1]; omega))), (by (try dsimp only); omega), (by (try dsimp only); have h1 := rs1; unfold WQ at h1 ⊢; omega), (by (try dsimp only); omega), (by (try dsimp only); omega), (by (try dsimp only); unfold TK; omega), (by (try dsimp only); unfold NV; omega), trivial⟩ (by decide) (by decide) dX6_advance_156
  · have ic_6 : r_5.toInt = 1 := ieq c_6 rfl (by decide)
    refine lv_is (y := 1) c_6 ?_
    refine lv_tableIn (off := 120) (tgt := 151) hx hb dX6_advance_31 (by decide) (by decide) (by decide) (by decide) ?_
    refine lv_aload_n hx hb dX6_advance_151 rfl (lv_at hl 0 rfl) ?_
    refine lv_iconst (v := 4) hx hb dX6_advance_152 (by decide) ?_
    refine va_put (D := D) (ci := 6) (v := .int 4) (ty := .int) (C := RX6) (T := TX6) (N := 9) hx hb htg gRX6 tyX6 tyX6_ok nmX6 hown hK hP hD hS 0 rfl rfl 7 (by decide) (htg _ wi_262) (fun _ h9 => h9) rfl (by decide +kernel) rfl rfl (Nat.le_of_ble_eq_true rfl) dX6_advance_153 (fun H locs hP hD hS => ?_)
    obtain ⟨hP, hD⟩ : PD D A [(sw_6 h0 o t1 t2 tb t4 r_2 z_3 4 t8), (sw_by cT tb 900 tf)] _ := ⟨hP, hD⟩
    have hNx := nxt_o (tx := tx) (n := t4.toInt) (sg := sg) (st := r_2.toInt) (by rw [← rs3]; exact qr_2_2) (by omega) (by omega)
    exact x_vret hx hb hr hlk hP hD hS [0, 1] ((t1, t2, r_2, z_3, 4, t8)) rfl (by decide) ⟨(by first | with_reducible rfl | ((try dsimp only); first | assumption | decide | omega | (simp only [ti_0, ti_1, ti_2, ti_3, ti_4, ti_5, ti_6, ti_7, ti_8, ti_9, ti_10, ti_11, ti_12, ti_m1]; omega))), (by first | with_reducible rfl | ((try dsimp only); first | assumption | decide | omega | (simp only [ti_0, ti_1, ti_2, ti_3, ti_4, ti_5, ti_6, ti_7, ti_8, ti_9, ti_10, ti_11, ti_12, ti_m1]; omega))), (by first | with_reducible rfl | ((try dsimp only); first | assumption | decide | omega | (simp only [ti_0, ti_1, ti_2, ti_3, ti_4, ti_5, ti_6, ti_7, ti_8, ti_9, ti_10, ti_11, ti_12, ti_m1]; omega))), (by (try dsimp only); omega), (by (try dsimp only); have h1 := rs1; unfold WQ at h1 ⊢; omega), (by (try dsimp only); omega), (by (try dsimp only); omega), (by (try dsimp only); unfold TK; omega), (by (try dsimp only); unfold NV; omega), trivial⟩ (by decide) (by decide) dX6_advance_156
  · have ic_6 : r_5.toInt = 2 := ieq c_6 rfl (by decide)
    refine lv_is (y := 2) c_6 ?_
    refine lv_tableIn (off := 33) (tgt := 64) hx hb dX6_advance_31 (by decide) (by decide) (by decide) (by decide) ?_
    refine lv_aload_n hx hb dX6_advance_64 rfl (lv_at hl 0 rfl) ?_
    refine lv_aload_n hx hb dX6_advance_65 rfl (lv_at hl 0 rfl) ?_
    refine lv_iconst (v := 2) hx hb dX6_advance_66 (by decide) ?_
    refine lv_aload_n hx hb dX6_advance_67 rfl (lv_at hl 0 rfl) ?_
    refine va_get (D := D) (ci := 6) (v := .int r_2) (C := RX6) (T := TX6) (N := 9) hx hb htg gRX6 hown hK hP 0 rfl rfl 5 (by decide) (htg _ wi_260) (fun _ h9 => h9) rfl dX6_advance_68 ?_
    refine xk_i (wr := []) (xr_V (n := 2) (As := [.int 2, .int r_2]) (rest := [.ref h0]) ⟨hx, hb, hml, hown, htg⟩ hK hN hP hD hS hA [0, 1] rfl (by decide) (g_endOfR l D cT _ (h0) (o) (tb) (t1) (t2) (t4) (r_2) (z_3) (t7) (t8) (by first | assumption | decide | omega | (simp only [ti_0, ti_1, ti_2, ti_3, ti_4, ti_5, ti_6, ti_7, ti_8, ti_9, ti_10, ti_11, ti_12, ti_m1]; omega)) (tf) (2) (r_2) (by first | assumption | decide | omega | (simp only [ti_0, ti_1, ti_2, ti_3, ti_4, ti_5, ti_6, ti_7, ti_8, ti_9, ti_10, ti_11, ti_12, ti_m1]; omega)) (by first | assumption | decide | omega | (simp only [ti_0, ti_1, ti_2, ti_3, ti_4, ti_5, ti_6, ti_7, ti_8, ti_9, ti_10, ti_11, ti_12, ti_m1]; omega)) (tx) (by first | assumption | decide | omega | (simp only [ti_0, ti_1, ti_2, ti_3, ti_4, ti_5, ti_6, ti_7, ti_8, ti_9, ti_10, ti_11, ti_12, ti_m1]; omega))) wi_537 wi_539 wi_4 wi_122 wi_540 rfl rfl rfl ⟨rfl, by decide +kernel⟩ ⟨Nat.le_of_ble_eq_true rfl, Nat.le_of_ble_eq_true rfl⟩ rfl hl.1 rfl (Nat.le_of_ble_eq_true rfl) dX6_advance_71 ⟨Nat.le_of_ble_eq_true rfl, Nat.le_of_ble_eq_true rfl⟩) hP hD hS hA [0, 1] [] rfl rfl (by decide) (by decide) (fun r_8 u_7 H locs hwr_8 hP hD hS => ?_)
    obtain ⟨hP, hD⟩ : PD D A [(sw_6 h0 o t1 t2 tb t4 r_2 z_3 t7 t8), (sw_by cT tb 900 tf)] _ := ⟨hP, hD⟩
    have qr_8_0 : 0 ≤ r_8.toInt ∧ r_8.toInt ≤ 900 := hwr_8.1
    have qr_8_1 : r_2.toInt ≤ r_8.toInt ∧ r_8.toInt ≤ t4.toInt := hwr_8.2.1
    have qr_8_2 : r_8.toInt = runB tx t4.toInt 2 1000 r_2.toInt := by have h7 := hwr_8.2.2.1; simp only [show ((2 : Int32)).toInt = 2 from by decide] at h7; exact h7
    have qr_8_3 : ∀ j, r_2.toInt ≤ j → j < r_8.toInt → kdB tx t4.toInt j = 2 := by have h7 := hwr_8.2.2.2.1; simp only [show ((2 : Int32)).toInt = 2 from by decide] at h7; exact h7
    refine va_put (D := D) (ci := 6) (v := .int r_8) (ty := .int) (C := RX6) (T := TX6) (N := 9) hx hb htg gRX6 tyX6 tyX6_ok nmX6 hown hK hP hD hS 0 rfl rfl 6 (by decide) (htg _ wi_261) (fun _ h9 => h9) rfl (by decide +kernel) rfl rfl (Nat.le_of_ble_eq_true rfl) dX6_advance_74 (fun H locs hP hD hS => ?_)
    obtain ⟨hP, hD⟩ : PD D A [(sw_6 h0 o t1 t2 tb t4 r_2 r_8 t7 t8), (sw_by cT tb 900 tf)] _ := ⟨hP, hD⟩
    refine lv_aload_n hx hb dX6_advance_77 rfl (lv_at hl 0 rfl) ?_
    refine lv_iconst (v := 1) hx hb dX6_advance_78 (by decide) ?_
    refine va_put (D := D) (ci := 6) (v := .int 1) (ty := .int) (C := RX6) (T := TX6) (N := 9) hx hb htg gRX6 tyX6 tyX6_ok nmX6 hown hK hP hD hS 0 rfl rfl 7 (by decide) (htg _ wi_262) (fun _ h9 => h9) rfl (by decide +kernel) rfl rfl (Nat.le_of_ble_eq_true rfl) dX6_advance_79 (fun H locs hP hD hS => ?_)
    obtain ⟨hP, hD⟩ : PD D A [(sw_6 h0 o t1 t2 tb t4 r_2 r_8 1 t8), (sw_by cT tb 900 tf)] _ := ⟨hP, hD⟩
    refine lv_goto (tgt := 156) hx hb dX6_advance_82 (by decide) ?_
    have hNx := nxt_w (tx := tx) (n := t4.toInt) (sg := sg) (st := r_2.toInt) (en := r_8.toInt) (by rw [← rs3]; exact qr_2_2) (by omega) (by exact qr_8_2)
    have hkk := keyF_in tx r_2.toInt r_8.toInt
    have hkq : keyF tx r_2.toInt r_8.toInt = keyF tx (nxtF tx t4.toInt sg 0) (nxtF tx t4.toInt sg 1) := by rw [hNx.1, hNx.2.1]
    exact x_vret hx hb hr hlk hP hD hS [0, 1] ((t1, t2, r_2, r_8, 1, t8)) rfl (by decide) ⟨(by first | with_reducible rfl | ((try dsimp only); first | assumption | decide | omega | (simp only [ti_0, ti_1, ti_2, ti_3, ti_4, ti_5, ti_6, ti_7, ti_8, ti_9, ti_10, ti_11, ti_12, ti_m1]; omega))), (by first | with_reducible rfl | ((try dsimp only); first | assumption | decide | omega | (simp only [ti_0, ti_1, ti_2, ti_3, ti_4, ti_5, ti_6, ti_7, ti_8, ti_9, ti_10, ti_11, ti_12, ti_m1]; omega))), (by first | with_reducible rfl | ((try dsimp only); first | assumption | decide | omega | (simp only [ti_0, ti_1, ti_2, ti_3, ti_4, ti_5, ti_6, ti_7, ti_8, ti_9, ti_10, ti_11, ti_12, ti_m1]; omega))), (by (try dsimp only); omega), (by (try dsimp only); have h1 := rs1; unfold WQ at h1 ⊢; omega), (by (try dsimp only); omega), (by (try dsimp only); omega), (by (try dsimp only); unfold TK; omega), (by (try dsimp only); unfold NV; omega), trivial⟩ (by decide) (by decide) dX6_advance_156
  · have ic_6 : r_5.toInt = 3 := ieq c_6 rfl (by decide)
    refine lv_is (y := 3) c_6 ?_
    refine lv_tableIn (off := 54) (tgt := 85) hx hb dX6_advance_31 (by decide) (by decide) (by decide) (by decide) ?_
    refine lv_aload_n hx hb dX6_advance_85 rfl (lv_at hl 0 rfl) ?_
    refine lv_aload_n hx hb dX6_advance_86 rfl (lv_at hl 0 rfl) ?_
    refine lv_iconst (v := 3) hx hb dX6_advance_87 (by decide) ?_
    refine lv_aload_n hx hb dX6_advance_88 rfl (lv_at hl 0 rfl) ?_
    refine va_get (D := D) (ci := 6) (v := .int r_2) (C := RX6) (T := TX6) (N := 9) hx hb htg gRX6 hown hK hP 0 rfl rfl 5 (by decide) (htg _ wi_260) (fun _ h9 => h9) rfl dX6_advance_89 ?_
    refine xk_i (wr := []) (xr_V (n := 2) (As := [.int 3, .int r_2]) (rest := [.ref h0]) ⟨hx, hb, hml, hown, htg⟩ hK hN hP hD hS hA [0, 1] rfl (by decide) (g_endOfR l D cT _ (h0) (o) (tb) (t1) (t2) (t4) (r_2) (z_3) (t7) (t8) (by first | assumption | decide | omega | (simp only [ti_0, ti_1, ti_2, ti_3, ti_4, ti_5, ti_6, ti_7, ti_8, ti_9, ti_10, ti_11, ti_12, ti_m1]; omega)) (tf) (3) (r_2) (by first | assumption | decide | omega | (simp only [ti_0, ti_1, ti_2, ti_3, ti_4, ti_5, ti_6, ti_7, ti_8, ti_9, ti_10, ti_11, ti_12, ti_m1]; omega)) (by first | assumption | decide | omega | (simp only [ti_0, ti_1, ti_2, ti_3, ti_4, ti_5, ti_6, ti_7, ti_8, ti_9, ti_10, ti_11, ti_12, ti_m1]; omega)) (tx) (by first | assumption | decide | omega | (simp only [ti_0, ti_1, ti_2, ti_3, ti_4, ti_5, ti_6, ti_7, ti_8, ti_9, ti_10, ti_11, ti_12, ti_m1]; omega))) wi_537 wi_539 wi_4 wi_122 wi_540 rfl rfl rfl ⟨rfl, by decide +kernel⟩ ⟨Nat.le_of_ble_eq_true rfl, Nat.le_of_ble_eq_true rfl⟩ rfl hl.1 rfl (Nat.le_of_ble_eq_true rfl) dX6_advance_92 ⟨Nat.le_of_ble_eq_true rfl, Nat.le_of_ble_eq_true rfl⟩) hP hD hS hA [0, 1] [] rfl rfl (by decide) (by decide) (fun r_10 u_9 H locs hwr_10 hP hD hS => ?_)
    obtain ⟨hP, hD⟩ : PD D A [(sw_6 h0 o t1 t2 tb t4 r_2 z_3 t7 t8), (sw_by cT tb 900 tf)] _ := ⟨hP, hD⟩
    have qr_10_0 : 0 ≤ r_10.toInt ∧ r_10.toInt ≤ 900 := hwr_10.1
    have qr_10_1 : r_2.toInt ≤ r_10.toInt ∧ r_10.toInt ≤ t4.toInt := hwr_10.2.1
    have qr_10_2 : r_10.toInt = runB tx t4.toInt 3 1000 r_2.toInt := by have h7 := hwr_10.2.2.1; simp only [show ((3 : Int32)).toInt = 3 from by decide] at h7; exact h7
    have qr_10_3 : ∀ j, r_2.toInt ≤ j → j < r_10.toInt → kdB tx t4.toInt j = 3 := by have h7 := hwr_10.2.2.2.1; simp only [show ((3 : Int32)).toInt = 3 from by decide] at h7; exact h7
    refine va_put (D := D) (ci := 6) (v := .int r_10) (ty := .int) (C := RX6) (T := TX6) (N := 9) hx hb htg gRX6 tyX6 tyX6_ok nmX6 hown hK hP hD hS 0 rfl rfl 6 (by decide) (htg _ wi_261) (fun _ h9 => h9) rfl (by decide +kernel) rfl rfl (Nat.le_of_ble_eq_true rfl) dX6_advance_95 (fun H locs hP hD hS => ?_)
    obtain ⟨hP, hD⟩ : PD D A [(sw_6 h0 o t1 t2 tb t4 r_2 r_10 t7 t8), (sw_by cT tb 900 tf)] _ := ⟨hP, hD⟩
    refine lv_aload_n hx hb dX6_advance_98 rfl (lv_at hl 0 rfl) ?_
    refine lv_aload_n hx hb dX6_advance_99 rfl (lv_at hl 0 rfl) ?_
    refine va_get (D := D) (ci := 6) (v := .int r_10) (C := RX6) (T := TX6) (N := 9) hx hb htg gRX6 hown hK hP 0 rfl rfl 6 (by decide) (htg _ wi_261) (fun _ h9 => h9) rfl dX6_advance_100 ?_
    refine lv_aload_n hx hb dX6_advance_103 rfl (lv_at hl 0 rfl) ?_
    refine va_get (D := D) (ci := 6) (v := .int r_2) (C := RX6) (T := TX6) (N := 9) hx hb htg gRX6 hown hK hP 0 rfl rfl 5 (by decide) (htg _ wi_260) (fun _ h9 => h9) rfl dX6_advance_104 ?_
    refine lv_isub hx hb dX6_advance_107 ?_
    refine lv_topi (fun z_11 ez_11 => ?_)
    have iz_11 : z_11.toInt = r_10.toInt - r_2.toInt := toInt_subI ez_11 rfl rfl (by omega)
    refine lv_iconst (v := 3) hx hb dX6_advance_108 (by decide) ?_
    refine lv_icmp_le (tgt := 116) hx hb dX6_advance_109 (by decide) (fun c_12 => ?_) (fun c_12 => ?_)
    · have ic_12 : z_11.toInt ≤ 3 := ile c_12 (rfl) (by decide)
      refine lv_iconst (v := 2) hx hb dX6_advance_116 (by decide) ?_
      refine va_put (D := D) (ci := 6) (v := .int 2) (ty := .int) (C := RX6) (T := TX6) (N := 9) hx hb htg gRX6 tyX6 tyX6_ok nmX6 hown hK hP hD hS 0 rfl rfl 7 (by decide) (htg _ wi_262) (fun _ h9 => h9) rfl (by decide +kernel) rfl rfl (Nat.le_of_ble_eq_true rfl) dX6_advance_117 (fun H locs hP hD hS => ?_)
      obtain ⟨hP, hD⟩ : PD D A [(sw_6 h0 o t1 t2 tb t4 r_2 r_10 2 t8), (sw_by cT tb 900 tf)] _ := ⟨hP, hD⟩
      refine lv_aload_n hx hb dX6_advance_120 rfl (lv_at hl 0 rfl) ?_
      refine xk_v (wr := []) (xr_V (n := 0) (As := []) (rest := []) ⟨hx, hb, hml, hown, htg⟩ hK hN hP hD hS hA [0, 1] rfl (by decide) (g_readValueR l D cT _ (h0) (o) (tb) (t1) (t2) (t4) (r_2) (r_10) (2) (t8) (by first | assumption | decide | omega | (simp only [ti_0, ti_1, ti_2, ti_3, ti_4, ti_5, ti_6, ti_7, ti_8, ti_9, ti_10, ti_11, ti_12, ti_m1]; omega)) (by first | assumption | decide | omega | (simp only [ti_0, ti_1, ti_2, ti_3, ti_4, ti_5, ti_6, ti_7, ti_8, ti_9, ti_10, ti_11, ti_12, ti_m1]; omega)) (by first | assumption | decide | omega | (simp only [ti_0, ti_1, ti_2, ti_3, ti_4, ti_5, ti_6, ti_7, ti_8, ti_9, ti_10, ti_11, ti_12, ti_m1]; omega)) (tf) (tx) (by first | assumption | decide | omega | (simp only [ti_0, ti_1, ti_2, ti_3, ti_4, ti_5, ti_6, ti_7, ti_8, ti_9, ti_10, ti_11, ti_12, ti_m1]; omega)) (by first | assumption | decide | omega | (simp only [ti_0, ti_1, ti_2, ti_3, ti_4, ti_5, ti_6, ti_7, ti_8, ti_9, ti_10, ti_11, ti_12, ti_m1]; omega))) wi_545 wi_547 wi_6 wi_122 wi_548 rfl rfl rfl ⟨rfl, by decide +kernel⟩ ⟨Nat.le_of_ble_eq_true rfl, Nat.le_of_ble_eq_true rfl⟩ rfl hl.1 rfl (Nat.le_of_ble_eq_true rfl) dX6_advance_121 ⟨Nat.le_of_ble_eq_true rfl, Nat.le_of_ble_eq_true rfl⟩) hP hD hS hA [0, 1] [] rfl rfl (by decide) (by decide) (fun u_13 H locs hwr_14 hP hD hS => ?_)
      obtain ⟨hP, hD⟩ : PD D A [(sw_6 h0 o t1 t2 tb t4 r_2 r_10 2 u_13), (sw_by cT tb 900 tf)] _ := ⟨hP, hD⟩
      have qr_14_0 : u_13.toInt = valB tx r_2.toInt (min (r_10.toInt - r_2.toInt) 3).toNat := hwr_14.1
      refine lv_goto (tgt := 156) hx hb dX6_advance_124 (by decide) ?_
      have hNx := nxt_d (tx := tx) (n := t4.toInt) (sg := sg) (st := r_2.toInt) (en := r_10.toInt) (by rw [← rs3]; exact qr_2_2) (by omega) (by exact qr_10_2)
      exact x_vret hx hb hr hlk hP hD hS [0, 1] ((t1, t2, r_2, r_10, 2, u_13)) rfl (by decide) ⟨(by first | with_reducible rfl | ((try dsimp only); first | assumption | decide | omega | (simp only [ti_0, ti_1, ti_2, ti_3, ti_4, ti_5, ti_6, ti_7, ti_8, ti_9, ti_10, ti_11, ti_12, ti_m1]; omega))), (by first | with_reducible rfl | ((try dsimp only); first | assumption | decide | omega | (simp only [ti_0, ti_1, ti_2, ti_3, ti_4, ti_5, ti_6, ti_7, ti_8, ti_9, ti_10, ti_11, ti_12, ti_m1]; omega))), (by first | with_reducible rfl | ((try dsimp only); first | assumption | decide | omega | (simp only [ti_0, ti_1, ti_2, ti_3, ti_4, ti_5, ti_6, ti_7, ti_8, ti_9, ti_10, ti_11, ti_12, ti_m1]; omega))), (by (try dsimp only); omega), (by (try dsimp only); have h1 := rs1; unfold WQ at h1 ⊢; omega), (by (try dsimp only); omega), (by (try dsimp only); omega), (by (try dsimp only); unfold TK; omega), (by (try dsimp only); unfold NV; omega), trivial⟩ (by decide) (by decide) dX6_advance_156
    · have ic_12 : 3 < z_11.toInt := inle c_12 (rfl) (by decide)
      refine lv_iconst (v := 4) hx hb dX6_advance_112 (by decide) ?_
      refine lv_goto (tgt := 117) hx hb dX6_advance_113 (by decide) ?_
      refine va_put (D := D) (ci := 6) (v := .int 4) (ty := .int) (C := RX6) (T := TX6) (N := 9) hx hb htg gRX6 tyX6 tyX6_ok nmX6 hown hK hP hD hS 0 rfl rfl 7 (by decide) (htg _ wi_262) (fun _ h9 => h9) rfl (by decide +kernel) rfl rfl (Nat.le_of_ble_eq_true rfl) dX6_advance_117 (fun H locs hP hD hS => ?_)
      obtain ⟨hP, hD⟩ : PD D A [(sw_6 h0 o t1 t2 tb t4 r_2 r_10 4 t8), (sw_by cT tb 900 tf)] _ := ⟨hP, hD⟩
      refine lv_aload_n hx hb dX6_advance_120 rfl (lv_at hl 0 rfl) ?_
      refine xk_v (wr := []) (xr_V (n := 0) (As := []) (rest := []) ⟨hx, hb, hml, hown, htg⟩ hK hN hP hD hS hA [0, 1] rfl (by decide) (g_readValueR l D cT _ (h0) (o) (tb) (t1) (t2) (t4) (r_2) (r_10) (4) (t8) (by first | assumption | decide | omega | (simp only [ti_0, ti_1, ti_2, ti_3, ti_4, ti_5, ti_6, ti_7, ti_8, ti_9, ti_10, ti_11, ti_12, ti_m1]; omega)) (by first | assumption | decide | omega | (simp only [ti_0, ti_1, ti_2, ti_3, ti_4, ti_5, ti_6, ti_7, ti_8, ti_9, ti_10, ti_11, ti_12, ti_m1]; omega)) (by first | assumption | decide | omega | (simp only [ti_0, ti_1, ti_2, ti_3, ti_4, ti_5, ti_6, ti_7, ti_8, ti_9, ti_10, ti_11, ti_12, ti_m1]; omega)) (tf) (tx) (by first | assumption | decide | omega | (simp only [ti_0, ti_1, ti_2, ti_3, ti_4, ti_5, ti_6, ti_7, ti_8, ti_9, ti_10, ti_11, ti_12, ti_m1]; omega)) (by first | assumption | decide | omega | (simp only [ti_0, ti_1, ti_2, ti_3, ti_4, ti_5, ti_6, ti_7, ti_8, ti_9, ti_10, ti_11, ti_12, ti_m1]; omega))) wi_545 wi_547 wi_6 wi_122 wi_548 rfl rfl rfl ⟨rfl, by decide +kernel⟩ ⟨Nat.le_of_ble_eq_true rfl, Nat.le_of_ble_eq_true rfl⟩ rfl hl.1 rfl (Nat.le_of_ble_eq_true rfl) dX6_advance_121 ⟨Nat.le_of_ble_eq_true rfl, Nat.le_of_ble_eq_true rfl⟩) hP hD hS hA [0, 1] [] rfl rfl (by decide) (by decide) (fun u_15 H locs hwr_16 hP hD hS => ?_)
      obtain ⟨hP, hD⟩ : PD D A [(sw_6 h0 o t1 t2 tb t4 r_2 r_10 4 u_15), (sw_by cT tb 900 tf)] _ := ⟨hP, hD⟩
      have qr_16_0 : u_15.toInt = valB tx r_2.toInt (min (r_10.toInt - r_2.toInt) 3).toNat := hwr_16.1
      refine lv_goto (tgt := 156) hx hb dX6_advance_124 (by decide) ?_
      have hNx := nxt_d (tx := tx) (n := t4.toInt) (sg := sg) (st := r_2.toInt) (en := r_10.toInt) (by rw [← rs3]; exact qr_2_2) (by omega) (by exact qr_10_2)
      exact x_vret hx hb hr hlk hP hD hS [0, 1] ((t1, t2, r_2, r_10, 4, u_15)) rfl (by decide) ⟨(by first | with_reducible rfl | ((try dsimp only); first | assumption | decide | omega | (simp only [ti_0, ti_1, ti_2, ti_3, ti_4, ti_5, ti_6, ti_7, ti_8, ti_9, ti_10, ti_11, ti_12, ti_m1]; omega))), (by first | with_reducible rfl | ((try dsimp only); first | assumption | decide | omega | (simp only [ti_0, ti_1, ti_2, ti_3, ti_4, ti_5, ti_6, ti_7, ti_8, ti_9, ti_10, ti_11, ti_12, ti_m1]; omega))), (by first | with_reducible rfl | ((try dsimp only); first | assumption | decide | omega | (simp only [ti_0, ti_1, ti_2, ti_3, ti_4, ti_5, ti_6, ti_7, ti_8, ti_9, ti_10, ti_11, ti_12, ti_m1]; omega))), (by (try dsimp only); omega), (by (try dsimp only); have h1 := rs1; unfold WQ at h1 ⊢; omega), (by (try dsimp only); omega), (by (try dsimp only); omega), (by (try dsimp only); unfold TK; omega), (by (try dsimp only); unfold NV; omega), trivial⟩ (by decide) (by decide) dX6_advance_156
  · have ic_6 : r_5.toInt = 4 := ieq c_6 rfl (by decide)
    refine lv_is (y := 4) c_6 ?_
    refine lv_tableIn (off := 96) (tgt := 127) hx hb dX6_advance_31 (by decide) (by decide) (by decide) (by decide) ?_
    refine lv_aload_n hx hb dX6_advance_127 rfl (lv_at hl 0 rfl) ?_
    refine lv_iconst (v := 3) hx hb dX6_advance_128 (by decide) ?_
    refine va_put (D := D) (ci := 6) (v := .int 3) (ty := .int) (C := RX6) (T := TX6) (N := 9) hx hb htg gRX6 tyX6 tyX6_ok nmX6 hown hK hP hD hS 0 rfl rfl 7 (by decide) (htg _ wi_262) (fun _ h9 => h9) rfl (by decide +kernel) rfl rfl (Nat.le_of_ble_eq_true rfl) dX6_advance_129 (fun H locs hP hD hS => ?_)
    obtain ⟨hP, hD⟩ : PD D A [(sw_6 h0 o t1 t2 tb t4 r_2 z_3 3 t8), (sw_by cT tb 900 tf)] _ := ⟨hP, hD⟩
    refine lv_goto (tgt := 156) hx hb dX6_advance_132 (by decide) ?_
    have hNx := nxt_o (tx := tx) (n := t4.toInt) (sg := sg) (st := r_2.toInt) (by rw [← rs3]; exact qr_2_2) (by omega) (by omega)
    exact x_vret hx hb hr hlk hP hD hS [0, 1] ((t1, t2, r_2, z_3, 3, t8)) rfl (by decide) ⟨(by first | with_reducible rfl | ((try dsimp only); first | assumption | decide | omega | (simp only [ti_0, ti_1, ti_2, ti_3, ti_4, ti_5, ti_6, ti_7, ti_8, ti_9, ti_10, ti_11, ti_12, ti_m1]; omega))), (by first | with_reducible rfl | ((try dsimp only); first | assumption | decide | omega | (simp only [ti_0, ti_1, ti_2, ti_3, ti_4, ti_5, ti_6, ti_7, ti_8, ti_9, ti_10, ti_11, ti_12, ti_m1]; omega))), (by first | with_reducible rfl | ((try dsimp only); first | assumption | decide | omega | (simp only [ti_0, ti_1, ti_2, ti_3, ti_4, ti_5, ti_6, ti_7, ti_8, ti_9, ti_10, ti_11, ti_12, ti_m1]; omega))), (by (try dsimp only); omega), (by (try dsimp only); have h1 := rs1; unfold WQ at h1 ⊢; omega), (by (try dsimp only); omega), (by (try dsimp only); omega), (by (try dsimp only); unfold TK; omega), (by (try dsimp only); unfold NV; omega), trivial⟩ (by decide) (by decide) dX6_advance_156
