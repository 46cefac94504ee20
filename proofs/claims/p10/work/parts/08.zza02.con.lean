set_option maxHeartbeats 4000000 in
set_option maxRecDepth 100000 in
theorem g_k_heightX (l : Launch) (D : va_G) (cT : Nat → ClassId) (sz : Nat) (h0 : Nat) (q : Nat → Nat) (n1 : Int32) (hn1 : 0 ≤ n1.toInt ∧ n1.toInt ≤ 900) (p0 : Int32) (p1 : Int32) (p2 : Int32) (p3 : Int32) (p4 : Int32) (p5 : Int32) (p6 : Int32) (p7 : Int32) (p8 : Int32) (p9 : Int32) (hs : 0 ≤ p0.toInt ∧ p0.toInt ≤ 16) (hat : 0 ≤ p3.toInt ∧ p3.toInt ≤ 15) (x : Int32) : Met l yX8_height (wsc yX8_height cX8_height 3 (some .int)) { frames := 2, cells := 0, slots := 0, locals := 100 } (va_Pc [.ref h0, .int x] (PX D cT sz [(sw_8 h0 q n1), (sw_3 (q 2) p0 p1 p2 p3 p4 p5 p6 p7 p8 p9 (q 12) (q 13) (q 14) (q 15) (q 16) (q 17))])) (va_Qi (fun (r : Int32) (u : Int32) => ((1 ≤ x.toInt ∧ x.toInt ≤ 30 ∧ u.toInt = x.toInt ∧ r.toInt = p4.toInt) ∨ ((x.toInt < 1 ∨ 30 < x.toInt) ∧ u.toInt = p4.toInt ∧ r.toInt = -3)) ∧ (True)) (fun u t => RW D (va_A [(sw_8 h0 q n1), (sw_3 (q 2) p0 p1 p2 p3 p4 p5 p6 p7 p8 p9 (q 12) (q 13) (q 14) (q 15) (q 16) (q 17))] sz) ((fun u : Int32 => [(sw_8 h0 q n1), (sw_3 (q 2) p0 p1 p2 p3 u p5 p6 p7 p8 p9 (q 12) (q 13) (q 14) (q 15) (q 16) (q 17))]) u) t) (va_A [(sw_8 h0 q n1), (sw_3 (q 2) p0 p1 p2 p3 p4 p5 p6 p7 p8 p9 (q 12) (q 13) (q 14) (q 15) (q 16) (q 17))] sz)) 0 0 (va_A [(sw_8 h0 q n1), (sw_3 (q 2) p0 p1 p2 p3 p4 p5 p6 p7 p8 p9 (q 12) (q 13) (q 14) (q 15) (q 16) (q 17))] sz) := by
  refine m_of (y := yX8_height) (cc := cX8_height) (nL := 3) (ret := (some .int)) (D := D) (cT := cT) (av := [.ref h0, .int x]) (wi := [(sw_8 h0 q n1), (sw_3 (q 2) p0 p1 p2 p3 p4 p5 p6 p7 p8 p9 (q 12) (q 13) (q 14) (q 15) (q 16) (q 17))]) (fun A => va_Qi (fun (r : Int32) (u : Int32) => ((1 ≤ x.toInt ∧ x.toInt ≤ 30 ∧ u.toInt = x.toInt ∧ r.toInt = p4.toInt) ∨ ((x.toInt < 1 ∨ 30 < x.toInt) ∧ u.toInt = p4.toInt ∧ r.toInt = -3)) ∧ (True)) (fun u t => RW D A ((fun u : Int32 => [(sw_8 h0 q n1), (sw_3 (q 2) p0 p1 p2 p3 u p5 p6 p7 p8 p9 (q 12) (q 13) (q 14) (q 15) (q 16) (q 17))]) u) t) A) (by decide) (Nat.le_of_ble_eq_true rfl) ?_
  intro p e s m below meth c A hx hb hml hown htg hK hN hr hlk hnm hsz hP hD hS hA ls hl
  have hown : s.vm.findClass RX8 = some m.cls := hown
  have hl : lv_has ls 3 [(0, .ref h0), (1, .int x)] := hl
  have t9_1 : (1 : Int32).toInt = 1 := by decide
  have t9_30 : (30 : Int32).toInt = 30 := by decide
  have t9_m3 : ((-3) : Int32).toInt = (-3) := by decide
  refine lv_iload_n hx hb dX8_height_0 rfl (lv_at hl 1 rfl) ?_
  refine lv_iconst (v := 1) hx hb dX8_height_1 (by decide) ?_
  refine lv_icmp_lt (tgt := 11) hx hb dX8_height_2 (by decide) (fun c_1 => ?_) (fun c_1 => ?_)
  · have ic_1 : x.toInt < 1 := ilt c_1 (rfl) (by decide)
    refine lv_bipush (v := (-3)) hx hb dX8_height_11 (by decide) ?_
    exact x_iret hx hb hr hlk hP hD hS [0, 1] ((p4)) rfl (by decide) ⟨by (try dsimp only); first | assumption | omega | decide | exact Or.inl (by decide) | (intro h9; exact absurd h9 (by decide)) | (intro _; decide) | (simp only [ti_0, ti_1, ti_2, ti_3, ti_4, ti_5, ti_6, ti_7, ti_8, ti_9, ti_10, ti_11, ti_12, ti_m1]; omega) | (simp only [ti_0, ti_1, ti_2, ti_3, ti_4, ti_5, ti_6, ti_7, ti_8, ti_9, ti_10, ti_11, ti_12, ti_m1]; done), trivial⟩ (by decide) (by decide) dX8_height_13
  · have ic_1 : 1 ≤ x.toInt := inlt c_1 (rfl) (by decide)
    refine lv_iload_n hx hb dX8_height_5 rfl (lv_at hl 1 rfl) ?_
    refine lv_bipush (v := 30) hx hb dX8_height_6 (by decide) ?_
    refine lv_icmp_le (tgt := 14) hx hb dX8_height_8 (by decide) (fun c_2 => ?_) (fun c_2 => ?_)
    · have ic_2 : x.toInt ≤ 30 := ile c_2 (rfl) (by decide)
      refine lv_aload_n hx hb dX8_height_14 rfl (lv_at hl 0 rfl) ?_
      refine va_get (D := D) (ci := 8) (v := .ref (q 2)) (C := RX8) (T := TX8) (N := 13) hx hb htg gRX8 hown hK hP 0 rfl rfl 3 (by decide) (htg _ wi_470) (fun _ h9 => h9) rfl dX8_height_15 ?_
      refine va_getN (D := D) (ci := 3) (v := .int p4) (C := RX3) (T := TX3) (N := 16) hx hb htg gRX3 hown hK hP 1 rfl rfl 4 (by decide) (va_Nw.use rfl (hN.1 _ ni_183)) (fun _ h9 => h9) rfl dX8_height_18 ?_
      refine lv_istore_n (lv' := [(2, .int p4), (0, .ref h0), (1, .int x)]) hx hb dX8_height_21 rfl hl (by decide) rfl (fun ls hl => ?_)
      refine lv_aload_n hx hb dX8_height_22 rfl (lv_at hl 1 rfl) ?_
      refine va_get (D := D) (ci := 8) (v := .ref (q 2)) (C := RX8) (T := TX8) (N := 13) hx hb htg gRX8 hown hK hP 0 rfl rfl 3 (by decide) (htg _ wi_470) (fun _ h9 => h9) rfl dX8_height_23 ?_
      refine lv_iload_n hx hb dX8_height_26 rfl (lv_at hl 2 rfl) ?_
      refine va_putN (D := D) (ci := 3) (v := .int x) (ty := .int) (C := RX3) (T := TX3) (N := 16) hx hb htg gRX3 tyX3 tyX3_ok nmX3 hown hK hP hD hS 1 rfl rfl 4 (by decide) (va_Nw.use rfl (hN.1 _ ni_183)) (fun _ h9 => h9) rfl (by decide +kernel) rfl rfl (Nat.le_of_ble_eq_true rfl) dX8_height_27 (fun H locs hP hD hS => ?_)
      obtain ⟨hP, hD⟩ : PD D A [(sw_8 h0 q n1), (sw_3 (q 2) p0 p1 p2 p3 x p5 p6 p7 p8 p9 (q 12) (q 13) (q 14) (q 15) (q 16) (q 17))] _ := ⟨hP, hD⟩
      refine lv_iload_n hx hb dX8_height_30 rfl (lv_at hl 0 rfl) ?_
      exact x_iret hx hb hr hlk hP hD hS [0, 1] ((x)) rfl (by decide) ⟨by (try dsimp only); first | assumption | omega | decide | exact Or.inl (by decide) | (intro h9; exact absurd h9 (by decide)) | (intro _; decide) | (simp only [ti_0, ti_1, ti_2, ti_3, ti_4, ti_5, ti_6, ti_7, ti_8, ti_9, ti_10, ti_11, ti_12, ti_m1]; omega) | (simp only [ti_0, ti_1, ti_2, ti_3, ti_4, ti_5, ti_6, ti_7, ti_8, ti_9, ti_10, ti_11, ti_12, ti_m1]; done), trivial⟩ (by decide) (by decide) dX8_height_31
    · have ic_2 : 30 < x.toInt := inle c_2 (rfl) (by decide)
      refine lv_bipush (v := (-3)) hx hb dX8_height_11 (by decide) ?_
      exact x_iret hx hb hr hlk hP hD hS [0, 1] ((p4)) rfl (by decide) ⟨by (try dsimp only); first | assumption | omega | decide | exact Or.inl (by decide) | (intro h9; exact absurd h9 (by decide)) | (intro _; decide) | (simp only [ti_0, ti_1, ti_2, ti_3, ti_4, ti_5, ti_6, ti_7, ti_8, ti_9, ti_10, ti_11, ti_12, ti_m1]; omega) | (simp only [ti_0, ti_1, ti_2, ti_3, ti_4, ti_5, ti_6, ti_7, ti_8, ti_9, ti_10, ti_11, ti_12, ti_m1]; done), trivial⟩ (by decide) (by decide) dX8_height_13
set_option maxHeartbeats 4000000 in
set_option maxRecDepth 100000 in
theorem g_k_fellX (l : Launch) (D : va_G) (cT : Nat → ClassId) (sz : Nat) (h0 : Nat) (q : Nat → Nat) (n1 : Int32) (hn1 : 0 ≤ n1.toInt ∧ n1.toInt ≤ 900) (p0 : Int32) (p1 : Int32) (p2 : Int32) (p3 : Int32) (p4 : Int32) (p5 : Int32) (p6 : Int32) (p7 : Int32) (p8 : Int32) (p9 : Int32) (hs : 0 ≤ p0.toInt ∧ p0.toInt ≤ 16) (hat : 0 ≤ p3.toInt ∧ p3.toInt ≤ 15) (x : Int32) (f2 : Nat → Int32) : Met l yX8_fell (wsc yX8_fell cX8_fell 3 (some .int)) { frames := 3, cells := 0, slots := 0, locals := 121 } (va_Pc [.ref h0, .int x] (PX D cT sz [(sw_8 h0 q n1), (sw_3 (q 2) p0 p1 p2 p3 p4 p5 p6 p7 p8 p9 (q 12) (q 13) (q 14) (q 15) (q 16) (q 17)), (sw_in cT (q 14) 16 f2)])) (va_Qi (fun (r : Int32) (u : (Nat → Int32)) => (((x.toInt < 0 ∨ p0.toInt ≤ x.toInt) ∧ r.toInt = -2) ∨ (0 ≤ x.toInt ∧ x.toInt < p0.toInt ∧ (f2 x.toInt.toNat).toInt = 0 ∧ r.toInt = -5) ∨ (0 ≤ x.toInt ∧ x.toInt < p0.toInt ∧ ¬ (f2 x.toInt.toNat).toInt = 0 ∧ r.toInt = (f2 x.toInt.toNat).toInt)) ∧ (∀ j : Nat, u j = if (j : Int) = x.toInt ∧ x.toInt < p0.toInt then 0 else f2 j) ∧ (True)) (fun u t => RW D (va_A [(sw_8 h0 q n1), (sw_3 (q 2) p0 p1 p2 p3 p4 p5 p6 p7 p8 p9 (q 12) (q 13) (q 14) (q 15) (q 16) (q 17)), (sw_in cT (q 14) 16 f2)] sz) ((fun u : (Nat → Int32) => [(sw_8 h0 q n1), (sw_3 (q 2) p0 p1 p2 p3 p4 p5 p6 p7 p8 p9 (q 12) (q 13) (q 14) (q 15) (q 16) (q 17)), (sw_in cT (q 14) 16 u)]) u) t) (va_A [(sw_8 h0 q n1), (sw_3 (q 2) p0 p1 p2 p3 p4 p5 p6 p7 p8 p9 (q 12) (q 13) (q 14) (q 15) (q 16) (q 17)), (sw_in cT (q 14) 16 f2)] sz)) 0 0 (va_A [(sw_8 h0 q n1), (sw_3 (q 2) p0 p1 p2 p3 p4 p5 p6 p7 p8 p9 (q 12) (q 13) (q 14) (q 15) (q 16) (q 17)), (sw_in cT (q 14) 16 f2)] sz) := by
  refine m_of (y := yX8_fell) (cc := cX8_fell) (nL := 3) (ret := (some .int)) (D := D) (cT := cT) (av := [.ref h0, .int x]) (wi := [(sw_8 h0 q n1), (sw_3 (q 2) p0 p1 p2 p3 p4 p5 p6 p7 p8 p9 (q 12) (q 13) (q 14) (q 15) (q 16) (q 17)), (sw_in cT (q 14) 16 f2)]) (fun A => va_Qi (fun (r : Int32) (u : (Nat → Int32)) => (((x.toInt < 0 ∨ p0.toInt ≤ x.toInt) ∧ r.toInt = -2) ∨ (0 ≤ x.toInt ∧ x.toInt < p0.toInt ∧ (f2 x.toInt.toNat).toInt = 0 ∧ r.toInt = -5) ∨ (0 ≤ x.toInt ∧ x.toInt < p0.toInt ∧ ¬ (f2 x.toInt.toNat).toInt = 0 ∧ r.toInt = (f2 x.toInt.toNat).toInt)) ∧ (∀ j : Nat, u j = if (j : Int) = x.toInt ∧ x.toInt < p0.toInt then 0 else f2 j) ∧ (True)) (fun u t => RW D A ((fun u : (Nat → Int32) => [(sw_8 h0 q n1), (sw_3 (q 2) p0 p1 p2 p3 p4 p5 p6 p7 p8 p9 (q 12) (q 13) (q 14) (q 15) (q 16) (q 17)), (sw_in cT (q 14) 16 u)]) u) t) A) (by decide) (Nat.le_of_ble_eq_true rfl) ?_
  intro p e s m below meth c A hx hb hml hown htg hK hN hr hlk hnm hsz hP hD hS hA ls hl
  have hown : s.vm.findClass RX8 = some m.cls := hown
  have hl : lv_has ls 3 [(0, .ref h0), (1, .int x)] := hl
  have t9_m2 : ((-2) : Int32).toInt = (-2) := by decide
  have t9_m5 : ((-5) : Int32).toInt = (-5) := by decide
  have t9_0 : (0 : Int32).toInt = 0 := by decide
  refine lv_aload_n hx hb dX8_fell_0 rfl (lv_at hl 0 rfl) ?_
  refine va_get (D := D) (ci := 8) (v := .ref (q 2)) (C := RX8) (T := TX8) (N := 13) hx hb htg gRX8 hown hK hP 0 rfl rfl 3 (by decide) (htg _ wi_470) (fun _ h9 => h9) rfl dX8_fell_1 ?_
  refine lv_iload_n hx hb dX8_fell_4 rfl (lv_at hl 1 rfl) ?_
  refine xk_i (wr := [(sw_8 h0 q n1), (sw_in cT (q 14) 16 f2)]) (xr_VN (n := 1) (As := [.int x]) (rest := []) ⟨hx, hb, hml, hown, htg⟩ hK hN hP hD hS hA [1] rfl (by decide) (g_hasStrip l D cT _ ((q 2)) (fun k => [(q 12), (q 13), (q 14), (q 15), (q 16), (q 17)].getD k 0) (p0) (p1) (p2) (p3) (p4) (p5) (p6) (p7) (p8) (p9) (x)) ni_666 wi_668 wi_18 wi_123 wi_669 rfl rfl rfl ⟨rfl, by decide +kernel⟩ ⟨Nat.le_of_ble_eq_true rfl, Nat.le_of_ble_eq_true rfl⟩ rfl hl.1 rfl (Nat.le_of_ble_eq_true rfl) dX8_fell_5 ⟨Nat.le_of_ble_eq_true rfl, Nat.le_of_ble_eq_true rfl⟩) hP hD hS hA [1] [0, 2] rfl rfl (by decide) (by decide) (fun r_2 u_1 H locs hwr_2 hP hD hS => ?_)
  obtain ⟨hP, hD⟩ : PD D A [(sw_8 h0 q n1), (sw_in cT (q 14) 16 f2), (sw_3 (q 2) p0 p1 p2 p3 p4 p5 p6 p7 p8 p9 (q 12) (q 13) (q 14) (q 15) (q 16) (q 17))] _ := ⟨hP, hD⟩
  have hwr_2 : r_2 = if 0 ≤ x.toInt ∧ x.toInt < p0.toInt then 1 else 0 := hwr_2
  refine lv_if_ne (tgt := 14) hx hb dX8_fell_8 (by decide) (fun c_3 => ?_) (fun c_3 => ?_)
  · have ic_3 := if1 hwr_2 c_3
    refine lv_aload_n hx hb dX8_fell_14 rfl (lv_at hl 0 rfl) ?_
    refine va_get (D := D) (ci := 8) (v := .ref (q 2)) (C := RX8) (T := TX8) (N := 13) hx hb htg gRX8 hown hK hP 0 rfl rfl 3 (by decide) (htg _ wi_470) (fun _ h9 => h9) rfl dX8_fell_15 ?_
    refine va_getN (D := D) (ci := 3) (v := .ref (q 14)) (C := RX3) (T := TX3) (N := 16) hx hb htg gRX3 hown hK hP 2 rfl rfl 12 (by decide) (va_Nw.use rfl (hN.1 _ ni_207)) (fun _ h9 => h9) rfl dX8_fell_18 ?_
    refine lv_iload_n hx hb dX8_fell_21 rfl (lv_at hl 1 rfl) ?_
    refine va_iald hx hb hK hP 1 0 rfl rfl (vp_in_iff.mpr (by omega)) dX8_fell_22 ?_
    refine lv_topi (fun z_4 ez_4 => ?_)
    have nz_4 : z_4.toInt = (f2 x.toInt.toNat).toInt := by rw [ez_4]; rfl
    refine lv_istore_n (lv' := [(2, .int z_4), (0, .ref h0), (1, .int x)]) hx hb dX8_fell_23 rfl hl (by decide) rfl (fun ls hl => ?_)
    refine lv_iload_n hx hb dX8_fell_24 rfl (lv_at hl 0 rfl) ?_
    refine lv_if_ne (tgt := 31) hx hb dX8_fell_25 (by decide) (fun c_5 => ?_) (fun c_5 => ?_)
    · have ic_5 : ¬ z_4.toInt = 0 := ine c_5 (rfl) (by decide)
      refine lv_aload_n hx hb dX8_fell_31 rfl (lv_at hl 1 rfl) ?_
      refine va_get (D := D) (ci := 8) (v := .ref (q 2)) (C := RX8) (T := TX8) (N := 13) hx hb htg gRX8 hown hK hP 0 rfl rfl 3 (by decide) (htg _ wi_470) (fun _ h9 => h9) rfl dX8_fell_32 ?_
      refine va_getN (D := D) (ci := 3) (v := .ref (q 14)) (C := RX3) (T := TX3) (N := 16) hx hb htg gRX3 hown hK hP 2 rfl rfl 12 (by decide) (va_Nw.use rfl (hN.1 _ ni_207)) (fun _ h9 => h9) rfl dX8_fell_35 ?_
      refine lv_iload_n hx hb dX8_fell_38 rfl (lv_at hl 2 rfl) ?_
      refine lv_iconst (v := 0) hx hb dX8_fell_39 (by decide) ?_
      refine va_iast hx hb hK hP hD hS 1 0 rfl rfl (vp_in_iff.mpr (by omega)) dX8_fell_40 (fun H locs hP hD hS => ?_)
      obtain ⟨f_6, ef_6, hP, hD⟩ : ∃ f_6 : Nat → Int32, f_6 = upd (f2) (x : Int32).toNatClampNeg 0 ∧ PD D A [(sw_8 h0 q n1), (sw_in cT (q 14) 16 f_6), (sw_3 (q 2) p0 p1 p2 p3 p4 p5 p6 p7 p8 p9 (q 12) (q 13) (q 14) (q 15) (q 16) (q 17))] H := ⟨_, rfl, hP, hD⟩
      refine lv_iload_n hx hb dX8_fell_41 rfl (lv_at hl 0 rfl) ?_
      exact x_iret hx hb hr hlk hP hD hS [0, 2, 1] ((f_6)) rfl (by decide) ⟨(by (try dsimp only); omega), (fun j => by (try dsimp only); rw [ef_6]; by_cases h9 : (j : Int) = x.toInt ∧ x.toInt < p0.toInt; rw [if_pos h9, upd_at2 (by omega)]; rw [if_neg h9, upd_no (by omega) (by omega)]), trivial⟩ (by decide) (by decide) dX8_fell_42
    · have ic_5 : z_4.toInt = 0 := ieq c_5 (rfl) (by decide)
      refine lv_bipush (v := (-5)) hx hb dX8_fell_28 (by decide) ?_
      exact x_iret hx hb hr hlk hP hD hS [0, 2, 1] ((f2)) rfl (by decide) ⟨(by (try dsimp only); omega), (fun j => by (try dsimp only); by_cases h9 : (j : Int) = x.toInt ∧ x.toInt < p0.toInt; rw [if_pos h9]; exact i32_is (by rw [show j = x.toInt.toNat from by omega, ti_0]; omega); rw [if_neg h9]), trivial⟩ (by decide) (by decide) dX8_fell_30
  · have ic_3 := if0 hwr_2 c_3
    refine lv_bipush (v := (-2)) hx hb dX8_fell_11 (by decide) ?_
    exact x_iret hx hb hr hlk hP hD hS [0, 2, 1] ((f2)) rfl (by decide) ⟨(by (try dsimp only); omega), (fun j => by (try dsimp only); rw [if_neg (by omega)]), trivial⟩ (by decide) (by decide) dX8_fell_13
