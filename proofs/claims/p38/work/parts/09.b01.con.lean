set_option maxHeartbeats 4000000 in
set_option maxRecDepth 100000 in
theorem m_writeR (l : Launch) (D : va_G) (cT : Nat → ClassId) (sz : Nat) (h0 : Nat) (g : Nat → Nat) (b0 : Int32) (b5 : Int32) (b6 : Int32) (b7 : Int32) (b8 : Int32) (b9 : Int32) (b10 : Int32) (b11 : Int32) (b12 : Int32) (b13 : Int32) (b14 : Int32) (b17 : Int32) (b18 : Int32) (b19 : Int32) (b23 : Int32) (b24 : Int32) (b25 : Int32) (b26 : Int32) (b27 : Int32) (b29 : Int32) (b31 : Int32) (b32 : Int32) (b33 : Int32) (hb5 : 0 ≤ b5.toInt ∧ b5.toInt ≤ 900) (a11 : Nat → Int32) (a12 : Nat → Int32) (e12 : EL a12 4 0 40) (a13 : Nat → Int64) (x : Int32) (y : Int32) (v : Int64) : Met l yX9_write (wsc yX9_write cX9_write 5 (some .long)) { frames := 3, cells := 0, slots := 0, locals := 125 } (va_Pc [.ref h0, .int x, .int y, .long v] (PX D cT sz [(sw_9 h0 g b0 b5 b6 b7 b8 b9 b10 b11 b12 b13 b14 b17 b18 b19 b23 b24 b25 b26 b27 b29 b31 b32 b33), (sw_in cT (g 11) 4 a11), (sw_in cT (g 12) 4 a12), (sw_lo cT (g 13) 160 a13)])) (va_Ql (fun (r : Int64) (u : Int32 × (Nat → Int64)) => (x.toInt = 0 → r = wrB y.toInt (a11 0).toInt (a12 0).toInt v) ∧ (x.toInt = 1 → r = wrB y.toInt (a11 1).toInt (a12 1).toInt v) ∧ (x.toInt = 2 → r = wrB y.toInt (a11 2).toInt (a12 2).toInt v) ∧ (x.toInt = 3 → r = wrB y.toInt (a11 3).toInt (a12 3).toInt v) ∧ ((x.toInt < 0 ∨ 3 < x.toInt) → r = -2) ∧ (True)) (fun u t => RW D (va_A [(sw_9 h0 g b0 b5 b6 b7 b8 b9 b10 b11 b12 b13 b14 b17 b18 b19 b23 b24 b25 b26 b27 b29 b31 b32 b33), (sw_in cT (g 11) 4 a11), (sw_in cT (g 12) 4 a12), (sw_lo cT (g 13) 160 a13)] sz) ((fun u : Int32 × (Nat → Int64) => [(sw_9 h0 g u.1 b5 b6 b7 b8 b9 b10 b11 b12 b13 b14 b17 b18 b19 b23 b24 b25 b26 b27 b29 b31 b32 b33), (sw_in cT (g 11) 4 a11), (sw_in cT (g 12) 4 a12), (sw_lo cT (g 13) 160 u.2)]) u) t) (va_A [(sw_9 h0 g b0 b5 b6 b7 b8 b9 b10 b11 b12 b13 b14 b17 b18 b19 b23 b24 b25 b26 b27 b29 b31 b32 b33), (sw_in cT (g 11) 4 a11), (sw_in cT (g 12) 4 a12), (sw_lo cT (g 13) 160 a13)] sz)) 0 0 (va_A [(sw_9 h0 g b0 b5 b6 b7 b8 b9 b10 b11 b12 b13 b14 b17 b18 b19 b23 b24 b25 b26 b27 b29 b31 b32 b33), (sw_in cT (g 11) 4 a11), (sw_in cT (g 12) 4 a12), (sw_lo cT (g 13) 160 a13)] sz) := by
  refine m_of (y := yX9_write) (cc := cX9_write) (nL := 5) (ret := (some .long)) (D := D) (cT := cT) (av := [.ref h0, .int x, .int y, .long v]) (wi := [(sw_9 h0 g b0 b5 b6 b7 b8 b9 b10 b11 b12 b13 b14 b17 b18 b19 b23 b24 b25 b26 b27 b29 b31 b32 b33), (sw_in cT (g 11) 4 a11), (sw_in cT (g 12) 4 a12), (sw_lo cT (g 13) 160 a13)]) (fun A => va_Ql (fun (r : Int64) (u : Int32 × (Nat → Int64)) => (x.toInt = 0 → r = wrB y.toInt (a11 0).toInt (a12 0).toInt v) ∧ (x.toInt = 1 → r = wrB y.toInt (a11 1).toInt (a12 1).toInt v) ∧ (x.toInt = 2 → r = wrB y.toInt (a11 2).toInt (a12 2).toInt v) ∧ (x.toInt = 3 → r = wrB y.toInt (a11 3).toInt (a12 3).toInt v) ∧ ((x.toInt < 0 ∨ 3 < x.toInt) → r = -2) ∧ (True)) (fun u t => RW D A ((fun u : Int32 × (Nat → Int64) => [(sw_9 h0 g u.1 b5 b6 b7 b8 b9 b10 b11 b12 b13 b14 b17 b18 b19 b23 b24 b25 b26 b27 b29 b31 b32 b33), (sw_in cT (g 11) 4 a11), (sw_in cT (g 12) 4 a12), (sw_lo cT (g 13) 160 u.2)]) u) t) A) (by decide) (Nat.le_of_ble_eq_true rfl) ?_
  intro p e s m below meth c A hx hb hml hown htg hK hN hr hlk hnm hsz hP hD hS hA ls hl
  have hown : s.vm.findClass RX9 = some m.cls := hown
  have hl : lv_has ls 5 [(0, .ref h0), (1, .int x), (2, .int y), (3, .long v)] := hl
  have t9_0 : (0 : Int32).toInt = 0 := by decide
  have t9_1 : (1 : Int32).toInt = 1 := by decide
  have t9_2 : (2 : Int32).toInt = 2 := by decide
  have t9_3 : (3 : Int32).toInt = 3 := by decide
  have tc_m1 : ((-1) : Int32).toInt = (-1) := by decide
  have tc_0 : (0 : Int32).toInt = 0 := by decide
  have tc_1 : (1 : Int32).toInt = 1 := by decide
  have tc_40 : (40 : Int32).toInt = 40 := by decide
  refine lv_aload_n hx hb dX9_write_0 rfl (lv_at hl 0 rfl) ?_
  refine lv_iconst (v := 0) hx hb dX9_write_1 (by decide) ?_
  refine va_put (D := D) (ci := 9) (v := .int 0) (ty := .int) (C := RX9) (T := TX9) (N := 37) hx hb htg gRX9 tyX9 tyX9_ok nmX9 hown hK hP hD hS 0 rfl rfl 0 (by decide) (htg _ wi_1150) (fun _ h9 => h9) rfl (by decide +kernel) rfl rfl (Nat.le_of_ble_eq_true rfl) dX9_write_2 (fun H locs hP hD hS => ?_)
  obtain ⟨hP, hD⟩ : PD D A [(sw_9 h0 g 0 b5 b6 b7 b8 b9 b10 b11 b12 b13 b14 b17 b18 b19 b23 b24 b25 b26 b27 b29 b31 b32 b33), (sw_in cT (g 11) 4 a11), (sw_in cT (g 12) 4 a12), (sw_lo cT (g 13) 160 a13)] _ := ⟨hP, hD⟩
  refine lv_iload_n hx hb dX9_write_5 rfl (lv_at hl 1 rfl) ?_
  refine lv_i2l (v := x.toInt64) hx hb dX9_write_6 rfl ?_
  refine lv_lconst (v := 0) hx hb dX9_write_7 (by decide) ?_
  refine lv_ldc2 (v := 3) hx hb hown (htg _ wi_1366) dX9_write_8 ?_
  have ilw_1 : (x.toInt64).toInt = x.toInt := i2l_i _
  refine xk_i (wr := [(sw_9 h0 g 0 b5 b6 b7 b8 b9 b10 b11 b12 b13 b14 b17 b18 b19 b23 b24 b25 b26 b27 b29 b31 b32 b33), (sw_in cT (g 11) 4 a11), (sw_in cT (g 12) 4 a12), (sw_lo cT (g 13) 160 a13)]) (xr_S (n := 3) (As := [.long x.toInt64, .long 0, .long 3]) (rest := []) ⟨hx, hb, hml, hown, htg⟩ hK hN hP hD hS hA [] rfl (by decide) (m_withinB l D cT _ (x.toInt64) (0) (3) (x.toInt) (0) (3) (i2l_i _) (by decide) (by decide)) wi_1270 wi_1271 wi_131 wi_1272 ⟨rfl, by decide +kernel⟩ ⟨Nat.le_of_ble_eq_true rfl, Nat.le_of_ble_eq_true rfl⟩ rfl hl.1 rfl (Nat.le_of_ble_eq_true rfl) dX9_write_11 ⟨Nat.le_of_ble_eq_true rfl, Nat.le_of_ble_eq_true rfl⟩) hP hD hS hA [] [0, 1, 2, 3] rfl rfl (by decide) (by decide) (fun r_3 u_2 H locs hwr_3 hP hD hS => ?_)
  obtain ⟨hP, hD⟩ : PD D A [(sw_9 h0 g 0 b5 b6 b7 b8 b9 b10 b11 b12 b13 b14 b17 b18 b19 b23 b24 b25 b26 b27 b29 b31 b32 b33), (sw_in cT (g 11) 4 a11), (sw_in cT (g 12) 4 a12), (sw_lo cT (g 13) 160 a13)] _ := ⟨hP, hD⟩
  have qr_3_0 : Imp (¬ r_3.toInt = 0) (0 ≤ x.toInt ∧ x.toInt ≤ 3) := hwr_3.1
  have qr_3_1 : Imp (r_3.toInt = 0) (x.toInt < 0 ∨ 3 < x.toInt) := hwr_3.2.1
  have qr_3_2 : r_3 = 0 ∨ r_3 = 1 := hwr_3.2.2.1
  refine lv_if_ne (tgt := 21) hx hb dX9_write_14 (by decide) (fun c_4 => ?_) (fun c_4 => ?_)
  · have ic_4 : ¬ r_3.toInt = 0 := ine c_4 (rfl) (by decide)
    have kqr_3_0 : 0 ≤ x.toInt ∧ x.toInt ≤ 3 := qr_3_0 ic_4
    have c_5 : x = 0 ∨ x = 1 ∨ x = 2 ∨ x = 3 := by
      rcases (show x.toInt = 0 ∨ x.toInt = 1 ∨ x.toInt = 2 ∨ x.toInt = 3 from by omega) with h | h | h | h
      · exact Or.inl (i32_is (h.trans (by decide)))
      · exact Or.inr (Or.inl (i32_is (h.trans (by decide))))
      · exact Or.inr (Or.inr (Or.inl (i32_is (h.trans (by decide)))))
      · exact Or.inr (Or.inr (Or.inr (i32_is (h.trans (by decide)))))
    rcases c_5 with rfl | rfl | rfl | rfl
    · refine lv_aload_n hx hb dX9_write_21 rfl (lv_at hl 0 rfl) ?_
      refine va_get (D := D) (ci := 9) (v := .ref (g 11)) (C := RX9) (T := TX9) (N := 37) hx hb htg gRX9 hown hK hP 0 rfl rfl 34 (by decide) (htg _ wi_1184) (fun _ h9 => h9) rfl dX9_write_22 ?_
      refine lv_iload_n hx hb dX9_write_25 rfl (lv_at hl 1 rfl) ?_
      refine va_iald hx hb hK hP 1 0 rfl rfl (by unfold vp_in; decide) dX9_write_26 ?_
      refine lv_topi (fun z_6 ez_6 => ?_)
      have nz_6 : z_6.toInt = ((a11) 0).toInt := by rw [ez_6]; rfl
      refine lv_iconst (v := (-1)) hx hb dX9_write_27 (by decide) ?_
      refine lv_icmp_ne (tgt := 35) hx hb dX9_write_28 (by decide) (fun c_7 => ?_) (fun c_7 => ?_)
      · have ic_7 : ¬ z_6.toInt = (-1) := ine c_7 (rfl) (by decide)
        refine lv_iload_n hx hb dX9_write_35 rfl (lv_at hl 2 rfl) ?_
        refine lv_i2l (v := y.toInt64) hx hb dX9_write_36 rfl ?_
        refine lv_lconst (v := 0) hx hb dX9_write_37 (by decide) ?_
        refine lv_aload_n hx hb dX9_write_38 rfl (lv_at hl 0 rfl) ?_
        refine va_get (D := D) (ci := 9) (v := .ref (g 12)) (C := RX9) (T := TX9) (N := 37) hx hb htg gRX9 hown hK hP 0 rfl rfl 35 (by decide) (htg _ wi_1185) (fun _ h9 => h9) rfl dX9_write_39 ?_
        refine lv_iload_n hx hb dX9_write_42 rfl (lv_at hl 1 rfl) ?_
        refine va_iald hx hb hK hP 2 0 rfl rfl (by unfold vp_in; decide) dX9_write_43 ?_
        refine lv_topi (fun z_8 ez_8 => ?_)
        have iz_8 : 0 ≤ z_8.toInt ∧ z_8.toInt ≤ 40 := by rw [ez_8]; exact e12 _ (in_lt (by unfold vp_in; decide))
        have nz_8 : z_8.toInt = ((a12) 0).toInt := by rw [ez_8]; rfl
        refine lv_iconst (v := 1) hx hb dX9_write_44 (by decide) ?_
        refine lv_isub hx hb dX9_write_45 ?_
        refine lv_topi (fun z_9 ez_9 => ?_)
        have iz_9 : z_9.toInt = z_8.toInt - 1 := toInt_subI ez_9 (rfl) (by decide) (by omega)
        refine lv_i2l (v := z_9.toInt64) hx hb dX9_write_46 rfl ?_
        have ilw_10 : (y.toInt64).toInt = y.toInt := i2l_i _
        have ilw_11 : (z_9.toInt64).toInt = z_9.toInt := i2l_i _
        refine xk_i (wr := [(sw_9 h0 g 0 b5 b6 b7 b8 b9 b10 b11 b12 b13 b14 b17 b18 b19 b23 b24 b25 b26 b27 b29 b31 b32 b33), (sw_in cT (g 11) 4 a11), (sw_in cT (g 12) 4 a12), (sw_lo cT (g 13) 160 a13)]) (xr_S (n := 3) (As := [.long y.toInt64, .long 0, .long z_9.toInt64]) (rest := []) ⟨hx, hb, hml, hown, htg⟩ hK hN hP hD hS hA [] rfl (by decide) (m_withinB l D cT _ (y.toInt64) (0) (z_9.toInt64) (y.toInt) (0) (z_9.toInt) (i2l_i _) (by decide) (i2l_i _)) wi_1270 wi_1271 wi_131 wi_1272 ⟨rfl, by decide +kernel⟩ ⟨Nat.le_of_ble_eq_true rfl, Nat.le_of_ble_eq_true rfl⟩ rfl hl.1 rfl (Nat.le_of_ble_eq_true rfl) dX9_write_47 ⟨Nat.le_of_ble_eq_true rfl, Nat.le_of_ble_eq_true rfl⟩) hP hD hS hA [] [0, 1, 2, 3] rfl rfl (by decide) (by decide) (fun r_13 u_12 H locs hwr_13 hP hD hS => ?_)
        obtain ⟨hP, hD⟩ : PD D A [(sw_9 h0 g 0 b5 b6 b7 b8 b9 b10 b11 b12 b13 b14 b17 b18 b19 b23 b24 b25 b26 b27 b29 b31 b32 b33), (sw_in cT (g 11) 4 a11), (sw_in cT (g 12) 4 a12), (sw_lo cT (g 13) 160 a13)] _ := ⟨hP, hD⟩
        have qr_13_0 : Imp (¬ r_13.toInt = 0) (0 ≤ y.toInt ∧ y.toInt ≤ z_9.toInt) := hwr_13.1
        have qr_13_1 : Imp (r_13.toInt = 0) (y.toInt < 0 ∨ z_9.toInt < y.toInt) := hwr_13.2.1
        have qr_13_2 : r_13 = 0 ∨ r_13 = 1 := hwr_13.2.2.1
        refine lv_if_ne (tgt := 57) hx hb dX9_write_50 (by decide) (fun c_14 => ?_) (fun c_14 => ?_)
        · have ic_14 : ¬ r_13.toInt = 0 := ine c_14 (rfl) (by decide)
          have kqr_13_0 : 0 ≤ y.toInt ∧ y.toInt ≤ z_9.toInt := qr_13_0 ic_14
          refine lv_aload_n hx hb dX9_write_57 rfl (lv_at hl 0 rfl) ?_
          refine va_get (D := D) (ci := 9) (v := .ref (g 13)) (C := RX9) (T := TX9) (N := 37) hx hb htg gRX9 hown hK hP 0 rfl rfl 36 (by decide) (htg _ wi_1186) (fun _ h9 => h9) rfl dX9_write_58 ?_
          refine lv_bipush (v := 40) hx hb dX9_write_61 (by decide) ?_
          refine lv_iload_n hx hb dX9_write_63 rfl (lv_at hl 1 rfl) ?_
          refine lv_imul hx hb dX9_write_64 ?_
          refine lv_is (y := 0) (by decide) ?_
          refine lv_iload_n hx hb dX9_write_65 rfl (lv_at hl 2 rfl) ?_
          refine lv_iadd hx hb dX9_write_66 ?_
          refine lv_topi (fun z_15 ez_15 => ?_)
          have iz_15 : z_15.toInt = 0 + y.toInt := toInt_addI ez_15 (by decide) (rfl) (by omega)
          refine lv_lload_n hx hb dX9_write_67 rfl (lv_at hl 3 rfl) ?_
          refine lv_aload_n hx hb dX9_write_68 rfl (lv_at hl 0 rfl) ?_
          refine va_get (D := D) (ci := 9) (v := .ref (g 11)) (C := RX9) (T := TX9) (N := 37) hx hb htg gRX9 hown hK hP 0 rfl rfl 34 (by decide) (htg _ wi_1184) (fun _ h9 => h9) rfl dX9_write_69 ?_
          refine lv_iload_n hx hb dX9_write_72 rfl (lv_at hl 1 rfl) ?_
          refine va_iald hx hb hK hP 1 0 rfl rfl (by unfold vp_in; decide) dX9_write_73 ?_
          refine lv_topi (fun z_16 ez_16 => ?_)
          have nz_16 : z_16.toInt = ((a11) 0).toInt := by rw [ez_16]; rfl
          refine xk_l (wr := [(sw_9 h0 g 0 b5 b6 b7 b8 b9 b10 b11 b12 b13 b14 b17 b18 b19 b23 b24 b25 b26 b27 b29 b31 b32 b33), (sw_in cT (g 11) 4 a11), (sw_in cT (g 12) 4 a12), (sw_lo cT (g 13) 160 a13)]) (xr_S (n := 2) (As := [.long v, .int z_16]) (rest := [.int z_15, .ref (g 13)]) ⟨hx, hb, hml, hown, htg⟩ hK hN hP hD hS hA [] rfl (by decide) (m_cutR l D cT _ (v) (z_16)) wi_1607 wi_1608 wi_131 wi_1609 ⟨rfl, by decide +kernel⟩ ⟨Nat.le_of_ble_eq_true rfl, Nat.le_of_ble_eq_true rfl⟩ rfl hl.1 rfl (Nat.le_of_ble_eq_true rfl) dX9_write_74 ⟨Nat.le_of_ble_eq_true rfl, Nat.le_of_ble_eq_true rfl⟩) hP hD hS hA [] [0, 1, 2, 3] rfl rfl (by decide) (by decide) (fun r_18 u_17 H locs hwr_18 hP hD hS => ?_)
          obtain ⟨hP, hD⟩ : PD D A [(sw_9 h0 g 0 b5 b6 b7 b8 b9 b10 b11 b12 b13 b14 b17 b18 b19 b23 b24 b25 b26 b27 b29 b31 b32 b33), (sw_in cT (g 11) 4 a11), (sw_in cT (g 12) 4 a12), (sw_lo cT (g 13) 160 a13)] _ := ⟨hP, hD⟩
          have qr_18_0 : r_18 = cutL z_16.toInt v := hwr_18.1
          refine va_last hx hb hK hP hD hS 3 1 rfl rfl (vp_in_iff.mpr (by omega)) dX9_write_77 (fun H locs hP hD hS => ?_)
          obtain ⟨hP, hD⟩ : PD D A [(sw_9 h0 g 0 b5 b6 b7 b8 b9 b10 b11 b12 b13 b14 b17 b18 b19 b23 b24 b25 b26 b27 b29 b31 b32 b33), (sw_in cT (g 11) 4 a11), (sw_in cT (g 12) 4 a12), (sw_lo cT (g 13) 160 (vp_updL (a13) (z_15 : Int32).toNatClampNeg (r_18)))] _ := ⟨hP, hD⟩
          refine lv_aload_n hx hb dX9_write_78 rfl (lv_at hl 0 rfl) ?_
          refine va_get (D := D) (ci := 9) (v := .ref (g 13)) (C := RX9) (T := TX9) (N := 37) hx hb htg gRX9 hown hK hP 0 rfl rfl 36 (by decide) (htg _ wi_1186) (fun _ h9 => h9) rfl dX9_write_79 ?_
          refine lv_bipush (v := 40) hx hb dX9_write_82 (by decide) ?_
          refine lv_iload_n hx hb dX9_write_84 rfl (lv_at hl 1 rfl) ?_
          refine lv_imul hx hb dX9_write_85 ?_
          refine lv_is (y := 0) (by decide) ?_
          refine lv_iload_n hx hb dX9_write_86 rfl (lv_at hl 2 rfl) ?_
          refine lv_iadd hx hb dX9_write_87 ?_
          refine lv_topi (fun z_19 ez_19 => ?_)
          have iz_19 : z_19.toInt = 0 + y.toInt := toInt_addI ez_19 (by decide) (rfl) (by omega)
          refine va_lald hx hb hK hP 3 1 rfl rfl (vp_in_iff.mpr (by omega)) dX9_write_88 ?_
          refine lv_topl (fun z_20 ez_20 => ?_)
          exact x_lret hx hb hr hlk hP hD hS [0, 1, 2, 3] ((0, vp_updL (a13) (z_15 : Int32).toNatClampNeg (r_18))) rfl (by decide) ⟨(fun h9 => by first | (exfalso; omega) | (unfold wrB; (repeat (first | rw [if_pos (by omega)] | rw [if_neg (by omega)])); first | done | assumption | (rw [ez_20, updL_eqI iz_15 iz_19, qr_18_0, nz_16]) |  skip)), (fun h9 => by first | (exfalso; omega) | (unfold wrB; (repeat (first | rw [if_pos (by omega)] | rw [if_neg (by omega)])); first | done | assumption | (rw [ez_20, updL_eqI iz_15 iz_19, qr_18_0, nz_16]) |  skip)), (fun h9 => by first | (exfalso; omega) | (unfold wrB; (repeat (first | rw [if_pos (by omega)] | rw [if_neg (by omega)])); first | done | assumption | (rw [ez_20, updL_eqI iz_15 iz_19, qr_18_0, nz_16]) |  skip)), (fun h9 => by first | (exfalso; omega) | (unfold wrB; (repeat (first | rw [if_pos (by omega)] | rw [if_neg (by omega)])); first | done | assumption | (rw [ez_20, updL_eqI iz_15 iz_19, qr_18_0, nz_16]) |  skip)), (fun h9 => by first | (exfalso; omega) | rfl), trivial⟩ (by decide) (by decide) dX9_write_89
        · have ic_14 : r_13.toInt = 0 := ieq c_14 (rfl) (by decide)
          have kqr_13_1 : y.toInt < 0 ∨ z_9.toInt < y.toInt := qr_13_1 ic_14
          refine lv_ldc2 (v := (-7)) hx hb hown (htg _ wi_1606) dX9_write_53 ?_
          exact x_lret hx hb hr hlk hP hD hS [0, 1, 2, 3] ((0, a13)) rfl (by decide) ⟨(fun h9 => by first | (exfalso; omega) | (unfold wrB; (repeat (first | rw [if_pos (by omega)] | rw [if_neg (by omega)])); first | done | assumption |  skip)), (fun h9 => by first | (exfalso; omega) | (unfold wrB; (repeat (first | rw [if_pos (by omega)] | rw [if_neg (by omega)])); first | done | assumption |  skip)), (fun h9 => by first | (exfalso; omega) | (unfold wrB; (repeat (first | rw [if_pos (by omega)] | rw [if_neg (by omega)])); first | done | assumption |  skip)), (fun h9 => by first | (exfalso; omega) | (unfold wrB; (repeat (first | rw [if_pos (by omega)] | rw [if_neg (by omega)])); first | done | assumption |  skip)), (fun h9 => by first | (exfalso; omega) | rfl), trivial⟩ (by decide) (by decide) dX9_write_56
      · have ic_7 : z_6.toInt = (-1) := ieq c_7 (rfl) (by decide)
        refine lv_ldc2 (v := (-6)) hx hb hown (htg _ wi_1605) dX9_write_31 ?_
        exact x_lret hx hb hr hlk hP hD hS [0, 1, 2, 3] ((0, a13)) rfl (by decide) ⟨(fun h9 => by first | (exfalso; omega) | (unfold wrB; (repeat (first | rw [if_pos (by omega)] | rw [if_neg (by omega)])); first | done | assumption |  skip)), (fun h9 => by first | (exfalso; omega) | (unfold wrB; (repeat (first | rw [if_pos (by omega)] | rw [if_neg (by omega)])); first | done | assumption |  skip)), (fun h9 => by first | (exfalso; omega) | (unfold wrB; (repeat (first | rw [if_pos (by omega)] | rw [if_neg (by omega)])); first | done | assumption |  skip)), (fun h9 => by first | (exfalso; omega) | (unfold wrB; (repeat (first | rw [if_pos (by omega)] | rw [if_neg (by omega)])); first | done | assumption |  skip)), (fun h9 => by first | (exfalso; omega) | rfl), trivial⟩ (by decide) (by decide) dX9_write_34
    · refine lv_aload_n hx hb dX9_write_21 rfl (lv_at hl 0 rfl) ?_
      refine va_get (D := D) (ci := 9) (v := .ref (g 11)) (C := RX9) (T := TX9) (N := 37) hx hb htg gRX9 hown hK hP 0 rfl rfl 34 (by decide) (htg _ wi_1184) (fun _ h9 => h9) rfl dX9_write_22 ?_
      refine lv_iload_n hx hb dX9_write_25 rfl (lv_at hl 1 rfl) ?_
      refine va_iald hx hb hK hP 1 0 rfl rfl (by unfold vp_in; decide) dX9_write_26 ?_
      refine lv_topi (fun z_21 ez_21 => ?_)
      have nz_21 : z_21.toInt = ((a11) 1).toInt := by rw [ez_21]; rfl
      refine lv_iconst (v := (-1)) hx hb dX9_write_27 (by decide) ?_
      refine lv_icmp_ne (tgt := 35) hx hb dX9_write_28 (by decide) (fun c_22 => ?_) (fun c_22 => ?_)
      · have ic_22 : ¬ z_21.toInt = (-1) := ine c_22 (rfl) (by decide)
        refine lv_iload_n hx hb dX9_write_35 rfl (lv_at hl 2 rfl) ?_
        refine lv_i2l (v := y.toInt64) hx hb dX9_write_36 rfl ?_
        refine lv_lconst (v := 0) hx hb dX9_write_37 (by decide) ?_
        refine lv_aload_n hx hb dX9_write_38 rfl (lv_at hl 0 rfl) ?_
        refine va_get (D := D) (ci := 9) (v := .ref (g 12)) (C := RX9) (T := TX9) (N := 37) hx hb htg gRX9 hown hK hP 0 rfl rfl 35 (by decide) (htg _ wi_1185) (fun _ h9 => h9) rfl dX9_write_39 ?_
        refine lv_iload_n hx hb dX9_write_42 rfl (lv_at hl 1 rfl) ?_
        refine va_iald hx hb hK hP 2 0 rfl rfl (by unfold vp_in; decide) dX9_write_43 ?_
        refine lv_topi (fun z_23 ez_23 => ?_)
        have iz_23 : 0 ≤ z_23.toInt ∧ z_23.toInt ≤ 40 := by rw [ez_23]; exact e12 _ (in_lt (by unfold vp_in; decide))
        have nz_23 : z_23.toInt = ((a12) 1).toInt := by rw [ez_23]; rfl
        refine lv_iconst (v := 1) hx hb dX9_write_44 (by decide) ?_
        refine lv_isub hx hb dX9_write_45 ?_
        refine lv_topi (fun z_24 ez_24 => ?_)
        have iz_24 : z_24.toInt = z_23.toInt - 1 := toInt_subI ez_24 (rfl) (by decide) (by omega)
        refine lv_i2l (v := z_24.toInt64) hx hb dX9_write_46 rfl ?_
        have ilw_25 : (y.toInt64).toInt = y.toInt := i2l_i _
        have ilw_26 : (z_24.toInt64).toInt = z_24.toInt := i2l_i _
        refine xk_i (wr := [(sw_9 h0 g 0 b5 b6 b7 b8 b9 b10 b11 b12 b13 b14 b17 b18 b19 b23 b24 b25 b26 b27 b29 b31 b32 b33), (sw_in cT (g 11) 4 a11), (sw_in cT (g 12) 4 a12), (sw_lo cT (g 13) 160 a13)]) (xr_S (n := 3) (As := [.long y.toInt64, .long 0, .long z_24.toInt64]) (rest := []) ⟨hx, hb, hml, hown, htg⟩ hK hN hP hD hS hA [] rfl (by decide) (m_withinB l D cT _ (y.toInt64) (0) (z_24.toInt64) (y.toInt) (0) (z_24.toInt) (i2l_i _) (by decide) (i2l_i _)) wi_1270 wi_1271 wi_131 wi_1272 ⟨rfl, by decide +kernel⟩ ⟨Nat.le_of_ble_eq_true rfl, Nat.le_of_ble_eq_true rfl⟩ rfl hl.1 rfl (Nat.le_of_ble_eq_true rfl) dX9_write_47 ⟨Nat.le_of_ble_eq_true rfl, Nat.le_of_ble_eq_true rfl⟩) hP hD hS hA [] [0, 1, 2, 3] rfl rfl (by decide) (by decide) (fun r_28 u_27 H locs hwr_28 hP hD hS => ?_)
        obtain ⟨hP, hD⟩ : PD D A [(sw_9 h0 g 0 b5 b6 b7 b8 b9 b10 b11 b12 b13 b14 b17 b18 b19 b23 b24 b25 b26 b27 b29 b31 b32 b33), (sw_in cT (g 11) 4 a11), (sw_in cT (g 12) 4 a12), (sw_lo cT (g 13) 160 a13)] _ := ⟨hP, hD⟩
        have qr_28_0 : Imp (¬ r_28.toInt = 0) (0 ≤ y.toInt ∧ y.toInt ≤ z_24.toInt) := hwr_28.1
        have qr_28_1 : Imp (r_28.toInt = 0) (y.toInt < 0 ∨ z_24.toInt < y.toInt) := hwr_28.2.1
        have qr_28_2 : r_28 = 0 ∨ r_28 = 1 := hwr_28.2.2.1
        refine lv_if_ne (tgt := 57) hx hb dX9_write_50 (by decide) (fun c_29 => ?_) (fun c_29 => ?_)
        · have ic_29 : ¬ r_28.toInt = 0 := ine c_29 (rfl) (by decide)
          have kqr_28_0 : 0 ≤ y.toInt ∧ y.toInt ≤ z_24.toInt := qr_28_0 ic_29
          refine lv_aload_n hx hb dX9_write_57 rfl (lv_at hl 0 rfl) ?_
          refine va_get (D := D) (ci := 9) (v := .ref (g 13)) (C := RX9) (T := TX9) (N := 37) hx hb htg gRX9 hown hK hP 0 rfl rfl 36 (by decide) (htg _ wi_1186) (fun _ h9 => h9) rfl dX9_write_58 ?_
          refine lv_bipush (v := 40) hx hb dX9_write_61 (by decide) ?_
          refine lv_iload_n hx hb dX9_write_63 rfl (lv_at hl 1 rfl) ?_
          refine lv_imul hx hb dX9_write_64 ?_
          refine lv_is (y := 40) (by decide) ?_
          refine lv_iload_n hx hb dX9_write_65 rfl (lv_at hl 2 rfl) ?_
          refine lv_iadd hx hb dX9_write_66 ?_
          refine lv_topi (fun z_30 ez_30 => ?_)
          have iz_30 : z_30.toInt = 40 + y.toInt := toInt_addI ez_30 (by decide) (rfl) (by omega)
          refine lv_lload_n hx hb dX9_write_67 rfl (lv_at hl 3 rfl) ?_
          refine lv_aload_n hx hb dX9_write_68 rfl (lv_at hl 0 rfl) ?_
          refine va_get (D := D) (ci := 9) (v := .ref (g 11)) (C := RX9) (T := TX9) (N := 37) hx hb htg gRX9 hown hK hP 0 rfl rfl 34 (by decide) (htg _ wi_1184) (fun _ h9 => h9) rfl dX9_write_69 ?_
          refine lv_iload_n hx hb dX9_write_72 rfl (lv_at hl 1 rfl) ?_
          refine va_iald hx hb hK hP 1 0 rfl rfl (by unfold vp_in; decide) dX9_write_73 ?_
          refine lv_topi (fun z_31 ez_31 => ?_)
          have nz_31 : z_31.toInt = ((a11) 1).toInt := by rw [ez_31]; rfl
          refine xk_l (wr := [(sw_9 h0 g 0 b5 b6 b7 b8 b9 b10 b11 b12 b13 b14 b17 b18 b19 b23 b24 b25 b26 b27 b29 b31 b32 b33), (sw_in cT (g 11) 4 a11), (sw_in cT (g 12) 4 a12), (sw_lo cT (g 13) 160 a13)]) (xr_S (n := 2) (As := [.long v, .int z_31]) (rest := [.int z_30, .ref (g 13)]) ⟨hx, hb, hml, hown, htg⟩ hK hN hP hD hS hA [] rfl (by decide) (m_cutR l D cT _ (v) (z_31)) wi_1607 wi_1608 wi_131 wi_1609 ⟨rfl, by decide +kernel⟩ ⟨Nat.le_of_ble_eq_true rfl, Nat.le_of_ble_eq_true rfl⟩ rfl hl.1 rfl (Nat.le_of_ble_eq_true rfl) dX9_write_74 ⟨Nat.le_of_ble_eq_true rfl, Nat.le_of_ble_eq_true rfl⟩) hP hD hS hA [] [0, 1, 2, 3] rfl rfl (by decide) (by decide) (fun r_33 u_32 H locs hwr_33 hP hD hS => ?_)
          obtain ⟨hP, hD⟩ : PD D A [(sw_9 h0 g 0 b5 b6 b7 b8 b9 b10 b11 b12 b13 b14 b17 b18 b19 b23 b24 b25 b26 b27 b29 b31 b32 b33), (sw_in cT (g 11) 4 a11), (sw_in cT (g 12) 4 a12), (sw_lo cT (g 13) 160 a13)] _ := ⟨hP, hD⟩
          have qr_33_0 : r_33 = cutL z_31.toInt v := hwr_33.1
          refine va_last hx hb hK hP hD hS 3 1 rfl rfl (vp_in_iff.mpr (by omega)) dX9_write_77 (fun H locs hP hD hS => ?_)
          obtain ⟨hP, hD⟩ : PD D A [(sw_9 h0 g 0 b5 b6 b7 b8 b9 b10 b11 b12 b13 b14 b17 b18 b19 b23 b24 b25 b26 b27 b29 b31 b32 b33), (sw_in cT (g 11) 4 a11), (sw_in cT (g 12) 4 a12), (sw_lo cT (g 13) 160 (vp_updL (a13) (z_30 : Int32).toNatClampNeg (r_33)))] _ := ⟨hP, hD⟩
          refine lv_aload_n hx hb dX9_write_78 rfl (lv_at hl 0 rfl) ?_
          refine va_get (D := D) (ci := 9) (v := .ref (g 13)) (C := RX9) (T := TX9) (N := 37) hx hb htg gRX9 hown hK hP 0 rfl rfl 36 (by decide) (htg _ wi_1186) (fun _ h9 => h9) rfl dX9_write_79 ?_
          refine lv_bipush (v := 40) hx hb dX9_write_82 (by decide) ?_
          refine lv_iload_n hx hb dX9_write_84 rfl (lv_at hl 1 rfl) ?_
          refine lv_imul hx hb dX9_write_85 ?_
          refine lv_is (y := 40) (by decide) ?_
          refine lv_iload_n hx hb dX9_write_86 rfl (lv_at hl 2 rfl) ?_
          refine lv_iadd hx hb dX9_write_87 ?_
          refine lv_topi (fun z_34 ez_34 => ?_)
          have iz_34 : z_34.toInt = 40 + y.toInt := toInt_addI ez_34 (by decide) (rfl) (by omega)
          refine va_lald hx hb hK hP 3 1 rfl rfl (vp_in_iff.mpr (by omega)) dX9_write_88 ?_
          refine lv_topl (fun z_35 ez_35 => ?_)
          exact x_lret hx hb hr hlk hP hD hS [0, 1, 2, 3] ((0, vp_updL (a13) (z_30 : Int32).toNatClampNeg (r_33))) rfl (by decide) ⟨(fun h9 => by first | (exfalso; omega) | (unfold wrB; (repeat (first | rw [if_pos (by omega)] | rw [if_neg (by omega)])); first | done | assumption | (rw [ez_35, updL_eqI iz_30 iz_34, qr_33_0, nz_31]) |  skip)), (fun h9 => by first | (exfalso; omega) | (unfold wrB; (repeat (first | rw [if_pos (by omega)] | rw [if_neg (by omega)])); first | done | assumption | (rw [ez_35, updL_eqI iz_30 iz_34, qr_33_0, nz_31]) |  skip)), (fun h9 => by first | (exfalso; omega) | (unfold wrB; (repeat (first | rw [if_pos (by omega)] | rw [if_neg (by omega)])); first | done | assumption | (rw [ez_35, updL_eqI iz_30 iz_34, qr_33_0, nz_31]) |  skip)), (fun h9 => by first | (exfalso; omega) | (unfold wrB; (repeat (first | rw [if_pos (by omega)] | rw [if_neg (by omega)])); first | done | assumption | (rw [ez_35, updL_eqI iz_30 iz_34, qr_33_0, nz_31]) |  skip)), (fun h9 => by first | (exfalso; omega) | rfl), trivial⟩ (by decide) (by decide) dX9_write_89
        · have ic_29 : r_28.toInt = 0 := ieq c_29 (rfl) (by decide)
          have kqr_28_1 : y.toInt < 0 ∨ z_24.toInt < y.toInt := qr_28_1 ic_29
          refine lv_ldc2 (v := (-7)) hx hb hown (htg _ wi_1606) dX9_write_53 ?_
          exact x_lret hx hb hr hlk hP hD hS [0, 1, 2, 3] ((0, a13)) rfl (by decide) ⟨(fun h9 => by first | (exfalso; omega) | (unfold wrB; (repeat (first | rw [if_pos (by omega)] | rw [if_neg (by omega)])); first | done | assumption |  skip)), (fun h9 => by first | (exfalso; omega) | (unfold wrB; (repeat (first | rw [if_pos (by omega)] | rw [if_neg (by omega)])); first | done | assumption |  skip)), (fun h9 => by first | (exfalso; omega) | (unfold wrB; (repeat (first | rw [if_pos (by omega)] | rw [if_neg (by omega)])); first | done | assumption |  skip)), (fun h9 => by first | (exfalso; omega) | (unfold wrB; (repeat (first | rw [if_pos (by omega)] | rw [if_neg (by omega)])); first | done | assumption |  skip)), (fun h9 => by first | (exfalso; omega) | rfl), trivial⟩ (by decide) (by decide) dX9_write_56
      · have ic_22 : z_21.toInt = (-1) := ieq c_22 (rfl) (by decide)
        refine lv_ldc2 (v := (-6)) hx hb hown (htg _ wi_1605) dX9_write_31 ?_
        exact x_lret hx hb hr hlk hP hD hS [0, 1, 2, 3] ((0, a13)) rfl (by decide) ⟨(fun h9 => by first | (exfalso; omega) | (unfold wrB; (repeat (first | rw [if_pos (by omega)] | rw [if_neg (by omega)])); first | done | assumption |  skip)), (fun h9 => by first | (exfalso; omega) | (unfold wrB; (repeat (first | rw [if_pos (by omega)] | rw [if_neg (by omega)])); first | done | assumption |  skip)), (fun h9 => by first | (exfalso; omega) | (unfold wrB; (repeat (first | rw [if_pos (by omega)] | rw [if_neg (by omega)])); first | done | assumption |  skip)), (fun h9 => by first | (exfalso; omega) | (unfold wrB; (repeat (first | rw [if_pos (by omega)] | rw [if_neg (by omega)])); first | done | assumption |  skip)), (fun h9 => by first | (exfalso; omega) | rfl), trivial⟩ (by decide) (by decide) dX9_write_34
    · refine lv_aload_n hx hb dX9_write_21 rfl (lv_at hl 0 rfl) ?_
      refine va_get (D := D) (ci := 9) (v := .ref (g 11)) (C := RX9) (T := TX9) (N := 37) hx hb htg gRX9 hown hK hP 0 rfl rfl 34 (by decide) (htg _ wi_1184) (fun _ h9 => h9) rfl dX9_write_22 ?_
      refine lv_iload_n hx hb dX9_write_25 rfl (lv_at hl 1 rfl) ?_
      refine va_iald hx hb hK hP 1 0 rfl rfl (by unfold vp_in; decide) dX9_write_26 ?_
      refine lv_topi (fun z_36 ez_36 => ?_)
      have nz_36 : z_36.toInt = ((a11) 2).toInt := by rw [ez_36]; rfl
      refine lv_iconst (v := (-1)) hx hb dX9_write_27 (by decide) ?_
      refine lv_icmp_ne (tgt := 35) hx hb dX9_write_28 (by decide) (fun c_37 => ?_) (fun c_37 => ?_)
      · have ic_37 : ¬ z_36.toInt = (-1) := ine c_37 (rfl) (by decide)
        refine lv_iload_n hx hb dX9_write_35 rfl (lv_at hl 2 rfl) ?_
        refine lv_i2l (v := y.toInt64) hx hb dX9_write_36 rfl ?_
        refine lv_lconst (v := 0) hx hb dX9_write_37 (by decide) ?_
        refine lv_aload_n hx hb dX9_write_38 rfl (lv_at hl 0 rfl) ?_
        refine va_get (D := D) (ci := 9) (v := .ref (g 12)) (C := RX9) (T := TX9) (N := 37) hx hb htg gRX9 hown hK hP 0 rfl rfl 35 (by decide) (htg _ wi_1185) (fun _ h9 => h9) rfl dX9_write_39 ?_
        refine lv_iload_n hx hb dX9_write_42 rfl (lv_at hl 1 rfl) ?_
        refine va_iald hx hb hK hP 2 0 rfl rfl (by unfold vp_in; decide) dX9_write_43 ?_
        refine lv_topi (fun z_38 ez_38 => ?_)
        have iz_38 : 0 ≤ z_38.toInt ∧ z_38.toInt ≤ 40 := by rw [ez_38]; exact e12 _ (in_lt (by unfold vp_in; decide))
        have nz_38 : z_38.toInt = ((a12) 2).toInt := by rw [ez_38]; rfl
        refine lv_iconst (v := 1) hx hb dX9_write_44 (by decide) ?_
        refine lv_isub hx hb dX9_write_45 ?_
        refine lv_topi (fun z_39 ez_39 => ?_)
        have iz_39 : z_39.toInt = z_38.toInt - 1 := toInt_subI ez_39 (rfl) (by decide) (by omega)
        refine lv_i2l (v := z_39.toInt64) hx hb dX9_write_46 rfl ?_
        have ilw_40 : (y.toInt64).toInt = y.toInt := i2l_i _
        have ilw_41 : (z_39.toInt64).toInt = z_39.toInt := i2l_i _
        refine xk_i (wr := [(sw_9 h0 g 0 b5 b6 b7 b8 b9 b10 b11 b12 b13 b14 b17 b18 b19 b23 b24 b25 b26 b27 b29 b31 b32 b33), (sw_in cT (g 11) 4 a11), (sw_in cT (g 12) 4 a12), (sw_lo cT (g 13) 160 a13)]) (xr_S (n := 3) (As := [.long y.toInt64, .long 0, .long z_39.toInt64]) (rest := []) ⟨hx, hb, hml, hown, htg⟩ hK hN hP hD hS hA [] rfl (by decide) (m_withinB l D cT _ (y.toInt64) (0) (z_39.toInt64) (y.toInt) (0) (z_39.toInt) (i2l_i _) (by decide) (i2l_i _)) wi_1270 wi_1271 wi_131 wi_1272 ⟨rfl, by decide +kernel⟩ ⟨Nat.le_of_ble_eq_true rfl, Nat.le_of_ble_eq_true rfl⟩ rfl hl.1 rfl (Nat.le_of_ble_eq_true rfl) dX9_write_47 ⟨Nat.le_of_ble_eq_true rfl, Nat.le_of_ble_eq_true rfl⟩) hP hD hS hA [] [0, 1, 2, 3] rfl rfl (by decide) (by decide) (fun r_43 u_42 H locs hwr_43 hP hD hS => ?_)
        obtain ⟨hP, hD⟩ : PD D A [(sw_9 h0 g 0 b5 b6 b7 b8 b9 b10 b11 b12 b13 b14 b17 b18 b19 b23 b24 b25 b26 b27 b29 b31 b32 b33), (sw_in cT (g 11) 4 a11), (sw_in cT (g 12) 4 a12), (sw_lo cT (g 13) 160 a13)] _ := ⟨hP, hD⟩
        have qr_43_0 : Imp (¬ r_43.toInt = 0) (0 ≤ y.toInt ∧ y.toInt ≤ z_39.toInt) := hwr_43.1
        have qr_43_1 : Imp (r_43.toInt = 0) (y.toInt < 0 ∨ z_39.toInt < y.toInt) := hwr_43.2.1
        have qr_43_2 : r_43 = 0 ∨ r_43 = 1 := hwr_43.2.2.1
        refine lv_if_ne (tgt := 57) hx hb dX9_write_50 (by decide) (fun c_44 => ?_) (fun c_44 => ?_)
        · have ic_44 : ¬ r_43.toInt = 0 := ine c_44 (rfl) (by decide)
          have kqr_43_0 : 0 ≤ y.toInt ∧ y.toInt ≤ z_39.toInt := qr_43_0 ic_44
          refine lv_aload_n hx hb dX9_write_57 rfl (lv_at hl 0 rfl) ?_
          refine va_get (D := D) (ci := 9) (v := .ref (g 13)) (C := RX9) (T := TX9) (N := 37) hx hb htg gRX9 hown hK hP 0 rfl rfl 36 (by decide) (htg _ wi_1186) (fun _ h9 => h9) rfl dX9_write_58 ?_
          refine lv_bipush (v := 40) hx hb dX9_write_61 (by decide) ?_
          refine lv_iload_n hx hb dX9_write_63 rfl (lv_at hl 1 rfl) ?_
          refine lv_imul hx hb dX9_write_64 ?_
          refine lv_is (y := 80) (by decide) ?_
          refine lv_iload_n hx hb dX9_write_65 rfl (lv_at hl 2 rfl) ?_
          refine lv_iadd hx hb dX9_write_66 ?_
          refine lv_topi (fun z_45 ez_45 => ?_)
          have iz_45 : z_45.toInt = 80 + y.toInt := toInt_addI ez_45 (by decide) (rfl) (by omega)
          refine lv_lload_n hx hb dX9_write_67 rfl (lv_at hl 3 rfl) ?_
          refine lv_aload_n hx hb dX9_write_68 rfl (lv_at hl 0 rfl) ?_
          refine va_get (D := D) (ci := 9) (v := .ref (g 11)) (C := RX9) (T := TX9) (N := 37) hx hb htg gRX9 hown hK hP 0 rfl rfl 34 (by decide) (htg _ wi_1184) (fun _ h9 => h9) rfl dX9_write_69 ?_
          refine lv_iload_n hx hb dX9_write_72 rfl (lv_at hl 1 rfl) ?_
          refine va_iald hx hb hK hP 1 0 rfl rfl (by unfold vp_in; decide) dX9_write_73 ?_
          refine lv_topi (fun z_46 ez_46 => ?_)
          have nz_46 : z_46.toInt = ((a11) 2).toInt := by rw [ez_46]; rfl
          refine xk_l (wr := [(sw_9 h0 g 0 b5 b6 b7 b8 b9 b10 b11 b12 b13 b14 b17 b18 b19 b23 b24 b25 b26 b27 b29 b31 b32 b33), (sw_in cT (g 11) 4 a11), (sw_in cT (g 12) 4 a12), (sw_lo cT (g 13) 160 a13)]) (xr_S (n := 2) (As := [.long v, .int z_46]) (rest := [.int z_45, .ref (g 13)]) ⟨hx, hb, hml, hown, htg⟩ hK hN hP hD hS hA [] rfl (by decide) (m_cutR l D cT _ (v) (z_46)) wi_1607 wi_1608 wi_131 wi_1609 ⟨rfl, by decide +kernel⟩ ⟨Nat.le_of_ble_eq_true rfl, Nat.le_of_ble_eq_true rfl⟩ rfl hl.1 rfl (Nat.le_of_ble_eq_true rfl) dX9_write_74 ⟨Nat.le_of_ble_eq_true rfl, Nat.le_of_ble_eq_true rfl⟩) hP hD hS hA [] [0, 1, 2, 3] rfl rfl (by decide) (by decide) (fun r_48 u_47 H locs hwr_48 hP hD hS => ?_)
          obtain ⟨hP, hD⟩ : PD D A [(sw_9 h0 g 0 b5 b6 b7 b8 b9 b10 b11 b12 b13 b14 b17 b18 b19 b23 b24 b25 b26 b27 b29 b31 b32 b33), (sw_in cT (g 11) 4 a11), (sw_in cT (g 12) 4 a12), (sw_lo cT (g 13) 160 a13)] _ := ⟨hP, hD⟩
          have qr_48_0 : r_48 = cutL z_46.toInt v := hwr_48.1
          refine va_last hx hb hK hP hD hS 3 1 rfl rfl (vp_in_iff.mpr (by omega)) dX9_write_77 (fun H locs hP hD hS => ?_)
          obtain ⟨hP, hD⟩ : PD D A [(sw_9 h0 g 0 b5 b6 b7 b8 b9 b10 b11 b12 b13 b14 b17 b18 b19 b23 b24 b25 b26 b27 b29 b31 b32 b33), (sw_in cT (g 11) 4 a11), (sw_in cT (g 12) 4 a12), (sw_lo cT (g 13) 160 (vp_updL (a13) (z_45 : Int32).toNatClampNeg (r_48)))] _ := ⟨hP, hD⟩
          refine lv_aload_n hx hb dX9_write_78 rfl (lv_at hl 0 rfl) ?_
          refine va_get (D := D) (ci := 9) (v := .ref (g 13)) (C := RX9) (T := TX9) (N := 37) hx hb htg gRX9 hown hK hP 0 rfl rfl 36 (by decide) (htg _ wi_1186) (fun _ h9 => h9) rfl dX9_write_79 ?_
          refine lv_bipush (v := 40) hx hb dX9_write_82 (by decide) ?_
          refine lv_iload_n hx hb dX9_write_84 rfl (lv_at hl 1 rfl) ?_
          refine lv_imul hx hb dX9_write_85 ?_
          refine lv_is (y := 80) (by decide) ?_
          refine lv_iload_n hx hb dX9_write_86 rfl (lv_at hl 2 rfl) ?_
          refine lv_iadd hx hb dX9_write_87 ?_
          refine lv_topi (fun z_49 ez_49 => ?_)
          have iz_49 : z_49.toInt = 80 + y.toInt := toInt_addI ez_49 (by decide) (rfl) (by omega)
          refine va_lald hx hb hK hP 3 1 rfl rfl (vp_in_iff.mpr (by omega)) dX9_write_88 ?_
          refine lv_topl (fun z_50 ez_50 => ?_)
          exact x_lret hx hb hr hlk hP hD hS [0, 1, 2, 3] ((0, vp_updL (a13) (z_45 : Int32).toNatClampNeg (r_48))) rfl (by decide) ⟨(fun h9 => by first | (exfalso; omega) | (unfold wrB; (repeat (first | rw [if_pos (by omega)] | rw [if_neg (by omega)])); first | done | assumption | (rw [ez_50, updL_eqI iz_45 iz_49, qr_48_0, nz_46]) |  skip)), (fun h9 => by first | (exfalso; omega) | (unfold wrB; (repeat (first | rw [if_pos (by omega)] | rw [if_neg (by omega)])); first | done | assumption | (rw [ez_50, updL_eqI iz_45 iz_49, qr_48_0, nz_46]) |  skip)), (fun h9 => by first | (exfalso; omega) | (unfold wrB; (repeat (first | rw [if_pos (by omega)] | rw [if_neg (by omega)])); first | done | assumption | (rw [ez_50, updL_eqI iz_45 iz_49, qr_48_0, nz_46]) |  skip)), (fun h9 => by first | (exfalso; omega) | (unfold wrB; (repeat (first | rw [if_pos (by omega)] | rw [if_neg (by omega)])); first | done | assumption | (rw [ez_50, updL_eqI iz_45 iz_49, qr_48_0, nz_46]) |  skip)), (fun h9 => by first | (exfalso; omega) | rfl), trivial⟩ (by decide) (by decide) dX9_write_89
        · have ic_44 : r_43.toInt = 0 := ieq c_44 (rfl) (by decide)
          have kqr_43_1 : y.toInt < 0 ∨ z_39.toInt < y.toInt := qr_43_1 ic_44
          refine lv_ldc2 (v := (-7)) hx hb hown (htg _ wi_1606) dX9_write_53 ?_
          exact x_lret hx hb hr hlk hP hD hS [0, 1, 2, 3] ((0, a13)) rfl (by decide) ⟨(fun h9 => by first | (exfalso; omega) | (unfold wrB; (repeat (first | rw [if_pos (by omega)] | rw [if_neg (by omega)])); first | done | assumption |  skip)), (fun h9 => by first | (exfalso; omega) | (unfold wrB; (repeat (first | rw [if_pos (by omega)] | rw [if_neg (by omega)])); first | done | assumption |  skip)), (fun h9 => by first | (exfalso; omega) | (unfold wrB; (repeat (first | rw [if_pos (by omega)] | rw [if_neg (by omega)])); first | done | assumption |  skip)), (fun h9 => by first | (exfalso; omega) | (unfold wrB; (repeat (first | rw [if_pos (by omega)] | rw [if_neg (by omega)])); first | done | assumption |  skip)), (fun h9 => by first | (exfalso; omega) | rfl), trivial⟩ (by decide) (by decide) dX9_write_56
      · have ic_37 : z_36.toInt = (-1) := ieq c_37 (rfl) (by decide)
        refine lv_ldc2 (v := (-6)) hx hb hown (htg _ wi_1605) dX9_write_31 ?_
        exact x_lret hx hb hr hlk hP hD hS [0, 1, 2, 3] ((0, a13)) rfl (by decide) ⟨(fun h9 => by first | (exfalso; omega) | (unfold wrB; (repeat (first | rw [if_pos (by omega)] | rw [if_neg (by omega)])); first | done | assumption |  skip)), (fun h9 => by first | (exfalso; omega) | (unfold wrB; (repeat (first | rw [if_pos (by omega)] | rw [if_neg (by omega)])); first | done | assumption |  skip)), (fun h9 => by first | (exfalso; omega) | (unfold wrB; (repeat (first | rw [if_pos (by omega)] | rw [if_neg (by omega)])); first | done | assumption |  skip)), (fun h9 => by first | (exfalso; omega) | (unfold wrB; (repeat (first | rw [if_pos (by omega)] | rw [if_neg (by omega)])); first | done | assumption |  skip)), (fun h9 => by first | (exfalso; omega) | rfl), trivial⟩ (by decide) (by decide) dX9_write_34
    · refine lv_aload_n hx hb dX9_write_21 rfl (lv_at hl 0 rfl) ?_
      refine va_get (D := D) (ci := 9) (v := .ref (g 11)) (C := RX9) (T := TX9) (N := 37) hx hb htg gRX9 hown hK hP 0 rfl rfl 34 (by decide) (htg _ wi_1184) (fun _ h9 => h9) rfl dX9_write_22 ?_
      refine lv_iload_n hx hb dX9_write_25 rfl (lv_at hl 1 rfl) ?_
      refine va_iald hx hb hK hP 1 0 rfl rfl (by unfold vp_in; decide) dX9_write_26 ?_
      refine lv_topi (fun z_51 ez_51 => ?_)
      have nz_51 : z_51.toInt = ((a11) 3).toInt := by rw [ez_51]; rfl
      refine lv_iconst (v := (-1)) hx hb dX9_write_27 (by decide) ?_
      refine lv_icmp_ne (tgt := 35) hx hb dX9_write_28 (by decide) (fun c_52 => ?_) (fun c_52 => ?_)
      · have ic_52 : ¬ z_51.toInt = (-1) := ine c_52 (rfl) (by decide)
        refine lv_iload_n hx hb dX9_write_35 rfl (lv_at hl 2 rfl) ?_
        refine lv_i2l (v := y.toInt64) hx hb dX9_write_36 rfl ?_
        refine lv_lconst (v := 0) hx hb dX9_write_37 (by decide) ?_
        refine lv_aload_n hx hb dX9_write_38 rfl (lv_at hl 0 rfl) ?_
        refine va_get (D := D) (ci := 9) (v := .ref (g 12)) (C := RX9) (T := TX9) (N := 37) hx hb htg gRX9 hown hK hP 0 rfl rfl 35 (by decide) (htg _ wi_1185) (fun _ h9 => h9) rfl dX9_write_39 ?_
        refine lv_iload_n hx hb dX9_write_42 rfl (lv_at hl 1 rfl) ?_
        refine va_iald hx hb hK hP 2 0 rfl rfl (by unfold vp_in; decide) dX9_write_43 ?_
        refine lv_topi (fun z_53 ez_53 => ?_)
        have iz_53 : 0 ≤ z_53.toInt ∧ z_53.toInt ≤ 40 := by rw [ez_53]; exact e12 _ (in_lt (by unfold vp_in; decide))
        have nz_53 : z_53.toInt = ((a12) 3).toInt := by rw [ez_53]; rfl
        refine lv_iconst (v := 1) hx hb dX9_write_44 (by decide) ?_
        refine lv_isub hx hb dX9_write_45 ?_
        refine lv_topi (fun z_54 ez_54 => ?_)
        have iz_54 : z_54.toInt = z_53.toInt - 1 := toInt_subI ez_54 (rfl) (by decide) (by omega)
        refine lv_i2l (v := z_54.toInt64) hx hb dX9_write_46 rfl ?_
        have ilw_55 : (y.toInt64).toInt = y.toInt := i2l_i _
        have ilw_56 : (z_54.toInt64).toInt = z_54.toInt := i2l_i _
        refine xk_i (wr := [(sw_9 h0 g 0 b5 b6 b7 b8 b9 b10 b11 b12 b13 b14 b17 b18 b19 b23 b24 b25 b26 b27 b29 b31 b32 b33), (sw_in cT (g 11) 4 a11), (sw_in cT (g 12) 4 a12), (sw_lo cT (g 13) 160 a13)]) (xr_S (n := 3) (As := [.long y.toInt64, .long 0, .long z_54.toInt64]) (rest := []) ⟨hx, hb, hml, hown, htg⟩ hK hN hP hD hS hA [] rfl (by decide) (m_withinB l D cT _ (y.toInt64) (0) (z_54.toInt64) (y.toInt) (0) (z_54.toInt) (i2l_i _) (by decide) (i2l_i _)) wi_1270 wi_1271 wi_131 wi_1272 ⟨rfl, by decide +kernel⟩ ⟨Nat.le_of_ble_eq_true rfl, Nat.le_of_ble_eq_true rfl⟩ rfl hl.1 rfl (Nat.le_of_ble_eq_true rfl) dX9_write_47 ⟨Nat.le_of_ble_eq_true rfl, Nat.le_of_ble_eq_true rfl⟩) hP hD hS hA [] [0, 1, 2, 3] rfl rfl (by decide) (by decide) (fun r_58 u_57 H locs hwr_58 hP hD hS => ?_)
        obtain ⟨hP, hD⟩ : PD D A [(sw_9 h0 g 0 b5 b6 b7 b8 b9 b10 b11 b12 b13 b14 b17 b18 b19 b23 b24 b25 b26 b27 b29 b31 b32 b33), (sw_in cT (g 11) 4 a11), (sw_in cT (g 12) 4 a12), (sw_lo cT (g 13) 160 a13)] _ := ⟨hP, hD⟩
        have qr_58_0 : Imp (¬ r_58.toInt = 0) (0 ≤ y.toInt ∧ y.toInt ≤ z_54.toInt) := hwr_58.1
        have qr_58_1 : Imp (r_58.toInt = 0) (y.toInt < 0 ∨ z_54.toInt < y.toInt) := hwr_58.2.1
        have qr_58_2 : r_58 = 0 ∨ r_58 = 1 := hwr_58.2.2.1
        refine lv_if_ne (tgt := 57) hx hb dX9_write_50 (by decide) (fun c_59 => ?_) (fun c_59 => ?_)
        · have ic_59 : ¬ r_58.toInt = 0 := ine c_59 (rfl) (by decide)
          have kqr_58_0 : 0 ≤ y.toInt ∧ y.toInt ≤ z_54.toInt := qr_58_0 ic_59
          refine lv_aload_n hx hb dX9_write_57 rfl (lv_at hl 0 rfl) ?_
          refine va_get (D := D) (ci := 9) (v := .ref (g 13)) (C := RX9) (T := TX9) (N := 37) hx hb htg gRX9 hown hK hP 0 rfl rfl 36 (by decide) (htg _ wi_1186) (fun _ h9 => h9) rfl dX9_write_58 ?_
          refine lv_bipush (v := 40) hx hb dX9_write_61 (by decide) ?_
          refine lv_iload_n hx hb dX9_write_63 rfl (lv_at hl 1 rfl) ?_
          refine lv_imul hx hb dX9_write_64 ?_
          refine lv_is (y := 120) (by decide) ?_
          refine lv_iload_n hx hb dX9_write_65 rfl (lv_at hl 2 rfl) ?_
          refine lv_iadd hx hb dX9_write_66 ?_
          refine lv_topi (fun z_60 ez_60 => ?_)
          have iz_60 : z_60.toInt = 120 + y.toInt := toInt_addI ez_60 (by decide) (rfl) (by omega)
          refine lv_lload_n hx hb dX9_write_67 rfl (lv_at hl 3 rfl) ?_
          refine lv_aload_n hx hb dX9_write_68 rfl (lv_at hl 0 rfl) ?_
          refine va_get (D := D) (ci := 9) (v := .ref (g 11)) (C := RX9) (T := TX9) (N := 37) hx hb htg gRX9 hown hK hP 0 rfl rfl 34 (by decide) (htg _ wi_1184) (fun _ h9 => h9) rfl dX9_write_69 ?_
          refine lv_iload_n hx hb dX9_write_72 rfl (lv_at hl 1 rfl) ?_
          refine va_iald hx hb hK hP 1 0 rfl rfl (by unfold vp_in; decide) dX9_write_73 ?_
          refine lv_topi (fun z_61 ez_61 => ?_)
          have nz_61 : z_61.toInt = ((a11) 3).toInt := by rw [ez_61]; rfl
          refine xk_l (wr := [(sw_9 h0 g 0 b5 b6 b7 b8 b9 b10 b11 b12 b13 b14 b17 b18 b19 b23 b24 b25 b26 b27 b29 b31 b32 b33), (sw_in cT (g 11) 4 a11), (sw_in cT (g 12) 4 a12), (sw_lo cT (g 13) 160 a13)]) (xr_S (n := 2) (As := [.long v, .int z_61]) (rest := [.int z_60, .ref (g 13)]) ⟨hx, hb, hml, hown, htg⟩ hK hN hP hD hS hA [] rfl (by decide) (m_cutR l D cT _ (v) (z_61)) wi_1607 wi_1608 wi_131 wi_1609 ⟨rfl, by decide +kernel⟩ ⟨Nat.le_of_ble_eq_true rfl, Nat.le_of_ble_eq_true rfl⟩ rfl hl.1 rfl (Nat.le_of_ble_eq_true rfl) dX9_write_74 ⟨Nat.le_of_ble_eq_true rfl, Nat.le_of_ble_eq_true rfl⟩) hP hD hS hA [] [0, 1, 2, 3] rfl rfl (by decide) (by decide) (fun r_63 u_62 H locs hwr_63 hP hD hS => ?_)
          obtain ⟨hP, hD⟩ : PD D A [(sw_9 h0 g 0 b5 b6 b7 b8 b9 b10 b11 b12 b13 b14 b17 b18 b19 b23 b24 b25 b26 b27 b29 b31 b32 b33), (sw_in cT (g 11) 4 a11), (sw_in cT (g 12) 4 a12), (sw_lo cT (g 13) 160 a13)] _ := ⟨hP, hD⟩
          have qr_63_0 : r_63 = cutL z_61.toInt v := hwr_63.1
          refine va_last hx hb hK hP hD hS 3 1 rfl rfl (vp_in_iff.mpr (by omega)) dX9_write_77 (fun H locs hP hD hS => ?_)
          obtain ⟨hP, hD⟩ : PD D A [(sw_9 h0 g 0 b5 b6 b7 b8 b9 b10 b11 b12 b13 b14 b17 b18 b19 b23 b24 b25 b26 b27 b29 b31 b32 b33), (sw_in cT (g 11) 4 a11), (sw_in cT (g 12) 4 a12), (sw_lo cT (g 13) 160 (vp_updL (a13) (z_60 : Int32).toNatClampNeg (r_63)))] _ := ⟨hP, hD⟩
          refine lv_aload_n hx hb dX9_write_78 rfl (lv_at hl 0 rfl) ?_
          refine va_get (D := D) (ci := 9) (v := .ref (g 13)) (C := RX9) (T := TX9) (N := 37) hx hb htg gRX9 hown hK hP 0 rfl rfl 36 (by decide) (htg _ wi_1186) (fun _ h9 => h9) rfl dX9_write_79 ?_
          refine lv_bipush (v := 40) hx hb dX9_write_82 (by decide) ?_
          refine lv_iload_n hx hb dX9_write_84 rfl (lv_at hl 1 rfl) ?_
          refine lv_imul hx hb dX9_write_85 ?_
          refine lv_is (y := 120) (by decide) ?_
          refine lv_iload_n hx hb dX9_write_86 rfl (lv_at hl 2 rfl) ?_
          refine lv_iadd hx hb dX9_write_87 ?_
          refine lv_topi (fun z_64 ez_64 => ?_)
          have iz_64 : z_64.toInt = 120 + y.toInt := toInt_addI ez_64 (by decide) (rfl) (by omega)
          refine va_lald hx hb hK hP 3 1 rfl rfl (vp_in_iff.mpr (by omega)) dX9_write_88 ?_
          refine lv_topl (fun z_65 ez_65 => ?_)
          exact x_lret hx hb hr hlk hP hD hS [0, 1, 2, 3] ((0, vp_updL (a13) (z_60 : Int32).toNatClampNeg (r_63))) rfl (by decide) ⟨(fun h9 => by first | (exfalso; omega) | (unfold wrB; (repeat (first | rw [if_pos (by omega)] | rw [if_neg (by omega)])); first | done | assumption | (rw [ez_65, updL_eqI iz_60 iz_64, qr_63_0, nz_61]) |  skip)), (fun h9 => by first | (exfalso; omega) | (unfold wrB; (repeat (first | rw [if_pos (by omega)] | rw [if_neg (by omega)])); first | done | assumption | (rw [ez_65, updL_eqI iz_60 iz_64, qr_63_0, nz_61]) |  skip)), (fun h9 => by first | (exfalso; omega) | (unfold wrB; (repeat (first | rw [if_pos (by omega)] | rw [if_neg (by omega)])); first | done | assumption | (rw [ez_65, updL_eqI iz_60 iz_64, qr_63_0, nz_61]) |  skip)), (fun h9 => by first | (exfalso; omega) | (unfold wrB; (repeat (first | rw [if_pos (by omega)] | rw [if_neg (by omega)])); first | done | assumption | (rw [ez_65, updL_eqI iz_60 iz_64, qr_63_0, nz_61]) |  skip)), (fun h9 => by first | (exfalso; omega) | rfl), trivial⟩ (by decide) (by decide) dX9_write_89
        · have ic_59 : r_58.toInt = 0 := ieq c_59 (rfl) (by decide)
          have kqr_58_1 : y.toInt < 0 ∨ z_54.toInt < y.toInt := qr_58_1 ic_59
          refine lv_ldc2 (v := (-7)) hx hb hown (htg _ wi_1606) dX9_write_53 ?_
          exact x_lret hx hb hr hlk hP hD hS [0, 1, 2, 3] ((0, a13)) rfl (by decide) ⟨(fun h9 => by first | (exfalso; omega) | (unfold wrB; (repeat (first | rw [if_pos (by omega)] | rw [if_neg (by omega)])); first | done | assumption |  skip)), (fun h9 => by first | (exfalso; omega) | (unfold wrB; (repeat (first | rw [if_pos (by omega)] | rw [if_neg (by omega)])); first | done | assumption |  skip)), (fun h9 => by first | (exfalso; omega) | (unfold wrB; (repeat (first | rw [if_pos (by omega)] | rw [if_neg (by omega)])); first | done | assumption |  skip)), (fun h9 => by first | (exfalso; omega) | (unfold wrB; (repeat (first | rw [if_pos (by omega)] | rw [if_neg (by omega)])); first | done | assumption |  skip)), (fun h9 => by first | (exfalso; omega) | rfl), trivial⟩ (by decide) (by decide) dX9_write_56
      · have ic_52 : z_51.toInt = (-1) := ieq c_52 (rfl) (by decide)
        refine lv_ldc2 (v := (-6)) hx hb hown (htg _ wi_1605) dX9_write_31 ?_
        exact x_lret hx hb hr hlk hP hD hS [0, 1, 2, 3] ((0, a13)) rfl (by decide) ⟨(fun h9 => by first | (exfalso; omega) | (unfold wrB; (repeat (first | rw [if_pos (by omega)] | rw [if_neg (by omega)])); first | done | assumption |  skip)), (fun h9 => by first | (exfalso; omega) | (unfold wrB; (repeat (first | rw [if_pos (by omega)] | rw [if_neg (by omega)])); first | done | assumption |  skip)), (fun h9 => by first | (exfalso; omega) | (unfold wrB; (repeat (first | rw [if_pos (by omega)] | rw [if_neg (by omega)])); first | done | assumption |  skip)), (fun h9 => by first | (exfalso; omega) | (unfold wrB; (repeat (first | rw [if_pos (by omega)] | rw [if_neg (by omega)])); first | done | assumption |  skip)), (fun h9 => by first | (exfalso; omega) | rfl), trivial⟩ (by decide) (by decide) dX9_write_34
  · have ic_4 : r_3.toInt = 0 := ieq c_4 (rfl) (by decide)
    have kqr_3_1 : x.toInt < 0 ∨ 3 < x.toInt := qr_3_1 ic_4
    refine lv_ldc2 (v := (-2)) hx hb hown (htg _ wi_1604) dX9_write_17 ?_
    exact x_lret hx hb hr hlk hP hD hS [0, 1, 2, 3] ((0, a13)) rfl (by decide) ⟨(fun h9 => by first | (exfalso; omega) | (unfold wrB; (repeat (first | rw [if_pos (by omega)] | rw [if_neg (by omega)])); first | done | assumption |  skip)), (fun h9 => by first | (exfalso; omega) | (unfold wrB; (repeat (first | rw [if_pos (by omega)] | rw [if_neg (by omega)])); first | done | assumption |  skip)), (fun h9 => by first | (exfalso; omega) | (unfold wrB; (repeat (first | rw [if_pos (by omega)] | rw [if_neg (by omega)])); first | done | assumption |  skip)), (fun h9 => by first | (exfalso; omega) | (unfold wrB; (repeat (first | rw [if_pos (by omega)] | rw [if_neg (by omega)])); first | done | assumption |  skip)), (fun h9 => by first | (exfalso; omega) | rfl), trivial⟩ (by decide) (by decide) dX9_write_20
