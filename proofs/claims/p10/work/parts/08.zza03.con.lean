set_option maxHeartbeats 4000000 in
set_option maxRecDepth 100000 in
theorem g_k_walkX (l : Launch) (D : va_G) (cT : Nat → ClassId) (sz : Nat) (h0 : Nat) (q : Nat → Nat) (n1 : Int32) (hn1 : 0 ≤ n1.toInt ∧ n1.toInt ≤ 900) (p0 : Int32) (p1 : Int32) (p2 : Int32) (p3 : Int32) (p4 : Int32) (p5 : Int32) (p6 : Int32) (p7 : Int32) (p8 : Int32) (p9 : Int32) (hs : 0 ≤ p0.toInt ∧ p0.toInt ≤ 16) (hat : 0 ≤ p3.toInt ∧ p3.toInt ≤ 15) (x : Int32) (y : Int32) (z : Int32) (f1 : Nat → Int32) : Met l yX8_walk (wsc yX8_walk cX8_walk 4 (some .int)) { frames := 3, cells := 0, slots := 0, locals := 121 } (va_Pc [.ref h0, .int x, .int y, .int z] (PX D cT sz [(sw_8 h0 q n1), (sw_3 (q 2) p0 p1 p2 p3 p4 p5 p6 p7 p8 p9 (q 12) (q 13) (q 14) (q 15) (q 16) (q 17)), (sw_in cT (q 13) 16 f1)])) (va_Qi (fun (r : Int32) (u : (Nat → Int32)) => (r.toInt = wkA p0.toInt x.toInt y.toInt z.toInt (f1 x.toInt.toNat).toInt (f1 y.toInt.toNat + z).toInt) ∧ (r.toInt = 0 → ∀ j : Nat, u j = walkF f1 x.toInt.toNat y.toInt.toNat z j) ∧ (¬ r.toInt = 0 → ∀ j : Nat, u j = f1 j) ∧ (True)) (fun u t => RW D (va_A [(sw_8 h0 q n1), (sw_3 (q 2) p0 p1 p2 p3 p4 p5 p6 p7 p8 p9 (q 12) (q 13) (q 14) (q 15) (q 16) (q 17)), (sw_in cT (q 13) 16 f1)] sz) ((fun u : (Nat → Int32) => [(sw_8 h0 q n1), (sw_3 (q 2) p0 p1 p2 p3 p4 p5 p6 p7 p8 p9 (q 12) (q 13) (q 14) (q 15) (q 16) (q 17)), (sw_in cT (q 13) 16 u)]) u) t) (va_A [(sw_8 h0 q n1), (sw_3 (q 2) p0 p1 p2 p3 p4 p5 p6 p7 p8 p9 (q 12) (q 13) (q 14) (q 15) (q 16) (q 17)), (sw_in cT (q 13) 16 f1)] sz)) 0 0 (va_A [(sw_8 h0 q n1), (sw_3 (q 2) p0 p1 p2 p3 p4 p5 p6 p7 p8 p9 (q 12) (q 13) (q 14) (q 15) (q 16) (q 17)), (sw_in cT (q 13) 16 f1)] sz) := by
  refine m_of (y := yX8_walk) (cc := cX8_walk) (nL := 4) (ret := (some .int)) (D := D) (cT := cT) (av := [.ref h0, .int x, .int y, .int z]) (wi := [(sw_8 h0 q n1), (sw_3 (q 2) p0 p1 p2 p3 p4 p5 p6 p7 p8 p9 (q 12) (q 13) (q 14) (q 15) (q 16) (q 17)), (sw_in cT (q 13) 16 f1)]) (fun A => va_Qi (fun (r : Int32) (u : (Nat → Int32)) => (r.toInt = wkA p0.toInt x.toInt y.toInt z.toInt (f1 x.toInt.toNat).toInt (f1 y.toInt.toNat + z).toInt) ∧ (r.toInt = 0 → ∀ j : Nat, u j = walkF f1 x.toInt.toNat y.toInt.toNat z j) ∧ (¬ r.toInt = 0 → ∀ j : Nat, u j = f1 j) ∧ (True)) (fun u t => RW D A ((fun u : (Nat → Int32) => [(sw_8 h0 q n1), (sw_3 (q 2) p0 p1 p2 p3 p4 p5 p6 p7 p8 p9 (q 12) (q 13) (q 14) (q 15) (q 16) (q 17)), (sw_in cT (q 13) 16 u)]) u) t) A) (by decide) (Nat.le_of_ble_eq_true rfl) ?_
  intro p e s m below meth c A hx hb hml hown htg hK hN hr hlk hnm hsz hP hD hS hA ls hl
  have hown : s.vm.findClass RX8 = some m.cls := hown
  have hl : lv_has ls 4 [(0, .ref h0), (1, .int x), (2, .int y), (3, .int z)] := hl
  have t9_m2 : ((-2) : Int32).toInt = (-2) := by decide
  have t9_m3 : ((-3) : Int32).toInt = (-3) := by decide
  have t9_m4 : ((-4) : Int32).toInt = (-4) := by decide
  have t9_0 : (0 : Int32).toInt = 0 := by decide
  have t9_9 : (9 : Int32).toInt = 9 := by decide
  refine lv_aload_n hx hb dX8_walk_0 rfl (lv_at hl 0 rfl) ?_
  refine va_get (D := D) (ci := 8) (v := .ref (q 2)) (C := RX8) (T := TX8) (N := 13) hx hb htg gRX8 hown hK hP 0 rfl rfl 3 (by decide) (htg _ wi_470) (fun _ h9 => h9) rfl dX8_walk_1 ?_
  refine lv_iload_n hx hb dX8_walk_4 rfl (lv_at hl 1 rfl) ?_
  refine xk_i (wr := [(sw_8 h0 q n1), (sw_in cT (q 13) 16 f1)]) (xr_VN (n := 1) (As := [.int x]) (rest := []) ⟨hx, hb, hml, hown, htg⟩ hK hN hP hD hS hA [1] rfl (by decide) (g_hasStrip l D cT _ ((q 2)) (fun k => [(q 12), (q 13), (q 14), (q 15), (q 16), (q 17)].getD k 0) (p0) (p1) (p2) (p3) (p4) (p5) (p6) (p7) (p8) (p9) (x)) ni_666 wi_668 wi_18 wi_123 wi_669 rfl rfl rfl ⟨rfl, by decide +kernel⟩ ⟨Nat.le_of_ble_eq_true rfl, Nat.le_of_ble_eq_true rfl⟩ rfl hl.1 rfl (Nat.le_of_ble_eq_true rfl) dX8_walk_5 ⟨Nat.le_of_ble_eq_true rfl, Nat.le_of_ble_eq_true rfl⟩) hP hD hS hA [1] [0, 2] rfl rfl (by decide) (by decide) (fun r_2 u_1 H locs hwr_2 hP hD hS => ?_)
  obtain ⟨hP, hD⟩ : PD D A [(sw_8 h0 q n1), (sw_in cT (q 13) 16 f1), (sw_3 (q 2) p0 p1 p2 p3 p4 p5 p6 p7 p8 p9 (q 12) (q 13) (q 14) (q 15) (q 16) (q 17))] _ := ⟨hP, hD⟩
  have hwr_2 : r_2 = if 0 ≤ x.toInt ∧ x.toInt < p0.toInt then 1 else 0 := hwr_2
  refine lv_if_eq (tgt := 22) hx hb dX8_walk_8 (by decide) (fun c_3 => ?_) (fun c_3 => ?_)
  · have ic_3 := if0 hwr_2 c_3
    refine lv_bipush (v := (-2)) hx hb dX8_walk_22 (by decide) ?_
    exact x_iret hx hb hr hlk hP hD hS [0, 2, 1] ((f1)) rfl (by decide) ⟨(by (try dsimp only); unfold wkA; (repeat (first | rw [if_pos (by omega)] | rw [if_neg (by omega)])); first | done | decide | omega), (fun h9 => absurd h9 (by decide)), (fun _ _ => rfl), trivial⟩ (by decide) (by decide) dX8_walk_24
  · have ic_3 := if1 hwr_2 c_3
    refine lv_aload_n hx hb dX8_walk_11 rfl (lv_at hl 0 rfl) ?_
    refine va_get (D := D) (ci := 8) (v := .ref (q 2)) (C := RX8) (T := TX8) (N := 13) hx hb htg gRX8 hown hK hP 0 rfl rfl 3 (by decide) (htg _ wi_470) (fun _ h9 => h9) rfl dX8_walk_12 ?_
    refine lv_iload_n hx hb dX8_walk_15 rfl (lv_at hl 2 rfl) ?_
    refine xk_i (wr := [(sw_8 h0 q n1), (sw_in cT (q 13) 16 f1)]) (xr_VN (n := 1) (As := [.int y]) (rest := []) ⟨hx, hb, hml, hown, htg⟩ hK hN hP hD hS hA [2] rfl (by decide) (g_hasStrip l D cT _ ((q 2)) (fun k => [(q 12), (q 13), (q 14), (q 15), (q 16), (q 17)].getD k 0) (p0) (p1) (p2) (p3) (p4) (p5) (p6) (p7) (p8) (p9) (y)) ni_666 wi_668 wi_18 wi_123 wi_669 rfl rfl rfl ⟨rfl, by decide +kernel⟩ ⟨Nat.le_of_ble_eq_true rfl, Nat.le_of_ble_eq_true rfl⟩ rfl hl.1 rfl (Nat.le_of_ble_eq_true rfl) dX8_walk_16 ⟨Nat.le_of_ble_eq_true rfl, Nat.le_of_ble_eq_true rfl⟩) hP hD hS hA [2] [0, 1] rfl rfl (by decide) (by decide) (fun r_5 u_4 H locs hwr_5 hP hD hS => ?_)
    obtain ⟨hP, hD⟩ : PD D A [(sw_8 h0 q n1), (sw_in cT (q 13) 16 f1), (sw_3 (q 2) p0 p1 p2 p3 p4 p5 p6 p7 p8 p9 (q 12) (q 13) (q 14) (q 15) (q 16) (q 17))] _ := ⟨hP, hD⟩
    have hwr_5 : r_5 = if 0 ≤ y.toInt ∧ y.toInt < p0.toInt then 1 else 0 := hwr_5
    refine lv_if_ne (tgt := 25) hx hb dX8_walk_19 (by decide) (fun c_6 => ?_) (fun c_6 => ?_)
    · have ic_6 := if1 hwr_5 c_6
      refine lv_iload_n hx hb dX8_walk_25 rfl (lv_at hl 3 rfl) ?_
      refine lv_if_lt (tgt := 42) hx hb dX8_walk_26 (by decide) (fun c_7 => ?_) (fun c_7 => ?_)
      · have ic_7 : z.toInt < 0 := ilt c_7 (rfl) (by decide)
        refine lv_bipush (v := (-3)) hx hb dX8_walk_42 (by decide) ?_
        exact x_iret hx hb hr hlk hP hD hS [0, 2, 1] ((f1)) rfl (by decide) ⟨(by (try dsimp only); unfold wkA; (repeat (first | rw [if_pos (by omega)] | rw [if_neg (by omega)])); first | done | decide | omega), (fun h9 => absurd h9 (by decide)), (fun _ _ => rfl), trivial⟩ (by decide) (by decide) dX8_walk_44
      · have ic_7 : 0 ≤ z.toInt := inlt c_7 (rfl) (by decide)
        refine lv_iload_n hx hb dX8_walk_29 rfl (lv_at hl 3 rfl) ?_
        refine lv_aload_n hx hb dX8_walk_30 rfl (lv_at hl 0 rfl) ?_
        refine va_get (D := D) (ci := 8) (v := .ref (q 2)) (C := RX8) (T := TX8) (N := 13) hx hb htg gRX8 hown hK hP 0 rfl rfl 3 (by decide) (htg _ wi_470) (fun _ h9 => h9) rfl dX8_walk_31 ?_
        refine va_getN (D := D) (ci := 3) (v := .ref (q 13)) (C := RX3) (T := TX3) (N := 16) hx hb htg gRX3 hown hK hP 2 rfl rfl 11 (by decide) (va_Nw.use rfl (hN.1 _ ni_205)) (fun _ h9 => h9) rfl dX8_walk_34 ?_
        refine lv_iload_n hx hb dX8_walk_37 rfl (lv_at hl 1 rfl) ?_
        refine va_iald hx hb hK hP 1 0 rfl rfl (vp_in_iff.mpr (by omega)) dX8_walk_38 ?_
        refine lv_topi (fun z_8 ez_8 => ?_)
        have nz_8 : z_8.toInt = (f1 x.toInt.toNat).toInt := by rw [ez_8]; rfl
        refine lv_icmp_le (tgt := 45) hx hb dX8_walk_39 (by decide) (fun c_9 => ?_) (fun c_9 => ?_)
        · have ic_9 : z.toInt ≤ z_8.toInt := ile c_9 (rfl) (rfl)
          refine lv_iload_n hx hb dX8_walk_45 rfl (lv_at hl 1 rfl) ?_
          refine lv_iload_n hx hb dX8_walk_46 rfl (lv_at hl 2 rfl) ?_
          refine lv_icmp_eq (tgt := 69) hx hb dX8_walk_47 (by decide) (fun c_10 => ?_) (fun c_10 => ?_)
          · have ic_10 : x.toInt = y.toInt := ieq c_10 (rfl) (rfl)
            refine lv_aload_n hx hb dX8_walk_69 rfl (lv_at hl 0 rfl) ?_
            refine va_get (D := D) (ci := 8) (v := .ref (q 2)) (C := RX8) (T := TX8) (N := 13) hx hb htg gRX8 hown hK hP 0 rfl rfl 3 (by decide) (htg _ wi_470) (fun _ h9 => h9) rfl dX8_walk_70 ?_
            refine va_getN (D := D) (ci := 3) (v := .ref (q 13)) (C := RX3) (T := TX3) (N := 16) hx hb htg gRX3 hown hK hP 2 rfl rfl 11 (by decide) (va_Nw.use rfl (hN.1 _ ni_205)) (fun _ h9 => h9) rfl dX8_walk_73 ?_
            refine lv_iload_n hx hb dX8_walk_76 rfl (lv_at hl 1 rfl) ?_
            refine lv_dup2_11 hx hb dX8_walk_77 rfl rfl ?_
            refine va_iald hx hb hK hP 1 0 rfl rfl (vp_in_iff.mpr (by omega)) dX8_walk_78 ?_
            refine lv_topi (fun z_11 ez_11 => ?_)
            refine lv_iload_n hx hb dX8_walk_79 rfl (lv_at hl 3 rfl) ?_
            refine lv_isub hx hb dX8_walk_80 ?_
            refine lv_topi (fun z_12 ez_12 => ?_)
            refine va_iast hx hb hK hP hD hS 1 0 rfl rfl (vp_in_iff.mpr (by omega)) dX8_walk_81 (fun H locs hP hD hS => ?_)
            obtain ⟨f_13, ef_13, hP, hD⟩ : ∃ f_13 : Nat → Int32, f_13 = upd (f1) (x : Int32).toNatClampNeg z_12 ∧ PD D A [(sw_8 h0 q n1), (sw_in cT (q 13) 16 f_13), (sw_3 (q 2) p0 p1 p2 p3 p4 p5 p6 p7 p8 p9 (q 12) (q 13) (q 14) (q 15) (q 16) (q 17))] H := ⟨_, rfl, hP, hD⟩
            refine lv_aload_n hx hb dX8_walk_82 rfl (lv_at hl 0 rfl) ?_
            refine va_get (D := D) (ci := 8) (v := .ref (q 2)) (C := RX8) (T := TX8) (N := 13) hx hb htg gRX8 hown hK hP 0 rfl rfl 3 (by decide) (htg _ wi_470) (fun _ h9 => h9) rfl dX8_walk_83 ?_
            refine va_getN (D := D) (ci := 3) (v := .ref (q 13)) (C := RX3) (T := TX3) (N := 16) hx hb htg gRX3 hown hK hP 2 rfl rfl 11 (by decide) (va_Nw.use rfl (hN.1 _ ni_205)) (fun _ h9 => h9) rfl dX8_walk_86 ?_
            refine lv_iload_n hx hb dX8_walk_89 rfl (lv_at hl 2 rfl) ?_
            refine lv_dup2_11 hx hb dX8_walk_90 rfl rfl ?_
            refine va_iald hx hb hK hP 1 0 rfl rfl (vp_in_iff.mpr (by omega)) dX8_walk_91 ?_
            refine lv_topi (fun z_14 ez_14 => ?_)
            refine lv_iload_n hx hb dX8_walk_92 rfl (lv_at hl 3 rfl) ?_
            refine lv_iadd hx hb dX8_walk_93 ?_
            refine lv_topi (fun z_15 ez_15 => ?_)
            refine va_iast hx hb hK hP hD hS 1 0 rfl rfl (vp_in_iff.mpr (by omega)) dX8_walk_94 (fun H locs hP hD hS => ?_)
            obtain ⟨f_16, ef_16, hP, hD⟩ : ∃ f_16 : Nat → Int32, f_16 = upd (f_13) (y : Int32).toNatClampNeg z_15 ∧ PD D A [(sw_8 h0 q n1), (sw_in cT (q 13) 16 f_16), (sw_3 (q 2) p0 p1 p2 p3 p4 p5 p6 p7 p8 p9 (q 12) (q 13) (q 14) (q 15) (q 16) (q 17))] H := ⟨_, rfl, hP, hD⟩
            refine lv_iconst (v := 0) hx hb dX8_walk_95 (by decide) ?_
            exact x_iret hx hb hr hlk hP hD hS [0, 2, 1] ((f_16)) rfl (by decide) ⟨(by (try dsimp only); unfold wkA; (repeat (first | rw [if_pos (by omega)] | rw [if_neg (by omega)])); first | done | decide | omega), (fun _ j => by (try dsimp only); rw [ef_16, ez_15, ez_14, ef_13, ez_12, ez_11]; rfl), (fun h9 => absurd (by decide) h9), trivial⟩ (by decide) (by decide) dX8_walk_96
          · have ic_10 : ¬ x.toInt = y.toInt := ine c_10 (rfl) (rfl)
            refine lv_aload_n hx hb dX8_walk_50 rfl (lv_at hl 0 rfl) ?_
            refine va_get (D := D) (ci := 8) (v := .ref (q 2)) (C := RX8) (T := TX8) (N := 13) hx hb htg gRX8 hown hK hP 0 rfl rfl 3 (by decide) (htg _ wi_470) (fun _ h9 => h9) rfl dX8_walk_51 ?_
            refine va_getN (D := D) (ci := 3) (v := .ref (q 13)) (C := RX3) (T := TX3) (N := 16) hx hb htg gRX3 hown hK hP 2 rfl rfl 11 (by decide) (va_Nw.use rfl (hN.1 _ ni_205)) (fun _ h9 => h9) rfl dX8_walk_54 ?_
            refine lv_iload_n hx hb dX8_walk_57 rfl (lv_at hl 2 rfl) ?_
            refine va_iald hx hb hK hP 1 0 rfl rfl (vp_in_iff.mpr (by omega)) dX8_walk_58 ?_
            refine lv_topi (fun z_17 ez_17 => ?_)
            refine lv_iload_n hx hb dX8_walk_59 rfl (lv_at hl 3 rfl) ?_
            refine lv_iadd hx hb dX8_walk_60 ?_
            refine lv_topi (fun z_18 ez_18 => ?_)
            have nz_18 : z_18.toInt = (f1 y.toInt.toNat + z).toInt := by rw [ez_18, ez_17]; rfl
            refine lv_bipush (v := 9) hx hb dX8_walk_61 (by decide) ?_
            refine lv_icmp_le (tgt := 69) hx hb dX8_walk_63 (by decide) (fun c_19 => ?_) (fun c_19 => ?_)
            · have ic_19 : z_18.toInt ≤ 9 := ile c_19 (rfl) (by decide)
              refine lv_aload_n hx hb dX8_walk_69 rfl (lv_at hl 0 rfl) ?_
              refine va_get (D := D) (ci := 8) (v := .ref (q 2)) (C := RX8) (T := TX8) (N := 13) hx hb htg gRX8 hown hK hP 0 rfl rfl 3 (by decide) (htg _ wi_470) (fun _ h9 => h9) rfl dX8_walk_70 ?_
              refine va_getN (D := D) (ci := 3) (v := .ref (q 13)) (C := RX3) (T := TX3) (N := 16) hx hb htg gRX3 hown hK hP 2 rfl rfl 11 (by decide) (va_Nw.use rfl (hN.1 _ ni_205)) (fun _ h9 => h9) rfl dX8_walk_73 ?_
              refine lv_iload_n hx hb dX8_walk_76 rfl (lv_at hl 1 rfl) ?_
              refine lv_dup2_11 hx hb dX8_walk_77 rfl rfl ?_
              refine va_iald hx hb hK hP 1 0 rfl rfl (vp_in_iff.mpr (by omega)) dX8_walk_78 ?_
              refine lv_topi (fun z_20 ez_20 => ?_)
              refine lv_iload_n hx hb dX8_walk_79 rfl (lv_at hl 3 rfl) ?_
              refine lv_isub hx hb dX8_walk_80 ?_
              refine lv_topi (fun z_21 ez_21 => ?_)
              refine va_iast hx hb hK hP hD hS 1 0 rfl rfl (vp_in_iff.mpr (by omega)) dX8_walk_81 (fun H locs hP hD hS => ?_)
              obtain ⟨f_22, ef_22, hP, hD⟩ : ∃ f_22 : Nat → Int32, f_22 = upd (f1) (x : Int32).toNatClampNeg z_21 ∧ PD D A [(sw_8 h0 q n1), (sw_in cT (q 13) 16 f_22), (sw_3 (q 2) p0 p1 p2 p3 p4 p5 p6 p7 p8 p9 (q 12) (q 13) (q 14) (q 15) (q 16) (q 17))] H := ⟨_, rfl, hP, hD⟩
              refine lv_aload_n hx hb dX8_walk_82 rfl (lv_at hl 0 rfl) ?_
              refine va_get (D := D) (ci := 8) (v := .ref (q 2)) (C := RX8) (T := TX8) (N := 13) hx hb htg gRX8 hown hK hP 0 rfl rfl 3 (by decide) (htg _ wi_470) (fun _ h9 => h9) rfl dX8_walk_83 ?_
              refine va_getN (D := D) (ci := 3) (v := .ref (q 13)) (C := RX3) (T := TX3) (N := 16) hx hb htg gRX3 hown hK hP 2 rfl rfl 11 (by decide) (va_Nw.use rfl (hN.1 _ ni_205)) (fun _ h9 => h9) rfl dX8_walk_86 ?_
              refine lv_iload_n hx hb dX8_walk_89 rfl (lv_at hl 2 rfl) ?_
              refine lv_dup2_11 hx hb dX8_walk_90 rfl rfl ?_
              refine va_iald hx hb hK hP 1 0 rfl rfl (vp_in_iff.mpr (by omega)) dX8_walk_91 ?_
              refine lv_topi (fun z_23 ez_23 => ?_)
              refine lv_iload_n hx hb dX8_walk_92 rfl (lv_at hl 3 rfl) ?_
              refine lv_iadd hx hb dX8_walk_93 ?_
              refine lv_topi (fun z_24 ez_24 => ?_)
              refine va_iast hx hb hK hP hD hS 1 0 rfl rfl (vp_in_iff.mpr (by omega)) dX8_walk_94 (fun H locs hP hD hS => ?_)
              obtain ⟨f_25, ef_25, hP, hD⟩ : ∃ f_25 : Nat → Int32, f_25 = upd (f_22) (y : Int32).toNatClampNeg z_24 ∧ PD D A [(sw_8 h0 q n1), (sw_in cT (q 13) 16 f_25), (sw_3 (q 2) p0 p1 p2 p3 p4 p5 p6 p7 p8 p9 (q 12) (q 13) (q 14) (q 15) (q 16) (q 17))] H := ⟨_, rfl, hP, hD⟩
              refine lv_iconst (v := 0) hx hb dX8_walk_95 (by decide) ?_
              exact x_iret hx hb hr hlk hP hD hS [0, 2, 1] ((f_25)) rfl (by decide) ⟨(by (try dsimp only); unfold wkA; (repeat (first | rw [if_pos (by omega)] | rw [if_neg (by omega)])); first | done | decide | omega), (fun _ j => by (try dsimp only); rw [ef_25, ez_24, ez_23, ef_22, ez_21, ez_20]; rfl), (fun h9 => absurd (by decide) h9), trivial⟩ (by decide) (by decide) dX8_walk_96
            · have ic_19 : 9 < z_18.toInt := inle c_19 (rfl) (by decide)
              refine lv_bipush (v := (-4)) hx hb dX8_walk_66 (by decide) ?_
              exact x_iret hx hb hr hlk hP hD hS [0, 2, 1] ((f1)) rfl (by decide) ⟨(by (try dsimp only); unfold wkA; (repeat (first | rw [if_pos (by omega)] | rw [if_neg (by omega)])); first | done | decide | omega), (fun h9 => absurd h9 (by decide)), (fun _ _ => rfl), trivial⟩ (by decide) (by decide) dX8_walk_68
        · have ic_9 : z_8.toInt < z.toInt := inle c_9 (rfl) (rfl)
          refine lv_bipush (v := (-3)) hx hb dX8_walk_42 (by decide) ?_
          exact x_iret hx hb hr hlk hP hD hS [0, 2, 1] ((f1)) rfl (by decide) ⟨(by (try dsimp only); unfold wkA; (repeat (first | rw [if_pos (by omega)] | rw [if_neg (by omega)])); first | done | decide | omega), (fun h9 => absurd h9 (by decide)), (fun _ _ => rfl), trivial⟩ (by decide) (by decide) dX8_walk_44
    · have ic_6 := if0 hwr_5 c_6
      refine lv_bipush (v := (-2)) hx hb dX8_walk_22 (by decide) ?_
      exact x_iret hx hb hr hlk hP hD hS [0, 2, 1] ((f1)) rfl (by decide) ⟨(by (try dsimp only); unfold wkA; (repeat (first | rw [if_pos (by omega)] | rw [if_neg (by omega)])); first | done | decide | omega), (fun h9 => absurd h9 (by decide)), (fun _ _ => rfl), trivial⟩ (by decide) (by decide) dX8_walk_24
