set_option maxHeartbeats 4000000 in
set_option maxRecDepth 100000 in
theorem g_leastBits (l : Launch) (D : va_G) (cT : Nat → ClassId) (sz : Nat) (h0 : Nat) (b0 : Nat) (b1 : Nat) (c0 : Nat → Int32) (c1 : Nat → Int32) (x : Int32) (y : Int32) (z : Int32) (hxs : 0 ≤ x.toInt ∧ x.toInt ≤ 16) (hzs : 0 ≤ z.toInt ∧ z.toInt ≤ 16) : Met l yX0_leastBits (wsc yX0_leastBits cX0_leastBits 8 (some .int)) { frames := 20, cells := 0, slots := 0, locals := 580 } (va_Pc [.ref h0, .int x, .int y, .int z] (PX D cT sz [(sw_0 h0 b0 b1), (sw_in cT b0 16 c0), (sw_in cT b1 16 c1)])) (va_Qi (fun (r : Int32) (u : Unit) => True) (fun u t => RW D (va_A [(sw_0 h0 b0 b1), (sw_in cT b0 16 c0), (sw_in cT b1 16 c1)] sz) ((fun _ : Unit => [(sw_0 h0 b0 b1), (sw_in cT b0 16 c0), (sw_in cT b1 16 c1)]) u) t) (va_A [(sw_0 h0 b0 b1), (sw_in cT b0 16 c0), (sw_in cT b1 16 c1)] sz)) 0 0 (va_A [(sw_0 h0 b0 b1), (sw_in cT b0 16 c0), (sw_in cT b1 16 c1)] sz) := by
  refine m_of (y := yX0_leastBits) (cc := cX0_leastBits) (nL := 8) (ret := (some .int)) (D := D) (cT := cT) (av := [.ref h0, .int x, .int y, .int z]) (wi := [(sw_0 h0 b0 b1), (sw_in cT b0 16 c0), (sw_in cT b1 16 c1)]) (fun A => va_Qi (fun (r : Int32) (u : Unit) => True) (fun u t => RW D A ((fun _ : Unit => [(sw_0 h0 b0 b1), (sw_in cT b0 16 c0), (sw_in cT b1 16 c1)]) u) t) A) (by decide) (Nat.le_of_ble_eq_true rfl) ?_
  intro p e s m below meth c A hx hb hml hown htg hK hN hr hlk hnm hsz hP hD hS hA ls hl
  have hown : s.vm.findClass RX0 = some m.cls := hown
  have hl : lv_has ls 8 [(0, .ref h0), (1, .int x), (2, .int y), (3, .int z)] := hl
  refine lv_iconst (v := 0) hx hb dX0_leastBits_0 (by decide) ?_
  refine lv_istore (lv' := [(4, .int 0), (0, .ref h0), (1, .int x), (2, .int y), (3, .int z)]) hx hb dX0_leastBits_1 hl (by decide) rfl (fun ls hl => ?_)
  refine lv_iload_n hx hb dX0_leastBits_3 rfl (lv_at hl 3 rfl) ?_
  refine lv_istore (lv' := [(5, .int y), (4, .int 0), (0, .ref h0), (1, .int x), (2, .int y), (3, .int z)]) hx hb dX0_leastBits_4 hl (by decide) rfl (fun ls hl => ?_)
  refine lv_iload_n hx hb dX0_leastBits_6 rfl (lv_at hl 5 rfl) ?_
  refine lv_istore (lv' := [(6, .int z), (5, .int y), (4, .int 0), (0, .ref h0), (1, .int x), (2, .int y), (3, .int z)]) hx hb dX0_leastBits_7 hl (by decide) rfl (fun ls hl => ?_)
  refine lv_iload_n hx hb dX0_leastBits_9 rfl (lv_at hl 4 rfl) ?_
  refine lv_iconst (v := 1) hx hb dX0_leastBits_10 (by decide) ?_
  refine lv_isub hx hb dX0_leastBits_11 ?_
  refine lv_topi (fun z_1 ez_1 => ?_)
  have iz_1 : z_1.toInt = x.toInt - 1 := toInt_subI ez_1 (rfl) (by decide) (by omega)
  refine lv_istore (lv' := [(7, .int z_1), (6, .int z), (5, .int y), (4, .int 0), (0, .ref h0), (1, .int x), (2, .int y), (3, .int z)]) hx hb dX0_leastBits_12 hl (by decide) rfl (fun ls hl => ?_)
  refine (fun (key : ∀ (n9_14 : Nat) (k9_14 : Int32) (x9_14_6 : Int32) (x9_14_5 : Int32) (x9_14_4 : Int32) (H : Heap) (locs : List Loc) (ls : Array Slot), (-1 ≤ k9_14.toInt ∧ k9_14.toInt ≤ 15) → k9_14.toInt < -1 + n9_14 → k9_14.toInt - 16 ≤ x9_14_6.toInt → (-17 ≤ x9_14_6.toInt ∧ x9_14_6.toInt ≤ 16) → PD D A [(sw_0 h0 b0 b1), (sw_in cT b0 16 c0), (sw_in cT b1 16 c1)] H → va_S A s.heap H locs → lv_has ls 8 [(7, .int k9_14), (6, .int x9_14_6), (5, .int x9_14_5), (4, .int x9_14_4), (0, .ref h0), (1, .int x), (2, .int y), (3, .int z)] → W p l e _ s m _ below meth c H locs _ _ _ (F0 m 14 ls [])) => key (Int.toNat (z_1.toInt - (-1)) + 1) (z_1) _ _ _ _ _ _ (by omega) (by omega) (by first | assumption | omega | decide | (simp only [ti_0, ti_1, ti_2, ti_3, ti_4, ti_5, ti_6, ti_7, ti_8, ti_9, ti_10, ti_11, ti_12, ti_m1]; omega)) (by first | assumption | omega | decide | (simp only [ti_0, ti_1, ti_2, ti_3, ti_4, ti_5, ti_6, ti_7, ti_8, ti_9, ti_10, ti_11, ti_12, ti_m1]; omega)) ⟨hP, hD⟩ hS (lv_sub hl [0, 1, 2, 3, 4, 5, 6, 7] rfl)) ?_
  intro n9_14
  induction n9_14 with
  | zero => intro k9_14 x9_14_6 x9_14_5 x9_14_4 H locs ls hq1 hq2; exact absurd hq2 (by omega)
  | succ n9_14 ih_14 =>
    intro k9_14 x9_14_6 x9_14_5 x9_14_4 H locs ls hq1_14 hq2_14 h9_14_0 h9_14_1 hPD hS hl
    obtain ⟨hP, hD⟩ := hPD
    refine lv_iload hx hb dX0_leastBits_14 (lv_at hl 0 rfl) ?_
    refine lv_if_lt (tgt := 75) hx hb dX0_leastBits_16 (by decide) (fun c_2 => ?_) (fun c_2 => ?_)
    · have ic_2 : k9_14.toInt < 0 := ilt c_2 (rfl) (by decide)
      refine lv_iload hx hb dX0_leastBits_75 (lv_at hl 3 rfl) ?_
      exact x_iret hx hb hr hlk hP hD hS [0, 1, 2] (()) rfl (by decide) trivial (by decide) (by decide) dX0_leastBits_77
    · have ic_2 : 0 ≤ k9_14.toInt := inlt c_2 (rfl) (by decide)
      refine lv_aload_n hx hb dX0_leastBits_19 rfl (lv_at hl 4 rfl) ?_
      refine va_get (D := D) (ci := 0) (v := .ref b0) (C := RX0) (T := TX0) (N := 2) hx hb htg gRX0 hown hK hP 0 rfl rfl 0 (by decide) (htg _ wi_439) (fun _ h9 => h9) rfl dX0_leastBits_20 ?_
      refine lv_aload_n hx hb dX0_leastBits_23 rfl (lv_at hl 4 rfl) ?_
      refine va_get (D := D) (ci := 0) (v := .ref b1) (C := RX0) (T := TX0) (N := 2) hx hb htg gRX0 hown hK hP 0 rfl rfl 1 (by decide) (htg _ wi_440) (fun _ h9 => h9) rfl dX0_leastBits_24 ?_
      refine lv_iload hx hb dX0_leastBits_27 (lv_at hl 2 rfl) ?_
      refine lv_iconst (v := 1) hx hb dX0_leastBits_29 (by decide) ?_
      refine lv_iload hx hb dX0_leastBits_30 (lv_at hl 0 rfl) ?_
      refine lv_ishl hx hb dX0_leastBits_32 ?_
      refine lv_topi (fun z_3 ez_3 => ?_)
      refine lv_iconst (v := 1) hx hb dX0_leastBits_33 (by decide) ?_
      refine lv_isub hx hb dX0_leastBits_34 ?_
      refine lv_topi (fun z_4 ez_4 => ?_)
      refine lv_iload hx hb dX0_leastBits_35 (lv_at hl 1 rfl) ?_
      refine xk_i (wr := [(sw_0 h0 b0 b1)]) (xr_S (n := 5) (As := [.ref b0, .ref b1, .int x9_14_5, .int z_4, .int x9_14_6]) (rest := []) ⟨hx, hb, hml, hown, htg⟩ hK hN hP hD hS hA [1, 2] rfl (by decide) (g_canLight_16 l D cT _ (b0) (b1) (c0) (c1) (x9_14_5) (z_4) (x9_14_6) (by first | assumption | decide | omega | (simp only [ti_0, ti_1, ti_2, ti_3, ti_4, ti_5, ti_6, ti_7, ti_8, ti_9, ti_10, ti_11, ti_12, ti_m1]; omega))) wi_1023 wi_1024 wi_129 wi_1025 ⟨rfl, by decide +kernel⟩ ⟨Nat.le_of_ble_eq_true rfl, Nat.le_of_ble_eq_true rfl⟩ rfl hl.1 rfl (Nat.le_of_ble_eq_true rfl) dX0_leastBits_37 ⟨Nat.le_of_ble_eq_true rfl, Nat.le_of_ble_eq_true rfl⟩) hP hD hS hA [1, 2] [0] rfl rfl (by decide) (by decide) (fun r_6 u_5 H locs hwr_6 hP hD hS => ?_)
      obtain ⟨hP, hD⟩ : PD D A [(sw_0 h0 b0 b1), (sw_in cT b0 16 c0), (sw_in cT b1 16 c1)] _ := ⟨hP, hD⟩
      refine lv_if_ne (tgt := 69) hx hb dX0_leastBits_40 (by decide) (fun c_7 => ?_) (fun c_7 => ?_)
      · have ic_7 : ¬ r_6.toInt = 0 := ine c_7 (rfl) (by decide)
        obtain ⟨z_8, ez_8⟩ : ∃ w : Int32, w = k9_14 + (-1) := ⟨_, rfl⟩
        have iz_8 : z_8.toInt = k9_14.toInt + (-1) := toInt_addI ez_8 (rfl) (by decide) (by omega)
        refine lv_iinc (v := z_8) (lv' := [(7, .int z_8), (6, .int x9_14_6), (5, .int x9_14_5), (4, .int x9_14_4), (0, .ref h0), (1, .int x), (2, .int y), (3, .int z)]) hx hb dX0_leastBits_69 hl (k := 0) rfl (by rw [ez_8]; rfl) (by decide) rfl (fun ls hl => ?_)
        refine lv_goto (tgt := 14) hx hb dX0_leastBits_72 (by decide) ?_
        exact ih_14 (z_8) _ _ _ _ _ _ (by omega) (by omega) (by first | assumption | omega | decide | (simp only [ti_0, ti_1, ti_2, ti_3, ti_4, ti_5, ti_6, ti_7, ti_8, ti_9, ti_10, ti_11, ti_12, ti_m1]; omega)) (by first | assumption | omega | decide | (simp only [ti_0, ti_1, ti_2, ti_3, ti_4, ti_5, ti_6, ti_7, ti_8, ti_9, ti_10, ti_11, ti_12, ti_m1]; omega)) ⟨hP.sub [0, 1, 2] rfl, hD.sub [0, 1, 2] (by decide) rfl⟩ hS (lv_sub hl [0, 1, 2, 3, 4, 5, 6, 7] rfl)
      · have ic_7 : r_6.toInt = 0 := ieq c_7 (rfl) (by decide)
        refine lv_iload hx hb dX0_leastBits_43 (lv_at hl 3 rfl) ?_
        refine lv_iconst (v := 1) hx hb dX0_leastBits_45 (by decide) ?_
        refine lv_iload hx hb dX0_leastBits_46 (lv_at hl 0 rfl) ?_
        refine lv_ishl hx hb dX0_leastBits_48 ?_
        refine lv_topi (fun z_9 ez_9 => ?_)
        refine lv_ior hx hb dX0_leastBits_49 ?_
        refine lv_topi (fun z_10 ez_10 => ?_)
        refine lv_istore (lv' := [(4, .int z_10), (7, .int k9_14), (6, .int x9_14_6), (5, .int x9_14_5), (0, .ref h0), (1, .int x), (2, .int y), (3, .int z)]) hx hb dX0_leastBits_50 hl (by decide) rfl (fun ls hl => ?_)
        refine lv_iload hx hb dX0_leastBits_52 (lv_at hl 3 rfl) ?_
        refine lv_aload_n hx hb dX0_leastBits_54 rfl (lv_at hl 4 rfl) ?_
        refine va_get (D := D) (ci := 0) (v := .ref b0) (C := RX0) (T := TX0) (N := 2) hx hb htg gRX0 hown hK hP 0 rfl rfl 0 (by decide) (htg _ wi_439) (fun _ h9 => h9) rfl dX0_leastBits_55 ?_
        refine lv_iload hx hb dX0_leastBits_58 (lv_at hl 1 rfl) ?_
        refine va_iald hx hb hK hP 1 0 rfl rfl (vp_in_iff.mpr (by omega)) dX0_leastBits_60 ?_
        refine lv_topi (fun z_11 ez_11 => ?_)
        refine lv_iconst (v := (-1)) hx hb dX0_leastBits_61 (by decide) ?_
        refine lv_ixor hx hb dX0_leastBits_62 ?_
        refine lv_topi (fun z_12 ez_12 => ?_)
        refine lv_iand hx hb dX0_leastBits_63 ?_
        refine lv_topi (fun z_13 ez_13 => ?_)
        refine lv_istore (lv' := [(5, .int z_13), (4, .int z_10), (7, .int k9_14), (6, .int x9_14_6), (0, .ref h0), (1, .int x), (2, .int y), (3, .int z)]) hx hb dX0_leastBits_64 hl (by decide) rfl (fun ls hl => ?_)
        obtain ⟨z_14, ez_14⟩ : ∃ w : Int32, w = x9_14_6 + (-1) := ⟨_, rfl⟩
        have iz_14 : z_14.toInt = x9_14_6.toInt + (-1) := toInt_addI ez_14 (rfl) (by decide) (by omega)
        refine lv_iinc (v := z_14) (lv' := [(6, .int z_14), (5, .int z_13), (4, .int z_10), (7, .int k9_14), (0, .ref h0), (1, .int x), (2, .int y), (3, .int z)]) hx hb dX0_leastBits_66 hl (k := 3) rfl (by rw [ez_14]; rfl) (by decide) rfl (fun ls hl => ?_)
        obtain ⟨z_15, ez_15⟩ : ∃ w : Int32, w = k9_14 + (-1) := ⟨_, rfl⟩
        have iz_15 : z_15.toInt = k9_14.toInt + (-1) := toInt_addI ez_15 (rfl) (by decide) (by omega)
        refine lv_iinc (v := z_15) (lv' := [(7, .int z_15), (6, .int z_14), (5, .int z_13), (4, .int z_10), (0, .ref h0), (1, .int x), (2, .int y), (3, .int z)]) hx hb dX0_leastBits_69 hl (k := 3) rfl (by rw [ez_15]; rfl) (by decide) rfl (fun ls hl => ?_)
        refine lv_goto (tgt := 14) hx hb dX0_leastBits_72 (by decide) ?_
        exact ih_14 (z_15) _ _ _ _ _ _ (by omega) (by omega) (by first | assumption | omega | decide | (simp only [ti_0, ti_1, ti_2, ti_3, ti_4, ti_5, ti_6, ti_7, ti_8, ti_9, ti_10, ti_11, ti_12, ti_m1]; omega)) (by first | assumption | omega | decide | (simp only [ti_0, ti_1, ti_2, ti_3, ti_4, ti_5, ti_6, ti_7, ti_8, ti_9, ti_10, ti_11, ti_12, ti_m1]; omega)) ⟨hP.sub [0, 1, 2] rfl, hD.sub [0, 1, 2] (by decide) rfl⟩ hS (lv_sub hl [0, 1, 2, 3, 4, 5, 6, 7] rfl)
set_option maxHeartbeats 4000000 in
set_option maxRecDepth 100000 in
theorem g_look (l : Launch) (D : va_G) (cT : Nat → ClassId) (sz : Nat) (h0 : Nat) (b0 : Nat) (b1 : Nat) (c0 : Nat → Int32) (c1 : Nat → Int32) (h1 : Nat) (a : Nat → Nat) (p0 : Int32) (p1 : Int32) (p2 : Int32) (p3 : Int32) (p4 : Int32) (p5 : Int32) (p6 : Int32) (p7 : Int32) (p8 : Int32) (p9 : Int32) (hs : 0 ≤ p0.toInt ∧ p0.toInt ≤ 16) (f2 : Nat → Int32) : Met l yX0_look (wsc yX0_look cX0_look 4 none) { frames := 5, cells := 0, slots := 0, locals := 171 } (va_Pc [.ref h0, .ref h1] (PX D cT sz [(sw_0 h0 b0 b1), (sw_in cT b0 16 c0), (sw_in cT b1 16 c1), (sw_3 h1 p0 p1 p2 p3 p4 p5 p6 p7 p8 p9 (a 0) (a 1) (a 2) (a 3) (a 4) (a 5)), (sw_in cT (a 2) 16 f2)])) (va_Qv (fun (u : (Nat → Int32) × (Nat → Int32)) => True) (fun u t => RW D (va_A [(sw_0 h0 b0 b1), (sw_in cT b0 16 c0), (sw_in cT b1 16 c1), (sw_3 h1 p0 p1 p2 p3 p4 p5 p6 p7 p8 p9 (a 0) (a 1) (a 2) (a 3) (a 4) (a 5)), (sw_in cT (a 2) 16 f2)] sz) ((fun u : (Nat → Int32) × (Nat → Int32) => [(sw_0 h0 b0 b1), (sw_in cT b0 16 u.1), (sw_in cT b1 16 u.2), (sw_3 h1 p0 p1 p2 p3 p4 p5 p6 p7 p8 p9 (a 0) (a 1) (a 2) (a 3) (a 4) (a 5)), (sw_in cT (a 2) 16 f2)]) u) t) (va_A [(sw_0 h0 b0 b1), (sw_in cT b0 16 c0), (sw_in cT b1 16 c1), (sw_3 h1 p0 p1 p2 p3 p4 p5 p6 p7 p8 p9 (a 0) (a 1) (a 2) (a 3) (a 4) (a 5)), (sw_in cT (a 2) 16 f2)] sz)) 0 0 (va_A [(sw_0 h0 b0 b1), (sw_in cT b0 16 c0), (sw_in cT b1 16 c1), (sw_3 h1 p0 p1 p2 p3 p4 p5 p6 p7 p8 p9 (a 0) (a 1) (a 2) (a 3) (a 4) (a 5)), (sw_in cT (a 2) 16 f2)] sz) := by
  refine m_of (y := yX0_look) (cc := cX0_look) (nL := 4) (ret := none) (D := D) (cT := cT) (av := [.ref h0, .ref h1]) (wi := [(sw_0 h0 b0 b1), (sw_in cT b0 16 c0), (sw_in cT b1 16 c1), (sw_3 h1 p0 p1 p2 p3 p4 p5 p6 p7 p8 p9 (a 0) (a 1) (a 2) (a 3) (a 4) (a 5)), (sw_in cT (a 2) 16 f2)]) (fun A => va_Qv (fun (u : (Nat → Int32) × (Nat → Int32)) => True) (fun u t => RW D A ((fun u : (Nat → Int32) × (Nat → Int32) => [(sw_0 h0 b0 b1), (sw_in cT b0 16 u.1), (sw_in cT b1 16 u.2), (sw_3 h1 p0 p1 p2 p3 p4 p5 p6 p7 p8 p9 (a 0) (a 1) (a 2) (a 3) (a 4) (a 5)), (sw_in cT (a 2) 16 f2)]) u) t) A) (by decide) (Nat.le_of_ble_eq_true rfl) ?_
  intro p e s m below meth c A hx hb hml hown htg hK hN hr hlk hnm hsz hP hD hS hA ls hl
  have hown : s.vm.findClass RX0 = some m.cls := hown
  have hl : lv_has ls 4 [(0, .ref h0), (1, .ref h1)] := hl
  refine lv_aload_n hx hb dX0_look_0 rfl (lv_at hl 0 rfl) ?_
  refine va_get (D := D) (ci := 0) (v := .ref b1) (C := RX0) (T := TX0) (N := 2) hx hb htg gRX0 hown hK hP 0 rfl rfl 1 (by decide) (htg _ wi_440) (fun _ h9 => h9) rfl dX0_look_1 ?_
  refine lv_iconst (v := 0) hx hb dX0_look_4 (by decide) ?_
  refine xk_v (wr := [(sw_0 h0 b0 b1), (sw_in cT b0 16 c0), (sw_3 h1 p0 p1 p2 p3 p4 p5 p6 p7 p8 p9 (a 0) (a 1) (a 2) (a 3) (a 4) (a 5)), (sw_in cT (a 2) 16 f2)]) (xr_S (n := 2) (As := [.ref b1, .int 0]) (rest := []) ⟨hx, hb, hml, hown, htg⟩ hK hN hP hD hS hA [2] rfl (by decide) (g_fillI16 l D cT _ (b1) (c1) (0)) wi_1020 wi_164 wi_124 wi_165 ⟨rfl, by decide +kernel⟩ ⟨Nat.le_of_ble_eq_true rfl, Nat.le_of_ble_eq_true rfl⟩ rfl hl.1 rfl (Nat.le_of_ble_eq_true rfl) dX0_look_5 ⟨Nat.le_of_ble_eq_true rfl, Nat.le_of_ble_eq_true rfl⟩) hP hD hS hA [2] [0, 1, 3, 4] rfl rfl (by decide) (by decide) (fun u_1 H locs hwr_2 hP hD hS => ?_)
  obtain ⟨hP, hD⟩ : PD D A [(sw_0 h0 b0 b1), (sw_in cT b0 16 c0), (sw_3 h1 p0 p1 p2 p3 p4 p5 p6 p7 p8 p9 (a 0) (a 1) (a 2) (a 3) (a 4) (a 5)), (sw_in cT (a 2) 16 f2), (sw_in cT b1 16 (fillF (c1) 16 (0)))] _ := ⟨hP, hD⟩
  refine lv_iconst (v := 0) hx hb dX0_look_8 (by decide) ?_
  refine lv_istore_n (lv' := [(2, .int 0), (0, .ref h0), (1, .ref h1)]) hx hb dX0_look_9 rfl hl (by decide) rfl (fun ls hl => ?_)
  refine (fun (key : ∀ (n9_10 : Nat) (k9_10 : Nat) (f9_10_0 : Nat → Int32) (f9_10_1 : Nat → Int32) (H : Heap) (locs : List Loc) (ls : Array Slot), (k9_10 : Int) ≤ p0.toInt → p0.toInt < (k9_10 : Int) + n9_10 → PD D A [(sw_0 h0 b0 b1), (sw_in cT b0 16 f9_10_0), (sw_3 h1 p0 p1 p2 p3 p4 p5 p6 p7 p8 p9 (a 0) (a 1) (a 2) (a 3) (a 4) (a 5)), (sw_in cT (a 2) 16 f2), (sw_in cT b1 16 f9_10_1)] H → va_S A s.heap H locs → lv_has ls 4 [(2, .int (nI k9_10)), (0, .ref h0), (1, .ref h1)] → W p l e _ s m _ below meth c H locs _ _ _ (F0 m 10 ls [])) => key (Int.toNat (p0.toInt - 0) + 1) 0 _ _ _ _ _ (by omega) (by omega)  ⟨hP, hD⟩ hS (lv_sub hl [0, 1, 2] rfl)) ?_
  intro n9_10
  induction n9_10 with
  | zero => intro k9_10 f9_10_0 f9_10_1 H locs ls hq1 hq2; exact absurd hq2 (by omega)
  | succ n9_10 ih_10 =>
    intro k9_10 f9_10_0 f9_10_1 H locs ls hq1_10 hq2_10  hPD hS hl
    obtain ⟨hP, hD⟩ := hPD
    have hk9_10 : (nI k9_10).toInt = (k9_10 : Int) := nI_toInt (by omega)
    refine lv_iload_n hx hb dX0_look_10 rfl (lv_at hl 0 rfl) ?_
    refine lv_aload_n hx hb dX0_look_11 rfl (lv_at hl 2 rfl) ?_
    refine va_getN (D := D) (ci := 3) (v := .int p0) (C := RX3) (T := TX3) (N := 16) hx hb htg gRX3 hown hK hP 2 rfl rfl 0 (by decide) (va_Nw.use rfl (hN.1 _ ni_168)) (fun _ h9 => h9) rfl dX0_look_12 ?_
    refine lv_icmp_ge (tgt := 72) hx hb dX0_look_15 (by decide) (fun c_3 => ?_) (fun c_3 => ?_)
    · have ic_3 : p0.toInt ≤ ((k9_10 : Nat) : Int) := ile c_3 (rfl) (nI_toInt (by omega))
      exact x_vret hx hb hr hlk hP hD hS [0, 1, 4, 2, 3] ((f9_10_0, f9_10_1)) rfl (by decide) trivial (by decide) (by decide) dX0_look_72
    · have ic_3 : ((k9_10 : Nat) : Int) < p0.toInt := inle c_3 (rfl) (nI_toInt (by omega))
      refine lv_aload_n hx hb dX0_look_18 rfl (lv_at hl 1 rfl) ?_
      refine va_get (D := D) (ci := 0) (v := .ref b0) (C := RX0) (T := TX0) (N := 2) hx hb htg gRX0 hown hK hP 0 rfl rfl 0 (by decide) (htg _ wi_439) (fun _ h9 => h9) rfl dX0_look_19 ?_
      refine lv_iload_n hx hb dX0_look_22 rfl (lv_at hl 0 rfl) ?_
      refine lv_aload_n hx hb dX0_look_23 rfl (lv_at hl 2 rfl) ?_
      refine lv_iload_n hx hb dX0_look_24 rfl (lv_at hl 0 rfl) ?_
      refine xk_i (wr := [(sw_0 h0 b0 b1), (sw_in cT b0 16 f9_10_0), (sw_in cT b1 16 f9_10_1)]) (xr_VN (n := 1) (As := [.int (nI k9_10)]) (rest := [.int (nI k9_10), .ref b0]) ⟨hx, hb, hml, hown, htg⟩ hK hN hP hD hS hA [2, 3] rfl (by decide) (g_litFrom l D cT _ (h1) (a) (p0) (p1) (p2) (p3) (p4) (p5) (p6) (p7) (p8) (p9) (by first | assumption | decide | omega | (simp only [ti_0, ti_1, ti_2, ti_3, ti_4, ti_5, ti_6, ti_7, ti_8, ti_9, ti_10, ti_11, ti_12, ti_m1]; omega)) ((nI k9_10)) (by first | assumption | decide | omega | (simp only [ti_0, ti_1, ti_2, ti_3, ti_4, ti_5, ti_6, ti_7, ti_8, ti_9, ti_10, ti_11, ti_12, ti_m1]; omega)) (f2)) ni_1021 wi_710 wi_24 wi_123 wi_711 rfl rfl rfl ⟨rfl, by decide +kernel⟩ ⟨Nat.le_of_ble_eq_true rfl, Nat.le_of_ble_eq_true rfl⟩ rfl hl.1 rfl (Nat.le_of_ble_eq_true rfl) dX0_look_25 ⟨Nat.le_of_ble_eq_true rfl, Nat.le_of_ble_eq_true rfl⟩) hP hD hS hA [2, 3] [0, 1, 4] rfl rfl (by decide) (by decide) (fun r_5 u_4 H locs hwr_5 hP hD hS => ?_)
      obtain ⟨hP, hD⟩ : PD D A [(sw_0 h0 b0 b1), (sw_in cT b0 16 f9_10_0), (sw_in cT b1 16 f9_10_1), (sw_3 h1 p0 p1 p2 p3 p4 p5 p6 p7 p8 p9 (a 0) (a 1) (a 2) (a 3) (a 4) (a 5)), (sw_in cT (a 2) 16 f2)] _ := ⟨hP, hD⟩
      refine va_iast hx hb hK hP hD hS 1 0 rfl rfl (vp_in_nI (by omega) (by omega)) dX0_look_28 (fun H locs hP hD hS => ?_)
      obtain ⟨f_6, hP, hD⟩ : ∃ f_6 : Nat → Int32, PD D A [(sw_0 h0 b0 b1), (sw_in cT b0 16 f_6), (sw_in cT b1 16 f9_10_1), (sw_3 h1 p0 p1 p2 p3 p4 p5 p6 p7 p8 p9 (a 0) (a 1) (a 2) (a 3) (a 4) (a 5)), (sw_in cT (a 2) 16 f2)] H := ⟨_, hP, hD⟩
      refine lv_iconst (v := 0) hx hb dX0_look_29 (by decide) ?_
      refine lv_istore_n (lv' := [(3, .int 0), (2, .int (nI k9_10)), (0, .ref h0), (1, .ref h1)]) hx hb dX0_look_30 rfl hl (by decide) rfl (fun ls hl => ?_)
      refine (fun (key : ∀ (n9_31 : Nat) (k9_31 : Nat) (f9_31_0 : Nat → Int32) (H : Heap) (locs : List Loc) (ls : Array Slot), (k9_31 : Int) ≤ p0.toInt → p0.toInt < (k9_31 : Int) + n9_31 → PD D A [(sw_0 h0 b0 b1), (sw_in cT b0 16 f_6), (sw_in cT b1 16 f9_31_0), (sw_3 h1 p0 p1 p2 p3 p4 p5 p6 p7 p8 p9 (a 0) (a 1) (a 2) (a 3) (a 4) (a 5)), (sw_in cT (a 2) 16 f2)] H → va_S A s.heap H locs → lv_has ls 4 [(3, .int (nI k9_31)), (2, .int (nI k9_10)), (0, .ref h0), (1, .ref h1)] → W p l e _ s m _ below meth c H locs _ _ _ (F0 m 31 ls [])) => key (Int.toNat (p0.toInt - 0) + 1) 0 _ _ _ _ (by omega) (by omega)  ⟨hP, hD⟩ hS (lv_sub hl [0, 1, 2, 3] rfl)) ?_
      intro n9_31
      induction n9_31 with
      | zero => intro k9_31 f9_31_0 H locs ls hq1 hq2; exact absurd hq2 (by omega)
      | succ n9_31 ih_31 =>
        intro k9_31 f9_31_0 H locs ls hq1_31 hq2_31  hPD hS hl
        obtain ⟨hP, hD⟩ := hPD
        have hk9_31 : (nI k9_31).toInt = (k9_31 : Int) := nI_toInt (by omega)
        refine lv_iload_n hx hb dX0_look_31 rfl (lv_at hl 0 rfl) ?_
        refine lv_aload_n hx hb dX0_look_32 rfl (lv_at hl 3 rfl) ?_
        refine va_getN (D := D) (ci := 3) (v := .int p0) (C := RX3) (T := TX3) (N := 16) hx hb htg gRX3 hown hK hP 3 rfl rfl 0 (by decide) (va_Nw.use rfl (hN.1 _ ni_168)) (fun _ h9 => h9) rfl dX0_look_33 ?_
        refine lv_icmp_ge (tgt := 66) hx hb dX0_look_36 (by decide) (fun c_7 => ?_) (fun c_7 => ?_)
        · have ic_7 : p0.toInt ≤ ((k9_31 : Nat) : Int) := ile c_7 (rfl) (nI_toInt (by omega))
          refine lv_iinc (v := (nI (k9_10 + 1))) (lv' := [(2, .int (nI (k9_10 + 1))), (3, .int (nI k9_31)), (0, .ref h0), (1, .ref h1)]) hx hb dX0_look_66 hl (k := 1) rfl (by exact nI_1 (k9_10)) (by decide) rfl (fun ls hl => ?_)
          refine lv_goto (tgt := 10) hx hb dX0_look_69 (by decide) ?_
          exact ih_10 (k9_10 + 1) _ _ _ _ _ (by omega) (by omega)  ⟨hP.sub [0, 1, 3, 4, 2] rfl, hD.sub [0, 1, 3, 4, 2] (by decide) rfl⟩ hS (lv_sub hl [0, 2, 3] rfl)
        · have ic_7 : ((k9_31 : Nat) : Int) < p0.toInt := inle c_7 (rfl) (nI_toInt (by omega))
          refine lv_aload_n hx hb dX0_look_39 rfl (lv_at hl 2 rfl) ?_
          refine va_get (D := D) (ci := 0) (v := .ref b1) (C := RX0) (T := TX0) (N := 2) hx hb htg gRX0 hown hK hP 0 rfl rfl 1 (by decide) (htg _ wi_440) (fun _ h9 => h9) rfl dX0_look_40 ?_
          refine lv_iload_n hx hb dX0_look_43 rfl (lv_at hl 0 rfl) ?_
          refine lv_dup2_11 hx hb dX0_look_44 rfl rfl ?_
          refine va_iald hx hb hK hP 2 0 rfl rfl (vp_in_nI (by omega) (by omega)) dX0_look_45 ?_
          refine lv_topi (fun z_8 ez_8 => ?_)
          refine lv_aload_n hx hb dX0_look_46 rfl (lv_at hl 2 rfl) ?_
          refine va_get (D := D) (ci := 0) (v := .ref b0) (C := RX0) (T := TX0) (N := 2) hx hb htg gRX0 hown hK hP 0 rfl rfl 0 (by decide) (htg _ wi_439) (fun _ h9 => h9) rfl dX0_look_47 ?_
          refine lv_iload_n hx hb dX0_look_50 rfl (lv_at hl 1 rfl) ?_
          refine va_iald hx hb hK hP 1 0 rfl rfl (vp_in_nI (by omega) (by omega)) dX0_look_51 ?_
          refine lv_topi (fun z_9 ez_9 => ?_)
          refine lv_iload_n hx hb dX0_look_52 rfl (lv_at hl 0 rfl) ?_
          refine lv_ishr hx hb dX0_look_53 ?_
          refine lv_topi (fun z_10 ez_10 => ?_)
          refine lv_iconst (v := 1) hx hb dX0_look_54 (by decide) ?_
          refine lv_iand hx hb dX0_look_55 ?_
          refine lv_topi (fun z_11 ez_11 => ?_)
          have iz_11 : 0 ≤ z_11.toInt ∧ z_11.toInt ≤ 1 := andI ez_11 (by decide) (by decide)
          refine lv_iload_n hx hb dX0_look_56 rfl (lv_at hl 1 rfl) ?_
          refine lv_ishl hx hb dX0_look_57 ?_
          refine lv_topi (fun z_12 ez_12 => ?_)
          refine lv_ior hx hb dX0_look_58 ?_
          refine lv_topi (fun z_13 ez_13 => ?_)
          refine va_iast hx hb hK hP hD hS 2 0 rfl rfl (vp_in_nI (by omega) (by omega)) dX0_look_59 (fun H locs hP hD hS => ?_)
          obtain ⟨f_14, hP, hD⟩ : ∃ f_14 : Nat → Int32, PD D A [(sw_0 h0 b0 b1), (sw_in cT b0 16 f_6), (sw_in cT b1 16 f_14), (sw_3 h1 p0 p1 p2 p3 p4 p5 p6 p7 p8 p9 (a 0) (a 1) (a 2) (a 3) (a 4) (a 5)), (sw_in cT (a 2) 16 f2)] H := ⟨_, hP, hD⟩
          refine lv_iinc (v := (nI (k9_31 + 1))) (lv' := [(3, .int (nI (k9_31 + 1))), (2, .int (nI k9_10)), (0, .ref h0), (1, .ref h1)]) hx hb dX0_look_60 hl (k := 0) rfl (by exact nI_1 (k9_31)) (by decide) rfl (fun ls hl => ?_)
          refine lv_goto (tgt := 31) hx hb dX0_look_63 (by decide) ?_
          exact ih_31 (k9_31 + 1) _ _ _ _ (by omega) (by omega)  ⟨hP.sub [0, 1, 2, 3, 4] rfl, hD.sub [0, 1, 2, 3, 4] (by decide) rfl⟩ hS (lv_sub hl [0, 1, 2, 3] rfl)
set_option maxHeartbeats 4000000 in
set_option maxRecDepth 100000 in
theorem g_fewest (l : Launch) (D : va_G) (cT : Nat → ClassId) (sz : Nat) (h0 : Nat) (b0 : Nat) (b1 : Nat) (c0 : Nat → Int32) (c1 : Nat → Int32) (h1 : Nat) (a : Nat → Nat) (p0 : Int32) (p1 : Int32) (p2 : Int32) (p3 : Int32) (p4 : Int32) (p5 : Int32) (p6 : Int32) (p7 : Int32) (p8 : Int32) (p9 : Int32) (hs : 0 ≤ p0.toInt ∧ p0.toInt ≤ 16) (f2 : Nat → Int32) (x : Int32) : Met l yX0_fewest (wsc yX0_fewest cX0_fewest 5 (some .int)) { frames := 21, cells := 0, slots := 0, locals := 607 } (va_Pc [.ref h0, .ref h1, .int x] (PX D cT sz [(sw_0 h0 b0 b1), (sw_in cT b0 16 c0), (sw_in cT b1 16 c1), (sw_3 h1 p0 p1 p2 p3 p4 p5 p6 p7 p8 p9 (a 0) (a 1) (a 2) (a 3) (a 4) (a 5)), (sw_in cT (a 2) 16 f2)])) (va_Qi (fun (r : Int32) (u : (Nat → Int32) × (Nat → Int32)) => True) (fun u t => RW D (va_A [(sw_0 h0 b0 b1), (sw_in cT b0 16 c0), (sw_in cT b1 16 c1), (sw_3 h1 p0 p1 p2 p3 p4 p5 p6 p7 p8 p9 (a 0) (a 1) (a 2) (a 3) (a 4) (a 5)), (sw_in cT (a 2) 16 f2)] sz) ((fun u : (Nat → Int32) × (Nat → Int32) => [(sw_0 h0 b0 b1), (sw_in cT b0 16 u.1), (sw_in cT b1 16 u.2), (sw_3 h1 p0 p1 p2 p3 p4 p5 p6 p7 p8 p9 (a 0) (a 1) (a 2) (a 3) (a 4) (a 5)), (sw_in cT (a 2) 16 f2)]) u) t) (va_A [(sw_0 h0 b0 b1), (sw_in cT b0 16 c0), (sw_in cT b1 16 c1), (sw_3 h1 p0 p1 p2 p3 p4 p5 p6 p7 p8 p9 (a 0) (a 1) (a 2) (a 3) (a 4) (a 5)), (sw_in cT (a 2) 16 f2)] sz)) 0 0 (va_A [(sw_0 h0 b0 b1), (sw_in cT b0 16 c0), (sw_in cT b1 16 c1), (sw_3 h1 p0 p1 p2 p3 p4 p5 p6 p7 p8 p9 (a 0) (a 1) (a 2) (a 3) (a 4) (a 5)), (sw_in cT (a 2) 16 f2)] sz) := by
  refine m_of (y := yX0_fewest) (cc := cX0_fewest) (nL := 5) (ret := (some .int)) (D := D) (cT := cT) (av := [.ref h0, .ref h1, .int x]) (wi := [(sw_0 h0 b0 b1), (sw_in cT b0 16 c0), (sw_in cT b1 16 c1), (sw_3 h1 p0 p1 p2 p3 p4 p5 p6 p7 p8 p9 (a 0) (a 1) (a 2) (a 3) (a 4) (a 5)), (sw_in cT (a 2) 16 f2)]) (fun A => va_Qi (fun (r : Int32) (u : (Nat → Int32) × (Nat → Int32)) => True) (fun u t => RW D A ((fun u : (Nat → Int32) × (Nat → Int32) => [(sw_0 h0 b0 b1), (sw_in cT b0 16 u.1), (sw_in cT b1 16 u.2), (sw_3 h1 p0 p1 p2 p3 p4 p5 p6 p7 p8 p9 (a 0) (a 1) (a 2) (a 3) (a 4) (a 5)), (sw_in cT (a 2) 16 f2)]) u) t) A) (by decide) (Nat.le_of_ble_eq_true rfl) ?_
  intro p e s m below meth c A hx hb hml hown htg hK hN hr hlk hnm hsz hP hD hS hA ls hl
  have hown : s.vm.findClass RX0 = some m.cls := hown
  have hl : lv_has ls 5 [(0, .ref h0), (1, .ref h1), (2, .int x)] := hl
  refine lv_aload_n hx hb dX0_fewest_0 rfl (lv_at hl 0 rfl) ?_
  refine lv_aload_n hx hb dX0_fewest_1 rfl (lv_at hl 1 rfl) ?_
  refine xk_v (wr := []) (xr_V (n := 1) (As := [.ref h1]) (rest := []) ⟨hx, hb, hml, hown, htg⟩ hK hN hP hD hS hA [0, 1, 2, 3, 4] rfl (by decide) (g_look l D cT _ (h0) (b0) (b1) (c0) (c1) (h1) (a) (p0) (p1) (p2) (p3) (p4) (p5) (p6) (p7) (p8) (p9) (by first | assumption | decide | omega | (simp only [ti_0, ti_1, ti_2, ti_3, ti_4, ti_5, ti_6, ti_7, ti_8, ti_9, ti_10, ti_11, ti_12, ti_m1]; omega)) (f2)) wi_1016 wi_1018 wi_66 wi_129 wi_1019 rfl rfl rfl ⟨rfl, by decide +kernel⟩ ⟨Nat.le_of_ble_eq_true rfl, Nat.le_of_ble_eq_true rfl⟩ rfl hl.1 rfl (Nat.le_of_ble_eq_true rfl) dX0_fewest_2 ⟨Nat.le_of_ble_eq_true rfl, Nat.le_of_ble_eq_true rfl⟩) hP hD hS hA [0, 1, 2, 3, 4] [] rfl rfl (by decide) (by decide) (fun u_1 H locs hwr_2 hP hD hS => ?_)
  obtain ⟨hP, hD⟩ : PD D A [(sw_0 h0 b0 b1), (sw_in cT b0 16 u_1.1), (sw_in cT b1 16 u_1.2), (sw_3 h1 p0 p1 p2 p3 p4 p5 p6 p7 p8 p9 (a 0) (a 1) (a 2) (a 3) (a 4) (a 5)), (sw_in cT (a 2) 16 f2)] _ := ⟨hP, hD⟩
  refine lv_aload_n hx hb dX0_fewest_5 rfl (lv_at hl 1 rfl) ?_
  refine xk_i (wr := [(sw_0 h0 b0 b1), (sw_in cT b0 16 u_1.1), (sw_in cT b1 16 u_1.2), (sw_in cT (a 2) 16 f2)]) (xr_VN (n := 0) (As := []) (rest := []) ⟨hx, hb, hml, hown, htg⟩ hK hN hP hD hS hA [3] rfl (by decide) (g_allStrips l D cT _ (h1) (a) (p0) (p1) (p2) (p3) (p4) (p5) (p6) (p7) (p8) (p9)) ni_1022 wi_739 wi_28 wi_123 wi_740 rfl rfl rfl ⟨rfl, by decide +kernel⟩ ⟨Nat.le_of_ble_eq_true rfl, Nat.le_of_ble_eq_true rfl⟩ rfl hl.1 rfl (Nat.le_of_ble_eq_true rfl) dX0_fewest_6 ⟨Nat.le_of_ble_eq_true rfl, Nat.le_of_ble_eq_true rfl⟩) hP hD hS hA [3] [0, 1, 2, 4] rfl rfl (by decide) (by decide) (fun r_4 u_3 H locs hwr_4 hP hD hS => ?_)
  obtain ⟨hP, hD⟩ : PD D A [(sw_0 h0 b0 b1), (sw_in cT b0 16 u_1.1), (sw_in cT b1 16 u_1.2), (sw_in cT (a 2) 16 f2), (sw_3 h1 p0 p1 p2 p3 p4 p5 p6 p7 p8 p9 (a 0) (a 1) (a 2) (a 3) (a 4) (a 5))] _ := ⟨hP, hD⟩
  refine lv_istore_n (lv' := [(3, .int r_4), (0, .ref h0), (1, .ref h1), (2, .int x)]) hx hb dX0_fewest_9 rfl hl (by decide) rfl (fun ls hl => ?_)
  refine lv_iconst (v := 0) hx hb dX0_fewest_10 (by decide) ?_
  refine lv_istore (lv' := [(4, .int 0), (3, .int r_4), (0, .ref h0), (1, .ref h1), (2, .int x)]) hx hb dX0_fewest_11 hl (by decide) rfl (fun ls hl => ?_)
  refine (fun (key : ∀ (n9_13 : Nat) (k9_13 : Nat)  (H : Heap) (locs : List Loc) (ls : Array Slot), (k9_13 : Int) ≤ p0.toInt + 1 → p0.toInt + 1 < (k9_13 : Int) + n9_13 → PD D A [(sw_0 h0 b0 b1), (sw_in cT b0 16 u_1.1), (sw_in cT b1 16 u_1.2), (sw_in cT (a 2) 16 f2), (sw_3 h1 p0 p1 p2 p3 p4 p5 p6 p7 p8 p9 (a 0) (a 1) (a 2) (a 3) (a 4) (a 5))] H → va_S A s.heap H locs → lv_has ls 5 [(4, .int (nI k9_13)), (3, .int r_4), (0, .ref h0), (1, .ref h1), (2, .int x)] → W p l e _ s m _ below meth c H locs _ _ _ (F0 m 13 ls [])) => key (Int.toNat (p0.toInt + 1 - 0) + 1) 0  _ _ _ (by omega) (by omega)  ⟨hP, hD⟩ hS (lv_sub hl [0, 1, 2, 3, 4] rfl)) ?_
  intro n9_13
  induction n9_13 with
  | zero => intro k9_13  H locs ls hq1 hq2; exact absurd hq2 (by omega)
  | succ n9_13 ih_13 =>
    intro k9_13  H locs ls hq1_13 hq2_13  hPD hS hl
    obtain ⟨hP, hD⟩ := hPD
    have hk9_13 : (nI k9_13).toInt = (k9_13 : Int) := nI_toInt (by omega)
    refine lv_iload hx hb dX0_fewest_13 (lv_at hl 0 rfl) ?_
    refine lv_aload_n hx hb dX0_fewest_15 rfl (lv_at hl 3 rfl) ?_
    refine va_getN (D := D) (ci := 3) (v := .int p0) (C := RX3) (T := TX3) (N := 16) hx hb htg gRX3 hown hK hP 4 rfl rfl 0 (by decide) (va_Nw.use rfl (hN.1 _ ni_168)) (fun _ h9 => h9) rfl dX0_fewest_16 ?_
    refine lv_icmp_gt (tgt := 46) hx hb dX0_fewest_19 (by decide) (fun c_5 => ?_) (fun c_5 => ?_)
    · have ic_5 : p0.toInt < ((k9_13 : Nat) : Int) := ilt c_5 (rfl) (nI_toInt (by omega))
      refine lv_iload hx hb dX0_fewest_46 (lv_at hl 0 rfl) ?_
      refine lv_aload_n hx hb dX0_fewest_48 rfl (lv_at hl 3 rfl) ?_
      refine va_getN (D := D) (ci := 3) (v := .int p0) (C := RX3) (T := TX3) (N := 16) hx hb htg gRX3 hown hK hP 4 rfl rfl 0 (by decide) (va_Nw.use rfl (hN.1 _ ni_168)) (fun _ h9 => h9) rfl dX0_fewest_49 ?_
      refine lv_icmp_le (tgt := 57) hx hb dX0_fewest_52 (by decide) (fun c_6 => ?_) (fun c_6 => ?_)
      · have ic_6 : ((k9_13 : Nat) : Int) ≤ p0.toInt := ile c_6 (nI_toInt (by omega)) (rfl)
        refine lv_aload_n hx hb dX0_fewest_57 rfl (lv_at hl 2 rfl) ?_
        refine lv_aload_n hx hb dX0_fewest_58 rfl (lv_at hl 3 rfl) ?_
        refine va_getN (D := D) (ci := 3) (v := .int p0) (C := RX3) (T := TX3) (N := 16) hx hb htg gRX3 hown hK hP 4 rfl rfl 0 (by decide) (va_Nw.use rfl (hN.1 _ ni_168)) (fun _ h9 => h9) rfl dX0_fewest_59 ?_
        refine lv_iload_n hx hb dX0_fewest_62 rfl (lv_at hl 4 rfl) ?_
        refine lv_iload hx hb dX0_fewest_63 (lv_at hl 0 rfl) ?_
        refine xk_i (wr := [(sw_in cT (a 2) 16 f2), (sw_3 h1 p0 p1 p2 p3 p4 p5 p6 p7 p8 p9 (a 0) (a 1) (a 2) (a 3) (a 4) (a 5))]) (xr_V (n := 3) (As := [.int p0, .int x, .int (nI k9_13)]) (rest := []) ⟨hx, hb, hml, hown, htg⟩ hK hN hP hD hS hA [0, 1, 2] rfl (by decide) (g_leastBits l D cT _ (h0) (b0) (b1) (u_1.1) (u_1.2) (p0) (x) ((nI k9_13)) (by first | assumption | decide | omega | (simp only [ti_0, ti_1, ti_2, ti_3, ti_4, ti_5, ti_6, ti_7, ti_8, ti_9, ti_10, ti_11, ti_12, ti_m1]; omega)) (by first | assumption | decide | omega | (simp only [ti_0, ti_1, ti_2, ti_3, ti_4, ti_5, ti_6, ti_7, ti_8, ti_9, ti_10, ti_11, ti_12, ti_m1]; omega))) wi_1030 wi_1032 wi_67 wi_129 wi_1033 rfl rfl rfl ⟨rfl, by decide +kernel⟩ ⟨Nat.le_of_ble_eq_true rfl, Nat.le_of_ble_eq_true rfl⟩ rfl hl.1 rfl (Nat.le_of_ble_eq_true rfl) dX0_fewest_65 ⟨Nat.le_of_ble_eq_true rfl, Nat.le_of_ble_eq_true rfl⟩) hP hD hS hA [0, 1, 2] [3, 4] rfl rfl (by decide) (by decide) (fun r_8 u_7 H locs hwr_8 hP hD hS => ?_)
        obtain ⟨hP, hD⟩ : PD D A [(sw_in cT (a 2) 16 f2), (sw_3 h1 p0 p1 p2 p3 p4 p5 p6 p7 p8 p9 (a 0) (a 1) (a 2) (a 3) (a 4) (a 5)), (sw_0 h0 b0 b1), (sw_in cT b0 16 u_1.1), (sw_in cT b1 16 u_1.2)] _ := ⟨hP, hD⟩
        exact x_iret hx hb hr hlk hP hD hS [2, 3, 4, 1, 0] ((u_1.1, u_1.2)) rfl (by decide) trivial (by decide) (by decide) dX0_fewest_68
      · have ic_6 : p0.toInt < ((k9_13 : Nat) : Int) := inle c_6 (nI_toInt (by omega)) (rfl)
        refine lv_iconst (v := (-1)) hx hb dX0_fewest_55 (by decide) ?_
        exact x_iret hx hb hr hlk hP hD hS [0, 1, 2, 4, 3] ((u_1.1, u_1.2)) rfl (by decide) trivial (by decide) (by decide) dX0_fewest_56
    · have ic_5 : ((k9_13 : Nat) : Int) ≤ p0.toInt := inlt c_5 (rfl) (nI_toInt (by omega))
      refine lv_aload_n hx hb dX0_fewest_22 rfl (lv_at hl 2 rfl) ?_
      refine va_get (D := D) (ci := 0) (v := .ref b0) (C := RX0) (T := TX0) (N := 2) hx hb htg gRX0 hown hK hP 0 rfl rfl 0 (by decide) (htg _ wi_439) (fun _ h9 => h9) rfl dX0_fewest_23 ?_
      refine lv_aload_n hx hb dX0_fewest_26 rfl (lv_at hl 2 rfl) ?_
      refine va_get (D := D) (ci := 0) (v := .ref b1) (C := RX0) (T := TX0) (N := 2) hx hb htg gRX0 hown hK hP 0 rfl rfl 1 (by decide) (htg _ wi_440) (fun _ h9 => h9) rfl dX0_fewest_27 ?_
      refine lv_iload_n hx hb dX0_fewest_30 rfl (lv_at hl 4 rfl) ?_
      refine lv_iload_n hx hb dX0_fewest_31 rfl (lv_at hl 1 rfl) ?_
      refine lv_iload hx hb dX0_fewest_32 (lv_at hl 0 rfl) ?_
      refine xk_i (wr := [(sw_0 h0 b0 b1), (sw_in cT (a 2) 16 f2), (sw_3 h1 p0 p1 p2 p3 p4 p5 p6 p7 p8 p9 (a 0) (a 1) (a 2) (a 3) (a 4) (a 5))]) (xr_S (n := 5) (As := [.ref b0, .ref b1, .int x, .int r_4, .int (nI k9_13)]) (rest := []) ⟨hx, hb, hml, hown, htg⟩ hK hN hP hD hS hA [1, 2] rfl (by decide) (g_canLight_16 l D cT _ (b0) (b1) (u_1.1) (u_1.2) (x) (r_4) ((nI k9_13)) (by first | assumption | decide | omega | (simp only [ti_0, ti_1, ti_2, ti_3, ti_4, ti_5, ti_6, ti_7, ti_8, ti_9, ti_10, ti_11, ti_12, ti_m1]; omega))) wi_1023 wi_1024 wi_129 wi_1025 ⟨rfl, by decide +kernel⟩ ⟨Nat.le_of_ble_eq_true rfl, Nat.le_of_ble_eq_true rfl⟩ rfl hl.1 rfl (Nat.le_of_ble_eq_true rfl) dX0_fewest_34 ⟨Nat.le_of_ble_eq_true rfl, Nat.le_of_ble_eq_true rfl⟩) hP hD hS hA [1, 2] [0, 3, 4] rfl rfl (by decide) (by decide) (fun r_10 u_9 H locs hwr_10 hP hD hS => ?_)
      obtain ⟨hP, hD⟩ : PD D A [(sw_0 h0 b0 b1), (sw_in cT (a 2) 16 f2), (sw_3 h1 p0 p1 p2 p3 p4 p5 p6 p7 p8 p9 (a 0) (a 1) (a 2) (a 3) (a 4) (a 5)), (sw_in cT b0 16 u_1.1), (sw_in cT b1 16 u_1.2)] _ := ⟨hP, hD⟩
      refine lv_if_ne (tgt := 46) hx hb dX0_fewest_37 (by decide) (fun c_11 => ?_) (fun c_11 => ?_)
      · have ic_11 : ¬ r_10.toInt = 0 := ine c_11 (rfl) (by decide)
        refine lv_iload hx hb dX0_fewest_46 (lv_at hl 0 rfl) ?_
        refine lv_aload_n hx hb dX0_fewest_48 rfl (lv_at hl 3 rfl) ?_
        refine va_getN (D := D) (ci := 3) (v := .int p0) (C := RX3) (T := TX3) (N := 16) hx hb htg gRX3 hown hK hP 2 rfl rfl 0 (by decide) (va_Nw.use rfl (hN.1 _ ni_168)) (fun _ h9 => h9) rfl dX0_fewest_49 ?_
        refine lv_icmp_le (tgt := 57) hx hb dX0_fewest_52 (by decide) (fun c_12 => ?_) (fun c_12 => ?_)
        · have ic_12 : ((k9_13 : Nat) : Int) ≤ p0.toInt := ile c_12 (nI_toInt (by omega)) (rfl)
          refine lv_aload_n hx hb dX0_fewest_57 rfl (lv_at hl 2 rfl) ?_
          refine lv_aload_n hx hb dX0_fewest_58 rfl (lv_at hl 3 rfl) ?_
          refine va_getN (D := D) (ci := 3) (v := .int p0) (C := RX3) (T := TX3) (N := 16) hx hb htg gRX3 hown hK hP 2 rfl rfl 0 (by decide) (va_Nw.use rfl (hN.1 _ ni_168)) (fun _ h9 => h9) rfl dX0_fewest_59 ?_
          refine lv_iload_n hx hb dX0_fewest_62 rfl (lv_at hl 4 rfl) ?_
          refine lv_iload hx hb dX0_fewest_63 (lv_at hl 0 rfl) ?_
          refine xk_i (wr := [(sw_in cT (a 2) 16 f2), (sw_3 h1 p0 p1 p2 p3 p4 p5 p6 p7 p8 p9 (a 0) (a 1) (a 2) (a 3) (a 4) (a 5))]) (xr_V (n := 3) (As := [.int p0, .int x, .int (nI k9_13)]) (rest := []) ⟨hx, hb, hml, hown, htg⟩ hK hN hP hD hS hA [0, 3, 4] rfl (by decide) (g_leastBits l D cT _ (h0) (b0) (b1) (u_1.1) (u_1.2) (p0) (x) ((nI k9_13)) (by first | assumption | decide | omega | (simp only [ti_0, ti_1, ti_2, ti_3, ti_4, ti_5, ti_6, ti_7, ti_8, ti_9, ti_10, ti_11, ti_12, ti_m1]; omega)) (by first | assumption | decide | omega | (simp only [ti_0, ti_1, ti_2, ti_3, ti_4, ti_5, ti_6, ti_7, ti_8, ti_9, ti_10, ti_11, ti_12, ti_m1]; omega))) wi_1030 wi_1032 wi_67 wi_129 wi_1033 rfl rfl rfl ⟨rfl, by decide +kernel⟩ ⟨Nat.le_of_ble_eq_true rfl, Nat.le_of_ble_eq_true rfl⟩ rfl hl.1 rfl (Nat.le_of_ble_eq_true rfl) dX0_fewest_65 ⟨Nat.le_of_ble_eq_true rfl, Nat.le_of_ble_eq_true rfl⟩) hP hD hS hA [0, 3, 4] [1, 2] rfl rfl (by decide) (by decide) (fun r_14 u_13 H locs hwr_14 hP hD hS => ?_)
          obtain ⟨hP, hD⟩ : PD D A [(sw_in cT (a 2) 16 f2), (sw_3 h1 p0 p1 p2 p3 p4 p5 p6 p7 p8 p9 (a 0) (a 1) (a 2) (a 3) (a 4) (a 5)), (sw_0 h0 b0 b1), (sw_in cT b0 16 u_1.1), (sw_in cT b1 16 u_1.2)] _ := ⟨hP, hD⟩
          exact x_iret hx hb hr hlk hP hD hS [2, 3, 4, 1, 0] ((u_1.1, u_1.2)) rfl (by decide) trivial (by decide) (by decide) dX0_fewest_68
        · have ic_12 : p0.toInt < ((k9_13 : Nat) : Int) := inle c_12 (nI_toInt (by omega)) (rfl)
          refine lv_iconst (v := (-1)) hx hb dX0_fewest_55 (by decide) ?_
          exact x_iret hx hb hr hlk hP hD hS [0, 3, 4, 2, 1] ((u_1.1, u_1.2)) rfl (by decide) trivial (by decide) (by decide) dX0_fewest_56
      · have ic_11 : r_10.toInt = 0 := ieq c_11 (rfl) (by decide)
        refine lv_iinc (v := (nI (k9_13 + 1))) (lv' := [(4, .int (nI (k9_13 + 1))), (3, .int r_4), (0, .ref h0), (1, .ref h1), (2, .int x)]) hx hb dX0_fewest_40 hl (k := 0) rfl (by exact nI_1 (k9_13)) (by decide) rfl (fun ls hl => ?_)
        refine lv_goto (tgt := 13) hx hb dX0_fewest_43 (by decide) ?_
        exact ih_13 (k9_13 + 1)  _ _ _ (by omega) (by omega)  ⟨hP.sub [0, 3, 4, 1, 2] rfl, hD.sub [0, 3, 4, 1, 2] (by decide) rfl⟩ hS (lv_sub hl [0, 1, 2, 3, 4] rfl)
set_option maxHeartbeats 4000000 in
set_option maxRecDepth 100000 in
theorem g_k_strip (l : Launch) (D : va_G) (cT : Nat → ClassId) (sz : Nat) (h0 : Nat) (q : Nat → Nat) (n1 : Int32) (hn1 : 0 ≤ n1.toInt ∧ n1.toInt ≤ 900) (p0 : Int32) (p1 : Int32) (p2 : Int32) (p3 : Int32) (p4 : Int32) (p5 : Int32) (p6 : Int32) (p7 : Int32) (p8 : Int32) (p9 : Int32) (hs : 0 ≤ p0.toInt ∧ p0.toInt ≤ 16) (hat : 0 ≤ p3.toInt ∧ p3.toInt ≤ 15) (x : Int32) (y : Int32) (f0 : Nat → Int32) (f1 : Nat → Int32) (f2 : Nat → Int32) (f3 : Nat → Int32) (f4 : Nat → Int32) : Met l yX8_strip (wsc yX8_strip cX8_strip 3 (some .int)) { frames := 4, cells := 0, slots := 0, locals := 148 } (va_Pc [.ref h0, .int x, .int y] (PX D cT sz [(sw_8 h0 q n1), (sw_3 (q 2) p0 p1 p2 p3 p4 p5 p6 p7 p8 p9 (q 12) (q 13) (q 14) (q 15) (q 16) (q 17)), (sw_in cT (q 12) 16 f0), (sw_in cT (q 13) 16 f1), (sw_in cT (q 14) 16 f2), (sw_in cT (q 15) 16 f3), (sw_in cT (q 16) 16 f4)])) (va_Qi (fun (r : Int32) (u : Unit) => True) (fun u t => RW D (va_A [(sw_8 h0 q n1), (sw_3 (q 2) p0 p1 p2 p3 p4 p5 p6 p7 p8 p9 (q 12) (q 13) (q 14) (q 15) (q 16) (q 17)), (sw_in cT (q 12) 16 f0), (sw_in cT (q 13) 16 f1), (sw_in cT (q 14) 16 f2), (sw_in cT (q 15) 16 f3), (sw_in cT (q 16) 16 f4)] sz) ((fun _ : Unit => [(sw_8 h0 q n1), (sw_3 (q 2) p0 p1 p2 p3 p4 p5 p6 p7 p8 p9 (q 12) (q 13) (q 14) (q 15) (q 16) (q 17)), (sw_in cT (q 12) 16 f0), (sw_in cT (q 13) 16 f1), (sw_in cT (q 14) 16 f2), (sw_in cT (q 15) 16 f3), (sw_in cT (q 16) 16 f4)]) u) t) (va_A [(sw_8 h0 q n1), (sw_3 (q 2) p0 p1 p2 p3 p4 p5 p6 p7 p8 p9 (q 12) (q 13) (q 14) (q 15) (q 16) (q 17)), (sw_in cT (q 12) 16 f0), (sw_in cT (q 13) 16 f1), (sw_in cT (q 14) 16 f2), (sw_in cT (q 15) 16 f3), (sw_in cT (q 16) 16 f4)] sz)) 0 0 (va_A [(sw_8 h0 q n1), (sw_3 (q 2) p0 p1 p2 p3 p4 p5 p6 p7 p8 p9 (q 12) (q 13) (q 14) (q 15) (q 16) (q 17)), (sw_in cT (q 12) 16 f0), (sw_in cT (q 13) 16 f1), (sw_in cT (q 14) 16 f2), (sw_in cT (q 15) 16 f3), (sw_in cT (q 16) 16 f4)] sz) := by
  refine m_of (y := yX8_strip) (cc := cX8_strip) (nL := 3) (ret := (some .int)) (D := D) (cT := cT) (av := [.ref h0, .int x, .int y]) (wi := [(sw_8 h0 q n1), (sw_3 (q 2) p0 p1 p2 p3 p4 p5 p6 p7 p8 p9 (q 12) (q 13) (q 14) (q 15) (q 16) (q 17)), (sw_in cT (q 12) 16 f0), (sw_in cT (q 13) 16 f1), (sw_in cT (q 14) 16 f2), (sw_in cT (q 15) 16 f3), (sw_in cT (q 16) 16 f4)]) (fun A => va_Qi (fun (r : Int32) (u : Unit) => True) (fun u t => RW D A ((fun _ : Unit => [(sw_8 h0 q n1), (sw_3 (q 2) p0 p1 p2 p3 p4 p5 p6 p7 p8 p9 (q 12) (q 13) (q 14) (q 15) (q 16) (q 17)), (sw_in cT (q 12) 16 f0), (sw_in cT (q 13) 16 f1), (sw_in cT (q 14) 16 f2), (sw_in cT (q 15) 16 f3), (sw_in cT (q 16) 16 f4)]) u) t) A) (by decide) (Nat.le_of_ble_eq_true rfl) ?_
  intro p e s m below meth c A hx hb hml hown htg hK hN hr hlk hnm hsz hP hD hS hA ls hl
  have hown : s.vm.findClass RX8 = some m.cls := hown
  have hl : lv_has ls 3 [(0, .ref h0), (1, .int x), (2, .int y)] := hl
  refine lv_aload_n hx hb dX8_strip_0 rfl (lv_at hl 0 rfl) ?_
  refine va_get (D := D) (ci := 8) (v := .ref (q 2)) (C := RX8) (T := TX8) (N := 13) hx hb htg gRX8 hown hK hP 0 rfl rfl 3 (by decide) (htg _ wi_470) (fun _ h9 => h9) rfl dX8_strip_1 ?_
  refine lv_iload_n hx hb dX8_strip_4 rfl (lv_at hl 1 rfl) ?_
  refine xk_i (wr := [(sw_8 h0 q n1), (sw_in cT (q 12) 16 f0), (sw_in cT (q 13) 16 f1), (sw_in cT (q 14) 16 f2), (sw_in cT (q 15) 16 f3), (sw_in cT (q 16) 16 f4)]) (xr_VN (n := 1) (As := [.int x]) (rest := []) ⟨hx, hb, hml, hown, htg⟩ hK hN hP hD hS hA [1] rfl (by decide) (g_hasStrip l D cT _ ((q 2)) (fun k => [(q 12), (q 13), (q 14), (q 15), (q 16), (q 17)].getD k 0) (p0) (p1) (p2) (p3) (p4) (p5) (p6) (p7) (p8) (p9) (x)) ni_666 wi_668 wi_18 wi_123 wi_669 rfl rfl rfl ⟨rfl, by decide +kernel⟩ ⟨Nat.le_of_ble_eq_true rfl, Nat.le_of_ble_eq_true rfl⟩ rfl hl.1 rfl (Nat.le_of_ble_eq_true rfl) dX8_strip_5 ⟨Nat.le_of_ble_eq_true rfl, Nat.le_of_ble_eq_true rfl⟩) hP hD hS hA [1] [0, 2, 3, 4, 5, 6] rfl rfl (by decide) (by decide) (fun r_2 u_1 H locs hwr_2 hP hD hS => ?_)
  obtain ⟨hP, hD⟩ : PD D A [(sw_8 h0 q n1), (sw_in cT (q 12) 16 f0), (sw_in cT (q 13) 16 f1), (sw_in cT (q 14) 16 f2), (sw_in cT (q 15) 16 f3), (sw_in cT (q 16) 16 f4), (sw_3 (q 2) p0 p1 p2 p3 p4 p5 p6 p7 p8 p9 (q 12) (q 13) (q 14) (q 15) (q 16) (q 17))] _ := ⟨hP, hD⟩
  have hwr_2 : r_2 = if 0 ≤ x.toInt ∧ x.toInt < p0.toInt then 1 else 0 := hwr_2
  refine lv_if_ne (tgt := 14) hx hb dX8_strip_8 (by decide) (fun c_3 => ?_) (fun c_3 => ?_)
  · have ic_3 := if1 hwr_2 c_3
    refine lv_iload_n hx hb dX8_strip_14 rfl (lv_at hl 2 rfl) ?_
    have c_4 : (y.toInt < 0 ∨ 5 < y.toInt) ∨ y = 0 ∨ y = 1 ∨ y = 2 ∨ y = 3 ∨ y = 4 ∨ y = 5 := by
      rcases (show (y.toInt < 0 ∨ 5 < y.toInt) ∨ y.toInt = 0 ∨ y.toInt = 1 ∨ y.toInt = 2 ∨ y.toInt = 3 ∨ y.toInt = 4 ∨ y.toInt = 5 from by omega) with h | h | h | h | h | h | h
      · exact Or.inl h
      · exact Or.inr (Or.inl (i32_is (h.trans (by decide))))
      · exact Or.inr (Or.inr (Or.inl (i32_is (h.trans (by decide)))))
      · exact Or.inr (Or.inr (Or.inr (Or.inl (i32_is (h.trans (by decide))))))
      · exact Or.inr (Or.inr (Or.inr (Or.inr (Or.inl (i32_is (h.trans (by decide)))))))
      · exact Or.inr (Or.inr (Or.inr (Or.inr (Or.inr (Or.inl (i32_is (h.trans (by decide))))))))
      · exact Or.inr (Or.inr (Or.inr (Or.inr (Or.inr (Or.inr (i32_is (h.trans (by decide))))))))
    rcases c_4 with c_4 | c_4 | c_4 | c_4 | c_4 | c_4 | c_4
    · refine lv_tableOut (tgt := 118) hx hb dX8_strip_15 c_4 (by decide) ?_
      refine lv_bipush (v := (-2)) hx hb dX8_strip_118 (by decide) ?_
      exact x_iret hx hb hr hlk hP hD hS [0, 6, 1, 2, 3, 4, 5] (()) rfl (by decide) trivial (by decide) (by decide) dX8_strip_120
    · have ic_4 : y.toInt = 0 := ieq c_4 rfl (by decide)
      refine lv_is (y := 0) c_4 ?_
      refine lv_tableIn (off := 37) (tgt := 52) hx hb dX8_strip_15 (by decide) (by decide) (by decide) (by decide) ?_
      refine lv_aload_n hx hb dX8_strip_52 rfl (lv_at hl 0 rfl) ?_
      refine va_get (D := D) (ci := 8) (v := .ref (q 2)) (C := RX8) (T := TX8) (N := 13) hx hb htg gRX8 hown hK hP 0 rfl rfl 3 (by decide) (htg _ wi_470) (fun _ h9 => h9) rfl dX8_strip_53 ?_
      refine va_getN (D := D) (ci := 3) (v := .ref (q 12)) (C := RX3) (T := TX3) (N := 16) hx hb htg gRX3 hown hK hP 6 rfl rfl 10 (by decide) (va_Nw.use rfl (hN.1 _ ni_202)) (fun _ h9 => h9) rfl dX8_strip_56 ?_
      refine lv_iload_n hx hb dX8_strip_59 rfl (lv_at hl 1 rfl) ?_
      refine va_iald hx hb hK hP 1 0 rfl rfl (vp_in_iff.mpr (by omega)) dX8_strip_60 ?_
      refine lv_topi (fun z_5 ez_5 => ?_)
      exact x_iret hx hb hr hlk hP hD hS [0, 6, 1, 2, 3, 4, 5] (()) rfl (by decide) trivial (by decide) (by decide) dX8_strip_61
    · have ic_4 : y.toInt = 1 := ieq c_4 rfl (by decide)
      refine lv_is (y := 1) c_4 ?_
      refine lv_tableIn (off := 47) (tgt := 62) hx hb dX8_strip_15 (by decide) (by decide) (by decide) (by decide) ?_
      refine lv_aload_n hx hb dX8_strip_62 rfl (lv_at hl 0 rfl) ?_
      refine va_get (D := D) (ci := 8) (v := .ref (q 2)) (C := RX8) (T := TX8) (N := 13) hx hb htg gRX8 hown hK hP 0 rfl rfl 3 (by decide) (htg _ wi_470) (fun _ h9 => h9) rfl dX8_strip_63 ?_
      refine va_getN (D := D) (ci := 3) (v := .ref (q 13)) (C := RX3) (T := TX3) (N := 16) hx hb htg gRX3 hown hK hP 6 rfl rfl 11 (by decide) (va_Nw.use rfl (hN.1 _ ni_205)) (fun _ h9 => h9) rfl dX8_strip_66 ?_
      refine lv_iload_n hx hb dX8_strip_69 rfl (lv_at hl 1 rfl) ?_
      refine va_iald hx hb hK hP 2 0 rfl rfl (vp_in_iff.mpr (by omega)) dX8_strip_70 ?_
      refine lv_topi (fun z_6 ez_6 => ?_)
      exact x_iret hx hb hr hlk hP hD hS [0, 6, 1, 2, 3, 4, 5] (()) rfl (by decide) trivial (by decide) (by decide) dX8_strip_71
    · have ic_4 : y.toInt = 2 := ieq c_4 rfl (by decide)
      refine lv_is (y := 2) c_4 ?_
      refine lv_tableIn (off := 57) (tgt := 72) hx hb dX8_strip_15 (by decide) (by decide) (by decide) (by decide) ?_
      refine lv_aload_n hx hb dX8_strip_72 rfl (lv_at hl 0 rfl) ?_
      refine va_get (D := D) (ci := 8) (v := .ref (q 2)) (C := RX8) (T := TX8) (N := 13) hx hb htg gRX8 hown hK hP 0 rfl rfl 3 (by decide) (htg _ wi_470) (fun _ h9 => h9) rfl dX8_strip_73 ?_
      refine va_getN (D := D) (ci := 3) (v := .ref (q 14)) (C := RX3) (T := TX3) (N := 16) hx hb htg gRX3 hown hK hP 6 rfl rfl 12 (by decide) (va_Nw.use rfl (hN.1 _ ni_207)) (fun _ h9 => h9) rfl dX8_strip_76 ?_
      refine lv_iload_n hx hb dX8_strip_79 rfl (lv_at hl 1 rfl) ?_
      refine va_iald hx hb hK hP 3 0 rfl rfl (vp_in_iff.mpr (by omega)) dX8_strip_80 ?_
      refine lv_topi (fun z_7 ez_7 => ?_)
      exact x_iret hx hb hr hlk hP hD hS [0, 6, 1, 2, 3, 4, 5] (()) rfl (by decide) trivial (by decide) (by decide) dX8_strip_81
    · have ic_4 : y.toInt = 3 := ieq c_4 rfl (by decide)
      refine lv_is (y := 3) c_4 ?_
      refine lv_tableIn (off := 67) (tgt := 82) hx hb dX8_strip_15 (by decide) (by decide) (by decide) (by decide) ?_
      refine lv_aload_n hx hb dX8_strip_82 rfl (lv_at hl 0 rfl) ?_
      refine va_get (D := D) (ci := 8) (v := .ref (q 2)) (C := RX8) (T := TX8) (N := 13) hx hb htg gRX8 hown hK hP 0 rfl rfl 3 (by decide) (htg _ wi_470) (fun _ h9 => h9) rfl dX8_strip_83 ?_
      refine va_getN (D := D) (ci := 3) (v := .ref (q 15)) (C := RX3) (T := TX3) (N := 16) hx hb htg gRX3 hown hK hP 6 rfl rfl 13 (by decide) (va_Nw.use rfl (hN.1 _ ni_210)) (fun _ h9 => h9) rfl dX8_strip_86 ?_
      refine lv_iload_n hx hb dX8_strip_89 rfl (lv_at hl 1 rfl) ?_
      refine va_iald hx hb hK hP 4 0 rfl rfl (vp_in_iff.mpr (by omega)) dX8_strip_90 ?_
      refine lv_topi (fun z_8 ez_8 => ?_)
      exact x_iret hx hb hr hlk hP hD hS [0, 6, 1, 2, 3, 4, 5] (()) rfl (by decide) trivial (by decide) (by decide) dX8_strip_91
    · have ic_4 : y.toInt = 4 := ieq c_4 rfl (by decide)
      refine lv_is (y := 4) c_4 ?_
      refine lv_tableIn (off := 77) (tgt := 92) hx hb dX8_strip_15 (by decide) (by decide) (by decide) (by decide) ?_
      refine lv_aload_n hx hb dX8_strip_92 rfl (lv_at hl 0 rfl) ?_
      refine va_get (D := D) (ci := 8) (v := .ref (q 2)) (C := RX8) (T := TX8) (N := 13) hx hb htg gRX8 hown hK hP 0 rfl rfl 3 (by decide) (htg _ wi_470) (fun _ h9 => h9) rfl dX8_strip_93 ?_
      refine va_getN (D := D) (ci := 3) (v := .ref (q 16)) (C := RX3) (T := TX3) (N := 16) hx hb htg gRX3 hown hK hP 6 rfl rfl 14 (by decide) (va_Nw.use rfl (hN.1 _ ni_212)) (fun _ h9 => h9) rfl dX8_strip_96 ?_
      refine lv_iload_n hx hb dX8_strip_99 rfl (lv_at hl 1 rfl) ?_
      refine va_iald hx hb hK hP 5 0 rfl rfl (vp_in_iff.mpr (by omega)) dX8_strip_100 ?_
      refine lv_topi (fun z_9 ez_9 => ?_)
      exact x_iret hx hb hr hlk hP hD hS [0, 6, 1, 2, 3, 4, 5] (()) rfl (by decide) trivial (by decide) (by decide) dX8_strip_101
    · have ic_4 : y.toInt = 5 := ieq c_4 rfl (by decide)
      refine lv_is (y := 5) c_4 ?_
      refine lv_tableIn (off := 87) (tgt := 102) hx hb dX8_strip_15 (by decide) (by decide) (by decide) (by decide) ?_
      refine lv_aload_n hx hb dX8_strip_102 rfl (lv_at hl 0 rfl) ?_
      refine va_get (D := D) (ci := 8) (v := .ref (q 2)) (C := RX8) (T := TX8) (N := 13) hx hb htg gRX8 hown hK hP 0 rfl rfl 3 (by decide) (htg _ wi_470) (fun _ h9 => h9) rfl dX8_strip_103 ?_
      refine lv_aload_n hx hb dX8_strip_106 rfl (lv_at hl 0 rfl) ?_
      refine va_get (D := D) (ci := 8) (v := .ref (q 2)) (C := RX8) (T := TX8) (N := 13) hx hb htg gRX8 hown hK hP 0 rfl rfl 3 (by decide) (htg _ wi_470) (fun _ h9 => h9) rfl dX8_strip_107 ?_
      refine va_getN (D := D) (ci := 3) (v := .int p3) (C := RX3) (T := TX3) (N := 16) hx hb htg gRX3 hown hK hP 6 rfl rfl 3 (by decide) (va_Nw.use rfl (hN.1 _ ni_180)) (fun _ h9 => h9) rfl dX8_strip_110 ?_
      refine lv_iload_n hx hb dX8_strip_113 rfl (lv_at hl 1 rfl) ?_
      refine xk_i (wr := [(sw_8 h0 q n1), (sw_in cT (q 12) 16 f0), (sw_in cT (q 13) 16 f1), (sw_in cT (q 15) 16 f3), (sw_in cT (q 16) 16 f4)]) (xr_VN (n := 2) (As := [.int p3, .int x]) (rest := []) ⟨hx, hb, hml, hown, htg⟩ hK hN hP hD hS hA [6, 3] rfl (by decide) (g_lightOf l D cT _ ((q 2)) (fun k => [(q 12), (q 13), (q 14), (q 15), (q 16), (q 17)].getD k 0) (p0) (p1) (p2) (p3) (p4) (p5) (p6) (p7) (p8) (p9) (p3) (x) (by first | assumption | decide | omega | (simp only [ti_0, ti_1, ti_2, ti_3, ti_4, ti_5, ti_6, ti_7, ti_8, ti_9, ti_10, ti_11, ti_12, ti_m1]; omega)) (by first | assumption | decide | omega | (simp only [ti_0, ti_1, ti_2, ti_3, ti_4, ti_5, ti_6, ti_7, ti_8, ti_9, ti_10, ti_11, ti_12, ti_m1]; omega)) (f2)) ni_670 wi_672 wi_19 wi_123 wi_673 rfl rfl rfl ⟨rfl, by decide +kernel⟩ ⟨Nat.le_of_ble_eq_true rfl, Nat.le_of_ble_eq_true rfl⟩ rfl hl.1 rfl (Nat.le_of_ble_eq_true rfl) dX8_strip_114 ⟨Nat.le_of_ble_eq_true rfl, Nat.le_of_ble_eq_true rfl⟩) hP hD hS hA [6, 3] [0, 1, 2, 4, 5] rfl rfl (by decide) (by decide) (fun r_11 u_10 H locs hwr_11 hP hD hS => ?_)
      obtain ⟨hP, hD⟩ : PD D A [(sw_8 h0 q n1), (sw_in cT (q 12) 16 f0), (sw_in cT (q 13) 16 f1), (sw_in cT (q 15) 16 f3), (sw_in cT (q 16) 16 f4), (sw_3 (q 2) p0 p1 p2 p3 p4 p5 p6 p7 p8 p9 (q 12) (q 13) (q 14) (q 15) (q 16) (q 17)), (sw_in cT (q 14) 16 f2)] _ := ⟨hP, hD⟩
      exact x_iret hx hb hr hlk hP hD hS [0, 5, 1, 2, 6, 3, 4] (()) rfl (by decide) trivial (by decide) (by decide) dX8_strip_117
  · have ic_3 := if0 hwr_2 c_3
    refine lv_bipush (v := (-2)) hx hb dX8_strip_11 (by decide) ?_
    exact x_iret hx hb hr hlk hP hD hS [0, 6, 1, 2, 3, 4, 5] (()) rfl (by decide) trivial (by decide) (by decide) dX8_strip_13
set_option maxHeartbeats 4000000 in
set_option maxRecDepth 100000 in
theorem g_k_farm (l : Launch) (D : va_G) (cT : Nat → ClassId) (sz : Nat) (h0 : Nat) (q : Nat → Nat) (n1 : Int32) (hn1 : 0 ≤ n1.toInt ∧ n1.toInt ≤ 900) (p0 : Int32) (p1 : Int32) (p2 : Int32) (p3 : Int32) (p4 : Int32) (p5 : Int32) (p6 : Int32) (p7 : Int32) (p8 : Int32) (p9 : Int32) (hs : 0 ≤ p0.toInt ∧ p0.toInt ≤ 16) (hat : 0 ≤ p3.toInt ∧ p3.toInt ≤ 15) (x : Int32) (y : Int32) (f0 : Nat → Int32) (f3 : Nat → Int32) (f4 : Nat → Int32) (f5 : Nat → Int32) : Met l yX8_farm (wsc yX8_farm cX8_farm 3 (some .int)) { frames := 3, cells := 0, slots := 0, locals := 124 } (va_Pc [.ref h0, .int x, .int y] (PX D cT sz [(sw_8 h0 q n1), (sw_3 (q 2) p0 p1 p2 p3 p4 p5 p6 p7 p8 p9 (q 12) (q 13) (q 14) (q 15) (q 16) (q 17)), (sw_in cT (q 12) 16 f0), (sw_in cT (q 15) 16 f3), (sw_in cT (q 16) 16 f4), (sw_in cT (q 17) 6 f5)])) (va_Qi (fun (r : Int32) (u : Unit) => True) (fun u t => RW D (va_A [(sw_8 h0 q n1), (sw_3 (q 2) p0 p1 p2 p3 p4 p5 p6 p7 p8 p9 (q 12) (q 13) (q 14) (q 15) (q 16) (q 17)), (sw_in cT (q 12) 16 f0), (sw_in cT (q 15) 16 f3), (sw_in cT (q 16) 16 f4), (sw_in cT (q 17) 6 f5)] sz) ((fun _ : Unit => [(sw_8 h0 q n1), (sw_3 (q 2) p0 p1 p2 p3 p4 p5 p6 p7 p8 p9 (q 12) (q 13) (q 14) (q 15) (q 16) (q 17)), (sw_in cT (q 12) 16 f0), (sw_in cT (q 15) 16 f3), (sw_in cT (q 16) 16 f4), (sw_in cT (q 17) 6 f5)]) u) t) (va_A [(sw_8 h0 q n1), (sw_3 (q 2) p0 p1 p2 p3 p4 p5 p6 p7 p8 p9 (q 12) (q 13) (q 14) (q 15) (q 16) (q 17)), (sw_in cT (q 12) 16 f0), (sw_in cT (q 15) 16 f3), (sw_in cT (q 16) 16 f4), (sw_in cT (q 17) 6 f5)] sz)) 0 0 (va_A [(sw_8 h0 q n1), (sw_3 (q 2) p0 p1 p2 p3 p4 p5 p6 p7 p8 p9 (q 12) (q 13) (q 14) (q 15) (q 16) (q 17)), (sw_in cT (q 12) 16 f0), (sw_in cT (q 15) 16 f3), (sw_in cT (q 16) 16 f4), (sw_in cT (q 17) 6 f5)] sz) := by
  refine m_of (y := yX8_farm) (cc := cX8_farm) (nL := 3) (ret := (some .int)) (D := D) (cT := cT) (av := [.ref h0, .int x, .int y]) (wi := [(sw_8 h0 q n1), (sw_3 (q 2) p0 p1 p2 p3 p4 p5 p6 p7 p8 p9 (q 12) (q 13) (q 14) (q 15) (q 16) (q 17)), (sw_in cT (q 12) 16 f0), (sw_in cT (q 15) 16 f3), (sw_in cT (q 16) 16 f4), (sw_in cT (q 17) 6 f5)]) (fun A => va_Qi (fun (r : Int32) (u : Unit) => True) (fun u t => RW D A ((fun _ : Unit => [(sw_8 h0 q n1), (sw_3 (q 2) p0 p1 p2 p3 p4 p5 p6 p7 p8 p9 (q 12) (q 13) (q 14) (q 15) (q 16) (q 17)), (sw_in cT (q 12) 16 f0), (sw_in cT (q 15) 16 f3), (sw_in cT (q 16) 16 f4), (sw_in cT (q 17) 6 f5)]) u) t) A) (by decide) (Nat.le_of_ble_eq_true rfl) ?_
  intro p e s m below meth c A hx hb hml hown htg hK hN hr hlk hnm hsz hP hD hS hA ls hl
  have hown : s.vm.findClass RX8 = some m.cls := hown
  have hl : lv_has ls 3 [(0, .ref h0), (1, .int x), (2, .int y)] := hl
  refine lv_iload_n hx hb dX8_farm_0 rfl (lv_at hl 1 rfl) ?_
  refine xk_i (wr := [(sw_8 h0 q n1), (sw_3 (q 2) p0 p1 p2 p3 p4 p5 p6 p7 p8 p9 (q 12) (q 13) (q 14) (q 15) (q 16) (q 17)), (sw_in cT (q 12) 16 f0), (sw_in cT (q 15) 16 f3), (sw_in cT (q 16) 16 f4), (sw_in cT (q 17) 6 f5)]) (xr_S (n := 1) (As := [.int x]) (rest := []) ⟨hx, hb, hml, hown, htg⟩ hK hN hP hD hS hA [] rfl (by decide) (g_isFarm l D cT _ (x)) wi_691 wi_645 wi_121 wi_646 ⟨rfl, by decide +kernel⟩ ⟨Nat.le_of_ble_eq_true rfl, Nat.le_of_ble_eq_true rfl⟩ rfl hl.1 rfl (Nat.le_of_ble_eq_true rfl) dX8_farm_1 ⟨Nat.le_of_ble_eq_true rfl, Nat.le_of_ble_eq_true rfl⟩) hP hD hS hA [] [0, 1, 2, 3, 4, 5] rfl rfl (by decide) (by decide) (fun r_2 u_1 H locs hwr_2 hP hD hS => ?_)
  obtain ⟨hP, hD⟩ : PD D A [(sw_8 h0 q n1), (sw_3 (q 2) p0 p1 p2 p3 p4 p5 p6 p7 p8 p9 (q 12) (q 13) (q 14) (q 15) (q 16) (q 17)), (sw_in cT (q 12) 16 f0), (sw_in cT (q 15) 16 f3), (sw_in cT (q 16) 16 f4), (sw_in cT (q 17) 6 f5)] _ := ⟨hP, hD⟩
  have hwr_2 : r_2 = if 0 ≤ x.toInt ∧ x.toInt < 6 then 1 else 0 := hwr_2
  refine lv_if_ne (tgt := 10) hx hb dX8_farm_4 (by decide) (fun c_3 => ?_) (fun c_3 => ?_)
  · have ic_3 := if1 hwr_2 c_3
    refine lv_iload_n hx hb dX8_farm_10 rfl (lv_at hl 2 rfl) ?_
    have c_4 : (y.toInt < 0 ∨ 3 < y.toInt) ∨ y = 0 ∨ y = 1 ∨ y = 2 ∨ y = 3 := by
      rcases (show (y.toInt < 0 ∨ 3 < y.toInt) ∨ y.toInt = 0 ∨ y.toInt = 1 ∨ y.toInt = 2 ∨ y.toInt = 3 from by omega) with h | h | h | h | h
      · exact Or.inl h
      · exact Or.inr (Or.inl (i32_is (h.trans (by decide))))
      · exact Or.inr (Or.inr (Or.inl (i32_is (h.trans (by decide)))))
      · exact Or.inr (Or.inr (Or.inr (Or.inl (i32_is (h.trans (by decide))))))
      · exact Or.inr (Or.inr (Or.inr (Or.inr (i32_is (h.trans (by decide))))))
    rcases c_4 with c_4 | c_4 | c_4 | c_4 | c_4
    · refine lv_tableOut (tgt := 91) hx hb dX8_farm_11 c_4 (by decide) ?_
      refine lv_bipush (v := (-2)) hx hb dX8_farm_91 (by decide) ?_
      exact x_iret hx hb hr hlk hP hD hS [0, 1, 2, 3, 4, 5] (()) rfl (by decide) trivial (by decide) (by decide) dX8_farm_93
    · have ic_4 : y.toInt = 0 := ieq c_4 rfl (by decide)
      refine lv_is (y := 0) c_4 ?_
      refine lv_tableIn (off := 29) (tgt := 40) hx hb dX8_farm_11 (by decide) (by decide) (by decide) (by decide) ?_
      refine lv_aload_n hx hb dX8_farm_40 rfl (lv_at hl 0 rfl) ?_
      refine va_get (D := D) (ci := 8) (v := .ref (q 2)) (C := RX8) (T := TX8) (N := 13) hx hb htg gRX8 hown hK hP 0 rfl rfl 3 (by decide) (htg _ wi_470) (fun _ h9 => h9) rfl dX8_farm_41 ?_
      refine lv_aload_n hx hb dX8_farm_44 rfl (lv_at hl 0 rfl) ?_
      refine va_get (D := D) (ci := 8) (v := .ref (q 2)) (C := RX8) (T := TX8) (N := 13) hx hb htg gRX8 hown hK hP 0 rfl rfl 3 (by decide) (htg _ wi_470) (fun _ h9 => h9) rfl dX8_farm_45 ?_
      refine va_getN (D := D) (ci := 3) (v := .ref (q 16)) (C := RX3) (T := TX3) (N := 16) hx hb htg gRX3 hown hK hP 1 rfl rfl 14 (by decide) (va_Nw.use rfl (hN.1 _ ni_212)) (fun _ h9 => h9) rfl dX8_farm_48 ?_
      refine lv_iload_n hx hb dX8_farm_51 rfl (lv_at hl 1 rfl) ?_
      refine xk_i (wr := [(sw_8 h0 q n1), (sw_in cT (q 12) 16 f0), (sw_in cT (q 17) 6 f5)]) (xr_VN (n := 2) (As := [.ref (q 16), .int x]) (rest := []) ⟨hx, hb, hml, hown, htg⟩ hK hN hP hD hS hA [1, 4, 3] rfl (by decide) (g_sumOfFarm l D cT _ ((q 2)) (fun k => [(q 12), (q 13), (q 14), (q 15), (q 16), (q 17)].getD k 0) (p0) (p1) (p2) (p3) (p4) (p5) (p6) (p7) (p8) (p9) (by first | assumption | decide | omega | (simp only [ti_0, ti_1, ti_2, ti_3, ti_4, ti_5, ti_6, ti_7, ti_8, ti_9, ti_10, ti_11, ti_12, ti_m1]; omega)) ((q 16)) (f4) (x) (f3)) ni_692 wi_694 wi_22 wi_123 wi_695 rfl rfl rfl ⟨rfl, by decide +kernel⟩ ⟨Nat.le_of_ble_eq_true rfl, Nat.le_of_ble_eq_true rfl⟩ rfl hl.1 rfl (Nat.le_of_ble_eq_true rfl) dX8_farm_52 ⟨Nat.le_of_ble_eq_true rfl, Nat.le_of_ble_eq_true rfl⟩) hP hD hS hA [1, 4, 3] [0, 2, 5] rfl rfl (by decide) (by decide) (fun r_6 u_5 H locs hwr_6 hP hD hS => ?_)
      obtain ⟨hP, hD⟩ : PD D A [(sw_8 h0 q n1), (sw_in cT (q 12) 16 f0), (sw_in cT (q 17) 6 f5), (sw_3 (q 2) p0 p1 p2 p3 p4 p5 p6 p7 p8 p9 (q 12) (q 13) (q 14) (q 15) (q 16) (q 17)), (sw_in cT (q 16) 16 f4), (sw_in cT (q 15) 16 f3)] _ := ⟨hP, hD⟩
      exact x_iret hx hb hr hlk hP hD hS [0, 3, 1, 5, 4, 2] (()) rfl (by decide) trivial (by decide) (by decide) dX8_farm_55
    · have ic_4 : y.toInt = 1 := ieq c_4 rfl (by decide)
      refine lv_is (y := 1) c_4 ?_
      refine lv_tableIn (off := 45) (tgt := 56) hx hb dX8_farm_11 (by decide) (by decide) (by decide) (by decide) ?_
      refine lv_aload_n hx hb dX8_farm_56 rfl (lv_at hl 0 rfl) ?_
      refine va_get (D := D) (ci := 8) (v := .ref (q 2)) (C := RX8) (T := TX8) (N := 13) hx hb htg gRX8 hown hK hP 0 rfl rfl 3 (by decide) (htg _ wi_470) (fun _ h9 => h9) rfl dX8_farm_57 ?_
      refine lv_aload_n hx hb dX8_farm_60 rfl (lv_at hl 0 rfl) ?_
      refine va_get (D := D) (ci := 8) (v := .ref (q 2)) (C := RX8) (T := TX8) (N := 13) hx hb htg gRX8 hown hK hP 0 rfl rfl 3 (by decide) (htg _ wi_470) (fun _ h9 => h9) rfl dX8_farm_61 ?_
      refine va_getN (D := D) (ci := 3) (v := .ref (q 12)) (C := RX3) (T := TX3) (N := 16) hx hb htg gRX3 hown hK hP 1 rfl rfl 10 (by decide) (va_Nw.use rfl (hN.1 _ ni_202)) (fun _ h9 => h9) rfl dX8_farm_64 ?_
      refine lv_iload_n hx hb dX8_farm_67 rfl (lv_at hl 1 rfl) ?_
      refine xk_i (wr := [(sw_8 h0 q n1), (sw_in cT (q 16) 16 f4), (sw_in cT (q 17) 6 f5)]) (xr_VN (n := 2) (As := [.ref (q 12), .int x]) (rest := []) ⟨hx, hb, hml, hown, htg⟩ hK hN hP hD hS hA [1, 2, 3] rfl (by decide) (g_sumOfFarm l D cT _ ((q 2)) (fun k => [(q 12), (q 13), (q 14), (q 15), (q 16), (q 17)].getD k 0) (p0) (p1) (p2) (p3) (p4) (p5) (p6) (p7) (p8) (p9) (by first | assumption | decide | omega | (simp only [ti_0, ti_1, ti_2, ti_3, ti_4, ti_5, ti_6, ti_7, ti_8, ti_9, ti_10, ti_11, ti_12, ti_m1]; omega)) ((q 12)) (f0) (x) (f3)) ni_692 wi_694 wi_22 wi_123 wi_695 rfl rfl rfl ⟨rfl, by decide +kernel⟩ ⟨Nat.le_of_ble_eq_true rfl, Nat.le_of_ble_eq_true rfl⟩ rfl hl.1 rfl (Nat.le_of_ble_eq_true rfl) dX8_farm_68 ⟨Nat.le_of_ble_eq_true rfl, Nat.le_of_ble_eq_true rfl⟩) hP hD hS hA [1, 2, 3] [0, 4, 5] rfl rfl (by decide) (by decide) (fun r_8 u_7 H locs hwr_8 hP hD hS => ?_)
      obtain ⟨hP, hD⟩ : PD D A [(sw_8 h0 q n1), (sw_in cT (q 16) 16 f4), (sw_in cT (q 17) 6 f5), (sw_3 (q 2) p0 p1 p2 p3 p4 p5 p6 p7 p8 p9 (q 12) (q 13) (q 14) (q 15) (q 16) (q 17)), (sw_in cT (q 12) 16 f0), (sw_in cT (q 15) 16 f3)] _ := ⟨hP, hD⟩
      exact x_iret hx hb hr hlk hP hD hS [0, 3, 4, 5, 1, 2] (()) rfl (by decide) trivial (by decide) (by decide) dX8_farm_71
    · have ic_4 : y.toInt = 2 := ieq c_4 rfl (by decide)
      refine lv_is (y := 2) c_4 ?_
      refine lv_tableIn (off := 61) (tgt := 72) hx hb dX8_farm_11 (by decide) (by decide) (by decide) (by decide) ?_
      refine lv_aload_n hx hb dX8_farm_72 rfl (lv_at hl 0 rfl) ?_
      refine va_get (D := D) (ci := 8) (v := .ref (q 2)) (C := RX8) (T := TX8) (N := 13) hx hb htg gRX8 hown hK hP 0 rfl rfl 3 (by decide) (htg _ wi_470) (fun _ h9 => h9) rfl dX8_farm_73 ?_
      refine va_getN (D := D) (ci := 3) (v := .ref (q 17)) (C := RX3) (T := TX3) (N := 16) hx hb htg gRX3 hown hK hP 1 rfl rfl 15 (by decide) (va_Nw.use rfl (hN.1 _ ni_216)) (fun _ h9 => h9) rfl dX8_farm_76 ?_
      refine lv_iload_n hx hb dX8_farm_79 rfl (lv_at hl 1 rfl) ?_
      refine va_iald hx hb hK hP 5 0 rfl rfl (vp_in_iff.mpr (by omega)) dX8_farm_80 ?_
      refine lv_topi (fun z_9 ez_9 => ?_)
      exact x_iret hx hb hr hlk hP hD hS [0, 1, 2, 3, 4, 5] (()) rfl (by decide) trivial (by decide) (by decide) dX8_farm_81
    · have ic_4 : y.toInt = 3 := ieq c_4 rfl (by decide)
      refine lv_is (y := 3) c_4 ?_
      refine lv_tableIn (off := 71) (tgt := 82) hx hb dX8_farm_11 (by decide) (by decide) (by decide) (by decide) ?_
      refine lv_aload_n hx hb dX8_farm_82 rfl (lv_at hl 0 rfl) ?_
      refine va_get (D := D) (ci := 8) (v := .ref (q 2)) (C := RX8) (T := TX8) (N := 13) hx hb htg gRX8 hown hK hP 0 rfl rfl 3 (by decide) (htg _ wi_470) (fun _ h9 => h9) rfl dX8_farm_83 ?_
      refine lv_iload_n hx hb dX8_farm_86 rfl (lv_at hl 1 rfl) ?_
      refine xk_i (wr := [(sw_8 h0 q n1), (sw_in cT (q 12) 16 f0), (sw_in cT (q 16) 16 f4), (sw_in cT (q 17) 6 f5)]) (xr_VN (n := 1) (As := [.int x]) (rest := []) ⟨hx, hb, hml, hown, htg⟩ hK hN hP hD hS hA [1, 3] rfl (by decide) (g_stripsOfFarm l D cT _ ((q 2)) (fun k => [(q 12), (q 13), (q 14), (q 15), (q 16), (q 17)].getD k 0) (p0) (p1) (p2) (p3) (p4) (p5) (p6) (p7) (p8) (p9) (by first | assumption | decide | omega | (simp only [ti_0, ti_1, ti_2, ti_3, ti_4, ti_5, ti_6, ti_7, ti_8, ti_9, ti_10, ti_11, ti_12, ti_m1]; omega)) (x) (f3)) ni_696 wi_698 wi_23 wi_123 wi_699 rfl rfl rfl ⟨rfl, by decide +kernel⟩ ⟨Nat.le_of_ble_eq_true rfl, Nat.le_of_ble_eq_true rfl⟩ rfl hl.1 rfl (Nat.le_of_ble_eq_true rfl) dX8_farm_87 ⟨Nat.le_of_ble_eq_true rfl, Nat.le_of_ble_eq_true rfl⟩) hP hD hS hA [1, 3] [0, 2, 4, 5] rfl rfl (by decide) (by decide) (fun r_11 u_10 H locs hwr_11 hP hD hS => ?_)
      obtain ⟨hP, hD⟩ : PD D A [(sw_8 h0 q n1), (sw_in cT (q 12) 16 f0), (sw_in cT (q 16) 16 f4), (sw_in cT (q 17) 6 f5), (sw_3 (q 2) p0 p1 p2 p3 p4 p5 p6 p7 p8 p9 (q 12) (q 13) (q 14) (q 15) (q 16) (q 17)), (sw_in cT (q 15) 16 f3)] _ := ⟨hP, hD⟩
      exact x_iret hx hb hr hlk hP hD hS [0, 4, 1, 5, 2, 3] (()) rfl (by decide) trivial (by decide) (by decide) dX8_farm_90
  · have ic_3 := if0 hwr_2 c_3
    refine lv_bipush (v := (-2)) hx hb dX8_farm_7 (by decide) ?_
    exact x_iret hx hb hr hlk hP hD hS [0, 1, 2, 3, 4, 5] (()) rfl (by decide) trivial (by decide) (by decide) dX8_farm_9
set_option maxHeartbeats 4000000 in
set_option maxRecDepth 100000 in
theorem g_k_light (l : Launch) (D : va_G) (cT : Nat → ClassId) (sz : Nat) (h0 : Nat) (q : Nat → Nat) (n1 : Int32) (hn1 : 0 ≤ n1.toInt ∧ n1.toInt ≤ 900) (p0 : Int32) (p1 : Int32) (p2 : Int32) (p3 : Int32) (p4 : Int32) (p5 : Int32) (p6 : Int32) (p7 : Int32) (p8 : Int32) (p9 : Int32) (hs : 0 ≤ p0.toInt ∧ p0.toInt ≤ 16) (hat : 0 ≤ p3.toInt ∧ p3.toInt ≤ 15) (x : Int32) (y : Int32) (f2 : Nat → Int32) : Met l yX8_light (wsc yX8_light cX8_light 3 (some .int)) { frames := 4, cells := 0, slots := 0, locals := 148 } (va_Pc [.ref h0, .int x, .int y] (PX D cT sz [(sw_8 h0 q n1), (sw_3 (q 2) p0 p1 p2 p3 p4 p5 p6 p7 p8 p9 (q 12) (q 13) (q 14) (q 15) (q 16) (q 17)), (sw_in cT (q 14) 16 f2)])) (va_Qi (fun (r : Int32) (u : Unit) => True) (fun u t => RW D (va_A [(sw_8 h0 q n1), (sw_3 (q 2) p0 p1 p2 p3 p4 p5 p6 p7 p8 p9 (q 12) (q 13) (q 14) (q 15) (q 16) (q 17)), (sw_in cT (q 14) 16 f2)] sz) ((fun _ : Unit => [(sw_8 h0 q n1), (sw_3 (q 2) p0 p1 p2 p3 p4 p5 p6 p7 p8 p9 (q 12) (q 13) (q 14) (q 15) (q 16) (q 17)), (sw_in cT (q 14) 16 f2)]) u) t) (va_A [(sw_8 h0 q n1), (sw_3 (q 2) p0 p1 p2 p3 p4 p5 p6 p7 p8 p9 (q 12) (q 13) (q 14) (q 15) (q 16) (q 17)), (sw_in cT (q 14) 16 f2)] sz)) 0 0 (va_A [(sw_8 h0 q n1), (sw_3 (q 2) p0 p1 p2 p3 p4 p5 p6 p7 p8 p9 (q 12) (q 13) (q 14) (q 15) (q 16) (q 17)), (sw_in cT (q 14) 16 f2)] sz) := by
  refine m_of (y := yX8_light) (cc := cX8_light) (nL := 3) (ret := (some .int)) (D := D) (cT := cT) (av := [.ref h0, .int x, .int y]) (wi := [(sw_8 h0 q n1), (sw_3 (q 2) p0 p1 p2 p3 p4 p5 p6 p7 p8 p9 (q 12) (q 13) (q 14) (q 15) (q 16) (q 17)), (sw_in cT (q 14) 16 f2)]) (fun A => va_Qi (fun (r : Int32) (u : Unit) => True) (fun u t => RW D A ((fun _ : Unit => [(sw_8 h0 q n1), (sw_3 (q 2) p0 p1 p2 p3 p4 p5 p6 p7 p8 p9 (q 12) (q 13) (q 14) (q 15) (q 16) (q 17)), (sw_in cT (q 14) 16 f2)]) u) t) A) (by decide) (Nat.le_of_ble_eq_true rfl) ?_
  intro p e s m below meth c A hx hb hml hown htg hK hN hr hlk hnm hsz hP hD hS hA ls hl
  have hown : s.vm.findClass RX8 = some m.cls := hown
  have hl : lv_has ls 3 [(0, .ref h0), (1, .int x), (2, .int y)] := hl
  refine lv_aload_n hx hb dX8_light_0 rfl (lv_at hl 0 rfl) ?_
  refine va_get (D := D) (ci := 8) (v := .ref (q 2)) (C := RX8) (T := TX8) (N := 13) hx hb htg gRX8 hown hK hP 0 rfl rfl 3 (by decide) (htg _ wi_470) (fun _ h9 => h9) rfl dX8_light_1 ?_
  refine lv_iload_n hx hb dX8_light_4 rfl (lv_at hl 1 rfl) ?_
  refine xk_i (wr := [(sw_8 h0 q n1), (sw_in cT (q 14) 16 f2)]) (xr_VN (n := 1) (As := [.int x]) (rest := []) ⟨hx, hb, hml, hown, htg⟩ hK hN hP hD hS hA [1] rfl (by decide) (g_hasStrip l D cT _ ((q 2)) (fun k => [(q 12), (q 13), (q 14), (q 15), (q 16), (q 17)].getD k 0) (p0) (p1) (p2) (p3) (p4) (p5) (p6) (p7) (p8) (p9) (x)) ni_666 wi_668 wi_18 wi_123 wi_669 rfl rfl rfl ⟨rfl, by decide +kernel⟩ ⟨Nat.le_of_ble_eq_true rfl, Nat.le_of_ble_eq_true rfl⟩ rfl hl.1 rfl (Nat.le_of_ble_eq_true rfl) dX8_light_5 ⟨Nat.le_of_ble_eq_true rfl, Nat.le_of_ble_eq_true rfl⟩) hP hD hS hA [1] [0, 2] rfl rfl (by decide) (by decide) (fun r_2 u_1 H locs hwr_2 hP hD hS => ?_)
  obtain ⟨hP, hD⟩ : PD D A [(sw_8 h0 q n1), (sw_in cT (q 14) 16 f2), (sw_3 (q 2) p0 p1 p2 p3 p4 p5 p6 p7 p8 p9 (q 12) (q 13) (q 14) (q 15) (q 16) (q 17))] _ := ⟨hP, hD⟩
  have hwr_2 : r_2 = if 0 ≤ x.toInt ∧ x.toInt < p0.toInt then 1 else 0 := hwr_2
  refine lv_if_eq (tgt := 22) hx hb dX8_light_8 (by decide) (fun c_3 => ?_) (fun c_3 => ?_)
  · have ic_3 := if0 hwr_2 c_3
    refine lv_bipush (v := (-2)) hx hb dX8_light_22 (by decide) ?_
    exact x_iret hx hb hr hlk hP hD hS [0, 2, 1] (()) rfl (by decide) trivial (by decide) (by decide) dX8_light_24
  · have ic_3 := if1 hwr_2 c_3
    refine lv_aload_n hx hb dX8_light_11 rfl (lv_at hl 0 rfl) ?_
    refine va_get (D := D) (ci := 8) (v := .ref (q 2)) (C := RX8) (T := TX8) (N := 13) hx hb htg gRX8 hown hK hP 0 rfl rfl 3 (by decide) (htg _ wi_470) (fun _ h9 => h9) rfl dX8_light_12 ?_
    refine lv_iload_n hx hb dX8_light_15 rfl (lv_at hl 2 rfl) ?_
    refine xk_i (wr := [(sw_8 h0 q n1), (sw_in cT (q 14) 16 f2)]) (xr_VN (n := 1) (As := [.int y]) (rest := []) ⟨hx, hb, hml, hown, htg⟩ hK hN hP hD hS hA [2] rfl (by decide) (g_hasStrip l D cT _ ((q 2)) (fun k => [(q 12), (q 13), (q 14), (q 15), (q 16), (q 17)].getD k 0) (p0) (p1) (p2) (p3) (p4) (p5) (p6) (p7) (p8) (p9) (y)) ni_666 wi_668 wi_18 wi_123 wi_669 rfl rfl rfl ⟨rfl, by decide +kernel⟩ ⟨Nat.le_of_ble_eq_true rfl, Nat.le_of_ble_eq_true rfl⟩ rfl hl.1 rfl (Nat.le_of_ble_eq_true rfl) dX8_light_16 ⟨Nat.le_of_ble_eq_true rfl, Nat.le_of_ble_eq_true rfl⟩) hP hD hS hA [2] [0, 1] rfl rfl (by decide) (by decide) (fun r_5 u_4 H locs hwr_5 hP hD hS => ?_)
    obtain ⟨hP, hD⟩ : PD D A [(sw_8 h0 q n1), (sw_in cT (q 14) 16 f2), (sw_3 (q 2) p0 p1 p2 p3 p4 p5 p6 p7 p8 p9 (q 12) (q 13) (q 14) (q 15) (q 16) (q 17))] _ := ⟨hP, hD⟩
    have hwr_5 : r_5 = if 0 ≤ y.toInt ∧ y.toInt < p0.toInt then 1 else 0 := hwr_5
    refine lv_if_ne (tgt := 25) hx hb dX8_light_19 (by decide) (fun c_6 => ?_) (fun c_6 => ?_)
    · have ic_6 := if1 hwr_5 c_6
      refine lv_aload_n hx hb dX8_light_25 rfl (lv_at hl 0 rfl) ?_
      refine va_get (D := D) (ci := 8) (v := .ref (q 2)) (C := RX8) (T := TX8) (N := 13) hx hb htg gRX8 hown hK hP 0 rfl rfl 3 (by decide) (htg _ wi_470) (fun _ h9 => h9) rfl dX8_light_26 ?_
      refine lv_iload_n hx hb dX8_light_29 rfl (lv_at hl 1 rfl) ?_
      refine lv_iload_n hx hb dX8_light_30 rfl (lv_at hl 2 rfl) ?_
      refine xk_i (wr := [(sw_8 h0 q n1)]) (xr_VN (n := 2) (As := [.int x, .int y]) (rest := []) ⟨hx, hb, hml, hown, htg⟩ hK hN hP hD hS hA [2, 1] rfl (by decide) (g_lightOf l D cT _ ((q 2)) (fun k => [(q 12), (q 13), (q 14), (q 15), (q 16), (q 17)].getD k 0) (p0) (p1) (p2) (p3) (p4) (p5) (p6) (p7) (p8) (p9) (x) (y) (by first | assumption | decide | omega | (simp only [ti_0, ti_1, ti_2, ti_3, ti_4, ti_5, ti_6, ti_7, ti_8, ti_9, ti_10, ti_11, ti_12, ti_m1]; omega)) (by first | assumption | decide | omega | (simp only [ti_0, ti_1, ti_2, ti_3, ti_4, ti_5, ti_6, ti_7, ti_8, ti_9, ti_10, ti_11, ti_12, ti_m1]; omega)) (f2)) ni_670 wi_672 wi_19 wi_123 wi_673 rfl rfl rfl ⟨rfl, by decide +kernel⟩ ⟨Nat.le_of_ble_eq_true rfl, Nat.le_of_ble_eq_true rfl⟩ rfl hl.1 rfl (Nat.le_of_ble_eq_true rfl) dX8_light_31 ⟨Nat.le_of_ble_eq_true rfl, Nat.le_of_ble_eq_true rfl⟩) hP hD hS hA [2, 1] [0] rfl rfl (by decide) (by decide) (fun r_8 u_7 H locs hwr_8 hP hD hS => ?_)
      obtain ⟨hP, hD⟩ : PD D A [(sw_8 h0 q n1), (sw_3 (q 2) p0 p1 p2 p3 p4 p5 p6 p7 p8 p9 (q 12) (q 13) (q 14) (q 15) (q 16) (q 17)), (sw_in cT (q 14) 16 f2)] _ := ⟨hP, hD⟩
      exact x_iret hx hb hr hlk hP hD hS [0, 1, 2] (()) rfl (by decide) trivial (by decide) (by decide) dX8_light_34
    · have ic_6 := if0 hwr_5 c_6
      refine lv_bipush (v := (-2)) hx hb dX8_light_22 (by decide) ?_
      exact x_iret hx hb hr hlk hP hD hS [0, 2, 1] (()) rfl (by decide) trivial (by decide) (by decide) dX8_light_24
set_option maxHeartbeats 4000000 in
set_option maxRecDepth 100000 in
theorem g_k_lit (l : Launch) (D : va_G) (cT : Nat → ClassId) (sz : Nat) (h0 : Nat) (q : Nat → Nat) (n1 : Int32) (hn1 : 0 ≤ n1.toInt ∧ n1.toInt ≤ 900) (p0 : Int32) (p1 : Int32) (p2 : Int32) (p3 : Int32) (p4 : Int32) (p5 : Int32) (p6 : Int32) (p7 : Int32) (p8 : Int32) (p9 : Int32) (hs : 0 ≤ p0.toInt ∧ p0.toInt ≤ 16) (hat : 0 ≤ p3.toInt ∧ p3.toInt ≤ 15) (x : Int32) (f2 : Nat → Int32) : Met l yX8_lit (wsc yX8_lit cX8_lit 2 (some .int)) { frames := 5, cells := 0, slots := 0, locals := 171 } (va_Pc [.ref h0, .int x] (PX D cT sz [(sw_8 h0 q n1), (sw_3 (q 2) p0 p1 p2 p3 p4 p5 p6 p7 p8 p9 (q 12) (q 13) (q 14) (q 15) (q 16) (q 17)), (sw_in cT (q 14) 16 f2)])) (va_Qi (fun (r : Int32) (u : Unit) => True) (fun u t => RW D (va_A [(sw_8 h0 q n1), (sw_3 (q 2) p0 p1 p2 p3 p4 p5 p6 p7 p8 p9 (q 12) (q 13) (q 14) (q 15) (q 16) (q 17)), (sw_in cT (q 14) 16 f2)] sz) ((fun _ : Unit => [(sw_8 h0 q n1), (sw_3 (q 2) p0 p1 p2 p3 p4 p5 p6 p7 p8 p9 (q 12) (q 13) (q 14) (q 15) (q 16) (q 17)), (sw_in cT (q 14) 16 f2)]) u) t) (va_A [(sw_8 h0 q n1), (sw_3 (q 2) p0 p1 p2 p3 p4 p5 p6 p7 p8 p9 (q 12) (q 13) (q 14) (q 15) (q 16) (q 17)), (sw_in cT (q 14) 16 f2)] sz)) 0 0 (va_A [(sw_8 h0 q n1), (sw_3 (q 2) p0 p1 p2 p3 p4 p5 p6 p7 p8 p9 (q 12) (q 13) (q 14) (q 15) (q 16) (q 17)), (sw_in cT (q 14) 16 f2)] sz) := by
  refine m_of (y := yX8_lit) (cc := cX8_lit) (nL := 2) (ret := (some .int)) (D := D) (cT := cT) (av := [.ref h0, .int x]) (wi := [(sw_8 h0 q n1), (sw_3 (q 2) p0 p1 p2 p3 p4 p5 p6 p7 p8 p9 (q 12) (q 13) (q 14) (q 15) (q 16) (q 17)), (sw_in cT (q 14) 16 f2)]) (fun A => va_Qi (fun (r : Int32) (u : Unit) => True) (fun u t => RW D A ((fun _ : Unit => [(sw_8 h0 q n1), (sw_3 (q 2) p0 p1 p2 p3 p4 p5 p6 p7 p8 p9 (q 12) (q 13) (q 14) (q 15) (q 16) (q 17)), (sw_in cT (q 14) 16 f2)]) u) t) A) (by decide) (Nat.le_of_ble_eq_true rfl) ?_
  intro p e s m below meth c A hx hb hml hown htg hK hN hr hlk hnm hsz hP hD hS hA ls hl
  have hown : s.vm.findClass RX8 = some m.cls := hown
  have hl : lv_has ls 2 [(0, .ref h0), (1, .int x)] := hl
  refine lv_aload_n hx hb dX8_lit_0 rfl (lv_at hl 0 rfl) ?_
  refine va_get (D := D) (ci := 8) (v := .ref (q 2)) (C := RX8) (T := TX8) (N := 13) hx hb htg gRX8 hown hK hP 0 rfl rfl 3 (by decide) (htg _ wi_470) (fun _ h9 => h9) rfl dX8_lit_1 ?_
  refine lv_iload_n hx hb dX8_lit_4 rfl (lv_at hl 1 rfl) ?_
  refine xk_i (wr := [(sw_8 h0 q n1), (sw_in cT (q 14) 16 f2)]) (xr_VN (n := 1) (As := [.int x]) (rest := []) ⟨hx, hb, hml, hown, htg⟩ hK hN hP hD hS hA [1] rfl (by decide) (g_hasStrip l D cT _ ((q 2)) (fun k => [(q 12), (q 13), (q 14), (q 15), (q 16), (q 17)].getD k 0) (p0) (p1) (p2) (p3) (p4) (p5) (p6) (p7) (p8) (p9) (x)) ni_666 wi_668 wi_18 wi_123 wi_669 rfl rfl rfl ⟨rfl, by decide +kernel⟩ ⟨Nat.le_of_ble_eq_true rfl, Nat.le_of_ble_eq_true rfl⟩ rfl hl.1 rfl (Nat.le_of_ble_eq_true rfl) dX8_lit_5 ⟨Nat.le_of_ble_eq_true rfl, Nat.le_of_ble_eq_true rfl⟩) hP hD hS hA [1] [0, 2] rfl rfl (by decide) (by decide) (fun r_2 u_1 H locs hwr_2 hP hD hS => ?_)
  obtain ⟨hP, hD⟩ : PD D A [(sw_8 h0 q n1), (sw_in cT (q 14) 16 f2), (sw_3 (q 2) p0 p1 p2 p3 p4 p5 p6 p7 p8 p9 (q 12) (q 13) (q 14) (q 15) (q 16) (q 17))] _ := ⟨hP, hD⟩
  have hwr_2 : r_2 = if 0 ≤ x.toInt ∧ x.toInt < p0.toInt then 1 else 0 := hwr_2
  refine lv_if_ne (tgt := 14) hx hb dX8_lit_8 (by decide) (fun c_3 => ?_) (fun c_3 => ?_)
  · have ic_3 := if1 hwr_2 c_3
    refine lv_aload_n hx hb dX8_lit_14 rfl (lv_at hl 0 rfl) ?_
    refine va_get (D := D) (ci := 8) (v := .ref (q 2)) (C := RX8) (T := TX8) (N := 13) hx hb htg gRX8 hown hK hP 0 rfl rfl 3 (by decide) (htg _ wi_470) (fun _ h9 => h9) rfl dX8_lit_15 ?_
    refine lv_iload_n hx hb dX8_lit_18 rfl (lv_at hl 1 rfl) ?_
    refine xk_i (wr := [(sw_8 h0 q n1)]) (xr_VN (n := 1) (As := [.int x]) (rest := []) ⟨hx, hb, hml, hown, htg⟩ hK hN hP hD hS hA [2, 1] rfl (by decide) (g_litFrom l D cT _ ((q 2)) (fun k => [(q 12), (q 13), (q 14), (q 15), (q 16), (q 17)].getD k 0) (p0) (p1) (p2) (p3) (p4) (p5) (p6) (p7) (p8) (p9) (by first | assumption | decide | omega | (simp only [ti_0, ti_1, ti_2, ti_3, ti_4, ti_5, ti_6, ti_7, ti_8, ti_9, ti_10, ti_11, ti_12, ti_m1]; omega)) (x) (by first | assumption | decide | omega | (simp only [ti_0, ti_1, ti_2, ti_3, ti_4, ti_5, ti_6, ti_7, ti_8, ti_9, ti_10, ti_11, ti_12, ti_m1]; omega)) (f2)) ni_708 wi_710 wi_24 wi_123 wi_711 rfl rfl rfl ⟨rfl, by decide +kernel⟩ ⟨Nat.le_of_ble_eq_true rfl, Nat.le_of_ble_eq_true rfl⟩ rfl hl.1 rfl (Nat.le_of_ble_eq_true rfl) dX8_lit_19 ⟨Nat.le_of_ble_eq_true rfl, Nat.le_of_ble_eq_true rfl⟩) hP hD hS hA [2, 1] [0] rfl rfl (by decide) (by decide) (fun r_5 u_4 H locs hwr_5 hP hD hS => ?_)
    obtain ⟨hP, hD⟩ : PD D A [(sw_8 h0 q n1), (sw_3 (q 2) p0 p1 p2 p3 p4 p5 p6 p7 p8 p9 (q 12) (q 13) (q 14) (q 15) (q 16) (q 17)), (sw_in cT (q 14) 16 f2)] _ := ⟨hP, hD⟩
    exact x_iret hx hb hr hlk hP hD hS [0, 1, 2] (()) rfl (by decide) trivial (by decide) (by decide) dX8_lit_22
  · have ic_3 := if0 hwr_2 c_3
    refine lv_bipush (v := (-2)) hx hb dX8_lit_11 (by decide) ?_
    exact x_iret hx hb hr hlk hP hD hS [0, 2, 1] (()) rfl (by decide) trivial (by decide) (by decide) dX8_lit_13
set_option maxHeartbeats 4000000 in
set_option maxRecDepth 100000 in
theorem g_k_shaded (l : Launch) (D : va_G) (cT : Nat → ClassId) (sz : Nat) (h0 : Nat) (q : Nat → Nat) (n1 : Int32) (hn1 : 0 ≤ n1.toInt ∧ n1.toInt ≤ 900) (p0 : Int32) (p1 : Int32) (p2 : Int32) (p3 : Int32) (p4 : Int32) (p5 : Int32) (p6 : Int32) (p7 : Int32) (p8 : Int32) (p9 : Int32) (hs : 0 ≤ p0.toInt ∧ p0.toInt ≤ 16) (hat : 0 ≤ p3.toInt ∧ p3.toInt ≤ 15) (x : Int32) (f2 : Nat → Int32) : Met l yX8_shaded (wsc yX8_shaded cX8_shaded 2 (some .int)) { frames := 4, cells := 0, slots := 0, locals := 148 } (va_Pc [.ref h0, .int x] (PX D cT sz [(sw_8 h0 q n1), (sw_3 (q 2) p0 p1 p2 p3 p4 p5 p6 p7 p8 p9 (q 12) (q 13) (q 14) (q 15) (q 16) (q 17)), (sw_in cT (q 14) 16 f2)])) (va_Qi (fun (r : Int32) (u : Unit) => True) (fun u t => RW D (va_A [(sw_8 h0 q n1), (sw_3 (q 2) p0 p1 p2 p3 p4 p5 p6 p7 p8 p9 (q 12) (q 13) (q 14) (q 15) (q 16) (q 17)), (sw_in cT (q 14) 16 f2)] sz) ((fun _ : Unit => [(sw_8 h0 q n1), (sw_3 (q 2) p0 p1 p2 p3 p4 p5 p6 p7 p8 p9 (q 12) (q 13) (q 14) (q 15) (q 16) (q 17)), (sw_in cT (q 14) 16 f2)]) u) t) (va_A [(sw_8 h0 q n1), (sw_3 (q 2) p0 p1 p2 p3 p4 p5 p6 p7 p8 p9 (q 12) (q 13) (q 14) (q 15) (q 16) (q 17)), (sw_in cT (q 14) 16 f2)] sz)) 0 0 (va_A [(sw_8 h0 q n1), (sw_3 (q 2) p0 p1 p2 p3 p4 p5 p6 p7 p8 p9 (q 12) (q 13) (q 14) (q 15) (q 16) (q 17)), (sw_in cT (q 14) 16 f2)] sz) := by
  refine m_of (y := yX8_shaded) (cc := cX8_shaded) (nL := 2) (ret := (some .int)) (D := D) (cT := cT) (av := [.ref h0, .int x]) (wi := [(sw_8 h0 q n1), (sw_3 (q 2) p0 p1 p2 p3 p4 p5 p6 p7 p8 p9 (q 12) (q 13) (q 14) (q 15) (q 16) (q 17)), (sw_in cT (q 14) 16 f2)]) (fun A => va_Qi (fun (r : Int32) (u : Unit) => True) (fun u t => RW D A ((fun _ : Unit => [(sw_8 h0 q n1), (sw_3 (q 2) p0 p1 p2 p3 p4 p5 p6 p7 p8 p9 (q 12) (q 13) (q 14) (q 15) (q 16) (q 17)), (sw_in cT (q 14) 16 f2)]) u) t) A) (by decide) (Nat.le_of_ble_eq_true rfl) ?_
  intro p e s m below meth c A hx hb hml hown htg hK hN hr hlk hnm hsz hP hD hS hA ls hl
  have hown : s.vm.findClass RX8 = some m.cls := hown
  have hl : lv_has ls 2 [(0, .ref h0), (1, .int x)] := hl
  refine lv_aload_n hx hb dX8_shaded_0 rfl (lv_at hl 0 rfl) ?_
  refine va_get (D := D) (ci := 8) (v := .ref (q 2)) (C := RX8) (T := TX8) (N := 13) hx hb htg gRX8 hown hK hP 0 rfl rfl 3 (by decide) (htg _ wi_470) (fun _ h9 => h9) rfl dX8_shaded_1 ?_
  refine lv_iload_n hx hb dX8_shaded_4 rfl (lv_at hl 1 rfl) ?_
  refine xk_i (wr := [(sw_8 h0 q n1), (sw_in cT (q 14) 16 f2)]) (xr_VN (n := 1) (As := [.int x]) (rest := []) ⟨hx, hb, hml, hown, htg⟩ hK hN hP hD hS hA [1] rfl (by decide) (g_hasStrip l D cT _ ((q 2)) (fun k => [(q 12), (q 13), (q 14), (q 15), (q 16), (q 17)].getD k 0) (p0) (p1) (p2) (p3) (p4) (p5) (p6) (p7) (p8) (p9) (x)) ni_666 wi_668 wi_18 wi_123 wi_669 rfl rfl rfl ⟨rfl, by decide +kernel⟩ ⟨Nat.le_of_ble_eq_true rfl, Nat.le_of_ble_eq_true rfl⟩ rfl hl.1 rfl (Nat.le_of_ble_eq_true rfl) dX8_shaded_5 ⟨Nat.le_of_ble_eq_true rfl, Nat.le_of_ble_eq_true rfl⟩) hP hD hS hA [1] [0, 2] rfl rfl (by decide) (by decide) (fun r_2 u_1 H locs hwr_2 hP hD hS => ?_)
  obtain ⟨hP, hD⟩ : PD D A [(sw_8 h0 q n1), (sw_in cT (q 14) 16 f2), (sw_3 (q 2) p0 p1 p2 p3 p4 p5 p6 p7 p8 p9 (q 12) (q 13) (q 14) (q 15) (q 16) (q 17))] _ := ⟨hP, hD⟩
  have hwr_2 : r_2 = if 0 ≤ x.toInt ∧ x.toInt < p0.toInt then 1 else 0 := hwr_2
  refine lv_if_ne (tgt := 14) hx hb dX8_shaded_8 (by decide) (fun c_3 => ?_) (fun c_3 => ?_)
  · have ic_3 := if1 hwr_2 c_3
    refine lv_aload_n hx hb dX8_shaded_14 rfl (lv_at hl 0 rfl) ?_
    refine va_get (D := D) (ci := 8) (v := .ref (q 2)) (C := RX8) (T := TX8) (N := 13) hx hb htg gRX8 hown hK hP 0 rfl rfl 3 (by decide) (htg _ wi_470) (fun _ h9 => h9) rfl dX8_shaded_15 ?_
    refine lv_iload_n hx hb dX8_shaded_18 rfl (lv_at hl 1 rfl) ?_
    refine xk_i (wr := [(sw_8 h0 q n1)]) (xr_VN (n := 1) (As := [.int x]) (rest := []) ⟨hx, hb, hml, hown, htg⟩ hK hN hP hD hS hA [2, 1] rfl (by decide) (g_shadedFrom l D cT _ ((q 2)) (fun k => [(q 12), (q 13), (q 14), (q 15), (q 16), (q 17)].getD k 0) (p0) (p1) (p2) (p3) (p4) (p5) (p6) (p7) (p8) (p9) (by first | assumption | decide | omega | (simp only [ti_0, ti_1, ti_2, ti_3, ti_4, ti_5, ti_6, ti_7, ti_8, ti_9, ti_10, ti_11, ti_12, ti_m1]; omega)) (x) (by first | assumption | decide | omega | (simp only [ti_0, ti_1, ti_2, ti_3, ti_4, ti_5, ti_6, ti_7, ti_8, ti_9, ti_10, ti_11, ti_12, ti_m1]; omega)) (f2)) ni_717 wi_719 wi_25 wi_123 wi_720 rfl rfl rfl ⟨rfl, by decide +kernel⟩ ⟨Nat.le_of_ble_eq_true rfl, Nat.le_of_ble_eq_true rfl⟩ rfl hl.1 rfl (Nat.le_of_ble_eq_true rfl) dX8_shaded_19 ⟨Nat.le_of_ble_eq_true rfl, Nat.le_of_ble_eq_true rfl⟩) hP hD hS hA [2, 1] [0] rfl rfl (by decide) (by decide) (fun r_5 u_4 H locs hwr_5 hP hD hS => ?_)
    obtain ⟨hP, hD⟩ : PD D A [(sw_8 h0 q n1), (sw_3 (q 2) p0 p1 p2 p3 p4 p5 p6 p7 p8 p9 (q 12) (q 13) (q 14) (q 15) (q 16) (q 17)), (sw_in cT (q 14) 16 f2)] _ := ⟨hP, hD⟩
    exact x_iret hx hb hr hlk hP hD hS [0, 1, 2] (()) rfl (by decide) trivial (by decide) (by decide) dX8_shaded_22
  · have ic_3 := if0 hwr_2 c_3
    refine lv_bipush (v := (-2)) hx hb dX8_shaded_11 (by decide) ?_
    exact x_iret hx hb hr hlk hP hD hS [0, 2, 1] (()) rfl (by decide) trivial (by decide) (by decide) dX8_shaded_13
set_option maxHeartbeats 4000000 in
set_option maxRecDepth 100000 in
theorem g_k_highFor (l : Launch) (D : va_G) (cT : Nat → ClassId) (sz : Nat) (h0 : Nat) (q : Nat → Nat) (n1 : Int32) (hn1 : 0 ≤ n1.toInt ∧ n1.toInt ≤ 900) (p0 : Int32) (p1 : Int32) (p2 : Int32) (p3 : Int32) (p4 : Int32) (p5 : Int32) (p6 : Int32) (p7 : Int32) (p8 : Int32) (p9 : Int32) (hs : 0 ≤ p0.toInt ∧ p0.toInt ≤ 16) (hat : 0 ≤ p3.toInt ∧ p3.toInt ≤ 15) (x : Int32) (y : Int32) (f2 : Nat → Int32) : Met l yX8_highFor (wsc yX8_highFor cX8_highFor 7 (some .int)) { frames := 5, cells := 0, slots := 0, locals := 175 } (va_Pc [.ref h0, .int x, .int y] (PX D cT sz [(sw_8 h0 q n1), (sw_3 (q 2) p0 p1 p2 p3 p4 p5 p6 p7 p8 p9 (q 12) (q 13) (q 14) (q 15) (q 16) (q 17)), (sw_in cT (q 14) 16 f2)])) (va_Qi (fun (r : Int32) (u : Unit) => True) (fun u t => RW D (va_A [(sw_8 h0 q n1), (sw_3 (q 2) p0 p1 p2 p3 p4 p5 p6 p7 p8 p9 (q 12) (q 13) (q 14) (q 15) (q 16) (q 17)), (sw_in cT (q 14) 16 f2)] sz) ((fun _ : Unit => [(sw_8 h0 q n1), (sw_3 (q 2) p0 p1 p2 p3 p4 p5 p6 p7 p8 p9 (q 12) (q 13) (q 14) (q 15) (q 16) (q 17)), (sw_in cT (q 14) 16 f2)]) u) t) (va_A [(sw_8 h0 q n1), (sw_3 (q 2) p0 p1 p2 p3 p4 p5 p6 p7 p8 p9 (q 12) (q 13) (q 14) (q 15) (q 16) (q 17)), (sw_in cT (q 14) 16 f2)] sz)) 0 0 (va_A [(sw_8 h0 q n1), (sw_3 (q 2) p0 p1 p2 p3 p4 p5 p6 p7 p8 p9 (q 12) (q 13) (q 14) (q 15) (q 16) (q 17)), (sw_in cT (q 14) 16 f2)] sz) := by
  refine m_of (y := yX8_highFor) (cc := cX8_highFor) (nL := 7) (ret := (some .int)) (D := D) (cT := cT) (av := [.ref h0, .int x, .int y]) (wi := [(sw_8 h0 q n1), (sw_3 (q 2) p0 p1 p2 p3 p4 p5 p6 p7 p8 p9 (q 12) (q 13) (q 14) (q 15) (q 16) (q 17)), (sw_in cT (q 14) 16 f2)]) (fun A => va_Qi (fun (r : Int32) (u : Unit) => True) (fun u t => RW D A ((fun _ : Unit => [(sw_8 h0 q n1), (sw_3 (q 2) p0 p1 p2 p3 p4 p5 p6 p7 p8 p9 (q 12) (q 13) (q 14) (q 15) (q 16) (q 17)), (sw_in cT (q 14) 16 f2)]) u) t) A) (by decide) (Nat.le_of_ble_eq_true rfl) ?_
  intro p e s m below meth c A hx hb hml hown htg hK hN hr hlk hnm hsz hP hD hS hA ls hl
  have hown : s.vm.findClass RX8 = some m.cls := hown
  have hl : lv_has ls 7 [(0, .ref h0), (1, .int x), (2, .int y)] := hl
  refine lv_iload_n hx hb dX8_highFor_0 rfl (lv_at hl 1 rfl) ?_
  refine lv_if_eq (tgt := 15) hx hb dX8_highFor_1 (by decide) (fun c_1 => ?_) (fun c_1 => ?_)
  · have ic_1 : x.toInt = 0 := ieq c_1 (rfl) (by decide)
    refine lv_bipush (v := (-3)) hx hb dX8_highFor_15 (by decide) ?_
    exact x_iret hx hb hr hlk hP hD hS [0, 1, 2] (()) rfl (by decide) trivial (by decide) (by decide) dX8_highFor_17
  · have ic_1 : ¬ x.toInt = 0 := ine c_1 (rfl) (by decide)
    refine lv_aload_n hx hb dX8_highFor_4 rfl (lv_at hl 0 rfl) ?_
    refine va_get (D := D) (ci := 8) (v := .ref (q 2)) (C := RX8) (T := TX8) (N := 13) hx hb htg gRX8 hown hK hP 0 rfl rfl 3 (by decide) (htg _ wi_470) (fun _ h9 => h9) rfl dX8_highFor_5 ?_
    refine lv_iload_n hx hb dX8_highFor_8 rfl (lv_at hl 1 rfl) ?_
    refine xk_i (wr := [(sw_8 h0 q n1), (sw_in cT (q 14) 16 f2)]) (xr_VN (n := 1) (As := [.int x]) (rest := []) ⟨hx, hb, hml, hown, htg⟩ hK hN hP hD hS hA [1] rfl (by decide) (g_areStrips l D cT _ ((q 2)) (fun k => [(q 12), (q 13), (q 14), (q 15), (q 16), (q 17)].getD k 0) (p0) (p1) (p2) (p3) (p4) (p5) (p6) (p7) (p8) (p9) (x)) ni_733 wi_735 wi_27 wi_123 wi_736 rfl rfl rfl ⟨rfl, by decide +kernel⟩ ⟨Nat.le_of_ble_eq_true rfl, Nat.le_of_ble_eq_true rfl⟩ rfl hl.1 rfl (Nat.le_of_ble_eq_true rfl) dX8_highFor_9 ⟨Nat.le_of_ble_eq_true rfl, Nat.le_of_ble_eq_true rfl⟩) hP hD hS hA [1] [0, 2] rfl rfl (by decide) (by decide) (fun r_3 u_2 H locs hwr_3 hP hD hS => ?_)
    obtain ⟨hP, hD⟩ : PD D A [(sw_8 h0 q n1), (sw_in cT (q 14) 16 f2), (sw_3 (q 2) p0 p1 p2 p3 p4 p5 p6 p7 p8 p9 (q 12) (q 13) (q 14) (q 15) (q 16) (q 17))] _ := ⟨hP, hD⟩
    refine lv_if_ne (tgt := 18) hx hb dX8_highFor_12 (by decide) (fun c_4 => ?_) (fun c_4 => ?_)
    · have ic_4 : ¬ r_3.toInt = 0 := ine c_4 (rfl) (by decide)
      refine lv_iconst (v := (-1)) hx hb dX8_highFor_18 (by decide) ?_
      refine lv_istore_n (lv' := [(3, .int (-1)), (0, .ref h0), (1, .int x), (2, .int y)]) hx hb dX8_highFor_19 rfl hl (by decide) rfl (fun ls hl => ?_)
      refine lv_iconst (v := (-1)) hx hb dX8_highFor_20 (by decide) ?_
      refine lv_istore (lv' := [(4, .int (-1)), (3, .int (-1)), (0, .ref h0), (1, .int x), (2, .int y)]) hx hb dX8_highFor_21 hl (by decide) rfl (fun ls hl => ?_)
      refine lv_iconst (v := 0) hx hb dX8_highFor_23 (by decide) ?_
      refine lv_istore (lv' := [(5, .int 0), (4, .int (-1)), (3, .int (-1)), (0, .ref h0), (1, .int x), (2, .int y)]) hx hb dX8_highFor_24 hl (by decide) rfl (fun ls hl => ?_)
      refine (fun (key : ∀ (n9_26 : Nat) (k9_26 : Nat) (x9_26_4 : Int32) (x9_26_3 : Int32) (H : Heap) (locs : List Loc) (ls : Array Slot), (k9_26 : Int) ≤ p0.toInt → p0.toInt < (k9_26 : Int) + n9_26 → PD D A [(sw_8 h0 q n1), (sw_in cT (q 14) 16 f2), (sw_3 (q 2) p0 p1 p2 p3 p4 p5 p6 p7 p8 p9 (q 12) (q 13) (q 14) (q 15) (q 16) (q 17))] H → va_S A s.heap H locs → lv_has ls 7 [(5, .int (nI k9_26)), (4, .int x9_26_4), (3, .int x9_26_3), (0, .ref h0), (1, .int x), (2, .int y)] → W p l e _ s m _ below meth c H locs _ _ _ (F0 m 26 ls [])) => key (Int.toNat (p0.toInt - 0) + 1) 0 _ _ _ _ _ (by omega) (by omega)  ⟨hP, hD⟩ hS (lv_sub hl [0, 1, 2, 3, 4, 5] rfl)) ?_
      intro n9_26
      induction n9_26 with
      | zero => intro k9_26 x9_26_4 x9_26_3 H locs ls hq1 hq2; exact absurd hq2 (by omega)
      | succ n9_26 ih_26 =>
        intro k9_26 x9_26_4 x9_26_3 H locs ls hq1_26 hq2_26  hPD hS hl
        obtain ⟨hP, hD⟩ := hPD
        have hk9_26 : (nI k9_26).toInt = (k9_26 : Int) := nI_toInt (by omega)
        refine lv_iload hx hb dX8_highFor_26 (lv_at hl 0 rfl) ?_
        refine lv_aload_n hx hb dX8_highFor_28 rfl (lv_at hl 3 rfl) ?_
        refine va_get (D := D) (ci := 8) (v := .ref (q 2)) (C := RX8) (T := TX8) (N := 13) hx hb htg gRX8 hown hK hP 0 rfl rfl 3 (by decide) (htg _ wi_470) (fun _ h9 => h9) rfl dX8_highFor_29 ?_
        refine va_getN (D := D) (ci := 3) (v := .int p0) (C := RX3) (T := TX3) (N := 16) hx hb htg gRX3 hown hK hP 2 rfl rfl 0 (by decide) (va_Nw.use rfl (hN.1 _ ni_172)) (fun _ h9 => h9) rfl dX8_highFor_32 ?_
        refine lv_icmp_ge (tgt := 80) hx hb dX8_highFor_35 (by decide) (fun c_5 => ?_) (fun c_5 => ?_)
        · have ic_5 : p0.toInt ≤ ((k9_26 : Nat) : Int) := ile c_5 (rfl) (nI_toInt (by omega))
          refine lv_iload_n hx hb dX8_highFor_80 rfl (lv_at hl 5 rfl) ?_
          refine lv_if_eq (tgt := 89) hx hb dX8_highFor_81 (by decide) (fun c_6 => ?_) (fun c_6 => ?_)
          · have ic_6 : y.toInt = 0 := ieq c_6 (rfl) (by decide)
            refine lv_iload_n hx hb dX8_highFor_89 rfl (lv_at hl 2 rfl) ?_
            exact x_iret hx hb hr hlk hP hD hS [0, 2, 1] (()) rfl (by decide) trivial (by decide) (by decide) dX8_highFor_90
          · have ic_6 : ¬ y.toInt = 0 := ine c_6 (rfl) (by decide)
            refine lv_iload hx hb dX8_highFor_84 (lv_at hl 1 rfl) ?_
            refine lv_goto (tgt := 90) hx hb dX8_highFor_86 (by decide) ?_
            exact x_iret hx hb hr hlk hP hD hS [0, 2, 1] (()) rfl (by decide) trivial (by decide) (by decide) dX8_highFor_90
        · have ic_5 : ((k9_26 : Nat) : Int) < p0.toInt := inle c_5 (rfl) (nI_toInt (by omega))
          refine lv_aload_n hx hb dX8_highFor_38 rfl (lv_at hl 3 rfl) ?_
          refine va_get (D := D) (ci := 8) (v := .ref (q 2)) (C := RX8) (T := TX8) (N := 13) hx hb htg gRX8 hown hK hP 0 rfl rfl 3 (by decide) (htg _ wi_470) (fun _ h9 => h9) rfl dX8_highFor_39 ?_
          refine lv_iload hx hb dX8_highFor_42 (lv_at hl 0 rfl) ?_
          refine lv_iload_n hx hb dX8_highFor_44 rfl (lv_at hl 4 rfl) ?_
          refine xk_i (wr := [(sw_8 h0 q n1)]) (xr_VN (n := 2) (As := [.int (nI k9_26), .int x]) (rest := []) ⟨hx, hb, hml, hown, htg⟩ hK hN hP hD hS hA [2, 1] rfl (by decide) (g_leastHeightForAll l D cT _ ((q 2)) (fun k => [(q 12), (q 13), (q 14), (q 15), (q 16), (q 17)].getD k 0) (p0) (p1) (p2) (p3) (p4) (p5) (p6) (p7) (p8) (p9) (by first | assumption | decide | omega | (simp only [ti_0, ti_1, ti_2, ti_3, ti_4, ti_5, ti_6, ti_7, ti_8, ti_9, ti_10, ti_11, ti_12, ti_m1]; omega)) ((nI k9_26)) (x) (by first | assumption | decide | omega | (simp only [ti_0, ti_1, ti_2, ti_3, ti_4, ti_5, ti_6, ti_7, ti_8, ti_9, ti_10, ti_11, ti_12, ti_m1]; omega)) (f2)) ni_741 wi_743 wi_29 wi_123 wi_744 rfl rfl rfl ⟨rfl, by decide +kernel⟩ ⟨Nat.le_of_ble_eq_true rfl, Nat.le_of_ble_eq_true rfl⟩ rfl hl.1 rfl (Nat.le_of_ble_eq_true rfl) dX8_highFor_45 ⟨Nat.le_of_ble_eq_true rfl, Nat.le_of_ble_eq_true rfl⟩) hP hD hS hA [2, 1] [0] rfl rfl (by decide) (by decide) (fun r_8 u_7 H locs hwr_8 hP hD hS => ?_)
          obtain ⟨hP, hD⟩ : PD D A [(sw_8 h0 q n1), (sw_3 (q 2) p0 p1 p2 p3 p4 p5 p6 p7 p8 p9 (q 12) (q 13) (q 14) (q 15) (q 16) (q 17)), (sw_in cT (q 14) 16 f2)] _ := ⟨hP, hD⟩
          refine lv_istore (lv' := [(6, .int r_8), (5, .int (nI k9_26)), (4, .int x9_26_4), (3, .int x9_26_3), (0, .ref h0), (1, .int x), (2, .int y)]) hx hb dX8_highFor_48 hl (by decide) rfl (fun ls hl => ?_)
          refine lv_iload hx hb dX8_highFor_50 (lv_at hl 0 rfl) ?_
          refine lv_iconst (v := (-1)) hx hb dX8_highFor_52 (by decide) ?_
          refine lv_icmp_eq (tgt := 74) hx hb dX8_highFor_53 (by decide) (fun c_9 => ?_) (fun c_9 => ?_)
          · have ic_9 : r_8.toInt = (-1) := ieq c_9 (rfl) (by decide)
            refine lv_iinc (v := (nI (k9_26 + 1))) (lv' := [(5, .int (nI (k9_26 + 1))), (6, .int r_8), (4, .int x9_26_4), (3, .int x9_26_3), (0, .ref h0), (1, .int x), (2, .int y)]) hx hb dX8_highFor_74 hl (k := 1) rfl (by exact nI_1 (k9_26)) (by decide) rfl (fun ls hl => ?_)
            refine lv_goto (tgt := 26) hx hb dX8_highFor_77 (by decide) ?_
            exact ih_26 (k9_26 + 1) _ _ _ _ _ (by omega) (by omega)  ⟨hP.sub [0, 2, 1] rfl, hD.sub [0, 2, 1] (by decide) rfl⟩ hS (lv_sub hl [0, 2, 3, 4, 5, 6] rfl)
          · have ic_9 : ¬ r_8.toInt = (-1) := ine c_9 (rfl) (by decide)
            refine lv_iload_n hx hb dX8_highFor_56 rfl (lv_at hl 3 rfl) ?_
            refine lv_iconst (v := (-1)) hx hb dX8_highFor_57 (by decide) ?_
            refine lv_icmp_eq (tgt := 67) hx hb dX8_highFor_58 (by decide) (fun c_10 => ?_) (fun c_10 => ?_)
            · have ic_10 : x9_26_3.toInt = (-1) := ieq c_10 (rfl) (by decide)
              refine lv_iload hx hb dX8_highFor_67 (lv_at hl 0 rfl) ?_
              refine lv_istore_n (lv' := [(3, .int r_8), (6, .int r_8), (5, .int (nI k9_26)), (4, .int x9_26_4), (0, .ref h0), (1, .int x), (2, .int y)]) hx hb dX8_highFor_69 rfl hl (by decide) rfl (fun ls hl => ?_)
              refine lv_iload hx hb dX8_highFor_70 (lv_at hl 2 rfl) ?_
              refine lv_istore (lv' := [(4, .int (nI k9_26)), (3, .int r_8), (6, .int r_8), (5, .int (nI k9_26)), (0, .ref h0), (1, .int x), (2, .int y)]) hx hb dX8_highFor_72 hl (by decide) rfl (fun ls hl => ?_)
              refine lv_iinc (v := (nI (k9_26 + 1))) (lv' := [(5, .int (nI (k9_26 + 1))), (4, .int (nI k9_26)), (3, .int r_8), (6, .int r_8), (0, .ref h0), (1, .int x), (2, .int y)]) hx hb dX8_highFor_74 hl (k := 3) rfl (by exact nI_1 (k9_26)) (by decide) rfl (fun ls hl => ?_)
              refine lv_goto (tgt := 26) hx hb dX8_highFor_77 (by decide) ?_
              exact ih_26 (k9_26 + 1) _ _ _ _ _ (by omega) (by omega)  ⟨hP.sub [0, 2, 1] rfl, hD.sub [0, 2, 1] (by decide) rfl⟩ hS (lv_sub hl [0, 1, 2, 4, 5, 6] rfl)
            · have ic_10 : ¬ x9_26_3.toInt = (-1) := ine c_10 (rfl) (by decide)
              refine lv_iload hx hb dX8_highFor_61 (lv_at hl 0 rfl) ?_
              refine lv_iload_n hx hb dX8_highFor_63 rfl (lv_at hl 3 rfl) ?_
              refine lv_icmp_ge (tgt := 74) hx hb dX8_highFor_64 (by decide) (fun c_11 => ?_) (fun c_11 => ?_)
              · have ic_11 : x9_26_3.toInt ≤ r_8.toInt := ile c_11 (rfl) (rfl)
                refine lv_iinc (v := (nI (k9_26 + 1))) (lv' := [(5, .int (nI (k9_26 + 1))), (6, .int r_8), (4, .int x9_26_4), (3, .int x9_26_3), (0, .ref h0), (1, .int x), (2, .int y)]) hx hb dX8_highFor_74 hl (k := 1) rfl (by exact nI_1 (k9_26)) (by decide) rfl (fun ls hl => ?_)
                refine lv_goto (tgt := 26) hx hb dX8_highFor_77 (by decide) ?_
                exact ih_26 (k9_26 + 1) _ _ _ _ _ (by omega) (by omega)  ⟨hP.sub [0, 2, 1] rfl, hD.sub [0, 2, 1] (by decide) rfl⟩ hS (lv_sub hl [0, 2, 3, 4, 5, 6] rfl)
              · have ic_11 : r_8.toInt < x9_26_3.toInt := inle c_11 (rfl) (rfl)
                refine lv_iload hx hb dX8_highFor_67 (lv_at hl 0 rfl) ?_
                refine lv_istore_n (lv' := [(3, .int r_8), (6, .int r_8), (5, .int (nI k9_26)), (4, .int x9_26_4), (0, .ref h0), (1, .int x), (2, .int y)]) hx hb dX8_highFor_69 rfl hl (by decide) rfl (fun ls hl => ?_)
                refine lv_iload hx hb dX8_highFor_70 (lv_at hl 2 rfl) ?_
                refine lv_istore (lv' := [(4, .int (nI k9_26)), (3, .int r_8), (6, .int r_8), (5, .int (nI k9_26)), (0, .ref h0), (1, .int x), (2, .int y)]) hx hb dX8_highFor_72 hl (by decide) rfl (fun ls hl => ?_)
                refine lv_iinc (v := (nI (k9_26 + 1))) (lv' := [(5, .int (nI (k9_26 + 1))), (4, .int (nI k9_26)), (3, .int r_8), (6, .int r_8), (0, .ref h0), (1, .int x), (2, .int y)]) hx hb dX8_highFor_74 hl (k := 3) rfl (by exact nI_1 (k9_26)) (by decide) rfl (fun ls hl => ?_)
                refine lv_goto (tgt := 26) hx hb dX8_highFor_77 (by decide) ?_
                exact ih_26 (k9_26 + 1) _ _ _ _ _ (by omega) (by omega)  ⟨hP.sub [0, 2, 1] rfl, hD.sub [0, 2, 1] (by decide) rfl⟩ hS (lv_sub hl [0, 1, 2, 4, 5, 6] rfl)
    · have ic_4 : r_3.toInt = 0 := ieq c_4 (rfl) (by decide)
      refine lv_bipush (v := (-3)) hx hb dX8_highFor_15 (by decide) ?_
      exact x_iret hx hb hr hlk hP hD hS [0, 2, 1] (()) rfl (by decide) trivial (by decide) (by decide) dX8_highFor_17
set_option maxHeartbeats 4000000 in
set_option maxRecDepth 100000 in
theorem g_k_dark (l : Launch) (D : va_G) (cT : Nat → ClassId) (sz : Nat) (h0 : Nat) (q : Nat → Nat) (n1 : Int32) (hn1 : 0 ≤ n1.toInt ∧ n1.toInt ≤ 900) (p0 : Int32) (p1 : Int32) (p2 : Int32) (p3 : Int32) (p4 : Int32) (p5 : Int32) (p6 : Int32) (p7 : Int32) (p8 : Int32) (p9 : Int32) (hs : 0 ≤ p0.toInt ∧ p0.toInt ≤ 16) (hat : 0 ≤ p3.toInt ∧ p3.toInt ≤ 15) (f2 : Nat → Int32) : Met l yX8_dark (wsc yX8_dark cX8_dark 3 (some .int)) { frames := 5, cells := 0, slots := 0, locals := 171 } (va_Pc [.ref h0] (PX D cT sz [(sw_8 h0 q n1), (sw_3 (q 2) p0 p1 p2 p3 p4 p5 p6 p7 p8 p9 (q 12) (q 13) (q 14) (q 15) (q 16) (q 17)), (sw_in cT (q 14) 16 f2)])) (va_Qi (fun (r : Int32) (u : Unit) => True) (fun u t => RW D (va_A [(sw_8 h0 q n1), (sw_3 (q 2) p0 p1 p2 p3 p4 p5 p6 p7 p8 p9 (q 12) (q 13) (q 14) (q 15) (q 16) (q 17)), (sw_in cT (q 14) 16 f2)] sz) ((fun _ : Unit => [(sw_8 h0 q n1), (sw_3 (q 2) p0 p1 p2 p3 p4 p5 p6 p7 p8 p9 (q 12) (q 13) (q 14) (q 15) (q 16) (q 17)), (sw_in cT (q 14) 16 f2)]) u) t) (va_A [(sw_8 h0 q n1), (sw_3 (q 2) p0 p1 p2 p3 p4 p5 p6 p7 p8 p9 (q 12) (q 13) (q 14) (q 15) (q 16) (q 17)), (sw_in cT (q 14) 16 f2)] sz)) 0 0 (va_A [(sw_8 h0 q n1), (sw_3 (q 2) p0 p1 p2 p3 p4 p5 p6 p7 p8 p9 (q 12) (q 13) (q 14) (q 15) (q 16) (q 17)), (sw_in cT (q 14) 16 f2)] sz) := by
  refine m_of (y := yX8_dark) (cc := cX8_dark) (nL := 3) (ret := (some .int)) (D := D) (cT := cT) (av := [.ref h0]) (wi := [(sw_8 h0 q n1), (sw_3 (q 2) p0 p1 p2 p3 p4 p5 p6 p7 p8 p9 (q 12) (q 13) (q 14) (q 15) (q 16) (q 17)), (sw_in cT (q 14) 16 f2)]) (fun A => va_Qi (fun (r : Int32) (u : Unit) => True) (fun u t => RW D A ((fun _ : Unit => [(sw_8 h0 q n1), (sw_3 (q 2) p0 p1 p2 p3 p4 p5 p6 p7 p8 p9 (q 12) (q 13) (q 14) (q 15) (q 16) (q 17)), (sw_in cT (q 14) 16 f2)]) u) t) A) (by decide) (Nat.le_of_ble_eq_true rfl) ?_
  intro p e s m below meth c A hx hb hml hown htg hK hN hr hlk hnm hsz hP hD hS hA ls hl
  have hown : s.vm.findClass RX8 = some m.cls := hown
  have hl : lv_has ls 3 [(0, .ref h0)] := hl
  refine lv_iconst (v := 0) hx hb dX8_dark_0 (by decide) ?_
  refine lv_istore_n (lv' := [(1, .int 0), (0, .ref h0)]) hx hb dX8_dark_1 rfl hl (by decide) rfl (fun ls hl => ?_)
  refine lv_iconst (v := 0) hx hb dX8_dark_2 (by decide) ?_
  refine lv_istore_n (lv' := [(2, .int 0), (1, .int 0), (0, .ref h0)]) hx hb dX8_dark_3 rfl hl (by decide) rfl (fun ls hl => ?_)
  refine (fun (key : ∀ (n9_4 : Nat) (k9_4 : Nat) (x9_4_1 : Int32) (H : Heap) (locs : List Loc) (ls : Array Slot), (k9_4 : Int) ≤ p0.toInt → p0.toInt < (k9_4 : Int) + n9_4 → PD D A [(sw_8 h0 q n1), (sw_3 (q 2) p0 p1 p2 p3 p4 p5 p6 p7 p8 p9 (q 12) (q 13) (q 14) (q 15) (q 16) (q 17)), (sw_in cT (q 14) 16 f2)] H → va_S A s.heap H locs → lv_has ls 3 [(2, .int (nI k9_4)), (1, .int x9_4_1), (0, .ref h0)] → W p l e _ s m _ below meth c H locs _ _ _ (F0 m 4 ls [])) => key (Int.toNat (p0.toInt - 0) + 1) 0 _ _ _ _ (by omega) (by omega)  ⟨hP, hD⟩ hS (lv_sub hl [0, 1, 2] rfl)) ?_
  intro n9_4
  induction n9_4 with
  | zero => intro k9_4 x9_4_1 H locs ls hq1 hq2; exact absurd hq2 (by omega)
  | succ n9_4 ih_4 =>
    intro k9_4 x9_4_1 H locs ls hq1_4 hq2_4  hPD hS hl
    obtain ⟨hP, hD⟩ := hPD
    have hk9_4 : (nI k9_4).toInt = (k9_4 : Int) := nI_toInt (by omega)
    refine lv_iload_n hx hb dX8_dark_4 rfl (lv_at hl 0 rfl) ?_
    refine lv_aload_n hx hb dX8_dark_5 rfl (lv_at hl 2 rfl) ?_
    refine va_get (D := D) (ci := 8) (v := .ref (q 2)) (C := RX8) (T := TX8) (N := 13) hx hb htg gRX8 hown hK hP 0 rfl rfl 3 (by decide) (htg _ wi_470) (fun _ h9 => h9) rfl dX8_dark_6 ?_
    refine va_getN (D := D) (ci := 3) (v := .int p0) (C := RX3) (T := TX3) (N := 16) hx hb htg gRX3 hown hK hP 1 rfl rfl 0 (by decide) (va_Nw.use rfl (hN.1 _ ni_172)) (fun _ h9 => h9) rfl dX8_dark_9 ?_
    refine lv_icmp_ge (tgt := 32) hx hb dX8_dark_12 (by decide) (fun c_1 => ?_) (fun c_1 => ?_)
    · have ic_1 : p0.toInt ≤ ((k9_4 : Nat) : Int) := ile c_1 (rfl) (nI_toInt (by omega))
      refine lv_aload_n hx hb dX8_dark_32 rfl (lv_at hl 2 rfl) ?_
      refine va_get (D := D) (ci := 8) (v := .ref (q 2)) (C := RX8) (T := TX8) (N := 13) hx hb htg gRX8 hown hK hP 0 rfl rfl 3 (by decide) (htg _ wi_470) (fun _ h9 => h9) rfl dX8_dark_33 ?_
      refine xk_i (wr := [(sw_8 h0 q n1), (sw_in cT (q 14) 16 f2)]) (xr_VN (n := 0) (As := []) (rest := []) ⟨hx, hb, hml, hown, htg⟩ hK hN hP hD hS hA [1] rfl (by decide) (g_allStrips l D cT _ ((q 2)) (fun k => [(q 12), (q 13), (q 14), (q 15), (q 16), (q 17)].getD k 0) (p0) (p1) (p2) (p3) (p4) (p5) (p6) (p7) (p8) (p9)) ni_987 wi_739 wi_28 wi_123 wi_740 rfl rfl rfl ⟨rfl, by decide +kernel⟩ ⟨Nat.le_of_ble_eq_true rfl, Nat.le_of_ble_eq_true rfl⟩ rfl hl.1 rfl (Nat.le_of_ble_eq_true rfl) dX8_dark_36 ⟨Nat.le_of_ble_eq_true rfl, Nat.le_of_ble_eq_true rfl⟩) hP hD hS hA [1] [0, 2] rfl rfl (by decide) (by decide) (fun r_3 u_2 H locs hwr_3 hP hD hS => ?_)
      obtain ⟨hP, hD⟩ : PD D A [(sw_8 h0 q n1), (sw_in cT (q 14) 16 f2), (sw_3 (q 2) p0 p1 p2 p3 p4 p5 p6 p7 p8 p9 (q 12) (q 13) (q 14) (q 15) (q 16) (q 17))] _ := ⟨hP, hD⟩
      refine lv_iload_n hx hb dX8_dark_39 rfl (lv_at hl 1 rfl) ?_
      refine lv_iconst (v := (-1)) hx hb dX8_dark_40 (by decide) ?_
      refine lv_ixor hx hb dX8_dark_41 ?_
      refine lv_topi (fun z_4 ez_4 => ?_)
      refine lv_iand hx hb dX8_dark_42 ?_
      refine lv_topi (fun z_5 ez_5 => ?_)
      exact x_iret hx hb hr hlk hP hD hS [0, 2, 1] (()) rfl (by decide) trivial (by decide) (by decide) dX8_dark_43
    · have ic_1 : ((k9_4 : Nat) : Int) < p0.toInt := inle c_1 (rfl) (nI_toInt (by omega))
      refine lv_iload_n hx hb dX8_dark_15 rfl (lv_at hl 1 rfl) ?_
      refine lv_aload_n hx hb dX8_dark_16 rfl (lv_at hl 2 rfl) ?_
      refine va_get (D := D) (ci := 8) (v := .ref (q 2)) (C := RX8) (T := TX8) (N := 13) hx hb htg gRX8 hown hK hP 0 rfl rfl 3 (by decide) (htg _ wi_470) (fun _ h9 => h9) rfl dX8_dark_17 ?_
      refine lv_iload_n hx hb dX8_dark_20 rfl (lv_at hl 0 rfl) ?_
      refine xk_i (wr := [(sw_8 h0 q n1)]) (xr_VN (n := 1) (As := [.int (nI k9_4)]) (rest := [.int x9_4_1]) ⟨hx, hb, hml, hown, htg⟩ hK hN hP hD hS hA [1, 2] rfl (by decide) (g_litFrom l D cT _ ((q 2)) (fun k => [(q 12), (q 13), (q 14), (q 15), (q 16), (q 17)].getD k 0) (p0) (p1) (p2) (p3) (p4) (p5) (p6) (p7) (p8) (p9) (by first | assumption | decide | omega | (simp only [ti_0, ti_1, ti_2, ti_3, ti_4, ti_5, ti_6, ti_7, ti_8, ti_9, ti_10, ti_11, ti_12, ti_m1]; omega)) ((nI k9_4)) (by first | assumption | decide | omega | (simp only [ti_0, ti_1, ti_2, ti_3, ti_4, ti_5, ti_6, ti_7, ti_8, ti_9, ti_10, ti_11, ti_12, ti_m1]; omega)) (f2)) ni_708 wi_710 wi_24 wi_123 wi_711 rfl rfl rfl ⟨rfl, by decide +kernel⟩ ⟨Nat.le_of_ble_eq_true rfl, Nat.le_of_ble_eq_true rfl⟩ rfl hl.1 rfl (Nat.le_of_ble_eq_true rfl) dX8_dark_21 ⟨Nat.le_of_ble_eq_true rfl, Nat.le_of_ble_eq_true rfl⟩) hP hD hS hA [1, 2] [0] rfl rfl (by decide) (by decide) (fun r_7 u_6 H locs hwr_7 hP hD hS => ?_)
      obtain ⟨hP, hD⟩ : PD D A [(sw_8 h0 q n1), (sw_3 (q 2) p0 p1 p2 p3 p4 p5 p6 p7 p8 p9 (q 12) (q 13) (q 14) (q 15) (q 16) (q 17)), (sw_in cT (q 14) 16 f2)] _ := ⟨hP, hD⟩
      refine lv_ior hx hb dX8_dark_24 ?_
      refine lv_topi (fun z_8 ez_8 => ?_)
      refine lv_istore_n (lv' := [(1, .int z_8), (2, .int (nI k9_4)), (0, .ref h0)]) hx hb dX8_dark_25 rfl hl (by decide) rfl (fun ls hl => ?_)
      refine lv_iinc (v := (nI (k9_4 + 1))) (lv' := [(2, .int (nI (k9_4 + 1))), (1, .int z_8), (0, .ref h0)]) hx hb dX8_dark_26 hl (k := 1) rfl (by exact nI_1 (k9_4)) (by decide) rfl (fun ls hl => ?_)
      refine lv_goto (tgt := 4) hx hb dX8_dark_29 (by decide) ?_
      exact ih_4 (k9_4 + 1) _ _ _ _ (by omega) (by omega)  ⟨hP.sub [0, 1, 2] rfl, hD.sub [0, 1, 2] (by decide) rfl⟩ hS (lv_sub hl [0, 1, 2] rfl)
set_option maxHeartbeats 4000000 in
set_option maxRecDepth 100000 in
theorem g_k_count (l : Launch) (D : va_G) (cT : Nat → ClassId) (sz : Nat) (h0 : Nat) (q : Nat → Nat) (n1 : Int32) (hn1 : 0 ≤ n1.toInt ∧ n1.toInt ≤ 900) (p0 : Int32) (p1 : Int32) (p2 : Int32) (p3 : Int32) (p4 : Int32) (p5 : Int32) (p6 : Int32) (p7 : Int32) (p8 : Int32) (p9 : Int32) (hs : 0 ≤ p0.toInt ∧ p0.toInt ≤ 16) (hat : 0 ≤ p3.toInt ∧ p3.toInt ≤ 15) (x : Int32) (f0 : Nat → Int32) (f4 : Nat → Int32) : Met l yX8_count (wsc yX8_count cX8_count 2 (some .int)) { frames := 3, cells := 0, slots := 0, locals := 123 } (va_Pc [.ref h0, .int x] (PX D cT sz [(sw_8 h0 q n1), (sw_3 (q 2) p0 p1 p2 p3 p4 p5 p6 p7 p8 p9 (q 12) (q 13) (q 14) (q 15) (q 16) (q 17)), (sw_in cT (q 12) 16 f0), (sw_in cT (q 16) 16 f4)])) (va_Qi (fun (r : Int32) (u : Unit) => True) (fun u t => RW D (va_A [(sw_8 h0 q n1), (sw_3 (q 2) p0 p1 p2 p3 p4 p5 p6 p7 p8 p9 (q 12) (q 13) (q 14) (q 15) (q 16) (q 17)), (sw_in cT (q 12) 16 f0), (sw_in cT (q 16) 16 f4)] sz) ((fun _ : Unit => [(sw_8 h0 q n1), (sw_3 (q 2) p0 p1 p2 p3 p4 p5 p6 p7 p8 p9 (q 12) (q 13) (q 14) (q 15) (q 16) (q 17)), (sw_in cT (q 12) 16 f0), (sw_in cT (q 16) 16 f4)]) u) t) (va_A [(sw_8 h0 q n1), (sw_3 (q 2) p0 p1 p2 p3 p4 p5 p6 p7 p8 p9 (q 12) (q 13) (q 14) (q 15) (q 16) (q 17)), (sw_in cT (q 12) 16 f0), (sw_in cT (q 16) 16 f4)] sz)) 0 0 (va_A [(sw_8 h0 q n1), (sw_3 (q 2) p0 p1 p2 p3 p4 p5 p6 p7 p8 p9 (q 12) (q 13) (q 14) (q 15) (q 16) (q 17)), (sw_in cT (q 12) 16 f0), (sw_in cT (q 16) 16 f4)] sz) := by
  refine m_of (y := yX8_count) (cc := cX8_count) (nL := 2) (ret := (some .int)) (D := D) (cT := cT) (av := [.ref h0, .int x]) (wi := [(sw_8 h0 q n1), (sw_3 (q 2) p0 p1 p2 p3 p4 p5 p6 p7 p8 p9 (q 12) (q 13) (q 14) (q 15) (q 16) (q 17)), (sw_in cT (q 12) 16 f0), (sw_in cT (q 16) 16 f4)]) (fun A => va_Qi (fun (r : Int32) (u : Unit) => True) (fun u t => RW D A ((fun _ : Unit => [(sw_8 h0 q n1), (sw_3 (q 2) p0 p1 p2 p3 p4 p5 p6 p7 p8 p9 (q 12) (q 13) (q 14) (q 15) (q 16) (q 17)), (sw_in cT (q 12) 16 f0), (sw_in cT (q 16) 16 f4)]) u) t) A) (by decide) (Nat.le_of_ble_eq_true rfl) ?_
  intro p e s m below meth c A hx hb hml hown htg hK hN hr hlk hnm hsz hP hD hS hA ls hl
  have hown : s.vm.findClass RX8 = some m.cls := hown
  have hl : lv_has ls 2 [(0, .ref h0), (1, .int x)] := hl
  refine lv_iload_n hx hb dX8_count_0 rfl (lv_at hl 1 rfl) ?_
  have c_1 : (x.toInt < 0 ∨ 12 < x.toInt) ∨ x = 0 ∨ x = 1 ∨ x = 2 ∨ x = 3 ∨ x = 4 ∨ x = 5 ∨ x = 6 ∨ x = 7 ∨ x = 8 ∨ x = 9 ∨ x = 10 ∨ x = 11 ∨ x = 12 := by
    rcases (show (x.toInt < 0 ∨ 12 < x.toInt) ∨ x.toInt = 0 ∨ x.toInt = 1 ∨ x.toInt = 2 ∨ x.toInt = 3 ∨ x.toInt = 4 ∨ x.toInt = 5 ∨ x.toInt = 6 ∨ x.toInt = 7 ∨ x.toInt = 8 ∨ x.toInt = 9 ∨ x.toInt = 10 ∨ x.toInt = 11 ∨ x.toInt = 12 from by omega) with h | h | h | h | h | h | h | h | h | h | h | h | h | h
    · exact Or.inl h
    · exact Or.inr (Or.inl (i32_is (h.trans (by decide))))
    · exact Or.inr (Or.inr (Or.inl (i32_is (h.trans (by decide)))))
    · exact Or.inr (Or.inr (Or.inr (Or.inl (i32_is (h.trans (by decide))))))
    · exact Or.inr (Or.inr (Or.inr (Or.inr (Or.inl (i32_is (h.trans (by decide)))))))
    · exact Or.inr (Or.inr (Or.inr (Or.inr (Or.inr (Or.inl (i32_is (h.trans (by decide))))))))
    · exact Or.inr (Or.inr (Or.inr (Or.inr (Or.inr (Or.inr (Or.inl (i32_is (h.trans (by decide)))))))))
    · exact Or.inr (Or.inr (Or.inr (Or.inr (Or.inr (Or.inr (Or.inr (Or.inl (i32_is (h.trans (by decide))))))))))
    · exact Or.inr (Or.inr (Or.inr (Or.inr (Or.inr (Or.inr (Or.inr (Or.inr (Or.inl (i32_is (h.trans (by decide)))))))))))
    · exact Or.inr (Or.inr (Or.inr (Or.inr (Or.inr (Or.inr (Or.inr (Or.inr (Or.inr (Or.inl (i32_is (h.trans (by decide))))))))))))
    · exact Or.inr (Or.inr (Or.inr (Or.inr (Or.inr (Or.inr (Or.inr (Or.inr (Or.inr (Or.inr (Or.inl (i32_is (h.trans (by decide)))))))))))))
    · exact Or.inr (Or.inr (Or.inr (Or.inr (Or.inr (Or.inr (Or.inr (Or.inr (Or.inr (Or.inr (Or.inr (Or.inl (i32_is (h.trans (by decide))))))))))))))
    · exact Or.inr (Or.inr (Or.inr (Or.inr (Or.inr (Or.inr (Or.inr (Or.inr (Or.inr (Or.inr (Or.inr (Or.inr (Or.inl (i32_is (h.trans (by decide)))))))))))))))
    · exact Or.inr (Or.inr (Or.inr (Or.inr (Or.inr (Or.inr (Or.inr (Or.inr (Or.inr (Or.inr (Or.inr (Or.inr (Or.inr (i32_is (h.trans (by decide)))))))))))))))
  rcases c_1 with c_1 | c_1 | c_1 | c_1 | c_1 | c_1 | c_1 | c_1 | c_1 | c_1 | c_1 | c_1 | c_1 | c_1
  · refine lv_tableOut (tgt := 183) hx hb dX8_count_1 c_1 (by decide) ?_
    refine lv_iconst (v := (-1)) hx hb dX8_count_183 (by decide) ?_
    exact x_iret hx hb hr hlk hP hD hS [0, 1, 2, 3] (()) rfl (by decide) trivial (by decide) (by decide) dX8_count_184
  · have ic_1 : x.toInt = 0 := ieq c_1 rfl (by decide)
    refine lv_is (y := 0) c_1 ?_
    refine lv_tableIn (off := 67) (tgt := 68) hx hb dX8_count_1 (by decide) (by decide) (by decide) (by decide) ?_
    refine lv_aload_n hx hb dX8_count_68 rfl (lv_at hl 0 rfl) ?_
    refine va_get (D := D) (ci := 8) (v := .ref (q 2)) (C := RX8) (T := TX8) (N := 13) hx hb htg gRX8 hown hK hP 0 rfl rfl 3 (by decide) (htg _ wi_470) (fun _ h9 => h9) rfl dX8_count_69 ?_
    refine va_getN (D := D) (ci := 3) (v := .int p0) (C := RX3) (T := TX3) (N := 16) hx hb htg gRX3 hown hK hP 1 rfl rfl 0 (by decide) (va_Nw.use rfl (hN.1 _ ni_172)) (fun _ h9 => h9) rfl dX8_count_72 ?_
    exact x_iret hx hb hr hlk hP hD hS [0, 1, 2, 3] (()) rfl (by decide) trivial (by decide) (by decide) dX8_count_75
  · have ic_1 : x.toInt = 1 := ieq c_1 rfl (by decide)
    refine lv_is (y := 1) c_1 ?_
    refine lv_tableIn (off := 75) (tgt := 76) hx hb dX8_count_1 (by decide) (by decide) (by decide) (by decide) ?_
    refine lv_aload_n hx hb dX8_count_76 rfl (lv_at hl 0 rfl) ?_
    refine va_get (D := D) (ci := 8) (v := .ref (q 2)) (C := RX8) (T := TX8) (N := 13) hx hb htg gRX8 hown hK hP 0 rfl rfl 3 (by decide) (htg _ wi_470) (fun _ h9 => h9) rfl dX8_count_77 ?_
    refine va_getN (D := D) (ci := 3) (v := .int p2) (C := RX3) (T := TX3) (N := 16) hx hb htg gRX3 hown hK hP 1 rfl rfl 2 (by decide) (va_Nw.use rfl (hN.1 _ ni_177)) (fun _ h9 => h9) rfl dX8_count_80 ?_
    exact x_iret hx hb hr hlk hP hD hS [0, 1, 2, 3] (()) rfl (by decide) trivial (by decide) (by decide) dX8_count_83
  · have ic_1 : x.toInt = 2 := ieq c_1 rfl (by decide)
    refine lv_is (y := 2) c_1 ?_
    refine lv_tableIn (off := 83) (tgt := 84) hx hb dX8_count_1 (by decide) (by decide) (by decide) (by decide) ?_
    refine lv_aload_n hx hb dX8_count_84 rfl (lv_at hl 0 rfl) ?_
    refine va_get (D := D) (ci := 8) (v := .ref (q 2)) (C := RX8) (T := TX8) (N := 13) hx hb htg gRX8 hown hK hP 0 rfl rfl 3 (by decide) (htg _ wi_470) (fun _ h9 => h9) rfl dX8_count_85 ?_
    refine xk_i (wr := [(sw_8 h0 q n1), (sw_in cT (q 12) 16 f0), (sw_in cT (q 16) 16 f4)]) (xr_VN (n := 0) (As := []) (rest := []) ⟨hx, hb, hml, hown, htg⟩ hK hN hP hD hS hA [1] rfl (by decide) (g_hangsOver l D cT _ ((q 2)) (fun k => [(q 12), (q 13), (q 14), (q 15), (q 16), (q 17)].getD k 0) (p0) (p1) (p2) (p3) (p4) (p5) (p6) (p7) (p8) (p9)) ni_796 wi_798 wi_36 wi_123 wi_799 rfl rfl rfl ⟨rfl, by decide +kernel⟩ ⟨Nat.le_of_ble_eq_true rfl, Nat.le_of_ble_eq_true rfl⟩ rfl hl.1 rfl (Nat.le_of_ble_eq_true rfl) dX8_count_88 ⟨Nat.le_of_ble_eq_true rfl, Nat.le_of_ble_eq_true rfl⟩) hP hD hS hA [1] [0, 2, 3] rfl rfl (by decide) (by decide) (fun r_3 u_2 H locs hwr_3 hP hD hS => ?_)
    obtain ⟨hP, hD⟩ : PD D A [(sw_8 h0 q n1), (sw_in cT (q 12) 16 f0), (sw_in cT (q 16) 16 f4), (sw_3 (q 2) p0 p1 p2 p3 p4 p5 p6 p7 p8 p9 (q 12) (q 13) (q 14) (q 15) (q 16) (q 17))] _ := ⟨hP, hD⟩
    exact x_iret hx hb hr hlk hP hD hS [0, 3, 1, 2] (()) rfl (by decide) trivial (by decide) (by decide) dX8_count_91
  · have ic_1 : x.toInt = 3 := ieq c_1 rfl (by decide)
    refine lv_is (y := 3) c_1 ?_
    refine lv_tableIn (off := 91) (tgt := 92) hx hb dX8_count_1 (by decide) (by decide) (by decide) (by decide) ?_
    refine lv_aload_n hx hb dX8_count_92 rfl (lv_at hl 0 rfl) ?_
    refine va_get (D := D) (ci := 8) (v := .ref (q 2)) (C := RX8) (T := TX8) (N := 13) hx hb htg gRX8 hown hK hP 0 rfl rfl 3 (by decide) (htg _ wi_470) (fun _ h9 => h9) rfl dX8_count_93 ?_
    refine va_getN (D := D) (ci := 3) (v := .int p4) (C := RX3) (T := TX3) (N := 16) hx hb htg gRX3 hown hK hP 1 rfl rfl 4 (by decide) (va_Nw.use rfl (hN.1 _ ni_183)) (fun _ h9 => h9) rfl dX8_count_96 ?_
    exact x_iret hx hb hr hlk hP hD hS [0, 1, 2, 3] (()) rfl (by decide) trivial (by decide) (by decide) dX8_count_99
  · have ic_1 : x.toInt = 4 := ieq c_1 rfl (by decide)
    refine lv_is (y := 4) c_1 ?_
    refine lv_tableIn (off := 99) (tgt := 100) hx hb dX8_count_1 (by decide) (by decide) (by decide) (by decide) ?_
    refine lv_aload_n hx hb dX8_count_100 rfl (lv_at hl 0 rfl) ?_
    refine va_get (D := D) (ci := 8) (v := .ref (q 2)) (C := RX8) (T := TX8) (N := 13) hx hb htg gRX8 hown hK hP 0 rfl rfl 3 (by decide) (htg _ wi_470) (fun _ h9 => h9) rfl dX8_count_101 ?_
    refine va_getN (D := D) (ci := 3) (v := .int p5) (C := RX3) (T := TX3) (N := 16) hx hb htg gRX3 hown hK hP 1 rfl rfl 5 (by decide) (va_Nw.use rfl (hN.1 _ ni_186)) (fun _ h9 => h9) rfl dX8_count_104 ?_
    exact x_iret hx hb hr hlk hP hD hS [0, 1, 2, 3] (()) rfl (by decide) trivial (by decide) (by decide) dX8_count_107
  · have ic_1 : x.toInt = 5 := ieq c_1 rfl (by decide)
    refine lv_is (y := 5) c_1 ?_
    refine lv_tableIn (off := 107) (tgt := 108) hx hb dX8_count_1 (by decide) (by decide) (by decide) (by decide) ?_
    refine lv_aload_n hx hb dX8_count_108 rfl (lv_at hl 0 rfl) ?_
    refine va_get (D := D) (ci := 8) (v := .ref (q 2)) (C := RX8) (T := TX8) (N := 13) hx hb htg gRX8 hown hK hP 0 rfl rfl 3 (by decide) (htg _ wi_470) (fun _ h9 => h9) rfl dX8_count_109 ?_
    refine va_getN (D := D) (ci := 3) (v := .int p6) (C := RX3) (T := TX3) (N := 16) hx hb htg gRX3 hown hK hP 1 rfl rfl 6 (by decide) (va_Nw.use rfl (hN.1 _ ni_189)) (fun _ h9 => h9) rfl dX8_count_112 ?_
    exact x_iret hx hb hr hlk hP hD hS [0, 1, 2, 3] (()) rfl (by decide) trivial (by decide) (by decide) dX8_count_115
  · have ic_1 : x.toInt = 6 := ieq c_1 rfl (by decide)
    refine lv_is (y := 6) c_1 ?_
    refine lv_tableIn (off := 115) (tgt := 116) hx hb dX8_count_1 (by decide) (by decide) (by decide) (by decide) ?_
    refine lv_aload_n hx hb dX8_count_116 rfl (lv_at hl 0 rfl) ?_
    refine va_get (D := D) (ci := 8) (v := .ref (q 2)) (C := RX8) (T := TX8) (N := 13) hx hb htg gRX8 hown hK hP 0 rfl rfl 3 (by decide) (htg _ wi_470) (fun _ h9 => h9) rfl dX8_count_117 ?_
    refine va_getN (D := D) (ci := 3) (v := .int p7) (C := RX3) (T := TX3) (N := 16) hx hb htg gRX3 hown hK hP 1 rfl rfl 7 (by decide) (va_Nw.use rfl (hN.1 _ ni_192)) (fun _ h9 => h9) rfl dX8_count_120 ?_
    exact x_iret hx hb hr hlk hP hD hS [0, 1, 2, 3] (()) rfl (by decide) trivial (by decide) (by decide) dX8_count_123
  · have ic_1 : x.toInt = 7 := ieq c_1 rfl (by decide)
    refine lv_is (y := 7) c_1 ?_
    refine lv_tableIn (off := 123) (tgt := 124) hx hb dX8_count_1 (by decide) (by decide) (by decide) (by decide) ?_
    refine lv_aload_n hx hb dX8_count_124 rfl (lv_at hl 0 rfl) ?_
    refine va_get (D := D) (ci := 8) (v := .ref (q 2)) (C := RX8) (T := TX8) (N := 13) hx hb htg gRX8 hown hK hP 0 rfl rfl 3 (by decide) (htg _ wi_470) (fun _ h9 => h9) rfl dX8_count_125 ?_
    refine va_getN (D := D) (ci := 3) (v := .int p8) (C := RX3) (T := TX3) (N := 16) hx hb htg gRX3 hown hK hP 1 rfl rfl 8 (by decide) (va_Nw.use rfl (hN.1 _ ni_195)) (fun _ h9 => h9) rfl dX8_count_128 ?_
    exact x_iret hx hb hr hlk hP hD hS [0, 1, 2, 3] (()) rfl (by decide) trivial (by decide) (by decide) dX8_count_131
  · have ic_1 : x.toInt = 8 := ieq c_1 rfl (by decide)
    refine lv_is (y := 8) c_1 ?_
    refine lv_tableIn (off := 131) (tgt := 132) hx hb dX8_count_1 (by decide) (by decide) (by decide) (by decide) ?_
    refine lv_aload_n hx hb dX8_count_132 rfl (lv_at hl 0 rfl) ?_
    refine va_get (D := D) (ci := 8) (v := .ref (q 2)) (C := RX8) (T := TX8) (N := 13) hx hb htg gRX8 hown hK hP 0 rfl rfl 3 (by decide) (htg _ wi_470) (fun _ h9 => h9) rfl dX8_count_133 ?_
    refine va_getN (D := D) (ci := 3) (v := .int p9) (C := RX3) (T := TX3) (N := 16) hx hb htg gRX3 hown hK hP 1 rfl rfl 9 (by decide) (va_Nw.use rfl (hN.1 _ ni_198)) (fun _ h9 => h9) rfl dX8_count_136 ?_
    exact x_iret hx hb hr hlk hP hD hS [0, 1, 2, 3] (()) rfl (by decide) trivial (by decide) (by decide) dX8_count_139
  · have ic_1 : x.toInt = 9 := ieq c_1 rfl (by decide)
    refine lv_is (y := 9) c_1 ?_
    refine lv_tableIn (off := 139) (tgt := 140) hx hb dX8_count_1 (by decide) (by decide) (by decide) (by decide) ?_
    refine lv_aload_n hx hb dX8_count_140 rfl (lv_at hl 0 rfl) ?_
    refine va_get (D := D) (ci := 8) (v := .ref (q 2)) (C := RX8) (T := TX8) (N := 13) hx hb htg gRX8 hown hK hP 0 rfl rfl 3 (by decide) (htg _ wi_470) (fun _ h9 => h9) rfl dX8_count_141 ?_
    refine lv_aload_n hx hb dX8_count_144 rfl (lv_at hl 0 rfl) ?_
    refine va_get (D := D) (ci := 8) (v := .ref (q 2)) (C := RX8) (T := TX8) (N := 13) hx hb htg gRX8 hown hK hP 0 rfl rfl 3 (by decide) (htg _ wi_470) (fun _ h9 => h9) rfl dX8_count_145 ?_
    refine va_getN (D := D) (ci := 3) (v := .ref (q 12)) (C := RX3) (T := TX3) (N := 16) hx hb htg gRX3 hown hK hP 1 rfl rfl 10 (by decide) (va_Nw.use rfl (hN.1 _ ni_202)) (fun _ h9 => h9) rfl dX8_count_148 ?_
    refine xk_i (wr := [(sw_8 h0 q n1), (sw_in cT (q 16) 16 f4)]) (xr_VN (n := 1) (As := [.ref (q 12)]) (rest := []) ⟨hx, hb, hml, hown, htg⟩ hK hN hP hD hS hA [1, 2] rfl (by decide) (g_sum l D cT _ ((q 2)) (fun k => [(q 12), (q 13), (q 14), (q 15), (q 16), (q 17)].getD k 0) (p0) (p1) (p2) (p3) (p4) (p5) (p6) (p7) (p8) (p9) (by first | assumption | decide | omega | (simp only [ti_0, ti_1, ti_2, ti_3, ti_4, ti_5, ti_6, ti_7, ti_8, ti_9, ti_10, ti_11, ti_12, ti_m1]; omega)) ((q 12)) (f0)) ni_792 wi_794 wi_35 wi_123 wi_795 rfl rfl rfl ⟨rfl, by decide +kernel⟩ ⟨Nat.le_of_ble_eq_true rfl, Nat.le_of_ble_eq_true rfl⟩ rfl hl.1 rfl (Nat.le_of_ble_eq_true rfl) dX8_count_151 ⟨Nat.le_of_ble_eq_true rfl, Nat.le_of_ble_eq_true rfl⟩) hP hD hS hA [1, 2] [0, 3] rfl rfl (by decide) (by decide) (fun r_5 u_4 H locs hwr_5 hP hD hS => ?_)
    obtain ⟨hP, hD⟩ : PD D A [(sw_8 h0 q n1), (sw_in cT (q 16) 16 f4), (sw_3 (q 2) p0 p1 p2 p3 p4 p5 p6 p7 p8 p9 (q 12) (q 13) (q 14) (q 15) (q 16) (q 17)), (sw_in cT (q 12) 16 f0)] _ := ⟨hP, hD⟩
    exact x_iret hx hb hr hlk hP hD hS [0, 2, 3, 1] (()) rfl (by decide) trivial (by decide) (by decide) dX8_count_154
  · have ic_1 : x.toInt = 10 := ieq c_1 rfl (by decide)
    refine lv_is (y := 10) c_1 ?_
    refine lv_tableIn (off := 154) (tgt := 155) hx hb dX8_count_1 (by decide) (by decide) (by decide) (by decide) ?_
    refine lv_aload_n hx hb dX8_count_155 rfl (lv_at hl 0 rfl) ?_
    refine va_get (D := D) (ci := 8) (v := .ref (q 2)) (C := RX8) (T := TX8) (N := 13) hx hb htg gRX8 hown hK hP 0 rfl rfl 3 (by decide) (htg _ wi_470) (fun _ h9 => h9) rfl dX8_count_156 ?_
    refine lv_aload_n hx hb dX8_count_159 rfl (lv_at hl 0 rfl) ?_
    refine va_get (D := D) (ci := 8) (v := .ref (q 2)) (C := RX8) (T := TX8) (N := 13) hx hb htg gRX8 hown hK hP 0 rfl rfl 3 (by decide) (htg _ wi_470) (fun _ h9 => h9) rfl dX8_count_160 ?_
    refine va_getN (D := D) (ci := 3) (v := .ref (q 16)) (C := RX3) (T := TX3) (N := 16) hx hb htg gRX3 hown hK hP 1 rfl rfl 14 (by decide) (va_Nw.use rfl (hN.1 _ ni_212)) (fun _ h9 => h9) rfl dX8_count_163 ?_
    refine xk_i (wr := [(sw_8 h0 q n1), (sw_in cT (q 12) 16 f0)]) (xr_VN (n := 1) (As := [.ref (q 16)]) (rest := []) ⟨hx, hb, hml, hown, htg⟩ hK hN hP hD hS hA [1, 3] rfl (by decide) (g_sum l D cT _ ((q 2)) (fun k => [(q 12), (q 13), (q 14), (q 15), (q 16), (q 17)].getD k 0) (p0) (p1) (p2) (p3) (p4) (p5) (p6) (p7) (p8) (p9) (by first | assumption | decide | omega | (simp only [ti_0, ti_1, ti_2, ti_3, ti_4, ti_5, ti_6, ti_7, ti_8, ti_9, ti_10, ti_11, ti_12, ti_m1]; omega)) ((q 16)) (f4)) ni_792 wi_794 wi_35 wi_123 wi_795 rfl rfl rfl ⟨rfl, by decide +kernel⟩ ⟨Nat.le_of_ble_eq_true rfl, Nat.le_of_ble_eq_true rfl⟩ rfl hl.1 rfl (Nat.le_of_ble_eq_true rfl) dX8_count_166 ⟨Nat.le_of_ble_eq_true rfl, Nat.le_of_ble_eq_true rfl⟩) hP hD hS hA [1, 3] [0, 2] rfl rfl (by decide) (by decide) (fun r_7 u_6 H locs hwr_7 hP hD hS => ?_)
    obtain ⟨hP, hD⟩ : PD D A [(sw_8 h0 q n1), (sw_in cT (q 12) 16 f0), (sw_3 (q 2) p0 p1 p2 p3 p4 p5 p6 p7 p8 p9 (q 12) (q 13) (q 14) (q 15) (q 16) (q 17)), (sw_in cT (q 16) 16 f4)] _ := ⟨hP, hD⟩
    exact x_iret hx hb hr hlk hP hD hS [0, 2, 1, 3] (()) rfl (by decide) trivial (by decide) (by decide) dX8_count_169
  · have ic_1 : x.toInt = 11 := ieq c_1 rfl (by decide)
    refine lv_is (y := 11) c_1 ?_
    refine lv_tableIn (off := 169) (tgt := 170) hx hb dX8_count_1 (by decide) (by decide) (by decide) (by decide) ?_
    refine lv_aload_n hx hb dX8_count_170 rfl (lv_at hl 0 rfl) ?_
    refine va_get (D := D) (ci := 8) (v := .int n1) (C := RX8) (T := TX8) (N := 13) hx hb htg gRX8 hown hK hP 0 rfl rfl 1 (by decide) (htg _ wi_468) (fun _ h9 => h9) rfl dX8_count_171 ?_
    exact x_iret hx hb hr hlk hP hD hS [0, 1, 2, 3] (()) rfl (by decide) trivial (by decide) (by decide) dX8_count_174
  · have ic_1 : x.toInt = 12 := ieq c_1 rfl (by decide)
    refine lv_is (y := 12) c_1 ?_
    refine lv_tableIn (off := 174) (tgt := 175) hx hb dX8_count_1 (by decide) (by decide) (by decide) (by decide) ?_
    refine lv_aload_n hx hb dX8_count_175 rfl (lv_at hl 0 rfl) ?_
    refine va_get (D := D) (ci := 8) (v := .ref (q 2)) (C := RX8) (T := TX8) (N := 13) hx hb htg gRX8 hown hK hP 0 rfl rfl 3 (by decide) (htg _ wi_470) (fun _ h9 => h9) rfl dX8_count_176 ?_
    refine va_getN (D := D) (ci := 3) (v := .int p1) (C := RX3) (T := TX3) (N := 16) hx hb htg gRX3 hown hK hP 1 rfl rfl 1 (by decide) (va_Nw.use rfl (hN.1 _ ni_174)) (fun _ h9 => h9) rfl dX8_count_179 ?_
    exact x_iret hx hb hr hlk hP hD hS [0, 1, 2, 3] (()) rfl (by decide) trivial (by decide) (by decide) dX8_count_182
set_option maxHeartbeats 4000000 in
set_option maxRecDepth 100000 in
theorem g_k_halts (l : Launch) (D : va_G) (cT : Nat → ClassId) (sz : Nat) (h0 : Nat) (q : Nat → Nat) (n1 : Int32) (hn1 : 0 ≤ n1.toInt ∧ n1.toInt ≤ 900) (p0 : Int32) (p1 : Int32) (p2 : Int32) (p3 : Int32) (p4 : Int32) (p5 : Int32) (p6 : Int32) (p7 : Int32) (p8 : Int32) (p9 : Int32) (hs : 0 ≤ p0.toInt ∧ p0.toInt ≤ 16) (hat : 0 ≤ p3.toInt ∧ p3.toInt ≤ 15) (x : Int32) (f2 : Nat → Int32) (c0 : Nat → Int32) (c1 : Nat → Int32) : Met l yX8_halts (wsc yX8_halts cX8_halts 2 (some .int)) { frames := 22, cells := 0, slots := 0, locals := 631 } (va_Pc [.ref h0, .int x] (PX D cT sz [(sw_8 h0 q n1), (sw_3 (q 2) p0 p1 p2 p3 p4 p5 p6 p7 p8 p9 (q 12) (q 13) (q 14) (q 15) (q 16) (q 17)), (sw_in cT (q 14) 16 f2), (sw_0 (q 11) (q 48) (q 49)), (sw_in cT (q 48) 16 c0), (sw_in cT (q 49) 16 c1)])) (va_Qi (fun (r : Int32) (u : (Nat → Int32) × (Nat → Int32)) => True) (fun u t => RW D (va_A [(sw_8 h0 q n1), (sw_3 (q 2) p0 p1 p2 p3 p4 p5 p6 p7 p8 p9 (q 12) (q 13) (q 14) (q 15) (q 16) (q 17)), (sw_in cT (q 14) 16 f2), (sw_0 (q 11) (q 48) (q 49)), (sw_in cT (q 48) 16 c0), (sw_in cT (q 49) 16 c1)] sz) ((fun u : (Nat → Int32) × (Nat → Int32) => [(sw_8 h0 q n1), (sw_3 (q 2) p0 p1 p2 p3 p4 p5 p6 p7 p8 p9 (q 12) (q 13) (q 14) (q 15) (q 16) (q 17)), (sw_in cT (q 14) 16 f2), (sw_0 (q 11) (q 48) (q 49)), (sw_in cT (q 48) 16 u.1), (sw_in cT (q 49) 16 u.2)]) u) t) (va_A [(sw_8 h0 q n1), (sw_3 (q 2) p0 p1 p2 p3 p4 p5 p6 p7 p8 p9 (q 12) (q 13) (q 14) (q 15) (q 16) (q 17)), (sw_in cT (q 14) 16 f2), (sw_0 (q 11) (q 48) (q 49)), (sw_in cT (q 48) 16 c0), (sw_in cT (q 49) 16 c1)] sz)) 0 0 (va_A [(sw_8 h0 q n1), (sw_3 (q 2) p0 p1 p2 p3 p4 p5 p6 p7 p8 p9 (q 12) (q 13) (q 14) (q 15) (q 16) (q 17)), (sw_in cT (q 14) 16 f2), (sw_0 (q 11) (q 48) (q 49)), (sw_in cT (q 48) 16 c0), (sw_in cT (q 49) 16 c1)] sz) := by
  refine m_of (y := yX8_halts) (cc := cX8_halts) (nL := 2) (ret := (some .int)) (D := D) (cT := cT) (av := [.ref h0, .int x]) (wi := [(sw_8 h0 q n1), (sw_3 (q 2) p0 p1 p2 p3 p4 p5 p6 p7 p8 p9 (q 12) (q 13) (q 14) (q 15) (q 16) (q 17)), (sw_in cT (q 14) 16 f2), (sw_0 (q 11) (q 48) (q 49)), (sw_in cT (q 48) 16 c0), (sw_in cT (q 49) 16 c1)]) (fun A => va_Qi (fun (r : Int32) (u : (Nat → Int32) × (Nat → Int32)) => True) (fun u t => RW D A ((fun u : (Nat → Int32) × (Nat → Int32) => [(sw_8 h0 q n1), (sw_3 (q 2) p0 p1 p2 p3 p4 p5 p6 p7 p8 p9 (q 12) (q 13) (q 14) (q 15) (q 16) (q 17)), (sw_in cT (q 14) 16 f2), (sw_0 (q 11) (q 48) (q 49)), (sw_in cT (q 48) 16 u.1), (sw_in cT (q 49) 16 u.2)]) u) t) A) (by decide) (Nat.le_of_ble_eq_true rfl) ?_
  intro p e s m below meth c A hx hb hml hown htg hK hN hr hlk hnm hsz hP hD hS hA ls hl
  have hown : s.vm.findClass RX8 = some m.cls := hown
  have hl : lv_has ls 2 [(0, .ref h0), (1, .int x)] := hl
  refine lv_aload_n hx hb dX8_halts_0 rfl (lv_at hl 0 rfl) ?_
  refine va_get (D := D) (ci := 8) (v := .ref (q 2)) (C := RX8) (T := TX8) (N := 13) hx hb htg gRX8 hown hK hP 0 rfl rfl 3 (by decide) (htg _ wi_470) (fun _ h9 => h9) rfl dX8_halts_1 ?_
  refine lv_iload_n hx hb dX8_halts_4 rfl (lv_at hl 1 rfl) ?_
  refine xk_i (wr := [(sw_8 h0 q n1), (sw_in cT (q 14) 16 f2), (sw_0 (q 11) (q 48) (q 49)), (sw_in cT (q 48) 16 c0), (sw_in cT (q 49) 16 c1)]) (xr_VN (n := 1) (As := [.int x]) (rest := []) ⟨hx, hb, hml, hown, htg⟩ hK hN hP hD hS hA [1] rfl (by decide) (g_areStrips l D cT _ ((q 2)) (fun k => [(q 12), (q 13), (q 14), (q 15), (q 16), (q 17)].getD k 0) (p0) (p1) (p2) (p3) (p4) (p5) (p6) (p7) (p8) (p9) (x)) ni_733 wi_735 wi_27 wi_123 wi_736 rfl rfl rfl ⟨rfl, by decide +kernel⟩ ⟨Nat.le_of_ble_eq_true rfl, Nat.le_of_ble_eq_true rfl⟩ rfl hl.1 rfl (Nat.le_of_ble_eq_true rfl) dX8_halts_5 ⟨Nat.le_of_ble_eq_true rfl, Nat.le_of_ble_eq_true rfl⟩) hP hD hS hA [1] [0, 2, 3, 4, 5] rfl rfl (by decide) (by decide) (fun r_2 u_1 H locs hwr_2 hP hD hS => ?_)
  obtain ⟨hP, hD⟩ : PD D A [(sw_8 h0 q n1), (sw_in cT (q 14) 16 f2), (sw_0 (q 11) (q 48) (q 49)), (sw_in cT (q 48) 16 c0), (sw_in cT (q 49) 16 c1), (sw_3 (q 2) p0 p1 p2 p3 p4 p5 p6 p7 p8 p9 (q 12) (q 13) (q 14) (q 15) (q 16) (q 17))] _ := ⟨hP, hD⟩
  refine lv_if_ne (tgt := 14) hx hb dX8_halts_8 (by decide) (fun c_3 => ?_) (fun c_3 => ?_)
  · have ic_3 : ¬ r_2.toInt = 0 := ine c_3 (rfl) (by decide)
    refine lv_aload_n hx hb dX8_halts_14 rfl (lv_at hl 0 rfl) ?_
    refine va_get (D := D) (ci := 8) (v := .ref (q 11)) (C := RX8) (T := TX8) (N := 13) hx hb htg gRX8 hown hK hP 0 rfl rfl 12 (by decide) (htg _ wi_479) (fun _ h9 => h9) rfl dX8_halts_15 ?_
    refine lv_aload_n hx hb dX8_halts_18 rfl (lv_at hl 0 rfl) ?_
    refine va_get (D := D) (ci := 8) (v := .ref (q 2)) (C := RX8) (T := TX8) (N := 13) hx hb htg gRX8 hown hK hP 0 rfl rfl 3 (by decide) (htg _ wi_470) (fun _ h9 => h9) rfl dX8_halts_19 ?_
    refine lv_iload_n hx hb dX8_halts_22 rfl (lv_at hl 1 rfl) ?_
    refine xk_i (wr := [(sw_8 h0 q n1)]) (xr_VN (n := 2) (As := [.ref (q 2), .int x]) (rest := []) ⟨hx, hb, hml, hown, htg⟩ hK hN hP hD hS hA [2, 3, 4, 5, 1] rfl (by decide) (g_fewest l D cT _ ((q 11)) ((q 48)) ((q 49)) (c0) (c1) ((q 2)) (fun k => [(q 12), (q 13), (q 14), (q 15), (q 16), (q 17)].getD k 0) (p0) (p1) (p2) (p3) (p4) (p5) (p6) (p7) (p8) (p9) (by first | assumption | decide | omega | (simp only [ti_0, ti_1, ti_2, ti_3, ti_4, ti_5, ti_6, ti_7, ti_8, ti_9, ti_10, ti_11, ti_12, ti_m1]; omega)) (f2) (x)) ni_1012 wi_1014 wi_65 wi_129 wi_1015 rfl rfl rfl ⟨rfl, by decide +kernel⟩ ⟨Nat.le_of_ble_eq_true rfl, Nat.le_of_ble_eq_true rfl⟩ rfl hl.1 rfl (Nat.le_of_ble_eq_true rfl) dX8_halts_23 ⟨Nat.le_of_ble_eq_true rfl, Nat.le_of_ble_eq_true rfl⟩) hP hD hS hA [2, 3, 4, 5, 1] [0] rfl rfl (by decide) (by decide) (fun r_5 u_4 H locs hwr_5 hP hD hS => ?_)
    obtain ⟨hP, hD⟩ : PD D A [(sw_8 h0 q n1), (sw_0 (q 11) (q 48) (q 49)), (sw_in cT (q 48) 16 u_4.1), (sw_in cT (q 49) 16 u_4.2), (sw_3 (q 2) p0 p1 p2 p3 p4 p5 p6 p7 p8 p9 (q 12) (q 13) (q 14) (q 15) (q 16) (q 17)), (sw_in cT (q 14) 16 f2)] _ := ⟨hP, hD⟩
    exact x_iret hx hb hr hlk hP hD hS [0, 4, 5, 1, 2, 3] ((u_4.1, u_4.2)) rfl (by decide) trivial (by decide) (by decide) dX8_halts_26
  · have ic_3 : r_2.toInt = 0 := ieq c_3 (rfl) (by decide)
    refine lv_bipush (v := (-3)) hx hb dX8_halts_11 (by decide) ?_
    exact x_iret hx hb hr hlk hP hD hS [0, 5, 1, 2, 3, 4] ((c0, c1)) rfl (by decide) trivial (by decide) (by decide) dX8_halts_13
