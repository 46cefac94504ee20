set_option maxHeartbeats 4000000 in
set_option maxRecDepth 100000 in
theorem g_target (l : Launch) (D : va_G) (cT : Nat → ClassId) (sz : Nat) (h0 : Nat) (a : Nat → Nat) (p0 : Int32) (p1 : Int32) (p2 : Int32) (p3 : Int32) (p4 : Int32) (p5 : Int32) (p6 : Int32) (p7 : Int32) (p8 : Int32) (p9 : Int32) (x : Int32) (hxx : 0 ≤ x.toInt ∧ x.toInt ≤ 15) (v : Int64) : Met l yX3_target (wsc yX3_target cX3_target 5 (some .int)) { frames := 3, cells := 0, slots := 0, locals := 121 } (va_Pc [.ref h0, .int x, .long v] (PX D cT sz [(h0, .inr (3, [.int p0, .int p1, .int p2, .int p3, .int p4, .int p5, .int p6, .int p7, .int p8, .int p9, .ref (a 0), .ref (a 1), .ref (a 2), .ref (a 3), .ref (a 4), .ref (a 5)]))])) (va_Qi (fun (r : Int32) (u : Unit) => r.toInt = tgtI x.toInt v.toInt p0.toInt) (fun u t => RW D (va_A [(h0, .inr (3, [.int p0, .int p1, .int p2, .int p3, .int p4, .int p5, .int p6, .int p7, .int p8, .int p9, .ref (a 0), .ref (a 1), .ref (a 2), .ref (a 3), .ref (a 4), .ref (a 5)]))] sz) ((fun _ : Unit => [(h0, .inr (3, [.int p0, .int p1, .int p2, .int p3, .int p4, .int p5, .int p6, .int p7, .int p8, .int p9, .ref (a 0), .ref (a 1), .ref (a 2), .ref (a 3), .ref (a 4), .ref (a 5)]))]) u) t) (va_A [(h0, .inr (3, [.int p0, .int p1, .int p2, .int p3, .int p4, .int p5, .int p6, .int p7, .int p8, .int p9, .ref (a 0), .ref (a 1), .ref (a 2), .ref (a 3), .ref (a 4), .ref (a 5)]))] sz)) 0 0 (va_A [(h0, .inr (3, [.int p0, .int p1, .int p2, .int p3, .int p4, .int p5, .int p6, .int p7, .int p8, .int p9, .ref (a 0), .ref (a 1), .ref (a 2), .ref (a 3), .ref (a 4), .ref (a 5)]))] sz) := by
  refine m_of (y := yX3_target) (cc := cX3_target) (nL := 5) (ret := (some .int)) (D := D) (cT := cT) (av := [.ref h0, .int x, .long v]) (wi := [(h0, .inr (3, [.int p0, .int p1, .int p2, .int p3, .int p4, .int p5, .int p6, .int p7, .int p8, .int p9, .ref (a 0), .ref (a 1), .ref (a 2), .ref (a 3), .ref (a 4), .ref (a 5)]))]) (fun A => va_Qi (fun (r : Int32) (u : Unit) => r.toInt = tgtI x.toInt v.toInt p0.toInt) (fun u t => RW D A ((fun _ : Unit => [(h0, .inr (3, [.int p0, .int p1, .int p2, .int p3, .int p4, .int p5, .int p6, .int p7, .int p8, .int p9, .ref (a 0), .ref (a 1), .ref (a 2), .ref (a 3), .ref (a 4), .ref (a 5)]))]) u) t) A) (by decide) (Nat.le_of_ble_eq_true rfl) ?_
  intro p e s m below meth c A hx hb hml hown htg hK hN hr hlk hnm hsz hP hD hS hA ls hl
  have hown : s.vm.findClass RX3 = some m.cls := hown
  have hl : lv_has ls 5 [(0, .ref h0), (1, .int x), (2, .long v)] := hl
  refine lv_iload_n hx hb dX3_target_0 rfl (lv_at hl 1 rfl) ?_
  refine lv_istore (lv' := [(4, .int x), (0, .ref h0), (1, .int x), (2, .long v)]) hx hb dX3_target_1 hl (by decide) rfl (fun ls hl => ?_)
  refine lv_lload_n hx hb dX3_target_3 rfl (lv_at hl 3 rfl) ?_
  refine lv_lconst (v := 1) hx hb dX3_target_4 (by decide) ?_
  refine W.lcmp hx hb dX3_target_5 ?_
  refine lv_if_ne (tgt := 17) hx hb dX3_target_6 (by decide) (fun c_1 => ?_) (fun c_1 => ?_)
  · have ic_1 : ¬ v.toInt = 1 := lgc_ne c_1 (rfl) (by decide)
    refine lv_lload_n hx hb dX3_target_17 rfl (lv_at hl 3 rfl) ?_
    refine lv_ldc2 (v := 2) hx hb hown (htg _ wi_766) dX3_target_18 ?_
    refine W.lcmp hx hb dX3_target_21 ?_
    refine lv_if_ne (tgt := 33) hx hb dX3_target_22 (by decide) (fun c_2 => ?_) (fun c_2 => ?_)
    · have ic_2 : ¬ v.toInt = 2 := lgc_ne c_2 (rfl) (by decide)
      refine lv_lload_n hx hb dX3_target_33 rfl (lv_at hl 3 rfl) ?_
      refine lv_lconst (v := 0) hx hb dX3_target_34 (by decide) ?_
      refine W.lcmp hx hb dX3_target_35 ?_
      refine lv_if_eq (tgt := 41) hx hb dX3_target_36 (by decide) (fun c_3 => ?_) (fun c_3 => ?_)
      · have ic_3 : v.toInt = 0 := lgc_eq c_3 (rfl) (by decide)
        refine lv_aload_n hx hb dX3_target_41 rfl (lv_at hl 1 rfl) ?_
        refine lv_iload hx hb dX3_target_42 (lv_at hl 0 rfl) ?_
        refine xk_i (wr := []) (xr_V (n := 1) (As := [.int x]) (rest := []) ⟨hx, hb, hml, hown, htg⟩ hK hN hP hD [0] rfl (by decide) (g_hasStrip l D cT _ (h0) (a) (p0) (p1) (p2) (p3) (p4) (p5) (p6) (p7) (p8) (p9) (x)) wi_767 wi_668 wi_18 wi_123 wi_669 rfl rfl rfl ⟨rfl, by decide +kernel⟩ ⟨Nat.le_of_ble_eq_true rfl, Nat.le_of_ble_eq_true rfl⟩ rfl hl.1 rfl (Nat.le_of_ble_eq_true rfl) dX3_target_44 ⟨Nat.le_of_ble_eq_true rfl, Nat.le_of_ble_eq_true rfl⟩) hP hD hS hA [0] [] rfl rfl (by decide) (by decide) (fun r_5 u_4 H locs hwr_5 hP hD hS => ?_)
        have hP : va_P D classes [(h0, .inr (3, [.int p0, .int p1, .int p2, .int p3, .int p4, .int p5, .int p6, .int p7, .int p8, .int p9, .ref (a 0), .ref (a 1), .ref (a 2), .ref (a 3), .ref (a 4), .ref (a 5)]))] _ := hP
        have hD : va_D A [(h0, .inr (3, [.int p0, .int p1, .int p2, .int p3, .int p4, .int p5, .int p6, .int p7, .int p8, .int p9, .ref (a 0), .ref (a 1), .ref (a 2), .ref (a 3), .ref (a 4), .ref (a 5)]))] := hD
        have hwr_5 : r_5 = if 0 ≤ x.toInt ∧ x.toInt < p0.toInt then 1 else 0 := hwr_5
        refine lv_if_eq (tgt := 55) hx hb dX3_target_47 (by decide) (fun c_6 => ?_) (fun c_6 => ?_)
        · have ic_6 := if0 hwr_5 c_6
          refine lv_iconst (v := (-1)) hx hb dX3_target_55 (by decide) ?_
          exact x_iret hx hb hr hlk hP hD hS [0] (()) rfl (by decide) (by unfold tgtI; first | (rw [show (-1 : Int32).toInt = -1 from by decide]; repeat (first | rw [if_pos (by omega)] | rw [if_neg (by omega)])) | (repeat (first | rw [if_pos (by omega)] | rw [if_neg (by omega)]); omega)) (by decide) (by decide) dX3_target_56
        · have ic_6 := if1 hwr_5 c_6
          refine lv_iload hx hb dX3_target_50 (lv_at hl 0 rfl) ?_
          refine lv_goto (tgt := 56) hx hb dX3_target_52 (by decide) ?_
          exact x_iret hx hb hr hlk hP hD hS [0] (()) rfl (by decide) (by unfold tgtI; repeat (first | rw [if_pos (by omega)] | rw [if_neg (by omega)]); try omega) (by decide) (by decide) dX3_target_56
      · have ic_3 : ¬ v.toInt = 0 := lgc_ne c_3 (rfl) (by decide)
        refine lv_iconst (v := (-1)) hx hb dX3_target_39 (by decide) ?_
        exact x_iret hx hb hr hlk hP hD hS [0] (()) rfl (by decide) (by unfold tgtI; first | (rw [show (-1 : Int32).toInt = -1 from by decide]; repeat (first | rw [if_pos (by omega)] | rw [if_neg (by omega)])) | (repeat (first | rw [if_pos (by omega)] | rw [if_neg (by omega)]); omega)) (by decide) (by decide) dX3_target_40
    · have ic_2 : v.toInt = 2 := lgc_eq c_2 (rfl) (by decide)
      refine lv_iload_n hx hb dX3_target_25 rfl (lv_at hl 2 rfl) ?_
      refine lv_iconst (v := 1) hx hb dX3_target_26 (by decide) ?_
      refine lv_iadd hx hb dX3_target_27 ?_
      refine lv_topi (fun z_7 ez_7 => ?_)
      have iz_7 : z_7.toInt = x.toInt + 1 := toInt_addI ez_7 (rfl) (by decide) (by omega)
      refine lv_istore (lv' := [(4, .int z_7), (0, .ref h0), (1, .int x), (2, .long v)]) hx hb dX3_target_28 hl (by decide) rfl (fun ls hl => ?_)
      refine lv_goto (tgt := 41) hx hb dX3_target_30 (by decide) ?_
      refine lv_aload_n hx hb dX3_target_41 rfl (lv_at hl 1 rfl) ?_
      refine lv_iload hx hb dX3_target_42 (lv_at hl 0 rfl) ?_
      refine xk_i (wr := []) (xr_V (n := 1) (As := [.int z_7]) (rest := []) ⟨hx, hb, hml, hown, htg⟩ hK hN hP hD [0] rfl (by decide) (g_hasStrip l D cT _ (h0) (a) (p0) (p1) (p2) (p3) (p4) (p5) (p6) (p7) (p8) (p9) (z_7)) wi_767 wi_668 wi_18 wi_123 wi_669 rfl rfl rfl ⟨rfl, by decide +kernel⟩ ⟨Nat.le_of_ble_eq_true rfl, Nat.le_of_ble_eq_true rfl⟩ rfl hl.1 rfl (Nat.le_of_ble_eq_true rfl) dX3_target_44 ⟨Nat.le_of_ble_eq_true rfl, Nat.le_of_ble_eq_true rfl⟩) hP hD hS hA [0] [] rfl rfl (by decide) (by decide) (fun r_9 u_8 H locs hwr_9 hP hD hS => ?_)
      have hP : va_P D classes [(h0, .inr (3, [.int p0, .int p1, .int p2, .int p3, .int p4, .int p5, .int p6, .int p7, .int p8, .int p9, .ref (a 0), .ref (a 1), .ref (a 2), .ref (a 3), .ref (a 4), .ref (a 5)]))] _ := hP
      have hD : va_D A [(h0, .inr (3, [.int p0, .int p1, .int p2, .int p3, .int p4, .int p5, .int p6, .int p7, .int p8, .int p9, .ref (a 0), .ref (a 1), .ref (a 2), .ref (a 3), .ref (a 4), .ref (a 5)]))] := hD
      have hwr_9 : r_9 = if 0 ≤ z_7.toInt ∧ z_7.toInt < p0.toInt then 1 else 0 := hwr_9
      refine lv_if_eq (tgt := 55) hx hb dX3_target_47 (by decide) (fun c_10 => ?_) (fun c_10 => ?_)
      · have ic_10 := if0 hwr_9 c_10
        refine lv_iconst (v := (-1)) hx hb dX3_target_55 (by decide) ?_
        exact x_iret hx hb hr hlk hP hD hS [0] (()) rfl (by decide) (by unfold tgtI; first | (rw [show (-1 : Int32).toInt = -1 from by decide]; repeat (first | rw [if_pos (by omega)] | rw [if_neg (by omega)])) | (repeat (first | rw [if_pos (by omega)] | rw [if_neg (by omega)]); omega)) (by decide) (by decide) dX3_target_56
      · have ic_10 := if1 hwr_9 c_10
        refine lv_iload hx hb dX3_target_50 (lv_at hl 0 rfl) ?_
        refine lv_goto (tgt := 56) hx hb dX3_target_52 (by decide) ?_
        exact x_iret hx hb hr hlk hP hD hS [0] (()) rfl (by decide) (by unfold tgtI; repeat (first | rw [if_pos (by omega)] | rw [if_neg (by omega)]); try omega) (by decide) (by decide) dX3_target_56
  · have ic_1 : v.toInt = 1 := lgc_eq c_1 (rfl) (by decide)
    refine lv_iload_n hx hb dX3_target_9 rfl (lv_at hl 2 rfl) ?_
    refine lv_iconst (v := 1) hx hb dX3_target_10 (by decide) ?_
    refine lv_isub hx hb dX3_target_11 ?_
    refine lv_topi (fun z_11 ez_11 => ?_)
    have iz_11 : z_11.toInt = x.toInt - 1 := toInt_subI ez_11 (rfl) (by decide) (by omega)
    refine lv_istore (lv' := [(4, .int z_11), (0, .ref h0), (1, .int x), (2, .long v)]) hx hb dX3_target_12 hl (by decide) rfl (fun ls hl => ?_)
    refine lv_goto (tgt := 41) hx hb dX3_target_14 (by decide) ?_
    refine lv_aload_n hx hb dX3_target_41 rfl (lv_at hl 1 rfl) ?_
    refine lv_iload hx hb dX3_target_42 (lv_at hl 0 rfl) ?_
    refine xk_i (wr := []) (xr_V (n := 1) (As := [.int z_11]) (rest := []) ⟨hx, hb, hml, hown, htg⟩ hK hN hP hD [0] rfl (by decide) (g_hasStrip l D cT _ (h0) (a) (p0) (p1) (p2) (p3) (p4) (p5) (p6) (p7) (p8) (p9) (z_11)) wi_767 wi_668 wi_18 wi_123 wi_669 rfl rfl rfl ⟨rfl, by decide +kernel⟩ ⟨Nat.le_of_ble_eq_true rfl, Nat.le_of_ble_eq_true rfl⟩ rfl hl.1 rfl (Nat.le_of_ble_eq_true rfl) dX3_target_44 ⟨Nat.le_of_ble_eq_true rfl, Nat.le_of_ble_eq_true rfl⟩) hP hD hS hA [0] [] rfl rfl (by decide) (by decide) (fun r_13 u_12 H locs hwr_13 hP hD hS => ?_)
    have hP : va_P D classes [(h0, .inr (3, [.int p0, .int p1, .int p2, .int p3, .int p4, .int p5, .int p6, .int p7, .int p8, .int p9, .ref (a 0), .ref (a 1), .ref (a 2), .ref (a 3), .ref (a 4), .ref (a 5)]))] _ := hP
    have hD : va_D A [(h0, .inr (3, [.int p0, .int p1, .int p2, .int p3, .int p4, .int p5, .int p6, .int p7, .int p8, .int p9, .ref (a 0), .ref (a 1), .ref (a 2), .ref (a 3), .ref (a 4), .ref (a 5)]))] := hD
    have hwr_13 : r_13 = if 0 ≤ z_11.toInt ∧ z_11.toInt < p0.toInt then 1 else 0 := hwr_13
    refine lv_if_eq (tgt := 55) hx hb dX3_target_47 (by decide) (fun c_14 => ?_) (fun c_14 => ?_)
    · have ic_14 := if0 hwr_13 c_14
      refine lv_iconst (v := (-1)) hx hb dX3_target_55 (by decide) ?_
      exact x_iret hx hb hr hlk hP hD hS [0] (()) rfl (by decide) (by unfold tgtI; first | (rw [show (-1 : Int32).toInt = -1 from by decide]; repeat (first | rw [if_pos (by omega)] | rw [if_neg (by omega)])) | (repeat (first | rw [if_pos (by omega)] | rw [if_neg (by omega)]); omega)) (by decide) (by decide) dX3_target_56
    · have ic_14 := if1 hwr_13 c_14
      refine lv_iload hx hb dX3_target_50 (lv_at hl 0 rfl) ?_
      refine lv_goto (tgt := 56) hx hb dX3_target_52 (by decide) ?_
      exact x_iret hx hb hr hlk hP hD hS [0] (()) rfl (by decide) (by unfold tgtI; repeat (first | rw [if_pos (by omega)] | rw [if_neg (by omega)]); try omega) (by decide) (by decide) dX3_target_56
set_option maxHeartbeats 4000000 in
set_option maxRecDepth 100000 in
theorem g_whyNot (l : Launch) (D : va_G) (cT : Nat → ClassId) (sz : Nat) (h0 : Nat) (a : Nat → Nat) (p0 : Int32) (p1 : Int32) (p2 : Int32) (p3 : Int32) (p4 : Int32) (p5 : Int32) (p6 : Int32) (p7 : Int32) (p8 : Int32) (p9 : Int32) (hat : 0 ≤ p3.toInt ∧ p3.toInt ≤ 15) (v : Int64) : Met l yX3_whyNot (wsc yX3_whyNot cX3_whyNot 3 (some .int)) { frames := 4, cells := 0, slots := 0, locals := 145 } (va_Pc [.ref h0, .long v] (PX D cT sz [(h0, .inr (3, [.int p0, .int p1, .int p2, .int p3, .int p4, .int p5, .int p6, .int p7, .int p8, .int p9, .ref (a 0), .ref (a 1), .ref (a 2), .ref (a 3), .ref (a 4), .ref (a 5)]))])) (va_Qi (fun (r : Int32) (u : Unit) => r = 0 → 0 ≤ tgtI p3.toInt v.toInt p0.toInt) (fun u t => RW D (va_A [(h0, .inr (3, [.int p0, .int p1, .int p2, .int p3, .int p4, .int p5, .int p6, .int p7, .int p8, .int p9, .ref (a 0), .ref (a 1), .ref (a 2), .ref (a 3), .ref (a 4), .ref (a 5)]))] sz) ((fun _ : Unit => [(h0, .inr (3, [.int p0, .int p1, .int p2, .int p3, .int p4, .int p5, .int p6, .int p7, .int p8, .int p9, .ref (a 0), .ref (a 1), .ref (a 2), .ref (a 3), .ref (a 4), .ref (a 5)]))]) u) t) (va_A [(h0, .inr (3, [.int p0, .int p1, .int p2, .int p3, .int p4, .int p5, .int p6, .int p7, .int p8, .int p9, .ref (a 0), .ref (a 1), .ref (a 2), .ref (a 3), .ref (a 4), .ref (a 5)]))] sz)) 0 0 (va_A [(h0, .inr (3, [.int p0, .int p1, .int p2, .int p3, .int p4, .int p5, .int p6, .int p7, .int p8, .int p9, .ref (a 0), .ref (a 1), .ref (a 2), .ref (a 3), .ref (a 4), .ref (a 5)]))] sz) := by
  refine m_of (y := yX3_whyNot) (cc := cX3_whyNot) (nL := 3) (ret := (some .int)) (D := D) (cT := cT) (av := [.ref h0, .long v]) (wi := [(h0, .inr (3, [.int p0, .int p1, .int p2, .int p3, .int p4, .int p5, .int p6, .int p7, .int p8, .int p9, .ref (a 0), .ref (a 1), .ref (a 2), .ref (a 3), .ref (a 4), .ref (a 5)]))]) (fun A => va_Qi (fun (r : Int32) (u : Unit) => r = 0 → 0 ≤ tgtI p3.toInt v.toInt p0.toInt) (fun u t => RW D A ((fun _ : Unit => [(h0, .inr (3, [.int p0, .int p1, .int p2, .int p3, .int p4, .int p5, .int p6, .int p7, .int p8, .int p9, .ref (a 0), .ref (a 1), .ref (a 2), .ref (a 3), .ref (a 4), .ref (a 5)]))]) u) t) A) (by decide) (Nat.le_of_ble_eq_true rfl) ?_
  intro p e s m below meth c A hx hb hml hown htg hK hN hr hlk hnm hsz hP hD hS hA ls hl
  have hown : s.vm.findClass RX3 = some m.cls := hown
  have hl : lv_has ls 3 [(0, .ref h0), (1, .long v)] := hl
  refine lv_aload_n hx hb dX3_whyNot_0 rfl (lv_at hl 0 rfl) ?_
  refine lv_aload_n hx hb dX3_whyNot_1 rfl (lv_at hl 0 rfl) ?_
  refine va_get (D := D) (ci := 3) (v := .int p3) (C := RX3) (T := TX3) (N := 16) hx hb htg gRX3 hown hK hP 0 rfl rfl 3 (by decide) (htg _ wi_178) (fun _ h9 => h9) rfl dX3_whyNot_2 ?_
  refine lv_lload_n hx hb dX3_whyNot_5 rfl (lv_at hl 1 rfl) ?_
  refine xk_i (wr := []) (xr_V (n := 2) (As := [.int p3, .long v]) (rest := []) ⟨hx, hb, hml, hown, htg⟩ hK hN hP hD [0] rfl (by decide) (g_target l D cT _ (h0) (a) (p0) (p1) (p2) (p3) (p4) (p5) (p6) (p7) (p8) (p9) (p3) (by first | assumption | omega | decide) (v)) wi_762 wi_764 wi_31 wi_123 wi_765 rfl rfl rfl ⟨rfl, by decide +kernel⟩ ⟨Nat.le_of_ble_eq_true rfl, Nat.le_of_ble_eq_true rfl⟩ rfl hl.1 rfl (Nat.le_of_ble_eq_true rfl) dX3_whyNot_6 ⟨Nat.le_of_ble_eq_true rfl, Nat.le_of_ble_eq_true rfl⟩) hP hD hS hA [0] [] rfl rfl (by decide) (by decide) (fun r_2 u_1 H locs hwr_2 hP hD hS => ?_)
  have hP : va_P D classes [(h0, .inr (3, [.int p0, .int p1, .int p2, .int p3, .int p4, .int p5, .int p6, .int p7, .int p8, .int p9, .ref (a 0), .ref (a 1), .ref (a 2), .ref (a 3), .ref (a 4), .ref (a 5)]))] _ := hP
  have hD : va_D A [(h0, .inr (3, [.int p0, .int p1, .int p2, .int p3, .int p4, .int p5, .int p6, .int p7, .int p8, .int p9, .ref (a 0), .ref (a 1), .ref (a 2), .ref (a 3), .ref (a 4), .ref (a 5)]))] := hD
  have ihwr_2 : r_2.toInt = tgtI p3.toInt v.toInt p0.toInt := hwr_2
  refine lv_iconst (v := (-1)) hx hb dX3_whyNot_9 (by decide) ?_
  refine lv_icmp_ne (tgt := 15) hx hb dX3_whyNot_10 (by decide) (fun c_3 => ?_) (fun c_3 => ?_)
  · have ic_3 : ¬ r_2.toInt = (-1) := ine c_3 (rfl) (by decide)
    refine lv_aload_n hx hb dX3_whyNot_15 rfl (lv_at hl 0 rfl) ?_
    refine va_get (D := D) (ci := 3) (v := .int p7) (C := RX3) (T := TX3) (N := 16) hx hb htg gRX3 hown hK hP 0 rfl rfl 7 (by decide) (htg _ wi_190) (fun _ h9 => h9) rfl dX3_whyNot_16 ?_
    refine lv_if_ne (tgt := 24) hx hb dX3_whyNot_19 (by decide) (fun c_4 => ?_) (fun c_4 => ?_)
    · have ic_4 : ¬ p7.toInt = 0 := ine c_4 (rfl) (by decide)
      refine lv_aload_n hx hb dX3_whyNot_24 rfl (lv_at hl 0 rfl) ?_
      refine va_get (D := D) (ci := 3) (v := .int p2) (C := RX3) (T := TX3) (N := 16) hx hb htg gRX3 hown hK hP 0 rfl rfl 2 (by decide) (htg _ wi_176) (fun _ h9 => h9) rfl dX3_whyNot_25 ?_
      refine lv_sipush (v := 9999) hx hb dX3_whyNot_28 (by decide) ?_
      refine lv_icmp_lt (tgt := 38) hx hb dX3_whyNot_31 (by decide) (fun c_5 => ?_) (fun c_5 => ?_)
      · have ic_5 : p2.toInt < 9999 := ilt c_5 (rfl) (by decide)
        refine lv_iconst (v := 0) hx hb dX3_whyNot_38 (by decide) ?_
        exact x_iret hx hb hr hlk hP hD hS [0] (()) rfl (by decide) (fun _ => by have h8 := tgtI_in p3.toInt v.toInt p0.toInt; omega) (by decide) (by decide) dX3_whyNot_39
      · have ic_5 : 9999 ≤ p2.toInt := inlt c_5 (rfl) (by decide)
        refine lv_iconst (v := 3) hx hb dX3_whyNot_34 (by decide) ?_
        refine lv_goto (tgt := 39) hx hb dX3_whyNot_35 (by decide) ?_
        exact x_iret hx hb hr hlk hP hD hS [0] (()) rfl (by decide) (fun h => absurd h (by decide)) (by decide) (by decide) dX3_whyNot_39
    · have ic_4 : p7.toInt = 0 := ieq c_4 (rfl) (by decide)
      refine lv_iconst (v := 2) hx hb dX3_whyNot_22 (by decide) ?_
      exact x_iret hx hb hr hlk hP hD hS [0] (()) rfl (by decide) (fun h => absurd h (by decide)) (by decide) (by decide) dX3_whyNot_23
  · have ic_3 : r_2.toInt = (-1) := ieq c_3 (rfl) (by decide)
    refine lv_iconst (v := 1) hx hb dX3_whyNot_13 (by decide) ?_
    exact x_iret hx hb hr hlk hP hD hS [0] (()) rfl (by decide) (fun h => absurd h (by decide)) (by decide) (by decide) dX3_whyNot_14
set_option maxHeartbeats 4000000 in
set_option maxRecDepth 100000 in
theorem g_pass (l : Launch) (D : va_G) (cT : Nat → ClassId) (sz : Nat) (h0 : Nat) (a : Nat → Nat) (p0 : Int32) (p1 : Int32) (p2 : Int32) (p3 : Int32) (p4 : Int32) (p5 : Int32) (p6 : Int32) (p7 : Int32) (p8 : Int32) (p9 : Int32) (hs : 0 ≤ p0.toInt ∧ p0.toInt ≤ 16) (x : Int32) (y : Int32) (hxx : 0 ≤ x.toInt ∧ x.toInt ≤ 15) (f0 : Nat → Int32) (f1 : Nat → Int32) (f2 : Nat → Int32) (f4 : Nat → Int32) : Met l yX3_pass (wsc yX3_pass cX3_pass 6 (some .int)) { frames := 4, cells := 0, slots := 0, locals := 148 } (va_Pc [.ref h0, .int x, .int y] (PX D cT sz [(h0, .inr (3, [.int p0, .int p1, .int p2, .int p3, .int p4, .int p5, .int p6, .int p7, .int p8, .int p9, .ref (a 0), .ref (a 1), .ref (a 2), .ref (a 3), .ref (a 4), .ref (a 5)])), ((a 0), .inl (cT 0, 16, .inl (f0))), ((a 1), .inl (cT 0, 16, .inl (f1))), ((a 2), .inl (cT 0, 16, .inl (f2))), ((a 4), .inl (cT 0, 16, .inl (f4)))])) (va_Qi (fun (r : Int32) (u : Int32 × Int32 × (Nat → Int32) × (Nat → Int32)) => True) (fun u t => RW D (va_A [(h0, .inr (3, [.int p0, .int p1, .int p2, .int p3, .int p4, .int p5, .int p6, .int p7, .int p8, .int p9, .ref (a 0), .ref (a 1), .ref (a 2), .ref (a 3), .ref (a 4), .ref (a 5)])), ((a 0), .inl (cT 0, 16, .inl (f0))), ((a 1), .inl (cT 0, 16, .inl (f1))), ((a 2), .inl (cT 0, 16, .inl (f2))), ((a 4), .inl (cT 0, 16, .inl (f4)))] sz) ((fun u : Int32 × Int32 × (Nat → Int32) × (Nat → Int32) => [(h0, .inr (3, [.int p0, .int p1, .int u.2.1, .int x, .int p4, .int p5, .int p6, .int u.1, .int p8, .int p9, .ref (a 0), .ref (a 1), .ref (a 2), .ref (a 3), .ref (a 4), .ref (a 5)])), ((a 0), .inl (cT 0, 16, .inl (u.2.2.1))), ((a 1), .inl (cT 0, 16, .inl (f1))), ((a 2), .inl (cT 0, 16, .inl (f2))), ((a 4), .inl (cT 0, 16, .inl (u.2.2.2)))]) u) t) (va_A [(h0, .inr (3, [.int p0, .int p1, .int p2, .int p3, .int p4, .int p5, .int p6, .int p7, .int p8, .int p9, .ref (a 0), .ref (a 1), .ref (a 2), .ref (a 3), .ref (a 4), .ref (a 5)])), ((a 0), .inl (cT 0, 16, .inl (f0))), ((a 1), .inl (cT 0, 16, .inl (f1))), ((a 2), .inl (cT 0, 16, .inl (f2))), ((a 4), .inl (cT 0, 16, .inl (f4)))] sz)) 0 0 (va_A [(h0, .inr (3, [.int p0, .int p1, .int p2, .int p3, .int p4, .int p5, .int p6, .int p7, .int p8, .int p9, .ref (a 0), .ref (a 1), .ref (a 2), .ref (a 3), .ref (a 4), .ref (a 5)])), ((a 0), .inl (cT 0, 16, .inl (f0))), ((a 1), .inl (cT 0, 16, .inl (f1))), ((a 2), .inl (cT 0, 16, .inl (f2))), ((a 4), .inl (cT 0, 16, .inl (f4)))] sz) := by
  refine m_of (y := yX3_pass) (cc := cX3_pass) (nL := 6) (ret := (some .int)) (D := D) (cT := cT) (av := [.ref h0, .int x, .int y]) (wi := [(h0, .inr (3, [.int p0, .int p1, .int p2, .int p3, .int p4, .int p5, .int p6, .int p7, .int p8, .int p9, .ref (a 0), .ref (a 1), .ref (a 2), .ref (a 3), .ref (a 4), .ref (a 5)])), ((a 0), .inl (cT 0, 16, .inl (f0))), ((a 1), .inl (cT 0, 16, .inl (f1))), ((a 2), .inl (cT 0, 16, .inl (f2))), ((a 4), .inl (cT 0, 16, .inl (f4)))]) (fun A => va_Qi (fun (r : Int32) (u : Int32 × Int32 × (Nat → Int32) × (Nat → Int32)) => True) (fun u t => RW D A ((fun u : Int32 × Int32 × (Nat → Int32) × (Nat → Int32) => [(h0, .inr (3, [.int p0, .int p1, .int u.2.1, .int x, .int p4, .int p5, .int p6, .int u.1, .int p8, .int p9, .ref (a 0), .ref (a 1), .ref (a 2), .ref (a 3), .ref (a 4), .ref (a 5)])), ((a 0), .inl (cT 0, 16, .inl (u.2.2.1))), ((a 1), .inl (cT 0, 16, .inl (f1))), ((a 2), .inl (cT 0, 16, .inl (f2))), ((a 4), .inl (cT 0, 16, .inl (u.2.2.2)))]) u) t) A) (by decide) (Nat.le_of_ble_eq_true rfl) ?_
  intro p e s m below meth c A hx hb hml hown htg hK hN hr hlk hnm hsz hP hD hS hA ls hl
  have hown : s.vm.findClass RX3 = some m.cls := hown
  have hl : lv_has ls 6 [(0, .ref h0), (1, .int x), (2, .int y)] := hl
  refine lv_aload_n hx hb dX3_pass_0 rfl (lv_at hl 0 rfl) ?_
  refine lv_iload_n hx hb dX3_pass_1 rfl (lv_at hl 1 rfl) ?_
  refine va_put (D := D) (ci := 3) (v := .int x) (ty := .int) (C := RX3) (T := TX3) (N := 16) hx hb htg gRX3 tyX3 tyX3_ok nmX3 hown hK hP hD hS 0 rfl rfl 3 (by decide) (htg _ wi_178) (fun _ h9 => h9) rfl (by decide +kernel) rfl rfl (Nat.le_of_ble_eq_true rfl) dX3_pass_2 (fun H locs hP hD hS => ?_)
  have hP : va_P D classes [(h0, .inr (3, [.int p0, .int p1, .int p2, .int x, .int p4, .int p5, .int p6, .int p7, .int p8, .int p9, .ref (a 0), .ref (a 1), .ref (a 2), .ref (a 3), .ref (a 4), .ref (a 5)])), ((a 0), .inl (cT 0, 16, .inl (f0))), ((a 1), .inl (cT 0, 16, .inl (f1))), ((a 2), .inl (cT 0, 16, .inl (f2))), ((a 4), .inl (cT 0, 16, .inl (f4)))] _ := hP
  have hD : va_D A [(h0, .inr (3, [.int p0, .int p1, .int p2, .int x, .int p4, .int p5, .int p6, .int p7, .int p8, .int p9, .ref (a 0), .ref (a 1), .ref (a 2), .ref (a 3), .ref (a 4), .ref (a 5)])), ((a 0), .inl (cT 0, 16, .inl (f0))), ((a 1), .inl (cT 0, 16, .inl (f1))), ((a 2), .inl (cT 0, 16, .inl (f2))), ((a 4), .inl (cT 0, 16, .inl (f4)))] := hD
  refine lv_aload_n hx hb dX3_pass_5 rfl (lv_at hl 0 rfl) ?_
  refine lv_dup hx hb dX3_pass_6 rfl ?_
  refine va_get (D := D) (ci := 3) (v := .int p7) (C := RX3) (T := TX3) (N := 16) hx hb htg gRX3 hown hK hP 0 rfl rfl 7 (by decide) (htg _ wi_190) (fun _ h9 => h9) rfl dX3_pass_7 ?_
  refine lv_iconst (v := 1) hx hb dX3_pass_10 (by decide) ?_
  refine lv_isub hx hb dX3_pass_11 ?_
  refine lv_topi (fun z_1 ez_1 => ?_)
  refine va_put (D := D) (ci := 3) (v := .int z_1) (ty := .int) (C := RX3) (T := TX3) (N := 16) hx hb htg gRX3 tyX3 tyX3_ok nmX3 hown hK hP hD hS 0 rfl rfl 7 (by decide) (htg _ wi_190) (fun _ h9 => h9) rfl (by decide +kernel) rfl rfl (Nat.le_of_ble_eq_true rfl) dX3_pass_12 (fun H locs hP hD hS => ?_)
  have hP : va_P D classes [(h0, .inr (3, [.int p0, .int p1, .int p2, .int x, .int p4, .int p5, .int p6, .int z_1, .int p8, .int p9, .ref (a 0), .ref (a 1), .ref (a 2), .ref (a 3), .ref (a 4), .ref (a 5)])), ((a 0), .inl (cT 0, 16, .inl (f0))), ((a 1), .inl (cT 0, 16, .inl (f1))), ((a 2), .inl (cT 0, 16, .inl (f2))), ((a 4), .inl (cT 0, 16, .inl (f4)))] _ := hP
  have hD : va_D A [(h0, .inr (3, [.int p0, .int p1, .int p2, .int x, .int p4, .int p5, .int p6, .int z_1, .int p8, .int p9, .ref (a 0), .ref (a 1), .ref (a 2), .ref (a 3), .ref (a 4), .ref (a 5)])), ((a 0), .inl (cT 0, 16, .inl (f0))), ((a 1), .inl (cT 0, 16, .inl (f1))), ((a 2), .inl (cT 0, 16, .inl (f2))), ((a 4), .inl (cT 0, 16, .inl (f4)))] := hD
  refine lv_aload_n hx hb dX3_pass_15 rfl (lv_at hl 0 rfl) ?_
  refine lv_dup hx hb dX3_pass_16 rfl ?_
  refine va_get (D := D) (ci := 3) (v := .int p2) (C := RX3) (T := TX3) (N := 16) hx hb htg gRX3 hown hK hP 0 rfl rfl 2 (by decide) (htg _ wi_176) (fun _ h9 => h9) rfl dX3_pass_17 ?_
  refine lv_iconst (v := 1) hx hb dX3_pass_20 (by decide) ?_
  refine lv_iadd hx hb dX3_pass_21 ?_
  refine lv_topi (fun z_2 ez_2 => ?_)
  refine va_put (D := D) (ci := 3) (v := .int z_2) (ty := .int) (C := RX3) (T := TX3) (N := 16) hx hb htg gRX3 tyX3 tyX3_ok nmX3 hown hK hP hD hS 0 rfl rfl 2 (by decide) (htg _ wi_176) (fun _ h9 => h9) rfl (by decide +kernel) rfl rfl (Nat.le_of_ble_eq_true rfl) dX3_pass_22 (fun H locs hP hD hS => ?_)
  have hP : va_P D classes [(h0, .inr (3, [.int p0, .int p1, .int z_2, .int x, .int p4, .int p5, .int p6, .int z_1, .int p8, .int p9, .ref (a 0), .ref (a 1), .ref (a 2), .ref (a 3), .ref (a 4), .ref (a 5)])), ((a 0), .inl (cT 0, 16, .inl (f0))), ((a 1), .inl (cT 0, 16, .inl (f1))), ((a 2), .inl (cT 0, 16, .inl (f2))), ((a 4), .inl (cT 0, 16, .inl (f4)))] _ := hP
  have hD : va_D A [(h0, .inr (3, [.int p0, .int p1, .int z_2, .int x, .int p4, .int p5, .int p6, .int z_1, .int p8, .int p9, .ref (a 0), .ref (a 1), .ref (a 2), .ref (a 3), .ref (a 4), .ref (a 5)])), ((a 0), .inl (cT 0, 16, .inl (f0))), ((a 1), .inl (cT 0, 16, .inl (f1))), ((a 2), .inl (cT 0, 16, .inl (f2))), ((a 4), .inl (cT 0, 16, .inl (f4)))] := hD
  refine lv_iconst (v := 0) hx hb dX3_pass_25 (by decide) ?_
  refine lv_istore_n (lv' := [(3, .int 0), (0, .ref h0), (1, .int x), (2, .int y)]) hx hb dX3_pass_26 rfl hl (by decide) rfl (fun ls hl => ?_)
  refine lv_iconst (v := 0) hx hb dX3_pass_27 (by decide) ?_
  refine lv_istore (lv' := [(4, .int 0), (3, .int 0), (0, .ref h0), (1, .int x), (2, .int y)]) hx hb dX3_pass_28 hl (by decide) rfl (fun ls hl => ?_)
  refine (fun (key : ∀ (n9_30 : Nat) (k9_30 : Nat) (x9_30_3 : Int32) (f9_30_1 : Nat → Int32) (f9_30_2 : Nat → Int32) (H : Heap) (locs : List Loc) (ls : Array Slot), (k9_30 : Int) ≤ p0.toInt → p0.toInt < (k9_30 : Int) + n9_30 → va_P D classes [(h0, .inr (3, [.int p0, .int p1, .int z_2, .int x, .int p4, .int p5, .int p6, .int z_1, .int p8, .int p9, .ref (a 0), .ref (a 1), .ref (a 2), .ref (a 3), .ref (a 4), .ref (a 5)])), ((a 0), .inl (cT 0, 16, .inl (f9_30_1))), ((a 1), .inl (cT 0, 16, .inl (f1))), ((a 2), .inl (cT 0, 16, .inl (f2))), ((a 4), .inl (cT 0, 16, .inl (f9_30_2)))] H → va_D A [(h0, .inr (3, [.int p0, .int p1, .int z_2, .int x, .int p4, .int p5, .int p6, .int z_1, .int p8, .int p9, .ref (a 0), .ref (a 1), .ref (a 2), .ref (a 3), .ref (a 4), .ref (a 5)])), ((a 0), .inl (cT 0, 16, .inl (f9_30_1))), ((a 1), .inl (cT 0, 16, .inl (f1))), ((a 2), .inl (cT 0, 16, .inl (f2))), ((a 4), .inl (cT 0, 16, .inl (f9_30_2)))] → va_S A s.heap H locs → lv_has ls 6 [(4, .int (nI k9_30)), (3, .int x9_30_3), (0, .ref h0), (1, .int x), (2, .int y)] → W p l e _ s m _ below meth c H locs _ _ _ (F0 m 30 ls [])) => key (Int.toNat (p0.toInt - 0) + 1) 0 _ _ _ _ _ _ (by omega) (by omega)  hP hD hS (lv_sub hl [0, 1, 2, 3, 4] rfl)) ?_
  intro n9_30
  induction n9_30 with
  | zero => intro k9_30 x9_30_3 f9_30_1 f9_30_2 H locs ls hq1 hq2; exact absurd hq2 (by omega)
  | succ n9_30 ih_30 =>
    intro k9_30 x9_30_3 f9_30_1 f9_30_2 H locs ls hq1_30 hq2_30  hP hD hS hl
    have hk9_30 : (nI k9_30).toInt = (k9_30 : Int) := nI_toInt (by omega)
    refine lv_iload_n hx hb dX3_pass_30 rfl (lv_at hl 4 rfl) ?_
    refine lv_if_eq (tgt := 107) hx hb dX3_pass_31 (by decide) (fun c_3 => ?_) (fun c_3 => ?_)
    · have ic_3 : y.toInt = 0 := ieq c_3 (rfl) (by decide)
      refine lv_iload_n hx hb dX3_pass_107 rfl (lv_at hl 1 rfl) ?_
      exact x_iret hx hb hr hlk hP hD hS [0, 1, 2, 3, 4] ((z_1, z_2, f9_30_1, f9_30_2)) rfl (by decide) trivial (by decide) (by decide) dX3_pass_108
    · have ic_3 : ¬ y.toInt = 0 := ine c_3 (rfl) (by decide)
      refine lv_iload hx hb dX3_pass_34 (lv_at hl 0 rfl) ?_
      refine lv_aload_n hx hb dX3_pass_36 rfl (lv_at hl 2 rfl) ?_
      refine va_get (D := D) (ci := 3) (v := .int p0) (C := RX3) (T := TX3) (N := 16) hx hb htg gRX3 hown hK hP 0 rfl rfl 0 (by decide) (htg _ wi_166) (fun _ h9 => h9) rfl dX3_pass_37 ?_
      refine lv_icmp_ge (tgt := 107) hx hb dX3_pass_40 (by decide) (fun c_4 => ?_) (fun c_4 => ?_)
      · have ic_4 : p0.toInt ≤ ((k9_30 : Nat) : Int) := ile c_4 (rfl) (nI_toInt (by omega))
        refine lv_iload_n hx hb dX3_pass_107 rfl (lv_at hl 1 rfl) ?_
        exact x_iret hx hb hr hlk hP hD hS [0, 1, 2, 3, 4] ((z_1, z_2, f9_30_1, f9_30_2)) rfl (by decide) trivial (by decide) (by decide) dX3_pass_108
      · have ic_4 : ((k9_30 : Nat) : Int) < p0.toInt := inle c_4 (rfl) (nI_toInt (by omega))
        refine lv_aload_n hx hb dX3_pass_43 rfl (lv_at hl 2 rfl) ?_
        refine va_get (D := D) (ci := 3) (v := .ref (a 1)) (C := RX3) (T := TX3) (N := 16) hx hb htg gRX3 hown hK hP 0 rfl rfl 11 (by decide) (htg _ wi_203) (fun _ h9 => h9) rfl dX3_pass_44 ?_
        refine lv_iload hx hb dX3_pass_47 (lv_at hl 0 rfl) ?_
        refine va_iald hx hb hK hP 2 0 rfl rfl (vp_in_nI (by omega) (by omega)) dX3_pass_49 ?_
        refine lv_topi (fun z_5 ez_5 => ?_)
        refine lv_aload_n hx hb dX3_pass_50 rfl (lv_at hl 2 rfl) ?_
        refine va_get (D := D) (ci := 3) (v := .ref (a 0)) (C := RX3) (T := TX3) (N := 16) hx hb htg gRX3 hown hK hP 0 rfl rfl 10 (by decide) (htg _ wi_199) (fun _ h9 => h9) rfl dX3_pass_51 ?_
        refine lv_iload hx hb dX3_pass_54 (lv_at hl 0 rfl) ?_
        refine va_iald hx hb hK hP 1 0 rfl rfl (vp_in_nI (by omega) (by omega)) dX3_pass_56 ?_
        refine lv_topi (fun z_6 ez_6 => ?_)
        refine va_mmin hx hb (by rw [hml]; exact hl.1.symm) hown (htg _ wi_686) (htg _ wi_524) (htg _ wi_132) (htg _ wi_525) (Nat.le_of_ble_eq_true rfl) (Nat.le_of_ble_eq_true rfl) (Nat.le_of_ble_eq_true rfl) (Nat.le_of_ble_eq_true rfl) dX3_pass_57 ?_
        refine lv_topi (fun z_7 ez_7 => ?_)
        have iz_7 := minI (a := z_5.toInt) (b := z_6.toInt) ez_7 (rfl) (rfl)
        refine lv_aload_n hx hb dX3_pass_60 rfl (lv_at hl 2 rfl) ?_
        refine lv_iload_n hx hb dX3_pass_61 rfl (lv_at hl 3 rfl) ?_
        refine lv_iload hx hb dX3_pass_62 (lv_at hl 0 rfl) ?_
        refine xk_i (wr := [((a 0), .inl (cT 0, 16, .inl (f9_30_1))), ((a 1), .inl (cT 0, 16, .inl (f1))), ((a 4), .inl (cT 0, 16, .inl (f9_30_2)))]) (xr_V (n := 2) (As := [.int x, .int (nI k9_30)]) (rest := [.int z_7]) ⟨hx, hb, hml, hown, htg⟩ hK hN hP hD [0, 3] rfl (by decide) (g_lightOf l D cT _ (h0) (a) (p0) (p1) (z_2) (x) (p4) (p5) (p6) (z_1) (p8) (p9) (x) ((nI k9_30)) (by first | assumption | omega | decide) (by first | assumption | omega | decide) (f2)) wi_712 wi_672 wi_19 wi_123 wi_673 rfl rfl rfl ⟨rfl, by decide +kernel⟩ ⟨Nat.le_of_ble_eq_true rfl, Nat.le_of_ble_eq_true rfl⟩ rfl hl.1 rfl (Nat.le_of_ble_eq_true rfl) dX3_pass_64 ⟨Nat.le_of_ble_eq_true rfl, Nat.le_of_ble_eq_true rfl⟩) hP hD hS hA [0, 3] [1, 2, 4] rfl rfl (by decide) (by decide) (fun r_9 u_8 H locs hwr_9 hP hD hS => ?_)
        have hP : va_P D classes [((a 0), .inl (cT 0, 16, .inl (f9_30_1))), ((a 1), .inl (cT 0, 16, .inl (f1))), ((a 4), .inl (cT 0, 16, .inl (f9_30_2))), (h0, .inr (3, [.int p0, .int p1, .int z_2, .int x, .int p4, .int p5, .int p6, .int z_1, .int p8, .int p9, .ref (a 0), .ref (a 1), .ref (a 2), .ref (a 3), .ref (a 4), .ref (a 5)])), ((a 2), .inl (cT 0, 16, .inl (f2)))] _ := hP
        have hD : va_D A [((a 0), .inl (cT 0, 16, .inl (f9_30_1))), ((a 1), .inl (cT 0, 16, .inl (f1))), ((a 4), .inl (cT 0, 16, .inl (f9_30_2))), (h0, .inr (3, [.int p0, .int p1, .int z_2, .int x, .int p4, .int p5, .int p6, .int z_1, .int p8, .int p9, .ref (a 0), .ref (a 1), .ref (a 2), .ref (a 3), .ref (a 4), .ref (a 5)])), ((a 2), .inl (cT 0, 16, .inl (f2)))] := hD
        refine va_mmin hx hb (by rw [hml]; exact hl.1.symm) hown (htg _ wi_686) (htg _ wi_524) (htg _ wi_132) (htg _ wi_525) (Nat.le_of_ble_eq_true rfl) (Nat.le_of_ble_eq_true rfl) (Nat.le_of_ble_eq_true rfl) (Nat.le_of_ble_eq_true rfl) dX3_pass_67 ?_
        refine lv_topi (fun z_10 ez_10 => ?_)
        have iz_10 := minI (a := z_7.toInt) (b := r_9.toInt) ez_10 (rfl) (rfl)
        refine lv_istore (lv' := [(5, .int z_10), (4, .int (nI k9_30)), (3, .int x9_30_3), (0, .ref h0), (1, .int x), (2, .int y)]) hx hb dX3_pass_70 hl (by decide) rfl (fun ls hl => ?_)
        refine lv_aload_n hx hb dX3_pass_72 rfl (lv_at hl 3 rfl) ?_
        refine va_get (D := D) (ci := 3) (v := .ref (a 0)) (C := RX3) (T := TX3) (N := 16) hx hb htg gRX3 hown hK hP 3 rfl rfl 10 (by decide) (htg _ wi_199) (fun _ h9 => h9) rfl dX3_pass_73 ?_
        refine lv_iload hx hb dX3_pass_76 (lv_at hl 1 rfl) ?_
        refine lv_dup2_11 hx hb dX3_pass_78 rfl rfl ?_
        refine va_iald hx hb hK hP 0 0 rfl rfl (vp_in_nI (by omega) (by omega)) dX3_pass_79 ?_
        refine lv_topi (fun z_11 ez_11 => ?_)
        refine lv_iload hx hb dX3_pass_80 (lv_at hl 0 rfl) ?_
        refine lv_isub hx hb dX3_pass_82 ?_
        refine lv_topi (fun z_12 ez_12 => ?_)
        refine va_iast hx hb hK hP hD hS 0 0 rfl rfl (vp_in_nI (by omega) (by omega)) dX3_pass_83 (fun H locs hP hD hS => ?_)
        obtain ⟨f_13, hP, hD⟩ : ∃ f_13 : Nat → Int32, va_P D classes [((a 0), .inl (cT 0, 16, .inl (f_13))), ((a 1), .inl (cT 0, 16, .inl (f1))), ((a 4), .inl (cT 0, 16, .inl (f9_30_2))), (h0, .inr (3, [.int p0, .int p1, .int z_2, .int x, .int p4, .int p5, .int p6, .int z_1, .int p8, .int p9, .ref (a 0), .ref (a 1), .ref (a 2), .ref (a 3), .ref (a 4), .ref (a 5)])), ((a 2), .inl (cT 0, 16, .inl (f2)))] H ∧ va_D A [((a 0), .inl (cT 0, 16, .inl (f_13))), ((a 1), .inl (cT 0, 16, .inl (f1))), ((a 4), .inl (cT 0, 16, .inl (f9_30_2))), (h0, .inr (3, [.int p0, .int p1, .int z_2, .int x, .int p4, .int p5, .int p6, .int z_1, .int p8, .int p9, .ref (a 0), .ref (a 1), .ref (a 2), .ref (a 3), .ref (a 4), .ref (a 5)])), ((a 2), .inl (cT 0, 16, .inl (f2)))] := ⟨_, hP, hD⟩
        refine lv_aload_n hx hb dX3_pass_84 rfl (lv_at hl 3 rfl) ?_
        refine va_get (D := D) (ci := 3) (v := .ref (a 4)) (C := RX3) (T := TX3) (N := 16) hx hb htg gRX3 hown hK hP 3 rfl rfl 14 (by decide) (htg _ wi_211) (fun _ h9 => h9) rfl dX3_pass_85 ?_
        refine lv_iload hx hb dX3_pass_88 (lv_at hl 1 rfl) ?_
        refine lv_dup2_11 hx hb dX3_pass_90 rfl rfl ?_
        refine va_iald hx hb hK hP 2 0 rfl rfl (vp_in_nI (by omega) (by omega)) dX3_pass_91 ?_
        refine lv_topi (fun z_14 ez_14 => ?_)
        refine lv_iload hx hb dX3_pass_92 (lv_at hl 0 rfl) ?_
        refine lv_iadd hx hb dX3_pass_94 ?_
        refine lv_topi (fun z_15 ez_15 => ?_)
        refine va_iast hx hb hK hP hD hS 2 0 rfl rfl (vp_in_nI (by omega) (by omega)) dX3_pass_95 (fun H locs hP hD hS => ?_)
        obtain ⟨f_16, hP, hD⟩ : ∃ f_16 : Nat → Int32, va_P D classes [((a 0), .inl (cT 0, 16, .inl (f_13))), ((a 1), .inl (cT 0, 16, .inl (f1))), ((a 4), .inl (cT 0, 16, .inl (f_16))), (h0, .inr (3, [.int p0, .int p1, .int z_2, .int x, .int p4, .int p5, .int p6, .int z_1, .int p8, .int p9, .ref (a 0), .ref (a 1), .ref (a 2), .ref (a 3), .ref (a 4), .ref (a 5)])), ((a 2), .inl (cT 0, 16, .inl (f2)))] H ∧ va_D A [((a 0), .inl (cT 0, 16, .inl (f_13))), ((a 1), .inl (cT 0, 16, .inl (f1))), ((a 4), .inl (cT 0, 16, .inl (f_16))), (h0, .inr (3, [.int p0, .int p1, .int z_2, .int x, .int p4, .int p5, .int p6, .int z_1, .int p8, .int p9, .ref (a 0), .ref (a 1), .ref (a 2), .ref (a 3), .ref (a 4), .ref (a 5)])), ((a 2), .inl (cT 0, 16, .inl (f2)))] := ⟨_, hP, hD⟩
        refine lv_iload_n hx hb dX3_pass_96 rfl (lv_at hl 2 rfl) ?_
        refine lv_iload hx hb dX3_pass_97 (lv_at hl 0 rfl) ?_
        refine lv_iadd hx hb dX3_pass_99 ?_
        refine lv_topi (fun z_17 ez_17 => ?_)
        refine lv_istore_n (lv' := [(3, .int z_17), (5, .int z_10), (4, .int (nI k9_30)), (0, .ref h0), (1, .int x), (2, .int y)]) hx hb dX3_pass_100 rfl hl (by decide) rfl (fun ls hl => ?_)
        refine lv_iinc (v := (nI (k9_30 + 1))) (lv' := [(4, .int (nI (k9_30 + 1))), (3, .int z_17), (5, .int z_10), (0, .ref h0), (1, .int x), (2, .int y)]) hx hb dX3_pass_101 hl (k := 2) rfl (by exact nI_1 (k9_30)) (by decide) rfl (fun ls hl => ?_)
        refine lv_goto (tgt := 30) hx hb dX3_pass_104 (by decide) ?_
        exact ih_30 (k9_30 + 1) _ _ _ _ _ _ (by omega) (by omega)  (hP.sub [3, 0, 1, 4, 2] rfl) (hD.sub [3, 0, 1, 4, 2] (by decide) rfl) hS (lv_sub hl [0, 1, 3, 4, 5] rfl)
set_option maxHeartbeats 4000000 in
set_option maxRecDepth 100000 in
theorem g_passAll (l : Launch) (D : va_G) (cT : Nat → ClassId) (sz : Nat) (h0 : Nat) (a : Nat → Nat) (p0 : Int32) (p1 : Int32) (p2 : Int32) (p3 : Int32) (p4 : Int32) (p5 : Int32) (p6 : Int32) (p7 : Int32) (p8 : Int32) (p9 : Int32) (hs : 0 ≤ p0.toInt ∧ p0.toInt ≤ 16) (hat : 0 ≤ p3.toInt ∧ p3.toInt ≤ 15) (h1 : Nat) (b : Nat) (w0 : Int32) (w1 : Int32) (w2 : Int32) (hw2 : 0 ≤ w2.toInt ∧ w2.toInt ≤ 40) (f : Nat → Int64) (f0 : Nat → Int32) (f1 : Nat → Int32) (f2 : Nat → Int32) (f4 : Nat → Int32) : Met l yX3_passAll (wsc yX3_passAll cX3_passAll 5 (some .int)) { frames := 5, cells := 0, slots := 0, locals := 173 } (va_Pc [.ref h0, .ref h1] (PX D cT sz [(h0, .inr (3, [.int p0, .int p1, .int p2, .int p3, .int p4, .int p5, .int p6, .int p7, .int p8, .int p9, .ref (a 0), .ref (a 1), .ref (a 2), .ref (a 3), .ref (a 4), .ref (a 5)])), ((a 0), .inl (cT 0, 16, .inl (f0))), ((a 1), .inl (cT 0, 16, .inl (f1))), ((a 2), .inl (cT 0, 16, .inl (f2))), ((a 4), .inl (cT 0, 16, .inl (f4))), (h1, .inr (4, [.int w0, .int w1, .int w2, .ref b])), (b, .inl (cT 1, 40, .inr (.inl (f))))])) (va_Qi (fun (r : Int32) (u : Int32 × Int32 × Int32 × (Nat → Int32) × (Nat → Int32)) => 0 ≤ u.1.toInt ∧ u.1.toInt ≤ 15) (fun u t => RW D (va_A [(h0, .inr (3, [.int p0, .int p1, .int p2, .int p3, .int p4, .int p5, .int p6, .int p7, .int p8, .int p9, .ref (a 0), .ref (a 1), .ref (a 2), .ref (a 3), .ref (a 4), .ref (a 5)])), ((a 0), .inl (cT 0, 16, .inl (f0))), ((a 1), .inl (cT 0, 16, .inl (f1))), ((a 2), .inl (cT 0, 16, .inl (f2))), ((a 4), .inl (cT 0, 16, .inl (f4))), (h1, .inr (4, [.int w0, .int w1, .int w2, .ref b])), (b, .inl (cT 1, 40, .inr (.inl (f))))] sz) ((fun u : Int32 × Int32 × Int32 × (Nat → Int32) × (Nat → Int32) => [(h0, .inr (3, [.int p0, .int p1, .int u.2.2.1, .int u.1, .int p4, .int p5, .int p6, .int u.2.1, .int p8, .int p9, .ref (a 0), .ref (a 1), .ref (a 2), .ref (a 3), .ref (a 4), .ref (a 5)])), ((a 0), .inl (cT 0, 16, .inl (u.2.2.2.1))), ((a 1), .inl (cT 0, 16, .inl (f1))), ((a 2), .inl (cT 0, 16, .inl (f2))), ((a 4), .inl (cT 0, 16, .inl (u.2.2.2.2))), (h1, .inr (4, [.int w0, .int w1, .int w2, .ref b])), (b, .inl (cT 1, 40, .inr (.inl (f))))]) u) t) (va_A [(h0, .inr (3, [.int p0, .int p1, .int p2, .int p3, .int p4, .int p5, .int p6, .int p7, .int p8, .int p9, .ref (a 0), .ref (a 1), .ref (a 2), .ref (a 3), .ref (a 4), .ref (a 5)])), ((a 0), .inl (cT 0, 16, .inl (f0))), ((a 1), .inl (cT 0, 16, .inl (f1))), ((a 2), .inl (cT 0, 16, .inl (f2))), ((a 4), .inl (cT 0, 16, .inl (f4))), (h1, .inr (4, [.int w0, .int w1, .int w2, .ref b])), (b, .inl (cT 1, 40, .inr (.inl (f))))] sz)) 0 0 (va_A [(h0, .inr (3, [.int p0, .int p1, .int p2, .int p3, .int p4, .int p5, .int p6, .int p7, .int p8, .int p9, .ref (a 0), .ref (a 1), .ref (a 2), .ref (a 3), .ref (a 4), .ref (a 5)])), ((a 0), .inl (cT 0, 16, .inl (f0))), ((a 1), .inl (cT 0, 16, .inl (f1))), ((a 2), .inl (cT 0, 16, .inl (f2))), ((a 4), .inl (cT 0, 16, .inl (f4))), (h1, .inr (4, [.int w0, .int w1, .int w2, .ref b])), (b, .inl (cT 1, 40, .inr (.inl (f))))] sz) := by
  refine m_of (y := yX3_passAll) (cc := cX3_passAll) (nL := 5) (ret := (some .int)) (D := D) (cT := cT) (av := [.ref h0, .ref h1]) (wi := [(h0, .inr (3, [.int p0, .int p1, .int p2, .int p3, .int p4, .int p5, .int p6, .int p7, .int p8, .int p9, .ref (a 0), .ref (a 1), .ref (a 2), .ref (a 3), .ref (a 4), .ref (a 5)])), ((a 0), .inl (cT 0, 16, .inl (f0))), ((a 1), .inl (cT 0, 16, .inl (f1))), ((a 2), .inl (cT 0, 16, .inl (f2))), ((a 4), .inl (cT 0, 16, .inl (f4))), (h1, .inr (4, [.int w0, .int w1, .int w2, .ref b])), (b, .inl (cT 1, 40, .inr (.inl (f))))]) (fun A => va_Qi (fun (r : Int32) (u : Int32 × Int32 × Int32 × (Nat → Int32) × (Nat → Int32)) => 0 ≤ u.1.toInt ∧ u.1.toInt ≤ 15) (fun u t => RW D A ((fun u : Int32 × Int32 × Int32 × (Nat → Int32) × (Nat → Int32) => [(h0, .inr (3, [.int p0, .int p1, .int u.2.2.1, .int u.1, .int p4, .int p5, .int p6, .int u.2.1, .int p8, .int p9, .ref (a 0), .ref (a 1), .ref (a 2), .ref (a 3), .ref (a 4), .ref (a 5)])), ((a 0), .inl (cT 0, 16, .inl (u.2.2.2.1))), ((a 1), .inl (cT 0, 16, .inl (f1))), ((a 2), .inl (cT 0, 16, .inl (f2))), ((a 4), .inl (cT 0, 16, .inl (u.2.2.2.2))), (h1, .inr (4, [.int w0, .int w1, .int w2, .ref b])), (b, .inl (cT 1, 40, .inr (.inl (f))))]) u) t) A) (by decide) (Nat.le_of_ble_eq_true rfl) ?_
  intro p e s m below meth c A hx hb hml hown htg hK hN hr hlk hnm hsz hP hD hS hA ls hl
  have hown : s.vm.findClass RX3 = some m.cls := hown
  have hl : lv_has ls 5 [(0, .ref h0), (1, .ref h1)] := hl
  refine lv_iconst (v := 0) hx hb dX3_passAll_0 (by decide) ?_
  refine lv_istore_n (lv' := [(2, .int 0), (0, .ref h0), (1, .ref h1)]) hx hb dX3_passAll_1 rfl hl (by decide) rfl (fun ls hl => ?_)
  refine (fun (key : ∀ (n9_2 : Nat) (k9_2 : Nat) (f9_2_0 : Nat → Int32) (f9_2_1 : Nat → Int32) (v9_2_2 : Int32) (v9_2_3 : Int32) (v9_2_4 : Int32) (H : Heap) (locs : List Loc) (ls : Array Slot), (k9_2 : Int) ≤ w2.toInt → w2.toInt < (k9_2 : Int) + n9_2 → (0 ≤ v9_2_2.toInt ∧ v9_2_2.toInt ≤ 15) → va_P D classes [(h0, .inr (3, [.int p0, .int p1, .int v9_2_4, .int v9_2_2, .int p4, .int p5, .int p6, .int v9_2_3, .int p8, .int p9, .ref (a 0), .ref (a 1), .ref (a 2), .ref (a 3), .ref (a 4), .ref (a 5)])), ((a 0), .inl (cT 0, 16, .inl (f9_2_0))), ((a 1), .inl (cT 0, 16, .inl (f1))), ((a 2), .inl (cT 0, 16, .inl (f2))), ((a 4), .inl (cT 0, 16, .inl (f9_2_1))), (h1, .inr (4, [.int w0, .int w1, .int w2, .ref b])), (b, .inl (cT 1, 40, .inr (.inl (f))))] H → va_D A [(h0, .inr (3, [.int p0, .int p1, .int v9_2_4, .int v9_2_2, .int p4, .int p5, .int p6, .int v9_2_3, .int p8, .int p9, .ref (a 0), .ref (a 1), .ref (a 2), .ref (a 3), .ref (a 4), .ref (a 5)])), ((a 0), .inl (cT 0, 16, .inl (f9_2_0))), ((a 1), .inl (cT 0, 16, .inl (f1))), ((a 2), .inl (cT 0, 16, .inl (f2))), ((a 4), .inl (cT 0, 16, .inl (f9_2_1))), (h1, .inr (4, [.int w0, .int w1, .int w2, .ref b])), (b, .inl (cT 1, 40, .inr (.inl (f))))] → va_S A s.heap H locs → lv_has ls 5 [(2, .int (nI k9_2)), (0, .ref h0), (1, .ref h1)] → W p l e _ s m _ below meth c H locs _ _ _ (F0 m 2 ls [])) => key (Int.toNat (w2.toInt - 0) + 1) 0 _ _ _ _ _ _ _ _ (by omega) (by omega) (by first | assumption | omega | decide) hP hD hS (lv_sub hl [0, 1, 2] rfl)) ?_
  intro n9_2
  induction n9_2 with
  | zero => intro k9_2 f9_2_0 f9_2_1 v9_2_2 v9_2_3 v9_2_4 H locs ls hq1 hq2; exact absurd hq2 (by omega)
  | succ n9_2 ih_2 =>
    intro k9_2 f9_2_0 f9_2_1 v9_2_2 v9_2_3 v9_2_4 H locs ls hq1_2 hq2_2 h9_2_0 hP hD hS hl
    have hk9_2 : (nI k9_2).toInt = (k9_2 : Int) := nI_toInt (by omega)
    refine lv_iload_n hx hb dX3_passAll_2 rfl (lv_at hl 0 rfl) ?_
    refine lv_aload_n hx hb dX3_passAll_3 rfl (lv_at hl 2 rfl) ?_
    refine va_getN (D := D) (ci := 4) (v := .int w2) (C := RX4) (T := TX4) (N := 4) hx hb htg gRX4 hown hK hP 5 rfl rfl 2 (by decide) (va_Nw.use rfl (hN.1 _ ni_456)) (fun _ h9 => h9) rfl dX3_passAll_4 ?_
    refine lv_icmp_ge (tgt := 47) hx hb dX3_passAll_7 (by decide) (fun c_1 => ?_) (fun c_1 => ?_)
    · have ic_1 : w2.toInt ≤ ((k9_2 : Nat) : Int) := ile c_1 (rfl) (nI_toInt (by omega))
      refine lv_aload_n hx hb dX3_passAll_47 rfl (lv_at hl 2 rfl) ?_
      refine va_getN (D := D) (ci := 4) (v := .int w2) (C := RX4) (T := TX4) (N := 4) hx hb htg gRX4 hown hK hP 5 rfl rfl 2 (by decide) (va_Nw.use rfl (hN.1 _ ni_456)) (fun _ h9 => h9) rfl dX3_passAll_48 ?_
      exact x_iret hx hb hr hlk hP hD hS [0, 1, 2, 3, 4, 5, 6] ((v9_2_2, v9_2_3, v9_2_4, f9_2_0, f9_2_1)) rfl (by decide) (by first | assumption | omega) (by decide) (by decide) dX3_passAll_51
    · have ic_1 : ((k9_2 : Nat) : Int) < w2.toInt := inle c_1 (rfl) (nI_toInt (by omega))
      refine lv_aload_n hx hb dX3_passAll_10 rfl (lv_at hl 2 rfl) ?_
      refine lv_iload_n hx hb dX3_passAll_11 rfl (lv_at hl 0 rfl) ?_
      refine xk_l (wr := [(h0, .inr (3, [.int p0, .int p1, .int v9_2_4, .int v9_2_2, .int p4, .int p5, .int p6, .int v9_2_3, .int p8, .int p9, .ref (a 0), .ref (a 1), .ref (a 2), .ref (a 3), .ref (a 4), .ref (a 5)])), ((a 0), .inl (cT 0, 16, .inl (f9_2_0))), ((a 1), .inl (cT 0, 16, .inl (f1))), ((a 2), .inl (cT 0, 16, .inl (f2))), ((a 4), .inl (cT 0, 16, .inl (f9_2_1)))]) (xr_VN (n := 1) (As := [.int (nI k9_2)]) (rest := []) ⟨hx, hb, hml, hown, htg⟩ hK hN hP hD [5, 6] rfl (by decide) (g_valueAt l D cT _ (h1) (b) (w0) (w1) (w2) (by first | assumption | omega | decide) (f) ((nI k9_2))) ni_784 wi_786 wi_34 wi_130 wi_787 rfl rfl rfl ⟨rfl, by decide +kernel⟩ ⟨Nat.le_of_ble_eq_true rfl, Nat.le_of_ble_eq_true rfl⟩ rfl hl.1 rfl (Nat.le_of_ble_eq_true rfl) dX3_passAll_12 ⟨Nat.le_of_ble_eq_true rfl, Nat.le_of_ble_eq_true rfl⟩) hP hD hS hA [5, 6] [0, 1, 2, 3, 4] rfl rfl (by decide) (by decide) (fun r_3 u_2 H locs hwr_3 hP hD hS => ?_)
      have hP : va_P D classes [(h0, .inr (3, [.int p0, .int p1, .int v9_2_4, .int v9_2_2, .int p4, .int p5, .int p6, .int v9_2_3, .int p8, .int p9, .ref (a 0), .ref (a 1), .ref (a 2), .ref (a 3), .ref (a 4), .ref (a 5)])), ((a 0), .inl (cT 0, 16, .inl (f9_2_0))), ((a 1), .inl (cT 0, 16, .inl (f1))), ((a 2), .inl (cT 0, 16, .inl (f2))), ((a 4), .inl (cT 0, 16, .inl (f9_2_1))), (h1, .inr (4, [.int w0, .int w1, .int w2, .ref b])), (b, .inl (cT 1, 40, .inr (.inl (f))))] _ := hP
      have hD : va_D A [(h0, .inr (3, [.int p0, .int p1, .int v9_2_4, .int v9_2_2, .int p4, .int p5, .int p6, .int v9_2_3, .int p8, .int p9, .ref (a 0), .ref (a 1), .ref (a 2), .ref (a 3), .ref (a 4), .ref (a 5)])), ((a 0), .inl (cT 0, 16, .inl (f9_2_0))), ((a 1), .inl (cT 0, 16, .inl (f1))), ((a 2), .inl (cT 0, 16, .inl (f2))), ((a 4), .inl (cT 0, 16, .inl (f9_2_1))), (h1, .inr (4, [.int w0, .int w1, .int w2, .ref b])), (b, .inl (cT 1, 40, .inr (.inl (f))))] := hD
      refine lv_lstore_n (lv' := [(3, .long r_3), (2, .int (nI k9_2)), (0, .ref h0), (1, .ref h1)]) hx hb dX3_passAll_15 rfl hl (by decide) rfl (fun ls hl => ?_)
      refine lv_aload_n hx hb dX3_passAll_16 rfl (lv_at hl 2 rfl) ?_
      refine lv_lload_n hx hb dX3_passAll_17 rfl (lv_at hl 0 rfl) ?_
      refine xk_i (wr := [((a 0), .inl (cT 0, 16, .inl (f9_2_0))), ((a 1), .inl (cT 0, 16, .inl (f1))), ((a 2), .inl (cT 0, 16, .inl (f2))), ((a 4), .inl (cT 0, 16, .inl (f9_2_1))), (h1, .inr (4, [.int w0, .int w1, .int w2, .ref b])), (b, .inl (cT 1, 40, .inr (.inl (f))))]) (xr_V (n := 1) (As := [.long r_3]) (rest := []) ⟨hx, hb, hml, hown, htg⟩ hK hN hP hD [0] rfl (by decide) (g_whyNot l D cT _ (h0) (a) (p0) (p1) (v9_2_4) (v9_2_2) (p4) (p5) (p6) (v9_2_3) (p8) (p9) (by first | assumption | omega | decide) (r_3)) wi_789 wi_760 wi_30 wi_123 wi_761 rfl rfl rfl ⟨rfl, by decide +kernel⟩ ⟨Nat.le_of_ble_eq_true rfl, Nat.le_of_ble_eq_true rfl⟩ rfl hl.1 rfl (Nat.le_of_ble_eq_true rfl) dX3_passAll_18 ⟨Nat.le_of_ble_eq_true rfl, Nat.le_of_ble_eq_true rfl⟩) hP hD hS hA [0] [1, 2, 3, 4, 5, 6] rfl rfl (by decide) (by decide) (fun r_5 u_4 H locs hwr_5 hP hD hS => ?_)
      have hP : va_P D classes [((a 0), .inl (cT 0, 16, .inl (f9_2_0))), ((a 1), .inl (cT 0, 16, .inl (f1))), ((a 2), .inl (cT 0, 16, .inl (f2))), ((a 4), .inl (cT 0, 16, .inl (f9_2_1))), (h1, .inr (4, [.int w0, .int w1, .int w2, .ref b])), (b, .inl (cT 1, 40, .inr (.inl (f)))), (h0, .inr (3, [.int p0, .int p1, .int v9_2_4, .int v9_2_2, .int p4, .int p5, .int p6, .int v9_2_3, .int p8, .int p9, .ref (a 0), .ref (a 1), .ref (a 2), .ref (a 3), .ref (a 4), .ref (a 5)]))] _ := hP
      have hD : va_D A [((a 0), .inl (cT 0, 16, .inl (f9_2_0))), ((a 1), .inl (cT 0, 16, .inl (f1))), ((a 2), .inl (cT 0, 16, .inl (f2))), ((a 4), .inl (cT 0, 16, .inl (f9_2_1))), (h1, .inr (4, [.int w0, .int w1, .int w2, .ref b])), (b, .inl (cT 1, 40, .inr (.inl (f)))), (h0, .inr (3, [.int p0, .int p1, .int v9_2_4, .int v9_2_2, .int p4, .int p5, .int p6, .int v9_2_3, .int p8, .int p9, .ref (a 0), .ref (a 1), .ref (a 2), .ref (a 3), .ref (a 4), .ref (a 5)]))] := hD
      refine lv_if_eq (tgt := 26) hx hb dX3_passAll_21 (by decide) (fun c_6 => ?_) (fun c_6 => ?_)
      · have jc_6 := hwr_5 c_6
        have ic_6 : r_5.toInt = 0 := ieq c_6 (rfl) (by decide)
        refine lv_aload_n hx hb dX3_passAll_26 rfl (lv_at hl 2 rfl) ?_
        refine lv_aload_n hx hb dX3_passAll_27 rfl (lv_at hl 2 rfl) ?_
        refine lv_aload_n hx hb dX3_passAll_28 rfl (lv_at hl 2 rfl) ?_
        refine va_get (D := D) (ci := 3) (v := .int v9_2_2) (C := RX3) (T := TX3) (N := 16) hx hb htg gRX3 hown hK hP 6 rfl rfl 3 (by decide) (htg _ wi_178) (fun _ h9 => h9) rfl dX3_passAll_29 ?_
        refine lv_lload_n hx hb dX3_passAll_32 rfl (lv_at hl 0 rfl) ?_
        refine xk_i (wr := [((a 0), .inl (cT 0, 16, .inl (f9_2_0))), ((a 1), .inl (cT 0, 16, .inl (f1))), ((a 2), .inl (cT 0, 16, .inl (f2))), ((a 4), .inl (cT 0, 16, .inl (f9_2_1))), (h1, .inr (4, [.int w0, .int w1, .int w2, .ref b])), (b, .inl (cT 1, 40, .inr (.inl (f))))]) (xr_V (n := 2) (As := [.int v9_2_2, .long r_3]) (rest := [.ref h0]) ⟨hx, hb, hml, hown, htg⟩ hK hN hP hD [6] rfl (by decide) (g_target l D cT _ (h0) (a) (p0) (p1) (v9_2_4) (v9_2_2) (p4) (p5) (p6) (v9_2_3) (p8) (p9) (v9_2_2) (by first | assumption | omega | decide) (r_3)) wi_762 wi_764 wi_31 wi_123 wi_765 rfl rfl rfl ⟨rfl, by decide +kernel⟩ ⟨Nat.le_of_ble_eq_true rfl, Nat.le_of_ble_eq_true rfl⟩ rfl hl.1 rfl (Nat.le_of_ble_eq_true rfl) dX3_passAll_33 ⟨Nat.le_of_ble_eq_true rfl, Nat.le_of_ble_eq_true rfl⟩) hP hD hS hA [6] [0, 1, 2, 3, 4, 5] rfl rfl (by decide) (by decide) (fun r_8 u_7 H locs hwr_8 hP hD hS => ?_)
        have hP : va_P D classes [((a 0), .inl (cT 0, 16, .inl (f9_2_0))), ((a 1), .inl (cT 0, 16, .inl (f1))), ((a 2), .inl (cT 0, 16, .inl (f2))), ((a 4), .inl (cT 0, 16, .inl (f9_2_1))), (h1, .inr (4, [.int w0, .int w1, .int w2, .ref b])), (b, .inl (cT 1, 40, .inr (.inl (f)))), (h0, .inr (3, [.int p0, .int p1, .int v9_2_4, .int v9_2_2, .int p4, .int p5, .int p6, .int v9_2_3, .int p8, .int p9, .ref (a 0), .ref (a 1), .ref (a 2), .ref (a 3), .ref (a 4), .ref (a 5)]))] _ := hP
        have hD : va_D A [((a 0), .inl (cT 0, 16, .inl (f9_2_0))), ((a 1), .inl (cT 0, 16, .inl (f1))), ((a 2), .inl (cT 0, 16, .inl (f2))), ((a 4), .inl (cT 0, 16, .inl (f9_2_1))), (h1, .inr (4, [.int w0, .int w1, .int w2, .ref b])), (b, .inl (cT 1, 40, .inr (.inl (f)))), (h0, .inr (3, [.int p0, .int p1, .int v9_2_4, .int v9_2_2, .int p4, .int p5, .int p6, .int v9_2_3, .int p8, .int p9, .ref (a 0), .ref (a 1), .ref (a 2), .ref (a 3), .ref (a 4), .ref (a 5)]))] := hD
        have ihwr_8 : r_8.toInt = tgtI v9_2_2.toInt r_3.toInt p0.toInt := hwr_8
        have ir_8 : 0 ≤ r_8.toInt ∧ r_8.toInt ≤ 15 := by have h8 := tgtI_in v9_2_2.toInt r_3.toInt p0.toInt; omega
        refine lv_iconst (v := 1) hx hb dX3_passAll_36 (by decide) ?_
        refine xk_i (wr := [(h1, .inr (4, [.int w0, .int w1, .int w2, .ref b])), (b, .inl (cT 1, 40, .inr (.inl (f))))]) (xr_V (n := 2) (As := [.int r_8, .int 1]) (rest := []) ⟨hx, hb, hml, hown, htg⟩ hK hN hP hD [6, 0, 1, 2, 3] rfl (by decide) (g_pass l D cT _ (h0) (a) (p0) (p1) (v9_2_4) (v9_2_2) (p4) (p5) (p6) (v9_2_3) (p8) (p9) (by first | assumption | omega | decide) (r_8) (1) (by first | assumption | omega | decide) (f9_2_0) (f1) (f2) (f9_2_1)) wi_790 wi_771 wi_32 wi_123 wi_772 rfl rfl rfl ⟨rfl, by decide +kernel⟩ ⟨Nat.le_of_ble_eq_true rfl, Nat.le_of_ble_eq_true rfl⟩ rfl hl.1 rfl (Nat.le_of_ble_eq_true rfl) dX3_passAll_37 ⟨Nat.le_of_ble_eq_true rfl, Nat.le_of_ble_eq_true rfl⟩) hP hD hS hA [6, 0, 1, 2, 3] [4, 5] rfl rfl (by decide) (by decide) (fun r_10 u_9 H locs hwr_10 hP hD hS => ?_)
        have hP : va_P D classes [(h1, .inr (4, [.int w0, .int w1, .int w2, .ref b])), (b, .inl (cT 1, 40, .inr (.inl (f)))), (h0, .inr (3, [.int p0, .int p1, .int u_9.2.1, .int r_8, .int p4, .int p5, .int p6, .int u_9.1, .int p8, .int p9, .ref (a 0), .ref (a 1), .ref (a 2), .ref (a 3), .ref (a 4), .ref (a 5)])), ((a 0), .inl (cT 0, 16, .inl (u_9.2.2.1))), ((a 1), .inl (cT 0, 16, .inl (f1))), ((a 2), .inl (cT 0, 16, .inl (f2))), ((a 4), .inl (cT 0, 16, .inl (u_9.2.2.2)))] _ := hP
        have hD : va_D A [(h1, .inr (4, [.int w0, .int w1, .int w2, .ref b])), (b, .inl (cT 1, 40, .inr (.inl (f)))), (h0, .inr (3, [.int p0, .int p1, .int u_9.2.1, .int r_8, .int p4, .int p5, .int p6, .int u_9.1, .int p8, .int p9, .ref (a 0), .ref (a 1), .ref (a 2), .ref (a 3), .ref (a 4), .ref (a 5)])), ((a 0), .inl (cT 0, 16, .inl (u_9.2.2.1))), ((a 1), .inl (cT 0, 16, .inl (f1))), ((a 2), .inl (cT 0, 16, .inl (f2))), ((a 4), .inl (cT 0, 16, .inl (u_9.2.2.2)))] := hD
        refine lv_pop hx hb dX3_passAll_40 rfl ?_
        refine lv_iinc (v := (nI (k9_2 + 1))) (lv' := [(2, .int (nI (k9_2 + 1))), (3, .long r_3), (0, .ref h0), (1, .ref h1)]) hx hb dX3_passAll_41 hl (k := 1) rfl (by exact nI_1 (k9_2)) (by decide) rfl (fun ls hl => ?_)
        refine lv_goto (tgt := 2) hx hb dX3_passAll_44 (by decide) ?_
        exact ih_2 (k9_2 + 1) _ _ _ _ _ _ _ _ (by omega) (by omega) (by first | assumption | omega | decide) (hP.sub [2, 3, 4, 5, 6, 0, 1] rfl) (hD.sub [2, 3, 4, 5, 6, 0, 1] (by decide) rfl) hS (lv_sub hl [0, 2, 3] rfl)
      · have ic_6 : ¬ r_5.toInt = 0 := ine c_6 (rfl) (by decide)
        refine lv_iload_n hx hb dX3_passAll_24 rfl (lv_at hl 1 rfl) ?_
        exact x_iret hx hb hr hlk hP hD hS [6, 0, 1, 2, 3, 4, 5] ((v9_2_2, v9_2_3, v9_2_4, f9_2_0, f9_2_1)) rfl (by decide) (by first | assumption | omega) (by decide) (by decide) dX3_passAll_25
set_option maxHeartbeats 4000000 in
set_option maxRecDepth 100000 in
theorem g_addStrip (l : Launch) (D : va_G) (cT : Nat → ClassId) (sz : Nat) (h0 : Nat) (a : Nat → Nat) (p0 : Int32) (p1 : Int32) (p2 : Int32) (p3 : Int32) (p4 : Int32) (p5 : Int32) (p6 : Int32) (p7 : Int32) (p8 : Int32) (p9 : Int32) (hs : 0 ≤ p0.toInt ∧ p0.toInt ≤ 16) (x : Int32) (y : Int32) (z : Int32) (v : Int32) (hv : 0 ≤ v.toInt ∧ v.toInt ≤ 5) (f0 : Nat → Int32) (f1 : Nat → Int32) (f2 : Nat → Int32) (f3 : Nat → Int32) (f4 : Nat → Int32) (e3 : EL f3 16 0 5) : Met l yX3_addStrip (wsc yX3_addStrip cX3_addStrip 5 none) { frames := 2, cells := 0, slots := 0, locals := 100 } (va_Pc [.ref h0, .int x, .int y, .int z, .int v] (PX D cT sz [(h0, .inr (3, [.int p0, .int p1, .int p2, .int p3, .int p4, .int p5, .int p6, .int p7, .int p8, .int p9, .ref (a 0), .ref (a 1), .ref (a 2), .ref (a 3), .ref (a 4), .ref (a 5)])), ((a 0), .inl (cT 0, 16, .inl (f0))), ((a 1), .inl (cT 0, 16, .inl (f1))), ((a 2), .inl (cT 0, 16, .inl (f2))), ((a 3), .inl (cT 0, 16, .inl (f3))), ((a 4), .inl (cT 0, 16, .inl (f4)))])) (va_Qv (fun (u : Int32 × (Nat → Int32) × (Nat → Int32) × (Nat → Int32) × (Nat → Int32) × (Nat → Int32)) => (0 ≤ u.1.toInt ∧ u.1.toInt ≤ 16) ∧ (EL u.2.2.2.2.1 16 0 5) ∧ (True)) (fun u t => RW D (va_A [(h0, .inr (3, [.int p0, .int p1, .int p2, .int p3, .int p4, .int p5, .int p6, .int p7, .int p8, .int p9, .ref (a 0), .ref (a 1), .ref (a 2), .ref (a 3), .ref (a 4), .ref (a 5)])), ((a 0), .inl (cT 0, 16, .inl (f0))), ((a 1), .inl (cT 0, 16, .inl (f1))), ((a 2), .inl (cT 0, 16, .inl (f2))), ((a 3), .inl (cT 0, 16, .inl (f3))), ((a 4), .inl (cT 0, 16, .inl (f4)))] sz) ((fun u : Int32 × (Nat → Int32) × (Nat → Int32) × (Nat → Int32) × (Nat → Int32) × (Nat → Int32) => [(h0, .inr (3, [.int u.1, .int p1, .int p2, .int p3, .int p4, .int p5, .int p6, .int p7, .int p8, .int p9, .ref (a 0), .ref (a 1), .ref (a 2), .ref (a 3), .ref (a 4), .ref (a 5)])), ((a 0), .inl (cT 0, 16, .inl (u.2.1))), ((a 1), .inl (cT 0, 16, .inl (u.2.2.1))), ((a 2), .inl (cT 0, 16, .inl (u.2.2.2.1))), ((a 3), .inl (cT 0, 16, .inl (u.2.2.2.2.1))), ((a 4), .inl (cT 0, 16, .inl (u.2.2.2.2.2)))]) u) t) (va_A [(h0, .inr (3, [.int p0, .int p1, .int p2, .int p3, .int p4, .int p5, .int p6, .int p7, .int p8, .int p9, .ref (a 0), .ref (a 1), .ref (a 2), .ref (a 3), .ref (a 4), .ref (a 5)])), ((a 0), .inl (cT 0, 16, .inl (f0))), ((a 1), .inl (cT 0, 16, .inl (f1))), ((a 2), .inl (cT 0, 16, .inl (f2))), ((a 3), .inl (cT 0, 16, .inl (f3))), ((a 4), .inl (cT 0, 16, .inl (f4)))] sz)) 0 0 (va_A [(h0, .inr (3, [.int p0, .int p1, .int p2, .int p3, .int p4, .int p5, .int p6, .int p7, .int p8, .int p9, .ref (a 0), .ref (a 1), .ref (a 2), .ref (a 3), .ref (a 4), .ref (a 5)])), ((a 0), .inl (cT 0, 16, .inl (f0))), ((a 1), .inl (cT 0, 16, .inl (f1))), ((a 2), .inl (cT 0, 16, .inl (f2))), ((a 3), .inl (cT 0, 16, .inl (f3))), ((a 4), .inl (cT 0, 16, .inl (f4)))] sz) := by
  refine m_of (y := yX3_addStrip) (cc := cX3_addStrip) (nL := 5) (ret := none) (D := D) (cT := cT) (av := [.ref h0, .int x, .int y, .int z, .int v]) (wi := [(h0, .inr (3, [.int p0, .int p1, .int p2, .int p3, .int p4, .int p5, .int p6, .int p7, .int p8, .int p9, .ref (a 0), .ref (a 1), .ref (a 2), .ref (a 3), .ref (a 4), .ref (a 5)])), ((a 0), .inl (cT 0, 16, .inl (f0))), ((a 1), .inl (cT 0, 16, .inl (f1))), ((a 2), .inl (cT 0, 16, .inl (f2))), ((a 3), .inl (cT 0, 16, .inl (f3))), ((a 4), .inl (cT 0, 16, .inl (f4)))]) (fun A => va_Qv (fun (u : Int32 × (Nat → Int32) × (Nat → Int32) × (Nat → Int32) × (Nat → Int32) × (Nat → Int32)) => (0 ≤ u.1.toInt ∧ u.1.toInt ≤ 16) ∧ (EL u.2.2.2.2.1 16 0 5) ∧ (True)) (fun u t => RW D A ((fun u : Int32 × (Nat → Int32) × (Nat → Int32) × (Nat → Int32) × (Nat → Int32) × (Nat → Int32) => [(h0, .inr (3, [.int u.1, .int p1, .int p2, .int p3, .int p4, .int p5, .int p6, .int p7, .int p8, .int p9, .ref (a 0), .ref (a 1), .ref (a 2), .ref (a 3), .ref (a 4), .ref (a 5)])), ((a 0), .inl (cT 0, 16, .inl (u.2.1))), ((a 1), .inl (cT 0, 16, .inl (u.2.2.1))), ((a 2), .inl (cT 0, 16, .inl (u.2.2.2.1))), ((a 3), .inl (cT 0, 16, .inl (u.2.2.2.2.1))), ((a 4), .inl (cT 0, 16, .inl (u.2.2.2.2.2)))]) u) t) A) (by decide) (Nat.le_of_ble_eq_true rfl) ?_
  intro p e s m below meth c A hx hb hml hown htg hK hN hr hlk hnm hsz hP hD hS hA ls hl
  have hown : s.vm.findClass RX3 = some m.cls := hown
  have hl : lv_has ls 5 [(0, .ref h0), (1, .int x), (2, .int y), (3, .int z), (4, .int v)] := hl
  refine lv_aload_n hx hb dX3_addStrip_0 rfl (lv_at hl 0 rfl) ?_
  refine va_get (D := D) (ci := 3) (v := .int p0) (C := RX3) (T := TX3) (N := 16) hx hb htg gRX3 hown hK hP 0 rfl rfl 0 (by decide) (htg _ wi_166) (fun _ h9 => h9) rfl dX3_addStrip_1 ?_
  refine lv_bipush (v := 16) hx hb dX3_addStrip_4 (by decide) ?_
  refine lv_icmp_ge (tgt := 70) hx hb dX3_addStrip_6 (by decide) (fun c_1 => ?_) (fun c_1 => ?_)
  · have ic_1 : 16 ≤ p0.toInt := ile c_1 (by decide) (rfl)
    exact x_vret hx hb hr hlk hP hD hS [0, 1, 2, 3, 4, 5] ((p0, f0, f1, f2, f3, f4)) rfl (by decide) ⟨by (try dsimp only); first | assumption | omega | decide, by (try dsimp only); first | assumption | omega | decide, trivial⟩ (by decide) (by decide) dX3_addStrip_70
  · have ic_1 : p0.toInt < 16 := inle c_1 (by decide) (rfl)
    refine lv_aload_n hx hb dX3_addStrip_9 rfl (lv_at hl 0 rfl) ?_
    refine va_get (D := D) (ci := 3) (v := .ref (a 0)) (C := RX3) (T := TX3) (N := 16) hx hb htg gRX3 hown hK hP 0 rfl rfl 10 (by decide) (htg _ wi_199) (fun _ h9 => h9) rfl dX3_addStrip_10 ?_
    refine lv_aload_n hx hb dX3_addStrip_13 rfl (lv_at hl 0 rfl) ?_
    refine va_get (D := D) (ci := 3) (v := .int p0) (C := RX3) (T := TX3) (N := 16) hx hb htg gRX3 hown hK hP 0 rfl rfl 0 (by decide) (htg _ wi_166) (fun _ h9 => h9) rfl dX3_addStrip_14 ?_
    refine lv_iload_n hx hb dX3_addStrip_17 rfl (lv_at hl 1 rfl) ?_
    refine va_iast hx hb hK hP hD hS 1 0 rfl rfl (vp_in_iff.mpr (by omega)) dX3_addStrip_18 (fun H locs hP hD hS => ?_)
    obtain ⟨f_2, hP, hD⟩ : ∃ f_2 : Nat → Int32, va_P D classes [(h0, .inr (3, [.int p0, .int p1, .int p2, .int p3, .int p4, .int p5, .int p6, .int p7, .int p8, .int p9, .ref (a 0), .ref (a 1), .ref (a 2), .ref (a 3), .ref (a 4), .ref (a 5)])), ((a 0), .inl (cT 0, 16, .inl (f_2))), ((a 1), .inl (cT 0, 16, .inl (f1))), ((a 2), .inl (cT 0, 16, .inl (f2))), ((a 3), .inl (cT 0, 16, .inl (f3))), ((a 4), .inl (cT 0, 16, .inl (f4)))] H ∧ va_D A [(h0, .inr (3, [.int p0, .int p1, .int p2, .int p3, .int p4, .int p5, .int p6, .int p7, .int p8, .int p9, .ref (a 0), .ref (a 1), .ref (a 2), .ref (a 3), .ref (a 4), .ref (a 5)])), ((a 0), .inl (cT 0, 16, .inl (f_2))), ((a 1), .inl (cT 0, 16, .inl (f1))), ((a 2), .inl (cT 0, 16, .inl (f2))), ((a 3), .inl (cT 0, 16, .inl (f3))), ((a 4), .inl (cT 0, 16, .inl (f4)))] := ⟨_, hP, hD⟩
    refine lv_aload_n hx hb dX3_addStrip_19 rfl (lv_at hl 0 rfl) ?_
    refine va_get (D := D) (ci := 3) (v := .ref (a 1)) (C := RX3) (T := TX3) (N := 16) hx hb htg gRX3 hown hK hP 0 rfl rfl 11 (by decide) (htg _ wi_203) (fun _ h9 => h9) rfl dX3_addStrip_20 ?_
    refine lv_aload_n hx hb dX3_addStrip_23 rfl (lv_at hl 0 rfl) ?_
    refine va_get (D := D) (ci := 3) (v := .int p0) (C := RX3) (T := TX3) (N := 16) hx hb htg gRX3 hown hK hP 0 rfl rfl 0 (by decide) (htg _ wi_166) (fun _ h9 => h9) rfl dX3_addStrip_24 ?_
    refine lv_iload_n hx hb dX3_addStrip_27 rfl (lv_at hl 2 rfl) ?_
    refine va_iast hx hb hK hP hD hS 2 0 rfl rfl (vp_in_iff.mpr (by omega)) dX3_addStrip_28 (fun H locs hP hD hS => ?_)
    obtain ⟨f_3, hP, hD⟩ : ∃ f_3 : Nat → Int32, va_P D classes [(h0, .inr (3, [.int p0, .int p1, .int p2, .int p3, .int p4, .int p5, .int p6, .int p7, .int p8, .int p9, .ref (a 0), .ref (a 1), .ref (a 2), .ref (a 3), .ref (a 4), .ref (a 5)])), ((a 0), .inl (cT 0, 16, .inl (f_2))), ((a 1), .inl (cT 0, 16, .inl (f_3))), ((a 2), .inl (cT 0, 16, .inl (f2))), ((a 3), .inl (cT 0, 16, .inl (f3))), ((a 4), .inl (cT 0, 16, .inl (f4)))] H ∧ va_D A [(h0, .inr (3, [.int p0, .int p1, .int p2, .int p3, .int p4, .int p5, .int p6, .int p7, .int p8, .int p9, .ref (a 0), .ref (a 1), .ref (a 2), .ref (a 3), .ref (a 4), .ref (a 5)])), ((a 0), .inl (cT 0, 16, .inl (f_2))), ((a 1), .inl (cT 0, 16, .inl (f_3))), ((a 2), .inl (cT 0, 16, .inl (f2))), ((a 3), .inl (cT 0, 16, .inl (f3))), ((a 4), .inl (cT 0, 16, .inl (f4)))] := ⟨_, hP, hD⟩
    refine lv_aload_n hx hb dX3_addStrip_29 rfl (lv_at hl 0 rfl) ?_
    refine va_get (D := D) (ci := 3) (v := .ref (a 2)) (C := RX3) (T := TX3) (N := 16) hx hb htg gRX3 hown hK hP 0 rfl rfl 12 (by decide) (htg _ wi_206) (fun _ h9 => h9) rfl dX3_addStrip_30 ?_
    refine lv_aload_n hx hb dX3_addStrip_33 rfl (lv_at hl 0 rfl) ?_
    refine va_get (D := D) (ci := 3) (v := .int p0) (C := RX3) (T := TX3) (N := 16) hx hb htg gRX3 hown hK hP 0 rfl rfl 0 (by decide) (htg _ wi_166) (fun _ h9 => h9) rfl dX3_addStrip_34 ?_
    refine lv_iload_n hx hb dX3_addStrip_37 rfl (lv_at hl 3 rfl) ?_
    refine va_iast hx hb hK hP hD hS 3 0 rfl rfl (vp_in_iff.mpr (by omega)) dX3_addStrip_38 (fun H locs hP hD hS => ?_)
    obtain ⟨f_4, hP, hD⟩ : ∃ f_4 : Nat → Int32, va_P D classes [(h0, .inr (3, [.int p0, .int p1, .int p2, .int p3, .int p4, .int p5, .int p6, .int p7, .int p8, .int p9, .ref (a 0), .ref (a 1), .ref (a 2), .ref (a 3), .ref (a 4), .ref (a 5)])), ((a 0), .inl (cT 0, 16, .inl (f_2))), ((a 1), .inl (cT 0, 16, .inl (f_3))), ((a 2), .inl (cT 0, 16, .inl (f_4))), ((a 3), .inl (cT 0, 16, .inl (f3))), ((a 4), .inl (cT 0, 16, .inl (f4)))] H ∧ va_D A [(h0, .inr (3, [.int p0, .int p1, .int p2, .int p3, .int p4, .int p5, .int p6, .int p7, .int p8, .int p9, .ref (a 0), .ref (a 1), .ref (a 2), .ref (a 3), .ref (a 4), .ref (a 5)])), ((a 0), .inl (cT 0, 16, .inl (f_2))), ((a 1), .inl (cT 0, 16, .inl (f_3))), ((a 2), .inl (cT 0, 16, .inl (f_4))), ((a 3), .inl (cT 0, 16, .inl (f3))), ((a 4), .inl (cT 0, 16, .inl (f4)))] := ⟨_, hP, hD⟩
    refine lv_aload_n hx hb dX3_addStrip_39 rfl (lv_at hl 0 rfl) ?_
    refine va_get (D := D) (ci := 3) (v := .ref (a 3)) (C := RX3) (T := TX3) (N := 16) hx hb htg gRX3 hown hK hP 0 rfl rfl 13 (by decide) (htg _ wi_208) (fun _ h9 => h9) rfl dX3_addStrip_40 ?_
    refine lv_aload_n hx hb dX3_addStrip_43 rfl (lv_at hl 0 rfl) ?_
    refine va_get (D := D) (ci := 3) (v := .int p0) (C := RX3) (T := TX3) (N := 16) hx hb htg gRX3 hown hK hP 0 rfl rfl 0 (by decide) (htg _ wi_166) (fun _ h9 => h9) rfl dX3_addStrip_44 ?_
    refine lv_iload hx hb dX3_addStrip_47 (lv_at hl 4 rfl) ?_
    refine va_iast hx hb hK hP hD hS 4 0 rfl rfl (vp_in_iff.mpr (by omega)) dX3_addStrip_49 (fun H locs hP hD hS => ?_)
    obtain ⟨f_5, ef_5, hP, hD⟩ : ∃ f_5 : Nat → Int32, f_5 = upd (f3) (p0 : Int32).toNatClampNeg v ∧ va_P D classes [(h0, .inr (3, [.int p0, .int p1, .int p2, .int p3, .int p4, .int p5, .int p6, .int p7, .int p8, .int p9, .ref (a 0), .ref (a 1), .ref (a 2), .ref (a 3), .ref (a 4), .ref (a 5)])), ((a 0), .inl (cT 0, 16, .inl (f_2))), ((a 1), .inl (cT 0, 16, .inl (f_3))), ((a 2), .inl (cT 0, 16, .inl (f_4))), ((a 3), .inl (cT 0, 16, .inl (f_5))), ((a 4), .inl (cT 0, 16, .inl (f4)))] H ∧ va_D A [(h0, .inr (3, [.int p0, .int p1, .int p2, .int p3, .int p4, .int p5, .int p6, .int p7, .int p8, .int p9, .ref (a 0), .ref (a 1), .ref (a 2), .ref (a 3), .ref (a 4), .ref (a 5)])), ((a 0), .inl (cT 0, 16, .inl (f_2))), ((a 1), .inl (cT 0, 16, .inl (f_3))), ((a 2), .inl (cT 0, 16, .inl (f_4))), ((a 3), .inl (cT 0, 16, .inl (f_5))), ((a 4), .inl (cT 0, 16, .inl (f4)))] := ⟨_, rfl, hP, hD⟩
    have qf_5 : EL f_5 16 0 5 := by rw [ef_5]; exact el_upd e3 (rfl) (by omega)
    refine lv_aload_n hx hb dX3_addStrip_50 rfl (lv_at hl 0 rfl) ?_
    refine va_get (D := D) (ci := 3) (v := .ref (a 4)) (C := RX3) (T := TX3) (N := 16) hx hb htg gRX3 hown hK hP 0 rfl rfl 14 (by decide) (htg _ wi_211) (fun _ h9 => h9) rfl dX3_addStrip_51 ?_
    refine lv_aload_n hx hb dX3_addStrip_54 rfl (lv_at hl 0 rfl) ?_
    refine va_get (D := D) (ci := 3) (v := .int p0) (C := RX3) (T := TX3) (N := 16) hx hb htg gRX3 hown hK hP 0 rfl rfl 0 (by decide) (htg _ wi_166) (fun _ h9 => h9) rfl dX3_addStrip_55 ?_
    refine lv_iconst (v := 0) hx hb dX3_addStrip_58 (by decide) ?_
    refine va_iast hx hb hK hP hD hS 5 0 rfl rfl (vp_in_iff.mpr (by omega)) dX3_addStrip_59 (fun H locs hP hD hS => ?_)
    obtain ⟨f_6, hP, hD⟩ : ∃ f_6 : Nat → Int32, va_P D classes [(h0, .inr (3, [.int p0, .int p1, .int p2, .int p3, .int p4, .int p5, .int p6, .int p7, .int p8, .int p9, .ref (a 0), .ref (a 1), .ref (a 2), .ref (a 3), .ref (a 4), .ref (a 5)])), ((a 0), .inl (cT 0, 16, .inl (f_2))), ((a 1), .inl (cT 0, 16, .inl (f_3))), ((a 2), .inl (cT 0, 16, .inl (f_4))), ((a 3), .inl (cT 0, 16, .inl (f_5))), ((a 4), .inl (cT 0, 16, .inl (f_6)))] H ∧ va_D A [(h0, .inr (3, [.int p0, .int p1, .int p2, .int p3, .int p4, .int p5, .int p6, .int p7, .int p8, .int p9, .ref (a 0), .ref (a 1), .ref (a 2), .ref (a 3), .ref (a 4), .ref (a 5)])), ((a 0), .inl (cT 0, 16, .inl (f_2))), ((a 1), .inl (cT 0, 16, .inl (f_3))), ((a 2), .inl (cT 0, 16, .inl (f_4))), ((a 3), .inl (cT 0, 16, .inl (f_5))), ((a 4), .inl (cT 0, 16, .inl (f_6)))] := ⟨_, hP, hD⟩
    refine lv_aload_n hx hb dX3_addStrip_60 rfl (lv_at hl 0 rfl) ?_
    refine lv_dup hx hb dX3_addStrip_61 rfl ?_
    refine va_get (D := D) (ci := 3) (v := .int p0) (C := RX3) (T := TX3) (N := 16) hx hb htg gRX3 hown hK hP 0 rfl rfl 0 (by decide) (htg _ wi_166) (fun _ h9 => h9) rfl dX3_addStrip_62 ?_
    refine lv_iconst (v := 1) hx hb dX3_addStrip_65 (by decide) ?_
    refine lv_iadd hx hb dX3_addStrip_66 ?_
    refine lv_topi (fun z_7 ez_7 => ?_)
    have iz_7 : z_7.toInt = p0.toInt + 1 := toInt_addI ez_7 (rfl) (by decide) (by omega)
    refine va_put (D := D) (ci := 3) (v := .int z_7) (ty := .int) (C := RX3) (T := TX3) (N := 16) hx hb htg gRX3 tyX3 tyX3_ok nmX3 hown hK hP hD hS 0 rfl rfl 0 (by decide) (htg _ wi_166) (fun _ h9 => h9) rfl (by decide +kernel) rfl rfl (Nat.le_of_ble_eq_true rfl) dX3_addStrip_67 (fun H locs hP hD hS => ?_)
    have hP : va_P D classes [(h0, .inr (3, [.int z_7, .int p1, .int p2, .int p3, .int p4, .int p5, .int p6, .int p7, .int p8, .int p9, .ref (a 0), .ref (a 1), .ref (a 2), .ref (a 3), .ref (a 4), .ref (a 5)])), ((a 0), .inl (cT 0, 16, .inl (f_2))), ((a 1), .inl (cT 0, 16, .inl (f_3))), ((a 2), .inl (cT 0, 16, .inl (f_4))), ((a 3), .inl (cT 0, 16, .inl (f_5))), ((a 4), .inl (cT 0, 16, .inl (f_6)))] _ := hP
    have hD : va_D A [(h0, .inr (3, [.int z_7, .int p1, .int p2, .int p3, .int p4, .int p5, .int p6, .int p7, .int p8, .int p9, .ref (a 0), .ref (a 1), .ref (a 2), .ref (a 3), .ref (a 4), .ref (a 5)])), ((a 0), .inl (cT 0, 16, .inl (f_2))), ((a 1), .inl (cT 0, 16, .inl (f_3))), ((a 2), .inl (cT 0, 16, .inl (f_4))), ((a 3), .inl (cT 0, 16, .inl (f_5))), ((a 4), .inl (cT 0, 16, .inl (f_6)))] := hD
    exact x_vret hx hb hr hlk hP hD hS [0, 1, 2, 3, 4, 5] ((z_7, f_2, f_3, f_4, f_5, f_6)) rfl (by decide) ⟨by (try dsimp only); first | assumption | omega | decide, by (try dsimp only); first | assumption | omega | decide, trivial⟩ (by decide) (by decide) dX3_addStrip_70
set_option maxHeartbeats 4000000 in
set_option maxRecDepth 100000 in
theorem g_empty (l : Launch) (D : va_G) (cT : Nat → ClassId) (sz : Nat) (h0 : Nat) (a : Nat → Nat) (p0 : Int32) (p1 : Int32) (p2 : Int32) (p3 : Int32) (p4 : Int32) (p5 : Int32) (p6 : Int32) (p7 : Int32) (p8 : Int32) (p9 : Int32) (f : Nat → Int32) : Met l yX3_empty (wsc yX3_empty cX3_empty 1 none) { frames := 3, cells := 0, slots := 0, locals := 123 } (va_Pc [.ref h0] (PX D cT sz [(h0, .inr (3, [.int p0, .int p1, .int p2, .int p3, .int p4, .int p5, .int p6, .int p7, .int p8, .int p9, .ref (a 0), .ref (a 1), .ref (a 2), .ref (a 3), .ref (a 4), .ref (a 5)])), ((a 5), .inl (cT 0, 6, .inl (f)))])) (va_Qv (fun (u : Unit) => True) (fun u t => RW D (va_A [(h0, .inr (3, [.int p0, .int p1, .int p2, .int p3, .int p4, .int p5, .int p6, .int p7, .int p8, .int p9, .ref (a 0), .ref (a 1), .ref (a 2), .ref (a 3), .ref (a 4), .ref (a 5)])), ((a 5), .inl (cT 0, 6, .inl (f)))] sz) ((fun _ : Unit => [(h0, .inr (3, [.int 0, .int 0, .int 0, .int 0, .int 6, .int 6, .int 1, .int 60, .int 0, .int 0, .ref (a 0), .ref (a 1), .ref (a 2), .ref (a 3), .ref (a 4), .ref (a 5)])), ((a 5), .inl (cT 0, 6, .inl (fillF (f) 6 (1))))]) u) t) (va_A [(h0, .inr (3, [.int p0, .int p1, .int p2, .int p3, .int p4, .int p5, .int p6, .int p7, .int p8, .int p9, .ref (a 0), .ref (a 1), .ref (a 2), .ref (a 3), .ref (a 4), .ref (a 5)])), ((a 5), .inl (cT 0, 6, .inl (f)))] sz)) 0 0 (va_A [(h0, .inr (3, [.int p0, .int p1, .int p2, .int p3, .int p4, .int p5, .int p6, .int p7, .int p8, .int p9, .ref (a 0), .ref (a 1), .ref (a 2), .ref (a 3), .ref (a 4), .ref (a 5)])), ((a 5), .inl (cT 0, 6, .inl (f)))] sz) := by
  refine m_of (y := yX3_empty) (cc := cX3_empty) (nL := 1) (ret := none) (D := D) (cT := cT) (av := [.ref h0]) (wi := [(h0, .inr (3, [.int p0, .int p1, .int p2, .int p3, .int p4, .int p5, .int p6, .int p7, .int p8, .int p9, .ref (a 0), .ref (a 1), .ref (a 2), .ref (a 3), .ref (a 4), .ref (a 5)])), ((a 5), .inl (cT 0, 6, .inl (f)))]) (fun A => va_Qv (fun (u : Unit) => True) (fun u t => RW D A ((fun _ : Unit => [(h0, .inr (3, [.int 0, .int 0, .int 0, .int 0, .int 6, .int 6, .int 1, .int 60, .int 0, .int 0, .ref (a 0), .ref (a 1), .ref (a 2), .ref (a 3), .ref (a 4), .ref (a 5)])), ((a 5), .inl (cT 0, 6, .inl (fillF (f) 6 (1))))]) u) t) A) (by decide) (Nat.le_of_ble_eq_true rfl) ?_
  intro p e s m below meth c A hx hb hml hown htg hK hN hr hlk hnm hsz hP hD hS hA ls hl
  have hown : s.vm.findClass RX3 = some m.cls := hown
  have hl : lv_has ls 1 [(0, .ref h0)] := hl
  refine lv_aload_n hx hb dX3_empty_0 rfl (lv_at hl 0 rfl) ?_
  refine lv_iconst (v := 0) hx hb dX3_empty_1 (by decide) ?_
  refine va_put (D := D) (ci := 3) (v := .int 0) (ty := .int) (C := RX3) (T := TX3) (N := 16) hx hb htg gRX3 tyX3 tyX3_ok nmX3 hown hK hP hD hS 0 rfl rfl 0 (by decide) (htg _ wi_166) (fun _ h9 => h9) rfl (by decide +kernel) rfl rfl (Nat.le_of_ble_eq_true rfl) dX3_empty_2 (fun H locs hP hD hS => ?_)
  have hP : va_P D classes [(h0, .inr (3, [.int 0, .int p1, .int p2, .int p3, .int p4, .int p5, .int p6, .int p7, .int p8, .int p9, .ref (a 0), .ref (a 1), .ref (a 2), .ref (a 3), .ref (a 4), .ref (a 5)])), ((a 5), .inl (cT 0, 6, .inl (f)))] _ := hP
  have hD : va_D A [(h0, .inr (3, [.int 0, .int p1, .int p2, .int p3, .int p4, .int p5, .int p6, .int p7, .int p8, .int p9, .ref (a 0), .ref (a 1), .ref (a 2), .ref (a 3), .ref (a 4), .ref (a 5)])), ((a 5), .inl (cT 0, 6, .inl (f)))] := hD
  refine lv_aload_n hx hb dX3_empty_5 rfl (lv_at hl 0 rfl) ?_
  refine lv_iconst (v := 0) hx hb dX3_empty_6 (by decide) ?_
  refine va_put (D := D) (ci := 3) (v := .int 0) (ty := .int) (C := RX3) (T := TX3) (N := 16) hx hb htg gRX3 tyX3 tyX3_ok nmX3 hown hK hP hD hS 0 rfl rfl 1 (by decide) (htg _ wi_173) (fun _ h9 => h9) rfl (by decide +kernel) rfl rfl (Nat.le_of_ble_eq_true rfl) dX3_empty_7 (fun H locs hP hD hS => ?_)
  have hP : va_P D classes [(h0, .inr (3, [.int 0, .int 0, .int p2, .int p3, .int p4, .int p5, .int p6, .int p7, .int p8, .int p9, .ref (a 0), .ref (a 1), .ref (a 2), .ref (a 3), .ref (a 4), .ref (a 5)])), ((a 5), .inl (cT 0, 6, .inl (f)))] _ := hP
  have hD : va_D A [(h0, .inr (3, [.int 0, .int 0, .int p2, .int p3, .int p4, .int p5, .int p6, .int p7, .int p8, .int p9, .ref (a 0), .ref (a 1), .ref (a 2), .ref (a 3), .ref (a 4), .ref (a 5)])), ((a 5), .inl (cT 0, 6, .inl (f)))] := hD
  refine lv_aload_n hx hb dX3_empty_10 rfl (lv_at hl 0 rfl) ?_
  refine lv_iconst (v := 0) hx hb dX3_empty_11 (by decide) ?_
  refine va_put (D := D) (ci := 3) (v := .int 0) (ty := .int) (C := RX3) (T := TX3) (N := 16) hx hb htg gRX3 tyX3 tyX3_ok nmX3 hown hK hP hD hS 0 rfl rfl 2 (by decide) (htg _ wi_176) (fun _ h9 => h9) rfl (by decide +kernel) rfl rfl (Nat.le_of_ble_eq_true rfl) dX3_empty_12 (fun H locs hP hD hS => ?_)
  have hP : va_P D classes [(h0, .inr (3, [.int 0, .int 0, .int 0, .int p3, .int p4, .int p5, .int p6, .int p7, .int p8, .int p9, .ref (a 0), .ref (a 1), .ref (a 2), .ref (a 3), .ref (a 4), .ref (a 5)])), ((a 5), .inl (cT 0, 6, .inl (f)))] _ := hP
  have hD : va_D A [(h0, .inr (3, [.int 0, .int 0, .int 0, .int p3, .int p4, .int p5, .int p6, .int p7, .int p8, .int p9, .ref (a 0), .ref (a 1), .ref (a 2), .ref (a 3), .ref (a 4), .ref (a 5)])), ((a 5), .inl (cT 0, 6, .inl (f)))] := hD
  refine lv_aload_n hx hb dX3_empty_15 rfl (lv_at hl 0 rfl) ?_
  refine lv_iconst (v := 0) hx hb dX3_empty_16 (by decide) ?_
  refine va_put (D := D) (ci := 3) (v := .int 0) (ty := .int) (C := RX3) (T := TX3) (N := 16) hx hb htg gRX3 tyX3 tyX3_ok nmX3 hown hK hP hD hS 0 rfl rfl 3 (by decide) (htg _ wi_178) (fun _ h9 => h9) rfl (by decide +kernel) rfl rfl (Nat.le_of_ble_eq_true rfl) dX3_empty_17 (fun H locs hP hD hS => ?_)
  have hP : va_P D classes [(h0, .inr (3, [.int 0, .int 0, .int 0, .int 0, .int p4, .int p5, .int p6, .int p7, .int p8, .int p9, .ref (a 0), .ref (a 1), .ref (a 2), .ref (a 3), .ref (a 4), .ref (a 5)])), ((a 5), .inl (cT 0, 6, .inl (f)))] _ := hP
  have hD : va_D A [(h0, .inr (3, [.int 0, .int 0, .int 0, .int 0, .int p4, .int p5, .int p6, .int p7, .int p8, .int p9, .ref (a 0), .ref (a 1), .ref (a 2), .ref (a 3), .ref (a 4), .ref (a 5)])), ((a 5), .inl (cT 0, 6, .inl (f)))] := hD
  refine lv_aload_n hx hb dX3_empty_20 rfl (lv_at hl 0 rfl) ?_
  refine lv_bipush (v := 6) hx hb dX3_empty_21 (by decide) ?_
  refine va_put (D := D) (ci := 3) (v := .int 6) (ty := .int) (C := RX3) (T := TX3) (N := 16) hx hb htg gRX3 tyX3 tyX3_ok nmX3 hown hK hP hD hS 0 rfl rfl 4 (by decide) (htg _ wi_181) (fun _ h9 => h9) rfl (by decide +kernel) rfl rfl (Nat.le_of_ble_eq_true rfl) dX3_empty_23 (fun H locs hP hD hS => ?_)
  have hP : va_P D classes [(h0, .inr (3, [.int 0, .int 0, .int 0, .int 0, .int 6, .int p5, .int p6, .int p7, .int p8, .int p9, .ref (a 0), .ref (a 1), .ref (a 2), .ref (a 3), .ref (a 4), .ref (a 5)])), ((a 5), .inl (cT 0, 6, .inl (f)))] _ := hP
  have hD : va_D A [(h0, .inr (3, [.int 0, .int 0, .int 0, .int 0, .int 6, .int p5, .int p6, .int p7, .int p8, .int p9, .ref (a 0), .ref (a 1), .ref (a 2), .ref (a 3), .ref (a 4), .ref (a 5)])), ((a 5), .inl (cT 0, 6, .inl (f)))] := hD
  refine lv_aload_n hx hb dX3_empty_26 rfl (lv_at hl 0 rfl) ?_
  refine lv_bipush (v := 6) hx hb dX3_empty_27 (by decide) ?_
  refine va_put (D := D) (ci := 3) (v := .int 6) (ty := .int) (C := RX3) (T := TX3) (N := 16) hx hb htg gRX3 tyX3 tyX3_ok nmX3 hown hK hP hD hS 0 rfl rfl 5 (by decide) (htg _ wi_184) (fun _ h9 => h9) rfl (by decide +kernel) rfl rfl (Nat.le_of_ble_eq_true rfl) dX3_empty_29 (fun H locs hP hD hS => ?_)
  have hP : va_P D classes [(h0, .inr (3, [.int 0, .int 0, .int 0, .int 0, .int 6, .int 6, .int p6, .int p7, .int p8, .int p9, .ref (a 0), .ref (a 1), .ref (a 2), .ref (a 3), .ref (a 4), .ref (a 5)])), ((a 5), .inl (cT 0, 6, .inl (f)))] _ := hP
  have hD : va_D A [(h0, .inr (3, [.int 0, .int 0, .int 0, .int 0, .int 6, .int 6, .int p6, .int p7, .int p8, .int p9, .ref (a 0), .ref (a 1), .ref (a 2), .ref (a 3), .ref (a 4), .ref (a 5)])), ((a 5), .inl (cT 0, 6, .inl (f)))] := hD
  refine lv_aload_n hx hb dX3_empty_32 rfl (lv_at hl 0 rfl) ?_
  refine lv_iconst (v := 1) hx hb dX3_empty_33 (by decide) ?_
  refine va_put (D := D) (ci := 3) (v := .int 1) (ty := .int) (C := RX3) (T := TX3) (N := 16) hx hb htg gRX3 tyX3 tyX3_ok nmX3 hown hK hP hD hS 0 rfl rfl 6 (by decide) (htg _ wi_187) (fun _ h9 => h9) rfl (by decide +kernel) rfl rfl (Nat.le_of_ble_eq_true rfl) dX3_empty_34 (fun H locs hP hD hS => ?_)
  have hP : va_P D classes [(h0, .inr (3, [.int 0, .int 0, .int 0, .int 0, .int 6, .int 6, .int 1, .int p7, .int p8, .int p9, .ref (a 0), .ref (a 1), .ref (a 2), .ref (a 3), .ref (a 4), .ref (a 5)])), ((a 5), .inl (cT 0, 6, .inl (f)))] _ := hP
  have hD : va_D A [(h0, .inr (3, [.int 0, .int 0, .int 0, .int 0, .int 6, .int 6, .int 1, .int p7, .int p8, .int p9, .ref (a 0), .ref (a 1), .ref (a 2), .ref (a 3), .ref (a 4), .ref (a 5)])), ((a 5), .inl (cT 0, 6, .inl (f)))] := hD
  refine lv_aload_n hx hb dX3_empty_37 rfl (lv_at hl 0 rfl) ?_
  refine lv_bipush (v := 60) hx hb dX3_empty_38 (by decide) ?_
  refine va_put (D := D) (ci := 3) (v := .int 60) (ty := .int) (C := RX3) (T := TX3) (N := 16) hx hb htg gRX3 tyX3 tyX3_ok nmX3 hown hK hP hD hS 0 rfl rfl 7 (by decide) (htg _ wi_190) (fun _ h9 => h9) rfl (by decide +kernel) rfl rfl (Nat.le_of_ble_eq_true rfl) dX3_empty_40 (fun H locs hP hD hS => ?_)
  have hP : va_P D classes [(h0, .inr (3, [.int 0, .int 0, .int 0, .int 0, .int 6, .int 6, .int 1, .int 60, .int p8, .int p9, .ref (a 0), .ref (a 1), .ref (a 2), .ref (a 3), .ref (a 4), .ref (a 5)])), ((a 5), .inl (cT 0, 6, .inl (f)))] _ := hP
  have hD : va_D A [(h0, .inr (3, [.int 0, .int 0, .int 0, .int 0, .int 6, .int 6, .int 1, .int 60, .int p8, .int p9, .ref (a 0), .ref (a 1), .ref (a 2), .ref (a 3), .ref (a 4), .ref (a 5)])), ((a 5), .inl (cT 0, 6, .inl (f)))] := hD
  refine lv_aload_n hx hb dX3_empty_43 rfl (lv_at hl 0 rfl) ?_
  refine lv_iconst (v := 0) hx hb dX3_empty_44 (by decide) ?_
  refine va_put (D := D) (ci := 3) (v := .int 0) (ty := .int) (C := RX3) (T := TX3) (N := 16) hx hb htg gRX3 tyX3 tyX3_ok nmX3 hown hK hP hD hS 0 rfl rfl 8 (by decide) (htg _ wi_193) (fun _ h9 => h9) rfl (by decide +kernel) rfl rfl (Nat.le_of_ble_eq_true rfl) dX3_empty_45 (fun H locs hP hD hS => ?_)
  have hP : va_P D classes [(h0, .inr (3, [.int 0, .int 0, .int 0, .int 0, .int 6, .int 6, .int 1, .int 60, .int 0, .int p9, .ref (a 0), .ref (a 1), .ref (a 2), .ref (a 3), .ref (a 4), .ref (a 5)])), ((a 5), .inl (cT 0, 6, .inl (f)))] _ := hP
  have hD : va_D A [(h0, .inr (3, [.int 0, .int 0, .int 0, .int 0, .int 6, .int 6, .int 1, .int 60, .int 0, .int p9, .ref (a 0), .ref (a 1), .ref (a 2), .ref (a 3), .ref (a 4), .ref (a 5)])), ((a 5), .inl (cT 0, 6, .inl (f)))] := hD
  refine lv_aload_n hx hb dX3_empty_48 rfl (lv_at hl 0 rfl) ?_
  refine lv_iconst (v := 0) hx hb dX3_empty_49 (by decide) ?_
  refine va_put (D := D) (ci := 3) (v := .int 0) (ty := .int) (C := RX3) (T := TX3) (N := 16) hx hb htg gRX3 tyX3 tyX3_ok nmX3 hown hK hP hD hS 0 rfl rfl 9 (by decide) (htg _ wi_196) (fun _ h9 => h9) rfl (by decide +kernel) rfl rfl (Nat.le_of_ble_eq_true rfl) dX3_empty_50 (fun H locs hP hD hS => ?_)
  have hP : va_P D classes [(h0, .inr (3, [.int 0, .int 0, .int 0, .int 0, .int 6, .int 6, .int 1, .int 60, .int 0, .int 0, .ref (a 0), .ref (a 1), .ref (a 2), .ref (a 3), .ref (a 4), .ref (a 5)])), ((a 5), .inl (cT 0, 6, .inl (f)))] _ := hP
  have hD : va_D A [(h0, .inr (3, [.int 0, .int 0, .int 0, .int 0, .int 6, .int 6, .int 1, .int 60, .int 0, .int 0, .ref (a 0), .ref (a 1), .ref (a 2), .ref (a 3), .ref (a 4), .ref (a 5)])), ((a 5), .inl (cT 0, 6, .inl (f)))] := hD
  refine lv_aload_n hx hb dX3_empty_53 rfl (lv_at hl 0 rfl) ?_
  refine va_get (D := D) (ci := 3) (v := .ref (a 5)) (C := RX3) (T := TX3) (N := 16) hx hb htg gRX3 hown hK hP 0 rfl rfl 15 (by decide) (htg _ wi_213) (fun _ h9 => h9) rfl dX3_empty_54 ?_
  refine lv_iconst (v := 1) hx hb dX3_empty_57 (by decide) ?_
  refine xk_v (wr := [(h0, .inr (3, [.int 0, .int 0, .int 0, .int 0, .int 6, .int 6, .int 1, .int 60, .int 0, .int 0, .ref (a 0), .ref (a 1), .ref (a 2), .ref (a 3), .ref (a 4), .ref (a 5)]))]) (xr_S (n := 2) (As := [.ref (a 5), .int 1]) (rest := []) ⟨hx, hb, hml, hown, htg⟩ hK hN hP hD [1] rfl (by decide) (g_fillI6 l D cT _ ((a 5)) (f) (1)) wi_163 wi_164 wi_124 wi_165 ⟨rfl, by decide +kernel⟩ ⟨Nat.le_of_ble_eq_true rfl, Nat.le_of_ble_eq_true rfl⟩ rfl hl.1 rfl (Nat.le_of_ble_eq_true rfl) dX3_empty_58 ⟨Nat.le_of_ble_eq_true rfl, Nat.le_of_ble_eq_true rfl⟩) hP hD hS hA [1] [0] rfl rfl (by decide) (by decide) (fun u_1 H locs hwr_2 hP hD hS => ?_)
  have hP : va_P D classes [(h0, .inr (3, [.int 0, .int 0, .int 0, .int 0, .int 6, .int 6, .int 1, .int 60, .int 0, .int 0, .ref (a 0), .ref (a 1), .ref (a 2), .ref (a 3), .ref (a 4), .ref (a 5)])), ((a 5), .inl (cT 0, 6, .inl (fillF (f) 6 (1))))] _ := hP
  have hD : va_D A [(h0, .inr (3, [.int 0, .int 0, .int 0, .int 0, .int 6, .int 6, .int 1, .int 60, .int 0, .int 0, .ref (a 0), .ref (a 1), .ref (a 2), .ref (a 3), .ref (a 4), .ref (a 5)])), ((a 5), .inl (cT 0, 6, .inl (fillF (f) 6 (1))))] := hD
  exact x_vret hx hb hr hlk hP hD hS [0, 1] (()) rfl (by decide) trivial (by decide) (by decide) dX3_empty_61
