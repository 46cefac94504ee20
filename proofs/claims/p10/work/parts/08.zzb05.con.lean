set_option maxHeartbeats 4000000 in
set_option maxRecDepth 100000 in
theorem m_refuses (l : Launch) (D : va_G) (cT : Nat → ClassId) (sz : Nat) (h0 : Nat) (g : Nat → Nat) (b0 : Int32) (b5 : Int32) (b6 : Int32) (b7 : Int32) (b8 : Int32) (b9 : Int32) (b10 : Int32) (b11 : Int32) (b12 : Int32) (b13 : Int32) (b14 : Int32) (b17 : Int32) (b18 : Int32) (b19 : Int32) (b23 : Int32) (b24 : Int32) (b25 : Int32) (b26 : Int32) (b27 : Int32) (b29 : Int32) (b31 : Int32) (b32 : Int32) (b33 : Int32) (hb5 : 0 ≤ b5.toInt ∧ b5.toInt ≤ 900) (a0 : Nat → Int32) (pa0 : PI 288 a0) (v : Int64) : Met l yX9_refuses (wsc yX9_refuses cX9_refuses 3 (some .int)) { frames := 4, cells := 0, slots := 0, locals := 146 } (va_Pc [.ref h0, .long v] (PX D cT sz [(sw_9 h0 g b0 b5 b6 b7 b8 b9 b10 b11 b12 b13 b14 b17 b18 b19 b23 b24 b25 b26 b27 b29 b31 b32 b33), (sw_in cT (g 0) 288 a0)])) (va_Qi (fun (r : Int32) (u : Unit) => (Imp (r.toInt = 0) (1 ≤ (a0 6).toInt ∧ (a0 1).toInt ≤ 9998 ∧ (v.toInt = 0 ∨ (v.toInt = 1 ∧ 1 ≤ (a0 2).toInt) ∨ (v.toInt = 2 ∧ (a0 2).toInt ≤ 14)))) ∧ (True)) (fun u t => RW D (va_A [(sw_9 h0 g b0 b5 b6 b7 b8 b9 b10 b11 b12 b13 b14 b17 b18 b19 b23 b24 b25 b26 b27 b29 b31 b32 b33), (sw_in cT (g 0) 288 a0)] sz) ((fun _ : Unit => [(sw_9 h0 g b0 b5 b6 b7 b8 b9 b10 b11 b12 b13 b14 b17 b18 b19 b23 b24 b25 b26 b27 b29 b31 b32 b33), (sw_in cT (g 0) 288 a0)]) u) t) (va_A [(sw_9 h0 g b0 b5 b6 b7 b8 b9 b10 b11 b12 b13 b14 b17 b18 b19 b23 b24 b25 b26 b27 b29 b31 b32 b33), (sw_in cT (g 0) 288 a0)] sz)) 0 0 (va_A [(sw_9 h0 g b0 b5 b6 b7 b8 b9 b10 b11 b12 b13 b14 b17 b18 b19 b23 b24 b25 b26 b27 b29 b31 b32 b33), (sw_in cT (g 0) 288 a0)] sz) := by
  refine m_of (y := yX9_refuses) (cc := cX9_refuses) (nL := 3) (ret := (some .int)) (D := D) (cT := cT) (av := [.ref h0, .long v]) (wi := [(sw_9 h0 g b0 b5 b6 b7 b8 b9 b10 b11 b12 b13 b14 b17 b18 b19 b23 b24 b25 b26 b27 b29 b31 b32 b33), (sw_in cT (g 0) 288 a0)]) (fun A => va_Qi (fun (r : Int32) (u : Unit) => (Imp (r.toInt = 0) (1 ≤ (a0 6).toInt ∧ (a0 1).toInt ≤ 9998 ∧ (v.toInt = 0 ∨ (v.toInt = 1 ∧ 1 ≤ (a0 2).toInt) ∨ (v.toInt = 2 ∧ (a0 2).toInt ≤ 14)))) ∧ (True)) (fun u t => RW D A ((fun _ : Unit => [(sw_9 h0 g b0 b5 b6 b7 b8 b9 b10 b11 b12 b13 b14 b17 b18 b19 b23 b24 b25 b26 b27 b29 b31 b32 b33), (sw_in cT (g 0) 288 a0)]) u) t) A) (by decide) (Nat.le_of_ble_eq_true rfl) ?_
  intro p e s m below meth c A hx hb hml hown htg hK hN hr hlk hnm hsz hP hD hS hA ls hl
  have hown : s.vm.findClass RX9 = some m.cls := hown
  have hl : lv_has ls 3 [(0, .ref h0), (1, .long v)] := hl
  have tc_0 : (0 : Int32).toInt = 0 := by decide
  have tc_1 : (1 : Int32).toInt = 1 := by decide
  have tc_2 : (2 : Int32).toInt = 2 := by decide
  have tc_3 : (3 : Int32).toInt = 3 := by decide
  have tc_6 : (6 : Int32).toInt = 6 := by decide
  have tc_9999 : (9999 : Int32).toInt = 9999 := by decide
  refine lv_lload_n hx hb dX9_refuses_0 rfl (lv_at hl 1 rfl) ?_
  refine lv_lconst (v := 0) hx hb dX9_refuses_1 (by decide) ?_
  refine lv_ldc2 (v := 2) hx hb hown (htg _ wi_1420) dX9_refuses_2 ?_
  refine xk_i (wr := [(sw_9 h0 g b0 b5 b6 b7 b8 b9 b10 b11 b12 b13 b14 b17 b18 b19 b23 b24 b25 b26 b27 b29 b31 b32 b33), (sw_in cT (g 0) 288 a0)]) (xr_S (n := 3) (As := [.long v, .long 0, .long 2]) (rest := []) ⟨hx, hb, hml, hown, htg⟩ hK hN hP hD hS hA [] rfl (by decide) (m_within l D cT _ (v) (0) (2) (v.toInt) (0) (2) (rfl) (by decide) (by decide)) wi_1270 wi_1271 wi_131 wi_1272 ⟨rfl, by decide +kernel⟩ ⟨Nat.le_of_ble_eq_true rfl, Nat.le_of_ble_eq_true rfl⟩ rfl hl.1 rfl (Nat.le_of_ble_eq_true rfl) dX9_refuses_5 ⟨Nat.le_of_ble_eq_true rfl, Nat.le_of_ble_eq_true rfl⟩) hP hD hS hA [] [0, 1] rfl rfl (by decide) (by decide) (fun r_2 u_1 H locs hwr_2 hP hD hS => ?_)
  obtain ⟨hP, hD⟩ : PD D A [(sw_9 h0 g b0 b5 b6 b7 b8 b9 b10 b11 b12 b13 b14 b17 b18 b19 b23 b24 b25 b26 b27 b29 b31 b32 b33), (sw_in cT (g 0) 288 a0)] _ := ⟨hP, hD⟩
  have qr_2_0 : Imp (¬ r_2.toInt = 0) (0 ≤ v.toInt ∧ v.toInt ≤ 2) := hwr_2.1
  have qr_2_1 : r_2 = 0 ∨ r_2 = 1 := hwr_2.2.1
  refine lv_if_eq (tgt := 28) hx hb dX9_refuses_8 (by decide) (fun c_3 => ?_) (fun c_3 => ?_)
  · have ic_3 : r_2.toInt = 0 := ieq c_3 (rfl) (by decide)
    refine lv_iconst (v := 1) hx hb dX9_refuses_28 (by decide) ?_
    exact x_iret hx hb hr hlk hP hD hS [0, 1] (()) rfl (by decide) ⟨fun h9 => by (try dsimp only at h9 ⊢); first | omega | exact absurd h9 (by decide) | decide | assumption, trivial⟩ (by decide) (by decide) dX9_refuses_29
  · have ic_3 : ¬ r_2.toInt = 0 := ine c_3 (rfl) (by decide)
    have kqr_2_0 : 0 ≤ v.toInt ∧ v.toInt ≤ 2 := qr_2_0 ic_3
    refine lv_aload_n hx hb dX9_refuses_11 rfl (lv_at hl 0 rfl) ?_
    refine lv_aload_n hx hb dX9_refuses_12 rfl (lv_at hl 0 rfl) ?_
    refine va_get (D := D) (ci := 9) (v := .ref (g 0)) (C := RX9) (T := TX9) (N := 37) hx hb htg gRX9 hown hK hP 0 rfl rfl 1 (by decide) (htg _ wi_1151) (fun _ h9 => h9) rfl dX9_refuses_13 ?_
    refine lv_iconst (v := 2) hx hb dX9_refuses_16 (by decide) ?_
    refine va_iald hx hb hK hP 1 0 rfl rfl (by unfold vp_in; decide) dX9_refuses_17 ?_
    refine lv_topi (fun z_4 ez_4 => ?_)
    have iz_4 : 0 ≤ z_4.toInt ∧ z_4.toInt ≤ 15 := by rw [ez_4]; exact rd2 pa0 (by decide) rfl
    have nz_4 : z_4.toInt = ((a0) 2).toInt := by rw [ez_4]; rfl
    refine lv_lload_n hx hb dX9_refuses_18 rfl (lv_at hl 1 rfl) ?_
    refine xk_i (wr := [(sw_9 h0 g b0 b5 b6 b7 b8 b9 b10 b11 b12 b13 b14 b17 b18 b19 b23 b24 b25 b26 b27 b29 b31 b32 b33), (sw_in cT (g 0) 288 a0)]) (xr_S (n := 2) (As := [.int z_4, .long v]) (rest := [.ref h0]) ⟨hx, hb, hml, hown, htg⟩ hK hN hP hD hS hA [] rfl (by decide) (m_then l D cT _ (z_4) (v) (by first | assumption | omega | decide | exact Or.inl (by decide) | (intro h9; exact absurd h9 (by decide)) | (intro _; omega) | (intro _; assumption) | (intro _; decide))) wi_1421 wi_1422 wi_131 wi_1423 ⟨rfl, by decide +kernel⟩ ⟨Nat.le_of_ble_eq_true rfl, Nat.le_of_ble_eq_true rfl⟩ rfl hl.1 rfl (Nat.le_of_ble_eq_true rfl) dX9_refuses_19 ⟨Nat.le_of_ble_eq_true rfl, Nat.le_of_ble_eq_true rfl⟩) hP hD hS hA [] [0, 1] rfl rfl (by decide) (by decide) (fun r_6 u_5 H locs hwr_6 hP hD hS => ?_)
    obtain ⟨hP, hD⟩ : PD D A [(sw_9 h0 g b0 b5 b6 b7 b8 b9 b10 b11 b12 b13 b14 b17 b18 b19 b23 b24 b25 b26 b27 b29 b31 b32 b33), (sw_in cT (g 0) 288 a0)] _ := ⟨hP, hD⟩
    have qr_6_0 : (v.toInt = 1 ∧ r_6.toInt = z_4.toInt - 1) ∨ (v.toInt = 2 ∧ r_6.toInt = z_4.toInt + 1) ∨ (¬ v.toInt = 1 ∧ ¬ v.toInt = 2 ∧ r_6.toInt = z_4.toInt) := hwr_6.1
    refine xk_i (wr := []) (xr_V (n := 1) (As := [.int r_6]) (rest := []) ⟨hx, hb, hml, hown, htg⟩ hK hN hP hD hS hA [0, 1] rfl (by decide) (m_isStrip l D cT _ (h0) (g) (b0) (b5) (b6) (b7) (b8) (b9) (b10) (b11) (b12) (b13) (b14) (b17) (b18) (b19) (b23) (b24) (b25) (b26) (b27) (b29) (b31) (b32) (b33) (by first | assumption | omega | decide | exact Or.inl (by decide) | (intro h9; exact absurd h9 (by decide)) | (intro _; omega) | (intro _; assumption) | (intro _; decide)) (a0) (by first | assumption | omega | decide | exact Or.inl (by decide) | (intro h9; exact absurd h9 (by decide)) | (intro _; omega) | (intro _; assumption) | (intro _; decide)) (r_6)) wi_1338 wi_1340 wi_90 wi_131 wi_1341 rfl rfl rfl ⟨rfl, by decide +kernel⟩ ⟨Nat.le_of_ble_eq_true rfl, Nat.le_of_ble_eq_true rfl⟩ rfl hl.1 rfl (Nat.le_of_ble_eq_true rfl) dX9_refuses_22 ⟨Nat.le_of_ble_eq_true rfl, Nat.le_of_ble_eq_true rfl⟩) hP hD hS hA [0, 1] [] rfl rfl (by decide) (by decide) (fun r_8 u_7 H locs hwr_8 hP hD hS => ?_)
    obtain ⟨hP, hD⟩ : PD D A [(sw_9 h0 g b0 b5 b6 b7 b8 b9 b10 b11 b12 b13 b14 b17 b18 b19 b23 b24 b25 b26 b27 b29 b31 b32 b33), (sw_in cT (g 0) 288 a0)] _ := ⟨hP, hD⟩
    have qr_8_0 : Imp (¬ r_8.toInt = 0) (0 ≤ r_6.toInt ∧ r_6.toInt ≤ 15) := hwr_8.1
    refine lv_if_ne (tgt := 30) hx hb dX9_refuses_25 (by decide) (fun c_9 => ?_) (fun c_9 => ?_)
    · have ic_9 : ¬ r_8.toInt = 0 := ine c_9 (rfl) (by decide)
      have kqr_8_0 : 0 ≤ r_6.toInt ∧ r_6.toInt ≤ 15 := qr_8_0 ic_9
      refine lv_aload_n hx hb dX9_refuses_30 rfl (lv_at hl 0 rfl) ?_
      refine va_get (D := D) (ci := 9) (v := .ref (g 0)) (C := RX9) (T := TX9) (N := 37) hx hb htg gRX9 hown hK hP 0 rfl rfl 1 (by decide) (htg _ wi_1151) (fun _ h9 => h9) rfl dX9_refuses_31 ?_
      refine lv_bipush (v := 6) hx hb dX9_refuses_34 (by decide) ?_
      refine va_iald hx hb hK hP 1 0 rfl rfl (by unfold vp_in; decide) dX9_refuses_36 ?_
      refine lv_topi (fun z_10 ez_10 => ?_)
      have iz_10 : 0 ≤ z_10.toInt ∧ z_10.toInt ≤ 999 := by rw [ez_10]; exact rd6 pa0 (by decide) rfl
      have nz_10 : z_10.toInt = ((a0) 6).toInt := by rw [ez_10]; rfl
      refine lv_if_ne (tgt := 44) hx hb dX9_refuses_37 (by decide) (fun c_11 => ?_) (fun c_11 => ?_)
      · have ic_11 : ¬ z_10.toInt = 0 := ine c_11 (rfl) (by decide)
        refine lv_aload_n hx hb dX9_refuses_44 rfl (lv_at hl 0 rfl) ?_
        refine va_get (D := D) (ci := 9) (v := .ref (g 0)) (C := RX9) (T := TX9) (N := 37) hx hb htg gRX9 hown hK hP 0 rfl rfl 1 (by decide) (htg _ wi_1151) (fun _ h9 => h9) rfl dX9_refuses_45 ?_
        refine lv_iconst (v := 1) hx hb dX9_refuses_48 (by decide) ?_
        refine va_iald hx hb hK hP 1 0 rfl rfl (by unfold vp_in; decide) dX9_refuses_49 ?_
        refine lv_topi (fun z_12 ez_12 => ?_)
        have iz_12 : 0 ≤ z_12.toInt ∧ z_12.toInt ≤ 9999 := by rw [ez_12]; exact rd1 pa0 (by decide) rfl
        have nz_12 : z_12.toInt = ((a0) 1).toInt := by rw [ez_12]; rfl
        refine lv_sipush (v := 9999) hx hb dX9_refuses_50 (by decide) ?_
        refine lv_icmp_ne (tgt := 60) hx hb dX9_refuses_53 (by decide) (fun c_13 => ?_) (fun c_13 => ?_)
        · have ic_13 : ¬ z_12.toInt = 9999 := ine c_13 (rfl) (by decide)
          refine lv_iconst (v := 0) hx hb dX9_refuses_60 (by decide) ?_
          exact x_iret hx hb hr hlk hP hD hS [0, 1] (()) rfl (by decide) ⟨fun h9 => by (try dsimp only at h9 ⊢); first | omega | exact absurd h9 (by decide) | decide | assumption, trivial⟩ (by decide) (by decide) dX9_refuses_61
        · have ic_13 : z_12.toInt = 9999 := ieq c_13 (rfl) (by decide)
          refine lv_iconst (v := 3) hx hb dX9_refuses_56 (by decide) ?_
          refine lv_goto (tgt := 61) hx hb dX9_refuses_57 (by decide) ?_
          exact x_iret hx hb hr hlk hP hD hS [0, 1] (()) rfl (by decide) ⟨fun h9 => by (try dsimp only at h9 ⊢); first | omega | exact absurd h9 (by decide) | decide | assumption, trivial⟩ (by decide) (by decide) dX9_refuses_61
      · have ic_11 : z_10.toInt = 0 := ieq c_11 (rfl) (by decide)
        refine lv_iconst (v := 2) hx hb dX9_refuses_40 (by decide) ?_
        refine lv_goto (tgt := 61) hx hb dX9_refuses_41 (by decide) ?_
        exact x_iret hx hb hr hlk hP hD hS [0, 1] (()) rfl (by decide) ⟨fun h9 => by (try dsimp only at h9 ⊢); first | omega | exact absurd h9 (by decide) | decide | assumption, trivial⟩ (by decide) (by decide) dX9_refuses_61
    · have ic_9 : r_8.toInt = 0 := ieq c_9 (rfl) (by decide)
      refine lv_iconst (v := 1) hx hb dX9_refuses_28 (by decide) ?_
      exact x_iret hx hb hr hlk hP hD hS [0, 1] (()) rfl (by decide) ⟨fun h9 => by (try dsimp only at h9 ⊢); first | omega | exact absurd h9 (by decide) | decide | assumption, trivial⟩ (by decide) (by decide) dX9_refuses_29
set_option maxHeartbeats 4000000 in
set_option maxRecDepth 100000 in
theorem m_draw (l : Launch) (D : va_G) (cT : Nat → ClassId) (sz : Nat) (h0 : Nat) (g : Nat → Nat) (b0 : Int32) (b5 : Int32) (b6 : Int32) (b7 : Int32) (b8 : Int32) (b9 : Int32) (b10 : Int32) (b11 : Int32) (b12 : Int32) (b13 : Int32) (b14 : Int32) (b17 : Int32) (b18 : Int32) (b19 : Int32) (b23 : Int32) (b24 : Int32) (b25 : Int32) (b26 : Int32) (b27 : Int32) (b29 : Int32) (b31 : Int32) (b32 : Int32) (b33 : Int32) (hb5 : 0 ≤ b5.toInt ∧ b5.toInt ≤ 900) (x : Int32) (hx1 : 1 ≤ x.toInt ∧ x.toInt ≤ 100) : Met l yX9_draw (wsc yX9_draw cX9_draw 2 (some .int)) { frames := 2, cells := 0, slots := 0, locals := 100 } (va_Pc [.ref h0, .int x] (PX D cT sz [(sw_9 h0 g b0 b5 b6 b7 b8 b9 b10 b11 b12 b13 b14 b17 b18 b19 b23 b24 b25 b26 b27 b29 b31 b32 b33)])) (va_Qi (fun (r : Int32) (u : Int32) => (True)) (fun u t => RW D (va_A [(sw_9 h0 g b0 b5 b6 b7 b8 b9 b10 b11 b12 b13 b14 b17 b18 b19 b23 b24 b25 b26 b27 b29 b31 b32 b33)] sz) ((fun u : Int32 => [(sw_9 h0 g b0 b5 b6 b7 b8 b9 b10 b11 b12 b13 b14 b17 b18 u b23 b24 b25 b26 b27 b29 b31 b32 b33)]) u) t) (va_A [(sw_9 h0 g b0 b5 b6 b7 b8 b9 b10 b11 b12 b13 b14 b17 b18 b19 b23 b24 b25 b26 b27 b29 b31 b32 b33)] sz)) 0 0 (va_A [(sw_9 h0 g b0 b5 b6 b7 b8 b9 b10 b11 b12 b13 b14 b17 b18 b19 b23 b24 b25 b26 b27 b29 b31 b32 b33)] sz) := by
  refine m_of (y := yX9_draw) (cc := cX9_draw) (nL := 2) (ret := (some .int)) (D := D) (cT := cT) (av := [.ref h0, .int x]) (wi := [(sw_9 h0 g b0 b5 b6 b7 b8 b9 b10 b11 b12 b13 b14 b17 b18 b19 b23 b24 b25 b26 b27 b29 b31 b32 b33)]) (fun A => va_Qi (fun (r : Int32) (u : Int32) => (True)) (fun u t => RW D A ((fun u : Int32 => [(sw_9 h0 g b0 b5 b6 b7 b8 b9 b10 b11 b12 b13 b14 b17 b18 u b23 b24 b25 b26 b27 b29 b31 b32 b33)]) u) t) A) (by decide) (Nat.le_of_ble_eq_true rfl) ?_
  intro p e s m below meth c A hx hb hml hown htg hK hN hr hlk hnm hsz hP hD hS hA ls hl
  have hown : s.vm.findClass RX9 = some m.cls := hown
  have hl : lv_has ls 2 [(0, .ref h0), (1, .int x)] := hl
  have tc_16 : (16 : Int32).toInt = 16 := by decide
  have tc_12345 : (12345 : Int32).toInt = 12345 := by decide
  refine lv_aload_n hx hb dX9_draw_0 rfl (lv_at hl 0 rfl) ?_
  refine lv_ldc (v := 1103515245) hx hb hown (htg _ wi_1462) dX9_draw_1 ?_
  refine lv_aload_n hx hb dX9_draw_3 rfl (lv_at hl 0 rfl) ?_
  refine va_get (D := D) (ci := 9) (v := .int b19) (C := RX9) (T := TX9) (N := 37) hx hb htg gRX9 hown hK hP 0 rfl rfl 19 (by decide) (htg _ wi_1169) (fun _ h9 => h9) rfl dX9_draw_4 ?_
  refine lv_imul hx hb dX9_draw_7 ?_
  refine lv_topi (fun z_1 ez_1 => ?_)
  refine lv_sipush (v := 12345) hx hb dX9_draw_8 (by decide) ?_
  refine lv_iadd hx hb dX9_draw_11 ?_
  refine lv_topi (fun z_2 ez_2 => ?_)
  refine va_put (D := D) (ci := 9) (v := .int z_2) (ty := .int) (C := RX9) (T := TX9) (N := 37) hx hb htg gRX9 tyX9 tyX9_ok nmX9 hown hK hP hD hS 0 rfl rfl 19 (by decide) (htg _ wi_1169) (fun _ h9 => h9) rfl (by decide +kernel) rfl rfl (Nat.le_of_ble_eq_true rfl) dX9_draw_12 (fun H locs hP hD hS => ?_)
  obtain ⟨hP, hD⟩ : PD D A [(sw_9 h0 g b0 b5 b6 b7 b8 b9 b10 b11 b12 b13 b14 b17 b18 z_2 b23 b24 b25 b26 b27 b29 b31 b32 b33)] _ := ⟨hP, hD⟩
  refine lv_aload_n hx hb dX9_draw_15 rfl (lv_at hl 0 rfl) ?_
  refine va_get (D := D) (ci := 9) (v := .int z_2) (C := RX9) (T := TX9) (N := 37) hx hb htg gRX9 hown hK hP 0 rfl rfl 19 (by decide) (htg _ wi_1169) (fun _ h9 => h9) rfl dX9_draw_16 ?_
  refine lv_bipush (v := 16) hx hb dX9_draw_19 (by decide) ?_
  obtain ⟨z_3, ez_3⟩ : ∃ w : Int32, w = (z_2.toUInt32 >>> ((16 : Int32).toUInt32 &&& Int32.toUInt32 31)).toInt32 := ⟨_, rfl⟩
  refine lv_iushr (v := z_3) hx hb dX9_draw_21 ez_3.symm ?_
  have iz_3 : 0 ≤ z_3.toInt ∧ z_3.toInt ≤ 65535 := ushrI (k := 16) ez_3 (by decide) (by decide) (by decide)
  have jz_3 : 0 ≤ z_2.toInt → z_3.toInt = z_2.toInt / 65536 := ushrQ (k := 16) ez_3 (rfl) (by decide) (by decide)
  refine lv_iload_n hx hb dX9_draw_22 rfl (lv_at hl 1 rfl) ?_
  refine lv_irem hx hb dX9_draw_23 (fun h => by have h3 := ieq h (rfl) (show (0 : Int32).toInt = 0 from by decide); omega) ?_
  refine lv_topi (fun z_4 ez_4 => ?_)
  exact x_iret hx hb hr hlk hP hD hS [0] ((z_2)) rfl (by decide) trivial (by decide) (by decide) dX9_draw_24
