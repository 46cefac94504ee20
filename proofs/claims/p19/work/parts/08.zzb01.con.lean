set_option maxHeartbeats 4000000 in
set_option maxRecDepth 100000 in
theorem m_refuses (l : Launch) (D : va_G) (cT : Nat → ClassId) (sz : Nat) (h0 : Nat) (g : Nat → Nat) (b0 : Int32) (b5 : Int32) (b6 : Int32) (b7 : Int32) (b8 : Int32) (b9 : Int32) (b10 : Int32) (b11 : Int32) (b12 : Int32) (b13 : Int32) (b14 : Int32) (b17 : Int32) (b18 : Int32) (b19 : Int32) (b23 : Int32) (b24 : Int32) (b25 : Int32) (b26 : Int32) (b27 : Int32) (b29 : Int32) (b31 : Int32) (b32 : Int32) (b33 : Int32) (hb5 : 0 ≤ b5.toInt ∧ b5.toInt ≤ 900) (a0 : Nat → Int32) (pa0 : PI 288 a0) (v : Int64) : Met l yX9_refuses (wsc yX9_refuses cX9_refuses 3 (some .int)) { frames := 4, cells := 0, slots := 0, locals := 146 } (va_Pc [.ref h0, .long v] (PX D cT sz [(sw_9 h0 g b0 b5 b6 b7 b8 b9 b10 b11 b12 b13 b14 b17 b18 b19 b23 b24 b25 b26 b27 b29 b31 b32 b33), (sw_in cT (g 0) 288 a0)])) (va_Qi (fun (r : Int32) (u : Unit) => (Imp (r.toInt = 0) (1 ≤ (a0 6).toInt ∧ (a0 1).toInt ≤ 9998 ∧ (v.toInt = 0 ∨ (v.toInt = 1 ∧ 1 ≤ (a0 2).toInt) ∨ (v.toInt = 2 ∧ (a0 2).toInt ≤ 14)))) ∧ (True)) (fun u t => RW D (va_A [(sw_9 h0 g b0 b5 b6 b7 b8 b9 b10 b11 b12 b13 b14 b17 b18 b19 b23 b24 b25 b26 b27 b29 b31 b32 b33), (sw_in cT (g 0) 288 a0)] sz) ((fun _ : Unit => [(sw_9 h0 g b0 b5 b6 b7 b8 b9 b10 b11 b12 b13 b14 b17 b18 b19 b23 b24 b25 b26 b27 b29 b31 b32 b33), (sw_in cT (g 0) 288 a0)]) u) t) (va_A [(sw_9 h0 g b0 b5 b6 b7 b8 b9 b10 b11 b12 b13 b14 b17 b18 b19 b23 b24 b25 b26 b27 b29 b31 b32 b33), (sw_in cT (g 0) 288 a0)] sz)) 0 0 (va_A [(sw_9 h0 g b0 b5 b6 b7 b8 b9 b10 b11 b12 b13 b14 b17 b18 b19 b23 b24 b25 b26 b27 b29 b31 b32 b33), (sw_in cT (g 0) 288 a0)] sz) := by
  refine m_of (y := yX9_refuses) (cc := cX9_refuses) (nL := 3) (ret := (some .int)) (D := D) (cT := cT) (av := [.ref h0, .long v]) (wi := [(sw_9 h0 g b0 b5 b6 b7 b8 b9 b10 b11 b12 b13 b14 b17 b18 b19 b23 b24 b25 b26 b27 b29 b31 b32 b33), (sw_in cT (g 0) 288 a0)]) (fun A => va_Qi (fun (r : Int32) (u : Unit) => (Imp (r.toInt = 0) (1 ≤ (a0 6).toInt ∧ (a0 1).toInt ≤ 9998 ∧ (v.toInt = 0 ∨ (v.toInt = 1 ∧ 1 ≤ (a0 2).toInt) ∨ (v.toInt = 2 ∧ (a0 2).toInt ≤ 14)))) ∧ (True)) (fun u t => RW D A ((fun _ : Unit => [(sw_9 h0 g b0 b5 b6 b7 b8 b9 b10 b11 b12 b13 b14 b17 b18 b19 b23 b24 b25 b26 b27 b29 b31 b32 b33), (sw_in cT (g 0) 288 a0)]) u) t) A) (by decide) (Nat.le_of_ble_eq_true rfl) ?_
  intro p e s m below meth c A hx hb hml hown htg hK hN hr hlk hnm hsz hP hD hS hA ls hl
  have hown : s.vm.findClass RX9 = some m.cls := hown
  have hl : lv_has ls 3 [(0, .ref h0), (1, .long v)] := hl
  have tc_0 : (0 : Int32).toInt = 0 := by decide
  have tc_1 : (1 : Int32).toInt = 1 := by decide
  have tc_2 : (2 : Int32).toInt = 2 := by decide
  have tc_3 : (3 : Int32).toInt = 3 := by decide
  have tc_6 : (6 : Int32).toInt = 6 := by decide
  have tc_9999 : (9999 : Int32).toInt = 9999 := by decide
  refine lv_lload_n hx hb dX9_refuses_0 rfl (lv_at hl 1 rfl) ?_
  refine lv_lconst (v := 0) hx hb dX9_refuses_1 (by decide) ?_
  refine lv_ldc2 (v := 2) hx hb hown (htg _ wi_1420) dX9_refuses_2 ?_
  refine xk_i (wr := [(sw_9 h0 g b0 b5 b6 b7 b8 b9 b10 b11 b12 b13 b14 b17 b18 b19 b23 b24 b25 b26 b27 b29 b31 b32 b33), (sw_in cT (g 0) 288 a0)]) (xr_S (n := 3) (As := [.long v, .long 0, .long 2]) (rest := []) ⟨hx, hb, hml, hown, htg⟩ hK hN hP hD hS hA [] rfl (by decide) (m_within l D cT _ (v) (0) (2) (v.toInt) (0) (2) (rfl) (by decide) (by decide)) wi_1270 wi_1271 wi_131 wi_1272 ⟨rfl, by decide +kernel⟩ ⟨Nat.le_of_ble_eq_true rfl, Nat.le_of_ble_eq_true rfl⟩ rfl hl.1 rfl (Nat.le_of_ble_eq_true rfl) dX9_refuses_5 ⟨Nat.le_of_ble_eq_true rfl, Nat.le_of_ble_eq_true rfl⟩) hP hD hS hA [] [0, 1] rfl rfl (by decide) (by decide) (fun r_2 u_1 H locs hwr_2 hP hD hS => ?_)
  obtain ⟨hP, hD⟩ : PD D A [(sw_9 h0 g b0 b5 b6 b7 b8 b9 b10 b11 b12 b13 b14 b17 b18 b19 b23 b24 b25 b26 b27 b29 b31 b32 b33), (sw_in cT (g 0) 288 a0)] _ := ⟨hP, hD⟩
  have qr_2_0 : Imp (¬ r_2.toInt = 0) (0 ≤ v.toInt ∧ v.toInt ≤ 2) := hwr_2.1
  have qr_2_1 : r_2 = 0 ∨ r_2 = 1 := hwr_2.2.1
  refine lv_if_eq (tgt := 28) hx hb dX9_refuses_8 (by decide) (fun c_3 => ?_) (fun c_3 => ?_)
  · have ic_3 : r_2.toInt = 0 := ieq c_3 (rfl) (by decide)
    refine lv_iconst (v := 1) hx hb dX9_refuses_28 (by decide) ?_
    exact x_iret hx hb hr hlk hP hD hS [0, 1] (()) rfl (by decide) ⟨fun h9 => by (try dsimp only at h9 ⊢); first | omega | exact absurd h9 (by decide) | decide | assumption, trivial⟩ (by decide) (by decide) dX9_refuses_29
  · have ic_3 : ¬ r_2.toInt = 0 := ine c_3 (rfl) (by decide)
    have kqr_2_0 : 0 ≤ v.toInt ∧ v.toInt ≤ 2 := qr_2_0 ic_3
    refine lv_aload_n hx hb dX9_refuses_11 rfl (lv_at hl 0 rfl) ?_
    refine lv_aload_n hx hb dX9_refuses_12 rfl (lv_at hl 0 rfl) ?_
    refine va_get (D := D) (ci := 9) (v := .ref (g 0)) (C := RX9) (T := TX9) (N := 37) hx hb htg gRX9 hown hK hP 0 rfl rfl 1 (by decide) (htg _ wi_1151) (fun _ h9 => h9) rfl dX9_refuses_13 ?_
    refine lv_iconst (v := 2) hx hb dX9_refuses_16 (by decide) ?_
    refine va_iald hx hb hK hP 1 0 rfl rfl (by unfold vp_in; decide) dX9_refuses_17 ?_
    refine lv_topi (fun z_4 ez_4 => ?_)
    have iz_4 : 0 ≤ z_4.toInt ∧ z_4.toInt ≤ 15 := by rw [ez_4]; exact rd2 pa0 (by decide) rfl
    have nz_4 : z_4.toInt = ((a0) 2).toInt := by rw [ez_4]; rfl
    refine lv_lload_n hx hb dX9_refuses_18 rfl (lv_at hl 1 rfl) ?_
    refine xk_i (wr := [(sw_9 h0 g b0 b5 b6 b7 b8 b9 b10 b11 b12 b13 b14 b17 b18 b19 b23 b24 b25 b26 b27 b29 b31 b32 b33), (sw_in cT (g 0) 288 a0)]) (xr_S (n := 2) (As := [.int z_4, .long v]) (rest := [.ref h0]) ⟨hx, hb, hml, hown, htg⟩ hK hN hP hD hS hA [] rfl (by decide) (m_then l D cT _ (z_4) (v) (by first | assumption | omega | decide | exact Or.inl (by decide) | (intro h9; exact absurd h9 (by decide)) | (intro _; omega) | (intro _; assumption) | (intro _; decide))) wi_1421 wi_1422 wi_131 wi_1423 ⟨rfl, by decide +kernel⟩ ⟨Nat.le_of_ble_eq_true rfl, Nat.le_of_ble_eq_true rfl⟩ rfl hl.1 rfl (Nat.le_of_ble_eq_true rfl) dX9_refuses_19 ⟨Nat.le_of_ble_eq_true rfl, Nat.le_of_ble_eq_true rfl⟩) hP hD hS hA [] [0, 1] rfl rfl (by decide) (by decide) (fun r_6 u_5 H locs hwr_6 hP hD hS => ?_)
    obtain ⟨hP, hD⟩ : PD D A [(sw_9 h0 g b0 b5 b6 b7 b8 b9 b10 b11 b12 b13 b14 b17 b18 b19 b23 b24 b25 b26 b27 b29 b31 b32 b33), (sw_in cT (g 0) 288 a0)] _ := ⟨hP, hD⟩
    have qr_6_0 : (v.toInt = 1 ∧ r_6.toInt = z_4.toInt - 1) ∨ (v.toInt = 2 ∧ r_6.toInt = z_4.toInt + 1) ∨ (¬ v.toInt = 1 ∧ ¬ v.toInt = 2 ∧ r_6.toInt = z_4.toInt) := hwr_6.1
    refine xk_i (wr := []) (xr_V (n := 1) (As := [.int r_6]) (rest := []) ⟨hx, hb, hml, hown, htg⟩ hK hN hP hD hS hA [0, 1] rfl (by decide) (m_isStrip l D cT _ (h0) (g) (b0) (b5) (b6) (b7) (b8) (b9) (b10) (b11) (b12) (b13) (b14) (b17) (b18) (b19) (b23) (b24) (b25) (b26) (b27) (b29) (b31) (b32) (b33) (by first | assumption | omega | decide | exact Or.inl (by decide) | (intro h9; exact absurd h9 (by decide)) | (intro _; omega) | (intro _; assumption) | (intro _; decide)) (a0) (by first | assumption | omega | decide | exact Or.inl (by decide) | (intro h9; exact absurd h9 (by decide)) | (intro _; omega) | (intro _; assumption) | (intro _; decide)) (r_6)) wi_1338 wi_1340 wi_90 wi_131 wi_1341 rfl rfl rfl ⟨rfl, by decide +kernel⟩ ⟨Nat.le_of_ble_eq_true rfl, Nat.le_of_ble_eq_true rfl⟩ rfl hl.1 rfl (Nat.le_of_ble_eq_true rfl) dX9_refuses_22 ⟨Nat.le_of_ble_eq_true rfl, Nat.le_of_ble_eq_true rfl⟩) hP hD hS hA [0, 1] [] rfl rfl (by decide) (by decide) (fun r_8 u_7 H locs hwr_8 hP hD hS => ?_)
    obtain ⟨hP, hD⟩ : PD D A [(sw_9 h0 g b0 b5 b6 b7 b8 b9 b10 b11 b12 b13 b14 b17 b18 b19 b23 b24 b25 b26 b27 b29 b31 b32 b33), (sw_in cT (g 0) 288 a0)] _ := ⟨hP, hD⟩
    have qr_8_0 : Imp (¬ r_8.toInt = 0) (0 ≤ r_6.toInt ∧ r_6.toInt ≤ 15) := hwr_8.1
    refine lv_if_ne (tgt := 30) hx hb dX9_refuses_25 (by decide) (fun c_9 => ?_) (fun c_9 => ?_)
    · have ic_9 : ¬ r_8.toInt = 0 := ine c_9 (rfl) (by decide)
      have kqr_8_0 : 0 ≤ r_6.toInt ∧ r_6.toInt ≤ 15 := qr_8_0 ic_9
      refine lv_aload_n hx hb dX9_refuses_30 rfl (lv_at hl 0 rfl) ?_
      refine va_get (D := D) (ci := 9) (v := .ref (g 0)) (C := RX9) (T := TX9) (N := 37) hx hb htg gRX9 hown hK hP 0 rfl rfl 1 (by decide) (htg _ wi_1151) (fun _ h9 => h9) rfl dX9_refuses_31 ?_
      refine lv_bipush (v := 6) hx hb dX9_refuses_34 (by decide) ?_
      refine va_iald hx hb hK hP 1 0 rfl rfl (by unfold vp_in; decide) dX9_refuses_36 ?_
      refine lv_topi (fun z_10 ez_10 => ?_)
      have iz_10 : 0 ≤ z_10.toInt ∧ z_10.toInt ≤ 999 := by rw [ez_10]; exact rd6 pa0 (by decide) rfl
      have nz_10 : z_10.toInt = ((a0) 6).toInt := by rw [ez_10]; rfl
      refine lv_if_ne (tgt := 44) hx hb dX9_refuses_37 (by decide) (fun c_11 => ?_) (fun c_11 => ?_)
      · have ic_11 : ¬ z_10.toInt = 0 := ine c_11 (rfl) (by decide)
        refine lv_aload_n hx hb dX9_refuses_44 rfl (lv_at hl 0 rfl) ?_
        refine va_get (D := D) (ci := 9) (v := .ref (g 0)) (C := RX9) (T := TX9) (N := 37) hx hb htg gRX9 hown hK hP 0 rfl rfl 1 (by decide) (htg _ wi_1151) (fun _ h9 => h9) rfl dX9_refuses_45 ?_
        refine lv_iconst (v := 1) hx hb dX9_refuses_48 (by decide) ?_
        refine va_iald hx hb hK hP 1 0 rfl rfl (by unfold vp_in; decide) dX9_refuses_49 ?_
        refine lv_topi (fun z_12 ez_12 => ?_)
        have iz_12 : 0 ≤ z_12.toInt ∧ z_12.toInt ≤ 9999 := by rw [ez_12]; exact rd1 pa0 (by decide) rfl
        have nz_12 : z_12.toInt = ((a0) 1).toInt := by rw [ez_12]; rfl
        refine lv_sipush (v := 9999) hx hb dX9_refuses_50 (by decide) ?_
        refine lv_icmp_ne (tgt := 60) hx hb dX9_refuses_53 (by decide) (fun c_13 => ?_) (fun c_13 => ?_)
        · have ic_13 : ¬ z_12.toInt = 9999 := ine c_13 (rfl) (by decide)
          refine lv_iconst (v := 0) hx hb dX9_refuses_60 (by decide) ?_
          exact x_iret hx hb hr hlk hP hD hS [0, 1] (()) rfl (by decide) ⟨fun h9 => by (try dsimp only at h9 ⊢); first | omega | exact absurd h9 (by decide) | decide | assumption, trivial⟩ (by decide) (by decide) dX9_refuses_61
        · have ic_13 : z_12.toInt = 9999 := ieq c_13 (rfl) (by decide)
          refine lv_iconst (v := 3) hx hb dX9_refuses_56 (by decide) ?_
          refine lv_goto (tgt := 61) hx hb dX9_refuses_57 (by decide) ?_
          exact x_iret hx hb hr hlk hP hD hS [0, 1] (()) rfl (by decide) ⟨fun h9 => by (try dsimp only at h9 ⊢); first | omega | exact absurd h9 (by decide) | decide | assumption, trivial⟩ (by decide) (by decide) dX9_refuses_61
      · have ic_11 : z_10.toInt = 0 := ieq c_11 (rfl) (by decide)
        refine lv_iconst (v := 2) hx hb dX9_refuses_40 (by decide) ?_
        refine lv_goto (tgt := 61) hx hb dX9_refuses_41 (by decide) ?_
        exact x_iret hx hb hr hlk hP hD hS [0, 1] (()) rfl (by decide) ⟨fun h9 => by (try dsimp only at h9 ⊢); first | omega | exact absurd h9 (by decide) | decide | assumption, trivial⟩ (by decide) (by decide) dX9_refuses_61
    · have ic_9 : r_8.toInt = 0 := ieq c_9 (rfl) (by decide)
      refine lv_iconst (v := 1) hx hb dX9_refuses_28 (by decide) ?_
      exact x_iret hx hb hr hlk hP hD hS [0, 1] (()) rfl (by decide) ⟨fun h9 => by (try dsimp only at h9 ⊢); first | omega | exact absurd h9 (by decide) | decide | assumption, trivial⟩ (by decide) (by decide) dX9_refuses_29
set_option maxHeartbeats 4000000 in
set_option maxRecDepth 100000 in
theorem m_draw (l : Launch) (D : va_G) (cT : Nat → ClassId) (sz : Nat) (h0 : Nat) (g : Nat → Nat) (b0 : Int32) (b5 : Int32) (b6 : Int32) (b7 : Int32) (b8 : Int32) (b9 : Int32) (b10 : Int32) (b11 : Int32) (b12 : Int32) (b13 : Int32) (b14 : Int32) (b17 : Int32) (b18 : Int32) (b19 : Int32) (b23 : Int32) (b24 : Int32) (b25 : Int32) (b26 : Int32) (b27 : Int32) (b29 : Int32) (b31 : Int32) (b32 : Int32) (b33 : Int32) (hb5 : 0 ≤ b5.toInt ∧ b5.toInt ≤ 900) (x : Int32) (hx1 : 1 ≤ x.toInt ∧ x.toInt ≤ 100) : Met l yX9_draw (wsc yX9_draw cX9_draw 2 (some .int)) { frames := 2, cells := 0, slots := 0, locals := 100 } (va_Pc [.ref h0, .int x] (PX D cT sz [(sw_9 h0 g b0 b5 b6 b7 b8 b9 b10 b11 b12 b13 b14 b17 b18 b19 b23 b24 b25 b26 b27 b29 b31 b32 b33)])) (va_Qi (fun (r : Int32) (u : Int32) => (True)) (fun u t => RW D (va_A [(sw_9 h0 g b0 b5 b6 b7 b8 b9 b10 b11 b12 b13 b14 b17 b18 b19 b23 b24 b25 b26 b27 b29 b31 b32 b33)] sz) ((fun u : Int32 => [(sw_9 h0 g b0 b5 b6 b7 b8 b9 b10 b11 b12 b13 b14 b17 b18 u b23 b24 b25 b26 b27 b29 b31 b32 b33)]) u) t) (va_A [(sw_9 h0 g b0 b5 b6 b7 b8 b9 b10 b11 b12 b13 b14 b17 b18 b19 b23 b24 b25 b26 b27 b29 b31 b32 b33)] sz)) 0 0 (va_A [(sw_9 h0 g b0 b5 b6 b7 b8 b9 b10 b11 b12 b13 b14 b17 b18 b19 b23 b24 b25 b26 b27 b29 b31 b32 b33)] sz) := by
  refine m_of (y := yX9_draw) (cc := cX9_draw) (nL := 2) (ret := (some .int)) (D := D) (cT := cT) (av := [.ref h0, .int x]) (wi := [(sw_9 h0 g b0 b5 b6 b7 b8 b9 b10 b11 b12 b13 b14 b17 b18 b19 b23 b24 b25 b26 b27 b29 b31 b32 b33)]) (fun A => va_Qi (fun (r : Int32) (u : Int32) => (True)) (fun u t => RW D A ((fun u : Int32 => [(sw_9 h0 g b0 b5 b6 b7 b8 b9 b10 b11 b12 b13 b14 b17 b18 u b23 b24 b25 b26 b27 b29 b31 b32 b33)]) u) t) A) (by decide) (Nat.le_of_ble_eq_true rfl) ?_
  intro p e s m below meth c A hx hb hml hown htg hK hN hr hlk hnm hsz hP hD hS hA ls hl
  have hown : s.vm.findClass RX9 = some m.cls := hown
  have hl : lv_has ls 2 [(0, .ref h0), (1, .int x)] := hl
  have tc_16 : (16 : Int32).toInt = 16 := by decide
  have tc_12345 : (12345 : Int32).toInt = 12345 := by decide
  refine lv_aload_n hx hb dX9_draw_0 rfl (lv_at hl 0 rfl) ?_
  refine lv_ldc (v := 1103515245) hx hb hown (htg _ wi_1462) dX9_draw_1 ?_
  refine lv_aload_n hx hb dX9_draw_3 rfl (lv_at hl 0 rfl) ?_
  refine va_get (D := D) (ci := 9) (v := .int b19) (C := RX9) (T := TX9) (N := 37) hx hb htg gRX9 hown hK hP 0 rfl rfl 19 (by decide) (htg _ wi_1169) (fun _ h9 => h9) rfl dX9_draw_4 ?_
  refine lv_imul hx hb dX9_draw_7 ?_
  refine lv_topi (fun z_1 ez_1 => ?_)
  refine lv_sipush (v := 12345) hx hb dX9_draw_8 (by decide) ?_
  refine lv_iadd hx hb dX9_draw_11 ?_
  refine lv_topi (fun z_2 ez_2 => ?_)
  refine va_put (D := D) (ci := 9) (v := .int z_2) (ty := .int) (C := RX9) (T := TX9) (N := 37) hx hb htg gRX9 tyX9 tyX9_ok nmX9 hown hK hP hD hS 0 rfl rfl 19 (by decide) (htg _ wi_1169) (fun _ h9 => h9) rfl (by decide +kernel) rfl rfl (Nat.le_of_ble_eq_true rfl) dX9_draw_12 (fun H locs hP hD hS => ?_)
  obtain ⟨hP, hD⟩ : PD D A [(sw_9 h0 g b0 b5 b6 b7 b8 b9 b10 b11 b12 b13 b14 b17 b18 z_2 b23 b24 b25 b26 b27 b29 b31 b32 b33)] _ := ⟨hP, hD⟩
  refine lv_aload_n hx hb dX9_draw_15 rfl (lv_at hl 0 rfl) ?_
  refine va_get (D := D) (ci := 9) (v := .int z_2) (C := RX9) (T := TX9) (N := 37) hx hb htg gRX9 hown hK hP 0 rfl rfl 19 (by decide) (htg _ wi_1169) (fun _ h9 => h9) rfl dX9_draw_16 ?_
  refine lv_bipush (v := 16) hx hb dX9_draw_19 (by decide) ?_
  obtain ⟨z_3, ez_3⟩ : ∃ w : Int32, w = (z_2.toUInt32 >>> ((16 : Int32).toUInt32 &&& Int32.toUInt32 31)).toInt32 := ⟨_, rfl⟩
  refine lv_iushr (v := z_3) hx hb dX9_draw_21 ez_3.symm ?_
  have iz_3 : 0 ≤ z_3.toInt ∧ z_3.toInt ≤ 65535 := ushrI (k := 16) ez_3 (by decide) (by decide) (by decide)
  have jz_3 : 0 ≤ z_2.toInt → z_3.toInt = z_2.toInt / 65536 := ushrQ (k := 16) ez_3 (rfl) (by decide) (by decide)
  refine lv_iload_n hx hb dX9_draw_22 rfl (lv_at hl 1 rfl) ?_
  refine lv_irem hx hb dX9_draw_23 (fun h => by have h3 := ieq h (rfl) (show (0 : Int32).toInt = 0 from by decide); omega) ?_
  refine lv_topi (fun z_4 ez_4 => ?_)
  exact x_iret hx hb hr hlk hP hD hS [0] ((z_2)) rfl (by decide) trivial (by decide) (by decide) dX9_draw_24
set_option maxHeartbeats 4000000 in
set_option maxRecDepth 100000 in
theorem m_total (l : Launch) (D : va_G) (cT : Nat → ClassId) (sz : Nat) (h0 : Nat) (g : Nat → Nat) (b0 : Int32) (b5 : Int32) (b6 : Int32) (b7 : Int32) (b8 : Int32) (b9 : Int32) (b10 : Int32) (b11 : Int32) (b12 : Int32) (b13 : Int32) (b14 : Int32) (b17 : Int32) (b18 : Int32) (b19 : Int32) (b23 : Int32) (b24 : Int32) (b25 : Int32) (b26 : Int32) (b27 : Int32) (b29 : Int32) (b31 : Int32) (b32 : Int32) (b33 : Int32) (hb5 : 0 ≤ b5.toInt ∧ b5.toInt ≤ 900) (a4 : Nat → Int32) : Met l yX9_total (wsc yX9_total cX9_total 3 (some .int)) { frames := 2, cells := 0, slots := 0, locals := 100 } (va_Pc [.ref h0] (PX D cT sz [(sw_9 h0 g b0 b5 b6 b7 b8 b9 b10 b11 b12 b13 b14 b17 b18 b19 b23 b24 b25 b26 b27 b29 b31 b32 b33), (sw_in cT (g 4) 6 a4)])) (va_Qi (fun (r : Int32) (u : Unit) => (True)) (fun u t => RW D (va_A [(sw_9 h0 g b0 b5 b6 b7 b8 b9 b10 b11 b12 b13 b14 b17 b18 b19 b23 b24 b25 b26 b27 b29 b31 b32 b33), (sw_in cT (g 4) 6 a4)] sz) ((fun _ : Unit => [(sw_9 h0 g b0 b5 b6 b7 b8 b9 b10 b11 b12 b13 b14 b17 b18 b19 b23 b24 b25 b26 b27 b29 b31 b32 b33), (sw_in cT (g 4) 6 a4)]) u) t) (va_A [(sw_9 h0 g b0 b5 b6 b7 b8 b9 b10 b11 b12 b13 b14 b17 b18 b19 b23 b24 b25 b26 b27 b29 b31 b32 b33), (sw_in cT (g 4) 6 a4)] sz)) 0 0 (va_A [(sw_9 h0 g b0 b5 b6 b7 b8 b9 b10 b11 b12 b13 b14 b17 b18 b19 b23 b24 b25 b26 b27 b29 b31 b32 b33), (sw_in cT (g 4) 6 a4)] sz) := by
  refine m_of (y := yX9_total) (cc := cX9_total) (nL := 3) (ret := (some .int)) (D := D) (cT := cT) (av := [.ref h0]) (wi := [(sw_9 h0 g b0 b5 b6 b7 b8 b9 b10 b11 b12 b13 b14 b17 b18 b19 b23 b24 b25 b26 b27 b29 b31 b32 b33), (sw_in cT (g 4) 6 a4)]) (fun A => va_Qi (fun (r : Int32) (u : Unit) => (True)) (fun u t => RW D A ((fun _ : Unit => [(sw_9 h0 g b0 b5 b6 b7 b8 b9 b10 b11 b12 b13 b14 b17 b18 b19 b23 b24 b25 b26 b27 b29 b31 b32 b33), (sw_in cT (g 4) 6 a4)]) u) t) A) (by decide) (Nat.le_of_ble_eq_true rfl) ?_
  intro p e s m below meth c A hx hb hml hown htg hK hN hr hlk hnm hsz hP hD hS hA ls hl
  have hown : s.vm.findClass RX9 = some m.cls := hown
  have hl : lv_has ls 3 [(0, .ref h0)] := hl
  have tc_0 : (0 : Int32).toInt = 0 := by decide
  have tc_6 : (6 : Int32).toInt = 6 := by decide
  refine lv_iconst (v := 0) hx hb dX9_total_0 (by decide) ?_
  refine lv_istore_n (lv' := [(1, .int 0), (0, .ref h0)]) hx hb dX9_total_1 rfl hl (by decide) rfl (fun ls hl => ?_)
  refine lv_iconst (v := 0) hx hb dX9_total_2 (by decide) ?_
  refine lv_istore_n (lv' := [(2, .int 0), (1, .int 0), (0, .ref h0)]) hx hb dX9_total_3 rfl hl (by decide) rfl (fun ls hl => ?_)
  refine (fun (key : ∀ (n9_4 : Nat) (k9_4 : Nat) (x9_4_1 : Int32) (H : Heap) (locs : List Loc) (ls : Array Slot), (k9_4 : Int) ≤ 6 → 6 < (k9_4 : Int) + n9_4 → PD D A [(sw_9 h0 g b0 b5 b6 b7 b8 b9 b10 b11 b12 b13 b14 b17 b18 b19 b23 b24 b25 b26 b27 b29 b31 b32 b33), (sw_in cT (g 4) 6 a4)] H → va_S A s.heap H locs → lv_has ls 3 [(2, .int (nI k9_4)), (1, .int x9_4_1), (0, .ref h0)] → W p l e _ s m _ below meth c H locs _ _ _ (F0 m 4 ls [])) => key (Int.toNat (6 - 0) + 1) 0 _ _ _ _ (by omega) (by omega)  ⟨hP, hD⟩ hS (lv_sub hl [0, 1, 2] rfl)) ?_
  intro n9_4
  induction n9_4 with
  | zero => intro k9_4 x9_4_1 H locs ls hq1 hq2; exact absurd hq2 (by omega)
  | succ n9_4 ih_4 =>
    intro k9_4 x9_4_1 H locs ls hq1_4 hq2_4  hPD hS hl
    obtain ⟨hP, hD⟩ := hPD
    have hk9_4 : (nI k9_4).toInt = (k9_4 : Int) := nI_toInt (by omega)
    refine lv_iload_n hx hb dX9_total_4 rfl (lv_at hl 0 rfl) ?_
    refine lv_bipush (v := 6) hx hb dX9_total_5 (by decide) ?_
    refine lv_icmp_ge (tgt := 25) hx hb dX9_total_7 (by decide) (fun c_1 => ?_) (fun c_1 => ?_)
    · have ic_1 : 6 ≤ ((k9_4 : Nat) : Int) := ile c_1 (by decide) (nI_toInt (by omega))
      refine lv_iload_n hx hb dX9_total_25 rfl (lv_at hl 1 rfl) ?_
      exact x_iret hx hb hr hlk hP hD hS [0, 1] (()) rfl (by decide) trivial (by decide) (by decide) dX9_total_26
    · have ic_1 : ((k9_4 : Nat) : Int) < 6 := inle c_1 (by decide) (nI_toInt (by omega))
      refine lv_iload_n hx hb dX9_total_10 rfl (lv_at hl 1 rfl) ?_
      refine lv_aload_n hx hb dX9_total_11 rfl (lv_at hl 2 rfl) ?_
      refine va_get (D := D) (ci := 9) (v := .ref (g 4)) (C := RX9) (T := TX9) (N := 37) hx hb htg gRX9 hown hK hP 0 rfl rfl 15 (by decide) (htg _ wi_1165) (fun _ h9 => h9) rfl dX9_total_12 ?_
      refine lv_iload_n hx hb dX9_total_15 rfl (lv_at hl 0 rfl) ?_
      refine va_iald hx hb hK hP 1 0 rfl rfl (vp_in_nI (by omega) (by omega)) dX9_total_16 ?_
      refine lv_topi (fun z_2 ez_2 => ?_)
      refine lv_iadd hx hb dX9_total_17 ?_
      refine lv_topi (fun z_3 ez_3 => ?_)
      refine lv_istore_n (lv' := [(1, .int z_3), (2, .int (nI k9_4)), (0, .ref h0)]) hx hb dX9_total_18 rfl hl (by decide) rfl (fun ls hl => ?_)
      refine lv_iinc (v := (nI (k9_4 + 1))) (lv' := [(2, .int (nI (k9_4 + 1))), (1, .int z_3), (0, .ref h0)]) hx hb dX9_total_19 hl (k := 1) rfl (by exact nI_1 (k9_4)) (by decide) rfl (fun ls hl => ?_)
      refine lv_goto (tgt := 4) hx hb dX9_total_22 (by decide) ?_
      exact ih_4 (k9_4 + 1) _ _ _ _ (by omega) (by omega)  ⟨hP.sub [0, 1] rfl, hD.sub [0, 1] (by decide) rfl⟩ hS (lv_sub hl [0, 1, 2] rfl)
set_option maxHeartbeats 4000000 in
set_option maxRecDepth 100000 in
theorem m_firstWorth (l : Launch) (D : va_G) (cT : Nat → ClassId) (sz : Nat) (h0 : Nat) (g : Nat → Nat) (b0 : Int32) (b5 : Int32) (b6 : Int32) (b7 : Int32) (b8 : Int32) (b9 : Int32) (b10 : Int32) (b11 : Int32) (b12 : Int32) (b13 : Int32) (b14 : Int32) (b17 : Int32) (b18 : Int32) (b19 : Int32) (b23 : Int32) (b24 : Int32) (b25 : Int32) (b26 : Int32) (b27 : Int32) (b29 : Int32) (b31 : Int32) (b32 : Int32) (b33 : Int32) (hb5 : 0 ≤ b5.toInt ∧ b5.toInt ≤ 900) (a0 : Nat → Int32) (pa0 : PI 288 a0) (a4 : Nat → Int32) (hb24 : 0 ≤ b24.toInt ∧ b24.toInt ≤ 5) : Met l yX9_firstWorth (wsc yX9_firstWorth cX9_firstWorth 4 (some .int)) { frames := 3, cells := 0, slots := 0, locals := 123 } (va_Pc [.ref h0] (PX D cT sz [(sw_9 h0 g b0 b5 b6 b7 b8 b9 b10 b11 b12 b13 b14 b17 b18 b19 b23 b24 b25 b26 b27 b29 b31 b32 b33), (sw_in cT (g 0) 288 a0), (sw_in cT (g 4) 6 a4)])) (va_Qi (fun (r : Int32) (u : Unit) => (True)) (fun u t => RW D (va_A [(sw_9 h0 g b0 b5 b6 b7 b8 b9 b10 b11 b12 b13 b14 b17 b18 b19 b23 b24 b25 b26 b27 b29 b31 b32 b33), (sw_in cT (g 0) 288 a0), (sw_in cT (g 4) 6 a4)] sz) ((fun _ : Unit => [(sw_9 h0 g b0 b5 b6 b7 b8 b9 b10 b11 b12 b13 b14 b17 b18 b19 b23 b24 b25 b26 b27 b29 b31 b32 b33), (sw_in cT (g 0) 288 a0), (sw_in cT (g 4) 6 a4)]) u) t) (va_A [(sw_9 h0 g b0 b5 b6 b7 b8 b9 b10 b11 b12 b13 b14 b17 b18 b19 b23 b24 b25 b26 b27 b29 b31 b32 b33), (sw_in cT (g 0) 288 a0), (sw_in cT (g 4) 6 a4)] sz)) 0 0 (va_A [(sw_9 h0 g b0 b5 b6 b7 b8 b9 b10 b11 b12 b13 b14 b17 b18 b19 b23 b24 b25 b26 b27 b29 b31 b32 b33), (sw_in cT (g 0) 288 a0), (sw_in cT (g 4) 6 a4)] sz) := by
  refine m_of (y := yX9_firstWorth) (cc := cX9_firstWorth) (nL := 4) (ret := (some .int)) (D := D) (cT := cT) (av := [.ref h0]) (wi := [(sw_9 h0 g b0 b5 b6 b7 b8 b9 b10 b11 b12 b13 b14 b17 b18 b19 b23 b24 b25 b26 b27 b29 b31 b32 b33), (sw_in cT (g 0) 288 a0), (sw_in cT (g 4) 6 a4)]) (fun A => va_Qi (fun (r : Int32) (u : Unit) => (True)) (fun u t => RW D A ((fun _ : Unit => [(sw_9 h0 g b0 b5 b6 b7 b8 b9 b10 b11 b12 b13 b14 b17 b18 b19 b23 b24 b25 b26 b27 b29 b31 b32 b33), (sw_in cT (g 0) 288 a0), (sw_in cT (g 4) 6 a4)]) u) t) A) (by decide) (Nat.le_of_ble_eq_true rfl) ?_
  intro p e s m below meth c A hx hb hml hown htg hK hN hr hlk hnm hsz hP hD hS hA ls hl
  have hown : s.vm.findClass RX9 = some m.cls := hown
  have hl : lv_has ls 4 [(0, .ref h0)] := hl
  have tc_m1 : ((-1) : Int32).toInt = (-1) := by decide
  have tc_0 : (0 : Int32).toInt = 0 := by decide
  have tc_1 : (1 : Int32).toInt = 1 := by decide
  have tc_3 : (3 : Int32).toInt = 3 := by decide
  have tc_6 : (6 : Int32).toInt = 6 := by decide
  have tc_10 : (10 : Int32).toInt = 10 := by decide
  refine lv_aload_n hx hb dX9_firstWorth_0 rfl (lv_at hl 0 rfl) ?_
  refine va_get (D := D) (ci := 9) (v := .int b23) (C := RX9) (T := TX9) (N := 37) hx hb htg gRX9 hown hK hP 0 rfl rfl 23 (by decide) (htg _ wi_1173) (fun _ h9 => h9) rfl dX9_firstWorth_1 ?_
  refine lv_if_ne (tgt := 12) hx hb dX9_firstWorth_4 (by decide) (fun c_1 => ?_) (fun c_1 => ?_)
  · have ic_1 : ¬ b23.toInt = 0 := ine c_1 (rfl) (by decide)
    refine lv_aload_n hx hb dX9_firstWorth_12 rfl (lv_at hl 0 rfl) ?_
    refine va_get (D := D) (ci := 9) (v := .int b23) (C := RX9) (T := TX9) (N := 37) hx hb htg gRX9 hown hK hP 0 rfl rfl 23 (by decide) (htg _ wi_1173) (fun _ h9 => h9) rfl dX9_firstWorth_13 ?_
    refine lv_iconst (v := 3) hx hb dX9_firstWorth_16 (by decide) ?_
    refine lv_icmp_ne (tgt := 30) hx hb dX9_firstWorth_17 (by decide) (fun c_2 => ?_) (fun c_2 => ?_)
    · have ic_2 : ¬ b23.toInt = 3 := ine c_2 (rfl) (by decide)
      refine lv_iconst (v := 0) hx hb dX9_firstWorth_30 (by decide) ?_
      refine lv_istore_n (lv' := [(1, .int 0), (0, .ref h0)]) hx hb dX9_firstWorth_31 rfl hl (by decide) rfl (fun ls hl => ?_)
      refine lv_iconst (v := (-1)) hx hb dX9_firstWorth_32 (by decide) ?_
      refine lv_istore_n (lv' := [(2, .int (-1)), (1, .int 0), (0, .ref h0)]) hx hb dX9_firstWorth_33 rfl hl (by decide) rfl (fun ls hl => ?_)
      refine lv_iconst (v := 0) hx hb dX9_firstWorth_34 (by decide) ?_
      refine lv_istore_n (lv' := [(3, .int 0), (2, .int (-1)), (1, .int 0), (0, .ref h0)]) hx hb dX9_firstWorth_35 rfl hl (by decide) rfl (fun ls hl => ?_)
      refine (fun (key : ∀ (n9_36 : Nat) (k9_36 : Nat) (x9_36_2 : Int32) (x9_36_1 : Int32) (H : Heap) (locs : List Loc) (ls : Array Slot), (k9_36 : Int) ≤ 6 → 6 < (k9_36 : Int) + n9_36 → PD D A [(sw_9 h0 g b0 b5 b6 b7 b8 b9 b10 b11 b12 b13 b14 b17 b18 b19 b23 b24 b25 b26 b27 b29 b31 b32 b33), (sw_in cT (g 0) 288 a0), (sw_in cT (g 4) 6 a4)] H → va_S A s.heap H locs → lv_has ls 4 [(3, .int (nI k9_36)), (2, .int x9_36_2), (1, .int x9_36_1), (0, .ref h0)] → W p l e _ s m _ below meth c H locs _ _ _ (F0 m 36 ls [])) => key (Int.toNat (6 - 0) + 1) 0 _ _ _ _ _ (by omega) (by omega)  ⟨hP, hD⟩ hS (lv_sub hl [0, 1, 2, 3] rfl)) ?_
      intro n9_36
      induction n9_36 with
      | zero => intro k9_36 x9_36_2 x9_36_1 H locs ls hq1 hq2; exact absurd hq2 (by omega)
      | succ n9_36 ih_36 =>
        intro k9_36 x9_36_2 x9_36_1 H locs ls hq1_36 hq2_36  hPD hS hl
        obtain ⟨hP, hD⟩ := hPD
        have hk9_36 : (nI k9_36).toInt = (k9_36 : Int) := nI_toInt (by omega)
        refine lv_iload_n hx hb dX9_firstWorth_36 rfl (lv_at hl 0 rfl) ?_
        refine lv_bipush (v := 6) hx hb dX9_firstWorth_37 (by decide) ?_
        refine lv_icmp_ge (tgt := 97) hx hb dX9_firstWorth_39 (by decide) (fun c_3 => ?_) (fun c_3 => ?_)
        · have ic_3 : 6 ≤ ((k9_36 : Nat) : Int) := ile c_3 (by decide) (nI_toInt (by omega))
          refine lv_aload_n hx hb dX9_firstWorth_97 rfl (lv_at hl 3 rfl) ?_
          refine va_get (D := D) (ci := 9) (v := .int b23) (C := RX9) (T := TX9) (N := 37) hx hb htg gRX9 hown hK hP 0 rfl rfl 23 (by decide) (htg _ wi_1173) (fun _ h9 => h9) rfl dX9_firstWorth_98 ?_
          refine lv_iconst (v := 1) hx hb dX9_firstWorth_101 (by decide) ?_
          refine lv_icmp_ne (tgt := 109) hx hb dX9_firstWorth_102 (by decide) (fun c_4 => ?_) (fun c_4 => ?_)
          · have ic_4 : ¬ b23.toInt = 1 := ine c_4 (rfl) (by decide)
            refine lv_iload_n hx hb dX9_firstWorth_109 rfl (lv_at hl 1 rfl) ?_
            exact x_iret hx hb hr hlk hP hD hS [0, 1, 2] (()) rfl (by decide) trivial (by decide) (by decide) dX9_firstWorth_110
          · have ic_4 : b23.toInt = 1 := ieq c_4 (rfl) (by decide)
            refine lv_iload_n hx hb dX9_firstWorth_105 rfl (lv_at hl 2 rfl) ?_
            refine lv_goto (tgt := 110) hx hb dX9_firstWorth_106 (by decide) ?_
            exact x_iret hx hb hr hlk hP hD hS [0, 1, 2] (()) rfl (by decide) trivial (by decide) (by decide) dX9_firstWorth_110
        · have ic_3 : ((k9_36 : Nat) : Int) < 6 := inle c_3 (by decide) (nI_toInt (by omega))
          refine lv_iload_n hx hb dX9_firstWorth_42 rfl (lv_at hl 2 rfl) ?_
          refine lv_aload_n hx hb dX9_firstWorth_43 rfl (lv_at hl 3 rfl) ?_
          refine va_get (D := D) (ci := 9) (v := .ref (g 4)) (C := RX9) (T := TX9) (N := 37) hx hb htg gRX9 hown hK hP 0 rfl rfl 15 (by decide) (htg _ wi_1165) (fun _ h9 => h9) rfl dX9_firstWorth_44 ?_
          refine lv_iload_n hx hb dX9_firstWorth_47 rfl (lv_at hl 0 rfl) ?_
          refine va_iald hx hb hK hP 2 0 rfl rfl (vp_in_nI (by omega) (by omega)) dX9_firstWorth_48 ?_
          refine lv_topi (fun z_5 ez_5 => ?_)
          refine lv_aload_n hx hb dX9_firstWorth_49 rfl (lv_at hl 3 rfl) ?_
          refine va_get (D := D) (ci := 9) (v := .ref (g 0)) (C := RX9) (T := TX9) (N := 37) hx hb htg gRX9 hown hK hP 0 rfl rfl 1 (by decide) (htg _ wi_1151) (fun _ h9 => h9) rfl dX9_firstWorth_50 ?_
          refine lv_bipush (v := 10) hx hb dX9_firstWorth_53 (by decide) ?_
          refine lv_iload_n hx hb dX9_firstWorth_55 rfl (lv_at hl 0 rfl) ?_
          refine lv_iadd hx hb dX9_firstWorth_56 ?_
          refine lv_is (y := nI (10 + k9_36)) (nI_add 10 (k9_36)) ?_
          refine va_iald hx hb hK hP 1 0 rfl rfl (vp_in_nI (by omega) (by omega)) dX9_firstWorth_57 ?_
          refine lv_topi (fun z_6 ez_6 => ?_)
          refine lv_imul hx hb dX9_firstWorth_58 ?_
          refine lv_topi (fun z_7 ez_7 => ?_)
          refine lv_iadd hx hb dX9_firstWorth_59 ?_
          refine lv_topi (fun z_8 ez_8 => ?_)
          refine lv_istore_n (lv' := [(1, .int z_8), (3, .int (nI k9_36)), (2, .int x9_36_2), (0, .ref h0)]) hx hb dX9_firstWorth_60 rfl hl (by decide) rfl (fun ls hl => ?_)
          refine lv_aload_n hx hb dX9_firstWorth_61 rfl (lv_at hl 3 rfl) ?_
          refine lv_iload_n hx hb dX9_firstWorth_62 rfl (lv_at hl 1 rfl) ?_
          refine xk_i (wr := [(sw_in cT (g 4) 6 a4)]) (xr_V (n := 1) (As := [.int (nI k9_36)]) (rest := []) ⟨hx, hb, hml, hown, htg⟩ hK hN hP hD hS hA [0, 1] rfl (by decide) (m_stripsOf l D cT _ (h0) (g) (b0) (b5) (b6) (b7) (b8) (b9) (b10) (b11) (b12) (b13) (b14) (b17) (b18) (b19) (b23) (b24) (b25) (b26) (b27) (b29) (b31) (b32) (b33) (by first | assumption | omega | decide | exact Or.inl (by decide) | (intro h9; exact absurd h9 (by decide)) | (intro _; omega) | (intro _; assumption) | (intro _; decide)) (a0) (by first | assumption | omega | decide | exact Or.inl (by decide) | (intro h9; exact absurd h9 (by decide)) | (intro _; omega) | (intro _; assumption) | (intro _; decide)) ((nI k9_36))) wi_1371 wi_1373 wi_96 wi_131 wi_1374 rfl rfl rfl ⟨rfl, by decide +kernel⟩ ⟨Nat.le_of_ble_eq_true rfl, Nat.le_of_ble_eq_true rfl⟩ rfl hl.1 rfl (Nat.le_of_ble_eq_true rfl) dX9_firstWorth_63 ⟨Nat.le_of_ble_eq_true rfl, Nat.le_of_ble_eq_true rfl⟩) hP hD hS hA [0, 1] [2] rfl rfl (by decide) (by decide) (fun r_10 u_9 H locs hwr_10 hP hD hS => ?_)
          obtain ⟨hP, hD⟩ : PD D A [(sw_in cT (g 4) 6 a4), (sw_9 h0 g b0 b5 b6 b7 b8 b9 b10 b11 b12 b13 b14 b17 b18 b19 b23 b24 b25 b26 b27 b29 b31 b32 b33), (sw_in cT (g 0) 288 a0)] _ := ⟨hP, hD⟩
          refine lv_if_eq (tgt := 91) hx hb dX9_firstWorth_66 (by decide) (fun c_11 => ?_) (fun c_11 => ?_)
          · have ic_11 : r_10.toInt = 0 := ieq c_11 (rfl) (by decide)
            refine lv_iinc (v := (nI (k9_36 + 1))) (lv' := [(3, .int (nI (k9_36 + 1))), (1, .int z_8), (2, .int x9_36_2), (0, .ref h0)]) hx hb dX9_firstWorth_91 hl (k := 1) rfl (by exact nI_1 (k9_36)) (by decide) rfl (fun ls hl => ?_)
            refine lv_goto (tgt := 36) hx hb dX9_firstWorth_94 (by decide) ?_
            exact ih_36 (k9_36 + 1) _ _ _ _ _ (by omega) (by omega)  ⟨hP.sub [1, 2, 0] rfl, hD.sub [1, 2, 0] (by decide) rfl⟩ hS (lv_sub hl [0, 2, 1, 3] rfl)
          · have ic_11 : ¬ r_10.toInt = 0 := ine c_11 (rfl) (by decide)
            refine lv_iload_n hx hb dX9_firstWorth_69 rfl (lv_at hl 2 rfl) ?_
            refine lv_iconst (v := (-1)) hx hb dX9_firstWorth_70 (by decide) ?_
            refine lv_icmp_eq (tgt := 84) hx hb dX9_firstWorth_71 (by decide) (fun c_12 => ?_) (fun c_12 => ?_)
            · have ic_12 : x9_36_2.toInt = (-1) := ieq c_12 (rfl) (by decide)
              refine lv_aload_n hx hb dX9_firstWorth_84 rfl (lv_at hl 3 rfl) ?_
              refine va_get (D := D) (ci := 9) (v := .ref (g 4)) (C := RX9) (T := TX9) (N := 37) hx hb htg gRX9 hown hK hP 1 rfl rfl 15 (by decide) (htg _ wi_1165) (fun _ h9 => h9) rfl dX9_firstWorth_85 ?_
              refine lv_iload_n hx hb dX9_firstWorth_88 rfl (lv_at hl 1 rfl) ?_
              refine va_iald hx hb hK hP 0 0 rfl rfl (vp_in_nI (by omega) (by omega)) dX9_firstWorth_89 ?_
              refine lv_topi (fun z_13 ez_13 => ?_)
              refine lv_istore_n (lv' := [(2, .int z_13), (1, .int z_8), (3, .int (nI k9_36)), (0, .ref h0)]) hx hb dX9_firstWorth_90 rfl hl (by decide) rfl (fun ls hl => ?_)
              refine lv_iinc (v := (nI (k9_36 + 1))) (lv' := [(3, .int (nI (k9_36 + 1))), (2, .int z_13), (1, .int z_8), (0, .ref h0)]) hx hb dX9_firstWorth_91 hl (k := 2) rfl (by exact nI_1 (k9_36)) (by decide) rfl (fun ls hl => ?_)
              refine lv_goto (tgt := 36) hx hb dX9_firstWorth_94 (by decide) ?_
              exact ih_36 (k9_36 + 1) _ _ _ _ _ (by omega) (by omega)  ⟨hP.sub [1, 2, 0] rfl, hD.sub [1, 2, 0] (by decide) rfl⟩ hS (lv_sub hl [0, 1, 2, 3] rfl)
            · have ic_12 : ¬ x9_36_2.toInt = (-1) := ine c_12 (rfl) (by decide)
              refine lv_aload_n hx hb dX9_firstWorth_74 rfl (lv_at hl 3 rfl) ?_
              refine va_get (D := D) (ci := 9) (v := .ref (g 4)) (C := RX9) (T := TX9) (N := 37) hx hb htg gRX9 hown hK hP 1 rfl rfl 15 (by decide) (htg _ wi_1165) (fun _ h9 => h9) rfl dX9_firstWorth_75 ?_
              refine lv_iload_n hx hb dX9_firstWorth_78 rfl (lv_at hl 1 rfl) ?_
              refine va_iald hx hb hK hP 0 0 rfl rfl (vp_in_nI (by omega) (by omega)) dX9_firstWorth_79 ?_
              refine lv_topi (fun z_14 ez_14 => ?_)
              refine lv_iload_n hx hb dX9_firstWorth_80 rfl (lv_at hl 2 rfl) ?_
              refine lv_icmp_ge (tgt := 91) hx hb dX9_firstWorth_81 (by decide) (fun c_15 => ?_) (fun c_15 => ?_)
              · have ic_15 : x9_36_2.toInt ≤ z_14.toInt := ile c_15 (rfl) (rfl)
                refine lv_iinc (v := (nI (k9_36 + 1))) (lv' := [(3, .int (nI (k9_36 + 1))), (1, .int z_8), (2, .int x9_36_2), (0, .ref h0)]) hx hb dX9_firstWorth_91 hl (k := 1) rfl (by exact nI_1 (k9_36)) (by decide) rfl (fun ls hl => ?_)
                refine lv_goto (tgt := 36) hx hb dX9_firstWorth_94 (by decide) ?_
                exact ih_36 (k9_36 + 1) _ _ _ _ _ (by omega) (by omega)  ⟨hP.sub [1, 2, 0] rfl, hD.sub [1, 2, 0] (by decide) rfl⟩ hS (lv_sub hl [0, 2, 1, 3] rfl)
              · have ic_15 : z_14.toInt < x9_36_2.toInt := inle c_15 (rfl) (rfl)
                refine lv_aload_n hx hb dX9_firstWorth_84 rfl (lv_at hl 3 rfl) ?_
                refine va_get (D := D) (ci := 9) (v := .ref (g 4)) (C := RX9) (T := TX9) (N := 37) hx hb htg gRX9 hown hK hP 1 rfl rfl 15 (by decide) (htg _ wi_1165) (fun _ h9 => h9) rfl dX9_firstWorth_85 ?_
                refine lv_iload_n hx hb dX9_firstWorth_88 rfl (lv_at hl 1 rfl) ?_
                refine va_iald hx hb hK hP 0 0 rfl rfl (vp_in_nI (by omega) (by omega)) dX9_firstWorth_89 ?_
                refine lv_topi (fun z_16 ez_16 => ?_)
                refine lv_istore_n (lv' := [(2, .int z_16), (1, .int z_8), (3, .int (nI k9_36)), (0, .ref h0)]) hx hb dX9_firstWorth_90 rfl hl (by decide) rfl (fun ls hl => ?_)
                refine lv_iinc (v := (nI (k9_36 + 1))) (lv' := [(3, .int (nI (k9_36 + 1))), (2, .int z_16), (1, .int z_8), (0, .ref h0)]) hx hb dX9_firstWorth_91 hl (k := 2) rfl (by exact nI_1 (k9_36)) (by decide) rfl (fun ls hl => ?_)
                refine lv_goto (tgt := 36) hx hb dX9_firstWorth_94 (by decide) ?_
                exact ih_36 (k9_36 + 1) _ _ _ _ _ (by omega) (by omega)  ⟨hP.sub [1, 2, 0] rfl, hD.sub [1, 2, 0] (by decide) rfl⟩ hS (lv_sub hl [0, 1, 2, 3] rfl)
    · have ic_2 : b23.toInt = 3 := ieq c_2 (rfl) (by decide)
      refine lv_aload_n hx hb dX9_firstWorth_20 rfl (lv_at hl 0 rfl) ?_
      refine va_get (D := D) (ci := 9) (v := .ref (g 4)) (C := RX9) (T := TX9) (N := 37) hx hb htg gRX9 hown hK hP 0 rfl rfl 15 (by decide) (htg _ wi_1165) (fun _ h9 => h9) rfl dX9_firstWorth_21 ?_
      refine lv_aload_n hx hb dX9_firstWorth_24 rfl (lv_at hl 0 rfl) ?_
      refine va_get (D := D) (ci := 9) (v := .int b24) (C := RX9) (T := TX9) (N := 37) hx hb htg gRX9 hown hK hP 0 rfl rfl 24 (by decide) (htg _ wi_1174) (fun _ h9 => h9) rfl dX9_firstWorth_25 ?_
      refine va_iald hx hb hK hP 2 0 rfl rfl (vp_in_iff.mpr (by omega)) dX9_firstWorth_28 ?_
      refine lv_topi (fun z_17 ez_17 => ?_)
      exact x_iret hx hb hr hlk hP hD hS [0, 1, 2] (()) rfl (by decide) trivial (by decide) (by decide) dX9_firstWorth_29
  · have ic_1 : b23.toInt = 0 := ieq c_1 (rfl) (by decide)
    refine lv_aload_n hx hb dX9_firstWorth_7 rfl (lv_at hl 0 rfl) ?_
    refine xk_i (wr := [(sw_in cT (g 0) 288 a0)]) (xr_V (n := 0) (As := []) (rest := []) ⟨hx, hb, hml, hown, htg⟩ hK hN hP hD hS hA [0, 2] rfl (by decide) (m_total l D cT _ (h0) (g) (b0) (b5) (b6) (b7) (b8) (b9) (b10) (b11) (b12) (b13) (b14) (b17) (b18) (b19) (b23) (b24) (b25) (b26) (b27) (b29) (b31) (b32) (b33) (by first | assumption | omega | decide | exact Or.inl (by decide) | (intro h9; exact absurd h9 (by decide)) | (intro _; omega) | (intro _; assumption) | (intro _; decide)) (a4)) wi_1494 wi_1496 wi_110 wi_131 wi_1497 rfl rfl rfl ⟨rfl, by decide +kernel⟩ ⟨Nat.le_of_ble_eq_true rfl, Nat.le_of_ble_eq_true rfl⟩ rfl hl.1 rfl (Nat.le_of_ble_eq_true rfl) dX9_firstWorth_8 ⟨Nat.le_of_ble_eq_true rfl, Nat.le_of_ble_eq_true rfl⟩) hP hD hS hA [0, 2] [1] rfl rfl (by decide) (by decide) (fun r_19 u_18 H locs hwr_19 hP hD hS => ?_)
    obtain ⟨hP, hD⟩ : PD D A [(sw_in cT (g 0) 288 a0), (sw_9 h0 g b0 b5 b6 b7 b8 b9 b10 b11 b12 b13 b14 b17 b18 b19 b23 b24 b25 b26 b27 b29 b31 b32 b33), (sw_in cT (g 4) 6 a4)] _ := ⟨hP, hD⟩
    exact x_iret hx hb hr hlk hP hD hS [1, 0, 2] (()) rfl (by decide) trivial (by decide) (by decide) dX9_firstWorth_11
set_option maxHeartbeats 4000000 in
set_option maxRecDepth 100000 in
theorem m_minutesOf (l : Launch) (D : va_G) (cT : Nat → ClassId) (sz : Nat) (h0 : Nat) (g : Nat → Nat) (b0 : Int32) (b5 : Int32) (b6 : Int32) (b7 : Int32) (b8 : Int32) (b9 : Int32) (b10 : Int32) (b11 : Int32) (b12 : Int32) (b13 : Int32) (b14 : Int32) (b17 : Int32) (b18 : Int32) (b19 : Int32) (b23 : Int32) (b24 : Int32) (b25 : Int32) (b26 : Int32) (b27 : Int32) (b29 : Int32) (b31 : Int32) (b32 : Int32) (b33 : Int32) (hb5 : 0 ≤ b5.toInt ∧ b5.toInt ≤ 900) (a0 : Nat → Int32) (pa0 : PI 288 a0) (x : Int32) (hx8 : 0 ≤ x.toInt ∧ x.toInt ≤ 8) : Met l yX9_minutesOf (wsc yX9_minutesOf cX9_minutesOf 3 (some .int)) { frames := 2, cells := 0, slots := 0, locals := 100 } (va_Pc [.ref h0, .int x] (PX D cT sz [(sw_9 h0 g b0 b5 b6 b7 b8 b9 b10 b11 b12 b13 b14 b17 b18 b19 b23 b24 b25 b26 b27 b29 b31 b32 b33), (sw_in cT (g 0) 288 a0)])) (va_Qi (fun (r : Int32) (u : Unit) => (0 ≤ r.toInt ∧ r.toInt ≤ 8) ∧ (True)) (fun u t => RW D (va_A [(sw_9 h0 g b0 b5 b6 b7 b8 b9 b10 b11 b12 b13 b14 b17 b18 b19 b23 b24 b25 b26 b27 b29 b31 b32 b33), (sw_in cT (g 0) 288 a0)] sz) ((fun _ : Unit => [(sw_9 h0 g b0 b5 b6 b7 b8 b9 b10 b11 b12 b13 b14 b17 b18 b19 b23 b24 b25 b26 b27 b29 b31 b32 b33), (sw_in cT (g 0) 288 a0)]) u) t) (va_A [(sw_9 h0 g b0 b5 b6 b7 b8 b9 b10 b11 b12 b13 b14 b17 b18 b19 b23 b24 b25 b26 b27 b29 b31 b32 b33), (sw_in cT (g 0) 288 a0)] sz)) 0 0 (va_A [(sw_9 h0 g b0 b5 b6 b7 b8 b9 b10 b11 b12 b13 b14 b17 b18 b19 b23 b24 b25 b26 b27 b29 b31 b32 b33), (sw_in cT (g 0) 288 a0)] sz) := by
  refine m_of (y := yX9_minutesOf) (cc := cX9_minutesOf) (nL := 3) (ret := (some .int)) (D := D) (cT := cT) (av := [.ref h0, .int x]) (wi := [(sw_9 h0 g b0 b5 b6 b7 b8 b9 b10 b11 b12 b13 b14 b17 b18 b19 b23 b24 b25 b26 b27 b29 b31 b32 b33), (sw_in cT (g 0) 288 a0)]) (fun A => va_Qi (fun (r : Int32) (u : Unit) => (0 ≤ r.toInt ∧ r.toInt ≤ 8) ∧ (True)) (fun u t => RW D A ((fun _ : Unit => [(sw_9 h0 g b0 b5 b6 b7 b8 b9 b10 b11 b12 b13 b14 b17 b18 b19 b23 b24 b25 b26 b27 b29 b31 b32 b33), (sw_in cT (g 0) 288 a0)]) u) t) A) (by decide) (Nat.le_of_ble_eq_true rfl) ?_
  intro p e s m below meth c A hx hb hml hown htg hK hN hr hlk hnm hsz hP hD hS hA ls hl
  have hown : s.vm.findClass RX9 = some m.cls := hown
  have hl : lv_has ls 3 [(0, .ref h0), (1, .int x)] := hl
  have tc_1 : (1 : Int32).toInt = 1 := by decide
  have tc_6 : (6 : Int32).toInt = 6 := by decide
  have tc_9999 : (9999 : Int32).toInt = 9999 := by decide
  refine lv_aload_n hx hb dX9_minutesOf_0 rfl (lv_at hl 0 rfl) ?_
  refine va_get (D := D) (ci := 9) (v := .ref (g 0)) (C := RX9) (T := TX9) (N := 37) hx hb htg gRX9 hown hK hP 0 rfl rfl 1 (by decide) (htg _ wi_1151) (fun _ h9 => h9) rfl dX9_minutesOf_1 ?_
  refine lv_bipush (v := 6) hx hb dX9_minutesOf_4 (by decide) ?_
  refine va_iald hx hb hK hP 1 0 rfl rfl (by unfold vp_in; decide) dX9_minutesOf_6 ?_
  refine lv_topi (fun z_1 ez_1 => ?_)
  have iz_1 : 0 ≤ z_1.toInt ∧ z_1.toInt ≤ 999 := by rw [ez_1]; exact rd6 pa0 (by decide) rfl
  have nz_1 : z_1.toInt = ((a0) 6).toInt := by rw [ez_1]; rfl
  refine lv_iload_n hx hb dX9_minutesOf_7 rfl (lv_at hl 1 rfl) ?_
  refine lv_icmp_ge (tgt := 21) hx hb dX9_minutesOf_8 (by decide) (fun c_2 => ?_) (fun c_2 => ?_)
  · have ic_2 : x.toInt ≤ z_1.toInt := ile c_2 (rfl) (rfl)
    refine lv_iload_n hx hb dX9_minutesOf_21 rfl (lv_at hl 1 rfl) ?_
    refine lv_istore_n (lv' := [(2, .int x), (0, .ref h0), (1, .int x)]) hx hb dX9_minutesOf_22 rfl hl (by decide) rfl (fun ls hl => ?_)
    refine lv_sipush (v := 9999) hx hb dX9_minutesOf_23 (by decide) ?_
    refine lv_aload_n hx hb dX9_minutesOf_26 rfl (lv_at hl 1 rfl) ?_
    refine va_get (D := D) (ci := 9) (v := .ref (g 0)) (C := RX9) (T := TX9) (N := 37) hx hb htg gRX9 hown hK hP 0 rfl rfl 1 (by decide) (htg _ wi_1151) (fun _ h9 => h9) rfl dX9_minutesOf_27 ?_
    refine lv_iconst (v := 1) hx hb dX9_minutesOf_30 (by decide) ?_
    refine va_iald hx hb hK hP 1 0 rfl rfl (by unfold vp_in; decide) dX9_minutesOf_31 ?_
    refine lv_topi (fun z_3 ez_3 => ?_)
    have iz_3 : 0 ≤ z_3.toInt ∧ z_3.toInt ≤ 9999 := by rw [ez_3]; exact rd1 pa0 (by decide) rfl
    have nz_3 : z_3.toInt = ((a0) 1).toInt := by rw [ez_3]; rfl
    refine lv_isub hx hb dX9_minutesOf_32 ?_
    refine lv_topi (fun z_4 ez_4 => ?_)
    have iz_4 : z_4.toInt = 9999 - z_3.toInt := toInt_subI ez_4 (by decide) (rfl) (by omega)
    refine lv_iload_n hx hb dX9_minutesOf_33 rfl (lv_at hl 0 rfl) ?_
    refine lv_icmp_ge (tgt := 50) hx hb dX9_minutesOf_34 (by decide) (fun c_5 => ?_) (fun c_5 => ?_)
    · have ic_5 : x.toInt ≤ z_4.toInt := ile c_5 (rfl) (rfl)
      refine lv_iload_n hx hb dX9_minutesOf_50 rfl (lv_at hl 0 rfl) ?_
      exact x_iret hx hb hr hlk hP hD hS [0, 1] (()) rfl (by decide) ⟨by (try dsimp only); first | assumption | omega | decide | exact Or.inl (by decide) | (intro h9; exact absurd h9 (by decide)) | (intro _; omega) | (intro _; assumption) | (intro _; decide), trivial⟩ (by decide) (by decide) dX9_minutesOf_51
    · have ic_5 : z_4.toInt < x.toInt := inle c_5 (rfl) (rfl)
      refine lv_sipush (v := 9999) hx hb dX9_minutesOf_37 (by decide) ?_
      refine lv_aload_n hx hb dX9_minutesOf_40 rfl (lv_at hl 1 rfl) ?_
      refine va_get (D := D) (ci := 9) (v := .ref (g 0)) (C := RX9) (T := TX9) (N := 37) hx hb htg gRX9 hown hK hP 0 rfl rfl 1 (by decide) (htg _ wi_1151) (fun _ h9 => h9) rfl dX9_minutesOf_41 ?_
      refine lv_iconst (v := 1) hx hb dX9_minutesOf_44 (by decide) ?_
      refine va_iald hx hb hK hP 1 0 rfl rfl (by unfold vp_in; decide) dX9_minutesOf_45 ?_
      refine lv_topi (fun z_6 ez_6 => ?_)
      have iz_6 : 0 ≤ z_6.toInt ∧ z_6.toInt ≤ 9999 := by rw [ez_6]; exact rd1 pa0 (by decide) rfl
      have nz_6 : z_6.toInt = ((a0) 1).toInt := by rw [ez_6]; rfl
      refine lv_isub hx hb dX9_minutesOf_46 ?_
      refine lv_topi (fun z_7 ez_7 => ?_)
      have iz_7 : z_7.toInt = 9999 - z_6.toInt := toInt_subI ez_7 (by decide) (rfl) (by omega)
      refine lv_goto (tgt := 51) hx hb dX9_minutesOf_47 (by decide) ?_
      exact x_iret hx hb hr hlk hP hD hS [0, 1] (()) rfl (by decide) ⟨by (try dsimp only); first | assumption | omega | decide | exact Or.inl (by decide) | (intro h9; exact absurd h9 (by decide)) | (intro _; omega) | (intro _; assumption) | (intro _; decide), trivial⟩ (by decide) (by decide) dX9_minutesOf_51
  · have ic_2 : z_1.toInt < x.toInt := inle c_2 (rfl) (rfl)
    refine lv_aload_n hx hb dX9_minutesOf_11 rfl (lv_at hl 0 rfl) ?_
    refine va_get (D := D) (ci := 9) (v := .ref (g 0)) (C := RX9) (T := TX9) (N := 37) hx hb htg gRX9 hown hK hP 0 rfl rfl 1 (by decide) (htg _ wi_1151) (fun _ h9 => h9) rfl dX9_minutesOf_12 ?_
    refine lv_bipush (v := 6) hx hb dX9_minutesOf_15 (by decide) ?_
    refine va_iald hx hb hK hP 1 0 rfl rfl (by unfold vp_in; decide) dX9_minutesOf_17 ?_
    refine lv_topi (fun z_8 ez_8 => ?_)
    have iz_8 : 0 ≤ z_8.toInt ∧ z_8.toInt ≤ 999 := by rw [ez_8]; exact rd6 pa0 (by decide) rfl
    have nz_8 : z_8.toInt = ((a0) 6).toInt := by rw [ez_8]; rfl
    refine lv_goto (tgt := 22) hx hb dX9_minutesOf_18 (by decide) ?_
    refine lv_istore_n (lv' := [(2, .int z_8), (0, .ref h0), (1, .int x)]) hx hb dX9_minutesOf_22 rfl hl (by decide) rfl (fun ls hl => ?_)
    refine lv_sipush (v := 9999) hx hb dX9_minutesOf_23 (by decide) ?_
    refine lv_aload_n hx hb dX9_minutesOf_26 rfl (lv_at hl 1 rfl) ?_
    refine va_get (D := D) (ci := 9) (v := .ref (g 0)) (C := RX9) (T := TX9) (N := 37) hx hb htg gRX9 hown hK hP 0 rfl rfl 1 (by decide) (htg _ wi_1151) (fun _ h9 => h9) rfl dX9_minutesOf_27 ?_
    refine lv_iconst (v := 1) hx hb dX9_minutesOf_30 (by decide) ?_
    refine va_iald hx hb hK hP 1 0 rfl rfl (by unfold vp_in; decide) dX9_minutesOf_31 ?_
    refine lv_topi (fun z_9 ez_9 => ?_)
    have iz_9 : 0 ≤ z_9.toInt ∧ z_9.toInt ≤ 9999 := by rw [ez_9]; exact rd1 pa0 (by decide) rfl
    have nz_9 : z_9.toInt = ((a0) 1).toInt := by rw [ez_9]; rfl
    refine lv_isub hx hb dX9_minutesOf_32 ?_
    refine lv_topi (fun z_10 ez_10 => ?_)
    have iz_10 : z_10.toInt = 9999 - z_9.toInt := toInt_subI ez_10 (by decide) (rfl) (by omega)
    refine lv_iload_n hx hb dX9_minutesOf_33 rfl (lv_at hl 0 rfl) ?_
    refine lv_icmp_ge (tgt := 50) hx hb dX9_minutesOf_34 (by decide) (fun c_11 => ?_) (fun c_11 => ?_)
    · have ic_11 : z_8.toInt ≤ z_10.toInt := ile c_11 (rfl) (rfl)
      refine lv_iload_n hx hb dX9_minutesOf_50 rfl (lv_at hl 0 rfl) ?_
      exact x_iret hx hb hr hlk hP hD hS [0, 1] (()) rfl (by decide) ⟨by (try dsimp only); first | assumption | omega | decide | exact Or.inl (by decide) | (intro h9; exact absurd h9 (by decide)) | (intro _; omega) | (intro _; assumption) | (intro _; decide), trivial⟩ (by decide) (by decide) dX9_minutesOf_51
    · have ic_11 : z_10.toInt < z_8.toInt := inle c_11 (rfl) (rfl)
      refine lv_sipush (v := 9999) hx hb dX9_minutesOf_37 (by decide) ?_
      refine lv_aload_n hx hb dX9_minutesOf_40 rfl (lv_at hl 1 rfl) ?_
      refine va_get (D := D) (ci := 9) (v := .ref (g 0)) (C := RX9) (T := TX9) (N := 37) hx hb htg gRX9 hown hK hP 0 rfl rfl 1 (by decide) (htg _ wi_1151) (fun _ h9 => h9) rfl dX9_minutesOf_41 ?_
      refine lv_iconst (v := 1) hx hb dX9_minutesOf_44 (by decide) ?_
      refine va_iald hx hb hK hP 1 0 rfl rfl (by unfold vp_in; decide) dX9_minutesOf_45 ?_
      refine lv_topi (fun z_12 ez_12 => ?_)
      have iz_12 : 0 ≤ z_12.toInt ∧ z_12.toInt ≤ 9999 := by rw [ez_12]; exact rd1 pa0 (by decide) rfl
      have nz_12 : z_12.toInt = ((a0) 1).toInt := by rw [ez_12]; rfl
      refine lv_isub hx hb dX9_minutesOf_46 ?_
      refine lv_topi (fun z_13 ez_13 => ?_)
      have iz_13 : z_13.toInt = 9999 - z_12.toInt := toInt_subI ez_13 (by decide) (rfl) (by omega)
      refine lv_goto (tgt := 51) hx hb dX9_minutesOf_47 (by decide) ?_
      exact x_iret hx hb hr hlk hP hD hS [0, 1] (()) rfl (by decide) ⟨by (try dsimp only); first | assumption | omega | decide | exact Or.inl (by decide) | (intro h9; exact absurd h9 (by decide)) | (intro _; omega) | (intro _; assumption) | (intro _; decide), trivial⟩ (by decide) (by decide) dX9_minutesOf_51
set_option maxHeartbeats 4000000 in
set_option maxRecDepth 100000 in
theorem m_isMet (l : Launch) (D : va_G) (cT : Nat → ClassId) (sz : Nat) (h0 : Nat) (g : Nat → Nat) (b0 : Int32) (b5 : Int32) (b6 : Int32) (b7 : Int32) (b8 : Int32) (b9 : Int32) (b10 : Int32) (b11 : Int32) (b12 : Int32) (b13 : Int32) (b14 : Int32) (b17 : Int32) (b18 : Int32) (b19 : Int32) (b23 : Int32) (b24 : Int32) (b25 : Int32) (b26 : Int32) (b27 : Int32) (b29 : Int32) (b31 : Int32) (b32 : Int32) (b33 : Int32) (hb5 : 0 ≤ b5.toInt ∧ b5.toInt ≤ 900) (a0 : Nat → Int32) (pa0 : PI 288 a0) (a9 : Nat → Int32) (hb29 : 0 ≤ b29.toInt ∧ b29.toInt ≤ 729) : Met l yX9_isMet (wsc yX9_isMet cX9_isMet 3 (some .boolean)) { frames := 2, cells := 0, slots := 0, locals := 100 } (va_Pc [.ref h0] (PX D cT sz [(sw_9 h0 g b0 b5 b6 b7 b8 b9 b10 b11 b12 b13 b14 b17 b18 b19 b23 b24 b25 b26 b27 b29 b31 b32 b33), (sw_in cT (g 0) 288 a0), (sw_in cT (g 9) 11664 a9)])) (va_Qi (fun (r : Int32) (u : Unit) => (True)) (fun u t => RW D (va_A [(sw_9 h0 g b0 b5 b6 b7 b8 b9 b10 b11 b12 b13 b14 b17 b18 b19 b23 b24 b25 b26 b27 b29 b31 b32 b33), (sw_in cT (g 0) 288 a0), (sw_in cT (g 9) 11664 a9)] sz) ((fun _ : Unit => [(sw_9 h0 g b0 b5 b6 b7 b8 b9 b10 b11 b12 b13 b14 b17 b18 b19 b23 b24 b25 b26 b27 b29 b31 b32 b33), (sw_in cT (g 0) 288 a0), (sw_in cT (g 9) 11664 a9)]) u) t) (va_A [(sw_9 h0 g b0 b5 b6 b7 b8 b9 b10 b11 b12 b13 b14 b17 b18 b19 b23 b24 b25 b26 b27 b29 b31 b32 b33), (sw_in cT (g 0) 288 a0), (sw_in cT (g 9) 11664 a9)] sz)) 0 0 (va_A [(sw_9 h0 g b0 b5 b6 b7 b8 b9 b10 b11 b12 b13 b14 b17 b18 b19 b23 b24 b25 b26 b27 b29 b31 b32 b33), (sw_in cT (g 0) 288 a0), (sw_in cT (g 9) 11664 a9)] sz) := by
  refine m_of (y := yX9_isMet) (cc := cX9_isMet) (nL := 3) (ret := (some .boolean)) (D := D) (cT := cT) (av := [.ref h0]) (wi := [(sw_9 h0 g b0 b5 b6 b7 b8 b9 b10 b11 b12 b13 b14 b17 b18 b19 b23 b24 b25 b26 b27 b29 b31 b32 b33), (sw_in cT (g 0) 288 a0), (sw_in cT (g 9) 11664 a9)]) (fun A => va_Qi (fun (r : Int32) (u : Unit) => (True)) (fun u t => RW D A ((fun _ : Unit => [(sw_9 h0 g b0 b5 b6 b7 b8 b9 b10 b11 b12 b13 b14 b17 b18 b19 b23 b24 b25 b26 b27 b29 b31 b32 b33), (sw_in cT (g 0) 288 a0), (sw_in cT (g 9) 11664 a9)]) u) t) A) (by decide) (Nat.le_of_ble_eq_true rfl) ?_
  intro p e s m below meth c A hx hb hml hown htg hK hN hr hlk hnm hsz hP hD hS hA ls hl
  have hown : s.vm.findClass RX9 = some m.cls := hown
  have hl : lv_has ls 3 [(0, .ref h0)] := hl
  have tc_0 : (0 : Int32).toInt = 0 := by decide
  have tc_1 : (1 : Int32).toInt = 1 := by decide
  have tc_16 : (16 : Int32).toInt = 16 := by decide
  refine lv_iconst (v := 0) hx hb dX9_isMet_0 (by decide) ?_
  refine lv_istore_n (lv' := [(1, .int 0), (0, .ref h0)]) hx hb dX9_isMet_1 rfl hl (by decide) rfl (fun ls hl => ?_)
  refine (fun (key : ∀ (n9_2 : Nat) (k9_2 : Nat)  (H : Heap) (locs : List Loc) (ls : Array Slot), (k9_2 : Int) ≤ b29.toInt → b29.toInt < (k9_2 : Int) + n9_2 → PD D A [(sw_9 h0 g b0 b5 b6 b7 b8 b9 b10 b11 b12 b13 b14 b17 b18 b19 b23 b24 b25 b26 b27 b29 b31 b32 b33), (sw_in cT (g 0) 288 a0), (sw_in cT (g 9) 11664 a9)] H → va_S A s.heap H locs → lv_has ls 3 [(1, .int (nI k9_2)), (0, .ref h0)] → W p l e _ s m _ below meth c H locs _ _ _ (F0 m 2 ls [])) => key (Int.toNat (b29.toInt - 0) + 1) 0  _ _ _ (by omega) (by omega)  ⟨hP, hD⟩ hS (lv_sub hl [0, 1] rfl)) ?_
  intro n9_2
  induction n9_2 with
  | zero => intro k9_2  H locs ls hq1 hq2; exact absurd hq2 (by omega)
  | succ n9_2 ih_2 =>
    intro k9_2  H locs ls hq1_2 hq2_2  hPD hS hl
    obtain ⟨hP, hD⟩ := hPD
    have hk9_2 : (nI k9_2).toInt = (k9_2 : Int) := nI_toInt (by omega)
    refine lv_iload_n hx hb dX9_isMet_2 rfl (lv_at hl 0 rfl) ?_
    refine lv_aload_n hx hb dX9_isMet_3 rfl (lv_at hl 1 rfl) ?_
    refine va_get (D := D) (ci := 9) (v := .int b29) (C := RX9) (T := TX9) (N := 37) hx hb htg gRX9 hown hK hP 0 rfl rfl 29 (by decide) (htg _ wi_1179) (fun _ h9 => h9) rfl dX9_isMet_4 ?_
    refine lv_icmp_ge (tgt := 69) hx hb dX9_isMet_7 (by decide) (fun c_1 => ?_) (fun c_1 => ?_)
    · have ic_1 : b29.toInt ≤ ((k9_2 : Nat) : Int) := ile c_1 (rfl) (nI_toInt (by omega))
      refine lv_iconst (v := 0) hx hb dX9_isMet_69 (by decide) ?_
      exact x_zret hx hb hr hlk hP hD hS [0, 1, 2] (()) rfl (by decide) rfl trivial (by decide) (by decide) dX9_isMet_70
    · have ic_1 : ((k9_2 : Nat) : Int) < b29.toInt := inle c_1 (rfl) (nI_toInt (by omega))
      refine lv_iconst (v := 0) hx hb dX9_isMet_10 (by decide) ?_
      refine lv_istore_n (lv' := [(2, .int 0), (1, .int (nI k9_2)), (0, .ref h0)]) hx hb dX9_isMet_11 rfl hl (by decide) rfl (fun ls hl => ?_)
      refine (fun (key : ∀ (n9_12 : Nat) (k9_12 : Nat)  (H : Heap) (locs : List Loc) (ls : Array Slot), (k9_12 : Int) ≤ 16 → 16 < (k9_12 : Int) + n9_12 → PD D A [(sw_9 h0 g b0 b5 b6 b7 b8 b9 b10 b11 b12 b13 b14 b17 b18 b19 b23 b24 b25 b26 b27 b29 b31 b32 b33), (sw_in cT (g 0) 288 a0), (sw_in cT (g 9) 11664 a9)] H → va_S A s.heap H locs → lv_has ls 3 [(2, .int (nI k9_12)), (1, .int (nI k9_2)), (0, .ref h0)] → W p l e _ s m _ below meth c H locs _ _ _ (F0 m 12 ls [])) => key (Int.toNat (16 - 0) + 1) 0  _ _ _ (by omega) (by omega)  ⟨hP, hD⟩ hS (lv_sub hl [0, 1, 2] rfl)) ?_
      intro n9_12
      induction n9_12 with
      | zero => intro k9_12  H locs ls hq1 hq2; exact absurd hq2 (by omega)
      | succ n9_12 ih_12 =>
        intro k9_12  H locs ls hq1_12 hq2_12  hPD hS hl
        obtain ⟨hP, hD⟩ := hPD
        have hk9_12 : (nI k9_12).toInt = (k9_12 : Int) := nI_toInt (by omega)
        refine lv_iload_n hx hb dX9_isMet_12 rfl (lv_at hl 0 rfl) ?_
        refine lv_aload_n hx hb dX9_isMet_13 rfl (lv_at hl 2 rfl) ?_
        refine va_get (D := D) (ci := 9) (v := .ref (g 0)) (C := RX9) (T := TX9) (N := 37) hx hb htg gRX9 hown hK hP 0 rfl rfl 1 (by decide) (htg _ wi_1151) (fun _ h9 => h9) rfl dX9_isMet_14 ?_
        refine lv_iconst (v := 0) hx hb dX9_isMet_17 (by decide) ?_
        refine va_iald hx hb hK hP 1 0 rfl rfl (by unfold vp_in; decide) dX9_isMet_18 ?_
        refine lv_topi (fun z_2 ez_2 => ?_)
        have iz_2 : 0 ≤ z_2.toInt ∧ z_2.toInt ≤ 16 := by rw [ez_2]; exact rd0 pa0 (by decide) rfl
        have nz_2 : z_2.toInt = ((a0) 0).toInt := by rw [ez_2]; rfl
        refine lv_icmp_ge (tgt := 51) hx hb dX9_isMet_19 (by decide) (fun c_3 => ?_) (fun c_3 => ?_)
        · have ic_3 : z_2.toInt ≤ ((k9_12 : Nat) : Int) := ile c_3 (rfl) (nI_toInt (by omega))
          refine lv_iload_n hx hb dX9_isMet_51 rfl (lv_at hl 0 rfl) ?_
          refine lv_aload_n hx hb dX9_isMet_52 rfl (lv_at hl 2 rfl) ?_
          refine va_get (D := D) (ci := 9) (v := .ref (g 0)) (C := RX9) (T := TX9) (N := 37) hx hb htg gRX9 hown hK hP 0 rfl rfl 1 (by decide) (htg _ wi_1151) (fun _ h9 => h9) rfl dX9_isMet_53 ?_
          refine lv_iconst (v := 0) hx hb dX9_isMet_56 (by decide) ?_
          refine va_iald hx hb hK hP 1 0 rfl rfl (by unfold vp_in; decide) dX9_isMet_57 ?_
          refine lv_topi (fun z_4 ez_4 => ?_)
          have iz_4 : 0 ≤ z_4.toInt ∧ z_4.toInt ≤ 16 := by rw [ez_4]; exact rd0 pa0 (by decide) rfl
          have nz_4 : z_4.toInt = ((a0) 0).toInt := by rw [ez_4]; rfl
          refine lv_icmp_ne (tgt := 63) hx hb dX9_isMet_58 (by decide) (fun c_5 => ?_) (fun c_5 => ?_)
          · have ic_5 : ¬ ((k9_12 : Nat) : Int) = z_4.toInt := ine c_5 (nI_toInt (by omega)) (rfl)
            refine lv_iinc (v := (nI (k9_2 + 1))) (lv' := [(1, .int (nI (k9_2 + 1))), (2, .int (nI k9_12)), (0, .ref h0)]) hx hb dX9_isMet_63 hl (k := 1) rfl (by exact nI_1 (k9_2)) (by decide) rfl (fun ls hl => ?_)
            refine lv_goto (tgt := 2) hx hb dX9_isMet_66 (by decide) ?_
            exact ih_2 (k9_2 + 1)  _ _ _ (by omega) (by omega)  ⟨hP.sub [0, 1, 2] rfl, hD.sub [0, 1, 2] (by decide) rfl⟩ hS (lv_sub hl [0, 2] rfl)
          · have ic_5 : ((k9_12 : Nat) : Int) = z_4.toInt := ieq c_5 (nI_toInt (by omega)) (rfl)
            refine lv_iconst (v := 1) hx hb dX9_isMet_61 (by decide) ?_
            exact x_zret hx hb hr hlk hP hD hS [0, 1, 2] (()) rfl (by decide) rfl trivial (by decide) (by decide) dX9_isMet_62
        · have ic_3 : ((k9_12 : Nat) : Int) < z_2.toInt := inle c_3 (rfl) (nI_toInt (by omega))
          refine lv_aload_n hx hb dX9_isMet_22 rfl (lv_at hl 2 rfl) ?_
          refine va_get (D := D) (ci := 9) (v := .ref (g 9)) (C := RX9) (T := TX9) (N := 37) hx hb htg gRX9 hown hK hP 0 rfl rfl 28 (by decide) (htg _ wi_1178) (fun _ h9 => h9) rfl dX9_isMet_23 ?_
          refine lv_bipush (v := 16) hx hb dX9_isMet_26 (by decide) ?_
          refine lv_iload_n hx hb dX9_isMet_28 rfl (lv_at hl 1 rfl) ?_
          refine lv_imul hx hb dX9_isMet_29 ?_
          refine lv_topi (fun z_6 ez_6 => ?_)
          have iz_6 : z_6.toInt = 16 * ((k9_2 : Nat) : Int) := toInt_mulI ez_6 (by decide) (nI_toInt (by omega)) (by omega)
          refine lv_iload_n hx hb dX9_isMet_30 rfl (lv_at hl 0 rfl) ?_
          refine lv_iadd hx hb dX9_isMet_31 ?_
          refine lv_topi (fun z_7 ez_7 => ?_)
          have iz_7 : z_7.toInt = z_6.toInt + ((k9_12 : Nat) : Int) := toInt_addI ez_7 (rfl) (nI_toInt (by omega)) (by omega)
          refine va_iald hx hb hK hP 2 0 rfl rfl (vp_in_iff.mpr (by omega)) dX9_isMet_32 ?_
          refine lv_topi (fun z_8 ez_8 => ?_)
          refine lv_aload_n hx hb dX9_isMet_33 rfl (lv_at hl 2 rfl) ?_
          refine va_get (D := D) (ci := 9) (v := .ref (g 0)) (C := RX9) (T := TX9) (N := 37) hx hb htg gRX9 hown hK hP 0 rfl rfl 1 (by decide) (htg _ wi_1151) (fun _ h9 => h9) rfl dX9_isMet_34 ?_
          refine lv_bipush (v := 16) hx hb dX9_isMet_37 (by decide) ?_
          refine lv_iload_n hx hb dX9_isMet_39 rfl (lv_at hl 0 rfl) ?_
          refine lv_iadd hx hb dX9_isMet_40 ?_
          refine lv_is (y := nI (16 + k9_12)) (nI_add 16 (k9_12)) ?_
          refine va_iald hx hb hK hP 1 0 rfl rfl (vp_in_nI (by omega) (by omega)) dX9_isMet_41 ?_
          refine lv_topi (fun z_9 ez_9 => ?_)
          refine lv_icmp_ne (tgt := 51) hx hb dX9_isMet_42 (by decide) (fun c_10 => ?_) (fun c_10 => ?_)
          · have ic_10 : ¬ z_8.toInt = z_9.toInt := ine c_10 (rfl) (rfl)
            refine lv_iload_n hx hb dX9_isMet_51 rfl (lv_at hl 0 rfl) ?_
            refine lv_aload_n hx hb dX9_isMet_52 rfl (lv_at hl 2 rfl) ?_
            refine va_get (D := D) (ci := 9) (v := .ref (g 0)) (C := RX9) (T := TX9) (N := 37) hx hb htg gRX9 hown hK hP 0 rfl rfl 1 (by decide) (htg _ wi_1151) (fun _ h9 => h9) rfl dX9_isMet_53 ?_
            refine lv_iconst (v := 0) hx hb dX9_isMet_56 (by decide) ?_
            refine va_iald hx hb hK hP 1 0 rfl rfl (by unfold vp_in; decide) dX9_isMet_57 ?_
            refine lv_topi (fun z_11 ez_11 => ?_)
            have iz_11 : 0 ≤ z_11.toInt ∧ z_11.toInt ≤ 16 := by rw [ez_11]; exact rd0 pa0 (by decide) rfl
            have nz_11 : z_11.toInt = ((a0) 0).toInt := by rw [ez_11]; rfl
            refine lv_icmp_ne (tgt := 63) hx hb dX9_isMet_58 (by decide) (fun c_12 => ?_) (fun c_12 => ?_)
            · have ic_12 : ¬ ((k9_12 : Nat) : Int) = z_11.toInt := ine c_12 (nI_toInt (by omega)) (rfl)
              refine lv_iinc (v := (nI (k9_2 + 1))) (lv' := [(1, .int (nI (k9_2 + 1))), (2, .int (nI k9_12)), (0, .ref h0)]) hx hb dX9_isMet_63 hl (k := 1) rfl (by exact nI_1 (k9_2)) (by decide) rfl (fun ls hl => ?_)
              refine lv_goto (tgt := 2) hx hb dX9_isMet_66 (by decide) ?_
              exact ih_2 (k9_2 + 1)  _ _ _ (by omega) (by omega)  ⟨hP.sub [0, 1, 2] rfl, hD.sub [0, 1, 2] (by decide) rfl⟩ hS (lv_sub hl [0, 2] rfl)
            · have ic_12 : ((k9_12 : Nat) : Int) = z_11.toInt := ieq c_12 (nI_toInt (by omega)) (rfl)
              refine lv_iconst (v := 1) hx hb dX9_isMet_61 (by decide) ?_
              exact x_zret hx hb hr hlk hP hD hS [0, 1, 2] (()) rfl (by decide) rfl trivial (by decide) (by decide) dX9_isMet_62
          · have ic_10 : z_8.toInt = z_9.toInt := ieq c_10 (rfl) (rfl)
            refine lv_iinc (v := (nI (k9_12 + 1))) (lv' := [(2, .int (nI (k9_12 + 1))), (1, .int (nI k9_2)), (0, .ref h0)]) hx hb dX9_isMet_45 hl (k := 0) rfl (by exact nI_1 (k9_12)) (by decide) rfl (fun ls hl => ?_)
            refine lv_goto (tgt := 12) hx hb dX9_isMet_48 (by decide) ?_
            exact ih_12 (k9_12 + 1)  _ _ _ (by omega) (by omega)  ⟨hP.sub [0, 1, 2] rfl, hD.sub [0, 1, 2] (by decide) rfl⟩ hS (lv_sub hl [0, 1, 2] rfl)
set_option maxHeartbeats 4000000 in
set_option maxRecDepth 100000 in
theorem m_minutesOf6 (l : Launch) (D : va_G) (cT : Nat → ClassId) (sz : Nat) (h0 : Nat) (g : Nat → Nat) (b0 : Int32) (b5 : Int32) (b6 : Int32) (b7 : Int32) (b8 : Int32) (b9 : Int32) (b10 : Int32) (b11 : Int32) (b12 : Int32) (b13 : Int32) (b14 : Int32) (b17 : Int32) (b18 : Int32) (b19 : Int32) (b23 : Int32) (b24 : Int32) (b25 : Int32) (b26 : Int32) (b27 : Int32) (b29 : Int32) (b31 : Int32) (b32 : Int32) (b33 : Int32) (hb5 : 0 ≤ b5.toInt ∧ b5.toInt ≤ 900) (a0 : Nat → Int32) (pa0 : PI 288 a0) (x : Int32) (hx8 : 0 ≤ x.toInt ∧ x.toInt ≤ 6) : Met l yX9_minutesOf (wsc yX9_minutesOf cX9_minutesOf 3 (some .int)) { frames := 2, cells := 0, slots := 0, locals := 100 } (va_Pc [.ref h0, .int x] (PX D cT sz [(sw_9 h0 g b0 b5 b6 b7 b8 b9 b10 b11 b12 b13 b14 b17 b18 b19 b23 b24 b25 b26 b27 b29 b31 b32 b33), (sw_in cT (g 0) 288 a0)])) (va_Qi (fun (r : Int32) (u : Unit) => (0 ≤ r.toInt ∧ r.toInt ≤ 6) ∧ (True)) (fun u t => RW D (va_A [(sw_9 h0 g b0 b5 b6 b7 b8 b9 b10 b11 b12 b13 b14 b17 b18 b19 b23 b24 b25 b26 b27 b29 b31 b32 b33), (sw_in cT (g 0) 288 a0)] sz) ((fun _ : Unit => [(sw_9 h0 g b0 b5 b6 b7 b8 b9 b10 b11 b12 b13 b14 b17 b18 b19 b23 b24 b25 b26 b27 b29 b31 b32 b33), (sw_in cT (g 0) 288 a0)]) u) t) (va_A [(sw_9 h0 g b0 b5 b6 b7 b8 b9 b10 b11 b12 b13 b14 b17 b18 b19 b23 b24 b25 b26 b27 b29 b31 b32 b33), (sw_in cT (g 0) 288 a0)] sz)) 0 0 (va_A [(sw_9 h0 g b0 b5 b6 b7 b8 b9 b10 b11 b12 b13 b14 b17 b18 b19 b23 b24 b25 b26 b27 b29 b31 b32 b33), (sw_in cT (g 0) 288 a0)] sz) := by
  refine m_of (y := yX9_minutesOf) (cc := cX9_minutesOf) (nL := 3) (ret := (some .int)) (D := D) (cT := cT) (av := [.ref h0, .int x]) (wi := [(sw_9 h0 g b0 b5 b6 b7 b8 b9 b10 b11 b12 b13 b14 b17 b18 b19 b23 b24 b25 b26 b27 b29 b31 b32 b33), (sw_in cT (g 0) 288 a0)]) (fun A => va_Qi (fun (r : Int32) (u : Unit) => (0 ≤ r.toInt ∧ r.toInt ≤ 6) ∧ (True)) (fun u t => RW D A ((fun _ : Unit => [(sw_9 h0 g b0 b5 b6 b7 b8 b9 b10 b11 b12 b13 b14 b17 b18 b19 b23 b24 b25 b26 b27 b29 b31 b32 b33), (sw_in cT (g 0) 288 a0)]) u) t) A) (by decide) (Nat.le_of_ble_eq_true rfl) ?_
  intro p e s m below meth c A hx hb hml hown htg hK hN hr hlk hnm hsz hP hD hS hA ls hl
  have hown : s.vm.findClass RX9 = some m.cls := hown
  have hl : lv_has ls 3 [(0, .ref h0), (1, .int x)] := hl
  have tc_1 : (1 : Int32).toInt = 1 := by decide
  have tc_6 : (6 : Int32).toInt = 6 := by decide
  have tc_9999 : (9999 : Int32).toInt = 9999 := by decide
  refine lv_aload_n hx hb dX9_minutesOf_0 rfl (lv_at hl 0 rfl) ?_
  refine va_get (D := D) (ci := 9) (v := .ref (g 0)) (C := RX9) (T := TX9) (N := 37) hx hb htg gRX9 hown hK hP 0 rfl rfl 1 (by decide) (htg _ wi_1151) (fun _ h9 => h9) rfl dX9_minutesOf_1 ?_
  refine lv_bipush (v := 6) hx hb dX9_minutesOf_4 (by decide) ?_
  refine va_iald hx hb hK hP 1 0 rfl rfl (by unfold vp_in; decide) dX9_minutesOf_6 ?_
  refine lv_topi (fun z_1 ez_1 => ?_)
  have iz_1 : 0 ≤ z_1.toInt ∧ z_1.toInt ≤ 999 := by rw [ez_1]; exact rd6 pa0 (by decide) rfl
  have nz_1 : z_1.toInt = ((a0) 6).toInt := by rw [ez_1]; rfl
  refine lv_iload_n hx hb dX9_minutesOf_7 rfl (lv_at hl 1 rfl) ?_
  refine lv_icmp_ge (tgt := 21) hx hb dX9_minutesOf_8 (by decide) (fun c_2 => ?_) (fun c_2 => ?_)
  · have ic_2 : x.toInt ≤ z_1.toInt := ile c_2 (rfl) (rfl)
    refine lv_iload_n hx hb dX9_minutesOf_21 rfl (lv_at hl 1 rfl) ?_
    refine lv_istore_n (lv' := [(2, .int x), (0, .ref h0), (1, .int x)]) hx hb dX9_minutesOf_22 rfl hl (by decide) rfl (fun ls hl => ?_)
    refine lv_sipush (v := 9999) hx hb dX9_minutesOf_23 (by decide) ?_
    refine lv_aload_n hx hb dX9_minutesOf_26 rfl (lv_at hl 1 rfl) ?_
    refine va_get (D := D) (ci := 9) (v := .ref (g 0)) (C := RX9) (T := TX9) (N := 37) hx hb htg gRX9 hown hK hP 0 rfl rfl 1 (by decide) (htg _ wi_1151) (fun _ h9 => h9) rfl dX9_minutesOf_27 ?_
    refine lv_iconst (v := 1) hx hb dX9_minutesOf_30 (by decide) ?_
    refine va_iald hx hb hK hP 1 0 rfl rfl (by unfold vp_in; decide) dX9_minutesOf_31 ?_
    refine lv_topi (fun z_3 ez_3 => ?_)
    have iz_3 : 0 ≤ z_3.toInt ∧ z_3.toInt ≤ 9999 := by rw [ez_3]; exact rd1 pa0 (by decide) rfl
    have nz_3 : z_3.toInt = ((a0) 1).toInt := by rw [ez_3]; rfl
    refine lv_isub hx hb dX9_minutesOf_32 ?_
    refine lv_topi (fun z_4 ez_4 => ?_)
    have iz_4 : z_4.toInt = 9999 - z_3.toInt := toInt_subI ez_4 (by decide) (rfl) (by omega)
    refine lv_iload_n hx hb dX9_minutesOf_33 rfl (lv_at hl 0 rfl) ?_
    refine lv_icmp_ge (tgt := 50) hx hb dX9_minutesOf_34 (by decide) (fun c_5 => ?_) (fun c_5 => ?_)
    · have ic_5 : x.toInt ≤ z_4.toInt := ile c_5 (rfl) (rfl)
      refine lv_iload_n hx hb dX9_minutesOf_50 rfl (lv_at hl 0 rfl) ?_
      exact x_iret hx hb hr hlk hP hD hS [0, 1] (()) rfl (by decide) ⟨by (try dsimp only); first | assumption | omega | decide | exact Or.inl (by decide) | (intro h9; exact absurd h9 (by decide)) | (intro _; omega) | (intro _; assumption) | (intro _; decide), trivial⟩ (by decide) (by decide) dX9_minutesOf_51
    · have ic_5 : z_4.toInt < x.toInt := inle c_5 (rfl) (rfl)
      refine lv_sipush (v := 9999) hx hb dX9_minutesOf_37 (by decide) ?_
      refine lv_aload_n hx hb dX9_minutesOf_40 rfl (lv_at hl 1 rfl) ?_
      refine va_get (D := D) (ci := 9) (v := .ref (g 0)) (C := RX9) (T := TX9) (N := 37) hx hb htg gRX9 hown hK hP 0 rfl rfl 1 (by decide) (htg _ wi_1151) (fun _ h9 => h9) rfl dX9_minutesOf_41 ?_
      refine lv_iconst (v := 1) hx hb dX9_minutesOf_44 (by decide) ?_
      refine va_iald hx hb hK hP 1 0 rfl rfl (by unfold vp_in; decide) dX9_minutesOf_45 ?_
      refine lv_topi (fun z_6 ez_6 => ?_)
      have iz_6 : 0 ≤ z_6.toInt ∧ z_6.toInt ≤ 9999 := by rw [ez_6]; exact rd1 pa0 (by decide) rfl
      have nz_6 : z_6.toInt = ((a0) 1).toInt := by rw [ez_6]; rfl
      refine lv_isub hx hb dX9_minutesOf_46 ?_
      refine lv_topi (fun z_7 ez_7 => ?_)
      have iz_7 : z_7.toInt = 9999 - z_6.toInt := toInt_subI ez_7 (by decide) (rfl) (by omega)
      refine lv_goto (tgt := 51) hx hb dX9_minutesOf_47 (by decide) ?_
      exact x_iret hx hb hr hlk hP hD hS [0, 1] (()) rfl (by decide) ⟨by (try dsimp only); first | assumption | omega | decide | exact Or.inl (by decide) | (intro h9; exact absurd h9 (by decide)) | (intro _; omega) | (intro _; assumption) | (intro _; decide), trivial⟩ (by decide) (by decide) dX9_minutesOf_51
  · have ic_2 : z_1.toInt < x.toInt := inle c_2 (rfl) (rfl)
    refine lv_aload_n hx hb dX9_minutesOf_11 rfl (lv_at hl 0 rfl) ?_
    refine va_get (D := D) (ci := 9) (v := .ref (g 0)) (C := RX9) (T := TX9) (N := 37) hx hb htg gRX9 hown hK hP 0 rfl rfl 1 (by decide) (htg _ wi_1151) (fun _ h9 => h9) rfl dX9_minutesOf_12 ?_
    refine lv_bipush (v := 6) hx hb dX9_minutesOf_15 (by decide) ?_
    refine va_iald hx hb hK hP 1 0 rfl rfl (by unfold vp_in; decide) dX9_minutesOf_17 ?_
    refine lv_topi (fun z_8 ez_8 => ?_)
    have iz_8 : 0 ≤ z_8.toInt ∧ z_8.toInt ≤ 999 := by rw [ez_8]; exact rd6 pa0 (by decide) rfl
    have nz_8 : z_8.toInt = ((a0) 6).toInt := by rw [ez_8]; rfl
    refine lv_goto (tgt := 22) hx hb dX9_minutesOf_18 (by decide) ?_
    refine lv_istore_n (lv' := [(2, .int z_8), (0, .ref h0), (1, .int x)]) hx hb dX9_minutesOf_22 rfl hl (by decide) rfl (fun ls hl => ?_)
    refine lv_sipush (v := 9999) hx hb dX9_minutesOf_23 (by decide) ?_
    refine lv_aload_n hx hb dX9_minutesOf_26 rfl (lv_at hl 1 rfl) ?_
    refine va_get (D := D) (ci := 9) (v := .ref (g 0)) (C := RX9) (T := TX9) (N := 37) hx hb htg gRX9 hown hK hP 0 rfl rfl 1 (by decide) (htg _ wi_1151) (fun _ h9 => h9) rfl dX9_minutesOf_27 ?_
    refine lv_iconst (v := 1) hx hb dX9_minutesOf_30 (by decide) ?_
    refine va_iald hx hb hK hP 1 0 rfl rfl (by unfold vp_in; decide) dX9_minutesOf_31 ?_
    refine lv_topi (fun z_9 ez_9 => ?_)
    have iz_9 : 0 ≤ z_9.toInt ∧ z_9.toInt ≤ 9999 := by rw [ez_9]; exact rd1 pa0 (by decide) rfl
    have nz_9 : z_9.toInt = ((a0) 1).toInt := by rw [ez_9]; rfl
    refine lv_isub hx hb dX9_minutesOf_32 ?_
    refine lv_topi (fun z_10 ez_10 => ?_)
    have iz_10 : z_10.toInt = 9999 - z_9.toInt := toInt_subI ez_10 (by decide) (rfl) (by omega)
    refine lv_iload_n hx hb dX9_minutesOf_33 rfl (lv_at hl 0 rfl) ?_
    refine lv_icmp_ge (tgt := 50) hx hb dX9_minutesOf_34 (by decide) (fun c_11 => ?_) (fun c_11 => ?_)
    · have ic_11 : z_8.toInt ≤ z_10.toInt := ile c_11 (rfl) (rfl)
      refine lv_iload_n hx hb dX9_minutesOf_50 rfl (lv_at hl 0 rfl) ?_
      exact x_iret hx hb hr hlk hP hD hS [0, 1] (()) rfl (by decide) ⟨by (try dsimp only); first | assumption | omega | decide | exact Or.inl (by decide) | (intro h9; exact absurd h9 (by decide)) | (intro _; omega) | (intro _; assumption) | (intro _; decide), trivial⟩ (by decide) (by decide) dX9_minutesOf_51
    · have ic_11 : z_10.toInt < z_8.toInt := inle c_11 (rfl) (rfl)
      refine lv_sipush (v := 9999) hx hb dX9_minutesOf_37 (by decide) ?_
      refine lv_aload_n hx hb dX9_minutesOf_40 rfl (lv_at hl 1 rfl) ?_
      refine va_get (D := D) (ci := 9) (v := .ref (g 0)) (C := RX9) (T := TX9) (N := 37) hx hb htg gRX9 hown hK hP 0 rfl rfl 1 (by decide) (htg _ wi_1151) (fun _ h9 => h9) rfl dX9_minutesOf_41 ?_
      refine lv_iconst (v := 1) hx hb dX9_minutesOf_44 (by decide) ?_
      refine va_iald hx hb hK hP 1 0 rfl rfl (by unfold vp_in; decide) dX9_minutesOf_45 ?_
      refine lv_topi (fun z_12 ez_12 => ?_)
      have iz_12 : 0 ≤ z_12.toInt ∧ z_12.toInt ≤ 9999 := by rw [ez_12]; exact rd1 pa0 (by decide) rfl
      have nz_12 : z_12.toInt = ((a0) 1).toInt := by rw [ez_12]; rfl
      refine lv_isub hx hb dX9_minutesOf_46 ?_
      refine lv_topi (fun z_13 ez_13 => ?_)
      have iz_13 : z_13.toInt = 9999 - z_12.toInt := toInt_subI ez_13 (by decide) (rfl) (by omega)
      refine lv_goto (tgt := 51) hx hb dX9_minutesOf_47 (by decide) ?_
      exact x_iret hx hb hr hlk hP hD hS [0, 1] (()) rfl (by decide) ⟨by (try dsimp only); first | assumption | omega | decide | exact Or.inl (by decide) | (intro h9; exact absurd h9 (by decide)) | (intro _; omega) | (intro _; assumption) | (intro _; decide), trivial⟩ (by decide) (by decide) dX9_minutesOf_51
set_option maxHeartbeats 4000000 in
set_option maxRecDepth 100000 in
theorem m_withinB (l : Launch) (D : va_G) (cT : Nat → ClassId) (sz : Nat) (v : Int64) (lo : Int64) (hi : Int64) (av : Int) (al : Int) (ah : Int) (ev : v.toInt = av) (el : lo.toInt = al) (eh : hi.toInt = ah) : Met l yX9_within (wsc yX9_within cX9_within 6 (some .boolean)) { frames := 2, cells := 0, slots := 0, locals := 100 } (va_Pc [.long v, .long lo, .long hi] (PX D cT sz [])) (va_Qi (fun (r : Int32) (u : Unit) => (Imp (¬ r.toInt = 0) (al ≤ av ∧ av ≤ ah)) ∧ (Imp (r.toInt = 0) (av < al ∨ ah < av)) ∧ (r = 0 ∨ r = 1) ∧ (True)) (fun u t => RW D (va_A [] sz) ((fun _ : Unit => []) u) t) (va_A [] sz)) 0 0 (va_A [] sz) := by
  refine m_of (y := yX9_within) (cc := cX9_within) (nL := 6) (ret := (some .boolean)) (D := D) (cT := cT) (av := [.long v, .long lo, .long hi]) (wi := []) (fun A => va_Qi (fun (r : Int32) (u : Unit) => (Imp (¬ r.toInt = 0) (al ≤ av ∧ av ≤ ah)) ∧ (Imp (r.toInt = 0) (av < al ∨ ah < av)) ∧ (r = 0 ∨ r = 1) ∧ (True)) (fun u t => RW D A ((fun _ : Unit => []) u) t) A) (by decide) (Nat.le_of_ble_eq_true rfl) ?_
  intro p e s m below meth c A hx hb hml hown htg hK hN hr hlk hnm hsz hP hD hS hA ls hl
  have hown : s.vm.findClass RX9 = some m.cls := hown
  have hl : lv_has ls 6 [(0, .long v), (2, .long lo), (4, .long hi)] := hl
  subst ev el eh
  have tc_0 : (0 : Int32).toInt = 0 := by decide
  have tc_1 : (1 : Int32).toInt = 1 := by decide
  refine lv_lload_n hx hb dX9_within_0 rfl (lv_at hl 0 rfl) ?_
  refine lv_lload_n hx hb dX9_within_1 rfl (lv_at hl 1 rfl) ?_
  refine W.lcmp hx hb dX9_within_2 ?_
  refine lv_if_lt (tgt := 17) hx hb dX9_within_3 (by decide) (fun c_1 => ?_) (fun c_1 => ?_)
  · have ic_1 : v.toInt < lo.toInt := lgc_lt c_1 (rfl) (rfl)
    refine lv_iconst (v := 0) hx hb dX9_within_17 (by decide) ?_
    exact x_zret hx hb hr hlk hP hD hS [] (()) rfl (by decide) rfl ⟨fun h9 => by (try dsimp only at h9 ⊢); first | omega | exact absurd h9 (by decide) | decide | assumption, fun h9 => by (try dsimp only at h9 ⊢); first | omega | exact absurd h9 (by decide) | decide | assumption, by (try dsimp only); first | assumption | omega | decide | exact Or.inl (by decide) | (intro h9; exact absurd h9 (by decide)) | (intro _; omega) | (intro _; assumption) | (intro _; decide), trivial⟩ (by decide) (by decide) dX9_within_18
  · have ic_1 : lo.toInt ≤ v.toInt := lgc_nlt c_1 (rfl) (rfl)
    refine lv_lload_n hx hb dX9_within_6 rfl (lv_at hl 0 rfl) ?_
    refine lv_lload hx hb dX9_within_7 (lv_at hl 2 rfl) ?_
    refine W.lcmp hx hb dX9_within_9 ?_
    refine lv_if_gt (tgt := 17) hx hb dX9_within_10 (by decide) (fun c_2 => ?_) (fun c_2 => ?_)
    · have ic_2 : hi.toInt < v.toInt := lgc_gt c_2 (rfl) (rfl)
      refine lv_iconst (v := 0) hx hb dX9_within_17 (by decide) ?_
      exact x_zret hx hb hr hlk hP hD hS [] (()) rfl (by decide) rfl ⟨fun h9 => by (try dsimp only at h9 ⊢); first | omega | exact absurd h9 (by decide) | decide | assumption, fun h9 => by (try dsimp only at h9 ⊢); first | omega | exact absurd h9 (by decide) | decide | assumption, by (try dsimp only); first | assumption | omega | decide | exact Or.inl (by decide) | (intro h9; exact absurd h9 (by decide)) | (intro _; omega) | (intro _; assumption) | (intro _; decide), trivial⟩ (by decide) (by decide) dX9_within_18
    · have ic_2 : v.toInt ≤ hi.toInt := lgc_ngt c_2 (rfl) (rfl)
      refine lv_iconst (v := 1) hx hb dX9_within_13 (by decide) ?_
      refine lv_goto (tgt := 18) hx hb dX9_within_14 (by decide) ?_
      exact x_zret hx hb hr hlk hP hD hS [] (()) rfl (by decide) rfl ⟨fun h9 => by (try dsimp only at h9 ⊢); first | omega | exact absurd h9 (by decide) | decide | assumption, fun h9 => by (try dsimp only at h9 ⊢); first | omega | exact absurd h9 (by decide) | decide | assumption, by (try dsimp only); first | assumption | omega | decide | exact Or.inl (by decide) | (intro h9; exact absurd h9 (by decide)) | (intro _; omega) | (intro _; assumption) | (intro _; decide), trivial⟩ (by decide) (by decide) dX9_within_18
