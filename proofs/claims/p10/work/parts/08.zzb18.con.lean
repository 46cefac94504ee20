set_option maxHeartbeats 4000000 in
set_option maxRecDepth 100000 in
theorem m_fillK (l : Launch) (D : va_G) (cT : Nat → ClassId) (sz : Nat) (h0 : Nat) (g : Nat → Nat) (b0 : Int32) (b5 : Int32) (b6 : Int32) (b7 : Int32) (b8 : Int32) (b9 : Int32) (b10 : Int32) (b11 : Int32) (b12 : Int32) (b13 : Int32) (b14 : Int32) (b17 : Int32) (b18 : Int32) (b19 : Int32) (b23 : Int32) (b24 : Int32) (b25 : Int32) (b26 : Int32) (b27 : Int32) (b29 : Int32) (b31 : Int32) (b32 : Int32) (b33 : Int32) (hb5 : 0 ≤ b5.toInt ∧ b5.toInt ≤ 900) (a0 : Nat → Int32) (pa0 : PI 288 a0) (x : Int32) : Met l yX9_fill (wsc yX9_fill cX9_fill 2 (some .int)) { frames := 3, cells := 0, slots := 0, locals := 125 } (va_Pc [.ref h0, .int x] (PX D cT sz [(sw_9 h0 g b0 b5 b6 b7 b8 b9 b10 b11 b12 b13 b14 b17 b18 b19 b23 b24 b25 b26 b27 b29 b31 b32 b33), (sw_in cT (g 0) 288 a0)])) (va_Qi (fun (r : Int32) (u : Int32 × (Nat → Int32)) => (PI 288 u.2) ∧ (KR u.2 a0) ∧ (True)) (fun u t => RW D (va_A [(sw_9 h0 g b0 b5 b6 b7 b8 b9 b10 b11 b12 b13 b14 b17 b18 b19 b23 b24 b25 b26 b27 b29 b31 b32 b33), (sw_in cT (g 0) 288 a0)] sz) ((fun u : Int32 × (Nat → Int32) => [(sw_9 h0 g u.1 b5 b6 b7 b8 b9 b10 b11 b12 b13 b14 b17 b18 b19 b23 b24 b25 b26 b27 b29 b31 b32 b33), (sw_in cT (g 0) 288 u.2)]) u) t) (va_A [(sw_9 h0 g b0 b5 b6 b7 b8 b9 b10 b11 b12 b13 b14 b17 b18 b19 b23 b24 b25 b26 b27 b29 b31 b32 b33), (sw_in cT (g 0) 288 a0)] sz)) 0 0 (va_A [(sw_9 h0 g b0 b5 b6 b7 b8 b9 b10 b11 b12 b13 b14 b17 b18 b19 b23 b24 b25 b26 b27 b29 b31 b32 b33), (sw_in cT (g 0) 288 a0)] sz) := by
  refine m_of (y := yX9_fill) (cc := cX9_fill) (nL := 2) (ret := (some .int)) (D := D) (cT := cT) (av := [.ref h0, .int x]) (wi := [(sw_9 h0 g b0 b5 b6 b7 b8 b9 b10 b11 b12 b13 b14 b17 b18 b19 b23 b24 b25 b26 b27 b29 b31 b32 b33), (sw_in cT (g 0) 288 a0)]) (fun A => va_Qi (fun (r : Int32) (u : Int32 × (Nat → Int32)) => (PI 288 u.2) ∧ (KR u.2 a0) ∧ (True)) (fun u t => RW D A ((fun u : Int32 × (Nat → Int32) => [(sw_9 h0 g u.1 b5 b6 b7 b8 b9 b10 b11 b12 b13 b14 b17 b18 b19 b23 b24 b25 b26 b27 b29 b31 b32 b33), (sw_in cT (g 0) 288 u.2)]) u) t) A) (by decide) (Nat.le_of_ble_eq_true rfl) ?_
  intro p e s m below meth c A hx hb hml hown htg hK hN hr hlk hnm hsz hP hD hS hA ls hl
  have hown : s.vm.findClass RX9 = some m.cls := hown
  have hl : lv_has ls 2 [(0, .ref h0), (1, .int x)] := hl
  have tc_m3 : ((-3) : Int32).toInt = (-3) := by decide
  have tc_0 : (0 : Int32).toInt = 0 := by decide
  have tc_6 : (6 : Int32).toInt = 6 := by decide
  have tc_999 : (999 : Int32).toInt = 999 := by decide
  refine lv_aload_n hx hb dX9_fill_0 rfl (lv_at hl 0 rfl) ?_
  refine lv_iconst (v := 0) hx hb dX9_fill_1 (by decide) ?_
  refine va_put (D := D) (ci := 9) (v := .int 0) (ty := .int) (C := RX9) (T := TX9) (N := 37) hx hb htg gRX9 tyX9 tyX9_ok nmX9 hown hK hP hD hS 0 rfl rfl 0 (by decide) (htg _ wi_1150) (fun _ h9 => h9) rfl (by decide +kernel) rfl rfl (Nat.le_of_ble_eq_true rfl) dX9_fill_2 (fun H locs hP hD hS => ?_)
  obtain ⟨hP, hD⟩ : PD D A [(sw_9 h0 g 0 b5 b6 b7 b8 b9 b10 b11 b12 b13 b14 b17 b18 b19 b23 b24 b25 b26 b27 b29 b31 b32 b33), (sw_in cT (g 0) 288 a0)] _ := ⟨hP, hD⟩
  refine lv_iload_n hx hb dX9_fill_5 rfl (lv_at hl 1 rfl) ?_
  refine lv_i2l (v := x.toInt64) hx hb dX9_fill_6 rfl ?_
  refine lv_lconst (v := 0) hx hb dX9_fill_7 (by decide) ?_
  refine lv_ldc2 (v := 99) hx hb hown (htg _ wi_1452) dX9_fill_8 ?_
  have ilw_1 : (x.toInt64).toInt = x.toInt := i2l_i _
  refine xk_i (wr := [(sw_9 h0 g 0 b5 b6 b7 b8 b9 b10 b11 b12 b13 b14 b17 b18 b19 b23 b24 b25 b26 b27 b29 b31 b32 b33), (sw_in cT (g 0) 288 a0)]) (xr_S (n := 3) (As := [.long x.toInt64, .long 0, .long 99]) (rest := []) ⟨hx, hb, hml, hown, htg⟩ hK hN hP hD hS hA [] rfl (by decide) (m_within l D cT _ (x.toInt64) (0) (99) (x.toInt) (0) (99) (i2l_i _) (by decide) (by decide)) wi_1270 wi_1271 wi_131 wi_1272 ⟨rfl, by decide +kernel⟩ ⟨Nat.le_of_ble_eq_true rfl, Nat.le_of_ble_eq_true rfl⟩ rfl hl.1 rfl (Nat.le_of_ble_eq_true rfl) dX9_fill_11 ⟨Nat.le_of_ble_eq_true rfl, Nat.le_of_ble_eq_true rfl⟩) hP hD hS hA [] [0, 1] rfl rfl (by decide) (by decide) (fun r_3 u_2 H locs hwr_3 hP hD hS => ?_)
  obtain ⟨hP, hD⟩ : PD D A [(sw_9 h0 g 0 b5 b6 b7 b8 b9 b10 b11 b12 b13 b14 b17 b18 b19 b23 b24 b25 b26 b27 b29 b31 b32 b33), (sw_in cT (g 0) 288 a0)] _ := ⟨hP, hD⟩
  have qr_3_0 : Imp (¬ r_3.toInt = 0) (0 ≤ x.toInt ∧ x.toInt ≤ 99) := hwr_3.1
  have qr_3_1 : r_3 = 0 ∨ r_3 = 1 := hwr_3.2.1
  refine lv_if_ne (tgt := 20) hx hb dX9_fill_14 (by decide) (fun c_4 => ?_) (fun c_4 => ?_)
  · have ic_4 : ¬ r_3.toInt = 0 := ine c_4 (rfl) (by decide)
    have kqr_3_0 : 0 ≤ x.toInt ∧ x.toInt ≤ 99 := qr_3_0 ic_4
    refine lv_aload_n hx hb dX9_fill_20 rfl (lv_at hl 0 rfl) ?_
    refine va_get (D := D) (ci := 9) (v := .ref (g 0)) (C := RX9) (T := TX9) (N := 37) hx hb htg gRX9 hown hK hP 0 rfl rfl 1 (by decide) (htg _ wi_1151) (fun _ h9 => h9) rfl dX9_fill_21 ?_
    refine lv_bipush (v := 6) hx hb dX9_fill_24 (by decide) ?_
    refine lv_aload_n hx hb dX9_fill_26 rfl (lv_at hl 0 rfl) ?_
    refine va_get (D := D) (ci := 9) (v := .ref (g 0)) (C := RX9) (T := TX9) (N := 37) hx hb htg gRX9 hown hK hP 0 rfl rfl 1 (by decide) (htg _ wi_1151) (fun _ h9 => h9) rfl dX9_fill_27 ?_
    refine lv_bipush (v := 6) hx hb dX9_fill_30 (by decide) ?_
    refine va_iald hx hb hK hP 1 0 rfl rfl (by unfold vp_in; decide) dX9_fill_32 ?_
    refine lv_topi (fun z_5 ez_5 => ?_)
    have iz_5 : 0 ≤ z_5.toInt ∧ z_5.toInt ≤ 999 := by rw [ez_5]; exact rd6 pa0 (by decide) rfl
    have nz_5 : z_5.toInt = ((a0) 6).toInt := by rw [ez_5]; rfl
    refine lv_iload_n hx hb dX9_fill_33 rfl (lv_at hl 1 rfl) ?_
    refine lv_iadd hx hb dX9_fill_34 ?_
    refine lv_topi (fun z_6 ez_6 => ?_)
    have iz_6 : z_6.toInt = z_5.toInt + x.toInt := toInt_addI ez_6 (rfl) (rfl) (by omega)
    refine lv_sipush (v := 999) hx hb dX9_fill_35 (by decide) ?_
    refine lv_icmp_le (tgt := 47) hx hb dX9_fill_38 (by decide) (fun c_7 => ?_) (fun c_7 => ?_)
    · have ic_7 : z_6.toInt ≤ 999 := ile c_7 (rfl) (by decide)
      refine lv_aload_n hx hb dX9_fill_47 rfl (lv_at hl 0 rfl) ?_
      refine va_get (D := D) (ci := 9) (v := .ref (g 0)) (C := RX9) (T := TX9) (N := 37) hx hb htg gRX9 hown hK hP 0 rfl rfl 1 (by decide) (htg _ wi_1151) (fun _ h9 => h9) rfl dX9_fill_48 ?_
      refine lv_bipush (v := 6) hx hb dX9_fill_51 (by decide) ?_
      refine va_iald hx hb hK hP 1 0 rfl rfl (by unfold vp_in; decide) dX9_fill_53 ?_
      refine lv_topi (fun z_8 ez_8 => ?_)
      have iz_8 : 0 ≤ z_8.toInt ∧ z_8.toInt ≤ 999 := by rw [ez_8]; exact rd6 pa0 (by decide) rfl
      have nz_8 : z_8.toInt = ((a0) 6).toInt := by rw [ez_8]; rfl
      refine lv_iload_n hx hb dX9_fill_54 rfl (lv_at hl 1 rfl) ?_
      refine lv_iadd hx hb dX9_fill_55 ?_
      refine lv_topi (fun z_9 ez_9 => ?_)
      have iz_9 : z_9.toInt = z_8.toInt + x.toInt := toInt_addI ez_9 (rfl) (rfl) (by omega)
      refine va_iast hx hb hK hP hD hS 1 0 rfl rfl (by unfold vp_in; decide) dX9_fill_56 (fun H locs hP hD hS => ?_)
      obtain ⟨f_10, ef_10, hP, hD⟩ : ∃ f_10 : Nat → Int32, f_10 = upd (a0) (6 : Int32).toNatClampNeg z_9 ∧ PD D A [(sw_9 h0 g 0 b5 b6 b7 b8 b9 b10 b11 b12 b13 b14 b17 b18 b19 b23 b24 b25 b26 b27 b29 b31 b32 b33), (sw_in cT (g 0) 288 f_10)] H := ⟨_, rfl, hP, hD⟩
      have qf_10 : PI 288 f_10 := by rw [ef_10]; exact pi_upd (a := 6) (b := z_9.toInt) pa0 (by decide) (rfl) (by omega) (by unfold OKP; omega)
      have kf_10 : KR f_10 (a0) := KR_upd (a := 6) (KR_rfl a0) ef_10 (by decide) (by omega) (by unfold NRP; omega)
      refine lv_aload_n hx hb dX9_fill_57 rfl (lv_at hl 0 rfl) ?_
      refine va_get (D := D) (ci := 9) (v := .ref (g 0)) (C := RX9) (T := TX9) (N := 37) hx hb htg gRX9 hown hK hP 0 rfl rfl 1 (by decide) (htg _ wi_1151) (fun _ h9 => h9) rfl dX9_fill_58 ?_
      refine lv_bipush (v := 6) hx hb dX9_fill_61 (by decide) ?_
      refine va_iald hx hb hK hP 1 0 rfl rfl (by unfold vp_in; decide) dX9_fill_63 ?_
      refine lv_topi (fun z_11 ez_11 => ?_)
      have iz_11 : 0 ≤ z_11.toInt ∧ z_11.toInt ≤ 999 := by rw [ez_11]; exact rd6 qf_10 (by decide) rfl
      have nz_11 : z_11.toInt = ((f_10) 6).toInt := by rw [ez_11]; rfl
      exact x_iret hx hb hr hlk hP hD hS [0, 1] ((0, f_10)) rfl (by decide) ⟨by (try dsimp only); first | assumption | omega | decide | exact Or.inl (by decide) | (intro h9; exact absurd h9 (by decide)) | (intro _; omega) | (intro _; assumption) | (intro _; decide), by (try dsimp only); first | assumption | exact KR_rfl _, trivial⟩ (by decide) (by decide) dX9_fill_64
    · have ic_7 : 999 < z_6.toInt := inle c_7 (rfl) (by decide)
      refine lv_sipush (v := 999) hx hb dX9_fill_41 (by decide) ?_
      refine lv_goto (tgt := 56) hx hb dX9_fill_44 (by decide) ?_
      refine va_iast hx hb hK hP hD hS 1 0 rfl rfl (by unfold vp_in; decide) dX9_fill_56 (fun H locs hP hD hS => ?_)
      obtain ⟨f_12, ef_12, hP, hD⟩ : ∃ f_12 : Nat → Int32, f_12 = upd (a0) (6 : Int32).toNatClampNeg 999 ∧ PD D A [(sw_9 h0 g 0 b5 b6 b7 b8 b9 b10 b11 b12 b13 b14 b17 b18 b19 b23 b24 b25 b26 b27 b29 b31 b32 b33), (sw_in cT (g 0) 288 f_12)] H := ⟨_, rfl, hP, hD⟩
      have qf_12 : PI 288 f_12 := by rw [ef_12]; exact pi_upd (a := 6) (b := 999) pa0 (by decide) (by decide) (by omega) (by unfold OKP; omega)
      have kf_12 : KR f_12 (a0) := KR_upd (a := 6) (KR_rfl a0) ef_12 (by decide) (by omega) (by unfold NRP; omega)
      refine lv_aload_n hx hb dX9_fill_57 rfl (lv_at hl 0 rfl) ?_
      refine va_get (D := D) (ci := 9) (v := .ref (g 0)) (C := RX9) (T := TX9) (N := 37) hx hb htg gRX9 hown hK hP 0 rfl rfl 1 (by decide) (htg _ wi_1151) (fun _ h9 => h9) rfl dX9_fill_58 ?_
      refine lv_bipush (v := 6) hx hb dX9_fill_61 (by decide) ?_
      refine va_iald hx hb hK hP 1 0 rfl rfl (by unfold vp_in; decide) dX9_fill_63 ?_
      refine lv_topi (fun z_13 ez_13 => ?_)
      have iz_13 : 0 ≤ z_13.toInt ∧ z_13.toInt ≤ 999 := by rw [ez_13]; exact rd6 qf_12 (by decide) rfl
      have nz_13 : z_13.toInt = ((f_12) 6).toInt := by rw [ez_13]; rfl
      exact x_iret hx hb hr hlk hP hD hS [0, 1] ((0, f_12)) rfl (by decide) ⟨by (try dsimp only); first | assumption | omega | decide | exact Or.inl (by decide) | (intro h9; exact absurd h9 (by decide)) | (intro _; omega) | (intro _; assumption) | (intro _; decide), by (try dsimp only); first | assumption | exact KR_rfl _, trivial⟩ (by decide) (by decide) dX9_fill_64
  · have ic_4 : r_3.toInt = 0 := ieq c_4 (rfl) (by decide)
    refine lv_bipush (v := (-3)) hx hb dX9_fill_17 (by decide) ?_
    exact x_iret hx hb hr hlk hP hD hS [0, 1] ((0, a0)) rfl (by decide) ⟨by (try dsimp only); first | assumption | omega | decide | exact Or.inl (by decide) | (intro h9; exact absurd h9 (by decide)) | (intro _; omega) | (intro _; assumption) | (intro _; decide), by (try dsimp only); first | assumption | exact KR_rfl _, trivial⟩ (by decide) (by decide) dX9_fill_19
