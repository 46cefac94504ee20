set_option maxHeartbeats 4000000 in
set_option maxRecDepth 100000 in
theorem m_goesK (l : Launch) (D : va_G) (cT : Nat → ClassId) (sz : Nat) (h0 : Nat) (g : Nat → Nat) (b0 : Int32) (b5 : Int32) (b6 : Int32) (b7 : Int32) (b8 : Int32) (b9 : Int32) (b10 : Int32) (b11 : Int32) (b12 : Int32) (b13 : Int32) (b14 : Int32) (b17 : Int32) (b18 : Int32) (b19 : Int32) (b23 : Int32) (b24 : Int32) (b25 : Int32) (b26 : Int32) (b27 : Int32) (b29 : Int32) (b31 : Int32) (b32 : Int32) (b33 : Int32) (hb5 : 0 ≤ b5.toInt ∧ b5.toInt ≤ 900) (a0 : Nat → Int32) (pa0 : PI 288 a0) (a4 : Nat → Int32) (x : Int32) (y : Int32) (hg6 : 1 ≤ (a0 6).toInt) (hg1 : (a0 1).toInt ≤ 9998) (hgm : (x.toInt = 0 ∨ (x.toInt = 1 ∧ 1 ≤ (a0 2).toInt) ∨ (x.toInt = 2 ∧ (a0 2).toInt ≤ 14))) : Met l yX9_goes (wsc yX9_goes cX9_goes 6 (some .int)) { frames := 6, cells := 0, slots := 0, locals := 192 } (va_Pc [.ref h0, .int x, .int y] (PX D cT sz [(sw_9 h0 g b0 b5 b6 b7 b8 b9 b10 b11 b12 b13 b14 b17 b18 b19 b23 b24 b25 b26 b27 b29 b31 b32 b33), (sw_in cT (g 0) 288 a0), (sw_in cT (g 4) 6 a4)])) (va_Qi (fun (r : Int32) (u : (Nat → Int32) × (Nat → Int32)) => (PI 288 u.1) ∧ (KR u.1 a0) ∧ ((u.1 1).toInt = (a0 1).toInt + 1) ∧ (True)) (fun u t => RW D (va_A [(sw_9 h0 g b0 b5 b6 b7 b8 b9 b10 b11 b12 b13 b14 b17 b18 b19 b23 b24 b25 b26 b27 b29 b31 b32 b33), (sw_in cT (g 0) 288 a0), (sw_in cT (g 4) 6 a4)] sz) ((fun u : (Nat → Int32) × (Nat → Int32) => [(sw_9 h0 g b0 b5 b6 b7 b8 b9 b10 b11 b12 b13 b14 b17 b18 b19 b23 b24 b25 b26 b27 b29 b31 b32 b33), (sw_in cT (g 0) 288 u.1), (sw_in cT (g 4) 6 u.2)]) u) t) (va_A [(sw_9 h0 g b0 b5 b6 b7 b8 b9 b10 b11 b12 b13 b14 b17 b18 b19 b23 b24 b25 b26 b27 b29 b31 b32 b33), (sw_in cT (g 0) 288 a0), (sw_in cT (g 4) 6 a4)] sz)) 0 0 (va_A [(sw_9 h0 g b0 b5 b6 b7 b8 b9 b10 b11 b12 b13 b14 b17 b18 b19 b23 b24 b25 b26 b27 b29 b31 b32 b33), (sw_in cT (g 0) 288 a0), (sw_in cT (g 4) 6 a4)] sz) := by
  refine m_of (y := yX9_goes) (cc := cX9_goes) (nL := 6) (ret := (some .int)) (D := D) (cT := cT) (av := [.ref h0, .int x, .int y]) (wi := [(sw_9 h0 g b0 b5 b6 b7 b8 b9 b10 b11 b12 b13 b14 b17 b18 b19 b23 b24 b25 b26 b27 b29 b31 b32 b33), (sw_in cT (g 0) 288 a0), (sw_in cT (g 4) 6 a4)]) (fun A => va_Qi (fun (r : Int32) (u : (Nat → Int32) × (Nat → Int32)) => (PI 288 u.1) ∧ (KR u.1 a0) ∧ ((u.1 1).toInt = (a0 1).toInt + 1) ∧ (True)) (fun u t => RW D A ((fun u : (Nat → Int32) × (Nat → Int32) => [(sw_9 h0 g b0 b5 b6 b7 b8 b9 b10 b11 b12 b13 b14 b17 b18 b19 b23 b24 b25 b26 b27 b29 b31 b32 b33), (sw_in cT (g 0) 288 u.1), (sw_in cT (g 4) 6 u.2)]) u) t) A) (by decide) (Nat.le_of_ble_eq_true rfl) ?_
  intro p e s m below meth c A hx hb hml hown htg hK hN hr hlk hnm hsz hP hD hS hA ls hl
  have hown : s.vm.findClass RX9 = some m.cls := hown
  have hl : lv_has ls 6 [(0, .ref h0), (1, .int x), (2, .int y)] := hl
  have tc_0 : (0 : Int32).toInt = 0 := by decide
  have tc_1 : (1 : Int32).toInt = 1 := by decide
  have tc_2 : (2 : Int32).toInt = 2 := by decide
  have tc_6 : (6 : Int32).toInt = 6 := by decide
  have tc_16 : (16 : Int32).toInt = 16 := by decide
  have tc_32 : (32 : Int32).toInt = 32 := by decide
  have tc_64 : (64 : Int32).toInt = 64 := by decide
  have tc_80 : (80 : Int32).toInt = 80 := by decide
  refine lv_aload_n hx hb dX9_goes_0 rfl (lv_at hl 0 rfl) ?_
  refine va_get (D := D) (ci := 9) (v := .ref (g 0)) (C := RX9) (T := TX9) (N := 37) hx hb htg gRX9 hown hK hP 0 rfl rfl 1 (by decide) (htg _ wi_1151) (fun _ h9 => h9) rfl dX9_goes_1 ?_
  refine lv_iconst (v := 2) hx hb dX9_goes_4 (by decide) ?_
  refine lv_aload_n hx hb dX9_goes_5 rfl (lv_at hl 0 rfl) ?_
  refine va_get (D := D) (ci := 9) (v := .ref (g 0)) (C := RX9) (T := TX9) (N := 37) hx hb htg gRX9 hown hK hP 0 rfl rfl 1 (by decide) (htg _ wi_1151) (fun _ h9 => h9) rfl dX9_goes_6 ?_
  refine lv_iconst (v := 2) hx hb dX9_goes_9 (by decide) ?_
  refine va_iald hx hb hK hP 1 0 rfl rfl (by unfold vp_in; decide) dX9_goes_10 ?_
  refine lv_topi (fun z_1 ez_1 => ?_)
  have iz_1 : 0 ≤ z_1.toInt ∧ z_1.toInt ≤ 15 := by rw [ez_1]; exact rd2 pa0 (by decide) rfl
  have nz_1 : z_1.toInt = ((a0) 2).toInt := by rw [ez_1]; rfl
  refine lv_iload_n hx hb dX9_goes_11 rfl (lv_at hl 1 rfl) ?_
  refine lv_i2l (v := x.toInt64) hx hb dX9_goes_12 rfl ?_
  have ilw_2 : (x.toInt64).toInt = x.toInt := i2l_i _
  refine xk_i (wr := [(sw_9 h0 g b0 b5 b6 b7 b8 b9 b10 b11 b12 b13 b14 b17 b18 b19 b23 b24 b25 b26 b27 b29 b31 b32 b33), (sw_in cT (g 0) 288 a0), (sw_in cT (g 4) 6 a4)]) (xr_S (n := 2) (As := [.int z_1, .long x.toInt64]) (rest := [.int 2, .ref (g 0)]) ⟨hx, hb, hml, hown, htg⟩ hK hN hP hD hS hA [] rfl (by decide) (m_then l D cT _ (z_1) (x.toInt64) (by first | assumption | omega | decide | exact Or.inl (by decide) | (intro h9; exact absurd h9 (by decide)) | (intro _; omega) | (intro _; assumption) | (intro _; decide))) wi_1421 wi_1422 wi_131 wi_1423 ⟨rfl, by decide +kernel⟩ ⟨Nat.le_of_ble_eq_true rfl, Nat.le_of_ble_eq_true rfl⟩ rfl hl.1 rfl (Nat.le_of_ble_eq_true rfl) dX9_goes_13 ⟨Nat.le_of_ble_eq_true rfl, Nat.le_of_ble_eq_true rfl⟩) hP hD hS hA [] [0, 1, 2] rfl rfl (by decide) (by decide) (fun r_4 u_3 H locs hwr_4 hP hD hS => ?_)
  obtain ⟨hP, hD⟩ : PD D A [(sw_9 h0 g b0 b5 b6 b7 b8 b9 b10 b11 b12 b13 b14 b17 b18 b19 b23 b24 b25 b26 b27 b29 b31 b32 b33), (sw_in cT (g 0) 288 a0), (sw_in cT (g 4) 6 a4)] _ := ⟨hP, hD⟩
  have qr_4_0 : (x.toInt64.toInt = 1 ∧ r_4.toInt = z_1.toInt - 1) ∨ (x.toInt64.toInt = 2 ∧ r_4.toInt = z_1.toInt + 1) ∨ (¬ x.toInt64.toInt = 1 ∧ ¬ x.toInt64.toInt = 2 ∧ r_4.toInt = z_1.toInt) := hwr_4.1
  refine va_iast hx hb hK hP hD hS 1 0 rfl rfl (by unfold vp_in; decide) dX9_goes_16 (fun H locs hP hD hS => ?_)
  obtain ⟨f_5, ef_5, hP, hD⟩ : ∃ f_5 : Nat → Int32, f_5 = upd (a0) (2 : Int32).toNatClampNeg r_4 ∧ PD D A [(sw_9 h0 g b0 b5 b6 b7 b8 b9 b10 b11 b12 b13 b14 b17 b18 b19 b23 b24 b25 b26 b27 b29 b31 b32 b33), (sw_in cT (g 0) 288 f_5), (sw_in cT (g 4) 6 a4)] H := ⟨_, rfl, hP, hD⟩
  have qf_5 : PI 288 f_5 := by rw [ef_5]; exact pi_upd (a := 2) (b := r_4.toInt) pa0 (by decide) (rfl) (by omega) (by unfold OKP; omega)
  have kf_5 : KR f_5 (a0) := KR_upd (a := 2) (KR_rfl a0) ef_5 (by decide) (by omega) (by unfold NRP; omega)
  have nf_5_1 : (f_5 1).toInt = ((a0) 1).toInt := by rw [ef_5]; exact congrArg Int32.toInt (upd_ne (a := 2) (by decide) (by omega) (by omega))
  have nf_5_6 : (f_5 6).toInt = ((a0) 6).toInt := by rw [ef_5]; exact congrArg Int32.toInt (upd_ne (a := 2) (by decide) (by omega) (by omega))
  refine lv_aload_n hx hb dX9_goes_17 rfl (lv_at hl 0 rfl) ?_
  refine va_get (D := D) (ci := 9) (v := .ref (g 0)) (C := RX9) (T := TX9) (N := 37) hx hb htg gRX9 hown hK hP 0 rfl rfl 1 (by decide) (htg _ wi_1151) (fun _ h9 => h9) rfl dX9_goes_18 ?_
  refine lv_bipush (v := 6) hx hb dX9_goes_21 (by decide) ?_
  refine lv_dup2_11 hx hb dX9_goes_23 rfl rfl ?_
  refine va_iald hx hb hK hP 1 0 rfl rfl (by unfold vp_in; decide) dX9_goes_24 ?_
  refine lv_topi (fun z_6 ez_6 => ?_)
  have iz_6 : 0 ≤ z_6.toInt ∧ z_6.toInt ≤ 999 := by rw [ez_6]; exact rd6 qf_5 (by decide) rfl
  have nz_6 : z_6.toInt = ((f_5) 6).toInt := by rw [ez_6]; rfl
  refine lv_iconst (v := 1) hx hb dX9_goes_25 (by decide) ?_
  refine lv_isub hx hb dX9_goes_26 ?_
  refine lv_topi (fun z_7 ez_7 => ?_)
  have iz_7 : z_7.toInt = z_6.toInt - 1 := toInt_subI ez_7 (rfl) (by decide) (by omega)
  refine va_iast hx hb hK hP hD hS 1 0 rfl rfl (by unfold vp_in; decide) dX9_goes_27 (fun H locs hP hD hS => ?_)
  obtain ⟨f_8, ef_8, hP, hD⟩ : ∃ f_8 : Nat → Int32, f_8 = upd (f_5) (6 : Int32).toNatClampNeg z_7 ∧ PD D A [(sw_9 h0 g b0 b5 b6 b7 b8 b9 b10 b11 b12 b13 b14 b17 b18 b19 b23 b24 b25 b26 b27 b29 b31 b32 b33), (sw_in cT (g 0) 288 f_8), (sw_in cT (g 4) 6 a4)] H := ⟨_, rfl, hP, hD⟩
  have qf_8 : PI 288 f_8 := by rw [ef_8]; exact pi_upd (a := 6) (b := z_7.toInt) qf_5 (by decide) (rfl) (by omega) (by unfold OKP; omega)
  have kf_8 : KR f_8 (a0) := KR_upd (a := 6) kf_5 ef_8 (by decide) (by omega) (by unfold NRP; omega)
  have nf_8_1 : (f_8 1).toInt = ((f_5) 1).toInt := by rw [ef_8]; exact congrArg Int32.toInt (upd_ne (a := 6) (by decide) (by omega) (by omega))
  have nf_8_6 : (f_8 6).toInt = z_7.toInt := by rw [ef_8]; exact (congrArg Int32.toInt (upd_eqI (a := 6) (by decide) (by omega))).trans (rfl)
  refine lv_aload_n hx hb dX9_goes_28 rfl (lv_at hl 0 rfl) ?_
  refine va_get (D := D) (ci := 9) (v := .ref (g 0)) (C := RX9) (T := TX9) (N := 37) hx hb htg gRX9 hown hK hP 0 rfl rfl 1 (by decide) (htg _ wi_1151) (fun _ h9 => h9) rfl dX9_goes_29 ?_
  refine lv_iconst (v := 1) hx hb dX9_goes_32 (by decide) ?_
  refine lv_dup2_11 hx hb dX9_goes_33 rfl rfl ?_
  refine va_iald hx hb hK hP 1 0 rfl rfl (by unfold vp_in; decide) dX9_goes_34 ?_
  refine lv_topi (fun z_9 ez_9 => ?_)
  have iz_9 : 0 ≤ z_9.toInt ∧ z_9.toInt ≤ 9999 := by rw [ez_9]; exact rd1 qf_8 (by decide) rfl
  have nz_9 : z_9.toInt = ((f_8) 1).toInt := by rw [ez_9]; rfl
  refine lv_iconst (v := 1) hx hb dX9_goes_35 (by decide) ?_
  refine lv_iadd hx hb dX9_goes_36 ?_
  refine lv_topi (fun z_10 ez_10 => ?_)
  have iz_10 : z_10.toInt = z_9.toInt + 1 := toInt_addI ez_10 (rfl) (by decide) (by omega)
  refine va_iast hx hb hK hP hD hS 1 0 rfl rfl (by unfold vp_in; decide) dX9_goes_37 (fun H locs hP hD hS => ?_)
  obtain ⟨f_11, ef_11, hP, hD⟩ : ∃ f_11 : Nat → Int32, f_11 = upd (f_8) (1 : Int32).toNatClampNeg z_10 ∧ PD D A [(sw_9 h0 g b0 b5 b6 b7 b8 b9 b10 b11 b12 b13 b14 b17 b18 b19 b23 b24 b25 b26 b27 b29 b31 b32 b33), (sw_in cT (g 0) 288 f_11), (sw_in cT (g 4) 6 a4)] H := ⟨_, rfl, hP, hD⟩
  have qf_11 : PI 288 f_11 := by rw [ef_11]; exact pi_upd (a := 1) (b := z_10.toInt) qf_8 (by decide) (rfl) (by omega) (by unfold OKP; omega)
  have kf_11 : KR f_11 (a0) := KR_upd (a := 1) kf_8 ef_11 (by decide) (by omega) (by unfold NRP; omega)
  have nf_11_1 : (f_11 1).toInt = z_10.toInt := by rw [ef_11]; exact (congrArg Int32.toInt (upd_eqI (a := 1) (by decide) (by omega))).trans (rfl)
  have nf_11_6 : (f_11 6).toInt = ((f_8) 6).toInt := by rw [ef_11]; exact congrArg Int32.toInt (upd_ne (a := 1) (by decide) (by omega) (by omega))
  refine lv_iconst (v := 0) hx hb dX9_goes_38 (by decide) ?_
  refine lv_istore_n (lv' := [(3, .int 0), (0, .ref h0), (1, .int x), (2, .int y)]) hx hb dX9_goes_39 rfl hl (by decide) rfl (fun ls hl => ?_)
  refine lv_iconst (v := 0) hx hb dX9_goes_40 (by decide) ?_
  refine lv_istore (lv' := [(4, .int 0), (3, .int 0), (0, .ref h0), (1, .int x), (2, .int y)]) hx hb dX9_goes_41 hl (by decide) rfl (fun ls hl => ?_)
  refine (fun (key : ∀ (n9_43 : Nat) (k9_43 : Nat) (x9_43_3 : Int32) (f9_43_1 : Nat → Int32) (f9_43_2 : Nat → Int32) (H : Heap) (locs : List Loc) (ls : Array Slot), (k9_43 : Int) ≤ 16 → 16 < (k9_43 : Int) + n9_43 → (f9_43_1 1).toInt = (a0 1).toInt + 1 → PI 288 f9_43_1 → KR f9_43_1 (a0) → PD D A [(sw_9 h0 g b0 b5 b6 b7 b8 b9 b10 b11 b12 b13 b14 b17 b18 b19 b23 b24 b25 b26 b27 b29 b31 b32 b33), (sw_in cT (g 0) 288 f9_43_1), (sw_in cT (g 4) 6 f9_43_2)] H → va_S A s.heap H locs → lv_has ls 6 [(4, .int (nI k9_43)), (3, .int x9_43_3), (0, .ref h0), (1, .int x), (2, .int y)] → W p l e _ s m _ below meth c H locs _ _ _ (F0 m 43 ls [])) => key (Int.toNat (16 - 0) + 1) 0 _ _ _ _ _ _ (by omega) (by omega) (by first | assumption | omega | decide | (simp only [ti_0, ti_1, ti_2, ti_3, ti_4, ti_5, ti_6, ti_7, ti_8, ti_9, ti_10, ti_11, ti_12, ti_m1]; omega)) (by first | assumption | omega | decide | (simp only [ti_0, ti_1, ti_2, ti_3, ti_4, ti_5, ti_6, ti_7, ti_8, ti_9, ti_10, ti_11, ti_12, ti_m1]; omega)) (by first | assumption | exact KR_rfl _) ⟨hP, hD⟩ hS (lv_sub hl [0, 1, 2, 3, 4] rfl)) ?_
  intro n9_43
  induction n9_43 with
  | zero => intro k9_43 x9_43_3 f9_43_1 f9_43_2 H locs ls hq1 hq2; exact absurd hq2 (by omega)
  | succ n9_43 ih_43 =>
    intro k9_43 x9_43_3 f9_43_1 f9_43_2 H locs ls hq1_43 hq2_43 h9_43_0 h9_43_1 h9_43_2 hPD hS hl
    obtain ⟨hP, hD⟩ := hPD
    have hk9_43 : (nI k9_43).toInt = (k9_43 : Int) := nI_toInt (by omega)
    refine lv_iload hx hb dX9_goes_43 (lv_at hl 0 rfl) ?_
    refine lv_aload_n hx hb dX9_goes_45 rfl (lv_at hl 2 rfl) ?_
    refine va_get (D := D) (ci := 9) (v := .ref (g 0)) (C := RX9) (T := TX9) (N := 37) hx hb htg gRX9 hown hK hP 0 rfl rfl 1 (by decide) (htg _ wi_1151) (fun _ h9 => h9) rfl dX9_goes_46 ?_
    refine lv_iconst (v := 0) hx hb dX9_goes_49 (by decide) ?_
    refine va_iald hx hb hK hP 1 0 rfl rfl (by unfold vp_in; decide) dX9_goes_50 ?_
    refine lv_topi (fun z_12 ez_12 => ?_)
    have iz_12 : 0 ≤ z_12.toInt ∧ z_12.toInt ≤ 16 := by rw [ez_12]; exact rd0 h9_43_1 (by decide) rfl
    have nz_12 : z_12.toInt = ((f9_43_1) 0).toInt := by rw [ez_12]; rfl
    refine lv_icmp_ge (tgt := 197) hx hb dX9_goes_51 (by decide) (fun c_13 => ?_) (fun c_13 => ?_)
    · have ic_13 : z_12.toInt ≤ ((k9_43 : Nat) : Int) := ile c_13 (rfl) (nI_toInt (by omega))
      refine lv_iload_n hx hb dX9_goes_197 rfl (lv_at hl 1 rfl) ?_
      exact x_iret hx hb hr hlk hP hD hS [0, 1, 2] ((f9_43_1, f9_43_2)) rfl (by decide) ⟨by (try dsimp only); first | assumption | omega | decide | exact Or.inl (by decide) | (intro h9; exact absurd h9 (by decide)) | (intro _; omega) | (intro _; assumption) | (intro _; decide), by (try dsimp only); first | assumption | exact KR_rfl _, by (try dsimp only); first | assumption | omega | decide | exact Or.inl (by decide) | (intro h9; exact absurd h9 (by decide)) | (intro _; omega) | (intro _; assumption) | (intro _; decide), trivial⟩ (by decide) (by decide) dX9_goes_198
    · have ic_13 : ((k9_43 : Nat) : Int) < z_12.toInt := inle c_13 (rfl) (nI_toInt (by omega))
      refine lv_iload_n hx hb dX9_goes_54 rfl (lv_at hl 4 rfl) ?_
      refine lv_if_ne (tgt := 197) hx hb dX9_goes_55 (by decide) (fun c_14 => ?_) (fun c_14 => ?_)
      · have ic_14 : ¬ y.toInt = 0 := ine c_14 (rfl) (by decide)
        refine lv_iload_n hx hb dX9_goes_197 rfl (lv_at hl 1 rfl) ?_
        exact x_iret hx hb hr hlk hP hD hS [0, 1, 2] ((f9_43_1, f9_43_2)) rfl (by decide) ⟨by (try dsimp only); first | assumption | omega | decide | exact Or.inl (by decide) | (intro h9; exact absurd h9 (by decide)) | (intro _; omega) | (intro _; assumption) | (intro _; decide), by (try dsimp only); first | assumption | exact KR_rfl _, by (try dsimp only); first | assumption | omega | decide | exact Or.inl (by decide) | (intro h9; exact absurd h9 (by decide)) | (intro _; omega) | (intro _; assumption) | (intro _; decide), trivial⟩ (by decide) (by decide) dX9_goes_198
      · have ic_14 : y.toInt = 0 := ieq c_14 (rfl) (by decide)
        refine lv_aload_n hx hb dX9_goes_58 rfl (lv_at hl 2 rfl) ?_
        refine lv_aload_n hx hb dX9_goes_59 rfl (lv_at hl 2 rfl) ?_
        refine va_get (D := D) (ci := 9) (v := .ref (g 0)) (C := RX9) (T := TX9) (N := 37) hx hb htg gRX9 hown hK hP 0 rfl rfl 1 (by decide) (htg _ wi_1151) (fun _ h9 => h9) rfl dX9_goes_60 ?_
        refine lv_iconst (v := 2) hx hb dX9_goes_63 (by decide) ?_
        refine va_iald hx hb hK hP 1 0 rfl rfl (by unfold vp_in; decide) dX9_goes_64 ?_
        refine lv_topi (fun z_15 ez_15 => ?_)
        have iz_15 : 0 ≤ z_15.toInt ∧ z_15.toInt ≤ 15 := by rw [ez_15]; exact rd2 h9_43_1 (by decide) rfl
        have nz_15 : z_15.toInt = ((f9_43_1) 2).toInt := by rw [ez_15]; rfl
        refine lv_iload hx hb dX9_goes_65 (lv_at hl 0 rfl) ?_
        refine xk_i (wr := [(sw_in cT (g 4) 6 f9_43_2)]) (xr_V (n := 2) (As := [.int z_15, .int (nI k9_43)]) (rest := []) ⟨hx, hb, hml, hown, htg⟩ hK hN hP hD hS hA [0, 1] rfl (by decide) (m_lightOf l D cT _ (h0) (g) (b0) (b5) (b6) (b7) (b8) (b9) (b10) (b11) (b12) (b13) (b14) (b17) (b18) (b19) (b23) (b24) (b25) (b26) (b27) (b29) (b31) (b32) (b33) (by first | assumption | omega | decide | exact Or.inl (by decide) | (intro h9; exact absurd h9 (by decide)) | (intro _; omega) | (intro _; assumption) | (intro _; decide)) (f9_43_1) (by first | assumption | omega | decide | exact Or.inl (by decide) | (intro h9; exact absurd h9 (by decide)) | (intro _; omega) | (intro _; assumption) | (intro _; decide)) (z_15) ((nI k9_43)) (by first | assumption | omega | decide | exact Or.inl (by decide) | (intro h9; exact absurd h9 (by decide)) | (intro _; omega) | (intro _; assumption) | (intro _; decide)) (by first | assumption | omega | decide | exact Or.inl (by decide) | (intro h9; exact absurd h9 (by decide)) | (intro _; omega) | (intro _; assumption) | (intro _; decide))) wi_1343 wi_1345 wi_91 wi_131 wi_1346 rfl rfl rfl ⟨rfl, by decide +kernel⟩ ⟨Nat.le_of_ble_eq_true rfl, Nat.le_of_ble_eq_true rfl⟩ rfl hl.1 rfl (Nat.le_of_ble_eq_true rfl) dX9_goes_67 ⟨Nat.le_of_ble_eq_true rfl, Nat.le_of_ble_eq_true rfl⟩) hP hD hS hA [0, 1] [2] rfl rfl (by decide) (by decide) (fun r_17 u_16 H locs hwr_17 hP hD hS => ?_)
        obtain ⟨hP, hD⟩ : PD D A [(sw_in cT (g 4) 6 f9_43_2), (sw_9 h0 g b0 b5 b6 b7 b8 b9 b10 b11 b12 b13 b14 b17 b18 b19 b23 b24 b25 b26 b27 b29 b31 b32 b33), (sw_in cT (g 0) 288 f9_43_1)] _ := ⟨hP, hD⟩
        refine lv_istore (lv' := [(5, .int r_17), (4, .int (nI k9_43)), (3, .int x9_43_3), (0, .ref h0), (1, .int x), (2, .int y)]) hx hb dX9_goes_70 hl (by decide) rfl (fun ls hl => ?_)
        refine lv_aload_n hx hb dX9_goes_72 rfl (lv_at hl 3 rfl) ?_
        refine va_get (D := D) (ci := 9) (v := .ref (g 0)) (C := RX9) (T := TX9) (N := 37) hx hb htg gRX9 hown hK hP 1 rfl rfl 1 (by decide) (htg _ wi_1151) (fun _ h9 => h9) rfl dX9_goes_73 ?_
        refine lv_bipush (v := 32) hx hb dX9_goes_76 (by decide) ?_
        refine lv_iload hx hb dX9_goes_78 (lv_at hl 1 rfl) ?_
        refine lv_iadd hx hb dX9_goes_80 ?_
        refine lv_is (y := nI (32 + k9_43)) (nI_add 32 (k9_43)) ?_
        refine va_iald hx hb hK hP 2 0 rfl rfl (vp_in_nI (by omega) (by omega)) dX9_goes_81 ?_
        refine lv_topi (fun z_18 ez_18 => ?_)
        refine lv_iload hx hb dX9_goes_82 (lv_at hl 0 rfl) ?_
        refine lv_icmp_ge (tgt := 100) hx hb dX9_goes_84 (by decide) (fun c_19 => ?_) (fun c_19 => ?_)
        · have ic_19 : r_17.toInt ≤ z_18.toInt := ile c_19 (rfl) (rfl)
          refine lv_iload hx hb dX9_goes_100 (lv_at hl 0 rfl) ?_
          refine lv_istore (lv' := [(5, .int r_17), (4, .int (nI k9_43)), (3, .int x9_43_3), (0, .ref h0), (1, .int x), (2, .int y)]) hx hb dX9_goes_102 hl (by decide) rfl (fun ls hl => ?_)
          refine lv_aload_n hx hb dX9_goes_104 rfl (lv_at hl 3 rfl) ?_
          refine va_get (D := D) (ci := 9) (v := .ref (g 0)) (C := RX9) (T := TX9) (N := 37) hx hb htg gRX9 hown hK hP 1 rfl rfl 1 (by decide) (htg _ wi_1151) (fun _ h9 => h9) rfl dX9_goes_105 ?_
          refine lv_bipush (v := 16) hx hb dX9_goes_108 (by decide) ?_
          refine lv_iload hx hb dX9_goes_110 (lv_at hl 1 rfl) ?_
          refine lv_iadd hx hb dX9_goes_112 ?_
          refine lv_is (y := nI (16 + k9_43)) (nI_add 16 (k9_43)) ?_
          refine va_iald hx hb hK hP 2 0 rfl rfl (vp_in_nI (by omega) (by omega)) dX9_goes_113 ?_
          refine lv_topi (fun z_20 ez_20 => ?_)
          refine lv_iload hx hb dX9_goes_114 (lv_at hl 0 rfl) ?_
          refine lv_icmp_ge (tgt := 132) hx hb dX9_goes_116 (by decide) (fun c_21 => ?_) (fun c_21 => ?_)
          · have ic_21 : r_17.toInt ≤ z_20.toInt := ile c_21 (rfl) (rfl)
            refine lv_iload hx hb dX9_goes_132 (lv_at hl 0 rfl) ?_
            refine lv_istore (lv' := [(5, .int r_17), (4, .int (nI k9_43)), (3, .int x9_43_3), (0, .ref h0), (1, .int x), (2, .int y)]) hx hb dX9_goes_134 hl (by decide) rfl (fun ls hl => ?_)
            refine lv_aload_n hx hb dX9_goes_136 rfl (lv_at hl 3 rfl) ?_
            refine va_get (D := D) (ci := 9) (v := .ref (g 0)) (C := RX9) (T := TX9) (N := 37) hx hb htg gRX9 hown hK hP 1 rfl rfl 1 (by decide) (htg _ wi_1151) (fun _ h9 => h9) rfl dX9_goes_137 ?_
            refine lv_bipush (v := 16) hx hb dX9_goes_140 (by decide) ?_
            refine lv_iload hx hb dX9_goes_142 (lv_at hl 1 rfl) ?_
            refine lv_iadd hx hb dX9_goes_144 ?_
            refine lv_is (y := nI (16 + k9_43)) (nI_add 16 (k9_43)) ?_
            refine lv_dup2_11 hx hb dX9_goes_145 rfl rfl ?_
            refine va_iald hx hb hK hP 2 0 rfl rfl (vp_in_nI (by omega) (by omega)) dX9_goes_146 ?_
            refine lv_topi (fun z_22 ez_22 => ?_)
            refine lv_iload hx hb dX9_goes_147 (lv_at hl 0 rfl) ?_
            refine lv_isub hx hb dX9_goes_149 ?_
            refine lv_topi (fun z_23 ez_23 => ?_)
            refine va_iast hx hb hK hP hD hS 2 0 rfl rfl (vp_in_nI (by omega) (by omega)) dX9_goes_150 (fun H locs hP hD hS => ?_)
            obtain ⟨f_24, ef_24, hP, hD⟩ : ∃ f_24 : Nat → Int32, f_24 = upd (f9_43_1) ((nI (16 + k9_43)) : Int32).toNatClampNeg z_23 ∧ PD D A [(sw_in cT (g 4) 6 f9_43_2), (sw_9 h0 g b0 b5 b6 b7 b8 b9 b10 b11 b12 b13 b14 b17 b18 b19 b23 b24 b25 b26 b27 b29 b31 b32 b33), (sw_in cT (g 0) 288 f_24)] H := ⟨_, rfl, hP, hD⟩
            have qf_24 : PI 288 f_24 := by rw [ef_24]; exact pi_upd (a := ((16 + k9_43 : Nat) : Int)) (b := z_23.toInt) h9_43_1 (nI_toInt (by omega)) (rfl) (by omega) (by unfold OKP; omega)
            have kf_24 : KR f_24 (a0) := KR_upd (a := ((16 + k9_43 : Nat) : Int)) h9_43_2 ef_24 (nI_toInt (by omega)) (by omega) (by unfold NRP; omega)
            have nf_24_1 : (f_24 1).toInt = ((f9_43_1) 1).toInt := by rw [ef_24]; exact congrArg Int32.toInt (upd_ne (a := ((16 + k9_43 : Nat) : Int)) (nI_toInt (by omega)) (by omega) (by omega))
            have nf_24_6 : (f_24 6).toInt = ((f9_43_1) 6).toInt := by rw [ef_24]; exact congrArg Int32.toInt (upd_ne (a := ((16 + k9_43 : Nat) : Int)) (nI_toInt (by omega)) (by omega) (by omega))
            refine lv_aload_n hx hb dX9_goes_151 rfl (lv_at hl 3 rfl) ?_
            refine va_get (D := D) (ci := 9) (v := .ref (g 0)) (C := RX9) (T := TX9) (N := 37) hx hb htg gRX9 hown hK hP 1 rfl rfl 1 (by decide) (htg _ wi_1151) (fun _ h9 => h9) rfl dX9_goes_152 ?_
            refine lv_bipush (v := 80) hx hb dX9_goes_155 (by decide) ?_
            refine lv_iload hx hb dX9_goes_157 (lv_at hl 1 rfl) ?_
            refine lv_iadd hx hb dX9_goes_159 ?_
            refine lv_is (y := nI (80 + k9_43)) (nI_add 80 (k9_43)) ?_
            refine lv_dup2_11 hx hb dX9_goes_160 rfl rfl ?_
            refine va_iald hx hb hK hP 2 0 rfl rfl (vp_in_nI (by omega) (by omega)) dX9_goes_161 ?_
            refine lv_topi (fun z_25 ez_25 => ?_)
            refine lv_iload hx hb dX9_goes_162 (lv_at hl 0 rfl) ?_
            refine lv_iadd hx hb dX9_goes_164 ?_
            refine lv_topi (fun z_26 ez_26 => ?_)
            refine va_iast hx hb hK hP hD hS 2 0 rfl rfl (vp_in_nI (by omega) (by omega)) dX9_goes_165 (fun H locs hP hD hS => ?_)
            obtain ⟨f_27, ef_27, hP, hD⟩ : ∃ f_27 : Nat → Int32, f_27 = upd (f_24) ((nI (80 + k9_43)) : Int32).toNatClampNeg z_26 ∧ PD D A [(sw_in cT (g 4) 6 f9_43_2), (sw_9 h0 g b0 b5 b6 b7 b8 b9 b10 b11 b12 b13 b14 b17 b18 b19 b23 b24 b25 b26 b27 b29 b31 b32 b33), (sw_in cT (g 0) 288 f_27)] H := ⟨_, rfl, hP, hD⟩
            have qf_27 : PI 288 f_27 := by rw [ef_27]; exact pi_upd (a := ((80 + k9_43 : Nat) : Int)) (b := z_26.toInt) qf_24 (nI_toInt (by omega)) (rfl) (by omega) (by unfold OKP; omega)
            have kf_27 : KR f_27 (a0) := KR_upd (a := ((80 + k9_43 : Nat) : Int)) kf_24 ef_27 (nI_toInt (by omega)) (by omega) (by unfold NRP; omega)
            have nf_27_1 : (f_27 1).toInt = ((f_24) 1).toInt := by rw [ef_27]; exact congrArg Int32.toInt (upd_ne (a := ((80 + k9_43 : Nat) : Int)) (nI_toInt (by omega)) (by omega) (by omega))
            have nf_27_6 : (f_27 6).toInt = ((f_24) 6).toInt := by rw [ef_27]; exact congrArg Int32.toInt (upd_ne (a := ((80 + k9_43 : Nat) : Int)) (nI_toInt (by omega)) (by omega) (by omega))
            refine lv_aload_n hx hb dX9_goes_166 rfl (lv_at hl 3 rfl) ?_
            refine va_get (D := D) (ci := 9) (v := .ref (g 4)) (C := RX9) (T := TX9) (N := 37) hx hb htg gRX9 hown hK hP 1 rfl rfl 15 (by decide) (htg _ wi_1165) (fun _ h9 => h9) rfl dX9_goes_167 ?_
            refine lv_aload_n hx hb dX9_goes_170 rfl (lv_at hl 3 rfl) ?_
            refine va_get (D := D) (ci := 9) (v := .ref (g 0)) (C := RX9) (T := TX9) (N := 37) hx hb htg gRX9 hown hK hP 1 rfl rfl 1 (by decide) (htg _ wi_1151) (fun _ h9 => h9) rfl dX9_goes_171 ?_
            refine lv_bipush (v := 64) hx hb dX9_goes_174 (by decide) ?_
            refine lv_iload hx hb dX9_goes_176 (lv_at hl 1 rfl) ?_
            refine lv_iadd hx hb dX9_goes_178 ?_
            refine lv_is (y := nI (64 + k9_43)) (nI_add 64 (k9_43)) ?_
            refine va_iald hx hb hK hP 2 0 rfl rfl (vp_in_nI (by omega) (by omega)) dX9_goes_179 ?_
            refine lv_topi (fun z_28 ez_28 => ?_)
            have iz_28 : 0 ≤ z_28.toInt ∧ z_28.toInt ≤ 5 := by rw [ez_28]; exact rdF qf_27 (by decide) (nI_toInt (by omega)) (by omega)
            refine lv_dup2_11 hx hb dX9_goes_180 rfl rfl ?_
            refine va_iald hx hb hK hP 0 0 rfl rfl (vp_in_iff.mpr (by omega)) dX9_goes_181 ?_
            refine lv_topi (fun z_29 ez_29 => ?_)
            refine lv_iload hx hb dX9_goes_182 (lv_at hl 0 rfl) ?_
            refine lv_iadd hx hb dX9_goes_184 ?_
            refine lv_topi (fun z_30 ez_30 => ?_)
            refine va_iast hx hb hK hP hD hS 0 0 rfl rfl (vp_in_iff.mpr (by omega)) dX9_goes_185 (fun H locs hP hD hS => ?_)
            obtain ⟨f_31, hP, hD⟩ : ∃ f_31 : Nat → Int32, PD D A [(sw_in cT (g 4) 6 f_31), (sw_9 h0 g b0 b5 b6 b7 b8 b9 b10 b11 b12 b13 b14 b17 b18 b19 b23 b24 b25 b26 b27 b29 b31 b32 b33), (sw_in cT (g 0) 288 f_27)] H := ⟨_, hP, hD⟩
            refine lv_iload_n hx hb dX9_goes_186 rfl (lv_at hl 2 rfl) ?_
            refine lv_iload hx hb dX9_goes_187 (lv_at hl 0 rfl) ?_
            refine lv_iadd hx hb dX9_goes_189 ?_
            refine lv_topi (fun z_32 ez_32 => ?_)
            refine lv_istore_n (lv' := [(3, .int z_32), (5, .int r_17), (4, .int (nI k9_43)), (0, .ref h0), (1, .int x), (2, .int y)]) hx hb dX9_goes_190 rfl hl (by decide) rfl (fun ls hl => ?_)
            refine lv_iinc (v := (nI (k9_43 + 1))) (lv' := [(4, .int (nI (k9_43 + 1))), (3, .int z_32), (5, .int r_17), (0, .ref h0), (1, .int x), (2, .int y)]) hx hb dX9_goes_191 hl (k := 2) rfl (by exact nI_1 (k9_43)) (by decide) rfl (fun ls hl => ?_)
            refine lv_goto (tgt := 43) hx hb dX9_goes_194 (by decide) ?_
            exact ih_43 (k9_43 + 1) _ _ _ _ _ _ (by omega) (by omega) (by first | assumption | omega | decide | (simp only [ti_0, ti_1, ti_2, ti_3, ti_4, ti_5, ti_6, ti_7, ti_8, ti_9, ti_10, ti_11, ti_12, ti_m1]; omega)) (by first | assumption | omega | decide | (simp only [ti_0, ti_1, ti_2, ti_3, ti_4, ti_5, ti_6, ti_7, ti_8, ti_9, ti_10, ti_11, ti_12, ti_m1]; omega)) (by first | assumption | exact KR_rfl _) ⟨hP.sub [1, 2, 0] rfl, hD.sub [1, 2, 0] (by decide) rfl⟩ hS (lv_sub hl [0, 1, 3, 4, 5] rfl)
          · have ic_21 : z_20.toInt < r_17.toInt := inle c_21 (rfl) (rfl)
            refine lv_aload_n hx hb dX9_goes_119 rfl (lv_at hl 3 rfl) ?_
            refine va_get (D := D) (ci := 9) (v := .ref (g 0)) (C := RX9) (T := TX9) (N := 37) hx hb htg gRX9 hown hK hP 1 rfl rfl 1 (by decide) (htg _ wi_1151) (fun _ h9 => h9) rfl dX9_goes_120 ?_
            refine lv_bipush (v := 16) hx hb dX9_goes_123 (by decide) ?_
            refine lv_iload hx hb dX9_goes_125 (lv_at hl 1 rfl) ?_
            refine lv_iadd hx hb dX9_goes_127 ?_
            refine lv_is (y := nI (16 + k9_43)) (nI_add 16 (k9_43)) ?_
            refine va_iald hx hb hK hP 2 0 rfl rfl (vp_in_nI (by omega) (by omega)) dX9_goes_128 ?_
            refine lv_topi (fun z_33 ez_33 => ?_)
            refine lv_goto (tgt := 134) hx hb dX9_goes_129 (by decide) ?_
            refine lv_istore (lv' := [(5, .int z_33), (4, .int (nI k9_43)), (3, .int x9_43_3), (0, .ref h0), (1, .int x), (2, .int y)]) hx hb dX9_goes_134 hl (by decide) rfl (fun ls hl => ?_)
            refine lv_aload_n hx hb dX9_goes_136 rfl (lv_at hl 3 rfl) ?_
            refine va_get (D := D) (ci := 9) (v := .ref (g 0)) (C := RX9) (T := TX9) (N := 37) hx hb htg gRX9 hown hK hP 1 rfl rfl 1 (by decide) (htg _ wi_1151) (fun _ h9 => h9) rfl dX9_goes_137 ?_
            refine lv_bipush (v := 16) hx hb dX9_goes_140 (by decide) ?_
            refine lv_iload hx hb dX9_goes_142 (lv_at hl 1 rfl) ?_
            refine lv_iadd hx hb dX9_goes_144 ?_
            refine lv_is (y := nI (16 + k9_43)) (nI_add 16 (k9_43)) ?_
            refine lv_dup2_11 hx hb dX9_goes_145 rfl rfl ?_
            refine va_iald hx hb hK hP 2 0 rfl rfl (vp_in_nI (by omega) (by omega)) dX9_goes_146 ?_
            refine lv_topi (fun z_34 ez_34 => ?_)
            refine lv_iload hx hb dX9_goes_147 (lv_at hl 0 rfl) ?_
            refine lv_isub hx hb dX9_goes_149 ?_
            refine lv_topi (fun z_35 ez_35 => ?_)
            refine va_iast hx hb hK hP hD hS 2 0 rfl rfl (vp_in_nI (by omega) (by omega)) dX9_goes_150 (fun H locs hP hD hS => ?_)
            obtain ⟨f_36, ef_36, hP, hD⟩ : ∃ f_36 : Nat → Int32, f_36 = upd (f9_43_1) ((nI (16 + k9_43)) : Int32).toNatClampNeg z_35 ∧ PD D A [(sw_in cT (g 4) 6 f9_43_2), (sw_9 h0 g b0 b5 b6 b7 b8 b9 b10 b11 b12 b13 b14 b17 b18 b19 b23 b24 b25 b26 b27 b29 b31 b32 b33), (sw_in cT (g 0) 288 f_36)] H := ⟨_, rfl, hP, hD⟩
            have qf_36 : PI 288 f_36 := by rw [ef_36]; exact pi_upd (a := ((16 + k9_43 : Nat) : Int)) (b := z_35.toInt) h9_43_1 (nI_toInt (by omega)) (rfl) (by omega) (by unfold OKP; omega)
            have kf_36 : KR f_36 (a0) := KR_upd (a := ((16 + k9_43 : Nat) : Int)) h9_43_2 ef_36 (nI_toInt (by omega)) (by omega) (by unfold NRP; omega)
            have nf_36_1 : (f_36 1).toInt = ((f9_43_1) 1).toInt := by rw [ef_36]; exact congrArg Int32.toInt (upd_ne (a := ((16 + k9_43 : Nat) : Int)) (nI_toInt (by omega)) (by omega) (by omega))
            have nf_36_6 : (f_36 6).toInt = ((f9_43_1) 6).toInt := by rw [ef_36]; exact congrArg Int32.toInt (upd_ne (a := ((16 + k9_43 : Nat) : Int)) (nI_toInt (by omega)) (by omega) (by omega))
            refine lv_aload_n hx hb dX9_goes_151 rfl (lv_at hl 3 rfl) ?_
            refine va_get (D := D) (ci := 9) (v := .ref (g 0)) (C := RX9) (T := TX9) (N := 37) hx hb htg gRX9 hown hK hP 1 rfl rfl 1 (by decide) (htg _ wi_1151) (fun _ h9 => h9) rfl dX9_goes_152 ?_
            refine lv_bipush (v := 80) hx hb dX9_goes_155 (by decide) ?_
            refine lv_iload hx hb dX9_goes_157 (lv_at hl 1 rfl) ?_
            refine lv_iadd hx hb dX9_goes_159 ?_
            refine lv_is (y := nI (80 + k9_43)) (nI_add 80 (k9_43)) ?_
            refine lv_dup2_11 hx hb dX9_goes_160 rfl rfl ?_
            refine va_iald hx hb hK hP 2 0 rfl rfl (vp_in_nI (by omega) (by omega)) dX9_goes_161 ?_
            refine lv_topi (fun z_37 ez_37 => ?_)
            refine lv_iload hx hb dX9_goes_162 (lv_at hl 0 rfl) ?_
            refine lv_iadd hx hb dX9_goes_164 ?_
            refine lv_topi (fun z_38 ez_38 => ?_)
            refine va_iast hx hb hK hP hD hS 2 0 rfl rfl (vp_in_nI (by omega) (by omega)) dX9_goes_165 (fun H locs hP hD hS => ?_)
            obtain ⟨f_39, ef_39, hP, hD⟩ : ∃ f_39 : Nat → Int32, f_39 = upd (f_36) ((nI (80 + k9_43)) : Int32).toNatClampNeg z_38 ∧ PD D A [(sw_in cT (g 4) 6 f9_43_2), (sw_9 h0 g b0 b5 b6 b7 b8 b9 b10 b11 b12 b13 b14 b17 b18 b19 b23 b24 b25 b26 b27 b29 b31 b32 b33), (sw_in cT (g 0) 288 f_39)] H := ⟨_, rfl, hP, hD⟩
            have qf_39 : PI 288 f_39 := by rw [ef_39]; exact pi_upd (a := ((80 + k9_43 : Nat) : Int)) (b := z_38.toInt) qf_36 (nI_toInt (by omega)) (rfl) (by omega) (by unfold OKP; omega)
            have kf_39 : KR f_39 (a0) := KR_upd (a := ((80 + k9_43 : Nat) : Int)) kf_36 ef_39 (nI_toInt (by omega)) (by omega) (by unfold NRP; omega)
            have nf_39_1 : (f_39 1).toInt = ((f_36) 1).toInt := by rw [ef_39]; exact congrArg Int32.toInt (upd_ne (a := ((80 + k9_43 : Nat) : Int)) (nI_toInt (by omega)) (by omega) (by omega))
            have nf_39_6 : (f_39 6).toInt = ((f_36) 6).toInt := by rw [ef_39]; exact congrArg Int32.toInt (upd_ne (a := ((80 + k9_43 : Nat) : Int)) (nI_toInt (by omega)) (by omega) (by omega))
            refine lv_aload_n hx hb dX9_goes_166 rfl (lv_at hl 3 rfl) ?_
            refine va_get (D := D) (ci := 9) (v := .ref (g 4)) (C := RX9) (T := TX9) (N := 37) hx hb htg gRX9 hown hK hP 1 rfl rfl 15 (by decide) (htg _ wi_1165) (fun _ h9 => h9) rfl dX9_goes_167 ?_
            refine lv_aload_n hx hb dX9_goes_170 rfl (lv_at hl 3 rfl) ?_
            refine va_get (D := D) (ci := 9) (v := .ref (g 0)) (C := RX9) (T := TX9) (N := 37) hx hb htg gRX9 hown hK hP 1 rfl rfl 1 (by decide) (htg _ wi_1151) (fun _ h9 => h9) rfl dX9_goes_171 ?_
            refine lv_bipush (v := 64) hx hb dX9_goes_174 (by decide) ?_
            refine lv_iload hx hb dX9_goes_176 (lv_at hl 1 rfl) ?_
            refine lv_iadd hx hb dX9_goes_178 ?_
            refine lv_is (y := nI (64 + k9_43)) (nI_add 64 (k9_43)) ?_
            refine va_iald hx hb hK hP 2 0 rfl rfl (vp_in_nI (by omega) (by omega)) dX9_goes_179 ?_
            refine lv_topi (fun z_40 ez_40 => ?_)
            have iz_40 : 0 ≤ z_40.toInt ∧ z_40.toInt ≤ 5 := by rw [ez_40]; exact rdF qf_39 (by decide) (nI_toInt (by omega)) (by omega)
            refine lv_dup2_11 hx hb dX9_goes_180 rfl rfl ?_
            refine va_iald hx hb hK hP 0 0 rfl rfl (vp_in_iff.mpr (by omega)) dX9_goes_181 ?_
            refine lv_topi (fun z_41 ez_41 => ?_)
            refine lv_iload hx hb dX9_goes_182 (lv_at hl 0 rfl) ?_
            refine lv_iadd hx hb dX9_goes_184 ?_
            refine lv_topi (fun z_42 ez_42 => ?_)
            refine va_iast hx hb hK hP hD hS 0 0 rfl rfl (vp_in_iff.mpr (by omega)) dX9_goes_185 (fun H locs hP hD hS => ?_)
            obtain ⟨f_43, hP, hD⟩ : ∃ f_43 : Nat → Int32, PD D A [(sw_in cT (g 4) 6 f_43), (sw_9 h0 g b0 b5 b6 b7 b8 b9 b10 b11 b12 b13 b14 b17 b18 b19 b23 b24 b25 b26 b27 b29 b31 b32 b33), (sw_in cT (g 0) 288 f_39)] H := ⟨_, hP, hD⟩
            refine lv_iload_n hx hb dX9_goes_186 rfl (lv_at hl 2 rfl) ?_
            refine lv_iload hx hb dX9_goes_187 (lv_at hl 0 rfl) ?_
            refine lv_iadd hx hb dX9_goes_189 ?_
            refine lv_topi (fun z_44 ez_44 => ?_)
            refine lv_istore_n (lv' := [(3, .int z_44), (5, .int z_33), (4, .int (nI k9_43)), (0, .ref h0), (1, .int x), (2, .int y)]) hx hb dX9_goes_190 rfl hl (by decide) rfl (fun ls hl => ?_)
            refine lv_iinc (v := (nI (k9_43 + 1))) (lv' := [(4, .int (nI (k9_43 + 1))), (3, .int z_44), (5, .int z_33), (0, .ref h0), (1, .int x), (2, .int y)]) hx hb dX9_goes_191 hl (k := 2) rfl (by exact nI_1 (k9_43)) (by decide) rfl (fun ls hl => ?_)
            refine lv_goto (tgt := 43) hx hb dX9_goes_194 (by decide) ?_
            exact ih_43 (k9_43 + 1) _ _ _ _ _ _ (by omega) (by omega) (by first | assumption | omega | decide | (simp only [ti_0, ti_1, ti_2, ti_3, ti_4, ti_5, ti_6, ti_7, ti_8, ti_9, ti_10, ti_11, ti_12, ti_m1]; omega)) (by first | assumption | omega | decide | (simp only [ti_0, ti_1, ti_2, ti_3, ti_4, ti_5, ti_6, ti_7, ti_8, ti_9, ti_10, ti_11, ti_12, ti_m1]; omega)) (by first | assumption | exact KR_rfl _) ⟨hP.sub [1, 2, 0] rfl, hD.sub [1, 2, 0] (by decide) rfl⟩ hS (lv_sub hl [0, 1, 3, 4, 5] rfl)
        · have ic_19 : z_18.toInt < r_17.toInt := inle c_19 (rfl) (rfl)
          refine lv_aload_n hx hb dX9_goes_87 rfl (lv_at hl 3 rfl) ?_
          refine va_get (D := D) (ci := 9) (v := .ref (g 0)) (C := RX9) (T := TX9) (N := 37) hx hb htg gRX9 hown hK hP 1 rfl rfl 1 (by decide) (htg _ wi_1151) (fun _ h9 => h9) rfl dX9_goes_88 ?_
          refine lv_bipush (v := 32) hx hb dX9_goes_91 (by decide) ?_
          refine lv_iload hx hb dX9_goes_93 (lv_at hl 1 rfl) ?_
          refine lv_iadd hx hb dX9_goes_95 ?_
          refine lv_is (y := nI (32 + k9_43)) (nI_add 32 (k9_43)) ?_
          refine va_iald hx hb hK hP 2 0 rfl rfl (vp_in_nI (by omega) (by omega)) dX9_goes_96 ?_
          refine lv_topi (fun z_45 ez_45 => ?_)
          refine lv_goto (tgt := 102) hx hb dX9_goes_97 (by decide) ?_
          refine lv_istore (lv' := [(5, .int z_45), (4, .int (nI k9_43)), (3, .int x9_43_3), (0, .ref h0), (1, .int x), (2, .int y)]) hx hb dX9_goes_102 hl (by decide) rfl (fun ls hl => ?_)
          refine lv_aload_n hx hb dX9_goes_104 rfl (lv_at hl 3 rfl) ?_
          refine va_get (D := D) (ci := 9) (v := .ref (g 0)) (C := RX9) (T := TX9) (N := 37) hx hb htg gRX9 hown hK hP 1 rfl rfl 1 (by decide) (htg _ wi_1151) (fun _ h9 => h9) rfl dX9_goes_105 ?_
          refine lv_bipush (v := 16) hx hb dX9_goes_108 (by decide) ?_
          refine lv_iload hx hb dX9_goes_110 (lv_at hl 1 rfl) ?_
          refine lv_iadd hx hb dX9_goes_112 ?_
          refine lv_is (y := nI (16 + k9_43)) (nI_add 16 (k9_43)) ?_
          refine va_iald hx hb hK hP 2 0 rfl rfl (vp_in_nI (by omega) (by omega)) dX9_goes_113 ?_
          refine lv_topi (fun z_46 ez_46 => ?_)
          refine lv_iload hx hb dX9_goes_114 (lv_at hl 0 rfl) ?_
          refine lv_icmp_ge (tgt := 132) hx hb dX9_goes_116 (by decide) (fun c_47 => ?_) (fun c_47 => ?_)
          · have ic_47 : z_45.toInt ≤ z_46.toInt := ile c_47 (rfl) (rfl)
            refine lv_iload hx hb dX9_goes_132 (lv_at hl 0 rfl) ?_
            refine lv_istore (lv' := [(5, .int z_45), (4, .int (nI k9_43)), (3, .int x9_43_3), (0, .ref h0), (1, .int x), (2, .int y)]) hx hb dX9_goes_134 hl (by decide) rfl (fun ls hl => ?_)
            refine lv_aload_n hx hb dX9_goes_136 rfl (lv_at hl 3 rfl) ?_
            refine va_get (D := D) (ci := 9) (v := .ref (g 0)) (C := RX9) (T := TX9) (N := 37) hx hb htg gRX9 hown hK hP 1 rfl rfl 1 (by decide) (htg _ wi_1151) (fun _ h9 => h9) rfl dX9_goes_137 ?_
            refine lv_bipush (v := 16) hx hb dX9_goes_140 (by decide) ?_
            refine lv_iload hx hb dX9_goes_142 (lv_at hl 1 rfl) ?_
            refine lv_iadd hx hb dX9_goes_144 ?_
            refine lv_is (y := nI (16 + k9_43)) (nI_add 16 (k9_43)) ?_
            refine lv_dup2_11 hx hb dX9_goes_145 rfl rfl ?_
            refine va_iald hx hb hK hP 2 0 rfl rfl (vp_in_nI (by omega) (by omega)) dX9_goes_146 ?_
            refine lv_topi (fun z_48 ez_48 => ?_)
            refine lv_iload hx hb dX9_goes_147 (lv_at hl 0 rfl) ?_
            refine lv_isub hx hb dX9_goes_149 ?_
            refine lv_topi (fun z_49 ez_49 => ?_)
            refine va_iast hx hb hK hP hD hS 2 0 rfl rfl (vp_in_nI (by omega) (by omega)) dX9_goes_150 (fun H locs hP hD hS => ?_)
            obtain ⟨f_50, ef_50, hP, hD⟩ : ∃ f_50 : Nat → Int32, f_50 = upd (f9_43_1) ((nI (16 + k9_43)) : Int32).toNatClampNeg z_49 ∧ PD D A [(sw_in cT (g 4) 6 f9_43_2), (sw_9 h0 g b0 b5 b6 b7 b8 b9 b10 b11 b12 b13 b14 b17 b18 b19 b23 b24 b25 b26 b27 b29 b31 b32 b33), (sw_in cT (g 0) 288 f_50)] H := ⟨_, rfl, hP, hD⟩
            have qf_50 : PI 288 f_50 := by rw [ef_50]; exact pi_upd (a := ((16 + k9_43 : Nat) : Int)) (b := z_49.toInt) h9_43_1 (nI_toInt (by omega)) (rfl) (by omega) (by unfold OKP; omega)
            have kf_50 : KR f_50 (a0) := KR_upd (a := ((16 + k9_43 : Nat) : Int)) h9_43_2 ef_50 (nI_toInt (by omega)) (by omega) (by unfold NRP; omega)
            have nf_50_1 : (f_50 1).toInt = ((f9_43_1) 1).toInt := by rw [ef_50]; exact congrArg Int32.toInt (upd_ne (a := ((16 + k9_43 : Nat) : Int)) (nI_toInt (by omega)) (by omega) (by omega))
            have nf_50_6 : (f_50 6).toInt = ((f9_43_1) 6).toInt := by rw [ef_50]; exact congrArg Int32.toInt (upd_ne (a := ((16 + k9_43 : Nat) : Int)) (nI_toInt (by omega)) (by omega) (by omega))
            refine lv_aload_n hx hb dX9_goes_151 rfl (lv_at hl 3 rfl) ?_
            refine va_get (D := D) (ci := 9) (v := .ref (g 0)) (C := RX9) (T := TX9) (N := 37) hx hb htg gRX9 hown hK hP 1 rfl rfl 1 (by decide) (htg _ wi_1151) (fun _ h9 => h9) rfl dX9_goes_152 ?_
            refine lv_bipush (v := 80) hx hb dX9_goes_155 (by decide) ?_
            refine lv_iload hx hb dX9_goes_157 (lv_at hl 1 rfl) ?_
            refine lv_iadd hx hb dX9_goes_159 ?_
            refine lv_is (y := nI (80 + k9_43)) (nI_add 80 (k9_43)) ?_
            refine lv_dup2_11 hx hb dX9_goes_160 rfl rfl ?_
            refine va_iald hx hb hK hP 2 0 rfl rfl (vp_in_nI (by omega) (by omega)) dX9_goes_161 ?_
            refine lv_topi (fun z_51 ez_51 => ?_)
            refine lv_iload hx hb dX9_goes_162 (lv_at hl 0 rfl) ?_
            refine lv_iadd hx hb dX9_goes_164 ?_
            refine lv_topi (fun z_52 ez_52 => ?_)
            refine va_iast hx hb hK hP hD hS 2 0 rfl rfl (vp_in_nI (by omega) (by omega)) dX9_goes_165 (fun H locs hP hD hS => ?_)
            obtain ⟨f_53, ef_53, hP, hD⟩ : ∃ f_53 : Nat → Int32, f_53 = upd (f_50) ((nI (80 + k9_43)) : Int32).toNatClampNeg z_52 ∧ PD D A [(sw_in cT (g 4) 6 f9_43_2), (sw_9 h0 g b0 b5 b6 b7 b8 b9 b10 b11 b12 b13 b14 b17 b18 b19 b23 b24 b25 b26 b27 b29 b31 b32 b33), (sw_in cT (g 0) 288 f_53)] H := ⟨_, rfl, hP, hD⟩
            have qf_53 : PI 288 f_53 := by rw [ef_53]; exact pi_upd (a := ((80 + k9_43 : Nat) : Int)) (b := z_52.toInt) qf_50 (nI_toInt (by omega)) (rfl) (by omega) (by unfold OKP; omega)
            have kf_53 : KR f_53 (a0) := KR_upd (a := ((80 + k9_43 : Nat) : Int)) kf_50 ef_53 (nI_toInt (by omega)) (by omega) (by unfold NRP; omega)
            have nf_53_1 : (f_53 1).toInt = ((f_50) 1).toInt := by rw [ef_53]; exact congrArg Int32.toInt (upd_ne (a := ((80 + k9_43 : Nat) : Int)) (nI_toInt (by omega)) (by omega) (by omega))
            have nf_53_6 : (f_53 6).toInt = ((f_50) 6).toInt := by rw [ef_53]; exact congrArg Int32.toInt (upd_ne (a := ((80 + k9_43 : Nat) : Int)) (nI_toInt (by omega)) (by omega) (by omega))
            refine lv_aload_n hx hb dX9_goes_166 rfl (lv_at hl 3 rfl) ?_
            refine va_get (D := D) (ci := 9) (v := .ref (g 4)) (C := RX9) (T := TX9) (N := 37) hx hb htg gRX9 hown hK hP 1 rfl rfl 15 (by decide) (htg _ wi_1165) (fun _ h9 => h9) rfl dX9_goes_167 ?_
            refine lv_aload_n hx hb dX9_goes_170 rfl (lv_at hl 3 rfl) ?_
            refine va_get (D := D) (ci := 9) (v := .ref (g 0)) (C := RX9) (T := TX9) (N := 37) hx hb htg gRX9 hown hK hP 1 rfl rfl 1 (by decide) (htg _ wi_1151) (fun _ h9 => h9) rfl dX9_goes_171 ?_
            refine lv_bipush (v := 64) hx hb dX9_goes_174 (by decide) ?_
            refine lv_iload hx hb dX9_goes_176 (lv_at hl 1 rfl) ?_
            refine lv_iadd hx hb dX9_goes_178 ?_
            refine lv_is (y := nI (64 + k9_43)) (nI_add 64 (k9_43)) ?_
            refine va_iald hx hb hK hP 2 0 rfl rfl (vp_in_nI (by omega) (by omega)) dX9_goes_179 ?_
            refine lv_topi (fun z_54 ez_54 => ?_)
            have iz_54 : 0 ≤ z_54.toInt ∧ z_54.toInt ≤ 5 := by rw [ez_54]; exact rdF qf_53 (by decide) (nI_toInt (by omega)) (by omega)
            refine lv_dup2_11 hx hb dX9_goes_180 rfl rfl ?_
            refine va_iald hx hb hK hP 0 0 rfl rfl (vp_in_iff.mpr (by omega)) dX9_goes_181 ?_
            refine lv_topi (fun z_55 ez_55 => ?_)
            refine lv_iload hx hb dX9_goes_182 (lv_at hl 0 rfl) ?_
            refine lv_iadd hx hb dX9_goes_184 ?_
            refine lv_topi (fun z_56 ez_56 => ?_)
            refine va_iast hx hb hK hP hD hS 0 0 rfl rfl (vp_in_iff.mpr (by omega)) dX9_goes_185 (fun H locs hP hD hS => ?_)
            obtain ⟨f_57, hP, hD⟩ : ∃ f_57 : Nat → Int32, PD D A [(sw_in cT (g 4) 6 f_57), (sw_9 h0 g b0 b5 b6 b7 b8 b9 b10 b11 b12 b13 b14 b17 b18 b19 b23 b24 b25 b26 b27 b29 b31 b32 b33), (sw_in cT (g 0) 288 f_53)] H := ⟨_, hP, hD⟩
            refine lv_iload_n hx hb dX9_goes_186 rfl (lv_at hl 2 rfl) ?_
            refine lv_iload hx hb dX9_goes_187 (lv_at hl 0 rfl) ?_
            refine lv_iadd hx hb dX9_goes_189 ?_
            refine lv_topi (fun z_58 ez_58 => ?_)
            refine lv_istore_n (lv' := [(3, .int z_58), (5, .int z_45), (4, .int (nI k9_43)), (0, .ref h0), (1, .int x), (2, .int y)]) hx hb dX9_goes_190 rfl hl (by decide) rfl (fun ls hl => ?_)
            refine lv_iinc (v := (nI (k9_43 + 1))) (lv' := [(4, .int (nI (k9_43 + 1))), (3, .int z_58), (5, .int z_45), (0, .ref h0), (1, .int x), (2, .int y)]) hx hb dX9_goes_191 hl (k := 2) rfl (by exact nI_1 (k9_43)) (by decide) rfl (fun ls hl => ?_)
            refine lv_goto (tgt := 43) hx hb dX9_goes_194 (by decide) ?_
            exact ih_43 (k9_43 + 1) _ _ _ _ _ _ (by omega) (by omega) (by first | assumption | omega | decide | (simp only [ti_0, ti_1, ti_2, ti_3, ti_4, ti_5, ti_6, ti_7, ti_8, ti_9, ti_10, ti_11, ti_12, ti_m1]; omega)) (by first | assumption | omega | decide | (simp only [ti_0, ti_1, ti_2, ti_3, ti_4, ti_5, ti_6, ti_7, ti_8, ti_9, ti_10, ti_11, ti_12, ti_m1]; omega)) (by first | assumption | exact KR_rfl _) ⟨hP.sub [1, 2, 0] rfl, hD.sub [1, 2, 0] (by decide) rfl⟩ hS (lv_sub hl [0, 1, 3, 4, 5] rfl)
          · have ic_47 : z_46.toInt < z_45.toInt := inle c_47 (rfl) (rfl)
            refine lv_aload_n hx hb dX9_goes_119 rfl (lv_at hl 3 rfl) ?_
            refine va_get (D := D) (ci := 9) (v := .ref (g 0)) (C := RX9) (T := TX9) (N := 37) hx hb htg gRX9 hown hK hP 1 rfl rfl 1 (by decide) (htg _ wi_1151) (fun _ h9 => h9) rfl dX9_goes_120 ?_
            refine lv_bipush (v := 16) hx hb dX9_goes_123 (by decide) ?_
            refine lv_iload hx hb dX9_goes_125 (lv_at hl 1 rfl) ?_
            refine lv_iadd hx hb dX9_goes_127 ?_
            refine lv_is (y := nI (16 + k9_43)) (nI_add 16 (k9_43)) ?_
            refine va_iald hx hb hK hP 2 0 rfl rfl (vp_in_nI (by omega) (by omega)) dX9_goes_128 ?_
            refine lv_topi (fun z_59 ez_59 => ?_)
            refine lv_goto (tgt := 134) hx hb dX9_goes_129 (by decide) ?_
            refine lv_istore (lv' := [(5, .int z_59), (4, .int (nI k9_43)), (3, .int x9_43_3), (0, .ref h0), (1, .int x), (2, .int y)]) hx hb dX9_goes_134 hl (by decide) rfl (fun ls hl => ?_)
            refine lv_aload_n hx hb dX9_goes_136 rfl (lv_at hl 3 rfl) ?_
            refine va_get (D := D) (ci := 9) (v := .ref (g 0)) (C := RX9) (T := TX9) (N := 37) hx hb htg gRX9 hown hK hP 1 rfl rfl 1 (by decide) (htg _ wi_1151) (fun _ h9 => h9) rfl dX9_goes_137 ?_
            refine lv_bipush (v := 16) hx hb dX9_goes_140 (by decide) ?_
            refine lv_iload hx hb dX9_goes_142 (lv_at hl 1 rfl) ?_
            refine lv_iadd hx hb dX9_goes_144 ?_
            refine lv_is (y := nI (16 + k9_43)) (nI_add 16 (k9_43)) ?_
            refine lv_dup2_11 hx hb dX9_goes_145 rfl rfl ?_
            refine va_iald hx hb hK hP 2 0 rfl rfl (vp_in_nI (by omega) (by omega)) dX9_goes_146 ?_
            refine lv_topi (fun z_60 ez_60 => ?_)
            refine lv_iload hx hb dX9_goes_147 (lv_at hl 0 rfl) ?_
            refine lv_isub hx hb dX9_goes_149 ?_
            refine lv_topi (fun z_61 ez_61 => ?_)
            refine va_iast hx hb hK hP hD hS 2 0 rfl rfl (vp_in_nI (by omega) (by omega)) dX9_goes_150 (fun H locs hP hD hS => ?_)
            obtain ⟨f_62, ef_62, hP, hD⟩ : ∃ f_62 : Nat → Int32, f_62 = upd (f9_43_1) ((nI (16 + k9_43)) : Int32).toNatClampNeg z_61 ∧ PD D A [(sw_in cT (g 4) 6 f9_43_2), (sw_9 h0 g b0 b5 b6 b7 b8 b9 b10 b11 b12 b13 b14 b17 b18 b19 b23 b24 b25 b26 b27 b29 b31 b32 b33), (sw_in cT (g 0) 288 f_62)] H := ⟨_, rfl, hP, hD⟩
            have qf_62 : PI 288 f_62 := by rw [ef_62]; exact pi_upd (a := ((16 + k9_43 : Nat) : Int)) (b := z_61.toInt) h9_43_1 (nI_toInt (by omega)) (rfl) (by omega) (by unfold OKP; omega)
            have kf_62 : KR f_62 (a0) := KR_upd (a := ((16 + k9_43 : Nat) : Int)) h9_43_2 ef_62 (nI_toInt (by omega)) (by omega) (by unfold NRP; omega)
            have nf_62_1 : (f_62 1).toInt = ((f9_43_1) 1).toInt := by rw [ef_62]; exact congrArg Int32.toInt (upd_ne (a := ((16 + k9_43 : Nat) : Int)) (nI_toInt (by omega)) (by omega) (by omega))
            have nf_62_6 : (f_62 6).toInt = ((f9_43_1) 6).toInt := by rw [ef_62]; exact congrArg Int32.toInt (upd_ne (a := ((16 + k9_43 : Nat) : Int)) (nI_toInt (by omega)) (by omega) (by omega))
            refine lv_aload_n hx hb dX9_goes_151 rfl (lv_at hl 3 rfl) ?_
            refine va_get (D := D) (ci := 9) (v := .ref (g 0)) (C := RX9) (T := TX9) (N := 37) hx hb htg gRX9 hown hK hP 1 rfl rfl 1 (by decide) (htg _ wi_1151) (fun _ h9 => h9) rfl dX9_goes_152 ?_
            refine lv_bipush (v := 80) hx hb dX9_goes_155 (by decide) ?_
            refine lv_iload hx hb dX9_goes_157 (lv_at hl 1 rfl) ?_
            refine lv_iadd hx hb dX9_goes_159 ?_
            refine lv_is (y := nI (80 + k9_43)) (nI_add 80 (k9_43)) ?_
            refine lv_dup2_11 hx hb dX9_goes_160 rfl rfl ?_
            refine va_iald hx hb hK hP 2 0 rfl rfl (vp_in_nI (by omega) (by omega)) dX9_goes_161 ?_
            refine lv_topi (fun z_63 ez_63 => ?_)
            refine lv_iload hx hb dX9_goes_162 (lv_at hl 0 rfl) ?_
            refine lv_iadd hx hb dX9_goes_164 ?_
            refine lv_topi (fun z_64 ez_64 => ?_)
            refine va_iast hx hb hK hP hD hS 2 0 rfl rfl (vp_in_nI (by omega) (by omega)) dX9_goes_165 (fun H locs hP hD hS => ?_)
            obtain ⟨f_65, ef_65, hP, hD⟩ : ∃ f_65 : Nat → Int32, f_65 = upd (f_62) ((nI (80 + k9_43)) : Int32).toNatClampNeg z_64 ∧ PD D A [(sw_in cT (g 4) 6 f9_43_2), (sw_9 h0 g b0 b5 b6 b7 b8 b9 b10 b11 b12 b13 b14 b17 b18 b19 b23 b24 b25 b26 b27 b29 b31 b32 b33), (sw_in cT (g 0) 288 f_65)] H := ⟨_, rfl, hP, hD⟩
            have qf_65 : PI 288 f_65 := by rw [ef_65]; exact pi_upd (a := ((80 + k9_43 : Nat) : Int)) (b := z_64.toInt) qf_62 (nI_toInt (by omega)) (rfl) (by omega) (by unfold OKP; omega)
            have kf_65 : KR f_65 (a0) := KR_upd (a := ((80 + k9_43 : Nat) : Int)) kf_62 ef_65 (nI_toInt (by omega)) (by omega) (by unfold NRP; omega)
            have nf_65_1 : (f_65 1).toInt = ((f_62) 1).toInt := by rw [ef_65]; exact congrArg Int32.toInt (upd_ne (a := ((80 + k9_43 : Nat) : Int)) (nI_toInt (by omega)) (by omega) (by omega))
            have nf_65_6 : (f_65 6).toInt = ((f_62) 6).toInt := by rw [ef_65]; exact congrArg Int32.toInt (upd_ne (a := ((80 + k9_43 : Nat) : Int)) (nI_toInt (by omega)) (by omega) (by omega))
            refine lv_aload_n hx hb dX9_goes_166 rfl (lv_at hl 3 rfl) ?_
            refine va_get (D := D) (ci := 9) (v := .ref (g 4)) (C := RX9) (T := TX9) (N := 37) hx hb htg gRX9 hown hK hP 1 rfl rfl 15 (by decide) (htg _ wi_1165) (fun _ h9 => h9) rfl dX9_goes_167 ?_
            refine lv_aload_n hx hb dX9_goes_170 rfl (lv_at hl 3 rfl) ?_
            refine va_get (D := D) (ci := 9) (v := .ref (g 0)) (C := RX9) (T := TX9) (N := 37) hx hb htg gRX9 hown hK hP 1 rfl rfl 1 (by decide) (htg _ wi_1151) (fun _ h9 => h9) rfl dX9_goes_171 ?_
            refine lv_bipush (v := 64) hx hb dX9_goes_174 (by decide) ?_
            refine lv_iload hx hb dX9_goes_176 (lv_at hl 1 rfl) ?_
            refine lv_iadd hx hb dX9_goes_178 ?_
            refine lv_is (y := nI (64 + k9_43)) (nI_add 64 (k9_43)) ?_
            refine va_iald hx hb hK hP 2 0 rfl rfl (vp_in_nI (by omega) (by omega)) dX9_goes_179 ?_
            refine lv_topi (fun z_66 ez_66 => ?_)
            have iz_66 : 0 ≤ z_66.toInt ∧ z_66.toInt ≤ 5 := by rw [ez_66]; exact rdF qf_65 (by decide) (nI_toInt (by omega)) (by omega)
            refine lv_dup2_11 hx hb dX9_goes_180 rfl rfl ?_
            refine va_iald hx hb hK hP 0 0 rfl rfl (vp_in_iff.mpr (by omega)) dX9_goes_181 ?_
            refine lv_topi (fun z_67 ez_67 => ?_)
            refine lv_iload hx hb dX9_goes_182 (lv_at hl 0 rfl) ?_
            refine lv_iadd hx hb dX9_goes_184 ?_
            refine lv_topi (fun z_68 ez_68 => ?_)
            refine va_iast hx hb hK hP hD hS 0 0 rfl rfl (vp_in_iff.mpr (by omega)) dX9_goes_185 (fun H locs hP hD hS => ?_)
            obtain ⟨f_69, hP, hD⟩ : ∃ f_69 : Nat → Int32, PD D A [(sw_in cT (g 4) 6 f_69), (sw_9 h0 g b0 b5 b6 b7 b8 b9 b10 b11 b12 b13 b14 b17 b18 b19 b23 b24 b25 b26 b27 b29 b31 b32 b33), (sw_in cT (g 0) 288 f_65)] H := ⟨_, hP, hD⟩
            refine lv_iload_n hx hb dX9_goes_186 rfl (lv_at hl 2 rfl) ?_
            refine lv_iload hx hb dX9_goes_187 (lv_at hl 0 rfl) ?_
            refine lv_iadd hx hb dX9_goes_189 ?_
            refine lv_topi (fun z_70 ez_70 => ?_)
            refine lv_istore_n (lv' := [(3, .int z_70), (5, .int z_59), (4, .int (nI k9_43)), (0, .ref h0), (1, .int x), (2, .int y)]) hx hb dX9_goes_190 rfl hl (by decide) rfl (fun ls hl => ?_)
            refine lv_iinc (v := (nI (k9_43 + 1))) (lv' := [(4, .int (nI (k9_43 + 1))), (3, .int z_70), (5, .int z_59), (0, .ref h0), (1, .int x), (2, .int y)]) hx hb dX9_goes_191 hl (k := 2) rfl (by exact nI_1 (k9_43)) (by decide) rfl (fun ls hl => ?_)
            refine lv_goto (tgt := 43) hx hb dX9_goes_194 (by decide) ?_
            exact ih_43 (k9_43 + 1) _ _ _ _ _ _ (by omega) (by omega) (by first | assumption | omega | decide | (simp only [ti_0, ti_1, ti_2, ti_3, ti_4, ti_5, ti_6, ti_7, ti_8, ti_9, ti_10, ti_11, ti_12, ti_m1]; omega)) (by first | assumption | omega | decide | (simp only [ti_0, ti_1, ti_2, ti_3, ti_4, ti_5, ti_6, ti_7, ti_8, ti_9, ti_10, ti_11, ti_12, ti_m1]; omega)) (by first | assumption | exact KR_rfl _) ⟨hP.sub [1, 2, 0] rfl, hD.sub [1, 2, 0] (by decide) rfl⟩ hS (lv_sub hl [0, 1, 3, 4, 5] rfl)
