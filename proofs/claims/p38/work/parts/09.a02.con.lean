set_option maxHeartbeats 4000000 in
set_option maxRecDepth 100000 in
theorem g_renewR (l : Launch) (D : va_G) (cT : Nat → ClassId) (sz : Nat) (h0 : Nat) (b : Nat) (w0 : Int32) (w1 : Int32) (w2 : Int32) (f : Nat → Int64) (x : Int32) (y : Int32) (hy4 : 0 ≤ y.toInt ∧ y.toInt ≤ 40) : Met l yX4_renew (wsc yX4_renew cX4_renew 3 none) { frames := 3, cells := 0, slots := 0, locals := 124 } (va_Pc [.ref h0, .int x, .int y] (PX D cT sz [(sw_4 h0 w0 w1 w2 b), (sw_lo cT b 40 f)])) (va_Qv (fun (u : Int32 × (Nat → Int64)) => (0 ≤ u.1.toInt ∧ u.1.toInt ≤ 40) ∧ (u.1.toInt = y.toInt) ∧ (True)) (fun u t => RW D (va_A [(sw_4 h0 w0 w1 w2 b), (sw_lo cT b 40 f)] sz) ((fun u : Int32 × (Nat → Int64) => [(sw_4 h0 0 x u.1 b), (sw_lo cT b 40 u.2)]) u) t) (va_A [(sw_4 h0 w0 w1 w2 b), (sw_lo cT b 40 f)] sz)) 0 0 (va_A [(sw_4 h0 w0 w1 w2 b), (sw_lo cT b 40 f)] sz) := by
  refine m_of (y := yX4_renew) (cc := cX4_renew) (nL := 3) (ret := none) (D := D) (cT := cT) (av := [.ref h0, .int x, .int y]) (wi := [(sw_4 h0 w0 w1 w2 b), (sw_lo cT b 40 f)]) (fun A => va_Qv (fun (u : Int32 × (Nat → Int64)) => (0 ≤ u.1.toInt ∧ u.1.toInt ≤ 40) ∧ (u.1.toInt = y.toInt) ∧ (True)) (fun u t => RW D A ((fun u : Int32 × (Nat → Int64) => [(sw_4 h0 0 x u.1 b), (sw_lo cT b 40 u.2)]) u) t) A) (by decide) (Nat.le_of_ble_eq_true rfl) ?_
  intro p e s m below meth c A hx hb hml hown htg hK hN hr hlk hnm hsz hP hD hS hA ls hl
  have hown : s.vm.findClass RX4 = some m.cls := hown
  have hl : lv_has ls 3 [(0, .ref h0), (1, .int x), (2, .int y)] := hl
  refine lv_aload_n hx hb dX4_renew_0 rfl (lv_at hl 0 rfl) ?_
  refine lv_iconst (v := 0) hx hb dX4_renew_1 (by decide) ?_
  refine va_put (D := D) (ci := 4) (v := .int 0) (ty := .boolean) (C := RX4) (T := TX4) (N := 4) hx hb htg gRX4 tyX4 tyX4_ok nmX4 hown hK hP hD hS 0 rfl rfl 0 (by decide) (htg _ wi_451) (fun _ h9 => h9) rfl (by decide +kernel) rfl rfl (Nat.le_of_ble_eq_true rfl) dX4_renew_2 (fun H locs hP hD hS => ?_)
  obtain ⟨hP, hD⟩ : PD D A [(sw_4 h0 0 w1 w2 b), (sw_lo cT b 40 f)] _ := ⟨hP, hD⟩
  refine lv_aload_n hx hb dX4_renew_5 rfl (lv_at hl 0 rfl) ?_
  refine lv_iload_n hx hb dX4_renew_6 rfl (lv_at hl 1 rfl) ?_
  refine va_put (D := D) (ci := 4) (v := .int x) (ty := .int) (C := RX4) (T := TX4) (N := 4) hx hb htg gRX4 tyX4 tyX4_ok nmX4 hown hK hP hD hS 0 rfl rfl 1 (by decide) (htg _ wi_453) (fun _ h9 => h9) rfl (by decide +kernel) rfl rfl (Nat.le_of_ble_eq_true rfl) dX4_renew_7 (fun H locs hP hD hS => ?_)
  obtain ⟨hP, hD⟩ : PD D A [(sw_4 h0 0 x w2 b), (sw_lo cT b 40 f)] _ := ⟨hP, hD⟩
  refine lv_aload_n hx hb dX4_renew_10 rfl (lv_at hl 0 rfl) ?_
  refine lv_iconst (v := 0) hx hb dX4_renew_11 (by decide) ?_
  refine lv_iload_n hx hb dX4_renew_12 rfl (lv_at hl 2 rfl) ?_
  refine lv_bipush (v := 40) hx hb dX4_renew_13 (by decide) ?_
  refine va_mmin hx hb (by rw [hml]; exact hl.1.symm) hown (htg _ wi_1101) (htg _ wi_524) (htg _ wi_132) (htg _ wi_525) (Nat.le_of_ble_eq_true rfl) (Nat.le_of_ble_eq_true rfl) (Nat.le_of_ble_eq_true rfl) (Nat.le_of_ble_eq_true rfl) dX4_renew_15 ?_
  refine lv_topi (fun z_1 ez_1 => ?_)
  have iz_1 := minI (a := y.toInt) (b := 40) ez_1 (rfl) (by decide)
  refine va_mmax hx hb (by rw [hml]; exact hl.1.symm) hown (htg _ wi_1102) (htg _ wi_527) (htg _ wi_132) (htg _ wi_528) (Nat.le_of_ble_eq_true rfl) (Nat.le_of_ble_eq_true rfl) (Nat.le_of_ble_eq_true rfl) (Nat.le_of_ble_eq_true rfl) dX4_renew_18 ?_
  refine lv_topi (fun z_2 ez_2 => ?_)
  have iz_2 := maxI (a := 0) (b := z_1.toInt) ez_2 (by decide) (rfl)
  refine va_put (D := D) (ci := 4) (v := .int z_2) (ty := .int) (C := RX4) (T := TX4) (N := 4) hx hb htg gRX4 tyX4 tyX4_ok nmX4 hown hK hP hD hS 0 rfl rfl 2 (by decide) (htg _ wi_454) (fun _ h9 => h9) rfl (by decide +kernel) rfl rfl (Nat.le_of_ble_eq_true rfl) dX4_renew_21 (fun H locs hP hD hS => ?_)
  obtain ⟨hP, hD⟩ : PD D A [(sw_4 h0 0 x z_2 b), (sw_lo cT b 40 f)] _ := ⟨hP, hD⟩
  refine lv_aload_n hx hb dX4_renew_24 rfl (lv_at hl 0 rfl) ?_
  refine va_get (D := D) (ci := 4) (v := .ref b) (C := RX4) (T := TX4) (N := 4) hx hb htg gRX4 hown hK hP 0 rfl rfl 3 (by decide) (htg _ wi_457) (fun _ h9 => h9) rfl dX4_renew_25 ?_
  refine lv_lconst (v := 0) hx hb dX4_renew_28 (by decide) ?_
  refine xk_v (wr := [(sw_4 h0 0 x z_2 b)]) (xr_S (n := 2) (As := [.ref b, .long 0]) (rest := []) ⟨hx, hb, hml, hown, htg⟩ hK hN hP hD hS hA [1] rfl (by decide) (g_fillJ40 l D cT _ (b) (f) (0)) wi_1103 wi_1104 wi_124 wi_1105 ⟨rfl, by decide +kernel⟩ ⟨Nat.le_of_ble_eq_true rfl, Nat.le_of_ble_eq_true rfl⟩ rfl hl.1 rfl (Nat.le_of_ble_eq_true rfl) dX4_renew_29 ⟨Nat.le_of_ble_eq_true rfl, Nat.le_of_ble_eq_true rfl⟩) hP hD hS hA [1] [0] rfl rfl (by decide) (by decide) (fun u_3 H locs hwr_4 hP hD hS => ?_)
  obtain ⟨hP, hD⟩ : PD D A [(sw_4 h0 0 x z_2 b), (sw_lo cT b 40 (fillF (f) 40 (0)))] _ := ⟨hP, hD⟩
  exact x_vret hx hb hr hlk hP hD hS [0, 1] ((z_2, fillF (f) 40 (0))) rfl (by decide) ⟨by (try dsimp only); first | assumption | omega | decide | exact Or.inl (by decide) | (intro h9; exact absurd h9 (by decide)) | (intro _; decide) | (simp only [ti_0, ti_1, ti_2, ti_3, ti_4, ti_5, ti_6, ti_7, ti_8, ti_9, ti_10, ti_11, ti_12, ti_m1]; omega) | (simp only [ti_0, ti_1, ti_2, ti_3, ti_4, ti_5, ti_6, ti_7, ti_8, ti_9, ti_10, ti_11, ti_12, ti_m1]; done), by (try dsimp only); first | assumption | omega | decide | exact Or.inl (by decide) | (intro h9; exact absurd h9 (by decide)) | (intro _; decide) | (simp only [ti_0, ti_1, ti_2, ti_3, ti_4, ti_5, ti_6, ti_7, ti_8, ti_9, ti_10, ti_11, ti_12, ti_m1]; omega) | (simp only [ti_0, ti_1, ti_2, ti_3, ti_4, ti_5, ti_6, ti_7, ti_8, ti_9, ti_10, ti_11, ti_12, ti_m1]; done), trivial⟩ (by decide) (by decide) dX4_renew_32
