set_option maxHeartbeats 4000000 in
set_option maxRecDepth 100000 in
theorem m_offX (l : Launch) (D : va_G) (cT : Nat → ClassId) (sz : Nat) (x : Int32) (y : Int32) (hx99 : -99 ≤ x.toInt ∧ x.toInt ≤ 99) (hy99 : -99 ≤ y.toInt ∧ y.toInt ≤ 99) : Met l yX9_off (wsc yX9_off cX9_off 2 (some .int)) { frames := 2, cells := 0, slots := 0, locals := 100 } (va_Pc [.int x, .int y] (PX D cT sz [])) (va_Qi (fun (r : Int32) (u : Unit) => (r.toInt = dI x.toInt y.toInt) ∧ (True)) (fun u t => RW D (va_A [] sz) ((fun _ : Unit => []) u) t) (va_A [] sz)) 0 0 (va_A [] sz) := by
  refine m_of (y := yX9_off) (cc := cX9_off) (nL := 2) (ret := (some .int)) (D := D) (cT := cT) (av := [.int x, .int y]) (wi := []) (fun A => va_Qi (fun (r : Int32) (u : Unit) => (r.toInt = dI x.toInt y.toInt) ∧ (True)) (fun u t => RW D A ((fun _ : Unit => []) u) t) A) (by decide) (Nat.le_of_ble_eq_true rfl) ?_
  intro p e s m below meth c A hx hb hml hown htg hK hN hr hlk hnm hsz hP hD hS hA ls hl
  have hown : s.vm.findClass RX9 = some m.cls := hown
  have hl : lv_has ls 2 [(0, .int x), (1, .int y)] := hl
  refine lv_iload_n hx hb dX9_off_0 rfl (lv_at hl 0 rfl) ?_
  refine lv_iload_n hx hb dX9_off_1 rfl (lv_at hl 1 rfl) ?_
  refine lv_icmp_le (tgt := 11) hx hb dX9_off_2 (by decide) (fun c_1 => ?_) (fun c_1 => ?_)
  · have ic_1 : x.toInt ≤ y.toInt := ile c_1 (rfl) (rfl)
    refine lv_iload_n hx hb dX9_off_11 rfl (lv_at hl 1 rfl) ?_
    refine lv_iload_n hx hb dX9_off_12 rfl (lv_at hl 0 rfl) ?_
    refine lv_isub hx hb dX9_off_13 ?_
    refine lv_topi (fun z_2 ez_2 => ?_)
    have iz_2 : z_2.toInt = y.toInt - x.toInt := toInt_subI ez_2 (rfl) (rfl) (by omega)
    exact x_iret hx hb hr hlk hP hD hS [] (()) rfl (by decide) ⟨(by unfold dI; split <;> omega), trivial⟩ (by decide) (by decide) dX9_off_14
  · have ic_1 : y.toInt < x.toInt := inle c_1 (rfl) (rfl)
    refine lv_iload_n hx hb dX9_off_5 rfl (lv_at hl 0 rfl) ?_
    refine lv_iload_n hx hb dX9_off_6 rfl (lv_at hl 1 rfl) ?_
    refine lv_isub hx hb dX9_off_7 ?_
    refine lv_topi (fun z_3 ez_3 => ?_)
    have iz_3 : z_3.toInt = x.toInt - y.toInt := toInt_subI ez_3 (rfl) (rfl) (by omega)
    refine lv_goto (tgt := 14) hx hb dX9_off_8 (by decide) ?_
    exact x_iret hx hb hr hlk hP hD hS [] (()) rfl (by decide) ⟨(by unfold dI; split <;> omega), trivial⟩ (by decide) (by decide) dX9_off_14
set_option maxHeartbeats 4000000 in
set_option maxRecDepth 100000 in
theorem m_nearnessX (l : Launch) (D : va_G) (cT : Nat → ClassId) (sz : Nat) (h0 : Nat) (g : Nat → Nat) (b0 : Int32) (b5 : Int32) (b6 : Int32) (b7 : Int32) (b8 : Int32) (b9 : Int32) (b10 : Int32) (b11 : Int32) (b12 : Int32) (b13 : Int32) (b14 : Int32) (b17 : Int32) (b18 : Int32) (b19 : Int32) (b23 : Int32) (b24 : Int32) (b25 : Int32) (b26 : Int32) (b27 : Int32) (b29 : Int32) (b31 : Int32) (b32 : Int32) (b33 : Int32) (hb5 : 0 ≤ b5.toInt ∧ b5.toInt ≤ 900) (a0 : Nat → Int32) (pa0 : PI 288 a0) (x : Int32) (y : Int32) (hxx : 0 ≤ x.toInt ∧ x.toInt ≤ 15) (hyy : 0 ≤ y.toInt ∧ y.toInt ≤ 15) : Met l yX9_nearness (wsc yX9_nearness cX9_nearness 4 (some .int)) { frames := 3, cells := 0, slots := 0, locals := 121 } (va_Pc [.ref h0, .int x, .int y] (PX D cT sz [(sw_9 h0 g b0 b5 b6 b7 b8 b9 b10 b11 b12 b13 b14 b17 b18 b19 b23 b24 b25 b26 b27 b29 b31 b32 b33), (sw_in cT (g 0) 288 a0)])) (va_Qi (fun (r : Int32) (u : Unit) => (r.toInt = unl (a0 4) (a0 5) x.toInt y.toInt) ∧ (True)) (fun u t => RW D (va_A [(sw_9 h0 g b0 b5 b6 b7 b8 b9 b10 b11 b12 b13 b14 b17 b18 b19 b23 b24 b25 b26 b27 b29 b31 b32 b33), (sw_in cT (g 0) 288 a0)] sz) ((fun _ : Unit => [(sw_9 h0 g b0 b5 b6 b7 b8 b9 b10 b11 b12 b13 b14 b17 b18 b19 b23 b24 b25 b26 b27 b29 b31 b32 b33), (sw_in cT (g 0) 288 a0)]) u) t) (va_A [(sw_9 h0 g b0 b5 b6 b7 b8 b9 b10 b11 b12 b13 b14 b17 b18 b19 b23 b24 b25 b26 b27 b29 b31 b32 b33), (sw_in cT (g 0) 288 a0)] sz)) 0 0 (va_A [(sw_9 h0 g b0 b5 b6 b7 b8 b9 b10 b11 b12 b13 b14 b17 b18 b19 b23 b24 b25 b26 b27 b29 b31 b32 b33), (sw_in cT (g 0) 288 a0)] sz) := by
  refine m_of (y := yX9_nearness) (cc := cX9_nearness) (nL := 4) (ret := (some .int)) (D := D) (cT := cT) (av := [.ref h0, .int x, .int y]) (wi := [(sw_9 h0 g b0 b5 b6 b7 b8 b9 b10 b11 b12 b13 b14 b17 b18 b19 b23 b24 b25 b26 b27 b29 b31 b32 b33), (sw_in cT (g 0) 288 a0)]) (fun A => va_Qi (fun (r : Int32) (u : Unit) => (r.toInt = unl (a0 4) (a0 5) x.toInt y.toInt) ∧ (True)) (fun u t => RW D A ((fun _ : Unit => [(sw_9 h0 g b0 b5 b6 b7 b8 b9 b10 b11 b12 b13 b14 b17 b18 b19 b23 b24 b25 b26 b27 b29 b31 b32 b33), (sw_in cT (g 0) 288 a0)]) u) t) A) (by decide) (Nat.le_of_ble_eq_true rfl) ?_
  intro p e s m below meth c A hx hb hml hown htg hK hN hr hlk hnm hsz hP hD hS hA ls hl
  have hown : s.vm.findClass RX9 = some m.cls := hown
  have hl : lv_has ls 4 [(0, .ref h0), (1, .int x), (2, .int y)] := hl
  have tc_0 : (0 : Int32).toInt = 0 := by decide
  have tc_4 : (4 : Int32).toInt = 4 := by decide
  have tc_5 : (5 : Int32).toInt = 5 := by decide
  refine lv_aload_n hx hb dX9_nearness_0 rfl (lv_at hl 0 rfl) ?_
  refine va_get (D := D) (ci := 9) (v := .ref (g 0)) (C := RX9) (T := TX9) (N := 37) hx hb htg gRX9 hown hK hP 0 rfl rfl 1 (by decide) (htg _ wi_1151) (fun _ h9 => h9) rfl dX9_nearness_1 ?_
  refine lv_iconst (v := 4) hx hb dX9_nearness_4 (by decide) ?_
  refine va_iald hx hb hK hP 1 0 rfl rfl (by unfold vp_in; decide) dX9_nearness_5 ?_
  refine lv_topi (fun z_1 ez_1 => ?_)
  have nz_1 : z_1 = a0 4 := ez_1
  refine lv_aload_n hx hb dX9_nearness_6 rfl (lv_at hl 0 rfl) ?_
  refine va_get (D := D) (ci := 9) (v := .ref (g 0)) (C := RX9) (T := TX9) (N := 37) hx hb htg gRX9 hown hK hP 0 rfl rfl 1 (by decide) (htg _ wi_1151) (fun _ h9 => h9) rfl dX9_nearness_7 ?_
  refine lv_iconst (v := 5) hx hb dX9_nearness_10 (by decide) ?_
  refine va_iald hx hb hK hP 1 0 rfl rfl (by unfold vp_in; decide) dX9_nearness_11 ?_
  refine lv_topi (fun z_2 ez_2 => ?_)
  have nz_2 : z_2 = a0 5 := ez_2
  refine lv_iload_n hx hb dX9_nearness_12 rfl (lv_at hl 1 rfl) ?_
  refine lv_iload_n hx hb dX9_nearness_13 rfl (lv_at hl 2 rfl) ?_
  refine xk_i (wr := [(sw_9 h0 g b0 b5 b6 b7 b8 b9 b10 b11 b12 b13 b14 b17 b18 b19 b23 b24 b25 b26 b27 b29 b31 b32 b33), (sw_in cT (g 0) 288 a0)]) (xr_S (n := 2) (As := [.int x, .int y]) (rest := [.int z_2, .int z_1]) ⟨hx, hb, hml, hown, htg⟩ hK hN hP hD hS hA [] rfl (by decide) (m_offX l D cT _ (x) (y) (by first | assumption | omega | decide | exact Or.inl (by decide) | (intro h9; exact absurd h9 (by decide)) | (intro _; omega) | (intro _; assumption) | (intro _; decide)) (by first | assumption | omega | decide | exact Or.inl (by decide) | (intro h9; exact absurd h9 (by decide)) | (intro _; omega) | (intro _; assumption) | (intro _; decide))) wi_1355 wi_1356 wi_131 wi_1357 ⟨rfl, by decide +kernel⟩ ⟨Nat.le_of_ble_eq_true rfl, Nat.le_of_ble_eq_true rfl⟩ rfl hl.1 rfl (Nat.le_of_ble_eq_true rfl) dX9_nearness_14 ⟨Nat.le_of_ble_eq_true rfl, Nat.le_of_ble_eq_true rfl⟩) hP hD hS hA [] [0, 1] rfl rfl (by decide) (by decide) (fun r_4 u_3 H locs hwr_4 hP hD hS => ?_)
  obtain ⟨hP, hD⟩ : PD D A [(sw_9 h0 g b0 b5 b6 b7 b8 b9 b10 b11 b12 b13 b14 b17 b18 b19 b23 b24 b25 b26 b27 b29 b31 b32 b33), (sw_in cT (g 0) 288 a0)] _ := ⟨hP, hD⟩
  have qr_4_0 : r_4.toInt = dI x.toInt y.toInt := hwr_4.1
  have dr_4 : r_4 = Int32.ofInt (dI x.toInt y.toInt) := i3_eq qr_4_0
  refine lv_imul hx hb dX9_nearness_17 ?_
  refine lv_topi (fun z_5 ez_5 => ?_)
  refine lv_isub hx hb dX9_nearness_18 ?_
  refine lv_topi (fun z_6 ez_6 => ?_)
  refine lv_istore_n (lv' := [(3, .int z_6), (0, .ref h0), (1, .int x), (2, .int y)]) hx hb dX9_nearness_19 rfl hl (by decide) rfl (fun ls hl => ?_)
  refine lv_iload_n hx hb dX9_nearness_20 rfl (lv_at hl 0 rfl) ?_
  refine lv_if_ge (tgt := 28) hx hb dX9_nearness_21 (by decide) (fun c_7 => ?_) (fun c_7 => ?_)
  · have ic_7 : 0 ≤ z_6.toInt := ile c_7 (by decide) (rfl)
    refine lv_iload_n hx hb dX9_nearness_28 rfl (lv_at hl 0 rfl) ?_
    exact x_iret hx hb hr hlk hP hD hS [0, 1] (()) rfl (by decide) ⟨(by (try dsimp only); exact unl_of (p5 := a0 4) (p6 := a0 5) dr_4 (show z_5 = _ from by rw [ez_5, nz_2]) (show z_6 = _ from by rw [ez_6, nz_1]) (by omega)), trivial⟩ (by decide) (by decide) dX9_nearness_29
  · have ic_7 : z_6.toInt < 0 := inle c_7 (by decide) (rfl)
    refine lv_iconst (v := 0) hx hb dX9_nearness_24 (by decide) ?_
    refine lv_goto (tgt := 29) hx hb dX9_nearness_25 (by decide) ?_
    exact x_iret hx hb hr hlk hP hD hS [0, 1] (()) rfl (by decide) ⟨(by (try dsimp only); exact unl_of (p5 := a0 4) (p6 := a0 5) dr_4 (show z_5 = _ from by rw [ez_5, nz_2]) (show z_6 = _ from by rw [ez_6, nz_1]) (by omega)), trivial⟩ (by decide) (by decide) dX9_nearness_29
