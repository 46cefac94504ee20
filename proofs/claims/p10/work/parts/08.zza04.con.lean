set_option maxHeartbeats 4000000 in
set_option maxRecDepth 100000 in
theorem g_unshadedLightX (l : Launch) (D : va_G) (cT : Nat → ClassId) (sz : Nat) (h0 : Nat) (a : Nat → Nat) (p0 : Int32) (p1 : Int32) (p2 : Int32) (p3 : Int32) (p4 : Int32) (p5 : Int32) (p6 : Int32) (p7 : Int32) (p8 : Int32) (p9 : Int32) (x : Int32) (y : Int32) (hxx : 0 ≤ x.toInt ∧ x.toInt ≤ 15) (hyy : 0 ≤ y.toInt ∧ y.toInt ≤ 15) : Met l yX3_unshadedLight (wsc yX3_unshadedLight cX3_unshadedLight 3 (some .int)) { frames := 2, cells := 0, slots := 0, locals := 100 } (va_Pc [.ref h0, .int x, .int y] (PX D cT sz [(sw_3 h0 p0 p1 p2 p3 p4 p5 p6 p7 p8 p9 (a 0) (a 1) (a 2) (a 3) (a 4) (a 5))])) (va_Qi (fun (r : Int32) (u : Unit) => (r.toInt = unl p5 p6 x.toInt y.toInt) ∧ (True)) (fun u t => RW D (va_A [(sw_3 h0 p0 p1 p2 p3 p4 p5 p6 p7 p8 p9 (a 0) (a 1) (a 2) (a 3) (a 4) (a 5))] sz) ((fun _ : Unit => [(sw_3 h0 p0 p1 p2 p3 p4 p5 p6 p7 p8 p9 (a 0) (a 1) (a 2) (a 3) (a 4) (a 5))]) u) t) (va_A [(sw_3 h0 p0 p1 p2 p3 p4 p5 p6 p7 p8 p9 (a 0) (a 1) (a 2) (a 3) (a 4) (a 5))] sz)) 0 0 (va_A [(sw_3 h0 p0 p1 p2 p3 p4 p5 p6 p7 p8 p9 (a 0) (a 1) (a 2) (a 3) (a 4) (a 5))] sz) := by
  refine m_of (y := yX3_unshadedLight) (cc := cX3_unshadedLight) (nL := 3) (ret := (some .int)) (D := D) (cT := cT) (av := [.ref h0, .int x, .int y]) (wi := [(sw_3 h0 p0 p1 p2 p3 p4 p5 p6 p7 p8 p9 (a 0) (a 1) (a 2) (a 3) (a 4) (a 5))]) (fun A => va_Qi (fun (r : Int32) (u : Unit) => (r.toInt = unl p5 p6 x.toInt y.toInt) ∧ (True)) (fun u t => RW D A ((fun _ : Unit => [(sw_3 h0 p0 p1 p2 p3 p4 p5 p6 p7 p8 p9 (a 0) (a 1) (a 2) (a 3) (a 4) (a 5))]) u) t) A) (by decide) (Nat.le_of_ble_eq_true rfl) ?_
  intro p e s m below meth c A hx hb hml hown htg hK hN hr hlk hnm hsz hP hD hS hA ls hl
  have hown : s.vm.findClass RX3 = some m.cls := hown
  have hl : lv_has ls 3 [(0, .ref h0), (1, .int x), (2, .int y)] := hl
  have t9_0 : (0 : Int32).toInt = 0 := by decide
  refine lv_iconst (v := 0) hx hb dX3_unshadedLight_0 (by decide) ?_
  refine lv_aload_n hx hb dX3_unshadedLight_1 rfl (lv_at hl 0 rfl) ?_
  refine va_get (D := D) (ci := 3) (v := .int p5) (C := RX3) (T := TX3) (N := 16) hx hb htg gRX3 hown hK hP 0 rfl rfl 5 (by decide) (htg _ wi_184) (fun _ h9 => h9) rfl dX3_unshadedLight_2 ?_
  refine lv_aload_n hx hb dX3_unshadedLight_5 rfl (lv_at hl 0 rfl) ?_
  refine va_get (D := D) (ci := 3) (v := .int p6) (C := RX3) (T := TX3) (N := 16) hx hb htg gRX3 hown hK hP 0 rfl rfl 6 (by decide) (htg _ wi_187) (fun _ h9 => h9) rfl dX3_unshadedLight_6 ?_
  refine lv_iload_n hx hb dX3_unshadedLight_9 rfl (lv_at hl 1 rfl) ?_
  refine lv_iload_n hx hb dX3_unshadedLight_10 rfl (lv_at hl 2 rfl) ?_
  refine lv_isub hx hb dX3_unshadedLight_11 ?_
  refine lv_topi (fun z_1 ez_1 => ?_)
  have iz_1 : z_1.toInt = x.toInt - y.toInt := toInt_subI ez_1 (rfl) (rfl) (by omega)
  refine va_mabs hx hb (by rw [hml]; exact hl.1.symm) hown (htg _ wi_678) (htg _ wi_679) (htg _ wi_132) (htg _ wi_680) (Nat.le_of_ble_eq_true rfl) (Nat.le_of_ble_eq_true rfl) (Nat.le_of_ble_eq_true rfl) (Nat.le_of_ble_eq_true rfl) dX3_unshadedLight_12 ?_
  refine lv_topi (fun z_2 ez_2 => ?_)
  have iz_2 := absI (a := z_1.toInt) ez_2 (rfl) (by omega)
  have dz_2 : z_2 = Int32.ofInt (dI x.toInt y.toInt) := i3_eq (by unfold dI; split <;> omega)
  refine lv_imul hx hb dX3_unshadedLight_15 ?_
  refine lv_topi (fun z_3 ez_3 => ?_)
  refine lv_isub hx hb dX3_unshadedLight_16 ?_
  refine lv_topi (fun z_4 ez_4 => ?_)
  refine va_mmax hx hb (by rw [hml]; exact hl.1.symm) hown (htg _ wi_681) (htg _ wi_527) (htg _ wi_132) (htg _ wi_528) (Nat.le_of_ble_eq_true rfl) (Nat.le_of_ble_eq_true rfl) (Nat.le_of_ble_eq_true rfl) (Nat.le_of_ble_eq_true rfl) dX3_unshadedLight_17 ?_
  refine lv_topi (fun z_5 ez_5 => ?_)
  have iz_5 := maxI (a := 0) (b := z_4.toInt) ez_5 (by decide) (rfl)
  exact x_iret hx hb hr hlk hP hD hS [0] (()) rfl (by decide) ⟨unl_of dz_2 ez_3 ez_4 (by omega), trivial⟩ (by decide) (by decide) dX3_unshadedLight_20
