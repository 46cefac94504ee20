set_option maxHeartbeats 4000000 in
set_option maxRecDepth 100000 in
theorem m_minutesOf6 (l : Launch) (D : va_G) (cT : Nat → ClassId) (sz : Nat) (h0 : Nat) (g : Nat → Nat) (b0 : Int32) (b5 : Int32) (b6 : Int32) (b7 : Int32) (b8 : Int32) (b9 : Int32) (b10 : Int32) (b11 : Int32) (b12 : Int32) (b13 : Int32) (b14 : Int32) (b17 : Int32) (b18 : Int32) (b19 : Int32) (b23 : Int32) (b24 : Int32) (b25 : Int32) (b26 : Int32) (b27 : Int32) (b29 : Int32) (b31 : Int32) (b32 : Int32) (b33 : Int32) (hb5 : 0 ≤ b5.toInt ∧ b5.toInt ≤ 900) (a0 : Nat → Int32) (pa0 : PI 288 a0) (x : Int32) (hx8 : 0 ≤ x.toInt ∧ x.toInt ≤ 6) : Met l yX9_minutesOf (wsc yX9_minutesOf cX9_minutesOf 3 (some .int)) { frames := 2, cells := 0, slots := 0, locals := 100 } (va_Pc [.ref h0, .int x] (PX D cT sz [(sw_9 h0 g b0 b5 b6 b7 b8 b9 b10 b11 b12 b13 b14 b17 b18 b19 b23 b24 b25 b26 b27 b29 b31 b32 b33), (sw_in cT (g 0) 288 a0)])) (va_Qi (fun (r : Int32) (u : Unit) => (0 ≤ r.toInt ∧ r.toInt ≤ 6) ∧ (True)) (fun u t => RW D (va_A [(sw_9 h0 g b0 b5 b6 b7 b8 b9 b10 b11 b12 b13 b14 b17 b18 b19 b23 b24 b25 b26 b27 b29 b31 b32 b33), (sw_in cT (g 0) 288 a0)] sz) ((fun _ : Unit => [(sw_9 h0 g b0 b5 b6 b7 b8 b9 b10 b11 b12 b13 b14 b17 b18 b19 b23 b24 b25 b26 b27 b29 b31 b32 b33), (sw_in cT (g 0) 288 a0)]) u) t) (va_A [(sw_9 h0 g b0 b5 b6 b7 b8 b9 b10 b11 b12 b13 b14 b17 b18 b19 b23 b24 b25 b26 b27 b29 b31 b32 b33), (sw_in cT (g 0) 288 a0)] sz)) 0 0 (va_A [(sw_9 h0 g b0 b5 b6 b7 b8 b9 b10 b11 b12 b13 b14 b17 b18 b19 b23 b24 b25 b26 b27 b29 b31 b32 b33), (sw_in cT (g 0) 288 a0)] sz) := by
  refine m_of (y := yX9_minutesOf) (cc := cX9_minutesOf) (nL := 3) (ret := (some .int)) (D := D) (cT := cT) (av := [.ref h0, .int x]) (wi := [(sw_9 h0 g b0 b5 b6 b7 b8 b9 b10 b11 b12 b13 b14 b17 b18 b19 b23 b24 b25 b26 b27 b29 b31 b32 b33), (sw_in cT (g 0) 288 a0)]) (fun A => va_Qi (fun (r : Int32) (u : Unit) => (0 ≤ r.toInt ∧ r.toInt ≤ 6) ∧ (True)) (fun u t => RW D A ((fun _ : Unit => [(sw_9 h0 g b0 b5 b6 b7 b8 b9 b10 b11 b12 b13 b14 b17 b18 b19 b23 b24 b25 b26 b27 b29 b31 b32 b33), (sw_in cT (g 0) 288 a0)]) u) t) A) (by decide) (Nat.le_of_ble_eq_true rfl) ?_
  intro p e s m below meth c A hx hb hml hown htg hK hN hr hlk hnm hsz hP hD hS hA ls hl
  have hown : s.vm.findClass RX9 = some m.cls := hown
  have hl : lv_has ls 3 [(0, .ref h0), (1, .int x)] := hl
  have tc_1 : (1 : Int32).toInt = 1 := by decide
  have tc_6 : (6 : Int32).toInt = 6 := by decide
  have tc_9999 : (9999 : Int32).toInt = 9999 := by decide
  refine lv_aload_n hx hb dX9_minutesOf_0 rfl (lv_at hl 0 rfl) ?_
  refine va_get (D := D) (ci := 9) (v := .ref (g 0)) (C := RX9) (T := TX9) (N := 37) hx hb htg gRX9 hown hK hP 0 rfl rfl 1 (by decide) (htg _ wi_1151) (fun _ h9 => h9) rfl dX9_minutesOf_1 ?_
  refine lv_bipush (v := 6) hx hb dX9_minutesOf_4 (by decide) ?_
  refine va_iald hx hb hK hP 1 0 rfl rfl (by unfold vp_in; decide) dX9_minutesOf_6 ?_
  refine lv_topi (fun z_1 ez_1 => ?_)
  have iz_1 : 0 ≤ z_1.toInt ∧ z_1.toInt ≤ 999 := by rw [ez_1]; exact rd6 pa0 (by decide) rfl
  have nz_1 : z_1.toInt = ((a0) 6).toInt := by rw [ez_1]; rfl
  refine lv_iload_n hx hb dX9_minutesOf_7 rfl (lv_at hl 1 rfl) ?_
  refine lv_icmp_ge (tgt := 21) hx hb dX9_minutesOf_8 (by decide) (fun c_2 => ?_) (fun c_2 => ?_)
  · have ic_2 : x.toInt ≤ z_1.toInt := ile c_2 (rfl) (rfl)
    refine lv_iload_n hx hb dX9_minutesOf_21 rfl (lv_at hl 1 rfl) ?_
    refine lv_istore_n (lv' := [(2, .int x), (0, .ref h0), (1, .int x)]) hx hb dX9_minutesOf_22 rfl hl (by decide) rfl (fun ls hl => ?_)
    refine lv_sipush (v := 9999) hx hb dX9_minutesOf_23 (by decide) ?_
    refine lv_aload_n hx hb dX9_minutesOf_26 rfl (lv_at hl 1 rfl) ?_
    refine va_get (D := D) (ci := 9) (v := .ref (g 0)) (C := RX9) (T := TX9) (N := 37) hx hb htg gRX9 hown hK hP 0 rfl rfl 1 (by decide) (htg _ wi_1151) (fun _ h9 => h9) rfl dX9_minutesOf_27 ?_
    refine lv_iconst (v := 1) hx hb dX9_minutesOf_30 (by decide) ?_
    refine va_iald hx hb hK hP 1 0 rfl rfl (by unfold vp_in; decide) dX9_minutesOf_31 ?_
    refine lv_topi (fun z_3 ez_3 => ?_)
    have iz_3 : 0 ≤ z_3.toInt ∧ z_3.toInt ≤ 9999 := by rw [ez_3]; exact rd1 pa0 (by decide) rfl
    have nz_3 : z_3.toInt = ((a0) 1).toInt := by rw [ez_3]; rfl
    refine lv_isub hx hb dX9_minutesOf_32 ?_
    refine lv_topi (fun z_4 ez_4 => ?_)
    have iz_4 : z_4.toInt = 9999 - z_3.toInt := toInt_subI ez_4 (by decide) (rfl) (by omega)
    refine lv_iload_n hx hb dX9_minutesOf_33 rfl (lv_at hl 0 rfl) ?_
    refine lv_icmp_ge (tgt := 50) hx hb dX9_minutesOf_34 (by decide) (fun c_5 => ?_) (fun c_5 => ?_)
    · have ic_5 : x.toInt ≤ z_4.toInt := ile c_5 (rfl) (rfl)
      refine lv_iload_n hx hb dX9_minutesOf_50 rfl (lv_at hl 0 rfl) ?_
      exact x_iret hx hb hr hlk hP hD hS [0, 1] (()) rfl (by decide) ⟨by (try dsimp only); first | assumption | omega | decide | exact Or.inl (by decide) | (intro h9; exact absurd h9 (by decide)) | (intro _; omega) | (intro _; assumption) | (intro _; decide), trivial⟩ (by decide) (by decide) dX9_minutesOf_51
    · have ic_5 : z_4.toInt < x.toInt := inle c_5 (rfl) (rfl)
      refine lv_sipush (v := 9999) hx hb dX9_minutesOf_37 (by decide) ?_
      refine lv_aload_n hx hb dX9_minutesOf_40 rfl (lv_at hl 1 rfl) ?_
      refine va_get (D := D) (ci := 9) (v := .ref (g 0)) (C := RX9) (T := TX9) (N := 37) hx hb htg gRX9 hown hK hP 0 rfl rfl 1 (by decide) (htg _ wi_1151) (fun _ h9 => h9) rfl dX9_minutesOf_41 ?_
      refine lv_iconst (v := 1) hx hb dX9_minutesOf_44 (by decide) ?_
      refine va_iald hx hb hK hP 1 0 rfl rfl (by unfold vp_in; decide) dX9_minutesOf_45 ?_
      refine lv_topi (fun z_6 ez_6 => ?_)
      have iz_6 : 0 ≤ z_6.toInt ∧ z_6.toInt ≤ 9999 := by rw [ez_6]; exact rd1 pa0 (by decide) rfl
      have nz_6 : z_6.toInt = ((a0) 1).toInt := by rw [ez_6]; rfl
      refine lv_isub hx hb dX9_minutesOf_46 ?_
      refine lv_topi (fun z_7 ez_7 => ?_)
      have iz_7 : z_7.toInt = 9999 - z_6.toInt := toInt_subI ez_7 (by decide) (rfl) (by omega)
      refine lv_goto (tgt := 51) hx hb dX9_minutesOf_47 (by decide) ?_
      exact x_iret hx hb hr hlk hP hD hS [0, 1] (()) rfl (by decide) ⟨by (try dsimp only); first | assumption | omega | decide | exact Or.inl (by decide) | (intro h9; exact absurd h9 (by decide)) | (intro _; omega) | (intro _; assumption) | (intro _; decide), trivial⟩ (by decide) (by decide) dX9_minutesOf_51
  · have ic_2 : z_1.toInt < x.toInt := inle c_2 (rfl) (rfl)
    refine lv_aload_n hx hb dX9_minutesOf_11 rfl (lv_at hl 0 rfl) ?_
    refine va_get (D := D) (ci := 9) (v := .ref (g 0)) (C := RX9) (T := TX9) (N := 37) hx hb htg gRX9 hown hK hP 0 rfl rfl 1 (by decide) (htg _ wi_1151) (fun _ h9 => h9) rfl dX9_minutesOf_12 ?_
    refine lv_bipush (v := 6) hx hb dX9_minutesOf_15 (by decide) ?_
    refine va_iald hx hb hK hP 1 0 rfl rfl (by unfold vp_in; decide) dX9_minutesOf_17 ?_
    refine lv_topi (fun z_8 ez_8 => ?_)
    have iz_8 : 0 ≤ z_8.toInt ∧ z_8.toInt ≤ 999 := by rw [ez_8]; exact rd6 pa0 (by decide) rfl
    have nz_8 : z_8.toInt = ((a0) 6).toInt := by rw [ez_8]; rfl
    refine lv_goto (tgt := 22) hx hb dX9_minutesOf_18 (by decide) ?_
    refine lv_istore_n (lv' := [(2, .int z_8), (0, .ref h0), (1, .int x)]) hx hb dX9_minutesOf_22 rfl hl (by decide) rfl (fun ls hl => ?_)
    refine lv_sipush (v := 9999) hx hb dX9_minutesOf_23 (by decide) ?_
    refine lv_aload_n hx hb dX9_minutesOf_26 rfl (lv_at hl 1 rfl) ?_
    refine va_get (D := D) (ci := 9) (v := .ref (g 0)) (C := RX9) (T := TX9) (N := 37) hx hb htg gRX9 hown hK hP 0 rfl rfl 1 (by decide) (htg _ wi_1151) (fun _ h9 => h9) rfl dX9_minutesOf_27 ?_
    refine lv_iconst (v := 1) hx hb dX9_minutesOf_30 (by decide) ?_
    refine va_iald hx hb hK hP 1 0 rfl rfl (by unfold vp_in; decide) dX9_minutesOf_31 ?_
    refine lv_topi (fun z_9 ez_9 => ?_)
    have iz_9 : 0 ≤ z_9.toInt ∧ z_9.toInt ≤ 9999 := by rw [ez_9]; exact rd1 pa0 (by decide) rfl
    have nz_9 : z_9.toInt = ((a0) 1).toInt := by rw [ez_9]; rfl
    refine lv_isub hx hb dX9_minutesOf_32 ?_
    refine lv_topi (fun z_10 ez_10 => ?_)
    have iz_10 : z_10.toInt = 9999 - z_9.toInt := toInt_subI ez_10 (by decide) (rfl) (by omega)
    refine lv_iload_n hx hb dX9_minutesOf_33 rfl (lv_at hl 0 rfl) ?_
    refine lv_icmp_ge (tgt := 50) hx hb dX9_minutesOf_34 (by decide) (fun c_11 => ?_) (fun c_11 => ?_)
    · have ic_11 : z_8.toInt ≤ z_10.toInt := ile c_11 (rfl) (rfl)
      refine lv_iload_n hx hb dX9_minutesOf_50 rfl (lv_at hl 0 rfl) ?_
      exact x_iret hx hb hr hlk hP hD hS [0, 1] (()) rfl (by decide) ⟨by (try dsimp only); first | assumption | omega | decide | exact Or.inl (by decide) | (intro h9; exact absurd h9 (by decide)) | (intro _; omega) | (intro _; assumption) | (intro _; decide), trivial⟩ (by decide) (by decide) dX9_minutesOf_51
    · have ic_11 : z_10.toInt < z_8.toInt := inle c_11 (rfl) (rfl)
      refine lv_sipush (v := 9999) hx hb dX9_minutesOf_37 (by decide) ?_
      refine lv_aload_n hx hb dX9_minutesOf_40 rfl (lv_at hl 1 rfl) ?_
      refine va_get (D := D) (ci := 9) (v := .ref (g 0)) (C := RX9) (T := TX9) (N := 37) hx hb htg gRX9 hown hK hP 0 rfl rfl 1 (by decide) (htg _ wi_1151) (fun _ h9 => h9) rfl dX9_minutesOf_41 ?_
      refine lv_iconst (v := 1) hx hb dX9_minutesOf_44 (by decide) ?_
      refine va_iald hx hb hK hP 1 0 rfl rfl (by unfold vp_in; decide) dX9_minutesOf_45 ?_
      refine lv_topi (fun z_12 ez_12 => ?_)
      have iz_12 : 0 ≤ z_12.toInt ∧ z_12.toInt ≤ 9999 := by rw [ez_12]; exact rd1 pa0 (by decide) rfl
      have nz_12 : z_12.toInt = ((a0) 1).toInt := by rw [ez_12]; rfl
      refine lv_isub hx hb dX9_minutesOf_46 ?_
      refine lv_topi (fun z_13 ez_13 => ?_)
      have iz_13 : z_13.toInt = 9999 - z_12.toInt := toInt_subI ez_13 (by decide) (rfl) (by omega)
      refine lv_goto (tgt := 51) hx hb dX9_minutesOf_47 (by decide) ?_
      exact x_iret hx hb hr hlk hP hD hS [0, 1] (()) rfl (by decide) ⟨by (try dsimp only); first | assumption | omega | decide | exact Or.inl (by decide) | (intro h9; exact absurd h9 (by decide)) | (intro _; omega) | (intro _; assumption) | (intro _; decide), trivial⟩ (by decide) (by decide) dX9_minutesOf_51
