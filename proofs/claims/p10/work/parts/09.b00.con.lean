set_option maxHeartbeats 4000000 in
set_option maxRecDepth 100000 in
theorem m_seeR (l : Launch) (D : va_G) (cT : Nat → ClassId) (sz : Nat) (h0 : Nat) (g : Nat → Nat) (b0 : Int32) (b5 : Int32) (b6 : Int32) (b7 : Int32) (b8 : Int32) (b9 : Int32) (b10 : Int32) (b11 : Int32) (b12 : Int32) (b13 : Int32) (b14 : Int32) (b17 : Int32) (b18 : Int32) (b19 : Int32) (b23 : Int32) (b24 : Int32) (b25 : Int32) (b26 : Int32) (b27 : Int32) (b29 : Int32) (b31 : Int32) (b32 : Int32) (b33 : Int32) (hb5 : 0 ≤ b5.toInt ∧ b5.toInt ≤ 900) (a2 : Nat → Int32) (x : Int32) (hb8 : 0 ≤ b8.toInt ∧ b8.toInt ≤ 900) (hx0 : 0 ≤ x.toInt) (tx : Nat → Int) (hT : TXc tx b8.toInt a2) : Met l yX9_see (wsc yX9_see cX9_see 2 (some .int)) { frames := 2, cells := 0, slots := 0, locals := 100 } (va_Pc [.ref h0, .int x] (PX D cT sz [(sw_9 h0 g b0 b5 b6 b7 b8 b9 b10 b11 b12 b13 b14 b17 b18 b19 b23 b24 b25 b26 b27 b29 b31 b32 b33), (sw_in cT (g 2) 900 a2)])) (va_Qi (fun (r : Int32) (u : Unit) => ((x.toInt < b8.toInt ∧ kdB tx b8.toInt x.toInt = clsB r.toInt ∧ cB r.toInt = tx x.toInt.toNat) ∨ (b8.toInt ≤ x.toInt ∧ kdB tx b8.toInt x.toInt = 0 ∧ r.toInt = -1)) ∧ (r = seeF a2 b8 x) ∧ (True)) (fun u t => RW D (va_A [(sw_9 h0 g b0 b5 b6 b7 b8 b9 b10 b11 b12 b13 b14 b17 b18 b19 b23 b24 b25 b26 b27 b29 b31 b32 b33), (sw_in cT (g 2) 900 a2)] sz) ((fun _ : Unit => [(sw_9 h0 g b0 b5 b6 b7 b8 b9 b10 b11 b12 b13 b14 b17 b18 b19 b23 b24 b25 b26 b27 b29 b31 b32 b33), (sw_in cT (g 2) 900 a2)]) u) t) (va_A [(sw_9 h0 g b0 b5 b6 b7 b8 b9 b10 b11 b12 b13 b14 b17 b18 b19 b23 b24 b25 b26 b27 b29 b31 b32 b33), (sw_in cT (g 2) 900 a2)] sz)) 0 0 (va_A [(sw_9 h0 g b0 b5 b6 b7 b8 b9 b10 b11 b12 b13 b14 b17 b18 b19 b23 b24 b25 b26 b27 b29 b31 b32 b33), (sw_in cT (g 2) 900 a2)] sz) := by
  refine m_of (y := yX9_see) (cc := cX9_see) (nL := 2) (ret := (some .int)) (D := D) (cT := cT) (av := [.ref h0, .int x]) (wi := [(sw_9 h0 g b0 b5 b6 b7 b8 b9 b10 b11 b12 b13 b14 b17 b18 b19 b23 b24 b25 b26 b27 b29 b31 b32 b33), (sw_in cT (g 2) 900 a2)]) (fun A => va_Qi (fun (r : Int32) (u : Unit) => ((x.toInt < b8.toInt ∧ kdB tx b8.toInt x.toInt = clsB r.toInt ∧ cB r.toInt = tx x.toInt.toNat) ∨ (b8.toInt ≤ x.toInt ∧ kdB tx b8.toInt x.toInt = 0 ∧ r.toInt = -1)) ∧ (r = seeF a2 b8 x) ∧ (True)) (fun u t => RW D A ((fun _ : Unit => [(sw_9 h0 g b0 b5 b6 b7 b8 b9 b10 b11 b12 b13 b14 b17 b18 b19 b23 b24 b25 b26 b27 b29 b31 b32 b33), (sw_in cT (g 2) 900 a2)]) u) t) A) (by decide) (Nat.le_of_ble_eq_true rfl) ?_
  intro p e s m below meth c A hx hb hml hown htg hK hN hr hlk hnm hsz hP hD hS hA ls hl
  have hown : s.vm.findClass RX9 = some m.cls := hown
  have hl : lv_has ls 2 [(0, .ref h0), (1, .int x)] := hl
  have tc_m1 : ((-1) : Int32).toInt = (-1) := by decide
  refine lv_iload_n hx hb dX9_see_0 rfl (lv_at hl 1 rfl) ?_
  refine lv_aload_n hx hb dX9_see_1 rfl (lv_at hl 0 rfl) ?_
  refine va_get (D := D) (ci := 9) (v := .int b8) (C := RX9) (T := TX9) (N := 37) hx hb htg gRX9 hown hK hP 0 rfl rfl 8 (by decide) (htg _ wi_1158) (fun _ h9 => h9) rfl dX9_see_2 ?_
  refine lv_icmp_ge (tgt := 17) hx hb dX9_see_5 (by decide) (fun c_1 => ?_) (fun c_1 => ?_)
  · have ic_1 : b8.toInt ≤ x.toInt := ile c_1 (rfl) (rfl)
    refine lv_iconst (v := (-1)) hx hb dX9_see_17 (by decide) ?_
    exact x_iret hx hb hr hlk hP hD hS [0, 1] (()) rfl (by decide) ⟨Or.inr ⟨by omega, (by unfold kdB; rw [if_neg (by omega)]), by decide⟩, (by unfold seeF; rw [if_neg (by omega)]), trivial⟩ (by decide) (by decide) dX9_see_18
  · have ic_1 : x.toInt < b8.toInt := inle c_1 (rfl) (rfl)
    refine lv_aload_n hx hb dX9_see_8 rfl (lv_at hl 0 rfl) ?_
    refine va_get (D := D) (ci := 9) (v := .ref (g 2)) (C := RX9) (T := TX9) (N := 37) hx hb htg gRX9 hown hK hP 0 rfl rfl 3 (by decide) (htg _ wi_1153) (fun _ h9 => h9) rfl dX9_see_9 ?_
    refine lv_iload_n hx hb dX9_see_12 rfl (lv_at hl 1 rfl) ?_
    refine va_iald hx hb hK hP 1 0 rfl rfl (vp_in_iff.mpr (by omega)) dX9_see_13 ?_
    refine lv_topi (fun z_2 ez_2 => ?_)
    refine lv_goto (tgt := 18) hx hb dX9_see_14 (by decide) ?_
    exact x_iret hx hb hr hlk hP hD hS [0, 1] (()) rfl (by decide) ⟨Or.inl ⟨by omega, (by unfold kdB; rw [if_pos (by omega), ← (show cB z_2.toInt = tx x.toInt.toNat from TXc_at hT ez_2 (a := x.toInt) rfl (by omega)), clsB_cB]), (show cB z_2.toInt = tx x.toInt.toNat from TXc_at hT ez_2 (a := x.toInt) rfl (by omega))⟩, (by unfold seeF; rw [if_pos (by omega)]; exact ez_2), trivial⟩ (by decide) (by decide) dX9_see_18
