set_option maxHeartbeats 4000000 in
set_option maxRecDepth 100000 in
theorem m_isShaded (l : Launch) (D : va_G) (cT : Nat → ClassId) (sz : Nat) (h0 : Nat) (g : Nat → Nat) (b0 : Int32) (b5 : Int32) (b6 : Int32) (b7 : Int32) (b8 : Int32) (b9 : Int32) (b10 : Int32) (b11 : Int32) (b12 : Int32) (b13 : Int32) (b14 : Int32) (b17 : Int32) (b18 : Int32) (b19 : Int32) (b23 : Int32) (b24 : Int32) (b25 : Int32) (b26 : Int32) (b27 : Int32) (b29 : Int32) (b31 : Int32) (b32 : Int32) (b33 : Int32) (hb5 : 0 ≤ b5.toInt ∧ b5.toInt ≤ 900) (a0 : Nat → Int32) (pa0 : PI 288 a0) (x : Int32) (y : Int32) (z : Int32) (hxx : 0 ≤ x.toInt ∧ x.toInt ≤ 15) (hyy : 0 ≤ y.toInt ∧ y.toInt ≤ 15) : Met l yX9_isShaded (wsc yX9_isShaded cX9_isShaded 7 (some .boolean)) { frames := 3, cells := 0, slots := 0, locals := 121 } (va_Pc [.ref h0, .int x, .int y, .int z] (PX D cT sz [(sw_9 h0 g b0 b5 b6 b7 b8 b9 b10 b11 b12 b13 b14 b17 b18 b19 b23 b24 b25 b26 b27 b29 b31 b32 b33), (sw_in cT (g 0) 288 a0)])) (va_Qi (fun (r : Int32) (u : Unit) => (True)) (fun u t => RW D (va_A [(sw_9 h0 g b0 b5 b6 b7 b8 b9 b10 b11 b12 b13 b14 b17 b18 b19 b23 b24 b25 b26 b27 b29 b31 b32 b33), (sw_in cT (g 0) 288 a0)] sz) ((fun _ : Unit => [(sw_9 h0 g b0 b5 b6 b7 b8 b9 b10 b11 b12 b13 b14 b17 b18 b19 b23 b24 b25 b26 b27 b29 b31 b32 b33), (sw_in cT (g 0) 288 a0)]) u) t) (va_A [(sw_9 h0 g b0 b5 b6 b7 b8 b9 b10 b11 b12 b13 b14 b17 b18 b19 b23 b24 b25 b26 b27 b29 b31 b32 b33), (sw_in cT (g 0) 288 a0)] sz)) 0 0 (va_A [(sw_9 h0 g b0 b5 b6 b7 b8 b9 b10 b11 b12 b13 b14 b17 b18 b19 b23 b24 b25 b26 b27 b29 b31 b32 b33), (sw_in cT (g 0) 288 a0)] sz) := by
  refine m_of (y := yX9_isShaded) (cc := cX9_isShaded) (nL := 7) (ret := (some .boolean)) (D := D) (cT := cT) (av := [.ref h0, .int x, .int y, .int z]) (wi := [(sw_9 h0 g b0 b5 b6 b7 b8 b9 b10 b11 b12 b13 b14 b17 b18 b19 b23 b24 b25 b26 b27 b29 b31 b32 b33), (sw_in cT (g 0) 288 a0)]) (fun A => va_Qi (fun (r : Int32) (u : Unit) => (True)) (fun u t => RW D A ((fun _ : Unit => [(sw_9 h0 g b0 b5 b6 b7 b8 b9 b10 b11 b12 b13 b14 b17 b18 b19 b23 b24 b25 b26 b27 b29 b31 b32 b33), (sw_in cT (g 0) 288 a0)]) u) t) A) (by decide) (Nat.le_of_ble_eq_true rfl) ?_
  intro p e s m below meth c A hx hb hml hown htg hK hN hr hlk hnm hsz hP hD hS hA ls hl
  have hown : s.vm.findClass RX9 = some m.cls := hown
  have hl : lv_has ls 7 [(0, .ref h0), (1, .int x), (2, .int y), (3, .int z)] := hl
  have tc_0 : (0 : Int32).toInt = 0 := by decide
  have tc_1 : (1 : Int32).toInt = 1 := by decide
  have tc_48 : (48 : Int32).toInt = 48 := by decide
  refine lv_iload_n hx hb dX9_isShaded_0 rfl (lv_at hl 1 rfl) ?_
  refine lv_iload_n hx hb dX9_isShaded_1 rfl (lv_at hl 2 rfl) ?_
  refine lv_icmp_ge (tgt := 9) hx hb dX9_isShaded_2 (by decide) (fun c_1 => ?_) (fun c_1 => ?_)
  · have ic_1 : y.toInt ≤ x.toInt := ile c_1 (rfl) (rfl)
    refine lv_iload_n hx hb dX9_isShaded_9 rfl (lv_at hl 2 rfl) ?_
    refine lv_istore (lv' := [(4, .int y), (0, .ref h0), (1, .int x), (2, .int y), (3, .int z)]) hx hb dX9_isShaded_10 hl (by decide) rfl (fun ls hl => ?_)
    refine lv_iload_n hx hb dX9_isShaded_12 rfl (lv_at hl 2 rfl) ?_
    refine lv_iload_n hx hb dX9_isShaded_13 rfl (lv_at hl 3 rfl) ?_
    refine lv_icmp_ge (tgt := 21) hx hb dX9_isShaded_14 (by decide) (fun c_2 => ?_) (fun c_2 => ?_)
    · have ic_2 : y.toInt ≤ x.toInt := ile c_2 (rfl) (rfl)
      refine lv_iload_n hx hb dX9_isShaded_21 rfl (lv_at hl 2 rfl) ?_
      refine lv_istore (lv' := [(5, .int x), (4, .int y), (0, .ref h0), (1, .int x), (2, .int y), (3, .int z)]) hx hb dX9_isShaded_22 hl (by decide) rfl (fun ls hl => ?_)
      refine lv_iload hx hb dX9_isShaded_24 (lv_at hl 1 rfl) ?_
      refine lv_iconst (v := 1) hx hb dX9_isShaded_26 (by decide) ?_
      refine lv_iadd hx hb dX9_isShaded_27 ?_
      refine lv_topi (fun z_3 ez_3 => ?_)
      have iz_3 : z_3.toInt = y.toInt + 1 := toInt_addI ez_3 (rfl) (by decide) (by omega)
      refine lv_istore (lv' := [(6, .int z_3), (5, .int x), (4, .int y), (0, .ref h0), (1, .int x), (2, .int y), (3, .int z)]) hx hb dX9_isShaded_28 hl (by decide) rfl (fun ls hl => ?_)
      refine (fun (key : ∀ (n9_30 : Nat) (k9_30 : Int32)  (H : Heap) (locs : List Loc) (ls : Array Slot), (0 ≤ k9_30.toInt ∧ k9_30.toInt ≤ 16) → 16 < k9_30.toInt + n9_30 → PD D A [(sw_9 h0 g b0 b5 b6 b7 b8 b9 b10 b11 b12 b13 b14 b17 b18 b19 b23 b24 b25 b26 b27 b29 b31 b32 b33), (sw_in cT (g 0) 288 a0)] H → va_S A s.heap H locs → lv_has ls 7 [(6, .int k9_30), (5, .int x), (4, .int y), (0, .ref h0), (1, .int x), (2, .int y), (3, .int z)] → W p l e _ s m _ below meth c H locs _ _ _ (F0 m 30 ls [])) => key (Int.toNat (16 - z_3.toInt) + 1) (z_3)  _ _ _ (by omega) (by omega)  ⟨hP, hD⟩ hS (lv_sub hl [0, 1, 2, 3, 4, 5, 6] rfl)) ?_
      intro n9_30
      induction n9_30 with
      | zero => intro k9_30  H locs ls hq1 hq2; exact absurd hq2 (by omega)
      | succ n9_30 ih_30 =>
        intro k9_30  H locs ls hq1_30 hq2_30  hPD hS hl
        obtain ⟨hP, hD⟩ := hPD
        refine lv_iload hx hb dX9_isShaded_30 (lv_at hl 0 rfl) ?_
        refine lv_iload hx hb dX9_isShaded_32 (lv_at hl 1 rfl) ?_
        refine lv_icmp_ge (tgt := 72) hx hb dX9_isShaded_34 (by decide) (fun c_4 => ?_) (fun c_4 => ?_)
        · have ic_4 : x.toInt ≤ k9_30.toInt := ile c_4 (rfl) (rfl)
          refine lv_iconst (v := 0) hx hb dX9_isShaded_72 (by decide) ?_
          exact x_zret hx hb hr hlk hP hD hS [0, 1] (()) rfl (by decide) rfl trivial (by decide) (by decide) dX9_isShaded_73
        · have ic_4 : k9_30.toInt < x.toInt := inle c_4 (rfl) (rfl)
          refine lv_aload_n hx hb dX9_isShaded_37 rfl (lv_at hl 3 rfl) ?_
          refine va_get (D := D) (ci := 9) (v := .ref (g 0)) (C := RX9) (T := TX9) (N := 37) hx hb htg gRX9 hown hK hP 0 rfl rfl 1 (by decide) (htg _ wi_1151) (fun _ h9 => h9) rfl dX9_isShaded_38 ?_
          refine lv_bipush (v := 48) hx hb dX9_isShaded_41 (by decide) ?_
          refine lv_iload hx hb dX9_isShaded_43 (lv_at hl 0 rfl) ?_
          refine lv_iadd hx hb dX9_isShaded_45 ?_
          refine lv_topi (fun z_5 ez_5 => ?_)
          have iz_5 : z_5.toInt = 48 + k9_30.toInt := toInt_addI ez_5 (by decide) (rfl) (by omega)
          refine va_iald hx hb hK hP 1 0 rfl rfl (vp_in_iff.mpr (by omega)) dX9_isShaded_46 ?_
          refine lv_topi (fun z_6 ez_6 => ?_)
          refine lv_iload hx hb dX9_isShaded_47 (lv_at hl 1 rfl) ?_
          refine lv_iload hx hb dX9_isShaded_49 (lv_at hl 2 rfl) ?_
          refine lv_isub hx hb dX9_isShaded_51 ?_
          refine lv_topi (fun z_7 ez_7 => ?_)
          have iz_7 : z_7.toInt = x.toInt - y.toInt := toInt_subI ez_7 (rfl) (rfl) (by omega)
          refine lv_imul hx hb dX9_isShaded_52 ?_
          refine lv_topi (fun z_8 ez_8 => ?_)
          refine lv_iload_n hx hb dX9_isShaded_53 rfl (lv_at hl 6 rfl) ?_
          refine lv_iload hx hb dX9_isShaded_54 (lv_at hl 0 rfl) ?_
          refine lv_iload_n hx hb dX9_isShaded_56 rfl (lv_at hl 5 rfl) ?_
          refine xk_i (wr := [(sw_9 h0 g b0 b5 b6 b7 b8 b9 b10 b11 b12 b13 b14 b17 b18 b19 b23 b24 b25 b26 b27 b29 b31 b32 b33), (sw_in cT (g 0) 288 a0)]) (xr_S (n := 2) (As := [.int k9_30, .int y]) (rest := [.int z, .int z_8]) ⟨hx, hb, hml, hown, htg⟩ hK hN hP hD hS hA [] rfl (by decide) (m_off l D cT _ (k9_30) (y)) wi_1355 wi_1356 wi_131 wi_1357 ⟨rfl, by decide +kernel⟩ ⟨Nat.le_of_ble_eq_true rfl, Nat.le_of_ble_eq_true rfl⟩ rfl hl.1 rfl (Nat.le_of_ble_eq_true rfl) dX9_isShaded_57 ⟨Nat.le_of_ble_eq_true rfl, Nat.le_of_ble_eq_true rfl⟩) hP hD hS hA [] [0, 1] rfl rfl (by decide) (by decide) (fun r_10 u_9 H locs hwr_10 hP hD hS => ?_)
          obtain ⟨hP, hD⟩ : PD D A [(sw_9 h0 g b0 b5 b6 b7 b8 b9 b10 b11 b12 b13 b14 b17 b18 b19 b23 b24 b25 b26 b27 b29 b31 b32 b33), (sw_in cT (g 0) 288 a0)] _ := ⟨hP, hD⟩
          refine lv_imul hx hb dX9_isShaded_60 ?_
          refine lv_topi (fun z_11 ez_11 => ?_)
          refine lv_icmp_le (tgt := 66) hx hb dX9_isShaded_61 (by decide) (fun c_12 => ?_) (fun c_12 => ?_)
          · have ic_12 : z_8.toInt ≤ z_11.toInt := ile c_12 (rfl) (rfl)
            obtain ⟨z_13, ez_13⟩ : ∃ w : Int32, w = k9_30 + 1 := ⟨_, rfl⟩
            have iz_13 : z_13.toInt = k9_30.toInt + 1 := toInt_addI ez_13 (rfl) (by decide) (by omega)
            refine lv_iinc (v := z_13) (lv' := [(6, .int z_13), (5, .int x), (4, .int y), (0, .ref h0), (1, .int x), (2, .int y), (3, .int z)]) hx hb dX9_isShaded_66 hl (k := 0) rfl (by rw [ez_13]; rfl) (by decide) rfl (fun ls hl => ?_)
            refine lv_goto (tgt := 30) hx hb dX9_isShaded_69 (by decide) ?_
            exact ih_30 (z_13)  _ _ _ (by omega) (by omega)  ⟨hP.sub [0, 1] rfl, hD.sub [0, 1] (by decide) rfl⟩ hS (lv_sub hl [0, 1, 2, 3, 4, 5, 6] rfl)
          · have ic_12 : z_11.toInt < z_8.toInt := inle c_12 (rfl) (rfl)
            refine lv_iconst (v := 1) hx hb dX9_isShaded_64 (by decide) ?_
            exact x_zret hx hb hr hlk hP hD hS [0, 1] (()) rfl (by decide) rfl trivial (by decide) (by decide) dX9_isShaded_65
    · have ic_2 : x.toInt < y.toInt := inle c_2 (rfl) (rfl)
      refine lv_iload_n hx hb dX9_isShaded_17 rfl (lv_at hl 3 rfl) ?_
      refine lv_goto (tgt := 22) hx hb dX9_isShaded_18 (by decide) ?_
      refine lv_istore (lv' := [(5, .int y), (4, .int y), (0, .ref h0), (1, .int x), (2, .int y), (3, .int z)]) hx hb dX9_isShaded_22 hl (by decide) rfl (fun ls hl => ?_)
      refine lv_iload hx hb dX9_isShaded_24 (lv_at hl 1 rfl) ?_
      refine lv_iconst (v := 1) hx hb dX9_isShaded_26 (by decide) ?_
      refine lv_iadd hx hb dX9_isShaded_27 ?_
      refine lv_topi (fun z_14 ez_14 => ?_)
      have iz_14 : z_14.toInt = y.toInt + 1 := toInt_addI ez_14 (rfl) (by decide) (by omega)
      refine lv_istore (lv' := [(6, .int z_14), (5, .int y), (4, .int y), (0, .ref h0), (1, .int x), (2, .int y), (3, .int z)]) hx hb dX9_isShaded_28 hl (by decide) rfl (fun ls hl => ?_)
      refine (fun (key : ∀ (n9_30 : Nat) (k9_30 : Int32)  (H : Heap) (locs : List Loc) (ls : Array Slot), (0 ≤ k9_30.toInt ∧ k9_30.toInt ≤ 16) → 16 < k9_30.toInt + n9_30 → PD D A [(sw_9 h0 g b0 b5 b6 b7 b8 b9 b10 b11 b12 b13 b14 b17 b18 b19 b23 b24 b25 b26 b27 b29 b31 b32 b33), (sw_in cT (g 0) 288 a0)] H → va_S A s.heap H locs → lv_has ls 7 [(6, .int k9_30), (5, .int y), (4, .int y), (0, .ref h0), (1, .int x), (2, .int y), (3, .int z)] → W p l e _ s m _ below meth c H locs _ _ _ (F0 m 30 ls [])) => key (Int.toNat (16 - z_14.toInt) + 1) (z_14)  _ _ _ (by omega) (by omega)  ⟨hP, hD⟩ hS (lv_sub hl [0, 1, 2, 3, 4, 5, 6] rfl)) ?_
      intro n9_30
      induction n9_30 with
      | zero => intro k9_30  H locs ls hq1 hq2; exact absurd hq2 (by omega)
      | succ n9_30 ih_30 =>
        intro k9_30  H locs ls hq1_30 hq2_30  hPD hS hl
        obtain ⟨hP, hD⟩ := hPD
        refine lv_iload hx hb dX9_isShaded_30 (lv_at hl 0 rfl) ?_
        refine lv_iload hx hb dX9_isShaded_32 (lv_at hl 1 rfl) ?_
        refine lv_icmp_ge (tgt := 72) hx hb dX9_isShaded_34 (by decide) (fun c_15 => ?_) (fun c_15 => ?_)
        · have ic_15 : y.toInt ≤ k9_30.toInt := ile c_15 (rfl) (rfl)
          refine lv_iconst (v := 0) hx hb dX9_isShaded_72 (by decide) ?_
          exact x_zret hx hb hr hlk hP hD hS [0, 1] (()) rfl (by decide) rfl trivial (by decide) (by decide) dX9_isShaded_73
        · have ic_15 : k9_30.toInt < y.toInt := inle c_15 (rfl) (rfl)
          refine lv_aload_n hx hb dX9_isShaded_37 rfl (lv_at hl 3 rfl) ?_
          refine va_get (D := D) (ci := 9) (v := .ref (g 0)) (C := RX9) (T := TX9) (N := 37) hx hb htg gRX9 hown hK hP 0 rfl rfl 1 (by decide) (htg _ wi_1151) (fun _ h9 => h9) rfl dX9_isShaded_38 ?_
          refine lv_bipush (v := 48) hx hb dX9_isShaded_41 (by decide) ?_
          refine lv_iload hx hb dX9_isShaded_43 (lv_at hl 0 rfl) ?_
          refine lv_iadd hx hb dX9_isShaded_45 ?_
          refine lv_topi (fun z_16 ez_16 => ?_)
          have iz_16 : z_16.toInt = 48 + k9_30.toInt := toInt_addI ez_16 (by decide) (rfl) (by omega)
          refine va_iald hx hb hK hP 1 0 rfl rfl (vp_in_iff.mpr (by omega)) dX9_isShaded_46 ?_
          refine lv_topi (fun z_17 ez_17 => ?_)
          refine lv_iload hx hb dX9_isShaded_47 (lv_at hl 1 rfl) ?_
          refine lv_iload hx hb dX9_isShaded_49 (lv_at hl 2 rfl) ?_
          refine lv_isub hx hb dX9_isShaded_51 ?_
          refine lv_topi (fun z_18 ez_18 => ?_)
          have iz_18 : z_18.toInt = y.toInt - y.toInt := toInt_subI ez_18 (rfl) (rfl) (by omega)
          refine lv_imul hx hb dX9_isShaded_52 ?_
          refine lv_topi (fun z_19 ez_19 => ?_)
          refine lv_iload_n hx hb dX9_isShaded_53 rfl (lv_at hl 6 rfl) ?_
          refine lv_iload hx hb dX9_isShaded_54 (lv_at hl 0 rfl) ?_
          refine lv_iload_n hx hb dX9_isShaded_56 rfl (lv_at hl 5 rfl) ?_
          refine xk_i (wr := [(sw_9 h0 g b0 b5 b6 b7 b8 b9 b10 b11 b12 b13 b14 b17 b18 b19 b23 b24 b25 b26 b27 b29 b31 b32 b33), (sw_in cT (g 0) 288 a0)]) (xr_S (n := 2) (As := [.int k9_30, .int y]) (rest := [.int z, .int z_19]) ⟨hx, hb, hml, hown, htg⟩ hK hN hP hD hS hA [] rfl (by decide) (m_off l D cT _ (k9_30) (y)) wi_1355 wi_1356 wi_131 wi_1357 ⟨rfl, by decide +kernel⟩ ⟨Nat.le_of_ble_eq_true rfl, Nat.le_of_ble_eq_true rfl⟩ rfl hl.1 rfl (Nat.le_of_ble_eq_true rfl) dX9_isShaded_57 ⟨Nat.le_of_ble_eq_true rfl, Nat.le_of_ble_eq_true rfl⟩) hP hD hS hA [] [0, 1] rfl rfl (by decide) (by decide) (fun r_21 u_20 H locs hwr_21 hP hD hS => ?_)
          obtain ⟨hP, hD⟩ : PD D A [(sw_9 h0 g b0 b5 b6 b7 b8 b9 b10 b11 b12 b13 b14 b17 b18 b19 b23 b24 b25 b26 b27 b29 b31 b32 b33), (sw_in cT (g 0) 288 a0)] _ := ⟨hP, hD⟩
          refine lv_imul hx hb dX9_isShaded_60 ?_
          refine lv_topi (fun z_22 ez_22 => ?_)
          refine lv_icmp_le (tgt := 66) hx hb dX9_isShaded_61 (by decide) (fun c_23 => ?_) (fun c_23 => ?_)
          · have ic_23 : z_19.toInt ≤ z_22.toInt := ile c_23 (rfl) (rfl)
            obtain ⟨z_24, ez_24⟩ : ∃ w : Int32, w = k9_30 + 1 := ⟨_, rfl⟩
            have iz_24 : z_24.toInt = k9_30.toInt + 1 := toInt_addI ez_24 (rfl) (by decide) (by omega)
            refine lv_iinc (v := z_24) (lv' := [(6, .int z_24), (5, .int y), (4, .int y), (0, .ref h0), (1, .int x), (2, .int y), (3, .int z)]) hx hb dX9_isShaded_66 hl (k := 0) rfl (by rw [ez_24]; rfl) (by decide) rfl (fun ls hl => ?_)
            refine lv_goto (tgt := 30) hx hb dX9_isShaded_69 (by decide) ?_
            exact ih_30 (z_24)  _ _ _ (by omega) (by omega)  ⟨hP.sub [0, 1] rfl, hD.sub [0, 1] (by decide) rfl⟩ hS (lv_sub hl [0, 1, 2, 3, 4, 5, 6] rfl)
          · have ic_23 : z_22.toInt < z_19.toInt := inle c_23 (rfl) (rfl)
            refine lv_iconst (v := 1) hx hb dX9_isShaded_64 (by decide) ?_
            exact x_zret hx hb hr hlk hP hD hS [0, 1] (()) rfl (by decide) rfl trivial (by decide) (by decide) dX9_isShaded_65
  · have ic_1 : x.toInt < y.toInt := inle c_1 (rfl) (rfl)
    refine lv_iload_n hx hb dX9_isShaded_5 rfl (lv_at hl 1 rfl) ?_
    refine lv_goto (tgt := 10) hx hb dX9_isShaded_6 (by decide) ?_
    refine lv_istore (lv' := [(4, .int x), (0, .ref h0), (1, .int x), (2, .int y), (3, .int z)]) hx hb dX9_isShaded_10 hl (by decide) rfl (fun ls hl => ?_)
    refine lv_iload_n hx hb dX9_isShaded_12 rfl (lv_at hl 2 rfl) ?_
    refine lv_iload_n hx hb dX9_isShaded_13 rfl (lv_at hl 3 rfl) ?_
    refine lv_icmp_ge (tgt := 21) hx hb dX9_isShaded_14 (by decide) (fun c_25 => ?_) (fun c_25 => ?_)
    · have ic_25 : y.toInt ≤ x.toInt := ile c_25 (rfl) (rfl)
      refine lv_iload_n hx hb dX9_isShaded_21 rfl (lv_at hl 2 rfl) ?_
      refine lv_istore (lv' := [(5, .int x), (4, .int x), (0, .ref h0), (1, .int x), (2, .int y), (3, .int z)]) hx hb dX9_isShaded_22 hl (by decide) rfl (fun ls hl => ?_)
      refine lv_iload hx hb dX9_isShaded_24 (lv_at hl 1 rfl) ?_
      refine lv_iconst (v := 1) hx hb dX9_isShaded_26 (by decide) ?_
      refine lv_iadd hx hb dX9_isShaded_27 ?_
      refine lv_topi (fun z_26 ez_26 => ?_)
      have iz_26 : z_26.toInt = x.toInt + 1 := toInt_addI ez_26 (rfl) (by decide) (by omega)
      refine lv_istore (lv' := [(6, .int z_26), (5, .int x), (4, .int x), (0, .ref h0), (1, .int x), (2, .int y), (3, .int z)]) hx hb dX9_isShaded_28 hl (by decide) rfl (fun ls hl => ?_)
      refine (fun (key : ∀ (n9_30 : Nat) (k9_30 : Int32)  (H : Heap) (locs : List Loc) (ls : Array Slot), (0 ≤ k9_30.toInt ∧ k9_30.toInt ≤ 16) → 16 < k9_30.toInt + n9_30 → PD D A [(sw_9 h0 g b0 b5 b6 b7 b8 b9 b10 b11 b12 b13 b14 b17 b18 b19 b23 b24 b25 b26 b27 b29 b31 b32 b33), (sw_in cT (g 0) 288 a0)] H → va_S A s.heap H locs → lv_has ls 7 [(6, .int k9_30), (5, .int x), (4, .int x), (0, .ref h0), (1, .int x), (2, .int y), (3, .int z)] → W p l e _ s m _ below meth c H locs _ _ _ (F0 m 30 ls [])) => key (Int.toNat (16 - z_26.toInt) + 1) (z_26)  _ _ _ (by omega) (by omega)  ⟨hP, hD⟩ hS (lv_sub hl [0, 1, 2, 3, 4, 5, 6] rfl)) ?_
      intro n9_30
      induction n9_30 with
      | zero => intro k9_30  H locs ls hq1 hq2; exact absurd hq2 (by omega)
      | succ n9_30 ih_30 =>
        intro k9_30  H locs ls hq1_30 hq2_30  hPD hS hl
        obtain ⟨hP, hD⟩ := hPD
        refine lv_iload hx hb dX9_isShaded_30 (lv_at hl 0 rfl) ?_
        refine lv_iload hx hb dX9_isShaded_32 (lv_at hl 1 rfl) ?_
        refine lv_icmp_ge (tgt := 72) hx hb dX9_isShaded_34 (by decide) (fun c_27 => ?_) (fun c_27 => ?_)
        · have ic_27 : x.toInt ≤ k9_30.toInt := ile c_27 (rfl) (rfl)
          refine lv_iconst (v := 0) hx hb dX9_isShaded_72 (by decide) ?_
          exact x_zret hx hb hr hlk hP hD hS [0, 1] (()) rfl (by decide) rfl trivial (by decide) (by decide) dX9_isShaded_73
        · have ic_27 : k9_30.toInt < x.toInt := inle c_27 (rfl) (rfl)
          refine lv_aload_n hx hb dX9_isShaded_37 rfl (lv_at hl 3 rfl) ?_
          refine va_get (D := D) (ci := 9) (v := .ref (g 0)) (C := RX9) (T := TX9) (N := 37) hx hb htg gRX9 hown hK hP 0 rfl rfl 1 (by decide) (htg _ wi_1151) (fun _ h9 => h9) rfl dX9_isShaded_38 ?_
          refine lv_bipush (v := 48) hx hb dX9_isShaded_41 (by decide) ?_
          refine lv_iload hx hb dX9_isShaded_43 (lv_at hl 0 rfl) ?_
          refine lv_iadd hx hb dX9_isShaded_45 ?_
          refine lv_topi (fun z_28 ez_28 => ?_)
          have iz_28 : z_28.toInt = 48 + k9_30.toInt := toInt_addI ez_28 (by decide) (rfl) (by omega)
          refine va_iald hx hb hK hP 1 0 rfl rfl (vp_in_iff.mpr (by omega)) dX9_isShaded_46 ?_
          refine lv_topi (fun z_29 ez_29 => ?_)
          refine lv_iload hx hb dX9_isShaded_47 (lv_at hl 1 rfl) ?_
          refine lv_iload hx hb dX9_isShaded_49 (lv_at hl 2 rfl) ?_
          refine lv_isub hx hb dX9_isShaded_51 ?_
          refine lv_topi (fun z_30 ez_30 => ?_)
          have iz_30 : z_30.toInt = x.toInt - x.toInt := toInt_subI ez_30 (rfl) (rfl) (by omega)
          refine lv_imul hx hb dX9_isShaded_52 ?_
          refine lv_topi (fun z_31 ez_31 => ?_)
          refine lv_iload_n hx hb dX9_isShaded_53 rfl (lv_at hl 6 rfl) ?_
          refine lv_iload hx hb dX9_isShaded_54 (lv_at hl 0 rfl) ?_
          refine lv_iload_n hx hb dX9_isShaded_56 rfl (lv_at hl 5 rfl) ?_
          refine xk_i (wr := [(sw_9 h0 g b0 b5 b6 b7 b8 b9 b10 b11 b12 b13 b14 b17 b18 b19 b23 b24 b25 b26 b27 b29 b31 b32 b33), (sw_in cT (g 0) 288 a0)]) (xr_S (n := 2) (As := [.int k9_30, .int y]) (rest := [.int z, .int z_31]) ⟨hx, hb, hml, hown, htg⟩ hK hN hP hD hS hA [] rfl (by decide) (m_off l D cT _ (k9_30) (y)) wi_1355 wi_1356 wi_131 wi_1357 ⟨rfl, by decide +kernel⟩ ⟨Nat.le_of_ble_eq_true rfl, Nat.le_of_ble_eq_true rfl⟩ rfl hl.1 rfl (Nat.le_of_ble_eq_true rfl) dX9_isShaded_57 ⟨Nat.le_of_ble_eq_true rfl, Nat.le_of_ble_eq_true rfl⟩) hP hD hS hA [] [0, 1] rfl rfl (by decide) (by decide) (fun r_33 u_32 H locs hwr_33 hP hD hS => ?_)
          obtain ⟨hP, hD⟩ : PD D A [(sw_9 h0 g b0 b5 b6 b7 b8 b9 b10 b11 b12 b13 b14 b17 b18 b19 b23 b24 b25 b26 b27 b29 b31 b32 b33), (sw_in cT (g 0) 288 a0)] _ := ⟨hP, hD⟩
          refine lv_imul hx hb dX9_isShaded_60 ?_
          refine lv_topi (fun z_34 ez_34 => ?_)
          refine lv_icmp_le (tgt := 66) hx hb dX9_isShaded_61 (by decide) (fun c_35 => ?_) (fun c_35 => ?_)
          · have ic_35 : z_31.toInt ≤ z_34.toInt := ile c_35 (rfl) (rfl)
            obtain ⟨z_36, ez_36⟩ : ∃ w : Int32, w = k9_30 + 1 := ⟨_, rfl⟩
            have iz_36 : z_36.toInt = k9_30.toInt + 1 := toInt_addI ez_36 (rfl) (by decide) (by omega)
            refine lv_iinc (v := z_36) (lv' := [(6, .int z_36), (5, .int x), (4, .int x), (0, .ref h0), (1, .int x), (2, .int y), (3, .int z)]) hx hb dX9_isShaded_66 hl (k := 0) rfl (by rw [ez_36]; rfl) (by decide) rfl (fun ls hl => ?_)
            refine lv_goto (tgt := 30) hx hb dX9_isShaded_69 (by decide) ?_
            exact ih_30 (z_36)  _ _ _ (by omega) (by omega)  ⟨hP.sub [0, 1] rfl, hD.sub [0, 1] (by decide) rfl⟩ hS (lv_sub hl [0, 1, 2, 3, 4, 5, 6] rfl)
          · have ic_35 : z_34.toInt < z_31.toInt := inle c_35 (rfl) (rfl)
            refine lv_iconst (v := 1) hx hb dX9_isShaded_64 (by decide) ?_
            exact x_zret hx hb hr hlk hP hD hS [0, 1] (()) rfl (by decide) rfl trivial (by decide) (by decide) dX9_isShaded_65
    · have ic_25 : x.toInt < y.toInt := inle c_25 (rfl) (rfl)
      refine lv_iload_n hx hb dX9_isShaded_17 rfl (lv_at hl 3 rfl) ?_
      refine lv_goto (tgt := 22) hx hb dX9_isShaded_18 (by decide) ?_
      refine lv_istore (lv' := [(5, .int y), (4, .int x), (0, .ref h0), (1, .int x), (2, .int y), (3, .int z)]) hx hb dX9_isShaded_22 hl (by decide) rfl (fun ls hl => ?_)
      refine lv_iload hx hb dX9_isShaded_24 (lv_at hl 1 rfl) ?_
      refine lv_iconst (v := 1) hx hb dX9_isShaded_26 (by decide) ?_
      refine lv_iadd hx hb dX9_isShaded_27 ?_
      refine lv_topi (fun z_37 ez_37 => ?_)
      have iz_37 : z_37.toInt = x.toInt + 1 := toInt_addI ez_37 (rfl) (by decide) (by omega)
      refine lv_istore (lv' := [(6, .int z_37), (5, .int y), (4, .int x), (0, .ref h0), (1, .int x), (2, .int y), (3, .int z)]) hx hb dX9_isShaded_28 hl (by decide) rfl (fun ls hl => ?_)
      refine (fun (key : ∀ (n9_30 : Nat) (k9_30 : Int32)  (H : Heap) (locs : List Loc) (ls : Array Slot), (0 ≤ k9_30.toInt ∧ k9_30.toInt ≤ 16) → 16 < k9_30.toInt + n9_30 → PD D A [(sw_9 h0 g b0 b5 b6 b7 b8 b9 b10 b11 b12 b13 b14 b17 b18 b19 b23 b24 b25 b26 b27 b29 b31 b32 b33), (sw_in cT (g 0) 288 a0)] H → va_S A s.heap H locs → lv_has ls 7 [(6, .int k9_30), (5, .int y), (4, .int x), (0, .ref h0), (1, .int x), (2, .int y), (3, .int z)] → W p l e _ s m _ below meth c H locs _ _ _ (F0 m 30 ls [])) => key (Int.toNat (16 - z_37.toInt) + 1) (z_37)  _ _ _ (by omega) (by omega)  ⟨hP, hD⟩ hS (lv_sub hl [0, 1, 2, 3, 4, 5, 6] rfl)) ?_
      intro n9_30
      induction n9_30 with
      | zero => intro k9_30  H locs ls hq1 hq2; exact absurd hq2 (by omega)
      | succ n9_30 ih_30 =>
        intro k9_30  H locs ls hq1_30 hq2_30  hPD hS hl
        obtain ⟨hP, hD⟩ := hPD
        refine lv_iload hx hb dX9_isShaded_30 (lv_at hl 0 rfl) ?_
        refine lv_iload hx hb dX9_isShaded_32 (lv_at hl 1 rfl) ?_
        refine lv_icmp_ge (tgt := 72) hx hb dX9_isShaded_34 (by decide) (fun c_38 => ?_) (fun c_38 => ?_)
        · have ic_38 : y.toInt ≤ k9_30.toInt := ile c_38 (rfl) (rfl)
          refine lv_iconst (v := 0) hx hb dX9_isShaded_72 (by decide) ?_
          exact x_zret hx hb hr hlk hP hD hS [0, 1] (()) rfl (by decide) rfl trivial (by decide) (by decide) dX9_isShaded_73
        · have ic_38 : k9_30.toInt < y.toInt := inle c_38 (rfl) (rfl)
          refine lv_aload_n hx hb dX9_isShaded_37 rfl (lv_at hl 3 rfl) ?_
          refine va_get (D := D) (ci := 9) (v := .ref (g 0)) (C := RX9) (T := TX9) (N := 37) hx hb htg gRX9 hown hK hP 0 rfl rfl 1 (by decide) (htg _ wi_1151) (fun _ h9 => h9) rfl dX9_isShaded_38 ?_
          refine lv_bipush (v := 48) hx hb dX9_isShaded_41 (by decide) ?_
          refine lv_iload hx hb dX9_isShaded_43 (lv_at hl 0 rfl) ?_
          refine lv_iadd hx hb dX9_isShaded_45 ?_
          refine lv_topi (fun z_39 ez_39 => ?_)
          have iz_39 : z_39.toInt = 48 + k9_30.toInt := toInt_addI ez_39 (by decide) (rfl) (by omega)
          refine va_iald hx hb hK hP 1 0 rfl rfl (vp_in_iff.mpr (by omega)) dX9_isShaded_46 ?_
          refine lv_topi (fun z_40 ez_40 => ?_)
          refine lv_iload hx hb dX9_isShaded_47 (lv_at hl 1 rfl) ?_
          refine lv_iload hx hb dX9_isShaded_49 (lv_at hl 2 rfl) ?_
          refine lv_isub hx hb dX9_isShaded_51 ?_
          refine lv_topi (fun z_41 ez_41 => ?_)
          have iz_41 : z_41.toInt = y.toInt - x.toInt := toInt_subI ez_41 (rfl) (rfl) (by omega)
          refine lv_imul hx hb dX9_isShaded_52 ?_
          refine lv_topi (fun z_42 ez_42 => ?_)
          refine lv_iload_n hx hb dX9_isShaded_53 rfl (lv_at hl 6 rfl) ?_
          refine lv_iload hx hb dX9_isShaded_54 (lv_at hl 0 rfl) ?_
          refine lv_iload_n hx hb dX9_isShaded_56 rfl (lv_at hl 5 rfl) ?_
          refine xk_i (wr := [(sw_9 h0 g b0 b5 b6 b7 b8 b9 b10 b11 b12 b13 b14 b17 b18 b19 b23 b24 b25 b26 b27 b29 b31 b32 b33), (sw_in cT (g 0) 288 a0)]) (xr_S (n := 2) (As := [.int k9_30, .int y]) (rest := [.int z, .int z_42]) ⟨hx, hb, hml, hown, htg⟩ hK hN hP hD hS hA [] rfl (by decide) (m_off l D cT _ (k9_30) (y)) wi_1355 wi_1356 wi_131 wi_1357 ⟨rfl, by decide +kernel⟩ ⟨Nat.le_of_ble_eq_true rfl, Nat.le_of_ble_eq_true rfl⟩ rfl hl.1 rfl (Nat.le_of_ble_eq_true rfl) dX9_isShaded_57 ⟨Nat.le_of_ble_eq_true rfl, Nat.le_of_ble_eq_true rfl⟩) hP hD hS hA [] [0, 1] rfl rfl (by decide) (by decide) (fun r_44 u_43 H locs hwr_44 hP hD hS => ?_)
          obtain ⟨hP, hD⟩ : PD D A [(sw_9 h0 g b0 b5 b6 b7 b8 b9 b10 b11 b12 b13 b14 b17 b18 b19 b23 b24 b25 b26 b27 b29 b31 b32 b33), (sw_in cT (g 0) 288 a0)] _ := ⟨hP, hD⟩
          refine lv_imul hx hb dX9_isShaded_60 ?_
          refine lv_topi (fun z_45 ez_45 => ?_)
          refine lv_icmp_le (tgt := 66) hx hb dX9_isShaded_61 (by decide) (fun c_46 => ?_) (fun c_46 => ?_)
          · have ic_46 : z_42.toInt ≤ z_45.toInt := ile c_46 (rfl) (rfl)
            obtain ⟨z_47, ez_47⟩ : ∃ w : Int32, w = k9_30 + 1 := ⟨_, rfl⟩
            have iz_47 : z_47.toInt = k9_30.toInt + 1 := toInt_addI ez_47 (rfl) (by decide) (by omega)
            refine lv_iinc (v := z_47) (lv' := [(6, .int z_47), (5, .int y), (4, .int x), (0, .ref h0), (1, .int x), (2, .int y), (3, .int z)]) hx hb dX9_isShaded_66 hl (k := 0) rfl (by rw [ez_47]; rfl) (by decide) rfl (fun ls hl => ?_)
            refine lv_goto (tgt := 30) hx hb dX9_isShaded_69 (by decide) ?_
            exact ih_30 (z_47)  _ _ _ (by omega) (by omega)  ⟨hP.sub [0, 1] rfl, hD.sub [0, 1] (by decide) rfl⟩ hS (lv_sub hl [0, 1, 2, 3, 4, 5, 6] rfl)
          · have ic_46 : z_45.toInt < z_42.toInt := inle c_46 (rfl) (rfl)
            refine lv_iconst (v := 1) hx hb dX9_isShaded_64 (by decide) ?_
            exact x_zret hx hb hr hlk hP hD hS [0, 1] (()) rfl (by decide) rfl trivial (by decide) (by decide) dX9_isShaded_65
