set_option maxHeartbeats 4000000 in
set_option maxRecDepth 100000 in
theorem m_isMet (l : Launch) (D : va_G) (cT : Nat → ClassId) (sz : Nat) (h0 : Nat) (g : Nat → Nat) (b0 : Int32) (b5 : Int32) (b6 : Int32) (b7 : Int32) (b8 : Int32) (b9 : Int32) (b10 : Int32) (b11 : Int32) (b12 : Int32) (b13 : Int32) (b14 : Int32) (b17 : Int32) (b18 : Int32) (b19 : Int32) (b23 : Int32) (b24 : Int32) (b25 : Int32) (b26 : Int32) (b27 : Int32) (b29 : Int32) (b31 : Int32) (b32 : Int32) (b33 : Int32) (hb5 : 0 ≤ b5.toInt ∧ b5.toInt ≤ 900) (a0 : Nat → Int32) (pa0 : PI 288 a0) (a9 : Nat → Int32) (hb29 : 0 ≤ b29.toInt ∧ b29.toInt ≤ 729) : Met l yX9_isMet (wsc yX9_isMet cX9_isMet 3 (some .boolean)) { frames := 2, cells := 0, slots := 0, locals := 100 } (va_Pc [.ref h0] (PX D cT sz [(sw_9 h0 g b0 b5 b6 b7 b8 b9 b10 b11 b12 b13 b14 b17 b18 b19 b23 b24 b25 b26 b27 b29 b31 b32 b33), (sw_in cT (g 0) 288 a0), (sw_in cT (g 9) 11664 a9)])) (va_Qi (fun (r : Int32) (u : Unit) => (True)) (fun u t => RW D (va_A [(sw_9 h0 g b0 b5 b6 b7 b8 b9 b10 b11 b12 b13 b14 b17 b18 b19 b23 b24 b25 b26 b27 b29 b31 b32 b33), (sw_in cT (g 0) 288 a0), (sw_in cT (g 9) 11664 a9)] sz) ((fun _ : Unit => [(sw_9 h0 g b0 b5 b6 b7 b8 b9 b10 b11 b12 b13 b14 b17 b18 b19 b23 b24 b25 b26 b27 b29 b31 b32 b33), (sw_in cT (g 0) 288 a0), (sw_in cT (g 9) 11664 a9)]) u) t) (va_A [(sw_9 h0 g b0 b5 b6 b7 b8 b9 b10 b11 b12 b13 b14 b17 b18 b19 b23 b24 b25 b26 b27 b29 b31 b32 b33), (sw_in cT (g 0) 288 a0), (sw_in cT (g 9) 11664 a9)] sz)) 0 0 (va_A [(sw_9 h0 g b0 b5 b6 b7 b8 b9 b10 b11 b12 b13 b14 b17 b18 b19 b23 b24 b25 b26 b27 b29 b31 b32 b33), (sw_in cT (g 0) 288 a0), (sw_in cT (g 9) 11664 a9)] sz) := by
  refine m_of (y := yX9_isMet) (cc := cX9_isMet) (nL := 3) (ret := (some .boolean)) (D := D) (cT := cT) (av := [.ref h0]) (wi := [(sw_9 h0 g b0 b5 b6 b7 b8 b9 b10 b11 b12 b13 b14 b17 b18 b19 b23 b24 b25 b26 b27 b29 b31 b32 b33), (sw_in cT (g 0) 288 a0), (sw_in cT (g 9) 11664 a9)]) (fun A => va_Qi (fun (r : Int32) (u : Unit) => (True)) (fun u t => RW D A ((fun _ : Unit => [(sw_9 h0 g b0 b5 b6 b7 b8 b9 b10 b11 b12 b13 b14 b17 b18 b19 b23 b24 b25 b26 b27 b29 b31 b32 b33), (sw_in cT (g 0) 288 a0), (sw_in cT (g 9) 11664 a9)]) u) t) A) (by decide) (Nat.le_of_ble_eq_true rfl) ?_
  intro p e s m below meth c A hx hb hml hown htg hK hN hr hlk hnm hsz hP hD hS hA ls hl
  have hown : s.vm.findClass RX9 = some m.cls := hown
  have hl : lv_has ls 3 [(0, .ref h0)] := hl
  have tc_0 : (0 : Int32).toInt = 0 := by decide
  have tc_1 : (1 : Int32).toInt = 1 := by decide
  have tc_16 : (16 : Int32).toInt = 16 := by decide
  refine lv_iconst (v := 0) hx hb dX9_isMet_0 (by decide) ?_
  refine lv_istore_n (lv' := [(1, .int 0), (0, .ref h0)]) hx hb dX9_isMet_1 rfl hl (by decide) rfl (fun ls hl => ?_)
  refine (fun (key : ∀ (n9_2 : Nat) (k9_2 : Nat)  (H : Heap) (locs : List Loc) (ls : Array Slot), (k9_2 : Int) ≤ b29.toInt → b29.toInt < (k9_2 : Int) + n9_2 → PD D A [(sw_9 h0 g b0 b5 b6 b7 b8 b9 b10 b11 b12 b13 b14 b17 b18 b19 b23 b24 b25 b26 b27 b29 b31 b32 b33), (sw_in cT (g 0) 288 a0), (sw_in cT (g 9) 11664 a9)] H → va_S A s.heap H locs → lv_has ls 3 [(1, .int (nI k9_2)), (0, .ref h0)] → W p l e _ s m _ below meth c H locs _ _ _ (F0 m 2 ls [])) => key (Int.toNat (b29.toInt - 0) + 1) 0  _ _ _ (by omega) (by omega)  ⟨hP, hD⟩ hS (lv_sub hl [0, 1] rfl)) ?_
  intro n9_2
  induction n9_2 with
  | zero => intro k9_2  H locs ls hq1 hq2; exact absurd hq2 (by omega)
  | succ n9_2 ih_2 =>
    intro k9_2  H locs ls hq1_2 hq2_2  hPD hS hl
    obtain ⟨hP, hD⟩ := hPD
    have hk9_2 : (nI k9_2).toInt = (k9_2 : Int) := nI_toInt (by omega)
    refine lv_iload_n hx hb dX9_isMet_2 rfl (lv_at hl 0 rfl) ?_
    refine lv_aload_n hx hb dX9_isMet_3 rfl (lv_at hl 1 rfl) ?_
    refine va_get (D := D) (ci := 9) (v := .int b29) (C := RX9) (T := TX9) (N := 37) hx hb htg gRX9 hown hK hP 0 rfl rfl 29 (by decide) (htg _ wi_1179) (fun _ h9 => h9) rfl dX9_isMet_4 ?_
    refine lv_icmp_ge (tgt := 69) hx hb dX9_isMet_7 (by decide) (fun c_1 => ?_) (fun c_1 => ?_)
    · have ic_1 : b29.toInt ≤ ((k9_2 : Nat) : Int) := ile c_1 (rfl) (nI_toInt (by omega))
      refine lv_iconst (v := 0) hx hb dX9_isMet_69 (by decide) ?_
      exact x_zret hx hb hr hlk hP hD hS [0, 1, 2] (()) rfl (by decide) rfl trivial (by decide) (by decide) dX9_isMet_70
    · have ic_1 : ((k9_2 : Nat) : Int) < b29.toInt := inle c_1 (rfl) (nI_toInt (by omega))
      refine lv_iconst (v := 0) hx hb dX9_isMet_10 (by decide) ?_
      refine lv_istore_n (lv' := [(2, .int 0), (1, .int (nI k9_2)), (0, .ref h0)]) hx hb dX9_isMet_11 rfl hl (by decide) rfl (fun ls hl => ?_)
      refine (fun (key : ∀ (n9_12 : Nat) (k9_12 : Nat)  (H : Heap) (locs : List Loc) (ls : Array Slot), (k9_12 : Int) ≤ 16 → 16 < (k9_12 : Int) + n9_12 → PD D A [(sw_9 h0 g b0 b5 b6 b7 b8 b9 b10 b11 b12 b13 b14 b17 b18 b19 b23 b24 b25 b26 b27 b29 b31 b32 b33), (sw_in cT (g 0) 288 a0), (sw_in cT (g 9) 11664 a9)] H → va_S A s.heap H locs → lv_has ls 3 [(2, .int (nI k9_12)), (1, .int (nI k9_2)), (0, .ref h0)] → W p l e _ s m _ below meth c H locs _ _ _ (F0 m 12 ls [])) => key (Int.toNat (16 - 0) + 1) 0  _ _ _ (by omega) (by omega)  ⟨hP, hD⟩ hS (lv_sub hl [0, 1, 2] rfl)) ?_
      intro n9_12
      induction n9_12 with
      | zero => intro k9_12  H locs ls hq1 hq2; exact absurd hq2 (by omega)
      | succ n9_12 ih_12 =>
        intro k9_12  H locs ls hq1_12 hq2_12  hPD hS hl
        obtain ⟨hP, hD⟩ := hPD
        have hk9_12 : (nI k9_12).toInt = (k9_12 : Int) := nI_toInt (by omega)
        refine lv_iload_n hx hb dX9_isMet_12 rfl (lv_at hl 0 rfl) ?_
        refine lv_aload_n hx hb dX9_isMet_13 rfl (lv_at hl 2 rfl) ?_
        refine va_get (D := D) (ci := 9) (v := .ref (g 0)) (C := RX9) (T := TX9) (N := 37) hx hb htg gRX9 hown hK hP 0 rfl rfl 1 (by decide) (htg _ wi_1151) (fun _ h9 => h9) rfl dX9_isMet_14 ?_
        refine lv_iconst (v := 0) hx hb dX9_isMet_17 (by decide) ?_
        refine va_iald hx hb hK hP 1 0 rfl rfl (by unfold vp_in; decide) dX9_isMet_18 ?_
        refine lv_topi (fun z_2 ez_2 => ?_)
        have iz_2 : 0 ≤ z_2.toInt ∧ z_2.toInt ≤ 16 := by rw [ez_2]; exact rd0 pa0 (by decide) rfl
        have nz_2 : z_2.toInt = ((a0) 0).toInt := by rw [ez_2]; rfl
        refine lv_icmp_ge (tgt := 51) hx hb dX9_isMet_19 (by decide) (fun c_3 => ?_) (fun c_3 => ?_)
        · have ic_3 : z_2.toInt ≤ ((k9_12 : Nat) : Int) := ile c_3 (rfl) (nI_toInt (by omega))
          refine lv_iload_n hx hb dX9_isMet_51 rfl (lv_at hl 0 rfl) ?_
          refine lv_aload_n hx hb dX9_isMet_52 rfl (lv_at hl 2 rfl) ?_
          refine va_get (D := D) (ci := 9) (v := .ref (g 0)) (C := RX9) (T := TX9) (N := 37) hx hb htg gRX9 hown hK hP 0 rfl rfl 1 (by decide) (htg _ wi_1151) (fun _ h9 => h9) rfl dX9_isMet_53 ?_
          refine lv_iconst (v := 0) hx hb dX9_isMet_56 (by decide) ?_
          refine va_iald hx hb hK hP 1 0 rfl rfl (by unfold vp_in; decide) dX9_isMet_57 ?_
          refine lv_topi (fun z_4 ez_4 => ?_)
          have iz_4 : 0 ≤ z_4.toInt ∧ z_4.toInt ≤ 16 := by rw [ez_4]; exact rd0 pa0 (by decide) rfl
          have nz_4 : z_4.toInt = ((a0) 0).toInt := by rw [ez_4]; rfl
          refine lv_icmp_ne (tgt := 63) hx hb dX9_isMet_58 (by decide) (fun c_5 => ?_) (fun c_5 => ?_)
          · have ic_5 : ¬ ((k9_12 : Nat) : Int) = z_4.toInt := ine c_5 (nI_toInt (by omega)) (rfl)
            refine lv_iinc (v := (nI (k9_2 + 1))) (lv' := [(1, .int (nI (k9_2 + 1))), (2, .int (nI k9_12)), (0, .ref h0)]) hx hb dX9_isMet_63 hl (k := 1) rfl (by exact nI_1 (k9_2)) (by decide) rfl (fun ls hl => ?_)
            refine lv_goto (tgt := 2) hx hb dX9_isMet_66 (by decide) ?_
            exact ih_2 (k9_2 + 1)  _ _ _ (by omega) (by omega)  ⟨hP.sub [0, 1, 2] rfl, hD.sub [0, 1, 2] (by decide) rfl⟩ hS (lv_sub hl [0, 2] rfl)
          · have ic_5 : ((k9_12 : Nat) : Int) = z_4.toInt := ieq c_5 (nI_toInt (by omega)) (rfl)
            refine lv_iconst (v := 1) hx hb dX9_isMet_61 (by decide) ?_
            exact x_zret hx hb hr hlk hP hD hS [0, 1, 2] (()) rfl (by decide) rfl trivial (by decide) (by decide) dX9_isMet_62
        · have ic_3 : ((k9_12 : Nat) : Int) < z_2.toInt := inle c_3 (rfl) (nI_toInt (by omega))
          refine lv_aload_n hx hb dX9_isMet_22 rfl (lv_at hl 2 rfl) ?_
          refine va_get (D := D) (ci := 9) (v := .ref (g 9)) (C := RX9) (T := TX9) (N := 37) hx hb htg gRX9 hown hK hP 0 rfl rfl 28 (by decide) (htg _ wi_1178) (fun _ h9 => h9) rfl dX9_isMet_23 ?_
          refine lv_bipush (v := 16) hx hb dX9_isMet_26 (by decide) ?_
          refine lv_iload_n hx hb dX9_isMet_28 rfl (lv_at hl 1 rfl) ?_
          refine lv_imul hx hb dX9_isMet_29 ?_
          refine lv_topi (fun z_6 ez_6 => ?_)
          have iz_6 : z_6.toInt = 16 * ((k9_2 : Nat) : Int) := toInt_mulI ez_6 (by decide) (nI_toInt (by omega)) (by omega)
          refine lv_iload_n hx hb dX9_isMet_30 rfl (lv_at hl 0 rfl) ?_
          refine lv_iadd hx hb dX9_isMet_31 ?_
          refine lv_topi (fun z_7 ez_7 => ?_)
          have iz_7 : z_7.toInt = z_6.toInt + ((k9_12 : Nat) : Int) := toInt_addI ez_7 (rfl) (nI_toInt (by omega)) (by omega)
          refine va_iald hx hb hK hP 2 0 rfl rfl (vp_in_iff.mpr (by omega)) dX9_isMet_32 ?_
          refine lv_topi (fun z_8 ez_8 => ?_)
          refine lv_aload_n hx hb dX9_isMet_33 rfl (lv_at hl 2 rfl) ?_
          refine va_get (D := D) (ci := 9) (v := .ref (g 0)) (C := RX9) (T := TX9) (N := 37) hx hb htg gRX9 hown hK hP 0 rfl rfl 1 (by decide) (htg _ wi_1151) (fun _ h9 => h9) rfl dX9_isMet_34 ?_
          refine lv_bipush (v := 16) hx hb dX9_isMet_37 (by decide) ?_
          refine lv_iload_n hx hb dX9_isMet_39 rfl (lv_at hl 0 rfl) ?_
          refine lv_iadd hx hb dX9_isMet_40 ?_
          refine lv_is (y := nI (16 + k9_12)) (nI_add 16 (k9_12)) ?_
          refine va_iald hx hb hK hP 1 0 rfl rfl (vp_in_nI (by omega) (by omega)) dX9_isMet_41 ?_
          refine lv_topi (fun z_9 ez_9 => ?_)
          refine lv_icmp_ne (tgt := 51) hx hb dX9_isMet_42 (by decide) (fun c_10 => ?_) (fun c_10 => ?_)
          · have ic_10 : ¬ z_8.toInt = z_9.toInt := ine c_10 (rfl) (rfl)
            refine lv_iload_n hx hb dX9_isMet_51 rfl (lv_at hl 0 rfl) ?_
            refine lv_aload_n hx hb dX9_isMet_52 rfl (lv_at hl 2 rfl) ?_
            refine va_get (D := D) (ci := 9) (v := .ref (g 0)) (C := RX9) (T := TX9) (N := 37) hx hb htg gRX9 hown hK hP 0 rfl rfl 1 (by decide) (htg _ wi_1151) (fun _ h9 => h9) rfl dX9_isMet_53 ?_
            refine lv_iconst (v := 0) hx hb dX9_isMet_56 (by decide) ?_
            refine va_iald hx hb hK hP 1 0 rfl rfl (by unfold vp_in; decide) dX9_isMet_57 ?_
            refine lv_topi (fun z_11 ez_11 => ?_)
            have iz_11 : 0 ≤ z_11.toInt ∧ z_11.toInt ≤ 16 := by rw [ez_11]; exact rd0 pa0 (by decide) rfl
            have nz_11 : z_11.toInt = ((a0) 0).toInt := by rw [ez_11]; rfl
            refine lv_icmp_ne (tgt := 63) hx hb dX9_isMet_58 (by decide) (fun c_12 => ?_) (fun c_12 => ?_)
            · have ic_12 : ¬ ((k9_12 : Nat) : Int) = z_11.toInt := ine c_12 (nI_toInt (by omega)) (rfl)
              refine lv_iinc (v := (nI (k9_2 + 1))) (lv' := [(1, .int (nI (k9_2 + 1))), (2, .int (nI k9_12)), (0, .ref h0)]) hx hb dX9_isMet_63 hl (k := 1) rfl (by exact nI_1 (k9_2)) (by decide) rfl (fun ls hl => ?_)
              refine lv_goto (tgt := 2) hx hb dX9_isMet_66 (by decide) ?_
              exact ih_2 (k9_2 + 1)  _ _ _ (by omega) (by omega)  ⟨hP.sub [0, 1, 2] rfl, hD.sub [0, 1, 2] (by decide) rfl⟩ hS (lv_sub hl [0, 2] rfl)
            · have ic_12 : ((k9_12 : Nat) : Int) = z_11.toInt := ieq c_12 (nI_toInt (by omega)) (rfl)
              refine lv_iconst (v := 1) hx hb dX9_isMet_61 (by decide) ?_
              exact x_zret hx hb hr hlk hP hD hS [0, 1, 2] (()) rfl (by decide) rfl trivial (by decide) (by decide) dX9_isMet_62
          · have ic_10 : z_8.toInt = z_9.toInt := ieq c_10 (rfl) (rfl)
            refine lv_iinc (v := (nI (k9_12 + 1))) (lv' := [(2, .int (nI (k9_12 + 1))), (1, .int (nI k9_2)), (0, .ref h0)]) hx hb dX9_isMet_45 hl (k := 0) rfl (by exact nI_1 (k9_12)) (by decide) rfl (fun ls hl => ?_)
            refine lv_goto (tgt := 12) hx hb dX9_isMet_48 (by decide) ?_
            exact ih_12 (k9_12 + 1)  _ _ _ (by omega) (by omega)  ⟨hP.sub [0, 1, 2] rfl, hD.sub [0, 1, 2] (by decide) rfl⟩ hS (lv_sub hl [0, 1, 2] rfl)
