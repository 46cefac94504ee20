set_option maxHeartbeats 4000000 in
set_option maxRecDepth 100000 in
theorem m_firstWorth (l : Launch) (D : va_G) (cT : Nat → ClassId) (sz : Nat) (h0 : Nat) (g : Nat → Nat) (b0 : Int32) (b5 : Int32) (b6 : Int32) (b7 : Int32) (b8 : Int32) (b9 : Int32) (b10 : Int32) (b11 : Int32) (b12 : Int32) (b13 : Int32) (b14 : Int32) (b17 : Int32) (b18 : Int32) (b19 : Int32) (b23 : Int32) (b24 : Int32) (b25 : Int32) (b26 : Int32) (b27 : Int32) (b29 : Int32) (b31 : Int32) (b32 : Int32) (b33 : Int32) (hb5 : 0 ≤ b5.toInt ∧ b5.toInt ≤ 900) (a0 : Nat → Int32) (pa0 : PI 288 a0) (a4 : Nat → Int32) (hb24 : 0 ≤ b24.toInt ∧ b24.toInt ≤ 5) : Met l yX9_firstWorth (wsc yX9_firstWorth cX9_firstWorth 4 (some .int)) { frames := 3, cells := 0, slots := 0, locals := 123 } (va_Pc [.ref h0] (PX D cT sz [(sw_9 h0 g b0 b5 b6 b7 b8 b9 b10 b11 b12 b13 b14 b17 b18 b19 b23 b24 b25 b26 b27 b29 b31 b32 b33), (sw_in cT (g 0) 288 a0), (sw_in cT (g 4) 6 a4)])) (va_Qi (fun (r : Int32) (u : Unit) => (True)) (fun u t => RW D (va_A [(sw_9 h0 g b0 b5 b6 b7 b8 b9 b10 b11 b12 b13 b14 b17 b18 b19 b23 b24 b25 b26 b27 b29 b31 b32 b33), (sw_in cT (g 0) 288 a0), (sw_in cT (g 4) 6 a4)] sz) ((fun _ : Unit => [(sw_9 h0 g b0 b5 b6 b7 b8 b9 b10 b11 b12 b13 b14 b17 b18 b19 b23 b24 b25 b26 b27 b29 b31 b32 b33), (sw_in cT (g 0) 288 a0), (sw_in cT (g 4) 6 a4)]) u) t) (va_A [(sw_9 h0 g b0 b5 b6 b7 b8 b9 b10 b11 b12 b13 b14 b17 b18 b19 b23 b24 b25 b26 b27 b29 b31 b32 b33), (sw_in cT (g 0) 288 a0), (sw_in cT (g 4) 6 a4)] sz)) 0 0 (va_A [(sw_9 h0 g b0 b5 b6 b7 b8 b9 b10 b11 b12 b13 b14 b17 b18 b19 b23 b24 b25 b26 b27 b29 b31 b32 b33), (sw_in cT (g 0) 288 a0), (sw_in cT (g 4) 6 a4)] sz) := by
  refine m_of (y := yX9_firstWorth) (cc := cX9_firstWorth) (nL := 4) (ret := (some .int)) (D := D) (cT := cT) (av := [.ref h0]) (wi := [(sw_9 h0 g b0 b5 b6 b7 b8 b9 b10 b11 b12 b13 b14 b17 b18 b19 b23 b24 b25 b26 b27 b29 b31 b32 b33), (sw_in cT (g 0) 288 a0), (sw_in cT (g 4) 6 a4)]) (fun A => va_Qi (fun (r : Int32) (u : Unit) => (True)) (fun u t => RW D A ((fun _ : Unit => [(sw_9 h0 g b0 b5 b6 b7 b8 b9 b10 b11 b12 b13 b14 b17 b18 b19 b23 b24 b25 b26 b27 b29 b31 b32 b33), (sw_in cT (g 0) 288 a0), (sw_in cT (g 4) 6 a4)]) u) t) A) (by decide) (Nat.le_of_ble_eq_true rfl) ?_
  intro p e s m below meth c A hx hb hml hown htg hK hN hr hlk hnm hsz hP hD hS hA ls hl
  have hown : s.vm.findClass RX9 = some m.cls := hown
  have hl : lv_has ls 4 [(0, .ref h0)] := hl
  have tc_m1 : ((-1) : Int32).toInt = (-1) := by decide
  have tc_0 : (0 : Int32).toInt = 0 := by decide
  have tc_1 : (1 : Int32).toInt = 1 := by decide
  have tc_3 : (3 : Int32).toInt = 3 := by decide
  have tc_6 : (6 : Int32).toInt = 6 := by decide
  have tc_10 : (10 : Int32).toInt = 10 := by decide
  refine lv_aload_n hx hb dX9_firstWorth_0 rfl (lv_at hl 0 rfl) ?_
  refine va_get (D := D) (ci := 9) (v := .int b23) (C := RX9) (T := TX9) (N := 37) hx hb htg gRX9 hown hK hP 0 rfl rfl 23 (by decide) (htg _ wi_1173) (fun _ h9 => h9) rfl dX9_firstWorth_1 ?_
  refine lv_if_ne (tgt := 12) hx hb dX9_firstWorth_4 (by decide) (fun c_1 => ?_) (fun c_1 => ?_)
  · have ic_1 : ¬ b23.toInt = 0 := ine c_1 (rfl) (by decide)
    refine lv_aload_n hx hb dX9_firstWorth_12 rfl (lv_at hl 0 rfl) ?_
    refine va_get (D := D) (ci := 9) (v := .int b23) (C := RX9) (T := TX9) (N := 37) hx hb htg gRX9 hown hK hP 0 rfl rfl 23 (by decide) (htg _ wi_1173) (fun _ h9 => h9) rfl dX9_firstWorth_13 ?_
    refine lv_iconst (v := 3) hx hb dX9_firstWorth_16 (by decide) ?_
    refine lv_icmp_ne (tgt := 30) hx hb dX9_firstWorth_17 (by decide) (fun c_2 => ?_) (fun c_2 => ?_)
    · have ic_2 : ¬ b23.toInt = 3 := ine c_2 (rfl) (by decide)
      refine lv_iconst (v := 0) hx hb dX9_firstWorth_30 (by decide) ?_
      refine lv_istore_n (lv' := [(1, .int 0), (0, .ref h0)]) hx hb dX9_firstWorth_31 rfl hl (by decide) rfl (fun ls hl => ?_)
      refine lv_iconst (v := (-1)) hx hb dX9_firstWorth_32 (by decide) ?_
      refine lv_istore_n (lv' := [(2, .int (-1)), (1, .int 0), (0, .ref h0)]) hx hb dX9_firstWorth_33 rfl hl (by decide) rfl (fun ls hl => ?_)
      refine lv_iconst (v := 0) hx hb dX9_firstWorth_34 (by decide) ?_
      refine lv_istore_n (lv' := [(3, .int 0), (2, .int (-1)), (1, .int 0), (0, .ref h0)]) hx hb dX9_firstWorth_35 rfl hl (by decide) rfl (fun ls hl => ?_)
      refine (fun (key : ∀ (n9_36 : Nat) (k9_36 : Nat) (x9_36_2 : Int32) (x9_36_1 : Int32) (H : Heap) (locs : List Loc) (ls : Array Slot), (k9_36 : Int) ≤ 6 → 6 < (k9_36 : Int) + n9_36 → PD D A [(sw_9 h0 g b0 b5 b6 b7 b8 b9 b10 b11 b12 b13 b14 b17 b18 b19 b23 b24 b25 b26 b27 b29 b31 b32 b33), (sw_in cT (g 0) 288 a0), (sw_in cT (g 4) 6 a4)] H → va_S A s.heap H locs → lv_has ls 4 [(3, .int (nI k9_36)), (2, .int x9_36_2), (1, .int x9_36_1), (0, .ref h0)] → W p l e _ s m _ below meth c H locs _ _ _ (F0 m 36 ls [])) => key (Int.toNat (6 - 0) + 1) 0 _ _ _ _ _ (by omega) (by omega)  ⟨hP, hD⟩ hS (lv_sub hl [0, 1, 2, 3] rfl)) ?_
      intro n9_36
      induction n9_36 with
      | zero => intro k9_36 x9_36_2 x9_36_1 H locs ls hq1 hq2; exact absurd hq2 (by omega)
      | succ n9_36 ih_36 =>
        intro k9_36 x9_36_2 x9_36_1 H locs ls hq1_36 hq2_36  hPD hS hl
        obtain ⟨hP, hD⟩ := hPD
        have hk9_36 : (nI k9_36).toInt = (k9_36 : Int) := nI_toInt (by omega)
        refine lv_iload_n hx hb dX9_firstWorth_36 rfl (lv_at hl 0 rfl) ?_
        refine lv_bipush (v := 6) hx hb dX9_firstWorth_37 (by decide) ?_
        refine lv_icmp_ge (tgt := 97) hx hb dX9_firstWorth_39 (by decide) (fun c_3 => ?_) (fun c_3 => ?_)
        · have ic_3 : 6 ≤ ((k9_36 : Nat) : Int) := ile c_3 (by decide) (nI_toInt (by omega))
          refine lv_aload_n hx hb dX9_firstWorth_97 rfl (lv_at hl 3 rfl) ?_
          refine va_get (D := D) (ci := 9) (v := .int b23) (C := RX9) (T := TX9) (N := 37) hx hb htg gRX9 hown hK hP 0 rfl rfl 23 (by decide) (htg _ wi_1173) (fun _ h9 => h9) rfl dX9_firstWorth_98 ?_
          refine lv_iconst (v := 1) hx hb dX9_firstWorth_101 (by decide) ?_
          refine lv_icmp_ne (tgt := 109) hx hb dX9_firstWorth_102 (by decide) (fun c_4 => ?_) (fun c_4 => ?_)
          · have ic_4 : ¬ b23.toInt = 1 := ine c_4 (rfl) (by decide)
            refine lv_iload_n hx hb dX9_firstWorth_109 rfl (lv_at hl 1 rfl) ?_
            exact x_iret hx hb hr hlk hP hD hS [0, 1, 2] (()) rfl (by decide) trivial (by decide) (by decide) dX9_firstWorth_110
          · have ic_4 : b23.toInt = 1 := ieq c_4 (rfl) (by decide)
            refine lv_iload_n hx hb dX9_firstWorth_105 rfl (lv_at hl 2 rfl) ?_
            refine lv_goto (tgt := 110) hx hb dX9_firstWorth_106 (by decide) ?_
            exact x_iret hx hb hr hlk hP hD hS [0, 1, 2] (()) rfl (by decide) trivial (by decide) (by decide) dX9_firstWorth_110
        · have ic_3 : ((k9_36 : Nat) : Int) < 6 := inle c_3 (by decide) (nI_toInt (by omega))
          refine lv_iload_n hx hb dX9_firstWorth_42 rfl (lv_at hl 2 rfl) ?_
          refine lv_aload_n hx hb dX9_firstWorth_43 rfl (lv_at hl 3 rfl) ?_
          refine va_get (D := D) (ci := 9) (v := .ref (g 4)) (C := RX9) (T := TX9) (N := 37) hx hb htg gRX9 hown hK hP 0 rfl rfl 15 (by decide) (htg _ wi_1165) (fun _ h9 => h9) rfl dX9_firstWorth_44 ?_
          refine lv_iload_n hx hb dX9_firstWorth_47 rfl (lv_at hl 0 rfl) ?_
          refine va_iald hx hb hK hP 2 0 rfl rfl (vp_in_nI (by omega) (by omega)) dX9_firstWorth_48 ?_
          refine lv_topi (fun z_5 ez_5 => ?_)
          refine lv_aload_n hx hb dX9_firstWorth_49 rfl (lv_at hl 3 rfl) ?_
          refine va_get (D := D) (ci := 9) (v := .ref (g 0)) (C := RX9) (T := TX9) (N := 37) hx hb htg gRX9 hown hK hP 0 rfl rfl 1 (by decide) (htg _ wi_1151) (fun _ h9 => h9) rfl dX9_firstWorth_50 ?_
          refine lv_bipush (v := 10) hx hb dX9_firstWorth_53 (by decide) ?_
          refine lv_iload_n hx hb dX9_firstWorth_55 rfl (lv_at hl 0 rfl) ?_
          refine lv_iadd hx hb dX9_firstWorth_56 ?_
          refine lv_is (y := nI (10 + k9_36)) (nI_add 10 (k9_36)) ?_
          refine va_iald hx hb hK hP 1 0 rfl rfl (vp_in_nI (by omega) (by omega)) dX9_firstWorth_57 ?_
          refine lv_topi (fun z_6 ez_6 => ?_)
          refine lv_imul hx hb dX9_firstWorth_58 ?_
          refine lv_topi (fun z_7 ez_7 => ?_)
          refine lv_iadd hx hb dX9_firstWorth_59 ?_
          refine lv_topi (fun z_8 ez_8 => ?_)
          refine lv_istore_n (lv' := [(1, .int z_8), (3, .int (nI k9_36)), (2, .int x9_36_2), (0, .ref h0)]) hx hb dX9_firstWorth_60 rfl hl (by decide) rfl (fun ls hl => ?_)
          refine lv_aload_n hx hb dX9_firstWorth_61 rfl (lv_at hl 3 rfl) ?_
          refine lv_iload_n hx hb dX9_firstWorth_62 rfl (lv_at hl 1 rfl) ?_
          refine xk_i (wr := [(sw_in cT (g 4) 6 a4)]) (xr_V (n := 1) (As := [.int (nI k9_36)]) (rest := []) ⟨hx, hb, hml, hown, htg⟩ hK hN hP hD hS hA [0, 1] rfl (by decide) (m_stripsOf l D cT _ (h0) (g) (b0) (b5) (b6) (b7) (b8) (b9) (b10) (b11) (b12) (b13) (b14) (b17) (b18) (b19) (b23) (b24) (b25) (b26) (b27) (b29) (b31) (b32) (b33) (by first | assumption | omega | decide | exact Or.inl (by decide) | (intro h9; exact absurd h9 (by decide)) | (intro _; omega) | (intro _; assumption) | (intro _; decide)) (a0) (by first | assumption | omega | decide | exact Or.inl (by decide) | (intro h9; exact absurd h9 (by decide)) | (intro _; omega) | (intro _; assumption) | (intro _; decide)) ((nI k9_36))) wi_1371 wi_1373 wi_96 wi_131 wi_1374 rfl rfl rfl ⟨rfl, by decide +kernel⟩ ⟨Nat.le_of_ble_eq_true rfl, Nat.le_of_ble_eq_true rfl⟩ rfl hl.1 rfl (Nat.le_of_ble_eq_true rfl) dX9_firstWorth_63 ⟨Nat.le_of_ble_eq_true rfl, Nat.le_of_ble_eq_true rfl⟩) hP hD hS hA [0, 1] [2] rfl rfl (by decide) (by decide) (fun r_10 u_9 H locs hwr_10 hP hD hS => ?_)
          obtain ⟨hP, hD⟩ : PD D A [(sw_in cT (g 4) 6 a4), (sw_9 h0 g b0 b5 b6 b7 b8 b9 b10 b11 b12 b13 b14 b17 b18 b19 b23 b24 b25 b26 b27 b29 b31 b32 b33), (sw_in cT (g 0) 288 a0)] _ := ⟨hP, hD⟩
          refine lv_if_eq (tgt := 91) hx hb dX9_firstWorth_66 (by decide) (fun c_11 => ?_) (fun c_11 => ?_)
          · have ic_11 : r_10.toInt = 0 := ieq c_11 (rfl) (by decide)
            refine lv_iinc (v := (nI (k9_36 + 1))) (lv' := [(3, .int (nI (k9_36 + 1))), (1, .int z_8), (2, .int x9_36_2), (0, .ref h0)]) hx hb dX9_firstWorth_91 hl (k := 1) rfl (by exact nI_1 (k9_36)) (by decide) rfl (fun ls hl => ?_)
            refine lv_goto (tgt := 36) hx hb dX9_firstWorth_94 (by decide) ?_
            exact ih_36 (k9_36 + 1) _ _ _ _ _ (by omega) (by omega)  ⟨hP.sub [1, 2, 0] rfl, hD.sub [1, 2, 0] (by decide) rfl⟩ hS (lv_sub hl [0, 2, 1, 3] rfl)
          · have ic_11 : ¬ r_10.toInt = 0 := ine c_11 (rfl) (by decide)
            refine lv_iload_n hx hb dX9_firstWorth_69 rfl (lv_at hl 2 rfl) ?_
            refine lv_iconst (v := (-1)) hx hb dX9_firstWorth_70 (by decide) ?_
            refine lv_icmp_eq (tgt := 84) hx hb dX9_firstWorth_71 (by decide) (fun c_12 => ?_) (fun c_12 => ?_)
            · have ic_12 : x9_36_2.toInt = (-1) := ieq c_12 (rfl) (by decide)
              refine lv_aload_n hx hb dX9_firstWorth_84 rfl (lv_at hl 3 rfl) ?_
              refine va_get (D := D) (ci := 9) (v := .ref (g 4)) (C := RX9) (T := TX9) (N := 37) hx hb htg gRX9 hown hK hP 1 rfl rfl 15 (by decide) (htg _ wi_1165) (fun _ h9 => h9) rfl dX9_firstWorth_85 ?_
              refine lv_iload_n hx hb dX9_firstWorth_88 rfl (lv_at hl 1 rfl) ?_
              refine va_iald hx hb hK hP 0 0 rfl rfl (vp_in_nI (by omega) (by omega)) dX9_firstWorth_89 ?_
              refine lv_topi (fun z_13 ez_13 => ?_)
              refine lv_istore_n (lv' := [(2, .int z_13), (1, .int z_8), (3, .int (nI k9_36)), (0, .ref h0)]) hx hb dX9_firstWorth_90 rfl hl (by decide) rfl (fun ls hl => ?_)
              refine lv_iinc (v := (nI (k9_36 + 1))) (lv' := [(3, .int (nI (k9_36 + 1))), (2, .int z_13), (1, .int z_8), (0, .ref h0)]) hx hb dX9_firstWorth_91 hl (k := 2) rfl (by exact nI_1 (k9_36)) (by decide) rfl (fun ls hl => ?_)
              refine lv_goto (tgt := 36) hx hb dX9_firstWorth_94 (by decide) ?_
              exact ih_36 (k9_36 + 1) _ _ _ _ _ (by omega) (by omega)  ⟨hP.sub [1, 2, 0] rfl, hD.sub [1, 2, 0] (by decide) rfl⟩ hS (lv_sub hl [0, 1, 2, 3] rfl)
            · have ic_12 : ¬ x9_36_2.toInt = (-1) := ine c_12 (rfl) (by decide)
              refine lv_aload_n hx hb dX9_firstWorth_74 rfl (lv_at hl 3 rfl) ?_
              refine va_get (D := D) (ci := 9) (v := .ref (g 4)) (C := RX9) (T := TX9) (N := 37) hx hb htg gRX9 hown hK hP 1 rfl rfl 15 (by decide) (htg _ wi_1165) (fun _ h9 => h9) rfl dX9_firstWorth_75 ?_
              refine lv_iload_n hx hb dX9_firstWorth_78 rfl (lv_at hl 1 rfl) ?_
              refine va_iald hx hb hK hP 0 0 rfl rfl (vp_in_nI (by omega) (by omega)) dX9_firstWorth_79 ?_
              refine lv_topi (fun z_14 ez_14 => ?_)
              refine lv_iload_n hx hb dX9_firstWorth_80 rfl (lv_at hl 2 rfl) ?_
              refine lv_icmp_ge (tgt := 91) hx hb dX9_firstWorth_81 (by decide) (fun c_15 => ?_) (fun c_15 => ?_)
              · have ic_15 : x9_36_2.toInt ≤ z_14.toInt := ile c_15 (rfl) (rfl)
                refine lv_iinc (v := (nI (k9_36 + 1))) (lv' := [(3, .int (nI (k9_36 + 1))), (1, .int z_8), (2, .int x9_36_2), (0, .ref h0)]) hx hb dX9_firstWorth_91 hl (k := 1) rfl (by exact nI_1 (k9_36)) (by decide) rfl (fun ls hl => ?_)
                refine lv_goto (tgt := 36) hx hb dX9_firstWorth_94 (by decide) ?_
                exact ih_36 (k9_36 + 1) _ _ _ _ _ (by omega) (by omega)  ⟨hP.sub [1, 2, 0] rfl, hD.sub [1, 2, 0] (by decide) rfl⟩ hS (lv_sub hl [0, 2, 1, 3] rfl)
              · have ic_15 : z_14.toInt < x9_36_2.toInt := inle c_15 (rfl) (rfl)
                refine lv_aload_n hx hb dX9_firstWorth_84 rfl (lv_at hl 3 rfl) ?_
                refine va_get (D := D) (ci := 9) (v := .ref (g 4)) (C := RX9) (T := TX9) (N := 37) hx hb htg gRX9 hown hK hP 1 rfl rfl 15 (by decide) (htg _ wi_1165) (fun _ h9 => h9) rfl dX9_firstWorth_85 ?_
                refine lv_iload_n hx hb dX9_firstWorth_88 rfl (lv_at hl 1 rfl) ?_
                refine va_iald hx hb hK hP 0 0 rfl rfl (vp_in_nI (by omega) (by omega)) dX9_firstWorth_89 ?_
                refine lv_topi (fun z_16 ez_16 => ?_)
                refine lv_istore_n (lv' := [(2, .int z_16), (1, .int z_8), (3, .int (nI k9_36)), (0, .ref h0)]) hx hb dX9_firstWorth_90 rfl hl (by decide) rfl (fun ls hl => ?_)
                refine lv_iinc (v := (nI (k9_36 + 1))) (lv' := [(3, .int (nI (k9_36 + 1))), (2, .int z_16), (1, .int z_8), (0, .ref h0)]) hx hb dX9_firstWorth_91 hl (k := 2) rfl (by exact nI_1 (k9_36)) (by decide) rfl (fun ls hl => ?_)
                refine lv_goto (tgt := 36) hx hb dX9_firstWorth_94 (by decide) ?_
                exact ih_36 (k9_36 + 1) _ _ _ _ _ (by omega) (by omega)  ⟨hP.sub [1, 2, 0] rfl, hD.sub [1, 2, 0] (by decide) rfl⟩ hS (lv_sub hl [0, 1, 2, 3] rfl)
    · have ic_2 : b23.toInt = 3 := ieq c_2 (rfl) (by decide)
      refine lv_aload_n hx hb dX9_firstWorth_20 rfl (lv_at hl 0 rfl) ?_
      refine va_get (D := D) (ci := 9) (v := .ref (g 4)) (C := RX9) (T := TX9) (N := 37) hx hb htg gRX9 hown hK hP 0 rfl rfl 15 (by decide) (htg _ wi_1165) (fun _ h9 => h9) rfl dX9_firstWorth_21 ?_
      refine lv_aload_n hx hb dX9_firstWorth_24 rfl (lv_at hl 0 rfl) ?_
      refine va_get (D := D) (ci := 9) (v := .int b24) (C := RX9) (T := TX9) (N := 37) hx hb htg gRX9 hown hK hP 0 rfl rfl 24 (by decide) (htg _ wi_1174) (fun _ h9 => h9) rfl dX9_firstWorth_25 ?_
      refine va_iald hx hb hK hP 2 0 rfl rfl (vp_in_iff.mpr (by omega)) dX9_firstWorth_28 ?_
      refine lv_topi (fun z_17 ez_17 => ?_)
      exact x_iret hx hb hr hlk hP hD hS [0, 1, 2] (()) rfl (by decide) trivial (by decide) (by decide) dX9_firstWorth_29
  · have ic_1 : b23.toInt = 0 := ieq c_1 (rfl) (by decide)
    refine lv_aload_n hx hb dX9_firstWorth_7 rfl (lv_at hl 0 rfl) ?_
    refine xk_i (wr := [(sw_in cT (g 0) 288 a0)]) (xr_V (n := 0) (As := []) (rest := []) ⟨hx, hb, hml, hown, htg⟩ hK hN hP hD hS hA [0, 2] rfl (by decide) (m_total l D cT _ (h0) (g) (b0) (b5) (b6) (b7) (b8) (b9) (b10) (b11) (b12) (b13) (b14) (b17) (b18) (b19) (b23) (b24) (b25) (b26) (b27) (b29) (b31) (b32) (b33) (by first | assumption | omega | decide | exact Or.inl (by decide) | (intro h9; exact absurd h9 (by decide)) | (intro _; omega) | (intro _; assumption) | (intro _; decide)) (a4)) wi_1494 wi_1496 wi_110 wi_131 wi_1497 rfl rfl rfl ⟨rfl, by decide +kernel⟩ ⟨Nat.le_of_ble_eq_true rfl, Nat.le_of_ble_eq_true rfl⟩ rfl hl.1 rfl (Nat.le_of_ble_eq_true rfl) dX9_firstWorth_8 ⟨Nat.le_of_ble_eq_true rfl, Nat.le_of_ble_eq_true rfl⟩) hP hD hS hA [0, 2] [1] rfl rfl (by decide) (by decide) (fun r_19 u_18 H locs hwr_19 hP hD hS => ?_)
    obtain ⟨hP, hD⟩ : PD D A [(sw_in cT (g 0) 288 a0), (sw_9 h0 g b0 b5 b6 b7 b8 b9 b10 b11 b12 b13 b14 b17 b18 b19 b23 b24 b25 b26 b27 b29 b31 b32 b33), (sw_in cT (g 4) 6 a4)] _ := ⟨hP, hD⟩
    exact x_iret hx hb hr hlk hP hD hS [1, 0, 2] (()) rfl (by decide) trivial (by decide) (by decide) dX9_firstWorth_11
