set_option maxHeartbeats 4000000 in
set_option maxRecDepth 100000 in
theorem g_canLight_9 (l : Launch) (D : va_G) (cT : Nat → ClassId) (sz : Nat) (b0 : Nat) (b1 : Nat) (f0 : Nat → Int32) (f1 : Nat → Int32) (x : Int32) (y : Int32) (z : Int32) (hz : z.toInt ≤ 9) : Met l yX0_canLight (wsc yX0_canLight cX0_canLight 8 (some .boolean)) { frames := 12, cells := 0, slots := 0, locals := 364 } (va_Pc [.ref b0, .ref b1, .int x, .int y, .int z] (PX D cT sz [(sw_in cT b0 16 f0), (sw_in cT b1 16 f1)])) (va_Qi (fun (r : Int32) (u : Unit) => True) (fun u t => RW D (va_A [(sw_in cT b0 16 f0), (sw_in cT b1 16 f1)] sz) ((fun _ : Unit => [(sw_in cT b0 16 f0), (sw_in cT b1 16 f1)]) u) t) (va_A [(sw_in cT b0 16 f0), (sw_in cT b1 16 f1)] sz)) 0 0 (va_A [(sw_in cT b0 16 f0), (sw_in cT b1 16 f1)] sz) := by
  refine m_of (y := yX0_canLight) (cc := cX0_canLight) (nL := 8) (ret := (some .boolean)) (D := D) (cT := cT) (av := [.ref b0, .ref b1, .int x, .int y, .int z]) (wi := [(sw_in cT b0 16 f0), (sw_in cT b1 16 f1)]) (fun A => va_Qi (fun (r : Int32) (u : Unit) => True) (fun u t => RW D A ((fun _ : Unit => [(sw_in cT b0 16 f0), (sw_in cT b1 16 f1)]) u) t) A) (by decide) (Nat.le_of_ble_eq_true rfl) ?_
  intro p e s m below meth c A hx hb hml hown htg hK hN hr hlk hnm hsz hP hD hS hA ls hl
  have hown : s.vm.findClass RX0 = some m.cls := hown
  have hl : lv_has ls 8 [(0, .ref b0), (1, .ref b1), (2, .int x), (3, .int y), (4, .int z)] := hl
  refine lv_iload_n hx hb dX0_canLight_0 rfl (lv_at hl 2 rfl) ?_
  refine lv_if_ne (tgt := 6) hx hb dX0_canLight_1 (by decide) (fun c_1 => ?_) (fun c_1 => ?_)
  · have ic_1 : ¬ x.toInt = 0 := ine c_1 (rfl) (by decide)
    refine lv_iload_n hx hb dX0_canLight_6 rfl (lv_at hl 2 rfl) ?_
    refine xk_i (wr := [(sw_in cT b0 16 f0), (sw_in cT b1 16 f1)]) (xr_S (n := 1) (As := [.int x]) (rest := []) ⟨hx, hb, hml, hown, htg⟩ hK hN hP hD hS hA [] rfl (by decide) (g_ntz l D cT _ (x)) wi_1026 wi_1027 wi_138 wi_1028 ⟨rfl, by decide +kernel⟩ ⟨Nat.le_of_ble_eq_true rfl, Nat.le_of_ble_eq_true rfl⟩ rfl hl.1 rfl (Nat.le_of_ble_eq_true rfl) dX0_canLight_7 ⟨Nat.le_of_ble_eq_true rfl, Nat.le_of_ble_eq_true rfl⟩) hP hD hS hA [] [0, 1] rfl rfl (by decide) (by decide) (fun r_3 u_2 H locs hwr_3 hP hD hS => ?_)
    obtain ⟨hP, hD⟩ : PD D A [(sw_in cT b0 16 f0), (sw_in cT b1 16 f1)] _ := ⟨hP, hD⟩
    have qr_3_0 : 0 ≤ r_3.toInt ∧ r_3.toInt ≤ 2147483647 := hwr_3.1
    refine lv_istore (lv' := [(5, .int r_3), (0, .ref b0), (1, .ref b1), (2, .int x), (3, .int y), (4, .int z)]) hx hb dX0_canLight_10 hl (by decide) rfl (fun ls hl => ?_)
    refine lv_iload hx hb dX0_canLight_12 (lv_at hl 5 rfl) ?_
    refine lv_if_le (tgt := 24) hx hb dX0_canLight_14 (by decide) (fun c_4 => ?_) (fun c_4 => ?_)
    · have ic_4 : z.toInt ≤ 0 := ile c_4 (rfl) (by decide)
      refine lv_iconst (v := 0) hx hb dX0_canLight_24 (by decide) ?_
      exact x_zret hx hb hr hlk hP hD hS [0, 1] (()) rfl (by decide) rfl trivial (by decide) (by decide) dX0_canLight_25
    · have ic_4 : 0 < z.toInt := inle c_4 (rfl) (by decide)
      refine lv_iload hx hb dX0_canLight_17 (lv_at hl 0 rfl) ?_
      refine lv_bipush (v := 16) hx hb dX0_canLight_19 (by decide) ?_
      refine lv_icmp_lt (tgt := 26) hx hb dX0_canLight_21 (by decide) (fun c_5 => ?_) (fun c_5 => ?_)
      · have ic_5 : r_3.toInt < 16 := ilt c_5 (rfl) (by decide)
        refine lv_aload_n hx hb dX0_canLight_26 rfl (lv_at hl 2 rfl) ?_
        refine lv_iload hx hb dX0_canLight_27 (lv_at hl 0 rfl) ?_
        refine va_iald hx hb hK hP 1 0 rfl rfl (vp_in_iff.mpr (by omega)) dX0_canLight_29 ?_
        refine lv_topi (fun z_6 ez_6 => ?_)
        refine lv_iload_n hx hb dX0_canLight_30 rfl (lv_at hl 4 rfl) ?_
        refine lv_iand hx hb dX0_canLight_31 ?_
        refine lv_topi (fun z_7 ez_7 => ?_)
        refine lv_istore (lv' := [(6, .int z_7), (5, .int r_3), (0, .ref b0), (1, .ref b1), (2, .int x), (3, .int y), (4, .int z)]) hx hb dX0_canLight_32 hl (by decide) rfl (fun ls hl => ?_)
        refine lv_iconst (v := 0) hx hb dX0_canLight_34 (by decide) ?_
        refine lv_istore (lv' := [(7, .int 0), (6, .int z_7), (5, .int r_3), (0, .ref b0), (1, .ref b1), (2, .int x), (3, .int y), (4, .int z)]) hx hb dX0_canLight_35 hl (by decide) rfl (fun ls hl => ?_)
        refine (fun (key : ∀ (n9_37 : Nat) (k9_37 : Nat)  (H : Heap) (locs : List Loc) (ls : Array Slot), (k9_37 : Int) ≤ 16 → 16 < (k9_37 : Int) + n9_37 → PD D A [(sw_in cT b0 16 f0), (sw_in cT b1 16 f1)] H → va_S A s.heap H locs → lv_has ls 8 [(7, .int (nI k9_37)), (6, .int z_7), (5, .int r_3), (0, .ref b0), (1, .ref b1), (2, .int x), (3, .int y), (4, .int z)] → W p l e _ s m _ below meth c H locs _ _ _ (F0 m 37 ls [])) => key (Int.toNat (16 - 0) + 1) 0  _ _ _ (by omega) (by omega)  ⟨hP, hD⟩ hS (lv_sub hl [0, 1, 2, 3, 4, 5, 6, 7] rfl)) ?_
        intro n9_37
        induction n9_37 with
        | zero => intro k9_37  H locs ls hq1 hq2; exact absurd hq2 (by omega)
        | succ n9_37 ih_37 =>
          intro k9_37  H locs ls hq1_37 hq2_37  hPD hS hl
          obtain ⟨hP, hD⟩ := hPD
          have hk9_37 : (nI k9_37).toInt = (k9_37 : Int) := nI_toInt (by omega)
          refine lv_iload hx hb dX0_canLight_37 (lv_at hl 0 rfl) ?_
          refine lv_bipush (v := 16) hx hb dX0_canLight_39 (by decide) ?_
          refine lv_icmp_ge (tgt := 83) hx hb dX0_canLight_41 (by decide) (fun c_8 => ?_) (fun c_8 => ?_)
          · have ic_8 : 16 ≤ ((k9_37 : Nat) : Int) := ile c_8 (by decide) (nI_toInt (by omega))
            refine lv_iconst (v := 0) hx hb dX0_canLight_83 (by decide) ?_
            exact x_zret hx hb hr hlk hP hD hS [0, 1] (()) rfl (by decide) rfl trivial (by decide) (by decide) dX0_canLight_84
          · have ic_8 : ((k9_37 : Nat) : Int) < 16 := inle c_8 (by decide) (nI_toInt (by omega))
            refine lv_iload hx hb dX0_canLight_44 (lv_at hl 1 rfl) ?_
            refine lv_iload hx hb dX0_canLight_46 (lv_at hl 0 rfl) ?_
            refine lv_ishr hx hb dX0_canLight_48 ?_
            refine lv_topi (fun z_9 ez_9 => ?_)
            refine lv_iconst (v := 1) hx hb dX0_canLight_49 (by decide) ?_
            refine lv_iand hx hb dX0_canLight_50 ?_
            refine lv_topi (fun z_10 ez_10 => ?_)
            have iz_10 : 0 ≤ z_10.toInt ∧ z_10.toInt ≤ 1 := andI ez_10 (by decide) (by decide)
            refine lv_if_eq (tgt := 77) hx hb dX0_canLight_51 (by decide) (fun c_11 => ?_) (fun c_11 => ?_)
            · have ic_11 : z_10.toInt = 0 := ieq c_11 (rfl) (by decide)
              refine lv_iinc (v := (nI (k9_37 + 1))) (lv' := [(7, .int (nI (k9_37 + 1))), (6, .int z_7), (5, .int r_3), (0, .ref b0), (1, .ref b1), (2, .int x), (3, .int y), (4, .int z)]) hx hb dX0_canLight_77 hl (k := 0) rfl (by exact nI_1 (k9_37)) (by decide) rfl (fun ls hl => ?_)
              refine lv_goto (tgt := 37) hx hb dX0_canLight_80 (by decide) ?_
              exact ih_37 (k9_37 + 1)  _ _ _ (by omega) (by omega)  ⟨hP.sub [0, 1] rfl, hD.sub [0, 1] (by decide) rfl⟩ hS (lv_sub hl [0, 1, 2, 3, 4, 5, 6, 7] rfl)
            · have ic_11 : ¬ z_10.toInt = 0 := ine c_11 (rfl) (by decide)
              refine lv_aload_n hx hb dX0_canLight_54 rfl (lv_at hl 3 rfl) ?_
              refine lv_aload_n hx hb dX0_canLight_55 rfl (lv_at hl 4 rfl) ?_
              refine lv_iload_n hx hb dX0_canLight_56 rfl (lv_at hl 5 rfl) ?_
              refine lv_aload_n hx hb dX0_canLight_57 rfl (lv_at hl 3 rfl) ?_
              refine lv_iload hx hb dX0_canLight_58 (lv_at hl 0 rfl) ?_
              refine va_iald hx hb hK hP 0 0 rfl rfl (vp_in_nI (by omega) (by omega)) dX0_canLight_60 ?_
              refine lv_topi (fun z_12 ez_12 => ?_)
              refine lv_iconst (v := (-1)) hx hb dX0_canLight_61 (by decide) ?_
              refine lv_ixor hx hb dX0_canLight_62 ?_
              refine lv_topi (fun z_13 ez_13 => ?_)
              refine lv_iand hx hb dX0_canLight_63 ?_
              refine lv_topi (fun z_14 ez_14 => ?_)
              refine lv_iload_n hx hb dX0_canLight_64 rfl (lv_at hl 6 rfl) ?_
              refine lv_iload hx hb dX0_canLight_65 (lv_at hl 7 rfl) ?_
              refine lv_iconst (v := 1) hx hb dX0_canLight_67 (by decide) ?_
              refine lv_isub hx hb dX0_canLight_68 ?_
              refine lv_topi (fun z_15 ez_15 => ?_)
              have iz_15 : z_15.toInt = z.toInt - 1 := toInt_subI ez_15 (rfl) (by decide) (by omega)
              refine xk_i (wr := []) (xr_S (n := 5) (As := [.ref b0, .ref b1, .int z_14, .int y, .int z_15]) (rest := []) ⟨hx, hb, hml, hown, htg⟩ hK hN hP hD hS hA [0, 1] rfl (by decide) (g_canLight_8 l D cT _ (b0) (b1) (f0) (f1) (z_14) (y) (z_15) (by first | assumption | decide | omega | (simp only [ti_0, ti_1, ti_2, ti_3, ti_4, ti_5, ti_6, ti_7, ti_8, ti_9, ti_10, ti_11, ti_12, ti_m1]; omega))) wi_1023 wi_1024 wi_129 wi_1025 ⟨rfl, by decide +kernel⟩ ⟨Nat.le_of_ble_eq_true rfl, Nat.le_of_ble_eq_true rfl⟩ rfl hl.1 rfl (Nat.le_of_ble_eq_true rfl) dX0_canLight_69 ⟨Nat.le_of_ble_eq_true rfl, Nat.le_of_ble_eq_true rfl⟩) hP hD hS hA [0, 1] [] rfl rfl (by decide) (by decide) (fun r_17 u_16 H locs hwr_17 hP hD hS => ?_)
              obtain ⟨hP, hD⟩ : PD D A [(sw_in cT b0 16 f0), (sw_in cT b1 16 f1)] _ := ⟨hP, hD⟩
              refine lv_if_eq (tgt := 77) hx hb dX0_canLight_72 (by decide) (fun c_18 => ?_) (fun c_18 => ?_)
              · have ic_18 : r_17.toInt = 0 := ieq c_18 (rfl) (by decide)
                refine lv_iinc (v := (nI (k9_37 + 1))) (lv' := [(7, .int (nI (k9_37 + 1))), (6, .int z_7), (5, .int r_3), (0, .ref b0), (1, .ref b1), (2, .int x), (3, .int y), (4, .int z)]) hx hb dX0_canLight_77 hl (k := 0) rfl (by exact nI_1 (k9_37)) (by decide) rfl (fun ls hl => ?_)
                refine lv_goto (tgt := 37) hx hb dX0_canLight_80 (by decide) ?_
                exact ih_37 (k9_37 + 1)  _ _ _ (by omega) (by omega)  ⟨hP.sub [0, 1] rfl, hD.sub [0, 1] (by decide) rfl⟩ hS (lv_sub hl [0, 1, 2, 3, 4, 5, 6, 7] rfl)
              · have ic_18 : ¬ r_17.toInt = 0 := ine c_18 (rfl) (by decide)
                refine lv_iconst (v := 1) hx hb dX0_canLight_75 (by decide) ?_
                exact x_zret hx hb hr hlk hP hD hS [0, 1] (()) rfl (by decide) rfl trivial (by decide) (by decide) dX0_canLight_76
      · have ic_5 : 16 ≤ r_3.toInt := inlt c_5 (rfl) (by decide)
        refine lv_iconst (v := 0) hx hb dX0_canLight_24 (by decide) ?_
        exact x_zret hx hb hr hlk hP hD hS [0, 1] (()) rfl (by decide) rfl trivial (by decide) (by decide) dX0_canLight_25
  · have ic_1 : x.toInt = 0 := ieq c_1 (rfl) (by decide)
    refine lv_iconst (v := 1) hx hb dX0_canLight_4 (by decide) ?_
    exact x_zret hx hb hr hlk hP hD hS [0, 1] (()) rfl (by decide) rfl trivial (by decide) (by decide) dX0_canLight_5
set_option maxHeartbeats 4000000 in
set_option maxRecDepth 100000 in
theorem g_canLight_10 (l : Launch) (D : va_G) (cT : Nat → ClassId) (sz : Nat) (b0 : Nat) (b1 : Nat) (f0 : Nat → Int32) (f1 : Nat → Int32) (x : Int32) (y : Int32) (z : Int32) (hz : z.toInt ≤ 10) : Met l yX0_canLight (wsc yX0_canLight cX0_canLight 8 (some .boolean)) { frames := 13, cells := 0, slots := 0, locals := 391 } (va_Pc [.ref b0, .ref b1, .int x, .int y, .int z] (PX D cT sz [(sw_in cT b0 16 f0), (sw_in cT b1 16 f1)])) (va_Qi (fun (r : Int32) (u : Unit) => True) (fun u t => RW D (va_A [(sw_in cT b0 16 f0), (sw_in cT b1 16 f1)] sz) ((fun _ : Unit => [(sw_in cT b0 16 f0), (sw_in cT b1 16 f1)]) u) t) (va_A [(sw_in cT b0 16 f0), (sw_in cT b1 16 f1)] sz)) 0 0 (va_A [(sw_in cT b0 16 f0), (sw_in cT b1 16 f1)] sz) := by
  refine m_of (y := yX0_canLight) (cc := cX0_canLight) (nL := 8) (ret := (some .boolean)) (D := D) (cT := cT) (av := [.ref b0, .ref b1, .int x, .int y, .int z]) (wi := [(sw_in cT b0 16 f0), (sw_in cT b1 16 f1)]) (fun A => va_Qi (fun (r : Int32) (u : Unit) => True) (fun u t => RW D A ((fun _ : Unit => [(sw_in cT b0 16 f0), (sw_in cT b1 16 f1)]) u) t) A) (by decide) (Nat.le_of_ble_eq_true rfl) ?_
  intro p e s m below meth c A hx hb hml hown htg hK hN hr hlk hnm hsz hP hD hS hA ls hl
  have hown : s.vm.findClass RX0 = some m.cls := hown
  have hl : lv_has ls 8 [(0, .ref b0), (1, .ref b1), (2, .int x), (3, .int y), (4, .int z)] := hl
  refine lv_iload_n hx hb dX0_canLight_0 rfl (lv_at hl 2 rfl) ?_
  refine lv_if_ne (tgt := 6) hx hb dX0_canLight_1 (by decide) (fun c_1 => ?_) (fun c_1 => ?_)
  · have ic_1 : ¬ x.toInt = 0 := ine c_1 (rfl) (by decide)
    refine lv_iload_n hx hb dX0_canLight_6 rfl (lv_at hl 2 rfl) ?_
    refine xk_i (wr := [(sw_in cT b0 16 f0), (sw_in cT b1 16 f1)]) (xr_S (n := 1) (As := [.int x]) (rest := []) ⟨hx, hb, hml, hown, htg⟩ hK hN hP hD hS hA [] rfl (by decide) (g_ntz l D cT _ (x)) wi_1026 wi_1027 wi_138 wi_1028 ⟨rfl, by decide +kernel⟩ ⟨Nat.le_of_ble_eq_true rfl, Nat.le_of_ble_eq_true rfl⟩ rfl hl.1 rfl (Nat.le_of_ble_eq_true rfl) dX0_canLight_7 ⟨Nat.le_of_ble_eq_true rfl, Nat.le_of_ble_eq_true rfl⟩) hP hD hS hA [] [0, 1] rfl rfl (by decide) (by decide) (fun r_3 u_2 H locs hwr_3 hP hD hS => ?_)
    obtain ⟨hP, hD⟩ : PD D A [(sw_in cT b0 16 f0), (sw_in cT b1 16 f1)] _ := ⟨hP, hD⟩
    have qr_3_0 : 0 ≤ r_3.toInt ∧ r_3.toInt ≤ 2147483647 := hwr_3.1
    refine lv_istore (lv' := [(5, .int r_3), (0, .ref b0), (1, .ref b1), (2, .int x), (3, .int y), (4, .int z)]) hx hb dX0_canLight_10 hl (by decide) rfl (fun ls hl => ?_)
    refine lv_iload hx hb dX0_canLight_12 (lv_at hl 5 rfl) ?_
    refine lv_if_le (tgt := 24) hx hb dX0_canLight_14 (by decide) (fun c_4 => ?_) (fun c_4 => ?_)
    · have ic_4 : z.toInt ≤ 0 := ile c_4 (rfl) (by decide)
      refine lv_iconst (v := 0) hx hb dX0_canLight_24 (by decide) ?_
      exact x_zret hx hb hr hlk hP hD hS [0, 1] (()) rfl (by decide) rfl trivial (by decide) (by decide) dX0_canLight_25
    · have ic_4 : 0 < z.toInt := inle c_4 (rfl) (by decide)
      refine lv_iload hx hb dX0_canLight_17 (lv_at hl 0 rfl) ?_
      refine lv_bipush (v := 16) hx hb dX0_canLight_19 (by decide) ?_
      refine lv_icmp_lt (tgt := 26) hx hb dX0_canLight_21 (by decide) (fun c_5 => ?_) (fun c_5 => ?_)
      · have ic_5 : r_3.toInt < 16 := ilt c_5 (rfl) (by decide)
        refine lv_aload_n hx hb dX0_canLight_26 rfl (lv_at hl 2 rfl) ?_
        refine lv_iload hx hb dX0_canLight_27 (lv_at hl 0 rfl) ?_
        refine va_iald hx hb hK hP 1 0 rfl rfl (vp_in_iff.mpr (by omega)) dX0_canLight_29 ?_
        refine lv_topi (fun z_6 ez_6 => ?_)
        refine lv_iload_n hx hb dX0_canLight_30 rfl (lv_at hl 4 rfl) ?_
        refine lv_iand hx hb dX0_canLight_31 ?_
        refine lv_topi (fun z_7 ez_7 => ?_)
        refine lv_istore (lv' := [(6, .int z_7), (5, .int r_3), (0, .ref b0), (1, .ref b1), (2, .int x), (3, .int y), (4, .int z)]) hx hb dX0_canLight_32 hl (by decide) rfl (fun ls hl => ?_)
        refine lv_iconst (v := 0) hx hb dX0_canLight_34 (by decide) ?_
        refine lv_istore (lv' := [(7, .int 0), (6, .int z_7), (5, .int r_3), (0, .ref b0), (1, .ref b1), (2, .int x), (3, .int y), (4, .int z)]) hx hb dX0_canLight_35 hl (by decide) rfl (fun ls hl => ?_)
        refine (fun (key : ∀ (n9_37 : Nat) (k9_37 : Nat)  (H : Heap) (locs : List Loc) (ls : Array Slot), (k9_37 : Int) ≤ 16 → 16 < (k9_37 : Int) + n9_37 → PD D A [(sw_in cT b0 16 f0), (sw_in cT b1 16 f1)] H → va_S A s.heap H locs → lv_has ls 8 [(7, .int (nI k9_37)), (6, .int z_7), (5, .int r_3), (0, .ref b0), (1, .ref b1), (2, .int x), (3, .int y), (4, .int z)] → W p l e _ s m _ below meth c H locs _ _ _ (F0 m 37 ls [])) => key (Int.toNat (16 - 0) + 1) 0  _ _ _ (by omega) (by omega)  ⟨hP, hD⟩ hS (lv_sub hl [0, 1, 2, 3, 4, 5, 6, 7] rfl)) ?_
        intro n9_37
        induction n9_37 with
        | zero => intro k9_37  H locs ls hq1 hq2; exact absurd hq2 (by omega)
        | succ n9_37 ih_37 =>
          intro k9_37  H locs ls hq1_37 hq2_37  hPD hS hl
          obtain ⟨hP, hD⟩ := hPD
          have hk9_37 : (nI k9_37).toInt = (k9_37 : Int) := nI_toInt (by omega)
          refine lv_iload hx hb dX0_canLight_37 (lv_at hl 0 rfl) ?_
          refine lv_bipush (v := 16) hx hb dX0_canLight_39 (by decide) ?_
          refine lv_icmp_ge (tgt := 83) hx hb dX0_canLight_41 (by decide) (fun c_8 => ?_) (fun c_8 => ?_)
          · have ic_8 : 16 ≤ ((k9_37 : Nat) : Int) := ile c_8 (by decide) (nI_toInt (by omega))
            refine lv_iconst (v := 0) hx hb dX0_canLight_83 (by decide) ?_
            exact x_zret hx hb hr hlk hP hD hS [0, 1] (()) rfl (by decide) rfl trivial (by decide) (by decide) dX0_canLight_84
          · have ic_8 : ((k9_37 : Nat) : Int) < 16 := inle c_8 (by decide) (nI_toInt (by omega))
            refine lv_iload hx hb dX0_canLight_44 (lv_at hl 1 rfl) ?_
            refine lv_iload hx hb dX0_canLight_46 (lv_at hl 0 rfl) ?_
            refine lv_ishr hx hb dX0_canLight_48 ?_
            refine lv_topi (fun z_9 ez_9 => ?_)
            refine lv_iconst (v := 1) hx hb dX0_canLight_49 (by decide) ?_
            refine lv_iand hx hb dX0_canLight_50 ?_
            refine lv_topi (fun z_10 ez_10 => ?_)
            have iz_10 : 0 ≤ z_10.toInt ∧ z_10.toInt ≤ 1 := andI ez_10 (by decide) (by decide)
            refine lv_if_eq (tgt := 77) hx hb dX0_canLight_51 (by decide) (fun c_11 => ?_) (fun c_11 => ?_)
            · have ic_11 : z_10.toInt = 0 := ieq c_11 (rfl) (by decide)
              refine lv_iinc (v := (nI (k9_37 + 1))) (lv' := [(7, .int (nI (k9_37 + 1))), (6, .int z_7), (5, .int r_3), (0, .ref b0), (1, .ref b1), (2, .int x), (3, .int y), (4, .int z)]) hx hb dX0_canLight_77 hl (k := 0) rfl (by exact nI_1 (k9_37)) (by decide) rfl (fun ls hl => ?_)
              refine lv_goto (tgt := 37) hx hb dX0_canLight_80 (by decide) ?_
              exact ih_37 (k9_37 + 1)  _ _ _ (by omega) (by omega)  ⟨hP.sub [0, 1] rfl, hD.sub [0, 1] (by decide) rfl⟩ hS (lv_sub hl [0, 1, 2, 3, 4, 5, 6, 7] rfl)
            · have ic_11 : ¬ z_10.toInt = 0 := ine c_11 (rfl) (by decide)
              refine lv_aload_n hx hb dX0_canLight_54 rfl (lv_at hl 3 rfl) ?_
              refine lv_aload_n hx hb dX0_canLight_55 rfl (lv_at hl 4 rfl) ?_
              refine lv_iload_n hx hb dX0_canLight_56 rfl (lv_at hl 5 rfl) ?_
              refine lv_aload_n hx hb dX0_canLight_57 rfl (lv_at hl 3 rfl) ?_
              refine lv_iload hx hb dX0_canLight_58 (lv_at hl 0 rfl) ?_
              refine va_iald hx hb hK hP 0 0 rfl rfl (vp_in_nI (by omega) (by omega)) dX0_canLight_60 ?_
              refine lv_topi (fun z_12 ez_12 => ?_)
              refine lv_iconst (v := (-1)) hx hb dX0_canLight_61 (by decide) ?_
              refine lv_ixor hx hb dX0_canLight_62 ?_
              refine lv_topi (fun z_13 ez_13 => ?_)
              refine lv_iand hx hb dX0_canLight_63 ?_
              refine lv_topi (fun z_14 ez_14 => ?_)
              refine lv_iload_n hx hb dX0_canLight_64 rfl (lv_at hl 6 rfl) ?_
              refine lv_iload hx hb dX0_canLight_65 (lv_at hl 7 rfl) ?_
              refine lv_iconst (v := 1) hx hb dX0_canLight_67 (by decide) ?_
              refine lv_isub hx hb dX0_canLight_68 ?_
              refine lv_topi (fun z_15 ez_15 => ?_)
              have iz_15 : z_15.toInt = z.toInt - 1 := toInt_subI ez_15 (rfl) (by decide) (by omega)
              refine xk_i (wr := []) (xr_S (n := 5) (As := [.ref b0, .ref b1, .int z_14, .int y, .int z_15]) (rest := []) ⟨hx, hb, hml, hown, htg⟩ hK hN hP hD hS hA [0, 1] rfl (by decide) (g_canLight_9 l D cT _ (b0) (b1) (f0) (f1) (z_14) (y) (z_15) (by first | assumption | decide | omega | (simp only [ti_0, ti_1, ti_2, ti_3, ti_4, ti_5, ti_6, ti_7, ti_8, ti_9, ti_10, ti_11, ti_12, ti_m1]; omega))) wi_1023 wi_1024 wi_129 wi_1025 ⟨rfl, by decide +kernel⟩ ⟨Nat.le_of_ble_eq_true rfl, Nat.le_of_ble_eq_true rfl⟩ rfl hl.1 rfl (Nat.le_of_ble_eq_true rfl) dX0_canLight_69 ⟨Nat.le_of_ble_eq_true rfl, Nat.le_of_ble_eq_true rfl⟩) hP hD hS hA [0, 1] [] rfl rfl (by decide) (by decide) (fun r_17 u_16 H locs hwr_17 hP hD hS => ?_)
              obtain ⟨hP, hD⟩ : PD D A [(sw_in cT b0 16 f0), (sw_in cT b1 16 f1)] _ := ⟨hP, hD⟩
              refine lv_if_eq (tgt := 77) hx hb dX0_canLight_72 (by decide) (fun c_18 => ?_) (fun c_18 => ?_)
              · have ic_18 : r_17.toInt = 0 := ieq c_18 (rfl) (by decide)
                refine lv_iinc (v := (nI (k9_37 + 1))) (lv' := [(7, .int (nI (k9_37 + 1))), (6, .int z_7), (5, .int r_3), (0, .ref b0), (1, .ref b1), (2, .int x), (3, .int y), (4, .int z)]) hx hb dX0_canLight_77 hl (k := 0) rfl (by exact nI_1 (k9_37)) (by decide) rfl (fun ls hl => ?_)
                refine lv_goto (tgt := 37) hx hb dX0_canLight_80 (by decide) ?_
                exact ih_37 (k9_37 + 1)  _ _ _ (by omega) (by omega)  ⟨hP.sub [0, 1] rfl, hD.sub [0, 1] (by decide) rfl⟩ hS (lv_sub hl [0, 1, 2, 3, 4, 5, 6, 7] rfl)
              · have ic_18 : ¬ r_17.toInt = 0 := ine c_18 (rfl) (by decide)
                refine lv_iconst (v := 1) hx hb dX0_canLight_75 (by decide) ?_
                exact x_zret hx hb hr hlk hP hD hS [0, 1] (()) rfl (by decide) rfl trivial (by decide) (by decide) dX0_canLight_76
      · have ic_5 : 16 ≤ r_3.toInt := inlt c_5 (rfl) (by decide)
        refine lv_iconst (v := 0) hx hb dX0_canLight_24 (by decide) ?_
        exact x_zret hx hb hr hlk hP hD hS [0, 1] (()) rfl (by decide) rfl trivial (by decide) (by decide) dX0_canLight_25
  · have ic_1 : x.toInt = 0 := ieq c_1 (rfl) (by decide)
    refine lv_iconst (v := 1) hx hb dX0_canLight_4 (by decide) ?_
    exact x_zret hx hb hr hlk hP hD hS [0, 1] (()) rfl (by decide) rfl trivial (by decide) (by decide) dX0_canLight_5
set_option maxHeartbeats 4000000 in
set_option maxRecDepth 100000 in
theorem g_canLight_11 (l : Launch) (D : va_G) (cT : Nat → ClassId) (sz : Nat) (b0 : Nat) (b1 : Nat) (f0 : Nat → Int32) (f1 : Nat → Int32) (x : Int32) (y : Int32) (z : Int32) (hz : z.toInt ≤ 11) : Met l yX0_canLight (wsc yX0_canLight cX0_canLight 8 (some .boolean)) { frames := 14, cells := 0, slots := 0, locals := 418 } (va_Pc [.ref b0, .ref b1, .int x, .int y, .int z] (PX D cT sz [(sw_in cT b0 16 f0), (sw_in cT b1 16 f1)])) (va_Qi (fun (r : Int32) (u : Unit) => True) (fun u t => RW D (va_A [(sw_in cT b0 16 f0), (sw_in cT b1 16 f1)] sz) ((fun _ : Unit => [(sw_in cT b0 16 f0), (sw_in cT b1 16 f1)]) u) t) (va_A [(sw_in cT b0 16 f0), (sw_in cT b1 16 f1)] sz)) 0 0 (va_A [(sw_in cT b0 16 f0), (sw_in cT b1 16 f1)] sz) := by
  refine m_of (y := yX0_canLight) (cc := cX0_canLight) (nL := 8) (ret := (some .boolean)) (D := D) (cT := cT) (av := [.ref b0, .ref b1, .int x, .int y, .int z]) (wi := [(sw_in cT b0 16 f0), (sw_in cT b1 16 f1)]) (fun A => va_Qi (fun (r : Int32) (u : Unit) => True) (fun u t => RW D A ((fun _ : Unit => [(sw_in cT b0 16 f0), (sw_in cT b1 16 f1)]) u) t) A) (by decide) (Nat.le_of_ble_eq_true rfl) ?_
  intro p e s m below meth c A hx hb hml hown htg hK hN hr hlk hnm hsz hP hD hS hA ls hl
  have hown : s.vm.findClass RX0 = some m.cls := hown
  have hl : lv_has ls 8 [(0, .ref b0), (1, .ref b1), (2, .int x), (3, .int y), (4, .int z)] := hl
  refine lv_iload_n hx hb dX0_canLight_0 rfl (lv_at hl 2 rfl) ?_
  refine lv_if_ne (tgt := 6) hx hb dX0_canLight_1 (by decide) (fun c_1 => ?_) (fun c_1 => ?_)
  · have ic_1 : ¬ x.toInt = 0 := ine c_1 (rfl) (by decide)
    refine lv_iload_n hx hb dX0_canLight_6 rfl (lv_at hl 2 rfl) ?_
    refine xk_i (wr := [(sw_in cT b0 16 f0), (sw_in cT b1 16 f1)]) (xr_S (n := 1) (As := [.int x]) (rest := []) ⟨hx, hb, hml, hown, htg⟩ hK hN hP hD hS hA [] rfl (by decide) (g_ntz l D cT _ (x)) wi_1026 wi_1027 wi_138 wi_1028 ⟨rfl, by decide +kernel⟩ ⟨Nat.le_of_ble_eq_true rfl, Nat.le_of_ble_eq_true rfl⟩ rfl hl.1 rfl (Nat.le_of_ble_eq_true rfl) dX0_canLight_7 ⟨Nat.le_of_ble_eq_true rfl, Nat.le_of_ble_eq_true rfl⟩) hP hD hS hA [] [0, 1] rfl rfl (by decide) (by decide) (fun r_3 u_2 H locs hwr_3 hP hD hS => ?_)
    obtain ⟨hP, hD⟩ : PD D A [(sw_in cT b0 16 f0), (sw_in cT b1 16 f1)] _ := ⟨hP, hD⟩
    have qr_3_0 : 0 ≤ r_3.toInt ∧ r_3.toInt ≤ 2147483647 := hwr_3.1
    refine lv_istore (lv' := [(5, .int r_3), (0, .ref b0), (1, .ref b1), (2, .int x), (3, .int y), (4, .int z)]) hx hb dX0_canLight_10 hl (by decide) rfl (fun ls hl => ?_)
    refine lv_iload hx hb dX0_canLight_12 (lv_at hl 5 rfl) ?_
    refine lv_if_le (tgt := 24) hx hb dX0_canLight_14 (by decide) (fun c_4 => ?_) (fun c_4 => ?_)
    · have ic_4 : z.toInt ≤ 0 := ile c_4 (rfl) (by decide)
      refine lv_iconst (v := 0) hx hb dX0_canLight_24 (by decide) ?_
      exact x_zret hx hb hr hlk hP hD hS [0, 1] (()) rfl (by decide) rfl trivial (by decide) (by decide) dX0_canLight_25
    · have ic_4 : 0 < z.toInt := inle c_4 (rfl) (by decide)
      refine lv_iload hx hb dX0_canLight_17 (lv_at hl 0 rfl) ?_
      refine lv_bipush (v := 16) hx hb dX0_canLight_19 (by decide) ?_
      refine lv_icmp_lt (tgt := 26) hx hb dX0_canLight_21 (by decide) (fun c_5 => ?_) (fun c_5 => ?_)
      · have ic_5 : r_3.toInt < 16 := ilt c_5 (rfl) (by decide)
        refine lv_aload_n hx hb dX0_canLight_26 rfl (lv_at hl 2 rfl) ?_
        refine lv_iload hx hb dX0_canLight_27 (lv_at hl 0 rfl) ?_
        refine va_iald hx hb hK hP 1 0 rfl rfl (vp_in_iff.mpr (by omega)) dX0_canLight_29 ?_
        refine lv_topi (fun z_6 ez_6 => ?_)
        refine lv_iload_n hx hb dX0_canLight_30 rfl (lv_at hl 4 rfl) ?_
        refine lv_iand hx hb dX0_canLight_31 ?_
        refine lv_topi (fun z_7 ez_7 => ?_)
        refine lv_istore (lv' := [(6, .int z_7), (5, .int r_3), (0, .ref b0), (1, .ref b1), (2, .int x), (3, .int y), (4, .int z)]) hx hb dX0_canLight_32 hl (by decide) rfl (fun ls hl => ?_)
        refine lv_iconst (v := 0) hx hb dX0_canLight_34 (by decide) ?_
        refine lv_istore (lv' := [(7, .int 0), (6, .int z_7), (5, .int r_3), (0, .ref b0), (1, .ref b1), (2, .int x), (3, .int y), (4, .int z)]) hx hb dX0_canLight_35 hl (by decide) rfl (fun ls hl => ?_)
        refine (fun (key : ∀ (n9_37 : Nat) (k9_37 : Nat)  (H : Heap) (locs : List Loc) (ls : Array Slot), (k9_37 : Int) ≤ 16 → 16 < (k9_37 : Int) + n9_37 → PD D A [(sw_in cT b0 16 f0), (sw_in cT b1 16 f1)] H → va_S A s.heap H locs → lv_has ls 8 [(7, .int (nI k9_37)), (6, .int z_7), (5, .int r_3), (0, .ref b0), (1, .ref b1), (2, .int x), (3, .int y), (4, .int z)] → W p l e _ s m _ below meth c H locs _ _ _ (F0 m 37 ls [])) => key (Int.toNat (16 - 0) + 1) 0  _ _ _ (by omega) (by omega)  ⟨hP, hD⟩ hS (lv_sub hl [0, 1, 2, 3, 4, 5, 6, 7] rfl)) ?_
        intro n9_37
        induction n9_37 with
        | zero => intro k9_37  H locs ls hq1 hq2; exact absurd hq2 (by omega)
        | succ n9_37 ih_37 =>
          intro k9_37  H locs ls hq1_37 hq2_37  hPD hS hl
          obtain ⟨hP, hD⟩ := hPD
          have hk9_37 : (nI k9_37).toInt = (k9_37 : Int) := nI_toInt (by omega)
          refine lv_iload hx hb dX0_canLight_37 (lv_at hl 0 rfl) ?_
          refine lv_bipush (v := 16) hx hb dX0_canLight_39 (by decide) ?_
          refine lv_icmp_ge (tgt := 83) hx hb dX0_canLight_41 (by decide) (fun c_8 => ?_) (fun c_8 => ?_)
          · have ic_8 : 16 ≤ ((k9_37 : Nat) : Int) := ile c_8 (by decide) (nI_toInt (by omega))
            refine lv_iconst (v := 0) hx hb dX0_canLight_83 (by decide) ?_
            exact x_zret hx hb hr hlk hP hD hS [0, 1] (()) rfl (by decide) rfl trivial (by decide) (by decide) dX0_canLight_84
          · have ic_8 : ((k9_37 : Nat) : Int) < 16 := inle c_8 (by decide) (nI_toInt (by omega))
            refine lv_iload hx hb dX0_canLight_44 (lv_at hl 1 rfl) ?_
            refine lv_iload hx hb dX0_canLight_46 (lv_at hl 0 rfl) ?_
            refine lv_ishr hx hb dX0_canLight_48 ?_
            refine lv_topi (fun z_9 ez_9 => ?_)
            refine lv_iconst (v := 1) hx hb dX0_canLight_49 (by decide) ?_
            refine lv_iand hx hb dX0_canLight_50 ?_
            refine lv_topi (fun z_10 ez_10 => ?_)
            have iz_10 : 0 ≤ z_10.toInt ∧ z_10.toInt ≤ 1 := andI ez_10 (by decide) (by decide)
            refine lv_if_eq (tgt := 77) hx hb dX0_canLight_51 (by decide) (fun c_11 => ?_) (fun c_11 => ?_)
            · have ic_11 : z_10.toInt = 0 := ieq c_11 (rfl) (by decide)
              refine lv_iinc (v := (nI (k9_37 + 1))) (lv' := [(7, .int (nI (k9_37 + 1))), (6, .int z_7), (5, .int r_3), (0, .ref b0), (1, .ref b1), (2, .int x), (3, .int y), (4, .int z)]) hx hb dX0_canLight_77 hl (k := 0) rfl (by exact nI_1 (k9_37)) (by decide) rfl (fun ls hl => ?_)
              refine lv_goto (tgt := 37) hx hb dX0_canLight_80 (by decide) ?_
              exact ih_37 (k9_37 + 1)  _ _ _ (by omega) (by omega)  ⟨hP.sub [0, 1] rfl, hD.sub [0, 1] (by decide) rfl⟩ hS (lv_sub hl [0, 1, 2, 3, 4, 5, 6, 7] rfl)
            · have ic_11 : ¬ z_10.toInt = 0 := ine c_11 (rfl) (by decide)
              refine lv_aload_n hx hb dX0_canLight_54 rfl (lv_at hl 3 rfl) ?_
              refine lv_aload_n hx hb dX0_canLight_55 rfl (lv_at hl 4 rfl) ?_
              refine lv_iload_n hx hb dX0_canLight_56 rfl (lv_at hl 5 rfl) ?_
              refine lv_aload_n hx hb dX0_canLight_57 rfl (lv_at hl 3 rfl) ?_
              refine lv_iload hx hb dX0_canLight_58 (lv_at hl 0 rfl) ?_
              refine va_iald hx hb hK hP 0 0 rfl rfl (vp_in_nI (by omega) (by omega)) dX0_canLight_60 ?_
              refine lv_topi (fun z_12 ez_12 => ?_)
              refine lv_iconst (v := (-1)) hx hb dX0_canLight_61 (by decide) ?_
              refine lv_ixor hx hb dX0_canLight_62 ?_
              refine lv_topi (fun z_13 ez_13 => ?_)
              refine lv_iand hx hb dX0_canLight_63 ?_
              refine lv_topi (fun z_14 ez_14 => ?_)
              refine lv_iload_n hx hb dX0_canLight_64 rfl (lv_at hl 6 rfl) ?_
              refine lv_iload hx hb dX0_canLight_65 (lv_at hl 7 rfl) ?_
              refine lv_iconst (v := 1) hx hb dX0_canLight_67 (by decide) ?_
              refine lv_isub hx hb dX0_canLight_68 ?_
              refine lv_topi (fun z_15 ez_15 => ?_)
              have iz_15 : z_15.toInt = z.toInt - 1 := toInt_subI ez_15 (rfl) (by decide) (by omega)
              refine xk_i (wr := []) (xr_S (n := 5) (As := [.ref b0, .ref b1, .int z_14, .int y, .int z_15]) (rest := []) ⟨hx, hb, hml, hown, htg⟩ hK hN hP hD hS hA [0, 1] rfl (by decide) (g_canLight_10 l D cT _ (b0) (b1) (f0) (f1) (z_14) (y) (z_15) (by first | assumption | decide | omega | (simp only [ti_0, ti_1, ti_2, ti_3, ti_4, ti_5, ti_6, ti_7, ti_8, ti_9, ti_10, ti_11, ti_12, ti_m1]; omega))) wi_1023 wi_1024 wi_129 wi_1025 ⟨rfl, by decide +kernel⟩ ⟨Nat.le_of_ble_eq_true rfl, Nat.le_of_ble_eq_true rfl⟩ rfl hl.1 rfl (Nat.le_of_ble_eq_true rfl) dX0_canLight_69 ⟨Nat.le_of_ble_eq_true rfl, Nat.le_of_ble_eq_true rfl⟩) hP hD hS hA [0, 1] [] rfl rfl (by decide) (by decide) (fun r_17 u_16 H locs hwr_17 hP hD hS => ?_)
              obtain ⟨hP, hD⟩ : PD D A [(sw_in cT b0 16 f0), (sw_in cT b1 16 f1)] _ := ⟨hP, hD⟩
              refine lv_if_eq (tgt := 77) hx hb dX0_canLight_72 (by decide) (fun c_18 => ?_) (fun c_18 => ?_)
              · have ic_18 : r_17.toInt = 0 := ieq c_18 (rfl) (by decide)
                refine lv_iinc (v := (nI (k9_37 + 1))) (lv' := [(7, .int (nI (k9_37 + 1))), (6, .int z_7), (5, .int r_3), (0, .ref b0), (1, .ref b1), (2, .int x), (3, .int y), (4, .int z)]) hx hb dX0_canLight_77 hl (k := 0) rfl (by exact nI_1 (k9_37)) (by decide) rfl (fun ls hl => ?_)
                refine lv_goto (tgt := 37) hx hb dX0_canLight_80 (by decide) ?_
                exact ih_37 (k9_37 + 1)  _ _ _ (by omega) (by omega)  ⟨hP.sub [0, 1] rfl, hD.sub [0, 1] (by decide) rfl⟩ hS (lv_sub hl [0, 1, 2, 3, 4, 5, 6, 7] rfl)
              · have ic_18 : ¬ r_17.toInt = 0 := ine c_18 (rfl) (by decide)
                refine lv_iconst (v := 1) hx hb dX0_canLight_75 (by decide) ?_
                exact x_zret hx hb hr hlk hP hD hS [0, 1] (()) rfl (by decide) rfl trivial (by decide) (by decide) dX0_canLight_76
      · have ic_5 : 16 ≤ r_3.toInt := inlt c_5 (rfl) (by decide)
        refine lv_iconst (v := 0) hx hb dX0_canLight_24 (by decide) ?_
        exact x_zret hx hb hr hlk hP hD hS [0, 1] (()) rfl (by decide) rfl trivial (by decide) (by decide) dX0_canLight_25
  · have ic_1 : x.toInt = 0 := ieq c_1 (rfl) (by decide)
    refine lv_iconst (v := 1) hx hb dX0_canLight_4 (by decide) ?_
    exact x_zret hx hb hr hlk hP hD hS [0, 1] (()) rfl (by decide) rfl trivial (by decide) (by decide) dX0_canLight_5
set_option maxHeartbeats 4000000 in
set_option maxRecDepth 100000 in
theorem g_canLight_12 (l : Launch) (D : va_G) (cT : Nat → ClassId) (sz : Nat) (b0 : Nat) (b1 : Nat) (f0 : Nat → Int32) (f1 : Nat → Int32) (x : Int32) (y : Int32) (z : Int32) (hz : z.toInt ≤ 12) : Met l yX0_canLight (wsc yX0_canLight cX0_canLight 8 (some .boolean)) { frames := 15, cells := 0, slots := 0, locals := 445 } (va_Pc [.ref b0, .ref b1, .int x, .int y, .int z] (PX D cT sz [(sw_in cT b0 16 f0), (sw_in cT b1 16 f1)])) (va_Qi (fun (r : Int32) (u : Unit) => True) (fun u t => RW D (va_A [(sw_in cT b0 16 f0), (sw_in cT b1 16 f1)] sz) ((fun _ : Unit => [(sw_in cT b0 16 f0), (sw_in cT b1 16 f1)]) u) t) (va_A [(sw_in cT b0 16 f0), (sw_in cT b1 16 f1)] sz)) 0 0 (va_A [(sw_in cT b0 16 f0), (sw_in cT b1 16 f1)] sz) := by
  refine m_of (y := yX0_canLight) (cc := cX0_canLight) (nL := 8) (ret := (some .boolean)) (D := D) (cT := cT) (av := [.ref b0, .ref b1, .int x, .int y, .int z]) (wi := [(sw_in cT b0 16 f0), (sw_in cT b1 16 f1)]) (fun A => va_Qi (fun (r : Int32) (u : Unit) => True) (fun u t => RW D A ((fun _ : Unit => [(sw_in cT b0 16 f0), (sw_in cT b1 16 f1)]) u) t) A) (by decide) (Nat.le_of_ble_eq_true rfl) ?_
  intro p e s m below meth c A hx hb hml hown htg hK hN hr hlk hnm hsz hP hD hS hA ls hl
  have hown : s.vm.findClass RX0 = some m.cls := hown
  have hl : lv_has ls 8 [(0, .ref b0), (1, .ref b1), (2, .int x), (3, .int y), (4, .int z)] := hl
  refine lv_iload_n hx hb dX0_canLight_0 rfl (lv_at hl 2 rfl) ?_
  refine lv_if_ne (tgt := 6) hx hb dX0_canLight_1 (by decide) (fun c_1 => ?_) (fun c_1 => ?_)
  · have ic_1 : ¬ x.toInt = 0 := ine c_1 (rfl) (by decide)
    refine lv_iload_n hx hb dX0_canLight_6 rfl (lv_at hl 2 rfl) ?_
    refine xk_i (wr := [(sw_in cT b0 16 f0), (sw_in cT b1 16 f1)]) (xr_S (n := 1) (As := [.int x]) (rest := []) ⟨hx, hb, hml, hown, htg⟩ hK hN hP hD hS hA [] rfl (by decide) (g_ntz l D cT _ (x)) wi_1026 wi_1027 wi_138 wi_1028 ⟨rfl, by decide +kernel⟩ ⟨Nat.le_of_ble_eq_true rfl, Nat.le_of_ble_eq_true rfl⟩ rfl hl.1 rfl (Nat.le_of_ble_eq_true rfl) dX0_canLight_7 ⟨Nat.le_of_ble_eq_true rfl, Nat.le_of_ble_eq_true rfl⟩) hP hD hS hA [] [0, 1] rfl rfl (by decide) (by decide) (fun r_3 u_2 H locs hwr_3 hP hD hS => ?_)
    obtain ⟨hP, hD⟩ : PD D A [(sw_in cT b0 16 f0), (sw_in cT b1 16 f1)] _ := ⟨hP, hD⟩
    have qr_3_0 : 0 ≤ r_3.toInt ∧ r_3.toInt ≤ 2147483647 := hwr_3.1
    refine lv_istore (lv' := [(5, .int r_3), (0, .ref b0), (1, .ref b1), (2, .int x), (3, .int y), (4, .int z)]) hx hb dX0_canLight_10 hl (by decide) rfl (fun ls hl => ?_)
    refine lv_iload hx hb dX0_canLight_12 (lv_at hl 5 rfl) ?_
    refine lv_if_le (tgt := 24) hx hb dX0_canLight_14 (by decide) (fun c_4 => ?_) (fun c_4 => ?_)
    · have ic_4 : z.toInt ≤ 0 := ile c_4 (rfl) (by decide)
      refine lv_iconst (v := 0) hx hb dX0_canLight_24 (by decide) ?_
      exact x_zret hx hb hr hlk hP hD hS [0, 1] (()) rfl (by decide) rfl trivial (by decide) (by decide) dX0_canLight_25
    · have ic_4 : 0 < z.toInt := inle c_4 (rfl) (by decide)
      refine lv_iload hx hb dX0_canLight_17 (lv_at hl 0 rfl) ?_
      refine lv_bipush (v := 16) hx hb dX0_canLight_19 (by decide) ?_
      refine lv_icmp_lt (tgt := 26) hx hb dX0_canLight_21 (by decide) (fun c_5 => ?_) (fun c_5 => ?_)
      · have ic_5 : r_3.toInt < 16 := ilt c_5 (rfl) (by decide)
        refine lv_aload_n hx hb dX0_canLight_26 rfl (lv_at hl 2 rfl) ?_
        refine lv_iload hx hb dX0_canLight_27 (lv_at hl 0 rfl) ?_
        refine va_iald hx hb hK hP 1 0 rfl rfl (vp_in_iff.mpr (by omega)) dX0_canLight_29 ?_
        refine lv_topi (fun z_6 ez_6 => ?_)
        refine lv_iload_n hx hb dX0_canLight_30 rfl (lv_at hl 4 rfl) ?_
        refine lv_iand hx hb dX0_canLight_31 ?_
        refine lv_topi (fun z_7 ez_7 => ?_)
        refine lv_istore (lv' := [(6, .int z_7), (5, .int r_3), (0, .ref b0), (1, .ref b1), (2, .int x), (3, .int y), (4, .int z)]) hx hb dX0_canLight_32 hl (by decide) rfl (fun ls hl => ?_)
        refine lv_iconst (v := 0) hx hb dX0_canLight_34 (by decide) ?_
        refine lv_istore (lv' := [(7, .int 0), (6, .int z_7), (5, .int r_3), (0, .ref b0), (1, .ref b1), (2, .int x), (3, .int y), (4, .int z)]) hx hb dX0_canLight_35 hl (by decide) rfl (fun ls hl => ?_)
        refine (fun (key : ∀ (n9_37 : Nat) (k9_37 : Nat)  (H : Heap) (locs : List Loc) (ls : Array Slot), (k9_37 : Int) ≤ 16 → 16 < (k9_37 : Int) + n9_37 → PD D A [(sw_in cT b0 16 f0), (sw_in cT b1 16 f1)] H → va_S A s.heap H locs → lv_has ls 8 [(7, .int (nI k9_37)), (6, .int z_7), (5, .int r_3), (0, .ref b0), (1, .ref b1), (2, .int x), (3, .int y), (4, .int z)] → W p l e _ s m _ below meth c H locs _ _ _ (F0 m 37 ls [])) => key (Int.toNat (16 - 0) + 1) 0  _ _ _ (by omega) (by omega)  ⟨hP, hD⟩ hS (lv_sub hl [0, 1, 2, 3, 4, 5, 6, 7] rfl)) ?_
        intro n9_37
        induction n9_37 with
        | zero => intro k9_37  H locs ls hq1 hq2; exact absurd hq2 (by omega)
        | succ n9_37 ih_37 =>
          intro k9_37  H locs ls hq1_37 hq2_37  hPD hS hl
          obtain ⟨hP, hD⟩ := hPD
          have hk9_37 : (nI k9_37).toInt = (k9_37 : Int) := nI_toInt (by omega)
          refine lv_iload hx hb dX0_canLight_37 (lv_at hl 0 rfl) ?_
          refine lv_bipush (v := 16) hx hb dX0_canLight_39 (by decide) ?_
          refine lv_icmp_ge (tgt := 83) hx hb dX0_canLight_41 (by decide) (fun c_8 => ?_) (fun c_8 => ?_)
          · have ic_8 : 16 ≤ ((k9_37 : Nat) : Int) := ile c_8 (by decide) (nI_toInt (by omega))
            refine lv_iconst (v := 0) hx hb dX0_canLight_83 (by decide) ?_
            exact x_zret hx hb hr hlk hP hD hS [0, 1] (()) rfl (by decide) rfl trivial (by decide) (by decide) dX0_canLight_84
          · have ic_8 : ((k9_37 : Nat) : Int) < 16 := inle c_8 (by decide) (nI_toInt (by omega))
            refine lv_iload hx hb dX0_canLight_44 (lv_at hl 1 rfl) ?_
            refine lv_iload hx hb dX0_canLight_46 (lv_at hl 0 rfl) ?_
            refine lv_ishr hx hb dX0_canLight_48 ?_
            refine lv_topi (fun z_9 ez_9 => ?_)
            refine lv_iconst (v := 1) hx hb dX0_canLight_49 (by decide) ?_
            refine lv_iand hx hb dX0_canLight_50 ?_
            refine lv_topi (fun z_10 ez_10 => ?_)
            have iz_10 : 0 ≤ z_10.toInt ∧ z_10.toInt ≤ 1 := andI ez_10 (by decide) (by decide)
            refine lv_if_eq (tgt := 77) hx hb dX0_canLight_51 (by decide) (fun c_11 => ?_) (fun c_11 => ?_)
            · have ic_11 : z_10.toInt = 0 := ieq c_11 (rfl) (by decide)
              refine lv_iinc (v := (nI (k9_37 + 1))) (lv' := [(7, .int (nI (k9_37 + 1))), (6, .int z_7), (5, .int r_3), (0, .ref b0), (1, .ref b1), (2, .int x), (3, .int y), (4, .int z)]) hx hb dX0_canLight_77 hl (k := 0) rfl (by exact nI_1 (k9_37)) (by decide) rfl (fun ls hl => ?_)
              refine lv_goto (tgt := 37) hx hb dX0_canLight_80 (by decide) ?_
              exact ih_37 (k9_37 + 1)  _ _ _ (by omega) (by omega)  ⟨hP.sub [0, 1] rfl, hD.sub [0, 1] (by decide) rfl⟩ hS (lv_sub hl [0, 1, 2, 3, 4, 5, 6, 7] rfl)
            · have ic_11 : ¬ z_10.toInt = 0 := ine c_11 (rfl) (by decide)
              refine lv_aload_n hx hb dX0_canLight_54 rfl (lv_at hl 3 rfl) ?_
              refine lv_aload_n hx hb dX0_canLight_55 rfl (lv_at hl 4 rfl) ?_
              refine lv_iload_n hx hb dX0_canLight_56 rfl (lv_at hl 5 rfl) ?_
              refine lv_aload_n hx hb dX0_canLight_57 rfl (lv_at hl 3 rfl) ?_
              refine lv_iload hx hb dX0_canLight_58 (lv_at hl 0 rfl) ?_
              refine va_iald hx hb hK hP 0 0 rfl rfl (vp_in_nI (by omega) (by omega)) dX0_canLight_60 ?_
              refine lv_topi (fun z_12 ez_12 => ?_)
              refine lv_iconst (v := (-1)) hx hb dX0_canLight_61 (by decide) ?_
              refine lv_ixor hx hb dX0_canLight_62 ?_
              refine lv_topi (fun z_13 ez_13 => ?_)
              refine lv_iand hx hb dX0_canLight_63 ?_
              refine lv_topi (fun z_14 ez_14 => ?_)
              refine lv_iload_n hx hb dX0_canLight_64 rfl (lv_at hl 6 rfl) ?_
              refine lv_iload hx hb dX0_canLight_65 (lv_at hl 7 rfl) ?_
              refine lv_iconst (v := 1) hx hb dX0_canLight_67 (by decide) ?_
              refine lv_isub hx hb dX0_canLight_68 ?_
              refine lv_topi (fun z_15 ez_15 => ?_)
              have iz_15 : z_15.toInt = z.toInt - 1 := toInt_subI ez_15 (rfl) (by decide) (by omega)
              refine xk_i (wr := []) (xr_S (n := 5) (As := [.ref b0, .ref b1, .int z_14, .int y, .int z_15]) (rest := []) ⟨hx, hb, hml, hown, htg⟩ hK hN hP hD hS hA [0, 1] rfl (by decide) (g_canLight_11 l D cT _ (b0) (b1) (f0) (f1) (z_14) (y) (z_15) (by first | assumption | decide | omega | (simp only [ti_0, ti_1, ti_2, ti_3, ti_4, ti_5, ti_6, ti_7, ti_8, ti_9, ti_10, ti_11, ti_12, ti_m1]; omega))) wi_1023 wi_1024 wi_129 wi_1025 ⟨rfl, by decide +kernel⟩ ⟨Nat.le_of_ble_eq_true rfl, Nat.le_of_ble_eq_true rfl⟩ rfl hl.1 rfl (Nat.le_of_ble_eq_true rfl) dX0_canLight_69 ⟨Nat.le_of_ble_eq_true rfl, Nat.le_of_ble_eq_true rfl⟩) hP hD hS hA [0, 1] [] rfl rfl (by decide) (by decide) (fun r_17 u_16 H locs hwr_17 hP hD hS => ?_)
              obtain ⟨hP, hD⟩ : PD D A [(sw_in cT b0 16 f0), (sw_in cT b1 16 f1)] _ := ⟨hP, hD⟩
              refine lv_if_eq (tgt := 77) hx hb dX0_canLight_72 (by decide) (fun c_18 => ?_) (fun c_18 => ?_)
              · have ic_18 : r_17.toInt = 0 := ieq c_18 (rfl) (by decide)
                refine lv_iinc (v := (nI (k9_37 + 1))) (lv' := [(7, .int (nI (k9_37 + 1))), (6, .int z_7), (5, .int r_3), (0, .ref b0), (1, .ref b1), (2, .int x), (3, .int y), (4, .int z)]) hx hb dX0_canLight_77 hl (k := 0) rfl (by exact nI_1 (k9_37)) (by decide) rfl (fun ls hl => ?_)
                refine lv_goto (tgt := 37) hx hb dX0_canLight_80 (by decide) ?_
                exact ih_37 (k9_37 + 1)  _ _ _ (by omega) (by omega)  ⟨hP.sub [0, 1] rfl, hD.sub [0, 1] (by decide) rfl⟩ hS (lv_sub hl [0, 1, 2, 3, 4, 5, 6, 7] rfl)
              · have ic_18 : ¬ r_17.toInt = 0 := ine c_18 (rfl) (by decide)
                refine lv_iconst (v := 1) hx hb dX0_canLight_75 (by decide) ?_
                exact x_zret hx hb hr hlk hP hD hS [0, 1] (()) rfl (by decide) rfl trivial (by decide) (by decide) dX0_canLight_76
      · have ic_5 : 16 ≤ r_3.toInt := inlt c_5 (rfl) (by decide)
        refine lv_iconst (v := 0) hx hb dX0_canLight_24 (by decide) ?_
        exact x_zret hx hb hr hlk hP hD hS [0, 1] (()) rfl (by decide) rfl trivial (by decide) (by decide) dX0_canLight_25
  · have ic_1 : x.toInt = 0 := ieq c_1 (rfl) (by decide)
    refine lv_iconst (v := 1) hx hb dX0_canLight_4 (by decide) ?_
    exact x_zret hx hb hr hlk hP hD hS [0, 1] (()) rfl (by decide) rfl trivial (by decide) (by decide) dX0_canLight_5
set_option maxHeartbeats 4000000 in
set_option maxRecDepth 100000 in
theorem g_canLight_13 (l : Launch) (D : va_G) (cT : Nat → ClassId) (sz : Nat) (b0 : Nat) (b1 : Nat) (f0 : Nat → Int32) (f1 : Nat → Int32) (x : Int32) (y : Int32) (z : Int32) (hz : z.toInt ≤ 13) : Met l yX0_canLight (wsc yX0_canLight cX0_canLight 8 (some .boolean)) { frames := 16, cells := 0, slots := 0, locals := 472 } (va_Pc [.ref b0, .ref b1, .int x, .int y, .int z] (PX D cT sz [(sw_in cT b0 16 f0), (sw_in cT b1 16 f1)])) (va_Qi (fun (r : Int32) (u : Unit) => True) (fun u t => RW D (va_A [(sw_in cT b0 16 f0), (sw_in cT b1 16 f1)] sz) ((fun _ : Unit => [(sw_in cT b0 16 f0), (sw_in cT b1 16 f1)]) u) t) (va_A [(sw_in cT b0 16 f0), (sw_in cT b1 16 f1)] sz)) 0 0 (va_A [(sw_in cT b0 16 f0), (sw_in cT b1 16 f1)] sz) := by
  refine m_of (y := yX0_canLight) (cc := cX0_canLight) (nL := 8) (ret := (some .boolean)) (D := D) (cT := cT) (av := [.ref b0, .ref b1, .int x, .int y, .int z]) (wi := [(sw_in cT b0 16 f0), (sw_in cT b1 16 f1)]) (fun A => va_Qi (fun (r : Int32) (u : Unit) => True) (fun u t => RW D A ((fun _ : Unit => [(sw_in cT b0 16 f0), (sw_in cT b1 16 f1)]) u) t) A) (by decide) (Nat.le_of_ble_eq_true rfl) ?_
  intro p e s m below meth c A hx hb hml hown htg hK hN hr hlk hnm hsz hP hD hS hA ls hl
  have hown : s.vm.findClass RX0 = some m.cls := hown
  have hl : lv_has ls 8 [(0, .ref b0), (1, .ref b1), (2, .int x), (3, .int y), (4, .int z)] := hl
  refine lv_iload_n hx hb dX0_canLight_0 rfl (lv_at hl 2 rfl) ?_
  refine lv_if_ne (tgt := 6) hx hb dX0_canLight_1 (by decide) (fun c_1 => ?_) (fun c_1 => ?_)
  · have ic_1 : ¬ x.toInt = 0 := ine c_1 (rfl) (by decide)
    refine lv_iload_n hx hb dX0_canLight_6 rfl (lv_at hl 2 rfl) ?_
    refine xk_i (wr := [(sw_in cT b0 16 f0), (sw_in cT b1 16 f1)]) (xr_S (n := 1) (As := [.int x]) (rest := []) ⟨hx, hb, hml, hown, htg⟩ hK hN hP hD hS hA [] rfl (by decide) (g_ntz l D cT _ (x)) wi_1026 wi_1027 wi_138 wi_1028 ⟨rfl, by decide +kernel⟩ ⟨Nat.le_of_ble_eq_true rfl, Nat.le_of_ble_eq_true rfl⟩ rfl hl.1 rfl (Nat.le_of_ble_eq_true rfl) dX0_canLight_7 ⟨Nat.le_of_ble_eq_true rfl, Nat.le_of_ble_eq_true rfl⟩) hP hD hS hA [] [0, 1] rfl rfl (by decide) (by decide) (fun r_3 u_2 H locs hwr_3 hP hD hS => ?_)
    obtain ⟨hP, hD⟩ : PD D A [(sw_in cT b0 16 f0), (sw_in cT b1 16 f1)] _ := ⟨hP, hD⟩
    have qr_3_0 : 0 ≤ r_3.toInt ∧ r_3.toInt ≤ 2147483647 := hwr_3.1
    refine lv_istore (lv' := [(5, .int r_3), (0, .ref b0), (1, .ref b1), (2, .int x), (3, .int y), (4, .int z)]) hx hb dX0_canLight_10 hl (by decide) rfl (fun ls hl => ?_)
    refine lv_iload hx hb dX0_canLight_12 (lv_at hl 5 rfl) ?_
    refine lv_if_le (tgt := 24) hx hb dX0_canLight_14 (by decide) (fun c_4 => ?_) (fun c_4 => ?_)
    · have ic_4 : z.toInt ≤ 0 := ile c_4 (rfl) (by decide)
      refine lv_iconst (v := 0) hx hb dX0_canLight_24 (by decide) ?_
      exact x_zret hx hb hr hlk hP hD hS [0, 1] (()) rfl (by decide) rfl trivial (by decide) (by decide) dX0_canLight_25
    · have ic_4 : 0 < z.toInt := inle c_4 (rfl) (by decide)
      refine lv_iload hx hb dX0_canLight_17 (lv_at hl 0 rfl) ?_
      refine lv_bipush (v := 16) hx hb dX0_canLight_19 (by decide) ?_
      refine lv_icmp_lt (tgt := 26) hx hb dX0_canLight_21 (by decide) (fun c_5 => ?_) (fun c_5 => ?_)
      · have ic_5 : r_3.toInt < 16 := ilt c_5 (rfl) (by decide)
        refine lv_aload_n hx hb dX0_canLight_26 rfl (lv_at hl 2 rfl) ?_
        refine lv_iload hx hb dX0_canLight_27 (lv_at hl 0 rfl) ?_
        refine va_iald hx hb hK hP 1 0 rfl rfl (vp_in_iff.mpr (by omega)) dX0_canLight_29 ?_
        refine lv_topi (fun z_6 ez_6 => ?_)
        refine lv_iload_n hx hb dX0_canLight_30 rfl (lv_at hl 4 rfl) ?_
        refine lv_iand hx hb dX0_canLight_31 ?_
        refine lv_topi (fun z_7 ez_7 => ?_)
        refine lv_istore (lv' := [(6, .int z_7), (5, .int r_3), (0, .ref b0), (1, .ref b1), (2, .int x), (3, .int y), (4, .int z)]) hx hb dX0_canLight_32 hl (by decide) rfl (fun ls hl => ?_)
        refine lv_iconst (v := 0) hx hb dX0_canLight_34 (by decide) ?_
        refine lv_istore (lv' := [(7, .int 0), (6, .int z_7), (5, .int r_3), (0, .ref b0), (1, .ref b1), (2, .int x), (3, .int y), (4, .int z)]) hx hb dX0_canLight_35 hl (by decide) rfl (fun ls hl => ?_)
        refine (fun (key : ∀ (n9_37 : Nat) (k9_37 : Nat)  (H : Heap) (locs : List Loc) (ls : Array Slot), (k9_37 : Int) ≤ 16 → 16 < (k9_37 : Int) + n9_37 → PD D A [(sw_in cT b0 16 f0), (sw_in cT b1 16 f1)] H → va_S A s.heap H locs → lv_has ls 8 [(7, .int (nI k9_37)), (6, .int z_7), (5, .int r_3), (0, .ref b0), (1, .ref b1), (2, .int x), (3, .int y), (4, .int z)] → W p l e _ s m _ below meth c H locs _ _ _ (F0 m 37 ls [])) => key (Int.toNat (16 - 0) + 1) 0  _ _ _ (by omega) (by omega)  ⟨hP, hD⟩ hS (lv_sub hl [0, 1, 2, 3, 4, 5, 6, 7] rfl)) ?_
        intro n9_37
        induction n9_37 with
        | zero => intro k9_37  H locs ls hq1 hq2; exact absurd hq2 (by omega)
        | succ n9_37 ih_37 =>
          intro k9_37  H locs ls hq1_37 hq2_37  hPD hS hl
          obtain ⟨hP, hD⟩ := hPD
          have hk9_37 : (nI k9_37).toInt = (k9_37 : Int) := nI_toInt (by omega)
          refine lv_iload hx hb dX0_canLight_37 (lv_at hl 0 rfl) ?_
          refine lv_bipush (v := 16) hx hb dX0_canLight_39 (by decide) ?_
          refine lv_icmp_ge (tgt := 83) hx hb dX0_canLight_41 (by decide) (fun c_8 => ?_) (fun c_8 => ?_)
          · have ic_8 : 16 ≤ ((k9_37 : Nat) : Int) := ile c_8 (by decide) (nI_toInt (by omega))
            refine lv_iconst (v := 0) hx hb dX0_canLight_83 (by decide) ?_
            exact x_zret hx hb hr hlk hP hD hS [0, 1] (()) rfl (by decide) rfl trivial (by decide) (by decide) dX0_canLight_84
          · have ic_8 : ((k9_37 : Nat) : Int) < 16 := inle c_8 (by decide) (nI_toInt (by omega))
            refine lv_iload hx hb dX0_canLight_44 (lv_at hl 1 rfl) ?_
            refine lv_iload hx hb dX0_canLight_46 (lv_at hl 0 rfl) ?_
            refine lv_ishr hx hb dX0_canLight_48 ?_
            refine lv_topi (fun z_9 ez_9 => ?_)
            refine lv_iconst (v := 1) hx hb dX0_canLight_49 (by decide) ?_
            refine lv_iand hx hb dX0_canLight_50 ?_
            refine lv_topi (fun z_10 ez_10 => ?_)
            have iz_10 : 0 ≤ z_10.toInt ∧ z_10.toInt ≤ 1 := andI ez_10 (by decide) (by decide)
            refine lv_if_eq (tgt := 77) hx hb dX0_canLight_51 (by decide) (fun c_11 => ?_) (fun c_11 => ?_)
            · have ic_11 : z_10.toInt = 0 := ieq c_11 (rfl) (by decide)
              refine lv_iinc (v := (nI (k9_37 + 1))) (lv' := [(7, .int (nI (k9_37 + 1))), (6, .int z_7), (5, .int r_3), (0, .ref b0), (1, .ref b1), (2, .int x), (3, .int y), (4, .int z)]) hx hb dX0_canLight_77 hl (k := 0) rfl (by exact nI_1 (k9_37)) (by decide) rfl (fun ls hl => ?_)
              refine lv_goto (tgt := 37) hx hb dX0_canLight_80 (by decide) ?_
              exact ih_37 (k9_37 + 1)  _ _ _ (by omega) (by omega)  ⟨hP.sub [0, 1] rfl, hD.sub [0, 1] (by decide) rfl⟩ hS (lv_sub hl [0, 1, 2, 3, 4, 5, 6, 7] rfl)
            · have ic_11 : ¬ z_10.toInt = 0 := ine c_11 (rfl) (by decide)
              refine lv_aload_n hx hb dX0_canLight_54 rfl (lv_at hl 3 rfl) ?_
              refine lv_aload_n hx hb dX0_canLight_55 rfl (lv_at hl 4 rfl) ?_
              refine lv_iload_n hx hb dX0_canLight_56 rfl (lv_at hl 5 rfl) ?_
              refine lv_aload_n hx hb dX0_canLight_57 rfl (lv_at hl 3 rfl) ?_
              refine lv_iload hx hb dX0_canLight_58 (lv_at hl 0 rfl) ?_
              refine va_iald hx hb hK hP 0 0 rfl rfl (vp_in_nI (by omega) (by omega)) dX0_canLight_60 ?_
              refine lv_topi (fun z_12 ez_12 => ?_)
              refine lv_iconst (v := (-1)) hx hb dX0_canLight_61 (by decide) ?_
              refine lv_ixor hx hb dX0_canLight_62 ?_
              refine lv_topi (fun z_13 ez_13 => ?_)
              refine lv_iand hx hb dX0_canLight_63 ?_
              refine lv_topi (fun z_14 ez_14 => ?_)
              refine lv_iload_n hx hb dX0_canLight_64 rfl (lv_at hl 6 rfl) ?_
              refine lv_iload hx hb dX0_canLight_65 (lv_at hl 7 rfl) ?_
              refine lv_iconst (v := 1) hx hb dX0_canLight_67 (by decide) ?_
              refine lv_isub hx hb dX0_canLight_68 ?_
              refine lv_topi (fun z_15 ez_15 => ?_)
              have iz_15 : z_15.toInt = z.toInt - 1 := toInt_subI ez_15 (rfl) (by decide) (by omega)
              refine xk_i (wr := []) (xr_S (n := 5) (As := [.ref b0, .ref b1, .int z_14, .int y, .int z_15]) (rest := []) ⟨hx, hb, hml, hown, htg⟩ hK hN hP hD hS hA [0, 1] rfl (by decide) (g_canLight_12 l D cT _ (b0) (b1) (f0) (f1) (z_14) (y) (z_15) (by first | assumption | decide | omega | (simp only [ti_0, ti_1, ti_2, ti_3, ti_4, ti_5, ti_6, ti_7, ti_8, ti_9, ti_10, ti_11, ti_12, ti_m1]; omega))) wi_1023 wi_1024 wi_129 wi_1025 ⟨rfl, by decide +kernel⟩ ⟨Nat.le_of_ble_eq_true rfl, Nat.le_of_ble_eq_true rfl⟩ rfl hl.1 rfl (Nat.le_of_ble_eq_true rfl) dX0_canLight_69 ⟨Nat.le_of_ble_eq_true rfl, Nat.le_of_ble_eq_true rfl⟩) hP hD hS hA [0, 1] [] rfl rfl (by decide) (by decide) (fun r_17 u_16 H locs hwr_17 hP hD hS => ?_)
              obtain ⟨hP, hD⟩ : PD D A [(sw_in cT b0 16 f0), (sw_in cT b1 16 f1)] _ := ⟨hP, hD⟩
              refine lv_if_eq (tgt := 77) hx hb dX0_canLight_72 (by decide) (fun c_18 => ?_) (fun c_18 => ?_)
              · have ic_18 : r_17.toInt = 0 := ieq c_18 (rfl) (by decide)
                refine lv_iinc (v := (nI (k9_37 + 1))) (lv' := [(7, .int (nI (k9_37 + 1))), (6, .int z_7), (5, .int r_3), (0, .ref b0), (1, .ref b1), (2, .int x), (3, .int y), (4, .int z)]) hx hb dX0_canLight_77 hl (k := 0) rfl (by exact nI_1 (k9_37)) (by decide) rfl (fun ls hl => ?_)
                refine lv_goto (tgt := 37) hx hb dX0_canLight_80 (by decide) ?_
                exact ih_37 (k9_37 + 1)  _ _ _ (by omega) (by omega)  ⟨hP.sub [0, 1] rfl, hD.sub [0, 1] (by decide) rfl⟩ hS (lv_sub hl [0, 1, 2, 3, 4, 5, 6, 7] rfl)
              · have ic_18 : ¬ r_17.toInt = 0 := ine c_18 (rfl) (by decide)
                refine lv_iconst (v := 1) hx hb dX0_canLight_75 (by decide) ?_
                exact x_zret hx hb hr hlk hP hD hS [0, 1] (()) rfl (by decide) rfl trivial (by decide) (by decide) dX0_canLight_76
      · have ic_5 : 16 ≤ r_3.toInt := inlt c_5 (rfl) (by decide)
        refine lv_iconst (v := 0) hx hb dX0_canLight_24 (by decide) ?_
        exact x_zret hx hb hr hlk hP hD hS [0, 1] (()) rfl (by decide) rfl trivial (by decide) (by decide) dX0_canLight_25
  · have ic_1 : x.toInt = 0 := ieq c_1 (rfl) (by decide)
    refine lv_iconst (v := 1) hx hb dX0_canLight_4 (by decide) ?_
    exact x_zret hx hb hr hlk hP hD hS [0, 1] (()) rfl (by decide) rfl trivial (by decide) (by decide) dX0_canLight_5
set_option maxHeartbeats 4000000 in
set_option maxRecDepth 100000 in
theorem g_canLight_14 (l : Launch) (D : va_G) (cT : Nat → ClassId) (sz : Nat) (b0 : Nat) (b1 : Nat) (f0 : Nat → Int32) (f1 : Nat → Int32) (x : Int32) (y : Int32) (z : Int32) (hz : z.toInt ≤ 14) : Met l yX0_canLight (wsc yX0_canLight cX0_canLight 8 (some .boolean)) { frames := 17, cells := 0, slots := 0, locals := 499 } (va_Pc [.ref b0, .ref b1, .int x, .int y, .int z] (PX D cT sz [(sw_in cT b0 16 f0), (sw_in cT b1 16 f1)])) (va_Qi (fun (r : Int32) (u : Unit) => True) (fun u t => RW D (va_A [(sw_in cT b0 16 f0), (sw_in cT b1 16 f1)] sz) ((fun _ : Unit => [(sw_in cT b0 16 f0), (sw_in cT b1 16 f1)]) u) t) (va_A [(sw_in cT b0 16 f0), (sw_in cT b1 16 f1)] sz)) 0 0 (va_A [(sw_in cT b0 16 f0), (sw_in cT b1 16 f1)] sz) := by
  refine m_of (y := yX0_canLight) (cc := cX0_canLight) (nL := 8) (ret := (some .boolean)) (D := D) (cT := cT) (av := [.ref b0, .ref b1, .int x, .int y, .int z]) (wi := [(sw_in cT b0 16 f0), (sw_in cT b1 16 f1)]) (fun A => va_Qi (fun (r : Int32) (u : Unit) => True) (fun u t => RW D A ((fun _ : Unit => [(sw_in cT b0 16 f0), (sw_in cT b1 16 f1)]) u) t) A) (by decide) (Nat.le_of_ble_eq_true rfl) ?_
  intro p e s m below meth c A hx hb hml hown htg hK hN hr hlk hnm hsz hP hD hS hA ls hl
  have hown : s.vm.findClass RX0 = some m.cls := hown
  have hl : lv_has ls 8 [(0, .ref b0), (1, .ref b1), (2, .int x), (3, .int y), (4, .int z)] := hl
  refine lv_iload_n hx hb dX0_canLight_0 rfl (lv_at hl 2 rfl) ?_
  refine lv_if_ne (tgt := 6) hx hb dX0_canLight_1 (by decide) (fun c_1 => ?_) (fun c_1 => ?_)
  · have ic_1 : ¬ x.toInt = 0 := ine c_1 (rfl) (by decide)
    refine lv_iload_n hx hb dX0_canLight_6 rfl (lv_at hl 2 rfl) ?_
    refine xk_i (wr := [(sw_in cT b0 16 f0), (sw_in cT b1 16 f1)]) (xr_S (n := 1) (As := [.int x]) (rest := []) ⟨hx, hb, hml, hown, htg⟩ hK hN hP hD hS hA [] rfl (by decide) (g_ntz l D cT _ (x)) wi_1026 wi_1027 wi_138 wi_1028 ⟨rfl, by decide +kernel⟩ ⟨Nat.le_of_ble_eq_true rfl, Nat.le_of_ble_eq_true rfl⟩ rfl hl.1 rfl (Nat.le_of_ble_eq_true rfl) dX0_canLight_7 ⟨Nat.le_of_ble_eq_true rfl, Nat.le_of_ble_eq_true rfl⟩) hP hD hS hA [] [0, 1] rfl rfl (by decide) (by decide) (fun r_3 u_2 H locs hwr_3 hP hD hS => ?_)
    obtain ⟨hP, hD⟩ : PD D A [(sw_in cT b0 16 f0), (sw_in cT b1 16 f1)] _ := ⟨hP, hD⟩
    have qr_3_0 : 0 ≤ r_3.toInt ∧ r_3.toInt ≤ 2147483647 := hwr_3.1
    refine lv_istore (lv' := [(5, .int r_3), (0, .ref b0), (1, .ref b1), (2, .int x), (3, .int y), (4, .int z)]) hx hb dX0_canLight_10 hl (by decide) rfl (fun ls hl => ?_)
    refine lv_iload hx hb dX0_canLight_12 (lv_at hl 5 rfl) ?_
    refine lv_if_le (tgt := 24) hx hb dX0_canLight_14 (by decide) (fun c_4 => ?_) (fun c_4 => ?_)
    · have ic_4 : z.toInt ≤ 0 := ile c_4 (rfl) (by decide)
      refine lv_iconst (v := 0) hx hb dX0_canLight_24 (by decide) ?_
      exact x_zret hx hb hr hlk hP hD hS [0, 1] (()) rfl (by decide) rfl trivial (by decide) (by decide) dX0_canLight_25
    · have ic_4 : 0 < z.toInt := inle c_4 (rfl) (by decide)
      refine lv_iload hx hb dX0_canLight_17 (lv_at hl 0 rfl) ?_
      refine lv_bipush (v := 16) hx hb dX0_canLight_19 (by decide) ?_
      refine lv_icmp_lt (tgt := 26) hx hb dX0_canLight_21 (by decide) (fun c_5 => ?_) (fun c_5 => ?_)
      · have ic_5 : r_3.toInt < 16 := ilt c_5 (rfl) (by decide)
        refine lv_aload_n hx hb dX0_canLight_26 rfl (lv_at hl 2 rfl) ?_
        refine lv_iload hx hb dX0_canLight_27 (lv_at hl 0 rfl) ?_
        refine va_iald hx hb hK hP 1 0 rfl rfl (vp_in_iff.mpr (by omega)) dX0_canLight_29 ?_
        refine lv_topi (fun z_6 ez_6 => ?_)
        refine lv_iload_n hx hb dX0_canLight_30 rfl (lv_at hl 4 rfl) ?_
        refine lv_iand hx hb dX0_canLight_31 ?_
        refine lv_topi (fun z_7 ez_7 => ?_)
        refine lv_istore (lv' := [(6, .int z_7), (5, .int r_3), (0, .ref b0), (1, .ref b1), (2, .int x), (3, .int y), (4, .int z)]) hx hb dX0_canLight_32 hl (by decide) rfl (fun ls hl => ?_)
        refine lv_iconst (v := 0) hx hb dX0_canLight_34 (by decide) ?_
        refine lv_istore (lv' := [(7, .int 0), (6, .int z_7), (5, .int r_3), (0, .ref b0), (1, .ref b1), (2, .int x), (3, .int y), (4, .int z)]) hx hb dX0_canLight_35 hl (by decide) rfl (fun ls hl => ?_)
        refine (fun (key : ∀ (n9_37 : Nat) (k9_37 : Nat)  (H : Heap) (locs : List Loc) (ls : Array Slot), (k9_37 : Int) ≤ 16 → 16 < (k9_37 : Int) + n9_37 → PD D A [(sw_in cT b0 16 f0), (sw_in cT b1 16 f1)] H → va_S A s.heap H locs → lv_has ls 8 [(7, .int (nI k9_37)), (6, .int z_7), (5, .int r_3), (0, .ref b0), (1, .ref b1), (2, .int x), (3, .int y), (4, .int z)] → W p l e _ s m _ below meth c H locs _ _ _ (F0 m 37 ls [])) => key (Int.toNat (16 - 0) + 1) 0  _ _ _ (by omega) (by omega)  ⟨hP, hD⟩ hS (lv_sub hl [0, 1, 2, 3, 4, 5, 6, 7] rfl)) ?_
        intro n9_37
        induction n9_37 with
        | zero => intro k9_37  H locs ls hq1 hq2; exact absurd hq2 (by omega)
        | succ n9_37 ih_37 =>
          intro k9_37  H locs ls hq1_37 hq2_37  hPD hS hl
          obtain ⟨hP, hD⟩ := hPD
          have hk9_37 : (nI k9_37).toInt = (k9_37 : Int) := nI_toInt (by omega)
          refine lv_iload hx hb dX0_canLight_37 (lv_at hl 0 rfl) ?_
          refine lv_bipush (v := 16) hx hb dX0_canLight_39 (by decide) ?_
          refine lv_icmp_ge (tgt := 83) hx hb dX0_canLight_41 (by decide) (fun c_8 => ?_) (fun c_8 => ?_)
          · have ic_8 : 16 ≤ ((k9_37 : Nat) : Int) := ile c_8 (by decide) (nI_toInt (by omega))
            refine lv_iconst (v := 0) hx hb dX0_canLight_83 (by decide) ?_
            exact x_zret hx hb hr hlk hP hD hS [0, 1] (()) rfl (by decide) rfl trivial (by decide) (by decide) dX0_canLight_84
          · have ic_8 : ((k9_37 : Nat) : Int) < 16 := inle c_8 (by decide) (nI_toInt (by omega))
            refine lv_iload hx hb dX0_canLight_44 (lv_at hl 1 rfl) ?_
            refine lv_iload hx hb dX0_canLight_46 (lv_at hl 0 rfl) ?_
            refine lv_ishr hx hb dX0_canLight_48 ?_
            refine lv_topi (fun z_9 ez_9 => ?_)
            refine lv_iconst (v := 1) hx hb dX0_canLight_49 (by decide) ?_
            refine lv_iand hx hb dX0_canLight_50 ?_
            refine lv_topi (fun z_10 ez_10 => ?_)
            have iz_10 : 0 ≤ z_10.toInt ∧ z_10.toInt ≤ 1 := andI ez_10 (by decide) (by decide)
            refine lv_if_eq (tgt := 77) hx hb dX0_canLight_51 (by decide) (fun c_11 => ?_) (fun c_11 => ?_)
            · have ic_11 : z_10.toInt = 0 := ieq c_11 (rfl) (by decide)
              refine lv_iinc (v := (nI (k9_37 + 1))) (lv' := [(7, .int (nI (k9_37 + 1))), (6, .int z_7), (5, .int r_3), (0, .ref b0), (1, .ref b1), (2, .int x), (3, .int y), (4, .int z)]) hx hb dX0_canLight_77 hl (k := 0) rfl (by exact nI_1 (k9_37)) (by decide) rfl (fun ls hl => ?_)
              refine lv_goto (tgt := 37) hx hb dX0_canLight_80 (by decide) ?_
              exact ih_37 (k9_37 + 1)  _ _ _ (by omega) (by omega)  ⟨hP.sub [0, 1] rfl, hD.sub [0, 1] (by decide) rfl⟩ hS (lv_sub hl [0, 1, 2, 3, 4, 5, 6, 7] rfl)
            · have ic_11 : ¬ z_10.toInt = 0 := ine c_11 (rfl) (by decide)
              refine lv_aload_n hx hb dX0_canLight_54 rfl (lv_at hl 3 rfl) ?_
              refine lv_aload_n hx hb dX0_canLight_55 rfl (lv_at hl 4 rfl) ?_
              refine lv_iload_n hx hb dX0_canLight_56 rfl (lv_at hl 5 rfl) ?_
              refine lv_aload_n hx hb dX0_canLight_57 rfl (lv_at hl 3 rfl) ?_
              refine lv_iload hx hb dX0_canLight_58 (lv_at hl 0 rfl) ?_
              refine va_iald hx hb hK hP 0 0 rfl rfl (vp_in_nI (by omega) (by omega)) dX0_canLight_60 ?_
              refine lv_topi (fun z_12 ez_12 => ?_)
              refine lv_iconst (v := (-1)) hx hb dX0_canLight_61 (by decide) ?_
              refine lv_ixor hx hb dX0_canLight_62 ?_
              refine lv_topi (fun z_13 ez_13 => ?_)
              refine lv_iand hx hb dX0_canLight_63 ?_
              refine lv_topi (fun z_14 ez_14 => ?_)
              refine lv_iload_n hx hb dX0_canLight_64 rfl (lv_at hl 6 rfl) ?_
              refine lv_iload hx hb dX0_canLight_65 (lv_at hl 7 rfl) ?_
              refine lv_iconst (v := 1) hx hb dX0_canLight_67 (by decide) ?_
              refine lv_isub hx hb dX0_canLight_68 ?_
              refine lv_topi (fun z_15 ez_15 => ?_)
              have iz_15 : z_15.toInt = z.toInt - 1 := toInt_subI ez_15 (rfl) (by decide) (by omega)
              refine xk_i (wr := []) (xr_S (n := 5) (As := [.ref b0, .ref b1, .int z_14, .int y, .int z_15]) (rest := []) ⟨hx, hb, hml, hown, htg⟩ hK hN hP hD hS hA [0, 1] rfl (by decide) (g_canLight_13 l D cT _ (b0) (b1) (f0) (f1) (z_14) (y) (z_15) (by first | assumption | decide | omega | (simp only [ti_0, ti_1, ti_2, ti_3, ti_4, ti_5, ti_6, ti_7, ti_8, ti_9, ti_10, ti_11, ti_12, ti_m1]; omega))) wi_1023 wi_1024 wi_129 wi_1025 ⟨rfl, by decide +kernel⟩ ⟨Nat.le_of_ble_eq_true rfl, Nat.le_of_ble_eq_true rfl⟩ rfl hl.1 rfl (Nat.le_of_ble_eq_true rfl) dX0_canLight_69 ⟨Nat.le_of_ble_eq_true rfl, Nat.le_of_ble_eq_true rfl⟩) hP hD hS hA [0, 1] [] rfl rfl (by decide) (by decide) (fun r_17 u_16 H locs hwr_17 hP hD hS => ?_)
              obtain ⟨hP, hD⟩ : PD D A [(sw_in cT b0 16 f0), (sw_in cT b1 16 f1)] _ := ⟨hP, hD⟩
              refine lv_if_eq (tgt := 77) hx hb dX0_canLight_72 (by decide) (fun c_18 => ?_) (fun c_18 => ?_)
              · have ic_18 : r_17.toInt = 0 := ieq c_18 (rfl) (by decide)
                refine lv_iinc (v := (nI (k9_37 + 1))) (lv' := [(7, .int (nI (k9_37 + 1))), (6, .int z_7), (5, .int r_3), (0, .ref b0), (1, .ref b1), (2, .int x), (3, .int y), (4, .int z)]) hx hb dX0_canLight_77 hl (k := 0) rfl (by exact nI_1 (k9_37)) (by decide) rfl (fun ls hl => ?_)
                refine lv_goto (tgt := 37) hx hb dX0_canLight_80 (by decide) ?_
                exact ih_37 (k9_37 + 1)  _ _ _ (by omega) (by omega)  ⟨hP.sub [0, 1] rfl, hD.sub [0, 1] (by decide) rfl⟩ hS (lv_sub hl [0, 1, 2, 3, 4, 5, 6, 7] rfl)
              · have ic_18 : ¬ r_17.toInt = 0 := ine c_18 (rfl) (by decide)
                refine lv_iconst (v := 1) hx hb dX0_canLight_75 (by decide) ?_
                exact x_zret hx hb hr hlk hP hD hS [0, 1] (()) rfl (by decide) rfl trivial (by decide) (by decide) dX0_canLight_76
      · have ic_5 : 16 ≤ r_3.toInt := inlt c_5 (rfl) (by decide)
        refine lv_iconst (v := 0) hx hb dX0_canLight_24 (by decide) ?_
        exact x_zret hx hb hr hlk hP hD hS [0, 1] (()) rfl (by decide) rfl trivial (by decide) (by decide) dX0_canLight_25
  · have ic_1 : x.toInt = 0 := ieq c_1 (rfl) (by decide)
    refine lv_iconst (v := 1) hx hb dX0_canLight_4 (by decide) ?_
    exact x_zret hx hb hr hlk hP hD hS [0, 1] (()) rfl (by decide) rfl trivial (by decide) (by decide) dX0_canLight_5
set_option maxHeartbeats 4000000 in
set_option maxRecDepth 100000 in
theorem g_canLight_15 (l : Launch) (D : va_G) (cT : Nat → ClassId) (sz : Nat) (b0 : Nat) (b1 : Nat) (f0 : Nat → Int32) (f1 : Nat → Int32) (x : Int32) (y : Int32) (z : Int32) (hz : z.toInt ≤ 15) : Met l yX0_canLight (wsc yX0_canLight cX0_canLight 8 (some .boolean)) { frames := 18, cells := 0, slots := 0, locals := 526 } (va_Pc [.ref b0, .ref b1, .int x, .int y, .int z] (PX D cT sz [(sw_in cT b0 16 f0), (sw_in cT b1 16 f1)])) (va_Qi (fun (r : Int32) (u : Unit) => True) (fun u t => RW D (va_A [(sw_in cT b0 16 f0), (sw_in cT b1 16 f1)] sz) ((fun _ : Unit => [(sw_in cT b0 16 f0), (sw_in cT b1 16 f1)]) u) t) (va_A [(sw_in cT b0 16 f0), (sw_in cT b1 16 f1)] sz)) 0 0 (va_A [(sw_in cT b0 16 f0), (sw_in cT b1 16 f1)] sz) := by
  refine m_of (y := yX0_canLight) (cc := cX0_canLight) (nL := 8) (ret := (some .boolean)) (D := D) (cT := cT) (av := [.ref b0, .ref b1, .int x, .int y, .int z]) (wi := [(sw_in cT b0 16 f0), (sw_in cT b1 16 f1)]) (fun A => va_Qi (fun (r : Int32) (u : Unit) => True) (fun u t => RW D A ((fun _ : Unit => [(sw_in cT b0 16 f0), (sw_in cT b1 16 f1)]) u) t) A) (by decide) (Nat.le_of_ble_eq_true rfl) ?_
  intro p e s m below meth c A hx hb hml hown htg hK hN hr hlk hnm hsz hP hD hS hA ls hl
  have hown : s.vm.findClass RX0 = some m.cls := hown
  have hl : lv_has ls 8 [(0, .ref b0), (1, .ref b1), (2, .int x), (3, .int y), (4, .int z)] := hl
  refine lv_iload_n hx hb dX0_canLight_0 rfl (lv_at hl 2 rfl) ?_
  refine lv_if_ne (tgt := 6) hx hb dX0_canLight_1 (by decide) (fun c_1 => ?_) (fun c_1 => ?_)
  · have ic_1 : ¬ x.toInt = 0 := ine c_1 (rfl) (by decide)
    refine lv_iload_n hx hb dX0_canLight_6 rfl (lv_at hl 2 rfl) ?_
    refine xk_i (wr := [(sw_in cT b0 16 f0), (sw_in cT b1 16 f1)]) (xr_S (n := 1) (As := [.int x]) (rest := []) ⟨hx, hb, hml, hown, htg⟩ hK hN hP hD hS hA [] rfl (by decide) (g_ntz l D cT _ (x)) wi_1026 wi_1027 wi_138 wi_1028 ⟨rfl, by decide +kernel⟩ ⟨Nat.le_of_ble_eq_true rfl, Nat.le_of_ble_eq_true rfl⟩ rfl hl.1 rfl (Nat.le_of_ble_eq_true rfl) dX0_canLight_7 ⟨Nat.le_of_ble_eq_true rfl, Nat.le_of_ble_eq_true rfl⟩) hP hD hS hA [] [0, 1] rfl rfl (by decide) (by decide) (fun r_3 u_2 H locs hwr_3 hP hD hS => ?_)
    obtain ⟨hP, hD⟩ : PD D A [(sw_in cT b0 16 f0), (sw_in cT b1 16 f1)] _ := ⟨hP, hD⟩
    have qr_3_0 : 0 ≤ r_3.toInt ∧ r_3.toInt ≤ 2147483647 := hwr_3.1
    refine lv_istore (lv' := [(5, .int r_3), (0, .ref b0), (1, .ref b1), (2, .int x), (3, .int y), (4, .int z)]) hx hb dX0_canLight_10 hl (by decide) rfl (fun ls hl => ?_)
    refine lv_iload hx hb dX0_canLight_12 (lv_at hl 5 rfl) ?_
    refine lv_if_le (tgt := 24) hx hb dX0_canLight_14 (by decide) (fun c_4 => ?_) (fun c_4 => ?_)
    · have ic_4 : z.toInt ≤ 0 := ile c_4 (rfl) (by decide)
      refine lv_iconst (v := 0) hx hb dX0_canLight_24 (by decide) ?_
      exact x_zret hx hb hr hlk hP hD hS [0, 1] (()) rfl (by decide) rfl trivial (by decide) (by decide) dX0_canLight_25
    · have ic_4 : 0 < z.toInt := inle c_4 (rfl) (by decide)
      refine lv_iload hx hb dX0_canLight_17 (lv_at hl 0 rfl) ?_
      refine lv_bipush (v := 16) hx hb dX0_canLight_19 (by decide) ?_
      refine lv_icmp_lt (tgt := 26) hx hb dX0_canLight_21 (by decide) (fun c_5 => ?_) (fun c_5 => ?_)
      · have ic_5 : r_3.toInt < 16 := ilt c_5 (rfl) (by decide)
        refine lv_aload_n hx hb dX0_canLight_26 rfl (lv_at hl 2 rfl) ?_
        refine lv_iload hx hb dX0_canLight_27 (lv_at hl 0 rfl) ?_
        refine va_iald hx hb hK hP 1 0 rfl rfl (vp_in_iff.mpr (by omega)) dX0_canLight_29 ?_
        refine lv_topi (fun z_6 ez_6 => ?_)
        refine lv_iload_n hx hb dX0_canLight_30 rfl (lv_at hl 4 rfl) ?_
        refine lv_iand hx hb dX0_canLight_31 ?_
        refine lv_topi (fun z_7 ez_7 => ?_)
        refine lv_istore (lv' := [(6, .int z_7), (5, .int r_3), (0, .ref b0), (1, .ref b1), (2, .int x), (3, .int y), (4, .int z)]) hx hb dX0_canLight_32 hl (by decide) rfl (fun ls hl => ?_)
        refine lv_iconst (v := 0) hx hb dX0_canLight_34 (by decide) ?_
        refine lv_istore (lv' := [(7, .int 0), (6, .int z_7), (5, .int r_3), (0, .ref b0), (1, .ref b1), (2, .int x), (3, .int y), (4, .int z)]) hx hb dX0_canLight_35 hl (by decide) rfl (fun ls hl => ?_)
        refine (fun (key : ∀ (n9_37 : Nat) (k9_37 : Nat)  (H : Heap) (locs : List Loc) (ls : Array Slot), (k9_37 : Int) ≤ 16 → 16 < (k9_37 : Int) + n9_37 → PD D A [(sw_in cT b0 16 f0), (sw_in cT b1 16 f1)] H → va_S A s.heap H locs → lv_has ls 8 [(7, .int (nI k9_37)), (6, .int z_7), (5, .int r_3), (0, .ref b0), (1, .ref b1), (2, .int x), (3, .int y), (4, .int z)] → W p l e _ s m _ below meth c H locs _ _ _ (F0 m 37 ls [])) => key (Int.toNat (16 - 0) + 1) 0  _ _ _ (by omega) (by omega)  ⟨hP, hD⟩ hS (lv_sub hl [0, 1, 2, 3, 4, 5, 6, 7] rfl)) ?_
        intro n9_37
        induction n9_37 with
        | zero => intro k9_37  H locs ls hq1 hq2; exact absurd hq2 (by omega)
        | succ n9_37 ih_37 =>
          intro k9_37  H locs ls hq1_37 hq2_37  hPD hS hl
          obtain ⟨hP, hD⟩ := hPD
          have hk9_37 : (nI k9_37).toInt = (k9_37 : Int) := nI_toInt (by omega)
          refine lv_iload hx hb dX0_canLight_37 (lv_at hl 0 rfl) ?_
          refine lv_bipush (v := 16) hx hb dX0_canLight_39 (by decide) ?_
          refine lv_icmp_ge (tgt := 83) hx hb dX0_canLight_41 (by decide) (fun c_8 => ?_) (fun c_8 => ?_)
          · have ic_8 : 16 ≤ ((k9_37 : Nat) : Int) := ile c_8 (by decide) (nI_toInt (by omega))
            refine lv_iconst (v := 0) hx hb dX0_canLight_83 (by decide) ?_
            exact x_zret hx hb hr hlk hP hD hS [0, 1] (()) rfl (by decide) rfl trivial (by decide) (by decide) dX0_canLight_84
          · have ic_8 : ((k9_37 : Nat) : Int) < 16 := inle c_8 (by decide) (nI_toInt (by omega))
            refine lv_iload hx hb dX0_canLight_44 (lv_at hl 1 rfl) ?_
            refine lv_iload hx hb dX0_canLight_46 (lv_at hl 0 rfl) ?_
            refine lv_ishr hx hb dX0_canLight_48 ?_
            refine lv_topi (fun z_9 ez_9 => ?_)
            refine lv_iconst (v := 1) hx hb dX0_canLight_49 (by decide) ?_
            refine lv_iand hx hb dX0_canLight_50 ?_
            refine lv_topi (fun z_10 ez_10 => ?_)
            have iz_10 : 0 ≤ z_10.toInt ∧ z_10.toInt ≤ 1 := andI ez_10 (by decide) (by decide)
            refine lv_if_eq (tgt := 77) hx hb dX0_canLight_51 (by decide) (fun c_11 => ?_) (fun c_11 => ?_)
            · have ic_11 : z_10.toInt = 0 := ieq c_11 (rfl) (by decide)
              refine lv_iinc (v := (nI (k9_37 + 1))) (lv' := [(7, .int (nI (k9_37 + 1))), (6, .int z_7), (5, .int r_3), (0, .ref b0), (1, .ref b1), (2, .int x), (3, .int y), (4, .int z)]) hx hb dX0_canLight_77 hl (k := 0) rfl (by exact nI_1 (k9_37)) (by decide) rfl (fun ls hl => ?_)
              refine lv_goto (tgt := 37) hx hb dX0_canLight_80 (by decide) ?_
              exact ih_37 (k9_37 + 1)  _ _ _ (by omega) (by omega)  ⟨hP.sub [0, 1] rfl, hD.sub [0, 1] (by decide) rfl⟩ hS (lv_sub hl [0, 1, 2, 3, 4, 5, 6, 7] rfl)
            · have ic_11 : ¬ z_10.toInt = 0 := ine c_11 (rfl) (by decide)
              refine lv_aload_n hx hb dX0_canLight_54 rfl (lv_at hl 3 rfl) ?_
              refine lv_aload_n hx hb dX0_canLight_55 rfl (lv_at hl 4 rfl) ?_
              refine lv_iload_n hx hb dX0_canLight_56 rfl (lv_at hl 5 rfl) ?_
              refine lv_aload_n hx hb dX0_canLight_57 rfl (lv_at hl 3 rfl) ?_
              refine lv_iload hx hb dX0_canLight_58 (lv_at hl 0 rfl) ?_
              refine va_iald hx hb hK hP 0 0 rfl rfl (vp_in_nI (by omega) (by omega)) dX0_canLight_60 ?_
              refine lv_topi (fun z_12 ez_12 => ?_)
              refine lv_iconst (v := (-1)) hx hb dX0_canLight_61 (by decide) ?_
              refine lv_ixor hx hb dX0_canLight_62 ?_
              refine lv_topi (fun z_13 ez_13 => ?_)
              refine lv_iand hx hb dX0_canLight_63 ?_
              refine lv_topi (fun z_14 ez_14 => ?_)
              refine lv_iload_n hx hb dX0_canLight_64 rfl (lv_at hl 6 rfl) ?_
              refine lv_iload hx hb dX0_canLight_65 (lv_at hl 7 rfl) ?_
              refine lv_iconst (v := 1) hx hb dX0_canLight_67 (by decide) ?_
              refine lv_isub hx hb dX0_canLight_68 ?_
              refine lv_topi (fun z_15 ez_15 => ?_)
              have iz_15 : z_15.toInt = z.toInt - 1 := toInt_subI ez_15 (rfl) (by decide) (by omega)
              refine xk_i (wr := []) (xr_S (n := 5) (As := [.ref b0, .ref b1, .int z_14, .int y, .int z_15]) (rest := []) ⟨hx, hb, hml, hown, htg⟩ hK hN hP hD hS hA [0, 1] rfl (by decide) (g_canLight_14 l D cT _ (b0) (b1) (f0) (f1) (z_14) (y) (z_15) (by first | assumption | decide | omega | (simp only [ti_0, ti_1, ti_2, ti_3, ti_4, ti_5, ti_6, ti_7, ti_8, ti_9, ti_10, ti_11, ti_12, ti_m1]; omega))) wi_1023 wi_1024 wi_129 wi_1025 ⟨rfl, by decide +kernel⟩ ⟨Nat.le_of_ble_eq_true rfl, Nat.le_of_ble_eq_true rfl⟩ rfl hl.1 rfl (Nat.le_of_ble_eq_true rfl) dX0_canLight_69 ⟨Nat.le_of_ble_eq_true rfl, Nat.le_of_ble_eq_true rfl⟩) hP hD hS hA [0, 1] [] rfl rfl (by decide) (by decide) (fun r_17 u_16 H locs hwr_17 hP hD hS => ?_)
              obtain ⟨hP, hD⟩ : PD D A [(sw_in cT b0 16 f0), (sw_in cT b1 16 f1)] _ := ⟨hP, hD⟩
              refine lv_if_eq (tgt := 77) hx hb dX0_canLight_72 (by decide) (fun c_18 => ?_) (fun c_18 => ?_)
              · have ic_18 : r_17.toInt = 0 := ieq c_18 (rfl) (by decide)
                refine lv_iinc (v := (nI (k9_37 + 1))) (lv' := [(7, .int (nI (k9_37 + 1))), (6, .int z_7), (5, .int r_3), (0, .ref b0), (1, .ref b1), (2, .int x), (3, .int y), (4, .int z)]) hx hb dX0_canLight_77 hl (k := 0) rfl (by exact nI_1 (k9_37)) (by decide) rfl (fun ls hl => ?_)
                refine lv_goto (tgt := 37) hx hb dX0_canLight_80 (by decide) ?_
                exact ih_37 (k9_37 + 1)  _ _ _ (by omega) (by omega)  ⟨hP.sub [0, 1] rfl, hD.sub [0, 1] (by decide) rfl⟩ hS (lv_sub hl [0, 1, 2, 3, 4, 5, 6, 7] rfl)
              · have ic_18 : ¬ r_17.toInt = 0 := ine c_18 (rfl) (by decide)
                refine lv_iconst (v := 1) hx hb dX0_canLight_75 (by decide) ?_
                exact x_zret hx hb hr hlk hP hD hS [0, 1] (()) rfl (by decide) rfl trivial (by decide) (by decide) dX0_canLight_76
      · have ic_5 : 16 ≤ r_3.toInt := inlt c_5 (rfl) (by decide)
        refine lv_iconst (v := 0) hx hb dX0_canLight_24 (by decide) ?_
        exact x_zret hx hb hr hlk hP hD hS [0, 1] (()) rfl (by decide) rfl trivial (by decide) (by decide) dX0_canLight_25
  · have ic_1 : x.toInt = 0 := ieq c_1 (rfl) (by decide)
    refine lv_iconst (v := 1) hx hb dX0_canLight_4 (by decide) ?_
    exact x_zret hx hb hr hlk hP hD hS [0, 1] (()) rfl (by decide) rfl trivial (by decide) (by decide) dX0_canLight_5
set_option maxHeartbeats 4000000 in
set_option maxRecDepth 100000 in
theorem g_canLight_16 (l : Launch) (D : va_G) (cT : Nat → ClassId) (sz : Nat) (b0 : Nat) (b1 : Nat) (f0 : Nat → Int32) (f1 : Nat → Int32) (x : Int32) (y : Int32) (z : Int32) (hz : z.toInt ≤ 16) : Met l yX0_canLight (wsc yX0_canLight cX0_canLight 8 (some .boolean)) { frames := 19, cells := 0, slots := 0, locals := 553 } (va_Pc [.ref b0, .ref b1, .int x, .int y, .int z] (PX D cT sz [(sw_in cT b0 16 f0), (sw_in cT b1 16 f1)])) (va_Qi (fun (r : Int32) (u : Unit) => True) (fun u t => RW D (va_A [(sw_in cT b0 16 f0), (sw_in cT b1 16 f1)] sz) ((fun _ : Unit => [(sw_in cT b0 16 f0), (sw_in cT b1 16 f1)]) u) t) (va_A [(sw_in cT b0 16 f0), (sw_in cT b1 16 f1)] sz)) 0 0 (va_A [(sw_in cT b0 16 f0), (sw_in cT b1 16 f1)] sz) := by
  refine m_of (y := yX0_canLight) (cc := cX0_canLight) (nL := 8) (ret := (some .boolean)) (D := D) (cT := cT) (av := [.ref b0, .ref b1, .int x, .int y, .int z]) (wi := [(sw_in cT b0 16 f0), (sw_in cT b1 16 f1)]) (fun A => va_Qi (fun (r : Int32) (u : Unit) => True) (fun u t => RW D A ((fun _ : Unit => [(sw_in cT b0 16 f0), (sw_in cT b1 16 f1)]) u) t) A) (by decide) (Nat.le_of_ble_eq_true rfl) ?_
  intro p e s m below meth c A hx hb hml hown htg hK hN hr hlk hnm hsz hP hD hS hA ls hl
  have hown : s.vm.findClass RX0 = some m.cls := hown
  have hl : lv_has ls 8 [(0, .ref b0), (1, .ref b1), (2, .int x), (3, .int y), (4, .int z)] := hl
  refine lv_iload_n hx hb dX0_canLight_0 rfl (lv_at hl 2 rfl) ?_
  refine lv_if_ne (tgt := 6) hx hb dX0_canLight_1 (by decide) (fun c_1 => ?_) (fun c_1 => ?_)
  · have ic_1 : ¬ x.toInt = 0 := ine c_1 (rfl) (by decide)
    refine lv_iload_n hx hb dX0_canLight_6 rfl (lv_at hl 2 rfl) ?_
    refine xk_i (wr := [(sw_in cT b0 16 f0), (sw_in cT b1 16 f1)]) (xr_S (n := 1) (As := [.int x]) (rest := []) ⟨hx, hb, hml, hown, htg⟩ hK hN hP hD hS hA [] rfl (by decide) (g_ntz l D cT _ (x)) wi_1026 wi_1027 wi_138 wi_1028 ⟨rfl, by decide +kernel⟩ ⟨Nat.le_of_ble_eq_true rfl, Nat.le_of_ble_eq_true rfl⟩ rfl hl.1 rfl (Nat.le_of_ble_eq_true rfl) dX0_canLight_7 ⟨Nat.le_of_ble_eq_true rfl, Nat.le_of_ble_eq_true rfl⟩) hP hD hS hA [] [0, 1] rfl rfl (by decide) (by decide) (fun r_3 u_2 H locs hwr_3 hP hD hS => ?_)
    obtain ⟨hP, hD⟩ : PD D A [(sw_in cT b0 16 f0), (sw_in cT b1 16 f1)] _ := ⟨hP, hD⟩
    have qr_3_0 : 0 ≤ r_3.toInt ∧ r_3.toInt ≤ 2147483647 := hwr_3.1
    refine lv_istore (lv' := [(5, .int r_3), (0, .ref b0), (1, .ref b1), (2, .int x), (3, .int y), (4, .int z)]) hx hb dX0_canLight_10 hl (by decide) rfl (fun ls hl => ?_)
    refine lv_iload hx hb dX0_canLight_12 (lv_at hl 5 rfl) ?_
    refine lv_if_le (tgt := 24) hx hb dX0_canLight_14 (by decide) (fun c_4 => ?_) (fun c_4 => ?_)
    · have ic_4 : z.toInt ≤ 0 := ile c_4 (rfl) (by decide)
      refine lv_iconst (v := 0) hx hb dX0_canLight_24 (by decide) ?_
      exact x_zret hx hb hr hlk hP hD hS [0, 1] (()) rfl (by decide) rfl trivial (by decide) (by decide) dX0_canLight_25
    · have ic_4 : 0 < z.toInt := inle c_4 (rfl) (by decide)
      refine lv_iload hx hb dX0_canLight_17 (lv_at hl 0 rfl) ?_
      refine lv_bipush (v := 16) hx hb dX0_canLight_19 (by decide) ?_
      refine lv_icmp_lt (tgt := 26) hx hb dX0_canLight_21 (by decide) (fun c_5 => ?_) (fun c_5 => ?_)
      · have ic_5 : r_3.toInt < 16 := ilt c_5 (rfl) (by decide)
        refine lv_aload_n hx hb dX0_canLight_26 rfl (lv_at hl 2 rfl) ?_
        refine lv_iload hx hb dX0_canLight_27 (lv_at hl 0 rfl) ?_
        refine va_iald hx hb hK hP 1 0 rfl rfl (vp_in_iff.mpr (by omega)) dX0_canLight_29 ?_
        refine lv_topi (fun z_6 ez_6 => ?_)
        refine lv_iload_n hx hb dX0_canLight_30 rfl (lv_at hl 4 rfl) ?_
        refine lv_iand hx hb dX0_canLight_31 ?_
        refine lv_topi (fun z_7 ez_7 => ?_)
        refine lv_istore (lv' := [(6, .int z_7), (5, .int r_3), (0, .ref b0), (1, .ref b1), (2, .int x), (3, .int y), (4, .int z)]) hx hb dX0_canLight_32 hl (by decide) rfl (fun ls hl => ?_)
        refine lv_iconst (v := 0) hx hb dX0_canLight_34 (by decide) ?_
        refine lv_istore (lv' := [(7, .int 0), (6, .int z_7), (5, .int r_3), (0, .ref b0), (1, .ref b1), (2, .int x), (3, .int y), (4, .int z)]) hx hb dX0_canLight_35 hl (by decide) rfl (fun ls hl => ?_)
        refine (fun (key : ∀ (n9_37 : Nat) (k9_37 : Nat)  (H : Heap) (locs : List Loc) (ls : Array Slot), (k9_37 : Int) ≤ 16 → 16 < (k9_37 : Int) + n9_37 → PD D A [(sw_in cT b0 16 f0), (sw_in cT b1 16 f1)] H → va_S A s.heap H locs → lv_has ls 8 [(7, .int (nI k9_37)), (6, .int z_7), (5, .int r_3), (0, .ref b0), (1, .ref b1), (2, .int x), (3, .int y), (4, .int z)] → W p l e _ s m _ below meth c H locs _ _ _ (F0 m 37 ls [])) => key (Int.toNat (16 - 0) + 1) 0  _ _ _ (by omega) (by omega)  ⟨hP, hD⟩ hS (lv_sub hl [0, 1, 2, 3, 4, 5, 6, 7] rfl)) ?_
        intro n9_37
        induction n9_37 with
        | zero => intro k9_37  H locs ls hq1 hq2; exact absurd hq2 (by omega)
        | succ n9_37 ih_37 =>
          intro k9_37  H locs ls hq1_37 hq2_37  hPD hS hl
          obtain ⟨hP, hD⟩ := hPD
          have hk9_37 : (nI k9_37).toInt = (k9_37 : Int) := nI_toInt (by omega)
          refine lv_iload hx hb dX0_canLight_37 (lv_at hl 0 rfl) ?_
          refine lv_bipush (v := 16) hx hb dX0_canLight_39 (by decide) ?_
          refine lv_icmp_ge (tgt := 83) hx hb dX0_canLight_41 (by decide) (fun c_8 => ?_) (fun c_8 => ?_)
          · have ic_8 : 16 ≤ ((k9_37 : Nat) : Int) := ile c_8 (by decide) (nI_toInt (by omega))
            refine lv_iconst (v := 0) hx hb dX0_canLight_83 (by decide) ?_
            exact x_zret hx hb hr hlk hP hD hS [0, 1] (()) rfl (by decide) rfl trivial (by decide) (by decide) dX0_canLight_84
          · have ic_8 : ((k9_37 : Nat) : Int) < 16 := inle c_8 (by decide) (nI_toInt (by omega))
            refine lv_iload hx hb dX0_canLight_44 (lv_at hl 1 rfl) ?_
            refine lv_iload hx hb dX0_canLight_46 (lv_at hl 0 rfl) ?_
            refine lv_ishr hx hb dX0_canLight_48 ?_
            refine lv_topi (fun z_9 ez_9 => ?_)
            refine lv_iconst (v := 1) hx hb dX0_canLight_49 (by decide) ?_
            refine lv_iand hx hb dX0_canLight_50 ?_
            refine lv_topi (fun z_10 ez_10 => ?_)
            have iz_10 : 0 ≤ z_10.toInt ∧ z_10.toInt ≤ 1 := andI ez_10 (by decide) (by decide)
            refine lv_if_eq (tgt := 77) hx hb dX0_canLight_51 (by decide) (fun c_11 => ?_) (fun c_11 => ?_)
            · have ic_11 : z_10.toInt = 0 := ieq c_11 (rfl) (by decide)
              refine lv_iinc (v := (nI (k9_37 + 1))) (lv' := [(7, .int (nI (k9_37 + 1))), (6, .int z_7), (5, .int r_3), (0, .ref b0), (1, .ref b1), (2, .int x), (3, .int y), (4, .int z)]) hx hb dX0_canLight_77 hl (k := 0) rfl (by exact nI_1 (k9_37)) (by decide) rfl (fun ls hl => ?_)
              refine lv_goto (tgt := 37) hx hb dX0_canLight_80 (by decide) ?_
              exact ih_37 (k9_37 + 1)  _ _ _ (by omega) (by omega)  ⟨hP.sub [0, 1] rfl, hD.sub [0, 1] (by decide) rfl⟩ hS (lv_sub hl [0, 1, 2, 3, 4, 5, 6, 7] rfl)
            · have ic_11 : ¬ z_10.toInt = 0 := ine c_11 (rfl) (by decide)
              refine lv_aload_n hx hb dX0_canLight_54 rfl (lv_at hl 3 rfl) ?_
              refine lv_aload_n hx hb dX0_canLight_55 rfl (lv_at hl 4 rfl) ?_
              refine lv_iload_n hx hb dX0_canLight_56 rfl (lv_at hl 5 rfl) ?_
              refine lv_aload_n hx hb dX0_canLight_57 rfl (lv_at hl 3 rfl) ?_
              refine lv_iload hx hb dX0_canLight_58 (lv_at hl 0 rfl) ?_
              refine va_iald hx hb hK hP 0 0 rfl rfl (vp_in_nI (by omega) (by omega)) dX0_canLight_60 ?_
              refine lv_topi (fun z_12 ez_12 => ?_)
              refine lv_iconst (v := (-1)) hx hb dX0_canLight_61 (by decide) ?_
              refine lv_ixor hx hb dX0_canLight_62 ?_
              refine lv_topi (fun z_13 ez_13 => ?_)
              refine lv_iand hx hb dX0_canLight_63 ?_
              refine lv_topi (fun z_14 ez_14 => ?_)
              refine lv_iload_n hx hb dX0_canLight_64 rfl (lv_at hl 6 rfl) ?_
              refine lv_iload hx hb dX0_canLight_65 (lv_at hl 7 rfl) ?_
              refine lv_iconst (v := 1) hx hb dX0_canLight_67 (by decide) ?_
              refine lv_isub hx hb dX0_canLight_68 ?_
              refine lv_topi (fun z_15 ez_15 => ?_)
              have iz_15 : z_15.toInt = z.toInt - 1 := toInt_subI ez_15 (rfl) (by decide) (by omega)
              refine xk_i (wr := []) (xr_S (n := 5) (As := [.ref b0, .ref b1, .int z_14, .int y, .int z_15]) (rest := []) ⟨hx, hb, hml, hown, htg⟩ hK hN hP hD hS hA [0, 1] rfl (by decide) (g_canLight_15 l D cT _ (b0) (b1) (f0) (f1) (z_14) (y) (z_15) (by first | assumption | decide | omega | (simp only [ti_0, ti_1, ti_2, ti_3, ti_4, ti_5, ti_6, ti_7, ti_8, ti_9, ti_10, ti_11, ti_12, ti_m1]; omega))) wi_1023 wi_1024 wi_129 wi_1025 ⟨rfl, by decide +kernel⟩ ⟨Nat.le_of_ble_eq_true rfl, Nat.le_of_ble_eq_true rfl⟩ rfl hl.1 rfl (Nat.le_of_ble_eq_true rfl) dX0_canLight_69 ⟨Nat.le_of_ble_eq_true rfl, Nat.le_of_ble_eq_true rfl⟩) hP hD hS hA [0, 1] [] rfl rfl (by decide) (by decide) (fun r_17 u_16 H locs hwr_17 hP hD hS => ?_)
              obtain ⟨hP, hD⟩ : PD D A [(sw_in cT b0 16 f0), (sw_in cT b1 16 f1)] _ := ⟨hP, hD⟩
              refine lv_if_eq (tgt := 77) hx hb dX0_canLight_72 (by decide) (fun c_18 => ?_) (fun c_18 => ?_)
              · have ic_18 : r_17.toInt = 0 := ieq c_18 (rfl) (by decide)
                refine lv_iinc (v := (nI (k9_37 + 1))) (lv' := [(7, .int (nI (k9_37 + 1))), (6, .int z_7), (5, .int r_3), (0, .ref b0), (1, .ref b1), (2, .int x), (3, .int y), (4, .int z)]) hx hb dX0_canLight_77 hl (k := 0) rfl (by exact nI_1 (k9_37)) (by decide) rfl (fun ls hl => ?_)
                refine lv_goto (tgt := 37) hx hb dX0_canLight_80 (by decide) ?_
                exact ih_37 (k9_37 + 1)  _ _ _ (by omega) (by omega)  ⟨hP.sub [0, 1] rfl, hD.sub [0, 1] (by decide) rfl⟩ hS (lv_sub hl [0, 1, 2, 3, 4, 5, 6, 7] rfl)
              · have ic_18 : ¬ r_17.toInt = 0 := ine c_18 (rfl) (by decide)
                refine lv_iconst (v := 1) hx hb dX0_canLight_75 (by decide) ?_
                exact x_zret hx hb hr hlk hP hD hS [0, 1] (()) rfl (by decide) rfl trivial (by decide) (by decide) dX0_canLight_76
      · have ic_5 : 16 ≤ r_3.toInt := inlt c_5 (rfl) (by decide)
        refine lv_iconst (v := 0) hx hb dX0_canLight_24 (by decide) ?_
        exact x_zret hx hb hr hlk hP hD hS [0, 1] (()) rfl (by decide) rfl trivial (by decide) (by decide) dX0_canLight_25
  · have ic_1 : x.toInt = 0 := ieq c_1 (rfl) (by decide)
    refine lv_iconst (v := 1) hx hb dX0_canLight_4 (by decide) ?_
    exact x_zret hx hb hr hlk hP hD hS [0, 1] (()) rfl (by decide) rfl trivial (by decide) (by decide) dX0_canLight_5
