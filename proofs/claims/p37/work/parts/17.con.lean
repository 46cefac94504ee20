set_option maxHeartbeats 4000000 in
set_option maxRecDepth 100000 in
theorem g_canLight_13 (l : Launch) (D : va_G) (cT : Nat → ClassId) (sz : Nat) (b0 : Nat) (b1 : Nat) (f0 : Nat → Int32) (f1 : Nat → Int32) (x : Int32) (y : Int32) (z : Int32) (hz : z.toInt ≤ 13) : Met l yX0_canLight (wsc yX0_canLight cX0_canLight 8 (some .boolean)) { frames := 16, cells := 0, slots := 0, locals := 472 } (va_Pc [.ref b0, .ref b1, .int x, .int y, .int z] (PX D cT sz [(b0, .inl (cT 0, 16, .inl (f0))), (b1, .inl (cT 0, 16, .inl (f1)))])) (va_Qi (fun (r : Int32) (u : Unit) => True) (fun u t => RW D (va_A [(b0, .inl (cT 0, 16, .inl (f0))), (b1, .inl (cT 0, 16, .inl (f1)))] sz) ((fun _ : Unit => [(b0, .inl (cT 0, 16, .inl (f0))), (b1, .inl (cT 0, 16, .inl (f1)))]) u) t) (va_A [(b0, .inl (cT 0, 16, .inl (f0))), (b1, .inl (cT 0, 16, .inl (f1)))] sz)) 0 0 (va_A [(b0, .inl (cT 0, 16, .inl (f0))), (b1, .inl (cT 0, 16, .inl (f1)))] sz) := by
  refine m_of (y := yX0_canLight) (cc := cX0_canLight) (nL := 8) (ret := (some .boolean)) (D := D) (cT := cT) (av := [.ref b0, .ref b1, .int x, .int y, .int z]) (wi := [(b0, .inl (cT 0, 16, .inl (f0))), (b1, .inl (cT 0, 16, .inl (f1)))]) (fun A => va_Qi (fun (r : Int32) (u : Unit) => True) (fun u t => RW D A ((fun _ : Unit => [(b0, .inl (cT 0, 16, .inl (f0))), (b1, .inl (cT 0, 16, .inl (f1)))]) u) t) A) (by decide) (Nat.le_of_ble_eq_true rfl) ?_
  intro p e s m below meth c A hx hb hml hown htg hK hN hr hlk hnm hsz hP hD hS hA ls hl
  have hown : s.vm.findClass RX0 = some m.cls := hown
  have hl : lv_has ls 8 [(0, .ref b0), (1, .ref b1), (2, .int x), (3, .int y), (4, .int z)] := hl
  refine lv_iload_n hx hb dX0_canLight_0 rfl (lv_at hl 2 rfl) ?_
  refine lv_if_ne (tgt := 6) hx hb dX0_canLight_1 (by decide) (fun c_1 => ?_) (fun c_1 => ?_)
  · have ic_1 : ¬ x.toInt = 0 := ine c_1 (rfl) (by decide)
    refine lv_iload_n hx hb dX0_canLight_6 rfl (lv_at hl 2 rfl) ?_
    refine xk_i (wr := [(b0, .inl (cT 0, 16, .inl (f0))), (b1, .inl (cT 0, 16, .inl (f1)))]) (xr_S (n := 1) (As := [.int x]) (rest := []) ⟨hx, hb, hml, hown, htg⟩ hK hN hP hD hS hA [] rfl (by decide) (g_ntz l D cT _ (x)) wi_1026 wi_1027 wi_138 wi_1028 ⟨rfl, by decide +kernel⟩ ⟨Nat.le_of_ble_eq_true rfl, Nat.le_of_ble_eq_true rfl⟩ rfl hl.1 rfl (Nat.le_of_ble_eq_true rfl) dX0_canLight_7 ⟨Nat.le_of_ble_eq_true rfl, Nat.le_of_ble_eq_true rfl⟩) hP hD hS hA [] [0, 1] rfl rfl (by decide) (by decide) (fun r_3 u_2 H locs hwr_3 hP hD hS => ?_)
    have hP : va_P D classes [(b0, .inl (cT 0, 16, .inl (f0))), (b1, .inl (cT 0, 16, .inl (f1)))] _ := hP
    have hD : va_D A [(b0, .inl (cT 0, 16, .inl (f0))), (b1, .inl (cT 0, 16, .inl (f1)))] := hD
    have qr_3_0 : 0 ≤ r_3.toInt ∧ r_3.toInt ≤ 2147483647 := hwr_3.1
    refine lv_istore (lv' := [(5, .int r_3), (0, .ref b0), (1, .ref b1), (2, .int x), (3, .int y), (4, .int z)]) hx hb dX0_canLight_10 hl (by decide) rfl (fun ls hl => ?_)
    refine lv_iload hx hb dX0_canLight_12 (lv_at hl 5 rfl) ?_
    refine lv_if_le (tgt := 24) hx hb dX0_canLight_14 (by decide) (fun c_4 => ?_) (fun c_4 => ?_)
    · have ic_4 : z.toInt ≤ 0 := ile c_4 (rfl) (by decide)
      refine lv_iconst (v := 0) hx hb dX0_canLight_24 (by decide) ?_
      exact x_zret hx hb hr hlk hP hD hS [0, 1] (()) rfl (by decide) rfl trivial (by decide) (by decide) dX0_canLight_25
    · have ic_4 : 0 < z.toInt := inle c_4 (rfl) (by decide)
      refine lv_iload hx hb dX0_canLight_17 (lv_at hl 0 rfl) ?_
      refine lv_bipush (v := 16) hx hb dX0_canLight_19 (by decide) ?_
      refine lv_icmp_lt (tgt := 26) hx hb dX0_canLight_21 (by decide) (fun c_5 => ?_) (fun c_5 => ?_)
      · have ic_5 : r_3.toInt < 16 := ilt c_5 (rfl) (by decide)
        refine lv_aload_n hx hb dX0_canLight_26 rfl (lv_at hl 2 rfl) ?_
        refine lv_iload hx hb dX0_canLight_27 (lv_at hl 0 rfl) ?_
        refine va_iald hx hb hK hP 1 0 rfl rfl (vp_in_iff.mpr (by omega)) dX0_canLight_29 ?_
        refine lv_topi (fun z_6 ez_6 => ?_)
        refine lv_iload_n hx hb dX0_canLight_30 rfl (lv_at hl 4 rfl) ?_
        refine lv_iand hx hb dX0_canLight_31 ?_
        refine lv_topi (fun z_7 ez_7 => ?_)
        refine lv_istore (lv' := [(6, .int z_7), (5, .int r_3), (0, .ref b0), (1, .ref b1), (2, .int x), (3, .int y), (4, .int z)]) hx hb dX0_canLight_32 hl (by decide) rfl (fun ls hl => ?_)
        refine lv_iconst (v := 0) hx hb dX0_canLight_34 (by decide) ?_
        refine lv_istore (lv' := [(7, .int 0), (6, .int z_7), (5, .int r_3), (0, .ref b0), (1, .ref b1), (2, .int x), (3, .int y), (4, .int z)]) hx hb dX0_canLight_35 hl (by decide) rfl (fun ls hl => ?_)
        refine (fun (key : ∀ (n9_37 : Nat) (k9_37 : Nat)  (H : Heap) (locs : List Loc) (ls : Array Slot), (k9_37 : Int) ≤ 16 → 16 < (k9_37 : Int) + n9_37 → va_P D classes [(b0, .inl (cT 0, 16, .inl (f0))), (b1, .inl (cT 0, 16, .inl (f1)))] H → va_D A [(b0, .inl (cT 0, 16, .inl (f0))), (b1, .inl (cT 0, 16, .inl (f1)))] → va_S A s.heap H locs → lv_has ls 8 [(7, .int (nI k9_37)), (6, .int z_7), (5, .int r_3), (0, .ref b0), (1, .ref b1), (2, .int x), (3, .int y), (4, .int z)] → W p l e _ s m _ below meth c H locs _ _ _ (F0 m 37 ls [])) => key (Int.toNat (16 - 0) + 1) 0  _ _ _ (by omega) (by omega)  hP hD hS (lv_sub hl [0, 1, 2, 3, 4, 5, 6, 7] rfl)) ?_
        intro n9_37
        induction n9_37 with
        | zero => intro k9_37  H locs ls hq1 hq2; exact absurd hq2 (by omega)
        | succ n9_37 ih_37 =>
          intro k9_37  H locs ls hq1_37 hq2_37  hP hD hS hl
          have hk9_37 : (nI k9_37).toInt = (k9_37 : Int) := nI_toInt (by omega)
          refine lv_iload hx hb dX0_canLight_37 (lv_at hl 0 rfl) ?_
          refine lv_bipush (v := 16) hx hb dX0_canLight_39 (by decide) ?_
          refine lv_icmp_ge (tgt := 83) hx hb dX0_canLight_41 (by decide) (fun c_8 => ?_) (fun c_8 => ?_)
          · have ic_8 : 16 ≤ ((k9_37 : Nat) : Int) := ile c_8 (by decide) (nI_toInt (by omega))
            refine lv_iconst (v := 0) hx hb dX0_canLight_83 (by decide) ?_
            exact x_zret hx hb hr hlk hP hD hS [0, 1] (()) rfl (by decide) rfl trivial (by decide) (by decide) dX0_canLight_84
          · have ic_8 : ((k9_37 : Nat) : Int) < 16 := inle c_8 (by decide) (nI_toInt (by omega))
            refine lv_iload hx hb dX0_canLight_44 (lv_at hl 1 rfl) ?_
            refine lv_iload hx hb dX0_canLight_46 (lv_at hl 0 rfl) ?_
            refine lv_ishr hx hb dX0_canLight_48 ?_
            refine lv_topi (fun z_9 ez_9 => ?_)
            refine lv_iconst (v := 1) hx hb dX0_canLight_49 (by decide) ?_
            refine lv_iand hx hb dX0_canLight_50 ?_
            refine lv_topi (fun z_10 ez_10 => ?_)
            have iz_10 : 0 ≤ z_10.toInt ∧ z_10.toInt ≤ 1 := andI ez_10 (by decide) (by decide)
            refine lv_if_eq (tgt := 77) hx hb dX0_canLight_51 (by decide) (fun c_11 => ?_) (fun c_11 => ?_)
            · have ic_11 : z_10.toInt = 0 := ieq c_11 (rfl) (by decide)
              refine lv_iinc (v := (nI (k9_37 + 1))) (lv' := [(7, .int (nI (k9_37 + 1))), (6, .int z_7), (5, .int r_3), (0, .ref b0), (1, .ref b1), (2, .int x), (3, .int y), (4, .int z)]) hx hb dX0_canLight_77 hl (k := 0) rfl (by exact nI_1 (k9_37)) (by decide) rfl (fun ls hl => ?_)
              refine lv_goto (tgt := 37) hx hb dX0_canLight_80 (by decide) ?_
              exact ih_37 (k9_37 + 1)  _ _ _ (by omega) (by omega)  (hP.sub [0, 1] rfl) (hD.sub [0, 1] (by decide) rfl) hS (lv_sub hl [0, 1, 2, 3, 4, 5, 6, 7] rfl)
            · have ic_11 : ¬ z_10.toInt = 0 := ine c_11 (rfl) (by decide)
              refine lv_aload_n hx hb dX0_canLight_54 rfl (lv_at hl 3 rfl) ?_
              refine lv_aload_n hx hb dX0_canLight_55 rfl (lv_at hl 4 rfl) ?_
              refine lv_iload_n hx hb dX0_canLight_56 rfl (lv_at hl 5 rfl) ?_
              refine lv_aload_n hx hb dX0_canLight_57 rfl (lv_at hl 3 rfl) ?_
              refine lv_iload hx hb dX0_canLight_58 (lv_at hl 0 rfl) ?_
              refine va_iald hx hb hK hP 0 0 rfl rfl (vp_in_nI (by omega) (by omega)) dX0_canLight_60 ?_
              refine lv_topi (fun z_12 ez_12 => ?_)
              refine lv_iconst (v := (-1)) hx hb dX0_canLight_61 (by decide) ?_
              refine lv_ixor hx hb dX0_canLight_62 ?_
              refine lv_topi (fun z_13 ez_13 => ?_)
              refine lv_iand hx hb dX0_canLight_63 ?_
              refine lv_topi (fun z_14 ez_14 => ?_)
              refine lv_iload_n hx hb dX0_canLight_64 rfl (lv_at hl 6 rfl) ?_
              refine lv_iload hx hb dX0_canLight_65 (lv_at hl 7 rfl) ?_
              refine lv_iconst (v := 1) hx hb dX0_canLight_67 (by decide) ?_
              refine lv_isub hx hb dX0_canLight_68 ?_
              refine lv_topi (fun z_15 ez_15 => ?_)
              have iz_15 : z_15.toInt = z.toInt - 1 := toInt_subI ez_15 (rfl) (by decide) (by omega)
              refine xk_i (wr := []) (xr_S (n := 5) (As := [.ref b0, .ref b1, .int z_14, .int y, .int z_15]) (rest := []) ⟨hx, hb, hml, hown, htg⟩ hK hN hP hD hS hA [0, 1] rfl (by decide) (g_canLight_12 l D cT _ (b0) (b1) (f0) (f1) (z_14) (y) (z_15) (by first | assumption | omega | decide | (simp only [ti_0, ti_1, ti_2, ti_3, ti_4, ti_5, ti_6, ti_7, ti_8, ti_9, ti_10, ti_11, ti_12, ti_m1]; omega))) wi_1023 wi_1024 wi_129 wi_1025 ⟨rfl, by decide +kernel⟩ ⟨Nat.le_of_ble_eq_true rfl, Nat.le_of_ble_eq_true rfl⟩ rfl hl.1 rfl (Nat.le_of_ble_eq_true rfl) dX0_canLight_69 ⟨Nat.le_of_ble_eq_true rfl, Nat.le_of_ble_eq_true rfl⟩) hP hD hS hA [0, 1] [] rfl rfl (by decide) (by decide) (fun r_17 u_16 H locs hwr_17 hP hD hS => ?_)
              have hP : va_P D classes [(b0, .inl (cT 0, 16, .inl (f0))), (b1, .inl (cT 0, 16, .inl (f1)))] _ := hP
              have hD : va_D A [(b0, .inl (cT 0, 16, .inl (f0))), (b1, .inl (cT 0, 16, .inl (f1)))] := hD
              refine lv_if_eq (tgt := 77) hx hb dX0_canLight_72 (by decide) (fun c_18 => ?_) (fun c_18 => ?_)
              · have ic_18 : r_17.toInt = 0 := ieq c_18 (rfl) (by decide)
                refine lv_iinc (v := (nI (k9_37 + 1))) (lv' := [(7, .int (nI (k9_37 + 1))), (6, .int z_7), (5, .int r_3), (0, .ref b0), (1, .ref b1), (2, .int x), (3, .int y), (4, .int z)]) hx hb dX0_canLight_77 hl (k := 0) rfl (by exact nI_1 (k9_37)) (by decide) rfl (fun ls hl => ?_)
                refine lv_goto (tgt := 37) hx hb dX0_canLight_80 (by decide) ?_
                exact ih_37 (k9_37 + 1)  _ _ _ (by omega) (by omega)  (hP.sub [0, 1] rfl) (hD.sub [0, 1] (by decide) rfl) hS (lv_sub hl [0, 1, 2, 3, 4, 5, 6, 7] rfl)
              · have ic_18 : ¬ r_17.toInt = 0 := ine c_18 (rfl) (by decide)
                refine lv_iconst (v := 1) hx hb dX0_canLight_75 (by decide) ?_
                exact x_zret hx hb hr hlk hP hD hS [0, 1] (()) rfl (by decide) rfl trivial (by decide) (by decide) dX0_canLight_76
      · have ic_5 : 16 ≤ r_3.toInt := inlt c_5 (rfl) (by decide)
        refine lv_iconst (v := 0) hx hb dX0_canLight_24 (by decide) ?_
        exact x_zret hx hb hr hlk hP hD hS [0, 1] (()) rfl (by decide) rfl trivial (by decide) (by decide) dX0_canLight_25
  · have ic_1 : x.toInt = 0 := ieq c_1 (rfl) (by decide)
    refine lv_iconst (v := 1) hx hb dX0_canLight_4 (by decide) ?_
    exact x_zret hx hb hr hlk hP hD hS [0, 1] (()) rfl (by decide) rfl trivial (by decide) (by decide) dX0_canLight_5
set_option maxHeartbeats 4000000 in
set_option maxRecDepth 100000 in
theorem g_canLight_14 (l : Launch) (D : va_G) (cT : Nat → ClassId) (sz : Nat) (b0 : Nat) (b1 : Nat) (f0 : Nat → Int32) (f1 : Nat → Int32) (x : Int32) (y : Int32) (z : Int32) (hz : z.toInt ≤ 14) : Met l yX0_canLight (wsc yX0_canLight cX0_canLight 8 (some .boolean)) { frames := 17, cells := 0, slots := 0, locals := 499 } (va_Pc [.ref b0, .ref b1, .int x, .int y, .int z] (PX D cT sz [(b0, .inl (cT 0, 16, .inl (f0))), (b1, .inl (cT 0, 16, .inl (f1)))])) (va_Qi (fun (r : Int32) (u : Unit) => True) (fun u t => RW D (va_A [(b0, .inl (cT 0, 16, .inl (f0))), (b1, .inl (cT 0, 16, .inl (f1)))] sz) ((fun _ : Unit => [(b0, .inl (cT 0, 16, .inl (f0))), (b1, .inl (cT 0, 16, .inl (f1)))]) u) t) (va_A [(b0, .inl (cT 0, 16, .inl (f0))), (b1, .inl (cT 0, 16, .inl (f1)))] sz)) 0 0 (va_A [(b0, .inl (cT 0, 16, .inl (f0))), (b1, .inl (cT 0, 16, .inl (f1)))] sz) := by
  refine m_of (y := yX0_canLight) (cc := cX0_canLight) (nL := 8) (ret := (some .boolean)) (D := D) (cT := cT) (av := [.ref b0, .ref b1, .int x, .int y, .int z]) (wi := [(b0, .inl (cT 0, 16, .inl (f0))), (b1, .inl (cT 0, 16, .inl (f1)))]) (fun A => va_Qi (fun (r : Int32) (u : Unit) => True) (fun u t => RW D A ((fun _ : Unit => [(b0, .inl (cT 0, 16, .inl (f0))), (b1, .inl (cT 0, 16, .inl (f1)))]) u) t) A) (by decide) (Nat.le_of_ble_eq_true rfl) ?_
  intro p e s m below meth c A hx hb hml hown htg hK hN hr hlk hnm hsz hP hD hS hA ls hl
  have hown : s.vm.findClass RX0 = some m.cls := hown
  have hl : lv_has ls 8 [(0, .ref b0), (1, .ref b1), (2, .int x), (3, .int y), (4, .int z)] := hl
  refine lv_iload_n hx hb dX0_canLight_0 rfl (lv_at hl 2 rfl) ?_
  refine lv_if_ne (tgt := 6) hx hb dX0_canLight_1 (by decide) (fun c_1 => ?_) (fun c_1 => ?_)
  · have ic_1 : ¬ x.toInt = 0 := ine c_1 (rfl) (by decide)
    refine lv_iload_n hx hb dX0_canLight_6 rfl (lv_at hl 2 rfl) ?_
    refine xk_i (wr := [(b0, .inl (cT 0, 16, .inl (f0))), (b1, .inl (cT 0, 16, .inl (f1)))]) (xr_S (n := 1) (As := [.int x]) (rest := []) ⟨hx, hb, hml, hown, htg⟩ hK hN hP hD hS hA [] rfl (by decide) (g_ntz l D cT _ (x)) wi_1026 wi_1027 wi_138 wi_1028 ⟨rfl, by decide +kernel⟩ ⟨Nat.le_of_ble_eq_true rfl, Nat.le_of_ble_eq_true rfl⟩ rfl hl.1 rfl (Nat.le_of_ble_eq_true rfl) dX0_canLight_7 ⟨Nat.le_of_ble_eq_true rfl, Nat.le_of_ble_eq_true rfl⟩) hP hD hS hA [] [0, 1] rfl rfl (by decide) (by decide) (fun r_3 u_2 H locs hwr_3 hP hD hS => ?_)
    have hP : va_P D classes [(b0, .inl (cT 0, 16, .inl (f0))), (b1, .inl (cT 0, 16, .inl (f1)))] _ := hP
    have hD : va_D A [(b0, .inl (cT 0, 16, .inl (f0))), (b1, .inl (cT 0, 16, .inl (f1)))] := hD
    have qr_3_0 : 0 ≤ r_3.toInt ∧ r_3.toInt ≤ 2147483647 := hwr_3.1
    refine lv_istore (lv' := [(5, .int r_3), (0, .ref b0), (1, .ref b1), (2, .int x), (3, .int y), (4, .int z)]) hx hb dX0_canLight_10 hl (by decide) rfl (fun ls hl => ?_)
    refine lv_iload hx hb dX0_canLight_12 (lv_at hl 5 rfl) ?_
    refine lv_if_le (tgt := 24) hx hb dX0_canLight_14 (by decide) (fun c_4 => ?_) (fun c_4 => ?_)
    · have ic_4 : z.toInt ≤ 0 := ile c_4 (rfl) (by decide)
      refine lv_iconst (v := 0) hx hb dX0_canLight_24 (by decide) ?_
      exact x_zret hx hb hr hlk hP hD hS [0, 1] (()) rfl (by decide) rfl trivial (by decide) (by decide) dX0_canLight_25
    · have ic_4 : 0 < z.toInt := inle c_4 (rfl) (by decide)
      refine lv_iload hx hb dX0_canLight_17 (lv_at hl 0 rfl) ?_
      refine lv_bipush (v := 16) hx hb dX0_canLight_19 (by decide) ?_
      refine lv_icmp_lt (tgt := 26) hx hb dX0_canLight_21 (by decide) (fun c_5 => ?_) (fun c_5 => ?_)
      · have ic_5 : r_3.toInt < 16 := ilt c_5 (rfl) (by decide)
        refine lv_aload_n hx hb dX0_canLight_26 rfl (lv_at hl 2 rfl) ?_
        refine lv_iload hx hb dX0_canLight_27 (lv_at hl 0 rfl) ?_
        refine va_iald hx hb hK hP 1 0 rfl rfl (vp_in_iff.mpr (by omega)) dX0_canLight_29 ?_
        refine lv_topi (fun z_6 ez_6 => ?_)
        refine lv_iload_n hx hb dX0_canLight_30 rfl (lv_at hl 4 rfl) ?_
        refine lv_iand hx hb dX0_canLight_31 ?_
        refine lv_topi (fun z_7 ez_7 => ?_)
        refine lv_istore (lv' := [(6, .int z_7), (5, .int r_3), (0, .ref b0), (1, .ref b1), (2, .int x), (3, .int y), (4, .int z)]) hx hb dX0_canLight_32 hl (by decide) rfl (fun ls hl => ?_)
        refine lv_iconst (v := 0) hx hb dX0_canLight_34 (by decide) ?_
        refine lv_istore (lv' := [(7, .int 0), (6, .int z_7), (5, .int r_3), (0, .ref b0), (1, .ref b1), (2, .int x), (3, .int y), (4, .int z)]) hx hb dX0_canLight_35 hl (by decide) rfl (fun ls hl => ?_)
        refine (fun (key : ∀ (n9_37 : Nat) (k9_37 : Nat)  (H : Heap) (locs : List Loc) (ls : Array Slot), (k9_37 : Int) ≤ 16 → 16 < (k9_37 : Int) + n9_37 → va_P D classes [(b0, .inl (cT 0, 16, .inl (f0))), (b1, .inl (cT 0, 16, .inl (f1)))] H → va_D A [(b0, .inl (cT 0, 16, .inl (f0))), (b1, .inl (cT 0, 16, .inl (f1)))] → va_S A s.heap H locs → lv_has ls 8 [(7, .int (nI k9_37)), (6, .int z_7), (5, .int r_3), (0, .ref b0), (1, .ref b1), (2, .int x), (3, .int y), (4, .int z)] → W p l e _ s m _ below meth c H locs _ _ _ (F0 m 37 ls [])) => key (Int.toNat (16 - 0) + 1) 0  _ _ _ (by omega) (by omega)  hP hD hS (lv_sub hl [0, 1, 2, 3, 4, 5, 6, 7] rfl)) ?_
        intro n9_37
        induction n9_37 with
        | zero => intro k9_37  H locs ls hq1 hq2; exact absurd hq2 (by omega)
        | succ n9_37 ih_37 =>
          intro k9_37  H locs ls hq1_37 hq2_37  hP hD hS hl
          have hk9_37 : (nI k9_37).toInt = (k9_37 : Int) := nI_toInt (by omega)
          refine lv_iload hx hb dX0_canLight_37 (lv_at hl 0 rfl) ?_
          refine lv_bipush (v := 16) hx hb dX0_canLight_39 (by decide) ?_
          refine lv_icmp_ge (tgt := 83) hx hb dX0_canLight_41 (by decide) (fun c_8 => ?_) (fun c_8 => ?_)
          · have ic_8 : 16 ≤ ((k9_37 : Nat) : Int) := ile c_8 (by decide) (nI_toInt (by omega))
            refine lv_iconst (v := 0) hx hb dX0_canLight_83 (by decide) ?_
            exact x_zret hx hb hr hlk hP hD hS [0, 1] (()) rfl (by decide) rfl trivial (by decide) (by decide) dX0_canLight_84
          · have ic_8 : ((k9_37 : Nat) : Int) < 16 := inle c_8 (by decide) (nI_toInt (by omega))
            refine lv_iload hx hb dX0_canLight_44 (lv_at hl 1 rfl) ?_
            refine lv_iload hx hb dX0_canLight_46 (lv_at hl 0 rfl) ?_
            refine lv_ishr hx hb dX0_canLight_48 ?_
            refine lv_topi (fun z_9 ez_9 => ?_)
            refine lv_iconst (v := 1) hx hb dX0_canLight_49 (by decide) ?_
            refine lv_iand hx hb dX0_canLight_50 ?_
            refine lv_topi (fun z_10 ez_10 => ?_)
            have iz_10 : 0 ≤ z_10.toInt ∧ z_10.toInt ≤ 1 := andI ez_10 (by decide) (by decide)
            refine lv_if_eq (tgt := 77) hx hb dX0_canLight_51 (by decide) (fun c_11 => ?_) (fun c_11 => ?_)
            · have ic_11 : z_10.toInt = 0 := ieq c_11 (rfl) (by decide)
              refine lv_iinc (v := (nI (k9_37 + 1))) (lv' := [(7, .int (nI (k9_37 + 1))), (6, .int z_7), (5, .int r_3), (0, .ref b0), (1, .ref b1), (2, .int x), (3, .int y), (4, .int z)]) hx hb dX0_canLight_77 hl (k := 0) rfl (by exact nI_1 (k9_37)) (by decide) rfl (fun ls hl => ?_)
              refine lv_goto (tgt := 37) hx hb dX0_canLight_80 (by decide) ?_
              exact ih_37 (k9_37 + 1)  _ _ _ (by omega) (by omega)  (hP.sub [0, 1] rfl) (hD.sub [0, 1] (by decide) rfl) hS (lv_sub hl [0, 1, 2, 3, 4, 5, 6, 7] rfl)
            · have ic_11 : ¬ z_10.toInt = 0 := ine c_11 (rfl) (by decide)
              refine lv_aload_n hx hb dX0_canLight_54 rfl (lv_at hl 3 rfl) ?_
              refine lv_aload_n hx hb dX0_canLight_55 rfl (lv_at hl 4 rfl) ?_
              refine lv_iload_n hx hb dX0_canLight_56 rfl (lv_at hl 5 rfl) ?_
              refine lv_aload_n hx hb dX0_canLight_57 rfl (lv_at hl 3 rfl) ?_
              refine lv_iload hx hb dX0_canLight_58 (lv_at hl 0 rfl) ?_
              refine va_iald hx hb hK hP 0 0 rfl rfl (vp_in_nI (by omega) (by omega)) dX0_canLight_60 ?_
              refine lv_topi (fun z_12 ez_12 => ?_)
              refine lv_iconst (v := (-1)) hx hb dX0_canLight_61 (by decide) ?_
              refine lv_ixor hx hb dX0_canLight_62 ?_
              refine lv_topi (fun z_13 ez_13 => ?_)
              refine lv_iand hx hb dX0_canLight_63 ?_
              refine lv_topi (fun z_14 ez_14 => ?_)
              refine lv_iload_n hx hb dX0_canLight_64 rfl (lv_at hl 6 rfl) ?_
              refine lv_iload hx hb dX0_canLight_65 (lv_at hl 7 rfl) ?_
              refine lv_iconst (v := 1) hx hb dX0_canLight_67 (by decide) ?_
              refine lv_isub hx hb dX0_canLight_68 ?_
              refine lv_topi (fun z_15 ez_15 => ?_)
              have iz_15 : z_15.toInt = z.toInt - 1 := toInt_subI ez_15 (rfl) (by decide) (by omega)
              refine xk_i (wr := []) (xr_S (n := 5) (As := [.ref b0, .ref b1, .int z_14, .int y, .int z_15]) (rest := []) ⟨hx, hb, hml, hown, htg⟩ hK hN hP hD hS hA [0, 1] rfl (by decide) (g_canLight_13 l D cT _ (b0) (b1) (f0) (f1) (z_14) (y) (z_15) (by first | assumption | omega | decide | (simp only [ti_0, ti_1, ti_2, ti_3, ti_4, ti_5, ti_6, ti_7, ti_8, ti_9, ti_10, ti_11, ti_12, ti_m1]; omega))) wi_1023 wi_1024 wi_129 wi_1025 ⟨rfl, by decide +kernel⟩ ⟨Nat.le_of_ble_eq_true rfl, Nat.le_of_ble_eq_true rfl⟩ rfl hl.1 rfl (Nat.le_of_ble_eq_true rfl) dX0_canLight_69 ⟨Nat.le_of_ble_eq_true rfl, Nat.le_of_ble_eq_true rfl⟩) hP hD hS hA [0, 1] [] rfl rfl (by decide) (by decide) (fun r_17 u_16 H locs hwr_17 hP hD hS => ?_)
              have hP : va_P D classes [(b0, .inl (cT 0, 16, .inl (f0))), (b1, .inl (cT 0, 16, .inl (f1)))] _ := hP
              have hD : va_D A [(b0, .inl (cT 0, 16, .inl (f0))), (b1, .inl (cT 0, 16, .inl (f1)))] := hD
              refine lv_if_eq (tgt := 77) hx hb dX0_canLight_72 (by decide) (fun c_18 => ?_) (fun c_18 => ?_)
              · have ic_18 : r_17.toInt = 0 := ieq c_18 (rfl) (by decide)
                refine lv_iinc (v := (nI (k9_37 + 1))) (lv' := [(7, .int (nI (k9_37 + 1))), (6, .int z_7), (5, .int r_3), (0, .ref b0), (1, .ref b1), (2, .int x), (3, .int y), (4, .int z)]) hx hb dX0_canLight_77 hl (k := 0) rfl (by exact nI_1 (k9_37)) (by decide) rfl (fun ls hl => ?_)
                refine lv_goto (tgt := 37) hx hb dX0_canLight_80 (by decide) ?_
                exact ih_37 (k9_37 + 1)  _ _ _ (by omega) (by omega)  (hP.sub [0, 1] rfl) (hD.sub [0, 1] (by decide) rfl) hS (lv_sub hl [0, 1, 2, 3, 4, 5, 6, 7] rfl)
              · have ic_18 : ¬ r_17.toInt = 0 := ine c_18 (rfl) (by decide)
                refine lv_iconst (v := 1) hx hb dX0_canLight_75 (by decide) ?_
                exact x_zret hx hb hr hlk hP hD hS [0, 1] (()) rfl (by decide) rfl trivial (by decide) (by decide) dX0_canLight_76
      · have ic_5 : 16 ≤ r_3.toInt := inlt c_5 (rfl) (by decide)
        refine lv_iconst (v := 0) hx hb dX0_canLight_24 (by decide) ?_
        exact x_zret hx hb hr hlk hP hD hS [0, 1] (()) rfl (by decide) rfl trivial (by decide) (by decide) dX0_canLight_25
  · have ic_1 : x.toInt = 0 := ieq c_1 (rfl) (by decide)
    refine lv_iconst (v := 1) hx hb dX0_canLight_4 (by decide) ?_
    exact x_zret hx hb hr hlk hP hD hS [0, 1] (()) rfl (by decide) rfl trivial (by decide) (by decide) dX0_canLight_5
set_option maxHeartbeats 4000000 in
set_option maxRecDepth 100000 in
theorem g_canLight_15 (l : Launch) (D : va_G) (cT : Nat → ClassId) (sz : Nat) (b0 : Nat) (b1 : Nat) (f0 : Nat → Int32) (f1 : Nat → Int32) (x : Int32) (y : Int32) (z : Int32) (hz : z.toInt ≤ 15) : Met l yX0_canLight (wsc yX0_canLight cX0_canLight 8 (some .boolean)) { frames := 18, cells := 0, slots := 0, locals := 526 } (va_Pc [.ref b0, .ref b1, .int x, .int y, .int z] (PX D cT sz [(b0, .inl (cT 0, 16, .inl (f0))), (b1, .inl (cT 0, 16, .inl (f1)))])) (va_Qi (fun (r : Int32) (u : Unit) => True) (fun u t => RW D (va_A [(b0, .inl (cT 0, 16, .inl (f0))), (b1, .inl (cT 0, 16, .inl (f1)))] sz) ((fun _ : Unit => [(b0, .inl (cT 0, 16, .inl (f0))), (b1, .inl (cT 0, 16, .inl (f1)))]) u) t) (va_A [(b0, .inl (cT 0, 16, .inl (f0))), (b1, .inl (cT 0, 16, .inl (f1)))] sz)) 0 0 (va_A [(b0, .inl (cT 0, 16, .inl (f0))), (b1, .inl (cT 0, 16, .inl (f1)))] sz) := by
  refine m_of (y := yX0_canLight) (cc := cX0_canLight) (nL := 8) (ret := (some .boolean)) (D := D) (cT := cT) (av := [.ref b0, .ref b1, .int x, .int y, .int z]) (wi := [(b0, .inl (cT 0, 16, .inl (f0))), (b1, .inl (cT 0, 16, .inl (f1)))]) (fun A => va_Qi (fun (r : Int32) (u : Unit) => True) (fun u t => RW D A ((fun _ : Unit => [(b0, .inl (cT 0, 16, .inl (f0))), (b1, .inl (cT 0, 16, .inl (f1)))]) u) t) A) (by decide) (Nat.le_of_ble_eq_true rfl) ?_
  intro p e s m below meth c A hx hb hml hown htg hK hN hr hlk hnm hsz hP hD hS hA ls hl
  have hown : s.vm.findClass RX0 = some m.cls := hown
  have hl : lv_has ls 8 [(0, .ref b0), (1, .ref b1), (2, .int x), (3, .int y), (4, .int z)] := hl
  refine lv_iload_n hx hb dX0_canLight_0 rfl (lv_at hl 2 rfl) ?_
  refine lv_if_ne (tgt := 6) hx hb dX0_canLight_1 (by decide) (fun c_1 => ?_) (fun c_1 => ?_)
  · have ic_1 : ¬ x.toInt = 0 := ine c_1 (rfl) (by decide)
    refine lv_iload_n hx hb dX0_canLight_6 rfl (lv_at hl 2 rfl) ?_
    refine xk_i (wr := [(b0, .inl (cT 0, 16, .inl (f0))), (b1, .inl (cT 0, 16, .inl (f1)))]) (xr_S (n := 1) (As := [.int x]) (rest := []) ⟨hx, hb, hml, hown, htg⟩ hK hN hP hD hS hA [] rfl (by decide) (g_ntz l D cT _ (x)) wi_1026 wi_1027 wi_138 wi_1028 ⟨rfl, by decide +kernel⟩ ⟨Nat.le_of_ble_eq_true rfl, Nat.le_of_ble_eq_true rfl⟩ rfl hl.1 rfl (Nat.le_of_ble_eq_true rfl) dX0_canLight_7 ⟨Nat.le_of_ble_eq_true rfl, Nat.le_of_ble_eq_true rfl⟩) hP hD hS hA [] [0, 1] rfl rfl (by decide) (by decide) (fun r_3 u_2 H locs hwr_3 hP hD hS => ?_)
    have hP : va_P D classes [(b0, .inl (cT 0, 16, .inl (f0))), (b1, .inl (cT 0, 16, .inl (f1)))] _ := hP
    have hD : va_D A [(b0, .inl (cT 0, 16, .inl (f0))), (b1, .inl (cT 0, 16, .inl (f1)))] := hD
    have qr_3_0 : 0 ≤ r_3.toInt ∧ r_3.toInt ≤ 2147483647 := hwr_3.1
    refine lv_istore (lv' := [(5, .int r_3), (0, .ref b0), (1, .ref b1), (2, .int x), (3, .int y), (4, .int z)]) hx hb dX0_canLight_10 hl (by decide) rfl (fun ls hl => ?_)
    refine lv_iload hx hb dX0_canLight_12 (lv_at hl 5 rfl) ?_
    refine lv_if_le (tgt := 24) hx hb dX0_canLight_14 (by decide) (fun c_4 => ?_) (fun c_4 => ?_)
    · have ic_4 : z.toInt ≤ 0 := ile c_4 (rfl) (by decide)
      refine lv_iconst (v := 0) hx hb dX0_canLight_24 (by decide) ?_
      exact x_zret hx hb hr hlk hP hD hS [0, 1] (()) rfl (by decide) rfl trivial (by decide) (by decide) dX0_canLight_25
    · have ic_4 : 0 < z.toInt := inle c_4 (rfl) (by decide)
      refine lv_iload hx hb dX0_canLight_17 (lv_at hl 0 rfl) ?_
      refine lv_bipush (v := 16) hx hb dX0_canLight_19 (by decide) ?_
      refine lv_icmp_lt (tgt := 26) hx hb dX0_canLight_21 (by decide) (fun c_5 => ?_) (fun c_5 => ?_)
      · have ic_5 : r_3.toInt < 16 := ilt c_5 (rfl) (by decide)
        refine lv_aload_n hx hb dX0_canLight_26 rfl (lv_at hl 2 rfl) ?_
        refine lv_iload hx hb dX0_canLight_27 (lv_at hl 0 rfl) ?_
        refine va_iald hx hb hK hP 1 0 rfl rfl (vp_in_iff.mpr (by omega)) dX0_canLight_29 ?_
        refine lv_topi (fun z_6 ez_6 => ?_)
        refine lv_iload_n hx hb dX0_canLight_30 rfl (lv_at hl 4 rfl) ?_
        refine lv_iand hx hb dX0_canLight_31 ?_
        refine lv_topi (fun z_7 ez_7 => ?_)
        refine lv_istore (lv' := [(6, .int z_7), (5, .int r_3), (0, .ref b0), (1, .ref b1), (2, .int x), (3, .int y), (4, .int z)]) hx hb dX0_canLight_32 hl (by decide) rfl (fun ls hl => ?_)
        refine lv_iconst (v := 0) hx hb dX0_canLight_34 (by decide) ?_
        refine lv_istore (lv' := [(7, .int 0), (6, .int z_7), (5, .int r_3), (0, .ref b0), (1, .ref b1), (2, .int x), (3, .int y), (4, .int z)]) hx hb dX0_canLight_35 hl (by decide) rfl (fun ls hl => ?_)
        refine (fun (key : ∀ (n9_37 : Nat) (k9_37 : Nat)  (H : Heap) (locs : List Loc) (ls : Array Slot), (k9_37 : Int) ≤ 16 → 16 < (k9_37 : Int) + n9_37 → va_P D classes [(b0, .inl (cT 0, 16, .inl (f0))), (b1, .inl (cT 0, 16, .inl (f1)))] H → va_D A [(b0, .inl (cT 0, 16, .inl (f0))), (b1, .inl (cT 0, 16, .inl (f1)))] → va_S A s.heap H locs → lv_has ls 8 [(7, .int (nI k9_37)), (6, .int z_7), (5, .int r_3), (0, .ref b0), (1, .ref b1), (2, .int x), (3, .int y), (4, .int z)] → W p l e _ s m _ below meth c H locs _ _ _ (F0 m 37 ls [])) => key (Int.toNat (16 - 0) + 1) 0  _ _ _ (by omega) (by omega)  hP hD hS (lv_sub hl [0, 1, 2, 3, 4, 5, 6, 7] rfl)) ?_
        intro n9_37
        induction n9_37 with
        | zero => intro k9_37  H locs ls hq1 hq2; exact absurd hq2 (by omega)
        | succ n9_37 ih_37 =>
          intro k9_37  H locs ls hq1_37 hq2_37  hP hD hS hl
          have hk9_37 : (nI k9_37).toInt = (k9_37 : Int) := nI_toInt (by omega)
          refine lv_iload hx hb dX0_canLight_37 (lv_at hl 0 rfl) ?_
          refine lv_bipush (v := 16) hx hb dX0_canLight_39 (by decide) ?_
          refine lv_icmp_ge (tgt := 83) hx hb dX0_canLight_41 (by decide) (fun c_8 => ?_) (fun c_8 => ?_)
          · have ic_8 : 16 ≤ ((k9_37 : Nat) : Int) := ile c_8 (by decide) (nI_toInt (by omega))
            refine lv_iconst (v := 0) hx hb dX0_canLight_83 (by decide) ?_
            exact x_zret hx hb hr hlk hP hD hS [0, 1] (()) rfl (by decide) rfl trivial (by decide) (by decide) dX0_canLight_84
          · have ic_8 : ((k9_37 : Nat) : Int) < 16 := inle c_8 (by decide) (nI_toInt (by omega))
            refine lv_iload hx hb dX0_canLight_44 (lv_at hl 1 rfl) ?_
            refine lv_iload hx hb dX0_canLight_46 (lv_at hl 0 rfl) ?_
            refine lv_ishr hx hb dX0_canLight_48 ?_
            refine lv_topi (fun z_9 ez_9 => ?_)
            refine lv_iconst (v := 1) hx hb dX0_canLight_49 (by decide) ?_
            refine lv_iand hx hb dX0_canLight_50 ?_
            refine lv_topi (fun z_10 ez_10 => ?_)
            have iz_10 : 0 ≤ z_10.toInt ∧ z_10.toInt ≤ 1 := andI ez_10 (by decide) (by decide)
            refine lv_if_eq (tgt := 77) hx hb dX0_canLight_51 (by decide) (fun c_11 => ?_) (fun c_11 => ?_)
            · have ic_11 : z_10.toInt = 0 := ieq c_11 (rfl) (by decide)
              refine lv_iinc (v := (nI (k9_37 + 1))) (lv' := [(7, .int (nI (k9_37 + 1))), (6, .int z_7), (5, .int r_3), (0, .ref b0), (1, .ref b1), (2, .int x), (3, .int y), (4, .int z)]) hx hb dX0_canLight_77 hl (k := 0) rfl (by exact nI_1 (k9_37)) (by decide) rfl (fun ls hl => ?_)
              refine lv_goto (tgt := 37) hx hb dX0_canLight_80 (by decide) ?_
              exact ih_37 (k9_37 + 1)  _ _ _ (by omega) (by omega)  (hP.sub [0, 1] rfl) (hD.sub [0, 1] (by decide) rfl) hS (lv_sub hl [0, 1, 2, 3, 4, 5, 6, 7] rfl)
            · have ic_11 : ¬ z_10.toInt = 0 := ine c_11 (rfl) (by decide)
              refine lv_aload_n hx hb dX0_canLight_54 rfl (lv_at hl 3 rfl) ?_
              refine lv_aload_n hx hb dX0_canLight_55 rfl (lv_at hl 4 rfl) ?_
              refine lv_iload_n hx hb dX0_canLight_56 rfl (lv_at hl 5 rfl) ?_
              refine lv_aload_n hx hb dX0_canLight_57 rfl (lv_at hl 3 rfl) ?_
              refine lv_iload hx hb dX0_canLight_58 (lv_at hl 0 rfl) ?_
              refine va_iald hx hb hK hP 0 0 rfl rfl (vp_in_nI (by omega) (by omega)) dX0_canLight_60 ?_
              refine lv_topi (fun z_12 ez_12 => ?_)
              refine lv_iconst (v := (-1)) hx hb dX0_canLight_61 (by decide) ?_
              refine lv_ixor hx hb dX0_canLight_62 ?_
              refine lv_topi (fun z_13 ez_13 => ?_)
              refine lv_iand hx hb dX0_canLight_63 ?_
              refine lv_topi (fun z_14 ez_14 => ?_)
              refine lv_iload_n hx hb dX0_canLight_64 rfl (lv_at hl 6 rfl) ?_
              refine lv_iload hx hb dX0_canLight_65 (lv_at hl 7 rfl) ?_
              refine lv_iconst (v := 1) hx hb dX0_canLight_67 (by decide) ?_
              refine lv_isub hx hb dX0_canLight_68 ?_
              refine lv_topi (fun z_15 ez_15 => ?_)
              have iz_15 : z_15.toInt = z.toInt - 1 := toInt_subI ez_15 (rfl) (by decide) (by omega)
              refine xk_i (wr := []) (xr_S (n := 5) (As := [.ref b0, .ref b1, .int z_14, .int y, .int z_15]) (rest := []) ⟨hx, hb, hml, hown, htg⟩ hK hN hP hD hS hA [0, 1] rfl (by decide) (g_canLight_14 l D cT _ (b0) (b1) (f0) (f1) (z_14) (y) (z_15) (by first | assumption | omega | decide | (simp only [ti_0, ti_1, ti_2, ti_3, ti_4, ti_5, ti_6, ti_7, ti_8, ti_9, ti_10, ti_11, ti_12, ti_m1]; omega))) wi_1023 wi_1024 wi_129 wi_1025 ⟨rfl, by decide +kernel⟩ ⟨Nat.le_of_ble_eq_true rfl, Nat.le_of_ble_eq_true rfl⟩ rfl hl.1 rfl (Nat.le_of_ble_eq_true rfl) dX0_canLight_69 ⟨Nat.le_of_ble_eq_true rfl, Nat.le_of_ble_eq_true rfl⟩) hP hD hS hA [0, 1] [] rfl rfl (by decide) (by decide) (fun r_17 u_16 H locs hwr_17 hP hD hS => ?_)
              have hP : va_P D classes [(b0, .inl (cT 0, 16, .inl (f0))), (b1, .inl (cT 0, 16, .inl (f1)))] _ := hP
              have hD : va_D A [(b0, .inl (cT 0, 16, .inl (f0))), (b1, .inl (cT 0, 16, .inl (f1)))] := hD
              refine lv_if_eq (tgt := 77) hx hb dX0_canLight_72 (by decide) (fun c_18 => ?_) (fun c_18 => ?_)
              · have ic_18 : r_17.toInt = 0 := ieq c_18 (rfl) (by decide)
                refine lv_iinc (v := (nI (k9_37 + 1))) (lv' := [(7, .int (nI (k9_37 + 1))), (6, .int z_7), (5, .int r_3), (0, .ref b0), (1, .ref b1), (2, .int x), (3, .int y), (4, .int z)]) hx hb dX0_canLight_77 hl (k := 0) rfl (by exact nI_1 (k9_37)) (by decide) rfl (fun ls hl => ?_)
                refine lv_goto (tgt := 37) hx hb dX0_canLight_80 (by decide) ?_
                exact ih_37 (k9_37 + 1)  _ _ _ (by omega) (by omega)  (hP.sub [0, 1] rfl) (hD.sub [0, 1] (by decide) rfl) hS (lv_sub hl [0, 1, 2, 3, 4, 5, 6, 7] rfl)
              · have ic_18 : ¬ r_17.toInt = 0 := ine c_18 (rfl) (by decide)
                refine lv_iconst (v := 1) hx hb dX0_canLight_75 (by decide) ?_
                exact x_zret hx hb hr hlk hP hD hS [0, 1] (()) rfl (by decide) rfl trivial (by decide) (by decide) dX0_canLight_76
      · have ic_5 : 16 ≤ r_3.toInt := inlt c_5 (rfl) (by decide)
        refine lv_iconst (v := 0) hx hb dX0_canLight_24 (by decide) ?_
        exact x_zret hx hb hr hlk hP hD hS [0, 1] (()) rfl (by decide) rfl trivial (by decide) (by decide) dX0_canLight_25
  · have ic_1 : x.toInt = 0 := ieq c_1 (rfl) (by decide)
    refine lv_iconst (v := 1) hx hb dX0_canLight_4 (by decide) ?_
    exact x_zret hx hb hr hlk hP hD hS [0, 1] (()) rfl (by decide) rfl trivial (by decide) (by decide) dX0_canLight_5
set_option maxHeartbeats 4000000 in
set_option maxRecDepth 100000 in
theorem g_canLight_16 (l : Launch) (D : va_G) (cT : Nat → ClassId) (sz : Nat) (b0 : Nat) (b1 : Nat) (f0 : Nat → Int32) (f1 : Nat → Int32) (x : Int32) (y : Int32) (z : Int32) (hz : z.toInt ≤ 16) : Met l yX0_canLight (wsc yX0_canLight cX0_canLight 8 (some .boolean)) { frames := 19, cells := 0, slots := 0, locals := 553 } (va_Pc [.ref b0, .ref b1, .int x, .int y, .int z] (PX D cT sz [(b0, .inl (cT 0, 16, .inl (f0))), (b1, .inl (cT 0, 16, .inl (f1)))])) (va_Qi (fun (r : Int32) (u : Unit) => True) (fun u t => RW D (va_A [(b0, .inl (cT 0, 16, .inl (f0))), (b1, .inl (cT 0, 16, .inl (f1)))] sz) ((fun _ : Unit => [(b0, .inl (cT 0, 16, .inl (f0))), (b1, .inl (cT 0, 16, .inl (f1)))]) u) t) (va_A [(b0, .inl (cT 0, 16, .inl (f0))), (b1, .inl (cT 0, 16, .inl (f1)))] sz)) 0 0 (va_A [(b0, .inl (cT 0, 16, .inl (f0))), (b1, .inl (cT 0, 16, .inl (f1)))] sz) := by
  refine m_of (y := yX0_canLight) (cc := cX0_canLight) (nL := 8) (ret := (some .boolean)) (D := D) (cT := cT) (av := [.ref b0, .ref b1, .int x, .int y, .int z]) (wi := [(b0, .inl (cT 0, 16, .inl (f0))), (b1, .inl (cT 0, 16, .inl (f1)))]) (fun A => va_Qi (fun (r : Int32) (u : Unit) => True) (fun u t => RW D A ((fun _ : Unit => [(b0, .inl (cT 0, 16, .inl (f0))), (b1, .inl (cT 0, 16, .inl (f1)))]) u) t) A) (by decide) (Nat.le_of_ble_eq_true rfl) ?_
  intro p e s m below meth c A hx hb hml hown htg hK hN hr hlk hnm hsz hP hD hS hA ls hl
  have hown : s.vm.findClass RX0 = some m.cls := hown
  have hl : lv_has ls 8 [(0, .ref b0), (1, .ref b1), (2, .int x), (3, .int y), (4, .int z)] := hl
  refine lv_iload_n hx hb dX0_canLight_0 rfl (lv_at hl 2 rfl) ?_
  refine lv_if_ne (tgt := 6) hx hb dX0_canLight_1 (by decide) (fun c_1 => ?_) (fun c_1 => ?_)
  · have ic_1 : ¬ x.toInt = 0 := ine c_1 (rfl) (by decide)
    refine lv_iload_n hx hb dX0_canLight_6 rfl (lv_at hl 2 rfl) ?_
    refine xk_i (wr := [(b0, .inl (cT 0, 16, .inl (f0))), (b1, .inl (cT 0, 16, .inl (f1)))]) (xr_S (n := 1) (As := [.int x]) (rest := []) ⟨hx, hb, hml, hown, htg⟩ hK hN hP hD hS hA [] rfl (by decide) (g_ntz l D cT _ (x)) wi_1026 wi_1027 wi_138 wi_1028 ⟨rfl, by decide +kernel⟩ ⟨Nat.le_of_ble_eq_true rfl, Nat.le_of_ble_eq_true rfl⟩ rfl hl.1 rfl (Nat.le_of_ble_eq_true rfl) dX0_canLight_7 ⟨Nat.le_of_ble_eq_true rfl, Nat.le_of_ble_eq_true rfl⟩) hP hD hS hA [] [0, 1] rfl rfl (by decide) (by decide) (fun r_3 u_2 H locs hwr_3 hP hD hS => ?_)
    have hP : va_P D classes [(b0, .inl (cT 0, 16, .inl (f0))), (b1, .inl (cT 0, 16, .inl (f1)))] _ := hP
    have hD : va_D A [(b0, .inl (cT 0, 16, .inl (f0))), (b1, .inl (cT 0, 16, .inl (f1)))] := hD
    have qr_3_0 : 0 ≤ r_3.toInt ∧ r_3.toInt ≤ 2147483647 := hwr_3.1
    refine lv_istore (lv' := [(5, .int r_3), (0, .ref b0), (1, .ref b1), (2, .int x), (3, .int y), (4, .int z)]) hx hb dX0_canLight_10 hl (by decide) rfl (fun ls hl => ?_)
    refine lv_iload hx hb dX0_canLight_12 (lv_at hl 5 rfl) ?_
    refine lv_if_le (tgt := 24) hx hb dX0_canLight_14 (by decide) (fun c_4 => ?_) (fun c_4 => ?_)
    · have ic_4 : z.toInt ≤ 0 := ile c_4 (rfl) (by decide)
      refine lv_iconst (v := 0) hx hb dX0_canLight_24 (by decide) ?_
      exact x_zret hx hb hr hlk hP hD hS [0, 1] (()) rfl (by decide) rfl trivial (by decide) (by decide) dX0_canLight_25
    · have ic_4 : 0 < z.toInt := inle c_4 (rfl) (by decide)
      refine lv_iload hx hb dX0_canLight_17 (lv_at hl 0 rfl) ?_
      refine lv_bipush (v := 16) hx hb dX0_canLight_19 (by decide) ?_
      refine lv_icmp_lt (tgt := 26) hx hb dX0_canLight_21 (by decide) (fun c_5 => ?_) (fun c_5 => ?_)
      · have ic_5 : r_3.toInt < 16 := ilt c_5 (rfl) (by decide)
        refine lv_aload_n hx hb dX0_canLight_26 rfl (lv_at hl 2 rfl) ?_
        refine lv_iload hx hb dX0_canLight_27 (lv_at hl 0 rfl) ?_
        refine va_iald hx hb hK hP 1 0 rfl rfl (vp_in_iff.mpr (by omega)) dX0_canLight_29 ?_
        refine lv_topi (fun z_6 ez_6 => ?_)
        refine lv_iload_n hx hb dX0_canLight_30 rfl (lv_at hl 4 rfl) ?_
        refine lv_iand hx hb dX0_canLight_31 ?_
        refine lv_topi (fun z_7 ez_7 => ?_)
        refine lv_istore (lv' := [(6, .int z_7), (5, .int r_3), (0, .ref b0), (1, .ref b1), (2, .int x), (3, .int y), (4, .int z)]) hx hb dX0_canLight_32 hl (by decide) rfl (fun ls hl => ?_)
        refine lv_iconst (v := 0) hx hb dX0_canLight_34 (by decide) ?_
        refine lv_istore (lv' := [(7, .int 0), (6, .int z_7), (5, .int r_3), (0, .ref b0), (1, .ref b1), (2, .int x), (3, .int y), (4, .int z)]) hx hb dX0_canLight_35 hl (by decide) rfl (fun ls hl => ?_)
        refine (fun (key : ∀ (n9_37 : Nat) (k9_37 : Nat)  (H : Heap) (locs : List Loc) (ls : Array Slot), (k9_37 : Int) ≤ 16 → 16 < (k9_37 : Int) + n9_37 → va_P D classes [(b0, .inl (cT 0, 16, .inl (f0))), (b1, .inl (cT 0, 16, .inl (f1)))] H → va_D A [(b0, .inl (cT 0, 16, .inl (f0))), (b1, .inl (cT 0, 16, .inl (f1)))] → va_S A s.heap H locs → lv_has ls 8 [(7, .int (nI k9_37)), (6, .int z_7), (5, .int r_3), (0, .ref b0), (1, .ref b1), (2, .int x), (3, .int y), (4, .int z)] → W p l e _ s m _ below meth c H locs _ _ _ (F0 m 37 ls [])) => key (Int.toNat (16 - 0) + 1) 0  _ _ _ (by omega) (by omega)  hP hD hS (lv_sub hl [0, 1, 2, 3, 4, 5, 6, 7] rfl)) ?_
        intro n9_37
        induction n9_37 with
        | zero => intro k9_37  H locs ls hq1 hq2; exact absurd hq2 (by omega)
        | succ n9_37 ih_37 =>
          intro k9_37  H locs ls hq1_37 hq2_37  hP hD hS hl
          have hk9_37 : (nI k9_37).toInt = (k9_37 : Int) := nI_toInt (by omega)
          refine lv_iload hx hb dX0_canLight_37 (lv_at hl 0 rfl) ?_
          refine lv_bipush (v := 16) hx hb dX0_canLight_39 (by decide) ?_
          refine lv_icmp_ge (tgt := 83) hx hb dX0_canLight_41 (by decide) (fun c_8 => ?_) (fun c_8 => ?_)
          · have ic_8 : 16 ≤ ((k9_37 : Nat) : Int) := ile c_8 (by decide) (nI_toInt (by omega))
            refine lv_iconst (v := 0) hx hb dX0_canLight_83 (by decide) ?_
            exact x_zret hx hb hr hlk hP hD hS [0, 1] (()) rfl (by decide) rfl trivial (by decide) (by decide) dX0_canLight_84
          · have ic_8 : ((k9_37 : Nat) : Int) < 16 := inle c_8 (by decide) (nI_toInt (by omega))
            refine lv_iload hx hb dX0_canLight_44 (lv_at hl 1 rfl) ?_
            refine lv_iload hx hb dX0_canLight_46 (lv_at hl 0 rfl) ?_
            refine lv_ishr hx hb dX0_canLight_48 ?_
            refine lv_topi (fun z_9 ez_9 => ?_)
            refine lv_iconst (v := 1) hx hb dX0_canLight_49 (by decide) ?_
            refine lv_iand hx hb dX0_canLight_50 ?_
            refine lv_topi (fun z_10 ez_10 => ?_)
            have iz_10 : 0 ≤ z_10.toInt ∧ z_10.toInt ≤ 1 := andI ez_10 (by decide) (by decide)
            refine lv_if_eq (tgt := 77) hx hb dX0_canLight_51 (by decide) (fun c_11 => ?_) (fun c_11 => ?_)
            · have ic_11 : z_10.toInt = 0 := ieq c_11 (rfl) (by decide)
              refine lv_iinc (v := (nI (k9_37 + 1))) (lv' := [(7, .int (nI (k9_37 + 1))), (6, .int z_7), (5, .int r_3), (0, .ref b0), (1, .ref b1), (2, .int x), (3, .int y), (4, .int z)]) hx hb dX0_canLight_77 hl (k := 0) rfl (by exact nI_1 (k9_37)) (by decide) rfl (fun ls hl => ?_)
              refine lv_goto (tgt := 37) hx hb dX0_canLight_80 (by decide) ?_
              exact ih_37 (k9_37 + 1)  _ _ _ (by omega) (by omega)  (hP.sub [0, 1] rfl) (hD.sub [0, 1] (by decide) rfl) hS (lv_sub hl [0, 1, 2, 3, 4, 5, 6, 7] rfl)
            · have ic_11 : ¬ z_10.toInt = 0 := ine c_11 (rfl) (by decide)
              refine lv_aload_n hx hb dX0_canLight_54 rfl (lv_at hl 3 rfl) ?_
              refine lv_aload_n hx hb dX0_canLight_55 rfl (lv_at hl 4 rfl) ?_
              refine lv_iload_n hx hb dX0_canLight_56 rfl (lv_at hl 5 rfl) ?_
              refine lv_aload_n hx hb dX0_canLight_57 rfl (lv_at hl 3 rfl) ?_
              refine lv_iload hx hb dX0_canLight_58 (lv_at hl 0 rfl) ?_
              refine va_iald hx hb hK hP 0 0 rfl rfl (vp_in_nI (by omega) (by omega)) dX0_canLight_60 ?_
              refine lv_topi (fun z_12 ez_12 => ?_)
              refine lv_iconst (v := (-1)) hx hb dX0_canLight_61 (by decide) ?_
              refine lv_ixor hx hb dX0_canLight_62 ?_
              refine lv_topi (fun z_13 ez_13 => ?_)
              refine lv_iand hx hb dX0_canLight_63 ?_
              refine lv_topi (fun z_14 ez_14 => ?_)
              refine lv_iload_n hx hb dX0_canLight_64 rfl (lv_at hl 6 rfl) ?_
              refine lv_iload hx hb dX0_canLight_65 (lv_at hl 7 rfl) ?_
              refine lv_iconst (v := 1) hx hb dX0_canLight_67 (by decide) ?_
              refine lv_isub hx hb dX0_canLight_68 ?_
              refine lv_topi (fun z_15 ez_15 => ?_)
              have iz_15 : z_15.toInt = z.toInt - 1 := toInt_subI ez_15 (rfl) (by decide) (by omega)
              refine xk_i (wr := []) (xr_S (n := 5) (As := [.ref b0, .ref b1, .int z_14, .int y, .int z_15]) (rest := []) ⟨hx, hb, hml, hown, htg⟩ hK hN hP hD hS hA [0, 1] rfl (by decide) (g_canLight_15 l D cT _ (b0) (b1) (f0) (f1) (z_14) (y) (z_15) (by first | assumption | omega | decide | (simp only [ti_0, ti_1, ti_2, ti_3, ti_4, ti_5, ti_6, ti_7, ti_8, ti_9, ti_10, ti_11, ti_12, ti_m1]; omega))) wi_1023 wi_1024 wi_129 wi_1025 ⟨rfl, by decide +kernel⟩ ⟨Nat.le_of_ble_eq_true rfl, Nat.le_of_ble_eq_true rfl⟩ rfl hl.1 rfl (Nat.le_of_ble_eq_true rfl) dX0_canLight_69 ⟨Nat.le_of_ble_eq_true rfl, Nat.le_of_ble_eq_true rfl⟩) hP hD hS hA [0, 1] [] rfl rfl (by decide) (by decide) (fun r_17 u_16 H locs hwr_17 hP hD hS => ?_)
              have hP : va_P D classes [(b0, .inl (cT 0, 16, .inl (f0))), (b1, .inl (cT 0, 16, .inl (f1)))] _ := hP
              have hD : va_D A [(b0, .inl (cT 0, 16, .inl (f0))), (b1, .inl (cT 0, 16, .inl (f1)))] := hD
              refine lv_if_eq (tgt := 77) hx hb dX0_canLight_72 (by decide) (fun c_18 => ?_) (fun c_18 => ?_)
              · have ic_18 : r_17.toInt = 0 := ieq c_18 (rfl) (by decide)
                refine lv_iinc (v := (nI (k9_37 + 1))) (lv' := [(7, .int (nI (k9_37 + 1))), (6, .int z_7), (5, .int r_3), (0, .ref b0), (1, .ref b1), (2, .int x), (3, .int y), (4, .int z)]) hx hb dX0_canLight_77 hl (k := 0) rfl (by exact nI_1 (k9_37)) (by decide) rfl (fun ls hl => ?_)
                refine lv_goto (tgt := 37) hx hb dX0_canLight_80 (by decide) ?_
                exact ih_37 (k9_37 + 1)  _ _ _ (by omega) (by omega)  (hP.sub [0, 1] rfl) (hD.sub [0, 1] (by decide) rfl) hS (lv_sub hl [0, 1, 2, 3, 4, 5, 6, 7] rfl)
              · have ic_18 : ¬ r_17.toInt = 0 := ine c_18 (rfl) (by decide)
                refine lv_iconst (v := 1) hx hb dX0_canLight_75 (by decide) ?_
                exact x_zret hx hb hr hlk hP hD hS [0, 1] (()) rfl (by decide) rfl trivial (by decide) (by decide) dX0_canLight_76
      · have ic_5 : 16 ≤ r_3.toInt := inlt c_5 (rfl) (by decide)
        refine lv_iconst (v := 0) hx hb dX0_canLight_24 (by decide) ?_
        exact x_zret hx hb hr hlk hP hD hS [0, 1] (()) rfl (by decide) rfl trivial (by decide) (by decide) dX0_canLight_25
  · have ic_1 : x.toInt = 0 := ieq c_1 (rfl) (by decide)
    refine lv_iconst (v := 1) hx hb dX0_canLight_4 (by decide) ?_
    exact x_zret hx hb hr hlk hP hD hS [0, 1] (()) rfl (by decide) rfl trivial (by decide) (by decide) dX0_canLight_5
set_option maxHeartbeats 4000000 in
set_option maxRecDepth 100000 in
theorem g_leastBits (l : Launch) (D : va_G) (cT : Nat → ClassId) (sz : Nat) (h0 : Nat) (b0 : Nat) (b1 : Nat) (c0 : Nat → Int32) (c1 : Nat → Int32) (x : Int32) (y : Int32) (z : Int32) (hxs : 0 ≤ x.toInt ∧ x.toInt ≤ 16) (hzs : 0 ≤ z.toInt ∧ z.toInt ≤ 16) : Met l yX0_leastBits (wsc yX0_leastBits cX0_leastBits 8 (some .int)) { frames := 20, cells := 0, slots := 0, locals := 580 } (va_Pc [.ref h0, .int x, .int y, .int z] (PX D cT sz [(h0, .inr (0, [.ref b0, .ref b1])), (b0, .inl (cT 0, 16, .inl (c0))), (b1, .inl (cT 0, 16, .inl (c1)))])) (va_Qi (fun (r : Int32) (u : Unit) => True) (fun u t => RW D (va_A [(h0, .inr (0, [.ref b0, .ref b1])), (b0, .inl (cT 0, 16, .inl (c0))), (b1, .inl (cT 0, 16, .inl (c1)))] sz) ((fun _ : Unit => [(h0, .inr (0, [.ref b0, .ref b1])), (b0, .inl (cT 0, 16, .inl (c0))), (b1, .inl (cT 0, 16, .inl (c1)))]) u) t) (va_A [(h0, .inr (0, [.ref b0, .ref b1])), (b0, .inl (cT 0, 16, .inl (c0))), (b1, .inl (cT 0, 16, .inl (c1)))] sz)) 0 0 (va_A [(h0, .inr (0, [.ref b0, .ref b1])), (b0, .inl (cT 0, 16, .inl (c0))), (b1, .inl (cT 0, 16, .inl (c1)))] sz) := by
  refine m_of (y := yX0_leastBits) (cc := cX0_leastBits) (nL := 8) (ret := (some .int)) (D := D) (cT := cT) (av := [.ref h0, .int x, .int y, .int z]) (wi := [(h0, .inr (0, [.ref b0, .ref b1])), (b0, .inl (cT 0, 16, .inl (c0))), (b1, .inl (cT 0, 16, .inl (c1)))]) (fun A => va_Qi (fun (r : Int32) (u : Unit) => True) (fun u t => RW D A ((fun _ : Unit => [(h0, .inr (0, [.ref b0, .ref b1])), (b0, .inl (cT 0, 16, .inl (c0))), (b1, .inl (cT 0, 16, .inl (c1)))]) u) t) A) (by decide) (Nat.le_of_ble_eq_true rfl) ?_
  intro p e s m below meth c A hx hb hml hown htg hK hN hr hlk hnm hsz hP hD hS hA ls hl
  have hown : s.vm.findClass RX0 = some m.cls := hown
  have hl : lv_has ls 8 [(0, .ref h0), (1, .int x), (2, .int y), (3, .int z)] := hl
  refine lv_iconst (v := 0) hx hb dX0_leastBits_0 (by decide) ?_
  refine lv_istore (lv' := [(4, .int 0), (0, .ref h0), (1, .int x), (2, .int y), (3, .int z)]) hx hb dX0_leastBits_1 hl (by decide) rfl (fun ls hl => ?_)
  refine lv_iload_n hx hb dX0_leastBits_3 rfl (lv_at hl 3 rfl) ?_
  refine lv_istore (lv' := [(5, .int y), (4, .int 0), (0, .ref h0), (1, .int x), (2, .int y), (3, .int z)]) hx hb dX0_leastBits_4 hl (by decide) rfl (fun ls hl => ?_)
  refine lv_iload_n hx hb dX0_leastBits_6 rfl (lv_at hl 5 rfl) ?_
  refine lv_istore (lv' := [(6, .int z), (5, .int y), (4, .int 0), (0, .ref h0), (1, .int x), (2, .int y), (3, .int z)]) hx hb dX0_leastBits_7 hl (by decide) rfl (fun ls hl => ?_)
  refine lv_iload_n hx hb dX0_leastBits_9 rfl (lv_at hl 4 rfl) ?_
  refine lv_iconst (v := 1) hx hb dX0_leastBits_10 (by decide) ?_
  refine lv_isub hx hb dX0_leastBits_11 ?_
  refine lv_topi (fun z_1 ez_1 => ?_)
  have iz_1 : z_1.toInt = x.toInt - 1 := toInt_subI ez_1 (rfl) (by decide) (by omega)
  refine lv_istore (lv' := [(7, .int z_1), (6, .int z), (5, .int y), (4, .int 0), (0, .ref h0), (1, .int x), (2, .int y), (3, .int z)]) hx hb dX0_leastBits_12 hl (by decide) rfl (fun ls hl => ?_)
  refine (fun (key : ∀ (n9_14 : Nat) (k9_14 : Int32) (x9_14_6 : Int32) (x9_14_5 : Int32) (x9_14_4 : Int32) (H : Heap) (locs : List Loc) (ls : Array Slot), (-1 ≤ k9_14.toInt ∧ k9_14.toInt ≤ 15) → k9_14.toInt < -1 + n9_14 → k9_14.toInt - 16 ≤ x9_14_6.toInt → (-17 ≤ x9_14_6.toInt ∧ x9_14_6.toInt ≤ 16) → va_P D classes [(h0, .inr (0, [.ref b0, .ref b1])), (b0, .inl (cT 0, 16, .inl (c0))), (b1, .inl (cT 0, 16, .inl (c1)))] H → va_D A [(h0, .inr (0, [.ref b0, .ref b1])), (b0, .inl (cT 0, 16, .inl (c0))), (b1, .inl (cT 0, 16, .inl (c1)))] → va_S A s.heap H locs → lv_has ls 8 [(7, .int k9_14), (6, .int x9_14_6), (5, .int x9_14_5), (4, .int x9_14_4), (0, .ref h0), (1, .int x), (2, .int y), (3, .int z)] → W p l e _ s m _ below meth c H locs _ _ _ (F0 m 14 ls [])) => key (Int.toNat (z_1.toInt - (-1)) + 1) (z_1) _ _ _ _ _ _ (by omega) (by omega) (by first | assumption | omega | decide | (simp only [ti_0, ti_1, ti_2, ti_3, ti_4, ti_5, ti_6, ti_7, ti_8, ti_9, ti_10, ti_11, ti_12, ti_m1]; omega)) (by first | assumption | omega | decide | (simp only [ti_0, ti_1, ti_2, ti_3, ti_4, ti_5, ti_6, ti_7, ti_8, ti_9, ti_10, ti_11, ti_12, ti_m1]; omega)) hP hD hS (lv_sub hl [0, 1, 2, 3, 4, 5, 6, 7] rfl)) ?_
  intro n9_14
  induction n9_14 with
  | zero => intro k9_14 x9_14_6 x9_14_5 x9_14_4 H locs ls hq1 hq2; exact absurd hq2 (by omega)
  | succ n9_14 ih_14 =>
    intro k9_14 x9_14_6 x9_14_5 x9_14_4 H locs ls hq1_14 hq2_14 h9_14_0 h9_14_1 hP hD hS hl
    refine lv_iload hx hb dX0_leastBits_14 (lv_at hl 0 rfl) ?_
    refine lv_if_lt (tgt := 75) hx hb dX0_leastBits_16 (by decide) (fun c_2 => ?_) (fun c_2 => ?_)
    · have ic_2 : k9_14.toInt < 0 := ilt c_2 (rfl) (by decide)
      refine lv_iload hx hb dX0_leastBits_75 (lv_at hl 3 rfl) ?_
      exact x_iret hx hb hr hlk hP hD hS [0, 1, 2] (()) rfl (by decide) trivial (by decide) (by decide) dX0_leastBits_77
    · have ic_2 : 0 ≤ k9_14.toInt := inlt c_2 (rfl) (by decide)
      refine lv_aload_n hx hb dX0_leastBits_19 rfl (lv_at hl 4 rfl) ?_
      refine va_get (D := D) (ci := 0) (v := .ref b0) (C := RX0) (T := TX0) (N := 2) hx hb htg gRX0 hown hK hP 0 rfl rfl 0 (by decide) (htg _ wi_439) (fun _ h9 => h9) rfl dX0_leastBits_20 ?_
      refine lv_aload_n hx hb dX0_leastBits_23 rfl (lv_at hl 4 rfl) ?_
      refine va_get (D := D) (ci := 0) (v := .ref b1) (C := RX0) (T := TX0) (N := 2) hx hb htg gRX0 hown hK hP 0 rfl rfl 1 (by decide) (htg _ wi_440) (fun _ h9 => h9) rfl dX0_leastBits_24 ?_
      refine lv_iload hx hb dX0_leastBits_27 (lv_at hl 2 rfl) ?_
      refine lv_iconst (v := 1) hx hb dX0_leastBits_29 (by decide) ?_
      refine lv_iload hx hb dX0_leastBits_30 (lv_at hl 0 rfl) ?_
      refine lv_ishl hx hb dX0_leastBits_32 ?_
      refine lv_topi (fun z_3 ez_3 => ?_)
      refine lv_iconst (v := 1) hx hb dX0_leastBits_33 (by decide) ?_
      refine lv_isub hx hb dX0_leastBits_34 ?_
      refine lv_topi (fun z_4 ez_4 => ?_)
      refine lv_iload hx hb dX0_leastBits_35 (lv_at hl 1 rfl) ?_
      refine xk_i (wr := [(h0, .inr (0, [.ref b0, .ref b1]))]) (xr_S (n := 5) (As := [.ref b0, .ref b1, .int x9_14_5, .int z_4, .int x9_14_6]) (rest := []) ⟨hx, hb, hml, hown, htg⟩ hK hN hP hD hS hA [1, 2] rfl (by decide) (g_canLight_16 l D cT _ (b0) (b1) (c0) (c1) (x9_14_5) (z_4) (x9_14_6) (by first | assumption | omega | decide | (simp only [ti_0, ti_1, ti_2, ti_3, ti_4, ti_5, ti_6, ti_7, ti_8, ti_9, ti_10, ti_11, ti_12, ti_m1]; omega))) wi_1023 wi_1024 wi_129 wi_1025 ⟨rfl, by decide +kernel⟩ ⟨Nat.le_of_ble_eq_true rfl, Nat.le_of_ble_eq_true rfl⟩ rfl hl.1 rfl (Nat.le_of_ble_eq_true rfl) dX0_leastBits_37 ⟨Nat.le_of_ble_eq_true rfl, Nat.le_of_ble_eq_true rfl⟩) hP hD hS hA [1, 2] [0] rfl rfl (by decide) (by decide) (fun r_6 u_5 H locs hwr_6 hP hD hS => ?_)
      have hP : va_P D classes [(h0, .inr (0, [.ref b0, .ref b1])), (b0, .inl (cT 0, 16, .inl (c0))), (b1, .inl (cT 0, 16, .inl (c1)))] _ := hP
      have hD : va_D A [(h0, .inr (0, [.ref b0, .ref b1])), (b0, .inl (cT 0, 16, .inl (c0))), (b1, .inl (cT 0, 16, .inl (c1)))] := hD
      refine lv_if_ne (tgt := 69) hx hb dX0_leastBits_40 (by decide) (fun c_7 => ?_) (fun c_7 => ?_)
      · have ic_7 : ¬ r_6.toInt = 0 := ine c_7 (rfl) (by decide)
        obtain ⟨z_8, ez_8⟩ : ∃ w : Int32, w = k9_14 + (-1) := ⟨_, rfl⟩
        have iz_8 : z_8.toInt = k9_14.toInt + (-1) := toInt_addI ez_8 (rfl) (by decide) (by omega)
        refine lv_iinc (v := z_8) (lv' := [(7, .int z_8), (6, .int x9_14_6), (5, .int x9_14_5), (4, .int x9_14_4), (0, .ref h0), (1, .int x), (2, .int y), (3, .int z)]) hx hb dX0_leastBits_69 hl (k := 0) rfl (by rw [ez_8]; rfl) (by decide) rfl (fun ls hl => ?_)
        refine lv_goto (tgt := 14) hx hb dX0_leastBits_72 (by decide) ?_
        exact ih_14 (z_8) _ _ _ _ _ _ (by omega) (by omega) (by first | assumption | omega | decide | (simp only [ti_0, ti_1, ti_2, ti_3, ti_4, ti_5, ti_6, ti_7, ti_8, ti_9, ti_10, ti_11, ti_12, ti_m1]; omega)) (by first | assumption | omega | decide | (simp only [ti_0, ti_1, ti_2, ti_3, ti_4, ti_5, ti_6, ti_7, ti_8, ti_9, ti_10, ti_11, ti_12, ti_m1]; omega)) (hP.sub [0, 1, 2] rfl) (hD.sub [0, 1, 2] (by decide) rfl) hS (lv_sub hl [0, 1, 2, 3, 4, 5, 6, 7] rfl)
      · have ic_7 : r_6.toInt = 0 := ieq c_7 (rfl) (by decide)
        refine lv_iload hx hb dX0_leastBits_43 (lv_at hl 3 rfl) ?_
        refine lv_iconst (v := 1) hx hb dX0_leastBits_45 (by decide) ?_
        refine lv_iload hx hb dX0_leastBits_46 (lv_at hl 0 rfl) ?_
        refine lv_ishl hx hb dX0_leastBits_48 ?_
        refine lv_topi (fun z_9 ez_9 => ?_)
        refine lv_ior hx hb dX0_leastBits_49 ?_
        refine lv_topi (fun z_10 ez_10 => ?_)
        refine lv_istore (lv' := [(4, .int z_10), (7, .int k9_14), (6, .int x9_14_6), (5, .int x9_14_5), (0, .ref h0), (1, .int x), (2, .int y), (3, .int z)]) hx hb dX0_leastBits_50 hl (by decide) rfl (fun ls hl => ?_)
        refine lv_iload hx hb dX0_leastBits_52 (lv_at hl 3 rfl) ?_
        refine lv_aload_n hx hb dX0_leastBits_54 rfl (lv_at hl 4 rfl) ?_
        refine va_get (D := D) (ci := 0) (v := .ref b0) (C := RX0) (T := TX0) (N := 2) hx hb htg gRX0 hown hK hP 0 rfl rfl 0 (by decide) (htg _ wi_439) (fun _ h9 => h9) rfl dX0_leastBits_55 ?_
        refine lv_iload hx hb dX0_leastBits_58 (lv_at hl 1 rfl) ?_
        refine va_iald hx hb hK hP 1 0 rfl rfl (vp_in_iff.mpr (by omega)) dX0_leastBits_60 ?_
        refine lv_topi (fun z_11 ez_11 => ?_)
        refine lv_iconst (v := (-1)) hx hb dX0_leastBits_61 (by decide) ?_
        refine lv_ixor hx hb dX0_leastBits_62 ?_
        refine lv_topi (fun z_12 ez_12 => ?_)
        refine lv_iand hx hb dX0_leastBits_63 ?_
        refine lv_topi (fun z_13 ez_13 => ?_)
        refine lv_istore (lv' := [(5, .int z_13), (4, .int z_10), (7, .int k9_14), (6, .int x9_14_6), (0, .ref h0), (1, .int x), (2, .int y), (3, .int z)]) hx hb dX0_leastBits_64 hl (by decide) rfl (fun ls hl => ?_)
        obtain ⟨z_14, ez_14⟩ : ∃ w : Int32, w = x9_14_6 + (-1) := ⟨_, rfl⟩
        have iz_14 : z_14.toInt = x9_14_6.toInt + (-1) := toInt_addI ez_14 (rfl) (by decide) (by omega)
        refine lv_iinc (v := z_14) (lv' := [(6, .int z_14), (5, .int z_13), (4, .int z_10), (7, .int k9_14), (0, .ref h0), (1, .int x), (2, .int y), (3, .int z)]) hx hb dX0_leastBits_66 hl (k := 3) rfl (by rw [ez_14]; rfl) (by decide) rfl (fun ls hl => ?_)
        obtain ⟨z_15, ez_15⟩ : ∃ w : Int32, w = k9_14 + (-1) := ⟨_, rfl⟩
        have iz_15 : z_15.toInt = k9_14.toInt + (-1) := toInt_addI ez_15 (rfl) (by decide) (by omega)
        refine lv_iinc (v := z_15) (lv' := [(7, .int z_15), (6, .int z_14), (5, .int z_13), (4, .int z_10), (0, .ref h0), (1, .int x), (2, .int y), (3, .int z)]) hx hb dX0_leastBits_69 hl (k := 3) rfl (by rw [ez_15]; rfl) (by decide) rfl (fun ls hl => ?_)
        refine lv_goto (tgt := 14) hx hb dX0_leastBits_72 (by decide) ?_
        exact ih_14 (z_15) _ _ _ _ _ _ (by omega) (by omega) (by first | assumption | omega | decide | (simp only [ti_0, ti_1, ti_2, ti_3, ti_4, ti_5, ti_6, ti_7, ti_8, ti_9, ti_10, ti_11, ti_12, ti_m1]; omega)) (by first | assumption | omega | decide | (simp only [ti_0, ti_1, ti_2, ti_3, ti_4, ti_5, ti_6, ti_7, ti_8, ti_9, ti_10, ti_11, ti_12, ti_m1]; omega)) (hP.sub [0, 1, 2] rfl) (hD.sub [0, 1, 2] (by decide) rfl) hS (lv_sub hl [0, 1, 2, 3, 4, 5, 6, 7] rfl)
set_option maxHeartbeats 4000000 in
set_option maxRecDepth 100000 in
theorem g_look (l : Launch) (D : va_G) (cT : Nat → ClassId) (sz : Nat) (h0 : Nat) (b0 : Nat) (b1 : Nat) (c0 : Nat → Int32) (c1 : Nat → Int32) (h1 : Nat) (a : Nat → Nat) (p0 : Int32) (p1 : Int32) (p2 : Int32) (p3 : Int32) (p4 : Int32) (p5 : Int32) (p6 : Int32) (p7 : Int32) (p8 : Int32) (p9 : Int32) (hs : 0 ≤ p0.toInt ∧ p0.toInt ≤ 16) (f2 : Nat → Int32) : Met l yX0_look (wsc yX0_look cX0_look 4 none) { frames := 5, cells := 0, slots := 0, locals := 171 } (va_Pc [.ref h0, .ref h1] (PX D cT sz [(h0, .inr (0, [.ref b0, .ref b1])), (b0, .inl (cT 0, 16, .inl (c0))), (b1, .inl (cT 0, 16, .inl (c1))), (h1, .inr (3, [.int p0, .int p1, .int p2, .int p3, .int p4, .int p5, .int p6, .int p7, .int p8, .int p9, .ref (a 0), .ref (a 1), .ref (a 2), .ref (a 3), .ref (a 4), .ref (a 5)])), ((a 2), .inl (cT 0, 16, .inl (f2)))])) (va_Qv (fun (u : (Nat → Int32) × (Nat → Int32)) => True) (fun u t => RW D (va_A [(h0, .inr (0, [.ref b0, .ref b1])), (b0, .inl (cT 0, 16, .inl (c0))), (b1, .inl (cT 0, 16, .inl (c1))), (h1, .inr (3, [.int p0, .int p1, .int p2, .int p3, .int p4, .int p5, .int p6, .int p7, .int p8, .int p9, .ref (a 0), .ref (a 1), .ref (a 2), .ref (a 3), .ref (a 4), .ref (a 5)])), ((a 2), .inl (cT 0, 16, .inl (f2)))] sz) ((fun u : (Nat → Int32) × (Nat → Int32) => [(h0, .inr (0, [.ref b0, .ref b1])), (b0, .inl (cT 0, 16, .inl (u.1))), (b1, .inl (cT 0, 16, .inl (u.2))), (h1, .inr (3, [.int p0, .int p1, .int p2, .int p3, .int p4, .int p5, .int p6, .int p7, .int p8, .int p9, .ref (a 0), .ref (a 1), .ref (a 2), .ref (a 3), .ref (a 4), .ref (a 5)])), ((a 2), .inl (cT 0, 16, .inl (f2)))]) u) t) (va_A [(h0, .inr (0, [.ref b0, .ref b1])), (b0, .inl (cT 0, 16, .inl (c0))), (b1, .inl (cT 0, 16, .inl (c1))), (h1, .inr (3, [.int p0, .int p1, .int p2, .int p3, .int p4, .int p5, .int p6, .int p7, .int p8, .int p9, .ref (a 0), .ref (a 1), .ref (a 2), .ref (a 3), .ref (a 4), .ref (a 5)])), ((a 2), .inl (cT 0, 16, .inl (f2)))] sz)) 0 0 (va_A [(h0, .inr (0, [.ref b0, .ref b1])), (b0, .inl (cT 0, 16, .inl (c0))), (b1, .inl (cT 0, 16, .inl (c1))), (h1, .inr (3, [.int p0, .int p1, .int p2, .int p3, .int p4, .int p5, .int p6, .int p7, .int p8, .int p9, .ref (a 0), .ref (a 1), .ref (a 2), .ref (a 3), .ref (a 4), .ref (a 5)])), ((a 2), .inl (cT 0, 16, .inl (f2)))] sz) := by
  refine m_of (y := yX0_look) (cc := cX0_look) (nL := 4) (ret := none) (D := D) (cT := cT) (av := [.ref h0, .ref h1]) (wi := [(h0, .inr (0, [.ref b0, .ref b1])), (b0, .inl (cT 0, 16, .inl (c0))), (b1, .inl (cT 0, 16, .inl (c1))), (h1, .inr (3, [.int p0, .int p1, .int p2, .int p3, .int p4, .int p5, .int p6, .int p7, .int p8, .int p9, .ref (a 0), .ref (a 1), .ref (a 2), .ref (a 3), .ref (a 4), .ref (a 5)])), ((a 2), .inl (cT 0, 16, .inl (f2)))]) (fun A => va_Qv (fun (u : (Nat → Int32) × (Nat → Int32)) => True) (fun u t => RW D A ((fun u : (Nat → Int32) × (Nat → Int32) => [(h0, .inr (0, [.ref b0, .ref b1])), (b0, .inl (cT 0, 16, .inl (u.1))), (b1, .inl (cT 0, 16, .inl (u.2))), (h1, .inr (3, [.int p0, .int p1, .int p2, .int p3, .int p4, .int p5, .int p6, .int p7, .int p8, .int p9, .ref (a 0), .ref (a 1), .ref (a 2), .ref (a 3), .ref (a 4), .ref (a 5)])), ((a 2), .inl (cT 0, 16, .inl (f2)))]) u) t) A) (by decide) (Nat.le_of_ble_eq_true rfl) ?_
  intro p e s m below meth c A hx hb hml hown htg hK hN hr hlk hnm hsz hP hD hS hA ls hl
  have hown : s.vm.findClass RX0 = some m.cls := hown
  have hl : lv_has ls 4 [(0, .ref h0), (1, .ref h1)] := hl
  refine lv_aload_n hx hb dX0_look_0 rfl (lv_at hl 0 rfl) ?_
  refine va_get (D := D) (ci := 0) (v := .ref b1) (C := RX0) (T := TX0) (N := 2) hx hb htg gRX0 hown hK hP 0 rfl rfl 1 (by decide) (htg _ wi_440) (fun _ h9 => h9) rfl dX0_look_1 ?_
  refine lv_iconst (v := 0) hx hb dX0_look_4 (by decide) ?_
  refine xk_v (wr := [(h0, .inr (0, [.ref b0, .ref b1])), (b0, .inl (cT 0, 16, .inl (c0))), (h1, .inr (3, [.int p0, .int p1, .int p2, .int p3, .int p4, .int p5, .int p6, .int p7, .int p8, .int p9, .ref (a 0), .ref (a 1), .ref (a 2), .ref (a 3), .ref (a 4), .ref (a 5)])), ((a 2), .inl (cT 0, 16, .inl (f2)))]) (xr_S (n := 2) (As := [.ref b1, .int 0]) (rest := []) ⟨hx, hb, hml, hown, htg⟩ hK hN hP hD hS hA [2] rfl (by decide) (g_fillI16 l D cT _ (b1) (c1) (0)) wi_1020 wi_164 wi_124 wi_165 ⟨rfl, by decide +kernel⟩ ⟨Nat.le_of_ble_eq_true rfl, Nat.le_of_ble_eq_true rfl⟩ rfl hl.1 rfl (Nat.le_of_ble_eq_true rfl) dX0_look_5 ⟨Nat.le_of_ble_eq_true rfl, Nat.le_of_ble_eq_true rfl⟩) hP hD hS hA [2] [0, 1, 3, 4] rfl rfl (by decide) (by decide) (fun u_1 H locs hwr_2 hP hD hS => ?_)
  have hP : va_P D classes [(h0, .inr (0, [.ref b0, .ref b1])), (b0, .inl (cT 0, 16, .inl (c0))), (h1, .inr (3, [.int p0, .int p1, .int p2, .int p3, .int p4, .int p5, .int p6, .int p7, .int p8, .int p9, .ref (a 0), .ref (a 1), .ref (a 2), .ref (a 3), .ref (a 4), .ref (a 5)])), ((a 2), .inl (cT 0, 16, .inl (f2))), (b1, .inl (cT 0, 16, .inl (fillF (c1) 16 (0))))] _ := hP
  have hD : va_D A [(h0, .inr (0, [.ref b0, .ref b1])), (b0, .inl (cT 0, 16, .inl (c0))), (h1, .inr (3, [.int p0, .int p1, .int p2, .int p3, .int p4, .int p5, .int p6, .int p7, .int p8, .int p9, .ref (a 0), .ref (a 1), .ref (a 2), .ref (a 3), .ref (a 4), .ref (a 5)])), ((a 2), .inl (cT 0, 16, .inl (f2))), (b1, .inl (cT 0, 16, .inl (fillF (c1) 16 (0))))] := hD
  refine lv_iconst (v := 0) hx hb dX0_look_8 (by decide) ?_
  refine lv_istore_n (lv' := [(2, .int 0), (0, .ref h0), (1, .ref h1)]) hx hb dX0_look_9 rfl hl (by decide) rfl (fun ls hl => ?_)
  refine (fun (key : ∀ (n9_10 : Nat) (k9_10 : Nat) (f9_10_0 : Nat → Int32) (f9_10_1 : Nat → Int32) (H : Heap) (locs : List Loc) (ls : Array Slot), (k9_10 : Int) ≤ p0.toInt → p0.toInt < (k9_10 : Int) + n9_10 → va_P D classes [(h0, .inr (0, [.ref b0, .ref b1])), (b0, .inl (cT 0, 16, .inl (f9_10_0))), (h1, .inr (3, [.int p0, .int p1, .int p2, .int p3, .int p4, .int p5, .int p6, .int p7, .int p8, .int p9, .ref (a 0), .ref (a 1), .ref (a 2), .ref (a 3), .ref (a 4), .ref (a 5)])), ((a 2), .inl (cT 0, 16, .inl (f2))), (b1, .inl (cT 0, 16, .inl (f9_10_1)))] H → va_D A [(h0, .inr (0, [.ref b0, .ref b1])), (b0, .inl (cT 0, 16, .inl (f9_10_0))), (h1, .inr (3, [.int p0, .int p1, .int p2, .int p3, .int p4, .int p5, .int p6, .int p7, .int p8, .int p9, .ref (a 0), .ref (a 1), .ref (a 2), .ref (a 3), .ref (a 4), .ref (a 5)])), ((a 2), .inl (cT 0, 16, .inl (f2))), (b1, .inl (cT 0, 16, .inl (f9_10_1)))] → va_S A s.heap H locs → lv_has ls 4 [(2, .int (nI k9_10)), (0, .ref h0), (1, .ref h1)] → W p l e _ s m _ below meth c H locs _ _ _ (F0 m 10 ls [])) => key (Int.toNat (p0.toInt - 0) + 1) 0 _ _ _ _ _ (by omega) (by omega)  hP hD hS (lv_sub hl [0, 1, 2] rfl)) ?_
  intro n9_10
  induction n9_10 with
  | zero => intro k9_10 f9_10_0 f9_10_1 H locs ls hq1 hq2; exact absurd hq2 (by omega)
  | succ n9_10 ih_10 =>
    intro k9_10 f9_10_0 f9_10_1 H locs ls hq1_10 hq2_10  hP hD hS hl
    have hk9_10 : (nI k9_10).toInt = (k9_10 : Int) := nI_toInt (by omega)
    refine lv_iload_n hx hb dX0_look_10 rfl (lv_at hl 0 rfl) ?_
    refine lv_aload_n hx hb dX0_look_11 rfl (lv_at hl 2 rfl) ?_
    refine va_getN (D := D) (ci := 3) (v := .int p0) (C := RX3) (T := TX3) (N := 16) hx hb htg gRX3 hown hK hP 2 rfl rfl 0 (by decide) (va_Nw.use rfl (hN.1 _ ni_168)) (fun _ h9 => h9) rfl dX0_look_12 ?_
    refine lv_icmp_ge (tgt := 72) hx hb dX0_look_15 (by decide) (fun c_3 => ?_) (fun c_3 => ?_)
    · have ic_3 : p0.toInt ≤ ((k9_10 : Nat) : Int) := ile c_3 (rfl) (nI_toInt (by omega))
      exact x_vret hx hb hr hlk hP hD hS [0, 1, 4, 2, 3] ((f9_10_0, f9_10_1)) rfl (by decide) trivial (by decide) (by decide) dX0_look_72
    · have ic_3 : ((k9_10 : Nat) : Int) < p0.toInt := inle c_3 (rfl) (nI_toInt (by omega))
      refine lv_aload_n hx hb dX0_look_18 rfl (lv_at hl 1 rfl) ?_
      refine va_get (D := D) (ci := 0) (v := .ref b0) (C := RX0) (T := TX0) (N := 2) hx hb htg gRX0 hown hK hP 0 rfl rfl 0 (by decide) (htg _ wi_439) (fun _ h9 => h9) rfl dX0_look_19 ?_
      refine lv_iload_n hx hb dX0_look_22 rfl (lv_at hl 0 rfl) ?_
      refine lv_aload_n hx hb dX0_look_23 rfl (lv_at hl 2 rfl) ?_
      refine lv_iload_n hx hb dX0_look_24 rfl (lv_at hl 0 rfl) ?_
      refine xk_i (wr := [(h0, .inr (0, [.ref b0, .ref b1])), (b0, .inl (cT 0, 16, .inl (f9_10_0))), (b1, .inl (cT 0, 16, .inl (f9_10_1)))]) (xr_VN (n := 1) (As := [.int (nI k9_10)]) (rest := [.int (nI k9_10), .ref b0]) ⟨hx, hb, hml, hown, htg⟩ hK hN hP hD hS hA [2, 3] rfl (by decide) (g_litFrom l D cT _ (h1) (a) (p0) (p1) (p2) (p3) (p4) (p5) (p6) (p7) (p8) (p9) (by first | assumption | omega | decide | (simp only [ti_0, ti_1, ti_2, ti_3, ti_4, ti_5, ti_6, ti_7, ti_8, ti_9, ti_10, ti_11, ti_12, ti_m1]; omega)) ((nI k9_10)) (by first | assumption | omega | decide | (simp only [ti_0, ti_1, ti_2, ti_3, ti_4, ti_5, ti_6, ti_7, ti_8, ti_9, ti_10, ti_11, ti_12, ti_m1]; omega)) (f2)) ni_1021 wi_710 wi_24 wi_123 wi_711 rfl rfl rfl ⟨rfl, by decide +kernel⟩ ⟨Nat.le_of_ble_eq_true rfl, Nat.le_of_ble_eq_true rfl⟩ rfl hl.1 rfl (Nat.le_of_ble_eq_true rfl) dX0_look_25 ⟨Nat.le_of_ble_eq_true rfl, Nat.le_of_ble_eq_true rfl⟩) hP hD hS hA [2, 3] [0, 1, 4] rfl rfl (by decide) (by decide) (fun r_5 u_4 H locs hwr_5 hP hD hS => ?_)
      have hP : va_P D classes [(h0, .inr (0, [.ref b0, .ref b1])), (b0, .inl (cT 0, 16, .inl (f9_10_0))), (b1, .inl (cT 0, 16, .inl (f9_10_1))), (h1, .inr (3, [.int p0, .int p1, .int p2, .int p3, .int p4, .int p5, .int p6, .int p7, .int p8, .int p9, .ref (a 0), .ref (a 1), .ref (a 2), .ref (a 3), .ref (a 4), .ref (a 5)])), ((a 2), .inl (cT 0, 16, .inl (f2)))] _ := hP
      have hD : va_D A [(h0, .inr (0, [.ref b0, .ref b1])), (b0, .inl (cT 0, 16, .inl (f9_10_0))), (b1, .inl (cT 0, 16, .inl (f9_10_1))), (h1, .inr (3, [.int p0, .int p1, .int p2, .int p3, .int p4, .int p5, .int p6, .int p7, .int p8, .int p9, .ref (a 0), .ref (a 1), .ref (a 2), .ref (a 3), .ref (a 4), .ref (a 5)])), ((a 2), .inl (cT 0, 16, .inl (f2)))] := hD
      refine va_iast hx hb hK hP hD hS 1 0 rfl rfl (vp_in_nI (by omega) (by omega)) dX0_look_28 (fun H locs hP hD hS => ?_)
      obtain ⟨f_6, hP, hD⟩ : ∃ f_6 : Nat → Int32, va_P D classes [(h0, .inr (0, [.ref b0, .ref b1])), (b0, .inl (cT 0, 16, .inl (f_6))), (b1, .inl (cT 0, 16, .inl (f9_10_1))), (h1, .inr (3, [.int p0, .int p1, .int p2, .int p3, .int p4, .int p5, .int p6, .int p7, .int p8, .int p9, .ref (a 0), .ref (a 1), .ref (a 2), .ref (a 3), .ref (a 4), .ref (a 5)])), ((a 2), .inl (cT 0, 16, .inl (f2)))] H ∧ va_D A [(h0, .inr (0, [.ref b0, .ref b1])), (b0, .inl (cT 0, 16, .inl (f_6))), (b1, .inl (cT 0, 16, .inl (f9_10_1))), (h1, .inr (3, [.int p0, .int p1, .int p2, .int p3, .int p4, .int p5, .int p6, .int p7, .int p8, .int p9, .ref (a 0), .ref (a 1), .ref (a 2), .ref (a 3), .ref (a 4), .ref (a 5)])), ((a 2), .inl (cT 0, 16, .inl (f2)))] := ⟨_, hP, hD⟩
      refine lv_iconst (v := 0) hx hb dX0_look_29 (by decide) ?_
      refine lv_istore_n (lv' := [(3, .int 0), (2, .int (nI k9_10)), (0, .ref h0), (1, .ref h1)]) hx hb dX0_look_30 rfl hl (by decide) rfl (fun ls hl => ?_)
      refine (fun (key : ∀ (n9_31 : Nat) (k9_31 : Nat) (f9_31_0 : Nat → Int32) (H : Heap) (locs : List Loc) (ls : Array Slot), (k9_31 : Int) ≤ p0.toInt → p0.toInt < (k9_31 : Int) + n9_31 → va_P D classes [(h0, .inr (0, [.ref b0, .ref b1])), (b0, .inl (cT 0, 16, .inl (f_6))), (b1, .inl (cT 0, 16, .inl (f9_31_0))), (h1, .inr (3, [.int p0, .int p1, .int p2, .int p3, .int p4, .int p5, .int p6, .int p7, .int p8, .int p9, .ref (a 0), .ref (a 1), .ref (a 2), .ref (a 3), .ref (a 4), .ref (a 5)])), ((a 2), .inl (cT 0, 16, .inl (f2)))] H → va_D A [(h0, .inr (0, [.ref b0, .ref b1])), (b0, .inl (cT 0, 16, .inl (f_6))), (b1, .inl (cT 0, 16, .inl (f9_31_0))), (h1, .inr (3, [.int p0, .int p1, .int p2, .int p3, .int p4, .int p5, .int p6, .int p7, .int p8, .int p9, .ref (a 0), .ref (a 1), .ref (a 2), .ref (a 3), .ref (a 4), .ref (a 5)])), ((a 2), .inl (cT 0, 16, .inl (f2)))] → va_S A s.heap H locs → lv_has ls 4 [(3, .int (nI k9_31)), (2, .int (nI k9_10)), (0, .ref h0), (1, .ref h1)] → W p l e _ s m _ below meth c H locs _ _ _ (F0 m 31 ls [])) => key (Int.toNat (p0.toInt - 0) + 1) 0 _ _ _ _ (by omega) (by omega)  hP hD hS (lv_sub hl [0, 1, 2, 3] rfl)) ?_
      intro n9_31
      induction n9_31 with
      | zero => intro k9_31 f9_31_0 H locs ls hq1 hq2; exact absurd hq2 (by omega)
      | succ n9_31 ih_31 =>
        intro k9_31 f9_31_0 H locs ls hq1_31 hq2_31  hP hD hS hl
        have hk9_31 : (nI k9_31).toInt = (k9_31 : Int) := nI_toInt (by omega)
        refine lv_iload_n hx hb dX0_look_31 rfl (lv_at hl 0 rfl) ?_
        refine lv_aload_n hx hb dX0_look_32 rfl (lv_at hl 3 rfl) ?_
        refine va_getN (D := D) (ci := 3) (v := .int p0) (C := RX3) (T := TX3) (N := 16) hx hb htg gRX3 hown hK hP 3 rfl rfl 0 (by decide) (va_Nw.use rfl (hN.1 _ ni_168)) (fun _ h9 => h9) rfl dX0_look_33 ?_
        refine lv_icmp_ge (tgt := 66) hx hb dX0_look_36 (by decide) (fun c_7 => ?_) (fun c_7 => ?_)
        · have ic_7 : p0.toInt ≤ ((k9_31 : Nat) : Int) := ile c_7 (rfl) (nI_toInt (by omega))
          refine lv_iinc (v := (nI (k9_10 + 1))) (lv' := [(2, .int (nI (k9_10 + 1))), (3, .int (nI k9_31)), (0, .ref h0), (1, .ref h1)]) hx hb dX0_look_66 hl (k := 1) rfl (by exact nI_1 (k9_10)) (by decide) rfl (fun ls hl => ?_)
          refine lv_goto (tgt := 10) hx hb dX0_look_69 (by decide) ?_
          exact ih_10 (k9_10 + 1) _ _ _ _ _ (by omega) (by omega)  (hP.sub [0, 1, 3, 4, 2] rfl) (hD.sub [0, 1, 3, 4, 2] (by decide) rfl) hS (lv_sub hl [0, 2, 3] rfl)
        · have ic_7 : ((k9_31 : Nat) : Int) < p0.toInt := inle c_7 (rfl) (nI_toInt (by omega))
          refine lv_aload_n hx hb dX0_look_39 rfl (lv_at hl 2 rfl) ?_
          refine va_get (D := D) (ci := 0) (v := .ref b1) (C := RX0) (T := TX0) (N := 2) hx hb htg gRX0 hown hK hP 0 rfl rfl 1 (by decide) (htg _ wi_440) (fun _ h9 => h9) rfl dX0_look_40 ?_
          refine lv_iload_n hx hb dX0_look_43 rfl (lv_at hl 0 rfl) ?_
          refine lv_dup2_11 hx hb dX0_look_44 rfl rfl ?_
          refine va_iald hx hb hK hP 2 0 rfl rfl (vp_in_nI (by omega) (by omega)) dX0_look_45 ?_
          refine lv_topi (fun z_8 ez_8 => ?_)
          refine lv_aload_n hx hb dX0_look_46 rfl (lv_at hl 2 rfl) ?_
          refine va_get (D := D) (ci := 0) (v := .ref b0) (C := RX0) (T := TX0) (N := 2) hx hb htg gRX0 hown hK hP 0 rfl rfl 0 (by decide) (htg _ wi_439) (fun _ h9 => h9) rfl dX0_look_47 ?_
          refine lv_iload_n hx hb dX0_look_50 rfl (lv_at hl 1 rfl) ?_
          refine va_iald hx hb hK hP 1 0 rfl rfl (vp_in_nI (by omega) (by omega)) dX0_look_51 ?_
          refine lv_topi (fun z_9 ez_9 => ?_)
          refine lv_iload_n hx hb dX0_look_52 rfl (lv_at hl 0 rfl) ?_
          refine lv_ishr hx hb dX0_look_53 ?_
          refine lv_topi (fun z_10 ez_10 => ?_)
          refine lv_iconst (v := 1) hx hb dX0_look_54 (by decide) ?_
          refine lv_iand hx hb dX0_look_55 ?_
          refine lv_topi (fun z_11 ez_11 => ?_)
          have iz_11 : 0 ≤ z_11.toInt ∧ z_11.toInt ≤ 1 := andI ez_11 (by decide) (by decide)
          refine lv_iload_n hx hb dX0_look_56 rfl (lv_at hl 1 rfl) ?_
          refine lv_ishl hx hb dX0_look_57 ?_
          refine lv_topi (fun z_12 ez_12 => ?_)
          refine lv_ior hx hb dX0_look_58 ?_
          refine lv_topi (fun z_13 ez_13 => ?_)
          refine va_iast hx hb hK hP hD hS 2 0 rfl rfl (vp_in_nI (by omega) (by omega)) dX0_look_59 (fun H locs hP hD hS => ?_)
          obtain ⟨f_14, hP, hD⟩ : ∃ f_14 : Nat → Int32, va_P D classes [(h0, .inr (0, [.ref b0, .ref b1])), (b0, .inl (cT 0, 16, .inl (f_6))), (b1, .inl (cT 0, 16, .inl (f_14))), (h1, .inr (3, [.int p0, .int p1, .int p2, .int p3, .int p4, .int p5, .int p6, .int p7, .int p8, .int p9, .ref (a 0), .ref (a 1), .ref (a 2), .ref (a 3), .ref (a 4), .ref (a 5)])), ((a 2), .inl (cT 0, 16, .inl (f2)))] H ∧ va_D A [(h0, .inr (0, [.ref b0, .ref b1])), (b0, .inl (cT 0, 16, .inl (f_6))), (b1, .inl (cT 0, 16, .inl (f_14))), (h1, .inr (3, [.int p0, .int p1, .int p2, .int p3, .int p4, .int p5, .int p6, .int p7, .int p8, .int p9, .ref (a 0), .ref (a 1), .ref (a 2), .ref (a 3), .ref (a 4), .ref (a 5)])), ((a 2), .inl (cT 0, 16, .inl (f2)))] := ⟨_, hP, hD⟩
          refine lv_iinc (v := (nI (k9_31 + 1))) (lv' := [(3, .int (nI (k9_31 + 1))), (2, .int (nI k9_10)), (0, .ref h0), (1, .ref h1)]) hx hb dX0_look_60 hl (k := 0) rfl (by exact nI_1 (k9_31)) (by decide) rfl (fun ls hl => ?_)
          refine lv_goto (tgt := 31) hx hb dX0_look_63 (by decide) ?_
          exact ih_31 (k9_31 + 1) _ _ _ _ (by omega) (by omega)  (hP.sub [0, 1, 2, 3, 4] rfl) (hD.sub [0, 1, 2, 3, 4] (by decide) rfl) hS (lv_sub hl [0, 1, 2, 3] rfl)
set_option maxHeartbeats 4000000 in
set_option maxRecDepth 100000 in
theorem g_fewest (l : Launch) (D : va_G) (cT : Nat → ClassId) (sz : Nat) (h0 : Nat) (b0 : Nat) (b1 : Nat) (c0 : Nat → Int32) (c1 : Nat → Int32) (h1 : Nat) (a : Nat → Nat) (p0 : Int32) (p1 : Int32) (p2 : Int32) (p3 : Int32) (p4 : Int32) (p5 : Int32) (p6 : Int32) (p7 : Int32) (p8 : Int32) (p9 : Int32) (hs : 0 ≤ p0.toInt ∧ p0.toInt ≤ 16) (f2 : Nat → Int32) (x : Int32) : Met l yX0_fewest (wsc yX0_fewest cX0_fewest 5 (some .int)) { frames := 21, cells := 0, slots := 0, locals := 607 } (va_Pc [.ref h0, .ref h1, .int x] (PX D cT sz [(h0, .inr (0, [.ref b0, .ref b1])), (b0, .inl (cT 0, 16, .inl (c0))), (b1, .inl (cT 0, 16, .inl (c1))), (h1, .inr (3, [.int p0, .int p1, .int p2, .int p3, .int p4, .int p5, .int p6, .int p7, .int p8, .int p9, .ref (a 0), .ref (a 1), .ref (a 2), .ref (a 3), .ref (a 4), .ref (a 5)])), ((a 2), .inl (cT 0, 16, .inl (f2)))])) (va_Qi (fun (r : Int32) (u : (Nat → Int32) × (Nat → Int32)) => True) (fun u t => RW D (va_A [(h0, .inr (0, [.ref b0, .ref b1])), (b0, .inl (cT 0, 16, .inl (c0))), (b1, .inl (cT 0, 16, .inl (c1))), (h1, .inr (3, [.int p0, .int p1, .int p2, .int p3, .int p4, .int p5, .int p6, .int p7, .int p8, .int p9, .ref (a 0), .ref (a 1), .ref (a 2), .ref (a 3), .ref (a 4), .ref (a 5)])), ((a 2), .inl (cT 0, 16, .inl (f2)))] sz) ((fun u : (Nat → Int32) × (Nat → Int32) => [(h0, .inr (0, [.ref b0, .ref b1])), (b0, .inl (cT 0, 16, .inl (u.1))), (b1, .inl (cT 0, 16, .inl (u.2))), (h1, .inr (3, [.int p0, .int p1, .int p2, .int p3, .int p4, .int p5, .int p6, .int p7, .int p8, .int p9, .ref (a 0), .ref (a 1), .ref (a 2), .ref (a 3), .ref (a 4), .ref (a 5)])), ((a 2), .inl (cT 0, 16, .inl (f2)))]) u) t) (va_A [(h0, .inr (0, [.ref b0, .ref b1])), (b0, .inl (cT 0, 16, .inl (c0))), (b1, .inl (cT 0, 16, .inl (c1))), (h1, .inr (3, [.int p0, .int p1, .int p2, .int p3, .int p4, .int p5, .int p6, .int p7, .int p8, .int p9, .ref (a 0), .ref (a 1), .ref (a 2), .ref (a 3), .ref (a 4), .ref (a 5)])), ((a 2), .inl (cT 0, 16, .inl (f2)))] sz)) 0 0 (va_A [(h0, .inr (0, [.ref b0, .ref b1])), (b0, .inl (cT 0, 16, .inl (c0))), (b1, .inl (cT 0, 16, .inl (c1))), (h1, .inr (3, [.int p0, .int p1, .int p2, .int p3, .int p4, .int p5, .int p6, .int p7, .int p8, .int p9, .ref (a 0), .ref (a 1), .ref (a 2), .ref (a 3), .ref (a 4), .ref (a 5)])), ((a 2), .inl (cT 0, 16, .inl (f2)))] sz) := by
  refine m_of (y := yX0_fewest) (cc := cX0_fewest) (nL := 5) (ret := (some .int)) (D := D) (cT := cT) (av := [.ref h0, .ref h1, .int x]) (wi := [(h0, .inr (0, [.ref b0, .ref b1])), (b0, .inl (cT 0, 16, .inl (c0))), (b1, .inl (cT 0, 16, .inl (c1))), (h1, .inr (3, [.int p0, .int p1, .int p2, .int p3, .int p4, .int p5, .int p6, .int p7, .int p8, .int p9, .ref (a 0), .ref (a 1), .ref (a 2), .ref (a 3), .ref (a 4), .ref (a 5)])), ((a 2), .inl (cT 0, 16, .inl (f2)))]) (fun A => va_Qi (fun (r : Int32) (u : (Nat → Int32) × (Nat → Int32)) => True) (fun u t => RW D A ((fun u : (Nat → Int32) × (Nat → Int32) => [(h0, .inr (0, [.ref b0, .ref b1])), (b0, .inl (cT 0, 16, .inl (u.1))), (b1, .inl (cT 0, 16, .inl (u.2))), (h1, .inr (3, [.int p0, .int p1, .int p2, .int p3, .int p4, .int p5, .int p6, .int p7, .int p8, .int p9, .ref (a 0), .ref (a 1), .ref (a 2), .ref (a 3), .ref (a 4), .ref (a 5)])), ((a 2), .inl (cT 0, 16, .inl (f2)))]) u) t) A) (by decide) (Nat.le_of_ble_eq_true rfl) ?_
  intro p e s m below meth c A hx hb hml hown htg hK hN hr hlk hnm hsz hP hD hS hA ls hl
  have hown : s.vm.findClass RX0 = some m.cls := hown
  have hl : lv_has ls 5 [(0, .ref h0), (1, .ref h1), (2, .int x)] := hl
  refine lv_aload_n hx hb dX0_fewest_0 rfl (lv_at hl 0 rfl) ?_
  refine lv_aload_n hx hb dX0_fewest_1 rfl (lv_at hl 1 rfl) ?_
  refine xk_v (wr := []) (xr_V (n := 1) (As := [.ref h1]) (rest := []) ⟨hx, hb, hml, hown, htg⟩ hK hN hP hD hS hA [0, 1, 2, 3, 4] rfl (by decide) (g_look l D cT _ (h0) (b0) (b1) (c0) (c1) (h1) (a) (p0) (p1) (p2) (p3) (p4) (p5) (p6) (p7) (p8) (p9) (by first | assumption | omega | decide | (simp only [ti_0, ti_1, ti_2, ti_3, ti_4, ti_5, ti_6, ti_7, ti_8, ti_9, ti_10, ti_11, ti_12, ti_m1]; omega)) (f2)) wi_1016 wi_1018 wi_66 wi_129 wi_1019 rfl rfl rfl ⟨rfl, by decide +kernel⟩ ⟨Nat.le_of_ble_eq_true rfl, Nat.le_of_ble_eq_true rfl⟩ rfl hl.1 rfl (Nat.le_of_ble_eq_true rfl) dX0_fewest_2 ⟨Nat.le_of_ble_eq_true rfl, Nat.le_of_ble_eq_true rfl⟩) hP hD hS hA [0, 1, 2, 3, 4] [] rfl rfl (by decide) (by decide) (fun u_1 H locs hwr_2 hP hD hS => ?_)
  have hP : va_P D classes [(h0, .inr (0, [.ref b0, .ref b1])), (b0, .inl (cT 0, 16, .inl (u_1.1))), (b1, .inl (cT 0, 16, .inl (u_1.2))), (h1, .inr (3, [.int p0, .int p1, .int p2, .int p3, .int p4, .int p5, .int p6, .int p7, .int p8, .int p9, .ref (a 0), .ref (a 1), .ref (a 2), .ref (a 3), .ref (a 4), .ref (a 5)])), ((a 2), .inl (cT 0, 16, .inl (f2)))] _ := hP
  have hD : va_D A [(h0, .inr (0, [.ref b0, .ref b1])), (b0, .inl (cT 0, 16, .inl (u_1.1))), (b1, .inl (cT 0, 16, .inl (u_1.2))), (h1, .inr (3, [.int p0, .int p1, .int p2, .int p3, .int p4, .int p5, .int p6, .int p7, .int p8, .int p9, .ref (a 0), .ref (a 1), .ref (a 2), .ref (a 3), .ref (a 4), .ref (a 5)])), ((a 2), .inl (cT 0, 16, .inl (f2)))] := hD
  refine lv_aload_n hx hb dX0_fewest_5 rfl (lv_at hl 1 rfl) ?_
  refine xk_i (wr := [(h0, .inr (0, [.ref b0, .ref b1])), (b0, .inl (cT 0, 16, .inl (u_1.1))), (b1, .inl (cT 0, 16, .inl (u_1.2))), ((a 2), .inl (cT 0, 16, .inl (f2)))]) (xr_VN (n := 0) (As := []) (rest := []) ⟨hx, hb, hml, hown, htg⟩ hK hN hP hD hS hA [3] rfl (by decide) (g_allStrips l D cT _ (h1) (a) (p0) (p1) (p2) (p3) (p4) (p5) (p6) (p7) (p8) (p9)) ni_1022 wi_739 wi_28 wi_123 wi_740 rfl rfl rfl ⟨rfl, by decide +kernel⟩ ⟨Nat.le_of_ble_eq_true rfl, Nat.le_of_ble_eq_true rfl⟩ rfl hl.1 rfl (Nat.le_of_ble_eq_true rfl) dX0_fewest_6 ⟨Nat.le_of_ble_eq_true rfl, Nat.le_of_ble_eq_true rfl⟩) hP hD hS hA [3] [0, 1, 2, 4] rfl rfl (by decide) (by decide) (fun r_4 u_3 H locs hwr_4 hP hD hS => ?_)
  have hP : va_P D classes [(h0, .inr (0, [.ref b0, .ref b1])), (b0, .inl (cT 0, 16, .inl (u_1.1))), (b1, .inl (cT 0, 16, .inl (u_1.2))), ((a 2), .inl (cT 0, 16, .inl (f2))), (h1, .inr (3, [.int p0, .int p1, .int p2, .int p3, .int p4, .int p5, .int p6, .int p7, .int p8, .int p9, .ref (a 0), .ref (a 1), .ref (a 2), .ref (a 3), .ref (a 4), .ref (a 5)]))] _ := hP
  have hD : va_D A [(h0, .inr (0, [.ref b0, .ref b1])), (b0, .inl (cT 0, 16, .inl (u_1.1))), (b1, .inl (cT 0, 16, .inl (u_1.2))), ((a 2), .inl (cT 0, 16, .inl (f2))), (h1, .inr (3, [.int p0, .int p1, .int p2, .int p3, .int p4, .int p5, .int p6, .int p7, .int p8, .int p9, .ref (a 0), .ref (a 1), .ref (a 2), .ref (a 3), .ref (a 4), .ref (a 5)]))] := hD
  refine lv_istore_n (lv' := [(3, .int r_4), (0, .ref h0), (1, .ref h1), (2, .int x)]) hx hb dX0_fewest_9 rfl hl (by decide) rfl (fun ls hl => ?_)
  refine lv_iconst (v := 0) hx hb dX0_fewest_10 (by decide) ?_
  refine lv_istore (lv' := [(4, .int 0), (3, .int r_4), (0, .ref h0), (1, .ref h1), (2, .int x)]) hx hb dX0_fewest_11 hl (by decide) rfl (fun ls hl => ?_)
  refine (fun (key : ∀ (n9_13 : Nat) (k9_13 : Nat)  (H : Heap) (locs : List Loc) (ls : Array Slot), (k9_13 : Int) ≤ p0.toInt + 1 → p0.toInt + 1 < (k9_13 : Int) + n9_13 → va_P D classes [(h0, .inr (0, [.ref b0, .ref b1])), (b0, .inl (cT 0, 16, .inl (u_1.1))), (b1, .inl (cT 0, 16, .inl (u_1.2))), ((a 2), .inl (cT 0, 16, .inl (f2))), (h1, .inr (3, [.int p0, .int p1, .int p2, .int p3, .int p4, .int p5, .int p6, .int p7, .int p8, .int p9, .ref (a 0), .ref (a 1), .ref (a 2), .ref (a 3), .ref (a 4), .ref (a 5)]))] H → va_D A [(h0, .inr (0, [.ref b0, .ref b1])), (b0, .inl (cT 0, 16, .inl (u_1.1))), (b1, .inl (cT 0, 16, .inl (u_1.2))), ((a 2), .inl (cT 0, 16, .inl (f2))), (h1, .inr (3, [.int p0, .int p1, .int p2, .int p3, .int p4, .int p5, .int p6, .int p7, .int p8, .int p9, .ref (a 0), .ref (a 1), .ref (a 2), .ref (a 3), .ref (a 4), .ref (a 5)]))] → va_S A s.heap H locs → lv_has ls 5 [(4, .int (nI k9_13)), (3, .int r_4), (0, .ref h0), (1, .ref h1), (2, .int x)] → W p l e _ s m _ below meth c H locs _ _ _ (F0 m 13 ls [])) => key (Int.toNat (p0.toInt + 1 - 0) + 1) 0  _ _ _ (by omega) (by omega)  hP hD hS (lv_sub hl [0, 1, 2, 3, 4] rfl)) ?_
  intro n9_13
  induction n9_13 with
  | zero => intro k9_13  H locs ls hq1 hq2; exact absurd hq2 (by omega)
  | succ n9_13 ih_13 =>
    intro k9_13  H locs ls hq1_13 hq2_13  hP hD hS hl
    have hk9_13 : (nI k9_13).toInt = (k9_13 : Int) := nI_toInt (by omega)
    refine lv_iload hx hb dX0_fewest_13 (lv_at hl 0 rfl) ?_
    refine lv_aload_n hx hb dX0_fewest_15 rfl (lv_at hl 3 rfl) ?_
    refine va_getN (D := D) (ci := 3) (v := .int p0) (C := RX3) (T := TX3) (N := 16) hx hb htg gRX3 hown hK hP 4 rfl rfl 0 (by decide) (va_Nw.use rfl (hN.1 _ ni_168)) (fun _ h9 => h9) rfl dX0_fewest_16 ?_
    refine lv_icmp_gt (tgt := 46) hx hb dX0_fewest_19 (by decide) (fun c_5 => ?_) (fun c_5 => ?_)
    · have ic_5 : p0.toInt < ((k9_13 : Nat) : Int) := ilt c_5 (rfl) (nI_toInt (by omega))
      refine lv_iload hx hb dX0_fewest_46 (lv_at hl 0 rfl) ?_
      refine lv_aload_n hx hb dX0_fewest_48 rfl (lv_at hl 3 rfl) ?_
      refine va_getN (D := D) (ci := 3) (v := .int p0) (C := RX3) (T := TX3) (N := 16) hx hb htg gRX3 hown hK hP 4 rfl rfl 0 (by decide) (va_Nw.use rfl (hN.1 _ ni_168)) (fun _ h9 => h9) rfl dX0_fewest_49 ?_
      refine lv_icmp_le (tgt := 57) hx hb dX0_fewest_52 (by decide) (fun c_6 => ?_) (fun c_6 => ?_)
      · have ic_6 : ((k9_13 : Nat) : Int) ≤ p0.toInt := ile c_6 (nI_toInt (by omega)) (rfl)
        refine lv_aload_n hx hb dX0_fewest_57 rfl (lv_at hl 2 rfl) ?_
        refine lv_aload_n hx hb dX0_fewest_58 rfl (lv_at hl 3 rfl) ?_
        refine va_getN (D := D) (ci := 3) (v := .int p0) (C := RX3) (T := TX3) (N := 16) hx hb htg gRX3 hown hK hP 4 rfl rfl 0 (by decide) (va_Nw.use rfl (hN.1 _ ni_168)) (fun _ h9 => h9) rfl dX0_fewest_59 ?_
        refine lv_iload_n hx hb dX0_fewest_62 rfl (lv_at hl 4 rfl) ?_
        refine lv_iload hx hb dX0_fewest_63 (lv_at hl 0 rfl) ?_
        refine xk_i (wr := [((a 2), .inl (cT 0, 16, .inl (f2))), (h1, .inr (3, [.int p0, .int p1, .int p2, .int p3, .int p4, .int p5, .int p6, .int p7, .int p8, .int p9, .ref (a 0), .ref (a 1), .ref (a 2), .ref (a 3), .ref (a 4), .ref (a 5)]))]) (xr_V (n := 3) (As := [.int p0, .int x, .int (nI k9_13)]) (rest := []) ⟨hx, hb, hml, hown, htg⟩ hK hN hP hD hS hA [0, 1, 2] rfl (by decide) (g_leastBits l D cT _ (h0) (b0) (b1) (u_1.1) (u_1.2) (p0) (x) ((nI k9_13)) (by first | assumption | omega | decide | (simp only [ti_0, ti_1, ti_2, ti_3, ti_4, ti_5, ti_6, ti_7, ti_8, ti_9, ti_10, ti_11, ti_12, ti_m1]; omega)) (by first | assumption | omega | decide | (simp only [ti_0, ti_1, ti_2, ti_3, ti_4, ti_5, ti_6, ti_7, ti_8, ti_9, ti_10, ti_11, ti_12, ti_m1]; omega))) wi_1030 wi_1032 wi_67 wi_129 wi_1033 rfl rfl rfl ⟨rfl, by decide +kernel⟩ ⟨Nat.le_of_ble_eq_true rfl, Nat.le_of_ble_eq_true rfl⟩ rfl hl.1 rfl (Nat.le_of_ble_eq_true rfl) dX0_fewest_65 ⟨Nat.le_of_ble_eq_true rfl, Nat.le_of_ble_eq_true rfl⟩) hP hD hS hA [0, 1, 2] [3, 4] rfl rfl (by decide) (by decide) (fun r_8 u_7 H locs hwr_8 hP hD hS => ?_)
        have hP : va_P D classes [((a 2), .inl (cT 0, 16, .inl (f2))), (h1, .inr (3, [.int p0, .int p1, .int p2, .int p3, .int p4, .int p5, .int p6, .int p7, .int p8, .int p9, .ref (a 0), .ref (a 1), .ref (a 2), .ref (a 3), .ref (a 4), .ref (a 5)])), (h0, .inr (0, [.ref b0, .ref b1])), (b0, .inl (cT 0, 16, .inl (u_1.1))), (b1, .inl (cT 0, 16, .inl (u_1.2)))] _ := hP
        have hD : va_D A [((a 2), .inl (cT 0, 16, .inl (f2))), (h1, .inr (3, [.int p0, .int p1, .int p2, .int p3, .int p4, .int p5, .int p6, .int p7, .int p8, .int p9, .ref (a 0), .ref (a 1), .ref (a 2), .ref (a 3), .ref (a 4), .ref (a 5)])), (h0, .inr (0, [.ref b0, .ref b1])), (b0, .inl (cT 0, 16, .inl (u_1.1))), (b1, .inl (cT 0, 16, .inl (u_1.2)))] := hD
        exact x_iret hx hb hr hlk hP hD hS [2, 3, 4, 1, 0] ((u_1.1, u_1.2)) rfl (by decide) trivial (by decide) (by decide) dX0_fewest_68
      · have ic_6 : p0.toInt < ((k9_13 : Nat) : Int) := inle c_6 (nI_toInt (by omega)) (rfl)
        refine lv_iconst (v := (-1)) hx hb dX0_fewest_55 (by decide) ?_
        exact x_iret hx hb hr hlk hP hD hS [0, 1, 2, 4, 3] ((u_1.1, u_1.2)) rfl (by decide) trivial (by decide) (by decide) dX0_fewest_56
    · have ic_5 : ((k9_13 : Nat) : Int) ≤ p0.toInt := inlt c_5 (rfl) (nI_toInt (by omega))
      refine lv_aload_n hx hb dX0_fewest_22 rfl (lv_at hl 2 rfl) ?_
      refine va_get (D := D) (ci := 0) (v := .ref b0) (C := RX0) (T := TX0) (N := 2) hx hb htg gRX0 hown hK hP 0 rfl rfl 0 (by decide) (htg _ wi_439) (fun _ h9 => h9) rfl dX0_fewest_23 ?_
      refine lv_aload_n hx hb dX0_fewest_26 rfl (lv_at hl 2 rfl) ?_
      refine va_get (D := D) (ci := 0) (v := .ref b1) (C := RX0) (T := TX0) (N := 2) hx hb htg gRX0 hown hK hP 0 rfl rfl 1 (by decide) (htg _ wi_440) (fun _ h9 => h9) rfl dX0_fewest_27 ?_
      refine lv_iload_n hx hb dX0_fewest_30 rfl (lv_at hl 4 rfl) ?_
      refine lv_iload_n hx hb dX0_fewest_31 rfl (lv_at hl 1 rfl) ?_
      refine lv_iload hx hb dX0_fewest_32 (lv_at hl 0 rfl) ?_
      refine xk_i (wr := [(h0, .inr (0, [.ref b0, .ref b1])), ((a 2), .inl (cT 0, 16, .inl (f2))), (h1, .inr (3, [.int p0, .int p1, .int p2, .int p3, .int p4, .int p5, .int p6, .int p7, .int p8, .int p9, .ref (a 0), .ref (a 1), .ref (a 2), .ref (a 3), .ref (a 4), .ref (a 5)]))]) (xr_S (n := 5) (As := [.ref b0, .ref b1, .int x, .int r_4, .int (nI k9_13)]) (rest := []) ⟨hx, hb, hml, hown, htg⟩ hK hN hP hD hS hA [1, 2] rfl (by decide) (g_canLight_16 l D cT _ (b0) (b1) (u_1.1) (u_1.2) (x) (r_4) ((nI k9_13)) (by first | assumption | omega | decide | (simp only [ti_0, ti_1, ti_2, ti_3, ti_4, ti_5, ti_6, ti_7, ti_8, ti_9, ti_10, ti_11, ti_12, ti_m1]; omega))) wi_1023 wi_1024 wi_129 wi_1025 ⟨rfl, by decide +kernel⟩ ⟨Nat.le_of_ble_eq_true rfl, Nat.le_of_ble_eq_true rfl⟩ rfl hl.1 rfl (Nat.le_of_ble_eq_true rfl) dX0_fewest_34 ⟨Nat.le_of_ble_eq_true rfl, Nat.le_of_ble_eq_true rfl⟩) hP hD hS hA [1, 2] [0, 3, 4] rfl rfl (by decide) (by decide) (fun r_10 u_9 H locs hwr_10 hP hD hS => ?_)
      have hP : va_P D classes [(h0, .inr (0, [.ref b0, .ref b1])), ((a 2), .inl (cT 0, 16, .inl (f2))), (h1, .inr (3, [.int p0, .int p1, .int p2, .int p3, .int p4, .int p5, .int p6, .int p7, .int p8, .int p9, .ref (a 0), .ref (a 1), .ref (a 2), .ref (a 3), .ref (a 4), .ref (a 5)])), (b0, .inl (cT 0, 16, .inl (u_1.1))), (b1, .inl (cT 0, 16, .inl (u_1.2)))] _ := hP
      have hD : va_D A [(h0, .inr (0, [.ref b0, .ref b1])), ((a 2), .inl (cT 0, 16, .inl (f2))), (h1, .inr (3, [.int p0, .int p1, .int p2, .int p3, .int p4, .int p5, .int p6, .int p7, .int p8, .int p9, .ref (a 0), .ref (a 1), .ref (a 2), .ref (a 3), .ref (a 4), .ref (a 5)])), (b0, .inl (cT 0, 16, .inl (u_1.1))), (b1, .inl (cT 0, 16, .inl (u_1.2)))] := hD
      refine lv_if_ne (tgt := 46) hx hb dX0_fewest_37 (by decide) (fun c_11 => ?_) (fun c_11 => ?_)
      · have ic_11 : ¬ r_10.toInt = 0 := ine c_11 (rfl) (by decide)
        refine lv_iload hx hb dX0_fewest_46 (lv_at hl 0 rfl) ?_
        refine lv_aload_n hx hb dX0_fewest_48 rfl (lv_at hl 3 rfl) ?_
        refine va_getN (D := D) (ci := 3) (v := .int p0) (C := RX3) (T := TX3) (N := 16) hx hb htg gRX3 hown hK hP 2 rfl rfl 0 (by decide) (va_Nw.use rfl (hN.1 _ ni_168)) (fun _ h9 => h9) rfl dX0_fewest_49 ?_
        refine lv_icmp_le (tgt := 57) hx hb dX0_fewest_52 (by decide) (fun c_12 => ?_) (fun c_12 => ?_)
        · have ic_12 : ((k9_13 : Nat) : Int) ≤ p0.toInt := ile c_12 (nI_toInt (by omega)) (rfl)
          refine lv_aload_n hx hb dX0_fewest_57 rfl (lv_at hl 2 rfl) ?_
          refine lv_aload_n hx hb dX0_fewest_58 rfl (lv_at hl 3 rfl) ?_
          refine va_getN (D := D) (ci := 3) (v := .int p0) (C := RX3) (T := TX3) (N := 16) hx hb htg gRX3 hown hK hP 2 rfl rfl 0 (by decide) (va_Nw.use rfl (hN.1 _ ni_168)) (fun _ h9 => h9) rfl dX0_fewest_59 ?_
          refine lv_iload_n hx hb dX0_fewest_62 rfl (lv_at hl 4 rfl) ?_
          refine lv_iload hx hb dX0_fewest_63 (lv_at hl 0 rfl) ?_
          refine xk_i (wr := [((a 2), .inl (cT 0, 16, .inl (f2))), (h1, .inr (3, [.int p0, .int p1, .int p2, .int p3, .int p4, .int p5, .int p6, .int p7, .int p8, .int p9, .ref (a 0), .ref (a 1), .ref (a 2), .ref (a 3), .ref (a 4), .ref (a 5)]))]) (xr_V (n := 3) (As := [.int p0, .int x, .int (nI k9_13)]) (rest := []) ⟨hx, hb, hml, hown, htg⟩ hK hN hP hD hS hA [0, 3, 4] rfl (by decide) (g_leastBits l D cT _ (h0) (b0) (b1) (u_1.1) (u_1.2) (p0) (x) ((nI k9_13)) (by first | assumption | omega | decide | (simp only [ti_0, ti_1, ti_2, ti_3, ti_4, ti_5, ti_6, ti_7, ti_8, ti_9, ti_10, ti_11, ti_12, ti_m1]; omega)) (by first | assumption | omega | decide | (simp only [ti_0, ti_1, ti_2, ti_3, ti_4, ti_5, ti_6, ti_7, ti_8, ti_9, ti_10, ti_11, ti_12, ti_m1]; omega))) wi_1030 wi_1032 wi_67 wi_129 wi_1033 rfl rfl rfl ⟨rfl, by decide +kernel⟩ ⟨Nat.le_of_ble_eq_true rfl, Nat.le_of_ble_eq_true rfl⟩ rfl hl.1 rfl (Nat.le_of_ble_eq_true rfl) dX0_fewest_65 ⟨Nat.le_of_ble_eq_true rfl, Nat.le_of_ble_eq_true rfl⟩) hP hD hS hA [0, 3, 4] [1, 2] rfl rfl (by decide) (by decide) (fun r_14 u_13 H locs hwr_14 hP hD hS => ?_)
          have hP : va_P D classes [((a 2), .inl (cT 0, 16, .inl (f2))), (h1, .inr (3, [.int p0, .int p1, .int p2, .int p3, .int p4, .int p5, .int p6, .int p7, .int p8, .int p9, .ref (a 0), .ref (a 1), .ref (a 2), .ref (a 3), .ref (a 4), .ref (a 5)])), (h0, .inr (0, [.ref b0, .ref b1])), (b0, .inl (cT 0, 16, .inl (u_1.1))), (b1, .inl (cT 0, 16, .inl (u_1.2)))] _ := hP
          have hD : va_D A [((a 2), .inl (cT 0, 16, .inl (f2))), (h1, .inr (3, [.int p0, .int p1, .int p2, .int p3, .int p4, .int p5, .int p6, .int p7, .int p8, .int p9, .ref (a 0), .ref (a 1), .ref (a 2), .ref (a 3), .ref (a 4), .ref (a 5)])), (h0, .inr (0, [.ref b0, .ref b1])), (b0, .inl (cT 0, 16, .inl (u_1.1))), (b1, .inl (cT 0, 16, .inl (u_1.2)))] := hD
          exact x_iret hx hb hr hlk hP hD hS [2, 3, 4, 1, 0] ((u_1.1, u_1.2)) rfl (by decide) trivial (by decide) (by decide) dX0_fewest_68
        · have ic_12 : p0.toInt < ((k9_13 : Nat) : Int) := inle c_12 (nI_toInt (by omega)) (rfl)
          refine lv_iconst (v := (-1)) hx hb dX0_fewest_55 (by decide) ?_
          exact x_iret hx hb hr hlk hP hD hS [0, 3, 4, 2, 1] ((u_1.1, u_1.2)) rfl (by decide) trivial (by decide) (by decide) dX0_fewest_56
      · have ic_11 : r_10.toInt = 0 := ieq c_11 (rfl) (by decide)
        refine lv_iinc (v := (nI (k9_13 + 1))) (lv' := [(4, .int (nI (k9_13 + 1))), (3, .int r_4), (0, .ref h0), (1, .ref h1), (2, .int x)]) hx hb dX0_fewest_40 hl (k := 0) rfl (by exact nI_1 (k9_13)) (by decide) rfl (fun ls hl => ?_)
        refine lv_goto (tgt := 13) hx hb dX0_fewest_43 (by decide) ?_
        exact ih_13 (k9_13 + 1)  _ _ _ (by omega) (by omega)  (hP.sub [0, 3, 4, 1, 2] rfl) (hD.sub [0, 3, 4, 1, 2] (by decide) rfl) hS (lv_sub hl [0, 1, 2, 3, 4] rfl)
set_option maxHeartbeats 4000000 in
set_option maxRecDepth 100000 in
theorem g_s_coder (l : Launch) (D : va_G) (cT : Nat → ClassId) (sz : Nat) (si : Nat) (hisi : si < 14) : Met l yJ0_coder_7d493 (wsc yJ0_coder_7d493 cJ0_coder_7d493 1 (some .byte)) { frames := 2, cells := 0, slots := 0, locals := 100 } (va_Pc [.ref (cT (10 + si))] (PX D cT sz [])) (va_Qi (fun (r : Int32) (u : Unit) => r = 0) (fun u t => RW D (va_A [] sz) ((fun _ : Unit => []) u) t) (va_A [] sz)) 0 0 (va_A [] sz) := by
  refine m_of (y := yJ0_coder_7d493) (cc := cJ0_coder_7d493) (nL := 1) (ret := (some .byte)) (D := D) (cT := cT) (av := [.ref (cT (10 + si))]) (wi := []) (fun A => va_Qi (fun (r : Int32) (u : Unit) => r = 0) (fun u t => RW D A ((fun _ : Unit => []) u) t) A) (by decide) (Nat.le_of_ble_eq_true rfl) ?_
  intro p e s m below meth c A hx hb hml hown htg hK hN hr hlk hnm hsz hP hD hS hA ls hl
  have hown : s.vm.findClass RJ0 = some m.cls := hown
  have hl : lv_has ls 1 [(0, .ref (cT (10 + si)))] := hl
  refine va_gets hx hb hN.2.2.2.2.2.1 hS hown (htg _ wi_566) (fun _ h9 => h9) dJ0_coder_7d493_0 ?_
  refine lv_if_eq (tgt := 13) hx hb dJ0_coder_7d493_3 (by decide) (fun h => absurd h (by decide)) (fun _ => ?_)
  refine lv_aload_n hx hb dJ0_coder_7d493_6 rfl (lv_at hl 0 rfl) ?_
  refine vk_getf hx hb (hN.2.2.2.2.1.1 si hisi).2.1 hS hown (htg _ wi_1632) (fun _ h9 => h9) dJ0_coder_7d493_7 ?_
  refine lv_goto (tgt := 14) hx hb dJ0_coder_7d493_10 (by decide) ?_
  exact x_tret (ty := .byte) hx hb hr hlk hP hD hS [] (()) rfl (by decide) rfl (by first | rfl | decide | (exfalso; omega) | (try simp only [ti_0, ti_1, ti_2, ti_3, ti_4, ti_5, ti_6, ti_7, ti_8, ti_9, ti_10, ti_11, ti_12]); (repeat (first | rw [if_pos (by first | assumption | omega | trivial)] | rw [if_neg (by first | assumption | omega)]))) (by decide) (by decide) dJ0_coder_7d493_14
set_option maxHeartbeats 4000000 in
set_option maxRecDepth 100000 in
theorem g_s_isLatin1 (l : Launch) (D : va_G) (cT : Nat → ClassId) (sz : Nat) (si : Nat) (hisi : si < 14) : Met l yJ0_isLatin1_aae02 (wsc yJ0_isLatin1_aae02 cJ0_isLatin1_aae02 1 (some .boolean)) { frames := 2, cells := 0, slots := 0, locals := 100 } (va_Pc [.ref (cT (10 + si))] (PX D cT sz [])) (va_Qi (fun (r : Int32) (u : Unit) => r = 1) (fun u t => RW D (va_A [] sz) ((fun _ : Unit => []) u) t) (va_A [] sz)) 0 0 (va_A [] sz) := by
  refine m_of (y := yJ0_isLatin1_aae02) (cc := cJ0_isLatin1_aae02) (nL := 1) (ret := (some .boolean)) (D := D) (cT := cT) (av := [.ref (cT (10 + si))]) (wi := []) (fun A => va_Qi (fun (r : Int32) (u : Unit) => r = 1) (fun u t => RW D A ((fun _ : Unit => []) u) t) A) (by decide) (Nat.le_of_ble_eq_true rfl) ?_
  intro p e s m below meth c A hx hb hml hown htg hK hN hr hlk hnm hsz hP hD hS hA ls hl
  have hown : s.vm.findClass RJ0 = some m.cls := hown
  have hl : lv_has ls 1 [(0, .ref (cT (10 + si)))] := hl
  refine va_gets hx hb hN.2.2.2.2.2.1 hS hown (htg _ wi_566) (fun _ h9 => h9) dJ0_isLatin1_aae02_0 ?_
  refine lv_if_eq (tgt := 17) hx hb dJ0_isLatin1_aae02_3 (by decide) (fun h => absurd h (by decide)) (fun _ => ?_)
  refine lv_aload_n hx hb dJ0_isLatin1_aae02_6 rfl (lv_at hl 0 rfl) ?_
  refine vk_getf hx hb (hN.2.2.2.2.1.1 si hisi).2.1 hS hown (htg _ wi_1632) (fun _ h9 => h9) dJ0_isLatin1_aae02_7 ?_
  refine lv_if_ne (tgt := 17) hx hb dJ0_isLatin1_aae02_10 (by decide) (fun h => absurd rfl h) (fun _ => ?_)
  refine lv_iconst (v := 1) hx hb dJ0_isLatin1_aae02_13 (by decide) ?_
  refine lv_goto (tgt := 18) hx hb dJ0_isLatin1_aae02_14 (by decide) ?_
  exact x_zret hx hb hr hlk hP hD hS [] (()) rfl (by decide) rfl (by first | rfl | decide | (exfalso; omega) | (try simp only [ti_0, ti_1, ti_2, ti_3, ti_4, ti_5, ti_6, ti_7, ti_8, ti_9, ti_10, ti_11, ti_12]); (repeat (first | rw [if_pos (by first | assumption | omega | trivial)] | rw [if_neg (by first | assumption | omega)]))) (by decide) (by decide) dJ0_isLatin1_aae02_18
set_option maxHeartbeats 4000000 in
set_option maxRecDepth 100000 in
theorem g_s_length (l : Launch) (D : va_G) (cT : Nat → ClassId) (sz : Nat) (si : Nat) (hisi : si < 14) : Met l yJ0_length_8abf5 (wsc yJ0_length_8abf5 cJ0_length_8abf5 1 (some .int)) { frames := 3, cells := 0, slots := 0, locals := 120 } (va_Pc [.ref (cT (10 + si))] (PX D cT sz [])) (va_Qi (fun (r : Int32) (u : Unit) => r = nI (strL.getD si 0)) (fun u t => RW D (va_A [] sz) ((fun _ : Unit => []) u) t) (va_A [] sz)) 0 0 (va_A [] sz) := by
  refine m_of (y := yJ0_length_8abf5) (cc := cJ0_length_8abf5) (nL := 1) (ret := (some .int)) (D := D) (cT := cT) (av := [.ref (cT (10 + si))]) (wi := []) (fun A => va_Qi (fun (r : Int32) (u : Unit) => r = nI (strL.getD si 0)) (fun u t => RW D A ((fun _ : Unit => []) u) t) A) (by decide) (Nat.le_of_ble_eq_true rfl) ?_
  intro p e s m below meth c A hx hb hml hown htg hK hN hr hlk hnm hsz hP hD hS hA ls hl
  have hown : s.vm.findClass RJ0 = some m.cls := hown
  have hl : lv_has ls 1 [(0, .ref (cT (10 + si)))] := hl
  refine lv_aload_n hx hb dJ0_length_8abf5_0 rfl (lv_at hl 0 rfl) ?_
  refine vk_getf hx hb (hN.2.2.2.2.1.1 si hisi).2.2.1 hS hown (htg _ wi_1631) (fun _ h9 => h9) dJ0_length_8abf5_1 ?_
  refine va_tlen (v := nI (strL.getD si 0)) hx hb (hN.2.2.2.2.1.1 si hisi).2.2.2 hS rfl dJ0_length_8abf5_4 ?_
  have hsl_si : (nI (strL.getD si 0)).toInt = ((strL.getD si 0 : Nat) : Int) := nI_toInt (by have h7 := strL_le si hisi; omega)
  refine lv_aload_n hx hb dJ0_length_8abf5_5 rfl (lv_at hl 0 rfl) ?_
  refine xk_i (wr := []) (xr_VS (n := 0) (As := []) (rest := [.int (nI (strL.getD si 0))]) ⟨hx, hb, hml, hown, htg⟩ hK hN hP hD hS hA [] rfl (by decide) (g_s_coder l D cT _ (si) (by first | assumption | omega | decide | (simp only [ti_0, ti_1, ti_2, ti_3, ti_4, ti_5, ti_6, ti_7, ti_8, ti_9, ti_10, ti_11, ti_12, ti_m1]; omega))) wi_562 wi_563 wi_564 wi_134 wi_565 (vk_recv (i := si) (adK := fun i => cT (10 + i)) (adV := fun i => cT (40 + i)) hN.2.2.2.2.1 (hisi) hS) ⟨rfl, by decide +kernel⟩ ⟨Nat.le_of_ble_eq_true rfl, Nat.le_of_ble_eq_true rfl⟩ rfl hl.1 rfl (Nat.le_of_ble_eq_true rfl) dJ0_length_8abf5_6 ⟨Nat.le_of_ble_eq_true rfl, Nat.le_of_ble_eq_true rfl⟩) hP hD hS hA [] [] rfl rfl (by decide) (by decide) (fun r_2 u_1 H locs hwr_2 hP hD hS => ?_)
  have hP : va_P D classes [] _ := hP
  have hD : va_D A [] := hD
  have hwr_2 : r_2 = 0 := hwr_2
  subst hwr_2
  refine lv_ishr hx hb dJ0_length_8abf5_9 ?_
  refine lv_topi (fun z_3 ez_3 => ?_)
  exact x_iret hx hb hr hlk hP hD hS [] (()) rfl (by decide) (by rw [ez_3]; exact sc_shr0 (by have := strL_le si hisi; omega)) (by decide) (by decide) dJ0_length_8abf5_10
set_option maxHeartbeats 4000000 in
set_option maxRecDepth 100000 in
theorem g_p_checkIndex (l : Launch) (D : va_G) (cT : Nat → ClassId) (sz : Nat) (x : Int32) (y : Int32) (hck : 0 ≤ x.toInt ∧ x.toInt < y.toInt) (tt : Nat) : Met l yJ3_checkIndex_8e157 (wsc yJ3_checkIndex_8e157 cJ3_checkIndex_8e157 3 (some .int)) { frames := 2, cells := 0, slots := 0, locals := 100 } (va_Pc [.int x, .int y, .ref tt] (PX D cT sz [])) (va_Qi (fun (r : Int32) (u : Unit) => True) (fun u t => RW D (va_A [] sz) ((fun _ : Unit => []) u) t) (va_A [] sz)) 0 0 (va_A [] sz) := by
  refine m_of (y := yJ3_checkIndex_8e157) (cc := cJ3_checkIndex_8e157) (nL := 3) (ret := (some .int)) (D := D) (cT := cT) (av := [.int x, .int y, .ref tt]) (wi := []) (fun A => va_Qi (fun (r : Int32) (u : Unit) => True) (fun u t => RW D A ((fun _ : Unit => []) u) t) A) (by decide) (Nat.le_of_ble_eq_true rfl) ?_
  intro p e s m below meth c A hx hb hml hown htg hK hN hr hlk hnm hsz hP hD hS hA ls hl
  have hown : s.vm.findClass RJ3 = some m.cls := hown
  have hl : lv_has ls 3 [(0, .int x), (1, .int y), (2, .ref tt)] := hl
  refine lv_iload_n hx hb dJ3_checkIndex_8e157_0 rfl (lv_at hl 0 rfl) ?_
  refine lv_if_lt (tgt := 9) hx hb dJ3_checkIndex_8e157_1 (by decide) (fun h => absurd h (fun h => absurd (ilt h rfl (show (0 : Int32).toInt = 0 from by decide)) (by omega))) (fun _ => ?_)
  refine lv_iload_n hx hb dJ3_checkIndex_8e157_4 rfl (lv_at hl 0 rfl) ?_
  refine lv_iload_n hx hb dJ3_checkIndex_8e157_5 rfl (lv_at hl 1 rfl) ?_
  refine lv_icmp_lt (tgt := 16) hx hb dJ3_checkIndex_8e157_6 (by decide) (fun _ => ?_) (fun h => absurd (Int32.lt_iff_toInt_lt.mpr (by omega)) h)
  refine lv_iload_n hx hb dJ3_checkIndex_8e157_16 rfl (lv_at hl 0 rfl) ?_
  exact x_iret hx hb hr hlk hP hD hS [] (()) rfl (by decide) trivial (by decide) (by decide) dJ3_checkIndex_8e157_17
set_option maxHeartbeats 4000000 in
set_option maxRecDepth 100000 in
theorem g_p_checkIndexN (l : Launch) (D : va_G) (cT : Nat → ClassId) (sz : Nat) (x : Int32) (y : Int32) (hck : 0 ≤ x.toInt ∧ x.toInt < y.toInt) : Met l yJ3_checkIndex_8e157 (wsc yJ3_checkIndex_8e157 cJ3_checkIndex_8e157 3 (some .int)) { frames := 2, cells := 0, slots := 0, locals := 100 } (va_Pc [.int x, .int y, .null] (PX D cT sz [])) (va_Qi (fun (r : Int32) (u : Unit) => True) (fun u t => RW D (va_A [] sz) ((fun _ : Unit => []) u) t) (va_A [] sz)) 0 0 (va_A [] sz) := by
  refine m_of (y := yJ3_checkIndex_8e157) (cc := cJ3_checkIndex_8e157) (nL := 3) (ret := (some .int)) (D := D) (cT := cT) (av := [.int x, .int y, .null]) (wi := []) (fun A => va_Qi (fun (r : Int32) (u : Unit) => True) (fun u t => RW D A ((fun _ : Unit => []) u) t) A) (by decide) (Nat.le_of_ble_eq_true rfl) ?_
  intro p e s m below meth c A hx hb hml hown htg hK hN hr hlk hnm hsz hP hD hS hA ls hl
  have hown : s.vm.findClass RJ3 = some m.cls := hown
  have hl : lv_has ls 3 [(0, .int x), (1, .int y), (2, .null)] := hl
  refine lv_iload_n hx hb dJ3_checkIndex_8e157_0 rfl (lv_at hl 0 rfl) ?_
  refine lv_if_lt (tgt := 9) hx hb dJ3_checkIndex_8e157_1 (by decide) (fun h => absurd h (fun h => absurd (ilt h rfl (show (0 : Int32).toInt = 0 from by decide)) (by omega))) (fun _ => ?_)
  refine lv_iload_n hx hb dJ3_checkIndex_8e157_4 rfl (lv_at hl 0 rfl) ?_
  refine lv_iload_n hx hb dJ3_checkIndex_8e157_5 rfl (lv_at hl 1 rfl) ?_
  refine lv_icmp_lt (tgt := 16) hx hb dJ3_checkIndex_8e157_6 (by decide) (fun _ => ?_) (fun h => absurd (Int32.lt_iff_toInt_lt.mpr (by omega)) h)
  refine lv_iload_n hx hb dJ3_checkIndex_8e157_16 rfl (lv_at hl 0 rfl) ?_
  exact x_iret hx hb hr hlk hP hD hS [] (()) rfl (by decide) trivial (by decide) (by decide) dJ3_checkIndex_8e157_17
set_option maxHeartbeats 4000000 in
set_option maxRecDepth 100000 in
theorem g_s_checkIndex (l : Launch) (D : va_G) (cT : Nat → ClassId) (sz : Nat) (x : Int32) (y : Int32) (hck : 0 ≤ x.toInt ∧ x.toInt < y.toInt) : Met l yJ0_checkIndex_df160 (wsc yJ0_checkIndex_df160 cJ0_checkIndex_df160 2 none) { frames := 3, cells := 0, slots := 0, locals := 122 } (va_Pc [.int x, .int y] (PX D cT sz [])) (va_Qv (fun (u : Unit) => True) (fun u t => RW D (va_A [] sz) ((fun _ : Unit => []) u) t) (va_A [] sz)) 0 0 (va_A [] sz) := by
  refine m_of (y := yJ0_checkIndex_df160) (cc := cJ0_checkIndex_df160) (nL := 2) (ret := none) (D := D) (cT := cT) (av := [.int x, .int y]) (wi := []) (fun A => va_Qv (fun (u : Unit) => True) (fun u t => RW D A ((fun _ : Unit => []) u) t) A) (by decide) (Nat.le_of_ble_eq_true rfl) ?_
  intro p e s m below meth c A hx hb hml hown htg hK hN hr hlk hnm hsz hP hD hS hA ls hl
  have hown : s.vm.findClass RJ0 = some m.cls := hown
  have hl : lv_has ls 2 [(0, .int x), (1, .int y)] := hl
  refine lv_iload_n hx hb dJ0_checkIndex_df160_0 rfl (lv_at hl 0 rfl) ?_
  refine lv_iload_n hx hb dJ0_checkIndex_df160_1 rfl (lv_at hl 1 rfl) ?_
  rcases hN.2.2.2.2.2.2 with hZ | ⟨t_1, hZ⟩
  · refine va_gets hx hb hZ hS hown (htg _ wi_582) (fun _ h9 => h9) dJ0_checkIndex_df160_2 ?_
    refine xk_i (wr := []) (xr_S (n := 3) (As := [.int x, .int y, .null]) (rest := []) ⟨hx, hb, hml, hown, htg⟩ hK hN hP hD hS hA [] rfl (by decide) (g_p_checkIndexN l D cT _ (x) (y) (by first | assumption | omega | decide | (simp only [ti_0, ti_1, ti_2, ti_3, ti_4, ti_5, ti_6, ti_7, ti_8, ti_9, ti_10, ti_11, ti_12, ti_m1]; omega))) wi_584 wi_585 wi_136 wi_586 ⟨rfl, by decide +kernel⟩ ⟨Nat.le_of_ble_eq_true rfl, Nat.le_of_ble_eq_true rfl⟩ rfl hl.1 rfl (Nat.le_of_ble_eq_true rfl) dJ0_checkIndex_df160_5 ⟨Nat.le_of_ble_eq_true rfl, Nat.le_of_ble_eq_true rfl⟩) hP hD hS hA [] [] rfl rfl (by decide) (by decide) (fun r_3 u_2 H locs hwr_3 hP hD hS => ?_)
    have hP : va_P D classes [] _ := hP
    have hD : va_D A [] := hD
    refine lv_pop hx hb dJ0_checkIndex_df160_8 rfl ?_
    exact x_vret hx hb hr hlk hP hD hS [] (()) rfl (by decide) trivial (by decide) (by decide) dJ0_checkIndex_df160_9
  · refine va_gets hx hb hZ hS hown (htg _ wi_582) (fun _ h9 => h9) dJ0_checkIndex_df160_2 ?_
    refine xk_i (wr := []) (xr_S (n := 3) (As := [.int x, .int y, .ref t_1]) (rest := []) ⟨hx, hb, hml, hown, htg⟩ hK hN hP hD hS hA [] rfl (by decide) (g_p_checkIndex l D cT _ (x) (y) (by first | assumption | omega | decide | (simp only [ti_0, ti_1, ti_2, ti_3, ti_4, ti_5, ti_6, ti_7, ti_8, ti_9, ti_10, ti_11, ti_12, ti_m1]; omega)) (t_1)) wi_584 wi_585 wi_136 wi_586 ⟨rfl, by decide +kernel⟩ ⟨Nat.le_of_ble_eq_true rfl, Nat.le_of_ble_eq_true rfl⟩ rfl hl.1 rfl (Nat.le_of_ble_eq_true rfl) dJ0_checkIndex_df160_5 ⟨Nat.le_of_ble_eq_true rfl, Nat.le_of_ble_eq_true rfl⟩) hP hD hS hA [] [] rfl rfl (by decide) (by decide) (fun r_5 u_4 H locs hwr_5 hP hD hS => ?_)
    have hP : va_P D classes [] _ := hP
    have hD : va_D A [] := hD
    refine lv_pop hx hb dJ0_checkIndex_df160_8 rfl ?_
    exact x_vret hx hb hr hlk hP hD hS [] (()) rfl (by decide) trivial (by decide) (by decide) dJ0_checkIndex_df160_9
set_option maxHeartbeats 4000000 in
set_option maxRecDepth 100000 in
theorem g_l1_charAt (l : Launch) (D : va_G) (cT : Nat → ClassId) (sz : Nat) (si : Nat) (hisi : si < 14) (x : Int32) (hch : 0 ≤ x.toInt ∧ x.toInt < ((strL.getD si 0 : Nat) : Int)) (hl100 : strL.getD si 0 ≤ 100) : Met l yJ1_charAt_3b067 (wsc yJ1_charAt_3b067 cJ1_charAt_3b067 2 (some .char)) { frames := 4, cells := 0, slots := 0, locals := 143 } (va_Pc [.ref (cT (40 + si)), .int x] (PX D cT sz [])) (va_Qi (fun (r : Int32) (u : Unit) => narrow .char (.int r) = .int r) (fun u t => RW D (va_A [] sz) ((fun _ : Unit => []) u) t) (va_A [] sz)) 0 0 (va_A [] sz) := by
  refine m_of (y := yJ1_charAt_3b067) (cc := cJ1_charAt_3b067) (nL := 2) (ret := (some .char)) (D := D) (cT := cT) (av := [.ref (cT (40 + si)), .int x]) (wi := []) (fun A => va_Qi (fun (r : Int32) (u : Unit) => narrow .char (.int r) = .int r) (fun u t => RW D A ((fun _ : Unit => []) u) t) A) (by decide) (Nat.le_of_ble_eq_true rfl) ?_
  intro p e s m below meth c A hx hb hml hown htg hK hN hr hlk hnm hsz hP hD hS hA ls hl
  have hown : s.vm.findClass RJ1 = some m.cls := hown
  have hl : lv_has ls 2 [(0, .ref (cT (40 + si))), (1, .int x)] := hl
  refine lv_iload_n hx hb dJ1_charAt_3b067_0 rfl (lv_at hl 1 rfl) ?_
  refine lv_aload_n hx hb dJ1_charAt_3b067_1 rfl (lv_at hl 0 rfl) ?_
  refine va_tlen (v := nI (strL.getD si 0)) hx hb (hN.2.2.2.2.1.1 si hisi).2.2.2 hS rfl dJ1_charAt_3b067_2 ?_
  have hsl_si : (nI (strL.getD si 0)).toInt = ((strL.getD si 0 : Nat) : Int) := nI_toInt (by have h7 := strL_le si hisi; omega)
  refine xk_v (wr := []) (xr_S (n := 2) (As := [.int x, .int (nI (strL.getD si 0))]) (rest := []) ⟨hx, hb, hml, hown, htg⟩ hK hN hP hD hS hA [] rfl (by decide) (g_s_checkIndex l D cT _ (x) ((nI (strL.getD si 0))) (by first | assumption | omega | decide | (simp only [ti_0, ti_1, ti_2, ti_3, ti_4, ti_5, ti_6, ti_7, ti_8, ti_9, ti_10, ti_11, ti_12, ti_m1]; omega))) wi_579 wi_580 wi_134 wi_581 ⟨rfl, by decide +kernel⟩ ⟨Nat.le_of_ble_eq_true rfl, Nat.le_of_ble_eq_true rfl⟩ rfl hl.1 rfl (Nat.le_of_ble_eq_true rfl) dJ1_charAt_3b067_3 ⟨Nat.le_of_ble_eq_true rfl, Nat.le_of_ble_eq_true rfl⟩) hP hD hS hA [] [] rfl rfl (by decide) (by decide) (fun u_1 H locs hwr_2 hP hD hS => ?_)
  have hP : va_P D classes [] _ := hP
  have hD : va_D A [] := hD
  refine lv_aload_n hx hb dJ1_charAt_3b067_6 rfl (lv_at hl 0 rfl) ?_
  refine lv_iload_n hx hb dJ1_charAt_3b067_7 rfl (lv_at hl 1 rfl) ?_
  refine va_tb hx hb (hN.2.2.2.2.1.1 si hisi).2.2.2 hS (vp_in_iff.mpr (by omega)) rfl dJ1_charAt_3b067_8 ?_
  refine lv_topi (fun z_3 ez_3 => ?_)
  refine lv_sipush (v := 255) hx hb dJ1_charAt_3b067_9 (by decide) ?_
  refine lv_iand hx hb dJ1_charAt_3b067_12 ?_
  refine lv_topi (fun z_4 ez_4 => ?_)
  have iz_4 : 0 ≤ z_4.toInt ∧ z_4.toInt ≤ 255 := andI ez_4 (by decide) (by decide)
  obtain ⟨z_5, ez_5⟩ : ∃ w : Int32, w = (z_4.toUInt32 % 65536).toInt32 := ⟨_, rfl⟩
  refine lv_i2c (v := z_5) hx hb dJ1_charAt_3b067_13 ez_5.symm ?_
  exact x_tret (ty := .char) hx hb hr hlk hP hD hS [] (()) rfl (by decide) (by rw [ez_5]; exact pk_nc _) (by rw [ez_5]; exact pk_nc _) (by decide) (by decide) dJ1_charAt_3b067_14
set_option maxHeartbeats 4000000 in
set_option maxRecDepth 100000 in
theorem g_s_charAt (l : Launch) (D : va_G) (cT : Nat → ClassId) (sz : Nat) (si : Nat) (hisi : si < 14) (x : Int32) (hch : 0 ≤ x.toInt ∧ x.toInt < ((strL.getD si 0 : Nat) : Int)) (hl100 : strL.getD si 0 ≤ 100) : Met l yJ0_charAt_5068e (wsc yJ0_charAt_5068e cJ0_charAt_5068e 2 (some .char)) { frames := 5, cells := 0, slots := 0, locals := 164 } (va_Pc [.ref (cT (10 + si)), .int x] (PX D cT sz [])) (va_Qi (fun (r : Int32) (u : Unit) => narrow .char (.int r) = .int r) (fun u t => RW D (va_A [] sz) ((fun _ : Unit => []) u) t) (va_A [] sz)) 0 0 (va_A [] sz) := by
  refine m_of (y := yJ0_charAt_5068e) (cc := cJ0_charAt_5068e) (nL := 2) (ret := (some .char)) (D := D) (cT := cT) (av := [.ref (cT (10 + si)), .int x]) (wi := []) (fun A => va_Qi (fun (r : Int32) (u : Unit) => narrow .char (.int r) = .int r) (fun u t => RW D A ((fun _ : Unit => []) u) t) A) (by decide) (Nat.le_of_ble_eq_true rfl) ?_
  intro p e s m below meth c A hx hb hml hown htg hK hN hr hlk hnm hsz hP hD hS hA ls hl
  have hown : s.vm.findClass RJ0 = some m.cls := hown
  have hl : lv_has ls 2 [(0, .ref (cT (10 + si))), (1, .int x)] := hl
  refine lv_aload_n hx hb dJ0_charAt_5068e_0 rfl (lv_at hl 0 rfl) ?_
  refine xk_i (wr := []) (xr_VS (n := 0) (As := []) (rest := []) ⟨hx, hb, hml, hown, htg⟩ hK hN hP hD hS hA [] rfl (by decide) (g_s_isLatin1 l D cT _ (si) (by first | assumption | omega | decide | (simp only [ti_0, ti_1, ti_2, ti_3, ti_4, ti_5, ti_6, ti_7, ti_8, ti_9, ti_10, ti_11, ti_12, ti_m1]; omega))) wi_572 wi_573 wi_574 wi_134 wi_575 (vk_recv (i := si) (adK := fun i => cT (10 + i)) (adV := fun i => cT (40 + i)) hN.2.2.2.2.1 (hisi) hS) ⟨rfl, by decide +kernel⟩ ⟨Nat.le_of_ble_eq_true rfl, Nat.le_of_ble_eq_true rfl⟩ rfl hl.1 rfl (Nat.le_of_ble_eq_true rfl) dJ0_charAt_5068e_1 ⟨Nat.le_of_ble_eq_true rfl, Nat.le_of_ble_eq_true rfl⟩) hP hD hS hA [] [] rfl rfl (by decide) (by decide) (fun r_2 u_1 H locs hwr_2 hP hD hS => ?_)
  have hP : va_P D classes [] _ := hP
  have hD : va_D A [] := hD
  have hwr_2 : r_2 = 1 := hwr_2
  subst hwr_2
  refine lv_if_eq (tgt := 16) hx hb dJ0_charAt_5068e_4 (by decide) (fun h => absurd h (by decide)) (fun _ => ?_)
  refine lv_aload_n hx hb dJ0_charAt_5068e_7 rfl (lv_at hl 0 rfl) ?_
  refine vk_getf hx hb (hN.2.2.2.2.1.1 si hisi).2.2.1 hS hown (htg _ wi_1631) (fun _ h9 => h9) dJ0_charAt_5068e_8 ?_
  refine lv_iload_n hx hb dJ0_charAt_5068e_11 rfl (lv_at hl 1 rfl) ?_
  refine xk_i (wr := []) (xr_S (n := 2) (As := [.ref (cT (40 + si)), .int x]) (rest := []) ⟨hx, hb, hml, hown, htg⟩ hK hN hP hD hS hA [] rfl (by decide) (g_l1_charAt l D cT _ (si) (by first | assumption | omega | decide | (simp only [ti_0, ti_1, ti_2, ti_3, ti_4, ti_5, ti_6, ti_7, ti_8, ti_9, ti_10, ti_11, ti_12, ti_m1]; omega)) (x) (by first | assumption | omega | decide | (simp only [ti_0, ti_1, ti_2, ti_3, ti_4, ti_5, ti_6, ti_7, ti_8, ti_9, ti_10, ti_11, ti_12, ti_m1]; omega)) (by first | assumption | omega | decide | (simp only [ti_0, ti_1, ti_2, ti_3, ti_4, ti_5, ti_6, ti_7, ti_8, ti_9, ti_10, ti_11, ti_12, ti_m1]; omega))) wi_576 wi_577 wi_135 wi_578 ⟨rfl, by decide +kernel⟩ ⟨Nat.le_of_ble_eq_true rfl, Nat.le_of_ble_eq_true rfl⟩ rfl hl.1 rfl (Nat.le_of_ble_eq_true rfl) dJ0_charAt_5068e_12 ⟨Nat.le_of_ble_eq_true rfl, Nat.le_of_ble_eq_true rfl⟩) hP hD hS hA [] [] rfl rfl (by decide) (by decide) (fun r_4 u_3 H locs hwr_4 hP hD hS => ?_)
  have hP : va_P D classes [] _ := hP
  have hD : va_D A [] := hD
  exact x_tret (ty := .char) hx hb hr hlk hP hD hS [] (()) rfl (by decide) hwr_4 hwr_4 (by decide) (by decide) dJ0_charAt_5068e_15
