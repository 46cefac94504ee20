set_option maxHeartbeats 4000000 in
set_option maxRecDepth 100000 in
theorem m_movesOfK (l : Launch) (D : va_G) (cT : Nat → ClassId) (sz : Nat) (h0 : Nat) (g : Nat → Nat) (b0 : Int32) (b5 : Int32) (b6 : Int32) (b7 : Int32) (b8 : Int32) (b9 : Int32) (b10 : Int32) (b11 : Int32) (b12 : Int32) (b13 : Int32) (b14 : Int32) (b17 : Int32) (b18 : Int32) (b19 : Int32) (b23 : Int32) (b24 : Int32) (b25 : Int32) (b26 : Int32) (b27 : Int32) (b29 : Int32) (b31 : Int32) (b32 : Int32) (b33 : Int32) (hb5 : 0 ≤ b5.toInt ∧ b5.toInt ≤ 900) (a0 : Nat → Int32) (pa0 : PI 288 a0) (a4 : Nat → Int32) (a12 : Nat → Int32) (e12 : EL a12 4 0 40) (a13 : Nat → Int64) (x : Int32) (hx3 : 0 ≤ x.toInt ∧ x.toInt ≤ 3) : Met l yX9_movesOf (wsc yX9_movesOf cX9_movesOf 3 (some .int)) { frames := 7, cells := 0, slots := 0, locals := 217 } (va_Pc [.ref h0, .int x] (PX D cT sz [(sw_9 h0 g b0 b5 b6 b7 b8 b9 b10 b11 b12 b13 b14 b17 b18 b19 b23 b24 b25 b26 b27 b29 b31 b32 b33), (sw_in cT (g 0) 288 a0), (sw_in cT (g 4) 6 a4), (sw_in cT (g 12) 4 a12), (sw_lo cT (g 13) 160 a13)])) (va_Qi (fun (r : Int32) (u : Int32 × Int32 × (Nat → Int32) × (Nat → Int32)) => (PI 288 u.2.2.1) ∧ (KR u.2.2.1 a0) ∧ (True)) (fun u t => RW D (va_A [(sw_9 h0 g b0 b5 b6 b7 b8 b9 b10 b11 b12 b13 b14 b17 b18 b19 b23 b24 b25 b26 b27 b29 b31 b32 b33), (sw_in cT (g 0) 288 a0), (sw_in cT (g 4) 6 a4), (sw_in cT (g 12) 4 a12), (sw_lo cT (g 13) 160 a13)] sz) ((fun u : Int32 × Int32 × (Nat → Int32) × (Nat → Int32) => [(sw_9 h0 g b0 b5 b6 b7 b8 b9 b10 b11 b12 b13 b14 u.1 u.2.1 b19 b23 b24 b25 b26 b27 b29 b31 b32 b33), (sw_in cT (g 0) 288 u.2.2.1), (sw_in cT (g 4) 6 u.2.2.2), (sw_in cT (g 12) 4 a12), (sw_lo cT (g 13) 160 a13)]) u) t) (va_A [(sw_9 h0 g b0 b5 b6 b7 b8 b9 b10 b11 b12 b13 b14 b17 b18 b19 b23 b24 b25 b26 b27 b29 b31 b32 b33), (sw_in cT (g 0) 288 a0), (sw_in cT (g 4) 6 a4), (sw_in cT (g 12) 4 a12), (sw_lo cT (g 13) 160 a13)] sz)) 0 0 (va_A [(sw_9 h0 g b0 b5 b6 b7 b8 b9 b10 b11 b12 b13 b14 b17 b18 b19 b23 b24 b25 b26 b27 b29 b31 b32 b33), (sw_in cT (g 0) 288 a0), (sw_in cT (g 4) 6 a4), (sw_in cT (g 12) 4 a12), (sw_lo cT (g 13) 160 a13)] sz) := by
  refine m_of (y := yX9_movesOf) (cc := cX9_movesOf) (nL := 3) (ret := (some .int)) (D := D) (cT := cT) (av := [.ref h0, .int x]) (wi := [(sw_9 h0 g b0 b5 b6 b7 b8 b9 b10 b11 b12 b13 b14 b17 b18 b19 b23 b24 b25 b26 b27 b29 b31 b32 b33), (sw_in cT (g 0) 288 a0), (sw_in cT (g 4) 6 a4), (sw_in cT (g 12) 4 a12), (sw_lo cT (g 13) 160 a13)]) (fun A => va_Qi (fun (r : Int32) (u : Int32 × Int32 × (Nat → Int32) × (Nat → Int32)) => (PI 288 u.2.2.1) ∧ (KR u.2.2.1 a0) ∧ (True)) (fun u t => RW D A ((fun u : Int32 × Int32 × (Nat → Int32) × (Nat → Int32) => [(sw_9 h0 g b0 b5 b6 b7 b8 b9 b10 b11 b12 b13 b14 u.1 u.2.1 b19 b23 b24 b25 b26 b27 b29 b31 b32 b33), (sw_in cT (g 0) 288 u.2.2.1), (sw_in cT (g 4) 6 u.2.2.2), (sw_in cT (g 12) 4 a12), (sw_lo cT (g 13) 160 a13)]) u) t) A) (by decide) (Nat.le_of_ble_eq_true rfl) ?_
  intro p e s m below meth c A hx hb hml hown htg hK hN hr hlk hnm hsz hP hD hS hA ls hl
  have hown : s.vm.findClass RX9 = some m.cls := hown
  have hl : lv_has ls 3 [(0, .ref h0), (1, .int x)] := hl
  have tc_0 : (0 : Int32).toInt = 0 := by decide
  have tc_40 : (40 : Int32).toInt = 40 := by decide
  refine lv_aload_n hx hb dX9_movesOf_0 rfl (lv_at hl 0 rfl) ?_
  refine lv_iconst (v := 0) hx hb dX9_movesOf_1 (by decide) ?_
  refine va_put (D := D) (ci := 9) (v := .int 0) (ty := .int) (C := RX9) (T := TX9) (N := 37) hx hb htg gRX9 tyX9 tyX9_ok nmX9 hown hK hP hD hS 0 rfl rfl 17 (by decide) (htg _ wi_1167) (fun _ h9 => h9) rfl (by decide +kernel) rfl rfl (Nat.le_of_ble_eq_true rfl) dX9_movesOf_2 (fun H locs hP hD hS => ?_)
  obtain ⟨hP, hD⟩ : PD D A [(sw_9 h0 g b0 b5 b6 b7 b8 b9 b10 b11 b12 b13 b14 0 b18 b19 b23 b24 b25 b26 b27 b29 b31 b32 b33), (sw_in cT (g 0) 288 a0), (sw_in cT (g 4) 6 a4), (sw_in cT (g 12) 4 a12), (sw_lo cT (g 13) 160 a13)] _ := ⟨hP, hD⟩
  refine lv_aload_n hx hb dX9_movesOf_5 rfl (lv_at hl 0 rfl) ?_
  refine lv_iconst (v := 0) hx hb dX9_movesOf_6 (by decide) ?_
  refine va_put (D := D) (ci := 9) (v := .int 0) (ty := .int) (C := RX9) (T := TX9) (N := 37) hx hb htg gRX9 tyX9 tyX9_ok nmX9 hown hK hP hD hS 0 rfl rfl 18 (by decide) (htg _ wi_1168) (fun _ h9 => h9) rfl (by decide +kernel) rfl rfl (Nat.le_of_ble_eq_true rfl) dX9_movesOf_7 (fun H locs hP hD hS => ?_)
  obtain ⟨hP, hD⟩ : PD D A [(sw_9 h0 g b0 b5 b6 b7 b8 b9 b10 b11 b12 b13 b14 0 0 b19 b23 b24 b25 b26 b27 b29 b31 b32 b33), (sw_in cT (g 0) 288 a0), (sw_in cT (g 4) 6 a4), (sw_in cT (g 12) 4 a12), (sw_lo cT (g 13) 160 a13)] _ := ⟨hP, hD⟩
  refine lv_iconst (v := 0) hx hb dX9_movesOf_10 (by decide) ?_
  refine lv_istore_n (lv' := [(2, .int 0), (0, .ref h0), (1, .int x)]) hx hb dX9_movesOf_11 rfl hl (by decide) rfl (fun ls hl => ?_)
  refine (fun (key : ∀ (n9_12 : Nat) (k9_12 : Nat) (f9_12_0 : Nat → Int32) (f9_12_1 : Nat → Int32) (v9_12_2 : Int32) (v9_12_3 : Int32) (H : Heap) (locs : List Loc) (ls : Array Slot), (k9_12 : Int) ≤ 40 → 40 < (k9_12 : Int) + n9_12 → PI 288 f9_12_0 → KR f9_12_0 (a0) → PD D A [(sw_9 h0 g b0 b5 b6 b7 b8 b9 b10 b11 b12 b13 b14 v9_12_2 v9_12_3 b19 b23 b24 b25 b26 b27 b29 b31 b32 b33), (sw_in cT (g 0) 288 f9_12_0), (sw_in cT (g 4) 6 f9_12_1), (sw_in cT (g 12) 4 a12), (sw_lo cT (g 13) 160 a13)] H → va_S A s.heap H locs → lv_has ls 3 [(2, .int (nI k9_12)), (0, .ref h0), (1, .int x)] → W p l e _ s m _ below meth c H locs _ _ _ (F0 m 12 ls [])) => key (Int.toNat (40 - 0) + 1) 0 _ _ _ _ _ _ _ (by omega) (by omega) (by first | assumption | omega | decide | (simp only [ti_0, ti_1, ti_2, ti_3, ti_4, ti_5, ti_6, ti_7, ti_8, ti_9, ti_10, ti_11, ti_12, ti_m1]; omega)) (by first | assumption | exact KR_rfl _) ⟨hP, hD⟩ hS (lv_sub hl [0, 1, 2] rfl)) ?_
  intro n9_12
  induction n9_12 with
  | zero => intro k9_12 f9_12_0 f9_12_1 v9_12_2 v9_12_3 H locs ls hq1 hq2; exact absurd hq2 (by omega)
  | succ n9_12 ih_12 =>
    intro k9_12 f9_12_0 f9_12_1 v9_12_2 v9_12_3 H locs ls hq1_12 hq2_12 h9_12_0 h9_12_1 hPD hS hl
    obtain ⟨hP, hD⟩ := hPD
    have hk9_12 : (nI k9_12).toInt = (k9_12 : Int) := nI_toInt (by omega)
    refine lv_iload_n hx hb dX9_movesOf_12 rfl (lv_at hl 0 rfl) ?_
    refine lv_aload_n hx hb dX9_movesOf_13 rfl (lv_at hl 1 rfl) ?_
    refine va_get (D := D) (ci := 9) (v := .ref (g 12)) (C := RX9) (T := TX9) (N := 37) hx hb htg gRX9 hown hK hP 0 rfl rfl 35 (by decide) (htg _ wi_1185) (fun _ h9 => h9) rfl dX9_movesOf_14 ?_
    refine lv_iload_n hx hb dX9_movesOf_17 rfl (lv_at hl 2 rfl) ?_
    refine va_iald hx hb hK hP 3 0 rfl rfl (vp_in_iff.mpr (by omega)) dX9_movesOf_18 ?_
    refine lv_topi (fun z_1 ez_1 => ?_)
    have iz_1 : 0 ≤ z_1.toInt ∧ z_1.toInt ≤ 40 := by rw [ez_1]; exact e12 _ (in_lt (vp_in_iff.mpr (by omega)))
    refine lv_icmp_ge (tgt := 82) hx hb dX9_movesOf_19 (by decide) (fun c_2 => ?_) (fun c_2 => ?_)
    · have ic_2 : z_1.toInt ≤ ((k9_12 : Nat) : Int) := ile c_2 (rfl) (nI_toInt (by omega))
      refine lv_aload_n hx hb dX9_movesOf_82 rfl (lv_at hl 1 rfl) ?_
      refine va_get (D := D) (ci := 9) (v := .ref (g 12)) (C := RX9) (T := TX9) (N := 37) hx hb htg gRX9 hown hK hP 0 rfl rfl 35 (by decide) (htg _ wi_1185) (fun _ h9 => h9) rfl dX9_movesOf_83 ?_
      refine lv_iload_n hx hb dX9_movesOf_86 rfl (lv_at hl 2 rfl) ?_
      refine va_iald hx hb hK hP 3 0 rfl rfl (vp_in_iff.mpr (by omega)) dX9_movesOf_87 ?_
      refine lv_topi (fun z_3 ez_3 => ?_)
      have iz_3 : 0 ≤ z_3.toInt ∧ z_3.toInt ≤ 40 := by rw [ez_3]; exact e12 _ (in_lt (vp_in_iff.mpr (by omega)))
      exact x_iret hx hb hr hlk hP hD hS [0, 1, 2, 3, 4] ((v9_12_2, v9_12_3, f9_12_0, f9_12_1)) rfl (by decide) ⟨by (try dsimp only); first | assumption | omega | decide | exact Or.inl (by decide) | (intro h9; exact absurd h9 (by decide)) | (intro _; omega) | (intro _; assumption) | (intro _; decide), by (try dsimp only); first | assumption | exact KR_rfl _, trivial⟩ (by decide) (by decide) dX9_movesOf_88
    · have ic_2 : ((k9_12 : Nat) : Int) < z_1.toInt := inle c_2 (rfl) (nI_toInt (by omega))
      refine lv_aload_n hx hb dX9_movesOf_22 rfl (lv_at hl 1 rfl) ?_
      refine lv_aload_n hx hb dX9_movesOf_23 rfl (lv_at hl 1 rfl) ?_
      refine lv_aload_n hx hb dX9_movesOf_24 rfl (lv_at hl 1 rfl) ?_
      refine va_get (D := D) (ci := 9) (v := .ref (g 13)) (C := RX9) (T := TX9) (N := 37) hx hb htg gRX9 hown hK hP 0 rfl rfl 36 (by decide) (htg _ wi_1186) (fun _ h9 => h9) rfl dX9_movesOf_25 ?_
      refine lv_bipush (v := 40) hx hb dX9_movesOf_28 (by decide) ?_
      refine lv_iload_n hx hb dX9_movesOf_30 rfl (lv_at hl 2 rfl) ?_
      refine lv_imul hx hb dX9_movesOf_31 ?_
      refine lv_topi (fun z_4 ez_4 => ?_)
      have iz_4 : z_4.toInt = 40 * x.toInt := toInt_mulI ez_4 (by decide) (rfl) (by omega)
      refine lv_iload_n hx hb dX9_movesOf_32 rfl (lv_at hl 0 rfl) ?_
      refine lv_iadd hx hb dX9_movesOf_33 ?_
      refine lv_topi (fun z_5 ez_5 => ?_)
      have iz_5 : z_5.toInt = z_4.toInt + ((k9_12 : Nat) : Int) := toInt_addI ez_5 (rfl) (nI_toInt (by omega)) (by omega)
      refine va_lald hx hb hK hP 4 1 rfl rfl (vp_in_iff.mpr (by omega)) dX9_movesOf_34 ?_
      refine lv_topl (fun z_6 ez_6 => ?_)
      refine xk_i (wr := [(sw_in cT (g 4) 6 f9_12_1), (sw_in cT (g 12) 4 a12), (sw_lo cT (g 13) 160 a13)]) (xr_V (n := 1) (As := [.long z_6]) (rest := [.ref h0]) ⟨hx, hb, hml, hown, htg⟩ hK hN hP hD hS hA [0, 1] rfl (by decide) (m_refuses l D cT _ (h0) (g) (b0) (b5) (b6) (b7) (b8) (b9) (b10) (b11) (b12) (b13) (b14) (v9_12_2) (v9_12_3) (b19) (b23) (b24) (b25) (b26) (b27) (b29) (b31) (b32) (b33) (by first | assumption | omega | decide | exact Or.inl (by decide) | (intro h9; exact absurd h9 (by decide)) | (intro _; omega) | (intro _; assumption) | (intro _; decide)) (f9_12_0) (by first | assumption | omega | decide | exact Or.inl (by decide) | (intro h9; exact absurd h9 (by decide)) | (intro _; omega) | (intro _; assumption) | (intro _; decide)) (z_6)) wi_1416 wi_1418 wi_99 wi_131 wi_1419 rfl rfl rfl ⟨rfl, by decide +kernel⟩ ⟨Nat.le_of_ble_eq_true rfl, Nat.le_of_ble_eq_true rfl⟩ rfl hl.1 rfl (Nat.le_of_ble_eq_true rfl) dX9_movesOf_35 ⟨Nat.le_of_ble_eq_true rfl, Nat.le_of_ble_eq_true rfl⟩) hP hD hS hA [0, 1] [2, 3, 4] rfl rfl (by decide) (by decide) (fun r_8 u_7 H locs hwr_8 hP hD hS => ?_)
      obtain ⟨hP, hD⟩ : PD D A [(sw_in cT (g 4) 6 f9_12_1), (sw_in cT (g 12) 4 a12), (sw_lo cT (g 13) 160 a13), (sw_9 h0 g b0 b5 b6 b7 b8 b9 b10 b11 b12 b13 b14 v9_12_2 v9_12_3 b19 b23 b24 b25 b26 b27 b29 b31 b32 b33), (sw_in cT (g 0) 288 f9_12_0)] _ := ⟨hP, hD⟩
      have qr_8_0 : Imp (r_8.toInt = 0) (1 ≤ (f9_12_0 6).toInt ∧ (f9_12_0 1).toInt ≤ 9998 ∧ (z_6.toInt = 0 ∨ (z_6.toInt = 1 ∧ 1 ≤ (f9_12_0 2).toInt) ∨ (z_6.toInt = 2 ∧ (f9_12_0 2).toInt ≤ 14))) := hwr_8.1
      refine va_put (D := D) (ci := 9) (v := .int r_8) (ty := .int) (C := RX9) (T := TX9) (N := 37) hx hb htg gRX9 tyX9 tyX9_ok nmX9 hown hK hP hD hS 3 rfl rfl 17 (by decide) (htg _ wi_1167) (fun _ h9 => h9) rfl (by decide +kernel) rfl rfl (Nat.le_of_ble_eq_true rfl) dX9_movesOf_38 (fun H locs hP hD hS => ?_)
      obtain ⟨hP, hD⟩ : PD D A [(sw_in cT (g 4) 6 f9_12_1), (sw_in cT (g 12) 4 a12), (sw_lo cT (g 13) 160 a13), (sw_9 h0 g b0 b5 b6 b7 b8 b9 b10 b11 b12 b13 b14 r_8 v9_12_3 b19 b23 b24 b25 b26 b27 b29 b31 b32 b33), (sw_in cT (g 0) 288 f9_12_0)] _ := ⟨hP, hD⟩
      refine lv_aload_n hx hb dX9_movesOf_41 rfl (lv_at hl 1 rfl) ?_
      refine va_get (D := D) (ci := 9) (v := .int r_8) (C := RX9) (T := TX9) (N := 37) hx hb htg gRX9 hown hK hP 3 rfl rfl 17 (by decide) (htg _ wi_1167) (fun _ h9 => h9) rfl dX9_movesOf_42 ?_
      refine lv_if_eq (tgt := 50) hx hb dX9_movesOf_45 (by decide) (fun c_9 => ?_) (fun c_9 => ?_)
      · have ic_9 : r_8.toInt = 0 := ieq c_9 (rfl) (by decide)
        have kqr_8_0 : 1 ≤ (f9_12_0 6).toInt ∧ (f9_12_0 1).toInt ≤ 9998 ∧ (z_6.toInt = 0 ∨ (z_6.toInt = 1 ∧ 1 ≤ (f9_12_0 2).toInt) ∨ (z_6.toInt = 2 ∧ (f9_12_0 2).toInt ≤ 14)) := qr_8_0 ic_9
        refine lv_aload_n hx hb dX9_movesOf_50 rfl (lv_at hl 1 rfl) ?_
        refine lv_dup hx hb dX9_movesOf_51 rfl ?_
        refine va_get (D := D) (ci := 9) (v := .int v9_12_3) (C := RX9) (T := TX9) (N := 37) hx hb htg gRX9 hown hK hP 3 rfl rfl 18 (by decide) (htg _ wi_1168) (fun _ h9 => h9) rfl dX9_movesOf_52 ?_
        refine lv_aload_n hx hb dX9_movesOf_55 rfl (lv_at hl 1 rfl) ?_
        refine lv_aload_n hx hb dX9_movesOf_56 rfl (lv_at hl 1 rfl) ?_
        refine va_get (D := D) (ci := 9) (v := .ref (g 13)) (C := RX9) (T := TX9) (N := 37) hx hb htg gRX9 hown hK hP 3 rfl rfl 36 (by decide) (htg _ wi_1186) (fun _ h9 => h9) rfl dX9_movesOf_57 ?_
        refine lv_bipush (v := 40) hx hb dX9_movesOf_60 (by decide) ?_
        refine lv_iload_n hx hb dX9_movesOf_62 rfl (lv_at hl 2 rfl) ?_
        refine lv_imul hx hb dX9_movesOf_63 ?_
        refine lv_topi (fun z_10 ez_10 => ?_)
        have iz_10 : z_10.toInt = 40 * x.toInt := toInt_mulI ez_10 (by decide) (rfl) (by omega)
        refine lv_iload_n hx hb dX9_movesOf_64 rfl (lv_at hl 0 rfl) ?_
        refine lv_iadd hx hb dX9_movesOf_65 ?_
        refine lv_topi (fun z_11 ez_11 => ?_)
        have iz_11 : z_11.toInt = z_10.toInt + ((k9_12 : Nat) : Int) := toInt_addI ez_11 (rfl) (nI_toInt (by omega)) (by omega)
        refine va_lald hx hb hK hP 2 1 rfl rfl (vp_in_iff.mpr (by omega)) dX9_movesOf_66 ?_
        refine lv_topl (fun z_12 ez_12 => ?_)
        obtain ⟨z_13, ez_13⟩ : ∃ w : Int32, w = z_12.toInt32 := ⟨_, rfl⟩
        refine lv_l2i (v := z_13) hx hb dX9_movesOf_67 ez_13.symm ?_
        have e9 : z_12 = z_6 := by rw [ez_12, ez_6]; exact congrArg a13 (show Int.toNat _ = Int.toNat _ from by omega)
        have iz_13 : z_13.toInt = z_6.toInt := l2iS ez_13 (by rw [e9]) (by omega)
        refine lv_iconst (v := 0) hx hb dX9_movesOf_68 (by decide) ?_
        refine xk_i (wr := [(sw_in cT (g 12) 4 a12), (sw_lo cT (g 13) 160 a13)]) (xr_V (n := 2) (As := [.int z_13, .int 0]) (rest := [.int v9_12_3, .ref h0]) ⟨hx, hb, hml, hown, htg⟩ hK hN hP hD hS hA [3, 4, 0] rfl (by decide) (m_goesK l D cT _ (h0) (g) (b0) (b5) (b6) (b7) (b8) (b9) (b10) (b11) (b12) (b13) (b14) (r_8) (v9_12_3) (b19) (b23) (b24) (b25) (b26) (b27) (b29) (b31) (b32) (b33) (by first | assumption | omega | decide | exact Or.inl (by decide) | (intro h9; exact absurd h9 (by decide)) | (intro _; omega) | (intro _; assumption) | (intro _; decide)) (f9_12_0) (by first | assumption | omega | decide | exact Or.inl (by decide) | (intro h9; exact absurd h9 (by decide)) | (intro _; omega) | (intro _; assumption) | (intro _; decide)) (f9_12_1) (z_13) (0) (by first | assumption | omega | decide | exact Or.inl (by decide) | (intro h9; exact absurd h9 (by decide)) | (intro _; omega) | (intro _; assumption) | (intro _; decide)) (by first | assumption | omega | decide | exact Or.inl (by decide) | (intro h9; exact absurd h9 (by decide)) | (intro _; omega) | (intro _; assumption) | (intro _; decide)) (by first | assumption | omega | decide | exact Or.inl (by decide) | (intro h9; exact absurd h9 (by decide)) | (intro _; omega) | (intro _; assumption) | (intro _; decide))) wi_1424 wi_1426 wi_100 wi_131 wi_1427 rfl rfl rfl ⟨rfl, by decide +kernel⟩ ⟨Nat.le_of_ble_eq_true rfl, Nat.le_of_ble_eq_true rfl⟩ rfl hl.1 rfl (Nat.le_of_ble_eq_true rfl) dX9_movesOf_69 ⟨Nat.le_of_ble_eq_true rfl, Nat.le_of_ble_eq_true rfl⟩) hP hD hS hA [3, 4, 0] [1, 2] rfl rfl (by decide) (by decide) (fun r_15 u_14 H locs hwr_15 hP hD hS => ?_)
        obtain ⟨hP, hD⟩ : PD D A [(sw_in cT (g 12) 4 a12), (sw_lo cT (g 13) 160 a13), (sw_9 h0 g b0 b5 b6 b7 b8 b9 b10 b11 b12 b13 b14 r_8 v9_12_3 b19 b23 b24 b25 b26 b27 b29 b31 b32 b33), (sw_in cT (g 0) 288 u_14.1), (sw_in cT (g 4) 6 u_14.2)] _ := ⟨hP, hD⟩
        have qr_15_0 : PI 288 u_14.1 := hwr_15.1
        have qr_15_1 : KR u_14.1 f9_12_0 := hwr_15.2.1
        have kqr_15_1 : KR u_14.1 (a0) := KR_tr qr_15_1 h9_12_1
        have qr_15_2 : (u_14.1 1).toInt = (f9_12_0 1).toInt + 1 := hwr_15.2.2.1
        refine lv_iadd hx hb dX9_movesOf_72 ?_
        refine lv_topi (fun z_16 ez_16 => ?_)
        refine va_put (D := D) (ci := 9) (v := .int z_16) (ty := .int) (C := RX9) (T := TX9) (N := 37) hx hb htg gRX9 tyX9 tyX9_ok nmX9 hown hK hP hD hS 2 rfl rfl 18 (by decide) (htg _ wi_1168) (fun _ h9 => h9) rfl (by decide +kernel) rfl rfl (Nat.le_of_ble_eq_true rfl) dX9_movesOf_73 (fun H locs hP hD hS => ?_)
        obtain ⟨hP, hD⟩ : PD D A [(sw_in cT (g 12) 4 a12), (sw_lo cT (g 13) 160 a13), (sw_9 h0 g b0 b5 b6 b7 b8 b9 b10 b11 b12 b13 b14 r_8 z_16 b19 b23 b24 b25 b26 b27 b29 b31 b32 b33), (sw_in cT (g 0) 288 u_14.1), (sw_in cT (g 4) 6 u_14.2)] _ := ⟨hP, hD⟩
        refine lv_iinc (v := (nI (k9_12 + 1))) (lv' := [(2, .int (nI (k9_12 + 1))), (0, .ref h0), (1, .int x)]) hx hb dX9_movesOf_76 hl (k := 0) rfl (by exact nI_1 (k9_12)) (by decide) rfl (fun ls hl => ?_)
        refine lv_goto (tgt := 12) hx hb dX9_movesOf_79 (by decide) ?_
        exact ih_12 (k9_12 + 1) _ _ _ _ _ _ _ (by omega) (by omega) (by first | assumption | omega | decide | (simp only [ti_0, ti_1, ti_2, ti_3, ti_4, ti_5, ti_6, ti_7, ti_8, ti_9, ti_10, ti_11, ti_12, ti_m1]; omega)) (by first | assumption | exact KR_rfl _) ⟨hP.sub [2, 3, 4, 0, 1] rfl, hD.sub [2, 3, 4, 0, 1] (by decide) rfl⟩ hS (lv_sub hl [0, 1, 2] rfl)
      · have ic_9 : ¬ r_8.toInt = 0 := ine c_9 (rfl) (by decide)
        refine lv_iload_n hx hb dX9_movesOf_48 rfl (lv_at hl 0 rfl) ?_
        exact x_iret hx hb hr hlk hP hD hS [3, 4, 0, 1, 2] ((r_8, v9_12_3, f9_12_0, f9_12_1)) rfl (by decide) ⟨by (try dsimp only); first | assumption | omega | decide | exact Or.inl (by decide) | (intro h9; exact absurd h9 (by decide)) | (intro _; omega) | (intro _; assumption) | (intro _; decide), by (try dsimp only); first | assumption | exact KR_rfl _, trivial⟩ (by decide) (by decide) dX9_movesOf_49
