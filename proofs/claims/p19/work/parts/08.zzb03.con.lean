set_option maxHeartbeats 4000000 in
set_option maxRecDepth 100000 in
theorem m_movesOfK (l : Launch) (D : va_G) (cT : Nat → ClassId) (sz : Nat) (h0 : Nat) (g : Nat → Nat) (b0 : Int32) (b5 : Int32) (b6 : Int32) (b7 : Int32) (b8 : Int32) (b9 : Int32) (b10 : Int32) (b11 : Int32) (b12 : Int32) (b13 : Int32) (b14 : Int32) (b17 : Int32) (b18 : Int32) (b19 : Int32) (b23 : Int32) (b24 : Int32) (b25 : Int32) (b26 : Int32) (b27 : Int32) (b29 : Int32) (b31 : Int32) (b32 : Int32) (b33 : Int32) (hb5 : 0 ≤ b5.toInt ∧ b5.toInt ≤ 900) (a0 : Nat → Int32) (pa0 : PI 288 a0) (a4 : Nat → Int32) (a12 : Nat → Int32) (e12 : EL a12 4 0 40) (a13 : Nat → Int64) (x : Int32) (hx3 : 0 ≤ x.toInt ∧ x.toInt ≤ 3) : Met l yX9_movesOf (wsc yX9_movesOf cX9_movesOf 3 (some .int)) { frames := 7, cells := 0, slots := 0, locals := 217 } (va_Pc [.ref h0, .int x] (PX D cT sz [(sw_9 h0 g b0 b5 b6 b7 b8 b9 b10 b11 b12 b13 b14 b17 b18 b19 b23 b24 b25 b26 b27 b29 b31 b32 b33), (sw_in cT (g 0) 288 a0), (sw_in cT (g 4) 6 a4), (sw_in cT (g 12) 4 a12), (sw_lo cT (g 13) 160 a13)])) (va_Qi (fun (r : Int32) (u : Int32 × Int32 × (Nat → Int32) × (Nat → Int32)) => (PI 288 u.2.2.1) ∧ (KR u.2.2.1 a0) ∧ (True)) (fun u t => RW D (va_A [(sw_9 h0 g b0 b5 b6 b7 b8 b9 b10 b11 b12 b13 b14 b17 b18 b19 b23 b24 b25 b26 b27 b29 b31 b32 b33), (sw_in cT (g 0) 288 a0), (sw_in cT (g 4) 6 a4), (sw_in cT (g 12) 4 a12), (sw_lo cT (g 13) 160 a13)] sz) ((fun u : Int32 × Int32 × (Nat → Int32) × (Nat → Int32) => [(sw_9 h0 g b0 b5 b6 b7 b8 b9 b10 b11 b12 b13 b14 u.1 u.2.1 b19 b23 b24 b25 b26 b27 b29 b31 b32 b33), (sw_in cT (g 0) 288 u.2.2.1), (sw_in cT (g 4) 6 u.2.2.2), (sw_in cT (g 12) 4 a12), (sw_lo cT (g 13) 160 a13)]) u) t) (va_A [(sw_9 h0 g b0 b5 b6 b7 b8 b9 b10 b11 b12 b13 b14 b17 b18 b19 b23 b24 b25 b26 b27 b29 b31 b32 b33), (sw_in cT (g 0) 288 a0), (sw_in cT (g 4) 6 a4), (sw_in cT (g 12) 4 a12), (sw_lo cT (g 13) 160 a13)] sz)) 0 0 (va_A [(sw_9 h0 g b0 b5 b6 b7 b8 b9 b10 b11 b12 b13 b14 b17 b18 b19 b23 b24 b25 b26 b27 b29 b31 b32 b33), (sw_in cT (g 0) 288 a0), (sw_in cT (g 4) 6 a4), (sw_in cT (g 12) 4 a12), (sw_lo cT (g 13) 160 a13)] sz) := by
  refine m_of (y := yX9_movesOf) (cc := cX9_movesOf) (nL := 3) (ret := (some .int)) (D := D) (cT := cT) (av := [.ref h0, .int x]) (wi := [(sw_9 h0 g b0 b5 b6 b7 b8 b9 b10 b11 b12 b13 b14 b17 b18 b19 b23 b24 b25 b26 b27 b29 b31 b32 b33), (sw_in cT (g 0) 288 a0), (sw_in cT (g 4) 6 a4), (sw_in cT (g 12) 4 a12), (sw_lo cT (g 13) 160 a13)]) (fun A => va_Qi (fun (r : Int32) (u : Int32 × Int32 × (Nat → Int32) × (Nat → Int32)) => (PI 288 u.2.2.1) ∧ (KR u.2.2.1 a0) ∧ (True)) (fun u t => RW D A ((fun u : Int32 × Int32 × (Nat → Int32) × (Nat → Int32) => [(sw_9 h0 g b0 b5 b6 b7 b8 b9 b10 b11 b12 b13 b14 u.1 u.2.1 b19 b23 b24 b25 b26 b27 b29 b31 b32 b33), (sw_in cT (g 0) 288 u.2.2.1), (sw_in cT (g 4) 6 u.2.2.2), (sw_in cT (g 12) 4 a12), (sw_lo cT (g 13) 160 a13)]) u) t) A) (by decide) (Nat.le_of_ble_eq_true rfl) ?_
  intro p e s m below meth c A hx hb hml hown htg hK hN hr hlk hnm hsz hP hD hS hA ls hl
  have hown : s.vm.findClass RX9 = some m.cls := hown
  have hl : lv_has ls 3 [(0, .ref h0), (1, .int x)] := hl
  have tc_0 : (0 : Int32).toInt = 0 := by decide
  have tc_40 : (40 : Int32).toInt = 40 := by decide
  refine lv_aload_n hx hb dX9_movesOf_0 rfl (lv_at hl 0 rfl) ?_
  refine lv_iconst (v := 0) hx hb dX9_movesOf_1 (by decide) ?_
  refine va_put (D := D) (ci := 9) (v := .int 0) (ty := .int) (C := RX9) (T := TX9) (N := 37) hx hb htg gRX9 tyX9 tyX9_ok nmX9 hown hK hP hD hS 0 rfl rfl 17 (by decide) (htg _ wi_1167) (fun _ h9 => h9) rfl (by decide +kernel) rfl rfl (Nat.le_of_ble_eq_true rfl) dX9_movesOf_2 (fun H locs hP hD hS => ?_)
  obtain ⟨hP, hD⟩ : PD D A [(sw_9 h0 g b0 b5 b6 b7 b8 b9 b10 b11 b12 b13 b14 0 b18 b19 b23 b24 b25 b26 b27 b29 b31 b32 b33), (sw_in cT (g 0) 288 a0), (sw_in cT (g 4) 6 a4), (sw_in cT (g 12) 4 a12), (sw_lo cT (g 13) 160 a13)] _ := ⟨hP, hD⟩
  refine lv_aload_n hx hb dX9_movesOf_5 rfl (lv_at hl 0 rfl) ?_
  refine lv_iconst (v := 0) hx hb dX9_movesOf_6 (by decide) ?_
  refine va_put (D := D) (ci := 9) (v := .int 0) (ty := .int) (C := RX9) (T := TX9) (N := 37) hx hb htg gRX9 tyX9 tyX9_ok nmX9 hown hK hP hD hS 0 rfl rfl 18 (by decide) (htg _ wi_1168) (fun _ h9 => h9) rfl (by decide +kernel) rfl rfl (Nat.le_of_ble_eq_true rfl) dX9_movesOf_7 (fun H locs hP hD hS => ?_)
  obtain ⟨hP, hD⟩ : PD D A [(sw_9 h0 g b0 b5 b6 b7 b8 b9 b10 b11 b12 b13 b14 0 0 b19 b23 b24 b25 b26 b27 b29 b31 b32 b33), (sw_in cT (g 0) 288 a0), (sw_in cT (g 4) 6 a4), (sw_in cT (g 12) 4 a12), (sw_lo cT (g 13) 160 a13)] _ := ⟨hP, hD⟩
  refine lv_iconst (v := 0) hx hb dX9_movesOf_10 (by decide) ?_
  refine lv_istore_n (lv' := [(2, .int 0), (0, .ref h0), (1, .int x)]) hx hb dX9_movesOf_11 rfl hl (by decide) rfl (fun ls hl => ?_)
  refine (fun (key : ∀ (n9_12 : Nat) (k9_12 : Nat) (f9_12_0 : Nat → Int32) (f9_12_1 : Nat → Int32) (v9_12_2 : Int32) (v9_12_3 : Int32) (H : Heap) (locs : List Loc) (ls : Array Slot), (k9_12 : Int) ≤ 40 → 40 < (k9_12 : Int) + n9_12 → PI 288 f9_12_0 → KR f9_12_0 (a0) → PD D A [(sw_9 h0 g b0 b5 b6 b7 b8 b9 b10 b11 b12 b13 b14 v9_12_2 v9_12_3 b19 b23 b24 b25 b26 b27 b29 b31 b32 b33), (sw_in cT (g 0) 288 f9_12_0), (sw_in cT (g 4) 6 f9_12_1), (sw_in cT (g 12) 4 a12), (sw_lo cT (g 13) 160 a13)] H → va_S A s.heap H locs → lv_has ls 3 [(2, .int (nI k9_12)), (0, .ref h0), (1, .int x)] → W p l e _ s m _ below meth c H locs _ _ _ (F0 m 12 ls [])) => key (Int.toNat (40 - 0) + 1) 0 _ _ _ _ _ _ _ (by omega) (by omega) (by first | assumption | omega | decide | (simp only [ti_0, ti_1, ti_2, ti_3, ti_4, ti_5, ti_6, ti_7, ti_8, ti_9, ti_10, ti_11, ti_12, ti_m1]; omega)) (by first | assumption | exact KR_rfl _) ⟨hP, hD⟩ hS (lv_sub hl [0, 1, 2] rfl)) ?_
  intro n9_12
  induction n9_12 with
  | zero => intro k9_12 f9_12_0 f9_12_1 v9_12_2 v9_12_3 H locs ls hq1 hq2; exact absurd hq2 (by omega)
  | succ n9_12 ih_12 =>
    intro k9_12 f9_12_0 f9_12_1 v9_12_2 v9_12_3 H locs ls hq1_12 hq2_12 h9_12_0 h9_12_1 hPD hS hl
    obtain ⟨hP, hD⟩ := hPD
    have hk9_12 : (nI k9_12).toInt = (k9_12 : Int) := nI_toInt (by omega)
    refine lv_iload_n hx hb dX9_movesOf_12 rfl (lv_at hl 0 rfl) ?_
    refine lv_aload_n hx hb dX9_movesOf_13 rfl (lv_at hl 1 rfl) ?_
    refine va_get (D := D) (ci := 9) (v := .ref (g 12)) (C := RX9) (T := TX9) (N := 37) hx hb htg gRX9 hown hK hP 0 rfl rfl 35 (by decide) (htg _ wi_1185) (fun _ h9 => h9) rfl dX9_movesOf_14 ?_
    refine lv_iload_n hx hb dX9_movesOf_17 rfl (lv_at hl 2 rfl) ?_
    refine va_iald hx hb hK hP 3 0 rfl rfl (vp_in_iff.mpr (by omega)) dX9_movesOf_18 ?_
    refine lv_topi (fun z_1 ez_1 => ?_)
    have iz_1 : 0 ≤ z_1.toInt ∧ z_1.toInt ≤ 40 := by rw [ez_1]; exact e12 _ (in_lt (vp_in_iff.mpr (by omega)))
    refine lv_icmp_ge (tgt := 82) hx hb dX9_movesOf_19 (by decide) (fun c_2 => ?_) (fun c_2 => ?_)
    · have ic_2 : z_1.toInt ≤ ((k9_12 : Nat) : Int) := ile c_2 (rfl) (nI_toInt (by omega))
      refine lv_aload_n hx hb dX9_movesOf_82 rfl (lv_at hl 1 rfl) ?_
      refine va_get (D := D) (ci := 9) (v := .ref (g 12)) (C := RX9) (T := TX9) (N := 37) hx hb htg gRX9 hown hK hP 0 rfl rfl 35 (by decide) (htg _ wi_1185) (fun _ h9 => h9) rfl dX9_movesOf_83 ?_
      refine lv_iload_n hx hb dX9_movesOf_86 rfl (lv_at hl 2 rfl) ?_
      refine va_iald hx hb hK hP 3 0 rfl rfl (vp_in_iff.mpr (by omega)) dX9_movesOf_87 ?_
      refine lv_topi (fun z_3 ez_3 => ?_)
      have iz_3 : 0 ≤ z_3.toInt ∧ z_3.toInt ≤ 40 := by rw [ez_3]; exact e12 _ (in_lt (vp_in_iff.mpr (by omega)))
      exact x_iret hx hb hr hlk hP hD hS [0, 1, 2, 3, 4] ((v9_12_2, v9_12_3, f9_12_0, f9_12_1)) rfl (by decide) ⟨by (try dsimp only); first | assumption | omega | decide | exact Or.inl (by decide) | (intro h9; exact absurd h9 (by decide)) | (intro _; omega) | (intro _; assumption) | (intro _; decide), by (try dsimp only); first | assumption | exact KR_rfl _, trivial⟩ (by decide) (by decide) dX9_movesOf_88
    · have ic_2 : ((k9_12 : Nat) : Int) < z_1.toInt := inle c_2 (rfl) (nI_toInt (by omega))
      refine lv_aload_n hx hb dX9_movesOf_22 rfl (lv_at hl 1 rfl) ?_
      refine lv_aload_n hx hb dX9_movesOf_23 rfl (lv_at hl 1 rfl) ?_
      refine lv_aload_n hx hb dX9_movesOf_24 rfl (lv_at hl 1 rfl) ?_
      refine va_get (D := D) (ci := 9) (v := .ref (g 13)) (C := RX9) (T := TX9) (N := 37) hx hb htg gRX9 hown hK hP 0 rfl rfl 36 (by decide) (htg _ wi_1186) (fun _ h9 => h9) rfl dX9_movesOf_25 ?_
      refine lv_bipush (v := 40) hx hb dX9_movesOf_28 (by decide) ?_
      refine lv_iload_n hx hb dX9_movesOf_30 rfl (lv_at hl 2 rfl) ?_
      refine lv_imul hx hb dX9_movesOf_31 ?_
      refine lv_topi (fun z_4 ez_4 => ?_)
      have iz_4 : z_4.toInt = 40 * x.toInt := toInt_mulI ez_4 (by decide) (rfl) (by omega)
      refine lv_iload_n hx hb dX9_movesOf_32 rfl (lv_at hl 0 rfl) ?_
      refine lv_iadd hx hb dX9_movesOf_33 ?_
      refine lv_topi (fun z_5 ez_5 => ?_)
      have iz_5 : z_5.toInt = z_4.toInt + ((k9_12 : Nat) : Int) := toInt_addI ez_5 (rfl) (nI_toInt (by omega)) (by omega)
      refine va_lald hx hb hK hP 4 1 rfl rfl (vp_in_iff.mpr (by omega)) dX9_movesOf_34 ?_
      refine lv_topl (fun z_6 ez_6 => ?_)
      refine xk_i (wr := [(sw_in cT (g 4) 6 f9_12_1), (sw_in cT (g 12) 4 a12), (sw_lo cT (g 13) 160 a13)]) (xr_V (n := 1) (As := [.long z_6]) (rest := [.ref h0]) ⟨hx, hb, hml, hown, htg⟩ hK hN hP hD hS hA [0, 1] rfl (by decide) (m_refuses l D cT _ (h0) (g) (b0) (b5) (b6) (b7) (b8) (b9) (b10) (b11) (b12) (b13) (b14) (v9_12_2) (v9_12_3) (b19) (b23) (b24) (b25) (b26) (b27) (b29) (b31) (b32) (b33) (by first | assumption | omega | decide | exact Or.inl (by decide) | (intro h9; exact absurd h9 (by decide)) | (intro _; omega) | (intro _; assumption) | (intro _; decide)) (f9_12_0) (by first | assumption | omega | decide | exact Or.inl (by decide) | (intro h9; exact absurd h9 (by decide)) | (intro _; omega) | (intro _; assumption) | (intro _; decide)) (z_6)) wi_1416 wi_1418 wi_99 wi_131 wi_1419 rfl rfl rfl ⟨rfl, by decide +kernel⟩ ⟨Nat.le_of_ble_eq_true rfl, Nat.le_of_ble_eq_true rfl⟩ rfl hl.1 rfl (Nat.le_of_ble_eq_true rfl) dX9_movesOf_35 ⟨Nat.le_of_ble_eq_true rfl, Nat.le_of_ble_eq_true rfl⟩) hP hD hS hA [0, 1] [2, 3, 4] rfl rfl (by decide) (by decide) (fun r_8 u_7 H locs hwr_8 hP hD hS => ?_)
      obtain ⟨hP, hD⟩ : PD D A [(sw_in cT (g 4) 6 f9_12_1), (sw_in cT (g 12) 4 a12), (sw_lo cT (g 13) 160 a13), (sw_9 h0 g b0 b5 b6 b7 b8 b9 b10 b11 b12 b13 b14 v9_12_2 v9_12_3 b19 b23 b24 b25 b26 b27 b29 b31 b32 b33), (sw_in cT (g 0) 288 f9_12_0)] _ := ⟨hP, hD⟩
      have qr_8_0 : Imp (r_8.toInt = 0) (1 ≤ (f9_12_0 6).toInt ∧ (f9_12_0 1).toInt ≤ 9998 ∧ (z_6.toInt = 0 ∨ (z_6.toInt = 1 ∧ 1 ≤ (f9_12_0 2).toInt) ∨ (z_6.toInt = 2 ∧ (f9_12_0 2).toInt ≤ 14))) := hwr_8.1
      refine va_put (D := D) (ci := 9) (v := .int r_8) (ty := .int) (C := RX9) (T := TX9) (N := 37) hx hb htg gRX9 tyX9 tyX9_ok nmX9 hown hK hP hD hS 3 rfl rfl 17 (by decide) (htg _ wi_1167) (fun _ h9 => h9) rfl (by decide +kernel) rfl rfl (Nat.le_of_ble_eq_true rfl) dX9_movesOf_38 (fun H locs hP hD hS => ?_)
      obtain ⟨hP, hD⟩ : PD D A [(sw_in cT (g 4) 6 f9_12_1), (sw_in cT (g 12) 4 a12), (sw_lo cT (g 13) 160 a13), (sw_9 h0 g b0 b5 b6 b7 b8 b9 b10 b11 b12 b13 b14 r_8 v9_12_3 b19 b23 b24 b25 b26 b27 b29 b31 b32 b33), (sw_in cT (g 0) 288 f9_12_0)] _ := ⟨hP, hD⟩
      refine lv_aload_n hx hb dX9_movesOf_41 rfl (lv_at hl 1 rfl) ?_
      refine va_get (D := D) (ci := 9) (v := .int r_8) (C := RX9) (T := TX9) (N := 37) hx hb htg gRX9 hown hK hP 3 rfl rfl 17 (by decide) (htg _ wi_1167) (fun _ h9 => h9) rfl dX9_movesOf_42 ?_
      refine lv_if_eq (tgt := 50) hx hb dX9_movesOf_45 (by decide) (fun c_9 => ?_) (fun c_9 => ?_)
      · have ic_9 : r_8.toInt = 0 := ieq c_9 (rfl) (by decide)
        have kqr_8_0 : 1 ≤ (f9_12_0 6).toInt ∧ (f9_12_0 1).toInt ≤ 9998 ∧ (z_6.toInt = 0 ∨ (z_6.toInt = 1 ∧ 1 ≤ (f9_12_0 2).toInt) ∨ (z_6.toInt = 2 ∧ (f9_12_0 2).toInt ≤ 14)) := qr_8_0 ic_9
        refine lv_aload_n hx hb dX9_movesOf_50 rfl (lv_at hl 1 rfl) ?_
        refine lv_dup hx hb dX9_movesOf_51 rfl ?_
        refine va_get (D := D) (ci := 9) (v := .int v9_12_3) (C := RX9) (T := TX9) (N := 37) hx hb htg gRX9 hown hK hP 3 rfl rfl 18 (by decide) (htg _ wi_1168) (fun _ h9 => h9) rfl dX9_movesOf_52 ?_
        refine lv_aload_n hx hb dX9_movesOf_55 rfl (lv_at hl 1 rfl) ?_
        refine lv_aload_n hx hb dX9_movesOf_56 rfl (lv_at hl 1 rfl) ?_
        refine va_get (D := D) (ci := 9) (v := .ref (g 13)) (C := RX9) (T := TX9) (N := 37) hx hb htg gRX9 hown hK hP 3 rfl rfl 36 (by decide) (htg _ wi_1186) (fun _ h9 => h9) rfl dX9_movesOf_57 ?_
        refine lv_bipush (v := 40) hx hb dX9_movesOf_60 (by decide) ?_
        refine lv_iload_n hx hb dX9_movesOf_62 rfl (lv_at hl 2 rfl) ?_
        refine lv_imul hx hb dX9_movesOf_63 ?_
        refine lv_topi (fun z_10 ez_10 => ?_)
        have iz_10 : z_10.toInt = 40 * x.toInt := toInt_mulI ez_10 (by decide) (rfl) (by omega)
        refine lv_iload_n hx hb dX9_movesOf_64 rfl (lv_at hl 0 rfl) ?_
        refine lv_iadd hx hb dX9_movesOf_65 ?_
        refine lv_topi (fun z_11 ez_11 => ?_)
        have iz_11 : z_11.toInt = z_10.toInt + ((k9_12 : Nat) : Int) := toInt_addI ez_11 (rfl) (nI_toInt (by omega)) (by omega)
        refine va_lald hx hb hK hP 2 1 rfl rfl (vp_in_iff.mpr (by omega)) dX9_movesOf_66 ?_
        refine lv_topl (fun z_12 ez_12 => ?_)
        obtain ⟨z_13, ez_13⟩ : ∃ w : Int32, w = z_12.toInt32 := ⟨_, rfl⟩
        refine lv_l2i (v := z_13) hx hb dX9_movesOf_67 ez_13.symm ?_
        have e9 : z_12 = z_6 := by rw [ez_12, ez_6]; exact congrArg a13 (show Int.toNat _ = Int.toNat _ from by omega)
        have iz_13 : z_13.toInt = z_6.toInt := l2iS ez_13 (by rw [e9]) (by omega)
        refine lv_iconst (v := 0) hx hb dX9_movesOf_68 (by decide) ?_
        refine xk_i (wr := [(sw_in cT (g 12) 4 a12), (sw_lo cT (g 13) 160 a13)]) (xr_V (n := 2) (As := [.int z_13, .int 0]) (rest := [.int v9_12_3, .ref h0]) ⟨hx, hb, hml, hown, htg⟩ hK hN hP hD hS hA [3, 4, 0] rfl (by decide) (m_goesK l D cT _ (h0) (g) (b0) (b5) (b6) (b7) (b8) (b9) (b10) (b11) (b12) (b13) (b14) (r_8) (v9_12_3) (b19) (b23) (b24) (b25) (b26) (b27) (b29) (b31) (b32) (b33) (by first | assumption | omega | decide | exact Or.inl (by decide) | (intro h9; exact absurd h9 (by decide)) | (intro _; omega) | (intro _; assumption) | (intro _; decide)) (f9_12_0) (by first | assumption | omega | decide | exact Or.inl (by decide) | (intro h9; exact absurd h9 (by decide)) | (intro _; omega) | (intro _; assumption) | (intro _; decide)) (f9_12_1) (z_13) (0) (by first | assumption | omega | decide | exact Or.inl (by decide) | (intro h9; exact absurd h9 (by decide)) | (intro _; omega) | (intro _; assumption) | (intro _; decide)) (by first | assumption | omega | decide | exact Or.inl (by decide) | (intro h9; exact absurd h9 (by decide)) | (intro _; omega) | (intro _; assumption) | (intro _; decide)) (by first | assumption | omega | decide | exact Or.inl (by decide) | (intro h9; exact absurd h9 (by decide)) | (intro _; omega) | (intro _; assumption) | (intro _; decide))) wi_1424 wi_1426 wi_100 wi_131 wi_1427 rfl rfl rfl ⟨rfl, by decide +kernel⟩ ⟨Nat.le_of_ble_eq_true rfl, Nat.le_of_ble_eq_true rfl⟩ rfl hl.1 rfl (Nat.le_of_ble_eq_true rfl) dX9_movesOf_69 ⟨Nat.le_of_ble_eq_true rfl, Nat.le_of_ble_eq_true rfl⟩) hP hD hS hA [3, 4, 0] [1, 2] rfl rfl (by decide) (by decide) (fun r_15 u_14 H locs hwr_15 hP hD hS => ?_)
        obtain ⟨hP, hD⟩ : PD D A [(sw_in cT (g 12) 4 a12), (sw_lo cT (g 13) 160 a13), (sw_9 h0 g b0 b5 b6 b7 b8 b9 b10 b11 b12 b13 b14 r_8 v9_12_3 b19 b23 b24 b25 b26 b27 b29 b31 b32 b33), (sw_in cT (g 0) 288 u_14.1), (sw_in cT (g 4) 6 u_14.2)] _ := ⟨hP, hD⟩
        have qr_15_0 : PI 288 u_14.1 := hwr_15.1
        have qr_15_1 : KR u_14.1 f9_12_0 := hwr_15.2.1
        have kqr_15_1 : KR u_14.1 (a0) := KR_tr qr_15_1 h9_12_1
        have qr_15_2 : (u_14.1 1).toInt = (f9_12_0 1).toInt + 1 := hwr_15.2.2.1
        refine lv_iadd hx hb dX9_movesOf_72 ?_
        refine lv_topi (fun z_16 ez_16 => ?_)
        refine va_put (D := D) (ci := 9) (v := .int z_16) (ty := .int) (C := RX9) (T := TX9) (N := 37) hx hb htg gRX9 tyX9 tyX9_ok nmX9 hown hK hP hD hS 2 rfl rfl 18 (by decide) (htg _ wi_1168) (fun _ h9 => h9) rfl (by decide +kernel) rfl rfl (Nat.le_of_ble_eq_true rfl) dX9_movesOf_73 (fun H locs hP hD hS => ?_)
        obtain ⟨hP, hD⟩ : PD D A [(sw_in cT (g 12) 4 a12), (sw_lo cT (g 13) 160 a13), (sw_9 h0 g b0 b5 b6 b7 b8 b9 b10 b11 b12 b13 b14 r_8 z_16 b19 b23 b24 b25 b26 b27 b29 b31 b32 b33), (sw_in cT (g 0) 288 u_14.1), (sw_in cT (g 4) 6 u_14.2)] _ := ⟨hP, hD⟩
        refine lv_iinc (v := (nI (k9_12 + 1))) (lv' := [(2, .int (nI (k9_12 + 1))), (0, .ref h0), (1, .int x)]) hx hb dX9_movesOf_76 hl (k := 0) rfl (by exact nI_1 (k9_12)) (by decide) rfl (fun ls hl => ?_)
        refine lv_goto (tgt := 12) hx hb dX9_movesOf_79 (by decide) ?_
        exact ih_12 (k9_12 + 1) _ _ _ _ _ _ _ (by omega) (by omega) (by first | assumption | omega | decide | (simp only [ti_0, ti_1, ti_2, ti_3, ti_4, ti_5, ti_6, ti_7, ti_8, ti_9, ti_10, ti_11, ti_12, ti_m1]; omega)) (by first | assumption | exact KR_rfl _) ⟨hP.sub [2, 3, 4, 0, 1] rfl, hD.sub [2, 3, 4, 0, 1] (by decide) rfl⟩ hS (lv_sub hl [0, 1, 2] rfl)
      · have ic_9 : ¬ r_8.toInt = 0 := ine c_9 (rfl) (by decide)
        refine lv_iload_n hx hb dX9_movesOf_48 rfl (lv_at hl 0 rfl) ?_
        exact x_iret hx hb hr hlk hP hD hS [3, 4, 0, 1, 2] ((r_8, v9_12_3, f9_12_0, f9_12_1)) rfl (by decide) ⟨by (try dsimp only); first | assumption | omega | decide | exact Or.inl (by decide) | (intro h9; exact absurd h9 (by decide)) | (intro _; omega) | (intro _; assumption) | (intro _; decide), by (try dsimp only); first | assumption | exact KR_rfl _, trivial⟩ (by decide) (by decide) dX9_movesOf_49
set_option maxHeartbeats 4000000 in
set_option maxRecDepth 100000 in
theorem m_judgeK (l : Launch) (D : va_G) (cT : Nat → ClassId) (sz : Nat) (h0 : Nat) (g : Nat → Nat) (b0 : Int32) (b5 : Int32) (b6 : Int32) (b7 : Int32) (b8 : Int32) (b9 : Int32) (b10 : Int32) (b11 : Int32) (b12 : Int32) (b13 : Int32) (b14 : Int32) (b17 : Int32) (b18 : Int32) (b19 : Int32) (b23 : Int32) (b24 : Int32) (b25 : Int32) (b26 : Int32) (b27 : Int32) (b29 : Int32) (b31 : Int32) (b32 : Int32) (b33 : Int32) (hb5 : 0 ≤ b5.toInt ∧ b5.toInt ≤ 900) (a0 : Nat → Int32) (pa0 : PI 288 a0) (a4 : Nat → Int32) (a5 : Nat → Int32) (pa5 : PI 960 a5) (a11 : Nat → Int32) (a12 : Nat → Int32) (e12 : EL a12 4 0 40) (a13 : Nat → Int64) (x : Int32) (y : Int32) : Met l yX9_judge (wsc yX9_judge cX9_judge 5 (some .int)) { frames := 8, cells := 0, slots := 0, locals := 239 } (va_Pc [.ref h0, .int x, .int y] (PX D cT sz [(sw_9 h0 g b0 b5 b6 b7 b8 b9 b10 b11 b12 b13 b14 b17 b18 b19 b23 b24 b25 b26 b27 b29 b31 b32 b33), (sw_in cT (g 0) 288 a0), (sw_in cT (g 4) 6 a4), (sw_in cT (g 5) 960 a5), (sw_in cT (g 11) 4 a11), (sw_in cT (g 12) 4 a12), (sw_lo cT (g 13) 160 a13)])) (va_Qi (fun (r : Int32) (u : Int32 × Int32 × Int32 × (Nat → Int32) × (Nat → Int32) × (Nat → Int32)) => (PI 288 u.2.2.2.1) ∧ (KR u.2.2.2.1 a0) ∧ (PI 960 u.2.2.2.2.2) ∧ (True)) (fun u t => RW D (va_A [(sw_9 h0 g b0 b5 b6 b7 b8 b9 b10 b11 b12 b13 b14 b17 b18 b19 b23 b24 b25 b26 b27 b29 b31 b32 b33), (sw_in cT (g 0) 288 a0), (sw_in cT (g 4) 6 a4), (sw_in cT (g 5) 960 a5), (sw_in cT (g 11) 4 a11), (sw_in cT (g 12) 4 a12), (sw_lo cT (g 13) 160 a13)] sz) ((fun u : Int32 × Int32 × Int32 × (Nat → Int32) × (Nat → Int32) × (Nat → Int32) => [(sw_9 h0 g u.1 b5 b6 b7 b8 b9 b10 b11 b12 b13 b14 u.2.1 u.2.2.1 b19 b23 b24 b25 b26 b27 b29 b31 b32 b33), (sw_in cT (g 0) 288 u.2.2.2.1), (sw_in cT (g 4) 6 u.2.2.2.2.1), (sw_in cT (g 5) 960 u.2.2.2.2.2), (sw_in cT (g 11) 4 a11), (sw_in cT (g 12) 4 a12), (sw_lo cT (g 13) 160 a13)]) u) t) (va_A [(sw_9 h0 g b0 b5 b6 b7 b8 b9 b10 b11 b12 b13 b14 b17 b18 b19 b23 b24 b25 b26 b27 b29 b31 b32 b33), (sw_in cT (g 0) 288 a0), (sw_in cT (g 4) 6 a4), (sw_in cT (g 5) 960 a5), (sw_in cT (g 11) 4 a11), (sw_in cT (g 12) 4 a12), (sw_lo cT (g 13) 160 a13)] sz)) 0 0 (va_A [(sw_9 h0 g b0 b5 b6 b7 b8 b9 b10 b11 b12 b13 b14 b17 b18 b19 b23 b24 b25 b26 b27 b29 b31 b32 b33), (sw_in cT (g 0) 288 a0), (sw_in cT (g 4) 6 a4), (sw_in cT (g 5) 960 a5), (sw_in cT (g 11) 4 a11), (sw_in cT (g 12) 4 a12), (sw_lo cT (g 13) 160 a13)] sz) := by
  refine m_of (y := yX9_judge) (cc := cX9_judge) (nL := 5) (ret := (some .int)) (D := D) (cT := cT) (av := [.ref h0, .int x, .int y]) (wi := [(sw_9 h0 g b0 b5 b6 b7 b8 b9 b10 b11 b12 b13 b14 b17 b18 b19 b23 b24 b25 b26 b27 b29 b31 b32 b33), (sw_in cT (g 0) 288 a0), (sw_in cT (g 4) 6 a4), (sw_in cT (g 5) 960 a5), (sw_in cT (g 11) 4 a11), (sw_in cT (g 12) 4 a12), (sw_lo cT (g 13) 160 a13)]) (fun A => va_Qi (fun (r : Int32) (u : Int32 × Int32 × Int32 × (Nat → Int32) × (Nat → Int32) × (Nat → Int32)) => (PI 288 u.2.2.2.1) ∧ (KR u.2.2.2.1 a0) ∧ (PI 960 u.2.2.2.2.2) ∧ (True)) (fun u t => RW D A ((fun u : Int32 × Int32 × Int32 × (Nat → Int32) × (Nat → Int32) × (Nat → Int32) => [(sw_9 h0 g u.1 b5 b6 b7 b8 b9 b10 b11 b12 b13 b14 u.2.1 u.2.2.1 b19 b23 b24 b25 b26 b27 b29 b31 b32 b33), (sw_in cT (g 0) 288 u.2.2.2.1), (sw_in cT (g 4) 6 u.2.2.2.2.1), (sw_in cT (g 5) 960 u.2.2.2.2.2), (sw_in cT (g 11) 4 a11), (sw_in cT (g 12) 4 a12), (sw_lo cT (g 13) 160 a13)]) u) t) A) (by decide) (Nat.le_of_ble_eq_true rfl) ?_
  intro p e s m below meth c A hx hb hml hown htg hK hN hr hlk hnm hsz hP hD hS hA ls hl
  have hown : s.vm.findClass RX9 = some m.cls := hown
  have hl : lv_has ls 5 [(0, .ref h0), (1, .int x), (2, .int y)] := hl
  have tc_m6 : ((-6) : Int32).toInt = (-6) := by decide
  have tc_m2 : ((-2) : Int32).toInt = (-2) := by decide
  have tc_m1 : ((-1) : Int32).toInt = (-1) := by decide
  have tc_0 : (0 : Int32).toInt = 0 := by decide
  have tc_1 : (1 : Int32).toInt = 1 := by decide
  have tc_2 : (2 : Int32).toInt = 2 := by decide
  refine lv_aload_n hx hb dX9_judge_0 rfl (lv_at hl 0 rfl) ?_
  refine lv_iconst (v := 0) hx hb dX9_judge_1 (by decide) ?_
  refine va_put (D := D) (ci := 9) (v := .int 0) (ty := .int) (C := RX9) (T := TX9) (N := 37) hx hb htg gRX9 tyX9 tyX9_ok nmX9 hown hK hP hD hS 0 rfl rfl 0 (by decide) (htg _ wi_1150) (fun _ h9 => h9) rfl (by decide +kernel) rfl rfl (Nat.le_of_ble_eq_true rfl) dX9_judge_2 (fun H locs hP hD hS => ?_)
  obtain ⟨hP, hD⟩ : PD D A [(sw_9 h0 g 0 b5 b6 b7 b8 b9 b10 b11 b12 b13 b14 b17 b18 b19 b23 b24 b25 b26 b27 b29 b31 b32 b33), (sw_in cT (g 0) 288 a0), (sw_in cT (g 4) 6 a4), (sw_in cT (g 5) 960 a5), (sw_in cT (g 11) 4 a11), (sw_in cT (g 12) 4 a12), (sw_lo cT (g 13) 160 a13)] _ := ⟨hP, hD⟩
  refine lv_iload_n hx hb dX9_judge_5 rfl (lv_at hl 1 rfl) ?_
  refine lv_i2l (v := x.toInt64) hx hb dX9_judge_6 rfl ?_
  refine lv_lconst (v := 0) hx hb dX9_judge_7 (by decide) ?_
  refine lv_ldc2 (v := 3) hx hb hown (htg _ wi_1366) dX9_judge_8 ?_
  have ilw_1 : (x.toInt64).toInt = x.toInt := i2l_i _
  refine xk_i (wr := [(sw_9 h0 g 0 b5 b6 b7 b8 b9 b10 b11 b12 b13 b14 b17 b18 b19 b23 b24 b25 b26 b27 b29 b31 b32 b33), (sw_in cT (g 0) 288 a0), (sw_in cT (g 4) 6 a4), (sw_in cT (g 5) 960 a5), (sw_in cT (g 11) 4 a11), (sw_in cT (g 12) 4 a12), (sw_lo cT (g 13) 160 a13)]) (xr_S (n := 3) (As := [.long x.toInt64, .long 0, .long 3]) (rest := []) ⟨hx, hb, hml, hown, htg⟩ hK hN hP hD hS hA [] rfl (by decide) (m_within l D cT _ (x.toInt64) (0) (3) (x.toInt) (0) (3) (i2l_i _) (by decide) (by decide)) wi_1270 wi_1271 wi_131 wi_1272 ⟨rfl, by decide +kernel⟩ ⟨Nat.le_of_ble_eq_true rfl, Nat.le_of_ble_eq_true rfl⟩ rfl hl.1 rfl (Nat.le_of_ble_eq_true rfl) dX9_judge_11 ⟨Nat.le_of_ble_eq_true rfl, Nat.le_of_ble_eq_true rfl⟩) hP hD hS hA [] [0, 1, 2, 3, 4, 5, 6] rfl rfl (by decide) (by decide) (fun r_3 u_2 H locs hwr_3 hP hD hS => ?_)
  obtain ⟨hP, hD⟩ : PD D A [(sw_9 h0 g 0 b5 b6 b7 b8 b9 b10 b11 b12 b13 b14 b17 b18 b19 b23 b24 b25 b26 b27 b29 b31 b32 b33), (sw_in cT (g 0) 288 a0), (sw_in cT (g 4) 6 a4), (sw_in cT (g 5) 960 a5), (sw_in cT (g 11) 4 a11), (sw_in cT (g 12) 4 a12), (sw_lo cT (g 13) 160 a13)] _ := ⟨hP, hD⟩
  have qr_3_0 : Imp (¬ r_3.toInt = 0) (0 ≤ x.toInt ∧ x.toInt ≤ 3) := hwr_3.1
  have qr_3_1 : r_3 = 0 ∨ r_3 = 1 := hwr_3.2.1
  refine lv_if_eq (tgt := 29) hx hb dX9_judge_14 (by decide) (fun c_4 => ?_) (fun c_4 => ?_)
  · have ic_4 : r_3.toInt = 0 := ieq c_4 (rfl) (by decide)
    refine lv_bipush (v := (-2)) hx hb dX9_judge_29 (by decide) ?_
    exact x_iret hx hb hr hlk hP hD hS [0, 1, 2, 3, 4, 5, 6] ((0, b17, b18, a0, a4, a5)) rfl (by decide) ⟨by (try dsimp only); first | assumption | omega | decide | exact Or.inl (by decide) | (intro h9; exact absurd h9 (by decide)) | (intro _; omega) | (intro _; assumption) | (intro _; decide), by (try dsimp only); first | assumption | exact KR_rfl _, by (try dsimp only); first | assumption | omega | decide | exact Or.inl (by decide) | (intro h9; exact absurd h9 (by decide)) | (intro _; omega) | (intro _; assumption) | (intro _; decide), trivial⟩ (by decide) (by decide) dX9_judge_31
  · have ic_4 : ¬ r_3.toInt = 0 := ine c_4 (rfl) (by decide)
    have kqr_3_0 : 0 ≤ x.toInt ∧ x.toInt ≤ 3 := qr_3_0 ic_4
    refine lv_iload_n hx hb dX9_judge_17 rfl (lv_at hl 2 rfl) ?_
    refine lv_i2l (v := y.toInt64) hx hb dX9_judge_18 rfl ?_
    refine lv_lconst (v := 0) hx hb dX9_judge_19 (by decide) ?_
    refine lv_ldc2 (v := 3) hx hb hown (htg _ wi_1366) dX9_judge_20 ?_
    have ilw_5 : (y.toInt64).toInt = y.toInt := i2l_i _
    refine xk_i (wr := [(sw_9 h0 g 0 b5 b6 b7 b8 b9 b10 b11 b12 b13 b14 b17 b18 b19 b23 b24 b25 b26 b27 b29 b31 b32 b33), (sw_in cT (g 0) 288 a0), (sw_in cT (g 4) 6 a4), (sw_in cT (g 5) 960 a5), (sw_in cT (g 11) 4 a11), (sw_in cT (g 12) 4 a12), (sw_lo cT (g 13) 160 a13)]) (xr_S (n := 3) (As := [.long y.toInt64, .long 0, .long 3]) (rest := []) ⟨hx, hb, hml, hown, htg⟩ hK hN hP hD hS hA [] rfl (by decide) (m_within l D cT _ (y.toInt64) (0) (3) (y.toInt) (0) (3) (i2l_i _) (by decide) (by decide)) wi_1270 wi_1271 wi_131 wi_1272 ⟨rfl, by decide +kernel⟩ ⟨Nat.le_of_ble_eq_true rfl, Nat.le_of_ble_eq_true rfl⟩ rfl hl.1 rfl (Nat.le_of_ble_eq_true rfl) dX9_judge_23 ⟨Nat.le_of_ble_eq_true rfl, Nat.le_of_ble_eq_true rfl⟩) hP hD hS hA [] [0, 1, 2, 3, 4, 5, 6] rfl rfl (by decide) (by decide) (fun r_7 u_6 H locs hwr_7 hP hD hS => ?_)
    obtain ⟨hP, hD⟩ : PD D A [(sw_9 h0 g 0 b5 b6 b7 b8 b9 b10 b11 b12 b13 b14 b17 b18 b19 b23 b24 b25 b26 b27 b29 b31 b32 b33), (sw_in cT (g 0) 288 a0), (sw_in cT (g 4) 6 a4), (sw_in cT (g 5) 960 a5), (sw_in cT (g 11) 4 a11), (sw_in cT (g 12) 4 a12), (sw_lo cT (g 13) 160 a13)] _ := ⟨hP, hD⟩
    have qr_7_0 : Imp (¬ r_7.toInt = 0) (0 ≤ y.toInt ∧ y.toInt ≤ 3) := hwr_7.1
    have qr_7_1 : r_7 = 0 ∨ r_7 = 1 := hwr_7.2.1
    refine lv_if_ne (tgt := 32) hx hb dX9_judge_26 (by decide) (fun c_8 => ?_) (fun c_8 => ?_)
    · have ic_8 : ¬ r_7.toInt = 0 := ine c_8 (rfl) (by decide)
      have kqr_7_0 : 0 ≤ y.toInt ∧ y.toInt ≤ 3 := qr_7_0 ic_8
      refine lv_aload_n hx hb dX9_judge_32 rfl (lv_at hl 0 rfl) ?_
      refine va_get (D := D) (ci := 9) (v := .ref (g 11)) (C := RX9) (T := TX9) (N := 37) hx hb htg gRX9 hown hK hP 0 rfl rfl 34 (by decide) (htg _ wi_1184) (fun _ h9 => h9) rfl dX9_judge_33 ?_
      refine lv_iload_n hx hb dX9_judge_36 rfl (lv_at hl 1 rfl) ?_
      refine va_iald hx hb hK hP 4 0 rfl rfl (vp_in_iff.mpr (by omega)) dX9_judge_37 ?_
      refine lv_topi (fun z_9 ez_9 => ?_)
      refine lv_iconst (v := (-1)) hx hb dX9_judge_38 (by decide) ?_
      refine lv_icmp_ne (tgt := 45) hx hb dX9_judge_39 (by decide) (fun c_10 => ?_) (fun c_10 => ?_)
      · have ic_10 : ¬ z_9.toInt = (-1) := ine c_10 (rfl) (by decide)
        refine lv_aload_n hx hb dX9_judge_45 rfl (lv_at hl 0 rfl) ?_
        refine lv_iconst (v := 0) hx hb dX9_judge_46 (by decide) ?_
        refine xk_v (wr := [(sw_in cT (g 4) 6 a4), (sw_in cT (g 11) 4 a11), (sw_in cT (g 12) 4 a12), (sw_lo cT (g 13) 160 a13)]) (xr_V (n := 1) (As := [.int 0]) (rest := []) ⟨hx, hb, hml, hown, htg⟩ hK hN hP hD hS hA [0, 1, 3] rfl (by decide) (m_keepsK l D cT _ (h0) (g) (0) (b5) (b6) (b7) (b8) (b9) (b10) (b11) (b12) (b13) (b14) (b17) (b18) (b19) (b23) (b24) (b25) (b26) (b27) (b29) (b31) (b32) (b33) (by first | assumption | omega | decide | exact Or.inl (by decide) | (intro h9; exact absurd h9 (by decide)) | (intro _; omega) | (intro _; assumption) | (intro _; decide)) (a0) (by first | assumption | omega | decide | exact Or.inl (by decide) | (intro h9; exact absurd h9 (by decide)) | (intro _; omega) | (intro _; assumption) | (intro _; decide)) (a5) (by first | assumption | omega | decide | exact Or.inl (by decide) | (intro h9; exact absurd h9 (by decide)) | (intro _; omega) | (intro _; assumption) | (intro _; decide)) (0) (by first | assumption | omega | decide | exact Or.inl (by decide) | (intro h9; exact absurd h9 (by decide)) | (intro _; omega) | (intro _; assumption) | (intro _; decide))) wi_1432 wi_1434 wi_101 wi_131 wi_1435 rfl rfl rfl ⟨rfl, by decide +kernel⟩ ⟨Nat.le_of_ble_eq_true rfl, Nat.le_of_ble_eq_true rfl⟩ rfl hl.1 rfl (Nat.le_of_ble_eq_true rfl) dX9_judge_47 ⟨Nat.le_of_ble_eq_true rfl, Nat.le_of_ble_eq_true rfl⟩) hP hD hS hA [0, 1, 3] [2, 4, 5, 6] rfl rfl (by decide) (by decide) (fun u_11 H locs hwr_12 hP hD hS => ?_)
        obtain ⟨hP, hD⟩ : PD D A [(sw_in cT (g 4) 6 a4), (sw_in cT (g 11) 4 a11), (sw_in cT (g 12) 4 a12), (sw_lo cT (g 13) 160 a13), (sw_9 h0 g 0 b5 b6 b7 b8 b9 b10 b11 b12 b13 b14 b17 b18 b19 b23 b24 b25 b26 b27 b29 b31 b32 b33), (sw_in cT (g 0) 288 a0), (sw_in cT (g 5) 960 u_11)] _ := ⟨hP, hD⟩
        have qr_12_0 : PI 960 u_11 := hwr_12.1
        have qr_12_1 : KP (96 * 0) u_11 a0 := by have h7 := hwr_12.2.1; simp only [show ((0 : Int32)).toInt = 0 from by decide] at h7; exact h7
        have qr_12_2 : KB (96 * 0) u_11 a5 := by have h7 := hwr_12.2.2.1; simp only [show ((0 : Int32)).toInt = 0 from by decide] at h7; exact h7
        refine lv_aload_n hx hb dX9_judge_50 rfl (lv_at hl 0 rfl) ?_
        refine lv_iload_n hx hb dX9_judge_51 rfl (lv_at hl 1 rfl) ?_
        refine xk_i (wr := [(sw_in cT (g 11) 4 a11), (sw_in cT (g 5) 960 u_11)]) (xr_V (n := 1) (As := [.int x]) (rest := []) ⟨hx, hb, hml, hown, htg⟩ hK hN hP hD hS hA [4, 5, 0, 2, 3] rfl (by decide) (m_movesOfK l D cT _ (h0) (g) (0) (b5) (b6) (b7) (b8) (b9) (b10) (b11) (b12) (b13) (b14) (b17) (b18) (b19) (b23) (b24) (b25) (b26) (b27) (b29) (b31) (b32) (b33) (by first | assumption | omega | decide | exact Or.inl (by decide) | (intro h9; exact absurd h9 (by decide)) | (intro _; omega) | (intro _; assumption) | (intro _; decide)) (a0) (by first | assumption | omega | decide | exact Or.inl (by decide) | (intro h9; exact absurd h9 (by decide)) | (intro _; omega) | (intro _; assumption) | (intro _; decide)) (a4) (a12) (by first | assumption | omega | decide | exact Or.inl (by decide) | (intro h9; exact absurd h9 (by decide)) | (intro _; omega) | (intro _; assumption) | (intro _; decide)) (a13) (x) (by first | assumption | omega | decide | exact Or.inl (by decide) | (intro h9; exact absurd h9 (by decide)) | (intro _; omega) | (intro _; assumption) | (intro _; decide))) wi_1436 wi_1438 wi_102 wi_131 wi_1439 rfl rfl rfl ⟨rfl, by decide +kernel⟩ ⟨Nat.le_of_ble_eq_true rfl, Nat.le_of_ble_eq_true rfl⟩ rfl hl.1 rfl (Nat.le_of_ble_eq_true rfl) dX9_judge_52 ⟨Nat.le_of_ble_eq_true rfl, Nat.le_of_ble_eq_true rfl⟩) hP hD hS hA [4, 5, 0, 2, 3] [1, 6] rfl rfl (by decide) (by decide) (fun r_14 u_13 H locs hwr_14 hP hD hS => ?_)
        obtain ⟨hP, hD⟩ : PD D A [(sw_in cT (g 11) 4 a11), (sw_in cT (g 5) 960 u_11), (sw_9 h0 g 0 b5 b6 b7 b8 b9 b10 b11 b12 b13 b14 u_13.1 u_13.2.1 b19 b23 b24 b25 b26 b27 b29 b31 b32 b33), (sw_in cT (g 0) 288 u_13.2.2.1), (sw_in cT (g 4) 6 u_13.2.2.2), (sw_in cT (g 12) 4 a12), (sw_lo cT (g 13) 160 a13)] _ := ⟨hP, hD⟩
        have qr_14_0 : PI 288 u_13.2.2.1 := hwr_14.1
        have qr_14_1 : KR u_13.2.2.1 a0 := hwr_14.2.1
        have kqr_14_1 : KR u_13.2.2.1 (a0) := KR_tr qr_14_1 (KR_rfl a0)
        refine lv_istore_n (lv' := [(3, .int r_14), (0, .ref h0), (1, .int x), (2, .int y)]) hx hb dX9_judge_55 rfl hl (by decide) rfl (fun ls hl => ?_)
        refine lv_aload_n hx hb dX9_judge_56 rfl (lv_at hl 1 rfl) ?_
        refine va_get (D := D) (ci := 9) (v := .ref (g 0)) (C := RX9) (T := TX9) (N := 37) hx hb htg gRX9 hown hK hP 2 rfl rfl 1 (by decide) (htg _ wi_1151) (fun _ h9 => h9) rfl dX9_judge_57 ?_
        refine lv_iconst (v := 0) hx hb dX9_judge_60 (by decide) ?_
        refine va_iald hx hb hK hP 3 0 rfl rfl (by unfold vp_in; decide) dX9_judge_61 ?_
        refine lv_topi (fun z_15 ez_15 => ?_)
        have iz_15 : 0 ≤ z_15.toInt ∧ z_15.toInt ≤ 16 := by rw [ez_15]; exact rd0 qr_14_0 (by decide) rfl
        have nz_15 : z_15.toInt = ((u_13.2.2.1) 0).toInt := by rw [ez_15]; rfl
        refine lv_if_ne (tgt := 69) hx hb dX9_judge_62 (by decide) (fun c_16 => ?_) (fun c_16 => ?_)
        · have ic_16 : ¬ z_15.toInt = 0 := ine c_16 (rfl) (by decide)
          refine lv_aload_n hx hb dX9_judge_69 rfl (lv_at hl 1 rfl) ?_
          refine va_get (D := D) (ci := 9) (v := .ref (g 0)) (C := RX9) (T := TX9) (N := 37) hx hb htg gRX9 hown hK hP 2 rfl rfl 1 (by decide) (htg _ wi_1151) (fun _ h9 => h9) rfl dX9_judge_70 ?_
          refine lv_iconst (v := 2) hx hb dX9_judge_73 (by decide) ?_
          refine va_iald hx hb hK hP 3 0 rfl rfl (by unfold vp_in; decide) dX9_judge_74 ?_
          refine lv_topi (fun z_17 ez_17 => ?_)
          have iz_17 : 0 ≤ z_17.toInt ∧ z_17.toInt ≤ 15 := by rw [ez_17]; exact rd2 qr_14_0 (by decide) rfl
          have nz_17 : z_17.toInt = ((u_13.2.2.1) 2).toInt := by rw [ez_17]; rfl
          refine lv_istore (lv' := [(4, .int z_17), (3, .int r_14), (0, .ref h0), (1, .int x), (2, .int y)]) hx hb dX9_judge_75 hl (by decide) rfl (fun ls hl => ?_)
          refine lv_aload_n hx hb dX9_judge_77 rfl (lv_at hl 2 rfl) ?_
          refine lv_iconst (v := 0) hx hb dX9_judge_78 (by decide) ?_
          refine xk_v (wr := [(sw_in cT (g 11) 4 a11), (sw_in cT (g 4) 6 u_13.2.2.2), (sw_in cT (g 12) 4 a12), (sw_lo cT (g 13) 160 a13)]) (xr_V (n := 1) (As := [.int 0]) (rest := []) ⟨hx, hb, hml, hown, htg⟩ hK hN hP hD hS hA [2, 3, 1] rfl (by decide) (m_isAgainK l D cT _ (h0) (g) (0) (b5) (b6) (b7) (b8) (b9) (b10) (b11) (b12) (b13) (b14) (u_13.1) (u_13.2.1) (b19) (b23) (b24) (b25) (b26) (b27) (b29) (b31) (b32) (b33) (by first | assumption | omega | decide | exact Or.inl (by decide) | (intro h9; exact absurd h9 (by decide)) | (intro _; omega) | (intro _; assumption) | (intro _; decide)) (u_13.2.2.1) (by first | assumption | omega | decide | exact Or.inl (by decide) | (intro h9; exact absurd h9 (by decide)) | (intro _; omega) | (intro _; assumption) | (intro _; decide)) (u_11) (by first | assumption | omega | decide | exact Or.inl (by decide) | (intro h9; exact absurd h9 (by decide)) | (intro _; omega) | (intro _; assumption) | (intro _; decide)) (0) (by first | assumption | omega | decide | exact Or.inl (by decide) | (intro h9; exact absurd h9 (by decide)) | (intro _; omega) | (intro _; assumption) | (intro _; decide))) wi_1440 wi_1442 wi_103 wi_131 wi_1443 rfl rfl rfl ⟨rfl, by decide +kernel⟩ ⟨Nat.le_of_ble_eq_true rfl, Nat.le_of_ble_eq_true rfl⟩ rfl hl.1 rfl (Nat.le_of_ble_eq_true rfl) dX9_judge_79 ⟨Nat.le_of_ble_eq_true rfl, Nat.le_of_ble_eq_true rfl⟩) hP hD hS hA [2, 3, 1] [0, 4, 5, 6] rfl rfl (by decide) (by decide) (fun u_18 H locs hwr_19 hP hD hS => ?_)
          obtain ⟨hP, hD⟩ : PD D A [(sw_in cT (g 11) 4 a11), (sw_in cT (g 4) 6 u_13.2.2.2), (sw_in cT (g 12) 4 a12), (sw_lo cT (g 13) 160 a13), (sw_9 h0 g 0 b5 b6 b7 b8 b9 b10 b11 b12 b13 b14 u_13.1 u_13.2.1 b19 b23 b24 b25 b26 b27 b29 b31 b32 b33), (sw_in cT (g 0) 288 u_18), (sw_in cT (g 5) 960 u_11)] _ := ⟨hP, hD⟩
          have qr_19_0 : PI 288 u_18 := hwr_19.1
          have qr_19_1 : AG (96 * 0) u_18 u_11 u_13.2.2.1 := by have h7 := hwr_19.2.1; simp only [show ((0 : Int32)).toInt = 0 from by decide] at h7; exact h7
          have kag_r_19 : KR u_18 a0 := KR_ag qr_19_1 kqr_14_1 (by assumption)
          refine lv_iload_n hx hb dX9_judge_82 rfl (lv_at hl 4 rfl) ?_
          refine lv_if_ne (tgt := 101) hx hb dX9_judge_83 (by decide) (fun c_20 => ?_) (fun c_20 => ?_)
          · have ic_20 : ¬ y.toInt = 0 := ine c_20 (rfl) (by decide)
            refine lv_iload_n hx hb dX9_judge_101 rfl (lv_at hl 4 rfl) ?_
            refine lv_iconst (v := 1) hx hb dX9_judge_102 (by decide) ?_
            refine lv_icmp_ne (tgt := 113) hx hb dX9_judge_103 (by decide) (fun c_21 => ?_) (fun c_21 => ?_)
            · have ic_21 : ¬ y.toInt = 1 := ine c_21 (rfl) (by decide)
              refine lv_iload_n hx hb dX9_judge_113 rfl (lv_at hl 4 rfl) ?_
              refine lv_iconst (v := 2) hx hb dX9_judge_114 (by decide) ?_
              refine lv_icmp_ne (tgt := 125) hx hb dX9_judge_115 (by decide) (fun c_22 => ?_) (fun c_22 => ?_)
              · have ic_22 : ¬ y.toInt = 2 := ine c_22 (rfl) (by decide)
                refine lv_iload hx hb dX9_judge_125 (lv_at hl 0 rfl) ?_
                exact x_iret hx hb hr hlk hP hD hS [4, 5, 1, 6, 0, 2, 3] ((0, u_13.1, u_13.2.1, u_18, u_13.2.2.2, u_11)) rfl (by decide) ⟨by (try dsimp only); first | assumption | omega | decide | exact Or.inl (by decide) | (intro h9; exact absurd h9 (by decide)) | (intro _; omega) | (intro _; assumption) | (intro _; decide), by (try dsimp only); first | assumption | exact KR_rfl _, by (try dsimp only); first | assumption | omega | decide | exact Or.inl (by decide) | (intro h9; exact absurd h9 (by decide)) | (intro _; omega) | (intro _; assumption) | (intro _; decide), trivial⟩ (by decide) (by decide) dX9_judge_127
              · have ic_22 : y.toInt = 2 := ieq c_22 (rfl) (by decide)
                refine lv_aload_n hx hb dX9_judge_118 rfl (lv_at hl 2 rfl) ?_
                refine va_get (D := D) (ci := 9) (v := .int u_13.2.1) (C := RX9) (T := TX9) (N := 37) hx hb htg gRX9 hown hK hP 4 rfl rfl 18 (by decide) (htg _ wi_1168) (fun _ h9 => h9) rfl dX9_judge_119 ?_
                refine lv_goto (tgt := 127) hx hb dX9_judge_122 (by decide) ?_
                exact x_iret hx hb hr hlk hP hD hS [4, 5, 1, 6, 0, 2, 3] ((0, u_13.1, u_13.2.1, u_18, u_13.2.2.2, u_11)) rfl (by decide) ⟨by (try dsimp only); first | assumption | omega | decide | exact Or.inl (by decide) | (intro h9; exact absurd h9 (by decide)) | (intro _; omega) | (intro _; assumption) | (intro _; decide), by (try dsimp only); first | assumption | exact KR_rfl _, by (try dsimp only); first | assumption | omega | decide | exact Or.inl (by decide) | (intro h9; exact absurd h9 (by decide)) | (intro _; omega) | (intro _; assumption) | (intro _; decide), trivial⟩ (by decide) (by decide) dX9_judge_127
            · have ic_21 : y.toInt = 1 := ieq c_21 (rfl) (by decide)
              refine lv_aload_n hx hb dX9_judge_106 rfl (lv_at hl 2 rfl) ?_
              refine va_get (D := D) (ci := 9) (v := .int u_13.1) (C := RX9) (T := TX9) (N := 37) hx hb htg gRX9 hown hK hP 4 rfl rfl 17 (by decide) (htg _ wi_1167) (fun _ h9 => h9) rfl dX9_judge_107 ?_
              refine lv_goto (tgt := 127) hx hb dX9_judge_110 (by decide) ?_
              exact x_iret hx hb hr hlk hP hD hS [4, 5, 1, 6, 0, 2, 3] ((0, u_13.1, u_13.2.1, u_18, u_13.2.2.2, u_11)) rfl (by decide) ⟨by (try dsimp only); first | assumption | omega | decide | exact Or.inl (by decide) | (intro h9; exact absurd h9 (by decide)) | (intro _; omega) | (intro _; assumption) | (intro _; decide), by (try dsimp only); first | assumption | exact KR_rfl _, by (try dsimp only); first | assumption | omega | decide | exact Or.inl (by decide) | (intro h9; exact absurd h9 (by decide)) | (intro _; omega) | (intro _; assumption) | (intro _; decide), trivial⟩ (by decide) (by decide) dX9_judge_127
          · have ic_20 : y.toInt = 0 := ieq c_20 (rfl) (by decide)
            refine lv_aload_n hx hb dX9_judge_86 rfl (lv_at hl 2 rfl) ?_
            refine va_get (D := D) (ci := 9) (v := .int u_13.1) (C := RX9) (T := TX9) (N := 37) hx hb htg gRX9 hown hK hP 4 rfl rfl 17 (by decide) (htg _ wi_1167) (fun _ h9 => h9) rfl dX9_judge_87 ?_
            refine lv_if_ne (tgt := 97) hx hb dX9_judge_90 (by decide) (fun c_23 => ?_) (fun c_23 => ?_)
            · have ic_23 : ¬ (u_13.1).toInt = 0 := ine c_23 (rfl) (by decide)
              refine lv_iload_n hx hb dX9_judge_97 rfl (lv_at hl 1 rfl) ?_
              refine lv_goto (tgt := 127) hx hb dX9_judge_98 (by decide) ?_
              exact x_iret hx hb hr hlk hP hD hS [4, 5, 1, 6, 0, 2, 3] ((0, u_13.1, u_13.2.1, u_18, u_13.2.2.2, u_11)) rfl (by decide) ⟨by (try dsimp only); first | assumption | omega | decide | exact Or.inl (by decide) | (intro h9; exact absurd h9 (by decide)) | (intro _; omega) | (intro _; assumption) | (intro _; decide), by (try dsimp only); first | assumption | exact KR_rfl _, by (try dsimp only); first | assumption | omega | decide | exact Or.inl (by decide) | (intro h9; exact absurd h9 (by decide)) | (intro _; omega) | (intro _; assumption) | (intro _; decide), trivial⟩ (by decide) (by decide) dX9_judge_127
            · have ic_23 : (u_13.1).toInt = 0 := ieq c_23 (rfl) (by decide)
              refine lv_iconst (v := (-1)) hx hb dX9_judge_93 (by decide) ?_
              refine lv_goto (tgt := 127) hx hb dX9_judge_94 (by decide) ?_
              exact x_iret hx hb hr hlk hP hD hS [4, 5, 1, 6, 0, 2, 3] ((0, u_13.1, u_13.2.1, u_18, u_13.2.2.2, u_11)) rfl (by decide) ⟨by (try dsimp only); first | assumption | omega | decide | exact Or.inl (by decide) | (intro h9; exact absurd h9 (by decide)) | (intro _; omega) | (intro _; assumption) | (intro _; decide), by (try dsimp only); first | assumption | exact KR_rfl _, by (try dsimp only); first | assumption | omega | decide | exact Or.inl (by decide) | (intro h9; exact absurd h9 (by decide)) | (intro _; omega) | (intro _; assumption) | (intro _; decide), trivial⟩ (by decide) (by decide) dX9_judge_127
        · have ic_16 : z_15.toInt = 0 := ieq c_16 (rfl) (by decide)
          refine lv_iconst (v := (-1)) hx hb dX9_judge_65 (by decide) ?_
          refine lv_goto (tgt := 75) hx hb dX9_judge_66 (by decide) ?_
          refine lv_istore (lv' := [(4, .int (-1)), (3, .int r_14), (0, .ref h0), (1, .int x), (2, .int y)]) hx hb dX9_judge_75 hl (by decide) rfl (fun ls hl => ?_)
          refine lv_aload_n hx hb dX9_judge_77 rfl (lv_at hl 2 rfl) ?_
          refine lv_iconst (v := 0) hx hb dX9_judge_78 (by decide) ?_
          refine xk_v (wr := [(sw_in cT (g 11) 4 a11), (sw_in cT (g 4) 6 u_13.2.2.2), (sw_in cT (g 12) 4 a12), (sw_lo cT (g 13) 160 a13)]) (xr_V (n := 1) (As := [.int 0]) (rest := []) ⟨hx, hb, hml, hown, htg⟩ hK hN hP hD hS hA [2, 3, 1] rfl (by decide) (m_isAgainK l D cT _ (h0) (g) (0) (b5) (b6) (b7) (b8) (b9) (b10) (b11) (b12) (b13) (b14) (u_13.1) (u_13.2.1) (b19) (b23) (b24) (b25) (b26) (b27) (b29) (b31) (b32) (b33) (by first | assumption | omega | decide | exact Or.inl (by decide) | (intro h9; exact absurd h9 (by decide)) | (intro _; omega) | (intro _; assumption) | (intro _; decide)) (u_13.2.2.1) (by first | assumption | omega | decide | exact Or.inl (by decide) | (intro h9; exact absurd h9 (by decide)) | (intro _; omega) | (intro _; assumption) | (intro _; decide)) (u_11) (by first | assumption | omega | decide | exact Or.inl (by decide) | (intro h9; exact absurd h9 (by decide)) | (intro _; omega) | (intro _; assumption) | (intro _; decide)) (0) (by first | assumption | omega | decide | exact Or.inl (by decide) | (intro h9; exact absurd h9 (by decide)) | (intro _; omega) | (intro _; assumption) | (intro _; decide))) wi_1440 wi_1442 wi_103 wi_131 wi_1443 rfl rfl rfl ⟨rfl, by decide +kernel⟩ ⟨Nat.le_of_ble_eq_true rfl, Nat.le_of_ble_eq_true rfl⟩ rfl hl.1 rfl (Nat.le_of_ble_eq_true rfl) dX9_judge_79 ⟨Nat.le_of_ble_eq_true rfl, Nat.le_of_ble_eq_true rfl⟩) hP hD hS hA [2, 3, 1] [0, 4, 5, 6] rfl rfl (by decide) (by decide) (fun u_24 H locs hwr_25 hP hD hS => ?_)
          obtain ⟨hP, hD⟩ : PD D A [(sw_in cT (g 11) 4 a11), (sw_in cT (g 4) 6 u_13.2.2.2), (sw_in cT (g 12) 4 a12), (sw_lo cT (g 13) 160 a13), (sw_9 h0 g 0 b5 b6 b7 b8 b9 b10 b11 b12 b13 b14 u_13.1 u_13.2.1 b19 b23 b24 b25 b26 b27 b29 b31 b32 b33), (sw_in cT (g 0) 288 u_24), (sw_in cT (g 5) 960 u_11)] _ := ⟨hP, hD⟩
          have qr_25_0 : PI 288 u_24 := hwr_25.1
          have qr_25_1 : AG (96 * 0) u_24 u_11 u_13.2.2.1 := by have h7 := hwr_25.2.1; simp only [show ((0 : Int32)).toInt = 0 from by decide] at h7; exact h7
          have kag_r_25 : KR u_24 a0 := KR_ag qr_25_1 kqr_14_1 (by assumption)
          refine lv_iload_n hx hb dX9_judge_82 rfl (lv_at hl 4 rfl) ?_
          refine lv_if_ne (tgt := 101) hx hb dX9_judge_83 (by decide) (fun c_26 => ?_) (fun c_26 => ?_)
          · have ic_26 : ¬ y.toInt = 0 := ine c_26 (rfl) (by decide)
            refine lv_iload_n hx hb dX9_judge_101 rfl (lv_at hl 4 rfl) ?_
            refine lv_iconst (v := 1) hx hb dX9_judge_102 (by decide) ?_
            refine lv_icmp_ne (tgt := 113) hx hb dX9_judge_103 (by decide) (fun c_27 => ?_) (fun c_27 => ?_)
            · have ic_27 : ¬ y.toInt = 1 := ine c_27 (rfl) (by decide)
              refine lv_iload_n hx hb dX9_judge_113 rfl (lv_at hl 4 rfl) ?_
              refine lv_iconst (v := 2) hx hb dX9_judge_114 (by decide) ?_
              refine lv_icmp_ne (tgt := 125) hx hb dX9_judge_115 (by decide) (fun c_28 => ?_) (fun c_28 => ?_)
              · have ic_28 : ¬ y.toInt = 2 := ine c_28 (rfl) (by decide)
                refine lv_iload hx hb dX9_judge_125 (lv_at hl 0 rfl) ?_
                exact x_iret hx hb hr hlk hP hD hS [4, 5, 1, 6, 0, 2, 3] ((0, u_13.1, u_13.2.1, u_24, u_13.2.2.2, u_11)) rfl (by decide) ⟨by (try dsimp only); first | assumption | omega | decide | exact Or.inl (by decide) | (intro h9; exact absurd h9 (by decide)) | (intro _; omega) | (intro _; assumption) | (intro _; decide), by (try dsimp only); first | assumption | exact KR_rfl _, by (try dsimp only); first | assumption | omega | decide | exact Or.inl (by decide) | (intro h9; exact absurd h9 (by decide)) | (intro _; omega) | (intro _; assumption) | (intro _; decide), trivial⟩ (by decide) (by decide) dX9_judge_127
              · have ic_28 : y.toInt = 2 := ieq c_28 (rfl) (by decide)
                refine lv_aload_n hx hb dX9_judge_118 rfl (lv_at hl 2 rfl) ?_
                refine va_get (D := D) (ci := 9) (v := .int u_13.2.1) (C := RX9) (T := TX9) (N := 37) hx hb htg gRX9 hown hK hP 4 rfl rfl 18 (by decide) (htg _ wi_1168) (fun _ h9 => h9) rfl dX9_judge_119 ?_
                refine lv_goto (tgt := 127) hx hb dX9_judge_122 (by decide) ?_
                exact x_iret hx hb hr hlk hP hD hS [4, 5, 1, 6, 0, 2, 3] ((0, u_13.1, u_13.2.1, u_24, u_13.2.2.2, u_11)) rfl (by decide) ⟨by (try dsimp only); first | assumption | omega | decide | exact Or.inl (by decide) | (intro h9; exact absurd h9 (by decide)) | (intro _; omega) | (intro _; assumption) | (intro _; decide), by (try dsimp only); first | assumption | exact KR_rfl _, by (try dsimp only); first | assumption | omega | decide | exact Or.inl (by decide) | (intro h9; exact absurd h9 (by decide)) | (intro _; omega) | (intro _; assumption) | (intro _; decide), trivial⟩ (by decide) (by decide) dX9_judge_127
            · have ic_27 : y.toInt = 1 := ieq c_27 (rfl) (by decide)
              refine lv_aload_n hx hb dX9_judge_106 rfl (lv_at hl 2 rfl) ?_
              refine va_get (D := D) (ci := 9) (v := .int u_13.1) (C := RX9) (T := TX9) (N := 37) hx hb htg gRX9 hown hK hP 4 rfl rfl 17 (by decide) (htg _ wi_1167) (fun _ h9 => h9) rfl dX9_judge_107 ?_
              refine lv_goto (tgt := 127) hx hb dX9_judge_110 (by decide) ?_
              exact x_iret hx hb hr hlk hP hD hS [4, 5, 1, 6, 0, 2, 3] ((0, u_13.1, u_13.2.1, u_24, u_13.2.2.2, u_11)) rfl (by decide) ⟨by (try dsimp only); first | assumption | omega | decide | exact Or.inl (by decide) | (intro h9; exact absurd h9 (by decide)) | (intro _; omega) | (intro _; assumption) | (intro _; decide), by (try dsimp only); first | assumption | exact KR_rfl _, by (try dsimp only); first | assumption | omega | decide | exact Or.inl (by decide) | (intro h9; exact absurd h9 (by decide)) | (intro _; omega) | (intro _; assumption) | (intro _; decide), trivial⟩ (by decide) (by decide) dX9_judge_127
          · have ic_26 : y.toInt = 0 := ieq c_26 (rfl) (by decide)
            refine lv_aload_n hx hb dX9_judge_86 rfl (lv_at hl 2 rfl) ?_
            refine va_get (D := D) (ci := 9) (v := .int u_13.1) (C := RX9) (T := TX9) (N := 37) hx hb htg gRX9 hown hK hP 4 rfl rfl 17 (by decide) (htg _ wi_1167) (fun _ h9 => h9) rfl dX9_judge_87 ?_
            refine lv_if_ne (tgt := 97) hx hb dX9_judge_90 (by decide) (fun c_29 => ?_) (fun c_29 => ?_)
            · have ic_29 : ¬ (u_13.1).toInt = 0 := ine c_29 (rfl) (by decide)
              refine lv_iload_n hx hb dX9_judge_97 rfl (lv_at hl 1 rfl) ?_
              refine lv_goto (tgt := 127) hx hb dX9_judge_98 (by decide) ?_
              exact x_iret hx hb hr hlk hP hD hS [4, 5, 1, 6, 0, 2, 3] ((0, u_13.1, u_13.2.1, u_24, u_13.2.2.2, u_11)) rfl (by decide) ⟨by (try dsimp only); first | assumption | omega | decide | exact Or.inl (by decide) | (intro h9; exact absurd h9 (by decide)) | (intro _; omega) | (intro _; assumption) | (intro _; decide), by (try dsimp only); first | assumption | exact KR_rfl _, by (try dsimp only); first | assumption | omega | decide | exact Or.inl (by decide) | (intro h9; exact absurd h9 (by decide)) | (intro _; omega) | (intro _; assumption) | (intro _; decide), trivial⟩ (by decide) (by decide) dX9_judge_127
            · have ic_29 : (u_13.1).toInt = 0 := ieq c_29 (rfl) (by decide)
              refine lv_iconst (v := (-1)) hx hb dX9_judge_93 (by decide) ?_
              refine lv_goto (tgt := 127) hx hb dX9_judge_94 (by decide) ?_
              exact x_iret hx hb hr hlk hP hD hS [4, 5, 1, 6, 0, 2, 3] ((0, u_13.1, u_13.2.1, u_24, u_13.2.2.2, u_11)) rfl (by decide) ⟨by (try dsimp only); first | assumption | omega | decide | exact Or.inl (by decide) | (intro h9; exact absurd h9 (by decide)) | (intro _; omega) | (intro _; assumption) | (intro _; decide), by (try dsimp only); first | assumption | exact KR_rfl _, by (try dsimp only); first | assumption | omega | decide | exact Or.inl (by decide) | (intro h9; exact absurd h9 (by decide)) | (intro _; omega) | (intro _; assumption) | (intro _; decide), trivial⟩ (by decide) (by decide) dX9_judge_127
      · have ic_10 : z_9.toInt = (-1) := ieq c_10 (rfl) (by decide)
        refine lv_bipush (v := (-6)) hx hb dX9_judge_42 (by decide) ?_
        exact x_iret hx hb hr hlk hP hD hS [0, 1, 2, 3, 4, 5, 6] ((0, b17, b18, a0, a4, a5)) rfl (by decide) ⟨by (try dsimp only); first | assumption | omega | decide | exact Or.inl (by decide) | (intro h9; exact absurd h9 (by decide)) | (intro _; omega) | (intro _; assumption) | (intro _; decide), by (try dsimp only); first | assumption | exact KR_rfl _, by (try dsimp only); first | assumption | omega | decide | exact Or.inl (by decide) | (intro h9; exact absurd h9 (by decide)) | (intro _; omega) | (intro _; assumption) | (intro _; decide), trivial⟩ (by decide) (by decide) dX9_judge_44
    · have ic_8 : r_7.toInt = 0 := ieq c_8 (rfl) (by decide)
      refine lv_bipush (v := (-2)) hx hb dX9_judge_29 (by decide) ?_
      exact x_iret hx hb hr hlk hP hD hS [0, 1, 2, 3, 4, 5, 6] ((0, b17, b18, a0, a4, a5)) rfl (by decide) ⟨by (try dsimp only); first | assumption | omega | decide | exact Or.inl (by decide) | (intro h9; exact absurd h9 (by decide)) | (intro _; omega) | (intro _; assumption) | (intro _; decide), by (try dsimp only); first | assumption | exact KR_rfl _, by (try dsimp only); first | assumption | omega | decide | exact Or.inl (by decide) | (intro h9; exact absurd h9 (by decide)) | (intro _; omega) | (intro _; assumption) | (intro _; decide), trivial⟩ (by decide) (by decide) dX9_judge_31
set_option maxHeartbeats 4000000 in
set_option maxRecDepth 100000 in
theorem m_performK (l : Launch) (D : va_G) (cT : Nat → ClassId) (sz : Nat) (h0 : Nat) (g : Nat → Nat) (b0 : Int32) (b5 : Int32) (b6 : Int32) (b7 : Int32) (b8 : Int32) (b9 : Int32) (b10 : Int32) (b11 : Int32) (b12 : Int32) (b13 : Int32) (b14 : Int32) (b17 : Int32) (b18 : Int32) (b19 : Int32) (b23 : Int32) (b24 : Int32) (b25 : Int32) (b26 : Int32) (b27 : Int32) (b29 : Int32) (b31 : Int32) (b32 : Int32) (b33 : Int32) (hb5 : 0 ≤ b5.toInt ∧ b5.toInt ≤ 900) (a0 : Nat → Int32) (pa0 : PI 288 a0) (a4 : Nat → Int32) (a11 : Nat → Int32) (a12 : Nat → Int32) (e12 : EL a12 4 0 40) (a13 : Nat → Int64) (x : Int32) : Met l yX9_perform (wsc yX9_perform cX9_perform 2 (some .int)) { frames := 8, cells := 0, slots := 0, locals := 239 } (va_Pc [.ref h0, .int x] (PX D cT sz [(sw_9 h0 g b0 b5 b6 b7 b8 b9 b10 b11 b12 b13 b14 b17 b18 b19 b23 b24 b25 b26 b27 b29 b31 b32 b33), (sw_in cT (g 0) 288 a0), (sw_in cT (g 4) 6 a4), (sw_in cT (g 11) 4 a11), (sw_in cT (g 12) 4 a12), (sw_lo cT (g 13) 160 a13)])) (va_Qi (fun (r : Int32) (u : Int32 × Int32 × Int32 × (Nat → Int32) × (Nat → Int32)) => (PI 288 u.2.2.2.1) ∧ (KR u.2.2.2.1 a0) ∧ (True)) (fun u t => RW D (va_A [(sw_9 h0 g b0 b5 b6 b7 b8 b9 b10 b11 b12 b13 b14 b17 b18 b19 b23 b24 b25 b26 b27 b29 b31 b32 b33), (sw_in cT (g 0) 288 a0), (sw_in cT (g 4) 6 a4), (sw_in cT (g 11) 4 a11), (sw_in cT (g 12) 4 a12), (sw_lo cT (g 13) 160 a13)] sz) ((fun u : Int32 × Int32 × Int32 × (Nat → Int32) × (Nat → Int32) => [(sw_9 h0 g u.1 b5 b6 b7 b8 b9 b10 b11 b12 b13 b14 u.2.1 u.2.2.1 b19 b23 b24 b25 b26 b27 b29 b31 b32 b33), (sw_in cT (g 0) 288 u.2.2.2.1), (sw_in cT (g 4) 6 u.2.2.2.2), (sw_in cT (g 11) 4 a11), (sw_in cT (g 12) 4 a12), (sw_lo cT (g 13) 160 a13)]) u) t) (va_A [(sw_9 h0 g b0 b5 b6 b7 b8 b9 b10 b11 b12 b13 b14 b17 b18 b19 b23 b24 b25 b26 b27 b29 b31 b32 b33), (sw_in cT (g 0) 288 a0), (sw_in cT (g 4) 6 a4), (sw_in cT (g 11) 4 a11), (sw_in cT (g 12) 4 a12), (sw_lo cT (g 13) 160 a13)] sz)) 0 0 (va_A [(sw_9 h0 g b0 b5 b6 b7 b8 b9 b10 b11 b12 b13 b14 b17 b18 b19 b23 b24 b25 b26 b27 b29 b31 b32 b33), (sw_in cT (g 0) 288 a0), (sw_in cT (g 4) 6 a4), (sw_in cT (g 11) 4 a11), (sw_in cT (g 12) 4 a12), (sw_lo cT (g 13) 160 a13)] sz) := by
  refine m_of (y := yX9_perform) (cc := cX9_perform) (nL := 2) (ret := (some .int)) (D := D) (cT := cT) (av := [.ref h0, .int x]) (wi := [(sw_9 h0 g b0 b5 b6 b7 b8 b9 b10 b11 b12 b13 b14 b17 b18 b19 b23 b24 b25 b26 b27 b29 b31 b32 b33), (sw_in cT (g 0) 288 a0), (sw_in cT (g 4) 6 a4), (sw_in cT (g 11) 4 a11), (sw_in cT (g 12) 4 a12), (sw_lo cT (g 13) 160 a13)]) (fun A => va_Qi (fun (r : Int32) (u : Int32 × Int32 × Int32 × (Nat → Int32) × (Nat → Int32)) => (PI 288 u.2.2.2.1) ∧ (KR u.2.2.2.1 a0) ∧ (True)) (fun u t => RW D A ((fun u : Int32 × Int32 × Int32 × (Nat → Int32) × (Nat → Int32) => [(sw_9 h0 g u.1 b5 b6 b7 b8 b9 b10 b11 b12 b13 b14 u.2.1 u.2.2.1 b19 b23 b24 b25 b26 b27 b29 b31 b32 b33), (sw_in cT (g 0) 288 u.2.2.2.1), (sw_in cT (g 4) 6 u.2.2.2.2), (sw_in cT (g 11) 4 a11), (sw_in cT (g 12) 4 a12), (sw_lo cT (g 13) 160 a13)]) u) t) A) (by decide) (Nat.le_of_ble_eq_true rfl) ?_
  intro p e s m below meth c A hx hb hml hown htg hK hN hr hlk hnm hsz hP hD hS hA ls hl
  have hown : s.vm.findClass RX9 = some m.cls := hown
  have hl : lv_has ls 2 [(0, .ref h0), (1, .int x)] := hl
  have tc_m6 : ((-6) : Int32).toInt = (-6) := by decide
  have tc_m2 : ((-2) : Int32).toInt = (-2) := by decide
  have tc_m1 : ((-1) : Int32).toInt = (-1) := by decide
  have tc_0 : (0 : Int32).toInt = 0 := by decide
  refine lv_aload_n hx hb dX9_perform_0 rfl (lv_at hl 0 rfl) ?_
  refine lv_iconst (v := 0) hx hb dX9_perform_1 (by decide) ?_
  refine va_put (D := D) (ci := 9) (v := .int 0) (ty := .int) (C := RX9) (T := TX9) (N := 37) hx hb htg gRX9 tyX9 tyX9_ok nmX9 hown hK hP hD hS 0 rfl rfl 0 (by decide) (htg _ wi_1150) (fun _ h9 => h9) rfl (by decide +kernel) rfl rfl (Nat.le_of_ble_eq_true rfl) dX9_perform_2 (fun H locs hP hD hS => ?_)
  obtain ⟨hP, hD⟩ : PD D A [(sw_9 h0 g 0 b5 b6 b7 b8 b9 b10 b11 b12 b13 b14 b17 b18 b19 b23 b24 b25 b26 b27 b29 b31 b32 b33), (sw_in cT (g 0) 288 a0), (sw_in cT (g 4) 6 a4), (sw_in cT (g 11) 4 a11), (sw_in cT (g 12) 4 a12), (sw_lo cT (g 13) 160 a13)] _ := ⟨hP, hD⟩
  refine lv_iload_n hx hb dX9_perform_5 rfl (lv_at hl 1 rfl) ?_
  refine lv_i2l (v := x.toInt64) hx hb dX9_perform_6 rfl ?_
  refine lv_lconst (v := 0) hx hb dX9_perform_7 (by decide) ?_
  refine lv_ldc2 (v := 3) hx hb hown (htg _ wi_1366) dX9_perform_8 ?_
  have ilw_1 : (x.toInt64).toInt = x.toInt := i2l_i _
  refine xk_i (wr := [(sw_9 h0 g 0 b5 b6 b7 b8 b9 b10 b11 b12 b13 b14 b17 b18 b19 b23 b24 b25 b26 b27 b29 b31 b32 b33), (sw_in cT (g 0) 288 a0), (sw_in cT (g 4) 6 a4), (sw_in cT (g 11) 4 a11), (sw_in cT (g 12) 4 a12), (sw_lo cT (g 13) 160 a13)]) (xr_S (n := 3) (As := [.long x.toInt64, .long 0, .long 3]) (rest := []) ⟨hx, hb, hml, hown, htg⟩ hK hN hP hD hS hA [] rfl (by decide) (m_within l D cT _ (x.toInt64) (0) (3) (x.toInt) (0) (3) (i2l_i _) (by decide) (by decide)) wi_1270 wi_1271 wi_131 wi_1272 ⟨rfl, by decide +kernel⟩ ⟨Nat.le_of_ble_eq_true rfl, Nat.le_of_ble_eq_true rfl⟩ rfl hl.1 rfl (Nat.le_of_ble_eq_true rfl) dX9_perform_11 ⟨Nat.le_of_ble_eq_true rfl, Nat.le_of_ble_eq_true rfl⟩) hP hD hS hA [] [0, 1, 2, 3, 4, 5] rfl rfl (by decide) (by decide) (fun r_3 u_2 H locs hwr_3 hP hD hS => ?_)
  obtain ⟨hP, hD⟩ : PD D A [(sw_9 h0 g 0 b5 b6 b7 b8 b9 b10 b11 b12 b13 b14 b17 b18 b19 b23 b24 b25 b26 b27 b29 b31 b32 b33), (sw_in cT (g 0) 288 a0), (sw_in cT (g 4) 6 a4), (sw_in cT (g 11) 4 a11), (sw_in cT (g 12) 4 a12), (sw_lo cT (g 13) 160 a13)] _ := ⟨hP, hD⟩
  have qr_3_0 : Imp (¬ r_3.toInt = 0) (0 ≤ x.toInt ∧ x.toInt ≤ 3) := hwr_3.1
  have qr_3_1 : r_3 = 0 ∨ r_3 = 1 := hwr_3.2.1
  refine lv_if_ne (tgt := 20) hx hb dX9_perform_14 (by decide) (fun c_4 => ?_) (fun c_4 => ?_)
  · have ic_4 : ¬ r_3.toInt = 0 := ine c_4 (rfl) (by decide)
    have kqr_3_0 : 0 ≤ x.toInt ∧ x.toInt ≤ 3 := qr_3_0 ic_4
    refine lv_aload_n hx hb dX9_perform_20 rfl (lv_at hl 0 rfl) ?_
    refine va_get (D := D) (ci := 9) (v := .ref (g 11)) (C := RX9) (T := TX9) (N := 37) hx hb htg gRX9 hown hK hP 0 rfl rfl 34 (by decide) (htg _ wi_1184) (fun _ h9 => h9) rfl dX9_perform_21 ?_
    refine lv_iload_n hx hb dX9_perform_24 rfl (lv_at hl 1 rfl) ?_
    refine va_iald hx hb hK hP 3 0 rfl rfl (vp_in_iff.mpr (by omega)) dX9_perform_25 ?_
    refine lv_topi (fun z_5 ez_5 => ?_)
    refine lv_iconst (v := (-1)) hx hb dX9_perform_26 (by decide) ?_
    refine lv_icmp_ne (tgt := 35) hx hb dX9_perform_27 (by decide) (fun c_6 => ?_) (fun c_6 => ?_)
    · have ic_6 : ¬ z_5.toInt = (-1) := ine c_6 (rfl) (by decide)
      refine lv_aload_n hx hb dX9_perform_35 rfl (lv_at hl 0 rfl) ?_
      refine lv_iload_n hx hb dX9_perform_36 rfl (lv_at hl 1 rfl) ?_
      refine xk_i (wr := [(sw_in cT (g 11) 4 a11)]) (xr_V (n := 1) (As := [.int x]) (rest := []) ⟨hx, hb, hml, hown, htg⟩ hK hN hP hD hS hA [0, 1, 2, 4, 5] rfl (by decide) (m_movesOfK l D cT _ (h0) (g) (0) (b5) (b6) (b7) (b8) (b9) (b10) (b11) (b12) (b13) (b14) (b17) (b18) (b19) (b23) (b24) (b25) (b26) (b27) (b29) (b31) (b32) (b33) (by first | assumption | omega | decide | exact Or.inl (by decide) | (intro h9; exact absurd h9 (by decide)) | (intro _; omega) | (intro _; assumption) | (intro _; decide)) (a0) (by first | assumption | omega | decide | exact Or.inl (by decide) | (intro h9; exact absurd h9 (by decide)) | (intro _; omega) | (intro _; assumption) | (intro _; decide)) (a4) (a12) (by first | assumption | omega | decide | exact Or.inl (by decide) | (intro h9; exact absurd h9 (by decide)) | (intro _; omega) | (intro _; assumption) | (intro _; decide)) (a13) (x) (by first | assumption | omega | decide | exact Or.inl (by decide) | (intro h9; exact absurd h9 (by decide)) | (intro _; omega) | (intro _; assumption) | (intro _; decide))) wi_1436 wi_1438 wi_102 wi_131 wi_1439 rfl rfl rfl ⟨rfl, by decide +kernel⟩ ⟨Nat.le_of_ble_eq_true rfl, Nat.le_of_ble_eq_true rfl⟩ rfl hl.1 rfl (Nat.le_of_ble_eq_true rfl) dX9_perform_37 ⟨Nat.le_of_ble_eq_true rfl, Nat.le_of_ble_eq_true rfl⟩) hP hD hS hA [0, 1, 2, 4, 5] [3] rfl rfl (by decide) (by decide) (fun r_8 u_7 H locs hwr_8 hP hD hS => ?_)
      obtain ⟨hP, hD⟩ : PD D A [(sw_in cT (g 11) 4 a11), (sw_9 h0 g 0 b5 b6 b7 b8 b9 b10 b11 b12 b13 b14 u_7.1 u_7.2.1 b19 b23 b24 b25 b26 b27 b29 b31 b32 b33), (sw_in cT (g 0) 288 u_7.2.2.1), (sw_in cT (g 4) 6 u_7.2.2.2), (sw_in cT (g 12) 4 a12), (sw_lo cT (g 13) 160 a13)] _ := ⟨hP, hD⟩
      have qr_8_0 : PI 288 u_7.2.2.1 := hwr_8.1
      have qr_8_1 : KR u_7.2.2.1 a0 := hwr_8.2.1
      have kqr_8_1 : KR u_7.2.2.1 (a0) := KR_tr qr_8_1 (KR_rfl a0)
      exact x_iret hx hb hr hlk hP hD hS [1, 2, 3, 0, 4, 5] ((0, u_7.1, u_7.2.1, u_7.2.2.1, u_7.2.2.2)) rfl (by decide) ⟨by (try dsimp only); first | assumption | omega | decide | exact Or.inl (by decide) | (intro h9; exact absurd h9 (by decide)) | (intro _; omega) | (intro _; assumption) | (intro _; decide), by (try dsimp only); first | assumption | exact KR_rfl _, trivial⟩ (by decide) (by decide) dX9_perform_40
    · have ic_6 : z_5.toInt = (-1) := ieq c_6 (rfl) (by decide)
      refine lv_bipush (v := (-6)) hx hb dX9_perform_30 (by decide) ?_
      refine lv_goto (tgt := 40) hx hb dX9_perform_32 (by decide) ?_
      exact x_iret hx hb hr hlk hP hD hS [0, 1, 2, 3, 4, 5] ((0, b17, b18, a0, a4)) rfl (by decide) ⟨by (try dsimp only); first | assumption | omega | decide | exact Or.inl (by decide) | (intro h9; exact absurd h9 (by decide)) | (intro _; omega) | (intro _; assumption) | (intro _; decide), by (try dsimp only); first | assumption | exact KR_rfl _, trivial⟩ (by decide) (by decide) dX9_perform_40
  · have ic_4 : r_3.toInt = 0 := ieq c_4 (rfl) (by decide)
    refine lv_bipush (v := (-2)) hx hb dX9_perform_17 (by decide) ?_
    exact x_iret hx hb hr hlk hP hD hS [0, 1, 2, 3, 4, 5] ((0, b17, b18, a0, a4)) rfl (by decide) ⟨by (try dsimp only); first | assumption | omega | decide | exact Or.inl (by decide) | (intro h9; exact absurd h9 (by decide)) | (intro _; omega) | (intro _; assumption) | (intro _; decide), by (try dsimp only); first | assumption | exact KR_rfl _, trivial⟩ (by decide) (by decide) dX9_perform_19
set_option maxHeartbeats 4000000 in
set_option maxRecDepth 100000 in
theorem m_fillK (l : Launch) (D : va_G) (cT : Nat → ClassId) (sz : Nat) (h0 : Nat) (g : Nat → Nat) (b0 : Int32) (b5 : Int32) (b6 : Int32) (b7 : Int32) (b8 : Int32) (b9 : Int32) (b10 : Int32) (b11 : Int32) (b12 : Int32) (b13 : Int32) (b14 : Int32) (b17 : Int32) (b18 : Int32) (b19 : Int32) (b23 : Int32) (b24 : Int32) (b25 : Int32) (b26 : Int32) (b27 : Int32) (b29 : Int32) (b31 : Int32) (b32 : Int32) (b33 : Int32) (hb5 : 0 ≤ b5.toInt ∧ b5.toInt ≤ 900) (a0 : Nat → Int32) (pa0 : PI 288 a0) (x : Int32) : Met l yX9_fill (wsc yX9_fill cX9_fill 2 (some .int)) { frames := 3, cells := 0, slots := 0, locals := 125 } (va_Pc [.ref h0, .int x] (PX D cT sz [(sw_9 h0 g b0 b5 b6 b7 b8 b9 b10 b11 b12 b13 b14 b17 b18 b19 b23 b24 b25 b26 b27 b29 b31 b32 b33), (sw_in cT (g 0) 288 a0)])) (va_Qi (fun (r : Int32) (u : Int32 × (Nat → Int32)) => (PI 288 u.2) ∧ (KR u.2 a0) ∧ (True)) (fun u t => RW D (va_A [(sw_9 h0 g b0 b5 b6 b7 b8 b9 b10 b11 b12 b13 b14 b17 b18 b19 b23 b24 b25 b26 b27 b29 b31 b32 b33), (sw_in cT (g 0) 288 a0)] sz) ((fun u : Int32 × (Nat → Int32) => [(sw_9 h0 g u.1 b5 b6 b7 b8 b9 b10 b11 b12 b13 b14 b17 b18 b19 b23 b24 b25 b26 b27 b29 b31 b32 b33), (sw_in cT (g 0) 288 u.2)]) u) t) (va_A [(sw_9 h0 g b0 b5 b6 b7 b8 b9 b10 b11 b12 b13 b14 b17 b18 b19 b23 b24 b25 b26 b27 b29 b31 b32 b33), (sw_in cT (g 0) 288 a0)] sz)) 0 0 (va_A [(sw_9 h0 g b0 b5 b6 b7 b8 b9 b10 b11 b12 b13 b14 b17 b18 b19 b23 b24 b25 b26 b27 b29 b31 b32 b33), (sw_in cT (g 0) 288 a0)] sz) := by
  refine m_of (y := yX9_fill) (cc := cX9_fill) (nL := 2) (ret := (some .int)) (D := D) (cT := cT) (av := [.ref h0, .int x]) (wi := [(sw_9 h0 g b0 b5 b6 b7 b8 b9 b10 b11 b12 b13 b14 b17 b18 b19 b23 b24 b25 b26 b27 b29 b31 b32 b33), (sw_in cT (g 0) 288 a0)]) (fun A => va_Qi (fun (r : Int32) (u : Int32 × (Nat → Int32)) => (PI 288 u.2) ∧ (KR u.2 a0) ∧ (True)) (fun u t => RW D A ((fun u : Int32 × (Nat → Int32) => [(sw_9 h0 g u.1 b5 b6 b7 b8 b9 b10 b11 b12 b13 b14 b17 b18 b19 b23 b24 b25 b26 b27 b29 b31 b32 b33), (sw_in cT (g 0) 288 u.2)]) u) t) A) (by decide) (Nat.le_of_ble_eq_true rfl) ?_
  intro p e s m below meth c A hx hb hml hown htg hK hN hr hlk hnm hsz hP hD hS hA ls hl
  have hown : s.vm.findClass RX9 = some m.cls := hown
  have hl : lv_has ls 2 [(0, .ref h0), (1, .int x)] := hl
  have tc_m3 : ((-3) : Int32).toInt = (-3) := by decide
  have tc_0 : (0 : Int32).toInt = 0 := by decide
  have tc_6 : (6 : Int32).toInt = 6 := by decide
  have tc_999 : (999 : Int32).toInt = 999 := by decide
  refine lv_aload_n hx hb dX9_fill_0 rfl (lv_at hl 0 rfl) ?_
  refine lv_iconst (v := 0) hx hb dX9_fill_1 (by decide) ?_
  refine va_put (D := D) (ci := 9) (v := .int 0) (ty := .int) (C := RX9) (T := TX9) (N := 37) hx hb htg gRX9 tyX9 tyX9_ok nmX9 hown hK hP hD hS 0 rfl rfl 0 (by decide) (htg _ wi_1150) (fun _ h9 => h9) rfl (by decide +kernel) rfl rfl (Nat.le_of_ble_eq_true rfl) dX9_fill_2 (fun H locs hP hD hS => ?_)
  obtain ⟨hP, hD⟩ : PD D A [(sw_9 h0 g 0 b5 b6 b7 b8 b9 b10 b11 b12 b13 b14 b17 b18 b19 b23 b24 b25 b26 b27 b29 b31 b32 b33), (sw_in cT (g 0) 288 a0)] _ := ⟨hP, hD⟩
  refine lv_iload_n hx hb dX9_fill_5 rfl (lv_at hl 1 rfl) ?_
  refine lv_i2l (v := x.toInt64) hx hb dX9_fill_6 rfl ?_
  refine lv_lconst (v := 0) hx hb dX9_fill_7 (by decide) ?_
  refine lv_ldc2 (v := 99) hx hb hown (htg _ wi_1452) dX9_fill_8 ?_
  have ilw_1 : (x.toInt64).toInt = x.toInt := i2l_i _
  refine xk_i (wr := [(sw_9 h0 g 0 b5 b6 b7 b8 b9 b10 b11 b12 b13 b14 b17 b18 b19 b23 b24 b25 b26 b27 b29 b31 b32 b33), (sw_in cT (g 0) 288 a0)]) (xr_S (n := 3) (As := [.long x.toInt64, .long 0, .long 99]) (rest := []) ⟨hx, hb, hml, hown, htg⟩ hK hN hP hD hS hA [] rfl (by decide) (m_within l D cT _ (x.toInt64) (0) (99) (x.toInt) (0) (99) (i2l_i _) (by decide) (by decide)) wi_1270 wi_1271 wi_131 wi_1272 ⟨rfl, by decide +kernel⟩ ⟨Nat.le_of_ble_eq_true rfl, Nat.le_of_ble_eq_true rfl⟩ rfl hl.1 rfl (Nat.le_of_ble_eq_true rfl) dX9_fill_11 ⟨Nat.le_of_ble_eq_true rfl, Nat.le_of_ble_eq_true rfl⟩) hP hD hS hA [] [0, 1] rfl rfl (by decide) (by decide) (fun r_3 u_2 H locs hwr_3 hP hD hS => ?_)
  obtain ⟨hP, hD⟩ : PD D A [(sw_9 h0 g 0 b5 b6 b7 b8 b9 b10 b11 b12 b13 b14 b17 b18 b19 b23 b24 b25 b26 b27 b29 b31 b32 b33), (sw_in cT (g 0) 288 a0)] _ := ⟨hP, hD⟩
  have qr_3_0 : Imp (¬ r_3.toInt = 0) (0 ≤ x.toInt ∧ x.toInt ≤ 99) := hwr_3.1
  have qr_3_1 : r_3 = 0 ∨ r_3 = 1 := hwr_3.2.1
  refine lv_if_ne (tgt := 20) hx hb dX9_fill_14 (by decide) (fun c_4 => ?_) (fun c_4 => ?_)
  · have ic_4 : ¬ r_3.toInt = 0 := ine c_4 (rfl) (by decide)
    have kqr_3_0 : 0 ≤ x.toInt ∧ x.toInt ≤ 99 := qr_3_0 ic_4
    refine lv_aload_n hx hb dX9_fill_20 rfl (lv_at hl 0 rfl) ?_
    refine va_get (D := D) (ci := 9) (v := .ref (g 0)) (C := RX9) (T := TX9) (N := 37) hx hb htg gRX9 hown hK hP 0 rfl rfl 1 (by decide) (htg _ wi_1151) (fun _ h9 => h9) rfl dX9_fill_21 ?_
    refine lv_bipush (v := 6) hx hb dX9_fill_24 (by decide) ?_
    refine lv_aload_n hx hb dX9_fill_26 rfl (lv_at hl 0 rfl) ?_
    refine va_get (D := D) (ci := 9) (v := .ref (g 0)) (C := RX9) (T := TX9) (N := 37) hx hb htg gRX9 hown hK hP 0 rfl rfl 1 (by decide) (htg _ wi_1151) (fun _ h9 => h9) rfl dX9_fill_27 ?_
    refine lv_bipush (v := 6) hx hb dX9_fill_30 (by decide) ?_
    refine va_iald hx hb hK hP 1 0 rfl rfl (by unfold vp_in; decide) dX9_fill_32 ?_
    refine lv_topi (fun z_5 ez_5 => ?_)
    have iz_5 : 0 ≤ z_5.toInt ∧ z_5.toInt ≤ 999 := by rw [ez_5]; exact rd6 pa0 (by decide) rfl
    have nz_5 : z_5.toInt = ((a0) 6).toInt := by rw [ez_5]; rfl
    refine lv_iload_n hx hb dX9_fill_33 rfl (lv_at hl 1 rfl) ?_
    refine lv_iadd hx hb dX9_fill_34 ?_
    refine lv_topi (fun z_6 ez_6 => ?_)
    have iz_6 : z_6.toInt = z_5.toInt + x.toInt := toInt_addI ez_6 (rfl) (rfl) (by omega)
    refine lv_sipush (v := 999) hx hb dX9_fill_35 (by decide) ?_
    refine lv_icmp_le (tgt := 47) hx hb dX9_fill_38 (by decide) (fun c_7 => ?_) (fun c_7 => ?_)
    · have ic_7 : z_6.toInt ≤ 999 := ile c_7 (rfl) (by decide)
      refine lv_aload_n hx hb dX9_fill_47 rfl (lv_at hl 0 rfl) ?_
      refine va_get (D := D) (ci := 9) (v := .ref (g 0)) (C := RX9) (T := TX9) (N := 37) hx hb htg gRX9 hown hK hP 0 rfl rfl 1 (by decide) (htg _ wi_1151) (fun _ h9 => h9) rfl dX9_fill_48 ?_
      refine lv_bipush (v := 6) hx hb dX9_fill_51 (by decide) ?_
      refine va_iald hx hb hK hP 1 0 rfl rfl (by unfold vp_in; decide) dX9_fill_53 ?_
      refine lv_topi (fun z_8 ez_8 => ?_)
      have iz_8 : 0 ≤ z_8.toInt ∧ z_8.toInt ≤ 999 := by rw [ez_8]; exact rd6 pa0 (by decide) rfl
      have nz_8 : z_8.toInt = ((a0) 6).toInt := by rw [ez_8]; rfl
      refine lv_iload_n hx hb dX9_fill_54 rfl (lv_at hl 1 rfl) ?_
      refine lv_iadd hx hb dX9_fill_55 ?_
      refine lv_topi (fun z_9 ez_9 => ?_)
      have iz_9 : z_9.toInt = z_8.toInt + x.toInt := toInt_addI ez_9 (rfl) (rfl) (by omega)
      refine va_iast hx hb hK hP hD hS 1 0 rfl rfl (by unfold vp_in; decide) dX9_fill_56 (fun H locs hP hD hS => ?_)
      obtain ⟨f_10, ef_10, hP, hD⟩ : ∃ f_10 : Nat → Int32, f_10 = upd (a0) (6 : Int32).toNatClampNeg z_9 ∧ PD D A [(sw_9 h0 g 0 b5 b6 b7 b8 b9 b10 b11 b12 b13 b14 b17 b18 b19 b23 b24 b25 b26 b27 b29 b31 b32 b33), (sw_in cT (g 0) 288 f_10)] H := ⟨_, rfl, hP, hD⟩
      have qf_10 : PI 288 f_10 := by rw [ef_10]; exact pi_upd (a := 6) (b := z_9.toInt) pa0 (by decide) (rfl) (by omega) (by unfold OKP; omega)
      have kf_10 : KR f_10 (a0) := KR_upd (a := 6) (KR_rfl a0) ef_10 (by decide) (by omega) (by unfold NRP; omega)
      refine lv_aload_n hx hb dX9_fill_57 rfl (lv_at hl 0 rfl) ?_
      refine va_get (D := D) (ci := 9) (v := .ref (g 0)) (C := RX9) (T := TX9) (N := 37) hx hb htg gRX9 hown hK hP 0 rfl rfl 1 (by decide) (htg _ wi_1151) (fun _ h9 => h9) rfl dX9_fill_58 ?_
      refine lv_bipush (v := 6) hx hb dX9_fill_61 (by decide) ?_
      refine va_iald hx hb hK hP 1 0 rfl rfl (by unfold vp_in; decide) dX9_fill_63 ?_
      refine lv_topi (fun z_11 ez_11 => ?_)
      have iz_11 : 0 ≤ z_11.toInt ∧ z_11.toInt ≤ 999 := by rw [ez_11]; exact rd6 qf_10 (by decide) rfl
      have nz_11 : z_11.toInt = ((f_10) 6).toInt := by rw [ez_11]; rfl
      exact x_iret hx hb hr hlk hP hD hS [0, 1] ((0, f_10)) rfl (by decide) ⟨by (try dsimp only); first | assumption | omega | decide | exact Or.inl (by decide) | (intro h9; exact absurd h9 (by decide)) | (intro _; omega) | (intro _; assumption) | (intro _; decide), by (try dsimp only); first | assumption | exact KR_rfl _, trivial⟩ (by decide) (by decide) dX9_fill_64
    · have ic_7 : 999 < z_6.toInt := inle c_7 (rfl) (by decide)
      refine lv_sipush (v := 999) hx hb dX9_fill_41 (by decide) ?_
      refine lv_goto (tgt := 56) hx hb dX9_fill_44 (by decide) ?_
      refine va_iast hx hb hK hP hD hS 1 0 rfl rfl (by unfold vp_in; decide) dX9_fill_56 (fun H locs hP hD hS => ?_)
      obtain ⟨f_12, ef_12, hP, hD⟩ : ∃ f_12 : Nat → Int32, f_12 = upd (a0) (6 : Int32).toNatClampNeg 999 ∧ PD D A [(sw_9 h0 g 0 b5 b6 b7 b8 b9 b10 b11 b12 b13 b14 b17 b18 b19 b23 b24 b25 b26 b27 b29 b31 b32 b33), (sw_in cT (g 0) 288 f_12)] H := ⟨_, rfl, hP, hD⟩
      have qf_12 : PI 288 f_12 := by rw [ef_12]; exact pi_upd (a := 6) (b := 999) pa0 (by decide) (by decide) (by omega) (by unfold OKP; omega)
      have kf_12 : KR f_12 (a0) := KR_upd (a := 6) (KR_rfl a0) ef_12 (by decide) (by omega) (by unfold NRP; omega)
      refine lv_aload_n hx hb dX9_fill_57 rfl (lv_at hl 0 rfl) ?_
      refine va_get (D := D) (ci := 9) (v := .ref (g 0)) (C := RX9) (T := TX9) (N := 37) hx hb htg gRX9 hown hK hP 0 rfl rfl 1 (by decide) (htg _ wi_1151) (fun _ h9 => h9) rfl dX9_fill_58 ?_
      refine lv_bipush (v := 6) hx hb dX9_fill_61 (by decide) ?_
      refine va_iald hx hb hK hP 1 0 rfl rfl (by unfold vp_in; decide) dX9_fill_63 ?_
      refine lv_topi (fun z_13 ez_13 => ?_)
      have iz_13 : 0 ≤ z_13.toInt ∧ z_13.toInt ≤ 999 := by rw [ez_13]; exact rd6 qf_12 (by decide) rfl
      have nz_13 : z_13.toInt = ((f_12) 6).toInt := by rw [ez_13]; rfl
      exact x_iret hx hb hr hlk hP hD hS [0, 1] ((0, f_12)) rfl (by decide) ⟨by (try dsimp only); first | assumption | omega | decide | exact Or.inl (by decide) | (intro h9; exact absurd h9 (by decide)) | (intro _; omega) | (intro _; assumption) | (intro _; decide), by (try dsimp only); first | assumption | exact KR_rfl _, trivial⟩ (by decide) (by decide) dX9_fill_64
  · have ic_4 : r_3.toInt = 0 := ieq c_4 (rfl) (by decide)
    refine lv_bipush (v := (-3)) hx hb dX9_fill_17 (by decide) ?_
    exact x_iret hx hb hr hlk hP hD hS [0, 1] ((0, a0)) rfl (by decide) ⟨by (try dsimp only); first | assumption | omega | decide | exact Or.inl (by decide) | (intro h9; exact absurd h9 (by decide)) | (intro _; omega) | (intro _; assumption) | (intro _; decide), by (try dsimp only); first | assumption | exact KR_rfl _, trivial⟩ (by decide) (by decide) dX9_fill_19
set_option maxHeartbeats 4000000 in
set_option maxRecDepth 100000 in
theorem m_nightK (l : Launch) (D : va_G) (cT : Nat → ClassId) (sz : Nat) (h0 : Nat) (g : Nat → Nat) (b0 : Int32) (b5 : Int32) (b6 : Int32) (b7 : Int32) (b8 : Int32) (b9 : Int32) (b10 : Int32) (b11 : Int32) (b12 : Int32) (b13 : Int32) (b14 : Int32) (b17 : Int32) (b18 : Int32) (b19 : Int32) (b23 : Int32) (b24 : Int32) (b25 : Int32) (b26 : Int32) (b27 : Int32) (b29 : Int32) (b31 : Int32) (b32 : Int32) (b33 : Int32) (hb5 : 0 ≤ b5.toInt ∧ b5.toInt ≤ 900) (a0 : Nat → Int32) (pa0 : PI 288 a0) (a4 : Nat → Int32) (x : Int32) (y : Int32) : Met l yX9_night (wsc yX9_night cX9_night 7 (some .int)) { frames := 7, cells := 0, slots := 0, locals := 217 } (va_Pc [.ref h0, .int x, .int y] (PX D cT sz [(sw_9 h0 g b0 b5 b6 b7 b8 b9 b10 b11 b12 b13 b14 b17 b18 b19 b23 b24 b25 b26 b27 b29 b31 b32 b33), (sw_in cT (g 0) 288 a0), (sw_in cT (g 4) 6 a4)])) (va_Qi (fun (r : Int32) (u : Int32 × Int32 × (Nat → Int32) × (Nat → Int32)) => (PI 288 u.2.2.1) ∧ (KR u.2.2.1 a0) ∧ (True)) (fun u t => RW D (va_A [(sw_9 h0 g b0 b5 b6 b7 b8 b9 b10 b11 b12 b13 b14 b17 b18 b19 b23 b24 b25 b26 b27 b29 b31 b32 b33), (sw_in cT (g 0) 288 a0), (sw_in cT (g 4) 6 a4)] sz) ((fun u : Int32 × Int32 × (Nat → Int32) × (Nat → Int32) => [(sw_9 h0 g u.1 b5 b6 b7 b8 b9 b10 b11 b12 b13 b14 b17 b18 u.2.1 b23 b24 b25 b26 b27 b29 b31 b32 b33), (sw_in cT (g 0) 288 u.2.2.1), (sw_in cT (g 4) 6 u.2.2.2)]) u) t) (va_A [(sw_9 h0 g b0 b5 b6 b7 b8 b9 b10 b11 b12 b13 b14 b17 b18 b19 b23 b24 b25 b26 b27 b29 b31 b32 b33), (sw_in cT (g 0) 288 a0), (sw_in cT (g 4) 6 a4)] sz)) 0 0 (va_A [(sw_9 h0 g b0 b5 b6 b7 b8 b9 b10 b11 b12 b13 b14 b17 b18 b19 b23 b24 b25 b26 b27 b29 b31 b32 b33), (sw_in cT (g 0) 288 a0), (sw_in cT (g 4) 6 a4)] sz) := by
  refine m_of (y := yX9_night) (cc := cX9_night) (nL := 7) (ret := (some .int)) (D := D) (cT := cT) (av := [.ref h0, .int x, .int y]) (wi := [(sw_9 h0 g b0 b5 b6 b7 b8 b9 b10 b11 b12 b13 b14 b17 b18 b19 b23 b24 b25 b26 b27 b29 b31 b32 b33), (sw_in cT (g 0) 288 a0), (sw_in cT (g 4) 6 a4)]) (fun A => va_Qi (fun (r : Int32) (u : Int32 × Int32 × (Nat → Int32) × (Nat → Int32)) => (PI 288 u.2.2.1) ∧ (KR u.2.2.1 a0) ∧ (True)) (fun u t => RW D A ((fun u : Int32 × Int32 × (Nat → Int32) × (Nat → Int32) => [(sw_9 h0 g u.1 b5 b6 b7 b8 b9 b10 b11 b12 b13 b14 b17 b18 u.2.1 b23 b24 b25 b26 b27 b29 b31 b32 b33), (sw_in cT (g 0) 288 u.2.2.1), (sw_in cT (g 4) 6 u.2.2.2)]) u) t) A) (by decide) (Nat.le_of_ble_eq_true rfl) ?_
  intro p e s m below meth c A hx hb hml hown htg hK hN hr hlk hnm hsz hP hD hS hA ls hl
  have hown : s.vm.findClass RX9 = some m.cls := hown
  have hl : lv_has ls 7 [(0, .ref h0), (1, .int x), (2, .int y)] := hl
  have tc_m5 : ((-5) : Int32).toInt = (-5) := by decide
  have tc_m3 : ((-3) : Int32).toInt = (-3) := by decide
  have tc_0 : (0 : Int32).toInt = 0 := by decide
  have tc_1 : (1 : Int32).toInt = 1 := by decide
  have tc_3 : (3 : Int32).toInt = 3 := by decide
  have tc_6 : (6 : Int32).toInt = 6 := by decide
  have tc_7 : (7 : Int32).toInt = 7 := by decide
  have tc_100 : (100 : Int32).toInt = 100 := by decide
  have tc_9999 : (9999 : Int32).toInt = 9999 := by decide
  refine lv_aload_n hx hb dX9_night_0 rfl (lv_at hl 0 rfl) ?_
  refine lv_iconst (v := 0) hx hb dX9_night_1 (by decide) ?_
  refine va_put (D := D) (ci := 9) (v := .int 0) (ty := .int) (C := RX9) (T := TX9) (N := 37) hx hb htg gRX9 tyX9 tyX9_ok nmX9 hown hK hP hD hS 0 rfl rfl 0 (by decide) (htg _ wi_1150) (fun _ h9 => h9) rfl (by decide +kernel) rfl rfl (Nat.le_of_ble_eq_true rfl) dX9_night_2 (fun H locs hP hD hS => ?_)
  obtain ⟨hP, hD⟩ : PD D A [(sw_9 h0 g 0 b5 b6 b7 b8 b9 b10 b11 b12 b13 b14 b17 b18 b19 b23 b24 b25 b26 b27 b29 b31 b32 b33), (sw_in cT (g 0) 288 a0), (sw_in cT (g 4) 6 a4)] _ := ⟨hP, hD⟩
  refine lv_iload_n hx hb dX9_night_5 rfl (lv_at hl 2 rfl) ?_
  refine lv_i2l (v := y.toInt64) hx hb dX9_night_6 rfl ?_
  refine lv_lconst (v := 1) hx hb dX9_night_7 (by decide) ?_
  refine lv_ldc2 (v := 60) hx hb hown (htg _ wi_1457) dX9_night_8 ?_
  have ilw_1 : (y.toInt64).toInt = y.toInt := i2l_i _
  refine xk_i (wr := [(sw_9 h0 g 0 b5 b6 b7 b8 b9 b10 b11 b12 b13 b14 b17 b18 b19 b23 b24 b25 b26 b27 b29 b31 b32 b33), (sw_in cT (g 0) 288 a0), (sw_in cT (g 4) 6 a4)]) (xr_S (n := 3) (As := [.long y.toInt64, .long 1, .long 60]) (rest := []) ⟨hx, hb, hml, hown, htg⟩ hK hN hP hD hS hA [] rfl (by decide) (m_within l D cT _ (y.toInt64) (1) (60) (y.toInt) (1) (60) (i2l_i _) (by decide) (by decide)) wi_1270 wi_1271 wi_131 wi_1272 ⟨rfl, by decide +kernel⟩ ⟨Nat.le_of_ble_eq_true rfl, Nat.le_of_ble_eq_true rfl⟩ rfl hl.1 rfl (Nat.le_of_ble_eq_true rfl) dX9_night_11 ⟨Nat.le_of_ble_eq_true rfl, Nat.le_of_ble_eq_true rfl⟩) hP hD hS hA [] [0, 1, 2] rfl rfl (by decide) (by decide) (fun r_3 u_2 H locs hwr_3 hP hD hS => ?_)
  obtain ⟨hP, hD⟩ : PD D A [(sw_9 h0 g 0 b5 b6 b7 b8 b9 b10 b11 b12 b13 b14 b17 b18 b19 b23 b24 b25 b26 b27 b29 b31 b32 b33), (sw_in cT (g 0) 288 a0), (sw_in cT (g 4) 6 a4)] _ := ⟨hP, hD⟩
  have qr_3_0 : Imp (¬ r_3.toInt = 0) (1 ≤ y.toInt ∧ y.toInt ≤ 60) := hwr_3.1
  have qr_3_1 : r_3 = 0 ∨ r_3 = 1 := hwr_3.2.1
  refine lv_if_ne (tgt := 20) hx hb dX9_night_14 (by decide) (fun c_4 => ?_) (fun c_4 => ?_)
  · have ic_4 : ¬ r_3.toInt = 0 := ine c_4 (rfl) (by decide)
    have kqr_3_0 : 1 ≤ y.toInt ∧ y.toInt ≤ 60 := qr_3_0 ic_4
    refine lv_aload_n hx hb dX9_night_20 rfl (lv_at hl 0 rfl) ?_
    refine va_get (D := D) (ci := 9) (v := .ref (g 0)) (C := RX9) (T := TX9) (N := 37) hx hb htg gRX9 hown hK hP 0 rfl rfl 1 (by decide) (htg _ wi_1151) (fun _ h9 => h9) rfl dX9_night_21 ?_
    refine lv_iconst (v := 0) hx hb dX9_night_24 (by decide) ?_
    refine va_iald hx hb hK hP 1 0 rfl rfl (by unfold vp_in; decide) dX9_night_25 ?_
    refine lv_topi (fun z_5 ez_5 => ?_)
    have iz_5 : 0 ≤ z_5.toInt ∧ z_5.toInt ≤ 16 := by rw [ez_5]; exact rd0 pa0 (by decide) rfl
    have nz_5 : z_5.toInt = ((a0) 0).toInt := by rw [ez_5]; rfl
    refine lv_if_eq (tgt := 53) hx hb dX9_night_26 (by decide) (fun c_6 => ?_) (fun c_6 => ?_)
    · have ic_6 : z_5.toInt = 0 := ieq c_6 (rfl) (by decide)
      refine lv_bipush (v := (-5)) hx hb dX9_night_53 (by decide) ?_
      exact x_iret hx hb hr hlk hP hD hS [0, 1, 2] ((0, b19, a0, a4)) rfl (by decide) ⟨by (try dsimp only); first | assumption | omega | decide | exact Or.inl (by decide) | (intro h9; exact absurd h9 (by decide)) | (intro _; omega) | (intro _; assumption) | (intro _; decide), by (try dsimp only); first | assumption | exact KR_rfl _, trivial⟩ (by decide) (by decide) dX9_night_55
    · have ic_6 : ¬ z_5.toInt = 0 := ine c_6 (rfl) (by decide)
      refine lv_aload_n hx hb dX9_night_29 rfl (lv_at hl 0 rfl) ?_
      refine va_get (D := D) (ci := 9) (v := .ref (g 0)) (C := RX9) (T := TX9) (N := 37) hx hb htg gRX9 hown hK hP 0 rfl rfl 1 (by decide) (htg _ wi_1151) (fun _ h9 => h9) rfl dX9_night_30 ?_
      refine lv_bipush (v := 6) hx hb dX9_night_33 (by decide) ?_
      refine va_iald hx hb hK hP 1 0 rfl rfl (by unfold vp_in; decide) dX9_night_35 ?_
      refine lv_topi (fun z_7 ez_7 => ?_)
      have iz_7 : 0 ≤ z_7.toInt ∧ z_7.toInt ≤ 999 := by rw [ez_7]; exact rd6 pa0 (by decide) rfl
      have nz_7 : z_7.toInt = ((a0) 6).toInt := by rw [ez_7]; rfl
      refine lv_if_eq (tgt := 53) hx hb dX9_night_36 (by decide) (fun c_8 => ?_) (fun c_8 => ?_)
      · have ic_8 : z_7.toInt = 0 := ieq c_8 (rfl) (by decide)
        refine lv_bipush (v := (-5)) hx hb dX9_night_53 (by decide) ?_
        exact x_iret hx hb hr hlk hP hD hS [0, 1, 2] ((0, b19, a0, a4)) rfl (by decide) ⟨by (try dsimp only); first | assumption | omega | decide | exact Or.inl (by decide) | (intro h9; exact absurd h9 (by decide)) | (intro _; omega) | (intro _; assumption) | (intro _; decide), by (try dsimp only); first | assumption | exact KR_rfl _, trivial⟩ (by decide) (by decide) dX9_night_55
      · have ic_8 : ¬ z_7.toInt = 0 := ine c_8 (rfl) (by decide)
        refine lv_aload_n hx hb dX9_night_39 rfl (lv_at hl 0 rfl) ?_
        refine va_get (D := D) (ci := 9) (v := .ref (g 0)) (C := RX9) (T := TX9) (N := 37) hx hb htg gRX9 hown hK hP 0 rfl rfl 1 (by decide) (htg _ wi_1151) (fun _ h9 => h9) rfl dX9_night_40 ?_
        refine lv_iconst (v := 1) hx hb dX9_night_43 (by decide) ?_
        refine va_iald hx hb hK hP 1 0 rfl rfl (by unfold vp_in; decide) dX9_night_44 ?_
        refine lv_topi (fun z_9 ez_9 => ?_)
        have iz_9 : 0 ≤ z_9.toInt ∧ z_9.toInt ≤ 9999 := by rw [ez_9]; exact rd1 pa0 (by decide) rfl
        have nz_9 : z_9.toInt = ((a0) 1).toInt := by rw [ez_9]; rfl
        refine lv_iload_n hx hb dX9_night_45 rfl (lv_at hl 2 rfl) ?_
        refine lv_iadd hx hb dX9_night_46 ?_
        refine lv_topi (fun z_10 ez_10 => ?_)
        have iz_10 : z_10.toInt = z_9.toInt + y.toInt := toInt_addI ez_10 (rfl) (rfl) (by omega)
        refine lv_sipush (v := 9999) hx hb dX9_night_47 (by decide) ?_
        refine lv_icmp_le (tgt := 56) hx hb dX9_night_50 (by decide) (fun c_11 => ?_) (fun c_11 => ?_)
        · have ic_11 : z_10.toInt ≤ 9999 := ile c_11 (rfl) (by decide)
          refine lv_aload_n hx hb dX9_night_56 rfl (lv_at hl 0 rfl) ?_
          refine lv_iload_n hx hb dX9_night_57 rfl (lv_at hl 1 rfl) ?_
          refine va_put (D := D) (ci := 9) (v := .int x) (ty := .int) (C := RX9) (T := TX9) (N := 37) hx hb htg gRX9 tyX9 tyX9_ok nmX9 hown hK hP hD hS 0 rfl rfl 19 (by decide) (htg _ wi_1169) (fun _ h9 => h9) rfl (by decide +kernel) rfl rfl (Nat.le_of_ble_eq_true rfl) dX9_night_58 (fun H locs hP hD hS => ?_)
          obtain ⟨hP, hD⟩ : PD D A [(sw_9 h0 g 0 b5 b6 b7 b8 b9 b10 b11 b12 b13 b14 b17 b18 x b23 b24 b25 b26 b27 b29 b31 b32 b33), (sw_in cT (g 0) 288 a0), (sw_in cT (g 4) 6 a4)] _ := ⟨hP, hD⟩
          refine lv_iconst (v := 0) hx hb dX9_night_61 (by decide) ?_
          refine lv_istore_n (lv' := [(3, .int 0), (0, .ref h0), (1, .int x), (2, .int y)]) hx hb dX9_night_62 rfl hl (by decide) rfl (fun ls hl => ?_)
          refine lv_iconst (v := 0) hx hb dX9_night_63 (by decide) ?_
          refine lv_istore (lv' := [(4, .int 0), (3, .int 0), (0, .ref h0), (1, .int x), (2, .int y)]) hx hb dX9_night_64 hl (by decide) rfl (fun ls hl => ?_)
          refine (fun (key : ∀ (n9_66 : Nat) (k9_66 : Nat) (x9_66_3 : Int32) (f9_66_1 : Nat → Int32) (f9_66_2 : Nat → Int32) (v9_66_3 : Int32) (H : Heap) (locs : List Loc) (ls : Array Slot), (k9_66 : Int) ≤ 60 → 60 < (k9_66 : Int) + n9_66 → (f9_66_1 1).toInt + y.toInt - (k9_66 : Int) ≤ 9999 → PI 288 f9_66_1 → KR f9_66_1 (a0) → PD D A [(sw_9 h0 g 0 b5 b6 b7 b8 b9 b10 b11 b12 b13 b14 b17 b18 v9_66_3 b23 b24 b25 b26 b27 b29 b31 b32 b33), (sw_in cT (g 0) 288 f9_66_1), (sw_in cT (g 4) 6 f9_66_2)] H → va_S A s.heap H locs → lv_has ls 7 [(4, .int (nI k9_66)), (3, .int x9_66_3), (0, .ref h0), (1, .int x), (2, .int y)] → W p l e _ s m _ below meth c H locs _ _ _ (F0 m 66 ls [])) => key (Int.toNat (60 - 0) + 1) 0 _ _ _ _ _ _ _ (by omega) (by omega) (by first | assumption | omega | decide | (simp only [ti_0, ti_1, ti_2, ti_3, ti_4, ti_5, ti_6, ti_7, ti_8, ti_9, ti_10, ti_11, ti_12, ti_m1]; omega)) (by first | assumption | omega | decide | (simp only [ti_0, ti_1, ti_2, ti_3, ti_4, ti_5, ti_6, ti_7, ti_8, ti_9, ti_10, ti_11, ti_12, ti_m1]; omega)) (by first | assumption | exact KR_rfl _) ⟨hP, hD⟩ hS (lv_sub hl [0, 1, 2, 3, 4] rfl)) ?_
          intro n9_66
          induction n9_66 with
          | zero => intro k9_66 x9_66_3 f9_66_1 f9_66_2 v9_66_3 H locs ls hq1 hq2; exact absurd hq2 (by omega)
          | succ n9_66 ih_66 =>
            intro k9_66 x9_66_3 f9_66_1 f9_66_2 v9_66_3 H locs ls hq1_66 hq2_66 h9_66_0 h9_66_1 h9_66_2 hPD hS hl
            obtain ⟨hP, hD⟩ := hPD
            have hk9_66 : (nI k9_66).toInt = (k9_66 : Int) := nI_toInt (by omega)
            refine lv_iload hx hb dX9_night_66 (lv_at hl 0 rfl) ?_
            refine lv_iload_n hx hb dX9_night_68 rfl (lv_at hl 4 rfl) ?_
            refine lv_icmp_ge (tgt := 143) hx hb dX9_night_69 (by decide) (fun c_12 => ?_) (fun c_12 => ?_)
            · have ic_12 : y.toInt ≤ ((k9_66 : Nat) : Int) := ile c_12 (rfl) (nI_toInt (by omega))
              refine lv_iload_n hx hb dX9_night_143 rfl (lv_at hl 1 rfl) ?_
              exact x_iret hx hb hr hlk hP hD hS [0, 1, 2] ((0, v9_66_3, f9_66_1, f9_66_2)) rfl (by decide) ⟨by (try dsimp only); first | assumption | omega | decide | exact Or.inl (by decide) | (intro h9; exact absurd h9 (by decide)) | (intro _; omega) | (intro _; assumption) | (intro _; decide), by (try dsimp only); first | assumption | exact KR_rfl _, trivial⟩ (by decide) (by decide) dX9_night_144
            · have ic_12 : ((k9_66 : Nat) : Int) < y.toInt := inle c_12 (rfl) (nI_toInt (by omega))
              refine lv_aload_n hx hb dX9_night_72 rfl (lv_at hl 2 rfl) ?_
              refine va_get (D := D) (ci := 9) (v := .ref (g 0)) (C := RX9) (T := TX9) (N := 37) hx hb htg gRX9 hown hK hP 0 rfl rfl 1 (by decide) (htg _ wi_1151) (fun _ h9 => h9) rfl dX9_night_73 ?_
              refine lv_bipush (v := 6) hx hb dX9_night_76 (by decide) ?_
              refine va_iald hx hb hK hP 1 0 rfl rfl (by unfold vp_in; decide) dX9_night_78 ?_
              refine lv_topi (fun z_13 ez_13 => ?_)
              have iz_13 : 0 ≤ z_13.toInt ∧ z_13.toInt ≤ 999 := by rw [ez_13]; exact rd6 h9_66_1 (by decide) rfl
              have nz_13 : z_13.toInt = ((f9_66_1) 6).toInt := by rw [ez_13]; rfl
              refine lv_if_le (tgt := 143) hx hb dX9_night_79 (by decide) (fun c_14 => ?_) (fun c_14 => ?_)
              · have ic_14 : z_13.toInt ≤ 0 := ile c_14 (rfl) (by decide)
                refine lv_iload_n hx hb dX9_night_143 rfl (lv_at hl 1 rfl) ?_
                exact x_iret hx hb hr hlk hP hD hS [0, 1, 2] ((0, v9_66_3, f9_66_1, f9_66_2)) rfl (by decide) ⟨by (try dsimp only); first | assumption | omega | decide | exact Or.inl (by decide) | (intro h9; exact absurd h9 (by decide)) | (intro _; omega) | (intro _; assumption) | (intro _; decide), by (try dsimp only); first | assumption | exact KR_rfl _, trivial⟩ (by decide) (by decide) dX9_night_144
              · have ic_14 : 0 < z_13.toInt := inle c_14 (rfl) (by decide)
                refine lv_aload_n hx hb dX9_night_82 rfl (lv_at hl 2 rfl) ?_
                refine lv_iconst (v := 3) hx hb dX9_night_83 (by decide) ?_
                refine xk_i (wr := [(sw_in cT (g 0) 288 f9_66_1), (sw_in cT (g 4) 6 f9_66_2)]) (xr_V (n := 1) (As := [.int 3]) (rest := []) ⟨hx, hb, hml, hown, htg⟩ hK hN hP hD hS hA [0] rfl (by decide) (m_draw l D cT _ (h0) (g) (0) (b5) (b6) (b7) (b8) (b9) (b10) (b11) (b12) (b13) (b14) (b17) (b18) (v9_66_3) (b23) (b24) (b25) (b26) (b27) (b29) (b31) (b32) (b33) (by first | assumption | omega | decide | exact Or.inl (by decide) | (intro h9; exact absurd h9 (by decide)) | (intro _; omega) | (intro _; assumption) | (intro _; decide)) (3) (by first | assumption | omega | decide | exact Or.inl (by decide) | (intro h9; exact absurd h9 (by decide)) | (intro _; omega) | (intro _; assumption) | (intro _; decide))) wi_1458 wi_1460 wi_104 wi_131 wi_1461 rfl rfl rfl ⟨rfl, by decide +kernel⟩ ⟨Nat.le_of_ble_eq_true rfl, Nat.le_of_ble_eq_true rfl⟩ rfl hl.1 rfl (Nat.le_of_ble_eq_true rfl) dX9_night_84 ⟨Nat.le_of_ble_eq_true rfl, Nat.le_of_ble_eq_true rfl⟩) hP hD hS hA [0] [1, 2] rfl rfl (by decide) (by decide) (fun r_16 u_15 H locs hwr_16 hP hD hS => ?_)
                obtain ⟨hP, hD⟩ : PD D A [(sw_in cT (g 0) 288 f9_66_1), (sw_in cT (g 4) 6 f9_66_2), (sw_9 h0 g 0 b5 b6 b7 b8 b9 b10 b11 b12 b13 b14 b17 b18 u_15 b23 b24 b25 b26 b27 b29 b31 b32 b33)] _ := ⟨hP, hD⟩
                refine lv_istore (lv' := [(5, .int r_16), (4, .int (nI k9_66)), (3, .int x9_66_3), (0, .ref h0), (1, .int x), (2, .int y)]) hx hb dX9_night_87 hl (by decide) rfl (fun ls hl => ?_)
                refine lv_aload_n hx hb dX9_night_89 rfl (lv_at hl 3 rfl) ?_
                refine lv_bipush (v := 100) hx hb dX9_night_90 (by decide) ?_
                refine xk_i (wr := [(sw_in cT (g 0) 288 f9_66_1), (sw_in cT (g 4) 6 f9_66_2)]) (xr_V (n := 1) (As := [.int 100]) (rest := []) ⟨hx, hb, hml, hown, htg⟩ hK hN hP hD hS hA [2] rfl (by decide) (m_draw l D cT _ (h0) (g) (0) (b5) (b6) (b7) (b8) (b9) (b10) (b11) (b12) (b13) (b14) (b17) (b18) (u_15) (b23) (b24) (b25) (b26) (b27) (b29) (b31) (b32) (b33) (by first | assumption | omega | decide | exact Or.inl (by decide) | (intro h9; exact absurd h9 (by decide)) | (intro _; omega) | (intro _; assumption) | (intro _; decide)) (100) (by first | assumption | omega | decide | exact Or.inl (by decide) | (intro h9; exact absurd h9 (by decide)) | (intro _; omega) | (intro _; assumption) | (intro _; decide))) wi_1458 wi_1460 wi_104 wi_131 wi_1461 rfl rfl rfl ⟨rfl, by decide +kernel⟩ ⟨Nat.le_of_ble_eq_true rfl, Nat.le_of_ble_eq_true rfl⟩ rfl hl.1 rfl (Nat.le_of_ble_eq_true rfl) dX9_night_92 ⟨Nat.le_of_ble_eq_true rfl, Nat.le_of_ble_eq_true rfl⟩) hP hD hS hA [2] [0, 1] rfl rfl (by decide) (by decide) (fun r_18 u_17 H locs hwr_18 hP hD hS => ?_)
                obtain ⟨hP, hD⟩ : PD D A [(sw_in cT (g 0) 288 f9_66_1), (sw_in cT (g 4) 6 f9_66_2), (sw_9 h0 g 0 b5 b6 b7 b8 b9 b10 b11 b12 b13 b14 b17 b18 u_17 b23 b24 b25 b26 b27 b29 b31 b32 b33)] _ := ⟨hP, hD⟩
                refine lv_aload_n hx hb dX9_night_95 rfl (lv_at hl 3 rfl) ?_
                refine va_get (D := D) (ci := 9) (v := .ref (g 0)) (C := RX9) (T := TX9) (N := 37) hx hb htg gRX9 hown hK hP 2 rfl rfl 1 (by decide) (htg _ wi_1151) (fun _ h9 => h9) rfl dX9_night_96 ?_
                refine lv_bipush (v := 7) hx hb dX9_night_99 (by decide) ?_
                refine va_iald hx hb hK hP 0 0 rfl rfl (by unfold vp_in; decide) dX9_night_101 ?_
                refine lv_topi (fun z_19 ez_19 => ?_)
                refine lv_icmp_ge (tgt := 109) hx hb dX9_night_102 (by decide) (fun c_20 => ?_) (fun c_20 => ?_)
                · have ic_20 : z_19.toInt ≤ r_18.toInt := ile c_20 (rfl) (rfl)
                  refine lv_iconst (v := 0) hx hb dX9_night_109 (by decide) ?_
                  refine lv_istore (lv' := [(6, .int 0), (5, .int r_16), (4, .int (nI k9_66)), (3, .int x9_66_3), (0, .ref h0), (1, .int x), (2, .int y)]) hx hb dX9_night_110 hl (by decide) rfl (fun ls hl => ?_)
                  refine lv_iload_n hx hb dX9_night_112 rfl (lv_at hl 3 rfl) ?_
                  refine lv_aload_n hx hb dX9_night_113 rfl (lv_at hl 4 rfl) ?_
                  refine lv_aload_n hx hb dX9_night_114 rfl (lv_at hl 4 rfl) ?_
                  refine lv_iload hx hb dX9_night_115 (lv_at hl 1 rfl) ?_
                  refine lv_i2l (v := r_16.toInt64) hx hb dX9_night_117 rfl ?_
                  have ilw_21 : (r_16.toInt64).toInt = r_16.toInt := i2l_i _
                  refine xk_i (wr := [(sw_in cT (g 4) 6 f9_66_2)]) (xr_V (n := 1) (As := [.long r_16.toInt64]) (rest := [.ref h0, .int x9_66_3]) ⟨hx, hb, hml, hown, htg⟩ hK hN hP hD hS hA [2, 0] rfl (by decide) (m_refuses l D cT _ (h0) (g) (0) (b5) (b6) (b7) (b8) (b9) (b10) (b11) (b12) (b13) (b14) (b17) (b18) (u_17) (b23) (b24) (b25) (b26) (b27) (b29) (b31) (b32) (b33) (by first | assumption | omega | decide | exact Or.inl (by decide) | (intro h9; exact absurd h9 (by decide)) | (intro _; omega) | (intro _; assumption) | (intro _; decide)) (f9_66_1) (by first | assumption | omega | decide | exact Or.inl (by decide) | (intro h9; exact absurd h9 (by decide)) | (intro _; omega) | (intro _; assumption) | (intro _; decide)) (r_16.toInt64)) wi_1416 wi_1418 wi_99 wi_131 wi_1419 rfl rfl rfl ⟨rfl, by decide +kernel⟩ ⟨Nat.le_of_ble_eq_true rfl, Nat.le_of_ble_eq_true rfl⟩ rfl hl.1 rfl (Nat.le_of_ble_eq_true rfl) dX9_night_118 ⟨Nat.le_of_ble_eq_true rfl, Nat.le_of_ble_eq_true rfl⟩) hP hD hS hA [2, 0] [1] rfl rfl (by decide) (by decide) (fun r_23 u_22 H locs hwr_23 hP hD hS => ?_)
                  obtain ⟨hP, hD⟩ : PD D A [(sw_in cT (g 4) 6 f9_66_2), (sw_9 h0 g 0 b5 b6 b7 b8 b9 b10 b11 b12 b13 b14 b17 b18 u_17 b23 b24 b25 b26 b27 b29 b31 b32 b33), (sw_in cT (g 0) 288 f9_66_1)] _ := ⟨hP, hD⟩
                  have qr_23_0 : Imp (r_23.toInt = 0) (1 ≤ (f9_66_1 6).toInt ∧ (f9_66_1 1).toInt ≤ 9998 ∧ (r_16.toInt64.toInt = 0 ∨ (r_16.toInt64.toInt = 1 ∧ 1 ≤ (f9_66_1 2).toInt) ∨ (r_16.toInt64.toInt = 2 ∧ (f9_66_1 2).toInt ≤ 14))) := hwr_23.1
                  refine lv_if_ne (tgt := 129) hx hb dX9_night_121 (by decide) (fun c_24 => ?_) (fun c_24 => ?_)
                  · have ic_24 : ¬ r_23.toInt = 0 := ine c_24 (rfl) (by decide)
                    refine lv_iconst (v := 0) hx hb dX9_night_129 (by decide) ?_
                    refine lv_iload hx hb dX9_night_130 (lv_at hl 0 rfl) ?_
                    refine xk_i (wr := []) (xr_V (n := 2) (As := [.int 0, .int 0]) (rest := [.int x9_66_3]) ⟨hx, hb, hml, hown, htg⟩ hK hN hP hD hS hA [1, 2, 0] rfl (by decide) (m_goesK l D cT _ (h0) (g) (0) (b5) (b6) (b7) (b8) (b9) (b10) (b11) (b12) (b13) (b14) (b17) (b18) (u_17) (b23) (b24) (b25) (b26) (b27) (b29) (b31) (b32) (b33) (by first | assumption | omega | decide | exact Or.inl (by decide) | (intro h9; exact absurd h9 (by decide)) | (intro _; omega) | (intro _; assumption) | (intro _; decide)) (f9_66_1) (by first | assumption | omega | decide | exact Or.inl (by decide) | (intro h9; exact absurd h9 (by decide)) | (intro _; omega) | (intro _; assumption) | (intro _; decide)) (f9_66_2) (0) (0) (by first | assumption | omega | decide | exact Or.inl (by decide) | (intro h9; exact absurd h9 (by decide)) | (intro _; omega) | (intro _; assumption) | (intro _; decide)) (by first | assumption | omega | decide | exact Or.inl (by decide) | (intro h9; exact absurd h9 (by decide)) | (intro _; omega) | (intro _; assumption) | (intro _; decide)) (by first | assumption | omega | decide | exact Or.inl (by decide) | (intro h9; exact absurd h9 (by decide)) | (intro _; omega) | (intro _; assumption) | (intro _; decide))) wi_1424 wi_1426 wi_100 wi_131 wi_1427 rfl rfl rfl ⟨rfl, by decide +kernel⟩ ⟨Nat.le_of_ble_eq_true rfl, Nat.le_of_ble_eq_true rfl⟩ rfl hl.1 rfl (Nat.le_of_ble_eq_true rfl) dX9_night_132 ⟨Nat.le_of_ble_eq_true rfl, Nat.le_of_ble_eq_true rfl⟩) hP hD hS hA [1, 2, 0] [] rfl rfl (by decide) (by decide) (fun r_26 u_25 H locs hwr_26 hP hD hS => ?_)
                    obtain ⟨hP, hD⟩ : PD D A [(sw_9 h0 g 0 b5 b6 b7 b8 b9 b10 b11 b12 b13 b14 b17 b18 u_17 b23 b24 b25 b26 b27 b29 b31 b32 b33), (sw_in cT (g 0) 288 u_25.1), (sw_in cT (g 4) 6 u_25.2)] _ := ⟨hP, hD⟩
                    have qr_26_0 : PI 288 u_25.1 := hwr_26.1
                    have qr_26_1 : KR u_25.1 f9_66_1 := hwr_26.2.1
                    have kqr_26_1 : KR u_25.1 (a0) := KR_tr qr_26_1 h9_66_2
                    have qr_26_2 : (u_25.1 1).toInt = (f9_66_1 1).toInt + 1 := hwr_26.2.2.1
                    refine lv_iadd hx hb dX9_night_135 ?_
                    refine lv_topi (fun z_27 ez_27 => ?_)
                    refine lv_istore_n (lv' := [(3, .int z_27), (6, .int 0), (5, .int r_16), (4, .int (nI k9_66)), (0, .ref h0), (1, .int x), (2, .int y)]) hx hb dX9_night_136 rfl hl (by decide) rfl (fun ls hl => ?_)
                    refine lv_iinc (v := (nI (k9_66 + 1))) (lv' := [(4, .int (nI (k9_66 + 1))), (3, .int z_27), (6, .int 0), (5, .int r_16), (0, .ref h0), (1, .int x), (2, .int y)]) hx hb dX9_night_137 hl (k := 3) rfl (by exact nI_1 (k9_66)) (by decide) rfl (fun ls hl => ?_)
                    refine lv_goto (tgt := 66) hx hb dX9_night_140 (by decide) ?_
                    exact ih_66 (k9_66 + 1) _ _ _ _ _ _ _ (by omega) (by omega) (by first | assumption | omega | decide | (simp only [ti_0, ti_1, ti_2, ti_3, ti_4, ti_5, ti_6, ti_7, ti_8, ti_9, ti_10, ti_11, ti_12, ti_m1]; omega)) (by first | assumption | omega | decide | (simp only [ti_0, ti_1, ti_2, ti_3, ti_4, ti_5, ti_6, ti_7, ti_8, ti_9, ti_10, ti_11, ti_12, ti_m1]; omega)) (by first | assumption | exact KR_rfl _) ⟨hP.sub [0, 1, 2] rfl, hD.sub [0, 1, 2] (by decide) rfl⟩ hS (lv_sub hl [0, 1, 4, 5, 6] rfl)
                  · have ic_24 : r_23.toInt = 0 := ieq c_24 (rfl) (by decide)
                    have kqr_23_0 : 1 ≤ (f9_66_1 6).toInt ∧ (f9_66_1 1).toInt ≤ 9998 ∧ (r_16.toInt64.toInt = 0 ∨ (r_16.toInt64.toInt = 1 ∧ 1 ≤ (f9_66_1 2).toInt) ∨ (r_16.toInt64.toInt = 2 ∧ (f9_66_1 2).toInt ≤ 14)) := qr_23_0 ic_24
                    refine lv_iload hx hb dX9_night_124 (lv_at hl 1 rfl) ?_
                    refine lv_goto (tgt := 130) hx hb dX9_night_126 (by decide) ?_
                    refine lv_iload hx hb dX9_night_130 (lv_at hl 0 rfl) ?_
                    refine xk_i (wr := []) (xr_V (n := 2) (As := [.int r_16, .int 0]) (rest := [.int x9_66_3]) ⟨hx, hb, hml, hown, htg⟩ hK hN hP hD hS hA [1, 2, 0] rfl (by decide) (m_goesK l D cT _ (h0) (g) (0) (b5) (b6) (b7) (b8) (b9) (b10) (b11) (b12) (b13) (b14) (b17) (b18) (u_17) (b23) (b24) (b25) (b26) (b27) (b29) (b31) (b32) (b33) (by first | assumption | omega | decide | exact Or.inl (by decide) | (intro h9; exact absurd h9 (by decide)) | (intro _; omega) | (intro _; assumption) | (intro _; decide)) (f9_66_1) (by first | assumption | omega | decide | exact Or.inl (by decide) | (intro h9; exact absurd h9 (by decide)) | (intro _; omega) | (intro _; assumption) | (intro _; decide)) (f9_66_2) (r_16) (0) (by first | assumption | omega | decide | exact Or.inl (by decide) | (intro h9; exact absurd h9 (by decide)) | (intro _; omega) | (intro _; assumption) | (intro _; decide)) (by first | assumption | omega | decide | exact Or.inl (by decide) | (intro h9; exact absurd h9 (by decide)) | (intro _; omega) | (intro _; assumption) | (intro _; decide)) (by first | assumption | omega | decide | exact Or.inl (by decide) | (intro h9; exact absurd h9 (by decide)) | (intro _; omega) | (intro _; assumption) | (intro _; decide))) wi_1424 wi_1426 wi_100 wi_131 wi_1427 rfl rfl rfl ⟨rfl, by decide +kernel⟩ ⟨Nat.le_of_ble_eq_true rfl, Nat.le_of_ble_eq_true rfl⟩ rfl hl.1 rfl (Nat.le_of_ble_eq_true rfl) dX9_night_132 ⟨Nat.le_of_ble_eq_true rfl, Nat.le_of_ble_eq_true rfl⟩) hP hD hS hA [1, 2, 0] [] rfl rfl (by decide) (by decide) (fun r_29 u_28 H locs hwr_29 hP hD hS => ?_)
                    obtain ⟨hP, hD⟩ : PD D A [(sw_9 h0 g 0 b5 b6 b7 b8 b9 b10 b11 b12 b13 b14 b17 b18 u_17 b23 b24 b25 b26 b27 b29 b31 b32 b33), (sw_in cT (g 0) 288 u_28.1), (sw_in cT (g 4) 6 u_28.2)] _ := ⟨hP, hD⟩
                    have qr_29_0 : PI 288 u_28.1 := hwr_29.1
                    have qr_29_1 : KR u_28.1 f9_66_1 := hwr_29.2.1
                    have kqr_29_1 : KR u_28.1 (a0) := KR_tr qr_29_1 h9_66_2
                    have qr_29_2 : (u_28.1 1).toInt = (f9_66_1 1).toInt + 1 := hwr_29.2.2.1
                    refine lv_iadd hx hb dX9_night_135 ?_
                    refine lv_topi (fun z_30 ez_30 => ?_)
                    refine lv_istore_n (lv' := [(3, .int z_30), (6, .int 0), (5, .int r_16), (4, .int (nI k9_66)), (0, .ref h0), (1, .int x), (2, .int y)]) hx hb dX9_night_136 rfl hl (by decide) rfl (fun ls hl => ?_)
                    refine lv_iinc (v := (nI (k9_66 + 1))) (lv' := [(4, .int (nI (k9_66 + 1))), (3, .int z_30), (6, .int 0), (5, .int r_16), (0, .ref h0), (1, .int x), (2, .int y)]) hx hb dX9_night_137 hl (k := 3) rfl (by exact nI_1 (k9_66)) (by decide) rfl (fun ls hl => ?_)
                    refine lv_goto (tgt := 66) hx hb dX9_night_140 (by decide) ?_
                    exact ih_66 (k9_66 + 1) _ _ _ _ _ _ _ (by omega) (by omega) (by first | assumption | omega | decide | (simp only [ti_0, ti_1, ti_2, ti_3, ti_4, ti_5, ti_6, ti_7, ti_8, ti_9, ti_10, ti_11, ti_12, ti_m1]; omega)) (by first | assumption | omega | decide | (simp only [ti_0, ti_1, ti_2, ti_3, ti_4, ti_5, ti_6, ti_7, ti_8, ti_9, ti_10, ti_11, ti_12, ti_m1]; omega)) (by first | assumption | exact KR_rfl _) ⟨hP.sub [0, 1, 2] rfl, hD.sub [0, 1, 2] (by decide) rfl⟩ hS (lv_sub hl [0, 1, 4, 5, 6] rfl)
                · have ic_20 : r_18.toInt < z_19.toInt := inle c_20 (rfl) (rfl)
                  refine lv_iconst (v := 1) hx hb dX9_night_105 (by decide) ?_
                  refine lv_goto (tgt := 110) hx hb dX9_night_106 (by decide) ?_
                  refine lv_istore (lv' := [(6, .int 1), (5, .int r_16), (4, .int (nI k9_66)), (3, .int x9_66_3), (0, .ref h0), (1, .int x), (2, .int y)]) hx hb dX9_night_110 hl (by decide) rfl (fun ls hl => ?_)
                  refine lv_iload_n hx hb dX9_night_112 rfl (lv_at hl 3 rfl) ?_
                  refine lv_aload_n hx hb dX9_night_113 rfl (lv_at hl 4 rfl) ?_
                  refine lv_aload_n hx hb dX9_night_114 rfl (lv_at hl 4 rfl) ?_
                  refine lv_iload hx hb dX9_night_115 (lv_at hl 1 rfl) ?_
                  refine lv_i2l (v := r_16.toInt64) hx hb dX9_night_117 rfl ?_
                  have ilw_31 : (r_16.toInt64).toInt = r_16.toInt := i2l_i _
                  refine xk_i (wr := [(sw_in cT (g 4) 6 f9_66_2)]) (xr_V (n := 1) (As := [.long r_16.toInt64]) (rest := [.ref h0, .int x9_66_3]) ⟨hx, hb, hml, hown, htg⟩ hK hN hP hD hS hA [2, 0] rfl (by decide) (m_refuses l D cT _ (h0) (g) (0) (b5) (b6) (b7) (b8) (b9) (b10) (b11) (b12) (b13) (b14) (b17) (b18) (u_17) (b23) (b24) (b25) (b26) (b27) (b29) (b31) (b32) (b33) (by first | assumption | omega | decide | exact Or.inl (by decide) | (intro h9; exact absurd h9 (by decide)) | (intro _; omega) | (intro _; assumption) | (intro _; decide)) (f9_66_1) (by first | assumption | omega | decide | exact Or.inl (by decide) | (intro h9; exact absurd h9 (by decide)) | (intro _; omega) | (intro _; assumption) | (intro _; decide)) (r_16.toInt64)) wi_1416 wi_1418 wi_99 wi_131 wi_1419 rfl rfl rfl ⟨rfl, by decide +kernel⟩ ⟨Nat.le_of_ble_eq_true rfl, Nat.le_of_ble_eq_true rfl⟩ rfl hl.1 rfl (Nat.le_of_ble_eq_true rfl) dX9_night_118 ⟨Nat.le_of_ble_eq_true rfl, Nat.le_of_ble_eq_true rfl⟩) hP hD hS hA [2, 0] [1] rfl rfl (by decide) (by decide) (fun r_33 u_32 H locs hwr_33 hP hD hS => ?_)
                  obtain ⟨hP, hD⟩ : PD D A [(sw_in cT (g 4) 6 f9_66_2), (sw_9 h0 g 0 b5 b6 b7 b8 b9 b10 b11 b12 b13 b14 b17 b18 u_17 b23 b24 b25 b26 b27 b29 b31 b32 b33), (sw_in cT (g 0) 288 f9_66_1)] _ := ⟨hP, hD⟩
                  have qr_33_0 : Imp (r_33.toInt = 0) (1 ≤ (f9_66_1 6).toInt ∧ (f9_66_1 1).toInt ≤ 9998 ∧ (r_16.toInt64.toInt = 0 ∨ (r_16.toInt64.toInt = 1 ∧ 1 ≤ (f9_66_1 2).toInt) ∨ (r_16.toInt64.toInt = 2 ∧ (f9_66_1 2).toInt ≤ 14))) := hwr_33.1
                  refine lv_if_ne (tgt := 129) hx hb dX9_night_121 (by decide) (fun c_34 => ?_) (fun c_34 => ?_)
                  · have ic_34 : ¬ r_33.toInt = 0 := ine c_34 (rfl) (by decide)
                    refine lv_iconst (v := 0) hx hb dX9_night_129 (by decide) ?_
                    refine lv_iload hx hb dX9_night_130 (lv_at hl 0 rfl) ?_
                    refine xk_i (wr := []) (xr_V (n := 2) (As := [.int 0, .int 1]) (rest := [.int x9_66_3]) ⟨hx, hb, hml, hown, htg⟩ hK hN hP hD hS hA [1, 2, 0] rfl (by decide) (m_goesK l D cT _ (h0) (g) (0) (b5) (b6) (b7) (b8) (b9) (b10) (b11) (b12) (b13) (b14) (b17) (b18) (u_17) (b23) (b24) (b25) (b26) (b27) (b29) (b31) (b32) (b33) (by first | assumption | omega | decide | exact Or.inl (by decide) | (intro h9; exact absurd h9 (by decide)) | (intro _; omega) | (intro _; assumption) | (intro _; decide)) (f9_66_1) (by first | assumption | omega | decide | exact Or.inl (by decide) | (intro h9; exact absurd h9 (by decide)) | (intro _; omega) | (intro _; assumption) | (intro _; decide)) (f9_66_2) (0) (1) (by first | assumption | omega | decide | exact Or.inl (by decide) | (intro h9; exact absurd h9 (by decide)) | (intro _; omega) | (intro _; assumption) | (intro _; decide)) (by first | assumption | omega | decide | exact Or.inl (by decide) | (intro h9; exact absurd h9 (by decide)) | (intro _; omega) | (intro _; assumption) | (intro _; decide)) (by first | assumption | omega | decide | exact Or.inl (by decide) | (intro h9; exact absurd h9 (by decide)) | (intro _; omega) | (intro _; assumption) | (intro _; decide))) wi_1424 wi_1426 wi_100 wi_131 wi_1427 rfl rfl rfl ⟨rfl, by decide +kernel⟩ ⟨Nat.le_of_ble_eq_true rfl, Nat.le_of_ble_eq_true rfl⟩ rfl hl.1 rfl (Nat.le_of_ble_eq_true rfl) dX9_night_132 ⟨Nat.le_of_ble_eq_true rfl, Nat.le_of_ble_eq_true rfl⟩) hP hD hS hA [1, 2, 0] [] rfl rfl (by decide) (by decide) (fun r_36 u_35 H locs hwr_36 hP hD hS => ?_)
                    obtain ⟨hP, hD⟩ : PD D A [(sw_9 h0 g 0 b5 b6 b7 b8 b9 b10 b11 b12 b13 b14 b17 b18 u_17 b23 b24 b25 b26 b27 b29 b31 b32 b33), (sw_in cT (g 0) 288 u_35.1), (sw_in cT (g 4) 6 u_35.2)] _ := ⟨hP, hD⟩
                    have qr_36_0 : PI 288 u_35.1 := hwr_36.1
                    have qr_36_1 : KR u_35.1 f9_66_1 := hwr_36.2.1
                    have kqr_36_1 : KR u_35.1 (a0) := KR_tr qr_36_1 h9_66_2
                    have qr_36_2 : (u_35.1 1).toInt = (f9_66_1 1).toInt + 1 := hwr_36.2.2.1
                    refine lv_iadd hx hb dX9_night_135 ?_
                    refine lv_topi (fun z_37 ez_37 => ?_)
                    refine lv_istore_n (lv' := [(3, .int z_37), (6, .int 1), (5, .int r_16), (4, .int (nI k9_66)), (0, .ref h0), (1, .int x), (2, .int y)]) hx hb dX9_night_136 rfl hl (by decide) rfl (fun ls hl => ?_)
                    refine lv_iinc (v := (nI (k9_66 + 1))) (lv' := [(4, .int (nI (k9_66 + 1))), (3, .int z_37), (6, .int 1), (5, .int r_16), (0, .ref h0), (1, .int x), (2, .int y)]) hx hb dX9_night_137 hl (k := 3) rfl (by exact nI_1 (k9_66)) (by decide) rfl (fun ls hl => ?_)
                    refine lv_goto (tgt := 66) hx hb dX9_night_140 (by decide) ?_
                    exact ih_66 (k9_66 + 1) _ _ _ _ _ _ _ (by omega) (by omega) (by first | assumption | omega | decide | (simp only [ti_0, ti_1, ti_2, ti_3, ti_4, ti_5, ti_6, ti_7, ti_8, ti_9, ti_10, ti_11, ti_12, ti_m1]; omega)) (by first | assumption | omega | decide | (simp only [ti_0, ti_1, ti_2, ti_3, ti_4, ti_5, ti_6, ti_7, ti_8, ti_9, ti_10, ti_11, ti_12, ti_m1]; omega)) (by first | assumption | exact KR_rfl _) ⟨hP.sub [0, 1, 2] rfl, hD.sub [0, 1, 2] (by decide) rfl⟩ hS (lv_sub hl [0, 1, 4, 5, 6] rfl)
                  · have ic_34 : r_33.toInt = 0 := ieq c_34 (rfl) (by decide)
                    have kqr_33_0 : 1 ≤ (f9_66_1 6).toInt ∧ (f9_66_1 1).toInt ≤ 9998 ∧ (r_16.toInt64.toInt = 0 ∨ (r_16.toInt64.toInt = 1 ∧ 1 ≤ (f9_66_1 2).toInt) ∨ (r_16.toInt64.toInt = 2 ∧ (f9_66_1 2).toInt ≤ 14)) := qr_33_0 ic_34
                    refine lv_iload hx hb dX9_night_124 (lv_at hl 1 rfl) ?_
                    refine lv_goto (tgt := 130) hx hb dX9_night_126 (by decide) ?_
                    refine lv_iload hx hb dX9_night_130 (lv_at hl 0 rfl) ?_
                    refine xk_i (wr := []) (xr_V (n := 2) (As := [.int r_16, .int 1]) (rest := [.int x9_66_3]) ⟨hx, hb, hml, hown, htg⟩ hK hN hP hD hS hA [1, 2, 0] rfl (by decide) (m_goesK l D cT _ (h0) (g) (0) (b5) (b6) (b7) (b8) (b9) (b10) (b11) (b12) (b13) (b14) (b17) (b18) (u_17) (b23) (b24) (b25) (b26) (b27) (b29) (b31) (b32) (b33) (by first | assumption | omega | decide | exact Or.inl (by decide) | (intro h9; exact absurd h9 (by decide)) | (intro _; omega) | (intro _; assumption) | (intro _; decide)) (f9_66_1) (by first | assumption | omega | decide | exact Or.inl (by decide) | (intro h9; exact absurd h9 (by decide)) | (intro _; omega) | (intro _; assumption) | (intro _; decide)) (f9_66_2) (r_16) (1) (by first | assumption | omega | decide | exact Or.inl (by decide) | (intro h9; exact absurd h9 (by decide)) | (intro _; omega) | (intro _; assumption) | (intro _; decide)) (by first | assumption | omega | decide | exact Or.inl (by decide) | (intro h9; exact absurd h9 (by decide)) | (intro _; omega) | (intro _; assumption) | (intro _; decide)) (by first | assumption | omega | decide | exact Or.inl (by decide) | (intro h9; exact absurd h9 (by decide)) | (intro _; omega) | (intro _; assumption) | (intro _; decide))) wi_1424 wi_1426 wi_100 wi_131 wi_1427 rfl rfl rfl ⟨rfl, by decide +kernel⟩ ⟨Nat.le_of_ble_eq_true rfl, Nat.le_of_ble_eq_true rfl⟩ rfl hl.1 rfl (Nat.le_of_ble_eq_true rfl) dX9_night_132 ⟨Nat.le_of_ble_eq_true rfl, Nat.le_of_ble_eq_true rfl⟩) hP hD hS hA [1, 2, 0] [] rfl rfl (by decide) (by decide) (fun r_39 u_38 H locs hwr_39 hP hD hS => ?_)
                    obtain ⟨hP, hD⟩ : PD D A [(sw_9 h0 g 0 b5 b6 b7 b8 b9 b10 b11 b12 b13 b14 b17 b18 u_17 b23 b24 b25 b26 b27 b29 b31 b32 b33), (sw_in cT (g 0) 288 u_38.1), (sw_in cT (g 4) 6 u_38.2)] _ := ⟨hP, hD⟩
                    have qr_39_0 : PI 288 u_38.1 := hwr_39.1
                    have qr_39_1 : KR u_38.1 f9_66_1 := hwr_39.2.1
                    have kqr_39_1 : KR u_38.1 (a0) := KR_tr qr_39_1 h9_66_2
                    have qr_39_2 : (u_38.1 1).toInt = (f9_66_1 1).toInt + 1 := hwr_39.2.2.1
                    refine lv_iadd hx hb dX9_night_135 ?_
                    refine lv_topi (fun z_40 ez_40 => ?_)
                    refine lv_istore_n (lv' := [(3, .int z_40), (6, .int 1), (5, .int r_16), (4, .int (nI k9_66)), (0, .ref h0), (1, .int x), (2, .int y)]) hx hb dX9_night_136 rfl hl (by decide) rfl (fun ls hl => ?_)
                    refine lv_iinc (v := (nI (k9_66 + 1))) (lv' := [(4, .int (nI (k9_66 + 1))), (3, .int z_40), (6, .int 1), (5, .int r_16), (0, .ref h0), (1, .int x), (2, .int y)]) hx hb dX9_night_137 hl (k := 3) rfl (by exact nI_1 (k9_66)) (by decide) rfl (fun ls hl => ?_)
                    refine lv_goto (tgt := 66) hx hb dX9_night_140 (by decide) ?_
                    exact ih_66 (k9_66 + 1) _ _ _ _ _ _ _ (by omega) (by omega) (by first | assumption | omega | decide | (simp only [ti_0, ti_1, ti_2, ti_3, ti_4, ti_5, ti_6, ti_7, ti_8, ti_9, ti_10, ti_11, ti_12, ti_m1]; omega)) (by first | assumption | omega | decide | (simp only [ti_0, ti_1, ti_2, ti_3, ti_4, ti_5, ti_6, ti_7, ti_8, ti_9, ti_10, ti_11, ti_12, ti_m1]; omega)) (by first | assumption | exact KR_rfl _) ⟨hP.sub [0, 1, 2] rfl, hD.sub [0, 1, 2] (by decide) rfl⟩ hS (lv_sub hl [0, 1, 4, 5, 6] rfl)
        · have ic_11 : 9999 < z_10.toInt := inle c_11 (rfl) (by decide)
          refine lv_bipush (v := (-5)) hx hb dX9_night_53 (by decide) ?_
          exact x_iret hx hb hr hlk hP hD hS [0, 1, 2] ((0, b19, a0, a4)) rfl (by decide) ⟨by (try dsimp only); first | assumption | omega | decide | exact Or.inl (by decide) | (intro h9; exact absurd h9 (by decide)) | (intro _; omega) | (intro _; assumption) | (intro _; decide), by (try dsimp only); first | assumption | exact KR_rfl _, trivial⟩ (by decide) (by decide) dX9_night_55
  · have ic_4 : r_3.toInt = 0 := ieq c_4 (rfl) (by decide)
    refine lv_bipush (v := (-3)) hx hb dX9_night_17 (by decide) ?_
    exact x_iret hx hb hr hlk hP hD hS [0, 1, 2] ((0, b19, a0, a4)) rfl (by decide) ⟨by (try dsimp only); first | assumption | omega | decide | exact Or.inl (by decide) | (intro h9; exact absurd h9 (by decide)) | (intro _; omega) | (intro _; assumption) | (intro _; decide), by (try dsimp only); first | assumption | exact KR_rfl _, trivial⟩ (by decide) (by decide) dX9_night_19
