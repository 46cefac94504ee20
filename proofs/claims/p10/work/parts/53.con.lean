set_option maxHeartbeats 4000000 in
set_option maxRecDepth 100000 in
theorem m_canWalk (l : Launch) (D : va_G) (cT : Nat → ClassId) (sz : Nat) (h0 : Nat) (g : Nat → Nat) (b0 : Int32) (b5 : Int32) (b6 : Int32) (b7 : Int32) (b8 : Int32) (b9 : Int32) (b10 : Int32) (b11 : Int32) (b12 : Int32) (b13 : Int32) (b14 : Int32) (b17 : Int32) (b18 : Int32) (b19 : Int32) (b23 : Int32) (b24 : Int32) (b25 : Int32) (b26 : Int32) (b27 : Int32) (b29 : Int32) (b31 : Int32) (b32 : Int32) (b33 : Int32) (hb5 : 0 ≤ b5.toInt ∧ b5.toInt ≤ 900) (a0 : Nat → Int32) (pa0 : PI 288 a0) (a12 : Nat → Int32) (e12 : EL a12 4 0 40) (a13 : Nat → Int64) (x : Int32) (hx3 : 0 ≤ x.toInt ∧ x.toInt ≤ 3) : Met l yX9_canWalk (wsc yX9_canWalk cX9_canWalk 6 (some .boolean)) { frames := 4, cells := 0, slots := 0, locals := 146 } (va_Pc [.ref h0, .int x] (PX D cT sz [(sw_9 h0 g b0 b5 b6 b7 b8 b9 b10 b11 b12 b13 b14 b17 b18 b19 b23 b24 b25 b26 b27 b29 b31 b32 b33), (sw_in cT (g 0) 288 a0), (sw_in cT (g 12) 4 a12), (sw_lo cT (g 13) 160 a13)])) (va_Qi (fun (r : Int32) (u : Unit) => (True)) (fun u t => RW D (va_A [(sw_9 h0 g b0 b5 b6 b7 b8 b9 b10 b11 b12 b13 b14 b17 b18 b19 b23 b24 b25 b26 b27 b29 b31 b32 b33), (sw_in cT (g 0) 288 a0), (sw_in cT (g 12) 4 a12), (sw_lo cT (g 13) 160 a13)] sz) ((fun _ : Unit => [(sw_9 h0 g b0 b5 b6 b7 b8 b9 b10 b11 b12 b13 b14 b17 b18 b19 b23 b24 b25 b26 b27 b29 b31 b32 b33), (sw_in cT (g 0) 288 a0), (sw_in cT (g 12) 4 a12), (sw_lo cT (g 13) 160 a13)]) u) t) (va_A [(sw_9 h0 g b0 b5 b6 b7 b8 b9 b10 b11 b12 b13 b14 b17 b18 b19 b23 b24 b25 b26 b27 b29 b31 b32 b33), (sw_in cT (g 0) 288 a0), (sw_in cT (g 12) 4 a12), (sw_lo cT (g 13) 160 a13)] sz)) 0 0 (va_A [(sw_9 h0 g b0 b5 b6 b7 b8 b9 b10 b11 b12 b13 b14 b17 b18 b19 b23 b24 b25 b26 b27 b29 b31 b32 b33), (sw_in cT (g 0) 288 a0), (sw_in cT (g 12) 4 a12), (sw_lo cT (g 13) 160 a13)] sz) := by
  refine m_of (y := yX9_canWalk) (cc := cX9_canWalk) (nL := 6) (ret := (some .boolean)) (D := D) (cT := cT) (av := [.ref h0, .int x]) (wi := [(sw_9 h0 g b0 b5 b6 b7 b8 b9 b10 b11 b12 b13 b14 b17 b18 b19 b23 b24 b25 b26 b27 b29 b31 b32 b33), (sw_in cT (g 0) 288 a0), (sw_in cT (g 12) 4 a12), (sw_lo cT (g 13) 160 a13)]) (fun A => va_Qi (fun (r : Int32) (u : Unit) => (True)) (fun u t => RW D A ((fun _ : Unit => [(sw_9 h0 g b0 b5 b6 b7 b8 b9 b10 b11 b12 b13 b14 b17 b18 b19 b23 b24 b25 b26 b27 b29 b31 b32 b33), (sw_in cT (g 0) 288 a0), (sw_in cT (g 12) 4 a12), (sw_lo cT (g 13) 160 a13)]) u) t) A) (by decide) (Nat.le_of_ble_eq_true rfl) ?_
  intro p e s m below meth c A hx hb hml hown htg hK hN hr hlk hnm hsz hP hD hS hA ls hl
  have hown : s.vm.findClass RX9 = some m.cls := hown
  have hl : lv_has ls 6 [(0, .ref h0), (1, .int x)] := hl
  have tc_0 : (0 : Int32).toInt = 0 := by decide
  have tc_1 : (1 : Int32).toInt = 1 := by decide
  have tc_2 : (2 : Int32).toInt = 2 := by decide
  have tc_40 : (40 : Int32).toInt = 40 := by decide
  refine lv_aload_n hx hb dX9_canWalk_0 rfl (lv_at hl 0 rfl) ?_
  refine va_get (D := D) (ci := 9) (v := .ref (g 0)) (C := RX9) (T := TX9) (N := 37) hx hb htg gRX9 hown hK hP 0 rfl rfl 1 (by decide) (htg _ wi_1151) (fun _ h9 => h9) rfl dX9_canWalk_1 ?_
  refine lv_iconst (v := 2) hx hb dX9_canWalk_4 (by decide) ?_
  refine va_iald hx hb hK hP 1 0 rfl rfl (by unfold vp_in; decide) dX9_canWalk_5 ?_
  refine lv_topi (fun z_1 ez_1 => ?_)
  have iz_1 : 0 ≤ z_1.toInt ∧ z_1.toInt ≤ 15 := by rw [ez_1]; exact rd2 pa0 (by decide) rfl
  have nz_1 : z_1.toInt = ((a0) 2).toInt := by rw [ez_1]; rfl
  refine lv_istore_n (lv' := [(2, .int z_1), (0, .ref h0), (1, .int x)]) hx hb dX9_canWalk_6 rfl hl (by decide) rfl (fun ls hl => ?_)
  refine lv_iconst (v := 0) hx hb dX9_canWalk_7 (by decide) ?_
  refine lv_istore_n (lv' := [(3, .int 0), (2, .int z_1), (0, .ref h0), (1, .int x)]) hx hb dX9_canWalk_8 rfl hl (by decide) rfl (fun ls hl => ?_)
  refine (fun (key : ∀ (n9_9 : Nat) (k9_9 : Nat) (x9_9_2 : Int32) (H : Heap) (locs : List Loc) (ls : Array Slot), (k9_9 : Int) ≤ 40 → 40 < (k9_9 : Int) + n9_9 → (0 ≤ x9_9_2.toInt ∧ x9_9_2.toInt ≤ 15) → PD D A [(sw_9 h0 g b0 b5 b6 b7 b8 b9 b10 b11 b12 b13 b14 b17 b18 b19 b23 b24 b25 b26 b27 b29 b31 b32 b33), (sw_in cT (g 0) 288 a0), (sw_in cT (g 12) 4 a12), (sw_lo cT (g 13) 160 a13)] H → va_S A s.heap H locs → lv_has ls 6 [(3, .int (nI k9_9)), (2, .int x9_9_2), (0, .ref h0), (1, .int x)] → W p l e _ s m _ below meth c H locs _ _ _ (F0 m 9 ls [])) => key (Int.toNat (40 - 0) + 1) 0 _ _ _ _ (by omega) (by omega) (by first | assumption | omega | decide | (simp only [ti_0, ti_1, ti_2, ti_3, ti_4, ti_5, ti_6, ti_7, ti_8, ti_9, ti_10, ti_11, ti_12, ti_m1]; omega)) ⟨hP, hD⟩ hS (lv_sub hl [0, 1, 2, 3] rfl)) ?_
  intro n9_9
  induction n9_9 with
  | zero => intro k9_9 x9_9_2 H locs ls hq1 hq2; exact absurd hq2 (by omega)
  | succ n9_9 ih_9 =>
    intro k9_9 x9_9_2 H locs ls hq1_9 hq2_9 h9_9_0 hPD hS hl
    obtain ⟨hP, hD⟩ := hPD
    have hk9_9 : (nI k9_9).toInt = (k9_9 : Int) := nI_toInt (by omega)
    refine lv_iload_n hx hb dX9_canWalk_9 rfl (lv_at hl 0 rfl) ?_
    refine lv_aload_n hx hb dX9_canWalk_10 rfl (lv_at hl 2 rfl) ?_
    refine va_get (D := D) (ci := 9) (v := .ref (g 12)) (C := RX9) (T := TX9) (N := 37) hx hb htg gRX9 hown hK hP 0 rfl rfl 35 (by decide) (htg _ wi_1185) (fun _ h9 => h9) rfl dX9_canWalk_11 ?_
    refine lv_iload_n hx hb dX9_canWalk_14 rfl (lv_at hl 3 rfl) ?_
    refine va_iald hx hb hK hP 2 0 rfl rfl (vp_in_iff.mpr (by omega)) dX9_canWalk_15 ?_
    refine lv_topi (fun z_2 ez_2 => ?_)
    have iz_2 : 0 ≤ z_2.toInt ∧ z_2.toInt ≤ 40 := by rw [ez_2]; exact e12 _ (in_lt (vp_in_iff.mpr (by omega)))
    refine lv_icmp_ge (tgt := 72) hx hb dX9_canWalk_16 (by decide) (fun c_3 => ?_) (fun c_3 => ?_)
    · have ic_3 : z_2.toInt ≤ ((k9_9 : Nat) : Int) := ile c_3 (rfl) (nI_toInt (by omega))
      refine lv_iconst (v := 1) hx hb dX9_canWalk_72 (by decide) ?_
      exact x_zret hx hb hr hlk hP hD hS [0, 1, 2, 3] (()) rfl (by decide) rfl trivial (by decide) (by decide) dX9_canWalk_73
    · have ic_3 : ((k9_9 : Nat) : Int) < z_2.toInt := inle c_3 (rfl) (nI_toInt (by omega))
      refine lv_aload_n hx hb dX9_canWalk_19 rfl (lv_at hl 2 rfl) ?_
      refine va_get (D := D) (ci := 9) (v := .ref (g 13)) (C := RX9) (T := TX9) (N := 37) hx hb htg gRX9 hown hK hP 0 rfl rfl 36 (by decide) (htg _ wi_1186) (fun _ h9 => h9) rfl dX9_canWalk_20 ?_
      refine lv_bipush (v := 40) hx hb dX9_canWalk_23 (by decide) ?_
      refine lv_iload_n hx hb dX9_canWalk_25 rfl (lv_at hl 3 rfl) ?_
      refine lv_imul hx hb dX9_canWalk_26 ?_
      refine lv_topi (fun z_4 ez_4 => ?_)
      have iz_4 : z_4.toInt = 40 * x.toInt := toInt_mulI ez_4 (by decide) (rfl) (by omega)
      refine lv_iload_n hx hb dX9_canWalk_27 rfl (lv_at hl 0 rfl) ?_
      refine lv_iadd hx hb dX9_canWalk_28 ?_
      refine lv_topi (fun z_5 ez_5 => ?_)
      have iz_5 : z_5.toInt = z_4.toInt + ((k9_9 : Nat) : Int) := toInt_addI ez_5 (rfl) (nI_toInt (by omega)) (by omega)
      refine va_lald hx hb hK hP 3 1 rfl rfl (vp_in_iff.mpr (by omega)) dX9_canWalk_29 ?_
      refine lv_topl (fun z_6 ez_6 => ?_)
      refine lv_lstore (lv' := [(4, .long z_6), (3, .int (nI k9_9)), (2, .int x9_9_2), (0, .ref h0), (1, .int x)]) hx hb dX9_canWalk_30 hl (by decide) rfl (fun ls hl => ?_)
      refine lv_lload hx hb dX9_canWalk_32 (lv_at hl 0 rfl) ?_
      refine lv_lconst (v := 0) hx hb dX9_canWalk_34 (by decide) ?_
      refine lv_ldc2 (v := 2) hx hb hown (htg _ wi_1420) dX9_canWalk_35 ?_
      refine xk_i (wr := [(sw_9 h0 g b0 b5 b6 b7 b8 b9 b10 b11 b12 b13 b14 b17 b18 b19 b23 b24 b25 b26 b27 b29 b31 b32 b33), (sw_in cT (g 0) 288 a0), (sw_in cT (g 12) 4 a12), (sw_lo cT (g 13) 160 a13)]) (xr_S (n := 3) (As := [.long z_6, .long 0, .long 2]) (rest := []) ⟨hx, hb, hml, hown, htg⟩ hK hN hP hD hS hA [] rfl (by decide) (m_within l D cT _ (z_6) (0) (2) (z_6.toInt) (0) (2) (rfl) (by decide) (by decide)) wi_1270 wi_1271 wi_131 wi_1272 ⟨rfl, by decide +kernel⟩ ⟨Nat.le_of_ble_eq_true rfl, Nat.le_of_ble_eq_true rfl⟩ rfl hl.1 rfl (Nat.le_of_ble_eq_true rfl) dX9_canWalk_38 ⟨Nat.le_of_ble_eq_true rfl, Nat.le_of_ble_eq_true rfl⟩) hP hD hS hA [] [0, 1, 2, 3] rfl rfl (by decide) (by decide) (fun r_8 u_7 H locs hwr_8 hP hD hS => ?_)
      obtain ⟨hP, hD⟩ : PD D A [(sw_9 h0 g b0 b5 b6 b7 b8 b9 b10 b11 b12 b13 b14 b17 b18 b19 b23 b24 b25 b26 b27 b29 b31 b32 b33), (sw_in cT (g 0) 288 a0), (sw_in cT (g 12) 4 a12), (sw_lo cT (g 13) 160 a13)] _ := ⟨hP, hD⟩
      have qr_8_0 : Imp (¬ r_8.toInt = 0) (0 ≤ z_6.toInt ∧ z_6.toInt ≤ 2) := hwr_8.1
      have qr_8_1 : r_8 = 0 ∨ r_8 = 1 := hwr_8.2.1
      refine lv_if_eq (tgt := 57) hx hb dX9_canWalk_41 (by decide) (fun c_9 => ?_) (fun c_9 => ?_)
      · have ic_9 : r_8.toInt = 0 := ieq c_9 (rfl) (by decide)
        refine lv_iconst (v := 0) hx hb dX9_canWalk_57 (by decide) ?_
        exact x_zret hx hb hr hlk hP hD hS [0, 1, 2, 3] (()) rfl (by decide) rfl trivial (by decide) (by decide) dX9_canWalk_58
      · have ic_9 : ¬ r_8.toInt = 0 := ine c_9 (rfl) (by decide)
        have kqr_8_0 : 0 ≤ z_6.toInt ∧ z_6.toInt ≤ 2 := qr_8_0 ic_9
        refine lv_aload_n hx hb dX9_canWalk_44 rfl (lv_at hl 3 rfl) ?_
        refine lv_iload_n hx hb dX9_canWalk_45 rfl (lv_at hl 2 rfl) ?_
        refine lv_lload hx hb dX9_canWalk_46 (lv_at hl 0 rfl) ?_
        refine xk_i (wr := [(sw_9 h0 g b0 b5 b6 b7 b8 b9 b10 b11 b12 b13 b14 b17 b18 b19 b23 b24 b25 b26 b27 b29 b31 b32 b33), (sw_in cT (g 0) 288 a0), (sw_in cT (g 12) 4 a12), (sw_lo cT (g 13) 160 a13)]) (xr_S (n := 2) (As := [.int x9_9_2, .long z_6]) (rest := [.ref h0]) ⟨hx, hb, hml, hown, htg⟩ hK hN hP hD hS hA [] rfl (by decide) (m_then l D cT _ (x9_9_2) (z_6) (by first | assumption | omega | decide | exact Or.inl (by decide) | (intro h9; exact absurd h9 (by decide)) | (intro _; omega) | (intro _; assumption) | (intro _; decide))) wi_1421 wi_1422 wi_131 wi_1423 ⟨rfl, by decide +kernel⟩ ⟨Nat.le_of_ble_eq_true rfl, Nat.le_of_ble_eq_true rfl⟩ rfl hl.1 rfl (Nat.le_of_ble_eq_true rfl) dX9_canWalk_48 ⟨Nat.le_of_ble_eq_true rfl, Nat.le_of_ble_eq_true rfl⟩) hP hD hS hA [] [0, 1, 2, 3] rfl rfl (by decide) (by decide) (fun r_11 u_10 H locs hwr_11 hP hD hS => ?_)
        obtain ⟨hP, hD⟩ : PD D A [(sw_9 h0 g b0 b5 b6 b7 b8 b9 b10 b11 b12 b13 b14 b17 b18 b19 b23 b24 b25 b26 b27 b29 b31 b32 b33), (sw_in cT (g 0) 288 a0), (sw_in cT (g 12) 4 a12), (sw_lo cT (g 13) 160 a13)] _ := ⟨hP, hD⟩
        have qr_11_0 : (z_6.toInt = 1 ∧ r_11.toInt = x9_9_2.toInt - 1) ∨ (z_6.toInt = 2 ∧ r_11.toInt = x9_9_2.toInt + 1) ∨ (¬ z_6.toInt = 1 ∧ ¬ z_6.toInt = 2 ∧ r_11.toInt = x9_9_2.toInt) := hwr_11.1
        refine xk_i (wr := [(sw_in cT (g 12) 4 a12), (sw_lo cT (g 13) 160 a13)]) (xr_V (n := 1) (As := [.int r_11]) (rest := []) ⟨hx, hb, hml, hown, htg⟩ hK hN hP hD hS hA [0, 1] rfl (by decide) (m_isStrip l D cT _ (h0) (g) (b0) (b5) (b6) (b7) (b8) (b9) (b10) (b11) (b12) (b13) (b14) (b17) (b18) (b19) (b23) (b24) (b25) (b26) (b27) (b29) (b31) (b32) (b33) (by first | assumption | omega | decide | exact Or.inl (by decide) | (intro h9; exact absurd h9 (by decide)) | (intro _; omega) | (intro _; assumption) | (intro _; decide)) (a0) (by first | assumption | omega | decide | exact Or.inl (by decide) | (intro h9; exact absurd h9 (by decide)) | (intro _; omega) | (intro _; assumption) | (intro _; decide)) (r_11)) wi_1338 wi_1340 wi_90 wi_131 wi_1341 rfl rfl rfl ⟨rfl, by decide +kernel⟩ ⟨Nat.le_of_ble_eq_true rfl, Nat.le_of_ble_eq_true rfl⟩ rfl hl.1 rfl (Nat.le_of_ble_eq_true rfl) dX9_canWalk_51 ⟨Nat.le_of_ble_eq_true rfl, Nat.le_of_ble_eq_true rfl⟩) hP hD hS hA [0, 1] [2, 3] rfl rfl (by decide) (by decide) (fun r_13 u_12 H locs hwr_13 hP hD hS => ?_)
        obtain ⟨hP, hD⟩ : PD D A [(sw_in cT (g 12) 4 a12), (sw_lo cT (g 13) 160 a13), (sw_9 h0 g b0 b5 b6 b7 b8 b9 b10 b11 b12 b13 b14 b17 b18 b19 b23 b24 b25 b26 b27 b29 b31 b32 b33), (sw_in cT (g 0) 288 a0)] _ := ⟨hP, hD⟩
        have qr_13_0 : Imp (¬ r_13.toInt = 0) (0 ≤ r_11.toInt ∧ r_11.toInt ≤ 15) := hwr_13.1
        refine lv_if_ne (tgt := 59) hx hb dX9_canWalk_54 (by decide) (fun c_14 => ?_) (fun c_14 => ?_)
        · have ic_14 : ¬ r_13.toInt = 0 := ine c_14 (rfl) (by decide)
          have kqr_13_0 : 0 ≤ r_11.toInt ∧ r_11.toInt ≤ 15 := qr_13_0 ic_14
          refine lv_iload_n hx hb dX9_canWalk_59 rfl (lv_at hl 2 rfl) ?_
          refine lv_lload hx hb dX9_canWalk_60 (lv_at hl 0 rfl) ?_
          refine xk_i (wr := [(sw_in cT (g 12) 4 a12), (sw_lo cT (g 13) 160 a13), (sw_9 h0 g b0 b5 b6 b7 b8 b9 b10 b11 b12 b13 b14 b17 b18 b19 b23 b24 b25 b26 b27 b29 b31 b32 b33), (sw_in cT (g 0) 288 a0)]) (xr_S (n := 2) (As := [.int x9_9_2, .long z_6]) (rest := []) ⟨hx, hb, hml, hown, htg⟩ hK hN hP hD hS hA [] rfl (by decide) (m_then l D cT _ (x9_9_2) (z_6) (by first | assumption | omega | decide | exact Or.inl (by decide) | (intro h9; exact absurd h9 (by decide)) | (intro _; omega) | (intro _; assumption) | (intro _; decide))) wi_1421 wi_1422 wi_131 wi_1423 ⟨rfl, by decide +kernel⟩ ⟨Nat.le_of_ble_eq_true rfl, Nat.le_of_ble_eq_true rfl⟩ rfl hl.1 rfl (Nat.le_of_ble_eq_true rfl) dX9_canWalk_62 ⟨Nat.le_of_ble_eq_true rfl, Nat.le_of_ble_eq_true rfl⟩) hP hD hS hA [] [0, 1, 2, 3] rfl rfl (by decide) (by decide) (fun r_16 u_15 H locs hwr_16 hP hD hS => ?_)
          obtain ⟨hP, hD⟩ : PD D A [(sw_in cT (g 12) 4 a12), (sw_lo cT (g 13) 160 a13), (sw_9 h0 g b0 b5 b6 b7 b8 b9 b10 b11 b12 b13 b14 b17 b18 b19 b23 b24 b25 b26 b27 b29 b31 b32 b33), (sw_in cT (g 0) 288 a0)] _ := ⟨hP, hD⟩
          have qr_16_0 : (z_6.toInt = 1 ∧ r_16.toInt = x9_9_2.toInt - 1) ∨ (z_6.toInt = 2 ∧ r_16.toInt = x9_9_2.toInt + 1) ∨ (¬ z_6.toInt = 1 ∧ ¬ z_6.toInt = 2 ∧ r_16.toInt = x9_9_2.toInt) := hwr_16.1
          refine lv_istore_n (lv' := [(2, .int r_16), (4, .long z_6), (3, .int (nI k9_9)), (0, .ref h0), (1, .int x)]) hx hb dX9_canWalk_65 rfl hl (by decide) rfl (fun ls hl => ?_)
          refine lv_iinc (v := (nI (k9_9 + 1))) (lv' := [(3, .int (nI (k9_9 + 1))), (2, .int r_16), (4, .long z_6), (0, .ref h0), (1, .int x)]) hx hb dX9_canWalk_66 hl (k := 2) rfl (by exact nI_1 (k9_9)) (by decide) rfl (fun ls hl => ?_)
          refine lv_goto (tgt := 9) hx hb dX9_canWalk_69 (by decide) ?_
          exact ih_9 (k9_9 + 1) _ _ _ _ (by omega) (by omega) (by first | assumption | omega | decide | (simp only [ti_0, ti_1, ti_2, ti_3, ti_4, ti_5, ti_6, ti_7, ti_8, ti_9, ti_10, ti_11, ti_12, ti_m1]; omega)) ⟨hP.sub [2, 3, 0, 1] rfl, hD.sub [2, 3, 0, 1] (by decide) rfl⟩ hS (lv_sub hl [0, 1, 3, 4] rfl)
        · have ic_14 : r_13.toInt = 0 := ieq c_14 (rfl) (by decide)
          refine lv_iconst (v := 0) hx hb dX9_canWalk_57 (by decide) ?_
          exact x_zret hx hb hr hlk hP hD hS [2, 3, 0, 1] (()) rfl (by decide) rfl trivial (by decide) (by decide) dX9_canWalk_58
set_option maxHeartbeats 4000000 in
set_option maxRecDepth 100000 in
theorem m_meets (l : Launch) (D : va_G) (cT : Nat → ClassId) (sz : Nat) (h0 : Nat) (g : Nat → Nat) (b0 : Int32) (b5 : Int32) (b6 : Int32) (b7 : Int32) (b8 : Int32) (b9 : Int32) (b10 : Int32) (b11 : Int32) (b12 : Int32) (b13 : Int32) (b14 : Int32) (b17 : Int32) (b18 : Int32) (b19 : Int32) (b23 : Int32) (b24 : Int32) (b25 : Int32) (b26 : Int32) (b27 : Int32) (b29 : Int32) (b31 : Int32) (b32 : Int32) (b33 : Int32) (hb5 : 0 ≤ b5.toInt ∧ b5.toInt ≤ 900) (a0 : Nat → Int32) (pa0 : PI 288 a0) (a11 : Nat → Int32) (a12 : Nat → Int32) (e12 : EL a12 4 0 40) (a13 : Nat → Int64) (x : Int32) (y : Int32) : Met l yX9_meets (wsc yX9_meets cX9_meets 5 (some .int)) { frames := 5, cells := 0, slots := 0, locals := 171 } (va_Pc [.ref h0, .int x, .int y] (PX D cT sz [(sw_9 h0 g b0 b5 b6 b7 b8 b9 b10 b11 b12 b13 b14 b17 b18 b19 b23 b24 b25 b26 b27 b29 b31 b32 b33), (sw_in cT (g 0) 288 a0), (sw_in cT (g 11) 4 a11), (sw_in cT (g 12) 4 a12), (sw_lo cT (g 13) 160 a13)])) (va_Qi (fun (r : Int32) (u : Int32) => (True)) (fun u t => RW D (va_A [(sw_9 h0 g b0 b5 b6 b7 b8 b9 b10 b11 b12 b13 b14 b17 b18 b19 b23 b24 b25 b26 b27 b29 b31 b32 b33), (sw_in cT (g 0) 288 a0), (sw_in cT (g 11) 4 a11), (sw_in cT (g 12) 4 a12), (sw_lo cT (g 13) 160 a13)] sz) ((fun u : Int32 => [(sw_9 h0 g u b5 b6 b7 b8 b9 b10 b11 b12 b13 b14 b17 b18 b19 b23 b24 b25 b26 b27 b29 b31 b32 b33), (sw_in cT (g 0) 288 a0), (sw_in cT (g 11) 4 a11), (sw_in cT (g 12) 4 a12), (sw_lo cT (g 13) 160 a13)]) u) t) (va_A [(sw_9 h0 g b0 b5 b6 b7 b8 b9 b10 b11 b12 b13 b14 b17 b18 b19 b23 b24 b25 b26 b27 b29 b31 b32 b33), (sw_in cT (g 0) 288 a0), (sw_in cT (g 11) 4 a11), (sw_in cT (g 12) 4 a12), (sw_lo cT (g 13) 160 a13)] sz)) 0 0 (va_A [(sw_9 h0 g b0 b5 b6 b7 b8 b9 b10 b11 b12 b13 b14 b17 b18 b19 b23 b24 b25 b26 b27 b29 b31 b32 b33), (sw_in cT (g 0) 288 a0), (sw_in cT (g 11) 4 a11), (sw_in cT (g 12) 4 a12), (sw_lo cT (g 13) 160 a13)] sz) := by
  refine m_of (y := yX9_meets) (cc := cX9_meets) (nL := 5) (ret := (some .int)) (D := D) (cT := cT) (av := [.ref h0, .int x, .int y]) (wi := [(sw_9 h0 g b0 b5 b6 b7 b8 b9 b10 b11 b12 b13 b14 b17 b18 b19 b23 b24 b25 b26 b27 b29 b31 b32 b33), (sw_in cT (g 0) 288 a0), (sw_in cT (g 11) 4 a11), (sw_in cT (g 12) 4 a12), (sw_lo cT (g 13) 160 a13)]) (fun A => va_Qi (fun (r : Int32) (u : Int32) => (True)) (fun u t => RW D A ((fun u : Int32 => [(sw_9 h0 g u b5 b6 b7 b8 b9 b10 b11 b12 b13 b14 b17 b18 b19 b23 b24 b25 b26 b27 b29 b31 b32 b33), (sw_in cT (g 0) 288 a0), (sw_in cT (g 11) 4 a11), (sw_in cT (g 12) 4 a12), (sw_lo cT (g 13) 160 a13)]) u) t) A) (by decide) (Nat.le_of_ble_eq_true rfl) ?_
  intro p e s m below meth c A hx hb hml hown htg hK hN hr hlk hnm hsz hP hD hS hA ls hl
  have hown : s.vm.findClass RX9 = some m.cls := hown
  have hl : lv_has ls 5 [(0, .ref h0), (1, .int x), (2, .int y)] := hl
  have tc_m6 : ((-6) : Int32).toInt = (-6) := by decide
  have tc_m5 : ((-5) : Int32).toInt = (-5) := by decide
  have tc_m2 : ((-2) : Int32).toInt = (-2) := by decide
  have tc_m1 : ((-1) : Int32).toInt = (-1) := by decide
  have tc_0 : (0 : Int32).toInt = 0 := by decide
  have tc_2 : (2 : Int32).toInt = 2 := by decide
  have tc_8 : (8 : Int32).toInt = 8 := by decide
  have tc_40 : (40 : Int32).toInt = 40 := by decide
  refine lv_aload_n hx hb dX9_meets_0 rfl (lv_at hl 0 rfl) ?_
  refine lv_iconst (v := 0) hx hb dX9_meets_1 (by decide) ?_
  refine va_put (D := D) (ci := 9) (v := .int 0) (ty := .int) (C := RX9) (T := TX9) (N := 37) hx hb htg gRX9 tyX9 tyX9_ok nmX9 hown hK hP hD hS 0 rfl rfl 0 (by decide) (htg _ wi_1150) (fun _ h9 => h9) rfl (by decide +kernel) rfl rfl (Nat.le_of_ble_eq_true rfl) dX9_meets_2 (fun H locs hP hD hS => ?_)
  obtain ⟨hP, hD⟩ : PD D A [(sw_9 h0 g 0 b5 b6 b7 b8 b9 b10 b11 b12 b13 b14 b17 b18 b19 b23 b24 b25 b26 b27 b29 b31 b32 b33), (sw_in cT (g 0) 288 a0), (sw_in cT (g 11) 4 a11), (sw_in cT (g 12) 4 a12), (sw_lo cT (g 13) 160 a13)] _ := ⟨hP, hD⟩
  refine lv_iload_n hx hb dX9_meets_5 rfl (lv_at hl 1 rfl) ?_
  refine lv_i2l (v := x.toInt64) hx hb dX9_meets_6 rfl ?_
  refine lv_lconst (v := 0) hx hb dX9_meets_7 (by decide) ?_
  refine lv_ldc2 (v := 3) hx hb hown (htg _ wi_1366) dX9_meets_8 ?_
  have ilw_1 : (x.toInt64).toInt = x.toInt := i2l_i _
  refine xk_i (wr := [(sw_9 h0 g 0 b5 b6 b7 b8 b9 b10 b11 b12 b13 b14 b17 b18 b19 b23 b24 b25 b26 b27 b29 b31 b32 b33), (sw_in cT (g 0) 288 a0), (sw_in cT (g 11) 4 a11), (sw_in cT (g 12) 4 a12), (sw_lo cT (g 13) 160 a13)]) (xr_S (n := 3) (As := [.long x.toInt64, .long 0, .long 3]) (rest := []) ⟨hx, hb, hml, hown, htg⟩ hK hN hP hD hS hA [] rfl (by decide) (m_within l D cT _ (x.toInt64) (0) (3) (x.toInt) (0) (3) (i2l_i _) (by decide) (by decide)) wi_1270 wi_1271 wi_131 wi_1272 ⟨rfl, by decide +kernel⟩ ⟨Nat.le_of_ble_eq_true rfl, Nat.le_of_ble_eq_true rfl⟩ rfl hl.1 rfl (Nat.le_of_ble_eq_true rfl) dX9_meets_11 ⟨Nat.le_of_ble_eq_true rfl, Nat.le_of_ble_eq_true rfl⟩) hP hD hS hA [] [0, 1, 2, 3, 4] rfl rfl (by decide) (by decide) (fun r_3 u_2 H locs hwr_3 hP hD hS => ?_)
  obtain ⟨hP, hD⟩ : PD D A [(sw_9 h0 g 0 b5 b6 b7 b8 b9 b10 b11 b12 b13 b14 b17 b18 b19 b23 b24 b25 b26 b27 b29 b31 b32 b33), (sw_in cT (g 0) 288 a0), (sw_in cT (g 11) 4 a11), (sw_in cT (g 12) 4 a12), (sw_lo cT (g 13) 160 a13)] _ := ⟨hP, hD⟩
  have qr_3_0 : Imp (¬ r_3.toInt = 0) (0 ≤ x.toInt ∧ x.toInt ≤ 3) := hwr_3.1
  have qr_3_1 : r_3 = 0 ∨ r_3 = 1 := hwr_3.2.1
  refine lv_if_eq (tgt := 29) hx hb dX9_meets_14 (by decide) (fun c_4 => ?_) (fun c_4 => ?_)
  · have ic_4 : r_3.toInt = 0 := ieq c_4 (rfl) (by decide)
    refine lv_bipush (v := (-2)) hx hb dX9_meets_29 (by decide) ?_
    exact x_iret hx hb hr hlk hP hD hS [0, 1, 2, 3, 4] ((0)) rfl (by decide) trivial (by decide) (by decide) dX9_meets_31
  · have ic_4 : ¬ r_3.toInt = 0 := ine c_4 (rfl) (by decide)
    have kqr_3_0 : 0 ≤ x.toInt ∧ x.toInt ≤ 3 := qr_3_0 ic_4
    refine lv_iload_n hx hb dX9_meets_17 rfl (lv_at hl 2 rfl) ?_
    refine lv_i2l (v := y.toInt64) hx hb dX9_meets_18 rfl ?_
    refine lv_lconst (v := 0) hx hb dX9_meets_19 (by decide) ?_
    refine lv_ldc2 (v := 3) hx hb hown (htg _ wi_1366) dX9_meets_20 ?_
    have ilw_5 : (y.toInt64).toInt = y.toInt := i2l_i _
    refine xk_i (wr := [(sw_9 h0 g 0 b5 b6 b7 b8 b9 b10 b11 b12 b13 b14 b17 b18 b19 b23 b24 b25 b26 b27 b29 b31 b32 b33), (sw_in cT (g 0) 288 a0), (sw_in cT (g 11) 4 a11), (sw_in cT (g 12) 4 a12), (sw_lo cT (g 13) 160 a13)]) (xr_S (n := 3) (As := [.long y.toInt64, .long 0, .long 3]) (rest := []) ⟨hx, hb, hml, hown, htg⟩ hK hN hP hD hS hA [] rfl (by decide) (m_within l D cT _ (y.toInt64) (0) (3) (y.toInt) (0) (3) (i2l_i _) (by decide) (by decide)) wi_1270 wi_1271 wi_131 wi_1272 ⟨rfl, by decide +kernel⟩ ⟨Nat.le_of_ble_eq_true rfl, Nat.le_of_ble_eq_true rfl⟩ rfl hl.1 rfl (Nat.le_of_ble_eq_true rfl) dX9_meets_23 ⟨Nat.le_of_ble_eq_true rfl, Nat.le_of_ble_eq_true rfl⟩) hP hD hS hA [] [0, 1, 2, 3, 4] rfl rfl (by decide) (by decide) (fun r_7 u_6 H locs hwr_7 hP hD hS => ?_)
    obtain ⟨hP, hD⟩ : PD D A [(sw_9 h0 g 0 b5 b6 b7 b8 b9 b10 b11 b12 b13 b14 b17 b18 b19 b23 b24 b25 b26 b27 b29 b31 b32 b33), (sw_in cT (g 0) 288 a0), (sw_in cT (g 11) 4 a11), (sw_in cT (g 12) 4 a12), (sw_lo cT (g 13) 160 a13)] _ := ⟨hP, hD⟩
    have qr_7_0 : Imp (¬ r_7.toInt = 0) (0 ≤ y.toInt ∧ y.toInt ≤ 3) := hwr_7.1
    have qr_7_1 : r_7 = 0 ∨ r_7 = 1 := hwr_7.2.1
    refine lv_if_ne (tgt := 32) hx hb dX9_meets_26 (by decide) (fun c_8 => ?_) (fun c_8 => ?_)
    · have ic_8 : ¬ r_7.toInt = 0 := ine c_8 (rfl) (by decide)
      have kqr_7_0 : 0 ≤ y.toInt ∧ y.toInt ≤ 3 := qr_7_0 ic_8
      refine lv_aload_n hx hb dX9_meets_32 rfl (lv_at hl 0 rfl) ?_
      refine va_get (D := D) (ci := 9) (v := .ref (g 11)) (C := RX9) (T := TX9) (N := 37) hx hb htg gRX9 hown hK hP 0 rfl rfl 34 (by decide) (htg _ wi_1184) (fun _ h9 => h9) rfl dX9_meets_33 ?_
      refine lv_iload_n hx hb dX9_meets_36 rfl (lv_at hl 1 rfl) ?_
      refine va_iald hx hb hK hP 2 0 rfl rfl (vp_in_iff.mpr (by omega)) dX9_meets_37 ?_
      refine lv_topi (fun z_9 ez_9 => ?_)
      refine lv_iconst (v := (-1)) hx hb dX9_meets_38 (by decide) ?_
      refine lv_icmp_eq (tgt := 52) hx hb dX9_meets_39 (by decide) (fun c_10 => ?_) (fun c_10 => ?_)
      · have ic_10 : z_9.toInt = (-1) := ieq c_10 (rfl) (by decide)
        refine lv_bipush (v := (-6)) hx hb dX9_meets_52 (by decide) ?_
        exact x_iret hx hb hr hlk hP hD hS [0, 1, 2, 3, 4] ((0)) rfl (by decide) trivial (by decide) (by decide) dX9_meets_54
      · have ic_10 : ¬ z_9.toInt = (-1) := ine c_10 (rfl) (by decide)
        refine lv_aload_n hx hb dX9_meets_42 rfl (lv_at hl 0 rfl) ?_
        refine va_get (D := D) (ci := 9) (v := .ref (g 11)) (C := RX9) (T := TX9) (N := 37) hx hb htg gRX9 hown hK hP 0 rfl rfl 34 (by decide) (htg _ wi_1184) (fun _ h9 => h9) rfl dX9_meets_43 ?_
        refine lv_iload_n hx hb dX9_meets_46 rfl (lv_at hl 2 rfl) ?_
        refine va_iald hx hb hK hP 2 0 rfl rfl (vp_in_iff.mpr (by omega)) dX9_meets_47 ?_
        refine lv_topi (fun z_11 ez_11 => ?_)
        refine lv_iconst (v := (-1)) hx hb dX9_meets_48 (by decide) ?_
        refine lv_icmp_ne (tgt := 55) hx hb dX9_meets_49 (by decide) (fun c_12 => ?_) (fun c_12 => ?_)
        · have ic_12 : ¬ z_11.toInt = (-1) := ine c_12 (rfl) (by decide)
          refine lv_aload_n hx hb dX9_meets_55 rfl (lv_at hl 0 rfl) ?_
          refine lv_iload_n hx hb dX9_meets_56 rfl (lv_at hl 1 rfl) ?_
          refine xk_i (wr := [(sw_in cT (g 11) 4 a11)]) (xr_V (n := 1) (As := [.int x]) (rest := []) ⟨hx, hb, hml, hown, htg⟩ hK hN hP hD hS hA [0, 1, 3, 4] rfl (by decide) (m_canWalk l D cT _ (h0) (g) (0) (b5) (b6) (b7) (b8) (b9) (b10) (b11) (b12) (b13) (b14) (b17) (b18) (b19) (b23) (b24) (b25) (b26) (b27) (b29) (b31) (b32) (b33) (by first | assumption | omega | decide | exact Or.inl (by decide) | (intro h9; exact absurd h9 (by decide)) | (intro _; omega) | (intro _; assumption) | (intro _; decide)) (a0) (by first | assumption | omega | decide | exact Or.inl (by decide) | (intro h9; exact absurd h9 (by decide)) | (intro _; omega) | (intro _; assumption) | (intro _; decide)) (a12) (by first | assumption | omega | decide | exact Or.inl (by decide) | (intro h9; exact absurd h9 (by decide)) | (intro _; omega) | (intro _; assumption) | (intro _; decide)) (a13) (x) (by first | assumption | omega | decide | exact Or.inl (by decide) | (intro h9; exact absurd h9 (by decide)) | (intro _; omega) | (intro _; assumption) | (intro _; decide))) wi_1579 wi_1581 wi_116 wi_131 wi_1582 rfl rfl rfl ⟨rfl, by decide +kernel⟩ ⟨Nat.le_of_ble_eq_true rfl, Nat.le_of_ble_eq_true rfl⟩ rfl hl.1 rfl (Nat.le_of_ble_eq_true rfl) dX9_meets_57 ⟨Nat.le_of_ble_eq_true rfl, Nat.le_of_ble_eq_true rfl⟩) hP hD hS hA [0, 1, 3, 4] [2] rfl rfl (by decide) (by decide) (fun r_14 u_13 H locs hwr_14 hP hD hS => ?_)
          obtain ⟨hP, hD⟩ : PD D A [(sw_in cT (g 11) 4 a11), (sw_9 h0 g 0 b5 b6 b7 b8 b9 b10 b11 b12 b13 b14 b17 b18 b19 b23 b24 b25 b26 b27 b29 b31 b32 b33), (sw_in cT (g 0) 288 a0), (sw_in cT (g 12) 4 a12), (sw_lo cT (g 13) 160 a13)] _ := ⟨hP, hD⟩
          refine lv_if_ne (tgt := 66) hx hb dX9_meets_60 (by decide) (fun c_15 => ?_) (fun c_15 => ?_)
          · have ic_15 : ¬ r_14.toInt = 0 := ine c_15 (rfl) (by decide)
            refine lv_aload_n hx hb dX9_meets_66 rfl (lv_at hl 0 rfl) ?_
            refine va_get (D := D) (ci := 9) (v := .ref (g 0)) (C := RX9) (T := TX9) (N := 37) hx hb htg gRX9 hown hK hP 1 rfl rfl 1 (by decide) (htg _ wi_1151) (fun _ h9 => h9) rfl dX9_meets_67 ?_
            refine lv_iconst (v := 2) hx hb dX9_meets_70 (by decide) ?_
            refine va_iald hx hb hK hP 2 0 rfl rfl (by unfold vp_in; decide) dX9_meets_71 ?_
            refine lv_topi (fun z_16 ez_16 => ?_)
            have iz_16 : 0 ≤ z_16.toInt ∧ z_16.toInt ≤ 15 := by rw [ez_16]; exact rd2 pa0 (by decide) rfl
            have nz_16 : z_16.toInt = ((a0) 2).toInt := by rw [ez_16]; rfl
            refine lv_istore_n (lv' := [(3, .int z_16), (0, .ref h0), (1, .int x), (2, .int y)]) hx hb dX9_meets_72 rfl hl (by decide) rfl (fun ls hl => ?_)
            refine lv_iconst (v := 0) hx hb dX9_meets_73 (by decide) ?_
            refine lv_istore (lv' := [(4, .int 0), (3, .int z_16), (0, .ref h0), (1, .int x), (2, .int y)]) hx hb dX9_meets_74 hl (by decide) rfl (fun ls hl => ?_)
            refine (fun (key : ∀ (n9_76 : Nat) (k9_76 : Nat) (x9_76_3 : Int32) (H : Heap) (locs : List Loc) (ls : Array Slot), (k9_76 : Int) ≤ 40 → 40 < (k9_76 : Int) + n9_76 → PD D A [(sw_in cT (g 11) 4 a11), (sw_9 h0 g 0 b5 b6 b7 b8 b9 b10 b11 b12 b13 b14 b17 b18 b19 b23 b24 b25 b26 b27 b29 b31 b32 b33), (sw_in cT (g 0) 288 a0), (sw_in cT (g 12) 4 a12), (sw_lo cT (g 13) 160 a13)] H → va_S A s.heap H locs → lv_has ls 5 [(4, .int (nI k9_76)), (3, .int x9_76_3), (0, .ref h0), (1, .int x), (2, .int y)] → W p l e _ s m _ below meth c H locs _ _ _ (F0 m 76 ls [])) => key (Int.toNat (40 - 0) + 1) 0 _ _ _ _ (by omega) (by omega)  ⟨hP, hD⟩ hS (lv_sub hl [0, 1, 2, 3, 4] rfl)) ?_
            intro n9_76
            induction n9_76 with
            | zero => intro k9_76 x9_76_3 H locs ls hq1 hq2; exact absurd hq2 (by omega)
            | succ n9_76 ih_76 =>
              intro k9_76 x9_76_3 H locs ls hq1_76 hq2_76  hPD hS hl
              obtain ⟨hP, hD⟩ := hPD
              have hk9_76 : (nI k9_76).toInt = (k9_76 : Int) := nI_toInt (by omega)
              refine lv_iload hx hb dX9_meets_76 (lv_at hl 0 rfl) ?_
              refine lv_aload_n hx hb dX9_meets_78 rfl (lv_at hl 2 rfl) ?_
              refine va_get (D := D) (ci := 9) (v := .ref (g 12)) (C := RX9) (T := TX9) (N := 37) hx hb htg gRX9 hown hK hP 1 rfl rfl 35 (by decide) (htg _ wi_1185) (fun _ h9 => h9) rfl dX9_meets_79 ?_
              refine lv_iload_n hx hb dX9_meets_82 rfl (lv_at hl 3 rfl) ?_
              refine va_iald hx hb hK hP 3 0 rfl rfl (vp_in_iff.mpr (by omega)) dX9_meets_83 ?_
              refine lv_topi (fun z_17 ez_17 => ?_)
              have iz_17 : 0 ≤ z_17.toInt ∧ z_17.toInt ≤ 40 := by rw [ez_17]; exact e12 _ (in_lt (vp_in_iff.mpr (by omega)))
              refine lv_icmp_ge (tgt := 134) hx hb dX9_meets_84 (by decide) (fun c_18 => ?_) (fun c_18 => ?_)
              · have ic_18 : z_17.toInt ≤ ((k9_76 : Nat) : Int) := ile c_18 (rfl) (nI_toInt (by omega))
                refine lv_iconst (v := (-1)) hx hb dX9_meets_134 (by decide) ?_
                exact x_iret hx hb hr hlk hP hD hS [1, 2, 0, 3, 4] ((0)) rfl (by decide) trivial (by decide) (by decide) dX9_meets_135
              · have ic_18 : ((k9_76 : Nat) : Int) < z_17.toInt := inle c_18 (rfl) (nI_toInt (by omega))
                refine lv_iload_n hx hb dX9_meets_87 rfl (lv_at hl 1 rfl) ?_
                refine lv_aload_n hx hb dX9_meets_88 rfl (lv_at hl 2 rfl) ?_
                refine va_get (D := D) (ci := 9) (v := .ref (g 13)) (C := RX9) (T := TX9) (N := 37) hx hb htg gRX9 hown hK hP 1 rfl rfl 36 (by decide) (htg _ wi_1186) (fun _ h9 => h9) rfl dX9_meets_89 ?_
                refine lv_bipush (v := 40) hx hb dX9_meets_92 (by decide) ?_
                refine lv_iload_n hx hb dX9_meets_94 rfl (lv_at hl 3 rfl) ?_
                refine lv_imul hx hb dX9_meets_95 ?_
                refine lv_topi (fun z_19 ez_19 => ?_)
                have iz_19 : z_19.toInt = 40 * x.toInt := toInt_mulI ez_19 (by decide) (rfl) (by omega)
                refine lv_iload hx hb dX9_meets_96 (lv_at hl 0 rfl) ?_
                refine lv_iadd hx hb dX9_meets_98 ?_
                refine lv_topi (fun z_20 ez_20 => ?_)
                have iz_20 : z_20.toInt = z_19.toInt + ((k9_76 : Nat) : Int) := toInt_addI ez_20 (rfl) (nI_toInt (by omega)) (by omega)
                refine va_lald hx hb hK hP 4 1 rfl rfl (vp_in_iff.mpr (by omega)) dX9_meets_99 ?_
                refine lv_topl (fun z_21 ez_21 => ?_)
                refine xk_i (wr := [(sw_in cT (g 11) 4 a11), (sw_9 h0 g 0 b5 b6 b7 b8 b9 b10 b11 b12 b13 b14 b17 b18 b19 b23 b24 b25 b26 b27 b29 b31 b32 b33), (sw_in cT (g 0) 288 a0), (sw_in cT (g 12) 4 a12), (sw_lo cT (g 13) 160 a13)]) (xr_S (n := 2) (As := [.int x9_76_3, .long z_21]) (rest := []) ⟨hx, hb, hml, hown, htg⟩ hK hN hP hD hS hA [] rfl (by decide) (m_thenU l D cT _ (x9_76_3) (z_21)) wi_1421 wi_1422 wi_131 wi_1423 ⟨rfl, by decide +kernel⟩ ⟨Nat.le_of_ble_eq_true rfl, Nat.le_of_ble_eq_true rfl⟩ rfl hl.1 rfl (Nat.le_of_ble_eq_true rfl) dX9_meets_100 ⟨Nat.le_of_ble_eq_true rfl, Nat.le_of_ble_eq_true rfl⟩) hP hD hS hA [] [0, 1, 2, 3, 4] rfl rfl (by decide) (by decide) (fun r_23 u_22 H locs hwr_23 hP hD hS => ?_)
                obtain ⟨hP, hD⟩ : PD D A [(sw_in cT (g 11) 4 a11), (sw_9 h0 g 0 b5 b6 b7 b8 b9 b10 b11 b12 b13 b14 b17 b18 b19 b23 b24 b25 b26 b27 b29 b31 b32 b33), (sw_in cT (g 0) 288 a0), (sw_in cT (g 12) 4 a12), (sw_lo cT (g 13) 160 a13)] _ := ⟨hP, hD⟩
                refine lv_istore_n (lv' := [(3, .int r_23), (4, .int (nI k9_76)), (0, .ref h0), (1, .int x), (2, .int y)]) hx hb dX9_meets_103 rfl hl (by decide) rfl (fun ls hl => ?_)
                refine lv_iload_n hx hb dX9_meets_104 rfl (lv_at hl 0 rfl) ?_
                refine lv_aload_n hx hb dX9_meets_105 rfl (lv_at hl 2 rfl) ?_
                refine va_get (D := D) (ci := 9) (v := .ref (g 0)) (C := RX9) (T := TX9) (N := 37) hx hb htg gRX9 hown hK hP 1 rfl rfl 1 (by decide) (htg _ wi_1151) (fun _ h9 => h9) rfl dX9_meets_106 ?_
                refine lv_bipush (v := 8) hx hb dX9_meets_109 (by decide) ?_
                refine va_iald hx hb hK hP 2 0 rfl rfl (by unfold vp_in; decide) dX9_meets_111 ?_
                refine lv_topi (fun z_24 ez_24 => ?_)
                refine lv_icmp_ne (tgt := 128) hx hb dX9_meets_112 (by decide) (fun c_25 => ?_) (fun c_25 => ?_)
                · have ic_25 : ¬ r_23.toInt = z_24.toInt := ine c_25 (rfl) (rfl)
                  refine lv_iinc (v := (nI (k9_76 + 1))) (lv' := [(4, .int (nI (k9_76 + 1))), (3, .int r_23), (0, .ref h0), (1, .int x), (2, .int y)]) hx hb dX9_meets_128 hl (k := 1) rfl (by exact nI_1 (k9_76)) (by decide) rfl (fun ls hl => ?_)
                  refine lv_goto (tgt := 76) hx hb dX9_meets_131 (by decide) ?_
                  exact ih_76 (k9_76 + 1) _ _ _ _ (by omega) (by omega)  ⟨hP.sub [0, 1, 2, 3, 4] rfl, hD.sub [0, 1, 2, 3, 4] (by decide) rfl⟩ hS (lv_sub hl [0, 1, 2, 3, 4] rfl)
                · have ic_25 : r_23.toInt = z_24.toInt := ieq c_25 (rfl) (rfl)
                  refine lv_aload_n hx hb dX9_meets_115 rfl (lv_at hl 2 rfl) ?_
                  refine lv_iload_n hx hb dX9_meets_116 rfl (lv_at hl 4 rfl) ?_
                  refine lv_iload hx hb dX9_meets_117 (lv_at hl 1 rfl) ?_
                  refine xk_i (wr := [(sw_in cT (g 11) 4 a11), (sw_in cT (g 0) 288 a0)]) (xr_V (n := 2) (As := [.int y, .int (nI k9_76)]) (rest := []) ⟨hx, hb, hml, hown, htg⟩ hK hN hP hD hS hA [1, 3, 4] rfl (by decide) (m_isOther l D cT _ (h0) (g) (0) (b5) (b6) (b7) (b8) (b9) (b10) (b11) (b12) (b13) (b14) (b17) (b18) (b19) (b23) (b24) (b25) (b26) (b27) (b29) (b31) (b32) (b33) (by first | assumption | omega | decide | exact Or.inl (by decide) | (intro h9; exact absurd h9 (by decide)) | (intro _; omega) | (intro _; assumption) | (intro _; decide)) (a12) (by first | assumption | omega | decide | exact Or.inl (by decide) | (intro h9; exact absurd h9 (by decide)) | (intro _; omega) | (intro _; assumption) | (intro _; decide)) (a13) (y) ((nI k9_76)) (by first | assumption | omega | decide | exact Or.inl (by decide) | (intro h9; exact absurd h9 (by decide)) | (intro _; omega) | (intro _; assumption) | (intro _; decide)) (by first | assumption | omega | decide | exact Or.inl (by decide) | (intro h9; exact absurd h9 (by decide)) | (intro _; omega) | (intro _; assumption) | (intro _; decide))) wi_1583 wi_1585 wi_117 wi_131 wi_1586 rfl rfl rfl ⟨rfl, by decide +kernel⟩ ⟨Nat.le_of_ble_eq_true rfl, Nat.le_of_ble_eq_true rfl⟩ rfl hl.1 rfl (Nat.le_of_ble_eq_true rfl) dX9_meets_119 ⟨Nat.le_of_ble_eq_true rfl, Nat.le_of_ble_eq_true rfl⟩) hP hD hS hA [1, 3, 4] [0, 2] rfl rfl (by decide) (by decide) (fun r_27 u_26 H locs hwr_27 hP hD hS => ?_)
                  obtain ⟨hP, hD⟩ : PD D A [(sw_in cT (g 11) 4 a11), (sw_in cT (g 0) 288 a0), (sw_9 h0 g 0 b5 b6 b7 b8 b9 b10 b11 b12 b13 b14 b17 b18 b19 b23 b24 b25 b26 b27 b29 b31 b32 b33), (sw_in cT (g 12) 4 a12), (sw_lo cT (g 13) 160 a13)] _ := ⟨hP, hD⟩
                  refine lv_if_eq (tgt := 128) hx hb dX9_meets_122 (by decide) (fun c_28 => ?_) (fun c_28 => ?_)
                  · have ic_28 : r_27.toInt = 0 := ieq c_28 (rfl) (by decide)
                    refine lv_iinc (v := (nI (k9_76 + 1))) (lv' := [(4, .int (nI (k9_76 + 1))), (3, .int r_23), (0, .ref h0), (1, .int x), (2, .int y)]) hx hb dX9_meets_128 hl (k := 1) rfl (by exact nI_1 (k9_76)) (by decide) rfl (fun ls hl => ?_)
                    refine lv_goto (tgt := 76) hx hb dX9_meets_131 (by decide) ?_
                    exact ih_76 (k9_76 + 1) _ _ _ _ (by omega) (by omega)  ⟨hP.sub [0, 2, 1, 3, 4] rfl, hD.sub [0, 2, 1, 3, 4] (by decide) rfl⟩ hS (lv_sub hl [0, 1, 2, 3, 4] rfl)
                  · have ic_28 : ¬ r_27.toInt = 0 := ine c_28 (rfl) (by decide)
                    refine lv_iload hx hb dX9_meets_125 (lv_at hl 1 rfl) ?_
                    exact x_iret hx hb hr hlk hP hD hS [2, 1, 0, 3, 4] ((0)) rfl (by decide) trivial (by decide) (by decide) dX9_meets_127
          · have ic_15 : r_14.toInt = 0 := ieq c_15 (rfl) (by decide)
            refine lv_bipush (v := (-5)) hx hb dX9_meets_63 (by decide) ?_
            exact x_iret hx hb hr hlk hP hD hS [1, 2, 0, 3, 4] ((0)) rfl (by decide) trivial (by decide) (by decide) dX9_meets_65
        · have ic_12 : z_11.toInt = (-1) := ieq c_12 (rfl) (by decide)
          refine lv_bipush (v := (-6)) hx hb dX9_meets_52 (by decide) ?_
          exact x_iret hx hb hr hlk hP hD hS [0, 1, 2, 3, 4] ((0)) rfl (by decide) trivial (by decide) (by decide) dX9_meets_54
    · have ic_8 : r_7.toInt = 0 := ieq c_8 (rfl) (by decide)
      refine lv_bipush (v := (-2)) hx hb dX9_meets_29 (by decide) ?_
      exact x_iret hx hb hr hlk hP hD hS [0, 1, 2, 3, 4] ((0)) rfl (by decide) trivial (by decide) (by decide) dX9_meets_31
set_option maxHeartbeats 4000000 in
set_option maxRecDepth 100000 in
theorem m_meetBy (l : Launch) (D : va_G) (cT : Nat → ClassId) (sz : Nat) (h0 : Nat) (g : Nat → Nat) (b0 : Int32) (b5 : Int32) (b6 : Int32) (b7 : Int32) (b8 : Int32) (b9 : Int32) (b10 : Int32) (b11 : Int32) (b12 : Int32) (b13 : Int32) (b14 : Int32) (b17 : Int32) (b18 : Int32) (b19 : Int32) (b23 : Int32) (b24 : Int32) (b25 : Int32) (b26 : Int32) (b27 : Int32) (b29 : Int32) (b31 : Int32) (b32 : Int32) (b33 : Int32) (hb5 : 0 ≤ b5.toInt ∧ b5.toInt ≤ 900) (a0 : Nat → Int32) (pa0 : PI 288 a0) (a12 : Nat → Int32) (e12 : EL a12 4 0 40) (a13 : Nat → Int64) (x : Int32) (y : Int32) (z : Int32) (hx3 : 0 ≤ x.toInt ∧ x.toInt ≤ 3) (hy3 : 0 ≤ y.toInt ∧ y.toInt ≤ 3) (hz40 : 0 ≤ z.toInt ∧ z.toInt ≤ 40) : Met l yX9_meetBy (wsc yX9_meetBy cX9_meetBy 6 (some .boolean)) { frames := 3, cells := 0, slots := 0, locals := 122 } (va_Pc [.ref h0, .int x, .int y, .int z] (PX D cT sz [(sw_9 h0 g b0 b5 b6 b7 b8 b9 b10 b11 b12 b13 b14 b17 b18 b19 b23 b24 b25 b26 b27 b29 b31 b32 b33), (sw_in cT (g 0) 288 a0), (sw_in cT (g 12) 4 a12), (sw_lo cT (g 13) 160 a13)])) (va_Qi (fun (r : Int32) (u : Unit) => (True)) (fun u t => RW D (va_A [(sw_9 h0 g b0 b5 b6 b7 b8 b9 b10 b11 b12 b13 b14 b17 b18 b19 b23 b24 b25 b26 b27 b29 b31 b32 b33), (sw_in cT (g 0) 288 a0), (sw_in cT (g 12) 4 a12), (sw_lo cT (g 13) 160 a13)] sz) ((fun _ : Unit => [(sw_9 h0 g b0 b5 b6 b7 b8 b9 b10 b11 b12 b13 b14 b17 b18 b19 b23 b24 b25 b26 b27 b29 b31 b32 b33), (sw_in cT (g 0) 288 a0), (sw_in cT (g 12) 4 a12), (sw_lo cT (g 13) 160 a13)]) u) t) (va_A [(sw_9 h0 g b0 b5 b6 b7 b8 b9 b10 b11 b12 b13 b14 b17 b18 b19 b23 b24 b25 b26 b27 b29 b31 b32 b33), (sw_in cT (g 0) 288 a0), (sw_in cT (g 12) 4 a12), (sw_lo cT (g 13) 160 a13)] sz)) 0 0 (va_A [(sw_9 h0 g b0 b5 b6 b7 b8 b9 b10 b11 b12 b13 b14 b17 b18 b19 b23 b24 b25 b26 b27 b29 b31 b32 b33), (sw_in cT (g 0) 288 a0), (sw_in cT (g 12) 4 a12), (sw_lo cT (g 13) 160 a13)] sz) := by
  refine m_of (y := yX9_meetBy) (cc := cX9_meetBy) (nL := 6) (ret := (some .boolean)) (D := D) (cT := cT) (av := [.ref h0, .int x, .int y, .int z]) (wi := [(sw_9 h0 g b0 b5 b6 b7 b8 b9 b10 b11 b12 b13 b14 b17 b18 b19 b23 b24 b25 b26 b27 b29 b31 b32 b33), (sw_in cT (g 0) 288 a0), (sw_in cT (g 12) 4 a12), (sw_lo cT (g 13) 160 a13)]) (fun A => va_Qi (fun (r : Int32) (u : Unit) => (True)) (fun u t => RW D A ((fun _ : Unit => [(sw_9 h0 g b0 b5 b6 b7 b8 b9 b10 b11 b12 b13 b14 b17 b18 b19 b23 b24 b25 b26 b27 b29 b31 b32 b33), (sw_in cT (g 0) 288 a0), (sw_in cT (g 12) 4 a12), (sw_lo cT (g 13) 160 a13)]) u) t) A) (by decide) (Nat.le_of_ble_eq_true rfl) ?_
  intro p e s m below meth c A hx hb hml hown htg hK hN hr hlk hnm hsz hP hD hS hA ls hl
  have hown : s.vm.findClass RX9 = some m.cls := hown
  have hl : lv_has ls 6 [(0, .ref h0), (1, .int x), (2, .int y), (3, .int z)] := hl
  have tc_0 : (0 : Int32).toInt = 0 := by decide
  have tc_1 : (1 : Int32).toInt = 1 := by decide
  have tc_2 : (2 : Int32).toInt = 2 := by decide
  have tc_8 : (8 : Int32).toInt = 8 := by decide
  have tc_40 : (40 : Int32).toInt = 40 := by decide
  refine lv_aload_n hx hb dX9_meetBy_0 rfl (lv_at hl 0 rfl) ?_
  refine va_get (D := D) (ci := 9) (v := .ref (g 0)) (C := RX9) (T := TX9) (N := 37) hx hb htg gRX9 hown hK hP 0 rfl rfl 1 (by decide) (htg _ wi_1151) (fun _ h9 => h9) rfl dX9_meetBy_1 ?_
  refine lv_iconst (v := 2) hx hb dX9_meetBy_4 (by decide) ?_
  refine va_iald hx hb hK hP 1 0 rfl rfl (by unfold vp_in; decide) dX9_meetBy_5 ?_
  refine lv_topi (fun z_1 ez_1 => ?_)
  have iz_1 : 0 ≤ z_1.toInt ∧ z_1.toInt ≤ 15 := by rw [ez_1]; exact rd2 pa0 (by decide) rfl
  have nz_1 : z_1.toInt = ((a0) 2).toInt := by rw [ez_1]; rfl
  refine lv_istore (lv' := [(4, .int z_1), (0, .ref h0), (1, .int x), (2, .int y), (3, .int z)]) hx hb dX9_meetBy_6 hl (by decide) rfl (fun ls hl => ?_)
  refine lv_iconst (v := 0) hx hb dX9_meetBy_8 (by decide) ?_
  refine lv_istore (lv' := [(5, .int 0), (4, .int z_1), (0, .ref h0), (1, .int x), (2, .int y), (3, .int z)]) hx hb dX9_meetBy_9 hl (by decide) rfl (fun ls hl => ?_)
  refine (fun (key : ∀ (n9_11 : Nat) (k9_11 : Nat) (x9_11_4 : Int32) (H : Heap) (locs : List Loc) (ls : Array Slot), (k9_11 : Int) ≤ 80 → 80 < (k9_11 : Int) + n9_11 → PD D A [(sw_9 h0 g b0 b5 b6 b7 b8 b9 b10 b11 b12 b13 b14 b17 b18 b19 b23 b24 b25 b26 b27 b29 b31 b32 b33), (sw_in cT (g 0) 288 a0), (sw_in cT (g 12) 4 a12), (sw_lo cT (g 13) 160 a13)] H → va_S A s.heap H locs → lv_has ls 6 [(5, .int (nI k9_11)), (4, .int x9_11_4), (0, .ref h0), (1, .int x), (2, .int y), (3, .int z)] → W p l e _ s m _ below meth c H locs _ _ _ (F0 m 11 ls [])) => key (Int.toNat (80 - 0) + 1) 0 _ _ _ _ (by omega) (by omega)  ⟨hP, hD⟩ hS (lv_sub hl [0, 1, 2, 3, 4, 5] rfl)) ?_
  intro n9_11
  induction n9_11 with
  | zero => intro k9_11 x9_11_4 H locs ls hq1 hq2; exact absurd hq2 (by omega)
  | succ n9_11 ih_11 =>
    intro k9_11 x9_11_4 H locs ls hq1_11 hq2_11  hPD hS hl
    obtain ⟨hP, hD⟩ := hPD
    have hk9_11 : (nI k9_11).toInt = (k9_11 : Int) := nI_toInt (by omega)
    refine lv_iload hx hb dX9_meetBy_11 (lv_at hl 0 rfl) ?_
    refine lv_iload_n hx hb dX9_meetBy_13 rfl (lv_at hl 5 rfl) ?_
    refine lv_aload_n hx hb dX9_meetBy_14 rfl (lv_at hl 2 rfl) ?_
    refine va_get (D := D) (ci := 9) (v := .ref (g 12)) (C := RX9) (T := TX9) (N := 37) hx hb htg gRX9 hown hK hP 0 rfl rfl 35 (by decide) (htg _ wi_1185) (fun _ h9 => h9) rfl dX9_meetBy_15 ?_
    refine lv_iload_n hx hb dX9_meetBy_18 rfl (lv_at hl 3 rfl) ?_
    refine va_iald hx hb hK hP 2 0 rfl rfl (vp_in_iff.mpr (by omega)) dX9_meetBy_19 ?_
    refine lv_topi (fun z_2 ez_2 => ?_)
    have iz_2 : 0 ≤ z_2.toInt ∧ z_2.toInt ≤ 40 := by rw [ez_2]; exact e12 _ (in_lt (vp_in_iff.mpr (by omega)))
    refine lv_iadd hx hb dX9_meetBy_20 ?_
    refine lv_topi (fun z_3 ez_3 => ?_)
    have iz_3 : z_3.toInt = z.toInt + z_2.toInt := toInt_addI ez_3 (rfl) (rfl) (by omega)
    refine lv_icmp_ge (tgt := 81) hx hb dX9_meetBy_21 (by decide) (fun c_4 => ?_) (fun c_4 => ?_)
    · have ic_4 : z_3.toInt ≤ ((k9_11 : Nat) : Int) := ile c_4 (rfl) (nI_toInt (by omega))
      refine lv_iconst (v := 0) hx hb dX9_meetBy_81 (by decide) ?_
      exact x_zret hx hb hr hlk hP hD hS [0, 1, 2, 3] (()) rfl (by decide) rfl trivial (by decide) (by decide) dX9_meetBy_82
    · have ic_4 : ((k9_11 : Nat) : Int) < z_3.toInt := inle c_4 (rfl) (nI_toInt (by omega))
      refine lv_iload hx hb dX9_meetBy_24 (lv_at hl 0 rfl) ?_
      refine lv_iload_n hx hb dX9_meetBy_26 rfl (lv_at hl 5 rfl) ?_
      refine lv_icmp_lt (tgt := 51) hx hb dX9_meetBy_27 (by decide) (fun c_5 => ?_) (fun c_5 => ?_)
      · have ic_5 : ((k9_11 : Nat) : Int) < z.toInt := ilt c_5 (nI_toInt (by omega)) (rfl)
        refine lv_iload hx hb dX9_meetBy_51 (lv_at hl 1 rfl) ?_
        refine lv_aload_n hx hb dX9_meetBy_53 rfl (lv_at hl 2 rfl) ?_
        refine va_get (D := D) (ci := 9) (v := .ref (g 0)) (C := RX9) (T := TX9) (N := 37) hx hb htg gRX9 hown hK hP 0 rfl rfl 1 (by decide) (htg _ wi_1151) (fun _ h9 => h9) rfl dX9_meetBy_54 ?_
        refine lv_bipush (v := 8) hx hb dX9_meetBy_57 (by decide) ?_
        refine va_iald hx hb hK hP 1 0 rfl rfl (by unfold vp_in; decide) dX9_meetBy_59 ?_
        refine lv_topi (fun z_6 ez_6 => ?_)
        refine lv_icmp_ne (tgt := 75) hx hb dX9_meetBy_60 (by decide) (fun c_7 => ?_) (fun c_7 => ?_)
        · have ic_7 : ¬ x9_11_4.toInt = z_6.toInt := ine c_7 (rfl) (rfl)
          refine lv_iinc (v := (nI (k9_11 + 1))) (lv' := [(5, .int (nI (k9_11 + 1))), (4, .int x9_11_4), (0, .ref h0), (1, .int x), (2, .int y), (3, .int z)]) hx hb dX9_meetBy_75 hl (k := 0) rfl (by exact nI_1 (k9_11)) (by decide) rfl (fun ls hl => ?_)
          refine lv_goto (tgt := 11) hx hb dX9_meetBy_78 (by decide) ?_
          exact ih_11 (k9_11 + 1) _ _ _ _ (by omega) (by omega)  ⟨hP.sub [0, 1, 2, 3] rfl, hD.sub [0, 1, 2, 3] (by decide) rfl⟩ hS (lv_sub hl [0, 1, 2, 3, 4, 5] rfl)
        · have ic_7 : x9_11_4.toInt = z_6.toInt := ieq c_7 (rfl) (rfl)
          refine lv_aload_n hx hb dX9_meetBy_63 rfl (lv_at hl 2 rfl) ?_
          refine lv_iload_n hx hb dX9_meetBy_64 rfl (lv_at hl 4 rfl) ?_
          refine lv_iload hx hb dX9_meetBy_65 (lv_at hl 0 rfl) ?_
          refine xk_i (wr := [(sw_in cT (g 0) 288 a0)]) (xr_V (n := 2) (As := [.int y, .int (nI k9_11)]) (rest := []) ⟨hx, hb, hml, hown, htg⟩ hK hN hP hD hS hA [0, 2, 3] rfl (by decide) (m_isOther l D cT _ (h0) (g) (b0) (b5) (b6) (b7) (b8) (b9) (b10) (b11) (b12) (b13) (b14) (b17) (b18) (b19) (b23) (b24) (b25) (b26) (b27) (b29) (b31) (b32) (b33) (by first | assumption | omega | decide | exact Or.inl (by decide) | (intro h9; exact absurd h9 (by decide)) | (intro _; omega) | (intro _; assumption) | (intro _; decide)) (a12) (by first | assumption | omega | decide | exact Or.inl (by decide) | (intro h9; exact absurd h9 (by decide)) | (intro _; omega) | (intro _; assumption) | (intro _; decide)) (a13) (y) ((nI k9_11)) (by first | assumption | omega | decide | exact Or.inl (by decide) | (intro h9; exact absurd h9 (by decide)) | (intro _; omega) | (intro _; assumption) | (intro _; decide)) (by first | assumption | omega | decide | exact Or.inl (by decide) | (intro h9; exact absurd h9 (by decide)) | (intro _; omega) | (intro _; assumption) | (intro _; decide))) wi_1583 wi_1585 wi_117 wi_131 wi_1586 rfl rfl rfl ⟨rfl, by decide +kernel⟩ ⟨Nat.le_of_ble_eq_true rfl, Nat.le_of_ble_eq_true rfl⟩ rfl hl.1 rfl (Nat.le_of_ble_eq_true rfl) dX9_meetBy_67 ⟨Nat.le_of_ble_eq_true rfl, Nat.le_of_ble_eq_true rfl⟩) hP hD hS hA [0, 2, 3] [1] rfl rfl (by decide) (by decide) (fun r_9 u_8 H locs hwr_9 hP hD hS => ?_)
          obtain ⟨hP, hD⟩ : PD D A [(sw_in cT (g 0) 288 a0), (sw_9 h0 g b0 b5 b6 b7 b8 b9 b10 b11 b12 b13 b14 b17 b18 b19 b23 b24 b25 b26 b27 b29 b31 b32 b33), (sw_in cT (g 12) 4 a12), (sw_lo cT (g 13) 160 a13)] _ := ⟨hP, hD⟩
          refine lv_if_eq (tgt := 75) hx hb dX9_meetBy_70 (by decide) (fun c_10 => ?_) (fun c_10 => ?_)
          · have ic_10 : r_9.toInt = 0 := ieq c_10 (rfl) (by decide)
            refine lv_iinc (v := (nI (k9_11 + 1))) (lv' := [(5, .int (nI (k9_11 + 1))), (4, .int x9_11_4), (0, .ref h0), (1, .int x), (2, .int y), (3, .int z)]) hx hb dX9_meetBy_75 hl (k := 0) rfl (by exact nI_1 (k9_11)) (by decide) rfl (fun ls hl => ?_)
            refine lv_goto (tgt := 11) hx hb dX9_meetBy_78 (by decide) ?_
            exact ih_11 (k9_11 + 1) _ _ _ _ (by omega) (by omega)  ⟨hP.sub [1, 0, 2, 3] rfl, hD.sub [1, 0, 2, 3] (by decide) rfl⟩ hS (lv_sub hl [0, 1, 2, 3, 4, 5] rfl)
          · have ic_10 : ¬ r_9.toInt = 0 := ine c_10 (rfl) (by decide)
            refine lv_iconst (v := 1) hx hb dX9_meetBy_73 (by decide) ?_
            exact x_zret hx hb hr hlk hP hD hS [1, 0, 2, 3] (()) rfl (by decide) rfl trivial (by decide) (by decide) dX9_meetBy_74
      · have ic_5 : z.toInt ≤ ((k9_11 : Nat) : Int) := inlt c_5 (nI_toInt (by omega)) (rfl)
        refine lv_iload hx hb dX9_meetBy_30 (lv_at hl 1 rfl) ?_
        refine lv_aload_n hx hb dX9_meetBy_32 rfl (lv_at hl 2 rfl) ?_
        refine va_get (D := D) (ci := 9) (v := .ref (g 13)) (C := RX9) (T := TX9) (N := 37) hx hb htg gRX9 hown hK hP 0 rfl rfl 36 (by decide) (htg _ wi_1186) (fun _ h9 => h9) rfl dX9_meetBy_33 ?_
        refine lv_bipush (v := 40) hx hb dX9_meetBy_36 (by decide) ?_
        refine lv_iload_n hx hb dX9_meetBy_38 rfl (lv_at hl 3 rfl) ?_
        refine lv_imul hx hb dX9_meetBy_39 ?_
        refine lv_topi (fun z_11 ez_11 => ?_)
        have iz_11 : z_11.toInt = 40 * x.toInt := toInt_mulI ez_11 (by decide) (rfl) (by omega)
        refine lv_iload hx hb dX9_meetBy_40 (lv_at hl 0 rfl) ?_
        refine lv_iadd hx hb dX9_meetBy_42 ?_
        refine lv_topi (fun z_12 ez_12 => ?_)
        have iz_12 : z_12.toInt = z_11.toInt + ((k9_11 : Nat) : Int) := toInt_addI ez_12 (rfl) (nI_toInt (by omega)) (by omega)
        refine lv_iload_n hx hb dX9_meetBy_43 rfl (lv_at hl 5 rfl) ?_
        refine lv_isub hx hb dX9_meetBy_44 ?_
        refine lv_topi (fun z_13 ez_13 => ?_)
        have iz_13 : z_13.toInt = z_12.toInt - z.toInt := toInt_subI ez_13 (rfl) (rfl) (by omega)
        refine va_lald hx hb hK hP 3 1 rfl rfl (vp_in_iff.mpr (by omega)) dX9_meetBy_45 ?_
        refine lv_topl (fun z_14 ez_14 => ?_)
        refine xk_i (wr := [(sw_9 h0 g b0 b5 b6 b7 b8 b9 b10 b11 b12 b13 b14 b17 b18 b19 b23 b24 b25 b26 b27 b29 b31 b32 b33), (sw_in cT (g 0) 288 a0), (sw_in cT (g 12) 4 a12), (sw_lo cT (g 13) 160 a13)]) (xr_S (n := 2) (As := [.int x9_11_4, .long z_14]) (rest := []) ⟨hx, hb, hml, hown, htg⟩ hK hN hP hD hS hA [] rfl (by decide) (m_thenU l D cT _ (x9_11_4) (z_14)) wi_1421 wi_1422 wi_131 wi_1423 ⟨rfl, by decide +kernel⟩ ⟨Nat.le_of_ble_eq_true rfl, Nat.le_of_ble_eq_true rfl⟩ rfl hl.1 rfl (Nat.le_of_ble_eq_true rfl) dX9_meetBy_46 ⟨Nat.le_of_ble_eq_true rfl, Nat.le_of_ble_eq_true rfl⟩) hP hD hS hA [] [0, 1, 2, 3] rfl rfl (by decide) (by decide) (fun r_16 u_15 H locs hwr_16 hP hD hS => ?_)
        obtain ⟨hP, hD⟩ : PD D A [(sw_9 h0 g b0 b5 b6 b7 b8 b9 b10 b11 b12 b13 b14 b17 b18 b19 b23 b24 b25 b26 b27 b29 b31 b32 b33), (sw_in cT (g 0) 288 a0), (sw_in cT (g 12) 4 a12), (sw_lo cT (g 13) 160 a13)] _ := ⟨hP, hD⟩
        refine lv_istore (lv' := [(4, .int r_16), (5, .int (nI k9_11)), (0, .ref h0), (1, .int x), (2, .int y), (3, .int z)]) hx hb dX9_meetBy_49 hl (by decide) rfl (fun ls hl => ?_)
        refine lv_iload hx hb dX9_meetBy_51 (lv_at hl 0 rfl) ?_
        refine lv_aload_n hx hb dX9_meetBy_53 rfl (lv_at hl 2 rfl) ?_
        refine va_get (D := D) (ci := 9) (v := .ref (g 0)) (C := RX9) (T := TX9) (N := 37) hx hb htg gRX9 hown hK hP 0 rfl rfl 1 (by decide) (htg _ wi_1151) (fun _ h9 => h9) rfl dX9_meetBy_54 ?_
        refine lv_bipush (v := 8) hx hb dX9_meetBy_57 (by decide) ?_
        refine va_iald hx hb hK hP 1 0 rfl rfl (by unfold vp_in; decide) dX9_meetBy_59 ?_
        refine lv_topi (fun z_17 ez_17 => ?_)
        refine lv_icmp_ne (tgt := 75) hx hb dX9_meetBy_60 (by decide) (fun c_18 => ?_) (fun c_18 => ?_)
        · have ic_18 : ¬ r_16.toInt = z_17.toInt := ine c_18 (rfl) (rfl)
          refine lv_iinc (v := (nI (k9_11 + 1))) (lv' := [(5, .int (nI (k9_11 + 1))), (4, .int r_16), (0, .ref h0), (1, .int x), (2, .int y), (3, .int z)]) hx hb dX9_meetBy_75 hl (k := 1) rfl (by exact nI_1 (k9_11)) (by decide) rfl (fun ls hl => ?_)
          refine lv_goto (tgt := 11) hx hb dX9_meetBy_78 (by decide) ?_
          exact ih_11 (k9_11 + 1) _ _ _ _ (by omega) (by omega)  ⟨hP.sub [0, 1, 2, 3] rfl, hD.sub [0, 1, 2, 3] (by decide) rfl⟩ hS (lv_sub hl [0, 1, 2, 3, 4, 5] rfl)
        · have ic_18 : r_16.toInt = z_17.toInt := ieq c_18 (rfl) (rfl)
          refine lv_aload_n hx hb dX9_meetBy_63 rfl (lv_at hl 2 rfl) ?_
          refine lv_iload_n hx hb dX9_meetBy_64 rfl (lv_at hl 4 rfl) ?_
          refine lv_iload hx hb dX9_meetBy_65 (lv_at hl 1 rfl) ?_
          refine xk_i (wr := [(sw_in cT (g 0) 288 a0)]) (xr_V (n := 2) (As := [.int y, .int (nI k9_11)]) (rest := []) ⟨hx, hb, hml, hown, htg⟩ hK hN hP hD hS hA [0, 2, 3] rfl (by decide) (m_isOther l D cT _ (h0) (g) (b0) (b5) (b6) (b7) (b8) (b9) (b10) (b11) (b12) (b13) (b14) (b17) (b18) (b19) (b23) (b24) (b25) (b26) (b27) (b29) (b31) (b32) (b33) (by first | assumption | omega | decide | exact Or.inl (by decide) | (intro h9; exact absurd h9 (by decide)) | (intro _; omega) | (intro _; assumption) | (intro _; decide)) (a12) (by first | assumption | omega | decide | exact Or.inl (by decide) | (intro h9; exact absurd h9 (by decide)) | (intro _; omega) | (intro _; assumption) | (intro _; decide)) (a13) (y) ((nI k9_11)) (by first | assumption | omega | decide | exact Or.inl (by decide) | (intro h9; exact absurd h9 (by decide)) | (intro _; omega) | (intro _; assumption) | (intro _; decide)) (by first | assumption | omega | decide | exact Or.inl (by decide) | (intro h9; exact absurd h9 (by decide)) | (intro _; omega) | (intro _; assumption) | (intro _; decide))) wi_1583 wi_1585 wi_117 wi_131 wi_1586 rfl rfl rfl ⟨rfl, by decide +kernel⟩ ⟨Nat.le_of_ble_eq_true rfl, Nat.le_of_ble_eq_true rfl⟩ rfl hl.1 rfl (Nat.le_of_ble_eq_true rfl) dX9_meetBy_67 ⟨Nat.le_of_ble_eq_true rfl, Nat.le_of_ble_eq_true rfl⟩) hP hD hS hA [0, 2, 3] [1] rfl rfl (by decide) (by decide) (fun r_20 u_19 H locs hwr_20 hP hD hS => ?_)
          obtain ⟨hP, hD⟩ : PD D A [(sw_in cT (g 0) 288 a0), (sw_9 h0 g b0 b5 b6 b7 b8 b9 b10 b11 b12 b13 b14 b17 b18 b19 b23 b24 b25 b26 b27 b29 b31 b32 b33), (sw_in cT (g 12) 4 a12), (sw_lo cT (g 13) 160 a13)] _ := ⟨hP, hD⟩
          refine lv_if_eq (tgt := 75) hx hb dX9_meetBy_70 (by decide) (fun c_21 => ?_) (fun c_21 => ?_)
          · have ic_21 : r_20.toInt = 0 := ieq c_21 (rfl) (by decide)
            refine lv_iinc (v := (nI (k9_11 + 1))) (lv' := [(5, .int (nI (k9_11 + 1))), (4, .int r_16), (0, .ref h0), (1, .int x), (2, .int y), (3, .int z)]) hx hb dX9_meetBy_75 hl (k := 1) rfl (by exact nI_1 (k9_11)) (by decide) rfl (fun ls hl => ?_)
            refine lv_goto (tgt := 11) hx hb dX9_meetBy_78 (by decide) ?_
            exact ih_11 (k9_11 + 1) _ _ _ _ (by omega) (by omega)  ⟨hP.sub [1, 0, 2, 3] rfl, hD.sub [1, 0, 2, 3] (by decide) rfl⟩ hS (lv_sub hl [0, 1, 2, 3, 4, 5] rfl)
          · have ic_21 : ¬ r_20.toInt = 0 := ine c_21 (rfl) (by decide)
            refine lv_iconst (v := 1) hx hb dX9_meetBy_73 (by decide) ?_
            exact x_zret hx hb hr hlk hP hD hS [1, 0, 2, 3] (()) rfl (by decide) rfl trivial (by decide) (by decide) dX9_meetBy_74
set_option maxHeartbeats 4000000 in
set_option maxRecDepth 100000 in
theorem m_delay (l : Launch) (D : va_G) (cT : Nat → ClassId) (sz : Nat) (h0 : Nat) (g : Nat → Nat) (b0 : Int32) (b5 : Int32) (b6 : Int32) (b7 : Int32) (b8 : Int32) (b9 : Int32) (b10 : Int32) (b11 : Int32) (b12 : Int32) (b13 : Int32) (b14 : Int32) (b17 : Int32) (b18 : Int32) (b19 : Int32) (b23 : Int32) (b24 : Int32) (b25 : Int32) (b26 : Int32) (b27 : Int32) (b29 : Int32) (b31 : Int32) (b32 : Int32) (b33 : Int32) (hb5 : 0 ≤ b5.toInt ∧ b5.toInt ≤ 900) (a0 : Nat → Int32) (pa0 : PI 288 a0) (a11 : Nat → Int32) (a12 : Nat → Int32) (e12 : EL a12 4 0 40) (a13 : Nat → Int64) (x : Int32) (y : Int32) : Met l yX9_delay (wsc yX9_delay cX9_delay 4 (some .int)) { frames := 5, cells := 0, slots := 0, locals := 171 } (va_Pc [.ref h0, .int x, .int y] (PX D cT sz [(sw_9 h0 g b0 b5 b6 b7 b8 b9 b10 b11 b12 b13 b14 b17 b18 b19 b23 b24 b25 b26 b27 b29 b31 b32 b33), (sw_in cT (g 0) 288 a0), (sw_in cT (g 11) 4 a11), (sw_in cT (g 12) 4 a12), (sw_lo cT (g 13) 160 a13)])) (va_Qi (fun (r : Int32) (u : Int32) => (True)) (fun u t => RW D (va_A [(sw_9 h0 g b0 b5 b6 b7 b8 b9 b10 b11 b12 b13 b14 b17 b18 b19 b23 b24 b25 b26 b27 b29 b31 b32 b33), (sw_in cT (g 0) 288 a0), (sw_in cT (g 11) 4 a11), (sw_in cT (g 12) 4 a12), (sw_lo cT (g 13) 160 a13)] sz) ((fun u : Int32 => [(sw_9 h0 g u b5 b6 b7 b8 b9 b10 b11 b12 b13 b14 b17 b18 b19 b23 b24 b25 b26 b27 b29 b31 b32 b33), (sw_in cT (g 0) 288 a0), (sw_in cT (g 11) 4 a11), (sw_in cT (g 12) 4 a12), (sw_lo cT (g 13) 160 a13)]) u) t) (va_A [(sw_9 h0 g b0 b5 b6 b7 b8 b9 b10 b11 b12 b13 b14 b17 b18 b19 b23 b24 b25 b26 b27 b29 b31 b32 b33), (sw_in cT (g 0) 288 a0), (sw_in cT (g 11) 4 a11), (sw_in cT (g 12) 4 a12), (sw_lo cT (g 13) 160 a13)] sz)) 0 0 (va_A [(sw_9 h0 g b0 b5 b6 b7 b8 b9 b10 b11 b12 b13 b14 b17 b18 b19 b23 b24 b25 b26 b27 b29 b31 b32 b33), (sw_in cT (g 0) 288 a0), (sw_in cT (g 11) 4 a11), (sw_in cT (g 12) 4 a12), (sw_lo cT (g 13) 160 a13)] sz) := by
  refine m_of (y := yX9_delay) (cc := cX9_delay) (nL := 4) (ret := (some .int)) (D := D) (cT := cT) (av := [.ref h0, .int x, .int y]) (wi := [(sw_9 h0 g b0 b5 b6 b7 b8 b9 b10 b11 b12 b13 b14 b17 b18 b19 b23 b24 b25 b26 b27 b29 b31 b32 b33), (sw_in cT (g 0) 288 a0), (sw_in cT (g 11) 4 a11), (sw_in cT (g 12) 4 a12), (sw_lo cT (g 13) 160 a13)]) (fun A => va_Qi (fun (r : Int32) (u : Int32) => (True)) (fun u t => RW D A ((fun u : Int32 => [(sw_9 h0 g u b5 b6 b7 b8 b9 b10 b11 b12 b13 b14 b17 b18 b19 b23 b24 b25 b26 b27 b29 b31 b32 b33), (sw_in cT (g 0) 288 a0), (sw_in cT (g 11) 4 a11), (sw_in cT (g 12) 4 a12), (sw_lo cT (g 13) 160 a13)]) u) t) A) (by decide) (Nat.le_of_ble_eq_true rfl) ?_
  intro p e s m below meth c A hx hb hml hown htg hK hN hr hlk hnm hsz hP hD hS hA ls hl
  have hown : s.vm.findClass RX9 = some m.cls := hown
  have hl : lv_has ls 4 [(0, .ref h0), (1, .int x), (2, .int y)] := hl
  have tc_m6 : ((-6) : Int32).toInt = (-6) := by decide
  have tc_m5 : ((-5) : Int32).toInt = (-5) := by decide
  have tc_m2 : ((-2) : Int32).toInt = (-2) := by decide
  have tc_m1 : ((-1) : Int32).toInt = (-1) := by decide
  have tc_0 : (0 : Int32).toInt = 0 := by decide
  have tc_40 : (40 : Int32).toInt = 40 := by decide
  refine lv_aload_n hx hb dX9_delay_0 rfl (lv_at hl 0 rfl) ?_
  refine lv_iconst (v := 0) hx hb dX9_delay_1 (by decide) ?_
  refine va_put (D := D) (ci := 9) (v := .int 0) (ty := .int) (C := RX9) (T := TX9) (N := 37) hx hb htg gRX9 tyX9 tyX9_ok nmX9 hown hK hP hD hS 0 rfl rfl 0 (by decide) (htg _ wi_1150) (fun _ h9 => h9) rfl (by decide +kernel) rfl rfl (Nat.le_of_ble_eq_true rfl) dX9_delay_2 (fun H locs hP hD hS => ?_)
  obtain ⟨hP, hD⟩ : PD D A [(sw_9 h0 g 0 b5 b6 b7 b8 b9 b10 b11 b12 b13 b14 b17 b18 b19 b23 b24 b25 b26 b27 b29 b31 b32 b33), (sw_in cT (g 0) 288 a0), (sw_in cT (g 11) 4 a11), (sw_in cT (g 12) 4 a12), (sw_lo cT (g 13) 160 a13)] _ := ⟨hP, hD⟩
  refine lv_iload_n hx hb dX9_delay_5 rfl (lv_at hl 1 rfl) ?_
  refine lv_i2l (v := x.toInt64) hx hb dX9_delay_6 rfl ?_
  refine lv_lconst (v := 0) hx hb dX9_delay_7 (by decide) ?_
  refine lv_ldc2 (v := 3) hx hb hown (htg _ wi_1366) dX9_delay_8 ?_
  have ilw_1 : (x.toInt64).toInt = x.toInt := i2l_i _
  refine xk_i (wr := [(sw_9 h0 g 0 b5 b6 b7 b8 b9 b10 b11 b12 b13 b14 b17 b18 b19 b23 b24 b25 b26 b27 b29 b31 b32 b33), (sw_in cT (g 0) 288 a0), (sw_in cT (g 11) 4 a11), (sw_in cT (g 12) 4 a12), (sw_lo cT (g 13) 160 a13)]) (xr_S (n := 3) (As := [.long x.toInt64, .long 0, .long 3]) (rest := []) ⟨hx, hb, hml, hown, htg⟩ hK hN hP hD hS hA [] rfl (by decide) (m_within l D cT _ (x.toInt64) (0) (3) (x.toInt) (0) (3) (i2l_i _) (by decide) (by decide)) wi_1270 wi_1271 wi_131 wi_1272 ⟨rfl, by decide +kernel⟩ ⟨Nat.le_of_ble_eq_true rfl, Nat.le_of_ble_eq_true rfl⟩ rfl hl.1 rfl (Nat.le_of_ble_eq_true rfl) dX9_delay_11 ⟨Nat.le_of_ble_eq_true rfl, Nat.le_of_ble_eq_true rfl⟩) hP hD hS hA [] [0, 1, 2, 3, 4] rfl rfl (by decide) (by decide) (fun r_3 u_2 H locs hwr_3 hP hD hS => ?_)
  obtain ⟨hP, hD⟩ : PD D A [(sw_9 h0 g 0 b5 b6 b7 b8 b9 b10 b11 b12 b13 b14 b17 b18 b19 b23 b24 b25 b26 b27 b29 b31 b32 b33), (sw_in cT (g 0) 288 a0), (sw_in cT (g 11) 4 a11), (sw_in cT (g 12) 4 a12), (sw_lo cT (g 13) 160 a13)] _ := ⟨hP, hD⟩
  have qr_3_0 : Imp (¬ r_3.toInt = 0) (0 ≤ x.toInt ∧ x.toInt ≤ 3) := hwr_3.1
  have qr_3_1 : r_3 = 0 ∨ r_3 = 1 := hwr_3.2.1
  refine lv_if_eq (tgt := 29) hx hb dX9_delay_14 (by decide) (fun c_4 => ?_) (fun c_4 => ?_)
  · have ic_4 : r_3.toInt = 0 := ieq c_4 (rfl) (by decide)
    refine lv_bipush (v := (-2)) hx hb dX9_delay_29 (by decide) ?_
    exact x_iret hx hb hr hlk hP hD hS [0, 1, 2, 3, 4] ((0)) rfl (by decide) trivial (by decide) (by decide) dX9_delay_31
  · have ic_4 : ¬ r_3.toInt = 0 := ine c_4 (rfl) (by decide)
    have kqr_3_0 : 0 ≤ x.toInt ∧ x.toInt ≤ 3 := qr_3_0 ic_4
    refine lv_iload_n hx hb dX9_delay_17 rfl (lv_at hl 2 rfl) ?_
    refine lv_i2l (v := y.toInt64) hx hb dX9_delay_18 rfl ?_
    refine lv_lconst (v := 0) hx hb dX9_delay_19 (by decide) ?_
    refine lv_ldc2 (v := 3) hx hb hown (htg _ wi_1366) dX9_delay_20 ?_
    have ilw_5 : (y.toInt64).toInt = y.toInt := i2l_i _
    refine xk_i (wr := [(sw_9 h0 g 0 b5 b6 b7 b8 b9 b10 b11 b12 b13 b14 b17 b18 b19 b23 b24 b25 b26 b27 b29 b31 b32 b33), (sw_in cT (g 0) 288 a0), (sw_in cT (g 11) 4 a11), (sw_in cT (g 12) 4 a12), (sw_lo cT (g 13) 160 a13)]) (xr_S (n := 3) (As := [.long y.toInt64, .long 0, .long 3]) (rest := []) ⟨hx, hb, hml, hown, htg⟩ hK hN hP hD hS hA [] rfl (by decide) (m_within l D cT _ (y.toInt64) (0) (3) (y.toInt) (0) (3) (i2l_i _) (by decide) (by decide)) wi_1270 wi_1271 wi_131 wi_1272 ⟨rfl, by decide +kernel⟩ ⟨Nat.le_of_ble_eq_true rfl, Nat.le_of_ble_eq_true rfl⟩ rfl hl.1 rfl (Nat.le_of_ble_eq_true rfl) dX9_delay_23 ⟨Nat.le_of_ble_eq_true rfl, Nat.le_of_ble_eq_true rfl⟩) hP hD hS hA [] [0, 1, 2, 3, 4] rfl rfl (by decide) (by decide) (fun r_7 u_6 H locs hwr_7 hP hD hS => ?_)
    obtain ⟨hP, hD⟩ : PD D A [(sw_9 h0 g 0 b5 b6 b7 b8 b9 b10 b11 b12 b13 b14 b17 b18 b19 b23 b24 b25 b26 b27 b29 b31 b32 b33), (sw_in cT (g 0) 288 a0), (sw_in cT (g 11) 4 a11), (sw_in cT (g 12) 4 a12), (sw_lo cT (g 13) 160 a13)] _ := ⟨hP, hD⟩
    have qr_7_0 : Imp (¬ r_7.toInt = 0) (0 ≤ y.toInt ∧ y.toInt ≤ 3) := hwr_7.1
    have qr_7_1 : r_7 = 0 ∨ r_7 = 1 := hwr_7.2.1
    refine lv_if_ne (tgt := 32) hx hb dX9_delay_26 (by decide) (fun c_8 => ?_) (fun c_8 => ?_)
    · have ic_8 : ¬ r_7.toInt = 0 := ine c_8 (rfl) (by decide)
      have kqr_7_0 : 0 ≤ y.toInt ∧ y.toInt ≤ 3 := qr_7_0 ic_8
      refine lv_aload_n hx hb dX9_delay_32 rfl (lv_at hl 0 rfl) ?_
      refine va_get (D := D) (ci := 9) (v := .ref (g 11)) (C := RX9) (T := TX9) (N := 37) hx hb htg gRX9 hown hK hP 0 rfl rfl 34 (by decide) (htg _ wi_1184) (fun _ h9 => h9) rfl dX9_delay_33 ?_
      refine lv_iload_n hx hb dX9_delay_36 rfl (lv_at hl 1 rfl) ?_
      refine va_iald hx hb hK hP 2 0 rfl rfl (vp_in_iff.mpr (by omega)) dX9_delay_37 ?_
      refine lv_topi (fun z_9 ez_9 => ?_)
      refine lv_iconst (v := (-1)) hx hb dX9_delay_38 (by decide) ?_
      refine lv_icmp_eq (tgt := 52) hx hb dX9_delay_39 (by decide) (fun c_10 => ?_) (fun c_10 => ?_)
      · have ic_10 : z_9.toInt = (-1) := ieq c_10 (rfl) (by decide)
        refine lv_bipush (v := (-6)) hx hb dX9_delay_52 (by decide) ?_
        exact x_iret hx hb hr hlk hP hD hS [0, 1, 2, 3, 4] ((0)) rfl (by decide) trivial (by decide) (by decide) dX9_delay_54
      · have ic_10 : ¬ z_9.toInt = (-1) := ine c_10 (rfl) (by decide)
        refine lv_aload_n hx hb dX9_delay_42 rfl (lv_at hl 0 rfl) ?_
        refine va_get (D := D) (ci := 9) (v := .ref (g 11)) (C := RX9) (T := TX9) (N := 37) hx hb htg gRX9 hown hK hP 0 rfl rfl 34 (by decide) (htg _ wi_1184) (fun _ h9 => h9) rfl dX9_delay_43 ?_
        refine lv_iload_n hx hb dX9_delay_46 rfl (lv_at hl 2 rfl) ?_
        refine va_iald hx hb hK hP 2 0 rfl rfl (vp_in_iff.mpr (by omega)) dX9_delay_47 ?_
        refine lv_topi (fun z_11 ez_11 => ?_)
        refine lv_iconst (v := (-1)) hx hb dX9_delay_48 (by decide) ?_
        refine lv_icmp_ne (tgt := 55) hx hb dX9_delay_49 (by decide) (fun c_12 => ?_) (fun c_12 => ?_)
        · have ic_12 : ¬ z_11.toInt = (-1) := ine c_12 (rfl) (by decide)
          refine lv_aload_n hx hb dX9_delay_55 rfl (lv_at hl 0 rfl) ?_
          refine lv_iload_n hx hb dX9_delay_56 rfl (lv_at hl 1 rfl) ?_
          refine xk_i (wr := [(sw_in cT (g 11) 4 a11)]) (xr_V (n := 1) (As := [.int x]) (rest := []) ⟨hx, hb, hml, hown, htg⟩ hK hN hP hD hS hA [0, 1, 3, 4] rfl (by decide) (m_canWalk l D cT _ (h0) (g) (0) (b5) (b6) (b7) (b8) (b9) (b10) (b11) (b12) (b13) (b14) (b17) (b18) (b19) (b23) (b24) (b25) (b26) (b27) (b29) (b31) (b32) (b33) (by first | assumption | omega | decide | exact Or.inl (by decide) | (intro h9; exact absurd h9 (by decide)) | (intro _; omega) | (intro _; assumption) | (intro _; decide)) (a0) (by first | assumption | omega | decide | exact Or.inl (by decide) | (intro h9; exact absurd h9 (by decide)) | (intro _; omega) | (intro _; assumption) | (intro _; decide)) (a12) (by first | assumption | omega | decide | exact Or.inl (by decide) | (intro h9; exact absurd h9 (by decide)) | (intro _; omega) | (intro _; assumption) | (intro _; decide)) (a13) (x) (by first | assumption | omega | decide | exact Or.inl (by decide) | (intro h9; exact absurd h9 (by decide)) | (intro _; omega) | (intro _; assumption) | (intro _; decide))) wi_1579 wi_1581 wi_116 wi_131 wi_1582 rfl rfl rfl ⟨rfl, by decide +kernel⟩ ⟨Nat.le_of_ble_eq_true rfl, Nat.le_of_ble_eq_true rfl⟩ rfl hl.1 rfl (Nat.le_of_ble_eq_true rfl) dX9_delay_57 ⟨Nat.le_of_ble_eq_true rfl, Nat.le_of_ble_eq_true rfl⟩) hP hD hS hA [0, 1, 3, 4] [2] rfl rfl (by decide) (by decide) (fun r_14 u_13 H locs hwr_14 hP hD hS => ?_)
          obtain ⟨hP, hD⟩ : PD D A [(sw_in cT (g 11) 4 a11), (sw_9 h0 g 0 b5 b6 b7 b8 b9 b10 b11 b12 b13 b14 b17 b18 b19 b23 b24 b25 b26 b27 b29 b31 b32 b33), (sw_in cT (g 0) 288 a0), (sw_in cT (g 12) 4 a12), (sw_lo cT (g 13) 160 a13)] _ := ⟨hP, hD⟩
          refine lv_if_ne (tgt := 66) hx hb dX9_delay_60 (by decide) (fun c_15 => ?_) (fun c_15 => ?_)
          · have ic_15 : ¬ r_14.toInt = 0 := ine c_15 (rfl) (by decide)
            refine lv_iconst (v := 0) hx hb dX9_delay_66 (by decide) ?_
            refine lv_istore_n (lv' := [(3, .int 0), (0, .ref h0), (1, .int x), (2, .int y)]) hx hb dX9_delay_67 rfl hl (by decide) rfl (fun ls hl => ?_)
            refine (fun (key : ∀ (n9_68 : Nat) (k9_68 : Nat)  (H : Heap) (locs : List Loc) (ls : Array Slot), (k9_68 : Int) ≤ 41 → 41 < (k9_68 : Int) + n9_68 → PD D A [(sw_in cT (g 11) 4 a11), (sw_9 h0 g 0 b5 b6 b7 b8 b9 b10 b11 b12 b13 b14 b17 b18 b19 b23 b24 b25 b26 b27 b29 b31 b32 b33), (sw_in cT (g 0) 288 a0), (sw_in cT (g 12) 4 a12), (sw_lo cT (g 13) 160 a13)] H → va_S A s.heap H locs → lv_has ls 4 [(3, .int (nI k9_68)), (0, .ref h0), (1, .int x), (2, .int y)] → W p l e _ s m _ below meth c H locs _ _ _ (F0 m 68 ls [])) => key (Int.toNat (41 - 0) + 1) 0  _ _ _ (by omega) (by omega)  ⟨hP, hD⟩ hS (lv_sub hl [0, 1, 2, 3] rfl)) ?_
            intro n9_68
            induction n9_68 with
            | zero => intro k9_68  H locs ls hq1 hq2; exact absurd hq2 (by omega)
            | succ n9_68 ih_68 =>
              intro k9_68  H locs ls hq1_68 hq2_68  hPD hS hl
              obtain ⟨hP, hD⟩ := hPD
              have hk9_68 : (nI k9_68).toInt = (k9_68 : Int) := nI_toInt (by omega)
              refine lv_iload_n hx hb dX9_delay_68 rfl (lv_at hl 0 rfl) ?_
              refine lv_bipush (v := 40) hx hb dX9_delay_69 (by decide) ?_
              refine lv_icmp_gt (tgt := 92) hx hb dX9_delay_71 (by decide) (fun c_16 => ?_) (fun c_16 => ?_)
              · have ic_16 : 40 < ((k9_68 : Nat) : Int) := ilt c_16 (by decide) (nI_toInt (by omega))
                refine lv_iconst (v := (-1)) hx hb dX9_delay_92 (by decide) ?_
                exact x_iret hx hb hr hlk hP hD hS [1, 2, 0, 3, 4] ((0)) rfl (by decide) trivial (by decide) (by decide) dX9_delay_93
              · have ic_16 : ((k9_68 : Nat) : Int) ≤ 40 := inlt c_16 (by decide) (nI_toInt (by omega))
                refine lv_aload_n hx hb dX9_delay_74 rfl (lv_at hl 1 rfl) ?_
                refine lv_iload_n hx hb dX9_delay_75 rfl (lv_at hl 2 rfl) ?_
                refine lv_iload_n hx hb dX9_delay_76 rfl (lv_at hl 3 rfl) ?_
                refine lv_iload_n hx hb dX9_delay_77 rfl (lv_at hl 0 rfl) ?_
                refine xk_i (wr := [(sw_in cT (g 11) 4 a11)]) (xr_V (n := 3) (As := [.int x, .int y, .int (nI k9_68)]) (rest := []) ⟨hx, hb, hml, hown, htg⟩ hK hN hP hD hS hA [1, 2, 3, 4] rfl (by decide) (m_meetBy l D cT _ (h0) (g) (0) (b5) (b6) (b7) (b8) (b9) (b10) (b11) (b12) (b13) (b14) (b17) (b18) (b19) (b23) (b24) (b25) (b26) (b27) (b29) (b31) (b32) (b33) (by first | assumption | omega | decide | exact Or.inl (by decide) | (intro h9; exact absurd h9 (by decide)) | (intro _; omega) | (intro _; assumption) | (intro _; decide)) (a0) (by first | assumption | omega | decide | exact Or.inl (by decide) | (intro h9; exact absurd h9 (by decide)) | (intro _; omega) | (intro _; assumption) | (intro _; decide)) (a12) (by first | assumption | omega | decide | exact Or.inl (by decide) | (intro h9; exact absurd h9 (by decide)) | (intro _; omega) | (intro _; assumption) | (intro _; decide)) (a13) (x) (y) ((nI k9_68)) (by first | assumption | omega | decide | exact Or.inl (by decide) | (intro h9; exact absurd h9 (by decide)) | (intro _; omega) | (intro _; assumption) | (intro _; decide)) (by first | assumption | omega | decide | exact Or.inl (by decide) | (intro h9; exact absurd h9 (by decide)) | (intro _; omega) | (intro _; assumption) | (intro _; decide)) (by first | assumption | omega | decide | exact Or.inl (by decide) | (intro h9; exact absurd h9 (by decide)) | (intro _; omega) | (intro _; assumption) | (intro _; decide))) wi_1591 wi_1593 wi_118 wi_131 wi_1594 rfl rfl rfl ⟨rfl, by decide +kernel⟩ ⟨Nat.le_of_ble_eq_true rfl, Nat.le_of_ble_eq_true rfl⟩ rfl hl.1 rfl (Nat.le_of_ble_eq_true rfl) dX9_delay_78 ⟨Nat.le_of_ble_eq_true rfl, Nat.le_of_ble_eq_true rfl⟩) hP hD hS hA [1, 2, 3, 4] [0] rfl rfl (by decide) (by decide) (fun r_18 u_17 H locs hwr_18 hP hD hS => ?_)
                obtain ⟨hP, hD⟩ : PD D A [(sw_in cT (g 11) 4 a11), (sw_9 h0 g 0 b5 b6 b7 b8 b9 b10 b11 b12 b13 b14 b17 b18 b19 b23 b24 b25 b26 b27 b29 b31 b32 b33), (sw_in cT (g 0) 288 a0), (sw_in cT (g 12) 4 a12), (sw_lo cT (g 13) 160 a13)] _ := ⟨hP, hD⟩
                refine lv_if_ne (tgt := 86) hx hb dX9_delay_81 (by decide) (fun c_19 => ?_) (fun c_19 => ?_)
                · have ic_19 : ¬ r_18.toInt = 0 := ine c_19 (rfl) (by decide)
                  refine lv_iinc (v := (nI (k9_68 + 1))) (lv' := [(3, .int (nI (k9_68 + 1))), (0, .ref h0), (1, .int x), (2, .int y)]) hx hb dX9_delay_86 hl (k := 0) rfl (by exact nI_1 (k9_68)) (by decide) rfl (fun ls hl => ?_)
                  refine lv_goto (tgt := 68) hx hb dX9_delay_89 (by decide) ?_
                  exact ih_68 (k9_68 + 1)  _ _ _ (by omega) (by omega)  ⟨hP.sub [0, 1, 2, 3, 4] rfl, hD.sub [0, 1, 2, 3, 4] (by decide) rfl⟩ hS (lv_sub hl [0, 1, 2, 3] rfl)
                · have ic_19 : r_18.toInt = 0 := ieq c_19 (rfl) (by decide)
                  refine lv_iload_n hx hb dX9_delay_84 rfl (lv_at hl 0 rfl) ?_
                  exact x_iret hx hb hr hlk hP hD hS [1, 2, 0, 3, 4] ((0)) rfl (by decide) trivial (by decide) (by decide) dX9_delay_85
          · have ic_15 : r_14.toInt = 0 := ieq c_15 (rfl) (by decide)
            refine lv_bipush (v := (-5)) hx hb dX9_delay_63 (by decide) ?_
            exact x_iret hx hb hr hlk hP hD hS [1, 2, 0, 3, 4] ((0)) rfl (by decide) trivial (by decide) (by decide) dX9_delay_65
        · have ic_12 : z_11.toInt = (-1) := ieq c_12 (rfl) (by decide)
          refine lv_bipush (v := (-6)) hx hb dX9_delay_52 (by decide) ?_
          exact x_iret hx hb hr hlk hP hD hS [0, 1, 2, 3, 4] ((0)) rfl (by decide) trivial (by decide) (by decide) dX9_delay_54
    · have ic_8 : r_7.toInt = 0 := ieq c_8 (rfl) (by decide)
      refine lv_bipush (v := (-2)) hx hb dX9_delay_29 (by decide) ?_
      exact x_iret hx hb hr hlk hP hD hS [0, 1, 2, 3, 4] ((0)) rfl (by decide) trivial (by decide) (by decide) dX9_delay_31
set_option maxHeartbeats 4000000 in
set_option maxRecDepth 100000 in
theorem m_write (l : Launch) (D : va_G) (cT : Nat → ClassId) (sz : Nat) (h0 : Nat) (g : Nat → Nat) (b0 : Int32) (b5 : Int32) (b6 : Int32) (b7 : Int32) (b8 : Int32) (b9 : Int32) (b10 : Int32) (b11 : Int32) (b12 : Int32) (b13 : Int32) (b14 : Int32) (b17 : Int32) (b18 : Int32) (b19 : Int32) (b23 : Int32) (b24 : Int32) (b25 : Int32) (b26 : Int32) (b27 : Int32) (b29 : Int32) (b31 : Int32) (b32 : Int32) (b33 : Int32) (hb5 : 0 ≤ b5.toInt ∧ b5.toInt ≤ 900) (a11 : Nat → Int32) (a12 : Nat → Int32) (e12 : EL a12 4 0 40) (a13 : Nat → Int64) (x : Int32) (y : Int32) (v : Int64) : Met l yX9_write (wsc yX9_write cX9_write 5 (some .long)) { frames := 3, cells := 0, slots := 0, locals := 125 } (va_Pc [.ref h0, .int x, .int y, .long v] (PX D cT sz [(sw_9 h0 g b0 b5 b6 b7 b8 b9 b10 b11 b12 b13 b14 b17 b18 b19 b23 b24 b25 b26 b27 b29 b31 b32 b33), (sw_in cT (g 11) 4 a11), (sw_in cT (g 12) 4 a12), (sw_lo cT (g 13) 160 a13)])) (va_Ql (fun (r : Int64) (u : Int32 × (Nat → Int64)) => (True)) (fun u t => RW D (va_A [(sw_9 h0 g b0 b5 b6 b7 b8 b9 b10 b11 b12 b13 b14 b17 b18 b19 b23 b24 b25 b26 b27 b29 b31 b32 b33), (sw_in cT (g 11) 4 a11), (sw_in cT (g 12) 4 a12), (sw_lo cT (g 13) 160 a13)] sz) ((fun u : Int32 × (Nat → Int64) => [(sw_9 h0 g u.1 b5 b6 b7 b8 b9 b10 b11 b12 b13 b14 b17 b18 b19 b23 b24 b25 b26 b27 b29 b31 b32 b33), (sw_in cT (g 11) 4 a11), (sw_in cT (g 12) 4 a12), (sw_lo cT (g 13) 160 u.2)]) u) t) (va_A [(sw_9 h0 g b0 b5 b6 b7 b8 b9 b10 b11 b12 b13 b14 b17 b18 b19 b23 b24 b25 b26 b27 b29 b31 b32 b33), (sw_in cT (g 11) 4 a11), (sw_in cT (g 12) 4 a12), (sw_lo cT (g 13) 160 a13)] sz)) 0 0 (va_A [(sw_9 h0 g b0 b5 b6 b7 b8 b9 b10 b11 b12 b13 b14 b17 b18 b19 b23 b24 b25 b26 b27 b29 b31 b32 b33), (sw_in cT (g 11) 4 a11), (sw_in cT (g 12) 4 a12), (sw_lo cT (g 13) 160 a13)] sz) := by
  refine m_of (y := yX9_write) (cc := cX9_write) (nL := 5) (ret := (some .long)) (D := D) (cT := cT) (av := [.ref h0, .int x, .int y, .long v]) (wi := [(sw_9 h0 g b0 b5 b6 b7 b8 b9 b10 b11 b12 b13 b14 b17 b18 b19 b23 b24 b25 b26 b27 b29 b31 b32 b33), (sw_in cT (g 11) 4 a11), (sw_in cT (g 12) 4 a12), (sw_lo cT (g 13) 160 a13)]) (fun A => va_Ql (fun (r : Int64) (u : Int32 × (Nat → Int64)) => (True)) (fun u t => RW D A ((fun u : Int32 × (Nat → Int64) => [(sw_9 h0 g u.1 b5 b6 b7 b8 b9 b10 b11 b12 b13 b14 b17 b18 b19 b23 b24 b25 b26 b27 b29 b31 b32 b33), (sw_in cT (g 11) 4 a11), (sw_in cT (g 12) 4 a12), (sw_lo cT (g 13) 160 u.2)]) u) t) A) (by decide) (Nat.le_of_ble_eq_true rfl) ?_
  intro p e s m below meth c A hx hb hml hown htg hK hN hr hlk hnm hsz hP hD hS hA ls hl
  have hown : s.vm.findClass RX9 = some m.cls := hown
  have hl : lv_has ls 5 [(0, .ref h0), (1, .int x), (2, .int y), (3, .long v)] := hl
  have tc_m1 : ((-1) : Int32).toInt = (-1) := by decide
  have tc_0 : (0 : Int32).toInt = 0 := by decide
  have tc_1 : (1 : Int32).toInt = 1 := by decide
  have tc_40 : (40 : Int32).toInt = 40 := by decide
  refine lv_aload_n hx hb dX9_write_0 rfl (lv_at hl 0 rfl) ?_
  refine lv_iconst (v := 0) hx hb dX9_write_1 (by decide) ?_
  refine va_put (D := D) (ci := 9) (v := .int 0) (ty := .int) (C := RX9) (T := TX9) (N := 37) hx hb htg gRX9 tyX9 tyX9_ok nmX9 hown hK hP hD hS 0 rfl rfl 0 (by decide) (htg _ wi_1150) (fun _ h9 => h9) rfl (by decide +kernel) rfl rfl (Nat.le_of_ble_eq_true rfl) dX9_write_2 (fun H locs hP hD hS => ?_)
  obtain ⟨hP, hD⟩ : PD D A [(sw_9 h0 g 0 b5 b6 b7 b8 b9 b10 b11 b12 b13 b14 b17 b18 b19 b23 b24 b25 b26 b27 b29 b31 b32 b33), (sw_in cT (g 11) 4 a11), (sw_in cT (g 12) 4 a12), (sw_lo cT (g 13) 160 a13)] _ := ⟨hP, hD⟩
  refine lv_iload_n hx hb dX9_write_5 rfl (lv_at hl 1 rfl) ?_
  refine lv_i2l (v := x.toInt64) hx hb dX9_write_6 rfl ?_
  refine lv_lconst (v := 0) hx hb dX9_write_7 (by decide) ?_
  refine lv_ldc2 (v := 3) hx hb hown (htg _ wi_1366) dX9_write_8 ?_
  have ilw_1 : (x.toInt64).toInt = x.toInt := i2l_i _
  refine xk_i (wr := [(sw_9 h0 g 0 b5 b6 b7 b8 b9 b10 b11 b12 b13 b14 b17 b18 b19 b23 b24 b25 b26 b27 b29 b31 b32 b33), (sw_in cT (g 11) 4 a11), (sw_in cT (g 12) 4 a12), (sw_lo cT (g 13) 160 a13)]) (xr_S (n := 3) (As := [.long x.toInt64, .long 0, .long 3]) (rest := []) ⟨hx, hb, hml, hown, htg⟩ hK hN hP hD hS hA [] rfl (by decide) (m_within l D cT _ (x.toInt64) (0) (3) (x.toInt) (0) (3) (i2l_i _) (by decide) (by decide)) wi_1270 wi_1271 wi_131 wi_1272 ⟨rfl, by decide +kernel⟩ ⟨Nat.le_of_ble_eq_true rfl, Nat.le_of_ble_eq_true rfl⟩ rfl hl.1 rfl (Nat.le_of_ble_eq_true rfl) dX9_write_11 ⟨Nat.le_of_ble_eq_true rfl, Nat.le_of_ble_eq_true rfl⟩) hP hD hS hA [] [0, 1, 2, 3] rfl rfl (by decide) (by decide) (fun r_3 u_2 H locs hwr_3 hP hD hS => ?_)
  obtain ⟨hP, hD⟩ : PD D A [(sw_9 h0 g 0 b5 b6 b7 b8 b9 b10 b11 b12 b13 b14 b17 b18 b19 b23 b24 b25 b26 b27 b29 b31 b32 b33), (sw_in cT (g 11) 4 a11), (sw_in cT (g 12) 4 a12), (sw_lo cT (g 13) 160 a13)] _ := ⟨hP, hD⟩
  have qr_3_0 : Imp (¬ r_3.toInt = 0) (0 ≤ x.toInt ∧ x.toInt ≤ 3) := hwr_3.1
  have qr_3_1 : r_3 = 0 ∨ r_3 = 1 := hwr_3.2.1
  refine lv_if_ne (tgt := 21) hx hb dX9_write_14 (by decide) (fun c_4 => ?_) (fun c_4 => ?_)
  · have ic_4 : ¬ r_3.toInt = 0 := ine c_4 (rfl) (by decide)
    have kqr_3_0 : 0 ≤ x.toInt ∧ x.toInt ≤ 3 := qr_3_0 ic_4
    refine lv_aload_n hx hb dX9_write_21 rfl (lv_at hl 0 rfl) ?_
    refine va_get (D := D) (ci := 9) (v := .ref (g 11)) (C := RX9) (T := TX9) (N := 37) hx hb htg gRX9 hown hK hP 0 rfl rfl 34 (by decide) (htg _ wi_1184) (fun _ h9 => h9) rfl dX9_write_22 ?_
    refine lv_iload_n hx hb dX9_write_25 rfl (lv_at hl 1 rfl) ?_
    refine va_iald hx hb hK hP 1 0 rfl rfl (vp_in_iff.mpr (by omega)) dX9_write_26 ?_
    refine lv_topi (fun z_5 ez_5 => ?_)
    refine lv_iconst (v := (-1)) hx hb dX9_write_27 (by decide) ?_
    refine lv_icmp_ne (tgt := 35) hx hb dX9_write_28 (by decide) (fun c_6 => ?_) (fun c_6 => ?_)
    · have ic_6 : ¬ z_5.toInt = (-1) := ine c_6 (rfl) (by decide)
      refine lv_iload_n hx hb dX9_write_35 rfl (lv_at hl 2 rfl) ?_
      refine lv_i2l (v := y.toInt64) hx hb dX9_write_36 rfl ?_
      refine lv_lconst (v := 0) hx hb dX9_write_37 (by decide) ?_
      refine lv_aload_n hx hb dX9_write_38 rfl (lv_at hl 0 rfl) ?_
      refine va_get (D := D) (ci := 9) (v := .ref (g 12)) (C := RX9) (T := TX9) (N := 37) hx hb htg gRX9 hown hK hP 0 rfl rfl 35 (by decide) (htg _ wi_1185) (fun _ h9 => h9) rfl dX9_write_39 ?_
      refine lv_iload_n hx hb dX9_write_42 rfl (lv_at hl 1 rfl) ?_
      refine va_iald hx hb hK hP 2 0 rfl rfl (vp_in_iff.mpr (by omega)) dX9_write_43 ?_
      refine lv_topi (fun z_7 ez_7 => ?_)
      have iz_7 : 0 ≤ z_7.toInt ∧ z_7.toInt ≤ 40 := by rw [ez_7]; exact e12 _ (in_lt (vp_in_iff.mpr (by omega)))
      refine lv_iconst (v := 1) hx hb dX9_write_44 (by decide) ?_
      refine lv_isub hx hb dX9_write_45 ?_
      refine lv_topi (fun z_8 ez_8 => ?_)
      have iz_8 : z_8.toInt = z_7.toInt - 1 := toInt_subI ez_8 (rfl) (by decide) (by omega)
      refine lv_i2l (v := z_8.toInt64) hx hb dX9_write_46 rfl ?_
      have ilw_9 : (y.toInt64).toInt = y.toInt := i2l_i _
      have ilw_10 : (z_8.toInt64).toInt = z_8.toInt := i2l_i _
      refine xk_i (wr := [(sw_9 h0 g 0 b5 b6 b7 b8 b9 b10 b11 b12 b13 b14 b17 b18 b19 b23 b24 b25 b26 b27 b29 b31 b32 b33), (sw_in cT (g 11) 4 a11), (sw_in cT (g 12) 4 a12), (sw_lo cT (g 13) 160 a13)]) (xr_S (n := 3) (As := [.long y.toInt64, .long 0, .long z_8.toInt64]) (rest := []) ⟨hx, hb, hml, hown, htg⟩ hK hN hP hD hS hA [] rfl (by decide) (m_within l D cT _ (y.toInt64) (0) (z_8.toInt64) (y.toInt) (0) (z_8.toInt) (i2l_i _) (by decide) (i2l_i _)) wi_1270 wi_1271 wi_131 wi_1272 ⟨rfl, by decide +kernel⟩ ⟨Nat.le_of_ble_eq_true rfl, Nat.le_of_ble_eq_true rfl⟩ rfl hl.1 rfl (Nat.le_of_ble_eq_true rfl) dX9_write_47 ⟨Nat.le_of_ble_eq_true rfl, Nat.le_of_ble_eq_true rfl⟩) hP hD hS hA [] [0, 1, 2, 3] rfl rfl (by decide) (by decide) (fun r_12 u_11 H locs hwr_12 hP hD hS => ?_)
      obtain ⟨hP, hD⟩ : PD D A [(sw_9 h0 g 0 b5 b6 b7 b8 b9 b10 b11 b12 b13 b14 b17 b18 b19 b23 b24 b25 b26 b27 b29 b31 b32 b33), (sw_in cT (g 11) 4 a11), (sw_in cT (g 12) 4 a12), (sw_lo cT (g 13) 160 a13)] _ := ⟨hP, hD⟩
      have qr_12_0 : Imp (¬ r_12.toInt = 0) (0 ≤ y.toInt ∧ y.toInt ≤ z_8.toInt) := hwr_12.1
      have qr_12_1 : r_12 = 0 ∨ r_12 = 1 := hwr_12.2.1
      refine lv_if_ne (tgt := 57) hx hb dX9_write_50 (by decide) (fun c_13 => ?_) (fun c_13 => ?_)
      · have ic_13 : ¬ r_12.toInt = 0 := ine c_13 (rfl) (by decide)
        have kqr_12_0 : 0 ≤ y.toInt ∧ y.toInt ≤ z_8.toInt := qr_12_0 ic_13
        refine lv_aload_n hx hb dX9_write_57 rfl (lv_at hl 0 rfl) ?_
        refine va_get (D := D) (ci := 9) (v := .ref (g 13)) (C := RX9) (T := TX9) (N := 37) hx hb htg gRX9 hown hK hP 0 rfl rfl 36 (by decide) (htg _ wi_1186) (fun _ h9 => h9) rfl dX9_write_58 ?_
        refine lv_bipush (v := 40) hx hb dX9_write_61 (by decide) ?_
        refine lv_iload_n hx hb dX9_write_63 rfl (lv_at hl 1 rfl) ?_
        refine lv_imul hx hb dX9_write_64 ?_
        refine lv_topi (fun z_14 ez_14 => ?_)
        have iz_14 : z_14.toInt = 40 * x.toInt := toInt_mulI ez_14 (by decide) (rfl) (by omega)
        refine lv_iload_n hx hb dX9_write_65 rfl (lv_at hl 2 rfl) ?_
        refine lv_iadd hx hb dX9_write_66 ?_
        refine lv_topi (fun z_15 ez_15 => ?_)
        have iz_15 : z_15.toInt = z_14.toInt + y.toInt := toInt_addI ez_15 (rfl) (rfl) (by omega)
        refine lv_lload_n hx hb dX9_write_67 rfl (lv_at hl 3 rfl) ?_
        refine lv_aload_n hx hb dX9_write_68 rfl (lv_at hl 0 rfl) ?_
        refine va_get (D := D) (ci := 9) (v := .ref (g 11)) (C := RX9) (T := TX9) (N := 37) hx hb htg gRX9 hown hK hP 0 rfl rfl 34 (by decide) (htg _ wi_1184) (fun _ h9 => h9) rfl dX9_write_69 ?_
        refine lv_iload_n hx hb dX9_write_72 rfl (lv_at hl 1 rfl) ?_
        refine va_iald hx hb hK hP 1 0 rfl rfl (vp_in_iff.mpr (by omega)) dX9_write_73 ?_
        refine lv_topi (fun z_16 ez_16 => ?_)
        refine xk_l (wr := [(sw_9 h0 g 0 b5 b6 b7 b8 b9 b10 b11 b12 b13 b14 b17 b18 b19 b23 b24 b25 b26 b27 b29 b31 b32 b33), (sw_in cT (g 11) 4 a11), (sw_in cT (g 12) 4 a12), (sw_lo cT (g 13) 160 a13)]) (xr_S (n := 2) (As := [.long v, .int z_16]) (rest := [.int z_15, .ref (g 13)]) ⟨hx, hb, hml, hown, htg⟩ hK hN hP hD hS hA [] rfl (by decide) (m_cut l D cT _ (v) (z_16)) wi_1607 wi_1608 wi_131 wi_1609 ⟨rfl, by decide +kernel⟩ ⟨Nat.le_of_ble_eq_true rfl, Nat.le_of_ble_eq_true rfl⟩ rfl hl.1 rfl (Nat.le_of_ble_eq_true rfl) dX9_write_74 ⟨Nat.le_of_ble_eq_true rfl, Nat.le_of_ble_eq_true rfl⟩) hP hD hS hA [] [0, 1, 2, 3] rfl rfl (by decide) (by decide) (fun r_18 u_17 H locs hwr_18 hP hD hS => ?_)
        obtain ⟨hP, hD⟩ : PD D A [(sw_9 h0 g 0 b5 b6 b7 b8 b9 b10 b11 b12 b13 b14 b17 b18 b19 b23 b24 b25 b26 b27 b29 b31 b32 b33), (sw_in cT (g 11) 4 a11), (sw_in cT (g 12) 4 a12), (sw_lo cT (g 13) 160 a13)] _ := ⟨hP, hD⟩
        refine va_last hx hb hK hP hD hS 3 1 rfl rfl (vp_in_iff.mpr (by omega)) dX9_write_77 (fun H locs hP hD hS => ?_)
        obtain ⟨f_19, hP, hD⟩ : ∃ f_19 : Nat → Int64, PD D A [(sw_9 h0 g 0 b5 b6 b7 b8 b9 b10 b11 b12 b13 b14 b17 b18 b19 b23 b24 b25 b26 b27 b29 b31 b32 b33), (sw_in cT (g 11) 4 a11), (sw_in cT (g 12) 4 a12), (sw_lo cT (g 13) 160 f_19)] H := ⟨_, hP, hD⟩
        refine lv_aload_n hx hb dX9_write_78 rfl (lv_at hl 0 rfl) ?_
        refine va_get (D := D) (ci := 9) (v := .ref (g 13)) (C := RX9) (T := TX9) (N := 37) hx hb htg gRX9 hown hK hP 0 rfl rfl 36 (by decide) (htg _ wi_1186) (fun _ h9 => h9) rfl dX9_write_79 ?_
        refine lv_bipush (v := 40) hx hb dX9_write_82 (by decide) ?_
        refine lv_iload_n hx hb dX9_write_84 rfl (lv_at hl 1 rfl) ?_
        refine lv_imul hx hb dX9_write_85 ?_
        refine lv_topi (fun z_20 ez_20 => ?_)
        have iz_20 : z_20.toInt = 40 * x.toInt := toInt_mulI ez_20 (by decide) (rfl) (by omega)
        refine lv_iload_n hx hb dX9_write_86 rfl (lv_at hl 2 rfl) ?_
        refine lv_iadd hx hb dX9_write_87 ?_
        refine lv_topi (fun z_21 ez_21 => ?_)
        have iz_21 : z_21.toInt = z_20.toInt + y.toInt := toInt_addI ez_21 (rfl) (rfl) (by omega)
        refine va_lald hx hb hK hP 3 1 rfl rfl (vp_in_iff.mpr (by omega)) dX9_write_88 ?_
        refine lv_topl (fun z_22 ez_22 => ?_)
        exact x_lret hx hb hr hlk hP hD hS [0, 1, 2, 3] ((0, f_19)) rfl (by decide) trivial (by decide) (by decide) dX9_write_89
      · have ic_13 : r_12.toInt = 0 := ieq c_13 (rfl) (by decide)
        refine lv_ldc2 (v := (-7)) hx hb hown (htg _ wi_1606) dX9_write_53 ?_
        exact x_lret hx hb hr hlk hP hD hS [0, 1, 2, 3] ((0, a13)) rfl (by decide) trivial (by decide) (by decide) dX9_write_56
    · have ic_6 : z_5.toInt = (-1) := ieq c_6 (rfl) (by decide)
      refine lv_ldc2 (v := (-6)) hx hb hown (htg _ wi_1605) dX9_write_31 ?_
      exact x_lret hx hb hr hlk hP hD hS [0, 1, 2, 3] ((0, a13)) rfl (by decide) trivial (by decide) (by decide) dX9_write_34
  · have ic_4 : r_3.toInt = 0 := ieq c_4 (rfl) (by decide)
    refine lv_ldc2 (v := (-2)) hx hb hown (htg _ wi_1604) dX9_write_17 ?_
    exact x_lret hx hb hr hlk hP hD hS [0, 1, 2, 3] ((0, a13)) rfl (by decide) trivial (by decide) (by decide) dX9_write_20
set_option maxHeartbeats 4000000 in
set_option maxRecDepth 100000 in
theorem m_copy (l : Launch) (D : va_G) (cT : Nat → ClassId) (sz : Nat) (h0 : Nat) (g : Nat → Nat) (b0 : Int32) (b5 : Int32) (b6 : Int32) (b7 : Int32) (b8 : Int32) (b9 : Int32) (b10 : Int32) (b11 : Int32) (b12 : Int32) (b13 : Int32) (b14 : Int32) (b17 : Int32) (b18 : Int32) (b19 : Int32) (b23 : Int32) (b24 : Int32) (b25 : Int32) (b26 : Int32) (b27 : Int32) (b29 : Int32) (b31 : Int32) (b32 : Int32) (b33 : Int32) (hb5 : 0 ≤ b5.toInt ∧ b5.toInt ≤ 900) (a0 : Nat → Int32) (pa0 : PI 288 a0) (a11 : Nat → Int32) (a12 : Nat → Int32) (e12 : EL a12 4 0 40) (a13 : Nat → Int64) (x : Int32) : Met l yX9_copy (wsc yX9_copy cX9_copy 3 (some .int)) { frames := 3, cells := 0, slots := 0, locals := 125 } (va_Pc [.ref h0, .int x] (PX D cT sz [(sw_9 h0 g b0 b5 b6 b7 b8 b9 b10 b11 b12 b13 b14 b17 b18 b19 b23 b24 b25 b26 b27 b29 b31 b32 b33), (sw_in cT (g 0) 288 a0), (sw_in cT (g 11) 4 a11), (sw_in cT (g 12) 4 a12), (sw_lo cT (g 13) 160 a13)])) (va_Qi (fun (r : Int32) (u : Int32 × (Nat → Int64)) => (True)) (fun u t => RW D (va_A [(sw_9 h0 g b0 b5 b6 b7 b8 b9 b10 b11 b12 b13 b14 b17 b18 b19 b23 b24 b25 b26 b27 b29 b31 b32 b33), (sw_in cT (g 0) 288 a0), (sw_in cT (g 11) 4 a11), (sw_in cT (g 12) 4 a12), (sw_lo cT (g 13) 160 a13)] sz) ((fun u : Int32 × (Nat → Int64) => [(sw_9 h0 g u.1 b5 b6 b7 b8 b9 b10 b11 b12 b13 b14 b17 b18 b19 b23 b24 b25 b26 b27 b29 b31 b32 b33), (sw_in cT (g 0) 288 a0), (sw_in cT (g 11) 4 a11), (sw_in cT (g 12) 4 a12), (sw_lo cT (g 13) 160 u.2)]) u) t) (va_A [(sw_9 h0 g b0 b5 b6 b7 b8 b9 b10 b11 b12 b13 b14 b17 b18 b19 b23 b24 b25 b26 b27 b29 b31 b32 b33), (sw_in cT (g 0) 288 a0), (sw_in cT (g 11) 4 a11), (sw_in cT (g 12) 4 a12), (sw_lo cT (g 13) 160 a13)] sz)) 0 0 (va_A [(sw_9 h0 g b0 b5 b6 b7 b8 b9 b10 b11 b12 b13 b14 b17 b18 b19 b23 b24 b25 b26 b27 b29 b31 b32 b33), (sw_in cT (g 0) 288 a0), (sw_in cT (g 11) 4 a11), (sw_in cT (g 12) 4 a12), (sw_lo cT (g 13) 160 a13)] sz) := by
  refine m_of (y := yX9_copy) (cc := cX9_copy) (nL := 3) (ret := (some .int)) (D := D) (cT := cT) (av := [.ref h0, .int x]) (wi := [(sw_9 h0 g b0 b5 b6 b7 b8 b9 b10 b11 b12 b13 b14 b17 b18 b19 b23 b24 b25 b26 b27 b29 b31 b32 b33), (sw_in cT (g 0) 288 a0), (sw_in cT (g 11) 4 a11), (sw_in cT (g 12) 4 a12), (sw_lo cT (g 13) 160 a13)]) (fun A => va_Qi (fun (r : Int32) (u : Int32 × (Nat → Int64)) => (True)) (fun u t => RW D A ((fun u : Int32 × (Nat → Int64) => [(sw_9 h0 g u.1 b5 b6 b7 b8 b9 b10 b11 b12 b13 b14 b17 b18 b19 b23 b24 b25 b26 b27 b29 b31 b32 b33), (sw_in cT (g 0) 288 a0), (sw_in cT (g 11) 4 a11), (sw_in cT (g 12) 4 a12), (sw_lo cT (g 13) 160 u.2)]) u) t) A) (by decide) (Nat.le_of_ble_eq_true rfl) ?_
  intro p e s m below meth c A hx hb hml hown htg hK hN hr hlk hnm hsz hP hD hS hA ls hl
  have hown : s.vm.findClass RX9 = some m.cls := hown
  have hl : lv_has ls 3 [(0, .ref h0), (1, .int x)] := hl
  have tc_m7 : ((-7) : Int32).toInt = (-7) := by decide
  have tc_m6 : ((-6) : Int32).toInt = (-6) := by decide
  have tc_m2 : ((-2) : Int32).toInt = (-2) := by decide
  have tc_m1 : ((-1) : Int32).toInt = (-1) := by decide
  have tc_0 : (0 : Int32).toInt = 0 := by decide
  have tc_16 : (16 : Int32).toInt = 16 := by decide
  have tc_40 : (40 : Int32).toInt = 40 := by decide
  refine lv_aload_n hx hb dX9_copy_0 rfl (lv_at hl 0 rfl) ?_
  refine lv_iconst (v := 0) hx hb dX9_copy_1 (by decide) ?_
  refine va_put (D := D) (ci := 9) (v := .int 0) (ty := .int) (C := RX9) (T := TX9) (N := 37) hx hb htg gRX9 tyX9 tyX9_ok nmX9 hown hK hP hD hS 0 rfl rfl 0 (by decide) (htg _ wi_1150) (fun _ h9 => h9) rfl (by decide +kernel) rfl rfl (Nat.le_of_ble_eq_true rfl) dX9_copy_2 (fun H locs hP hD hS => ?_)
  obtain ⟨hP, hD⟩ : PD D A [(sw_9 h0 g 0 b5 b6 b7 b8 b9 b10 b11 b12 b13 b14 b17 b18 b19 b23 b24 b25 b26 b27 b29 b31 b32 b33), (sw_in cT (g 0) 288 a0), (sw_in cT (g 11) 4 a11), (sw_in cT (g 12) 4 a12), (sw_lo cT (g 13) 160 a13)] _ := ⟨hP, hD⟩
  refine lv_iload_n hx hb dX9_copy_5 rfl (lv_at hl 1 rfl) ?_
  refine lv_i2l (v := x.toInt64) hx hb dX9_copy_6 rfl ?_
  refine lv_lconst (v := 0) hx hb dX9_copy_7 (by decide) ?_
  refine lv_ldc2 (v := 3) hx hb hown (htg _ wi_1366) dX9_copy_8 ?_
  have ilw_1 : (x.toInt64).toInt = x.toInt := i2l_i _
  refine xk_i (wr := [(sw_9 h0 g 0 b5 b6 b7 b8 b9 b10 b11 b12 b13 b14 b17 b18 b19 b23 b24 b25 b26 b27 b29 b31 b32 b33), (sw_in cT (g 0) 288 a0), (sw_in cT (g 11) 4 a11), (sw_in cT (g 12) 4 a12), (sw_lo cT (g 13) 160 a13)]) (xr_S (n := 3) (As := [.long x.toInt64, .long 0, .long 3]) (rest := []) ⟨hx, hb, hml, hown, htg⟩ hK hN hP hD hS hA [] rfl (by decide) (m_within l D cT _ (x.toInt64) (0) (3) (x.toInt) (0) (3) (i2l_i _) (by decide) (by decide)) wi_1270 wi_1271 wi_131 wi_1272 ⟨rfl, by decide +kernel⟩ ⟨Nat.le_of_ble_eq_true rfl, Nat.le_of_ble_eq_true rfl⟩ rfl hl.1 rfl (Nat.le_of_ble_eq_true rfl) dX9_copy_11 ⟨Nat.le_of_ble_eq_true rfl, Nat.le_of_ble_eq_true rfl⟩) hP hD hS hA [] [0, 1, 2, 3, 4] rfl rfl (by decide) (by decide) (fun r_3 u_2 H locs hwr_3 hP hD hS => ?_)
  obtain ⟨hP, hD⟩ : PD D A [(sw_9 h0 g 0 b5 b6 b7 b8 b9 b10 b11 b12 b13 b14 b17 b18 b19 b23 b24 b25 b26 b27 b29 b31 b32 b33), (sw_in cT (g 0) 288 a0), (sw_in cT (g 11) 4 a11), (sw_in cT (g 12) 4 a12), (sw_lo cT (g 13) 160 a13)] _ := ⟨hP, hD⟩
  have qr_3_0 : Imp (¬ r_3.toInt = 0) (0 ≤ x.toInt ∧ x.toInt ≤ 3) := hwr_3.1
  have qr_3_1 : r_3 = 0 ∨ r_3 = 1 := hwr_3.2.1
  refine lv_if_ne (tgt := 20) hx hb dX9_copy_14 (by decide) (fun c_4 => ?_) (fun c_4 => ?_)
  · have ic_4 : ¬ r_3.toInt = 0 := ine c_4 (rfl) (by decide)
    have kqr_3_0 : 0 ≤ x.toInt ∧ x.toInt ≤ 3 := qr_3_0 ic_4
    refine lv_aload_n hx hb dX9_copy_20 rfl (lv_at hl 0 rfl) ?_
    refine va_get (D := D) (ci := 9) (v := .ref (g 11)) (C := RX9) (T := TX9) (N := 37) hx hb htg gRX9 hown hK hP 0 rfl rfl 34 (by decide) (htg _ wi_1184) (fun _ h9 => h9) rfl dX9_copy_21 ?_
    refine lv_iload_n hx hb dX9_copy_24 rfl (lv_at hl 1 rfl) ?_
    refine va_iald hx hb hK hP 2 0 rfl rfl (vp_in_iff.mpr (by omega)) dX9_copy_25 ?_
    refine lv_topi (fun z_5 ez_5 => ?_)
    refine lv_iconst (v := (-1)) hx hb dX9_copy_26 (by decide) ?_
    refine lv_icmp_ne (tgt := 33) hx hb dX9_copy_27 (by decide) (fun c_6 => ?_) (fun c_6 => ?_)
    · have ic_6 : ¬ z_5.toInt = (-1) := ine c_6 (rfl) (by decide)
      refine lv_aload_n hx hb dX9_copy_33 rfl (lv_at hl 0 rfl) ?_
      refine va_get (D := D) (ci := 9) (v := .ref (g 12)) (C := RX9) (T := TX9) (N := 37) hx hb htg gRX9 hown hK hP 0 rfl rfl 35 (by decide) (htg _ wi_1185) (fun _ h9 => h9) rfl dX9_copy_34 ?_
      refine lv_iload_n hx hb dX9_copy_37 rfl (lv_at hl 1 rfl) ?_
      refine va_iald hx hb hK hP 3 0 rfl rfl (vp_in_iff.mpr (by omega)) dX9_copy_38 ?_
      refine lv_topi (fun z_7 ez_7 => ?_)
      have iz_7 : 0 ≤ z_7.toInt ∧ z_7.toInt ≤ 40 := by rw [ez_7]; exact e12 _ (in_lt (vp_in_iff.mpr (by omega)))
      refine lv_aload_n hx hb dX9_copy_39 rfl (lv_at hl 0 rfl) ?_
      refine va_get (D := D) (ci := 9) (v := .ref (g 0)) (C := RX9) (T := TX9) (N := 37) hx hb htg gRX9 hown hK hP 0 rfl rfl 1 (by decide) (htg _ wi_1151) (fun _ h9 => h9) rfl dX9_copy_40 ?_
      refine lv_iconst (v := 0) hx hb dX9_copy_43 (by decide) ?_
      refine va_iald hx hb hK hP 1 0 rfl rfl (by unfold vp_in; decide) dX9_copy_44 ?_
      refine lv_topi (fun z_8 ez_8 => ?_)
      have iz_8 : 0 ≤ z_8.toInt ∧ z_8.toInt ≤ 16 := by rw [ez_8]; exact rd0 pa0 (by decide) rfl
      have nz_8 : z_8.toInt = ((a0) 0).toInt := by rw [ez_8]; rfl
      refine lv_icmp_ge (tgt := 51) hx hb dX9_copy_45 (by decide) (fun c_9 => ?_) (fun c_9 => ?_)
      · have ic_9 : z_8.toInt ≤ z_7.toInt := ile c_9 (rfl) (rfl)
        refine lv_iconst (v := 0) hx hb dX9_copy_51 (by decide) ?_
        refine lv_istore_n (lv' := [(2, .int 0), (0, .ref h0), (1, .int x)]) hx hb dX9_copy_52 rfl hl (by decide) rfl (fun ls hl => ?_)
        refine (fun (key : ∀ (n9_53 : Nat) (k9_53 : Nat) (f9_53_0 : Nat → Int64) (H : Heap) (locs : List Loc) (ls : Array Slot), (k9_53 : Int) ≤ 16 → 16 < (k9_53 : Int) + n9_53 → PD D A [(sw_9 h0 g 0 b5 b6 b7 b8 b9 b10 b11 b12 b13 b14 b17 b18 b19 b23 b24 b25 b26 b27 b29 b31 b32 b33), (sw_in cT (g 0) 288 a0), (sw_in cT (g 11) 4 a11), (sw_in cT (g 12) 4 a12), (sw_lo cT (g 13) 160 f9_53_0)] H → va_S A s.heap H locs → lv_has ls 3 [(2, .int (nI k9_53)), (0, .ref h0), (1, .int x)] → W p l e _ s m _ below meth c H locs _ _ _ (F0 m 53 ls [])) => key (Int.toNat (16 - 0) + 1) 0 _ _ _ _ (by omega) (by omega)  ⟨hP, hD⟩ hS (lv_sub hl [0, 1, 2] rfl)) ?_
        intro n9_53
        induction n9_53 with
        | zero => intro k9_53 f9_53_0 H locs ls hq1 hq2; exact absurd hq2 (by omega)
        | succ n9_53 ih_53 =>
          intro k9_53 f9_53_0 H locs ls hq1_53 hq2_53  hPD hS hl
          obtain ⟨hP, hD⟩ := hPD
          have hk9_53 : (nI k9_53).toInt = (k9_53 : Int) := nI_toInt (by omega)
          refine lv_iload_n hx hb dX9_copy_53 rfl (lv_at hl 0 rfl) ?_
          refine lv_aload_n hx hb dX9_copy_54 rfl (lv_at hl 1 rfl) ?_
          refine va_get (D := D) (ci := 9) (v := .ref (g 0)) (C := RX9) (T := TX9) (N := 37) hx hb htg gRX9 hown hK hP 0 rfl rfl 1 (by decide) (htg _ wi_1151) (fun _ h9 => h9) rfl dX9_copy_55 ?_
          refine lv_iconst (v := 0) hx hb dX9_copy_58 (by decide) ?_
          refine va_iald hx hb hK hP 1 0 rfl rfl (by unfold vp_in; decide) dX9_copy_59 ?_
          refine lv_topi (fun z_10 ez_10 => ?_)
          have iz_10 : 0 ≤ z_10.toInt ∧ z_10.toInt ≤ 16 := by rw [ez_10]; exact rd0 pa0 (by decide) rfl
          have nz_10 : z_10.toInt = ((a0) 0).toInt := by rw [ez_10]; rfl
          refine lv_icmp_ge (tgt := 90) hx hb dX9_copy_60 (by decide) (fun c_11 => ?_) (fun c_11 => ?_)
          · have ic_11 : z_10.toInt ≤ ((k9_53 : Nat) : Int) := ile c_11 (rfl) (nI_toInt (by omega))
            refine lv_aload_n hx hb dX9_copy_90 rfl (lv_at hl 1 rfl) ?_
            refine va_get (D := D) (ci := 9) (v := .ref (g 0)) (C := RX9) (T := TX9) (N := 37) hx hb htg gRX9 hown hK hP 0 rfl rfl 1 (by decide) (htg _ wi_1151) (fun _ h9 => h9) rfl dX9_copy_91 ?_
            refine lv_iconst (v := 0) hx hb dX9_copy_94 (by decide) ?_
            refine va_iald hx hb hK hP 1 0 rfl rfl (by unfold vp_in; decide) dX9_copy_95 ?_
            refine lv_topi (fun z_12 ez_12 => ?_)
            have iz_12 : 0 ≤ z_12.toInt ∧ z_12.toInt ≤ 16 := by rw [ez_12]; exact rd0 pa0 (by decide) rfl
            have nz_12 : z_12.toInt = ((a0) 0).toInt := by rw [ez_12]; rfl
            exact x_iret hx hb hr hlk hP hD hS [0, 1, 2, 3, 4] ((0, f9_53_0)) rfl (by decide) trivial (by decide) (by decide) dX9_copy_96
          · have ic_11 : ((k9_53 : Nat) : Int) < z_10.toInt := inle c_11 (rfl) (nI_toInt (by omega))
            refine lv_aload_n hx hb dX9_copy_63 rfl (lv_at hl 1 rfl) ?_
            refine va_get (D := D) (ci := 9) (v := .ref (g 13)) (C := RX9) (T := TX9) (N := 37) hx hb htg gRX9 hown hK hP 0 rfl rfl 36 (by decide) (htg _ wi_1186) (fun _ h9 => h9) rfl dX9_copy_64 ?_
            refine lv_bipush (v := 40) hx hb dX9_copy_67 (by decide) ?_
            refine lv_iload_n hx hb dX9_copy_69 rfl (lv_at hl 2 rfl) ?_
            refine lv_imul hx hb dX9_copy_70 ?_
            refine lv_topi (fun z_13 ez_13 => ?_)
            have iz_13 : z_13.toInt = 40 * x.toInt := toInt_mulI ez_13 (by decide) (rfl) (by omega)
            refine lv_iload_n hx hb dX9_copy_71 rfl (lv_at hl 0 rfl) ?_
            refine lv_iadd hx hb dX9_copy_72 ?_
            refine lv_topi (fun z_14 ez_14 => ?_)
            have iz_14 : z_14.toInt = z_13.toInt + ((k9_53 : Nat) : Int) := toInt_addI ez_14 (rfl) (nI_toInt (by omega)) (by omega)
            refine lv_aload_n hx hb dX9_copy_73 rfl (lv_at hl 1 rfl) ?_
            refine va_get (D := D) (ci := 9) (v := .ref (g 0)) (C := RX9) (T := TX9) (N := 37) hx hb htg gRX9 hown hK hP 0 rfl rfl 1 (by decide) (htg _ wi_1151) (fun _ h9 => h9) rfl dX9_copy_74 ?_
            refine lv_bipush (v := 16) hx hb dX9_copy_77 (by decide) ?_
            refine lv_iload_n hx hb dX9_copy_79 rfl (lv_at hl 0 rfl) ?_
            refine lv_iadd hx hb dX9_copy_80 ?_
            refine lv_is (y := nI (16 + k9_53)) (nI_add 16 (k9_53)) ?_
            refine va_iald hx hb hK hP 1 0 rfl rfl (vp_in_nI (by omega) (by omega)) dX9_copy_81 ?_
            refine lv_topi (fun z_15 ez_15 => ?_)
            refine lv_i2l (v := z_15.toInt64) hx hb dX9_copy_82 rfl ?_
            refine va_last hx hb hK hP hD hS 4 1 rfl rfl (vp_in_iff.mpr (by omega)) dX9_copy_83 (fun H locs hP hD hS => ?_)
            obtain ⟨f_16, hP, hD⟩ : ∃ f_16 : Nat → Int64, PD D A [(sw_9 h0 g 0 b5 b6 b7 b8 b9 b10 b11 b12 b13 b14 b17 b18 b19 b23 b24 b25 b26 b27 b29 b31 b32 b33), (sw_in cT (g 0) 288 a0), (sw_in cT (g 11) 4 a11), (sw_in cT (g 12) 4 a12), (sw_lo cT (g 13) 160 f_16)] H := ⟨_, hP, hD⟩
            refine lv_iinc (v := (nI (k9_53 + 1))) (lv' := [(2, .int (nI (k9_53 + 1))), (0, .ref h0), (1, .int x)]) hx hb dX9_copy_84 hl (k := 0) rfl (by exact nI_1 (k9_53)) (by decide) rfl (fun ls hl => ?_)
            refine lv_goto (tgt := 53) hx hb dX9_copy_87 (by decide) ?_
            exact ih_53 (k9_53 + 1) _ _ _ _ (by omega) (by omega)  ⟨hP.sub [0, 1, 2, 3, 4] rfl, hD.sub [0, 1, 2, 3, 4] (by decide) rfl⟩ hS (lv_sub hl [0, 1, 2] rfl)
      · have ic_9 : z_7.toInt < z_8.toInt := inle c_9 (rfl) (rfl)
        refine lv_bipush (v := (-7)) hx hb dX9_copy_48 (by decide) ?_
        exact x_iret hx hb hr hlk hP hD hS [0, 1, 2, 3, 4] ((0, a13)) rfl (by decide) trivial (by decide) (by decide) dX9_copy_50
    · have ic_6 : z_5.toInt = (-1) := ieq c_6 (rfl) (by decide)
      refine lv_bipush (v := (-6)) hx hb dX9_copy_30 (by decide) ?_
      exact x_iret hx hb hr hlk hP hD hS [0, 1, 2, 3, 4] ((0, a13)) rfl (by decide) trivial (by decide) (by decide) dX9_copy_32
  · have ic_4 : r_3.toInt = 0 := ieq c_4 (rfl) (by decide)
    refine lv_bipush (v := (-2)) hx hb dX9_copy_17 (by decide) ?_
    exact x_iret hx hb hr hlk hP hD hS [0, 1, 2, 3, 4] ((0, a13)) rfl (by decide) trivial (by decide) (by decide) dX9_copy_19
