set_option maxHeartbeats 4000000 in
set_option maxRecDepth 100000 in
theorem m_imageX (l : Launch) (D : va_G) (cT : Nat → ClassId) (sz : Nat) (h0 : Nat) (g : Nat → Nat) (b0 : Int32) (b5 : Int32) (b6 : Int32) (b7 : Int32) (b8 : Int32) (b9 : Int32) (b10 : Int32) (b11 : Int32) (b12 : Int32) (b13 : Int32) (b14 : Int32) (b17 : Int32) (b18 : Int32) (b19 : Int32) (b23 : Int32) (b24 : Int32) (b25 : Int32) (b26 : Int32) (b27 : Int32) (b29 : Int32) (b31 : Int32) (b32 : Int32) (b33 : Int32) (hb5 : 0 ≤ b5.toInt ∧ b5.toInt ≤ 900) (a0 : Nat → Int32) (pa0 : PI 288 a0) (a1 : Nat → Int32) (x : Int32) : Met l yX9_image (wsc yX9_image cX9_image 3 (some .int)) { frames := 3, cells := 0, slots := 0, locals := 125 } (va_Pc [.ref h0, .int x] (PX D cT sz [(sw_9 h0 g b0 b5 b6 b7 b8 b9 b10 b11 b12 b13 b14 b17 b18 b19 b23 b24 b25 b26 b27 b29 b31 b32 b33), (sw_in cT (g 0) 288 a0), (sw_bo cT (g 1) 2 a1)])) (va_Qi (fun (r : Int32) (u : Int32 × (Nat → Int32) × (Nat → Int32)) => (PI 288 u.2.1) ∧ ((0 ≤ x.toInt ∧ x.toInt ≤ 1 ∧ r.toInt = 0) ∨ ((x.toInt < 0 ∨ 1 < x.toInt) ∧ r.toInt = -2)) ∧ ((x.toInt = 0 ∧ (u.2.2 0).toInt = 1) ∨ (¬ x.toInt = 0 ∧ (u.2.2 0).toInt = (a1 0).toInt)) ∧ ((x.toInt = 1 ∧ (u.2.2 1).toInt = 1) ∨ (¬ x.toInt = 1 ∧ (u.2.2 1).toInt = (a1 1).toInt)) ∧ ((0 ≤ x.toInt ∧ x.toInt ≤ 1) → ∀ k : Nat, k < 96 → u.2.1 ((96 * (x.toInt + 1)).toNat + k) = a0 k) ∧ ((0 ≤ x.toInt ∧ x.toInt ≤ 1) → ∀ j : Nat, ¬ (96 * (x.toInt + 1) ≤ (j : Int) ∧ (j : Int) < 96 * (x.toInt + 1) + 96) → u.2.1 j = a0 j) ∧ ((x.toInt < 0 ∨ 1 < x.toInt) → u.2.1 = a0) ∧ (True)) (fun u t => RW D (va_A [(sw_9 h0 g b0 b5 b6 b7 b8 b9 b10 b11 b12 b13 b14 b17 b18 b19 b23 b24 b25 b26 b27 b29 b31 b32 b33), (sw_in cT (g 0) 288 a0), (sw_bo cT (g 1) 2 a1)] sz) ((fun u : Int32 × (Nat → Int32) × (Nat → Int32) => [(sw_9 h0 g u.1 b5 b6 b7 b8 b9 b10 b11 b12 b13 b14 b17 b18 b19 b23 b24 b25 b26 b27 b29 b31 b32 b33), (sw_in cT (g 0) 288 u.2.1), (sw_bo cT (g 1) 2 u.2.2)]) u) t) (va_A [(sw_9 h0 g b0 b5 b6 b7 b8 b9 b10 b11 b12 b13 b14 b17 b18 b19 b23 b24 b25 b26 b27 b29 b31 b32 b33), (sw_in cT (g 0) 288 a0), (sw_bo cT (g 1) 2 a1)] sz)) 0 0 (va_A [(sw_9 h0 g b0 b5 b6 b7 b8 b9 b10 b11 b12 b13 b14 b17 b18 b19 b23 b24 b25 b26 b27 b29 b31 b32 b33), (sw_in cT (g 0) 288 a0), (sw_bo cT (g 1) 2 a1)] sz) := by
  refine m_of (y := yX9_image) (cc := cX9_image) (nL := 3) (ret := (some .int)) (D := D) (cT := cT) (av := [.ref h0, .int x]) (wi := [(sw_9 h0 g b0 b5 b6 b7 b8 b9 b10 b11 b12 b13 b14 b17 b18 b19 b23 b24 b25 b26 b27 b29 b31 b32 b33), (sw_in cT (g 0) 288 a0), (sw_bo cT (g 1) 2 a1)]) (fun A => va_Qi (fun (r : Int32) (u : Int32 × (Nat → Int32) × (Nat → Int32)) => (PI 288 u.2.1) ∧ ((0 ≤ x.toInt ∧ x.toInt ≤ 1 ∧ r.toInt = 0) ∨ ((x.toInt < 0 ∨ 1 < x.toInt) ∧ r.toInt = -2)) ∧ ((x.toInt = 0 ∧ (u.2.2 0).toInt = 1) ∨ (¬ x.toInt = 0 ∧ (u.2.2 0).toInt = (a1 0).toInt)) ∧ ((x.toInt = 1 ∧ (u.2.2 1).toInt = 1) ∨ (¬ x.toInt = 1 ∧ (u.2.2 1).toInt = (a1 1).toInt)) ∧ ((0 ≤ x.toInt ∧ x.toInt ≤ 1) → ∀ k : Nat, k < 96 → u.2.1 ((96 * (x.toInt + 1)).toNat + k) = a0 k) ∧ ((0 ≤ x.toInt ∧ x.toInt ≤ 1) → ∀ j : Nat, ¬ (96 * (x.toInt + 1) ≤ (j : Int) ∧ (j : Int) < 96 * (x.toInt + 1) + 96) → u.2.1 j = a0 j) ∧ ((x.toInt < 0 ∨ 1 < x.toInt) → u.2.1 = a0) ∧ (True)) (fun u t => RW D A ((fun u : Int32 × (Nat → Int32) × (Nat → Int32) => [(sw_9 h0 g u.1 b5 b6 b7 b8 b9 b10 b11 b12 b13 b14 b17 b18 b19 b23 b24 b25 b26 b27 b29 b31 b32 b33), (sw_in cT (g 0) 288 u.2.1), (sw_bo cT (g 1) 2 u.2.2)]) u) t) A) (by decide) (Nat.le_of_ble_eq_true rfl) ?_
  intro p e s m below meth c A hx hb hml hown htg hK hN hr hlk hnm hsz hP hD hS hA ls hl
  have hown : s.vm.findClass RX9 = some m.cls := hown
  have hl : lv_has ls 3 [(0, .ref h0), (1, .int x)] := hl
  have tc_m2 : ((-2) : Int32).toInt = (-2) := by decide
  have tc_0 : (0 : Int32).toInt = 0 := by decide
  have tc_1 : (1 : Int32).toInt = 1 := by decide
  have tc_96 : (96 : Int32).toInt = 96 := by decide
  refine lv_aload_n hx hb dX9_image_0 rfl (lv_at hl 0 rfl) ?_
  refine lv_iconst (v := 0) hx hb dX9_image_1 (by decide) ?_
  refine va_put (D := D) (ci := 9) (v := .int 0) (ty := .int) (C := RX9) (T := TX9) (N := 37) hx hb htg gRX9 tyX9 tyX9_ok nmX9 hown hK hP hD hS 0 rfl rfl 0 (by decide) (htg _ wi_1150) (fun _ h9 => h9) rfl (by decide +kernel) rfl rfl (Nat.le_of_ble_eq_true rfl) dX9_image_2 (fun H locs hP hD hS => ?_)
  obtain ⟨hP, hD⟩ : PD D A [(sw_9 h0 g 0 b5 b6 b7 b8 b9 b10 b11 b12 b13 b14 b17 b18 b19 b23 b24 b25 b26 b27 b29 b31 b32 b33), (sw_in cT (g 0) 288 a0), (sw_bo cT (g 1) 2 a1)] _ := ⟨hP, hD⟩
  refine lv_iload_n hx hb dX9_image_5 rfl (lv_at hl 1 rfl) ?_
  refine lv_i2l (v := x.toInt64) hx hb dX9_image_6 rfl ?_
  refine lv_lconst (v := 0) hx hb dX9_image_7 (by decide) ?_
  refine lv_lconst (v := 1) hx hb dX9_image_8 (by decide) ?_
  have ilw_1 : (x.toInt64).toInt = x.toInt := i2l_i _
  refine xk_i (wr := [(sw_9 h0 g 0 b5 b6 b7 b8 b9 b10 b11 b12 b13 b14 b17 b18 b19 b23 b24 b25 b26 b27 b29 b31 b32 b33), (sw_in cT (g 0) 288 a0), (sw_bo cT (g 1) 2 a1)]) (xr_S (n := 3) (As := [.long x.toInt64, .long 0, .long 1]) (rest := []) ⟨hx, hb, hml, hown, htg⟩ hK hN hP hD hS hA [] rfl (by decide) (m_withinB l D cT _ (x.toInt64) (0) (1) (x.toInt) (0) (1) (i2l_i _) (by decide) (by decide)) wi_1270 wi_1271 wi_131 wi_1272 ⟨rfl, by decide +kernel⟩ ⟨Nat.le_of_ble_eq_true rfl, Nat.le_of_ble_eq_true rfl⟩ rfl hl.1 rfl (Nat.le_of_ble_eq_true rfl) dX9_image_9 ⟨Nat.le_of_ble_eq_true rfl, Nat.le_of_ble_eq_true rfl⟩) hP hD hS hA [] [0, 1, 2] rfl rfl (by decide) (by decide) (fun r_3 u_2 H locs hwr_3 hP hD hS => ?_)
  obtain ⟨hP, hD⟩ : PD D A [(sw_9 h0 g 0 b5 b6 b7 b8 b9 b10 b11 b12 b13 b14 b17 b18 b19 b23 b24 b25 b26 b27 b29 b31 b32 b33), (sw_in cT (g 0) 288 a0), (sw_bo cT (g 1) 2 a1)] _ := ⟨hP, hD⟩
  have qr_3_0 : Imp (¬ r_3.toInt = 0) (0 ≤ x.toInt ∧ x.toInt ≤ 1) := hwr_3.1
  have qr_3_1 : Imp (r_3.toInt = 0) (x.toInt < 0 ∨ 1 < x.toInt) := hwr_3.2.1
  have qr_3_2 : r_3 = 0 ∨ r_3 = 1 := hwr_3.2.2.1
  refine lv_if_ne (tgt := 18) hx hb dX9_image_12 (by decide) (fun c_4 => ?_) (fun c_4 => ?_)
  · have ic_4 : ¬ r_3.toInt = 0 := ine c_4 (rfl) (by decide)
    have kqr_3_0 : 0 ≤ x.toInt ∧ x.toInt ≤ 1 := qr_3_0 ic_4
    refine lv_iconst (v := 0) hx hb dX9_image_18 (by decide) ?_
    refine lv_istore_n (lv' := [(2, .int 0), (0, .ref h0), (1, .int x)]) hx hb dX9_image_19 rfl hl (by decide) rfl (fun ls hl => ?_)
    have hk0 : ∀ j : Nat, j < 0 → a0 ((96 * (x.toInt + 1)).toNat + j) = a0 j := fun j h => absurd h (by omega)
    have hk1 : ∀ j : Nat, ¬ (96 * (x.toInt + 1) ≤ (j : Int) ∧ (j : Int) < 96 * (x.toInt + 1) + 96) → a0 j = a0 j := fun _ _ => rfl
    refine (fun (key : ∀ (n9_20 : Nat) (k9_20 : Nat) (f9_20_0 : Nat → Int32) (H : Heap) (locs : List Loc) (ls : Array Slot), (k9_20 : Int) ≤ 96 → 96 < (k9_20 : Int) + n9_20 → (∀ j : Nat, j < k9_20 → f9_20_0 ((96 * (x.toInt + 1)).toNat + j) = a0 j) → (∀ j : Nat, ¬ (96 * (x.toInt + 1) ≤ (j : Int) ∧ (j : Int) < 96 * (x.toInt + 1) + 96) → f9_20_0 j = a0 j) → PI 288 f9_20_0 → PD D A [(sw_9 h0 g 0 b5 b6 b7 b8 b9 b10 b11 b12 b13 b14 b17 b18 b19 b23 b24 b25 b26 b27 b29 b31 b32 b33), (sw_in cT (g 0) 288 f9_20_0), (sw_bo cT (g 1) 2 a1)] H → va_S A s.heap H locs → lv_has ls 3 [(2, .int (nI k9_20)), (0, .ref h0), (1, .int x)] → W p l e _ s m _ below meth c H locs _ _ _ (F0 m 20 ls [])) => key (Int.toNat (96 - 0) + 1) 0 _ _ _ _ (by omega) (by omega) (by first | assumption | omega | decide | (simp only [ti_0, ti_1, ti_2, ti_3, ti_4, ti_5, ti_6, ti_7, ti_8, ti_9, ti_10, ti_11, ti_12, ti_m1]; omega)) (by first | assumption | omega | decide | (simp only [ti_0, ti_1, ti_2, ti_3, ti_4, ti_5, ti_6, ti_7, ti_8, ti_9, ti_10, ti_11, ti_12, ti_m1]; omega)) (by first | assumption | omega | decide | (simp only [ti_0, ti_1, ti_2, ti_3, ti_4, ti_5, ti_6, ti_7, ti_8, ti_9, ti_10, ti_11, ti_12, ti_m1]; omega)) ⟨hP, hD⟩ hS (lv_sub hl [0, 1, 2] rfl)) ?_
    intro n9_20
    induction n9_20 with
    | zero => intro k9_20 f9_20_0 H locs ls hq1 hq2; exact absurd hq2 (by omega)
    | succ n9_20 ih_20 =>
      intro k9_20 f9_20_0 H locs ls hq1_20 hq2_20 h9_20_0 h9_20_1 h9_20_2 hPD hS hl
      obtain ⟨hP, hD⟩ := hPD
      have hk9_20 : (nI k9_20).toInt = (k9_20 : Int) := nI_toInt (by omega)
      refine lv_iload_n hx hb dX9_image_20 rfl (lv_at hl 0 rfl) ?_
      refine lv_bipush (v := 96) hx hb dX9_image_21 (by decide) ?_
      refine lv_icmp_ge (tgt := 51) hx hb dX9_image_23 (by decide) (fun c_5 => ?_) (fun c_5 => ?_)
      · have ic_5 : 96 ≤ ((k9_20 : Nat) : Int) := ile c_5 (by decide) (nI_toInt (by omega))
        have hI0 : ∀ k : Nat, k < 96 → f9_20_0 ((96 * (x.toInt + 1)).toNat + k) = a0 k := fun k hk => h9_20_0 k (by omega)
        have hI1 : ∀ j : Nat, ¬ (96 * (x.toInt + 1) ≤ (j : Int) ∧ (j : Int) < 96 * (x.toInt + 1) + 96) → f9_20_0 j = a0 j := h9_20_1
        have c_6 : x = 0 ∨ x = 1 := by
          rcases (show x.toInt = 0 ∨ x.toInt = 1 from by omega) with h | h
          · exact Or.inl (i32_is (h.trans (by decide)))
          · exact Or.inr (i32_is (h.trans (by decide)))
        rcases c_6 with rfl | rfl
        · refine lv_aload_n hx hb dX9_image_51 rfl (lv_at hl 1 rfl) ?_
          refine va_get (D := D) (ci := 9) (v := .ref (g 1)) (C := RX9) (T := TX9) (N := 37) hx hb htg gRX9 hown hK hP 0 rfl rfl 2 (by decide) (htg _ wi_1152) (fun _ h9 => h9) rfl dX9_image_52 ?_
          refine lv_iload_n hx hb dX9_image_55 rfl (lv_at hl 2 rfl) ?_
          refine lv_iconst (v := 1) hx hb dX9_image_56 (by decide) ?_
          refine va_zast hx hb hK hP hD hS 2 3 rfl rfl (by unfold vp_in; decide) dX9_image_57 (fun H locs hP hD hS => ?_)
          obtain ⟨f_7, ef_7, hP, hD⟩ : ∃ f_7 : Nat → Int32, f_7 = upd (a1) (0 : Int32).toNatClampNeg (vp_nar .boolean 1) ∧ PD D A [(sw_9 h0 g 0 b5 b6 b7 b8 b9 b10 b11 b12 b13 b14 b17 b18 b19 b23 b24 b25 b26 b27 b29 b31 b32 b33), (sw_in cT (g 0) 288 f9_20_0), (sw_bo cT (g 1) 2 f_7)] H := ⟨_, rfl, hP, hD⟩
          have nf_7_0 : (f_7 0).toInt = 1 := by rw [ef_7]; exact (congrArg Int32.toInt (if_pos (by decide))).trans (by decide)
          have nf_7_1 : (f_7 1).toInt = ((a1) 1).toInt := by rw [ef_7]; exact congrArg Int32.toInt (if_neg (by decide))
          refine lv_iconst (v := 0) hx hb dX9_image_58 (by decide) ?_
          exact x_iret hx hb hr hlk hP hD hS [0, 1, 2] ((0, f9_20_0, f_7)) rfl (by decide) ⟨by (try dsimp only); first | assumption | omega | decide | exact Or.inl (by decide) | (intro h9; exact absurd h9 (by decide)) | (intro _; omega) | (intro _; assumption) | (intro _; decide), by (try dsimp only); first | assumption | omega | decide | exact Or.inl (by decide) | (intro h9; exact absurd h9 (by decide)) | (intro _; omega) | (intro _; assumption) | (intro _; decide), by (try dsimp only); first | assumption | omega | decide | exact Or.inl (by decide) | (intro h9; exact absurd h9 (by decide)) | (intro _; omega) | (intro _; assumption) | (intro _; decide), by (try dsimp only); first | assumption | omega | decide | exact Or.inl (by decide) | (intro h9; exact absurd h9 (by decide)) | (intro _; omega) | (intro _; assumption) | (intro _; decide), (fun _ k hk => hI0 k hk), (fun _ => hI1), (fun h9 => by exfalso; omega), trivial⟩ (by decide) (by decide) dX9_image_59
        · refine lv_aload_n hx hb dX9_image_51 rfl (lv_at hl 1 rfl) ?_
          refine va_get (D := D) (ci := 9) (v := .ref (g 1)) (C := RX9) (T := TX9) (N := 37) hx hb htg gRX9 hown hK hP 0 rfl rfl 2 (by decide) (htg _ wi_1152) (fun _ h9 => h9) rfl dX9_image_52 ?_
          refine lv_iload_n hx hb dX9_image_55 rfl (lv_at hl 2 rfl) ?_
          refine lv_iconst (v := 1) hx hb dX9_image_56 (by decide) ?_
          refine va_zast hx hb hK hP hD hS 2 3 rfl rfl (by unfold vp_in; decide) dX9_image_57 (fun H locs hP hD hS => ?_)
          obtain ⟨f_8, ef_8, hP, hD⟩ : ∃ f_8 : Nat → Int32, f_8 = upd (a1) (1 : Int32).toNatClampNeg (vp_nar .boolean 1) ∧ PD D A [(sw_9 h0 g 0 b5 b6 b7 b8 b9 b10 b11 b12 b13 b14 b17 b18 b19 b23 b24 b25 b26 b27 b29 b31 b32 b33), (sw_in cT (g 0) 288 f9_20_0), (sw_bo cT (g 1) 2 f_8)] H := ⟨_, rfl, hP, hD⟩
          have nf_8_0 : (f_8 0).toInt = ((a1) 0).toInt := by rw [ef_8]; exact congrArg Int32.toInt (if_neg (by decide))
          have nf_8_1 : (f_8 1).toInt = 1 := by rw [ef_8]; exact (congrArg Int32.toInt (if_pos (by decide))).trans (by decide)
          refine lv_iconst (v := 0) hx hb dX9_image_58 (by decide) ?_
          exact x_iret hx hb hr hlk hP hD hS [0, 1, 2] ((0, f9_20_0, f_8)) rfl (by decide) ⟨by (try dsimp only); first | assumption | omega | decide | exact Or.inl (by decide) | (intro h9; exact absurd h9 (by decide)) | (intro _; omega) | (intro _; assumption) | (intro _; decide), by (try dsimp only); first | assumption | omega | decide | exact Or.inl (by decide) | (intro h9; exact absurd h9 (by decide)) | (intro _; omega) | (intro _; assumption) | (intro _; decide), by (try dsimp only); first | assumption | omega | decide | exact Or.inl (by decide) | (intro h9; exact absurd h9 (by decide)) | (intro _; omega) | (intro _; assumption) | (intro _; decide), by (try dsimp only); first | assumption | omega | decide | exact Or.inl (by decide) | (intro h9; exact absurd h9 (by decide)) | (intro _; omega) | (intro _; assumption) | (intro _; decide), (fun _ k hk => hI0 k hk), (fun _ => hI1), (fun h9 => by exfalso; omega), trivial⟩ (by decide) (by decide) dX9_image_59
      · have ic_5 : ((k9_20 : Nat) : Int) < 96 := inle c_5 (by decide) (nI_toInt (by omega))
        refine lv_aload_n hx hb dX9_image_26 rfl (lv_at hl 1 rfl) ?_
        refine va_get (D := D) (ci := 9) (v := .ref (g 0)) (C := RX9) (T := TX9) (N := 37) hx hb htg gRX9 hown hK hP 0 rfl rfl 1 (by decide) (htg _ wi_1151) (fun _ h9 => h9) rfl dX9_image_27 ?_
        refine lv_bipush (v := 96) hx hb dX9_image_30 (by decide) ?_
        refine lv_iload_n hx hb dX9_image_32 rfl (lv_at hl 2 rfl) ?_
        refine lv_iconst (v := 1) hx hb dX9_image_33 (by decide) ?_
        refine lv_iadd hx hb dX9_image_34 ?_
        refine lv_topi (fun z_9 ez_9 => ?_)
        have iz_9 : z_9.toInt = x.toInt + 1 := toInt_addI ez_9 (rfl) (by decide) (by omega)
        refine lv_imul hx hb dX9_image_35 ?_
        refine lv_topi (fun z_10 ez_10 => ?_)
        have iz_10 : z_10.toInt = 96 * z_9.toInt := toInt_mulI ez_10 (by decide) (rfl) (by omega)
        refine lv_iload_n hx hb dX9_image_36 rfl (lv_at hl 0 rfl) ?_
        refine lv_iadd hx hb dX9_image_37 ?_
        refine lv_topi (fun z_11 ez_11 => ?_)
        have iz_11 : z_11.toInt = z_10.toInt + ((k9_20 : Nat) : Int) := toInt_addI ez_11 (rfl) (nI_toInt (by omega)) (by omega)
        refine lv_aload_n hx hb dX9_image_38 rfl (lv_at hl 1 rfl) ?_
        refine va_get (D := D) (ci := 9) (v := .ref (g 0)) (C := RX9) (T := TX9) (N := 37) hx hb htg gRX9 hown hK hP 0 rfl rfl 1 (by decide) (htg _ wi_1151) (fun _ h9 => h9) rfl dX9_image_39 ?_
        refine lv_iload_n hx hb dX9_image_42 rfl (lv_at hl 0 rfl) ?_
        refine va_iald hx hb hK hP 1 0 rfl rfl (vp_in_nI (by omega) (by omega)) dX9_image_43 ?_
        refine lv_topi (fun z_12 ez_12 => ?_)
        have oz_12 := pi_rd (a := ((k9_20 : Nat) : Int)) h9_20_2 ez_12 (nI_toInt (by omega)) (by omega)
        unfold OKP at oz_12
        refine va_iast hx hb hK hP hD hS 1 0 rfl rfl (vp_in_iff.mpr (by omega)) dX9_image_44 (fun H locs hP hD hS => ?_)
        obtain ⟨f_13, ef_13, hP, hD⟩ : ∃ f_13 : Nat → Int32, f_13 = upd (f9_20_0) (z_11 : Int32).toNatClampNeg z_12 ∧ PD D A [(sw_9 h0 g 0 b5 b6 b7 b8 b9 b10 b11 b12 b13 b14 b17 b18 b19 b23 b24 b25 b26 b27 b29 b31 b32 b33), (sw_in cT (g 0) 288 f_13), (sw_bo cT (g 1) 2 a1)] H := ⟨_, rfl, hP, hD⟩
        have qf_13 : PI 288 f_13 := by rw [ef_13]; exact pi_upd (a := z_11.toInt) (b := z_12.toInt) h9_20_2 (rfl) (rfl) (by omega) (by unfold OKP; omega)
        refine lv_iinc (v := (nI (k9_20 + 1))) (lv' := [(2, .int (nI (k9_20 + 1))), (0, .ref h0), (1, .int x)]) hx hb dX9_image_45 hl (k := 0) rfl (by exact nI_1 (k9_20)) (by decide) rfl (fun ls hl => ?_)
        refine lv_goto (tgt := 20) hx hb dX9_image_48 (by decide) ?_
        have hv9 : z_12 = a0 k9_20 := by rw [ez_12, nI_clamp (by omega)]; exact h9_20_1 _ (by omega)
        have hk0 : ∀ j : Nat, j < k9_20 + 1 → f_13 ((96 * (x.toInt + 1)).toNat + j) = a0 j := fun j h => by rw [ef_13]; rcases (show j = k9_20 ∨ j < k9_20 from by omega) with h1 | h1; rw [upd_at2 (by omega), hv9, h1]; rw [upd_no (by omega) (by omega)]; exact h9_20_0 j h1
        have hk1 : ∀ j : Nat, ¬ (96 * (x.toInt + 1) ≤ (j : Int) ∧ (j : Int) < 96 * (x.toInt + 1) + 96) → f_13 j = a0 j := fun j h => by rw [ef_13, upd_no (by omega) (by omega)]; exact h9_20_1 j h
        exact ih_20 (k9_20 + 1) _ _ _ _ (by omega) (by omega) (by first | assumption | omega | decide | (simp only [ti_0, ti_1, ti_2, ti_3, ti_4, ti_5, ti_6, ti_7, ti_8, ti_9, ti_10, ti_11, ti_12, ti_m1]; omega)) (by first | assumption | omega | decide | (simp only [ti_0, ti_1, ti_2, ti_3, ti_4, ti_5, ti_6, ti_7, ti_8, ti_9, ti_10, ti_11, ti_12, ti_m1]; omega)) (by first | assumption | omega | decide | (simp only [ti_0, ti_1, ti_2, ti_3, ti_4, ti_5, ti_6, ti_7, ti_8, ti_9, ti_10, ti_11, ti_12, ti_m1]; omega)) ⟨hP.sub [0, 1, 2] rfl, hD.sub [0, 1, 2] (by decide) rfl⟩ hS (lv_sub hl [0, 1, 2] rfl)
  · have ic_4 : r_3.toInt = 0 := ieq c_4 (rfl) (by decide)
    have kqr_3_1 : x.toInt < 0 ∨ 1 < x.toInt := qr_3_1 ic_4
    refine lv_bipush (v := (-2)) hx hb dX9_image_15 (by decide) ?_
    exact x_iret hx hb hr hlk hP hD hS [0, 1, 2] ((0, a0, a1)) rfl (by decide) ⟨by (try dsimp only); first | assumption | omega | decide | exact Or.inl (by decide) | (intro h9; exact absurd h9 (by decide)) | (intro _; omega) | (intro _; assumption) | (intro _; decide), by (try dsimp only); first | assumption | omega | decide | exact Or.inl (by decide) | (intro h9; exact absurd h9 (by decide)) | (intro _; omega) | (intro _; assumption) | (intro _; decide), by (try dsimp only); first | assumption | omega | decide | exact Or.inl (by decide) | (intro h9; exact absurd h9 (by decide)) | (intro _; omega) | (intro _; assumption) | (intro _; decide), by (try dsimp only); first | assumption | omega | decide | exact Or.inl (by decide) | (intro h9; exact absurd h9 (by decide)) | (intro _; omega) | (intro _; assumption) | (intro _; decide), (fun h9 => by exfalso; omega), (fun h9 => by exfalso; omega), (fun _ => rfl), trivial⟩ (by decide) (by decide) dX9_image_17
