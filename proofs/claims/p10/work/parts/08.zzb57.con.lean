set_option maxHeartbeats 4000000 in
set_option maxRecDepth 100000 in
theorem m_restoreX (l : Launch) (D : va_G) (cT : Nat → ClassId) (sz : Nat) (h0 : Nat) (g : Nat → Nat) (b0 : Int32) (b5 : Int32) (b6 : Int32) (b7 : Int32) (b8 : Int32) (b9 : Int32) (b10 : Int32) (b11 : Int32) (b12 : Int32) (b13 : Int32) (b14 : Int32) (b17 : Int32) (b18 : Int32) (b19 : Int32) (b23 : Int32) (b24 : Int32) (b25 : Int32) (b26 : Int32) (b27 : Int32) (b29 : Int32) (b31 : Int32) (b32 : Int32) (b33 : Int32) (hb5 : 0 ≤ b5.toInt ∧ b5.toInt ≤ 900) (a0 : Nat → Int32) (pa0 : PI 288 a0) (a1 : Nat → Int32) (x : Int32) : Met l yX9_restore (wsc yX9_restore cX9_restore 3 (some .int)) { frames := 3, cells := 0, slots := 0, locals := 125 } (va_Pc [.ref h0, .int x] (PX D cT sz [(sw_9 h0 g b0 b5 b6 b7 b8 b9 b10 b11 b12 b13 b14 b17 b18 b19 b23 b24 b25 b26 b27 b29 b31 b32 b33), (sw_in cT (g 0) 288 a0), (sw_bo cT (g 1) 2 a1)])) (va_Qi (fun (r : Int32) (u : Int32 × (Nat → Int32)) => (PI 288 u.2) ∧ ((r.toInt = -2 ∧ (x.toInt < 0 ∨ 1 < x.toInt)) ∨ (r.toInt = -5 ∧ ((x.toInt = 0 ∧ (a1 0).toInt = 0) ∨ (x.toInt = 1 ∧ (a1 1).toInt = 0))) ∨ (r.toInt = 0 ∧ ((x.toInt = 0 ∧ ¬ (a1 0).toInt = 0) ∨ (x.toInt = 1 ∧ ¬ (a1 1).toInt = 0)))) ∧ (x.toInt = 0 → ¬ (a1 0).toInt = 0 → ∀ k : Nat, k < 96 → u.2 k = a0 (96 + k)) ∧ (x.toInt = 0 → ¬ (a1 0).toInt = 0 → ∀ j : Nat, 96 ≤ j → u.2 j = a0 j) ∧ (x.toInt = 1 → ¬ (a1 1).toInt = 0 → ∀ k : Nat, k < 96 → u.2 k = a0 (192 + k)) ∧ (x.toInt = 1 → ¬ (a1 1).toInt = 0 → ∀ j : Nat, 96 ≤ j → u.2 j = a0 j) ∧ (¬ (x.toInt = 0 ∧ ¬ (a1 0).toInt = 0) → ¬ (x.toInt = 1 ∧ ¬ (a1 1).toInt = 0) → u.2 = a0) ∧ (True)) (fun u t => RW D (va_A [(sw_9 h0 g b0 b5 b6 b7 b8 b9 b10 b11 b12 b13 b14 b17 b18 b19 b23 b24 b25 b26 b27 b29 b31 b32 b33), (sw_in cT (g 0) 288 a0), (sw_bo cT (g 1) 2 a1)] sz) ((fun u : Int32 × (Nat → Int32) => [(sw_9 h0 g u.1 b5 b6 b7 b8 b9 b10 b11 b12 b13 b14 b17 b18 b19 b23 b24 b25 b26 b27 b29 b31 b32 b33), (sw_in cT (g 0) 288 u.2), (sw_bo cT (g 1) 2 a1)]) u) t) (va_A [(sw_9 h0 g b0 b5 b6 b7 b8 b9 b10 b11 b12 b13 b14 b17 b18 b19 b23 b24 b25 b26 b27 b29 b31 b32 b33), (sw_in cT (g 0) 288 a0), (sw_bo cT (g 1) 2 a1)] sz)) 0 0 (va_A [(sw_9 h0 g b0 b5 b6 b7 b8 b9 b10 b11 b12 b13 b14 b17 b18 b19 b23 b24 b25 b26 b27 b29 b31 b32 b33), (sw_in cT (g 0) 288 a0), (sw_bo cT (g 1) 2 a1)] sz) := by
  refine m_of (y := yX9_restore) (cc := cX9_restore) (nL := 3) (ret := (some .int)) (D := D) (cT := cT) (av := [.ref h0, .int x]) (wi := [(sw_9 h0 g b0 b5 b6 b7 b8 b9 b10 b11 b12 b13 b14 b17 b18 b19 b23 b24 b25 b26 b27 b29 b31 b32 b33), (sw_in cT (g 0) 288 a0), (sw_bo cT (g 1) 2 a1)]) (fun A => va_Qi (fun (r : Int32) (u : Int32 × (Nat → Int32)) => (PI 288 u.2) ∧ ((r.toInt = -2 ∧ (x.toInt < 0 ∨ 1 < x.toInt)) ∨ (r.toInt = -5 ∧ ((x.toInt = 0 ∧ (a1 0).toInt = 0) ∨ (x.toInt = 1 ∧ (a1 1).toInt = 0))) ∨ (r.toInt = 0 ∧ ((x.toInt = 0 ∧ ¬ (a1 0).toInt = 0) ∨ (x.toInt = 1 ∧ ¬ (a1 1).toInt = 0)))) ∧ (x.toInt = 0 → ¬ (a1 0).toInt = 0 → ∀ k : Nat, k < 96 → u.2 k = a0 (96 + k)) ∧ (x.toInt = 0 → ¬ (a1 0).toInt = 0 → ∀ j : Nat, 96 ≤ j → u.2 j = a0 j) ∧ (x.toInt = 1 → ¬ (a1 1).toInt = 0 → ∀ k : Nat, k < 96 → u.2 k = a0 (192 + k)) ∧ (x.toInt = 1 → ¬ (a1 1).toInt = 0 → ∀ j : Nat, 96 ≤ j → u.2 j = a0 j) ∧ (¬ (x.toInt = 0 ∧ ¬ (a1 0).toInt = 0) → ¬ (x.toInt = 1 ∧ ¬ (a1 1).toInt = 0) → u.2 = a0) ∧ (True)) (fun u t => RW D A ((fun u : Int32 × (Nat → Int32) => [(sw_9 h0 g u.1 b5 b6 b7 b8 b9 b10 b11 b12 b13 b14 b17 b18 b19 b23 b24 b25 b26 b27 b29 b31 b32 b33), (sw_in cT (g 0) 288 u.2), (sw_bo cT (g 1) 2 a1)]) u) t) A) (by decide) (Nat.le_of_ble_eq_true rfl) ?_
  intro p e s m below meth c A hx hb hml hown htg hK hN hr hlk hnm hsz hP hD hS hA ls hl
  have hown : s.vm.findClass RX9 = some m.cls := hown
  have hl : lv_has ls 3 [(0, .ref h0), (1, .int x)] := hl
  have tc_m5 : ((-5) : Int32).toInt = (-5) := by decide
  have tc_m2 : ((-2) : Int32).toInt = (-2) := by decide
  have tc_0 : (0 : Int32).toInt = 0 := by decide
  have tc_1 : (1 : Int32).toInt = 1 := by decide
  have tc_96 : (96 : Int32).toInt = 96 := by decide
  refine lv_aload_n hx hb dX9_restore_0 rfl (lv_at hl 0 rfl) ?_
  refine lv_iconst (v := 0) hx hb dX9_restore_1 (by decide) ?_
  refine va_put (D := D) (ci := 9) (v := .int 0) (ty := .int) (C := RX9) (T := TX9) (N := 37) hx hb htg gRX9 tyX9 tyX9_ok nmX9 hown hK hP hD hS 0 rfl rfl 0 (by decide) (htg _ wi_1150) (fun _ h9 => h9) rfl (by decide +kernel) rfl rfl (Nat.le_of_ble_eq_true rfl) dX9_restore_2 (fun H locs hP hD hS => ?_)
  obtain ⟨hP, hD⟩ : PD D A [(sw_9 h0 g 0 b5 b6 b7 b8 b9 b10 b11 b12 b13 b14 b17 b18 b19 b23 b24 b25 b26 b27 b29 b31 b32 b33), (sw_in cT (g 0) 288 a0), (sw_bo cT (g 1) 2 a1)] _ := ⟨hP, hD⟩
  refine lv_iload_n hx hb dX9_restore_5 rfl (lv_at hl 1 rfl) ?_
  refine lv_i2l (v := x.toInt64) hx hb dX9_restore_6 rfl ?_
  refine lv_lconst (v := 0) hx hb dX9_restore_7 (by decide) ?_
  refine lv_lconst (v := 1) hx hb dX9_restore_8 (by decide) ?_
  have ilw_1 : (x.toInt64).toInt = x.toInt := i2l_i _
  refine xk_i (wr := [(sw_9 h0 g 0 b5 b6 b7 b8 b9 b10 b11 b12 b13 b14 b17 b18 b19 b23 b24 b25 b26 b27 b29 b31 b32 b33), (sw_in cT (g 0) 288 a0), (sw_bo cT (g 1) 2 a1)]) (xr_S (n := 3) (As := [.long x.toInt64, .long 0, .long 1]) (rest := []) ⟨hx, hb, hml, hown, htg⟩ hK hN hP hD hS hA [] rfl (by decide) (m_withinB l D cT _ (x.toInt64) (0) (1) (x.toInt) (0) (1) (i2l_i _) (by decide) (by decide)) wi_1270 wi_1271 wi_131 wi_1272 ⟨rfl, by decide +kernel⟩ ⟨Nat.le_of_ble_eq_true rfl, Nat.le_of_ble_eq_true rfl⟩ rfl hl.1 rfl (Nat.le_of_ble_eq_true rfl) dX9_restore_9 ⟨Nat.le_of_ble_eq_true rfl, Nat.le_of_ble_eq_true rfl⟩) hP hD hS hA [] [0, 1, 2] rfl rfl (by decide) (by decide) (fun r_3 u_2 H locs hwr_3 hP hD hS => ?_)
  obtain ⟨hP, hD⟩ : PD D A [(sw_9 h0 g 0 b5 b6 b7 b8 b9 b10 b11 b12 b13 b14 b17 b18 b19 b23 b24 b25 b26 b27 b29 b31 b32 b33), (sw_in cT (g 0) 288 a0), (sw_bo cT (g 1) 2 a1)] _ := ⟨hP, hD⟩
  have qr_3_0 : Imp (¬ r_3.toInt = 0) (0 ≤ x.toInt ∧ x.toInt ≤ 1) := hwr_3.1
  have qr_3_1 : Imp (r_3.toInt = 0) (x.toInt < 0 ∨ 1 < x.toInt) := hwr_3.2.1
  have qr_3_2 : r_3 = 0 ∨ r_3 = 1 := hwr_3.2.2.1
  refine lv_if_ne (tgt := 18) hx hb dX9_restore_12 (by decide) (fun c_4 => ?_) (fun c_4 => ?_)
  · have ic_4 : ¬ r_3.toInt = 0 := ine c_4 (rfl) (by decide)
    have kqr_3_0 : 0 ≤ x.toInt ∧ x.toInt ≤ 1 := qr_3_0 ic_4
    have c_5 : x = 0 ∨ x = 1 := by
      rcases (show x.toInt = 0 ∨ x.toInt = 1 from by omega) with h | h
      · exact Or.inl (i32_is (h.trans (by decide)))
      · exact Or.inr (i32_is (h.trans (by decide)))
    rcases c_5 with rfl | rfl
    · refine lv_aload_n hx hb dX9_restore_18 rfl (lv_at hl 0 rfl) ?_
      refine va_get (D := D) (ci := 9) (v := .ref (g 1)) (C := RX9) (T := TX9) (N := 37) hx hb htg gRX9 hown hK hP 0 rfl rfl 2 (by decide) (htg _ wi_1152) (fun _ h9 => h9) rfl dX9_restore_19 ?_
      refine lv_iload_n hx hb dX9_restore_22 rfl (lv_at hl 1 rfl) ?_
      refine va_zald hx hb hK hP 2 3 rfl rfl (by unfold vp_in; decide) dX9_restore_23 ?_
      refine lv_topi (fun z_6 ez_6 => ?_)
      have nz_6 : z_6.toInt = ((a1) 0).toInt := by rw [ez_6]; rfl
      refine lv_if_ne (tgt := 30) hx hb dX9_restore_24 (by decide) (fun c_7 => ?_) (fun c_7 => ?_)
      · have ic_7 : ¬ z_6.toInt = 0 := ine c_7 (rfl) (by decide)
        refine lv_iconst (v := 0) hx hb dX9_restore_30 (by decide) ?_
        refine lv_istore_n (lv' := [(2, .int 0), (0, .ref h0), (1, .int 0)]) hx hb dX9_restore_31 rfl hl (by decide) rfl (fun ls hl => ?_)
        have hk0 : ∀ j : Nat, j < 0 → a0 j = a0 (96 + j) := fun j h => absurd h (by omega)
        have hk1 : ∀ j : Nat, 96 ≤ j → a0 j = a0 j := fun _ _ => rfl
        refine (fun (key : ∀ (n9_32 : Nat) (k9_32 : Nat) (f9_32_0 : Nat → Int32) (H : Heap) (locs : List Loc) (ls : Array Slot), (k9_32 : Int) ≤ 96 → 96 < (k9_32 : Int) + n9_32 → (∀ j : Nat, j < k9_32 → f9_32_0 j = a0 (96 + j)) → (∀ j : Nat, 96 ≤ j → f9_32_0 j = a0 j) → PI 288 f9_32_0 → PD D A [(sw_9 h0 g 0 b5 b6 b7 b8 b9 b10 b11 b12 b13 b14 b17 b18 b19 b23 b24 b25 b26 b27 b29 b31 b32 b33), (sw_in cT (g 0) 288 f9_32_0), (sw_bo cT (g 1) 2 a1)] H → va_S A s.heap H locs → lv_has ls 3 [(2, .int (nI k9_32)), (0, .ref h0), (1, .int 0)] → W p l e _ s m _ below meth c H locs _ _ _ (F0 m 32 ls [])) => key (Int.toNat (96 - 0) + 1) 0 _ _ _ _ (by omega) (by omega) (by first | assumption | omega | decide | (simp only [ti_0, ti_1, ti_2, ti_3, ti_4, ti_5, ti_6, ti_7, ti_8, ti_9, ti_10, ti_11, ti_12, ti_m1]; omega)) (by first | assumption | omega | decide | (simp only [ti_0, ti_1, ti_2, ti_3, ti_4, ti_5, ti_6, ti_7, ti_8, ti_9, ti_10, ti_11, ti_12, ti_m1]; omega)) (by first | assumption | omega | decide | (simp only [ti_0, ti_1, ti_2, ti_3, ti_4, ti_5, ti_6, ti_7, ti_8, ti_9, ti_10, ti_11, ti_12, ti_m1]; omega)) ⟨hP, hD⟩ hS (lv_sub hl [0, 1, 2] rfl)) ?_
        intro n9_32
        induction n9_32 with
        | zero => intro k9_32 f9_32_0 H locs ls hq1 hq2; exact absurd hq2 (by omega)
        | succ n9_32 ih_32 =>
          intro k9_32 f9_32_0 H locs ls hq1_32 hq2_32 h9_32_0 h9_32_1 h9_32_2 hPD hS hl
          obtain ⟨hP, hD⟩ := hPD
          have hk9_32 : (nI k9_32).toInt = (k9_32 : Int) := nI_toInt (by omega)
          refine lv_iload_n hx hb dX9_restore_32 rfl (lv_at hl 0 rfl) ?_
          refine lv_bipush (v := 96) hx hb dX9_restore_33 (by decide) ?_
          refine lv_icmp_ge (tgt := 63) hx hb dX9_restore_35 (by decide) (fun c_8 => ?_) (fun c_8 => ?_)
          · have ic_8 : 96 ≤ ((k9_32 : Nat) : Int) := ile c_8 (by decide) (nI_toInt (by omega))
            refine lv_iconst (v := 0) hx hb dX9_restore_63 (by decide) ?_
            exact x_iret hx hb hr hlk hP hD hS [0, 1, 2] ((0, f9_32_0)) rfl (by decide) ⟨by (try dsimp only); first | assumption | omega | decide | exact Or.inl (by decide) | (intro h9; exact absurd h9 (by decide)) | (intro _; omega) | (intro _; assumption) | (intro _; decide), by (try dsimp only); first | assumption | omega | decide | exact Or.inl (by decide) | (intro h9; exact absurd h9 (by decide)) | (intro _; omega) | (intro _; assumption) | (intro _; decide), (fun _ _ k hk => h9_32_0 k (by omega)), (fun _ _ => h9_32_1), (fun h8 h9 => by exfalso; omega), (fun h8 h9 => by exfalso; omega), (fun h8 h9 => by exfalso; omega), trivial⟩ (by decide) (by decide) dX9_restore_64
          · have ic_8 : ((k9_32 : Nat) : Int) < 96 := inle c_8 (by decide) (nI_toInt (by omega))
            refine lv_aload_n hx hb dX9_restore_38 rfl (lv_at hl 1 rfl) ?_
            refine va_get (D := D) (ci := 9) (v := .ref (g 0)) (C := RX9) (T := TX9) (N := 37) hx hb htg gRX9 hown hK hP 0 rfl rfl 1 (by decide) (htg _ wi_1151) (fun _ h9 => h9) rfl dX9_restore_39 ?_
            refine lv_iload_n hx hb dX9_restore_42 rfl (lv_at hl 0 rfl) ?_
            refine lv_aload_n hx hb dX9_restore_43 rfl (lv_at hl 1 rfl) ?_
            refine va_get (D := D) (ci := 9) (v := .ref (g 0)) (C := RX9) (T := TX9) (N := 37) hx hb htg gRX9 hown hK hP 0 rfl rfl 1 (by decide) (htg _ wi_1151) (fun _ h9 => h9) rfl dX9_restore_44 ?_
            refine lv_bipush (v := 96) hx hb dX9_restore_47 (by decide) ?_
            refine lv_iload_n hx hb dX9_restore_49 rfl (lv_at hl 2 rfl) ?_
            refine lv_iconst (v := 1) hx hb dX9_restore_50 (by decide) ?_
            refine lv_iadd hx hb dX9_restore_51 ?_
            refine lv_is (y := 1) (by decide) ?_
            refine lv_imul hx hb dX9_restore_52 ?_
            refine lv_is (y := 96) (by decide) ?_
            refine lv_iload_n hx hb dX9_restore_53 rfl (lv_at hl 0 rfl) ?_
            refine lv_iadd hx hb dX9_restore_54 ?_
            refine lv_is (y := nI (96 + k9_32)) (nI_add 96 (k9_32)) ?_
            refine va_iald hx hb hK hP 1 0 rfl rfl (vp_in_nI (by omega) (by omega)) dX9_restore_55 ?_
            refine lv_topi (fun z_9 ez_9 => ?_)
            have oz_9 := pi_rd (a := ((96 + k9_32 : Nat) : Int)) h9_32_2 ez_9 (nI_toInt (by omega)) (by omega)
            unfold OKP at oz_9
            refine va_iast hx hb hK hP hD hS 1 0 rfl rfl (vp_in_nI (by omega) (by omega)) dX9_restore_56 (fun H locs hP hD hS => ?_)
            obtain ⟨f_10, ef_10, hP, hD⟩ : ∃ f_10 : Nat → Int32, f_10 = upd (f9_32_0) ((nI k9_32) : Int32).toNatClampNeg z_9 ∧ PD D A [(sw_9 h0 g 0 b5 b6 b7 b8 b9 b10 b11 b12 b13 b14 b17 b18 b19 b23 b24 b25 b26 b27 b29 b31 b32 b33), (sw_in cT (g 0) 288 f_10), (sw_bo cT (g 1) 2 a1)] H := ⟨_, rfl, hP, hD⟩
            have qf_10 : PI 288 f_10 := by rw [ef_10]; exact pi_upd (a := ((k9_32 : Nat) : Int)) (b := z_9.toInt) h9_32_2 (nI_toInt (by omega)) (rfl) (by omega) (by unfold OKP; omega)
            refine lv_iinc (v := (nI (k9_32 + 1))) (lv' := [(2, .int (nI (k9_32 + 1))), (0, .ref h0), (1, .int 0)]) hx hb dX9_restore_57 hl (k := 0) rfl (by exact nI_1 (k9_32)) (by decide) rfl (fun ls hl => ?_)
            refine lv_goto (tgt := 32) hx hb dX9_restore_60 (by decide) ?_
            have hv9 : z_9 = a0 (96 + k9_32) := by rw [ez_9, nI_clamp (by omega)]; exact h9_32_1 _ (by omega)
            have hk0 : ∀ j : Nat, j < k9_32 + 1 → f_10 j = a0 (96 + j) := fun j h => by rw [ef_10]; rcases (show j = k9_32 ∨ j < k9_32 from by omega) with h1 | h1; rw [upd_at2 (by rw [nI_toInt (by omega)]; omega), hv9, h1]; rw [upd_no (by rw [nI_toInt (by omega)]; omega) (by rw [nI_toInt (by omega)]; omega)]; exact h9_32_0 j h1
            have hk1 : ∀ j : Nat, 96 ≤ j → f_10 j = a0 j := fun j h => by rw [ef_10, upd_no (by rw [nI_toInt (by omega)]; omega) (by rw [nI_toInt (by omega)]; omega)]; exact h9_32_1 j h
            exact ih_32 (k9_32 + 1) _ _ _ _ (by omega) (by omega) (by first | assumption | omega | decide | (simp only [ti_0, ti_1, ti_2, ti_3, ti_4, ti_5, ti_6, ti_7, ti_8, ti_9, ti_10, ti_11, ti_12, ti_m1]; omega)) (by first | assumption | omega | decide | (simp only [ti_0, ti_1, ti_2, ti_3, ti_4, ti_5, ti_6, ti_7, ti_8, ti_9, ti_10, ti_11, ti_12, ti_m1]; omega)) (by first | assumption | omega | decide | (simp only [ti_0, ti_1, ti_2, ti_3, ti_4, ti_5, ti_6, ti_7, ti_8, ti_9, ti_10, ti_11, ti_12, ti_m1]; omega)) ⟨hP.sub [0, 1, 2] rfl, hD.sub [0, 1, 2] (by decide) rfl⟩ hS (lv_sub hl [0, 1, 2] rfl)
      · have ic_7 : z_6.toInt = 0 := ieq c_7 (rfl) (by decide)
        refine lv_bipush (v := (-5)) hx hb dX9_restore_27 (by decide) ?_
        exact x_iret hx hb hr hlk hP hD hS [0, 1, 2] ((0, a0)) rfl (by decide) ⟨by (try dsimp only); first | assumption | omega | decide | exact Or.inl (by decide) | (intro h9; exact absurd h9 (by decide)) | (intro _; omega) | (intro _; assumption) | (intro _; decide), by (try dsimp only); first | assumption | omega | decide | exact Or.inl (by decide) | (intro h9; exact absurd h9 (by decide)) | (intro _; omega) | (intro _; assumption) | (intro _; decide), (fun h8 h9 => by exfalso; omega), (fun h8 h9 => by exfalso; omega), (fun h8 h9 => by exfalso; omega), (fun h8 h9 => by exfalso; omega), (fun _ _ => rfl), trivial⟩ (by decide) (by decide) dX9_restore_29
    · refine lv_aload_n hx hb dX9_restore_18 rfl (lv_at hl 0 rfl) ?_
      refine va_get (D := D) (ci := 9) (v := .ref (g 1)) (C := RX9) (T := TX9) (N := 37) hx hb htg gRX9 hown hK hP 0 rfl rfl 2 (by decide) (htg _ wi_1152) (fun _ h9 => h9) rfl dX9_restore_19 ?_
      refine lv_iload_n hx hb dX9_restore_22 rfl (lv_at hl 1 rfl) ?_
      refine va_zald hx hb hK hP 2 3 rfl rfl (by unfold vp_in; decide) dX9_restore_23 ?_
      refine lv_topi (fun z_11 ez_11 => ?_)
      have nz_11 : z_11.toInt = ((a1) 1).toInt := by rw [ez_11]; rfl
      refine lv_if_ne (tgt := 30) hx hb dX9_restore_24 (by decide) (fun c_12 => ?_) (fun c_12 => ?_)
      · have ic_12 : ¬ z_11.toInt = 0 := ine c_12 (rfl) (by decide)
        refine lv_iconst (v := 0) hx hb dX9_restore_30 (by decide) ?_
        refine lv_istore_n (lv' := [(2, .int 0), (0, .ref h0), (1, .int 1)]) hx hb dX9_restore_31 rfl hl (by decide) rfl (fun ls hl => ?_)
        have hk0 : ∀ j : Nat, j < 0 → a0 j = a0 (192 + j) := fun j h => absurd h (by omega)
        have hk1 : ∀ j : Nat, 96 ≤ j → a0 j = a0 j := fun _ _ => rfl
        refine (fun (key : ∀ (n9_32 : Nat) (k9_32 : Nat) (f9_32_0 : Nat → Int32) (H : Heap) (locs : List Loc) (ls : Array Slot), (k9_32 : Int) ≤ 96 → 96 < (k9_32 : Int) + n9_32 → (∀ j : Nat, j < k9_32 → f9_32_0 j = a0 (192 + j)) → (∀ j : Nat, 96 ≤ j → f9_32_0 j = a0 j) → PI 288 f9_32_0 → PD D A [(sw_9 h0 g 0 b5 b6 b7 b8 b9 b10 b11 b12 b13 b14 b17 b18 b19 b23 b24 b25 b26 b27 b29 b31 b32 b33), (sw_in cT (g 0) 288 f9_32_0), (sw_bo cT (g 1) 2 a1)] H → va_S A s.heap H locs → lv_has ls 3 [(2, .int (nI k9_32)), (0, .ref h0), (1, .int 1)] → W p l e _ s m _ below meth c H locs _ _ _ (F0 m 32 ls [])) => key (Int.toNat (96 - 0) + 1) 0 _ _ _ _ (by omega) (by omega) (by first | assumption | omega | decide | (simp only [ti_0, ti_1, ti_2, ti_3, ti_4, ti_5, ti_6, ti_7, ti_8, ti_9, ti_10, ti_11, ti_12, ti_m1]; omega)) (by first | assumption | omega | decide | (simp only [ti_0, ti_1, ti_2, ti_3, ti_4, ti_5, ti_6, ti_7, ti_8, ti_9, ti_10, ti_11, ti_12, ti_m1]; omega)) (by first | assumption | omega | decide | (simp only [ti_0, ti_1, ti_2, ti_3, ti_4, ti_5, ti_6, ti_7, ti_8, ti_9, ti_10, ti_11, ti_12, ti_m1]; omega)) ⟨hP, hD⟩ hS (lv_sub hl [0, 1, 2] rfl)) ?_
        intro n9_32
        induction n9_32 with
        | zero => intro k9_32 f9_32_0 H locs ls hq1 hq2; exact absurd hq2 (by omega)
        | succ n9_32 ih_32 =>
          intro k9_32 f9_32_0 H locs ls hq1_32 hq2_32 h9_32_0 h9_32_1 h9_32_2 hPD hS hl
          obtain ⟨hP, hD⟩ := hPD
          have hk9_32 : (nI k9_32).toInt = (k9_32 : Int) := nI_toInt (by omega)
          refine lv_iload_n hx hb dX9_restore_32 rfl (lv_at hl 0 rfl) ?_
          refine lv_bipush (v := 96) hx hb dX9_restore_33 (by decide) ?_
          refine lv_icmp_ge (tgt := 63) hx hb dX9_restore_35 (by decide) (fun c_13 => ?_) (fun c_13 => ?_)
          · have ic_13 : 96 ≤ ((k9_32 : Nat) : Int) := ile c_13 (by decide) (nI_toInt (by omega))
            refine lv_iconst (v := 0) hx hb dX9_restore_63 (by decide) ?_
            exact x_iret hx hb hr hlk hP hD hS [0, 1, 2] ((0, f9_32_0)) rfl (by decide) ⟨by (try dsimp only); first | assumption | omega | decide | exact Or.inl (by decide) | (intro h9; exact absurd h9 (by decide)) | (intro _; omega) | (intro _; assumption) | (intro _; decide), by (try dsimp only); first | assumption | omega | decide | exact Or.inl (by decide) | (intro h9; exact absurd h9 (by decide)) | (intro _; omega) | (intro _; assumption) | (intro _; decide), (fun h8 h9 => by exfalso; omega), (fun h8 h9 => by exfalso; omega), (fun _ _ k hk => h9_32_0 k (by omega)), (fun _ _ => h9_32_1), (fun h8 h9 => by exfalso; omega), trivial⟩ (by decide) (by decide) dX9_restore_64
          · have ic_13 : ((k9_32 : Nat) : Int) < 96 := inle c_13 (by decide) (nI_toInt (by omega))
            refine lv_aload_n hx hb dX9_restore_38 rfl (lv_at hl 1 rfl) ?_
            refine va_get (D := D) (ci := 9) (v := .ref (g 0)) (C := RX9) (T := TX9) (N := 37) hx hb htg gRX9 hown hK hP 0 rfl rfl 1 (by decide) (htg _ wi_1151) (fun _ h9 => h9) rfl dX9_restore_39 ?_
            refine lv_iload_n hx hb dX9_restore_42 rfl (lv_at hl 0 rfl) ?_
            refine lv_aload_n hx hb dX9_restore_43 rfl (lv_at hl 1 rfl) ?_
            refine va_get (D := D) (ci := 9) (v := .ref (g 0)) (C := RX9) (T := TX9) (N := 37) hx hb htg gRX9 hown hK hP 0 rfl rfl 1 (by decide) (htg _ wi_1151) (fun _ h9 => h9) rfl dX9_restore_44 ?_
            refine lv_bipush (v := 96) hx hb dX9_restore_47 (by decide) ?_
            refine lv_iload_n hx hb dX9_restore_49 rfl (lv_at hl 2 rfl) ?_
            refine lv_iconst (v := 1) hx hb dX9_restore_50 (by decide) ?_
            refine lv_iadd hx hb dX9_restore_51 ?_
            refine lv_is (y := 2) (by decide) ?_
            refine lv_imul hx hb dX9_restore_52 ?_
            refine lv_is (y := 192) (by decide) ?_
            refine lv_iload_n hx hb dX9_restore_53 rfl (lv_at hl 0 rfl) ?_
            refine lv_iadd hx hb dX9_restore_54 ?_
            refine lv_is (y := nI (192 + k9_32)) (nI_add 192 (k9_32)) ?_
            refine va_iald hx hb hK hP 1 0 rfl rfl (vp_in_nI (by omega) (by omega)) dX9_restore_55 ?_
            refine lv_topi (fun z_14 ez_14 => ?_)
            have oz_14 := pi_rd (a := ((192 + k9_32 : Nat) : Int)) h9_32_2 ez_14 (nI_toInt (by omega)) (by omega)
            unfold OKP at oz_14
            refine va_iast hx hb hK hP hD hS 1 0 rfl rfl (vp_in_nI (by omega) (by omega)) dX9_restore_56 (fun H locs hP hD hS => ?_)
            obtain ⟨f_15, ef_15, hP, hD⟩ : ∃ f_15 : Nat → Int32, f_15 = upd (f9_32_0) ((nI k9_32) : Int32).toNatClampNeg z_14 ∧ PD D A [(sw_9 h0 g 0 b5 b6 b7 b8 b9 b10 b11 b12 b13 b14 b17 b18 b19 b23 b24 b25 b26 b27 b29 b31 b32 b33), (sw_in cT (g 0) 288 f_15), (sw_bo cT (g 1) 2 a1)] H := ⟨_, rfl, hP, hD⟩
            have qf_15 : PI 288 f_15 := by rw [ef_15]; exact pi_upd (a := ((k9_32 : Nat) : Int)) (b := z_14.toInt) h9_32_2 (nI_toInt (by omega)) (rfl) (by omega) (by unfold OKP; omega)
            refine lv_iinc (v := (nI (k9_32 + 1))) (lv' := [(2, .int (nI (k9_32 + 1))), (0, .ref h0), (1, .int 1)]) hx hb dX9_restore_57 hl (k := 0) rfl (by exact nI_1 (k9_32)) (by decide) rfl (fun ls hl => ?_)
            refine lv_goto (tgt := 32) hx hb dX9_restore_60 (by decide) ?_
            have hv9 : z_14 = a0 (192 + k9_32) := by rw [ez_14, nI_clamp (by omega)]; exact h9_32_1 _ (by omega)
            have hk0 : ∀ j : Nat, j < k9_32 + 1 → f_15 j = a0 (192 + j) := fun j h => by rw [ef_15]; rcases (show j = k9_32 ∨ j < k9_32 from by omega) with h1 | h1; rw [upd_at2 (by rw [nI_toInt (by omega)]; omega), hv9, h1]; rw [upd_no (by rw [nI_toInt (by omega)]; omega) (by rw [nI_toInt (by omega)]; omega)]; exact h9_32_0 j h1
            have hk1 : ∀ j : Nat, 96 ≤ j → f_15 j = a0 j := fun j h => by rw [ef_15, upd_no (by rw [nI_toInt (by omega)]; omega) (by rw [nI_toInt (by omega)]; omega)]; exact h9_32_1 j h
            exact ih_32 (k9_32 + 1) _ _ _ _ (by omega) (by omega) (by first | assumption | omega | decide | (simp only [ti_0, ti_1, ti_2, ti_3, ti_4, ti_5, ti_6, ti_7, ti_8, ti_9, ti_10, ti_11, ti_12, ti_m1]; omega)) (by first | assumption | omega | decide | (simp only [ti_0, ti_1, ti_2, ti_3, ti_4, ti_5, ti_6, ti_7, ti_8, ti_9, ti_10, ti_11, ti_12, ti_m1]; omega)) (by first | assumption | omega | decide | (simp only [ti_0, ti_1, ti_2, ti_3, ti_4, ti_5, ti_6, ti_7, ti_8, ti_9, ti_10, ti_11, ti_12, ti_m1]; omega)) ⟨hP.sub [0, 1, 2] rfl, hD.sub [0, 1, 2] (by decide) rfl⟩ hS (lv_sub hl [0, 1, 2] rfl)
      · have ic_12 : z_11.toInt = 0 := ieq c_12 (rfl) (by decide)
        refine lv_bipush (v := (-5)) hx hb dX9_restore_27 (by decide) ?_
        exact x_iret hx hb hr hlk hP hD hS [0, 1, 2] ((0, a0)) rfl (by decide) ⟨by (try dsimp only); first | assumption | omega | decide | exact Or.inl (by decide) | (intro h9; exact absurd h9 (by decide)) | (intro _; omega) | (intro _; assumption) | (intro _; decide), by (try dsimp only); first | assumption | omega | decide | exact Or.inl (by decide) | (intro h9; exact absurd h9 (by decide)) | (intro _; omega) | (intro _; assumption) | (intro _; decide), (fun h8 h9 => by exfalso; omega), (fun h8 h9 => by exfalso; omega), (fun h8 h9 => by exfalso; omega), (fun h8 h9 => by exfalso; omega), (fun _ _ => rfl), trivial⟩ (by decide) (by decide) dX9_restore_29
  · have ic_4 : r_3.toInt = 0 := ieq c_4 (rfl) (by decide)
    have kqr_3_1 : x.toInt < 0 ∨ 1 < x.toInt := qr_3_1 ic_4
    refine lv_bipush (v := (-2)) hx hb dX9_restore_15 (by decide) ?_
    exact x_iret hx hb hr hlk hP hD hS [0, 1, 2] ((0, a0)) rfl (by decide) ⟨by (try dsimp only); first | assumption | omega | decide | exact Or.inl (by decide) | (intro h9; exact absurd h9 (by decide)) | (intro _; omega) | (intro _; assumption) | (intro _; decide), by (try dsimp only); first | assumption | omega | decide | exact Or.inl (by decide) | (intro h9; exact absurd h9 (by decide)) | (intro _; omega) | (intro _; assumption) | (intro _; decide), (fun h8 h9 => by exfalso; omega), (fun h8 h9 => by exfalso; omega), (fun h8 h9 => by exfalso; omega), (fun h8 h9 => by exfalso; omega), (fun _ _ => rfl), trivial⟩ (by decide) (by decide) dX9_restore_17
