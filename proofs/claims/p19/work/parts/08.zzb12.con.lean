set_option maxHeartbeats 4000000 in
set_option maxRecDepth 100000 in
theorem m_restoreX (l : Launch) (D : va_G) (cT : Nat → ClassId) (sz : Nat) (h0 : Nat) (g : Nat → Nat) (b0 : Int32) (b5 : Int32) (b6 : Int32) (b7 : Int32) (b8 : Int32) (b9 : Int32) (b10 : Int32) (b11 : Int32) (b12 : Int32) (b13 : Int32) (b14 : Int32) (b17 : Int32) (b18 : Int32) (b19 : Int32) (b23 : Int32) (b24 : Int32) (b25 : Int32) (b26 : Int32) (b27 : Int32) (b29 : Int32) (b31 : Int32) (b32 : Int32) (b33 : Int32) (hb5 : 0 ≤ b5.toInt ∧ b5.toInt ≤ 900) (a0 : Nat → Int32) (pa0 : PI 288 a0) (a1 : Nat → Int32) (x : Int32) : Met l yX9_restore (wsc yX9_restore cX9_restore 3 (some .int)) { frames := 3, cells := 0, slots := 0, locals := 125 } (va_Pc [.ref h0, .int x] (PX D cT sz [(sw_9 h0 g b0 b5 b6 b7 b8 b9 b10 b11 b12 b13 b14 b17 b18 b19 b23 b24 b25 b26 b27 b29 b31 b32 b33), (sw_in cT (g 0) 288 a0), (sw_bo cT (g 1) 2 a1)])) (va_Qi (fun (r : Int32) (u : Int32 × (Nat → Int32)) => (PI 288 u.2) ∧ ((r.toInt = -2 ∧ (x.toInt < 0 ∨ 1 < x.toInt)) ∨ (r.toInt = -5 ∧ ((x.toInt = 0 ∧ (a1 0).toInt = 0) ∨ (x.toInt = 1 ∧ (a1 1).toInt = 0))) ∨ (r.toInt = 0 ∧ ((x.toInt = 0 ∧ ¬ (a1 0).toInt = 0) ∨ (x.toInt = 1 ∧ ¬ (a1 1).toInt = 0)))) ∧ (x.toInt = 0 → ¬ (a1 0).toInt = 0 → ∀ k : Nat, k < 96 → u.2 k = a0 (96 + k)) ∧ (x.toInt = 0 → ¬ (a1 0).toInt = 0 → ∀ j : Nat, 96 ≤ j → u.2 j = a0 j) ∧ (x.toInt = 1 → ¬ (a1 1).toInt = 0 → ∀ k : Nat, k < 96 → u.2 k = a0 (192 + k)) ∧ (x.toInt = 1 → ¬ (a1 1).toInt = 0 → ∀ j : Nat, 96 ≤ j → u.2 j = a0 j) ∧ (¬ (x.toInt = 0 ∧ ¬ (a1 0).toInt = 0) → ¬ (x.toInt = 1 ∧ ¬ (a1 1).toInt = 0) → u.2 = a0) ∧ (True)) (fun u t => RW D (va_A [(sw_9 h0 g b0 b5 b6 b7 b8 b9 b10 b11 b12 b13 b14 b17 b18 b19 b23 b24 b25 b26 b27 b29 b31 b32 b33), (sw_in cT (g 0) 288 a0), (sw_bo cT (g 1) 2 a1)] sz) ((fun u : Int32 × (Nat → Int32) => [(sw_9 h0 g u.1 b5 b6 b7 b8 b9 b10 b11 b12 b13 b14 b17 b18 b19 b23 b24 b25 b26 b27 b29 b31 b32 b33), (sw_in cT (g 0) 288 u.2), (sw_bo cT (g 1) 2 a1)]) u) t) (va_A [(sw_9 h0 g b0 b5 b6 b7 b8 b9 b10 b11 b12 b13 b14 b17 b18 b19 b23 b24 b25 b26 b27 b29 b31 b32 b33), (sw_in cT (g 0) 288 a0), (sw_bo cT (g 1) 2 a1)] sz)) 0 0 (va_A [(sw_9 h0 g b0 b5 b6 b7 b8 b9 b10 b11 b12 b13 b14 b17 b18 b19 b23 b24 b25 b26 b27 b29 b31 b32 b33), (sw_in cT (g 0) 288 a0), (sw_bo cT (g 1) 2 a1)] sz) := by
  refine m_of (y := yX9_restore) (cc := cX9_restore) (nL := 3) (ret := (some .int)) (D := D) (cT := cT) (av := [.ref h0, .int x]) (wi := [(sw_9 h0 g b0 b5 b6 b7 b8 b9 b10 b11 b12 b13 b14 b17 b18 b19 b23 b24 b25 b26 b27 b29 b31 b32 b33), (sw_in cT (g 0) 288 a0), (sw_bo cT (g 1) 2 a1)]) (fun A => va_Qi (fun (r : Int32) (u : Int32 × (Nat → Int32)) => (PI 288 u.2) ∧ ((r.toInt = -2 ∧ (x.toInt < 0 ∨ 1 < x.toInt)) ∨ (r.toInt = -5 ∧ ((x.toInt = 0 ∧ (a1 0).toInt = 0) ∨ (x.toInt = 1 ∧ (a1 1).toInt = 0))) ∨ (r.toInt = 0 ∧ ((x.toInt = 0 ∧ ¬ (a1 0).toInt = 0) ∨ (x.toInt = 1 ∧ ¬ (a1 1).toInt = 0)))) ∧ (x.toInt = 0 → ¬ (a1 0).toInt = 0 → ∀ k : Nat, k < 96 → u.2 k = a0 (96 + k)) ∧ (x.toInt = 0 → ¬ (a1 0).toInt = 0 → ∀ j : Nat, 96 ≤ j → u.2 j = a0 j) ∧ (x.toInt = 1 → ¬ (a1 1).toInt = 0 → ∀ k : Nat, k < 96 → u.2 k = a0 (192 + k)) ∧ (x.toInt = 1 → ¬ (a1 1).toInt = 0 → ∀ j : Nat, 96 ≤ j → u.2 j = a0 j) ∧ (¬ (x.toInt = 0 ∧ ¬ (a1 0).toInt = 0) → ¬ (x.toInt = 1 ∧ ¬ (a1 1).toInt = 0) → u.2 = a0) ∧ (True)) (fun u t => RW D A ((fun u : Int32 × (Nat → Int32) => [(sw_9 h0 g u.1 b5 b6 b7 b8 b9 b10 b11 b12 b13 b14 b17 b18 b19 b23 b24 b25 b26 b27 b29 b31 b32 b33), (sw_in cT (g 0) 288 u.2), (sw_bo cT (g 1) 2 a1)]) u) t) A) (by decide) (Nat.le_of_ble_eq_true rfl) ?_
  intro p e s m below meth c A hx hb hml hown htg hK hN hr hlk hnm hsz hP hD hS hA ls hl
  have hown : s.vm.findClass RX9 = some m.cls := hown
  have hl : lv_has ls 3 [(0, .ref h0), (1, .int x)] := hl
  have tc_m5 : ((-5) : Int32).toInt = (-5) := by decide
  have tc_m2 : ((-2) : Int32).toInt = (-2) := by decide
  have tc_0 : (0 : Int32).toInt = 0 := by decide
  have tc_1 : (1 : Int32).toInt = 1 := by decide
  have tc_96 : (96 : Int32).toInt = 96 := by decide
  refine lv_aload_n hx hb dX9_restore_0 rfl (lv_at hl 0 rfl) ?_
  refine lv_iconst (v := 0) hx hb dX9_restore_1 (by decide) ?_
  refine va_put (D := D) (ci := 9) (v := .int 0) (ty := .int) (C := RX9) (T := TX9) (N := 37) hx hb htg gRX9 tyX9 tyX9_ok nmX9 hown hK hP hD hS 0 rfl rfl 0 (by decide) (htg _ wi_1150) (fun _ h9 => h9) rfl (by decide +kernel) rfl rfl (Nat.le_of_ble_eq_true rfl) dX9_restore_2 (fun H locs hP hD hS => ?_)
  obtain ⟨hP, hD⟩ : PD D A [(sw_9 h0 g 0 b5 b6 b7 b8 b9 b10 b11 b12 b13 b14 b17 b18 b19 b23 b24 b25 b26 b27 b29 b31 b32 b33), (sw_in cT (g 0) 288 a0), (sw_bo cT (g 1) 2 a1)] _ := ⟨hP, hD⟩
  refine lv_iload_n hx hb dX9_restore_5 rfl (lv_at hl 1 rfl) ?_
  refine lv_i2l (v := x.toInt64) hx hb dX9_restore_6 rfl ?_
  refine lv_lconst (v := 0) hx hb dX9_restore_7 (by decide) ?_
  refine lv_lconst (v := 1) hx hb dX9_restore_8 (by decide) ?_
  have ilw_1 : (x.toInt64).toInt = x.toInt := i2l_i _
  refine xk_i (wr := [(sw_9 h0 g 0 b5 b6 b7 b8 b9 b10 b11 b12 b13 b14 b17 b18 b19 b23 b24 b25 b26 b27 b29 b31 b32 b33), (sw_in cT (g 0) 288 a0), (sw_bo cT (g 1) 2 a1)]) (xr_S (n := 3) (As := [.long x.toInt64, .long 0, .long 1]) (rest := []) ⟨hx, hb, hml, hown, htg⟩ hK hN hP hD hS hA [] rfl (by decide) (m_withinB l D cT _ (x.toInt64) (0) (1) (x.toInt) (0) (1) (i2l_i _) (by decide) (by decide)) wi_1270 wi_1271 wi_131 wi_1272 ⟨rfl, by decide +kernel⟩ ⟨Nat.le_of_ble_eq_true rfl, Nat.le_of_ble_eq_true rfl⟩ rfl hl.1 rfl (Nat.le_of_ble_eq_true rfl) dX9_restore_9 ⟨Nat.le_of_ble_eq_true rfl, Nat.le_of_ble_eq_true rfl⟩) hP hD hS hA [] [0, 1, 2] rfl rfl (by decide) (by decide) (fun r_3 u_2 H locs hwr_3 hP hD hS => ?_)
  obtain ⟨hP, hD⟩ : PD D A [(sw_9 h0 g 0 b5 b6 b7 b8 b9 b10 b11 b12 b13 b14 b17 b18 b19 b23 b24 b25 b26 b27 b29 b31 b32 b33), (sw_in cT (g 0) 288 a0), (sw_bo cT (g 1) 2 a1)] _ := ⟨hP, hD⟩
  have qr_3_0 : Imp (¬ r_3.toInt = 0) (0 ≤ x.toInt ∧ x.toInt ≤ 1) := hwr_3.1
  have qr_3_1 : Imp (r_3.toInt = 0) (x.toInt < 0 ∨ 1 < x.toInt) := hwr_3.2.1
  have qr_3_2 : r_3 = 0 ∨ r_3 = 1 := hwr_3.2.2.1
  refine lv_if_ne (tgt := 18) hx hb dX9_restore_12 (by decide) (fun c_4 => ?_) (fun c_4 => ?_)
  · have ic_4 : ¬ r_3.toInt = 0 := ine c_4 (rfl) (by decide)
    have kqr_3_0 : 0 ≤ x.toInt ∧ x.toInt ≤ 1 := qr_3_0 ic_4
    have c_5 : x = 0 ∨ x = 1 := by
      rcases (show x.toInt = 0 ∨ x.toInt = 1 from by omega) with h | h
      · exact Or.inl (i32_is (h.trans (by decide)))
      · exact Or.inr (i32_is (h.trans (by decide)))
    rcases c_5 with rfl | rfl
    · refine lv_aload_n hx hb dX9_restore_18 rfl (lv_at hl 0 rfl) ?_
      refine va_get (D := D) (ci := 9) (v := .ref (g 1)) (C := RX9) (T := TX9) (N := 37) hx hb htg gRX9 hown hK hP 0 rfl rfl 2 (by decide) (htg _ wi_1152) (fun _ h9 => h9) rfl dX9_restore_19 ?_
      refine lv_iload_n hx hb dX9_restore_22 rfl (lv_at hl 1 rfl) ?_
      refine va_zald hx hb hK hP 2 3 rfl rfl (by unfold vp_in; decide) dX9_restore_23 ?_
      refine lv_topi (fun z_6 ez_6 => ?_)
      have nz_6 : z_6.toInt = ((a1) 0).toInt := by rw [ez_6]; rfl
      refine lv_if_ne (tgt := 30) hx hb dX9_restore_24 (by decide) (fun c_7 => ?_) (fun c_7 => ?_)
      · have ic_7 : ¬ z_6.toInt = 0 := ine c_7 (rfl) (by decide)
        refine lv_iconst (v := 0) hx hb dX9_restore_30 (by decide) ?_
        refine lv_istore_n (lv' := [(2, .int 0), (0, .ref h0), (1, .int 0)]) hx hb dX9_restore_31 rfl hl (by decide) rfl (fun ls hl => ?_)
        have hk0 : ∀ j : Nat, j < 0 → a0 j = a0 (96 + j) := fun j h => absurd h (by omega)
        have hk1 : ∀ j : Nat, 96 ≤ j → a0 j = a0 j := fun _ _ => rfl
        refine (fun (key : ∀ (n9_32 : Nat) (k9_32 : Nat) (f9_32_0 : Nat → Int32) (H : Heap) (locs : List Loc) (ls : Array Slot), (k9_32 : Int) ≤ 96 → 96 < (k9_32 : Int) + n9_32 → (∀ j : Nat, j < k9_32 → f9_32_0 j = a0 (96 + j)) → (∀ j : Nat, 96 ≤ j → f9_32_0 j = a0 j) → PI 288 f9_32_0 → PD D A [(sw_9 h0 g 0 b5 b6 b7 b8 b9 b10 b11 b12 b13 b14 b17 b18 b19 b23 b24 b25 b26 b27 b29 b31 b32 b33), (sw_in cT (g 0) 288 f9_32_0), (sw_bo cT (g 1) 2 a1)] H → va_S A s.heap H locs → lv_has ls 3 [(2, .int (nI k9_32)), (0, .ref h0), (1, .int 0)] → W p l e _ s m _ below meth c H locs _ _ _ (F0 m 32 ls [])) => key (Int.toNat (96 - 0) + 1) 0 _ _ _ _ (by omega) (by omega) (by first | assumption | omega | decide | (simp only [ti_0, ti_1, ti_2, ti_3, ti_4, ti_5, ti_6, ti_7, ti_8, ti_9, ti_10, ti_11, ti_12, ti_m1]; omega)) (by first | assumption | omega | decide | (simp only [ti_0, ti_1, ti_2, ti_3, ti_4, ti_5, ti_6, ti_7, ti_8, ti_9, ti_10, ti_11, ti_12, ti_m1]; omega)) (by first | assumption | omega | decide | (simp only [ti_0, ti_1, ti_2, ti_3, ti_4, ti_5, ti_6, ti_7, ti_8, ti_9, ti_10, ti_11, ti_12, ti_m1]; omega)) ⟨hP, hD⟩ hS (lv_sub hl [0, 1, 2] rfl)) ?_
        intro n9_32
        induction n9_32 with
        | zero => intro k9_32 f9_32_0 H locs ls hq1 hq2; exact absurd hq2 (by omega)
        | succ n9_32 ih_32 =>
          intro k9_32 f9_32_0 H locs ls hq1_32 hq2_32 h9_32_0 h9_32_1 h9_32_2 hPD hS hl
          obtain ⟨hP, hD⟩ := hPD
          have hk9_32 : (nI k9_32).toInt = (k9_32 : Int) := nI_toInt (by omega)
          refine lv_iload_n hx hb dX9_restore_32 rfl (lv_at hl 0 rfl) ?_
          refine lv_bipush (v := 96) hx hb dX9_restore_33 (by decide) ?_
          refine lv_icmp_ge (tgt := 63) hx hb dX9_restore_35 (by decide) (fun c_8 => ?_) (fun c_8 => ?_)
          · have ic_8 : 96 ≤ ((k9_32 : Nat) : Int) := ile c_8 (by decide) (nI_toInt (by omega))
            refine lv_iconst (v := 0) hx hb dX9_restore_63 (by decide) ?_
            exact x_iret hx hb hr hlk hP hD hS [0, 1, 2] ((0, f9_32_0)) rfl (by decide) ⟨by (try dsimp only); first | assumption | omega | decide | exact Or.inl (by decide) | (intro h9; exact absurd h9 (by decide)) | (intro _; omega) | (intro _; assumption) | (intro _; decide), by (try dsimp only); first | assumption | omega | decide | exact Or.inl (by decide) | (intro h9; exact absurd h9 (by decide)) | (intro _; omega) | (intro _; assumption) | (intro _; decide), (fun _ _ k hk => h9_32_0 k (by omega)), (fun _ _ => h9_32_1), (fun h8 h9 => by exfalso; omega), (fun h8 h9 => by exfalso; omega), (fun h8 h9 => by exfalso; omega), trivial⟩ (by decide) (by decide) dX9_restore_64
          · have ic_8 : ((k9_32 : Nat) : Int) < 96 := inle c_8 (by decide) (nI_toInt (by omega))
            refine lv_aload_n hx hb dX9_restore_38 rfl (lv_at hl 1 rfl) ?_
            refine va_get (D := D) (ci := 9) (v := .ref (g 0)) (C := RX9) (T := TX9) (N := 37) hx hb htg gRX9 hown hK hP 0 rfl rfl 1 (by decide) (htg _ wi_1151) (fun _ h9 => h9) rfl dX9_restore_39 ?_
            refine lv_iload_n hx hb dX9_restore_42 rfl (lv_at hl 0 rfl) ?_
            refine lv_aload_n hx hb dX9_restore_43 rfl (lv_at hl 1 rfl) ?_
            refine va_get (D := D) (ci := 9) (v := .ref (g 0)) (C := RX9) (T := TX9) (N := 37) hx hb htg gRX9 hown hK hP 0 rfl rfl 1 (by decide) (htg _ wi_1151) (fun _ h9 => h9) rfl dX9_restore_44 ?_
            refine lv_bipush (v := 96) hx hb dX9_restore_47 (by decide) ?_
            refine lv_iload_n hx hb dX9_restore_49 rfl (lv_at hl 2 rfl) ?_
            refine lv_iconst (v := 1) hx hb dX9_restore_50 (by decide) ?_
            refine lv_iadd hx hb dX9_restore_51 ?_
            refine lv_is (y := 1) (by decide) ?_
            refine lv_imul hx hb dX9_restore_52 ?_
            refine lv_is (y := 96) (by decide) ?_
            refine lv_iload_n hx hb dX9_restore_53 rfl (lv_at hl 0 rfl) ?_
            refine lv_iadd hx hb dX9_restore_54 ?_
            refine lv_is (y := nI (96 + k9_32)) (nI_add 96 (k9_32)) ?_
            refine va_iald hx hb hK hP 1 0 rfl rfl (vp_in_nI (by omega) (by omega)) dX9_restore_55 ?_
            refine lv_topi (fun z_9 ez_9 => ?_)
            have oz_9 := pi_rd (a := ((96 + k9_32 : Nat) : Int)) h9_32_2 ez_9 (nI_toInt (by omega)) (by omega)
            unfold OKP at oz_9
            refine va_iast hx hb hK hP hD hS 1 0 rfl rfl (vp_in_nI (by omega) (by omega)) dX9_restore_56 (fun H locs hP hD hS => ?_)
            obtain ⟨f_10, ef_10, hP, hD⟩ : ∃ f_10 : Nat → Int32, f_10 = upd (f9_32_0) ((nI k9_32) : Int32).toNatClampNeg z_9 ∧ PD D A [(sw_9 h0 g 0 b5 b6 b7 b8 b9 b10 b11 b12 b13 b14 b17 b18 b19 b23 b24 b25 b26 b27 b29 b31 b32 b33), (sw_in cT (g 0) 288 f_10), (sw_bo cT (g 1) 2 a1)] H := ⟨_, rfl, hP, hD⟩
            have qf_10 : PI 288 f_10 := by rw [ef_10]; exact pi_upd (a := ((k9_32 : Nat) : Int)) (b := z_9.toInt) h9_32_2 (nI_toInt (by omega)) (rfl) (by omega) (by unfold OKP; omega)
            refine lv_iinc (v := (nI (k9_32 + 1))) (lv' := [(2, .int (nI (k9_32 + 1))), (0, .ref h0), (1, .int 0)]) hx hb dX9_restore_57 hl (k := 0) rfl (by exact nI_1 (k9_32)) (by decide) rfl (fun ls hl => ?_)
            refine lv_goto (tgt := 32) hx hb dX9_restore_60 (by decide) ?_
            have hv9 : z_9 = a0 (96 + k9_32) := by rw [ez_9, nI_clamp (by omega)]; exact h9_32_1 _ (by omega)
            have hk0 : ∀ j : Nat, j < k9_32 + 1 → f_10 j = a0 (96 + j) := fun j h => by rw [ef_10]; rcases (show j = k9_32 ∨ j < k9_32 from by omega) with h1 | h1; rw [upd_at2 (by rw [nI_toInt (by omega)]; omega), hv9, h1]; rw [upd_no (by rw [nI_toInt (by omega)]; omega) (by rw [nI_toInt (by omega)]; omega)]; exact h9_32_0 j h1
            have hk1 : ∀ j : Nat, 96 ≤ j → f_10 j = a0 j := fun j h => by rw [ef_10, upd_no (by rw [nI_toInt (by omega)]; omega) (by rw [nI_toInt (by omega)]; omega)]; exact h9_32_1 j h
            exact ih_32 (k9_32 + 1) _ _ _ _ (by omega) (by omega) (by first | assumption | omega | decide | (simp only [ti_0, ti_1, ti_2, ti_3, ti_4, ti_5, ti_6, ti_7, ti_8, ti_9, ti_10, ti_11, ti_12, ti_m1]; omega)) (by first | assumption | omega | decide | (simp only [ti_0, ti_1, ti_2, ti_3, ti_4, ti_5, ti_6, ti_7, ti_8, ti_9, ti_10, ti_11, ti_12, ti_m1]; omega)) (by first | assumption | omega | decide | (simp only [ti_0, ti_1, ti_2, ti_3, ti_4, ti_5, ti_6, ti_7, ti_8, ti_9, ti_10, ti_11, ti_12, ti_m1]; omega)) ⟨hP.sub [0, 1, 2] rfl, hD.sub [0, 1, 2] (by decide) rfl⟩ hS (lv_sub hl [0, 1, 2] rfl)
      · have ic_7 : z_6.toInt = 0 := ieq c_7 (rfl) (by decide)
        refine lv_bipush (v := (-5)) hx hb dX9_restore_27 (by decide) ?_
        exact x_iret hx hb hr hlk hP hD hS [0, 1, 2] ((0, a0)) rfl (by decide) ⟨by (try dsimp only); first | assumption | omega | decide | exact Or.inl (by decide) | (intro h9; exact absurd h9 (by decide)) | (intro _; omega) | (intro _; assumption) | (intro _; decide), by (try dsimp only); first | assumption | omega | decide | exact Or.inl (by decide) | (intro h9; exact absurd h9 (by decide)) | (intro _; omega) | (intro _; assumption) | (intro _; decide), (fun h8 h9 => by exfalso; omega), (fun h8 h9 => by exfalso; omega), (fun h8 h9 => by exfalso; omega), (fun h8 h9 => by exfalso; omega), (fun _ _ => rfl), trivial⟩ (by decide) (by decide) dX9_restore_29
    · refine lv_aload_n hx hb dX9_restore_18 rfl (lv_at hl 0 rfl) ?_
      refine va_get (D := D) (ci := 9) (v := .ref (g 1)) (C := RX9) (T := TX9) (N := 37) hx hb htg gRX9 hown hK hP 0 rfl rfl 2 (by decide) (htg _ wi_1152) (fun _ h9 => h9) rfl dX9_restore_19 ?_
      refine lv_iload_n hx hb dX9_restore_22 rfl (lv_at hl 1 rfl) ?_
      refine va_zald hx hb hK hP 2 3 rfl rfl (by unfold vp_in; decide) dX9_restore_23 ?_
      refine lv_topi (fun z_11 ez_11 => ?_)
      have nz_11 : z_11.toInt = ((a1) 1).toInt := by rw [ez_11]; rfl
      refine lv_if_ne (tgt := 30) hx hb dX9_restore_24 (by decide) (fun c_12 => ?_) (fun c_12 => ?_)
      · have ic_12 : ¬ z_11.toInt = 0 := ine c_12 (rfl) (by decide)
        refine lv_iconst (v := 0) hx hb dX9_restore_30 (by decide) ?_
        refine lv_istore_n (lv' := [(2, .int 0), (0, .ref h0), (1, .int 1)]) hx hb dX9_restore_31 rfl hl (by decide) rfl (fun ls hl => ?_)
        have hk0 : ∀ j : Nat, j < 0 → a0 j = a0 (192 + j) := fun j h => absurd h (by omega)
        have hk1 : ∀ j : Nat, 96 ≤ j → a0 j = a0 j := fun _ _ => rfl
        refine (fun (key : ∀ (n9_32 : Nat) (k9_32 : Nat) (f9_32_0 : Nat → Int32) (H : Heap) (locs : List Loc) (ls : Array Slot), (k9_32 : Int) ≤ 96 → 96 < (k9_32 : Int) + n9_32 → (∀ j : Nat, j < k9_32 → f9_32_0 j = a0 (192 + j)) → (∀ j : Nat, 96 ≤ j → f9_32_0 j = a0 j) → PI 288 f9_32_0 → PD D A [(sw_9 h0 g 0 b5 b6 b7 b8 b9 b10 b11 b12 b13 b14 b17 b18 b19 b23 b24 b25 b26 b27 b29 b31 b32 b33), (sw_in cT (g 0) 288 f9_32_0), (sw_bo cT (g 1) 2 a1)] H → va_S A s.heap H locs → lv_has ls 3 [(2, .int (nI k9_32)), (0, .ref h0), (1, .int 1)] → W p l e _ s m _ below meth c H locs _ _ _ (F0 m 32 ls [])) => key (Int.toNat (96 - 0) + 1) 0 _ _ _ _ (by omega) (by omega) (by first | assumption | omega | decide | (simp only [ti_0, ti_1, ti_2, ti_3, ti_4, ti_5, ti_6, ti_7, ti_8, ti_9, ti_10, ti_11, ti_12, ti_m1]; omega)) (by first | assumption | omega | decide | (simp only [ti_0, ti_1, ti_2, ti_3, ti_4, ti_5, ti_6, ti_7, ti_8, ti_9, ti_10, ti_11, ti_12, ti_m1]; omega)) (by first | assumption | omega | decide | (simp only [ti_0, ti_1, ti_2, ti_3, ti_4, ti_5, ti_6, ti_7, ti_8, ti_9, ti_10, ti_11, ti_12, ti_m1]; omega)) ⟨hP, hD⟩ hS (lv_sub hl [0, 1, 2] rfl)) ?_
        intro n9_32
        induction n9_32 with
        | zero => intro k9_32 f9_32_0 H locs ls hq1 hq2; exact absurd hq2 (by omega)
        | succ n9_32 ih_32 =>
          intro k9_32 f9_32_0 H locs ls hq1_32 hq2_32 h9_32_0 h9_32_1 h9_32_2 hPD hS hl
          obtain ⟨hP, hD⟩ := hPD
          have hk9_32 : (nI k9_32).toInt = (k9_32 : Int) := nI_toInt (by omega)
          refine lv_iload_n hx hb dX9_restore_32 rfl (lv_at hl 0 rfl) ?_
          refine lv_bipush (v := 96) hx hb dX9_restore_33 (by decide) ?_
          refine lv_icmp_ge (tgt := 63) hx hb dX9_restore_35 (by decide) (fun c_13 => ?_) (fun c_13 => ?_)
          · have ic_13 : 96 ≤ ((k9_32 : Nat) : Int) := ile c_13 (by decide) (nI_toInt (by omega))
            refine lv_iconst (v := 0) hx hb dX9_restore_63 (by decide) ?_
            exact x_iret hx hb hr hlk hP hD hS [0, 1, 2] ((0, f9_32_0)) rfl (by decide) ⟨by (try dsimp only); first | assumption | omega | decide | exact Or.inl (by decide) | (intro h9; exact absurd h9 (by decide)) | (intro _; omega) | (intro _; assumption) | (intro _; decide), by (try dsimp only); first | assumption | omega | decide | exact Or.inl (by decide) | (intro h9; exact absurd h9 (by decide)) | (intro _; omega) | (intro _; assumption) | (intro _; decide), (fun h8 h9 => by exfalso; omega), (fun h8 h9 => by exfalso; omega), (fun _ _ k hk => h9_32_0 k (by omega)), (fun _ _ => h9_32_1), (fun h8 h9 => by exfalso; omega), trivial⟩ (by decide) (by decide) dX9_restore_64
          · have ic_13 : ((k9_32 : Nat) : Int) < 96 := inle c_13 (by decide) (nI_toInt (by omega))
            refine lv_aload_n hx hb dX9_restore_38 rfl (lv_at hl 1 rfl) ?_
            refine va_get (D := D) (ci := 9) (v := .ref (g 0)) (C := RX9) (T := TX9) (N := 37) hx hb htg gRX9 hown hK hP 0 rfl rfl 1 (by decide) (htg _ wi_1151) (fun _ h9 => h9) rfl dX9_restore_39 ?_
            refine lv_iload_n hx hb dX9_restore_42 rfl (lv_at hl 0 rfl) ?_
            refine lv_aload_n hx hb dX9_restore_43 rfl (lv_at hl 1 rfl) ?_
            refine va_get (D := D) (ci := 9) (v := .ref (g 0)) (C := RX9) (T := TX9) (N := 37) hx hb htg gRX9 hown hK hP 0 rfl rfl 1 (by decide) (htg _ wi_1151) (fun _ h9 => h9) rfl dX9_restore_44 ?_
            refine lv_bipush (v := 96) hx hb dX9_restore_47 (by decide) ?_
            refine lv_iload_n hx hb dX9_restore_49 rfl (lv_at hl 2 rfl) ?_
            refine lv_iconst (v := 1) hx hb dX9_restore_50 (by decide) ?_
            refine lv_iadd hx hb dX9_restore_51 ?_
            refine lv_is (y := 2) (by decide) ?_
            refine lv_imul hx hb dX9_restore_52 ?_
            refine lv_is (y := 192) (by decide) ?_
            refine lv_iload_n hx hb dX9_restore_53 rfl (lv_at hl 0 rfl) ?_
            refine lv_iadd hx hb dX9_restore_54 ?_
            refine lv_is (y := nI (192 + k9_32)) (nI_add 192 (k9_32)) ?_
            refine va_iald hx hb hK hP 1 0 rfl rfl (vp_in_nI (by omega) (by omega)) dX9_restore_55 ?_
            refine lv_topi (fun z_14 ez_14 => ?_)
            have oz_14 := pi_rd (a := ((192 + k9_32 : Nat) : Int)) h9_32_2 ez_14 (nI_toInt (by omega)) (by omega)
            unfold OKP at oz_14
            refine va_iast hx hb hK hP hD hS 1 0 rfl rfl (vp_in_nI (by omega) (by omega)) dX9_restore_56 (fun H locs hP hD hS => ?_)
            obtain ⟨f_15, ef_15, hP, hD⟩ : ∃ f_15 : Nat → Int32, f_15 = upd (f9_32_0) ((nI k9_32) : Int32).toNatClampNeg z_14 ∧ PD D A [(sw_9 h0 g 0 b5 b6 b7 b8 b9 b10 b11 b12 b13 b14 b17 b18 b19 b23 b24 b25 b26 b27 b29 b31 b32 b33), (sw_in cT (g 0) 288 f_15), (sw_bo cT (g 1) 2 a1)] H := ⟨_, rfl, hP, hD⟩
            have qf_15 : PI 288 f_15 := by rw [ef_15]; exact pi_upd (a := ((k9_32 : Nat) : Int)) (b := z_14.toInt) h9_32_2 (nI_toInt (by omega)) (rfl) (by omega) (by unfold OKP; omega)
            refine lv_iinc (v := (nI (k9_32 + 1))) (lv' := [(2, .int (nI (k9_32 + 1))), (0, .ref h0), (1, .int 1)]) hx hb dX9_restore_57 hl (k := 0) rfl (by exact nI_1 (k9_32)) (by decide) rfl (fun ls hl => ?_)
            refine lv_goto (tgt := 32) hx hb dX9_restore_60 (by decide) ?_
            have hv9 : z_14 = a0 (192 + k9_32) := by rw [ez_14, nI_clamp (by omega)]; exact h9_32_1 _ (by omega)
            have hk0 : ∀ j : Nat, j < k9_32 + 1 → f_15 j = a0 (192 + j) := fun j h => by rw [ef_15]; rcases (show j = k9_32 ∨ j < k9_32 from by omega) with h1 | h1; rw [upd_at2 (by rw [nI_toInt (by omega)]; omega), hv9, h1]; rw [upd_no (by rw [nI_toInt (by omega)]; omega) (by rw [nI_toInt (by omega)]; omega)]; exact h9_32_0 j h1
            have hk1 : ∀ j : Nat, 96 ≤ j → f_15 j = a0 j := fun j h => by rw [ef_15, upd_no (by rw [nI_toInt (by omega)]; omega) (by rw [nI_toInt (by omega)]; omega)]; exact h9_32_1 j h
            exact ih_32 (k9_32 + 1) _ _ _ _ (by omega) (by omega) (by first | assumption | omega | decide | (simp only [ti_0, ti_1, ti_2, ti_3, ti_4, ti_5, ti_6, ti_7, ti_8, ti_9, ti_10, ti_11, ti_12, ti_m1]; omega)) (by first | assumption | omega | decide | (simp only [ti_0, ti_1, ti_2, ti_3, ti_4, ti_5, ti_6, ti_7, ti_8, ti_9, ti_10, ti_11, ti_12, ti_m1]; omega)) (by first | assumption | omega | decide | (simp only [ti_0, ti_1, ti_2, ti_3, ti_4, ti_5, ti_6, ti_7, ti_8, ti_9, ti_10, ti_11, ti_12, ti_m1]; omega)) ⟨hP.sub [0, 1, 2] rfl, hD.sub [0, 1, 2] (by decide) rfl⟩ hS (lv_sub hl [0, 1, 2] rfl)
      · have ic_12 : z_11.toInt = 0 := ieq c_12 (rfl) (by decide)
        refine lv_bipush (v := (-5)) hx hb dX9_restore_27 (by decide) ?_
        exact x_iret hx hb hr hlk hP hD hS [0, 1, 2] ((0, a0)) rfl (by decide) ⟨by (try dsimp only); first | assumption | omega | decide | exact Or.inl (by decide) | (intro h9; exact absurd h9 (by decide)) | (intro _; omega) | (intro _; assumption) | (intro _; decide), by (try dsimp only); first | assumption | omega | decide | exact Or.inl (by decide) | (intro h9; exact absurd h9 (by decide)) | (intro _; omega) | (intro _; assumption) | (intro _; decide), (fun h8 h9 => by exfalso; omega), (fun h8 h9 => by exfalso; omega), (fun h8 h9 => by exfalso; omega), (fun h8 h9 => by exfalso; omega), (fun _ _ => rfl), trivial⟩ (by decide) (by decide) dX9_restore_29
  · have ic_4 : r_3.toInt = 0 := ieq c_4 (rfl) (by decide)
    have kqr_3_1 : x.toInt < 0 ∨ 1 < x.toInt := qr_3_1 ic_4
    refine lv_bipush (v := (-2)) hx hb dX9_restore_15 (by decide) ?_
    exact x_iret hx hb hr hlk hP hD hS [0, 1, 2] ((0, a0)) rfl (by decide) ⟨by (try dsimp only); first | assumption | omega | decide | exact Or.inl (by decide) | (intro h9; exact absurd h9 (by decide)) | (intro _; omega) | (intro _; assumption) | (intro _; decide), by (try dsimp only); first | assumption | omega | decide | exact Or.inl (by decide) | (intro h9; exact absurd h9 (by decide)) | (intro _; omega) | (intro _; assumption) | (intro _; decide), (fun h8 h9 => by exfalso; omega), (fun h8 h9 => by exfalso; omega), (fun h8 h9 => by exfalso; omega), (fun h8 h9 => by exfalso; omega), (fun _ _ => rfl), trivial⟩ (by decide) (by decide) dX9_restore_17
set_option maxHeartbeats 4000000 in
set_option maxRecDepth 100000 in
theorem m_isStripB (l : Launch) (D : va_G) (cT : Nat → ClassId) (sz : Nat) (h0 : Nat) (g : Nat → Nat) (b0 : Int32) (b5 : Int32) (b6 : Int32) (b7 : Int32) (b8 : Int32) (b9 : Int32) (b10 : Int32) (b11 : Int32) (b12 : Int32) (b13 : Int32) (b14 : Int32) (b17 : Int32) (b18 : Int32) (b19 : Int32) (b23 : Int32) (b24 : Int32) (b25 : Int32) (b26 : Int32) (b27 : Int32) (b29 : Int32) (b31 : Int32) (b32 : Int32) (b33 : Int32) (hb5 : 0 ≤ b5.toInt ∧ b5.toInt ≤ 900) (a0 : Nat → Int32) (pa0 : PI 288 a0) (x : Int32) : Met l yX9_isStrip (wsc yX9_isStrip cX9_isStrip 2 (some .boolean)) { frames := 3, cells := 0, slots := 0, locals := 125 } (va_Pc [.ref h0, .int x] (PX D cT sz [(sw_9 h0 g b0 b5 b6 b7 b8 b9 b10 b11 b12 b13 b14 b17 b18 b19 b23 b24 b25 b26 b27 b29 b31 b32 b33), (sw_in cT (g 0) 288 a0)])) (va_Qi (fun (r : Int32) (u : Unit) => (Imp (¬ r.toInt = 0) (0 ≤ x.toInt ∧ x.toInt ≤ 15)) ∧ (Imp (¬ r.toInt = 0) (x.toInt < (a0 0).toInt)) ∧ (Imp (r.toInt = 0) (x.toInt < 0 ∨ (a0 0).toInt ≤ x.toInt)) ∧ (r = 0 ∨ r = 1) ∧ (True)) (fun u t => RW D (va_A [(sw_9 h0 g b0 b5 b6 b7 b8 b9 b10 b11 b12 b13 b14 b17 b18 b19 b23 b24 b25 b26 b27 b29 b31 b32 b33), (sw_in cT (g 0) 288 a0)] sz) ((fun _ : Unit => [(sw_9 h0 g b0 b5 b6 b7 b8 b9 b10 b11 b12 b13 b14 b17 b18 b19 b23 b24 b25 b26 b27 b29 b31 b32 b33), (sw_in cT (g 0) 288 a0)]) u) t) (va_A [(sw_9 h0 g b0 b5 b6 b7 b8 b9 b10 b11 b12 b13 b14 b17 b18 b19 b23 b24 b25 b26 b27 b29 b31 b32 b33), (sw_in cT (g 0) 288 a0)] sz)) 0 0 (va_A [(sw_9 h0 g b0 b5 b6 b7 b8 b9 b10 b11 b12 b13 b14 b17 b18 b19 b23 b24 b25 b26 b27 b29 b31 b32 b33), (sw_in cT (g 0) 288 a0)] sz) := by
  refine m_of (y := yX9_isStrip) (cc := cX9_isStrip) (nL := 2) (ret := (some .boolean)) (D := D) (cT := cT) (av := [.ref h0, .int x]) (wi := [(sw_9 h0 g b0 b5 b6 b7 b8 b9 b10 b11 b12 b13 b14 b17 b18 b19 b23 b24 b25 b26 b27 b29 b31 b32 b33), (sw_in cT (g 0) 288 a0)]) (fun A => va_Qi (fun (r : Int32) (u : Unit) => (Imp (¬ r.toInt = 0) (0 ≤ x.toInt ∧ x.toInt ≤ 15)) ∧ (Imp (¬ r.toInt = 0) (x.toInt < (a0 0).toInt)) ∧ (Imp (r.toInt = 0) (x.toInt < 0 ∨ (a0 0).toInt ≤ x.toInt)) ∧ (r = 0 ∨ r = 1) ∧ (True)) (fun u t => RW D A ((fun _ : Unit => [(sw_9 h0 g b0 b5 b6 b7 b8 b9 b10 b11 b12 b13 b14 b17 b18 b19 b23 b24 b25 b26 b27 b29 b31 b32 b33), (sw_in cT (g 0) 288 a0)]) u) t) A) (by decide) (Nat.le_of_ble_eq_true rfl) ?_
  intro p e s m below meth c A hx hb hml hown htg hK hN hr hlk hnm hsz hP hD hS hA ls hl
  have hown : s.vm.findClass RX9 = some m.cls := hown
  have hl : lv_has ls 2 [(0, .ref h0), (1, .int x)] := hl
  have tc_0 : (0 : Int32).toInt = 0 := by decide
  have tc_1 : (1 : Int32).toInt = 1 := by decide
  refine lv_iload_n hx hb dX9_isStrip_0 rfl (lv_at hl 1 rfl) ?_
  refine lv_i2l (v := x.toInt64) hx hb dX9_isStrip_1 rfl ?_
  refine lv_lconst (v := 0) hx hb dX9_isStrip_2 (by decide) ?_
  refine lv_aload_n hx hb dX9_isStrip_3 rfl (lv_at hl 0 rfl) ?_
  refine va_get (D := D) (ci := 9) (v := .ref (g 0)) (C := RX9) (T := TX9) (N := 37) hx hb htg gRX9 hown hK hP 0 rfl rfl 1 (by decide) (htg _ wi_1151) (fun _ h9 => h9) rfl dX9_isStrip_4 ?_
  refine lv_iconst (v := 0) hx hb dX9_isStrip_7 (by decide) ?_
  refine va_iald hx hb hK hP 1 0 rfl rfl (by unfold vp_in; decide) dX9_isStrip_8 ?_
  refine lv_topi (fun z_1 ez_1 => ?_)
  have iz_1 : 0 ≤ z_1.toInt ∧ z_1.toInt ≤ 16 := by rw [ez_1]; exact rd0 pa0 (by decide) rfl
  have nz_1 : z_1.toInt = ((a0) 0).toInt := by rw [ez_1]; rfl
  have nz_1 : z_1.toInt = (a0 0).toInt := by rw [ez_1]; rfl
  refine lv_iconst (v := 1) hx hb dX9_isStrip_9 (by decide) ?_
  refine lv_isub hx hb dX9_isStrip_10 ?_
  refine lv_topi (fun z_2 ez_2 => ?_)
  have iz_2 : z_2.toInt = z_1.toInt - 1 := toInt_subI ez_2 (rfl) (by decide) (by omega)
  refine lv_i2l (v := z_2.toInt64) hx hb dX9_isStrip_11 rfl ?_
  have ilw_3 : (x.toInt64).toInt = x.toInt := i2l_i _
  have ilw_4 : (z_2.toInt64).toInt = z_2.toInt := i2l_i _
  refine xk_i (wr := [(sw_9 h0 g b0 b5 b6 b7 b8 b9 b10 b11 b12 b13 b14 b17 b18 b19 b23 b24 b25 b26 b27 b29 b31 b32 b33), (sw_in cT (g 0) 288 a0)]) (xr_S (n := 3) (As := [.long x.toInt64, .long 0, .long z_2.toInt64]) (rest := []) ⟨hx, hb, hml, hown, htg⟩ hK hN hP hD hS hA [] rfl (by decide) (m_withinB l D cT _ (x.toInt64) (0) (z_2.toInt64) (x.toInt) (0) (z_2.toInt) (i2l_i _) (by decide) (i2l_i _)) wi_1270 wi_1271 wi_131 wi_1272 ⟨rfl, by decide +kernel⟩ ⟨Nat.le_of_ble_eq_true rfl, Nat.le_of_ble_eq_true rfl⟩ rfl hl.1 rfl (Nat.le_of_ble_eq_true rfl) dX9_isStrip_12 ⟨Nat.le_of_ble_eq_true rfl, Nat.le_of_ble_eq_true rfl⟩) hP hD hS hA [] [0, 1] rfl rfl (by decide) (by decide) (fun r_6 u_5 H locs hwr_6 hP hD hS => ?_)
  obtain ⟨hP, hD⟩ : PD D A [(sw_9 h0 g b0 b5 b6 b7 b8 b9 b10 b11 b12 b13 b14 b17 b18 b19 b23 b24 b25 b26 b27 b29 b31 b32 b33), (sw_in cT (g 0) 288 a0)] _ := ⟨hP, hD⟩
  have qr_6_0 : Imp (¬ r_6.toInt = 0) (0 ≤ x.toInt ∧ x.toInt ≤ z_2.toInt) := hwr_6.1
  have qr_6_1 : Imp (r_6.toInt = 0) (x.toInt < 0 ∨ z_2.toInt < x.toInt) := hwr_6.2.1
  have qr_6_2 : r_6 = 0 ∨ r_6 = 1 := hwr_6.2.2.1
  exact x_zret hx hb hr hlk hP hD hS [0, 1] (()) rfl (by decide) (zn (by assumption)) ⟨fun h9 => by (try dsimp only at h9 ⊢); have kqr_6_0 : 0 ≤ x.toInt ∧ x.toInt ≤ z_2.toInt := qr_6_0 h9; first | omega | exact absurd h9 (by decide) | decide | assumption, fun h9 => by (try dsimp only at h9 ⊢); have kqr_6_0 : 0 ≤ x.toInt ∧ x.toInt ≤ z_2.toInt := qr_6_0 h9; first | omega | exact absurd h9 (by decide) | decide | assumption, fun h9 => by (try dsimp only at h9 ⊢); have kqr_6_1 : x.toInt < 0 ∨ z_2.toInt < x.toInt := qr_6_1 h9; first | omega | exact absurd h9 (by decide) | decide | assumption, by (try dsimp only); first | assumption | omega | decide | exact Or.inl (by decide) | (intro h9; exact absurd h9 (by decide)) | (intro _; omega) | (intro _; assumption) | (intro _; decide), trivial⟩ (by decide) (by decide) dX9_isStrip_15
set_option maxHeartbeats 4000000 in
set_option maxRecDepth 100000 in
theorem m_fellX (l : Launch) (D : va_G) (cT : Nat → ClassId) (sz : Nat) (h0 : Nat) (g : Nat → Nat) (b0 : Int32) (b5 : Int32) (b6 : Int32) (b7 : Int32) (b8 : Int32) (b9 : Int32) (b10 : Int32) (b11 : Int32) (b12 : Int32) (b13 : Int32) (b14 : Int32) (b17 : Int32) (b18 : Int32) (b19 : Int32) (b23 : Int32) (b24 : Int32) (b25 : Int32) (b26 : Int32) (b27 : Int32) (b29 : Int32) (b31 : Int32) (b32 : Int32) (b33 : Int32) (hb5 : 0 ≤ b5.toInt ∧ b5.toInt ≤ 900) (a0 : Nat → Int32) (pa0 : PI 288 a0) (x : Int32) : Met l yX9_fell (wsc yX9_fell cX9_fell 3 (some .int)) { frames := 4, cells := 0, slots := 0, locals := 146 } (va_Pc [.ref h0, .int x] (PX D cT sz [(sw_9 h0 g b0 b5 b6 b7 b8 b9 b10 b11 b12 b13 b14 b17 b18 b19 b23 b24 b25 b26 b27 b29 b31 b32 b33), (sw_in cT (g 0) 288 a0)])) (va_Qi (fun (r : Int32) (u : Int32 × (Nat → Int32)) => (PI 288 u.2) ∧ (((x.toInt < 0 ∨ (a0 0).toInt ≤ x.toInt) ∧ r.toInt = -2) ∨ (0 ≤ x.toInt ∧ x.toInt < (a0 0).toInt ∧ (a0 (48 + x.toInt.toNat)).toInt = 0 ∧ r.toInt = -5) ∨ (0 ≤ x.toInt ∧ x.toInt < (a0 0).toInt ∧ ¬ (a0 (48 + x.toInt.toNat)).toInt = 0 ∧ r.toInt = (a0 (48 + x.toInt.toNat)).toInt)) ∧ (∀ j : Nat, u.2 j = if (j : Int) = 48 + x.toInt ∧ 0 ≤ x.toInt ∧ x.toInt < (a0 0).toInt then 0 else a0 j) ∧ (True)) (fun u t => RW D (va_A [(sw_9 h0 g b0 b5 b6 b7 b8 b9 b10 b11 b12 b13 b14 b17 b18 b19 b23 b24 b25 b26 b27 b29 b31 b32 b33), (sw_in cT (g 0) 288 a0)] sz) ((fun u : Int32 × (Nat → Int32) => [(sw_9 h0 g u.1 b5 b6 b7 b8 b9 b10 b11 b12 b13 b14 b17 b18 b19 b23 b24 b25 b26 b27 b29 b31 b32 b33), (sw_in cT (g 0) 288 u.2)]) u) t) (va_A [(sw_9 h0 g b0 b5 b6 b7 b8 b9 b10 b11 b12 b13 b14 b17 b18 b19 b23 b24 b25 b26 b27 b29 b31 b32 b33), (sw_in cT (g 0) 288 a0)] sz)) 0 0 (va_A [(sw_9 h0 g b0 b5 b6 b7 b8 b9 b10 b11 b12 b13 b14 b17 b18 b19 b23 b24 b25 b26 b27 b29 b31 b32 b33), (sw_in cT (g 0) 288 a0)] sz) := by
  refine m_of (y := yX9_fell) (cc := cX9_fell) (nL := 3) (ret := (some .int)) (D := D) (cT := cT) (av := [.ref h0, .int x]) (wi := [(sw_9 h0 g b0 b5 b6 b7 b8 b9 b10 b11 b12 b13 b14 b17 b18 b19 b23 b24 b25 b26 b27 b29 b31 b32 b33), (sw_in cT (g 0) 288 a0)]) (fun A => va_Qi (fun (r : Int32) (u : Int32 × (Nat → Int32)) => (PI 288 u.2) ∧ (((x.toInt < 0 ∨ (a0 0).toInt ≤ x.toInt) ∧ r.toInt = -2) ∨ (0 ≤ x.toInt ∧ x.toInt < (a0 0).toInt ∧ (a0 (48 + x.toInt.toNat)).toInt = 0 ∧ r.toInt = -5) ∨ (0 ≤ x.toInt ∧ x.toInt < (a0 0).toInt ∧ ¬ (a0 (48 + x.toInt.toNat)).toInt = 0 ∧ r.toInt = (a0 (48 + x.toInt.toNat)).toInt)) ∧ (∀ j : Nat, u.2 j = if (j : Int) = 48 + x.toInt ∧ 0 ≤ x.toInt ∧ x.toInt < (a0 0).toInt then 0 else a0 j) ∧ (True)) (fun u t => RW D A ((fun u : Int32 × (Nat → Int32) => [(sw_9 h0 g u.1 b5 b6 b7 b8 b9 b10 b11 b12 b13 b14 b17 b18 b19 b23 b24 b25 b26 b27 b29 b31 b32 b33), (sw_in cT (g 0) 288 u.2)]) u) t) A) (by decide) (Nat.le_of_ble_eq_true rfl) ?_
  intro p e s m below meth c A hx hb hml hown htg hK hN hr hlk hnm hsz hP hD hS hA ls hl
  have hown : s.vm.findClass RX9 = some m.cls := hown
  have hl : lv_has ls 3 [(0, .ref h0), (1, .int x)] := hl
  have tc_m5 : ((-5) : Int32).toInt = (-5) := by decide
  have tc_m2 : ((-2) : Int32).toInt = (-2) := by decide
  have tc_0 : (0 : Int32).toInt = 0 := by decide
  have tc_48 : (48 : Int32).toInt = 48 := by decide
  refine lv_aload_n hx hb dX9_fell_0 rfl (lv_at hl 0 rfl) ?_
  refine lv_iconst (v := 0) hx hb dX9_fell_1 (by decide) ?_
  refine va_put (D := D) (ci := 9) (v := .int 0) (ty := .int) (C := RX9) (T := TX9) (N := 37) hx hb htg gRX9 tyX9 tyX9_ok nmX9 hown hK hP hD hS 0 rfl rfl 0 (by decide) (htg _ wi_1150) (fun _ h9 => h9) rfl (by decide +kernel) rfl rfl (Nat.le_of_ble_eq_true rfl) dX9_fell_2 (fun H locs hP hD hS => ?_)
  obtain ⟨hP, hD⟩ : PD D A [(sw_9 h0 g 0 b5 b6 b7 b8 b9 b10 b11 b12 b13 b14 b17 b18 b19 b23 b24 b25 b26 b27 b29 b31 b32 b33), (sw_in cT (g 0) 288 a0)] _ := ⟨hP, hD⟩
  refine lv_aload_n hx hb dX9_fell_5 rfl (lv_at hl 0 rfl) ?_
  refine lv_iload_n hx hb dX9_fell_6 rfl (lv_at hl 1 rfl) ?_
  refine xk_i (wr := []) (xr_V (n := 1) (As := [.int x]) (rest := []) ⟨hx, hb, hml, hown, htg⟩ hK hN hP hD hS hA [0, 1] rfl (by decide) (m_isStripB l D cT _ (h0) (g) (0) (b5) (b6) (b7) (b8) (b9) (b10) (b11) (b12) (b13) (b14) (b17) (b18) (b19) (b23) (b24) (b25) (b26) (b27) (b29) (b31) (b32) (b33) (by first | assumption | omega | decide | exact Or.inl (by decide) | (intro h9; exact absurd h9 (by decide)) | (intro _; omega) | (intro _; assumption) | (intro _; decide)) (a0) (by first | assumption | omega | decide | exact Or.inl (by decide) | (intro h9; exact absurd h9 (by decide)) | (intro _; omega) | (intro _; assumption) | (intro _; decide)) (x)) wi_1338 wi_1340 wi_90 wi_131 wi_1341 rfl rfl rfl ⟨rfl, by decide +kernel⟩ ⟨Nat.le_of_ble_eq_true rfl, Nat.le_of_ble_eq_true rfl⟩ rfl hl.1 rfl (Nat.le_of_ble_eq_true rfl) dX9_fell_7 ⟨Nat.le_of_ble_eq_true rfl, Nat.le_of_ble_eq_true rfl⟩) hP hD hS hA [0, 1] [] rfl rfl (by decide) (by decide) (fun r_2 u_1 H locs hwr_2 hP hD hS => ?_)
  obtain ⟨hP, hD⟩ : PD D A [(sw_9 h0 g 0 b5 b6 b7 b8 b9 b10 b11 b12 b13 b14 b17 b18 b19 b23 b24 b25 b26 b27 b29 b31 b32 b33), (sw_in cT (g 0) 288 a0)] _ := ⟨hP, hD⟩
  have qr_2_0 : Imp (¬ r_2.toInt = 0) (0 ≤ x.toInt ∧ x.toInt ≤ 15) := hwr_2.1
  have qr_2_1 : Imp (¬ r_2.toInt = 0) (x.toInt < (a0 0).toInt) := hwr_2.2.1
  have qr_2_2 : Imp (r_2.toInt = 0) (x.toInt < 0 ∨ (a0 0).toInt ≤ x.toInt) := hwr_2.2.2.1
  have qr_2_3 : r_2 = 0 ∨ r_2 = 1 := hwr_2.2.2.2.1
  refine lv_if_ne (tgt := 16) hx hb dX9_fell_10 (by decide) (fun c_3 => ?_) (fun c_3 => ?_)
  · have ic_3 : ¬ r_2.toInt = 0 := ine c_3 (rfl) (by decide)
    have kqr_2_0 : 0 ≤ x.toInt ∧ x.toInt ≤ 15 := qr_2_0 ic_3
    have kqr_2_1 : x.toInt < (a0 0).toInt := qr_2_1 ic_3
    refine lv_aload_n hx hb dX9_fell_16 rfl (lv_at hl 0 rfl) ?_
    refine va_get (D := D) (ci := 9) (v := .ref (g 0)) (C := RX9) (T := TX9) (N := 37) hx hb htg gRX9 hown hK hP 0 rfl rfl 1 (by decide) (htg _ wi_1151) (fun _ h9 => h9) rfl dX9_fell_17 ?_
    refine lv_bipush (v := 48) hx hb dX9_fell_20 (by decide) ?_
    refine lv_iload_n hx hb dX9_fell_22 rfl (lv_at hl 1 rfl) ?_
    refine lv_iadd hx hb dX9_fell_23 ?_
    refine lv_topi (fun z_4 ez_4 => ?_)
    have iz_4 : z_4.toInt = 48 + x.toInt := toInt_addI ez_4 (by decide) (rfl) (by omega)
    refine va_iald hx hb hK hP 1 0 rfl rfl (vp_in_iff.mpr (by omega)) dX9_fell_24 ?_
    refine lv_topi (fun z_5 ez_5 => ?_)
    have nz_5 : z_5.toInt = (a0 (48 + x.toInt.toNat)).toInt := by rw [ez_5]; exact congrArg (fun k => (a0 k).toInt) (show Int.toNat _ = _ from by omega)
    refine lv_if_ne (tgt := 31) hx hb dX9_fell_25 (by decide) (fun c_6 => ?_) (fun c_6 => ?_)
    · have ic_6 : ¬ z_5.toInt = 0 := ine c_6 (rfl) (by decide)
      refine lv_aload_n hx hb dX9_fell_31 rfl (lv_at hl 0 rfl) ?_
      refine va_get (D := D) (ci := 9) (v := .ref (g 0)) (C := RX9) (T := TX9) (N := 37) hx hb htg gRX9 hown hK hP 0 rfl rfl 1 (by decide) (htg _ wi_1151) (fun _ h9 => h9) rfl dX9_fell_32 ?_
      refine lv_bipush (v := 48) hx hb dX9_fell_35 (by decide) ?_
      refine lv_iload_n hx hb dX9_fell_37 rfl (lv_at hl 1 rfl) ?_
      refine lv_iadd hx hb dX9_fell_38 ?_
      refine lv_topi (fun z_7 ez_7 => ?_)
      have iz_7 : z_7.toInt = 48 + x.toInt := toInt_addI ez_7 (by decide) (rfl) (by omega)
      refine va_iald hx hb hK hP 1 0 rfl rfl (vp_in_iff.mpr (by omega)) dX9_fell_39 ?_
      refine lv_topi (fun z_8 ez_8 => ?_)
      have nz_8 : z_8.toInt = (a0 (48 + x.toInt.toNat)).toInt := by rw [ez_8]; exact congrArg (fun k => (a0 k).toInt) (show Int.toNat _ = _ from by omega)
      refine lv_istore_n (lv' := [(2, .int z_8), (0, .ref h0), (1, .int x)]) hx hb dX9_fell_40 rfl hl (by decide) rfl (fun ls hl => ?_)
      refine lv_aload_n hx hb dX9_fell_41 rfl (lv_at hl 1 rfl) ?_
      refine va_get (D := D) (ci := 9) (v := .ref (g 0)) (C := RX9) (T := TX9) (N := 37) hx hb htg gRX9 hown hK hP 0 rfl rfl 1 (by decide) (htg _ wi_1151) (fun _ h9 => h9) rfl dX9_fell_42 ?_
      refine lv_bipush (v := 48) hx hb dX9_fell_45 (by decide) ?_
      refine lv_iload_n hx hb dX9_fell_47 rfl (lv_at hl 2 rfl) ?_
      refine lv_iadd hx hb dX9_fell_48 ?_
      refine lv_topi (fun z_9 ez_9 => ?_)
      have iz_9 : z_9.toInt = 48 + x.toInt := toInt_addI ez_9 (by decide) (rfl) (by omega)
      refine lv_iconst (v := 0) hx hb dX9_fell_49 (by decide) ?_
      refine va_iast hx hb hK hP hD hS 1 0 rfl rfl (vp_in_iff.mpr (by omega)) dX9_fell_50 (fun H locs hP hD hS => ?_)
      obtain ⟨f_10, ef_10, hP, hD⟩ : ∃ f_10 : Nat → Int32, f_10 = upd (a0) (z_9 : Int32).toNatClampNeg 0 ∧ PD D A [(sw_9 h0 g 0 b5 b6 b7 b8 b9 b10 b11 b12 b13 b14 b17 b18 b19 b23 b24 b25 b26 b27 b29 b31 b32 b33), (sw_in cT (g 0) 288 f_10)] H := ⟨_, rfl, hP, hD⟩
      have qf_10 : PI 288 f_10 := by rw [ef_10]; exact pi_upd (a := z_9.toInt) (b := 0) pa0 (rfl) (by decide) (by omega) (by unfold OKP; omega)
      refine lv_iload_n hx hb dX9_fell_51 rfl (lv_at hl 0 rfl) ?_
      exact x_iret hx hb hr hlk hP hD hS [0, 1] ((0, f_10)) rfl (by decide) ⟨by (try dsimp only); first | assumption | omega | decide | exact Or.inl (by decide) | (intro h9; exact absurd h9 (by decide)) | (intro _; omega) | (intro _; assumption) | (intro _; decide), by (try dsimp only); first | assumption | omega | decide | exact Or.inl (by decide) | (intro h9; exact absurd h9 (by decide)) | (intro _; omega) | (intro _; assumption) | (intro _; decide), (fun j => by (try dsimp only); rw [ef_10]; by_cases h9 : (j : Int) = 48 + x.toInt ∧ 0 ≤ x.toInt ∧ x.toInt < (a0 0).toInt; rw [if_pos h9, upd_at2 (by omega)]; rw [if_neg h9, upd_no (by omega) (by omega)]), trivial⟩ (by decide) (by decide) dX9_fell_52
    · have ic_6 : z_5.toInt = 0 := ieq c_6 (rfl) (by decide)
      refine lv_bipush (v := (-5)) hx hb dX9_fell_28 (by decide) ?_
      exact x_iret hx hb hr hlk hP hD hS [0, 1] ((0, a0)) rfl (by decide) ⟨by (try dsimp only); first | assumption | omega | decide | exact Or.inl (by decide) | (intro h9; exact absurd h9 (by decide)) | (intro _; omega) | (intro _; assumption) | (intro _; decide), by (try dsimp only); first | assumption | omega | decide | exact Or.inl (by decide) | (intro h9; exact absurd h9 (by decide)) | (intro _; omega) | (intro _; assumption) | (intro _; decide), (fun j => by (try dsimp only); by_cases h9 : (j : Int) = 48 + x.toInt ∧ 0 ≤ x.toInt ∧ x.toInt < (a0 0).toInt; rw [if_pos h9]; exact i32_is (by rw [show j = 48 + x.toInt.toNat from by omega, ti_0]; omega); rw [if_neg h9]), trivial⟩ (by decide) (by decide) dX9_fell_30
  · have ic_3 : r_2.toInt = 0 := ieq c_3 (rfl) (by decide)
    have kqr_2_2 : x.toInt < 0 ∨ (a0 0).toInt ≤ x.toInt := qr_2_2 ic_3
    refine lv_bipush (v := (-2)) hx hb dX9_fell_13 (by decide) ?_
    exact x_iret hx hb hr hlk hP hD hS [0, 1] ((0, a0)) rfl (by decide) ⟨by (try dsimp only); first | assumption | omega | decide | exact Or.inl (by decide) | (intro h9; exact absurd h9 (by decide)) | (intro _; omega) | (intro _; assumption) | (intro _; decide), by (try dsimp only); first | assumption | omega | decide | exact Or.inl (by decide) | (intro h9; exact absurd h9 (by decide)) | (intro _; omega) | (intro _; assumption) | (intro _; decide), (fun j => by (try dsimp only); rw [if_neg (by omega)]), trivial⟩ (by decide) (by decide) dX9_fell_15
set_option maxHeartbeats 4000000 in
set_option maxRecDepth 100000 in
theorem m_walkX (l : Launch) (D : va_G) (cT : Nat → ClassId) (sz : Nat) (h0 : Nat) (g : Nat → Nat) (b0 : Int32) (b5 : Int32) (b6 : Int32) (b7 : Int32) (b8 : Int32) (b9 : Int32) (b10 : Int32) (b11 : Int32) (b12 : Int32) (b13 : Int32) (b14 : Int32) (b17 : Int32) (b18 : Int32) (b19 : Int32) (b23 : Int32) (b24 : Int32) (b25 : Int32) (b26 : Int32) (b27 : Int32) (b29 : Int32) (b31 : Int32) (b32 : Int32) (b33 : Int32) (hb5 : 0 ≤ b5.toInt ∧ b5.toInt ≤ 900) (a0 : Nat → Int32) (pa0 : PI 288 a0) (x : Int32) (y : Int32) (z : Int32) : Met l yX9_walk (wsc yX9_walk cX9_walk 4 (some .int)) { frames := 4, cells := 0, slots := 0, locals := 146 } (va_Pc [.ref h0, .int x, .int y, .int z] (PX D cT sz [(sw_9 h0 g b0 b5 b6 b7 b8 b9 b10 b11 b12 b13 b14 b17 b18 b19 b23 b24 b25 b26 b27 b29 b31 b32 b33), (sw_in cT (g 0) 288 a0)])) (va_Qi (fun (r : Int32) (u : Int32 × (Nat → Int32)) => (PI 288 u.2) ∧ (r.toInt = wkA (a0 0).toInt x.toInt y.toInt z.toInt (a0 (32 + x.toInt.toNat)).toInt (a0 (32 + y.toInt.toNat) + z).toInt) ∧ (r.toInt = 0 → ∀ j : Nat, u.2 j = walkF a0 (32 + x.toInt.toNat) (32 + y.toInt.toNat) z j) ∧ (¬ r.toInt = 0 → ∀ j : Nat, u.2 j = a0 j) ∧ (True)) (fun u t => RW D (va_A [(sw_9 h0 g b0 b5 b6 b7 b8 b9 b10 b11 b12 b13 b14 b17 b18 b19 b23 b24 b25 b26 b27 b29 b31 b32 b33), (sw_in cT (g 0) 288 a0)] sz) ((fun u : Int32 × (Nat → Int32) => [(sw_9 h0 g u.1 b5 b6 b7 b8 b9 b10 b11 b12 b13 b14 b17 b18 b19 b23 b24 b25 b26 b27 b29 b31 b32 b33), (sw_in cT (g 0) 288 u.2)]) u) t) (va_A [(sw_9 h0 g b0 b5 b6 b7 b8 b9 b10 b11 b12 b13 b14 b17 b18 b19 b23 b24 b25 b26 b27 b29 b31 b32 b33), (sw_in cT (g 0) 288 a0)] sz)) 0 0 (va_A [(sw_9 h0 g b0 b5 b6 b7 b8 b9 b10 b11 b12 b13 b14 b17 b18 b19 b23 b24 b25 b26 b27 b29 b31 b32 b33), (sw_in cT (g 0) 288 a0)] sz) := by
  refine m_of (y := yX9_walk) (cc := cX9_walk) (nL := 4) (ret := (some .int)) (D := D) (cT := cT) (av := [.ref h0, .int x, .int y, .int z]) (wi := [(sw_9 h0 g b0 b5 b6 b7 b8 b9 b10 b11 b12 b13 b14 b17 b18 b19 b23 b24 b25 b26 b27 b29 b31 b32 b33), (sw_in cT (g 0) 288 a0)]) (fun A => va_Qi (fun (r : Int32) (u : Int32 × (Nat → Int32)) => (PI 288 u.2) ∧ (r.toInt = wkA (a0 0).toInt x.toInt y.toInt z.toInt (a0 (32 + x.toInt.toNat)).toInt (a0 (32 + y.toInt.toNat) + z).toInt) ∧ (r.toInt = 0 → ∀ j : Nat, u.2 j = walkF a0 (32 + x.toInt.toNat) (32 + y.toInt.toNat) z j) ∧ (¬ r.toInt = 0 → ∀ j : Nat, u.2 j = a0 j) ∧ (True)) (fun u t => RW D A ((fun u : Int32 × (Nat → Int32) => [(sw_9 h0 g u.1 b5 b6 b7 b8 b9 b10 b11 b12 b13 b14 b17 b18 b19 b23 b24 b25 b26 b27 b29 b31 b32 b33), (sw_in cT (g 0) 288 u.2)]) u) t) A) (by decide) (Nat.le_of_ble_eq_true rfl) ?_
  intro p e s m below meth c A hx hb hml hown htg hK hN hr hlk hnm hsz hP hD hS hA ls hl
  have hown : s.vm.findClass RX9 = some m.cls := hown
  have hl : lv_has ls 4 [(0, .ref h0), (1, .int x), (2, .int y), (3, .int z)] := hl
  have tc_m4 : ((-4) : Int32).toInt = (-4) := by decide
  have tc_m3 : ((-3) : Int32).toInt = (-3) := by decide
  have tc_m2 : ((-2) : Int32).toInt = (-2) := by decide
  have tc_0 : (0 : Int32).toInt = 0 := by decide
  have tc_9 : (9 : Int32).toInt = 9 := by decide
  have tc_32 : (32 : Int32).toInt = 32 := by decide
  refine lv_aload_n hx hb dX9_walk_0 rfl (lv_at hl 0 rfl) ?_
  refine lv_iconst (v := 0) hx hb dX9_walk_1 (by decide) ?_
  refine va_put (D := D) (ci := 9) (v := .int 0) (ty := .int) (C := RX9) (T := TX9) (N := 37) hx hb htg gRX9 tyX9 tyX9_ok nmX9 hown hK hP hD hS 0 rfl rfl 0 (by decide) (htg _ wi_1150) (fun _ h9 => h9) rfl (by decide +kernel) rfl rfl (Nat.le_of_ble_eq_true rfl) dX9_walk_2 (fun H locs hP hD hS => ?_)
  obtain ⟨hP, hD⟩ : PD D A [(sw_9 h0 g 0 b5 b6 b7 b8 b9 b10 b11 b12 b13 b14 b17 b18 b19 b23 b24 b25 b26 b27 b29 b31 b32 b33), (sw_in cT (g 0) 288 a0)] _ := ⟨hP, hD⟩
  refine lv_aload_n hx hb dX9_walk_5 rfl (lv_at hl 0 rfl) ?_
  refine lv_iload_n hx hb dX9_walk_6 rfl (lv_at hl 1 rfl) ?_
  refine xk_i (wr := []) (xr_V (n := 1) (As := [.int x]) (rest := []) ⟨hx, hb, hml, hown, htg⟩ hK hN hP hD hS hA [0, 1] rfl (by decide) (m_isStripB l D cT _ (h0) (g) (0) (b5) (b6) (b7) (b8) (b9) (b10) (b11) (b12) (b13) (b14) (b17) (b18) (b19) (b23) (b24) (b25) (b26) (b27) (b29) (b31) (b32) (b33) (by first | assumption | omega | decide | exact Or.inl (by decide) | (intro h9; exact absurd h9 (by decide)) | (intro _; omega) | (intro _; assumption) | (intro _; decide)) (a0) (by first | assumption | omega | decide | exact Or.inl (by decide) | (intro h9; exact absurd h9 (by decide)) | (intro _; omega) | (intro _; assumption) | (intro _; decide)) (x)) wi_1338 wi_1340 wi_90 wi_131 wi_1341 rfl rfl rfl ⟨rfl, by decide +kernel⟩ ⟨Nat.le_of_ble_eq_true rfl, Nat.le_of_ble_eq_true rfl⟩ rfl hl.1 rfl (Nat.le_of_ble_eq_true rfl) dX9_walk_7 ⟨Nat.le_of_ble_eq_true rfl, Nat.le_of_ble_eq_true rfl⟩) hP hD hS hA [0, 1] [] rfl rfl (by decide) (by decide) (fun r_2 u_1 H locs hwr_2 hP hD hS => ?_)
  obtain ⟨hP, hD⟩ : PD D A [(sw_9 h0 g 0 b5 b6 b7 b8 b9 b10 b11 b12 b13 b14 b17 b18 b19 b23 b24 b25 b26 b27 b29 b31 b32 b33), (sw_in cT (g 0) 288 a0)] _ := ⟨hP, hD⟩
  have qr_2_0 : Imp (¬ r_2.toInt = 0) (0 ≤ x.toInt ∧ x.toInt ≤ 15) := hwr_2.1
  have qr_2_1 : Imp (¬ r_2.toInt = 0) (x.toInt < (a0 0).toInt) := hwr_2.2.1
  have qr_2_2 : Imp (r_2.toInt = 0) (x.toInt < 0 ∨ (a0 0).toInt ≤ x.toInt) := hwr_2.2.2.1
  have qr_2_3 : r_2 = 0 ∨ r_2 = 1 := hwr_2.2.2.2.1
  refine lv_if_eq (tgt := 21) hx hb dX9_walk_10 (by decide) (fun c_3 => ?_) (fun c_3 => ?_)
  · have ic_3 : r_2.toInt = 0 := ieq c_3 (rfl) (by decide)
    have kqr_2_2 : x.toInt < 0 ∨ (a0 0).toInt ≤ x.toInt := qr_2_2 ic_3
    refine lv_bipush (v := (-2)) hx hb dX9_walk_21 (by decide) ?_
    exact x_iret hx hb hr hlk hP hD hS [0, 1] ((0, a0)) rfl (by decide) ⟨by (try dsimp only); first | assumption | omega | decide | exact Or.inl (by decide) | (intro h9; exact absurd h9 (by decide)) | (intro _; omega) | (intro _; assumption) | (intro _; decide), (by (try dsimp only); unfold wkA; (repeat (first | rw [if_pos (by omega)] | rw [if_neg (by omega)])); first | done | decide | omega), (fun h9 => absurd h9 (by decide)), (fun _ _ => rfl), trivial⟩ (by decide) (by decide) dX9_walk_23
  · have ic_3 : ¬ r_2.toInt = 0 := ine c_3 (rfl) (by decide)
    have kqr_2_0 : 0 ≤ x.toInt ∧ x.toInt ≤ 15 := qr_2_0 ic_3
    have kqr_2_1 : x.toInt < (a0 0).toInt := qr_2_1 ic_3
    refine lv_aload_n hx hb dX9_walk_13 rfl (lv_at hl 0 rfl) ?_
    refine lv_iload_n hx hb dX9_walk_14 rfl (lv_at hl 2 rfl) ?_
    refine xk_i (wr := []) (xr_V (n := 1) (As := [.int y]) (rest := []) ⟨hx, hb, hml, hown, htg⟩ hK hN hP hD hS hA [0, 1] rfl (by decide) (m_isStripB l D cT _ (h0) (g) (0) (b5) (b6) (b7) (b8) (b9) (b10) (b11) (b12) (b13) (b14) (b17) (b18) (b19) (b23) (b24) (b25) (b26) (b27) (b29) (b31) (b32) (b33) (by first | assumption | omega | decide | exact Or.inl (by decide) | (intro h9; exact absurd h9 (by decide)) | (intro _; omega) | (intro _; assumption) | (intro _; decide)) (a0) (by first | assumption | omega | decide | exact Or.inl (by decide) | (intro h9; exact absurd h9 (by decide)) | (intro _; omega) | (intro _; assumption) | (intro _; decide)) (y)) wi_1338 wi_1340 wi_90 wi_131 wi_1341 rfl rfl rfl ⟨rfl, by decide +kernel⟩ ⟨Nat.le_of_ble_eq_true rfl, Nat.le_of_ble_eq_true rfl⟩ rfl hl.1 rfl (Nat.le_of_ble_eq_true rfl) dX9_walk_15 ⟨Nat.le_of_ble_eq_true rfl, Nat.le_of_ble_eq_true rfl⟩) hP hD hS hA [0, 1] [] rfl rfl (by decide) (by decide) (fun r_5 u_4 H locs hwr_5 hP hD hS => ?_)
    obtain ⟨hP, hD⟩ : PD D A [(sw_9 h0 g 0 b5 b6 b7 b8 b9 b10 b11 b12 b13 b14 b17 b18 b19 b23 b24 b25 b26 b27 b29 b31 b32 b33), (sw_in cT (g 0) 288 a0)] _ := ⟨hP, hD⟩
    have qr_5_0 : Imp (¬ r_5.toInt = 0) (0 ≤ y.toInt ∧ y.toInt ≤ 15) := hwr_5.1
    have qr_5_1 : Imp (¬ r_5.toInt = 0) (y.toInt < (a0 0).toInt) := hwr_5.2.1
    have qr_5_2 : Imp (r_5.toInt = 0) (y.toInt < 0 ∨ (a0 0).toInt ≤ y.toInt) := hwr_5.2.2.1
    have qr_5_3 : r_5 = 0 ∨ r_5 = 1 := hwr_5.2.2.2.1
    refine lv_if_ne (tgt := 24) hx hb dX9_walk_18 (by decide) (fun c_6 => ?_) (fun c_6 => ?_)
    · have ic_6 : ¬ r_5.toInt = 0 := ine c_6 (rfl) (by decide)
      have kqr_5_0 : 0 ≤ y.toInt ∧ y.toInt ≤ 15 := qr_5_0 ic_6
      have kqr_5_1 : y.toInt < (a0 0).toInt := qr_5_1 ic_6
      refine lv_iload_n hx hb dX9_walk_24 rfl (lv_at hl 3 rfl) ?_
      refine lv_i2l (v := z.toInt64) hx hb dX9_walk_25 rfl ?_
      refine lv_lconst (v := 0) hx hb dX9_walk_26 (by decide) ?_
      refine lv_aload_n hx hb dX9_walk_27 rfl (lv_at hl 0 rfl) ?_
      refine va_get (D := D) (ci := 9) (v := .ref (g 0)) (C := RX9) (T := TX9) (N := 37) hx hb htg gRX9 hown hK hP 0 rfl rfl 1 (by decide) (htg _ wi_1151) (fun _ h9 => h9) rfl dX9_walk_28 ?_
      refine lv_bipush (v := 32) hx hb dX9_walk_31 (by decide) ?_
      refine lv_iload_n hx hb dX9_walk_33 rfl (lv_at hl 1 rfl) ?_
      refine lv_iadd hx hb dX9_walk_34 ?_
      refine lv_topi (fun z_7 ez_7 => ?_)
      have iz_7 : z_7.toInt = 32 + x.toInt := toInt_addI ez_7 (by decide) (rfl) (by omega)
      refine va_iald hx hb hK hP 1 0 rfl rfl (vp_in_iff.mpr (by omega)) dX9_walk_35 ?_
      refine lv_topi (fun z_8 ez_8 => ?_)
      have nz_8 : z_8.toInt = (a0 (32 + x.toInt.toNat)).toInt := by rw [ez_8]; exact congrArg (fun k => (a0 k).toInt) (show Int.toNat _ = _ from by omega)
      refine lv_i2l (v := z_8.toInt64) hx hb dX9_walk_36 rfl ?_
      have ilw_9 : (z.toInt64).toInt = z.toInt := i2l_i _
      have ilw_10 : (z_8.toInt64).toInt = z_8.toInt := i2l_i _
      refine xk_i (wr := [(sw_9 h0 g 0 b5 b6 b7 b8 b9 b10 b11 b12 b13 b14 b17 b18 b19 b23 b24 b25 b26 b27 b29 b31 b32 b33), (sw_in cT (g 0) 288 a0)]) (xr_S (n := 3) (As := [.long z.toInt64, .long 0, .long z_8.toInt64]) (rest := []) ⟨hx, hb, hml, hown, htg⟩ hK hN hP hD hS hA [] rfl (by decide) (m_withinB l D cT _ (z.toInt64) (0) (z_8.toInt64) (z.toInt) (0) (z_8.toInt) (i2l_i _) (by decide) (i2l_i _)) wi_1270 wi_1271 wi_131 wi_1272 ⟨rfl, by decide +kernel⟩ ⟨Nat.le_of_ble_eq_true rfl, Nat.le_of_ble_eq_true rfl⟩ rfl hl.1 rfl (Nat.le_of_ble_eq_true rfl) dX9_walk_37 ⟨Nat.le_of_ble_eq_true rfl, Nat.le_of_ble_eq_true rfl⟩) hP hD hS hA [] [0, 1] rfl rfl (by decide) (by decide) (fun r_12 u_11 H locs hwr_12 hP hD hS => ?_)
      obtain ⟨hP, hD⟩ : PD D A [(sw_9 h0 g 0 b5 b6 b7 b8 b9 b10 b11 b12 b13 b14 b17 b18 b19 b23 b24 b25 b26 b27 b29 b31 b32 b33), (sw_in cT (g 0) 288 a0)] _ := ⟨hP, hD⟩
      have qr_12_0 : Imp (¬ r_12.toInt = 0) (0 ≤ z.toInt ∧ z.toInt ≤ z_8.toInt) := hwr_12.1
      have qr_12_1 : Imp (r_12.toInt = 0) (z.toInt < 0 ∨ z_8.toInt < z.toInt) := hwr_12.2.1
      have qr_12_2 : r_12 = 0 ∨ r_12 = 1 := hwr_12.2.2.1
      refine lv_if_ne (tgt := 46) hx hb dX9_walk_40 (by decide) (fun c_13 => ?_) (fun c_13 => ?_)
      · have ic_13 : ¬ r_12.toInt = 0 := ine c_13 (rfl) (by decide)
        have kqr_12_0 : 0 ≤ z.toInt ∧ z.toInt ≤ z_8.toInt := qr_12_0 ic_13
        refine lv_iload_n hx hb dX9_walk_46 rfl (lv_at hl 1 rfl) ?_
        refine lv_iload_n hx hb dX9_walk_47 rfl (lv_at hl 2 rfl) ?_
        refine lv_icmp_eq (tgt := 70) hx hb dX9_walk_48 (by decide) (fun c_14 => ?_) (fun c_14 => ?_)
        · have ic_14 : x.toInt = y.toInt := ieq c_14 (rfl) (rfl)
          refine lv_aload_n hx hb dX9_walk_70 rfl (lv_at hl 0 rfl) ?_
          refine va_get (D := D) (ci := 9) (v := .ref (g 0)) (C := RX9) (T := TX9) (N := 37) hx hb htg gRX9 hown hK hP 0 rfl rfl 1 (by decide) (htg _ wi_1151) (fun _ h9 => h9) rfl dX9_walk_71 ?_
          refine lv_bipush (v := 32) hx hb dX9_walk_74 (by decide) ?_
          refine lv_iload_n hx hb dX9_walk_76 rfl (lv_at hl 1 rfl) ?_
          refine lv_iadd hx hb dX9_walk_77 ?_
          refine lv_topi (fun z_15 ez_15 => ?_)
          have iz_15 : z_15.toInt = 32 + x.toInt := toInt_addI ez_15 (by decide) (rfl) (by omega)
          refine lv_dup2_11 hx hb dX9_walk_78 rfl rfl ?_
          refine va_iald hx hb hK hP 1 0 rfl rfl (vp_in_iff.mpr (by omega)) dX9_walk_79 ?_
          refine lv_topi (fun z_16 ez_16 => ?_)
          refine lv_iload_n hx hb dX9_walk_80 rfl (lv_at hl 3 rfl) ?_
          refine lv_isub hx hb dX9_walk_81 ?_
          refine lv_topi (fun z_17 ez_17 => ?_)
          refine va_iast hx hb hK hP hD hS 1 0 rfl rfl (vp_in_iff.mpr (by omega)) dX9_walk_82 (fun H locs hP hD hS => ?_)
          obtain ⟨f_18, ef_18, hP, hD⟩ : ∃ f_18 : Nat → Int32, f_18 = upd (a0) (z_15 : Int32).toNatClampNeg z_17 ∧ PD D A [(sw_9 h0 g 0 b5 b6 b7 b8 b9 b10 b11 b12 b13 b14 b17 b18 b19 b23 b24 b25 b26 b27 b29 b31 b32 b33), (sw_in cT (g 0) 288 f_18)] H := ⟨_, rfl, hP, hD⟩
          have qf_18 : PI 288 f_18 := by rw [ef_18]; exact pi_upd (a := z_15.toInt) (b := z_17.toInt) pa0 (rfl) (rfl) (by omega) (by unfold OKP; omega)
          refine lv_aload_n hx hb dX9_walk_83 rfl (lv_at hl 0 rfl) ?_
          refine va_get (D := D) (ci := 9) (v := .ref (g 0)) (C := RX9) (T := TX9) (N := 37) hx hb htg gRX9 hown hK hP 0 rfl rfl 1 (by decide) (htg _ wi_1151) (fun _ h9 => h9) rfl dX9_walk_84 ?_
          refine lv_bipush (v := 32) hx hb dX9_walk_87 (by decide) ?_
          refine lv_iload_n hx hb dX9_walk_89 rfl (lv_at hl 2 rfl) ?_
          refine lv_iadd hx hb dX9_walk_90 ?_
          refine lv_topi (fun z_19 ez_19 => ?_)
          have iz_19 : z_19.toInt = 32 + y.toInt := toInt_addI ez_19 (by decide) (rfl) (by omega)
          refine lv_dup2_11 hx hb dX9_walk_91 rfl rfl ?_
          refine va_iald hx hb hK hP 1 0 rfl rfl (vp_in_iff.mpr (by omega)) dX9_walk_92 ?_
          refine lv_topi (fun z_20 ez_20 => ?_)
          refine lv_iload_n hx hb dX9_walk_93 rfl (lv_at hl 3 rfl) ?_
          refine lv_iadd hx hb dX9_walk_94 ?_
          refine lv_topi (fun z_21 ez_21 => ?_)
          refine va_iast hx hb hK hP hD hS 1 0 rfl rfl (vp_in_iff.mpr (by omega)) dX9_walk_95 (fun H locs hP hD hS => ?_)
          obtain ⟨f_22, ef_22, hP, hD⟩ : ∃ f_22 : Nat → Int32, f_22 = upd (f_18) (z_19 : Int32).toNatClampNeg z_21 ∧ PD D A [(sw_9 h0 g 0 b5 b6 b7 b8 b9 b10 b11 b12 b13 b14 b17 b18 b19 b23 b24 b25 b26 b27 b29 b31 b32 b33), (sw_in cT (g 0) 288 f_22)] H := ⟨_, rfl, hP, hD⟩
          have qf_22 : PI 288 f_22 := by rw [ef_22]; exact pi_upd (a := z_19.toInt) (b := z_21.toInt) qf_18 (rfl) (rfl) (by omega) (by unfold OKP; omega)
          refine lv_iconst (v := 0) hx hb dX9_walk_96 (by decide) ?_
          exact x_iret hx hb hr hlk hP hD hS [0, 1] ((0, f_22)) rfl (by decide) ⟨by (try dsimp only); first | assumption | omega | decide | exact Or.inl (by decide) | (intro h9; exact absurd h9 (by decide)) | (intro _; omega) | (intro _; assumption) | (intro _; decide), (by (try dsimp only); unfold wkA; (repeat (first | rw [if_pos (by omega)] | rw [if_neg (by omega)])); first | done | decide | omega), (fun _ j => by (try dsimp only); rw [ef_22, ez_21, ez_20, ef_18, ez_17, ez_16, show (z_15 : Int32).toNatClampNeg = 32 + x.toInt.toNat from (show Int.toNat _ = _ from by omega), show (z_19 : Int32).toNatClampNeg = 32 + y.toInt.toNat from (show Int.toNat _ = _ from by omega)]; rfl), (fun h9 => absurd (by decide) h9), trivial⟩ (by decide) (by decide) dX9_walk_97
        · have ic_14 : ¬ x.toInt = y.toInt := ine c_14 (rfl) (rfl)
          refine lv_aload_n hx hb dX9_walk_51 rfl (lv_at hl 0 rfl) ?_
          refine va_get (D := D) (ci := 9) (v := .ref (g 0)) (C := RX9) (T := TX9) (N := 37) hx hb htg gRX9 hown hK hP 0 rfl rfl 1 (by decide) (htg _ wi_1151) (fun _ h9 => h9) rfl dX9_walk_52 ?_
          refine lv_bipush (v := 32) hx hb dX9_walk_55 (by decide) ?_
          refine lv_iload_n hx hb dX9_walk_57 rfl (lv_at hl 2 rfl) ?_
          refine lv_iadd hx hb dX9_walk_58 ?_
          refine lv_topi (fun z_23 ez_23 => ?_)
          have iz_23 : z_23.toInt = 32 + y.toInt := toInt_addI ez_23 (by decide) (rfl) (by omega)
          refine va_iald hx hb hK hP 1 0 rfl rfl (vp_in_iff.mpr (by omega)) dX9_walk_59 ?_
          refine lv_topi (fun z_24 ez_24 => ?_)
          refine lv_iload_n hx hb dX9_walk_60 rfl (lv_at hl 3 rfl) ?_
          refine lv_iadd hx hb dX9_walk_61 ?_
          refine lv_topi (fun z_25 ez_25 => ?_)
          have nz_25 : z_25.toInt = (a0 (32 + y.toInt.toNat) + z).toInt := by rw [ez_25, ez_24]; exact congrArg (fun k => (a0 k + z).toInt) (show Int.toNat _ = _ from by omega)
          refine lv_bipush (v := 9) hx hb dX9_walk_62 (by decide) ?_
          refine lv_icmp_le (tgt := 70) hx hb dX9_walk_64 (by decide) (fun c_26 => ?_) (fun c_26 => ?_)
          · have ic_26 : z_25.toInt ≤ 9 := ile c_26 (rfl) (by decide)
            refine lv_aload_n hx hb dX9_walk_70 rfl (lv_at hl 0 rfl) ?_
            refine va_get (D := D) (ci := 9) (v := .ref (g 0)) (C := RX9) (T := TX9) (N := 37) hx hb htg gRX9 hown hK hP 0 rfl rfl 1 (by decide) (htg _ wi_1151) (fun _ h9 => h9) rfl dX9_walk_71 ?_
            refine lv_bipush (v := 32) hx hb dX9_walk_74 (by decide) ?_
            refine lv_iload_n hx hb dX9_walk_76 rfl (lv_at hl 1 rfl) ?_
            refine lv_iadd hx hb dX9_walk_77 ?_
            refine lv_topi (fun z_27 ez_27 => ?_)
            have iz_27 : z_27.toInt = 32 + x.toInt := toInt_addI ez_27 (by decide) (rfl) (by omega)
            refine lv_dup2_11 hx hb dX9_walk_78 rfl rfl ?_
            refine va_iald hx hb hK hP 1 0 rfl rfl (vp_in_iff.mpr (by omega)) dX9_walk_79 ?_
            refine lv_topi (fun z_28 ez_28 => ?_)
            refine lv_iload_n hx hb dX9_walk_80 rfl (lv_at hl 3 rfl) ?_
            refine lv_isub hx hb dX9_walk_81 ?_
            refine lv_topi (fun z_29 ez_29 => ?_)
            refine va_iast hx hb hK hP hD hS 1 0 rfl rfl (vp_in_iff.mpr (by omega)) dX9_walk_82 (fun H locs hP hD hS => ?_)
            obtain ⟨f_30, ef_30, hP, hD⟩ : ∃ f_30 : Nat → Int32, f_30 = upd (a0) (z_27 : Int32).toNatClampNeg z_29 ∧ PD D A [(sw_9 h0 g 0 b5 b6 b7 b8 b9 b10 b11 b12 b13 b14 b17 b18 b19 b23 b24 b25 b26 b27 b29 b31 b32 b33), (sw_in cT (g 0) 288 f_30)] H := ⟨_, rfl, hP, hD⟩
            have qf_30 : PI 288 f_30 := by rw [ef_30]; exact pi_upd (a := z_27.toInt) (b := z_29.toInt) pa0 (rfl) (rfl) (by omega) (by unfold OKP; omega)
            refine lv_aload_n hx hb dX9_walk_83 rfl (lv_at hl 0 rfl) ?_
            refine va_get (D := D) (ci := 9) (v := .ref (g 0)) (C := RX9) (T := TX9) (N := 37) hx hb htg gRX9 hown hK hP 0 rfl rfl 1 (by decide) (htg _ wi_1151) (fun _ h9 => h9) rfl dX9_walk_84 ?_
            refine lv_bipush (v := 32) hx hb dX9_walk_87 (by decide) ?_
            refine lv_iload_n hx hb dX9_walk_89 rfl (lv_at hl 2 rfl) ?_
            refine lv_iadd hx hb dX9_walk_90 ?_
            refine lv_topi (fun z_31 ez_31 => ?_)
            have iz_31 : z_31.toInt = 32 + y.toInt := toInt_addI ez_31 (by decide) (rfl) (by omega)
            refine lv_dup2_11 hx hb dX9_walk_91 rfl rfl ?_
            refine va_iald hx hb hK hP 1 0 rfl rfl (vp_in_iff.mpr (by omega)) dX9_walk_92 ?_
            refine lv_topi (fun z_32 ez_32 => ?_)
            refine lv_iload_n hx hb dX9_walk_93 rfl (lv_at hl 3 rfl) ?_
            refine lv_iadd hx hb dX9_walk_94 ?_
            refine lv_topi (fun z_33 ez_33 => ?_)
            refine va_iast hx hb hK hP hD hS 1 0 rfl rfl (vp_in_iff.mpr (by omega)) dX9_walk_95 (fun H locs hP hD hS => ?_)
            obtain ⟨f_34, ef_34, hP, hD⟩ : ∃ f_34 : Nat → Int32, f_34 = upd (f_30) (z_31 : Int32).toNatClampNeg z_33 ∧ PD D A [(sw_9 h0 g 0 b5 b6 b7 b8 b9 b10 b11 b12 b13 b14 b17 b18 b19 b23 b24 b25 b26 b27 b29 b31 b32 b33), (sw_in cT (g 0) 288 f_34)] H := ⟨_, rfl, hP, hD⟩
            have qf_34 : PI 288 f_34 := by rw [ef_34]; exact pi_upd (a := z_31.toInt) (b := z_33.toInt) qf_30 (rfl) (rfl) (by omega) (by unfold OKP; omega)
            refine lv_iconst (v := 0) hx hb dX9_walk_96 (by decide) ?_
            exact x_iret hx hb hr hlk hP hD hS [0, 1] ((0, f_34)) rfl (by decide) ⟨by (try dsimp only); first | assumption | omega | decide | exact Or.inl (by decide) | (intro h9; exact absurd h9 (by decide)) | (intro _; omega) | (intro _; assumption) | (intro _; decide), (by (try dsimp only); unfold wkA; (repeat (first | rw [if_pos (by omega)] | rw [if_neg (by omega)])); first | done | decide | omega), (fun _ j => by (try dsimp only); rw [ef_34, ez_33, ez_32, ef_30, ez_29, ez_28, show (z_27 : Int32).toNatClampNeg = 32 + x.toInt.toNat from (show Int.toNat _ = _ from by omega), show (z_31 : Int32).toNatClampNeg = 32 + y.toInt.toNat from (show Int.toNat _ = _ from by omega)]; rfl), (fun h9 => absurd (by decide) h9), trivial⟩ (by decide) (by decide) dX9_walk_97
          · have ic_26 : 9 < z_25.toInt := inle c_26 (rfl) (by decide)
            refine lv_bipush (v := (-4)) hx hb dX9_walk_67 (by decide) ?_
            exact x_iret hx hb hr hlk hP hD hS [0, 1] ((0, a0)) rfl (by decide) ⟨by (try dsimp only); first | assumption | omega | decide | exact Or.inl (by decide) | (intro h9; exact absurd h9 (by decide)) | (intro _; omega) | (intro _; assumption) | (intro _; decide), (by (try dsimp only); unfold wkA; (repeat (first | rw [if_pos (by omega)] | rw [if_neg (by omega)])); first | done | decide | omega), (fun h9 => absurd h9 (by decide)), (fun _ _ => rfl), trivial⟩ (by decide) (by decide) dX9_walk_69
      · have ic_13 : r_12.toInt = 0 := ieq c_13 (rfl) (by decide)
        have kqr_12_1 : z.toInt < 0 ∨ z_8.toInt < z.toInt := qr_12_1 ic_13
        refine lv_bipush (v := (-3)) hx hb dX9_walk_43 (by decide) ?_
        exact x_iret hx hb hr hlk hP hD hS [0, 1] ((0, a0)) rfl (by decide) ⟨by (try dsimp only); first | assumption | omega | decide | exact Or.inl (by decide) | (intro h9; exact absurd h9 (by decide)) | (intro _; omega) | (intro _; assumption) | (intro _; decide), (by (try dsimp only); unfold wkA; (repeat (first | rw [if_pos (by omega)] | rw [if_neg (by omega)])); first | done | decide | omega), (fun h9 => absurd h9 (by decide)), (fun _ _ => rfl), trivial⟩ (by decide) (by decide) dX9_walk_45
    · have ic_6 : r_5.toInt = 0 := ieq c_6 (rfl) (by decide)
      have kqr_5_2 : y.toInt < 0 ∨ (a0 0).toInt ≤ y.toInt := qr_5_2 ic_6
      refine lv_bipush (v := (-2)) hx hb dX9_walk_21 (by decide) ?_
      exact x_iret hx hb hr hlk hP hD hS [0, 1] ((0, a0)) rfl (by decide) ⟨by (try dsimp only); first | assumption | omega | decide | exact Or.inl (by decide) | (intro h9; exact absurd h9 (by decide)) | (intro _; omega) | (intro _; assumption) | (intro _; decide), (by (try dsimp only); unfold wkA; (repeat (first | rw [if_pos (by omega)] | rw [if_neg (by omega)])); first | done | decide | omega), (fun h9 => absurd h9 (by decide)), (fun _ _ => rfl), trivial⟩ (by decide) (by decide) dX9_walk_23
set_option maxHeartbeats 4000000 in
set_option maxRecDepth 100000 in
theorem m_plainIn288R (l : Launch) (D : va_G) (cT : Nat → ClassId) (sz : Nat) (b : Nat) (f : Nat → Int32) (hpf : PI 288 f) : Met l yX9_plainIn (wsc yX9_plainIn cX9_plainIn 2 none) { frames := 3, cells := 0, slots := 0, locals := 120 } (va_Pc [.ref b] (PX D cT sz [(sw_in cT b 288 f)])) (va_Qv (fun (u : (Nat → Int32)) => (PI 288 u) ∧ (PLm plain0 u) ∧ (True)) (fun u t => RW D (va_A [(sw_in cT b 288 f)] sz) ((fun u : (Nat → Int32) => [(sw_in cT b 288 u)]) u) t) (va_A [(sw_in cT b 288 f)] sz)) 0 0 (va_A [(sw_in cT b 288 f)] sz) := by
  refine m_of (y := yX9_plainIn) (cc := cX9_plainIn) (nL := 2) (ret := none) (D := D) (cT := cT) (av := [.ref b]) (wi := [(sw_in cT b 288 f)]) (fun A => va_Qv (fun (u : (Nat → Int32)) => (PI 288 u) ∧ (PLm plain0 u) ∧ (True)) (fun u t => RW D A ((fun u : (Nat → Int32) => [(sw_in cT b 288 u)]) u) t) A) (by decide) (Nat.le_of_ble_eq_true rfl) ?_
  intro p e s m below meth c A hx hb hml hown htg hK hN hr hlk hnm hsz hP hD hS hA ls hl
  have hown : s.vm.findClass RX9 = some m.cls := hown
  have hl : lv_has ls 2 [(0, .ref b)] := hl
  have tc_0 : (0 : Int32).toInt = 0 := by decide
  have tc_1 : (1 : Int32).toInt = 1 := by decide
  have tc_6 : (6 : Int32).toInt = 6 := by decide
  have tc_10 : (10 : Int32).toInt = 10 := by decide
  have tc_60 : (60 : Int32).toInt = 60 := by decide
  have tc_96 : (96 : Int32).toInt = 96 := by decide
  obtain ⟨hP, hD⟩ : PD D A [(sw_in cT b 288 (fillF (f) 0 (0)))] _ := ⟨hP, hD⟩
  refine lv_iconst (v := 0) hx hb dX9_plainIn_0 (by decide) ?_
  refine lv_istore_n (lv' := [(1, .int 0), (0, .ref b)]) hx hb dX9_plainIn_1 rfl hl (by decide) rfl (fun ls hl => ?_)
  refine (fun (key : ∀ (n9_2 : Nat) (k9_2 : Nat)  (H : Heap) (locs : List Loc) (ls : Array Slot), (k9_2 : Int) ≤ 96 → 96 < (k9_2 : Int) + n9_2 → PD D A [(sw_in cT b 288 (fillF (f) k9_2 (0)))] H → va_S A s.heap H locs → lv_has ls 2 [(1, .int (nI k9_2)), (0, .ref b)] → W p l e _ s m _ below meth c H locs _ _ _ (F0 m 2 ls [])) => key (Int.toNat (96 - 0) + 1) 0  _ _ _ (by omega) (by omega)  ⟨hP, hD⟩ hS (lv_sub hl [0, 1] rfl)) ?_
  intro n9_2
  induction n9_2 with
  | zero => intro k9_2  H locs ls hq1 hq2; exact absurd hq2 (by omega)
  | succ n9_2 ih_2 =>
    intro k9_2  H locs ls hq1_2 hq2_2  hPD hS hl
    obtain ⟨hP, hD⟩ := hPD
    have hk9_2 : (nI k9_2).toInt = (k9_2 : Int) := nI_toInt (by omega)
    refine lv_iload_n hx hb dX9_plainIn_2 rfl (lv_at hl 0 rfl) ?_
    refine lv_bipush (v := 96) hx hb dX9_plainIn_3 (by decide) ?_
    refine lv_icmp_ge (tgt := 18) hx hb dX9_plainIn_5 (by decide) (fun c_1 => ?_) (fun c_1 => ?_)
    · have ic_1 : 96 ≤ ((k9_2 : Nat) : Int) := ile c_1 (by decide) (nI_toInt (by omega))
      have e8 : k9_2 = 96 := by omega
      subst e8
      have hpi : PI 288 (fillF (f) 96 (0)) := pi_fillF hpf
      have hm0 : PLm (fun _ => 0) (fillF (f) 96 (0)) := PLm_f
      refine lv_aload_n hx hb dX9_plainIn_18 rfl (lv_at hl 1 rfl) ?_
      refine xk_v (wr := []) (xr_S (n := 1) (As := [.ref b]) (rest := []) ⟨hx, hb, hml, hown, htg⟩ hK hN hP hD hS hA [0] rfl (by decide) (m_lampIn288 l D cT _ (b) (fillF (f) 96 (0))) wi_1147 wi_1148 wi_131 wi_1149 ⟨rfl, by decide +kernel⟩ ⟨Nat.le_of_ble_eq_true rfl, Nat.le_of_ble_eq_true rfl⟩ rfl hl.1 rfl (Nat.le_of_ble_eq_true rfl) dX9_plainIn_19 ⟨Nat.le_of_ble_eq_true rfl, Nat.le_of_ble_eq_true rfl⟩) hP hD hS hA [0] [] rfl rfl (by decide) (by decide) (fun u_2 H locs hwr_3 hP hD hS => ?_)
      obtain ⟨hP, hD⟩ : PD D A [(sw_in cT b 288 (upd (upd (upd (upd ((fillF (f) 96 (0))) 2 0) 3 6) 4 6) 5 1))] _ := ⟨hP, hD⟩
      have hpl : PI 288 (upd (upd (upd (upd ((fillF (f) 96 (0))) 2 0) 3 6) 4 6) 5 1) := pi_lamp hpi
      have hm1 := PLm_lamp0 hm0
      refine lv_aload_n hx hb dX9_plainIn_22 rfl (lv_at hl 1 rfl) ?_
      refine lv_bipush (v := 6) hx hb dX9_plainIn_23 (by decide) ?_
      refine lv_bipush (v := 60) hx hb dX9_plainIn_25 (by decide) ?_
      refine va_iast hx hb hK hP hD hS 0 0 rfl rfl (by unfold vp_in; decide) dX9_plainIn_27 (fun H locs hP hD hS => ?_)
      obtain ⟨f_4, ef_4, hP, hD⟩ : ∃ f_4 : Nat → Int32, f_4 = upd (upd (upd (upd (upd ((fillF (f) 96 (0))) 2 0) 3 6) 4 6) 5 1) (6 : Int32).toNatClampNeg 60 ∧ PD D A [(sw_in cT b 288 f_4)] H := ⟨_, rfl, hP, hD⟩
      have qf_4 : PI 288 f_4 := by rw [ef_4]; exact pi_upd (a := 6) (b := 60) hpl (by decide) (by decide) (by omega) (by unfold OKP; omega)
      have hm2 : PLm (plainK 0) f_4 := PLm_ex (PLm_upd (k := 6) hm1 ef_4 (by decide) (by decide) (by decide)) plK_0
      refine lv_iconst (v := 0) hx hb dX9_plainIn_28 (by decide) ?_
      refine lv_istore_n (lv' := [(1, .int 0), (0, .ref b)]) hx hb dX9_plainIn_29 rfl hl (by decide) rfl (fun ls hl => ?_)
      refine (fun (key : ∀ (n9_30 : Nat) (k9_30 : Nat) (f9_30_0 : Nat → Int32) (H : Heap) (locs : List Loc) (ls : Array Slot), (k9_30 : Int) ≤ 6 → 6 < (k9_30 : Int) + n9_30 → PLm (plainK k9_30) f9_30_0 → PI 288 f9_30_0 → PD D A [(sw_in cT b 288 f9_30_0)] H → va_S A s.heap H locs → lv_has ls 2 [(1, .int (nI k9_30)), (0, .ref b)] → W p l e _ s m _ below meth c H locs _ _ _ (F0 m 30 ls [])) => key (Int.toNat (6 - 0) + 1) 0 _ _ _ _ (by omega) (by omega) (by first | assumption | omega | decide | (simp only [ti_0, ti_1, ti_2, ti_3, ti_4, ti_5, ti_6, ti_7, ti_8, ti_9, ti_10, ti_11, ti_12, ti_m1]; omega)) (by first | assumption | omega | decide | (simp only [ti_0, ti_1, ti_2, ti_3, ti_4, ti_5, ti_6, ti_7, ti_8, ti_9, ti_10, ti_11, ti_12, ti_m1]; omega)) ⟨hP, hD⟩ hS (lv_sub hl [0, 1] rfl)) ?_
      intro n9_30
      induction n9_30 with
      | zero => intro k9_30 f9_30_0 H locs ls hq1 hq2; exact absurd hq2 (by omega)
      | succ n9_30 ih_30 =>
        intro k9_30 f9_30_0 H locs ls hq1_30 hq2_30 h9_30_0 h9_30_1 hPD hS hl
        obtain ⟨hP, hD⟩ := hPD
        have hk9_30 : (nI k9_30).toInt = (k9_30 : Int) := nI_toInt (by omega)
        refine lv_iload_n hx hb dX9_plainIn_30 rfl (lv_at hl 0 rfl) ?_
        refine lv_bipush (v := 6) hx hb dX9_plainIn_31 (by decide) ?_
        refine lv_icmp_ge (tgt := 49) hx hb dX9_plainIn_33 (by decide) (fun c_5 => ?_) (fun c_5 => ?_)
        · have ic_5 : 6 ≤ ((k9_30 : Nat) : Int) := ile c_5 (by decide) (nI_toInt (by omega))
          have e6 : k9_30 = 6 := by omega
          have hm4 : PLm plain0 f9_30_0 := PLm_ex h9_30_0 (fun k => by rw [e6]; exact plK_6 k)
          exact x_vret hx hb hr hlk hP hD hS [0] ((f9_30_0)) rfl (by decide) ⟨by (try dsimp only); first | assumption | omega | decide | exact Or.inl (by decide) | (intro h9; exact absurd h9 (by decide)) | (intro _; omega) | (intro _; assumption) | (intro _; decide), by (try dsimp only); first | assumption | omega | decide | exact Or.inl (by decide) | (intro h9; exact absurd h9 (by decide)) | (intro _; omega) | (intro _; assumption) | (intro _; decide), trivial⟩ (by decide) (by decide) dX9_plainIn_49
        · have ic_5 : ((k9_30 : Nat) : Int) < 6 := inle c_5 (by decide) (nI_toInt (by omega))
          refine lv_aload_n hx hb dX9_plainIn_36 rfl (lv_at hl 1 rfl) ?_
          refine lv_bipush (v := 10) hx hb dX9_plainIn_37 (by decide) ?_
          refine lv_iload_n hx hb dX9_plainIn_39 rfl (lv_at hl 0 rfl) ?_
          refine lv_iadd hx hb dX9_plainIn_40 ?_
          refine lv_is (y := nI (10 + k9_30)) (nI_add 10 (k9_30)) ?_
          refine lv_iconst (v := 1) hx hb dX9_plainIn_41 (by decide) ?_
          refine va_iast hx hb hK hP hD hS 0 0 rfl rfl (vp_in_nI (by omega) (by omega)) dX9_plainIn_42 (fun H locs hP hD hS => ?_)
          obtain ⟨f_6, ef_6, hP, hD⟩ : ∃ f_6 : Nat → Int32, f_6 = upd (f9_30_0) ((nI (10 + k9_30)) : Int32).toNatClampNeg 1 ∧ PD D A [(sw_in cT b 288 f_6)] H := ⟨_, rfl, hP, hD⟩
          have qf_6 : PI 288 f_6 := by rw [ef_6]; exact pi_upd (a := ((10 + k9_30 : Nat) : Int)) (b := 1) h9_30_1 (nI_toInt (by omega)) (by decide) (by omega) (by unfold OKP; omega)
          refine lv_iinc (v := (nI (k9_30 + 1))) (lv' := [(1, .int (nI (k9_30 + 1))), (0, .ref b)]) hx hb dX9_plainIn_43 hl (k := 0) rfl (by exact nI_1 (k9_30)) (by decide) rfl (fun ls hl => ?_)
          refine lv_goto (tgt := 30) hx hb dX9_plainIn_46 (by decide) ?_
          have hm3 : PLm (plainK (k9_30 + 1)) f_6 := PLm_ex (PLm_upd (k := 10 + k9_30) h9_30_0 ef_6 (nI_toInt (by omega)) (by decide) (by omega)) (plK_s k9_30)
          exact ih_30 (k9_30 + 1) _ _ _ _ (by omega) (by omega) (by first | assumption | omega | decide | (simp only [ti_0, ti_1, ti_2, ti_3, ti_4, ti_5, ti_6, ti_7, ti_8, ti_9, ti_10, ti_11, ti_12, ti_m1]; omega)) (by first | assumption | omega | decide | (simp only [ti_0, ti_1, ti_2, ti_3, ti_4, ti_5, ti_6, ti_7, ti_8, ti_9, ti_10, ti_11, ti_12, ti_m1]; omega)) ⟨hP.sub [0] rfl, hD.sub [0] (by decide) rfl⟩ hS (lv_sub hl [0, 1] rfl)
    · have ic_1 : ((k9_2 : Nat) : Int) < 96 := inle c_1 (by decide) (nI_toInt (by omega))
      refine lv_aload_n hx hb dX9_plainIn_8 rfl (lv_at hl 1 rfl) ?_
      refine lv_iload_n hx hb dX9_plainIn_9 rfl (lv_at hl 0 rfl) ?_
      refine lv_iconst (v := 0) hx hb dX9_plainIn_10 (by decide) ?_
      refine va_iast hx hb hK hP hD hS 0 0 rfl rfl (vp_in_nI (by omega) (by omega)) dX9_plainIn_11 (fun H locs hP hD hS => ?_)
      have e9 : upd (fillF (f) k9_2 (0)) (nI k9_2).toNatClampNeg (0) = fillF (f) (k9_2 + 1) (0) := by rw [nI_clamp (by omega)]; exact fillF_s (f) k9_2 (0)
      have hP : va_P D classes [(sw_in cT b 288 (fillF (f) (k9_2 + 1) (0)))] H := by rw [← e9]; exact hP
      have hD : va_D A [(sw_in cT b 288 (fillF (f) (k9_2 + 1) (0)))] := by rw [← e9]; exact hD
      refine lv_iinc (v := (nI (k9_2 + 1))) (lv' := [(1, .int (nI (k9_2 + 1))), (0, .ref b)]) hx hb dX9_plainIn_12 hl (k := 0) rfl (by exact nI_1 (k9_2)) (by decide) rfl (fun ls hl => ?_)
      refine lv_goto (tgt := 2) hx hb dX9_plainIn_15 (by decide) ?_
      exact ih_2 (k9_2 + 1)  _ _ _ (by omega) (by omega)  ⟨hP.sub [0] rfl, hD.sub [0] (by decide) rfl⟩ hS (lv_sub hl [0, 1] rfl)
set_option maxHeartbeats 4000000 in
set_option maxRecDepth 100000 in
theorem m_initX (l : Launch) (D : va_G) (cT : Nat → ClassId) (sz : Nat) (h0 : Nat) : Met l yX9_init (wsc yX9_init cX9_init 1 none) { frames := 4, cells := 14, slots := 14122, locals := 141 } (va_Pc [.ref h0] (PX D cT sz [(h0, .inr (9, (.int 0 :: .null :: .null :: .null :: .null :: .int 0 :: .int 0 :: .int 0 :: .int 0 :: .int 0 :: .int 0 :: .int 0 :: .int 0 :: .int 0 :: .int 0 :: .null :: .null :: .int 0 :: .int 0 :: .int 0 :: .null :: .null :: .null :: .int 0 :: .int 0 :: .int 0 :: .int 0 :: .int 0 :: .null :: .int 0 :: .null :: .int 0 :: .int 0 :: .int 0 :: .null :: .null :: .null :: [])))])) (va_Qv (fun (u : (Nat → Nat) × (Nat → Int32) × (Nat → Int32)) => (PI 288 u.2.1) ∧ ((u.2.2 0).toInt = -1 ∧ (u.2.2 1).toInt = -1 ∧ (u.2.2 2).toInt = -1 ∧ (u.2.2 3).toInt = -1) ∧ (PLm plain0 u.2.1) ∧ (True)) (fun u t => RW D (va_A [(h0, .inr (9, (.int 0 :: .null :: .null :: .null :: .null :: .int 0 :: .int 0 :: .int 0 :: .int 0 :: .int 0 :: .int 0 :: .int 0 :: .int 0 :: .int 0 :: .int 0 :: .null :: .null :: .int 0 :: .int 0 :: .int 0 :: .null :: .null :: .null :: .int 0 :: .int 0 :: .int 0 :: .int 0 :: .int 0 :: .null :: .int 0 :: .null :: .int 0 :: .int 0 :: .int 0 :: .null :: .null :: .null :: [])))] sz) ((fun u : (Nat → Nat) × (Nat → Int32) × (Nat → Int32) => [(h0, .inr (9, (.int 0 :: .ref (u.1 0) :: .ref (u.1 1) :: .ref (u.1 2) :: .ref (u.1 3) :: .int 0 :: .int 0 :: .int 0 :: .int 0 :: .int 0 :: .int 0 :: .int 0 :: .int 0 :: .int 0 :: .int (-1) :: .ref (u.1 4) :: .ref (u.1 5) :: .int 0 :: .int 0 :: .int 0 :: .ref (u.1 6) :: .ref (u.1 7) :: .ref (u.1 8) :: .int 0 :: .int 0 :: .int 0 :: .int 0 :: .int 0 :: .ref (u.1 9) :: .int 0 :: .ref (u.1 10) :: .int 0 :: .int 0 :: .int 0 :: .ref (u.1 11) :: .ref (u.1 12) :: .ref (u.1 13) :: []))), (sw_in cT (u.1 0) 288 u.2.1), (sw_bo cT (u.1 1) 2 (fun _ => 0)), (sw_in cT (u.1 2) 900 (fun _ => 0)), (sw_in cT (u.1 3) 96 (fun _ => 0)), (sw_in cT (u.1 4) 6 (fun _ => 0)), (sw_in cT (u.1 5) 960 (fun _ => 0)), (sw_in cT (u.1 6) 8 (fun _ => 0)), (sw_in cT (u.1 7) 8 (fun _ => 0)), (sw_in cT (u.1 8) 6 (fun _ => 0)), (sw_in cT (u.1 9) 11664 (fun _ => 0)), (sw_in cT (u.1 10) 16 (fun _ => 0)), (sw_in cT (u.1 11) 4 u.2.2), (sw_in cT (u.1 12) 4 (fun _ => 0)), (sw_lo cT (u.1 13) 160 (fun _ => 0))]) u) t) (va_A [(h0, .inr (9, (.int 0 :: .null :: .null :: .null :: .null :: .int 0 :: .int 0 :: .int 0 :: .int 0 :: .int 0 :: .int 0 :: .int 0 :: .int 0 :: .int 0 :: .int 0 :: .null :: .null :: .int 0 :: .int 0 :: .int 0 :: .null :: .null :: .null :: .int 0 :: .int 0 :: .int 0 :: .int 0 :: .int 0 :: .null :: .int 0 :: .null :: .int 0 :: .int 0 :: .int 0 :: .null :: .null :: .null :: [])))] sz)) 14 14122 (va_A [(h0, .inr (9, (.int 0 :: .null :: .null :: .null :: .null :: .int 0 :: .int 0 :: .int 0 :: .int 0 :: .int 0 :: .int 0 :: .int 0 :: .int 0 :: .int 0 :: .int 0 :: .null :: .null :: .int 0 :: .int 0 :: .int 0 :: .null :: .null :: .null :: .int 0 :: .int 0 :: .int 0 :: .int 0 :: .int 0 :: .null :: .int 0 :: .null :: .int 0 :: .int 0 :: .int 0 :: .null :: .null :: .null :: [])))] sz) := by
  refine m_of (y := yX9_init) (cc := cX9_init) (nL := 1) (ret := none) (D := D) (cT := cT) (av := [.ref h0]) (wi := [(h0, .inr (9, (.int 0 :: .null :: .null :: .null :: .null :: .int 0 :: .int 0 :: .int 0 :: .int 0 :: .int 0 :: .int 0 :: .int 0 :: .int 0 :: .int 0 :: .int 0 :: .null :: .null :: .int 0 :: .int 0 :: .int 0 :: .null :: .null :: .null :: .int 0 :: .int 0 :: .int 0 :: .int 0 :: .int 0 :: .null :: .int 0 :: .null :: .int 0 :: .int 0 :: .int 0 :: .null :: .null :: .null :: [])))]) (fun A => va_Qv (fun (u : (Nat → Nat) × (Nat → Int32) × (Nat → Int32)) => (PI 288 u.2.1) ∧ ((u.2.2 0).toInt = -1 ∧ (u.2.2 1).toInt = -1 ∧ (u.2.2 2).toInt = -1 ∧ (u.2.2 3).toInt = -1) ∧ (PLm plain0 u.2.1) ∧ (True)) (fun u t => RW D A ((fun u : (Nat → Nat) × (Nat → Int32) × (Nat → Int32) => [(h0, .inr (9, (.int 0 :: .ref (u.1 0) :: .ref (u.1 1) :: .ref (u.1 2) :: .ref (u.1 3) :: .int 0 :: .int 0 :: .int 0 :: .int 0 :: .int 0 :: .int 0 :: .int 0 :: .int 0 :: .int 0 :: .int (-1) :: .ref (u.1 4) :: .ref (u.1 5) :: .int 0 :: .int 0 :: .int 0 :: .ref (u.1 6) :: .ref (u.1 7) :: .ref (u.1 8) :: .int 0 :: .int 0 :: .int 0 :: .int 0 :: .int 0 :: .ref (u.1 9) :: .int 0 :: .ref (u.1 10) :: .int 0 :: .int 0 :: .int 0 :: .ref (u.1 11) :: .ref (u.1 12) :: .ref (u.1 13) :: []))), (sw_in cT (u.1 0) 288 u.2.1), (sw_bo cT (u.1 1) 2 (fun _ => 0)), (sw_in cT (u.1 2) 900 (fun _ => 0)), (sw_in cT (u.1 3) 96 (fun _ => 0)), (sw_in cT (u.1 4) 6 (fun _ => 0)), (sw_in cT (u.1 5) 960 (fun _ => 0)), (sw_in cT (u.1 6) 8 (fun _ => 0)), (sw_in cT (u.1 7) 8 (fun _ => 0)), (sw_in cT (u.1 8) 6 (fun _ => 0)), (sw_in cT (u.1 9) 11664 (fun _ => 0)), (sw_in cT (u.1 10) 16 (fun _ => 0)), (sw_in cT (u.1 11) 4 u.2.2), (sw_in cT (u.1 12) 4 (fun _ => 0)), (sw_lo cT (u.1 13) 160 (fun _ => 0))]) u) t) A) (by decide) (Nat.le_of_ble_eq_true rfl) ?_
  intro p e s m below meth c A hx hb hml hown htg hK hN hr hlk hnm hsz hP hD hS hA ls hl
  have hown : s.vm.findClass RX9 = some m.cls := hown
  have hl : lv_has ls 1 [(0, .ref h0)] := hl
  have hpi0 : PI 288 (fun _ => 0) := pi_0 288
  refine lv_aload_n hx hb dX9_init_0 rfl (lv_at hl 0 rfl) ?_
  refine W.objInit hx hb hown (htg _ wi_1143) (htg _ wi_145) (htg _ wi_146) rfl (by rw [hml]; exact hl.1) rfl dX9_init_1 (Nat.le_of_ble_eq_true rfl) (Nat.le_of_ble_eq_true rfl) ?_
  refine W.eq (g2 := F0 m 4 ls []) rfl ?_
  refine lv_aload_n hx hb dX9_init_4 rfl (lv_at hl 0 rfl) ?_
  refine lv_sipush (v := 288) hx hb dX9_init_5 (by decide) ?_
  refine x_newa hx hb (ty := .int) rfl (htg _ wi_251) hK hP hD hS hA 288 0 rfl (288, .inl (fun _ => 0)) (fun _ => rfl) (by decide) (by decide) (by decide) (by decide) (by decide) dX9_init_8 (fun a_1 H hP hD hS => ?_)
  obtain ⟨hP, hD⟩ : PD D A [(h0, .inr (9, (.int 0 :: .null :: .null :: .null :: .null :: .int 0 :: .int 0 :: .int 0 :: .int 0 :: .int 0 :: .int 0 :: .int 0 :: .int 0 :: .int 0 :: .int 0 :: .null :: .null :: .int 0 :: .int 0 :: .int 0 :: .null :: .null :: .null :: .int 0 :: .int 0 :: .int 0 :: .int 0 :: .int 0 :: .null :: .int 0 :: .null :: .int 0 :: .int 0 :: .int 0 :: .null :: .null :: .null :: []))), (sw_in cT a_1 288 (fun _ => 0))] _ := ⟨hP, hD⟩
  refine va_putF (D := D) (ci := 9) (v := .ref a_1) (ty := .array .int) (C := RX9) (T := TX9) (N := 37) hx hb htg gRX9 tyX9 tyX9_ok nmX9 hown hK hP hD hS 0 rfl rfl 1 (by decide) (htg _ wi_1151) (fun _ h9 => h9) rfl hnm rfl (by decide +kernel) rfl rfl (Nat.le_of_ble_eq_true rfl) dX9_init_10 (fun H locs hP hD hS => ?_)
  obtain ⟨hP, hD⟩ : PD D A [(h0, .inr (9, (.int 0 :: .ref a_1 :: .null :: .null :: .null :: .int 0 :: .int 0 :: .int 0 :: .int 0 :: .int 0 :: .int 0 :: .int 0 :: .int 0 :: .int 0 :: .int 0 :: .null :: .null :: .int 0 :: .int 0 :: .int 0 :: .null :: .null :: .null :: .int 0 :: .int 0 :: .int 0 :: .int 0 :: .int 0 :: .null :: .int 0 :: .null :: .int 0 :: .int 0 :: .int 0 :: .null :: .null :: .null :: []))), (sw_in cT a_1 288 (fun _ => 0))] _ := ⟨hP, hD⟩
  refine lv_aload_n hx hb dX9_init_13 rfl (lv_at hl 0 rfl) ?_
  refine lv_iconst (v := 2) hx hb dX9_init_14 (by decide) ?_
  refine x_newa hx hb (ty := .boolean) rfl (htg _ wi_336) hK hP hD hS hA 2 3 rfl (2, .inl (fun _ => 0)) (fun _ => rfl) (by decide) (by decide) (by decide) (by decide) (by decide) dX9_init_15 (fun a_2 H hP hD hS => ?_)
  obtain ⟨hP, hD⟩ : PD D A [(h0, .inr (9, (.int 0 :: .ref a_1 :: .null :: .null :: .null :: .int 0 :: .int 0 :: .int 0 :: .int 0 :: .int 0 :: .int 0 :: .int 0 :: .int 0 :: .int 0 :: .int 0 :: .null :: .null :: .int 0 :: .int 0 :: .int 0 :: .null :: .null :: .null :: .int 0 :: .int 0 :: .int 0 :: .int 0 :: .int 0 :: .null :: .int 0 :: .null :: .int 0 :: .int 0 :: .int 0 :: .null :: .null :: .null :: []))), (sw_in cT a_1 288 (fun _ => 0)), (sw_bo cT a_2 2 (fun _ => 0))] _ := ⟨hP, hD⟩
  refine va_putF (D := D) (ci := 9) (v := .ref a_2) (ty := .array .boolean) (C := RX9) (T := TX9) (N := 37) hx hb htg gRX9 tyX9 tyX9_ok nmX9 hown hK hP hD hS 0 rfl rfl 2 (by decide) (htg _ wi_1152) (fun _ h9 => h9) rfl hnm rfl (by decide +kernel) rfl rfl (Nat.le_of_ble_eq_true rfl) dX9_init_17 (fun H locs hP hD hS => ?_)
  obtain ⟨hP, hD⟩ : PD D A [(h0, .inr (9, (.int 0 :: .ref a_1 :: .ref a_2 :: .null :: .null :: .int 0 :: .int 0 :: .int 0 :: .int 0 :: .int 0 :: .int 0 :: .int 0 :: .int 0 :: .int 0 :: .int 0 :: .null :: .null :: .int 0 :: .int 0 :: .int 0 :: .null :: .null :: .null :: .int 0 :: .int 0 :: .int 0 :: .int 0 :: .int 0 :: .null :: .int 0 :: .null :: .int 0 :: .int 0 :: .int 0 :: .null :: .null :: .null :: []))), (sw_in cT a_1 288 (fun _ => 0)), (sw_bo cT a_2 2 (fun _ => 0))] _ := ⟨hP, hD⟩
  refine lv_aload_n hx hb dX9_init_20 rfl (lv_at hl 0 rfl) ?_
  refine lv_sipush (v := 900) hx hb dX9_init_21 (by decide) ?_
  refine x_newa hx hb (ty := .int) rfl (htg _ wi_251) hK hP hD hS hA 900 0 rfl (900, .inl (fun _ => 0)) (fun _ => rfl) (by decide) (by decide) (by decide) (by decide) (by decide) dX9_init_24 (fun a_3 H hP hD hS => ?_)
  obtain ⟨hP, hD⟩ : PD D A [(h0, .inr (9, (.int 0 :: .ref a_1 :: .ref a_2 :: .null :: .null :: .int 0 :: .int 0 :: .int 0 :: .int 0 :: .int 0 :: .int 0 :: .int 0 :: .int 0 :: .int 0 :: .int 0 :: .null :: .null :: .int 0 :: .int 0 :: .int 0 :: .null :: .null :: .null :: .int 0 :: .int 0 :: .int 0 :: .int 0 :: .int 0 :: .null :: .int 0 :: .null :: .int 0 :: .int 0 :: .int 0 :: .null :: .null :: .null :: []))), (sw_in cT a_1 288 (fun _ => 0)), (sw_bo cT a_2 2 (fun _ => 0)), (sw_in cT a_3 900 (fun _ => 0))] _ := ⟨hP, hD⟩
  refine va_putF (D := D) (ci := 9) (v := .ref a_3) (ty := .array .int) (C := RX9) (T := TX9) (N := 37) hx hb htg gRX9 tyX9 tyX9_ok nmX9 hown hK hP hD hS 0 rfl rfl 3 (by decide) (htg _ wi_1153) (fun _ h9 => h9) rfl hnm rfl (by decide +kernel) rfl rfl (Nat.le_of_ble_eq_true rfl) dX9_init_26 (fun H locs hP hD hS => ?_)
  obtain ⟨hP, hD⟩ : PD D A [(h0, .inr (9, (.int 0 :: .ref a_1 :: .ref a_2 :: .ref a_3 :: .null :: .int 0 :: .int 0 :: .int 0 :: .int 0 :: .int 0 :: .int 0 :: .int 0 :: .int 0 :: .int 0 :: .int 0 :: .null :: .null :: .int 0 :: .int 0 :: .int 0 :: .null :: .null :: .null :: .int 0 :: .int 0 :: .int 0 :: .int 0 :: .int 0 :: .null :: .int 0 :: .null :: .int 0 :: .int 0 :: .int 0 :: .null :: .null :: .null :: []))), (sw_in cT a_1 288 (fun _ => 0)), (sw_bo cT a_2 2 (fun _ => 0)), (sw_in cT a_3 900 (fun _ => 0))] _ := ⟨hP, hD⟩
  refine lv_aload_n hx hb dX9_init_29 rfl (lv_at hl 0 rfl) ?_
  refine lv_bipush (v := 96) hx hb dX9_init_30 (by decide) ?_
  refine x_newa hx hb (ty := .int) rfl (htg _ wi_251) hK hP hD hS hA 96 0 rfl (96, .inl (fun _ => 0)) (fun _ => rfl) (by decide) (by decide) (by decide) (by decide) (by decide) dX9_init_32 (fun a_4 H hP hD hS => ?_)
  obtain ⟨hP, hD⟩ : PD D A [(h0, .inr (9, (.int 0 :: .ref a_1 :: .ref a_2 :: .ref a_3 :: .null :: .int 0 :: .int 0 :: .int 0 :: .int 0 :: .int 0 :: .int 0 :: .int 0 :: .int 0 :: .int 0 :: .int 0 :: .null :: .null :: .int 0 :: .int 0 :: .int 0 :: .null :: .null :: .null :: .int 0 :: .int 0 :: .int 0 :: .int 0 :: .int 0 :: .null :: .int 0 :: .null :: .int 0 :: .int 0 :: .int 0 :: .null :: .null :: .null :: []))), (sw_in cT a_1 288 (fun _ => 0)), (sw_bo cT a_2 2 (fun _ => 0)), (sw_in cT a_3 900 (fun _ => 0)), (sw_in cT a_4 96 (fun _ => 0))] _ := ⟨hP, hD⟩
  refine va_putF (D := D) (ci := 9) (v := .ref a_4) (ty := .array .int) (C := RX9) (T := TX9) (N := 37) hx hb htg gRX9 tyX9 tyX9_ok nmX9 hown hK hP hD hS 0 rfl rfl 4 (by decide) (htg _ wi_1154) (fun _ h9 => h9) rfl hnm rfl (by decide +kernel) rfl rfl (Nat.le_of_ble_eq_true rfl) dX9_init_34 (fun H locs hP hD hS => ?_)
  obtain ⟨hP, hD⟩ : PD D A [(h0, .inr (9, (.int 0 :: .ref a_1 :: .ref a_2 :: .ref a_3 :: .ref a_4 :: .int 0 :: .int 0 :: .int 0 :: .int 0 :: .int 0 :: .int 0 :: .int 0 :: .int 0 :: .int 0 :: .int 0 :: .null :: .null :: .int 0 :: .int 0 :: .int 0 :: .null :: .null :: .null :: .int 0 :: .int 0 :: .int 0 :: .int 0 :: .int 0 :: .null :: .int 0 :: .null :: .int 0 :: .int 0 :: .int 0 :: .null :: .null :: .null :: []))), (sw_in cT a_1 288 (fun _ => 0)), (sw_bo cT a_2 2 (fun _ => 0)), (sw_in cT a_3 900 (fun _ => 0)), (sw_in cT a_4 96 (fun _ => 0))] _ := ⟨hP, hD⟩
  refine lv_aload_n hx hb dX9_init_37 rfl (lv_at hl 0 rfl) ?_
  refine lv_iconst (v := (-1)) hx hb dX9_init_38 (by decide) ?_
  refine va_put (D := D) (ci := 9) (v := .int (-1)) (ty := .int) (C := RX9) (T := TX9) (N := 37) hx hb htg gRX9 tyX9 tyX9_ok nmX9 hown hK hP hD hS 0 rfl rfl 14 (by decide) (htg _ wi_1164) (fun _ h9 => h9) rfl (by decide +kernel) rfl rfl (Nat.le_of_ble_eq_true rfl) dX9_init_39 (fun H locs hP hD hS => ?_)
  obtain ⟨hP, hD⟩ : PD D A [(h0, .inr (9, (.int 0 :: .ref a_1 :: .ref a_2 :: .ref a_3 :: .ref a_4 :: .int 0 :: .int 0 :: .int 0 :: .int 0 :: .int 0 :: .int 0 :: .int 0 :: .int 0 :: .int 0 :: .int (-1) :: .null :: .null :: .int 0 :: .int 0 :: .int 0 :: .null :: .null :: .null :: .int 0 :: .int 0 :: .int 0 :: .int 0 :: .int 0 :: .null :: .int 0 :: .null :: .int 0 :: .int 0 :: .int 0 :: .null :: .null :: .null :: []))), (sw_in cT a_1 288 (fun _ => 0)), (sw_bo cT a_2 2 (fun _ => 0)), (sw_in cT a_3 900 (fun _ => 0)), (sw_in cT a_4 96 (fun _ => 0))] _ := ⟨hP, hD⟩
  refine lv_aload_n hx hb dX9_init_42 rfl (lv_at hl 0 rfl) ?_
  refine lv_bipush (v := 6) hx hb dX9_init_43 (by decide) ?_
  refine x_newa hx hb (ty := .int) rfl (htg _ wi_251) hK hP hD hS hA 6 0 rfl (6, .inl (fun _ => 0)) (fun _ => rfl) (by decide) (by decide) (by decide) (by decide) (by decide) dX9_init_45 (fun a_5 H hP hD hS => ?_)
  obtain ⟨hP, hD⟩ : PD D A [(h0, .inr (9, (.int 0 :: .ref a_1 :: .ref a_2 :: .ref a_3 :: .ref a_4 :: .int 0 :: .int 0 :: .int 0 :: .int 0 :: .int 0 :: .int 0 :: .int 0 :: .int 0 :: .int 0 :: .int (-1) :: .null :: .null :: .int 0 :: .int 0 :: .int 0 :: .null :: .null :: .null :: .int 0 :: .int 0 :: .int 0 :: .int 0 :: .int 0 :: .null :: .int 0 :: .null :: .int 0 :: .int 0 :: .int 0 :: .null :: .null :: .null :: []))), (sw_in cT a_1 288 (fun _ => 0)), (sw_bo cT a_2 2 (fun _ => 0)), (sw_in cT a_3 900 (fun _ => 0)), (sw_in cT a_4 96 (fun _ => 0)), (sw_in cT a_5 6 (fun _ => 0))] _ := ⟨hP, hD⟩
  refine va_putF (D := D) (ci := 9) (v := .ref a_5) (ty := .array .int) (C := RX9) (T := TX9) (N := 37) hx hb htg gRX9 tyX9 tyX9_ok nmX9 hown hK hP hD hS 0 rfl rfl 15 (by decide) (htg _ wi_1165) (fun _ h9 => h9) rfl hnm rfl (by decide +kernel) rfl rfl (Nat.le_of_ble_eq_true rfl) dX9_init_47 (fun H locs hP hD hS => ?_)
  obtain ⟨hP, hD⟩ : PD D A [(h0, .inr (9, (.int 0 :: .ref a_1 :: .ref a_2 :: .ref a_3 :: .ref a_4 :: .int 0 :: .int 0 :: .int 0 :: .int 0 :: .int 0 :: .int 0 :: .int 0 :: .int 0 :: .int 0 :: .int (-1) :: .ref a_5 :: .null :: .int 0 :: .int 0 :: .int 0 :: .null :: .null :: .null :: .int 0 :: .int 0 :: .int 0 :: .int 0 :: .int 0 :: .null :: .int 0 :: .null :: .int 0 :: .int 0 :: .int 0 :: .null :: .null :: .null :: []))), (sw_in cT a_1 288 (fun _ => 0)), (sw_bo cT a_2 2 (fun _ => 0)), (sw_in cT a_3 900 (fun _ => 0)), (sw_in cT a_4 96 (fun _ => 0)), (sw_in cT a_5 6 (fun _ => 0))] _ := ⟨hP, hD⟩
  refine lv_aload_n hx hb dX9_init_50 rfl (lv_at hl 0 rfl) ?_
  refine lv_sipush (v := 960) hx hb dX9_init_51 (by decide) ?_
  refine x_newa hx hb (ty := .int) rfl (htg _ wi_251) hK hP hD hS hA 960 0 rfl (960, .inl (fun _ => 0)) (fun _ => rfl) (by decide) (by decide) (by decide) (by decide) (by decide) dX9_init_54 (fun a_6 H hP hD hS => ?_)
  obtain ⟨hP, hD⟩ : PD D A [(h0, .inr (9, (.int 0 :: .ref a_1 :: .ref a_2 :: .ref a_3 :: .ref a_4 :: .int 0 :: .int 0 :: .int 0 :: .int 0 :: .int 0 :: .int 0 :: .int 0 :: .int 0 :: .int 0 :: .int (-1) :: .ref a_5 :: .null :: .int 0 :: .int 0 :: .int 0 :: .null :: .null :: .null :: .int 0 :: .int 0 :: .int 0 :: .int 0 :: .int 0 :: .null :: .int 0 :: .null :: .int 0 :: .int 0 :: .int 0 :: .null :: .null :: .null :: []))), (sw_in cT a_1 288 (fun _ => 0)), (sw_bo cT a_2 2 (fun _ => 0)), (sw_in cT a_3 900 (fun _ => 0)), (sw_in cT a_4 96 (fun _ => 0)), (sw_in cT a_5 6 (fun _ => 0)), (sw_in cT a_6 960 (fun _ => 0))] _ := ⟨hP, hD⟩
  refine va_putF (D := D) (ci := 9) (v := .ref a_6) (ty := .array .int) (C := RX9) (T := TX9) (N := 37) hx hb htg gRX9 tyX9 tyX9_ok nmX9 hown hK hP hD hS 0 rfl rfl 16 (by decide) (htg _ wi_1166) (fun _ h9 => h9) rfl hnm rfl (by decide +kernel) rfl rfl (Nat.le_of_ble_eq_true rfl) dX9_init_56 (fun H locs hP hD hS => ?_)
  obtain ⟨hP, hD⟩ : PD D A [(h0, .inr (9, (.int 0 :: .ref a_1 :: .ref a_2 :: .ref a_3 :: .ref a_4 :: .int 0 :: .int 0 :: .int 0 :: .int 0 :: .int 0 :: .int 0 :: .int 0 :: .int 0 :: .int 0 :: .int (-1) :: .ref a_5 :: .ref a_6 :: .int 0 :: .int 0 :: .int 0 :: .null :: .null :: .null :: .int 0 :: .int 0 :: .int 0 :: .int 0 :: .int 0 :: .null :: .int 0 :: .null :: .int 0 :: .int 0 :: .int 0 :: .null :: .null :: .null :: []))), (sw_in cT a_1 288 (fun _ => 0)), (sw_bo cT a_2 2 (fun _ => 0)), (sw_in cT a_3 900 (fun _ => 0)), (sw_in cT a_4 96 (fun _ => 0)), (sw_in cT a_5 6 (fun _ => 0)), (sw_in cT a_6 960 (fun _ => 0))] _ := ⟨hP, hD⟩
  refine lv_aload_n hx hb dX9_init_59 rfl (lv_at hl 0 rfl) ?_
  refine lv_bipush (v := 8) hx hb dX9_init_60 (by decide) ?_
  refine x_newa hx hb (ty := .int) rfl (htg _ wi_251) hK hP hD hS hA 8 0 rfl (8, .inl (fun _ => 0)) (fun _ => rfl) (by decide) (by decide) (by decide) (by decide) (by decide) dX9_init_62 (fun a_7 H hP hD hS => ?_)
  obtain ⟨hP, hD⟩ : PD D A [(h0, .inr (9, (.int 0 :: .ref a_1 :: .ref a_2 :: .ref a_3 :: .ref a_4 :: .int 0 :: .int 0 :: .int 0 :: .int 0 :: .int 0 :: .int 0 :: .int 0 :: .int 0 :: .int 0 :: .int (-1) :: .ref a_5 :: .ref a_6 :: .int 0 :: .int 0 :: .int 0 :: .null :: .null :: .null :: .int 0 :: .int 0 :: .int 0 :: .int 0 :: .int 0 :: .null :: .int 0 :: .null :: .int 0 :: .int 0 :: .int 0 :: .null :: .null :: .null :: []))), (sw_in cT a_1 288 (fun _ => 0)), (sw_bo cT a_2 2 (fun _ => 0)), (sw_in cT a_3 900 (fun _ => 0)), (sw_in cT a_4 96 (fun _ => 0)), (sw_in cT a_5 6 (fun _ => 0)), (sw_in cT a_6 960 (fun _ => 0)), (sw_in cT a_7 8 (fun _ => 0))] _ := ⟨hP, hD⟩
  refine va_putF (D := D) (ci := 9) (v := .ref a_7) (ty := .array .int) (C := RX9) (T := TX9) (N := 37) hx hb htg gRX9 tyX9 tyX9_ok nmX9 hown hK hP hD hS 0 rfl rfl 20 (by decide) (htg _ wi_1170) (fun _ h9 => h9) rfl hnm rfl (by decide +kernel) rfl rfl (Nat.le_of_ble_eq_true rfl) dX9_init_64 (fun H locs hP hD hS => ?_)
  obtain ⟨hP, hD⟩ : PD D A [(h0, .inr (9, (.int 0 :: .ref a_1 :: .ref a_2 :: .ref a_3 :: .ref a_4 :: .int 0 :: .int 0 :: .int 0 :: .int 0 :: .int 0 :: .int 0 :: .int 0 :: .int 0 :: .int 0 :: .int (-1) :: .ref a_5 :: .ref a_6 :: .int 0 :: .int 0 :: .int 0 :: .ref a_7 :: .null :: .null :: .int 0 :: .int 0 :: .int 0 :: .int 0 :: .int 0 :: .null :: .int 0 :: .null :: .int 0 :: .int 0 :: .int 0 :: .null :: .null :: .null :: []))), (sw_in cT a_1 288 (fun _ => 0)), (sw_bo cT a_2 2 (fun _ => 0)), (sw_in cT a_3 900 (fun _ => 0)), (sw_in cT a_4 96 (fun _ => 0)), (sw_in cT a_5 6 (fun _ => 0)), (sw_in cT a_6 960 (fun _ => 0)), (sw_in cT a_7 8 (fun _ => 0))] _ := ⟨hP, hD⟩
  refine lv_aload_n hx hb dX9_init_67 rfl (lv_at hl 0 rfl) ?_
  refine lv_bipush (v := 8) hx hb dX9_init_68 (by decide) ?_
  refine x_newa hx hb (ty := .int) rfl (htg _ wi_251) hK hP hD hS hA 8 0 rfl (8, .inl (fun _ => 0)) (fun _ => rfl) (by decide) (by decide) (by decide) (by decide) (by decide) dX9_init_70 (fun a_8 H hP hD hS => ?_)
  obtain ⟨hP, hD⟩ : PD D A [(h0, .inr (9, (.int 0 :: .ref a_1 :: .ref a_2 :: .ref a_3 :: .ref a_4 :: .int 0 :: .int 0 :: .int 0 :: .int 0 :: .int 0 :: .int 0 :: .int 0 :: .int 0 :: .int 0 :: .int (-1) :: .ref a_5 :: .ref a_6 :: .int 0 :: .int 0 :: .int 0 :: .ref a_7 :: .null :: .null :: .int 0 :: .int 0 :: .int 0 :: .int 0 :: .int 0 :: .null :: .int 0 :: .null :: .int 0 :: .int 0 :: .int 0 :: .null :: .null :: .null :: []))), (sw_in cT a_1 288 (fun _ => 0)), (sw_bo cT a_2 2 (fun _ => 0)), (sw_in cT a_3 900 (fun _ => 0)), (sw_in cT a_4 96 (fun _ => 0)), (sw_in cT a_5 6 (fun _ => 0)), (sw_in cT a_6 960 (fun _ => 0)), (sw_in cT a_7 8 (fun _ => 0)), (sw_in cT a_8 8 (fun _ => 0))] _ := ⟨hP, hD⟩
  refine va_putF (D := D) (ci := 9) (v := .ref a_8) (ty := .array .int) (C := RX9) (T := TX9) (N := 37) hx hb htg gRX9 tyX9 tyX9_ok nmX9 hown hK hP hD hS 0 rfl rfl 21 (by decide) (htg _ wi_1171) (fun _ h9 => h9) rfl hnm rfl (by decide +kernel) rfl rfl (Nat.le_of_ble_eq_true rfl) dX9_init_72 (fun H locs hP hD hS => ?_)
  obtain ⟨hP, hD⟩ : PD D A [(h0, .inr (9, (.int 0 :: .ref a_1 :: .ref a_2 :: .ref a_3 :: .ref a_4 :: .int 0 :: .int 0 :: .int 0 :: .int 0 :: .int 0 :: .int 0 :: .int 0 :: .int 0 :: .int 0 :: .int (-1) :: .ref a_5 :: .ref a_6 :: .int 0 :: .int 0 :: .int 0 :: .ref a_7 :: .ref a_8 :: .null :: .int 0 :: .int 0 :: .int 0 :: .int 0 :: .int 0 :: .null :: .int 0 :: .null :: .int 0 :: .int 0 :: .int 0 :: .null :: .null :: .null :: []))), (sw_in cT a_1 288 (fun _ => 0)), (sw_bo cT a_2 2 (fun _ => 0)), (sw_in cT a_3 900 (fun _ => 0)), (sw_in cT a_4 96 (fun _ => 0)), (sw_in cT a_5 6 (fun _ => 0)), (sw_in cT a_6 960 (fun _ => 0)), (sw_in cT a_7 8 (fun _ => 0)), (sw_in cT a_8 8 (fun _ => 0))] _ := ⟨hP, hD⟩
  refine lv_aload_n hx hb dX9_init_75 rfl (lv_at hl 0 rfl) ?_
  refine lv_bipush (v := 6) hx hb dX9_init_76 (by decide) ?_
  refine x_newa hx hb (ty := .int) rfl (htg _ wi_251) hK hP hD hS hA 6 0 rfl (6, .inl (fun _ => 0)) (fun _ => rfl) (by decide) (by decide) (by decide) (by decide) (by decide) dX9_init_78 (fun a_9 H hP hD hS => ?_)
  obtain ⟨hP, hD⟩ : PD D A [(h0, .inr (9, (.int 0 :: .ref a_1 :: .ref a_2 :: .ref a_3 :: .ref a_4 :: .int 0 :: .int 0 :: .int 0 :: .int 0 :: .int 0 :: .int 0 :: .int 0 :: .int 0 :: .int 0 :: .int (-1) :: .ref a_5 :: .ref a_6 :: .int 0 :: .int 0 :: .int 0 :: .ref a_7 :: .ref a_8 :: .null :: .int 0 :: .int 0 :: .int 0 :: .int 0 :: .int 0 :: .null :: .int 0 :: .null :: .int 0 :: .int 0 :: .int 0 :: .null :: .null :: .null :: []))), (sw_in cT a_1 288 (fun _ => 0)), (sw_bo cT a_2 2 (fun _ => 0)), (sw_in cT a_3 900 (fun _ => 0)), (sw_in cT a_4 96 (fun _ => 0)), (sw_in cT a_5 6 (fun _ => 0)), (sw_in cT a_6 960 (fun _ => 0)), (sw_in cT a_7 8 (fun _ => 0)), (sw_in cT a_8 8 (fun _ => 0)), (sw_in cT a_9 6 (fun _ => 0))] _ := ⟨hP, hD⟩
  refine va_putF (D := D) (ci := 9) (v := .ref a_9) (ty := .array .int) (C := RX9) (T := TX9) (N := 37) hx hb htg gRX9 tyX9 tyX9_ok nmX9 hown hK hP hD hS 0 rfl rfl 22 (by decide) (htg _ wi_1172) (fun _ h9 => h9) rfl hnm rfl (by decide +kernel) rfl rfl (Nat.le_of_ble_eq_true rfl) dX9_init_80 (fun H locs hP hD hS => ?_)
  obtain ⟨hP, hD⟩ : PD D A [(h0, .inr (9, (.int 0 :: .ref a_1 :: .ref a_2 :: .ref a_3 :: .ref a_4 :: .int 0 :: .int 0 :: .int 0 :: .int 0 :: .int 0 :: .int 0 :: .int 0 :: .int 0 :: .int 0 :: .int (-1) :: .ref a_5 :: .ref a_6 :: .int 0 :: .int 0 :: .int 0 :: .ref a_7 :: .ref a_8 :: .ref a_9 :: .int 0 :: .int 0 :: .int 0 :: .int 0 :: .int 0 :: .null :: .int 0 :: .null :: .int 0 :: .int 0 :: .int 0 :: .null :: .null :: .null :: []))), (sw_in cT a_1 288 (fun _ => 0)), (sw_bo cT a_2 2 (fun _ => 0)), (sw_in cT a_3 900 (fun _ => 0)), (sw_in cT a_4 96 (fun _ => 0)), (sw_in cT a_5 6 (fun _ => 0)), (sw_in cT a_6 960 (fun _ => 0)), (sw_in cT a_7 8 (fun _ => 0)), (sw_in cT a_8 8 (fun _ => 0)), (sw_in cT a_9 6 (fun _ => 0))] _ := ⟨hP, hD⟩
  refine lv_aload_n hx hb dX9_init_83 rfl (lv_at hl 0 rfl) ?_
  refine lv_sipush (v := 11664) hx hb dX9_init_84 (by decide) ?_
  refine x_newa hx hb (ty := .int) rfl (htg _ wi_251) hK hP hD hS hA 11664 0 rfl (11664, .inl (fun _ => 0)) (fun _ => rfl) (by decide) (by decide) (by decide) (by decide) (by decide) dX9_init_87 (fun a_10 H hP hD hS => ?_)
  obtain ⟨hP, hD⟩ : PD D A [(h0, .inr (9, (.int 0 :: .ref a_1 :: .ref a_2 :: .ref a_3 :: .ref a_4 :: .int 0 :: .int 0 :: .int 0 :: .int 0 :: .int 0 :: .int 0 :: .int 0 :: .int 0 :: .int 0 :: .int (-1) :: .ref a_5 :: .ref a_6 :: .int 0 :: .int 0 :: .int 0 :: .ref a_7 :: .ref a_8 :: .ref a_9 :: .int 0 :: .int 0 :: .int 0 :: .int 0 :: .int 0 :: .null :: .int 0 :: .null :: .int 0 :: .int 0 :: .int 0 :: .null :: .null :: .null :: []))), (sw_in cT a_1 288 (fun _ => 0)), (sw_bo cT a_2 2 (fun _ => 0)), (sw_in cT a_3 900 (fun _ => 0)), (sw_in cT a_4 96 (fun _ => 0)), (sw_in cT a_5 6 (fun _ => 0)), (sw_in cT a_6 960 (fun _ => 0)), (sw_in cT a_7 8 (fun _ => 0)), (sw_in cT a_8 8 (fun _ => 0)), (sw_in cT a_9 6 (fun _ => 0)), (sw_in cT a_10 11664 (fun _ => 0))] _ := ⟨hP, hD⟩
  refine va_putF (D := D) (ci := 9) (v := .ref a_10) (ty := .array .int) (C := RX9) (T := TX9) (N := 37) hx hb htg gRX9 tyX9 tyX9_ok nmX9 hown hK hP hD hS 0 rfl rfl 28 (by decide) (htg _ wi_1178) (fun _ h9 => h9) rfl hnm rfl (by decide +kernel) rfl rfl (Nat.le_of_ble_eq_true rfl) dX9_init_89 (fun H locs hP hD hS => ?_)
  obtain ⟨hP, hD⟩ : PD D A [(h0, .inr (9, (.int 0 :: .ref a_1 :: .ref a_2 :: .ref a_3 :: .ref a_4 :: .int 0 :: .int 0 :: .int 0 :: .int 0 :: .int 0 :: .int 0 :: .int 0 :: .int 0 :: .int 0 :: .int (-1) :: .ref a_5 :: .ref a_6 :: .int 0 :: .int 0 :: .int 0 :: .ref a_7 :: .ref a_8 :: .ref a_9 :: .int 0 :: .int 0 :: .int 0 :: .int 0 :: .int 0 :: .ref a_10 :: .int 0 :: .null :: .int 0 :: .int 0 :: .int 0 :: .null :: .null :: .null :: []))), (sw_in cT a_1 288 (fun _ => 0)), (sw_bo cT a_2 2 (fun _ => 0)), (sw_in cT a_3 900 (fun _ => 0)), (sw_in cT a_4 96 (fun _ => 0)), (sw_in cT a_5 6 (fun _ => 0)), (sw_in cT a_6 960 (fun _ => 0)), (sw_in cT a_7 8 (fun _ => 0)), (sw_in cT a_8 8 (fun _ => 0)), (sw_in cT a_9 6 (fun _ => 0)), (sw_in cT a_10 11664 (fun _ => 0))] _ := ⟨hP, hD⟩
  refine lv_aload_n hx hb dX9_init_92 rfl (lv_at hl 0 rfl) ?_
  refine lv_bipush (v := 16) hx hb dX9_init_93 (by decide) ?_
  refine x_newa hx hb (ty := .int) rfl (htg _ wi_251) hK hP hD hS hA 16 0 rfl (16, .inl (fun _ => 0)) (fun _ => rfl) (by decide) (by decide) (by decide) (by decide) (by decide) dX9_init_95 (fun a_11 H hP hD hS => ?_)
  obtain ⟨hP, hD⟩ : PD D A [(h0, .inr (9, (.int 0 :: .ref a_1 :: .ref a_2 :: .ref a_3 :: .ref a_4 :: .int 0 :: .int 0 :: .int 0 :: .int 0 :: .int 0 :: .int 0 :: .int 0 :: .int 0 :: .int 0 :: .int (-1) :: .ref a_5 :: .ref a_6 :: .int 0 :: .int 0 :: .int 0 :: .ref a_7 :: .ref a_8 :: .ref a_9 :: .int 0 :: .int 0 :: .int 0 :: .int 0 :: .int 0 :: .ref a_10 :: .int 0 :: .null :: .int 0 :: .int 0 :: .int 0 :: .null :: .null :: .null :: []))), (sw_in cT a_1 288 (fun _ => 0)), (sw_bo cT a_2 2 (fun _ => 0)), (sw_in cT a_3 900 (fun _ => 0)), (sw_in cT a_4 96 (fun _ => 0)), (sw_in cT a_5 6 (fun _ => 0)), (sw_in cT a_6 960 (fun _ => 0)), (sw_in cT a_7 8 (fun _ => 0)), (sw_in cT a_8 8 (fun _ => 0)), (sw_in cT a_9 6 (fun _ => 0)), (sw_in cT a_10 11664 (fun _ => 0)), (sw_in cT a_11 16 (fun _ => 0))] _ := ⟨hP, hD⟩
  refine va_putF (D := D) (ci := 9) (v := .ref a_11) (ty := .array .int) (C := RX9) (T := TX9) (N := 37) hx hb htg gRX9 tyX9 tyX9_ok nmX9 hown hK hP hD hS 0 rfl rfl 30 (by decide) (htg _ wi_1180) (fun _ h9 => h9) rfl hnm rfl (by decide +kernel) rfl rfl (Nat.le_of_ble_eq_true rfl) dX9_init_97 (fun H locs hP hD hS => ?_)
  obtain ⟨hP, hD⟩ : PD D A [(h0, .inr (9, (.int 0 :: .ref a_1 :: .ref a_2 :: .ref a_3 :: .ref a_4 :: .int 0 :: .int 0 :: .int 0 :: .int 0 :: .int 0 :: .int 0 :: .int 0 :: .int 0 :: .int 0 :: .int (-1) :: .ref a_5 :: .ref a_6 :: .int 0 :: .int 0 :: .int 0 :: .ref a_7 :: .ref a_8 :: .ref a_9 :: .int 0 :: .int 0 :: .int 0 :: .int 0 :: .int 0 :: .ref a_10 :: .int 0 :: .ref a_11 :: .int 0 :: .int 0 :: .int 0 :: .null :: .null :: .null :: []))), (sw_in cT a_1 288 (fun _ => 0)), (sw_bo cT a_2 2 (fun _ => 0)), (sw_in cT a_3 900 (fun _ => 0)), (sw_in cT a_4 96 (fun _ => 0)), (sw_in cT a_5 6 (fun _ => 0)), (sw_in cT a_6 960 (fun _ => 0)), (sw_in cT a_7 8 (fun _ => 0)), (sw_in cT a_8 8 (fun _ => 0)), (sw_in cT a_9 6 (fun _ => 0)), (sw_in cT a_10 11664 (fun _ => 0)), (sw_in cT a_11 16 (fun _ => 0))] _ := ⟨hP, hD⟩
  refine lv_aload_n hx hb dX9_init_100 rfl (lv_at hl 0 rfl) ?_
  refine lv_iconst (v := 4) hx hb dX9_init_101 (by decide) ?_
  refine x_newa hx hb (ty := .int) rfl (htg _ wi_251) hK hP hD hS hA 4 0 rfl (4, .inl (fun _ => 0)) (fun _ => rfl) (by decide) (by decide) (by decide) (by decide) (by decide) dX9_init_102 (fun a_12 H hP hD hS => ?_)
  obtain ⟨hP, hD⟩ : PD D A [(h0, .inr (9, (.int 0 :: .ref a_1 :: .ref a_2 :: .ref a_3 :: .ref a_4 :: .int 0 :: .int 0 :: .int 0 :: .int 0 :: .int 0 :: .int 0 :: .int 0 :: .int 0 :: .int 0 :: .int (-1) :: .ref a_5 :: .ref a_6 :: .int 0 :: .int 0 :: .int 0 :: .ref a_7 :: .ref a_8 :: .ref a_9 :: .int 0 :: .int 0 :: .int 0 :: .int 0 :: .int 0 :: .ref a_10 :: .int 0 :: .ref a_11 :: .int 0 :: .int 0 :: .int 0 :: .null :: .null :: .null :: []))), (sw_in cT a_1 288 (fun _ => 0)), (sw_bo cT a_2 2 (fun _ => 0)), (sw_in cT a_3 900 (fun _ => 0)), (sw_in cT a_4 96 (fun _ => 0)), (sw_in cT a_5 6 (fun _ => 0)), (sw_in cT a_6 960 (fun _ => 0)), (sw_in cT a_7 8 (fun _ => 0)), (sw_in cT a_8 8 (fun _ => 0)), (sw_in cT a_9 6 (fun _ => 0)), (sw_in cT a_10 11664 (fun _ => 0)), (sw_in cT a_11 16 (fun _ => 0)), (sw_in cT a_12 4 (fun _ => 0))] _ := ⟨hP, hD⟩
  refine lv_dup hx hb dX9_init_104 rfl ?_
  refine lv_iconst (v := 0) hx hb dX9_init_105 (by decide) ?_
  refine lv_iconst (v := (-1)) hx hb dX9_init_106 (by decide) ?_
  refine va_iast hx hb hK hP hD hS 12 0 rfl rfl (by unfold vp_in; decide) dX9_init_107 (fun H locs hP hD hS => ?_)
  obtain ⟨hP, hD⟩ : PD D A [(h0, .inr (9, (.int 0 :: .ref a_1 :: .ref a_2 :: .ref a_3 :: .ref a_4 :: .int 0 :: .int 0 :: .int 0 :: .int 0 :: .int 0 :: .int 0 :: .int 0 :: .int 0 :: .int 0 :: .int (-1) :: .ref a_5 :: .ref a_6 :: .int 0 :: .int 0 :: .int 0 :: .ref a_7 :: .ref a_8 :: .ref a_9 :: .int 0 :: .int 0 :: .int 0 :: .int 0 :: .int 0 :: .ref a_10 :: .int 0 :: .ref a_11 :: .int 0 :: .int 0 :: .int 0 :: .null :: .null :: .null :: []))), (sw_in cT a_1 288 (fun _ => 0)), (sw_bo cT a_2 2 (fun _ => 0)), (sw_in cT a_3 900 (fun _ => 0)), (sw_in cT a_4 96 (fun _ => 0)), (sw_in cT a_5 6 (fun _ => 0)), (sw_in cT a_6 960 (fun _ => 0)), (sw_in cT a_7 8 (fun _ => 0)), (sw_in cT a_8 8 (fun _ => 0)), (sw_in cT a_9 6 (fun _ => 0)), (sw_in cT a_10 11664 (fun _ => 0)), (sw_in cT a_11 16 (fun _ => 0)), (sw_in cT a_12 4 (upd (fun _ => 0) 0 ((-1))))] _ := ⟨hP, hD⟩
  refine lv_dup hx hb dX9_init_108 rfl ?_
  refine lv_iconst (v := 1) hx hb dX9_init_109 (by decide) ?_
  refine lv_iconst (v := (-1)) hx hb dX9_init_110 (by decide) ?_
  refine va_iast hx hb hK hP hD hS 12 0 rfl rfl (by unfold vp_in; decide) dX9_init_111 (fun H locs hP hD hS => ?_)
  obtain ⟨hP, hD⟩ : PD D A [(h0, .inr (9, (.int 0 :: .ref a_1 :: .ref a_2 :: .ref a_3 :: .ref a_4 :: .int 0 :: .int 0 :: .int 0 :: .int 0 :: .int 0 :: .int 0 :: .int 0 :: .int 0 :: .int 0 :: .int (-1) :: .ref a_5 :: .ref a_6 :: .int 0 :: .int 0 :: .int 0 :: .ref a_7 :: .ref a_8 :: .ref a_9 :: .int 0 :: .int 0 :: .int 0 :: .int 0 :: .int 0 :: .ref a_10 :: .int 0 :: .ref a_11 :: .int 0 :: .int 0 :: .int 0 :: .null :: .null :: .null :: []))), (sw_in cT a_1 288 (fun _ => 0)), (sw_bo cT a_2 2 (fun _ => 0)), (sw_in cT a_3 900 (fun _ => 0)), (sw_in cT a_4 96 (fun _ => 0)), (sw_in cT a_5 6 (fun _ => 0)), (sw_in cT a_6 960 (fun _ => 0)), (sw_in cT a_7 8 (fun _ => 0)), (sw_in cT a_8 8 (fun _ => 0)), (sw_in cT a_9 6 (fun _ => 0)), (sw_in cT a_10 11664 (fun _ => 0)), (sw_in cT a_11 16 (fun _ => 0)), (sw_in cT a_12 4 (upd (upd (fun _ => 0) 0 ((-1))) 1 ((-1))))] _ := ⟨hP, hD⟩
  refine lv_dup hx hb dX9_init_112 rfl ?_
  refine lv_iconst (v := 2) hx hb dX9_init_113 (by decide) ?_
  refine lv_iconst (v := (-1)) hx hb dX9_init_114 (by decide) ?_
  refine va_iast hx hb hK hP hD hS 12 0 rfl rfl (by unfold vp_in; decide) dX9_init_115 (fun H locs hP hD hS => ?_)
  obtain ⟨hP, hD⟩ : PD D A [(h0, .inr (9, (.int 0 :: .ref a_1 :: .ref a_2 :: .ref a_3 :: .ref a_4 :: .int 0 :: .int 0 :: .int 0 :: .int 0 :: .int 0 :: .int 0 :: .int 0 :: .int 0 :: .int 0 :: .int (-1) :: .ref a_5 :: .ref a_6 :: .int 0 :: .int 0 :: .int 0 :: .ref a_7 :: .ref a_8 :: .ref a_9 :: .int 0 :: .int 0 :: .int 0 :: .int 0 :: .int 0 :: .ref a_10 :: .int 0 :: .ref a_11 :: .int 0 :: .int 0 :: .int 0 :: .null :: .null :: .null :: []))), (sw_in cT a_1 288 (fun _ => 0)), (sw_bo cT a_2 2 (fun _ => 0)), (sw_in cT a_3 900 (fun _ => 0)), (sw_in cT a_4 96 (fun _ => 0)), (sw_in cT a_5 6 (fun _ => 0)), (sw_in cT a_6 960 (fun _ => 0)), (sw_in cT a_7 8 (fun _ => 0)), (sw_in cT a_8 8 (fun _ => 0)), (sw_in cT a_9 6 (fun _ => 0)), (sw_in cT a_10 11664 (fun _ => 0)), (sw_in cT a_11 16 (fun _ => 0)), (sw_in cT a_12 4 (upd (upd (upd (fun _ => 0) 0 ((-1))) 1 ((-1))) 2 ((-1))))] _ := ⟨hP, hD⟩
  refine lv_dup hx hb dX9_init_116 rfl ?_
  refine lv_iconst (v := 3) hx hb dX9_init_117 (by decide) ?_
  refine lv_iconst (v := (-1)) hx hb dX9_init_118 (by decide) ?_
  refine va_iast hx hb hK hP hD hS 12 0 rfl rfl (by unfold vp_in; decide) dX9_init_119 (fun H locs hP hD hS => ?_)
  obtain ⟨hP, hD⟩ : PD D A [(h0, .inr (9, (.int 0 :: .ref a_1 :: .ref a_2 :: .ref a_3 :: .ref a_4 :: .int 0 :: .int 0 :: .int 0 :: .int 0 :: .int 0 :: .int 0 :: .int 0 :: .int 0 :: .int 0 :: .int (-1) :: .ref a_5 :: .ref a_6 :: .int 0 :: .int 0 :: .int 0 :: .ref a_7 :: .ref a_8 :: .ref a_9 :: .int 0 :: .int 0 :: .int 0 :: .int 0 :: .int 0 :: .ref a_10 :: .int 0 :: .ref a_11 :: .int 0 :: .int 0 :: .int 0 :: .null :: .null :: .null :: []))), (sw_in cT a_1 288 (fun _ => 0)), (sw_bo cT a_2 2 (fun _ => 0)), (sw_in cT a_3 900 (fun _ => 0)), (sw_in cT a_4 96 (fun _ => 0)), (sw_in cT a_5 6 (fun _ => 0)), (sw_in cT a_6 960 (fun _ => 0)), (sw_in cT a_7 8 (fun _ => 0)), (sw_in cT a_8 8 (fun _ => 0)), (sw_in cT a_9 6 (fun _ => 0)), (sw_in cT a_10 11664 (fun _ => 0)), (sw_in cT a_11 16 (fun _ => 0)), (sw_in cT a_12 4 (upd (upd (upd (upd (fun _ => 0) 0 ((-1))) 1 ((-1))) 2 ((-1))) 3 ((-1))))] _ := ⟨hP, hD⟩
  refine va_putF (D := D) (ci := 9) (v := .ref a_12) (ty := .array .int) (C := RX9) (T := TX9) (N := 37) hx hb htg gRX9 tyX9 tyX9_ok nmX9 hown hK hP hD hS 0 rfl rfl 34 (by decide) (htg _ wi_1184) (fun _ h9 => h9) rfl hnm rfl (by decide +kernel) rfl rfl (Nat.le_of_ble_eq_true rfl) dX9_init_120 (fun H locs hP hD hS => ?_)
  obtain ⟨hP, hD⟩ : PD D A [(h0, .inr (9, (.int 0 :: .ref a_1 :: .ref a_2 :: .ref a_3 :: .ref a_4 :: .int 0 :: .int 0 :: .int 0 :: .int 0 :: .int 0 :: .int 0 :: .int 0 :: .int 0 :: .int 0 :: .int (-1) :: .ref a_5 :: .ref a_6 :: .int 0 :: .int 0 :: .int 0 :: .ref a_7 :: .ref a_8 :: .ref a_9 :: .int 0 :: .int 0 :: .int 0 :: .int 0 :: .int 0 :: .ref a_10 :: .int 0 :: .ref a_11 :: .int 0 :: .int 0 :: .int 0 :: .ref a_12 :: .null :: .null :: []))), (sw_in cT a_1 288 (fun _ => 0)), (sw_bo cT a_2 2 (fun _ => 0)), (sw_in cT a_3 900 (fun _ => 0)), (sw_in cT a_4 96 (fun _ => 0)), (sw_in cT a_5 6 (fun _ => 0)), (sw_in cT a_6 960 (fun _ => 0)), (sw_in cT a_7 8 (fun _ => 0)), (sw_in cT a_8 8 (fun _ => 0)), (sw_in cT a_9 6 (fun _ => 0)), (sw_in cT a_10 11664 (fun _ => 0)), (sw_in cT a_11 16 (fun _ => 0)), (sw_in cT a_12 4 (upd (upd (upd (upd (fun _ => 0) 0 ((-1))) 1 ((-1))) 2 ((-1))) 3 ((-1))))] _ := ⟨hP, hD⟩
  refine lv_aload_n hx hb dX9_init_123 rfl (lv_at hl 0 rfl) ?_
  refine lv_iconst (v := 4) hx hb dX9_init_124 (by decide) ?_
  refine x_newa hx hb (ty := .int) rfl (htg _ wi_251) hK hP hD hS hA 4 0 rfl (4, .inl (fun _ => 0)) (fun _ => rfl) (by decide) (by decide) (by decide) (by decide) (by decide) dX9_init_125 (fun a_13 H hP hD hS => ?_)
  obtain ⟨hP, hD⟩ : PD D A [(h0, .inr (9, (.int 0 :: .ref a_1 :: .ref a_2 :: .ref a_3 :: .ref a_4 :: .int 0 :: .int 0 :: .int 0 :: .int 0 :: .int 0 :: .int 0 :: .int 0 :: .int 0 :: .int 0 :: .int (-1) :: .ref a_5 :: .ref a_6 :: .int 0 :: .int 0 :: .int 0 :: .ref a_7 :: .ref a_8 :: .ref a_9 :: .int 0 :: .int 0 :: .int 0 :: .int 0 :: .int 0 :: .ref a_10 :: .int 0 :: .ref a_11 :: .int 0 :: .int 0 :: .int 0 :: .ref a_12 :: .null :: .null :: []))), (sw_in cT a_1 288 (fun _ => 0)), (sw_bo cT a_2 2 (fun _ => 0)), (sw_in cT a_3 900 (fun _ => 0)), (sw_in cT a_4 96 (fun _ => 0)), (sw_in cT a_5 6 (fun _ => 0)), (sw_in cT a_6 960 (fun _ => 0)), (sw_in cT a_7 8 (fun _ => 0)), (sw_in cT a_8 8 (fun _ => 0)), (sw_in cT a_9 6 (fun _ => 0)), (sw_in cT a_10 11664 (fun _ => 0)), (sw_in cT a_11 16 (fun _ => 0)), (sw_in cT a_12 4 (upd (upd (upd (upd (fun _ => 0) 0 ((-1))) 1 ((-1))) 2 ((-1))) 3 ((-1)))), (sw_in cT a_13 4 (fun _ => 0))] _ := ⟨hP, hD⟩
  refine va_putF (D := D) (ci := 9) (v := .ref a_13) (ty := .array .int) (C := RX9) (T := TX9) (N := 37) hx hb htg gRX9 tyX9 tyX9_ok nmX9 hown hK hP hD hS 0 rfl rfl 35 (by decide) (htg _ wi_1185) (fun _ h9 => h9) rfl hnm rfl (by decide +kernel) rfl rfl (Nat.le_of_ble_eq_true rfl) dX9_init_127 (fun H locs hP hD hS => ?_)
  obtain ⟨hP, hD⟩ : PD D A [(h0, .inr (9, (.int 0 :: .ref a_1 :: .ref a_2 :: .ref a_3 :: .ref a_4 :: .int 0 :: .int 0 :: .int 0 :: .int 0 :: .int 0 :: .int 0 :: .int 0 :: .int 0 :: .int 0 :: .int (-1) :: .ref a_5 :: .ref a_6 :: .int 0 :: .int 0 :: .int 0 :: .ref a_7 :: .ref a_8 :: .ref a_9 :: .int 0 :: .int 0 :: .int 0 :: .int 0 :: .int 0 :: .ref a_10 :: .int 0 :: .ref a_11 :: .int 0 :: .int 0 :: .int 0 :: .ref a_12 :: .ref a_13 :: .null :: []))), (sw_in cT a_1 288 (fun _ => 0)), (sw_bo cT a_2 2 (fun _ => 0)), (sw_in cT a_3 900 (fun _ => 0)), (sw_in cT a_4 96 (fun _ => 0)), (sw_in cT a_5 6 (fun _ => 0)), (sw_in cT a_6 960 (fun _ => 0)), (sw_in cT a_7 8 (fun _ => 0)), (sw_in cT a_8 8 (fun _ => 0)), (sw_in cT a_9 6 (fun _ => 0)), (sw_in cT a_10 11664 (fun _ => 0)), (sw_in cT a_11 16 (fun _ => 0)), (sw_in cT a_12 4 (upd (upd (upd (upd (fun _ => 0) 0 ((-1))) 1 ((-1))) 2 ((-1))) 3 ((-1)))), (sw_in cT a_13 4 (fun _ => 0))] _ := ⟨hP, hD⟩
  refine lv_aload_n hx hb dX9_init_130 rfl (lv_at hl 0 rfl) ?_
  refine lv_sipush (v := 160) hx hb dX9_init_131 (by decide) ?_
  refine x_newa hx hb (ty := .long) rfl (htg _ wi_337) hK hP hD hS hA 160 1 rfl (160, .inr (.inl (fun _ => 0))) (fun _ => rfl) (by decide) (by decide) (by decide) (by decide) (by decide) dX9_init_134 (fun a_14 H hP hD hS => ?_)
  obtain ⟨hP, hD⟩ : PD D A [(h0, .inr (9, (.int 0 :: .ref a_1 :: .ref a_2 :: .ref a_3 :: .ref a_4 :: .int 0 :: .int 0 :: .int 0 :: .int 0 :: .int 0 :: .int 0 :: .int 0 :: .int 0 :: .int 0 :: .int (-1) :: .ref a_5 :: .ref a_6 :: .int 0 :: .int 0 :: .int 0 :: .ref a_7 :: .ref a_8 :: .ref a_9 :: .int 0 :: .int 0 :: .int 0 :: .int 0 :: .int 0 :: .ref a_10 :: .int 0 :: .ref a_11 :: .int 0 :: .int 0 :: .int 0 :: .ref a_12 :: .ref a_13 :: .null :: []))), (sw_in cT a_1 288 (fun _ => 0)), (sw_bo cT a_2 2 (fun _ => 0)), (sw_in cT a_3 900 (fun _ => 0)), (sw_in cT a_4 96 (fun _ => 0)), (sw_in cT a_5 6 (fun _ => 0)), (sw_in cT a_6 960 (fun _ => 0)), (sw_in cT a_7 8 (fun _ => 0)), (sw_in cT a_8 8 (fun _ => 0)), (sw_in cT a_9 6 (fun _ => 0)), (sw_in cT a_10 11664 (fun _ => 0)), (sw_in cT a_11 16 (fun _ => 0)), (sw_in cT a_12 4 (upd (upd (upd (upd (fun _ => 0) 0 ((-1))) 1 ((-1))) 2 ((-1))) 3 ((-1)))), (sw_in cT a_13 4 (fun _ => 0)), (sw_lo cT a_14 160 (fun _ => 0))] _ := ⟨hP, hD⟩
  refine va_putF (D := D) (ci := 9) (v := .ref a_14) (ty := .array .long) (C := RX9) (T := TX9) (N := 37) hx hb htg gRX9 tyX9 tyX9_ok nmX9 hown hK hP hD hS 0 rfl rfl 36 (by decide) (htg _ wi_1186) (fun _ h9 => h9) rfl hnm rfl (by decide +kernel) rfl rfl (Nat.le_of_ble_eq_true rfl) dX9_init_136 (fun H locs hP hD hS => ?_)
  obtain ⟨hP, hD⟩ : PD D A [(h0, .inr (9, (.int 0 :: .ref a_1 :: .ref a_2 :: .ref a_3 :: .ref a_4 :: .int 0 :: .int 0 :: .int 0 :: .int 0 :: .int 0 :: .int 0 :: .int 0 :: .int 0 :: .int 0 :: .int (-1) :: .ref a_5 :: .ref a_6 :: .int 0 :: .int 0 :: .int 0 :: .ref a_7 :: .ref a_8 :: .ref a_9 :: .int 0 :: .int 0 :: .int 0 :: .int 0 :: .int 0 :: .ref a_10 :: .int 0 :: .ref a_11 :: .int 0 :: .int 0 :: .int 0 :: .ref a_12 :: .ref a_13 :: .ref a_14 :: []))), (sw_in cT a_1 288 (fun _ => 0)), (sw_bo cT a_2 2 (fun _ => 0)), (sw_in cT a_3 900 (fun _ => 0)), (sw_in cT a_4 96 (fun _ => 0)), (sw_in cT a_5 6 (fun _ => 0)), (sw_in cT a_6 960 (fun _ => 0)), (sw_in cT a_7 8 (fun _ => 0)), (sw_in cT a_8 8 (fun _ => 0)), (sw_in cT a_9 6 (fun _ => 0)), (sw_in cT a_10 11664 (fun _ => 0)), (sw_in cT a_11 16 (fun _ => 0)), (sw_in cT a_12 4 (upd (upd (upd (upd (fun _ => 0) 0 ((-1))) 1 ((-1))) 2 ((-1))) 3 ((-1)))), (sw_in cT a_13 4 (fun _ => 0)), (sw_lo cT a_14 160 (fun _ => 0))] _ := ⟨hP, hD⟩
  refine lv_aload_n hx hb dX9_init_139 rfl (lv_at hl 0 rfl) ?_
  refine va_get (D := D) (ci := 9) (v := .ref a_1) (C := RX9) (T := TX9) (N := 37) hx hb htg gRX9 hown hK hP 0 rfl rfl 1 (by decide) (htg _ wi_1151) (fun _ h9 => h9) rfl dX9_init_140 ?_
  refine xk_v (wr := [(h0, .inr (9, (.int 0 :: .ref a_1 :: .ref a_2 :: .ref a_3 :: .ref a_4 :: .int 0 :: .int 0 :: .int 0 :: .int 0 :: .int 0 :: .int 0 :: .int 0 :: .int 0 :: .int 0 :: .int (-1) :: .ref a_5 :: .ref a_6 :: .int 0 :: .int 0 :: .int 0 :: .ref a_7 :: .ref a_8 :: .ref a_9 :: .int 0 :: .int 0 :: .int 0 :: .int 0 :: .int 0 :: .ref a_10 :: .int 0 :: .ref a_11 :: .int 0 :: .int 0 :: .int 0 :: .ref a_12 :: .ref a_13 :: .ref a_14 :: []))), (sw_bo cT a_2 2 (fun _ => 0)), (sw_in cT a_3 900 (fun _ => 0)), (sw_in cT a_4 96 (fun _ => 0)), (sw_in cT a_5 6 (fun _ => 0)), (sw_in cT a_6 960 (fun _ => 0)), (sw_in cT a_7 8 (fun _ => 0)), (sw_in cT a_8 8 (fun _ => 0)), (sw_in cT a_9 6 (fun _ => 0)), (sw_in cT a_10 11664 (fun _ => 0)), (sw_in cT a_11 16 (fun _ => 0)), (sw_in cT a_12 4 (upd (upd (upd (upd (fun _ => 0) 0 ((-1))) 1 ((-1))) 2 ((-1))) 3 ((-1)))), (sw_in cT a_13 4 (fun _ => 0)), (sw_lo cT a_14 160 (fun _ => 0))]) (xr_S (n := 1) (As := [.ref a_1]) (rest := []) ⟨hx, hb, hml, hown, htg⟩ hK hN hP hD hS hA [1] rfl (by decide) (m_plainIn288R l D cT _ (a_1) (fun _ => 0) (by first | assumption | decide | omega | (simp only [ti_0, ti_1, ti_2, ti_3, ti_4, ti_5, ti_6, ti_7, ti_8, ti_9, ti_10, ti_11, ti_12, ti_m1]; omega))) wi_1144 wi_1145 wi_131 wi_1146 ⟨rfl, by decide +kernel⟩ ⟨Nat.le_of_ble_eq_true rfl, Nat.le_of_ble_eq_true rfl⟩ rfl hl.1 rfl (Nat.le_of_ble_eq_true rfl) dX9_init_143 ⟨Nat.le_of_ble_eq_true rfl, Nat.le_of_ble_eq_true rfl⟩) hP hD hS hA [1] [0, 2, 3, 4, 5, 6, 7, 8, 9, 10, 11, 12, 13, 14] rfl rfl (by decide) (by decide) (fun u_15 H locs hwr_16 hP hD hS => ?_)
  obtain ⟨hP, hD⟩ : PD D A [(h0, .inr (9, (.int 0 :: .ref a_1 :: .ref a_2 :: .ref a_3 :: .ref a_4 :: .int 0 :: .int 0 :: .int 0 :: .int 0 :: .int 0 :: .int 0 :: .int 0 :: .int 0 :: .int 0 :: .int (-1) :: .ref a_5 :: .ref a_6 :: .int 0 :: .int 0 :: .int 0 :: .ref a_7 :: .ref a_8 :: .ref a_9 :: .int 0 :: .int 0 :: .int 0 :: .int 0 :: .int 0 :: .ref a_10 :: .int 0 :: .ref a_11 :: .int 0 :: .int 0 :: .int 0 :: .ref a_12 :: .ref a_13 :: .ref a_14 :: []))), (sw_bo cT a_2 2 (fun _ => 0)), (sw_in cT a_3 900 (fun _ => 0)), (sw_in cT a_4 96 (fun _ => 0)), (sw_in cT a_5 6 (fun _ => 0)), (sw_in cT a_6 960 (fun _ => 0)), (sw_in cT a_7 8 (fun _ => 0)), (sw_in cT a_8 8 (fun _ => 0)), (sw_in cT a_9 6 (fun _ => 0)), (sw_in cT a_10 11664 (fun _ => 0)), (sw_in cT a_11 16 (fun _ => 0)), (sw_in cT a_12 4 (upd (upd (upd (upd (fun _ => 0) 0 ((-1))) 1 ((-1))) 2 ((-1))) 3 ((-1)))), (sw_in cT a_13 4 (fun _ => 0)), (sw_lo cT a_14 160 (fun _ => 0)), (sw_in cT a_1 288 u_15)] _ := ⟨hP, hD⟩
  have qr_16_0 : PI 288 u_15 := hwr_16.1
  have qr_16_1 : PLm plain0 u_15 := hwr_16.2.1
  exact x_vret hx hb hr hlk hP hD hS [0, 14, 1, 2, 3, 4, 5, 6, 7, 8, 9, 10, 11, 12, 13] ((fun k => [a_1, a_2, a_3, a_4, a_5, a_6, a_7, a_8, a_9, a_10, a_11, a_12, a_13, a_14].getD k 0, u_15, upd (upd (upd (upd (fun _ => 0) 0 ((-1))) 1 ((-1))) 2 ((-1))) 3 ((-1)))) rfl (by decide) ⟨(by (try dsimp only); assumption), (by (try dsimp only); exact ⟨by decide, by decide, by decide, by decide⟩), (by (try dsimp only); assumption), trivial⟩ (by decide) (by decide) dX9_init_146
