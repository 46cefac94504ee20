set_option maxHeartbeats 4000000 in
set_option maxRecDepth 100000 in
theorem m_keyAtR (l : Launch) (D : va_G) (cT : Nat → ClassId) (sz : Nat) (h0 : Nat) (g : Nat → Nat) (b0 : Int32) (b5 : Int32) (b6 : Int32) (b7 : Int32) (b8 : Int32) (b9 : Int32) (b10 : Int32) (b11 : Int32) (b12 : Int32) (b13 : Int32) (b14 : Int32) (b17 : Int32) (b18 : Int32) (b19 : Int32) (b23 : Int32) (b24 : Int32) (b25 : Int32) (b26 : Int32) (b27 : Int32) (b29 : Int32) (b31 : Int32) (b32 : Int32) (b33 : Int32) (hb5 : 0 ≤ b5.toInt ∧ b5.toInt ≤ 900) (a2 : Nat → Int32) (hb8 : 0 ≤ b8.toInt ∧ b8.toInt ≤ 900) (hb7 : 0 ≤ b7.toInt ∧ b7.toInt ≤ b8.toInt) (hb6 : 0 ≤ b6.toInt ∧ b6.toInt ≤ b7.toInt) (tx : Nat → Int) (hT : TXc tx b8.toInt a2) : Met l yX9_keyAt (wsc yX9_keyAt cX9_keyAt 4 (some .int)) { frames := 6, cells := 0, slots := 0, locals := 185 } (va_Pc [.ref h0] (PX D cT sz [(sw_9 h0 g b0 b5 b6 b7 b8 b9 b10 b11 b12 b13 b14 b17 b18 b19 b23 b24 b25 b26 b27 b29 b31 b32 b33), (sw_in cT (g 2) 900 a2)])) (va_Qi (fun (r : Int32) (u : Unit) => (r.toInt = keyF tx b6.toInt b7.toInt) ∧ (True)) (fun u t => RW D (va_A [(sw_9 h0 g b0 b5 b6 b7 b8 b9 b10 b11 b12 b13 b14 b17 b18 b19 b23 b24 b25 b26 b27 b29 b31 b32 b33), (sw_in cT (g 2) 900 a2)] sz) ((fun _ : Unit => [(sw_9 h0 g b0 b5 b6 b7 b8 b9 b10 b11 b12 b13 b14 b17 b18 b19 b23 b24 b25 b26 b27 b29 b31 b32 b33), (sw_in cT (g 2) 900 a2)]) u) t) (va_A [(sw_9 h0 g b0 b5 b6 b7 b8 b9 b10 b11 b12 b13 b14 b17 b18 b19 b23 b24 b25 b26 b27 b29 b31 b32 b33), (sw_in cT (g 2) 900 a2)] sz)) 0 0 (va_A [(sw_9 h0 g b0 b5 b6 b7 b8 b9 b10 b11 b12 b13 b14 b17 b18 b19 b23 b24 b25 b26 b27 b29 b31 b32 b33), (sw_in cT (g 2) 900 a2)] sz) := by
  refine m_of (y := yX9_keyAt) (cc := cX9_keyAt) (nL := 4) (ret := (some .int)) (D := D) (cT := cT) (av := [.ref h0]) (wi := [(sw_9 h0 g b0 b5 b6 b7 b8 b9 b10 b11 b12 b13 b14 b17 b18 b19 b23 b24 b25 b26 b27 b29 b31 b32 b33), (sw_in cT (g 2) 900 a2)]) (fun A => va_Qi (fun (r : Int32) (u : Unit) => (r.toInt = keyF tx b6.toInt b7.toInt) ∧ (True)) (fun u t => RW D A ((fun _ : Unit => [(sw_9 h0 g b0 b5 b6 b7 b8 b9 b10 b11 b12 b13 b14 b17 b18 b19 b23 b24 b25 b26 b27 b29 b31 b32 b33), (sw_in cT (g 2) 900 a2)]) u) t) A) (by decide) (Nat.le_of_ble_eq_true rfl) ?_
  intro p e s m below meth c A hx hb hml hown htg hK hN hr hlk hnm hsz hP hD hS hA ls hl
  have hown : s.vm.findClass RX9 = some m.cls := hown
  have hl : lv_has ls 4 [(0, .ref h0)] := hl
  have tc_0 : (0 : Int32).toInt = 0 := by decide
  have tc_1 : (1 : Int32).toInt = 1 := by decide
  have tc_13 : (13 : Int32).toInt = 13 := by decide
  have tc_32 : (32 : Int32).toInt = 32 := by decide
  have h71 : strL.getD 13 0 = 71 := rfl
  refine lv_iconst (v := 0) hx hb dX9_keyAt_0 (by decide) ?_
  refine lv_istore_n (lv' := [(1, .int 0), (0, .ref h0)]) hx hb dX9_keyAt_1 rfl hl (by decide) rfl (fun ls hl => ?_)
  refine lv_iconst (v := 1) hx hb dX9_keyAt_2 (by decide) ?_
  refine lv_istore_n (lv' := [(2, .int 1), (1, .int 0), (0, .ref h0)]) hx hb dX9_keyAt_3 rfl hl (by decide) rfl (fun ls hl => ?_)
  have h4a : (1 : Int32).toInt = ((kpos (0 : Int32).toInt.toNat : Nat) : Int) := by decide
  have h4b : ∀ i : Nat, (i : Int) < (0 : Int32).toInt → ¬ mtK tx b6.toInt b7.toInt i = true := fun i h => absurd h (by rw [tc_0]; omega)
  refine (fun (key : ∀ (n9_4 : Nat) (k9_4 : Int32) (x9_4_1 : Int32) (H : Heap) (locs : List Loc) (ls : Array Slot), (1 ≤ k9_4.toInt ∧ k9_4.toInt ≤ 71) → 71 < k9_4.toInt + n9_4 → k9_4.toInt = ((kpos x9_4_1.toInt.toNat : Nat) : Int) → (∀ i : Nat, (i : Int) < x9_4_1.toInt → ¬ mtK tx b6.toInt b7.toInt i = true) → (0 ≤ x9_4_1.toInt ∧ x9_4_1.toInt ≤ 13) → PD D A [(sw_9 h0 g b0 b5 b6 b7 b8 b9 b10 b11 b12 b13 b14 b17 b18 b19 b23 b24 b25 b26 b27 b29 b31 b32 b33), (sw_in cT (g 2) 900 a2)] H → va_S A s.heap H locs → lv_has ls 4 [(2, .int k9_4), (1, .int x9_4_1), (0, .ref h0)] → W p l e _ s m _ below meth c H locs _ _ _ (F0 m 4 ls [])) => key (Int.toNat (71 - 1) + 1) (1) _ _ _ _ (by omega) (by omega) (by first | assumption | omega | decide | (simp only [ti_0, ti_1, ti_2, ti_3, ti_4, ti_5, ti_6, ti_7, ti_8, ti_9, ti_10, ti_11, ti_12, ti_m1]; omega)) (by first | assumption | omega | decide | (simp only [ti_0, ti_1, ti_2, ti_3, ti_4, ti_5, ti_6, ti_7, ti_8, ti_9, ti_10, ti_11, ti_12, ti_m1]; omega)) (by first | assumption | omega | decide | (simp only [ti_0, ti_1, ti_2, ti_3, ti_4, ti_5, ti_6, ti_7, ti_8, ti_9, ti_10, ti_11, ti_12, ti_m1]; omega)) ⟨hP, hD⟩ hS (lv_sub hl [0, 1, 2] rfl)) ?_
  intro n9_4
  induction n9_4 with
  | zero => intro k9_4 x9_4_1 H locs ls hq1 hq2; exact absurd hq2 (by omega)
  | succ n9_4 ih_4 =>
    intro k9_4 x9_4_1 H locs ls hq1_4 hq2_4 h9_4_0 h9_4_1 h9_4_2 hPD hS hl
    obtain ⟨hP, hD⟩ := hPD
    refine lv_iload_n hx hb dX9_keyAt_4 rfl (lv_at hl 0 rfl) ?_
    refine va_ldcS (q := cT (10 + 13)) hx hb hown (hN.2.2.2.1 13 (by decide)) dX9_keyAt_5 ?_
    refine xk_i (wr := [(sw_9 h0 g b0 b5 b6 b7 b8 b9 b10 b11 b12 b13 b14 b17 b18 b19 b23 b24 b25 b26 b27 b29 b31 b32 b33), (sw_in cT (g 2) 900 a2)]) (xr_VS (n := 0) (As := []) (rest := [.int k9_4]) ⟨hx, hb, hml, hown, htg⟩ hK hN hP hD hS hA [] rfl (by decide) (g_s_length l D cT _ (13) (by first | assumption | omega | decide | exact Or.inl (by decide) | (intro h9; exact absurd h9 (by decide)) | (intro _; omega) | (intro _; assumption) | (intro _; decide))) wi_1289 wi_559 wi_560 wi_134 wi_561 (vk_recv (i := 13) (adK := fun i => cT (10 + i)) (adV := fun i => cT (40 + i)) hN.2.2.2.2.1 (by decide) hS) ⟨rfl, by decide +kernel⟩ ⟨Nat.le_of_ble_eq_true rfl, Nat.le_of_ble_eq_true rfl⟩ rfl hl.1 rfl (Nat.le_of_ble_eq_true rfl) dX9_keyAt_7 ⟨Nat.le_of_ble_eq_true rfl, Nat.le_of_ble_eq_true rfl⟩) hP hD hS hA [] [0, 1] rfl rfl (by decide) (by decide) (fun r_2 u_1 H locs hwr_2 hP hD hS => ?_)
    obtain ⟨hP, hD⟩ : PD D A [(sw_9 h0 g b0 b5 b6 b7 b8 b9 b10 b11 b12 b13 b14 b17 b18 b19 b23 b24 b25 b26 b27 b29 b31 b32 b33), (sw_in cT (g 2) 900 a2)] _ := ⟨hP, hD⟩
    have hwr_2 : r_2 = nI (strL.getD 13 0) := hwr_2
    subst hwr_2
    have hsl_13 : (nI (strL.getD 13 0)).toInt = ((strL.getD 13 0 : Nat) : Int) := nI_toInt (by have h7 := strL_le 13 (by decide); omega)
    refine lv_icmp_ge (tgt := 123) hx hb dX9_keyAt_10 (by decide) (fun c_3 => ?_) (fun c_3 => ?_)
    · have ic_3 : ((strL.getD 13 0 : Nat) : Int) ≤ k9_4.toInt := ile c_3 (nI_toInt (by omega)) (rfl)
      refine lv_bipush (v := 13) hx hb dX9_keyAt_123 (by decide) ?_
      exact x_iret hx hb hr hlk hP hD hS [0, 1] (()) rfl (by decide) ⟨(by rw [keyF_no (fun i hi => h9_4_1 i (by have h2 := h9_4_0; rcases (show x9_4_1.toInt = 13 ∨ x9_4_1.toInt.toNat < 13 from by omega) with h | h; omega; have h3 := keys_sp x9_4_1.toInt.toNat h; omega))]; decide), trivial⟩ (by decide) (by decide) dX9_keyAt_125
    · have ic_3 : k9_4.toInt < ((strL.getD 13 0 : Nat) : Int) := inle c_3 (nI_toInt (by omega)) (rfl)
      have h13 : x9_4_1.toInt < 13 := by rcases (show x9_4_1.toInt < 13 ∨ x9_4_1.toInt.toNat = 13 from by omega) with h | h; exact h; exfalso; have h2 := h9_4_0; rw [h, kpos_13.1] at h2; omega
      have hn13 : x9_4_1.toInt.toNat < 13 := by omega
      have hsp := keys_sp x9_4_1.toInt.toNat hn13
      refine lv_iconst (v := 0) hx hb dX9_keyAt_13 (by decide) ?_
      refine lv_istore_n (lv' := [(3, .int 0), (2, .int k9_4), (1, .int x9_4_1), (0, .ref h0)]) hx hb dX9_keyAt_14 rfl hl (by decide) rfl (fun ls hl => ?_)
      have hin : ∀ j : Nat, j < 0 → b6.toInt + (j : Int) < b7.toInt ∧ tx (b6.toInt + (j : Int)).toNat = chK x9_4_1.toInt.toNat j := fun j h => absurd h (by omega)
      refine (fun (key : ∀ (n9_15 : Nat) (k9_15 : Nat)  (H : Heap) (locs : List Loc) (ls : Array Slot), (k9_15 : Int) ≤ 70 - k9_4.toInt → 70 - k9_4.toInt < (k9_15 : Int) + n9_15 → (k9_15 : Int) ≤ ((strL.getD x9_4_1.toInt.toNat 0 : Nat) : Int) → (∀ j : Nat, j < k9_15 → b6.toInt + (j : Int) < b7.toInt ∧ tx (b6.toInt + (j : Int)).toNat = chK x9_4_1.toInt.toNat j) → PD D A [(sw_9 h0 g b0 b5 b6 b7 b8 b9 b10 b11 b12 b13 b14 b17 b18 b19 b23 b24 b25 b26 b27 b29 b31 b32 b33), (sw_in cT (g 2) 900 a2)] H → va_S A s.heap H locs → lv_has ls 4 [(3, .int (nI k9_15)), (2, .int k9_4), (1, .int x9_4_1), (0, .ref h0)] → W p l e _ s m _ below meth c H locs _ _ _ (F0 m 15 ls [])) => key (Int.toNat (70 - k9_4.toInt - 0) + 1) 0  _ _ _ (by omega) (by omega) (by first | assumption | omega | decide | (simp only [ti_0, ti_1, ti_2, ti_3, ti_4, ti_5, ti_6, ti_7, ti_8, ti_9, ti_10, ti_11, ti_12, ti_m1]; omega)) (by first | assumption | omega | decide | (simp only [ti_0, ti_1, ti_2, ti_3, ti_4, ti_5, ti_6, ti_7, ti_8, ti_9, ti_10, ti_11, ti_12, ti_m1]; omega)) ⟨hP, hD⟩ hS (lv_sub hl [0, 1, 2, 3] rfl)) ?_
      intro n9_15
      induction n9_15 with
      | zero => intro k9_15  H locs ls hq1 hq2; exact absurd hq2 (by omega)
      | succ n9_15 ih_15 =>
        intro k9_15  H locs ls hq1_15 hq2_15 h9_15_0 h9_15_1 hPD hS hl
        obtain ⟨hP, hD⟩ := hPD
        have hk9_15 : (nI k9_15).toInt = (k9_15 : Int) := nI_toInt (by omega)
        refine va_ldcS (q := cT (10 + 13)) hx hb hown (hN.2.2.2.1 13 (by decide)) dX9_keyAt_15 ?_
        refine lv_iload_n hx hb dX9_keyAt_17 rfl (lv_at hl 1 rfl) ?_
        refine lv_iload_n hx hb dX9_keyAt_18 rfl (lv_at hl 0 rfl) ?_
        refine lv_iadd hx hb dX9_keyAt_19 ?_
        refine lv_topi (fun z_4 ez_4 => ?_)
        have iz_4 : z_4.toInt = k9_4.toInt + ((k9_15 : Nat) : Int) := toInt_addI ez_4 (rfl) (nI_toInt (by omega)) (by omega)
        refine xk_i (wr := [(sw_9 h0 g b0 b5 b6 b7 b8 b9 b10 b11 b12 b13 b14 b17 b18 b19 b23 b24 b25 b26 b27 b29 b31 b32 b33), (sw_in cT (g 2) 900 a2)]) (xr_VS (n := 1) (As := [.int z_4]) (rest := []) ⟨hx, hb, hml, hown, htg⟩ hK hN hP hD hS hA [] rfl (by decide) (g_s_charAtX l D cT _ (13) (by first | assumption | omega | decide | exact Or.inl (by decide) | (intro h9; exact absurd h9 (by decide)) | (intro _; omega) | (intro _; assumption) | (intro _; decide)) (z_4) (by first | assumption | omega | decide | exact Or.inl (by decide) | (intro h9; exact absurd h9 (by decide)) | (intro _; omega) | (intro _; assumption) | (intro _; decide)) (by first | assumption | omega | decide | exact Or.inl (by decide) | (intro h9; exact absurd h9 (by decide)) | (intro _; omega) | (intro _; assumption) | (intro _; decide))) wi_1290 wi_569 wi_570 wi_134 wi_571 (vk_recv (i := 13) (adK := fun i => cT (10 + i)) (adV := fun i => cT (40 + i)) hN.2.2.2.2.1 (by decide) hS) ⟨rfl, by decide +kernel⟩ ⟨Nat.le_of_ble_eq_true rfl, Nat.le_of_ble_eq_true rfl⟩ rfl hl.1 rfl (Nat.le_of_ble_eq_true rfl) dX9_keyAt_20 ⟨Nat.le_of_ble_eq_true rfl, Nat.le_of_ble_eq_true rfl⟩) hP hD hS hA [] [0, 1] rfl rfl (by decide) (by decide) (fun r_6 u_5 H locs hwr_6 hP hD hS => ?_)
        obtain ⟨hP, hD⟩ : PD D A [(sw_9 h0 g b0 b5 b6 b7 b8 b9 b10 b11 b12 b13 b14 b17 b18 b19 b23 b24 b25 b26 b27 b29 b31 b32 b33), (sw_in cT (g 2) 900 a2)] _ := ⟨hP, hD⟩
        have qr_6_0 : narrow .char (.int r_6) = .int r_6 := hwr_6.1
        have qr_6_1 : r_6.toInt = ((strB.getD 13 []).getD z_4.toInt.toNat 0).toInt := hwr_6.2.1
        have hcar_6 : ((k9_15 : Int) < ((strL.getD x9_4_1.toInt.toNat 0 : Nat) : Int) ∧ r_6.toInt = chK x9_4_1.toInt.toNat ((k9_15 : Int)).toNat ∧ ¬ r_6.toInt = 32) ∨ ((k9_15 : Int) = ((strL.getD x9_4_1.toInt.toNat 0 : Nat) : Int) ∧ r_6.toInt = 32) := by
          rcases (show (k9_15 : Int) < ((strL.getD x9_4_1.toInt.toNat 0 : Nat) : Int) ∨ (k9_15 : Int) = ((strL.getD x9_4_1.toInt.toNat 0 : Nat) : Int) from by omega) with h | h
          · have h1 := keys_ch x9_4_1.toInt.toNat hn13 ((k9_15 : Int)).toNat (by omega); rw [show kpos x9_4_1.toInt.toNat + ((k9_15 : Int)).toNat = z_4.toInt.toNat from by omega] at h1; have h3 : r_6.toInt = chK x9_4_1.toInt.toNat ((k9_15 : Int)).toNat := qr_6_1.trans h1.1; exact Or.inl ⟨h, h3, by omega⟩
          · have h1 := hsp.1; rw [show kpos x9_4_1.toInt.toNat + strL.getD x9_4_1.toInt.toNat 0 = z_4.toInt.toNat from by omega] at h1; exact Or.inr ⟨h, qr_6_1.trans h1⟩
        have hcnr_6 : ((k9_15 : Int)).toNat = k9_15 := by omega
        rw [hcnr_6] at hcar_6
        refine lv_bipush (v := 32) hx hb dX9_keyAt_23 (by decide) ?_
        refine lv_icmp_eq (tgt := 69) hx hb dX9_keyAt_25 (by decide) (fun c_7 => ?_) (fun c_7 => ?_)
        · have ic_7 : r_6.toInt = 32 := ieq c_7 (rfl) (by decide)
          refine va_ldcS (q := cT (10 + 13)) hx hb hown (hN.2.2.2.1 13 (by decide)) dX9_keyAt_69 ?_
          refine lv_iload_n hx hb dX9_keyAt_71 rfl (lv_at hl 1 rfl) ?_
          refine lv_iload_n hx hb dX9_keyAt_72 rfl (lv_at hl 0 rfl) ?_
          refine lv_iadd hx hb dX9_keyAt_73 ?_
          refine lv_topi (fun z_8 ez_8 => ?_)
          have iz_8 : z_8.toInt = k9_4.toInt + ((k9_15 : Nat) : Int) := toInt_addI ez_8 (rfl) (nI_toInt (by omega)) (by omega)
          refine xk_i (wr := [(sw_9 h0 g b0 b5 b6 b7 b8 b9 b10 b11 b12 b13 b14 b17 b18 b19 b23 b24 b25 b26 b27 b29 b31 b32 b33), (sw_in cT (g 2) 900 a2)]) (xr_VS (n := 1) (As := [.int z_8]) (rest := []) ⟨hx, hb, hml, hown, htg⟩ hK hN hP hD hS hA [] rfl (by decide) (g_s_charAtX l D cT _ (13) (by first | assumption | omega | decide | exact Or.inl (by decide) | (intro h9; exact absurd h9 (by decide)) | (intro _; omega) | (intro _; assumption) | (intro _; decide)) (z_8) (by first | assumption | omega | decide | exact Or.inl (by decide) | (intro h9; exact absurd h9 (by decide)) | (intro _; omega) | (intro _; assumption) | (intro _; decide)) (by first | assumption | omega | decide | exact Or.inl (by decide) | (intro h9; exact absurd h9 (by decide)) | (intro _; omega) | (intro _; assumption) | (intro _; decide))) wi_1290 wi_569 wi_570 wi_134 wi_571 (vk_recv (i := 13) (adK := fun i => cT (10 + i)) (adV := fun i => cT (40 + i)) hN.2.2.2.2.1 (by decide) hS) ⟨rfl, by decide +kernel⟩ ⟨Nat.le_of_ble_eq_true rfl, Nat.le_of_ble_eq_true rfl⟩ rfl hl.1 rfl (Nat.le_of_ble_eq_true rfl) dX9_keyAt_74 ⟨Nat.le_of_ble_eq_true rfl, Nat.le_of_ble_eq_true rfl⟩) hP hD hS hA [] [0, 1] rfl rfl (by decide) (by decide) (fun r_10 u_9 H locs hwr_10 hP hD hS => ?_)
          obtain ⟨hP, hD⟩ : PD D A [(sw_9 h0 g b0 b5 b6 b7 b8 b9 b10 b11 b12 b13 b14 b17 b18 b19 b23 b24 b25 b26 b27 b29 b31 b32 b33), (sw_in cT (g 2) 900 a2)] _ := ⟨hP, hD⟩
          have qr_10_0 : narrow .char (.int r_10) = .int r_10 := hwr_10.1
          have qr_10_1 : r_10.toInt = ((strB.getD 13 []).getD z_8.toInt.toNat 0).toInt := hwr_10.2.1
          have hcar_10 : ((k9_15 : Int) < ((strL.getD x9_4_1.toInt.toNat 0 : Nat) : Int) ∧ r_10.toInt = chK x9_4_1.toInt.toNat ((k9_15 : Int)).toNat ∧ ¬ r_10.toInt = 32) ∨ ((k9_15 : Int) = ((strL.getD x9_4_1.toInt.toNat 0 : Nat) : Int) ∧ r_10.toInt = 32) := by
            rcases (show (k9_15 : Int) < ((strL.getD x9_4_1.toInt.toNat 0 : Nat) : Int) ∨ (k9_15 : Int) = ((strL.getD x9_4_1.toInt.toNat 0 : Nat) : Int) from by omega) with h | h
            · have h1 := keys_ch x9_4_1.toInt.toNat hn13 ((k9_15 : Int)).toNat (by omega); rw [show kpos x9_4_1.toInt.toNat + ((k9_15 : Int)).toNat = z_8.toInt.toNat from by omega] at h1; have h3 : r_10.toInt = chK x9_4_1.toInt.toNat ((k9_15 : Int)).toNat := qr_10_1.trans h1.1; exact Or.inl ⟨h, h3, by omega⟩
            · have h1 := hsp.1; rw [show kpos x9_4_1.toInt.toNat + strL.getD x9_4_1.toInt.toNat 0 = z_8.toInt.toNat from by omega] at h1; exact Or.inr ⟨h, qr_10_1.trans h1⟩
          have hcnr_10 : ((k9_15 : Int)).toNat = k9_15 := by omega
          rw [hcnr_10] at hcar_10
          refine lv_bipush (v := 32) hx hb dX9_keyAt_77 (by decide) ?_
          refine lv_icmp_ne (tgt := 97) hx hb dX9_keyAt_79 (by decide) (fun c_11 => ?_) (fun c_11 => ?_)
          · have ic_11 : ¬ r_10.toInt = 32 := ine c_11 (rfl) (by decide)
            have hnmt : ¬ mtK tx b6.toInt b7.toInt x9_4_1.toInt.toNat = true := fun h => by rw [mtK_iff] at h; first | omega | (have h6 := h.2 k9_15 (by omega); have h7 := cB_is (hta.trans h6) (by have := ch_in x9_4_1.toInt.toNat hn13 k9_15; omega); omega)
            refine (fun (key : ∀ (n9_97 : Nat) (k9_97 : Int32)  (H : Heap) (locs : List Loc) (ls : Array Slot), (k9_4.toInt ≤ k9_97.toInt ∧ k9_97.toInt ≤ 70) → 70 < k9_97.toInt + n9_97 → k9_97.toInt - k9_4.toInt ≤ ((strL.getD x9_4_1.toInt.toNat 0 : Nat) : Int) → PD D A [(sw_9 h0 g b0 b5 b6 b7 b8 b9 b10 b11 b12 b13 b14 b17 b18 b19 b23 b24 b25 b26 b27 b29 b31 b32 b33), (sw_in cT (g 2) 900 a2)] H → va_S A s.heap H locs → lv_has ls 4 [(3, .int (nI k9_15)), (2, .int k9_97), (1, .int x9_4_1), (0, .ref h0)] → W p l e _ s m _ below meth c H locs _ _ _ (F0 m 97 ls [])) => key (Int.toNat (70 - k9_4.toInt) + 1) (k9_4)  _ _ _ (by omega) (by omega) (by first | assumption | omega | decide | (simp only [ti_0, ti_1, ti_2, ti_3, ti_4, ti_5, ti_6, ti_7, ti_8, ti_9, ti_10, ti_11, ti_12, ti_m1]; omega)) ⟨hP, hD⟩ hS (lv_sub hl [0, 1, 2, 3] rfl)) ?_
            intro n9_97
            induction n9_97 with
            | zero => intro k9_97  H locs ls hq1 hq2; exact absurd hq2 (by omega)
            | succ n9_97 ih_97 =>
              intro k9_97  H locs ls hq1_97 hq2_97 h9_97_0 hPD hS hl
              obtain ⟨hP, hD⟩ := hPD
              refine va_ldcS (q := cT (10 + 13)) hx hb hown (hN.2.2.2.1 13 (by decide)) dX9_keyAt_97 ?_
              refine lv_iload_n hx hb dX9_keyAt_99 rfl (lv_at hl 1 rfl) ?_
              refine xk_i (wr := [(sw_9 h0 g b0 b5 b6 b7 b8 b9 b10 b11 b12 b13 b14 b17 b18 b19 b23 b24 b25 b26 b27 b29 b31 b32 b33), (sw_in cT (g 2) 900 a2)]) (xr_VS (n := 1) (As := [.int k9_97]) (rest := []) ⟨hx, hb, hml, hown, htg⟩ hK hN hP hD hS hA [] rfl (by decide) (g_s_charAtX l D cT _ (13) (by first | assumption | omega | decide | exact Or.inl (by decide) | (intro h9; exact absurd h9 (by decide)) | (intro _; omega) | (intro _; assumption) | (intro _; decide)) (k9_97) (by first | assumption | omega | decide | exact Or.inl (by decide) | (intro h9; exact absurd h9 (by decide)) | (intro _; omega) | (intro _; assumption) | (intro _; decide)) (by first | assumption | omega | decide | exact Or.inl (by decide) | (intro h9; exact absurd h9 (by decide)) | (intro _; omega) | (intro _; assumption) | (intro _; decide))) wi_1290 wi_569 wi_570 wi_134 wi_571 (vk_recv (i := 13) (adK := fun i => cT (10 + i)) (adV := fun i => cT (40 + i)) hN.2.2.2.2.1 (by decide) hS) ⟨rfl, by decide +kernel⟩ ⟨Nat.le_of_ble_eq_true rfl, Nat.le_of_ble_eq_true rfl⟩ rfl hl.1 rfl (Nat.le_of_ble_eq_true rfl) dX9_keyAt_100 ⟨Nat.le_of_ble_eq_true rfl, Nat.le_of_ble_eq_true rfl⟩) hP hD hS hA [] [0, 1] rfl rfl (by decide) (by decide) (fun r_13 u_12 H locs hwr_13 hP hD hS => ?_)
              obtain ⟨hP, hD⟩ : PD D A [(sw_9 h0 g b0 b5 b6 b7 b8 b9 b10 b11 b12 b13 b14 b17 b18 b19 b23 b24 b25 b26 b27 b29 b31 b32 b33), (sw_in cT (g 2) 900 a2)] _ := ⟨hP, hD⟩
              have qr_13_0 : narrow .char (.int r_13) = .int r_13 := hwr_13.1
              have qr_13_1 : r_13.toInt = ((strB.getD 13 []).getD k9_97.toInt.toNat 0).toInt := hwr_13.2.1
              have hcar_13 : ((k9_97.toInt - k9_4.toInt) < ((strL.getD x9_4_1.toInt.toNat 0 : Nat) : Int) ∧ r_13.toInt = chK x9_4_1.toInt.toNat ((k9_97.toInt - k9_4.toInt)).toNat ∧ ¬ r_13.toInt = 32) ∨ ((k9_97.toInt - k9_4.toInt) = ((strL.getD x9_4_1.toInt.toNat 0 : Nat) : Int) ∧ r_13.toInt = 32) := by
                rcases (show (k9_97.toInt - k9_4.toInt) < ((strL.getD x9_4_1.toInt.toNat 0 : Nat) : Int) ∨ (k9_97.toInt - k9_4.toInt) = ((strL.getD x9_4_1.toInt.toNat 0 : Nat) : Int) from by omega) with h | h
                · have h1 := keys_ch x9_4_1.toInt.toNat hn13 ((k9_97.toInt - k9_4.toInt)).toNat (by omega); rw [show kpos x9_4_1.toInt.toNat + ((k9_97.toInt - k9_4.toInt)).toNat = k9_97.toInt.toNat from by omega] at h1; have h3 : r_13.toInt = chK x9_4_1.toInt.toNat ((k9_97.toInt - k9_4.toInt)).toNat := qr_13_1.trans h1.1; exact Or.inl ⟨h, h3, by omega⟩
                · have h1 := hsp.1; rw [show kpos x9_4_1.toInt.toNat + strL.getD x9_4_1.toInt.toNat 0 = k9_97.toInt.toNat from by omega] at h1; exact Or.inr ⟨h, qr_13_1.trans h1⟩
              refine lv_bipush (v := 32) hx hb dX9_keyAt_103 (by decide) ?_
              refine lv_icmp_eq (tgt := 114) hx hb dX9_keyAt_105 (by decide) (fun c_14 => ?_) (fun c_14 => ?_)
              · have ic_14 : r_13.toInt = 32 := ieq c_14 (rfl) (by decide)
                obtain ⟨z_15, ez_15⟩ : ∃ w : Int32, w = k9_97 + 1 := ⟨_, rfl⟩
                have iz_15 : z_15.toInt = k9_97.toInt + 1 := toInt_addI ez_15 (rfl) (by decide) (by omega)
                refine lv_iinc (v := z_15) (lv' := [(2, .int z_15), (3, .int (nI k9_15)), (1, .int x9_4_1), (0, .ref h0)]) hx hb dX9_keyAt_114 hl (k := 1) rfl (by rw [ez_15]; rfl) (by decide) rfl (fun ls hl => ?_)
                obtain ⟨z_16, ez_16⟩ : ∃ w : Int32, w = x9_4_1 + 1 := ⟨_, rfl⟩
                have iz_16 : z_16.toInt = x9_4_1.toInt + 1 := toInt_addI ez_16 (rfl) (by decide) (by omega)
                refine lv_iinc (v := z_16) (lv' := [(1, .int z_16), (2, .int z_15), (3, .int (nI k9_15)), (0, .ref h0)]) hx hb dX9_keyAt_117 hl (k := 2) rfl (by rw [ez_16]; rfl) (by decide) rfl (fun ls hl => ?_)
                refine lv_goto (tgt := 4) hx hb dX9_keyAt_120 (by decide) ?_
                have h4n : z_16.toInt.toNat = x9_4_1.toInt.toNat + 1 := by omega
                have h4a : z_15.toInt = ((kpos z_16.toInt.toNat : Nat) : Int) := by rw [h4n]; omega
                have h4b : ∀ i : Nat, (i : Int) < z_16.toInt → ¬ mtK tx b6.toInt b7.toInt i = true := fun i h => by rcases (show (i : Int) < x9_4_1.toInt ∨ i = x9_4_1.toInt.toNat from by omega) with h1 | h1; exact h9_4_1 i h1; rw [h1]; exact hnmt
                exact ih_4 (z_15) _ _ _ _ (by omega) (by omega) (by first | assumption | omega | decide | (simp only [ti_0, ti_1, ti_2, ti_3, ti_4, ti_5, ti_6, ti_7, ti_8, ti_9, ti_10, ti_11, ti_12, ti_m1]; omega)) (by first | assumption | omega | decide | (simp only [ti_0, ti_1, ti_2, ti_3, ti_4, ti_5, ti_6, ti_7, ti_8, ti_9, ti_10, ti_11, ti_12, ti_m1]; omega)) (by first | assumption | omega | decide | (simp only [ti_0, ti_1, ti_2, ti_3, ti_4, ti_5, ti_6, ti_7, ti_8, ti_9, ti_10, ti_11, ti_12, ti_m1]; omega)) ⟨hP.sub [0, 1] rfl, hD.sub [0, 1] (by decide) rfl⟩ hS (lv_sub hl [1, 0, 3] rfl)
              · have ic_14 : ¬ r_13.toInt = 32 := ine c_14 (rfl) (by decide)
                obtain ⟨z_17, ez_17⟩ : ∃ w : Int32, w = k9_97 + 1 := ⟨_, rfl⟩
                have iz_17 : z_17.toInt = k9_97.toInt + 1 := toInt_addI ez_17 (rfl) (by decide) (by omega)
                refine lv_iinc (v := z_17) (lv' := [(2, .int z_17), (3, .int (nI k9_15)), (1, .int x9_4_1), (0, .ref h0)]) hx hb dX9_keyAt_108 hl (k := 1) rfl (by rw [ez_17]; rfl) (by decide) rfl (fun ls hl => ?_)
                refine lv_goto (tgt := 97) hx hb dX9_keyAt_111 (by decide) ?_
                exact ih_97 (z_17)  _ _ _ (by omega) (by omega) (by first | assumption | omega | decide | (simp only [ti_0, ti_1, ti_2, ti_3, ti_4, ti_5, ti_6, ti_7, ti_8, ti_9, ti_10, ti_11, ti_12, ti_m1]; omega)) ⟨hP.sub [0, 1] rfl, hD.sub [0, 1] (by decide) rfl⟩ hS (lv_sub hl [1, 0, 2, 3] rfl)
          · have ic_11 : r_10.toInt = 32 := ieq c_11 (rfl) (by decide)
            refine lv_aload_n hx hb dX9_keyAt_82 rfl (lv_at hl 3 rfl) ?_
            refine va_get (D := D) (ci := 9) (v := .int b6) (C := RX9) (T := TX9) (N := 37) hx hb htg gRX9 hown hK hP 0 rfl rfl 6 (by decide) (htg _ wi_1156) (fun _ h9 => h9) rfl dX9_keyAt_83 ?_
            refine lv_iload_n hx hb dX9_keyAt_86 rfl (lv_at hl 0 rfl) ?_
            refine lv_iadd hx hb dX9_keyAt_87 ?_
            refine lv_topi (fun z_18 ez_18 => ?_)
            have iz_18 : z_18.toInt = b6.toInt + ((k9_15 : Nat) : Int) := toInt_addI ez_18 (rfl) (nI_toInt (by omega)) (by omega)
            refine lv_aload_n hx hb dX9_keyAt_88 rfl (lv_at hl 3 rfl) ?_
            refine va_get (D := D) (ci := 9) (v := .int b7) (C := RX9) (T := TX9) (N := 37) hx hb htg gRX9 hown hK hP 0 rfl rfl 7 (by decide) (htg _ wi_1157) (fun _ h9 => h9) rfl dX9_keyAt_89 ?_
            refine lv_icmp_ne (tgt := 97) hx hb dX9_keyAt_92 (by decide) (fun c_19 => ?_) (fun c_19 => ?_)
            · have ic_19 : ¬ z_18.toInt = b7.toInt := ine c_19 (rfl) (rfl)
              have hnmt : ¬ mtK tx b6.toInt b7.toInt x9_4_1.toInt.toNat = true := fun h => by rw [mtK_iff] at h; first | omega | (have h6 := h.2 k9_15 (by omega); have h7 := cB_is (hta.trans h6) (by have := ch_in x9_4_1.toInt.toNat hn13 k9_15; omega); omega)
              refine (fun (key : ∀ (n9_97 : Nat) (k9_97 : Int32)  (H : Heap) (locs : List Loc) (ls : Array Slot), (k9_4.toInt ≤ k9_97.toInt ∧ k9_97.toInt ≤ 70) → 70 < k9_97.toInt + n9_97 → k9_97.toInt - k9_4.toInt ≤ ((strL.getD x9_4_1.toInt.toNat 0 : Nat) : Int) → PD D A [(sw_9 h0 g b0 b5 b6 b7 b8 b9 b10 b11 b12 b13 b14 b17 b18 b19 b23 b24 b25 b26 b27 b29 b31 b32 b33), (sw_in cT (g 2) 900 a2)] H → va_S A s.heap H locs → lv_has ls 4 [(3, .int (nI k9_15)), (2, .int k9_97), (1, .int x9_4_1), (0, .ref h0)] → W p l e _ s m _ below meth c H locs _ _ _ (F0 m 97 ls [])) => key (Int.toNat (70 - k9_4.toInt) + 1) (k9_4)  _ _ _ (by omega) (by omega) (by first | assumption | omega | decide | (simp only [ti_0, ti_1, ti_2, ti_3, ti_4, ti_5, ti_6, ti_7, ti_8, ti_9, ti_10, ti_11, ti_12, ti_m1]; omega)) ⟨hP, hD⟩ hS (lv_sub hl [0, 1, 2, 3] rfl)) ?_
              intro n9_97
              induction n9_97 with
              | zero => intro k9_97  H locs ls hq1 hq2; exact absurd hq2 (by omega)
              | succ n9_97 ih_97 =>
                intro k9_97  H locs ls hq1_97 hq2_97 h9_97_0 hPD hS hl
                obtain ⟨hP, hD⟩ := hPD
                refine va_ldcS (q := cT (10 + 13)) hx hb hown (hN.2.2.2.1 13 (by decide)) dX9_keyAt_97 ?_
                refine lv_iload_n hx hb dX9_keyAt_99 rfl (lv_at hl 1 rfl) ?_
                refine xk_i (wr := [(sw_9 h0 g b0 b5 b6 b7 b8 b9 b10 b11 b12 b13 b14 b17 b18 b19 b23 b24 b25 b26 b27 b29 b31 b32 b33), (sw_in cT (g 2) 900 a2)]) (xr_VS (n := 1) (As := [.int k9_97]) (rest := []) ⟨hx, hb, hml, hown, htg⟩ hK hN hP hD hS hA [] rfl (by decide) (g_s_charAtX l D cT _ (13) (by first | assumption | omega | decide | exact Or.inl (by decide) | (intro h9; exact absurd h9 (by decide)) | (intro _; omega) | (intro _; assumption) | (intro _; decide)) (k9_97) (by first | assumption | omega | decide | exact Or.inl (by decide) | (intro h9; exact absurd h9 (by decide)) | (intro _; omega) | (intro _; assumption) | (intro _; decide)) (by first | assumption | omega | decide | exact Or.inl (by decide) | (intro h9; exact absurd h9 (by decide)) | (intro _; omega) | (intro _; assumption) | (intro _; decide))) wi_1290 wi_569 wi_570 wi_134 wi_571 (vk_recv (i := 13) (adK := fun i => cT (10 + i)) (adV := fun i => cT (40 + i)) hN.2.2.2.2.1 (by decide) hS) ⟨rfl, by decide +kernel⟩ ⟨Nat.le_of_ble_eq_true rfl, Nat.le_of_ble_eq_true rfl⟩ rfl hl.1 rfl (Nat.le_of_ble_eq_true rfl) dX9_keyAt_100 ⟨Nat.le_of_ble_eq_true rfl, Nat.le_of_ble_eq_true rfl⟩) hP hD hS hA [] [0, 1] rfl rfl (by decide) (by decide) (fun r_21 u_20 H locs hwr_21 hP hD hS => ?_)
                obtain ⟨hP, hD⟩ : PD D A [(sw_9 h0 g b0 b5 b6 b7 b8 b9 b10 b11 b12 b13 b14 b17 b18 b19 b23 b24 b25 b26 b27 b29 b31 b32 b33), (sw_in cT (g 2) 900 a2)] _ := ⟨hP, hD⟩
                have qr_21_0 : narrow .char (.int r_21) = .int r_21 := hwr_21.1
                have qr_21_1 : r_21.toInt = ((strB.getD 13 []).getD k9_97.toInt.toNat 0).toInt := hwr_21.2.1
                have hcar_21 : ((k9_97.toInt - k9_4.toInt) < ((strL.getD x9_4_1.toInt.toNat 0 : Nat) : Int) ∧ r_21.toInt = chK x9_4_1.toInt.toNat ((k9_97.toInt - k9_4.toInt)).toNat ∧ ¬ r_21.toInt = 32) ∨ ((k9_97.toInt - k9_4.toInt) = ((strL.getD x9_4_1.toInt.toNat 0 : Nat) : Int) ∧ r_21.toInt = 32) := by
                  rcases (show (k9_97.toInt - k9_4.toInt) < ((strL.getD x9_4_1.toInt.toNat 0 : Nat) : Int) ∨ (k9_97.toInt - k9_4.toInt) = ((strL.getD x9_4_1.toInt.toNat 0 : Nat) : Int) from by omega) with h | h
                  · have h1 := keys_ch x9_4_1.toInt.toNat hn13 ((k9_97.toInt - k9_4.toInt)).toNat (by omega); rw [show kpos x9_4_1.toInt.toNat + ((k9_97.toInt - k9_4.toInt)).toNat = k9_97.toInt.toNat from by omega] at h1; have h3 : r_21.toInt = chK x9_4_1.toInt.toNat ((k9_97.toInt - k9_4.toInt)).toNat := qr_21_1.trans h1.1; exact Or.inl ⟨h, h3, by omega⟩
                  · have h1 := hsp.1; rw [show kpos x9_4_1.toInt.toNat + strL.getD x9_4_1.toInt.toNat 0 = k9_97.toInt.toNat from by omega] at h1; exact Or.inr ⟨h, qr_21_1.trans h1⟩
                refine lv_bipush (v := 32) hx hb dX9_keyAt_103 (by decide) ?_
                refine lv_icmp_eq (tgt := 114) hx hb dX9_keyAt_105 (by decide) (fun c_22 => ?_) (fun c_22 => ?_)
                · have ic_22 : r_21.toInt = 32 := ieq c_22 (rfl) (by decide)
                  obtain ⟨z_23, ez_23⟩ : ∃ w : Int32, w = k9_97 + 1 := ⟨_, rfl⟩
                  have iz_23 : z_23.toInt = k9_97.toInt + 1 := toInt_addI ez_23 (rfl) (by decide) (by omega)
                  refine lv_iinc (v := z_23) (lv' := [(2, .int z_23), (3, .int (nI k9_15)), (1, .int x9_4_1), (0, .ref h0)]) hx hb dX9_keyAt_114 hl (k := 1) rfl (by rw [ez_23]; rfl) (by decide) rfl (fun ls hl => ?_)
                  obtain ⟨z_24, ez_24⟩ : ∃ w : Int32, w = x9_4_1 + 1 := ⟨_, rfl⟩
                  have iz_24 : z_24.toInt = x9_4_1.toInt + 1 := toInt_addI ez_24 (rfl) (by decide) (by omega)
                  refine lv_iinc (v := z_24) (lv' := [(1, .int z_24), (2, .int z_23), (3, .int (nI k9_15)), (0, .ref h0)]) hx hb dX9_keyAt_117 hl (k := 2) rfl (by rw [ez_24]; rfl) (by decide) rfl (fun ls hl => ?_)
                  refine lv_goto (tgt := 4) hx hb dX9_keyAt_120 (by decide) ?_
                  have h4n : z_24.toInt.toNat = x9_4_1.toInt.toNat + 1 := by omega
                  have h4a : z_23.toInt = ((kpos z_24.toInt.toNat : Nat) : Int) := by rw [h4n]; omega
                  have h4b : ∀ i : Nat, (i : Int) < z_24.toInt → ¬ mtK tx b6.toInt b7.toInt i = true := fun i h => by rcases (show (i : Int) < x9_4_1.toInt ∨ i = x9_4_1.toInt.toNat from by omega) with h1 | h1; exact h9_4_1 i h1; rw [h1]; exact hnmt
                  exact ih_4 (z_23) _ _ _ _ (by omega) (by omega) (by first | assumption | omega | decide | (simp only [ti_0, ti_1, ti_2, ti_3, ti_4, ti_5, ti_6, ti_7, ti_8, ti_9, ti_10, ti_11, ti_12, ti_m1]; omega)) (by first | assumption | omega | decide | (simp only [ti_0, ti_1, ti_2, ti_3, ti_4, ti_5, ti_6, ti_7, ti_8, ti_9, ti_10, ti_11, ti_12, ti_m1]; omega)) (by first | assumption | omega | decide | (simp only [ti_0, ti_1, ti_2, ti_3, ti_4, ti_5, ti_6, ti_7, ti_8, ti_9, ti_10, ti_11, ti_12, ti_m1]; omega)) ⟨hP.sub [0, 1] rfl, hD.sub [0, 1] (by decide) rfl⟩ hS (lv_sub hl [1, 0, 3] rfl)
                · have ic_22 : ¬ r_21.toInt = 32 := ine c_22 (rfl) (by decide)
                  obtain ⟨z_25, ez_25⟩ : ∃ w : Int32, w = k9_97 + 1 := ⟨_, rfl⟩
                  have iz_25 : z_25.toInt = k9_97.toInt + 1 := toInt_addI ez_25 (rfl) (by decide) (by omega)
                  refine lv_iinc (v := z_25) (lv' := [(2, .int z_25), (3, .int (nI k9_15)), (1, .int x9_4_1), (0, .ref h0)]) hx hb dX9_keyAt_108 hl (k := 1) rfl (by rw [ez_25]; rfl) (by decide) rfl (fun ls hl => ?_)
                  refine lv_goto (tgt := 97) hx hb dX9_keyAt_111 (by decide) ?_
                  exact ih_97 (z_25)  _ _ _ (by omega) (by omega) (by first | assumption | omega | decide | (simp only [ti_0, ti_1, ti_2, ti_3, ti_4, ti_5, ti_6, ti_7, ti_8, ti_9, ti_10, ti_11, ti_12, ti_m1]; omega)) ⟨hP.sub [0, 1] rfl, hD.sub [0, 1] (by decide) rfl⟩ hS (lv_sub hl [1, 0, 2, 3] rfl)
            · have ic_19 : z_18.toInt = b7.toInt := ieq c_19 (rfl) (rfl)
              refine lv_iload_n hx hb dX9_keyAt_95 rfl (lv_at hl 2 rfl) ?_
              exact x_iret hx hb hr hlk hP hD hS [0, 1] (()) rfl (by decide) ⟨(by have h5 : mtK tx b6.toInt b7.toInt x9_4_1.toInt.toNat = true := mtK_iff.mpr ⟨by omega, fun j hj => (h9_15_1 j (by omega)).2⟩; rw [keyF_is hn13 h5]; omega), trivial⟩ (by decide) (by decide) dX9_keyAt_96
        · have ic_7 : ¬ r_6.toInt = 32 := ine c_7 (rfl) (by decide)
          refine lv_aload_n hx hb dX9_keyAt_28 rfl (lv_at hl 3 rfl) ?_
          refine va_get (D := D) (ci := 9) (v := .int b6) (C := RX9) (T := TX9) (N := 37) hx hb htg gRX9 hown hK hP 0 rfl rfl 6 (by decide) (htg _ wi_1156) (fun _ h9 => h9) rfl dX9_keyAt_29 ?_
          refine lv_iload_n hx hb dX9_keyAt_32 rfl (lv_at hl 0 rfl) ?_
          refine lv_iadd hx hb dX9_keyAt_33 ?_
          refine lv_topi (fun z_26 ez_26 => ?_)
          have iz_26 : z_26.toInt = b6.toInt + ((k9_15 : Nat) : Int) := toInt_addI ez_26 (rfl) (nI_toInt (by omega)) (by omega)
          refine lv_aload_n hx hb dX9_keyAt_34 rfl (lv_at hl 3 rfl) ?_
          refine va_get (D := D) (ci := 9) (v := .int b7) (C := RX9) (T := TX9) (N := 37) hx hb htg gRX9 hown hK hP 0 rfl rfl 7 (by decide) (htg _ wi_1157) (fun _ h9 => h9) rfl dX9_keyAt_35 ?_
          refine lv_icmp_ge (tgt := 69) hx hb dX9_keyAt_38 (by decide) (fun c_27 => ?_) (fun c_27 => ?_)
          · have ic_27 : b7.toInt ≤ z_26.toInt := ile c_27 (rfl) (rfl)
            refine va_ldcS (q := cT (10 + 13)) hx hb hown (hN.2.2.2.1 13 (by decide)) dX9_keyAt_69 ?_
            refine lv_iload_n hx hb dX9_keyAt_71 rfl (lv_at hl 1 rfl) ?_
            refine lv_iload_n hx hb dX9_keyAt_72 rfl (lv_at hl 0 rfl) ?_
            refine lv_iadd hx hb dX9_keyAt_73 ?_
            refine lv_topi (fun z_28 ez_28 => ?_)
            have iz_28 : z_28.toInt = k9_4.toInt + ((k9_15 : Nat) : Int) := toInt_addI ez_28 (rfl) (nI_toInt (by omega)) (by omega)
            refine xk_i (wr := [(sw_9 h0 g b0 b5 b6 b7 b8 b9 b10 b11 b12 b13 b14 b17 b18 b19 b23 b24 b25 b26 b27 b29 b31 b32 b33), (sw_in cT (g 2) 900 a2)]) (xr_VS (n := 1) (As := [.int z_28]) (rest := []) ⟨hx, hb, hml, hown, htg⟩ hK hN hP hD hS hA [] rfl (by decide) (g_s_charAtX l D cT _ (13) (by first | assumption | omega | decide | exact Or.inl (by decide) | (intro h9; exact absurd h9 (by decide)) | (intro _; omega) | (intro _; assumption) | (intro _; decide)) (z_28) (by first | assumption | omega | decide | exact Or.inl (by decide) | (intro h9; exact absurd h9 (by decide)) | (intro _; omega) | (intro _; assumption) | (intro _; decide)) (by first | assumption | omega | decide | exact Or.inl (by decide) | (intro h9; exact absurd h9 (by decide)) | (intro _; omega) | (intro _; assumption) | (intro _; decide))) wi_1290 wi_569 wi_570 wi_134 wi_571 (vk_recv (i := 13) (adK := fun i => cT (10 + i)) (adV := fun i => cT (40 + i)) hN.2.2.2.2.1 (by decide) hS) ⟨rfl, by decide +kernel⟩ ⟨Nat.le_of_ble_eq_true rfl, Nat.le_of_ble_eq_true rfl⟩ rfl hl.1 rfl (Nat.le_of_ble_eq_true rfl) dX9_keyAt_74 ⟨Nat.le_of_ble_eq_true rfl, Nat.le_of_ble_eq_true rfl⟩) hP hD hS hA [] [0, 1] rfl rfl (by decide) (by decide) (fun r_30 u_29 H locs hwr_30 hP hD hS => ?_)
            obtain ⟨hP, hD⟩ : PD D A [(sw_9 h0 g b0 b5 b6 b7 b8 b9 b10 b11 b12 b13 b14 b17 b18 b19 b23 b24 b25 b26 b27 b29 b31 b32 b33), (sw_in cT (g 2) 900 a2)] _ := ⟨hP, hD⟩
            have qr_30_0 : narrow .char (.int r_30) = .int r_30 := hwr_30.1
            have qr_30_1 : r_30.toInt = ((strB.getD 13 []).getD z_28.toInt.toNat 0).toInt := hwr_30.2.1
            have hcar_30 : ((k9_15 : Int) < ((strL.getD x9_4_1.toInt.toNat 0 : Nat) : Int) ∧ r_30.toInt = chK x9_4_1.toInt.toNat ((k9_15 : Int)).toNat ∧ ¬ r_30.toInt = 32) ∨ ((k9_15 : Int) = ((strL.getD x9_4_1.toInt.toNat 0 : Nat) : Int) ∧ r_30.toInt = 32) := by
              rcases (show (k9_15 : Int) < ((strL.getD x9_4_1.toInt.toNat 0 : Nat) : Int) ∨ (k9_15 : Int) = ((strL.getD x9_4_1.toInt.toNat 0 : Nat) : Int) from by omega) with h | h
              · have h1 := keys_ch x9_4_1.toInt.toNat hn13 ((k9_15 : Int)).toNat (by omega); rw [show kpos x9_4_1.toInt.toNat + ((k9_15 : Int)).toNat = z_28.toInt.toNat from by omega] at h1; have h3 : r_30.toInt = chK x9_4_1.toInt.toNat ((k9_15 : Int)).toNat := qr_30_1.trans h1.1; exact Or.inl ⟨h, h3, by omega⟩
              · have h1 := hsp.1; rw [show kpos x9_4_1.toInt.toNat + strL.getD x9_4_1.toInt.toNat 0 = z_28.toInt.toNat from by omega] at h1; exact Or.inr ⟨h, qr_30_1.trans h1⟩
            have hcnr_30 : ((k9_15 : Int)).toNat = k9_15 := by omega
            rw [hcnr_30] at hcar_30
            refine lv_bipush (v := 32) hx hb dX9_keyAt_77 (by decide) ?_
            refine lv_icmp_ne (tgt := 97) hx hb dX9_keyAt_79 (by decide) (fun c_31 => ?_) (fun c_31 => ?_)
            · have ic_31 : ¬ r_30.toInt = 32 := ine c_31 (rfl) (by decide)
              have hnmt : ¬ mtK tx b6.toInt b7.toInt x9_4_1.toInt.toNat = true := fun h => by rw [mtK_iff] at h; first | omega | (have h6 := h.2 k9_15 (by omega); have h7 := cB_is (hta.trans h6) (by have := ch_in x9_4_1.toInt.toNat hn13 k9_15; omega); omega)
              refine (fun (key : ∀ (n9_97 : Nat) (k9_97 : Int32)  (H : Heap) (locs : List Loc) (ls : Array Slot), (k9_4.toInt ≤ k9_97.toInt ∧ k9_97.toInt ≤ 70) → 70 < k9_97.toInt + n9_97 → k9_97.toInt - k9_4.toInt ≤ ((strL.getD x9_4_1.toInt.toNat 0 : Nat) : Int) → PD D A [(sw_9 h0 g b0 b5 b6 b7 b8 b9 b10 b11 b12 b13 b14 b17 b18 b19 b23 b24 b25 b26 b27 b29 b31 b32 b33), (sw_in cT (g 2) 900 a2)] H → va_S A s.heap H locs → lv_has ls 4 [(3, .int (nI k9_15)), (2, .int k9_97), (1, .int x9_4_1), (0, .ref h0)] → W p l e _ s m _ below meth c H locs _ _ _ (F0 m 97 ls [])) => key (Int.toNat (70 - k9_4.toInt) + 1) (k9_4)  _ _ _ (by omega) (by omega) (by first | assumption | omega | decide | (simp only [ti_0, ti_1, ti_2, ti_3, ti_4, ti_5, ti_6, ti_7, ti_8, ti_9, ti_10, ti_11, ti_12, ti_m1]; omega)) ⟨hP, hD⟩ hS (lv_sub hl [0, 1, 2, 3] rfl)) ?_
              intro n9_97
              induction n9_97 with
              | zero => intro k9_97  H locs ls hq1 hq2; exact absurd hq2 (by omega)
              | succ n9_97 ih_97 =>
                intro k9_97  H locs ls hq1_97 hq2_97 h9_97_0 hPD hS hl
                obtain ⟨hP, hD⟩ := hPD
                refine va_ldcS (q := cT (10 + 13)) hx hb hown (hN.2.2.2.1 13 (by decide)) dX9_keyAt_97 ?_
                refine lv_iload_n hx hb dX9_keyAt_99 rfl (lv_at hl 1 rfl) ?_
                refine xk_i (wr := [(sw_9 h0 g b0 b5 b6 b7 b8 b9 b10 b11 b12 b13 b14 b17 b18 b19 b23 b24 b25 b26 b27 b29 b31 b32 b33), (sw_in cT (g 2) 900 a2)]) (xr_VS (n := 1) (As := [.int k9_97]) (rest := []) ⟨hx, hb, hml, hown, htg⟩ hK hN hP hD hS hA [] rfl (by decide) (g_s_charAtX l D cT _ (13) (by first | assumption | omega | decide | exact Or.inl (by decide) | (intro h9; exact absurd h9 (by decide)) | (intro _; omega) | (intro _; assumption) | (intro _; decide)) (k9_97) (by first | assumption | omega | decide | exact Or.inl (by decide) | (intro h9; exact absurd h9 (by decide)) | (intro _; omega) | (intro _; assumption) | (intro _; decide)) (by first | assumption | omega | decide | exact Or.inl (by decide) | (intro h9; exact absurd h9 (by decide)) | (intro _; omega) | (intro _; assumption) | (intro _; decide))) wi_1290 wi_569 wi_570 wi_134 wi_571 (vk_recv (i := 13) (adK := fun i => cT (10 + i)) (adV := fun i => cT (40 + i)) hN.2.2.2.2.1 (by decide) hS) ⟨rfl, by decide +kernel⟩ ⟨Nat.le_of_ble_eq_true rfl, Nat.le_of_ble_eq_true rfl⟩ rfl hl.1 rfl (Nat.le_of_ble_eq_true rfl) dX9_keyAt_100 ⟨Nat.le_of_ble_eq_true rfl, Nat.le_of_ble_eq_true rfl⟩) hP hD hS hA [] [0, 1] rfl rfl (by decide) (by decide) (fun r_33 u_32 H locs hwr_33 hP hD hS => ?_)
                obtain ⟨hP, hD⟩ : PD D A [(sw_9 h0 g b0 b5 b6 b7 b8 b9 b10 b11 b12 b13 b14 b17 b18 b19 b23 b24 b25 b26 b27 b29 b31 b32 b33), (sw_in cT (g 2) 900 a2)] _ := ⟨hP, hD⟩
                have qr_33_0 : narrow .char (.int r_33) = .int r_33 := hwr_33.1
                have qr_33_1 : r_33.toInt = ((strB.getD 13 []).getD k9_97.toInt.toNat 0).toInt := hwr_33.2.1
                have hcar_33 : ((k9_97.toInt - k9_4.toInt) < ((strL.getD x9_4_1.toInt.toNat 0 : Nat) : Int) ∧ r_33.toInt = chK x9_4_1.toInt.toNat ((k9_97.toInt - k9_4.toInt)).toNat ∧ ¬ r_33.toInt = 32) ∨ ((k9_97.toInt - k9_4.toInt) = ((strL.getD x9_4_1.toInt.toNat 0 : Nat) : Int) ∧ r_33.toInt = 32) := by
                  rcases (show (k9_97.toInt - k9_4.toInt) < ((strL.getD x9_4_1.toInt.toNat 0 : Nat) : Int) ∨ (k9_97.toInt - k9_4.toInt) = ((strL.getD x9_4_1.toInt.toNat 0 : Nat) : Int) from by omega) with h | h
                  · have h1 := keys_ch x9_4_1.toInt.toNat hn13 ((k9_97.toInt - k9_4.toInt)).toNat (by omega); rw [show kpos x9_4_1.toInt.toNat + ((k9_97.toInt - k9_4.toInt)).toNat = k9_97.toInt.toNat from by omega] at h1; have h3 : r_33.toInt = chK x9_4_1.toInt.toNat ((k9_97.toInt - k9_4.toInt)).toNat := qr_33_1.trans h1.1; exact Or.inl ⟨h, h3, by omega⟩
                  · have h1 := hsp.1; rw [show kpos x9_4_1.toInt.toNat + strL.getD x9_4_1.toInt.toNat 0 = k9_97.toInt.toNat from by omega] at h1; exact Or.inr ⟨h, qr_33_1.trans h1⟩
                refine lv_bipush (v := 32) hx hb dX9_keyAt_103 (by decide) ?_
                refine lv_icmp_eq (tgt := 114) hx hb dX9_keyAt_105 (by decide) (fun c_34 => ?_) (fun c_34 => ?_)
                · have ic_34 : r_33.toInt = 32 := ieq c_34 (rfl) (by decide)
                  obtain ⟨z_35, ez_35⟩ : ∃ w : Int32, w = k9_97 + 1 := ⟨_, rfl⟩
                  have iz_35 : z_35.toInt = k9_97.toInt + 1 := toInt_addI ez_35 (rfl) (by decide) (by omega)
                  refine lv_iinc (v := z_35) (lv' := [(2, .int z_35), (3, .int (nI k9_15)), (1, .int x9_4_1), (0, .ref h0)]) hx hb dX9_keyAt_114 hl (k := 1) rfl (by rw [ez_35]; rfl) (by decide) rfl (fun ls hl => ?_)
                  obtain ⟨z_36, ez_36⟩ : ∃ w : Int32, w = x9_4_1 + 1 := ⟨_, rfl⟩
                  have iz_36 : z_36.toInt = x9_4_1.toInt + 1 := toInt_addI ez_36 (rfl) (by decide) (by omega)
                  refine lv_iinc (v := z_36) (lv' := [(1, .int z_36), (2, .int z_35), (3, .int (nI k9_15)), (0, .ref h0)]) hx hb dX9_keyAt_117 hl (k := 2) rfl (by rw [ez_36]; rfl) (by decide) rfl (fun ls hl => ?_)
                  refine lv_goto (tgt := 4) hx hb dX9_keyAt_120 (by decide) ?_
                  have h4n : z_36.toInt.toNat = x9_4_1.toInt.toNat + 1 := by omega
                  have h4a : z_35.toInt = ((kpos z_36.toInt.toNat : Nat) : Int) := by rw [h4n]; omega
                  have h4b : ∀ i : Nat, (i : Int) < z_36.toInt → ¬ mtK tx b6.toInt b7.toInt i = true := fun i h => by rcases (show (i : Int) < x9_4_1.toInt ∨ i = x9_4_1.toInt.toNat from by omega) with h1 | h1; exact h9_4_1 i h1; rw [h1]; exact hnmt
                  exact ih_4 (z_35) _ _ _ _ (by omega) (by omega) (by first | assumption | omega | decide | (simp only [ti_0, ti_1, ti_2, ti_3, ti_4, ti_5, ti_6, ti_7, ti_8, ti_9, ti_10, ti_11, ti_12, ti_m1]; omega)) (by first | assumption | omega | decide | (simp only [ti_0, ti_1, ti_2, ti_3, ti_4, ti_5, ti_6, ti_7, ti_8, ti_9, ti_10, ti_11, ti_12, ti_m1]; omega)) (by first | assumption | omega | decide | (simp only [ti_0, ti_1, ti_2, ti_3, ti_4, ti_5, ti_6, ti_7, ti_8, ti_9, ti_10, ti_11, ti_12, ti_m1]; omega)) ⟨hP.sub [0, 1] rfl, hD.sub [0, 1] (by decide) rfl⟩ hS (lv_sub hl [1, 0, 3] rfl)
                · have ic_34 : ¬ r_33.toInt = 32 := ine c_34 (rfl) (by decide)
                  obtain ⟨z_37, ez_37⟩ : ∃ w : Int32, w = k9_97 + 1 := ⟨_, rfl⟩
                  have iz_37 : z_37.toInt = k9_97.toInt + 1 := toInt_addI ez_37 (rfl) (by decide) (by omega)
                  refine lv_iinc (v := z_37) (lv' := [(2, .int z_37), (3, .int (nI k9_15)), (1, .int x9_4_1), (0, .ref h0)]) hx hb dX9_keyAt_108 hl (k := 1) rfl (by rw [ez_37]; rfl) (by decide) rfl (fun ls hl => ?_)
                  refine lv_goto (tgt := 97) hx hb dX9_keyAt_111 (by decide) ?_
                  exact ih_97 (z_37)  _ _ _ (by omega) (by omega) (by first | assumption | omega | decide | (simp only [ti_0, ti_1, ti_2, ti_3, ti_4, ti_5, ti_6, ti_7, ti_8, ti_9, ti_10, ti_11, ti_12, ti_m1]; omega)) ⟨hP.sub [0, 1] rfl, hD.sub [0, 1] (by decide) rfl⟩ hS (lv_sub hl [1, 0, 2, 3] rfl)
            · have ic_31 : r_30.toInt = 32 := ieq c_31 (rfl) (by decide)
              refine lv_aload_n hx hb dX9_keyAt_82 rfl (lv_at hl 3 rfl) ?_
              refine va_get (D := D) (ci := 9) (v := .int b6) (C := RX9) (T := TX9) (N := 37) hx hb htg gRX9 hown hK hP 0 rfl rfl 6 (by decide) (htg _ wi_1156) (fun _ h9 => h9) rfl dX9_keyAt_83 ?_
              refine lv_iload_n hx hb dX9_keyAt_86 rfl (lv_at hl 0 rfl) ?_
              refine lv_iadd hx hb dX9_keyAt_87 ?_
              refine lv_topi (fun z_38 ez_38 => ?_)
              have iz_38 : z_38.toInt = b6.toInt + ((k9_15 : Nat) : Int) := toInt_addI ez_38 (rfl) (nI_toInt (by omega)) (by omega)
              refine lv_aload_n hx hb dX9_keyAt_88 rfl (lv_at hl 3 rfl) ?_
              refine va_get (D := D) (ci := 9) (v := .int b7) (C := RX9) (T := TX9) (N := 37) hx hb htg gRX9 hown hK hP 0 rfl rfl 7 (by decide) (htg _ wi_1157) (fun _ h9 => h9) rfl dX9_keyAt_89 ?_
              refine lv_icmp_ne (tgt := 97) hx hb dX9_keyAt_92 (by decide) (fun c_39 => ?_) (fun c_39 => ?_)
              · have ic_39 : ¬ z_38.toInt = b7.toInt := ine c_39 (rfl) (rfl)
                have hnmt : ¬ mtK tx b6.toInt b7.toInt x9_4_1.toInt.toNat = true := fun h => by rw [mtK_iff] at h; first | omega | (have h6 := h.2 k9_15 (by omega); have h7 := cB_is (hta.trans h6) (by have := ch_in x9_4_1.toInt.toNat hn13 k9_15; omega); omega)
                refine (fun (key : ∀ (n9_97 : Nat) (k9_97 : Int32)  (H : Heap) (locs : List Loc) (ls : Array Slot), (k9_4.toInt ≤ k9_97.toInt ∧ k9_97.toInt ≤ 70) → 70 < k9_97.toInt + n9_97 → k9_97.toInt - k9_4.toInt ≤ ((strL.getD x9_4_1.toInt.toNat 0 : Nat) : Int) → PD D A [(sw_9 h0 g b0 b5 b6 b7 b8 b9 b10 b11 b12 b13 b14 b17 b18 b19 b23 b24 b25 b26 b27 b29 b31 b32 b33), (sw_in cT (g 2) 900 a2)] H → va_S A s.heap H locs → lv_has ls 4 [(3, .int (nI k9_15)), (2, .int k9_97), (1, .int x9_4_1), (0, .ref h0)] → W p l e _ s m _ below meth c H locs _ _ _ (F0 m 97 ls [])) => key (Int.toNat (70 - k9_4.toInt) + 1) (k9_4)  _ _ _ (by omega) (by omega) (by first | assumption | omega | decide | (simp only [ti_0, ti_1, ti_2, ti_3, ti_4, ti_5, ti_6, ti_7, ti_8, ti_9, ti_10, ti_11, ti_12, ti_m1]; omega)) ⟨hP, hD⟩ hS (lv_sub hl [0, 1, 2, 3] rfl)) ?_
                intro n9_97
                induction n9_97 with
                | zero => intro k9_97  H locs ls hq1 hq2; exact absurd hq2 (by omega)
                | succ n9_97 ih_97 =>
                  intro k9_97  H locs ls hq1_97 hq2_97 h9_97_0 hPD hS hl
                  obtain ⟨hP, hD⟩ := hPD
                  refine va_ldcS (q := cT (10 + 13)) hx hb hown (hN.2.2.2.1 13 (by decide)) dX9_keyAt_97 ?_
                  refine lv_iload_n hx hb dX9_keyAt_99 rfl (lv_at hl 1 rfl) ?_
                  refine xk_i (wr := [(sw_9 h0 g b0 b5 b6 b7 b8 b9 b10 b11 b12 b13 b14 b17 b18 b19 b23 b24 b25 b26 b27 b29 b31 b32 b33), (sw_in cT (g 2) 900 a2)]) (xr_VS (n := 1) (As := [.int k9_97]) (rest := []) ⟨hx, hb, hml, hown, htg⟩ hK hN hP hD hS hA [] rfl (by decide) (g_s_charAtX l D cT _ (13) (by first | assumption | omega | decide | exact Or.inl (by decide) | (intro h9; exact absurd h9 (by decide)) | (intro _; omega) | (intro _; assumption) | (intro _; decide)) (k9_97) (by first | assumption | omega | decide | exact Or.inl (by decide) | (intro h9; exact absurd h9 (by decide)) | (intro _; omega) | (intro _; assumption) | (intro _; decide)) (by first | assumption | omega | decide | exact Or.inl (by decide) | (intro h9; exact absurd h9 (by decide)) | (intro _; omega) | (intro _; assumption) | (intro _; decide))) wi_1290 wi_569 wi_570 wi_134 wi_571 (vk_recv (i := 13) (adK := fun i => cT (10 + i)) (adV := fun i => cT (40 + i)) hN.2.2.2.2.1 (by decide) hS) ⟨rfl, by decide +kernel⟩ ⟨Nat.le_of_ble_eq_true rfl, Nat.le_of_ble_eq_true rfl⟩ rfl hl.1 rfl (Nat.le_of_ble_eq_true rfl) dX9_keyAt_100 ⟨Nat.le_of_ble_eq_true rfl, Nat.le_of_ble_eq_true rfl⟩) hP hD hS hA [] [0, 1] rfl rfl (by decide) (by decide) (fun r_41 u_40 H locs hwr_41 hP hD hS => ?_)
                  obtain ⟨hP, hD⟩ : PD D A [(sw_9 h0 g b0 b5 b6 b7 b8 b9 b10 b11 b12 b13 b14 b17 b18 b19 b23 b24 b25 b26 b27 b29 b31 b32 b33), (sw_in cT (g 2) 900 a2)] _ := ⟨hP, hD⟩
                  have qr_41_0 : narrow .char (.int r_41) = .int r_41 := hwr_41.1
                  have qr_41_1 : r_41.toInt = ((strB.getD 13 []).getD k9_97.toInt.toNat 0).toInt := hwr_41.2.1
                  have hcar_41 : ((k9_97.toInt - k9_4.toInt) < ((strL.getD x9_4_1.toInt.toNat 0 : Nat) : Int) ∧ r_41.toInt = chK x9_4_1.toInt.toNat ((k9_97.toInt - k9_4.toInt)).toNat ∧ ¬ r_41.toInt = 32) ∨ ((k9_97.toInt - k9_4.toInt) = ((strL.getD x9_4_1.toInt.toNat 0 : Nat) : Int) ∧ r_41.toInt = 32) := by
                    rcases (show (k9_97.toInt - k9_4.toInt) < ((strL.getD x9_4_1.toInt.toNat 0 : Nat) : Int) ∨ (k9_97.toInt - k9_4.toInt) = ((strL.getD x9_4_1.toInt.toNat 0 : Nat) : Int) from by omega) with h | h
                    · have h1 := keys_ch x9_4_1.toInt.toNat hn13 ((k9_97.toInt - k9_4.toInt)).toNat (by omega); rw [show kpos x9_4_1.toInt.toNat + ((k9_97.toInt - k9_4.toInt)).toNat = k9_97.toInt.toNat from by omega] at h1; have h3 : r_41.toInt = chK x9_4_1.toInt.toNat ((k9_97.toInt - k9_4.toInt)).toNat := qr_41_1.trans h1.1; exact Or.inl ⟨h, h3, by omega⟩
                    · have h1 := hsp.1; rw [show kpos x9_4_1.toInt.toNat + strL.getD x9_4_1.toInt.toNat 0 = k9_97.toInt.toNat from by omega] at h1; exact Or.inr ⟨h, qr_41_1.trans h1⟩
                  refine lv_bipush (v := 32) hx hb dX9_keyAt_103 (by decide) ?_
                  refine lv_icmp_eq (tgt := 114) hx hb dX9_keyAt_105 (by decide) (fun c_42 => ?_) (fun c_42 => ?_)
                  · have ic_42 : r_41.toInt = 32 := ieq c_42 (rfl) (by decide)
                    obtain ⟨z_43, ez_43⟩ : ∃ w : Int32, w = k9_97 + 1 := ⟨_, rfl⟩
                    have iz_43 : z_43.toInt = k9_97.toInt + 1 := toInt_addI ez_43 (rfl) (by decide) (by omega)
                    refine lv_iinc (v := z_43) (lv' := [(2, .int z_43), (3, .int (nI k9_15)), (1, .int x9_4_1), (0, .ref h0)]) hx hb dX9_keyAt_114 hl (k := 1) rfl (by rw [ez_43]; rfl) (by decide) rfl (fun ls hl => ?_)
                    obtain ⟨z_44, ez_44⟩ : ∃ w : Int32, w = x9_4_1 + 1 := ⟨_, rfl⟩
                    have iz_44 : z_44.toInt = x9_4_1.toInt + 1 := toInt_addI ez_44 (rfl) (by decide) (by omega)
                    refine lv_iinc (v := z_44) (lv' := [(1, .int z_44), (2, .int z_43), (3, .int (nI k9_15)), (0, .ref h0)]) hx hb dX9_keyAt_117 hl (k := 2) rfl (by rw [ez_44]; rfl) (by decide) rfl (fun ls hl => ?_)
                    refine lv_goto (tgt := 4) hx hb dX9_keyAt_120 (by decide) ?_
                    have h4n : z_44.toInt.toNat = x9_4_1.toInt.toNat + 1 := by omega
                    have h4a : z_43.toInt = ((kpos z_44.toInt.toNat : Nat) : Int) := by rw [h4n]; omega
                    have h4b : ∀ i : Nat, (i : Int) < z_44.toInt → ¬ mtK tx b6.toInt b7.toInt i = true := fun i h => by rcases (show (i : Int) < x9_4_1.toInt ∨ i = x9_4_1.toInt.toNat from by omega) with h1 | h1; exact h9_4_1 i h1; rw [h1]; exact hnmt
                    exact ih_4 (z_43) _ _ _ _ (by omega) (by omega) (by first | assumption | omega | decide | (simp only [ti_0, ti_1, ti_2, ti_3, ti_4, ti_5, ti_6, ti_7, ti_8, ti_9, ti_10, ti_11, ti_12, ti_m1]; omega)) (by first | assumption | omega | decide | (simp only [ti_0, ti_1, ti_2, ti_3, ti_4, ti_5, ti_6, ti_7, ti_8, ti_9, ti_10, ti_11, ti_12, ti_m1]; omega)) (by first | assumption | omega | decide | (simp only [ti_0, ti_1, ti_2, ti_3, ti_4, ti_5, ti_6, ti_7, ti_8, ti_9, ti_10, ti_11, ti_12, ti_m1]; omega)) ⟨hP.sub [0, 1] rfl, hD.sub [0, 1] (by decide) rfl⟩ hS (lv_sub hl [1, 0, 3] rfl)
                  · have ic_42 : ¬ r_41.toInt = 32 := ine c_42 (rfl) (by decide)
                    obtain ⟨z_45, ez_45⟩ : ∃ w : Int32, w = k9_97 + 1 := ⟨_, rfl⟩
                    have iz_45 : z_45.toInt = k9_97.toInt + 1 := toInt_addI ez_45 (rfl) (by decide) (by omega)
                    refine lv_iinc (v := z_45) (lv' := [(2, .int z_45), (3, .int (nI k9_15)), (1, .int x9_4_1), (0, .ref h0)]) hx hb dX9_keyAt_108 hl (k := 1) rfl (by rw [ez_45]; rfl) (by decide) rfl (fun ls hl => ?_)
                    refine lv_goto (tgt := 97) hx hb dX9_keyAt_111 (by decide) ?_
                    exact ih_97 (z_45)  _ _ _ (by omega) (by omega) (by first | assumption | omega | decide | (simp only [ti_0, ti_1, ti_2, ti_3, ti_4, ti_5, ti_6, ti_7, ti_8, ti_9, ti_10, ti_11, ti_12, ti_m1]; omega)) ⟨hP.sub [0, 1] rfl, hD.sub [0, 1] (by decide) rfl⟩ hS (lv_sub hl [1, 0, 2, 3] rfl)
              · have ic_39 : z_38.toInt = b7.toInt := ieq c_39 (rfl) (rfl)
                refine lv_iload_n hx hb dX9_keyAt_95 rfl (lv_at hl 2 rfl) ?_
                exact x_iret hx hb hr hlk hP hD hS [0, 1] (()) rfl (by decide) ⟨(by have h5 : mtK tx b6.toInt b7.toInt x9_4_1.toInt.toNat = true := mtK_iff.mpr ⟨by omega, fun j hj => (h9_15_1 j (by omega)).2⟩; rw [keyF_is hn13 h5]; omega), trivial⟩ (by decide) (by decide) dX9_keyAt_96
          · have ic_27 : z_26.toInt < b7.toInt := inle c_27 (rfl) (rfl)
            refine lv_aload_n hx hb dX9_keyAt_41 rfl (lv_at hl 3 rfl) ?_
            refine va_get (D := D) (ci := 9) (v := .ref (g 2)) (C := RX9) (T := TX9) (N := 37) hx hb htg gRX9 hown hK hP 0 rfl rfl 3 (by decide) (htg _ wi_1153) (fun _ h9 => h9) rfl dX9_keyAt_42 ?_
            refine lv_aload_n hx hb dX9_keyAt_45 rfl (lv_at hl 3 rfl) ?_
            refine va_get (D := D) (ci := 9) (v := .int b6) (C := RX9) (T := TX9) (N := 37) hx hb htg gRX9 hown hK hP 0 rfl rfl 6 (by decide) (htg _ wi_1156) (fun _ h9 => h9) rfl dX9_keyAt_46 ?_
            refine lv_iload_n hx hb dX9_keyAt_49 rfl (lv_at hl 0 rfl) ?_
            refine lv_iadd hx hb dX9_keyAt_50 ?_
            refine lv_topi (fun z_46 ez_46 => ?_)
            have iz_46 : z_46.toInt = b6.toInt + ((k9_15 : Nat) : Int) := toInt_addI ez_46 (rfl) (nI_toInt (by omega)) (by omega)
            refine va_iald hx hb hK hP 1 0 rfl rfl (vp_in_iff.mpr (by omega)) dX9_keyAt_51 ?_
            refine lv_topi (fun z_47 ez_47 => ?_)
            refine va_ldcS (q := cT (10 + 13)) hx hb hown (hN.2.2.2.1 13 (by decide)) dX9_keyAt_52 ?_
            refine lv_iload_n hx hb dX9_keyAt_54 rfl (lv_at hl 1 rfl) ?_
            refine lv_iload_n hx hb dX9_keyAt_55 rfl (lv_at hl 0 rfl) ?_
            refine lv_iadd hx hb dX9_keyAt_56 ?_
            refine lv_topi (fun z_48 ez_48 => ?_)
            have iz_48 : z_48.toInt = k9_4.toInt + ((k9_15 : Nat) : Int) := toInt_addI ez_48 (rfl) (nI_toInt (by omega)) (by omega)
            refine xk_i (wr := [(sw_9 h0 g b0 b5 b6 b7 b8 b9 b10 b11 b12 b13 b14 b17 b18 b19 b23 b24 b25 b26 b27 b29 b31 b32 b33), (sw_in cT (g 2) 900 a2)]) (xr_VS (n := 1) (As := [.int z_48]) (rest := [.int z_47]) ⟨hx, hb, hml, hown, htg⟩ hK hN hP hD hS hA [] rfl (by decide) (g_s_charAtX l D cT _ (13) (by first | assumption | omega | decide | exact Or.inl (by decide) | (intro h9; exact absurd h9 (by decide)) | (intro _; omega) | (intro _; assumption) | (intro _; decide)) (z_48) (by first | assumption | omega | decide | exact Or.inl (by decide) | (intro h9; exact absurd h9 (by decide)) | (intro _; omega) | (intro _; assumption) | (intro _; decide)) (by first | assumption | omega | decide | exact Or.inl (by decide) | (intro h9; exact absurd h9 (by decide)) | (intro _; omega) | (intro _; assumption) | (intro _; decide))) wi_1290 wi_569 wi_570 wi_134 wi_571 (vk_recv (i := 13) (adK := fun i => cT (10 + i)) (adV := fun i => cT (40 + i)) hN.2.2.2.2.1 (by decide) hS) ⟨rfl, by decide +kernel⟩ ⟨Nat.le_of_ble_eq_true rfl, Nat.le_of_ble_eq_true rfl⟩ rfl hl.1 rfl (Nat.le_of_ble_eq_true rfl) dX9_keyAt_57 ⟨Nat.le_of_ble_eq_true rfl, Nat.le_of_ble_eq_true rfl⟩) hP hD hS hA [] [0, 1] rfl rfl (by decide) (by decide) (fun r_50 u_49 H locs hwr_50 hP hD hS => ?_)
            obtain ⟨hP, hD⟩ : PD D A [(sw_9 h0 g b0 b5 b6 b7 b8 b9 b10 b11 b12 b13 b14 b17 b18 b19 b23 b24 b25 b26 b27 b29 b31 b32 b33), (sw_in cT (g 2) 900 a2)] _ := ⟨hP, hD⟩
            have qr_50_0 : narrow .char (.int r_50) = .int r_50 := hwr_50.1
            have qr_50_1 : r_50.toInt = ((strB.getD 13 []).getD z_48.toInt.toNat 0).toInt := hwr_50.2.1
            have hcar_50 : ((k9_15 : Int) < ((strL.getD x9_4_1.toInt.toNat 0 : Nat) : Int) ∧ r_50.toInt = chK x9_4_1.toInt.toNat ((k9_15 : Int)).toNat ∧ ¬ r_50.toInt = 32) ∨ ((k9_15 : Int) = ((strL.getD x9_4_1.toInt.toNat 0 : Nat) : Int) ∧ r_50.toInt = 32) := by
              rcases (show (k9_15 : Int) < ((strL.getD x9_4_1.toInt.toNat 0 : Nat) : Int) ∨ (k9_15 : Int) = ((strL.getD x9_4_1.toInt.toNat 0 : Nat) : Int) from by omega) with h | h
              · have h1 := keys_ch x9_4_1.toInt.toNat hn13 ((k9_15 : Int)).toNat (by omega); rw [show kpos x9_4_1.toInt.toNat + ((k9_15 : Int)).toNat = z_48.toInt.toNat from by omega] at h1; have h3 : r_50.toInt = chK x9_4_1.toInt.toNat ((k9_15 : Int)).toNat := qr_50_1.trans h1.1; exact Or.inl ⟨h, h3, by omega⟩
              · have h1 := hsp.1; rw [show kpos x9_4_1.toInt.toNat + strL.getD x9_4_1.toInt.toNat 0 = z_48.toInt.toNat from by omega] at h1; exact Or.inr ⟨h, qr_50_1.trans h1⟩
            have hcnr_50 : ((k9_15 : Int)).toNat = k9_15 := by omega
            rw [hcnr_50] at hcar_50
            have hta : cB z_47.toInt = tx (b6.toInt + (k9_15 : Int)).toNat := TXc_at hT ez_47 (a := b6.toInt + (k9_15 : Int)) (by omega) (by omega)
            refine lv_icmp_ne (tgt := 69) hx hb dX9_keyAt_60 (by decide) (fun c_51 => ?_) (fun c_51 => ?_)
            · have ic_51 : ¬ z_47.toInt = r_50.toInt := ine c_51 (rfl) (rfl)
              refine va_ldcS (q := cT (10 + 13)) hx hb hown (hN.2.2.2.1 13 (by decide)) dX9_keyAt_69 ?_
              refine lv_iload_n hx hb dX9_keyAt_71 rfl (lv_at hl 1 rfl) ?_
              refine lv_iload_n hx hb dX9_keyAt_72 rfl (lv_at hl 0 rfl) ?_
              refine lv_iadd hx hb dX9_keyAt_73 ?_
              refine lv_topi (fun z_52 ez_52 => ?_)
              have iz_52 : z_52.toInt = k9_4.toInt + ((k9_15 : Nat) : Int) := toInt_addI ez_52 (rfl) (nI_toInt (by omega)) (by omega)
              refine xk_i (wr := [(sw_9 h0 g b0 b5 b6 b7 b8 b9 b10 b11 b12 b13 b14 b17 b18 b19 b23 b24 b25 b26 b27 b29 b31 b32 b33), (sw_in cT (g 2) 900 a2)]) (xr_VS (n := 1) (As := [.int z_52]) (rest := []) ⟨hx, hb, hml, hown, htg⟩ hK hN hP hD hS hA [] rfl (by decide) (g_s_charAtX l D cT _ (13) (by first | assumption | omega | decide | exact Or.inl (by decide) | (intro h9; exact absurd h9 (by decide)) | (intro _; omega) | (intro _; assumption) | (intro _; decide)) (z_52) (by first | assumption | omega | decide | exact Or.inl (by decide) | (intro h9; exact absurd h9 (by decide)) | (intro _; omega) | (intro _; assumption) | (intro _; decide)) (by first | assumption | omega | decide | exact Or.inl (by decide) | (intro h9; exact absurd h9 (by decide)) | (intro _; omega) | (intro _; assumption) | (intro _; decide))) wi_1290 wi_569 wi_570 wi_134 wi_571 (vk_recv (i := 13) (adK := fun i => cT (10 + i)) (adV := fun i => cT (40 + i)) hN.2.2.2.2.1 (by decide) hS) ⟨rfl, by decide +kernel⟩ ⟨Nat.le_of_ble_eq_true rfl, Nat.le_of_ble_eq_true rfl⟩ rfl hl.1 rfl (Nat.le_of_ble_eq_true rfl) dX9_keyAt_74 ⟨Nat.le_of_ble_eq_true rfl, Nat.le_of_ble_eq_true rfl⟩) hP hD hS hA [] [0, 1] rfl rfl (by decide) (by decide) (fun r_54 u_53 H locs hwr_54 hP hD hS => ?_)
              obtain ⟨hP, hD⟩ : PD D A [(sw_9 h0 g b0 b5 b6 b7 b8 b9 b10 b11 b12 b13 b14 b17 b18 b19 b23 b24 b25 b26 b27 b29 b31 b32 b33), (sw_in cT (g 2) 900 a2)] _ := ⟨hP, hD⟩
              have qr_54_0 : narrow .char (.int r_54) = .int r_54 := hwr_54.1
              have qr_54_1 : r_54.toInt = ((strB.getD 13 []).getD z_52.toInt.toNat 0).toInt := hwr_54.2.1
              have hcar_54 : ((k9_15 : Int) < ((strL.getD x9_4_1.toInt.toNat 0 : Nat) : Int) ∧ r_54.toInt = chK x9_4_1.toInt.toNat ((k9_15 : Int)).toNat ∧ ¬ r_54.toInt = 32) ∨ ((k9_15 : Int) = ((strL.getD x9_4_1.toInt.toNat 0 : Nat) : Int) ∧ r_54.toInt = 32) := by
                rcases (show (k9_15 : Int) < ((strL.getD x9_4_1.toInt.toNat 0 : Nat) : Int) ∨ (k9_15 : Int) = ((strL.getD x9_4_1.toInt.toNat 0 : Nat) : Int) from by omega) with h | h
                · have h1 := keys_ch x9_4_1.toInt.toNat hn13 ((k9_15 : Int)).toNat (by omega); rw [show kpos x9_4_1.toInt.toNat + ((k9_15 : Int)).toNat = z_52.toInt.toNat from by omega] at h1; have h3 : r_54.toInt = chK x9_4_1.toInt.toNat ((k9_15 : Int)).toNat := qr_54_1.trans h1.1; exact Or.inl ⟨h, h3, by omega⟩
                · have h1 := hsp.1; rw [show kpos x9_4_1.toInt.toNat + strL.getD x9_4_1.toInt.toNat 0 = z_52.toInt.toNat from by omega] at h1; exact Or.inr ⟨h, qr_54_1.trans h1⟩
              have hcnr_54 : ((k9_15 : Int)).toNat = k9_15 := by omega
              rw [hcnr_54] at hcar_54
              refine lv_bipush (v := 32) hx hb dX9_keyAt_77 (by decide) ?_
              refine lv_icmp_ne (tgt := 97) hx hb dX9_keyAt_79 (by decide) (fun c_55 => ?_) (fun c_55 => ?_)
              · have ic_55 : ¬ r_54.toInt = 32 := ine c_55 (rfl) (by decide)
                have hnmt : ¬ mtK tx b6.toInt b7.toInt x9_4_1.toInt.toNat = true := fun h => by rw [mtK_iff] at h; first | omega | (have h6 := h.2 k9_15 (by omega); have h7 := cB_is (hta.trans h6) (by have := ch_in x9_4_1.toInt.toNat hn13 k9_15; omega); omega)
                refine (fun (key : ∀ (n9_97 : Nat) (k9_97 : Int32)  (H : Heap) (locs : List Loc) (ls : Array Slot), (k9_4.toInt ≤ k9_97.toInt ∧ k9_97.toInt ≤ 70) → 70 < k9_97.toInt + n9_97 → k9_97.toInt - k9_4.toInt ≤ ((strL.getD x9_4_1.toInt.toNat 0 : Nat) : Int) → PD D A [(sw_9 h0 g b0 b5 b6 b7 b8 b9 b10 b11 b12 b13 b14 b17 b18 b19 b23 b24 b25 b26 b27 b29 b31 b32 b33), (sw_in cT (g 2) 900 a2)] H → va_S A s.heap H locs → lv_has ls 4 [(3, .int (nI k9_15)), (2, .int k9_97), (1, .int x9_4_1), (0, .ref h0)] → W p l e _ s m _ below meth c H locs _ _ _ (F0 m 97 ls [])) => key (Int.toNat (70 - k9_4.toInt) + 1) (k9_4)  _ _ _ (by omega) (by omega) (by first | assumption | omega | decide | (simp only [ti_0, ti_1, ti_2, ti_3, ti_4, ti_5, ti_6, ti_7, ti_8, ti_9, ti_10, ti_11, ti_12, ti_m1]; omega)) ⟨hP, hD⟩ hS (lv_sub hl [0, 1, 2, 3] rfl)) ?_
                intro n9_97
                induction n9_97 with
                | zero => intro k9_97  H locs ls hq1 hq2; exact absurd hq2 (by omega)
                | succ n9_97 ih_97 =>
                  intro k9_97  H locs ls hq1_97 hq2_97 h9_97_0 hPD hS hl
                  obtain ⟨hP, hD⟩ := hPD
                  refine va_ldcS (q := cT (10 + 13)) hx hb hown (hN.2.2.2.1 13 (by decide)) dX9_keyAt_97 ?_
                  refine lv_iload_n hx hb dX9_keyAt_99 rfl (lv_at hl 1 rfl) ?_
                  refine xk_i (wr := [(sw_9 h0 g b0 b5 b6 b7 b8 b9 b10 b11 b12 b13 b14 b17 b18 b19 b23 b24 b25 b26 b27 b29 b31 b32 b33), (sw_in cT (g 2) 900 a2)]) (xr_VS (n := 1) (As := [.int k9_97]) (rest := []) ⟨hx, hb, hml, hown, htg⟩ hK hN hP hD hS hA [] rfl (by decide) (g_s_charAtX l D cT _ (13) (by first | assumption | omega | decide | exact Or.inl (by decide) | (intro h9; exact absurd h9 (by decide)) | (intro _; omega) | (intro _; assumption) | (intro _; decide)) (k9_97) (by first | assumption | omega | decide | exact Or.inl (by decide) | (intro h9; exact absurd h9 (by decide)) | (intro _; omega) | (intro _; assumption) | (intro _; decide)) (by first | assumption | omega | decide | exact Or.inl (by decide) | (intro h9; exact absurd h9 (by decide)) | (intro _; omega) | (intro _; assumption) | (intro _; decide))) wi_1290 wi_569 wi_570 wi_134 wi_571 (vk_recv (i := 13) (adK := fun i => cT (10 + i)) (adV := fun i => cT (40 + i)) hN.2.2.2.2.1 (by decide) hS) ⟨rfl, by decide +kernel⟩ ⟨Nat.le_of_ble_eq_true rfl, Nat.le_of_ble_eq_true rfl⟩ rfl hl.1 rfl (Nat.le_of_ble_eq_true rfl) dX9_keyAt_100 ⟨Nat.le_of_ble_eq_true rfl, Nat.le_of_ble_eq_true rfl⟩) hP hD hS hA [] [0, 1] rfl rfl (by decide) (by decide) (fun r_57 u_56 H locs hwr_57 hP hD hS => ?_)
                  obtain ⟨hP, hD⟩ : PD D A [(sw_9 h0 g b0 b5 b6 b7 b8 b9 b10 b11 b12 b13 b14 b17 b18 b19 b23 b24 b25 b26 b27 b29 b31 b32 b33), (sw_in cT (g 2) 900 a2)] _ := ⟨hP, hD⟩
                  have qr_57_0 : narrow .char (.int r_57) = .int r_57 := hwr_57.1
                  have qr_57_1 : r_57.toInt = ((strB.getD 13 []).getD k9_97.toInt.toNat 0).toInt := hwr_57.2.1
                  have hcar_57 : ((k9_97.toInt - k9_4.toInt) < ((strL.getD x9_4_1.toInt.toNat 0 : Nat) : Int) ∧ r_57.toInt = chK x9_4_1.toInt.toNat ((k9_97.toInt - k9_4.toInt)).toNat ∧ ¬ r_57.toInt = 32) ∨ ((k9_97.toInt - k9_4.toInt) = ((strL.getD x9_4_1.toInt.toNat 0 : Nat) : Int) ∧ r_57.toInt = 32) := by
                    rcases (show (k9_97.toInt - k9_4.toInt) < ((strL.getD x9_4_1.toInt.toNat 0 : Nat) : Int) ∨ (k9_97.toInt - k9_4.toInt) = ((strL.getD x9_4_1.toInt.toNat 0 : Nat) : Int) from by omega) with h | h
                    · have h1 := keys_ch x9_4_1.toInt.toNat hn13 ((k9_97.toInt - k9_4.toInt)).toNat (by omega); rw [show kpos x9_4_1.toInt.toNat + ((k9_97.toInt - k9_4.toInt)).toNat = k9_97.toInt.toNat from by omega] at h1; have h3 : r_57.toInt = chK x9_4_1.toInt.toNat ((k9_97.toInt - k9_4.toInt)).toNat := qr_57_1.trans h1.1; exact Or.inl ⟨h, h3, by omega⟩
                    · have h1 := hsp.1; rw [show kpos x9_4_1.toInt.toNat + strL.getD x9_4_1.toInt.toNat 0 = k9_97.toInt.toNat from by omega] at h1; exact Or.inr ⟨h, qr_57_1.trans h1⟩
                  refine lv_bipush (v := 32) hx hb dX9_keyAt_103 (by decide) ?_
                  refine lv_icmp_eq (tgt := 114) hx hb dX9_keyAt_105 (by decide) (fun c_58 => ?_) (fun c_58 => ?_)
                  · have ic_58 : r_57.toInt = 32 := ieq c_58 (rfl) (by decide)
                    obtain ⟨z_59, ez_59⟩ : ∃ w : Int32, w = k9_97 + 1 := ⟨_, rfl⟩
                    have iz_59 : z_59.toInt = k9_97.toInt + 1 := toInt_addI ez_59 (rfl) (by decide) (by omega)
                    refine lv_iinc (v := z_59) (lv' := [(2, .int z_59), (3, .int (nI k9_15)), (1, .int x9_4_1), (0, .ref h0)]) hx hb dX9_keyAt_114 hl (k := 1) rfl (by rw [ez_59]; rfl) (by decide) rfl (fun ls hl => ?_)
                    obtain ⟨z_60, ez_60⟩ : ∃ w : Int32, w = x9_4_1 + 1 := ⟨_, rfl⟩
                    have iz_60 : z_60.toInt = x9_4_1.toInt + 1 := toInt_addI ez_60 (rfl) (by decide) (by omega)
                    refine lv_iinc (v := z_60) (lv' := [(1, .int z_60), (2, .int z_59), (3, .int (nI k9_15)), (0, .ref h0)]) hx hb dX9_keyAt_117 hl (k := 2) rfl (by rw [ez_60]; rfl) (by decide) rfl (fun ls hl => ?_)
                    refine lv_goto (tgt := 4) hx hb dX9_keyAt_120 (by decide) ?_
                    have h4n : z_60.toInt.toNat = x9_4_1.toInt.toNat + 1 := by omega
                    have h4a : z_59.toInt = ((kpos z_60.toInt.toNat : Nat) : Int) := by rw [h4n]; omega
                    have h4b : ∀ i : Nat, (i : Int) < z_60.toInt → ¬ mtK tx b6.toInt b7.toInt i = true := fun i h => by rcases (show (i : Int) < x9_4_1.toInt ∨ i = x9_4_1.toInt.toNat from by omega) with h1 | h1; exact h9_4_1 i h1; rw [h1]; exact hnmt
                    exact ih_4 (z_59) _ _ _ _ (by omega) (by omega) (by first | assumption | omega | decide | (simp only [ti_0, ti_1, ti_2, ti_3, ti_4, ti_5, ti_6, ti_7, ti_8, ti_9, ti_10, ti_11, ti_12, ti_m1]; omega)) (by first | assumption | omega | decide | (simp only [ti_0, ti_1, ti_2, ti_3, ti_4, ti_5, ti_6, ti_7, ti_8, ti_9, ti_10, ti_11, ti_12, ti_m1]; omega)) (by first | assumption | omega | decide | (simp only [ti_0, ti_1, ti_2, ti_3, ti_4, ti_5, ti_6, ti_7, ti_8, ti_9, ti_10, ti_11, ti_12, ti_m1]; omega)) ⟨hP.sub [0, 1] rfl, hD.sub [0, 1] (by decide) rfl⟩ hS (lv_sub hl [1, 0, 3] rfl)
                  · have ic_58 : ¬ r_57.toInt = 32 := ine c_58 (rfl) (by decide)
                    obtain ⟨z_61, ez_61⟩ : ∃ w : Int32, w = k9_97 + 1 := ⟨_, rfl⟩
                    have iz_61 : z_61.toInt = k9_97.toInt + 1 := toInt_addI ez_61 (rfl) (by decide) (by omega)
                    refine lv_iinc (v := z_61) (lv' := [(2, .int z_61), (3, .int (nI k9_15)), (1, .int x9_4_1), (0, .ref h0)]) hx hb dX9_keyAt_108 hl (k := 1) rfl (by rw [ez_61]; rfl) (by decide) rfl (fun ls hl => ?_)
                    refine lv_goto (tgt := 97) hx hb dX9_keyAt_111 (by decide) ?_
                    exact ih_97 (z_61)  _ _ _ (by omega) (by omega) (by first | assumption | omega | decide | (simp only [ti_0, ti_1, ti_2, ti_3, ti_4, ti_5, ti_6, ti_7, ti_8, ti_9, ti_10, ti_11, ti_12, ti_m1]; omega)) ⟨hP.sub [0, 1] rfl, hD.sub [0, 1] (by decide) rfl⟩ hS (lv_sub hl [1, 0, 2, 3] rfl)
              · have ic_55 : r_54.toInt = 32 := ieq c_55 (rfl) (by decide)
                refine lv_aload_n hx hb dX9_keyAt_82 rfl (lv_at hl 3 rfl) ?_
                refine va_get (D := D) (ci := 9) (v := .int b6) (C := RX9) (T := TX9) (N := 37) hx hb htg gRX9 hown hK hP 0 rfl rfl 6 (by decide) (htg _ wi_1156) (fun _ h9 => h9) rfl dX9_keyAt_83 ?_
                refine lv_iload_n hx hb dX9_keyAt_86 rfl (lv_at hl 0 rfl) ?_
                refine lv_iadd hx hb dX9_keyAt_87 ?_
                refine lv_topi (fun z_62 ez_62 => ?_)
                have iz_62 : z_62.toInt = b6.toInt + ((k9_15 : Nat) : Int) := toInt_addI ez_62 (rfl) (nI_toInt (by omega)) (by omega)
                refine lv_aload_n hx hb dX9_keyAt_88 rfl (lv_at hl 3 rfl) ?_
                refine va_get (D := D) (ci := 9) (v := .int b7) (C := RX9) (T := TX9) (N := 37) hx hb htg gRX9 hown hK hP 0 rfl rfl 7 (by decide) (htg _ wi_1157) (fun _ h9 => h9) rfl dX9_keyAt_89 ?_
                refine lv_icmp_ne (tgt := 97) hx hb dX9_keyAt_92 (by decide) (fun c_63 => ?_) (fun c_63 => ?_)
                · have ic_63 : ¬ z_62.toInt = b7.toInt := ine c_63 (rfl) (rfl)
                  have hnmt : ¬ mtK tx b6.toInt b7.toInt x9_4_1.toInt.toNat = true := fun h => by rw [mtK_iff] at h; first | omega | (have h6 := h.2 k9_15 (by omega); have h7 := cB_is (hta.trans h6) (by have := ch_in x9_4_1.toInt.toNat hn13 k9_15; omega); omega)
                  refine (fun (key : ∀ (n9_97 : Nat) (k9_97 : Int32)  (H : Heap) (locs : List Loc) (ls : Array Slot), (k9_4.toInt ≤ k9_97.toInt ∧ k9_97.toInt ≤ 70) → 70 < k9_97.toInt + n9_97 → k9_97.toInt - k9_4.toInt ≤ ((strL.getD x9_4_1.toInt.toNat 0 : Nat) : Int) → PD D A [(sw_9 h0 g b0 b5 b6 b7 b8 b9 b10 b11 b12 b13 b14 b17 b18 b19 b23 b24 b25 b26 b27 b29 b31 b32 b33), (sw_in cT (g 2) 900 a2)] H → va_S A s.heap H locs → lv_has ls 4 [(3, .int (nI k9_15)), (2, .int k9_97), (1, .int x9_4_1), (0, .ref h0)] → W p l e _ s m _ below meth c H locs _ _ _ (F0 m 97 ls [])) => key (Int.toNat (70 - k9_4.toInt) + 1) (k9_4)  _ _ _ (by omega) (by omega) (by first | assumption | omega | decide | (simp only [ti_0, ti_1, ti_2, ti_3, ti_4, ti_5, ti_6, ti_7, ti_8, ti_9, ti_10, ti_11, ti_12, ti_m1]; omega)) ⟨hP, hD⟩ hS (lv_sub hl [0, 1, 2, 3] rfl)) ?_
                  intro n9_97
                  induction n9_97 with
                  | zero => intro k9_97  H locs ls hq1 hq2; exact absurd hq2 (by omega)
                  | succ n9_97 ih_97 =>
                    intro k9_97  H locs ls hq1_97 hq2_97 h9_97_0 hPD hS hl
                    obtain ⟨hP, hD⟩ := hPD
                    refine va_ldcS (q := cT (10 + 13)) hx hb hown (hN.2.2.2.1 13 (by decide)) dX9_keyAt_97 ?_
                    refine lv_iload_n hx hb dX9_keyAt_99 rfl (lv_at hl 1 rfl) ?_
                    refine xk_i (wr := [(sw_9 h0 g b0 b5 b6 b7 b8 b9 b10 b11 b12 b13 b14 b17 b18 b19 b23 b24 b25 b26 b27 b29 b31 b32 b33), (sw_in cT (g 2) 900 a2)]) (xr_VS (n := 1) (As := [.int k9_97]) (rest := []) ⟨hx, hb, hml, hown, htg⟩ hK hN hP hD hS hA [] rfl (by decide) (g_s_charAtX l D cT _ (13) (by first | assumption | omega | decide | exact Or.inl (by decide) | (intro h9; exact absurd h9 (by decide)) | (intro _; omega) | (intro _; assumption) | (intro _; decide)) (k9_97) (by first | assumption | omega | decide | exact Or.inl (by decide) | (intro h9; exact absurd h9 (by decide)) | (intro _; omega) | (intro _; assumption) | (intro _; decide)) (by first | assumption | omega | decide | exact Or.inl (by decide) | (intro h9; exact absurd h9 (by decide)) | (intro _; omega) | (intro _; assumption) | (intro _; decide))) wi_1290 wi_569 wi_570 wi_134 wi_571 (vk_recv (i := 13) (adK := fun i => cT (10 + i)) (adV := fun i => cT (40 + i)) hN.2.2.2.2.1 (by decide) hS) ⟨rfl, by decide +kernel⟩ ⟨Nat.le_of_ble_eq_true rfl, Nat.le_of_ble_eq_true rfl⟩ rfl hl.1 rfl (Nat.le_of_ble_eq_true rfl) dX9_keyAt_100 ⟨Nat.le_of_ble_eq_true rfl, Nat.le_of_ble_eq_true rfl⟩) hP hD hS hA [] [0, 1] rfl rfl (by decide) (by decide) (fun r_65 u_64 H locs hwr_65 hP hD hS => ?_)
                    obtain ⟨hP, hD⟩ : PD D A [(sw_9 h0 g b0 b5 b6 b7 b8 b9 b10 b11 b12 b13 b14 b17 b18 b19 b23 b24 b25 b26 b27 b29 b31 b32 b33), (sw_in cT (g 2) 900 a2)] _ := ⟨hP, hD⟩
                    have qr_65_0 : narrow .char (.int r_65) = .int r_65 := hwr_65.1
                    have qr_65_1 : r_65.toInt = ((strB.getD 13 []).getD k9_97.toInt.toNat 0).toInt := hwr_65.2.1
                    have hcar_65 : ((k9_97.toInt - k9_4.toInt) < ((strL.getD x9_4_1.toInt.toNat 0 : Nat) : Int) ∧ r_65.toInt = chK x9_4_1.toInt.toNat ((k9_97.toInt - k9_4.toInt)).toNat ∧ ¬ r_65.toInt = 32) ∨ ((k9_97.toInt - k9_4.toInt) = ((strL.getD x9_4_1.toInt.toNat 0 : Nat) : Int) ∧ r_65.toInt = 32) := by
                      rcases (show (k9_97.toInt - k9_4.toInt) < ((strL.getD x9_4_1.toInt.toNat 0 : Nat) : Int) ∨ (k9_97.toInt - k9_4.toInt) = ((strL.getD x9_4_1.toInt.toNat 0 : Nat) : Int) from by omega) with h | h
                      · have h1 := keys_ch x9_4_1.toInt.toNat hn13 ((k9_97.toInt - k9_4.toInt)).toNat (by omega); rw [show kpos x9_4_1.toInt.toNat + ((k9_97.toInt - k9_4.toInt)).toNat = k9_97.toInt.toNat from by omega] at h1; have h3 : r_65.toInt = chK x9_4_1.toInt.toNat ((k9_97.toInt - k9_4.toInt)).toNat := qr_65_1.trans h1.1; exact Or.inl ⟨h, h3, by omega⟩
                      · have h1 := hsp.1; rw [show kpos x9_4_1.toInt.toNat + strL.getD x9_4_1.toInt.toNat 0 = k9_97.toInt.toNat from by omega] at h1; exact Or.inr ⟨h, qr_65_1.trans h1⟩
                    refine lv_bipush (v := 32) hx hb dX9_keyAt_103 (by decide) ?_
                    refine lv_icmp_eq (tgt := 114) hx hb dX9_keyAt_105 (by decide) (fun c_66 => ?_) (fun c_66 => ?_)
                    · have ic_66 : r_65.toInt = 32 := ieq c_66 (rfl) (by decide)
                      obtain ⟨z_67, ez_67⟩ : ∃ w : Int32, w = k9_97 + 1 := ⟨_, rfl⟩
                      have iz_67 : z_67.toInt = k9_97.toInt + 1 := toInt_addI ez_67 (rfl) (by decide) (by omega)
                      refine lv_iinc (v := z_67) (lv' := [(2, .int z_67), (3, .int (nI k9_15)), (1, .int x9_4_1), (0, .ref h0)]) hx hb dX9_keyAt_114 hl (k := 1) rfl (by rw [ez_67]; rfl) (by decide) rfl (fun ls hl => ?_)
                      obtain ⟨z_68, ez_68⟩ : ∃ w : Int32, w = x9_4_1 + 1 := ⟨_, rfl⟩
                      have iz_68 : z_68.toInt = x9_4_1.toInt + 1 := toInt_addI ez_68 (rfl) (by decide) (by omega)
                      refine lv_iinc (v := z_68) (lv' := [(1, .int z_68), (2, .int z_67), (3, .int (nI k9_15)), (0, .ref h0)]) hx hb dX9_keyAt_117 hl (k := 2) rfl (by rw [ez_68]; rfl) (by decide) rfl (fun ls hl => ?_)
                      refine lv_goto (tgt := 4) hx hb dX9_keyAt_120 (by decide) ?_
                      have h4n : z_68.toInt.toNat = x9_4_1.toInt.toNat + 1 := by omega
                      have h4a : z_67.toInt = ((kpos z_68.toInt.toNat : Nat) : Int) := by rw [h4n]; omega
                      have h4b : ∀ i : Nat, (i : Int) < z_68.toInt → ¬ mtK tx b6.toInt b7.toInt i = true := fun i h => by rcases (show (i : Int) < x9_4_1.toInt ∨ i = x9_4_1.toInt.toNat from by omega) with h1 | h1; exact h9_4_1 i h1; rw [h1]; exact hnmt
                      exact ih_4 (z_67) _ _ _ _ (by omega) (by omega) (by first | assumption | omega | decide | (simp only [ti_0, ti_1, ti_2, ti_3, ti_4, ti_5, ti_6, ti_7, ti_8, ti_9, ti_10, ti_11, ti_12, ti_m1]; omega)) (by first | assumption | omega | decide | (simp only [ti_0, ti_1, ti_2, ti_3, ti_4, ti_5, ti_6, ti_7, ti_8, ti_9, ti_10, ti_11, ti_12, ti_m1]; omega)) (by first | assumption | omega | decide | (simp only [ti_0, ti_1, ti_2, ti_3, ti_4, ti_5, ti_6, ti_7, ti_8, ti_9, ti_10, ti_11, ti_12, ti_m1]; omega)) ⟨hP.sub [0, 1] rfl, hD.sub [0, 1] (by decide) rfl⟩ hS (lv_sub hl [1, 0, 3] rfl)
                    · have ic_66 : ¬ r_65.toInt = 32 := ine c_66 (rfl) (by decide)
                      obtain ⟨z_69, ez_69⟩ : ∃ w : Int32, w = k9_97 + 1 := ⟨_, rfl⟩
                      have iz_69 : z_69.toInt = k9_97.toInt + 1 := toInt_addI ez_69 (rfl) (by decide) (by omega)
                      refine lv_iinc (v := z_69) (lv' := [(2, .int z_69), (3, .int (nI k9_15)), (1, .int x9_4_1), (0, .ref h0)]) hx hb dX9_keyAt_108 hl (k := 1) rfl (by rw [ez_69]; rfl) (by decide) rfl (fun ls hl => ?_)
                      refine lv_goto (tgt := 97) hx hb dX9_keyAt_111 (by decide) ?_
                      exact ih_97 (z_69)  _ _ _ (by omega) (by omega) (by first | assumption | omega | decide | (simp only [ti_0, ti_1, ti_2, ti_3, ti_4, ti_5, ti_6, ti_7, ti_8, ti_9, ti_10, ti_11, ti_12, ti_m1]; omega)) ⟨hP.sub [0, 1] rfl, hD.sub [0, 1] (by decide) rfl⟩ hS (lv_sub hl [1, 0, 2, 3] rfl)
                · have ic_63 : z_62.toInt = b7.toInt := ieq c_63 (rfl) (rfl)
                  refine lv_iload_n hx hb dX9_keyAt_95 rfl (lv_at hl 2 rfl) ?_
                  exact x_iret hx hb hr hlk hP hD hS [0, 1] (()) rfl (by decide) ⟨(by have h5 : mtK tx b6.toInt b7.toInt x9_4_1.toInt.toNat = true := mtK_iff.mpr ⟨by omega, fun j hj => (h9_15_1 j (by omega)).2⟩; rw [keyF_is hn13 h5]; omega), trivial⟩ (by decide) (by decide) dX9_keyAt_96
            · have ic_51 : z_47.toInt = r_50.toInt := ieq c_51 (rfl) (rfl)
              refine lv_iinc (v := (nI (k9_15 + 1))) (lv' := [(3, .int (nI (k9_15 + 1))), (2, .int k9_4), (1, .int x9_4_1), (0, .ref h0)]) hx hb dX9_keyAt_63 hl (k := 0) rfl (by exact nI_1 (k9_15)) (by decide) rfl (fun ls hl => ?_)
              refine lv_goto (tgt := 15) hx hb dX9_keyAt_66 (by decide) ?_
              have hin : ∀ j : Nat, j < k9_15 + 1 → b6.toInt + (j : Int) < b7.toInt ∧ tx (b6.toInt + (j : Int)).toNat = chK x9_4_1.toInt.toNat j := fun j h => by rcases (show j < k9_15 ∨ j = k9_15 from by omega) with h1 | h1; exact h9_15_1 j h1; rw [h1]; refine ⟨by omega, ?_⟩; have h2 : z_47.toInt = chK x9_4_1.toInt.toNat k9_15 := (by omega); rw [← hta, h2]; exact cB_in (ch_in x9_4_1.toInt.toNat hn13 k9_15)
              exact ih_15 (k9_15 + 1)  _ _ _ (by omega) (by omega) (by first | assumption | omega | decide | (simp only [ti_0, ti_1, ti_2, ti_3, ti_4, ti_5, ti_6, ti_7, ti_8, ti_9, ti_10, ti_11, ti_12, ti_m1]; omega)) (by first | assumption | omega | decide | (simp only [ti_0, ti_1, ti_2, ti_3, ti_4, ti_5, ti_6, ti_7, ti_8, ti_9, ti_10, ti_11, ti_12, ti_m1]; omega)) ⟨hP.sub [0, 1] rfl, hD.sub [0, 1] (by decide) rfl⟩ hS (lv_sub hl [0, 1, 2, 3] rfl)
