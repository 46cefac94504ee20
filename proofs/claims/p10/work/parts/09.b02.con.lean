set_option maxHeartbeats 4000000 in
set_option maxRecDepth 100000 in
theorem m_nextR (l : Launch) (D : va_G) (cT : Nat → ClassId) (sz : Nat) (h0 : Nat) (g : Nat → Nat) (b0 : Int32) (b5 : Int32) (b6 : Int32) (b7 : Int32) (b8 : Int32) (b9 : Int32) (b10 : Int32) (b11 : Int32) (b12 : Int32) (b13 : Int32) (b14 : Int32) (b17 : Int32) (b18 : Int32) (b19 : Int32) (b23 : Int32) (b24 : Int32) (b25 : Int32) (b26 : Int32) (b27 : Int32) (b29 : Int32) (b31 : Int32) (b32 : Int32) (b33 : Int32) (hb5 : 0 ≤ b5.toInt ∧ b5.toInt ≤ 900) (a2 : Nat → Int32) (hb8 : 0 ≤ b8.toInt ∧ b8.toInt ≤ 900) (hb7 : 0 ≤ b7.toInt ∧ b7.toInt ≤ b8.toInt) (tx : Nat → Int) (hT : TXc tx b8.toInt a2) (sg : Nat → Int) (rs1 : b7.toInt = (sg) 1) (rs4 : b11.toInt = (sg) 4) (rs5 : WR b12.toInt (sg)) : Met l yX9_next (wsc yX9_next cX9_next 1 none) { frames := 7, cells := 0, slots := 0, locals := 208 } (va_Pc [.ref h0] (PX D cT sz [(sw_9 h0 g b0 b5 b6 b7 b8 b9 b10 b11 b12 b13 b14 b17 b18 b19 b23 b24 b25 b26 b27 b29 b31 b32 b33), (sw_in cT (g 2) 900 a2)])) (va_Qv (fun (u : Int32 × Int32 × Int32 × Int32) => (0 ≤ u.2.1.toInt ∧ u.2.1.toInt ≤ 900) ∧ (b7.toInt ≤ u.2.1.toInt ∧ u.2.1.toInt ≤ b8.toInt) ∧ (Imp (u.2.2.1.toInt = 15) (b7.toInt < u.2.1.toInt ∨ b9.toInt = 15)) ∧ (u.1.toInt = (nxtF tx b8.toInt sg) 0) ∧ (u.2.1.toInt = (nxtF tx b8.toInt sg) 1) ∧ (u.2.2.1.toInt = (nxtF tx b8.toInt sg) 2) ∧ (NV u.2.2.2.toInt (nxtF tx b8.toInt sg)) ∧ (b11.toInt = (nxtF tx b8.toInt sg) 4) ∧ (WR b12.toInt (nxtF tx b8.toInt sg)) ∧ (True)) (fun u t => RW D (va_A [(sw_9 h0 g b0 b5 b6 b7 b8 b9 b10 b11 b12 b13 b14 b17 b18 b19 b23 b24 b25 b26 b27 b29 b31 b32 b33), (sw_in cT (g 2) 900 a2)] sz) ((fun u : Int32 × Int32 × Int32 × Int32 => [(sw_9 h0 g b0 b5 u.1 u.2.1 b8 u.2.2.1 u.2.2.2 b11 b12 b13 b14 b17 b18 b19 b23 b24 b25 b26 b27 b29 b31 b32 b33), (sw_in cT (g 2) 900 a2)]) u) t) (va_A [(sw_9 h0 g b0 b5 b6 b7 b8 b9 b10 b11 b12 b13 b14 b17 b18 b19 b23 b24 b25 b26 b27 b29 b31 b32 b33), (sw_in cT (g 2) 900 a2)] sz)) 0 0 (va_A [(sw_9 h0 g b0 b5 b6 b7 b8 b9 b10 b11 b12 b13 b14 b17 b18 b19 b23 b24 b25 b26 b27 b29 b31 b32 b33), (sw_in cT (g 2) 900 a2)] sz) := by
  refine m_of (y := yX9_next) (cc := cX9_next) (nL := 1) (ret := none) (D := D) (cT := cT) (av := [.ref h0]) (wi := [(sw_9 h0 g b0 b5 b6 b7 b8 b9 b10 b11 b12 b13 b14 b17 b18 b19 b23 b24 b25 b26 b27 b29 b31 b32 b33), (sw_in cT (g 2) 900 a2)]) (fun A => va_Qv (fun (u : Int32 × Int32 × Int32 × Int32) => (0 ≤ u.2.1.toInt ∧ u.2.1.toInt ≤ 900) ∧ (b7.toInt ≤ u.2.1.toInt ∧ u.2.1.toInt ≤ b8.toInt) ∧ (Imp (u.2.2.1.toInt = 15) (b7.toInt < u.2.1.toInt ∨ b9.toInt = 15)) ∧ (u.1.toInt = (nxtF tx b8.toInt sg) 0) ∧ (u.2.1.toInt = (nxtF tx b8.toInt sg) 1) ∧ (u.2.2.1.toInt = (nxtF tx b8.toInt sg) 2) ∧ (NV u.2.2.2.toInt (nxtF tx b8.toInt sg)) ∧ (b11.toInt = (nxtF tx b8.toInt sg) 4) ∧ (WR b12.toInt (nxtF tx b8.toInt sg)) ∧ (True)) (fun u t => RW D A ((fun u : Int32 × Int32 × Int32 × Int32 => [(sw_9 h0 g b0 b5 u.1 u.2.1 b8 u.2.2.1 u.2.2.2 b11 b12 b13 b14 b17 b18 b19 b23 b24 b25 b26 b27 b29 b31 b32 b33), (sw_in cT (g 2) 900 a2)]) u) t) A) (by decide) (Nat.le_of_ble_eq_true rfl) ?_
  intro p e s m below meth c A hx hb hml hown htg hK hN hr hlk hnm hsz hP hD hS hA ls hl
  have hown : s.vm.findClass RX9 = some m.cls := hown
  have hl : lv_has ls 1 [(0, .ref h0)] := hl
  have tc_0 : (0 : Int32).toInt = 0 := by decide
  have tc_1 : (1 : Int32).toInt = 1 := by decide
  have tc_3 : (3 : Int32).toInt = 3 := by decide
  have tc_10 : (10 : Int32).toInt = 10 := by decide
  have tc_14 : (14 : Int32).toInt = 14 := by decide
  have tc_15 : (15 : Int32).toInt = 15 := by decide
  have tc_16 : (16 : Int32).toInt = 16 := by decide
  have tc_17 : (17 : Int32).toInt = 17 := by decide
  have tc_32 : (32 : Int32).toInt = 32 := by decide
  have tc_48 : (48 : Int32).toInt = 48 := by decide
  have tc_59 : (59 : Int32).toInt = 59 := by decide
  refine lv_aload_n hx hb dX9_next_0 rfl (lv_at hl 0 rfl) ?_
  refine lv_aload_n hx hb dX9_next_1 rfl (lv_at hl 0 rfl) ?_
  refine va_get (D := D) (ci := 9) (v := .int b7) (C := RX9) (T := TX9) (N := 37) hx hb htg gRX9 hown hK hP 0 rfl rfl 7 (by decide) (htg _ wi_1157) (fun _ h9 => h9) rfl dX9_next_2 ?_
  refine va_put (D := D) (ci := 9) (v := .int b7) (ty := .int) (C := RX9) (T := TX9) (N := 37) hx hb htg gRX9 tyX9 tyX9_ok nmX9 hown hK hP hD hS 0 rfl rfl 6 (by decide) (htg _ wi_1156) (fun _ h9 => h9) rfl (by decide +kernel) rfl rfl (Nat.le_of_ble_eq_true rfl) dX9_next_5 (fun H locs hP hD hS => ?_)
  obtain ⟨hP, hD⟩ : PD D A [(sw_9 h0 g b0 b5 b7 b7 b8 b9 b10 b11 b12 b13 b14 b17 b18 b19 b23 b24 b25 b26 b27 b29 b31 b32 b33), (sw_in cT (g 2) 900 a2)] _ := ⟨hP, hD⟩
  have hin : ∀ j, b7.toInt ≤ j → j < b7.toInt → kdB tx b8.toInt j = 1 := fun j a b => absurd a (by omega)
  refine (fun (key : ∀ (n9_8 : Nat) (k9_8 : Int32)  (H : Heap) (locs : List Loc) (ls : Array Slot), (b7.toInt ≤ k9_8.toInt ∧ k9_8.toInt ≤ b8.toInt) → b8.toInt < k9_8.toInt + n9_8 → (∀ j, b7.toInt ≤ j → j < k9_8.toInt → kdB tx b8.toInt j = 1) → PD D A [(sw_9 h0 g b0 b5 k9_8 b7 b8 b9 b10 b11 b12 b13 b14 b17 b18 b19 b23 b24 b25 b26 b27 b29 b31 b32 b33), (sw_in cT (g 2) 900 a2)] H → va_S A s.heap H locs → lv_has ls 1 [(0, .ref h0)] → W p l e _ s m _ below meth c H locs _ _ _ (F0 m 8 ls [])) => key (Int.toNat (b8.toInt - b7.toInt) + 1) (b7)  _ _ _ (by omega) (by omega) (by first | assumption | omega | decide | (simp only [ti_0, ti_1, ti_2, ti_3, ti_4, ti_5, ti_6, ti_7, ti_8, ti_9, ti_10, ti_11, ti_12, ti_m1]; omega)) ⟨hP, hD⟩ hS (lv_sub hl [0] rfl)) ?_
  intro n9_8
  induction n9_8 with
  | zero => intro k9_8  H locs ls hq1 hq2; exact absurd hq2 (by omega)
  | succ n9_8 ih_8 =>
    intro k9_8  H locs ls hq1_8 hq2_8 h9_8_0 hPD hS hl
    obtain ⟨hP, hD⟩ := hPD
    refine lv_aload_n hx hb dX9_next_8 rfl (lv_at hl 0 rfl) ?_
    refine lv_aload_n hx hb dX9_next_9 rfl (lv_at hl 0 rfl) ?_
    refine va_get (D := D) (ci := 9) (v := .int k9_8) (C := RX9) (T := TX9) (N := 37) hx hb htg gRX9 hown hK hP 0 rfl rfl 6 (by decide) (htg _ wi_1156) (fun _ h9 => h9) rfl dX9_next_10 ?_
    refine xk_i (wr := []) (xr_V (n := 1) (As := [.int k9_8]) (rest := []) ⟨hx, hb, hml, hown, htg⟩ hK hN hP hD hS hA [0, 1] rfl (by decide) (m_seeR l D cT _ (h0) (g) (b0) (b5) (k9_8) (b7) (b8) (b9) (b10) (b11) (b12) (b13) (b14) (b17) (b18) (b19) (b23) (b24) (b25) (b26) (b27) (b29) (b31) (b32) (b33) (by first | assumption | omega | decide | exact Or.inl (by decide) | (intro h9; exact absurd h9 (by decide)) | (intro _; omega) | (intro _; assumption) | (intro _; decide)) (a2) (k9_8) (by first | assumption | omega | decide | exact Or.inl (by decide) | (intro h9; exact absurd h9 (by decide)) | (intro _; omega) | (intro _; assumption) | (intro _; decide)) (by first | assumption | omega | decide | exact Or.inl (by decide) | (intro h9; exact absurd h9 (by decide)) | (intro _; omega) | (intro _; assumption) | (intro _; decide)) (tx) (by first | assumption | omega | decide | exact Or.inl (by decide) | (intro h9; exact absurd h9 (by decide)) | (intro _; omega) | (intro _; assumption) | (intro _; decide))) wi_1277 wi_1279 wi_79 wi_131 wi_1280 rfl rfl rfl ⟨rfl, by decide +kernel⟩ ⟨Nat.le_of_ble_eq_true rfl, Nat.le_of_ble_eq_true rfl⟩ rfl hl.1 rfl (Nat.le_of_ble_eq_true rfl) dX9_next_13 ⟨Nat.le_of_ble_eq_true rfl, Nat.le_of_ble_eq_true rfl⟩) hP hD hS hA [0, 1] [] rfl rfl (by decide) (by decide) (fun r_2 u_1 H locs hwr_2 hP hD hS => ?_)
    obtain ⟨hP, hD⟩ : PD D A [(sw_9 h0 g b0 b5 k9_8 b7 b8 b9 b10 b11 b12 b13 b14 b17 b18 b19 b23 b24 b25 b26 b27 b29 b31 b32 b33), (sw_in cT (g 2) 900 a2)] _ := ⟨hP, hD⟩
    have qr_2_0 : (k9_8.toInt < b8.toInt ∧ kdB tx b8.toInt k9_8.toInt = clsB r_2.toInt ∧ cB r_2.toInt = tx k9_8.toInt.toNat) ∨ (b8.toInt ≤ k9_8.toInt ∧ kdB tx b8.toInt k9_8.toInt = 0 ∧ r_2.toInt = -1) := hwr_2.1
    have qr_2_1 : r_2 = seeF a2 b8 k9_8 := hwr_2.2.1
    have hcr_2 := clsB_val r_2.toInt
    refine lv_bipush (v := 10) hx hb dX9_next_16 (by decide) ?_
    refine lv_icmp_eq (tgt := 34) hx hb dX9_next_18 (by decide) (fun c_3 => ?_) (fun c_3 => ?_)
    · have ic_3 : r_2.toInt = 10 := ieq c_3 (rfl) (by decide)
      refine lv_aload_n hx hb dX9_next_34 rfl (lv_at hl 0 rfl) ?_
      refine lv_dup hx hb dX9_next_35 rfl ?_
      refine va_get (D := D) (ci := 9) (v := .int k9_8) (C := RX9) (T := TX9) (N := 37) hx hb htg gRX9 hown hK hP 0 rfl rfl 6 (by decide) (htg _ wi_1156) (fun _ h9 => h9) rfl dX9_next_36 ?_
      refine lv_iconst (v := 1) hx hb dX9_next_39 (by decide) ?_
      refine lv_iadd hx hb dX9_next_40 ?_
      refine lv_topi (fun z_4 ez_4 => ?_)
      have iz_4 : z_4.toInt = k9_8.toInt + 1 := toInt_addI ez_4 (rfl) (by decide) (by omega)
      refine va_put (D := D) (ci := 9) (v := .int z_4) (ty := .int) (C := RX9) (T := TX9) (N := 37) hx hb htg gRX9 tyX9 tyX9_ok nmX9 hown hK hP hD hS 0 rfl rfl 6 (by decide) (htg _ wi_1156) (fun _ h9 => h9) rfl (by decide +kernel) rfl rfl (Nat.le_of_ble_eq_true rfl) dX9_next_41 (fun H locs hP hD hS => ?_)
      obtain ⟨hP, hD⟩ : PD D A [(sw_9 h0 g b0 b5 z_4 b7 b8 b9 b10 b11 b12 b13 b14 b17 b18 b19 b23 b24 b25 b26 b27 b29 b31 b32 b33), (sw_in cT (g 2) 900 a2)] _ := ⟨hP, hD⟩
      refine lv_goto (tgt := 8) hx hb dX9_next_44 (by decide) ?_
      have hk1 : kdB tx b8.toInt k9_8.toInt = 1 := by omega
      have hin : ∀ j, b7.toInt ≤ j → j < z_4.toInt → kdB tx b8.toInt j = 1 := fun j a b => by rcases (show j < k9_8.toInt ∨ j = k9_8.toInt from by omega) with h | h; exact h9_8_0 j a h; rw [h]; exact hk1
      exact ih_8 (z_4)  _ _ _ (by omega) (by omega) (by first | assumption | omega | decide | (simp only [ti_0, ti_1, ti_2, ti_3, ti_4, ti_5, ti_6, ti_7, ti_8, ti_9, ti_10, ti_11, ti_12, ti_m1]; omega)) ⟨hP.sub [0, 1] rfl, hD.sub [0, 1] (by decide) rfl⟩ hS (lv_sub hl [0] rfl)
    · have ic_3 : ¬ r_2.toInt = 10 := ine c_3 (rfl) (by decide)
      refine lv_aload_n hx hb dX9_next_21 rfl (lv_at hl 0 rfl) ?_
      refine lv_aload_n hx hb dX9_next_22 rfl (lv_at hl 0 rfl) ?_
      refine va_get (D := D) (ci := 9) (v := .int k9_8) (C := RX9) (T := TX9) (N := 37) hx hb htg gRX9 hown hK hP 0 rfl rfl 6 (by decide) (htg _ wi_1156) (fun _ h9 => h9) rfl dX9_next_23 ?_
      refine xk_i (wr := []) (xr_V (n := 1) (As := [.int k9_8]) (rest := []) ⟨hx, hb, hml, hown, htg⟩ hK hN hP hD hS hA [0, 1] rfl (by decide) (m_seeR l D cT _ (h0) (g) (b0) (b5) (k9_8) (b7) (b8) (b9) (b10) (b11) (b12) (b13) (b14) (b17) (b18) (b19) (b23) (b24) (b25) (b26) (b27) (b29) (b31) (b32) (b33) (by first | assumption | omega | decide | exact Or.inl (by decide) | (intro h9; exact absurd h9 (by decide)) | (intro _; omega) | (intro _; assumption) | (intro _; decide)) (a2) (k9_8) (by first | assumption | omega | decide | exact Or.inl (by decide) | (intro h9; exact absurd h9 (by decide)) | (intro _; omega) | (intro _; assumption) | (intro _; decide)) (by first | assumption | omega | decide | exact Or.inl (by decide) | (intro h9; exact absurd h9 (by decide)) | (intro _; omega) | (intro _; assumption) | (intro _; decide)) (tx) (by first | assumption | omega | decide | exact Or.inl (by decide) | (intro h9; exact absurd h9 (by decide)) | (intro _; omega) | (intro _; assumption) | (intro _; decide))) wi_1277 wi_1279 wi_79 wi_131 wi_1280 rfl rfl rfl ⟨rfl, by decide +kernel⟩ ⟨Nat.le_of_ble_eq_true rfl, Nat.le_of_ble_eq_true rfl⟩ rfl hl.1 rfl (Nat.le_of_ble_eq_true rfl) dX9_next_26 ⟨Nat.le_of_ble_eq_true rfl, Nat.le_of_ble_eq_true rfl⟩) hP hD hS hA [0, 1] [] rfl rfl (by decide) (by decide) (fun r_6 u_5 H locs hwr_6 hP hD hS => ?_)
      obtain ⟨hP, hD⟩ : PD D A [(sw_9 h0 g b0 b5 k9_8 b7 b8 b9 b10 b11 b12 b13 b14 b17 b18 b19 b23 b24 b25 b26 b27 b29 b31 b32 b33), (sw_in cT (g 2) 900 a2)] _ := ⟨hP, hD⟩
      have qr_6_0 : (k9_8.toInt < b8.toInt ∧ kdB tx b8.toInt k9_8.toInt = clsB r_6.toInt ∧ cB r_6.toInt = tx k9_8.toInt.toNat) ∨ (b8.toInt ≤ k9_8.toInt ∧ kdB tx b8.toInt k9_8.toInt = 0 ∧ r_6.toInt = -1) := hwr_6.1
      have qr_6_1 : r_6 = seeF a2 b8 k9_8 := hwr_6.2.1
      have hcr_6 := clsB_val r_6.toInt
      refine lv_bipush (v := 32) hx hb dX9_next_29 (by decide) ?_
      refine lv_icmp_ne (tgt := 47) hx hb dX9_next_31 (by decide) (fun c_7 => ?_) (fun c_7 => ?_)
      · have ic_7 : ¬ r_6.toInt = 32 := ine c_7 (rfl) (by decide)
        have e47 : r_6 = r_2 := by rw [qr_6_1, qr_2_1]
        have e48 : r_6.toInt = r_2.toInt := by rw [e47]
        have hk9 : ¬ kdB tx b8.toInt k9_8.toInt = 1 := by omega
        have hst : k9_8.toInt = runB tx b8.toInt 1 1000 (sg 1) := by rw [← rs1]; exact (runB_is 1000 _ _ (by omega) h9_8_0 hk9 (by omega)).symm
        refine lv_aload_n hx hb dX9_next_47 rfl (lv_at hl 0 rfl) ?_
        refine lv_aload_n hx hb dX9_next_48 rfl (lv_at hl 0 rfl) ?_
        refine va_get (D := D) (ci := 9) (v := .int k9_8) (C := RX9) (T := TX9) (N := 37) hx hb htg gRX9 hown hK hP 0 rfl rfl 6 (by decide) (htg _ wi_1156) (fun _ h9 => h9) rfl dX9_next_49 ?_
        refine va_put (D := D) (ci := 9) (v := .int k9_8) (ty := .int) (C := RX9) (T := TX9) (N := 37) hx hb htg gRX9 tyX9 tyX9_ok nmX9 hown hK hP hD hS 0 rfl rfl 7 (by decide) (htg _ wi_1157) (fun _ h9 => h9) rfl (by decide +kernel) rfl rfl (Nat.le_of_ble_eq_true rfl) dX9_next_52 (fun H locs hP hD hS => ?_)
        obtain ⟨hP, hD⟩ : PD D A [(sw_9 h0 g b0 b5 k9_8 k9_8 b8 b9 b10 b11 b12 b13 b14 b17 b18 b19 b23 b24 b25 b26 b27 b29 b31 b32 b33), (sw_in cT (g 2) 900 a2)] _ := ⟨hP, hD⟩
        refine lv_aload_n hx hb dX9_next_55 rfl (lv_at hl 0 rfl) ?_
        refine va_get (D := D) (ci := 9) (v := .int k9_8) (C := RX9) (T := TX9) (N := 37) hx hb htg gRX9 hown hK hP 0 rfl rfl 6 (by decide) (htg _ wi_1156) (fun _ h9 => h9) rfl dX9_next_56 ?_
        refine lv_aload_n hx hb dX9_next_59 rfl (lv_at hl 0 rfl) ?_
        refine va_get (D := D) (ci := 9) (v := .int b8) (C := RX9) (T := TX9) (N := 37) hx hb htg gRX9 hown hK hP 0 rfl rfl 8 (by decide) (htg _ wi_1158) (fun _ h9 => h9) rfl dX9_next_60 ?_
        refine lv_icmp_lt (tgt := 75) hx hb dX9_next_63 (by decide) (fun c_8 => ?_) (fun c_8 => ?_)
        · have ic_8 : k9_8.toInt < b8.toInt := ilt c_8 (rfl) (rfl)
          refine lv_aload_n hx hb dX9_next_75 rfl (lv_at hl 0 rfl) ?_
          refine lv_aload_n hx hb dX9_next_76 rfl (lv_at hl 0 rfl) ?_
          refine va_get (D := D) (ci := 9) (v := .int k9_8) (C := RX9) (T := TX9) (N := 37) hx hb htg gRX9 hown hK hP 0 rfl rfl 6 (by decide) (htg _ wi_1156) (fun _ h9 => h9) rfl dX9_next_77 ?_
          refine xk_i (wr := []) (xr_V (n := 1) (As := [.int k9_8]) (rest := []) ⟨hx, hb, hml, hown, htg⟩ hK hN hP hD hS hA [0, 1] rfl (by decide) (m_seeR l D cT _ (h0) (g) (b0) (b5) (k9_8) (k9_8) (b8) (b9) (b10) (b11) (b12) (b13) (b14) (b17) (b18) (b19) (b23) (b24) (b25) (b26) (b27) (b29) (b31) (b32) (b33) (by first | assumption | omega | decide | exact Or.inl (by decide) | (intro h9; exact absurd h9 (by decide)) | (intro _; omega) | (intro _; assumption) | (intro _; decide)) (a2) (k9_8) (by first | assumption | omega | decide | exact Or.inl (by decide) | (intro h9; exact absurd h9 (by decide)) | (intro _; omega) | (intro _; assumption) | (intro _; decide)) (by first | assumption | omega | decide | exact Or.inl (by decide) | (intro h9; exact absurd h9 (by decide)) | (intro _; omega) | (intro _; assumption) | (intro _; decide)) (tx) (by first | assumption | omega | decide | exact Or.inl (by decide) | (intro h9; exact absurd h9 (by decide)) | (intro _; omega) | (intro _; assumption) | (intro _; decide))) wi_1277 wi_1279 wi_79 wi_131 wi_1280 rfl rfl rfl ⟨rfl, by decide +kernel⟩ ⟨Nat.le_of_ble_eq_true rfl, Nat.le_of_ble_eq_true rfl⟩ rfl hl.1 rfl (Nat.le_of_ble_eq_true rfl) dX9_next_80 ⟨Nat.le_of_ble_eq_true rfl, Nat.le_of_ble_eq_true rfl⟩) hP hD hS hA [0, 1] [] rfl rfl (by decide) (by decide) (fun r_10 u_9 H locs hwr_10 hP hD hS => ?_)
          obtain ⟨hP, hD⟩ : PD D A [(sw_9 h0 g b0 b5 k9_8 k9_8 b8 b9 b10 b11 b12 b13 b14 b17 b18 b19 b23 b24 b25 b26 b27 b29 b31 b32 b33), (sw_in cT (g 2) 900 a2)] _ := ⟨hP, hD⟩
          have qr_10_0 : (k9_8.toInt < b8.toInt ∧ kdB tx b8.toInt k9_8.toInt = clsB r_10.toInt ∧ cB r_10.toInt = tx k9_8.toInt.toNat) ∨ (b8.toInt ≤ k9_8.toInt ∧ kdB tx b8.toInt k9_8.toInt = 0 ∧ r_10.toInt = -1) := hwr_10.1
          have qr_10_1 : r_10 = seeF a2 b8 k9_8 := hwr_10.2.1
          have hcr_10 := clsB_val r_10.toInt
          refine xk_i (wr := [(sw_9 h0 g b0 b5 k9_8 k9_8 b8 b9 b10 b11 b12 b13 b14 b17 b18 b19 b23 b24 b25 b26 b27 b29 b31 b32 b33), (sw_in cT (g 2) 900 a2)]) (xr_S (n := 1) (As := [.int r_10]) (rest := []) ⟨hx, hb, hml, hown, htg⟩ hK hN hP hD hS hA [] rfl (by decide) (m_isSmall l D cT _ (r_10)) wi_1281 wi_1282 wi_131 wi_1283 ⟨rfl, by decide +kernel⟩ ⟨Nat.le_of_ble_eq_true rfl, Nat.le_of_ble_eq_true rfl⟩ rfl hl.1 rfl (Nat.le_of_ble_eq_true rfl) dX9_next_83 ⟨Nat.le_of_ble_eq_true rfl, Nat.le_of_ble_eq_true rfl⟩) hP hD hS hA [] [0, 1] rfl rfl (by decide) (by decide) (fun r_12 u_11 H locs hwr_12 hP hD hS => ?_)
          obtain ⟨hP, hD⟩ : PD D A [(sw_9 h0 g b0 b5 k9_8 k9_8 b8 b9 b10 b11 b12 b13 b14 b17 b18 b19 b23 b24 b25 b26 b27 b29 b31 b32 b33), (sw_in cT (g 2) 900 a2)] _ := ⟨hP, hD⟩
          have hwr_12 : r_12 = if 97 ≤ r_10.toInt ∧ r_10.toInt ≤ 122 then 1 else 0 := hwr_12
          refine lv_if_eq (tgt := 127) hx hb dX9_next_86 (by decide) (fun c_13 => ?_) (fun c_13 => ?_)
          · have ic_13 := if0 hwr_12 c_13
            refine lv_aload_n hx hb dX9_next_127 rfl (lv_at hl 0 rfl) ?_
            refine lv_aload_n hx hb dX9_next_128 rfl (lv_at hl 0 rfl) ?_
            refine va_get (D := D) (ci := 9) (v := .int k9_8) (C := RX9) (T := TX9) (N := 37) hx hb htg gRX9 hown hK hP 0 rfl rfl 6 (by decide) (htg _ wi_1156) (fun _ h9 => h9) rfl dX9_next_129 ?_
            refine xk_i (wr := []) (xr_V (n := 1) (As := [.int k9_8]) (rest := []) ⟨hx, hb, hml, hown, htg⟩ hK hN hP hD hS hA [0, 1] rfl (by decide) (m_seeR l D cT _ (h0) (g) (b0) (b5) (k9_8) (k9_8) (b8) (b9) (b10) (b11) (b12) (b13) (b14) (b17) (b18) (b19) (b23) (b24) (b25) (b26) (b27) (b29) (b31) (b32) (b33) (by first | assumption | omega | decide | exact Or.inl (by decide) | (intro h9; exact absurd h9 (by decide)) | (intro _; omega) | (intro _; assumption) | (intro _; decide)) (a2) (k9_8) (by first | assumption | omega | decide | exact Or.inl (by decide) | (intro h9; exact absurd h9 (by decide)) | (intro _; omega) | (intro _; assumption) | (intro _; decide)) (by first | assumption | omega | decide | exact Or.inl (by decide) | (intro h9; exact absurd h9 (by decide)) | (intro _; omega) | (intro _; assumption) | (intro _; decide)) (tx) (by first | assumption | omega | decide | exact Or.inl (by decide) | (intro h9; exact absurd h9 (by decide)) | (intro _; omega) | (intro _; assumption) | (intro _; decide))) wi_1277 wi_1279 wi_79 wi_131 wi_1280 rfl rfl rfl ⟨rfl, by decide +kernel⟩ ⟨Nat.le_of_ble_eq_true rfl, Nat.le_of_ble_eq_true rfl⟩ rfl hl.1 rfl (Nat.le_of_ble_eq_true rfl) dX9_next_132 ⟨Nat.le_of_ble_eq_true rfl, Nat.le_of_ble_eq_true rfl⟩) hP hD hS hA [0, 1] [] rfl rfl (by decide) (by decide) (fun r_15 u_14 H locs hwr_15 hP hD hS => ?_)
            obtain ⟨hP, hD⟩ : PD D A [(sw_9 h0 g b0 b5 k9_8 k9_8 b8 b9 b10 b11 b12 b13 b14 b17 b18 b19 b23 b24 b25 b26 b27 b29 b31 b32 b33), (sw_in cT (g 2) 900 a2)] _ := ⟨hP, hD⟩
            have qr_15_0 : (k9_8.toInt < b8.toInt ∧ kdB tx b8.toInt k9_8.toInt = clsB r_15.toInt ∧ cB r_15.toInt = tx k9_8.toInt.toNat) ∨ (b8.toInt ≤ k9_8.toInt ∧ kdB tx b8.toInt k9_8.toInt = 0 ∧ r_15.toInt = -1) := hwr_15.1
            have qr_15_1 : r_15 = seeF a2 b8 k9_8 := hwr_15.2.1
            have hcr_15 := clsB_val r_15.toInt
            refine xk_i (wr := [(sw_9 h0 g b0 b5 k9_8 k9_8 b8 b9 b10 b11 b12 b13 b14 b17 b18 b19 b23 b24 b25 b26 b27 b29 b31 b32 b33), (sw_in cT (g 2) 900 a2)]) (xr_S (n := 1) (As := [.int r_15]) (rest := []) ⟨hx, hb, hml, hown, htg⟩ hK hN hP hD hS hA [] rfl (by decide) (m_isDigit l D cT _ (r_15)) wi_1291 wi_1292 wi_131 wi_1293 ⟨rfl, by decide +kernel⟩ ⟨Nat.le_of_ble_eq_true rfl, Nat.le_of_ble_eq_true rfl⟩ rfl hl.1 rfl (Nat.le_of_ble_eq_true rfl) dX9_next_135 ⟨Nat.le_of_ble_eq_true rfl, Nat.le_of_ble_eq_true rfl⟩) hP hD hS hA [] [0, 1] rfl rfl (by decide) (by decide) (fun r_17 u_16 H locs hwr_17 hP hD hS => ?_)
            obtain ⟨hP, hD⟩ : PD D A [(sw_9 h0 g b0 b5 k9_8 k9_8 b8 b9 b10 b11 b12 b13 b14 b17 b18 b19 b23 b24 b25 b26 b27 b29 b31 b32 b33), (sw_in cT (g 2) 900 a2)] _ := ⟨hP, hD⟩
            have hwr_17 : r_17 = if 48 ≤ r_15.toInt ∧ r_15.toInt ≤ 57 then 1 else 0 := hwr_17
            refine lv_if_eq (tgt := 236) hx hb dX9_next_138 (by decide) (fun c_18 => ?_) (fun c_18 => ?_)
            · have ic_18 := if0 hwr_17 c_18
              refine lv_aload_n hx hb dX9_next_236 rfl (lv_at hl 0 rfl) ?_
              refine lv_dup hx hb dX9_next_237 rfl ?_
              refine va_get (D := D) (ci := 9) (v := .int k9_8) (C := RX9) (T := TX9) (N := 37) hx hb htg gRX9 hown hK hP 0 rfl rfl 7 (by decide) (htg _ wi_1157) (fun _ h9 => h9) rfl dX9_next_238 ?_
              refine lv_iconst (v := 1) hx hb dX9_next_241 (by decide) ?_
              refine lv_iadd hx hb dX9_next_242 ?_
              refine lv_topi (fun z_19 ez_19 => ?_)
              have iz_19 : z_19.toInt = k9_8.toInt + 1 := toInt_addI ez_19 (rfl) (by decide) (by omega)
              refine va_put (D := D) (ci := 9) (v := .int z_19) (ty := .int) (C := RX9) (T := TX9) (N := 37) hx hb htg gRX9 tyX9 tyX9_ok nmX9 hown hK hP hD hS 0 rfl rfl 7 (by decide) (htg _ wi_1157) (fun _ h9 => h9) rfl (by decide +kernel) rfl rfl (Nat.le_of_ble_eq_true rfl) dX9_next_243 (fun H locs hP hD hS => ?_)
              obtain ⟨hP, hD⟩ : PD D A [(sw_9 h0 g b0 b5 k9_8 z_19 b8 b9 b10 b11 b12 b13 b14 b17 b18 b19 b23 b24 b25 b26 b27 b29 b31 b32 b33), (sw_in cT (g 2) 900 a2)] _ := ⟨hP, hD⟩
              refine lv_aload_n hx hb dX9_next_246 rfl (lv_at hl 0 rfl) ?_
              refine lv_aload_n hx hb dX9_next_247 rfl (lv_at hl 0 rfl) ?_
              refine lv_aload_n hx hb dX9_next_248 rfl (lv_at hl 0 rfl) ?_
              refine va_get (D := D) (ci := 9) (v := .int k9_8) (C := RX9) (T := TX9) (N := 37) hx hb htg gRX9 hown hK hP 0 rfl rfl 6 (by decide) (htg _ wi_1156) (fun _ h9 => h9) rfl dX9_next_249 ?_
              refine xk_i (wr := []) (xr_V (n := 1) (As := [.int k9_8]) (rest := [.ref h0]) ⟨hx, hb, hml, hown, htg⟩ hK hN hP hD hS hA [0, 1] rfl (by decide) (m_seeR l D cT _ (h0) (g) (b0) (b5) (k9_8) (z_19) (b8) (b9) (b10) (b11) (b12) (b13) (b14) (b17) (b18) (b19) (b23) (b24) (b25) (b26) (b27) (b29) (b31) (b32) (b33) (by first | assumption | omega | decide | exact Or.inl (by decide) | (intro h9; exact absurd h9 (by decide)) | (intro _; omega) | (intro _; assumption) | (intro _; decide)) (a2) (k9_8) (by first | assumption | omega | decide | exact Or.inl (by decide) | (intro h9; exact absurd h9 (by decide)) | (intro _; omega) | (intro _; assumption) | (intro _; decide)) (by first | assumption | omega | decide | exact Or.inl (by decide) | (intro h9; exact absurd h9 (by decide)) | (intro _; omega) | (intro _; assumption) | (intro _; decide)) (tx) (by first | assumption | omega | decide | exact Or.inl (by decide) | (intro h9; exact absurd h9 (by decide)) | (intro _; omega) | (intro _; assumption) | (intro _; decide))) wi_1277 wi_1279 wi_79 wi_131 wi_1280 rfl rfl rfl ⟨rfl, by decide +kernel⟩ ⟨Nat.le_of_ble_eq_true rfl, Nat.le_of_ble_eq_true rfl⟩ rfl hl.1 rfl (Nat.le_of_ble_eq_true rfl) dX9_next_252 ⟨Nat.le_of_ble_eq_true rfl, Nat.le_of_ble_eq_true rfl⟩) hP hD hS hA [0, 1] [] rfl rfl (by decide) (by decide) (fun r_21 u_20 H locs hwr_21 hP hD hS => ?_)
              obtain ⟨hP, hD⟩ : PD D A [(sw_9 h0 g b0 b5 k9_8 z_19 b8 b9 b10 b11 b12 b13 b14 b17 b18 b19 b23 b24 b25 b26 b27 b29 b31 b32 b33), (sw_in cT (g 2) 900 a2)] _ := ⟨hP, hD⟩
              have qr_21_0 : (k9_8.toInt < b8.toInt ∧ kdB tx b8.toInt k9_8.toInt = clsB r_21.toInt ∧ cB r_21.toInt = tx k9_8.toInt.toNat) ∨ (b8.toInt ≤ k9_8.toInt ∧ kdB tx b8.toInt k9_8.toInt = 0 ∧ r_21.toInt = -1) := hwr_21.1
              have qr_21_1 : r_21 = seeF a2 b8 k9_8 := hwr_21.2.1
              have hcr_21 := clsB_val r_21.toInt
              refine lv_bipush (v := 59) hx hb dX9_next_255 (by decide) ?_
              refine lv_icmp_ne (tgt := 265) hx hb dX9_next_257 (by decide) (fun c_22 => ?_) (fun c_22 => ?_)
              · have ic_22 : ¬ r_21.toInt = 59 := ine c_22 (rfl) (by decide)
                refine lv_bipush (v := 17) hx hb dX9_next_265 (by decide) ?_
                refine va_put (D := D) (ci := 9) (v := .int 17) (ty := .int) (C := RX9) (T := TX9) (N := 37) hx hb htg gRX9 tyX9 tyX9_ok nmX9 hown hK hP hD hS 0 rfl rfl 9 (by decide) (htg _ wi_1159) (fun _ h9 => h9) rfl (by decide +kernel) rfl rfl (Nat.le_of_ble_eq_true rfl) dX9_next_267 (fun H locs hP hD hS => ?_)
                obtain ⟨hP, hD⟩ : PD D A [(sw_9 h0 g b0 b5 k9_8 z_19 b8 17 b10 b11 b12 b13 b14 b17 b18 b19 b23 b24 b25 b26 b27 b29 b31 b32 b33), (sw_in cT (g 2) 900 a2)] _ := ⟨hP, hD⟩
                have hNx := nxt_o (tx := tx) (n := b8.toInt) (sg := sg) (st := k9_8.toInt) hst (by omega) (by omega)
                exact x_vret hx hb hr hlk hP hD hS [0, 1] ((k9_8, z_19, 17, b10)) rfl (by decide) ⟨(by (try dsimp only); first | assumption | omega | decide | exact Or.inl (by decide) | (intro h9; exact absurd h9 (by decide)) | (intro _; omega) | (intro _; assumption) | (intro _; decide)), (by (try dsimp only); first | assumption | omega | decide | exact Or.inl (by decide) | (intro h9; exact absurd h9 (by decide)) | (intro _; omega) | (intro _; assumption) | (intro _; decide)), (fun h9 => by (try dsimp only at h9 ⊢); omega), (by (try dsimp only); first | assumption | omega | decide | exact Or.inl (by decide) | (intro h9; exact absurd h9 (by decide)) | (intro _; omega) | (intro _; assumption) | (intro _; decide)), (by (try dsimp only); first | assumption | omega | decide | exact Or.inl (by decide) | (intro h9; exact absurd h9 (by decide)) | (intro _; omega) | (intro _; assumption) | (intro _; decide)), (by (try dsimp only); first | assumption | omega | decide | exact Or.inl (by decide) | (intro h9; exact absurd h9 (by decide)) | (intro _; omega) | (intro _; assumption) | (intro _; decide)), (by (try dsimp only); unfold NV; omega), (by (try dsimp only); first | assumption | omega | decide | exact Or.inl (by decide) | (intro h9; exact absurd h9 (by decide)) | (intro _; omega) | (intro _; assumption) | (intro _; decide)), (by (try dsimp only); have h1 := rs5; unfold WR at h1 ⊢; omega), trivial⟩ (by decide) (by decide) dX9_next_270
              · have ic_22 : r_21.toInt = 59 := ieq c_22 (rfl) (by decide)
                refine lv_bipush (v := 15) hx hb dX9_next_260 (by decide) ?_
                refine lv_goto (tgt := 267) hx hb dX9_next_262 (by decide) ?_
                refine va_put (D := D) (ci := 9) (v := .int 15) (ty := .int) (C := RX9) (T := TX9) (N := 37) hx hb htg gRX9 tyX9 tyX9_ok nmX9 hown hK hP hD hS 0 rfl rfl 9 (by decide) (htg _ wi_1159) (fun _ h9 => h9) rfl (by decide +kernel) rfl rfl (Nat.le_of_ble_eq_true rfl) dX9_next_267 (fun H locs hP hD hS => ?_)
                obtain ⟨hP, hD⟩ : PD D A [(sw_9 h0 g b0 b5 k9_8 z_19 b8 15 b10 b11 b12 b13 b14 b17 b18 b19 b23 b24 b25 b26 b27 b29 b31 b32 b33), (sw_in cT (g 2) 900 a2)] _ := ⟨hP, hD⟩
                have hNx := nxt_o (tx := tx) (n := b8.toInt) (sg := sg) (st := k9_8.toInt) hst (by omega) (by omega)
                exact x_vret hx hb hr hlk hP hD hS [0, 1] ((k9_8, z_19, 15, b10)) rfl (by decide) ⟨(by (try dsimp only); first | assumption | omega | decide | exact Or.inl (by decide) | (intro h9; exact absurd h9 (by decide)) | (intro _; omega) | (intro _; assumption) | (intro _; decide)), (by (try dsimp only); first | assumption | omega | decide | exact Or.inl (by decide) | (intro h9; exact absurd h9 (by decide)) | (intro _; omega) | (intro _; assumption) | (intro _; decide)), (fun h9 => by (try dsimp only at h9 ⊢); omega), (by (try dsimp only); first | assumption | omega | decide | exact Or.inl (by decide) | (intro h9; exact absurd h9 (by decide)) | (intro _; omega) | (intro _; assumption) | (intro _; decide)), (by (try dsimp only); first | assumption | omega | decide | exact Or.inl (by decide) | (intro h9; exact absurd h9 (by decide)) | (intro _; omega) | (intro _; assumption) | (intro _; decide)), (by (try dsimp only); first | assumption | omega | decide | exact Or.inl (by decide) | (intro h9; exact absurd h9 (by decide)) | (intro _; omega) | (intro _; assumption) | (intro _; decide)), (by (try dsimp only); unfold NV; omega), (by (try dsimp only); first | assumption | omega | decide | exact Or.inl (by decide) | (intro h9; exact absurd h9 (by decide)) | (intro _; omega) | (intro _; assumption) | (intro _; decide)), (by (try dsimp only); have h1 := rs5; unfold WR at h1 ⊢; omega), trivial⟩ (by decide) (by decide) dX9_next_270
            · have ic_18 := if1 hwr_17 c_18
              refine lv_aload_n hx hb dX9_next_141 rfl (lv_at hl 0 rfl) ?_
              refine lv_iconst (v := 0) hx hb dX9_next_142 (by decide) ?_
              refine va_put (D := D) (ci := 9) (v := .int 0) (ty := .int) (C := RX9) (T := TX9) (N := 37) hx hb htg gRX9 tyX9 tyX9_ok nmX9 hown hK hP hD hS 0 rfl rfl 10 (by decide) (htg _ wi_1160) (fun _ h9 => h9) rfl (by decide +kernel) rfl rfl (Nat.le_of_ble_eq_true rfl) dX9_next_143 (fun H locs hP hD hS => ?_)
              obtain ⟨hP, hD⟩ : PD D A [(sw_9 h0 g b0 b5 k9_8 k9_8 b8 b9 0 b11 b12 b13 b14 b17 b18 b19 b23 b24 b25 b26 b27 b29 b31 b32 b33), (sw_in cT (g 2) 900 a2)] _ := ⟨hP, hD⟩
              have hin146 : ∀ j, k9_8.toInt ≤ j → j < k9_8.toInt → kdB tx b8.toInt j = 3 := fun j a b => absurd a (by omega)
              have hv0 : (0 : Int32).toInt = valB tx k9_8.toInt (min (k9_8.toInt - k9_8.toInt) 3).toNat := by rw [show (min (k9_8.toInt - k9_8.toInt) 3).toNat = 0 from by omega]; exact (show (0 : Int32).toInt = 0 from by decide)
              refine (fun (key : ∀ (n9_146 : Nat) (k9_146 : Int32) (v9_146_0 : Int32) (H : Heap) (locs : List Loc) (ls : Array Slot), (k9_8.toInt ≤ k9_146.toInt ∧ k9_146.toInt ≤ b8.toInt) → b8.toInt < k9_146.toInt + n9_146 → (∀ j, k9_8.toInt ≤ j → j < k9_146.toInt → kdB tx b8.toInt j = 3) → v9_146_0.toInt = valB tx k9_8.toInt (min (k9_146.toInt - k9_8.toInt) 3).toNat → ((k9_146.toInt - k9_8.toInt = 0 ∧ v9_146_0.toInt = 0) ∨ (k9_146.toInt - k9_8.toInt = 1 ∧ 0 ≤ v9_146_0.toInt ∧ v9_146_0.toInt ≤ 9) ∨ (k9_146.toInt - k9_8.toInt = 2 ∧ 0 ≤ v9_146_0.toInt ∧ v9_146_0.toInt ≤ 99) ∨ (3 ≤ k9_146.toInt - k9_8.toInt ∧ 0 ≤ v9_146_0.toInt ∧ v9_146_0.toInt ≤ 999)) → (0 ≤ v9_146_0.toInt ∧ v9_146_0.toInt ≤ 999) → PD D A [(sw_9 h0 g b0 b5 k9_8 k9_146 b8 b9 v9_146_0 b11 b12 b13 b14 b17 b18 b19 b23 b24 b25 b26 b27 b29 b31 b32 b33), (sw_in cT (g 2) 900 a2)] H → va_S A s.heap H locs → lv_has ls 1 [(0, .ref h0)] → W p l e _ s m _ below meth c H locs _ _ _ (F0 m 146 ls [])) => key (Int.toNat (b8.toInt - k9_8.toInt) + 1) (k9_8) _ _ _ _ (by omega) (by omega) (by first | assumption | omega | decide | (simp only [ti_0, ti_1, ti_2, ti_3, ti_4, ti_5, ti_6, ti_7, ti_8, ti_9, ti_10, ti_11, ti_12, ti_m1]; omega)) (by first | assumption | omega | decide | (simp only [ti_0, ti_1, ti_2, ti_3, ti_4, ti_5, ti_6, ti_7, ti_8, ti_9, ti_10, ti_11, ti_12, ti_m1]; omega)) (by first | assumption | omega | decide | (simp only [ti_0, ti_1, ti_2, ti_3, ti_4, ti_5, ti_6, ti_7, ti_8, ti_9, ti_10, ti_11, ti_12, ti_m1]; omega)) (by first | assumption | omega | decide | (simp only [ti_0, ti_1, ti_2, ti_3, ti_4, ti_5, ti_6, ti_7, ti_8, ti_9, ti_10, ti_11, ti_12, ti_m1]; omega)) ⟨hP, hD⟩ hS (lv_sub hl [0] rfl)) ?_
              intro n9_146
              induction n9_146 with
              | zero => intro k9_146 v9_146_0 H locs ls hq1 hq2; exact absurd hq2 (by omega)
              | succ n9_146 ih_146 =>
                intro k9_146 v9_146_0 H locs ls hq1_146 hq2_146 h9_146_0 h9_146_1 h9_146_2 h9_146_3 hPD hS hl
                obtain ⟨hP, hD⟩ := hPD
                refine lv_aload_n hx hb dX9_next_146 rfl (lv_at hl 0 rfl) ?_
                refine lv_aload_n hx hb dX9_next_147 rfl (lv_at hl 0 rfl) ?_
                refine va_get (D := D) (ci := 9) (v := .int k9_146) (C := RX9) (T := TX9) (N := 37) hx hb htg gRX9 hown hK hP 0 rfl rfl 7 (by decide) (htg _ wi_1157) (fun _ h9 => h9) rfl dX9_next_148 ?_
                refine xk_i (wr := []) (xr_V (n := 1) (As := [.int k9_146]) (rest := []) ⟨hx, hb, hml, hown, htg⟩ hK hN hP hD hS hA [0, 1] rfl (by decide) (m_seeR l D cT _ (h0) (g) (b0) (b5) (k9_8) (k9_146) (b8) (b9) (v9_146_0) (b11) (b12) (b13) (b14) (b17) (b18) (b19) (b23) (b24) (b25) (b26) (b27) (b29) (b31) (b32) (b33) (by first | assumption | omega | decide | exact Or.inl (by decide) | (intro h9; exact absurd h9 (by decide)) | (intro _; omega) | (intro _; assumption) | (intro _; decide)) (a2) (k9_146) (by first | assumption | omega | decide | exact Or.inl (by decide) | (intro h9; exact absurd h9 (by decide)) | (intro _; omega) | (intro _; assumption) | (intro _; decide)) (by first | assumption | omega | decide | exact Or.inl (by decide) | (intro h9; exact absurd h9 (by decide)) | (intro _; omega) | (intro _; assumption) | (intro _; decide)) (tx) (by first | assumption | omega | decide | exact Or.inl (by decide) | (intro h9; exact absurd h9 (by decide)) | (intro _; omega) | (intro _; assumption) | (intro _; decide))) wi_1277 wi_1279 wi_79 wi_131 wi_1280 rfl rfl rfl ⟨rfl, by decide +kernel⟩ ⟨Nat.le_of_ble_eq_true rfl, Nat.le_of_ble_eq_true rfl⟩ rfl hl.1 rfl (Nat.le_of_ble_eq_true rfl) dX9_next_151 ⟨Nat.le_of_ble_eq_true rfl, Nat.le_of_ble_eq_true rfl⟩) hP hD hS hA [0, 1] [] rfl rfl (by decide) (by decide) (fun r_24 u_23 H locs hwr_24 hP hD hS => ?_)
                obtain ⟨hP, hD⟩ : PD D A [(sw_9 h0 g b0 b5 k9_8 k9_146 b8 b9 v9_146_0 b11 b12 b13 b14 b17 b18 b19 b23 b24 b25 b26 b27 b29 b31 b32 b33), (sw_in cT (g 2) 900 a2)] _ := ⟨hP, hD⟩
                have qr_24_0 : (k9_146.toInt < b8.toInt ∧ kdB tx b8.toInt k9_146.toInt = clsB r_24.toInt ∧ cB r_24.toInt = tx k9_146.toInt.toNat) ∨ (b8.toInt ≤ k9_146.toInt ∧ kdB tx b8.toInt k9_146.toInt = 0 ∧ r_24.toInt = -1) := hwr_24.1
                have qr_24_1 : r_24 = seeF a2 b8 k9_146 := hwr_24.2.1
                have hcr_24 := clsB_val r_24.toInt
                refine xk_i (wr := [(sw_9 h0 g b0 b5 k9_8 k9_146 b8 b9 v9_146_0 b11 b12 b13 b14 b17 b18 b19 b23 b24 b25 b26 b27 b29 b31 b32 b33), (sw_in cT (g 2) 900 a2)]) (xr_S (n := 1) (As := [.int r_24]) (rest := []) ⟨hx, hb, hml, hown, htg⟩ hK hN hP hD hS hA [] rfl (by decide) (m_isDigit l D cT _ (r_24)) wi_1291 wi_1292 wi_131 wi_1293 ⟨rfl, by decide +kernel⟩ ⟨Nat.le_of_ble_eq_true rfl, Nat.le_of_ble_eq_true rfl⟩ rfl hl.1 rfl (Nat.le_of_ble_eq_true rfl) dX9_next_154 ⟨Nat.le_of_ble_eq_true rfl, Nat.le_of_ble_eq_true rfl⟩) hP hD hS hA [] [0, 1] rfl rfl (by decide) (by decide) (fun r_26 u_25 H locs hwr_26 hP hD hS => ?_)
                obtain ⟨hP, hD⟩ : PD D A [(sw_9 h0 g b0 b5 k9_8 k9_146 b8 b9 v9_146_0 b11 b12 b13 b14 b17 b18 b19 b23 b24 b25 b26 b27 b29 b31 b32 b33), (sw_in cT (g 2) 900 a2)] _ := ⟨hP, hD⟩
                have hwr_26 : r_26 = if 48 ≤ r_24.toInt ∧ r_24.toInt ≤ 57 then 1 else 0 := hwr_26
                refine lv_if_eq (tgt := 209) hx hb dX9_next_157 (by decide) (fun c_27 => ?_) (fun c_27 => ?_)
                · have ic_27 := if0 hwr_26 c_27
                  refine lv_aload_n hx hb dX9_next_209 rfl (lv_at hl 0 rfl) ?_
                  refine lv_aload_n hx hb dX9_next_210 rfl (lv_at hl 0 rfl) ?_
                  refine va_get (D := D) (ci := 9) (v := .int k9_146) (C := RX9) (T := TX9) (N := 37) hx hb htg gRX9 hown hK hP 0 rfl rfl 7 (by decide) (htg _ wi_1157) (fun _ h9 => h9) rfl dX9_next_211 ?_
                  refine lv_aload_n hx hb dX9_next_214 rfl (lv_at hl 0 rfl) ?_
                  refine va_get (D := D) (ci := 9) (v := .int k9_8) (C := RX9) (T := TX9) (N := 37) hx hb htg gRX9 hown hK hP 0 rfl rfl 6 (by decide) (htg _ wi_1156) (fun _ h9 => h9) rfl dX9_next_215 ?_
                  refine lv_isub hx hb dX9_next_218 ?_
                  refine lv_topi (fun z_28 ez_28 => ?_)
                  have iz_28 : z_28.toInt = k9_146.toInt - k9_8.toInt := toInt_subI ez_28 (rfl) (rfl) (by omega)
                  refine lv_iconst (v := 3) hx hb dX9_next_219 (by decide) ?_
                  refine lv_icmp_le (tgt := 228) hx hb dX9_next_220 (by decide) (fun c_29 => ?_) (fun c_29 => ?_)
                  · have ic_29 : z_28.toInt ≤ 3 := ile c_29 (rfl) (by decide)
                    refine lv_bipush (v := 14) hx hb dX9_next_228 (by decide) ?_
                    refine va_put (D := D) (ci := 9) (v := .int 14) (ty := .int) (C := RX9) (T := TX9) (N := 37) hx hb htg gRX9 tyX9 tyX9_ok nmX9 hown hK hP hD hS 0 rfl rfl 9 (by decide) (htg _ wi_1159) (fun _ h9 => h9) rfl (by decide +kernel) rfl rfl (Nat.le_of_ble_eq_true rfl) dX9_next_230 (fun H locs hP hD hS => ?_)
                    obtain ⟨hP, hD⟩ : PD D A [(sw_9 h0 g b0 b5 k9_8 k9_146 b8 14 v9_146_0 b11 b12 b13 b14 b17 b18 b19 b23 b24 b25 b26 b27 b29 b31 b32 b33), (sw_in cT (g 2) 900 a2)] _ := ⟨hP, hD⟩
                    refine lv_goto (tgt := 270) hx hb dX9_next_233 (by decide) ?_
                    have hen : k9_146.toInt = runB tx b8.toInt 3 1000 k9_8.toInt := (runB_is 1000 _ _ (by omega) h9_146_0 (by omega) (by omega)).symm
                    have hNx := nxt_d (tx := tx) (n := b8.toInt) (sg := sg) (st := k9_8.toInt) (en := k9_146.toInt) hst (by omega) hen
                    exact x_vret hx hb hr hlk hP hD hS [0, 1] ((k9_8, k9_146, 14, v9_146_0)) rfl (by decide) ⟨(by (try dsimp only); first | assumption | omega | decide | exact Or.inl (by decide) | (intro h9; exact absurd h9 (by decide)) | (intro _; omega) | (intro _; assumption) | (intro _; decide)), (by (try dsimp only); first | assumption | omega | decide | exact Or.inl (by decide) | (intro h9; exact absurd h9 (by decide)) | (intro _; omega) | (intro _; assumption) | (intro _; decide)), (fun h9 => by (try dsimp only at h9 ⊢); omega), (by (try dsimp only); first | assumption | omega | decide | exact Or.inl (by decide) | (intro h9; exact absurd h9 (by decide)) | (intro _; omega) | (intro _; assumption) | (intro _; decide)), (by (try dsimp only); first | assumption | omega | decide | exact Or.inl (by decide) | (intro h9; exact absurd h9 (by decide)) | (intro _; omega) | (intro _; assumption) | (intro _; decide)), (by (try dsimp only); first | assumption | omega | decide | exact Or.inl (by decide) | (intro h9; exact absurd h9 (by decide)) | (intro _; omega) | (intro _; assumption) | (intro _; decide)), (by (try dsimp only); unfold NV; omega), (by (try dsimp only); first | assumption | omega | decide | exact Or.inl (by decide) | (intro h9; exact absurd h9 (by decide)) | (intro _; omega) | (intro _; assumption) | (intro _; decide)), (by (try dsimp only); have h1 := rs5; unfold WR at h1 ⊢; omega), trivial⟩ (by decide) (by decide) dX9_next_270
                  · have ic_29 : 3 < z_28.toInt := inle c_29 (rfl) (by decide)
                    refine lv_bipush (v := 17) hx hb dX9_next_223 (by decide) ?_
                    refine lv_goto (tgt := 230) hx hb dX9_next_225 (by decide) ?_
                    refine va_put (D := D) (ci := 9) (v := .int 17) (ty := .int) (C := RX9) (T := TX9) (N := 37) hx hb htg gRX9 tyX9 tyX9_ok nmX9 hown hK hP hD hS 0 rfl rfl 9 (by decide) (htg _ wi_1159) (fun _ h9 => h9) rfl (by decide +kernel) rfl rfl (Nat.le_of_ble_eq_true rfl) dX9_next_230 (fun H locs hP hD hS => ?_)
                    obtain ⟨hP, hD⟩ : PD D A [(sw_9 h0 g b0 b5 k9_8 k9_146 b8 17 v9_146_0 b11 b12 b13 b14 b17 b18 b19 b23 b24 b25 b26 b27 b29 b31 b32 b33), (sw_in cT (g 2) 900 a2)] _ := ⟨hP, hD⟩
                    refine lv_goto (tgt := 270) hx hb dX9_next_233 (by decide) ?_
                    have hen : k9_146.toInt = runB tx b8.toInt 3 1000 k9_8.toInt := (runB_is 1000 _ _ (by omega) h9_146_0 (by omega) (by omega)).symm
                    have hNx := nxt_d (tx := tx) (n := b8.toInt) (sg := sg) (st := k9_8.toInt) (en := k9_146.toInt) hst (by omega) hen
                    exact x_vret hx hb hr hlk hP hD hS [0, 1] ((k9_8, k9_146, 17, v9_146_0)) rfl (by decide) ⟨(by (try dsimp only); first | assumption | omega | decide | exact Or.inl (by decide) | (intro h9; exact absurd h9 (by decide)) | (intro _; omega) | (intro _; assumption) | (intro _; decide)), (by (try dsimp only); first | assumption | omega | decide | exact Or.inl (by decide) | (intro h9; exact absurd h9 (by decide)) | (intro _; omega) | (intro _; assumption) | (intro _; decide)), (fun h9 => by (try dsimp only at h9 ⊢); omega), (by (try dsimp only); first | assumption | omega | decide | exact Or.inl (by decide) | (intro h9; exact absurd h9 (by decide)) | (intro _; omega) | (intro _; assumption) | (intro _; decide)), (by (try dsimp only); first | assumption | omega | decide | exact Or.inl (by decide) | (intro h9; exact absurd h9 (by decide)) | (intro _; omega) | (intro _; assumption) | (intro _; decide)), (by (try dsimp only); first | assumption | omega | decide | exact Or.inl (by decide) | (intro h9; exact absurd h9 (by decide)) | (intro _; omega) | (intro _; assumption) | (intro _; decide)), (by (try dsimp only); unfold NV; omega), (by (try dsimp only); first | assumption | omega | decide | exact Or.inl (by decide) | (intro h9; exact absurd h9 (by decide)) | (intro _; omega) | (intro _; assumption) | (intro _; decide)), (by (try dsimp only); have h1 := rs5; unfold WR at h1 ⊢; omega), trivial⟩ (by decide) (by decide) dX9_next_270
                · have ic_27 := if1 hwr_26 c_27
                  refine lv_aload_n hx hb dX9_next_160 rfl (lv_at hl 0 rfl) ?_
                  refine va_get (D := D) (ci := 9) (v := .int k9_146) (C := RX9) (T := TX9) (N := 37) hx hb htg gRX9 hown hK hP 0 rfl rfl 7 (by decide) (htg _ wi_1157) (fun _ h9 => h9) rfl dX9_next_161 ?_
                  refine lv_aload_n hx hb dX9_next_164 rfl (lv_at hl 0 rfl) ?_
                  refine va_get (D := D) (ci := 9) (v := .int k9_8) (C := RX9) (T := TX9) (N := 37) hx hb htg gRX9 hown hK hP 0 rfl rfl 6 (by decide) (htg _ wi_1156) (fun _ h9 => h9) rfl dX9_next_165 ?_
                  refine lv_isub hx hb dX9_next_168 ?_
                  refine lv_topi (fun z_30 ez_30 => ?_)
                  have iz_30 : z_30.toInt = k9_146.toInt - k9_8.toInt := toInt_subI ez_30 (rfl) (rfl) (by omega)
                  refine lv_iconst (v := 3) hx hb dX9_next_169 (by decide) ?_
                  refine lv_icmp_ge (tgt := 196) hx hb dX9_next_170 (by decide) (fun c_31 => ?_) (fun c_31 => ?_)
                  · have ic_31 : 3 ≤ z_30.toInt := ile c_31 (by decide) (rfl)
                    refine lv_aload_n hx hb dX9_next_196 rfl (lv_at hl 0 rfl) ?_
                    refine lv_dup hx hb dX9_next_197 rfl ?_
                    refine va_get (D := D) (ci := 9) (v := .int k9_146) (C := RX9) (T := TX9) (N := 37) hx hb htg gRX9 hown hK hP 0 rfl rfl 7 (by decide) (htg _ wi_1157) (fun _ h9 => h9) rfl dX9_next_198 ?_
                    refine lv_iconst (v := 1) hx hb dX9_next_201 (by decide) ?_
                    refine lv_iadd hx hb dX9_next_202 ?_
                    refine lv_topi (fun z_32 ez_32 => ?_)
                    have iz_32 : z_32.toInt = k9_146.toInt + 1 := toInt_addI ez_32 (rfl) (by decide) (by omega)
                    refine va_put (D := D) (ci := 9) (v := .int z_32) (ty := .int) (C := RX9) (T := TX9) (N := 37) hx hb htg gRX9 tyX9 tyX9_ok nmX9 hown hK hP hD hS 0 rfl rfl 7 (by decide) (htg _ wi_1157) (fun _ h9 => h9) rfl (by decide +kernel) rfl rfl (Nat.le_of_ble_eq_true rfl) dX9_next_203 (fun H locs hP hD hS => ?_)
                    obtain ⟨hP, hD⟩ : PD D A [(sw_9 h0 g b0 b5 k9_8 z_32 b8 b9 v9_146_0 b11 b12 b13 b14 b17 b18 b19 b23 b24 b25 b26 b27 b29 b31 b32 b33), (sw_in cT (g 2) 900 a2)] _ := ⟨hP, hD⟩
                    refine lv_goto (tgt := 146) hx hb dX9_next_206 (by decide) ?_
                    have hk146 : kdB tx b8.toInt k9_146.toInt = 3 := by omega
                    have hin146 : ∀ j, k9_8.toInt ≤ j → j < z_32.toInt → kdB tx b8.toInt j = 3 := fun j a b => by rcases (show j < k9_146.toInt ∨ j = k9_146.toInt from by omega) with h | h; exact h9_146_0 j a h; rw [h]; exact hk146
                    have hv0 : v9_146_0.toInt = valB tx k9_8.toInt (min (z_32.toInt - k9_8.toInt) 3).toNat := by
                      rcases (show k9_146.toInt - k9_8.toInt < 3 ∨ 3 ≤ k9_146.toInt - k9_8.toInt from by omega) with h | h
                      · rw [show (min (z_32.toInt - k9_8.toInt) 3).toNat = (min (k9_146.toInt - k9_8.toInt) 3).toNat + 1 from by omega]; show _ = 10 * valB tx k9_8.toInt (min (k9_146.toInt - k9_8.toInt) 3).toNat + tx (k9_8.toInt + (((min (k9_146.toInt - k9_8.toInt) 3).toNat : Nat) : Int)).toNat - 48; rw [← h9_146_1, show k9_8.toInt + (((min (k9_146.toInt - k9_8.toInt) 3).toNat : Nat) : Int) = k9_146.toInt from by omega]; first | omega | (exfalso; omega) | (have h5 := cB_is (v := r9.toInt) rfl; omega)
                      · rw [show (min (z_32.toInt - k9_8.toInt) 3).toNat = (min (k9_146.toInt - k9_8.toInt) 3).toNat from by omega, ← h9_146_1] <;> omega
                    exact ih_146 (z_32) _ _ _ _ (by omega) (by omega) (by first | assumption | omega | decide | (simp only [ti_0, ti_1, ti_2, ti_3, ti_4, ti_5, ti_6, ti_7, ti_8, ti_9, ti_10, ti_11, ti_12, ti_m1]; omega)) (by first | assumption | omega | decide | (simp only [ti_0, ti_1, ti_2, ti_3, ti_4, ti_5, ti_6, ti_7, ti_8, ti_9, ti_10, ti_11, ti_12, ti_m1]; omega)) (by first | assumption | omega | decide | (simp only [ti_0, ti_1, ti_2, ti_3, ti_4, ti_5, ti_6, ti_7, ti_8, ti_9, ti_10, ti_11, ti_12, ti_m1]; omega)) (by first | assumption | omega | decide | (simp only [ti_0, ti_1, ti_2, ti_3, ti_4, ti_5, ti_6, ti_7, ti_8, ti_9, ti_10, ti_11, ti_12, ti_m1]; omega)) ⟨hP.sub [0, 1] rfl, hD.sub [0, 1] (by decide) rfl⟩ hS (lv_sub hl [0] rfl)
                  · have ic_31 : z_30.toInt < 3 := inle c_31 (by decide) (rfl)
                    refine lv_aload_n hx hb dX9_next_173 rfl (lv_at hl 0 rfl) ?_
                    refine lv_bipush (v := 10) hx hb dX9_next_174 (by decide) ?_
                    refine lv_aload_n hx hb dX9_next_176 rfl (lv_at hl 0 rfl) ?_
                    refine va_get (D := D) (ci := 9) (v := .int v9_146_0) (C := RX9) (T := TX9) (N := 37) hx hb htg gRX9 hown hK hP 0 rfl rfl 10 (by decide) (htg _ wi_1160) (fun _ h9 => h9) rfl dX9_next_177 ?_
                    refine lv_imul hx hb dX9_next_180 ?_
                    refine lv_topi (fun z_33 ez_33 => ?_)
                    have iz_33 : z_33.toInt = 10 * v9_146_0.toInt := toInt_mulI ez_33 (by decide) (rfl) (by omega)
                    refine lv_aload_n hx hb dX9_next_181 rfl (lv_at hl 0 rfl) ?_
                    refine lv_aload_n hx hb dX9_next_182 rfl (lv_at hl 0 rfl) ?_
                    refine va_get (D := D) (ci := 9) (v := .int k9_146) (C := RX9) (T := TX9) (N := 37) hx hb htg gRX9 hown hK hP 0 rfl rfl 7 (by decide) (htg _ wi_1157) (fun _ h9 => h9) rfl dX9_next_183 ?_
                    refine xk_i (wr := []) (xr_V (n := 1) (As := [.int k9_146]) (rest := [.int z_33, .ref h0]) ⟨hx, hb, hml, hown, htg⟩ hK hN hP hD hS hA [0, 1] rfl (by decide) (m_seeR l D cT _ (h0) (g) (b0) (b5) (k9_8) (k9_146) (b8) (b9) (v9_146_0) (b11) (b12) (b13) (b14) (b17) (b18) (b19) (b23) (b24) (b25) (b26) (b27) (b29) (b31) (b32) (b33) (by first | assumption | omega | decide | exact Or.inl (by decide) | (intro h9; exact absurd h9 (by decide)) | (intro _; omega) | (intro _; assumption) | (intro _; decide)) (a2) (k9_146) (by first | assumption | omega | decide | exact Or.inl (by decide) | (intro h9; exact absurd h9 (by decide)) | (intro _; omega) | (intro _; assumption) | (intro _; decide)) (by first | assumption | omega | decide | exact Or.inl (by decide) | (intro h9; exact absurd h9 (by decide)) | (intro _; omega) | (intro _; assumption) | (intro _; decide)) (tx) (by first | assumption | omega | decide | exact Or.inl (by decide) | (intro h9; exact absurd h9 (by decide)) | (intro _; omega) | (intro _; assumption) | (intro _; decide))) wi_1277 wi_1279 wi_79 wi_131 wi_1280 rfl rfl rfl ⟨rfl, by decide +kernel⟩ ⟨Nat.le_of_ble_eq_true rfl, Nat.le_of_ble_eq_true rfl⟩ rfl hl.1 rfl (Nat.le_of_ble_eq_true rfl) dX9_next_186 ⟨Nat.le_of_ble_eq_true rfl, Nat.le_of_ble_eq_true rfl⟩) hP hD hS hA [0, 1] [] rfl rfl (by decide) (by decide) (fun r_35 u_34 H locs hwr_35 hP hD hS => ?_)
                    obtain ⟨hP, hD⟩ : PD D A [(sw_9 h0 g b0 b5 k9_8 k9_146 b8 b9 v9_146_0 b11 b12 b13 b14 b17 b18 b19 b23 b24 b25 b26 b27 b29 b31 b32 b33), (sw_in cT (g 2) 900 a2)] _ := ⟨hP, hD⟩
                    have qr_35_0 : (k9_146.toInt < b8.toInt ∧ kdB tx b8.toInt k9_146.toInt = clsB r_35.toInt ∧ cB r_35.toInt = tx k9_146.toInt.toNat) ∨ (b8.toInt ≤ k9_146.toInt ∧ kdB tx b8.toInt k9_146.toInt = 0 ∧ r_35.toInt = -1) := hwr_35.1
                    have qr_35_1 : r_35 = seeF a2 b8 k9_146 := hwr_35.2.1
                    have hcr_35 := clsB_val r_35.toInt
                    have hddr_35 : r_35.toInt = tx k9_146.toInt.toNat := by rcases qr_35_0 with h | h; have h1 := h.2.2; rw [cB_in (by omega)] at h1; exact h1; omega
                    have ir_35 : 48 ≤ r_35.toInt ∧ r_35.toInt ≤ 57 := by omega
                    refine lv_iadd hx hb dX9_next_189 ?_
                    refine lv_topi (fun z_36 ez_36 => ?_)
                    have iz_36 : z_36.toInt = z_33.toInt + r_35.toInt := toInt_addI ez_36 (rfl) (rfl) (by omega)
                    refine lv_bipush (v := 48) hx hb dX9_next_190 (by decide) ?_
                    refine lv_isub hx hb dX9_next_192 ?_
                    refine lv_topi (fun z_37 ez_37 => ?_)
                    have iz_37 : z_37.toInt = z_36.toInt - 48 := toInt_subI ez_37 (rfl) (by decide) (by omega)
                    refine va_put (D := D) (ci := 9) (v := .int z_37) (ty := .int) (C := RX9) (T := TX9) (N := 37) hx hb htg gRX9 tyX9 tyX9_ok nmX9 hown hK hP hD hS 0 rfl rfl 10 (by decide) (htg _ wi_1160) (fun _ h9 => h9) rfl (by decide +kernel) rfl rfl (Nat.le_of_ble_eq_true rfl) dX9_next_193 (fun H locs hP hD hS => ?_)
                    obtain ⟨hP, hD⟩ : PD D A [(sw_9 h0 g b0 b5 k9_8 k9_146 b8 b9 z_37 b11 b12 b13 b14 b17 b18 b19 b23 b24 b25 b26 b27 b29 b31 b32 b33), (sw_in cT (g 2) 900 a2)] _ := ⟨hP, hD⟩
                    refine lv_aload_n hx hb dX9_next_196 rfl (lv_at hl 0 rfl) ?_
                    refine lv_dup hx hb dX9_next_197 rfl ?_
                    refine va_get (D := D) (ci := 9) (v := .int k9_146) (C := RX9) (T := TX9) (N := 37) hx hb htg gRX9 hown hK hP 0 rfl rfl 7 (by decide) (htg _ wi_1157) (fun _ h9 => h9) rfl dX9_next_198 ?_
                    refine lv_iconst (v := 1) hx hb dX9_next_201 (by decide) ?_
                    refine lv_iadd hx hb dX9_next_202 ?_
                    refine lv_topi (fun z_38 ez_38 => ?_)
                    have iz_38 : z_38.toInt = k9_146.toInt + 1 := toInt_addI ez_38 (rfl) (by decide) (by omega)
                    refine va_put (D := D) (ci := 9) (v := .int z_38) (ty := .int) (C := RX9) (T := TX9) (N := 37) hx hb htg gRX9 tyX9 tyX9_ok nmX9 hown hK hP hD hS 0 rfl rfl 7 (by decide) (htg _ wi_1157) (fun _ h9 => h9) rfl (by decide +kernel) rfl rfl (Nat.le_of_ble_eq_true rfl) dX9_next_203 (fun H locs hP hD hS => ?_)
                    obtain ⟨hP, hD⟩ : PD D A [(sw_9 h0 g b0 b5 k9_8 z_38 b8 b9 z_37 b11 b12 b13 b14 b17 b18 b19 b23 b24 b25 b26 b27 b29 b31 b32 b33), (sw_in cT (g 2) 900 a2)] _ := ⟨hP, hD⟩
                    refine lv_goto (tgt := 146) hx hb dX9_next_206 (by decide) ?_
                    have hk146 : kdB tx b8.toInt k9_146.toInt = 3 := by omega
                    have hin146 : ∀ j, k9_8.toInt ≤ j → j < z_38.toInt → kdB tx b8.toInt j = 3 := fun j a b => by rcases (show j < k9_146.toInt ∨ j = k9_146.toInt from by omega) with h | h; exact h9_146_0 j a h; rw [h]; exact hk146
                    have hv0 : z_37.toInt = valB tx k9_8.toInt (min (z_38.toInt - k9_8.toInt) 3).toNat := by
                      rcases (show k9_146.toInt - k9_8.toInt < 3 ∨ 3 ≤ k9_146.toInt - k9_8.toInt from by omega) with h | h
                      · rw [show (min (z_38.toInt - k9_8.toInt) 3).toNat = (min (k9_146.toInt - k9_8.toInt) 3).toNat + 1 from by omega]; show _ = 10 * valB tx k9_8.toInt (min (k9_146.toInt - k9_8.toInt) 3).toNat + tx (k9_8.toInt + (((min (k9_146.toInt - k9_8.toInt) 3).toNat : Nat) : Int)).toNat - 48; rw [← h9_146_1, show k9_8.toInt + (((min (k9_146.toInt - k9_8.toInt) 3).toNat : Nat) : Int) = k9_146.toInt from by omega]; first | omega | (exfalso; omega) | (have h5 := cB_is (v := r9.toInt) rfl; omega)
                      · rw [show (min (z_38.toInt - k9_8.toInt) 3).toNat = (min (k9_146.toInt - k9_8.toInt) 3).toNat from by omega, ← h9_146_1] <;> omega
                    exact ih_146 (z_38) _ _ _ _ (by omega) (by omega) (by first | assumption | omega | decide | (simp only [ti_0, ti_1, ti_2, ti_3, ti_4, ti_5, ti_6, ti_7, ti_8, ti_9, ti_10, ti_11, ti_12, ti_m1]; omega)) (by first | assumption | omega | decide | (simp only [ti_0, ti_1, ti_2, ti_3, ti_4, ti_5, ti_6, ti_7, ti_8, ti_9, ti_10, ti_11, ti_12, ti_m1]; omega)) (by first | assumption | omega | decide | (simp only [ti_0, ti_1, ti_2, ti_3, ti_4, ti_5, ti_6, ti_7, ti_8, ti_9, ti_10, ti_11, ti_12, ti_m1]; omega)) (by first | assumption | omega | decide | (simp only [ti_0, ti_1, ti_2, ti_3, ti_4, ti_5, ti_6, ti_7, ti_8, ti_9, ti_10, ti_11, ti_12, ti_m1]; omega)) ⟨hP.sub [0, 1] rfl, hD.sub [0, 1] (by decide) rfl⟩ hS (lv_sub hl [0] rfl)
          · have ic_13 := if1 hwr_12 c_13
            have hin89 : ∀ j, k9_8.toInt ≤ j → j < k9_8.toInt → kdB tx b8.toInt j = 2 := fun j a b => absurd a (by omega)
            refine (fun (key : ∀ (n9_89 : Nat) (k9_89 : Int32)  (H : Heap) (locs : List Loc) (ls : Array Slot), (k9_8.toInt ≤ k9_89.toInt ∧ k9_89.toInt ≤ b8.toInt) → b8.toInt < k9_89.toInt + n9_89 → (∀ j, k9_8.toInt ≤ j → j < k9_89.toInt → kdB tx b8.toInt j = 2) → PD D A [(sw_9 h0 g b0 b5 k9_8 k9_89 b8 b9 b10 b11 b12 b13 b14 b17 b18 b19 b23 b24 b25 b26 b27 b29 b31 b32 b33), (sw_in cT (g 2) 900 a2)] H → va_S A s.heap H locs → lv_has ls 1 [(0, .ref h0)] → W p l e _ s m _ below meth c H locs _ _ _ (F0 m 89 ls [])) => key (Int.toNat (b8.toInt - k9_8.toInt) + 1) (k9_8)  _ _ _ (by omega) (by omega) (by first | assumption | omega | decide | (simp only [ti_0, ti_1, ti_2, ti_3, ti_4, ti_5, ti_6, ti_7, ti_8, ti_9, ti_10, ti_11, ti_12, ti_m1]; omega)) ⟨hP, hD⟩ hS (lv_sub hl [0] rfl)) ?_
            intro n9_89
            induction n9_89 with
            | zero => intro k9_89  H locs ls hq1 hq2; exact absurd hq2 (by omega)
            | succ n9_89 ih_89 =>
              intro k9_89  H locs ls hq1_89 hq2_89 h9_89_0 hPD hS hl
              obtain ⟨hP, hD⟩ := hPD
              refine lv_aload_n hx hb dX9_next_89 rfl (lv_at hl 0 rfl) ?_
              refine lv_aload_n hx hb dX9_next_90 rfl (lv_at hl 0 rfl) ?_
              refine va_get (D := D) (ci := 9) (v := .int k9_89) (C := RX9) (T := TX9) (N := 37) hx hb htg gRX9 hown hK hP 0 rfl rfl 7 (by decide) (htg _ wi_1157) (fun _ h9 => h9) rfl dX9_next_91 ?_
              refine xk_i (wr := []) (xr_V (n := 1) (As := [.int k9_89]) (rest := []) ⟨hx, hb, hml, hown, htg⟩ hK hN hP hD hS hA [0, 1] rfl (by decide) (m_seeR l D cT _ (h0) (g) (b0) (b5) (k9_8) (k9_89) (b8) (b9) (b10) (b11) (b12) (b13) (b14) (b17) (b18) (b19) (b23) (b24) (b25) (b26) (b27) (b29) (b31) (b32) (b33) (by first | assumption | omega | decide | exact Or.inl (by decide) | (intro h9; exact absurd h9 (by decide)) | (intro _; omega) | (intro _; assumption) | (intro _; decide)) (a2) (k9_89) (by first | assumption | omega | decide | exact Or.inl (by decide) | (intro h9; exact absurd h9 (by decide)) | (intro _; omega) | (intro _; assumption) | (intro _; decide)) (by first | assumption | omega | decide | exact Or.inl (by decide) | (intro h9; exact absurd h9 (by decide)) | (intro _; omega) | (intro _; assumption) | (intro _; decide)) (tx) (by first | assumption | omega | decide | exact Or.inl (by decide) | (intro h9; exact absurd h9 (by decide)) | (intro _; omega) | (intro _; assumption) | (intro _; decide))) wi_1277 wi_1279 wi_79 wi_131 wi_1280 rfl rfl rfl ⟨rfl, by decide +kernel⟩ ⟨Nat.le_of_ble_eq_true rfl, Nat.le_of_ble_eq_true rfl⟩ rfl hl.1 rfl (Nat.le_of_ble_eq_true rfl) dX9_next_94 ⟨Nat.le_of_ble_eq_true rfl, Nat.le_of_ble_eq_true rfl⟩) hP hD hS hA [0, 1] [] rfl rfl (by decide) (by decide) (fun r_40 u_39 H locs hwr_40 hP hD hS => ?_)
              obtain ⟨hP, hD⟩ : PD D A [(sw_9 h0 g b0 b5 k9_8 k9_89 b8 b9 b10 b11 b12 b13 b14 b17 b18 b19 b23 b24 b25 b26 b27 b29 b31 b32 b33), (sw_in cT (g 2) 900 a2)] _ := ⟨hP, hD⟩
              have qr_40_0 : (k9_89.toInt < b8.toInt ∧ kdB tx b8.toInt k9_89.toInt = clsB r_40.toInt ∧ cB r_40.toInt = tx k9_89.toInt.toNat) ∨ (b8.toInt ≤ k9_89.toInt ∧ kdB tx b8.toInt k9_89.toInt = 0 ∧ r_40.toInt = -1) := hwr_40.1
              have qr_40_1 : r_40 = seeF a2 b8 k9_89 := hwr_40.2.1
              have hcr_40 := clsB_val r_40.toInt
              refine xk_i (wr := [(sw_9 h0 g b0 b5 k9_8 k9_89 b8 b9 b10 b11 b12 b13 b14 b17 b18 b19 b23 b24 b25 b26 b27 b29 b31 b32 b33), (sw_in cT (g 2) 900 a2)]) (xr_S (n := 1) (As := [.int r_40]) (rest := []) ⟨hx, hb, hml, hown, htg⟩ hK hN hP hD hS hA [] rfl (by decide) (m_isSmall l D cT _ (r_40)) wi_1281 wi_1282 wi_131 wi_1283 ⟨rfl, by decide +kernel⟩ ⟨Nat.le_of_ble_eq_true rfl, Nat.le_of_ble_eq_true rfl⟩ rfl hl.1 rfl (Nat.le_of_ble_eq_true rfl) dX9_next_97 ⟨Nat.le_of_ble_eq_true rfl, Nat.le_of_ble_eq_true rfl⟩) hP hD hS hA [] [0, 1] rfl rfl (by decide) (by decide) (fun r_42 u_41 H locs hwr_42 hP hD hS => ?_)
              obtain ⟨hP, hD⟩ : PD D A [(sw_9 h0 g b0 b5 k9_8 k9_89 b8 b9 b10 b11 b12 b13 b14 b17 b18 b19 b23 b24 b25 b26 b27 b29 b31 b32 b33), (sw_in cT (g 2) 900 a2)] _ := ⟨hP, hD⟩
              have hwr_42 : r_42 = if 97 ≤ r_40.toInt ∧ r_40.toInt ≤ 122 then 1 else 0 := hwr_42
              refine lv_if_eq (tgt := 116) hx hb dX9_next_100 (by decide) (fun c_43 => ?_) (fun c_43 => ?_)
              · have ic_43 := if0 hwr_42 c_43
                have hadv : k9_8.toInt < k9_89.toInt := by
                  rcases (show k9_8.toInt < k9_89.toInt ∨ k9_8.toInt = k9_89.toInt from by omega) with h8 | h8
                  · exact h8
                  · exfalso
                    have e8 : k9_89 = k9_8 := i32_is h8.symm
                    have e7 : r_40 = r_10 := by rw [qr_40_1, qr_10_1, e8]
                    rw [e7] at ic_43
                    exact ic_43 ic_13
                refine lv_aload_n hx hb dX9_next_116 rfl (lv_at hl 0 rfl) ?_
                refine lv_aload_n hx hb dX9_next_117 rfl (lv_at hl 0 rfl) ?_
                refine xk_i (wr := []) (xr_V (n := 0) (As := []) (rest := [.ref h0]) ⟨hx, hb, hml, hown, htg⟩ hK hN hP hD hS hA [0, 1] rfl (by decide) (m_keyAtR l D cT _ (h0) (g) (b0) (b5) (k9_8) (k9_89) (b8) (b9) (b10) (b11) (b12) (b13) (b14) (b17) (b18) (b19) (b23) (b24) (b25) (b26) (b27) (b29) (b31) (b32) (b33) (by first | assumption | omega | decide | exact Or.inl (by decide) | (intro h9; exact absurd h9 (by decide)) | (intro _; omega) | (intro _; assumption) | (intro _; decide)) (a2) (by first | assumption | omega | decide | exact Or.inl (by decide) | (intro h9; exact absurd h9 (by decide)) | (intro _; omega) | (intro _; assumption) | (intro _; decide)) (by first | assumption | omega | decide | exact Or.inl (by decide) | (intro h9; exact absurd h9 (by decide)) | (intro _; omega) | (intro _; assumption) | (intro _; decide)) (by first | assumption | omega | decide | exact Or.inl (by decide) | (intro h9; exact absurd h9 (by decide)) | (intro _; omega) | (intro _; assumption) | (intro _; decide)) (tx) (by first | assumption | omega | decide | exact Or.inl (by decide) | (intro h9; exact absurd h9 (by decide)) | (intro _; omega) | (intro _; assumption) | (intro _; decide))) wi_1284 wi_1286 wi_80 wi_131 wi_1287 rfl rfl rfl ⟨rfl, by decide +kernel⟩ ⟨Nat.le_of_ble_eq_true rfl, Nat.le_of_ble_eq_true rfl⟩ rfl hl.1 rfl (Nat.le_of_ble_eq_true rfl) dX9_next_118 ⟨Nat.le_of_ble_eq_true rfl, Nat.le_of_ble_eq_true rfl⟩) hP hD hS hA [0, 1] [] rfl rfl (by decide) (by decide) (fun r_45 u_44 H locs hwr_45 hP hD hS => ?_)
                obtain ⟨hP, hD⟩ : PD D A [(sw_9 h0 g b0 b5 k9_8 k9_89 b8 b9 b10 b11 b12 b13 b14 b17 b18 b19 b23 b24 b25 b26 b27 b29 b31 b32 b33), (sw_in cT (g 2) 900 a2)] _ := ⟨hP, hD⟩
                have qr_45_0 : r_45.toInt = keyF tx k9_8.toInt k9_89.toInt := hwr_45.1
                refine va_put (D := D) (ci := 9) (v := .int r_45) (ty := .int) (C := RX9) (T := TX9) (N := 37) hx hb htg gRX9 tyX9 tyX9_ok nmX9 hown hK hP hD hS 0 rfl rfl 9 (by decide) (htg _ wi_1159) (fun _ h9 => h9) rfl (by decide +kernel) rfl rfl (Nat.le_of_ble_eq_true rfl) dX9_next_121 (fun H locs hP hD hS => ?_)
                obtain ⟨hP, hD⟩ : PD D A [(sw_9 h0 g b0 b5 k9_8 k9_89 b8 r_45 b10 b11 b12 b13 b14 b17 b18 b19 b23 b24 b25 b26 b27 b29 b31 b32 b33), (sw_in cT (g 2) 900 a2)] _ := ⟨hP, hD⟩
                refine lv_goto (tgt := 270) hx hb dX9_next_124 (by decide) ?_
                have hen : k9_89.toInt = runB tx b8.toInt 2 1000 k9_8.toInt := (runB_is 1000 _ _ (by omega) h9_89_0 (by omega) (by omega)).symm
                have hNx := nxt_w (tx := tx) (n := b8.toInt) (sg := sg) (st := k9_8.toInt) (en := k9_89.toInt) hst (by omega) hen
                have hkk := keyF_in tx k9_8.toInt k9_89.toInt
                exact x_vret hx hb hr hlk hP hD hS [0, 1] ((k9_8, k9_89, r_45, b10)) rfl (by decide) ⟨(by (try dsimp only); first | assumption | omega | decide | exact Or.inl (by decide) | (intro h9; exact absurd h9 (by decide)) | (intro _; omega) | (intro _; assumption) | (intro _; decide)), (by (try dsimp only); first | assumption | omega | decide | exact Or.inl (by decide) | (intro h9; exact absurd h9 (by decide)) | (intro _; omega) | (intro _; assumption) | (intro _; decide)), (fun h9 => by (try dsimp only at h9 ⊢); omega), (by (try dsimp only); first | assumption | omega | decide | exact Or.inl (by decide) | (intro h9; exact absurd h9 (by decide)) | (intro _; omega) | (intro _; assumption) | (intro _; decide)), (by (try dsimp only); first | assumption | omega | decide | exact Or.inl (by decide) | (intro h9; exact absurd h9 (by decide)) | (intro _; omega) | (intro _; assumption) | (intro _; decide)), (by (try dsimp only); first | assumption | omega | decide | exact Or.inl (by decide) | (intro h9; exact absurd h9 (by decide)) | (intro _; omega) | (intro _; assumption) | (intro _; decide)), (by (try dsimp only); unfold NV; omega), (by (try dsimp only); first | assumption | omega | decide | exact Or.inl (by decide) | (intro h9; exact absurd h9 (by decide)) | (intro _; omega) | (intro _; assumption) | (intro _; decide)), (by (try dsimp only); have h1 := rs5; unfold WR at h1 ⊢; omega), trivial⟩ (by decide) (by decide) dX9_next_270
              · have ic_43 := if1 hwr_42 c_43
                refine lv_aload_n hx hb dX9_next_103 rfl (lv_at hl 0 rfl) ?_
                refine lv_dup hx hb dX9_next_104 rfl ?_
                refine va_get (D := D) (ci := 9) (v := .int k9_89) (C := RX9) (T := TX9) (N := 37) hx hb htg gRX9 hown hK hP 0 rfl rfl 7 (by decide) (htg _ wi_1157) (fun _ h9 => h9) rfl dX9_next_105 ?_
                refine lv_iconst (v := 1) hx hb dX9_next_108 (by decide) ?_
                refine lv_iadd hx hb dX9_next_109 ?_
                refine lv_topi (fun z_46 ez_46 => ?_)
                have iz_46 : z_46.toInt = k9_89.toInt + 1 := toInt_addI ez_46 (rfl) (by decide) (by omega)
                refine va_put (D := D) (ci := 9) (v := .int z_46) (ty := .int) (C := RX9) (T := TX9) (N := 37) hx hb htg gRX9 tyX9 tyX9_ok nmX9 hown hK hP hD hS 0 rfl rfl 7 (by decide) (htg _ wi_1157) (fun _ h9 => h9) rfl (by decide +kernel) rfl rfl (Nat.le_of_ble_eq_true rfl) dX9_next_110 (fun H locs hP hD hS => ?_)
                obtain ⟨hP, hD⟩ : PD D A [(sw_9 h0 g b0 b5 k9_8 z_46 b8 b9 b10 b11 b12 b13 b14 b17 b18 b19 b23 b24 b25 b26 b27 b29 b31 b32 b33), (sw_in cT (g 2) 900 a2)] _ := ⟨hP, hD⟩
                refine lv_goto (tgt := 89) hx hb dX9_next_113 (by decide) ?_
                have hk89 : kdB tx b8.toInt k9_89.toInt = 2 := by omega
                have hin89 : ∀ j, k9_8.toInt ≤ j → j < z_46.toInt → kdB tx b8.toInt j = 2 := fun j a b => by rcases (show j < k9_89.toInt ∨ j = k9_89.toInt from by omega) with h | h; exact h9_89_0 j a h; rw [h]; exact hk89
                exact ih_89 (z_46)  _ _ _ (by omega) (by omega) (by first | assumption | omega | decide | (simp only [ti_0, ti_1, ti_2, ti_3, ti_4, ti_5, ti_6, ti_7, ti_8, ti_9, ti_10, ti_11, ti_12, ti_m1]; omega)) ⟨hP.sub [0, 1] rfl, hD.sub [0, 1] (by decide) rfl⟩ hS (lv_sub hl [0] rfl)
        · have ic_8 : b8.toInt ≤ k9_8.toInt := inlt c_8 (rfl) (rfl)
          refine lv_aload_n hx hb dX9_next_66 rfl (lv_at hl 0 rfl) ?_
          refine lv_bipush (v := 16) hx hb dX9_next_67 (by decide) ?_
          refine va_put (D := D) (ci := 9) (v := .int 16) (ty := .int) (C := RX9) (T := TX9) (N := 37) hx hb htg gRX9 tyX9 tyX9_ok nmX9 hown hK hP hD hS 0 rfl rfl 9 (by decide) (htg _ wi_1159) (fun _ h9 => h9) rfl (by decide +kernel) rfl rfl (Nat.le_of_ble_eq_true rfl) dX9_next_69 (fun H locs hP hD hS => ?_)
          obtain ⟨hP, hD⟩ : PD D A [(sw_9 h0 g b0 b5 k9_8 k9_8 b8 16 b10 b11 b12 b13 b14 b17 b18 b19 b23 b24 b25 b26 b27 b29 b31 b32 b33), (sw_in cT (g 2) 900 a2)] _ := ⟨hP, hD⟩
          refine lv_goto (tgt := 270) hx hb dX9_next_72 (by decide) ?_
          have hNx := nxt_o (tx := tx) (n := b8.toInt) (sg := sg) (st := k9_8.toInt) hst (by omega) (by omega)
          exact x_vret hx hb hr hlk hP hD hS [0, 1] ((k9_8, k9_8, 16, b10)) rfl (by decide) ⟨(by (try dsimp only); first | assumption | omega | decide | exact Or.inl (by decide) | (intro h9; exact absurd h9 (by decide)) | (intro _; omega) | (intro _; assumption) | (intro _; decide)), (by (try dsimp only); first | assumption | omega | decide | exact Or.inl (by decide) | (intro h9; exact absurd h9 (by decide)) | (intro _; omega) | (intro _; assumption) | (intro _; decide)), (fun h9 => by (try dsimp only at h9 ⊢); omega), (by (try dsimp only); first | assumption | omega | decide | exact Or.inl (by decide) | (intro h9; exact absurd h9 (by decide)) | (intro _; omega) | (intro _; assumption) | (intro _; decide)), (by (try dsimp only); first | assumption | omega | decide | exact Or.inl (by decide) | (intro h9; exact absurd h9 (by decide)) | (intro _; omega) | (intro _; assumption) | (intro _; decide)), (by (try dsimp only); first | assumption | omega | decide | exact Or.inl (by decide) | (intro h9; exact absurd h9 (by decide)) | (intro _; omega) | (intro _; assumption) | (intro _; decide)), (by (try dsimp only); unfold NV; omega), (by (try dsimp only); first | assumption | omega | decide | exact Or.inl (by decide) | (intro h9; exact absurd h9 (by decide)) | (intro _; omega) | (intro _; assumption) | (intro _; decide)), (by (try dsimp only); have h1 := rs5; unfold WR at h1 ⊢; omega), trivial⟩ (by decide) (by decide) dX9_next_270
      · have ic_7 : r_6.toInt = 32 := ieq c_7 (rfl) (by decide)
        refine lv_aload_n hx hb dX9_next_34 rfl (lv_at hl 0 rfl) ?_
        refine lv_dup hx hb dX9_next_35 rfl ?_
        refine va_get (D := D) (ci := 9) (v := .int k9_8) (C := RX9) (T := TX9) (N := 37) hx hb htg gRX9 hown hK hP 0 rfl rfl 6 (by decide) (htg _ wi_1156) (fun _ h9 => h9) rfl dX9_next_36 ?_
        refine lv_iconst (v := 1) hx hb dX9_next_39 (by decide) ?_
        refine lv_iadd hx hb dX9_next_40 ?_
        refine lv_topi (fun z_47 ez_47 => ?_)
        have iz_47 : z_47.toInt = k9_8.toInt + 1 := toInt_addI ez_47 (rfl) (by decide) (by omega)
        refine va_put (D := D) (ci := 9) (v := .int z_47) (ty := .int) (C := RX9) (T := TX9) (N := 37) hx hb htg gRX9 tyX9 tyX9_ok nmX9 hown hK hP hD hS 0 rfl rfl 6 (by decide) (htg _ wi_1156) (fun _ h9 => h9) rfl (by decide +kernel) rfl rfl (Nat.le_of_ble_eq_true rfl) dX9_next_41 (fun H locs hP hD hS => ?_)
        obtain ⟨hP, hD⟩ : PD D A [(sw_9 h0 g b0 b5 z_47 b7 b8 b9 b10 b11 b12 b13 b14 b17 b18 b19 b23 b24 b25 b26 b27 b29 b31 b32 b33), (sw_in cT (g 2) 900 a2)] _ := ⟨hP, hD⟩
        refine lv_goto (tgt := 8) hx hb dX9_next_44 (by decide) ?_
        have hk1 : kdB tx b8.toInt k9_8.toInt = 1 := by omega
        have hin : ∀ j, b7.toInt ≤ j → j < z_47.toInt → kdB tx b8.toInt j = 1 := fun j a b => by rcases (show j < k9_8.toInt ∨ j = k9_8.toInt from by omega) with h | h; exact h9_8_0 j a h; rw [h]; exact hk1
        exact ih_8 (z_47)  _ _ _ (by omega) (by omega) (by first | assumption | omega | decide | (simp only [ti_0, ti_1, ti_2, ti_3, ti_4, ti_5, ti_6, ti_7, ti_8, ti_9, ti_10, ti_11, ti_12, ti_m1]; omega)) ⟨hP.sub [0, 1] rfl, hD.sub [0, 1] (by decide) rfl⟩ hS (lv_sub hl [0] rfl)
