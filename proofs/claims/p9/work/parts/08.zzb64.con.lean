set_option maxHeartbeats 4000000 in
set_option maxRecDepth 100000 in
theorem m_shadedX (l : Launch) (D : va_G) (cT : Nat → ClassId) (sz : Nat) (h0 : Nat) (g : Nat → Nat) (b0 : Int32) (b5 : Int32) (b6 : Int32) (b7 : Int32) (b8 : Int32) (b9 : Int32) (b10 : Int32) (b11 : Int32) (b12 : Int32) (b13 : Int32) (b14 : Int32) (b17 : Int32) (b18 : Int32) (b19 : Int32) (b23 : Int32) (b24 : Int32) (b25 : Int32) (b26 : Int32) (b27 : Int32) (b29 : Int32) (b31 : Int32) (b32 : Int32) (b33 : Int32) (hb5 : 0 ≤ b5.toInt ∧ b5.toInt ≤ 900) (a0 : Nat → Int32) (pa0 : PI 288 a0) (x : Int32) : Met l yX9_shaded (wsc yX9_shaded cX9_shaded 4 (some .int)) { frames := 4, cells := 0, slots := 0, locals := 147 } (va_Pc [.ref h0, .int x] (PX D cT sz [(sw_9 h0 g b0 b5 b6 b7 b8 b9 b10 b11 b12 b13 b14 b17 b18 b19 b23 b24 b25 b26 b27 b29 b31 b32 b33), (sw_in cT (g 0) 288 a0)])) (va_Qi (fun (r : Int32) (u : Int32) => ((0 ≤ x.toInt ∧ x.toInt < (a0 0).toInt) → r = shdR (fun j => a0 (48 + j)) (a0 3) (a0 4) (a0 5) x.toInt (a0 0).toInt.toNat) ∧ (¬ (0 ≤ x.toInt ∧ x.toInt < (a0 0).toInt) → r.toInt = -2) ∧ (True)) (fun u t => RW D (va_A [(sw_9 h0 g b0 b5 b6 b7 b8 b9 b10 b11 b12 b13 b14 b17 b18 b19 b23 b24 b25 b26 b27 b29 b31 b32 b33), (sw_in cT (g 0) 288 a0)] sz) ((fun u : Int32 => [(sw_9 h0 g u b5 b6 b7 b8 b9 b10 b11 b12 b13 b14 b17 b18 b19 b23 b24 b25 b26 b27 b29 b31 b32 b33), (sw_in cT (g 0) 288 a0)]) u) t) (va_A [(sw_9 h0 g b0 b5 b6 b7 b8 b9 b10 b11 b12 b13 b14 b17 b18 b19 b23 b24 b25 b26 b27 b29 b31 b32 b33), (sw_in cT (g 0) 288 a0)] sz)) 0 0 (va_A [(sw_9 h0 g b0 b5 b6 b7 b8 b9 b10 b11 b12 b13 b14 b17 b18 b19 b23 b24 b25 b26 b27 b29 b31 b32 b33), (sw_in cT (g 0) 288 a0)] sz) := by
  refine m_of (y := yX9_shaded) (cc := cX9_shaded) (nL := 4) (ret := (some .int)) (D := D) (cT := cT) (av := [.ref h0, .int x]) (wi := [(sw_9 h0 g b0 b5 b6 b7 b8 b9 b10 b11 b12 b13 b14 b17 b18 b19 b23 b24 b25 b26 b27 b29 b31 b32 b33), (sw_in cT (g 0) 288 a0)]) (fun A => va_Qi (fun (r : Int32) (u : Int32) => ((0 ≤ x.toInt ∧ x.toInt < (a0 0).toInt) → r = shdR (fun j => a0 (48 + j)) (a0 3) (a0 4) (a0 5) x.toInt (a0 0).toInt.toNat) ∧ (¬ (0 ≤ x.toInt ∧ x.toInt < (a0 0).toInt) → r.toInt = -2) ∧ (True)) (fun u t => RW D A ((fun u : Int32 => [(sw_9 h0 g u b5 b6 b7 b8 b9 b10 b11 b12 b13 b14 b17 b18 b19 b23 b24 b25 b26 b27 b29 b31 b32 b33), (sw_in cT (g 0) 288 a0)]) u) t) A) (by decide) (Nat.le_of_ble_eq_true rfl) ?_
  intro p e s m below meth c A hx hb hml hown htg hK hN hr hlk hnm hsz hP hD hS hA ls hl
  have hown : s.vm.findClass RX9 = some m.cls := hown
  have hl : lv_has ls 4 [(0, .ref h0), (1, .int x)] := hl
  have tc_m2 : ((-2) : Int32).toInt = (-2) := by decide
  have tc_0 : (0 : Int32).toInt = 0 := by decide
  have tc_1 : (1 : Int32).toInt = 1 := by decide
  have tc_3 : (3 : Int32).toInt = 3 := by decide
  refine lv_aload_n hx hb dX9_shaded_0 rfl (lv_at hl 0 rfl) ?_
  refine lv_iconst (v := 0) hx hb dX9_shaded_1 (by decide) ?_
  refine va_put (D := D) (ci := 9) (v := .int 0) (ty := .int) (C := RX9) (T := TX9) (N := 37) hx hb htg gRX9 tyX9 tyX9_ok nmX9 hown hK hP hD hS 0 rfl rfl 0 (by decide) (htg _ wi_1150) (fun _ h9 => h9) rfl (by decide +kernel) rfl rfl (Nat.le_of_ble_eq_true rfl) dX9_shaded_2 (fun H locs hP hD hS => ?_)
  obtain ⟨hP, hD⟩ : PD D A [(sw_9 h0 g 0 b5 b6 b7 b8 b9 b10 b11 b12 b13 b14 b17 b18 b19 b23 b24 b25 b26 b27 b29 b31 b32 b33), (sw_in cT (g 0) 288 a0)] _ := ⟨hP, hD⟩
  refine lv_aload_n hx hb dX9_shaded_5 rfl (lv_at hl 0 rfl) ?_
  refine lv_iload_n hx hb dX9_shaded_6 rfl (lv_at hl 1 rfl) ?_
  refine xk_i (wr := []) (xr_V (n := 1) (As := [.int x]) (rest := []) ⟨hx, hb, hml, hown, htg⟩ hK hN hP hD hS hA [0, 1] rfl (by decide) (m_isStripB l D cT _ (h0) (g) (0) (b5) (b6) (b7) (b8) (b9) (b10) (b11) (b12) (b13) (b14) (b17) (b18) (b19) (b23) (b24) (b25) (b26) (b27) (b29) (b31) (b32) (b33) (by first | assumption | omega | decide | exact Or.inl (by decide) | (intro h9; exact absurd h9 (by decide)) | (intro _; omega) | (intro _; assumption) | (intro _; decide)) (a0) (by first | assumption | omega | decide | exact Or.inl (by decide) | (intro h9; exact absurd h9 (by decide)) | (intro _; omega) | (intro _; assumption) | (intro _; decide)) (x)) wi_1338 wi_1340 wi_90 wi_131 wi_1341 rfl rfl rfl ⟨rfl, by decide +kernel⟩ ⟨Nat.le_of_ble_eq_true rfl, Nat.le_of_ble_eq_true rfl⟩ rfl hl.1 rfl (Nat.le_of_ble_eq_true rfl) dX9_shaded_7 ⟨Nat.le_of_ble_eq_true rfl, Nat.le_of_ble_eq_true rfl⟩) hP hD hS hA [0, 1] [] rfl rfl (by decide) (by decide) (fun r_2 u_1 H locs hwr_2 hP hD hS => ?_)
  obtain ⟨hP, hD⟩ : PD D A [(sw_9 h0 g 0 b5 b6 b7 b8 b9 b10 b11 b12 b13 b14 b17 b18 b19 b23 b24 b25 b26 b27 b29 b31 b32 b33), (sw_in cT (g 0) 288 a0)] _ := ⟨hP, hD⟩
  have qr_2_0 : Imp (¬ r_2.toInt = 0) (0 ≤ x.toInt ∧ x.toInt ≤ 15) := hwr_2.1
  have qr_2_1 : Imp (¬ r_2.toInt = 0) (x.toInt < (a0 0).toInt) := hwr_2.2.1
  have qr_2_2 : Imp (r_2.toInt = 0) (x.toInt < 0 ∨ (a0 0).toInt ≤ x.toInt) := hwr_2.2.2.1
  have qr_2_3 : r_2 = 0 ∨ r_2 = 1 := hwr_2.2.2.2.1
  refine lv_if_ne (tgt := 16) hx hb dX9_shaded_10 (by decide) (fun c_3 => ?_) (fun c_3 => ?_)
  · have ic_3 : ¬ r_2.toInt = 0 := ine c_3 (rfl) (by decide)
    have kqr_2_0 : 0 ≤ x.toInt ∧ x.toInt ≤ 15 := qr_2_0 ic_3
    have kqr_2_1 : x.toInt < (a0 0).toInt := qr_2_1 ic_3
    refine lv_iconst (v := 0) hx hb dX9_shaded_16 (by decide) ?_
    refine lv_istore_n (lv' := [(2, .int 0), (0, .ref h0), (1, .int x)]) hx hb dX9_shaded_17 rfl hl (by decide) rfl (fun ls hl => ?_)
    refine lv_iconst (v := 0) hx hb dX9_shaded_18 (by decide) ?_
    refine lv_istore_n (lv' := [(3, .int 0), (2, .int 0), (0, .ref h0), (1, .int x)]) hx hb dX9_shaded_19 rfl hl (by decide) rfl (fun ls hl => ?_)
    have hb0 : (0 : Int32) = shdR (fun j => a0 (48 + j)) (a0 3) (a0 4) (a0 5) x.toInt 0 := rfl
    have hn0 : ((0 : Nat) : Int) ≤ (a0 0).toInt := by have h7 := pa0 0 (by decide); unfold OKP at h7; omega
    refine (fun (key : ∀ (n9_20 : Nat) (k9_20 : Nat) (x9_20_2 : Int32) (H : Heap) (locs : List Loc) (ls : Array Slot), (k9_20 : Int) ≤ 16 → 16 < (k9_20 : Int) + n9_20 → (x9_20_2 = shdR (fun j => a0 (48 + j)) (a0 3) (a0 4) (a0 5) x.toInt k9_20) → ((k9_20 : Int) ≤ (a0 0).toInt) → PD D A [(sw_9 h0 g 0 b5 b6 b7 b8 b9 b10 b11 b12 b13 b14 b17 b18 b19 b23 b24 b25 b26 b27 b29 b31 b32 b33), (sw_in cT (g 0) 288 a0)] H → va_S A s.heap H locs → lv_has ls 4 [(3, .int (nI k9_20)), (2, .int x9_20_2), (0, .ref h0), (1, .int x)] → W p l e _ s m _ below meth c H locs _ _ _ (F0 m 20 ls [])) => key (Int.toNat (16 - 0) + 1) 0 _ _ _ _ (by omega) (by omega) (by first | assumption | omega | decide | (simp only [ti_0, ti_1, ti_2, ti_3, ti_4, ti_5, ti_6, ti_7, ti_8, ti_9, ti_10, ti_11, ti_12, ti_m1]; omega)) (by first | assumption | omega | decide | (simp only [ti_0, ti_1, ti_2, ti_3, ti_4, ti_5, ti_6, ti_7, ti_8, ti_9, ti_10, ti_11, ti_12, ti_m1]; omega)) ⟨hP, hD⟩ hS (lv_sub hl [0, 1, 2, 3] rfl)) ?_
    intro n9_20
    induction n9_20 with
    | zero => intro k9_20 x9_20_2 H locs ls hq1 hq2; exact absurd hq2 (by omega)
    | succ n9_20 ih_20 =>
      intro k9_20 x9_20_2 H locs ls hq1_20 hq2_20 h9_20_0 h9_20_1 hPD hS hl
      obtain ⟨hP, hD⟩ := hPD
      have hk9_20 : (nI k9_20).toInt = (k9_20 : Int) := nI_toInt (by omega)
      refine lv_iload_n hx hb dX9_shaded_20 rfl (lv_at hl 0 rfl) ?_
      refine lv_aload_n hx hb dX9_shaded_21 rfl (lv_at hl 2 rfl) ?_
      refine va_get (D := D) (ci := 9) (v := .ref (g 0)) (C := RX9) (T := TX9) (N := 37) hx hb htg gRX9 hown hK hP 0 rfl rfl 1 (by decide) (htg _ wi_1151) (fun _ h9 => h9) rfl dX9_shaded_22 ?_
      refine lv_iconst (v := 0) hx hb dX9_shaded_25 (by decide) ?_
      refine va_iald hx hb hK hP 1 0 rfl rfl (by unfold vp_in; decide) dX9_shaded_26 ?_
      refine lv_topi (fun z_4 ez_4 => ?_)
      have iz_4 : 0 ≤ z_4.toInt ∧ z_4.toInt ≤ 16 := by rw [ez_4]; exact rd0 pa0 (by decide) rfl
      have nz_4 : z_4.toInt = ((a0) 0).toInt := by rw [ez_4]; rfl
      have nz_4 : z_4.toInt = (a0 0).toInt := by rw [ez_4]; rfl
      refine lv_icmp_ge (tgt := 70) hx hb dX9_shaded_27 (by decide) (fun c_5 => ?_) (fun c_5 => ?_)
      · have ic_5 : z_4.toInt ≤ ((k9_20 : Nat) : Int) := ile c_5 (rfl) (nI_toInt (by omega))
        refine lv_iload_n hx hb dX9_shaded_70 rfl (lv_at hl 1 rfl) ?_
        exact x_iret hx hb hr hlk hP hD hS [0, 1] ((0)) rfl (by decide) ⟨(fun _ => by (try dsimp only); rw [show (a0 0).toInt.toNat = k9_20 from by omega]; assumption), (fun h9 => by exfalso; omega), trivial⟩ (by decide) (by decide) dX9_shaded_71
      · have ic_5 : ((k9_20 : Nat) : Int) < z_4.toInt := inle c_5 (rfl) (nI_toInt (by omega))
        refine lv_iload_n hx hb dX9_shaded_30 rfl (lv_at hl 1 rfl) ?_
        refine lv_aload_n hx hb dX9_shaded_31 rfl (lv_at hl 2 rfl) ?_
        refine lv_iload_n hx hb dX9_shaded_32 rfl (lv_at hl 3 rfl) ?_
        refine lv_iload_n hx hb dX9_shaded_33 rfl (lv_at hl 0 rfl) ?_
        refine xk_i (wr := []) (xr_V (n := 2) (As := [.int x, .int (nI k9_20)]) (rest := [.int x9_20_2]) ⟨hx, hb, hml, hown, htg⟩ hK hN hP hD hS hA [0, 1] rfl (by decide) (m_nearnessX l D cT _ (h0) (g) (0) (b5) (b6) (b7) (b8) (b9) (b10) (b11) (b12) (b13) (b14) (b17) (b18) (b19) (b23) (b24) (b25) (b26) (b27) (b29) (b31) (b32) (b33) (by first | assumption | omega | decide | exact Or.inl (by decide) | (intro h9; exact absurd h9 (by decide)) | (intro _; omega) | (intro _; assumption) | (intro _; decide)) (a0) (by first | assumption | omega | decide | exact Or.inl (by decide) | (intro h9; exact absurd h9 (by decide)) | (intro _; omega) | (intro _; assumption) | (intro _; decide)) (x) ((nI k9_20)) (by first | assumption | omega | decide | exact Or.inl (by decide) | (intro h9; exact absurd h9 (by decide)) | (intro _; omega) | (intro _; assumption) | (intro _; decide)) (by first | assumption | omega | decide | exact Or.inl (by decide) | (intro h9; exact absurd h9 (by decide)) | (intro _; omega) | (intro _; assumption) | (intro _; decide))) wi_1358 wi_1360 wi_94 wi_131 wi_1361 rfl rfl rfl ⟨rfl, by decide +kernel⟩ ⟨Nat.le_of_ble_eq_true rfl, Nat.le_of_ble_eq_true rfl⟩ rfl hl.1 rfl (Nat.le_of_ble_eq_true rfl) dX9_shaded_34 ⟨Nat.le_of_ble_eq_true rfl, Nat.le_of_ble_eq_true rfl⟩) hP hD hS hA [0, 1] [] rfl rfl (by decide) (by decide) (fun r_7 u_6 H locs hwr_7 hP hD hS => ?_)
        obtain ⟨hP, hD⟩ : PD D A [(sw_9 h0 g 0 b5 b6 b7 b8 b9 b10 b11 b12 b13 b14 b17 b18 b19 b23 b24 b25 b26 b27 b29 b31 b32 b33), (sw_in cT (g 0) 288 a0)] _ := ⟨hP, hD⟩
        have qr_7_0 : r_7.toInt = unl (a0 4) (a0 5) x.toInt (nI k9_20).toInt := hwr_7.1
        rw [hk9_20] at qr_7_0
        refine lv_if_le (tgt := 61) hx hb dX9_shaded_37 (by decide) (fun c_8 => ?_) (fun c_8 => ?_)
        · have ic_8 : r_7.toInt ≤ 0 := ile c_8 (rfl) (by decide)
          refine lv_iconst (v := 0) hx hb dX9_shaded_61 (by decide) ?_
          refine lv_ior hx hb dX9_shaded_62 ?_
          refine lv_topi (fun z_9 ez_9 => ?_)
          refine lv_istore_n (lv' := [(2, .int z_9), (3, .int (nI k9_20)), (0, .ref h0), (1, .int x)]) hx hb dX9_shaded_63 rfl hl (by decide) rfl (fun ls hl => ?_)
          refine lv_iinc (v := (nI (k9_20 + 1))) (lv' := [(3, .int (nI (k9_20 + 1))), (2, .int z_9), (0, .ref h0), (1, .int x)]) hx hb dX9_shaded_64 hl (k := 1) rfl (by exact nI_1 (k9_20)) (by decide) rfl (fun ls hl => ?_)
          refine lv_goto (tgt := 20) hx hb dX9_shaded_67 (by decide) ?_
          have hb1 : z_9 = shdR (fun j => a0 (48 + j)) (a0 3) (a0 4) (a0 5) x.toInt (k9_20 + 1) := by rw [shdR_s]; first | (rw [if_pos (by omega), ← h9_20_0]; rw [ez_9, ez_4]) | (rw [if_neg (by omega), ← h9_20_0]; first | done | rw [ez_9, or_z])
          exact ih_20 (k9_20 + 1) _ _ _ _ (by omega) (by omega) (by first | assumption | omega | decide | (simp only [ti_0, ti_1, ti_2, ti_3, ti_4, ti_5, ti_6, ti_7, ti_8, ti_9, ti_10, ti_11, ti_12, ti_m1]; omega)) (by first | assumption | omega | decide | (simp only [ti_0, ti_1, ti_2, ti_3, ti_4, ti_5, ti_6, ti_7, ti_8, ti_9, ti_10, ti_11, ti_12, ti_m1]; omega)) ⟨hP.sub [0, 1] rfl, hD.sub [0, 1] (by decide) rfl⟩ hS (lv_sub hl [0, 1, 2, 3] rfl)
        · have ic_8 : 0 < r_7.toInt := inle c_8 (rfl) (by decide)
          refine lv_aload_n hx hb dX9_shaded_40 rfl (lv_at hl 2 rfl) ?_
          refine lv_iload_n hx hb dX9_shaded_41 rfl (lv_at hl 3 rfl) ?_
          refine lv_iload_n hx hb dX9_shaded_42 rfl (lv_at hl 0 rfl) ?_
          refine lv_aload_n hx hb dX9_shaded_43 rfl (lv_at hl 2 rfl) ?_
          refine va_get (D := D) (ci := 9) (v := .ref (g 0)) (C := RX9) (T := TX9) (N := 37) hx hb htg gRX9 hown hK hP 0 rfl rfl 1 (by decide) (htg _ wi_1151) (fun _ h9 => h9) rfl dX9_shaded_44 ?_
          refine lv_iconst (v := 3) hx hb dX9_shaded_47 (by decide) ?_
          refine va_iald hx hb hK hP 1 0 rfl rfl (by unfold vp_in; decide) dX9_shaded_48 ?_
          refine lv_topi (fun z_10 ez_10 => ?_)
          have nz_10 : z_10 = a0 3 := ez_10
          refine xk_i (wr := []) (xr_V (n := 3) (As := [.int x, .int (nI k9_20), .int z_10]) (rest := [.int x9_20_2]) ⟨hx, hb, hml, hown, htg⟩ hK hN hP hD hS hA [0, 1] rfl (by decide) (m_isShadedX l D cT _ (h0) (g) (0) (b5) (b6) (b7) (b8) (b9) (b10) (b11) (b12) (b13) (b14) (b17) (b18) (b19) (b23) (b24) (b25) (b26) (b27) (b29) (b31) (b32) (b33) (by first | assumption | omega | decide | exact Or.inl (by decide) | (intro h9; exact absurd h9 (by decide)) | (intro _; omega) | (intro _; assumption) | (intro _; decide)) (a0) (by first | assumption | omega | decide | exact Or.inl (by decide) | (intro h9; exact absurd h9 (by decide)) | (intro _; omega) | (intro _; assumption) | (intro _; decide)) (x) ((nI k9_20)) (z_10) (by first | assumption | omega | decide | exact Or.inl (by decide) | (intro h9; exact absurd h9 (by decide)) | (intro _; omega) | (intro _; assumption) | (intro _; decide)) (by first | assumption | omega | decide | exact Or.inl (by decide) | (intro h9; exact absurd h9 (by decide)) | (intro _; omega) | (intro _; assumption) | (intro _; decide))) wi_1351 wi_1353 wi_93 wi_131 wi_1354 rfl rfl rfl ⟨rfl, by decide +kernel⟩ ⟨Nat.le_of_ble_eq_true rfl, Nat.le_of_ble_eq_true rfl⟩ rfl hl.1 rfl (Nat.le_of_ble_eq_true rfl) dX9_shaded_49 ⟨Nat.le_of_ble_eq_true rfl, Nat.le_of_ble_eq_true rfl⟩) hP hD hS hA [0, 1] [] rfl rfl (by decide) (by decide) (fun r_12 u_11 H locs hwr_12 hP hD hS => ?_)
          obtain ⟨hP, hD⟩ : PD D A [(sw_9 h0 g 0 b5 b6 b7 b8 b9 b10 b11 b12 b13 b14 b17 b18 b19 b23 b24 b25 b26 b27 b29 b31 b32 b33), (sw_in cT (g 0) 288 a0)] _ := ⟨hP, hD⟩
          have qr_12_0 : r_12.toInt = shF (fun j => a0 (48 + j)) z_10 x.toInt (nI k9_20).toInt := hwr_12.1
          have qr_12_1 : r_12 = 0 ∨ r_12 = 1 := hwr_12.2.1
          have hs3 := qr_12_0
          rw [nz_10, hk9_20] at hs3
          refine lv_if_eq (tgt := 61) hx hb dX9_shaded_52 (by decide) (fun c_13 => ?_) (fun c_13 => ?_)
          · have ic_13 : r_12.toInt = 0 := ieq c_13 (rfl) (by decide)
            refine lv_iconst (v := 0) hx hb dX9_shaded_61 (by decide) ?_
            refine lv_ior hx hb dX9_shaded_62 ?_
            refine lv_topi (fun z_14 ez_14 => ?_)
            refine lv_istore_n (lv' := [(2, .int z_14), (3, .int (nI k9_20)), (0, .ref h0), (1, .int x)]) hx hb dX9_shaded_63 rfl hl (by decide) rfl (fun ls hl => ?_)
            refine lv_iinc (v := (nI (k9_20 + 1))) (lv' := [(3, .int (nI (k9_20 + 1))), (2, .int z_14), (0, .ref h0), (1, .int x)]) hx hb dX9_shaded_64 hl (k := 1) rfl (by exact nI_1 (k9_20)) (by decide) rfl (fun ls hl => ?_)
            refine lv_goto (tgt := 20) hx hb dX9_shaded_67 (by decide) ?_
            have hb1 : z_14 = shdR (fun j => a0 (48 + j)) (a0 3) (a0 4) (a0 5) x.toInt (k9_20 + 1) := by rw [shdR_s]; first | (rw [if_pos (by omega), ← h9_20_0]; rw [ez_14, ez_10]) | (rw [if_neg (by omega), ← h9_20_0]; first | done | rw [ez_14, or_z])
            exact ih_20 (k9_20 + 1) _ _ _ _ (by omega) (by omega) (by first | assumption | omega | decide | (simp only [ti_0, ti_1, ti_2, ti_3, ti_4, ti_5, ti_6, ti_7, ti_8, ti_9, ti_10, ti_11, ti_12, ti_m1]; omega)) (by first | assumption | omega | decide | (simp only [ti_0, ti_1, ti_2, ti_3, ti_4, ti_5, ti_6, ti_7, ti_8, ti_9, ti_10, ti_11, ti_12, ti_m1]; omega)) ⟨hP.sub [0, 1] rfl, hD.sub [0, 1] (by decide) rfl⟩ hS (lv_sub hl [0, 1, 2, 3] rfl)
          · have ic_13 : ¬ r_12.toInt = 0 := ine c_13 (rfl) (by decide)
            refine lv_iconst (v := 1) hx hb dX9_shaded_55 (by decide) ?_
            refine lv_iload_n hx hb dX9_shaded_56 rfl (lv_at hl 0 rfl) ?_
            refine lv_ishl hx hb dX9_shaded_57 ?_
            refine lv_topi (fun z_15 ez_15 => ?_)
            refine lv_goto (tgt := 62) hx hb dX9_shaded_58 (by decide) ?_
            refine lv_ior hx hb dX9_shaded_62 ?_
            refine lv_topi (fun z_16 ez_16 => ?_)
            refine lv_istore_n (lv' := [(2, .int z_16), (3, .int (nI k9_20)), (0, .ref h0), (1, .int x)]) hx hb dX9_shaded_63 rfl hl (by decide) rfl (fun ls hl => ?_)
            refine lv_iinc (v := (nI (k9_20 + 1))) (lv' := [(3, .int (nI (k9_20 + 1))), (2, .int z_16), (0, .ref h0), (1, .int x)]) hx hb dX9_shaded_64 hl (k := 1) rfl (by exact nI_1 (k9_20)) (by decide) rfl (fun ls hl => ?_)
            refine lv_goto (tgt := 20) hx hb dX9_shaded_67 (by decide) ?_
            have hb1 : z_16 = shdR (fun j => a0 (48 + j)) (a0 3) (a0 4) (a0 5) x.toInt (k9_20 + 1) := by rw [shdR_s]; first | (rw [if_pos (by omega), ← h9_20_0]; rw [ez_16, ez_15]) | (rw [if_neg (by omega), ← h9_20_0]; first | done | rw [ez_16, or_z])
            exact ih_20 (k9_20 + 1) _ _ _ _ (by omega) (by omega) (by first | assumption | omega | decide | (simp only [ti_0, ti_1, ti_2, ti_3, ti_4, ti_5, ti_6, ti_7, ti_8, ti_9, ti_10, ti_11, ti_12, ti_m1]; omega)) (by first | assumption | omega | decide | (simp only [ti_0, ti_1, ti_2, ti_3, ti_4, ti_5, ti_6, ti_7, ti_8, ti_9, ti_10, ti_11, ti_12, ti_m1]; omega)) ⟨hP.sub [0, 1] rfl, hD.sub [0, 1] (by decide) rfl⟩ hS (lv_sub hl [0, 1, 2, 3] rfl)
  · have ic_3 : r_2.toInt = 0 := ieq c_3 (rfl) (by decide)
    have kqr_2_2 : x.toInt < 0 ∨ (a0 0).toInt ≤ x.toInt := qr_2_2 ic_3
    refine lv_bipush (v := (-2)) hx hb dX9_shaded_13 (by decide) ?_
    exact x_iret hx hb hr hlk hP hD hS [0, 1] ((0)) rfl (by decide) ⟨(fun h9 => by exfalso; omega), (fun _ => by (try dsimp only); decide), trivial⟩ (by decide) (by decide) dX9_shaded_15
