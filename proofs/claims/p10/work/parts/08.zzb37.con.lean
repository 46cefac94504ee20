set_option maxHeartbeats 4000000 in
set_option maxRecDepth 100000 in
theorem m_gathers_0K (l : Launch) (D : va_G) (cT : Nat → ClassId) (sz : Nat) (h0 : Nat) (g : Nat → Nat) (b0 : Int32) (b5 : Int32) (b6 : Int32) (b7 : Int32) (b8 : Int32) (b9 : Int32) (b10 : Int32) (b11 : Int32) (b12 : Int32) (b13 : Int32) (b14 : Int32) (b17 : Int32) (b18 : Int32) (b19 : Int32) (b23 : Int32) (b24 : Int32) (b25 : Int32) (b26 : Int32) (b27 : Int32) (b29 : Int32) (b31 : Int32) (b32 : Int32) (b33 : Int32) (hb5 : 0 ≤ b5.toInt ∧ b5.toInt ≤ 900) (a0 : Nat → Int32) (pa0 : PI 288 a0) (a4 : Nat → Int32) (a5 : Nat → Int32) (pa5 : PI 960 a5) (a9 : Nat → Int32) (x : Int32) (y : Int32) (hxk : 0 ≤ x.toInt ∧ x.toInt + 0 = y.toInt) (hy6 : 0 ≤ y.toInt ∧ y.toInt ≤ 6) (hb29 : 0 ≤ b29.toInt ∧ b29.toInt ≤ 728) : Met l yX9_gathers (wsc yX9_gathers cX9_gathers 4 none) { frames := 3, cells := 0, slots := 0, locals := 122 } (va_Pc [.ref h0, .int x, .int y] (PX D cT sz [(sw_9 h0 g b0 b5 b6 b7 b8 b9 b10 b11 b12 b13 b14 b17 b18 b19 b23 b24 b25 b26 b27 b29 b31 b32 b33), (sw_in cT (g 0) 288 a0), (sw_in cT (g 4) 6 a4), (sw_in cT (g 5) 960 a5), (sw_in cT (g 9) 11664 a9)])) (va_Qv (fun (u : Int32 × (Nat → Int32) × (Nat → Int32) × (Nat → Int32) × (Nat → Int32)) => (0 ≤ u.1.toInt ∧ u.1.toInt ≤ 729) ∧ (PI 288 u.2.1) ∧ (KR u.2.1 a0) ∧ (PI 960 u.2.2.2.1) ∧ (b29.toInt ≤ u.1.toInt ∧ u.1.toInt ≤ b29.toInt + 1) ∧ (KB (96 * x.toInt) u.2.2.2.1 a5) ∧ (True)) (fun u t => RW D (va_A [(sw_9 h0 g b0 b5 b6 b7 b8 b9 b10 b11 b12 b13 b14 b17 b18 b19 b23 b24 b25 b26 b27 b29 b31 b32 b33), (sw_in cT (g 0) 288 a0), (sw_in cT (g 4) 6 a4), (sw_in cT (g 5) 960 a5), (sw_in cT (g 9) 11664 a9)] sz) ((fun u : Int32 × (Nat → Int32) × (Nat → Int32) × (Nat → Int32) × (Nat → Int32) => [(sw_9 h0 g b0 b5 b6 b7 b8 b9 b10 b11 b12 b13 b14 b17 b18 b19 b23 b24 b25 b26 b27 u.1 b31 b32 b33), (sw_in cT (g 0) 288 u.2.1), (sw_in cT (g 4) 6 u.2.2.1), (sw_in cT (g 5) 960 u.2.2.2.1), (sw_in cT (g 9) 11664 u.2.2.2.2)]) u) t) (va_A [(sw_9 h0 g b0 b5 b6 b7 b8 b9 b10 b11 b12 b13 b14 b17 b18 b19 b23 b24 b25 b26 b27 b29 b31 b32 b33), (sw_in cT (g 0) 288 a0), (sw_in cT (g 4) 6 a4), (sw_in cT (g 5) 960 a5), (sw_in cT (g 9) 11664 a9)] sz)) 0 0 (va_A [(sw_9 h0 g b0 b5 b6 b7 b8 b9 b10 b11 b12 b13 b14 b17 b18 b19 b23 b24 b25 b26 b27 b29 b31 b32 b33), (sw_in cT (g 0) 288 a0), (sw_in cT (g 4) 6 a4), (sw_in cT (g 5) 960 a5), (sw_in cT (g 9) 11664 a9)] sz) := by
  refine m_of (y := yX9_gathers) (cc := cX9_gathers) (nL := 4) (ret := none) (D := D) (cT := cT) (av := [.ref h0, .int x, .int y]) (wi := [(sw_9 h0 g b0 b5 b6 b7 b8 b9 b10 b11 b12 b13 b14 b17 b18 b19 b23 b24 b25 b26 b27 b29 b31 b32 b33), (sw_in cT (g 0) 288 a0), (sw_in cT (g 4) 6 a4), (sw_in cT (g 5) 960 a5), (sw_in cT (g 9) 11664 a9)]) (fun A => va_Qv (fun (u : Int32 × (Nat → Int32) × (Nat → Int32) × (Nat → Int32) × (Nat → Int32)) => (0 ≤ u.1.toInt ∧ u.1.toInt ≤ 729) ∧ (PI 288 u.2.1) ∧ (KR u.2.1 a0) ∧ (PI 960 u.2.2.2.1) ∧ (b29.toInt ≤ u.1.toInt ∧ u.1.toInt ≤ b29.toInt + 1) ∧ (KB (96 * x.toInt) u.2.2.2.1 a5) ∧ (True)) (fun u t => RW D A ((fun u : Int32 × (Nat → Int32) × (Nat → Int32) × (Nat → Int32) × (Nat → Int32) => [(sw_9 h0 g b0 b5 b6 b7 b8 b9 b10 b11 b12 b13 b14 b17 b18 b19 b23 b24 b25 b26 b27 u.1 b31 b32 b33), (sw_in cT (g 0) 288 u.2.1), (sw_in cT (g 4) 6 u.2.2.1), (sw_in cT (g 5) 960 u.2.2.2.1), (sw_in cT (g 9) 11664 u.2.2.2.2)]) u) t) A) (by decide) (Nat.le_of_ble_eq_true rfl) ?_
  intro p e s m below meth c A hx hb hml hown htg hK hN hr hlk hnm hsz hP hD hS hA ls hl
  have hown : s.vm.findClass RX9 = some m.cls := hown
  have hl : lv_has ls 4 [(0, .ref h0), (1, .int x), (2, .int y)] := hl
  have tc_0 : (0 : Int32).toInt = 0 := by decide
  have tc_1 : (1 : Int32).toInt = 1 := by decide
  have tc_3 : (3 : Int32).toInt = 3 := by decide
  have tc_16 : (16 : Int32).toInt = 16 := by decide
  refine lv_iload_n hx hb dX9_gathers_0 rfl (lv_at hl 1 rfl) ?_
  refine lv_iload_n hx hb dX9_gathers_1 rfl (lv_at hl 2 rfl) ?_
  refine lv_icmp_ne (tgt := 65) hx hb dX9_gathers_2 (by decide) (fun h => absurd (i32_is (by omega)) h) (fun _ => ?_)
  refine lv_aload_n hx hb dX9_gathers_5 rfl (lv_at hl 0 rfl) ?_
  refine xk_i (wr := [(sw_in cT (g 4) 6 a4), (sw_in cT (g 5) 960 a5)]) (xr_V (n := 0) (As := []) (rest := []) ⟨hx, hb, hml, hown, htg⟩ hK hN hP hD hS hA [0, 1, 4] rfl (by decide) (m_isMet l D cT _ (h0) (g) (b0) (b5) (b6) (b7) (b8) (b9) (b10) (b11) (b12) (b13) (b14) (b17) (b18) (b19) (b23) (b24) (b25) (b26) (b27) (b29) (b31) (b32) (b33) (by first | assumption | omega | decide | exact Or.inl (by decide) | (intro h9; exact absurd h9 (by decide)) | (intro _; omega) | (intro _; assumption) | (intro _; decide)) (a0) (by first | assumption | omega | decide | exact Or.inl (by decide) | (intro h9; exact absurd h9 (by decide)) | (intro _; omega) | (intro _; assumption) | (intro _; decide)) (a9) (by first | assumption | omega | decide | exact Or.inl (by decide) | (intro h9; exact absurd h9 (by decide)) | (intro _; omega) | (intro _; assumption) | (intro _; decide))) wi_1540 wi_1542 wi_112 wi_131 wi_1543 rfl rfl rfl ⟨rfl, by decide +kernel⟩ ⟨Nat.le_of_ble_eq_true rfl, Nat.le_of_ble_eq_true rfl⟩ rfl hl.1 rfl (Nat.le_of_ble_eq_true rfl) dX9_gathers_6 ⟨Nat.le_of_ble_eq_true rfl, Nat.le_of_ble_eq_true rfl⟩) hP hD hS hA [0, 1, 4] [2, 3] rfl rfl (by decide) (by decide) (fun r_2 u_1 H locs hwr_2 hP hD hS => ?_)
  obtain ⟨hP, hD⟩ : PD D A [(sw_in cT (g 4) 6 a4), (sw_in cT (g 5) 960 a5), (sw_9 h0 g b0 b5 b6 b7 b8 b9 b10 b11 b12 b13 b14 b17 b18 b19 b23 b24 b25 b26 b27 b29 b31 b32 b33), (sw_in cT (g 0) 288 a0), (sw_in cT (g 9) 11664 a9)] _ := ⟨hP, hD⟩
  refine lv_if_eq (tgt := 13) hx hb dX9_gathers_9 (by decide) (fun c_3 => ?_) (fun c_3 => ?_)
  · have ic_3 : r_2.toInt = 0 := ieq c_3 (rfl) (by decide)
    refine lv_iconst (v := 0) hx hb dX9_gathers_13 (by decide) ?_
    refine lv_istore_n (lv' := [(3, .int 0), (0, .ref h0), (1, .int x), (2, .int y)]) hx hb dX9_gathers_14 rfl hl (by decide) rfl (fun ls hl => ?_)
    refine (fun (key : ∀ (n9_15 : Nat) (k9_15 : Nat) (f9_15_0 : Nat → Int32) (H : Heap) (locs : List Loc) (ls : Array Slot), (k9_15 : Int) ≤ 16 → 16 < (k9_15 : Int) + n9_15 → PD D A [(sw_in cT (g 4) 6 a4), (sw_in cT (g 5) 960 a5), (sw_9 h0 g b0 b5 b6 b7 b8 b9 b10 b11 b12 b13 b14 b17 b18 b19 b23 b24 b25 b26 b27 b29 b31 b32 b33), (sw_in cT (g 0) 288 a0), (sw_in cT (g 9) 11664 f9_15_0)] H → va_S A s.heap H locs → lv_has ls 4 [(3, .int (nI k9_15)), (0, .ref h0), (1, .int x), (2, .int y)] → W p l e _ s m _ below meth c H locs _ _ _ (F0 m 15 ls [])) => key (Int.toNat (16 - 0) + 1) 0 _ _ _ _ (by omega) (by omega)  ⟨hP, hD⟩ hS (lv_sub hl [0, 1, 2, 3] rfl)) ?_
    intro n9_15
    induction n9_15 with
    | zero => intro k9_15 f9_15_0 H locs ls hq1 hq2; exact absurd hq2 (by omega)
    | succ n9_15 ih_15 =>
      intro k9_15 f9_15_0 H locs ls hq1_15 hq2_15  hPD hS hl
      obtain ⟨hP, hD⟩ := hPD
      have hk9_15 : (nI k9_15).toInt = (k9_15 : Int) := nI_toInt (by omega)
      refine lv_iload_n hx hb dX9_gathers_15 rfl (lv_at hl 0 rfl) ?_
      refine lv_aload_n hx hb dX9_gathers_16 rfl (lv_at hl 1 rfl) ?_
      refine va_get (D := D) (ci := 9) (v := .ref (g 0)) (C := RX9) (T := TX9) (N := 37) hx hb htg gRX9 hown hK hP 2 rfl rfl 1 (by decide) (htg _ wi_1151) (fun _ h9 => h9) rfl dX9_gathers_17 ?_
      refine lv_iconst (v := 0) hx hb dX9_gathers_20 (by decide) ?_
      refine va_iald hx hb hK hP 3 0 rfl rfl (by unfold vp_in; decide) dX9_gathers_21 ?_
      refine lv_topi (fun z_4 ez_4 => ?_)
      have iz_4 : 0 ≤ z_4.toInt ∧ z_4.toInt ≤ 16 := by rw [ez_4]; exact rd0 pa0 (by decide) rfl
      have nz_4 : z_4.toInt = ((a0) 0).toInt := by rw [ez_4]; rfl
      refine lv_icmp_ge (tgt := 54) hx hb dX9_gathers_22 (by decide) (fun c_5 => ?_) (fun c_5 => ?_)
      · have ic_5 : z_4.toInt ≤ ((k9_15 : Nat) : Int) := ile c_5 (rfl) (nI_toInt (by omega))
        refine lv_aload_n hx hb dX9_gathers_54 rfl (lv_at hl 1 rfl) ?_
        refine lv_dup hx hb dX9_gathers_55 rfl ?_
        refine va_get (D := D) (ci := 9) (v := .int b29) (C := RX9) (T := TX9) (N := 37) hx hb htg gRX9 hown hK hP 2 rfl rfl 29 (by decide) (htg _ wi_1179) (fun _ h9 => h9) rfl dX9_gathers_56 ?_
        refine lv_iconst (v := 1) hx hb dX9_gathers_59 (by decide) ?_
        refine lv_iadd hx hb dX9_gathers_60 ?_
        refine lv_topi (fun z_6 ez_6 => ?_)
        have iz_6 : z_6.toInt = b29.toInt + 1 := toInt_addI ez_6 (rfl) (by decide) (by omega)
        refine va_put (D := D) (ci := 9) (v := .int z_6) (ty := .int) (C := RX9) (T := TX9) (N := 37) hx hb htg gRX9 tyX9 tyX9_ok nmX9 hown hK hP hD hS 2 rfl rfl 29 (by decide) (htg _ wi_1179) (fun _ h9 => h9) rfl (by decide +kernel) rfl rfl (Nat.le_of_ble_eq_true rfl) dX9_gathers_61 (fun H locs hP hD hS => ?_)
        obtain ⟨hP, hD⟩ : PD D A [(sw_in cT (g 4) 6 a4), (sw_in cT (g 5) 960 a5), (sw_9 h0 g b0 b5 b6 b7 b8 b9 b10 b11 b12 b13 b14 b17 b18 b19 b23 b24 b25 b26 b27 z_6 b31 b32 b33), (sw_in cT (g 0) 288 a0), (sw_in cT (g 9) 11664 f9_15_0)] _ := ⟨hP, hD⟩
        exact x_vret hx hb hr hlk hP hD hS [2, 3, 0, 1, 4] ((z_6, a0, a4, a5, f9_15_0)) rfl (by decide) ⟨by (try dsimp only); first | assumption | omega | decide | exact Or.inl (by decide) | (intro h9; exact absurd h9 (by decide)) | (intro _; omega) | (intro _; assumption) | (intro _; decide), by (try dsimp only); first | assumption | omega | decide | exact Or.inl (by decide) | (intro h9; exact absurd h9 (by decide)) | (intro _; omega) | (intro _; assumption) | (intro _; decide), by (try dsimp only); first | assumption | exact KR_rfl _, by (try dsimp only); first | assumption | omega | decide | exact Or.inl (by decide) | (intro h9; exact absurd h9 (by decide)) | (intro _; omega) | (intro _; assumption) | (intro _; decide), by (try dsimp only); first | assumption | omega | decide | exact Or.inl (by decide) | (intro h9; exact absurd h9 (by decide)) | (intro _; omega) | (intro _; assumption) | (intro _; decide), by (try dsimp only); first | assumption | exact KB_rfl _ _, trivial⟩ (by decide) (by decide) dX9_gathers_64
      · have ic_5 : ((k9_15 : Nat) : Int) < z_4.toInt := inle c_5 (rfl) (nI_toInt (by omega))
        refine lv_aload_n hx hb dX9_gathers_25 rfl (lv_at hl 1 rfl) ?_
        refine va_get (D := D) (ci := 9) (v := .ref (g 9)) (C := RX9) (T := TX9) (N := 37) hx hb htg gRX9 hown hK hP 2 rfl rfl 28 (by decide) (htg _ wi_1178) (fun _ h9 => h9) rfl dX9_gathers_26 ?_
        refine lv_bipush (v := 16) hx hb dX9_gathers_29 (by decide) ?_
        refine lv_aload_n hx hb dX9_gathers_31 rfl (lv_at hl 1 rfl) ?_
        refine va_get (D := D) (ci := 9) (v := .int b29) (C := RX9) (T := TX9) (N := 37) hx hb htg gRX9 hown hK hP 2 rfl rfl 29 (by decide) (htg _ wi_1179) (fun _ h9 => h9) rfl dX9_gathers_32 ?_
        refine lv_imul hx hb dX9_gathers_35 ?_
        refine lv_topi (fun z_7 ez_7 => ?_)
        have iz_7 : z_7.toInt = 16 * b29.toInt := toInt_mulI ez_7 (by decide) (rfl) (by omega)
        refine lv_iload_n hx hb dX9_gathers_36 rfl (lv_at hl 0 rfl) ?_
        refine lv_iadd hx hb dX9_gathers_37 ?_
        refine lv_topi (fun z_8 ez_8 => ?_)
        have iz_8 : z_8.toInt = z_7.toInt + ((k9_15 : Nat) : Int) := toInt_addI ez_8 (rfl) (nI_toInt (by omega)) (by omega)
        refine lv_aload_n hx hb dX9_gathers_38 rfl (lv_at hl 1 rfl) ?_
        refine va_get (D := D) (ci := 9) (v := .ref (g 0)) (C := RX9) (T := TX9) (N := 37) hx hb htg gRX9 hown hK hP 2 rfl rfl 1 (by decide) (htg _ wi_1151) (fun _ h9 => h9) rfl dX9_gathers_39 ?_
        refine lv_bipush (v := 16) hx hb dX9_gathers_42 (by decide) ?_
        refine lv_iload_n hx hb dX9_gathers_44 rfl (lv_at hl 0 rfl) ?_
        refine lv_iadd hx hb dX9_gathers_45 ?_
        refine lv_is (y := nI (16 + k9_15)) (nI_add 16 (k9_15)) ?_
        refine va_iald hx hb hK hP 3 0 rfl rfl (vp_in_nI (by omega) (by omega)) dX9_gathers_46 ?_
        refine lv_topi (fun z_9 ez_9 => ?_)
        refine va_iast hx hb hK hP hD hS 4 0 rfl rfl (vp_in_iff.mpr (by omega)) dX9_gathers_47 (fun H locs hP hD hS => ?_)
        obtain ⟨f_10, hP, hD⟩ : ∃ f_10 : Nat → Int32, PD D A [(sw_in cT (g 4) 6 a4), (sw_in cT (g 5) 960 a5), (sw_9 h0 g b0 b5 b6 b7 b8 b9 b10 b11 b12 b13 b14 b17 b18 b19 b23 b24 b25 b26 b27 b29 b31 b32 b33), (sw_in cT (g 0) 288 a0), (sw_in cT (g 9) 11664 f_10)] H := ⟨_, hP, hD⟩
        refine lv_iinc (v := (nI (k9_15 + 1))) (lv' := [(3, .int (nI (k9_15 + 1))), (0, .ref h0), (1, .int x), (2, .int y)]) hx hb dX9_gathers_48 hl (k := 0) rfl (by exact nI_1 (k9_15)) (by decide) rfl (fun ls hl => ?_)
        refine lv_goto (tgt := 15) hx hb dX9_gathers_51 (by decide) ?_
        exact ih_15 (k9_15 + 1) _ _ _ _ (by omega) (by omega)  ⟨hP.sub [0, 1, 2, 3, 4] rfl, hD.sub [0, 1, 2, 3, 4] (by decide) rfl⟩ hS (lv_sub hl [0, 1, 2, 3] rfl)
  · have ic_3 : ¬ r_2.toInt = 0 := ine c_3 (rfl) (by decide)
    exact x_vret hx hb hr hlk hP hD hS [2, 3, 0, 1, 4] ((b29, a0, a4, a5, a9)) rfl (by decide) ⟨by (try dsimp only); first | assumption | omega | decide | exact Or.inl (by decide) | (intro h9; exact absurd h9 (by decide)) | (intro _; omega) | (intro _; assumption) | (intro _; decide), by (try dsimp only); first | assumption | omega | decide | exact Or.inl (by decide) | (intro h9; exact absurd h9 (by decide)) | (intro _; omega) | (intro _; assumption) | (intro _; decide), by (try dsimp only); first | assumption | exact KR_rfl _, by (try dsimp only); first | assumption | omega | decide | exact Or.inl (by decide) | (intro h9; exact absurd h9 (by decide)) | (intro _; omega) | (intro _; assumption) | (intro _; decide), by (try dsimp only); first | assumption | omega | decide | exact Or.inl (by decide) | (intro h9; exact absurd h9 (by decide)) | (intro _; omega) | (intro _; assumption) | (intro _; decide), by (try dsimp only); first | assumption | exact KB_rfl _ _, trivial⟩ (by decide) (by decide) dX9_gathers_12
