set_option maxHeartbeats 4000000 in
set_option maxRecDepth 100000 in
theorem m_darkX (l : Launch) (D : va_G) (cT : Nat → ClassId) (sz : Nat) (h0 : Nat) (g : Nat → Nat) (b0 : Int32) (b5 : Int32) (b6 : Int32) (b7 : Int32) (b8 : Int32) (b9 : Int32) (b10 : Int32) (b11 : Int32) (b12 : Int32) (b13 : Int32) (b14 : Int32) (b17 : Int32) (b18 : Int32) (b19 : Int32) (b23 : Int32) (b24 : Int32) (b25 : Int32) (b26 : Int32) (b27 : Int32) (b29 : Int32) (b31 : Int32) (b32 : Int32) (b33 : Int32) (hb5 : 0 ≤ b5.toInt ∧ b5.toInt ≤ 900) (a0 : Nat → Int32) (pa0 : PI 288 a0) : Met l yX9_dark (wsc yX9_dark cX9_dark 3 (some .int)) { frames := 6, cells := 0, slots := 0, locals := 194 } (va_Pc [.ref h0] (PX D cT sz [(sw_9 h0 g b0 b5 b6 b7 b8 b9 b10 b11 b12 b13 b14 b17 b18 b19 b23 b24 b25 b26 b27 b29 b31 b32 b33), (sw_in cT (g 0) 288 a0)])) (va_Qi (fun (r : Int32) (u : Int32) => (r = anR (fun j => a0 (48 + j)) (a0 3) (a0 4) (a0 5) (a0 0).toInt.toNat ((1 <<< (a0 0 &&& 31)) - 1) (a0 0).toInt.toNat) ∧ (True)) (fun u t => RW D (va_A [(sw_9 h0 g b0 b5 b6 b7 b8 b9 b10 b11 b12 b13 b14 b17 b18 b19 b23 b24 b25 b26 b27 b29 b31 b32 b33), (sw_in cT (g 0) 288 a0)] sz) ((fun u : Int32 => [(sw_9 h0 g u b5 b6 b7 b8 b9 b10 b11 b12 b13 b14 b17 b18 b19 b23 b24 b25 b26 b27 b29 b31 b32 b33), (sw_in cT (g 0) 288 a0)]) u) t) (va_A [(sw_9 h0 g b0 b5 b6 b7 b8 b9 b10 b11 b12 b13 b14 b17 b18 b19 b23 b24 b25 b26 b27 b29 b31 b32 b33), (sw_in cT (g 0) 288 a0)] sz)) 0 0 (va_A [(sw_9 h0 g b0 b5 b6 b7 b8 b9 b10 b11 b12 b13 b14 b17 b18 b19 b23 b24 b25 b26 b27 b29 b31 b32 b33), (sw_in cT (g 0) 288 a0)] sz) := by
  refine m_of (y := yX9_dark) (cc := cX9_dark) (nL := 3) (ret := (some .int)) (D := D) (cT := cT) (av := [.ref h0]) (wi := [(sw_9 h0 g b0 b5 b6 b7 b8 b9 b10 b11 b12 b13 b14 b17 b18 b19 b23 b24 b25 b26 b27 b29 b31 b32 b33), (sw_in cT (g 0) 288 a0)]) (fun A => va_Qi (fun (r : Int32) (u : Int32) => (r = anR (fun j => a0 (48 + j)) (a0 3) (a0 4) (a0 5) (a0 0).toInt.toNat ((1 <<< (a0 0 &&& 31)) - 1) (a0 0).toInt.toNat) ∧ (True)) (fun u t => RW D A ((fun u : Int32 => [(sw_9 h0 g u b5 b6 b7 b8 b9 b10 b11 b12 b13 b14 b17 b18 b19 b23 b24 b25 b26 b27 b29 b31 b32 b33), (sw_in cT (g 0) 288 a0)]) u) t) A) (by decide) (Nat.le_of_ble_eq_true rfl) ?_
  intro p e s m below meth c A hx hb hml hown htg hK hN hr hlk hnm hsz hP hD hS hA ls hl
  have hown : s.vm.findClass RX9 = some m.cls := hown
  have hl : lv_has ls 3 [(0, .ref h0)] := hl
  have tc_m1 : ((-1) : Int32).toInt = (-1) := by decide
  have tc_0 : (0 : Int32).toInt = 0 := by decide
  have tc_1 : (1 : Int32).toInt = 1 := by decide
  have tc_3 : (3 : Int32).toInt = 3 := by decide
  refine lv_aload_n hx hb dX9_dark_0 rfl (lv_at hl 0 rfl) ?_
  refine lv_iconst (v := 0) hx hb dX9_dark_1 (by decide) ?_
  refine va_put (D := D) (ci := 9) (v := .int 0) (ty := .int) (C := RX9) (T := TX9) (N := 37) hx hb htg gRX9 tyX9 tyX9_ok nmX9 hown hK hP hD hS 0 rfl rfl 0 (by decide) (htg _ wi_1150) (fun _ h9 => h9) rfl (by decide +kernel) rfl rfl (Nat.le_of_ble_eq_true rfl) dX9_dark_2 (fun H locs hP hD hS => ?_)
  obtain ⟨hP, hD⟩ : PD D A [(sw_9 h0 g 0 b5 b6 b7 b8 b9 b10 b11 b12 b13 b14 b17 b18 b19 b23 b24 b25 b26 b27 b29 b31 b32 b33), (sw_in cT (g 0) 288 a0)] _ := ⟨hP, hD⟩
  refine lv_iconst (v := 1) hx hb dX9_dark_5 (by decide) ?_
  refine lv_aload_n hx hb dX9_dark_6 rfl (lv_at hl 0 rfl) ?_
  refine va_get (D := D) (ci := 9) (v := .ref (g 0)) (C := RX9) (T := TX9) (N := 37) hx hb htg gRX9 hown hK hP 0 rfl rfl 1 (by decide) (htg _ wi_1151) (fun _ h9 => h9) rfl dX9_dark_7 ?_
  refine lv_iconst (v := 0) hx hb dX9_dark_10 (by decide) ?_
  refine va_iald hx hb hK hP 1 0 rfl rfl (by unfold vp_in; decide) dX9_dark_11 ?_
  refine lv_topi (fun z_1 ez_1 => ?_)
  have iz_1 : 0 ≤ z_1.toInt ∧ z_1.toInt ≤ 16 := by rw [ez_1]; exact rd0 pa0 (by decide) rfl
  have nz_1 : z_1.toInt = ((a0) 0).toInt := by rw [ez_1]; rfl
  have nz_1 : z_1 = a0 0 := ez_1
  refine lv_ishl hx hb dX9_dark_12 ?_
  refine lv_topi (fun z_2 ez_2 => ?_)
  refine lv_iconst (v := 1) hx hb dX9_dark_13 (by decide) ?_
  refine lv_isub hx hb dX9_dark_14 ?_
  refine lv_topi (fun z_3 ez_3 => ?_)
  refine lv_istore_n (lv' := [(1, .int z_3), (0, .ref h0)]) hx hb dX9_dark_15 rfl hl (by decide) rfl (fun ls hl => ?_)
  refine lv_iconst (v := 0) hx hb dX9_dark_16 (by decide) ?_
  refine lv_istore_n (lv' := [(2, .int 0), (1, .int z_3), (0, .ref h0)]) hx hb dX9_dark_17 rfl hl (by decide) rfl (fun ls hl => ?_)
  have hb0 : z_3 = anR (fun j => a0 (48 + j)) (a0 3) (a0 4) (a0 5) (a0 0).toInt.toNat ((1 <<< (a0 0 &&& 31)) - 1) 0 := by show z_3 = (1 <<< (a0 0 &&& 31)) - 1; rw [ez_3, ez_2, nz_1]
  have hn0 : ((0 : Nat) : Int) ≤ (a0 0).toInt := by have h7 := pa0 0 (by decide); unfold OKP at h7; omega
  refine (fun (key : ∀ (n9_18 : Nat) (k9_18 : Nat) (x9_18_1 : Int32) (H : Heap) (locs : List Loc) (ls : Array Slot), (k9_18 : Int) ≤ 16 → 16 < (k9_18 : Int) + n9_18 → (x9_18_1 = anR (fun j => a0 (48 + j)) (a0 3) (a0 4) (a0 5) (a0 0).toInt.toNat ((1 <<< (a0 0 &&& 31)) - 1) k9_18) → ((k9_18 : Int) ≤ (a0 0).toInt) → PD D A [(sw_9 h0 g 0 b5 b6 b7 b8 b9 b10 b11 b12 b13 b14 b17 b18 b19 b23 b24 b25 b26 b27 b29 b31 b32 b33), (sw_in cT (g 0) 288 a0)] H → va_S A s.heap H locs → lv_has ls 3 [(2, .int (nI k9_18)), (1, .int x9_18_1), (0, .ref h0)] → W p l e _ s m _ below meth c H locs _ _ _ (F0 m 18 ls [])) => key (Int.toNat (16 - 0) + 1) 0 _ _ _ _ (by omega) (by omega) (by first | assumption | omega | decide | (simp only [ti_0, ti_1, ti_2, ti_3, ti_4, ti_5, ti_6, ti_7, ti_8, ti_9, ti_10, ti_11, ti_12, ti_m1]; omega)) (by first | assumption | omega | decide | (simp only [ti_0, ti_1, ti_2, ti_3, ti_4, ti_5, ti_6, ti_7, ti_8, ti_9, ti_10, ti_11, ti_12, ti_m1]; omega)) ⟨hP, hD⟩ hS (lv_sub hl [0, 1, 2] rfl)) ?_
  intro n9_18
  induction n9_18 with
  | zero => intro k9_18 x9_18_1 H locs ls hq1 hq2; exact absurd hq2 (by omega)
  | succ n9_18 ih_18 =>
    intro k9_18 x9_18_1 H locs ls hq1_18 hq2_18 h9_18_0 h9_18_1 hPD hS hl
    obtain ⟨hP, hD⟩ := hPD
    have hk9_18 : (nI k9_18).toInt = (k9_18 : Int) := nI_toInt (by omega)
    refine lv_iload_n hx hb dX9_dark_18 rfl (lv_at hl 0 rfl) ?_
    refine lv_aload_n hx hb dX9_dark_19 rfl (lv_at hl 2 rfl) ?_
    refine va_get (D := D) (ci := 9) (v := .ref (g 0)) (C := RX9) (T := TX9) (N := 37) hx hb htg gRX9 hown hK hP 0 rfl rfl 1 (by decide) (htg _ wi_1151) (fun _ h9 => h9) rfl dX9_dark_20 ?_
    refine lv_iconst (v := 0) hx hb dX9_dark_23 (by decide) ?_
    refine va_iald hx hb hK hP 1 0 rfl rfl (by unfold vp_in; decide) dX9_dark_24 ?_
    refine lv_topi (fun z_4 ez_4 => ?_)
    have iz_4 : 0 ≤ z_4.toInt ∧ z_4.toInt ≤ 16 := by rw [ez_4]; exact rd0 pa0 (by decide) rfl
    have nz_4 : z_4.toInt = ((a0) 0).toInt := by rw [ez_4]; rfl
    have nz_4 : z_4.toInt = (a0 0).toInt := by rw [ez_4]; rfl
    refine lv_icmp_ge (tgt := 50) hx hb dX9_dark_25 (by decide) (fun c_5 => ?_) (fun c_5 => ?_)
    · have ic_5 : z_4.toInt ≤ ((k9_18 : Nat) : Int) := ile c_5 (rfl) (nI_toInt (by omega))
      refine lv_iload_n hx hb dX9_dark_50 rfl (lv_at hl 1 rfl) ?_
      exact x_iret hx hb hr hlk hP hD hS [0, 1] ((0)) rfl (by decide) ⟨(by (try dsimp only); rw [h9_18_0]; exact congrArg (anR (fun j => a0 (48 + j)) (a0 3) (a0 4) (a0 5) (a0 0).toInt.toNat ((1 <<< (a0 0 &&& 31)) - 1)) (show k9_18 = (a0 0).toInt.toNat from by omega)), trivial⟩ (by decide) (by decide) dX9_dark_51
    · have ic_5 : ((k9_18 : Nat) : Int) < z_4.toInt := inle c_5 (rfl) (nI_toInt (by omega))
      refine lv_iload_n hx hb dX9_dark_28 rfl (lv_at hl 1 rfl) ?_
      refine lv_aload_n hx hb dX9_dark_29 rfl (lv_at hl 2 rfl) ?_
      refine lv_iload_n hx hb dX9_dark_30 rfl (lv_at hl 0 rfl) ?_
      refine lv_aload_n hx hb dX9_dark_31 rfl (lv_at hl 2 rfl) ?_
      refine va_get (D := D) (ci := 9) (v := .ref (g 0)) (C := RX9) (T := TX9) (N := 37) hx hb htg gRX9 hown hK hP 0 rfl rfl 1 (by decide) (htg _ wi_1151) (fun _ h9 => h9) rfl dX9_dark_32 ?_
      refine lv_iconst (v := 3) hx hb dX9_dark_35 (by decide) ?_
      refine va_iald hx hb hK hP 1 0 rfl rfl (by unfold vp_in; decide) dX9_dark_36 ?_
      refine lv_topi (fun z_6 ez_6 => ?_)
      have nz_6 : z_6 = a0 3 := ez_6
      refine xk_i (wr := []) (xr_V (n := 2) (As := [.int (nI k9_18), .int z_6]) (rest := [.int x9_18_1]) ⟨hx, hb, hml, hown, htg⟩ hK hN hP hD hS hA [0, 1] rfl (by decide) (m_litByX l D cT _ (h0) (g) (0) (b5) (b6) (b7) (b8) (b9) (b10) (b11) (b12) (b13) (b14) (b17) (b18) (b19) (b23) (b24) (b25) (b26) (b27) (b29) (b31) (b32) (b33) (by first | assumption | omega | decide | exact Or.inl (by decide) | (intro h9; exact absurd h9 (by decide)) | (intro _; omega) | (intro _; assumption) | (intro _; decide)) (a0) (by first | assumption | omega | decide | exact Or.inl (by decide) | (intro h9; exact absurd h9 (by decide)) | (intro _; omega) | (intro _; assumption) | (intro _; decide)) ((nI k9_18)) (z_6) (by first | assumption | omega | decide | exact Or.inl (by decide) | (intro h9; exact absurd h9 (by decide)) | (intro _; omega) | (intro _; assumption) | (intro _; decide))) wi_1383 wi_1385 wi_97 wi_131 wi_1386 rfl rfl rfl ⟨rfl, by decide +kernel⟩ ⟨Nat.le_of_ble_eq_true rfl, Nat.le_of_ble_eq_true rfl⟩ rfl hl.1 rfl (Nat.le_of_ble_eq_true rfl) dX9_dark_37 ⟨Nat.le_of_ble_eq_true rfl, Nat.le_of_ble_eq_true rfl⟩) hP hD hS hA [0, 1] [] rfl rfl (by decide) (by decide) (fun r_8 u_7 H locs hwr_8 hP hD hS => ?_)
      obtain ⟨hP, hD⟩ : PD D A [(sw_9 h0 g 0 b5 b6 b7 b8 b9 b10 b11 b12 b13 b14 b17 b18 b19 b23 b24 b25 b26 b27 b29 b31 b32 b33), (sw_in cT (g 0) 288 a0)] _ := ⟨hP, hD⟩
      have qr_8_0 : r_8 = litR (fun j => a0 (48 + j)) z_6 (a0 4) (a0 5) (nI k9_18).toInt (a0 0).toInt.toNat := hwr_8.1
      refine lv_iconst (v := (-1)) hx hb dX9_dark_40 (by decide) ?_
      refine lv_ixor hx hb dX9_dark_41 ?_
      refine lv_topi (fun z_9 ez_9 => ?_)
      refine lv_iand hx hb dX9_dark_42 ?_
      refine lv_topi (fun z_10 ez_10 => ?_)
      refine lv_istore_n (lv' := [(1, .int z_10), (2, .int (nI k9_18)), (0, .ref h0)]) hx hb dX9_dark_43 rfl hl (by decide) rfl (fun ls hl => ?_)
      refine lv_iinc (v := (nI (k9_18 + 1))) (lv' := [(2, .int (nI (k9_18 + 1))), (1, .int z_10), (0, .ref h0)]) hx hb dX9_dark_44 hl (k := 1) rfl (by exact nI_1 (k9_18)) (by decide) rfl (fun ls hl => ?_)
      refine lv_goto (tgt := 18) hx hb dX9_dark_47 (by decide) ?_
      have hb1 : z_10 = anR (fun j => a0 (48 + j)) (a0 3) (a0 4) (a0 5) (a0 0).toInt.toNat ((1 <<< (a0 0 &&& 31)) - 1) (k9_18 + 1) := by rw [anR_s, ez_10, h9_18_0, ez_9, qr_8_0, nz_6, hk9_18]
      exact ih_18 (k9_18 + 1) _ _ _ _ (by omega) (by omega) (by first | assumption | omega | decide | (simp only [ti_0, ti_1, ti_2, ti_3, ti_4, ti_5, ti_6, ti_7, ti_8, ti_9, ti_10, ti_11, ti_12, ti_m1]; omega)) (by first | assumption | omega | decide | (simp only [ti_0, ti_1, ti_2, ti_3, ti_4, ti_5, ti_6, ti_7, ti_8, ti_9, ti_10, ti_11, ti_12, ti_m1]; omega)) ⟨hP.sub [0, 1] rfl, hD.sub [0, 1] (by decide) rfl⟩ hS (lv_sub hl [0, 1, 2] rfl)
