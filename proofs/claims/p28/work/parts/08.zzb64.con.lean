set_option maxHeartbeats 4000000 in
set_option maxRecDepth 100000 in
theorem m_lightByX (l : Launch) (D : va_G) (cT : Nat → ClassId) (sz : Nat) (h0 : Nat) (g : Nat → Nat) (b0 : Int32) (b5 : Int32) (b6 : Int32) (b7 : Int32) (b8 : Int32) (b9 : Int32) (b10 : Int32) (b11 : Int32) (b12 : Int32) (b13 : Int32) (b14 : Int32) (b17 : Int32) (b18 : Int32) (b19 : Int32) (b23 : Int32) (b24 : Int32) (b25 : Int32) (b26 : Int32) (b27 : Int32) (b29 : Int32) (b31 : Int32) (b32 : Int32) (b33 : Int32) (hb5 : 0 ≤ b5.toInt ∧ b5.toInt ≤ 900) (a0 : Nat → Int32) (pa0 : PI 288 a0) (x : Int32) (y : Int32) (z : Int32) (hxx : 0 ≤ x.toInt ∧ x.toInt ≤ 15) (hyy : 0 ≤ y.toInt ∧ y.toInt ≤ 15) : Met l yX9_lightBy (wsc yX9_lightBy cX9_lightBy 4 (some .int)) { frames := 4, cells := 0, slots := 0, locals := 147 } (va_Pc [.ref h0, .int x, .int y, .int z] (PX D cT sz [(sw_9 h0 g b0 b5 b6 b7 b8 b9 b10 b11 b12 b13 b14 b17 b18 b19 b23 b24 b25 b26 b27 b29 b31 b32 b33), (sw_in cT (g 0) 288 a0)])) (va_Qi (fun (r : Int32) (u : Unit) => (r.toInt = lgF (fun j => a0 (48 + j)) z (a0 4) (a0 5) x.toInt y.toInt) ∧ (True)) (fun u t => RW D (va_A [(sw_9 h0 g b0 b5 b6 b7 b8 b9 b10 b11 b12 b13 b14 b17 b18 b19 b23 b24 b25 b26 b27 b29 b31 b32 b33), (sw_in cT (g 0) 288 a0)] sz) ((fun _ : Unit => [(sw_9 h0 g b0 b5 b6 b7 b8 b9 b10 b11 b12 b13 b14 b17 b18 b19 b23 b24 b25 b26 b27 b29 b31 b32 b33), (sw_in cT (g 0) 288 a0)]) u) t) (va_A [(sw_9 h0 g b0 b5 b6 b7 b8 b9 b10 b11 b12 b13 b14 b17 b18 b19 b23 b24 b25 b26 b27 b29 b31 b32 b33), (sw_in cT (g 0) 288 a0)] sz)) 0 0 (va_A [(sw_9 h0 g b0 b5 b6 b7 b8 b9 b10 b11 b12 b13 b14 b17 b18 b19 b23 b24 b25 b26 b27 b29 b31 b32 b33), (sw_in cT (g 0) 288 a0)] sz) := by
  refine m_of (y := yX9_lightBy) (cc := cX9_lightBy) (nL := 4) (ret := (some .int)) (D := D) (cT := cT) (av := [.ref h0, .int x, .int y, .int z]) (wi := [(sw_9 h0 g b0 b5 b6 b7 b8 b9 b10 b11 b12 b13 b14 b17 b18 b19 b23 b24 b25 b26 b27 b29 b31 b32 b33), (sw_in cT (g 0) 288 a0)]) (fun A => va_Qi (fun (r : Int32) (u : Unit) => (r.toInt = lgF (fun j => a0 (48 + j)) z (a0 4) (a0 5) x.toInt y.toInt) ∧ (True)) (fun u t => RW D A ((fun _ : Unit => [(sw_9 h0 g b0 b5 b6 b7 b8 b9 b10 b11 b12 b13 b14 b17 b18 b19 b23 b24 b25 b26 b27 b29 b31 b32 b33), (sw_in cT (g 0) 288 a0)]) u) t) A) (by decide) (Nat.le_of_ble_eq_true rfl) ?_
  intro p e s m below meth c A hx hb hml hown htg hK hN hr hlk hnm hsz hP hD hS hA ls hl
  have hown : s.vm.findClass RX9 = some m.cls := hown
  have hl : lv_has ls 4 [(0, .ref h0), (1, .int x), (2, .int y), (3, .int z)] := hl
  have tc_0 : (0 : Int32).toInt = 0 := by decide
  refine lv_aload_n hx hb dX9_lightBy_0 rfl (lv_at hl 0 rfl) ?_
  refine lv_iload_n hx hb dX9_lightBy_1 rfl (lv_at hl 1 rfl) ?_
  refine lv_iload_n hx hb dX9_lightBy_2 rfl (lv_at hl 2 rfl) ?_
  refine lv_iload_n hx hb dX9_lightBy_3 rfl (lv_at hl 3 rfl) ?_
  refine xk_i (wr := []) (xr_V (n := 3) (As := [.int x, .int y, .int z]) (rest := []) ⟨hx, hb, hml, hown, htg⟩ hK hN hP hD hS hA [0, 1] rfl (by decide) (m_isShadedX l D cT _ (h0) (g) (b0) (b5) (b6) (b7) (b8) (b9) (b10) (b11) (b12) (b13) (b14) (b17) (b18) (b19) (b23) (b24) (b25) (b26) (b27) (b29) (b31) (b32) (b33) (by first | assumption | omega | decide | exact Or.inl (by decide) | (intro h9; exact absurd h9 (by decide)) | (intro _; omega) | (intro _; assumption) | (intro _; decide)) (a0) (by first | assumption | omega | decide | exact Or.inl (by decide) | (intro h9; exact absurd h9 (by decide)) | (intro _; omega) | (intro _; assumption) | (intro _; decide)) (x) (y) (z) (by first | assumption | omega | decide | exact Or.inl (by decide) | (intro h9; exact absurd h9 (by decide)) | (intro _; omega) | (intro _; assumption) | (intro _; decide)) (by first | assumption | omega | decide | exact Or.inl (by decide) | (intro h9; exact absurd h9 (by decide)) | (intro _; omega) | (intro _; assumption) | (intro _; decide))) wi_1351 wi_1353 wi_93 wi_131 wi_1354 rfl rfl rfl ⟨rfl, by decide +kernel⟩ ⟨Nat.le_of_ble_eq_true rfl, Nat.le_of_ble_eq_true rfl⟩ rfl hl.1 rfl (Nat.le_of_ble_eq_true rfl) dX9_lightBy_4 ⟨Nat.le_of_ble_eq_true rfl, Nat.le_of_ble_eq_true rfl⟩) hP hD hS hA [0, 1] [] rfl rfl (by decide) (by decide) (fun r_2 u_1 H locs hwr_2 hP hD hS => ?_)
  obtain ⟨hP, hD⟩ : PD D A [(sw_9 h0 g b0 b5 b6 b7 b8 b9 b10 b11 b12 b13 b14 b17 b18 b19 b23 b24 b25 b26 b27 b29 b31 b32 b33), (sw_in cT (g 0) 288 a0)] _ := ⟨hP, hD⟩
  have qr_2_0 : r_2.toInt = shF (fun j => a0 (48 + j)) z x.toInt y.toInt := hwr_2.1
  have qr_2_1 : r_2 = 0 ∨ r_2 = 1 := hwr_2.2.1
  refine lv_if_eq (tgt := 14) hx hb dX9_lightBy_7 (by decide) (fun c_3 => ?_) (fun c_3 => ?_)
  · have ic_3 : r_2.toInt = 0 := ieq c_3 (rfl) (by decide)
    refine lv_aload_n hx hb dX9_lightBy_14 rfl (lv_at hl 0 rfl) ?_
    refine lv_iload_n hx hb dX9_lightBy_15 rfl (lv_at hl 1 rfl) ?_
    refine lv_iload_n hx hb dX9_lightBy_16 rfl (lv_at hl 2 rfl) ?_
    refine xk_i (wr := []) (xr_V (n := 2) (As := [.int x, .int y]) (rest := []) ⟨hx, hb, hml, hown, htg⟩ hK hN hP hD hS hA [0, 1] rfl (by decide) (m_nearnessX l D cT _ (h0) (g) (b0) (b5) (b6) (b7) (b8) (b9) (b10) (b11) (b12) (b13) (b14) (b17) (b18) (b19) (b23) (b24) (b25) (b26) (b27) (b29) (b31) (b32) (b33) (by first | assumption | omega | decide | exact Or.inl (by decide) | (intro h9; exact absurd h9 (by decide)) | (intro _; omega) | (intro _; assumption) | (intro _; decide)) (a0) (by first | assumption | omega | decide | exact Or.inl (by decide) | (intro h9; exact absurd h9 (by decide)) | (intro _; omega) | (intro _; assumption) | (intro _; decide)) (x) (y) (by first | assumption | omega | decide | exact Or.inl (by decide) | (intro h9; exact absurd h9 (by decide)) | (intro _; omega) | (intro _; assumption) | (intro _; decide)) (by first | assumption | omega | decide | exact Or.inl (by decide) | (intro h9; exact absurd h9 (by decide)) | (intro _; omega) | (intro _; assumption) | (intro _; decide))) wi_1358 wi_1360 wi_94 wi_131 wi_1361 rfl rfl rfl ⟨rfl, by decide +kernel⟩ ⟨Nat.le_of_ble_eq_true rfl, Nat.le_of_ble_eq_true rfl⟩ rfl hl.1 rfl (Nat.le_of_ble_eq_true rfl) dX9_lightBy_17 ⟨Nat.le_of_ble_eq_true rfl, Nat.le_of_ble_eq_true rfl⟩) hP hD hS hA [0, 1] [] rfl rfl (by decide) (by decide) (fun r_5 u_4 H locs hwr_5 hP hD hS => ?_)
    obtain ⟨hP, hD⟩ : PD D A [(sw_9 h0 g b0 b5 b6 b7 b8 b9 b10 b11 b12 b13 b14 b17 b18 b19 b23 b24 b25 b26 b27 b29 b31 b32 b33), (sw_in cT (g 0) 288 a0)] _ := ⟨hP, hD⟩
    have qr_5_0 : r_5.toInt = unl (a0 4) (a0 5) x.toInt y.toInt := hwr_5.1
    exact x_iret hx hb hr hlk hP hD hS [0, 1] (()) rfl (by decide) ⟨(by (try dsimp only); unfold lgF; split <;> omega), trivial⟩ (by decide) (by decide) dX9_lightBy_20
  · have ic_3 : ¬ r_2.toInt = 0 := ine c_3 (rfl) (by decide)
    refine lv_iconst (v := 0) hx hb dX9_lightBy_10 (by decide) ?_
    refine lv_goto (tgt := 20) hx hb dX9_lightBy_11 (by decide) ?_
    exact x_iret hx hb hr hlk hP hD hS [0, 1] (()) rfl (by decide) ⟨(by (try dsimp only); unfold lgF; split <;> omega), trivial⟩ (by decide) (by decide) dX9_lightBy_20
set_option maxHeartbeats 4000000 in
set_option maxRecDepth 100000 in
theorem m_litByX (l : Launch) (D : va_G) (cT : Nat → ClassId) (sz : Nat) (h0 : Nat) (g : Nat → Nat) (b0 : Int32) (b5 : Int32) (b6 : Int32) (b7 : Int32) (b8 : Int32) (b9 : Int32) (b10 : Int32) (b11 : Int32) (b12 : Int32) (b13 : Int32) (b14 : Int32) (b17 : Int32) (b18 : Int32) (b19 : Int32) (b23 : Int32) (b24 : Int32) (b25 : Int32) (b26 : Int32) (b27 : Int32) (b29 : Int32) (b31 : Int32) (b32 : Int32) (b33 : Int32) (hb5 : 0 ≤ b5.toInt ∧ b5.toInt ≤ 900) (a0 : Nat → Int32) (pa0 : PI 288 a0) (x : Int32) (y : Int32) (hxx : 0 ≤ x.toInt ∧ x.toInt ≤ 15) : Met l yX9_litBy (wsc yX9_litBy cX9_litBy 5 (some .int)) { frames := 5, cells := 0, slots := 0, locals := 170 } (va_Pc [.ref h0, .int x, .int y] (PX D cT sz [(sw_9 h0 g b0 b5 b6 b7 b8 b9 b10 b11 b12 b13 b14 b17 b18 b19 b23 b24 b25 b26 b27 b29 b31 b32 b33), (sw_in cT (g 0) 288 a0)])) (va_Qi (fun (r : Int32) (u : Unit) => (r = litR (fun j => a0 (48 + j)) y (a0 4) (a0 5) x.toInt (a0 0).toInt.toNat) ∧ (True)) (fun u t => RW D (va_A [(sw_9 h0 g b0 b5 b6 b7 b8 b9 b10 b11 b12 b13 b14 b17 b18 b19 b23 b24 b25 b26 b27 b29 b31 b32 b33), (sw_in cT (g 0) 288 a0)] sz) ((fun _ : Unit => [(sw_9 h0 g b0 b5 b6 b7 b8 b9 b10 b11 b12 b13 b14 b17 b18 b19 b23 b24 b25 b26 b27 b29 b31 b32 b33), (sw_in cT (g 0) 288 a0)]) u) t) (va_A [(sw_9 h0 g b0 b5 b6 b7 b8 b9 b10 b11 b12 b13 b14 b17 b18 b19 b23 b24 b25 b26 b27 b29 b31 b32 b33), (sw_in cT (g 0) 288 a0)] sz)) 0 0 (va_A [(sw_9 h0 g b0 b5 b6 b7 b8 b9 b10 b11 b12 b13 b14 b17 b18 b19 b23 b24 b25 b26 b27 b29 b31 b32 b33), (sw_in cT (g 0) 288 a0)] sz) := by
  refine m_of (y := yX9_litBy) (cc := cX9_litBy) (nL := 5) (ret := (some .int)) (D := D) (cT := cT) (av := [.ref h0, .int x, .int y]) (wi := [(sw_9 h0 g b0 b5 b6 b7 b8 b9 b10 b11 b12 b13 b14 b17 b18 b19 b23 b24 b25 b26 b27 b29 b31 b32 b33), (sw_in cT (g 0) 288 a0)]) (fun A => va_Qi (fun (r : Int32) (u : Unit) => (r = litR (fun j => a0 (48 + j)) y (a0 4) (a0 5) x.toInt (a0 0).toInt.toNat) ∧ (True)) (fun u t => RW D A ((fun _ : Unit => [(sw_9 h0 g b0 b5 b6 b7 b8 b9 b10 b11 b12 b13 b14 b17 b18 b19 b23 b24 b25 b26 b27 b29 b31 b32 b33), (sw_in cT (g 0) 288 a0)]) u) t) A) (by decide) (Nat.le_of_ble_eq_true rfl) ?_
  intro p e s m below meth c A hx hb hml hown htg hK hN hr hlk hnm hsz hP hD hS hA ls hl
  have hown : s.vm.findClass RX9 = some m.cls := hown
  have hl : lv_has ls 5 [(0, .ref h0), (1, .int x), (2, .int y)] := hl
  have tc_0 : (0 : Int32).toInt = 0 := by decide
  have tc_1 : (1 : Int32).toInt = 1 := by decide
  refine lv_iconst (v := 0) hx hb dX9_litBy_0 (by decide) ?_
  refine lv_istore_n (lv' := [(3, .int 0), (0, .ref h0), (1, .int x), (2, .int y)]) hx hb dX9_litBy_1 rfl hl (by decide) rfl (fun ls hl => ?_)
  refine lv_iconst (v := 0) hx hb dX9_litBy_2 (by decide) ?_
  refine lv_istore (lv' := [(4, .int 0), (3, .int 0), (0, .ref h0), (1, .int x), (2, .int y)]) hx hb dX9_litBy_3 hl (by decide) rfl (fun ls hl => ?_)
  have hb0 : (0 : Int32) = litR (fun j => a0 (48 + j)) y (a0 4) (a0 5) x.toInt 0 := rfl
  have hn0 : ((0 : Nat) : Int) ≤ (a0 0).toInt := by have h7 := pa0 0 (by decide); unfold OKP at h7; omega
  refine (fun (key : ∀ (n9_5 : Nat) (k9_5 : Nat) (x9_5_3 : Int32) (H : Heap) (locs : List Loc) (ls : Array Slot), (k9_5 : Int) ≤ 16 → 16 < (k9_5 : Int) + n9_5 → (x9_5_3 = litR (fun j => a0 (48 + j)) y (a0 4) (a0 5) x.toInt k9_5) → ((k9_5 : Int) ≤ (a0 0).toInt) → PD D A [(sw_9 h0 g b0 b5 b6 b7 b8 b9 b10 b11 b12 b13 b14 b17 b18 b19 b23 b24 b25 b26 b27 b29 b31 b32 b33), (sw_in cT (g 0) 288 a0)] H → va_S A s.heap H locs → lv_has ls 5 [(4, .int (nI k9_5)), (3, .int x9_5_3), (0, .ref h0), (1, .int x), (2, .int y)] → W p l e _ s m _ below meth c H locs _ _ _ (F0 m 5 ls [])) => key (Int.toNat (16 - 0) + 1) 0 _ _ _ _ (by omega) (by omega) (by first | assumption | omega | decide | (simp only [ti_0, ti_1, ti_2, ti_3, ti_4, ti_5, ti_6, ti_7, ti_8, ti_9, ti_10, ti_11, ti_12, ti_m1]; omega)) (by first | assumption | omega | decide | (simp only [ti_0, ti_1, ti_2, ti_3, ti_4, ti_5, ti_6, ti_7, ti_8, ti_9, ti_10, ti_11, ti_12, ti_m1]; omega)) ⟨hP, hD⟩ hS (lv_sub hl [0, 1, 2, 3, 4] rfl)) ?_
  intro n9_5
  induction n9_5 with
  | zero => intro k9_5 x9_5_3 H locs ls hq1 hq2; exact absurd hq2 (by omega)
  | succ n9_5 ih_5 =>
    intro k9_5 x9_5_3 H locs ls hq1_5 hq2_5 h9_5_0 h9_5_1 hPD hS hl
    obtain ⟨hP, hD⟩ := hPD
    have hk9_5 : (nI k9_5).toInt = (k9_5 : Int) := nI_toInt (by omega)
    refine lv_iload hx hb dX9_litBy_5 (lv_at hl 0 rfl) ?_
    refine lv_aload_n hx hb dX9_litBy_7 rfl (lv_at hl 2 rfl) ?_
    refine va_get (D := D) (ci := 9) (v := .ref (g 0)) (C := RX9) (T := TX9) (N := 37) hx hb htg gRX9 hown hK hP 0 rfl rfl 1 (by decide) (htg _ wi_1151) (fun _ h9 => h9) rfl dX9_litBy_8 ?_
    refine lv_iconst (v := 0) hx hb dX9_litBy_11 (by decide) ?_
    refine va_iald hx hb hK hP 1 0 rfl rfl (by unfold vp_in; decide) dX9_litBy_12 ?_
    refine lv_topi (fun z_1 ez_1 => ?_)
    have iz_1 : 0 ≤ z_1.toInt ∧ z_1.toInt ≤ 16 := by rw [ez_1]; exact rd0 pa0 (by decide) rfl
    have nz_1 : z_1.toInt = ((a0) 0).toInt := by rw [ez_1]; rfl
    have nz_1 : z_1.toInt = (a0 0).toInt := by rw [ez_1]; rfl
    refine lv_icmp_ge (tgt := 44) hx hb dX9_litBy_13 (by decide) (fun c_2 => ?_) (fun c_2 => ?_)
    · have ic_2 : z_1.toInt ≤ ((k9_5 : Nat) : Int) := ile c_2 (rfl) (nI_toInt (by omega))
      refine lv_iload_n hx hb dX9_litBy_44 rfl (lv_at hl 1 rfl) ?_
      exact x_iret hx hb hr hlk hP hD hS [0, 1] (()) rfl (by decide) ⟨(by (try dsimp only); rw [show (a0 0).toInt.toNat = k9_5 from by omega]; assumption), trivial⟩ (by decide) (by decide) dX9_litBy_45
    · have ic_2 : ((k9_5 : Nat) : Int) < z_1.toInt := inle c_2 (rfl) (nI_toInt (by omega))
      refine lv_iload_n hx hb dX9_litBy_16 rfl (lv_at hl 1 rfl) ?_
      refine lv_aload_n hx hb dX9_litBy_17 rfl (lv_at hl 2 rfl) ?_
      refine lv_iload_n hx hb dX9_litBy_18 rfl (lv_at hl 3 rfl) ?_
      refine lv_iload hx hb dX9_litBy_19 (lv_at hl 0 rfl) ?_
      refine lv_iload_n hx hb dX9_litBy_21 rfl (lv_at hl 4 rfl) ?_
      refine xk_i (wr := []) (xr_V (n := 3) (As := [.int x, .int (nI k9_5), .int y]) (rest := [.int x9_5_3]) ⟨hx, hb, hml, hown, htg⟩ hK hN hP hD hS hA [0, 1] rfl (by decide) (m_lightByX l D cT _ (h0) (g) (b0) (b5) (b6) (b7) (b8) (b9) (b10) (b11) (b12) (b13) (b14) (b17) (b18) (b19) (b23) (b24) (b25) (b26) (b27) (b29) (b31) (b32) (b33) (by first | assumption | omega | decide | exact Or.inl (by decide) | (intro h9; exact absurd h9 (by decide)) | (intro _; omega) | (intro _; assumption) | (intro _; decide)) (a0) (by first | assumption | omega | decide | exact Or.inl (by decide) | (intro h9; exact absurd h9 (by decide)) | (intro _; omega) | (intro _; assumption) | (intro _; decide)) (x) ((nI k9_5)) (y) (by first | assumption | omega | decide | exact Or.inl (by decide) | (intro h9; exact absurd h9 (by decide)) | (intro _; omega) | (intro _; assumption) | (intro _; decide)) (by first | assumption | omega | decide | exact Or.inl (by decide) | (intro h9; exact absurd h9 (by decide)) | (intro _; omega) | (intro _; assumption) | (intro _; decide))) wi_1347 wi_1349 wi_92 wi_131 wi_1350 rfl rfl rfl ⟨rfl, by decide +kernel⟩ ⟨Nat.le_of_ble_eq_true rfl, Nat.le_of_ble_eq_true rfl⟩ rfl hl.1 rfl (Nat.le_of_ble_eq_true rfl) dX9_litBy_22 ⟨Nat.le_of_ble_eq_true rfl, Nat.le_of_ble_eq_true rfl⟩) hP hD hS hA [0, 1] [] rfl rfl (by decide) (by decide) (fun r_4 u_3 H locs hwr_4 hP hD hS => ?_)
      obtain ⟨hP, hD⟩ : PD D A [(sw_9 h0 g b0 b5 b6 b7 b8 b9 b10 b11 b12 b13 b14 b17 b18 b19 b23 b24 b25 b26 b27 b29 b31 b32 b33), (sw_in cT (g 0) 288 a0)] _ := ⟨hP, hD⟩
      have qr_4_0 : r_4.toInt = lgF (fun j => a0 (48 + j)) y (a0 4) (a0 5) x.toInt (nI k9_5).toInt := hwr_4.1
      rw [hk9_5] at qr_4_0
      refine lv_if_le (tgt := 35) hx hb dX9_litBy_25 (by decide) (fun c_5 => ?_) (fun c_5 => ?_)
      · have ic_5 : r_4.toInt ≤ 0 := ile c_5 (rfl) (by decide)
        refine lv_iconst (v := 0) hx hb dX9_litBy_35 (by decide) ?_
        refine lv_ior hx hb dX9_litBy_36 ?_
        refine lv_topi (fun z_6 ez_6 => ?_)
        refine lv_istore_n (lv' := [(3, .int z_6), (4, .int (nI k9_5)), (0, .ref h0), (1, .int x), (2, .int y)]) hx hb dX9_litBy_37 rfl hl (by decide) rfl (fun ls hl => ?_)
        refine lv_iinc (v := (nI (k9_5 + 1))) (lv' := [(4, .int (nI (k9_5 + 1))), (3, .int z_6), (0, .ref h0), (1, .int x), (2, .int y)]) hx hb dX9_litBy_38 hl (k := 1) rfl (by exact nI_1 (k9_5)) (by decide) rfl (fun ls hl => ?_)
        refine lv_goto (tgt := 5) hx hb dX9_litBy_41 (by decide) ?_
        have hb1 : z_6 = litR (fun j => a0 (48 + j)) y (a0 4) (a0 5) x.toInt (k9_5 + 1) := by rw [litR_s]; first | (rw [if_pos (by omega), ← h9_5_0]; rw [ez_6, ez_1]) | (rw [if_neg (by omega), ← h9_5_0]; first | done | rw [ez_6, or_z])
        exact ih_5 (k9_5 + 1) _ _ _ _ (by omega) (by omega) (by first | assumption | omega | decide | (simp only [ti_0, ti_1, ti_2, ti_3, ti_4, ti_5, ti_6, ti_7, ti_8, ti_9, ti_10, ti_11, ti_12, ti_m1]; omega)) (by first | assumption | omega | decide | (simp only [ti_0, ti_1, ti_2, ti_3, ti_4, ti_5, ti_6, ti_7, ti_8, ti_9, ti_10, ti_11, ti_12, ti_m1]; omega)) ⟨hP.sub [0, 1] rfl, hD.sub [0, 1] (by decide) rfl⟩ hS (lv_sub hl [0, 1, 2, 3, 4] rfl)
      · have ic_5 : 0 < r_4.toInt := inle c_5 (rfl) (by decide)
        refine lv_iconst (v := 1) hx hb dX9_litBy_28 (by decide) ?_
        refine lv_iload hx hb dX9_litBy_29 (lv_at hl 0 rfl) ?_
        refine lv_ishl hx hb dX9_litBy_31 ?_
        refine lv_topi (fun z_7 ez_7 => ?_)
        refine lv_goto (tgt := 36) hx hb dX9_litBy_32 (by decide) ?_
        refine lv_ior hx hb dX9_litBy_36 ?_
        refine lv_topi (fun z_8 ez_8 => ?_)
        refine lv_istore_n (lv' := [(3, .int z_8), (4, .int (nI k9_5)), (0, .ref h0), (1, .int x), (2, .int y)]) hx hb dX9_litBy_37 rfl hl (by decide) rfl (fun ls hl => ?_)
        refine lv_iinc (v := (nI (k9_5 + 1))) (lv' := [(4, .int (nI (k9_5 + 1))), (3, .int z_8), (0, .ref h0), (1, .int x), (2, .int y)]) hx hb dX9_litBy_38 hl (k := 1) rfl (by exact nI_1 (k9_5)) (by decide) rfl (fun ls hl => ?_)
        refine lv_goto (tgt := 5) hx hb dX9_litBy_41 (by decide) ?_
        have hb1 : z_8 = litR (fun j => a0 (48 + j)) y (a0 4) (a0 5) x.toInt (k9_5 + 1) := by rw [litR_s]; first | (rw [if_pos (by omega), ← h9_5_0]; rw [ez_8, ez_7]) | (rw [if_neg (by omega), ← h9_5_0]; first | done | rw [ez_8, or_z])
        exact ih_5 (k9_5 + 1) _ _ _ _ (by omega) (by omega) (by first | assumption | omega | decide | (simp only [ti_0, ti_1, ti_2, ti_3, ti_4, ti_5, ti_6, ti_7, ti_8, ti_9, ti_10, ti_11, ti_12, ti_m1]; omega)) (by first | assumption | omega | decide | (simp only [ti_0, ti_1, ti_2, ti_3, ti_4, ti_5, ti_6, ti_7, ti_8, ti_9, ti_10, ti_11, ti_12, ti_m1]; omega)) ⟨hP.sub [0, 1] rfl, hD.sub [0, 1] (by decide) rfl⟩ hS (lv_sub hl [0, 1, 2, 3, 4] rfl)
