set_option maxHeartbeats 4000000 in
set_option maxRecDepth 100000 in
theorem m_minuteK (l : Launch) (D : va_G) (cT : Nat → ClassId) (sz : Nat) (h0 : Nat) (g : Nat → Nat) (b0 : Int32) (b5 : Int32) (b6 : Int32) (b7 : Int32) (b8 : Int32) (b9 : Int32) (b10 : Int32) (b11 : Int32) (b12 : Int32) (b13 : Int32) (b14 : Int32) (b17 : Int32) (b18 : Int32) (b19 : Int32) (b23 : Int32) (b24 : Int32) (b25 : Int32) (b26 : Int32) (b27 : Int32) (b29 : Int32) (b31 : Int32) (b32 : Int32) (b33 : Int32) (hb5 : 0 ≤ b5.toInt ∧ b5.toInt ≤ 900) (a0 : Nat → Int32) (pa0 : PI 288 a0) (a4 : Nat → Int32) (x : Int32) : Met l yX9_minute (wsc yX9_minute cX9_minute 3 (some .int)) { frames := 7, cells := 0, slots := 0, locals := 217 } (va_Pc [.ref h0, .int x] (PX D cT sz [(sw_9 h0 g b0 b5 b6 b7 b8 b9 b10 b11 b12 b13 b14 b17 b18 b19 b23 b24 b25 b26 b27 b29 b31 b32 b33), (sw_in cT (g 0) 288 a0), (sw_in cT (g 4) 6 a4)])) (va_Qi (fun (r : Int32) (u : Int32 × (Nat → Int32) × (Nat → Int32)) => (PI 288 u.2.1) ∧ (KR u.2.1 a0) ∧ (True)) (fun u t => RW D (va_A [(sw_9 h0 g b0 b5 b6 b7 b8 b9 b10 b11 b12 b13 b14 b17 b18 b19 b23 b24 b25 b26 b27 b29 b31 b32 b33), (sw_in cT (g 0) 288 a0), (sw_in cT (g 4) 6 a4)] sz) ((fun u : Int32 × (Nat → Int32) × (Nat → Int32) => [(sw_9 h0 g u.1 b5 b6 b7 b8 b9 b10 b11 b12 b13 b14 b17 b18 b19 b23 b24 b25 b26 b27 b29 b31 b32 b33), (sw_in cT (g 0) 288 u.2.1), (sw_in cT (g 4) 6 u.2.2)]) u) t) (va_A [(sw_9 h0 g b0 b5 b6 b7 b8 b9 b10 b11 b12 b13 b14 b17 b18 b19 b23 b24 b25 b26 b27 b29 b31 b32 b33), (sw_in cT (g 0) 288 a0), (sw_in cT (g 4) 6 a4)] sz)) 0 0 (va_A [(sw_9 h0 g b0 b5 b6 b7 b8 b9 b10 b11 b12 b13 b14 b17 b18 b19 b23 b24 b25 b26 b27 b29 b31 b32 b33), (sw_in cT (g 0) 288 a0), (sw_in cT (g 4) 6 a4)] sz) := by
  refine m_of (y := yX9_minute) (cc := cX9_minute) (nL := 3) (ret := (some .int)) (D := D) (cT := cT) (av := [.ref h0, .int x]) (wi := [(sw_9 h0 g b0 b5 b6 b7 b8 b9 b10 b11 b12 b13 b14 b17 b18 b19 b23 b24 b25 b26 b27 b29 b31 b32 b33), (sw_in cT (g 0) 288 a0), (sw_in cT (g 4) 6 a4)]) (fun A => va_Qi (fun (r : Int32) (u : Int32 × (Nat → Int32) × (Nat → Int32)) => (PI 288 u.2.1) ∧ (KR u.2.1 a0) ∧ (True)) (fun u t => RW D A ((fun u : Int32 × (Nat → Int32) × (Nat → Int32) => [(sw_9 h0 g u.1 b5 b6 b7 b8 b9 b10 b11 b12 b13 b14 b17 b18 b19 b23 b24 b25 b26 b27 b29 b31 b32 b33), (sw_in cT (g 0) 288 u.2.1), (sw_in cT (g 4) 6 u.2.2)]) u) t) A) (by decide) (Nat.le_of_ble_eq_true rfl) ?_
  intro p e s m below meth c A hx hb hml hown htg hK hN hr hlk hnm hsz hP hD hS hA ls hl
  have hown : s.vm.findClass RX9 = some m.cls := hown
  have hl : lv_has ls 3 [(0, .ref h0), (1, .int x)] := hl
  have tc_m5 : ((-5) : Int32).toInt = (-5) := by decide
  have tc_m2 : ((-2) : Int32).toInt = (-2) := by decide
  have tc_0 : (0 : Int32).toInt = 0 := by decide
  have tc_1 : (1 : Int32).toInt = 1 := by decide
  refine lv_aload_n hx hb dX9_minute_0 rfl (lv_at hl 0 rfl) ?_
  refine lv_iconst (v := 0) hx hb dX9_minute_1 (by decide) ?_
  refine va_put (D := D) (ci := 9) (v := .int 0) (ty := .int) (C := RX9) (T := TX9) (N := 37) hx hb htg gRX9 tyX9 tyX9_ok nmX9 hown hK hP hD hS 0 rfl rfl 0 (by decide) (htg _ wi_1150) (fun _ h9 => h9) rfl (by decide +kernel) rfl rfl (Nat.le_of_ble_eq_true rfl) dX9_minute_2 (fun H locs hP hD hS => ?_)
  obtain ⟨hP, hD⟩ : PD D A [(sw_9 h0 g 0 b5 b6 b7 b8 b9 b10 b11 b12 b13 b14 b17 b18 b19 b23 b24 b25 b26 b27 b29 b31 b32 b33), (sw_in cT (g 0) 288 a0), (sw_in cT (g 4) 6 a4)] _ := ⟨hP, hD⟩
  refine lv_aload_n hx hb dX9_minute_5 rfl (lv_at hl 0 rfl) ?_
  refine lv_iload_n hx hb dX9_minute_6 rfl (lv_at hl 1 rfl) ?_
  refine lv_i2l (v := x.toInt64) hx hb dX9_minute_7 rfl ?_
  have ilw_1 : (x.toInt64).toInt = x.toInt := i2l_i _
  refine xk_i (wr := [(sw_in cT (g 4) 6 a4)]) (xr_V (n := 1) (As := [.long x.toInt64]) (rest := []) ⟨hx, hb, hml, hown, htg⟩ hK hN hP hD hS hA [0, 1] rfl (by decide) (m_refuses l D cT _ (h0) (g) (0) (b5) (b6) (b7) (b8) (b9) (b10) (b11) (b12) (b13) (b14) (b17) (b18) (b19) (b23) (b24) (b25) (b26) (b27) (b29) (b31) (b32) (b33) (by first | assumption | omega | decide | exact Or.inl (by decide) | (intro h9; exact absurd h9 (by decide)) | (intro _; omega) | (intro _; assumption) | (intro _; decide)) (a0) (by first | assumption | omega | decide | exact Or.inl (by decide) | (intro h9; exact absurd h9 (by decide)) | (intro _; omega) | (intro _; assumption) | (intro _; decide)) (x.toInt64)) wi_1416 wi_1418 wi_99 wi_131 wi_1419 rfl rfl rfl ⟨rfl, by decide +kernel⟩ ⟨Nat.le_of_ble_eq_true rfl, Nat.le_of_ble_eq_true rfl⟩ rfl hl.1 rfl (Nat.le_of_ble_eq_true rfl) dX9_minute_8 ⟨Nat.le_of_ble_eq_true rfl, Nat.le_of_ble_eq_true rfl⟩) hP hD hS hA [0, 1] [2] rfl rfl (by decide) (by decide) (fun r_3 u_2 H locs hwr_3 hP hD hS => ?_)
  obtain ⟨hP, hD⟩ : PD D A [(sw_in cT (g 4) 6 a4), (sw_9 h0 g 0 b5 b6 b7 b8 b9 b10 b11 b12 b13 b14 b17 b18 b19 b23 b24 b25 b26 b27 b29 b31 b32 b33), (sw_in cT (g 0) 288 a0)] _ := ⟨hP, hD⟩
  have qr_3_0 : Imp (r_3.toInt = 0) (1 ≤ (a0 6).toInt ∧ (a0 1).toInt ≤ 9998 ∧ (x.toInt64.toInt = 0 ∨ (x.toInt64.toInt = 1 ∧ 1 ≤ (a0 2).toInt) ∨ (x.toInt64.toInt = 2 ∧ (a0 2).toInt ≤ 14))) := hwr_3.1
  refine lv_istore_n (lv' := [(2, .int r_3), (0, .ref h0), (1, .int x)]) hx hb dX9_minute_11 rfl hl (by decide) rfl (fun ls hl => ?_)
  refine lv_iload_n hx hb dX9_minute_12 rfl (lv_at hl 0 rfl) ?_
  refine lv_iconst (v := 1) hx hb dX9_minute_13 (by decide) ?_
  refine lv_icmp_ne (tgt := 22) hx hb dX9_minute_14 (by decide) (fun c_4 => ?_) (fun c_4 => ?_)
  · have ic_4 : ¬ r_3.toInt = 1 := ine c_4 (rfl) (by decide)
    refine lv_iload_n hx hb dX9_minute_22 rfl (lv_at hl 0 rfl) ?_
    refine lv_if_eq (tgt := 31) hx hb dX9_minute_23 (by decide) (fun c_5 => ?_) (fun c_5 => ?_)
    · have ic_5 : r_3.toInt = 0 := ieq c_5 (rfl) (by decide)
      have kqr_3_0 : 1 ≤ (a0 6).toInt ∧ (a0 1).toInt ≤ 9998 ∧ (x.toInt64.toInt = 0 ∨ (x.toInt64.toInt = 1 ∧ 1 ≤ (a0 2).toInt) ∨ (x.toInt64.toInt = 2 ∧ (a0 2).toInt ≤ 14)) := qr_3_0 ic_5
      refine lv_aload_n hx hb dX9_minute_31 rfl (lv_at hl 1 rfl) ?_
      refine lv_iload_n hx hb dX9_minute_32 rfl (lv_at hl 2 rfl) ?_
      refine lv_iconst (v := 0) hx hb dX9_minute_33 (by decide) ?_
      refine xk_i (wr := []) (xr_V (n := 2) (As := [.int x, .int 0]) (rest := []) ⟨hx, hb, hml, hown, htg⟩ hK hN hP hD hS hA [1, 2, 0] rfl (by decide) (m_goesK l D cT _ (h0) (g) (0) (b5) (b6) (b7) (b8) (b9) (b10) (b11) (b12) (b13) (b14) (b17) (b18) (b19) (b23) (b24) (b25) (b26) (b27) (b29) (b31) (b32) (b33) (by first | assumption | omega | decide | exact Or.inl (by decide) | (intro h9; exact absurd h9 (by decide)) | (intro _; omega) | (intro _; assumption) | (intro _; decide)) (a0) (by first | assumption | omega | decide | exact Or.inl (by decide) | (intro h9; exact absurd h9 (by decide)) | (intro _; omega) | (intro _; assumption) | (intro _; decide)) (a4) (x) (0) (by first | assumption | omega | decide | exact Or.inl (by decide) | (intro h9; exact absurd h9 (by decide)) | (intro _; omega) | (intro _; assumption) | (intro _; decide)) (by first | assumption | omega | decide | exact Or.inl (by decide) | (intro h9; exact absurd h9 (by decide)) | (intro _; omega) | (intro _; assumption) | (intro _; decide)) (by first | assumption | omega | decide | exact Or.inl (by decide) | (intro h9; exact absurd h9 (by decide)) | (intro _; omega) | (intro _; assumption) | (intro _; decide))) wi_1424 wi_1426 wi_100 wi_131 wi_1427 rfl rfl rfl ⟨rfl, by decide +kernel⟩ ⟨Nat.le_of_ble_eq_true rfl, Nat.le_of_ble_eq_true rfl⟩ rfl hl.1 rfl (Nat.le_of_ble_eq_true rfl) dX9_minute_34 ⟨Nat.le_of_ble_eq_true rfl, Nat.le_of_ble_eq_true rfl⟩) hP hD hS hA [1, 2, 0] [] rfl rfl (by decide) (by decide) (fun r_7 u_6 H locs hwr_7 hP hD hS => ?_)
      obtain ⟨hP, hD⟩ : PD D A [(sw_9 h0 g 0 b5 b6 b7 b8 b9 b10 b11 b12 b13 b14 b17 b18 b19 b23 b24 b25 b26 b27 b29 b31 b32 b33), (sw_in cT (g 0) 288 u_6.1), (sw_in cT (g 4) 6 u_6.2)] _ := ⟨hP, hD⟩
      have qr_7_0 : PI 288 u_6.1 := hwr_7.1
      have qr_7_1 : KR u_6.1 a0 := hwr_7.2.1
      have kqr_7_1 : KR u_6.1 (a0) := KR_tr qr_7_1 (KR_rfl a0)
      have qr_7_2 : (u_6.1 1).toInt = (a0 1).toInt + 1 := hwr_7.2.2.1
      exact x_iret hx hb hr hlk hP hD hS [0, 1, 2] ((0, u_6.1, u_6.2)) rfl (by decide) ⟨by (try dsimp only); first | assumption | omega | decide | exact Or.inl (by decide) | (intro h9; exact absurd h9 (by decide)) | (intro _; omega) | (intro _; assumption) | (intro _; decide), by (try dsimp only); first | assumption | exact KR_rfl _, trivial⟩ (by decide) (by decide) dX9_minute_37
    · have ic_5 : ¬ r_3.toInt = 0 := ine c_5 (rfl) (by decide)
      refine lv_bipush (v := (-5)) hx hb dX9_minute_26 (by decide) ?_
      refine lv_goto (tgt := 37) hx hb dX9_minute_28 (by decide) ?_
      exact x_iret hx hb hr hlk hP hD hS [1, 2, 0] ((0, a0, a4)) rfl (by decide) ⟨by (try dsimp only); first | assumption | omega | decide | exact Or.inl (by decide) | (intro h9; exact absurd h9 (by decide)) | (intro _; omega) | (intro _; assumption) | (intro _; decide), by (try dsimp only); first | assumption | exact KR_rfl _, trivial⟩ (by decide) (by decide) dX9_minute_37
  · have ic_4 : r_3.toInt = 1 := ieq c_4 (rfl) (by decide)
    refine lv_bipush (v := (-2)) hx hb dX9_minute_17 (by decide) ?_
    refine lv_goto (tgt := 37) hx hb dX9_minute_19 (by decide) ?_
    exact x_iret hx hb hr hlk hP hD hS [1, 2, 0] ((0, a0, a4)) rfl (by decide) ⟨by (try dsimp only); first | assumption | omega | decide | exact Or.inl (by decide) | (intro h9; exact absurd h9 (by decide)) | (intro _; omega) | (intro _; assumption) | (intro _; decide), by (try dsimp only); first | assumption | exact KR_rfl _, trivial⟩ (by decide) (by decide) dX9_minute_37
set_option maxHeartbeats 4000000 in
set_option maxRecDepth 100000 in
theorem m_keepsK (l : Launch) (D : va_G) (cT : Nat → ClassId) (sz : Nat) (h0 : Nat) (g : Nat → Nat) (b0 : Int32) (b5 : Int32) (b6 : Int32) (b7 : Int32) (b8 : Int32) (b9 : Int32) (b10 : Int32) (b11 : Int32) (b12 : Int32) (b13 : Int32) (b14 : Int32) (b17 : Int32) (b18 : Int32) (b19 : Int32) (b23 : Int32) (b24 : Int32) (b25 : Int32) (b26 : Int32) (b27 : Int32) (b29 : Int32) (b31 : Int32) (b32 : Int32) (b33 : Int32) (hb5 : 0 ≤ b5.toInt ∧ b5.toInt ≤ 900) (a0 : Nat → Int32) (pa0 : PI 288 a0) (a5 : Nat → Int32) (pa5 : PI 960 a5) (x : Int32) (hx9 : 0 ≤ x.toInt ∧ x.toInt ≤ 9) : Met l yX9_keeps (wsc yX9_keeps cX9_keeps 3 none) { frames := 2, cells := 0, slots := 0, locals := 100 } (va_Pc [.ref h0, .int x] (PX D cT sz [(sw_9 h0 g b0 b5 b6 b7 b8 b9 b10 b11 b12 b13 b14 b17 b18 b19 b23 b24 b25 b26 b27 b29 b31 b32 b33), (sw_in cT (g 0) 288 a0), (sw_in cT (g 5) 960 a5)])) (va_Qv (fun (u : (Nat → Int32)) => (PI 960 u) ∧ (KP (96 * x.toInt) u a0) ∧ (KB (96 * x.toInt) u a5) ∧ (True)) (fun u t => RW D (va_A [(sw_9 h0 g b0 b5 b6 b7 b8 b9 b10 b11 b12 b13 b14 b17 b18 b19 b23 b24 b25 b26 b27 b29 b31 b32 b33), (sw_in cT (g 0) 288 a0), (sw_in cT (g 5) 960 a5)] sz) ((fun u : (Nat → Int32) => [(sw_9 h0 g b0 b5 b6 b7 b8 b9 b10 b11 b12 b13 b14 b17 b18 b19 b23 b24 b25 b26 b27 b29 b31 b32 b33), (sw_in cT (g 0) 288 a0), (sw_in cT (g 5) 960 u)]) u) t) (va_A [(sw_9 h0 g b0 b5 b6 b7 b8 b9 b10 b11 b12 b13 b14 b17 b18 b19 b23 b24 b25 b26 b27 b29 b31 b32 b33), (sw_in cT (g 0) 288 a0), (sw_in cT (g 5) 960 a5)] sz)) 0 0 (va_A [(sw_9 h0 g b0 b5 b6 b7 b8 b9 b10 b11 b12 b13 b14 b17 b18 b19 b23 b24 b25 b26 b27 b29 b31 b32 b33), (sw_in cT (g 0) 288 a0), (sw_in cT (g 5) 960 a5)] sz) := by
  refine m_of (y := yX9_keeps) (cc := cX9_keeps) (nL := 3) (ret := none) (D := D) (cT := cT) (av := [.ref h0, .int x]) (wi := [(sw_9 h0 g b0 b5 b6 b7 b8 b9 b10 b11 b12 b13 b14 b17 b18 b19 b23 b24 b25 b26 b27 b29 b31 b32 b33), (sw_in cT (g 0) 288 a0), (sw_in cT (g 5) 960 a5)]) (fun A => va_Qv (fun (u : (Nat → Int32)) => (PI 960 u) ∧ (KP (96 * x.toInt) u a0) ∧ (KB (96 * x.toInt) u a5) ∧ (True)) (fun u t => RW D A ((fun u : (Nat → Int32) => [(sw_9 h0 g b0 b5 b6 b7 b8 b9 b10 b11 b12 b13 b14 b17 b18 b19 b23 b24 b25 b26 b27 b29 b31 b32 b33), (sw_in cT (g 0) 288 a0), (sw_in cT (g 5) 960 u)]) u) t) A) (by decide) (Nat.le_of_ble_eq_true rfl) ?_
  intro p e s m below meth c A hx hb hml hown htg hK hN hr hlk hnm hsz hP hD hS hA ls hl
  have hown : s.vm.findClass RX9 = some m.cls := hown
  have hl : lv_has ls 3 [(0, .ref h0), (1, .int x)] := hl
  have tc_0 : (0 : Int32).toInt = 0 := by decide
  have tc_96 : (96 : Int32).toInt = 96 := by decide
  refine lv_iconst (v := 0) hx hb dX9_keeps_0 (by decide) ?_
  refine lv_istore_n (lv' := [(2, .int 0), (0, .ref h0), (1, .int x)]) hx hb dX9_keeps_1 rfl hl (by decide) rfl (fun ls hl => ?_)
  have hk0 : ∀ j : Nat, j < 0 → a5 ((96 * x.toInt).toNat + j) = a0 j := fun j h => absurd h (by omega)
  have hk1 : ∀ j : Nat, ((j : Int) < 96 * x.toInt ∨ 96 * x.toInt + 96 ≤ (j : Int)) → a5 j = a5 j := fun _ _ => rfl
  refine (fun (key : ∀ (n9_2 : Nat) (k9_2 : Nat) (f9_2_0 : Nat → Int32) (H : Heap) (locs : List Loc) (ls : Array Slot), (k9_2 : Int) ≤ 96 → 96 < (k9_2 : Int) + n9_2 → (∀ j : Nat, j < k9_2 → f9_2_0 ((96 * x.toInt).toNat + j) = a0 j) → (∀ j : Nat, ((j : Int) < 96 * x.toInt ∨ 96 * x.toInt + 96 ≤ (j : Int)) → f9_2_0 j = a5 j) → PI 960 f9_2_0 → PD D A [(sw_9 h0 g b0 b5 b6 b7 b8 b9 b10 b11 b12 b13 b14 b17 b18 b19 b23 b24 b25 b26 b27 b29 b31 b32 b33), (sw_in cT (g 0) 288 a0), (sw_in cT (g 5) 960 f9_2_0)] H → va_S A s.heap H locs → lv_has ls 3 [(2, .int (nI k9_2)), (0, .ref h0), (1, .int x)] → W p l e _ s m _ below meth c H locs _ _ _ (F0 m 2 ls [])) => key (Int.toNat (96 - 0) + 1) 0 _ _ _ _ (by omega) (by omega) (by first | assumption | omega | decide | (simp only [ti_0, ti_1, ti_2, ti_3, ti_4, ti_5, ti_6, ti_7, ti_8, ti_9, ti_10, ti_11, ti_12, ti_m1]; omega)) (by first | assumption | omega | decide | (simp only [ti_0, ti_1, ti_2, ti_3, ti_4, ti_5, ti_6, ti_7, ti_8, ti_9, ti_10, ti_11, ti_12, ti_m1]; omega)) (by first | assumption | omega | decide | (simp only [ti_0, ti_1, ti_2, ti_3, ti_4, ti_5, ti_6, ti_7, ti_8, ti_9, ti_10, ti_11, ti_12, ti_m1]; omega)) ⟨hP, hD⟩ hS (lv_sub hl [0, 1, 2] rfl)) ?_
  intro n9_2
  induction n9_2 with
  | zero => intro k9_2 f9_2_0 H locs ls hq1 hq2; exact absurd hq2 (by omega)
  | succ n9_2 ih_2 =>
    intro k9_2 f9_2_0 H locs ls hq1_2 hq2_2 h9_2_0 h9_2_1 h9_2_2 hPD hS hl
    obtain ⟨hP, hD⟩ := hPD
    have hk9_2 : (nI k9_2).toInt = (k9_2 : Int) := nI_toInt (by omega)
    refine lv_iload_n hx hb dX9_keeps_2 rfl (lv_at hl 0 rfl) ?_
    refine lv_bipush (v := 96) hx hb dX9_keeps_3 (by decide) ?_
    refine lv_icmp_ge (tgt := 31) hx hb dX9_keeps_5 (by decide) (fun c_1 => ?_) (fun c_1 => ?_)
    · have ic_1 : 96 ≤ ((k9_2 : Nat) : Int) := ile c_1 (by decide) (nI_toInt (by omega))
      exact x_vret hx hb hr hlk hP hD hS [0, 1, 2] ((f9_2_0)) rfl (by decide) ⟨by (try dsimp only); first | assumption | omega | decide | exact Or.inl (by decide) | (intro h9; exact absurd h9 (by decide)) | (intro _; omega) | (intro _; assumption) | (intro _; decide), (fun j hj => h9_2_0 j (by omega)), (fun j hj => h9_2_1 j (Or.inl hj)), trivial⟩ (by decide) (by decide) dX9_keeps_31
    · have ic_1 : ((k9_2 : Nat) : Int) < 96 := inle c_1 (by decide) (nI_toInt (by omega))
      refine lv_aload_n hx hb dX9_keeps_8 rfl (lv_at hl 1 rfl) ?_
      refine va_get (D := D) (ci := 9) (v := .ref (g 5)) (C := RX9) (T := TX9) (N := 37) hx hb htg gRX9 hown hK hP 0 rfl rfl 16 (by decide) (htg _ wi_1166) (fun _ h9 => h9) rfl dX9_keeps_9 ?_
      refine lv_bipush (v := 96) hx hb dX9_keeps_12 (by decide) ?_
      refine lv_iload_n hx hb dX9_keeps_14 rfl (lv_at hl 2 rfl) ?_
      refine lv_imul hx hb dX9_keeps_15 ?_
      refine lv_topi (fun z_2 ez_2 => ?_)
      have iz_2 : z_2.toInt = 96 * x.toInt := toInt_mulI ez_2 (by decide) (rfl) (by omega)
      refine lv_iload_n hx hb dX9_keeps_16 rfl (lv_at hl 0 rfl) ?_
      refine lv_iadd hx hb dX9_keeps_17 ?_
      refine lv_topi (fun z_3 ez_3 => ?_)
      have iz_3 : z_3.toInt = z_2.toInt + ((k9_2 : Nat) : Int) := toInt_addI ez_3 (rfl) (nI_toInt (by omega)) (by omega)
      refine lv_aload_n hx hb dX9_keeps_18 rfl (lv_at hl 1 rfl) ?_
      refine va_get (D := D) (ci := 9) (v := .ref (g 0)) (C := RX9) (T := TX9) (N := 37) hx hb htg gRX9 hown hK hP 0 rfl rfl 1 (by decide) (htg _ wi_1151) (fun _ h9 => h9) rfl dX9_keeps_19 ?_
      refine lv_iload_n hx hb dX9_keeps_22 rfl (lv_at hl 0 rfl) ?_
      refine va_iald hx hb hK hP 1 0 rfl rfl (vp_in_nI (by omega) (by omega)) dX9_keeps_23 ?_
      refine lv_topi (fun z_4 ez_4 => ?_)
      have oz_4 := pi_rd (a := ((k9_2 : Nat) : Int)) pa0 ez_4 (nI_toInt (by omega)) (by omega)
      unfold OKP at oz_4
      refine va_iast hx hb hK hP hD hS 2 0 rfl rfl (vp_in_iff.mpr (by omega)) dX9_keeps_24 (fun H locs hP hD hS => ?_)
      obtain ⟨f_5, ef_5, hP, hD⟩ : ∃ f_5 : Nat → Int32, f_5 = upd (f9_2_0) (z_3 : Int32).toNatClampNeg z_4 ∧ PD D A [(sw_9 h0 g b0 b5 b6 b7 b8 b9 b10 b11 b12 b13 b14 b17 b18 b19 b23 b24 b25 b26 b27 b29 b31 b32 b33), (sw_in cT (g 0) 288 a0), (sw_in cT (g 5) 960 f_5)] H := ⟨_, rfl, hP, hD⟩
      have qf_5 : PI 960 f_5 := by rw [ef_5]; exact pi_upd (a := z_3.toInt) (b := z_4.toInt) h9_2_2 (rfl) (rfl) (by omega) (by unfold OKP; omega)
      refine lv_iinc (v := (nI (k9_2 + 1))) (lv' := [(2, .int (nI (k9_2 + 1))), (0, .ref h0), (1, .int x)]) hx hb dX9_keeps_25 hl (k := 0) rfl (by exact nI_1 (k9_2)) (by decide) rfl (fun ls hl => ?_)
      refine lv_goto (tgt := 2) hx hb dX9_keeps_28 (by decide) ?_
      have hk0 : ∀ j : Nat, j < k9_2 + 1 → f_5 ((96 * x.toInt).toNat + j) = a0 j := fun j h => by rw [ef_5]; rcases (show j = k9_2 ∨ j < k9_2 from by omega) with h1 | h1; rw [upd_at2 (by omega), ez_4, nI_clamp (by omega), h1]; rw [upd_no (by omega) (by omega)]; exact h9_2_0 j h1
      have hk1 : ∀ j : Nat, ((j : Int) < 96 * x.toInt ∨ 96 * x.toInt + 96 ≤ (j : Int)) → f_5 j = a5 j := fun j h => by rw [ef_5, upd_no (by omega) (by omega)]; exact h9_2_1 j h
      exact ih_2 (k9_2 + 1) _ _ _ _ (by omega) (by omega) (by first | assumption | omega | decide | (simp only [ti_0, ti_1, ti_2, ti_3, ti_4, ti_5, ti_6, ti_7, ti_8, ti_9, ti_10, ti_11, ti_12, ti_m1]; omega)) (by first | assumption | omega | decide | (simp only [ti_0, ti_1, ti_2, ti_3, ti_4, ti_5, ti_6, ti_7, ti_8, ti_9, ti_10, ti_11, ti_12, ti_m1]; omega)) (by first | assumption | omega | decide | (simp only [ti_0, ti_1, ti_2, ti_3, ti_4, ti_5, ti_6, ti_7, ti_8, ti_9, ti_10, ti_11, ti_12, ti_m1]; omega)) ⟨hP.sub [0, 1, 2] rfl, hD.sub [0, 1, 2] (by decide) rfl⟩ hS (lv_sub hl [0, 1, 2] rfl)
