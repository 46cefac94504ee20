set_option maxHeartbeats 4000000 in
set_option maxRecDepth 100000 in
theorem m_walk (l : Launch) (D : va_G) (cT : Nat → ClassId) (sz : Nat) (h0 : Nat) (g : Nat → Nat) (b0 : Int32) (b5 : Int32) (b6 : Int32) (b7 : Int32) (b8 : Int32) (b9 : Int32) (b10 : Int32) (b11 : Int32) (b12 : Int32) (b13 : Int32) (b14 : Int32) (b17 : Int32) (b18 : Int32) (b19 : Int32) (b23 : Int32) (b24 : Int32) (b25 : Int32) (b26 : Int32) (b27 : Int32) (b29 : Int32) (b31 : Int32) (b32 : Int32) (b33 : Int32) (hb5 : 0 ≤ b5.toInt ∧ b5.toInt ≤ 900) (a0 : Nat → Int32) (pa0 : PI 288 a0) (x : Int32) (y : Int32) (z : Int32) : Met l yX9_walk (wsc yX9_walk cX9_walk 4 (some .int)) { frames := 4, cells := 0, slots := 0, locals := 146 } (va_Pc [.ref h0, .int x, .int y, .int z] (PX D cT sz [(h0, .inr (9, (.int b0 :: .ref (g 0) :: .ref (g 1) :: .ref (g 2) :: .ref (g 3) :: .int b5 :: .int b6 :: .int b7 :: .int b8 :: .int b9 :: .int b10 :: .int b11 :: .int b12 :: .int b13 :: .int b14 :: .ref (g 4) :: .ref (g 5) :: .int b17 :: .int b18 :: .int b19 :: .ref (g 6) :: .ref (g 7) :: .ref (g 8) :: .int b23 :: .int b24 :: .int b25 :: .int b26 :: .int b27 :: .ref (g 9) :: .int b29 :: .ref (g 10) :: .int b31 :: .int b32 :: .int b33 :: .ref (g 11) :: .ref (g 12) :: .ref (g 13) :: []))), ((g 0), .inl (cT 0, 288, .inl (a0)))])) (va_Qi (fun (r : Int32) (u : Int32 × (Nat → Int32)) => (PI 288 u.2) ∧ (True)) (fun u t => RW D (va_A [(h0, .inr (9, (.int b0 :: .ref (g 0) :: .ref (g 1) :: .ref (g 2) :: .ref (g 3) :: .int b5 :: .int b6 :: .int b7 :: .int b8 :: .int b9 :: .int b10 :: .int b11 :: .int b12 :: .int b13 :: .int b14 :: .ref (g 4) :: .ref (g 5) :: .int b17 :: .int b18 :: .int b19 :: .ref (g 6) :: .ref (g 7) :: .ref (g 8) :: .int b23 :: .int b24 :: .int b25 :: .int b26 :: .int b27 :: .ref (g 9) :: .int b29 :: .ref (g 10) :: .int b31 :: .int b32 :: .int b33 :: .ref (g 11) :: .ref (g 12) :: .ref (g 13) :: []))), ((g 0), .inl (cT 0, 288, .inl (a0)))] sz) ((fun u : Int32 × (Nat → Int32) => [(h0, .inr (9, (.int u.1 :: .ref (g 0) :: .ref (g 1) :: .ref (g 2) :: .ref (g 3) :: .int b5 :: .int b6 :: .int b7 :: .int b8 :: .int b9 :: .int b10 :: .int b11 :: .int b12 :: .int b13 :: .int b14 :: .ref (g 4) :: .ref (g 5) :: .int b17 :: .int b18 :: .int b19 :: .ref (g 6) :: .ref (g 7) :: .ref (g 8) :: .int b23 :: .int b24 :: .int b25 :: .int b26 :: .int b27 :: .ref (g 9) :: .int b29 :: .ref (g 10) :: .int b31 :: .int b32 :: .int b33 :: .ref (g 11) :: .ref (g 12) :: .ref (g 13) :: []))), ((g 0), .inl (cT 0, 288, .inl (u.2)))]) u) t) (va_A [(h0, .inr (9, (.int b0 :: .ref (g 0) :: .ref (g 1) :: .ref (g 2) :: .ref (g 3) :: .int b5 :: .int b6 :: .int b7 :: .int b8 :: .int b9 :: .int b10 :: .int b11 :: .int b12 :: .int b13 :: .int b14 :: .ref (g 4) :: .ref (g 5) :: .int b17 :: .int b18 :: .int b19 :: .ref (g 6) :: .ref (g 7) :: .ref (g 8) :: .int b23 :: .int b24 :: .int b25 :: .int b26 :: .int b27 :: .ref (g 9) :: .int b29 :: .ref (g 10) :: .int b31 :: .int b32 :: .int b33 :: .ref (g 11) :: .ref (g 12) :: .ref (g 13) :: []))), ((g 0), .inl (cT 0, 288, .inl (a0)))] sz)) 0 0 (va_A [(h0, .inr (9, (.int b0 :: .ref (g 0) :: .ref (g 1) :: .ref (g 2) :: .ref (g 3) :: .int b5 :: .int b6 :: .int b7 :: .int b8 :: .int b9 :: .int b10 :: .int b11 :: .int b12 :: .int b13 :: .int b14 :: .ref (g 4) :: .ref (g 5) :: .int b17 :: .int b18 :: .int b19 :: .ref (g 6) :: .ref (g 7) :: .ref (g 8) :: .int b23 :: .int b24 :: .int b25 :: .int b26 :: .int b27 :: .ref (g 9) :: .int b29 :: .ref (g 10) :: .int b31 :: .int b32 :: .int b33 :: .ref (g 11) :: .ref (g 12) :: .ref (g 13) :: []))), ((g 0), .inl (cT 0, 288, .inl (a0)))] sz) := by
  refine m_of (y := yX9_walk) (cc := cX9_walk) (nL := 4) (ret := (some .int)) (D := D) (cT := cT) (av := [.ref h0, .int x, .int y, .int z]) (wi := [(h0, .inr (9, (.int b0 :: .ref (g 0) :: .ref (g 1) :: .ref (g 2) :: .ref (g 3) :: .int b5 :: .int b6 :: .int b7 :: .int b8 :: .int b9 :: .int b10 :: .int b11 :: .int b12 :: .int b13 :: .int b14 :: .ref (g 4) :: .ref (g 5) :: .int b17 :: .int b18 :: .int b19 :: .ref (g 6) :: .ref (g 7) :: .ref (g 8) :: .int b23 :: .int b24 :: .int b25 :: .int b26 :: .int b27 :: .ref (g 9) :: .int b29 :: .ref (g 10) :: .int b31 :: .int b32 :: .int b33 :: .ref (g 11) :: .ref (g 12) :: .ref (g 13) :: []))), ((g 0), .inl (cT 0, 288, .inl (a0)))]) (fun A => va_Qi (fun (r : Int32) (u : Int32 × (Nat → Int32)) => (PI 288 u.2) ∧ (True)) (fun u t => RW D A ((fun u : Int32 × (Nat → Int32) => [(h0, .inr (9, (.int u.1 :: .ref (g 0) :: .ref (g 1) :: .ref (g 2) :: .ref (g 3) :: .int b5 :: .int b6 :: .int b7 :: .int b8 :: .int b9 :: .int b10 :: .int b11 :: .int b12 :: .int b13 :: .int b14 :: .ref (g 4) :: .ref (g 5) :: .int b17 :: .int b18 :: .int b19 :: .ref (g 6) :: .ref (g 7) :: .ref (g 8) :: .int b23 :: .int b24 :: .int b25 :: .int b26 :: .int b27 :: .ref (g 9) :: .int b29 :: .ref (g 10) :: .int b31 :: .int b32 :: .int b33 :: .ref (g 11) :: .ref (g 12) :: .ref (g 13) :: []))), ((g 0), .inl (cT 0, 288, .inl (u.2)))]) u) t) A) (by decide) (Nat.le_of_ble_eq_true rfl) ?_
  intro p e s m below meth c A hx hb hml hown htg hK hN hr hlk hnm hsz hP hD hS hA ls hl
  have hown : s.vm.findClass RX9 = some m.cls := hown
  have hl : lv_has ls 4 [(0, .ref h0), (1, .int x), (2, .int y), (3, .int z)] := hl
  have tc_m4 : ((-4) : Int32).toInt = (-4) := by decide
  have tc_m3 : ((-3) : Int32).toInt = (-3) := by decide
  have tc_m2 : ((-2) : Int32).toInt = (-2) := by decide
  have tc_0 : (0 : Int32).toInt = 0 := by decide
  have tc_9 : (9 : Int32).toInt = 9 := by decide
  have tc_32 : (32 : Int32).toInt = 32 := by decide
  refine lv_aload_n hx hb dX9_walk_0 rfl (lv_at hl 0 rfl) ?_
  refine lv_iconst (v := 0) hx hb dX9_walk_1 (by decide) ?_
  refine va_put (D := D) (ci := 9) (v := .int 0) (ty := .int) (C := RX9) (T := TX9) (N := 37) hx hb htg gRX9 tyX9 tyX9_ok nmX9 hown hK hP hD hS 0 rfl rfl 0 (by decide) (htg _ wi_1150) (fun _ h9 => h9) rfl (by decide +kernel) rfl rfl (Nat.le_of_ble_eq_true rfl) dX9_walk_2 (fun H locs hP hD hS => ?_)
  have hP : va_P D classes [(h0, .inr (9, (.int 0 :: .ref (g 0) :: .ref (g 1) :: .ref (g 2) :: .ref (g 3) :: .int b5 :: .int b6 :: .int b7 :: .int b8 :: .int b9 :: .int b10 :: .int b11 :: .int b12 :: .int b13 :: .int b14 :: .ref (g 4) :: .ref (g 5) :: .int b17 :: .int b18 :: .int b19 :: .ref (g 6) :: .ref (g 7) :: .ref (g 8) :: .int b23 :: .int b24 :: .int b25 :: .int b26 :: .int b27 :: .ref (g 9) :: .int b29 :: .ref (g 10) :: .int b31 :: .int b32 :: .int b33 :: .ref (g 11) :: .ref (g 12) :: .ref (g 13) :: []))), ((g 0), .inl (cT 0, 288, .inl (a0)))] _ := hP
  have hD : va_D A [(h0, .inr (9, (.int 0 :: .ref (g 0) :: .ref (g 1) :: .ref (g 2) :: .ref (g 3) :: .int b5 :: .int b6 :: .int b7 :: .int b8 :: .int b9 :: .int b10 :: .int b11 :: .int b12 :: .int b13 :: .int b14 :: .ref (g 4) :: .ref (g 5) :: .int b17 :: .int b18 :: .int b19 :: .ref (g 6) :: .ref (g 7) :: .ref (g 8) :: .int b23 :: .int b24 :: .int b25 :: .int b26 :: .int b27 :: .ref (g 9) :: .int b29 :: .ref (g 10) :: .int b31 :: .int b32 :: .int b33 :: .ref (g 11) :: .ref (g 12) :: .ref (g 13) :: []))), ((g 0), .inl (cT 0, 288, .inl (a0)))] := hD
  refine lv_aload_n hx hb dX9_walk_5 rfl (lv_at hl 0 rfl) ?_
  refine lv_iload_n hx hb dX9_walk_6 rfl (lv_at hl 1 rfl) ?_
  refine xk_i (wr := []) (xr_V (n := 1) (As := [.int x]) (rest := []) ⟨hx, hb, hml, hown, htg⟩ hK hN hP hD hS hA [0, 1] rfl (by decide) (m_isStrip l D cT _ (h0) (g) (0) (b5) (b6) (b7) (b8) (b9) (b10) (b11) (b12) (b13) (b14) (b17) (b18) (b19) (b23) (b24) (b25) (b26) (b27) (b29) (b31) (b32) (b33) (by first | assumption | omega | decide | exact Or.inl (by decide) | (intro h9; exact absurd h9 (by decide)) | (intro _; omega) | (intro _; assumption) | (intro _; decide)) (a0) (by first | assumption | omega | decide | exact Or.inl (by decide) | (intro h9; exact absurd h9 (by decide)) | (intro _; omega) | (intro _; assumption) | (intro _; decide)) (x)) wi_1338 wi_1340 wi_90 wi_131 wi_1341 rfl rfl rfl ⟨rfl, by decide +kernel⟩ ⟨Nat.le_of_ble_eq_true rfl, Nat.le_of_ble_eq_true rfl⟩ rfl hl.1 rfl (Nat.le_of_ble_eq_true rfl) dX9_walk_7 ⟨Nat.le_of_ble_eq_true rfl, Nat.le_of_ble_eq_true rfl⟩) hP hD hS hA [0, 1] [] rfl rfl (by decide) (by decide) (fun r_2 u_1 H locs hwr_2 hP hD hS => ?_)
  have hP : va_P D classes [(h0, .inr (9, (.int 0 :: .ref (g 0) :: .ref (g 1) :: .ref (g 2) :: .ref (g 3) :: .int b5 :: .int b6 :: .int b7 :: .int b8 :: .int b9 :: .int b10 :: .int b11 :: .int b12 :: .int b13 :: .int b14 :: .ref (g 4) :: .ref (g 5) :: .int b17 :: .int b18 :: .int b19 :: .ref (g 6) :: .ref (g 7) :: .ref (g 8) :: .int b23 :: .int b24 :: .int b25 :: .int b26 :: .int b27 :: .ref (g 9) :: .int b29 :: .ref (g 10) :: .int b31 :: .int b32 :: .int b33 :: .ref (g 11) :: .ref (g 12) :: .ref (g 13) :: []))), ((g 0), .inl (cT 0, 288, .inl (a0)))] _ := hP
  have hD : va_D A [(h0, .inr (9, (.int 0 :: .ref (g 0) :: .ref (g 1) :: .ref (g 2) :: .ref (g 3) :: .int b5 :: .int b6 :: .int b7 :: .int b8 :: .int b9 :: .int b10 :: .int b11 :: .int b12 :: .int b13 :: .int b14 :: .ref (g 4) :: .ref (g 5) :: .int b17 :: .int b18 :: .int b19 :: .ref (g 6) :: .ref (g 7) :: .ref (g 8) :: .int b23 :: .int b24 :: .int b25 :: .int b26 :: .int b27 :: .ref (g 9) :: .int b29 :: .ref (g 10) :: .int b31 :: .int b32 :: .int b33 :: .ref (g 11) :: .ref (g 12) :: .ref (g 13) :: []))), ((g 0), .inl (cT 0, 288, .inl (a0)))] := hD
  have qr_2_0 : Imp (¬ r_2.toInt = 0) (0 ≤ x.toInt ∧ x.toInt ≤ 15) := hwr_2.1
  refine lv_if_eq (tgt := 21) hx hb dX9_walk_10 (by decide) (fun c_3 => ?_) (fun c_3 => ?_)
  · have ic_3 : r_2.toInt = 0 := ieq c_3 (rfl) (by decide)
    refine lv_bipush (v := (-2)) hx hb dX9_walk_21 (by decide) ?_
    exact x_iret hx hb hr hlk hP hD hS [0, 1] ((0, a0)) rfl (by decide) ⟨by (try dsimp only); first | assumption | omega | decide | exact Or.inl (by decide) | (intro h9; exact absurd h9 (by decide)) | (intro _; omega) | (intro _; assumption) | (intro _; decide), trivial⟩ (by decide) (by decide) dX9_walk_23
  · have ic_3 : ¬ r_2.toInt = 0 := ine c_3 (rfl) (by decide)
    have kqr_2_0 : 0 ≤ x.toInt ∧ x.toInt ≤ 15 := qr_2_0 ic_3
    refine lv_aload_n hx hb dX9_walk_13 rfl (lv_at hl 0 rfl) ?_
    refine lv_iload_n hx hb dX9_walk_14 rfl (lv_at hl 2 rfl) ?_
    refine xk_i (wr := []) (xr_V (n := 1) (As := [.int y]) (rest := []) ⟨hx, hb, hml, hown, htg⟩ hK hN hP hD hS hA [0, 1] rfl (by decide) (m_isStrip l D cT _ (h0) (g) (0) (b5) (b6) (b7) (b8) (b9) (b10) (b11) (b12) (b13) (b14) (b17) (b18) (b19) (b23) (b24) (b25) (b26) (b27) (b29) (b31) (b32) (b33) (by first | assumption | omega | decide | exact Or.inl (by decide) | (intro h9; exact absurd h9 (by decide)) | (intro _; omega) | (intro _; assumption) | (intro _; decide)) (a0) (by first | assumption | omega | decide | exact Or.inl (by decide) | (intro h9; exact absurd h9 (by decide)) | (intro _; omega) | (intro _; assumption) | (intro _; decide)) (y)) wi_1338 wi_1340 wi_90 wi_131 wi_1341 rfl rfl rfl ⟨rfl, by decide +kernel⟩ ⟨Nat.le_of_ble_eq_true rfl, Nat.le_of_ble_eq_true rfl⟩ rfl hl.1 rfl (Nat.le_of_ble_eq_true rfl) dX9_walk_15 ⟨Nat.le_of_ble_eq_true rfl, Nat.le_of_ble_eq_true rfl⟩) hP hD hS hA [0, 1] [] rfl rfl (by decide) (by decide) (fun r_5 u_4 H locs hwr_5 hP hD hS => ?_)
    have hP : va_P D classes [(h0, .inr (9, (.int 0 :: .ref (g 0) :: .ref (g 1) :: .ref (g 2) :: .ref (g 3) :: .int b5 :: .int b6 :: .int b7 :: .int b8 :: .int b9 :: .int b10 :: .int b11 :: .int b12 :: .int b13 :: .int b14 :: .ref (g 4) :: .ref (g 5) :: .int b17 :: .int b18 :: .int b19 :: .ref (g 6) :: .ref (g 7) :: .ref (g 8) :: .int b23 :: .int b24 :: .int b25 :: .int b26 :: .int b27 :: .ref (g 9) :: .int b29 :: .ref (g 10) :: .int b31 :: .int b32 :: .int b33 :: .ref (g 11) :: .ref (g 12) :: .ref (g 13) :: []))), ((g 0), .inl (cT 0, 288, .inl (a0)))] _ := hP
    have hD : va_D A [(h0, .inr (9, (.int 0 :: .ref (g 0) :: .ref (g 1) :: .ref (g 2) :: .ref (g 3) :: .int b5 :: .int b6 :: .int b7 :: .int b8 :: .int b9 :: .int b10 :: .int b11 :: .int b12 :: .int b13 :: .int b14 :: .ref (g 4) :: .ref (g 5) :: .int b17 :: .int b18 :: .int b19 :: .ref (g 6) :: .ref (g 7) :: .ref (g 8) :: .int b23 :: .int b24 :: .int b25 :: .int b26 :: .int b27 :: .ref (g 9) :: .int b29 :: .ref (g 10) :: .int b31 :: .int b32 :: .int b33 :: .ref (g 11) :: .ref (g 12) :: .ref (g 13) :: []))), ((g 0), .inl (cT 0, 288, .inl (a0)))] := hD
    have qr_5_0 : Imp (¬ r_5.toInt = 0) (0 ≤ y.toInt ∧ y.toInt ≤ 15) := hwr_5.1
    refine lv_if_ne (tgt := 24) hx hb dX9_walk_18 (by decide) (fun c_6 => ?_) (fun c_6 => ?_)
    · have ic_6 : ¬ r_5.toInt = 0 := ine c_6 (rfl) (by decide)
      have kqr_5_0 : 0 ≤ y.toInt ∧ y.toInt ≤ 15 := qr_5_0 ic_6
      refine lv_iload_n hx hb dX9_walk_24 rfl (lv_at hl 3 rfl) ?_
      refine lv_i2l (v := z.toInt64) hx hb dX9_walk_25 rfl ?_
      refine lv_lconst (v := 0) hx hb dX9_walk_26 (by decide) ?_
      refine lv_aload_n hx hb dX9_walk_27 rfl (lv_at hl 0 rfl) ?_
      refine va_get (D := D) (ci := 9) (v := .ref (g 0)) (C := RX9) (T := TX9) (N := 37) hx hb htg gRX9 hown hK hP 0 rfl rfl 1 (by decide) (htg _ wi_1151) (fun _ h9 => h9) rfl dX9_walk_28 ?_
      refine lv_bipush (v := 32) hx hb dX9_walk_31 (by decide) ?_
      refine lv_iload_n hx hb dX9_walk_33 rfl (lv_at hl 1 rfl) ?_
      refine lv_iadd hx hb dX9_walk_34 ?_
      refine lv_topi (fun z_7 ez_7 => ?_)
      have iz_7 : z_7.toInt = 32 + x.toInt := toInt_addI ez_7 (by decide) (rfl) (by omega)
      refine va_iald hx hb hK hP 1 0 rfl rfl (vp_in_iff.mpr (by omega)) dX9_walk_35 ?_
      refine lv_topi (fun z_8 ez_8 => ?_)
      refine lv_i2l (v := z_8.toInt64) hx hb dX9_walk_36 rfl ?_
      have ilw_9 : (z.toInt64).toInt = z.toInt := i2l_i _
      have ilw_10 : (z_8.toInt64).toInt = z_8.toInt := i2l_i _
      refine xk_i (wr := [(h0, .inr (9, (.int 0 :: .ref (g 0) :: .ref (g 1) :: .ref (g 2) :: .ref (g 3) :: .int b5 :: .int b6 :: .int b7 :: .int b8 :: .int b9 :: .int b10 :: .int b11 :: .int b12 :: .int b13 :: .int b14 :: .ref (g 4) :: .ref (g 5) :: .int b17 :: .int b18 :: .int b19 :: .ref (g 6) :: .ref (g 7) :: .ref (g 8) :: .int b23 :: .int b24 :: .int b25 :: .int b26 :: .int b27 :: .ref (g 9) :: .int b29 :: .ref (g 10) :: .int b31 :: .int b32 :: .int b33 :: .ref (g 11) :: .ref (g 12) :: .ref (g 13) :: []))), ((g 0), .inl (cT 0, 288, .inl (a0)))]) (xr_S (n := 3) (As := [.long z.toInt64, .long 0, .long z_8.toInt64]) (rest := []) ⟨hx, hb, hml, hown, htg⟩ hK hN hP hD hS hA [] rfl (by decide) (m_within l D cT _ (z.toInt64) (0) (z_8.toInt64) (z.toInt) (0) (z_8.toInt) (i2l_i _) (by decide) (i2l_i _)) wi_1270 wi_1271 wi_131 wi_1272 ⟨rfl, by decide +kernel⟩ ⟨Nat.le_of_ble_eq_true rfl, Nat.le_of_ble_eq_true rfl⟩ rfl hl.1 rfl (Nat.le_of_ble_eq_true rfl) dX9_walk_37 ⟨Nat.le_of_ble_eq_true rfl, Nat.le_of_ble_eq_true rfl⟩) hP hD hS hA [] [0, 1] rfl rfl (by decide) (by decide) (fun r_12 u_11 H locs hwr_12 hP hD hS => ?_)
      have hP : va_P D classes [(h0, .inr (9, (.int 0 :: .ref (g 0) :: .ref (g 1) :: .ref (g 2) :: .ref (g 3) :: .int b5 :: .int b6 :: .int b7 :: .int b8 :: .int b9 :: .int b10 :: .int b11 :: .int b12 :: .int b13 :: .int b14 :: .ref (g 4) :: .ref (g 5) :: .int b17 :: .int b18 :: .int b19 :: .ref (g 6) :: .ref (g 7) :: .ref (g 8) :: .int b23 :: .int b24 :: .int b25 :: .int b26 :: .int b27 :: .ref (g 9) :: .int b29 :: .ref (g 10) :: .int b31 :: .int b32 :: .int b33 :: .ref (g 11) :: .ref (g 12) :: .ref (g 13) :: []))), ((g 0), .inl (cT 0, 288, .inl (a0)))] _ := hP
      have hD : va_D A [(h0, .inr (9, (.int 0 :: .ref (g 0) :: .ref (g 1) :: .ref (g 2) :: .ref (g 3) :: .int b5 :: .int b6 :: .int b7 :: .int b8 :: .int b9 :: .int b10 :: .int b11 :: .int b12 :: .int b13 :: .int b14 :: .ref (g 4) :: .ref (g 5) :: .int b17 :: .int b18 :: .int b19 :: .ref (g 6) :: .ref (g 7) :: .ref (g 8) :: .int b23 :: .int b24 :: .int b25 :: .int b26 :: .int b27 :: .ref (g 9) :: .int b29 :: .ref (g 10) :: .int b31 :: .int b32 :: .int b33 :: .ref (g 11) :: .ref (g 12) :: .ref (g 13) :: []))), ((g 0), .inl (cT 0, 288, .inl (a0)))] := hD
      have qr_12_0 : Imp (¬ r_12.toInt = 0) (0 ≤ z.toInt ∧ z.toInt ≤ z_8.toInt) := hwr_12.1
      have qr_12_1 : r_12 = 0 ∨ r_12 = 1 := hwr_12.2.1
      refine lv_if_ne (tgt := 46) hx hb dX9_walk_40 (by decide) (fun c_13 => ?_) (fun c_13 => ?_)
      · have ic_13 : ¬ r_12.toInt = 0 := ine c_13 (rfl) (by decide)
        have kqr_12_0 : 0 ≤ z.toInt ∧ z.toInt ≤ z_8.toInt := qr_12_0 ic_13
        refine lv_iload_n hx hb dX9_walk_46 rfl (lv_at hl 1 rfl) ?_
        refine lv_iload_n hx hb dX9_walk_47 rfl (lv_at hl 2 rfl) ?_
        refine lv_icmp_eq (tgt := 70) hx hb dX9_walk_48 (by decide) (fun c_14 => ?_) (fun c_14 => ?_)
        · have ic_14 : x.toInt = y.toInt := ieq c_14 (rfl) (rfl)
          refine lv_aload_n hx hb dX9_walk_70 rfl (lv_at hl 0 rfl) ?_
          refine va_get (D := D) (ci := 9) (v := .ref (g 0)) (C := RX9) (T := TX9) (N := 37) hx hb htg gRX9 hown hK hP 0 rfl rfl 1 (by decide) (htg _ wi_1151) (fun _ h9 => h9) rfl dX9_walk_71 ?_
          refine lv_bipush (v := 32) hx hb dX9_walk_74 (by decide) ?_
          refine lv_iload_n hx hb dX9_walk_76 rfl (lv_at hl 1 rfl) ?_
          refine lv_iadd hx hb dX9_walk_77 ?_
          refine lv_topi (fun z_15 ez_15 => ?_)
          have iz_15 : z_15.toInt = 32 + x.toInt := toInt_addI ez_15 (by decide) (rfl) (by omega)
          refine lv_dup2_11 hx hb dX9_walk_78 rfl rfl ?_
          refine va_iald hx hb hK hP 1 0 rfl rfl (vp_in_iff.mpr (by omega)) dX9_walk_79 ?_
          refine lv_topi (fun z_16 ez_16 => ?_)
          refine lv_iload_n hx hb dX9_walk_80 rfl (lv_at hl 3 rfl) ?_
          refine lv_isub hx hb dX9_walk_81 ?_
          refine lv_topi (fun z_17 ez_17 => ?_)
          refine va_iast hx hb hK hP hD hS 1 0 rfl rfl (vp_in_iff.mpr (by omega)) dX9_walk_82 (fun H locs hP hD hS => ?_)
          obtain ⟨f_18, ef_18, hP, hD⟩ : ∃ f_18 : Nat → Int32, f_18 = upd (a0) (z_15 : Int32).toNatClampNeg z_17 ∧ va_P D classes [(h0, .inr (9, (.int 0 :: .ref (g 0) :: .ref (g 1) :: .ref (g 2) :: .ref (g 3) :: .int b5 :: .int b6 :: .int b7 :: .int b8 :: .int b9 :: .int b10 :: .int b11 :: .int b12 :: .int b13 :: .int b14 :: .ref (g 4) :: .ref (g 5) :: .int b17 :: .int b18 :: .int b19 :: .ref (g 6) :: .ref (g 7) :: .ref (g 8) :: .int b23 :: .int b24 :: .int b25 :: .int b26 :: .int b27 :: .ref (g 9) :: .int b29 :: .ref (g 10) :: .int b31 :: .int b32 :: .int b33 :: .ref (g 11) :: .ref (g 12) :: .ref (g 13) :: []))), ((g 0), .inl (cT 0, 288, .inl (f_18)))] H ∧ va_D A [(h0, .inr (9, (.int 0 :: .ref (g 0) :: .ref (g 1) :: .ref (g 2) :: .ref (g 3) :: .int b5 :: .int b6 :: .int b7 :: .int b8 :: .int b9 :: .int b10 :: .int b11 :: .int b12 :: .int b13 :: .int b14 :: .ref (g 4) :: .ref (g 5) :: .int b17 :: .int b18 :: .int b19 :: .ref (g 6) :: .ref (g 7) :: .ref (g 8) :: .int b23 :: .int b24 :: .int b25 :: .int b26 :: .int b27 :: .ref (g 9) :: .int b29 :: .ref (g 10) :: .int b31 :: .int b32 :: .int b33 :: .ref (g 11) :: .ref (g 12) :: .ref (g 13) :: []))), ((g 0), .inl (cT 0, 288, .inl (f_18)))] := ⟨_, rfl, hP, hD⟩
          have qf_18 : PI 288 f_18 := by rw [ef_18]; exact pi_upd (a := z_15.toInt) (b := z_17.toInt) pa0 (rfl) (rfl) (by omega) (by unfold OKP; omega)
          refine lv_aload_n hx hb dX9_walk_83 rfl (lv_at hl 0 rfl) ?_
          refine va_get (D := D) (ci := 9) (v := .ref (g 0)) (C := RX9) (T := TX9) (N := 37) hx hb htg gRX9 hown hK hP 0 rfl rfl 1 (by decide) (htg _ wi_1151) (fun _ h9 => h9) rfl dX9_walk_84 ?_
          refine lv_bipush (v := 32) hx hb dX9_walk_87 (by decide) ?_
          refine lv_iload_n hx hb dX9_walk_89 rfl (lv_at hl 2 rfl) ?_
          refine lv_iadd hx hb dX9_walk_90 ?_
          refine lv_topi (fun z_19 ez_19 => ?_)
          have iz_19 : z_19.toInt = 32 + y.toInt := toInt_addI ez_19 (by decide) (rfl) (by omega)
          refine lv_dup2_11 hx hb dX9_walk_91 rfl rfl ?_
          refine va_iald hx hb hK hP 1 0 rfl rfl (vp_in_iff.mpr (by omega)) dX9_walk_92 ?_
          refine lv_topi (fun z_20 ez_20 => ?_)
          refine lv_iload_n hx hb dX9_walk_93 rfl (lv_at hl 3 rfl) ?_
          refine lv_iadd hx hb dX9_walk_94 ?_
          refine lv_topi (fun z_21 ez_21 => ?_)
          refine va_iast hx hb hK hP hD hS 1 0 rfl rfl (vp_in_iff.mpr (by omega)) dX9_walk_95 (fun H locs hP hD hS => ?_)
          obtain ⟨f_22, ef_22, hP, hD⟩ : ∃ f_22 : Nat → Int32, f_22 = upd (f_18) (z_19 : Int32).toNatClampNeg z_21 ∧ va_P D classes [(h0, .inr (9, (.int 0 :: .ref (g 0) :: .ref (g 1) :: .ref (g 2) :: .ref (g 3) :: .int b5 :: .int b6 :: .int b7 :: .int b8 :: .int b9 :: .int b10 :: .int b11 :: .int b12 :: .int b13 :: .int b14 :: .ref (g 4) :: .ref (g 5) :: .int b17 :: .int b18 :: .int b19 :: .ref (g 6) :: .ref (g 7) :: .ref (g 8) :: .int b23 :: .int b24 :: .int b25 :: .int b26 :: .int b27 :: .ref (g 9) :: .int b29 :: .ref (g 10) :: .int b31 :: .int b32 :: .int b33 :: .ref (g 11) :: .ref (g 12) :: .ref (g 13) :: []))), ((g 0), .inl (cT 0, 288, .inl (f_22)))] H ∧ va_D A [(h0, .inr (9, (.int 0 :: .ref (g 0) :: .ref (g 1) :: .ref (g 2) :: .ref (g 3) :: .int b5 :: .int b6 :: .int b7 :: .int b8 :: .int b9 :: .int b10 :: .int b11 :: .int b12 :: .int b13 :: .int b14 :: .ref (g 4) :: .ref (g 5) :: .int b17 :: .int b18 :: .int b19 :: .ref (g 6) :: .ref (g 7) :: .ref (g 8) :: .int b23 :: .int b24 :: .int b25 :: .int b26 :: .int b27 :: .ref (g 9) :: .int b29 :: .ref (g 10) :: .int b31 :: .int b32 :: .int b33 :: .ref (g 11) :: .ref (g 12) :: .ref (g 13) :: []))), ((g 0), .inl (cT 0, 288, .inl (f_22)))] := ⟨_, rfl, hP, hD⟩
          have qf_22 : PI 288 f_22 := by rw [ef_22]; exact pi_upd (a := z_19.toInt) (b := z_21.toInt) qf_18 (rfl) (rfl) (by omega) (by unfold OKP; omega)
          refine lv_iconst (v := 0) hx hb dX9_walk_96 (by decide) ?_
          exact x_iret hx hb hr hlk hP hD hS [0, 1] ((0, f_22)) rfl (by decide) ⟨by (try dsimp only); first | assumption | omega | decide | exact Or.inl (by decide) | (intro h9; exact absurd h9 (by decide)) | (intro _; omega) | (intro _; assumption) | (intro _; decide), trivial⟩ (by decide) (by decide) dX9_walk_97
        · have ic_14 : ¬ x.toInt = y.toInt := ine c_14 (rfl) (rfl)
          refine lv_aload_n hx hb dX9_walk_51 rfl (lv_at hl 0 rfl) ?_
          refine va_get (D := D) (ci := 9) (v := .ref (g 0)) (C := RX9) (T := TX9) (N := 37) hx hb htg gRX9 hown hK hP 0 rfl rfl 1 (by decide) (htg _ wi_1151) (fun _ h9 => h9) rfl dX9_walk_52 ?_
          refine lv_bipush (v := 32) hx hb dX9_walk_55 (by decide) ?_
          refine lv_iload_n hx hb dX9_walk_57 rfl (lv_at hl 2 rfl) ?_
          refine lv_iadd hx hb dX9_walk_58 ?_
          refine lv_topi (fun z_23 ez_23 => ?_)
          have iz_23 : z_23.toInt = 32 + y.toInt := toInt_addI ez_23 (by decide) (rfl) (by omega)
          refine va_iald hx hb hK hP 1 0 rfl rfl (vp_in_iff.mpr (by omega)) dX9_walk_59 ?_
          refine lv_topi (fun z_24 ez_24 => ?_)
          refine lv_iload_n hx hb dX9_walk_60 rfl (lv_at hl 3 rfl) ?_
          refine lv_iadd hx hb dX9_walk_61 ?_
          refine lv_topi (fun z_25 ez_25 => ?_)
          refine lv_bipush (v := 9) hx hb dX9_walk_62 (by decide) ?_
          refine lv_icmp_le (tgt := 70) hx hb dX9_walk_64 (by decide) (fun c_26 => ?_) (fun c_26 => ?_)
          · have ic_26 : z_25.toInt ≤ 9 := ile c_26 (rfl) (by decide)
            refine lv_aload_n hx hb dX9_walk_70 rfl (lv_at hl 0 rfl) ?_
            refine va_get (D := D) (ci := 9) (v := .ref (g 0)) (C := RX9) (T := TX9) (N := 37) hx hb htg gRX9 hown hK hP 0 rfl rfl 1 (by decide) (htg _ wi_1151) (fun _ h9 => h9) rfl dX9_walk_71 ?_
            refine lv_bipush (v := 32) hx hb dX9_walk_74 (by decide) ?_
            refine lv_iload_n hx hb dX9_walk_76 rfl (lv_at hl 1 rfl) ?_
            refine lv_iadd hx hb dX9_walk_77 ?_
            refine lv_topi (fun z_27 ez_27 => ?_)
            have iz_27 : z_27.toInt = 32 + x.toInt := toInt_addI ez_27 (by decide) (rfl) (by omega)
            refine lv_dup2_11 hx hb dX9_walk_78 rfl rfl ?_
            refine va_iald hx hb hK hP 1 0 rfl rfl (vp_in_iff.mpr (by omega)) dX9_walk_79 ?_
            refine lv_topi (fun z_28 ez_28 => ?_)
            refine lv_iload_n hx hb dX9_walk_80 rfl (lv_at hl 3 rfl) ?_
            refine lv_isub hx hb dX9_walk_81 ?_
            refine lv_topi (fun z_29 ez_29 => ?_)
            refine va_iast hx hb hK hP hD hS 1 0 rfl rfl (vp_in_iff.mpr (by omega)) dX9_walk_82 (fun H locs hP hD hS => ?_)
            obtain ⟨f_30, ef_30, hP, hD⟩ : ∃ f_30 : Nat → Int32, f_30 = upd (a0) (z_27 : Int32).toNatClampNeg z_29 ∧ va_P D classes [(h0, .inr (9, (.int 0 :: .ref (g 0) :: .ref (g 1) :: .ref (g 2) :: .ref (g 3) :: .int b5 :: .int b6 :: .int b7 :: .int b8 :: .int b9 :: .int b10 :: .int b11 :: .int b12 :: .int b13 :: .int b14 :: .ref (g 4) :: .ref (g 5) :: .int b17 :: .int b18 :: .int b19 :: .ref (g 6) :: .ref (g 7) :: .ref (g 8) :: .int b23 :: .int b24 :: .int b25 :: .int b26 :: .int b27 :: .ref (g 9) :: .int b29 :: .ref (g 10) :: .int b31 :: .int b32 :: .int b33 :: .ref (g 11) :: .ref (g 12) :: .ref (g 13) :: []))), ((g 0), .inl (cT 0, 288, .inl (f_30)))] H ∧ va_D A [(h0, .inr (9, (.int 0 :: .ref (g 0) :: .ref (g 1) :: .ref (g 2) :: .ref (g 3) :: .int b5 :: .int b6 :: .int b7 :: .int b8 :: .int b9 :: .int b10 :: .int b11 :: .int b12 :: .int b13 :: .int b14 :: .ref (g 4) :: .ref (g 5) :: .int b17 :: .int b18 :: .int b19 :: .ref (g 6) :: .ref (g 7) :: .ref (g 8) :: .int b23 :: .int b24 :: .int b25 :: .int b26 :: .int b27 :: .ref (g 9) :: .int b29 :: .ref (g 10) :: .int b31 :: .int b32 :: .int b33 :: .ref (g 11) :: .ref (g 12) :: .ref (g 13) :: []))), ((g 0), .inl (cT 0, 288, .inl (f_30)))] := ⟨_, rfl, hP, hD⟩
            have qf_30 : PI 288 f_30 := by rw [ef_30]; exact pi_upd (a := z_27.toInt) (b := z_29.toInt) pa0 (rfl) (rfl) (by omega) (by unfold OKP; omega)
            refine lv_aload_n hx hb dX9_walk_83 rfl (lv_at hl 0 rfl) ?_
            refine va_get (D := D) (ci := 9) (v := .ref (g 0)) (C := RX9) (T := TX9) (N := 37) hx hb htg gRX9 hown hK hP 0 rfl rfl 1 (by decide) (htg _ wi_1151) (fun _ h9 => h9) rfl dX9_walk_84 ?_
            refine lv_bipush (v := 32) hx hb dX9_walk_87 (by decide) ?_
            refine lv_iload_n hx hb dX9_walk_89 rfl (lv_at hl 2 rfl) ?_
            refine lv_iadd hx hb dX9_walk_90 ?_
            refine lv_topi (fun z_31 ez_31 => ?_)
            have iz_31 : z_31.toInt = 32 + y.toInt := toInt_addI ez_31 (by decide) (rfl) (by omega)
            refine lv_dup2_11 hx hb dX9_walk_91 rfl rfl ?_
            refine va_iald hx hb hK hP 1 0 rfl rfl (vp_in_iff.mpr (by omega)) dX9_walk_92 ?_
            refine lv_topi (fun z_32 ez_32 => ?_)
            refine lv_iload_n hx hb dX9_walk_93 rfl (lv_at hl 3 rfl) ?_
            refine lv_iadd hx hb dX9_walk_94 ?_
            refine lv_topi (fun z_33 ez_33 => ?_)
            refine va_iast hx hb hK hP hD hS 1 0 rfl rfl (vp_in_iff.mpr (by omega)) dX9_walk_95 (fun H locs hP hD hS => ?_)
            obtain ⟨f_34, ef_34, hP, hD⟩ : ∃ f_34 : Nat → Int32, f_34 = upd (f_30) (z_31 : Int32).toNatClampNeg z_33 ∧ va_P D classes [(h0, .inr (9, (.int 0 :: .ref (g 0) :: .ref (g 1) :: .ref (g 2) :: .ref (g 3) :: .int b5 :: .int b6 :: .int b7 :: .int b8 :: .int b9 :: .int b10 :: .int b11 :: .int b12 :: .int b13 :: .int b14 :: .ref (g 4) :: .ref (g 5) :: .int b17 :: .int b18 :: .int b19 :: .ref (g 6) :: .ref (g 7) :: .ref (g 8) :: .int b23 :: .int b24 :: .int b25 :: .int b26 :: .int b27 :: .ref (g 9) :: .int b29 :: .ref (g 10) :: .int b31 :: .int b32 :: .int b33 :: .ref (g 11) :: .ref (g 12) :: .ref (g 13) :: []))), ((g 0), .inl (cT 0, 288, .inl (f_34)))] H ∧ va_D A [(h0, .inr (9, (.int 0 :: .ref (g 0) :: .ref (g 1) :: .ref (g 2) :: .ref (g 3) :: .int b5 :: .int b6 :: .int b7 :: .int b8 :: .int b9 :: .int b10 :: .int b11 :: .int b12 :: .int b13 :: .int b14 :: .ref (g 4) :: .ref (g 5) :: .int b17 :: .int b18 :: .int b19 :: .ref (g 6) :: .ref (g 7) :: .ref (g 8) :: .int b23 :: .int b24 :: .int b25 :: .int b26 :: .int b27 :: .ref (g 9) :: .int b29 :: .ref (g 10) :: .int b31 :: .int b32 :: .int b33 :: .ref (g 11) :: .ref (g 12) :: .ref (g 13) :: []))), ((g 0), .inl (cT 0, 288, .inl (f_34)))] := ⟨_, rfl, hP, hD⟩
            have qf_34 : PI 288 f_34 := by rw [ef_34]; exact pi_upd (a := z_31.toInt) (b := z_33.toInt) qf_30 (rfl) (rfl) (by omega) (by unfold OKP; omega)
            refine lv_iconst (v := 0) hx hb dX9_walk_96 (by decide) ?_
            exact x_iret hx hb hr hlk hP hD hS [0, 1] ((0, f_34)) rfl (by decide) ⟨by (try dsimp only); first | assumption | omega | decide | exact Or.inl (by decide) | (intro h9; exact absurd h9 (by decide)) | (intro _; omega) | (intro _; assumption) | (intro _; decide), trivial⟩ (by decide) (by decide) dX9_walk_97
          · have ic_26 : 9 < z_25.toInt := inle c_26 (rfl) (by decide)
            refine lv_bipush (v := (-4)) hx hb dX9_walk_67 (by decide) ?_
            exact x_iret hx hb hr hlk hP hD hS [0, 1] ((0, a0)) rfl (by decide) ⟨by (try dsimp only); first | assumption | omega | decide | exact Or.inl (by decide) | (intro h9; exact absurd h9 (by decide)) | (intro _; omega) | (intro _; assumption) | (intro _; decide), trivial⟩ (by decide) (by decide) dX9_walk_69
      · have ic_13 : r_12.toInt = 0 := ieq c_13 (rfl) (by decide)
        refine lv_bipush (v := (-3)) hx hb dX9_walk_43 (by decide) ?_
        exact x_iret hx hb hr hlk hP hD hS [0, 1] ((0, a0)) rfl (by decide) ⟨by (try dsimp only); first | assumption | omega | decide | exact Or.inl (by decide) | (intro h9; exact absurd h9 (by decide)) | (intro _; omega) | (intro _; assumption) | (intro _; decide), trivial⟩ (by decide) (by decide) dX9_walk_45
    · have ic_6 : r_5.toInt = 0 := ieq c_6 (rfl) (by decide)
      refine lv_bipush (v := (-2)) hx hb dX9_walk_21 (by decide) ?_
      exact x_iret hx hb hr hlk hP hD hS [0, 1] ((0, a0)) rfl (by decide) ⟨by (try dsimp only); first | assumption | omega | decide | exact Or.inl (by decide) | (intro h9; exact absurd h9 (by decide)) | (intro _; omega) | (intro _; assumption) | (intro _; decide), trivial⟩ (by decide) (by decide) dX9_walk_23
set_option maxHeartbeats 4000000 in
set_option maxRecDepth 100000 in
theorem m_total (l : Launch) (D : va_G) (cT : Nat → ClassId) (sz : Nat) (h0 : Nat) (g : Nat → Nat) (b0 : Int32) (b5 : Int32) (b6 : Int32) (b7 : Int32) (b8 : Int32) (b9 : Int32) (b10 : Int32) (b11 : Int32) (b12 : Int32) (b13 : Int32) (b14 : Int32) (b17 : Int32) (b18 : Int32) (b19 : Int32) (b23 : Int32) (b24 : Int32) (b25 : Int32) (b26 : Int32) (b27 : Int32) (b29 : Int32) (b31 : Int32) (b32 : Int32) (b33 : Int32) (hb5 : 0 ≤ b5.toInt ∧ b5.toInt ≤ 900) (a4 : Nat → Int32) : Met l yX9_total (wsc yX9_total cX9_total 3 (some .int)) { frames := 2, cells := 0, slots := 0, locals := 100 } (va_Pc [.ref h0] (PX D cT sz [(h0, .inr (9, (.int b0 :: .ref (g 0) :: .ref (g 1) :: .ref (g 2) :: .ref (g 3) :: .int b5 :: .int b6 :: .int b7 :: .int b8 :: .int b9 :: .int b10 :: .int b11 :: .int b12 :: .int b13 :: .int b14 :: .ref (g 4) :: .ref (g 5) :: .int b17 :: .int b18 :: .int b19 :: .ref (g 6) :: .ref (g 7) :: .ref (g 8) :: .int b23 :: .int b24 :: .int b25 :: .int b26 :: .int b27 :: .ref (g 9) :: .int b29 :: .ref (g 10) :: .int b31 :: .int b32 :: .int b33 :: .ref (g 11) :: .ref (g 12) :: .ref (g 13) :: []))), ((g 4), .inl (cT 0, 6, .inl (a4)))])) (va_Qi (fun (r : Int32) (u : Unit) => (True)) (fun u t => RW D (va_A [(h0, .inr (9, (.int b0 :: .ref (g 0) :: .ref (g 1) :: .ref (g 2) :: .ref (g 3) :: .int b5 :: .int b6 :: .int b7 :: .int b8 :: .int b9 :: .int b10 :: .int b11 :: .int b12 :: .int b13 :: .int b14 :: .ref (g 4) :: .ref (g 5) :: .int b17 :: .int b18 :: .int b19 :: .ref (g 6) :: .ref (g 7) :: .ref (g 8) :: .int b23 :: .int b24 :: .int b25 :: .int b26 :: .int b27 :: .ref (g 9) :: .int b29 :: .ref (g 10) :: .int b31 :: .int b32 :: .int b33 :: .ref (g 11) :: .ref (g 12) :: .ref (g 13) :: []))), ((g 4), .inl (cT 0, 6, .inl (a4)))] sz) ((fun _ : Unit => [(h0, .inr (9, (.int b0 :: .ref (g 0) :: .ref (g 1) :: .ref (g 2) :: .ref (g 3) :: .int b5 :: .int b6 :: .int b7 :: .int b8 :: .int b9 :: .int b10 :: .int b11 :: .int b12 :: .int b13 :: .int b14 :: .ref (g 4) :: .ref (g 5) :: .int b17 :: .int b18 :: .int b19 :: .ref (g 6) :: .ref (g 7) :: .ref (g 8) :: .int b23 :: .int b24 :: .int b25 :: .int b26 :: .int b27 :: .ref (g 9) :: .int b29 :: .ref (g 10) :: .int b31 :: .int b32 :: .int b33 :: .ref (g 11) :: .ref (g 12) :: .ref (g 13) :: []))), ((g 4), .inl (cT 0, 6, .inl (a4)))]) u) t) (va_A [(h0, .inr (9, (.int b0 :: .ref (g 0) :: .ref (g 1) :: .ref (g 2) :: .ref (g 3) :: .int b5 :: .int b6 :: .int b7 :: .int b8 :: .int b9 :: .int b10 :: .int b11 :: .int b12 :: .int b13 :: .int b14 :: .ref (g 4) :: .ref (g 5) :: .int b17 :: .int b18 :: .int b19 :: .ref (g 6) :: .ref (g 7) :: .ref (g 8) :: .int b23 :: .int b24 :: .int b25 :: .int b26 :: .int b27 :: .ref (g 9) :: .int b29 :: .ref (g 10) :: .int b31 :: .int b32 :: .int b33 :: .ref (g 11) :: .ref (g 12) :: .ref (g 13) :: []))), ((g 4), .inl (cT 0, 6, .inl (a4)))] sz)) 0 0 (va_A [(h0, .inr (9, (.int b0 :: .ref (g 0) :: .ref (g 1) :: .ref (g 2) :: .ref (g 3) :: .int b5 :: .int b6 :: .int b7 :: .int b8 :: .int b9 :: .int b10 :: .int b11 :: .int b12 :: .int b13 :: .int b14 :: .ref (g 4) :: .ref (g 5) :: .int b17 :: .int b18 :: .int b19 :: .ref (g 6) :: .ref (g 7) :: .ref (g 8) :: .int b23 :: .int b24 :: .int b25 :: .int b26 :: .int b27 :: .ref (g 9) :: .int b29 :: .ref (g 10) :: .int b31 :: .int b32 :: .int b33 :: .ref (g 11) :: .ref (g 12) :: .ref (g 13) :: []))), ((g 4), .inl (cT 0, 6, .inl (a4)))] sz) := by
  refine m_of (y := yX9_total) (cc := cX9_total) (nL := 3) (ret := (some .int)) (D := D) (cT := cT) (av := [.ref h0]) (wi := [(h0, .inr (9, (.int b0 :: .ref (g 0) :: .ref (g 1) :: .ref (g 2) :: .ref (g 3) :: .int b5 :: .int b6 :: .int b7 :: .int b8 :: .int b9 :: .int b10 :: .int b11 :: .int b12 :: .int b13 :: .int b14 :: .ref (g 4) :: .ref (g 5) :: .int b17 :: .int b18 :: .int b19 :: .ref (g 6) :: .ref (g 7) :: .ref (g 8) :: .int b23 :: .int b24 :: .int b25 :: .int b26 :: .int b27 :: .ref (g 9) :: .int b29 :: .ref (g 10) :: .int b31 :: .int b32 :: .int b33 :: .ref (g 11) :: .ref (g 12) :: .ref (g 13) :: []))), ((g 4), .inl (cT 0, 6, .inl (a4)))]) (fun A => va_Qi (fun (r : Int32) (u : Unit) => (True)) (fun u t => RW D A ((fun _ : Unit => [(h0, .inr (9, (.int b0 :: .ref (g 0) :: .ref (g 1) :: .ref (g 2) :: .ref (g 3) :: .int b5 :: .int b6 :: .int b7 :: .int b8 :: .int b9 :: .int b10 :: .int b11 :: .int b12 :: .int b13 :: .int b14 :: .ref (g 4) :: .ref (g 5) :: .int b17 :: .int b18 :: .int b19 :: .ref (g 6) :: .ref (g 7) :: .ref (g 8) :: .int b23 :: .int b24 :: .int b25 :: .int b26 :: .int b27 :: .ref (g 9) :: .int b29 :: .ref (g 10) :: .int b31 :: .int b32 :: .int b33 :: .ref (g 11) :: .ref (g 12) :: .ref (g 13) :: []))), ((g 4), .inl (cT 0, 6, .inl (a4)))]) u) t) A) (by decide) (Nat.le_of_ble_eq_true rfl) ?_
  intro p e s m below meth c A hx hb hml hown htg hK hN hr hlk hnm hsz hP hD hS hA ls hl
  have hown : s.vm.findClass RX9 = some m.cls := hown
  have hl : lv_has ls 3 [(0, .ref h0)] := hl
  have tc_0 : (0 : Int32).toInt = 0 := by decide
  have tc_6 : (6 : Int32).toInt = 6 := by decide
  refine lv_iconst (v := 0) hx hb dX9_total_0 (by decide) ?_
  refine lv_istore_n (lv' := [(1, .int 0), (0, .ref h0)]) hx hb dX9_total_1 rfl hl (by decide) rfl (fun ls hl => ?_)
  refine lv_iconst (v := 0) hx hb dX9_total_2 (by decide) ?_
  refine lv_istore_n (lv' := [(2, .int 0), (1, .int 0), (0, .ref h0)]) hx hb dX9_total_3 rfl hl (by decide) rfl (fun ls hl => ?_)
  refine (fun (key : ∀ (n9_4 : Nat) (k9_4 : Nat) (x9_4_1 : Int32) (H : Heap) (locs : List Loc) (ls : Array Slot), (k9_4 : Int) ≤ 6 → 6 < (k9_4 : Int) + n9_4 → va_P D classes [(h0, .inr (9, (.int b0 :: .ref (g 0) :: .ref (g 1) :: .ref (g 2) :: .ref (g 3) :: .int b5 :: .int b6 :: .int b7 :: .int b8 :: .int b9 :: .int b10 :: .int b11 :: .int b12 :: .int b13 :: .int b14 :: .ref (g 4) :: .ref (g 5) :: .int b17 :: .int b18 :: .int b19 :: .ref (g 6) :: .ref (g 7) :: .ref (g 8) :: .int b23 :: .int b24 :: .int b25 :: .int b26 :: .int b27 :: .ref (g 9) :: .int b29 :: .ref (g 10) :: .int b31 :: .int b32 :: .int b33 :: .ref (g 11) :: .ref (g 12) :: .ref (g 13) :: []))), ((g 4), .inl (cT 0, 6, .inl (a4)))] H → va_D A [(h0, .inr (9, (.int b0 :: .ref (g 0) :: .ref (g 1) :: .ref (g 2) :: .ref (g 3) :: .int b5 :: .int b6 :: .int b7 :: .int b8 :: .int b9 :: .int b10 :: .int b11 :: .int b12 :: .int b13 :: .int b14 :: .ref (g 4) :: .ref (g 5) :: .int b17 :: .int b18 :: .int b19 :: .ref (g 6) :: .ref (g 7) :: .ref (g 8) :: .int b23 :: .int b24 :: .int b25 :: .int b26 :: .int b27 :: .ref (g 9) :: .int b29 :: .ref (g 10) :: .int b31 :: .int b32 :: .int b33 :: .ref (g 11) :: .ref (g 12) :: .ref (g 13) :: []))), ((g 4), .inl (cT 0, 6, .inl (a4)))] → va_S A s.heap H locs → lv_has ls 3 [(2, .int (nI k9_4)), (1, .int x9_4_1), (0, .ref h0)] → W p l e _ s m _ below meth c H locs _ _ _ (F0 m 4 ls [])) => key (Int.toNat (6 - 0) + 1) 0 _ _ _ _ (by omega) (by omega)  hP hD hS (lv_sub hl [0, 1, 2] rfl)) ?_
  intro n9_4
  induction n9_4 with
  | zero => intro k9_4 x9_4_1 H locs ls hq1 hq2; exact absurd hq2 (by omega)
  | succ n9_4 ih_4 =>
    intro k9_4 x9_4_1 H locs ls hq1_4 hq2_4  hP hD hS hl
    have hk9_4 : (nI k9_4).toInt = (k9_4 : Int) := nI_toInt (by omega)
    refine lv_iload_n hx hb dX9_total_4 rfl (lv_at hl 0 rfl) ?_
    refine lv_bipush (v := 6) hx hb dX9_total_5 (by decide) ?_
    refine lv_icmp_ge (tgt := 25) hx hb dX9_total_7 (by decide) (fun c_1 => ?_) (fun c_1 => ?_)
    · have ic_1 : 6 ≤ ((k9_4 : Nat) : Int) := ile c_1 (by decide) (nI_toInt (by omega))
      refine lv_iload_n hx hb dX9_total_25 rfl (lv_at hl 1 rfl) ?_
      exact x_iret hx hb hr hlk hP hD hS [0, 1] (()) rfl (by decide) trivial (by decide) (by decide) dX9_total_26
    · have ic_1 : ((k9_4 : Nat) : Int) < 6 := inle c_1 (by decide) (nI_toInt (by omega))
      refine lv_iload_n hx hb dX9_total_10 rfl (lv_at hl 1 rfl) ?_
      refine lv_aload_n hx hb dX9_total_11 rfl (lv_at hl 2 rfl) ?_
      refine va_get (D := D) (ci := 9) (v := .ref (g 4)) (C := RX9) (T := TX9) (N := 37) hx hb htg gRX9 hown hK hP 0 rfl rfl 15 (by decide) (htg _ wi_1165) (fun _ h9 => h9) rfl dX9_total_12 ?_
      refine lv_iload_n hx hb dX9_total_15 rfl (lv_at hl 0 rfl) ?_
      refine va_iald hx hb hK hP 1 0 rfl rfl (vp_in_nI (by omega) (by omega)) dX9_total_16 ?_
      refine lv_topi (fun z_2 ez_2 => ?_)
      refine lv_iadd hx hb dX9_total_17 ?_
      refine lv_topi (fun z_3 ez_3 => ?_)
      refine lv_istore_n (lv' := [(1, .int z_3), (2, .int (nI k9_4)), (0, .ref h0)]) hx hb dX9_total_18 rfl hl (by decide) rfl (fun ls hl => ?_)
      refine lv_iinc (v := (nI (k9_4 + 1))) (lv' := [(2, .int (nI (k9_4 + 1))), (1, .int z_3), (0, .ref h0)]) hx hb dX9_total_19 hl (k := 1) rfl (by exact nI_1 (k9_4)) (by decide) rfl (fun ls hl => ?_)
      refine lv_goto (tgt := 4) hx hb dX9_total_22 (by decide) ?_
      exact ih_4 (k9_4 + 1) _ _ _ _ (by omega) (by omega)  (hP.sub [0, 1] rfl) (hD.sub [0, 1] (by decide) rfl) hS (lv_sub hl [0, 1, 2] rfl)
set_option maxHeartbeats 4000000 in
set_option maxRecDepth 100000 in
theorem m_firstWorth (l : Launch) (D : va_G) (cT : Nat → ClassId) (sz : Nat) (h0 : Nat) (g : Nat → Nat) (b0 : Int32) (b5 : Int32) (b6 : Int32) (b7 : Int32) (b8 : Int32) (b9 : Int32) (b10 : Int32) (b11 : Int32) (b12 : Int32) (b13 : Int32) (b14 : Int32) (b17 : Int32) (b18 : Int32) (b19 : Int32) (b23 : Int32) (b24 : Int32) (b25 : Int32) (b26 : Int32) (b27 : Int32) (b29 : Int32) (b31 : Int32) (b32 : Int32) (b33 : Int32) (hb5 : 0 ≤ b5.toInt ∧ b5.toInt ≤ 900) (a0 : Nat → Int32) (pa0 : PI 288 a0) (a4 : Nat → Int32) (hb24 : 0 ≤ b24.toInt ∧ b24.toInt ≤ 5) : Met l yX9_firstWorth (wsc yX9_firstWorth cX9_firstWorth 4 (some .int)) { frames := 3, cells := 0, slots := 0, locals := 123 } (va_Pc [.ref h0] (PX D cT sz [(h0, .inr (9, (.int b0 :: .ref (g 0) :: .ref (g 1) :: .ref (g 2) :: .ref (g 3) :: .int b5 :: .int b6 :: .int b7 :: .int b8 :: .int b9 :: .int b10 :: .int b11 :: .int b12 :: .int b13 :: .int b14 :: .ref (g 4) :: .ref (g 5) :: .int b17 :: .int b18 :: .int b19 :: .ref (g 6) :: .ref (g 7) :: .ref (g 8) :: .int b23 :: .int b24 :: .int b25 :: .int b26 :: .int b27 :: .ref (g 9) :: .int b29 :: .ref (g 10) :: .int b31 :: .int b32 :: .int b33 :: .ref (g 11) :: .ref (g 12) :: .ref (g 13) :: []))), ((g 0), .inl (cT 0, 288, .inl (a0))), ((g 4), .inl (cT 0, 6, .inl (a4)))])) (va_Qi (fun (r : Int32) (u : Unit) => (True)) (fun u t => RW D (va_A [(h0, .inr (9, (.int b0 :: .ref (g 0) :: .ref (g 1) :: .ref (g 2) :: .ref (g 3) :: .int b5 :: .int b6 :: .int b7 :: .int b8 :: .int b9 :: .int b10 :: .int b11 :: .int b12 :: .int b13 :: .int b14 :: .ref (g 4) :: .ref (g 5) :: .int b17 :: .int b18 :: .int b19 :: .ref (g 6) :: .ref (g 7) :: .ref (g 8) :: .int b23 :: .int b24 :: .int b25 :: .int b26 :: .int b27 :: .ref (g 9) :: .int b29 :: .ref (g 10) :: .int b31 :: .int b32 :: .int b33 :: .ref (g 11) :: .ref (g 12) :: .ref (g 13) :: []))), ((g 0), .inl (cT 0, 288, .inl (a0))), ((g 4), .inl (cT 0, 6, .inl (a4)))] sz) ((fun _ : Unit => [(h0, .inr (9, (.int b0 :: .ref (g 0) :: .ref (g 1) :: .ref (g 2) :: .ref (g 3) :: .int b5 :: .int b6 :: .int b7 :: .int b8 :: .int b9 :: .int b10 :: .int b11 :: .int b12 :: .int b13 :: .int b14 :: .ref (g 4) :: .ref (g 5) :: .int b17 :: .int b18 :: .int b19 :: .ref (g 6) :: .ref (g 7) :: .ref (g 8) :: .int b23 :: .int b24 :: .int b25 :: .int b26 :: .int b27 :: .ref (g 9) :: .int b29 :: .ref (g 10) :: .int b31 :: .int b32 :: .int b33 :: .ref (g 11) :: .ref (g 12) :: .ref (g 13) :: []))), ((g 0), .inl (cT 0, 288, .inl (a0))), ((g 4), .inl (cT 0, 6, .inl (a4)))]) u) t) (va_A [(h0, .inr (9, (.int b0 :: .ref (g 0) :: .ref (g 1) :: .ref (g 2) :: .ref (g 3) :: .int b5 :: .int b6 :: .int b7 :: .int b8 :: .int b9 :: .int b10 :: .int b11 :: .int b12 :: .int b13 :: .int b14 :: .ref (g 4) :: .ref (g 5) :: .int b17 :: .int b18 :: .int b19 :: .ref (g 6) :: .ref (g 7) :: .ref (g 8) :: .int b23 :: .int b24 :: .int b25 :: .int b26 :: .int b27 :: .ref (g 9) :: .int b29 :: .ref (g 10) :: .int b31 :: .int b32 :: .int b33 :: .ref (g 11) :: .ref (g 12) :: .ref (g 13) :: []))), ((g 0), .inl (cT 0, 288, .inl (a0))), ((g 4), .inl (cT 0, 6, .inl (a4)))] sz)) 0 0 (va_A [(h0, .inr (9, (.int b0 :: .ref (g 0) :: .ref (g 1) :: .ref (g 2) :: .ref (g 3) :: .int b5 :: .int b6 :: .int b7 :: .int b8 :: .int b9 :: .int b10 :: .int b11 :: .int b12 :: .int b13 :: .int b14 :: .ref (g 4) :: .ref (g 5) :: .int b17 :: .int b18 :: .int b19 :: .ref (g 6) :: .ref (g 7) :: .ref (g 8) :: .int b23 :: .int b24 :: .int b25 :: .int b26 :: .int b27 :: .ref (g 9) :: .int b29 :: .ref (g 10) :: .int b31 :: .int b32 :: .int b33 :: .ref (g 11) :: .ref (g 12) :: .ref (g 13) :: []))), ((g 0), .inl (cT 0, 288, .inl (a0))), ((g 4), .inl (cT 0, 6, .inl (a4)))] sz) := by
  refine m_of (y := yX9_firstWorth) (cc := cX9_firstWorth) (nL := 4) (ret := (some .int)) (D := D) (cT := cT) (av := [.ref h0]) (wi := [(h0, .inr (9, (.int b0 :: .ref (g 0) :: .ref (g 1) :: .ref (g 2) :: .ref (g 3) :: .int b5 :: .int b6 :: .int b7 :: .int b8 :: .int b9 :: .int b10 :: .int b11 :: .int b12 :: .int b13 :: .int b14 :: .ref (g 4) :: .ref (g 5) :: .int b17 :: .int b18 :: .int b19 :: .ref (g 6) :: .ref (g 7) :: .ref (g 8) :: .int b23 :: .int b24 :: .int b25 :: .int b26 :: .int b27 :: .ref (g 9) :: .int b29 :: .ref (g 10) :: .int b31 :: .int b32 :: .int b33 :: .ref (g 11) :: .ref (g 12) :: .ref (g 13) :: []))), ((g 0), .inl (cT 0, 288, .inl (a0))), ((g 4), .inl (cT 0, 6, .inl (a4)))]) (fun A => va_Qi (fun (r : Int32) (u : Unit) => (True)) (fun u t => RW D A ((fun _ : Unit => [(h0, .inr (9, (.int b0 :: .ref (g 0) :: .ref (g 1) :: .ref (g 2) :: .ref (g 3) :: .int b5 :: .int b6 :: .int b7 :: .int b8 :: .int b9 :: .int b10 :: .int b11 :: .int b12 :: .int b13 :: .int b14 :: .ref (g 4) :: .ref (g 5) :: .int b17 :: .int b18 :: .int b19 :: .ref (g 6) :: .ref (g 7) :: .ref (g 8) :: .int b23 :: .int b24 :: .int b25 :: .int b26 :: .int b27 :: .ref (g 9) :: .int b29 :: .ref (g 10) :: .int b31 :: .int b32 :: .int b33 :: .ref (g 11) :: .ref (g 12) :: .ref (g 13) :: []))), ((g 0), .inl (cT 0, 288, .inl (a0))), ((g 4), .inl (cT 0, 6, .inl (a4)))]) u) t) A) (by decide) (Nat.le_of_ble_eq_true rfl) ?_
  intro p e s m below meth c A hx hb hml hown htg hK hN hr hlk hnm hsz hP hD hS hA ls hl
  have hown : s.vm.findClass RX9 = some m.cls := hown
  have hl : lv_has ls 4 [(0, .ref h0)] := hl
  have tc_m1 : ((-1) : Int32).toInt = (-1) := by decide
  have tc_0 : (0 : Int32).toInt = 0 := by decide
  have tc_1 : (1 : Int32).toInt = 1 := by decide
  have tc_3 : (3 : Int32).toInt = 3 := by decide
  have tc_6 : (6 : Int32).toInt = 6 := by decide
  have tc_10 : (10 : Int32).toInt = 10 := by decide
  refine lv_aload_n hx hb dX9_firstWorth_0 rfl (lv_at hl 0 rfl) ?_
  refine va_get (D := D) (ci := 9) (v := .int b23) (C := RX9) (T := TX9) (N := 37) hx hb htg gRX9 hown hK hP 0 rfl rfl 23 (by decide) (htg _ wi_1173) (fun _ h9 => h9) rfl dX9_firstWorth_1 ?_
  refine lv_if_ne (tgt := 12) hx hb dX9_firstWorth_4 (by decide) (fun c_1 => ?_) (fun c_1 => ?_)
  · have ic_1 : ¬ b23.toInt = 0 := ine c_1 (rfl) (by decide)
    refine lv_aload_n hx hb dX9_firstWorth_12 rfl (lv_at hl 0 rfl) ?_
    refine va_get (D := D) (ci := 9) (v := .int b23) (C := RX9) (T := TX9) (N := 37) hx hb htg gRX9 hown hK hP 0 rfl rfl 23 (by decide) (htg _ wi_1173) (fun _ h9 => h9) rfl dX9_firstWorth_13 ?_
    refine lv_iconst (v := 3) hx hb dX9_firstWorth_16 (by decide) ?_
    refine lv_icmp_ne (tgt := 30) hx hb dX9_firstWorth_17 (by decide) (fun c_2 => ?_) (fun c_2 => ?_)
    · have ic_2 : ¬ b23.toInt = 3 := ine c_2 (rfl) (by decide)
      refine lv_iconst (v := 0) hx hb dX9_firstWorth_30 (by decide) ?_
      refine lv_istore_n (lv' := [(1, .int 0), (0, .ref h0)]) hx hb dX9_firstWorth_31 rfl hl (by decide) rfl (fun ls hl => ?_)
      refine lv_iconst (v := (-1)) hx hb dX9_firstWorth_32 (by decide) ?_
      refine lv_istore_n (lv' := [(2, .int (-1)), (1, .int 0), (0, .ref h0)]) hx hb dX9_firstWorth_33 rfl hl (by decide) rfl (fun ls hl => ?_)
      refine lv_iconst (v := 0) hx hb dX9_firstWorth_34 (by decide) ?_
      refine lv_istore_n (lv' := [(3, .int 0), (2, .int (-1)), (1, .int 0), (0, .ref h0)]) hx hb dX9_firstWorth_35 rfl hl (by decide) rfl (fun ls hl => ?_)
      refine (fun (key : ∀ (n9_36 : Nat) (k9_36 : Nat) (x9_36_2 : Int32) (x9_36_1 : Int32) (H : Heap) (locs : List Loc) (ls : Array Slot), (k9_36 : Int) ≤ 6 → 6 < (k9_36 : Int) + n9_36 → va_P D classes [(h0, .inr (9, (.int b0 :: .ref (g 0) :: .ref (g 1) :: .ref (g 2) :: .ref (g 3) :: .int b5 :: .int b6 :: .int b7 :: .int b8 :: .int b9 :: .int b10 :: .int b11 :: .int b12 :: .int b13 :: .int b14 :: .ref (g 4) :: .ref (g 5) :: .int b17 :: .int b18 :: .int b19 :: .ref (g 6) :: .ref (g 7) :: .ref (g 8) :: .int b23 :: .int b24 :: .int b25 :: .int b26 :: .int b27 :: .ref (g 9) :: .int b29 :: .ref (g 10) :: .int b31 :: .int b32 :: .int b33 :: .ref (g 11) :: .ref (g 12) :: .ref (g 13) :: []))), ((g 0), .inl (cT 0, 288, .inl (a0))), ((g 4), .inl (cT 0, 6, .inl (a4)))] H → va_D A [(h0, .inr (9, (.int b0 :: .ref (g 0) :: .ref (g 1) :: .ref (g 2) :: .ref (g 3) :: .int b5 :: .int b6 :: .int b7 :: .int b8 :: .int b9 :: .int b10 :: .int b11 :: .int b12 :: .int b13 :: .int b14 :: .ref (g 4) :: .ref (g 5) :: .int b17 :: .int b18 :: .int b19 :: .ref (g 6) :: .ref (g 7) :: .ref (g 8) :: .int b23 :: .int b24 :: .int b25 :: .int b26 :: .int b27 :: .ref (g 9) :: .int b29 :: .ref (g 10) :: .int b31 :: .int b32 :: .int b33 :: .ref (g 11) :: .ref (g 12) :: .ref (g 13) :: []))), ((g 0), .inl (cT 0, 288, .inl (a0))), ((g 4), .inl (cT 0, 6, .inl (a4)))] → va_S A s.heap H locs → lv_has ls 4 [(3, .int (nI k9_36)), (2, .int x9_36_2), (1, .int x9_36_1), (0, .ref h0)] → W p l e _ s m _ below meth c H locs _ _ _ (F0 m 36 ls [])) => key (Int.toNat (6 - 0) + 1) 0 _ _ _ _ _ (by omega) (by omega)  hP hD hS (lv_sub hl [0, 1, 2, 3] rfl)) ?_
      intro n9_36
      induction n9_36 with
      | zero => intro k9_36 x9_36_2 x9_36_1 H locs ls hq1 hq2; exact absurd hq2 (by omega)
      | succ n9_36 ih_36 =>
        intro k9_36 x9_36_2 x9_36_1 H locs ls hq1_36 hq2_36  hP hD hS hl
        have hk9_36 : (nI k9_36).toInt = (k9_36 : Int) := nI_toInt (by omega)
        refine lv_iload_n hx hb dX9_firstWorth_36 rfl (lv_at hl 0 rfl) ?_
        refine lv_bipush (v := 6) hx hb dX9_firstWorth_37 (by decide) ?_
        refine lv_icmp_ge (tgt := 97) hx hb dX9_firstWorth_39 (by decide) (fun c_3 => ?_) (fun c_3 => ?_)
        · have ic_3 : 6 ≤ ((k9_36 : Nat) : Int) := ile c_3 (by decide) (nI_toInt (by omega))
          refine lv_aload_n hx hb dX9_firstWorth_97 rfl (lv_at hl 3 rfl) ?_
          refine va_get (D := D) (ci := 9) (v := .int b23) (C := RX9) (T := TX9) (N := 37) hx hb htg gRX9 hown hK hP 0 rfl rfl 23 (by decide) (htg _ wi_1173) (fun _ h9 => h9) rfl dX9_firstWorth_98 ?_
          refine lv_iconst (v := 1) hx hb dX9_firstWorth_101 (by decide) ?_
          refine lv_icmp_ne (tgt := 109) hx hb dX9_firstWorth_102 (by decide) (fun c_4 => ?_) (fun c_4 => ?_)
          · have ic_4 : ¬ b23.toInt = 1 := ine c_4 (rfl) (by decide)
            refine lv_iload_n hx hb dX9_firstWorth_109 rfl (lv_at hl 1 rfl) ?_
            exact x_iret hx hb hr hlk hP hD hS [0, 1, 2] (()) rfl (by decide) trivial (by decide) (by decide) dX9_firstWorth_110
          · have ic_4 : b23.toInt = 1 := ieq c_4 (rfl) (by decide)
            refine lv_iload_n hx hb dX9_firstWorth_105 rfl (lv_at hl 2 rfl) ?_
            refine lv_goto (tgt := 110) hx hb dX9_firstWorth_106 (by decide) ?_
            exact x_iret hx hb hr hlk hP hD hS [0, 1, 2] (()) rfl (by decide) trivial (by decide) (by decide) dX9_firstWorth_110
        · have ic_3 : ((k9_36 : Nat) : Int) < 6 := inle c_3 (by decide) (nI_toInt (by omega))
          refine lv_iload_n hx hb dX9_firstWorth_42 rfl (lv_at hl 2 rfl) ?_
          refine lv_aload_n hx hb dX9_firstWorth_43 rfl (lv_at hl 3 rfl) ?_
          refine va_get (D := D) (ci := 9) (v := .ref (g 4)) (C := RX9) (T := TX9) (N := 37) hx hb htg gRX9 hown hK hP 0 rfl rfl 15 (by decide) (htg _ wi_1165) (fun _ h9 => h9) rfl dX9_firstWorth_44 ?_
          refine lv_iload_n hx hb dX9_firstWorth_47 rfl (lv_at hl 0 rfl) ?_
          refine va_iald hx hb hK hP 2 0 rfl rfl (vp_in_nI (by omega) (by omega)) dX9_firstWorth_48 ?_
          refine lv_topi (fun z_5 ez_5 => ?_)
          refine lv_aload_n hx hb dX9_firstWorth_49 rfl (lv_at hl 3 rfl) ?_
          refine va_get (D := D) (ci := 9) (v := .ref (g 0)) (C := RX9) (T := TX9) (N := 37) hx hb htg gRX9 hown hK hP 0 rfl rfl 1 (by decide) (htg _ wi_1151) (fun _ h9 => h9) rfl dX9_firstWorth_50 ?_
          refine lv_bipush (v := 10) hx hb dX9_firstWorth_53 (by decide) ?_
          refine lv_iload_n hx hb dX9_firstWorth_55 rfl (lv_at hl 0 rfl) ?_
          refine lv_iadd hx hb dX9_firstWorth_56 ?_
          refine lv_is (y := nI (10 + k9_36)) (nI_add 10 (k9_36)) ?_
          refine va_iald hx hb hK hP 1 0 rfl rfl (vp_in_nI (by omega) (by omega)) dX9_firstWorth_57 ?_
          refine lv_topi (fun z_6 ez_6 => ?_)
          refine lv_imul hx hb dX9_firstWorth_58 ?_
          refine lv_topi (fun z_7 ez_7 => ?_)
          refine lv_iadd hx hb dX9_firstWorth_59 ?_
          refine lv_topi (fun z_8 ez_8 => ?_)
          refine lv_istore_n (lv' := [(1, .int z_8), (3, .int (nI k9_36)), (2, .int x9_36_2), (0, .ref h0)]) hx hb dX9_firstWorth_60 rfl hl (by decide) rfl (fun ls hl => ?_)
          refine lv_aload_n hx hb dX9_firstWorth_61 rfl (lv_at hl 3 rfl) ?_
          refine lv_iload_n hx hb dX9_firstWorth_62 rfl (lv_at hl 1 rfl) ?_
          refine xk_i (wr := [((g 4), .inl (cT 0, 6, .inl (a4)))]) (xr_V (n := 1) (As := [.int (nI k9_36)]) (rest := []) ⟨hx, hb, hml, hown, htg⟩ hK hN hP hD hS hA [0, 1] rfl (by decide) (m_stripsOf l D cT _ (h0) (g) (b0) (b5) (b6) (b7) (b8) (b9) (b10) (b11) (b12) (b13) (b14) (b17) (b18) (b19) (b23) (b24) (b25) (b26) (b27) (b29) (b31) (b32) (b33) (by first | assumption | omega | decide | exact Or.inl (by decide) | (intro h9; exact absurd h9 (by decide)) | (intro _; omega) | (intro _; assumption) | (intro _; decide)) (a0) (by first | assumption | omega | decide | exact Or.inl (by decide) | (intro h9; exact absurd h9 (by decide)) | (intro _; omega) | (intro _; assumption) | (intro _; decide)) ((nI k9_36))) wi_1371 wi_1373 wi_96 wi_131 wi_1374 rfl rfl rfl ⟨rfl, by decide +kernel⟩ ⟨Nat.le_of_ble_eq_true rfl, Nat.le_of_ble_eq_true rfl⟩ rfl hl.1 rfl (Nat.le_of_ble_eq_true rfl) dX9_firstWorth_63 ⟨Nat.le_of_ble_eq_true rfl, Nat.le_of_ble_eq_true rfl⟩) hP hD hS hA [0, 1] [2] rfl rfl (by decide) (by decide) (fun r_10 u_9 H locs hwr_10 hP hD hS => ?_)
          have hP : va_P D classes [((g 4), .inl (cT 0, 6, .inl (a4))), (h0, .inr (9, (.int b0 :: .ref (g 0) :: .ref (g 1) :: .ref (g 2) :: .ref (g 3) :: .int b5 :: .int b6 :: .int b7 :: .int b8 :: .int b9 :: .int b10 :: .int b11 :: .int b12 :: .int b13 :: .int b14 :: .ref (g 4) :: .ref (g 5) :: .int b17 :: .int b18 :: .int b19 :: .ref (g 6) :: .ref (g 7) :: .ref (g 8) :: .int b23 :: .int b24 :: .int b25 :: .int b26 :: .int b27 :: .ref (g 9) :: .int b29 :: .ref (g 10) :: .int b31 :: .int b32 :: .int b33 :: .ref (g 11) :: .ref (g 12) :: .ref (g 13) :: []))), ((g 0), .inl (cT 0, 288, .inl (a0)))] _ := hP
          have hD : va_D A [((g 4), .inl (cT 0, 6, .inl (a4))), (h0, .inr (9, (.int b0 :: .ref (g 0) :: .ref (g 1) :: .ref (g 2) :: .ref (g 3) :: .int b5 :: .int b6 :: .int b7 :: .int b8 :: .int b9 :: .int b10 :: .int b11 :: .int b12 :: .int b13 :: .int b14 :: .ref (g 4) :: .ref (g 5) :: .int b17 :: .int b18 :: .int b19 :: .ref (g 6) :: .ref (g 7) :: .ref (g 8) :: .int b23 :: .int b24 :: .int b25 :: .int b26 :: .int b27 :: .ref (g 9) :: .int b29 :: .ref (g 10) :: .int b31 :: .int b32 :: .int b33 :: .ref (g 11) :: .ref (g 12) :: .ref (g 13) :: []))), ((g 0), .inl (cT 0, 288, .inl (a0)))] := hD
          refine lv_if_eq (tgt := 91) hx hb dX9_firstWorth_66 (by decide) (fun c_11 => ?_) (fun c_11 => ?_)
          · have ic_11 : r_10.toInt = 0 := ieq c_11 (rfl) (by decide)
            refine lv_iinc (v := (nI (k9_36 + 1))) (lv' := [(3, .int (nI (k9_36 + 1))), (1, .int z_8), (2, .int x9_36_2), (0, .ref h0)]) hx hb dX9_firstWorth_91 hl (k := 1) rfl (by exact nI_1 (k9_36)) (by decide) rfl (fun ls hl => ?_)
            refine lv_goto (tgt := 36) hx hb dX9_firstWorth_94 (by decide) ?_
            exact ih_36 (k9_36 + 1) _ _ _ _ _ (by omega) (by omega)  (hP.sub [1, 2, 0] rfl) (hD.sub [1, 2, 0] (by decide) rfl) hS (lv_sub hl [0, 2, 1, 3] rfl)
          · have ic_11 : ¬ r_10.toInt = 0 := ine c_11 (rfl) (by decide)
            refine lv_iload_n hx hb dX9_firstWorth_69 rfl (lv_at hl 2 rfl) ?_
            refine lv_iconst (v := (-1)) hx hb dX9_firstWorth_70 (by decide) ?_
            refine lv_icmp_eq (tgt := 84) hx hb dX9_firstWorth_71 (by decide) (fun c_12 => ?_) (fun c_12 => ?_)
            · have ic_12 : x9_36_2.toInt = (-1) := ieq c_12 (rfl) (by decide)
              refine lv_aload_n hx hb dX9_firstWorth_84 rfl (lv_at hl 3 rfl) ?_
              refine va_get (D := D) (ci := 9) (v := .ref (g 4)) (C := RX9) (T := TX9) (N := 37) hx hb htg gRX9 hown hK hP 1 rfl rfl 15 (by decide) (htg _ wi_1165) (fun _ h9 => h9) rfl dX9_firstWorth_85 ?_
              refine lv_iload_n hx hb dX9_firstWorth_88 rfl (lv_at hl 1 rfl) ?_
              refine va_iald hx hb hK hP 0 0 rfl rfl (vp_in_nI (by omega) (by omega)) dX9_firstWorth_89 ?_
              refine lv_topi (fun z_13 ez_13 => ?_)
              refine lv_istore_n (lv' := [(2, .int z_13), (1, .int z_8), (3, .int (nI k9_36)), (0, .ref h0)]) hx hb dX9_firstWorth_90 rfl hl (by decide) rfl (fun ls hl => ?_)
              refine lv_iinc (v := (nI (k9_36 + 1))) (lv' := [(3, .int (nI (k9_36 + 1))), (2, .int z_13), (1, .int z_8), (0, .ref h0)]) hx hb dX9_firstWorth_91 hl (k := 2) rfl (by exact nI_1 (k9_36)) (by decide) rfl (fun ls hl => ?_)
              refine lv_goto (tgt := 36) hx hb dX9_firstWorth_94 (by decide) ?_
              exact ih_36 (k9_36 + 1) _ _ _ _ _ (by omega) (by omega)  (hP.sub [1, 2, 0] rfl) (hD.sub [1, 2, 0] (by decide) rfl) hS (lv_sub hl [0, 1, 2, 3] rfl)
            · have ic_12 : ¬ x9_36_2.toInt = (-1) := ine c_12 (rfl) (by decide)
              refine lv_aload_n hx hb dX9_firstWorth_74 rfl (lv_at hl 3 rfl) ?_
              refine va_get (D := D) (ci := 9) (v := .ref (g 4)) (C := RX9) (T := TX9) (N := 37) hx hb htg gRX9 hown hK hP 1 rfl rfl 15 (by decide) (htg _ wi_1165) (fun _ h9 => h9) rfl dX9_firstWorth_75 ?_
              refine lv_iload_n hx hb dX9_firstWorth_78 rfl (lv_at hl 1 rfl) ?_
              refine va_iald hx hb hK hP 0 0 rfl rfl (vp_in_nI (by omega) (by omega)) dX9_firstWorth_79 ?_
              refine lv_topi (fun z_14 ez_14 => ?_)
              refine lv_iload_n hx hb dX9_firstWorth_80 rfl (lv_at hl 2 rfl) ?_
              refine lv_icmp_ge (tgt := 91) hx hb dX9_firstWorth_81 (by decide) (fun c_15 => ?_) (fun c_15 => ?_)
              · have ic_15 : x9_36_2.toInt ≤ z_14.toInt := ile c_15 (rfl) (rfl)
                refine lv_iinc (v := (nI (k9_36 + 1))) (lv' := [(3, .int (nI (k9_36 + 1))), (1, .int z_8), (2, .int x9_36_2), (0, .ref h0)]) hx hb dX9_firstWorth_91 hl (k := 1) rfl (by exact nI_1 (k9_36)) (by decide) rfl (fun ls hl => ?_)
                refine lv_goto (tgt := 36) hx hb dX9_firstWorth_94 (by decide) ?_
                exact ih_36 (k9_36 + 1) _ _ _ _ _ (by omega) (by omega)  (hP.sub [1, 2, 0] rfl) (hD.sub [1, 2, 0] (by decide) rfl) hS (lv_sub hl [0, 2, 1, 3] rfl)
              · have ic_15 : z_14.toInt < x9_36_2.toInt := inle c_15 (rfl) (rfl)
                refine lv_aload_n hx hb dX9_firstWorth_84 rfl (lv_at hl 3 rfl) ?_
                refine va_get (D := D) (ci := 9) (v := .ref (g 4)) (C := RX9) (T := TX9) (N := 37) hx hb htg gRX9 hown hK hP 1 rfl rfl 15 (by decide) (htg _ wi_1165) (fun _ h9 => h9) rfl dX9_firstWorth_85 ?_
                refine lv_iload_n hx hb dX9_firstWorth_88 rfl (lv_at hl 1 rfl) ?_
                refine va_iald hx hb hK hP 0 0 rfl rfl (vp_in_nI (by omega) (by omega)) dX9_firstWorth_89 ?_
                refine lv_topi (fun z_16 ez_16 => ?_)
                refine lv_istore_n (lv' := [(2, .int z_16), (1, .int z_8), (3, .int (nI k9_36)), (0, .ref h0)]) hx hb dX9_firstWorth_90 rfl hl (by decide) rfl (fun ls hl => ?_)
                refine lv_iinc (v := (nI (k9_36 + 1))) (lv' := [(3, .int (nI (k9_36 + 1))), (2, .int z_16), (1, .int z_8), (0, .ref h0)]) hx hb dX9_firstWorth_91 hl (k := 2) rfl (by exact nI_1 (k9_36)) (by decide) rfl (fun ls hl => ?_)
                refine lv_goto (tgt := 36) hx hb dX9_firstWorth_94 (by decide) ?_
                exact ih_36 (k9_36 + 1) _ _ _ _ _ (by omega) (by omega)  (hP.sub [1, 2, 0] rfl) (hD.sub [1, 2, 0] (by decide) rfl) hS (lv_sub hl [0, 1, 2, 3] rfl)
    · have ic_2 : b23.toInt = 3 := ieq c_2 (rfl) (by decide)
      refine lv_aload_n hx hb dX9_firstWorth_20 rfl (lv_at hl 0 rfl) ?_
      refine va_get (D := D) (ci := 9) (v := .ref (g 4)) (C := RX9) (T := TX9) (N := 37) hx hb htg gRX9 hown hK hP 0 rfl rfl 15 (by decide) (htg _ wi_1165) (fun _ h9 => h9) rfl dX9_firstWorth_21 ?_
      refine lv_aload_n hx hb dX9_firstWorth_24 rfl (lv_at hl 0 rfl) ?_
      refine va_get (D := D) (ci := 9) (v := .int b24) (C := RX9) (T := TX9) (N := 37) hx hb htg gRX9 hown hK hP 0 rfl rfl 24 (by decide) (htg _ wi_1174) (fun _ h9 => h9) rfl dX9_firstWorth_25 ?_
      refine va_iald hx hb hK hP 2 0 rfl rfl (vp_in_iff.mpr (by omega)) dX9_firstWorth_28 ?_
      refine lv_topi (fun z_17 ez_17 => ?_)
      exact x_iret hx hb hr hlk hP hD hS [0, 1, 2] (()) rfl (by decide) trivial (by decide) (by decide) dX9_firstWorth_29
  · have ic_1 : b23.toInt = 0 := ieq c_1 (rfl) (by decide)
    refine lv_aload_n hx hb dX9_firstWorth_7 rfl (lv_at hl 0 rfl) ?_
    refine xk_i (wr := [((g 0), .inl (cT 0, 288, .inl (a0)))]) (xr_V (n := 0) (As := []) (rest := []) ⟨hx, hb, hml, hown, htg⟩ hK hN hP hD hS hA [0, 2] rfl (by decide) (m_total l D cT _ (h0) (g) (b0) (b5) (b6) (b7) (b8) (b9) (b10) (b11) (b12) (b13) (b14) (b17) (b18) (b19) (b23) (b24) (b25) (b26) (b27) (b29) (b31) (b32) (b33) (by first | assumption | omega | decide | exact Or.inl (by decide) | (intro h9; exact absurd h9 (by decide)) | (intro _; omega) | (intro _; assumption) | (intro _; decide)) (a4)) wi_1494 wi_1496 wi_110 wi_131 wi_1497 rfl rfl rfl ⟨rfl, by decide +kernel⟩ ⟨Nat.le_of_ble_eq_true rfl, Nat.le_of_ble_eq_true rfl⟩ rfl hl.1 rfl (Nat.le_of_ble_eq_true rfl) dX9_firstWorth_8 ⟨Nat.le_of_ble_eq_true rfl, Nat.le_of_ble_eq_true rfl⟩) hP hD hS hA [0, 2] [1] rfl rfl (by decide) (by decide) (fun r_19 u_18 H locs hwr_19 hP hD hS => ?_)
    have hP : va_P D classes [((g 0), .inl (cT 0, 288, .inl (a0))), (h0, .inr (9, (.int b0 :: .ref (g 0) :: .ref (g 1) :: .ref (g 2) :: .ref (g 3) :: .int b5 :: .int b6 :: .int b7 :: .int b8 :: .int b9 :: .int b10 :: .int b11 :: .int b12 :: .int b13 :: .int b14 :: .ref (g 4) :: .ref (g 5) :: .int b17 :: .int b18 :: .int b19 :: .ref (g 6) :: .ref (g 7) :: .ref (g 8) :: .int b23 :: .int b24 :: .int b25 :: .int b26 :: .int b27 :: .ref (g 9) :: .int b29 :: .ref (g 10) :: .int b31 :: .int b32 :: .int b33 :: .ref (g 11) :: .ref (g 12) :: .ref (g 13) :: []))), ((g 4), .inl (cT 0, 6, .inl (a4)))] _ := hP
    have hD : va_D A [((g 0), .inl (cT 0, 288, .inl (a0))), (h0, .inr (9, (.int b0 :: .ref (g 0) :: .ref (g 1) :: .ref (g 2) :: .ref (g 3) :: .int b5 :: .int b6 :: .int b7 :: .int b8 :: .int b9 :: .int b10 :: .int b11 :: .int b12 :: .int b13 :: .int b14 :: .ref (g 4) :: .ref (g 5) :: .int b17 :: .int b18 :: .int b19 :: .ref (g 6) :: .ref (g 7) :: .ref (g 8) :: .int b23 :: .int b24 :: .int b25 :: .int b26 :: .int b27 :: .ref (g 9) :: .int b29 :: .ref (g 10) :: .int b31 :: .int b32 :: .int b33 :: .ref (g 11) :: .ref (g 12) :: .ref (g 13) :: []))), ((g 4), .inl (cT 0, 6, .inl (a4)))] := hD
    exact x_iret hx hb hr hlk hP hD hS [1, 0, 2] (()) rfl (by decide) trivial (by decide) (by decide) dX9_firstWorth_11
