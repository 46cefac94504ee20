set_option maxHeartbeats 4000000 in
set_option maxRecDepth 100000 in
theorem m_toldK (l : Launch) (D : va_G) (cT : Nat → ClassId) (sz : Nat) (h0 : Nat) (g : Nat → Nat) (b0 : Int32) (b5 : Int32) (b6 : Int32) (b7 : Int32) (b8 : Int32) (b9 : Int32) (b10 : Int32) (b11 : Int32) (b12 : Int32) (b13 : Int32) (b14 : Int32) (b17 : Int32) (b18 : Int32) (b19 : Int32) (b23 : Int32) (b24 : Int32) (b25 : Int32) (b26 : Int32) (b27 : Int32) (b29 : Int32) (b31 : Int32) (b32 : Int32) (b33 : Int32) (hb5 : 0 ≤ b5.toInt ∧ b5.toInt ≤ 900) (a0 : Nat → Int32) (pa0 : PI 288 a0) (a4 : Nat → Int32) (a5 : Nat → Int32) (pa5 : PI 960 a5) (a6 : Nat → Int32) (a7 : Nat → Int32) (a8 : Nat → Int32) (x : Int32) (y : Int32) (z : Int32) (v : Int32) (w : Int32) (hy5 : 0 ≤ y.toInt ∧ y.toInt ≤ 5) : Met l yX9_told (wsc yX9_told cX9_told 6 (some .int)) { frames := 16, cells := 0, slots := 0, locals := 465 } (va_Pc [.ref h0, .int x, .int y, .int z, .int v, .int w] (PX D cT sz [(sw_9 h0 g b0 b5 b6 b7 b8 b9 b10 b11 b12 b13 b14 b17 b18 b19 b23 b24 b25 b26 b27 b29 b31 b32 b33), (sw_in cT (g 0) 288 a0), (sw_in cT (g 4) 6 a4), (sw_in cT (g 5) 960 a5), (sw_in cT (g 6) 8 a6), (sw_in cT (g 7) 8 a7), (sw_in cT (g 8) 6 a8)])) (va_Qi (fun (r : Int32) (u : Int32 × Int32 × Int32 × Int32 × Int32 × (Nat → Int32) × (Nat → Int32) × (Nat → Int32) × (Nat → Int32) × (Nat → Int32) × (Nat → Int32)) => (PI 288 u.2.2.2.2.2.1) ∧ (KR u.2.2.2.2.2.1 a0) ∧ (PI 960 u.2.2.2.2.2.2.2.1) ∧ (True)) (fun u t => RW D (va_A [(sw_9 h0 g b0 b5 b6 b7 b8 b9 b10 b11 b12 b13 b14 b17 b18 b19 b23 b24 b25 b26 b27 b29 b31 b32 b33), (sw_in cT (g 0) 288 a0), (sw_in cT (g 4) 6 a4), (sw_in cT (g 5) 960 a5), (sw_in cT (g 6) 8 a6), (sw_in cT (g 7) 8 a7), (sw_in cT (g 8) 6 a8)] sz) ((fun u : Int32 × Int32 × Int32 × Int32 × Int32 × (Nat → Int32) × (Nat → Int32) × (Nat → Int32) × (Nat → Int32) × (Nat → Int32) × (Nat → Int32) => [(sw_9 h0 g b0 b5 b6 b7 b8 b9 b10 b11 b12 b13 b14 b17 b18 b19 u.1 u.2.1 u.2.2.1 u.2.2.2.1 u.2.2.2.2.1 b29 b31 b32 b33), (sw_in cT (g 0) 288 u.2.2.2.2.2.1), (sw_in cT (g 4) 6 u.2.2.2.2.2.2.1), (sw_in cT (g 5) 960 u.2.2.2.2.2.2.2.1), (sw_in cT (g 6) 8 u.2.2.2.2.2.2.2.2.1), (sw_in cT (g 7) 8 u.2.2.2.2.2.2.2.2.2.1), (sw_in cT (g 8) 6 u.2.2.2.2.2.2.2.2.2.2)]) u) t) (va_A [(sw_9 h0 g b0 b5 b6 b7 b8 b9 b10 b11 b12 b13 b14 b17 b18 b19 b23 b24 b25 b26 b27 b29 b31 b32 b33), (sw_in cT (g 0) 288 a0), (sw_in cT (g 4) 6 a4), (sw_in cT (g 5) 960 a5), (sw_in cT (g 6) 8 a6), (sw_in cT (g 7) 8 a7), (sw_in cT (g 8) 6 a8)] sz)) 0 0 (va_A [(sw_9 h0 g b0 b5 b6 b7 b8 b9 b10 b11 b12 b13 b14 b17 b18 b19 b23 b24 b25 b26 b27 b29 b31 b32 b33), (sw_in cT (g 0) 288 a0), (sw_in cT (g 4) 6 a4), (sw_in cT (g 5) 960 a5), (sw_in cT (g 6) 8 a6), (sw_in cT (g 7) 8 a7), (sw_in cT (g 8) 6 a8)] sz) := by
  refine m_of (y := yX9_told) (cc := cX9_told) (nL := 6) (ret := (some .int)) (D := D) (cT := cT) (av := [.ref h0, .int x, .int y, .int z, .int v, .int w]) (wi := [(sw_9 h0 g b0 b5 b6 b7 b8 b9 b10 b11 b12 b13 b14 b17 b18 b19 b23 b24 b25 b26 b27 b29 b31 b32 b33), (sw_in cT (g 0) 288 a0), (sw_in cT (g 4) 6 a4), (sw_in cT (g 5) 960 a5), (sw_in cT (g 6) 8 a6), (sw_in cT (g 7) 8 a7), (sw_in cT (g 8) 6 a8)]) (fun A => va_Qi (fun (r : Int32) (u : Int32 × Int32 × Int32 × Int32 × Int32 × (Nat → Int32) × (Nat → Int32) × (Nat → Int32) × (Nat → Int32) × (Nat → Int32) × (Nat → Int32)) => (PI 288 u.2.2.2.2.2.1) ∧ (KR u.2.2.2.2.2.1 a0) ∧ (PI 960 u.2.2.2.2.2.2.2.1) ∧ (True)) (fun u t => RW D A ((fun u : Int32 × Int32 × Int32 × Int32 × Int32 × (Nat → Int32) × (Nat → Int32) × (Nat → Int32) × (Nat → Int32) × (Nat → Int32) × (Nat → Int32) => [(sw_9 h0 g b0 b5 b6 b7 b8 b9 b10 b11 b12 b13 b14 b17 b18 b19 u.1 u.2.1 u.2.2.1 u.2.2.2.1 u.2.2.2.2.1 b29 b31 b32 b33), (sw_in cT (g 0) 288 u.2.2.2.2.2.1), (sw_in cT (g 4) 6 u.2.2.2.2.2.2.1), (sw_in cT (g 5) 960 u.2.2.2.2.2.2.2.1), (sw_in cT (g 6) 8 u.2.2.2.2.2.2.2.2.1), (sw_in cT (g 7) 8 u.2.2.2.2.2.2.2.2.2.1), (sw_in cT (g 8) 6 u.2.2.2.2.2.2.2.2.2.2)]) u) t) A) (by decide) (Nat.le_of_ble_eq_true rfl) ?_
  intro p e s m below meth c A hx hb hml hown htg hK hN hr hlk hnm hsz hP hD hS hA ls hl
  have hown : s.vm.findClass RX9 = some m.cls := hown
  have hl : lv_has ls 6 [(0, .ref h0), (1, .int x), (2, .int y), (3, .int z), (4, .int v), (5, .int w)] := hl
  have tc_m5 : ((-5) : Int32).toInt = (-5) := by decide
  have tc_m3 : ((-3) : Int32).toInt = (-3) := by decide
  have tc_m2 : ((-2) : Int32).toInt = (-2) := by decide
  have tc_m1 : ((-1) : Int32).toInt = (-1) := by decide
  have tc_0 : (0 : Int32).toInt = 0 := by decide
  have tc_1 : (1 : Int32).toInt = 1 := by decide
  have tc_2 : (2 : Int32).toInt = 2 := by decide
  have tc_10 : (10 : Int32).toInt = 10 := by decide
  refine lv_iload hx hb dX9_told_0 (lv_at hl 4 rfl) ?_
  refine lv_if_eq (tgt := 34) hx hb dX9_told_2 (by decide) (fun c_1 => ?_) (fun c_1 => ?_)
  · have ic_1 : v.toInt = 0 := ieq c_1 (rfl) (by decide)
    refine lv_iload_n hx hb dX9_told_34 rfl (lv_at hl 3 rfl) ?_
    refine lv_i2l (v := z.toInt64) hx hb dX9_told_35 rfl ?_
    refine lv_lconst (v := 1) hx hb dX9_told_36 (by decide) ?_
    refine lv_ldc2 (v := 8) hx hb hown (htg _ wi_1477) dX9_told_37 ?_
    have ilw_2 : (z.toInt64).toInt = z.toInt := i2l_i _
    refine xk_i (wr := [(sw_9 h0 g b0 b5 b6 b7 b8 b9 b10 b11 b12 b13 b14 b17 b18 b19 b23 b24 b25 b26 b27 b29 b31 b32 b33), (sw_in cT (g 0) 288 a0), (sw_in cT (g 4) 6 a4), (sw_in cT (g 5) 960 a5), (sw_in cT (g 6) 8 a6), (sw_in cT (g 7) 8 a7), (sw_in cT (g 8) 6 a8)]) (xr_S (n := 3) (As := [.long z.toInt64, .long 1, .long 8]) (rest := []) ⟨hx, hb, hml, hown, htg⟩ hK hN hP hD hS hA [] rfl (by decide) (m_within l D cT _ (z.toInt64) (1) (8) (z.toInt) (1) (8) (i2l_i _) (by decide) (by decide)) wi_1270 wi_1271 wi_131 wi_1272 ⟨rfl, by decide +kernel⟩ ⟨Nat.le_of_ble_eq_true rfl, Nat.le_of_ble_eq_true rfl⟩ rfl hl.1 rfl (Nat.le_of_ble_eq_true rfl) dX9_told_40 ⟨Nat.le_of_ble_eq_true rfl, Nat.le_of_ble_eq_true rfl⟩) hP hD hS hA [] [0, 1, 2, 3, 4, 5, 6] rfl rfl (by decide) (by decide) (fun r_4 u_3 H locs hwr_4 hP hD hS => ?_)
    obtain ⟨hP, hD⟩ : PD D A [(sw_9 h0 g b0 b5 b6 b7 b8 b9 b10 b11 b12 b13 b14 b17 b18 b19 b23 b24 b25 b26 b27 b29 b31 b32 b33), (sw_in cT (g 0) 288 a0), (sw_in cT (g 4) 6 a4), (sw_in cT (g 5) 960 a5), (sw_in cT (g 6) 8 a6), (sw_in cT (g 7) 8 a7), (sw_in cT (g 8) 6 a8)] _ := ⟨hP, hD⟩
    have qr_4_0 : Imp (¬ r_4.toInt = 0) (1 ≤ z.toInt ∧ z.toInt ≤ 8) := hwr_4.1
    have qr_4_1 : r_4 = 0 ∨ r_4 = 1 := hwr_4.2.1
    refine lv_if_ne (tgt := 49) hx hb dX9_told_43 (by decide) (fun c_5 => ?_) (fun c_5 => ?_)
    · have ic_5 : ¬ r_4.toInt = 0 := ine c_5 (rfl) (by decide)
      have kqr_4_0 : 1 ≤ z.toInt ∧ z.toInt ≤ 8 := qr_4_0 ic_5
      refine lv_aload_n hx hb dX9_told_49 rfl (lv_at hl 0 rfl) ?_
      refine va_get (D := D) (ci := 9) (v := .ref (g 0)) (C := RX9) (T := TX9) (N := 37) hx hb htg gRX9 hown hK hP 0 rfl rfl 1 (by decide) (htg _ wi_1151) (fun _ h9 => h9) rfl dX9_told_50 ?_
      refine lv_iconst (v := 0) hx hb dX9_told_53 (by decide) ?_
      refine va_iald hx hb hK hP 1 0 rfl rfl (by unfold vp_in; decide) dX9_told_54 ?_
      refine lv_topi (fun z_6 ez_6 => ?_)
      have iz_6 : 0 ≤ z_6.toInt ∧ z_6.toInt ≤ 16 := by rw [ez_6]; exact rd0 pa0 (by decide) rfl
      have nz_6 : z_6.toInt = ((a0) 0).toInt := by rw [ez_6]; rfl
      refine lv_if_ne (tgt := 61) hx hb dX9_told_55 (by decide) (fun c_7 => ?_) (fun c_7 => ?_)
      · have ic_7 : ¬ z_6.toInt = 0 := ine c_7 (rfl) (by decide)
        refine lv_aload_n hx hb dX9_told_61 rfl (lv_at hl 0 rfl) ?_
        refine lv_iload_n hx hb dX9_told_62 rfl (lv_at hl 1 rfl) ?_
        refine lv_iload_n hx hb dX9_told_63 rfl (lv_at hl 2 rfl) ?_
        refine lv_iload_n hx hb dX9_told_64 rfl (lv_at hl 3 rfl) ?_
        refine xk_i (wr := []) (xr_V (n := 3) (As := [.int x, .int y, .int z]) (rest := []) ⟨hx, hb, hml, hown, htg⟩ hK hN hP hD hS hA [0, 1, 2, 3, 4, 5, 6] rfl (by decide) (m_laysBestK l D cT _ (h0) (g) (b0) (b5) (b6) (b7) (b8) (b9) (b10) (b11) (b12) (b13) (b14) (b17) (b18) (b19) (b23) (b24) (b25) (b26) (b27) (b29) (b31) (b32) (b33) (by first | assumption | omega | decide | exact Or.inl (by decide) | (intro h9; exact absurd h9 (by decide)) | (intro _; omega) | (intro _; assumption) | (intro _; decide)) (a0) (by first | assumption | omega | decide | exact Or.inl (by decide) | (intro h9; exact absurd h9 (by decide)) | (intro _; omega) | (intro _; assumption) | (intro _; decide)) (a4) (a5) (by first | assumption | omega | decide | exact Or.inl (by decide) | (intro h9; exact absurd h9 (by decide)) | (intro _; omega) | (intro _; assumption) | (intro _; decide)) (a6) (a7) (a8) (x) (y) (z) (by first | assumption | omega | decide | exact Or.inl (by decide) | (intro h9; exact absurd h9 (by decide)) | (intro _; omega) | (intro _; assumption) | (intro _; decide)) (by first | assumption | omega | decide | exact Or.inl (by decide) | (intro h9; exact absurd h9 (by decide)) | (intro _; omega) | (intro _; assumption) | (intro _; decide))) wi_1478 wi_1480 wi_106 wi_131 wi_1481 rfl rfl rfl ⟨rfl, by decide +kernel⟩ ⟨Nat.le_of_ble_eq_true rfl, Nat.le_of_ble_eq_true rfl⟩ rfl hl.1 rfl (Nat.le_of_ble_eq_true rfl) dX9_told_65 ⟨Nat.le_of_ble_eq_true rfl, Nat.le_of_ble_eq_true rfl⟩) hP hD hS hA [0, 1, 2, 3, 4, 5, 6] [] rfl rfl (by decide) (by decide) (fun r_9 u_8 H locs hwr_9 hP hD hS => ?_)
        obtain ⟨hP, hD⟩ : PD D A [(sw_9 h0 g b0 b5 b6 b7 b8 b9 b10 b11 b12 b13 b14 b17 b18 b19 u_8.1 u_8.2.1 u_8.2.2.1 u_8.2.2.2.1 u_8.2.2.2.2.1 b29 b31 b32 b33), (sw_in cT (g 0) 288 u_8.2.2.2.2.2.1), (sw_in cT (g 4) 6 u_8.2.2.2.2.2.2.1), (sw_in cT (g 5) 960 u_8.2.2.2.2.2.2.2.1), (sw_in cT (g 6) 8 u_8.2.2.2.2.2.2.2.2.1), (sw_in cT (g 7) 8 u_8.2.2.2.2.2.2.2.2.2.1), (sw_in cT (g 8) 6 u_8.2.2.2.2.2.2.2.2.2.2)] _ := ⟨hP, hD⟩
        have qr_9_0 : PI 288 u_8.2.2.2.2.2.1 := hwr_9.1
        have qr_9_1 : KR u_8.2.2.2.2.2.1 a0 := hwr_9.2.1
        have kqr_9_1 : KR u_8.2.2.2.2.2.1 (a0) := KR_tr qr_9_1 (KR_rfl a0)
        have qr_9_2 : PI 960 u_8.2.2.2.2.2.2.2.1 := hwr_9.2.2.1
        refine lv_pop hx hb dX9_told_68 rfl ?_
        refine lv_iload hx hb dX9_told_69 (lv_at hl 4 rfl) ?_
        refine lv_if_ne (tgt := 79) hx hb dX9_told_71 (by decide) (fun c_10 => ?_) (fun c_10 => ?_)
        · have ic_10 : ¬ v.toInt = 0 := ine c_10 (rfl) (by decide)
          refine lv_iload hx hb dX9_told_79 (lv_at hl 4 rfl) ?_
          refine lv_iconst (v := 1) hx hb dX9_told_81 (by decide) ?_
          refine lv_icmp_ne (tgt := 102) hx hb dX9_told_82 (by decide) (fun c_11 => ?_) (fun c_11 => ?_)
          · have ic_11 : ¬ v.toInt = 1 := ine c_11 (rfl) (by decide)
            refine lv_iload hx hb dX9_told_102 (lv_at hl 4 rfl) ?_
            refine lv_bipush (v := 10) hx hb dX9_told_104 (by decide) ?_
            refine lv_isub hx hb dX9_told_106 ?_
            refine lv_topi (fun z_12 ez_12 => ?_)
            refine lv_aload_n hx hb dX9_told_107 rfl (lv_at hl 0 rfl) ?_
            refine va_get (D := D) (ci := 9) (v := .int u_8.2.2.2.2.1) (C := RX9) (T := TX9) (N := 37) hx hb htg gRX9 hown hK hP 0 rfl rfl 27 (by decide) (htg _ wi_1177) (fun _ h9 => h9) rfl dX9_told_108 ?_
            refine lv_icmp_ge (tgt := 127) hx hb dX9_told_111 (by decide) (fun c_13 => ?_) (fun c_13 => ?_)
            · have ic_13 : (u_8.2.2.2.2.1).toInt ≤ z_12.toInt := ile c_13 (rfl) (rfl)
              refine lv_iconst (v := (-1)) hx hb dX9_told_127 (by decide) ?_
              exact x_iret hx hb hr hlk hP hD hS [0, 1, 2, 3, 4, 5, 6] ((u_8.1, u_8.2.1, u_8.2.2.1, u_8.2.2.2.1, u_8.2.2.2.2.1, u_8.2.2.2.2.2.1, u_8.2.2.2.2.2.2.1, u_8.2.2.2.2.2.2.2.1, u_8.2.2.2.2.2.2.2.2.1, u_8.2.2.2.2.2.2.2.2.2.1, u_8.2.2.2.2.2.2.2.2.2.2)) rfl (by decide) ⟨by (try dsimp only); first | assumption | omega | decide | exact Or.inl (by decide) | (intro h9; exact absurd h9 (by decide)) | (intro _; omega) | (intro _; assumption) | (intro _; decide), by (try dsimp only); first | assumption | exact KR_rfl _, by (try dsimp only); first | assumption | omega | decide | exact Or.inl (by decide) | (intro h9; exact absurd h9 (by decide)) | (intro _; omega) | (intro _; assumption) | (intro _; decide), trivial⟩ (by decide) (by decide) dX9_told_128
            · have ic_13 : z_12.toInt < (u_8.2.2.2.2.1).toInt := inle c_13 (rfl) (rfl)
              refine lv_aload_n hx hb dX9_told_114 rfl (lv_at hl 0 rfl) ?_
              refine va_get (D := D) (ci := 9) (v := .ref (g 7)) (C := RX9) (T := TX9) (N := 37) hx hb htg gRX9 hown hK hP 0 rfl rfl 21 (by decide) (htg _ wi_1171) (fun _ h9 => h9) rfl dX9_told_115 ?_
              refine lv_iload hx hb dX9_told_118 (lv_at hl 4 rfl) ?_
              refine lv_bipush (v := 10) hx hb dX9_told_120 (by decide) ?_
              refine lv_isub hx hb dX9_told_122 ?_
              refine lv_topi (fun z_14 ez_14 => ?_)
              refine va_iald hx hb hK hP 5 0 rfl rfl (vp_in_iff.mpr (by omega)) dX9_told_123 ?_
              refine lv_topi (fun z_15 ez_15 => ?_)
              refine lv_goto (tgt := 128) hx hb dX9_told_124 (by decide) ?_
              exact x_iret hx hb hr hlk hP hD hS [0, 1, 2, 3, 4, 5, 6] ((u_8.1, u_8.2.1, u_8.2.2.1, u_8.2.2.2.1, u_8.2.2.2.2.1, u_8.2.2.2.2.2.1, u_8.2.2.2.2.2.2.1, u_8.2.2.2.2.2.2.2.1, u_8.2.2.2.2.2.2.2.2.1, u_8.2.2.2.2.2.2.2.2.2.1, u_8.2.2.2.2.2.2.2.2.2.2)) rfl (by decide) ⟨by (try dsimp only); first | assumption | omega | decide | exact Or.inl (by decide) | (intro h9; exact absurd h9 (by decide)) | (intro _; omega) | (intro _; assumption) | (intro _; decide), by (try dsimp only); first | assumption | exact KR_rfl _, by (try dsimp only); first | assumption | omega | decide | exact Or.inl (by decide) | (intro h9; exact absurd h9 (by decide)) | (intro _; omega) | (intro _; assumption) | (intro _; decide), trivial⟩ (by decide) (by decide) dX9_told_128
          · have ic_11 : v.toInt = 1 := ieq c_11 (rfl) (by decide)
            refine lv_iload_n hx hb dX9_told_85 rfl (lv_at hl 1 rfl) ?_
            refine lv_iconst (v := 2) hx hb dX9_told_86 (by decide) ?_
            refine lv_icmp_ne (tgt := 97) hx hb dX9_told_87 (by decide) (fun c_16 => ?_) (fun c_16 => ?_)
            · have ic_16 : ¬ x.toInt = 2 := ine c_16 (rfl) (by decide)
              refine lv_aload_n hx hb dX9_told_97 rfl (lv_at hl 0 rfl) ?_
              refine va_get (D := D) (ci := 9) (v := .int u_8.2.2.2.2.1) (C := RX9) (T := TX9) (N := 37) hx hb htg gRX9 hown hK hP 0 rfl rfl 27 (by decide) (htg _ wi_1177) (fun _ h9 => h9) rfl dX9_told_98 ?_
              exact x_iret hx hb hr hlk hP hD hS [0, 1, 2, 3, 4, 5, 6] ((u_8.1, u_8.2.1, u_8.2.2.1, u_8.2.2.2.1, u_8.2.2.2.2.1, u_8.2.2.2.2.2.1, u_8.2.2.2.2.2.2.1, u_8.2.2.2.2.2.2.2.1, u_8.2.2.2.2.2.2.2.2.1, u_8.2.2.2.2.2.2.2.2.2.1, u_8.2.2.2.2.2.2.2.2.2.2)) rfl (by decide) ⟨by (try dsimp only); first | assumption | omega | decide | exact Or.inl (by decide) | (intro h9; exact absurd h9 (by decide)) | (intro _; omega) | (intro _; assumption) | (intro _; decide), by (try dsimp only); first | assumption | exact KR_rfl _, by (try dsimp only); first | assumption | omega | decide | exact Or.inl (by decide) | (intro h9; exact absurd h9 (by decide)) | (intro _; omega) | (intro _; assumption) | (intro _; decide), trivial⟩ (by decide) (by decide) dX9_told_101
            · have ic_16 : x.toInt = 2 := ieq c_16 (rfl) (by decide)
              refine lv_aload_n hx hb dX9_told_90 rfl (lv_at hl 0 rfl) ?_
              refine va_get (D := D) (ci := 9) (v := .int u_8.2.2.2.1) (C := RX9) (T := TX9) (N := 37) hx hb htg gRX9 hown hK hP 0 rfl rfl 26 (by decide) (htg _ wi_1176) (fun _ h9 => h9) rfl dX9_told_91 ?_
              refine lv_goto (tgt := 101) hx hb dX9_told_94 (by decide) ?_
              exact x_iret hx hb hr hlk hP hD hS [0, 1, 2, 3, 4, 5, 6] ((u_8.1, u_8.2.1, u_8.2.2.1, u_8.2.2.2.1, u_8.2.2.2.2.1, u_8.2.2.2.2.2.1, u_8.2.2.2.2.2.2.1, u_8.2.2.2.2.2.2.2.1, u_8.2.2.2.2.2.2.2.2.1, u_8.2.2.2.2.2.2.2.2.2.1, u_8.2.2.2.2.2.2.2.2.2.2)) rfl (by decide) ⟨by (try dsimp only); first | assumption | omega | decide | exact Or.inl (by decide) | (intro h9; exact absurd h9 (by decide)) | (intro _; omega) | (intro _; assumption) | (intro _; decide), by (try dsimp only); first | assumption | exact KR_rfl _, by (try dsimp only); first | assumption | omega | decide | exact Or.inl (by decide) | (intro h9; exact absurd h9 (by decide)) | (intro _; omega) | (intro _; assumption) | (intro _; decide), trivial⟩ (by decide) (by decide) dX9_told_101
        · have ic_10 : v.toInt = 0 := ieq c_10 (rfl) (by decide)
          refine lv_aload_n hx hb dX9_told_74 rfl (lv_at hl 0 rfl) ?_
          refine va_get (D := D) (ci := 9) (v := .int u_8.2.2.1) (C := RX9) (T := TX9) (N := 37) hx hb htg gRX9 hown hK hP 0 rfl rfl 25 (by decide) (htg _ wi_1175) (fun _ h9 => h9) rfl dX9_told_75 ?_
          exact x_iret hx hb hr hlk hP hD hS [0, 1, 2, 3, 4, 5, 6] ((u_8.1, u_8.2.1, u_8.2.2.1, u_8.2.2.2.1, u_8.2.2.2.2.1, u_8.2.2.2.2.2.1, u_8.2.2.2.2.2.2.1, u_8.2.2.2.2.2.2.2.1, u_8.2.2.2.2.2.2.2.2.1, u_8.2.2.2.2.2.2.2.2.2.1, u_8.2.2.2.2.2.2.2.2.2.2)) rfl (by decide) ⟨by (try dsimp only); first | assumption | omega | decide | exact Or.inl (by decide) | (intro h9; exact absurd h9 (by decide)) | (intro _; omega) | (intro _; assumption) | (intro _; decide), by (try dsimp only); first | assumption | exact KR_rfl _, by (try dsimp only); first | assumption | omega | decide | exact Or.inl (by decide) | (intro h9; exact absurd h9 (by decide)) | (intro _; omega) | (intro _; assumption) | (intro _; decide), trivial⟩ (by decide) (by decide) dX9_told_78
      · have ic_7 : z_6.toInt = 0 := ieq c_7 (rfl) (by decide)
        refine lv_bipush (v := (-5)) hx hb dX9_told_58 (by decide) ?_
        exact x_iret hx hb hr hlk hP hD hS [0, 1, 2, 3, 4, 5, 6] ((b23, b24, b25, b26, b27, a0, a4, a5, a6, a7, a8)) rfl (by decide) ⟨by (try dsimp only); first | assumption | omega | decide | exact Or.inl (by decide) | (intro h9; exact absurd h9 (by decide)) | (intro _; omega) | (intro _; assumption) | (intro _; decide), by (try dsimp only); first | assumption | exact KR_rfl _, by (try dsimp only); first | assumption | omega | decide | exact Or.inl (by decide) | (intro h9; exact absurd h9 (by decide)) | (intro _; omega) | (intro _; assumption) | (intro _; decide), trivial⟩ (by decide) (by decide) dX9_told_60
    · have ic_5 : r_4.toInt = 0 := ieq c_5 (rfl) (by decide)
      refine lv_bipush (v := (-3)) hx hb dX9_told_46 (by decide) ?_
      exact x_iret hx hb hr hlk hP hD hS [0, 1, 2, 3, 4, 5, 6] ((b23, b24, b25, b26, b27, a0, a4, a5, a6, a7, a8)) rfl (by decide) ⟨by (try dsimp only); first | assumption | omega | decide | exact Or.inl (by decide) | (intro h9; exact absurd h9 (by decide)) | (intro _; omega) | (intro _; assumption) | (intro _; decide), by (try dsimp only); first | assumption | exact KR_rfl _, by (try dsimp only); first | assumption | omega | decide | exact Or.inl (by decide) | (intro h9; exact absurd h9 (by decide)) | (intro _; omega) | (intro _; assumption) | (intro _; decide), trivial⟩ (by decide) (by decide) dX9_told_48
  · have ic_1 : ¬ v.toInt = 0 := ine c_1 (rfl) (by decide)
    refine lv_iload hx hb dX9_told_5 (lv_at hl 5 rfl) ?_
    refine lv_if_eq (tgt := 16) hx hb dX9_told_7 (by decide) (fun c_17 => ?_) (fun c_17 => ?_)
    · have ic_17 : w.toInt = 0 := ieq c_17 (rfl) (by decide)
      refine lv_iload hx hb dX9_told_16 (lv_at hl 4 rfl) ?_
      refine lv_i2l (v := v.toInt64) hx hb dX9_told_18 rfl ?_
      refine lv_ldc2 (v := 10) hx hb hown (htg _ wi_1475) dX9_told_19 ?_
      refine lv_ldc2 (v := 17) hx hb hown (htg _ wi_1476) dX9_told_22 ?_
      have ilw_18 : (v.toInt64).toInt = v.toInt := i2l_i _
      refine xk_i (wr := [(sw_9 h0 g b0 b5 b6 b7 b8 b9 b10 b11 b12 b13 b14 b17 b18 b19 b23 b24 b25 b26 b27 b29 b31 b32 b33), (sw_in cT (g 0) 288 a0), (sw_in cT (g 4) 6 a4), (sw_in cT (g 5) 960 a5), (sw_in cT (g 6) 8 a6), (sw_in cT (g 7) 8 a7), (sw_in cT (g 8) 6 a8)]) (xr_S (n := 3) (As := [.long v.toInt64, .long 10, .long 17]) (rest := []) ⟨hx, hb, hml, hown, htg⟩ hK hN hP hD hS hA [] rfl (by decide) (m_within l D cT _ (v.toInt64) (10) (17) (v.toInt) (10) (17) (i2l_i _) (by decide) (by decide)) wi_1270 wi_1271 wi_131 wi_1272 ⟨rfl, by decide +kernel⟩ ⟨Nat.le_of_ble_eq_true rfl, Nat.le_of_ble_eq_true rfl⟩ rfl hl.1 rfl (Nat.le_of_ble_eq_true rfl) dX9_told_25 ⟨Nat.le_of_ble_eq_true rfl, Nat.le_of_ble_eq_true rfl⟩) hP hD hS hA [] [0, 1, 2, 3, 4, 5, 6] rfl rfl (by decide) (by decide) (fun r_20 u_19 H locs hwr_20 hP hD hS => ?_)
      obtain ⟨hP, hD⟩ : PD D A [(sw_9 h0 g b0 b5 b6 b7 b8 b9 b10 b11 b12 b13 b14 b17 b18 b19 b23 b24 b25 b26 b27 b29 b31 b32 b33), (sw_in cT (g 0) 288 a0), (sw_in cT (g 4) 6 a4), (sw_in cT (g 5) 960 a5), (sw_in cT (g 6) 8 a6), (sw_in cT (g 7) 8 a7), (sw_in cT (g 8) 6 a8)] _ := ⟨hP, hD⟩
      have qr_20_0 : Imp (¬ r_20.toInt = 0) (10 ≤ v.toInt ∧ v.toInt ≤ 17) := hwr_20.1
      have qr_20_1 : r_20 = 0 ∨ r_20 = 1 := hwr_20.2.1
      refine lv_if_ne (tgt := 34) hx hb dX9_told_28 (by decide) (fun c_21 => ?_) (fun c_21 => ?_)
      · have ic_21 : ¬ r_20.toInt = 0 := ine c_21 (rfl) (by decide)
        have kqr_20_0 : 10 ≤ v.toInt ∧ v.toInt ≤ 17 := qr_20_0 ic_21
        refine lv_iload_n hx hb dX9_told_34 rfl (lv_at hl 3 rfl) ?_
        refine lv_i2l (v := z.toInt64) hx hb dX9_told_35 rfl ?_
        refine lv_lconst (v := 1) hx hb dX9_told_36 (by decide) ?_
        refine lv_ldc2 (v := 8) hx hb hown (htg _ wi_1477) dX9_told_37 ?_
        have ilw_22 : (z.toInt64).toInt = z.toInt := i2l_i _
        refine xk_i (wr := [(sw_9 h0 g b0 b5 b6 b7 b8 b9 b10 b11 b12 b13 b14 b17 b18 b19 b23 b24 b25 b26 b27 b29 b31 b32 b33), (sw_in cT (g 0) 288 a0), (sw_in cT (g 4) 6 a4), (sw_in cT (g 5) 960 a5), (sw_in cT (g 6) 8 a6), (sw_in cT (g 7) 8 a7), (sw_in cT (g 8) 6 a8)]) (xr_S (n := 3) (As := [.long z.toInt64, .long 1, .long 8]) (rest := []) ⟨hx, hb, hml, hown, htg⟩ hK hN hP hD hS hA [] rfl (by decide) (m_within l D cT _ (z.toInt64) (1) (8) (z.toInt) (1) (8) (i2l_i _) (by decide) (by decide)) wi_1270 wi_1271 wi_131 wi_1272 ⟨rfl, by decide +kernel⟩ ⟨Nat.le_of_ble_eq_true rfl, Nat.le_of_ble_eq_true rfl⟩ rfl hl.1 rfl (Nat.le_of_ble_eq_true rfl) dX9_told_40 ⟨Nat.le_of_ble_eq_true rfl, Nat.le_of_ble_eq_true rfl⟩) hP hD hS hA [] [0, 1, 2, 3, 4, 5, 6] rfl rfl (by decide) (by decide) (fun r_24 u_23 H locs hwr_24 hP hD hS => ?_)
        obtain ⟨hP, hD⟩ : PD D A [(sw_9 h0 g b0 b5 b6 b7 b8 b9 b10 b11 b12 b13 b14 b17 b18 b19 b23 b24 b25 b26 b27 b29 b31 b32 b33), (sw_in cT (g 0) 288 a0), (sw_in cT (g 4) 6 a4), (sw_in cT (g 5) 960 a5), (sw_in cT (g 6) 8 a6), (sw_in cT (g 7) 8 a7), (sw_in cT (g 8) 6 a8)] _ := ⟨hP, hD⟩
        have qr_24_0 : Imp (¬ r_24.toInt = 0) (1 ≤ z.toInt ∧ z.toInt ≤ 8) := hwr_24.1
        have qr_24_1 : r_24 = 0 ∨ r_24 = 1 := hwr_24.2.1
        refine lv_if_ne (tgt := 49) hx hb dX9_told_43 (by decide) (fun c_25 => ?_) (fun c_25 => ?_)
        · have ic_25 : ¬ r_24.toInt = 0 := ine c_25 (rfl) (by decide)
          have kqr_24_0 : 1 ≤ z.toInt ∧ z.toInt ≤ 8 := qr_24_0 ic_25
          refine lv_aload_n hx hb dX9_told_49 rfl (lv_at hl 0 rfl) ?_
          refine va_get (D := D) (ci := 9) (v := .ref (g 0)) (C := RX9) (T := TX9) (N := 37) hx hb htg gRX9 hown hK hP 0 rfl rfl 1 (by decide) (htg _ wi_1151) (fun _ h9 => h9) rfl dX9_told_50 ?_
          refine lv_iconst (v := 0) hx hb dX9_told_53 (by decide) ?_
          refine va_iald hx hb hK hP 1 0 rfl rfl (by unfold vp_in; decide) dX9_told_54 ?_
          refine lv_topi (fun z_26 ez_26 => ?_)
          have iz_26 : 0 ≤ z_26.toInt ∧ z_26.toInt ≤ 16 := by rw [ez_26]; exact rd0 pa0 (by decide) rfl
          have nz_26 : z_26.toInt = ((a0) 0).toInt := by rw [ez_26]; rfl
          refine lv_if_ne (tgt := 61) hx hb dX9_told_55 (by decide) (fun c_27 => ?_) (fun c_27 => ?_)
          · have ic_27 : ¬ z_26.toInt = 0 := ine c_27 (rfl) (by decide)
            refine lv_aload_n hx hb dX9_told_61 rfl (lv_at hl 0 rfl) ?_
            refine lv_iload_n hx hb dX9_told_62 rfl (lv_at hl 1 rfl) ?_
            refine lv_iload_n hx hb dX9_told_63 rfl (lv_at hl 2 rfl) ?_
            refine lv_iload_n hx hb dX9_told_64 rfl (lv_at hl 3 rfl) ?_
            refine xk_i (wr := []) (xr_V (n := 3) (As := [.int x, .int y, .int z]) (rest := []) ⟨hx, hb, hml, hown, htg⟩ hK hN hP hD hS hA [0, 1, 2, 3, 4, 5, 6] rfl (by decide) (m_laysBestK l D cT _ (h0) (g) (b0) (b5) (b6) (b7) (b8) (b9) (b10) (b11) (b12) (b13) (b14) (b17) (b18) (b19) (b23) (b24) (b25) (b26) (b27) (b29) (b31) (b32) (b33) (by first | assumption | omega | decide | exact Or.inl (by decide) | (intro h9; exact absurd h9 (by decide)) | (intro _; omega) | (intro _; assumption) | (intro _; decide)) (a0) (by first | assumption | omega | decide | exact Or.inl (by decide) | (intro h9; exact absurd h9 (by decide)) | (intro _; omega) | (intro _; assumption) | (intro _; decide)) (a4) (a5) (by first | assumption | omega | decide | exact Or.inl (by decide) | (intro h9; exact absurd h9 (by decide)) | (intro _; omega) | (intro _; assumption) | (intro _; decide)) (a6) (a7) (a8) (x) (y) (z) (by first | assumption | omega | decide | exact Or.inl (by decide) | (intro h9; exact absurd h9 (by decide)) | (intro _; omega) | (intro _; assumption) | (intro _; decide)) (by first | assumption | omega | decide | exact Or.inl (by decide) | (intro h9; exact absurd h9 (by decide)) | (intro _; omega) | (intro _; assumption) | (intro _; decide))) wi_1478 wi_1480 wi_106 wi_131 wi_1481 rfl rfl rfl ⟨rfl, by decide +kernel⟩ ⟨Nat.le_of_ble_eq_true rfl, Nat.le_of_ble_eq_true rfl⟩ rfl hl.1 rfl (Nat.le_of_ble_eq_true rfl) dX9_told_65 ⟨Nat.le_of_ble_eq_true rfl, Nat.le_of_ble_eq_true rfl⟩) hP hD hS hA [0, 1, 2, 3, 4, 5, 6] [] rfl rfl (by decide) (by decide) (fun r_29 u_28 H locs hwr_29 hP hD hS => ?_)
            obtain ⟨hP, hD⟩ : PD D A [(sw_9 h0 g b0 b5 b6 b7 b8 b9 b10 b11 b12 b13 b14 b17 b18 b19 u_28.1 u_28.2.1 u_28.2.2.1 u_28.2.2.2.1 u_28.2.2.2.2.1 b29 b31 b32 b33), (sw_in cT (g 0) 288 u_28.2.2.2.2.2.1), (sw_in cT (g 4) 6 u_28.2.2.2.2.2.2.1), (sw_in cT (g 5) 960 u_28.2.2.2.2.2.2.2.1), (sw_in cT (g 6) 8 u_28.2.2.2.2.2.2.2.2.1), (sw_in cT (g 7) 8 u_28.2.2.2.2.2.2.2.2.2.1), (sw_in cT (g 8) 6 u_28.2.2.2.2.2.2.2.2.2.2)] _ := ⟨hP, hD⟩
            have qr_29_0 : PI 288 u_28.2.2.2.2.2.1 := hwr_29.1
            have qr_29_1 : KR u_28.2.2.2.2.2.1 a0 := hwr_29.2.1
            have kqr_29_1 : KR u_28.2.2.2.2.2.1 (a0) := KR_tr qr_29_1 (KR_rfl a0)
            have qr_29_2 : PI 960 u_28.2.2.2.2.2.2.2.1 := hwr_29.2.2.1
            refine lv_pop hx hb dX9_told_68 rfl ?_
            refine lv_iload hx hb dX9_told_69 (lv_at hl 4 rfl) ?_
            refine lv_if_ne (tgt := 79) hx hb dX9_told_71 (by decide) (fun c_30 => ?_) (fun c_30 => ?_)
            · have ic_30 : ¬ v.toInt = 0 := ine c_30 (rfl) (by decide)
              refine lv_iload hx hb dX9_told_79 (lv_at hl 4 rfl) ?_
              refine lv_iconst (v := 1) hx hb dX9_told_81 (by decide) ?_
              refine lv_icmp_ne (tgt := 102) hx hb dX9_told_82 (by decide) (fun c_31 => ?_) (fun c_31 => ?_)
              · have ic_31 : ¬ v.toInt = 1 := ine c_31 (rfl) (by decide)
                refine lv_iload hx hb dX9_told_102 (lv_at hl 4 rfl) ?_
                refine lv_bipush (v := 10) hx hb dX9_told_104 (by decide) ?_
                refine lv_isub hx hb dX9_told_106 ?_
                refine lv_topi (fun z_32 ez_32 => ?_)
                have iz_32 : z_32.toInt = v.toInt - 10 := toInt_subI ez_32 (rfl) (by decide) (by omega)
                refine lv_aload_n hx hb dX9_told_107 rfl (lv_at hl 0 rfl) ?_
                refine va_get (D := D) (ci := 9) (v := .int u_28.2.2.2.2.1) (C := RX9) (T := TX9) (N := 37) hx hb htg gRX9 hown hK hP 0 rfl rfl 27 (by decide) (htg _ wi_1177) (fun _ h9 => h9) rfl dX9_told_108 ?_
                refine lv_icmp_ge (tgt := 127) hx hb dX9_told_111 (by decide) (fun c_33 => ?_) (fun c_33 => ?_)
                · have ic_33 : (u_28.2.2.2.2.1).toInt ≤ z_32.toInt := ile c_33 (rfl) (rfl)
                  refine lv_iconst (v := (-1)) hx hb dX9_told_127 (by decide) ?_
                  exact x_iret hx hb hr hlk hP hD hS [0, 1, 2, 3, 4, 5, 6] ((u_28.1, u_28.2.1, u_28.2.2.1, u_28.2.2.2.1, u_28.2.2.2.2.1, u_28.2.2.2.2.2.1, u_28.2.2.2.2.2.2.1, u_28.2.2.2.2.2.2.2.1, u_28.2.2.2.2.2.2.2.2.1, u_28.2.2.2.2.2.2.2.2.2.1, u_28.2.2.2.2.2.2.2.2.2.2)) rfl (by decide) ⟨by (try dsimp only); first | assumption | omega | decide | exact Or.inl (by decide) | (intro h9; exact absurd h9 (by decide)) | (intro _; omega) | (intro _; assumption) | (intro _; decide), by (try dsimp only); first | assumption | exact KR_rfl _, by (try dsimp only); first | assumption | omega | decide | exact Or.inl (by decide) | (intro h9; exact absurd h9 (by decide)) | (intro _; omega) | (intro _; assumption) | (intro _; decide), trivial⟩ (by decide) (by decide) dX9_told_128
                · have ic_33 : z_32.toInt < (u_28.2.2.2.2.1).toInt := inle c_33 (rfl) (rfl)
                  refine lv_aload_n hx hb dX9_told_114 rfl (lv_at hl 0 rfl) ?_
                  refine va_get (D := D) (ci := 9) (v := .ref (g 7)) (C := RX9) (T := TX9) (N := 37) hx hb htg gRX9 hown hK hP 0 rfl rfl 21 (by decide) (htg _ wi_1171) (fun _ h9 => h9) rfl dX9_told_115 ?_
                  refine lv_iload hx hb dX9_told_118 (lv_at hl 4 rfl) ?_
                  refine lv_bipush (v := 10) hx hb dX9_told_120 (by decide) ?_
                  refine lv_isub hx hb dX9_told_122 ?_
                  refine lv_topi (fun z_34 ez_34 => ?_)
                  have iz_34 : z_34.toInt = v.toInt - 10 := toInt_subI ez_34 (rfl) (by decide) (by omega)
                  refine va_iald hx hb hK hP 5 0 rfl rfl (vp_in_iff.mpr (by omega)) dX9_told_123 ?_
                  refine lv_topi (fun z_35 ez_35 => ?_)
                  refine lv_goto (tgt := 128) hx hb dX9_told_124 (by decide) ?_
                  exact x_iret hx hb hr hlk hP hD hS [0, 1, 2, 3, 4, 5, 6] ((u_28.1, u_28.2.1, u_28.2.2.1, u_28.2.2.2.1, u_28.2.2.2.2.1, u_28.2.2.2.2.2.1, u_28.2.2.2.2.2.2.1, u_28.2.2.2.2.2.2.2.1, u_28.2.2.2.2.2.2.2.2.1, u_28.2.2.2.2.2.2.2.2.2.1, u_28.2.2.2.2.2.2.2.2.2.2)) rfl (by decide) ⟨by (try dsimp only); first | assumption | omega | decide | exact Or.inl (by decide) | (intro h9; exact absurd h9 (by decide)) | (intro _; omega) | (intro _; assumption) | (intro _; decide), by (try dsimp only); first | assumption | exact KR_rfl _, by (try dsimp only); first | assumption | omega | decide | exact Or.inl (by decide) | (intro h9; exact absurd h9 (by decide)) | (intro _; omega) | (intro _; assumption) | (intro _; decide), trivial⟩ (by decide) (by decide) dX9_told_128
              · have ic_31 : v.toInt = 1 := ieq c_31 (rfl) (by decide)
                refine lv_iload_n hx hb dX9_told_85 rfl (lv_at hl 1 rfl) ?_
                refine lv_iconst (v := 2) hx hb dX9_told_86 (by decide) ?_
                refine lv_icmp_ne (tgt := 97) hx hb dX9_told_87 (by decide) (fun c_36 => ?_) (fun c_36 => ?_)
                · have ic_36 : ¬ x.toInt = 2 := ine c_36 (rfl) (by decide)
                  refine lv_aload_n hx hb dX9_told_97 rfl (lv_at hl 0 rfl) ?_
                  refine va_get (D := D) (ci := 9) (v := .int u_28.2.2.2.2.1) (C := RX9) (T := TX9) (N := 37) hx hb htg gRX9 hown hK hP 0 rfl rfl 27 (by decide) (htg _ wi_1177) (fun _ h9 => h9) rfl dX9_told_98 ?_
                  exact x_iret hx hb hr hlk hP hD hS [0, 1, 2, 3, 4, 5, 6] ((u_28.1, u_28.2.1, u_28.2.2.1, u_28.2.2.2.1, u_28.2.2.2.2.1, u_28.2.2.2.2.2.1, u_28.2.2.2.2.2.2.1, u_28.2.2.2.2.2.2.2.1, u_28.2.2.2.2.2.2.2.2.1, u_28.2.2.2.2.2.2.2.2.2.1, u_28.2.2.2.2.2.2.2.2.2.2)) rfl (by decide) ⟨by (try dsimp only); first | assumption | omega | decide | exact Or.inl (by decide) | (intro h9; exact absurd h9 (by decide)) | (intro _; omega) | (intro _; assumption) | (intro _; decide), by (try dsimp only); first | assumption | exact KR_rfl _, by (try dsimp only); first | assumption | omega | decide | exact Or.inl (by decide) | (intro h9; exact absurd h9 (by decide)) | (intro _; omega) | (intro _; assumption) | (intro _; decide), trivial⟩ (by decide) (by decide) dX9_told_101
                · have ic_36 : x.toInt = 2 := ieq c_36 (rfl) (by decide)
                  refine lv_aload_n hx hb dX9_told_90 rfl (lv_at hl 0 rfl) ?_
                  refine va_get (D := D) (ci := 9) (v := .int u_28.2.2.2.1) (C := RX9) (T := TX9) (N := 37) hx hb htg gRX9 hown hK hP 0 rfl rfl 26 (by decide) (htg _ wi_1176) (fun _ h9 => h9) rfl dX9_told_91 ?_
                  refine lv_goto (tgt := 101) hx hb dX9_told_94 (by decide) ?_
                  exact x_iret hx hb hr hlk hP hD hS [0, 1, 2, 3, 4, 5, 6] ((u_28.1, u_28.2.1, u_28.2.2.1, u_28.2.2.2.1, u_28.2.2.2.2.1, u_28.2.2.2.2.2.1, u_28.2.2.2.2.2.2.1, u_28.2.2.2.2.2.2.2.1, u_28.2.2.2.2.2.2.2.2.1, u_28.2.2.2.2.2.2.2.2.2.1, u_28.2.2.2.2.2.2.2.2.2.2)) rfl (by decide) ⟨by (try dsimp only); first | assumption | omega | decide | exact Or.inl (by decide) | (intro h9; exact absurd h9 (by decide)) | (intro _; omega) | (intro _; assumption) | (intro _; decide), by (try dsimp only); first | assumption | exact KR_rfl _, by (try dsimp only); first | assumption | omega | decide | exact Or.inl (by decide) | (intro h9; exact absurd h9 (by decide)) | (intro _; omega) | (intro _; assumption) | (intro _; decide), trivial⟩ (by decide) (by decide) dX9_told_101
            · have ic_30 : v.toInt = 0 := ieq c_30 (rfl) (by decide)
              refine lv_aload_n hx hb dX9_told_74 rfl (lv_at hl 0 rfl) ?_
              refine va_get (D := D) (ci := 9) (v := .int u_28.2.2.1) (C := RX9) (T := TX9) (N := 37) hx hb htg gRX9 hown hK hP 0 rfl rfl 25 (by decide) (htg _ wi_1175) (fun _ h9 => h9) rfl dX9_told_75 ?_
              exact x_iret hx hb hr hlk hP hD hS [0, 1, 2, 3, 4, 5, 6] ((u_28.1, u_28.2.1, u_28.2.2.1, u_28.2.2.2.1, u_28.2.2.2.2.1, u_28.2.2.2.2.2.1, u_28.2.2.2.2.2.2.1, u_28.2.2.2.2.2.2.2.1, u_28.2.2.2.2.2.2.2.2.1, u_28.2.2.2.2.2.2.2.2.2.1, u_28.2.2.2.2.2.2.2.2.2.2)) rfl (by decide) ⟨by (try dsimp only); first | assumption | omega | decide | exact Or.inl (by decide) | (intro h9; exact absurd h9 (by decide)) | (intro _; omega) | (intro _; assumption) | (intro _; decide), by (try dsimp only); first | assumption | exact KR_rfl _, by (try dsimp only); first | assumption | omega | decide | exact Or.inl (by decide) | (intro h9; exact absurd h9 (by decide)) | (intro _; omega) | (intro _; assumption) | (intro _; decide), trivial⟩ (by decide) (by decide) dX9_told_78
          · have ic_27 : z_26.toInt = 0 := ieq c_27 (rfl) (by decide)
            refine lv_bipush (v := (-5)) hx hb dX9_told_58 (by decide) ?_
            exact x_iret hx hb hr hlk hP hD hS [0, 1, 2, 3, 4, 5, 6] ((b23, b24, b25, b26, b27, a0, a4, a5, a6, a7, a8)) rfl (by decide) ⟨by (try dsimp only); first | assumption | omega | decide | exact Or.inl (by decide) | (intro h9; exact absurd h9 (by decide)) | (intro _; omega) | (intro _; assumption) | (intro _; decide), by (try dsimp only); first | assumption | exact KR_rfl _, by (try dsimp only); first | assumption | omega | decide | exact Or.inl (by decide) | (intro h9; exact absurd h9 (by decide)) | (intro _; omega) | (intro _; assumption) | (intro _; decide), trivial⟩ (by decide) (by decide) dX9_told_60
        · have ic_25 : r_24.toInt = 0 := ieq c_25 (rfl) (by decide)
          refine lv_bipush (v := (-3)) hx hb dX9_told_46 (by decide) ?_
          exact x_iret hx hb hr hlk hP hD hS [0, 1, 2, 3, 4, 5, 6] ((b23, b24, b25, b26, b27, a0, a4, a5, a6, a7, a8)) rfl (by decide) ⟨by (try dsimp only); first | assumption | omega | decide | exact Or.inl (by decide) | (intro h9; exact absurd h9 (by decide)) | (intro _; omega) | (intro _; assumption) | (intro _; decide), by (try dsimp only); first | assumption | exact KR_rfl _, by (try dsimp only); first | assumption | omega | decide | exact Or.inl (by decide) | (intro h9; exact absurd h9 (by decide)) | (intro _; omega) | (intro _; assumption) | (intro _; decide), trivial⟩ (by decide) (by decide) dX9_told_48
      · have ic_21 : r_20.toInt = 0 := ieq c_21 (rfl) (by decide)
        refine lv_bipush (v := (-2)) hx hb dX9_told_31 (by decide) ?_
        exact x_iret hx hb hr hlk hP hD hS [0, 1, 2, 3, 4, 5, 6] ((b23, b24, b25, b26, b27, a0, a4, a5, a6, a7, a8)) rfl (by decide) ⟨by (try dsimp only); first | assumption | omega | decide | exact Or.inl (by decide) | (intro h9; exact absurd h9 (by decide)) | (intro _; omega) | (intro _; assumption) | (intro _; decide), by (try dsimp only); first | assumption | exact KR_rfl _, by (try dsimp only); first | assumption | omega | decide | exact Or.inl (by decide) | (intro h9; exact absurd h9 (by decide)) | (intro _; omega) | (intro _; assumption) | (intro _; decide), trivial⟩ (by decide) (by decide) dX9_told_33
    · have ic_17 : ¬ w.toInt = 0 := ine c_17 (rfl) (by decide)
      refine lv_iload hx hb dX9_told_10 (lv_at hl 4 rfl) ?_
      refine lv_iconst (v := 1) hx hb dX9_told_12 (by decide) ?_
      refine lv_icmp_eq (tgt := 34) hx hb dX9_told_13 (by decide) (fun c_37 => ?_) (fun c_37 => ?_)
      · have ic_37 : v.toInt = 1 := ieq c_37 (rfl) (by decide)
        refine lv_iload_n hx hb dX9_told_34 rfl (lv_at hl 3 rfl) ?_
        refine lv_i2l (v := z.toInt64) hx hb dX9_told_35 rfl ?_
        refine lv_lconst (v := 1) hx hb dX9_told_36 (by decide) ?_
        refine lv_ldc2 (v := 8) hx hb hown (htg _ wi_1477) dX9_told_37 ?_
        have ilw_38 : (z.toInt64).toInt = z.toInt := i2l_i _
        refine xk_i (wr := [(sw_9 h0 g b0 b5 b6 b7 b8 b9 b10 b11 b12 b13 b14 b17 b18 b19 b23 b24 b25 b26 b27 b29 b31 b32 b33), (sw_in cT (g 0) 288 a0), (sw_in cT (g 4) 6 a4), (sw_in cT (g 5) 960 a5), (sw_in cT (g 6) 8 a6), (sw_in cT (g 7) 8 a7), (sw_in cT (g 8) 6 a8)]) (xr_S (n := 3) (As := [.long z.toInt64, .long 1, .long 8]) (rest := []) ⟨hx, hb, hml, hown, htg⟩ hK hN hP hD hS hA [] rfl (by decide) (m_within l D cT _ (z.toInt64) (1) (8) (z.toInt) (1) (8) (i2l_i _) (by decide) (by decide)) wi_1270 wi_1271 wi_131 wi_1272 ⟨rfl, by decide +kernel⟩ ⟨Nat.le_of_ble_eq_true rfl, Nat.le_of_ble_eq_true rfl⟩ rfl hl.1 rfl (Nat.le_of_ble_eq_true rfl) dX9_told_40 ⟨Nat.le_of_ble_eq_true rfl, Nat.le_of_ble_eq_true rfl⟩) hP hD hS hA [] [0, 1, 2, 3, 4, 5, 6] rfl rfl (by decide) (by decide) (fun r_40 u_39 H locs hwr_40 hP hD hS => ?_)
        obtain ⟨hP, hD⟩ : PD D A [(sw_9 h0 g b0 b5 b6 b7 b8 b9 b10 b11 b12 b13 b14 b17 b18 b19 b23 b24 b25 b26 b27 b29 b31 b32 b33), (sw_in cT (g 0) 288 a0), (sw_in cT (g 4) 6 a4), (sw_in cT (g 5) 960 a5), (sw_in cT (g 6) 8 a6), (sw_in cT (g 7) 8 a7), (sw_in cT (g 8) 6 a8)] _ := ⟨hP, hD⟩
        have qr_40_0 : Imp (¬ r_40.toInt = 0) (1 ≤ z.toInt ∧ z.toInt ≤ 8) := hwr_40.1
        have qr_40_1 : r_40 = 0 ∨ r_40 = 1 := hwr_40.2.1
        refine lv_if_ne (tgt := 49) hx hb dX9_told_43 (by decide) (fun c_41 => ?_) (fun c_41 => ?_)
        · have ic_41 : ¬ r_40.toInt = 0 := ine c_41 (rfl) (by decide)
          have kqr_40_0 : 1 ≤ z.toInt ∧ z.toInt ≤ 8 := qr_40_0 ic_41
          refine lv_aload_n hx hb dX9_told_49 rfl (lv_at hl 0 rfl) ?_
          refine va_get (D := D) (ci := 9) (v := .ref (g 0)) (C := RX9) (T := TX9) (N := 37) hx hb htg gRX9 hown hK hP 0 rfl rfl 1 (by decide) (htg _ wi_1151) (fun _ h9 => h9) rfl dX9_told_50 ?_
          refine lv_iconst (v := 0) hx hb dX9_told_53 (by decide) ?_
          refine va_iald hx hb hK hP 1 0 rfl rfl (by unfold vp_in; decide) dX9_told_54 ?_
          refine lv_topi (fun z_42 ez_42 => ?_)
          have iz_42 : 0 ≤ z_42.toInt ∧ z_42.toInt ≤ 16 := by rw [ez_42]; exact rd0 pa0 (by decide) rfl
          have nz_42 : z_42.toInt = ((a0) 0).toInt := by rw [ez_42]; rfl
          refine lv_if_ne (tgt := 61) hx hb dX9_told_55 (by decide) (fun c_43 => ?_) (fun c_43 => ?_)
          · have ic_43 : ¬ z_42.toInt = 0 := ine c_43 (rfl) (by decide)
            refine lv_aload_n hx hb dX9_told_61 rfl (lv_at hl 0 rfl) ?_
            refine lv_iload_n hx hb dX9_told_62 rfl (lv_at hl 1 rfl) ?_
            refine lv_iload_n hx hb dX9_told_63 rfl (lv_at hl 2 rfl) ?_
            refine lv_iload_n hx hb dX9_told_64 rfl (lv_at hl 3 rfl) ?_
            refine xk_i (wr := []) (xr_V (n := 3) (As := [.int x, .int y, .int z]) (rest := []) ⟨hx, hb, hml, hown, htg⟩ hK hN hP hD hS hA [0, 1, 2, 3, 4, 5, 6] rfl (by decide) (m_laysBestK l D cT _ (h0) (g) (b0) (b5) (b6) (b7) (b8) (b9) (b10) (b11) (b12) (b13) (b14) (b17) (b18) (b19) (b23) (b24) (b25) (b26) (b27) (b29) (b31) (b32) (b33) (by first | assumption | omega | decide | exact Or.inl (by decide) | (intro h9; exact absurd h9 (by decide)) | (intro _; omega) | (intro _; assumption) | (intro _; decide)) (a0) (by first | assumption | omega | decide | exact Or.inl (by decide) | (intro h9; exact absurd h9 (by decide)) | (intro _; omega) | (intro _; assumption) | (intro _; decide)) (a4) (a5) (by first | assumption | omega | decide | exact Or.inl (by decide) | (intro h9; exact absurd h9 (by decide)) | (intro _; omega) | (intro _; assumption) | (intro _; decide)) (a6) (a7) (a8) (x) (y) (z) (by first | assumption | omega | decide | exact Or.inl (by decide) | (intro h9; exact absurd h9 (by decide)) | (intro _; omega) | (intro _; assumption) | (intro _; decide)) (by first | assumption | omega | decide | exact Or.inl (by decide) | (intro h9; exact absurd h9 (by decide)) | (intro _; omega) | (intro _; assumption) | (intro _; decide))) wi_1478 wi_1480 wi_106 wi_131 wi_1481 rfl rfl rfl ⟨rfl, by decide +kernel⟩ ⟨Nat.le_of_ble_eq_true rfl, Nat.le_of_ble_eq_true rfl⟩ rfl hl.1 rfl (Nat.le_of_ble_eq_true rfl) dX9_told_65 ⟨Nat.le_of_ble_eq_true rfl, Nat.le_of_ble_eq_true rfl⟩) hP hD hS hA [0, 1, 2, 3, 4, 5, 6] [] rfl rfl (by decide) (by decide) (fun r_45 u_44 H locs hwr_45 hP hD hS => ?_)
            obtain ⟨hP, hD⟩ : PD D A [(sw_9 h0 g b0 b5 b6 b7 b8 b9 b10 b11 b12 b13 b14 b17 b18 b19 u_44.1 u_44.2.1 u_44.2.2.1 u_44.2.2.2.1 u_44.2.2.2.2.1 b29 b31 b32 b33), (sw_in cT (g 0) 288 u_44.2.2.2.2.2.1), (sw_in cT (g 4) 6 u_44.2.2.2.2.2.2.1), (sw_in cT (g 5) 960 u_44.2.2.2.2.2.2.2.1), (sw_in cT (g 6) 8 u_44.2.2.2.2.2.2.2.2.1), (sw_in cT (g 7) 8 u_44.2.2.2.2.2.2.2.2.2.1), (sw_in cT (g 8) 6 u_44.2.2.2.2.2.2.2.2.2.2)] _ := ⟨hP, hD⟩
            have qr_45_0 : PI 288 u_44.2.2.2.2.2.1 := hwr_45.1
            have qr_45_1 : KR u_44.2.2.2.2.2.1 a0 := hwr_45.2.1
            have kqr_45_1 : KR u_44.2.2.2.2.2.1 (a0) := KR_tr qr_45_1 (KR_rfl a0)
            have qr_45_2 : PI 960 u_44.2.2.2.2.2.2.2.1 := hwr_45.2.2.1
            refine lv_pop hx hb dX9_told_68 rfl ?_
            refine lv_iload hx hb dX9_told_69 (lv_at hl 4 rfl) ?_
            refine lv_if_ne (tgt := 79) hx hb dX9_told_71 (by decide) (fun c_46 => ?_) (fun c_46 => ?_)
            · have ic_46 : ¬ v.toInt = 0 := ine c_46 (rfl) (by decide)
              refine lv_iload hx hb dX9_told_79 (lv_at hl 4 rfl) ?_
              refine lv_iconst (v := 1) hx hb dX9_told_81 (by decide) ?_
              refine lv_icmp_ne (tgt := 102) hx hb dX9_told_82 (by decide) (fun c_47 => ?_) (fun c_47 => ?_)
              · have ic_47 : ¬ v.toInt = 1 := ine c_47 (rfl) (by decide)
                refine lv_iload hx hb dX9_told_102 (lv_at hl 4 rfl) ?_
                refine lv_bipush (v := 10) hx hb dX9_told_104 (by decide) ?_
                refine lv_isub hx hb dX9_told_106 ?_
                refine lv_topi (fun z_48 ez_48 => ?_)
                refine lv_aload_n hx hb dX9_told_107 rfl (lv_at hl 0 rfl) ?_
                refine va_get (D := D) (ci := 9) (v := .int u_44.2.2.2.2.1) (C := RX9) (T := TX9) (N := 37) hx hb htg gRX9 hown hK hP 0 rfl rfl 27 (by decide) (htg _ wi_1177) (fun _ h9 => h9) rfl dX9_told_108 ?_
                refine lv_icmp_ge (tgt := 127) hx hb dX9_told_111 (by decide) (fun c_49 => ?_) (fun c_49 => ?_)
                · have ic_49 : (u_44.2.2.2.2.1).toInt ≤ z_48.toInt := ile c_49 (rfl) (rfl)
                  refine lv_iconst (v := (-1)) hx hb dX9_told_127 (by decide) ?_
                  exact x_iret hx hb hr hlk hP hD hS [0, 1, 2, 3, 4, 5, 6] ((u_44.1, u_44.2.1, u_44.2.2.1, u_44.2.2.2.1, u_44.2.2.2.2.1, u_44.2.2.2.2.2.1, u_44.2.2.2.2.2.2.1, u_44.2.2.2.2.2.2.2.1, u_44.2.2.2.2.2.2.2.2.1, u_44.2.2.2.2.2.2.2.2.2.1, u_44.2.2.2.2.2.2.2.2.2.2)) rfl (by decide) ⟨by (try dsimp only); first | assumption | omega | decide | exact Or.inl (by decide) | (intro h9; exact absurd h9 (by decide)) | (intro _; omega) | (intro _; assumption) | (intro _; decide), by (try dsimp only); first | assumption | exact KR_rfl _, by (try dsimp only); first | assumption | omega | decide | exact Or.inl (by decide) | (intro h9; exact absurd h9 (by decide)) | (intro _; omega) | (intro _; assumption) | (intro _; decide), trivial⟩ (by decide) (by decide) dX9_told_128
                · have ic_49 : z_48.toInt < (u_44.2.2.2.2.1).toInt := inle c_49 (rfl) (rfl)
                  refine lv_aload_n hx hb dX9_told_114 rfl (lv_at hl 0 rfl) ?_
                  refine va_get (D := D) (ci := 9) (v := .ref (g 7)) (C := RX9) (T := TX9) (N := 37) hx hb htg gRX9 hown hK hP 0 rfl rfl 21 (by decide) (htg _ wi_1171) (fun _ h9 => h9) rfl dX9_told_115 ?_
                  refine lv_iload hx hb dX9_told_118 (lv_at hl 4 rfl) ?_
                  refine lv_bipush (v := 10) hx hb dX9_told_120 (by decide) ?_
                  refine lv_isub hx hb dX9_told_122 ?_
                  refine lv_topi (fun z_50 ez_50 => ?_)
                  refine va_iald hx hb hK hP 5 0 rfl rfl (vp_in_iff.mpr (by omega)) dX9_told_123 ?_
                  refine lv_topi (fun z_51 ez_51 => ?_)
                  refine lv_goto (tgt := 128) hx hb dX9_told_124 (by decide) ?_
                  exact x_iret hx hb hr hlk hP hD hS [0, 1, 2, 3, 4, 5, 6] ((u_44.1, u_44.2.1, u_44.2.2.1, u_44.2.2.2.1, u_44.2.2.2.2.1, u_44.2.2.2.2.2.1, u_44.2.2.2.2.2.2.1, u_44.2.2.2.2.2.2.2.1, u_44.2.2.2.2.2.2.2.2.1, u_44.2.2.2.2.2.2.2.2.2.1, u_44.2.2.2.2.2.2.2.2.2.2)) rfl (by decide) ⟨by (try dsimp only); first | assumption | omega | decide | exact Or.inl (by decide) | (intro h9; exact absurd h9 (by decide)) | (intro _; omega) | (intro _; assumption) | (intro _; decide), by (try dsimp only); first | assumption | exact KR_rfl _, by (try dsimp only); first | assumption | omega | decide | exact Or.inl (by decide) | (intro h9; exact absurd h9 (by decide)) | (intro _; omega) | (intro _; assumption) | (intro _; decide), trivial⟩ (by decide) (by decide) dX9_told_128
              · have ic_47 : v.toInt = 1 := ieq c_47 (rfl) (by decide)
                refine lv_iload_n hx hb dX9_told_85 rfl (lv_at hl 1 rfl) ?_
                refine lv_iconst (v := 2) hx hb dX9_told_86 (by decide) ?_
                refine lv_icmp_ne (tgt := 97) hx hb dX9_told_87 (by decide) (fun c_52 => ?_) (fun c_52 => ?_)
                · have ic_52 : ¬ x.toInt = 2 := ine c_52 (rfl) (by decide)
                  refine lv_aload_n hx hb dX9_told_97 rfl (lv_at hl 0 rfl) ?_
                  refine va_get (D := D) (ci := 9) (v := .int u_44.2.2.2.2.1) (C := RX9) (T := TX9) (N := 37) hx hb htg gRX9 hown hK hP 0 rfl rfl 27 (by decide) (htg _ wi_1177) (fun _ h9 => h9) rfl dX9_told_98 ?_
                  exact x_iret hx hb hr hlk hP hD hS [0, 1, 2, 3, 4, 5, 6] ((u_44.1, u_44.2.1, u_44.2.2.1, u_44.2.2.2.1, u_44.2.2.2.2.1, u_44.2.2.2.2.2.1, u_44.2.2.2.2.2.2.1, u_44.2.2.2.2.2.2.2.1, u_44.2.2.2.2.2.2.2.2.1, u_44.2.2.2.2.2.2.2.2.2.1, u_44.2.2.2.2.2.2.2.2.2.2)) rfl (by decide) ⟨by (try dsimp only); first | assumption | omega | decide | exact Or.inl (by decide) | (intro h9; exact absurd h9 (by decide)) | (intro _; omega) | (intro _; assumption) | (intro _; decide), by (try dsimp only); first | assumption | exact KR_rfl _, by (try dsimp only); first | assumption | omega | decide | exact Or.inl (by decide) | (intro h9; exact absurd h9 (by decide)) | (intro _; omega) | (intro _; assumption) | (intro _; decide), trivial⟩ (by decide) (by decide) dX9_told_101
                · have ic_52 : x.toInt = 2 := ieq c_52 (rfl) (by decide)
                  refine lv_aload_n hx hb dX9_told_90 rfl (lv_at hl 0 rfl) ?_
                  refine va_get (D := D) (ci := 9) (v := .int u_44.2.2.2.1) (C := RX9) (T := TX9) (N := 37) hx hb htg gRX9 hown hK hP 0 rfl rfl 26 (by decide) (htg _ wi_1176) (fun _ h9 => h9) rfl dX9_told_91 ?_
                  refine lv_goto (tgt := 101) hx hb dX9_told_94 (by decide) ?_
                  exact x_iret hx hb hr hlk hP hD hS [0, 1, 2, 3, 4, 5, 6] ((u_44.1, u_44.2.1, u_44.2.2.1, u_44.2.2.2.1, u_44.2.2.2.2.1, u_44.2.2.2.2.2.1, u_44.2.2.2.2.2.2.1, u_44.2.2.2.2.2.2.2.1, u_44.2.2.2.2.2.2.2.2.1, u_44.2.2.2.2.2.2.2.2.2.1, u_44.2.2.2.2.2.2.2.2.2.2)) rfl (by decide) ⟨by (try dsimp only); first | assumption | omega | decide | exact Or.inl (by decide) | (intro h9; exact absurd h9 (by decide)) | (intro _; omega) | (intro _; assumption) | (intro _; decide), by (try dsimp only); first | assumption | exact KR_rfl _, by (try dsimp only); first | assumption | omega | decide | exact Or.inl (by decide) | (intro h9; exact absurd h9 (by decide)) | (intro _; omega) | (intro _; assumption) | (intro _; decide), trivial⟩ (by decide) (by decide) dX9_told_101
            · have ic_46 : v.toInt = 0 := ieq c_46 (rfl) (by decide)
              refine lv_aload_n hx hb dX9_told_74 rfl (lv_at hl 0 rfl) ?_
              refine va_get (D := D) (ci := 9) (v := .int u_44.2.2.1) (C := RX9) (T := TX9) (N := 37) hx hb htg gRX9 hown hK hP 0 rfl rfl 25 (by decide) (htg _ wi_1175) (fun _ h9 => h9) rfl dX9_told_75 ?_
              exact x_iret hx hb hr hlk hP hD hS [0, 1, 2, 3, 4, 5, 6] ((u_44.1, u_44.2.1, u_44.2.2.1, u_44.2.2.2.1, u_44.2.2.2.2.1, u_44.2.2.2.2.2.1, u_44.2.2.2.2.2.2.1, u_44.2.2.2.2.2.2.2.1, u_44.2.2.2.2.2.2.2.2.1, u_44.2.2.2.2.2.2.2.2.2.1, u_44.2.2.2.2.2.2.2.2.2.2)) rfl (by decide) ⟨by (try dsimp only); first | assumption | omega | decide | exact Or.inl (by decide) | (intro h9; exact absurd h9 (by decide)) | (intro _; omega) | (intro _; assumption) | (intro _; decide), by (try dsimp only); first | assumption | exact KR_rfl _, by (try dsimp only); first | assumption | omega | decide | exact Or.inl (by decide) | (intro h9; exact absurd h9 (by decide)) | (intro _; omega) | (intro _; assumption) | (intro _; decide), trivial⟩ (by decide) (by decide) dX9_told_78
          · have ic_43 : z_42.toInt = 0 := ieq c_43 (rfl) (by decide)
            refine lv_bipush (v := (-5)) hx hb dX9_told_58 (by decide) ?_
            exact x_iret hx hb hr hlk hP hD hS [0, 1, 2, 3, 4, 5, 6] ((b23, b24, b25, b26, b27, a0, a4, a5, a6, a7, a8)) rfl (by decide) ⟨by (try dsimp only); first | assumption | omega | decide | exact Or.inl (by decide) | (intro h9; exact absurd h9 (by decide)) | (intro _; omega) | (intro _; assumption) | (intro _; decide), by (try dsimp only); first | assumption | exact KR_rfl _, by (try dsimp only); first | assumption | omega | decide | exact Or.inl (by decide) | (intro h9; exact absurd h9 (by decide)) | (intro _; omega) | (intro _; assumption) | (intro _; decide), trivial⟩ (by decide) (by decide) dX9_told_60
        · have ic_41 : r_40.toInt = 0 := ieq c_41 (rfl) (by decide)
          refine lv_bipush (v := (-3)) hx hb dX9_told_46 (by decide) ?_
          exact x_iret hx hb hr hlk hP hD hS [0, 1, 2, 3, 4, 5, 6] ((b23, b24, b25, b26, b27, a0, a4, a5, a6, a7, a8)) rfl (by decide) ⟨by (try dsimp only); first | assumption | omega | decide | exact Or.inl (by decide) | (intro h9; exact absurd h9 (by decide)) | (intro _; omega) | (intro _; assumption) | (intro _; decide), by (try dsimp only); first | assumption | exact KR_rfl _, by (try dsimp only); first | assumption | omega | decide | exact Or.inl (by decide) | (intro h9; exact absurd h9 (by decide)) | (intro _; omega) | (intro _; assumption) | (intro _; decide), trivial⟩ (by decide) (by decide) dX9_told_48
      · have ic_37 : ¬ v.toInt = 1 := ine c_37 (rfl) (by decide)
        refine lv_iload hx hb dX9_told_16 (lv_at hl 4 rfl) ?_
        refine lv_i2l (v := v.toInt64) hx hb dX9_told_18 rfl ?_
        refine lv_ldc2 (v := 10) hx hb hown (htg _ wi_1475) dX9_told_19 ?_
        refine lv_ldc2 (v := 17) hx hb hown (htg _ wi_1476) dX9_told_22 ?_
        have ilw_53 : (v.toInt64).toInt = v.toInt := i2l_i _
        refine xk_i (wr := [(sw_9 h0 g b0 b5 b6 b7 b8 b9 b10 b11 b12 b13 b14 b17 b18 b19 b23 b24 b25 b26 b27 b29 b31 b32 b33), (sw_in cT (g 0) 288 a0), (sw_in cT (g 4) 6 a4), (sw_in cT (g 5) 960 a5), (sw_in cT (g 6) 8 a6), (sw_in cT (g 7) 8 a7), (sw_in cT (g 8) 6 a8)]) (xr_S (n := 3) (As := [.long v.toInt64, .long 10, .long 17]) (rest := []) ⟨hx, hb, hml, hown, htg⟩ hK hN hP hD hS hA [] rfl (by decide) (m_within l D cT _ (v.toInt64) (10) (17) (v.toInt) (10) (17) (i2l_i _) (by decide) (by decide)) wi_1270 wi_1271 wi_131 wi_1272 ⟨rfl, by decide +kernel⟩ ⟨Nat.le_of_ble_eq_true rfl, Nat.le_of_ble_eq_true rfl⟩ rfl hl.1 rfl (Nat.le_of_ble_eq_true rfl) dX9_told_25 ⟨Nat.le_of_ble_eq_true rfl, Nat.le_of_ble_eq_true rfl⟩) hP hD hS hA [] [0, 1, 2, 3, 4, 5, 6] rfl rfl (by decide) (by decide) (fun r_55 u_54 H locs hwr_55 hP hD hS => ?_)
        obtain ⟨hP, hD⟩ : PD D A [(sw_9 h0 g b0 b5 b6 b7 b8 b9 b10 b11 b12 b13 b14 b17 b18 b19 b23 b24 b25 b26 b27 b29 b31 b32 b33), (sw_in cT (g 0) 288 a0), (sw_in cT (g 4) 6 a4), (sw_in cT (g 5) 960 a5), (sw_in cT (g 6) 8 a6), (sw_in cT (g 7) 8 a7), (sw_in cT (g 8) 6 a8)] _ := ⟨hP, hD⟩
        have qr_55_0 : Imp (¬ r_55.toInt = 0) (10 ≤ v.toInt ∧ v.toInt ≤ 17) := hwr_55.1
        have qr_55_1 : r_55 = 0 ∨ r_55 = 1 := hwr_55.2.1
        refine lv_if_ne (tgt := 34) hx hb dX9_told_28 (by decide) (fun c_56 => ?_) (fun c_56 => ?_)
        · have ic_56 : ¬ r_55.toInt = 0 := ine c_56 (rfl) (by decide)
          have kqr_55_0 : 10 ≤ v.toInt ∧ v.toInt ≤ 17 := qr_55_0 ic_56
          refine lv_iload_n hx hb dX9_told_34 rfl (lv_at hl 3 rfl) ?_
          refine lv_i2l (v := z.toInt64) hx hb dX9_told_35 rfl ?_
          refine lv_lconst (v := 1) hx hb dX9_told_36 (by decide) ?_
          refine lv_ldc2 (v := 8) hx hb hown (htg _ wi_1477) dX9_told_37 ?_
          have ilw_57 : (z.toInt64).toInt = z.toInt := i2l_i _
          refine xk_i (wr := [(sw_9 h0 g b0 b5 b6 b7 b8 b9 b10 b11 b12 b13 b14 b17 b18 b19 b23 b24 b25 b26 b27 b29 b31 b32 b33), (sw_in cT (g 0) 288 a0), (sw_in cT (g 4) 6 a4), (sw_in cT (g 5) 960 a5), (sw_in cT (g 6) 8 a6), (sw_in cT (g 7) 8 a7), (sw_in cT (g 8) 6 a8)]) (xr_S (n := 3) (As := [.long z.toInt64, .long 1, .long 8]) (rest := []) ⟨hx, hb, hml, hown, htg⟩ hK hN hP hD hS hA [] rfl (by decide) (m_within l D cT _ (z.toInt64) (1) (8) (z.toInt) (1) (8) (i2l_i _) (by decide) (by decide)) wi_1270 wi_1271 wi_131 wi_1272 ⟨rfl, by decide +kernel⟩ ⟨Nat.le_of_ble_eq_true rfl, Nat.le_of_ble_eq_true rfl⟩ rfl hl.1 rfl (Nat.le_of_ble_eq_true rfl) dX9_told_40 ⟨Nat.le_of_ble_eq_true rfl, Nat.le_of_ble_eq_true rfl⟩) hP hD hS hA [] [0, 1, 2, 3, 4, 5, 6] rfl rfl (by decide) (by decide) (fun r_59 u_58 H locs hwr_59 hP hD hS => ?_)
          obtain ⟨hP, hD⟩ : PD D A [(sw_9 h0 g b0 b5 b6 b7 b8 b9 b10 b11 b12 b13 b14 b17 b18 b19 b23 b24 b25 b26 b27 b29 b31 b32 b33), (sw_in cT (g 0) 288 a0), (sw_in cT (g 4) 6 a4), (sw_in cT (g 5) 960 a5), (sw_in cT (g 6) 8 a6), (sw_in cT (g 7) 8 a7), (sw_in cT (g 8) 6 a8)] _ := ⟨hP, hD⟩
          have qr_59_0 : Imp (¬ r_59.toInt = 0) (1 ≤ z.toInt ∧ z.toInt ≤ 8) := hwr_59.1
          have qr_59_1 : r_59 = 0 ∨ r_59 = 1 := hwr_59.2.1
          refine lv_if_ne (tgt := 49) hx hb dX9_told_43 (by decide) (fun c_60 => ?_) (fun c_60 => ?_)
          · have ic_60 : ¬ r_59.toInt = 0 := ine c_60 (rfl) (by decide)
            have kqr_59_0 : 1 ≤ z.toInt ∧ z.toInt ≤ 8 := qr_59_0 ic_60
            refine lv_aload_n hx hb dX9_told_49 rfl (lv_at hl 0 rfl) ?_
            refine va_get (D := D) (ci := 9) (v := .ref (g 0)) (C := RX9) (T := TX9) (N := 37) hx hb htg gRX9 hown hK hP 0 rfl rfl 1 (by decide) (htg _ wi_1151) (fun _ h9 => h9) rfl dX9_told_50 ?_
            refine lv_iconst (v := 0) hx hb dX9_told_53 (by decide) ?_
            refine va_iald hx hb hK hP 1 0 rfl rfl (by unfold vp_in; decide) dX9_told_54 ?_
            refine lv_topi (fun z_61 ez_61 => ?_)
            have iz_61 : 0 ≤ z_61.toInt ∧ z_61.toInt ≤ 16 := by rw [ez_61]; exact rd0 pa0 (by decide) rfl
            have nz_61 : z_61.toInt = ((a0) 0).toInt := by rw [ez_61]; rfl
            refine lv_if_ne (tgt := 61) hx hb dX9_told_55 (by decide) (fun c_62 => ?_) (fun c_62 => ?_)
            · have ic_62 : ¬ z_61.toInt = 0 := ine c_62 (rfl) (by decide)
              refine lv_aload_n hx hb dX9_told_61 rfl (lv_at hl 0 rfl) ?_
              refine lv_iload_n hx hb dX9_told_62 rfl (lv_at hl 1 rfl) ?_
              refine lv_iload_n hx hb dX9_told_63 rfl (lv_at hl 2 rfl) ?_
              refine lv_iload_n hx hb dX9_told_64 rfl (lv_at hl 3 rfl) ?_
              refine xk_i (wr := []) (xr_V (n := 3) (As := [.int x, .int y, .int z]) (rest := []) ⟨hx, hb, hml, hown, htg⟩ hK hN hP hD hS hA [0, 1, 2, 3, 4, 5, 6] rfl (by decide) (m_laysBestK l D cT _ (h0) (g) (b0) (b5) (b6) (b7) (b8) (b9) (b10) (b11) (b12) (b13) (b14) (b17) (b18) (b19) (b23) (b24) (b25) (b26) (b27) (b29) (b31) (b32) (b33) (by first | assumption | omega | decide | exact Or.inl (by decide) | (intro h9; exact absurd h9 (by decide)) | (intro _; omega) | (intro _; assumption) | (intro _; decide)) (a0) (by first | assumption | omega | decide | exact Or.inl (by decide) | (intro h9; exact absurd h9 (by decide)) | (intro _; omega) | (intro _; assumption) | (intro _; decide)) (a4) (a5) (by first | assumption | omega | decide | exact Or.inl (by decide) | (intro h9; exact absurd h9 (by decide)) | (intro _; omega) | (intro _; assumption) | (intro _; decide)) (a6) (a7) (a8) (x) (y) (z) (by first | assumption | omega | decide | exact Or.inl (by decide) | (intro h9; exact absurd h9 (by decide)) | (intro _; omega) | (intro _; assumption) | (intro _; decide)) (by first | assumption | omega | decide | exact Or.inl (by decide) | (intro h9; exact absurd h9 (by decide)) | (intro _; omega) | (intro _; assumption) | (intro _; decide))) wi_1478 wi_1480 wi_106 wi_131 wi_1481 rfl rfl rfl ⟨rfl, by decide +kernel⟩ ⟨Nat.le_of_ble_eq_true rfl, Nat.le_of_ble_eq_true rfl⟩ rfl hl.1 rfl (Nat.le_of_ble_eq_true rfl) dX9_told_65 ⟨Nat.le_of_ble_eq_true rfl, Nat.le_of_ble_eq_true rfl⟩) hP hD hS hA [0, 1, 2, 3, 4, 5, 6] [] rfl rfl (by decide) (by decide) (fun r_64 u_63 H locs hwr_64 hP hD hS => ?_)
              obtain ⟨hP, hD⟩ : PD D A [(sw_9 h0 g b0 b5 b6 b7 b8 b9 b10 b11 b12 b13 b14 b17 b18 b19 u_63.1 u_63.2.1 u_63.2.2.1 u_63.2.2.2.1 u_63.2.2.2.2.1 b29 b31 b32 b33), (sw_in cT (g 0) 288 u_63.2.2.2.2.2.1), (sw_in cT (g 4) 6 u_63.2.2.2.2.2.2.1), (sw_in cT (g 5) 960 u_63.2.2.2.2.2.2.2.1), (sw_in cT (g 6) 8 u_63.2.2.2.2.2.2.2.2.1), (sw_in cT (g 7) 8 u_63.2.2.2.2.2.2.2.2.2.1), (sw_in cT (g 8) 6 u_63.2.2.2.2.2.2.2.2.2.2)] _ := ⟨hP, hD⟩
              have qr_64_0 : PI 288 u_63.2.2.2.2.2.1 := hwr_64.1
              have qr_64_1 : KR u_63.2.2.2.2.2.1 a0 := hwr_64.2.1
              have kqr_64_1 : KR u_63.2.2.2.2.2.1 (a0) := KR_tr qr_64_1 (KR_rfl a0)
              have qr_64_2 : PI 960 u_63.2.2.2.2.2.2.2.1 := hwr_64.2.2.1
              refine lv_pop hx hb dX9_told_68 rfl ?_
              refine lv_iload hx hb dX9_told_69 (lv_at hl 4 rfl) ?_
              refine lv_if_ne (tgt := 79) hx hb dX9_told_71 (by decide) (fun c_65 => ?_) (fun c_65 => ?_)
              · have ic_65 : ¬ v.toInt = 0 := ine c_65 (rfl) (by decide)
                refine lv_iload hx hb dX9_told_79 (lv_at hl 4 rfl) ?_
                refine lv_iconst (v := 1) hx hb dX9_told_81 (by decide) ?_
                refine lv_icmp_ne (tgt := 102) hx hb dX9_told_82 (by decide) (fun c_66 => ?_) (fun c_66 => ?_)
                · have ic_66 : ¬ v.toInt = 1 := ine c_66 (rfl) (by decide)
                  refine lv_iload hx hb dX9_told_102 (lv_at hl 4 rfl) ?_
                  refine lv_bipush (v := 10) hx hb dX9_told_104 (by decide) ?_
                  refine lv_isub hx hb dX9_told_106 ?_
                  refine lv_topi (fun z_67 ez_67 => ?_)
                  have iz_67 : z_67.toInt = v.toInt - 10 := toInt_subI ez_67 (rfl) (by decide) (by omega)
                  refine lv_aload_n hx hb dX9_told_107 rfl (lv_at hl 0 rfl) ?_
                  refine va_get (D := D) (ci := 9) (v := .int u_63.2.2.2.2.1) (C := RX9) (T := TX9) (N := 37) hx hb htg gRX9 hown hK hP 0 rfl rfl 27 (by decide) (htg _ wi_1177) (fun _ h9 => h9) rfl dX9_told_108 ?_
                  refine lv_icmp_ge (tgt := 127) hx hb dX9_told_111 (by decide) (fun c_68 => ?_) (fun c_68 => ?_)
                  · have ic_68 : (u_63.2.2.2.2.1).toInt ≤ z_67.toInt := ile c_68 (rfl) (rfl)
                    refine lv_iconst (v := (-1)) hx hb dX9_told_127 (by decide) ?_
                    exact x_iret hx hb hr hlk hP hD hS [0, 1, 2, 3, 4, 5, 6] ((u_63.1, u_63.2.1, u_63.2.2.1, u_63.2.2.2.1, u_63.2.2.2.2.1, u_63.2.2.2.2.2.1, u_63.2.2.2.2.2.2.1, u_63.2.2.2.2.2.2.2.1, u_63.2.2.2.2.2.2.2.2.1, u_63.2.2.2.2.2.2.2.2.2.1, u_63.2.2.2.2.2.2.2.2.2.2)) rfl (by decide) ⟨by (try dsimp only); first | assumption | omega | decide | exact Or.inl (by decide) | (intro h9; exact absurd h9 (by decide)) | (intro _; omega) | (intro _; assumption) | (intro _; decide), by (try dsimp only); first | assumption | exact KR_rfl _, by (try dsimp only); first | assumption | omega | decide | exact Or.inl (by decide) | (intro h9; exact absurd h9 (by decide)) | (intro _; omega) | (intro _; assumption) | (intro _; decide), trivial⟩ (by decide) (by decide) dX9_told_128
                  · have ic_68 : z_67.toInt < (u_63.2.2.2.2.1).toInt := inle c_68 (rfl) (rfl)
                    refine lv_aload_n hx hb dX9_told_114 rfl (lv_at hl 0 rfl) ?_
                    refine va_get (D := D) (ci := 9) (v := .ref (g 7)) (C := RX9) (T := TX9) (N := 37) hx hb htg gRX9 hown hK hP 0 rfl rfl 21 (by decide) (htg _ wi_1171) (fun _ h9 => h9) rfl dX9_told_115 ?_
                    refine lv_iload hx hb dX9_told_118 (lv_at hl 4 rfl) ?_
                    refine lv_bipush (v := 10) hx hb dX9_told_120 (by decide) ?_
                    refine lv_isub hx hb dX9_told_122 ?_
                    refine lv_topi (fun z_69 ez_69 => ?_)
                    have iz_69 : z_69.toInt = v.toInt - 10 := toInt_subI ez_69 (rfl) (by decide) (by omega)
                    refine va_iald hx hb hK hP 5 0 rfl rfl (vp_in_iff.mpr (by omega)) dX9_told_123 ?_
                    refine lv_topi (fun z_70 ez_70 => ?_)
                    refine lv_goto (tgt := 128) hx hb dX9_told_124 (by decide) ?_
                    exact x_iret hx hb hr hlk hP hD hS [0, 1, 2, 3, 4, 5, 6] ((u_63.1, u_63.2.1, u_63.2.2.1, u_63.2.2.2.1, u_63.2.2.2.2.1, u_63.2.2.2.2.2.1, u_63.2.2.2.2.2.2.1, u_63.2.2.2.2.2.2.2.1, u_63.2.2.2.2.2.2.2.2.1, u_63.2.2.2.2.2.2.2.2.2.1, u_63.2.2.2.2.2.2.2.2.2.2)) rfl (by decide) ⟨by (try dsimp only); first | assumption | omega | decide | exact Or.inl (by decide) | (intro h9; exact absurd h9 (by decide)) | (intro _; omega) | (intro _; assumption) | (intro _; decide), by (try dsimp only); first | assumption | exact KR_rfl _, by (try dsimp only); first | assumption | omega | decide | exact Or.inl (by decide) | (intro h9; exact absurd h9 (by decide)) | (intro _; omega) | (intro _; assumption) | (intro _; decide), trivial⟩ (by decide) (by decide) dX9_told_128
                · have ic_66 : v.toInt = 1 := ieq c_66 (rfl) (by decide)
                  refine lv_iload_n hx hb dX9_told_85 rfl (lv_at hl 1 rfl) ?_
                  refine lv_iconst (v := 2) hx hb dX9_told_86 (by decide) ?_
                  refine lv_icmp_ne (tgt := 97) hx hb dX9_told_87 (by decide) (fun c_71 => ?_) (fun c_71 => ?_)
                  · have ic_71 : ¬ x.toInt = 2 := ine c_71 (rfl) (by decide)
                    refine lv_aload_n hx hb dX9_told_97 rfl (lv_at hl 0 rfl) ?_
                    refine va_get (D := D) (ci := 9) (v := .int u_63.2.2.2.2.1) (C := RX9) (T := TX9) (N := 37) hx hb htg gRX9 hown hK hP 0 rfl rfl 27 (by decide) (htg _ wi_1177) (fun _ h9 => h9) rfl dX9_told_98 ?_
                    exact x_iret hx hb hr hlk hP hD hS [0, 1, 2, 3, 4, 5, 6] ((u_63.1, u_63.2.1, u_63.2.2.1, u_63.2.2.2.1, u_63.2.2.2.2.1, u_63.2.2.2.2.2.1, u_63.2.2.2.2.2.2.1, u_63.2.2.2.2.2.2.2.1, u_63.2.2.2.2.2.2.2.2.1, u_63.2.2.2.2.2.2.2.2.2.1, u_63.2.2.2.2.2.2.2.2.2.2)) rfl (by decide) ⟨by (try dsimp only); first | assumption | omega | decide | exact Or.inl (by decide) | (intro h9; exact absurd h9 (by decide)) | (intro _; omega) | (intro _; assumption) | (intro _; decide), by (try dsimp only); first | assumption | exact KR_rfl _, by (try dsimp only); first | assumption | omega | decide | exact Or.inl (by decide) | (intro h9; exact absurd h9 (by decide)) | (intro _; omega) | (intro _; assumption) | (intro _; decide), trivial⟩ (by decide) (by decide) dX9_told_101
                  · have ic_71 : x.toInt = 2 := ieq c_71 (rfl) (by decide)
                    refine lv_aload_n hx hb dX9_told_90 rfl (lv_at hl 0 rfl) ?_
                    refine va_get (D := D) (ci := 9) (v := .int u_63.2.2.2.1) (C := RX9) (T := TX9) (N := 37) hx hb htg gRX9 hown hK hP 0 rfl rfl 26 (by decide) (htg _ wi_1176) (fun _ h9 => h9) rfl dX9_told_91 ?_
                    refine lv_goto (tgt := 101) hx hb dX9_told_94 (by decide) ?_
                    exact x_iret hx hb hr hlk hP hD hS [0, 1, 2, 3, 4, 5, 6] ((u_63.1, u_63.2.1, u_63.2.2.1, u_63.2.2.2.1, u_63.2.2.2.2.1, u_63.2.2.2.2.2.1, u_63.2.2.2.2.2.2.1, u_63.2.2.2.2.2.2.2.1, u_63.2.2.2.2.2.2.2.2.1, u_63.2.2.2.2.2.2.2.2.2.1, u_63.2.2.2.2.2.2.2.2.2.2)) rfl (by decide) ⟨by (try dsimp only); first | assumption | omega | decide | exact Or.inl (by decide) | (intro h9; exact absurd h9 (by decide)) | (intro _; omega) | (intro _; assumption) | (intro _; decide), by (try dsimp only); first | assumption | exact KR_rfl _, by (try dsimp only); first | assumption | omega | decide | exact Or.inl (by decide) | (intro h9; exact absurd h9 (by decide)) | (intro _; omega) | (intro _; assumption) | (intro _; decide), trivial⟩ (by decide) (by decide) dX9_told_101
              · have ic_65 : v.toInt = 0 := ieq c_65 (rfl) (by decide)
                refine lv_aload_n hx hb dX9_told_74 rfl (lv_at hl 0 rfl) ?_
                refine va_get (D := D) (ci := 9) (v := .int u_63.2.2.1) (C := RX9) (T := TX9) (N := 37) hx hb htg gRX9 hown hK hP 0 rfl rfl 25 (by decide) (htg _ wi_1175) (fun _ h9 => h9) rfl dX9_told_75 ?_
                exact x_iret hx hb hr hlk hP hD hS [0, 1, 2, 3, 4, 5, 6] ((u_63.1, u_63.2.1, u_63.2.2.1, u_63.2.2.2.1, u_63.2.2.2.2.1, u_63.2.2.2.2.2.1, u_63.2.2.2.2.2.2.1, u_63.2.2.2.2.2.2.2.1, u_63.2.2.2.2.2.2.2.2.1, u_63.2.2.2.2.2.2.2.2.2.1, u_63.2.2.2.2.2.2.2.2.2.2)) rfl (by decide) ⟨by (try dsimp only); first | assumption | omega | decide | exact Or.inl (by decide) | (intro h9; exact absurd h9 (by decide)) | (intro _; omega) | (intro _; assumption) | (intro _; decide), by (try dsimp only); first | assumption | exact KR_rfl _, by (try dsimp only); first | assumption | omega | decide | exact Or.inl (by decide) | (intro h9; exact absurd h9 (by decide)) | (intro _; omega) | (intro _; assumption) | (intro _; decide), trivial⟩ (by decide) (by decide) dX9_told_78
            · have ic_62 : z_61.toInt = 0 := ieq c_62 (rfl) (by decide)
              refine lv_bipush (v := (-5)) hx hb dX9_told_58 (by decide) ?_
              exact x_iret hx hb hr hlk hP hD hS [0, 1, 2, 3, 4, 5, 6] ((b23, b24, b25, b26, b27, a0, a4, a5, a6, a7, a8)) rfl (by decide) ⟨by (try dsimp only); first | assumption | omega | decide | exact Or.inl (by decide) | (intro h9; exact absurd h9 (by decide)) | (intro _; omega) | (intro _; assumption) | (intro _; decide), by (try dsimp only); first | assumption | exact KR_rfl _, by (try dsimp only); first | assumption | omega | decide | exact Or.inl (by decide) | (intro h9; exact absurd h9 (by decide)) | (intro _; omega) | (intro _; assumption) | (intro _; decide), trivial⟩ (by decide) (by decide) dX9_told_60
          · have ic_60 : r_59.toInt = 0 := ieq c_60 (rfl) (by decide)
            refine lv_bipush (v := (-3)) hx hb dX9_told_46 (by decide) ?_
            exact x_iret hx hb hr hlk hP hD hS [0, 1, 2, 3, 4, 5, 6] ((b23, b24, b25, b26, b27, a0, a4, a5, a6, a7, a8)) rfl (by decide) ⟨by (try dsimp only); first | assumption | omega | decide | exact Or.inl (by decide) | (intro h9; exact absurd h9 (by decide)) | (intro _; omega) | (intro _; assumption) | (intro _; decide), by (try dsimp only); first | assumption | exact KR_rfl _, by (try dsimp only); first | assumption | omega | decide | exact Or.inl (by decide) | (intro h9; exact absurd h9 (by decide)) | (intro _; omega) | (intro _; assumption) | (intro _; decide), trivial⟩ (by decide) (by decide) dX9_told_48
        · have ic_56 : r_55.toInt = 0 := ieq c_56 (rfl) (by decide)
          refine lv_bipush (v := (-2)) hx hb dX9_told_31 (by decide) ?_
          exact x_iret hx hb hr hlk hP hD hS [0, 1, 2, 3, 4, 5, 6] ((b23, b24, b25, b26, b27, a0, a4, a5, a6, a7, a8)) rfl (by decide) ⟨by (try dsimp only); first | assumption | omega | decide | exact Or.inl (by decide) | (intro h9; exact absurd h9 (by decide)) | (intro _; omega) | (intro _; assumption) | (intro _; decide), by (try dsimp only); first | assumption | exact KR_rfl _, by (try dsimp only); first | assumption | omega | decide | exact Or.inl (by decide) | (intro h9; exact absurd h9 (by decide)) | (intro _; omega) | (intro _; assumption) | (intro _; decide), trivial⟩ (by decide) (by decide) dX9_told_33
