set_option maxHeartbeats 4000000 in
set_option maxRecDepth 100000 in
theorem m_seeks_0K (l : Launch) (D : va_G) (cT : Nat → ClassId) (sz : Nat) (h0 : Nat) (g : Nat → Nat) (b0 : Int32) (b5 : Int32) (b6 : Int32) (b7 : Int32) (b8 : Int32) (b9 : Int32) (b10 : Int32) (b11 : Int32) (b12 : Int32) (b13 : Int32) (b14 : Int32) (b17 : Int32) (b18 : Int32) (b19 : Int32) (b23 : Int32) (b24 : Int32) (b25 : Int32) (b26 : Int32) (b27 : Int32) (b29 : Int32) (b31 : Int32) (b32 : Int32) (b33 : Int32) (hb5 : 0 ≤ b5.toInt ∧ b5.toInt ≤ 900) (a0 : Nat → Int32) (pa0 : PI 288 a0) (a4 : Nat → Int32) (a5 : Nat → Int32) (pa5 : PI 960 a5) (a6 : Nat → Int32) (a7 : Nat → Int32) (a8 : Nat → Int32) (x : Int32) (hb24 : 0 ≤ b24.toInt ∧ b24.toInt ≤ 5) (hxk : 0 ≤ x.toInt ∧ x.toInt + 0 = b27.toInt) (hb27 : 0 ≤ b27.toInt ∧ b27.toInt ≤ 8) : Met l yX9_seeks (wsc yX9_seeks cX9_seeks 9 none) { frames := 4, cells := 0, slots := 0, locals := 146 } (va_Pc [.ref h0, .int x] (PX D cT sz [(sw_9 h0 g b0 b5 b6 b7 b8 b9 b10 b11 b12 b13 b14 b17 b18 b19 b23 b24 b25 b26 b27 b29 b31 b32 b33), (sw_in cT (g 0) 288 a0), (sw_in cT (g 4) 6 a4), (sw_in cT (g 5) 960 a5), (sw_in cT (g 6) 8 a6), (sw_in cT (g 7) 8 a7), (sw_in cT (g 8) 6 a8)])) (va_Qv (fun (u : Int32 × Int32 × (Nat → Int32) × (Nat → Int32) × (Nat → Int32) × (Nat → Int32) × (Nat → Int32) × (Nat → Int32)) => (PI 288 u.2.2.1) ∧ (KR u.2.2.1 a0) ∧ (PI 960 u.2.2.2.2.1) ∧ (KB (96 * x.toInt) u.2.2.2.2.1 a5) ∧ (True)) (fun u t => RW D (va_A [(sw_9 h0 g b0 b5 b6 b7 b8 b9 b10 b11 b12 b13 b14 b17 b18 b19 b23 b24 b25 b26 b27 b29 b31 b32 b33), (sw_in cT (g 0) 288 a0), (sw_in cT (g 4) 6 a4), (sw_in cT (g 5) 960 a5), (sw_in cT (g 6) 8 a6), (sw_in cT (g 7) 8 a7), (sw_in cT (g 8) 6 a8)] sz) ((fun u : Int32 × Int32 × (Nat → Int32) × (Nat → Int32) × (Nat → Int32) × (Nat → Int32) × (Nat → Int32) × (Nat → Int32) => [(sw_9 h0 g b0 b5 b6 b7 b8 b9 b10 b11 b12 b13 b14 b17 b18 b19 b23 b24 u.1 u.2.1 b27 b29 b31 b32 b33), (sw_in cT (g 0) 288 u.2.2.1), (sw_in cT (g 4) 6 u.2.2.2.1), (sw_in cT (g 5) 960 u.2.2.2.2.1), (sw_in cT (g 6) 8 u.2.2.2.2.2.1), (sw_in cT (g 7) 8 u.2.2.2.2.2.2.1), (sw_in cT (g 8) 6 u.2.2.2.2.2.2.2)]) u) t) (va_A [(sw_9 h0 g b0 b5 b6 b7 b8 b9 b10 b11 b12 b13 b14 b17 b18 b19 b23 b24 b25 b26 b27 b29 b31 b32 b33), (sw_in cT (g 0) 288 a0), (sw_in cT (g 4) 6 a4), (sw_in cT (g 5) 960 a5), (sw_in cT (g 6) 8 a6), (sw_in cT (g 7) 8 a7), (sw_in cT (g 8) 6 a8)] sz)) 0 0 (va_A [(sw_9 h0 g b0 b5 b6 b7 b8 b9 b10 b11 b12 b13 b14 b17 b18 b19 b23 b24 b25 b26 b27 b29 b31 b32 b33), (sw_in cT (g 0) 288 a0), (sw_in cT (g 4) 6 a4), (sw_in cT (g 5) 960 a5), (sw_in cT (g 6) 8 a6), (sw_in cT (g 7) 8 a7), (sw_in cT (g 8) 6 a8)] sz) := by
  refine m_of (y := yX9_seeks) (cc := cX9_seeks) (nL := 9) (ret := none) (D := D) (cT := cT) (av := [.ref h0, .int x]) (wi := [(sw_9 h0 g b0 b5 b6 b7 b8 b9 b10 b11 b12 b13 b14 b17 b18 b19 b23 b24 b25 b26 b27 b29 b31 b32 b33), (sw_in cT (g 0) 288 a0), (sw_in cT (g 4) 6 a4), (sw_in cT (g 5) 960 a5), (sw_in cT (g 6) 8 a6), (sw_in cT (g 7) 8 a7), (sw_in cT (g 8) 6 a8)]) (fun A => va_Qv (fun (u : Int32 × Int32 × (Nat → Int32) × (Nat → Int32) × (Nat → Int32) × (Nat → Int32) × (Nat → Int32) × (Nat → Int32)) => (PI 288 u.2.2.1) ∧ (KR u.2.2.1 a0) ∧ (PI 960 u.2.2.2.2.1) ∧ (KB (96 * x.toInt) u.2.2.2.2.1 a5) ∧ (True)) (fun u t => RW D A ((fun u : Int32 × Int32 × (Nat → Int32) × (Nat → Int32) × (Nat → Int32) × (Nat → Int32) × (Nat → Int32) × (Nat → Int32) => [(sw_9 h0 g b0 b5 b6 b7 b8 b9 b10 b11 b12 b13 b14 b17 b18 b19 b23 b24 u.1 u.2.1 b27 b29 b31 b32 b33), (sw_in cT (g 0) 288 u.2.2.1), (sw_in cT (g 4) 6 u.2.2.2.1), (sw_in cT (g 5) 960 u.2.2.2.2.1), (sw_in cT (g 6) 8 u.2.2.2.2.2.1), (sw_in cT (g 7) 8 u.2.2.2.2.2.2.1), (sw_in cT (g 8) 6 u.2.2.2.2.2.2.2)]) u) t) A) (by decide) (Nat.le_of_ble_eq_true rfl) ?_
  intro p e s m below meth c A hx hb hml hown htg hK hN hr hlk hnm hsz hP hD hS hA ls hl
  have hown : s.vm.findClass RX9 = some m.cls := hown
  have hl : lv_has ls 9 [(0, .ref h0), (1, .int x)] := hl
  have tc_0 : (0 : Int32).toInt = 0 := by decide
  have tc_1 : (1 : Int32).toInt = 1 := by decide
  have tc_2 : (2 : Int32).toInt = 2 := by decide
  have tc_3 : (3 : Int32).toInt = 3 := by decide
  have tc_4 : (4 : Int32).toInt = 4 := by decide
  have tc_5 : (5 : Int32).toInt = 5 := by decide
  have tc_6 : (6 : Int32).toInt = 6 := by decide
  refine lv_iload_n hx hb dX9_seeks_0 rfl (lv_at hl 1 rfl) ?_
  refine lv_aload_n hx hb dX9_seeks_1 rfl (lv_at hl 0 rfl) ?_
  refine va_get (D := D) (ci := 9) (v := .int b27) (C := RX9) (T := TX9) (N := 37) hx hb htg gRX9 hown hK hP 0 rfl rfl 27 (by decide) (htg _ wi_1177) (fun _ h9 => h9) rfl dX9_seeks_2 ?_
  refine lv_icmp_ne (tgt := 125) hx hb dX9_seeks_5 (by decide) (fun h => absurd (i32_is (by omega)) h) (fun _ => ?_)
  refine lv_aload_n hx hb dX9_seeks_8 rfl (lv_at hl 0 rfl) ?_
  refine xk_i (wr := [(sw_in cT (g 5) 960 a5), (sw_in cT (g 6) 8 a6), (sw_in cT (g 7) 8 a7), (sw_in cT (g 8) 6 a8)]) (xr_V (n := 0) (As := []) (rest := []) ⟨hx, hb, hml, hown, htg⟩ hK hN hP hD hS hA [0, 1, 2] rfl (by decide) (m_firstWorth l D cT _ (h0) (g) (b0) (b5) (b6) (b7) (b8) (b9) (b10) (b11) (b12) (b13) (b14) (b17) (b18) (b19) (b23) (b24) (b25) (b26) (b27) (b29) (b31) (b32) (b33) (by first | assumption | omega | decide | exact Or.inl (by decide) | (intro h9; exact absurd h9 (by decide)) | (intro _; omega) | (intro _; assumption) | (intro _; decide)) (a0) (by first | assumption | omega | decide | exact Or.inl (by decide) | (intro h9; exact absurd h9 (by decide)) | (intro _; omega) | (intro _; assumption) | (intro _; decide)) (a4) (by first | assumption | omega | decide | exact Or.inl (by decide) | (intro h9; exact absurd h9 (by decide)) | (intro _; omega) | (intro _; assumption) | (intro _; decide))) wi_1490 wi_1492 wi_109 wi_131 wi_1493 rfl rfl rfl ⟨rfl, by decide +kernel⟩ ⟨Nat.le_of_ble_eq_true rfl, Nat.le_of_ble_eq_true rfl⟩ rfl hl.1 rfl (Nat.le_of_ble_eq_true rfl) dX9_seeks_9 ⟨Nat.le_of_ble_eq_true rfl, Nat.le_of_ble_eq_true rfl⟩) hP hD hS hA [0, 1, 2] [3, 4, 5, 6] rfl rfl (by decide) (by decide) (fun r_2 u_1 H locs hwr_2 hP hD hS => ?_)
  obtain ⟨hP, hD⟩ : PD D A [(sw_in cT (g 5) 960 a5), (sw_in cT (g 6) 8 a6), (sw_in cT (g 7) 8 a7), (sw_in cT (g 8) 6 a8), (sw_9 h0 g b0 b5 b6 b7 b8 b9 b10 b11 b12 b13 b14 b17 b18 b19 b23 b24 b25 b26 b27 b29 b31 b32 b33), (sw_in cT (g 0) 288 a0), (sw_in cT (g 4) 6 a4)] _ := ⟨hP, hD⟩
  refine lv_istore_n (lv' := [(2, .int r_2), (0, .ref h0), (1, .int x)]) hx hb dX9_seeks_12 rfl hl (by decide) rfl (fun ls hl => ?_)
  refine lv_aload_n hx hb dX9_seeks_13 rfl (lv_at hl 1 rfl) ?_
  refine va_get (D := D) (ci := 9) (v := .int b23) (C := RX9) (T := TX9) (N := 37) hx hb htg gRX9 hown hK hP 4 rfl rfl 23 (by decide) (htg _ wi_1173) (fun _ h9 => h9) rfl dX9_seeks_14 ?_
  refine lv_iconst (v := 2) hx hb dX9_seeks_17 (by decide) ?_
  refine lv_icmp_ne (tgt := 28) hx hb dX9_seeks_18 (by decide) (fun c_3 => ?_) (fun c_3 => ?_)
  · have ic_3 : ¬ b23.toInt = 2 := ine c_3 (rfl) (by decide)
    refine lv_iconst (v := 0) hx hb dX9_seeks_28 (by decide) ?_
    refine lv_istore_n (lv' := [(3, .int 0), (2, .int r_2), (0, .ref h0), (1, .int x)]) hx hb dX9_seeks_29 rfl hl (by decide) rfl (fun ls hl => ?_)
    refine lv_iload_n hx hb dX9_seeks_30 rfl (lv_at hl 1 rfl) ?_
    refine lv_aload_n hx hb dX9_seeks_31 rfl (lv_at hl 2 rfl) ?_
    refine va_get (D := D) (ci := 9) (v := .int b25) (C := RX9) (T := TX9) (N := 37) hx hb htg gRX9 hown hK hP 4 rfl rfl 25 (by decide) (htg _ wi_1175) (fun _ h9 => h9) rfl dX9_seeks_32 ?_
    refine lv_icmp_lt (tgt := 54) hx hb dX9_seeks_35 (by decide) (fun c_4 => ?_) (fun c_4 => ?_)
    · have ic_4 : r_2.toInt < b25.toInt := ilt c_4 (rfl) (rfl)
      exact x_vret hx hb hr hlk hP hD hS [4, 5, 6, 0, 1, 2, 3] ((b25, b26, a0, a4, a5, a6, a7, a8)) rfl (by decide) ⟨by (try dsimp only); first | assumption | omega | decide | exact Or.inl (by decide) | (intro h9; exact absurd h9 (by decide)) | (intro _; omega) | (intro _; assumption) | (intro _; decide), by (try dsimp only); first | assumption | exact KR_rfl _, by (try dsimp only); first | assumption | omega | decide | exact Or.inl (by decide) | (intro h9; exact absurd h9 (by decide)) | (intro _; omega) | (intro _; assumption) | (intro _; decide), by (try dsimp only); first | assumption | exact KB_rfl _ _, trivial⟩ (by decide) (by decide) dX9_seeks_54
    · have ic_4 : b25.toInt ≤ r_2.toInt := inlt c_4 (rfl) (rfl)
      refine lv_iload_n hx hb dX9_seeks_38 rfl (lv_at hl 1 rfl) ?_
      refine lv_aload_n hx hb dX9_seeks_39 rfl (lv_at hl 2 rfl) ?_
      refine va_get (D := D) (ci := 9) (v := .int b25) (C := RX9) (T := TX9) (N := 37) hx hb htg gRX9 hown hK hP 4 rfl rfl 25 (by decide) (htg _ wi_1175) (fun _ h9 => h9) rfl dX9_seeks_40 ?_
      refine lv_icmp_ne (tgt := 55) hx hb dX9_seeks_43 (by decide) (fun c_5 => ?_) (fun c_5 => ?_)
      · have ic_5 : ¬ r_2.toInt = b25.toInt := ine c_5 (rfl) (rfl)
        refine lv_aload_n hx hb dX9_seeks_55 rfl (lv_at hl 2 rfl) ?_
        refine lv_iload_n hx hb dX9_seeks_56 rfl (lv_at hl 1 rfl) ?_
        refine va_put (D := D) (ci := 9) (v := .int r_2) (ty := .int) (C := RX9) (T := TX9) (N := 37) hx hb htg gRX9 tyX9 tyX9_ok nmX9 hown hK hP hD hS 4 rfl rfl 25 (by decide) (htg _ wi_1175) (fun _ h9 => h9) rfl (by decide +kernel) rfl rfl (Nat.le_of_ble_eq_true rfl) dX9_seeks_57 (fun H locs hP hD hS => ?_)
        obtain ⟨hP, hD⟩ : PD D A [(sw_in cT (g 5) 960 a5), (sw_in cT (g 6) 8 a6), (sw_in cT (g 7) 8 a7), (sw_in cT (g 8) 6 a8), (sw_9 h0 g b0 b5 b6 b7 b8 b9 b10 b11 b12 b13 b14 b17 b18 b19 b23 b24 r_2 b26 b27 b29 b31 b32 b33), (sw_in cT (g 0) 288 a0), (sw_in cT (g 4) 6 a4)] _ := ⟨hP, hD⟩
        refine lv_aload_n hx hb dX9_seeks_60 rfl (lv_at hl 2 rfl) ?_
        refine lv_iload_n hx hb dX9_seeks_61 rfl (lv_at hl 0 rfl) ?_
        refine va_put (D := D) (ci := 9) (v := .int 0) (ty := .int) (C := RX9) (T := TX9) (N := 37) hx hb htg gRX9 tyX9 tyX9_ok nmX9 hown hK hP hD hS 4 rfl rfl 26 (by decide) (htg _ wi_1176) (fun _ h9 => h9) rfl (by decide +kernel) rfl rfl (Nat.le_of_ble_eq_true rfl) dX9_seeks_62 (fun H locs hP hD hS => ?_)
        obtain ⟨hP, hD⟩ : PD D A [(sw_in cT (g 5) 960 a5), (sw_in cT (g 6) 8 a6), (sw_in cT (g 7) 8 a7), (sw_in cT (g 8) 6 a8), (sw_9 h0 g b0 b5 b6 b7 b8 b9 b10 b11 b12 b13 b14 b17 b18 b19 b23 b24 r_2 0 b27 b29 b31 b32 b33), (sw_in cT (g 0) 288 a0), (sw_in cT (g 4) 6 a4)] _ := ⟨hP, hD⟩
        refine lv_iconst (v := 0) hx hb dX9_seeks_65 (by decide) ?_
        refine lv_istore (lv' := [(4, .int 0), (3, .int 0), (2, .int r_2), (0, .ref h0), (1, .int x)]) hx hb dX9_seeks_66 hl (by decide) rfl (fun ls hl => ?_)
        refine (fun (key : ∀ (n9_68 : Nat) (k9_68 : Nat) (f9_68_0 : Nat → Int32) (H : Heap) (locs : List Loc) (ls : Array Slot), (k9_68 : Int) ≤ x.toInt → x.toInt < (k9_68 : Int) + n9_68 → PD D A [(sw_in cT (g 5) 960 a5), (sw_in cT (g 6) 8 a6), (sw_in cT (g 7) 8 f9_68_0), (sw_in cT (g 8) 6 a8), (sw_9 h0 g b0 b5 b6 b7 b8 b9 b10 b11 b12 b13 b14 b17 b18 b19 b23 b24 r_2 0 b27 b29 b31 b32 b33), (sw_in cT (g 0) 288 a0), (sw_in cT (g 4) 6 a4)] H → va_S A s.heap H locs → lv_has ls 9 [(4, .int (nI k9_68)), (3, .int 0), (2, .int r_2), (0, .ref h0), (1, .int x)] → W p l e _ s m _ below meth c H locs _ _ _ (F0 m 68 ls [])) => key (Int.toNat (x.toInt - 0) + 1) 0 _ _ _ _ (by omega) (by omega)  ⟨hP, hD⟩ hS (lv_sub hl [0, 1, 2, 3, 4] rfl)) ?_
        intro n9_68
        induction n9_68 with
        | zero => intro k9_68 f9_68_0 H locs ls hq1 hq2; exact absurd hq2 (by omega)
        | succ n9_68 ih_68 =>
          intro k9_68 f9_68_0 H locs ls hq1_68 hq2_68  hPD hS hl
          obtain ⟨hP, hD⟩ := hPD
          have hk9_68 : (nI k9_68).toInt = (k9_68 : Int) := nI_toInt (by omega)
          refine lv_iload hx hb dX9_seeks_68 (lv_at hl 0 rfl) ?_
          refine lv_iload_n hx hb dX9_seeks_70 rfl (lv_at hl 4 rfl) ?_
          refine lv_icmp_ge (tgt := 94) hx hb dX9_seeks_71 (by decide) (fun c_6 => ?_) (fun c_6 => ?_)
          · have ic_6 : x.toInt ≤ ((k9_68 : Nat) : Int) := ile c_6 (rfl) (nI_toInt (by omega))
            refine lv_iconst (v := 0) hx hb dX9_seeks_94 (by decide) ?_
            refine lv_istore (lv' := [(4, .int 0), (3, .int 0), (2, .int r_2), (0, .ref h0), (1, .int x)]) hx hb dX9_seeks_95 hl (by decide) rfl (fun ls hl => ?_)
            refine (fun (key : ∀ (n9_97 : Nat) (k9_97 : Nat) (f9_97_0 : Nat → Int32) (H : Heap) (locs : List Loc) (ls : Array Slot), (k9_97 : Int) ≤ 6 → 6 < (k9_97 : Int) + n9_97 → PD D A [(sw_in cT (g 5) 960 a5), (sw_in cT (g 6) 8 a6), (sw_in cT (g 7) 8 f9_68_0), (sw_in cT (g 8) 6 f9_97_0), (sw_9 h0 g b0 b5 b6 b7 b8 b9 b10 b11 b12 b13 b14 b17 b18 b19 b23 b24 r_2 0 b27 b29 b31 b32 b33), (sw_in cT (g 0) 288 a0), (sw_in cT (g 4) 6 a4)] H → va_S A s.heap H locs → lv_has ls 9 [(4, .int (nI k9_97)), (3, .int 0), (2, .int r_2), (0, .ref h0), (1, .int x)] → W p l e _ s m _ below meth c H locs _ _ _ (F0 m 97 ls [])) => key (Int.toNat (6 - 0) + 1) 0 _ _ _ _ (by omega) (by omega)  ⟨hP, hD⟩ hS (lv_sub hl [0, 1, 2, 3, 4] rfl)) ?_
            intro n9_97
            induction n9_97 with
            | zero => intro k9_97 f9_97_0 H locs ls hq1 hq2; exact absurd hq2 (by omega)
            | succ n9_97 ih_97 =>
              intro k9_97 f9_97_0 H locs ls hq1_97 hq2_97  hPD hS hl
              obtain ⟨hP, hD⟩ := hPD
              have hk9_97 : (nI k9_97).toInt = (k9_97 : Int) := nI_toInt (by omega)
              refine lv_iload hx hb dX9_seeks_97 (lv_at hl 0 rfl) ?_
              refine lv_bipush (v := 6) hx hb dX9_seeks_99 (by decide) ?_
              refine lv_icmp_ge (tgt := 124) hx hb dX9_seeks_101 (by decide) (fun c_7 => ?_) (fun c_7 => ?_)
              · have ic_7 : 6 ≤ ((k9_97 : Nat) : Int) := ile c_7 (by decide) (nI_toInt (by omega))
                exact x_vret hx hb hr hlk hP hD hS [4, 5, 6, 0, 1, 2, 3] ((r_2, 0, a0, a4, a5, a6, f9_68_0, f9_97_0)) rfl (by decide) ⟨by (try dsimp only); first | assumption | omega | decide | exact Or.inl (by decide) | (intro h9; exact absurd h9 (by decide)) | (intro _; omega) | (intro _; assumption) | (intro _; decide), by (try dsimp only); first | assumption | exact KR_rfl _, by (try dsimp only); first | assumption | omega | decide | exact Or.inl (by decide) | (intro h9; exact absurd h9 (by decide)) | (intro _; omega) | (intro _; assumption) | (intro _; decide), by (try dsimp only); first | assumption | exact KB_rfl _ _, trivial⟩ (by decide) (by decide) dX9_seeks_124
              · have ic_7 : ((k9_97 : Nat) : Int) < 6 := inle c_7 (by decide) (nI_toInt (by omega))
                refine lv_aload_n hx hb dX9_seeks_104 rfl (lv_at hl 3 rfl) ?_
                refine va_get (D := D) (ci := 9) (v := .ref (g 8)) (C := RX9) (T := TX9) (N := 37) hx hb htg gRX9 hown hK hP 4 rfl rfl 22 (by decide) (htg _ wi_1172) (fun _ h9 => h9) rfl dX9_seeks_105 ?_
                refine lv_iload hx hb dX9_seeks_108 (lv_at hl 0 rfl) ?_
                refine lv_aload_n hx hb dX9_seeks_110 rfl (lv_at hl 3 rfl) ?_
                refine va_get (D := D) (ci := 9) (v := .ref (g 4)) (C := RX9) (T := TX9) (N := 37) hx hb htg gRX9 hown hK hP 4 rfl rfl 15 (by decide) (htg _ wi_1165) (fun _ h9 => h9) rfl dX9_seeks_111 ?_
                refine lv_iload hx hb dX9_seeks_114 (lv_at hl 0 rfl) ?_
                refine va_iald hx hb hK hP 6 0 rfl rfl (vp_in_nI (by omega) (by omega)) dX9_seeks_116 ?_
                refine lv_topi (fun z_8 ez_8 => ?_)
                refine va_iast hx hb hK hP hD hS 3 0 rfl rfl (vp_in_nI (by omega) (by omega)) dX9_seeks_117 (fun H locs hP hD hS => ?_)
                obtain ⟨f_9, hP, hD⟩ : ∃ f_9 : Nat → Int32, PD D A [(sw_in cT (g 5) 960 a5), (sw_in cT (g 6) 8 a6), (sw_in cT (g 7) 8 f9_68_0), (sw_in cT (g 8) 6 f_9), (sw_9 h0 g b0 b5 b6 b7 b8 b9 b10 b11 b12 b13 b14 b17 b18 b19 b23 b24 r_2 0 b27 b29 b31 b32 b33), (sw_in cT (g 0) 288 a0), (sw_in cT (g 4) 6 a4)] H := ⟨_, hP, hD⟩
                refine lv_iinc (v := (nI (k9_97 + 1))) (lv' := [(4, .int (nI (k9_97 + 1))), (3, .int 0), (2, .int r_2), (0, .ref h0), (1, .int x)]) hx hb dX9_seeks_118 hl (k := 0) rfl (by exact nI_1 (k9_97)) (by decide) rfl (fun ls hl => ?_)
                refine lv_goto (tgt := 97) hx hb dX9_seeks_121 (by decide) ?_
                exact ih_97 (k9_97 + 1) _ _ _ _ (by omega) (by omega)  ⟨hP.sub [0, 1, 2, 3, 4, 5, 6] rfl, hD.sub [0, 1, 2, 3, 4, 5, 6] (by decide) rfl⟩ hS (lv_sub hl [0, 1, 2, 3, 4] rfl)
          · have ic_6 : ((k9_68 : Nat) : Int) < x.toInt := inle c_6 (rfl) (nI_toInt (by omega))
            refine lv_aload_n hx hb dX9_seeks_74 rfl (lv_at hl 3 rfl) ?_
            refine va_get (D := D) (ci := 9) (v := .ref (g 7)) (C := RX9) (T := TX9) (N := 37) hx hb htg gRX9 hown hK hP 4 rfl rfl 21 (by decide) (htg _ wi_1171) (fun _ h9 => h9) rfl dX9_seeks_75 ?_
            refine lv_iload hx hb dX9_seeks_78 (lv_at hl 0 rfl) ?_
            refine lv_aload_n hx hb dX9_seeks_80 rfl (lv_at hl 3 rfl) ?_
            refine va_get (D := D) (ci := 9) (v := .ref (g 6)) (C := RX9) (T := TX9) (N := 37) hx hb htg gRX9 hown hK hP 4 rfl rfl 20 (by decide) (htg _ wi_1170) (fun _ h9 => h9) rfl dX9_seeks_81 ?_
            refine lv_iload hx hb dX9_seeks_84 (lv_at hl 0 rfl) ?_
            refine va_iald hx hb hK hP 1 0 rfl rfl (vp_in_nI (by omega) (by omega)) dX9_seeks_86 ?_
            refine lv_topi (fun z_10 ez_10 => ?_)
            refine va_iast hx hb hK hP hD hS 2 0 rfl rfl (vp_in_nI (by omega) (by omega)) dX9_seeks_87 (fun H locs hP hD hS => ?_)
            obtain ⟨f_11, hP, hD⟩ : ∃ f_11 : Nat → Int32, PD D A [(sw_in cT (g 5) 960 a5), (sw_in cT (g 6) 8 a6), (sw_in cT (g 7) 8 f_11), (sw_in cT (g 8) 6 a8), (sw_9 h0 g b0 b5 b6 b7 b8 b9 b10 b11 b12 b13 b14 b17 b18 b19 b23 b24 r_2 0 b27 b29 b31 b32 b33), (sw_in cT (g 0) 288 a0), (sw_in cT (g 4) 6 a4)] H := ⟨_, hP, hD⟩
            refine lv_iinc (v := (nI (k9_68 + 1))) (lv' := [(4, .int (nI (k9_68 + 1))), (3, .int 0), (2, .int r_2), (0, .ref h0), (1, .int x)]) hx hb dX9_seeks_88 hl (k := 0) rfl (by exact nI_1 (k9_68)) (by decide) rfl (fun ls hl => ?_)
            refine lv_goto (tgt := 68) hx hb dX9_seeks_91 (by decide) ?_
            exact ih_68 (k9_68 + 1) _ _ _ _ (by omega) (by omega)  ⟨hP.sub [0, 1, 2, 3, 4, 5, 6] rfl, hD.sub [0, 1, 2, 3, 4, 5, 6] (by decide) rfl⟩ hS (lv_sub hl [0, 1, 2, 3, 4] rfl)
      · have ic_5 : r_2.toInt = b25.toInt := ieq c_5 (rfl) (rfl)
        refine lv_iload_n hx hb dX9_seeks_46 rfl (lv_at hl 0 rfl) ?_
        refine lv_aload_n hx hb dX9_seeks_47 rfl (lv_at hl 2 rfl) ?_
        refine va_get (D := D) (ci := 9) (v := .int b26) (C := RX9) (T := TX9) (N := 37) hx hb htg gRX9 hown hK hP 4 rfl rfl 26 (by decide) (htg _ wi_1176) (fun _ h9 => h9) rfl dX9_seeks_48 ?_
        refine lv_icmp_gt (tgt := 55) hx hb dX9_seeks_51 (by decide) (fun c_12 => ?_) (fun c_12 => ?_)
        · have ic_12 : b26.toInt < 0 := ilt c_12 (rfl) (by decide)
          refine lv_aload_n hx hb dX9_seeks_55 rfl (lv_at hl 2 rfl) ?_
          refine lv_iload_n hx hb dX9_seeks_56 rfl (lv_at hl 1 rfl) ?_
          refine va_put (D := D) (ci := 9) (v := .int r_2) (ty := .int) (C := RX9) (T := TX9) (N := 37) hx hb htg gRX9 tyX9 tyX9_ok nmX9 hown hK hP hD hS 4 rfl rfl 25 (by decide) (htg _ wi_1175) (fun _ h9 => h9) rfl (by decide +kernel) rfl rfl (Nat.le_of_ble_eq_true rfl) dX9_seeks_57 (fun H locs hP hD hS => ?_)
          obtain ⟨hP, hD⟩ : PD D A [(sw_in cT (g 5) 960 a5), (sw_in cT (g 6) 8 a6), (sw_in cT (g 7) 8 a7), (sw_in cT (g 8) 6 a8), (sw_9 h0 g b0 b5 b6 b7 b8 b9 b10 b11 b12 b13 b14 b17 b18 b19 b23 b24 r_2 b26 b27 b29 b31 b32 b33), (sw_in cT (g 0) 288 a0), (sw_in cT (g 4) 6 a4)] _ := ⟨hP, hD⟩
          refine lv_aload_n hx hb dX9_seeks_60 rfl (lv_at hl 2 rfl) ?_
          refine lv_iload_n hx hb dX9_seeks_61 rfl (lv_at hl 0 rfl) ?_
          refine va_put (D := D) (ci := 9) (v := .int 0) (ty := .int) (C := RX9) (T := TX9) (N := 37) hx hb htg gRX9 tyX9 tyX9_ok nmX9 hown hK hP hD hS 4 rfl rfl 26 (by decide) (htg _ wi_1176) (fun _ h9 => h9) rfl (by decide +kernel) rfl rfl (Nat.le_of_ble_eq_true rfl) dX9_seeks_62 (fun H locs hP hD hS => ?_)
          obtain ⟨hP, hD⟩ : PD D A [(sw_in cT (g 5) 960 a5), (sw_in cT (g 6) 8 a6), (sw_in cT (g 7) 8 a7), (sw_in cT (g 8) 6 a8), (sw_9 h0 g b0 b5 b6 b7 b8 b9 b10 b11 b12 b13 b14 b17 b18 b19 b23 b24 r_2 0 b27 b29 b31 b32 b33), (sw_in cT (g 0) 288 a0), (sw_in cT (g 4) 6 a4)] _ := ⟨hP, hD⟩
          refine lv_iconst (v := 0) hx hb dX9_seeks_65 (by decide) ?_
          refine lv_istore (lv' := [(4, .int 0), (3, .int 0), (2, .int r_2), (0, .ref h0), (1, .int x)]) hx hb dX9_seeks_66 hl (by decide) rfl (fun ls hl => ?_)
          refine (fun (key : ∀ (n9_68 : Nat) (k9_68 : Nat) (f9_68_0 : Nat → Int32) (H : Heap) (locs : List Loc) (ls : Array Slot), (k9_68 : Int) ≤ x.toInt → x.toInt < (k9_68 : Int) + n9_68 → PD D A [(sw_in cT (g 5) 960 a5), (sw_in cT (g 6) 8 a6), (sw_in cT (g 7) 8 f9_68_0), (sw_in cT (g 8) 6 a8), (sw_9 h0 g b0 b5 b6 b7 b8 b9 b10 b11 b12 b13 b14 b17 b18 b19 b23 b24 r_2 0 b27 b29 b31 b32 b33), (sw_in cT (g 0) 288 a0), (sw_in cT (g 4) 6 a4)] H → va_S A s.heap H locs → lv_has ls 9 [(4, .int (nI k9_68)), (3, .int 0), (2, .int r_2), (0, .ref h0), (1, .int x)] → W p l e _ s m _ below meth c H locs _ _ _ (F0 m 68 ls [])) => key (Int.toNat (x.toInt - 0) + 1) 0 _ _ _ _ (by omega) (by omega)  ⟨hP, hD⟩ hS (lv_sub hl [0, 1, 2, 3, 4] rfl)) ?_
          intro n9_68
          induction n9_68 with
          | zero => intro k9_68 f9_68_0 H locs ls hq1 hq2; exact absurd hq2 (by omega)
          | succ n9_68 ih_68 =>
            intro k9_68 f9_68_0 H locs ls hq1_68 hq2_68  hPD hS hl
            obtain ⟨hP, hD⟩ := hPD
            have hk9_68 : (nI k9_68).toInt = (k9_68 : Int) := nI_toInt (by omega)
            refine lv_iload hx hb dX9_seeks_68 (lv_at hl 0 rfl) ?_
            refine lv_iload_n hx hb dX9_seeks_70 rfl (lv_at hl 4 rfl) ?_
            refine lv_icmp_ge (tgt := 94) hx hb dX9_seeks_71 (by decide) (fun c_13 => ?_) (fun c_13 => ?_)
            · have ic_13 : x.toInt ≤ ((k9_68 : Nat) : Int) := ile c_13 (rfl) (nI_toInt (by omega))
              refine lv_iconst (v := 0) hx hb dX9_seeks_94 (by decide) ?_
              refine lv_istore (lv' := [(4, .int 0), (3, .int 0), (2, .int r_2), (0, .ref h0), (1, .int x)]) hx hb dX9_seeks_95 hl (by decide) rfl (fun ls hl => ?_)
              refine (fun (key : ∀ (n9_97 : Nat) (k9_97 : Nat) (f9_97_0 : Nat → Int32) (H : Heap) (locs : List Loc) (ls : Array Slot), (k9_97 : Int) ≤ 6 → 6 < (k9_97 : Int) + n9_97 → PD D A [(sw_in cT (g 5) 960 a5), (sw_in cT (g 6) 8 a6), (sw_in cT (g 7) 8 f9_68_0), (sw_in cT (g 8) 6 f9_97_0), (sw_9 h0 g b0 b5 b6 b7 b8 b9 b10 b11 b12 b13 b14 b17 b18 b19 b23 b24 r_2 0 b27 b29 b31 b32 b33), (sw_in cT (g 0) 288 a0), (sw_in cT (g 4) 6 a4)] H → va_S A s.heap H locs → lv_has ls 9 [(4, .int (nI k9_97)), (3, .int 0), (2, .int r_2), (0, .ref h0), (1, .int x)] → W p l e _ s m _ below meth c H locs _ _ _ (F0 m 97 ls [])) => key (Int.toNat (6 - 0) + 1) 0 _ _ _ _ (by omega) (by omega)  ⟨hP, hD⟩ hS (lv_sub hl [0, 1, 2, 3, 4] rfl)) ?_
              intro n9_97
              induction n9_97 with
              | zero => intro k9_97 f9_97_0 H locs ls hq1 hq2; exact absurd hq2 (by omega)
              | succ n9_97 ih_97 =>
                intro k9_97 f9_97_0 H locs ls hq1_97 hq2_97  hPD hS hl
                obtain ⟨hP, hD⟩ := hPD
                have hk9_97 : (nI k9_97).toInt = (k9_97 : Int) := nI_toInt (by omega)
                refine lv_iload hx hb dX9_seeks_97 (lv_at hl 0 rfl) ?_
                refine lv_bipush (v := 6) hx hb dX9_seeks_99 (by decide) ?_
                refine lv_icmp_ge (tgt := 124) hx hb dX9_seeks_101 (by decide) (fun c_14 => ?_) (fun c_14 => ?_)
                · have ic_14 : 6 ≤ ((k9_97 : Nat) : Int) := ile c_14 (by decide) (nI_toInt (by omega))
                  exact x_vret hx hb hr hlk hP hD hS [4, 5, 6, 0, 1, 2, 3] ((r_2, 0, a0, a4, a5, a6, f9_68_0, f9_97_0)) rfl (by decide) ⟨by (try dsimp only); first | assumption | omega | decide | exact Or.inl (by decide) | (intro h9; exact absurd h9 (by decide)) | (intro _; omega) | (intro _; assumption) | (intro _; decide), by (try dsimp only); first | assumption | exact KR_rfl _, by (try dsimp only); first | assumption | omega | decide | exact Or.inl (by decide) | (intro h9; exact absurd h9 (by decide)) | (intro _; omega) | (intro _; assumption) | (intro _; decide), by (try dsimp only); first | assumption | exact KB_rfl _ _, trivial⟩ (by decide) (by decide) dX9_seeks_124
                · have ic_14 : ((k9_97 : Nat) : Int) < 6 := inle c_14 (by decide) (nI_toInt (by omega))
                  refine lv_aload_n hx hb dX9_seeks_104 rfl (lv_at hl 3 rfl) ?_
                  refine va_get (D := D) (ci := 9) (v := .ref (g 8)) (C := RX9) (T := TX9) (N := 37) hx hb htg gRX9 hown hK hP 4 rfl rfl 22 (by decide) (htg _ wi_1172) (fun _ h9 => h9) rfl dX9_seeks_105 ?_
                  refine lv_iload hx hb dX9_seeks_108 (lv_at hl 0 rfl) ?_
                  refine lv_aload_n hx hb dX9_seeks_110 rfl (lv_at hl 3 rfl) ?_
                  refine va_get (D := D) (ci := 9) (v := .ref (g 4)) (C := RX9) (T := TX9) (N := 37) hx hb htg gRX9 hown hK hP 4 rfl rfl 15 (by decide) (htg _ wi_1165) (fun _ h9 => h9) rfl dX9_seeks_111 ?_
                  refine lv_iload hx hb dX9_seeks_114 (lv_at hl 0 rfl) ?_
                  refine va_iald hx hb hK hP 6 0 rfl rfl (vp_in_nI (by omega) (by omega)) dX9_seeks_116 ?_
                  refine lv_topi (fun z_15 ez_15 => ?_)
                  refine va_iast hx hb hK hP hD hS 3 0 rfl rfl (vp_in_nI (by omega) (by omega)) dX9_seeks_117 (fun H locs hP hD hS => ?_)
                  obtain ⟨f_16, hP, hD⟩ : ∃ f_16 : Nat → Int32, PD D A [(sw_in cT (g 5) 960 a5), (sw_in cT (g 6) 8 a6), (sw_in cT (g 7) 8 f9_68_0), (sw_in cT (g 8) 6 f_16), (sw_9 h0 g b0 b5 b6 b7 b8 b9 b10 b11 b12 b13 b14 b17 b18 b19 b23 b24 r_2 0 b27 b29 b31 b32 b33), (sw_in cT (g 0) 288 a0), (sw_in cT (g 4) 6 a4)] H := ⟨_, hP, hD⟩
                  refine lv_iinc (v := (nI (k9_97 + 1))) (lv' := [(4, .int (nI (k9_97 + 1))), (3, .int 0), (2, .int r_2), (0, .ref h0), (1, .int x)]) hx hb dX9_seeks_118 hl (k := 0) rfl (by exact nI_1 (k9_97)) (by decide) rfl (fun ls hl => ?_)
                  refine lv_goto (tgt := 97) hx hb dX9_seeks_121 (by decide) ?_
                  exact ih_97 (k9_97 + 1) _ _ _ _ (by omega) (by omega)  ⟨hP.sub [0, 1, 2, 3, 4, 5, 6] rfl, hD.sub [0, 1, 2, 3, 4, 5, 6] (by decide) rfl⟩ hS (lv_sub hl [0, 1, 2, 3, 4] rfl)
            · have ic_13 : ((k9_68 : Nat) : Int) < x.toInt := inle c_13 (rfl) (nI_toInt (by omega))
              refine lv_aload_n hx hb dX9_seeks_74 rfl (lv_at hl 3 rfl) ?_
              refine va_get (D := D) (ci := 9) (v := .ref (g 7)) (C := RX9) (T := TX9) (N := 37) hx hb htg gRX9 hown hK hP 4 rfl rfl 21 (by decide) (htg _ wi_1171) (fun _ h9 => h9) rfl dX9_seeks_75 ?_
              refine lv_iload hx hb dX9_seeks_78 (lv_at hl 0 rfl) ?_
              refine lv_aload_n hx hb dX9_seeks_80 rfl (lv_at hl 3 rfl) ?_
              refine va_get (D := D) (ci := 9) (v := .ref (g 6)) (C := RX9) (T := TX9) (N := 37) hx hb htg gRX9 hown hK hP 4 rfl rfl 20 (by decide) (htg _ wi_1170) (fun _ h9 => h9) rfl dX9_seeks_81 ?_
              refine lv_iload hx hb dX9_seeks_84 (lv_at hl 0 rfl) ?_
              refine va_iald hx hb hK hP 1 0 rfl rfl (vp_in_nI (by omega) (by omega)) dX9_seeks_86 ?_
              refine lv_topi (fun z_17 ez_17 => ?_)
              refine va_iast hx hb hK hP hD hS 2 0 rfl rfl (vp_in_nI (by omega) (by omega)) dX9_seeks_87 (fun H locs hP hD hS => ?_)
              obtain ⟨f_18, hP, hD⟩ : ∃ f_18 : Nat → Int32, PD D A [(sw_in cT (g 5) 960 a5), (sw_in cT (g 6) 8 a6), (sw_in cT (g 7) 8 f_18), (sw_in cT (g 8) 6 a8), (sw_9 h0 g b0 b5 b6 b7 b8 b9 b10 b11 b12 b13 b14 b17 b18 b19 b23 b24 r_2 0 b27 b29 b31 b32 b33), (sw_in cT (g 0) 288 a0), (sw_in cT (g 4) 6 a4)] H := ⟨_, hP, hD⟩
              refine lv_iinc (v := (nI (k9_68 + 1))) (lv' := [(4, .int (nI (k9_68 + 1))), (3, .int 0), (2, .int r_2), (0, .ref h0), (1, .int x)]) hx hb dX9_seeks_88 hl (k := 0) rfl (by exact nI_1 (k9_68)) (by decide) rfl (fun ls hl => ?_)
              refine lv_goto (tgt := 68) hx hb dX9_seeks_91 (by decide) ?_
              exact ih_68 (k9_68 + 1) _ _ _ _ (by omega) (by omega)  ⟨hP.sub [0, 1, 2, 3, 4, 5, 6] rfl, hD.sub [0, 1, 2, 3, 4, 5, 6] (by decide) rfl⟩ hS (lv_sub hl [0, 1, 2, 3, 4] rfl)
        · have ic_12 : 0 ≤ b26.toInt := inlt c_12 (rfl) (by decide)
          exact x_vret hx hb hr hlk hP hD hS [4, 5, 6, 0, 1, 2, 3] ((b25, b26, a0, a4, a5, a6, a7, a8)) rfl (by decide) ⟨by (try dsimp only); first | assumption | omega | decide | exact Or.inl (by decide) | (intro h9; exact absurd h9 (by decide)) | (intro _; omega) | (intro _; assumption) | (intro _; decide), by (try dsimp only); first | assumption | exact KR_rfl _, by (try dsimp only); first | assumption | omega | decide | exact Or.inl (by decide) | (intro h9; exact absurd h9 (by decide)) | (intro _; omega) | (intro _; assumption) | (intro _; decide), by (try dsimp only); first | assumption | exact KB_rfl _ _, trivial⟩ (by decide) (by decide) dX9_seeks_54
  · have ic_3 : b23.toInt = 2 := ieq c_3 (rfl) (by decide)
    refine lv_aload_n hx hb dX9_seeks_21 rfl (lv_at hl 1 rfl) ?_
    refine xk_i (wr := [(sw_in cT (g 5) 960 a5), (sw_in cT (g 6) 8 a6), (sw_in cT (g 7) 8 a7), (sw_in cT (g 8) 6 a8), (sw_in cT (g 0) 288 a0)]) (xr_V (n := 0) (As := []) (rest := []) ⟨hx, hb, hml, hown, htg⟩ hK hN hP hD hS hA [4, 6] rfl (by decide) (m_total l D cT _ (h0) (g) (b0) (b5) (b6) (b7) (b8) (b9) (b10) (b11) (b12) (b13) (b14) (b17) (b18) (b19) (b23) (b24) (b25) (b26) (b27) (b29) (b31) (b32) (b33) (by first | assumption | omega | decide | exact Or.inl (by decide) | (intro h9; exact absurd h9 (by decide)) | (intro _; omega) | (intro _; assumption) | (intro _; decide)) (a4)) wi_1494 wi_1496 wi_110 wi_131 wi_1497 rfl rfl rfl ⟨rfl, by decide +kernel⟩ ⟨Nat.le_of_ble_eq_true rfl, Nat.le_of_ble_eq_true rfl⟩ rfl hl.1 rfl (Nat.le_of_ble_eq_true rfl) dX9_seeks_22 ⟨Nat.le_of_ble_eq_true rfl, Nat.le_of_ble_eq_true rfl⟩) hP hD hS hA [4, 6] [0, 1, 2, 3, 5] rfl rfl (by decide) (by decide) (fun r_20 u_19 H locs hwr_20 hP hD hS => ?_)
    obtain ⟨hP, hD⟩ : PD D A [(sw_in cT (g 5) 960 a5), (sw_in cT (g 6) 8 a6), (sw_in cT (g 7) 8 a7), (sw_in cT (g 8) 6 a8), (sw_in cT (g 0) 288 a0), (sw_9 h0 g b0 b5 b6 b7 b8 b9 b10 b11 b12 b13 b14 b17 b18 b19 b23 b24 b25 b26 b27 b29 b31 b32 b33), (sw_in cT (g 4) 6 a4)] _ := ⟨hP, hD⟩
    refine lv_goto (tgt := 29) hx hb dX9_seeks_25 (by decide) ?_
    refine lv_istore_n (lv' := [(3, .int r_20), (2, .int r_2), (0, .ref h0), (1, .int x)]) hx hb dX9_seeks_29 rfl hl (by decide) rfl (fun ls hl => ?_)
    refine lv_iload_n hx hb dX9_seeks_30 rfl (lv_at hl 1 rfl) ?_
    refine lv_aload_n hx hb dX9_seeks_31 rfl (lv_at hl 2 rfl) ?_
    refine va_get (D := D) (ci := 9) (v := .int b25) (C := RX9) (T := TX9) (N := 37) hx hb htg gRX9 hown hK hP 5 rfl rfl 25 (by decide) (htg _ wi_1175) (fun _ h9 => h9) rfl dX9_seeks_32 ?_
    refine lv_icmp_lt (tgt := 54) hx hb dX9_seeks_35 (by decide) (fun c_21 => ?_) (fun c_21 => ?_)
    · have ic_21 : r_2.toInt < b25.toInt := ilt c_21 (rfl) (rfl)
      exact x_vret hx hb hr hlk hP hD hS [5, 4, 6, 0, 1, 2, 3] ((b25, b26, a0, a4, a5, a6, a7, a8)) rfl (by decide) ⟨by (try dsimp only); first | assumption | omega | decide | exact Or.inl (by decide) | (intro h9; exact absurd h9 (by decide)) | (intro _; omega) | (intro _; assumption) | (intro _; decide), by (try dsimp only); first | assumption | exact KR_rfl _, by (try dsimp only); first | assumption | omega | decide | exact Or.inl (by decide) | (intro h9; exact absurd h9 (by decide)) | (intro _; omega) | (intro _; assumption) | (intro _; decide), by (try dsimp only); first | assumption | exact KB_rfl _ _, trivial⟩ (by decide) (by decide) dX9_seeks_54
    · have ic_21 : b25.toInt ≤ r_2.toInt := inlt c_21 (rfl) (rfl)
      refine lv_iload_n hx hb dX9_seeks_38 rfl (lv_at hl 1 rfl) ?_
      refine lv_aload_n hx hb dX9_seeks_39 rfl (lv_at hl 2 rfl) ?_
      refine va_get (D := D) (ci := 9) (v := .int b25) (C := RX9) (T := TX9) (N := 37) hx hb htg gRX9 hown hK hP 5 rfl rfl 25 (by decide) (htg _ wi_1175) (fun _ h9 => h9) rfl dX9_seeks_40 ?_
      refine lv_icmp_ne (tgt := 55) hx hb dX9_seeks_43 (by decide) (fun c_22 => ?_) (fun c_22 => ?_)
      · have ic_22 : ¬ r_2.toInt = b25.toInt := ine c_22 (rfl) (rfl)
        refine lv_aload_n hx hb dX9_seeks_55 rfl (lv_at hl 2 rfl) ?_
        refine lv_iload_n hx hb dX9_seeks_56 rfl (lv_at hl 1 rfl) ?_
        refine va_put (D := D) (ci := 9) (v := .int r_2) (ty := .int) (C := RX9) (T := TX9) (N := 37) hx hb htg gRX9 tyX9 tyX9_ok nmX9 hown hK hP hD hS 5 rfl rfl 25 (by decide) (htg _ wi_1175) (fun _ h9 => h9) rfl (by decide +kernel) rfl rfl (Nat.le_of_ble_eq_true rfl) dX9_seeks_57 (fun H locs hP hD hS => ?_)
        obtain ⟨hP, hD⟩ : PD D A [(sw_in cT (g 5) 960 a5), (sw_in cT (g 6) 8 a6), (sw_in cT (g 7) 8 a7), (sw_in cT (g 8) 6 a8), (sw_in cT (g 0) 288 a0), (sw_9 h0 g b0 b5 b6 b7 b8 b9 b10 b11 b12 b13 b14 b17 b18 b19 b23 b24 r_2 b26 b27 b29 b31 b32 b33), (sw_in cT (g 4) 6 a4)] _ := ⟨hP, hD⟩
        refine lv_aload_n hx hb dX9_seeks_60 rfl (lv_at hl 2 rfl) ?_
        refine lv_iload_n hx hb dX9_seeks_61 rfl (lv_at hl 0 rfl) ?_
        refine va_put (D := D) (ci := 9) (v := .int r_20) (ty := .int) (C := RX9) (T := TX9) (N := 37) hx hb htg gRX9 tyX9 tyX9_ok nmX9 hown hK hP hD hS 5 rfl rfl 26 (by decide) (htg _ wi_1176) (fun _ h9 => h9) rfl (by decide +kernel) rfl rfl (Nat.le_of_ble_eq_true rfl) dX9_seeks_62 (fun H locs hP hD hS => ?_)
        obtain ⟨hP, hD⟩ : PD D A [(sw_in cT (g 5) 960 a5), (sw_in cT (g 6) 8 a6), (sw_in cT (g 7) 8 a7), (sw_in cT (g 8) 6 a8), (sw_in cT (g 0) 288 a0), (sw_9 h0 g b0 b5 b6 b7 b8 b9 b10 b11 b12 b13 b14 b17 b18 b19 b23 b24 r_2 r_20 b27 b29 b31 b32 b33), (sw_in cT (g 4) 6 a4)] _ := ⟨hP, hD⟩
        refine lv_iconst (v := 0) hx hb dX9_seeks_65 (by decide) ?_
        refine lv_istore (lv' := [(4, .int 0), (3, .int r_20), (2, .int r_2), (0, .ref h0), (1, .int x)]) hx hb dX9_seeks_66 hl (by decide) rfl (fun ls hl => ?_)
        refine (fun (key : ∀ (n9_68 : Nat) (k9_68 : Nat) (f9_68_0 : Nat → Int32) (H : Heap) (locs : List Loc) (ls : Array Slot), (k9_68 : Int) ≤ x.toInt → x.toInt < (k9_68 : Int) + n9_68 → PD D A [(sw_in cT (g 5) 960 a5), (sw_in cT (g 6) 8 a6), (sw_in cT (g 7) 8 f9_68_0), (sw_in cT (g 8) 6 a8), (sw_in cT (g 0) 288 a0), (sw_9 h0 g b0 b5 b6 b7 b8 b9 b10 b11 b12 b13 b14 b17 b18 b19 b23 b24 r_2 r_20 b27 b29 b31 b32 b33), (sw_in cT (g 4) 6 a4)] H → va_S A s.heap H locs → lv_has ls 9 [(4, .int (nI k9_68)), (3, .int r_20), (2, .int r_2), (0, .ref h0), (1, .int x)] → W p l e _ s m _ below meth c H locs _ _ _ (F0 m 68 ls [])) => key (Int.toNat (x.toInt - 0) + 1) 0 _ _ _ _ (by omega) (by omega)  ⟨hP, hD⟩ hS (lv_sub hl [0, 1, 2, 3, 4] rfl)) ?_
        intro n9_68
        induction n9_68 with
        | zero => intro k9_68 f9_68_0 H locs ls hq1 hq2; exact absurd hq2 (by omega)
        | succ n9_68 ih_68 =>
          intro k9_68 f9_68_0 H locs ls hq1_68 hq2_68  hPD hS hl
          obtain ⟨hP, hD⟩ := hPD
          have hk9_68 : (nI k9_68).toInt = (k9_68 : Int) := nI_toInt (by omega)
          refine lv_iload hx hb dX9_seeks_68 (lv_at hl 0 rfl) ?_
          refine lv_iload_n hx hb dX9_seeks_70 rfl (lv_at hl 4 rfl) ?_
          refine lv_icmp_ge (tgt := 94) hx hb dX9_seeks_71 (by decide) (fun c_23 => ?_) (fun c_23 => ?_)
          · have ic_23 : x.toInt ≤ ((k9_68 : Nat) : Int) := ile c_23 (rfl) (nI_toInt (by omega))
            refine lv_iconst (v := 0) hx hb dX9_seeks_94 (by decide) ?_
            refine lv_istore (lv' := [(4, .int 0), (3, .int r_20), (2, .int r_2), (0, .ref h0), (1, .int x)]) hx hb dX9_seeks_95 hl (by decide) rfl (fun ls hl => ?_)
            refine (fun (key : ∀ (n9_97 : Nat) (k9_97 : Nat) (f9_97_0 : Nat → Int32) (H : Heap) (locs : List Loc) (ls : Array Slot), (k9_97 : Int) ≤ 6 → 6 < (k9_97 : Int) + n9_97 → PD D A [(sw_in cT (g 5) 960 a5), (sw_in cT (g 6) 8 a6), (sw_in cT (g 7) 8 f9_68_0), (sw_in cT (g 8) 6 f9_97_0), (sw_in cT (g 0) 288 a0), (sw_9 h0 g b0 b5 b6 b7 b8 b9 b10 b11 b12 b13 b14 b17 b18 b19 b23 b24 r_2 r_20 b27 b29 b31 b32 b33), (sw_in cT (g 4) 6 a4)] H → va_S A s.heap H locs → lv_has ls 9 [(4, .int (nI k9_97)), (3, .int r_20), (2, .int r_2), (0, .ref h0), (1, .int x)] → W p l e _ s m _ below meth c H locs _ _ _ (F0 m 97 ls [])) => key (Int.toNat (6 - 0) + 1) 0 _ _ _ _ (by omega) (by omega)  ⟨hP, hD⟩ hS (lv_sub hl [0, 1, 2, 3, 4] rfl)) ?_
            intro n9_97
            induction n9_97 with
            | zero => intro k9_97 f9_97_0 H locs ls hq1 hq2; exact absurd hq2 (by omega)
            | succ n9_97 ih_97 =>
              intro k9_97 f9_97_0 H locs ls hq1_97 hq2_97  hPD hS hl
              obtain ⟨hP, hD⟩ := hPD
              have hk9_97 : (nI k9_97).toInt = (k9_97 : Int) := nI_toInt (by omega)
              refine lv_iload hx hb dX9_seeks_97 (lv_at hl 0 rfl) ?_
              refine lv_bipush (v := 6) hx hb dX9_seeks_99 (by decide) ?_
              refine lv_icmp_ge (tgt := 124) hx hb dX9_seeks_101 (by decide) (fun c_24 => ?_) (fun c_24 => ?_)
              · have ic_24 : 6 ≤ ((k9_97 : Nat) : Int) := ile c_24 (by decide) (nI_toInt (by omega))
                exact x_vret hx hb hr hlk hP hD hS [5, 4, 6, 0, 1, 2, 3] ((r_2, r_20, a0, a4, a5, a6, f9_68_0, f9_97_0)) rfl (by decide) ⟨by (try dsimp only); first | assumption | omega | decide | exact Or.inl (by decide) | (intro h9; exact absurd h9 (by decide)) | (intro _; omega) | (intro _; assumption) | (intro _; decide), by (try dsimp only); first | assumption | exact KR_rfl _, by (try dsimp only); first | assumption | omega | decide | exact Or.inl (by decide) | (intro h9; exact absurd h9 (by decide)) | (intro _; omega) | (intro _; assumption) | (intro _; decide), by (try dsimp only); first | assumption | exact KB_rfl _ _, trivial⟩ (by decide) (by decide) dX9_seeks_124
              · have ic_24 : ((k9_97 : Nat) : Int) < 6 := inle c_24 (by decide) (nI_toInt (by omega))
                refine lv_aload_n hx hb dX9_seeks_104 rfl (lv_at hl 3 rfl) ?_
                refine va_get (D := D) (ci := 9) (v := .ref (g 8)) (C := RX9) (T := TX9) (N := 37) hx hb htg gRX9 hown hK hP 5 rfl rfl 22 (by decide) (htg _ wi_1172) (fun _ h9 => h9) rfl dX9_seeks_105 ?_
                refine lv_iload hx hb dX9_seeks_108 (lv_at hl 0 rfl) ?_
                refine lv_aload_n hx hb dX9_seeks_110 rfl (lv_at hl 3 rfl) ?_
                refine va_get (D := D) (ci := 9) (v := .ref (g 4)) (C := RX9) (T := TX9) (N := 37) hx hb htg gRX9 hown hK hP 5 rfl rfl 15 (by decide) (htg _ wi_1165) (fun _ h9 => h9) rfl dX9_seeks_111 ?_
                refine lv_iload hx hb dX9_seeks_114 (lv_at hl 0 rfl) ?_
                refine va_iald hx hb hK hP 6 0 rfl rfl (vp_in_nI (by omega) (by omega)) dX9_seeks_116 ?_
                refine lv_topi (fun z_25 ez_25 => ?_)
                refine va_iast hx hb hK hP hD hS 3 0 rfl rfl (vp_in_nI (by omega) (by omega)) dX9_seeks_117 (fun H locs hP hD hS => ?_)
                obtain ⟨f_26, hP, hD⟩ : ∃ f_26 : Nat → Int32, PD D A [(sw_in cT (g 5) 960 a5), (sw_in cT (g 6) 8 a6), (sw_in cT (g 7) 8 f9_68_0), (sw_in cT (g 8) 6 f_26), (sw_in cT (g 0) 288 a0), (sw_9 h0 g b0 b5 b6 b7 b8 b9 b10 b11 b12 b13 b14 b17 b18 b19 b23 b24 r_2 r_20 b27 b29 b31 b32 b33), (sw_in cT (g 4) 6 a4)] H := ⟨_, hP, hD⟩
                refine lv_iinc (v := (nI (k9_97 + 1))) (lv' := [(4, .int (nI (k9_97 + 1))), (3, .int r_20), (2, .int r_2), (0, .ref h0), (1, .int x)]) hx hb dX9_seeks_118 hl (k := 0) rfl (by exact nI_1 (k9_97)) (by decide) rfl (fun ls hl => ?_)
                refine lv_goto (tgt := 97) hx hb dX9_seeks_121 (by decide) ?_
                exact ih_97 (k9_97 + 1) _ _ _ _ (by omega) (by omega)  ⟨hP.sub [0, 1, 2, 3, 4, 5, 6] rfl, hD.sub [0, 1, 2, 3, 4, 5, 6] (by decide) rfl⟩ hS (lv_sub hl [0, 1, 2, 3, 4] rfl)
          · have ic_23 : ((k9_68 : Nat) : Int) < x.toInt := inle c_23 (rfl) (nI_toInt (by omega))
            refine lv_aload_n hx hb dX9_seeks_74 rfl (lv_at hl 3 rfl) ?_
            refine va_get (D := D) (ci := 9) (v := .ref (g 7)) (C := RX9) (T := TX9) (N := 37) hx hb htg gRX9 hown hK hP 5 rfl rfl 21 (by decide) (htg _ wi_1171) (fun _ h9 => h9) rfl dX9_seeks_75 ?_
            refine lv_iload hx hb dX9_seeks_78 (lv_at hl 0 rfl) ?_
            refine lv_aload_n hx hb dX9_seeks_80 rfl (lv_at hl 3 rfl) ?_
            refine va_get (D := D) (ci := 9) (v := .ref (g 6)) (C := RX9) (T := TX9) (N := 37) hx hb htg gRX9 hown hK hP 5 rfl rfl 20 (by decide) (htg _ wi_1170) (fun _ h9 => h9) rfl dX9_seeks_81 ?_
            refine lv_iload hx hb dX9_seeks_84 (lv_at hl 0 rfl) ?_
            refine va_iald hx hb hK hP 1 0 rfl rfl (vp_in_nI (by omega) (by omega)) dX9_seeks_86 ?_
            refine lv_topi (fun z_27 ez_27 => ?_)
            refine va_iast hx hb hK hP hD hS 2 0 rfl rfl (vp_in_nI (by omega) (by omega)) dX9_seeks_87 (fun H locs hP hD hS => ?_)
            obtain ⟨f_28, hP, hD⟩ : ∃ f_28 : Nat → Int32, PD D A [(sw_in cT (g 5) 960 a5), (sw_in cT (g 6) 8 a6), (sw_in cT (g 7) 8 f_28), (sw_in cT (g 8) 6 a8), (sw_in cT (g 0) 288 a0), (sw_9 h0 g b0 b5 b6 b7 b8 b9 b10 b11 b12 b13 b14 b17 b18 b19 b23 b24 r_2 r_20 b27 b29 b31 b32 b33), (sw_in cT (g 4) 6 a4)] H := ⟨_, hP, hD⟩
            refine lv_iinc (v := (nI (k9_68 + 1))) (lv' := [(4, .int (nI (k9_68 + 1))), (3, .int r_20), (2, .int r_2), (0, .ref h0), (1, .int x)]) hx hb dX9_seeks_88 hl (k := 0) rfl (by exact nI_1 (k9_68)) (by decide) rfl (fun ls hl => ?_)
            refine lv_goto (tgt := 68) hx hb dX9_seeks_91 (by decide) ?_
            exact ih_68 (k9_68 + 1) _ _ _ _ (by omega) (by omega)  ⟨hP.sub [0, 1, 2, 3, 4, 5, 6] rfl, hD.sub [0, 1, 2, 3, 4, 5, 6] (by decide) rfl⟩ hS (lv_sub hl [0, 1, 2, 3, 4] rfl)
      · have ic_22 : r_2.toInt = b25.toInt := ieq c_22 (rfl) (rfl)
        refine lv_iload_n hx hb dX9_seeks_46 rfl (lv_at hl 0 rfl) ?_
        refine lv_aload_n hx hb dX9_seeks_47 rfl (lv_at hl 2 rfl) ?_
        refine va_get (D := D) (ci := 9) (v := .int b26) (C := RX9) (T := TX9) (N := 37) hx hb htg gRX9 hown hK hP 5 rfl rfl 26 (by decide) (htg _ wi_1176) (fun _ h9 => h9) rfl dX9_seeks_48 ?_
        refine lv_icmp_gt (tgt := 55) hx hb dX9_seeks_51 (by decide) (fun c_29 => ?_) (fun c_29 => ?_)
        · have ic_29 : b26.toInt < r_20.toInt := ilt c_29 (rfl) (rfl)
          refine lv_aload_n hx hb dX9_seeks_55 rfl (lv_at hl 2 rfl) ?_
          refine lv_iload_n hx hb dX9_seeks_56 rfl (lv_at hl 1 rfl) ?_
          refine va_put (D := D) (ci := 9) (v := .int r_2) (ty := .int) (C := RX9) (T := TX9) (N := 37) hx hb htg gRX9 tyX9 tyX9_ok nmX9 hown hK hP hD hS 5 rfl rfl 25 (by decide) (htg _ wi_1175) (fun _ h9 => h9) rfl (by decide +kernel) rfl rfl (Nat.le_of_ble_eq_true rfl) dX9_seeks_57 (fun H locs hP hD hS => ?_)
          obtain ⟨hP, hD⟩ : PD D A [(sw_in cT (g 5) 960 a5), (sw_in cT (g 6) 8 a6), (sw_in cT (g 7) 8 a7), (sw_in cT (g 8) 6 a8), (sw_in cT (g 0) 288 a0), (sw_9 h0 g b0 b5 b6 b7 b8 b9 b10 b11 b12 b13 b14 b17 b18 b19 b23 b24 r_2 b26 b27 b29 b31 b32 b33), (sw_in cT (g 4) 6 a4)] _ := ⟨hP, hD⟩
          refine lv_aload_n hx hb dX9_seeks_60 rfl (lv_at hl 2 rfl) ?_
          refine lv_iload_n hx hb dX9_seeks_61 rfl (lv_at hl 0 rfl) ?_
          refine va_put (D := D) (ci := 9) (v := .int r_20) (ty := .int) (C := RX9) (T := TX9) (N := 37) hx hb htg gRX9 tyX9 tyX9_ok nmX9 hown hK hP hD hS 5 rfl rfl 26 (by decide) (htg _ wi_1176) (fun _ h9 => h9) rfl (by decide +kernel) rfl rfl (Nat.le_of_ble_eq_true rfl) dX9_seeks_62 (fun H locs hP hD hS => ?_)
          obtain ⟨hP, hD⟩ : PD D A [(sw_in cT (g 5) 960 a5), (sw_in cT (g 6) 8 a6), (sw_in cT (g 7) 8 a7), (sw_in cT (g 8) 6 a8), (sw_in cT (g 0) 288 a0), (sw_9 h0 g b0 b5 b6 b7 b8 b9 b10 b11 b12 b13 b14 b17 b18 b19 b23 b24 r_2 r_20 b27 b29 b31 b32 b33), (sw_in cT (g 4) 6 a4)] _ := ⟨hP, hD⟩
          refine lv_iconst (v := 0) hx hb dX9_seeks_65 (by decide) ?_
          refine lv_istore (lv' := [(4, .int 0), (3, .int r_20), (2, .int r_2), (0, .ref h0), (1, .int x)]) hx hb dX9_seeks_66 hl (by decide) rfl (fun ls hl => ?_)
          refine (fun (key : ∀ (n9_68 : Nat) (k9_68 : Nat) (f9_68_0 : Nat → Int32) (H : Heap) (locs : List Loc) (ls : Array Slot), (k9_68 : Int) ≤ x.toInt → x.toInt < (k9_68 : Int) + n9_68 → PD D A [(sw_in cT (g 5) 960 a5), (sw_in cT (g 6) 8 a6), (sw_in cT (g 7) 8 f9_68_0), (sw_in cT (g 8) 6 a8), (sw_in cT (g 0) 288 a0), (sw_9 h0 g b0 b5 b6 b7 b8 b9 b10 b11 b12 b13 b14 b17 b18 b19 b23 b24 r_2 r_20 b27 b29 b31 b32 b33), (sw_in cT (g 4) 6 a4)] H → va_S A s.heap H locs → lv_has ls 9 [(4, .int (nI k9_68)), (3, .int r_20), (2, .int r_2), (0, .ref h0), (1, .int x)] → W p l e _ s m _ below meth c H locs _ _ _ (F0 m 68 ls [])) => key (Int.toNat (x.toInt - 0) + 1) 0 _ _ _ _ (by omega) (by omega)  ⟨hP, hD⟩ hS (lv_sub hl [0, 1, 2, 3, 4] rfl)) ?_
          intro n9_68
          induction n9_68 with
          | zero => intro k9_68 f9_68_0 H locs ls hq1 hq2; exact absurd hq2 (by omega)
          | succ n9_68 ih_68 =>
            intro k9_68 f9_68_0 H locs ls hq1_68 hq2_68  hPD hS hl
            obtain ⟨hP, hD⟩ := hPD
            have hk9_68 : (nI k9_68).toInt = (k9_68 : Int) := nI_toInt (by omega)
            refine lv_iload hx hb dX9_seeks_68 (lv_at hl 0 rfl) ?_
            refine lv_iload_n hx hb dX9_seeks_70 rfl (lv_at hl 4 rfl) ?_
            refine lv_icmp_ge (tgt := 94) hx hb dX9_seeks_71 (by decide) (fun c_30 => ?_) (fun c_30 => ?_)
            · have ic_30 : x.toInt ≤ ((k9_68 : Nat) : Int) := ile c_30 (rfl) (nI_toInt (by omega))
              refine lv_iconst (v := 0) hx hb dX9_seeks_94 (by decide) ?_
              refine lv_istore (lv' := [(4, .int 0), (3, .int r_20), (2, .int r_2), (0, .ref h0), (1, .int x)]) hx hb dX9_seeks_95 hl (by decide) rfl (fun ls hl => ?_)
              refine (fun (key : ∀ (n9_97 : Nat) (k9_97 : Nat) (f9_97_0 : Nat → Int32) (H : Heap) (locs : List Loc) (ls : Array Slot), (k9_97 : Int) ≤ 6 → 6 < (k9_97 : Int) + n9_97 → PD D A [(sw_in cT (g 5) 960 a5), (sw_in cT (g 6) 8 a6), (sw_in cT (g 7) 8 f9_68_0), (sw_in cT (g 8) 6 f9_97_0), (sw_in cT (g 0) 288 a0), (sw_9 h0 g b0 b5 b6 b7 b8 b9 b10 b11 b12 b13 b14 b17 b18 b19 b23 b24 r_2 r_20 b27 b29 b31 b32 b33), (sw_in cT (g 4) 6 a4)] H → va_S A s.heap H locs → lv_has ls 9 [(4, .int (nI k9_97)), (3, .int r_20), (2, .int r_2), (0, .ref h0), (1, .int x)] → W p l e _ s m _ below meth c H locs _ _ _ (F0 m 97 ls [])) => key (Int.toNat (6 - 0) + 1) 0 _ _ _ _ (by omega) (by omega)  ⟨hP, hD⟩ hS (lv_sub hl [0, 1, 2, 3, 4] rfl)) ?_
              intro n9_97
              induction n9_97 with
              | zero => intro k9_97 f9_97_0 H locs ls hq1 hq2; exact absurd hq2 (by omega)
              | succ n9_97 ih_97 =>
                intro k9_97 f9_97_0 H locs ls hq1_97 hq2_97  hPD hS hl
                obtain ⟨hP, hD⟩ := hPD
                have hk9_97 : (nI k9_97).toInt = (k9_97 : Int) := nI_toInt (by omega)
                refine lv_iload hx hb dX9_seeks_97 (lv_at hl 0 rfl) ?_
                refine lv_bipush (v := 6) hx hb dX9_seeks_99 (by decide) ?_
                refine lv_icmp_ge (tgt := 124) hx hb dX9_seeks_101 (by decide) (fun c_31 => ?_) (fun c_31 => ?_)
                · have ic_31 : 6 ≤ ((k9_97 : Nat) : Int) := ile c_31 (by decide) (nI_toInt (by omega))
                  exact x_vret hx hb hr hlk hP hD hS [5, 4, 6, 0, 1, 2, 3] ((r_2, r_20, a0, a4, a5, a6, f9_68_0, f9_97_0)) rfl (by decide) ⟨by (try dsimp only); first | assumption | omega | decide | exact Or.inl (by decide) | (intro h9; exact absurd h9 (by decide)) | (intro _; omega) | (intro _; assumption) | (intro _; decide), by (try dsimp only); first | assumption | exact KR_rfl _, by (try dsimp only); first | assumption | omega | decide | exact Or.inl (by decide) | (intro h9; exact absurd h9 (by decide)) | (intro _; omega) | (intro _; assumption) | (intro _; decide), by (try dsimp only); first | assumption | exact KB_rfl _ _, trivial⟩ (by decide) (by decide) dX9_seeks_124
                · have ic_31 : ((k9_97 : Nat) : Int) < 6 := inle c_31 (by decide) (nI_toInt (by omega))
                  refine lv_aload_n hx hb dX9_seeks_104 rfl (lv_at hl 3 rfl) ?_
                  refine va_get (D := D) (ci := 9) (v := .ref (g 8)) (C := RX9) (T := TX9) (N := 37) hx hb htg gRX9 hown hK hP 5 rfl rfl 22 (by decide) (htg _ wi_1172) (fun _ h9 => h9) rfl dX9_seeks_105 ?_
                  refine lv_iload hx hb dX9_seeks_108 (lv_at hl 0 rfl) ?_
                  refine lv_aload_n hx hb dX9_seeks_110 rfl (lv_at hl 3 rfl) ?_
                  refine va_get (D := D) (ci := 9) (v := .ref (g 4)) (C := RX9) (T := TX9) (N := 37) hx hb htg gRX9 hown hK hP 5 rfl rfl 15 (by decide) (htg _ wi_1165) (fun _ h9 => h9) rfl dX9_seeks_111 ?_
                  refine lv_iload hx hb dX9_seeks_114 (lv_at hl 0 rfl) ?_
                  refine va_iald hx hb hK hP 6 0 rfl rfl (vp_in_nI (by omega) (by omega)) dX9_seeks_116 ?_
                  refine lv_topi (fun z_32 ez_32 => ?_)
                  refine va_iast hx hb hK hP hD hS 3 0 rfl rfl (vp_in_nI (by omega) (by omega)) dX9_seeks_117 (fun H locs hP hD hS => ?_)
                  obtain ⟨f_33, hP, hD⟩ : ∃ f_33 : Nat → Int32, PD D A [(sw_in cT (g 5) 960 a5), (sw_in cT (g 6) 8 a6), (sw_in cT (g 7) 8 f9_68_0), (sw_in cT (g 8) 6 f_33), (sw_in cT (g 0) 288 a0), (sw_9 h0 g b0 b5 b6 b7 b8 b9 b10 b11 b12 b13 b14 b17 b18 b19 b23 b24 r_2 r_20 b27 b29 b31 b32 b33), (sw_in cT (g 4) 6 a4)] H := ⟨_, hP, hD⟩
                  refine lv_iinc (v := (nI (k9_97 + 1))) (lv' := [(4, .int (nI (k9_97 + 1))), (3, .int r_20), (2, .int r_2), (0, .ref h0), (1, .int x)]) hx hb dX9_seeks_118 hl (k := 0) rfl (by exact nI_1 (k9_97)) (by decide) rfl (fun ls hl => ?_)
                  refine lv_goto (tgt := 97) hx hb dX9_seeks_121 (by decide) ?_
                  exact ih_97 (k9_97 + 1) _ _ _ _ (by omega) (by omega)  ⟨hP.sub [0, 1, 2, 3, 4, 5, 6] rfl, hD.sub [0, 1, 2, 3, 4, 5, 6] (by decide) rfl⟩ hS (lv_sub hl [0, 1, 2, 3, 4] rfl)
            · have ic_30 : ((k9_68 : Nat) : Int) < x.toInt := inle c_30 (rfl) (nI_toInt (by omega))
              refine lv_aload_n hx hb dX9_seeks_74 rfl (lv_at hl 3 rfl) ?_
              refine va_get (D := D) (ci := 9) (v := .ref (g 7)) (C := RX9) (T := TX9) (N := 37) hx hb htg gRX9 hown hK hP 5 rfl rfl 21 (by decide) (htg _ wi_1171) (fun _ h9 => h9) rfl dX9_seeks_75 ?_
              refine lv_iload hx hb dX9_seeks_78 (lv_at hl 0 rfl) ?_
              refine lv_aload_n hx hb dX9_seeks_80 rfl (lv_at hl 3 rfl) ?_
              refine va_get (D := D) (ci := 9) (v := .ref (g 6)) (C := RX9) (T := TX9) (N := 37) hx hb htg gRX9 hown hK hP 5 rfl rfl 20 (by decide) (htg _ wi_1170) (fun _ h9 => h9) rfl dX9_seeks_81 ?_
              refine lv_iload hx hb dX9_seeks_84 (lv_at hl 0 rfl) ?_
              refine va_iald hx hb hK hP 1 0 rfl rfl (vp_in_nI (by omega) (by omega)) dX9_seeks_86 ?_
              refine lv_topi (fun z_34 ez_34 => ?_)
              refine va_iast hx hb hK hP hD hS 2 0 rfl rfl (vp_in_nI (by omega) (by omega)) dX9_seeks_87 (fun H locs hP hD hS => ?_)
              obtain ⟨f_35, hP, hD⟩ : ∃ f_35 : Nat → Int32, PD D A [(sw_in cT (g 5) 960 a5), (sw_in cT (g 6) 8 a6), (sw_in cT (g 7) 8 f_35), (sw_in cT (g 8) 6 a8), (sw_in cT (g 0) 288 a0), (sw_9 h0 g b0 b5 b6 b7 b8 b9 b10 b11 b12 b13 b14 b17 b18 b19 b23 b24 r_2 r_20 b27 b29 b31 b32 b33), (sw_in cT (g 4) 6 a4)] H := ⟨_, hP, hD⟩
              refine lv_iinc (v := (nI (k9_68 + 1))) (lv' := [(4, .int (nI (k9_68 + 1))), (3, .int r_20), (2, .int r_2), (0, .ref h0), (1, .int x)]) hx hb dX9_seeks_88 hl (k := 0) rfl (by exact nI_1 (k9_68)) (by decide) rfl (fun ls hl => ?_)
              refine lv_goto (tgt := 68) hx hb dX9_seeks_91 (by decide) ?_
              exact ih_68 (k9_68 + 1) _ _ _ _ (by omega) (by omega)  ⟨hP.sub [0, 1, 2, 3, 4, 5, 6] rfl, hD.sub [0, 1, 2, 3, 4, 5, 6] (by decide) rfl⟩ hS (lv_sub hl [0, 1, 2, 3, 4] rfl)
        · have ic_29 : r_20.toInt ≤ b26.toInt := inlt c_29 (rfl) (rfl)
          exact x_vret hx hb hr hlk hP hD hS [5, 4, 6, 0, 1, 2, 3] ((b25, b26, a0, a4, a5, a6, a7, a8)) rfl (by decide) ⟨by (try dsimp only); first | assumption | omega | decide | exact Or.inl (by decide) | (intro h9; exact absurd h9 (by decide)) | (intro _; omega) | (intro _; assumption) | (intro _; decide), by (try dsimp only); first | assumption | exact KR_rfl _, by (try dsimp only); first | assumption | omega | decide | exact Or.inl (by decide) | (intro h9; exact absurd h9 (by decide)) | (intro _; omega) | (intro _; assumption) | (intro _; decide), by (try dsimp only); first | assumption | exact KB_rfl _ _, trivial⟩ (by decide) (by decide) dX9_seeks_54
