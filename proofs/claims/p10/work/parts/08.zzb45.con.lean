set_option maxHeartbeats 4000000 in
set_option maxRecDepth 100000 in
theorem m_explains_0K (l : Launch) (D : va_G) (cT : Nat → ClassId) (sz : Nat) (h0 : Nat) (g : Nat → Nat) (b0 : Int32) (b5 : Int32) (b6 : Int32) (b7 : Int32) (b8 : Int32) (b9 : Int32) (b10 : Int32) (b11 : Int32) (b12 : Int32) (b13 : Int32) (b14 : Int32) (b17 : Int32) (b18 : Int32) (b19 : Int32) (b23 : Int32) (b24 : Int32) (b25 : Int32) (b26 : Int32) (b27 : Int32) (b29 : Int32) (b31 : Int32) (b32 : Int32) (b33 : Int32) (hb5 : 0 ≤ b5.toInt ∧ b5.toInt ≤ 900) (a0 : Nat → Int32) (pa0 : PI 288 a0) (a4 : Nat → Int32) (a5 : Nat → Int32) (pa5 : PI 960 a5) (a13 : Nat → Int64) (x : Int32) (y : Int32) (z : Int32) (hxk : 0 ≤ x.toInt ∧ x.toInt + 0 = y.toInt) (hy8 : 0 ≤ y.toInt ∧ y.toInt ≤ 8) (hz3 : 0 ≤ z.toInt ∧ z.toInt ≤ 3) : Met l yX9_explains (wsc yX9_explains cX9_explains 6 none) { frames := 2, cells := 0, slots := 0, locals := 100 } (va_Pc [.ref h0, .int x, .int y, .int z] (PX D cT sz [(sw_9 h0 g b0 b5 b6 b7 b8 b9 b10 b11 b12 b13 b14 b17 b18 b19 b23 b24 b25 b26 b27 b29 b31 b32 b33), (sw_in cT (g 0) 288 a0), (sw_in cT (g 4) 6 a4), (sw_in cT (g 5) 960 a5), (sw_lo cT (g 13) 160 a13)])) (va_Qv (fun (u : Int32 × Int32 × Int32 × (Nat → Int32) × (Nat → Int32) × (Nat → Int32)) => (PI 288 u.2.2.2.1) ∧ (KR u.2.2.2.1 a0) ∧ (PI 960 u.2.2.2.2.2) ∧ (KB (96 * x.toInt) u.2.2.2.2.2 a5) ∧ (True)) (fun u t => RW D (va_A [(sw_9 h0 g b0 b5 b6 b7 b8 b9 b10 b11 b12 b13 b14 b17 b18 b19 b23 b24 b25 b26 b27 b29 b31 b32 b33), (sw_in cT (g 0) 288 a0), (sw_in cT (g 4) 6 a4), (sw_in cT (g 5) 960 a5), (sw_lo cT (g 13) 160 a13)] sz) ((fun u : Int32 × Int32 × Int32 × (Nat → Int32) × (Nat → Int32) × (Nat → Int32) => [(sw_9 h0 g b0 b5 b6 b7 b8 b9 b10 b11 b12 b13 b14 b17 b18 b19 b23 b24 b25 b26 b27 b29 u.1 u.2.1 u.2.2.1), (sw_in cT (g 0) 288 u.2.2.2.1), (sw_in cT (g 4) 6 u.2.2.2.2.1), (sw_in cT (g 5) 960 u.2.2.2.2.2), (sw_lo cT (g 13) 160 a13)]) u) t) (va_A [(sw_9 h0 g b0 b5 b6 b7 b8 b9 b10 b11 b12 b13 b14 b17 b18 b19 b23 b24 b25 b26 b27 b29 b31 b32 b33), (sw_in cT (g 0) 288 a0), (sw_in cT (g 4) 6 a4), (sw_in cT (g 5) 960 a5), (sw_lo cT (g 13) 160 a13)] sz)) 0 0 (va_A [(sw_9 h0 g b0 b5 b6 b7 b8 b9 b10 b11 b12 b13 b14 b17 b18 b19 b23 b24 b25 b26 b27 b29 b31 b32 b33), (sw_in cT (g 0) 288 a0), (sw_in cT (g 4) 6 a4), (sw_in cT (g 5) 960 a5), (sw_lo cT (g 13) 160 a13)] sz) := by
  refine m_of (y := yX9_explains) (cc := cX9_explains) (nL := 6) (ret := none) (D := D) (cT := cT) (av := [.ref h0, .int x, .int y, .int z]) (wi := [(sw_9 h0 g b0 b5 b6 b7 b8 b9 b10 b11 b12 b13 b14 b17 b18 b19 b23 b24 b25 b26 b27 b29 b31 b32 b33), (sw_in cT (g 0) 288 a0), (sw_in cT (g 4) 6 a4), (sw_in cT (g 5) 960 a5), (sw_lo cT (g 13) 160 a13)]) (fun A => va_Qv (fun (u : Int32 × Int32 × Int32 × (Nat → Int32) × (Nat → Int32) × (Nat → Int32)) => (PI 288 u.2.2.2.1) ∧ (KR u.2.2.2.1 a0) ∧ (PI 960 u.2.2.2.2.2) ∧ (KB (96 * x.toInt) u.2.2.2.2.2 a5) ∧ (True)) (fun u t => RW D A ((fun u : Int32 × Int32 × Int32 × (Nat → Int32) × (Nat → Int32) × (Nat → Int32) => [(sw_9 h0 g b0 b5 b6 b7 b8 b9 b10 b11 b12 b13 b14 b17 b18 b19 b23 b24 b25 b26 b27 b29 u.1 u.2.1 u.2.2.1), (sw_in cT (g 0) 288 u.2.2.2.1), (sw_in cT (g 4) 6 u.2.2.2.2.1), (sw_in cT (g 5) 960 u.2.2.2.2.2), (sw_lo cT (g 13) 160 a13)]) u) t) A) (by decide) (Nat.le_of_ble_eq_true rfl) ?_
  intro p e s m below meth c A hx hb hml hown htg hK hN hr hlk hnm hsz hP hD hS hA ls hl
  have hown : s.vm.findClass RX9 = some m.cls := hown
  have hl : lv_has ls 6 [(0, .ref h0), (1, .int x), (2, .int y), (3, .int z)] := hl
  have tc_0 : (0 : Int32).toInt = 0 := by decide
  have tc_1 : (1 : Int32).toInt = 1 := by decide
  have tc_2 : (2 : Int32).toInt = 2 := by decide
  have tc_3 : (3 : Int32).toInt = 3 := by decide
  have tc_16 : (16 : Int32).toInt = 16 := by decide
  have tc_40 : (40 : Int32).toInt = 40 := by decide
  refine lv_iload_n hx hb dX9_explains_0 rfl (lv_at hl 1 rfl) ?_
  refine lv_iload_n hx hb dX9_explains_1 rfl (lv_at hl 2 rfl) ?_
  refine lv_icmp_ne (tgt := 77) hx hb dX9_explains_2 (by decide) (fun h => absurd (i32_is (by omega)) h) (fun _ => ?_)
  refine lv_iconst (v := 0) hx hb dX9_explains_5 (by decide) ?_
  refine lv_istore (lv' := [(4, .int 0), (0, .ref h0), (1, .int x), (2, .int y), (3, .int z)]) hx hb dX9_explains_6 hl (by decide) rfl (fun ls hl => ?_)
  refine (fun (key : ∀ (n9_8 : Nat) (k9_8 : Nat)  (H : Heap) (locs : List Loc) (ls : Array Slot), (k9_8 : Int) ≤ 16 → 16 < (k9_8 : Int) + n9_8 → PD D A [(sw_9 h0 g b0 b5 b6 b7 b8 b9 b10 b11 b12 b13 b14 b17 b18 b19 b23 b24 b25 b26 b27 b29 b31 b32 b33), (sw_in cT (g 0) 288 a0), (sw_in cT (g 4) 6 a4), (sw_in cT (g 5) 960 a5), (sw_lo cT (g 13) 160 a13)] H → va_S A s.heap H locs → lv_has ls 6 [(4, .int (nI k9_8)), (0, .ref h0), (1, .int x), (2, .int y), (3, .int z)] → W p l e _ s m _ below meth c H locs _ _ _ (F0 m 8 ls [])) => key (Int.toNat (16 - 0) + 1) 0  _ _ _ (by omega) (by omega)  ⟨hP, hD⟩ hS (lv_sub hl [0, 1, 2, 3, 4] rfl)) ?_
  intro n9_8
  induction n9_8 with
  | zero => intro k9_8  H locs ls hq1 hq2; exact absurd hq2 (by omega)
  | succ n9_8 ih_8 =>
    intro k9_8  H locs ls hq1_8 hq2_8  hPD hS hl
    obtain ⟨hP, hD⟩ := hPD
    have hk9_8 : (nI k9_8).toInt = (k9_8 : Int) := nI_toInt (by omega)
    refine lv_iload hx hb dX9_explains_8 (lv_at hl 0 rfl) ?_
    refine lv_aload_n hx hb dX9_explains_10 rfl (lv_at hl 1 rfl) ?_
    refine va_get (D := D) (ci := 9) (v := .ref (g 0)) (C := RX9) (T := TX9) (N := 37) hx hb htg gRX9 hown hK hP 0 rfl rfl 1 (by decide) (htg _ wi_1151) (fun _ h9 => h9) rfl dX9_explains_11 ?_
    refine lv_iconst (v := 0) hx hb dX9_explains_14 (by decide) ?_
    refine va_iald hx hb hK hP 1 0 rfl rfl (by unfold vp_in; decide) dX9_explains_15 ?_
    refine lv_topi (fun z_1 ez_1 => ?_)
    have iz_1 : 0 ≤ z_1.toInt ∧ z_1.toInt ≤ 16 := by rw [ez_1]; exact rd0 pa0 (by decide) rfl
    have nz_1 : z_1.toInt = ((a0) 0).toInt := by rw [ez_1]; rfl
    refine lv_icmp_ge (tgt := 53) hx hb dX9_explains_16 (by decide) (fun c_2 => ?_) (fun c_2 => ?_)
    · have ic_2 : z_1.toInt ≤ ((k9_8 : Nat) : Int) := ile c_2 (rfl) (nI_toInt (by omega))
      refine lv_aload_n hx hb dX9_explains_53 rfl (lv_at hl 1 rfl) ?_
      refine lv_dup hx hb dX9_explains_54 rfl ?_
      refine va_get (D := D) (ci := 9) (v := .int b33) (C := RX9) (T := TX9) (N := 37) hx hb htg gRX9 hown hK hP 0 rfl rfl 33 (by decide) (htg _ wi_1183) (fun _ h9 => h9) rfl dX9_explains_55 ?_
      refine lv_iconst (v := 1) hx hb dX9_explains_58 (by decide) ?_
      refine lv_iadd hx hb dX9_explains_59 ?_
      refine lv_topi (fun z_3 ez_3 => ?_)
      refine va_put (D := D) (ci := 9) (v := .int z_3) (ty := .int) (C := RX9) (T := TX9) (N := 37) hx hb htg gRX9 tyX9 tyX9_ok nmX9 hown hK hP hD hS 0 rfl rfl 33 (by decide) (htg _ wi_1183) (fun _ h9 => h9) rfl (by decide +kernel) rfl rfl (Nat.le_of_ble_eq_true rfl) dX9_explains_60 (fun H locs hP hD hS => ?_)
      obtain ⟨hP, hD⟩ : PD D A [(sw_9 h0 g b0 b5 b6 b7 b8 b9 b10 b11 b12 b13 b14 b17 b18 b19 b23 b24 b25 b26 b27 b29 b31 b32 z_3), (sw_in cT (g 0) 288 a0), (sw_in cT (g 4) 6 a4), (sw_in cT (g 5) 960 a5), (sw_lo cT (g 13) 160 a13)] _ := ⟨hP, hD⟩
      refine lv_aload_n hx hb dX9_explains_63 rfl (lv_at hl 1 rfl) ?_
      refine lv_dup hx hb dX9_explains_64 rfl ?_
      refine va_get (D := D) (ci := 9) (v := .int b32) (C := RX9) (T := TX9) (N := 37) hx hb htg gRX9 hown hK hP 0 rfl rfl 32 (by decide) (htg _ wi_1182) (fun _ h9 => h9) rfl dX9_explains_65 ?_
      refine lv_aload_n hx hb dX9_explains_68 rfl (lv_at hl 1 rfl) ?_
      refine va_get (D := D) (ci := 9) (v := .int b31) (C := RX9) (T := TX9) (N := 37) hx hb htg gRX9 hown hK hP 0 rfl rfl 31 (by decide) (htg _ wi_1181) (fun _ h9 => h9) rfl dX9_explains_69 ?_
      refine lv_iand hx hb dX9_explains_72 ?_
      refine lv_topi (fun z_4 ez_4 => ?_)
      refine va_put (D := D) (ci := 9) (v := .int z_4) (ty := .int) (C := RX9) (T := TX9) (N := 37) hx hb htg gRX9 tyX9 tyX9_ok nmX9 hown hK hP hD hS 0 rfl rfl 32 (by decide) (htg _ wi_1182) (fun _ h9 => h9) rfl (by decide +kernel) rfl rfl (Nat.le_of_ble_eq_true rfl) dX9_explains_73 (fun H locs hP hD hS => ?_)
      obtain ⟨hP, hD⟩ : PD D A [(sw_9 h0 g b0 b5 b6 b7 b8 b9 b10 b11 b12 b13 b14 b17 b18 b19 b23 b24 b25 b26 b27 b29 b31 z_4 z_3), (sw_in cT (g 0) 288 a0), (sw_in cT (g 4) 6 a4), (sw_in cT (g 5) 960 a5), (sw_lo cT (g 13) 160 a13)] _ := ⟨hP, hD⟩
      exact x_vret hx hb hr hlk hP hD hS [0, 1, 2, 3, 4] ((b31, z_4, z_3, a0, a4, a5)) rfl (by decide) ⟨by (try dsimp only); first | assumption | omega | decide | exact Or.inl (by decide) | (intro h9; exact absurd h9 (by decide)) | (intro _; omega) | (intro _; assumption) | (intro _; decide), by (try dsimp only); first | assumption | exact KR_rfl _, by (try dsimp only); first | assumption | omega | decide | exact Or.inl (by decide) | (intro h9; exact absurd h9 (by decide)) | (intro _; omega) | (intro _; assumption) | (intro _; decide), by (try dsimp only); first | assumption | exact KB_rfl _ _, trivial⟩ (by decide) (by decide) dX9_explains_76
    · have ic_2 : ((k9_8 : Nat) : Int) < z_1.toInt := inle c_2 (rfl) (nI_toInt (by omega))
      refine lv_aload_n hx hb dX9_explains_19 rfl (lv_at hl 1 rfl) ?_
      refine va_get (D := D) (ci := 9) (v := .ref (g 0)) (C := RX9) (T := TX9) (N := 37) hx hb htg gRX9 hown hK hP 0 rfl rfl 1 (by decide) (htg _ wi_1151) (fun _ h9 => h9) rfl dX9_explains_20 ?_
      refine lv_bipush (v := 16) hx hb dX9_explains_23 (by decide) ?_
      refine lv_iload hx hb dX9_explains_25 (lv_at hl 0 rfl) ?_
      refine lv_iadd hx hb dX9_explains_27 ?_
      refine lv_is (y := nI (16 + k9_8)) (nI_add 16 (k9_8)) ?_
      refine va_iald hx hb hK hP 1 0 rfl rfl (vp_in_nI (by omega) (by omega)) dX9_explains_28 ?_
      refine lv_topi (fun z_5 ez_5 => ?_)
      refine lv_i2l (v := z_5.toInt64) hx hb dX9_explains_29 rfl ?_
      refine lv_aload_n hx hb dX9_explains_30 rfl (lv_at hl 1 rfl) ?_
      refine va_get (D := D) (ci := 9) (v := .ref (g 13)) (C := RX9) (T := TX9) (N := 37) hx hb htg gRX9 hown hK hP 0 rfl rfl 36 (by decide) (htg _ wi_1186) (fun _ h9 => h9) rfl dX9_explains_31 ?_
      refine lv_bipush (v := 40) hx hb dX9_explains_34 (by decide) ?_
      refine lv_iload_n hx hb dX9_explains_36 rfl (lv_at hl 4 rfl) ?_
      refine lv_imul hx hb dX9_explains_37 ?_
      refine lv_topi (fun z_6 ez_6 => ?_)
      have iz_6 : z_6.toInt = 40 * z.toInt := toInt_mulI ez_6 (by decide) (rfl) (by omega)
      refine lv_iload hx hb dX9_explains_38 (lv_at hl 0 rfl) ?_
      refine lv_iadd hx hb dX9_explains_40 ?_
      refine lv_topi (fun z_7 ez_7 => ?_)
      have iz_7 : z_7.toInt = z_6.toInt + ((k9_8 : Nat) : Int) := toInt_addI ez_7 (rfl) (nI_toInt (by omega)) (by omega)
      refine va_lald hx hb hK hP 4 1 rfl rfl (vp_in_iff.mpr (by omega)) dX9_explains_41 ?_
      refine lv_topl (fun z_8 ez_8 => ?_)
      refine W.lcmp hx hb dX9_explains_42 ?_
      refine lv_if_eq (tgt := 47) hx hb dX9_explains_43 (by decide) (fun c_9 => ?_) (fun c_9 => ?_)
      · have ic_9 : z_5.toInt = z_8.toInt := lgc_eq c_9 (i2l_i _) (rfl)
        refine lv_iinc (v := (nI (k9_8 + 1))) (lv' := [(4, .int (nI (k9_8 + 1))), (0, .ref h0), (1, .int x), (2, .int y), (3, .int z)]) hx hb dX9_explains_47 hl (k := 0) rfl (by exact nI_1 (k9_8)) (by decide) rfl (fun ls hl => ?_)
        refine lv_goto (tgt := 8) hx hb dX9_explains_50 (by decide) ?_
        exact ih_8 (k9_8 + 1)  _ _ _ (by omega) (by omega)  ⟨hP.sub [0, 1, 2, 3, 4] rfl, hD.sub [0, 1, 2, 3, 4] (by decide) rfl⟩ hS (lv_sub hl [0, 1, 2, 3, 4] rfl)
      · have ic_9 : ¬ z_5.toInt = z_8.toInt := lgc_ne c_9 (i2l_i _) (rfl)
        exact x_vret hx hb hr hlk hP hD hS [0, 1, 2, 3, 4] ((b31, b32, b33, a0, a4, a5)) rfl (by decide) ⟨by (try dsimp only); first | assumption | omega | decide | exact Or.inl (by decide) | (intro h9; exact absurd h9 (by decide)) | (intro _; omega) | (intro _; assumption) | (intro _; decide), by (try dsimp only); first | assumption | exact KR_rfl _, by (try dsimp only); first | assumption | omega | decide | exact Or.inl (by decide) | (intro h9; exact absurd h9 (by decide)) | (intro _; omega) | (intro _; assumption) | (intro _; decide), by (try dsimp only); first | assumption | exact KB_rfl _ _, trivial⟩ (by decide) (by decide) dX9_explains_46
