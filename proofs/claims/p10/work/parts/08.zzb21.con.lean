set_option maxHeartbeats 4000000 in
set_option maxRecDepth 100000 in
theorem m_seeks_1K (l : Launch) (D : va_G) (cT : Nat → ClassId) (sz : Nat) (h0 : Nat) (g : Nat → Nat) (b0 : Int32) (b5 : Int32) (b6 : Int32) (b7 : Int32) (b8 : Int32) (b9 : Int32) (b10 : Int32) (b11 : Int32) (b12 : Int32) (b13 : Int32) (b14 : Int32) (b17 : Int32) (b18 : Int32) (b19 : Int32) (b23 : Int32) (b24 : Int32) (b25 : Int32) (b26 : Int32) (b27 : Int32) (b29 : Int32) (b31 : Int32) (b32 : Int32) (b33 : Int32) (hb5 : 0 ≤ b5.toInt ∧ b5.toInt ≤ 900) (a0 : Nat → Int32) (pa0 : PI 288 a0) (a4 : Nat → Int32) (a5 : Nat → Int32) (pa5 : PI 960 a5) (a6 : Nat → Int32) (a7 : Nat → Int32) (a8 : Nat → Int32) (x : Int32) (hb24 : 0 ≤ b24.toInt ∧ b24.toInt ≤ 5) (hxk : 0 ≤ x.toInt ∧ x.toInt + 1 = b27.toInt) (hb27 : 0 ≤ b27.toInt ∧ b27.toInt ≤ 8) : Met l yX9_seeks (wsc yX9_seeks cX9_seeks 9 none) { frames := 7, cells := 0, slots := 0, locals := 217 } (va_Pc [.ref h0, .int x] (PX D cT sz [(sw_9 h0 g b0 b5 b6 b7 b8 b9 b10 b11 b12 b13 b14 b17 b18 b19 b23 b24 b25 b26 b27 b29 b31 b32 b33), (sw_in cT (g 0) 288 a0), (sw_in cT (g 4) 6 a4), (sw_in cT (g 5) 960 a5), (sw_in cT (g 6) 8 a6), (sw_in cT (g 7) 8 a7), (sw_in cT (g 8) 6 a8)])) (va_Qv (fun (u : Int32 × Int32 × (Nat → Int32) × (Nat → Int32) × (Nat → Int32) × (Nat → Int32) × (Nat → Int32) × (Nat → Int32)) => (PI 288 u.2.2.1) ∧ (KR u.2.2.1 a0) ∧ (PI 960 u.2.2.2.2.1) ∧ (KB (96 * x.toInt) u.2.2.2.2.1 a5) ∧ (True)) (fun u t => RW D (va_A [(sw_9 h0 g b0 b5 b6 b7 b8 b9 b10 b11 b12 b13 b14 b17 b18 b19 b23 b24 b25 b26 b27 b29 b31 b32 b33), (sw_in cT (g 0) 288 a0), (sw_in cT (g 4) 6 a4), (sw_in cT (g 5) 960 a5), (sw_in cT (g 6) 8 a6), (sw_in cT (g 7) 8 a7), (sw_in cT (g 8) 6 a8)] sz) ((fun u : Int32 × Int32 × (Nat → Int32) × (Nat → Int32) × (Nat → Int32) × (Nat → Int32) × (Nat → Int32) × (Nat → Int32) => [(sw_9 h0 g b0 b5 b6 b7 b8 b9 b10 b11 b12 b13 b14 b17 b18 b19 b23 b24 u.1 u.2.1 b27 b29 b31 b32 b33), (sw_in cT (g 0) 288 u.2.2.1), (sw_in cT (g 4) 6 u.2.2.2.1), (sw_in cT (g 5) 960 u.2.2.2.2.1), (sw_in cT (g 6) 8 u.2.2.2.2.2.1), (sw_in cT (g 7) 8 u.2.2.2.2.2.2.1), (sw_in cT (g 8) 6 u.2.2.2.2.2.2.2)]) u) t) (va_A [(sw_9 h0 g b0 b5 b6 b7 b8 b9 b10 b11 b12 b13 b14 b17 b18 b19 b23 b24 b25 b26 b27 b29 b31 b32 b33), (sw_in cT (g 0) 288 a0), (sw_in cT (g 4) 6 a4), (sw_in cT (g 5) 960 a5), (sw_in cT (g 6) 8 a6), (sw_in cT (g 7) 8 a7), (sw_in cT (g 8) 6 a8)] sz)) 0 0 (va_A [(sw_9 h0 g b0 b5 b6 b7 b8 b9 b10 b11 b12 b13 b14 b17 b18 b19 b23 b24 b25 b26 b27 b29 b31 b32 b33), (sw_in cT (g 0) 288 a0), (sw_in cT (g 4) 6 a4), (sw_in cT (g 5) 960 a5), (sw_in cT (g 6) 8 a6), (sw_in cT (g 7) 8 a7), (sw_in cT (g 8) 6 a8)] sz) := by
  refine m_of (y := yX9_seeks) (cc := cX9_seeks) (nL := 9) (ret := none) (D := D) (cT := cT) (av := [.ref h0, .int x]) (wi := [(sw_9 h0 g b0 b5 b6 b7 b8 b9 b10 b11 b12 b13 b14 b17 b18 b19 b23 b24 b25 b26 b27 b29 b31 b32 b33), (sw_in cT (g 0) 288 a0), (sw_in cT (g 4) 6 a4), (sw_in cT (g 5) 960 a5), (sw_in cT (g 6) 8 a6), (sw_in cT (g 7) 8 a7), (sw_in cT (g 8) 6 a8)]) (fun A => va_Qv (fun (u : Int32 × Int32 × (Nat → Int32) × (Nat → Int32) × (Nat → Int32) × (Nat → Int32) × (Nat → Int32) × (Nat → Int32)) => (PI 288 u.2.2.1) ∧ (KR u.2.2.1 a0) ∧ (PI 960 u.2.2.2.2.1) ∧ (KB (96 * x.toInt) u.2.2.2.2.1 a5) ∧ (True)) (fun u t => RW D A ((fun u : Int32 × Int32 × (Nat → Int32) × (Nat → Int32) × (Nat → Int32) × (Nat → Int32) × (Nat → Int32) × (Nat → Int32) => [(sw_9 h0 g b0 b5 b6 b7 b8 b9 b10 b11 b12 b13 b14 b17 b18 b19 b23 b24 u.1 u.2.1 b27 b29 b31 b32 b33), (sw_in cT (g 0) 288 u.2.2.1), (sw_in cT (g 4) 6 u.2.2.2.1), (sw_in cT (g 5) 960 u.2.2.2.2.1), (sw_in cT (g 6) 8 u.2.2.2.2.2.1), (sw_in cT (g 7) 8 u.2.2.2.2.2.2.1), (sw_in cT (g 8) 6 u.2.2.2.2.2.2.2)]) u) t) A) (by decide) (Nat.le_of_ble_eq_true rfl) ?_
  intro p e s m below meth c A hx hb hml hown htg hK hN hr hlk hnm hsz hP hD hS hA ls hl
  have hown : s.vm.findClass RX9 = some m.cls := hown
  have hl : lv_has ls 9 [(0, .ref h0), (1, .int x)] := hl
  have tc_0 : (0 : Int32).toInt = 0 := by decide
  have tc_1 : (1 : Int32).toInt = 1 := by decide
  have tc_2 : (2 : Int32).toInt = 2 := by decide
  have tc_3 : (3 : Int32).toInt = 3 := by decide
  have tc_4 : (4 : Int32).toInt = 4 := by decide
  have tc_5 : (5 : Int32).toInt = 5 := by decide
  have tc_6 : (6 : Int32).toInt = 6 := by decide
  refine lv_iload_n hx hb dX9_seeks_0 rfl (lv_at hl 1 rfl) ?_
  refine lv_aload_n hx hb dX9_seeks_1 rfl (lv_at hl 0 rfl) ?_
  refine va_get (D := D) (ci := 9) (v := .int b27) (C := RX9) (T := TX9) (N := 37) hx hb htg gRX9 hown hK hP 0 rfl rfl 27 (by decide) (htg _ wi_1177) (fun _ h9 => h9) rfl dX9_seeks_2 ?_
  refine lv_icmp_ne (tgt := 125) hx hb dX9_seeks_5 (by decide) (fun _ => ?_) (fun h => absurd h (fun h => by have h3 := ieq h rfl rfl; omega))
  refine lv_aload_n hx hb dX9_seeks_125 rfl (lv_at hl 0 rfl) ?_
  refine lv_iload_n hx hb dX9_seeks_126 rfl (lv_at hl 1 rfl) ?_
  refine xk_v (wr := [(sw_in cT (g 4) 6 a4), (sw_in cT (g 6) 8 a6), (sw_in cT (g 7) 8 a7), (sw_in cT (g 8) 6 a8)]) (xr_V (n := 1) (As := [.int x]) (rest := []) ⟨hx, hb, hml, hown, htg⟩ hK hN hP hD hS hA [0, 1, 3] rfl (by decide) (m_keepsK l D cT _ (h0) (g) (b0) (b5) (b6) (b7) (b8) (b9) (b10) (b11) (b12) (b13) (b14) (b17) (b18) (b19) (b23) (b24) (b25) (b26) (b27) (b29) (b31) (b32) (b33) (by first | assumption | omega | decide | exact Or.inl (by decide) | (intro h9; exact absurd h9 (by decide)) | (intro _; omega) | (intro _; assumption) | (intro _; decide)) (a0) (by first | assumption | omega | decide | exact Or.inl (by decide) | (intro h9; exact absurd h9 (by decide)) | (intro _; omega) | (intro _; assumption) | (intro _; decide)) (a5) (by first | assumption | omega | decide | exact Or.inl (by decide) | (intro h9; exact absurd h9 (by decide)) | (intro _; omega) | (intro _; assumption) | (intro _; decide)) (x) (by first | assumption | omega | decide | exact Or.inl (by decide) | (intro h9; exact absurd h9 (by decide)) | (intro _; omega) | (intro _; assumption) | (intro _; decide))) wi_1432 wi_1434 wi_101 wi_131 wi_1435 rfl rfl rfl ⟨rfl, by decide +kernel⟩ ⟨Nat.le_of_ble_eq_true rfl, Nat.le_of_ble_eq_true rfl⟩ rfl hl.1 rfl (Nat.le_of_ble_eq_true rfl) dX9_seeks_127 ⟨Nat.le_of_ble_eq_true rfl, Nat.le_of_ble_eq_true rfl⟩) hP hD hS hA [0, 1, 3] [2, 4, 5, 6] rfl rfl (by decide) (by decide) (fun u_1 H locs hwr_2 hP hD hS => ?_)
  obtain ⟨hP, hD⟩ : PD D A [(sw_in cT (g 4) 6 a4), (sw_in cT (g 6) 8 a6), (sw_in cT (g 7) 8 a7), (sw_in cT (g 8) 6 a8), (sw_9 h0 g b0 b5 b6 b7 b8 b9 b10 b11 b12 b13 b14 b17 b18 b19 b23 b24 b25 b26 b27 b29 b31 b32 b33), (sw_in cT (g 0) 288 a0), (sw_in cT (g 5) 960 u_1)] _ := ⟨hP, hD⟩
  have qr_2_0 : PI 960 u_1 := hwr_2.1
  have qr_2_1 : KP (96 * x.toInt) u_1 a0 := hwr_2.2.1
  have qr_2_2 : KB (96 * x.toInt) u_1 a5 := hwr_2.2.2.1
  refine lv_aload_n hx hb dX9_seeks_130 rfl (lv_at hl 0 rfl) ?_
  refine va_get (D := D) (ci := 9) (v := .ref (g 4)) (C := RX9) (T := TX9) (N := 37) hx hb htg gRX9 hown hK hP 4 rfl rfl 15 (by decide) (htg _ wi_1165) (fun _ h9 => h9) rfl dX9_seeks_131 ?_
  refine lv_iconst (v := 0) hx hb dX9_seeks_134 (by decide) ?_
  refine va_iald hx hb hK hP 0 0 rfl rfl (by unfold vp_in; decide) dX9_seeks_135 ?_
  refine lv_topi (fun z_3 ez_3 => ?_)
  refine lv_istore_n (lv' := [(2, .int z_3), (0, .ref h0), (1, .int x)]) hx hb dX9_seeks_136 rfl hl (by decide) rfl (fun ls hl => ?_)
  refine lv_aload_n hx hb dX9_seeks_137 rfl (lv_at hl 1 rfl) ?_
  refine va_get (D := D) (ci := 9) (v := .ref (g 4)) (C := RX9) (T := TX9) (N := 37) hx hb htg gRX9 hown hK hP 4 rfl rfl 15 (by decide) (htg _ wi_1165) (fun _ h9 => h9) rfl dX9_seeks_138 ?_
  refine lv_iconst (v := 1) hx hb dX9_seeks_141 (by decide) ?_
  refine va_iald hx hb hK hP 0 0 rfl rfl (by unfold vp_in; decide) dX9_seeks_142 ?_
  refine lv_topi (fun z_4 ez_4 => ?_)
  refine lv_istore_n (lv' := [(3, .int z_4), (2, .int z_3), (0, .ref h0), (1, .int x)]) hx hb dX9_seeks_143 rfl hl (by decide) rfl (fun ls hl => ?_)
  refine lv_aload_n hx hb dX9_seeks_144 rfl (lv_at hl 2 rfl) ?_
  refine va_get (D := D) (ci := 9) (v := .ref (g 4)) (C := RX9) (T := TX9) (N := 37) hx hb htg gRX9 hown hK hP 4 rfl rfl 15 (by decide) (htg _ wi_1165) (fun _ h9 => h9) rfl dX9_seeks_145 ?_
  refine lv_iconst (v := 2) hx hb dX9_seeks_148 (by decide) ?_
  refine va_iald hx hb hK hP 0 0 rfl rfl (by unfold vp_in; decide) dX9_seeks_149 ?_
  refine lv_topi (fun z_5 ez_5 => ?_)
  refine lv_istore (lv' := [(4, .int z_5), (3, .int z_4), (2, .int z_3), (0, .ref h0), (1, .int x)]) hx hb dX9_seeks_150 hl (by decide) rfl (fun ls hl => ?_)
  refine lv_aload_n hx hb dX9_seeks_152 rfl (lv_at hl 3 rfl) ?_
  refine va_get (D := D) (ci := 9) (v := .ref (g 4)) (C := RX9) (T := TX9) (N := 37) hx hb htg gRX9 hown hK hP 4 rfl rfl 15 (by decide) (htg _ wi_1165) (fun _ h9 => h9) rfl dX9_seeks_153 ?_
  refine lv_iconst (v := 3) hx hb dX9_seeks_156 (by decide) ?_
  refine va_iald hx hb hK hP 0 0 rfl rfl (by unfold vp_in; decide) dX9_seeks_157 ?_
  refine lv_topi (fun z_6 ez_6 => ?_)
  refine lv_istore (lv' := [(5, .int z_6), (4, .int z_5), (3, .int z_4), (2, .int z_3), (0, .ref h0), (1, .int x)]) hx hb dX9_seeks_158 hl (by decide) rfl (fun ls hl => ?_)
  refine lv_aload_n hx hb dX9_seeks_160 rfl (lv_at hl 4 rfl) ?_
  refine va_get (D := D) (ci := 9) (v := .ref (g 4)) (C := RX9) (T := TX9) (N := 37) hx hb htg gRX9 hown hK hP 4 rfl rfl 15 (by decide) (htg _ wi_1165) (fun _ h9 => h9) rfl dX9_seeks_161 ?_
  refine lv_iconst (v := 4) hx hb dX9_seeks_164 (by decide) ?_
  refine va_iald hx hb hK hP 0 0 rfl rfl (by unfold vp_in; decide) dX9_seeks_165 ?_
  refine lv_topi (fun z_7 ez_7 => ?_)
  refine lv_istore (lv' := [(6, .int z_7), (5, .int z_6), (4, .int z_5), (3, .int z_4), (2, .int z_3), (0, .ref h0), (1, .int x)]) hx hb dX9_seeks_166 hl (by decide) rfl (fun ls hl => ?_)
  refine lv_aload_n hx hb dX9_seeks_168 rfl (lv_at hl 5 rfl) ?_
  refine va_get (D := D) (ci := 9) (v := .ref (g 4)) (C := RX9) (T := TX9) (N := 37) hx hb htg gRX9 hown hK hP 4 rfl rfl 15 (by decide) (htg _ wi_1165) (fun _ h9 => h9) rfl dX9_seeks_169 ?_
  refine lv_iconst (v := 5) hx hb dX9_seeks_172 (by decide) ?_
  refine va_iald hx hb hK hP 0 0 rfl rfl (by unfold vp_in; decide) dX9_seeks_173 ?_
  refine lv_topi (fun z_8 ez_8 => ?_)
  refine lv_istore (lv' := [(7, .int z_8), (6, .int z_7), (5, .int z_6), (4, .int z_5), (3, .int z_4), (2, .int z_3), (0, .ref h0), (1, .int x)]) hx hb dX9_seeks_174 hl (by decide) rfl (fun ls hl => ?_)
  refine lv_iconst (v := 0) hx hb dX9_seeks_176 (by decide) ?_
  refine lv_istore (lv' := [(8, .int 0), (7, .int z_8), (6, .int z_7), (5, .int z_6), (4, .int z_5), (3, .int z_4), (2, .int z_3), (0, .ref h0), (1, .int x)]) hx hb dX9_seeks_177 hl (by decide) rfl (fun ls hl => ?_)
  refine (fun (key : ∀ (n9_179 : Nat) (k9_179 : Nat) (f9_179_0 : Nat → Int32) (f9_179_1 : Nat → Int32) (f9_179_2 : Nat → Int32) (f9_179_3 : Nat → Int32) (f9_179_4 : Nat → Int32) (f9_179_5 : Nat → Int32) (v9_179_6 : Int32) (v9_179_7 : Int32) (H : Heap) (locs : List Loc) (ls : Array Slot), (k9_179 : Int) ≤ 3 → 3 < (k9_179 : Int) + n9_179 → KP (96 * x.toInt) f9_179_2 a0 → KB (96 * x.toInt) f9_179_2 a5 → PI 288 f9_179_0 → PI 960 f9_179_2 → KR f9_179_0 (a0) → PD D A [(sw_in cT (g 4) 6 f9_179_1), (sw_in cT (g 6) 8 f9_179_3), (sw_in cT (g 7) 8 f9_179_4), (sw_in cT (g 8) 6 f9_179_5), (sw_9 h0 g b0 b5 b6 b7 b8 b9 b10 b11 b12 b13 b14 b17 b18 b19 b23 b24 v9_179_6 v9_179_7 b27 b29 b31 b32 b33), (sw_in cT (g 0) 288 f9_179_0), (sw_in cT (g 5) 960 f9_179_2)] H → va_S A s.heap H locs → lv_has ls 9 [(8, .int (nI k9_179)), (7, .int z_8), (6, .int z_7), (5, .int z_6), (4, .int z_5), (3, .int z_4), (2, .int z_3), (0, .ref h0), (1, .int x)] → W p l e _ s m _ below meth c H locs _ _ _ (F0 m 179 ls [])) => key (Int.toNat (3 - 0) + 1) 0 _ _ _ _ _ _ _ _ _ _ _ (by omega) (by omega) (by assumption) (by first | assumption | exact KB_rfl _ _) (by first | assumption | omega | decide | (simp only [ti_0, ti_1, ti_2, ti_3, ti_4, ti_5, ti_6, ti_7, ti_8, ti_9, ti_10, ti_11, ti_12, ti_m1]; omega)) (by first | assumption | omega | decide | (simp only [ti_0, ti_1, ti_2, ti_3, ti_4, ti_5, ti_6, ti_7, ti_8, ti_9, ti_10, ti_11, ti_12, ti_m1]; omega)) (by first | assumption | exact KR_rfl _) ⟨hP, hD⟩ hS (lv_sub hl [0, 1, 2, 3, 4, 5, 6, 7, 8] rfl)) ?_
  intro n9_179
  induction n9_179 with
  | zero => intro k9_179 f9_179_0 f9_179_1 f9_179_2 f9_179_3 f9_179_4 f9_179_5 v9_179_6 v9_179_7 H locs ls hq1 hq2; exact absurd hq2 (by omega)
  | succ n9_179 ih_179 =>
    intro k9_179 f9_179_0 f9_179_1 f9_179_2 f9_179_3 f9_179_4 f9_179_5 v9_179_6 v9_179_7 H locs ls hq1_179 hq2_179 h9_179_0 h9_179_1 h9_179_2 h9_179_3 h9_179_4 hPD hS hl
    obtain ⟨hP, hD⟩ := hPD
    have hk9_179 : (nI k9_179).toInt = (k9_179 : Int) := nI_toInt (by omega)
    refine lv_iload hx hb dX9_seeks_179 (lv_at hl 0 rfl) ?_
    refine lv_iconst (v := 3) hx hb dX9_seeks_181 (by decide) ?_
    refine lv_icmp_ge (tgt := 278) hx hb dX9_seeks_182 (by decide) (fun c_9 => ?_) (fun c_9 => ?_)
    · have ic_9 : 3 ≤ ((k9_179 : Nat) : Int) := ile c_9 (by decide) (nI_toInt (by omega))
      exact x_vret hx hb hr hlk hP hD hS [4, 5, 0, 6, 1, 2, 3] ((v9_179_6, v9_179_7, f9_179_0, f9_179_1, f9_179_2, f9_179_3, f9_179_4, f9_179_5)) rfl (by decide) ⟨by (try dsimp only); first | assumption | omega | decide | exact Or.inl (by decide) | (intro h9; exact absurd h9 (by decide)) | (intro _; omega) | (intro _; assumption) | (intro _; decide), by (try dsimp only); first | assumption | exact KR_rfl _, by (try dsimp only); first | assumption | omega | decide | exact Or.inl (by decide) | (intro h9; exact absurd h9 (by decide)) | (intro _; omega) | (intro _; assumption) | (intro _; decide), by (try dsimp only); first | assumption | exact KB_rfl _ _, trivial⟩ (by decide) (by decide) dX9_seeks_278
    · have ic_9 : ((k9_179 : Nat) : Int) < 3 := inle c_9 (by decide) (nI_toInt (by omega))
      refine lv_aload_n hx hb dX9_seeks_185 rfl (lv_at hl 7 rfl) ?_
      refine lv_iload hx hb dX9_seeks_186 (lv_at hl 0 rfl) ?_
      refine lv_i2l (v := (nI k9_179).toInt64) hx hb dX9_seeks_188 rfl ?_
      have ilw_10 : ((nI k9_179).toInt64).toInt = ((nI k9_179)).toInt := i2l_i _
      refine xk_i (wr := [(sw_in cT (g 4) 6 f9_179_1), (sw_in cT (g 6) 8 f9_179_3), (sw_in cT (g 7) 8 f9_179_4), (sw_in cT (g 8) 6 f9_179_5), (sw_in cT (g 5) 960 f9_179_2)]) (xr_V (n := 1) (As := [.long ((nI k9_179).toInt64)]) (rest := []) ⟨hx, hb, hml, hown, htg⟩ hK hN hP hD hS hA [4, 5] rfl (by decide) (m_refuses l D cT _ (h0) (g) (b0) (b5) (b6) (b7) (b8) (b9) (b10) (b11) (b12) (b13) (b14) (b17) (b18) (b19) (b23) (b24) (v9_179_6) (v9_179_7) (b27) (b29) (b31) (b32) (b33) (by first | assumption | omega | decide | exact Or.inl (by decide) | (intro h9; exact absurd h9 (by decide)) | (intro _; omega) | (intro _; assumption) | (intro _; decide)) (f9_179_0) (by first | assumption | omega | decide | exact Or.inl (by decide) | (intro h9; exact absurd h9 (by decide)) | (intro _; omega) | (intro _; assumption) | (intro _; decide)) ((nI k9_179).toInt64)) wi_1416 wi_1418 wi_99 wi_131 wi_1419 rfl rfl rfl ⟨rfl, by decide +kernel⟩ ⟨Nat.le_of_ble_eq_true rfl, Nat.le_of_ble_eq_true rfl⟩ rfl hl.1 rfl (Nat.le_of_ble_eq_true rfl) dX9_seeks_189 ⟨Nat.le_of_ble_eq_true rfl, Nat.le_of_ble_eq_true rfl⟩) hP hD hS hA [4, 5] [0, 1, 2, 3, 6] rfl rfl (by decide) (by decide) (fun r_12 u_11 H locs hwr_12 hP hD hS => ?_)
      obtain ⟨hP, hD⟩ : PD D A [(sw_in cT (g 4) 6 f9_179_1), (sw_in cT (g 6) 8 f9_179_3), (sw_in cT (g 7) 8 f9_179_4), (sw_in cT (g 8) 6 f9_179_5), (sw_in cT (g 5) 960 f9_179_2), (sw_9 h0 g b0 b5 b6 b7 b8 b9 b10 b11 b12 b13 b14 b17 b18 b19 b23 b24 v9_179_6 v9_179_7 b27 b29 b31 b32 b33), (sw_in cT (g 0) 288 f9_179_0)] _ := ⟨hP, hD⟩
      have qr_12_0 : Imp (r_12.toInt = 0) (1 ≤ (f9_179_0 6).toInt ∧ (f9_179_0 1).toInt ≤ 9998 ∧ (((nI k9_179).toInt64).toInt = 0 ∨ (((nI k9_179).toInt64).toInt = 1 ∧ 1 ≤ (f9_179_0 2).toInt) ∨ (((nI k9_179).toInt64).toInt = 2 ∧ (f9_179_0 2).toInt ≤ 14))) := hwr_12.1
      refine lv_if_eq (tgt := 198) hx hb dX9_seeks_192 (by decide) (fun c_13 => ?_) (fun c_13 => ?_)
      · have ic_13 : r_12.toInt = 0 := ieq c_13 (rfl) (by decide)
        have kqr_12_0 : 1 ≤ (f9_179_0 6).toInt ∧ (f9_179_0 1).toInt ≤ 9998 ∧ (((nI k9_179).toInt64).toInt = 0 ∨ (((nI k9_179).toInt64).toInt = 1 ∧ 1 ≤ (f9_179_0 2).toInt) ∨ (((nI k9_179).toInt64).toInt = 2 ∧ (f9_179_0 2).toInt ≤ 14)) := qr_12_0 ic_13
        refine lv_aload_n hx hb dX9_seeks_198 rfl (lv_at hl 7 rfl) ?_
        refine va_get (D := D) (ci := 9) (v := .ref (g 6)) (C := RX9) (T := TX9) (N := 37) hx hb htg gRX9 hown hK hP 5 rfl rfl 20 (by decide) (htg _ wi_1170) (fun _ h9 => h9) rfl dX9_seeks_199 ?_
        refine lv_iload_n hx hb dX9_seeks_202 rfl (lv_at hl 8 rfl) ?_
        refine lv_iload hx hb dX9_seeks_203 (lv_at hl 0 rfl) ?_
        refine va_iast hx hb hK hP hD hS 1 0 rfl rfl (vp_in_iff.mpr (by omega)) dX9_seeks_205 (fun H locs hP hD hS => ?_)
        obtain ⟨f_14, hP, hD⟩ : ∃ f_14 : Nat → Int32, PD D A [(sw_in cT (g 4) 6 f9_179_1), (sw_in cT (g 6) 8 f_14), (sw_in cT (g 7) 8 f9_179_4), (sw_in cT (g 8) 6 f9_179_5), (sw_in cT (g 5) 960 f9_179_2), (sw_9 h0 g b0 b5 b6 b7 b8 b9 b10 b11 b12 b13 b14 b17 b18 b19 b23 b24 v9_179_6 v9_179_7 b27 b29 b31 b32 b33), (sw_in cT (g 0) 288 f9_179_0)] H := ⟨_, hP, hD⟩
        refine lv_aload_n hx hb dX9_seeks_206 rfl (lv_at hl 7 rfl) ?_
        refine lv_iload hx hb dX9_seeks_207 (lv_at hl 0 rfl) ?_
        refine lv_iconst (v := 0) hx hb dX9_seeks_209 (by decide) ?_
        refine xk_i (wr := [(sw_in cT (g 6) 8 f_14), (sw_in cT (g 7) 8 f9_179_4), (sw_in cT (g 8) 6 f9_179_5), (sw_in cT (g 5) 960 f9_179_2)]) (xr_V (n := 2) (As := [.int (nI k9_179), .int 0]) (rest := []) ⟨hx, hb, hml, hown, htg⟩ hK hN hP hD hS hA [5, 6, 0] rfl (by decide) (m_goesK l D cT _ (h0) (g) (b0) (b5) (b6) (b7) (b8) (b9) (b10) (b11) (b12) (b13) (b14) (b17) (b18) (b19) (b23) (b24) (v9_179_6) (v9_179_7) (b27) (b29) (b31) (b32) (b33) (by first | assumption | omega | decide | exact Or.inl (by decide) | (intro h9; exact absurd h9 (by decide)) | (intro _; omega) | (intro _; assumption) | (intro _; decide)) (f9_179_0) (by first | assumption | omega | decide | exact Or.inl (by decide) | (intro h9; exact absurd h9 (by decide)) | (intro _; omega) | (intro _; assumption) | (intro _; decide)) (f9_179_1) ((nI k9_179)) (0) (by first | assumption | omega | decide | exact Or.inl (by decide) | (intro h9; exact absurd h9 (by decide)) | (intro _; omega) | (intro _; assumption) | (intro _; decide)) (by first | assumption | omega | decide | exact Or.inl (by decide) | (intro h9; exact absurd h9 (by decide)) | (intro _; omega) | (intro _; assumption) | (intro _; decide)) (by first | assumption | omega | decide | exact Or.inl (by decide) | (intro h9; exact absurd h9 (by decide)) | (intro _; omega) | (intro _; assumption) | (intro _; decide))) wi_1424 wi_1426 wi_100 wi_131 wi_1427 rfl rfl rfl ⟨rfl, by decide +kernel⟩ ⟨Nat.le_of_ble_eq_true rfl, Nat.le_of_ble_eq_true rfl⟩ rfl hl.1 rfl (Nat.le_of_ble_eq_true rfl) dX9_seeks_210 ⟨Nat.le_of_ble_eq_true rfl, Nat.le_of_ble_eq_true rfl⟩) hP hD hS hA [5, 6, 0] [1, 2, 3, 4] rfl rfl (by decide) (by decide) (fun r_16 u_15 H locs hwr_16 hP hD hS => ?_)
        obtain ⟨hP, hD⟩ : PD D A [(sw_in cT (g 6) 8 f_14), (sw_in cT (g 7) 8 f9_179_4), (sw_in cT (g 8) 6 f9_179_5), (sw_in cT (g 5) 960 f9_179_2), (sw_9 h0 g b0 b5 b6 b7 b8 b9 b10 b11 b12 b13 b14 b17 b18 b19 b23 b24 v9_179_6 v9_179_7 b27 b29 b31 b32 b33), (sw_in cT (g 0) 288 u_15.1), (sw_in cT (g 4) 6 u_15.2)] _ := ⟨hP, hD⟩
        have qr_16_0 : PI 288 u_15.1 := hwr_16.1
        have qr_16_1 : KR u_15.1 f9_179_0 := hwr_16.2.1
        have kqr_16_1 : KR u_15.1 (a0) := KR_tr qr_16_1 h9_179_4
        have qr_16_2 : (u_15.1 1).toInt = (f9_179_0 1).toInt + 1 := hwr_16.2.2.1
        refine lv_pop hx hb dX9_seeks_213 rfl ?_
        refine lv_aload_n hx hb dX9_seeks_214 rfl (lv_at hl 7 rfl) ?_
        refine lv_iload_n hx hb dX9_seeks_215 rfl (lv_at hl 8 rfl) ?_
        refine lv_iconst (v := 1) hx hb dX9_seeks_216 (by decide) ?_
        refine lv_iadd hx hb dX9_seeks_217 ?_
        refine lv_topi (fun z_17 ez_17 => ?_)
        have iz_17 : z_17.toInt = x.toInt + 1 := toInt_addI ez_17 (rfl) (by decide) (by omega)
        refine xk_v (wr := []) (xr_V (n := 1) (As := [.int z_17]) (rest := []) ⟨hx, hb, hml, hown, htg⟩ hK hN hP hD hS hA [4, 5, 6, 3, 0, 1, 2] rfl (by decide) (m_seeks_0K l D cT _ (h0) (g) (b0) (b5) (b6) (b7) (b8) (b9) (b10) (b11) (b12) (b13) (b14) (b17) (b18) (b19) (b23) (b24) (v9_179_6) (v9_179_7) (b27) (b29) (b31) (b32) (b33) (by first | assumption | omega | decide | exact Or.inl (by decide) | (intro h9; exact absurd h9 (by decide)) | (intro _; omega) | (intro _; assumption) | (intro _; decide)) (u_15.1) (by first | assumption | omega | decide | exact Or.inl (by decide) | (intro h9; exact absurd h9 (by decide)) | (intro _; omega) | (intro _; assumption) | (intro _; decide)) (u_15.2) (f9_179_2) (by first | assumption | omega | decide | exact Or.inl (by decide) | (intro h9; exact absurd h9 (by decide)) | (intro _; omega) | (intro _; assumption) | (intro _; decide)) (f_14) (f9_179_4) (f9_179_5) (z_17) (by first | assumption | omega | decide | exact Or.inl (by decide) | (intro h9; exact absurd h9 (by decide)) | (intro _; omega) | (intro _; assumption) | (intro _; decide)) (by first | assumption | omega | decide | exact Or.inl (by decide) | (intro h9; exact absurd h9 (by decide)) | (intro _; omega) | (intro _; assumption) | (intro _; decide)) (by first | assumption | omega | decide | exact Or.inl (by decide) | (intro h9; exact absurd h9 (by decide)) | (intro _; omega) | (intro _; assumption) | (intro _; decide))) wi_1486 wi_1488 wi_108 wi_131 wi_1489 rfl rfl rfl ⟨rfl, by decide +kernel⟩ ⟨Nat.le_of_ble_eq_true rfl, Nat.le_of_ble_eq_true rfl⟩ rfl hl.1 rfl (Nat.le_of_ble_eq_true rfl) dX9_seeks_218 ⟨Nat.le_of_ble_eq_true rfl, Nat.le_of_ble_eq_true rfl⟩) hP hD hS hA [4, 5, 6, 3, 0, 1, 2] [] rfl rfl (by decide) (by decide) (fun u_18 H locs hwr_19 hP hD hS => ?_)
        obtain ⟨hP, hD⟩ : PD D A [(sw_9 h0 g b0 b5 b6 b7 b8 b9 b10 b11 b12 b13 b14 b17 b18 b19 b23 b24 u_18.1 u_18.2.1 b27 b29 b31 b32 b33), (sw_in cT (g 0) 288 u_18.2.2.1), (sw_in cT (g 4) 6 u_18.2.2.2.1), (sw_in cT (g 5) 960 u_18.2.2.2.2.1), (sw_in cT (g 6) 8 u_18.2.2.2.2.2.1), (sw_in cT (g 7) 8 u_18.2.2.2.2.2.2.1), (sw_in cT (g 8) 6 u_18.2.2.2.2.2.2.2)] _ := ⟨hP, hD⟩
        have qr_19_0 : PI 288 u_18.2.2.1 := hwr_19.1
        have qr_19_1 : KR u_18.2.2.1 u_15.1 := hwr_19.2.1
        have kqr_19_1 : KR u_18.2.2.1 (a0) := KR_tr qr_19_1 kqr_16_1
        have qr_19_2 : PI 960 u_18.2.2.2.2.1 := hwr_19.2.2.1
        have qr_19_3 : KB (96 * z_17.toInt) u_18.2.2.2.2.1 f9_179_2 := hwr_19.2.2.2.1
        have kp_r_19 : KP (96 * x.toInt) u_18.2.2.2.2.1 a0 := KP_b h9_179_0 qr_19_3 (by omega) (by omega)
        have kb_r_19 : KB (96 * x.toInt) u_18.2.2.2.2.1 a5 := KB_tr (KB_le qr_19_3 (by omega)) h9_179_1
        refine lv_aload_n hx hb dX9_seeks_221 rfl (lv_at hl 7 rfl) ?_
        refine lv_iload_n hx hb dX9_seeks_222 rfl (lv_at hl 8 rfl) ?_
        refine xk_v (wr := [(sw_in cT (g 4) 6 u_18.2.2.2.1), (sw_in cT (g 6) 8 u_18.2.2.2.2.2.1), (sw_in cT (g 7) 8 u_18.2.2.2.2.2.2.1), (sw_in cT (g 8) 6 u_18.2.2.2.2.2.2.2)]) (xr_V (n := 1) (As := [.int x]) (rest := []) ⟨hx, hb, hml, hown, htg⟩ hK hN hP hD hS hA [0, 1, 3] rfl (by decide) (m_isAgainK l D cT _ (h0) (g) (b0) (b5) (b6) (b7) (b8) (b9) (b10) (b11) (b12) (b13) (b14) (b17) (b18) (b19) (b23) (b24) (u_18.1) (u_18.2.1) (b27) (b29) (b31) (b32) (b33) (by first | assumption | omega | decide | exact Or.inl (by decide) | (intro h9; exact absurd h9 (by decide)) | (intro _; omega) | (intro _; assumption) | (intro _; decide)) (u_18.2.2.1) (by first | assumption | omega | decide | exact Or.inl (by decide) | (intro h9; exact absurd h9 (by decide)) | (intro _; omega) | (intro _; assumption) | (intro _; decide)) (u_18.2.2.2.2.1) (by first | assumption | omega | decide | exact Or.inl (by decide) | (intro h9; exact absurd h9 (by decide)) | (intro _; omega) | (intro _; assumption) | (intro _; decide)) (x) (by first | assumption | omega | decide | exact Or.inl (by decide) | (intro h9; exact absurd h9 (by decide)) | (intro _; omega) | (intro _; assumption) | (intro _; decide))) wi_1440 wi_1442 wi_103 wi_131 wi_1443 rfl rfl rfl ⟨rfl, by decide +kernel⟩ ⟨Nat.le_of_ble_eq_true rfl, Nat.le_of_ble_eq_true rfl⟩ rfl hl.1 rfl (Nat.le_of_ble_eq_true rfl) dX9_seeks_223 ⟨Nat.le_of_ble_eq_true rfl, Nat.le_of_ble_eq_true rfl⟩) hP hD hS hA [0, 1, 3] [2, 4, 5, 6] rfl rfl (by decide) (by decide) (fun u_20 H locs hwr_21 hP hD hS => ?_)
        obtain ⟨hP, hD⟩ : PD D A [(sw_in cT (g 4) 6 u_18.2.2.2.1), (sw_in cT (g 6) 8 u_18.2.2.2.2.2.1), (sw_in cT (g 7) 8 u_18.2.2.2.2.2.2.1), (sw_in cT (g 8) 6 u_18.2.2.2.2.2.2.2), (sw_9 h0 g b0 b5 b6 b7 b8 b9 b10 b11 b12 b13 b14 b17 b18 b19 b23 b24 u_18.1 u_18.2.1 b27 b29 b31 b32 b33), (sw_in cT (g 0) 288 u_20), (sw_in cT (g 5) 960 u_18.2.2.2.2.1)] _ := ⟨hP, hD⟩
        have qr_21_0 : PI 288 u_20 := hwr_21.1
        have qr_21_1 : AG (96 * x.toInt) u_20 u_18.2.2.2.2.1 u_18.2.2.1 := hwr_21.2.1
        have kag_r_21 : KR u_20 a0 := KR_ag qr_21_1 kqr_19_1 (by assumption)
        refine lv_aload_n hx hb dX9_seeks_226 rfl (lv_at hl 7 rfl) ?_
        refine va_get (D := D) (ci := 9) (v := .ref (g 4)) (C := RX9) (T := TX9) (N := 37) hx hb htg gRX9 hown hK hP 4 rfl rfl 15 (by decide) (htg _ wi_1165) (fun _ h9 => h9) rfl dX9_seeks_227 ?_
        refine lv_iconst (v := 0) hx hb dX9_seeks_230 (by decide) ?_
        refine lv_iload_n hx hb dX9_seeks_231 rfl (lv_at hl 6 rfl) ?_
        refine va_iast hx hb hK hP hD hS 0 0 rfl rfl (by unfold vp_in; decide) dX9_seeks_232 (fun H locs hP hD hS => ?_)
        obtain ⟨f_22, hP, hD⟩ : ∃ f_22 : Nat → Int32, PD D A [(sw_in cT (g 4) 6 f_22), (sw_in cT (g 6) 8 u_18.2.2.2.2.2.1), (sw_in cT (g 7) 8 u_18.2.2.2.2.2.2.1), (sw_in cT (g 8) 6 u_18.2.2.2.2.2.2.2), (sw_9 h0 g b0 b5 b6 b7 b8 b9 b10 b11 b12 b13 b14 b17 b18 b19 b23 b24 u_18.1 u_18.2.1 b27 b29 b31 b32 b33), (sw_in cT (g 0) 288 u_20), (sw_in cT (g 5) 960 u_18.2.2.2.2.1)] H := ⟨_, hP, hD⟩
        refine lv_aload_n hx hb dX9_seeks_233 rfl (lv_at hl 7 rfl) ?_
        refine va_get (D := D) (ci := 9) (v := .ref (g 4)) (C := RX9) (T := TX9) (N := 37) hx hb htg gRX9 hown hK hP 4 rfl rfl 15 (by decide) (htg _ wi_1165) (fun _ h9 => h9) rfl dX9_seeks_234 ?_
        refine lv_iconst (v := 1) hx hb dX9_seeks_237 (by decide) ?_
        refine lv_iload_n hx hb dX9_seeks_238 rfl (lv_at hl 5 rfl) ?_
        refine va_iast hx hb hK hP hD hS 0 0 rfl rfl (by unfold vp_in; decide) dX9_seeks_239 (fun H locs hP hD hS => ?_)
        obtain ⟨f_23, hP, hD⟩ : ∃ f_23 : Nat → Int32, PD D A [(sw_in cT (g 4) 6 f_23), (sw_in cT (g 6) 8 u_18.2.2.2.2.2.1), (sw_in cT (g 7) 8 u_18.2.2.2.2.2.2.1), (sw_in cT (g 8) 6 u_18.2.2.2.2.2.2.2), (sw_9 h0 g b0 b5 b6 b7 b8 b9 b10 b11 b12 b13 b14 b17 b18 b19 b23 b24 u_18.1 u_18.2.1 b27 b29 b31 b32 b33), (sw_in cT (g 0) 288 u_20), (sw_in cT (g 5) 960 u_18.2.2.2.2.1)] H := ⟨_, hP, hD⟩
        refine lv_aload_n hx hb dX9_seeks_240 rfl (lv_at hl 7 rfl) ?_
        refine va_get (D := D) (ci := 9) (v := .ref (g 4)) (C := RX9) (T := TX9) (N := 37) hx hb htg gRX9 hown hK hP 4 rfl rfl 15 (by decide) (htg _ wi_1165) (fun _ h9 => h9) rfl dX9_seeks_241 ?_
        refine lv_iconst (v := 2) hx hb dX9_seeks_244 (by decide) ?_
        refine lv_iload hx hb dX9_seeks_245 (lv_at hl 4 rfl) ?_
        refine va_iast hx hb hK hP hD hS 0 0 rfl rfl (by unfold vp_in; decide) dX9_seeks_247 (fun H locs hP hD hS => ?_)
        obtain ⟨f_24, hP, hD⟩ : ∃ f_24 : Nat → Int32, PD D A [(sw_in cT (g 4) 6 f_24), (sw_in cT (g 6) 8 u_18.2.2.2.2.2.1), (sw_in cT (g 7) 8 u_18.2.2.2.2.2.2.1), (sw_in cT (g 8) 6 u_18.2.2.2.2.2.2.2), (sw_9 h0 g b0 b5 b6 b7 b8 b9 b10 b11 b12 b13 b14 b17 b18 b19 b23 b24 u_18.1 u_18.2.1 b27 b29 b31 b32 b33), (sw_in cT (g 0) 288 u_20), (sw_in cT (g 5) 960 u_18.2.2.2.2.1)] H := ⟨_, hP, hD⟩
        refine lv_aload_n hx hb dX9_seeks_248 rfl (lv_at hl 7 rfl) ?_
        refine va_get (D := D) (ci := 9) (v := .ref (g 4)) (C := RX9) (T := TX9) (N := 37) hx hb htg gRX9 hown hK hP 4 rfl rfl 15 (by decide) (htg _ wi_1165) (fun _ h9 => h9) rfl dX9_seeks_249 ?_
        refine lv_iconst (v := 3) hx hb dX9_seeks_252 (by decide) ?_
        refine lv_iload hx hb dX9_seeks_253 (lv_at hl 3 rfl) ?_
        refine va_iast hx hb hK hP hD hS 0 0 rfl rfl (by unfold vp_in; decide) dX9_seeks_255 (fun H locs hP hD hS => ?_)
        obtain ⟨f_25, hP, hD⟩ : ∃ f_25 : Nat → Int32, PD D A [(sw_in cT (g 4) 6 f_25), (sw_in cT (g 6) 8 u_18.2.2.2.2.2.1), (sw_in cT (g 7) 8 u_18.2.2.2.2.2.2.1), (sw_in cT (g 8) 6 u_18.2.2.2.2.2.2.2), (sw_9 h0 g b0 b5 b6 b7 b8 b9 b10 b11 b12 b13 b14 b17 b18 b19 b23 b24 u_18.1 u_18.2.1 b27 b29 b31 b32 b33), (sw_in cT (g 0) 288 u_20), (sw_in cT (g 5) 960 u_18.2.2.2.2.1)] H := ⟨_, hP, hD⟩
        refine lv_aload_n hx hb dX9_seeks_256 rfl (lv_at hl 7 rfl) ?_
        refine va_get (D := D) (ci := 9) (v := .ref (g 4)) (C := RX9) (T := TX9) (N := 37) hx hb htg gRX9 hown hK hP 4 rfl rfl 15 (by decide) (htg _ wi_1165) (fun _ h9 => h9) rfl dX9_seeks_257 ?_
        refine lv_iconst (v := 4) hx hb dX9_seeks_260 (by decide) ?_
        refine lv_iload hx hb dX9_seeks_261 (lv_at hl 2 rfl) ?_
        refine va_iast hx hb hK hP hD hS 0 0 rfl rfl (by unfold vp_in; decide) dX9_seeks_263 (fun H locs hP hD hS => ?_)
        obtain ⟨f_26, hP, hD⟩ : ∃ f_26 : Nat → Int32, PD D A [(sw_in cT (g 4) 6 f_26), (sw_in cT (g 6) 8 u_18.2.2.2.2.2.1), (sw_in cT (g 7) 8 u_18.2.2.2.2.2.2.1), (sw_in cT (g 8) 6 u_18.2.2.2.2.2.2.2), (sw_9 h0 g b0 b5 b6 b7 b8 b9 b10 b11 b12 b13 b14 b17 b18 b19 b23 b24 u_18.1 u_18.2.1 b27 b29 b31 b32 b33), (sw_in cT (g 0) 288 u_20), (sw_in cT (g 5) 960 u_18.2.2.2.2.1)] H := ⟨_, hP, hD⟩
        refine lv_aload_n hx hb dX9_seeks_264 rfl (lv_at hl 7 rfl) ?_
        refine va_get (D := D) (ci := 9) (v := .ref (g 4)) (C := RX9) (T := TX9) (N := 37) hx hb htg gRX9 hown hK hP 4 rfl rfl 15 (by decide) (htg _ wi_1165) (fun _ h9 => h9) rfl dX9_seeks_265 ?_
        refine lv_iconst (v := 5) hx hb dX9_seeks_268 (by decide) ?_
        refine lv_iload hx hb dX9_seeks_269 (lv_at hl 1 rfl) ?_
        refine va_iast hx hb hK hP hD hS 0 0 rfl rfl (by unfold vp_in; decide) dX9_seeks_271 (fun H locs hP hD hS => ?_)
        obtain ⟨f_27, hP, hD⟩ : ∃ f_27 : Nat → Int32, PD D A [(sw_in cT (g 4) 6 f_27), (sw_in cT (g 6) 8 u_18.2.2.2.2.2.1), (sw_in cT (g 7) 8 u_18.2.2.2.2.2.2.1), (sw_in cT (g 8) 6 u_18.2.2.2.2.2.2.2), (sw_9 h0 g b0 b5 b6 b7 b8 b9 b10 b11 b12 b13 b14 b17 b18 b19 b23 b24 u_18.1 u_18.2.1 b27 b29 b31 b32 b33), (sw_in cT (g 0) 288 u_20), (sw_in cT (g 5) 960 u_18.2.2.2.2.1)] H := ⟨_, hP, hD⟩
        refine lv_iinc (v := (nI (k9_179 + 1))) (lv' := [(8, .int (nI (k9_179 + 1))), (7, .int z_8), (6, .int z_7), (5, .int z_6), (4, .int z_5), (3, .int z_4), (2, .int z_3), (0, .ref h0), (1, .int x)]) hx hb dX9_seeks_272 hl (k := 0) rfl (by exact nI_1 (k9_179)) (by decide) rfl (fun ls hl => ?_)
        refine lv_goto (tgt := 179) hx hb dX9_seeks_275 (by decide) ?_
        exact ih_179 (k9_179 + 1) _ _ _ _ _ _ _ _ _ _ _ (by omega) (by omega) (by assumption) (by first | assumption | exact KB_rfl _ _) (by first | assumption | omega | decide | (simp only [ti_0, ti_1, ti_2, ti_3, ti_4, ti_5, ti_6, ti_7, ti_8, ti_9, ti_10, ti_11, ti_12, ti_m1]; omega)) (by first | assumption | omega | decide | (simp only [ti_0, ti_1, ti_2, ti_3, ti_4, ti_5, ti_6, ti_7, ti_8, ti_9, ti_10, ti_11, ti_12, ti_m1]; omega)) (by first | assumption | exact KR_rfl _) ⟨hP.sub [0, 1, 2, 3, 4, 5, 6] rfl, hD.sub [0, 1, 2, 3, 4, 5, 6] (by decide) rfl⟩ hS (lv_sub hl [0, 1, 2, 3, 4, 5, 6, 7, 8] rfl)
      · have ic_13 : ¬ r_12.toInt = 0 := ine c_13 (rfl) (by decide)
        refine lv_goto (tgt := 272) hx hb dX9_seeks_195 (by decide) ?_
        refine lv_iinc (v := (nI (k9_179 + 1))) (lv' := [(8, .int (nI (k9_179 + 1))), (7, .int z_8), (6, .int z_7), (5, .int z_6), (4, .int z_5), (3, .int z_4), (2, .int z_3), (0, .ref h0), (1, .int x)]) hx hb dX9_seeks_272 hl (k := 0) rfl (by exact nI_1 (k9_179)) (by decide) rfl (fun ls hl => ?_)
        refine lv_goto (tgt := 179) hx hb dX9_seeks_275 (by decide) ?_
        exact ih_179 (k9_179 + 1) _ _ _ _ _ _ _ _ _ _ _ (by omega) (by omega) (by assumption) (by first | assumption | exact KB_rfl _ _) (by first | assumption | omega | decide | (simp only [ti_0, ti_1, ti_2, ti_3, ti_4, ti_5, ti_6, ti_7, ti_8, ti_9, ti_10, ti_11, ti_12, ti_m1]; omega)) (by first | assumption | omega | decide | (simp only [ti_0, ti_1, ti_2, ti_3, ti_4, ti_5, ti_6, ti_7, ti_8, ti_9, ti_10, ti_11, ti_12, ti_m1]; omega)) (by first | assumption | exact KR_rfl _) ⟨hP.sub [0, 1, 2, 3, 5, 6, 4] rfl, hD.sub [0, 1, 2, 3, 5, 6, 4] (by decide) rfl⟩ hS (lv_sub hl [0, 1, 2, 3, 4, 5, 6, 7, 8] rfl)
