set_option maxHeartbeats 4000000 in
set_option maxRecDepth 100000 in
theorem m_isAgainK (l : Launch) (D : va_G) (cT : Nat → ClassId) (sz : Nat) (h0 : Nat) (g : Nat → Nat) (b0 : Int32) (b5 : Int32) (b6 : Int32) (b7 : Int32) (b8 : Int32) (b9 : Int32) (b10 : Int32) (b11 : Int32) (b12 : Int32) (b13 : Int32) (b14 : Int32) (b17 : Int32) (b18 : Int32) (b19 : Int32) (b23 : Int32) (b24 : Int32) (b25 : Int32) (b26 : Int32) (b27 : Int32) (b29 : Int32) (b31 : Int32) (b32 : Int32) (b33 : Int32) (hb5 : 0 ≤ b5.toInt ∧ b5.toInt ≤ 900) (a0 : Nat → Int32) (pa0 : PI 288 a0) (a5 : Nat → Int32) (pa5 : PI 960 a5) (x : Int32) (hx9 : 0 ≤ x.toInt ∧ x.toInt ≤ 9) : Met l yX9_isAgain (wsc yX9_isAgain cX9_isAgain 3 none) { frames := 2, cells := 0, slots := 0, locals := 100 } (va_Pc [.ref h0, .int x] (PX D cT sz [(sw_9 h0 g b0 b5 b6 b7 b8 b9 b10 b11 b12 b13 b14 b17 b18 b19 b23 b24 b25 b26 b27 b29 b31 b32 b33), (sw_in cT (g 0) 288 a0), (sw_in cT (g 5) 960 a5)])) (va_Qv (fun (u : (Nat → Int32)) => (PI 288 u) ∧ (AG (96 * x.toInt) u a5 a0) ∧ (True)) (fun u t => RW D (va_A [(sw_9 h0 g b0 b5 b6 b7 b8 b9 b10 b11 b12 b13 b14 b17 b18 b19 b23 b24 b25 b26 b27 b29 b31 b32 b33), (sw_in cT (g 0) 288 a0), (sw_in cT (g 5) 960 a5)] sz) ((fun u : (Nat → Int32) => [(sw_9 h0 g b0 b5 b6 b7 b8 b9 b10 b11 b12 b13 b14 b17 b18 b19 b23 b24 b25 b26 b27 b29 b31 b32 b33), (sw_in cT (g 0) 288 u), (sw_in cT (g 5) 960 a5)]) u) t) (va_A [(sw_9 h0 g b0 b5 b6 b7 b8 b9 b10 b11 b12 b13 b14 b17 b18 b19 b23 b24 b25 b26 b27 b29 b31 b32 b33), (sw_in cT (g 0) 288 a0), (sw_in cT (g 5) 960 a5)] sz)) 0 0 (va_A [(sw_9 h0 g b0 b5 b6 b7 b8 b9 b10 b11 b12 b13 b14 b17 b18 b19 b23 b24 b25 b26 b27 b29 b31 b32 b33), (sw_in cT (g 0) 288 a0), (sw_in cT (g 5) 960 a5)] sz) := by
  refine m_of (y := yX9_isAgain) (cc := cX9_isAgain) (nL := 3) (ret := none) (D := D) (cT := cT) (av := [.ref h0, .int x]) (wi := [(sw_9 h0 g b0 b5 b6 b7 b8 b9 b10 b11 b12 b13 b14 b17 b18 b19 b23 b24 b25 b26 b27 b29 b31 b32 b33), (sw_in cT (g 0) 288 a0), (sw_in cT (g 5) 960 a5)]) (fun A => va_Qv (fun (u : (Nat → Int32)) => (PI 288 u) ∧ (AG (96 * x.toInt) u a5 a0) ∧ (True)) (fun u t => RW D A ((fun u : (Nat → Int32) => [(sw_9 h0 g b0 b5 b6 b7 b8 b9 b10 b11 b12 b13 b14 b17 b18 b19 b23 b24 b25 b26 b27 b29 b31 b32 b33), (sw_in cT (g 0) 288 u), (sw_in cT (g 5) 960 a5)]) u) t) A) (by decide) (Nat.le_of_ble_eq_true rfl) ?_
  intro p e s m below meth c A hx hb hml hown htg hK hN hr hlk hnm hsz hP hD hS hA ls hl
  have hown : s.vm.findClass RX9 = some m.cls := hown
  have hl : lv_has ls 3 [(0, .ref h0), (1, .int x)] := hl
  have tc_0 : (0 : Int32).toInt = 0 := by decide
  have tc_96 : (96 : Int32).toInt = 96 := by decide
  refine lv_iconst (v := 0) hx hb dX9_isAgain_0 (by decide) ?_
  refine lv_istore_n (lv' := [(2, .int 0), (0, .ref h0), (1, .int x)]) hx hb dX9_isAgain_1 rfl hl (by decide) rfl (fun ls hl => ?_)
  have hk0 : ∀ j : Nat, j < 0 → a0 j = a5 ((96 * x.toInt).toNat + j) := fun j h => absurd h (by omega)
  have hk1 : ∀ j : Nat, 96 ≤ j → a0 j = a0 j := fun _ _ => rfl
  refine (fun (key : ∀ (n9_2 : Nat) (k9_2 : Nat) (f9_2_0 : Nat → Int32) (H : Heap) (locs : List Loc) (ls : Array Slot), (k9_2 : Int) ≤ 96 → 96 < (k9_2 : Int) + n9_2 → (∀ j : Nat, j < k9_2 → f9_2_0 j = a5 ((96 * x.toInt).toNat + j)) → (∀ j : Nat, 96 ≤ j → f9_2_0 j = a0 j) → PI 288 f9_2_0 → PD D A [(sw_9 h0 g b0 b5 b6 b7 b8 b9 b10 b11 b12 b13 b14 b17 b18 b19 b23 b24 b25 b26 b27 b29 b31 b32 b33), (sw_in cT (g 0) 288 f9_2_0), (sw_in cT (g 5) 960 a5)] H → va_S A s.heap H locs → lv_has ls 3 [(2, .int (nI k9_2)), (0, .ref h0), (1, .int x)] → W p l e _ s m _ below meth c H locs _ _ _ (F0 m 2 ls [])) => key (Int.toNat (96 - 0) + 1) 0 _ _ _ _ (by omega) (by omega) (by first | assumption | omega | decide | (simp only [ti_0, ti_1, ti_2, ti_3, ti_4, ti_5, ti_6, ti_7, ti_8, ti_9, ti_10, ti_11, ti_12, ti_m1]; omega)) (by first | assumption | omega | decide | (simp only [ti_0, ti_1, ti_2, ti_3, ti_4, ti_5, ti_6, ti_7, ti_8, ti_9, ti_10, ti_11, ti_12, ti_m1]; omega)) (by first | assumption | omega | decide | (simp only [ti_0, ti_1, ti_2, ti_3, ti_4, ti_5, ti_6, ti_7, ti_8, ti_9, ti_10, ti_11, ti_12, ti_m1]; omega)) ⟨hP, hD⟩ hS (lv_sub hl [0, 1, 2] rfl)) ?_
  intro n9_2
  induction n9_2 with
  | zero => intro k9_2 f9_2_0 H locs ls hq1 hq2; exact absurd hq2 (by omega)
  | succ n9_2 ih_2 =>
    intro k9_2 f9_2_0 H locs ls hq1_2 hq2_2 h9_2_0 h9_2_1 h9_2_2 hPD hS hl
    obtain ⟨hP, hD⟩ := hPD
    have hk9_2 : (nI k9_2).toInt = (k9_2 : Int) := nI_toInt (by omega)
    refine lv_iload_n hx hb dX9_isAgain_2 rfl (lv_at hl 0 rfl) ?_
    refine lv_bipush (v := 96) hx hb dX9_isAgain_3 (by decide) ?_
    refine lv_icmp_ge (tgt := 31) hx hb dX9_isAgain_5 (by decide) (fun c_1 => ?_) (fun c_1 => ?_)
    · have ic_1 : 96 ≤ ((k9_2 : Nat) : Int) := ile c_1 (by decide) (nI_toInt (by omega))
      exact x_vret hx hb hr hlk hP hD hS [0, 1, 2] ((f9_2_0)) rfl (by decide) ⟨by (try dsimp only); first | assumption | omega | decide | exact Or.inl (by decide) | (intro h9; exact absurd h9 (by decide)) | (intro _; omega) | (intro _; assumption) | (intro _; decide), ⟨fun j hj => h9_2_0 j (by omega), h9_2_1⟩, trivial⟩ (by decide) (by decide) dX9_isAgain_31
    · have ic_1 : ((k9_2 : Nat) : Int) < 96 := inle c_1 (by decide) (nI_toInt (by omega))
      refine lv_aload_n hx hb dX9_isAgain_8 rfl (lv_at hl 1 rfl) ?_
      refine va_get (D := D) (ci := 9) (v := .ref (g 0)) (C := RX9) (T := TX9) (N := 37) hx hb htg gRX9 hown hK hP 0 rfl rfl 1 (by decide) (htg _ wi_1151) (fun _ h9 => h9) rfl dX9_isAgain_9 ?_
      refine lv_iload_n hx hb dX9_isAgain_12 rfl (lv_at hl 0 rfl) ?_
      refine lv_aload_n hx hb dX9_isAgain_13 rfl (lv_at hl 1 rfl) ?_
      refine va_get (D := D) (ci := 9) (v := .ref (g 5)) (C := RX9) (T := TX9) (N := 37) hx hb htg gRX9 hown hK hP 0 rfl rfl 16 (by decide) (htg _ wi_1166) (fun _ h9 => h9) rfl dX9_isAgain_14 ?_
      refine lv_bipush (v := 96) hx hb dX9_isAgain_17 (by decide) ?_
      refine lv_iload_n hx hb dX9_isAgain_19 rfl (lv_at hl 2 rfl) ?_
      refine lv_imul hx hb dX9_isAgain_20 ?_
      refine lv_topi (fun z_2 ez_2 => ?_)
      have iz_2 : z_2.toInt = 96 * x.toInt := toInt_mulI ez_2 (by decide) (rfl) (by omega)
      refine lv_iload_n hx hb dX9_isAgain_21 rfl (lv_at hl 0 rfl) ?_
      refine lv_iadd hx hb dX9_isAgain_22 ?_
      refine lv_topi (fun z_3 ez_3 => ?_)
      have iz_3 : z_3.toInt = z_2.toInt + ((k9_2 : Nat) : Int) := toInt_addI ez_3 (rfl) (nI_toInt (by omega)) (by omega)
      refine va_iald hx hb hK hP 2 0 rfl rfl (vp_in_iff.mpr (by omega)) dX9_isAgain_23 ?_
      refine lv_topi (fun z_4 ez_4 => ?_)
      have oz_4 := pi_rd (a := z_3.toInt) pa5 ez_4 (rfl) (by omega)
      unfold OKP at oz_4
      refine va_iast hx hb hK hP hD hS 1 0 rfl rfl (vp_in_nI (by omega) (by omega)) dX9_isAgain_24 (fun H locs hP hD hS => ?_)
      obtain ⟨f_5, ef_5, hP, hD⟩ : ∃ f_5 : Nat → Int32, f_5 = upd (f9_2_0) ((nI k9_2) : Int32).toNatClampNeg z_4 ∧ PD D A [(sw_9 h0 g b0 b5 b6 b7 b8 b9 b10 b11 b12 b13 b14 b17 b18 b19 b23 b24 b25 b26 b27 b29 b31 b32 b33), (sw_in cT (g 0) 288 f_5), (sw_in cT (g 5) 960 a5)] H := ⟨_, rfl, hP, hD⟩
      have qf_5 : PI 288 f_5 := by rw [ef_5]; exact pi_upd (a := ((k9_2 : Nat) : Int)) (b := z_4.toInt) h9_2_2 (nI_toInt (by omega)) (rfl) (by omega) (by unfold OKP; omega)
      refine lv_iinc (v := (nI (k9_2 + 1))) (lv' := [(2, .int (nI (k9_2 + 1))), (0, .ref h0), (1, .int x)]) hx hb dX9_isAgain_25 hl (k := 0) rfl (by exact nI_1 (k9_2)) (by decide) rfl (fun ls hl => ?_)
      refine lv_goto (tgt := 2) hx hb dX9_isAgain_28 (by decide) ?_
      have hk0 : ∀ j : Nat, j < k9_2 + 1 → f_5 j = a5 ((96 * x.toInt).toNat + j) := fun j h => by rw [ef_5]; rcases (show j = k9_2 ∨ j < k9_2 from by omega) with h1 | h1; rw [upd_at2 (by rw [nI_toInt (by omega)]; omega), ez_4, h1]; exact congrArg a5 (show Int.toNat _ = _ from by omega); rw [upd_no (by rw [nI_toInt (by omega)]; omega) (by rw [nI_toInt (by omega)]; omega)]; exact h9_2_0 j h1
      have hk1 : ∀ j : Nat, 96 ≤ j → f_5 j = a0 j := fun j h => by rw [ef_5, upd_no (by rw [nI_toInt (by omega)]; omega) (by rw [nI_toInt (by omega)]; omega)]; exact h9_2_1 j h
      exact ih_2 (k9_2 + 1) _ _ _ _ (by omega) (by omega) (by first | assumption | omega | decide | (simp only [ti_0, ti_1, ti_2, ti_3, ti_4, ti_5, ti_6, ti_7, ti_8, ti_9, ti_10, ti_11, ti_12, ti_m1]; omega)) (by first | assumption | omega | decide | (simp only [ti_0, ti_1, ti_2, ti_3, ti_4, ti_5, ti_6, ti_7, ti_8, ti_9, ti_10, ti_11, ti_12, ti_m1]; omega)) (by first | assumption | omega | decide | (simp only [ti_0, ti_1, ti_2, ti_3, ti_4, ti_5, ti_6, ti_7, ti_8, ti_9, ti_10, ti_11, ti_12, ti_m1]; omega)) ⟨hP.sub [0, 1, 2] rfl, hD.sub [0, 1, 2] (by decide) rfl⟩ hS (lv_sub hl [0, 1, 2] rfl)
