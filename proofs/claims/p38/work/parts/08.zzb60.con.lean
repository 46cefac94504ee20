set_option maxHeartbeats 4000000 in
set_option maxRecDepth 100000 in
theorem m_copyX (l : Launch) (D : va_G) (cT : Nat → ClassId) (sz : Nat) (h0 : Nat) (g : Nat → Nat) (b0 : Int32) (b5 : Int32) (b6 : Int32) (b7 : Int32) (b8 : Int32) (b9 : Int32) (b10 : Int32) (b11 : Int32) (b12 : Int32) (b13 : Int32) (b14 : Int32) (b17 : Int32) (b18 : Int32) (b19 : Int32) (b23 : Int32) (b24 : Int32) (b25 : Int32) (b26 : Int32) (b27 : Int32) (b29 : Int32) (b31 : Int32) (b32 : Int32) (b33 : Int32) (hb5 : 0 ≤ b5.toInt ∧ b5.toInt ≤ 900) (a0 : Nat → Int32) (pa0 : PI 288 a0) (a11 : Nat → Int32) (a12 : Nat → Int32) (e12 : EL a12 4 0 40) (a13 : Nat → Int64) (x : Int32) : Met l yX9_copy (wsc yX9_copy cX9_copy 3 (some .int)) { frames := 3, cells := 0, slots := 0, locals := 125 } (va_Pc [.ref h0, .int x] (PX D cT sz [(sw_9 h0 g b0 b5 b6 b7 b8 b9 b10 b11 b12 b13 b14 b17 b18 b19 b23 b24 b25 b26 b27 b29 b31 b32 b33), (sw_in cT (g 0) 288 a0), (sw_in cT (g 11) 4 a11), (sw_in cT (g 12) 4 a12), (sw_lo cT (g 13) 160 a13)])) (va_Qi (fun (r : Int32) (u : Int32 × (Nat → Int64)) => (x.toInt = 0 → (((a11 0).toInt = -1 ∧ r.toInt = -6) ∨ (¬ (a11 0).toInt = -1 ∧ (a12 0).toInt < (a0 0).toInt ∧ r.toInt = -7) ∨ (¬ (a11 0).toInt = -1 ∧ (a0 0).toInt ≤ (a12 0).toInt ∧ r.toInt = (a0 0).toInt))) ∧ (x.toInt = 1 → (((a11 1).toInt = -1 ∧ r.toInt = -6) ∨ (¬ (a11 1).toInt = -1 ∧ (a12 1).toInt < (a0 0).toInt ∧ r.toInt = -7) ∨ (¬ (a11 1).toInt = -1 ∧ (a0 0).toInt ≤ (a12 1).toInt ∧ r.toInt = (a0 0).toInt))) ∧ (x.toInt = 2 → (((a11 2).toInt = -1 ∧ r.toInt = -6) ∨ (¬ (a11 2).toInt = -1 ∧ (a12 2).toInt < (a0 0).toInt ∧ r.toInt = -7) ∨ (¬ (a11 2).toInt = -1 ∧ (a0 0).toInt ≤ (a12 2).toInt ∧ r.toInt = (a0 0).toInt))) ∧ (x.toInt = 3 → (((a11 3).toInt = -1 ∧ r.toInt = -6) ∨ (¬ (a11 3).toInt = -1 ∧ (a12 3).toInt < (a0 0).toInt ∧ r.toInt = -7) ∨ (¬ (a11 3).toInt = -1 ∧ (a0 0).toInt ≤ (a12 3).toInt ∧ r.toInt = (a0 0).toInt))) ∧ ((x.toInt < 0 ∨ 3 < x.toInt) → r.toInt = -2) ∧ (True)) (fun u t => RW D (va_A [(sw_9 h0 g b0 b5 b6 b7 b8 b9 b10 b11 b12 b13 b14 b17 b18 b19 b23 b24 b25 b26 b27 b29 b31 b32 b33), (sw_in cT (g 0) 288 a0), (sw_in cT (g 11) 4 a11), (sw_in cT (g 12) 4 a12), (sw_lo cT (g 13) 160 a13)] sz) ((fun u : Int32 × (Nat → Int64) => [(sw_9 h0 g u.1 b5 b6 b7 b8 b9 b10 b11 b12 b13 b14 b17 b18 b19 b23 b24 b25 b26 b27 b29 b31 b32 b33), (sw_in cT (g 0) 288 a0), (sw_in cT (g 11) 4 a11), (sw_in cT (g 12) 4 a12), (sw_lo cT (g 13) 160 u.2)]) u) t) (va_A [(sw_9 h0 g b0 b5 b6 b7 b8 b9 b10 b11 b12 b13 b14 b17 b18 b19 b23 b24 b25 b26 b27 b29 b31 b32 b33), (sw_in cT (g 0) 288 a0), (sw_in cT (g 11) 4 a11), (sw_in cT (g 12) 4 a12), (sw_lo cT (g 13) 160 a13)] sz)) 0 0 (va_A [(sw_9 h0 g b0 b5 b6 b7 b8 b9 b10 b11 b12 b13 b14 b17 b18 b19 b23 b24 b25 b26 b27 b29 b31 b32 b33), (sw_in cT (g 0) 288 a0), (sw_in cT (g 11) 4 a11), (sw_in cT (g 12) 4 a12), (sw_lo cT (g 13) 160 a13)] sz) := by
  refine m_of (y := yX9_copy) (cc := cX9_copy) (nL := 3) (ret := (some .int)) (D := D) (cT := cT) (av := [.ref h0, .int x]) (wi := [(sw_9 h0 g b0 b5 b6 b7 b8 b9 b10 b11 b12 b13 b14 b17 b18 b19 b23 b24 b25 b26 b27 b29 b31 b32 b33), (sw_in cT (g 0) 288 a0), (sw_in cT (g 11) 4 a11), (sw_in cT (g 12) 4 a12), (sw_lo cT (g 13) 160 a13)]) (fun A => va_Qi (fun (r : Int32) (u : Int32 × (Nat → Int64)) => (x.toInt = 0 → (((a11 0).toInt = -1 ∧ r.toInt = -6) ∨ (¬ (a11 0).toInt = -1 ∧ (a12 0).toInt < (a0 0).toInt ∧ r.toInt = -7) ∨ (¬ (a11 0).toInt = -1 ∧ (a0 0).toInt ≤ (a12 0).toInt ∧ r.toInt = (a0 0).toInt))) ∧ (x.toInt = 1 → (((a11 1).toInt = -1 ∧ r.toInt = -6) ∨ (¬ (a11 1).toInt = -1 ∧ (a12 1).toInt < (a0 0).toInt ∧ r.toInt = -7) ∨ (¬ (a11 1).toInt = -1 ∧ (a0 0).toInt ≤ (a12 1).toInt ∧ r.toInt = (a0 0).toInt))) ∧ (x.toInt = 2 → (((a11 2).toInt = -1 ∧ r.toInt = -6) ∨ (¬ (a11 2).toInt = -1 ∧ (a12 2).toInt < (a0 0).toInt ∧ r.toInt = -7) ∨ (¬ (a11 2).toInt = -1 ∧ (a0 0).toInt ≤ (a12 2).toInt ∧ r.toInt = (a0 0).toInt))) ∧ (x.toInt = 3 → (((a11 3).toInt = -1 ∧ r.toInt = -6) ∨ (¬ (a11 3).toInt = -1 ∧ (a12 3).toInt < (a0 0).toInt ∧ r.toInt = -7) ∨ (¬ (a11 3).toInt = -1 ∧ (a0 0).toInt ≤ (a12 3).toInt ∧ r.toInt = (a0 0).toInt))) ∧ ((x.toInt < 0 ∨ 3 < x.toInt) → r.toInt = -2) ∧ (True)) (fun u t => RW D A ((fun u : Int32 × (Nat → Int64) => [(sw_9 h0 g u.1 b5 b6 b7 b8 b9 b10 b11 b12 b13 b14 b17 b18 b19 b23 b24 b25 b26 b27 b29 b31 b32 b33), (sw_in cT (g 0) 288 a0), (sw_in cT (g 11) 4 a11), (sw_in cT (g 12) 4 a12), (sw_lo cT (g 13) 160 u.2)]) u) t) A) (by decide) (Nat.le_of_ble_eq_true rfl) ?_
  intro p e s m below meth c A hx hb hml hown htg hK hN hr hlk hnm hsz hP hD hS hA ls hl
  have hown : s.vm.findClass RX9 = some m.cls := hown
  have hl : lv_has ls 3 [(0, .ref h0), (1, .int x)] := hl
  have t9_1 : (1 : Int32).toInt = 1 := by decide
  have t9_2 : (2 : Int32).toInt = 2 := by decide
  have t9_3 : (3 : Int32).toInt = 3 := by decide
  have tc_m7 : ((-7) : Int32).toInt = (-7) := by decide
  have tc_m6 : ((-6) : Int32).toInt = (-6) := by decide
  have tc_m2 : ((-2) : Int32).toInt = (-2) := by decide
  have tc_m1 : ((-1) : Int32).toInt = (-1) := by decide
  have tc_0 : (0 : Int32).toInt = 0 := by decide
  have tc_16 : (16 : Int32).toInt = 16 := by decide
  have tc_40 : (40 : Int32).toInt = 40 := by decide
  refine lv_aload_n hx hb dX9_copy_0 rfl (lv_at hl 0 rfl) ?_
  refine lv_iconst (v := 0) hx hb dX9_copy_1 (by decide) ?_
  refine va_put (D := D) (ci := 9) (v := .int 0) (ty := .int) (C := RX9) (T := TX9) (N := 37) hx hb htg gRX9 tyX9 tyX9_ok nmX9 hown hK hP hD hS 0 rfl rfl 0 (by decide) (htg _ wi_1150) (fun _ h9 => h9) rfl (by decide +kernel) rfl rfl (Nat.le_of_ble_eq_true rfl) dX9_copy_2 (fun H locs hP hD hS => ?_)
  obtain ⟨hP, hD⟩ : PD D A [(sw_9 h0 g 0 b5 b6 b7 b8 b9 b10 b11 b12 b13 b14 b17 b18 b19 b23 b24 b25 b26 b27 b29 b31 b32 b33), (sw_in cT (g 0) 288 a0), (sw_in cT (g 11) 4 a11), (sw_in cT (g 12) 4 a12), (sw_lo cT (g 13) 160 a13)] _ := ⟨hP, hD⟩
  refine lv_iload_n hx hb dX9_copy_5 rfl (lv_at hl 1 rfl) ?_
  refine lv_i2l (v := x.toInt64) hx hb dX9_copy_6 rfl ?_
  refine lv_lconst (v := 0) hx hb dX9_copy_7 (by decide) ?_
  refine lv_ldc2 (v := 3) hx hb hown (htg _ wi_1366) dX9_copy_8 ?_
  have ilw_1 : (x.toInt64).toInt = x.toInt := i2l_i _
  refine xk_i (wr := [(sw_9 h0 g 0 b5 b6 b7 b8 b9 b10 b11 b12 b13 b14 b17 b18 b19 b23 b24 b25 b26 b27 b29 b31 b32 b33), (sw_in cT (g 0) 288 a0), (sw_in cT (g 11) 4 a11), (sw_in cT (g 12) 4 a12), (sw_lo cT (g 13) 160 a13)]) (xr_S (n := 3) (As := [.long x.toInt64, .long 0, .long 3]) (rest := []) ⟨hx, hb, hml, hown, htg⟩ hK hN hP hD hS hA [] rfl (by decide) (m_withinB l D cT _ (x.toInt64) (0) (3) (x.toInt) (0) (3) (i2l_i _) (by decide) (by decide)) wi_1270 wi_1271 wi_131 wi_1272 ⟨rfl, by decide +kernel⟩ ⟨Nat.le_of_ble_eq_true rfl, Nat.le_of_ble_eq_true rfl⟩ rfl hl.1 rfl (Nat.le_of_ble_eq_true rfl) dX9_copy_11 ⟨Nat.le_of_ble_eq_true rfl, Nat.le_of_ble_eq_true rfl⟩) hP hD hS hA [] [0, 1, 2, 3, 4] rfl rfl (by decide) (by decide) (fun r_3 u_2 H locs hwr_3 hP hD hS => ?_)
  obtain ⟨hP, hD⟩ : PD D A [(sw_9 h0 g 0 b5 b6 b7 b8 b9 b10 b11 b12 b13 b14 b17 b18 b19 b23 b24 b25 b26 b27 b29 b31 b32 b33), (sw_in cT (g 0) 288 a0), (sw_in cT (g 11) 4 a11), (sw_in cT (g 12) 4 a12), (sw_lo cT (g 13) 160 a13)] _ := ⟨hP, hD⟩
  have qr_3_0 : Imp (¬ r_3.toInt = 0) (0 ≤ x.toInt ∧ x.toInt ≤ 3) := hwr_3.1
  have qr_3_1 : Imp (r_3.toInt = 0) (x.toInt < 0 ∨ 3 < x.toInt) := hwr_3.2.1
  have qr_3_2 : r_3 = 0 ∨ r_3 = 1 := hwr_3.2.2.1
  refine lv_if_ne (tgt := 20) hx hb dX9_copy_14 (by decide) (fun c_4 => ?_) (fun c_4 => ?_)
  · have ic_4 : ¬ r_3.toInt = 0 := ine c_4 (rfl) (by decide)
    have kqr_3_0 : 0 ≤ x.toInt ∧ x.toInt ≤ 3 := qr_3_0 ic_4
    have c_5 : x = 0 ∨ x = 1 ∨ x = 2 ∨ x = 3 := by
      rcases (show x.toInt = 0 ∨ x.toInt = 1 ∨ x.toInt = 2 ∨ x.toInt = 3 from by omega) with h | h | h | h
      · exact Or.inl (i32_is (h.trans (by decide)))
      · exact Or.inr (Or.inl (i32_is (h.trans (by decide))))
      · exact Or.inr (Or.inr (Or.inl (i32_is (h.trans (by decide)))))
      · exact Or.inr (Or.inr (Or.inr (i32_is (h.trans (by decide)))))
    rcases c_5 with rfl | rfl | rfl | rfl
    · refine lv_aload_n hx hb dX9_copy_20 rfl (lv_at hl 0 rfl) ?_
      refine va_get (D := D) (ci := 9) (v := .ref (g 11)) (C := RX9) (T := TX9) (N := 37) hx hb htg gRX9 hown hK hP 0 rfl rfl 34 (by decide) (htg _ wi_1184) (fun _ h9 => h9) rfl dX9_copy_21 ?_
      refine lv_iload_n hx hb dX9_copy_24 rfl (lv_at hl 1 rfl) ?_
      refine va_iald hx hb hK hP 2 0 rfl rfl (by unfold vp_in; decide) dX9_copy_25 ?_
      refine lv_topi (fun z_6 ez_6 => ?_)
      have nz_6 : z_6.toInt = ((a11) 0).toInt := by rw [ez_6]; rfl
      refine lv_iconst (v := (-1)) hx hb dX9_copy_26 (by decide) ?_
      refine lv_icmp_ne (tgt := 33) hx hb dX9_copy_27 (by decide) (fun c_7 => ?_) (fun c_7 => ?_)
      · have ic_7 : ¬ z_6.toInt = (-1) := ine c_7 (rfl) (by decide)
        refine lv_aload_n hx hb dX9_copy_33 rfl (lv_at hl 0 rfl) ?_
        refine va_get (D := D) (ci := 9) (v := .ref (g 12)) (C := RX9) (T := TX9) (N := 37) hx hb htg gRX9 hown hK hP 0 rfl rfl 35 (by decide) (htg _ wi_1185) (fun _ h9 => h9) rfl dX9_copy_34 ?_
        refine lv_iload_n hx hb dX9_copy_37 rfl (lv_at hl 1 rfl) ?_
        refine va_iald hx hb hK hP 3 0 rfl rfl (by unfold vp_in; decide) dX9_copy_38 ?_
        refine lv_topi (fun z_8 ez_8 => ?_)
        have iz_8 : 0 ≤ z_8.toInt ∧ z_8.toInt ≤ 40 := by rw [ez_8]; exact e12 _ (in_lt (by unfold vp_in; decide))
        have nz_8 : z_8.toInt = ((a12) 0).toInt := by rw [ez_8]; rfl
        refine lv_aload_n hx hb dX9_copy_39 rfl (lv_at hl 0 rfl) ?_
        refine va_get (D := D) (ci := 9) (v := .ref (g 0)) (C := RX9) (T := TX9) (N := 37) hx hb htg gRX9 hown hK hP 0 rfl rfl 1 (by decide) (htg _ wi_1151) (fun _ h9 => h9) rfl dX9_copy_40 ?_
        refine lv_iconst (v := 0) hx hb dX9_copy_43 (by decide) ?_
        refine va_iald hx hb hK hP 1 0 rfl rfl (by unfold vp_in; decide) dX9_copy_44 ?_
        refine lv_topi (fun z_9 ez_9 => ?_)
        have iz_9 : 0 ≤ z_9.toInt ∧ z_9.toInt ≤ 16 := by rw [ez_9]; exact rd0 pa0 (by decide) rfl
        have nz_9 : z_9.toInt = ((a0) 0).toInt := by rw [ez_9]; rfl
        have nz_9 : z_9.toInt = (a0 0).toInt := by rw [ez_9]; rfl
        refine lv_icmp_ge (tgt := 51) hx hb dX9_copy_45 (by decide) (fun c_10 => ?_) (fun c_10 => ?_)
        · have ic_10 : z_9.toInt ≤ z_8.toInt := ile c_10 (rfl) (rfl)
          refine lv_iconst (v := 0) hx hb dX9_copy_51 (by decide) ?_
          refine lv_istore_n (lv' := [(2, .int 0), (0, .ref h0), (1, .int 0)]) hx hb dX9_copy_52 rfl hl (by decide) rfl (fun ls hl => ?_)
          refine (fun (key : ∀ (n9_53 : Nat) (k9_53 : Nat) (f9_53_0 : Nat → Int64) (H : Heap) (locs : List Loc) (ls : Array Slot), (k9_53 : Int) ≤ 16 → 16 < (k9_53 : Int) + n9_53 → PD D A [(sw_9 h0 g 0 b5 b6 b7 b8 b9 b10 b11 b12 b13 b14 b17 b18 b19 b23 b24 b25 b26 b27 b29 b31 b32 b33), (sw_in cT (g 0) 288 a0), (sw_in cT (g 11) 4 a11), (sw_in cT (g 12) 4 a12), (sw_lo cT (g 13) 160 f9_53_0)] H → va_S A s.heap H locs → lv_has ls 3 [(2, .int (nI k9_53)), (0, .ref h0), (1, .int 0)] → W p l e _ s m _ below meth c H locs _ _ _ (F0 m 53 ls [])) => key (Int.toNat (16 - 0) + 1) 0 _ _ _ _ (by omega) (by omega)  ⟨hP, hD⟩ hS (lv_sub hl [0, 1, 2] rfl)) ?_
          intro n9_53
          induction n9_53 with
          | zero => intro k9_53 f9_53_0 H locs ls hq1 hq2; exact absurd hq2 (by omega)
          | succ n9_53 ih_53 =>
            intro k9_53 f9_53_0 H locs ls hq1_53 hq2_53  hPD hS hl
            obtain ⟨hP, hD⟩ := hPD
            have hk9_53 : (nI k9_53).toInt = (k9_53 : Int) := nI_toInt (by omega)
            refine lv_iload_n hx hb dX9_copy_53 rfl (lv_at hl 0 rfl) ?_
            refine lv_aload_n hx hb dX9_copy_54 rfl (lv_at hl 1 rfl) ?_
            refine va_get (D := D) (ci := 9) (v := .ref (g 0)) (C := RX9) (T := TX9) (N := 37) hx hb htg gRX9 hown hK hP 0 rfl rfl 1 (by decide) (htg _ wi_1151) (fun _ h9 => h9) rfl dX9_copy_55 ?_
            refine lv_iconst (v := 0) hx hb dX9_copy_58 (by decide) ?_
            refine va_iald hx hb hK hP 1 0 rfl rfl (by unfold vp_in; decide) dX9_copy_59 ?_
            refine lv_topi (fun z_11 ez_11 => ?_)
            have iz_11 : 0 ≤ z_11.toInt ∧ z_11.toInt ≤ 16 := by rw [ez_11]; exact rd0 pa0 (by decide) rfl
            have nz_11 : z_11.toInt = ((a0) 0).toInt := by rw [ez_11]; rfl
            refine lv_icmp_ge (tgt := 90) hx hb dX9_copy_60 (by decide) (fun c_12 => ?_) (fun c_12 => ?_)
            · have ic_12 : z_11.toInt ≤ ((k9_53 : Nat) : Int) := ile c_12 (rfl) (nI_toInt (by omega))
              refine lv_aload_n hx hb dX9_copy_90 rfl (lv_at hl 1 rfl) ?_
              refine va_get (D := D) (ci := 9) (v := .ref (g 0)) (C := RX9) (T := TX9) (N := 37) hx hb htg gRX9 hown hK hP 0 rfl rfl 1 (by decide) (htg _ wi_1151) (fun _ h9 => h9) rfl dX9_copy_91 ?_
              refine lv_iconst (v := 0) hx hb dX9_copy_94 (by decide) ?_
              refine va_iald hx hb hK hP 1 0 rfl rfl (by unfold vp_in; decide) dX9_copy_95 ?_
              refine lv_topi (fun z_13 ez_13 => ?_)
              have iz_13 : 0 ≤ z_13.toInt ∧ z_13.toInt ≤ 16 := by rw [ez_13]; exact rd0 pa0 (by decide) rfl
              have nz_13 : z_13.toInt = ((a0) 0).toInt := by rw [ez_13]; rfl
              have nz_13 : z_13.toInt = (a0 0).toInt := by rw [ez_13]; rfl
              exact x_iret hx hb hr hlk hP hD hS [0, 1, 2, 3, 4] ((0, f9_53_0)) rfl (by decide) ⟨(by (try dsimp only); omega), (by (try dsimp only); omega), (by (try dsimp only); omega), (by (try dsimp only); omega), (by (try dsimp only); omega), trivial⟩ (by decide) (by decide) dX9_copy_96
            · have ic_12 : ((k9_53 : Nat) : Int) < z_11.toInt := inle c_12 (rfl) (nI_toInt (by omega))
              refine lv_aload_n hx hb dX9_copy_63 rfl (lv_at hl 1 rfl) ?_
              refine va_get (D := D) (ci := 9) (v := .ref (g 13)) (C := RX9) (T := TX9) (N := 37) hx hb htg gRX9 hown hK hP 0 rfl rfl 36 (by decide) (htg _ wi_1186) (fun _ h9 => h9) rfl dX9_copy_64 ?_
              refine lv_bipush (v := 40) hx hb dX9_copy_67 (by decide) ?_
              refine lv_iload_n hx hb dX9_copy_69 rfl (lv_at hl 2 rfl) ?_
              refine lv_imul hx hb dX9_copy_70 ?_
              refine lv_is (y := 0) (by decide) ?_
              refine lv_iload_n hx hb dX9_copy_71 rfl (lv_at hl 0 rfl) ?_
              refine lv_iadd hx hb dX9_copy_72 ?_
              refine lv_is (y := nI (0 + k9_53)) (nI_add 0 (k9_53)) ?_
              refine lv_aload_n hx hb dX9_copy_73 rfl (lv_at hl 1 rfl) ?_
              refine va_get (D := D) (ci := 9) (v := .ref (g 0)) (C := RX9) (T := TX9) (N := 37) hx hb htg gRX9 hown hK hP 0 rfl rfl 1 (by decide) (htg _ wi_1151) (fun _ h9 => h9) rfl dX9_copy_74 ?_
              refine lv_bipush (v := 16) hx hb dX9_copy_77 (by decide) ?_
              refine lv_iload_n hx hb dX9_copy_79 rfl (lv_at hl 0 rfl) ?_
              refine lv_iadd hx hb dX9_copy_80 ?_
              refine lv_is (y := nI (16 + k9_53)) (nI_add 16 (k9_53)) ?_
              refine va_iald hx hb hK hP 1 0 rfl rfl (vp_in_nI (by omega) (by omega)) dX9_copy_81 ?_
              refine lv_topi (fun z_14 ez_14 => ?_)
              refine lv_i2l (v := z_14.toInt64) hx hb dX9_copy_82 rfl ?_
              refine va_last hx hb hK hP hD hS 4 1 rfl rfl (vp_in_nI (by omega) (by omega)) dX9_copy_83 (fun H locs hP hD hS => ?_)
              obtain ⟨f_15, hP, hD⟩ : ∃ f_15 : Nat → Int64, PD D A [(sw_9 h0 g 0 b5 b6 b7 b8 b9 b10 b11 b12 b13 b14 b17 b18 b19 b23 b24 b25 b26 b27 b29 b31 b32 b33), (sw_in cT (g 0) 288 a0), (sw_in cT (g 11) 4 a11), (sw_in cT (g 12) 4 a12), (sw_lo cT (g 13) 160 f_15)] H := ⟨_, hP, hD⟩
              refine lv_iinc (v := (nI (k9_53 + 1))) (lv' := [(2, .int (nI (k9_53 + 1))), (0, .ref h0), (1, .int 0)]) hx hb dX9_copy_84 hl (k := 0) rfl (by exact nI_1 (k9_53)) (by decide) rfl (fun ls hl => ?_)
              refine lv_goto (tgt := 53) hx hb dX9_copy_87 (by decide) ?_
              exact ih_53 (k9_53 + 1) _ _ _ _ (by omega) (by omega)  ⟨hP.sub [0, 1, 2, 3, 4] rfl, hD.sub [0, 1, 2, 3, 4] (by decide) rfl⟩ hS (lv_sub hl [0, 1, 2] rfl)
        · have ic_10 : z_8.toInt < z_9.toInt := inle c_10 (rfl) (rfl)
          refine lv_bipush (v := (-7)) hx hb dX9_copy_48 (by decide) ?_
          exact x_iret hx hb hr hlk hP hD hS [0, 1, 2, 3, 4] ((0, a13)) rfl (by decide) ⟨(by (try dsimp only); omega), (by (try dsimp only); omega), (by (try dsimp only); omega), (by (try dsimp only); omega), (by (try dsimp only); omega), trivial⟩ (by decide) (by decide) dX9_copy_50
      · have ic_7 : z_6.toInt = (-1) := ieq c_7 (rfl) (by decide)
        refine lv_bipush (v := (-6)) hx hb dX9_copy_30 (by decide) ?_
        exact x_iret hx hb hr hlk hP hD hS [0, 1, 2, 3, 4] ((0, a13)) rfl (by decide) ⟨(by (try dsimp only); omega), (by (try dsimp only); omega), (by (try dsimp only); omega), (by (try dsimp only); omega), (by (try dsimp only); omega), trivial⟩ (by decide) (by decide) dX9_copy_32
    · refine lv_aload_n hx hb dX9_copy_20 rfl (lv_at hl 0 rfl) ?_
      refine va_get (D := D) (ci := 9) (v := .ref (g 11)) (C := RX9) (T := TX9) (N := 37) hx hb htg gRX9 hown hK hP 0 rfl rfl 34 (by decide) (htg _ wi_1184) (fun _ h9 => h9) rfl dX9_copy_21 ?_
      refine lv_iload_n hx hb dX9_copy_24 rfl (lv_at hl 1 rfl) ?_
      refine va_iald hx hb hK hP 2 0 rfl rfl (by unfold vp_in; decide) dX9_copy_25 ?_
      refine lv_topi (fun z_16 ez_16 => ?_)
      have nz_16 : z_16.toInt = ((a11) 1).toInt := by rw [ez_16]; rfl
      refine lv_iconst (v := (-1)) hx hb dX9_copy_26 (by decide) ?_
      refine lv_icmp_ne (tgt := 33) hx hb dX9_copy_27 (by decide) (fun c_17 => ?_) (fun c_17 => ?_)
      · have ic_17 : ¬ z_16.toInt = (-1) := ine c_17 (rfl) (by decide)
        refine lv_aload_n hx hb dX9_copy_33 rfl (lv_at hl 0 rfl) ?_
        refine va_get (D := D) (ci := 9) (v := .ref (g 12)) (C := RX9) (T := TX9) (N := 37) hx hb htg gRX9 hown hK hP 0 rfl rfl 35 (by decide) (htg _ wi_1185) (fun _ h9 => h9) rfl dX9_copy_34 ?_
        refine lv_iload_n hx hb dX9_copy_37 rfl (lv_at hl 1 rfl) ?_
        refine va_iald hx hb hK hP 3 0 rfl rfl (by unfold vp_in; decide) dX9_copy_38 ?_
        refine lv_topi (fun z_18 ez_18 => ?_)
        have iz_18 : 0 ≤ z_18.toInt ∧ z_18.toInt ≤ 40 := by rw [ez_18]; exact e12 _ (in_lt (by unfold vp_in; decide))
        have nz_18 : z_18.toInt = ((a12) 1).toInt := by rw [ez_18]; rfl
        refine lv_aload_n hx hb dX9_copy_39 rfl (lv_at hl 0 rfl) ?_
        refine va_get (D := D) (ci := 9) (v := .ref (g 0)) (C := RX9) (T := TX9) (N := 37) hx hb htg gRX9 hown hK hP 0 rfl rfl 1 (by decide) (htg _ wi_1151) (fun _ h9 => h9) rfl dX9_copy_40 ?_
        refine lv_iconst (v := 0) hx hb dX9_copy_43 (by decide) ?_
        refine va_iald hx hb hK hP 1 0 rfl rfl (by unfold vp_in; decide) dX9_copy_44 ?_
        refine lv_topi (fun z_19 ez_19 => ?_)
        have iz_19 : 0 ≤ z_19.toInt ∧ z_19.toInt ≤ 16 := by rw [ez_19]; exact rd0 pa0 (by decide) rfl
        have nz_19 : z_19.toInt = ((a0) 0).toInt := by rw [ez_19]; rfl
        have nz_19 : z_19.toInt = (a0 0).toInt := by rw [ez_19]; rfl
        refine lv_icmp_ge (tgt := 51) hx hb dX9_copy_45 (by decide) (fun c_20 => ?_) (fun c_20 => ?_)
        · have ic_20 : z_19.toInt ≤ z_18.toInt := ile c_20 (rfl) (rfl)
          refine lv_iconst (v := 0) hx hb dX9_copy_51 (by decide) ?_
          refine lv_istore_n (lv' := [(2, .int 0), (0, .ref h0), (1, .int 1)]) hx hb dX9_copy_52 rfl hl (by decide) rfl (fun ls hl => ?_)
          refine (fun (key : ∀ (n9_53 : Nat) (k9_53 : Nat) (f9_53_0 : Nat → Int64) (H : Heap) (locs : List Loc) (ls : Array Slot), (k9_53 : Int) ≤ 16 → 16 < (k9_53 : Int) + n9_53 → PD D A [(sw_9 h0 g 0 b5 b6 b7 b8 b9 b10 b11 b12 b13 b14 b17 b18 b19 b23 b24 b25 b26 b27 b29 b31 b32 b33), (sw_in cT (g 0) 288 a0), (sw_in cT (g 11) 4 a11), (sw_in cT (g 12) 4 a12), (sw_lo cT (g 13) 160 f9_53_0)] H → va_S A s.heap H locs → lv_has ls 3 [(2, .int (nI k9_53)), (0, .ref h0), (1, .int 1)] → W p l e _ s m _ below meth c H locs _ _ _ (F0 m 53 ls [])) => key (Int.toNat (16 - 0) + 1) 0 _ _ _ _ (by omega) (by omega)  ⟨hP, hD⟩ hS (lv_sub hl [0, 1, 2] rfl)) ?_
          intro n9_53
          induction n9_53 with
          | zero => intro k9_53 f9_53_0 H locs ls hq1 hq2; exact absurd hq2 (by omega)
          | succ n9_53 ih_53 =>
            intro k9_53 f9_53_0 H locs ls hq1_53 hq2_53  hPD hS hl
            obtain ⟨hP, hD⟩ := hPD
            have hk9_53 : (nI k9_53).toInt = (k9_53 : Int) := nI_toInt (by omega)
            refine lv_iload_n hx hb dX9_copy_53 rfl (lv_at hl 0 rfl) ?_
            refine lv_aload_n hx hb dX9_copy_54 rfl (lv_at hl 1 rfl) ?_
            refine va_get (D := D) (ci := 9) (v := .ref (g 0)) (C := RX9) (T := TX9) (N := 37) hx hb htg gRX9 hown hK hP 0 rfl rfl 1 (by decide) (htg _ wi_1151) (fun _ h9 => h9) rfl dX9_copy_55 ?_
            refine lv_iconst (v := 0) hx hb dX9_copy_58 (by decide) ?_
            refine va_iald hx hb hK hP 1 0 rfl rfl (by unfold vp_in; decide) dX9_copy_59 ?_
            refine lv_topi (fun z_21 ez_21 => ?_)
            have iz_21 : 0 ≤ z_21.toInt ∧ z_21.toInt ≤ 16 := by rw [ez_21]; exact rd0 pa0 (by decide) rfl
            have nz_21 : z_21.toInt = ((a0) 0).toInt := by rw [ez_21]; rfl
            refine lv_icmp_ge (tgt := 90) hx hb dX9_copy_60 (by decide) (fun c_22 => ?_) (fun c_22 => ?_)
            · have ic_22 : z_21.toInt ≤ ((k9_53 : Nat) : Int) := ile c_22 (rfl) (nI_toInt (by omega))
              refine lv_aload_n hx hb dX9_copy_90 rfl (lv_at hl 1 rfl) ?_
              refine va_get (D := D) (ci := 9) (v := .ref (g 0)) (C := RX9) (T := TX9) (N := 37) hx hb htg gRX9 hown hK hP 0 rfl rfl 1 (by decide) (htg _ wi_1151) (fun _ h9 => h9) rfl dX9_copy_91 ?_
              refine lv_iconst (v := 0) hx hb dX9_copy_94 (by decide) ?_
              refine va_iald hx hb hK hP 1 0 rfl rfl (by unfold vp_in; decide) dX9_copy_95 ?_
              refine lv_topi (fun z_23 ez_23 => ?_)
              have iz_23 : 0 ≤ z_23.toInt ∧ z_23.toInt ≤ 16 := by rw [ez_23]; exact rd0 pa0 (by decide) rfl
              have nz_23 : z_23.toInt = ((a0) 0).toInt := by rw [ez_23]; rfl
              have nz_23 : z_23.toInt = (a0 0).toInt := by rw [ez_23]; rfl
              exact x_iret hx hb hr hlk hP hD hS [0, 1, 2, 3, 4] ((0, f9_53_0)) rfl (by decide) ⟨(by (try dsimp only); omega), (by (try dsimp only); omega), (by (try dsimp only); omega), (by (try dsimp only); omega), (by (try dsimp only); omega), trivial⟩ (by decide) (by decide) dX9_copy_96
            · have ic_22 : ((k9_53 : Nat) : Int) < z_21.toInt := inle c_22 (rfl) (nI_toInt (by omega))
              refine lv_aload_n hx hb dX9_copy_63 rfl (lv_at hl 1 rfl) ?_
              refine va_get (D := D) (ci := 9) (v := .ref (g 13)) (C := RX9) (T := TX9) (N := 37) hx hb htg gRX9 hown hK hP 0 rfl rfl 36 (by decide) (htg _ wi_1186) (fun _ h9 => h9) rfl dX9_copy_64 ?_
              refine lv_bipush (v := 40) hx hb dX9_copy_67 (by decide) ?_
              refine lv_iload_n hx hb dX9_copy_69 rfl (lv_at hl 2 rfl) ?_
              refine lv_imul hx hb dX9_copy_70 ?_
              refine lv_is (y := 40) (by decide) ?_
              refine lv_iload_n hx hb dX9_copy_71 rfl (lv_at hl 0 rfl) ?_
              refine lv_iadd hx hb dX9_copy_72 ?_
              refine lv_is (y := nI (40 + k9_53)) (nI_add 40 (k9_53)) ?_
              refine lv_aload_n hx hb dX9_copy_73 rfl (lv_at hl 1 rfl) ?_
              refine va_get (D := D) (ci := 9) (v := .ref (g 0)) (C := RX9) (T := TX9) (N := 37) hx hb htg gRX9 hown hK hP 0 rfl rfl 1 (by decide) (htg _ wi_1151) (fun _ h9 => h9) rfl dX9_copy_74 ?_
              refine lv_bipush (v := 16) hx hb dX9_copy_77 (by decide) ?_
              refine lv_iload_n hx hb dX9_copy_79 rfl (lv_at hl 0 rfl) ?_
              refine lv_iadd hx hb dX9_copy_80 ?_
              refine lv_is (y := nI (16 + k9_53)) (nI_add 16 (k9_53)) ?_
              refine va_iald hx hb hK hP 1 0 rfl rfl (vp_in_nI (by omega) (by omega)) dX9_copy_81 ?_
              refine lv_topi (fun z_24 ez_24 => ?_)
              refine lv_i2l (v := z_24.toInt64) hx hb dX9_copy_82 rfl ?_
              refine va_last hx hb hK hP hD hS 4 1 rfl rfl (vp_in_nI (by omega) (by omega)) dX9_copy_83 (fun H locs hP hD hS => ?_)
              obtain ⟨f_25, hP, hD⟩ : ∃ f_25 : Nat → Int64, PD D A [(sw_9 h0 g 0 b5 b6 b7 b8 b9 b10 b11 b12 b13 b14 b17 b18 b19 b23 b24 b25 b26 b27 b29 b31 b32 b33), (sw_in cT (g 0) 288 a0), (sw_in cT (g 11) 4 a11), (sw_in cT (g 12) 4 a12), (sw_lo cT (g 13) 160 f_25)] H := ⟨_, hP, hD⟩
              refine lv_iinc (v := (nI (k9_53 + 1))) (lv' := [(2, .int (nI (k9_53 + 1))), (0, .ref h0), (1, .int 1)]) hx hb dX9_copy_84 hl (k := 0) rfl (by exact nI_1 (k9_53)) (by decide) rfl (fun ls hl => ?_)
              refine lv_goto (tgt := 53) hx hb dX9_copy_87 (by decide) ?_
              exact ih_53 (k9_53 + 1) _ _ _ _ (by omega) (by omega)  ⟨hP.sub [0, 1, 2, 3, 4] rfl, hD.sub [0, 1, 2, 3, 4] (by decide) rfl⟩ hS (lv_sub hl [0, 1, 2] rfl)
        · have ic_20 : z_18.toInt < z_19.toInt := inle c_20 (rfl) (rfl)
          refine lv_bipush (v := (-7)) hx hb dX9_copy_48 (by decide) ?_
          exact x_iret hx hb hr hlk hP hD hS [0, 1, 2, 3, 4] ((0, a13)) rfl (by decide) ⟨(by (try dsimp only); omega), (by (try dsimp only); omega), (by (try dsimp only); omega), (by (try dsimp only); omega), (by (try dsimp only); omega), trivial⟩ (by decide) (by decide) dX9_copy_50
      · have ic_17 : z_16.toInt = (-1) := ieq c_17 (rfl) (by decide)
        refine lv_bipush (v := (-6)) hx hb dX9_copy_30 (by decide) ?_
        exact x_iret hx hb hr hlk hP hD hS [0, 1, 2, 3, 4] ((0, a13)) rfl (by decide) ⟨(by (try dsimp only); omega), (by (try dsimp only); omega), (by (try dsimp only); omega), (by (try dsimp only); omega), (by (try dsimp only); omega), trivial⟩ (by decide) (by decide) dX9_copy_32
    · refine lv_aload_n hx hb dX9_copy_20 rfl (lv_at hl 0 rfl) ?_
      refine va_get (D := D) (ci := 9) (v := .ref (g 11)) (C := RX9) (T := TX9) (N := 37) hx hb htg gRX9 hown hK hP 0 rfl rfl 34 (by decide) (htg _ wi_1184) (fun _ h9 => h9) rfl dX9_copy_21 ?_
      refine lv_iload_n hx hb dX9_copy_24 rfl (lv_at hl 1 rfl) ?_
      refine va_iald hx hb hK hP 2 0 rfl rfl (by unfold vp_in; decide) dX9_copy_25 ?_
      refine lv_topi (fun z_26 ez_26 => ?_)
      have nz_26 : z_26.toInt = ((a11) 2).toInt := by rw [ez_26]; rfl
      refine lv_iconst (v := (-1)) hx hb dX9_copy_26 (by decide) ?_
      refine lv_icmp_ne (tgt := 33) hx hb dX9_copy_27 (by decide) (fun c_27 => ?_) (fun c_27 => ?_)
      · have ic_27 : ¬ z_26.toInt = (-1) := ine c_27 (rfl) (by decide)
        refine lv_aload_n hx hb dX9_copy_33 rfl (lv_at hl 0 rfl) ?_
        refine va_get (D := D) (ci := 9) (v := .ref (g 12)) (C := RX9) (T := TX9) (N := 37) hx hb htg gRX9 hown hK hP 0 rfl rfl 35 (by decide) (htg _ wi_1185) (fun _ h9 => h9) rfl dX9_copy_34 ?_
        refine lv_iload_n hx hb dX9_copy_37 rfl (lv_at hl 1 rfl) ?_
        refine va_iald hx hb hK hP 3 0 rfl rfl (by unfold vp_in; decide) dX9_copy_38 ?_
        refine lv_topi (fun z_28 ez_28 => ?_)
        have iz_28 : 0 ≤ z_28.toInt ∧ z_28.toInt ≤ 40 := by rw [ez_28]; exact e12 _ (in_lt (by unfold vp_in; decide))
        have nz_28 : z_28.toInt = ((a12) 2).toInt := by rw [ez_28]; rfl
        refine lv_aload_n hx hb dX9_copy_39 rfl (lv_at hl 0 rfl) ?_
        refine va_get (D := D) (ci := 9) (v := .ref (g 0)) (C := RX9) (T := TX9) (N := 37) hx hb htg gRX9 hown hK hP 0 rfl rfl 1 (by decide) (htg _ wi_1151) (fun _ h9 => h9) rfl dX9_copy_40 ?_
        refine lv_iconst (v := 0) hx hb dX9_copy_43 (by decide) ?_
        refine va_iald hx hb hK hP 1 0 rfl rfl (by unfold vp_in; decide) dX9_copy_44 ?_
        refine lv_topi (fun z_29 ez_29 => ?_)
        have iz_29 : 0 ≤ z_29.toInt ∧ z_29.toInt ≤ 16 := by rw [ez_29]; exact rd0 pa0 (by decide) rfl
        have nz_29 : z_29.toInt = ((a0) 0).toInt := by rw [ez_29]; rfl
        have nz_29 : z_29.toInt = (a0 0).toInt := by rw [ez_29]; rfl
        refine lv_icmp_ge (tgt := 51) hx hb dX9_copy_45 (by decide) (fun c_30 => ?_) (fun c_30 => ?_)
        · have ic_30 : z_29.toInt ≤ z_28.toInt := ile c_30 (rfl) (rfl)
          refine lv_iconst (v := 0) hx hb dX9_copy_51 (by decide) ?_
          refine lv_istore_n (lv' := [(2, .int 0), (0, .ref h0), (1, .int 2)]) hx hb dX9_copy_52 rfl hl (by decide) rfl (fun ls hl => ?_)
          refine (fun (key : ∀ (n9_53 : Nat) (k9_53 : Nat) (f9_53_0 : Nat → Int64) (H : Heap) (locs : List Loc) (ls : Array Slot), (k9_53 : Int) ≤ 16 → 16 < (k9_53 : Int) + n9_53 → PD D A [(sw_9 h0 g 0 b5 b6 b7 b8 b9 b10 b11 b12 b13 b14 b17 b18 b19 b23 b24 b25 b26 b27 b29 b31 b32 b33), (sw_in cT (g 0) 288 a0), (sw_in cT (g 11) 4 a11), (sw_in cT (g 12) 4 a12), (sw_lo cT (g 13) 160 f9_53_0)] H → va_S A s.heap H locs → lv_has ls 3 [(2, .int (nI k9_53)), (0, .ref h0), (1, .int 2)] → W p l e _ s m _ below meth c H locs _ _ _ (F0 m 53 ls [])) => key (Int.toNat (16 - 0) + 1) 0 _ _ _ _ (by omega) (by omega)  ⟨hP, hD⟩ hS (lv_sub hl [0, 1, 2] rfl)) ?_
          intro n9_53
          induction n9_53 with
          | zero => intro k9_53 f9_53_0 H locs ls hq1 hq2; exact absurd hq2 (by omega)
          | succ n9_53 ih_53 =>
            intro k9_53 f9_53_0 H locs ls hq1_53 hq2_53  hPD hS hl
            obtain ⟨hP, hD⟩ := hPD
            have hk9_53 : (nI k9_53).toInt = (k9_53 : Int) := nI_toInt (by omega)
            refine lv_iload_n hx hb dX9_copy_53 rfl (lv_at hl 0 rfl) ?_
            refine lv_aload_n hx hb dX9_copy_54 rfl (lv_at hl 1 rfl) ?_
            refine va_get (D := D) (ci := 9) (v := .ref (g 0)) (C := RX9) (T := TX9) (N := 37) hx hb htg gRX9 hown hK hP 0 rfl rfl 1 (by decide) (htg _ wi_1151) (fun _ h9 => h9) rfl dX9_copy_55 ?_
            refine lv_iconst (v := 0) hx hb dX9_copy_58 (by decide) ?_
            refine va_iald hx hb hK hP 1 0 rfl rfl (by unfold vp_in; decide) dX9_copy_59 ?_
            refine lv_topi (fun z_31 ez_31 => ?_)
            have iz_31 : 0 ≤ z_31.toInt ∧ z_31.toInt ≤ 16 := by rw [ez_31]; exact rd0 pa0 (by decide) rfl
            have nz_31 : z_31.toInt = ((a0) 0).toInt := by rw [ez_31]; rfl
            refine lv_icmp_ge (tgt := 90) hx hb dX9_copy_60 (by decide) (fun c_32 => ?_) (fun c_32 => ?_)
            · have ic_32 : z_31.toInt ≤ ((k9_53 : Nat) : Int) := ile c_32 (rfl) (nI_toInt (by omega))
              refine lv_aload_n hx hb dX9_copy_90 rfl (lv_at hl 1 rfl) ?_
              refine va_get (D := D) (ci := 9) (v := .ref (g 0)) (C := RX9) (T := TX9) (N := 37) hx hb htg gRX9 hown hK hP 0 rfl rfl 1 (by decide) (htg _ wi_1151) (fun _ h9 => h9) rfl dX9_copy_91 ?_
              refine lv_iconst (v := 0) hx hb dX9_copy_94 (by decide) ?_
              refine va_iald hx hb hK hP 1 0 rfl rfl (by unfold vp_in; decide) dX9_copy_95 ?_
              refine lv_topi (fun z_33 ez_33 => ?_)
              have iz_33 : 0 ≤ z_33.toInt ∧ z_33.toInt ≤ 16 := by rw [ez_33]; exact rd0 pa0 (by decide) rfl
              have nz_33 : z_33.toInt = ((a0) 0).toInt := by rw [ez_33]; rfl
              have nz_33 : z_33.toInt = (a0 0).toInt := by rw [ez_33]; rfl
              exact x_iret hx hb hr hlk hP hD hS [0, 1, 2, 3, 4] ((0, f9_53_0)) rfl (by decide) ⟨(by (try dsimp only); omega), (by (try dsimp only); omega), (by (try dsimp only); omega), (by (try dsimp only); omega), (by (try dsimp only); omega), trivial⟩ (by decide) (by decide) dX9_copy_96
            · have ic_32 : ((k9_53 : Nat) : Int) < z_31.toInt := inle c_32 (rfl) (nI_toInt (by omega))
              refine lv_aload_n hx hb dX9_copy_63 rfl (lv_at hl 1 rfl) ?_
              refine va_get (D := D) (ci := 9) (v := .ref (g 13)) (C := RX9) (T := TX9) (N := 37) hx hb htg gRX9 hown hK hP 0 rfl rfl 36 (by decide) (htg _ wi_1186) (fun _ h9 => h9) rfl dX9_copy_64 ?_
              refine lv_bipush (v := 40) hx hb dX9_copy_67 (by decide) ?_
              refine lv_iload_n hx hb dX9_copy_69 rfl (lv_at hl 2 rfl) ?_
              refine lv_imul hx hb dX9_copy_70 ?_
              refine lv_is (y := 80) (by decide) ?_
              refine lv_iload_n hx hb dX9_copy_71 rfl (lv_at hl 0 rfl) ?_
              refine lv_iadd hx hb dX9_copy_72 ?_
              refine lv_is (y := nI (80 + k9_53)) (nI_add 80 (k9_53)) ?_
              refine lv_aload_n hx hb dX9_copy_73 rfl (lv_at hl 1 rfl) ?_
              refine va_get (D := D) (ci := 9) (v := .ref (g 0)) (C := RX9) (T := TX9) (N := 37) hx hb htg gRX9 hown hK hP 0 rfl rfl 1 (by decide) (htg _ wi_1151) (fun _ h9 => h9) rfl dX9_copy_74 ?_
              refine lv_bipush (v := 16) hx hb dX9_copy_77 (by decide) ?_
              refine lv_iload_n hx hb dX9_copy_79 rfl (lv_at hl 0 rfl) ?_
              refine lv_iadd hx hb dX9_copy_80 ?_
              refine lv_is (y := nI (16 + k9_53)) (nI_add 16 (k9_53)) ?_
              refine va_iald hx hb hK hP 1 0 rfl rfl (vp_in_nI (by omega) (by omega)) dX9_copy_81 ?_
              refine lv_topi (fun z_34 ez_34 => ?_)
              refine lv_i2l (v := z_34.toInt64) hx hb dX9_copy_82 rfl ?_
              refine va_last hx hb hK hP hD hS 4 1 rfl rfl (vp_in_nI (by omega) (by omega)) dX9_copy_83 (fun H locs hP hD hS => ?_)
              obtain ⟨f_35, hP, hD⟩ : ∃ f_35 : Nat → Int64, PD D A [(sw_9 h0 g 0 b5 b6 b7 b8 b9 b10 b11 b12 b13 b14 b17 b18 b19 b23 b24 b25 b26 b27 b29 b31 b32 b33), (sw_in cT (g 0) 288 a0), (sw_in cT (g 11) 4 a11), (sw_in cT (g 12) 4 a12), (sw_lo cT (g 13) 160 f_35)] H := ⟨_, hP, hD⟩
              refine lv_iinc (v := (nI (k9_53 + 1))) (lv' := [(2, .int (nI (k9_53 + 1))), (0, .ref h0), (1, .int 2)]) hx hb dX9_copy_84 hl (k := 0) rfl (by exact nI_1 (k9_53)) (by decide) rfl (fun ls hl => ?_)
              refine lv_goto (tgt := 53) hx hb dX9_copy_87 (by decide) ?_
              exact ih_53 (k9_53 + 1) _ _ _ _ (by omega) (by omega)  ⟨hP.sub [0, 1, 2, 3, 4] rfl, hD.sub [0, 1, 2, 3, 4] (by decide) rfl⟩ hS (lv_sub hl [0, 1, 2] rfl)
        · have ic_30 : z_28.toInt < z_29.toInt := inle c_30 (rfl) (rfl)
          refine lv_bipush (v := (-7)) hx hb dX9_copy_48 (by decide) ?_
          exact x_iret hx hb hr hlk hP hD hS [0, 1, 2, 3, 4] ((0, a13)) rfl (by decide) ⟨(by (try dsimp only); omega), (by (try dsimp only); omega), (by (try dsimp only); omega), (by (try dsimp only); omega), (by (try dsimp only); omega), trivial⟩ (by decide) (by decide) dX9_copy_50
      · have ic_27 : z_26.toInt = (-1) := ieq c_27 (rfl) (by decide)
        refine lv_bipush (v := (-6)) hx hb dX9_copy_30 (by decide) ?_
        exact x_iret hx hb hr hlk hP hD hS [0, 1, 2, 3, 4] ((0, a13)) rfl (by decide) ⟨(by (try dsimp only); omega), (by (try dsimp only); omega), (by (try dsimp only); omega), (by (try dsimp only); omega), (by (try dsimp only); omega), trivial⟩ (by decide) (by decide) dX9_copy_32
    · refine lv_aload_n hx hb dX9_copy_20 rfl (lv_at hl 0 rfl) ?_
      refine va_get (D := D) (ci := 9) (v := .ref (g 11)) (C := RX9) (T := TX9) (N := 37) hx hb htg gRX9 hown hK hP 0 rfl rfl 34 (by decide) (htg _ wi_1184) (fun _ h9 => h9) rfl dX9_copy_21 ?_
      refine lv_iload_n hx hb dX9_copy_24 rfl (lv_at hl 1 rfl) ?_
      refine va_iald hx hb hK hP 2 0 rfl rfl (by unfold vp_in; decide) dX9_copy_25 ?_
      refine lv_topi (fun z_36 ez_36 => ?_)
      have nz_36 : z_36.toInt = ((a11) 3).toInt := by rw [ez_36]; rfl
      refine lv_iconst (v := (-1)) hx hb dX9_copy_26 (by decide) ?_
      refine lv_icmp_ne (tgt := 33) hx hb dX9_copy_27 (by decide) (fun c_37 => ?_) (fun c_37 => ?_)
      · have ic_37 : ¬ z_36.toInt = (-1) := ine c_37 (rfl) (by decide)
        refine lv_aload_n hx hb dX9_copy_33 rfl (lv_at hl 0 rfl) ?_
        refine va_get (D := D) (ci := 9) (v := .ref (g 12)) (C := RX9) (T := TX9) (N := 37) hx hb htg gRX9 hown hK hP 0 rfl rfl 35 (by decide) (htg _ wi_1185) (fun _ h9 => h9) rfl dX9_copy_34 ?_
        refine lv_iload_n hx hb dX9_copy_37 rfl (lv_at hl 1 rfl) ?_
        refine va_iald hx hb hK hP 3 0 rfl rfl (by unfold vp_in; decide) dX9_copy_38 ?_
        refine lv_topi (fun z_38 ez_38 => ?_)
        have iz_38 : 0 ≤ z_38.toInt ∧ z_38.toInt ≤ 40 := by rw [ez_38]; exact e12 _ (in_lt (by unfold vp_in; decide))
        have nz_38 : z_38.toInt = ((a12) 3).toInt := by rw [ez_38]; rfl
        refine lv_aload_n hx hb dX9_copy_39 rfl (lv_at hl 0 rfl) ?_
        refine va_get (D := D) (ci := 9) (v := .ref (g 0)) (C := RX9) (T := TX9) (N := 37) hx hb htg gRX9 hown hK hP 0 rfl rfl 1 (by decide) (htg _ wi_1151) (fun _ h9 => h9) rfl dX9_copy_40 ?_
        refine lv_iconst (v := 0) hx hb dX9_copy_43 (by decide) ?_
        refine va_iald hx hb hK hP 1 0 rfl rfl (by unfold vp_in; decide) dX9_copy_44 ?_
        refine lv_topi (fun z_39 ez_39 => ?_)
        have iz_39 : 0 ≤ z_39.toInt ∧ z_39.toInt ≤ 16 := by rw [ez_39]; exact rd0 pa0 (by decide) rfl
        have nz_39 : z_39.toInt = ((a0) 0).toInt := by rw [ez_39]; rfl
        have nz_39 : z_39.toInt = (a0 0).toInt := by rw [ez_39]; rfl
        refine lv_icmp_ge (tgt := 51) hx hb dX9_copy_45 (by decide) (fun c_40 => ?_) (fun c_40 => ?_)
        · have ic_40 : z_39.toInt ≤ z_38.toInt := ile c_40 (rfl) (rfl)
          refine lv_iconst (v := 0) hx hb dX9_copy_51 (by decide) ?_
          refine lv_istore_n (lv' := [(2, .int 0), (0, .ref h0), (1, .int 3)]) hx hb dX9_copy_52 rfl hl (by decide) rfl (fun ls hl => ?_)
          refine (fun (key : ∀ (n9_53 : Nat) (k9_53 : Nat) (f9_53_0 : Nat → Int64) (H : Heap) (locs : List Loc) (ls : Array Slot), (k9_53 : Int) ≤ 16 → 16 < (k9_53 : Int) + n9_53 → PD D A [(sw_9 h0 g 0 b5 b6 b7 b8 b9 b10 b11 b12 b13 b14 b17 b18 b19 b23 b24 b25 b26 b27 b29 b31 b32 b33), (sw_in cT (g 0) 288 a0), (sw_in cT (g 11) 4 a11), (sw_in cT (g 12) 4 a12), (sw_lo cT (g 13) 160 f9_53_0)] H → va_S A s.heap H locs → lv_has ls 3 [(2, .int (nI k9_53)), (0, .ref h0), (1, .int 3)] → W p l e _ s m _ below meth c H locs _ _ _ (F0 m 53 ls [])) => key (Int.toNat (16 - 0) + 1) 0 _ _ _ _ (by omega) (by omega)  ⟨hP, hD⟩ hS (lv_sub hl [0, 1, 2] rfl)) ?_
          intro n9_53
          induction n9_53 with
          | zero => intro k9_53 f9_53_0 H locs ls hq1 hq2; exact absurd hq2 (by omega)
          | succ n9_53 ih_53 =>
            intro k9_53 f9_53_0 H locs ls hq1_53 hq2_53  hPD hS hl
            obtain ⟨hP, hD⟩ := hPD
            have hk9_53 : (nI k9_53).toInt = (k9_53 : Int) := nI_toInt (by omega)
            refine lv_iload_n hx hb dX9_copy_53 rfl (lv_at hl 0 rfl) ?_
            refine lv_aload_n hx hb dX9_copy_54 rfl (lv_at hl 1 rfl) ?_
            refine va_get (D := D) (ci := 9) (v := .ref (g 0)) (C := RX9) (T := TX9) (N := 37) hx hb htg gRX9 hown hK hP 0 rfl rfl 1 (by decide) (htg _ wi_1151) (fun _ h9 => h9) rfl dX9_copy_55 ?_
            refine lv_iconst (v := 0) hx hb dX9_copy_58 (by decide) ?_
            refine va_iald hx hb hK hP 1 0 rfl rfl (by unfold vp_in; decide) dX9_copy_59 ?_
            refine lv_topi (fun z_41 ez_41 => ?_)
            have iz_41 : 0 ≤ z_41.toInt ∧ z_41.toInt ≤ 16 := by rw [ez_41]; exact rd0 pa0 (by decide) rfl
            have nz_41 : z_41.toInt = ((a0) 0).toInt := by rw [ez_41]; rfl
            refine lv_icmp_ge (tgt := 90) hx hb dX9_copy_60 (by decide) (fun c_42 => ?_) (fun c_42 => ?_)
            · have ic_42 : z_41.toInt ≤ ((k9_53 : Nat) : Int) := ile c_42 (rfl) (nI_toInt (by omega))
              refine lv_aload_n hx hb dX9_copy_90 rfl (lv_at hl 1 rfl) ?_
              refine va_get (D := D) (ci := 9) (v := .ref (g 0)) (C := RX9) (T := TX9) (N := 37) hx hb htg gRX9 hown hK hP 0 rfl rfl 1 (by decide) (htg _ wi_1151) (fun _ h9 => h9) rfl dX9_copy_91 ?_
              refine lv_iconst (v := 0) hx hb dX9_copy_94 (by decide) ?_
              refine va_iald hx hb hK hP 1 0 rfl rfl (by unfold vp_in; decide) dX9_copy_95 ?_
              refine lv_topi (fun z_43 ez_43 => ?_)
              have iz_43 : 0 ≤ z_43.toInt ∧ z_43.toInt ≤ 16 := by rw [ez_43]; exact rd0 pa0 (by decide) rfl
              have nz_43 : z_43.toInt = ((a0) 0).toInt := by rw [ez_43]; rfl
              have nz_43 : z_43.toInt = (a0 0).toInt := by rw [ez_43]; rfl
              exact x_iret hx hb hr hlk hP hD hS [0, 1, 2, 3, 4] ((0, f9_53_0)) rfl (by decide) ⟨(by (try dsimp only); omega), (by (try dsimp only); omega), (by (try dsimp only); omega), (by (try dsimp only); omega), (by (try dsimp only); omega), trivial⟩ (by decide) (by decide) dX9_copy_96
            · have ic_42 : ((k9_53 : Nat) : Int) < z_41.toInt := inle c_42 (rfl) (nI_toInt (by omega))
              refine lv_aload_n hx hb dX9_copy_63 rfl (lv_at hl 1 rfl) ?_
              refine va_get (D := D) (ci := 9) (v := .ref (g 13)) (C := RX9) (T := TX9) (N := 37) hx hb htg gRX9 hown hK hP 0 rfl rfl 36 (by decide) (htg _ wi_1186) (fun _ h9 => h9) rfl dX9_copy_64 ?_
              refine lv_bipush (v := 40) hx hb dX9_copy_67 (by decide) ?_
              refine lv_iload_n hx hb dX9_copy_69 rfl (lv_at hl 2 rfl) ?_
              refine lv_imul hx hb dX9_copy_70 ?_
              refine lv_is (y := 120) (by decide) ?_
              refine lv_iload_n hx hb dX9_copy_71 rfl (lv_at hl 0 rfl) ?_
              refine lv_iadd hx hb dX9_copy_72 ?_
              refine lv_is (y := nI (120 + k9_53)) (nI_add 120 (k9_53)) ?_
              refine lv_aload_n hx hb dX9_copy_73 rfl (lv_at hl 1 rfl) ?_
              refine va_get (D := D) (ci := 9) (v := .ref (g 0)) (C := RX9) (T := TX9) (N := 37) hx hb htg gRX9 hown hK hP 0 rfl rfl 1 (by decide) (htg _ wi_1151) (fun _ h9 => h9) rfl dX9_copy_74 ?_
              refine lv_bipush (v := 16) hx hb dX9_copy_77 (by decide) ?_
              refine lv_iload_n hx hb dX9_copy_79 rfl (lv_at hl 0 rfl) ?_
              refine lv_iadd hx hb dX9_copy_80 ?_
              refine lv_is (y := nI (16 + k9_53)) (nI_add 16 (k9_53)) ?_
              refine va_iald hx hb hK hP 1 0 rfl rfl (vp_in_nI (by omega) (by omega)) dX9_copy_81 ?_
              refine lv_topi (fun z_44 ez_44 => ?_)
              refine lv_i2l (v := z_44.toInt64) hx hb dX9_copy_82 rfl ?_
              refine va_last hx hb hK hP hD hS 4 1 rfl rfl (vp_in_nI (by omega) (by omega)) dX9_copy_83 (fun H locs hP hD hS => ?_)
              obtain ⟨f_45, hP, hD⟩ : ∃ f_45 : Nat → Int64, PD D A [(sw_9 h0 g 0 b5 b6 b7 b8 b9 b10 b11 b12 b13 b14 b17 b18 b19 b23 b24 b25 b26 b27 b29 b31 b32 b33), (sw_in cT (g 0) 288 a0), (sw_in cT (g 11) 4 a11), (sw_in cT (g 12) 4 a12), (sw_lo cT (g 13) 160 f_45)] H := ⟨_, hP, hD⟩
              refine lv_iinc (v := (nI (k9_53 + 1))) (lv' := [(2, .int (nI (k9_53 + 1))), (0, .ref h0), (1, .int 3)]) hx hb dX9_copy_84 hl (k := 0) rfl (by exact nI_1 (k9_53)) (by decide) rfl (fun ls hl => ?_)
              refine lv_goto (tgt := 53) hx hb dX9_copy_87 (by decide) ?_
              exact ih_53 (k9_53 + 1) _ _ _ _ (by omega) (by omega)  ⟨hP.sub [0, 1, 2, 3, 4] rfl, hD.sub [0, 1, 2, 3, 4] (by decide) rfl⟩ hS (lv_sub hl [0, 1, 2] rfl)
        · have ic_40 : z_38.toInt < z_39.toInt := inle c_40 (rfl) (rfl)
          refine lv_bipush (v := (-7)) hx hb dX9_copy_48 (by decide) ?_
          exact x_iret hx hb hr hlk hP hD hS [0, 1, 2, 3, 4] ((0, a13)) rfl (by decide) ⟨(by (try dsimp only); omega), (by (try dsimp only); omega), (by (try dsimp only); omega), (by (try dsimp only); omega), (by (try dsimp only); omega), trivial⟩ (by decide) (by decide) dX9_copy_50
      · have ic_37 : z_36.toInt = (-1) := ieq c_37 (rfl) (by decide)
        refine lv_bipush (v := (-6)) hx hb dX9_copy_30 (by decide) ?_
        exact x_iret hx hb hr hlk hP hD hS [0, 1, 2, 3, 4] ((0, a13)) rfl (by decide) ⟨(by (try dsimp only); omega), (by (try dsimp only); omega), (by (try dsimp only); omega), (by (try dsimp only); omega), (by (try dsimp only); omega), trivial⟩ (by decide) (by decide) dX9_copy_32
  · have ic_4 : r_3.toInt = 0 := ieq c_4 (rfl) (by decide)
    have kqr_3_1 : x.toInt < 0 ∨ 3 < x.toInt := qr_3_1 ic_4
    refine lv_bipush (v := (-2)) hx hb dX9_copy_17 (by decide) ?_
    exact x_iret hx hb hr hlk hP hD hS [0, 1, 2, 3, 4] ((0, a13)) rfl (by decide) ⟨(by (try dsimp only); omega), (by (try dsimp only); omega), (by (try dsimp only); omega), (by (try dsimp only); omega), (by (try dsimp only); omega), trivial⟩ (by decide) (by decide) dX9_copy_19
