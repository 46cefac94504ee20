set_option maxHeartbeats 4000000 in
set_option maxRecDepth 100000 in
theorem m_sumOf (l : Launch) (D : va_G) (cT : Nat → ClassId) (sz : Nat) (h0 : Nat) (g : Nat → Nat) (b0 : Int32) (b5 : Int32) (b6 : Int32) (b7 : Int32) (b8 : Int32) (b9 : Int32) (b10 : Int32) (b11 : Int32) (b12 : Int32) (b13 : Int32) (b14 : Int32) (b17 : Int32) (b18 : Int32) (b19 : Int32) (b23 : Int32) (b24 : Int32) (b25 : Int32) (b26 : Int32) (b27 : Int32) (b29 : Int32) (b31 : Int32) (b32 : Int32) (b33 : Int32) (hb5 : 0 ≤ b5.toInt ∧ b5.toInt ≤ 900) (a0 : Nat → Int32) (pa0 : PI 288 a0) (x : Int32) (hx8 : 0 ≤ x.toInt ∧ x.toInt ≤ 80) : Met l yX9_sumOf (wsc yX9_sumOf cX9_sumOf 4 (some .int)) { frames := 2, cells := 0, slots := 0, locals := 100 } (va_Pc [.ref h0, .int x] (PX D cT sz [(sw_9 h0 g b0 b5 b6 b7 b8 b9 b10 b11 b12 b13 b14 b17 b18 b19 b23 b24 b25 b26 b27 b29 b31 b32 b33), (sw_in cT (g 0) 288 a0)])) (va_Qi (fun (r : Int32) (u : Unit) => (True)) (fun u t => RW D (va_A [(sw_9 h0 g b0 b5 b6 b7 b8 b9 b10 b11 b12 b13 b14 b17 b18 b19 b23 b24 b25 b26 b27 b29 b31 b32 b33), (sw_in cT (g 0) 288 a0)] sz) ((fun _ : Unit => [(sw_9 h0 g b0 b5 b6 b7 b8 b9 b10 b11 b12 b13 b14 b17 b18 b19 b23 b24 b25 b26 b27 b29 b31 b32 b33), (sw_in cT (g 0) 288 a0)]) u) t) (va_A [(sw_9 h0 g b0 b5 b6 b7 b8 b9 b10 b11 b12 b13 b14 b17 b18 b19 b23 b24 b25 b26 b27 b29 b31 b32 b33), (sw_in cT (g 0) 288 a0)] sz)) 0 0 (va_A [(sw_9 h0 g b0 b5 b6 b7 b8 b9 b10 b11 b12 b13 b14 b17 b18 b19 b23 b24 b25 b26 b27 b29 b31 b32 b33), (sw_in cT (g 0) 288 a0)] sz) := by
  refine m_of (y := yX9_sumOf) (cc := cX9_sumOf) (nL := 4) (ret := (some .int)) (D := D) (cT := cT) (av := [.ref h0, .int x]) (wi := [(sw_9 h0 g b0 b5 b6 b7 b8 b9 b10 b11 b12 b13 b14 b17 b18 b19 b23 b24 b25 b26 b27 b29 b31 b32 b33), (sw_in cT (g 0) 288 a0)]) (fun A => va_Qi (fun (r : Int32) (u : Unit) => (True)) (fun u t => RW D A ((fun _ : Unit => [(sw_9 h0 g b0 b5 b6 b7 b8 b9 b10 b11 b12 b13 b14 b17 b18 b19 b23 b24 b25 b26 b27 b29 b31 b32 b33), (sw_in cT (g 0) 288 a0)]) u) t) A) (by decide) (Nat.le_of_ble_eq_true rfl) ?_
  intro p e s m below meth c A hx hb hml hown htg hK hN hr hlk hnm hsz hP hD hS hA ls hl
  have hown : s.vm.findClass RX9 = some m.cls := hown
  have hl : lv_has ls 4 [(0, .ref h0), (1, .int x)] := hl
  have tc_0 : (0 : Int32).toInt = 0 := by decide
  refine lv_iconst (v := 0) hx hb dX9_sumOf_0 (by decide) ?_
  refine lv_istore_n (lv' := [(2, .int 0), (0, .ref h0), (1, .int x)]) hx hb dX9_sumOf_1 rfl hl (by decide) rfl (fun ls hl => ?_)
  refine lv_iconst (v := 0) hx hb dX9_sumOf_2 (by decide) ?_
  refine lv_istore_n (lv' := [(3, .int 0), (2, .int 0), (0, .ref h0), (1, .int x)]) hx hb dX9_sumOf_3 rfl hl (by decide) rfl (fun ls hl => ?_)
  refine (fun (key : ∀ (n9_4 : Nat) (k9_4 : Nat) (x9_4_2 : Int32) (H : Heap) (locs : List Loc) (ls : Array Slot), (k9_4 : Int) ≤ 16 → 16 < (k9_4 : Int) + n9_4 → PD D A [(sw_9 h0 g b0 b5 b6 b7 b8 b9 b10 b11 b12 b13 b14 b17 b18 b19 b23 b24 b25 b26 b27 b29 b31 b32 b33), (sw_in cT (g 0) 288 a0)] H → va_S A s.heap H locs → lv_has ls 4 [(3, .int (nI k9_4)), (2, .int x9_4_2), (0, .ref h0), (1, .int x)] → W p l e _ s m _ below meth c H locs _ _ _ (F0 m 4 ls [])) => key (Int.toNat (16 - 0) + 1) 0 _ _ _ _ (by omega) (by omega)  ⟨hP, hD⟩ hS (lv_sub hl [0, 1, 2, 3] rfl)) ?_
  intro n9_4
  induction n9_4 with
  | zero => intro k9_4 x9_4_2 H locs ls hq1 hq2; exact absurd hq2 (by omega)
  | succ n9_4 ih_4 =>
    intro k9_4 x9_4_2 H locs ls hq1_4 hq2_4  hPD hS hl
    obtain ⟨hP, hD⟩ := hPD
    have hk9_4 : (nI k9_4).toInt = (k9_4 : Int) := nI_toInt (by omega)
    refine lv_iload_n hx hb dX9_sumOf_4 rfl (lv_at hl 0 rfl) ?_
    refine lv_aload_n hx hb dX9_sumOf_5 rfl (lv_at hl 2 rfl) ?_
    refine va_get (D := D) (ci := 9) (v := .ref (g 0)) (C := RX9) (T := TX9) (N := 37) hx hb htg gRX9 hown hK hP 0 rfl rfl 1 (by decide) (htg _ wi_1151) (fun _ h9 => h9) rfl dX9_sumOf_6 ?_
    refine lv_iconst (v := 0) hx hb dX9_sumOf_9 (by decide) ?_
    refine va_iald hx hb hK hP 1 0 rfl rfl (by unfold vp_in; decide) dX9_sumOf_10 ?_
    refine lv_topi (fun z_1 ez_1 => ?_)
    have iz_1 : 0 ≤ z_1.toInt ∧ z_1.toInt ≤ 16 := by rw [ez_1]; exact rd0 pa0 (by decide) rfl
    have nz_1 : z_1.toInt = ((a0) 0).toInt := by rw [ez_1]; rfl
    refine lv_icmp_ge (tgt := 31) hx hb dX9_sumOf_11 (by decide) (fun c_2 => ?_) (fun c_2 => ?_)
    · have ic_2 : z_1.toInt ≤ ((k9_4 : Nat) : Int) := ile c_2 (rfl) (nI_toInt (by omega))
      refine lv_iload_n hx hb dX9_sumOf_31 rfl (lv_at hl 1 rfl) ?_
      exact x_iret hx hb hr hlk hP hD hS [0, 1] (()) rfl (by decide) trivial (by decide) (by decide) dX9_sumOf_32
    · have ic_2 : ((k9_4 : Nat) : Int) < z_1.toInt := inle c_2 (rfl) (nI_toInt (by omega))
      refine lv_iload_n hx hb dX9_sumOf_14 rfl (lv_at hl 1 rfl) ?_
      refine lv_aload_n hx hb dX9_sumOf_15 rfl (lv_at hl 2 rfl) ?_
      refine va_get (D := D) (ci := 9) (v := .ref (g 0)) (C := RX9) (T := TX9) (N := 37) hx hb htg gRX9 hown hK hP 0 rfl rfl 1 (by decide) (htg _ wi_1151) (fun _ h9 => h9) rfl dX9_sumOf_16 ?_
      refine lv_iload_n hx hb dX9_sumOf_19 rfl (lv_at hl 3 rfl) ?_
      refine lv_iload_n hx hb dX9_sumOf_20 rfl (lv_at hl 0 rfl) ?_
      refine lv_iadd hx hb dX9_sumOf_21 ?_
      refine lv_topi (fun z_3 ez_3 => ?_)
      have iz_3 : z_3.toInt = x.toInt + ((k9_4 : Nat) : Int) := toInt_addI ez_3 (rfl) (nI_toInt (by omega)) (by omega)
      refine va_iald hx hb hK hP 1 0 rfl rfl (vp_in_iff.mpr (by omega)) dX9_sumOf_22 ?_
      refine lv_topi (fun z_4 ez_4 => ?_)
      refine lv_iadd hx hb dX9_sumOf_23 ?_
      refine lv_topi (fun z_5 ez_5 => ?_)
      refine lv_istore_n (lv' := [(2, .int z_5), (3, .int (nI k9_4)), (0, .ref h0), (1, .int x)]) hx hb dX9_sumOf_24 rfl hl (by decide) rfl (fun ls hl => ?_)
      refine lv_iinc (v := (nI (k9_4 + 1))) (lv' := [(3, .int (nI (k9_4 + 1))), (2, .int z_5), (0, .ref h0), (1, .int x)]) hx hb dX9_sumOf_25 hl (k := 1) rfl (by exact nI_1 (k9_4)) (by decide) rfl (fun ls hl => ?_)
      refine lv_goto (tgt := 4) hx hb dX9_sumOf_28 (by decide) ?_
      exact ih_4 (k9_4 + 1) _ _ _ _ (by omega) (by omega)  ⟨hP.sub [0, 1] rfl, hD.sub [0, 1] (by decide) rfl⟩ hS (lv_sub hl [0, 1, 2, 3] rfl)
set_option maxHeartbeats 4000000 in
set_option maxRecDepth 100000 in
theorem m_count (l : Launch) (D : va_G) (cT : Nat → ClassId) (sz : Nat) (h0 : Nat) (g : Nat → Nat) (b0 : Int32) (b5 : Int32) (b6 : Int32) (b7 : Int32) (b8 : Int32) (b9 : Int32) (b10 : Int32) (b11 : Int32) (b12 : Int32) (b13 : Int32) (b14 : Int32) (b17 : Int32) (b18 : Int32) (b19 : Int32) (b23 : Int32) (b24 : Int32) (b25 : Int32) (b26 : Int32) (b27 : Int32) (b29 : Int32) (b31 : Int32) (b32 : Int32) (b33 : Int32) (hb5 : 0 ≤ b5.toInt ∧ b5.toInt ≤ 900) (a0 : Nat → Int32) (pa0 : PI 288 a0) (x : Int32) : Met l yX9_count (wsc yX9_count cX9_count 2 (some .int)) { frames := 3, cells := 0, slots := 0, locals := 125 } (va_Pc [.ref h0, .int x] (PX D cT sz [(sw_9 h0 g b0 b5 b6 b7 b8 b9 b10 b11 b12 b13 b14 b17 b18 b19 b23 b24 b25 b26 b27 b29 b31 b32 b33), (sw_in cT (g 0) 288 a0)])) (va_Qi (fun (r : Int32) (u : Int32) => (True)) (fun u t => RW D (va_A [(sw_9 h0 g b0 b5 b6 b7 b8 b9 b10 b11 b12 b13 b14 b17 b18 b19 b23 b24 b25 b26 b27 b29 b31 b32 b33), (sw_in cT (g 0) 288 a0)] sz) ((fun u : Int32 => [(sw_9 h0 g u b5 b6 b7 b8 b9 b10 b11 b12 b13 b14 b17 b18 b19 b23 b24 b25 b26 b27 b29 b31 b32 b33), (sw_in cT (g 0) 288 a0)]) u) t) (va_A [(sw_9 h0 g b0 b5 b6 b7 b8 b9 b10 b11 b12 b13 b14 b17 b18 b19 b23 b24 b25 b26 b27 b29 b31 b32 b33), (sw_in cT (g 0) 288 a0)] sz)) 0 0 (va_A [(sw_9 h0 g b0 b5 b6 b7 b8 b9 b10 b11 b12 b13 b14 b17 b18 b19 b23 b24 b25 b26 b27 b29 b31 b32 b33), (sw_in cT (g 0) 288 a0)] sz) := by
  refine m_of (y := yX9_count) (cc := cX9_count) (nL := 2) (ret := (some .int)) (D := D) (cT := cT) (av := [.ref h0, .int x]) (wi := [(sw_9 h0 g b0 b5 b6 b7 b8 b9 b10 b11 b12 b13 b14 b17 b18 b19 b23 b24 b25 b26 b27 b29 b31 b32 b33), (sw_in cT (g 0) 288 a0)]) (fun A => va_Qi (fun (r : Int32) (u : Int32) => (True)) (fun u t => RW D A ((fun u : Int32 => [(sw_9 h0 g u b5 b6 b7 b8 b9 b10 b11 b12 b13 b14 b17 b18 b19 b23 b24 b25 b26 b27 b29 b31 b32 b33), (sw_in cT (g 0) 288 a0)]) u) t) A) (by decide) (Nat.le_of_ble_eq_true rfl) ?_
  intro p e s m below meth c A hx hb hml hown htg hK hN hr hlk hnm hsz hP hD hS hA ls hl
  have hown : s.vm.findClass RX9 = some m.cls := hown
  have hl : lv_has ls 2 [(0, .ref h0), (1, .int x)] := hl
  have tc_m1 : ((-1) : Int32).toInt = (-1) := by decide
  have tc_0 : (0 : Int32).toInt = 0 := by decide
  have tc_2 : (2 : Int32).toInt = 2 := by decide
  have tc_9 : (9 : Int32).toInt = 9 := by decide
  have tc_16 : (16 : Int32).toInt = 16 := by decide
  have tc_80 : (80 : Int32).toInt = 80 := by decide
  refine lv_aload_n hx hb dX9_count_0 rfl (lv_at hl 0 rfl) ?_
  refine lv_iconst (v := 0) hx hb dX9_count_1 (by decide) ?_
  refine va_put (D := D) (ci := 9) (v := .int 0) (ty := .int) (C := RX9) (T := TX9) (N := 37) hx hb htg gRX9 tyX9 tyX9_ok nmX9 hown hK hP hD hS 0 rfl rfl 0 (by decide) (htg _ wi_1150) (fun _ h9 => h9) rfl (by decide +kernel) rfl rfl (Nat.le_of_ble_eq_true rfl) dX9_count_2 (fun H locs hP hD hS => ?_)
  obtain ⟨hP, hD⟩ : PD D A [(sw_9 h0 g 0 b5 b6 b7 b8 b9 b10 b11 b12 b13 b14 b17 b18 b19 b23 b24 b25 b26 b27 b29 b31 b32 b33), (sw_in cT (g 0) 288 a0)] _ := ⟨hP, hD⟩
  refine lv_iload_n hx hb dX9_count_5 rfl (lv_at hl 1 rfl) ?_
  have c_1 : (x.toInt < 2 ∨ 12 < x.toInt) ∨ x = 2 ∨ x = 3 ∨ x = 4 ∨ x = 5 ∨ x = 6 ∨ x = 7 ∨ x = 8 ∨ x = 9 ∨ x = 10 ∨ x = 11 ∨ x = 12 := by
    rcases (show (x.toInt < 2 ∨ 12 < x.toInt) ∨ x.toInt = 2 ∨ x.toInt = 3 ∨ x.toInt = 4 ∨ x.toInt = 5 ∨ x.toInt = 6 ∨ x.toInt = 7 ∨ x.toInt = 8 ∨ x.toInt = 9 ∨ x.toInt = 10 ∨ x.toInt = 11 ∨ x.toInt = 12 from by omega) with h | h | h | h | h | h | h | h | h | h | h | h
    · exact Or.inl h
    · exact Or.inr (Or.inl (i32_is (h.trans (by decide))))
    · exact Or.inr (Or.inr (Or.inl (i32_is (h.trans (by decide)))))
    · exact Or.inr (Or.inr (Or.inr (Or.inl (i32_is (h.trans (by decide))))))
    · exact Or.inr (Or.inr (Or.inr (Or.inr (Or.inl (i32_is (h.trans (by decide)))))))
    · exact Or.inr (Or.inr (Or.inr (Or.inr (Or.inr (Or.inl (i32_is (h.trans (by decide))))))))
    · exact Or.inr (Or.inr (Or.inr (Or.inr (Or.inr (Or.inr (Or.inl (i32_is (h.trans (by decide)))))))))
    · exact Or.inr (Or.inr (Or.inr (Or.inr (Or.inr (Or.inr (Or.inr (Or.inl (i32_is (h.trans (by decide))))))))))
    · exact Or.inr (Or.inr (Or.inr (Or.inr (Or.inr (Or.inr (Or.inr (Or.inr (Or.inl (i32_is (h.trans (by decide)))))))))))
    · exact Or.inr (Or.inr (Or.inr (Or.inr (Or.inr (Or.inr (Or.inr (Or.inr (Or.inr (Or.inl (i32_is (h.trans (by decide))))))))))))
    · exact Or.inr (Or.inr (Or.inr (Or.inr (Or.inr (Or.inr (Or.inr (Or.inr (Or.inr (Or.inr (Or.inl (i32_is (h.trans (by decide)))))))))))))
    · exact Or.inr (Or.inr (Or.inr (Or.inr (Or.inr (Or.inr (Or.inr (Or.inr (Or.inr (Or.inr (Or.inr (i32_is (h.trans (by decide)))))))))))))
  rcases c_1 with c_1 | c_1 | c_1 | c_1 | c_1 | c_1 | c_1 | c_1 | c_1 | c_1 | c_1 | c_1
  · refine lv_tableOut (tgt := 111) hx hb dX9_count_6 c_1 (by decide) ?_
    refine lv_iload_n hx hb dX9_count_111 rfl (lv_at hl 1 rfl) ?_
    refine lv_i2l (v := x.toInt64) hx hb dX9_count_112 rfl ?_
    refine lv_lconst (v := 0) hx hb dX9_count_113 (by decide) ?_
    refine lv_ldc2 (v := 8) hx hb hown (htg _ wi_1477) dX9_count_114 ?_
    have ilw_2 : (x.toInt64).toInt = x.toInt := i2l_i _
    refine xk_i (wr := [(sw_9 h0 g 0 b5 b6 b7 b8 b9 b10 b11 b12 b13 b14 b17 b18 b19 b23 b24 b25 b26 b27 b29 b31 b32 b33), (sw_in cT (g 0) 288 a0)]) (xr_S (n := 3) (As := [.long x.toInt64, .long 0, .long 8]) (rest := []) ⟨hx, hb, hml, hown, htg⟩ hK hN hP hD hS hA [] rfl (by decide) (m_within l D cT _ (x.toInt64) (0) (8) (x.toInt) (0) (8) (i2l_i _) (by decide) (by decide)) wi_1270 wi_1271 wi_131 wi_1272 ⟨rfl, by decide +kernel⟩ ⟨Nat.le_of_ble_eq_true rfl, Nat.le_of_ble_eq_true rfl⟩ rfl hl.1 rfl (Nat.le_of_ble_eq_true rfl) dX9_count_117 ⟨Nat.le_of_ble_eq_true rfl, Nat.le_of_ble_eq_true rfl⟩) hP hD hS hA [] [0, 1] rfl rfl (by decide) (by decide) (fun r_4 u_3 H locs hwr_4 hP hD hS => ?_)
    obtain ⟨hP, hD⟩ : PD D A [(sw_9 h0 g 0 b5 b6 b7 b8 b9 b10 b11 b12 b13 b14 b17 b18 b19 b23 b24 b25 b26 b27 b29 b31 b32 b33), (sw_in cT (g 0) 288 a0)] _ := ⟨hP, hD⟩
    have qr_4_0 : Imp (¬ r_4.toInt = 0) (0 ≤ x.toInt ∧ x.toInt ≤ 8) := hwr_4.1
    have qr_4_1 : r_4 = 0 ∨ r_4 = 1 := hwr_4.2.1
    refine lv_if_eq (tgt := 132) hx hb dX9_count_120 (by decide) (fun c_5 => ?_) (fun c_5 => ?_)
    · have ic_5 : r_4.toInt = 0 := ieq c_5 (rfl) (by decide)
      refine lv_iconst (v := (-1)) hx hb dX9_count_132 (by decide) ?_
      exact x_iret hx hb hr hlk hP hD hS [0, 1] ((0)) rfl (by decide) trivial (by decide) (by decide) dX9_count_133
    · have ic_5 : ¬ r_4.toInt = 0 := ine c_5 (rfl) (by decide)
      have kqr_4_0 : 0 ≤ x.toInt ∧ x.toInt ≤ 8 := qr_4_0 ic_5
      refine lv_aload_n hx hb dX9_count_123 rfl (lv_at hl 0 rfl) ?_
      refine va_get (D := D) (ci := 9) (v := .ref (g 0)) (C := RX9) (T := TX9) (N := 37) hx hb htg gRX9 hown hK hP 0 rfl rfl 1 (by decide) (htg _ wi_1151) (fun _ h9 => h9) rfl dX9_count_124 ?_
      refine lv_iload_n hx hb dX9_count_127 rfl (lv_at hl 1 rfl) ?_
      refine va_iald hx hb hK hP 1 0 rfl rfl (vp_in_iff.mpr (by omega)) dX9_count_128 ?_
      refine lv_topi (fun z_6 ez_6 => ?_)
      refine lv_goto (tgt := 133) hx hb dX9_count_129 (by decide) ?_
      exact x_iret hx hb hr hlk hP hD hS [0, 1] ((0)) rfl (by decide) trivial (by decide) (by decide) dX9_count_133
  · have ic_1 : x.toInt = 2 := ieq c_1 rfl (by decide)
    refine lv_is (y := 2) c_1 ?_
    refine lv_tableIn (off := 85) (tgt := 91) hx hb dX9_count_6 (by decide) (by decide) (by decide) (by decide) ?_
    refine lv_aload_n hx hb dX9_count_91 rfl (lv_at hl 0 rfl) ?_
    refine va_get (D := D) (ci := 9) (v := .ref (g 0)) (C := RX9) (T := TX9) (N := 37) hx hb htg gRX9 hown hK hP 0 rfl rfl 1 (by decide) (htg _ wi_1151) (fun _ h9 => h9) rfl dX9_count_92 ?_
    refine lv_iconst (v := 0) hx hb dX9_count_95 (by decide) ?_
    refine va_iald hx hb hK hP 1 0 rfl rfl (by unfold vp_in; decide) dX9_count_96 ?_
    refine lv_topi (fun z_7 ez_7 => ?_)
    have iz_7 : 0 ≤ z_7.toInt ∧ z_7.toInt ≤ 16 := by rw [ez_7]; exact rd0 pa0 (by decide) rfl
    have nz_7 : z_7.toInt = ((a0) 0).toInt := by rw [ez_7]; rfl
    refine lv_if_ne (tgt := 104) hx hb dX9_count_97 (by decide) (fun c_8 => ?_) (fun c_8 => ?_)
    · have ic_8 : ¬ z_7.toInt = 0 := ine c_8 (rfl) (by decide)
      refine lv_aload_n hx hb dX9_count_104 rfl (lv_at hl 0 rfl) ?_
      refine va_get (D := D) (ci := 9) (v := .ref (g 0)) (C := RX9) (T := TX9) (N := 37) hx hb htg gRX9 hown hK hP 0 rfl rfl 1 (by decide) (htg _ wi_1151) (fun _ h9 => h9) rfl dX9_count_105 ?_
      refine lv_iconst (v := 2) hx hb dX9_count_108 (by decide) ?_
      refine va_iald hx hb hK hP 1 0 rfl rfl (by unfold vp_in; decide) dX9_count_109 ?_
      refine lv_topi (fun z_9 ez_9 => ?_)
      have iz_9 : 0 ≤ z_9.toInt ∧ z_9.toInt ≤ 15 := by rw [ez_9]; exact rd2 pa0 (by decide) rfl
      have nz_9 : z_9.toInt = ((a0) 2).toInt := by rw [ez_9]; rfl
      exact x_iret hx hb hr hlk hP hD hS [0, 1] ((0)) rfl (by decide) trivial (by decide) (by decide) dX9_count_110
    · have ic_8 : z_7.toInt = 0 := ieq c_8 (rfl) (by decide)
      refine lv_iconst (v := (-1)) hx hb dX9_count_100 (by decide) ?_
      refine lv_goto (tgt := 110) hx hb dX9_count_101 (by decide) ?_
      exact x_iret hx hb hr hlk hP hD hS [0, 1] ((0)) rfl (by decide) trivial (by decide) (by decide) dX9_count_110
  · have ic_1 : x.toInt = 3 := ieq c_1 rfl (by decide)
    refine lv_is (y := 3) c_1 ?_
    refine lv_tableIn (off := 105) (tgt := 111) hx hb dX9_count_6 (by decide) (by decide) (by decide) (by decide) ?_
    refine lv_iload_n hx hb dX9_count_111 rfl (lv_at hl 1 rfl) ?_
    refine lv_i2l (v := x.toInt64) hx hb dX9_count_112 rfl ?_
    refine lv_lconst (v := 0) hx hb dX9_count_113 (by decide) ?_
    refine lv_ldc2 (v := 8) hx hb hown (htg _ wi_1477) dX9_count_114 ?_
    have ilw_10 : (x.toInt64).toInt = x.toInt := i2l_i _
    refine xk_i (wr := [(sw_9 h0 g 0 b5 b6 b7 b8 b9 b10 b11 b12 b13 b14 b17 b18 b19 b23 b24 b25 b26 b27 b29 b31 b32 b33), (sw_in cT (g 0) 288 a0)]) (xr_S (n := 3) (As := [.long x.toInt64, .long 0, .long 8]) (rest := []) ⟨hx, hb, hml, hown, htg⟩ hK hN hP hD hS hA [] rfl (by decide) (m_within l D cT _ (x.toInt64) (0) (8) (x.toInt) (0) (8) (i2l_i _) (by decide) (by decide)) wi_1270 wi_1271 wi_131 wi_1272 ⟨rfl, by decide +kernel⟩ ⟨Nat.le_of_ble_eq_true rfl, Nat.le_of_ble_eq_true rfl⟩ rfl hl.1 rfl (Nat.le_of_ble_eq_true rfl) dX9_count_117 ⟨Nat.le_of_ble_eq_true rfl, Nat.le_of_ble_eq_true rfl⟩) hP hD hS hA [] [0, 1] rfl rfl (by decide) (by decide) (fun r_12 u_11 H locs hwr_12 hP hD hS => ?_)
    obtain ⟨hP, hD⟩ : PD D A [(sw_9 h0 g 0 b5 b6 b7 b8 b9 b10 b11 b12 b13 b14 b17 b18 b19 b23 b24 b25 b26 b27 b29 b31 b32 b33), (sw_in cT (g 0) 288 a0)] _ := ⟨hP, hD⟩
    have qr_12_0 : Imp (¬ r_12.toInt = 0) (0 ≤ x.toInt ∧ x.toInt ≤ 8) := hwr_12.1
    have qr_12_1 : r_12 = 0 ∨ r_12 = 1 := hwr_12.2.1
    refine lv_if_eq (tgt := 132) hx hb dX9_count_120 (by decide) (fun c_13 => ?_) (fun c_13 => ?_)
    · have ic_13 : r_12.toInt = 0 := ieq c_13 (rfl) (by decide)
      refine lv_iconst (v := (-1)) hx hb dX9_count_132 (by decide) ?_
      exact x_iret hx hb hr hlk hP hD hS [0, 1] ((0)) rfl (by decide) trivial (by decide) (by decide) dX9_count_133
    · have ic_13 : ¬ r_12.toInt = 0 := ine c_13 (rfl) (by decide)
      have kqr_12_0 : 0 ≤ x.toInt ∧ x.toInt ≤ 8 := qr_12_0 ic_13
      refine lv_aload_n hx hb dX9_count_123 rfl (lv_at hl 0 rfl) ?_
      refine va_get (D := D) (ci := 9) (v := .ref (g 0)) (C := RX9) (T := TX9) (N := 37) hx hb htg gRX9 hown hK hP 0 rfl rfl 1 (by decide) (htg _ wi_1151) (fun _ h9 => h9) rfl dX9_count_124 ?_
      refine lv_iload_n hx hb dX9_count_127 rfl (lv_at hl 1 rfl) ?_
      refine va_iald hx hb hK hP 1 0 rfl rfl (vp_in_iff.mpr (by omega)) dX9_count_128 ?_
      refine lv_topi (fun z_14 ez_14 => ?_)
      refine lv_goto (tgt := 133) hx hb dX9_count_129 (by decide) ?_
      exact x_iret hx hb hr hlk hP hD hS [0, 1] ((0)) rfl (by decide) trivial (by decide) (by decide) dX9_count_133
  · have ic_1 : x.toInt = 4 := ieq c_1 rfl (by decide)
    refine lv_is (y := 4) c_1 ?_
    refine lv_tableIn (off := 105) (tgt := 111) hx hb dX9_count_6 (by decide) (by decide) (by decide) (by decide) ?_
    refine lv_iload_n hx hb dX9_count_111 rfl (lv_at hl 1 rfl) ?_
    refine lv_i2l (v := x.toInt64) hx hb dX9_count_112 rfl ?_
    refine lv_lconst (v := 0) hx hb dX9_count_113 (by decide) ?_
    refine lv_ldc2 (v := 8) hx hb hown (htg _ wi_1477) dX9_count_114 ?_
    have ilw_15 : (x.toInt64).toInt = x.toInt := i2l_i _
    refine xk_i (wr := [(sw_9 h0 g 0 b5 b6 b7 b8 b9 b10 b11 b12 b13 b14 b17 b18 b19 b23 b24 b25 b26 b27 b29 b31 b32 b33), (sw_in cT (g 0) 288 a0)]) (xr_S (n := 3) (As := [.long x.toInt64, .long 0, .long 8]) (rest := []) ⟨hx, hb, hml, hown, htg⟩ hK hN hP hD hS hA [] rfl (by decide) (m_within l D cT _ (x.toInt64) (0) (8) (x.toInt) (0) (8) (i2l_i _) (by decide) (by decide)) wi_1270 wi_1271 wi_131 wi_1272 ⟨rfl, by decide +kernel⟩ ⟨Nat.le_of_ble_eq_true rfl, Nat.le_of_ble_eq_true rfl⟩ rfl hl.1 rfl (Nat.le_of_ble_eq_true rfl) dX9_count_117 ⟨Nat.le_of_ble_eq_true rfl, Nat.le_of_ble_eq_true rfl⟩) hP hD hS hA [] [0, 1] rfl rfl (by decide) (by decide) (fun r_17 u_16 H locs hwr_17 hP hD hS => ?_)
    obtain ⟨hP, hD⟩ : PD D A [(sw_9 h0 g 0 b5 b6 b7 b8 b9 b10 b11 b12 b13 b14 b17 b18 b19 b23 b24 b25 b26 b27 b29 b31 b32 b33), (sw_in cT (g 0) 288 a0)] _ := ⟨hP, hD⟩
    have qr_17_0 : Imp (¬ r_17.toInt = 0) (0 ≤ x.toInt ∧ x.toInt ≤ 8) := hwr_17.1
    have qr_17_1 : r_17 = 0 ∨ r_17 = 1 := hwr_17.2.1
    refine lv_if_eq (tgt := 132) hx hb dX9_count_120 (by decide) (fun c_18 => ?_) (fun c_18 => ?_)
    · have ic_18 : r_17.toInt = 0 := ieq c_18 (rfl) (by decide)
      refine lv_iconst (v := (-1)) hx hb dX9_count_132 (by decide) ?_
      exact x_iret hx hb hr hlk hP hD hS [0, 1] ((0)) rfl (by decide) trivial (by decide) (by decide) dX9_count_133
    · have ic_18 : ¬ r_17.toInt = 0 := ine c_18 (rfl) (by decide)
      have kqr_17_0 : 0 ≤ x.toInt ∧ x.toInt ≤ 8 := qr_17_0 ic_18
      refine lv_aload_n hx hb dX9_count_123 rfl (lv_at hl 0 rfl) ?_
      refine va_get (D := D) (ci := 9) (v := .ref (g 0)) (C := RX9) (T := TX9) (N := 37) hx hb htg gRX9 hown hK hP 0 rfl rfl 1 (by decide) (htg _ wi_1151) (fun _ h9 => h9) rfl dX9_count_124 ?_
      refine lv_iload_n hx hb dX9_count_127 rfl (lv_at hl 1 rfl) ?_
      refine va_iald hx hb hK hP 1 0 rfl rfl (vp_in_iff.mpr (by omega)) dX9_count_128 ?_
      refine lv_topi (fun z_19 ez_19 => ?_)
      refine lv_goto (tgt := 133) hx hb dX9_count_129 (by decide) ?_
      exact x_iret hx hb hr hlk hP hD hS [0, 1] ((0)) rfl (by decide) trivial (by decide) (by decide) dX9_count_133
  · have ic_1 : x.toInt = 5 := ieq c_1 rfl (by decide)
    refine lv_is (y := 5) c_1 ?_
    refine lv_tableIn (off := 105) (tgt := 111) hx hb dX9_count_6 (by decide) (by decide) (by decide) (by decide) ?_
    refine lv_iload_n hx hb dX9_count_111 rfl (lv_at hl 1 rfl) ?_
    refine lv_i2l (v := x.toInt64) hx hb dX9_count_112 rfl ?_
    refine lv_lconst (v := 0) hx hb dX9_count_113 (by decide) ?_
    refine lv_ldc2 (v := 8) hx hb hown (htg _ wi_1477) dX9_count_114 ?_
    have ilw_20 : (x.toInt64).toInt = x.toInt := i2l_i _
    refine xk_i (wr := [(sw_9 h0 g 0 b5 b6 b7 b8 b9 b10 b11 b12 b13 b14 b17 b18 b19 b23 b24 b25 b26 b27 b29 b31 b32 b33), (sw_in cT (g 0) 288 a0)]) (xr_S (n := 3) (As := [.long x.toInt64, .long 0, .long 8]) (rest := []) ⟨hx, hb, hml, hown, htg⟩ hK hN hP hD hS hA [] rfl (by decide) (m_within l D cT _ (x.toInt64) (0) (8) (x.toInt) (0) (8) (i2l_i _) (by decide) (by decide)) wi_1270 wi_1271 wi_131 wi_1272 ⟨rfl, by decide +kernel⟩ ⟨Nat.le_of_ble_eq_true rfl, Nat.le_of_ble_eq_true rfl⟩ rfl hl.1 rfl (Nat.le_of_ble_eq_true rfl) dX9_count_117 ⟨Nat.le_of_ble_eq_true rfl, Nat.le_of_ble_eq_true rfl⟩) hP hD hS hA [] [0, 1] rfl rfl (by decide) (by decide) (fun r_22 u_21 H locs hwr_22 hP hD hS => ?_)
    obtain ⟨hP, hD⟩ : PD D A [(sw_9 h0 g 0 b5 b6 b7 b8 b9 b10 b11 b12 b13 b14 b17 b18 b19 b23 b24 b25 b26 b27 b29 b31 b32 b33), (sw_in cT (g 0) 288 a0)] _ := ⟨hP, hD⟩
    have qr_22_0 : Imp (¬ r_22.toInt = 0) (0 ≤ x.toInt ∧ x.toInt ≤ 8) := hwr_22.1
    have qr_22_1 : r_22 = 0 ∨ r_22 = 1 := hwr_22.2.1
    refine lv_if_eq (tgt := 132) hx hb dX9_count_120 (by decide) (fun c_23 => ?_) (fun c_23 => ?_)
    · have ic_23 : r_22.toInt = 0 := ieq c_23 (rfl) (by decide)
      refine lv_iconst (v := (-1)) hx hb dX9_count_132 (by decide) ?_
      exact x_iret hx hb hr hlk hP hD hS [0, 1] ((0)) rfl (by decide) trivial (by decide) (by decide) dX9_count_133
    · have ic_23 : ¬ r_22.toInt = 0 := ine c_23 (rfl) (by decide)
      have kqr_22_0 : 0 ≤ x.toInt ∧ x.toInt ≤ 8 := qr_22_0 ic_23
      refine lv_aload_n hx hb dX9_count_123 rfl (lv_at hl 0 rfl) ?_
      refine va_get (D := D) (ci := 9) (v := .ref (g 0)) (C := RX9) (T := TX9) (N := 37) hx hb htg gRX9 hown hK hP 0 rfl rfl 1 (by decide) (htg _ wi_1151) (fun _ h9 => h9) rfl dX9_count_124 ?_
      refine lv_iload_n hx hb dX9_count_127 rfl (lv_at hl 1 rfl) ?_
      refine va_iald hx hb hK hP 1 0 rfl rfl (vp_in_iff.mpr (by omega)) dX9_count_128 ?_
      refine lv_topi (fun z_24 ez_24 => ?_)
      refine lv_goto (tgt := 133) hx hb dX9_count_129 (by decide) ?_
      exact x_iret hx hb hr hlk hP hD hS [0, 1] ((0)) rfl (by decide) trivial (by decide) (by decide) dX9_count_133
  · have ic_1 : x.toInt = 6 := ieq c_1 rfl (by decide)
    refine lv_is (y := 6) c_1 ?_
    refine lv_tableIn (off := 105) (tgt := 111) hx hb dX9_count_6 (by decide) (by decide) (by decide) (by decide) ?_
    refine lv_iload_n hx hb dX9_count_111 rfl (lv_at hl 1 rfl) ?_
    refine lv_i2l (v := x.toInt64) hx hb dX9_count_112 rfl ?_
    refine lv_lconst (v := 0) hx hb dX9_count_113 (by decide) ?_
    refine lv_ldc2 (v := 8) hx hb hown (htg _ wi_1477) dX9_count_114 ?_
    have ilw_25 : (x.toInt64).toInt = x.toInt := i2l_i _
    refine xk_i (wr := [(sw_9 h0 g 0 b5 b6 b7 b8 b9 b10 b11 b12 b13 b14 b17 b18 b19 b23 b24 b25 b26 b27 b29 b31 b32 b33), (sw_in cT (g 0) 288 a0)]) (xr_S (n := 3) (As := [.long x.toInt64, .long 0, .long 8]) (rest := []) ⟨hx, hb, hml, hown, htg⟩ hK hN hP hD hS hA [] rfl (by decide) (m_within l D cT _ (x.toInt64) (0) (8) (x.toInt) (0) (8) (i2l_i _) (by decide) (by decide)) wi_1270 wi_1271 wi_131 wi_1272 ⟨rfl, by decide +kernel⟩ ⟨Nat.le_of_ble_eq_true rfl, Nat.le_of_ble_eq_true rfl⟩ rfl hl.1 rfl (Nat.le_of_ble_eq_true rfl) dX9_count_117 ⟨Nat.le_of_ble_eq_true rfl, Nat.le_of_ble_eq_true rfl⟩) hP hD hS hA [] [0, 1] rfl rfl (by decide) (by decide) (fun r_27 u_26 H locs hwr_27 hP hD hS => ?_)
    obtain ⟨hP, hD⟩ : PD D A [(sw_9 h0 g 0 b5 b6 b7 b8 b9 b10 b11 b12 b13 b14 b17 b18 b19 b23 b24 b25 b26 b27 b29 b31 b32 b33), (sw_in cT (g 0) 288 a0)] _ := ⟨hP, hD⟩
    have qr_27_0 : Imp (¬ r_27.toInt = 0) (0 ≤ x.toInt ∧ x.toInt ≤ 8) := hwr_27.1
    have qr_27_1 : r_27 = 0 ∨ r_27 = 1 := hwr_27.2.1
    refine lv_if_eq (tgt := 132) hx hb dX9_count_120 (by decide) (fun c_28 => ?_) (fun c_28 => ?_)
    · have ic_28 : r_27.toInt = 0 := ieq c_28 (rfl) (by decide)
      refine lv_iconst (v := (-1)) hx hb dX9_count_132 (by decide) ?_
      exact x_iret hx hb hr hlk hP hD hS [0, 1] ((0)) rfl (by decide) trivial (by decide) (by decide) dX9_count_133
    · have ic_28 : ¬ r_27.toInt = 0 := ine c_28 (rfl) (by decide)
      have kqr_27_0 : 0 ≤ x.toInt ∧ x.toInt ≤ 8 := qr_27_0 ic_28
      refine lv_aload_n hx hb dX9_count_123 rfl (lv_at hl 0 rfl) ?_
      refine va_get (D := D) (ci := 9) (v := .ref (g 0)) (C := RX9) (T := TX9) (N := 37) hx hb htg gRX9 hown hK hP 0 rfl rfl 1 (by decide) (htg _ wi_1151) (fun _ h9 => h9) rfl dX9_count_124 ?_
      refine lv_iload_n hx hb dX9_count_127 rfl (lv_at hl 1 rfl) ?_
      refine va_iald hx hb hK hP 1 0 rfl rfl (vp_in_iff.mpr (by omega)) dX9_count_128 ?_
      refine lv_topi (fun z_29 ez_29 => ?_)
      refine lv_goto (tgt := 133) hx hb dX9_count_129 (by decide) ?_
      exact x_iret hx hb hr hlk hP hD hS [0, 1] ((0)) rfl (by decide) trivial (by decide) (by decide) dX9_count_133
  · have ic_1 : x.toInt = 7 := ieq c_1 rfl (by decide)
    refine lv_is (y := 7) c_1 ?_
    refine lv_tableIn (off := 105) (tgt := 111) hx hb dX9_count_6 (by decide) (by decide) (by decide) (by decide) ?_
    refine lv_iload_n hx hb dX9_count_111 rfl (lv_at hl 1 rfl) ?_
    refine lv_i2l (v := x.toInt64) hx hb dX9_count_112 rfl ?_
    refine lv_lconst (v := 0) hx hb dX9_count_113 (by decide) ?_
    refine lv_ldc2 (v := 8) hx hb hown (htg _ wi_1477) dX9_count_114 ?_
    have ilw_30 : (x.toInt64).toInt = x.toInt := i2l_i _
    refine xk_i (wr := [(sw_9 h0 g 0 b5 b6 b7 b8 b9 b10 b11 b12 b13 b14 b17 b18 b19 b23 b24 b25 b26 b27 b29 b31 b32 b33), (sw_in cT (g 0) 288 a0)]) (xr_S (n := 3) (As := [.long x.toInt64, .long 0, .long 8]) (rest := []) ⟨hx, hb, hml, hown, htg⟩ hK hN hP hD hS hA [] rfl (by decide) (m_within l D cT _ (x.toInt64) (0) (8) (x.toInt) (0) (8) (i2l_i _) (by decide) (by decide)) wi_1270 wi_1271 wi_131 wi_1272 ⟨rfl, by decide +kernel⟩ ⟨Nat.le_of_ble_eq_true rfl, Nat.le_of_ble_eq_true rfl⟩ rfl hl.1 rfl (Nat.le_of_ble_eq_true rfl) dX9_count_117 ⟨Nat.le_of_ble_eq_true rfl, Nat.le_of_ble_eq_true rfl⟩) hP hD hS hA [] [0, 1] rfl rfl (by decide) (by decide) (fun r_32 u_31 H locs hwr_32 hP hD hS => ?_)
    obtain ⟨hP, hD⟩ : PD D A [(sw_9 h0 g 0 b5 b6 b7 b8 b9 b10 b11 b12 b13 b14 b17 b18 b19 b23 b24 b25 b26 b27 b29 b31 b32 b33), (sw_in cT (g 0) 288 a0)] _ := ⟨hP, hD⟩
    have qr_32_0 : Imp (¬ r_32.toInt = 0) (0 ≤ x.toInt ∧ x.toInt ≤ 8) := hwr_32.1
    have qr_32_1 : r_32 = 0 ∨ r_32 = 1 := hwr_32.2.1
    refine lv_if_eq (tgt := 132) hx hb dX9_count_120 (by decide) (fun c_33 => ?_) (fun c_33 => ?_)
    · have ic_33 : r_32.toInt = 0 := ieq c_33 (rfl) (by decide)
      refine lv_iconst (v := (-1)) hx hb dX9_count_132 (by decide) ?_
      exact x_iret hx hb hr hlk hP hD hS [0, 1] ((0)) rfl (by decide) trivial (by decide) (by decide) dX9_count_133
    · have ic_33 : ¬ r_32.toInt = 0 := ine c_33 (rfl) (by decide)
      have kqr_32_0 : 0 ≤ x.toInt ∧ x.toInt ≤ 8 := qr_32_0 ic_33
      refine lv_aload_n hx hb dX9_count_123 rfl (lv_at hl 0 rfl) ?_
      refine va_get (D := D) (ci := 9) (v := .ref (g 0)) (C := RX9) (T := TX9) (N := 37) hx hb htg gRX9 hown hK hP 0 rfl rfl 1 (by decide) (htg _ wi_1151) (fun _ h9 => h9) rfl dX9_count_124 ?_
      refine lv_iload_n hx hb dX9_count_127 rfl (lv_at hl 1 rfl) ?_
      refine va_iald hx hb hK hP 1 0 rfl rfl (vp_in_iff.mpr (by omega)) dX9_count_128 ?_
      refine lv_topi (fun z_34 ez_34 => ?_)
      refine lv_goto (tgt := 133) hx hb dX9_count_129 (by decide) ?_
      exact x_iret hx hb hr hlk hP hD hS [0, 1] ((0)) rfl (by decide) trivial (by decide) (by decide) dX9_count_133
  · have ic_1 : x.toInt = 8 := ieq c_1 rfl (by decide)
    refine lv_is (y := 8) c_1 ?_
    refine lv_tableIn (off := 105) (tgt := 111) hx hb dX9_count_6 (by decide) (by decide) (by decide) (by decide) ?_
    refine lv_iload_n hx hb dX9_count_111 rfl (lv_at hl 1 rfl) ?_
    refine lv_i2l (v := x.toInt64) hx hb dX9_count_112 rfl ?_
    refine lv_lconst (v := 0) hx hb dX9_count_113 (by decide) ?_
    refine lv_ldc2 (v := 8) hx hb hown (htg _ wi_1477) dX9_count_114 ?_
    have ilw_35 : (x.toInt64).toInt = x.toInt := i2l_i _
    refine xk_i (wr := [(sw_9 h0 g 0 b5 b6 b7 b8 b9 b10 b11 b12 b13 b14 b17 b18 b19 b23 b24 b25 b26 b27 b29 b31 b32 b33), (sw_in cT (g 0) 288 a0)]) (xr_S (n := 3) (As := [.long x.toInt64, .long 0, .long 8]) (rest := []) ⟨hx, hb, hml, hown, htg⟩ hK hN hP hD hS hA [] rfl (by decide) (m_within l D cT _ (x.toInt64) (0) (8) (x.toInt) (0) (8) (i2l_i _) (by decide) (by decide)) wi_1270 wi_1271 wi_131 wi_1272 ⟨rfl, by decide +kernel⟩ ⟨Nat.le_of_ble_eq_true rfl, Nat.le_of_ble_eq_true rfl⟩ rfl hl.1 rfl (Nat.le_of_ble_eq_true rfl) dX9_count_117 ⟨Nat.le_of_ble_eq_true rfl, Nat.le_of_ble_eq_true rfl⟩) hP hD hS hA [] [0, 1] rfl rfl (by decide) (by decide) (fun r_37 u_36 H locs hwr_37 hP hD hS => ?_)
    obtain ⟨hP, hD⟩ : PD D A [(sw_9 h0 g 0 b5 b6 b7 b8 b9 b10 b11 b12 b13 b14 b17 b18 b19 b23 b24 b25 b26 b27 b29 b31 b32 b33), (sw_in cT (g 0) 288 a0)] _ := ⟨hP, hD⟩
    have qr_37_0 : Imp (¬ r_37.toInt = 0) (0 ≤ x.toInt ∧ x.toInt ≤ 8) := hwr_37.1
    have qr_37_1 : r_37 = 0 ∨ r_37 = 1 := hwr_37.2.1
    refine lv_if_eq (tgt := 132) hx hb dX9_count_120 (by decide) (fun c_38 => ?_) (fun c_38 => ?_)
    · have ic_38 : r_37.toInt = 0 := ieq c_38 (rfl) (by decide)
      refine lv_iconst (v := (-1)) hx hb dX9_count_132 (by decide) ?_
      exact x_iret hx hb hr hlk hP hD hS [0, 1] ((0)) rfl (by decide) trivial (by decide) (by decide) dX9_count_133
    · have ic_38 : ¬ r_37.toInt = 0 := ine c_38 (rfl) (by decide)
      have kqr_37_0 : 0 ≤ x.toInt ∧ x.toInt ≤ 8 := qr_37_0 ic_38
      refine lv_aload_n hx hb dX9_count_123 rfl (lv_at hl 0 rfl) ?_
      refine va_get (D := D) (ci := 9) (v := .ref (g 0)) (C := RX9) (T := TX9) (N := 37) hx hb htg gRX9 hown hK hP 0 rfl rfl 1 (by decide) (htg _ wi_1151) (fun _ h9 => h9) rfl dX9_count_124 ?_
      refine lv_iload_n hx hb dX9_count_127 rfl (lv_at hl 1 rfl) ?_
      refine va_iald hx hb hK hP 1 0 rfl rfl (vp_in_iff.mpr (by omega)) dX9_count_128 ?_
      refine lv_topi (fun z_39 ez_39 => ?_)
      refine lv_goto (tgt := 133) hx hb dX9_count_129 (by decide) ?_
      exact x_iret hx hb hr hlk hP hD hS [0, 1] ((0)) rfl (by decide) trivial (by decide) (by decide) dX9_count_133
  · have ic_1 : x.toInt = 9 := ieq c_1 rfl (by decide)
    refine lv_is (y := 9) c_1 ?_
    refine lv_tableIn (off := 58) (tgt := 64) hx hb dX9_count_6 (by decide) (by decide) (by decide) (by decide) ?_
    refine lv_aload_n hx hb dX9_count_64 rfl (lv_at hl 0 rfl) ?_
    refine lv_bipush (v := 16) hx hb dX9_count_65 (by decide) ?_
    refine xk_i (wr := []) (xr_V (n := 1) (As := [.int 16]) (rest := []) ⟨hx, hb, hml, hown, htg⟩ hK hN hP hD hS hA [0, 1] rfl (by decide) (m_sumOf l D cT _ (h0) (g) (0) (b5) (b6) (b7) (b8) (b9) (b10) (b11) (b12) (b13) (b14) (b17) (b18) (b19) (b23) (b24) (b25) (b26) (b27) (b29) (b31) (b32) (b33) (by first | assumption | omega | decide | exact Or.inl (by decide) | (intro h9; exact absurd h9 (by decide)) | (intro _; omega) | (intro _; assumption) | (intro _; decide)) (a0) (by first | assumption | omega | decide | exact Or.inl (by decide) | (intro h9; exact absurd h9 (by decide)) | (intro _; omega) | (intro _; assumption) | (intro _; decide)) (16) (by first | assumption | omega | decide | exact Or.inl (by decide) | (intro h9; exact absurd h9 (by decide)) | (intro _; omega) | (intro _; assumption) | (intro _; decide))) wi_1626 wi_1628 wi_119 wi_131 wi_1629 rfl rfl rfl ⟨rfl, by decide +kernel⟩ ⟨Nat.le_of_ble_eq_true rfl, Nat.le_of_ble_eq_true rfl⟩ rfl hl.1 rfl (Nat.le_of_ble_eq_true rfl) dX9_count_67 ⟨Nat.le_of_ble_eq_true rfl, Nat.le_of_ble_eq_true rfl⟩) hP hD hS hA [0, 1] [] rfl rfl (by decide) (by decide) (fun r_41 u_40 H locs hwr_41 hP hD hS => ?_)
    obtain ⟨hP, hD⟩ : PD D A [(sw_9 h0 g 0 b5 b6 b7 b8 b9 b10 b11 b12 b13 b14 b17 b18 b19 b23 b24 b25 b26 b27 b29 b31 b32 b33), (sw_in cT (g 0) 288 a0)] _ := ⟨hP, hD⟩
    exact x_iret hx hb hr hlk hP hD hS [0, 1] ((0)) rfl (by decide) trivial (by decide) (by decide) dX9_count_70
  · have ic_1 : x.toInt = 10 := ieq c_1 rfl (by decide)
    refine lv_is (y := 10) c_1 ?_
    refine lv_tableIn (off := 65) (tgt := 71) hx hb dX9_count_6 (by decide) (by decide) (by decide) (by decide) ?_
    refine lv_aload_n hx hb dX9_count_71 rfl (lv_at hl 0 rfl) ?_
    refine lv_bipush (v := 80) hx hb dX9_count_72 (by decide) ?_
    refine xk_i (wr := []) (xr_V (n := 1) (As := [.int 80]) (rest := []) ⟨hx, hb, hml, hown, htg⟩ hK hN hP hD hS hA [0, 1] rfl (by decide) (m_sumOf l D cT _ (h0) (g) (0) (b5) (b6) (b7) (b8) (b9) (b10) (b11) (b12) (b13) (b14) (b17) (b18) (b19) (b23) (b24) (b25) (b26) (b27) (b29) (b31) (b32) (b33) (by first | assumption | omega | decide | exact Or.inl (by decide) | (intro h9; exact absurd h9 (by decide)) | (intro _; omega) | (intro _; assumption) | (intro _; decide)) (a0) (by first | assumption | omega | decide | exact Or.inl (by decide) | (intro h9; exact absurd h9 (by decide)) | (intro _; omega) | (intro _; assumption) | (intro _; decide)) (80) (by first | assumption | omega | decide | exact Or.inl (by decide) | (intro h9; exact absurd h9 (by decide)) | (intro _; omega) | (intro _; assumption) | (intro _; decide))) wi_1626 wi_1628 wi_119 wi_131 wi_1629 rfl rfl rfl ⟨rfl, by decide +kernel⟩ ⟨Nat.le_of_ble_eq_true rfl, Nat.le_of_ble_eq_true rfl⟩ rfl hl.1 rfl (Nat.le_of_ble_eq_true rfl) dX9_count_74 ⟨Nat.le_of_ble_eq_true rfl, Nat.le_of_ble_eq_true rfl⟩) hP hD hS hA [0, 1] [] rfl rfl (by decide) (by decide) (fun r_43 u_42 H locs hwr_43 hP hD hS => ?_)
    obtain ⟨hP, hD⟩ : PD D A [(sw_9 h0 g 0 b5 b6 b7 b8 b9 b10 b11 b12 b13 b14 b17 b18 b19 b23 b24 b25 b26 b27 b29 b31 b32 b33), (sw_in cT (g 0) 288 a0)] _ := ⟨hP, hD⟩
    exact x_iret hx hb hr hlk hP hD hS [0, 1] ((0)) rfl (by decide) trivial (by decide) (by decide) dX9_count_77
  · have ic_1 : x.toInt = 11 := ieq c_1 rfl (by decide)
    refine lv_is (y := 11) c_1 ?_
    refine lv_tableIn (off := 72) (tgt := 78) hx hb dX9_count_6 (by decide) (by decide) (by decide) (by decide) ?_
    refine lv_aload_n hx hb dX9_count_78 rfl (lv_at hl 0 rfl) ?_
    refine va_get (D := D) (ci := 9) (v := .int b5) (C := RX9) (T := TX9) (N := 37) hx hb htg gRX9 hown hK hP 0 rfl rfl 5 (by decide) (htg _ wi_1155) (fun _ h9 => h9) rfl dX9_count_79 ?_
    exact x_iret hx hb hr hlk hP hD hS [0, 1] ((0)) rfl (by decide) trivial (by decide) (by decide) dX9_count_82
  · have ic_1 : x.toInt = 12 := ieq c_1 rfl (by decide)
    refine lv_is (y := 12) c_1 ?_
    refine lv_tableIn (off := 77) (tgt := 83) hx hb dX9_count_6 (by decide) (by decide) (by decide) (by decide) ?_
    refine lv_aload_n hx hb dX9_count_83 rfl (lv_at hl 0 rfl) ?_
    refine va_get (D := D) (ci := 9) (v := .ref (g 0)) (C := RX9) (T := TX9) (N := 37) hx hb htg gRX9 hown hK hP 0 rfl rfl 1 (by decide) (htg _ wi_1151) (fun _ h9 => h9) rfl dX9_count_84 ?_
    refine lv_bipush (v := 9) hx hb dX9_count_87 (by decide) ?_
    refine va_iald hx hb hK hP 1 0 rfl rfl (by unfold vp_in; decide) dX9_count_89 ?_
    refine lv_topi (fun z_44 ez_44 => ?_)
    exact x_iret hx hb hr hlk hP hD hS [0, 1] ((0)) rfl (by decide) trivial (by decide) (by decide) dX9_count_90
set_option maxHeartbeats 4000000 in
set_option maxRecDepth 100000 in
theorem m_numbers (l : Launch) (D : va_G) (cT : Nat → ClassId) (sz : Nat) (h0 : Nat) (g : Nat → Nat) (b0 : Int32) (b5 : Int32) (b6 : Int32) (b7 : Int32) (b8 : Int32) (b9 : Int32) (b10 : Int32) (b11 : Int32) (b12 : Int32) (b13 : Int32) (b14 : Int32) (b17 : Int32) (b18 : Int32) (b19 : Int32) (b23 : Int32) (b24 : Int32) (b25 : Int32) (b26 : Int32) (b27 : Int32) (b29 : Int32) (b31 : Int32) (b32 : Int32) (b33 : Int32) (hb5 : 0 ≤ b5.toInt ∧ b5.toInt ≤ 900) (a11 : Nat → Int32) (a12 : Nat → Int32) (e12 : EL a12 4 0 40) (a13 : Nat → Int64) (x : Int32) (y : Int32) (z : Int32) : Met l yX9_numbers (wsc yX9_numbers cX9_numbers 5 (some .int)) { frames := 3, cells := 0, slots := 0, locals := 125 } (va_Pc [.ref h0, .int x, .int y, .int z] (PX D cT sz [(sw_9 h0 g b0 b5 b6 b7 b8 b9 b10 b11 b12 b13 b14 b17 b18 b19 b23 b24 b25 b26 b27 b29 b31 b32 b33), (sw_in cT (g 11) 4 a11), (sw_in cT (g 12) 4 a12), (sw_lo cT (g 13) 160 a13)])) (va_Qi (fun (r : Int32) (u : Int32 × (Nat → Int32) × (Nat → Int32) × (Nat → Int64)) => (EL u.2.2.1 4 0 40) ∧ ((r.toInt = 0 ∧ 0 ≤ x.toInt ∧ x.toInt ≤ 3 ∧ 0 ≤ y.toInt ∧ y.toInt ≤ 3 ∧ 0 ≤ z.toInt ∧ z.toInt ≤ 40) ∨ (r.toInt = -3 ∧ 0 ≤ x.toInt ∧ x.toInt ≤ 3 ∧ 0 ≤ y.toInt ∧ y.toInt ≤ 3 ∧ (z.toInt < 0 ∨ 40 < z.toInt)) ∨ (r.toInt = -2 ∧ (x.toInt < 0 ∨ 3 < x.toInt ∨ y.toInt < 0 ∨ 3 < y.toInt))) ∧ (True)) (fun u t => RW D (va_A [(sw_9 h0 g b0 b5 b6 b7 b8 b9 b10 b11 b12 b13 b14 b17 b18 b19 b23 b24 b25 b26 b27 b29 b31 b32 b33), (sw_in cT (g 11) 4 a11), (sw_in cT (g 12) 4 a12), (sw_lo cT (g 13) 160 a13)] sz) ((fun u : Int32 × (Nat → Int32) × (Nat → Int32) × (Nat → Int64) => [(sw_9 h0 g u.1 b5 b6 b7 b8 b9 b10 b11 b12 b13 b14 b17 b18 b19 b23 b24 b25 b26 b27 b29 b31 b32 b33), (sw_in cT (g 11) 4 u.2.1), (sw_in cT (g 12) 4 u.2.2.1), (sw_lo cT (g 13) 160 u.2.2.2)]) u) t) (va_A [(sw_9 h0 g b0 b5 b6 b7 b8 b9 b10 b11 b12 b13 b14 b17 b18 b19 b23 b24 b25 b26 b27 b29 b31 b32 b33), (sw_in cT (g 11) 4 a11), (sw_in cT (g 12) 4 a12), (sw_lo cT (g 13) 160 a13)] sz)) 0 0 (va_A [(sw_9 h0 g b0 b5 b6 b7 b8 b9 b10 b11 b12 b13 b14 b17 b18 b19 b23 b24 b25 b26 b27 b29 b31 b32 b33), (sw_in cT (g 11) 4 a11), (sw_in cT (g 12) 4 a12), (sw_lo cT (g 13) 160 a13)] sz) := by
  refine m_of (y := yX9_numbers) (cc := cX9_numbers) (nL := 5) (ret := (some .int)) (D := D) (cT := cT) (av := [.ref h0, .int x, .int y, .int z]) (wi := [(sw_9 h0 g b0 b5 b6 b7 b8 b9 b10 b11 b12 b13 b14 b17 b18 b19 b23 b24 b25 b26 b27 b29 b31 b32 b33), (sw_in cT (g 11) 4 a11), (sw_in cT (g 12) 4 a12), (sw_lo cT (g 13) 160 a13)]) (fun A => va_Qi (fun (r : Int32) (u : Int32 × (Nat → Int32) × (Nat → Int32) × (Nat → Int64)) => (EL u.2.2.1 4 0 40) ∧ ((r.toInt = 0 ∧ 0 ≤ x.toInt ∧ x.toInt ≤ 3 ∧ 0 ≤ y.toInt ∧ y.toInt ≤ 3 ∧ 0 ≤ z.toInt ∧ z.toInt ≤ 40) ∨ (r.toInt = -3 ∧ 0 ≤ x.toInt ∧ x.toInt ≤ 3 ∧ 0 ≤ y.toInt ∧ y.toInt ≤ 3 ∧ (z.toInt < 0 ∨ 40 < z.toInt)) ∨ (r.toInt = -2 ∧ (x.toInt < 0 ∨ 3 < x.toInt ∨ y.toInt < 0 ∨ 3 < y.toInt))) ∧ (True)) (fun u t => RW D A ((fun u : Int32 × (Nat → Int32) × (Nat → Int32) × (Nat → Int64) => [(sw_9 h0 g u.1 b5 b6 b7 b8 b9 b10 b11 b12 b13 b14 b17 b18 b19 b23 b24 b25 b26 b27 b29 b31 b32 b33), (sw_in cT (g 11) 4 u.2.1), (sw_in cT (g 12) 4 u.2.2.1), (sw_lo cT (g 13) 160 u.2.2.2)]) u) t) A) (by decide) (Nat.le_of_ble_eq_true rfl) ?_
  intro p e s m below meth c A hx hb hml hown htg hK hN hr hlk hnm hsz hP hD hS hA ls hl
  have hown : s.vm.findClass RX9 = some m.cls := hown
  have hl : lv_has ls 5 [(0, .ref h0), (1, .int x), (2, .int y), (3, .int z)] := hl
  have tc_m3 : ((-3) : Int32).toInt = (-3) := by decide
  have tc_m2 : ((-2) : Int32).toInt = (-2) := by decide
  have tc_0 : (0 : Int32).toInt = 0 := by decide
  have tc_40 : (40 : Int32).toInt = 40 := by decide
  refine lv_aload_n hx hb dX9_numbers_0 rfl (lv_at hl 0 rfl) ?_
  refine lv_iconst (v := 0) hx hb dX9_numbers_1 (by decide) ?_
  refine va_put (D := D) (ci := 9) (v := .int 0) (ty := .int) (C := RX9) (T := TX9) (N := 37) hx hb htg gRX9 tyX9 tyX9_ok nmX9 hown hK hP hD hS 0 rfl rfl 0 (by decide) (htg _ wi_1150) (fun _ h9 => h9) rfl (by decide +kernel) rfl rfl (Nat.le_of_ble_eq_true rfl) dX9_numbers_2 (fun H locs hP hD hS => ?_)
  obtain ⟨hP, hD⟩ : PD D A [(sw_9 h0 g 0 b5 b6 b7 b8 b9 b10 b11 b12 b13 b14 b17 b18 b19 b23 b24 b25 b26 b27 b29 b31 b32 b33), (sw_in cT (g 11) 4 a11), (sw_in cT (g 12) 4 a12), (sw_lo cT (g 13) 160 a13)] _ := ⟨hP, hD⟩
  refine lv_iload_n hx hb dX9_numbers_5 rfl (lv_at hl 1 rfl) ?_
  refine lv_i2l (v := x.toInt64) hx hb dX9_numbers_6 rfl ?_
  refine lv_lconst (v := 0) hx hb dX9_numbers_7 (by decide) ?_
  refine lv_ldc2 (v := 3) hx hb hown (htg _ wi_1366) dX9_numbers_8 ?_
  have ilw_1 : (x.toInt64).toInt = x.toInt := i2l_i _
  refine xk_i (wr := [(sw_9 h0 g 0 b5 b6 b7 b8 b9 b10 b11 b12 b13 b14 b17 b18 b19 b23 b24 b25 b26 b27 b29 b31 b32 b33), (sw_in cT (g 11) 4 a11), (sw_in cT (g 12) 4 a12), (sw_lo cT (g 13) 160 a13)]) (xr_S (n := 3) (As := [.long x.toInt64, .long 0, .long 3]) (rest := []) ⟨hx, hb, hml, hown, htg⟩ hK hN hP hD hS hA [] rfl (by decide) (m_withinB l D cT _ (x.toInt64) (0) (3) (x.toInt) (0) (3) (i2l_i _) (by decide) (by decide)) wi_1270 wi_1271 wi_131 wi_1272 ⟨rfl, by decide +kernel⟩ ⟨Nat.le_of_ble_eq_true rfl, Nat.le_of_ble_eq_true rfl⟩ rfl hl.1 rfl (Nat.le_of_ble_eq_true rfl) dX9_numbers_11 ⟨Nat.le_of_ble_eq_true rfl, Nat.le_of_ble_eq_true rfl⟩) hP hD hS hA [] [0, 1, 2, 3] rfl rfl (by decide) (by decide) (fun r_3 u_2 H locs hwr_3 hP hD hS => ?_)
  obtain ⟨hP, hD⟩ : PD D A [(sw_9 h0 g 0 b5 b6 b7 b8 b9 b10 b11 b12 b13 b14 b17 b18 b19 b23 b24 b25 b26 b27 b29 b31 b32 b33), (sw_in cT (g 11) 4 a11), (sw_in cT (g 12) 4 a12), (sw_lo cT (g 13) 160 a13)] _ := ⟨hP, hD⟩
  have qr_3_0 : Imp (¬ r_3.toInt = 0) (0 ≤ x.toInt ∧ x.toInt ≤ 3) := hwr_3.1
  have qr_3_1 : Imp (r_3.toInt = 0) (x.toInt < 0 ∨ 3 < x.toInt) := hwr_3.2.1
  have qr_3_2 : r_3 = 0 ∨ r_3 = 1 := hwr_3.2.2.1
  refine lv_if_eq (tgt := 29) hx hb dX9_numbers_14 (by decide) (fun c_4 => ?_) (fun c_4 => ?_)
  · have ic_4 : r_3.toInt = 0 := ieq c_4 (rfl) (by decide)
    have kqr_3_1 : x.toInt < 0 ∨ 3 < x.toInt := qr_3_1 ic_4
    refine lv_bipush (v := (-2)) hx hb dX9_numbers_29 (by decide) ?_
    exact x_iret hx hb hr hlk hP hD hS [0, 1, 2, 3] ((0, a11, a12, a13)) rfl (by decide) ⟨by (try dsimp only); first | assumption | omega | decide | exact Or.inl (by decide) | (intro h9; exact absurd h9 (by decide)) | (intro _; omega) | (intro _; assumption) | (intro _; decide), by (try dsimp only); first | assumption | omega | decide | exact Or.inl (by decide) | (intro h9; exact absurd h9 (by decide)) | (intro _; omega) | (intro _; assumption) | (intro _; decide), trivial⟩ (by decide) (by decide) dX9_numbers_31
  · have ic_4 : ¬ r_3.toInt = 0 := ine c_4 (rfl) (by decide)
    have kqr_3_0 : 0 ≤ x.toInt ∧ x.toInt ≤ 3 := qr_3_0 ic_4
    refine lv_iload_n hx hb dX9_numbers_17 rfl (lv_at hl 2 rfl) ?_
    refine lv_i2l (v := y.toInt64) hx hb dX9_numbers_18 rfl ?_
    refine lv_lconst (v := 0) hx hb dX9_numbers_19 (by decide) ?_
    refine lv_ldc2 (v := 3) hx hb hown (htg _ wi_1366) dX9_numbers_20 ?_
    have ilw_5 : (y.toInt64).toInt = y.toInt := i2l_i _
    refine xk_i (wr := [(sw_9 h0 g 0 b5 b6 b7 b8 b9 b10 b11 b12 b13 b14 b17 b18 b19 b23 b24 b25 b26 b27 b29 b31 b32 b33), (sw_in cT (g 11) 4 a11), (sw_in cT (g 12) 4 a12), (sw_lo cT (g 13) 160 a13)]) (xr_S (n := 3) (As := [.long y.toInt64, .long 0, .long 3]) (rest := []) ⟨hx, hb, hml, hown, htg⟩ hK hN hP hD hS hA [] rfl (by decide) (m_withinB l D cT _ (y.toInt64) (0) (3) (y.toInt) (0) (3) (i2l_i _) (by decide) (by decide)) wi_1270 wi_1271 wi_131 wi_1272 ⟨rfl, by decide +kernel⟩ ⟨Nat.le_of_ble_eq_true rfl, Nat.le_of_ble_eq_true rfl⟩ rfl hl.1 rfl (Nat.le_of_ble_eq_true rfl) dX9_numbers_23 ⟨Nat.le_of_ble_eq_true rfl, Nat.le_of_ble_eq_true rfl⟩) hP hD hS hA [] [0, 1, 2, 3] rfl rfl (by decide) (by decide) (fun r_7 u_6 H locs hwr_7 hP hD hS => ?_)
    obtain ⟨hP, hD⟩ : PD D A [(sw_9 h0 g 0 b5 b6 b7 b8 b9 b10 b11 b12 b13 b14 b17 b18 b19 b23 b24 b25 b26 b27 b29 b31 b32 b33), (sw_in cT (g 11) 4 a11), (sw_in cT (g 12) 4 a12), (sw_lo cT (g 13) 160 a13)] _ := ⟨hP, hD⟩
    have qr_7_0 : Imp (¬ r_7.toInt = 0) (0 ≤ y.toInt ∧ y.toInt ≤ 3) := hwr_7.1
    have qr_7_1 : Imp (r_7.toInt = 0) (y.toInt < 0 ∨ 3 < y.toInt) := hwr_7.2.1
    have qr_7_2 : r_7 = 0 ∨ r_7 = 1 := hwr_7.2.2.1
    refine lv_if_ne (tgt := 32) hx hb dX9_numbers_26 (by decide) (fun c_8 => ?_) (fun c_8 => ?_)
    · have ic_8 : ¬ r_7.toInt = 0 := ine c_8 (rfl) (by decide)
      have kqr_7_0 : 0 ≤ y.toInt ∧ y.toInt ≤ 3 := qr_7_0 ic_8
      refine lv_iload_n hx hb dX9_numbers_32 rfl (lv_at hl 3 rfl) ?_
      refine lv_i2l (v := z.toInt64) hx hb dX9_numbers_33 rfl ?_
      refine lv_lconst (v := 0) hx hb dX9_numbers_34 (by decide) ?_
      refine lv_ldc2 (v := 40) hx hb hown (htg _ wi_1599) dX9_numbers_35 ?_
      have ilw_9 : (z.toInt64).toInt = z.toInt := i2l_i _
      refine xk_i (wr := [(sw_9 h0 g 0 b5 b6 b7 b8 b9 b10 b11 b12 b13 b14 b17 b18 b19 b23 b24 b25 b26 b27 b29 b31 b32 b33), (sw_in cT (g 11) 4 a11), (sw_in cT (g 12) 4 a12), (sw_lo cT (g 13) 160 a13)]) (xr_S (n := 3) (As := [.long z.toInt64, .long 0, .long 40]) (rest := []) ⟨hx, hb, hml, hown, htg⟩ hK hN hP hD hS hA [] rfl (by decide) (m_withinB l D cT _ (z.toInt64) (0) (40) (z.toInt) (0) (40) (i2l_i _) (by decide) (by decide)) wi_1270 wi_1271 wi_131 wi_1272 ⟨rfl, by decide +kernel⟩ ⟨Nat.le_of_ble_eq_true rfl, Nat.le_of_ble_eq_true rfl⟩ rfl hl.1 rfl (Nat.le_of_ble_eq_true rfl) dX9_numbers_38 ⟨Nat.le_of_ble_eq_true rfl, Nat.le_of_ble_eq_true rfl⟩) hP hD hS hA [] [0, 1, 2, 3] rfl rfl (by decide) (by decide) (fun r_11 u_10 H locs hwr_11 hP hD hS => ?_)
      obtain ⟨hP, hD⟩ : PD D A [(sw_9 h0 g 0 b5 b6 b7 b8 b9 b10 b11 b12 b13 b14 b17 b18 b19 b23 b24 b25 b26 b27 b29 b31 b32 b33), (sw_in cT (g 11) 4 a11), (sw_in cT (g 12) 4 a12), (sw_lo cT (g 13) 160 a13)] _ := ⟨hP, hD⟩
      have qr_11_0 : Imp (¬ r_11.toInt = 0) (0 ≤ z.toInt ∧ z.toInt ≤ 40) := hwr_11.1
      have qr_11_1 : Imp (r_11.toInt = 0) (z.toInt < 0 ∨ 40 < z.toInt) := hwr_11.2.1
      have qr_11_2 : r_11 = 0 ∨ r_11 = 1 := hwr_11.2.2.1
      refine lv_if_ne (tgt := 47) hx hb dX9_numbers_41 (by decide) (fun c_12 => ?_) (fun c_12 => ?_)
      · have ic_12 : ¬ r_11.toInt = 0 := ine c_12 (rfl) (by decide)
        have kqr_11_0 : 0 ≤ z.toInt ∧ z.toInt ≤ 40 := qr_11_0 ic_12
        refine lv_aload_n hx hb dX9_numbers_47 rfl (lv_at hl 0 rfl) ?_
        refine va_get (D := D) (ci := 9) (v := .ref (g 11)) (C := RX9) (T := TX9) (N := 37) hx hb htg gRX9 hown hK hP 0 rfl rfl 34 (by decide) (htg _ wi_1184) (fun _ h9 => h9) rfl dX9_numbers_48 ?_
        refine lv_iload_n hx hb dX9_numbers_51 rfl (lv_at hl 1 rfl) ?_
        refine lv_iload_n hx hb dX9_numbers_52 rfl (lv_at hl 2 rfl) ?_
        refine va_iast hx hb hK hP hD hS 1 0 rfl rfl (vp_in_iff.mpr (by omega)) dX9_numbers_53 (fun H locs hP hD hS => ?_)
        obtain ⟨f_13, hP, hD⟩ : ∃ f_13 : Nat → Int32, PD D A [(sw_9 h0 g 0 b5 b6 b7 b8 b9 b10 b11 b12 b13 b14 b17 b18 b19 b23 b24 b25 b26 b27 b29 b31 b32 b33), (sw_in cT (g 11) 4 f_13), (sw_in cT (g 12) 4 a12), (sw_lo cT (g 13) 160 a13)] H := ⟨_, hP, hD⟩
        refine lv_aload_n hx hb dX9_numbers_54 rfl (lv_at hl 0 rfl) ?_
        refine va_get (D := D) (ci := 9) (v := .ref (g 12)) (C := RX9) (T := TX9) (N := 37) hx hb htg gRX9 hown hK hP 0 rfl rfl 35 (by decide) (htg _ wi_1185) (fun _ h9 => h9) rfl dX9_numbers_55 ?_
        refine lv_iload_n hx hb dX9_numbers_58 rfl (lv_at hl 1 rfl) ?_
        refine lv_iload_n hx hb dX9_numbers_59 rfl (lv_at hl 3 rfl) ?_
        refine va_iast hx hb hK hP hD hS 2 0 rfl rfl (vp_in_iff.mpr (by omega)) dX9_numbers_60 (fun H locs hP hD hS => ?_)
        obtain ⟨f_14, ef_14, hP, hD⟩ : ∃ f_14 : Nat → Int32, f_14 = upd (a12) (x : Int32).toNatClampNeg z ∧ PD D A [(sw_9 h0 g 0 b5 b6 b7 b8 b9 b10 b11 b12 b13 b14 b17 b18 b19 b23 b24 b25 b26 b27 b29 b31 b32 b33), (sw_in cT (g 11) 4 f_13), (sw_in cT (g 12) 4 f_14), (sw_lo cT (g 13) 160 a13)] H := ⟨_, rfl, hP, hD⟩
        have qf_14 : EL f_14 4 0 40 := by rw [ef_14]; exact el_upd e12 (rfl) (by omega)
        refine lv_iconst (v := 0) hx hb dX9_numbers_61 (by decide) ?_
        refine lv_istore (lv' := [(4, .int 0), (0, .ref h0), (1, .int x), (2, .int y), (3, .int z)]) hx hb dX9_numbers_62 hl (by decide) rfl (fun ls hl => ?_)
        refine (fun (key : ∀ (n9_64 : Nat) (k9_64 : Nat) (f9_64_0 : Nat → Int64) (H : Heap) (locs : List Loc) (ls : Array Slot), (k9_64 : Int) ≤ z.toInt → z.toInt < (k9_64 : Int) + n9_64 → PD D A [(sw_9 h0 g 0 b5 b6 b7 b8 b9 b10 b11 b12 b13 b14 b17 b18 b19 b23 b24 b25 b26 b27 b29 b31 b32 b33), (sw_in cT (g 11) 4 f_13), (sw_in cT (g 12) 4 f_14), (sw_lo cT (g 13) 160 f9_64_0)] H → va_S A s.heap H locs → lv_has ls 5 [(4, .int (nI k9_64)), (0, .ref h0), (1, .int x), (2, .int y), (3, .int z)] → W p l e _ s m _ below meth c H locs _ _ _ (F0 m 64 ls [])) => key (Int.toNat (z.toInt - 0) + 1) 0 _ _ _ _ (by omega) (by omega)  ⟨hP, hD⟩ hS (lv_sub hl [0, 1, 2, 3, 4] rfl)) ?_
        intro n9_64
        induction n9_64 with
        | zero => intro k9_64 f9_64_0 H locs ls hq1 hq2; exact absurd hq2 (by omega)
        | succ n9_64 ih_64 =>
          intro k9_64 f9_64_0 H locs ls hq1_64 hq2_64  hPD hS hl
          obtain ⟨hP, hD⟩ := hPD
          have hk9_64 : (nI k9_64).toInt = (k9_64 : Int) := nI_toInt (by omega)
          refine lv_iload hx hb dX9_numbers_64 (lv_at hl 0 rfl) ?_
          refine lv_iload_n hx hb dX9_numbers_66 rfl (lv_at hl 4 rfl) ?_
          refine lv_icmp_ge (tgt := 89) hx hb dX9_numbers_67 (by decide) (fun c_15 => ?_) (fun c_15 => ?_)
          · have ic_15 : z.toInt ≤ ((k9_64 : Nat) : Int) := ile c_15 (rfl) (nI_toInt (by omega))
            refine lv_iconst (v := 0) hx hb dX9_numbers_89 (by decide) ?_
            exact x_iret hx hb hr hlk hP hD hS [0, 1, 2, 3] ((0, f_13, f_14, f9_64_0)) rfl (by decide) ⟨by (try dsimp only); first | assumption | omega | decide | exact Or.inl (by decide) | (intro h9; exact absurd h9 (by decide)) | (intro _; omega) | (intro _; assumption) | (intro _; decide), by (try dsimp only); first | assumption | omega | decide | exact Or.inl (by decide) | (intro h9; exact absurd h9 (by decide)) | (intro _; omega) | (intro _; assumption) | (intro _; decide), trivial⟩ (by decide) (by decide) dX9_numbers_90
          · have ic_15 : ((k9_64 : Nat) : Int) < z.toInt := inle c_15 (rfl) (nI_toInt (by omega))
            refine lv_aload_n hx hb dX9_numbers_70 rfl (lv_at hl 1 rfl) ?_
            refine va_get (D := D) (ci := 9) (v := .ref (g 13)) (C := RX9) (T := TX9) (N := 37) hx hb htg gRX9 hown hK hP 0 rfl rfl 36 (by decide) (htg _ wi_1186) (fun _ h9 => h9) rfl dX9_numbers_71 ?_
            refine lv_bipush (v := 40) hx hb dX9_numbers_74 (by decide) ?_
            refine lv_iload_n hx hb dX9_numbers_76 rfl (lv_at hl 2 rfl) ?_
            refine lv_imul hx hb dX9_numbers_77 ?_
            refine lv_topi (fun z_16 ez_16 => ?_)
            have iz_16 : z_16.toInt = 40 * x.toInt := toInt_mulI ez_16 (by decide) (rfl) (by omega)
            refine lv_iload hx hb dX9_numbers_78 (lv_at hl 0 rfl) ?_
            refine lv_iadd hx hb dX9_numbers_80 ?_
            refine lv_topi (fun z_17 ez_17 => ?_)
            have iz_17 : z_17.toInt = z_16.toInt + ((k9_64 : Nat) : Int) := toInt_addI ez_17 (rfl) (nI_toInt (by omega)) (by omega)
            refine lv_lconst (v := 0) hx hb dX9_numbers_81 (by decide) ?_
            refine va_last hx hb hK hP hD hS 3 1 rfl rfl (vp_in_iff.mpr (by omega)) dX9_numbers_82 (fun H locs hP hD hS => ?_)
            obtain ⟨f_18, hP, hD⟩ : ∃ f_18 : Nat → Int64, PD D A [(sw_9 h0 g 0 b5 b6 b7 b8 b9 b10 b11 b12 b13 b14 b17 b18 b19 b23 b24 b25 b26 b27 b29 b31 b32 b33), (sw_in cT (g 11) 4 f_13), (sw_in cT (g 12) 4 f_14), (sw_lo cT (g 13) 160 f_18)] H := ⟨_, hP, hD⟩
            refine lv_iinc (v := (nI (k9_64 + 1))) (lv' := [(4, .int (nI (k9_64 + 1))), (0, .ref h0), (1, .int x), (2, .int y), (3, .int z)]) hx hb dX9_numbers_83 hl (k := 0) rfl (by exact nI_1 (k9_64)) (by decide) rfl (fun ls hl => ?_)
            refine lv_goto (tgt := 64) hx hb dX9_numbers_86 (by decide) ?_
            exact ih_64 (k9_64 + 1) _ _ _ _ (by omega) (by omega)  ⟨hP.sub [0, 1, 2, 3] rfl, hD.sub [0, 1, 2, 3] (by decide) rfl⟩ hS (lv_sub hl [0, 1, 2, 3, 4] rfl)
      · have ic_12 : r_11.toInt = 0 := ieq c_12 (rfl) (by decide)
        have kqr_11_1 : z.toInt < 0 ∨ 40 < z.toInt := qr_11_1 ic_12
        refine lv_bipush (v := (-3)) hx hb dX9_numbers_44 (by decide) ?_
        exact x_iret hx hb hr hlk hP hD hS [0, 1, 2, 3] ((0, a11, a12, a13)) rfl (by decide) ⟨by (try dsimp only); first | assumption | omega | decide | exact Or.inl (by decide) | (intro h9; exact absurd h9 (by decide)) | (intro _; omega) | (intro _; assumption) | (intro _; decide), by (try dsimp only); first | assumption | omega | decide | exact Or.inl (by decide) | (intro h9; exact absurd h9 (by decide)) | (intro _; omega) | (intro _; assumption) | (intro _; decide), trivial⟩ (by decide) (by decide) dX9_numbers_46
    · have ic_8 : r_7.toInt = 0 := ieq c_8 (rfl) (by decide)
      have kqr_7_1 : y.toInt < 0 ∨ 3 < y.toInt := qr_7_1 ic_8
      refine lv_bipush (v := (-2)) hx hb dX9_numbers_29 (by decide) ?_
      exact x_iret hx hb hr hlk hP hD hS [0, 1, 2, 3] ((0, a11, a12, a13)) rfl (by decide) ⟨by (try dsimp only); first | assumption | omega | decide | exact Or.inl (by decide) | (intro h9; exact absurd h9 (by decide)) | (intro _; omega) | (intro _; assumption) | (intro _; decide), by (try dsimp only); first | assumption | omega | decide | exact Or.inl (by decide) | (intro h9; exact absurd h9 (by decide)) | (intro _; omega) | (intro _; assumption) | (intro _; decide), trivial⟩ (by decide) (by decide) dX9_numbers_31
