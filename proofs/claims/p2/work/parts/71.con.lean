set_option maxHeartbeats 4000000 in
set_option maxRecDepth 100000 in
theorem m_copy (l : Launch) (D : va_G) (cT : Nat → ClassId) (sz : Nat) (h0 : Nat) (g : Nat → Nat) (b0 : Int32) (b5 : Int32) (b6 : Int32) (b7 : Int32) (b8 : Int32) (b9 : Int32) (b10 : Int32) (b11 : Int32) (b12 : Int32) (b13 : Int32) (b14 : Int32) (b17 : Int32) (b18 : Int32) (b19 : Int32) (b23 : Int32) (b24 : Int32) (b25 : Int32) (b26 : Int32) (b27 : Int32) (b29 : Int32) (b31 : Int32) (b32 : Int32) (b33 : Int32) (hb5 : 0 ≤ b5.toInt ∧ b5.toInt ≤ 900) (a0 : Nat → Int32) (pa0 : PI 288 a0) (a11 : Nat → Int32) (a12 : Nat → Int32) (e12 : EL a12 4 0 40) (a13 : Nat → Int64) (x : Int32) : Met l yX9_copy (wsc yX9_copy cX9_copy 3 (some .int)) { frames := 3, cells := 0, slots := 0, locals := 125 } (va_Pc [.ref h0, .int x] (PX D cT sz [(h0, .inr (9, (.int b0 :: .ref (g 0) :: .ref (g 1) :: .ref (g 2) :: .ref (g 3) :: .int b5 :: .int b6 :: .int b7 :: .int b8 :: .int b9 :: .int b10 :: .int b11 :: .int b12 :: .int b13 :: .int b14 :: .ref (g 4) :: .ref (g 5) :: .int b17 :: .int b18 :: .int b19 :: .ref (g 6) :: .ref (g 7) :: .ref (g 8) :: .int b23 :: .int b24 :: .int b25 :: .int b26 :: .int b27 :: .ref (g 9) :: .int b29 :: .ref (g 10) :: .int b31 :: .int b32 :: .int b33 :: .ref (g 11) :: .ref (g 12) :: .ref (g 13) :: []))), ((g 0), .inl (cT 0, 288, .inl (a0))), ((g 11), .inl (cT 0, 4, .inl (a11))), ((g 12), .inl (cT 0, 4, .inl (a12))), ((g 13), .inl (cT 1, 160, .inr (.inl (a13))))])) (va_Qi (fun (r : Int32) (u : Int32 × (Nat → Int64)) => (True)) (fun u t => RW D (va_A [(h0, .inr (9, (.int b0 :: .ref (g 0) :: .ref (g 1) :: .ref (g 2) :: .ref (g 3) :: .int b5 :: .int b6 :: .int b7 :: .int b8 :: .int b9 :: .int b10 :: .int b11 :: .int b12 :: .int b13 :: .int b14 :: .ref (g 4) :: .ref (g 5) :: .int b17 :: .int b18 :: .int b19 :: .ref (g 6) :: .ref (g 7) :: .ref (g 8) :: .int b23 :: .int b24 :: .int b25 :: .int b26 :: .int b27 :: .ref (g 9) :: .int b29 :: .ref (g 10) :: .int b31 :: .int b32 :: .int b33 :: .ref (g 11) :: .ref (g 12) :: .ref (g 13) :: []))), ((g 0), .inl (cT 0, 288, .inl (a0))), ((g 11), .inl (cT 0, 4, .inl (a11))), ((g 12), .inl (cT 0, 4, .inl (a12))), ((g 13), .inl (cT 1, 160, .inr (.inl (a13))))] sz) ((fun u : Int32 × (Nat → Int64) => [(h0, .inr (9, (.int u.1 :: .ref (g 0) :: .ref (g 1) :: .ref (g 2) :: .ref (g 3) :: .int b5 :: .int b6 :: .int b7 :: .int b8 :: .int b9 :: .int b10 :: .int b11 :: .int b12 :: .int b13 :: .int b14 :: .ref (g 4) :: .ref (g 5) :: .int b17 :: .int b18 :: .int b19 :: .ref (g 6) :: .ref (g 7) :: .ref (g 8) :: .int b23 :: .int b24 :: .int b25 :: .int b26 :: .int b27 :: .ref (g 9) :: .int b29 :: .ref (g 10) :: .int b31 :: .int b32 :: .int b33 :: .ref (g 11) :: .ref (g 12) :: .ref (g 13) :: []))), ((g 0), .inl (cT 0, 288, .inl (a0))), ((g 11), .inl (cT 0, 4, .inl (a11))), ((g 12), .inl (cT 0, 4, .inl (a12))), ((g 13), .inl (cT 1, 160, .inr (.inl (u.2))))]) u) t) (va_A [(h0, .inr (9, (.int b0 :: .ref (g 0) :: .ref (g 1) :: .ref (g 2) :: .ref (g 3) :: .int b5 :: .int b6 :: .int b7 :: .int b8 :: .int b9 :: .int b10 :: .int b11 :: .int b12 :: .int b13 :: .int b14 :: .ref (g 4) :: .ref (g 5) :: .int b17 :: .int b18 :: .int b19 :: .ref (g 6) :: .ref (g 7) :: .ref (g 8) :: .int b23 :: .int b24 :: .int b25 :: .int b26 :: .int b27 :: .ref (g 9) :: .int b29 :: .ref (g 10) :: .int b31 :: .int b32 :: .int b33 :: .ref (g 11) :: .ref (g 12) :: .ref (g 13) :: []))), ((g 0), .inl (cT 0, 288, .inl (a0))), ((g 11), .inl (cT 0, 4, .inl (a11))), ((g 12), .inl (cT 0, 4, .inl (a12))), ((g 13), .inl (cT 1, 160, .inr (.inl (a13))))] sz)) 0 0 (va_A [(h0, .inr (9, (.int b0 :: .ref (g 0) :: .ref (g 1) :: .ref (g 2) :: .ref (g 3) :: .int b5 :: .int b6 :: .int b7 :: .int b8 :: .int b9 :: .int b10 :: .int b11 :: .int b12 :: .int b13 :: .int b14 :: .ref (g 4) :: .ref (g 5) :: .int b17 :: .int b18 :: .int b19 :: .ref (g 6) :: .ref (g 7) :: .ref (g 8) :: .int b23 :: .int b24 :: .int b25 :: .int b26 :: .int b27 :: .ref (g 9) :: .int b29 :: .ref (g 10) :: .int b31 :: .int b32 :: .int b33 :: .ref (g 11) :: .ref (g 12) :: .ref (g 13) :: []))), ((g 0), .inl (cT 0, 288, .inl (a0))), ((g 11), .inl (cT 0, 4, .inl (a11))), ((g 12), .inl (cT 0, 4, .inl (a12))), ((g 13), .inl (cT 1, 160, .inr (.inl (a13))))] sz) := by
  refine m_of (y := yX9_copy) (cc := cX9_copy) (nL := 3) (ret := (some .int)) (D := D) (cT := cT) (av := [.ref h0, .int x]) (wi := [(h0, .inr (9, (.int b0 :: .ref (g 0) :: .ref (g 1) :: .ref (g 2) :: .ref (g 3) :: .int b5 :: .int b6 :: .int b7 :: .int b8 :: .int b9 :: .int b10 :: .int b11 :: .int b12 :: .int b13 :: .int b14 :: .ref (g 4) :: .ref (g 5) :: .int b17 :: .int b18 :: .int b19 :: .ref (g 6) :: .ref (g 7) :: .ref (g 8) :: .int b23 :: .int b24 :: .int b25 :: .int b26 :: .int b27 :: .ref (g 9) :: .int b29 :: .ref (g 10) :: .int b31 :: .int b32 :: .int b33 :: .ref (g 11) :: .ref (g 12) :: .ref (g 13) :: []))), ((g 0), .inl (cT 0, 288, .inl (a0))), ((g 11), .inl (cT 0, 4, .inl (a11))), ((g 12), .inl (cT 0, 4, .inl (a12))), ((g 13), .inl (cT 1, 160, .inr (.inl (a13))))]) (fun A => va_Qi (fun (r : Int32) (u : Int32 × (Nat → Int64)) => (True)) (fun u t => RW D A ((fun u : Int32 × (Nat → Int64) => [(h0, .inr (9, (.int u.1 :: .ref (g 0) :: .ref (g 1) :: .ref (g 2) :: .ref (g 3) :: .int b5 :: .int b6 :: .int b7 :: .int b8 :: .int b9 :: .int b10 :: .int b11 :: .int b12 :: .int b13 :: .int b14 :: .ref (g 4) :: .ref (g 5) :: .int b17 :: .int b18 :: .int b19 :: .ref (g 6) :: .ref (g 7) :: .ref (g 8) :: .int b23 :: .int b24 :: .int b25 :: .int b26 :: .int b27 :: .ref (g 9) :: .int b29 :: .ref (g 10) :: .int b31 :: .int b32 :: .int b33 :: .ref (g 11) :: .ref (g 12) :: .ref (g 13) :: []))), ((g 0), .inl (cT 0, 288, .inl (a0))), ((g 11), .inl (cT 0, 4, .inl (a11))), ((g 12), .inl (cT 0, 4, .inl (a12))), ((g 13), .inl (cT 1, 160, .inr (.inl (u.2))))]) u) t) A) (by decide) (Nat.le_of_ble_eq_true rfl) ?_
  intro p e s m below meth c A hx hb hml hown htg hK hN hr hlk hnm hsz hP hD hS hA ls hl
  have hown : s.vm.findClass RX9 = some m.cls := hown
  have hl : lv_has ls 3 [(0, .ref h0), (1, .int x)] := hl
  have tc_m7 : ((-7) : Int32).toInt = (-7) := by decide
  have tc_m6 : ((-6) : Int32).toInt = (-6) := by decide
  have tc_m2 : ((-2) : Int32).toInt = (-2) := by decide
  have tc_m1 : ((-1) : Int32).toInt = (-1) := by decide
  have tc_0 : (0 : Int32).toInt = 0 := by decide
  have tc_16 : (16 : Int32).toInt = 16 := by decide
  have tc_40 : (40 : Int32).toInt = 40 := by decide
  refine lv_aload_n hx hb dX9_copy_0 rfl (lv_at hl 0 rfl) ?_
  refine lv_iconst (v := 0) hx hb dX9_copy_1 (by decide) ?_
  refine va_put (D := D) (ci := 9) (v := .int 0) (ty := .int) (C := RX9) (T := TX9) (N := 37) hx hb htg gRX9 tyX9 tyX9_ok nmX9 hown hK hP hD hS 0 rfl rfl 0 (by decide) (htg _ wi_1150) (fun _ h9 => h9) rfl (by decide +kernel) rfl rfl (Nat.le_of_ble_eq_true rfl) dX9_copy_2 (fun H locs hP hD hS => ?_)
  have hP : va_P D classes [(h0, .inr (9, (.int 0 :: .ref (g 0) :: .ref (g 1) :: .ref (g 2) :: .ref (g 3) :: .int b5 :: .int b6 :: .int b7 :: .int b8 :: .int b9 :: .int b10 :: .int b11 :: .int b12 :: .int b13 :: .int b14 :: .ref (g 4) :: .ref (g 5) :: .int b17 :: .int b18 :: .int b19 :: .ref (g 6) :: .ref (g 7) :: .ref (g 8) :: .int b23 :: .int b24 :: .int b25 :: .int b26 :: .int b27 :: .ref (g 9) :: .int b29 :: .ref (g 10) :: .int b31 :: .int b32 :: .int b33 :: .ref (g 11) :: .ref (g 12) :: .ref (g 13) :: []))), ((g 0), .inl (cT 0, 288, .inl (a0))), ((g 11), .inl (cT 0, 4, .inl (a11))), ((g 12), .inl (cT 0, 4, .inl (a12))), ((g 13), .inl (cT 1, 160, .inr (.inl (a13))))] _ := hP
  have hD : va_D A [(h0, .inr (9, (.int 0 :: .ref (g 0) :: .ref (g 1) :: .ref (g 2) :: .ref (g 3) :: .int b5 :: .int b6 :: .int b7 :: .int b8 :: .int b9 :: .int b10 :: .int b11 :: .int b12 :: .int b13 :: .int b14 :: .ref (g 4) :: .ref (g 5) :: .int b17 :: .int b18 :: .int b19 :: .ref (g 6) :: .ref (g 7) :: .ref (g 8) :: .int b23 :: .int b24 :: .int b25 :: .int b26 :: .int b27 :: .ref (g 9) :: .int b29 :: .ref (g 10) :: .int b31 :: .int b32 :: .int b33 :: .ref (g 11) :: .ref (g 12) :: .ref (g 13) :: []))), ((g 0), .inl (cT 0, 288, .inl (a0))), ((g 11), .inl (cT 0, 4, .inl (a11))), ((g 12), .inl (cT 0, 4, .inl (a12))), ((g 13), .inl (cT 1, 160, .inr (.inl (a13))))] := hD
  refine lv_iload_n hx hb dX9_copy_5 rfl (lv_at hl 1 rfl) ?_
  refine lv_i2l (v := x.toInt64) hx hb dX9_copy_6 rfl ?_
  refine lv_lconst (v := 0) hx hb dX9_copy_7 (by decide) ?_
  refine lv_ldc2 (v := 3) hx hb hown (htg _ wi_1366) dX9_copy_8 ?_
  have ilw_1 : (x.toInt64).toInt = x.toInt := i2l_i _
  refine xk_i (wr := [(h0, .inr (9, (.int 0 :: .ref (g 0) :: .ref (g 1) :: .ref (g 2) :: .ref (g 3) :: .int b5 :: .int b6 :: .int b7 :: .int b8 :: .int b9 :: .int b10 :: .int b11 :: .int b12 :: .int b13 :: .int b14 :: .ref (g 4) :: .ref (g 5) :: .int b17 :: .int b18 :: .int b19 :: .ref (g 6) :: .ref (g 7) :: .ref (g 8) :: .int b23 :: .int b24 :: .int b25 :: .int b26 :: .int b27 :: .ref (g 9) :: .int b29 :: .ref (g 10) :: .int b31 :: .int b32 :: .int b33 :: .ref (g 11) :: .ref (g 12) :: .ref (g 13) :: []))), ((g 0), .inl (cT 0, 288, .inl (a0))), ((g 11), .inl (cT 0, 4, .inl (a11))), ((g 12), .inl (cT 0, 4, .inl (a12))), ((g 13), .inl (cT 1, 160, .inr (.inl (a13))))]) (xr_S (n := 3) (As := [.long x.toInt64, .long 0, .long 3]) (rest := []) ⟨hx, hb, hml, hown, htg⟩ hK hN hP hD hS hA [] rfl (by decide) (m_within l D cT _ (x.toInt64) (0) (3) (x.toInt) (0) (3) (i2l_i _) (by decide) (by decide)) wi_1270 wi_1271 wi_131 wi_1272 ⟨rfl, by decide +kernel⟩ ⟨Nat.le_of_ble_eq_true rfl, Nat.le_of_ble_eq_true rfl⟩ rfl hl.1 rfl (Nat.le_of_ble_eq_true rfl) dX9_copy_11 ⟨Nat.le_of_ble_eq_true rfl, Nat.le_of_ble_eq_true rfl⟩) hP hD hS hA [] [0, 1, 2, 3, 4] rfl rfl (by decide) (by decide) (fun r_3 u_2 H locs hwr_3 hP hD hS => ?_)
  have hP : va_P D classes [(h0, .inr (9, (.int 0 :: .ref (g 0) :: .ref (g 1) :: .ref (g 2) :: .ref (g 3) :: .int b5 :: .int b6 :: .int b7 :: .int b8 :: .int b9 :: .int b10 :: .int b11 :: .int b12 :: .int b13 :: .int b14 :: .ref (g 4) :: .ref (g 5) :: .int b17 :: .int b18 :: .int b19 :: .ref (g 6) :: .ref (g 7) :: .ref (g 8) :: .int b23 :: .int b24 :: .int b25 :: .int b26 :: .int b27 :: .ref (g 9) :: .int b29 :: .ref (g 10) :: .int b31 :: .int b32 :: .int b33 :: .ref (g 11) :: .ref (g 12) :: .ref (g 13) :: []))), ((g 0), .inl (cT 0, 288, .inl (a0))), ((g 11), .inl (cT 0, 4, .inl (a11))), ((g 12), .inl (cT 0, 4, .inl (a12))), ((g 13), .inl (cT 1, 160, .inr (.inl (a13))))] _ := hP
  have hD : va_D A [(h0, .inr (9, (.int 0 :: .ref (g 0) :: .ref (g 1) :: .ref (g 2) :: .ref (g 3) :: .int b5 :: .int b6 :: .int b7 :: .int b8 :: .int b9 :: .int b10 :: .int b11 :: .int b12 :: .int b13 :: .int b14 :: .ref (g 4) :: .ref (g 5) :: .int b17 :: .int b18 :: .int b19 :: .ref (g 6) :: .ref (g 7) :: .ref (g 8) :: .int b23 :: .int b24 :: .int b25 :: .int b26 :: .int b27 :: .ref (g 9) :: .int b29 :: .ref (g 10) :: .int b31 :: .int b32 :: .int b33 :: .ref (g 11) :: .ref (g 12) :: .ref (g 13) :: []))), ((g 0), .inl (cT 0, 288, .inl (a0))), ((g 11), .inl (cT 0, 4, .inl (a11))), ((g 12), .inl (cT 0, 4, .inl (a12))), ((g 13), .inl (cT 1, 160, .inr (.inl (a13))))] := hD
  have qr_3_0 : Imp (¬ r_3.toInt = 0) (0 ≤ x.toInt ∧ x.toInt ≤ 3) := hwr_3.1
  have qr_3_1 : r_3 = 0 ∨ r_3 = 1 := hwr_3.2.1
  refine lv_if_ne (tgt := 20) hx hb dX9_copy_14 (by decide) (fun c_4 => ?_) (fun c_4 => ?_)
  · have ic_4 : ¬ r_3.toInt = 0 := ine c_4 (rfl) (by decide)
    have kqr_3_0 : 0 ≤ x.toInt ∧ x.toInt ≤ 3 := qr_3_0 ic_4
    refine lv_aload_n hx hb dX9_copy_20 rfl (lv_at hl 0 rfl) ?_
    refine va_get (D := D) (ci := 9) (v := .ref (g 11)) (C := RX9) (T := TX9) (N := 37) hx hb htg gRX9 hown hK hP 0 rfl rfl 34 (by decide) (htg _ wi_1184) (fun _ h9 => h9) rfl dX9_copy_21 ?_
    refine lv_iload_n hx hb dX9_copy_24 rfl (lv_at hl 1 rfl) ?_
    refine va_iald hx hb hK hP 2 0 rfl rfl (vp_in_iff.mpr (by omega)) dX9_copy_25 ?_
    refine lv_topi (fun z_5 ez_5 => ?_)
    refine lv_iconst (v := (-1)) hx hb dX9_copy_26 (by decide) ?_
    refine lv_icmp_ne (tgt := 33) hx hb dX9_copy_27 (by decide) (fun c_6 => ?_) (fun c_6 => ?_)
    · have ic_6 : ¬ z_5.toInt = (-1) := ine c_6 (rfl) (by decide)
      refine lv_aload_n hx hb dX9_copy_33 rfl (lv_at hl 0 rfl) ?_
      refine va_get (D := D) (ci := 9) (v := .ref (g 12)) (C := RX9) (T := TX9) (N := 37) hx hb htg gRX9 hown hK hP 0 rfl rfl 35 (by decide) (htg _ wi_1185) (fun _ h9 => h9) rfl dX9_copy_34 ?_
      refine lv_iload_n hx hb dX9_copy_37 rfl (lv_at hl 1 rfl) ?_
      refine va_iald hx hb hK hP 3 0 rfl rfl (vp_in_iff.mpr (by omega)) dX9_copy_38 ?_
      refine lv_topi (fun z_7 ez_7 => ?_)
      have iz_7 : 0 ≤ z_7.toInt ∧ z_7.toInt ≤ 40 := by rw [ez_7]; exact e12 _ (in_lt (vp_in_iff.mpr (by omega)))
      refine lv_aload_n hx hb dX9_copy_39 rfl (lv_at hl 0 rfl) ?_
      refine va_get (D := D) (ci := 9) (v := .ref (g 0)) (C := RX9) (T := TX9) (N := 37) hx hb htg gRX9 hown hK hP 0 rfl rfl 1 (by decide) (htg _ wi_1151) (fun _ h9 => h9) rfl dX9_copy_40 ?_
      refine lv_iconst (v := 0) hx hb dX9_copy_43 (by decide) ?_
      refine va_iald hx hb hK hP 1 0 rfl rfl (by unfold vp_in; decide) dX9_copy_44 ?_
      refine lv_topi (fun z_8 ez_8 => ?_)
      have iz_8 : 0 ≤ z_8.toInt ∧ z_8.toInt ≤ 16 := by rw [ez_8]; exact rd0 pa0 (by decide) rfl
      have nz_8 : z_8.toInt = ((a0) 0).toInt := by rw [ez_8]; rfl
      refine lv_icmp_ge (tgt := 51) hx hb dX9_copy_45 (by decide) (fun c_9 => ?_) (fun c_9 => ?_)
      · have ic_9 : z_8.toInt ≤ z_7.toInt := ile c_9 (rfl) (rfl)
        refine lv_iconst (v := 0) hx hb dX9_copy_51 (by decide) ?_
        refine lv_istore_n (lv' := [(2, .int 0), (0, .ref h0), (1, .int x)]) hx hb dX9_copy_52 rfl hl (by decide) rfl (fun ls hl => ?_)
        refine (fun (key : ∀ (n9_53 : Nat) (k9_53 : Nat) (f9_53_0 : Nat → Int64) (H : Heap) (locs : List Loc) (ls : Array Slot), (k9_53 : Int) ≤ 16 → 16 < (k9_53 : Int) + n9_53 → va_P D classes [(h0, .inr (9, (.int 0 :: .ref (g 0) :: .ref (g 1) :: .ref (g 2) :: .ref (g 3) :: .int b5 :: .int b6 :: .int b7 :: .int b8 :: .int b9 :: .int b10 :: .int b11 :: .int b12 :: .int b13 :: .int b14 :: .ref (g 4) :: .ref (g 5) :: .int b17 :: .int b18 :: .int b19 :: .ref (g 6) :: .ref (g 7) :: .ref (g 8) :: .int b23 :: .int b24 :: .int b25 :: .int b26 :: .int b27 :: .ref (g 9) :: .int b29 :: .ref (g 10) :: .int b31 :: .int b32 :: .int b33 :: .ref (g 11) :: .ref (g 12) :: .ref (g 13) :: []))), ((g 0), .inl (cT 0, 288, .inl (a0))), ((g 11), .inl (cT 0, 4, .inl (a11))), ((g 12), .inl (cT 0, 4, .inl (a12))), ((g 13), .inl (cT 1, 160, .inr (.inl (f9_53_0))))] H → va_D A [(h0, .inr (9, (.int 0 :: .ref (g 0) :: .ref (g 1) :: .ref (g 2) :: .ref (g 3) :: .int b5 :: .int b6 :: .int b7 :: .int b8 :: .int b9 :: .int b10 :: .int b11 :: .int b12 :: .int b13 :: .int b14 :: .ref (g 4) :: .ref (g 5) :: .int b17 :: .int b18 :: .int b19 :: .ref (g 6) :: .ref (g 7) :: .ref (g 8) :: .int b23 :: .int b24 :: .int b25 :: .int b26 :: .int b27 :: .ref (g 9) :: .int b29 :: .ref (g 10) :: .int b31 :: .int b32 :: .int b33 :: .ref (g 11) :: .ref (g 12) :: .ref (g 13) :: []))), ((g 0), .inl (cT 0, 288, .inl (a0))), ((g 11), .inl (cT 0, 4, .inl (a11))), ((g 12), .inl (cT 0, 4, .inl (a12))), ((g 13), .inl (cT 1, 160, .inr (.inl (f9_53_0))))] → va_S A s.heap H locs → lv_has ls 3 [(2, .int (nI k9_53)), (0, .ref h0), (1, .int x)] → W p l e _ s m _ below meth c H locs _ _ _ (F0 m 53 ls [])) => key (Int.toNat (16 - 0) + 1) 0 _ _ _ _ (by omega) (by omega)  hP hD hS (lv_sub hl [0, 1, 2] rfl)) ?_
        intro n9_53
        induction n9_53 with
        | zero => intro k9_53 f9_53_0 H locs ls hq1 hq2; exact absurd hq2 (by omega)
        | succ n9_53 ih_53 =>
          intro k9_53 f9_53_0 H locs ls hq1_53 hq2_53  hP hD hS hl
          have hk9_53 : (nI k9_53).toInt = (k9_53 : Int) := nI_toInt (by omega)
          refine lv_iload_n hx hb dX9_copy_53 rfl (lv_at hl 0 rfl) ?_
          refine lv_aload_n hx hb dX9_copy_54 rfl (lv_at hl 1 rfl) ?_
          refine va_get (D := D) (ci := 9) (v := .ref (g 0)) (C := RX9) (T := TX9) (N := 37) hx hb htg gRX9 hown hK hP 0 rfl rfl 1 (by decide) (htg _ wi_1151) (fun _ h9 => h9) rfl dX9_copy_55 ?_
          refine lv_iconst (v := 0) hx hb dX9_copy_58 (by decide) ?_
          refine va_iald hx hb hK hP 1 0 rfl rfl (by unfold vp_in; decide) dX9_copy_59 ?_
          refine lv_topi (fun z_10 ez_10 => ?_)
          have iz_10 : 0 ≤ z_10.toInt ∧ z_10.toInt ≤ 16 := by rw [ez_10]; exact rd0 pa0 (by decide) rfl
          have nz_10 : z_10.toInt = ((a0) 0).toInt := by rw [ez_10]; rfl
          refine lv_icmp_ge (tgt := 90) hx hb dX9_copy_60 (by decide) (fun c_11 => ?_) (fun c_11 => ?_)
          · have ic_11 : z_10.toInt ≤ ((k9_53 : Nat) : Int) := ile c_11 (rfl) (nI_toInt (by omega))
            refine lv_aload_n hx hb dX9_copy_90 rfl (lv_at hl 1 rfl) ?_
            refine va_get (D := D) (ci := 9) (v := .ref (g 0)) (C := RX9) (T := TX9) (N := 37) hx hb htg gRX9 hown hK hP 0 rfl rfl 1 (by decide) (htg _ wi_1151) (fun _ h9 => h9) rfl dX9_copy_91 ?_
            refine lv_iconst (v := 0) hx hb dX9_copy_94 (by decide) ?_
            refine va_iald hx hb hK hP 1 0 rfl rfl (by unfold vp_in; decide) dX9_copy_95 ?_
            refine lv_topi (fun z_12 ez_12 => ?_)
            have iz_12 : 0 ≤ z_12.toInt ∧ z_12.toInt ≤ 16 := by rw [ez_12]; exact rd0 pa0 (by decide) rfl
            have nz_12 : z_12.toInt = ((a0) 0).toInt := by rw [ez_12]; rfl
            exact x_iret hx hb hr hlk hP hD hS [0, 1, 2, 3, 4] ((0, f9_53_0)) rfl (by decide) trivial (by decide) (by decide) dX9_copy_96
          · have ic_11 : ((k9_53 : Nat) : Int) < z_10.toInt := inle c_11 (rfl) (nI_toInt (by omega))
            refine lv_aload_n hx hb dX9_copy_63 rfl (lv_at hl 1 rfl) ?_
            refine va_get (D := D) (ci := 9) (v := .ref (g 13)) (C := RX9) (T := TX9) (N := 37) hx hb htg gRX9 hown hK hP 0 rfl rfl 36 (by decide) (htg _ wi_1186) (fun _ h9 => h9) rfl dX9_copy_64 ?_
            refine lv_bipush (v := 40) hx hb dX9_copy_67 (by decide) ?_
            refine lv_iload_n hx hb dX9_copy_69 rfl (lv_at hl 2 rfl) ?_
            refine lv_imul hx hb dX9_copy_70 ?_
            refine lv_topi (fun z_13 ez_13 => ?_)
            have iz_13 : z_13.toInt = 40 * x.toInt := toInt_mulI ez_13 (by decide) (rfl) (by omega)
            refine lv_iload_n hx hb dX9_copy_71 rfl (lv_at hl 0 rfl) ?_
            refine lv_iadd hx hb dX9_copy_72 ?_
            refine lv_topi (fun z_14 ez_14 => ?_)
            have iz_14 : z_14.toInt = z_13.toInt + ((k9_53 : Nat) : Int) := toInt_addI ez_14 (rfl) (nI_toInt (by omega)) (by omega)
            refine lv_aload_n hx hb dX9_copy_73 rfl (lv_at hl 1 rfl) ?_
            refine va_get (D := D) (ci := 9) (v := .ref (g 0)) (C := RX9) (T := TX9) (N := 37) hx hb htg gRX9 hown hK hP 0 rfl rfl 1 (by decide) (htg _ wi_1151) (fun _ h9 => h9) rfl dX9_copy_74 ?_
            refine lv_bipush (v := 16) hx hb dX9_copy_77 (by decide) ?_
            refine lv_iload_n hx hb dX9_copy_79 rfl (lv_at hl 0 rfl) ?_
            refine lv_iadd hx hb dX9_copy_80 ?_
            refine lv_is (y := nI (16 + k9_53)) (nI_add 16 (k9_53)) ?_
            refine va_iald hx hb hK hP 1 0 rfl rfl (vp_in_nI (by omega) (by omega)) dX9_copy_81 ?_
            refine lv_topi (fun z_15 ez_15 => ?_)
            refine lv_i2l (v := z_15.toInt64) hx hb dX9_copy_82 rfl ?_
            refine va_last hx hb hK hP hD hS 4 1 rfl rfl (vp_in_iff.mpr (by omega)) dX9_copy_83 (fun H locs hP hD hS => ?_)
            obtain ⟨f_16, hP, hD⟩ : ∃ f_16 : Nat → Int64, va_P D classes [(h0, .inr (9, (.int 0 :: .ref (g 0) :: .ref (g 1) :: .ref (g 2) :: .ref (g 3) :: .int b5 :: .int b6 :: .int b7 :: .int b8 :: .int b9 :: .int b10 :: .int b11 :: .int b12 :: .int b13 :: .int b14 :: .ref (g 4) :: .ref (g 5) :: .int b17 :: .int b18 :: .int b19 :: .ref (g 6) :: .ref (g 7) :: .ref (g 8) :: .int b23 :: .int b24 :: .int b25 :: .int b26 :: .int b27 :: .ref (g 9) :: .int b29 :: .ref (g 10) :: .int b31 :: .int b32 :: .int b33 :: .ref (g 11) :: .ref (g 12) :: .ref (g 13) :: []))), ((g 0), .inl (cT 0, 288, .inl (a0))), ((g 11), .inl (cT 0, 4, .inl (a11))), ((g 12), .inl (cT 0, 4, .inl (a12))), ((g 13), .inl (cT 1, 160, .inr (.inl (f_16))))] H ∧ va_D A [(h0, .inr (9, (.int 0 :: .ref (g 0) :: .ref (g 1) :: .ref (g 2) :: .ref (g 3) :: .int b5 :: .int b6 :: .int b7 :: .int b8 :: .int b9 :: .int b10 :: .int b11 :: .int b12 :: .int b13 :: .int b14 :: .ref (g 4) :: .ref (g 5) :: .int b17 :: .int b18 :: .int b19 :: .ref (g 6) :: .ref (g 7) :: .ref (g 8) :: .int b23 :: .int b24 :: .int b25 :: .int b26 :: .int b27 :: .ref (g 9) :: .int b29 :: .ref (g 10) :: .int b31 :: .int b32 :: .int b33 :: .ref (g 11) :: .ref (g 12) :: .ref (g 13) :: []))), ((g 0), .inl (cT 0, 288, .inl (a0))), ((g 11), .inl (cT 0, 4, .inl (a11))), ((g 12), .inl (cT 0, 4, .inl (a12))), ((g 13), .inl (cT 1, 160, .inr (.inl (f_16))))] := ⟨_, hP, hD⟩
            refine lv_iinc (v := (nI (k9_53 + 1))) (lv' := [(2, .int (nI (k9_53 + 1))), (0, .ref h0), (1, .int x)]) hx hb dX9_copy_84 hl (k := 0) rfl (by exact nI_1 (k9_53)) (by decide) rfl (fun ls hl => ?_)
            refine lv_goto (tgt := 53) hx hb dX9_copy_87 (by decide) ?_
            exact ih_53 (k9_53 + 1) _ _ _ _ (by omega) (by omega)  (hP.sub [0, 1, 2, 3, 4] rfl) (hD.sub [0, 1, 2, 3, 4] (by decide) rfl) hS (lv_sub hl [0, 1, 2] rfl)
      · have ic_9 : z_7.toInt < z_8.toInt := inle c_9 (rfl) (rfl)
        refine lv_bipush (v := (-7)) hx hb dX9_copy_48 (by decide) ?_
        exact x_iret hx hb hr hlk hP hD hS [0, 1, 2, 3, 4] ((0, a13)) rfl (by decide) trivial (by decide) (by decide) dX9_copy_50
    · have ic_6 : z_5.toInt = (-1) := ieq c_6 (rfl) (by decide)
      refine lv_bipush (v := (-6)) hx hb dX9_copy_30 (by decide) ?_
      exact x_iret hx hb hr hlk hP hD hS [0, 1, 2, 3, 4] ((0, a13)) rfl (by decide) trivial (by decide) (by decide) dX9_copy_32
  · have ic_4 : r_3.toInt = 0 := ieq c_4 (rfl) (by decide)
    refine lv_bipush (v := (-2)) hx hb dX9_copy_17 (by decide) ?_
    exact x_iret hx hb hr hlk hP hD hS [0, 1, 2, 3, 4] ((0, a13)) rfl (by decide) trivial (by decide) (by decide) dX9_copy_19
set_option maxHeartbeats 4000000 in
set_option maxRecDepth 100000 in
theorem m_image (l : Launch) (D : va_G) (cT : Nat → ClassId) (sz : Nat) (h0 : Nat) (g : Nat → Nat) (b0 : Int32) (b5 : Int32) (b6 : Int32) (b7 : Int32) (b8 : Int32) (b9 : Int32) (b10 : Int32) (b11 : Int32) (b12 : Int32) (b13 : Int32) (b14 : Int32) (b17 : Int32) (b18 : Int32) (b19 : Int32) (b23 : Int32) (b24 : Int32) (b25 : Int32) (b26 : Int32) (b27 : Int32) (b29 : Int32) (b31 : Int32) (b32 : Int32) (b33 : Int32) (hb5 : 0 ≤ b5.toInt ∧ b5.toInt ≤ 900) (a0 : Nat → Int32) (pa0 : PI 288 a0) (a1 : Nat → Int32) (x : Int32) : Met l yX9_image (wsc yX9_image cX9_image 3 (some .int)) { frames := 3, cells := 0, slots := 0, locals := 125 } (va_Pc [.ref h0, .int x] (PX D cT sz [(h0, .inr (9, (.int b0 :: .ref (g 0) :: .ref (g 1) :: .ref (g 2) :: .ref (g 3) :: .int b5 :: .int b6 :: .int b7 :: .int b8 :: .int b9 :: .int b10 :: .int b11 :: .int b12 :: .int b13 :: .int b14 :: .ref (g 4) :: .ref (g 5) :: .int b17 :: .int b18 :: .int b19 :: .ref (g 6) :: .ref (g 7) :: .ref (g 8) :: .int b23 :: .int b24 :: .int b25 :: .int b26 :: .int b27 :: .ref (g 9) :: .int b29 :: .ref (g 10) :: .int b31 :: .int b32 :: .int b33 :: .ref (g 11) :: .ref (g 12) :: .ref (g 13) :: []))), ((g 0), .inl (cT 0, 288, .inl (a0))), ((g 1), .inl (cT 3, 2, .inl (a1)))])) (va_Qi (fun (r : Int32) (u : Int32 × (Nat → Int32) × (Nat → Int32)) => (PI 288 u.2.1) ∧ (True)) (fun u t => RW D (va_A [(h0, .inr (9, (.int b0 :: .ref (g 0) :: .ref (g 1) :: .ref (g 2) :: .ref (g 3) :: .int b5 :: .int b6 :: .int b7 :: .int b8 :: .int b9 :: .int b10 :: .int b11 :: .int b12 :: .int b13 :: .int b14 :: .ref (g 4) :: .ref (g 5) :: .int b17 :: .int b18 :: .int b19 :: .ref (g 6) :: .ref (g 7) :: .ref (g 8) :: .int b23 :: .int b24 :: .int b25 :: .int b26 :: .int b27 :: .ref (g 9) :: .int b29 :: .ref (g 10) :: .int b31 :: .int b32 :: .int b33 :: .ref (g 11) :: .ref (g 12) :: .ref (g 13) :: []))), ((g 0), .inl (cT 0, 288, .inl (a0))), ((g 1), .inl (cT 3, 2, .inl (a1)))] sz) ((fun u : Int32 × (Nat → Int32) × (Nat → Int32) => [(h0, .inr (9, (.int u.1 :: .ref (g 0) :: .ref (g 1) :: .ref (g 2) :: .ref (g 3) :: .int b5 :: .int b6 :: .int b7 :: .int b8 :: .int b9 :: .int b10 :: .int b11 :: .int b12 :: .int b13 :: .int b14 :: .ref (g 4) :: .ref (g 5) :: .int b17 :: .int b18 :: .int b19 :: .ref (g 6) :: .ref (g 7) :: .ref (g 8) :: .int b23 :: .int b24 :: .int b25 :: .int b26 :: .int b27 :: .ref (g 9) :: .int b29 :: .ref (g 10) :: .int b31 :: .int b32 :: .int b33 :: .ref (g 11) :: .ref (g 12) :: .ref (g 13) :: []))), ((g 0), .inl (cT 0, 288, .inl (u.2.1))), ((g 1), .inl (cT 3, 2, .inl (u.2.2)))]) u) t) (va_A [(h0, .inr (9, (.int b0 :: .ref (g 0) :: .ref (g 1) :: .ref (g 2) :: .ref (g 3) :: .int b5 :: .int b6 :: .int b7 :: .int b8 :: .int b9 :: .int b10 :: .int b11 :: .int b12 :: .int b13 :: .int b14 :: .ref (g 4) :: .ref (g 5) :: .int b17 :: .int b18 :: .int b19 :: .ref (g 6) :: .ref (g 7) :: .ref (g 8) :: .int b23 :: .int b24 :: .int b25 :: .int b26 :: .int b27 :: .ref (g 9) :: .int b29 :: .ref (g 10) :: .int b31 :: .int b32 :: .int b33 :: .ref (g 11) :: .ref (g 12) :: .ref (g 13) :: []))), ((g 0), .inl (cT 0, 288, .inl (a0))), ((g 1), .inl (cT 3, 2, .inl (a1)))] sz)) 0 0 (va_A [(h0, .inr (9, (.int b0 :: .ref (g 0) :: .ref (g 1) :: .ref (g 2) :: .ref (g 3) :: .int b5 :: .int b6 :: .int b7 :: .int b8 :: .int b9 :: .int b10 :: .int b11 :: .int b12 :: .int b13 :: .int b14 :: .ref (g 4) :: .ref (g 5) :: .int b17 :: .int b18 :: .int b19 :: .ref (g 6) :: .ref (g 7) :: .ref (g 8) :: .int b23 :: .int b24 :: .int b25 :: .int b26 :: .int b27 :: .ref (g 9) :: .int b29 :: .ref (g 10) :: .int b31 :: .int b32 :: .int b33 :: .ref (g 11) :: .ref (g 12) :: .ref (g 13) :: []))), ((g 0), .inl (cT 0, 288, .inl (a0))), ((g 1), .inl (cT 3, 2, .inl (a1)))] sz) := by
  refine m_of (y := yX9_image) (cc := cX9_image) (nL := 3) (ret := (some .int)) (D := D) (cT := cT) (av := [.ref h0, .int x]) (wi := [(h0, .inr (9, (.int b0 :: .ref (g 0) :: .ref (g 1) :: .ref (g 2) :: .ref (g 3) :: .int b5 :: .int b6 :: .int b7 :: .int b8 :: .int b9 :: .int b10 :: .int b11 :: .int b12 :: .int b13 :: .int b14 :: .ref (g 4) :: .ref (g 5) :: .int b17 :: .int b18 :: .int b19 :: .ref (g 6) :: .ref (g 7) :: .ref (g 8) :: .int b23 :: .int b24 :: .int b25 :: .int b26 :: .int b27 :: .ref (g 9) :: .int b29 :: .ref (g 10) :: .int b31 :: .int b32 :: .int b33 :: .ref (g 11) :: .ref (g 12) :: .ref (g 13) :: []))), ((g 0), .inl (cT 0, 288, .inl (a0))), ((g 1), .inl (cT 3, 2, .inl (a1)))]) (fun A => va_Qi (fun (r : Int32) (u : Int32 × (Nat → Int32) × (Nat → Int32)) => (PI 288 u.2.1) ∧ (True)) (fun u t => RW D A ((fun u : Int32 × (Nat → Int32) × (Nat → Int32) => [(h0, .inr (9, (.int u.1 :: .ref (g 0) :: .ref (g 1) :: .ref (g 2) :: .ref (g 3) :: .int b5 :: .int b6 :: .int b7 :: .int b8 :: .int b9 :: .int b10 :: .int b11 :: .int b12 :: .int b13 :: .int b14 :: .ref (g 4) :: .ref (g 5) :: .int b17 :: .int b18 :: .int b19 :: .ref (g 6) :: .ref (g 7) :: .ref (g 8) :: .int b23 :: .int b24 :: .int b25 :: .int b26 :: .int b27 :: .ref (g 9) :: .int b29 :: .ref (g 10) :: .int b31 :: .int b32 :: .int b33 :: .ref (g 11) :: .ref (g 12) :: .ref (g 13) :: []))), ((g 0), .inl (cT 0, 288, .inl (u.2.1))), ((g 1), .inl (cT 3, 2, .inl (u.2.2)))]) u) t) A) (by decide) (Nat.le_of_ble_eq_true rfl) ?_
  intro p e s m below meth c A hx hb hml hown htg hK hN hr hlk hnm hsz hP hD hS hA ls hl
  have hown : s.vm.findClass RX9 = some m.cls := hown
  have hl : lv_has ls 3 [(0, .ref h0), (1, .int x)] := hl
  have tc_m2 : ((-2) : Int32).toInt = (-2) := by decide
  have tc_0 : (0 : Int32).toInt = 0 := by decide
  have tc_1 : (1 : Int32).toInt = 1 := by decide
  have tc_96 : (96 : Int32).toInt = 96 := by decide
  refine lv_aload_n hx hb dX9_image_0 rfl (lv_at hl 0 rfl) ?_
  refine lv_iconst (v := 0) hx hb dX9_image_1 (by decide) ?_
  refine va_put (D := D) (ci := 9) (v := .int 0) (ty := .int) (C := RX9) (T := TX9) (N := 37) hx hb htg gRX9 tyX9 tyX9_ok nmX9 hown hK hP hD hS 0 rfl rfl 0 (by decide) (htg _ wi_1150) (fun _ h9 => h9) rfl (by decide +kernel) rfl rfl (Nat.le_of_ble_eq_true rfl) dX9_image_2 (fun H locs hP hD hS => ?_)
  have hP : va_P D classes [(h0, .inr (9, (.int 0 :: .ref (g 0) :: .ref (g 1) :: .ref (g 2) :: .ref (g 3) :: .int b5 :: .int b6 :: .int b7 :: .int b8 :: .int b9 :: .int b10 :: .int b11 :: .int b12 :: .int b13 :: .int b14 :: .ref (g 4) :: .ref (g 5) :: .int b17 :: .int b18 :: .int b19 :: .ref (g 6) :: .ref (g 7) :: .ref (g 8) :: .int b23 :: .int b24 :: .int b25 :: .int b26 :: .int b27 :: .ref (g 9) :: .int b29 :: .ref (g 10) :: .int b31 :: .int b32 :: .int b33 :: .ref (g 11) :: .ref (g 12) :: .ref (g 13) :: []))), ((g 0), .inl (cT 0, 288, .inl (a0))), ((g 1), .inl (cT 3, 2, .inl (a1)))] _ := hP
  have hD : va_D A [(h0, .inr (9, (.int 0 :: .ref (g 0) :: .ref (g 1) :: .ref (g 2) :: .ref (g 3) :: .int b5 :: .int b6 :: .int b7 :: .int b8 :: .int b9 :: .int b10 :: .int b11 :: .int b12 :: .int b13 :: .int b14 :: .ref (g 4) :: .ref (g 5) :: .int b17 :: .int b18 :: .int b19 :: .ref (g 6) :: .ref (g 7) :: .ref (g 8) :: .int b23 :: .int b24 :: .int b25 :: .int b26 :: .int b27 :: .ref (g 9) :: .int b29 :: .ref (g 10) :: .int b31 :: .int b32 :: .int b33 :: .ref (g 11) :: .ref (g 12) :: .ref (g 13) :: []))), ((g 0), .inl (cT 0, 288, .inl (a0))), ((g 1), .inl (cT 3, 2, .inl (a1)))] := hD
  refine lv_iload_n hx hb dX9_image_5 rfl (lv_at hl 1 rfl) ?_
  refine lv_i2l (v := x.toInt64) hx hb dX9_image_6 rfl ?_
  refine lv_lconst (v := 0) hx hb dX9_image_7 (by decide) ?_
  refine lv_lconst (v := 1) hx hb dX9_image_8 (by decide) ?_
  have ilw_1 : (x.toInt64).toInt = x.toInt := i2l_i _
  refine xk_i (wr := [(h0, .inr (9, (.int 0 :: .ref (g 0) :: .ref (g 1) :: .ref (g 2) :: .ref (g 3) :: .int b5 :: .int b6 :: .int b7 :: .int b8 :: .int b9 :: .int b10 :: .int b11 :: .int b12 :: .int b13 :: .int b14 :: .ref (g 4) :: .ref (g 5) :: .int b17 :: .int b18 :: .int b19 :: .ref (g 6) :: .ref (g 7) :: .ref (g 8) :: .int b23 :: .int b24 :: .int b25 :: .int b26 :: .int b27 :: .ref (g 9) :: .int b29 :: .ref (g 10) :: .int b31 :: .int b32 :: .int b33 :: .ref (g 11) :: .ref (g 12) :: .ref (g 13) :: []))), ((g 0), .inl (cT 0, 288, .inl (a0))), ((g 1), .inl (cT 3, 2, .inl (a1)))]) (xr_S (n := 3) (As := [.long x.toInt64, .long 0, .long 1]) (rest := []) ⟨hx, hb, hml, hown, htg⟩ hK hN hP hD hS hA [] rfl (by decide) (m_within l D cT _ (x.toInt64) (0) (1) (x.toInt) (0) (1) (i2l_i _) (by decide) (by decide)) wi_1270 wi_1271 wi_131 wi_1272 ⟨rfl, by decide +kernel⟩ ⟨Nat.le_of_ble_eq_true rfl, Nat.le_of_ble_eq_true rfl⟩ rfl hl.1 rfl (Nat.le_of_ble_eq_true rfl) dX9_image_9 ⟨Nat.le_of_ble_eq_true rfl, Nat.le_of_ble_eq_true rfl⟩) hP hD hS hA [] [0, 1, 2] rfl rfl (by decide) (by decide) (fun r_3 u_2 H locs hwr_3 hP hD hS => ?_)
  have hP : va_P D classes [(h0, .inr (9, (.int 0 :: .ref (g 0) :: .ref (g 1) :: .ref (g 2) :: .ref (g 3) :: .int b5 :: .int b6 :: .int b7 :: .int b8 :: .int b9 :: .int b10 :: .int b11 :: .int b12 :: .int b13 :: .int b14 :: .ref (g 4) :: .ref (g 5) :: .int b17 :: .int b18 :: .int b19 :: .ref (g 6) :: .ref (g 7) :: .ref (g 8) :: .int b23 :: .int b24 :: .int b25 :: .int b26 :: .int b27 :: .ref (g 9) :: .int b29 :: .ref (g 10) :: .int b31 :: .int b32 :: .int b33 :: .ref (g 11) :: .ref (g 12) :: .ref (g 13) :: []))), ((g 0), .inl (cT 0, 288, .inl (a0))), ((g 1), .inl (cT 3, 2, .inl (a1)))] _ := hP
  have hD : va_D A [(h0, .inr (9, (.int 0 :: .ref (g 0) :: .ref (g 1) :: .ref (g 2) :: .ref (g 3) :: .int b5 :: .int b6 :: .int b7 :: .int b8 :: .int b9 :: .int b10 :: .int b11 :: .int b12 :: .int b13 :: .int b14 :: .ref (g 4) :: .ref (g 5) :: .int b17 :: .int b18 :: .int b19 :: .ref (g 6) :: .ref (g 7) :: .ref (g 8) :: .int b23 :: .int b24 :: .int b25 :: .int b26 :: .int b27 :: .ref (g 9) :: .int b29 :: .ref (g 10) :: .int b31 :: .int b32 :: .int b33 :: .ref (g 11) :: .ref (g 12) :: .ref (g 13) :: []))), ((g 0), .inl (cT 0, 288, .inl (a0))), ((g 1), .inl (cT 3, 2, .inl (a1)))] := hD
  have qr_3_0 : Imp (¬ r_3.toInt = 0) (0 ≤ x.toInt ∧ x.toInt ≤ 1) := hwr_3.1
  have qr_3_1 : r_3 = 0 ∨ r_3 = 1 := hwr_3.2.1
  refine lv_if_ne (tgt := 18) hx hb dX9_image_12 (by decide) (fun c_4 => ?_) (fun c_4 => ?_)
  · have ic_4 : ¬ r_3.toInt = 0 := ine c_4 (rfl) (by decide)
    have kqr_3_0 : 0 ≤ x.toInt ∧ x.toInt ≤ 1 := qr_3_0 ic_4
    refine lv_iconst (v := 0) hx hb dX9_image_18 (by decide) ?_
    refine lv_istore_n (lv' := [(2, .int 0), (0, .ref h0), (1, .int x)]) hx hb dX9_image_19 rfl hl (by decide) rfl (fun ls hl => ?_)
    refine (fun (key : ∀ (n9_20 : Nat) (k9_20 : Nat) (f9_20_0 : Nat → Int32) (H : Heap) (locs : List Loc) (ls : Array Slot), (k9_20 : Int) ≤ 96 → 96 < (k9_20 : Int) + n9_20 → PI 288 f9_20_0 → va_P D classes [(h0, .inr (9, (.int 0 :: .ref (g 0) :: .ref (g 1) :: .ref (g 2) :: .ref (g 3) :: .int b5 :: .int b6 :: .int b7 :: .int b8 :: .int b9 :: .int b10 :: .int b11 :: .int b12 :: .int b13 :: .int b14 :: .ref (g 4) :: .ref (g 5) :: .int b17 :: .int b18 :: .int b19 :: .ref (g 6) :: .ref (g 7) :: .ref (g 8) :: .int b23 :: .int b24 :: .int b25 :: .int b26 :: .int b27 :: .ref (g 9) :: .int b29 :: .ref (g 10) :: .int b31 :: .int b32 :: .int b33 :: .ref (g 11) :: .ref (g 12) :: .ref (g 13) :: []))), ((g 0), .inl (cT 0, 288, .inl (f9_20_0))), ((g 1), .inl (cT 3, 2, .inl (a1)))] H → va_D A [(h0, .inr (9, (.int 0 :: .ref (g 0) :: .ref (g 1) :: .ref (g 2) :: .ref (g 3) :: .int b5 :: .int b6 :: .int b7 :: .int b8 :: .int b9 :: .int b10 :: .int b11 :: .int b12 :: .int b13 :: .int b14 :: .ref (g 4) :: .ref (g 5) :: .int b17 :: .int b18 :: .int b19 :: .ref (g 6) :: .ref (g 7) :: .ref (g 8) :: .int b23 :: .int b24 :: .int b25 :: .int b26 :: .int b27 :: .ref (g 9) :: .int b29 :: .ref (g 10) :: .int b31 :: .int b32 :: .int b33 :: .ref (g 11) :: .ref (g 12) :: .ref (g 13) :: []))), ((g 0), .inl (cT 0, 288, .inl (f9_20_0))), ((g 1), .inl (cT 3, 2, .inl (a1)))] → va_S A s.heap H locs → lv_has ls 3 [(2, .int (nI k9_20)), (0, .ref h0), (1, .int x)] → W p l e _ s m _ below meth c H locs _ _ _ (F0 m 20 ls [])) => key (Int.toNat (96 - 0) + 1) 0 _ _ _ _ (by omega) (by omega) (by first | assumption | omega | decide | (simp only [ti_0, ti_1, ti_2, ti_3, ti_4, ti_5, ti_6, ti_7, ti_8, ti_9, ti_10, ti_11, ti_12, ti_m1]; omega)) hP hD hS (lv_sub hl [0, 1, 2] rfl)) ?_
    intro n9_20
    induction n9_20 with
    | zero => intro k9_20 f9_20_0 H locs ls hq1 hq2; exact absurd hq2 (by omega)
    | succ n9_20 ih_20 =>
      intro k9_20 f9_20_0 H locs ls hq1_20 hq2_20 h9_20_0 hP hD hS hl
      have hk9_20 : (nI k9_20).toInt = (k9_20 : Int) := nI_toInt (by omega)
      refine lv_iload_n hx hb dX9_image_20 rfl (lv_at hl 0 rfl) ?_
      refine lv_bipush (v := 96) hx hb dX9_image_21 (by decide) ?_
      refine lv_icmp_ge (tgt := 51) hx hb dX9_image_23 (by decide) (fun c_5 => ?_) (fun c_5 => ?_)
      · have ic_5 : 96 ≤ ((k9_20 : Nat) : Int) := ile c_5 (by decide) (nI_toInt (by omega))
        refine lv_aload_n hx hb dX9_image_51 rfl (lv_at hl 1 rfl) ?_
        refine va_get (D := D) (ci := 9) (v := .ref (g 1)) (C := RX9) (T := TX9) (N := 37) hx hb htg gRX9 hown hK hP 0 rfl rfl 2 (by decide) (htg _ wi_1152) (fun _ h9 => h9) rfl dX9_image_52 ?_
        refine lv_iload_n hx hb dX9_image_55 rfl (lv_at hl 2 rfl) ?_
        refine lv_iconst (v := 1) hx hb dX9_image_56 (by decide) ?_
        refine va_zast hx hb hK hP hD hS 2 3 rfl rfl (vp_in_iff.mpr (by omega)) dX9_image_57 (fun H locs hP hD hS => ?_)
        obtain ⟨f_6, hP, hD⟩ : ∃ f_6 : Nat → Int32, va_P D classes [(h0, .inr (9, (.int 0 :: .ref (g 0) :: .ref (g 1) :: .ref (g 2) :: .ref (g 3) :: .int b5 :: .int b6 :: .int b7 :: .int b8 :: .int b9 :: .int b10 :: .int b11 :: .int b12 :: .int b13 :: .int b14 :: .ref (g 4) :: .ref (g 5) :: .int b17 :: .int b18 :: .int b19 :: .ref (g 6) :: .ref (g 7) :: .ref (g 8) :: .int b23 :: .int b24 :: .int b25 :: .int b26 :: .int b27 :: .ref (g 9) :: .int b29 :: .ref (g 10) :: .int b31 :: .int b32 :: .int b33 :: .ref (g 11) :: .ref (g 12) :: .ref (g 13) :: []))), ((g 0), .inl (cT 0, 288, .inl (f9_20_0))), ((g 1), .inl (cT 3, 2, .inl (f_6)))] H ∧ va_D A [(h0, .inr (9, (.int 0 :: .ref (g 0) :: .ref (g 1) :: .ref (g 2) :: .ref (g 3) :: .int b5 :: .int b6 :: .int b7 :: .int b8 :: .int b9 :: .int b10 :: .int b11 :: .int b12 :: .int b13 :: .int b14 :: .ref (g 4) :: .ref (g 5) :: .int b17 :: .int b18 :: .int b19 :: .ref (g 6) :: .ref (g 7) :: .ref (g 8) :: .int b23 :: .int b24 :: .int b25 :: .int b26 :: .int b27 :: .ref (g 9) :: .int b29 :: .ref (g 10) :: .int b31 :: .int b32 :: .int b33 :: .ref (g 11) :: .ref (g 12) :: .ref (g 13) :: []))), ((g 0), .inl (cT 0, 288, .inl (f9_20_0))), ((g 1), .inl (cT 3, 2, .inl (f_6)))] := ⟨_, hP, hD⟩
        refine lv_iconst (v := 0) hx hb dX9_image_58 (by decide) ?_
        exact x_iret hx hb hr hlk hP hD hS [0, 1, 2] ((0, f9_20_0, f_6)) rfl (by decide) ⟨by (try dsimp only); first | assumption | omega | decide | exact Or.inl (by decide) | (intro h9; exact absurd h9 (by decide)) | (intro _; omega) | (intro _; assumption) | (intro _; decide), trivial⟩ (by decide) (by decide) dX9_image_59
      · have ic_5 : ((k9_20 : Nat) : Int) < 96 := inle c_5 (by decide) (nI_toInt (by omega))
        refine lv_aload_n hx hb dX9_image_26 rfl (lv_at hl 1 rfl) ?_
        refine va_get (D := D) (ci := 9) (v := .ref (g 0)) (C := RX9) (T := TX9) (N := 37) hx hb htg gRX9 hown hK hP 0 rfl rfl 1 (by decide) (htg _ wi_1151) (fun _ h9 => h9) rfl dX9_image_27 ?_
        refine lv_bipush (v := 96) hx hb dX9_image_30 (by decide) ?_
        refine lv_iload_n hx hb dX9_image_32 rfl (lv_at hl 2 rfl) ?_
        refine lv_iconst (v := 1) hx hb dX9_image_33 (by decide) ?_
        refine lv_iadd hx hb dX9_image_34 ?_
        refine lv_topi (fun z_7 ez_7 => ?_)
        have iz_7 : z_7.toInt = x.toInt + 1 := toInt_addI ez_7 (rfl) (by decide) (by omega)
        refine lv_imul hx hb dX9_image_35 ?_
        refine lv_topi (fun z_8 ez_8 => ?_)
        have iz_8 : z_8.toInt = 96 * z_7.toInt := toInt_mulI ez_8 (by decide) (rfl) (by omega)
        refine lv_iload_n hx hb dX9_image_36 rfl (lv_at hl 0 rfl) ?_
        refine lv_iadd hx hb dX9_image_37 ?_
        refine lv_topi (fun z_9 ez_9 => ?_)
        have iz_9 : z_9.toInt = z_8.toInt + ((k9_20 : Nat) : Int) := toInt_addI ez_9 (rfl) (nI_toInt (by omega)) (by omega)
        refine lv_aload_n hx hb dX9_image_38 rfl (lv_at hl 1 rfl) ?_
        refine va_get (D := D) (ci := 9) (v := .ref (g 0)) (C := RX9) (T := TX9) (N := 37) hx hb htg gRX9 hown hK hP 0 rfl rfl 1 (by decide) (htg _ wi_1151) (fun _ h9 => h9) rfl dX9_image_39 ?_
        refine lv_iload_n hx hb dX9_image_42 rfl (lv_at hl 0 rfl) ?_
        refine va_iald hx hb hK hP 1 0 rfl rfl (vp_in_nI (by omega) (by omega)) dX9_image_43 ?_
        refine lv_topi (fun z_10 ez_10 => ?_)
        have oz_10 := pi_rd (a := ((k9_20 : Nat) : Int)) h9_20_0 ez_10 (nI_toInt (by omega)) (by omega)
        unfold OKP at oz_10
        refine va_iast hx hb hK hP hD hS 1 0 rfl rfl (vp_in_iff.mpr (by omega)) dX9_image_44 (fun H locs hP hD hS => ?_)
        obtain ⟨f_11, ef_11, hP, hD⟩ : ∃ f_11 : Nat → Int32, f_11 = upd (f9_20_0) (z_9 : Int32).toNatClampNeg z_10 ∧ va_P D classes [(h0, .inr (9, (.int 0 :: .ref (g 0) :: .ref (g 1) :: .ref (g 2) :: .ref (g 3) :: .int b5 :: .int b6 :: .int b7 :: .int b8 :: .int b9 :: .int b10 :: .int b11 :: .int b12 :: .int b13 :: .int b14 :: .ref (g 4) :: .ref (g 5) :: .int b17 :: .int b18 :: .int b19 :: .ref (g 6) :: .ref (g 7) :: .ref (g 8) :: .int b23 :: .int b24 :: .int b25 :: .int b26 :: .int b27 :: .ref (g 9) :: .int b29 :: .ref (g 10) :: .int b31 :: .int b32 :: .int b33 :: .ref (g 11) :: .ref (g 12) :: .ref (g 13) :: []))), ((g 0), .inl (cT 0, 288, .inl (f_11))), ((g 1), .inl (cT 3, 2, .inl (a1)))] H ∧ va_D A [(h0, .inr (9, (.int 0 :: .ref (g 0) :: .ref (g 1) :: .ref (g 2) :: .ref (g 3) :: .int b5 :: .int b6 :: .int b7 :: .int b8 :: .int b9 :: .int b10 :: .int b11 :: .int b12 :: .int b13 :: .int b14 :: .ref (g 4) :: .ref (g 5) :: .int b17 :: .int b18 :: .int b19 :: .ref (g 6) :: .ref (g 7) :: .ref (g 8) :: .int b23 :: .int b24 :: .int b25 :: .int b26 :: .int b27 :: .ref (g 9) :: .int b29 :: .ref (g 10) :: .int b31 :: .int b32 :: .int b33 :: .ref (g 11) :: .ref (g 12) :: .ref (g 13) :: []))), ((g 0), .inl (cT 0, 288, .inl (f_11))), ((g 1), .inl (cT 3, 2, .inl (a1)))] := ⟨_, rfl, hP, hD⟩
        have qf_11 : PI 288 f_11 := by rw [ef_11]; exact pi_upd (a := z_9.toInt) (b := z_10.toInt) h9_20_0 (rfl) (rfl) (by omega) (by unfold OKP; omega)
        refine lv_iinc (v := (nI (k9_20 + 1))) (lv' := [(2, .int (nI (k9_20 + 1))), (0, .ref h0), (1, .int x)]) hx hb dX9_image_45 hl (k := 0) rfl (by exact nI_1 (k9_20)) (by decide) rfl (fun ls hl => ?_)
        refine lv_goto (tgt := 20) hx hb dX9_image_48 (by decide) ?_
        exact ih_20 (k9_20 + 1) _ _ _ _ (by omega) (by omega) (by first | assumption | omega | decide | (simp only [ti_0, ti_1, ti_2, ti_3, ti_4, ti_5, ti_6, ti_7, ti_8, ti_9, ti_10, ti_11, ti_12, ti_m1]; omega)) (hP.sub [0, 1, 2] rfl) (hD.sub [0, 1, 2] (by decide) rfl) hS (lv_sub hl [0, 1, 2] rfl)
  · have ic_4 : r_3.toInt = 0 := ieq c_4 (rfl) (by decide)
    refine lv_bipush (v := (-2)) hx hb dX9_image_15 (by decide) ?_
    exact x_iret hx hb hr hlk hP hD hS [0, 1, 2] ((0, a0, a1)) rfl (by decide) ⟨by (try dsimp only); first | assumption | omega | decide | exact Or.inl (by decide) | (intro h9; exact absurd h9 (by decide)) | (intro _; omega) | (intro _; assumption) | (intro _; decide), trivial⟩ (by decide) (by decide) dX9_image_17
set_option maxHeartbeats 4000000 in
set_option maxRecDepth 100000 in
theorem m_restore (l : Launch) (D : va_G) (cT : Nat → ClassId) (sz : Nat) (h0 : Nat) (g : Nat → Nat) (b0 : Int32) (b5 : Int32) (b6 : Int32) (b7 : Int32) (b8 : Int32) (b9 : Int32) (b10 : Int32) (b11 : Int32) (b12 : Int32) (b13 : Int32) (b14 : Int32) (b17 : Int32) (b18 : Int32) (b19 : Int32) (b23 : Int32) (b24 : Int32) (b25 : Int32) (b26 : Int32) (b27 : Int32) (b29 : Int32) (b31 : Int32) (b32 : Int32) (b33 : Int32) (hb5 : 0 ≤ b5.toInt ∧ b5.toInt ≤ 900) (a0 : Nat → Int32) (pa0 : PI 288 a0) (a1 : Nat → Int32) (x : Int32) : Met l yX9_restore (wsc yX9_restore cX9_restore 3 (some .int)) { frames := 3, cells := 0, slots := 0, locals := 125 } (va_Pc [.ref h0, .int x] (PX D cT sz [(h0, .inr (9, (.int b0 :: .ref (g 0) :: .ref (g 1) :: .ref (g 2) :: .ref (g 3) :: .int b5 :: .int b6 :: .int b7 :: .int b8 :: .int b9 :: .int b10 :: .int b11 :: .int b12 :: .int b13 :: .int b14 :: .ref (g 4) :: .ref (g 5) :: .int b17 :: .int b18 :: .int b19 :: .ref (g 6) :: .ref (g 7) :: .ref (g 8) :: .int b23 :: .int b24 :: .int b25 :: .int b26 :: .int b27 :: .ref (g 9) :: .int b29 :: .ref (g 10) :: .int b31 :: .int b32 :: .int b33 :: .ref (g 11) :: .ref (g 12) :: .ref (g 13) :: []))), ((g 0), .inl (cT 0, 288, .inl (a0))), ((g 1), .inl (cT 3, 2, .inl (a1)))])) (va_Qi (fun (r : Int32) (u : Int32 × (Nat → Int32)) => (PI 288 u.2) ∧ (True)) (fun u t => RW D (va_A [(h0, .inr (9, (.int b0 :: .ref (g 0) :: .ref (g 1) :: .ref (g 2) :: .ref (g 3) :: .int b5 :: .int b6 :: .int b7 :: .int b8 :: .int b9 :: .int b10 :: .int b11 :: .int b12 :: .int b13 :: .int b14 :: .ref (g 4) :: .ref (g 5) :: .int b17 :: .int b18 :: .int b19 :: .ref (g 6) :: .ref (g 7) :: .ref (g 8) :: .int b23 :: .int b24 :: .int b25 :: .int b26 :: .int b27 :: .ref (g 9) :: .int b29 :: .ref (g 10) :: .int b31 :: .int b32 :: .int b33 :: .ref (g 11) :: .ref (g 12) :: .ref (g 13) :: []))), ((g 0), .inl (cT 0, 288, .inl (a0))), ((g 1), .inl (cT 3, 2, .inl (a1)))] sz) ((fun u : Int32 × (Nat → Int32) => [(h0, .inr (9, (.int u.1 :: .ref (g 0) :: .ref (g 1) :: .ref (g 2) :: .ref (g 3) :: .int b5 :: .int b6 :: .int b7 :: .int b8 :: .int b9 :: .int b10 :: .int b11 :: .int b12 :: .int b13 :: .int b14 :: .ref (g 4) :: .ref (g 5) :: .int b17 :: .int b18 :: .int b19 :: .ref (g 6) :: .ref (g 7) :: .ref (g 8) :: .int b23 :: .int b24 :: .int b25 :: .int b26 :: .int b27 :: .ref (g 9) :: .int b29 :: .ref (g 10) :: .int b31 :: .int b32 :: .int b33 :: .ref (g 11) :: .ref (g 12) :: .ref (g 13) :: []))), ((g 0), .inl (cT 0, 288, .inl (u.2))), ((g 1), .inl (cT 3, 2, .inl (a1)))]) u) t) (va_A [(h0, .inr (9, (.int b0 :: .ref (g 0) :: .ref (g 1) :: .ref (g 2) :: .ref (g 3) :: .int b5 :: .int b6 :: .int b7 :: .int b8 :: .int b9 :: .int b10 :: .int b11 :: .int b12 :: .int b13 :: .int b14 :: .ref (g 4) :: .ref (g 5) :: .int b17 :: .int b18 :: .int b19 :: .ref (g 6) :: .ref (g 7) :: .ref (g 8) :: .int b23 :: .int b24 :: .int b25 :: .int b26 :: .int b27 :: .ref (g 9) :: .int b29 :: .ref (g 10) :: .int b31 :: .int b32 :: .int b33 :: .ref (g 11) :: .ref (g 12) :: .ref (g 13) :: []))), ((g 0), .inl (cT 0, 288, .inl (a0))), ((g 1), .inl (cT 3, 2, .inl (a1)))] sz)) 0 0 (va_A [(h0, .inr (9, (.int b0 :: .ref (g 0) :: .ref (g 1) :: .ref (g 2) :: .ref (g 3) :: .int b5 :: .int b6 :: .int b7 :: .int b8 :: .int b9 :: .int b10 :: .int b11 :: .int b12 :: .int b13 :: .int b14 :: .ref (g 4) :: .ref (g 5) :: .int b17 :: .int b18 :: .int b19 :: .ref (g 6) :: .ref (g 7) :: .ref (g 8) :: .int b23 :: .int b24 :: .int b25 :: .int b26 :: .int b27 :: .ref (g 9) :: .int b29 :: .ref (g 10) :: .int b31 :: .int b32 :: .int b33 :: .ref (g 11) :: .ref (g 12) :: .ref (g 13) :: []))), ((g 0), .inl (cT 0, 288, .inl (a0))), ((g 1), .inl (cT 3, 2, .inl (a1)))] sz) := by
  refine m_of (y := yX9_restore) (cc := cX9_restore) (nL := 3) (ret := (some .int)) (D := D) (cT := cT) (av := [.ref h0, .int x]) (wi := [(h0, .inr (9, (.int b0 :: .ref (g 0) :: .ref (g 1) :: .ref (g 2) :: .ref (g 3) :: .int b5 :: .int b6 :: .int b7 :: .int b8 :: .int b9 :: .int b10 :: .int b11 :: .int b12 :: .int b13 :: .int b14 :: .ref (g 4) :: .ref (g 5) :: .int b17 :: .int b18 :: .int b19 :: .ref (g 6) :: .ref (g 7) :: .ref (g 8) :: .int b23 :: .int b24 :: .int b25 :: .int b26 :: .int b27 :: .ref (g 9) :: .int b29 :: .ref (g 10) :: .int b31 :: .int b32 :: .int b33 :: .ref (g 11) :: .ref (g 12) :: .ref (g 13) :: []))), ((g 0), .inl (cT 0, 288, .inl (a0))), ((g 1), .inl (cT 3, 2, .inl (a1)))]) (fun A => va_Qi (fun (r : Int32) (u : Int32 × (Nat → Int32)) => (PI 288 u.2) ∧ (True)) (fun u t => RW D A ((fun u : Int32 × (Nat → Int32) => [(h0, .inr (9, (.int u.1 :: .ref (g 0) :: .ref (g 1) :: .ref (g 2) :: .ref (g 3) :: .int b5 :: .int b6 :: .int b7 :: .int b8 :: .int b9 :: .int b10 :: .int b11 :: .int b12 :: .int b13 :: .int b14 :: .ref (g 4) :: .ref (g 5) :: .int b17 :: .int b18 :: .int b19 :: .ref (g 6) :: .ref (g 7) :: .ref (g 8) :: .int b23 :: .int b24 :: .int b25 :: .int b26 :: .int b27 :: .ref (g 9) :: .int b29 :: .ref (g 10) :: .int b31 :: .int b32 :: .int b33 :: .ref (g 11) :: .ref (g 12) :: .ref (g 13) :: []))), ((g 0), .inl (cT 0, 288, .inl (u.2))), ((g 1), .inl (cT 3, 2, .inl (a1)))]) u) t) A) (by decide) (Nat.le_of_ble_eq_true rfl) ?_
  intro p e s m below meth c A hx hb hml hown htg hK hN hr hlk hnm hsz hP hD hS hA ls hl
  have hown : s.vm.findClass RX9 = some m.cls := hown
  have hl : lv_has ls 3 [(0, .ref h0), (1, .int x)] := hl
  have tc_m5 : ((-5) : Int32).toInt = (-5) := by decide
  have tc_m2 : ((-2) : Int32).toInt = (-2) := by decide
  have tc_0 : (0 : Int32).toInt = 0 := by decide
  have tc_1 : (1 : Int32).toInt = 1 := by decide
  have tc_96 : (96 : Int32).toInt = 96 := by decide
  refine lv_aload_n hx hb dX9_restore_0 rfl (lv_at hl 0 rfl) ?_
  refine lv_iconst (v := 0) hx hb dX9_restore_1 (by decide) ?_
  refine va_put (D := D) (ci := 9) (v := .int 0) (ty := .int) (C := RX9) (T := TX9) (N := 37) hx hb htg gRX9 tyX9 tyX9_ok nmX9 hown hK hP hD hS 0 rfl rfl 0 (by decide) (htg _ wi_1150) (fun _ h9 => h9) rfl (by decide +kernel) rfl rfl (Nat.le_of_ble_eq_true rfl) dX9_restore_2 (fun H locs hP hD hS => ?_)
  have hP : va_P D classes [(h0, .inr (9, (.int 0 :: .ref (g 0) :: .ref (g 1) :: .ref (g 2) :: .ref (g 3) :: .int b5 :: .int b6 :: .int b7 :: .int b8 :: .int b9 :: .int b10 :: .int b11 :: .int b12 :: .int b13 :: .int b14 :: .ref (g 4) :: .ref (g 5) :: .int b17 :: .int b18 :: .int b19 :: .ref (g 6) :: .ref (g 7) :: .ref (g 8) :: .int b23 :: .int b24 :: .int b25 :: .int b26 :: .int b27 :: .ref (g 9) :: .int b29 :: .ref (g 10) :: .int b31 :: .int b32 :: .int b33 :: .ref (g 11) :: .ref (g 12) :: .ref (g 13) :: []))), ((g 0), .inl (cT 0, 288, .inl (a0))), ((g 1), .inl (cT 3, 2, .inl (a1)))] _ := hP
  have hD : va_D A [(h0, .inr (9, (.int 0 :: .ref (g 0) :: .ref (g 1) :: .ref (g 2) :: .ref (g 3) :: .int b5 :: .int b6 :: .int b7 :: .int b8 :: .int b9 :: .int b10 :: .int b11 :: .int b12 :: .int b13 :: .int b14 :: .ref (g 4) :: .ref (g 5) :: .int b17 :: .int b18 :: .int b19 :: .ref (g 6) :: .ref (g 7) :: .ref (g 8) :: .int b23 :: .int b24 :: .int b25 :: .int b26 :: .int b27 :: .ref (g 9) :: .int b29 :: .ref (g 10) :: .int b31 :: .int b32 :: .int b33 :: .ref (g 11) :: .ref (g 12) :: .ref (g 13) :: []))), ((g 0), .inl (cT 0, 288, .inl (a0))), ((g 1), .inl (cT 3, 2, .inl (a1)))] := hD
  refine lv_iload_n hx hb dX9_restore_5 rfl (lv_at hl 1 rfl) ?_
  refine lv_i2l (v := x.toInt64) hx hb dX9_restore_6 rfl ?_
  refine lv_lconst (v := 0) hx hb dX9_restore_7 (by decide) ?_
  refine lv_lconst (v := 1) hx hb dX9_restore_8 (by decide) ?_
  have ilw_1 : (x.toInt64).toInt = x.toInt := i2l_i _
  refine xk_i (wr := [(h0, .inr (9, (.int 0 :: .ref (g 0) :: .ref (g 1) :: .ref (g 2) :: .ref (g 3) :: .int b5 :: .int b6 :: .int b7 :: .int b8 :: .int b9 :: .int b10 :: .int b11 :: .int b12 :: .int b13 :: .int b14 :: .ref (g 4) :: .ref (g 5) :: .int b17 :: .int b18 :: .int b19 :: .ref (g 6) :: .ref (g 7) :: .ref (g 8) :: .int b23 :: .int b24 :: .int b25 :: .int b26 :: .int b27 :: .ref (g 9) :: .int b29 :: .ref (g 10) :: .int b31 :: .int b32 :: .int b33 :: .ref (g 11) :: .ref (g 12) :: .ref (g 13) :: []))), ((g 0), .inl (cT 0, 288, .inl (a0))), ((g 1), .inl (cT 3, 2, .inl (a1)))]) (xr_S (n := 3) (As := [.long x.toInt64, .long 0, .long 1]) (rest := []) ⟨hx, hb, hml, hown, htg⟩ hK hN hP hD hS hA [] rfl (by decide) (m_within l D cT _ (x.toInt64) (0) (1) (x.toInt) (0) (1) (i2l_i _) (by decide) (by decide)) wi_1270 wi_1271 wi_131 wi_1272 ⟨rfl, by decide +kernel⟩ ⟨Nat.le_of_ble_eq_true rfl, Nat.le_of_ble_eq_true rfl⟩ rfl hl.1 rfl (Nat.le_of_ble_eq_true rfl) dX9_restore_9 ⟨Nat.le_of_ble_eq_true rfl, Nat.le_of_ble_eq_true rfl⟩) hP hD hS hA [] [0, 1, 2] rfl rfl (by decide) (by decide) (fun r_3 u_2 H locs hwr_3 hP hD hS => ?_)
  have hP : va_P D classes [(h0, .inr (9, (.int 0 :: .ref (g 0) :: .ref (g 1) :: .ref (g 2) :: .ref (g 3) :: .int b5 :: .int b6 :: .int b7 :: .int b8 :: .int b9 :: .int b10 :: .int b11 :: .int b12 :: .int b13 :: .int b14 :: .ref (g 4) :: .ref (g 5) :: .int b17 :: .int b18 :: .int b19 :: .ref (g 6) :: .ref (g 7) :: .ref (g 8) :: .int b23 :: .int b24 :: .int b25 :: .int b26 :: .int b27 :: .ref (g 9) :: .int b29 :: .ref (g 10) :: .int b31 :: .int b32 :: .int b33 :: .ref (g 11) :: .ref (g 12) :: .ref (g 13) :: []))), ((g 0), .inl (cT 0, 288, .inl (a0))), ((g 1), .inl (cT 3, 2, .inl (a1)))] _ := hP
  have hD : va_D A [(h0, .inr (9, (.int 0 :: .ref (g 0) :: .ref (g 1) :: .ref (g 2) :: .ref (g 3) :: .int b5 :: .int b6 :: .int b7 :: .int b8 :: .int b9 :: .int b10 :: .int b11 :: .int b12 :: .int b13 :: .int b14 :: .ref (g 4) :: .ref (g 5) :: .int b17 :: .int b18 :: .int b19 :: .ref (g 6) :: .ref (g 7) :: .ref (g 8) :: .int b23 :: .int b24 :: .int b25 :: .int b26 :: .int b27 :: .ref (g 9) :: .int b29 :: .ref (g 10) :: .int b31 :: .int b32 :: .int b33 :: .ref (g 11) :: .ref (g 12) :: .ref (g 13) :: []))), ((g 0), .inl (cT 0, 288, .inl (a0))), ((g 1), .inl (cT 3, 2, .inl (a1)))] := hD
  have qr_3_0 : Imp (¬ r_3.toInt = 0) (0 ≤ x.toInt ∧ x.toInt ≤ 1) := hwr_3.1
  have qr_3_1 : r_3 = 0 ∨ r_3 = 1 := hwr_3.2.1
  refine lv_if_ne (tgt := 18) hx hb dX9_restore_12 (by decide) (fun c_4 => ?_) (fun c_4 => ?_)
  · have ic_4 : ¬ r_3.toInt = 0 := ine c_4 (rfl) (by decide)
    have kqr_3_0 : 0 ≤ x.toInt ∧ x.toInt ≤ 1 := qr_3_0 ic_4
    refine lv_aload_n hx hb dX9_restore_18 rfl (lv_at hl 0 rfl) ?_
    refine va_get (D := D) (ci := 9) (v := .ref (g 1)) (C := RX9) (T := TX9) (N := 37) hx hb htg gRX9 hown hK hP 0 rfl rfl 2 (by decide) (htg _ wi_1152) (fun _ h9 => h9) rfl dX9_restore_19 ?_
    refine lv_iload_n hx hb dX9_restore_22 rfl (lv_at hl 1 rfl) ?_
    refine va_zald hx hb hK hP 2 3 rfl rfl (vp_in_iff.mpr (by omega)) dX9_restore_23 ?_
    refine lv_topi (fun z_5 ez_5 => ?_)
    refine lv_if_ne (tgt := 30) hx hb dX9_restore_24 (by decide) (fun c_6 => ?_) (fun c_6 => ?_)
    · have ic_6 : ¬ z_5.toInt = 0 := ine c_6 (rfl) (by decide)
      refine lv_iconst (v := 0) hx hb dX9_restore_30 (by decide) ?_
      refine lv_istore_n (lv' := [(2, .int 0), (0, .ref h0), (1, .int x)]) hx hb dX9_restore_31 rfl hl (by decide) rfl (fun ls hl => ?_)
      refine (fun (key : ∀ (n9_32 : Nat) (k9_32 : Nat) (f9_32_0 : Nat → Int32) (H : Heap) (locs : List Loc) (ls : Array Slot), (k9_32 : Int) ≤ 96 → 96 < (k9_32 : Int) + n9_32 → PI 288 f9_32_0 → va_P D classes [(h0, .inr (9, (.int 0 :: .ref (g 0) :: .ref (g 1) :: .ref (g 2) :: .ref (g 3) :: .int b5 :: .int b6 :: .int b7 :: .int b8 :: .int b9 :: .int b10 :: .int b11 :: .int b12 :: .int b13 :: .int b14 :: .ref (g 4) :: .ref (g 5) :: .int b17 :: .int b18 :: .int b19 :: .ref (g 6) :: .ref (g 7) :: .ref (g 8) :: .int b23 :: .int b24 :: .int b25 :: .int b26 :: .int b27 :: .ref (g 9) :: .int b29 :: .ref (g 10) :: .int b31 :: .int b32 :: .int b33 :: .ref (g 11) :: .ref (g 12) :: .ref (g 13) :: []))), ((g 0), .inl (cT 0, 288, .inl (f9_32_0))), ((g 1), .inl (cT 3, 2, .inl (a1)))] H → va_D A [(h0, .inr (9, (.int 0 :: .ref (g 0) :: .ref (g 1) :: .ref (g 2) :: .ref (g 3) :: .int b5 :: .int b6 :: .int b7 :: .int b8 :: .int b9 :: .int b10 :: .int b11 :: .int b12 :: .int b13 :: .int b14 :: .ref (g 4) :: .ref (g 5) :: .int b17 :: .int b18 :: .int b19 :: .ref (g 6) :: .ref (g 7) :: .ref (g 8) :: .int b23 :: .int b24 :: .int b25 :: .int b26 :: .int b27 :: .ref (g 9) :: .int b29 :: .ref (g 10) :: .int b31 :: .int b32 :: .int b33 :: .ref (g 11) :: .ref (g 12) :: .ref (g 13) :: []))), ((g 0), .inl (cT 0, 288, .inl (f9_32_0))), ((g 1), .inl (cT 3, 2, .inl (a1)))] → va_S A s.heap H locs → lv_has ls 3 [(2, .int (nI k9_32)), (0, .ref h0), (1, .int x)] → W p l e _ s m _ below meth c H locs _ _ _ (F0 m 32 ls [])) => key (Int.toNat (96 - 0) + 1) 0 _ _ _ _ (by omega) (by omega) (by first | assumption | omega | decide | (simp only [ti_0, ti_1, ti_2, ti_3, ti_4, ti_5, ti_6, ti_7, ti_8, ti_9, ti_10, ti_11, ti_12, ti_m1]; omega)) hP hD hS (lv_sub hl [0, 1, 2] rfl)) ?_
      intro n9_32
      induction n9_32 with
      | zero => intro k9_32 f9_32_0 H locs ls hq1 hq2; exact absurd hq2 (by omega)
      | succ n9_32 ih_32 =>
        intro k9_32 f9_32_0 H locs ls hq1_32 hq2_32 h9_32_0 hP hD hS hl
        have hk9_32 : (nI k9_32).toInt = (k9_32 : Int) := nI_toInt (by omega)
        refine lv_iload_n hx hb dX9_restore_32 rfl (lv_at hl 0 rfl) ?_
        refine lv_bipush (v := 96) hx hb dX9_restore_33 (by decide) ?_
        refine lv_icmp_ge (tgt := 63) hx hb dX9_restore_35 (by decide) (fun c_7 => ?_) (fun c_7 => ?_)
        · have ic_7 : 96 ≤ ((k9_32 : Nat) : Int) := ile c_7 (by decide) (nI_toInt (by omega))
          refine lv_iconst (v := 0) hx hb dX9_restore_63 (by decide) ?_
          exact x_iret hx hb hr hlk hP hD hS [0, 1, 2] ((0, f9_32_0)) rfl (by decide) ⟨by (try dsimp only); first | assumption | omega | decide | exact Or.inl (by decide) | (intro h9; exact absurd h9 (by decide)) | (intro _; omega) | (intro _; assumption) | (intro _; decide), trivial⟩ (by decide) (by decide) dX9_restore_64
        · have ic_7 : ((k9_32 : Nat) : Int) < 96 := inle c_7 (by decide) (nI_toInt (by omega))
          refine lv_aload_n hx hb dX9_restore_38 rfl (lv_at hl 1 rfl) ?_
          refine va_get (D := D) (ci := 9) (v := .ref (g 0)) (C := RX9) (T := TX9) (N := 37) hx hb htg gRX9 hown hK hP 0 rfl rfl 1 (by decide) (htg _ wi_1151) (fun _ h9 => h9) rfl dX9_restore_39 ?_
          refine lv_iload_n hx hb dX9_restore_42 rfl (lv_at hl 0 rfl) ?_
          refine lv_aload_n hx hb dX9_restore_43 rfl (lv_at hl 1 rfl) ?_
          refine va_get (D := D) (ci := 9) (v := .ref (g 0)) (C := RX9) (T := TX9) (N := 37) hx hb htg gRX9 hown hK hP 0 rfl rfl 1 (by decide) (htg _ wi_1151) (fun _ h9 => h9) rfl dX9_restore_44 ?_
          refine lv_bipush (v := 96) hx hb dX9_restore_47 (by decide) ?_
          refine lv_iload_n hx hb dX9_restore_49 rfl (lv_at hl 2 rfl) ?_
          refine lv_iconst (v := 1) hx hb dX9_restore_50 (by decide) ?_
          refine lv_iadd hx hb dX9_restore_51 ?_
          refine lv_topi (fun z_8 ez_8 => ?_)
          have iz_8 : z_8.toInt = x.toInt + 1 := toInt_addI ez_8 (rfl) (by decide) (by omega)
          refine lv_imul hx hb dX9_restore_52 ?_
          refine lv_topi (fun z_9 ez_9 => ?_)
          have iz_9 : z_9.toInt = 96 * z_8.toInt := toInt_mulI ez_9 (by decide) (rfl) (by omega)
          refine lv_iload_n hx hb dX9_restore_53 rfl (lv_at hl 0 rfl) ?_
          refine lv_iadd hx hb dX9_restore_54 ?_
          refine lv_topi (fun z_10 ez_10 => ?_)
          have iz_10 : z_10.toInt = z_9.toInt + ((k9_32 : Nat) : Int) := toInt_addI ez_10 (rfl) (nI_toInt (by omega)) (by omega)
          refine va_iald hx hb hK hP 1 0 rfl rfl (vp_in_iff.mpr (by omega)) dX9_restore_55 ?_
          refine lv_topi (fun z_11 ez_11 => ?_)
          have oz_11 := pi_rd (a := z_10.toInt) h9_32_0 ez_11 (rfl) (by omega)
          unfold OKP at oz_11
          refine va_iast hx hb hK hP hD hS 1 0 rfl rfl (vp_in_nI (by omega) (by omega)) dX9_restore_56 (fun H locs hP hD hS => ?_)
          obtain ⟨f_12, ef_12, hP, hD⟩ : ∃ f_12 : Nat → Int32, f_12 = upd (f9_32_0) ((nI k9_32) : Int32).toNatClampNeg z_11 ∧ va_P D classes [(h0, .inr (9, (.int 0 :: .ref (g 0) :: .ref (g 1) :: .ref (g 2) :: .ref (g 3) :: .int b5 :: .int b6 :: .int b7 :: .int b8 :: .int b9 :: .int b10 :: .int b11 :: .int b12 :: .int b13 :: .int b14 :: .ref (g 4) :: .ref (g 5) :: .int b17 :: .int b18 :: .int b19 :: .ref (g 6) :: .ref (g 7) :: .ref (g 8) :: .int b23 :: .int b24 :: .int b25 :: .int b26 :: .int b27 :: .ref (g 9) :: .int b29 :: .ref (g 10) :: .int b31 :: .int b32 :: .int b33 :: .ref (g 11) :: .ref (g 12) :: .ref (g 13) :: []))), ((g 0), .inl (cT 0, 288, .inl (f_12))), ((g 1), .inl (cT 3, 2, .inl (a1)))] H ∧ va_D A [(h0, .inr (9, (.int 0 :: .ref (g 0) :: .ref (g 1) :: .ref (g 2) :: .ref (g 3) :: .int b5 :: .int b6 :: .int b7 :: .int b8 :: .int b9 :: .int b10 :: .int b11 :: .int b12 :: .int b13 :: .int b14 :: .ref (g 4) :: .ref (g 5) :: .int b17 :: .int b18 :: .int b19 :: .ref (g 6) :: .ref (g 7) :: .ref (g 8) :: .int b23 :: .int b24 :: .int b25 :: .int b26 :: .int b27 :: .ref (g 9) :: .int b29 :: .ref (g 10) :: .int b31 :: .int b32 :: .int b33 :: .ref (g 11) :: .ref (g 12) :: .ref (g 13) :: []))), ((g 0), .inl (cT 0, 288, .inl (f_12))), ((g 1), .inl (cT 3, 2, .inl (a1)))] := ⟨_, rfl, hP, hD⟩
          have qf_12 : PI 288 f_12 := by rw [ef_12]; exact pi_upd (a := ((k9_32 : Nat) : Int)) (b := z_11.toInt) h9_32_0 (nI_toInt (by omega)) (rfl) (by omega) (by unfold OKP; omega)
          refine lv_iinc (v := (nI (k9_32 + 1))) (lv' := [(2, .int (nI (k9_32 + 1))), (0, .ref h0), (1, .int x)]) hx hb dX9_restore_57 hl (k := 0) rfl (by exact nI_1 (k9_32)) (by decide) rfl (fun ls hl => ?_)
          refine lv_goto (tgt := 32) hx hb dX9_restore_60 (by decide) ?_
          exact ih_32 (k9_32 + 1) _ _ _ _ (by omega) (by omega) (by first | assumption | omega | decide | (simp only [ti_0, ti_1, ti_2, ti_3, ti_4, ti_5, ti_6, ti_7, ti_8, ti_9, ti_10, ti_11, ti_12, ti_m1]; omega)) (hP.sub [0, 1, 2] rfl) (hD.sub [0, 1, 2] (by decide) rfl) hS (lv_sub hl [0, 1, 2] rfl)
    · have ic_6 : z_5.toInt = 0 := ieq c_6 (rfl) (by decide)
      refine lv_bipush (v := (-5)) hx hb dX9_restore_27 (by decide) ?_
      exact x_iret hx hb hr hlk hP hD hS [0, 1, 2] ((0, a0)) rfl (by decide) ⟨by (try dsimp only); first | assumption | omega | decide | exact Or.inl (by decide) | (intro h9; exact absurd h9 (by decide)) | (intro _; omega) | (intro _; assumption) | (intro _; decide), trivial⟩ (by decide) (by decide) dX9_restore_29
  · have ic_4 : r_3.toInt = 0 := ieq c_4 (rfl) (by decide)
    refine lv_bipush (v := (-2)) hx hb dX9_restore_15 (by decide) ?_
    exact x_iret hx hb hr hlk hP hD hS [0, 1, 2] ((0, a0)) rfl (by decide) ⟨by (try dsimp only); first | assumption | omega | decide | exact Or.inl (by decide) | (intro h9; exact absurd h9 (by decide)) | (intro _; omega) | (intro _; assumption) | (intro _; decide), trivial⟩ (by decide) (by decide) dX9_restore_17
set_option maxHeartbeats 4000000 in
set_option maxRecDepth 100000 in
theorem m_sumOf (l : Launch) (D : va_G) (cT : Nat → ClassId) (sz : Nat) (h0 : Nat) (g : Nat → Nat) (b0 : Int32) (b5 : Int32) (b6 : Int32) (b7 : Int32) (b8 : Int32) (b9 : Int32) (b10 : Int32) (b11 : Int32) (b12 : Int32) (b13 : Int32) (b14 : Int32) (b17 : Int32) (b18 : Int32) (b19 : Int32) (b23 : Int32) (b24 : Int32) (b25 : Int32) (b26 : Int32) (b27 : Int32) (b29 : Int32) (b31 : Int32) (b32 : Int32) (b33 : Int32) (hb5 : 0 ≤ b5.toInt ∧ b5.toInt ≤ 900) (a0 : Nat → Int32) (pa0 : PI 288 a0) (x : Int32) (hx8 : 0 ≤ x.toInt ∧ x.toInt ≤ 80) : Met l yX9_sumOf (wsc yX9_sumOf cX9_sumOf 4 (some .int)) { frames := 2, cells := 0, slots := 0, locals := 100 } (va_Pc [.ref h0, .int x] (PX D cT sz [(h0, .inr (9, (.int b0 :: .ref (g 0) :: .ref (g 1) :: .ref (g 2) :: .ref (g 3) :: .int b5 :: .int b6 :: .int b7 :: .int b8 :: .int b9 :: .int b10 :: .int b11 :: .int b12 :: .int b13 :: .int b14 :: .ref (g 4) :: .ref (g 5) :: .int b17 :: .int b18 :: .int b19 :: .ref (g 6) :: .ref (g 7) :: .ref (g 8) :: .int b23 :: .int b24 :: .int b25 :: .int b26 :: .int b27 :: .ref (g 9) :: .int b29 :: .ref (g 10) :: .int b31 :: .int b32 :: .int b33 :: .ref (g 11) :: .ref (g 12) :: .ref (g 13) :: []))), ((g 0), .inl (cT 0, 288, .inl (a0)))])) (va_Qi (fun (r : Int32) (u : Unit) => (True)) (fun u t => RW D (va_A [(h0, .inr (9, (.int b0 :: .ref (g 0) :: .ref (g 1) :: .ref (g 2) :: .ref (g 3) :: .int b5 :: .int b6 :: .int b7 :: .int b8 :: .int b9 :: .int b10 :: .int b11 :: .int b12 :: .int b13 :: .int b14 :: .ref (g 4) :: .ref (g 5) :: .int b17 :: .int b18 :: .int b19 :: .ref (g 6) :: .ref (g 7) :: .ref (g 8) :: .int b23 :: .int b24 :: .int b25 :: .int b26 :: .int b27 :: .ref (g 9) :: .int b29 :: .ref (g 10) :: .int b31 :: .int b32 :: .int b33 :: .ref (g 11) :: .ref (g 12) :: .ref (g 13) :: []))), ((g 0), .inl (cT 0, 288, .inl (a0)))] sz) ((fun _ : Unit => [(h0, .inr (9, (.int b0 :: .ref (g 0) :: .ref (g 1) :: .ref (g 2) :: .ref (g 3) :: .int b5 :: .int b6 :: .int b7 :: .int b8 :: .int b9 :: .int b10 :: .int b11 :: .int b12 :: .int b13 :: .int b14 :: .ref (g 4) :: .ref (g 5) :: .int b17 :: .int b18 :: .int b19 :: .ref (g 6) :: .ref (g 7) :: .ref (g 8) :: .int b23 :: .int b24 :: .int b25 :: .int b26 :: .int b27 :: .ref (g 9) :: .int b29 :: .ref (g 10) :: .int b31 :: .int b32 :: .int b33 :: .ref (g 11) :: .ref (g 12) :: .ref (g 13) :: []))), ((g 0), .inl (cT 0, 288, .inl (a0)))]) u) t) (va_A [(h0, .inr (9, (.int b0 :: .ref (g 0) :: .ref (g 1) :: .ref (g 2) :: .ref (g 3) :: .int b5 :: .int b6 :: .int b7 :: .int b8 :: .int b9 :: .int b10 :: .int b11 :: .int b12 :: .int b13 :: .int b14 :: .ref (g 4) :: .ref (g 5) :: .int b17 :: .int b18 :: .int b19 :: .ref (g 6) :: .ref (g 7) :: .ref (g 8) :: .int b23 :: .int b24 :: .int b25 :: .int b26 :: .int b27 :: .ref (g 9) :: .int b29 :: .ref (g 10) :: .int b31 :: .int b32 :: .int b33 :: .ref (g 11) :: .ref (g 12) :: .ref (g 13) :: []))), ((g 0), .inl (cT 0, 288, .inl (a0)))] sz)) 0 0 (va_A [(h0, .inr (9, (.int b0 :: .ref (g 0) :: .ref (g 1) :: .ref (g 2) :: .ref (g 3) :: .int b5 :: .int b6 :: .int b7 :: .int b8 :: .int b9 :: .int b10 :: .int b11 :: .int b12 :: .int b13 :: .int b14 :: .ref (g 4) :: .ref (g 5) :: .int b17 :: .int b18 :: .int b19 :: .ref (g 6) :: .ref (g 7) :: .ref (g 8) :: .int b23 :: .int b24 :: .int b25 :: .int b26 :: .int b27 :: .ref (g 9) :: .int b29 :: .ref (g 10) :: .int b31 :: .int b32 :: .int b33 :: .ref (g 11) :: .ref (g 12) :: .ref (g 13) :: []))), ((g 0), .inl (cT 0, 288, .inl (a0)))] sz) := by
  refine m_of (y := yX9_sumOf) (cc := cX9_sumOf) (nL := 4) (ret := (some .int)) (D := D) (cT := cT) (av := [.ref h0, .int x]) (wi := [(h0, .inr (9, (.int b0 :: .ref (g 0) :: .ref (g 1) :: .ref (g 2) :: .ref (g 3) :: .int b5 :: .int b6 :: .int b7 :: .int b8 :: .int b9 :: .int b10 :: .int b11 :: .int b12 :: .int b13 :: .int b14 :: .ref (g 4) :: .ref (g 5) :: .int b17 :: .int b18 :: .int b19 :: .ref (g 6) :: .ref (g 7) :: .ref (g 8) :: .int b23 :: .int b24 :: .int b25 :: .int b26 :: .int b27 :: .ref (g 9) :: .int b29 :: .ref (g 10) :: .int b31 :: .int b32 :: .int b33 :: .ref (g 11) :: .ref (g 12) :: .ref (g 13) :: []))), ((g 0), .inl (cT 0, 288, .inl (a0)))]) (fun A => va_Qi (fun (r : Int32) (u : Unit) => (True)) (fun u t => RW D A ((fun _ : Unit => [(h0, .inr (9, (.int b0 :: .ref (g 0) :: .ref (g 1) :: .ref (g 2) :: .ref (g 3) :: .int b5 :: .int b6 :: .int b7 :: .int b8 :: .int b9 :: .int b10 :: .int b11 :: .int b12 :: .int b13 :: .int b14 :: .ref (g 4) :: .ref (g 5) :: .int b17 :: .int b18 :: .int b19 :: .ref (g 6) :: .ref (g 7) :: .ref (g 8) :: .int b23 :: .int b24 :: .int b25 :: .int b26 :: .int b27 :: .ref (g 9) :: .int b29 :: .ref (g 10) :: .int b31 :: .int b32 :: .int b33 :: .ref (g 11) :: .ref (g 12) :: .ref (g 13) :: []))), ((g 0), .inl (cT 0, 288, .inl (a0)))]) u) t) A) (by decide) (Nat.le_of_ble_eq_true rfl) ?_
  intro p e s m below meth c A hx hb hml hown htg hK hN hr hlk hnm hsz hP hD hS hA ls hl
  have hown : s.vm.findClass RX9 = some m.cls := hown
  have hl : lv_has ls 4 [(0, .ref h0), (1, .int x)] := hl
  have tc_0 : (0 : Int32).toInt = 0 := by decide
  refine lv_iconst (v := 0) hx hb dX9_sumOf_0 (by decide) ?_
  refine lv_istore_n (lv' := [(2, .int 0), (0, .ref h0), (1, .int x)]) hx hb dX9_sumOf_1 rfl hl (by decide) rfl (fun ls hl => ?_)
  refine lv_iconst (v := 0) hx hb dX9_sumOf_2 (by decide) ?_
  refine lv_istore_n (lv' := [(3, .int 0), (2, .int 0), (0, .ref h0), (1, .int x)]) hx hb dX9_sumOf_3 rfl hl (by decide) rfl (fun ls hl => ?_)
  refine (fun (key : ∀ (n9_4 : Nat) (k9_4 : Nat) (x9_4_2 : Int32) (H : Heap) (locs : List Loc) (ls : Array Slot), (k9_4 : Int) ≤ 16 → 16 < (k9_4 : Int) + n9_4 → va_P D classes [(h0, .inr (9, (.int b0 :: .ref (g 0) :: .ref (g 1) :: .ref (g 2) :: .ref (g 3) :: .int b5 :: .int b6 :: .int b7 :: .int b8 :: .int b9 :: .int b10 :: .int b11 :: .int b12 :: .int b13 :: .int b14 :: .ref (g 4) :: .ref (g 5) :: .int b17 :: .int b18 :: .int b19 :: .ref (g 6) :: .ref (g 7) :: .ref (g 8) :: .int b23 :: .int b24 :: .int b25 :: .int b26 :: .int b27 :: .ref (g 9) :: .int b29 :: .ref (g 10) :: .int b31 :: .int b32 :: .int b33 :: .ref (g 11) :: .ref (g 12) :: .ref (g 13) :: []))), ((g 0), .inl (cT 0, 288, .inl (a0)))] H → va_D A [(h0, .inr (9, (.int b0 :: .ref (g 0) :: .ref (g 1) :: .ref (g 2) :: .ref (g 3) :: .int b5 :: .int b6 :: .int b7 :: .int b8 :: .int b9 :: .int b10 :: .int b11 :: .int b12 :: .int b13 :: .int b14 :: .ref (g 4) :: .ref (g 5) :: .int b17 :: .int b18 :: .int b19 :: .ref (g 6) :: .ref (g 7) :: .ref (g 8) :: .int b23 :: .int b24 :: .int b25 :: .int b26 :: .int b27 :: .ref (g 9) :: .int b29 :: .ref (g 10) :: .int b31 :: .int b32 :: .int b33 :: .ref (g 11) :: .ref (g 12) :: .ref (g 13) :: []))), ((g 0), .inl (cT 0, 288, .inl (a0)))] → va_S A s.heap H locs → lv_has ls 4 [(3, .int (nI k9_4)), (2, .int x9_4_2), (0, .ref h0), (1, .int x)] → W p l e _ s m _ below meth c H locs _ _ _ (F0 m 4 ls [])) => key (Int.toNat (16 - 0) + 1) 0 _ _ _ _ (by omega) (by omega)  hP hD hS (lv_sub hl [0, 1, 2, 3] rfl)) ?_
  intro n9_4
  induction n9_4 with
  | zero => intro k9_4 x9_4_2 H locs ls hq1 hq2; exact absurd hq2 (by omega)
  | succ n9_4 ih_4 =>
    intro k9_4 x9_4_2 H locs ls hq1_4 hq2_4  hP hD hS hl
    have hk9_4 : (nI k9_4).toInt = (k9_4 : Int) := nI_toInt (by omega)
    refine lv_iload_n hx hb dX9_sumOf_4 rfl (lv_at hl 0 rfl) ?_
    refine lv_aload_n hx hb dX9_sumOf_5 rfl (lv_at hl 2 rfl) ?_
    refine va_get (D := D) (ci := 9) (v := .ref (g 0)) (C := RX9) (T := TX9) (N := 37) hx hb htg gRX9 hown hK hP 0 rfl rfl 1 (by decide) (htg _ wi_1151) (fun _ h9 => h9) rfl dX9_sumOf_6 ?_
    refine lv_iconst (v := 0) hx hb dX9_sumOf_9 (by decide) ?_
    refine va_iald hx hb hK hP 1 0 rfl rfl (by unfold vp_in; decide) dX9_sumOf_10 ?_
    refine lv_topi (fun z_1 ez_1 => ?_)
    have iz_1 : 0 ≤ z_1.toInt ∧ z_1.toInt ≤ 16 := by rw [ez_1]; exact rd0 pa0 (by decide) rfl
    have nz_1 : z_1.toInt = ((a0) 0).toInt := by rw [ez_1]; rfl
    refine lv_icmp_ge (tgt := 31) hx hb dX9_sumOf_11 (by decide) (fun c_2 => ?_) (fun c_2 => ?_)
    · have ic_2 : z_1.toInt ≤ ((k9_4 : Nat) : Int) := ile c_2 (rfl) (nI_toInt (by omega))
      refine lv_iload_n hx hb dX9_sumOf_31 rfl (lv_at hl 1 rfl) ?_
      exact x_iret hx hb hr hlk hP hD hS [0, 1] (()) rfl (by decide) trivial (by decide) (by decide) dX9_sumOf_32
    · have ic_2 : ((k9_4 : Nat) : Int) < z_1.toInt := inle c_2 (rfl) (nI_toInt (by omega))
      refine lv_iload_n hx hb dX9_sumOf_14 rfl (lv_at hl 1 rfl) ?_
      refine lv_aload_n hx hb dX9_sumOf_15 rfl (lv_at hl 2 rfl) ?_
      refine va_get (D := D) (ci := 9) (v := .ref (g 0)) (C := RX9) (T := TX9) (N := 37) hx hb htg gRX9 hown hK hP 0 rfl rfl 1 (by decide) (htg _ wi_1151) (fun _ h9 => h9) rfl dX9_sumOf_16 ?_
      refine lv_iload_n hx hb dX9_sumOf_19 rfl (lv_at hl 3 rfl) ?_
      refine lv_iload_n hx hb dX9_sumOf_20 rfl (lv_at hl 0 rfl) ?_
      refine lv_iadd hx hb dX9_sumOf_21 ?_
      refine lv_topi (fun z_3 ez_3 => ?_)
      have iz_3 : z_3.toInt = x.toInt + ((k9_4 : Nat) : Int) := toInt_addI ez_3 (rfl) (nI_toInt (by omega)) (by omega)
      refine va_iald hx hb hK hP 1 0 rfl rfl (vp_in_iff.mpr (by omega)) dX9_sumOf_22 ?_
      refine lv_topi (fun z_4 ez_4 => ?_)
      refine lv_iadd hx hb dX9_sumOf_23 ?_
      refine lv_topi (fun z_5 ez_5 => ?_)
      refine lv_istore_n (lv' := [(2, .int z_5), (3, .int (nI k9_4)), (0, .ref h0), (1, .int x)]) hx hb dX9_sumOf_24 rfl hl (by decide) rfl (fun ls hl => ?_)
      refine lv_iinc (v := (nI (k9_4 + 1))) (lv' := [(3, .int (nI (k9_4 + 1))), (2, .int z_5), (0, .ref h0), (1, .int x)]) hx hb dX9_sumOf_25 hl (k := 1) rfl (by exact nI_1 (k9_4)) (by decide) rfl (fun ls hl => ?_)
      refine lv_goto (tgt := 4) hx hb dX9_sumOf_28 (by decide) ?_
      exact ih_4 (k9_4 + 1) _ _ _ _ (by omega) (by omega)  (hP.sub [0, 1] rfl) (hD.sub [0, 1] (by decide) rfl) hS (lv_sub hl [0, 1, 2, 3] rfl)
set_option maxHeartbeats 4000000 in
set_option maxRecDepth 100000 in
theorem m_count (l : Launch) (D : va_G) (cT : Nat → ClassId) (sz : Nat) (h0 : Nat) (g : Nat → Nat) (b0 : Int32) (b5 : Int32) (b6 : Int32) (b7 : Int32) (b8 : Int32) (b9 : Int32) (b10 : Int32) (b11 : Int32) (b12 : Int32) (b13 : Int32) (b14 : Int32) (b17 : Int32) (b18 : Int32) (b19 : Int32) (b23 : Int32) (b24 : Int32) (b25 : Int32) (b26 : Int32) (b27 : Int32) (b29 : Int32) (b31 : Int32) (b32 : Int32) (b33 : Int32) (hb5 : 0 ≤ b5.toInt ∧ b5.toInt ≤ 900) (a0 : Nat → Int32) (pa0 : PI 288 a0) (x : Int32) : Met l yX9_count (wsc yX9_count cX9_count 2 (some .int)) { frames := 3, cells := 0, slots := 0, locals := 125 } (va_Pc [.ref h0, .int x] (PX D cT sz [(h0, .inr (9, (.int b0 :: .ref (g 0) :: .ref (g 1) :: .ref (g 2) :: .ref (g 3) :: .int b5 :: .int b6 :: .int b7 :: .int b8 :: .int b9 :: .int b10 :: .int b11 :: .int b12 :: .int b13 :: .int b14 :: .ref (g 4) :: .ref (g 5) :: .int b17 :: .int b18 :: .int b19 :: .ref (g 6) :: .ref (g 7) :: .ref (g 8) :: .int b23 :: .int b24 :: .int b25 :: .int b26 :: .int b27 :: .ref (g 9) :: .int b29 :: .ref (g 10) :: .int b31 :: .int b32 :: .int b33 :: .ref (g 11) :: .ref (g 12) :: .ref (g 13) :: []))), ((g 0), .inl (cT 0, 288, .inl (a0)))])) (va_Qi (fun (r : Int32) (u : Int32) => (True)) (fun u t => RW D (va_A [(h0, .inr (9, (.int b0 :: .ref (g 0) :: .ref (g 1) :: .ref (g 2) :: .ref (g 3) :: .int b5 :: .int b6 :: .int b7 :: .int b8 :: .int b9 :: .int b10 :: .int b11 :: .int b12 :: .int b13 :: .int b14 :: .ref (g 4) :: .ref (g 5) :: .int b17 :: .int b18 :: .int b19 :: .ref (g 6) :: .ref (g 7) :: .ref (g 8) :: .int b23 :: .int b24 :: .int b25 :: .int b26 :: .int b27 :: .ref (g 9) :: .int b29 :: .ref (g 10) :: .int b31 :: .int b32 :: .int b33 :: .ref (g 11) :: .ref (g 12) :: .ref (g 13) :: []))), ((g 0), .inl (cT 0, 288, .inl (a0)))] sz) ((fun u : Int32 => [(h0, .inr (9, (.int u :: .ref (g 0) :: .ref (g 1) :: .ref (g 2) :: .ref (g 3) :: .int b5 :: .int b6 :: .int b7 :: .int b8 :: .int b9 :: .int b10 :: .int b11 :: .int b12 :: .int b13 :: .int b14 :: .ref (g 4) :: .ref (g 5) :: .int b17 :: .int b18 :: .int b19 :: .ref (g 6) :: .ref (g 7) :: .ref (g 8) :: .int b23 :: .int b24 :: .int b25 :: .int b26 :: .int b27 :: .ref (g 9) :: .int b29 :: .ref (g 10) :: .int b31 :: .int b32 :: .int b33 :: .ref (g 11) :: .ref (g 12) :: .ref (g 13) :: []))), ((g 0), .inl (cT 0, 288, .inl (a0)))]) u) t) (va_A [(h0, .inr (9, (.int b0 :: .ref (g 0) :: .ref (g 1) :: .ref (g 2) :: .ref (g 3) :: .int b5 :: .int b6 :: .int b7 :: .int b8 :: .int b9 :: .int b10 :: .int b11 :: .int b12 :: .int b13 :: .int b14 :: .ref (g 4) :: .ref (g 5) :: .int b17 :: .int b18 :: .int b19 :: .ref (g 6) :: .ref (g 7) :: .ref (g 8) :: .int b23 :: .int b24 :: .int b25 :: .int b26 :: .int b27 :: .ref (g 9) :: .int b29 :: .ref (g 10) :: .int b31 :: .int b32 :: .int b33 :: .ref (g 11) :: .ref (g 12) :: .ref (g 13) :: []))), ((g 0), .inl (cT 0, 288, .inl (a0)))] sz)) 0 0 (va_A [(h0, .inr (9, (.int b0 :: .ref (g 0) :: .ref (g 1) :: .ref (g 2) :: .ref (g 3) :: .int b5 :: .int b6 :: .int b7 :: .int b8 :: .int b9 :: .int b10 :: .int b11 :: .int b12 :: .int b13 :: .int b14 :: .ref (g 4) :: .ref (g 5) :: .int b17 :: .int b18 :: .int b19 :: .ref (g 6) :: .ref (g 7) :: .ref (g 8) :: .int b23 :: .int b24 :: .int b25 :: .int b26 :: .int b27 :: .ref (g 9) :: .int b29 :: .ref (g 10) :: .int b31 :: .int b32 :: .int b33 :: .ref (g 11) :: .ref (g 12) :: .ref (g 13) :: []))), ((g 0), .inl (cT 0, 288, .inl (a0)))] sz) := by
  refine m_of (y := yX9_count) (cc := cX9_count) (nL := 2) (ret := (some .int)) (D := D) (cT := cT) (av := [.ref h0, .int x]) (wi := [(h0, .inr (9, (.int b0 :: .ref (g 0) :: .ref (g 1) :: .ref (g 2) :: .ref (g 3) :: .int b5 :: .int b6 :: .int b7 :: .int b8 :: .int b9 :: .int b10 :: .int b11 :: .int b12 :: .int b13 :: .int b14 :: .ref (g 4) :: .ref (g 5) :: .int b17 :: .int b18 :: .int b19 :: .ref (g 6) :: .ref (g 7) :: .ref (g 8) :: .int b23 :: .int b24 :: .int b25 :: .int b26 :: .int b27 :: .ref (g 9) :: .int b29 :: .ref (g 10) :: .int b31 :: .int b32 :: .int b33 :: .ref (g 11) :: .ref (g 12) :: .ref (g 13) :: []))), ((g 0), .inl (cT 0, 288, .inl (a0)))]) (fun A => va_Qi (fun (r : Int32) (u : Int32) => (True)) (fun u t => RW D A ((fun u : Int32 => [(h0, .inr (9, (.int u :: .ref (g 0) :: .ref (g 1) :: .ref (g 2) :: .ref (g 3) :: .int b5 :: .int b6 :: .int b7 :: .int b8 :: .int b9 :: .int b10 :: .int b11 :: .int b12 :: .int b13 :: .int b14 :: .ref (g 4) :: .ref (g 5) :: .int b17 :: .int b18 :: .int b19 :: .ref (g 6) :: .ref (g 7) :: .ref (g 8) :: .int b23 :: .int b24 :: .int b25 :: .int b26 :: .int b27 :: .ref (g 9) :: .int b29 :: .ref (g 10) :: .int b31 :: .int b32 :: .int b33 :: .ref (g 11) :: .ref (g 12) :: .ref (g 13) :: []))), ((g 0), .inl (cT 0, 288, .inl (a0)))]) u) t) A) (by decide) (Nat.le_of_ble_eq_true rfl) ?_
  intro p e s m below meth c A hx hb hml hown htg hK hN hr hlk hnm hsz hP hD hS hA ls hl
  have hown : s.vm.findClass RX9 = some m.cls := hown
  have hl : lv_has ls 2 [(0, .ref h0), (1, .int x)] := hl
  have tc_m1 : ((-1) : Int32).toInt = (-1) := by decide
  have tc_0 : (0 : Int32).toInt = 0 := by decide
  have tc_2 : (2 : Int32).toInt = 2 := by decide
  have tc_9 : (9 : Int32).toInt = 9 := by decide
  have tc_16 : (16 : Int32).toInt = 16 := by decide
  have tc_80 : (80 : Int32).toInt = 80 := by decide
  refine lv_aload_n hx hb dX9_count_0 rfl (lv_at hl 0 rfl) ?_
  refine lv_iconst (v := 0) hx hb dX9_count_1 (by decide) ?_
  refine va_put (D := D) (ci := 9) (v := .int 0) (ty := .int) (C := RX9) (T := TX9) (N := 37) hx hb htg gRX9 tyX9 tyX9_ok nmX9 hown hK hP hD hS 0 rfl rfl 0 (by decide) (htg _ wi_1150) (fun _ h9 => h9) rfl (by decide +kernel) rfl rfl (Nat.le_of_ble_eq_true rfl) dX9_count_2 (fun H locs hP hD hS => ?_)
  have hP : va_P D classes [(h0, .inr (9, (.int 0 :: .ref (g 0) :: .ref (g 1) :: .ref (g 2) :: .ref (g 3) :: .int b5 :: .int b6 :: .int b7 :: .int b8 :: .int b9 :: .int b10 :: .int b11 :: .int b12 :: .int b13 :: .int b14 :: .ref (g 4) :: .ref (g 5) :: .int b17 :: .int b18 :: .int b19 :: .ref (g 6) :: .ref (g 7) :: .ref (g 8) :: .int b23 :: .int b24 :: .int b25 :: .int b26 :: .int b27 :: .ref (g 9) :: .int b29 :: .ref (g 10) :: .int b31 :: .int b32 :: .int b33 :: .ref (g 11) :: .ref (g 12) :: .ref (g 13) :: []))), ((g 0), .inl (cT 0, 288, .inl (a0)))] _ := hP
  have hD : va_D A [(h0, .inr (9, (.int 0 :: .ref (g 0) :: .ref (g 1) :: .ref (g 2) :: .ref (g 3) :: .int b5 :: .int b6 :: .int b7 :: .int b8 :: .int b9 :: .int b10 :: .int b11 :: .int b12 :: .int b13 :: .int b14 :: .ref (g 4) :: .ref (g 5) :: .int b17 :: .int b18 :: .int b19 :: .ref (g 6) :: .ref (g 7) :: .ref (g 8) :: .int b23 :: .int b24 :: .int b25 :: .int b26 :: .int b27 :: .ref (g 9) :: .int b29 :: .ref (g 10) :: .int b31 :: .int b32 :: .int b33 :: .ref (g 11) :: .ref (g 12) :: .ref (g 13) :: []))), ((g 0), .inl (cT 0, 288, .inl (a0)))] := hD
  refine lv_iload_n hx hb dX9_count_5 rfl (lv_at hl 1 rfl) ?_
  have c_1 : (x.toInt < 2 ∨ 12 < x.toInt) ∨ x = 2 ∨ x = 3 ∨ x = 4 ∨ x = 5 ∨ x = 6 ∨ x = 7 ∨ x = 8 ∨ x = 9 ∨ x = 10 ∨ x = 11 ∨ x = 12 := by
    rcases (show (x.toInt < 2 ∨ 12 < x.toInt) ∨ x.toInt = 2 ∨ x.toInt = 3 ∨ x.toInt = 4 ∨ x.toInt = 5 ∨ x.toInt = 6 ∨ x.toInt = 7 ∨ x.toInt = 8 ∨ x.toInt = 9 ∨ x.toInt = 10 ∨ x.toInt = 11 ∨ x.toInt = 12 from by omega) with h | h | h | h | h | h | h | h | h | h | h | h
    · exact Or.inl h
    · exact Or.inr (Or.inl (i32_is (h.trans (by decide))))
    · exact Or.inr (Or.inr (Or.inl (i32_is (h.trans (by decide)))))
    · exact Or.inr (Or.inr (Or.inr (Or.inl (i32_is (h.trans (by decide))))))
    · exact Or.inr (Or.inr (Or.inr (Or.inr (Or.inl (i32_is (h.trans (by decide)))))))
    · exact Or.inr (Or.inr (Or.inr (Or.inr (Or.inr (Or.inl (i32_is (h.trans (by decide))))))))
    · exact Or.inr (Or.inr (Or.inr (Or.inr (Or.inr (Or.inr (Or.inl (i32_is (h.trans (by decide)))))))))
    · exact Or.inr (Or.inr (Or.inr (Or.inr (Or.inr (Or.inr (Or.inr (Or.inl (i32_is (h.trans (by decide))))))))))
    · exact Or.inr (Or.inr (Or.inr (Or.inr (Or.inr (Or.inr (Or.inr (Or.inr (Or.inl (i32_is (h.trans (by decide)))))))))))
    · exact Or.inr (Or.inr (Or.inr (Or.inr (Or.inr (Or.inr (Or.inr (Or.inr (Or.inr (Or.inl (i32_is (h.trans (by decide))))))))))))
    · exact Or.inr (Or.inr (Or.inr (Or.inr (Or.inr (Or.inr (Or.inr (Or.inr (Or.inr (Or.inr (Or.inl (i32_is (h.trans (by decide)))))))))))))
    · exact Or.inr (Or.inr (Or.inr (Or.inr (Or.inr (Or.inr (Or.inr (Or.inr (Or.inr (Or.inr (Or.inr (i32_is (h.trans (by decide)))))))))))))
  rcases c_1 with c_1 | c_1 | c_1 | c_1 | c_1 | c_1 | c_1 | c_1 | c_1 | c_1 | c_1 | c_1
  · refine lv_tableOut (tgt := 111) hx hb dX9_count_6 c_1 (by decide) ?_
    refine lv_iload_n hx hb dX9_count_111 rfl (lv_at hl 1 rfl) ?_
    refine lv_i2l (v := x.toInt64) hx hb dX9_count_112 rfl ?_
    refine lv_lconst (v := 0) hx hb dX9_count_113 (by decide) ?_
    refine lv_ldc2 (v := 8) hx hb hown (htg _ wi_1477) dX9_count_114 ?_
    have ilw_2 : (x.toInt64).toInt = x.toInt := i2l_i _
    refine xk_i (wr := [(h0, .inr (9, (.int 0 :: .ref (g 0) :: .ref (g 1) :: .ref (g 2) :: .ref (g 3) :: .int b5 :: .int b6 :: .int b7 :: .int b8 :: .int b9 :: .int b10 :: .int b11 :: .int b12 :: .int b13 :: .int b14 :: .ref (g 4) :: .ref (g 5) :: .int b17 :: .int b18 :: .int b19 :: .ref (g 6) :: .ref (g 7) :: .ref (g 8) :: .int b23 :: .int b24 :: .int b25 :: .int b26 :: .int b27 :: .ref (g 9) :: .int b29 :: .ref (g 10) :: .int b31 :: .int b32 :: .int b33 :: .ref (g 11) :: .ref (g 12) :: .ref (g 13) :: []))), ((g 0), .inl (cT 0, 288, .inl (a0)))]) (xr_S (n := 3) (As := [.long x.toInt64, .long 0, .long 8]) (rest := []) ⟨hx, hb, hml, hown, htg⟩ hK hN hP hD hS hA [] rfl (by decide) (m_within l D cT _ (x.toInt64) (0) (8) (x.toInt) (0) (8) (i2l_i _) (by decide) (by decide)) wi_1270 wi_1271 wi_131 wi_1272 ⟨rfl, by decide +kernel⟩ ⟨Nat.le_of_ble_eq_true rfl, Nat.le_of_ble_eq_true rfl⟩ rfl hl.1 rfl (Nat.le_of_ble_eq_true rfl) dX9_count_117 ⟨Nat.le_of_ble_eq_true rfl, Nat.le_of_ble_eq_true rfl⟩) hP hD hS hA [] [0, 1] rfl rfl (by decide) (by decide) (fun r_4 u_3 H locs hwr_4 hP hD hS => ?_)
    have hP : va_P D classes [(h0, .inr (9, (.int 0 :: .ref (g 0) :: .ref (g 1) :: .ref (g 2) :: .ref (g 3) :: .int b5 :: .int b6 :: .int b7 :: .int b8 :: .int b9 :: .int b10 :: .int b11 :: .int b12 :: .int b13 :: .int b14 :: .ref (g 4) :: .ref (g 5) :: .int b17 :: .int b18 :: .int b19 :: .ref (g 6) :: .ref (g 7) :: .ref (g 8) :: .int b23 :: .int b24 :: .int b25 :: .int b26 :: .int b27 :: .ref (g 9) :: .int b29 :: .ref (g 10) :: .int b31 :: .int b32 :: .int b33 :: .ref (g 11) :: .ref (g 12) :: .ref (g 13) :: []))), ((g 0), .inl (cT 0, 288, .inl (a0)))] _ := hP
    have hD : va_D A [(h0, .inr (9, (.int 0 :: .ref (g 0) :: .ref (g 1) :: .ref (g 2) :: .ref (g 3) :: .int b5 :: .int b6 :: .int b7 :: .int b8 :: .int b9 :: .int b10 :: .int b11 :: .int b12 :: .int b13 :: .int b14 :: .ref (g 4) :: .ref (g 5) :: .int b17 :: .int b18 :: .int b19 :: .ref (g 6) :: .ref (g 7) :: .ref (g 8) :: .int b23 :: .int b24 :: .int b25 :: .int b26 :: .int b27 :: .ref (g 9) :: .int b29 :: .ref (g 10) :: .int b31 :: .int b32 :: .int b33 :: .ref (g 11) :: .ref (g 12) :: .ref (g 13) :: []))), ((g 0), .inl (cT 0, 288, .inl (a0)))] := hD
    have qr_4_0 : Imp (¬ r_4.toInt = 0) (0 ≤ x.toInt ∧ x.toInt ≤ 8) := hwr_4.1
    have qr_4_1 : r_4 = 0 ∨ r_4 = 1 := hwr_4.2.1
    refine lv_if_eq (tgt := 132) hx hb dX9_count_120 (by decide) (fun c_5 => ?_) (fun c_5 => ?_)
    · have ic_5 : r_4.toInt = 0 := ieq c_5 (rfl) (by decide)
      refine lv_iconst (v := (-1)) hx hb dX9_count_132 (by decide) ?_
      exact x_iret hx hb hr hlk hP hD hS [0, 1] ((0)) rfl (by decide) trivial (by decide) (by decide) dX9_count_133
    · have ic_5 : ¬ r_4.toInt = 0 := ine c_5 (rfl) (by decide)
      have kqr_4_0 : 0 ≤ x.toInt ∧ x.toInt ≤ 8 := qr_4_0 ic_5
      refine lv_aload_n hx hb dX9_count_123 rfl (lv_at hl 0 rfl) ?_
      refine va_get (D := D) (ci := 9) (v := .ref (g 0)) (C := RX9) (T := TX9) (N := 37) hx hb htg gRX9 hown hK hP 0 rfl rfl 1 (by decide) (htg _ wi_1151) (fun _ h9 => h9) rfl dX9_count_124 ?_
      refine lv_iload_n hx hb dX9_count_127 rfl (lv_at hl 1 rfl) ?_
      refine va_iald hx hb hK hP 1 0 rfl rfl (vp_in_iff.mpr (by omega)) dX9_count_128 ?_
      refine lv_topi (fun z_6 ez_6 => ?_)
      refine lv_goto (tgt := 133) hx hb dX9_count_129 (by decide) ?_
      exact x_iret hx hb hr hlk hP hD hS [0, 1] ((0)) rfl (by decide) trivial (by decide) (by decide) dX9_count_133
  · have ic_1 : x.toInt = 2 := ieq c_1 rfl (by decide)
    refine lv_is (y := 2) c_1 ?_
    refine lv_tableIn (off := 85) (tgt := 91) hx hb dX9_count_6 (by decide) (by decide) (by decide) (by decide) ?_
    refine lv_aload_n hx hb dX9_count_91 rfl (lv_at hl 0 rfl) ?_
    refine va_get (D := D) (ci := 9) (v := .ref (g 0)) (C := RX9) (T := TX9) (N := 37) hx hb htg gRX9 hown hK hP 0 rfl rfl 1 (by decide) (htg _ wi_1151) (fun _ h9 => h9) rfl dX9_count_92 ?_
    refine lv_iconst (v := 0) hx hb dX9_count_95 (by decide) ?_
    refine va_iald hx hb hK hP 1 0 rfl rfl (by unfold vp_in; decide) dX9_count_96 ?_
    refine lv_topi (fun z_7 ez_7 => ?_)
    have iz_7 : 0 ≤ z_7.toInt ∧ z_7.toInt ≤ 16 := by rw [ez_7]; exact rd0 pa0 (by decide) rfl
    have nz_7 : z_7.toInt = ((a0) 0).toInt := by rw [ez_7]; rfl
    refine lv_if_ne (tgt := 104) hx hb dX9_count_97 (by decide) (fun c_8 => ?_) (fun c_8 => ?_)
    · have ic_8 : ¬ z_7.toInt = 0 := ine c_8 (rfl) (by decide)
      refine lv_aload_n hx hb dX9_count_104 rfl (lv_at hl 0 rfl) ?_
      refine va_get (D := D) (ci := 9) (v := .ref (g 0)) (C := RX9) (T := TX9) (N := 37) hx hb htg gRX9 hown hK hP 0 rfl rfl 1 (by decide) (htg _ wi_1151) (fun _ h9 => h9) rfl dX9_count_105 ?_
      refine lv_iconst (v := 2) hx hb dX9_count_108 (by decide) ?_
      refine va_iald hx hb hK hP 1 0 rfl rfl (by unfold vp_in; decide) dX9_count_109 ?_
      refine lv_topi (fun z_9 ez_9 => ?_)
      have iz_9 : 0 ≤ z_9.toInt ∧ z_9.toInt ≤ 15 := by rw [ez_9]; exact rd2 pa0 (by decide) rfl
      have nz_9 : z_9.toInt = ((a0) 2).toInt := by rw [ez_9]; rfl
      exact x_iret hx hb hr hlk hP hD hS [0, 1] ((0)) rfl (by decide) trivial (by decide) (by decide) dX9_count_110
    · have ic_8 : z_7.toInt = 0 := ieq c_8 (rfl) (by decide)
      refine lv_iconst (v := (-1)) hx hb dX9_count_100 (by decide) ?_
      refine lv_goto (tgt := 110) hx hb dX9_count_101 (by decide) ?_
      exact x_iret hx hb hr hlk hP hD hS [0, 1] ((0)) rfl (by decide) trivial (by decide) (by decide) dX9_count_110
  · have ic_1 : x.toInt = 3 := ieq c_1 rfl (by decide)
    refine lv_is (y := 3) c_1 ?_
    refine lv_tableIn (off := 105) (tgt := 111) hx hb dX9_count_6 (by decide) (by decide) (by decide) (by decide) ?_
    refine lv_iload_n hx hb dX9_count_111 rfl (lv_at hl 1 rfl) ?_
    refine lv_i2l (v := x.toInt64) hx hb dX9_count_112 rfl ?_
    refine lv_lconst (v := 0) hx hb dX9_count_113 (by decide) ?_
    refine lv_ldc2 (v := 8) hx hb hown (htg _ wi_1477) dX9_count_114 ?_
    have ilw_10 : (x.toInt64).toInt = x.toInt := i2l_i _
    refine xk_i (wr := [(h0, .inr (9, (.int 0 :: .ref (g 0) :: .ref (g 1) :: .ref (g 2) :: .ref (g 3) :: .int b5 :: .int b6 :: .int b7 :: .int b8 :: .int b9 :: .int b10 :: .int b11 :: .int b12 :: .int b13 :: .int b14 :: .ref (g 4) :: .ref (g 5) :: .int b17 :: .int b18 :: .int b19 :: .ref (g 6) :: .ref (g 7) :: .ref (g 8) :: .int b23 :: .int b24 :: .int b25 :: .int b26 :: .int b27 :: .ref (g 9) :: .int b29 :: .ref (g 10) :: .int b31 :: .int b32 :: .int b33 :: .ref (g 11) :: .ref (g 12) :: .ref (g 13) :: []))), ((g 0), .inl (cT 0, 288, .inl (a0)))]) (xr_S (n := 3) (As := [.long x.toInt64, .long 0, .long 8]) (rest := []) ⟨hx, hb, hml, hown, htg⟩ hK hN hP hD hS hA [] rfl (by decide) (m_within l D cT _ (x.toInt64) (0) (8) (x.toInt) (0) (8) (i2l_i _) (by decide) (by decide)) wi_1270 wi_1271 wi_131 wi_1272 ⟨rfl, by decide +kernel⟩ ⟨Nat.le_of_ble_eq_true rfl, Nat.le_of_ble_eq_true rfl⟩ rfl hl.1 rfl (Nat.le_of_ble_eq_true rfl) dX9_count_117 ⟨Nat.le_of_ble_eq_true rfl, Nat.le_of_ble_eq_true rfl⟩) hP hD hS hA [] [0, 1] rfl rfl (by decide) (by decide) (fun r_12 u_11 H locs hwr_12 hP hD hS => ?_)
    have hP : va_P D classes [(h0, .inr (9, (.int 0 :: .ref (g 0) :: .ref (g 1) :: .ref (g 2) :: .ref (g 3) :: .int b5 :: .int b6 :: .int b7 :: .int b8 :: .int b9 :: .int b10 :: .int b11 :: .int b12 :: .int b13 :: .int b14 :: .ref (g 4) :: .ref (g 5) :: .int b17 :: .int b18 :: .int b19 :: .ref (g 6) :: .ref (g 7) :: .ref (g 8) :: .int b23 :: .int b24 :: .int b25 :: .int b26 :: .int b27 :: .ref (g 9) :: .int b29 :: .ref (g 10) :: .int b31 :: .int b32 :: .int b33 :: .ref (g 11) :: .ref (g 12) :: .ref (g 13) :: []))), ((g 0), .inl (cT 0, 288, .inl (a0)))] _ := hP
    have hD : va_D A [(h0, .inr (9, (.int 0 :: .ref (g 0) :: .ref (g 1) :: .ref (g 2) :: .ref (g 3) :: .int b5 :: .int b6 :: .int b7 :: .int b8 :: .int b9 :: .int b10 :: .int b11 :: .int b12 :: .int b13 :: .int b14 :: .ref (g 4) :: .ref (g 5) :: .int b17 :: .int b18 :: .int b19 :: .ref (g 6) :: .ref (g 7) :: .ref (g 8) :: .int b23 :: .int b24 :: .int b25 :: .int b26 :: .int b27 :: .ref (g 9) :: .int b29 :: .ref (g 10) :: .int b31 :: .int b32 :: .int b33 :: .ref (g 11) :: .ref (g 12) :: .ref (g 13) :: []))), ((g 0), .inl (cT 0, 288, .inl (a0)))] := hD
    have qr_12_0 : Imp (¬ r_12.toInt = 0) (0 ≤ x.toInt ∧ x.toInt ≤ 8) := hwr_12.1
    have qr_12_1 : r_12 = 0 ∨ r_12 = 1 := hwr_12.2.1
    refine lv_if_eq (tgt := 132) hx hb dX9_count_120 (by decide) (fun c_13 => ?_) (fun c_13 => ?_)
    · have ic_13 : r_12.toInt = 0 := ieq c_13 (rfl) (by decide)
      refine lv_iconst (v := (-1)) hx hb dX9_count_132 (by decide) ?_
      exact x_iret hx hb hr hlk hP hD hS [0, 1] ((0)) rfl (by decide) trivial (by decide) (by decide) dX9_count_133
    · have ic_13 : ¬ r_12.toInt = 0 := ine c_13 (rfl) (by decide)
      have kqr_12_0 : 0 ≤ x.toInt ∧ x.toInt ≤ 8 := qr_12_0 ic_13
      refine lv_aload_n hx hb dX9_count_123 rfl (lv_at hl 0 rfl) ?_
      refine va_get (D := D) (ci := 9) (v := .ref (g 0)) (C := RX9) (T := TX9) (N := 37) hx hb htg gRX9 hown hK hP 0 rfl rfl 1 (by decide) (htg _ wi_1151) (fun _ h9 => h9) rfl dX9_count_124 ?_
      refine lv_iload_n hx hb dX9_count_127 rfl (lv_at hl 1 rfl) ?_
      refine va_iald hx hb hK hP 1 0 rfl rfl (vp_in_iff.mpr (by omega)) dX9_count_128 ?_
      refine lv_topi (fun z_14 ez_14 => ?_)
      refine lv_goto (tgt := 133) hx hb dX9_count_129 (by decide) ?_
      exact x_iret hx hb hr hlk hP hD hS [0, 1] ((0)) rfl (by decide) trivial (by decide) (by decide) dX9_count_133
  · have ic_1 : x.toInt = 4 := ieq c_1 rfl (by decide)
    refine lv_is (y := 4) c_1 ?_
    refine lv_tableIn (off := 105) (tgt := 111) hx hb dX9_count_6 (by decide) (by decide) (by decide) (by decide) ?_
    refine lv_iload_n hx hb dX9_count_111 rfl (lv_at hl 1 rfl) ?_
    refine lv_i2l (v := x.toInt64) hx hb dX9_count_112 rfl ?_
    refine lv_lconst (v := 0) hx hb dX9_count_113 (by decide) ?_
    refine lv_ldc2 (v := 8) hx hb hown (htg _ wi_1477) dX9_count_114 ?_
    have ilw_15 : (x.toInt64).toInt = x.toInt := i2l_i _
    refine xk_i (wr := [(h0, .inr (9, (.int 0 :: .ref (g 0) :: .ref (g 1) :: .ref (g 2) :: .ref (g 3) :: .int b5 :: .int b6 :: .int b7 :: .int b8 :: .int b9 :: .int b10 :: .int b11 :: .int b12 :: .int b13 :: .int b14 :: .ref (g 4) :: .ref (g 5) :: .int b17 :: .int b18 :: .int b19 :: .ref (g 6) :: .ref (g 7) :: .ref (g 8) :: .int b23 :: .int b24 :: .int b25 :: .int b26 :: .int b27 :: .ref (g 9) :: .int b29 :: .ref (g 10) :: .int b31 :: .int b32 :: .int b33 :: .ref (g 11) :: .ref (g 12) :: .ref (g 13) :: []))), ((g 0), .inl (cT 0, 288, .inl (a0)))]) (xr_S (n := 3) (As := [.long x.toInt64, .long 0, .long 8]) (rest := []) ⟨hx, hb, hml, hown, htg⟩ hK hN hP hD hS hA [] rfl (by decide) (m_within l D cT _ (x.toInt64) (0) (8) (x.toInt) (0) (8) (i2l_i _) (by decide) (by decide)) wi_1270 wi_1271 wi_131 wi_1272 ⟨rfl, by decide +kernel⟩ ⟨Nat.le_of_ble_eq_true rfl, Nat.le_of_ble_eq_true rfl⟩ rfl hl.1 rfl (Nat.le_of_ble_eq_true rfl) dX9_count_117 ⟨Nat.le_of_ble_eq_true rfl, Nat.le_of_ble_eq_true rfl⟩) hP hD hS hA [] [0, 1] rfl rfl (by decide) (by decide) (fun r_17 u_16 H locs hwr_17 hP hD hS => ?_)
    have hP : va_P D classes [(h0, .inr (9, (.int 0 :: .ref (g 0) :: .ref (g 1) :: .ref (g 2) :: .ref (g 3) :: .int b5 :: .int b6 :: .int b7 :: .int b8 :: .int b9 :: .int b10 :: .int b11 :: .int b12 :: .int b13 :: .int b14 :: .ref (g 4) :: .ref (g 5) :: .int b17 :: .int b18 :: .int b19 :: .ref (g 6) :: .ref (g 7) :: .ref (g 8) :: .int b23 :: .int b24 :: .int b25 :: .int b26 :: .int b27 :: .ref (g 9) :: .int b29 :: .ref (g 10) :: .int b31 :: .int b32 :: .int b33 :: .ref (g 11) :: .ref (g 12) :: .ref (g 13) :: []))), ((g 0), .inl (cT 0, 288, .inl (a0)))] _ := hP
    have hD : va_D A [(h0, .inr (9, (.int 0 :: .ref (g 0) :: .ref (g 1) :: .ref (g 2) :: .ref (g 3) :: .int b5 :: .int b6 :: .int b7 :: .int b8 :: .int b9 :: .int b10 :: .int b11 :: .int b12 :: .int b13 :: .int b14 :: .ref (g 4) :: .ref (g 5) :: .int b17 :: .int b18 :: .int b19 :: .ref (g 6) :: .ref (g 7) :: .ref (g 8) :: .int b23 :: .int b24 :: .int b25 :: .int b26 :: .int b27 :: .ref (g 9) :: .int b29 :: .ref (g 10) :: .int b31 :: .int b32 :: .int b33 :: .ref (g 11) :: .ref (g 12) :: .ref (g 13) :: []))), ((g 0), .inl (cT 0, 288, .inl (a0)))] := hD
    have qr_17_0 : Imp (¬ r_17.toInt = 0) (0 ≤ x.toInt ∧ x.toInt ≤ 8) := hwr_17.1
    have qr_17_1 : r_17 = 0 ∨ r_17 = 1 := hwr_17.2.1
    refine lv_if_eq (tgt := 132) hx hb dX9_count_120 (by decide) (fun c_18 => ?_) (fun c_18 => ?_)
    · have ic_18 : r_17.toInt = 0 := ieq c_18 (rfl) (by decide)
      refine lv_iconst (v := (-1)) hx hb dX9_count_132 (by decide) ?_
      exact x_iret hx hb hr hlk hP hD hS [0, 1] ((0)) rfl (by decide) trivial (by decide) (by decide) dX9_count_133
    · have ic_18 : ¬ r_17.toInt = 0 := ine c_18 (rfl) (by decide)
      have kqr_17_0 : 0 ≤ x.toInt ∧ x.toInt ≤ 8 := qr_17_0 ic_18
      refine lv_aload_n hx hb dX9_count_123 rfl (lv_at hl 0 rfl) ?_
      refine va_get (D := D) (ci := 9) (v := .ref (g 0)) (C := RX9) (T := TX9) (N := 37) hx hb htg gRX9 hown hK hP 0 rfl rfl 1 (by decide) (htg _ wi_1151) (fun _ h9 => h9) rfl dX9_count_124 ?_
      refine lv_iload_n hx hb dX9_count_127 rfl (lv_at hl 1 rfl) ?_
      refine va_iald hx hb hK hP 1 0 rfl rfl (vp_in_iff.mpr (by omega)) dX9_count_128 ?_
      refine lv_topi (fun z_19 ez_19 => ?_)
      refine lv_goto (tgt := 133) hx hb dX9_count_129 (by decide) ?_
      exact x_iret hx hb hr hlk hP hD hS [0, 1] ((0)) rfl (by decide) trivial (by decide) (by decide) dX9_count_133
  · have ic_1 : x.toInt = 5 := ieq c_1 rfl (by decide)
    refine lv_is (y := 5) c_1 ?_
    refine lv_tableIn (off := 105) (tgt := 111) hx hb dX9_count_6 (by decide) (by decide) (by decide) (by decide) ?_
    refine lv_iload_n hx hb dX9_count_111 rfl (lv_at hl 1 rfl) ?_
    refine lv_i2l (v := x.toInt64) hx hb dX9_count_112 rfl ?_
    refine lv_lconst (v := 0) hx hb dX9_count_113 (by decide) ?_
    refine lv_ldc2 (v := 8) hx hb hown (htg _ wi_1477) dX9_count_114 ?_
    have ilw_20 : (x.toInt64).toInt = x.toInt := i2l_i _
    refine xk_i (wr := [(h0, .inr (9, (.int 0 :: .ref (g 0) :: .ref (g 1) :: .ref (g 2) :: .ref (g 3) :: .int b5 :: .int b6 :: .int b7 :: .int b8 :: .int b9 :: .int b10 :: .int b11 :: .int b12 :: .int b13 :: .int b14 :: .ref (g 4) :: .ref (g 5) :: .int b17 :: .int b18 :: .int b19 :: .ref (g 6) :: .ref (g 7) :: .ref (g 8) :: .int b23 :: .int b24 :: .int b25 :: .int b26 :: .int b27 :: .ref (g 9) :: .int b29 :: .ref (g 10) :: .int b31 :: .int b32 :: .int b33 :: .ref (g 11) :: .ref (g 12) :: .ref (g 13) :: []))), ((g 0), .inl (cT 0, 288, .inl (a0)))]) (xr_S (n := 3) (As := [.long x.toInt64, .long 0, .long 8]) (rest := []) ⟨hx, hb, hml, hown, htg⟩ hK hN hP hD hS hA [] rfl (by decide) (m_within l D cT _ (x.toInt64) (0) (8) (x.toInt) (0) (8) (i2l_i _) (by decide) (by decide)) wi_1270 wi_1271 wi_131 wi_1272 ⟨rfl, by decide +kernel⟩ ⟨Nat.le_of_ble_eq_true rfl, Nat.le_of_ble_eq_true rfl⟩ rfl hl.1 rfl (Nat.le_of_ble_eq_true rfl) dX9_count_117 ⟨Nat.le_of_ble_eq_true rfl, Nat.le_of_ble_eq_true rfl⟩) hP hD hS hA [] [0, 1] rfl rfl (by decide) (by decide) (fun r_22 u_21 H locs hwr_22 hP hD hS => ?_)
    have hP : va_P D classes [(h0, .inr (9, (.int 0 :: .ref (g 0) :: .ref (g 1) :: .ref (g 2) :: .ref (g 3) :: .int b5 :: .int b6 :: .int b7 :: .int b8 :: .int b9 :: .int b10 :: .int b11 :: .int b12 :: .int b13 :: .int b14 :: .ref (g 4) :: .ref (g 5) :: .int b17 :: .int b18 :: .int b19 :: .ref (g 6) :: .ref (g 7) :: .ref (g 8) :: .int b23 :: .int b24 :: .int b25 :: .int b26 :: .int b27 :: .ref (g 9) :: .int b29 :: .ref (g 10) :: .int b31 :: .int b32 :: .int b33 :: .ref (g 11) :: .ref (g 12) :: .ref (g 13) :: []))), ((g 0), .inl (cT 0, 288, .inl (a0)))] _ := hP
    have hD : va_D A [(h0, .inr (9, (.int 0 :: .ref (g 0) :: .ref (g 1) :: .ref (g 2) :: .ref (g 3) :: .int b5 :: .int b6 :: .int b7 :: .int b8 :: .int b9 :: .int b10 :: .int b11 :: .int b12 :: .int b13 :: .int b14 :: .ref (g 4) :: .ref (g 5) :: .int b17 :: .int b18 :: .int b19 :: .ref (g 6) :: .ref (g 7) :: .ref (g 8) :: .int b23 :: .int b24 :: .int b25 :: .int b26 :: .int b27 :: .ref (g 9) :: .int b29 :: .ref (g 10) :: .int b31 :: .int b32 :: .int b33 :: .ref (g 11) :: .ref (g 12) :: .ref (g 13) :: []))), ((g 0), .inl (cT 0, 288, .inl (a0)))] := hD
    have qr_22_0 : Imp (¬ r_22.toInt = 0) (0 ≤ x.toInt ∧ x.toInt ≤ 8) := hwr_22.1
    have qr_22_1 : r_22 = 0 ∨ r_22 = 1 := hwr_22.2.1
    refine lv_if_eq (tgt := 132) hx hb dX9_count_120 (by decide) (fun c_23 => ?_) (fun c_23 => ?_)
    · have ic_23 : r_22.toInt = 0 := ieq c_23 (rfl) (by decide)
      refine lv_iconst (v := (-1)) hx hb dX9_count_132 (by decide) ?_
      exact x_iret hx hb hr hlk hP hD hS [0, 1] ((0)) rfl (by decide) trivial (by decide) (by decide) dX9_count_133
    · have ic_23 : ¬ r_22.toInt = 0 := ine c_23 (rfl) (by decide)
      have kqr_22_0 : 0 ≤ x.toInt ∧ x.toInt ≤ 8 := qr_22_0 ic_23
      refine lv_aload_n hx hb dX9_count_123 rfl (lv_at hl 0 rfl) ?_
      refine va_get (D := D) (ci := 9) (v := .ref (g 0)) (C := RX9) (T := TX9) (N := 37) hx hb htg gRX9 hown hK hP 0 rfl rfl 1 (by decide) (htg _ wi_1151) (fun _ h9 => h9) rfl dX9_count_124 ?_
      refine lv_iload_n hx hb dX9_count_127 rfl (lv_at hl 1 rfl) ?_
      refine va_iald hx hb hK hP 1 0 rfl rfl (vp_in_iff.mpr (by omega)) dX9_count_128 ?_
      refine lv_topi (fun z_24 ez_24 => ?_)
      refine lv_goto (tgt := 133) hx hb dX9_count_129 (by decide) ?_
      exact x_iret hx hb hr hlk hP hD hS [0, 1] ((0)) rfl (by decide) trivial (by decide) (by decide) dX9_count_133
  · have ic_1 : x.toInt = 6 := ieq c_1 rfl (by decide)
    refine lv_is (y := 6) c_1 ?_
    refine lv_tableIn (off := 105) (tgt := 111) hx hb dX9_count_6 (by decide) (by decide) (by decide) (by decide) ?_
    refine lv_iload_n hx hb dX9_count_111 rfl (lv_at hl 1 rfl) ?_
    refine lv_i2l (v := x.toInt64) hx hb dX9_count_112 rfl ?_
    refine lv_lconst (v := 0) hx hb dX9_count_113 (by decide) ?_
    refine lv_ldc2 (v := 8) hx hb hown (htg _ wi_1477) dX9_count_114 ?_
    have ilw_25 : (x.toInt64).toInt = x.toInt := i2l_i _
    refine xk_i (wr := [(h0, .inr (9, (.int 0 :: .ref (g 0) :: .ref (g 1) :: .ref (g 2) :: .ref (g 3) :: .int b5 :: .int b6 :: .int b7 :: .int b8 :: .int b9 :: .int b10 :: .int b11 :: .int b12 :: .int b13 :: .int b14 :: .ref (g 4) :: .ref (g 5) :: .int b17 :: .int b18 :: .int b19 :: .ref (g 6) :: .ref (g 7) :: .ref (g 8) :: .int b23 :: .int b24 :: .int b25 :: .int b26 :: .int b27 :: .ref (g 9) :: .int b29 :: .ref (g 10) :: .int b31 :: .int b32 :: .int b33 :: .ref (g 11) :: .ref (g 12) :: .ref (g 13) :: []))), ((g 0), .inl (cT 0, 288, .inl (a0)))]) (xr_S (n := 3) (As := [.long x.toInt64, .long 0, .long 8]) (rest := []) ⟨hx, hb, hml, hown, htg⟩ hK hN hP hD hS hA [] rfl (by decide) (m_within l D cT _ (x.toInt64) (0) (8) (x.toInt) (0) (8) (i2l_i _) (by decide) (by decide)) wi_1270 wi_1271 wi_131 wi_1272 ⟨rfl, by decide +kernel⟩ ⟨Nat.le_of_ble_eq_true rfl, Nat.le_of_ble_eq_true rfl⟩ rfl hl.1 rfl (Nat.le_of_ble_eq_true rfl) dX9_count_117 ⟨Nat.le_of_ble_eq_true rfl, Nat.le_of_ble_eq_true rfl⟩) hP hD hS hA [] [0, 1] rfl rfl (by decide) (by decide) (fun r_27 u_26 H locs hwr_27 hP hD hS => ?_)
    have hP : va_P D classes [(h0, .inr (9, (.int 0 :: .ref (g 0) :: .ref (g 1) :: .ref (g 2) :: .ref (g 3) :: .int b5 :: .int b6 :: .int b7 :: .int b8 :: .int b9 :: .int b10 :: .int b11 :: .int b12 :: .int b13 :: .int b14 :: .ref (g 4) :: .ref (g 5) :: .int b17 :: .int b18 :: .int b19 :: .ref (g 6) :: .ref (g 7) :: .ref (g 8) :: .int b23 :: .int b24 :: .int b25 :: .int b26 :: .int b27 :: .ref (g 9) :: .int b29 :: .ref (g 10) :: .int b31 :: .int b32 :: .int b33 :: .ref (g 11) :: .ref (g 12) :: .ref (g 13) :: []))), ((g 0), .inl (cT 0, 288, .inl (a0)))] _ := hP
    have hD : va_D A [(h0, .inr (9, (.int 0 :: .ref (g 0) :: .ref (g 1) :: .ref (g 2) :: .ref (g 3) :: .int b5 :: .int b6 :: .int b7 :: .int b8 :: .int b9 :: .int b10 :: .int b11 :: .int b12 :: .int b13 :: .int b14 :: .ref (g 4) :: .ref (g 5) :: .int b17 :: .int b18 :: .int b19 :: .ref (g 6) :: .ref (g 7) :: .ref (g 8) :: .int b23 :: .int b24 :: .int b25 :: .int b26 :: .int b27 :: .ref (g 9) :: .int b29 :: .ref (g 10) :: .int b31 :: .int b32 :: .int b33 :: .ref (g 11) :: .ref (g 12) :: .ref (g 13) :: []))), ((g 0), .inl (cT 0, 288, .inl (a0)))] := hD
    have qr_27_0 : Imp (¬ r_27.toInt = 0) (0 ≤ x.toInt ∧ x.toInt ≤ 8) := hwr_27.1
    have qr_27_1 : r_27 = 0 ∨ r_27 = 1 := hwr_27.2.1
    refine lv_if_eq (tgt := 132) hx hb dX9_count_120 (by decide) (fun c_28 => ?_) (fun c_28 => ?_)
    · have ic_28 : r_27.toInt = 0 := ieq c_28 (rfl) (by decide)
      refine lv_iconst (v := (-1)) hx hb dX9_count_132 (by decide) ?_
      exact x_iret hx hb hr hlk hP hD hS [0, 1] ((0)) rfl (by decide) trivial (by decide) (by decide) dX9_count_133
    · have ic_28 : ¬ r_27.toInt = 0 := ine c_28 (rfl) (by decide)
      have kqr_27_0 : 0 ≤ x.toInt ∧ x.toInt ≤ 8 := qr_27_0 ic_28
      refine lv_aload_n hx hb dX9_count_123 rfl (lv_at hl 0 rfl) ?_
      refine va_get (D := D) (ci := 9) (v := .ref (g 0)) (C := RX9) (T := TX9) (N := 37) hx hb htg gRX9 hown hK hP 0 rfl rfl 1 (by decide) (htg _ wi_1151) (fun _ h9 => h9) rfl dX9_count_124 ?_
      refine lv_iload_n hx hb dX9_count_127 rfl (lv_at hl 1 rfl) ?_
      refine va_iald hx hb hK hP 1 0 rfl rfl (vp_in_iff.mpr (by omega)) dX9_count_128 ?_
      refine lv_topi (fun z_29 ez_29 => ?_)
      refine lv_goto (tgt := 133) hx hb dX9_count_129 (by decide) ?_
      exact x_iret hx hb hr hlk hP hD hS [0, 1] ((0)) rfl (by decide) trivial (by decide) (by decide) dX9_count_133
  · have ic_1 : x.toInt = 7 := ieq c_1 rfl (by decide)
    refine lv_is (y := 7) c_1 ?_
    refine lv_tableIn (off := 105) (tgt := 111) hx hb dX9_count_6 (by decide) (by decide) (by decide) (by decide) ?_
    refine lv_iload_n hx hb dX9_count_111 rfl (lv_at hl 1 rfl) ?_
    refine lv_i2l (v := x.toInt64) hx hb dX9_count_112 rfl ?_
    refine lv_lconst (v := 0) hx hb dX9_count_113 (by decide) ?_
    refine lv_ldc2 (v := 8) hx hb hown (htg _ wi_1477) dX9_count_114 ?_
    have ilw_30 : (x.toInt64).toInt = x.toInt := i2l_i _
    refine xk_i (wr := [(h0, .inr (9, (.int 0 :: .ref (g 0) :: .ref (g 1) :: .ref (g 2) :: .ref (g 3) :: .int b5 :: .int b6 :: .int b7 :: .int b8 :: .int b9 :: .int b10 :: .int b11 :: .int b12 :: .int b13 :: .int b14 :: .ref (g 4) :: .ref (g 5) :: .int b17 :: .int b18 :: .int b19 :: .ref (g 6) :: .ref (g 7) :: .ref (g 8) :: .int b23 :: .int b24 :: .int b25 :: .int b26 :: .int b27 :: .ref (g 9) :: .int b29 :: .ref (g 10) :: .int b31 :: .int b32 :: .int b33 :: .ref (g 11) :: .ref (g 12) :: .ref (g 13) :: []))), ((g 0), .inl (cT 0, 288, .inl (a0)))]) (xr_S (n := 3) (As := [.long x.toInt64, .long 0, .long 8]) (rest := []) ⟨hx, hb, hml, hown, htg⟩ hK hN hP hD hS hA [] rfl (by decide) (m_within l D cT _ (x.toInt64) (0) (8) (x.toInt) (0) (8) (i2l_i _) (by decide) (by decide)) wi_1270 wi_1271 wi_131 wi_1272 ⟨rfl, by decide +kernel⟩ ⟨Nat.le_of_ble_eq_true rfl, Nat.le_of_ble_eq_true rfl⟩ rfl hl.1 rfl (Nat.le_of_ble_eq_true rfl) dX9_count_117 ⟨Nat.le_of_ble_eq_true rfl, Nat.le_of_ble_eq_true rfl⟩) hP hD hS hA [] [0, 1] rfl rfl (by decide) (by decide) (fun r_32 u_31 H locs hwr_32 hP hD hS => ?_)
    have hP : va_P D classes [(h0, .inr (9, (.int 0 :: .ref (g 0) :: .ref (g 1) :: .ref (g 2) :: .ref (g 3) :: .int b5 :: .int b6 :: .int b7 :: .int b8 :: .int b9 :: .int b10 :: .int b11 :: .int b12 :: .int b13 :: .int b14 :: .ref (g 4) :: .ref (g 5) :: .int b17 :: .int b18 :: .int b19 :: .ref (g 6) :: .ref (g 7) :: .ref (g 8) :: .int b23 :: .int b24 :: .int b25 :: .int b26 :: .int b27 :: .ref (g 9) :: .int b29 :: .ref (g 10) :: .int b31 :: .int b32 :: .int b33 :: .ref (g 11) :: .ref (g 12) :: .ref (g 13) :: []))), ((g 0), .inl (cT 0, 288, .inl (a0)))] _ := hP
    have hD : va_D A [(h0, .inr (9, (.int 0 :: .ref (g 0) :: .ref (g 1) :: .ref (g 2) :: .ref (g 3) :: .int b5 :: .int b6 :: .int b7 :: .int b8 :: .int b9 :: .int b10 :: .int b11 :: .int b12 :: .int b13 :: .int b14 :: .ref (g 4) :: .ref (g 5) :: .int b17 :: .int b18 :: .int b19 :: .ref (g 6) :: .ref (g 7) :: .ref (g 8) :: .int b23 :: .int b24 :: .int b25 :: .int b26 :: .int b27 :: .ref (g 9) :: .int b29 :: .ref (g 10) :: .int b31 :: .int b32 :: .int b33 :: .ref (g 11) :: .ref (g 12) :: .ref (g 13) :: []))), ((g 0), .inl (cT 0, 288, .inl (a0)))] := hD
    have qr_32_0 : Imp (¬ r_32.toInt = 0) (0 ≤ x.toInt ∧ x.toInt ≤ 8) := hwr_32.1
    have qr_32_1 : r_32 = 0 ∨ r_32 = 1 := hwr_32.2.1
    refine lv_if_eq (tgt := 132) hx hb dX9_count_120 (by decide) (fun c_33 => ?_) (fun c_33 => ?_)
    · have ic_33 : r_32.toInt = 0 := ieq c_33 (rfl) (by decide)
      refine lv_iconst (v := (-1)) hx hb dX9_count_132 (by decide) ?_
      exact x_iret hx hb hr hlk hP hD hS [0, 1] ((0)) rfl (by decide) trivial (by decide) (by decide) dX9_count_133
    · have ic_33 : ¬ r_32.toInt = 0 := ine c_33 (rfl) (by decide)
      have kqr_32_0 : 0 ≤ x.toInt ∧ x.toInt ≤ 8 := qr_32_0 ic_33
      refine lv_aload_n hx hb dX9_count_123 rfl (lv_at hl 0 rfl) ?_
      refine va_get (D := D) (ci := 9) (v := .ref (g 0)) (C := RX9) (T := TX9) (N := 37) hx hb htg gRX9 hown hK hP 0 rfl rfl 1 (by decide) (htg _ wi_1151) (fun _ h9 => h9) rfl dX9_count_124 ?_
      refine lv_iload_n hx hb dX9_count_127 rfl (lv_at hl 1 rfl) ?_
      refine va_iald hx hb hK hP 1 0 rfl rfl (vp_in_iff.mpr (by omega)) dX9_count_128 ?_
      refine lv_topi (fun z_34 ez_34 => ?_)
      refine lv_goto (tgt := 133) hx hb dX9_count_129 (by decide) ?_
      exact x_iret hx hb hr hlk hP hD hS [0, 1] ((0)) rfl (by decide) trivial (by decide) (by decide) dX9_count_133
  · have ic_1 : x.toInt = 8 := ieq c_1 rfl (by decide)
    refine lv_is (y := 8) c_1 ?_
    refine lv_tableIn (off := 105) (tgt := 111) hx hb dX9_count_6 (by decide) (by decide) (by decide) (by decide) ?_
    refine lv_iload_n hx hb dX9_count_111 rfl (lv_at hl 1 rfl) ?_
    refine lv_i2l (v := x.toInt64) hx hb dX9_count_112 rfl ?_
    refine lv_lconst (v := 0) hx hb dX9_count_113 (by decide) ?_
    refine lv_ldc2 (v := 8) hx hb hown (htg _ wi_1477) dX9_count_114 ?_
    have ilw_35 : (x.toInt64).toInt = x.toInt := i2l_i _
    refine xk_i (wr := [(h0, .inr (9, (.int 0 :: .ref (g 0) :: .ref (g 1) :: .ref (g 2) :: .ref (g 3) :: .int b5 :: .int b6 :: .int b7 :: .int b8 :: .int b9 :: .int b10 :: .int b11 :: .int b12 :: .int b13 :: .int b14 :: .ref (g 4) :: .ref (g 5) :: .int b17 :: .int b18 :: .int b19 :: .ref (g 6) :: .ref (g 7) :: .ref (g 8) :: .int b23 :: .int b24 :: .int b25 :: .int b26 :: .int b27 :: .ref (g 9) :: .int b29 :: .ref (g 10) :: .int b31 :: .int b32 :: .int b33 :: .ref (g 11) :: .ref (g 12) :: .ref (g 13) :: []))), ((g 0), .inl (cT 0, 288, .inl (a0)))]) (xr_S (n := 3) (As := [.long x.toInt64, .long 0, .long 8]) (rest := []) ⟨hx, hb, hml, hown, htg⟩ hK hN hP hD hS hA [] rfl (by decide) (m_within l D cT _ (x.toInt64) (0) (8) (x.toInt) (0) (8) (i2l_i _) (by decide) (by decide)) wi_1270 wi_1271 wi_131 wi_1272 ⟨rfl, by decide +kernel⟩ ⟨Nat.le_of_ble_eq_true rfl, Nat.le_of_ble_eq_true rfl⟩ rfl hl.1 rfl (Nat.le_of_ble_eq_true rfl) dX9_count_117 ⟨Nat.le_of_ble_eq_true rfl, Nat.le_of_ble_eq_true rfl⟩) hP hD hS hA [] [0, 1] rfl rfl (by decide) (by decide) (fun r_37 u_36 H locs hwr_37 hP hD hS => ?_)
    have hP : va_P D classes [(h0, .inr (9, (.int 0 :: .ref (g 0) :: .ref (g 1) :: .ref (g 2) :: .ref (g 3) :: .int b5 :: .int b6 :: .int b7 :: .int b8 :: .int b9 :: .int b10 :: .int b11 :: .int b12 :: .int b13 :: .int b14 :: .ref (g 4) :: .ref (g 5) :: .int b17 :: .int b18 :: .int b19 :: .ref (g 6) :: .ref (g 7) :: .ref (g 8) :: .int b23 :: .int b24 :: .int b25 :: .int b26 :: .int b27 :: .ref (g 9) :: .int b29 :: .ref (g 10) :: .int b31 :: .int b32 :: .int b33 :: .ref (g 11) :: .ref (g 12) :: .ref (g 13) :: []))), ((g 0), .inl (cT 0, 288, .inl (a0)))] _ := hP
    have hD : va_D A [(h0, .inr (9, (.int 0 :: .ref (g 0) :: .ref (g 1) :: .ref (g 2) :: .ref (g 3) :: .int b5 :: .int b6 :: .int b7 :: .int b8 :: .int b9 :: .int b10 :: .int b11 :: .int b12 :: .int b13 :: .int b14 :: .ref (g 4) :: .ref (g 5) :: .int b17 :: .int b18 :: .int b19 :: .ref (g 6) :: .ref (g 7) :: .ref (g 8) :: .int b23 :: .int b24 :: .int b25 :: .int b26 :: .int b27 :: .ref (g 9) :: .int b29 :: .ref (g 10) :: .int b31 :: .int b32 :: .int b33 :: .ref (g 11) :: .ref (g 12) :: .ref (g 13) :: []))), ((g 0), .inl (cT 0, 288, .inl (a0)))] := hD
    have qr_37_0 : Imp (¬ r_37.toInt = 0) (0 ≤ x.toInt ∧ x.toInt ≤ 8) := hwr_37.1
    have qr_37_1 : r_37 = 0 ∨ r_37 = 1 := hwr_37.2.1
    refine lv_if_eq (tgt := 132) hx hb dX9_count_120 (by decide) (fun c_38 => ?_) (fun c_38 => ?_)
    · have ic_38 : r_37.toInt = 0 := ieq c_38 (rfl) (by decide)
      refine lv_iconst (v := (-1)) hx hb dX9_count_132 (by decide) ?_
      exact x_iret hx hb hr hlk hP hD hS [0, 1] ((0)) rfl (by decide) trivial (by decide) (by decide) dX9_count_133
    · have ic_38 : ¬ r_37.toInt = 0 := ine c_38 (rfl) (by decide)
      have kqr_37_0 : 0 ≤ x.toInt ∧ x.toInt ≤ 8 := qr_37_0 ic_38
      refine lv_aload_n hx hb dX9_count_123 rfl (lv_at hl 0 rfl) ?_
      refine va_get (D := D) (ci := 9) (v := .ref (g 0)) (C := RX9) (T := TX9) (N := 37) hx hb htg gRX9 hown hK hP 0 rfl rfl 1 (by decide) (htg _ wi_1151) (fun _ h9 => h9) rfl dX9_count_124 ?_
      refine lv_iload_n hx hb dX9_count_127 rfl (lv_at hl 1 rfl) ?_
      refine va_iald hx hb hK hP 1 0 rfl rfl (vp_in_iff.mpr (by omega)) dX9_count_128 ?_
      refine lv_topi (fun z_39 ez_39 => ?_)
      refine lv_goto (tgt := 133) hx hb dX9_count_129 (by decide) ?_
      exact x_iret hx hb hr hlk hP hD hS [0, 1] ((0)) rfl (by decide) trivial (by decide) (by decide) dX9_count_133
  · have ic_1 : x.toInt = 9 := ieq c_1 rfl (by decide)
    refine lv_is (y := 9) c_1 ?_
    refine lv_tableIn (off := 58) (tgt := 64) hx hb dX9_count_6 (by decide) (by decide) (by decide) (by decide) ?_
    refine lv_aload_n hx hb dX9_count_64 rfl (lv_at hl 0 rfl) ?_
    refine lv_bipush (v := 16) hx hb dX9_count_65 (by decide) ?_
    refine xk_i (wr := []) (xr_V (n := 1) (As := [.int 16]) (rest := []) ⟨hx, hb, hml, hown, htg⟩ hK hN hP hD hS hA [0, 1] rfl (by decide) (m_sumOf l D cT _ (h0) (g) (0) (b5) (b6) (b7) (b8) (b9) (b10) (b11) (b12) (b13) (b14) (b17) (b18) (b19) (b23) (b24) (b25) (b26) (b27) (b29) (b31) (b32) (b33) (by first | assumption | omega | decide | exact Or.inl (by decide) | (intro h9; exact absurd h9 (by decide)) | (intro _; omega) | (intro _; assumption) | (intro _; decide)) (a0) (by first | assumption | omega | decide | exact Or.inl (by decide) | (intro h9; exact absurd h9 (by decide)) | (intro _; omega) | (intro _; assumption) | (intro _; decide)) (16) (by first | assumption | omega | decide | exact Or.inl (by decide) | (intro h9; exact absurd h9 (by decide)) | (intro _; omega) | (intro _; assumption) | (intro _; decide))) wi_1626 wi_1628 wi_119 wi_131 wi_1629 rfl rfl rfl ⟨rfl, by decide +kernel⟩ ⟨Nat.le_of_ble_eq_true rfl, Nat.le_of_ble_eq_true rfl⟩ rfl hl.1 rfl (Nat.le_of_ble_eq_true rfl) dX9_count_67 ⟨Nat.le_of_ble_eq_true rfl, Nat.le_of_ble_eq_true rfl⟩) hP hD hS hA [0, 1] [] rfl rfl (by decide) (by decide) (fun r_41 u_40 H locs hwr_41 hP hD hS => ?_)
    have hP : va_P D classes [(h0, .inr (9, (.int 0 :: .ref (g 0) :: .ref (g 1) :: .ref (g 2) :: .ref (g 3) :: .int b5 :: .int b6 :: .int b7 :: .int b8 :: .int b9 :: .int b10 :: .int b11 :: .int b12 :: .int b13 :: .int b14 :: .ref (g 4) :: .ref (g 5) :: .int b17 :: .int b18 :: .int b19 :: .ref (g 6) :: .ref (g 7) :: .ref (g 8) :: .int b23 :: .int b24 :: .int b25 :: .int b26 :: .int b27 :: .ref (g 9) :: .int b29 :: .ref (g 10) :: .int b31 :: .int b32 :: .int b33 :: .ref (g 11) :: .ref (g 12) :: .ref (g 13) :: []))), ((g 0), .inl (cT 0, 288, .inl (a0)))] _ := hP
    have hD : va_D A [(h0, .inr (9, (.int 0 :: .ref (g 0) :: .ref (g 1) :: .ref (g 2) :: .ref (g 3) :: .int b5 :: .int b6 :: .int b7 :: .int b8 :: .int b9 :: .int b10 :: .int b11 :: .int b12 :: .int b13 :: .int b14 :: .ref (g 4) :: .ref (g 5) :: .int b17 :: .int b18 :: .int b19 :: .ref (g 6) :: .ref (g 7) :: .ref (g 8) :: .int b23 :: .int b24 :: .int b25 :: .int b26 :: .int b27 :: .ref (g 9) :: .int b29 :: .ref (g 10) :: .int b31 :: .int b32 :: .int b33 :: .ref (g 11) :: .ref (g 12) :: .ref (g 13) :: []))), ((g 0), .inl (cT 0, 288, .inl (a0)))] := hD
    exact x_iret hx hb hr hlk hP hD hS [0, 1] ((0)) rfl (by decide) trivial (by decide) (by decide) dX9_count_70
  · have ic_1 : x.toInt = 10 := ieq c_1 rfl (by decide)
    refine lv_is (y := 10) c_1 ?_
    refine lv_tableIn (off := 65) (tgt := 71) hx hb dX9_count_6 (by decide) (by decide) (by decide) (by decide) ?_
    refine lv_aload_n hx hb dX9_count_71 rfl (lv_at hl 0 rfl) ?_
    refine lv_bipush (v := 80) hx hb dX9_count_72 (by decide) ?_
    refine xk_i (wr := []) (xr_V (n := 1) (As := [.int 80]) (rest := []) ⟨hx, hb, hml, hown, htg⟩ hK hN hP hD hS hA [0, 1] rfl (by decide) (m_sumOf l D cT _ (h0) (g) (0) (b5) (b6) (b7) (b8) (b9) (b10) (b11) (b12) (b13) (b14) (b17) (b18) (b19) (b23) (b24) (b25) (b26) (b27) (b29) (b31) (b32) (b33) (by first | assumption | omega | decide | exact Or.inl (by decide) | (intro h9; exact absurd h9 (by decide)) | (intro _; omega) | (intro _; assumption) | (intro _; decide)) (a0) (by first | assumption | omega | decide | exact Or.inl (by decide) | (intro h9; exact absurd h9 (by decide)) | (intro _; omega) | (intro _; assumption) | (intro _; decide)) (80) (by first | assumption | omega | decide | exact Or.inl (by decide) | (intro h9; exact absurd h9 (by decide)) | (intro _; omega) | (intro _; assumption) | (intro _; decide))) wi_1626 wi_1628 wi_119 wi_131 wi_1629 rfl rfl rfl ⟨rfl, by decide +kernel⟩ ⟨Nat.le_of_ble_eq_true rfl, Nat.le_of_ble_eq_true rfl⟩ rfl hl.1 rfl (Nat.le_of_ble_eq_true rfl) dX9_count_74 ⟨Nat.le_of_ble_eq_true rfl, Nat.le_of_ble_eq_true rfl⟩) hP hD hS hA [0, 1] [] rfl rfl (by decide) (by decide) (fun r_43 u_42 H locs hwr_43 hP hD hS => ?_)
    have hP : va_P D classes [(h0, .inr (9, (.int 0 :: .ref (g 0) :: .ref (g 1) :: .ref (g 2) :: .ref (g 3) :: .int b5 :: .int b6 :: .int b7 :: .int b8 :: .int b9 :: .int b10 :: .int b11 :: .int b12 :: .int b13 :: .int b14 :: .ref (g 4) :: .ref (g 5) :: .int b17 :: .int b18 :: .int b19 :: .ref (g 6) :: .ref (g 7) :: .ref (g 8) :: .int b23 :: .int b24 :: .int b25 :: .int b26 :: .int b27 :: .ref (g 9) :: .int b29 :: .ref (g 10) :: .int b31 :: .int b32 :: .int b33 :: .ref (g 11) :: .ref (g 12) :: .ref (g 13) :: []))), ((g 0), .inl (cT 0, 288, .inl (a0)))] _ := hP
    have hD : va_D A [(h0, .inr (9, (.int 0 :: .ref (g 0) :: .ref (g 1) :: .ref (g 2) :: .ref (g 3) :: .int b5 :: .int b6 :: .int b7 :: .int b8 :: .int b9 :: .int b10 :: .int b11 :: .int b12 :: .int b13 :: .int b14 :: .ref (g 4) :: .ref (g 5) :: .int b17 :: .int b18 :: .int b19 :: .ref (g 6) :: .ref (g 7) :: .ref (g 8) :: .int b23 :: .int b24 :: .int b25 :: .int b26 :: .int b27 :: .ref (g 9) :: .int b29 :: .ref (g 10) :: .int b31 :: .int b32 :: .int b33 :: .ref (g 11) :: .ref (g 12) :: .ref (g 13) :: []))), ((g 0), .inl (cT 0, 288, .inl (a0)))] := hD
    exact x_iret hx hb hr hlk hP hD hS [0, 1] ((0)) rfl (by decide) trivial (by decide) (by decide) dX9_count_77
  · have ic_1 : x.toInt = 11 := ieq c_1 rfl (by decide)
    refine lv_is (y := 11) c_1 ?_
    refine lv_tableIn (off := 72) (tgt := 78) hx hb dX9_count_6 (by decide) (by decide) (by decide) (by decide) ?_
    refine lv_aload_n hx hb dX9_count_78 rfl (lv_at hl 0 rfl) ?_
    refine va_get (D := D) (ci := 9) (v := .int b5) (C := RX9) (T := TX9) (N := 37) hx hb htg gRX9 hown hK hP 0 rfl rfl 5 (by decide) (htg _ wi_1155) (fun _ h9 => h9) rfl dX9_count_79 ?_
    exact x_iret hx hb hr hlk hP hD hS [0, 1] ((0)) rfl (by decide) trivial (by decide) (by decide) dX9_count_82
  · have ic_1 : x.toInt = 12 := ieq c_1 rfl (by decide)
    refine lv_is (y := 12) c_1 ?_
    refine lv_tableIn (off := 77) (tgt := 83) hx hb dX9_count_6 (by decide) (by decide) (by decide) (by decide) ?_
    refine lv_aload_n hx hb dX9_count_83 rfl (lv_at hl 0 rfl) ?_
    refine va_get (D := D) (ci := 9) (v := .ref (g 0)) (C := RX9) (T := TX9) (N := 37) hx hb htg gRX9 hown hK hP 0 rfl rfl 1 (by decide) (htg _ wi_1151) (fun _ h9 => h9) rfl dX9_count_84 ?_
    refine lv_bipush (v := 9) hx hb dX9_count_87 (by decide) ?_
    refine va_iald hx hb hK hP 1 0 rfl rfl (by unfold vp_in; decide) dX9_count_89 ?_
    refine lv_topi (fun z_44 ez_44 => ?_)
    exact x_iret hx hb hr hlk hP hD hS [0, 1] ((0)) rfl (by decide) trivial (by decide) (by decide) dX9_count_90
