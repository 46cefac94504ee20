set_option maxHeartbeats 4000000 in
set_option maxRecDepth 100000 in
theorem m_highForX (l : Launch) (D : va_G) (cT : Nat → ClassId) (sz : Nat) (h0 : Nat) (g : Nat → Nat) (b0 : Int32) (b5 : Int32) (b6 : Int32) (b7 : Int32) (b8 : Int32) (b9 : Int32) (b10 : Int32) (b11 : Int32) (b12 : Int32) (b13 : Int32) (b14 : Int32) (b17 : Int32) (b18 : Int32) (b19 : Int32) (b23 : Int32) (b24 : Int32) (b25 : Int32) (b26 : Int32) (b27 : Int32) (b29 : Int32) (b31 : Int32) (b32 : Int32) (b33 : Int32) (hb5 : 0 ≤ b5.toInt ∧ b5.toInt ≤ 900) (a0 : Nat → Int32) (pa0 : PI 288 a0) (x : Int32) (y : Int32) : Met l yX9_highFor (wsc yX9_highFor cX9_highFor 5 (some .int)) { frames := 6, cells := 0, slots := 0, locals := 194 } (va_Pc [.ref h0, .int x, .int y] (PX D cT sz [(sw_9 h0 g b0 b5 b6 b7 b8 b9 b10 b11 b12 b13 b14 b17 b18 b19 b23 b24 b25 b26 b27 b29 b31 b32 b33), (sw_in cT (g 0) 288 a0)])) (va_Qi (fun (r : Int32) (u : Int32) => ((x.toInt = 0 ∨ x.toInt < 0 ∨ (((1 : Int32) <<< (a0 0 &&& 31)) - 1).toInt < x.toInt) → r.toInt = -3) ∧ (¬ x.toInt = 0 → (0 ≤ x.toInt ∧ x.toInt ≤ (((1 : Int32) <<< (a0 0 &&& 31)) - 1).toInt) → r.toInt = selI y (hzR (fun j => a0 (48 + j)) (a0 4) (a0 5) x (a0 0).toInt.toNat (a0 0).toInt 99 1)) ∧ (True)) (fun u t => RW D (va_A [(sw_9 h0 g b0 b5 b6 b7 b8 b9 b10 b11 b12 b13 b14 b17 b18 b19 b23 b24 b25 b26 b27 b29 b31 b32 b33), (sw_in cT (g 0) 288 a0)] sz) ((fun u : Int32 => [(sw_9 h0 g u b5 b6 b7 b8 b9 b10 b11 b12 b13 b14 b17 b18 b19 b23 b24 b25 b26 b27 b29 b31 b32 b33), (sw_in cT (g 0) 288 a0)]) u) t) (va_A [(sw_9 h0 g b0 b5 b6 b7 b8 b9 b10 b11 b12 b13 b14 b17 b18 b19 b23 b24 b25 b26 b27 b29 b31 b32 b33), (sw_in cT (g 0) 288 a0)] sz)) 0 0 (va_A [(sw_9 h0 g b0 b5 b6 b7 b8 b9 b10 b11 b12 b13 b14 b17 b18 b19 b23 b24 b25 b26 b27 b29 b31 b32 b33), (sw_in cT (g 0) 288 a0)] sz) := by
  refine m_of (y := yX9_highFor) (cc := cX9_highFor) (nL := 5) (ret := (some .int)) (D := D) (cT := cT) (av := [.ref h0, .int x, .int y]) (wi := [(sw_9 h0 g b0 b5 b6 b7 b8 b9 b10 b11 b12 b13 b14 b17 b18 b19 b23 b24 b25 b26 b27 b29 b31 b32 b33), (sw_in cT (g 0) 288 a0)]) (fun A => va_Qi (fun (r : Int32) (u : Int32) => ((x.toInt = 0 ∨ x.toInt < 0 ∨ (((1 : Int32) <<< (a0 0 &&& 31)) - 1).toInt < x.toInt) → r.toInt = -3) ∧ (¬ x.toInt = 0 → (0 ≤ x.toInt ∧ x.toInt ≤ (((1 : Int32) <<< (a0 0 &&& 31)) - 1).toInt) → r.toInt = selI y (hzR (fun j => a0 (48 + j)) (a0 4) (a0 5) x (a0 0).toInt.toNat (a0 0).toInt 99 1)) ∧ (True)) (fun u t => RW D A ((fun u : Int32 => [(sw_9 h0 g u b5 b6 b7 b8 b9 b10 b11 b12 b13 b14 b17 b18 b19 b23 b24 b25 b26 b27 b29 b31 b32 b33), (sw_in cT (g 0) 288 a0)]) u) t) A) (by decide) (Nat.le_of_ble_eq_true rfl) ?_
  intro p e s m below meth c A hx hb hml hown htg hK hN hr hlk hnm hsz hP hD hS hA ls hl
  have hown : s.vm.findClass RX9 = some m.cls := hown
  have hl : lv_has ls 5 [(0, .ref h0), (1, .int x), (2, .int y)] := hl
  have tc_m3 : ((-3) : Int32).toInt = (-3) := by decide
  have tc_m1 : ((-1) : Int32).toInt = (-1) := by decide
  have tc_0 : (0 : Int32).toInt = 0 := by decide
  have tc_1 : (1 : Int32).toInt = 1 := by decide
  have tc_100 : (100 : Int32).toInt = 100 := by decide
  refine lv_aload_n hx hb dX9_highFor_0 rfl (lv_at hl 0 rfl) ?_
  refine lv_iconst (v := 0) hx hb dX9_highFor_1 (by decide) ?_
  refine va_put (D := D) (ci := 9) (v := .int 0) (ty := .int) (C := RX9) (T := TX9) (N := 37) hx hb htg gRX9 tyX9 tyX9_ok nmX9 hown hK hP hD hS 0 rfl rfl 0 (by decide) (htg _ wi_1150) (fun _ h9 => h9) rfl (by decide +kernel) rfl rfl (Nat.le_of_ble_eq_true rfl) dX9_highFor_2 (fun H locs hP hD hS => ?_)
  obtain ⟨hP, hD⟩ : PD D A [(sw_9 h0 g 0 b5 b6 b7 b8 b9 b10 b11 b12 b13 b14 b17 b18 b19 b23 b24 b25 b26 b27 b29 b31 b32 b33), (sw_in cT (g 0) 288 a0)] _ := ⟨hP, hD⟩
  refine lv_aload_n hx hb dX9_highFor_5 rfl (lv_at hl 0 rfl) ?_
  refine lv_iload_n hx hb dX9_highFor_6 rfl (lv_at hl 1 rfl) ?_
  refine xk_i (wr := []) (xr_V (n := 1) (As := [.int x]) (rest := []) ⟨hx, hb, hml, hown, htg⟩ hK hN hP hD hS hA [0, 1] rfl (by decide) (m_isSetX l D cT _ (h0) (g) (0) (b5) (b6) (b7) (b8) (b9) (b10) (b11) (b12) (b13) (b14) (b17) (b18) (b19) (b23) (b24) (b25) (b26) (b27) (b29) (b31) (b32) (b33) (by first | assumption | omega | decide | exact Or.inl (by decide) | (intro h9; exact absurd h9 (by decide)) | (intro _; omega) | (intro _; assumption) | (intro _; decide)) (a0) (by first | assumption | omega | decide | exact Or.inl (by decide) | (intro h9; exact absurd h9 (by decide)) | (intro _; omega) | (intro _; assumption) | (intro _; decide)) (x)) wi_1399 wi_1401 wi_98 wi_131 wi_1402 rfl rfl rfl ⟨rfl, by decide +kernel⟩ ⟨Nat.le_of_ble_eq_true rfl, Nat.le_of_ble_eq_true rfl⟩ rfl hl.1 rfl (Nat.le_of_ble_eq_true rfl) dX9_highFor_7 ⟨Nat.le_of_ble_eq_true rfl, Nat.le_of_ble_eq_true rfl⟩) hP hD hS hA [0, 1] [] rfl rfl (by decide) (by decide) (fun r_2 u_1 H locs hwr_2 hP hD hS => ?_)
  obtain ⟨hP, hD⟩ : PD D A [(sw_9 h0 g 0 b5 b6 b7 b8 b9 b10 b11 b12 b13 b14 b17 b18 b19 b23 b24 b25 b26 b27 b29 b31 b32 b33), (sw_in cT (g 0) 288 a0)] _ := ⟨hP, hD⟩
  have qr_2_0 : Imp (¬ r_2.toInt = 0) (0 ≤ x.toInt ∧ x.toInt ≤ (((1 : Int32) <<< (a0 0 &&& 31)) - 1).toInt) := hwr_2.1
  have qr_2_1 : Imp (r_2.toInt = 0) (x.toInt < 0 ∨ (((1 : Int32) <<< (a0 0 &&& 31)) - 1).toInt < x.toInt) := hwr_2.2.1
  have qr_2_2 : r_2 = 0 ∨ r_2 = 1 := hwr_2.2.2.1
  refine lv_if_eq (tgt := 17) hx hb dX9_highFor_10 (by decide) (fun c_3 => ?_) (fun c_3 => ?_)
  · have ic_3 : r_2.toInt = 0 := ieq c_3 (rfl) (by decide)
    have kqr_2_1 : x.toInt < 0 ∨ (((1 : Int32) <<< (a0 0 &&& 31)) - 1).toInt < x.toInt := qr_2_1 ic_3
    refine lv_bipush (v := (-3)) hx hb dX9_highFor_17 (by decide) ?_
    exact x_iret hx hb hr hlk hP hD hS [0, 1] ((0)) rfl (by decide) ⟨(fun _ => by (try dsimp only); decide), (fun h7 h8 => by exfalso; omega), trivial⟩ (by decide) (by decide) dX9_highFor_19
  · have ic_3 : ¬ r_2.toInt = 0 := ine c_3 (rfl) (by decide)
    have kqr_2_0 : 0 ≤ x.toInt ∧ x.toInt ≤ (((1 : Int32) <<< (a0 0 &&& 31)) - 1).toInt := qr_2_0 ic_3
    refine lv_iload_n hx hb dX9_highFor_13 rfl (lv_at hl 1 rfl) ?_
    refine lv_if_ne (tgt := 20) hx hb dX9_highFor_14 (by decide) (fun c_4 => ?_) (fun c_4 => ?_)
    · have ic_4 : ¬ x.toInt = 0 := ine c_4 (rfl) (by decide)
      refine lv_iconst (v := 1) hx hb dX9_highFor_20 (by decide) ?_
      refine lv_istore_n (lv' := [(3, .int 1), (0, .ref h0), (1, .int x), (2, .int y)]) hx hb dX9_highFor_21 rfl hl (by decide) rfl (fun ls hl => ?_)
      have hhz0 : hzR (fun j => a0 (48 + j)) (a0 4) (a0 5) x (a0 0).toInt.toNat (a0 0).toInt (100 - (1 : Int32).toInt).toNat (1 : Int32).toInt = hzR (fun j => a0 (48 + j)) (a0 4) (a0 5) x (a0 0).toInt.toNat (a0 0).toInt 99 1 := rfl
      refine (fun (key : ∀ (n9_22 : Nat) (k9_22 : Int32)  (H : Heap) (locs : List Loc) (ls : Array Slot), (1 ≤ k9_22.toInt ∧ k9_22.toInt ≤ 100) → 100 < k9_22.toInt + n9_22 → (hzR (fun j => a0 (48 + j)) (a0 4) (a0 5) x (a0 0).toInt.toNat (a0 0).toInt (100 - k9_22.toInt).toNat k9_22.toInt = hzR (fun j => a0 (48 + j)) (a0 4) (a0 5) x (a0 0).toInt.toNat (a0 0).toInt 99 1) → PD D A [(sw_9 h0 g 0 b5 b6 b7 b8 b9 b10 b11 b12 b13 b14 b17 b18 b19 b23 b24 b25 b26 b27 b29 b31 b32 b33), (sw_in cT (g 0) 288 a0)] H → va_S A s.heap H locs → lv_has ls 5 [(3, .int k9_22), (0, .ref h0), (1, .int x), (2, .int y)] → W p l e _ s m _ below meth c H locs _ _ _ (F0 m 22 ls [])) => key (Int.toNat (100 - 1) + 1) (1)  _ _ _ (by omega) (by omega) (by first | assumption | omega | decide | (simp only [ti_0, ti_1, ti_2, ti_3, ti_4, ti_5, ti_6, ti_7, ti_8, ti_9, ti_10, ti_11, ti_12, ti_m1]; omega)) ⟨hP, hD⟩ hS (lv_sub hl [0, 1, 2, 3] rfl)) ?_
      intro n9_22
      induction n9_22 with
      | zero => intro k9_22  H locs ls hq1 hq2; exact absurd hq2 (by omega)
      | succ n9_22 ih_22 =>
        intro k9_22  H locs ls hq1_22 hq2_22 h9_22_0 hPD hS hl
        obtain ⟨hP, hD⟩ := hPD
        refine lv_iload_n hx hb dX9_highFor_22 rfl (lv_at hl 0 rfl) ?_
        refine lv_bipush (v := 100) hx hb dX9_highFor_23 (by decide) ?_
        refine lv_icmp_ge (tgt := 79) hx hb dX9_highFor_25 (by decide) (fun c_5 => ?_) (fun c_5 => ?_)
        · have ic_5 : 100 ≤ k9_22.toInt := ile c_5 (by decide) (rfl)
          have hzs : hzR (fun j => a0 (48 + j)) (a0 4) (a0 5) x (a0 0).toInt.toNat (a0 0).toInt 99 1 = (-1, -1) := by rw [← h9_22_0, show (100 - k9_22.toInt).toNat = 0 from by omega]; rfl
          refine lv_iconst (v := (-1)) hx hb dX9_highFor_79 (by decide) ?_
          exact x_iret hx hb hr hlk hP hD hS [0, 1] ((0)) rfl (by decide) ⟨(fun h9 => by exfalso; omega), (fun h7 h8 => by (try dsimp only); rw [hzs]; unfold selI; split <;> first | rfl | (exfalso; omega) | (dsimp only; omega)), trivial⟩ (by decide) (by decide) dX9_highFor_80
        · have ic_5 : k9_22.toInt < 100 := inle c_5 (by decide) (rfl)
          refine lv_iconst (v := 0) hx hb dX9_highFor_28 (by decide) ?_
          refine lv_istore (lv' := [(4, .int 0), (3, .int k9_22), (0, .ref h0), (1, .int x), (2, .int y)]) hx hb dX9_highFor_29 hl (by decide) rfl (fun ls hl => ?_)
          have hco0 : coR (fun j => a0 (48 + j)) k9_22 (a0 4) (a0 5) x (a0 0).toInt.toNat (a0 0).toInt (17 - 0) ((0 : Nat) : Int) = coR (fun j => a0 (48 + j)) k9_22 (a0 4) (a0 5) x (a0 0).toInt.toNat (a0 0).toInt 17 0 := rfl
          have hcn0 : ((0 : Nat) : Int) ≤ (a0 0).toInt := by have h7 := pa0 0 (by decide); unfold OKP at h7; omega
          refine (fun (key : ∀ (n9_31 : Nat) (k9_31 : Nat)  (H : Heap) (locs : List Loc) (ls : Array Slot), (k9_31 : Int) ≤ 16 → 16 < (k9_31 : Int) + n9_31 → (coR (fun j => a0 (48 + j)) k9_22 (a0 4) (a0 5) x (a0 0).toInt.toNat (a0 0).toInt (17 - k9_31) (k9_31 : Int) = coR (fun j => a0 (48 + j)) k9_22 (a0 4) (a0 5) x (a0 0).toInt.toNat (a0 0).toInt 17 0) → ((k9_31 : Int) ≤ (a0 0).toInt) → PD D A [(sw_9 h0 g 0 b5 b6 b7 b8 b9 b10 b11 b12 b13 b14 b17 b18 b19 b23 b24 b25 b26 b27 b29 b31 b32 b33), (sw_in cT (g 0) 288 a0)] H → va_S A s.heap H locs → lv_has ls 5 [(4, .int (nI k9_31)), (3, .int k9_22), (0, .ref h0), (1, .int x), (2, .int y)] → W p l e _ s m _ below meth c H locs _ _ _ (F0 m 31 ls [])) => key (Int.toNat (16 - 0) + 1) 0  _ _ _ (by omega) (by omega) (by first | assumption | omega | decide | (simp only [ti_0, ti_1, ti_2, ti_3, ti_4, ti_5, ti_6, ti_7, ti_8, ti_9, ti_10, ti_11, ti_12, ti_m1]; omega)) (by first | assumption | omega | decide | (simp only [ti_0, ti_1, ti_2, ti_3, ti_4, ti_5, ti_6, ti_7, ti_8, ti_9, ti_10, ti_11, ti_12, ti_m1]; omega)) ⟨hP, hD⟩ hS (lv_sub hl [0, 1, 2, 3, 4] rfl)) ?_
          intro n9_31
          induction n9_31 with
          | zero => intro k9_31  H locs ls hq1 hq2; exact absurd hq2 (by omega)
          | succ n9_31 ih_31 =>
            intro k9_31  H locs ls hq1_31 hq2_31 h9_31_0 h9_31_1 hPD hS hl
            obtain ⟨hP, hD⟩ := hPD
            have hk9_31 : (nI k9_31).toInt = (k9_31 : Int) := nI_toInt (by omega)
            refine lv_iload hx hb dX9_highFor_31 (lv_at hl 0 rfl) ?_
            refine lv_aload_n hx hb dX9_highFor_33 rfl (lv_at hl 2 rfl) ?_
            refine va_get (D := D) (ci := 9) (v := .ref (g 0)) (C := RX9) (T := TX9) (N := 37) hx hb htg gRX9 hown hK hP 0 rfl rfl 1 (by decide) (htg _ wi_1151) (fun _ h9 => h9) rfl dX9_highFor_34 ?_
            refine lv_iconst (v := 0) hx hb dX9_highFor_37 (by decide) ?_
            refine va_iald hx hb hK hP 1 0 rfl rfl (by unfold vp_in; decide) dX9_highFor_38 ?_
            refine lv_topi (fun z_6 ez_6 => ?_)
            have iz_6 : 0 ≤ z_6.toInt ∧ z_6.toInt ≤ 16 := by rw [ez_6]; exact rd0 pa0 (by decide) rfl
            have nz_6 : z_6.toInt = ((a0) 0).toInt := by rw [ez_6]; rfl
            have nz_6 : z_6.toInt = (a0 0).toInt := by rw [ez_6]; rfl
            refine lv_icmp_ge (tgt := 73) hx hb dX9_highFor_39 (by decide) (fun c_7 => ?_) (fun c_7 => ?_)
            · have ic_7 : z_6.toInt ≤ ((k9_31 : Nat) : Int) := ile c_7 (rfl) (nI_toInt (by omega))
              have hcz : coR (fun j => a0 (48 + j)) k9_22 (a0 4) (a0 5) x (a0 0).toInt.toNat (a0 0).toInt 17 0 = -1 := by rw [← h9_31_0]; exact coR_e _ (by omega)
              have hzs := hz_s (T := (fun j => a0 (48 + j))) (p5 := a0 4) (p6 := a0 5) (set := x) (h := k9_22) (m := (a0 0).toInt.toNat) (n := (a0 0).toInt) (f := (100 - (k9_22.toInt + 1)).toNat)
              rw [← show (100 - k9_22.toInt).toNat = (100 - (k9_22.toInt + 1)).toNat + 1 from by omega, h9_22_0, if_pos hcz] at hzs
              have hze := hzs.symm
              obtain ⟨z_8, ez_8⟩ : ∃ w : Int32, w = k9_22 + 1 := ⟨_, rfl⟩
              have iz_8 : z_8.toInt = k9_22.toInt + 1 := toInt_addI ez_8 (rfl) (by decide) (by omega)
              refine lv_iinc (v := z_8) (lv' := [(3, .int z_8), (4, .int (nI k9_31)), (0, .ref h0), (1, .int x), (2, .int y)]) hx hb dX9_highFor_73 hl (k := 1) rfl (by rw [ez_8]; rfl) (by decide) rfl (fun ls hl => ?_)
              refine lv_goto (tgt := 22) hx hb dX9_highFor_76 (by decide) ?_
              have hhz1 : hzR (fun j => a0 (48 + j)) (a0 4) (a0 5) x (a0 0).toInt.toNat (a0 0).toInt (100 - z_8.toInt).toNat z_8.toInt = hzR (fun j => a0 (48 + j)) (a0 4) (a0 5) x (a0 0).toInt.toNat (a0 0).toInt 99 1 := by rw [show z_8.toInt = k9_22.toInt + 1 from by omega]; exact hze
              exact ih_22 (z_8)  _ _ _ (by omega) (by omega) (by first | assumption | omega | decide | (simp only [ti_0, ti_1, ti_2, ti_3, ti_4, ti_5, ti_6, ti_7, ti_8, ti_9, ti_10, ti_11, ti_12, ti_m1]; omega)) ⟨hP.sub [0, 1] rfl, hD.sub [0, 1] (by decide) rfl⟩ hS (lv_sub hl [0, 2, 3, 4] rfl)
            · have ic_7 : ((k9_31 : Nat) : Int) < z_6.toInt := inle c_7 (rfl) (nI_toInt (by omega))
              refine lv_iload_n hx hb dX9_highFor_42 rfl (lv_at hl 3 rfl) ?_
              refine lv_aload_n hx hb dX9_highFor_43 rfl (lv_at hl 2 rfl) ?_
              refine lv_iload hx hb dX9_highFor_44 (lv_at hl 0 rfl) ?_
              refine lv_iload_n hx hb dX9_highFor_46 rfl (lv_at hl 1 rfl) ?_
              refine xk_i (wr := []) (xr_V (n := 2) (As := [.int (nI k9_31), .int k9_22]) (rest := [.int x]) ⟨hx, hb, hml, hown, htg⟩ hK hN hP hD hS hA [0, 1] rfl (by decide) (m_litByX l D cT _ (h0) (g) (0) (b5) (b6) (b7) (b8) (b9) (b10) (b11) (b12) (b13) (b14) (b17) (b18) (b19) (b23) (b24) (b25) (b26) (b27) (b29) (b31) (b32) (b33) (by first | assumption | omega | decide | exact Or.inl (by decide) | (intro h9; exact absurd h9 (by decide)) | (intro _; omega) | (intro _; assumption) | (intro _; decide)) (a0) (by first | assumption | omega | decide | exact Or.inl (by decide) | (intro h9; exact absurd h9 (by decide)) | (intro _; omega) | (intro _; assumption) | (intro _; decide)) ((nI k9_31)) (k9_22) (by first | assumption | omega | decide | exact Or.inl (by decide) | (intro h9; exact absurd h9 (by decide)) | (intro _; omega) | (intro _; assumption) | (intro _; decide))) wi_1383 wi_1385 wi_97 wi_131 wi_1386 rfl rfl rfl ⟨rfl, by decide +kernel⟩ ⟨Nat.le_of_ble_eq_true rfl, Nat.le_of_ble_eq_true rfl⟩ rfl hl.1 rfl (Nat.le_of_ble_eq_true rfl) dX9_highFor_47 ⟨Nat.le_of_ble_eq_true rfl, Nat.le_of_ble_eq_true rfl⟩) hP hD hS hA [0, 1] [] rfl rfl (by decide) (by decide) (fun r_10 u_9 H locs hwr_10 hP hD hS => ?_)
              obtain ⟨hP, hD⟩ : PD D A [(sw_9 h0 g 0 b5 b6 b7 b8 b9 b10 b11 b12 b13 b14 b17 b18 b19 b23 b24 b25 b26 b27 b29 b31 b32 b33), (sw_in cT (g 0) 288 a0)] _ := ⟨hP, hD⟩
              have qr_10_0 : r_10 = litR (fun j => a0 (48 + j)) k9_22 (a0 4) (a0 5) (nI k9_31).toInt (a0 0).toInt.toNat := hwr_10.1
              refine lv_iconst (v := (-1)) hx hb dX9_highFor_50 (by decide) ?_
              refine lv_ixor hx hb dX9_highFor_51 ?_
              refine lv_topi (fun z_11 ez_11 => ?_)
              refine lv_iand hx hb dX9_highFor_52 ?_
              refine lv_topi (fun z_12 ez_12 => ?_)
              have hz3 : x &&& (litR (fun j => a0 (48 + j)) k9_22 (a0 4) (a0 5) (k9_31 : Int) (a0 0).toInt.toNat ^^^ (-1)) = z_12 := by rw [ez_12, ez_11, qr_10_0, hk9_31]
              have hcs := coR_s (T := (fun j => a0 (48 + j))) (h := k9_22) (p5 := a0 4) (p6 := a0 5) (set := x) (m := (a0 0).toInt.toNat) (n := (a0 0).toInt) (s := (k9_31 : Int)) (f := 16 - k9_31) (by omega)
              rw [← show 17 - k9_31 = 16 - k9_31 + 1 from by omega, h9_31_0, hz3] at hcs
              refine lv_if_ne (tgt := 67) hx hb dX9_highFor_53 (by decide) (fun c_13 => ?_) (fun c_13 => ?_)
              · have ic_13 : ¬ z_12.toInt = 0 := ine c_13 (rfl) (by decide)
                rw [if_neg (fun h8 => absurd (congrArg Int32.toInt h8) (by rw [ti_0]; omega))] at hcs
                have hce := hcs.symm
                refine lv_iinc (v := (nI (k9_31 + 1))) (lv' := [(4, .int (nI (k9_31 + 1))), (3, .int k9_22), (0, .ref h0), (1, .int x), (2, .int y)]) hx hb dX9_highFor_67 hl (k := 0) rfl (by exact nI_1 (k9_31)) (by decide) rfl (fun ls hl => ?_)
                refine lv_goto (tgt := 31) hx hb dX9_highFor_70 (by decide) ?_
                have hco1 : coR (fun j => a0 (48 + j)) k9_22 (a0 4) (a0 5) x (a0 0).toInt.toNat (a0 0).toInt (17 - (k9_31 + 1)) ((k9_31 + 1 : Nat) : Int) = coR (fun j => a0 (48 + j)) k9_22 (a0 4) (a0 5) x (a0 0).toInt.toNat (a0 0).toInt 17 0 := by rw [show 17 - (k9_31 + 1) = 16 - k9_31 from by omega, show ((k9_31 + 1 : Nat) : Int) = (k9_31 : Int) + 1 from by omega]; exact hce
                exact ih_31 (k9_31 + 1)  _ _ _ (by omega) (by omega) (by first | assumption | omega | decide | (simp only [ti_0, ti_1, ti_2, ti_3, ti_4, ti_5, ti_6, ti_7, ti_8, ti_9, ti_10, ti_11, ti_12, ti_m1]; omega)) (by first | assumption | omega | decide | (simp only [ti_0, ti_1, ti_2, ti_3, ti_4, ti_5, ti_6, ti_7, ti_8, ti_9, ti_10, ti_11, ti_12, ti_m1]; omega)) ⟨hP.sub [0, 1] rfl, hD.sub [0, 1] (by decide) rfl⟩ hS (lv_sub hl [0, 1, 2, 3, 4] rfl)
              · have ic_13 : z_12.toInt = 0 := ieq c_13 (rfl) (by decide)
                rw [if_pos (i32_is (by rw [ti_0]; omega))] at hcs
                have hzs := hz_s (T := (fun j => a0 (48 + j))) (p5 := a0 4) (p6 := a0 5) (set := x) (h := k9_22) (m := (a0 0).toInt.toNat) (n := (a0 0).toInt) (f := (100 - (k9_22.toInt + 1)).toNat)
                rw [← show (100 - k9_22.toInt).toNat = (100 - (k9_22.toInt + 1)).toNat + 1 from by omega, h9_22_0, hcs, if_neg (by omega)] at hzs
                refine lv_iload_n hx hb dX9_highFor_56 rfl (lv_at hl 4 rfl) ?_
                refine lv_if_eq (tgt := 65) hx hb dX9_highFor_57 (by decide) (fun c_14 => ?_) (fun c_14 => ?_)
                · have ic_14 : y.toInt = 0 := ieq c_14 (rfl) (by decide)
                  refine lv_iload_n hx hb dX9_highFor_65 rfl (lv_at hl 1 rfl) ?_
                  exact x_iret hx hb hr hlk hP hD hS [0, 1] ((0)) rfl (by decide) ⟨(fun h9 => by exfalso; omega), (fun h7 h8 => by (try dsimp only); rw [hzs]; unfold selI; split <;> first | rfl | (exfalso; omega) | (dsimp only; omega)), trivial⟩ (by decide) (by decide) dX9_highFor_66
                · have ic_14 : ¬ y.toInt = 0 := ine c_14 (rfl) (by decide)
                  refine lv_iload hx hb dX9_highFor_60 (lv_at hl 0 rfl) ?_
                  refine lv_goto (tgt := 66) hx hb dX9_highFor_62 (by decide) ?_
                  exact x_iret hx hb hr hlk hP hD hS [0, 1] ((0)) rfl (by decide) ⟨(fun h9 => by exfalso; omega), (fun h7 h8 => by (try dsimp only); rw [hzs]; unfold selI; split <;> first | rfl | (exfalso; omega) | (dsimp only; omega)), trivial⟩ (by decide) (by decide) dX9_highFor_66
    · have ic_4 : x.toInt = 0 := ieq c_4 (rfl) (by decide)
      refine lv_bipush (v := (-3)) hx hb dX9_highFor_17 (by decide) ?_
      exact x_iret hx hb hr hlk hP hD hS [0, 1] ((0)) rfl (by decide) ⟨(fun _ => by (try dsimp only); decide), (fun h7 h8 => by exfalso; omega), trivial⟩ (by decide) (by decide) dX9_highFor_19
