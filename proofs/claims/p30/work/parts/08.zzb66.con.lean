set_option maxHeartbeats 4000000 in
set_option maxRecDepth 100000 in
theorem m_haltsForX (l : Launch) (D : va_G) (cT : Nat → ClassId) (sz : Nat) (h0 : Nat) (g : Nat → Nat) (b0 : Int32) (b5 : Int32) (b6 : Int32) (b7 : Int32) (b8 : Int32) (b9 : Int32) (b10 : Int32) (b11 : Int32) (b12 : Int32) (b13 : Int32) (b14 : Int32) (b17 : Int32) (b18 : Int32) (b19 : Int32) (b23 : Int32) (b24 : Int32) (b25 : Int32) (b26 : Int32) (b27 : Int32) (b29 : Int32) (b31 : Int32) (b32 : Int32) (b33 : Int32) (hb5 : 0 ≤ b5.toInt ∧ b5.toInt ≤ 900) (a0 : Nat → Int32) (pa0 : PI 288 a0) (a10 : Nat → Int32) (x : Int32) : Met l yX9_haltsFor (wsc yX9_haltsFor cX9_haltsFor 6 (some .int)) { frames := 6, cells := 0, slots := 0, locals := 194 } (va_Pc [.ref h0, .int x] (PX D cT sz [(sw_9 h0 g b0 b5 b6 b7 b8 b9 b10 b11 b12 b13 b14 b17 b18 b19 b23 b24 b25 b26 b27 b29 b31 b32 b33), (sw_in cT (g 0) 288 a0), (sw_in cT (g 10) 16 a10)])) (va_Qi (fun (r : Int32) (u : (Nat → Int32)) => (BS (fun o => litR (fun j => a0 (48 + j)) (a0 3) (a0 4) (a0 5) (o : Int) (a0 0).toInt.toNat) (a0 0).toInt.toNat x (2 ^ (a0 0).toInt.toNat) r.toInt) ∧ (True)) (fun u t => RW D (va_A [(sw_9 h0 g b0 b5 b6 b7 b8 b9 b10 b11 b12 b13 b14 b17 b18 b19 b23 b24 b25 b26 b27 b29 b31 b32 b33), (sw_in cT (g 0) 288 a0), (sw_in cT (g 10) 16 a10)] sz) ((fun u : (Nat → Int32) => [(sw_9 h0 g b0 b5 b6 b7 b8 b9 b10 b11 b12 b13 b14 b17 b18 b19 b23 b24 b25 b26 b27 b29 b31 b32 b33), (sw_in cT (g 0) 288 a0), (sw_in cT (g 10) 16 u)]) u) t) (va_A [(sw_9 h0 g b0 b5 b6 b7 b8 b9 b10 b11 b12 b13 b14 b17 b18 b19 b23 b24 b25 b26 b27 b29 b31 b32 b33), (sw_in cT (g 0) 288 a0), (sw_in cT (g 10) 16 a10)] sz)) 0 0 (va_A [(sw_9 h0 g b0 b5 b6 b7 b8 b9 b10 b11 b12 b13 b14 b17 b18 b19 b23 b24 b25 b26 b27 b29 b31 b32 b33), (sw_in cT (g 0) 288 a0), (sw_in cT (g 10) 16 a10)] sz) := by
  refine m_of (y := yX9_haltsFor) (cc := cX9_haltsFor) (nL := 6) (ret := (some .int)) (D := D) (cT := cT) (av := [.ref h0, .int x]) (wi := [(sw_9 h0 g b0 b5 b6 b7 b8 b9 b10 b11 b12 b13 b14 b17 b18 b19 b23 b24 b25 b26 b27 b29 b31 b32 b33), (sw_in cT (g 0) 288 a0), (sw_in cT (g 10) 16 a10)]) (fun A => va_Qi (fun (r : Int32) (u : (Nat → Int32)) => (BS (fun o => litR (fun j => a0 (48 + j)) (a0 3) (a0 4) (a0 5) (o : Int) (a0 0).toInt.toNat) (a0 0).toInt.toNat x (2 ^ (a0 0).toInt.toNat) r.toInt) ∧ (True)) (fun u t => RW D A ((fun u : (Nat → Int32) => [(sw_9 h0 g b0 b5 b6 b7 b8 b9 b10 b11 b12 b13 b14 b17 b18 b19 b23 b24 b25 b26 b27 b29 b31 b32 b33), (sw_in cT (g 0) 288 a0), (sw_in cT (g 10) 16 u)]) u) t) A) (by decide) (Nat.le_of_ble_eq_true rfl) ?_
  intro p e s m below meth c A hx hb hml hown htg hK hN hr hlk hnm hsz hP hD hS hA ls hl
  have hown : s.vm.findClass RX9 = some m.cls := hown
  have hl : lv_has ls 6 [(0, .ref h0), (1, .int x)] := hl
  have tc_m1 : ((-1) : Int32).toInt = (-1) := by decide
  have tc_0 : (0 : Int32).toInt = 0 := by decide
  have tc_1 : (1 : Int32).toInt = 1 := by decide
  have tc_3 : (3 : Int32).toInt = 3 := by decide
  refine lv_iconst (v := 0) hx hb dX9_haltsFor_0 (by decide) ?_
  refine lv_istore_n (lv' := [(2, .int 0), (0, .ref h0), (1, .int x)]) hx hb dX9_haltsFor_1 rfl hl (by decide) rfl (fun ls hl => ?_)
  have hF0 : ∀ o : Nat, o < 0 → (a10) o = litR (fun j => a0 (48 + j)) (a0 3) (a0 4) (a0 5) (o : Int) (a0 0).toInt.toNat := fun o h => absurd h (by omega)
  have hn0 : ((0 : Nat) : Int) ≤ (a0 0).toInt := by have h7 := pa0 0 (by decide); unfold OKP at h7; omega
  refine (fun (key : ∀ (n9_2 : Nat) (k9_2 : Nat) (f9_2_0 : Nat → Int32) (H : Heap) (locs : List Loc) (ls : Array Slot), (k9_2 : Int) ≤ 16 → 16 < (k9_2 : Int) + n9_2 → (∀ o : Nat, o < k9_2 → f9_2_0 o = litR (fun j => a0 (48 + j)) (a0 3) (a0 4) (a0 5) (o : Int) (a0 0).toInt.toNat) → ((k9_2 : Int) ≤ (a0 0).toInt) → PD D A [(sw_9 h0 g b0 b5 b6 b7 b8 b9 b10 b11 b12 b13 b14 b17 b18 b19 b23 b24 b25 b26 b27 b29 b31 b32 b33), (sw_in cT (g 0) 288 a0), (sw_in cT (g 10) 16 f9_2_0)] H → va_S A s.heap H locs → lv_has ls 6 [(2, .int (nI k9_2)), (0, .ref h0), (1, .int x)] → W p l e _ s m _ below meth c H locs _ _ _ (F0 m 2 ls [])) => key (Int.toNat (16 - 0) + 1) 0 _ _ _ _ (by omega) (by omega) (by first | assumption | omega | decide | (simp only [ti_0, ti_1, ti_2, ti_3, ti_4, ti_5, ti_6, ti_7, ti_8, ti_9, ti_10, ti_11, ti_12, ti_m1]; omega)) (by first | assumption | omega | decide | (simp only [ti_0, ti_1, ti_2, ti_3, ti_4, ti_5, ti_6, ti_7, ti_8, ti_9, ti_10, ti_11, ti_12, ti_m1]; omega)) ⟨hP, hD⟩ hS (lv_sub hl [0, 1, 2] rfl)) ?_
  intro n9_2
  induction n9_2 with
  | zero => intro k9_2 f9_2_0 H locs ls hq1 hq2; exact absurd hq2 (by omega)
  | succ n9_2 ih_2 =>
    intro k9_2 f9_2_0 H locs ls hq1_2 hq2_2 h9_2_0 h9_2_1 hPD hS hl
    obtain ⟨hP, hD⟩ := hPD
    have hk9_2 : (nI k9_2).toInt = (k9_2 : Int) := nI_toInt (by omega)
    refine lv_iload_n hx hb dX9_haltsFor_2 rfl (lv_at hl 0 rfl) ?_
    refine lv_aload_n hx hb dX9_haltsFor_3 rfl (lv_at hl 1 rfl) ?_
    refine va_get (D := D) (ci := 9) (v := .ref (g 0)) (C := RX9) (T := TX9) (N := 37) hx hb htg gRX9 hown hK hP 0 rfl rfl 1 (by decide) (htg _ wi_1151) (fun _ h9 => h9) rfl dX9_haltsFor_4 ?_
    refine lv_iconst (v := 0) hx hb dX9_haltsFor_7 (by decide) ?_
    refine va_iald hx hb hK hP 1 0 rfl rfl (by unfold vp_in; decide) dX9_haltsFor_8 ?_
    refine lv_topi (fun z_1 ez_1 => ?_)
    have iz_1 : 0 ≤ z_1.toInt ∧ z_1.toInt ≤ 16 := by rw [ez_1]; exact rd0 pa0 (by decide) rfl
    have nz_1 : z_1.toInt = ((a0) 0).toInt := by rw [ez_1]; rfl
    have nz_1 : z_1.toInt = (a0 0).toInt := by rw [ez_1]; rfl
    refine lv_icmp_ge (tgt := 35) hx hb dX9_haltsFor_9 (by decide) (fun c_2 => ?_) (fun c_2 => ?_)
    · have ic_2 : z_1.toInt ≤ ((k9_2 : Nat) : Int) := ile c_2 (rfl) (nI_toInt (by omega))
      have hlit : ∀ o : Nat, o < (a0 0).toInt.toNat → f9_2_0 o = litR (fun j => a0 (48 + j)) (a0 3) (a0 4) (a0 5) (o : Int) (a0 0).toInt.toNat := fun o ho => h9_2_0 o (by omega)
      have hN16 : 0 ≤ (a0 0).toInt ∧ (a0 0).toInt ≤ 16 := by have h7 := pa0 0 (by decide); unfold OKP at h7; omega
      have hP16 : (2 : Nat) ^ (a0 0).toInt.toNat ≤ 2 ^ 16 := Nat.pow_le_pow_right (by decide) (by omega)
      obtain ⟨pw, hpw⟩ : ∃ pw : Nat, pw = 2 ^ (a0 0).toInt.toNat := ⟨_, rfl⟩
      have hP65 : pw ≤ 65536 := by rw [hpw]; exact hP16
      refine lv_iconst (v := (-1)) hx hb dX9_haltsFor_35 (by decide) ?_
      refine lv_istore_n (lv' := [(2, .int (-1)), (0, .ref h0), (1, .int x)]) hx hb dX9_haltsFor_36 rfl hl (by decide) rfl (fun ls hl => ?_)
      refine lv_iconst (v := 0) hx hb dX9_haltsFor_37 (by decide) ?_
      refine lv_istore_n (lv' := [(3, .int 0), (2, .int (-1)), (0, .ref h0), (1, .int x)]) hx hb dX9_haltsFor_38 rfl hl (by decide) rfl (fun ls hl => ?_)
      have hB0 : BS (f9_2_0) (a0 0).toInt.toNat x 0 ((-1) : Int32).toInt := by rw [show ((-1) : Int32).toInt = -1 from by decide]; exact BS_0 _ _ _
      refine (fun (key : ∀ (n9_39 : Nat) (k9_39 : Nat) (x9_39_2 : Int32) (H : Heap) (locs : List Loc) (ls : Array Slot), (k9_39 : Int) ≤ (pw : Int) → (pw : Int) < (k9_39 : Int) + n9_39 → BS (f9_2_0) (a0 0).toInt.toNat x k9_39 x9_39_2.toInt → PD D A [(sw_9 h0 g b0 b5 b6 b7 b8 b9 b10 b11 b12 b13 b14 b17 b18 b19 b23 b24 b25 b26 b27 b29 b31 b32 b33), (sw_in cT (g 0) 288 a0), (sw_in cT (g 10) 16 f9_2_0)] H → va_S A s.heap H locs → lv_has ls 6 [(3, .int (nI k9_39)), (2, .int x9_39_2), (0, .ref h0), (1, .int x)] → W p l e _ s m _ below meth c H locs _ _ _ (F0 m 39 ls [])) => key (Int.toNat ((pw : Int) - 0) + 1) 0 _ _ _ _ (by omega) (by omega) (by first | assumption | omega | decide | (simp only [ti_0, ti_1, ti_2, ti_3, ti_4, ti_5, ti_6, ti_7, ti_8, ti_9, ti_10, ti_11, ti_12, ti_m1]; omega)) ⟨hP, hD⟩ hS (lv_sub hl [0, 1, 2, 3] rfl)) ?_
      intro n9_39
      induction n9_39 with
      | zero => intro k9_39 x9_39_2 H locs ls hq1 hq2; exact absurd hq2 (by omega)
      | succ n9_39 ih_39 =>
        intro k9_39 x9_39_2 H locs ls hq1_39 hq2_39 h9_39_0 hPD hS hl
        obtain ⟨hP, hD⟩ := hPD
        have hk9_39 : (nI k9_39).toInt = (k9_39 : Int) := nI_toInt (by omega)
        refine lv_iload_n hx hb dX9_haltsFor_39 rfl (lv_at hl 0 rfl) ?_
        refine lv_iconst (v := 1) hx hb dX9_haltsFor_40 (by decide) ?_
        refine lv_aload_n hx hb dX9_haltsFor_41 rfl (lv_at hl 2 rfl) ?_
        refine va_get (D := D) (ci := 9) (v := .ref (g 0)) (C := RX9) (T := TX9) (N := 37) hx hb htg gRX9 hown hK hP 0 rfl rfl 1 (by decide) (htg _ wi_1151) (fun _ h9 => h9) rfl dX9_haltsFor_42 ?_
        refine lv_iconst (v := 0) hx hb dX9_haltsFor_45 (by decide) ?_
        refine va_iald hx hb hK hP 1 0 rfl rfl (by unfold vp_in; decide) dX9_haltsFor_46 ?_
        refine lv_topi (fun z_3 ez_3 => ?_)
        have iz_3 : 0 ≤ z_3.toInt ∧ z_3.toInt ≤ 16 := by rw [ez_3]; exact rd0 pa0 (by decide) rfl
        have nz_3 : z_3.toInt = ((a0) 0).toInt := by rw [ez_3]; rfl
        have nz_3 : z_3 = a0 0 := ez_3
        refine lv_ishl hx hb dX9_haltsFor_47 ?_
        refine lv_topi (fun z_4 ez_4 => ?_)
        have hzb : z_4.toInt = (pw : Int) := by rw [hpw]; exact sh_pw (k := a0 0) hN16 (by rw [ez_4, nz_3])
        refine lv_icmp_ge (tgt := 136) hx hb dX9_haltsFor_48 (by decide) (fun c_5 => ?_) (fun c_5 => ?_)
        · have ic_5 : z_4.toInt ≤ ((k9_39 : Nat) : Int) := ile c_5 (rfl) (nI_toInt (by omega))
          refine lv_iload_n hx hb dX9_haltsFor_136 rfl (lv_at hl 1 rfl) ?_
          exact x_iret hx hb hr hlk hP hD hS [0, 1, 2] ((f9_2_0)) rfl (by decide) ⟨(by (try dsimp only); have h7 := h9_39_0; rw [show k9_39 = pw from by omega, hpw] at h7; exact BS_ex (fun o ho => hlit o ho) h7), trivial⟩ (by decide) (by decide) dX9_haltsFor_137
        · have ic_5 : ((k9_39 : Nat) : Int) < z_4.toInt := inle c_5 (rfl) (nI_toInt (by omega))
          have hnn := BS_nn h9_39_0
          refine lv_iload_n hx hb dX9_haltsFor_51 rfl (lv_at hl 1 rfl) ?_
          refine lv_iconst (v := (-1)) hx hb dX9_haltsFor_52 (by decide) ?_
          refine lv_icmp_eq (tgt := 70) hx hb dX9_haltsFor_53 (by decide) (fun c_6 => ?_) (fun c_6 => ?_)
          · have ic_6 : x9_39_2.toInt = (-1) := ieq c_6 (rfl) (by decide)
            refine lv_iconst (v := 0) hx hb dX9_haltsFor_70 (by decide) ?_
            refine lv_istore (lv' := [(4, .int 0), (3, .int (nI k9_39)), (2, .int x9_39_2), (0, .ref h0), (1, .int x)]) hx hb dX9_haltsFor_71 hl (by decide) rfl (fun ls hl => ?_)
            refine lv_iconst (v := 0) hx hb dX9_haltsFor_73 (by decide) ?_
            refine lv_istore (lv' := [(5, .int 0), (4, .int 0), (3, .int (nI k9_39)), (2, .int x9_39_2), (0, .ref h0), (1, .int x)]) hx hb dX9_haltsFor_74 hl (by decide) rfl (fun ls hl => ?_)
            have ho0 : orL (f9_2_0) k9_39 0 (0 : Int32) := orL_0 _ _
            have hn76 : ((0 : Nat) : Int) ≤ (a0 0).toInt := hN16.1
            refine (fun (key : ∀ (n9_76 : Nat) (k9_76 : Nat) (x9_76_4 : Int32) (H : Heap) (locs : List Loc) (ls : Array Slot), (k9_76 : Int) ≤ 16 → 16 < (k9_76 : Int) + n9_76 → orL (f9_2_0) k9_39 k9_76 x9_76_4 → ((k9_76 : Int) ≤ (a0 0).toInt) → PD D A [(sw_9 h0 g b0 b5 b6 b7 b8 b9 b10 b11 b12 b13 b14 b17 b18 b19 b23 b24 b25 b26 b27 b29 b31 b32 b33), (sw_in cT (g 0) 288 a0), (sw_in cT (g 10) 16 f9_2_0)] H → va_S A s.heap H locs → lv_has ls 6 [(5, .int (nI k9_76)), (4, .int x9_76_4), (3, .int (nI k9_39)), (2, .int x9_39_2), (0, .ref h0), (1, .int x)] → W p l e _ s m _ below meth c H locs _ _ _ (F0 m 76 ls [])) => key (Int.toNat (16 - 0) + 1) 0 _ _ _ _ (by omega) (by omega) (by first | assumption | omega | decide | (simp only [ti_0, ti_1, ti_2, ti_3, ti_4, ti_5, ti_6, ti_7, ti_8, ti_9, ti_10, ti_11, ti_12, ti_m1]; omega)) (by first | assumption | omega | decide | (simp only [ti_0, ti_1, ti_2, ti_3, ti_4, ti_5, ti_6, ti_7, ti_8, ti_9, ti_10, ti_11, ti_12, ti_m1]; omega)) ⟨hP, hD⟩ hS (lv_sub hl [0, 1, 2, 3, 4, 5] rfl)) ?_
            intro n9_76
            induction n9_76 with
            | zero => intro k9_76 x9_76_4 H locs ls hq1 hq2; exact absurd hq2 (by omega)
            | succ n9_76 ih_76 =>
              intro k9_76 x9_76_4 H locs ls hq1_76 hq2_76 h9_76_0 h9_76_1 hPD hS hl
              obtain ⟨hP, hD⟩ := hPD
              have hk9_76 : (nI k9_76).toInt = (k9_76 : Int) := nI_toInt (by omega)
              refine lv_iload hx hb dX9_haltsFor_76 (lv_at hl 0 rfl) ?_
              refine lv_aload_n hx hb dX9_haltsFor_78 rfl (lv_at hl 4 rfl) ?_
              refine va_get (D := D) (ci := 9) (v := .ref (g 0)) (C := RX9) (T := TX9) (N := 37) hx hb htg gRX9 hown hK hP 0 rfl rfl 1 (by decide) (htg _ wi_1151) (fun _ h9 => h9) rfl dX9_haltsFor_79 ?_
              refine lv_iconst (v := 0) hx hb dX9_haltsFor_82 (by decide) ?_
              refine va_iald hx hb hK hP 1 0 rfl rfl (by unfold vp_in; decide) dX9_haltsFor_83 ?_
              refine lv_topi (fun z_7 ez_7 => ?_)
              have iz_7 : 0 ≤ z_7.toInt ∧ z_7.toInt ≤ 16 := by rw [ez_7]; exact rd0 pa0 (by decide) rfl
              have nz_7 : z_7.toInt = ((a0) 0).toInt := by rw [ez_7]; rfl
              have nz_7 : z_7.toInt = (a0 0).toInt := by rw [ez_7]; rfl
              refine lv_icmp_ge (tgt := 119) hx hb dX9_haltsFor_84 (by decide) (fun c_8 => ?_) (fun c_8 => ?_)
              · have ic_8 : z_7.toInt ≤ ((k9_76 : Nat) : Int) := ile c_8 (rfl) (nI_toInt (by omega))
                refine lv_iload_n hx hb dX9_haltsFor_119 rfl (lv_at hl 5 rfl) ?_
                refine lv_iload hx hb dX9_haltsFor_120 (lv_at hl 1 rfl) ?_
                refine lv_iconst (v := (-1)) hx hb dX9_haltsFor_122 (by decide) ?_
                refine lv_ixor hx hb dX9_haltsFor_123 ?_
                refine lv_topi (fun z_9 ez_9 => ?_)
                refine lv_iand hx hb dX9_haltsFor_124 ?_
                refine lv_topi (fun z_10 ez_10 => ?_)
                have hol := h9_76_0
                rw [show k9_76 = (a0 0).toInt.toNat from by omega] at hol
                have hcv := orL_c (set := x) hol
                rw [← ez_9, ← ez_10] at hcv
                refine lv_if_ne (tgt := 130) hx hb dX9_haltsFor_125 (by decide) (fun c_11 => ?_) (fun c_11 => ?_)
                · have ic_11 : ¬ z_10.toInt = 0 := ine c_11 (rfl) (by decide)
                  refine lv_iinc (v := (nI (k9_39 + 1))) (lv' := [(3, .int (nI (k9_39 + 1))), (5, .int (nI k9_76)), (4, .int x9_76_4), (2, .int x9_39_2), (0, .ref h0), (1, .int x)]) hx hb dX9_haltsFor_130 hl (k := 2) rfl (by exact nI_1 (k9_39)) (by decide) rfl (fun ls hl => ?_)
                  refine lv_goto (tgt := 39) hx hb dX9_haltsFor_133 (by decide) ?_
                  have hB1 : BS (f9_2_0) (a0 0).toInt.toNat x (k9_39 + 1) (x9_39_2 : Int32).toInt := BS_no h9_39_0 (fun q => absurd (congrArg Int32.toInt (hcv.mpr q)) (by rw [ti_0]; omega))
                  exact ih_39 (k9_39 + 1) _ _ _ _ (by omega) (by omega) (by first | assumption | omega | decide | (simp only [ti_0, ti_1, ti_2, ti_3, ti_4, ti_5, ti_6, ti_7, ti_8, ti_9, ti_10, ti_11, ti_12, ti_m1]; omega)) ⟨hP.sub [0, 1, 2] rfl, hD.sub [0, 1, 2] (by decide) rfl⟩ hS (lv_sub hl [0, 3, 4, 5] rfl)
                · have ic_11 : z_10.toInt = 0 := ieq c_11 (rfl) (by decide)
                  have hnw := BS_new h9_39_0 (hcv.mp (i32_is (by rw [ti_0]; omega))) (Or.inl (by omega))
                  refine lv_iload_n hx hb dX9_haltsFor_128 rfl (lv_at hl 2 rfl) ?_
                  refine lv_istore_n (lv' := [(2, .int (nI k9_39)), (5, .int (nI k9_76)), (4, .int x9_76_4), (3, .int (nI k9_39)), (0, .ref h0), (1, .int x)]) hx hb dX9_haltsFor_129 rfl hl (by decide) rfl (fun ls hl => ?_)
                  refine lv_iinc (v := (nI (k9_39 + 1))) (lv' := [(3, .int (nI (k9_39 + 1))), (2, .int (nI k9_39)), (5, .int (nI k9_76)), (4, .int x9_76_4), (0, .ref h0), (1, .int x)]) hx hb dX9_haltsFor_130 hl (k := 3) rfl (by exact nI_1 (k9_39)) (by decide) rfl (fun ls hl => ?_)
                  refine lv_goto (tgt := 39) hx hb dX9_haltsFor_133 (by decide) ?_
                  have hB1 : BS (f9_2_0) (a0 0).toInt.toNat x (k9_39 + 1) ((nI k9_39) : Int32).toInt := (by rw [hk9_39]; exact hnw)
                  exact ih_39 (k9_39 + 1) _ _ _ _ (by omega) (by omega) (by first | assumption | omega | decide | (simp only [ti_0, ti_1, ti_2, ti_3, ti_4, ti_5, ti_6, ti_7, ti_8, ti_9, ti_10, ti_11, ti_12, ti_m1]; omega)) ⟨hP.sub [0, 1, 2] rfl, hD.sub [0, 1, 2] (by decide) rfl⟩ hS (lv_sub hl [0, 1, 4, 5] rfl)
              · have ic_8 : ((k9_76 : Nat) : Int) < z_7.toInt := inle c_8 (rfl) (nI_toInt (by omega))
                refine lv_iload hx hb dX9_haltsFor_87 (lv_at hl 1 rfl) ?_
                refine lv_iload_n hx hb dX9_haltsFor_89 rfl (lv_at hl 2 rfl) ?_
                refine lv_iload hx hb dX9_haltsFor_90 (lv_at hl 0 rfl) ?_
                refine lv_ishr hx hb dX9_haltsFor_92 ?_
                refine lv_topi (fun z_12 ez_12 => ?_)
                refine lv_iconst (v := 1) hx hb dX9_haltsFor_93 (by decide) ?_
                refine lv_iand hx hb dX9_haltsFor_94 ?_
                refine lv_topi (fun z_13 ez_13 => ?_)
                have iz_13 : 0 ≤ z_13.toInt ∧ z_13.toInt ≤ 1 := andI ez_13 (by decide) (by decide)
                have hbg := bt_get (x := nI k9_39) (k := k9_76) (by omega) ez_12 ez_13
                have htb : bt (nI k9_39) k9_76 = k9_39.testBit k9_76 := bt_nI (by omega) k9_76
                refine lv_iconst (v := 1) hx hb dX9_haltsFor_95 (by decide) ?_
                refine lv_icmp_ne (tgt := 109) hx hb dX9_haltsFor_96 (by decide) (fun c_14 => ?_) (fun c_14 => ?_)
                · have ic_14 : ¬ z_13.toInt = 1 := ine c_14 (rfl) (by decide)
                  refine lv_iconst (v := 0) hx hb dX9_haltsFor_109 (by decide) ?_
                  refine lv_ior hx hb dX9_haltsFor_110 ?_
                  refine lv_topi (fun z_15 ez_15 => ?_)
                  refine lv_istore (lv' := [(4, .int z_15), (5, .int (nI k9_76)), (3, .int (nI k9_39)), (2, .int x9_39_2), (0, .ref h0), (1, .int x)]) hx hb dX9_haltsFor_111 hl (by decide) rfl (fun ls hl => ?_)
                  refine lv_iinc (v := (nI (k9_76 + 1))) (lv' := [(5, .int (nI (k9_76 + 1))), (4, .int z_15), (3, .int (nI k9_39)), (2, .int x9_39_2), (0, .ref h0), (1, .int x)]) hx hb dX9_haltsFor_113 hl (k := 1) rfl (by exact nI_1 (k9_76)) (by decide) rfl (fun ls hl => ?_)
                  refine lv_goto (tgt := 76) hx hb dX9_haltsFor_116 (by decide) ?_
                  have ho1 : orL (f9_2_0) k9_39 (k9_76 + 1) z_15 := orL_n h9_76_0 (fun q => absurd (hbg.mpr (htb.trans q)) (by omega)) (by rw [ez_15, or_z])
                  exact ih_76 (k9_76 + 1) _ _ _ _ (by omega) (by omega) (by first | assumption | omega | decide | (simp only [ti_0, ti_1, ti_2, ti_3, ti_4, ti_5, ti_6, ti_7, ti_8, ti_9, ti_10, ti_11, ti_12, ti_m1]; omega)) (by first | assumption | omega | decide | (simp only [ti_0, ti_1, ti_2, ti_3, ti_4, ti_5, ti_6, ti_7, ti_8, ti_9, ti_10, ti_11, ti_12, ti_m1]; omega)) ⟨hP.sub [0, 1, 2] rfl, hD.sub [0, 1, 2] (by decide) rfl⟩ hS (lv_sub hl [0, 1, 2, 3, 4, 5] rfl)
                · have ic_14 : z_13.toInt = 1 := ieq c_14 (rfl) (by decide)
                  refine lv_aload_n hx hb dX9_haltsFor_99 rfl (lv_at hl 4 rfl) ?_
                  refine va_get (D := D) (ci := 9) (v := .ref (g 10)) (C := RX9) (T := TX9) (N := 37) hx hb htg gRX9 hown hK hP 0 rfl rfl 30 (by decide) (htg _ wi_1180) (fun _ h9 => h9) rfl dX9_haltsFor_100 ?_
                  refine lv_iload hx hb dX9_haltsFor_103 (lv_at hl 0 rfl) ?_
                  refine va_iald hx hb hK hP 2 0 rfl rfl (vp_in_nI (by omega) (by omega)) dX9_haltsFor_105 ?_
                  refine lv_topi (fun z_16 ez_16 => ?_)
                  refine lv_goto (tgt := 110) hx hb dX9_haltsFor_106 (by decide) ?_
                  refine lv_ior hx hb dX9_haltsFor_110 ?_
                  refine lv_topi (fun z_17 ez_17 => ?_)
                  refine lv_istore (lv' := [(4, .int z_17), (5, .int (nI k9_76)), (3, .int (nI k9_39)), (2, .int x9_39_2), (0, .ref h0), (1, .int x)]) hx hb dX9_haltsFor_111 hl (by decide) rfl (fun ls hl => ?_)
                  refine lv_iinc (v := (nI (k9_76 + 1))) (lv' := [(5, .int (nI (k9_76 + 1))), (4, .int z_17), (3, .int (nI k9_39)), (2, .int x9_39_2), (0, .ref h0), (1, .int x)]) hx hb dX9_haltsFor_113 hl (k := 1) rfl (by exact nI_1 (k9_76)) (by decide) rfl (fun ls hl => ?_)
                  refine lv_goto (tgt := 76) hx hb dX9_haltsFor_116 (by decide) ?_
                  have ho1 : orL (f9_2_0) k9_39 (k9_76 + 1) z_17 := orL_y h9_76_0 (htb.symm.trans (hbg.mp (by omega))) (show z_16 = _ from by rw [ez_16, nI_clamp (by omega)]) ez_17
                  exact ih_76 (k9_76 + 1) _ _ _ _ (by omega) (by omega) (by first | assumption | omega | decide | (simp only [ti_0, ti_1, ti_2, ti_3, ti_4, ti_5, ti_6, ti_7, ti_8, ti_9, ti_10, ti_11, ti_12, ti_m1]; omega)) (by first | assumption | omega | decide | (simp only [ti_0, ti_1, ti_2, ti_3, ti_4, ti_5, ti_6, ti_7, ti_8, ti_9, ti_10, ti_11, ti_12, ti_m1]; omega)) ⟨hP.sub [0, 1, 2] rfl, hD.sub [0, 1, 2] (by decide) rfl⟩ hS (lv_sub hl [0, 1, 2, 3, 4, 5] rfl)
          · have ic_6 : ¬ x9_39_2.toInt = (-1) := ine c_6 (rfl) (by decide)
            refine lv_iload_n hx hb dX9_haltsFor_56 rfl (lv_at hl 0 rfl) ?_
            refine xk_i (wr := [(sw_9 h0 g b0 b5 b6 b7 b8 b9 b10 b11 b12 b13 b14 b17 b18 b19 b23 b24 b25 b26 b27 b29 b31 b32 b33), (sw_in cT (g 0) 288 a0), (sw_in cT (g 10) 16 f9_2_0)]) (xr_S (n := 1) (As := [.int (nI k9_39)]) (rest := []) ⟨hx, hb, hml, hown, htg⟩ hK hN hP hD hS hA [] rfl (by decide) (m_bitsOfX l D cT _ ((nI k9_39)) (by first | assumption | omega | decide | exact Or.inl (by decide) | (intro h9; exact absurd h9 (by decide)) | (intro _; omega) | (intro _; assumption) | (intro _; decide))) wi_1552 wi_1553 wi_131 wi_1554 ⟨rfl, by decide +kernel⟩ ⟨Nat.le_of_ble_eq_true rfl, Nat.le_of_ble_eq_true rfl⟩ rfl hl.1 rfl (Nat.le_of_ble_eq_true rfl) dX9_haltsFor_57 ⟨Nat.le_of_ble_eq_true rfl, Nat.le_of_ble_eq_true rfl⟩) hP hD hS hA [] [0, 1, 2] rfl rfl (by decide) (by decide) (fun r_19 u_18 H locs hwr_19 hP hD hS => ?_)
            obtain ⟨hP, hD⟩ : PD D A [(sw_9 h0 g b0 b5 b6 b7 b8 b9 b10 b11 b12 b13 b14 b17 b18 b19 b23 b24 b25 b26 b27 b29 b31 b32 b33), (sw_in cT (g 0) 288 a0), (sw_in cT (g 10) 16 f9_2_0)] _ := ⟨hP, hD⟩
            have qr_19_0 : r_19.toInt = ((pcN (nI k9_39).toInt.toNat 16 : Nat) : Int) := hwr_19.1
            refine lv_iload_n hx hb dX9_haltsFor_60 rfl (lv_at hl 1 rfl) ?_
            refine xk_i (wr := [(sw_9 h0 g b0 b5 b6 b7 b8 b9 b10 b11 b12 b13 b14 b17 b18 b19 b23 b24 b25 b26 b27 b29 b31 b32 b33), (sw_in cT (g 0) 288 a0), (sw_in cT (g 10) 16 f9_2_0)]) (xr_S (n := 1) (As := [.int x9_39_2]) (rest := [.int r_19]) ⟨hx, hb, hml, hown, htg⟩ hK hN hP hD hS hA [] rfl (by decide) (m_bitsOfX l D cT _ (x9_39_2) (by first | assumption | omega | decide | exact Or.inl (by decide) | (intro h9; exact absurd h9 (by decide)) | (intro _; omega) | (intro _; assumption) | (intro _; decide))) wi_1552 wi_1553 wi_131 wi_1554 ⟨rfl, by decide +kernel⟩ ⟨Nat.le_of_ble_eq_true rfl, Nat.le_of_ble_eq_true rfl⟩ rfl hl.1 rfl (Nat.le_of_ble_eq_true rfl) dX9_haltsFor_61 ⟨Nat.le_of_ble_eq_true rfl, Nat.le_of_ble_eq_true rfl⟩) hP hD hS hA [] [0, 1, 2] rfl rfl (by decide) (by decide) (fun r_21 u_20 H locs hwr_21 hP hD hS => ?_)
            obtain ⟨hP, hD⟩ : PD D A [(sw_9 h0 g b0 b5 b6 b7 b8 b9 b10 b11 b12 b13 b14 b17 b18 b19 b23 b24 b25 b26 b27 b29 b31 b32 b33), (sw_in cT (g 0) 288 a0), (sw_in cT (g 10) 16 f9_2_0)] _ := ⟨hP, hD⟩
            have qr_21_0 : r_21.toInt = ((pcN x9_39_2.toInt.toNat 16 : Nat) : Int) := hwr_21.1
            have hk39 : k9_39 < 2 ^ (a0 0).toInt.toNat := by rw [← hpw]; omega
            have hc39 : x9_39_2.toInt.toNat < 2 ^ (a0 0).toInt.toNat := by rw [← hpw]; omega
            have hb1 := qr_19_0
            have hb2 := qr_21_0
            rw [hk9_39, Int.toNat_natCast, pc_n16 hk39 (by omega)] at hb1
            rw [pc_n16 hc39 (by omega)] at hb2
            refine lv_icmp_lt (tgt := 70) hx hb dX9_haltsFor_64 (by decide) (fun c_22 => ?_) (fun c_22 => ?_)
            · have ic_22 : r_19.toInt < r_21.toInt := ilt c_22 (rfl) (rfl)
              refine lv_iconst (v := 0) hx hb dX9_haltsFor_70 (by decide) ?_
              refine lv_istore (lv' := [(4, .int 0), (3, .int (nI k9_39)), (2, .int x9_39_2), (0, .ref h0), (1, .int x)]) hx hb dX9_haltsFor_71 hl (by decide) rfl (fun ls hl => ?_)
              refine lv_iconst (v := 0) hx hb dX9_haltsFor_73 (by decide) ?_
              refine lv_istore (lv' := [(5, .int 0), (4, .int 0), (3, .int (nI k9_39)), (2, .int x9_39_2), (0, .ref h0), (1, .int x)]) hx hb dX9_haltsFor_74 hl (by decide) rfl (fun ls hl => ?_)
              have ho0 : orL (f9_2_0) k9_39 0 (0 : Int32) := orL_0 _ _
              have hn76 : ((0 : Nat) : Int) ≤ (a0 0).toInt := hN16.1
              refine (fun (key : ∀ (n9_76 : Nat) (k9_76 : Nat) (x9_76_4 : Int32) (H : Heap) (locs : List Loc) (ls : Array Slot), (k9_76 : Int) ≤ 16 → 16 < (k9_76 : Int) + n9_76 → orL (f9_2_0) k9_39 k9_76 x9_76_4 → ((k9_76 : Int) ≤ (a0 0).toInt) → PD D A [(sw_9 h0 g b0 b5 b6 b7 b8 b9 b10 b11 b12 b13 b14 b17 b18 b19 b23 b24 b25 b26 b27 b29 b31 b32 b33), (sw_in cT (g 0) 288 a0), (sw_in cT (g 10) 16 f9_2_0)] H → va_S A s.heap H locs → lv_has ls 6 [(5, .int (nI k9_76)), (4, .int x9_76_4), (3, .int (nI k9_39)), (2, .int x9_39_2), (0, .ref h0), (1, .int x)] → W p l e _ s m _ below meth c H locs _ _ _ (F0 m 76 ls [])) => key (Int.toNat (16 - 0) + 1) 0 _ _ _ _ (by omega) (by omega) (by first | assumption | omega | decide | (simp only [ti_0, ti_1, ti_2, ti_3, ti_4, ti_5, ti_6, ti_7, ti_8, ti_9, ti_10, ti_11, ti_12, ti_m1]; omega)) (by first | assumption | omega | decide | (simp only [ti_0, ti_1, ti_2, ti_3, ti_4, ti_5, ti_6, ti_7, ti_8, ti_9, ti_10, ti_11, ti_12, ti_m1]; omega)) ⟨hP, hD⟩ hS (lv_sub hl [0, 1, 2, 3, 4, 5] rfl)) ?_
              intro n9_76
              induction n9_76 with
              | zero => intro k9_76 x9_76_4 H locs ls hq1 hq2; exact absurd hq2 (by omega)
              | succ n9_76 ih_76 =>
                intro k9_76 x9_76_4 H locs ls hq1_76 hq2_76 h9_76_0 h9_76_1 hPD hS hl
                obtain ⟨hP, hD⟩ := hPD
                have hk9_76 : (nI k9_76).toInt = (k9_76 : Int) := nI_toInt (by omega)
                refine lv_iload hx hb dX9_haltsFor_76 (lv_at hl 0 rfl) ?_
                refine lv_aload_n hx hb dX9_haltsFor_78 rfl (lv_at hl 4 rfl) ?_
                refine va_get (D := D) (ci := 9) (v := .ref (g 0)) (C := RX9) (T := TX9) (N := 37) hx hb htg gRX9 hown hK hP 0 rfl rfl 1 (by decide) (htg _ wi_1151) (fun _ h9 => h9) rfl dX9_haltsFor_79 ?_
                refine lv_iconst (v := 0) hx hb dX9_haltsFor_82 (by decide) ?_
                refine va_iald hx hb hK hP 1 0 rfl rfl (by unfold vp_in; decide) dX9_haltsFor_83 ?_
                refine lv_topi (fun z_23 ez_23 => ?_)
                have iz_23 : 0 ≤ z_23.toInt ∧ z_23.toInt ≤ 16 := by rw [ez_23]; exact rd0 pa0 (by decide) rfl
                have nz_23 : z_23.toInt = ((a0) 0).toInt := by rw [ez_23]; rfl
                have nz_23 : z_23.toInt = (a0 0).toInt := by rw [ez_23]; rfl
                refine lv_icmp_ge (tgt := 119) hx hb dX9_haltsFor_84 (by decide) (fun c_24 => ?_) (fun c_24 => ?_)
                · have ic_24 : z_23.toInt ≤ ((k9_76 : Nat) : Int) := ile c_24 (rfl) (nI_toInt (by omega))
                  refine lv_iload_n hx hb dX9_haltsFor_119 rfl (lv_at hl 5 rfl) ?_
                  refine lv_iload hx hb dX9_haltsFor_120 (lv_at hl 1 rfl) ?_
                  refine lv_iconst (v := (-1)) hx hb dX9_haltsFor_122 (by decide) ?_
                  refine lv_ixor hx hb dX9_haltsFor_123 ?_
                  refine lv_topi (fun z_25 ez_25 => ?_)
                  refine lv_iand hx hb dX9_haltsFor_124 ?_
                  refine lv_topi (fun z_26 ez_26 => ?_)
                  have hol := h9_76_0
                  rw [show k9_76 = (a0 0).toInt.toNat from by omega] at hol
                  have hcv := orL_c (set := x) hol
                  rw [← ez_25, ← ez_26] at hcv
                  refine lv_if_ne (tgt := 130) hx hb dX9_haltsFor_125 (by decide) (fun c_27 => ?_) (fun c_27 => ?_)
                  · have ic_27 : ¬ z_26.toInt = 0 := ine c_27 (rfl) (by decide)
                    refine lv_iinc (v := (nI (k9_39 + 1))) (lv' := [(3, .int (nI (k9_39 + 1))), (5, .int (nI k9_76)), (4, .int x9_76_4), (2, .int x9_39_2), (0, .ref h0), (1, .int x)]) hx hb dX9_haltsFor_130 hl (k := 2) rfl (by exact nI_1 (k9_39)) (by decide) rfl (fun ls hl => ?_)
                    refine lv_goto (tgt := 39) hx hb dX9_haltsFor_133 (by decide) ?_
                    have hB1 : BS (f9_2_0) (a0 0).toInt.toNat x (k9_39 + 1) (x9_39_2 : Int32).toInt := BS_no h9_39_0 (fun q => absurd (congrArg Int32.toInt (hcv.mpr q)) (by rw [ti_0]; omega))
                    exact ih_39 (k9_39 + 1) _ _ _ _ (by omega) (by omega) (by first | assumption | omega | decide | (simp only [ti_0, ti_1, ti_2, ti_3, ti_4, ti_5, ti_6, ti_7, ti_8, ti_9, ti_10, ti_11, ti_12, ti_m1]; omega)) ⟨hP.sub [0, 1, 2] rfl, hD.sub [0, 1, 2] (by decide) rfl⟩ hS (lv_sub hl [0, 3, 4, 5] rfl)
                  · have ic_27 : z_26.toInt = 0 := ieq c_27 (rfl) (by decide)
                    have hnw := BS_new h9_39_0 (hcv.mp (i32_is (by rw [ti_0]; omega))) (Or.inr ⟨x9_39_2.toInt.toNat, by omega, by omega⟩)
                    refine lv_iload_n hx hb dX9_haltsFor_128 rfl (lv_at hl 2 rfl) ?_
                    refine lv_istore_n (lv' := [(2, .int (nI k9_39)), (5, .int (nI k9_76)), (4, .int x9_76_4), (3, .int (nI k9_39)), (0, .ref h0), (1, .int x)]) hx hb dX9_haltsFor_129 rfl hl (by decide) rfl (fun ls hl => ?_)
                    refine lv_iinc (v := (nI (k9_39 + 1))) (lv' := [(3, .int (nI (k9_39 + 1))), (2, .int (nI k9_39)), (5, .int (nI k9_76)), (4, .int x9_76_4), (0, .ref h0), (1, .int x)]) hx hb dX9_haltsFor_130 hl (k := 3) rfl (by exact nI_1 (k9_39)) (by decide) rfl (fun ls hl => ?_)
                    refine lv_goto (tgt := 39) hx hb dX9_haltsFor_133 (by decide) ?_
                    have hB1 : BS (f9_2_0) (a0 0).toInt.toNat x (k9_39 + 1) ((nI k9_39) : Int32).toInt := (by rw [hk9_39]; exact hnw)
                    exact ih_39 (k9_39 + 1) _ _ _ _ (by omega) (by omega) (by first | assumption | omega | decide | (simp only [ti_0, ti_1, ti_2, ti_3, ti_4, ti_5, ti_6, ti_7, ti_8, ti_9, ti_10, ti_11, ti_12, ti_m1]; omega)) ⟨hP.sub [0, 1, 2] rfl, hD.sub [0, 1, 2] (by decide) rfl⟩ hS (lv_sub hl [0, 1, 4, 5] rfl)
                · have ic_24 : ((k9_76 : Nat) : Int) < z_23.toInt := inle c_24 (rfl) (nI_toInt (by omega))
                  refine lv_iload hx hb dX9_haltsFor_87 (lv_at hl 1 rfl) ?_
                  refine lv_iload_n hx hb dX9_haltsFor_89 rfl (lv_at hl 2 rfl) ?_
                  refine lv_iload hx hb dX9_haltsFor_90 (lv_at hl 0 rfl) ?_
                  refine lv_ishr hx hb dX9_haltsFor_92 ?_
                  refine lv_topi (fun z_28 ez_28 => ?_)
                  refine lv_iconst (v := 1) hx hb dX9_haltsFor_93 (by decide) ?_
                  refine lv_iand hx hb dX9_haltsFor_94 ?_
                  refine lv_topi (fun z_29 ez_29 => ?_)
                  have iz_29 : 0 ≤ z_29.toInt ∧ z_29.toInt ≤ 1 := andI ez_29 (by decide) (by decide)
                  have hbg := bt_get (x := nI k9_39) (k := k9_76) (by omega) ez_28 ez_29
                  have htb : bt (nI k9_39) k9_76 = k9_39.testBit k9_76 := bt_nI (by omega) k9_76
                  refine lv_iconst (v := 1) hx hb dX9_haltsFor_95 (by decide) ?_
                  refine lv_icmp_ne (tgt := 109) hx hb dX9_haltsFor_96 (by decide) (fun c_30 => ?_) (fun c_30 => ?_)
                  · have ic_30 : ¬ z_29.toInt = 1 := ine c_30 (rfl) (by decide)
                    refine lv_iconst (v := 0) hx hb dX9_haltsFor_109 (by decide) ?_
                    refine lv_ior hx hb dX9_haltsFor_110 ?_
                    refine lv_topi (fun z_31 ez_31 => ?_)
                    refine lv_istore (lv' := [(4, .int z_31), (5, .int (nI k9_76)), (3, .int (nI k9_39)), (2, .int x9_39_2), (0, .ref h0), (1, .int x)]) hx hb dX9_haltsFor_111 hl (by decide) rfl (fun ls hl => ?_)
                    refine lv_iinc (v := (nI (k9_76 + 1))) (lv' := [(5, .int (nI (k9_76 + 1))), (4, .int z_31), (3, .int (nI k9_39)), (2, .int x9_39_2), (0, .ref h0), (1, .int x)]) hx hb dX9_haltsFor_113 hl (k := 1) rfl (by exact nI_1 (k9_76)) (by decide) rfl (fun ls hl => ?_)
                    refine lv_goto (tgt := 76) hx hb dX9_haltsFor_116 (by decide) ?_
                    have ho1 : orL (f9_2_0) k9_39 (k9_76 + 1) z_31 := orL_n h9_76_0 (fun q => absurd (hbg.mpr (htb.trans q)) (by omega)) (by rw [ez_31, or_z])
                    exact ih_76 (k9_76 + 1) _ _ _ _ (by omega) (by omega) (by first | assumption | omega | decide | (simp only [ti_0, ti_1, ti_2, ti_3, ti_4, ti_5, ti_6, ti_7, ti_8, ti_9, ti_10, ti_11, ti_12, ti_m1]; omega)) (by first | assumption | omega | decide | (simp only [ti_0, ti_1, ti_2, ti_3, ti_4, ti_5, ti_6, ti_7, ti_8, ti_9, ti_10, ti_11, ti_12, ti_m1]; omega)) ⟨hP.sub [0, 1, 2] rfl, hD.sub [0, 1, 2] (by decide) rfl⟩ hS (lv_sub hl [0, 1, 2, 3, 4, 5] rfl)
                  · have ic_30 : z_29.toInt = 1 := ieq c_30 (rfl) (by decide)
                    refine lv_aload_n hx hb dX9_haltsFor_99 rfl (lv_at hl 4 rfl) ?_
                    refine va_get (D := D) (ci := 9) (v := .ref (g 10)) (C := RX9) (T := TX9) (N := 37) hx hb htg gRX9 hown hK hP 0 rfl rfl 30 (by decide) (htg _ wi_1180) (fun _ h9 => h9) rfl dX9_haltsFor_100 ?_
                    refine lv_iload hx hb dX9_haltsFor_103 (lv_at hl 0 rfl) ?_
                    refine va_iald hx hb hK hP 2 0 rfl rfl (vp_in_nI (by omega) (by omega)) dX9_haltsFor_105 ?_
                    refine lv_topi (fun z_32 ez_32 => ?_)
                    refine lv_goto (tgt := 110) hx hb dX9_haltsFor_106 (by decide) ?_
                    refine lv_ior hx hb dX9_haltsFor_110 ?_
                    refine lv_topi (fun z_33 ez_33 => ?_)
                    refine lv_istore (lv' := [(4, .int z_33), (5, .int (nI k9_76)), (3, .int (nI k9_39)), (2, .int x9_39_2), (0, .ref h0), (1, .int x)]) hx hb dX9_haltsFor_111 hl (by decide) rfl (fun ls hl => ?_)
                    refine lv_iinc (v := (nI (k9_76 + 1))) (lv' := [(5, .int (nI (k9_76 + 1))), (4, .int z_33), (3, .int (nI k9_39)), (2, .int x9_39_2), (0, .ref h0), (1, .int x)]) hx hb dX9_haltsFor_113 hl (k := 1) rfl (by exact nI_1 (k9_76)) (by decide) rfl (fun ls hl => ?_)
                    refine lv_goto (tgt := 76) hx hb dX9_haltsFor_116 (by decide) ?_
                    have ho1 : orL (f9_2_0) k9_39 (k9_76 + 1) z_33 := orL_y h9_76_0 (htb.symm.trans (hbg.mp (by omega))) (show z_32 = _ from by rw [ez_32, nI_clamp (by omega)]) ez_33
                    exact ih_76 (k9_76 + 1) _ _ _ _ (by omega) (by omega) (by first | assumption | omega | decide | (simp only [ti_0, ti_1, ti_2, ti_3, ti_4, ti_5, ti_6, ti_7, ti_8, ti_9, ti_10, ti_11, ti_12, ti_m1]; omega)) (by first | assumption | omega | decide | (simp only [ti_0, ti_1, ti_2, ti_3, ti_4, ti_5, ti_6, ti_7, ti_8, ti_9, ti_10, ti_11, ti_12, ti_m1]; omega)) ⟨hP.sub [0, 1, 2] rfl, hD.sub [0, 1, 2] (by decide) rfl⟩ hS (lv_sub hl [0, 1, 2, 3, 4, 5] rfl)
            · have ic_22 : r_21.toInt ≤ r_19.toInt := inlt c_22 (rfl) (rfl)
              have hsk := BS_skip (c := x9_39_2.toInt.toNat) (by rw [show ((x9_39_2.toInt.toNat : Nat) : Int) = x9_39_2.toInt from by omega]; exact h9_39_0) (show pcN x9_39_2.toInt.toNat (a0 0).toInt.toNat ≤ pcN k9_39 (a0 0).toInt.toNat from by omega)
              rw [show ((x9_39_2.toInt.toNat : Nat) : Int) = x9_39_2.toInt from by omega] at hsk
              refine lv_goto (tgt := 130) hx hb dX9_haltsFor_67 (by decide) ?_
              refine lv_iinc (v := (nI (k9_39 + 1))) (lv' := [(3, .int (nI (k9_39 + 1))), (2, .int x9_39_2), (0, .ref h0), (1, .int x)]) hx hb dX9_haltsFor_130 hl (k := 0) rfl (by exact nI_1 (k9_39)) (by decide) rfl (fun ls hl => ?_)
              refine lv_goto (tgt := 39) hx hb dX9_haltsFor_133 (by decide) ?_
              have hB1 : BS (f9_2_0) (a0 0).toInt.toNat x (k9_39 + 1) (x9_39_2 : Int32).toInt := hsk
              exact ih_39 (k9_39 + 1) _ _ _ _ (by omega) (by omega) (by first | assumption | omega | decide | (simp only [ti_0, ti_1, ti_2, ti_3, ti_4, ti_5, ti_6, ti_7, ti_8, ti_9, ti_10, ti_11, ti_12, ti_m1]; omega)) ⟨hP.sub [0, 1, 2] rfl, hD.sub [0, 1, 2] (by decide) rfl⟩ hS (lv_sub hl [0, 1, 2, 3] rfl)
    · have ic_2 : ((k9_2 : Nat) : Int) < z_1.toInt := inle c_2 (rfl) (nI_toInt (by omega))
      refine lv_aload_n hx hb dX9_haltsFor_12 rfl (lv_at hl 1 rfl) ?_
      refine va_get (D := D) (ci := 9) (v := .ref (g 10)) (C := RX9) (T := TX9) (N := 37) hx hb htg gRX9 hown hK hP 0 rfl rfl 30 (by decide) (htg _ wi_1180) (fun _ h9 => h9) rfl dX9_haltsFor_13 ?_
      refine lv_iload_n hx hb dX9_haltsFor_16 rfl (lv_at hl 0 rfl) ?_
      refine lv_aload_n hx hb dX9_haltsFor_17 rfl (lv_at hl 1 rfl) ?_
      refine lv_iload_n hx hb dX9_haltsFor_18 rfl (lv_at hl 0 rfl) ?_
      refine lv_aload_n hx hb dX9_haltsFor_19 rfl (lv_at hl 1 rfl) ?_
      refine va_get (D := D) (ci := 9) (v := .ref (g 0)) (C := RX9) (T := TX9) (N := 37) hx hb htg gRX9 hown hK hP 0 rfl rfl 1 (by decide) (htg _ wi_1151) (fun _ h9 => h9) rfl dX9_haltsFor_20 ?_
      refine lv_iconst (v := 3) hx hb dX9_haltsFor_23 (by decide) ?_
      refine va_iald hx hb hK hP 1 0 rfl rfl (by unfold vp_in; decide) dX9_haltsFor_24 ?_
      refine lv_topi (fun z_34 ez_34 => ?_)
      have nz_34 : z_34 = a0 3 := ez_34
      refine xk_i (wr := [(sw_in cT (g 10) 16 f9_2_0)]) (xr_V (n := 2) (As := [.int (nI k9_2), .int z_34]) (rest := [.int (nI k9_2), .ref (g 10)]) ⟨hx, hb, hml, hown, htg⟩ hK hN hP hD hS hA [0, 1] rfl (by decide) (m_litByX l D cT _ (h0) (g) (b0) (b5) (b6) (b7) (b8) (b9) (b10) (b11) (b12) (b13) (b14) (b17) (b18) (b19) (b23) (b24) (b25) (b26) (b27) (b29) (b31) (b32) (b33) (by first | assumption | omega | decide | exact Or.inl (by decide) | (intro h9; exact absurd h9 (by decide)) | (intro _; omega) | (intro _; assumption) | (intro _; decide)) (a0) (by first | assumption | omega | decide | exact Or.inl (by decide) | (intro h9; exact absurd h9 (by decide)) | (intro _; omega) | (intro _; assumption) | (intro _; decide)) ((nI k9_2)) (z_34) (by first | assumption | omega | decide | exact Or.inl (by decide) | (intro h9; exact absurd h9 (by decide)) | (intro _; omega) | (intro _; assumption) | (intro _; decide))) wi_1383 wi_1385 wi_97 wi_131 wi_1386 rfl rfl rfl ⟨rfl, by decide +kernel⟩ ⟨Nat.le_of_ble_eq_true rfl, Nat.le_of_ble_eq_true rfl⟩ rfl hl.1 rfl (Nat.le_of_ble_eq_true rfl) dX9_haltsFor_25 ⟨Nat.le_of_ble_eq_true rfl, Nat.le_of_ble_eq_true rfl⟩) hP hD hS hA [0, 1] [2] rfl rfl (by decide) (by decide) (fun r_36 u_35 H locs hwr_36 hP hD hS => ?_)
      obtain ⟨hP, hD⟩ : PD D A [(sw_in cT (g 10) 16 f9_2_0), (sw_9 h0 g b0 b5 b6 b7 b8 b9 b10 b11 b12 b13 b14 b17 b18 b19 b23 b24 b25 b26 b27 b29 b31 b32 b33), (sw_in cT (g 0) 288 a0)] _ := ⟨hP, hD⟩
      have qr_36_0 : r_36 = litR (fun j => a0 (48 + j)) z_34 (a0 4) (a0 5) (nI k9_2).toInt (a0 0).toInt.toNat := hwr_36.1
      refine va_iast hx hb hK hP hD hS 0 0 rfl rfl (vp_in_nI (by omega) (by omega)) dX9_haltsFor_28 (fun H locs hP hD hS => ?_)
      obtain ⟨f_37, ef_37, hP, hD⟩ : ∃ f_37 : Nat → Int32, f_37 = upd (f9_2_0) ((nI k9_2) : Int32).toNatClampNeg r_36 ∧ PD D A [(sw_in cT (g 10) 16 f_37), (sw_9 h0 g b0 b5 b6 b7 b8 b9 b10 b11 b12 b13 b14 b17 b18 b19 b23 b24 b25 b26 b27 b29 b31 b32 b33), (sw_in cT (g 0) 288 a0)] H := ⟨_, rfl, hP, hD⟩
      refine lv_iinc (v := (nI (k9_2 + 1))) (lv' := [(2, .int (nI (k9_2 + 1))), (0, .ref h0), (1, .int x)]) hx hb dX9_haltsFor_29 hl (k := 0) rfl (by exact nI_1 (k9_2)) (by decide) rfl (fun ls hl => ?_)
      refine lv_goto (tgt := 2) hx hb dX9_haltsFor_32 (by decide) ?_
      have hF1 : ∀ o : Nat, o < k9_2 + 1 → (f_37) o = litR (fun j => a0 (48 + j)) (a0 3) (a0 4) (a0 5) (o : Int) (a0 0).toInt.toNat := fun o h => by rw [ef_37]; rcases (show o < k9_2 ∨ o = k9_2 from by omega) with q | q; rw [upd_no (by rw [hk9_2]; omega) (by rw [hk9_2]; omega)]; exact h9_2_0 o q; rw [upd_at2 (by rw [hk9_2]; omega), qr_36_0, nz_34, hk9_2, q]
      exact ih_2 (k9_2 + 1) _ _ _ _ (by omega) (by omega) (by first | assumption | omega | decide | (simp only [ti_0, ti_1, ti_2, ti_3, ti_4, ti_5, ti_6, ti_7, ti_8, ti_9, ti_10, ti_11, ti_12, ti_m1]; omega)) (by first | assumption | omega | decide | (simp only [ti_0, ti_1, ti_2, ti_3, ti_4, ti_5, ti_6, ti_7, ti_8, ti_9, ti_10, ti_11, ti_12, ti_m1]; omega)) ⟨hP.sub [1, 2, 0] rfl, hD.sub [1, 2, 0] (by decide) rfl⟩ hS (lv_sub hl [0, 1, 2] rfl)
