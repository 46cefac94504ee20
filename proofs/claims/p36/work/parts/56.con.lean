set_option maxHeartbeats 4000000 in
set_option maxRecDepth 100000 in
theorem m_lampIn288 (l : Launch) (D : va_G) (cT : Nat → ClassId) (sz : Nat) (b : Nat) (f : Nat → Int32) : Met l yX9_lampIn (wsc yX9_lampIn cX9_lampIn 1 none) { frames := 2, cells := 0, slots := 0, locals := 100 } (va_Pc [.ref b] (PX D cT sz [(b, .inl (cT 0, 288, .inl (f)))])) (va_Qv (fun (u : Unit) => True) (fun u t => RW D (va_A [(b, .inl (cT 0, 288, .inl (f)))] sz) ((fun _ : Unit => [(b, .inl (cT 0, 288, .inl (upd (upd (upd (upd (f) 2 0) 3 6) 4 6) 5 1)))]) u) t) (va_A [(b, .inl (cT 0, 288, .inl (f)))] sz)) 0 0 (va_A [(b, .inl (cT 0, 288, .inl (f)))] sz) := by
  refine m_of (y := yX9_lampIn) (cc := cX9_lampIn) (nL := 1) (ret := none) (D := D) (cT := cT) (av := [.ref b]) (wi := [(b, .inl (cT 0, 288, .inl (f)))]) (fun A => va_Qv (fun (u : Unit) => True) (fun u t => RW D A ((fun _ : Unit => [(b, .inl (cT 0, 288, .inl (upd (upd (upd (upd (f) 2 0) 3 6) 4 6) 5 1)))]) u) t) A) (by decide) (Nat.le_of_ble_eq_true rfl) ?_
  intro p e s m below meth c A hx hb hml hown htg hK hN hr hlk hnm hsz hP hD hS hA ls hl
  have hown : s.vm.findClass RX9 = some m.cls := hown
  have hl : lv_has ls 1 [(0, .ref b)] := hl
  refine lv_aload_n hx hb dX9_lampIn_0 rfl (lv_at hl 0 rfl) ?_
  refine lv_iconst (v := 2) hx hb dX9_lampIn_1 (by decide) ?_
  refine lv_iconst (v := 0) hx hb dX9_lampIn_2 (by decide) ?_
  refine va_iast hx hb hK hP hD hS 0 0 rfl rfl (by unfold vp_in; decide) dX9_lampIn_3 (fun H locs hP hD hS => ?_)
  have hP : va_P D classes [(b, .inl (cT 0, 288, .inl (upd (f) 2 0)))] _ := hP
  have hD : va_D A [(b, .inl (cT 0, 288, .inl (upd (f) 2 0)))] := hD
  refine lv_aload_n hx hb dX9_lampIn_4 rfl (lv_at hl 0 rfl) ?_
  refine lv_iconst (v := 3) hx hb dX9_lampIn_5 (by decide) ?_
  refine lv_bipush (v := 6) hx hb dX9_lampIn_6 (by decide) ?_
  refine va_iast hx hb hK hP hD hS 0 0 rfl rfl (by unfold vp_in; decide) dX9_lampIn_8 (fun H locs hP hD hS => ?_)
  have hP : va_P D classes [(b, .inl (cT 0, 288, .inl (upd (upd (f) 2 0) 3 6)))] _ := hP
  have hD : va_D A [(b, .inl (cT 0, 288, .inl (upd (upd (f) 2 0) 3 6)))] := hD
  refine lv_aload_n hx hb dX9_lampIn_9 rfl (lv_at hl 0 rfl) ?_
  refine lv_iconst (v := 4) hx hb dX9_lampIn_10 (by decide) ?_
  refine lv_bipush (v := 6) hx hb dX9_lampIn_11 (by decide) ?_
  refine va_iast hx hb hK hP hD hS 0 0 rfl rfl (by unfold vp_in; decide) dX9_lampIn_13 (fun H locs hP hD hS => ?_)
  have hP : va_P D classes [(b, .inl (cT 0, 288, .inl (upd (upd (upd (f) 2 0) 3 6) 4 6)))] _ := hP
  have hD : va_D A [(b, .inl (cT 0, 288, .inl (upd (upd (upd (f) 2 0) 3 6) 4 6)))] := hD
  refine lv_aload_n hx hb dX9_lampIn_14 rfl (lv_at hl 0 rfl) ?_
  refine lv_iconst (v := 5) hx hb dX9_lampIn_15 (by decide) ?_
  refine lv_iconst (v := 1) hx hb dX9_lampIn_16 (by decide) ?_
  refine va_iast hx hb hK hP hD hS 0 0 rfl rfl (by unfold vp_in; decide) dX9_lampIn_17 (fun H locs hP hD hS => ?_)
  have hP : va_P D classes [(b, .inl (cT 0, 288, .inl (upd (upd (upd (upd (f) 2 0) 3 6) 4 6) 5 1)))] _ := hP
  have hD : va_D A [(b, .inl (cT 0, 288, .inl (upd (upd (upd (upd (f) 2 0) 3 6) 4 6) 5 1)))] := hD
  exact x_vret hx hb hr hlk hP hD hS [0] (()) rfl (by decide) trivial (by decide) (by decide) dX9_lampIn_18
set_option maxHeartbeats 4000000 in
set_option maxRecDepth 100000 in
theorem m_plainIn288 (l : Launch) (D : va_G) (cT : Nat → ClassId) (sz : Nat) (b : Nat) (f : Nat → Int32) (hpf : PI 288 f) : Met l yX9_plainIn (wsc yX9_plainIn cX9_plainIn 2 none) { frames := 3, cells := 0, slots := 0, locals := 120 } (va_Pc [.ref b] (PX D cT sz [(b, .inl (cT 0, 288, .inl (f)))])) (va_Qv (fun (u : (Nat → Int32)) => (PI 288 u) ∧ (True)) (fun u t => RW D (va_A [(b, .inl (cT 0, 288, .inl (f)))] sz) ((fun u : (Nat → Int32) => [(b, .inl (cT 0, 288, .inl (u)))]) u) t) (va_A [(b, .inl (cT 0, 288, .inl (f)))] sz)) 0 0 (va_A [(b, .inl (cT 0, 288, .inl (f)))] sz) := by
  refine m_of (y := yX9_plainIn) (cc := cX9_plainIn) (nL := 2) (ret := none) (D := D) (cT := cT) (av := [.ref b]) (wi := [(b, .inl (cT 0, 288, .inl (f)))]) (fun A => va_Qv (fun (u : (Nat → Int32)) => (PI 288 u) ∧ (True)) (fun u t => RW D A ((fun u : (Nat → Int32) => [(b, .inl (cT 0, 288, .inl (u)))]) u) t) A) (by decide) (Nat.le_of_ble_eq_true rfl) ?_
  intro p e s m below meth c A hx hb hml hown htg hK hN hr hlk hnm hsz hP hD hS hA ls hl
  have hown : s.vm.findClass RX9 = some m.cls := hown
  have hl : lv_has ls 2 [(0, .ref b)] := hl
  have tc_0 : (0 : Int32).toInt = 0 := by decide
  have tc_1 : (1 : Int32).toInt = 1 := by decide
  have tc_6 : (6 : Int32).toInt = 6 := by decide
  have tc_10 : (10 : Int32).toInt = 10 := by decide
  have tc_60 : (60 : Int32).toInt = 60 := by decide
  have tc_96 : (96 : Int32).toInt = 96 := by decide
  have hP : va_P D classes [(b, .inl (cT 0, 288, .inl (fillF (f) 0 (0))))] _ := hP
  have hD : va_D A [(b, .inl (cT 0, 288, .inl (fillF (f) 0 (0))))] := hD
  refine lv_iconst (v := 0) hx hb dX9_plainIn_0 (by decide) ?_
  refine lv_istore_n (lv' := [(1, .int 0), (0, .ref b)]) hx hb dX9_plainIn_1 rfl hl (by decide) rfl (fun ls hl => ?_)
  refine (fun (key : ∀ (n9_2 : Nat) (k9_2 : Nat)  (H : Heap) (locs : List Loc) (ls : Array Slot), (k9_2 : Int) ≤ 96 → 96 < (k9_2 : Int) + n9_2 → va_P D classes [(b, .inl (cT 0, 288, .inl (fillF (f) k9_2 (0))))] H → va_D A [(b, .inl (cT 0, 288, .inl (fillF (f) k9_2 (0))))] → va_S A s.heap H locs → lv_has ls 2 [(1, .int (nI k9_2)), (0, .ref b)] → W p l e _ s m _ below meth c H locs _ _ _ (F0 m 2 ls [])) => key (Int.toNat (96 - 0) + 1) 0  _ _ _ (by omega) (by omega)  hP hD hS (lv_sub hl [0, 1] rfl)) ?_
  intro n9_2
  induction n9_2 with
  | zero => intro k9_2  H locs ls hq1 hq2; exact absurd hq2 (by omega)
  | succ n9_2 ih_2 =>
    intro k9_2  H locs ls hq1_2 hq2_2  hP hD hS hl
    have hk9_2 : (nI k9_2).toInt = (k9_2 : Int) := nI_toInt (by omega)
    refine lv_iload_n hx hb dX9_plainIn_2 rfl (lv_at hl 0 rfl) ?_
    refine lv_bipush (v := 96) hx hb dX9_plainIn_3 (by decide) ?_
    refine lv_icmp_ge (tgt := 18) hx hb dX9_plainIn_5 (by decide) (fun c_1 => ?_) (fun c_1 => ?_)
    · have ic_1 : 96 ≤ ((k9_2 : Nat) : Int) := ile c_1 (by decide) (nI_toInt (by omega))
      have e8 : k9_2 = 96 := by omega
      subst e8
      have hpi : PI 288 (fillF (f) 96 (0)) := pi_fillF hpf
      refine lv_aload_n hx hb dX9_plainIn_18 rfl (lv_at hl 1 rfl) ?_
      refine xk_v (wr := []) (xr_S (n := 1) (As := [.ref b]) (rest := []) ⟨hx, hb, hml, hown, htg⟩ hK hN hP hD hS hA [0] rfl (by decide) (m_lampIn288 l D cT _ (b) (fillF (f) 96 (0))) wi_1147 wi_1148 wi_131 wi_1149 ⟨rfl, by decide +kernel⟩ ⟨Nat.le_of_ble_eq_true rfl, Nat.le_of_ble_eq_true rfl⟩ rfl hl.1 rfl (Nat.le_of_ble_eq_true rfl) dX9_plainIn_19 ⟨Nat.le_of_ble_eq_true rfl, Nat.le_of_ble_eq_true rfl⟩) hP hD hS hA [0] [] rfl rfl (by decide) (by decide) (fun u_2 H locs hwr_3 hP hD hS => ?_)
      have hP : va_P D classes [(b, .inl (cT 0, 288, .inl (upd (upd (upd (upd ((fillF (f) 96 (0))) 2 0) 3 6) 4 6) 5 1)))] _ := hP
      have hD : va_D A [(b, .inl (cT 0, 288, .inl (upd (upd (upd (upd ((fillF (f) 96 (0))) 2 0) 3 6) 4 6) 5 1)))] := hD
      have hpl : PI 288 (upd (upd (upd (upd ((fillF (f) 96 (0))) 2 0) 3 6) 4 6) 5 1) := pi_lamp hpi
      refine lv_aload_n hx hb dX9_plainIn_22 rfl (lv_at hl 1 rfl) ?_
      refine lv_bipush (v := 6) hx hb dX9_plainIn_23 (by decide) ?_
      refine lv_bipush (v := 60) hx hb dX9_plainIn_25 (by decide) ?_
      refine va_iast hx hb hK hP hD hS 0 0 rfl rfl (by unfold vp_in; decide) dX9_plainIn_27 (fun H locs hP hD hS => ?_)
      obtain ⟨f_4, ef_4, hP, hD⟩ : ∃ f_4 : Nat → Int32, f_4 = upd (upd (upd (upd (upd ((fillF (f) 96 (0))) 2 0) 3 6) 4 6) 5 1) (6 : Int32).toNatClampNeg 60 ∧ va_P D classes [(b, .inl (cT 0, 288, .inl (f_4)))] H ∧ va_D A [(b, .inl (cT 0, 288, .inl (f_4)))] := ⟨_, rfl, hP, hD⟩
      have qf_4 : PI 288 f_4 := by rw [ef_4]; exact pi_upd (a := 6) (b := 60) hpl (by decide) (by decide) (by omega) (by unfold OKP; omega)
      refine lv_iconst (v := 0) hx hb dX9_plainIn_28 (by decide) ?_
      refine lv_istore_n (lv' := [(1, .int 0), (0, .ref b)]) hx hb dX9_plainIn_29 rfl hl (by decide) rfl (fun ls hl => ?_)
      refine (fun (key : ∀ (n9_30 : Nat) (k9_30 : Nat) (f9_30_0 : Nat → Int32) (H : Heap) (locs : List Loc) (ls : Array Slot), (k9_30 : Int) ≤ 6 → 6 < (k9_30 : Int) + n9_30 → PI 288 f9_30_0 → va_P D classes [(b, .inl (cT 0, 288, .inl (f9_30_0)))] H → va_D A [(b, .inl (cT 0, 288, .inl (f9_30_0)))] → va_S A s.heap H locs → lv_has ls 2 [(1, .int (nI k9_30)), (0, .ref b)] → W p l e _ s m _ below meth c H locs _ _ _ (F0 m 30 ls [])) => key (Int.toNat (6 - 0) + 1) 0 _ _ _ _ (by omega) (by omega) (by first | assumption | omega | decide | (simp only [ti_0, ti_1, ti_2, ti_3, ti_4, ti_5, ti_6, ti_7, ti_8, ti_9, ti_10, ti_11, ti_12, ti_m1]; omega)) hP hD hS (lv_sub hl [0, 1] rfl)) ?_
      intro n9_30
      induction n9_30 with
      | zero => intro k9_30 f9_30_0 H locs ls hq1 hq2; exact absurd hq2 (by omega)
      | succ n9_30 ih_30 =>
        intro k9_30 f9_30_0 H locs ls hq1_30 hq2_30 h9_30_0 hP hD hS hl
        have hk9_30 : (nI k9_30).toInt = (k9_30 : Int) := nI_toInt (by omega)
        refine lv_iload_n hx hb dX9_plainIn_30 rfl (lv_at hl 0 rfl) ?_
        refine lv_bipush (v := 6) hx hb dX9_plainIn_31 (by decide) ?_
        refine lv_icmp_ge (tgt := 49) hx hb dX9_plainIn_33 (by decide) (fun c_5 => ?_) (fun c_5 => ?_)
        · have ic_5 : 6 ≤ ((k9_30 : Nat) : Int) := ile c_5 (by decide) (nI_toInt (by omega))
          exact x_vret hx hb hr hlk hP hD hS [0] ((f9_30_0)) rfl (by decide) ⟨by (try dsimp only); first | assumption | omega | decide | exact Or.inl (by decide) | (intro h9; exact absurd h9 (by decide)) | (intro _; omega) | (intro _; assumption) | (intro _; decide), trivial⟩ (by decide) (by decide) dX9_plainIn_49
        · have ic_5 : ((k9_30 : Nat) : Int) < 6 := inle c_5 (by decide) (nI_toInt (by omega))
          refine lv_aload_n hx hb dX9_plainIn_36 rfl (lv_at hl 1 rfl) ?_
          refine lv_bipush (v := 10) hx hb dX9_plainIn_37 (by decide) ?_
          refine lv_iload_n hx hb dX9_plainIn_39 rfl (lv_at hl 0 rfl) ?_
          refine lv_iadd hx hb dX9_plainIn_40 ?_
          refine lv_is (y := nI (10 + k9_30)) (nI_add 10 (k9_30)) ?_
          refine lv_iconst (v := 1) hx hb dX9_plainIn_41 (by decide) ?_
          refine va_iast hx hb hK hP hD hS 0 0 rfl rfl (vp_in_nI (by omega) (by omega)) dX9_plainIn_42 (fun H locs hP hD hS => ?_)
          obtain ⟨f_6, ef_6, hP, hD⟩ : ∃ f_6 : Nat → Int32, f_6 = upd (f9_30_0) ((nI (10 + k9_30)) : Int32).toNatClampNeg 1 ∧ va_P D classes [(b, .inl (cT 0, 288, .inl (f_6)))] H ∧ va_D A [(b, .inl (cT 0, 288, .inl (f_6)))] := ⟨_, rfl, hP, hD⟩
          have qf_6 : PI 288 f_6 := by rw [ef_6]; exact pi_upd (a := ((10 + k9_30 : Nat) : Int)) (b := 1) h9_30_0 (nI_toInt (by omega)) (by decide) (by omega) (by unfold OKP; omega)
          refine lv_iinc (v := (nI (k9_30 + 1))) (lv' := [(1, .int (nI (k9_30 + 1))), (0, .ref b)]) hx hb dX9_plainIn_43 hl (k := 0) rfl (by exact nI_1 (k9_30)) (by decide) rfl (fun ls hl => ?_)
          refine lv_goto (tgt := 30) hx hb dX9_plainIn_46 (by decide) ?_
          exact ih_30 (k9_30 + 1) _ _ _ _ (by omega) (by omega) (by first | assumption | omega | decide | (simp only [ti_0, ti_1, ti_2, ti_3, ti_4, ti_5, ti_6, ti_7, ti_8, ti_9, ti_10, ti_11, ti_12, ti_m1]; omega)) (hP.sub [0] rfl) (hD.sub [0] (by decide) rfl) hS (lv_sub hl [0, 1] rfl)
    · have ic_1 : ((k9_2 : Nat) : Int) < 96 := inle c_1 (by decide) (nI_toInt (by omega))
      refine lv_aload_n hx hb dX9_plainIn_8 rfl (lv_at hl 1 rfl) ?_
      refine lv_iload_n hx hb dX9_plainIn_9 rfl (lv_at hl 0 rfl) ?_
      refine lv_iconst (v := 0) hx hb dX9_plainIn_10 (by decide) ?_
      refine va_iast hx hb hK hP hD hS 0 0 rfl rfl (vp_in_nI (by omega) (by omega)) dX9_plainIn_11 (fun H locs hP hD hS => ?_)
      have e9 : upd (fillF (f) k9_2 (0)) (nI k9_2).toNatClampNeg (0) = fillF (f) (k9_2 + 1) (0) := by rw [nI_clamp (by omega)]; exact fillF_s (f) k9_2 (0)
      have hP : va_P D classes [(b, .inl (cT 0, 288, .inl (fillF (f) (k9_2 + 1) (0))))] H := by rw [← e9]; exact hP
      have hD : va_D A [(b, .inl (cT 0, 288, .inl (fillF (f) (k9_2 + 1) (0))))] := by rw [← e9]; exact hD
      refine lv_iinc (v := (nI (k9_2 + 1))) (lv' := [(1, .int (nI (k9_2 + 1))), (0, .ref b)]) hx hb dX9_plainIn_12 hl (k := 0) rfl (by exact nI_1 (k9_2)) (by decide) rfl (fun ls hl => ?_)
      refine lv_goto (tgt := 2) hx hb dX9_plainIn_15 (by decide) ?_
      exact ih_2 (k9_2 + 1)  _ _ _ (by omega) (by omega)  (hP.sub [0] rfl) (hD.sub [0] (by decide) rfl) hS (lv_sub hl [0, 1] rfl)
set_option maxHeartbeats 4000000 in
set_option maxRecDepth 100000 in
theorem m_lampIn96 (l : Launch) (D : va_G) (cT : Nat → ClassId) (sz : Nat) (b : Nat) (f : Nat → Int32) : Met l yX9_lampIn (wsc yX9_lampIn cX9_lampIn 1 none) { frames := 2, cells := 0, slots := 0, locals := 100 } (va_Pc [.ref b] (PX D cT sz [(b, .inl (cT 0, 96, .inl (f)))])) (va_Qv (fun (u : Unit) => True) (fun u t => RW D (va_A [(b, .inl (cT 0, 96, .inl (f)))] sz) ((fun _ : Unit => [(b, .inl (cT 0, 96, .inl (upd (upd (upd (upd (f) 2 0) 3 6) 4 6) 5 1)))]) u) t) (va_A [(b, .inl (cT 0, 96, .inl (f)))] sz)) 0 0 (va_A [(b, .inl (cT 0, 96, .inl (f)))] sz) := by
  refine m_of (y := yX9_lampIn) (cc := cX9_lampIn) (nL := 1) (ret := none) (D := D) (cT := cT) (av := [.ref b]) (wi := [(b, .inl (cT 0, 96, .inl (f)))]) (fun A => va_Qv (fun (u : Unit) => True) (fun u t => RW D A ((fun _ : Unit => [(b, .inl (cT 0, 96, .inl (upd (upd (upd (upd (f) 2 0) 3 6) 4 6) 5 1)))]) u) t) A) (by decide) (Nat.le_of_ble_eq_true rfl) ?_
  intro p e s m below meth c A hx hb hml hown htg hK hN hr hlk hnm hsz hP hD hS hA ls hl
  have hown : s.vm.findClass RX9 = some m.cls := hown
  have hl : lv_has ls 1 [(0, .ref b)] := hl
  refine lv_aload_n hx hb dX9_lampIn_0 rfl (lv_at hl 0 rfl) ?_
  refine lv_iconst (v := 2) hx hb dX9_lampIn_1 (by decide) ?_
  refine lv_iconst (v := 0) hx hb dX9_lampIn_2 (by decide) ?_
  refine va_iast hx hb hK hP hD hS 0 0 rfl rfl (by unfold vp_in; decide) dX9_lampIn_3 (fun H locs hP hD hS => ?_)
  have hP : va_P D classes [(b, .inl (cT 0, 96, .inl (upd (f) 2 0)))] _ := hP
  have hD : va_D A [(b, .inl (cT 0, 96, .inl (upd (f) 2 0)))] := hD
  refine lv_aload_n hx hb dX9_lampIn_4 rfl (lv_at hl 0 rfl) ?_
  refine lv_iconst (v := 3) hx hb dX9_lampIn_5 (by decide) ?_
  refine lv_bipush (v := 6) hx hb dX9_lampIn_6 (by decide) ?_
  refine va_iast hx hb hK hP hD hS 0 0 rfl rfl (by unfold vp_in; decide) dX9_lampIn_8 (fun H locs hP hD hS => ?_)
  have hP : va_P D classes [(b, .inl (cT 0, 96, .inl (upd (upd (f) 2 0) 3 6)))] _ := hP
  have hD : va_D A [(b, .inl (cT 0, 96, .inl (upd (upd (f) 2 0) 3 6)))] := hD
  refine lv_aload_n hx hb dX9_lampIn_9 rfl (lv_at hl 0 rfl) ?_
  refine lv_iconst (v := 4) hx hb dX9_lampIn_10 (by decide) ?_
  refine lv_bipush (v := 6) hx hb dX9_lampIn_11 (by decide) ?_
  refine va_iast hx hb hK hP hD hS 0 0 rfl rfl (by unfold vp_in; decide) dX9_lampIn_13 (fun H locs hP hD hS => ?_)
  have hP : va_P D classes [(b, .inl (cT 0, 96, .inl (upd (upd (upd (f) 2 0) 3 6) 4 6)))] _ := hP
  have hD : va_D A [(b, .inl (cT 0, 96, .inl (upd (upd (upd (f) 2 0) 3 6) 4 6)))] := hD
  refine lv_aload_n hx hb dX9_lampIn_14 rfl (lv_at hl 0 rfl) ?_
  refine lv_iconst (v := 5) hx hb dX9_lampIn_15 (by decide) ?_
  refine lv_iconst (v := 1) hx hb dX9_lampIn_16 (by decide) ?_
  refine va_iast hx hb hK hP hD hS 0 0 rfl rfl (by unfold vp_in; decide) dX9_lampIn_17 (fun H locs hP hD hS => ?_)
  have hP : va_P D classes [(b, .inl (cT 0, 96, .inl (upd (upd (upd (upd (f) 2 0) 3 6) 4 6) 5 1)))] _ := hP
  have hD : va_D A [(b, .inl (cT 0, 96, .inl (upd (upd (upd (upd (f) 2 0) 3 6) 4 6) 5 1)))] := hD
  exact x_vret hx hb hr hlk hP hD hS [0] (()) rfl (by decide) trivial (by decide) (by decide) dX9_lampIn_18
set_option maxHeartbeats 4000000 in
set_option maxRecDepth 100000 in
theorem m_plainIn96 (l : Launch) (D : va_G) (cT : Nat → ClassId) (sz : Nat) (b : Nat) (f : Nat → Int32) : Met l yX9_plainIn (wsc yX9_plainIn cX9_plainIn 2 none) { frames := 3, cells := 0, slots := 0, locals := 120 } (va_Pc [.ref b] (PX D cT sz [(b, .inl (cT 0, 96, .inl (f)))])) (va_Qv (fun (u : (Nat → Int32)) => (PI 96 u) ∧ (True)) (fun u t => RW D (va_A [(b, .inl (cT 0, 96, .inl (f)))] sz) ((fun u : (Nat → Int32) => [(b, .inl (cT 0, 96, .inl (u)))]) u) t) (va_A [(b, .inl (cT 0, 96, .inl (f)))] sz)) 0 0 (va_A [(b, .inl (cT 0, 96, .inl (f)))] sz) := by
  refine m_of (y := yX9_plainIn) (cc := cX9_plainIn) (nL := 2) (ret := none) (D := D) (cT := cT) (av := [.ref b]) (wi := [(b, .inl (cT 0, 96, .inl (f)))]) (fun A => va_Qv (fun (u : (Nat → Int32)) => (PI 96 u) ∧ (True)) (fun u t => RW D A ((fun u : (Nat → Int32) => [(b, .inl (cT 0, 96, .inl (u)))]) u) t) A) (by decide) (Nat.le_of_ble_eq_true rfl) ?_
  intro p e s m below meth c A hx hb hml hown htg hK hN hr hlk hnm hsz hP hD hS hA ls hl
  have hown : s.vm.findClass RX9 = some m.cls := hown
  have hl : lv_has ls 2 [(0, .ref b)] := hl
  have tc_0 : (0 : Int32).toInt = 0 := by decide
  have tc_1 : (1 : Int32).toInt = 1 := by decide
  have tc_6 : (6 : Int32).toInt = 6 := by decide
  have tc_10 : (10 : Int32).toInt = 10 := by decide
  have tc_60 : (60 : Int32).toInt = 60 := by decide
  have tc_96 : (96 : Int32).toInt = 96 := by decide
  have hP : va_P D classes [(b, .inl (cT 0, 96, .inl (fillF (f) 0 (0))))] _ := hP
  have hD : va_D A [(b, .inl (cT 0, 96, .inl (fillF (f) 0 (0))))] := hD
  refine lv_iconst (v := 0) hx hb dX9_plainIn_0 (by decide) ?_
  refine lv_istore_n (lv' := [(1, .int 0), (0, .ref b)]) hx hb dX9_plainIn_1 rfl hl (by decide) rfl (fun ls hl => ?_)
  refine (fun (key : ∀ (n9_2 : Nat) (k9_2 : Nat)  (H : Heap) (locs : List Loc) (ls : Array Slot), (k9_2 : Int) ≤ 96 → 96 < (k9_2 : Int) + n9_2 → va_P D classes [(b, .inl (cT 0, 96, .inl (fillF (f) k9_2 (0))))] H → va_D A [(b, .inl (cT 0, 96, .inl (fillF (f) k9_2 (0))))] → va_S A s.heap H locs → lv_has ls 2 [(1, .int (nI k9_2)), (0, .ref b)] → W p l e _ s m _ below meth c H locs _ _ _ (F0 m 2 ls [])) => key (Int.toNat (96 - 0) + 1) 0  _ _ _ (by omega) (by omega)  hP hD hS (lv_sub hl [0, 1] rfl)) ?_
  intro n9_2
  induction n9_2 with
  | zero => intro k9_2  H locs ls hq1 hq2; exact absurd hq2 (by omega)
  | succ n9_2 ih_2 =>
    intro k9_2  H locs ls hq1_2 hq2_2  hP hD hS hl
    have hk9_2 : (nI k9_2).toInt = (k9_2 : Int) := nI_toInt (by omega)
    refine lv_iload_n hx hb dX9_plainIn_2 rfl (lv_at hl 0 rfl) ?_
    refine lv_bipush (v := 96) hx hb dX9_plainIn_3 (by decide) ?_
    refine lv_icmp_ge (tgt := 18) hx hb dX9_plainIn_5 (by decide) (fun c_1 => ?_) (fun c_1 => ?_)
    · have ic_1 : 96 ≤ ((k9_2 : Nat) : Int) := ile c_1 (by decide) (nI_toInt (by omega))
      have e8 : k9_2 = 96 := by omega
      subst e8
      have hpi : PI 96 (fillF (f) 96 (0)) := pi_fill
      refine lv_aload_n hx hb dX9_plainIn_18 rfl (lv_at hl 1 rfl) ?_
      refine xk_v (wr := []) (xr_S (n := 1) (As := [.ref b]) (rest := []) ⟨hx, hb, hml, hown, htg⟩ hK hN hP hD hS hA [0] rfl (by decide) (m_lampIn96 l D cT _ (b) (fillF (f) 96 (0))) wi_1147 wi_1148 wi_131 wi_1149 ⟨rfl, by decide +kernel⟩ ⟨Nat.le_of_ble_eq_true rfl, Nat.le_of_ble_eq_true rfl⟩ rfl hl.1 rfl (Nat.le_of_ble_eq_true rfl) dX9_plainIn_19 ⟨Nat.le_of_ble_eq_true rfl, Nat.le_of_ble_eq_true rfl⟩) hP hD hS hA [0] [] rfl rfl (by decide) (by decide) (fun u_2 H locs hwr_3 hP hD hS => ?_)
      have hP : va_P D classes [(b, .inl (cT 0, 96, .inl (upd (upd (upd (upd ((fillF (f) 96 (0))) 2 0) 3 6) 4 6) 5 1)))] _ := hP
      have hD : va_D A [(b, .inl (cT 0, 96, .inl (upd (upd (upd (upd ((fillF (f) 96 (0))) 2 0) 3 6) 4 6) 5 1)))] := hD
      have hpl : PI 96 (upd (upd (upd (upd ((fillF (f) 96 (0))) 2 0) 3 6) 4 6) 5 1) := pi_lamp hpi
      refine lv_aload_n hx hb dX9_plainIn_22 rfl (lv_at hl 1 rfl) ?_
      refine lv_bipush (v := 6) hx hb dX9_plainIn_23 (by decide) ?_
      refine lv_bipush (v := 60) hx hb dX9_plainIn_25 (by decide) ?_
      refine va_iast hx hb hK hP hD hS 0 0 rfl rfl (by unfold vp_in; decide) dX9_plainIn_27 (fun H locs hP hD hS => ?_)
      obtain ⟨f_4, ef_4, hP, hD⟩ : ∃ f_4 : Nat → Int32, f_4 = upd (upd (upd (upd (upd ((fillF (f) 96 (0))) 2 0) 3 6) 4 6) 5 1) (6 : Int32).toNatClampNeg 60 ∧ va_P D classes [(b, .inl (cT 0, 96, .inl (f_4)))] H ∧ va_D A [(b, .inl (cT 0, 96, .inl (f_4)))] := ⟨_, rfl, hP, hD⟩
      have qf_4 : PI 96 f_4 := by rw [ef_4]; exact pi_upd (a := 6) (b := 60) hpl (by decide) (by decide) (by omega) (by unfold OKP; omega)
      refine lv_iconst (v := 0) hx hb dX9_plainIn_28 (by decide) ?_
      refine lv_istore_n (lv' := [(1, .int 0), (0, .ref b)]) hx hb dX9_plainIn_29 rfl hl (by decide) rfl (fun ls hl => ?_)
      refine (fun (key : ∀ (n9_30 : Nat) (k9_30 : Nat) (f9_30_0 : Nat → Int32) (H : Heap) (locs : List Loc) (ls : Array Slot), (k9_30 : Int) ≤ 6 → 6 < (k9_30 : Int) + n9_30 → PI 96 f9_30_0 → va_P D classes [(b, .inl (cT 0, 96, .inl (f9_30_0)))] H → va_D A [(b, .inl (cT 0, 96, .inl (f9_30_0)))] → va_S A s.heap H locs → lv_has ls 2 [(1, .int (nI k9_30)), (0, .ref b)] → W p l e _ s m _ below meth c H locs _ _ _ (F0 m 30 ls [])) => key (Int.toNat (6 - 0) + 1) 0 _ _ _ _ (by omega) (by omega) (by first | assumption | omega | decide | (simp only [ti_0, ti_1, ti_2, ti_3, ti_4, ti_5, ti_6, ti_7, ti_8, ti_9, ti_10, ti_11, ti_12, ti_m1]; omega)) hP hD hS (lv_sub hl [0, 1] rfl)) ?_
      intro n9_30
      induction n9_30 with
      | zero => intro k9_30 f9_30_0 H locs ls hq1 hq2; exact absurd hq2 (by omega)
      | succ n9_30 ih_30 =>
        intro k9_30 f9_30_0 H locs ls hq1_30 hq2_30 h9_30_0 hP hD hS hl
        have hk9_30 : (nI k9_30).toInt = (k9_30 : Int) := nI_toInt (by omega)
        refine lv_iload_n hx hb dX9_plainIn_30 rfl (lv_at hl 0 rfl) ?_
        refine lv_bipush (v := 6) hx hb dX9_plainIn_31 (by decide) ?_
        refine lv_icmp_ge (tgt := 49) hx hb dX9_plainIn_33 (by decide) (fun c_5 => ?_) (fun c_5 => ?_)
        · have ic_5 : 6 ≤ ((k9_30 : Nat) : Int) := ile c_5 (by decide) (nI_toInt (by omega))
          exact x_vret hx hb hr hlk hP hD hS [0] ((f9_30_0)) rfl (by decide) ⟨by (try dsimp only); first | assumption | omega | decide | exact Or.inl (by decide) | (intro h9; exact absurd h9 (by decide)) | (intro _; omega) | (intro _; assumption) | (intro _; decide), trivial⟩ (by decide) (by decide) dX9_plainIn_49
        · have ic_5 : ((k9_30 : Nat) : Int) < 6 := inle c_5 (by decide) (nI_toInt (by omega))
          refine lv_aload_n hx hb dX9_plainIn_36 rfl (lv_at hl 1 rfl) ?_
          refine lv_bipush (v := 10) hx hb dX9_plainIn_37 (by decide) ?_
          refine lv_iload_n hx hb dX9_plainIn_39 rfl (lv_at hl 0 rfl) ?_
          refine lv_iadd hx hb dX9_plainIn_40 ?_
          refine lv_is (y := nI (10 + k9_30)) (nI_add 10 (k9_30)) ?_
          refine lv_iconst (v := 1) hx hb dX9_plainIn_41 (by decide) ?_
          refine va_iast hx hb hK hP hD hS 0 0 rfl rfl (vp_in_nI (by omega) (by omega)) dX9_plainIn_42 (fun H locs hP hD hS => ?_)
          obtain ⟨f_6, ef_6, hP, hD⟩ : ∃ f_6 : Nat → Int32, f_6 = upd (f9_30_0) ((nI (10 + k9_30)) : Int32).toNatClampNeg 1 ∧ va_P D classes [(b, .inl (cT 0, 96, .inl (f_6)))] H ∧ va_D A [(b, .inl (cT 0, 96, .inl (f_6)))] := ⟨_, rfl, hP, hD⟩
          have qf_6 : PI 96 f_6 := by rw [ef_6]; exact pi_upd (a := ((10 + k9_30 : Nat) : Int)) (b := 1) h9_30_0 (nI_toInt (by omega)) (by decide) (by omega) (by unfold OKP; omega)
          refine lv_iinc (v := (nI (k9_30 + 1))) (lv' := [(1, .int (nI (k9_30 + 1))), (0, .ref b)]) hx hb dX9_plainIn_43 hl (k := 0) rfl (by exact nI_1 (k9_30)) (by decide) rfl (fun ls hl => ?_)
          refine lv_goto (tgt := 30) hx hb dX9_plainIn_46 (by decide) ?_
          exact ih_30 (k9_30 + 1) _ _ _ _ (by omega) (by omega) (by first | assumption | omega | decide | (simp only [ti_0, ti_1, ti_2, ti_3, ti_4, ti_5, ti_6, ti_7, ti_8, ti_9, ti_10, ti_11, ti_12, ti_m1]; omega)) (hP.sub [0] rfl) (hD.sub [0] (by decide) rfl) hS (lv_sub hl [0, 1] rfl)
    · have ic_1 : ((k9_2 : Nat) : Int) < 96 := inle c_1 (by decide) (nI_toInt (by omega))
      refine lv_aload_n hx hb dX9_plainIn_8 rfl (lv_at hl 1 rfl) ?_
      refine lv_iload_n hx hb dX9_plainIn_9 rfl (lv_at hl 0 rfl) ?_
      refine lv_iconst (v := 0) hx hb dX9_plainIn_10 (by decide) ?_
      refine va_iast hx hb hK hP hD hS 0 0 rfl rfl (vp_in_nI (by omega) (by omega)) dX9_plainIn_11 (fun H locs hP hD hS => ?_)
      have e9 : upd (fillF (f) k9_2 (0)) (nI k9_2).toNatClampNeg (0) = fillF (f) (k9_2 + 1) (0) := by rw [nI_clamp (by omega)]; exact fillF_s (f) k9_2 (0)
      have hP : va_P D classes [(b, .inl (cT 0, 96, .inl (fillF (f) (k9_2 + 1) (0))))] H := by rw [← e9]; exact hP
      have hD : va_D A [(b, .inl (cT 0, 96, .inl (fillF (f) (k9_2 + 1) (0))))] := by rw [← e9]; exact hD
      refine lv_iinc (v := (nI (k9_2 + 1))) (lv' := [(1, .int (nI (k9_2 + 1))), (0, .ref b)]) hx hb dX9_plainIn_12 hl (k := 0) rfl (by exact nI_1 (k9_2)) (by decide) rfl (fun ls hl => ?_)
      refine lv_goto (tgt := 2) hx hb dX9_plainIn_15 (by decide) ?_
      exact ih_2 (k9_2 + 1)  _ _ _ (by omega) (by omega)  (hP.sub [0] rfl) (hD.sub [0] (by decide) rfl) hS (lv_sub hl [0, 1] rfl)
set_option maxHeartbeats 4000000 in
set_option maxRecDepth 100000 in
theorem m_readLamp (l : Launch) (D : va_G) (cT : Nat → ClassId) (sz : Nat) (h0 : Nat) (g : Nat → Nat) (b0 : Int32) (b5 : Int32) (b6 : Int32) (b7 : Int32) (b8 : Int32) (b9 : Int32) (b10 : Int32) (b11 : Int32) (b12 : Int32) (b13 : Int32) (b14 : Int32) (b17 : Int32) (b18 : Int32) (b19 : Int32) (b23 : Int32) (b24 : Int32) (b25 : Int32) (b26 : Int32) (b27 : Int32) (b29 : Int32) (b31 : Int32) (b32 : Int32) (b33 : Int32) (hb5 : 0 ≤ b5.toInt ∧ b5.toInt ≤ 900) (a2 : Nat → Int32) (a3 : Nat → Int32) (pw3 : PW (b11.toInt) a3) (hb8 : 0 ≤ b8.toInt ∧ b8.toInt ≤ 900) (hb7 : 0 ≤ b7.toInt ∧ b7.toInt ≤ b8.toInt) : Met l yX9_readLamp (wsc yX9_readLamp cX9_readLamp 1 none) { frames := 10, cells := 0, slots := 0, locals := 275 } (va_Pc [.ref h0] (PX D cT sz [(h0, .inr (9, (.int b0 :: .ref (g 0) :: .ref (g 1) :: .ref (g 2) :: .ref (g 3) :: .int b5 :: .int b6 :: .int b7 :: .int b8 :: .int b9 :: .int b10 :: .int b11 :: .int b12 :: .int b13 :: .int b14 :: .ref (g 4) :: .ref (g 5) :: .int b17 :: .int b18 :: .int b19 :: .ref (g 6) :: .ref (g 7) :: .ref (g 8) :: .int b23 :: .int b24 :: .int b25 :: .int b26 :: .int b27 :: .ref (g 9) :: .int b29 :: .ref (g 10) :: .int b31 :: .int b32 :: .int b33 :: .ref (g 11) :: .ref (g 12) :: .ref (g 13) :: []))), ((g 2), .inl (cT 0, 900, .inl (a2))), ((g 3), .inl (cT 0, 96, .inl (a3)))])) (va_Qv (fun (u : Int32 × Int32 × Int32 × Int32 × Int32 × Int32 × (Nat → Int32)) => (PW (u.2.2.2.2.1.toInt) u.2.2.2.2.2.2) ∧ (0 ≤ u.2.1.toInt ∧ u.2.1.toInt ≤ 900) ∧ (b7.toInt ≤ u.2.1.toInt ∧ u.2.1.toInt ≤ b8.toInt) ∧ (Imp (u.2.2.1.toInt = 15) (b7.toInt < u.2.1.toInt ∨ b9.toInt = 15)) ∧ (Imp (u.2.2.2.2.1.toInt = 0) (b11.toInt = 0)) ∧ (True)) (fun u t => RW D (va_A [(h0, .inr (9, (.int b0 :: .ref (g 0) :: .ref (g 1) :: .ref (g 2) :: .ref (g 3) :: .int b5 :: .int b6 :: .int b7 :: .int b8 :: .int b9 :: .int b10 :: .int b11 :: .int b12 :: .int b13 :: .int b14 :: .ref (g 4) :: .ref (g 5) :: .int b17 :: .int b18 :: .int b19 :: .ref (g 6) :: .ref (g 7) :: .ref (g 8) :: .int b23 :: .int b24 :: .int b25 :: .int b26 :: .int b27 :: .ref (g 9) :: .int b29 :: .ref (g 10) :: .int b31 :: .int b32 :: .int b33 :: .ref (g 11) :: .ref (g 12) :: .ref (g 13) :: []))), ((g 2), .inl (cT 0, 900, .inl (a2))), ((g 3), .inl (cT 0, 96, .inl (a3)))] sz) ((fun u : Int32 × Int32 × Int32 × Int32 × Int32 × Int32 × (Nat → Int32) => [(h0, .inr (9, (.int b0 :: .ref (g 0) :: .ref (g 1) :: .ref (g 2) :: .ref (g 3) :: .int b5 :: .int u.1 :: .int u.2.1 :: .int b8 :: .int u.2.2.1 :: .int u.2.2.2.1 :: .int u.2.2.2.2.1 :: .int u.2.2.2.2.2.1 :: .int b13 :: .int b14 :: .ref (g 4) :: .ref (g 5) :: .int b17 :: .int b18 :: .int b19 :: .ref (g 6) :: .ref (g 7) :: .ref (g 8) :: .int b23 :: .int b24 :: .int b25 :: .int b26 :: .int b27 :: .ref (g 9) :: .int b29 :: .ref (g 10) :: .int b31 :: .int b32 :: .int b33 :: .ref (g 11) :: .ref (g 12) :: .ref (g 13) :: []))), ((g 2), .inl (cT 0, 900, .inl (a2))), ((g 3), .inl (cT 0, 96, .inl (u.2.2.2.2.2.2)))]) u) t) (va_A [(h0, .inr (9, (.int b0 :: .ref (g 0) :: .ref (g 1) :: .ref (g 2) :: .ref (g 3) :: .int b5 :: .int b6 :: .int b7 :: .int b8 :: .int b9 :: .int b10 :: .int b11 :: .int b12 :: .int b13 :: .int b14 :: .ref (g 4) :: .ref (g 5) :: .int b17 :: .int b18 :: .int b19 :: .ref (g 6) :: .ref (g 7) :: .ref (g 8) :: .int b23 :: .int b24 :: .int b25 :: .int b26 :: .int b27 :: .ref (g 9) :: .int b29 :: .ref (g 10) :: .int b31 :: .int b32 :: .int b33 :: .ref (g 11) :: .ref (g 12) :: .ref (g 13) :: []))), ((g 2), .inl (cT 0, 900, .inl (a2))), ((g 3), .inl (cT 0, 96, .inl (a3)))] sz)) 0 0 (va_A [(h0, .inr (9, (.int b0 :: .ref (g 0) :: .ref (g 1) :: .ref (g 2) :: .ref (g 3) :: .int b5 :: .int b6 :: .int b7 :: .int b8 :: .int b9 :: .int b10 :: .int b11 :: .int b12 :: .int b13 :: .int b14 :: .ref (g 4) :: .ref (g 5) :: .int b17 :: .int b18 :: .int b19 :: .ref (g 6) :: .ref (g 7) :: .ref (g 8) :: .int b23 :: .int b24 :: .int b25 :: .int b26 :: .int b27 :: .ref (g 9) :: .int b29 :: .ref (g 10) :: .int b31 :: .int b32 :: .int b33 :: .ref (g 11) :: .ref (g 12) :: .ref (g 13) :: []))), ((g 2), .inl (cT 0, 900, .inl (a2))), ((g 3), .inl (cT 0, 96, .inl (a3)))] sz) := by
  refine m_of (y := yX9_readLamp) (cc := cX9_readLamp) (nL := 1) (ret := none) (D := D) (cT := cT) (av := [.ref h0]) (wi := [(h0, .inr (9, (.int b0 :: .ref (g 0) :: .ref (g 1) :: .ref (g 2) :: .ref (g 3) :: .int b5 :: .int b6 :: .int b7 :: .int b8 :: .int b9 :: .int b10 :: .int b11 :: .int b12 :: .int b13 :: .int b14 :: .ref (g 4) :: .ref (g 5) :: .int b17 :: .int b18 :: .int b19 :: .ref (g 6) :: .ref (g 7) :: .ref (g 8) :: .int b23 :: .int b24 :: .int b25 :: .int b26 :: .int b27 :: .ref (g 9) :: .int b29 :: .ref (g 10) :: .int b31 :: .int b32 :: .int b33 :: .ref (g 11) :: .ref (g 12) :: .ref (g 13) :: []))), ((g 2), .inl (cT 0, 900, .inl (a2))), ((g 3), .inl (cT 0, 96, .inl (a3)))]) (fun A => va_Qv (fun (u : Int32 × Int32 × Int32 × Int32 × Int32 × Int32 × (Nat → Int32)) => (PW (u.2.2.2.2.1.toInt) u.2.2.2.2.2.2) ∧ (0 ≤ u.2.1.toInt ∧ u.2.1.toInt ≤ 900) ∧ (b7.toInt ≤ u.2.1.toInt ∧ u.2.1.toInt ≤ b8.toInt) ∧ (Imp (u.2.2.1.toInt = 15) (b7.toInt < u.2.1.toInt ∨ b9.toInt = 15)) ∧ (Imp (u.2.2.2.2.1.toInt = 0) (b11.toInt = 0)) ∧ (True)) (fun u t => RW D A ((fun u : Int32 × Int32 × Int32 × Int32 × Int32 × Int32 × (Nat → Int32) => [(h0, .inr (9, (.int b0 :: .ref (g 0) :: .ref (g 1) :: .ref (g 2) :: .ref (g 3) :: .int b5 :: .int u.1 :: .int u.2.1 :: .int b8 :: .int u.2.2.1 :: .int u.2.2.2.1 :: .int u.2.2.2.2.1 :: .int u.2.2.2.2.2.1 :: .int b13 :: .int b14 :: .ref (g 4) :: .ref (g 5) :: .int b17 :: .int b18 :: .int b19 :: .ref (g 6) :: .ref (g 7) :: .ref (g 8) :: .int b23 :: .int b24 :: .int b25 :: .int b26 :: .int b27 :: .ref (g 9) :: .int b29 :: .ref (g 10) :: .int b31 :: .int b32 :: .int b33 :: .ref (g 11) :: .ref (g 12) :: .ref (g 13) :: []))), ((g 2), .inl (cT 0, 900, .inl (a2))), ((g 3), .inl (cT 0, 96, .inl (u.2.2.2.2.2.2)))]) u) t) A) (by decide) (Nat.le_of_ble_eq_true rfl) ?_
  intro p e s m below meth c A hx hb hml hown htg hK hN hr hlk hnm hsz hP hD hS hA ls hl
  have hown : s.vm.findClass RX9 = some m.cls := hown
  have hl : lv_has ls 1 [(0, .ref h0)] := hl
  have tc_0 : (0 : Int32).toInt = 0 := by decide
  have tc_1 : (1 : Int32).toInt = 1 := by decide
  have tc_2 : (2 : Int32).toInt = 2 := by decide
  have tc_3 : (3 : Int32).toInt = 3 := by decide
  have tc_4 : (4 : Int32).toInt = 4 := by decide
  have tc_5 : (5 : Int32).toInt = 5 := by decide
  have tc_6 : (6 : Int32).toInt = 6 := by decide
  have tc_7 : (7 : Int32).toInt = 7 := by decide
  have tc_8 : (8 : Int32).toInt = 8 := by decide
  have tc_9 : (9 : Int32).toInt = 9 := by decide
  have tc_20 : (20 : Int32).toInt = 20 := by decide
  have tc_30 : (30 : Int32).toInt = 30 := by decide
  refine lv_aload_n hx hb dX9_readLamp_0 rfl (lv_at hl 0 rfl) ?_
  refine va_get (D := D) (ci := 9) (v := .ref (g 3)) (C := RX9) (T := TX9) (N := 37) hx hb htg gRX9 hown hK hP 0 rfl rfl 4 (by decide) (htg _ wi_1154) (fun _ h9 => h9) rfl dX9_readLamp_1 ?_
  refine xk_v (wr := [(h0, .inr (9, (.int b0 :: .ref (g 0) :: .ref (g 1) :: .ref (g 2) :: .ref (g 3) :: .int b5 :: .int b6 :: .int b7 :: .int b8 :: .int b9 :: .int b10 :: .int b11 :: .int b12 :: .int b13 :: .int b14 :: .ref (g 4) :: .ref (g 5) :: .int b17 :: .int b18 :: .int b19 :: .ref (g 6) :: .ref (g 7) :: .ref (g 8) :: .int b23 :: .int b24 :: .int b25 :: .int b26 :: .int b27 :: .ref (g 9) :: .int b29 :: .ref (g 10) :: .int b31 :: .int b32 :: .int b33 :: .ref (g 11) :: .ref (g 12) :: .ref (g 13) :: []))), ((g 2), .inl (cT 0, 900, .inl (a2)))]) (xr_S (n := 1) (As := [.ref (g 3)]) (rest := []) ⟨hx, hb, hml, hown, htg⟩ hK hN hP hD hS hA [2] rfl (by decide) (m_lampIn96 l D cT _ ((g 3)) (a3)) wi_1147 wi_1148 wi_131 wi_1149 ⟨rfl, by decide +kernel⟩ ⟨Nat.le_of_ble_eq_true rfl, Nat.le_of_ble_eq_true rfl⟩ rfl hl.1 rfl (Nat.le_of_ble_eq_true rfl) dX9_readLamp_4 ⟨Nat.le_of_ble_eq_true rfl, Nat.le_of_ble_eq_true rfl⟩) hP hD hS hA [2] [0, 1] rfl rfl (by decide) (by decide) (fun u_1 H locs hwr_2 hP hD hS => ?_)
  have hP : va_P D classes [(h0, .inr (9, (.int b0 :: .ref (g 0) :: .ref (g 1) :: .ref (g 2) :: .ref (g 3) :: .int b5 :: .int b6 :: .int b7 :: .int b8 :: .int b9 :: .int b10 :: .int b11 :: .int b12 :: .int b13 :: .int b14 :: .ref (g 4) :: .ref (g 5) :: .int b17 :: .int b18 :: .int b19 :: .ref (g 6) :: .ref (g 7) :: .ref (g 8) :: .int b23 :: .int b24 :: .int b25 :: .int b26 :: .int b27 :: .ref (g 9) :: .int b29 :: .ref (g 10) :: .int b31 :: .int b32 :: .int b33 :: .ref (g 11) :: .ref (g 12) :: .ref (g 13) :: []))), ((g 2), .inl (cT 0, 900, .inl (a2))), ((g 3), .inl (cT 0, 96, .inl (upd (upd (upd (upd (a3) 2 0) 3 6) 4 6) 5 1)))] _ := hP
  have hD : va_D A [(h0, .inr (9, (.int b0 :: .ref (g 0) :: .ref (g 1) :: .ref (g 2) :: .ref (g 3) :: .int b5 :: .int b6 :: .int b7 :: .int b8 :: .int b9 :: .int b10 :: .int b11 :: .int b12 :: .int b13 :: .int b14 :: .ref (g 4) :: .ref (g 5) :: .int b17 :: .int b18 :: .int b19 :: .ref (g 6) :: .ref (g 7) :: .ref (g 8) :: .int b23 :: .int b24 :: .int b25 :: .int b26 :: .int b27 :: .ref (g 9) :: .int b29 :: .ref (g 10) :: .int b31 :: .int b32 :: .int b33 :: .ref (g 11) :: .ref (g 12) :: .ref (g 13) :: []))), ((g 2), .inl (cT 0, 900, .inl (a2))), ((g 3), .inl (cT 0, 96, .inl (upd (upd (upd (upd (a3) 2 0) 3 6) 4 6) 5 1)))] := hD
  have hpl : PW (b11.toInt) (upd (upd (upd (upd (a3) 2 0) 3 6) 4 6) 5 1) := pw_lamp pw3
  refine lv_aload_n hx hb dX9_readLamp_7 rfl (lv_at hl 0 rfl) ?_
  refine va_get (D := D) (ci := 9) (v := .ref (g 3)) (C := RX9) (T := TX9) (N := 37) hx hb htg gRX9 hown hK hP 0 rfl rfl 4 (by decide) (htg _ wi_1154) (fun _ h9 => h9) rfl dX9_readLamp_8 ?_
  refine lv_iconst (v := 2) hx hb dX9_readLamp_11 (by decide) ?_
  refine lv_aload_n hx hb dX9_readLamp_12 rfl (lv_at hl 0 rfl) ?_
  refine lv_iconst (v := 5) hx hb dX9_readLamp_13 (by decide) ?_
  refine lv_iconst (v := 0) hx hb dX9_readLamp_14 (by decide) ?_
  refine lv_aload_n hx hb dX9_readLamp_15 rfl (lv_at hl 0 rfl) ?_
  refine va_get (D := D) (ci := 9) (v := .ref (g 3)) (C := RX9) (T := TX9) (N := 37) hx hb htg gRX9 hown hK hP 0 rfl rfl 4 (by decide) (htg _ wi_1154) (fun _ h9 => h9) rfl dX9_readLamp_16 ?_
  refine lv_iconst (v := 0) hx hb dX9_readLamp_19 (by decide) ?_
  refine va_iald hx hb hK hP 2 0 rfl rfl (by unfold vp_in; decide) dX9_readLamp_20 ?_
  refine lv_topi (fun z_3 ez_3 => ?_)
  have iz_3 : 0 ≤ z_3.toInt ∧ z_3.toInt ≤ 16 := by rw [ez_3]; exact pw_0 hpl rfl
  have nz_3 : z_3.toInt = ((upd (upd (upd (upd (a3) 2 0) 3 6) 4 6) 5 1) 0).toInt := by rw [ez_3]; rfl
  refine lv_iconst (v := 1) hx hb dX9_readLamp_21 (by decide) ?_
  refine lv_isub hx hb dX9_readLamp_22 ?_
  refine lv_topi (fun z_4 ez_4 => ?_)
  have iz_4 : z_4.toInt = z_3.toInt - 1 := toInt_subI ez_4 (rfl) (by decide) (by omega)
  refine lv_iconst (v := 0) hx hb dX9_readLamp_23 (by decide) ?_
  refine xk_i (wr := [((g 3), .inl (cT 0, 96, .inl (upd (upd (upd (upd (a3) 2 0) 3 6) 4 6) 5 1)))]) (xr_V (n := 4) (As := [.int 5, .int 0, .int z_4, .int 0]) (rest := [.int 2, .ref (g 3)]) ⟨hx, hb, hml, hown, htg⟩ hK hN hP hD hS hA [0, 1] rfl (by decide) (m_takesIf l D cT _ (h0) (g) (b0) (b5) (b6) (b7) (b8) (b9) (b10) (b11) (b12) (b13) (b14) (b17) (b18) (b19) (b23) (b24) (b25) (b26) (b27) (b29) (b31) (b32) (b33) (by first | assumption | omega | decide | exact Or.inl (by decide) | (intro h9; exact absurd h9 (by decide)) | (intro _; omega) | (intro _; assumption) | (intro _; decide)) (a2) (5) (0) (z_4) (0) (by first | assumption | omega | decide | exact Or.inl (by decide) | (intro h9; exact absurd h9 (by decide)) | (intro _; omega) | (intro _; assumption) | (intro _; decide)) (by first | assumption | omega | decide | exact Or.inl (by decide) | (intro h9; exact absurd h9 (by decide)) | (intro _; omega) | (intro _; assumption) | (intro _; decide))) wi_1314 wi_1316 wi_86 wi_131 wi_1317 rfl rfl rfl ⟨rfl, by decide +kernel⟩ ⟨Nat.le_of_ble_eq_true rfl, Nat.le_of_ble_eq_true rfl⟩ rfl hl.1 rfl (Nat.le_of_ble_eq_true rfl) dX9_readLamp_24 ⟨Nat.le_of_ble_eq_true rfl, Nat.le_of_ble_eq_true rfl⟩) hP hD hS hA [0, 1] [2] rfl rfl (by decide) (by decide) (fun r_6 u_5 H locs hwr_6 hP hD hS => ?_)
  have hP : va_P D classes [((g 3), .inl (cT 0, 96, .inl (upd (upd (upd (upd (a3) 2 0) 3 6) 4 6) 5 1))), (h0, .inr (9, (.int b0 :: .ref (g 0) :: .ref (g 1) :: .ref (g 2) :: .ref (g 3) :: .int b5 :: .int u_5.1 :: .int u_5.2.1 :: .int b8 :: .int u_5.2.2.1 :: .int u_5.2.2.2.1 :: .int u_5.2.2.2.2.1 :: .int u_5.2.2.2.2.2 :: .int b13 :: .int b14 :: .ref (g 4) :: .ref (g 5) :: .int b17 :: .int b18 :: .int b19 :: .ref (g 6) :: .ref (g 7) :: .ref (g 8) :: .int b23 :: .int b24 :: .int b25 :: .int b26 :: .int b27 :: .ref (g 9) :: .int b29 :: .ref (g 10) :: .int b31 :: .int b32 :: .int b33 :: .ref (g 11) :: .ref (g 12) :: .ref (g 13) :: []))), ((g 2), .inl (cT 0, 900, .inl (a2)))] _ := hP
  have hD : va_D A [((g 3), .inl (cT 0, 96, .inl (upd (upd (upd (upd (a3) 2 0) 3 6) 4 6) 5 1))), (h0, .inr (9, (.int b0 :: .ref (g 0) :: .ref (g 1) :: .ref (g 2) :: .ref (g 3) :: .int b5 :: .int u_5.1 :: .int u_5.2.1 :: .int b8 :: .int u_5.2.2.1 :: .int u_5.2.2.2.1 :: .int u_5.2.2.2.2.1 :: .int u_5.2.2.2.2.2 :: .int b13 :: .int b14 :: .ref (g 4) :: .ref (g 5) :: .int b17 :: .int b18 :: .int b19 :: .ref (g 6) :: .ref (g 7) :: .ref (g 8) :: .int b23 :: .int b24 :: .int b25 :: .int b26 :: .int b27 :: .ref (g 9) :: .int b29 :: .ref (g 10) :: .int b31 :: .int b32 :: .int b33 :: .ref (g 11) :: .ref (g 12) :: .ref (g 13) :: []))), ((g 2), .inl (cT 0, 900, .inl (a2)))] := hD
  have qr_6_0 : 0 ≤ u_5.2.1.toInt ∧ u_5.2.1.toInt ≤ 900 := hwr_6.1
  have qr_6_1 : b7.toInt ≤ u_5.2.1.toInt ∧ u_5.2.1.toInt ≤ b8.toInt := hwr_6.2.1
  have qr_6_2 : Imp (u_5.2.2.1.toInt = 15) (b7.toInt < u_5.2.1.toInt ∨ b9.toInt = 15) := hwr_6.2.2.1
  have qr_6_3 : Imp (u_5.2.2.2.2.1.toInt = 0) (b11.toInt = 0) := hwr_6.2.2.2.1
  have wqr_6_3 : PW ((u_5.2.2.2.2.1).toInt) (upd (upd (upd (upd (a3) 2 0) 3 6) 4 6) 5 1) := pw_mono hpl qr_6_3
  have qr_6_4 : Imp (u_5.2.2.2.2.1.toInt = 0) ((0 ≤ r_6.toInt ∧ r_6.toInt ≤ z_4.toInt) ∨ r_6.toInt = 0) := by have h7 := hwr_6.2.2.2.2.1; simp only [show ((0 : Int32)).toInt = 0 from by decide] at h7; exact h7
  refine va_iast hx hb hK hP hD hS 0 0 rfl rfl (by unfold vp_in; decide) dX9_readLamp_27 (fun H locs hP hD hS => ?_)
  obtain ⟨f_7, ef_7, hP, hD⟩ : ∃ f_7 : Nat → Int32, f_7 = upd (upd (upd (upd (upd (a3) 2 0) 3 6) 4 6) 5 1) (2 : Int32).toNatClampNeg r_6 ∧ va_P D classes [((g 3), .inl (cT 0, 96, .inl (f_7))), (h0, .inr (9, (.int b0 :: .ref (g 0) :: .ref (g 1) :: .ref (g 2) :: .ref (g 3) :: .int b5 :: .int u_5.1 :: .int u_5.2.1 :: .int b8 :: .int u_5.2.2.1 :: .int u_5.2.2.2.1 :: .int u_5.2.2.2.2.1 :: .int u_5.2.2.2.2.2 :: .int b13 :: .int b14 :: .ref (g 4) :: .ref (g 5) :: .int b17 :: .int b18 :: .int b19 :: .ref (g 6) :: .ref (g 7) :: .ref (g 8) :: .int b23 :: .int b24 :: .int b25 :: .int b26 :: .int b27 :: .ref (g 9) :: .int b29 :: .ref (g 10) :: .int b31 :: .int b32 :: .int b33 :: .ref (g 11) :: .ref (g 12) :: .ref (g 13) :: []))), ((g 2), .inl (cT 0, 900, .inl (a2)))] H ∧ va_D A [((g 3), .inl (cT 0, 96, .inl (f_7))), (h0, .inr (9, (.int b0 :: .ref (g 0) :: .ref (g 1) :: .ref (g 2) :: .ref (g 3) :: .int b5 :: .int u_5.1 :: .int u_5.2.1 :: .int b8 :: .int u_5.2.2.1 :: .int u_5.2.2.2.1 :: .int u_5.2.2.2.2.1 :: .int u_5.2.2.2.2.2 :: .int b13 :: .int b14 :: .ref (g 4) :: .ref (g 5) :: .int b17 :: .int b18 :: .int b19 :: .ref (g 6) :: .ref (g 7) :: .ref (g 8) :: .int b23 :: .int b24 :: .int b25 :: .int b26 :: .int b27 :: .ref (g 9) :: .int b29 :: .ref (g 10) :: .int b31 :: .int b32 :: .int b33 :: .ref (g 11) :: .ref (g 12) :: .ref (g 13) :: []))), ((g 2), .inl (cT 0, 900, .inl (a2)))] := ⟨_, rfl, hP, hD⟩
  have qf_7 : PW ((u_5.2.2.2.2.1).toInt) f_7 := by rw [ef_7]; exact pw_upd (a := 2) (b := r_6.toInt) wqr_6_3 (fun h => h) (by decide) (rfl) (by omega) (by omega) (fun hw => by have kqr_6_3 : b11.toInt = 0 := qr_6_3 hw; have kqr_6_4 : (0 ≤ r_6.toInt ∧ r_6.toInt ≤ z_4.toInt) ∨ r_6.toInt = 0 := qr_6_4 hw; unfold OKP; omega)
  refine lv_aload_n hx hb dX9_readLamp_28 rfl (lv_at hl 0 rfl) ?_
  refine va_get (D := D) (ci := 9) (v := .ref (g 3)) (C := RX9) (T := TX9) (N := 37) hx hb htg gRX9 hown hK hP 1 rfl rfl 4 (by decide) (htg _ wi_1154) (fun _ h9 => h9) rfl dX9_readLamp_29 ?_
  refine lv_iconst (v := 3) hx hb dX9_readLamp_32 (by decide) ?_
  refine lv_aload_n hx hb dX9_readLamp_33 rfl (lv_at hl 0 rfl) ?_
  refine lv_bipush (v := 6) hx hb dX9_readLamp_34 (by decide) ?_
  refine lv_iconst (v := 1) hx hb dX9_readLamp_36 (by decide) ?_
  refine lv_bipush (v := 30) hx hb dX9_readLamp_37 (by decide) ?_
  refine lv_bipush (v := 6) hx hb dX9_readLamp_39 (by decide) ?_
  refine xk_i (wr := [((g 3), .inl (cT 0, 96, .inl (f_7)))]) (xr_V (n := 4) (As := [.int 6, .int 1, .int 30, .int 6]) (rest := [.int 3, .ref (g 3)]) ⟨hx, hb, hml, hown, htg⟩ hK hN hP hD hS hA [1, 2] rfl (by decide) (m_takesIf l D cT _ (h0) (g) (b0) (b5) (u_5.1) (u_5.2.1) (b8) (u_5.2.2.1) (u_5.2.2.2.1) (u_5.2.2.2.2.1) (u_5.2.2.2.2.2) (b13) (b14) (b17) (b18) (b19) (b23) (b24) (b25) (b26) (b27) (b29) (b31) (b32) (b33) (by first | assumption | omega | decide | exact Or.inl (by decide) | (intro h9; exact absurd h9 (by decide)) | (intro _; omega) | (intro _; assumption) | (intro _; decide)) (a2) (6) (1) (30) (6) (by first | assumption | omega | decide | exact Or.inl (by decide) | (intro h9; exact absurd h9 (by decide)) | (intro _; omega) | (intro _; assumption) | (intro _; decide)) (by first | assumption | omega | decide | exact Or.inl (by decide) | (intro h9; exact absurd h9 (by decide)) | (intro _; omega) | (intro _; assumption) | (intro _; decide))) wi_1314 wi_1316 wi_86 wi_131 wi_1317 rfl rfl rfl ⟨rfl, by decide +kernel⟩ ⟨Nat.le_of_ble_eq_true rfl, Nat.le_of_ble_eq_true rfl⟩ rfl hl.1 rfl (Nat.le_of_ble_eq_true rfl) dX9_readLamp_41 ⟨Nat.le_of_ble_eq_true rfl, Nat.le_of_ble_eq_true rfl⟩) hP hD hS hA [1, 2] [0] rfl rfl (by decide) (by decide) (fun r_9 u_8 H locs hwr_9 hP hD hS => ?_)
  have hP : va_P D classes [((g 3), .inl (cT 0, 96, .inl (f_7))), (h0, .inr (9, (.int b0 :: .ref (g 0) :: .ref (g 1) :: .ref (g 2) :: .ref (g 3) :: .int b5 :: .int u_8.1 :: .int u_8.2.1 :: .int b8 :: .int u_8.2.2.1 :: .int u_8.2.2.2.1 :: .int u_8.2.2.2.2.1 :: .int u_8.2.2.2.2.2 :: .int b13 :: .int b14 :: .ref (g 4) :: .ref (g 5) :: .int b17 :: .int b18 :: .int b19 :: .ref (g 6) :: .ref (g 7) :: .ref (g 8) :: .int b23 :: .int b24 :: .int b25 :: .int b26 :: .int b27 :: .ref (g 9) :: .int b29 :: .ref (g 10) :: .int b31 :: .int b32 :: .int b33 :: .ref (g 11) :: .ref (g 12) :: .ref (g 13) :: []))), ((g 2), .inl (cT 0, 900, .inl (a2)))] _ := hP
  have hD : va_D A [((g 3), .inl (cT 0, 96, .inl (f_7))), (h0, .inr (9, (.int b0 :: .ref (g 0) :: .ref (g 1) :: .ref (g 2) :: .ref (g 3) :: .int b5 :: .int u_8.1 :: .int u_8.2.1 :: .int b8 :: .int u_8.2.2.1 :: .int u_8.2.2.2.1 :: .int u_8.2.2.2.2.1 :: .int u_8.2.2.2.2.2 :: .int b13 :: .int b14 :: .ref (g 4) :: .ref (g 5) :: .int b17 :: .int b18 :: .int b19 :: .ref (g 6) :: .ref (g 7) :: .ref (g 8) :: .int b23 :: .int b24 :: .int b25 :: .int b26 :: .int b27 :: .ref (g 9) :: .int b29 :: .ref (g 10) :: .int b31 :: .int b32 :: .int b33 :: .ref (g 11) :: .ref (g 12) :: .ref (g 13) :: []))), ((g 2), .inl (cT 0, 900, .inl (a2)))] := hD
  have qr_9_0 : 0 ≤ u_8.2.1.toInt ∧ u_8.2.1.toInt ≤ 900 := hwr_9.1
  have qr_9_1 : u_5.2.1.toInt ≤ u_8.2.1.toInt ∧ u_8.2.1.toInt ≤ b8.toInt := hwr_9.2.1
  have qr_9_2 : Imp (u_8.2.2.1.toInt = 15) (u_5.2.1.toInt < u_8.2.1.toInt ∨ u_5.2.2.1.toInt = 15) := hwr_9.2.2.1
  have qr_9_3 : Imp (u_8.2.2.2.2.1.toInt = 0) (u_5.2.2.2.2.1.toInt = 0) := hwr_9.2.2.2.1
  have wqr_9_3 : PW ((u_8.2.2.2.2.1).toInt) (f_7) := pw_mono qf_7 qr_9_3
  have qr_9_4 : Imp (u_8.2.2.2.2.1.toInt = 0) ((1 ≤ r_9.toInt ∧ r_9.toInt ≤ 30) ∨ r_9.toInt = 6) := by have h7 := hwr_9.2.2.2.2.1; simp only [show ((1 : Int32)).toInt = 1 from by decide, show ((6 : Int32)).toInt = 6 from by decide, show ((30 : Int32)).toInt = 30 from by decide] at h7; exact h7
  refine va_iast hx hb hK hP hD hS 0 0 rfl rfl (by unfold vp_in; decide) dX9_readLamp_44 (fun H locs hP hD hS => ?_)
  obtain ⟨f_10, ef_10, hP, hD⟩ : ∃ f_10 : Nat → Int32, f_10 = upd (f_7) (3 : Int32).toNatClampNeg r_9 ∧ va_P D classes [((g 3), .inl (cT 0, 96, .inl (f_10))), (h0, .inr (9, (.int b0 :: .ref (g 0) :: .ref (g 1) :: .ref (g 2) :: .ref (g 3) :: .int b5 :: .int u_8.1 :: .int u_8.2.1 :: .int b8 :: .int u_8.2.2.1 :: .int u_8.2.2.2.1 :: .int u_8.2.2.2.2.1 :: .int u_8.2.2.2.2.2 :: .int b13 :: .int b14 :: .ref (g 4) :: .ref (g 5) :: .int b17 :: .int b18 :: .int b19 :: .ref (g 6) :: .ref (g 7) :: .ref (g 8) :: .int b23 :: .int b24 :: .int b25 :: .int b26 :: .int b27 :: .ref (g 9) :: .int b29 :: .ref (g 10) :: .int b31 :: .int b32 :: .int b33 :: .ref (g 11) :: .ref (g 12) :: .ref (g 13) :: []))), ((g 2), .inl (cT 0, 900, .inl (a2)))] H ∧ va_D A [((g 3), .inl (cT 0, 96, .inl (f_10))), (h0, .inr (9, (.int b0 :: .ref (g 0) :: .ref (g 1) :: .ref (g 2) :: .ref (g 3) :: .int b5 :: .int u_8.1 :: .int u_8.2.1 :: .int b8 :: .int u_8.2.2.1 :: .int u_8.2.2.2.1 :: .int u_8.2.2.2.2.1 :: .int u_8.2.2.2.2.2 :: .int b13 :: .int b14 :: .ref (g 4) :: .ref (g 5) :: .int b17 :: .int b18 :: .int b19 :: .ref (g 6) :: .ref (g 7) :: .ref (g 8) :: .int b23 :: .int b24 :: .int b25 :: .int b26 :: .int b27 :: .ref (g 9) :: .int b29 :: .ref (g 10) :: .int b31 :: .int b32 :: .int b33 :: .ref (g 11) :: .ref (g 12) :: .ref (g 13) :: []))), ((g 2), .inl (cT 0, 900, .inl (a2)))] := ⟨_, rfl, hP, hD⟩
  have qf_10 : PW ((u_8.2.2.2.2.1).toInt) f_10 := by rw [ef_10]; exact pw_upd (a := 3) (b := r_9.toInt) wqr_9_3 (fun h => h) (by decide) (rfl) (by omega) (by omega) (fun hw => by unfold OKP; omega)
  refine lv_aload_n hx hb dX9_readLamp_45 rfl (lv_at hl 0 rfl) ?_
  refine va_get (D := D) (ci := 9) (v := .ref (g 3)) (C := RX9) (T := TX9) (N := 37) hx hb htg gRX9 hown hK hP 1 rfl rfl 4 (by decide) (htg _ wi_1154) (fun _ h9 => h9) rfl dX9_readLamp_46 ?_
  refine lv_iconst (v := 4) hx hb dX9_readLamp_49 (by decide) ?_
  refine lv_aload_n hx hb dX9_readLamp_50 rfl (lv_at hl 0 rfl) ?_
  refine lv_bipush (v := 7) hx hb dX9_readLamp_51 (by decide) ?_
  refine lv_iconst (v := 0) hx hb dX9_readLamp_53 (by decide) ?_
  refine lv_bipush (v := 20) hx hb dX9_readLamp_54 (by decide) ?_
  refine lv_bipush (v := 6) hx hb dX9_readLamp_56 (by decide) ?_
  refine xk_i (wr := [((g 3), .inl (cT 0, 96, .inl (f_10)))]) (xr_V (n := 4) (As := [.int 7, .int 0, .int 20, .int 6]) (rest := [.int 4, .ref (g 3)]) ⟨hx, hb, hml, hown, htg⟩ hK hN hP hD hS hA [1, 2] rfl (by decide) (m_takesIf l D cT _ (h0) (g) (b0) (b5) (u_8.1) (u_8.2.1) (b8) (u_8.2.2.1) (u_8.2.2.2.1) (u_8.2.2.2.2.1) (u_8.2.2.2.2.2) (b13) (b14) (b17) (b18) (b19) (b23) (b24) (b25) (b26) (b27) (b29) (b31) (b32) (b33) (by first | assumption | omega | decide | exact Or.inl (by decide) | (intro h9; exact absurd h9 (by decide)) | (intro _; omega) | (intro _; assumption) | (intro _; decide)) (a2) (7) (0) (20) (6) (by first | assumption | omega | decide | exact Or.inl (by decide) | (intro h9; exact absurd h9 (by decide)) | (intro _; omega) | (intro _; assumption) | (intro _; decide)) (by first | assumption | omega | decide | exact Or.inl (by decide) | (intro h9; exact absurd h9 (by decide)) | (intro _; omega) | (intro _; assumption) | (intro _; decide))) wi_1314 wi_1316 wi_86 wi_131 wi_1317 rfl rfl rfl ⟨rfl, by decide +kernel⟩ ⟨Nat.le_of_ble_eq_true rfl, Nat.le_of_ble_eq_true rfl⟩ rfl hl.1 rfl (Nat.le_of_ble_eq_true rfl) dX9_readLamp_58 ⟨Nat.le_of_ble_eq_true rfl, Nat.le_of_ble_eq_true rfl⟩) hP hD hS hA [1, 2] [0] rfl rfl (by decide) (by decide) (fun r_12 u_11 H locs hwr_12 hP hD hS => ?_)
  have hP : va_P D classes [((g 3), .inl (cT 0, 96, .inl (f_10))), (h0, .inr (9, (.int b0 :: .ref (g 0) :: .ref (g 1) :: .ref (g 2) :: .ref (g 3) :: .int b5 :: .int u_11.1 :: .int u_11.2.1 :: .int b8 :: .int u_11.2.2.1 :: .int u_11.2.2.2.1 :: .int u_11.2.2.2.2.1 :: .int u_11.2.2.2.2.2 :: .int b13 :: .int b14 :: .ref (g 4) :: .ref (g 5) :: .int b17 :: .int b18 :: .int b19 :: .ref (g 6) :: .ref (g 7) :: .ref (g 8) :: .int b23 :: .int b24 :: .int b25 :: .int b26 :: .int b27 :: .ref (g 9) :: .int b29 :: .ref (g 10) :: .int b31 :: .int b32 :: .int b33 :: .ref (g 11) :: .ref (g 12) :: .ref (g 13) :: []))), ((g 2), .inl (cT 0, 900, .inl (a2)))] _ := hP
  have hD : va_D A [((g 3), .inl (cT 0, 96, .inl (f_10))), (h0, .inr (9, (.int b0 :: .ref (g 0) :: .ref (g 1) :: .ref (g 2) :: .ref (g 3) :: .int b5 :: .int u_11.1 :: .int u_11.2.1 :: .int b8 :: .int u_11.2.2.1 :: .int u_11.2.2.2.1 :: .int u_11.2.2.2.2.1 :: .int u_11.2.2.2.2.2 :: .int b13 :: .int b14 :: .ref (g 4) :: .ref (g 5) :: .int b17 :: .int b18 :: .int b19 :: .ref (g 6) :: .ref (g 7) :: .ref (g 8) :: .int b23 :: .int b24 :: .int b25 :: .int b26 :: .int b27 :: .ref (g 9) :: .int b29 :: .ref (g 10) :: .int b31 :: .int b32 :: .int b33 :: .ref (g 11) :: .ref (g 12) :: .ref (g 13) :: []))), ((g 2), .inl (cT 0, 900, .inl (a2)))] := hD
  have qr_12_0 : 0 ≤ u_11.2.1.toInt ∧ u_11.2.1.toInt ≤ 900 := hwr_12.1
  have qr_12_1 : u_8.2.1.toInt ≤ u_11.2.1.toInt ∧ u_11.2.1.toInt ≤ b8.toInt := hwr_12.2.1
  have qr_12_2 : Imp (u_11.2.2.1.toInt = 15) (u_8.2.1.toInt < u_11.2.1.toInt ∨ u_8.2.2.1.toInt = 15) := hwr_12.2.2.1
  have qr_12_3 : Imp (u_11.2.2.2.2.1.toInt = 0) (u_8.2.2.2.2.1.toInt = 0) := hwr_12.2.2.2.1
  have wqr_12_3 : PW ((u_11.2.2.2.2.1).toInt) (f_10) := pw_mono qf_10 qr_12_3
  have qr_12_4 : Imp (u_11.2.2.2.2.1.toInt = 0) ((0 ≤ r_12.toInt ∧ r_12.toInt ≤ 20) ∨ r_12.toInt = 6) := by have h7 := hwr_12.2.2.2.2.1; simp only [show ((0 : Int32)).toInt = 0 from by decide, show ((6 : Int32)).toInt = 6 from by decide, show ((20 : Int32)).toInt = 20 from by decide] at h7; exact h7
  refine va_iast hx hb hK hP hD hS 0 0 rfl rfl (by unfold vp_in; decide) dX9_readLamp_61 (fun H locs hP hD hS => ?_)
  obtain ⟨f_13, ef_13, hP, hD⟩ : ∃ f_13 : Nat → Int32, f_13 = upd (f_10) (4 : Int32).toNatClampNeg r_12 ∧ va_P D classes [((g 3), .inl (cT 0, 96, .inl (f_13))), (h0, .inr (9, (.int b0 :: .ref (g 0) :: .ref (g 1) :: .ref (g 2) :: .ref (g 3) :: .int b5 :: .int u_11.1 :: .int u_11.2.1 :: .int b8 :: .int u_11.2.2.1 :: .int u_11.2.2.2.1 :: .int u_11.2.2.2.2.1 :: .int u_11.2.2.2.2.2 :: .int b13 :: .int b14 :: .ref (g 4) :: .ref (g 5) :: .int b17 :: .int b18 :: .int b19 :: .ref (g 6) :: .ref (g 7) :: .ref (g 8) :: .int b23 :: .int b24 :: .int b25 :: .int b26 :: .int b27 :: .ref (g 9) :: .int b29 :: .ref (g 10) :: .int b31 :: .int b32 :: .int b33 :: .ref (g 11) :: .ref (g 12) :: .ref (g 13) :: []))), ((g 2), .inl (cT 0, 900, .inl (a2)))] H ∧ va_D A [((g 3), .inl (cT 0, 96, .inl (f_13))), (h0, .inr (9, (.int b0 :: .ref (g 0) :: .ref (g 1) :: .ref (g 2) :: .ref (g 3) :: .int b5 :: .int u_11.1 :: .int u_11.2.1 :: .int b8 :: .int u_11.2.2.1 :: .int u_11.2.2.2.1 :: .int u_11.2.2.2.2.1 :: .int u_11.2.2.2.2.2 :: .int b13 :: .int b14 :: .ref (g 4) :: .ref (g 5) :: .int b17 :: .int b18 :: .int b19 :: .ref (g 6) :: .ref (g 7) :: .ref (g 8) :: .int b23 :: .int b24 :: .int b25 :: .int b26 :: .int b27 :: .ref (g 9) :: .int b29 :: .ref (g 10) :: .int b31 :: .int b32 :: .int b33 :: .ref (g 11) :: .ref (g 12) :: .ref (g 13) :: []))), ((g 2), .inl (cT 0, 900, .inl (a2)))] := ⟨_, rfl, hP, hD⟩
  have qf_13 : PW ((u_11.2.2.2.2.1).toInt) f_13 := by rw [ef_13]; exact pw_upd (a := 4) (b := r_12.toInt) wqr_12_3 (fun h => h) (by decide) (rfl) (by omega) (by omega) (fun hw => by unfold OKP; omega)
  refine lv_aload_n hx hb dX9_readLamp_62 rfl (lv_at hl 0 rfl) ?_
  refine va_get (D := D) (ci := 9) (v := .ref (g 3)) (C := RX9) (T := TX9) (N := 37) hx hb htg gRX9 hown hK hP 1 rfl rfl 4 (by decide) (htg _ wi_1154) (fun _ h9 => h9) rfl dX9_readLamp_63 ?_
  refine lv_iconst (v := 5) hx hb dX9_readLamp_66 (by decide) ?_
  refine lv_aload_n hx hb dX9_readLamp_67 rfl (lv_at hl 0 rfl) ?_
  refine lv_bipush (v := 8) hx hb dX9_readLamp_68 (by decide) ?_
  refine lv_iconst (v := 0) hx hb dX9_readLamp_70 (by decide) ?_
  refine lv_bipush (v := 9) hx hb dX9_readLamp_71 (by decide) ?_
  refine lv_iconst (v := 1) hx hb dX9_readLamp_73 (by decide) ?_
  refine xk_i (wr := [((g 3), .inl (cT 0, 96, .inl (f_13)))]) (xr_V (n := 4) (As := [.int 8, .int 0, .int 9, .int 1]) (rest := [.int 5, .ref (g 3)]) ⟨hx, hb, hml, hown, htg⟩ hK hN hP hD hS hA [1, 2] rfl (by decide) (m_takesIf l D cT _ (h0) (g) (b0) (b5) (u_11.1) (u_11.2.1) (b8) (u_11.2.2.1) (u_11.2.2.2.1) (u_11.2.2.2.2.1) (u_11.2.2.2.2.2) (b13) (b14) (b17) (b18) (b19) (b23) (b24) (b25) (b26) (b27) (b29) (b31) (b32) (b33) (by first | assumption | omega | decide | exact Or.inl (by decide) | (intro h9; exact absurd h9 (by decide)) | (intro _; omega) | (intro _; assumption) | (intro _; decide)) (a2) (8) (0) (9) (1) (by first | assumption | omega | decide | exact Or.inl (by decide) | (intro h9; exact absurd h9 (by decide)) | (intro _; omega) | (intro _; assumption) | (intro _; decide)) (by first | assumption | omega | decide | exact Or.inl (by decide) | (intro h9; exact absurd h9 (by decide)) | (intro _; omega) | (intro _; assumption) | (intro _; decide))) wi_1314 wi_1316 wi_86 wi_131 wi_1317 rfl rfl rfl ⟨rfl, by decide +kernel⟩ ⟨Nat.le_of_ble_eq_true rfl, Nat.le_of_ble_eq_true rfl⟩ rfl hl.1 rfl (Nat.le_of_ble_eq_true rfl) dX9_readLamp_74 ⟨Nat.le_of_ble_eq_true rfl, Nat.le_of_ble_eq_true rfl⟩) hP hD hS hA [1, 2] [0] rfl rfl (by decide) (by decide) (fun r_15 u_14 H locs hwr_15 hP hD hS => ?_)
  have hP : va_P D classes [((g 3), .inl (cT 0, 96, .inl (f_13))), (h0, .inr (9, (.int b0 :: .ref (g 0) :: .ref (g 1) :: .ref (g 2) :: .ref (g 3) :: .int b5 :: .int u_14.1 :: .int u_14.2.1 :: .int b8 :: .int u_14.2.2.1 :: .int u_14.2.2.2.1 :: .int u_14.2.2.2.2.1 :: .int u_14.2.2.2.2.2 :: .int b13 :: .int b14 :: .ref (g 4) :: .ref (g 5) :: .int b17 :: .int b18 :: .int b19 :: .ref (g 6) :: .ref (g 7) :: .ref (g 8) :: .int b23 :: .int b24 :: .int b25 :: .int b26 :: .int b27 :: .ref (g 9) :: .int b29 :: .ref (g 10) :: .int b31 :: .int b32 :: .int b33 :: .ref (g 11) :: .ref (g 12) :: .ref (g 13) :: []))), ((g 2), .inl (cT 0, 900, .inl (a2)))] _ := hP
  have hD : va_D A [((g 3), .inl (cT 0, 96, .inl (f_13))), (h0, .inr (9, (.int b0 :: .ref (g 0) :: .ref (g 1) :: .ref (g 2) :: .ref (g 3) :: .int b5 :: .int u_14.1 :: .int u_14.2.1 :: .int b8 :: .int u_14.2.2.1 :: .int u_14.2.2.2.1 :: .int u_14.2.2.2.2.1 :: .int u_14.2.2.2.2.2 :: .int b13 :: .int b14 :: .ref (g 4) :: .ref (g 5) :: .int b17 :: .int b18 :: .int b19 :: .ref (g 6) :: .ref (g 7) :: .ref (g 8) :: .int b23 :: .int b24 :: .int b25 :: .int b26 :: .int b27 :: .ref (g 9) :: .int b29 :: .ref (g 10) :: .int b31 :: .int b32 :: .int b33 :: .ref (g 11) :: .ref (g 12) :: .ref (g 13) :: []))), ((g 2), .inl (cT 0, 900, .inl (a2)))] := hD
  have qr_15_0 : 0 ≤ u_14.2.1.toInt ∧ u_14.2.1.toInt ≤ 900 := hwr_15.1
  have qr_15_1 : u_11.2.1.toInt ≤ u_14.2.1.toInt ∧ u_14.2.1.toInt ≤ b8.toInt := hwr_15.2.1
  have qr_15_2 : Imp (u_14.2.2.1.toInt = 15) (u_11.2.1.toInt < u_14.2.1.toInt ∨ u_11.2.2.1.toInt = 15) := hwr_15.2.2.1
  have qr_15_3 : Imp (u_14.2.2.2.2.1.toInt = 0) (u_11.2.2.2.2.1.toInt = 0) := hwr_15.2.2.2.1
  have wqr_15_3 : PW ((u_14.2.2.2.2.1).toInt) (f_13) := pw_mono qf_13 qr_15_3
  have qr_15_4 : Imp (u_14.2.2.2.2.1.toInt = 0) ((0 ≤ r_15.toInt ∧ r_15.toInt ≤ 9) ∨ r_15.toInt = 1) := by have h7 := hwr_15.2.2.2.2.1; simp only [show ((0 : Int32)).toInt = 0 from by decide, show ((1 : Int32)).toInt = 1 from by decide, show ((9 : Int32)).toInt = 9 from by decide] at h7; exact h7
  refine va_iast hx hb hK hP hD hS 0 0 rfl rfl (by unfold vp_in; decide) dX9_readLamp_77 (fun H locs hP hD hS => ?_)
  obtain ⟨f_16, ef_16, hP, hD⟩ : ∃ f_16 : Nat → Int32, f_16 = upd (f_13) (5 : Int32).toNatClampNeg r_15 ∧ va_P D classes [((g 3), .inl (cT 0, 96, .inl (f_16))), (h0, .inr (9, (.int b0 :: .ref (g 0) :: .ref (g 1) :: .ref (g 2) :: .ref (g 3) :: .int b5 :: .int u_14.1 :: .int u_14.2.1 :: .int b8 :: .int u_14.2.2.1 :: .int u_14.2.2.2.1 :: .int u_14.2.2.2.2.1 :: .int u_14.2.2.2.2.2 :: .int b13 :: .int b14 :: .ref (g 4) :: .ref (g 5) :: .int b17 :: .int b18 :: .int b19 :: .ref (g 6) :: .ref (g 7) :: .ref (g 8) :: .int b23 :: .int b24 :: .int b25 :: .int b26 :: .int b27 :: .ref (g 9) :: .int b29 :: .ref (g 10) :: .int b31 :: .int b32 :: .int b33 :: .ref (g 11) :: .ref (g 12) :: .ref (g 13) :: []))), ((g 2), .inl (cT 0, 900, .inl (a2)))] H ∧ va_D A [((g 3), .inl (cT 0, 96, .inl (f_16))), (h0, .inr (9, (.int b0 :: .ref (g 0) :: .ref (g 1) :: .ref (g 2) :: .ref (g 3) :: .int b5 :: .int u_14.1 :: .int u_14.2.1 :: .int b8 :: .int u_14.2.2.1 :: .int u_14.2.2.2.1 :: .int u_14.2.2.2.2.1 :: .int u_14.2.2.2.2.2 :: .int b13 :: .int b14 :: .ref (g 4) :: .ref (g 5) :: .int b17 :: .int b18 :: .int b19 :: .ref (g 6) :: .ref (g 7) :: .ref (g 8) :: .int b23 :: .int b24 :: .int b25 :: .int b26 :: .int b27 :: .ref (g 9) :: .int b29 :: .ref (g 10) :: .int b31 :: .int b32 :: .int b33 :: .ref (g 11) :: .ref (g 12) :: .ref (g 13) :: []))), ((g 2), .inl (cT 0, 900, .inl (a2)))] := ⟨_, rfl, hP, hD⟩
  have qf_16 : PW ((u_14.2.2.2.2.1).toInt) f_16 := by rw [ef_16]; exact pw_upd (a := 5) (b := r_15.toInt) wqr_15_3 (fun h => h) (by decide) (rfl) (by omega) (by omega) (fun hw => by unfold OKP; omega)
  exact x_vret hx hb hr hlk hP hD hS [1, 2, 0] ((u_14.1, u_14.2.1, u_14.2.2.1, u_14.2.2.2.1, u_14.2.2.2.2.1, u_14.2.2.2.2.2, f_16)) rfl (by decide) ⟨by (try dsimp only); first | assumption | omega | decide | exact Or.inl (by decide) | (intro h9; exact absurd h9 (by decide)) | (intro _; omega) | (intro _; assumption) | (intro _; decide), by (try dsimp only); first | assumption | omega | decide | exact Or.inl (by decide) | (intro h9; exact absurd h9 (by decide)) | (intro _; omega) | (intro _; assumption) | (intro _; decide), by (try dsimp only); first | assumption | omega | decide | exact Or.inl (by decide) | (intro h9; exact absurd h9 (by decide)) | (intro _; omega) | (intro _; assumption) | (intro _; decide), fun h9 => by (try dsimp only at h9 ⊢); have kqr_15_2 : u_11.2.1.toInt < u_14.2.1.toInt ∨ u_11.2.2.1.toInt = 15 := qr_15_2 h9; have kqr_12_2 : u_11.2.2.1.toInt = 15 → (u_8.2.1.toInt < u_11.2.1.toInt ∨ u_8.2.2.1.toInt = 15) := qr_12_2; have kqr_9_2 : u_8.2.2.1.toInt = 15 → (u_5.2.1.toInt < u_8.2.1.toInt ∨ u_5.2.2.1.toInt = 15) := qr_9_2; have kqr_6_2 : u_5.2.2.1.toInt = 15 → (b7.toInt < u_5.2.1.toInt ∨ b9.toInt = 15) := qr_6_2; first | omega | exact absurd h9 (by decide) | decide | assumption, fun h9 => by (try dsimp only at h9 ⊢); have kqr_15_3 : u_11.2.2.2.2.1.toInt = 0 := qr_15_3 h9; have kqr_15_4 : (0 ≤ r_15.toInt ∧ r_15.toInt ≤ 9) ∨ r_15.toInt = 1 := qr_15_4 h9; have kqr_12_3 : u_8.2.2.2.2.1.toInt = 0 := qr_12_3 kqr_15_3; have kqr_12_4 : (0 ≤ r_12.toInt ∧ r_12.toInt ≤ 20) ∨ r_12.toInt = 6 := qr_12_4 kqr_15_3; have kqr_9_3 : u_5.2.2.2.2.1.toInt = 0 := qr_9_3 kqr_12_3; have kqr_9_4 : (1 ≤ r_9.toInt ∧ r_9.toInt ≤ 30) ∨ r_9.toInt = 6 := qr_9_4 kqr_12_3; have kqr_6_3 : b11.toInt = 0 := qr_6_3 kqr_9_3; have kqr_6_4 : (0 ≤ r_6.toInt ∧ r_6.toInt ≤ z_4.toInt) ∨ r_6.toInt = 0 := qr_6_4 kqr_9_3; first | omega | exact absurd h9 (by decide) | decide | assumption, trivial⟩ (by decide) (by decide) dX9_readLamp_78
