set_option maxHeartbeats 4000000 in
set_option maxRecDepth 100000 in
theorem m_plainIn96R (l : Launch) (D : va_G) (cT : Nat → ClassId) (sz : Nat) (b : Nat) (f : Nat → Int32) : Met l yX9_plainIn (wsc yX9_plainIn cX9_plainIn 2 none) { frames := 3, cells := 0, slots := 0, locals := 120 } (va_Pc [.ref b] (PX D cT sz [(sw_in cT b 96 f)])) (va_Qv (fun (u : (Nat → Int32)) => (PI 96 u) ∧ (PLm plain0 u) ∧ (True)) (fun u t => RW D (va_A [(sw_in cT b 96 f)] sz) ((fun u : (Nat → Int32) => [(sw_in cT b 96 u)]) u) t) (va_A [(sw_in cT b 96 f)] sz)) 0 0 (va_A [(sw_in cT b 96 f)] sz) := by
  refine m_of (y := yX9_plainIn) (cc := cX9_plainIn) (nL := 2) (ret := none) (D := D) (cT := cT) (av := [.ref b]) (wi := [(sw_in cT b 96 f)]) (fun A => va_Qv (fun (u : (Nat → Int32)) => (PI 96 u) ∧ (PLm plain0 u) ∧ (True)) (fun u t => RW D A ((fun u : (Nat → Int32) => [(sw_in cT b 96 u)]) u) t) A) (by decide) (Nat.le_of_ble_eq_true rfl) ?_
  intro p e s m below meth c A hx hb hml hown htg hK hN hr hlk hnm hsz hP hD hS hA ls hl
  have hown : s.vm.findClass RX9 = some m.cls := hown
  have hl : lv_has ls 2 [(0, .ref b)] := hl
  have tc_0 : (0 : Int32).toInt = 0 := by decide
  have tc_1 : (1 : Int32).toInt = 1 := by decide
  have tc_6 : (6 : Int32).toInt = 6 := by decide
  have tc_10 : (10 : Int32).toInt = 10 := by decide
  have tc_60 : (60 : Int32).toInt = 60 := by decide
  have tc_96 : (96 : Int32).toInt = 96 := by decide
  obtain ⟨hP, hD⟩ : PD D A [(sw_in cT b 96 (fillF (f) 0 (0)))] _ := ⟨hP, hD⟩
  refine lv_iconst (v := 0) hx hb dX9_plainIn_0 (by decide) ?_
  refine lv_istore_n (lv' := [(1, .int 0), (0, .ref b)]) hx hb dX9_plainIn_1 rfl hl (by decide) rfl (fun ls hl => ?_)
  refine (fun (key : ∀ (n9_2 : Nat) (k9_2 : Nat)  (H : Heap) (locs : List Loc) (ls : Array Slot), (k9_2 : Int) ≤ 96 → 96 < (k9_2 : Int) + n9_2 → PD D A [(sw_in cT b 96 (fillF (f) k9_2 (0)))] H → va_S A s.heap H locs → lv_has ls 2 [(1, .int (nI k9_2)), (0, .ref b)] → W p l e _ s m _ below meth c H locs _ _ _ (F0 m 2 ls [])) => key (Int.toNat (96 - 0) + 1) 0  _ _ _ (by omega) (by omega)  ⟨hP, hD⟩ hS (lv_sub hl [0, 1] rfl)) ?_
  intro n9_2
  induction n9_2 with
  | zero => intro k9_2  H locs ls hq1 hq2; exact absurd hq2 (by omega)
  | succ n9_2 ih_2 =>
    intro k9_2  H locs ls hq1_2 hq2_2  hPD hS hl
    obtain ⟨hP, hD⟩ := hPD
    have hk9_2 : (nI k9_2).toInt = (k9_2 : Int) := nI_toInt (by omega)
    refine lv_iload_n hx hb dX9_plainIn_2 rfl (lv_at hl 0 rfl) ?_
    refine lv_bipush (v := 96) hx hb dX9_plainIn_3 (by decide) ?_
    refine lv_icmp_ge (tgt := 18) hx hb dX9_plainIn_5 (by decide) (fun c_1 => ?_) (fun c_1 => ?_)
    · have ic_1 : 96 ≤ ((k9_2 : Nat) : Int) := ile c_1 (by decide) (nI_toInt (by omega))
      have e8 : k9_2 = 96 := by omega
      subst e8
      have hpi : PI 96 (fillF (f) 96 (0)) := pi_fill
      have hm0 : PLm (fun _ => 0) (fillF (f) 96 (0)) := PLm_f
      refine lv_aload_n hx hb dX9_plainIn_18 rfl (lv_at hl 1 rfl) ?_
      refine xk_v (wr := []) (xr_S (n := 1) (As := [.ref b]) (rest := []) ⟨hx, hb, hml, hown, htg⟩ hK hN hP hD hS hA [0] rfl (by decide) (m_lampIn96 l D cT _ (b) (fillF (f) 96 (0))) wi_1147 wi_1148 wi_131 wi_1149 ⟨rfl, by decide +kernel⟩ ⟨Nat.le_of_ble_eq_true rfl, Nat.le_of_ble_eq_true rfl⟩ rfl hl.1 rfl (Nat.le_of_ble_eq_true rfl) dX9_plainIn_19 ⟨Nat.le_of_ble_eq_true rfl, Nat.le_of_ble_eq_true rfl⟩) hP hD hS hA [0] [] rfl rfl (by decide) (by decide) (fun u_2 H locs hwr_3 hP hD hS => ?_)
      obtain ⟨hP, hD⟩ : PD D A [(sw_in cT b 96 (upd (upd (upd (upd ((fillF (f) 96 (0))) 2 0) 3 6) 4 6) 5 1))] _ := ⟨hP, hD⟩
      have hpl : PI 96 (upd (upd (upd (upd ((fillF (f) 96 (0))) 2 0) 3 6) 4 6) 5 1) := pi_lamp hpi
      have hm1 := PLm_lamp0 hm0
      refine lv_aload_n hx hb dX9_plainIn_22 rfl (lv_at hl 1 rfl) ?_
      refine lv_bipush (v := 6) hx hb dX9_plainIn_23 (by decide) ?_
      refine lv_bipush (v := 60) hx hb dX9_plainIn_25 (by decide) ?_
      refine va_iast hx hb hK hP hD hS 0 0 rfl rfl (by unfold vp_in; decide) dX9_plainIn_27 (fun H locs hP hD hS => ?_)
      obtain ⟨f_4, ef_4, hP, hD⟩ : ∃ f_4 : Nat → Int32, f_4 = upd (upd (upd (upd (upd ((fillF (f) 96 (0))) 2 0) 3 6) 4 6) 5 1) (6 : Int32).toNatClampNeg 60 ∧ PD D A [(sw_in cT b 96 f_4)] H := ⟨_, rfl, hP, hD⟩
      have qf_4 : PI 96 f_4 := by rw [ef_4]; exact pi_upd (a := 6) (b := 60) hpl (by decide) (by decide) (by omega) (by unfold OKP; omega)
      have hm2 : PLm (plainK 0) f_4 := PLm_ex (PLm_upd (k := 6) hm1 ef_4 (by decide) (by decide) (by decide)) plK_0
      refine lv_iconst (v := 0) hx hb dX9_plainIn_28 (by decide) ?_
      refine lv_istore_n (lv' := [(1, .int 0), (0, .ref b)]) hx hb dX9_plainIn_29 rfl hl (by decide) rfl (fun ls hl => ?_)
      refine (fun (key : ∀ (n9_30 : Nat) (k9_30 : Nat) (f9_30_0 : Nat → Int32) (H : Heap) (locs : List Loc) (ls : Array Slot), (k9_30 : Int) ≤ 6 → 6 < (k9_30 : Int) + n9_30 → PLm (plainK k9_30) f9_30_0 → PI 96 f9_30_0 → PD D A [(sw_in cT b 96 f9_30_0)] H → va_S A s.heap H locs → lv_has ls 2 [(1, .int (nI k9_30)), (0, .ref b)] → W p l e _ s m _ below meth c H locs _ _ _ (F0 m 30 ls [])) => key (Int.toNat (6 - 0) + 1) 0 _ _ _ _ (by omega) (by omega) (by first | assumption | omega | decide | (simp only [ti_0, ti_1, ti_2, ti_3, ti_4, ti_5, ti_6, ti_7, ti_8, ti_9, ti_10, ti_11, ti_12, ti_m1]; omega)) (by first | assumption | omega | decide | (simp only [ti_0, ti_1, ti_2, ti_3, ti_4, ti_5, ti_6, ti_7, ti_8, ti_9, ti_10, ti_11, ti_12, ti_m1]; omega)) ⟨hP, hD⟩ hS (lv_sub hl [0, 1] rfl)) ?_
      intro n9_30
      induction n9_30 with
      | zero => intro k9_30 f9_30_0 H locs ls hq1 hq2; exact absurd hq2 (by omega)
      | succ n9_30 ih_30 =>
        intro k9_30 f9_30_0 H locs ls hq1_30 hq2_30 h9_30_0 h9_30_1 hPD hS hl
        obtain ⟨hP, hD⟩ := hPD
        have hk9_30 : (nI k9_30).toInt = (k9_30 : Int) := nI_toInt (by omega)
        refine lv_iload_n hx hb dX9_plainIn_30 rfl (lv_at hl 0 rfl) ?_
        refine lv_bipush (v := 6) hx hb dX9_plainIn_31 (by decide) ?_
        refine lv_icmp_ge (tgt := 49) hx hb dX9_plainIn_33 (by decide) (fun c_5 => ?_) (fun c_5 => ?_)
        · have ic_5 : 6 ≤ ((k9_30 : Nat) : Int) := ile c_5 (by decide) (nI_toInt (by omega))
          have e6 : k9_30 = 6 := by omega
          have hm4 : PLm plain0 f9_30_0 := PLm_ex h9_30_0 (fun k => by rw [e6]; exact plK_6 k)
          exact x_vret hx hb hr hlk hP hD hS [0] ((f9_30_0)) rfl (by decide) ⟨by (try dsimp only); first | assumption | omega | decide | exact Or.inl (by decide) | (intro h9; exact absurd h9 (by decide)) | (intro _; omega) | (intro _; assumption) | (intro _; decide), by (try dsimp only); first | assumption | omega | decide | exact Or.inl (by decide) | (intro h9; exact absurd h9 (by decide)) | (intro _; omega) | (intro _; assumption) | (intro _; decide), trivial⟩ (by decide) (by decide) dX9_plainIn_49
        · have ic_5 : ((k9_30 : Nat) : Int) < 6 := inle c_5 (by decide) (nI_toInt (by omega))
          refine lv_aload_n hx hb dX9_plainIn_36 rfl (lv_at hl 1 rfl) ?_
          refine lv_bipush (v := 10) hx hb dX9_plainIn_37 (by decide) ?_
          refine lv_iload_n hx hb dX9_plainIn_39 rfl (lv_at hl 0 rfl) ?_
          refine lv_iadd hx hb dX9_plainIn_40 ?_
          refine lv_is (y := nI (10 + k9_30)) (nI_add 10 (k9_30)) ?_
          refine lv_iconst (v := 1) hx hb dX9_plainIn_41 (by decide) ?_
          refine va_iast hx hb hK hP hD hS 0 0 rfl rfl (vp_in_nI (by omega) (by omega)) dX9_plainIn_42 (fun H locs hP hD hS => ?_)
          obtain ⟨f_6, ef_6, hP, hD⟩ : ∃ f_6 : Nat → Int32, f_6 = upd (f9_30_0) ((nI (10 + k9_30)) : Int32).toNatClampNeg 1 ∧ PD D A [(sw_in cT b 96 f_6)] H := ⟨_, rfl, hP, hD⟩
          have qf_6 : PI 96 f_6 := by rw [ef_6]; exact pi_upd (a := ((10 + k9_30 : Nat) : Int)) (b := 1) h9_30_1 (nI_toInt (by omega)) (by decide) (by omega) (by unfold OKP; omega)
          refine lv_iinc (v := (nI (k9_30 + 1))) (lv' := [(1, .int (nI (k9_30 + 1))), (0, .ref b)]) hx hb dX9_plainIn_43 hl (k := 0) rfl (by exact nI_1 (k9_30)) (by decide) rfl (fun ls hl => ?_)
          refine lv_goto (tgt := 30) hx hb dX9_plainIn_46 (by decide) ?_
          have hm3 : PLm (plainK (k9_30 + 1)) f_6 := PLm_ex (PLm_upd (k := 10 + k9_30) h9_30_0 ef_6 (nI_toInt (by omega)) (by decide) (by omega)) (plK_s k9_30)
          exact ih_30 (k9_30 + 1) _ _ _ _ (by omega) (by omega) (by first | assumption | omega | decide | (simp only [ti_0, ti_1, ti_2, ti_3, ti_4, ti_5, ti_6, ti_7, ti_8, ti_9, ti_10, ti_11, ti_12, ti_m1]; omega)) (by first | assumption | omega | decide | (simp only [ti_0, ti_1, ti_2, ti_3, ti_4, ti_5, ti_6, ti_7, ti_8, ti_9, ti_10, ti_11, ti_12, ti_m1]; omega)) ⟨hP.sub [0] rfl, hD.sub [0] (by decide) rfl⟩ hS (lv_sub hl [0, 1] rfl)
    · have ic_1 : ((k9_2 : Nat) : Int) < 96 := inle c_1 (by decide) (nI_toInt (by omega))
      refine lv_aload_n hx hb dX9_plainIn_8 rfl (lv_at hl 1 rfl) ?_
      refine lv_iload_n hx hb dX9_plainIn_9 rfl (lv_at hl 0 rfl) ?_
      refine lv_iconst (v := 0) hx hb dX9_plainIn_10 (by decide) ?_
      refine va_iast hx hb hK hP hD hS 0 0 rfl rfl (vp_in_nI (by omega) (by omega)) dX9_plainIn_11 (fun H locs hP hD hS => ?_)
      have e9 : upd (fillF (f) k9_2 (0)) (nI k9_2).toNatClampNeg (0) = fillF (f) (k9_2 + 1) (0) := by rw [nI_clamp (by omega)]; exact fillF_s (f) k9_2 (0)
      have hP : va_P D classes [(sw_in cT b 96 (fillF (f) (k9_2 + 1) (0)))] H := by rw [← e9]; exact hP
      have hD : va_D A [(sw_in cT b 96 (fillF (f) (k9_2 + 1) (0)))] := by rw [← e9]; exact hD
      refine lv_iinc (v := (nI (k9_2 + 1))) (lv' := [(1, .int (nI (k9_2 + 1))), (0, .ref b)]) hx hb dX9_plainIn_12 hl (k := 0) rfl (by exact nI_1 (k9_2)) (by decide) rfl (fun ls hl => ?_)
      refine lv_goto (tgt := 2) hx hb dX9_plainIn_15 (by decide) ?_
      exact ih_2 (k9_2 + 1)  _ _ _ (by omega) (by omega)  ⟨hP.sub [0] rfl, hD.sub [0] (by decide) rfl⟩ hS (lv_sub hl [0, 1] rfl)
