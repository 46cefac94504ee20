set_option maxHeartbeats 4000000 in
set_option maxRecDepth 100000 in
theorem g_k_darkX (l : Launch) (D : va_G) (cT : Nat → ClassId) (sz : Nat) (h0 : Nat) (q : Nat → Nat) (n1 : Int32) (hn1 : 0 ≤ n1.toInt ∧ n1.toInt ≤ 900) (p0 : Int32) (p1 : Int32) (p2 : Int32) (p3 : Int32) (p4 : Int32) (p5 : Int32) (p6 : Int32) (p7 : Int32) (p8 : Int32) (p9 : Int32) (hs : 0 ≤ p0.toInt ∧ p0.toInt ≤ 16) (hat : 0 ≤ p3.toInt ∧ p3.toInt ≤ 15) (f2 : Nat → Int32) : Met l yX8_dark (wsc yX8_dark cX8_dark 3 (some .int)) { frames := 5, cells := 0, slots := 0, locals := 171 } (va_Pc [.ref h0] (PX D cT sz [(sw_8 h0 q n1), (sw_3 (q 2) p0 p1 p2 p3 p4 p5 p6 p7 p8 p9 (q 12) (q 13) (q 14) (q 15) (q 16) (q 17)), (sw_in cT (q 14) 16 f2)])) (va_Qi (fun (r : Int32) (u : Unit) => (r = ((1 <<< (p0 &&& 31)) - 1) &&& (orR f2 p4 p5 p6 p0.toInt.toNat p0.toInt.toNat ^^^ (-1))) ∧ (True)) (fun u t => RW D (va_A [(sw_8 h0 q n1), (sw_3 (q 2) p0 p1 p2 p3 p4 p5 p6 p7 p8 p9 (q 12) (q 13) (q 14) (q 15) (q 16) (q 17)), (sw_in cT (q 14) 16 f2)] sz) ((fun _ : Unit => [(sw_8 h0 q n1), (sw_3 (q 2) p0 p1 p2 p3 p4 p5 p6 p7 p8 p9 (q 12) (q 13) (q 14) (q 15) (q 16) (q 17)), (sw_in cT (q 14) 16 f2)]) u) t) (va_A [(sw_8 h0 q n1), (sw_3 (q 2) p0 p1 p2 p3 p4 p5 p6 p7 p8 p9 (q 12) (q 13) (q 14) (q 15) (q 16) (q 17)), (sw_in cT (q 14) 16 f2)] sz)) 0 0 (va_A [(sw_8 h0 q n1), (sw_3 (q 2) p0 p1 p2 p3 p4 p5 p6 p7 p8 p9 (q 12) (q 13) (q 14) (q 15) (q 16) (q 17)), (sw_in cT (q 14) 16 f2)] sz) := by
  refine m_of (y := yX8_dark) (cc := cX8_dark) (nL := 3) (ret := (some .int)) (D := D) (cT := cT) (av := [.ref h0]) (wi := [(sw_8 h0 q n1), (sw_3 (q 2) p0 p1 p2 p3 p4 p5 p6 p7 p8 p9 (q 12) (q 13) (q 14) (q 15) (q 16) (q 17)), (sw_in cT (q 14) 16 f2)]) (fun A => va_Qi (fun (r : Int32) (u : Unit) => (r = ((1 <<< (p0 &&& 31)) - 1) &&& (orR f2 p4 p5 p6 p0.toInt.toNat p0.toInt.toNat ^^^ (-1))) ∧ (True)) (fun u t => RW D A ((fun _ : Unit => [(sw_8 h0 q n1), (sw_3 (q 2) p0 p1 p2 p3 p4 p5 p6 p7 p8 p9 (q 12) (q 13) (q 14) (q 15) (q 16) (q 17)), (sw_in cT (q 14) 16 f2)]) u) t) A) (by decide) (Nat.le_of_ble_eq_true rfl) ?_
  intro p e s m below meth c A hx hb hml hown htg hK hN hr hlk hnm hsz hP hD hS hA ls hl
  have hown : s.vm.findClass RX8 = some m.cls := hown
  have hl : lv_has ls 3 [(0, .ref h0)] := hl
  have t9_0 : (0 : Int32).toInt = 0 := by decide
  have t9_m1 : ((-1) : Int32).toInt = (-1) := by decide
  refine lv_iconst (v := 0) hx hb dX8_dark_0 (by decide) ?_
  refine lv_istore_n (lv' := [(1, .int 0), (0, .ref h0)]) hx hb dX8_dark_1 rfl hl (by decide) rfl (fun ls hl => ?_)
  refine lv_iconst (v := 0) hx hb dX8_dark_2 (by decide) ?_
  refine lv_istore_n (lv' := [(2, .int 0), (1, .int 0), (0, .ref h0)]) hx hb dX8_dark_3 rfl hl (by decide) rfl (fun ls hl => ?_)
  have hb0 : (0 : Int32) = orR f2 p4 p5 p6 p0.toInt.toNat 0 := rfl
  refine (fun (key : ∀ (n9_4 : Nat) (k9_4 : Nat) (x9_4_1 : Int32) (H : Heap) (locs : List Loc) (ls : Array Slot), (k9_4 : Int) ≤ p0.toInt → p0.toInt < (k9_4 : Int) + n9_4 → (x9_4_1 = orR f2 p4 p5 p6 p0.toInt.toNat k9_4) → PD D A [(sw_8 h0 q n1), (sw_3 (q 2) p0 p1 p2 p3 p4 p5 p6 p7 p8 p9 (q 12) (q 13) (q 14) (q 15) (q 16) (q 17)), (sw_in cT (q 14) 16 f2)] H → va_S A s.heap H locs → lv_has ls 3 [(2, .int (nI k9_4)), (1, .int x9_4_1), (0, .ref h0)] → W p l e _ s m _ below meth c H locs _ _ _ (F0 m 4 ls [])) => key (Int.toNat (p0.toInt - 0) + 1) 0 _ _ _ _ (by omega) (by omega) (by first | assumption | omega | decide | (simp only [ti_0, ti_1, ti_2, ti_3, ti_4, ti_5, ti_6, ti_7, ti_8, ti_9, ti_10, ti_11, ti_12, ti_m1]; omega)) ⟨hP, hD⟩ hS (lv_sub hl [0, 1, 2] rfl)) ?_
  intro n9_4
  induction n9_4 with
  | zero => intro k9_4 x9_4_1 H locs ls hq1 hq2; exact absurd hq2 (by omega)
  | succ n9_4 ih_4 =>
    intro k9_4 x9_4_1 H locs ls hq1_4 hq2_4 h9_4_0 hPD hS hl
    obtain ⟨hP, hD⟩ := hPD
    have hk9_4 : (nI k9_4).toInt = (k9_4 : Int) := nI_toInt (by omega)
    refine lv_iload_n hx hb dX8_dark_4 rfl (lv_at hl 0 rfl) ?_
    refine lv_aload_n hx hb dX8_dark_5 rfl (lv_at hl 2 rfl) ?_
    refine va_get (D := D) (ci := 8) (v := .ref (q 2)) (C := RX8) (T := TX8) (N := 13) hx hb htg gRX8 hown hK hP 0 rfl rfl 3 (by decide) (htg _ wi_470) (fun _ h9 => h9) rfl dX8_dark_6 ?_
    refine va_getN (D := D) (ci := 3) (v := .int p0) (C := RX3) (T := TX3) (N := 16) hx hb htg gRX3 hown hK hP 1 rfl rfl 0 (by decide) (va_Nw.use rfl (hN.1 _ ni_172)) (fun _ h9 => h9) rfl dX8_dark_9 ?_
    refine lv_icmp_ge (tgt := 32) hx hb dX8_dark_12 (by decide) (fun c_1 => ?_) (fun c_1 => ?_)
    · have ic_1 : p0.toInt ≤ ((k9_4 : Nat) : Int) := ile c_1 (rfl) (nI_toInt (by omega))
      refine lv_aload_n hx hb dX8_dark_32 rfl (lv_at hl 2 rfl) ?_
      refine va_get (D := D) (ci := 8) (v := .ref (q 2)) (C := RX8) (T := TX8) (N := 13) hx hb htg gRX8 hown hK hP 0 rfl rfl 3 (by decide) (htg _ wi_470) (fun _ h9 => h9) rfl dX8_dark_33 ?_
      refine xk_i (wr := [(sw_8 h0 q n1), (sw_in cT (q 14) 16 f2)]) (xr_VN (n := 0) (As := []) (rest := []) ⟨hx, hb, hml, hown, htg⟩ hK hN hP hD hS hA [1] rfl (by decide) (g_allStripsX l D cT _ ((q 2)) (fun k => [(q 12), (q 13), (q 14), (q 15), (q 16), (q 17)].getD k 0) (p0) (p1) (p2) (p3) (p4) (p5) (p6) (p7) (p8) (p9)) ni_987 wi_739 wi_28 wi_123 wi_740 rfl rfl rfl ⟨rfl, by decide +kernel⟩ ⟨Nat.le_of_ble_eq_true rfl, Nat.le_of_ble_eq_true rfl⟩ rfl hl.1 rfl (Nat.le_of_ble_eq_true rfl) dX8_dark_36 ⟨Nat.le_of_ble_eq_true rfl, Nat.le_of_ble_eq_true rfl⟩) hP hD hS hA [1] [0, 2] rfl rfl (by decide) (by decide) (fun r_3 u_2 H locs hwr_3 hP hD hS => ?_)
      obtain ⟨hP, hD⟩ : PD D A [(sw_8 h0 q n1), (sw_in cT (q 14) 16 f2), (sw_3 (q 2) p0 p1 p2 p3 p4 p5 p6 p7 p8 p9 (q 12) (q 13) (q 14) (q 15) (q 16) (q 17))] _ := ⟨hP, hD⟩
      have qr_3_0 : r_3 = (1 <<< (p0 &&& 31)) - 1 := hwr_3.1
      refine lv_iload_n hx hb dX8_dark_39 rfl (lv_at hl 1 rfl) ?_
      refine lv_iconst (v := (-1)) hx hb dX8_dark_40 (by decide) ?_
      refine lv_ixor hx hb dX8_dark_41 ?_
      refine lv_topi (fun z_4 ez_4 => ?_)
      refine lv_iand hx hb dX8_dark_42 ?_
      refine lv_topi (fun z_5 ez_5 => ?_)
      exact x_iret hx hb hr hlk hP hD hS [0, 2, 1] (()) rfl (by decide) ⟨(by rw [ez_5, ez_4, qr_3_0, h9_4_0, show k9_4 = p0.toInt.toNat from by omega]), trivial⟩ (by decide) (by decide) dX8_dark_43
    · have ic_1 : ((k9_4 : Nat) : Int) < p0.toInt := inle c_1 (rfl) (nI_toInt (by omega))
      refine lv_iload_n hx hb dX8_dark_15 rfl (lv_at hl 1 rfl) ?_
      refine lv_aload_n hx hb dX8_dark_16 rfl (lv_at hl 2 rfl) ?_
      refine va_get (D := D) (ci := 8) (v := .ref (q 2)) (C := RX8) (T := TX8) (N := 13) hx hb htg gRX8 hown hK hP 0 rfl rfl 3 (by decide) (htg _ wi_470) (fun _ h9 => h9) rfl dX8_dark_17 ?_
      refine lv_iload_n hx hb dX8_dark_20 rfl (lv_at hl 0 rfl) ?_
      refine xk_i (wr := [(sw_8 h0 q n1)]) (xr_VN (n := 1) (As := [.int (nI k9_4)]) (rest := [.int x9_4_1]) ⟨hx, hb, hml, hown, htg⟩ hK hN hP hD hS hA [1, 2] rfl (by decide) (g_litFromX l D cT _ ((q 2)) (fun k => [(q 12), (q 13), (q 14), (q 15), (q 16), (q 17)].getD k 0) (p0) (p1) (p2) (p3) (p4) (p5) (p6) (p7) (p8) (p9) (by first | assumption | decide | omega | (simp only [ti_0, ti_1, ti_2, ti_3, ti_4, ti_5, ti_6, ti_7, ti_8, ti_9, ti_10, ti_11, ti_12, ti_m1]; omega)) ((nI k9_4)) (by first | assumption | decide | omega | (simp only [ti_0, ti_1, ti_2, ti_3, ti_4, ti_5, ti_6, ti_7, ti_8, ti_9, ti_10, ti_11, ti_12, ti_m1]; omega)) (f2)) ni_708 wi_710 wi_24 wi_123 wi_711 rfl rfl rfl ⟨rfl, by decide +kernel⟩ ⟨Nat.le_of_ble_eq_true rfl, Nat.le_of_ble_eq_true rfl⟩ rfl hl.1 rfl (Nat.le_of_ble_eq_true rfl) dX8_dark_21 ⟨Nat.le_of_ble_eq_true rfl, Nat.le_of_ble_eq_true rfl⟩) hP hD hS hA [1, 2] [0] rfl rfl (by decide) (by decide) (fun r_7 u_6 H locs hwr_7 hP hD hS => ?_)
      obtain ⟨hP, hD⟩ : PD D A [(sw_8 h0 q n1), (sw_3 (q 2) p0 p1 p2 p3 p4 p5 p6 p7 p8 p9 (q 12) (q 13) (q 14) (q 15) (q 16) (q 17)), (sw_in cT (q 14) 16 f2)] _ := ⟨hP, hD⟩
      have qr_7_0 : r_7 = litR f2 p4 p5 p6 (nI k9_4).toInt p0.toInt.toNat := hwr_7.1
      refine lv_ior hx hb dX8_dark_24 ?_
      refine lv_topi (fun z_8 ez_8 => ?_)
      refine lv_istore_n (lv' := [(1, .int z_8), (2, .int (nI k9_4)), (0, .ref h0)]) hx hb dX8_dark_25 rfl hl (by decide) rfl (fun ls hl => ?_)
      refine lv_iinc (v := (nI (k9_4 + 1))) (lv' := [(2, .int (nI (k9_4 + 1))), (1, .int z_8), (0, .ref h0)]) hx hb dX8_dark_26 hl (k := 1) rfl (by exact nI_1 (k9_4)) (by decide) rfl (fun ls hl => ?_)
      refine lv_goto (tgt := 4) hx hb dX8_dark_29 (by decide) ?_
      have hb1 : z_8 = orR f2 p4 p5 p6 p0.toInt.toNat (k9_4 + 1) := by rw [orR_s, ez_8, h9_4_0, qr_7_0, hk9_4]
      exact ih_4 (k9_4 + 1) _ _ _ _ (by omega) (by omega) (by first | assumption | omega | decide | (simp only [ti_0, ti_1, ti_2, ti_3, ti_4, ti_5, ti_6, ti_7, ti_8, ti_9, ti_10, ti_11, ti_12, ti_m1]; omega)) ⟨hP.sub [0, 1, 2] rfl, hD.sub [0, 1, 2] (by decide) rfl⟩ hS (lv_sub hl [0, 1, 2] rfl)
