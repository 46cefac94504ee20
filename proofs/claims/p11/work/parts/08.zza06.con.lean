set_option maxHeartbeats 4000000 in
set_option maxRecDepth 100000 in
theorem g_areStripsX (l : Launch) (D : va_G) (cT : Nat → ClassId) (sz : Nat) (h0 : Nat) (a : Nat → Nat) (p0 : Int32) (p1 : Int32) (p2 : Int32) (p3 : Int32) (p4 : Int32) (p5 : Int32) (p6 : Int32) (p7 : Int32) (p8 : Int32) (p9 : Int32) (x : Int32) : Met l yX3_areStrips (wsc yX3_areStrips cX3_areStrips 2 (some .boolean)) { frames := 3, cells := 0, slots := 0, locals := 120 } (va_Pc [.ref h0, .int x] (PX D cT sz [(sw_3 h0 p0 p1 p2 p3 p4 p5 p6 p7 p8 p9 (a 0) (a 1) (a 2) (a 3) (a 4) (a 5))])) (va_Qi (fun (r : Int32) (u : Unit) => (¬ r.toInt = 0 → x &&& ((((1 : Int32) <<< (p0 &&& 31)) - 1) ^^^ (-1)) = 0) ∧ (r.toInt = 0 → ¬ x &&& ((((1 : Int32) <<< (p0 &&& 31)) - 1) ^^^ (-1)) = 0) ∧ (True)) (fun u t => RW D (va_A [(sw_3 h0 p0 p1 p2 p3 p4 p5 p6 p7 p8 p9 (a 0) (a 1) (a 2) (a 3) (a 4) (a 5))] sz) ((fun _ : Unit => [(sw_3 h0 p0 p1 p2 p3 p4 p5 p6 p7 p8 p9 (a 0) (a 1) (a 2) (a 3) (a 4) (a 5))]) u) t) (va_A [(sw_3 h0 p0 p1 p2 p3 p4 p5 p6 p7 p8 p9 (a 0) (a 1) (a 2) (a 3) (a 4) (a 5))] sz)) 0 0 (va_A [(sw_3 h0 p0 p1 p2 p3 p4 p5 p6 p7 p8 p9 (a 0) (a 1) (a 2) (a 3) (a 4) (a 5))] sz) := by
  refine m_of (y := yX3_areStrips) (cc := cX3_areStrips) (nL := 2) (ret := (some .boolean)) (D := D) (cT := cT) (av := [.ref h0, .int x]) (wi := [(sw_3 h0 p0 p1 p2 p3 p4 p5 p6 p7 p8 p9 (a 0) (a 1) (a 2) (a 3) (a 4) (a 5))]) (fun A => va_Qi (fun (r : Int32) (u : Unit) => (¬ r.toInt = 0 → x &&& ((((1 : Int32) <<< (p0 &&& 31)) - 1) ^^^ (-1)) = 0) ∧ (r.toInt = 0 → ¬ x &&& ((((1 : Int32) <<< (p0 &&& 31)) - 1) ^^^ (-1)) = 0) ∧ (True)) (fun u t => RW D A ((fun _ : Unit => [(sw_3 h0 p0 p1 p2 p3 p4 p5 p6 p7 p8 p9 (a 0) (a 1) (a 2) (a 3) (a 4) (a 5))]) u) t) A) (by decide) (Nat.le_of_ble_eq_true rfl) ?_
  intro p e s m below meth c A hx hb hml hown htg hK hN hr hlk hnm hsz hP hD hS hA ls hl
  have hown : s.vm.findClass RX3 = some m.cls := hown
  have hl : lv_has ls 2 [(0, .ref h0), (1, .int x)] := hl
  have t9_0 : (0 : Int32).toInt = 0 := by decide
  have t9_1 : (1 : Int32).toInt = 1 := by decide
  refine lv_iload_n hx hb dX3_areStrips_0 rfl (lv_at hl 1 rfl) ?_
  refine lv_aload_n hx hb dX3_areStrips_1 rfl (lv_at hl 0 rfl) ?_
  refine xk_i (wr := []) (xr_V (n := 0) (As := []) (rest := [.int x]) ⟨hx, hb, hml, hown, htg⟩ hK hN hP hD hS hA [0] rfl (by decide) (g_allStripsX l D cT _ (h0) (a) (p0) (p1) (p2) (p3) (p4) (p5) (p6) (p7) (p8) (p9)) wi_737 wi_739 wi_28 wi_123 wi_740 rfl rfl rfl ⟨rfl, by decide +kernel⟩ ⟨Nat.le_of_ble_eq_true rfl, Nat.le_of_ble_eq_true rfl⟩ rfl hl.1 rfl (Nat.le_of_ble_eq_true rfl) dX3_areStrips_2 ⟨Nat.le_of_ble_eq_true rfl, Nat.le_of_ble_eq_true rfl⟩) hP hD hS hA [0] [] rfl rfl (by decide) (by decide) (fun r_2 u_1 H locs hwr_2 hP hD hS => ?_)
  obtain ⟨hP, hD⟩ : PD D A [(sw_3 h0 p0 p1 p2 p3 p4 p5 p6 p7 p8 p9 (a 0) (a 1) (a 2) (a 3) (a 4) (a 5))] _ := ⟨hP, hD⟩
  have qr_2_0 : r_2 = (1 <<< (p0 &&& 31)) - 1 := hwr_2.1
  refine lv_iconst (v := (-1)) hx hb dX3_areStrips_5 (by decide) ?_
  refine lv_ixor hx hb dX3_areStrips_6 ?_
  refine lv_topi (fun z_3 ez_3 => ?_)
  refine lv_iand hx hb dX3_areStrips_7 ?_
  refine lv_topi (fun z_4 ez_4 => ?_)
  refine lv_if_ne (tgt := 15) hx hb dX3_areStrips_8 (by decide) (fun c_5 => ?_) (fun c_5 => ?_)
  · have ic_5 : ¬ z_4.toInt = 0 := ine c_5 (rfl) (by decide)
    refine lv_iconst (v := 0) hx hb dX3_areStrips_15 (by decide) ?_
    exact x_zret hx hb hr hlk hP hD hS [0] (()) rfl (by decide) rfl ⟨(fun h9 => by exfalso; omega), (fun _ => by have hz : x &&& ((((1 : Int32) <<< (p0 &&& 31)) - 1) ^^^ (-1)) = z_4 := (by rw [ez_4, ez_3, qr_2_0]); rw [hz]; exact fun h8 => absurd (congrArg Int32.toInt h8) (by rw [ti_0]; omega)), trivial⟩ (by decide) (by decide) dX3_areStrips_16
  · have ic_5 : z_4.toInt = 0 := ieq c_5 (rfl) (by decide)
    refine lv_iconst (v := 1) hx hb dX3_areStrips_11 (by decide) ?_
    refine lv_goto (tgt := 16) hx hb dX3_areStrips_12 (by decide) ?_
    exact x_zret hx hb hr hlk hP hD hS [0] (()) rfl (by decide) rfl ⟨(fun _ => by have hz : x &&& ((((1 : Int32) <<< (p0 &&& 31)) - 1) ^^^ (-1)) = z_4 := (by rw [ez_4, ez_3, qr_2_0]); rw [hz]; exact i32_is (by rw [ti_0]; omega)), (fun h9 => by exfalso; omega), trivial⟩ (by decide) (by decide) dX3_areStrips_16
set_option maxHeartbeats 4000000 in
set_option maxRecDepth 100000 in
theorem g_leastHeightForAllX (l : Launch) (D : va_G) (cT : Nat → ClassId) (sz : Nat) (h0 : Nat) (a : Nat → Nat) (p0 : Int32) (p1 : Int32) (p2 : Int32) (p3 : Int32) (p4 : Int32) (p5 : Int32) (p6 : Int32) (p7 : Int32) (p8 : Int32) (p9 : Int32) (hs : 0 ≤ p0.toInt ∧ p0.toInt ≤ 16) (x : Int32) (y : Int32) (hxp : 0 ≤ x.toInt ∧ x.toInt < p0.toInt) (f2 : Nat → Int32) (hbt : BT f2 p0.toInt) : Met l yX3_leastHeightForAll (wsc yX3_leastHeightForAll cX3_leastHeightForAll 6 (some .int)) { frames := 4, cells := 0, slots := 0, locals := 150 } (va_Pc [.ref h0, .int x, .int y] (PX D cT sz [(sw_3 h0 p0 p1 p2 p3 p4 p5 p6 p7 p8 p9 (a 0) (a 1) (a 2) (a 3) (a 4) (a 5)), (sw_in cT (a 2) 16 f2)])) (va_Qi (fun (r : Int32) (u : Unit) => (r.toInt = laR f2 p5 p6 x.toInt y p0.toInt.toNat) ∧ (True)) (fun u t => RW D (va_A [(sw_3 h0 p0 p1 p2 p3 p4 p5 p6 p7 p8 p9 (a 0) (a 1) (a 2) (a 3) (a 4) (a 5)), (sw_in cT (a 2) 16 f2)] sz) ((fun _ : Unit => [(sw_3 h0 p0 p1 p2 p3 p4 p5 p6 p7 p8 p9 (a 0) (a 1) (a 2) (a 3) (a 4) (a 5)), (sw_in cT (a 2) 16 f2)]) u) t) (va_A [(sw_3 h0 p0 p1 p2 p3 p4 p5 p6 p7 p8 p9 (a 0) (a 1) (a 2) (a 3) (a 4) (a 5)), (sw_in cT (a 2) 16 f2)] sz)) 0 0 (va_A [(sw_3 h0 p0 p1 p2 p3 p4 p5 p6 p7 p8 p9 (a 0) (a 1) (a 2) (a 3) (a 4) (a 5)), (sw_in cT (a 2) 16 f2)] sz) := by
  refine m_of (y := yX3_leastHeightForAll) (cc := cX3_leastHeightForAll) (nL := 6) (ret := (some .int)) (D := D) (cT := cT) (av := [.ref h0, .int x, .int y]) (wi := [(sw_3 h0 p0 p1 p2 p3 p4 p5 p6 p7 p8 p9 (a 0) (a 1) (a 2) (a 3) (a 4) (a 5)), (sw_in cT (a 2) 16 f2)]) (fun A => va_Qi (fun (r : Int32) (u : Unit) => (r.toInt = laR f2 p5 p6 x.toInt y p0.toInt.toNat) ∧ (True)) (fun u t => RW D A ((fun _ : Unit => [(sw_3 h0 p0 p1 p2 p3 p4 p5 p6 p7 p8 p9 (a 0) (a 1) (a 2) (a 3) (a 4) (a 5)), (sw_in cT (a 2) 16 f2)]) u) t) A) (by decide) (Nat.le_of_ble_eq_true rfl) ?_
  intro p e s m below meth c A hx hb hml hown htg hK hN hr hlk hnm hsz hP hD hS hA ls hl
  have hown : s.vm.findClass RX3 = some m.cls := hown
  have hl : lv_has ls 6 [(0, .ref h0), (1, .int x), (2, .int y)] := hl
  have t9_0 : (0 : Int32).toInt = 0 := by decide
  have t9_1 : (1 : Int32).toInt = 1 := by decide
  have t9_m1 : ((-1) : Int32).toInt = (-1) := by decide
  refine lv_iconst (v := 1) hx hb dX3_leastHeightForAll_0 (by decide) ?_
  refine lv_istore_n (lv' := [(3, .int 1), (0, .ref h0), (1, .int x), (2, .int y)]) hx hb dX3_leastHeightForAll_1 rfl hl (by decide) rfl (fun ls hl => ?_)
  refine lv_iconst (v := 0) hx hb dX3_leastHeightForAll_2 (by decide) ?_
  refine lv_istore (lv' := [(4, .int 0), (3, .int 1), (0, .ref h0), (1, .int x), (2, .int y)]) hx hb dX3_leastHeightForAll_3 hl (by decide) rfl (fun ls hl => ?_)
  have hla0 : (1 : Int32).toInt = laR f2 p5 p6 x.toInt y 0 := t9_1
  have hlb0 : ¬ laR f2 p5 p6 x.toInt y 0 = -1 := by show ¬ (1 : Int) = -1; decide
  refine (fun (key : ∀ (n9_5 : Nat) (k9_5 : Nat) (x9_5_3 : Int32) (H : Heap) (locs : List Loc) (ls : Array Slot), (k9_5 : Int) ≤ p0.toInt → p0.toInt < (k9_5 : Int) + n9_5 → (x9_5_3.toInt = laR f2 p5 p6 x.toInt y k9_5) → (¬ laR f2 p5 p6 x.toInt y k9_5 = -1) → PD D A [(sw_3 h0 p0 p1 p2 p3 p4 p5 p6 p7 p8 p9 (a 0) (a 1) (a 2) (a 3) (a 4) (a 5)), (sw_in cT (a 2) 16 f2)] H → va_S A s.heap H locs → lv_has ls 6 [(4, .int (nI k9_5)), (3, .int x9_5_3), (0, .ref h0), (1, .int x), (2, .int y)] → W p l e _ s m _ below meth c H locs _ _ _ (F0 m 5 ls [])) => key (Int.toNat (p0.toInt - 0) + 1) 0 _ _ _ _ (by omega) (by omega) (by first | assumption | omega | decide | (simp only [ti_0, ti_1, ti_2, ti_3, ti_4, ti_5, ti_6, ti_7, ti_8, ti_9, ti_10, ti_11, ti_12, ti_m1]; omega)) (by first | assumption | omega | decide | (simp only [ti_0, ti_1, ti_2, ti_3, ti_4, ti_5, ti_6, ti_7, ti_8, ti_9, ti_10, ti_11, ti_12, ti_m1]; omega)) ⟨hP, hD⟩ hS (lv_sub hl [0, 1, 2, 3, 4] rfl)) ?_
  intro n9_5
  induction n9_5 with
  | zero => intro k9_5 x9_5_3 H locs ls hq1 hq2; exact absurd hq2 (by omega)
  | succ n9_5 ih_5 =>
    intro k9_5 x9_5_3 H locs ls hq1_5 hq2_5 h9_5_0 h9_5_1 hPD hS hl
    obtain ⟨hP, hD⟩ := hPD
    have hk9_5 : (nI k9_5).toInt = (k9_5 : Int) := nI_toInt (by omega)
    refine lv_iload hx hb dX3_leastHeightForAll_5 (lv_at hl 0 rfl) ?_
    refine lv_aload_n hx hb dX3_leastHeightForAll_7 rfl (lv_at hl 2 rfl) ?_
    refine va_get (D := D) (ci := 3) (v := .int p0) (C := RX3) (T := TX3) (N := 16) hx hb htg gRX3 hown hK hP 0 rfl rfl 0 (by decide) (htg _ wi_166) (fun _ h9 => h9) rfl dX3_leastHeightForAll_8 ?_
    refine lv_icmp_ge (tgt := 53) hx hb dX3_leastHeightForAll_11 (by decide) (fun c_1 => ?_) (fun c_1 => ?_)
    · have ic_1 : p0.toInt ≤ ((k9_5 : Nat) : Int) := ile c_1 (rfl) (nI_toInt (by omega))
      refine lv_iload_n hx hb dX3_leastHeightForAll_53 rfl (lv_at hl 1 rfl) ?_
      exact x_iret hx hb hr hlk hP hD hS [0, 1] (()) rfl (by decide) ⟨(by (try dsimp only); rw [show p0.toInt.toNat = k9_5 from by omega]; assumption), trivial⟩ (by decide) (by decide) dX3_leastHeightForAll_54
    · have ic_1 : ((k9_5 : Nat) : Int) < p0.toInt := inle c_1 (rfl) (nI_toInt (by omega))
      refine lv_iload_n hx hb dX3_leastHeightForAll_14 rfl (lv_at hl 4 rfl) ?_
      refine lv_iload hx hb dX3_leastHeightForAll_15 (lv_at hl 0 rfl) ?_
      refine lv_ishr hx hb dX3_leastHeightForAll_17 ?_
      refine lv_topi (fun z_2 ez_2 => ?_)
      refine lv_iconst (v := 1) hx hb dX3_leastHeightForAll_18 (by decide) ?_
      refine lv_iand hx hb dX3_leastHeightForAll_19 ?_
      refine lv_topi (fun z_3 ez_3 => ?_)
      have iz_3 : 0 ≤ z_3.toInt ∧ z_3.toInt ≤ 1 := andI ez_3 (by decide) (by decide)
      have hbg := bt_get (k := k9_5) (by omega) ez_2 ez_3
      refine lv_if_eq (tgt := 47) hx hb dX3_leastHeightForAll_20 (by decide) (fun c_4 => ?_) (fun c_4 => ?_)
      · have ic_4 : z_3.toInt = 0 := ieq c_4 (rfl) (by decide)
        refine lv_iinc (v := (nI (k9_5 + 1))) (lv' := [(4, .int (nI (k9_5 + 1))), (3, .int x9_5_3), (0, .ref h0), (1, .int x), (2, .int y)]) hx hb dX3_leastHeightForAll_47 hl (k := 0) rfl (by exact nI_1 (k9_5)) (by decide) rfl (fun ls hl => ?_)
        refine lv_goto (tgt := 5) hx hb dX3_leastHeightForAll_50 (by decide) ?_
        have hq1 := laR_b f2 p5 p6 x.toInt y k9_5
        have hq2 := lhF_b f2 p5 p6 x.toInt (k9_5 : Int)
        have hla1 : x9_5_3.toInt = laR f2 p5 p6 x.toInt y (k9_5 + 1) := by rw [laR_s, if_neg h9_5_1]; first | (rw [if_neg (fun q => absurd (hbg.mpr q) (by omega))]; omega) | (rw [if_pos (hbg.mp (by omega)), if_neg (by omega)]; unfold mxI; split <;> omega)
        have hlb1 : ¬ laR f2 p5 p6 x.toInt y (k9_5 + 1) = -1 := by rw [← hla1]; omega
        exact ih_5 (k9_5 + 1) _ _ _ _ (by omega) (by omega) (by first | assumption | omega | decide | (simp only [ti_0, ti_1, ti_2, ti_3, ti_4, ti_5, ti_6, ti_7, ti_8, ti_9, ti_10, ti_11, ti_12, ti_m1]; omega)) (by first | assumption | omega | decide | (simp only [ti_0, ti_1, ti_2, ti_3, ti_4, ti_5, ti_6, ti_7, ti_8, ti_9, ti_10, ti_11, ti_12, ti_m1]; omega)) ⟨hP.sub [0, 1] rfl, hD.sub [0, 1] (by decide) rfl⟩ hS (lv_sub hl [0, 1, 2, 3, 4] rfl)
      · have ic_4 : ¬ z_3.toInt = 0 := ine c_4 (rfl) (by decide)
        refine lv_aload_n hx hb dX3_leastHeightForAll_23 rfl (lv_at hl 2 rfl) ?_
        refine lv_iload_n hx hb dX3_leastHeightForAll_24 rfl (lv_at hl 3 rfl) ?_
        refine lv_iload hx hb dX3_leastHeightForAll_25 (lv_at hl 0 rfl) ?_
        refine xk_i (wr := []) (xr_V (n := 2) (As := [.int x, .int (nI k9_5)]) (rest := []) ⟨hx, hb, hml, hown, htg⟩ hK hN hP hD hS hA [0, 1] rfl (by decide) (g_leastHeightX l D cT _ (h0) (a) (p0) (p1) (p2) (p3) (p4) (p5) (p6) (p7) (p8) (p9) (by first | assumption | decide | omega | (simp only [ti_0, ti_1, ti_2, ti_3, ti_4, ti_5, ti_6, ti_7, ti_8, ti_9, ti_10, ti_11, ti_12, ti_m1]; omega)) (x) ((nI k9_5)) (by first | assumption | decide | omega | (simp only [ti_0, ti_1, ti_2, ti_3, ti_4, ti_5, ti_6, ti_7, ti_8, ti_9, ti_10, ti_11, ti_12, ti_m1]; omega)) (by first | assumption | decide | omega | (simp only [ti_0, ti_1, ti_2, ti_3, ti_4, ti_5, ti_6, ti_7, ti_8, ti_9, ti_10, ti_11, ti_12, ti_m1]; omega)) (f2) (by first | assumption | decide | omega | (simp only [ti_0, ti_1, ti_2, ti_3, ti_4, ti_5, ti_6, ti_7, ti_8, ti_9, ti_10, ti_11, ti_12, ti_m1]; omega))) wi_745 wi_727 wi_26 wi_123 wi_728 rfl rfl rfl ⟨rfl, by decide +kernel⟩ ⟨Nat.le_of_ble_eq_true rfl, Nat.le_of_ble_eq_true rfl⟩ rfl hl.1 rfl (Nat.le_of_ble_eq_true rfl) dX3_leastHeightForAll_27 ⟨Nat.le_of_ble_eq_true rfl, Nat.le_of_ble_eq_true rfl⟩) hP hD hS hA [0, 1] [] rfl rfl (by decide) (by decide) (fun r_6 u_5 H locs hwr_6 hP hD hS => ?_)
        obtain ⟨hP, hD⟩ : PD D A [(sw_3 h0 p0 p1 p2 p3 p4 p5 p6 p7 p8 p9 (a 0) (a 1) (a 2) (a 3) (a 4) (a 5)), (sw_in cT (a 2) 16 f2)] _ := ⟨hP, hD⟩
        have qr_6_0 : r_6.toInt = lhF f2 p5 p6 x.toInt (nI k9_5).toInt := hwr_6.1
        rw [hk9_5] at qr_6_0
        refine lv_istore (lv' := [(5, .int r_6), (4, .int (nI k9_5)), (3, .int x9_5_3), (0, .ref h0), (1, .int x), (2, .int y)]) hx hb dX3_leastHeightForAll_30 hl (by decide) rfl (fun ls hl => ?_)
        refine lv_iload hx hb dX3_leastHeightForAll_32 (lv_at hl 0 rfl) ?_
        refine lv_iconst (v := (-1)) hx hb dX3_leastHeightForAll_34 (by decide) ?_
        refine lv_icmp_ne (tgt := 40) hx hb dX3_leastHeightForAll_35 (by decide) (fun c_7 => ?_) (fun c_7 => ?_)
        · have ic_7 : ¬ r_6.toInt = (-1) := ine c_7 (rfl) (by decide)
          refine lv_iload_n hx hb dX3_leastHeightForAll_40 rfl (lv_at hl 2 rfl) ?_
          refine lv_iload hx hb dX3_leastHeightForAll_41 (lv_at hl 0 rfl) ?_
          refine va_mmax hx hb (by rw [hml]; exact hl.1.symm) hown (htg _ wi_681) (htg _ wi_527) (htg _ wi_132) (htg _ wi_528) (Nat.le_of_ble_eq_true rfl) (Nat.le_of_ble_eq_true rfl) (Nat.le_of_ble_eq_true rfl) (Nat.le_of_ble_eq_true rfl) dX3_leastHeightForAll_43 ?_
          refine lv_topi (fun z_8 ez_8 => ?_)
          have iz_8 := maxI (a := x9_5_3.toInt) (b := r_6.toInt) ez_8 (rfl) (rfl)
          refine lv_istore_n (lv' := [(3, .int z_8), (5, .int r_6), (4, .int (nI k9_5)), (0, .ref h0), (1, .int x), (2, .int y)]) hx hb dX3_leastHeightForAll_46 rfl hl (by decide) rfl (fun ls hl => ?_)
          refine lv_iinc (v := (nI (k9_5 + 1))) (lv' := [(4, .int (nI (k9_5 + 1))), (3, .int z_8), (5, .int r_6), (0, .ref h0), (1, .int x), (2, .int y)]) hx hb dX3_leastHeightForAll_47 hl (k := 2) rfl (by exact nI_1 (k9_5)) (by decide) rfl (fun ls hl => ?_)
          refine lv_goto (tgt := 5) hx hb dX3_leastHeightForAll_50 (by decide) ?_
          have hq1 := laR_b f2 p5 p6 x.toInt y k9_5
          have hq2 := lhF_b f2 p5 p6 x.toInt (k9_5 : Int)
          have hla1 : z_8.toInt = laR f2 p5 p6 x.toInt y (k9_5 + 1) := by rw [laR_s, if_neg h9_5_1]; first | (rw [if_neg (fun q => absurd (hbg.mpr q) (by omega))]; omega) | (rw [if_pos (hbg.mp (by omega)), if_neg (by omega)]; unfold mxI; split <;> omega)
          have hlb1 : ¬ laR f2 p5 p6 x.toInt y (k9_5 + 1) = -1 := by rw [← hla1]; omega
          exact ih_5 (k9_5 + 1) _ _ _ _ (by omega) (by omega) (by first | assumption | omega | decide | (simp only [ti_0, ti_1, ti_2, ti_3, ti_4, ti_5, ti_6, ti_7, ti_8, ti_9, ti_10, ti_11, ti_12, ti_m1]; omega)) (by first | assumption | omega | decide | (simp only [ti_0, ti_1, ti_2, ti_3, ti_4, ti_5, ti_6, ti_7, ti_8, ti_9, ti_10, ti_11, ti_12, ti_m1]; omega)) ⟨hP.sub [0, 1] rfl, hD.sub [0, 1] (by decide) rfl⟩ hS (lv_sub hl [0, 1, 3, 4, 5] rfl)
        · have ic_7 : r_6.toInt = (-1) := ieq c_7 (rfl) (by decide)
          refine lv_iconst (v := (-1)) hx hb dX3_leastHeightForAll_38 (by decide) ?_
          exact x_iret hx hb hr hlk hP hD hS [0, 1] (()) rfl (by decide) ⟨(by (try dsimp only); rw [laR_m (k := k9_5 + 1) (by rw [laR_s, if_neg h9_5_1, if_pos (hbg.mp (by omega)), if_pos (by omega)]) p0.toInt.toNat (by omega)]; decide), trivial⟩ (by decide) (by decide) dX3_leastHeightForAll_39
