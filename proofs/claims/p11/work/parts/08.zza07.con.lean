set_option maxHeartbeats 4000000 in
set_option maxRecDepth 100000 in
theorem g_k_highForX (l : Launch) (D : va_G) (cT : Nat → ClassId) (sz : Nat) (h0 : Nat) (q : Nat → Nat) (n1 : Int32) (hn1 : 0 ≤ n1.toInt ∧ n1.toInt ≤ 900) (p0 : Int32) (p1 : Int32) (p2 : Int32) (p3 : Int32) (p4 : Int32) (p5 : Int32) (p6 : Int32) (p7 : Int32) (p8 : Int32) (p9 : Int32) (hs : 0 ≤ p0.toInt ∧ p0.toInt ≤ 16) (hat : 0 ≤ p3.toInt ∧ p3.toInt ≤ 15) (x : Int32) (y : Int32) (f2 : Nat → Int32) (hbt : BT f2 p0.toInt) : Met l yX8_highFor (wsc yX8_highFor cX8_highFor 7 (some .int)) { frames := 5, cells := 0, slots := 0, locals := 175 } (va_Pc [.ref h0, .int x, .int y] (PX D cT sz [(sw_8 h0 q n1), (sw_3 (q 2) p0 p1 p2 p3 p4 p5 p6 p7 p8 p9 (q 12) (q 13) (q 14) (q 15) (q 16) (q 17)), (sw_in cT (q 14) 16 f2)])) (va_Qi (fun (r : Int32) (u : Unit) => ((x.toInt = 0 ∨ ¬ x &&& ((((1 : Int32) <<< (p0 &&& 31)) - 1) ^^^ (-1)) = 0) → r.toInt = -3) ∧ (¬ x.toInt = 0 → x &&& ((((1 : Int32) <<< (p0 &&& 31)) - 1) ^^^ (-1)) = 0 → r.toInt = selI y (hfL f2 p5 p6 x p0.toInt.toNat p0.toInt.toNat)) ∧ (True)) (fun u t => RW D (va_A [(sw_8 h0 q n1), (sw_3 (q 2) p0 p1 p2 p3 p4 p5 p6 p7 p8 p9 (q 12) (q 13) (q 14) (q 15) (q 16) (q 17)), (sw_in cT (q 14) 16 f2)] sz) ((fun _ : Unit => [(sw_8 h0 q n1), (sw_3 (q 2) p0 p1 p2 p3 p4 p5 p6 p7 p8 p9 (q 12) (q 13) (q 14) (q 15) (q 16) (q 17)), (sw_in cT (q 14) 16 f2)]) u) t) (va_A [(sw_8 h0 q n1), (sw_3 (q 2) p0 p1 p2 p3 p4 p5 p6 p7 p8 p9 (q 12) (q 13) (q 14) (q 15) (q 16) (q 17)), (sw_in cT (q 14) 16 f2)] sz)) 0 0 (va_A [(sw_8 h0 q n1), (sw_3 (q 2) p0 p1 p2 p3 p4 p5 p6 p7 p8 p9 (q 12) (q 13) (q 14) (q 15) (q 16) (q 17)), (sw_in cT (q 14) 16 f2)] sz) := by
  refine m_of (y := yX8_highFor) (cc := cX8_highFor) (nL := 7) (ret := (some .int)) (D := D) (cT := cT) (av := [.ref h0, .int x, .int y]) (wi := [(sw_8 h0 q n1), (sw_3 (q 2) p0 p1 p2 p3 p4 p5 p6 p7 p8 p9 (q 12) (q 13) (q 14) (q 15) (q 16) (q 17)), (sw_in cT (q 14) 16 f2)]) (fun A => va_Qi (fun (r : Int32) (u : Unit) => ((x.toInt = 0 ∨ ¬ x &&& ((((1 : Int32) <<< (p0 &&& 31)) - 1) ^^^ (-1)) = 0) → r.toInt = -3) ∧ (¬ x.toInt = 0 → x &&& ((((1 : Int32) <<< (p0 &&& 31)) - 1) ^^^ (-1)) = 0 → r.toInt = selI y (hfL f2 p5 p6 x p0.toInt.toNat p0.toInt.toNat)) ∧ (True)) (fun u t => RW D A ((fun _ : Unit => [(sw_8 h0 q n1), (sw_3 (q 2) p0 p1 p2 p3 p4 p5 p6 p7 p8 p9 (q 12) (q 13) (q 14) (q 15) (q 16) (q 17)), (sw_in cT (q 14) 16 f2)]) u) t) A) (by decide) (Nat.le_of_ble_eq_true rfl) ?_
  intro p e s m below meth c A hx hb hml hown htg hK hN hr hlk hnm hsz hP hD hS hA ls hl
  have hown : s.vm.findClass RX8 = some m.cls := hown
  have hl : lv_has ls 7 [(0, .ref h0), (1, .int x), (2, .int y)] := hl
  have t9_0 : (0 : Int32).toInt = 0 := by decide
  have t9_m1 : ((-1) : Int32).toInt = (-1) := by decide
  have t9_m3 : ((-3) : Int32).toInt = (-3) := by decide
  refine lv_iload_n hx hb dX8_highFor_0 rfl (lv_at hl 1 rfl) ?_
  refine lv_if_eq (tgt := 15) hx hb dX8_highFor_1 (by decide) (fun c_1 => ?_) (fun c_1 => ?_)
  · have ic_1 : x.toInt = 0 := ieq c_1 (rfl) (by decide)
    refine lv_bipush (v := (-3)) hx hb dX8_highFor_15 (by decide) ?_
    exact x_iret hx hb hr hlk hP hD hS [0, 1, 2] (()) rfl (by decide) ⟨(fun _ => by decide), (fun h7 h8 => by exfalso; first | omega | exact absurd h8 (by assumption)), trivial⟩ (by decide) (by decide) dX8_highFor_17
  · have ic_1 : ¬ x.toInt = 0 := ine c_1 (rfl) (by decide)
    refine lv_aload_n hx hb dX8_highFor_4 rfl (lv_at hl 0 rfl) ?_
    refine va_get (D := D) (ci := 8) (v := .ref (q 2)) (C := RX8) (T := TX8) (N := 13) hx hb htg gRX8 hown hK hP 0 rfl rfl 3 (by decide) (htg _ wi_470) (fun _ h9 => h9) rfl dX8_highFor_5 ?_
    refine lv_iload_n hx hb dX8_highFor_8 rfl (lv_at hl 1 rfl) ?_
    refine xk_i (wr := [(sw_8 h0 q n1), (sw_in cT (q 14) 16 f2)]) (xr_VN (n := 1) (As := [.int x]) (rest := []) ⟨hx, hb, hml, hown, htg⟩ hK hN hP hD hS hA [1] rfl (by decide) (g_areStripsX l D cT _ ((q 2)) (fun k => [(q 12), (q 13), (q 14), (q 15), (q 16), (q 17)].getD k 0) (p0) (p1) (p2) (p3) (p4) (p5) (p6) (p7) (p8) (p9) (x)) ni_733 wi_735 wi_27 wi_123 wi_736 rfl rfl rfl ⟨rfl, by decide +kernel⟩ ⟨Nat.le_of_ble_eq_true rfl, Nat.le_of_ble_eq_true rfl⟩ rfl hl.1 rfl (Nat.le_of_ble_eq_true rfl) dX8_highFor_9 ⟨Nat.le_of_ble_eq_true rfl, Nat.le_of_ble_eq_true rfl⟩) hP hD hS hA [1] [0, 2] rfl rfl (by decide) (by decide) (fun r_3 u_2 H locs hwr_3 hP hD hS => ?_)
    obtain ⟨hP, hD⟩ : PD D A [(sw_8 h0 q n1), (sw_in cT (q 14) 16 f2), (sw_3 (q 2) p0 p1 p2 p3 p4 p5 p6 p7 p8 p9 (q 12) (q 13) (q 14) (q 15) (q 16) (q 17))] _ := ⟨hP, hD⟩
    have qr_3_0 : ¬ r_3.toInt = 0 → x &&& ((((1 : Int32) <<< (p0 &&& 31)) - 1) ^^^ (-1)) = 0 := hwr_3.1
    have qr_3_1 : r_3.toInt = 0 → ¬ x &&& ((((1 : Int32) <<< (p0 &&& 31)) - 1) ^^^ (-1)) = 0 := hwr_3.2.1
    refine lv_if_ne (tgt := 18) hx hb dX8_highFor_12 (by decide) (fun c_4 => ?_) (fun c_4 => ?_)
    · have ic_4 : ¬ r_3.toInt = 0 := ine c_4 (rfl) (by decide)
      refine lv_iconst (v := (-1)) hx hb dX8_highFor_18 (by decide) ?_
      refine lv_istore_n (lv' := [(3, .int (-1)), (0, .ref h0), (1, .int x), (2, .int y)]) hx hb dX8_highFor_19 rfl hl (by decide) rfl (fun ls hl => ?_)
      refine lv_iconst (v := (-1)) hx hb dX8_highFor_20 (by decide) ?_
      refine lv_istore (lv' := [(4, .int (-1)), (3, .int (-1)), (0, .ref h0), (1, .int x), (2, .int y)]) hx hb dX8_highFor_21 hl (by decide) rfl (fun ls hl => ?_)
      refine lv_iconst (v := 0) hx hb dX8_highFor_23 (by decide) ?_
      refine lv_istore (lv' := [(5, .int 0), (4, .int (-1)), (3, .int (-1)), (0, .ref h0), (1, .int x), (2, .int y)]) hx hb dX8_highFor_24 hl (by decide) rfl (fun ls hl => ?_)
      have hhf0 : ((-1) : Int32).toInt = (hfL f2 p5 p6 x p0.toInt.toNat 0).1 := t9_m1
      have hhf1 : ((-1) : Int32).toInt = (hfL f2 p5 p6 x p0.toInt.toNat 0).2 := t9_m1
      refine (fun (key : ∀ (n9_26 : Nat) (k9_26 : Nat) (x9_26_4 : Int32) (x9_26_3 : Int32) (H : Heap) (locs : List Loc) (ls : Array Slot), (k9_26 : Int) ≤ p0.toInt → p0.toInt < (k9_26 : Int) + n9_26 → (x9_26_3.toInt = (hfL f2 p5 p6 x p0.toInt.toNat k9_26).1) → (x9_26_4.toInt = (hfL f2 p5 p6 x p0.toInt.toNat k9_26).2) → PD D A [(sw_8 h0 q n1), (sw_in cT (q 14) 16 f2), (sw_3 (q 2) p0 p1 p2 p3 p4 p5 p6 p7 p8 p9 (q 12) (q 13) (q 14) (q 15) (q 16) (q 17))] H → va_S A s.heap H locs → lv_has ls 7 [(5, .int (nI k9_26)), (4, .int x9_26_4), (3, .int x9_26_3), (0, .ref h0), (1, .int x), (2, .int y)] → W p l e _ s m _ below meth c H locs _ _ _ (F0 m 26 ls [])) => key (Int.toNat (p0.toInt - 0) + 1) 0 _ _ _ _ _ (by omega) (by omega) (by first | assumption | omega | decide | (simp only [ti_0, ti_1, ti_2, ti_3, ti_4, ti_5, ti_6, ti_7, ti_8, ti_9, ti_10, ti_11, ti_12, ti_m1]; omega)) (by first | assumption | omega | decide | (simp only [ti_0, ti_1, ti_2, ti_3, ti_4, ti_5, ti_6, ti_7, ti_8, ti_9, ti_10, ti_11, ti_12, ti_m1]; omega)) ⟨hP, hD⟩ hS (lv_sub hl [0, 1, 2, 3, 4, 5] rfl)) ?_
      intro n9_26
      induction n9_26 with
      | zero => intro k9_26 x9_26_4 x9_26_3 H locs ls hq1 hq2; exact absurd hq2 (by omega)
      | succ n9_26 ih_26 =>
        intro k9_26 x9_26_4 x9_26_3 H locs ls hq1_26 hq2_26 h9_26_0 h9_26_1 hPD hS hl
        obtain ⟨hP, hD⟩ := hPD
        have hk9_26 : (nI k9_26).toInt = (k9_26 : Int) := nI_toInt (by omega)
        refine lv_iload hx hb dX8_highFor_26 (lv_at hl 0 rfl) ?_
        refine lv_aload_n hx hb dX8_highFor_28 rfl (lv_at hl 3 rfl) ?_
        refine va_get (D := D) (ci := 8) (v := .ref (q 2)) (C := RX8) (T := TX8) (N := 13) hx hb htg gRX8 hown hK hP 0 rfl rfl 3 (by decide) (htg _ wi_470) (fun _ h9 => h9) rfl dX8_highFor_29 ?_
        refine va_getN (D := D) (ci := 3) (v := .int p0) (C := RX3) (T := TX3) (N := 16) hx hb htg gRX3 hown hK hP 2 rfl rfl 0 (by decide) (va_Nw.use rfl (hN.1 _ ni_172)) (fun _ h9 => h9) rfl dX8_highFor_32 ?_
        refine lv_icmp_ge (tgt := 80) hx hb dX8_highFor_35 (by decide) (fun c_5 => ?_) (fun c_5 => ?_)
        · have ic_5 : p0.toInt ≤ ((k9_26 : Nat) : Int) := ile c_5 (rfl) (nI_toInt (by omega))
          refine lv_iload_n hx hb dX8_highFor_80 rfl (lv_at hl 5 rfl) ?_
          refine lv_if_eq (tgt := 89) hx hb dX8_highFor_81 (by decide) (fun c_6 => ?_) (fun c_6 => ?_)
          · have ic_6 : y.toInt = 0 := ieq c_6 (rfl) (by decide)
            refine lv_iload_n hx hb dX8_highFor_89 rfl (lv_at hl 2 rfl) ?_
            exact x_iret hx hb hr hlk hP hD hS [0, 2, 1] (()) rfl (by decide) ⟨(fun h9 => by exfalso; rcases h9 with h | h; omega; exact h (qr_3_0 (by omega))), (fun _ _ => by (try dsimp only); have e26 : k9_26 = p0.toInt.toNat := (by omega); subst e26; unfold selI; split <;> first | omega | (exfalso; omega)), trivial⟩ (by decide) (by decide) dX8_highFor_90
          · have ic_6 : ¬ y.toInt = 0 := ine c_6 (rfl) (by decide)
            refine lv_iload hx hb dX8_highFor_84 (lv_at hl 1 rfl) ?_
            refine lv_goto (tgt := 90) hx hb dX8_highFor_86 (by decide) ?_
            exact x_iret hx hb hr hlk hP hD hS [0, 2, 1] (()) rfl (by decide) ⟨(fun h9 => by exfalso; rcases h9 with h | h; omega; exact h (qr_3_0 (by omega))), (fun _ _ => by (try dsimp only); have e26 : k9_26 = p0.toInt.toNat := (by omega); subst e26; unfold selI; split <;> first | omega | (exfalso; omega)), trivial⟩ (by decide) (by decide) dX8_highFor_90
        · have ic_5 : ((k9_26 : Nat) : Int) < p0.toInt := inle c_5 (rfl) (nI_toInt (by omega))
          refine lv_aload_n hx hb dX8_highFor_38 rfl (lv_at hl 3 rfl) ?_
          refine va_get (D := D) (ci := 8) (v := .ref (q 2)) (C := RX8) (T := TX8) (N := 13) hx hb htg gRX8 hown hK hP 0 rfl rfl 3 (by decide) (htg _ wi_470) (fun _ h9 => h9) rfl dX8_highFor_39 ?_
          refine lv_iload hx hb dX8_highFor_42 (lv_at hl 0 rfl) ?_
          refine lv_iload_n hx hb dX8_highFor_44 rfl (lv_at hl 4 rfl) ?_
          refine xk_i (wr := [(sw_8 h0 q n1)]) (xr_VN (n := 2) (As := [.int (nI k9_26), .int x]) (rest := []) ⟨hx, hb, hml, hown, htg⟩ hK hN hP hD hS hA [2, 1] rfl (by decide) (g_leastHeightForAllX l D cT _ ((q 2)) (fun k => [(q 12), (q 13), (q 14), (q 15), (q 16), (q 17)].getD k 0) (p0) (p1) (p2) (p3) (p4) (p5) (p6) (p7) (p8) (p9) (by first | assumption | decide | omega | (simp only [ti_0, ti_1, ti_2, ti_3, ti_4, ti_5, ti_6, ti_7, ti_8, ti_9, ti_10, ti_11, ti_12, ti_m1]; omega)) ((nI k9_26)) (x) (by first | assumption | decide | omega | (simp only [ti_0, ti_1, ti_2, ti_3, ti_4, ti_5, ti_6, ti_7, ti_8, ti_9, ti_10, ti_11, ti_12, ti_m1]; omega)) (f2) (by first | assumption | decide | omega | (simp only [ti_0, ti_1, ti_2, ti_3, ti_4, ti_5, ti_6, ti_7, ti_8, ti_9, ti_10, ti_11, ti_12, ti_m1]; omega))) ni_741 wi_743 wi_29 wi_123 wi_744 rfl rfl rfl ⟨rfl, by decide +kernel⟩ ⟨Nat.le_of_ble_eq_true rfl, Nat.le_of_ble_eq_true rfl⟩ rfl hl.1 rfl (Nat.le_of_ble_eq_true rfl) dX8_highFor_45 ⟨Nat.le_of_ble_eq_true rfl, Nat.le_of_ble_eq_true rfl⟩) hP hD hS hA [2, 1] [0] rfl rfl (by decide) (by decide) (fun r_8 u_7 H locs hwr_8 hP hD hS => ?_)
          obtain ⟨hP, hD⟩ : PD D A [(sw_8 h0 q n1), (sw_3 (q 2) p0 p1 p2 p3 p4 p5 p6 p7 p8 p9 (q 12) (q 13) (q 14) (q 15) (q 16) (q 17)), (sw_in cT (q 14) 16 f2)] _ := ⟨hP, hD⟩
          have qr_8_0 : r_8.toInt = laR f2 p5 p6 (nI k9_26).toInt x p0.toInt.toNat := hwr_8.1
          rw [hk9_26] at qr_8_0
          refine lv_istore (lv' := [(6, .int r_8), (5, .int (nI k9_26)), (4, .int x9_26_4), (3, .int x9_26_3), (0, .ref h0), (1, .int x), (2, .int y)]) hx hb dX8_highFor_48 hl (by decide) rfl (fun ls hl => ?_)
          refine lv_iload hx hb dX8_highFor_50 (lv_at hl 0 rfl) ?_
          refine lv_iconst (v := (-1)) hx hb dX8_highFor_52 (by decide) ?_
          refine lv_icmp_eq (tgt := 74) hx hb dX8_highFor_53 (by decide) (fun c_9 => ?_) (fun c_9 => ?_)
          · have ic_9 : r_8.toInt = (-1) := ieq c_9 (rfl) (by decide)
            refine lv_iinc (v := (nI (k9_26 + 1))) (lv' := [(5, .int (nI (k9_26 + 1))), (6, .int r_8), (4, .int x9_26_4), (3, .int x9_26_3), (0, .ref h0), (1, .int x), (2, .int y)]) hx hb dX8_highFor_74 hl (k := 1) rfl (by exact nI_1 (k9_26)) (by decide) rfl (fun ls hl => ?_)
            refine lv_goto (tgt := 26) hx hb dX8_highFor_77 (by decide) ?_
            have hhf2 : (x9_26_3 : Int32).toInt = (hfL f2 p5 p6 x p0.toInt.toNat (k9_26 + 1)).1 := by rw [hfL_s]; first | (rw [if_pos (by omega)]; dsimp only; omega) | (rw [if_neg (by omega)]; omega)
            have hhf3 : (x9_26_4 : Int32).toInt = (hfL f2 p5 p6 x p0.toInt.toNat (k9_26 + 1)).2 := by rw [hfL_s]; first | (rw [if_pos (by omega)]; dsimp only; omega) | (rw [if_neg (by omega)]; omega)
            exact ih_26 (k9_26 + 1) _ _ _ _ _ (by omega) (by omega) (by first | assumption | omega | decide | (simp only [ti_0, ti_1, ti_2, ti_3, ti_4, ti_5, ti_6, ti_7, ti_8, ti_9, ti_10, ti_11, ti_12, ti_m1]; omega)) (by first | assumption | omega | decide | (simp only [ti_0, ti_1, ti_2, ti_3, ti_4, ti_5, ti_6, ti_7, ti_8, ti_9, ti_10, ti_11, ti_12, ti_m1]; omega)) ⟨hP.sub [0, 2, 1] rfl, hD.sub [0, 2, 1] (by decide) rfl⟩ hS (lv_sub hl [0, 2, 3, 4, 5, 6] rfl)
          · have ic_9 : ¬ r_8.toInt = (-1) := ine c_9 (rfl) (by decide)
            refine lv_iload_n hx hb dX8_highFor_56 rfl (lv_at hl 3 rfl) ?_
            refine lv_iconst (v := (-1)) hx hb dX8_highFor_57 (by decide) ?_
            refine lv_icmp_eq (tgt := 67) hx hb dX8_highFor_58 (by decide) (fun c_10 => ?_) (fun c_10 => ?_)
            · have ic_10 : x9_26_3.toInt = (-1) := ieq c_10 (rfl) (by decide)
              refine lv_iload hx hb dX8_highFor_67 (lv_at hl 0 rfl) ?_
              refine lv_istore_n (lv' := [(3, .int r_8), (6, .int r_8), (5, .int (nI k9_26)), (4, .int x9_26_4), (0, .ref h0), (1, .int x), (2, .int y)]) hx hb dX8_highFor_69 rfl hl (by decide) rfl (fun ls hl => ?_)
              refine lv_iload hx hb dX8_highFor_70 (lv_at hl 2 rfl) ?_
              refine lv_istore (lv' := [(4, .int (nI k9_26)), (3, .int r_8), (6, .int r_8), (5, .int (nI k9_26)), (0, .ref h0), (1, .int x), (2, .int y)]) hx hb dX8_highFor_72 hl (by decide) rfl (fun ls hl => ?_)
              refine lv_iinc (v := (nI (k9_26 + 1))) (lv' := [(5, .int (nI (k9_26 + 1))), (4, .int (nI k9_26)), (3, .int r_8), (6, .int r_8), (0, .ref h0), (1, .int x), (2, .int y)]) hx hb dX8_highFor_74 hl (k := 3) rfl (by exact nI_1 (k9_26)) (by decide) rfl (fun ls hl => ?_)
              refine lv_goto (tgt := 26) hx hb dX8_highFor_77 (by decide) ?_
              have hhf2 : (r_8 : Int32).toInt = (hfL f2 p5 p6 x p0.toInt.toNat (k9_26 + 1)).1 := by rw [hfL_s]; first | (rw [if_pos (by omega)]; dsimp only; omega) | (rw [if_neg (by omega)]; omega)
              have hhf3 : ((nI k9_26) : Int32).toInt = (hfL f2 p5 p6 x p0.toInt.toNat (k9_26 + 1)).2 := by rw [hfL_s]; first | (rw [if_pos (by omega)]; dsimp only; omega) | (rw [if_neg (by omega)]; omega)
              exact ih_26 (k9_26 + 1) _ _ _ _ _ (by omega) (by omega) (by first | assumption | omega | decide | (simp only [ti_0, ti_1, ti_2, ti_3, ti_4, ti_5, ti_6, ti_7, ti_8, ti_9, ti_10, ti_11, ti_12, ti_m1]; omega)) (by first | assumption | omega | decide | (simp only [ti_0, ti_1, ti_2, ti_3, ti_4, ti_5, ti_6, ti_7, ti_8, ti_9, ti_10, ti_11, ti_12, ti_m1]; omega)) ⟨hP.sub [0, 2, 1] rfl, hD.sub [0, 2, 1] (by decide) rfl⟩ hS (lv_sub hl [0, 1, 2, 4, 5, 6] rfl)
            · have ic_10 : ¬ x9_26_3.toInt = (-1) := ine c_10 (rfl) (by decide)
              refine lv_iload hx hb dX8_highFor_61 (lv_at hl 0 rfl) ?_
              refine lv_iload_n hx hb dX8_highFor_63 rfl (lv_at hl 3 rfl) ?_
              refine lv_icmp_ge (tgt := 74) hx hb dX8_highFor_64 (by decide) (fun c_11 => ?_) (fun c_11 => ?_)
              · have ic_11 : x9_26_3.toInt ≤ r_8.toInt := ile c_11 (rfl) (rfl)
                refine lv_iinc (v := (nI (k9_26 + 1))) (lv' := [(5, .int (nI (k9_26 + 1))), (6, .int r_8), (4, .int x9_26_4), (3, .int x9_26_3), (0, .ref h0), (1, .int x), (2, .int y)]) hx hb dX8_highFor_74 hl (k := 1) rfl (by exact nI_1 (k9_26)) (by decide) rfl (fun ls hl => ?_)
                refine lv_goto (tgt := 26) hx hb dX8_highFor_77 (by decide) ?_
                have hhf2 : (x9_26_3 : Int32).toInt = (hfL f2 p5 p6 x p0.toInt.toNat (k9_26 + 1)).1 := by rw [hfL_s]; first | (rw [if_pos (by omega)]; dsimp only; omega) | (rw [if_neg (by omega)]; omega)
                have hhf3 : (x9_26_4 : Int32).toInt = (hfL f2 p5 p6 x p0.toInt.toNat (k9_26 + 1)).2 := by rw [hfL_s]; first | (rw [if_pos (by omega)]; dsimp only; omega) | (rw [if_neg (by omega)]; omega)
                exact ih_26 (k9_26 + 1) _ _ _ _ _ (by omega) (by omega) (by first | assumption | omega | decide | (simp only [ti_0, ti_1, ti_2, ti_3, ti_4, ti_5, ti_6, ti_7, ti_8, ti_9, ti_10, ti_11, ti_12, ti_m1]; omega)) (by first | assumption | omega | decide | (simp only [ti_0, ti_1, ti_2, ti_3, ti_4, ti_5, ti_6, ti_7, ti_8, ti_9, ti_10, ti_11, ti_12, ti_m1]; omega)) ⟨hP.sub [0, 2, 1] rfl, hD.sub [0, 2, 1] (by decide) rfl⟩ hS (lv_sub hl [0, 2, 3, 4, 5, 6] rfl)
              · have ic_11 : r_8.toInt < x9_26_3.toInt := inle c_11 (rfl) (rfl)
                refine lv_iload hx hb dX8_highFor_67 (lv_at hl 0 rfl) ?_
                refine lv_istore_n (lv' := [(3, .int r_8), (6, .int r_8), (5, .int (nI k9_26)), (4, .int x9_26_4), (0, .ref h0), (1, .int x), (2, .int y)]) hx hb dX8_highFor_69 rfl hl (by decide) rfl (fun ls hl => ?_)
                refine lv_iload hx hb dX8_highFor_70 (lv_at hl 2 rfl) ?_
                refine lv_istore (lv' := [(4, .int (nI k9_26)), (3, .int r_8), (6, .int r_8), (5, .int (nI k9_26)), (0, .ref h0), (1, .int x), (2, .int y)]) hx hb dX8_highFor_72 hl (by decide) rfl (fun ls hl => ?_)
                refine lv_iinc (v := (nI (k9_26 + 1))) (lv' := [(5, .int (nI (k9_26 + 1))), (4, .int (nI k9_26)), (3, .int r_8), (6, .int r_8), (0, .ref h0), (1, .int x), (2, .int y)]) hx hb dX8_highFor_74 hl (k := 3) rfl (by exact nI_1 (k9_26)) (by decide) rfl (fun ls hl => ?_)
                refine lv_goto (tgt := 26) hx hb dX8_highFor_77 (by decide) ?_
                have hhf2 : (r_8 : Int32).toInt = (hfL f2 p5 p6 x p0.toInt.toNat (k9_26 + 1)).1 := by rw [hfL_s]; first | (rw [if_pos (by omega)]; dsimp only; omega) | (rw [if_neg (by omega)]; omega)
                have hhf3 : ((nI k9_26) : Int32).toInt = (hfL f2 p5 p6 x p0.toInt.toNat (k9_26 + 1)).2 := by rw [hfL_s]; first | (rw [if_pos (by omega)]; dsimp only; omega) | (rw [if_neg (by omega)]; omega)
                exact ih_26 (k9_26 + 1) _ _ _ _ _ (by omega) (by omega) (by first | assumption | omega | decide | (simp only [ti_0, ti_1, ti_2, ti_3, ti_4, ti_5, ti_6, ti_7, ti_8, ti_9, ti_10, ti_11, ti_12, ti_m1]; omega)) (by first | assumption | omega | decide | (simp only [ti_0, ti_1, ti_2, ti_3, ti_4, ti_5, ti_6, ti_7, ti_8, ti_9, ti_10, ti_11, ti_12, ti_m1]; omega)) ⟨hP.sub [0, 2, 1] rfl, hD.sub [0, 2, 1] (by decide) rfl⟩ hS (lv_sub hl [0, 1, 2, 4, 5, 6] rfl)
    · have ic_4 : r_3.toInt = 0 := ieq c_4 (rfl) (by decide)
      refine lv_bipush (v := (-3)) hx hb dX8_highFor_15 (by decide) ?_
      exact x_iret hx hb hr hlk hP hD hS [0, 2, 1] (()) rfl (by decide) ⟨(fun _ => by decide), (fun h7 h8 => by exfalso; first | omega | exact absurd h8 (qr_3_1 (by omega))), trivial⟩ (by decide) (by decide) dX8_highFor_17
