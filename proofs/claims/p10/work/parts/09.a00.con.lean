set_option maxHeartbeats 4000000 in
set_option maxRecDepth 100000 in
theorem g_kindAtR (l : Launch) (D : va_G) (cT : Nat → ClassId) (sz : Nat) (h0 : Nat) (o : Nat) (tb : Nat) (t1 : Int32) (t2 : Int32) (t4 : Int32) (t5 : Int32) (t6 : Int32) (t7 : Int32) (t8 : Int32) (ht4 : 0 ≤ t4.toInt ∧ t4.toInt ≤ 900) (tf : Nat → Int32) (x : Int32) (tx : Nat → Int) (hT : TXc tx t4.toInt tf) : Met l yX6_kindAt (wsc yX6_kindAt cX6_kindAt 3 (some .int)) { frames := 2, cells := 0, slots := 0, locals := 100 } (va_Pc [.ref h0, .int x] (PX D cT sz [(sw_6 h0 o t1 t2 tb t4 t5 t6 t7 t8), (sw_by cT tb 900 tf)])) (va_Qi (fun (r : Int32) (u : Unit) => (0 ≤ r.toInt ∧ r.toInt ≤ 5) ∧ (r.toInt = 0 ∨ (0 ≤ x.toInt ∧ x.toInt < t4.toInt)) ∧ (r.toInt = kdB tx t4.toInt x.toInt) ∧ (True)) (fun u t => RW D (va_A [(sw_6 h0 o t1 t2 tb t4 t5 t6 t7 t8), (sw_by cT tb 900 tf)] sz) ((fun _ : Unit => [(sw_6 h0 o t1 t2 tb t4 t5 t6 t7 t8), (sw_by cT tb 900 tf)]) u) t) (va_A [(sw_6 h0 o t1 t2 tb t4 t5 t6 t7 t8), (sw_by cT tb 900 tf)] sz)) 0 0 (va_A [(sw_6 h0 o t1 t2 tb t4 t5 t6 t7 t8), (sw_by cT tb 900 tf)] sz) := by
  refine m_of (y := yX6_kindAt) (cc := cX6_kindAt) (nL := 3) (ret := (some .int)) (D := D) (cT := cT) (av := [.ref h0, .int x]) (wi := [(sw_6 h0 o t1 t2 tb t4 t5 t6 t7 t8), (sw_by cT tb 900 tf)]) (fun A => va_Qi (fun (r : Int32) (u : Unit) => (0 ≤ r.toInt ∧ r.toInt ≤ 5) ∧ (r.toInt = 0 ∨ (0 ≤ x.toInt ∧ x.toInt < t4.toInt)) ∧ (r.toInt = kdB tx t4.toInt x.toInt) ∧ (True)) (fun u t => RW D A ((fun _ : Unit => [(sw_6 h0 o t1 t2 tb t4 t5 t6 t7 t8), (sw_by cT tb 900 tf)]) u) t) A) (by decide) (Nat.le_of_ble_eq_true rfl) ?_
  intro p e s m below meth c A hx hb hml hown htg hK hN hr hlk hnm hsz hP hD hS hA ls hl
  have hown : s.vm.findClass RX6 = some m.cls := hown
  have hl : lv_has ls 3 [(0, .ref h0), (1, .int x)] := hl
  have t9_0 : (0 : Int32).toInt = 0 := by decide
  have t9_1 : (1 : Int32).toInt = 1 := by decide
  have t9_2 : (2 : Int32).toInt = 2 := by decide
  have t9_3 : (3 : Int32).toInt = 3 := by decide
  have t9_4 : (4 : Int32).toInt = 4 := by decide
  have t9_5 : (5 : Int32).toInt = 5 := by decide
  refine lv_iload_n hx hb dX6_kindAt_0 rfl (lv_at hl 1 rfl) ?_
  refine lv_if_lt (tgt := 12) hx hb dX6_kindAt_1 (by decide) (fun c_1 => ?_) (fun c_1 => ?_)
  · have ic_1 : x.toInt < 0 := ilt c_1 (rfl) (by decide)
    refine lv_iconst (v := 0) hx hb dX6_kindAt_12 (by decide) ?_
    exact x_iret hx hb hr hlk hP hD hS [0, 1] (()) rfl (by decide) ⟨(by first | with_reducible rfl | ((try dsimp only); first | assumption | decide | omega | (simp only [ti_0, ti_1, ti_2, ti_3, ti_4, ti_5, ti_6, ti_7, ti_8, ti_9, ti_10, ti_11, ti_12, ti_m1]; omega))), (by first | with_reducible rfl | ((try dsimp only); first | assumption | decide | omega | (simp only [ti_0, ti_1, ti_2, ti_3, ti_4, ti_5, ti_6, ti_7, ti_8, ti_9, ti_10, ti_11, ti_12, ti_m1]; omega))), (by unfold kdB; rw [if_neg (by omega)]; decide), trivial⟩ (by decide) (by decide) dX6_kindAt_13
  · have ic_1 : 0 ≤ x.toInt := inlt c_1 (rfl) (by decide)
    refine lv_iload_n hx hb dX6_kindAt_4 rfl (lv_at hl 1 rfl) ?_
    refine lv_aload_n hx hb dX6_kindAt_5 rfl (lv_at hl 0 rfl) ?_
    refine va_get (D := D) (ci := 6) (v := .int t4) (C := RX6) (T := TX6) (N := 9) hx hb htg gRX6 hown hK hP 0 rfl rfl 4 (by decide) (htg _ wi_259) (fun _ h9 => h9) rfl dX6_kindAt_6 ?_
    refine lv_icmp_lt (tgt := 14) hx hb dX6_kindAt_9 (by decide) (fun c_2 => ?_) (fun c_2 => ?_)
    · have ic_2 : x.toInt < t4.toInt := ilt c_2 (rfl) (rfl)
      refine lv_aload_n hx hb dX6_kindAt_14 rfl (lv_at hl 0 rfl) ?_
      refine va_get (D := D) (ci := 6) (v := .ref tb) (C := RX6) (T := TX6) (N := 9) hx hb htg gRX6 hown hK hP 0 rfl rfl 3 (by decide) (htg _ wi_258) (fun _ h9 => h9) rfl dX6_kindAt_15 ?_
      refine lv_iload_n hx hb dX6_kindAt_18 rfl (lv_at hl 1 rfl) ?_
      refine va_bald hx hb hK hP 1 2 rfl rfl (vp_in_iff.mpr (by omega)) dX6_kindAt_19 ?_
      refine lv_topi (fun z_3 ez_3 => ?_)
      have hz_3 : cB z_3.toInt = tx x.toInt.toNat := TXc_at hT ez_3 (a := x.toInt) rfl (by omega)
      refine lv_istore_n (lv' := [(2, .int z_3), (0, .ref h0), (1, .int x)]) hx hb dX6_kindAt_20 rfl hl (by decide) rfl (fun ls hl => ?_)
      refine lv_iload_n hx hb dX6_kindAt_21 rfl (lv_at hl 0 rfl) ?_
      refine lv_bipush (v := 97) hx hb dX6_kindAt_22 (by decide) ?_
      refine lv_icmp_lt (tgt := 35) hx hb dX6_kindAt_24 (by decide) (fun c_4 => ?_) (fun c_4 => ?_)
      · have ic_4 : z_3.toInt < 97 := ilt c_4 (rfl) (by decide)
        refine lv_iload_n hx hb dX6_kindAt_35 rfl (lv_at hl 0 rfl) ?_
        refine lv_bipush (v := 48) hx hb dX6_kindAt_36 (by decide) ?_
        refine lv_icmp_lt (tgt := 49) hx hb dX6_kindAt_38 (by decide) (fun c_5 => ?_) (fun c_5 => ?_)
        · have ic_5 : z_3.toInt < 48 := ilt c_5 (rfl) (by decide)
          refine lv_iload_n hx hb dX6_kindAt_49 rfl (lv_at hl 0 rfl) ?_
          refine lv_bipush (v := 10) hx hb dX6_kindAt_50 (by decide) ?_
          refine lv_icmp_eq (tgt := 61) hx hb dX6_kindAt_52 (by decide) (fun c_6 => ?_) (fun c_6 => ?_)
          · have ic_6 : z_3.toInt = 10 := ieq c_6 (rfl) (by decide)
            refine lv_iconst (v := 1) hx hb dX6_kindAt_61 (by decide) ?_
            exact x_iret hx hb hr hlk hP hD hS [0, 1] (()) rfl (by decide) ⟨(by first | with_reducible rfl | ((try dsimp only); first | assumption | decide | omega | (simp only [ti_0, ti_1, ti_2, ti_3, ti_4, ti_5, ti_6, ti_7, ti_8, ti_9, ti_10, ti_11, ti_12, ti_m1]; omega))), (by first | with_reducible rfl | ((try dsimp only); first | assumption | decide | omega | (simp only [ti_0, ti_1, ti_2, ti_3, ti_4, ti_5, ti_6, ti_7, ti_8, ti_9, ti_10, ti_11, ti_12, ti_m1]; omega))), (by first | (exfalso; omega) | (unfold kdB; rw [if_pos (by omega), ← hz_3, clsB_cB]; unfold clsB; (repeat (first | rw [if_pos (by omega)] | rw [if_neg (by omega)])); first | done | decide)), trivial⟩ (by decide) (by decide) dX6_kindAt_62
          · have ic_6 : ¬ z_3.toInt = 10 := ine c_6 (rfl) (by decide)
            refine lv_iload_n hx hb dX6_kindAt_55 rfl (lv_at hl 0 rfl) ?_
            refine lv_bipush (v := 32) hx hb dX6_kindAt_56 (by decide) ?_
            refine lv_icmp_ne (tgt := 63) hx hb dX6_kindAt_58 (by decide) (fun c_7 => ?_) (fun c_7 => ?_)
            · have ic_7 : ¬ z_3.toInt = 32 := ine c_7 (rfl) (by decide)
              refine lv_iload_n hx hb dX6_kindAt_63 rfl (lv_at hl 0 rfl) ?_
              refine lv_bipush (v := 59) hx hb dX6_kindAt_64 (by decide) ?_
              refine lv_icmp_ne (tgt := 73) hx hb dX6_kindAt_66 (by decide) (fun c_8 => ?_) (fun c_8 => ?_)
              · have ic_8 : ¬ z_3.toInt = 59 := ine c_8 (rfl) (by decide)
                refine lv_iconst (v := 5) hx hb dX6_kindAt_73 (by decide) ?_
                exact x_iret hx hb hr hlk hP hD hS [0, 1] (()) rfl (by decide) ⟨(by first | with_reducible rfl | ((try dsimp only); first | assumption | decide | omega | (simp only [ti_0, ti_1, ti_2, ti_3, ti_4, ti_5, ti_6, ti_7, ti_8, ti_9, ti_10, ti_11, ti_12, ti_m1]; omega))), (by first | with_reducible rfl | ((try dsimp only); first | assumption | decide | omega | (simp only [ti_0, ti_1, ti_2, ti_3, ti_4, ti_5, ti_6, ti_7, ti_8, ti_9, ti_10, ti_11, ti_12, ti_m1]; omega))), (by first | (exfalso; omega) | (unfold kdB; rw [if_pos (by omega), ← hz_3, clsB_cB]; unfold clsB; (repeat (first | rw [if_pos (by omega)] | rw [if_neg (by omega)])); first | done | decide)), trivial⟩ (by decide) (by decide) dX6_kindAt_74
              · have ic_8 : z_3.toInt = 59 := ieq c_8 (rfl) (by decide)
                refine lv_iconst (v := 4) hx hb dX6_kindAt_69 (by decide) ?_
                refine lv_goto (tgt := 74) hx hb dX6_kindAt_70 (by decide) ?_
                exact x_iret hx hb hr hlk hP hD hS [0, 1] (()) rfl (by decide) ⟨(by first | with_reducible rfl | ((try dsimp only); first | assumption | decide | omega | (simp only [ti_0, ti_1, ti_2, ti_3, ti_4, ti_5, ti_6, ti_7, ti_8, ti_9, ti_10, ti_11, ti_12, ti_m1]; omega))), (by first | with_reducible rfl | ((try dsimp only); first | assumption | decide | omega | (simp only [ti_0, ti_1, ti_2, ti_3, ti_4, ti_5, ti_6, ti_7, ti_8, ti_9, ti_10, ti_11, ti_12, ti_m1]; omega))), (by first | (exfalso; omega) | (unfold kdB; rw [if_pos (by omega), ← hz_3, clsB_cB]; unfold clsB; (repeat (first | rw [if_pos (by omega)] | rw [if_neg (by omega)])); first | done | decide)), trivial⟩ (by decide) (by decide) dX6_kindAt_74
            · have ic_7 : z_3.toInt = 32 := ieq c_7 (rfl) (by decide)
              refine lv_iconst (v := 1) hx hb dX6_kindAt_61 (by decide) ?_
              exact x_iret hx hb hr hlk hP hD hS [0, 1] (()) rfl (by decide) ⟨(by first | with_reducible rfl | ((try dsimp only); first | assumption | decide | omega | (simp only [ti_0, ti_1, ti_2, ti_3, ti_4, ti_5, ti_6, ti_7, ti_8, ti_9, ti_10, ti_11, ti_12, ti_m1]; omega))), (by first | with_reducible rfl | ((try dsimp only); first | assumption | decide | omega | (simp only [ti_0, ti_1, ti_2, ti_3, ti_4, ti_5, ti_6, ti_7, ti_8, ti_9, ti_10, ti_11, ti_12, ti_m1]; omega))), (by first | (exfalso; omega) | (unfold kdB; rw [if_pos (by omega), ← hz_3, clsB_cB]; unfold clsB; (repeat (first | rw [if_pos (by omega)] | rw [if_neg (by omega)])); first | done | decide)), trivial⟩ (by decide) (by decide) dX6_kindAt_62
        · have ic_5 : 48 ≤ z_3.toInt := inlt c_5 (rfl) (by decide)
          refine lv_iload_n hx hb dX6_kindAt_41 rfl (lv_at hl 0 rfl) ?_
          refine lv_bipush (v := 57) hx hb dX6_kindAt_42 (by decide) ?_
          refine lv_icmp_gt (tgt := 49) hx hb dX6_kindAt_44 (by decide) (fun c_9 => ?_) (fun c_9 => ?_)
          · have ic_9 : 57 < z_3.toInt := ilt c_9 (by decide) (rfl)
            refine lv_iload_n hx hb dX6_kindAt_49 rfl (lv_at hl 0 rfl) ?_
            refine lv_bipush (v := 10) hx hb dX6_kindAt_50 (by decide) ?_
            refine lv_icmp_eq (tgt := 61) hx hb dX6_kindAt_52 (by decide) (fun c_10 => ?_) (fun c_10 => ?_)
            · have ic_10 : z_3.toInt = 10 := ieq c_10 (rfl) (by decide)
              refine lv_iconst (v := 1) hx hb dX6_kindAt_61 (by decide) ?_
              exact x_iret hx hb hr hlk hP hD hS [0, 1] (()) rfl (by decide) ⟨(by first | with_reducible rfl | ((try dsimp only); first | assumption | decide | omega | (simp only [ti_0, ti_1, ti_2, ti_3, ti_4, ti_5, ti_6, ti_7, ti_8, ti_9, ti_10, ti_11, ti_12, ti_m1]; omega))), (by first | with_reducible rfl | ((try dsimp only); first | assumption | decide | omega | (simp only [ti_0, ti_1, ti_2, ti_3, ti_4, ti_5, ti_6, ti_7, ti_8, ti_9, ti_10, ti_11, ti_12, ti_m1]; omega))), (by first | (exfalso; omega) | (unfold kdB; rw [if_pos (by omega), ← hz_3, clsB_cB]; unfold clsB; (repeat (first | rw [if_pos (by omega)] | rw [if_neg (by omega)])); first | done | decide)), trivial⟩ (by decide) (by decide) dX6_kindAt_62
            · have ic_10 : ¬ z_3.toInt = 10 := ine c_10 (rfl) (by decide)
              refine lv_iload_n hx hb dX6_kindAt_55 rfl (lv_at hl 0 rfl) ?_
              refine lv_bipush (v := 32) hx hb dX6_kindAt_56 (by decide) ?_
              refine lv_icmp_ne (tgt := 63) hx hb dX6_kindAt_58 (by decide) (fun c_11 => ?_) (fun c_11 => ?_)
              · have ic_11 : ¬ z_3.toInt = 32 := ine c_11 (rfl) (by decide)
                refine lv_iload_n hx hb dX6_kindAt_63 rfl (lv_at hl 0 rfl) ?_
                refine lv_bipush (v := 59) hx hb dX6_kindAt_64 (by decide) ?_
                refine lv_icmp_ne (tgt := 73) hx hb dX6_kindAt_66 (by decide) (fun c_12 => ?_) (fun c_12 => ?_)
                · have ic_12 : ¬ z_3.toInt = 59 := ine c_12 (rfl) (by decide)
                  refine lv_iconst (v := 5) hx hb dX6_kindAt_73 (by decide) ?_
                  exact x_iret hx hb hr hlk hP hD hS [0, 1] (()) rfl (by decide) ⟨(by first | with_reducible rfl | ((try dsimp only); first | assumption | decide | omega | (simp only [ti_0, ti_1, ti_2, ti_3, ti_4, ti_5, ti_6, ti_7, ti_8, ti_9, ti_10, ti_11, ti_12, ti_m1]; omega))), (by first | with_reducible rfl | ((try dsimp only); first | assumption | decide | omega | (simp only [ti_0, ti_1, ti_2, ti_3, ti_4, ti_5, ti_6, ti_7, ti_8, ti_9, ti_10, ti_11, ti_12, ti_m1]; omega))), (by first | (exfalso; omega) | (unfold kdB; rw [if_pos (by omega), ← hz_3, clsB_cB]; unfold clsB; (repeat (first | rw [if_pos (by omega)] | rw [if_neg (by omega)])); first | done | decide)), trivial⟩ (by decide) (by decide) dX6_kindAt_74
                · have ic_12 : z_3.toInt = 59 := ieq c_12 (rfl) (by decide)
                  refine lv_iconst (v := 4) hx hb dX6_kindAt_69 (by decide) ?_
                  refine lv_goto (tgt := 74) hx hb dX6_kindAt_70 (by decide) ?_
                  exact x_iret hx hb hr hlk hP hD hS [0, 1] (()) rfl (by decide) ⟨(by first | with_reducible rfl | ((try dsimp only); first | assumption | decide | omega | (simp only [ti_0, ti_1, ti_2, ti_3, ti_4, ti_5, ti_6, ti_7, ti_8, ti_9, ti_10, ti_11, ti_12, ti_m1]; omega))), (by first | with_reducible rfl | ((try dsimp only); first | assumption | decide | omega | (simp only [ti_0, ti_1, ti_2, ti_3, ti_4, ti_5, ti_6, ti_7, ti_8, ti_9, ti_10, ti_11, ti_12, ti_m1]; omega))), (by first | (exfalso; omega) | (unfold kdB; rw [if_pos (by omega), ← hz_3, clsB_cB]; unfold clsB; (repeat (first | rw [if_pos (by omega)] | rw [if_neg (by omega)])); first | done | decide)), trivial⟩ (by decide) (by decide) dX6_kindAt_74
              · have ic_11 : z_3.toInt = 32 := ieq c_11 (rfl) (by decide)
                refine lv_iconst (v := 1) hx hb dX6_kindAt_61 (by decide) ?_
                exact x_iret hx hb hr hlk hP hD hS [0, 1] (()) rfl (by decide) ⟨(by first | with_reducible rfl | ((try dsimp only); first | assumption | decide | omega | (simp only [ti_0, ti_1, ti_2, ti_3, ti_4, ti_5, ti_6, ti_7, ti_8, ti_9, ti_10, ti_11, ti_12, ti_m1]; omega))), (by first | with_reducible rfl | ((try dsimp only); first | assumption | decide | omega | (simp only [ti_0, ti_1, ti_2, ti_3, ti_4, ti_5, ti_6, ti_7, ti_8, ti_9, ti_10, ti_11, ti_12, ti_m1]; omega))), (by first | (exfalso; omega) | (unfold kdB; rw [if_pos (by omega), ← hz_3, clsB_cB]; unfold clsB; (repeat (first | rw [if_pos (by omega)] | rw [if_neg (by omega)])); first | done | decide)), trivial⟩ (by decide) (by decide) dX6_kindAt_62
          · have ic_9 : z_3.toInt ≤ 57 := inlt c_9 (by decide) (rfl)
            refine lv_iconst (v := 3) hx hb dX6_kindAt_47 (by decide) ?_
            exact x_iret hx hb hr hlk hP hD hS [0, 1] (()) rfl (by decide) ⟨(by first | with_reducible rfl | ((try dsimp only); first | assumption | decide | omega | (simp only [ti_0, ti_1, ti_2, ti_3, ti_4, ti_5, ti_6, ti_7, ti_8, ti_9, ti_10, ti_11, ti_12, ti_m1]; omega))), (by first | with_reducible rfl | ((try dsimp only); first | assumption | decide | omega | (simp only [ti_0, ti_1, ti_2, ti_3, ti_4, ti_5, ti_6, ti_7, ti_8, ti_9, ti_10, ti_11, ti_12, ti_m1]; omega))), (by first | (exfalso; omega) | (unfold kdB; rw [if_pos (by omega), ← hz_3, clsB_cB]; unfold clsB; (repeat (first | rw [if_pos (by omega)] | rw [if_neg (by omega)])); first | done | decide)), trivial⟩ (by decide) (by decide) dX6_kindAt_48
      · have ic_4 : 97 ≤ z_3.toInt := inlt c_4 (rfl) (by decide)
        refine lv_iload_n hx hb dX6_kindAt_27 rfl (lv_at hl 0 rfl) ?_
        refine lv_bipush (v := 122) hx hb dX6_kindAt_28 (by decide) ?_
        refine lv_icmp_gt (tgt := 35) hx hb dX6_kindAt_30 (by decide) (fun c_13 => ?_) (fun c_13 => ?_)
        · have ic_13 : 122 < z_3.toInt := ilt c_13 (by decide) (rfl)
          refine lv_iload_n hx hb dX6_kindAt_35 rfl (lv_at hl 0 rfl) ?_
          refine lv_bipush (v := 48) hx hb dX6_kindAt_36 (by decide) ?_
          refine lv_icmp_lt (tgt := 49) hx hb dX6_kindAt_38 (by decide) (fun c_14 => ?_) (fun c_14 => ?_)
          · have ic_14 : z_3.toInt < 48 := ilt c_14 (rfl) (by decide)
            refine lv_iload_n hx hb dX6_kindAt_49 rfl (lv_at hl 0 rfl) ?_
            refine lv_bipush (v := 10) hx hb dX6_kindAt_50 (by decide) ?_
            refine lv_icmp_eq (tgt := 61) hx hb dX6_kindAt_52 (by decide) (fun c_15 => ?_) (fun c_15 => ?_)
            · have ic_15 : z_3.toInt = 10 := ieq c_15 (rfl) (by decide)
              refine lv_iconst (v := 1) hx hb dX6_kindAt_61 (by decide) ?_
              exact x_iret hx hb hr hlk hP hD hS [0, 1] (()) rfl (by decide) ⟨(by first | with_reducible rfl | ((try dsimp only); first | assumption | decide | omega | (simp only [ti_0, ti_1, ti_2, ti_3, ti_4, ti_5, ti_6, ti_7, ti_8, ti_9, ti_10, ti_11, ti_12, ti_m1]; omega))), (by first | with_reducible rfl | ((try dsimp only); first | assumption | decide | omega | (simp only [ti_0, ti_1, ti_2, ti_3, ti_4, ti_5, ti_6, ti_7, ti_8, ti_9, ti_10, ti_11, ti_12, ti_m1]; omega))), (by first | (exfalso; omega) | (unfold kdB; rw [if_pos (by omega), ← hz_3, clsB_cB]; unfold clsB; (repeat (first | rw [if_pos (by omega)] | rw [if_neg (by omega)])); first | done | decide)), trivial⟩ (by decide) (by decide) dX6_kindAt_62
            · have ic_15 : ¬ z_3.toInt = 10 := ine c_15 (rfl) (by decide)
              refine lv_iload_n hx hb dX6_kindAt_55 rfl (lv_at hl 0 rfl) ?_
              refine lv_bipush (v := 32) hx hb dX6_kindAt_56 (by decide) ?_
              refine lv_icmp_ne (tgt := 63) hx hb dX6_kindAt_58 (by decide) (fun c_16 => ?_) (fun c_16 => ?_)
              · have ic_16 : ¬ z_3.toInt = 32 := ine c_16 (rfl) (by decide)
                refine lv_iload_n hx hb dX6_kindAt_63 rfl (lv_at hl 0 rfl) ?_
                refine lv_bipush (v := 59) hx hb dX6_kindAt_64 (by decide) ?_
                refine lv_icmp_ne (tgt := 73) hx hb dX6_kindAt_66 (by decide) (fun c_17 => ?_) (fun c_17 => ?_)
                · have ic_17 : ¬ z_3.toInt = 59 := ine c_17 (rfl) (by decide)
                  refine lv_iconst (v := 5) hx hb dX6_kindAt_73 (by decide) ?_
                  exact x_iret hx hb hr hlk hP hD hS [0, 1] (()) rfl (by decide) ⟨(by first | with_reducible rfl | ((try dsimp only); first | assumption | decide | omega | (simp only [ti_0, ti_1, ti_2, ti_3, ti_4, ti_5, ti_6, ti_7, ti_8, ti_9, ti_10, ti_11, ti_12, ti_m1]; omega))), (by first | with_reducible rfl | ((try dsimp only); first | assumption | decide | omega | (simp only [ti_0, ti_1, ti_2, ti_3, ti_4, ti_5, ti_6, ti_7, ti_8, ti_9, ti_10, ti_11, ti_12, ti_m1]; omega))), (by first | (exfalso; omega) | (unfold kdB; rw [if_pos (by omega), ← hz_3, clsB_cB]; unfold clsB; (repeat (first | rw [if_pos (by omega)] | rw [if_neg (by omega)])); first | done | decide)), trivial⟩ (by decide) (by decide) dX6_kindAt_74
                · have ic_17 : z_3.toInt = 59 := ieq c_17 (rfl) (by decide)
                  refine lv_iconst (v := 4) hx hb dX6_kindAt_69 (by decide) ?_
                  refine lv_goto (tgt := 74) hx hb dX6_kindAt_70 (by decide) ?_
                  exact x_iret hx hb hr hlk hP hD hS [0, 1] (()) rfl (by decide) ⟨(by first | with_reducible rfl | ((try dsimp only); first | assumption | decide | omega | (simp only [ti_0, ti_1, ti_2, ti_3, ti_4, ti_5, ti_6, ti_7, ti_8, ti_9, ti_10, ti_11, ti_12, ti_m1]; omega))), (by first | with_reducible rfl | ((try dsimp only); first | assumption | decide | omega | (simp only [ti_0, ti_1, ti_2, ti_3, ti_4, ti_5, ti_6, ti_7, ti_8, ti_9, ti_10, ti_11, ti_12, ti_m1]; omega))), (by first | (exfalso; omega) | (unfold kdB; rw [if_pos (by omega), ← hz_3, clsB_cB]; unfold clsB; (repeat (first | rw [if_pos (by omega)] | rw [if_neg (by omega)])); first | done | decide)), trivial⟩ (by decide) (by decide) dX6_kindAt_74
              · have ic_16 : z_3.toInt = 32 := ieq c_16 (rfl) (by decide)
                refine lv_iconst (v := 1) hx hb dX6_kindAt_61 (by decide) ?_
                exact x_iret hx hb hr hlk hP hD hS [0, 1] (()) rfl (by decide) ⟨(by first | with_reducible rfl | ((try dsimp only); first | assumption | decide | omega | (simp only [ti_0, ti_1, ti_2, ti_3, ti_4, ti_5, ti_6, ti_7, ti_8, ti_9, ti_10, ti_11, ti_12, ti_m1]; omega))), (by first | with_reducible rfl | ((try dsimp only); first | assumption | decide | omega | (simp only [ti_0, ti_1, ti_2, ti_3, ti_4, ti_5, ti_6, ti_7, ti_8, ti_9, ti_10, ti_11, ti_12, ti_m1]; omega))), (by first | (exfalso; omega) | (unfold kdB; rw [if_pos (by omega), ← hz_3, clsB_cB]; unfold clsB; (repeat (first | rw [if_pos (by omega)] | rw [if_neg (by omega)])); first | done | decide)), trivial⟩ (by decide) (by decide) dX6_kindAt_62
          · have ic_14 : 48 ≤ z_3.toInt := inlt c_14 (rfl) (by decide)
            refine lv_iload_n hx hb dX6_kindAt_41 rfl (lv_at hl 0 rfl) ?_
            refine lv_bipush (v := 57) hx hb dX6_kindAt_42 (by decide) ?_
            refine lv_icmp_gt (tgt := 49) hx hb dX6_kindAt_44 (by decide) (fun c_18 => ?_) (fun c_18 => ?_)
            · have ic_18 : 57 < z_3.toInt := ilt c_18 (by decide) (rfl)
              refine lv_iload_n hx hb dX6_kindAt_49 rfl (lv_at hl 0 rfl) ?_
              refine lv_bipush (v := 10) hx hb dX6_kindAt_50 (by decide) ?_
              refine lv_icmp_eq (tgt := 61) hx hb dX6_kindAt_52 (by decide) (fun c_19 => ?_) (fun c_19 => ?_)
              · have ic_19 : z_3.toInt = 10 := ieq c_19 (rfl) (by decide)
                refine lv_iconst (v := 1) hx hb dX6_kindAt_61 (by decide) ?_
                exact x_iret hx hb hr hlk hP hD hS [0, 1] (()) rfl (by decide) ⟨(by first | with_reducible rfl | ((try dsimp only); first | assumption | decide | omega | (simp only [ti_0, ti_1, ti_2, ti_3, ti_4, ti_5, ti_6, ti_7, ti_8, ti_9, ti_10, ti_11, ti_12, ti_m1]; omega))), (by first | with_reducible rfl | ((try dsimp only); first | assumption | decide | omega | (simp only [ti_0, ti_1, ti_2, ti_3, ti_4, ti_5, ti_6, ti_7, ti_8, ti_9, ti_10, ti_11, ti_12, ti_m1]; omega))), (by first | (exfalso; omega) | (unfold kdB; rw [if_pos (by omega), ← hz_3, clsB_cB]; unfold clsB; (repeat (first | rw [if_pos (by omega)] | rw [if_neg (by omega)])); first | done | decide)), trivial⟩ (by decide) (by decide) dX6_kindAt_62
              · have ic_19 : ¬ z_3.toInt = 10 := ine c_19 (rfl) (by decide)
                refine lv_iload_n hx hb dX6_kindAt_55 rfl (lv_at hl 0 rfl) ?_
                refine lv_bipush (v := 32) hx hb dX6_kindAt_56 (by decide) ?_
                refine lv_icmp_ne (tgt := 63) hx hb dX6_kindAt_58 (by decide) (fun c_20 => ?_) (fun c_20 => ?_)
                · have ic_20 : ¬ z_3.toInt = 32 := ine c_20 (rfl) (by decide)
                  refine lv_iload_n hx hb dX6_kindAt_63 rfl (lv_at hl 0 rfl) ?_
                  refine lv_bipush (v := 59) hx hb dX6_kindAt_64 (by decide) ?_
                  refine lv_icmp_ne (tgt := 73) hx hb dX6_kindAt_66 (by decide) (fun c_21 => ?_) (fun c_21 => ?_)
                  · have ic_21 : ¬ z_3.toInt = 59 := ine c_21 (rfl) (by decide)
                    refine lv_iconst (v := 5) hx hb dX6_kindAt_73 (by decide) ?_
                    exact x_iret hx hb hr hlk hP hD hS [0, 1] (()) rfl (by decide) ⟨(by first | with_reducible rfl | ((try dsimp only); first | assumption | decide | omega | (simp only [ti_0, ti_1, ti_2, ti_3, ti_4, ti_5, ti_6, ti_7, ti_8, ti_9, ti_10, ti_11, ti_12, ti_m1]; omega))), (by first | with_reducible rfl | ((try dsimp only); first | assumption | decide | omega | (simp only [ti_0, ti_1, ti_2, ti_3, ti_4, ti_5, ti_6, ti_7, ti_8, ti_9, ti_10, ti_11, ti_12, ti_m1]; omega))), (by first | (exfalso; omega) | (unfold kdB; rw [if_pos (by omega), ← hz_3, clsB_cB]; unfold clsB; (repeat (first | rw [if_pos (by omega)] | rw [if_neg (by omega)])); first | done | decide)), trivial⟩ (by decide) (by decide) dX6_kindAt_74
                  · have ic_21 : z_3.toInt = 59 := ieq c_21 (rfl) (by decide)
                    refine lv_iconst (v := 4) hx hb dX6_kindAt_69 (by decide) ?_
                    refine lv_goto (tgt := 74) hx hb dX6_kindAt_70 (by decide) ?_
                    exact x_iret hx hb hr hlk hP hD hS [0, 1] (()) rfl (by decide) ⟨(by first | with_reducible rfl | ((try dsimp only); first | assumption | decide | omega | (simp only [ti_0, ti_1, ti_2, ti_3, ti_4, ti_5, ti_6, ti_7, ti_8, ti_9, ti_10, ti_11, ti_12, ti_m1]; omega))), (by first | with_reducible rfl | ((try dsimp only); first | assumption | decide | omega | (simp only [ti_0, ti_1, ti_2, ti_3, ti_4, ti_5, ti_6, ti_7, ti_8, ti_9, ti_10, ti_11, ti_12, ti_m1]; omega))), (by first | (exfalso; omega) | (unfold kdB; rw [if_pos (by omega), ← hz_3, clsB_cB]; unfold clsB; (repeat (first | rw [if_pos (by omega)] | rw [if_neg (by omega)])); first | done | decide)), trivial⟩ (by decide) (by decide) dX6_kindAt_74
                · have ic_20 : z_3.toInt = 32 := ieq c_20 (rfl) (by decide)
                  refine lv_iconst (v := 1) hx hb dX6_kindAt_61 (by decide) ?_
                  exact x_iret hx hb hr hlk hP hD hS [0, 1] (()) rfl (by decide) ⟨(by first | with_reducible rfl | ((try dsimp only); first | assumption | decide | omega | (simp only [ti_0, ti_1, ti_2, ti_3, ti_4, ti_5, ti_6, ti_7, ti_8, ti_9, ti_10, ti_11, ti_12, ti_m1]; omega))), (by first | with_reducible rfl | ((try dsimp only); first | assumption | decide | omega | (simp only [ti_0, ti_1, ti_2, ti_3, ti_4, ti_5, ti_6, ti_7, ti_8, ti_9, ti_10, ti_11, ti_12, ti_m1]; omega))), (by first | (exfalso; omega) | (unfold kdB; rw [if_pos (by omega), ← hz_3, clsB_cB]; unfold clsB; (repeat (first | rw [if_pos (by omega)] | rw [if_neg (by omega)])); first | done | decide)), trivial⟩ (by decide) (by decide) dX6_kindAt_62
            · have ic_18 : z_3.toInt ≤ 57 := inlt c_18 (by decide) (rfl)
              refine lv_iconst (v := 3) hx hb dX6_kindAt_47 (by decide) ?_
              exact x_iret hx hb hr hlk hP hD hS [0, 1] (()) rfl (by decide) ⟨(by first | with_reducible rfl | ((try dsimp only); first | assumption | decide | omega | (simp only [ti_0, ti_1, ti_2, ti_3, ti_4, ti_5, ti_6, ti_7, ti_8, ti_9, ti_10, ti_11, ti_12, ti_m1]; omega))), (by first | with_reducible rfl | ((try dsimp only); first | assumption | decide | omega | (simp only [ti_0, ti_1, ti_2, ti_3, ti_4, ti_5, ti_6, ti_7, ti_8, ti_9, ti_10, ti_11, ti_12, ti_m1]; omega))), (by first | (exfalso; omega) | (unfold kdB; rw [if_pos (by omega), ← hz_3, clsB_cB]; unfold clsB; (repeat (first | rw [if_pos (by omega)] | rw [if_neg (by omega)])); first | done | decide)), trivial⟩ (by decide) (by decide) dX6_kindAt_48
        · have ic_13 : z_3.toInt ≤ 122 := inlt c_13 (by decide) (rfl)
          refine lv_iconst (v := 2) hx hb dX6_kindAt_33 (by decide) ?_
          exact x_iret hx hb hr hlk hP hD hS [0, 1] (()) rfl (by decide) ⟨(by first | with_reducible rfl | ((try dsimp only); first | assumption | decide | omega | (simp only [ti_0, ti_1, ti_2, ti_3, ti_4, ti_5, ti_6, ti_7, ti_8, ti_9, ti_10, ti_11, ti_12, ti_m1]; omega))), (by first | with_reducible rfl | ((try dsimp only); first | assumption | decide | omega | (simp only [ti_0, ti_1, ti_2, ti_3, ti_4, ti_5, ti_6, ti_7, ti_8, ti_9, ti_10, ti_11, ti_12, ti_m1]; omega))), (by first | (exfalso; omega) | (unfold kdB; rw [if_pos (by omega), ← hz_3, clsB_cB]; unfold clsB; (repeat (first | rw [if_pos (by omega)] | rw [if_neg (by omega)])); first | done | decide)), trivial⟩ (by decide) (by decide) dX6_kindAt_34
    · have ic_2 : t4.toInt ≤ x.toInt := inlt c_2 (rfl) (rfl)
      refine lv_iconst (v := 0) hx hb dX6_kindAt_12 (by decide) ?_
      exact x_iret hx hb hr hlk hP hD hS [0, 1] (()) rfl (by decide) ⟨(by first | with_reducible rfl | ((try dsimp only); first | assumption | decide | omega | (simp only [ti_0, ti_1, ti_2, ti_3, ti_4, ti_5, ti_6, ti_7, ti_8, ti_9, ti_10, ti_11, ti_12, ti_m1]; omega))), (by first | with_reducible rfl | ((try dsimp only); first | assumption | decide | omega | (simp only [ti_0, ti_1, ti_2, ti_3, ti_4, ti_5, ti_6, ti_7, ti_8, ti_9, ti_10, ti_11, ti_12, ti_m1]; omega))), (by unfold kdB; rw [if_neg (by omega)]; decide), trivial⟩ (by decide) (by decide) dX6_kindAt_13
