set_option maxHeartbeats 4000000 in
set_option maxRecDepth 100000 in
theorem g_kindAtR (l : Launch) (D : va_G) (cT : Nat → ClassId) (sz : Nat) (h0 : Nat) (o : Nat) (tb : Nat) (t1 : Int32) (t2 : Int32) (t4 : Int32) (t5 : Int32) (t6 : Int32) (t7 : Int32) (t8 : Int32) (ht4 : 0 ≤ t4.toInt ∧ t4.toInt ≤ 900) (tf : Nat → Int32) (x : Int32) (tx : Nat → Int) (hT : TXc tx t4.toInt tf) : Met l yX6_kindAt (wsc yX6_kindAt cX6_kindAt 3 (some .int)) { frames := 2, cells := 0, slots := 0, locals := 100 } (va_Pc [.ref h0, .int x] (PX D cT sz [(sw_6 h0 o t1 t2 tb t4 t5 t6 t7 t8), (sw_by cT tb 900 tf)])) (va_Qi (fun (r : Int32) (u : Unit) => (0 ≤ r.toInt ∧ r.toInt ≤ 5) ∧ (r.toInt = 0 ∨ (0 ≤ x.toInt ∧ x.toInt < t4.toInt)) ∧ (r.toInt = kdB tx t4.toInt x.toInt) ∧ (True)) (fun u t => RW D (va_A [(sw_6 h0 o t1 t2 tb t4 t5 t6 t7 t8), (sw_by cT tb 900 tf)] sz) ((fun _ : Unit => [(sw_6 h0 o t1 t2 tb t4 t5 t6 t7 t8), (sw_by cT tb 900 tf)]) u) t) (va_A [(sw_6 h0 o t1 t2 tb t4 t5 t6 t7 t8), (sw_by cT tb 900 tf)] sz)) 0 0 (va_A [(sw_6 h0 o t1 t2 tb t4 t5 t6 t7 t8), (sw_by cT tb 900 tf)] sz) := by
  refine m_of (y := yX6_kindAt) (cc := cX6_kindAt) (nL := 3) (ret := (some .int)) (D := D) (cT := cT) (av := [.ref h0, .int x]) (wi := [(sw_6 h0 o t1 t2 tb t4 t5 t6 t7 t8), (sw_by cT tb 900 tf)]) (fun A => va_Qi (fun (r : Int32) (u : Unit) => (0 ≤ r.toInt ∧ r.toInt ≤ 5) ∧ (r.toInt = 0 ∨ (0 ≤ x.toInt ∧ x.toInt < t4.toInt)) ∧ (r.toInt = kdB tx t4.toInt x.toInt) ∧ (True)) (fun u t => RW D A ((fun _ : Unit => [(sw_6 h0 o t1 t2 tb t4 t5 t6 t7 t8), (sw_by cT tb 900 tf)]) u) t) A) (by decide) (Nat.le_of_ble_eq_true rfl) ?_
  intro p e s m below meth c A hx hb hml hown htg hK hN hr hlk hnm hsz hP hD hS hA ls hl
  have hown : s.vm.findClass RX6 = some m.cls := hown
  have hl : lv_has ls 3 [(0, .ref h0), (1, .int x)] := hl
  have t9_0 : (0 : Int32).toInt = 0 := by decide
  have t9_1 : (1 : Int32).toInt = 1 := by decide
  have t9_2 : (2 : Int32).toInt = 2 := by decide
  have t9_3 : (3 : Int32).toInt = 3 := by decide
  have t9_4 : (4 : Int32).toInt = 4 := by decide
  have t9_5 : (5 : Int32).toInt = 5 := by decide
  refine lv_iload_n hx hb dX6_kindAt_0 rfl (lv_at hl 1 rfl) ?_
  refine lv_if_lt (tgt := 12) hx hb dX6_kindAt_1 (by decide) (fun c_1 => ?_) (fun c_1 => ?_)
  · have ic_1 : x.toInt < 0 := ilt c_1 (rfl) (by decide)
    refine lv_iconst (v := 0) hx hb dX6_kindAt_12 (by decide) ?_
    exact x_iret hx hb hr hlk hP hD hS [0, 1] (()) rfl (by decide) ⟨(by first | with_reducible rfl | ((try dsimp only); first | assumption | decide | omega | (simp only [ti_0, ti_1, ti_2, ti_3, ti_4, ti_5, ti_6, ti_7, ti_8, ti_9, ti_10, ti_11, ti_12, ti_m1]; omega))), (by first | with_reducible rfl | ((try dsimp only); first | assumption | decide | omega | (simp only [ti_0, ti_1, ti_2, ti_3, ti_4, ti_5, ti_6, ti_7, ti_8, ti_9, ti_10, ti_11, ti_12, ti_m1]; omega))), (by unfold kdB; rw [if_neg (by omega)]; decide), trivial⟩ (by decide) (by decide) dX6_kindAt_13
  · have ic_1 : 0 ≤ x.toInt := inlt c_1 (rfl) (by decide)
    refine lv_iload_n hx hb dX6_kindAt_4 rfl (lv_at hl 1 rfl) ?_
    refine lv_aload_n hx hb dX6_kindAt_5 rfl (lv_at hl 0 rfl) ?_
    refine va_get (D := D) (ci := 6) (v := .int t4) (C := RX6) (T := TX6) (N := 9) hx hb htg gRX6 hown hK hP 0 rfl rfl 4 (by decide) (htg _ wi_259) (fun _ h9 => h9) rfl dX6_kindAt_6 ?_
    refine lv_icmp_lt (tgt := 14) hx hb dX6_kindAt_9 (by decide) (fun c_2 => ?_) (fun c_2 => ?_)
    · have ic_2 : x.toInt < t4.toInt := ilt c_2 (rfl) (rfl)
      refine lv_aload_n hx hb dX6_kindAt_14 rfl (lv_at hl 0 rfl) ?_
      refine va_get (D := D) (ci := 6) (v := .ref tb) (C := RX6) (T := TX6) (N := 9) hx hb htg gRX6 hown hK hP 0 rfl rfl 3 (by decide) (htg _ wi_258) (fun _ h9 => h9) rfl dX6_kindAt_15 ?_
      refine lv_iload_n hx hb dX6_kindAt_18 rfl (lv_at hl 1 rfl) ?_
      refine va_bald hx hb hK hP 1 2 rfl rfl (vp_in_iff.mpr (by omega)) dX6_kindAt_19 ?_
      refine lv_topi (fun z_3 ez_3 => ?_)
      have hz_3 : cB z_3.toInt = tx x.toInt.toNat := TXc_at hT ez_3 (a := x.toInt) rfl (by omega)
      refine lv_istore_n (lv' := [(2, .int z_3), (0, .ref h0), (1, .int x)]) hx hb dX6_kindAt_20 rfl hl (by decide) rfl (fun ls hl => ?_)
      refine lv_iload_n hx hb dX6_kindAt_21 rfl (lv_at hl 0 rfl) ?_
      refine lv_bipush (v := 97) hx hb dX6_kindAt_22 (by decide) ?_
      refine lv_icmp_lt (tgt := 35) hx hb dX6_kindAt_24 (by decide) (fun c_4 => ?_) (fun c_4 => ?_)
      · have ic_4 : z_3.toInt < 97 := ilt c_4 (rfl) (by decide)
        refine lv_iload_n hx hb dX6_kindAt_35 rfl (lv_at hl 0 rfl) ?_
        refine lv_bipush (v := 48) hx hb dX6_kindAt_36 (by decide) ?_
        refine lv_icmp_lt (tgt := 49) hx hb dX6_kindAt_38 (by decide) (fun c_5 => ?_) (fun c_5 => ?_)
        · have ic_5 : z_3.toInt < 48 := ilt c_5 (rfl) (by decide)
          refine lv_iload_n hx hb dX6_kindAt_49 rfl (lv_at hl 0 rfl) ?_
          refine lv_bipush (v := 10) hx hb dX6_kindAt_50 (by decide) ?_
          refine lv_icmp_eq (tgt := 61) hx hb dX6_kindAt_52 (by decide) (fun c_6 => ?_) (fun c_6 => ?_)
          · have ic_6 : z_3.toInt = 10 := ieq c_6 (rfl) (by decide)
            refine lv_iconst (v := 1) hx hb dX6_kindAt_61 (by decide) ?_
            exact x_iret hx hb hr hlk hP hD hS [0, 1] (()) rfl (by decide) ⟨(by first | with_reducible rfl | ((try dsimp only); first | assumption | decide | omega | (simp only [ti_0, ti_1, ti_2, ti_3, ti_4, ti_5, ti_6, ti_7, ti_8, ti_9, ti_10, ti_11, ti_12, ti_m1]; omega))), (by first | with_reducible rfl | ((try dsimp only); first | assumption | decide | omega | (simp only [ti_0, ti_1, ti_2, ti_3, ti_4, ti_5, ti_6, ti_7, ti_8, ti_9, ti_10, ti_11, ti_12, ti_m1]; omega))), (by first | (exfalso; omega) | (unfold kdB; rw [if_pos (by omega), ← hz_3, clsB_cB]; unfold clsB; (repeat (first | rw [if_pos (by omega)] | rw [if_neg (by omega)])); first | done | decide)), trivial⟩ (by decide) (by decide) dX6_kindAt_62
          · have ic_6 : ¬ z_3.toInt = 10 := ine c_6 (rfl) (by decide)
            refine lv_iload_n hx hb dX6_kindAt_55 rfl (lv_at hl 0 rfl) ?_
            refine lv_bipush (v := 32) hx hb dX6_kindAt_56 (by decide) ?_
            refine lv_icmp_ne (tgt := 63) hx hb dX6_kindAt_58 (by decide) (fun c_7 => ?_) (fun c_7 => ?_)
            · have ic_7 : ¬ z_3.toInt = 32 := ine c_7 (rfl) (by decide)
              refine lv_iload_n hx hb dX6_kindAt_63 rfl (lv_at hl 0 rfl) ?_
              refine lv_bipush (v := 59) hx hb dX6_kindAt_64 (by decide) ?_
              refine lv_icmp_ne (tgt := 73) hx hb dX6_kindAt_66 (by decide) (fun c_8 => ?_) (fun c_8 => ?_)
              · have ic_8 : ¬ z_3.toInt = 59 := ine c_8 (rfl) (by decide)
                refine lv_iconst (v := 5) hx hb dX6_kindAt_73 (by decide) ?_
                exact x_iret hx hb hr hlk hP hD hS [0, 1] (()) rfl (by decide) ⟨(by first | with_reducible rfl | ((try dsimp only); first | assumption | decide | omega | (simp only [ti_0, ti_1, ti_2, ti_3, ti_4, ti_5, ti_6, ti_7, ti_8, ti_9, ti_10, ti_11, ti_12, ti_m1]; omega))), (by first | with_reducible rfl | ((try dsimp only); first | assumption | decide | omega | (simp only [ti_0, ti_1, ti_2, ti_3, ti_4, ti_5, ti_6, ti_7, ti_8, ti_9, ti_10, ti_11, ti_12, ti_m1]; omega))), (by first | (exfalso; omega) | (unfold kdB; rw [if_pos (by omega), ← hz_3, clsB_cB]; unfold clsB; (repeat (first | rw [if_pos (by omega)] | rw [if_neg (by omega)])); first | done | decide)), trivial⟩ (by decide) (by decide) dX6_kindAt_74
              · have ic_8 : z_3.toInt = 59 := ieq c_8 (rfl) (by decide)
                refine lv_iconst (v := 4) hx hb dX6_kindAt_69 (by decide) ?_
                refine lv_goto (tgt := 74) hx hb dX6_kindAt_70 (by decide) ?_
                exact x_iret hx hb hr hlk hP hD hS [0, 1] (()) rfl (by decide) ⟨(by first | with_reducible rfl | ((try dsimp only); first | assumption | decide | omega | (simp only [ti_0, ti_1, ti_2, ti_3, ti_4, ti_5, ti_6, ti_7, ti_8, ti_9, ti_10, ti_11, ti_12, ti_m1]; omega))), (by first | with_reducible rfl | ((try dsimp only); first | assumption | decide | omega | (simp only [ti_0, ti_1, ti_2, ti_3, ti_4, ti_5, ti_6, ti_7, ti_8, ti_9, ti_10, ti_11, ti_12, ti_m1]; omega))), (by first | (exfalso; omega) | (unfold kdB; rw [if_pos (by omega), ← hz_3, clsB_cB]; unfold clsB; (repeat (first | rw [if_pos (by omega)] | rw [if_neg (by omega)])); first | done | decide)), trivial⟩ (by decide) (by decide) dX6_kindAt_74
            · have ic_7 : z_3.toInt = 32 := ieq c_7 (rfl) (by decide)
              refine lv_iconst (v := 1) hx hb dX6_kindAt_61 (by decide) ?_
              exact x_iret hx hb hr hlk hP hD hS [0, 1] (()) rfl (by decide) ⟨(by first | with_reducible rfl | ((try dsimp only); first | assumption | decide | omega | (simp only [ti_0, ti_1, ti_2, ti_3, ti_4, ti_5, ti_6, ti_7, ti_8, ti_9, ti_10, ti_11, ti_12, ti_m1]; omega))), (by first | with_reducible rfl | ((try dsimp only); first | assumption | decide | omega | (simp only [ti_0, ti_1, ti_2, ti_3, ti_4, ti_5, ti_6, ti_7, ti_8, ti_9, ti_10, ti_11, ti_12, ti_m1]; omega))), (by first | (exfalso; omega) | (unfold kdB; rw [if_pos (by omega), ← hz_3, clsB_cB]; unfold clsB; (repeat (first | rw [if_pos (by omega)] | rw [if_neg (by omega)])); first | done | decide)), trivial⟩ (by decide) (by decide) dX6_kindAt_62
        · have ic_5 : 48 ≤ z_3.toInt := inlt c_5 (rfl) (by decide)
          refine lv_iload_n hx hb dX6_kindAt_41 rfl (lv_at hl 0 rfl) ?_
          refine lv_bipush (v := 57) hx hb dX6_kindAt_42 (by decide) ?_
          refine lv_icmp_gt (tgt := 49) hx hb dX6_kindAt_44 (by decide) (fun c_9 => ?_) (fun c_9 => ?_)
          · have ic_9 : 57 < z_3.toInt := ilt c_9 (by decide) (rfl)
            refine lv_iload_n hx hb dX6_kindAt_49 rfl (lv_at hl 0 rfl) ?_
            refine lv_bipush (v := 10) hx hb dX6_kindAt_50 (by decide) ?_
            refine lv_icmp_eq (tgt := 61) hx hb dX6_kindAt_52 (by decide) (fun c_10 => ?_) (fun c_10 => ?_)
            · have ic_10 : z_3.toInt = 10 := ieq c_10 (rfl) (by decide)
              refine lv_iconst (v := 1) hx hb dX6_kindAt_61 (by decide) ?_
              exact x_iret hx hb hr hlk hP hD hS [0, 1] (()) rfl (by decide) ⟨(by first | with_reducible rfl | ((try dsimp only); first | assumption | decide | omega | (simp only [ti_0, ti_1, ti_2, ti_3, ti_4, ti_5, ti_6, ti_7, ti_8, ti_9, ti_10, ti_11, ti_12, ti_m1]; omega))), (by first | with_reducible rfl | ((try dsimp only); first | assumption | decide | omega | (simp only [ti_0, ti_1, ti_2, ti_3, ti_4, ti_5, ti_6, ti_7, ti_8, ti_9, ti_10, ti_11, ti_12, ti_m1]; omega))), (by first | (exfalso; omega) | (unfold kdB; rw [if_pos (by omega), ← hz_3, clsB_cB]; unfold clsB; (repeat (first | rw [if_pos (by omega)] | rw [if_neg (by omega)])); first | done | decide)), trivial⟩ (by decide) (by decide) dX6_kindAt_62
            · have ic_10 : ¬ z_3.toInt = 10 := ine c_10 (rfl) (by decide)
              refine lv_iload_n hx hb dX6_kindAt_55 rfl (lv_at hl 0 rfl) ?_
              refine lv_bipush (v := 32) hx hb dX6_kindAt_56 (by decide) ?_
              refine lv_icmp_ne (tgt := 63) hx hb dX6_kindAt_58 (by decide) (fun c_11 => ?_) (fun c_11 => ?_)
              · have ic_11 : ¬ z_3.toInt = 32 := ine c_11 (rfl) (by decide)
                refine lv_iload_n hx hb dX6_kindAt_63 rfl (lv_at hl 0 rfl) ?_
                refine lv_bipush (v := 59) hx hb dX6_kindAt_64 (by decide) ?_
                refine lv_icmp_ne (tgt := 73) hx hb dX6_kindAt_66 (by decide) (fun c_12 => ?_) (fun c_12 => ?_)
                · have ic_12 : ¬ z_3.toInt = 59 := ine c_12 (rfl) (by decide)
                  refine lv_iconst (v := 5) hx hb dX6_kindAt_73 (by decide) ?_
                  exact x_iret hx hb hr hlk hP hD hS [0, 1] (()) rfl (by decide) ⟨(by first | with_reducible rfl | ((try dsimp only); first | assumption | decide | omega | (simp only [ti_0, ti_1, ti_2, ti_3, ti_4, ti_5, ti_6, ti_7, ti_8, ti_9, ti_10, ti_11, ti_12, ti_m1]; omega))), (by first | with_reducible rfl | ((try dsimp only); first | assumption | decide | omega | (simp only [ti_0, ti_1, ti_2, ti_3, ti_4, ti_5, ti_6, ti_7, ti_8, ti_9, ti_10, ti_11, ti_12, ti_m1]; omega))), (by first | (exfalso; omega) | (unfold kdB; rw [if_pos (by omega), ← hz_3, clsB_cB]; unfold clsB; (repeat (first | rw [if_pos (by omega)] | rw [if_neg (by omega)])); first | done | decide)), trivial⟩ (by decide) (by decide) dX6_kindAt_74
                · have ic_12 : z_3.toInt = 59 := ieq c_12 (rfl) (by decide)
                  refine lv_iconst (v := 4) hx hb dX6_kindAt_69 (by decide) ?_
                  refine lv_goto (tgt := 74) hx hb dX6_kindAt_70 (by decide) ?_
                  exact x_iret hx hb hr hlk hP hD hS [0, 1] (()) rfl (by decide) ⟨(by first | with_reducible rfl | ((try dsimp only); first | assumption | decide | omega | (simp only [ti_0, ti_1, ti_2, ti_3, ti_4, ti_5, ti_6, ti_7, ti_8, ti_9, ti_10, ti_11, ti_12, ti_m1]; omega))), (by first | with_reducible rfl | ((try dsimp only); first | assumption | decide | omega | (simp only [ti_0, ti_1, ti_2, ti_3, ti_4, ti_5, ti_6, ti_7, ti_8, ti_9, ti_10, ti_11, ti_12, ti_m1]; omega))), (by first | (exfalso; omega) | (unfold kdB; rw [if_pos (by omega), ← hz_3, clsB_cB]; unfold clsB; (repeat (first | rw [if_pos (by omega)] | rw [if_neg (by omega)])); first | done | decide)), trivial⟩ (by decide) (by decide) dX6_kindAt_74
              · have ic_11 : z_3.toInt = 32 := ieq c_11 (rfl) (by decide)
                refine lv_iconst (v := 1) hx hb dX6_kindAt_61 (by decide) ?_
                exact x_iret hx hb hr hlk hP hD hS [0, 1] (()) rfl (by decide) ⟨(by first | with_reducible rfl | ((try dsimp only); first | assumption | decide | omega | (simp only [ti_0, ti_1, ti_2, ti_3, ti_4, ti_5, ti_6, ti_7, ti_8, ti_9, ti_10, ti_11, ti_12, ti_m1]; omega))), (by first | with_reducible rfl | ((try dsimp only); first | assumption | decide | omega | (simp only [ti_0, ti_1, ti_2, ti_3, ti_4, ti_5, ti_6, ti_7, ti_8, ti_9, ti_10, ti_11, ti_12, ti_m1]; omega))), (by first | (exfalso; omega) | (unfold kdB; rw [if_pos (by omega), ← hz_3, clsB_cB]; unfold clsB; (repeat (first | rw [if_pos (by omega)] | rw [if_neg (by omega)])); first | done | decide)), trivial⟩ (by decide) (by decide) dX6_kindAt_62
          · have ic_9 : z_3.toInt ≤ 57 := inlt c_9 (by decide) (rfl)
            refine lv_iconst (v := 3) hx hb dX6_kindAt_47 (by decide) ?_
            exact x_iret hx hb hr hlk hP hD hS [0, 1] (()) rfl (by decide) ⟨(by first | with_reducible rfl | ((try dsimp only); first | assumption | decide | omega | (simp only [ti_0, ti_1, ti_2, ti_3, ti_4, ti_5, ti_6, ti_7, ti_8, ti_9, ti_10, ti_11, ti_12, ti_m1]; omega))), (by first | with_reducible rfl | ((try dsimp only); first | assumption | decide | omega | (simp only [ti_0, ti_1, ti_2, ti_3, ti_4, ti_5, ti_6, ti_7, ti_8, ti_9, ti_10, ti_11, ti_12, ti_m1]; omega))), (by first | (exfalso; omega) | (unfold kdB; rw [if_pos (by omega), ← hz_3, clsB_cB]; unfold clsB; (repeat (first | rw [if_pos (by omega)] | rw [if_neg (by omega)])); first | done | decide)), trivial⟩ (by decide) (by decide) dX6_kindAt_48
      · have ic_4 : 97 ≤ z_3.toInt := inlt c_4 (rfl) (by decide)
        refine lv_iload_n hx hb dX6_kindAt_27 rfl (lv_at hl 0 rfl) ?_
        refine lv_bipush (v := 122) hx hb dX6_kindAt_28 (by decide) ?_
        refine lv_icmp_gt (tgt := 35) hx hb dX6_kindAt_30 (by decide) (fun c_13 => ?_) (fun c_13 => ?_)
        · have ic_13 : 122 < z_3.toInt := ilt c_13 (by decide) (rfl)
          refine lv_iload_n hx hb dX6_kindAt_35 rfl (lv_at hl 0 rfl) ?_
          refine lv_bipush (v := 48) hx hb dX6_kindAt_36 (by decide) ?_
          refine lv_icmp_lt (tgt := 49) hx hb dX6_kindAt_38 (by decide) (fun c_14 => ?_) (fun c_14 => ?_)
          · have ic_14 : z_3.toInt < 48 := ilt c_14 (rfl) (by decide)
            refine lv_iload_n hx hb dX6_kindAt_49 rfl (lv_at hl 0 rfl) ?_
            refine lv_bipush (v := 10) hx hb dX6_kindAt_50 (by decide) ?_
            refine lv_icmp_eq (tgt := 61) hx hb dX6_kindAt_52 (by decide) (fun c_15 => ?_) (fun c_15 => ?_)
            · have ic_15 : z_3.toInt = 10 := ieq c_15 (rfl) (by decide)
              refine lv_iconst (v := 1) hx hb dX6_kindAt_61 (by decide) ?_
              exact x_iret hx hb hr hlk hP hD hS [0, 1] (()) rfl (by decide) ⟨(by first | with_reducible rfl | ((try dsimp only); first | assumption | decide | omega | (simp only [ti_0, ti_1, ti_2, ti_3, ti_4, ti_5, ti_6, ti_7, ti_8, ti_9, ti_10, ti_11, ti_12, ti_m1]; omega))), (by first | with_reducible rfl | ((try dsimp only); first | assumption | decide | omega | (simp only [ti_0, ti_1, ti_2, ti_3, ti_4, ti_5, ti_6, ti_7, ti_8, ti_9, ti_10, ti_11, ti_12, ti_m1]; omega))), (by first | (exfalso; omega) | (unfold kdB; rw [if_pos (by omega), ← hz_3, clsB_cB]; unfold clsB; (repeat (first | rw [if_pos (by omega)] | rw [if_neg (by omega)])); first | done | decide)), trivial⟩ (by decide) (by decide) dX6_kindAt_62
            · have ic_15 : ¬ z_3.toInt = 10 := ine c_15 (rfl) (by decide)
              refine lv_iload_n hx hb dX6_kindAt_55 rfl (lv_at hl 0 rfl) ?_
              refine lv_bipush (v := 32) hx hb dX6_kindAt_56 (by decide) ?_
              refine lv_icmp_ne (tgt := 63) hx hb dX6_kindAt_58 (by decide) (fun c_16 => ?_) (fun c_16 => ?_)
              · have ic_16 : ¬ z_3.toInt = 32 := ine c_16 (rfl) (by decide)
                refine lv_iload_n hx hb dX6_kindAt_63 rfl (lv_at hl 0 rfl) ?_
                refine lv_bipush (v := 59) hx hb dX6_kindAt_64 (by decide) ?_
                refine lv_icmp_ne (tgt := 73) hx hb dX6_kindAt_66 (by decide) (fun c_17 => ?_) (fun c_17 => ?_)
                · have ic_17 : ¬ z_3.toInt = 59 := ine c_17 (rfl) (by decide)
                  refine lv_iconst (v := 5) hx hb dX6_kindAt_73 (by decide) ?_
                  exact x_iret hx hb hr hlk hP hD hS [0, 1] (()) rfl (by decide) ⟨(by first | with_reducible rfl | ((try dsimp only); first | assumption | decide | omega | (simp only [ti_0, ti_1, ti_2, ti_3, ti_4, ti_5, ti_6, ti_7, ti_8, ti_9, ti_10, ti_11, ti_12, ti_m1]; omega))), (by first | with_reducible rfl | ((try dsimp only); first | assumption | decide | omega | (simp only [ti_0, ti_1, ti_2, ti_3, ti_4, ti_5, ti_6, ti_7, ti_8, ti_9, ti_10, ti_11, ti_12, ti_m1]; omega))), (by first | (exfalso; omega) | (unfold kdB; rw [if_pos (by omega), ← hz_3, clsB_cB]; unfold clsB; (repeat (first | rw [if_pos (by omega)] | rw [if_neg (by omega)])); first | done | decide)), trivial⟩ (by decide) (by decide) dX6_kindAt_74
                · have ic_17 : z_3.toInt = 59 := ieq c_17 (rfl) (by decide)
                  refine lv_iconst (v := 4) hx hb dX6_kindAt_69 (by decide) ?_
                  refine lv_goto (tgt := 74) hx hb dX6_kindAt_70 (by decide) ?_
                  exact x_iret hx hb hr hlk hP hD hS [0, 1] (()) rfl (by decide) ⟨(by first | with_reducible rfl | ((try dsimp only); first | assumption | decide | omega | (simp only [ti_0, ti_1, ti_2, ti_3, ti_4, ti_5, ti_6, ti_7, ti_8, ti_9, ti_10, ti_11, ti_12, ti_m1]; omega))), (by first | with_reducible rfl | ((try dsimp only); first | assumption | decide | omega | (simp only [ti_0, ti_1, ti_2, ti_3, ti_4, ti_5, ti_6, ti_7, ti_8, ti_9, ti_10, ti_11, ti_12, ti_m1]; omega))), (by first | (exfalso; omega) | (unfold kdB; rw [if_pos (by omega), ← hz_3, clsB_cB]; unfold clsB; (repeat (first | rw [if_pos (by omega)] | rw [if_neg (by omega)])); first | done | decide)), trivial⟩ (by decide) (by decide) dX6_kindAt_74
              · have ic_16 : z_3.toInt = 32 := ieq c_16 (rfl) (by decide)
                refine lv_iconst (v := 1) hx hb dX6_kindAt_61 (by decide) ?_
                exact x_iret hx hb hr hlk hP hD hS [0, 1] (()) rfl (by decide) ⟨(by first | with_reducible rfl | ((try dsimp only); first | assumption | decide | omega | (simp only [ti_0, ti_1, ti_2, ti_3, ti_4, ti_5, ti_6, ti_7, ti_8, ti_9, ti_10, ti_11, ti_12, ti_m1]; omega))), (by first | with_reducible rfl | ((try dsimp only); first | assumption | decide | omega | (simp only [ti_0, ti_1, ti_2, ti_3, ti_4, ti_5, ti_6, ti_7, ti_8, ti_9, ti_10, ti_11, ti_12, ti_m1]; omega))), (by first | (exfalso; omega) | (unfold kdB; rw [if_pos (by omega), ← hz_3, clsB_cB]; unfold clsB; (repeat (first | rw [if_pos (by omega)] | rw [if_neg (by omega)])); first | done | decide)), trivial⟩ (by decide) (by decide) dX6_kindAt_62
          · have ic_14 : 48 ≤ z_3.toInt := inlt c_14 (rfl) (by decide)
            refine lv_iload_n hx hb dX6_kindAt_41 rfl (lv_at hl 0 rfl) ?_
            refine lv_bipush (v := 57) hx hb dX6_kindAt_42 (by decide) ?_
            refine lv_icmp_gt (tgt := 49) hx hb dX6_kindAt_44 (by decide) (fun c_18 => ?_) (fun c_18 => ?_)
            · have ic_18 : 57 < z_3.toInt := ilt c_18 (by decide) (rfl)
              refine lv_iload_n hx hb dX6_kindAt_49 rfl (lv_at hl 0 rfl) ?_
              refine lv_bipush (v := 10) hx hb dX6_kindAt_50 (by decide) ?_
              refine lv_icmp_eq (tgt := 61) hx hb dX6_kindAt_52 (by decide) (fun c_19 => ?_) (fun c_19 => ?_)
              · have ic_19 : z_3.toInt = 10 := ieq c_19 (rfl) (by decide)
                refine lv_iconst (v := 1) hx hb dX6_kindAt_61 (by decide) ?_
                exact x_iret hx hb hr hlk hP hD hS [0, 1] (()) rfl (by decide) ⟨(by first | with_reducible rfl | ((try dsimp only); first | assumption | decide | omega | (simp only [ti_0, ti_1, ti_2, ti_3, ti_4, ti_5, ti_6, ti_7, ti_8, ti_9, ti_10, ti_11, ti_12, ti_m1]; omega))), (by first | with_reducible rfl | ((try dsimp only); first | assumption | decide | omega | (simp only [ti_0, ti_1, ti_2, ti_3, ti_4, ti_5, ti_6, ti_7, ti_8, ti_9, ti_10, ti_11, ti_12, ti_m1]; omega))), (by first | (exfalso; omega) | (unfold kdB; rw [if_pos (by omega), ← hz_3, clsB_cB]; unfold clsB; (repeat (first | rw [if_pos (by omega)] | rw [if_neg (by omega)])); first | done | decide)), trivial⟩ (by decide) (by decide) dX6_kindAt_62
              · have ic_19 : ¬ z_3.toInt = 10 := ine c_19 (rfl) (by decide)
                refine lv_iload_n hx hb dX6_kindAt_55 rfl (lv_at hl 0 rfl) ?_
                refine lv_bipush (v := 32) hx hb dX6_kindAt_56 (by decide) ?_
                refine lv_icmp_ne (tgt := 63) hx hb dX6_kindAt_58 (by decide) (fun c_20 => ?_) (fun c_20 => ?_)
                · have ic_20 : ¬ z_3.toInt = 32 := ine c_20 (rfl) (by decide)
                  refine lv_iload_n hx hb dX6_kindAt_63 rfl (lv_at hl 0 rfl) ?_
                  refine lv_bipush (v := 59) hx hb dX6_kindAt_64 (by decide) ?_
                  refine lv_icmp_ne (tgt := 73) hx hb dX6_kindAt_66 (by decide) (fun c_21 => ?_) (fun c_21 => ?_)
                  · have ic_21 : ¬ z_3.toInt = 59 := ine c_21 (rfl) (by decide)
                    refine lv_iconst (v := 5) hx hb dX6_kindAt_73 (by decide) ?_
                    exact x_iret hx hb hr hlk hP hD hS [0, 1] (()) rfl (by decide) ⟨(by first | with_reducible rfl | ((try dsimp only); first | assumption | decide | omega | (simp only [ti_0, ti_1, ti_2, ti_3, ti_4, ti_5, ti_6, ti_7, ti_8, ti_9, ti_10, ti_11, ti_12, ti_m1]; omega))), (by first | with_reducible rfl | ((try dsimp only); first | assumption | decide | omega | (simp only [ti_0, ti_1, ti_2, ti_3, ti_4, ti_5, ti_6, ti_7, ti_8, ti_9, ti_10, ti_11, ti_12, ti_m1]; omega))), (by first | (exfalso; omega) | (unfold kdB; rw [if_pos (by omega), ← hz_3, clsB_cB]; unfold clsB; (repeat (first | rw [if_pos (by omega)] | rw [if_neg (by omega)])); first | done | decide)), trivial⟩ (by decide) (by decide) dX6_kindAt_74
                  · have ic_21 : z_3.toInt = 59 := ieq c_21 (rfl) (by decide)
                    refine lv_iconst (v := 4) hx hb dX6_kindAt_69 (by decide) ?_
                    refine lv_goto (tgt := 74) hx hb dX6_kindAt_70 (by decide) ?_
                    exact x_iret hx hb hr hlk hP hD hS [0, 1] (()) rfl (by decide) ⟨(by first | with_reducible rfl | ((try dsimp only); first | assumption | decide | omega | (simp only [ti_0, ti_1, ti_2, ti_3, ti_4, ti_5, ti_6, ti_7, ti_8, ti_9, ti_10, ti_11, ti_12, ti_m1]; omega))), (by first | with_reducible rfl | ((try dsimp only); first | assumption | decide | omega | (simp only [ti_0, ti_1, ti_2, ti_3, ti_4, ti_5, ti_6, ti_7, ti_8, ti_9, ti_10, ti_11, ti_12, ti_m1]; omega))), (by first | (exfalso; omega) | (unfold kdB; rw [if_pos (by omega), ← hz_3, clsB_cB]; unfold clsB; (repeat (first | rw [if_pos (by omega)] | rw [if_neg (by omega)])); first | done | decide)), trivial⟩ (by decide) (by decide) dX6_kindAt_74
                · have ic_20 : z_3.toInt = 32 := ieq c_20 (rfl) (by decide)
                  refine lv_iconst (v := 1) hx hb dX6_kindAt_61 (by decide) ?_
                  exact x_iret hx hb hr hlk hP hD hS [0, 1] (()) rfl (by decide) ⟨(by first | with_reducible rfl | ((try dsimp only); first | assumption | decide | omega | (simp only [ti_0, ti_1, ti_2, ti_3, ti_4, ti_5, ti_6, ti_7, ti_8, ti_9, ti_10, ti_11, ti_12, ti_m1]; omega))), (by first | with_reducible rfl | ((try dsimp only); first | assumption | decide | omega | (simp only [ti_0, ti_1, ti_2, ti_3, ti_4, ti_5, ti_6, ti_7, ti_8, ti_9, ti_10, ti_11, ti_12, ti_m1]; omega))), (by first | (exfalso; omega) | (unfold kdB; rw [if_pos (by omega), ← hz_3, clsB_cB]; unfold clsB; (repeat (first | rw [if_pos (by omega)] | rw [if_neg (by omega)])); first | done | decide)), trivial⟩ (by decide) (by decide) dX6_kindAt_62
            · have ic_18 : z_3.toInt ≤ 57 := inlt c_18 (by decide) (rfl)
              refine lv_iconst (v := 3) hx hb dX6_kindAt_47 (by decide) ?_
              exact x_iret hx hb hr hlk hP hD hS [0, 1] (()) rfl (by decide) ⟨(by first | with_reducible rfl | ((try dsimp only); first | assumption | decide | omega | (simp only [ti_0, ti_1, ti_2, ti_3, ti_4, ti_5, ti_6, ti_7, ti_8, ti_9, ti_10, ti_11, ti_12, ti_m1]; omega))), (by first | with_reducible rfl | ((try dsimp only); first | assumption | decide | omega | (simp only [ti_0, ti_1, ti_2, ti_3, ti_4, ti_5, ti_6, ti_7, ti_8, ti_9, ti_10, ti_11, ti_12, ti_m1]; omega))), (by first | (exfalso; omega) | (unfold kdB; rw [if_pos (by omega), ← hz_3, clsB_cB]; unfold clsB; (repeat (first | rw [if_pos (by omega)] | rw [if_neg (by omega)])); first | done | decide)), trivial⟩ (by decide) (by decide) dX6_kindAt_48
        · have ic_13 : z_3.toInt ≤ 122 := inlt c_13 (by decide) (rfl)
          refine lv_iconst (v := 2) hx hb dX6_kindAt_33 (by decide) ?_
          exact x_iret hx hb hr hlk hP hD hS [0, 1] (()) rfl (by decide) ⟨(by first | with_reducible rfl | ((try dsimp only); first | assumption | decide | omega | (simp only [ti_0, ti_1, ti_2, ti_3, ti_4, ti_5, ti_6, ti_7, ti_8, ti_9, ti_10, ti_11, ti_12, ti_m1]; omega))), (by first | with_reducible rfl | ((try dsimp only); first | assumption | decide | omega | (simp only [ti_0, ti_1, ti_2, ti_3, ti_4, ti_5, ti_6, ti_7, ti_8, ti_9, ti_10, ti_11, ti_12, ti_m1]; omega))), (by first | (exfalso; omega) | (unfold kdB; rw [if_pos (by omega), ← hz_3, clsB_cB]; unfold clsB; (repeat (first | rw [if_pos (by omega)] | rw [if_neg (by omega)])); first | done | decide)), trivial⟩ (by decide) (by decide) dX6_kindAt_34
    · have ic_2 : t4.toInt ≤ x.toInt := inlt c_2 (rfl) (rfl)
      refine lv_iconst (v := 0) hx hb dX6_kindAt_12 (by decide) ?_
      exact x_iret hx hb hr hlk hP hD hS [0, 1] (()) rfl (by decide) ⟨(by first | with_reducible rfl | ((try dsimp only); first | assumption | decide | omega | (simp only [ti_0, ti_1, ti_2, ti_3, ti_4, ti_5, ti_6, ti_7, ti_8, ti_9, ti_10, ti_11, ti_12, ti_m1]; omega))), (by first | with_reducible rfl | ((try dsimp only); first | assumption | decide | omega | (simp only [ti_0, ti_1, ti_2, ti_3, ti_4, ti_5, ti_6, ti_7, ti_8, ti_9, ti_10, ti_11, ti_12, ti_m1]; omega))), (by unfold kdB; rw [if_neg (by omega)]; decide), trivial⟩ (by decide) (by decide) dX6_kindAt_13
set_option maxHeartbeats 4000000 in
set_option maxRecDepth 100000 in
theorem g_endOfR (l : Launch) (D : va_G) (cT : Nat → ClassId) (sz : Nat) (h0 : Nat) (o : Nat) (tb : Nat) (t1 : Int32) (t2 : Int32) (t4 : Int32) (t5 : Int32) (t6 : Int32) (t7 : Int32) (t8 : Int32) (ht4 : 0 ≤ t4.toInt ∧ t4.toInt ≤ 900) (tf : Nat → Int32) (x : Int32) (y : Int32) (hy4 : 0 ≤ y.toInt ∧ y.toInt ≤ t4.toInt) (hx3 : 1 ≤ x.toInt ∧ x.toInt ≤ 3) (tx : Nat → Int) (hT : TXc tx t4.toInt tf) : Met l yX6_endOf (wsc yX6_endOf cX6_endOf 4 (some .int)) { frames := 3, cells := 0, slots := 0, locals := 122 } (va_Pc [.ref h0, .int x, .int y] (PX D cT sz [(sw_6 h0 o t1 t2 tb t4 t5 t6 t7 t8), (sw_by cT tb 900 tf)])) (va_Qi (fun (r : Int32) (u : Unit) => (0 ≤ r.toInt ∧ r.toInt ≤ 900) ∧ (y.toInt ≤ r.toInt ∧ r.toInt ≤ t4.toInt) ∧ (r.toInt = runB tx t4.toInt x.toInt 1000 y.toInt) ∧ (∀ j, y.toInt ≤ j → j < r.toInt → kdB tx t4.toInt j = x.toInt) ∧ (True)) (fun u t => RW D (va_A [(sw_6 h0 o t1 t2 tb t4 t5 t6 t7 t8), (sw_by cT tb 900 tf)] sz) ((fun _ : Unit => [(sw_6 h0 o t1 t2 tb t4 t5 t6 t7 t8), (sw_by cT tb 900 tf)]) u) t) (va_A [(sw_6 h0 o t1 t2 tb t4 t5 t6 t7 t8), (sw_by cT tb 900 tf)] sz)) 0 0 (va_A [(sw_6 h0 o t1 t2 tb t4 t5 t6 t7 t8), (sw_by cT tb 900 tf)] sz) := by
  refine m_of (y := yX6_endOf) (cc := cX6_endOf) (nL := 4) (ret := (some .int)) (D := D) (cT := cT) (av := [.ref h0, .int x, .int y]) (wi := [(sw_6 h0 o t1 t2 tb t4 t5 t6 t7 t8), (sw_by cT tb 900 tf)]) (fun A => va_Qi (fun (r : Int32) (u : Unit) => (0 ≤ r.toInt ∧ r.toInt ≤ 900) ∧ (y.toInt ≤ r.toInt ∧ r.toInt ≤ t4.toInt) ∧ (r.toInt = runB tx t4.toInt x.toInt 1000 y.toInt) ∧ (∀ j, y.toInt ≤ j → j < r.toInt → kdB tx t4.toInt j = x.toInt) ∧ (True)) (fun u t => RW D A ((fun _ : Unit => [(sw_6 h0 o t1 t2 tb t4 t5 t6 t7 t8), (sw_by cT tb 900 tf)]) u) t) A) (by decide) (Nat.le_of_ble_eq_true rfl) ?_
  intro p e s m below meth c A hx hb hml hown htg hK hN hr hlk hnm hsz hP hD hS hA ls hl
  have hown : s.vm.findClass RX6 = some m.cls := hown
  have hl : lv_has ls 4 [(0, .ref h0), (1, .int x), (2, .int y)] := hl
  refine lv_iload_n hx hb dX6_endOf_0 rfl (lv_at hl 2 rfl) ?_
  refine lv_istore_n (lv' := [(3, .int y), (0, .ref h0), (1, .int x), (2, .int y)]) hx hb dX6_endOf_1 rfl hl (by decide) rfl (fun ls hl => ?_)
  have hin : ∀ j, y.toInt ≤ j → j < y.toInt → kdB tx t4.toInt j = x.toInt := fun j a b => absurd a (by omega)
  refine (fun (key : ∀ (n9_2 : Nat) (k9_2 : Int32)  (H : Heap) (locs : List Loc) (ls : Array Slot), (y.toInt ≤ k9_2.toInt ∧ k9_2.toInt ≤ t4.toInt) → t4.toInt < k9_2.toInt + n9_2 → (∀ j, y.toInt ≤ j → j < k9_2.toInt → kdB tx t4.toInt j = x.toInt) → PD D A [(sw_6 h0 o t1 t2 tb t4 t5 t6 t7 t8), (sw_by cT tb 900 tf)] H → va_S A s.heap H locs → lv_has ls 4 [(3, .int k9_2), (0, .ref h0), (1, .int x), (2, .int y)] → W p l e _ s m _ below meth c H locs _ _ _ (F0 m 2 ls [])) => key (Int.toNat (t4.toInt - y.toInt) + 1) (y)  _ _ _ (by omega) (by omega) (by first | assumption | omega | decide | (simp only [ti_0, ti_1, ti_2, ti_3, ti_4, ti_5, ti_6, ti_7, ti_8, ti_9, ti_10, ti_11, ti_12, ti_m1]; omega)) ⟨hP, hD⟩ hS (lv_sub hl [0, 1, 2, 3] rfl)) ?_
  intro n9_2
  induction n9_2 with
  | zero => intro k9_2  H locs ls hq1 hq2; exact absurd hq2 (by omega)
  | succ n9_2 ih_2 =>
    intro k9_2  H locs ls hq1_2 hq2_2 h9_2_0 hPD hS hl
    obtain ⟨hP, hD⟩ := hPD
    refine lv_iload_n hx hb dX6_endOf_2 rfl (lv_at hl 0 rfl) ?_
    refine lv_aload_n hx hb dX6_endOf_3 rfl (lv_at hl 1 rfl) ?_
    refine va_get (D := D) (ci := 6) (v := .int t4) (C := RX6) (T := TX6) (N := 9) hx hb htg gRX6 hown hK hP 0 rfl rfl 4 (by decide) (htg _ wi_259) (fun _ h9 => h9) rfl dX6_endOf_4 ?_
    refine lv_icmp_ge (tgt := 25) hx hb dX6_endOf_7 (by decide) (fun c_1 => ?_) (fun c_1 => ?_)
    · have ic_1 : t4.toInt ≤ k9_2.toInt := ile c_1 (rfl) (rfl)
      refine lv_iload_n hx hb dX6_endOf_25 rfl (lv_at hl 0 rfl) ?_
      exact x_iret hx hb hr hlk hP hD hS [0, 1] (()) rfl (by decide) ⟨(by first | with_reducible rfl | ((try dsimp only); first | assumption | decide | omega | (simp only [ti_0, ti_1, ti_2, ti_3, ti_4, ti_5, ti_6, ti_7, ti_8, ti_9, ti_10, ti_11, ti_12, ti_m1]; omega))), (by first | with_reducible rfl | ((try dsimp only); first | assumption | decide | omega | (simp only [ti_0, ti_1, ti_2, ti_3, ti_4, ti_5, ti_6, ti_7, ti_8, ti_9, ti_10, ti_11, ti_12, ti_m1]; omega))), (by refine (runB_is 1000 _ _ (by omega) h9_2_0 (by first | omega | (unfold kdB; rw [if_neg (by omega)]; omega)) (by omega)).symm), (h9_2_0), trivial⟩ (by decide) (by decide) dX6_endOf_26
    · have ic_1 : k9_2.toInt < t4.toInt := inle c_1 (rfl) (rfl)
      refine lv_aload_n hx hb dX6_endOf_10 rfl (lv_at hl 1 rfl) ?_
      refine lv_iload_n hx hb dX6_endOf_11 rfl (lv_at hl 0 rfl) ?_
      refine xk_i (wr := []) (xr_V (n := 1) (As := [.int k9_2]) (rest := []) ⟨hx, hb, hml, hown, htg⟩ hK hN hP hD hS hA [0, 1] rfl (by decide) (g_kindAtR l D cT _ (h0) (o) (tb) (t1) (t2) (t4) (t5) (t6) (t7) (t8) (by first | assumption | decide | omega | (simp only [ti_0, ti_1, ti_2, ti_3, ti_4, ti_5, ti_6, ti_7, ti_8, ti_9, ti_10, ti_11, ti_12, ti_m1]; omega)) (tf) (k9_2) (tx) (by first | assumption | decide | omega | (simp only [ti_0, ti_1, ti_2, ti_3, ti_4, ti_5, ti_6, ti_7, ti_8, ti_9, ti_10, ti_11, ti_12, ti_m1]; omega))) wi_541 wi_543 wi_5 wi_122 wi_544 rfl rfl rfl ⟨rfl, by decide +kernel⟩ ⟨Nat.le_of_ble_eq_true rfl, Nat.le_of_ble_eq_true rfl⟩ rfl hl.1 rfl (Nat.le_of_ble_eq_true rfl) dX6_endOf_12 ⟨Nat.le_of_ble_eq_true rfl, Nat.le_of_ble_eq_true rfl⟩) hP hD hS hA [0, 1] [] rfl rfl (by decide) (by decide) (fun r_3 u_2 H locs hwr_3 hP hD hS => ?_)
      obtain ⟨hP, hD⟩ : PD D A [(sw_6 h0 o t1 t2 tb t4 t5 t6 t7 t8), (sw_by cT tb 900 tf)] _ := ⟨hP, hD⟩
      have qr_3_0 : 0 ≤ r_3.toInt ∧ r_3.toInt ≤ 5 := hwr_3.1
      have qr_3_1 : r_3.toInt = 0 ∨ (0 ≤ k9_2.toInt ∧ k9_2.toInt < t4.toInt) := hwr_3.2.1
      have qr_3_2 : r_3.toInt = kdB tx t4.toInt k9_2.toInt := hwr_3.2.2.1
      refine lv_iload_n hx hb dX6_endOf_15 rfl (lv_at hl 2 rfl) ?_
      refine lv_icmp_ne (tgt := 25) hx hb dX6_endOf_16 (by decide) (fun c_4 => ?_) (fun c_4 => ?_)
      · have ic_4 : ¬ r_3.toInt = x.toInt := ine c_4 (rfl) (rfl)
        refine lv_iload_n hx hb dX6_endOf_25 rfl (lv_at hl 0 rfl) ?_
        exact x_iret hx hb hr hlk hP hD hS [0, 1] (()) rfl (by decide) ⟨(by first | with_reducible rfl | ((try dsimp only); first | assumption | decide | omega | (simp only [ti_0, ti_1, ti_2, ti_3, ti_4, ti_5, ti_6, ti_7, ti_8, ti_9, ti_10, ti_11, ti_12, ti_m1]; omega))), (by first | with_reducible rfl | ((try dsimp only); first | assumption | decide | omega | (simp only [ti_0, ti_1, ti_2, ti_3, ti_4, ti_5, ti_6, ti_7, ti_8, ti_9, ti_10, ti_11, ti_12, ti_m1]; omega))), (by refine (runB_is 1000 _ _ (by omega) h9_2_0 (by first | omega | (unfold kdB; rw [if_neg (by omega)]; omega)) (by omega)).symm), (h9_2_0), trivial⟩ (by decide) (by decide) dX6_endOf_26
      · have ic_4 : r_3.toInt = x.toInt := ieq c_4 (rfl) (rfl)
        obtain ⟨z_5, ez_5⟩ : ∃ w : Int32, w = k9_2 + 1 := ⟨_, rfl⟩
        have iz_5 : z_5.toInt = k9_2.toInt + 1 := toInt_addI ez_5 (rfl) (by decide) (by omega)
        refine lv_iinc (v := z_5) (lv' := [(3, .int z_5), (0, .ref h0), (1, .int x), (2, .int y)]) hx hb dX6_endOf_19 hl (k := 0) rfl (by rw [ez_5]; rfl) (by decide) rfl (fun ls hl => ?_)
        refine lv_goto (tgt := 2) hx hb dX6_endOf_22 (by decide) ?_
        have hin : ∀ j, y.toInt ≤ j → j < z_5.toInt → kdB tx t4.toInt j = x.toInt := fun j a b => by rcases (show j < k9_2.toInt ∨ j = k9_2.toInt from by omega) with h | h; exact h9_2_0 j a h; rw [h]; omega
        exact ih_2 (z_5)  _ _ _ (by omega) (by omega) (by first | assumption | omega | decide | (simp only [ti_0, ti_1, ti_2, ti_3, ti_4, ti_5, ti_6, ti_7, ti_8, ti_9, ti_10, ti_11, ti_12, ti_m1]; omega)) ⟨hP.sub [0, 1] rfl, hD.sub [0, 1] (by decide) rfl⟩ hS (lv_sub hl [0, 1, 2, 3] rfl)
set_option maxHeartbeats 4000000 in
set_option maxRecDepth 100000 in
theorem g_readValueR (l : Launch) (D : va_G) (cT : Nat → ClassId) (sz : Nat) (h0 : Nat) (o : Nat) (tb : Nat) (t1 : Int32) (t2 : Int32) (t4 : Int32) (t5 : Int32) (t6 : Int32) (t7 : Int32) (t8 : Int32) (ht4 : 0 ≤ t4.toInt ∧ t4.toInt ≤ 900) (ht6 : 0 ≤ t6.toInt ∧ t6.toInt ≤ t4.toInt) (ht5 : 0 ≤ t5.toInt ∧ t5.toInt ≤ t6.toInt) (tf : Nat → Int32) (tx : Nat → Int) (hT : TXc tx t4.toInt tf) (hdg : ∀ j, t5.toInt ≤ j → j < t6.toInt → kdB tx t4.toInt j = 3) : Met l yX6_readValue (wsc yX6_readValue cX6_readValue 3 none) { frames := 2, cells := 0, slots := 0, locals := 100 } (va_Pc [.ref h0] (PX D cT sz [(sw_6 h0 o t1 t2 tb t4 t5 t6 t7 t8), (sw_by cT tb 900 tf)])) (va_Qv (fun (u : Int32) => (u.toInt = valB tx t5.toInt (min (t6.toInt - t5.toInt) 3).toNat) ∧ (True)) (fun u t => RW D (va_A [(sw_6 h0 o t1 t2 tb t4 t5 t6 t7 t8), (sw_by cT tb 900 tf)] sz) ((fun u : Int32 => [(sw_6 h0 o t1 t2 tb t4 t5 t6 t7 u), (sw_by cT tb 900 tf)]) u) t) (va_A [(sw_6 h0 o t1 t2 tb t4 t5 t6 t7 t8), (sw_by cT tb 900 tf)] sz)) 0 0 (va_A [(sw_6 h0 o t1 t2 tb t4 t5 t6 t7 t8), (sw_by cT tb 900 tf)] sz) := by
  refine m_of (y := yX6_readValue) (cc := cX6_readValue) (nL := 3) (ret := none) (D := D) (cT := cT) (av := [.ref h0]) (wi := [(sw_6 h0 o t1 t2 tb t4 t5 t6 t7 t8), (sw_by cT tb 900 tf)]) (fun A => va_Qv (fun (u : Int32) => (u.toInt = valB tx t5.toInt (min (t6.toInt - t5.toInt) 3).toNat) ∧ (True)) (fun u t => RW D A ((fun u : Int32 => [(sw_6 h0 o t1 t2 tb t4 t5 t6 t7 u), (sw_by cT tb 900 tf)]) u) t) A) (by decide) (Nat.le_of_ble_eq_true rfl) ?_
  intro p e s m below meth c A hx hb hml hown htg hK hN hr hlk hnm hsz hP hD hS hA ls hl
  have hown : s.vm.findClass RX6 = some m.cls := hown
  have hl : lv_has ls 3 [(0, .ref h0)] := hl
  refine lv_aload_n hx hb dX6_readValue_0 rfl (lv_at hl 0 rfl) ?_
  refine lv_iconst (v := 0) hx hb dX6_readValue_1 (by decide) ?_
  refine va_put (D := D) (ci := 6) (v := .int 0) (ty := .int) (C := RX6) (T := TX6) (N := 9) hx hb htg gRX6 tyX6 tyX6_ok nmX6 hown hK hP hD hS 0 rfl rfl 8 (by decide) (htg _ wi_263) (fun _ h9 => h9) rfl (by decide +kernel) rfl rfl (Nat.le_of_ble_eq_true rfl) dX6_readValue_2 (fun H locs hP hD hS => ?_)
  obtain ⟨hP, hD⟩ : PD D A [(sw_6 h0 o t1 t2 tb t4 t5 t6 t7 0), (sw_by cT tb 900 tf)] _ := ⟨hP, hD⟩
  refine lv_aload_n hx hb dX6_readValue_5 rfl (lv_at hl 0 rfl) ?_
  refine va_get (D := D) (ci := 6) (v := .int t6) (C := RX6) (T := TX6) (N := 9) hx hb htg gRX6 hown hK hP 0 rfl rfl 6 (by decide) (htg _ wi_261) (fun _ h9 => h9) rfl dX6_readValue_6 ?_
  refine lv_aload_n hx hb dX6_readValue_9 rfl (lv_at hl 0 rfl) ?_
  refine va_get (D := D) (ci := 6) (v := .int t5) (C := RX6) (T := TX6) (N := 9) hx hb htg gRX6 hown hK hP 0 rfl rfl 5 (by decide) (htg _ wi_260) (fun _ h9 => h9) rfl dX6_readValue_10 ?_
  refine lv_iconst (v := 3) hx hb dX6_readValue_13 (by decide) ?_
  refine lv_iadd hx hb dX6_readValue_14 ?_
  refine lv_topi (fun z_1 ez_1 => ?_)
  have iz_1 : z_1.toInt = t5.toInt + 3 := toInt_addI ez_1 (rfl) (by decide) (by omega)
  refine va_mmin hx hb (by rw [hml]; exact hl.1.symm) hown (htg _ wi_523) (htg _ wi_524) (htg _ wi_132) (htg _ wi_525) (Nat.le_of_ble_eq_true rfl) (Nat.le_of_ble_eq_true rfl) (Nat.le_of_ble_eq_true rfl) (Nat.le_of_ble_eq_true rfl) dX6_readValue_15 ?_
  refine lv_topi (fun z_2 ez_2 => ?_)
  have iz_2 := minI (a := t6.toInt) (b := z_1.toInt) ez_2 (rfl) (rfl)
  refine lv_istore_n (lv' := [(1, .int z_2), (0, .ref h0)]) hx hb dX6_readValue_18 rfl hl (by decide) rfl (fun ls hl => ?_)
  refine lv_aload_n hx hb dX6_readValue_19 rfl (lv_at hl 1 rfl) ?_
  refine va_get (D := D) (ci := 6) (v := .int t5) (C := RX6) (T := TX6) (N := 9) hx hb htg gRX6 hown hK hP 0 rfl rfl 5 (by decide) (htg _ wi_260) (fun _ h9 => h9) rfl dX6_readValue_20 ?_
  refine lv_istore_n (lv' := [(2, .int t5), (1, .int z_2), (0, .ref h0)]) hx hb dX6_readValue_23 rfl hl (by decide) rfl (fun ls hl => ?_)
  have hv0 : (0 : Int32).toInt = valB tx t5.toInt (t5.toInt - t5.toInt).toNat := by rw [show (t5.toInt - t5.toInt).toNat = 0 from by omega]; exact (show (0 : Int32).toInt = 0 from by decide)
  have hv1 : (t5.toInt - t5.toInt = 0 ∧ (0 : Int32).toInt = 0) ∨ (t5.toInt - t5.toInt = 1 ∧ 0 ≤ (0 : Int32).toInt ∧ (0 : Int32).toInt ≤ 9) ∨ (t5.toInt - t5.toInt = 2 ∧ 0 ≤ (0 : Int32).toInt ∧ (0 : Int32).toInt ≤ 99) ∨ (t5.toInt - t5.toInt = 3 ∧ 0 ≤ (0 : Int32).toInt ∧ (0 : Int32).toInt ≤ 999) := Or.inl ⟨by omega, by decide⟩
  refine (fun (key : ∀ (n9_24 : Nat) (k9_24 : Int32) (v9_24_0 : Int32) (H : Heap) (locs : List Loc) (ls : Array Slot), (t5.toInt ≤ k9_24.toInt ∧ k9_24.toInt ≤ t5.toInt + 3) → t5.toInt + 3 < k9_24.toInt + n9_24 → (k9_24.toInt ≤ z_2.toInt) → v9_24_0.toInt = valB tx t5.toInt (k9_24.toInt - t5.toInt).toNat → ((k9_24.toInt - t5.toInt = 0 ∧ v9_24_0.toInt = 0) ∨ (k9_24.toInt - t5.toInt = 1 ∧ 0 ≤ v9_24_0.toInt ∧ v9_24_0.toInt ≤ 9) ∨ (k9_24.toInt - t5.toInt = 2 ∧ 0 ≤ v9_24_0.toInt ∧ v9_24_0.toInt ≤ 99) ∨ (k9_24.toInt - t5.toInt = 3 ∧ 0 ≤ v9_24_0.toInt ∧ v9_24_0.toInt ≤ 999)) → (0 ≤ v9_24_0.toInt ∧ v9_24_0.toInt ≤ 999) → PD D A [(sw_6 h0 o t1 t2 tb t4 t5 t6 t7 v9_24_0), (sw_by cT tb 900 tf)] H → va_S A s.heap H locs → lv_has ls 3 [(2, .int k9_24), (1, .int z_2), (0, .ref h0)] → W p l e _ s m _ below meth c H locs _ _ _ (F0 m 24 ls [])) => key (Int.toNat (t5.toInt + 3 - t5.toInt) + 1) (t5) _ _ _ _ (by omega) (by omega) (by first | assumption | omega | decide | (simp only [ti_0, ti_1, ti_2, ti_3, ti_4, ti_5, ti_6, ti_7, ti_8, ti_9, ti_10, ti_11, ti_12, ti_m1]; omega)) (by first | assumption | omega | decide | (simp only [ti_0, ti_1, ti_2, ti_3, ti_4, ti_5, ti_6, ti_7, ti_8, ti_9, ti_10, ti_11, ti_12, ti_m1]; omega)) (by first | assumption | omega | decide | (simp only [ti_0, ti_1, ti_2, ti_3, ti_4, ti_5, ti_6, ti_7, ti_8, ti_9, ti_10, ti_11, ti_12, ti_m1]; omega)) (by first | assumption | omega | decide | (simp only [ti_0, ti_1, ti_2, ti_3, ti_4, ti_5, ti_6, ti_7, ti_8, ti_9, ti_10, ti_11, ti_12, ti_m1]; omega)) ⟨hP, hD⟩ hS (lv_sub hl [0, 1, 2] rfl)) ?_
  intro n9_24
  induction n9_24 with
  | zero => intro k9_24 v9_24_0 H locs ls hq1 hq2; exact absurd hq2 (by omega)
  | succ n9_24 ih_24 =>
    intro k9_24 v9_24_0 H locs ls hq1_24 hq2_24 h9_24_0 h9_24_1 h9_24_2 h9_24_3 hPD hS hl
    obtain ⟨hP, hD⟩ := hPD
    refine lv_iload_n hx hb dX6_readValue_24 rfl (lv_at hl 0 rfl) ?_
    refine lv_iload_n hx hb dX6_readValue_25 rfl (lv_at hl 1 rfl) ?_
    refine lv_icmp_ge (tgt := 56) hx hb dX6_readValue_26 (by decide) (fun c_3 => ?_) (fun c_3 => ?_)
    · have ic_3 : z_2.toInt ≤ k9_24.toInt := ile c_3 (rfl) (rfl)
      exact x_vret hx hb hr hlk hP hD hS [0, 1] (v9_24_0) rfl (by decide) ⟨(by (try dsimp only); rw [h9_24_1]; congr 1; omega), trivial⟩ (by decide) (by decide) dX6_readValue_56
    · have ic_3 : k9_24.toInt < z_2.toInt := inle c_3 (rfl) (rfl)
      refine lv_aload_n hx hb dX6_readValue_29 rfl (lv_at hl 2 rfl) ?_
      refine lv_aload_n hx hb dX6_readValue_30 rfl (lv_at hl 2 rfl) ?_
      refine va_get (D := D) (ci := 6) (v := .int v9_24_0) (C := RX6) (T := TX6) (N := 9) hx hb htg gRX6 hown hK hP 0 rfl rfl 8 (by decide) (htg _ wi_263) (fun _ h9 => h9) rfl dX6_readValue_31 ?_
      refine lv_bipush (v := 10) hx hb dX6_readValue_34 (by decide) ?_
      refine lv_imul hx hb dX6_readValue_36 ?_
      refine lv_topi (fun z_4 ez_4 => ?_)
      have iz_4 : z_4.toInt = v9_24_0.toInt * 10 := toInt_mulI ez_4 (rfl) (by decide) (by omega)
      refine lv_aload_n hx hb dX6_readValue_37 rfl (lv_at hl 2 rfl) ?_
      refine va_get (D := D) (ci := 6) (v := .ref tb) (C := RX6) (T := TX6) (N := 9) hx hb htg gRX6 hown hK hP 0 rfl rfl 3 (by decide) (htg _ wi_258) (fun _ h9 => h9) rfl dX6_readValue_38 ?_
      refine lv_iload_n hx hb dX6_readValue_41 rfl (lv_at hl 0 rfl) ?_
      refine va_bald hx hb hK hP 1 2 rfl rfl (vp_in_iff.mpr (by omega)) dX6_readValue_42 ?_
      refine lv_topi (fun z_5 ez_5 => ?_)
      have hdg2 := hdg k9_24.toInt (by omega) (by omega)
      have hdt : cB z_5.toInt = tx k9_24.toInt.toNat := TXc_at hT ez_5 (a := k9_24.toInt) rfl (by omega)
      have hdd : 48 ≤ tx k9_24.toInt.toNat ∧ tx k9_24.toInt.toNat ≤ 57 := by unfold kdB at hdg2; rw [if_pos (by omega)] at hdg2; exact clsB_3 hdg2
      have hdc : z_5.toInt = tx k9_24.toInt.toNat := cB_is hdt (by omega)
      have iz_5 : 48 ≤ z_5.toInt ∧ z_5.toInt ≤ 57 := by omega
      refine lv_iadd hx hb dX6_readValue_43 ?_
      refine lv_topi (fun z_6 ez_6 => ?_)
      have iz_6 : z_6.toInt = z_4.toInt + z_5.toInt := toInt_addI ez_6 (rfl) (rfl) (by omega)
      refine lv_bipush (v := 48) hx hb dX6_readValue_44 (by decide) ?_
      refine lv_isub hx hb dX6_readValue_46 ?_
      refine lv_topi (fun z_7 ez_7 => ?_)
      have iz_7 : z_7.toInt = z_6.toInt - 48 := toInt_subI ez_7 (rfl) (by decide) (by omega)
      refine va_put (D := D) (ci := 6) (v := .int z_7) (ty := .int) (C := RX6) (T := TX6) (N := 9) hx hb htg gRX6 tyX6 tyX6_ok nmX6 hown hK hP hD hS 0 rfl rfl 8 (by decide) (htg _ wi_263) (fun _ h9 => h9) rfl (by decide +kernel) rfl rfl (Nat.le_of_ble_eq_true rfl) dX6_readValue_47 (fun H locs hP hD hS => ?_)
      obtain ⟨hP, hD⟩ : PD D A [(sw_6 h0 o t1 t2 tb t4 t5 t6 t7 z_7), (sw_by cT tb 900 tf)] _ := ⟨hP, hD⟩
      obtain ⟨z_8, ez_8⟩ : ∃ w : Int32, w = k9_24 + 1 := ⟨_, rfl⟩
      have iz_8 : z_8.toInt = k9_24.toInt + 1 := toInt_addI ez_8 (rfl) (by decide) (by omega)
      refine lv_iinc (v := z_8) (lv' := [(2, .int z_8), (1, .int z_2), (0, .ref h0)]) hx hb dX6_readValue_50 hl (k := 0) rfl (by rw [ez_8]; rfl) (by decide) rfl (fun ls hl => ?_)
      refine lv_goto (tgt := 24) hx hb dX6_readValue_53 (by decide) ?_
      have hv0 : z_7.toInt = valB tx t5.toInt (z_8.toInt - t5.toInt).toNat := by rw [show (z_8.toInt - t5.toInt).toNat = (k9_24.toInt - t5.toInt).toNat + 1 from by omega]; show _ = 10 * valB tx t5.toInt (k9_24.toInt - t5.toInt).toNat + tx (t5.toInt + (((k9_24.toInt - t5.toInt).toNat : Nat) : Int)).toNat - 48; rw [← h9_24_1, show t5.toInt + (((k9_24.toInt - t5.toInt).toNat : Nat) : Int) = k9_24.toInt from by omega, ← hdc]; omega
      have hv1 : (z_8.toInt - t5.toInt = 0 ∧ z_7.toInt = 0) ∨ (z_8.toInt - t5.toInt = 1 ∧ 0 ≤ z_7.toInt ∧ z_7.toInt ≤ 9) ∨ (z_8.toInt - t5.toInt = 2 ∧ 0 ≤ z_7.toInt ∧ z_7.toInt ≤ 99) ∨ (z_8.toInt - t5.toInt = 3 ∧ 0 ≤ z_7.toInt ∧ z_7.toInt ≤ 999) := by omega
      exact ih_24 (z_8) _ _ _ _ (by omega) (by omega) (by first | assumption | omega | decide | (simp only [ti_0, ti_1, ti_2, ti_3, ti_4, ti_5, ti_6, ti_7, ti_8, ti_9, ti_10, ti_11, ti_12, ti_m1]; omega)) (by first | assumption | omega | decide | (simp only [ti_0, ti_1, ti_2, ti_3, ti_4, ti_5, ti_6, ti_7, ti_8, ti_9, ti_10, ti_11, ti_12, ti_m1]; omega)) (by first | assumption | omega | decide | (simp only [ti_0, ti_1, ti_2, ti_3, ti_4, ti_5, ti_6, ti_7, ti_8, ti_9, ti_10, ti_11, ti_12, ti_m1]; omega)) (by first | assumption | omega | decide | (simp only [ti_0, ti_1, ti_2, ti_3, ti_4, ti_5, ti_6, ti_7, ti_8, ti_9, ti_10, ti_11, ti_12, ti_m1]; omega)) ⟨hP.sub [0, 1] rfl, hD.sub [0, 1] (by decide) rfl⟩ hS (lv_sub hl [0, 1, 2] rfl)
set_option maxHeartbeats 4000000 in
set_option maxRecDepth 100000 in
theorem g_advanceR (l : Launch) (D : va_G) (cT : Nat → ClassId) (sz : Nat) (h0 : Nat) (o : Nat) (tb : Nat) (t1 : Int32) (t2 : Int32) (t4 : Int32) (t5 : Int32) (t6 : Int32) (t7 : Int32) (t8 : Int32) (ht4 : 0 ≤ t4.toInt ∧ t4.toInt ≤ 900) (ht6 : 0 ≤ t6.toInt ∧ t6.toInt ≤ t4.toInt) (tf : Nat → Int32) (tx : Nat → Int) (hT : TXc tx t4.toInt tf) (sg : Nat → Int) (rs0 : t1.toInt = (sg) 4) (rs1 : WQ t2.toInt (sg)) (rs3 : t6.toInt = (sg) 1) : Met l yX6_advance (wsc yX6_advance cX6_advance 1 none) { frames := 4, cells := 0, slots := 0, locals := 145 } (va_Pc [.ref h0] (PX D cT sz [(sw_6 h0 o t1 t2 tb t4 t5 t6 t7 t8), (sw_by cT tb 900 tf)])) (va_Qv (fun (u : Int32 × Int32 × Int32 × Int32 × Int32 × Int32) => (0 ≤ u.2.2.1.toInt ∧ u.2.2.1.toInt ≤ 900) ∧ (0 ≤ u.2.2.2.1.toInt ∧ u.2.2.2.1.toInt ≤ 900) ∧ (u.2.2.1.toInt ≤ u.2.2.2.1.toInt ∧ u.2.2.2.1.toInt ≤ t4.toInt) ∧ (u.1.toInt = (nxtF tx t4.toInt sg) 4) ∧ (WQ u.2.1.toInt (nxtF tx t4.toInt sg)) ∧ (u.2.2.1.toInt = (nxtF tx t4.toInt sg) 0) ∧ (u.2.2.2.1.toInt = (nxtF tx t4.toInt sg) 1) ∧ (TK tx u.2.2.2.2.1.toInt (nxtF tx t4.toInt sg)) ∧ (NV u.2.2.2.2.2.toInt (nxtF tx t4.toInt sg)) ∧ (True)) (fun u t => RW D (va_A [(sw_6 h0 o t1 t2 tb t4 t5 t6 t7 t8), (sw_by cT tb 900 tf)] sz) ((fun u : Int32 × Int32 × Int32 × Int32 × Int32 × Int32 => [(sw_6 h0 o u.1 u.2.1 tb t4 u.2.2.1 u.2.2.2.1 u.2.2.2.2.1 u.2.2.2.2.2), (sw_by cT tb 900 tf)]) u) t) (va_A [(sw_6 h0 o t1 t2 tb t4 t5 t6 t7 t8), (sw_by cT tb 900 tf)] sz)) 0 0 (va_A [(sw_6 h0 o t1 t2 tb t4 t5 t6 t7 t8), (sw_by cT tb 900 tf)] sz) := by
  refine m_of (y := yX6_advance) (cc := cX6_advance) (nL := 1) (ret := none) (D := D) (cT := cT) (av := [.ref h0]) (wi := [(sw_6 h0 o t1 t2 tb t4 t5 t6 t7 t8), (sw_by cT tb 900 tf)]) (fun A => va_Qv (fun (u : Int32 × Int32 × Int32 × Int32 × Int32 × Int32) => (0 ≤ u.2.2.1.toInt ∧ u.2.2.1.toInt ≤ 900) ∧ (0 ≤ u.2.2.2.1.toInt ∧ u.2.2.2.1.toInt ≤ 900) ∧ (u.2.2.1.toInt ≤ u.2.2.2.1.toInt ∧ u.2.2.2.1.toInt ≤ t4.toInt) ∧ (u.1.toInt = (nxtF tx t4.toInt sg) 4) ∧ (WQ u.2.1.toInt (nxtF tx t4.toInt sg)) ∧ (u.2.2.1.toInt = (nxtF tx t4.toInt sg) 0) ∧ (u.2.2.2.1.toInt = (nxtF tx t4.toInt sg) 1) ∧ (TK tx u.2.2.2.2.1.toInt (nxtF tx t4.toInt sg)) ∧ (NV u.2.2.2.2.2.toInt (nxtF tx t4.toInt sg)) ∧ (True)) (fun u t => RW D A ((fun u : Int32 × Int32 × Int32 × Int32 × Int32 × Int32 => [(sw_6 h0 o u.1 u.2.1 tb t4 u.2.2.1 u.2.2.2.1 u.2.2.2.2.1 u.2.2.2.2.2), (sw_by cT tb 900 tf)]) u) t) A) (by decide) (Nat.le_of_ble_eq_true rfl) ?_
  intro p e s m below meth c A hx hb hml hown htg hK hN hr hlk hnm hsz hP hD hS hA ls hl
  have hown : s.vm.findClass RX6 = some m.cls := hown
  have hl : lv_has ls 1 [(0, .ref h0)] := hl
  have t9_0 : (0 : Int32).toInt = 0 := by decide
  have t9_1 : (1 : Int32).toInt = 1 := by decide
  have t9_2 : (2 : Int32).toInt = 2 := by decide
  have t9_3 : (3 : Int32).toInt = 3 := by decide
  have t9_4 : (4 : Int32).toInt = 4 := by decide
  have t9_5 : (5 : Int32).toInt = 5 := by decide
  refine lv_aload_n hx hb dX6_advance_0 rfl (lv_at hl 0 rfl) ?_
  refine lv_aload_n hx hb dX6_advance_1 rfl (lv_at hl 0 rfl) ?_
  refine lv_iconst (v := 1) hx hb dX6_advance_2 (by decide) ?_
  refine lv_aload_n hx hb dX6_advance_3 rfl (lv_at hl 0 rfl) ?_
  refine va_get (D := D) (ci := 6) (v := .int t6) (C := RX6) (T := TX6) (N := 9) hx hb htg gRX6 hown hK hP 0 rfl rfl 6 (by decide) (htg _ wi_261) (fun _ h9 => h9) rfl dX6_advance_4 ?_
  refine xk_i (wr := []) (xr_V (n := 2) (As := [.int 1, .int t6]) (rest := [.ref h0]) ⟨hx, hb, hml, hown, htg⟩ hK hN hP hD hS hA [0, 1] rfl (by decide) (g_endOfR l D cT _ (h0) (o) (tb) (t1) (t2) (t4) (t5) (t6) (t7) (t8) (by first | assumption | decide | omega | (simp only [ti_0, ti_1, ti_2, ti_3, ti_4, ti_5, ti_6, ti_7, ti_8, ti_9, ti_10, ti_11, ti_12, ti_m1]; omega)) (tf) (1) (t6) (by first | assumption | decide | omega | (simp only [ti_0, ti_1, ti_2, ti_3, ti_4, ti_5, ti_6, ti_7, ti_8, ti_9, ti_10, ti_11, ti_12, ti_m1]; omega)) (by first | assumption | decide | omega | (simp only [ti_0, ti_1, ti_2, ti_3, ti_4, ti_5, ti_6, ti_7, ti_8, ti_9, ti_10, ti_11, ti_12, ti_m1]; omega)) (tx) (by first | assumption | decide | omega | (simp only [ti_0, ti_1, ti_2, ti_3, ti_4, ti_5, ti_6, ti_7, ti_8, ti_9, ti_10, ti_11, ti_12, ti_m1]; omega))) wi_537 wi_539 wi_4 wi_122 wi_540 rfl rfl rfl ⟨rfl, by decide +kernel⟩ ⟨Nat.le_of_ble_eq_true rfl, Nat.le_of_ble_eq_true rfl⟩ rfl hl.1 rfl (Nat.le_of_ble_eq_true rfl) dX6_advance_7 ⟨Nat.le_of_ble_eq_true rfl, Nat.le_of_ble_eq_true rfl⟩) hP hD hS hA [0, 1] [] rfl rfl (by decide) (by decide) (fun r_2 u_1 H locs hwr_2 hP hD hS => ?_)
  obtain ⟨hP, hD⟩ : PD D A [(sw_6 h0 o t1 t2 tb t4 t5 t6 t7 t8), (sw_by cT tb 900 tf)] _ := ⟨hP, hD⟩
  have qr_2_0 : 0 ≤ r_2.toInt ∧ r_2.toInt ≤ 900 := hwr_2.1
  have qr_2_1 : t6.toInt ≤ r_2.toInt ∧ r_2.toInt ≤ t4.toInt := hwr_2.2.1
  have qr_2_2 : r_2.toInt = runB tx t4.toInt 1 1000 t6.toInt := by have h7 := hwr_2.2.2.1; simp only [show ((1 : Int32)).toInt = 1 from by decide] at h7; exact h7
  have qr_2_3 : ∀ j, t6.toInt ≤ j → j < r_2.toInt → kdB tx t4.toInt j = 1 := by have h7 := hwr_2.2.2.2.1; simp only [show ((1 : Int32)).toInt = 1 from by decide] at h7; exact h7
  refine va_put (D := D) (ci := 6) (v := .int r_2) (ty := .int) (C := RX6) (T := TX6) (N := 9) hx hb htg gRX6 tyX6 tyX6_ok nmX6 hown hK hP hD hS 0 rfl rfl 5 (by decide) (htg _ wi_260) (fun _ h9 => h9) rfl (by decide +kernel) rfl rfl (Nat.le_of_ble_eq_true rfl) dX6_advance_10 (fun H locs hP hD hS => ?_)
  obtain ⟨hP, hD⟩ : PD D A [(sw_6 h0 o t1 t2 tb t4 r_2 t6 t7 t8), (sw_by cT tb 900 tf)] _ := ⟨hP, hD⟩
  refine lv_aload_n hx hb dX6_advance_13 rfl (lv_at hl 0 rfl) ?_
  refine lv_aload_n hx hb dX6_advance_14 rfl (lv_at hl 0 rfl) ?_
  refine va_get (D := D) (ci := 6) (v := .int r_2) (C := RX6) (T := TX6) (N := 9) hx hb htg gRX6 hown hK hP 0 rfl rfl 5 (by decide) (htg _ wi_260) (fun _ h9 => h9) rfl dX6_advance_15 ?_
  refine lv_iconst (v := 1) hx hb dX6_advance_18 (by decide) ?_
  refine lv_iadd hx hb dX6_advance_19 ?_
  refine lv_topi (fun z_3 ez_3 => ?_)
  have iz_3 : z_3.toInt = r_2.toInt + 1 := toInt_addI ez_3 (rfl) (by decide) (by omega)
  refine va_put (D := D) (ci := 6) (v := .int z_3) (ty := .int) (C := RX6) (T := TX6) (N := 9) hx hb htg gRX6 tyX6 tyX6_ok nmX6 hown hK hP hD hS 0 rfl rfl 6 (by decide) (htg _ wi_261) (fun _ h9 => h9) rfl (by decide +kernel) rfl rfl (Nat.le_of_ble_eq_true rfl) dX6_advance_20 (fun H locs hP hD hS => ?_)
  obtain ⟨hP, hD⟩ : PD D A [(sw_6 h0 o t1 t2 tb t4 r_2 z_3 t7 t8), (sw_by cT tb 900 tf)] _ := ⟨hP, hD⟩
  refine lv_aload_n hx hb dX6_advance_23 rfl (lv_at hl 0 rfl) ?_
  refine lv_aload_n hx hb dX6_advance_24 rfl (lv_at hl 0 rfl) ?_
  refine va_get (D := D) (ci := 6) (v := .int r_2) (C := RX6) (T := TX6) (N := 9) hx hb htg gRX6 hown hK hP 0 rfl rfl 5 (by decide) (htg _ wi_260) (fun _ h9 => h9) rfl dX6_advance_25 ?_
  refine xk_i (wr := []) (xr_V (n := 1) (As := [.int r_2]) (rest := []) ⟨hx, hb, hml, hown, htg⟩ hK hN hP hD hS hA [0, 1] rfl (by decide) (g_kindAtR l D cT _ (h0) (o) (tb) (t1) (t2) (t4) (r_2) (z_3) (t7) (t8) (by first | assumption | decide | omega | (simp only [ti_0, ti_1, ti_2, ti_3, ti_4, ti_5, ti_6, ti_7, ti_8, ti_9, ti_10, ti_11, ti_12, ti_m1]; omega)) (tf) (r_2) (tx) (by first | assumption | decide | omega | (simp only [ti_0, ti_1, ti_2, ti_3, ti_4, ti_5, ti_6, ti_7, ti_8, ti_9, ti_10, ti_11, ti_12, ti_m1]; omega))) wi_541 wi_543 wi_5 wi_122 wi_544 rfl rfl rfl ⟨rfl, by decide +kernel⟩ ⟨Nat.le_of_ble_eq_true rfl, Nat.le_of_ble_eq_true rfl⟩ rfl hl.1 rfl (Nat.le_of_ble_eq_true rfl) dX6_advance_28 ⟨Nat.le_of_ble_eq_true rfl, Nat.le_of_ble_eq_true rfl⟩) hP hD hS hA [0, 1] [] rfl rfl (by decide) (by decide) (fun r_5 u_4 H locs hwr_5 hP hD hS => ?_)
  obtain ⟨hP, hD⟩ : PD D A [(sw_6 h0 o t1 t2 tb t4 r_2 z_3 t7 t8), (sw_by cT tb 900 tf)] _ := ⟨hP, hD⟩
  have qr_5_0 : 0 ≤ r_5.toInt ∧ r_5.toInt ≤ 5 := hwr_5.1
  have qr_5_1 : r_5.toInt = 0 ∨ (0 ≤ r_2.toInt ∧ r_2.toInt < t4.toInt) := hwr_5.2.1
  have qr_5_2 : r_5.toInt = kdB tx t4.toInt r_2.toInt := hwr_5.2.2.1
  have c_6 : (r_5.toInt < 0 ∨ 4 < r_5.toInt) ∨ r_5 = 0 ∨ r_5 = 1 ∨ r_5 = 2 ∨ r_5 = 3 ∨ r_5 = 4 := by
    rcases (show (r_5.toInt < 0 ∨ 4 < r_5.toInt) ∨ r_5.toInt = 0 ∨ r_5.toInt = 1 ∨ r_5.toInt = 2 ∨ r_5.toInt = 3 ∨ r_5.toInt = 4 from by omega) with h | h | h | h | h | h
    · exact Or.inl h
    · exact Or.inr (Or.inl (i32_is (h.trans (by decide))))
    · exact Or.inr (Or.inr (Or.inl (i32_is (h.trans (by decide)))))
    · exact Or.inr (Or.inr (Or.inr (Or.inl (i32_is (h.trans (by decide))))))
    · exact Or.inr (Or.inr (Or.inr (Or.inr (Or.inl (i32_is (h.trans (by decide)))))))
    · exact Or.inr (Or.inr (Or.inr (Or.inr (Or.inr (i32_is (h.trans (by decide)))))))
  rcases c_6 with c_6 | c_6 | c_6 | c_6 | c_6 | c_6
  · refine lv_tableOut (tgt := 151) hx hb dX6_advance_31 c_6 (by decide) ?_
    refine lv_aload_n hx hb dX6_advance_151 rfl (lv_at hl 0 rfl) ?_
    refine lv_iconst (v := 4) hx hb dX6_advance_152 (by decide) ?_
    refine va_put (D := D) (ci := 6) (v := .int 4) (ty := .int) (C := RX6) (T := TX6) (N := 9) hx hb htg gRX6 tyX6 tyX6_ok nmX6 hown hK hP hD hS 0 rfl rfl 7 (by decide) (htg _ wi_262) (fun _ h9 => h9) rfl (by decide +kernel) rfl rfl (Nat.le_of_ble_eq_true rfl) dX6_advance_153 (fun H locs hP hD hS => ?_)
    obtain ⟨hP, hD⟩ : PD D A [(sw_6 h0 o t1 t2 tb t4 r_2 z_3 4 t8), (sw_by cT tb 900 tf)] _ := ⟨hP, hD⟩
    have hNx := nxt_o (tx := tx) (n := t4.toInt) (sg := sg) (st := r_2.toInt) (by rw [← rs3]; exact qr_2_2) (by omega) (by omega)
    exact x_vret hx hb hr hlk hP hD hS [0, 1] ((t1, t2, r_2, z_3, 4, t8)) rfl (by decide) ⟨(by first | with_reducible rfl | ((try dsimp only); first | assumption | decide | omega | (simp only [ti_0, ti_1, ti_2, ti_3, ti_4, ti_5, ti_6, ti_7, ti_8, ti_9, ti_10, ti_11, ti_12, ti_m1]; omega))), (by first | with_reducible rfl | ((try dsimp only); first | assumption | decide | omega | (simp only [ti_0, ti_1, ti_2, ti_3, ti_4, ti_5, ti_6, ti_7, ti_8, ti_9, ti_10, ti_11, ti_12, ti_m1]; omega))), (by first | with_reducible rfl | ((try dsimp only); first | assumption | decide | omega | (simp only [ti_0, ti_1, ti_2, ti_3, ti_4, ti_5, ti_6, ti_7, ti_8, ti_9, ti_10, ti_11, ti_12, ti_m1]; omega))), (by (try dsimp only); omega), (by (try dsimp only); have h1 := rs1; unfold WQ at h1 ⊢; omega), (by (try dsimp only); omega), (by (try dsimp only); omega), (by (try dsimp only); unfold TK; omega), (by (try dsimp only); unfold NV; omega), trivial⟩ (by decide) (by decide) dX6_advance_156
  · have ic_6 : r_5.toInt = 0 := ieq c_6 rfl (by decide)
    refine lv_is (y := 0) c_6 ?_
    refine lv_tableIn (off := 104) (tgt := 135) hx hb dX6_advance_31 (by decide) (by decide) (by decide) (by decide) ?_
    refine lv_aload_n hx hb dX6_advance_135 rfl (lv_at hl 0 rfl) ?_
    refine lv_aload_n hx hb dX6_advance_136 rfl (lv_at hl 0 rfl) ?_
    refine va_get (D := D) (ci := 6) (v := .int r_2) (C := RX6) (T := TX6) (N := 9) hx hb htg gRX6 hown hK hP 0 rfl rfl 5 (by decide) (htg _ wi_260) (fun _ h9 => h9) rfl dX6_advance_137 ?_
    refine va_put (D := D) (ci := 6) (v := .int r_2) (ty := .int) (C := RX6) (T := TX6) (N := 9) hx hb htg gRX6 tyX6 tyX6_ok nmX6 hown hK hP hD hS 0 rfl rfl 6 (by decide) (htg _ wi_261) (fun _ h9 => h9) rfl (by decide +kernel) rfl rfl (Nat.le_of_ble_eq_true rfl) dX6_advance_140 (fun H locs hP hD hS => ?_)
    obtain ⟨hP, hD⟩ : PD D A [(sw_6 h0 o t1 t2 tb t4 r_2 r_2 t7 t8), (sw_by cT tb 900 tf)] _ := ⟨hP, hD⟩
    refine lv_aload_n hx hb dX6_advance_143 rfl (lv_at hl 0 rfl) ?_
    refine lv_iconst (v := 0) hx hb dX6_advance_144 (by decide) ?_
    refine va_put (D := D) (ci := 6) (v := .int 0) (ty := .int) (C := RX6) (T := TX6) (N := 9) hx hb htg gRX6 tyX6 tyX6_ok nmX6 hown hK hP hD hS 0 rfl rfl 7 (by decide) (htg _ wi_262) (fun _ h9 => h9) rfl (by decide +kernel) rfl rfl (Nat.le_of_ble_eq_true rfl) dX6_advance_145 (fun H locs hP hD hS => ?_)
    obtain ⟨hP, hD⟩ : PD D A [(sw_6 h0 o t1 t2 tb t4 r_2 r_2 0 t8), (sw_by cT tb 900 tf)] _ := ⟨hP, hD⟩
    refine lv_goto (tgt := 156) hx hb dX6_advance_148 (by decide) ?_
    have hNx := nxt_o (tx := tx) (n := t4.toInt) (sg := sg) (st := r_2.toInt) (by rw [← rs3]; exact qr_2_2) (by omega) (by omega)
    exact x_vret hx hb hr hlk hP hD hS [0, 1] ((t1, t2, r_2, r_2, 0, t8)) rfl (by decide) ⟨(by first | with_reducible rfl | ((try dsimp only); first | assumption | decide | omega | (simp only [ti_0, ti_1, ti_2, ti_3, ti_4, ti_5, ti_6, ti_7, ti_8, ti_9, ti_10, ti_11, ti_12, ti_m1]; omega))), (by first | with_reducible rfl | ((try dsimp only); first | assumption | decide | omega | (simp only [ti_0, ti_1, ti_2, ti_3, ti_4, ti_5, ti_6, ti_7, ti_8, ti_9, ti_10, ti_11, ti_12, ti_m1]; omega))), (by first | with_reducible rfl | ((try dsimp only); first | assumption | decide | omega | (simp only [ti_0, ti_1, ti_2, ti_3, ti_4, ti_5, ti_6, ti_7, ti_8, ti_9, ti_10, ti_11, ti_12, ti_m1]; omega))), (by (try dsimp only); omega), (by (try dsimp only); have h1 := rs1; unfold WQ at h1 ⊢; omega), (by (try dsimp only); omega), (by (try dsimp only); omega), (by (try dsimp only); unfold TK; omega), (by (try dsimp only); unfold NV; omega), trivial⟩ (by decide) (by decide) dX6_advance_156
  · have ic_6 : r_5.toInt = 1 := ieq c_6 rfl (by decide)
    refine lv_is (y := 1) c_6 ?_
    refine lv_tableIn (off := 120) (tgt := 151) hx hb dX6_advance_31 (by decide) (by decide) (by decide) (by decide) ?_
    refine lv_aload_n hx hb dX6_advance_151 rfl (lv_at hl 0 rfl) ?_
    refine lv_iconst (v := 4) hx hb dX6_advance_152 (by decide) ?_
    refine va_put (D := D) (ci := 6) (v := .int 4) (ty := .int) (C := RX6) (T := TX6) (N := 9) hx hb htg gRX6 tyX6 tyX6_ok nmX6 hown hK hP hD hS 0 rfl rfl 7 (by decide) (htg _ wi_262) (fun _ h9 => h9) rfl (by decide +kernel) rfl rfl (Nat.le_of_ble_eq_true rfl) dX6_advance_153 (fun H locs hP hD hS => ?_)
    obtain ⟨hP, hD⟩ : PD D A [(sw_6 h0 o t1 t2 tb t4 r_2 z_3 4 t8), (sw_by cT tb 900 tf)] _ := ⟨hP, hD⟩
    have hNx := nxt_o (tx := tx) (n := t4.toInt) (sg := sg) (st := r_2.toInt) (by rw [← rs3]; exact qr_2_2) (by omega) (by omega)
    exact x_vret hx hb hr hlk hP hD hS [0, 1] ((t1, t2, r_2, z_3, 4, t8)) rfl (by decide) ⟨(by first | with_reducible rfl | ((try dsimp only); first | assumption | decide | omega | (simp only [ti_0, ti_1, ti_2, ti_3, ti_4, ti_5, ti_6, ti_7, ti_8, ti_9, ti_10, ti_11, ti_12, ti_m1]; omega))), (by first | with_reducible rfl | ((try dsimp only); first | assumption | decide | omega | (simp only [ti_0, ti_1, ti_2, ti_3, ti_4, ti_5, ti_6, ti_7, ti_8, ti_9, ti_10, ti_11, ti_12, ti_m1]; omega))), (by first | with_reducible rfl | ((try dsimp only); first | assumption | decide | omega | (simp only [ti_0, ti_1, ti_2, ti_3, ti_4, ti_5, ti_6, ti_7, ti_8, ti_9, ti_10, ti_11, ti_12, ti_m1]; omega))), (by (try dsimp only); omega), (by (try dsimp only); have h1 := rs1; unfold WQ at h1 ⊢; omega), (by (try dsimp only); omega), (by (try dsimp only); omega), (by (try dsimp only); unfold TK; omega), (by (try dsimp only); unfold NV; omega), trivial⟩ (by decide) (by decide) dX6_advance_156
  · have ic_6 : r_5.toInt = 2 := ieq c_6 rfl (by decide)
    refine lv_is (y := 2) c_6 ?_
    refine lv_tableIn (off := 33) (tgt := 64) hx hb dX6_advance_31 (by decide) (by decide) (by decide) (by decide) ?_
    refine lv_aload_n hx hb dX6_advance_64 rfl (lv_at hl 0 rfl) ?_
    refine lv_aload_n hx hb dX6_advance_65 rfl (lv_at hl 0 rfl) ?_
    refine lv_iconst (v := 2) hx hb dX6_advance_66 (by decide) ?_
    refine lv_aload_n hx hb dX6_advance_67 rfl (lv_at hl 0 rfl) ?_
    refine va_get (D := D) (ci := 6) (v := .int r_2) (C := RX6) (T := TX6) (N := 9) hx hb htg gRX6 hown hK hP 0 rfl rfl 5 (by decide) (htg _ wi_260) (fun _ h9 => h9) rfl dX6_advance_68 ?_
    refine xk_i (wr := []) (xr_V (n := 2) (As := [.int 2, .int r_2]) (rest := [.ref h0]) ⟨hx, hb, hml, hown, htg⟩ hK hN hP hD hS hA [0, 1] rfl (by decide) (g_endOfR l D cT _ (h0) (o) (tb) (t1) (t2) (t4) (r_2) (z_3) (t7) (t8) (by first | assumption | decide | omega | (simp only [ti_0, ti_1, ti_2, ti_3, ti_4, ti_5, ti_6, ti_7, ti_8, ti_9, ti_10, ti_11, ti_12, ti_m1]; omega)) (tf) (2) (r_2) (by first | assumption | decide | omega | (simp only [ti_0, ti_1, ti_2, ti_3, ti_4, ti_5, ti_6, ti_7, ti_8, ti_9, ti_10, ti_11, ti_12, ti_m1]; omega)) (by first | assumption | decide | omega | (simp only [ti_0, ti_1, ti_2, ti_3, ti_4, ti_5, ti_6, ti_7, ti_8, ti_9, ti_10, ti_11, ti_12, ti_m1]; omega)) (tx) (by first | assumption | decide | omega | (simp only [ti_0, ti_1, ti_2, ti_3, ti_4, ti_5, ti_6, ti_7, ti_8, ti_9, ti_10, ti_11, ti_12, ti_m1]; omega))) wi_537 wi_539 wi_4 wi_122 wi_540 rfl rfl rfl ⟨rfl, by decide +kernel⟩ ⟨Nat.le_of_ble_eq_true rfl, Nat.le_of_ble_eq_true rfl⟩ rfl hl.1 rfl (Nat.le_of_ble_eq_true rfl) dX6_advance_71 ⟨Nat.le_of_ble_eq_true rfl, Nat.le_of_ble_eq_true rfl⟩) hP hD hS hA [0, 1] [] rfl rfl (by decide) (by decide) (fun r_8 u_7 H locs hwr_8 hP hD hS => ?_)
    obtain ⟨hP, hD⟩ : PD D A [(sw_6 h0 o t1 t2 tb t4 r_2 z_3 t7 t8), (sw_by cT tb 900 tf)] _ := ⟨hP, hD⟩
    have qr_8_0 : 0 ≤ r_8.toInt ∧ r_8.toInt ≤ 900 := hwr_8.1
    have qr_8_1 : r_2.toInt ≤ r_8.toInt ∧ r_8.toInt ≤ t4.toInt := hwr_8.2.1
    have qr_8_2 : r_8.toInt = runB tx t4.toInt 2 1000 r_2.toInt := by have h7 := hwr_8.2.2.1; simp only [show ((2 : Int32)).toInt = 2 from by decide] at h7; exact h7
    have qr_8_3 : ∀ j, r_2.toInt ≤ j → j < r_8.toInt → kdB tx t4.toInt j = 2 := by have h7 := hwr_8.2.2.2.1; simp only [show ((2 : Int32)).toInt = 2 from by decide] at h7; exact h7
    refine va_put (D := D) (ci := 6) (v := .int r_8) (ty := .int) (C := RX6) (T := TX6) (N := 9) hx hb htg gRX6 tyX6 tyX6_ok nmX6 hown hK hP hD hS 0 rfl rfl 6 (by decide) (htg _ wi_261) (fun _ h9 => h9) rfl (by decide +kernel) rfl rfl (Nat.le_of_ble_eq_true rfl) dX6_advance_74 (fun H locs hP hD hS => ?_)
    obtain ⟨hP, hD⟩ : PD D A [(sw_6 h0 o t1 t2 tb t4 r_2 r_8 t7 t8), (sw_by cT tb 900 tf)] _ := ⟨hP, hD⟩
    refine lv_aload_n hx hb dX6_advance_77 rfl (lv_at hl 0 rfl) ?_
    refine lv_iconst (v := 1) hx hb dX6_advance_78 (by decide) ?_
    refine va_put (D := D) (ci := 6) (v := .int 1) (ty := .int) (C := RX6) (T := TX6) (N := 9) hx hb htg gRX6 tyX6 tyX6_ok nmX6 hown hK hP hD hS 0 rfl rfl 7 (by decide) (htg _ wi_262) (fun _ h9 => h9) rfl (by decide +kernel) rfl rfl (Nat.le_of_ble_eq_true rfl) dX6_advance_79 (fun H locs hP hD hS => ?_)
    obtain ⟨hP, hD⟩ : PD D A [(sw_6 h0 o t1 t2 tb t4 r_2 r_8 1 t8), (sw_by cT tb 900 tf)] _ := ⟨hP, hD⟩
    refine lv_goto (tgt := 156) hx hb dX6_advance_82 (by decide) ?_
    have hNx := nxt_w (tx := tx) (n := t4.toInt) (sg := sg) (st := r_2.toInt) (en := r_8.toInt) (by rw [← rs3]; exact qr_2_2) (by omega) (by exact qr_8_2)
    have hkk := keyF_in tx r_2.toInt r_8.toInt
    have hkq : keyF tx r_2.toInt r_8.toInt = keyF tx (nxtF tx t4.toInt sg 0) (nxtF tx t4.toInt sg 1) := by rw [hNx.1, hNx.2.1]
    exact x_vret hx hb hr hlk hP hD hS [0, 1] ((t1, t2, r_2, r_8, 1, t8)) rfl (by decide) ⟨(by first | with_reducible rfl | ((try dsimp only); first | assumption | decide | omega | (simp only [ti_0, ti_1, ti_2, ti_3, ti_4, ti_5, ti_6, ti_7, ti_8, ti_9, ti_10, ti_11, ti_12, ti_m1]; omega))), (by first | with_reducible rfl | ((try dsimp only); first | assumption | decide | omega | (simp only [ti_0, ti_1, ti_2, ti_3, ti_4, ti_5, ti_6, ti_7, ti_8, ti_9, ti_10, ti_11, ti_12, ti_m1]; omega))), (by first | with_reducible rfl | ((try dsimp only); first | assumption | decide | omega | (simp only [ti_0, ti_1, ti_2, ti_3, ti_4, ti_5, ti_6, ti_7, ti_8, ti_9, ti_10, ti_11, ti_12, ti_m1]; omega))), (by (try dsimp only); omega), (by (try dsimp only); have h1 := rs1; unfold WQ at h1 ⊢; omega), (by (try dsimp only); omega), (by (try dsimp only); omega), (by (try dsimp only); unfold TK; omega), (by (try dsimp only); unfold NV; omega), trivial⟩ (by decide) (by decide) dX6_advance_156
  · have ic_6 : r_5.toInt = 3 := ieq c_6 rfl (by decide)
    refine lv_is (y := 3) c_6 ?_
    refine lv_tableIn (off := 54) (tgt := 85) hx hb dX6_advance_31 (by decide) (by decide) (by decide) (by decide) ?_
    refine lv_aload_n hx hb dX6_advance_85 rfl (lv_at hl 0 rfl) ?_
    refine lv_aload_n hx hb dX6_advance_86 rfl (lv_at hl 0 rfl) ?_
    refine lv_iconst (v := 3) hx hb dX6_advance_87 (by decide) ?_
    refine lv_aload_n hx hb dX6_advance_88 rfl (lv_at hl 0 rfl) ?_
    refine va_get (D := D) (ci := 6) (v := .int r_2) (C := RX6) (T := TX6) (N := 9) hx hb htg gRX6 hown hK hP 0 rfl rfl 5 (by decide) (htg _ wi_260) (fun _ h9 => h9) rfl dX6_advance_89 ?_
    refine xk_i (wr := []) (xr_V (n := 2) (As := [.int 3, .int r_2]) (rest := [.ref h0]) ⟨hx, hb, hml, hown, htg⟩ hK hN hP hD hS hA [0, 1] rfl (by decide) (g_endOfR l D cT _ (h0) (o) (tb) (t1) (t2) (t4) (r_2) (z_3) (t7) (t8) (by first | assumption | decide | omega | (simp only [ti_0, ti_1, ti_2, ti_3, ti_4, ti_5, ti_6, ti_7, ti_8, ti_9, ti_10, ti_11, ti_12, ti_m1]; omega)) (tf) (3) (r_2) (by first | assumption | decide | omega | (simp only [ti_0, ti_1, ti_2, ti_3, ti_4, ti_5, ti_6, ti_7, ti_8, ti_9, ti_10, ti_11, ti_12, ti_m1]; omega)) (by first | assumption | decide | omega | (simp only [ti_0, ti_1, ti_2, ti_3, ti_4, ti_5, ti_6, ti_7, ti_8, ti_9, ti_10, ti_11, ti_12, ti_m1]; omega)) (tx) (by first | assumption | decide | omega | (simp only [ti_0, ti_1, ti_2, ti_3, ti_4, ti_5, ti_6, ti_7, ti_8, ti_9, ti_10, ti_11, ti_12, ti_m1]; omega))) wi_537 wi_539 wi_4 wi_122 wi_540 rfl rfl rfl ⟨rfl, by decide +kernel⟩ ⟨Nat.le_of_ble_eq_true rfl, Nat.le_of_ble_eq_true rfl⟩ rfl hl.1 rfl (Nat.le_of_ble_eq_true rfl) dX6_advance_92 ⟨Nat.le_of_ble_eq_true rfl, Nat.le_of_ble_eq_true rfl⟩) hP hD hS hA [0, 1] [] rfl rfl (by decide) (by decide) (fun r_10 u_9 H locs hwr_10 hP hD hS => ?_)
    obtain ⟨hP, hD⟩ : PD D A [(sw_6 h0 o t1 t2 tb t4 r_2 z_3 t7 t8), (sw_by cT tb 900 tf)] _ := ⟨hP, hD⟩
    have qr_10_0 : 0 ≤ r_10.toInt ∧ r_10.toInt ≤ 900 := hwr_10.1
    have qr_10_1 : r_2.toInt ≤ r_10.toInt ∧ r_10.toInt ≤ t4.toInt := hwr_10.2.1
    have qr_10_2 : r_10.toInt = runB tx t4.toInt 3 1000 r_2.toInt := by have h7 := hwr_10.2.2.1; simp only [show ((3 : Int32)).toInt = 3 from by decide] at h7; exact h7
    have qr_10_3 : ∀ j, r_2.toInt ≤ j → j < r_10.toInt → kdB tx t4.toInt j = 3 := by have h7 := hwr_10.2.2.2.1; simp only [show ((3 : Int32)).toInt = 3 from by decide] at h7; exact h7
    refine va_put (D := D) (ci := 6) (v := .int r_10) (ty := .int) (C := RX6) (T := TX6) (N := 9) hx hb htg gRX6 tyX6 tyX6_ok nmX6 hown hK hP hD hS 0 rfl rfl 6 (by decide) (htg _ wi_261) (fun _ h9 => h9) rfl (by decide +kernel) rfl rfl (Nat.le_of_ble_eq_true rfl) dX6_advance_95 (fun H locs hP hD hS => ?_)
    obtain ⟨hP, hD⟩ : PD D A [(sw_6 h0 o t1 t2 tb t4 r_2 r_10 t7 t8), (sw_by cT tb 900 tf)] _ := ⟨hP, hD⟩
    refine lv_aload_n hx hb dX6_advance_98 rfl (lv_at hl 0 rfl) ?_
    refine lv_aload_n hx hb dX6_advance_99 rfl (lv_at hl 0 rfl) ?_
    refine va_get (D := D) (ci := 6) (v := .int r_10) (C := RX6) (T := TX6) (N := 9) hx hb htg gRX6 hown hK hP 0 rfl rfl 6 (by decide) (htg _ wi_261) (fun _ h9 => h9) rfl dX6_advance_100 ?_
    refine lv_aload_n hx hb dX6_advance_103 rfl (lv_at hl 0 rfl) ?_
    refine va_get (D := D) (ci := 6) (v := .int r_2) (C := RX6) (T := TX6) (N := 9) hx hb htg gRX6 hown hK hP 0 rfl rfl 5 (by decide) (htg _ wi_260) (fun _ h9 => h9) rfl dX6_advance_104 ?_
    refine lv_isub hx hb dX6_advance_107 ?_
    refine lv_topi (fun z_11 ez_11 => ?_)
    have iz_11 : z_11.toInt = r_10.toInt - r_2.toInt := toInt_subI ez_11 rfl rfl (by omega)
    refine lv_iconst (v := 3) hx hb dX6_advance_108 (by decide) ?_
    refine lv_icmp_le (tgt := 116) hx hb dX6_advance_109 (by decide) (fun c_12 => ?_) (fun c_12 => ?_)
    · have ic_12 : z_11.toInt ≤ 3 := ile c_12 (rfl) (by decide)
      refine lv_iconst (v := 2) hx hb dX6_advance_116 (by decide) ?_
      refine va_put (D := D) (ci := 6) (v := .int 2) (ty := .int) (C := RX6) (T := TX6) (N := 9) hx hb htg gRX6 tyX6 tyX6_ok nmX6 hown hK hP hD hS 0 rfl rfl 7 (by decide) (htg _ wi_262) (fun _ h9 => h9) rfl (by decide +kernel) rfl rfl (Nat.le_of_ble_eq_true rfl) dX6_advance_117 (fun H locs hP hD hS => ?_)
      obtain ⟨hP, hD⟩ : PD D A [(sw_6 h0 o t1 t2 tb t4 r_2 r_10 2 t8), (sw_by cT tb 900 tf)] _ := ⟨hP, hD⟩
      refine lv_aload_n hx hb dX6_advance_120 rfl (lv_at hl 0 rfl) ?_
      refine xk_v (wr := []) (xr_V (n := 0) (As := []) (rest := []) ⟨hx, hb, hml, hown, htg⟩ hK hN hP hD hS hA [0, 1] rfl (by decide) (g_readValueR l D cT _ (h0) (o) (tb) (t1) (t2) (t4) (r_2) (r_10) (2) (t8) (by first | assumption | decide | omega | (simp only [ti_0, ti_1, ti_2, ti_3, ti_4, ti_5, ti_6, ti_7, ti_8, ti_9, ti_10, ti_11, ti_12, ti_m1]; omega)) (by first | assumption | decide | omega | (simp only [ti_0, ti_1, ti_2, ti_3, ti_4, ti_5, ti_6, ti_7, ti_8, ti_9, ti_10, ti_11, ti_12, ti_m1]; omega)) (by first | assumption | decide | omega | (simp only [ti_0, ti_1, ti_2, ti_3, ti_4, ti_5, ti_6, ti_7, ti_8, ti_9, ti_10, ti_11, ti_12, ti_m1]; omega)) (tf) (tx) (by first | assumption | decide | omega | (simp only [ti_0, ti_1, ti_2, ti_3, ti_4, ti_5, ti_6, ti_7, ti_8, ti_9, ti_10, ti_11, ti_12, ti_m1]; omega)) (by first | assumption | decide | omega | (simp only [ti_0, ti_1, ti_2, ti_3, ti_4, ti_5, ti_6, ti_7, ti_8, ti_9, ti_10, ti_11, ti_12, ti_m1]; omega))) wi_545 wi_547 wi_6 wi_122 wi_548 rfl rfl rfl ⟨rfl, by decide +kernel⟩ ⟨Nat.le_of_ble_eq_true rfl, Nat.le_of_ble_eq_true rfl⟩ rfl hl.1 rfl (Nat.le_of_ble_eq_true rfl) dX6_advance_121 ⟨Nat.le_of_ble_eq_true rfl, Nat.le_of_ble_eq_true rfl⟩) hP hD hS hA [0, 1] [] rfl rfl (by decide) (by decide) (fun u_13 H locs hwr_14 hP hD hS => ?_)
      obtain ⟨hP, hD⟩ : PD D A [(sw_6 h0 o t1 t2 tb t4 r_2 r_10 2 u_13), (sw_by cT tb 900 tf)] _ := ⟨hP, hD⟩
      have qr_14_0 : u_13.toInt = valB tx r_2.toInt (min (r_10.toInt - r_2.toInt) 3).toNat := hwr_14.1
      refine lv_goto (tgt := 156) hx hb dX6_advance_124 (by decide) ?_
      have hNx := nxt_d (tx := tx) (n := t4.toInt) (sg := sg) (st := r_2.toInt) (en := r_10.toInt) (by rw [← rs3]; exact qr_2_2) (by omega) (by exact qr_10_2)
      exact x_vret hx hb hr hlk hP hD hS [0, 1] ((t1, t2, r_2, r_10, 2, u_13)) rfl (by decide) ⟨(by first | with_reducible rfl | ((try dsimp only); first | assumption | decide | omega | (simp only [ti_0, ti_1, ti_2, ti_3, ti_4, ti_5, ti_6, ti_7, ti_8, ti_9, ti_10, ti_11, ti_12, ti_m1]; omega))), (by first | with_reducible rfl | ((try dsimp only); first | assumption | decide | omega | (simp only [ti_0, ti_1, ti_2, ti_3, ti_4, ti_5, ti_6, ti_7, ti_8, ti_9, ti_10, ti_11, ti_12, ti_m1]; omega))), (by first | with_reducible rfl | ((try dsimp only); first | assumption | decide | omega | (simp only [ti_0, ti_1, ti_2, ti_3, ti_4, ti_5, ti_6, ti_7, ti_8, ti_9, ti_10, ti_11, ti_12, ti_m1]; omega))), (by (try dsimp only); omega), (by (try dsimp only); have h1 := rs1; unfold WQ at h1 ⊢; omega), (by (try dsimp only); omega), (by (try dsimp only); omega), (by (try dsimp only); unfold TK; omega), (by (try dsimp only); unfold NV; omega), trivial⟩ (by decide) (by decide) dX6_advance_156
    · have ic_12 : 3 < z_11.toInt := inle c_12 (rfl) (by decide)
      refine lv_iconst (v := 4) hx hb dX6_advance_112 (by decide) ?_
      refine lv_goto (tgt := 117) hx hb dX6_advance_113 (by decide) ?_
      refine va_put (D := D) (ci := 6) (v := .int 4) (ty := .int) (C := RX6) (T := TX6) (N := 9) hx hb htg gRX6 tyX6 tyX6_ok nmX6 hown hK hP hD hS 0 rfl rfl 7 (by decide) (htg _ wi_262) (fun _ h9 => h9) rfl (by decide +kernel) rfl rfl (Nat.le_of_ble_eq_true rfl) dX6_advance_117 (fun H locs hP hD hS => ?_)
      obtain ⟨hP, hD⟩ : PD D A [(sw_6 h0 o t1 t2 tb t4 r_2 r_10 4 t8), (sw_by cT tb 900 tf)] _ := ⟨hP, hD⟩
      refine lv_aload_n hx hb dX6_advance_120 rfl (lv_at hl 0 rfl) ?_
      refine xk_v (wr := []) (xr_V (n := 0) (As := []) (rest := []) ⟨hx, hb, hml, hown, htg⟩ hK hN hP hD hS hA [0, 1] rfl (by decide) (g_readValueR l D cT _ (h0) (o) (tb) (t1) (t2) (t4) (r_2) (r_10) (4) (t8) (by first | assumption | decide | omega | (simp only [ti_0, ti_1, ti_2, ti_3, ti_4, ti_5, ti_6, ti_7, ti_8, ti_9, ti_10, ti_11, ti_12, ti_m1]; omega)) (by first | assumption | decide | omega | (simp only [ti_0, ti_1, ti_2, ti_3, ti_4, ti_5, ti_6, ti_7, ti_8, ti_9, ti_10, ti_11, ti_12, ti_m1]; omega)) (by first | assumption | decide | omega | (simp only [ti_0, ti_1, ti_2, ti_3, ti_4, ti_5, ti_6, ti_7, ti_8, ti_9, ti_10, ti_11, ti_12, ti_m1]; omega)) (tf) (tx) (by first | assumption | decide | omega | (simp only [ti_0, ti_1, ti_2, ti_3, ti_4, ti_5, ti_6, ti_7, ti_8, ti_9, ti_10, ti_11, ti_12, ti_m1]; omega)) (by first | assumption | decide | omega | (simp only [ti_0, ti_1, ti_2, ti_3, ti_4, ti_5, ti_6, ti_7, ti_8, ti_9, ti_10, ti_11, ti_12, ti_m1]; omega))) wi_545 wi_547 wi_6 wi_122 wi_548 rfl rfl rfl ⟨rfl, by decide +kernel⟩ ⟨Nat.le_of_ble_eq_true rfl, Nat.le_of_ble_eq_true rfl⟩ rfl hl.1 rfl (Nat.le_of_ble_eq_true rfl) dX6_advance_121 ⟨Nat.le_of_ble_eq_true rfl, Nat.le_of_ble_eq_true rfl⟩) hP hD hS hA [0, 1] [] rfl rfl (by decide) (by decide) (fun u_15 H locs hwr_16 hP hD hS => ?_)
      obtain ⟨hP, hD⟩ : PD D A [(sw_6 h0 o t1 t2 tb t4 r_2 r_10 4 u_15), (sw_by cT tb 900 tf)] _ := ⟨hP, hD⟩
      have qr_16_0 : u_15.toInt = valB tx r_2.toInt (min (r_10.toInt - r_2.toInt) 3).toNat := hwr_16.1
      refine lv_goto (tgt := 156) hx hb dX6_advance_124 (by decide) ?_
      have hNx := nxt_d (tx := tx) (n := t4.toInt) (sg := sg) (st := r_2.toInt) (en := r_10.toInt) (by rw [← rs3]; exact qr_2_2) (by omega) (by exact qr_10_2)
      exact x_vret hx hb hr hlk hP hD hS [0, 1] ((t1, t2, r_2, r_10, 4, u_15)) rfl (by decide) ⟨(by first | with_reducible rfl | ((try dsimp only); first | assumption | decide | omega | (simp only [ti_0, ti_1, ti_2, ti_3, ti_4, ti_5, ti_6, ti_7, ti_8, ti_9, ti_10, ti_11, ti_12, ti_m1]; omega))), (by first | with_reducible rfl | ((try dsimp only); first | assumption | decide | omega | (simp only [ti_0, ti_1, ti_2, ti_3, ti_4, ti_5, ti_6, ti_7, ti_8, ti_9, ti_10, ti_11, ti_12, ti_m1]; omega))), (by first | with_reducible rfl | ((try dsimp only); first | assumption | decide | omega | (simp only [ti_0, ti_1, ti_2, ti_3, ti_4, ti_5, ti_6, ti_7, ti_8, ti_9, ti_10, ti_11, ti_12, ti_m1]; omega))), (by (try dsimp only); omega), (by (try dsimp only); have h1 := rs1; unfold WQ at h1 ⊢; omega), (by (try dsimp only); omega), (by (try dsimp only); omega), (by (try dsimp only); unfold TK; omega), (by (try dsimp only); unfold NV; omega), trivial⟩ (by decide) (by decide) dX6_advance_156
  · have ic_6 : r_5.toInt = 4 := ieq c_6 rfl (by decide)
    refine lv_is (y := 4) c_6 ?_
    refine lv_tableIn (off := 96) (tgt := 127) hx hb dX6_advance_31 (by decide) (by decide) (by decide) (by decide) ?_
    refine lv_aload_n hx hb dX6_advance_127 rfl (lv_at hl 0 rfl) ?_
    refine lv_iconst (v := 3) hx hb dX6_advance_128 (by decide) ?_
    refine va_put (D := D) (ci := 6) (v := .int 3) (ty := .int) (C := RX6) (T := TX6) (N := 9) hx hb htg gRX6 tyX6 tyX6_ok nmX6 hown hK hP hD hS 0 rfl rfl 7 (by decide) (htg _ wi_262) (fun _ h9 => h9) rfl (by decide +kernel) rfl rfl (Nat.le_of_ble_eq_true rfl) dX6_advance_129 (fun H locs hP hD hS => ?_)
    obtain ⟨hP, hD⟩ : PD D A [(sw_6 h0 o t1 t2 tb t4 r_2 z_3 3 t8), (sw_by cT tb 900 tf)] _ := ⟨hP, hD⟩
    refine lv_goto (tgt := 156) hx hb dX6_advance_132 (by decide) ?_
    have hNx := nxt_o (tx := tx) (n := t4.toInt) (sg := sg) (st := r_2.toInt) (by rw [← rs3]; exact qr_2_2) (by omega) (by omega)
    exact x_vret hx hb hr hlk hP hD hS [0, 1] ((t1, t2, r_2, z_3, 3, t8)) rfl (by decide) ⟨(by first | with_reducible rfl | ((try dsimp only); first | assumption | decide | omega | (simp only [ti_0, ti_1, ti_2, ti_3, ti_4, ti_5, ti_6, ti_7, ti_8, ti_9, ti_10, ti_11, ti_12, ti_m1]; omega))), (by first | with_reducible rfl | ((try dsimp only); first | assumption | decide | omega | (simp only [ti_0, ti_1, ti_2, ti_3, ti_4, ti_5, ti_6, ti_7, ti_8, ti_9, ti_10, ti_11, ti_12, ti_m1]; omega))), (by first | with_reducible rfl | ((try dsimp only); first | assumption | decide | omega | (simp only [ti_0, ti_1, ti_2, ti_3, ti_4, ti_5, ti_6, ti_7, ti_8, ti_9, ti_10, ti_11, ti_12, ti_m1]; omega))), (by (try dsimp only); omega), (by (try dsimp only); have h1 := rs1; unfold WQ at h1 ⊢; omega), (by (try dsimp only); omega), (by (try dsimp only); omega), (by (try dsimp only); unfold TK; omega), (by (try dsimp only); unfold NV; omega), trivial⟩ (by decide) (by decide) dX6_advance_156
set_option maxHeartbeats 4000000 in
set_option maxRecDepth 100000 in
theorem g_refuseR (l : Launch) (D : va_G) (cT : Nat → ClassId) (sz : Nat) (h0 : Nat) (o : Nat) (tb : Nat) (t1 : Int32) (t2 : Int32) (t4 : Int32) (t5 : Int32) (t6 : Int32) (t7 : Int32) (t8 : Int32) (ht4 : 0 ≤ t4.toInt ∧ t4.toInt ≤ 900) (ht6 : 0 ≤ t6.toInt ∧ t6.toInt ≤ t4.toInt) (ht5 : 0 ≤ t5.toInt ∧ t5.toInt ≤ t6.toInt) (x : Int32) (hx1 : ¬ x.toInt = 0) (tx : Nat → Int) (sg : Nat → Int) (rs0 : t1.toInt = (sg) 4) (rs1 : WQ t2.toInt (sg)) (rs2 : t5.toInt = (sg) 0) (rs3 : t6.toInt = (sg) 1) (rs4 : TK tx t7.toInt (sg)) (rs5 : NV t8.toInt (sg)) : Met l yX6_refuse (wsc yX6_refuse cX6_refuse 2 none) { frames := 2, cells := 0, slots := 0, locals := 100 } (va_Pc [.ref h0, .int x] (PX D cT sz [(sw_6 h0 o t1 t2 tb t4 t5 t6 t7 t8)])) (va_Qv (fun (u : Int32 × Int32 × Int32 × Int32 × Int32 × Int32) => (0 ≤ u.2.2.1.toInt ∧ u.2.2.1.toInt ≤ 900) ∧ (0 ≤ u.2.2.2.1.toInt ∧ u.2.2.2.1.toInt ≤ 900) ∧ (u.2.2.1.toInt ≤ u.2.2.2.1.toInt ∧ u.2.2.2.1.toInt ≤ t4.toInt) ∧ (u.1.toInt = (failsF x.toInt sg) 4) ∧ (WQ u.2.1.toInt (failsF x.toInt sg)) ∧ (u.2.2.1.toInt = (failsF x.toInt sg) 0) ∧ (u.2.2.2.1.toInt = (failsF x.toInt sg) 1) ∧ (TK tx u.2.2.2.2.1.toInt (failsF x.toInt sg)) ∧ (NV u.2.2.2.2.2.toInt (failsF x.toInt sg)) ∧ (True)) (fun u t => RW D (va_A [(sw_6 h0 o t1 t2 tb t4 t5 t6 t7 t8)] sz) ((fun u : Int32 × Int32 × Int32 × Int32 × Int32 × Int32 => [(sw_6 h0 o u.1 u.2.1 tb t4 u.2.2.1 u.2.2.2.1 u.2.2.2.2.1 u.2.2.2.2.2)]) u) t) (va_A [(sw_6 h0 o t1 t2 tb t4 t5 t6 t7 t8)] sz)) 0 0 (va_A [(sw_6 h0 o t1 t2 tb t4 t5 t6 t7 t8)] sz) := by
  refine m_of (y := yX6_refuse) (cc := cX6_refuse) (nL := 2) (ret := none) (D := D) (cT := cT) (av := [.ref h0, .int x]) (wi := [(sw_6 h0 o t1 t2 tb t4 t5 t6 t7 t8)]) (fun A => va_Qv (fun (u : Int32 × Int32 × Int32 × Int32 × Int32 × Int32) => (0 ≤ u.2.2.1.toInt ∧ u.2.2.1.toInt ≤ 900) ∧ (0 ≤ u.2.2.2.1.toInt ∧ u.2.2.2.1.toInt ≤ 900) ∧ (u.2.2.1.toInt ≤ u.2.2.2.1.toInt ∧ u.2.2.2.1.toInt ≤ t4.toInt) ∧ (u.1.toInt = (failsF x.toInt sg) 4) ∧ (WQ u.2.1.toInt (failsF x.toInt sg)) ∧ (u.2.2.1.toInt = (failsF x.toInt sg) 0) ∧ (u.2.2.2.1.toInt = (failsF x.toInt sg) 1) ∧ (TK tx u.2.2.2.2.1.toInt (failsF x.toInt sg)) ∧ (NV u.2.2.2.2.2.toInt (failsF x.toInt sg)) ∧ (True)) (fun u t => RW D A ((fun u : Int32 × Int32 × Int32 × Int32 × Int32 × Int32 => [(sw_6 h0 o u.1 u.2.1 tb t4 u.2.2.1 u.2.2.2.1 u.2.2.2.2.1 u.2.2.2.2.2)]) u) t) A) (by decide) (Nat.le_of_ble_eq_true rfl) ?_
  intro p e s m below meth c A hx hb hml hown htg hK hN hr hlk hnm hsz hP hD hS hA ls hl
  have hown : s.vm.findClass RX6 = some m.cls := hown
  have hl : lv_has ls 2 [(0, .ref h0), (1, .int x)] := hl
  have t9_0 : (0 : Int32).toInt = 0 := by decide
  have t9_1 : (1 : Int32).toInt = 1 := by decide
  have t9_4 : (4 : Int32).toInt = 4 := by decide
  refine lv_aload_n hx hb dX6_refuse_0 rfl (lv_at hl 0 rfl) ?_
  refine va_get (D := D) (ci := 6) (v := .int t1) (C := RX6) (T := TX6) (N := 9) hx hb htg gRX6 hown hK hP 0 rfl rfl 1 (by decide) (htg _ wi_254) (fun _ h9 => h9) rfl dX6_refuse_1 ?_
  refine lv_if_ne (tgt := 32) hx hb dX6_refuse_4 (by decide) (fun c_1 => ?_) (fun c_1 => ?_)
  · have ic_1 : ¬ t1.toInt = 0 := ine c_1 (rfl) (by decide)
    have h17 := TK_4 rs4
    have hF := fails_all x.toInt sg
    have hF5 := hF.2.2.2.2.1
    have hF6 := hF.2.2.2.2.2.1
    have hF7 := hF.2.2.2.2.2.2.1
    have hF8 := hF.2.2.2.2.2.2.2
    exact x_vret hx hb hr hlk hP hD hS [0] ((t1, t2, t5, t6, t7, t8)) rfl (by decide) ⟨(by first | with_reducible rfl | ((try dsimp only); first | assumption | decide | omega | (simp only [ti_0, ti_1, ti_2, ti_3, ti_4, ti_5, ti_6, ti_7, ti_8, ti_9, ti_10, ti_11, ti_12, ti_m1]; omega))), (by first | with_reducible rfl | ((try dsimp only); first | assumption | decide | omega | (simp only [ti_0, ti_1, ti_2, ti_3, ti_4, ti_5, ti_6, ti_7, ti_8, ti_9, ti_10, ti_11, ti_12, ti_m1]; omega))), (by first | with_reducible rfl | ((try dsimp only); first | assumption | decide | omega | (simp only [ti_0, ti_1, ti_2, ti_3, ti_4, ti_5, ti_6, ti_7, ti_8, ti_9, ti_10, ti_11, ti_12, ti_m1]; omega))), (by (try dsimp only); clear rs5 hF; omega), (by (try dsimp only); have h1 := rs1; unfold WQ at h1 ⊢; clear rs5 hF; omega), (by (try dsimp only); rw [hF.1]; exact rs2), (by (try dsimp only); rw [hF.2.1]; exact rs3), (by (try dsimp only); have h1 := rs4; unfold TK at h1 ⊢; rw [hF.2.2.1, hF.1, hF.2.1]; exact h1), (by (try dsimp only); have h1 := rs5; unfold NV at h1 ⊢; rw [hF.2.2.1, hF.2.2.2.1]; exact h1), trivial⟩ (by decide) (by decide) dX6_refuse_32
  · have ic_1 : t1.toInt = 0 := ieq c_1 (rfl) (by decide)
    refine lv_aload_n hx hb dX6_refuse_7 rfl (lv_at hl 0 rfl) ?_
    refine lv_aload_n hx hb dX6_refuse_8 rfl (lv_at hl 0 rfl) ?_
    refine va_get (D := D) (ci := 6) (v := .int t7) (C := RX6) (T := TX6) (N := 9) hx hb htg gRX6 hown hK hP 0 rfl rfl 7 (by decide) (htg _ wi_262) (fun _ h9 => h9) rfl dX6_refuse_9 ?_
    refine lv_iconst (v := 4) hx hb dX6_refuse_12 (by decide) ?_
    refine lv_icmp_ne (tgt := 20) hx hb dX6_refuse_13 (by decide) (fun c_2 => ?_) (fun c_2 => ?_)
    · have ic_2 : ¬ t7.toInt = 4 := ine c_2 (rfl) (by decide)
      refine lv_iload_n hx hb dX6_refuse_20 rfl (lv_at hl 1 rfl) ?_
      refine va_put (D := D) (ci := 6) (v := .int x) (ty := .int) (C := RX6) (T := TX6) (N := 9) hx hb htg gRX6 tyX6 tyX6_ok nmX6 hown hK hP hD hS 0 rfl rfl 1 (by decide) (htg _ wi_254) (fun _ h9 => h9) rfl (by decide +kernel) rfl rfl (Nat.le_of_ble_eq_true rfl) dX6_refuse_21 (fun H locs hP hD hS => ?_)
      obtain ⟨hP, hD⟩ : PD D A [(sw_6 h0 o x t2 tb t4 t5 t6 t7 t8)] _ := ⟨hP, hD⟩
      refine lv_aload_n hx hb dX6_refuse_24 rfl (lv_at hl 0 rfl) ?_
      refine lv_aload_n hx hb dX6_refuse_25 rfl (lv_at hl 0 rfl) ?_
      refine va_get (D := D) (ci := 6) (v := .int t5) (C := RX6) (T := TX6) (N := 9) hx hb htg gRX6 hown hK hP 0 rfl rfl 5 (by decide) (htg _ wi_260) (fun _ h9 => h9) rfl dX6_refuse_26 ?_
      refine va_put (D := D) (ci := 6) (v := .int t5) (ty := .int) (C := RX6) (T := TX6) (N := 9) hx hb htg gRX6 tyX6 tyX6_ok nmX6 hown hK hP hD hS 0 rfl rfl 2 (by decide) (htg _ wi_256) (fun _ h9 => h9) rfl (by decide +kernel) rfl rfl (Nat.le_of_ble_eq_true rfl) dX6_refuse_29 (fun H locs hP hD hS => ?_)
      obtain ⟨hP, hD⟩ : PD D A [(sw_6 h0 o x t5 tb t4 t5 t6 t7 t8)] _ := ⟨hP, hD⟩
      have h17 := TK_4 rs4
      have hF := fails_all x.toInt sg
      have hF5 := hF.2.2.2.2.1
      have hF6 := hF.2.2.2.2.2.1
      have hF7 := hF.2.2.2.2.2.2.1
      have hF8 := hF.2.2.2.2.2.2.2
      exact x_vret hx hb hr hlk hP hD hS [0] ((x, t5, t5, t6, t7, t8)) rfl (by decide) ⟨(by first | with_reducible rfl | ((try dsimp only); first | assumption | decide | omega | (simp only [ti_0, ti_1, ti_2, ti_3, ti_4, ti_5, ti_6, ti_7, ti_8, ti_9, ti_10, ti_11, ti_12, ti_m1]; omega))), (by first | with_reducible rfl | ((try dsimp only); first | assumption | decide | omega | (simp only [ti_0, ti_1, ti_2, ti_3, ti_4, ti_5, ti_6, ti_7, ti_8, ti_9, ti_10, ti_11, ti_12, ti_m1]; omega))), (by first | with_reducible rfl | ((try dsimp only); first | assumption | decide | omega | (simp only [ti_0, ti_1, ti_2, ti_3, ti_4, ti_5, ti_6, ti_7, ti_8, ti_9, ti_10, ti_11, ti_12, ti_m1]; omega))), (by (try dsimp only); clear rs5 hF; omega), (by (try dsimp only); have h1 := rs1; unfold WQ at h1 ⊢; clear rs5 hF; omega), (by (try dsimp only); rw [hF.1]; exact rs2), (by (try dsimp only); rw [hF.2.1]; exact rs3), (by (try dsimp only); have h1 := rs4; unfold TK at h1 ⊢; rw [hF.2.2.1, hF.1, hF.2.1]; exact h1), (by (try dsimp only); have h1 := rs5; unfold NV at h1 ⊢; rw [hF.2.2.1, hF.2.2.2.1]; exact h1), trivial⟩ (by decide) (by decide) dX6_refuse_32
    · have ic_2 : t7.toInt = 4 := ieq c_2 (rfl) (by decide)
      refine lv_iconst (v := 1) hx hb dX6_refuse_16 (by decide) ?_
      refine lv_goto (tgt := 21) hx hb dX6_refuse_17 (by decide) ?_
      refine va_put (D := D) (ci := 6) (v := .int 1) (ty := .int) (C := RX6) (T := TX6) (N := 9) hx hb htg gRX6 tyX6 tyX6_ok nmX6 hown hK hP hD hS 0 rfl rfl 1 (by decide) (htg _ wi_254) (fun _ h9 => h9) rfl (by decide +kernel) rfl rfl (Nat.le_of_ble_eq_true rfl) dX6_refuse_21 (fun H locs hP hD hS => ?_)
      obtain ⟨hP, hD⟩ : PD D A [(sw_6 h0 o 1 t2 tb t4 t5 t6 t7 t8)] _ := ⟨hP, hD⟩
      refine lv_aload_n hx hb dX6_refuse_24 rfl (lv_at hl 0 rfl) ?_
      refine lv_aload_n hx hb dX6_refuse_25 rfl (lv_at hl 0 rfl) ?_
      refine va_get (D := D) (ci := 6) (v := .int t5) (C := RX6) (T := TX6) (N := 9) hx hb htg gRX6 hown hK hP 0 rfl rfl 5 (by decide) (htg _ wi_260) (fun _ h9 => h9) rfl dX6_refuse_26 ?_
      refine va_put (D := D) (ci := 6) (v := .int t5) (ty := .int) (C := RX6) (T := TX6) (N := 9) hx hb htg gRX6 tyX6 tyX6_ok nmX6 hown hK hP hD hS 0 rfl rfl 2 (by decide) (htg _ wi_256) (fun _ h9 => h9) rfl (by decide +kernel) rfl rfl (Nat.le_of_ble_eq_true rfl) dX6_refuse_29 (fun H locs hP hD hS => ?_)
      obtain ⟨hP, hD⟩ : PD D A [(sw_6 h0 o 1 t5 tb t4 t5 t6 t7 t8)] _ := ⟨hP, hD⟩
      have h17 := TK_4 rs4
      have hF := fails_all x.toInt sg
      have hF5 := hF.2.2.2.2.1
      have hF6 := hF.2.2.2.2.2.1
      have hF7 := hF.2.2.2.2.2.2.1
      have hF8 := hF.2.2.2.2.2.2.2
      exact x_vret hx hb hr hlk hP hD hS [0] ((1, t5, t5, t6, t7, t8)) rfl (by decide) ⟨(by first | with_reducible rfl | ((try dsimp only); first | assumption | decide | omega | (simp only [ti_0, ti_1, ti_2, ti_3, ti_4, ti_5, ti_6, ti_7, ti_8, ti_9, ti_10, ti_11, ti_12, ti_m1]; omega))), (by first | with_reducible rfl | ((try dsimp only); first | assumption | decide | omega | (simp only [ti_0, ti_1, ti_2, ti_3, ti_4, ti_5, ti_6, ti_7, ti_8, ti_9, ti_10, ti_11, ti_12, ti_m1]; omega))), (by first | with_reducible rfl | ((try dsimp only); first | assumption | decide | omega | (simp only [ti_0, ti_1, ti_2, ti_3, ti_4, ti_5, ti_6, ti_7, ti_8, ti_9, ti_10, ti_11, ti_12, ti_m1]; omega))), (by (try dsimp only); clear rs5 hF; omega), (by (try dsimp only); have h1 := rs1; unfold WQ at h1 ⊢; clear rs5 hF; omega), (by (try dsimp only); rw [hF.1]; exact rs2), (by (try dsimp only); rw [hF.2.1]; exact rs3), (by (try dsimp only); have h1 := rs4; unfold TK at h1 ⊢; rw [hF.2.2.1, hF.1, hF.2.1]; exact h1), (by (try dsimp only); have h1 := rs5; unfold NV at h1 ⊢; rw [hF.2.2.1, hF.2.2.2.1]; exact h1), trivial⟩ (by decide) (by decide) dX6_refuse_32
set_option maxHeartbeats 4000000 in
set_option maxRecDepth 100000 in
theorem g_l1_charAtX (l : Launch) (D : va_G) (cT : Nat → ClassId) (sz : Nat) (si : Nat) (hisi : si < 14) (x : Int32) (hch : 0 ≤ x.toInt ∧ x.toInt < ((strL.getD si 0 : Nat) : Int)) (hl100 : strL.getD si 0 ≤ 100) : Met l yJ1_charAt_3b067 (wsc yJ1_charAt_3b067 cJ1_charAt_3b067 2 (some .char)) { frames := 4, cells := 0, slots := 0, locals := 143 } (va_Pc [.ref (cT (40 + si)), .int x] (PX D cT sz [])) (va_Qi (fun (r : Int32) (u : Unit) => (narrow .char (.int r) = .int r) ∧ (r.toInt = ((strB.getD si []).getD x.toInt.toNat 0).toInt) ∧ (True)) (fun u t => RW D (va_A [] sz) ((fun _ : Unit => []) u) t) (va_A [] sz)) 0 0 (va_A [] sz) := by
  refine m_of (y := yJ1_charAt_3b067) (cc := cJ1_charAt_3b067) (nL := 2) (ret := (some .char)) (D := D) (cT := cT) (av := [.ref (cT (40 + si)), .int x]) (wi := []) (fun A => va_Qi (fun (r : Int32) (u : Unit) => (narrow .char (.int r) = .int r) ∧ (r.toInt = ((strB.getD si []).getD x.toInt.toNat 0).toInt) ∧ (True)) (fun u t => RW D A ((fun _ : Unit => []) u) t) A) (by decide) (Nat.le_of_ble_eq_true rfl) ?_
  intro p e s m below meth c A hx hb hml hown htg hK hN hr hlk hnm hsz hP hD hS hA ls hl
  have hown : s.vm.findClass RJ1 = some m.cls := hown
  have hl : lv_has ls 2 [(0, .ref (cT (40 + si))), (1, .int x)] := hl
  refine lv_iload_n hx hb dJ1_charAt_3b067_0 rfl (lv_at hl 1 rfl) ?_
  refine lv_aload_n hx hb dJ1_charAt_3b067_1 rfl (lv_at hl 0 rfl) ?_
  refine va_tlen (v := nI (strL.getD si 0)) hx hb (hN.2.2.2.2.1.1 si hisi).2.2.2 hS rfl dJ1_charAt_3b067_2 ?_
  have hsl_si : (nI (strL.getD si 0)).toInt = ((strL.getD si 0 : Nat) : Int) := nI_toInt (by have h7 := strL_le si hisi; omega)
  refine xk_v (wr := []) (xr_S (n := 2) (As := [.int x, .int (nI (strL.getD si 0))]) (rest := []) ⟨hx, hb, hml, hown, htg⟩ hK hN hP hD hS hA [] rfl (by decide) (g_s_checkIndex l D cT _ (x) ((nI (strL.getD si 0))) (by first | assumption | decide | omega | (simp only [ti_0, ti_1, ti_2, ti_3, ti_4, ti_5, ti_6, ti_7, ti_8, ti_9, ti_10, ti_11, ti_12, ti_m1]; omega))) wi_579 wi_580 wi_134 wi_581 ⟨rfl, by decide +kernel⟩ ⟨Nat.le_of_ble_eq_true rfl, Nat.le_of_ble_eq_true rfl⟩ rfl hl.1 rfl (Nat.le_of_ble_eq_true rfl) dJ1_charAt_3b067_3 ⟨Nat.le_of_ble_eq_true rfl, Nat.le_of_ble_eq_true rfl⟩) hP hD hS hA [] [] rfl rfl (by decide) (by decide) (fun u_1 H locs hwr_2 hP hD hS => ?_)
  obtain ⟨hP, hD⟩ : PD D A [] _ := ⟨hP, hD⟩
  refine lv_aload_n hx hb dJ1_charAt_3b067_6 rfl (lv_at hl 0 rfl) ?_
  refine lv_iload_n hx hb dJ1_charAt_3b067_7 rfl (lv_at hl 1 rfl) ?_
  refine va_tb hx hb (hN.2.2.2.2.1.1 si hisi).2.2.2 hS (vp_in_iff.mpr (by omega)) rfl dJ1_charAt_3b067_8 ?_
  refine lv_topi (fun z_3 ez_3 => ?_)
  refine lv_sipush (v := 255) hx hb dJ1_charAt_3b067_9 (by decide) ?_
  refine lv_iand hx hb dJ1_charAt_3b067_12 ?_
  refine lv_topi (fun z_4 ez_4 => ?_)
  have iz_4 : 0 ≤ z_4.toInt ∧ z_4.toInt ≤ 255 := andI ez_4 (by decide) (by decide)
  obtain ⟨z_5, ez_5⟩ : ∃ w : Int32, w = (z_4.toUInt32 % 65536).toInt32 := ⟨_, rfl⟩
  refine lv_i2c (v := z_5) hx hb dJ1_charAt_3b067_13 ez_5.symm ?_
  exact x_tret (ty := .char) hx hb hr hlk hP hD hS [] (()) rfl (by decide) (by rw [ez_5]; exact pk_nc _) ⟨(by rw [ez_5]; exact pk_nc _), (by rw [ez_5, ez_4, ez_3]; exact ch_ok si hisi _ (by show x.toInt.toNat < _; omega)), trivial⟩ (by decide) (by decide) dJ1_charAt_3b067_14
set_option maxHeartbeats 4000000 in
set_option maxRecDepth 100000 in
theorem g_s_charAtX (l : Launch) (D : va_G) (cT : Nat → ClassId) (sz : Nat) (si : Nat) (hisi : si < 14) (x : Int32) (hch : 0 ≤ x.toInt ∧ x.toInt < ((strL.getD si 0 : Nat) : Int)) (hl100 : strL.getD si 0 ≤ 100) : Met l yJ0_charAt_5068e (wsc yJ0_charAt_5068e cJ0_charAt_5068e 2 (some .char)) { frames := 5, cells := 0, slots := 0, locals := 164 } (va_Pc [.ref (cT (10 + si)), .int x] (PX D cT sz [])) (va_Qi (fun (r : Int32) (u : Unit) => (narrow .char (.int r) = .int r) ∧ (r.toInt = ((strB.getD si []).getD x.toInt.toNat 0).toInt) ∧ (True)) (fun u t => RW D (va_A [] sz) ((fun _ : Unit => []) u) t) (va_A [] sz)) 0 0 (va_A [] sz) := by
  refine m_of (y := yJ0_charAt_5068e) (cc := cJ0_charAt_5068e) (nL := 2) (ret := (some .char)) (D := D) (cT := cT) (av := [.ref (cT (10 + si)), .int x]) (wi := []) (fun A => va_Qi (fun (r : Int32) (u : Unit) => (narrow .char (.int r) = .int r) ∧ (r.toInt = ((strB.getD si []).getD x.toInt.toNat 0).toInt) ∧ (True)) (fun u t => RW D A ((fun _ : Unit => []) u) t) A) (by decide) (Nat.le_of_ble_eq_true rfl) ?_
  intro p e s m below meth c A hx hb hml hown htg hK hN hr hlk hnm hsz hP hD hS hA ls hl
  have hown : s.vm.findClass RJ0 = some m.cls := hown
  have hl : lv_has ls 2 [(0, .ref (cT (10 + si))), (1, .int x)] := hl
  refine lv_aload_n hx hb dJ0_charAt_5068e_0 rfl (lv_at hl 0 rfl) ?_
  refine xk_i (wr := []) (xr_VS (n := 0) (As := []) (rest := []) ⟨hx, hb, hml, hown, htg⟩ hK hN hP hD hS hA [] rfl (by decide) (g_s_isLatin1 l D cT _ (si) (by first | assumption | decide | omega | (simp only [ti_0, ti_1, ti_2, ti_3, ti_4, ti_5, ti_6, ti_7, ti_8, ti_9, ti_10, ti_11, ti_12, ti_m1]; omega))) wi_572 wi_573 wi_574 wi_134 wi_575 (vk_recv (i := si) (adK := fun i => cT (10 + i)) (adV := fun i => cT (40 + i)) hN.2.2.2.2.1 (hisi) hS) ⟨rfl, by decide +kernel⟩ ⟨Nat.le_of_ble_eq_true rfl, Nat.le_of_ble_eq_true rfl⟩ rfl hl.1 rfl (Nat.le_of_ble_eq_true rfl) dJ0_charAt_5068e_1 ⟨Nat.le_of_ble_eq_true rfl, Nat.le_of_ble_eq_true rfl⟩) hP hD hS hA [] [] rfl rfl (by decide) (by decide) (fun r_2 u_1 H locs hwr_2 hP hD hS => ?_)
  obtain ⟨hP, hD⟩ : PD D A [] _ := ⟨hP, hD⟩
  have hwr_2 : r_2 = 1 := hwr_2
  subst hwr_2
  refine lv_if_eq (tgt := 16) hx hb dJ0_charAt_5068e_4 (by decide) (fun h => absurd h (by decide)) (fun _ => ?_)
  refine lv_aload_n hx hb dJ0_charAt_5068e_7 rfl (lv_at hl 0 rfl) ?_
  refine vk_getf hx hb (hN.2.2.2.2.1.1 si hisi).2.2.1 hS hown (htg _ wi_1631) (fun _ h9 => h9) dJ0_charAt_5068e_8 ?_
  refine lv_iload_n hx hb dJ0_charAt_5068e_11 rfl (lv_at hl 1 rfl) ?_
  refine xk_i (wr := []) (xr_S (n := 2) (As := [.ref (cT (40 + si)), .int x]) (rest := []) ⟨hx, hb, hml, hown, htg⟩ hK hN hP hD hS hA [] rfl (by decide) (g_l1_charAtX l D cT _ (si) (by first | assumption | decide | omega | (simp only [ti_0, ti_1, ti_2, ti_3, ti_4, ti_5, ti_6, ti_7, ti_8, ti_9, ti_10, ti_11, ti_12, ti_m1]; omega)) (x) (by first | assumption | decide | omega | (simp only [ti_0, ti_1, ti_2, ti_3, ti_4, ti_5, ti_6, ti_7, ti_8, ti_9, ti_10, ti_11, ti_12, ti_m1]; omega)) (by first | assumption | decide | omega | (simp only [ti_0, ti_1, ti_2, ti_3, ti_4, ti_5, ti_6, ti_7, ti_8, ti_9, ti_10, ti_11, ti_12, ti_m1]; omega))) wi_576 wi_577 wi_135 wi_578 ⟨rfl, by decide +kernel⟩ ⟨Nat.le_of_ble_eq_true rfl, Nat.le_of_ble_eq_true rfl⟩ rfl hl.1 rfl (Nat.le_of_ble_eq_true rfl) dJ0_charAt_5068e_12 ⟨Nat.le_of_ble_eq_true rfl, Nat.le_of_ble_eq_true rfl⟩) hP hD hS hA [] [] rfl rfl (by decide) (by decide) (fun r_4 u_3 H locs hwr_4 hP hD hS => ?_)
  obtain ⟨hP, hD⟩ : PD D A [] _ := ⟨hP, hD⟩
  have qr_4_0 : narrow .char (.int r_4) = .int r_4 := hwr_4.1
  have qr_4_1 : r_4.toInt = ((strB.getD si []).getD x.toInt.toNat 0).toInt := hwr_4.2.1
  exact x_tret (ty := .char) hx hb hr hlk hP hD hS [] (()) rfl (by decide) qr_4_0 ⟨by (try dsimp only); first | assumption | omega | decide | exact Or.inl (by decide) | (intro h9; exact absurd h9 (by decide)) | (intro _; decide) | (simp only [ti_0, ti_1, ti_2, ti_3, ti_4, ti_5, ti_6, ti_7, ti_8, ti_9, ti_10, ti_11, ti_12, ti_m1]; omega) | (simp only [ti_0, ti_1, ti_2, ti_3, ti_4, ti_5, ti_6, ti_7, ti_8, ti_9, ti_10, ti_11, ti_12, ti_m1]; done), by (try dsimp only); first | assumption | omega | decide | exact Or.inl (by decide) | (intro h9; exact absurd h9 (by decide)) | (intro _; decide) | (simp only [ti_0, ti_1, ti_2, ti_3, ti_4, ti_5, ti_6, ti_7, ti_8, ti_9, ti_10, ti_11, ti_12, ti_m1]; omega) | (simp only [ti_0, ti_1, ti_2, ti_3, ti_4, ti_5, ti_6, ti_7, ti_8, ti_9, ti_10, ti_11, ti_12, ti_m1]; done), trivial⟩ (by decide) (by decide) dJ0_charAt_5068e_15
set_option maxHeartbeats 4000000 in
set_option maxRecDepth 100000 in
theorem g_isWordR (l : Launch) (D : va_G) (cT : Nat → ClassId) (sz : Nat) (si : Nat) (hisi : si < 14) (hisi13 : si < 13) (hl100 : strL.getD si 0 ≤ 100) (h0 : Nat) (o : Nat) (tb : Nat) (t1 : Int32) (t2 : Int32) (t4 : Int32) (t5 : Int32) (t6 : Int32) (t7 : Int32) (t8 : Int32) (ht4 : 0 ≤ t4.toInt ∧ t4.toInt ≤ 900) (ht6 : 0 ≤ t6.toInt ∧ t6.toInt ≤ t4.toInt) (ht5 : 0 ≤ t5.toInt ∧ t5.toInt ≤ t6.toInt) (tf : Nat → Int32) (tx : Nat → Int) (hT : TXc tx t4.toInt tf) (sg : Nat → Int) (rs0 : t1.toInt = (sg) 4) (rs1 : WQ t2.toInt (sg)) (rs2 : t5.toInt = (sg) 0) (rs3 : t6.toInt = (sg) 1) (rs4 : TK tx t7.toInt (sg)) (rs5 : NV t8.toInt (sg)) : Met l yX6_isWord (wsc yX6_isWord cX6_isWord 3 (some .boolean)) { frames := 6, cells := 0, slots := 0, locals := 185 } (va_Pc [.ref h0, .ref (cT (10 + si))] (PX D cT sz [(sw_6 h0 o t1 t2 tb t4 t5 t6 t7 t8), (sw_by cT tb 900 tf)])) (va_Qi (fun (r : Int32) (u : Unit) => (r = 0 ∨ r = 1) ∧ (Hd (¬ r.toInt = 0) (sg 2 = (si : Int))) ∧ (Hd (r.toInt = 0) (¬ sg 2 = (si : Int))) ∧ (True)) (fun u t => RW D (va_A [(sw_6 h0 o t1 t2 tb t4 t5 t6 t7 t8), (sw_by cT tb 900 tf)] sz) ((fun _ : Unit => [(sw_6 h0 o t1 t2 tb t4 t5 t6 t7 t8), (sw_by cT tb 900 tf)]) u) t) (va_A [(sw_6 h0 o t1 t2 tb t4 t5 t6 t7 t8), (sw_by cT tb 900 tf)] sz)) 0 0 (va_A [(sw_6 h0 o t1 t2 tb t4 t5 t6 t7 t8), (sw_by cT tb 900 tf)] sz) := by
  refine m_of (y := yX6_isWord) (cc := cX6_isWord) (nL := 3) (ret := (some .boolean)) (D := D) (cT := cT) (av := [.ref h0, .ref (cT (10 + si))]) (wi := [(sw_6 h0 o t1 t2 tb t4 t5 t6 t7 t8), (sw_by cT tb 900 tf)]) (fun A => va_Qi (fun (r : Int32) (u : Unit) => (r = 0 ∨ r = 1) ∧ (Hd (¬ r.toInt = 0) (sg 2 = (si : Int))) ∧ (Hd (r.toInt = 0) (¬ sg 2 = (si : Int))) ∧ (True)) (fun u t => RW D A ((fun _ : Unit => [(sw_6 h0 o t1 t2 tb t4 t5 t6 t7 t8), (sw_by cT tb 900 tf)]) u) t) A) (by decide) (Nat.le_of_ble_eq_true rfl) ?_
  intro p e s m below meth c A hx hb hml hown htg hK hN hr hlk hnm hsz hP hD hS hA ls hl
  have hown : s.vm.findClass RX6 = some m.cls := hown
  have hl : lv_has ls 3 [(0, .ref h0), (1, .ref (cT (10 + si)))] := hl
  have t9_0 : (0 : Int32).toInt = 0 := by decide
  have t9_1 : (1 : Int32).toInt = 1 := by decide
  have rs4u := rs4
  unfold TK at rs4u
  refine lv_aload_n hx hb dX6_isWord_0 rfl (lv_at hl 0 rfl) ?_
  refine va_get (D := D) (ci := 6) (v := .int t7) (C := RX6) (T := TX6) (N := 9) hx hb htg gRX6 hown hK hP 0 rfl rfl 7 (by decide) (htg _ wi_262) (fun _ h9 => h9) rfl dX6_isWord_1 ?_
  refine lv_iconst (v := 1) hx hb dX6_isWord_4 (by decide) ?_
  refine lv_icmp_ne (tgt := 24) hx hb dX6_isWord_5 (by decide) (fun c_1 => ?_) (fun c_1 => ?_)
  · have ic_1 : ¬ t7.toInt = 1 := ine c_1 (rfl) (by decide)
    refine lv_iconst (v := 0) hx hb dX6_isWord_24 (by decide) ?_
    exact x_zret hx hb hr hlk hP hD hS [0, 1] (()) rfl (by decide) rfl ⟨(by decide), (fun h9 => absurd (by decide) h9), (fun _ => fun h => (by have h5 := keyF_mt (tx := tx) (st := sg 0) (en := sg 1) hisi13 (by omega); rw [mtK_iff] at h5; omega)), trivial⟩ (by decide) (by decide) dX6_isWord_25
  · have ic_1 : t7.toInt = 1 := ieq c_1 (rfl) (by decide)
    refine lv_aload_n hx hb dX6_isWord_8 rfl (lv_at hl 0 rfl) ?_
    refine va_get (D := D) (ci := 6) (v := .int t6) (C := RX6) (T := TX6) (N := 9) hx hb htg gRX6 hown hK hP 0 rfl rfl 6 (by decide) (htg _ wi_261) (fun _ h9 => h9) rfl dX6_isWord_9 ?_
    refine lv_aload_n hx hb dX6_isWord_12 rfl (lv_at hl 0 rfl) ?_
    refine va_get (D := D) (ci := 6) (v := .int t5) (C := RX6) (T := TX6) (N := 9) hx hb htg gRX6 hown hK hP 0 rfl rfl 5 (by decide) (htg _ wi_260) (fun _ h9 => h9) rfl dX6_isWord_13 ?_
    refine lv_isub hx hb dX6_isWord_16 ?_
    refine lv_topi (fun z_2 ez_2 => ?_)
    have iz_2 : z_2.toInt = t6.toInt - t5.toInt := toInt_subI ez_2 (rfl) (rfl) (by omega)
    refine lv_aload_n hx hb dX6_isWord_17 rfl (lv_at hl 1 rfl) ?_
    refine xk_i (wr := [(sw_6 h0 o t1 t2 tb t4 t5 t6 t7 t8), (sw_by cT tb 900 tf)]) (xr_VS (n := 0) (As := []) (rest := [.int z_2]) ⟨hx, hb, hml, hown, htg⟩ hK hN hP hD hS hA [] rfl (by decide) (g_s_length l D cT _ (si) (by first | assumption | decide | omega | (simp only [ti_0, ti_1, ti_2, ti_3, ti_4, ti_5, ti_6, ti_7, ti_8, ti_9, ti_10, ti_11, ti_12, ti_m1]; omega))) wi_558 wi_559 wi_560 wi_134 wi_561 (vk_recv (i := si) (adK := fun i => cT (10 + i)) (adV := fun i => cT (40 + i)) hN.2.2.2.2.1 (hisi) hS) ⟨rfl, by decide +kernel⟩ ⟨Nat.le_of_ble_eq_true rfl, Nat.le_of_ble_eq_true rfl⟩ rfl hl.1 rfl (Nat.le_of_ble_eq_true rfl) dX6_isWord_18 ⟨Nat.le_of_ble_eq_true rfl, Nat.le_of_ble_eq_true rfl⟩) hP hD hS hA [] [0, 1] rfl rfl (by decide) (by decide) (fun r_4 u_3 H locs hwr_4 hP hD hS => ?_)
    obtain ⟨hP, hD⟩ : PD D A [(sw_6 h0 o t1 t2 tb t4 t5 t6 t7 t8), (sw_by cT tb 900 tf)] _ := ⟨hP, hD⟩
    have hwr_4 : r_4 = nI (strL.getD si 0) := hwr_4
    subst hwr_4
    have hsl_si : (nI (strL.getD si 0)).toInt = ((strL.getD si 0 : Nat) : Int) := nI_toInt (by have h7 := strL_le si hisi; omega)
    refine lv_icmp_eq (tgt := 26) hx hb dX6_isWord_21 (by decide) (fun c_5 => ?_) (fun c_5 => ?_)
    · have ic_5 : z_2.toInt = ((strL.getD si 0 : Nat) : Int) := ieq c_5 (rfl) (nI_toInt (by omega))
      refine lv_iconst (v := 0) hx hb dX6_isWord_26 (by decide) ?_
      refine lv_istore_n (lv' := [(2, .int 0), (0, .ref h0), (1, .ref (cT (10 + si)))]) hx hb dX6_isWord_27 rfl hl (by decide) rfl (fun ls hl => ?_)
      have hin : ∀ j : Nat, j < 0 → tx (sg 0 + (j : Int)).toNat = chK si j := fun j h => absurd h (by omega)
      refine (fun (key : ∀ (n9_28 : Nat) (k9_28 : Nat)  (H : Heap) (locs : List Loc) (ls : Array Slot), (k9_28 : Int) ≤ ((strL.getD si 0 : Nat) : Int) → ((strL.getD si 0 : Nat) : Int) < (k9_28 : Int) + n9_28 → (∀ j : Nat, j < k9_28 → tx (sg 0 + (j : Int)).toNat = chK si j) → PD D A [(sw_6 h0 o t1 t2 tb t4 t5 t6 t7 t8), (sw_by cT tb 900 tf)] H → va_S A s.heap H locs → lv_has ls 3 [(2, .int (nI k9_28)), (0, .ref h0), (1, .ref (cT (10 + si)))] → W p l e _ s m _ below meth c H locs _ _ _ (F0 m 28 ls [])) => key (Int.toNat (((strL.getD si 0 : Nat) : Int) - 0) + 1) 0  _ _ _ (by omega) (by omega) (by first | assumption | omega | decide | (simp only [ti_0, ti_1, ti_2, ti_3, ti_4, ti_5, ti_6, ti_7, ti_8, ti_9, ti_10, ti_11, ti_12, ti_m1]; omega)) ⟨hP, hD⟩ hS (lv_sub hl [0, 1, 2] rfl)) ?_
      intro n9_28
      induction n9_28 with
      | zero => intro k9_28  H locs ls hq1 hq2; exact absurd hq2 (by omega)
      | succ n9_28 ih_28 =>
        intro k9_28  H locs ls hq1_28 hq2_28 h9_28_0 hPD hS hl
        obtain ⟨hP, hD⟩ := hPD
        have hk9_28 : (nI k9_28).toInt = (k9_28 : Int) := nI_toInt (by omega)
        refine lv_iload_n hx hb dX6_isWord_28 rfl (lv_at hl 0 rfl) ?_
        refine lv_aload_n hx hb dX6_isWord_29 rfl (lv_at hl 2 rfl) ?_
        refine xk_i (wr := [(sw_6 h0 o t1 t2 tb t4 t5 t6 t7 t8), (sw_by cT tb 900 tf)]) (xr_VS (n := 0) (As := []) (rest := [.int (nI k9_28)]) ⟨hx, hb, hml, hown, htg⟩ hK hN hP hD hS hA [] rfl (by decide) (g_s_length l D cT _ (si) (by first | assumption | decide | omega | (simp only [ti_0, ti_1, ti_2, ti_3, ti_4, ti_5, ti_6, ti_7, ti_8, ti_9, ti_10, ti_11, ti_12, ti_m1]; omega))) wi_558 wi_559 wi_560 wi_134 wi_561 (vk_recv (i := si) (adK := fun i => cT (10 + i)) (adV := fun i => cT (40 + i)) hN.2.2.2.2.1 (hisi) hS) ⟨rfl, by decide +kernel⟩ ⟨Nat.le_of_ble_eq_true rfl, Nat.le_of_ble_eq_true rfl⟩ rfl hl.1 rfl (Nat.le_of_ble_eq_true rfl) dX6_isWord_30 ⟨Nat.le_of_ble_eq_true rfl, Nat.le_of_ble_eq_true rfl⟩) hP hD hS hA [] [0, 1] rfl rfl (by decide) (by decide) (fun r_7 u_6 H locs hwr_7 hP hD hS => ?_)
        obtain ⟨hP, hD⟩ : PD D A [(sw_6 h0 o t1 t2 tb t4 t5 t6 t7 t8), (sw_by cT tb 900 tf)] _ := ⟨hP, hD⟩
        have hwr_7 : r_7 = nI (strL.getD si 0) := hwr_7
        subst hwr_7
        have hsl_si : (nI (strL.getD si 0)).toInt = ((strL.getD si 0 : Nat) : Int) := nI_toInt (by have h7 := strL_le si hisi; omega)
        refine lv_icmp_ge (tgt := 63) hx hb dX6_isWord_33 (by decide) (fun c_8 => ?_) (fun c_8 => ?_)
        · have ic_8 : ((strL.getD si 0 : Nat) : Int) ≤ ((k9_28 : Nat) : Int) := ile c_8 (nI_toInt (by omega)) (nI_toInt (by omega))
          refine lv_iconst (v := 1) hx hb dX6_isWord_63 (by decide) ?_
          exact x_zret hx hb hr hlk hP hD hS [0, 1] (()) rfl (by decide) rfl ⟨(by decide), (fun _ => (by have h5 : mtK tx (sg 0) (sg 1) si = true := mtK_iff.mpr ⟨by omega, fun j hj => h9_28_0 j (by omega)⟩; have h6 := keyF_is hisi13 h5; omega)), (fun h9 => absurd h9 (by decide)), trivial⟩ (by decide) (by decide) dX6_isWord_64
        · have ic_8 : ((k9_28 : Nat) : Int) < ((strL.getD si 0 : Nat) : Int) := inle c_8 (nI_toInt (by omega)) (nI_toInt (by omega))
          refine lv_aload_n hx hb dX6_isWord_36 rfl (lv_at hl 1 rfl) ?_
          refine va_get (D := D) (ci := 6) (v := .ref tb) (C := RX6) (T := TX6) (N := 9) hx hb htg gRX6 hown hK hP 0 rfl rfl 3 (by decide) (htg _ wi_258) (fun _ h9 => h9) rfl dX6_isWord_37 ?_
          refine lv_aload_n hx hb dX6_isWord_40 rfl (lv_at hl 1 rfl) ?_
          refine va_get (D := D) (ci := 6) (v := .int t5) (C := RX6) (T := TX6) (N := 9) hx hb htg gRX6 hown hK hP 0 rfl rfl 5 (by decide) (htg _ wi_260) (fun _ h9 => h9) rfl dX6_isWord_41 ?_
          refine lv_iload_n hx hb dX6_isWord_44 rfl (lv_at hl 0 rfl) ?_
          refine lv_iadd hx hb dX6_isWord_45 ?_
          refine lv_topi (fun z_9 ez_9 => ?_)
          have iz_9 : z_9.toInt = t5.toInt + ((k9_28 : Nat) : Int) := toInt_addI ez_9 (rfl) (nI_toInt (by omega)) (by omega)
          refine va_bald hx hb hK hP 1 2 rfl rfl (vp_in_iff.mpr (by omega)) dX6_isWord_46 ?_
          refine lv_topi (fun z_10 ez_10 => ?_)
          refine lv_aload_n hx hb dX6_isWord_47 rfl (lv_at hl 2 rfl) ?_
          refine lv_iload_n hx hb dX6_isWord_48 rfl (lv_at hl 0 rfl) ?_
          refine xk_i (wr := [(sw_6 h0 o t1 t2 tb t4 t5 t6 t7 t8), (sw_by cT tb 900 tf)]) (xr_VS (n := 1) (As := [.int (nI k9_28)]) (rest := [.int z_10]) ⟨hx, hb, hml, hown, htg⟩ hK hN hP hD hS hA [] rfl (by decide) (g_s_charAtX l D cT _ (si) (by first | assumption | decide | omega | (simp only [ti_0, ti_1, ti_2, ti_3, ti_4, ti_5, ti_6, ti_7, ti_8, ti_9, ti_10, ti_11, ti_12, ti_m1]; omega)) ((nI k9_28)) (by first | assumption | decide | omega | (simp only [ti_0, ti_1, ti_2, ti_3, ti_4, ti_5, ti_6, ti_7, ti_8, ti_9, ti_10, ti_11, ti_12, ti_m1]; omega)) (by first | assumption | decide | omega | (simp only [ti_0, ti_1, ti_2, ti_3, ti_4, ti_5, ti_6, ti_7, ti_8, ti_9, ti_10, ti_11, ti_12, ti_m1]; omega))) wi_568 wi_569 wi_570 wi_134 wi_571 (vk_recv (i := si) (adK := fun i => cT (10 + i)) (adV := fun i => cT (40 + i)) hN.2.2.2.2.1 (hisi) hS) ⟨rfl, by decide +kernel⟩ ⟨Nat.le_of_ble_eq_true rfl, Nat.le_of_ble_eq_true rfl⟩ rfl hl.1 rfl (Nat.le_of_ble_eq_true rfl) dX6_isWord_49 ⟨Nat.le_of_ble_eq_true rfl, Nat.le_of_ble_eq_true rfl⟩) hP hD hS hA [] [0, 1] rfl rfl (by decide) (by decide) (fun r_12 u_11 H locs hwr_12 hP hD hS => ?_)
          obtain ⟨hP, hD⟩ : PD D A [(sw_6 h0 o t1 t2 tb t4 t5 t6 t7 t8), (sw_by cT tb 900 tf)] _ := ⟨hP, hD⟩
          have qr_12_0 : narrow .char (.int r_12) = .int r_12 := hwr_12.1
          have qr_12_1 : r_12.toInt = ((strB.getD si []).getD (nI k9_28).toInt.toNat 0).toInt := hwr_12.2.1
          have hta : cB z_10.toInt = tx (sg 0 + (k9_28 : Int)).toNat := TXc_at hT ez_10 (a := sg 0 + (k9_28 : Int)) (by omega) (by omega)
          have hcb : r_12.toInt = chK si k9_28 := by rw [qr_12_1]; unfold chK; congr 2; omega
          have hcr := ch_in si hisi13 k9_28
          refine lv_icmp_eq (tgt := 57) hx hb dX6_isWord_52 (by decide) (fun c_13 => ?_) (fun c_13 => ?_)
          · have ic_13 : z_10.toInt = r_12.toInt := ieq c_13 (rfl) (rfl)
            refine lv_iinc (v := (nI (k9_28 + 1))) (lv' := [(2, .int (nI (k9_28 + 1))), (0, .ref h0), (1, .ref (cT (10 + si)))]) hx hb dX6_isWord_57 hl (k := 0) rfl (by exact nI_1 (k9_28)) (by decide) rfl (fun ls hl => ?_)
            refine lv_goto (tgt := 28) hx hb dX6_isWord_60 (by decide) ?_
            have hin : ∀ j : Nat, j < k9_28 + 1 → tx (sg 0 + (j : Int)).toNat = chK si j := fun j h => by rcases (show j < k9_28 ∨ j = k9_28 from by omega) with h1 | h1; exact h9_28_0 j h1; rw [h1]; have h2 : z_10.toInt = chK si k9_28 := (by omega); rw [← hta, h2]; exact cB_in hcr
            exact ih_28 (k9_28 + 1)  _ _ _ (by omega) (by omega) (by first | assumption | omega | decide | (simp only [ti_0, ti_1, ti_2, ti_3, ti_4, ti_5, ti_6, ti_7, ti_8, ti_9, ti_10, ti_11, ti_12, ti_m1]; omega)) ⟨hP.sub [0, 1] rfl, hD.sub [0, 1] (by decide) rfl⟩ hS (lv_sub hl [0, 1, 2] rfl)
          · have ic_13 : ¬ z_10.toInt = r_12.toInt := ine c_13 (rfl) (rfl)
            refine lv_iconst (v := 0) hx hb dX6_isWord_55 (by decide) ?_
            exact x_zret hx hb hr hlk hP hD hS [0, 1] (()) rfl (by decide) rfl ⟨(by decide), (fun h9 => absurd (by decide) h9), (fun _ => fun h => (by have h5 := keyF_mt (tx := tx) (st := sg 0) (en := sg 1) hisi13 (by omega); rw [mtK_iff] at h5; have h6 := h5.2 k9_28 (by omega); rw [← hta, ← hcb] at h6; have h7 := cB_is h6 (by omega); omega)), trivial⟩ (by decide) (by decide) dX6_isWord_56
    · have ic_5 : ¬ z_2.toInt = ((strL.getD si 0 : Nat) : Int) := ine c_5 (rfl) (nI_toInt (by omega))
      refine lv_iconst (v := 0) hx hb dX6_isWord_24 (by decide) ?_
      exact x_zret hx hb hr hlk hP hD hS [0, 1] (()) rfl (by decide) rfl ⟨(by decide), (fun h9 => absurd (by decide) h9), (fun _ => fun h => (by have h5 := keyF_mt (tx := tx) (st := sg 0) (en := sg 1) hisi13 (by omega); rw [mtK_iff] at h5; omega)), trivial⟩ (by decide) (by decide) dX6_isWord_25
set_option maxHeartbeats 4000000 in
set_option maxRecDepth 100000 in
theorem g_takeWordR (l : Launch) (D : va_G) (cT : Nat → ClassId) (sz : Nat) (si : Nat) (hisi : si < 14) (hisi13 : si < 13) (hl100 : strL.getD si 0 ≤ 100) (h0 : Nat) (o : Nat) (tb : Nat) (t1 : Int32) (t2 : Int32) (t4 : Int32) (t5 : Int32) (t6 : Int32) (t7 : Int32) (t8 : Int32) (ht4 : 0 ≤ t4.toInt ∧ t4.toInt ≤ 900) (ht6 : 0 ≤ t6.toInt ∧ t6.toInt ≤ t4.toInt) (ht5 : 0 ≤ t5.toInt ∧ t5.toInt ≤ t6.toInt) (tf : Nat → Int32) (tx : Nat → Int) (hT : TXc tx t4.toInt tf) (sg : Nat → Int) (rs0 : t1.toInt = (sg) 4) (rs1 : WQ t2.toInt (sg)) (rs2 : t5.toInt = (sg) 0) (rs3 : t6.toInt = (sg) 1) (rs4 : TK tx t7.toInt (sg)) (rs5 : NV t8.toInt (sg)) : Met l yX6_takeWord (wsc yX6_takeWord cX6_takeWord 2 (some .boolean)) { frames := 7, cells := 0, slots := 0, locals := 207 } (va_Pc [.ref h0, .ref (cT (10 + si))] (PX D cT sz [(sw_6 h0 o t1 t2 tb t4 t5 t6 t7 t8), (sw_by cT tb 900 tf)])) (va_Qi (fun (r : Int32) (u : Int32 × Int32 × Int32 × Int32 × Int32 × Int32) => (0 ≤ u.2.2.1.toInt ∧ u.2.2.1.toInt ≤ 900) ∧ (0 ≤ u.2.2.2.1.toInt ∧ u.2.2.2.1.toInt ≤ 900) ∧ (u.2.2.1.toInt ≤ u.2.2.2.1.toInt ∧ u.2.2.2.1.toInt ≤ t4.toInt) ∧ (u.1.toInt = (eatsF tx t4.toInt (si : Int) sg) 4) ∧ (WQ u.2.1.toInt (eatsF tx t4.toInt (si : Int) sg)) ∧ (u.2.2.1.toInt = (eatsF tx t4.toInt (si : Int) sg) 0) ∧ (u.2.2.2.1.toInt = (eatsF tx t4.toInt (si : Int) sg) 1) ∧ (TK tx u.2.2.2.2.1.toInt (eatsF tx t4.toInt (si : Int) sg)) ∧ (NV u.2.2.2.2.2.toInt (eatsF tx t4.toInt (si : Int) sg)) ∧ (r = 0 ∨ r = 1) ∧ (Hd (¬ r.toInt = 0) (sg 4 = 0 ∧ sg 2 = (si : Int))) ∧ (Hd (r.toInt = 0) (¬ (sg 4 = 0 ∧ sg 2 = (si : Int)))) ∧ (True)) (fun u t => RW D (va_A [(sw_6 h0 o t1 t2 tb t4 t5 t6 t7 t8), (sw_by cT tb 900 tf)] sz) ((fun u : Int32 × Int32 × Int32 × Int32 × Int32 × Int32 => [(sw_6 h0 o u.1 u.2.1 tb t4 u.2.2.1 u.2.2.2.1 u.2.2.2.2.1 u.2.2.2.2.2), (sw_by cT tb 900 tf)]) u) t) (va_A [(sw_6 h0 o t1 t2 tb t4 t5 t6 t7 t8), (sw_by cT tb 900 tf)] sz)) 0 0 (va_A [(sw_6 h0 o t1 t2 tb t4 t5 t6 t7 t8), (sw_by cT tb 900 tf)] sz) := by
  refine m_of (y := yX6_takeWord) (cc := cX6_takeWord) (nL := 2) (ret := (some .boolean)) (D := D) (cT := cT) (av := [.ref h0, .ref (cT (10 + si))]) (wi := [(sw_6 h0 o t1 t2 tb t4 t5 t6 t7 t8), (sw_by cT tb 900 tf)]) (fun A => va_Qi (fun (r : Int32) (u : Int32 × Int32 × Int32 × Int32 × Int32 × Int32) => (0 ≤ u.2.2.1.toInt ∧ u.2.2.1.toInt ≤ 900) ∧ (0 ≤ u.2.2.2.1.toInt ∧ u.2.2.2.1.toInt ≤ 900) ∧ (u.2.2.1.toInt ≤ u.2.2.2.1.toInt ∧ u.2.2.2.1.toInt ≤ t4.toInt) ∧ (u.1.toInt = (eatsF tx t4.toInt (si : Int) sg) 4) ∧ (WQ u.2.1.toInt (eatsF tx t4.toInt (si : Int) sg)) ∧ (u.2.2.1.toInt = (eatsF tx t4.toInt (si : Int) sg) 0) ∧ (u.2.2.2.1.toInt = (eatsF tx t4.toInt (si : Int) sg) 1) ∧ (TK tx u.2.2.2.2.1.toInt (eatsF tx t4.toInt (si : Int) sg)) ∧ (NV u.2.2.2.2.2.toInt (eatsF tx t4.toInt (si : Int) sg)) ∧ (r = 0 ∨ r = 1) ∧ (Hd (¬ r.toInt = 0) (sg 4 = 0 ∧ sg 2 = (si : Int))) ∧ (Hd (r.toInt = 0) (¬ (sg 4 = 0 ∧ sg 2 = (si : Int)))) ∧ (True)) (fun u t => RW D A ((fun u : Int32 × Int32 × Int32 × Int32 × Int32 × Int32 => [(sw_6 h0 o u.1 u.2.1 tb t4 u.2.2.1 u.2.2.2.1 u.2.2.2.2.1 u.2.2.2.2.2), (sw_by cT tb 900 tf)]) u) t) A) (by decide) (Nat.le_of_ble_eq_true rfl) ?_
  intro p e s m below meth c A hx hb hml hown htg hK hN hr hlk hnm hsz hP hD hS hA ls hl
  have hown : s.vm.findClass RX6 = some m.cls := hown
  have hl : lv_has ls 2 [(0, .ref h0), (1, .ref (cT (10 + si)))] := hl
  have t9_0 : (0 : Int32).toInt = 0 := by decide
  have t9_1 : (1 : Int32).toInt = 1 := by decide
  refine lv_aload_n hx hb dX6_takeWord_0 rfl (lv_at hl 0 rfl) ?_
  refine va_get (D := D) (ci := 6) (v := .int t1) (C := RX6) (T := TX6) (N := 9) hx hb htg gRX6 hown hK hP 0 rfl rfl 1 (by decide) (htg _ wi_254) (fun _ h9 => h9) rfl dX6_takeWord_1 ?_
  refine lv_if_ne (tgt := 15) hx hb dX6_takeWord_4 (by decide) (fun c_1 => ?_) (fun c_1 => ?_)
  · have ic_1 : ¬ t1.toInt = 0 := ine c_1 (rfl) (by decide)
    refine lv_iconst (v := 0) hx hb dX6_takeWord_15 (by decide) ?_
    exact x_zret hx hb hr hlk hP hD hS [0, 1] ((t1, t2, t5, t6, t7, t8)) rfl (by decide) rfl ⟨(by first | with_reducible rfl | ((try dsimp only); first | assumption | decide | omega | (simp only [ti_0, ti_1, ti_2, ti_3, ti_4, ti_5, ti_6, ti_7, ti_8, ti_9, ti_10, ti_11, ti_12, ti_m1]; omega))), (by first | with_reducible rfl | ((try dsimp only); first | assumption | decide | omega | (simp only [ti_0, ti_1, ti_2, ti_3, ti_4, ti_5, ti_6, ti_7, ti_8, ti_9, ti_10, ti_11, ti_12, ti_m1]; omega))), (by first | with_reducible rfl | ((try dsimp only); first | assumption | decide | omega | (simp only [ti_0, ti_1, ti_2, ti_3, ti_4, ti_5, ti_6, ti_7, ti_8, ti_9, ti_10, ti_11, ti_12, ti_m1]; omega))), (by (try dsimp only); rw [(show eatsF tx t4.toInt (si : Int) sg = sg from if_neg (by omega))]; assumption), (by (try dsimp only); rw [(show eatsF tx t4.toInt (si : Int) sg = sg from if_neg (by omega))]; assumption), (by (try dsimp only); rw [(show eatsF tx t4.toInt (si : Int) sg = sg from if_neg (by omega))]; assumption), (by (try dsimp only); rw [(show eatsF tx t4.toInt (si : Int) sg = sg from if_neg (by omega))]; assumption), (by (try dsimp only); rw [(show eatsF tx t4.toInt (si : Int) sg = sg from if_neg (by omega))]; assumption), (by (try dsimp only); rw [(show eatsF tx t4.toInt (si : Int) sg = sg from if_neg (by omega))]; assumption), (by first | decide | assumption), (fun h9 => by first | exact absurd (by decide) h9 | omega), (fun h9 => by first | exact absurd h9 (by decide) | omega), trivial⟩ (by decide) (by decide) dX6_takeWord_16
  · have ic_1 : t1.toInt = 0 := ieq c_1 (rfl) (by decide)
    refine lv_aload_n hx hb dX6_takeWord_7 rfl (lv_at hl 0 rfl) ?_
    refine lv_aload_n hx hb dX6_takeWord_8 rfl (lv_at hl 1 rfl) ?_
    refine xk_i (wr := []) (xr_V (n := 1) (As := [.ref (cT (10 + si))]) (rest := []) ⟨hx, hb, hml, hown, htg⟩ hK hN hP hD hS hA [0, 1] rfl (by decide) (g_isWordR l D cT _ (si) (by first | assumption | decide | omega | (simp only [ti_0, ti_1, ti_2, ti_3, ti_4, ti_5, ti_6, ti_7, ti_8, ti_9, ti_10, ti_11, ti_12, ti_m1]; omega)) (by first | assumption | decide | omega | (simp only [ti_0, ti_1, ti_2, ti_3, ti_4, ti_5, ti_6, ti_7, ti_8, ti_9, ti_10, ti_11, ti_12, ti_m1]; omega)) (by first | assumption | decide | omega | (simp only [ti_0, ti_1, ti_2, ti_3, ti_4, ti_5, ti_6, ti_7, ti_8, ti_9, ti_10, ti_11, ti_12, ti_m1]; omega)) (h0) (o) (tb) (t1) (t2) (t4) (t5) (t6) (t7) (t8) (by first | assumption | decide | omega | (simp only [ti_0, ti_1, ti_2, ti_3, ti_4, ti_5, ti_6, ti_7, ti_8, ti_9, ti_10, ti_11, ti_12, ti_m1]; omega)) (by first | assumption | decide | omega | (simp only [ti_0, ti_1, ti_2, ti_3, ti_4, ti_5, ti_6, ti_7, ti_8, ti_9, ti_10, ti_11, ti_12, ti_m1]; omega)) (by first | assumption | decide | omega | (simp only [ti_0, ti_1, ti_2, ti_3, ti_4, ti_5, ti_6, ti_7, ti_8, ti_9, ti_10, ti_11, ti_12, ti_m1]; omega)) (tf) (tx) (by first | assumption | decide | omega | (simp only [ti_0, ti_1, ti_2, ti_3, ti_4, ti_5, ti_6, ti_7, ti_8, ti_9, ti_10, ti_11, ti_12, ti_m1]; omega)) (sg) (by first | assumption | decide | omega | (simp only [ti_0, ti_1, ti_2, ti_3, ti_4, ti_5, ti_6, ti_7, ti_8, ti_9, ti_10, ti_11, ti_12, ti_m1]; omega)) (by first | assumption | decide | omega | (simp only [ti_0, ti_1, ti_2, ti_3, ti_4, ti_5, ti_6, ti_7, ti_8, ti_9, ti_10, ti_11, ti_12, ti_m1]; omega)) (by first | assumption | decide | omega | (simp only [ti_0, ti_1, ti_2, ti_3, ti_4, ti_5, ti_6, ti_7, ti_8, ti_9, ti_10, ti_11, ti_12, ti_m1]; omega)) (by first | assumption | decide | omega | (simp only [ti_0, ti_1, ti_2, ti_3, ti_4, ti_5, ti_6, ti_7, ti_8, ti_9, ti_10, ti_11, ti_12, ti_m1]; omega)) (by first | assumption | decide | omega | (simp only [ti_0, ti_1, ti_2, ti_3, ti_4, ti_5, ti_6, ti_7, ti_8, ti_9, ti_10, ti_11, ti_12, ti_m1]; omega)) (by first | assumption | decide | omega | (simp only [ti_0, ti_1, ti_2, ti_3, ti_4, ti_5, ti_6, ti_7, ti_8, ti_9, ti_10, ti_11, ti_12, ti_m1]; omega))) wi_554 wi_556 wi_8 wi_122 wi_557 rfl rfl rfl ⟨rfl, by decide +kernel⟩ ⟨Nat.le_of_ble_eq_true rfl, Nat.le_of_ble_eq_true rfl⟩ rfl hl.1 rfl (Nat.le_of_ble_eq_true rfl) dX6_takeWord_9 ⟨Nat.le_of_ble_eq_true rfl, Nat.le_of_ble_eq_true rfl⟩) hP hD hS hA [0, 1] [] rfl rfl (by decide) (by decide) (fun r_3 u_2 H locs hwr_3 hP hD hS => ?_)
    obtain ⟨hP, hD⟩ : PD D A [(sw_6 h0 o t1 t2 tb t4 t5 t6 t7 t8), (sw_by cT tb 900 tf)] _ := ⟨hP, hD⟩
    have qr_3_0 : r_3 = 0 ∨ r_3 = 1 := hwr_3.1
    have qr_3_1 : Hd (¬ r_3.toInt = 0) (sg 2 = (si : Int)) := hwr_3.2.1
    have qr_3_2 : Hd (r_3.toInt = 0) (¬ sg 2 = (si : Int)) := hwr_3.2.2.1
    have hw1 := qr_3_1
    have hw0 := qr_3_2
    unfold Hd at hw1 hw0
    refine lv_if_ne (tgt := 17) hx hb dX6_takeWord_12 (by decide) (fun c_4 => ?_) (fun c_4 => ?_)
    · have ic_4 : ¬ r_3.toInt = 0 := ine c_4 (rfl) (by decide)
      refine lv_aload_n hx hb dX6_takeWord_17 rfl (lv_at hl 0 rfl) ?_
      refine xk_v (wr := []) (xr_V (n := 0) (As := []) (rest := []) ⟨hx, hb, hml, hown, htg⟩ hK hN hP hD hS hA [0, 1] rfl (by decide) (g_advanceR l D cT _ (h0) (o) (tb) (t1) (t2) (t4) (t5) (t6) (t7) (t8) (by first | assumption | decide | omega | (simp only [ti_0, ti_1, ti_2, ti_3, ti_4, ti_5, ti_6, ti_7, ti_8, ti_9, ti_10, ti_11, ti_12, ti_m1]; omega)) (by first | assumption | decide | omega | (simp only [ti_0, ti_1, ti_2, ti_3, ti_4, ti_5, ti_6, ti_7, ti_8, ti_9, ti_10, ti_11, ti_12, ti_m1]; omega)) (tf) (tx) (by first | assumption | decide | omega | (simp only [ti_0, ti_1, ti_2, ti_3, ti_4, ti_5, ti_6, ti_7, ti_8, ti_9, ti_10, ti_11, ti_12, ti_m1]; omega)) (sg) (by first | assumption | decide | omega | (simp only [ti_0, ti_1, ti_2, ti_3, ti_4, ti_5, ti_6, ti_7, ti_8, ti_9, ti_10, ti_11, ti_12, ti_m1]; omega)) (by first | assumption | decide | omega | (simp only [ti_0, ti_1, ti_2, ti_3, ti_4, ti_5, ti_6, ti_7, ti_8, ti_9, ti_10, ti_11, ti_12, ti_m1]; omega)) (by first | assumption | decide | omega | (simp only [ti_0, ti_1, ti_2, ti_3, ti_4, ti_5, ti_6, ti_7, ti_8, ti_9, ti_10, ti_11, ti_12, ti_m1]; omega))) wi_533 wi_535 wi_3 wi_122 wi_536 rfl rfl rfl ⟨rfl, by decide +kernel⟩ ⟨Nat.le_of_ble_eq_true rfl, Nat.le_of_ble_eq_true rfl⟩ rfl hl.1 rfl (Nat.le_of_ble_eq_true rfl) dX6_takeWord_18 ⟨Nat.le_of_ble_eq_true rfl, Nat.le_of_ble_eq_true rfl⟩) hP hD hS hA [0, 1] [] rfl rfl (by decide) (by decide) (fun u_5 H locs hwr_6 hP hD hS => ?_)
      obtain ⟨hP, hD⟩ : PD D A [(sw_6 h0 o u_5.1 u_5.2.1 tb t4 u_5.2.2.1 u_5.2.2.2.1 u_5.2.2.2.2.1 u_5.2.2.2.2.2), (sw_by cT tb 900 tf)] _ := ⟨hP, hD⟩
      have qr_6_0 : 0 ≤ u_5.2.2.1.toInt ∧ u_5.2.2.1.toInt ≤ 900 := hwr_6.1
      have qr_6_1 : 0 ≤ u_5.2.2.2.1.toInt ∧ u_5.2.2.2.1.toInt ≤ 900 := hwr_6.2.1
      have qr_6_2 : u_5.2.2.1.toInt ≤ u_5.2.2.2.1.toInt ∧ u_5.2.2.2.1.toInt ≤ t4.toInt := hwr_6.2.2.1
      have qr_6_3 : u_5.1.toInt = (nxtF tx t4.toInt sg) 4 := hwr_6.2.2.2.1
      have qr_6_4 : WQ u_5.2.1.toInt (nxtF tx t4.toInt sg) := hwr_6.2.2.2.2.1
      have qr_6_5 : u_5.2.2.1.toInt = (nxtF tx t4.toInt sg) 0 := hwr_6.2.2.2.2.2.1
      have qr_6_6 : u_5.2.2.2.1.toInt = (nxtF tx t4.toInt sg) 1 := hwr_6.2.2.2.2.2.2.1
      have qr_6_7 : TK tx u_5.2.2.2.2.1.toInt (nxtF tx t4.toInt sg) := hwr_6.2.2.2.2.2.2.2.1
      have qr_6_8 : NV u_5.2.2.2.2.2.toInt (nxtF tx t4.toInt sg) := hwr_6.2.2.2.2.2.2.2.2.1
      refine lv_iconst (v := 1) hx hb dX6_takeWord_21 (by decide) ?_
      exact x_zret hx hb hr hlk hP hD hS [0, 1] ((u_5.1, u_5.2.1, u_5.2.2.1, u_5.2.2.2.1, u_5.2.2.2.2.1, u_5.2.2.2.2.2)) rfl (by decide) rfl ⟨(by first | with_reducible rfl | ((try dsimp only); first | assumption | decide | omega | (simp only [ti_0, ti_1, ti_2, ti_3, ti_4, ti_5, ti_6, ti_7, ti_8, ti_9, ti_10, ti_11, ti_12, ti_m1]; omega))), (by first | with_reducible rfl | ((try dsimp only); first | assumption | decide | omega | (simp only [ti_0, ti_1, ti_2, ti_3, ti_4, ti_5, ti_6, ti_7, ti_8, ti_9, ti_10, ti_11, ti_12, ti_m1]; omega))), (by first | with_reducible rfl | ((try dsimp only); first | assumption | decide | omega | (simp only [ti_0, ti_1, ti_2, ti_3, ti_4, ti_5, ti_6, ti_7, ti_8, ti_9, ti_10, ti_11, ti_12, ti_m1]; omega))), (by (try dsimp only); rw [(show eatsF tx t4.toInt (si : Int) sg = nxtF tx t4.toInt sg from if_pos (by omega))]; assumption), (by (try dsimp only); rw [(show eatsF tx t4.toInt (si : Int) sg = nxtF tx t4.toInt sg from if_pos (by omega))]; assumption), (by (try dsimp only); rw [(show eatsF tx t4.toInt (si : Int) sg = nxtF tx t4.toInt sg from if_pos (by omega))]; assumption), (by (try dsimp only); rw [(show eatsF tx t4.toInt (si : Int) sg = nxtF tx t4.toInt sg from if_pos (by omega))]; assumption), (by (try dsimp only); rw [(show eatsF tx t4.toInt (si : Int) sg = nxtF tx t4.toInt sg from if_pos (by omega))]; assumption), (by (try dsimp only); rw [(show eatsF tx t4.toInt (si : Int) sg = nxtF tx t4.toInt sg from if_pos (by omega))]; assumption), (by first | decide | assumption), (fun h9 => by first | exact absurd (by decide) h9 | omega), (fun h9 => by first | exact absurd h9 (by decide) | omega), trivial⟩ (by decide) (by decide) dX6_takeWord_22
    · have ic_4 : r_3.toInt = 0 := ieq c_4 (rfl) (by decide)
      refine lv_iconst (v := 0) hx hb dX6_takeWord_15 (by decide) ?_
      exact x_zret hx hb hr hlk hP hD hS [0, 1] ((t1, t2, t5, t6, t7, t8)) rfl (by decide) rfl ⟨(by first | with_reducible rfl | ((try dsimp only); first | assumption | decide | omega | (simp only [ti_0, ti_1, ti_2, ti_3, ti_4, ti_5, ti_6, ti_7, ti_8, ti_9, ti_10, ti_11, ti_12, ti_m1]; omega))), (by first | with_reducible rfl | ((try dsimp only); first | assumption | decide | omega | (simp only [ti_0, ti_1, ti_2, ti_3, ti_4, ti_5, ti_6, ti_7, ti_8, ti_9, ti_10, ti_11, ti_12, ti_m1]; omega))), (by first | with_reducible rfl | ((try dsimp only); first | assumption | decide | omega | (simp only [ti_0, ti_1, ti_2, ti_3, ti_4, ti_5, ti_6, ti_7, ti_8, ti_9, ti_10, ti_11, ti_12, ti_m1]; omega))), (by (try dsimp only); rw [(show eatsF tx t4.toInt (si : Int) sg = sg from if_neg (by omega))]; assumption), (by (try dsimp only); rw [(show eatsF tx t4.toInt (si : Int) sg = sg from if_neg (by omega))]; assumption), (by (try dsimp only); rw [(show eatsF tx t4.toInt (si : Int) sg = sg from if_neg (by omega))]; assumption), (by (try dsimp only); rw [(show eatsF tx t4.toInt (si : Int) sg = sg from if_neg (by omega))]; assumption), (by (try dsimp only); rw [(show eatsF tx t4.toInt (si : Int) sg = sg from if_neg (by omega))]; assumption), (by (try dsimp only); rw [(show eatsF tx t4.toInt (si : Int) sg = sg from if_neg (by omega))]; assumption), (by first | decide | assumption), (fun h9 => by first | exact absurd (by decide) h9 | omega), (fun h9 => by first | exact absurd h9 (by decide) | omega), trivial⟩ (by decide) (by decide) dX6_takeWord_16
